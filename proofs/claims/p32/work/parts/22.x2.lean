set_option maxRecDepth 100000 in
theorem gf_RX11_61 {p : Program} {l : Launch} {e : Env} {R : Room} {s : State} {m : MethodId} {args : Array Value} {below : List Frame} {meth : Method} {c : Code} {H : Heap} {locs : List Loc} {cells slots : Nat} {Q : State → Prop} {cc : ByteArray} {nL pc : Nat} {D : va_G} {cI cB cZ : ClassId} {ws : va_W} {rest : List Value} {ls : Array Slot} {a : Nat} {fs : List Value} {v : Value} (S : SF p m c cc nL s args RX11) (hK : KK D cI cB cZ s) (hP : va_P D vwCl ws H) (q0 : Nat) (he : ws[q0]? = some (a, .inr (12, fs))) (hv : fs[10]? = some v) (hdg : decode cc pc = .ok (.getfield 61, 3)) (kk : W p l e R s m args below meth c H locs cells slots Q (F0 m (pc + 3) ls (v :: rest))) : W p l e R s m args below meth c H locs cells slots Q (F0 m pc ls (.ref a :: rest)) :=
  va_get (C := RX11) (T := TX11) (N := 16) S.1 S.2.1 S.2.2.2.2 hin_RX11 S.2.2.2.1 hK.1 hP q0 he rfl 10 (by decide) (S.2.2.2.2 _ (wk2_0 6 rfl rfl)) (fun _ h9 => h9) hv hdg kk
set_option maxRecDepth 100000 in
theorem kV_RX11_84 : CalV RX11 84 yJx4a65c_size_8abf5 cJx4a65c_size_8abf5 1 (some .int) 0 := ⟨⟨wk2_4 11 rfl rfl, wk2_5 0 rfl rfl, wk2_5 1 rfl rfl, wk1_1 0 rfl rfl, wk2_5 2 rfl rfl⟩, ⟨nmh_21.1, nmh_21.2, pd_1⟩⟩
set_option maxRecDepth 100000 in
theorem kV_RX11_87 : CalV RX11 87 yJx4a65c_get_915e3 cJx4a65c_get_915e3 2 (some (.object "java/lang/Object")) 1 := ⟨⟨wk2_15 1 rfl rfl, wk2_15 2 rfl rfl, wk2_15 3 rfl rfl, wk1_1 0 rfl rfl, wk2_15 4 rfl rfl⟩, ⟨nmh_21.1, nmh_21.2, pd_13⟩⟩
set_option maxRecDepth 100000 in
theorem gf_RX11_65 {p : Program} {l : Launch} {e : Env} {R : Room} {s : State} {m : MethodId} {args : Array Value} {below : List Frame} {meth : Method} {c : Code} {H : Heap} {locs : List Loc} {cells slots : Nat} {Q : State → Prop} {cc : ByteArray} {nL pc : Nat} {D : va_G} {cI cB cZ : ClassId} {ws : va_W} {rest : List Value} {ls : Array Slot} {a : Nat} {fs : List Value} {v : Value} (S : SF p m c cc nL s args RX11) (hK : KK D cI cB cZ s) (hP : va_P D vwCl ws H) (q0 : Nat) (he : ws[q0]? = some (a, .inr (12, fs))) (hv : fs[11]? = some v) (hdg : decode cc pc = .ok (.getfield 65, 3)) (kk : W p l e R s m args below meth c H locs cells slots Q (F0 m (pc + 3) ls (v :: rest))) : W p l e R s m args below meth c H locs cells slots Q (F0 m pc ls (.ref a :: rest)) :=
  va_get (C := RX11) (T := TX11) (N := 16) S.1 S.2.1 S.2.2.2.2 hin_RX11 S.2.2.2.1 hK.1 hP q0 he rfl 11 (by decide) (S.2.2.2.2 _ (wk2_0 7 rfl rfl)) (fun _ h9 => h9) hv hdg kk
set_option maxRecDepth 100000 in
theorem gf_RX11_68 {p : Program} {l : Launch} {e : Env} {R : Room} {s : State} {m : MethodId} {args : Array Value} {below : List Frame} {meth : Method} {c : Code} {H : Heap} {locs : List Loc} {cells slots : Nat} {Q : State → Prop} {cc : ByteArray} {nL pc : Nat} {D : va_G} {cI cB cZ : ClassId} {ws : va_W} {rest : List Value} {ls : Array Slot} {a : Nat} {fs : List Value} {v : Value} (S : SF p m c cc nL s args RX11) (hK : KK D cI cB cZ s) (hP : va_P D vwCl ws H) (q0 : Nat) (he : ws[q0]? = some (a, .inr (12, fs))) (hv : fs[12]? = some v) (hdg : decode cc pc = .ok (.getfield 68, 3)) (kk : W p l e R s m args below meth c H locs cells slots Q (F0 m (pc + 3) ls (v :: rest))) : W p l e R s m args below meth c H locs cells slots Q (F0 m pc ls (.ref a :: rest)) :=
  va_get (C := RX11) (T := TX11) (N := 16) S.1 S.2.1 S.2.2.2.2 hin_RX11 S.2.2.2.1 hK.1 hP q0 he rfl 12 (by decide) (S.2.2.2.2 _ (wk2_0 8 rfl rfl)) (fun _ h9 => h9) hv hdg kk
set_option maxRecDepth 100000 in
theorem gf_RX11_71 {p : Program} {l : Launch} {e : Env} {R : Room} {s : State} {m : MethodId} {args : Array Value} {below : List Frame} {meth : Method} {c : Code} {H : Heap} {locs : List Loc} {cells slots : Nat} {Q : State → Prop} {cc : ByteArray} {nL pc : Nat} {D : va_G} {cI cB cZ : ClassId} {ws : va_W} {rest : List Value} {ls : Array Slot} {a : Nat} {fs : List Value} {v : Value} (S : SF p m c cc nL s args RX11) (hK : KK D cI cB cZ s) (hP : va_P D vwCl ws H) (q0 : Nat) (he : ws[q0]? = some (a, .inr (12, fs))) (hv : fs[13]? = some v) (hdg : decode cc pc = .ok (.getfield 71, 3)) (kk : W p l e R s m args below meth c H locs cells slots Q (F0 m (pc + 3) ls (v :: rest))) : W p l e R s m args below meth c H locs cells slots Q (F0 m pc ls (.ref a :: rest)) :=
  va_get (C := RX11) (T := TX11) (N := 16) S.1 S.2.1 S.2.2.2.2 hin_RX11 S.2.2.2.1 hK.1 hP q0 he rfl 13 (by decide) (S.2.2.2.2 _ (wk2_0 9 rfl rfl)) (fun _ h9 => h9) hv hdg kk
set_option maxRecDepth 100000 in
theorem hin_RX1 : ∀ w ∈ u_ws RX1 TX1 11, w ∈ wT := hin_all (C := RX1) (T := TX1) (n := 11) (hin_s (hin_s (hin_s (hin_s (hin_s (hin_s (hin_s (hin_s (hin_s (hin_s (hin_s (fun k hk => absurd hk (Nat.not_lt_zero k)) (wk2_7 7 rfl rfl)) (wk2_7 9 rfl rfl)) (wk2_7 11 rfl rfl)) (wk2_8 1 rfl rfl)) (wk2_8 3 rfl rfl)) (wk2_8 5 rfl rfl)) (wk2_8 7 rfl rfl)) (wk2_8 9 rfl rfl)) (wk2_8 11 rfl rfl)) (wk2_9 1 rfl rfl)) (wk2_9 3 rfl rfl))
set_option maxRecDepth 100000 in
theorem gf_RX1_19 {p : Program} {l : Launch} {e : Env} {R : Room} {s : State} {m : MethodId} {args : Array Value} {below : List Frame} {meth : Method} {c : Code} {H : Heap} {locs : List Loc} {cells slots : Nat} {Q : State → Prop} {cc : ByteArray} {nL pc : Nat} {D : va_G} {cI cB cZ : ClassId} {ws : va_W} {rest : List Value} {ls : Array Slot} {a : Nat} {fs : List Value} {v : Value} (S : SF p m c cc nL s args RX1) (hK : KK D cI cB cZ s) (hP : va_P D vwCl ws H) (q0 : Nat) (he : ws[q0]? = some (a, .inr (2, fs))) (hv : fs[3]? = some v) (hdg : decode cc pc = .ok (.getfield 19, 3)) (kk : W p l e R s m args below meth c H locs cells slots Q (F0 m (pc + 3) ls (v :: rest))) : W p l e R s m args below meth c H locs cells slots Q (F0 m pc ls (.ref a :: rest)) :=
  va_get (C := RX1) (T := TX1) (N := 11) S.1 S.2.1 S.2.2.2.2 hin_RX1 S.2.2.2.1 hK.1 hP q0 he rfl 3 (by decide) (S.2.2.2.2 _ (wk2_6 7 rfl rfl)) (fun _ h9 => h9) hv hdg kk
set_option maxRecDepth 100000 in
theorem gf_RX1_16 {p : Program} {l : Launch} {e : Env} {R : Room} {s : State} {m : MethodId} {args : Array Value} {below : List Frame} {meth : Method} {c : Code} {H : Heap} {locs : List Loc} {cells slots : Nat} {Q : State → Prop} {cc : ByteArray} {nL pc : Nat} {D : va_G} {cI cB cZ : ClassId} {ws : va_W} {rest : List Value} {ls : Array Slot} {a : Nat} {fs : List Value} {v : Value} (S : SF p m c cc nL s args RX1) (hK : KK D cI cB cZ s) (hP : va_P D vwCl ws H) (q0 : Nat) (he : ws[q0]? = some (a, .inr (2, fs))) (hv : fs[2]? = some v) (hdg : decode cc pc = .ok (.getfield 16, 3)) (kk : W p l e R s m args below meth c H locs cells slots Q (F0 m (pc + 3) ls (v :: rest))) : W p l e R s m args below meth c H locs cells slots Q (F0 m pc ls (.ref a :: rest)) :=
  va_get (C := RX1) (T := TX1) (N := 11) S.1 S.2.1 S.2.2.2.2 hin_RX1 S.2.2.2.1 hK.1 hP q0 he rfl 2 (by decide) (S.2.2.2.2 _ (wk2_6 5 rfl rfl)) (fun _ h9 => h9) hv hdg kk
set_option maxRecDepth 100000 in
theorem gf_RX1_37 {p : Program} {l : Launch} {e : Env} {R : Room} {s : State} {m : MethodId} {args : Array Value} {below : List Frame} {meth : Method} {c : Code} {H : Heap} {locs : List Loc} {cells slots : Nat} {Q : State → Prop} {cc : ByteArray} {nL pc : Nat} {D : va_G} {cI cB cZ : ClassId} {ws : va_W} {rest : List Value} {ls : Array Slot} {a : Nat} {fs : List Value} {v : Value} (S : SF p m c cc nL s args RX1) (hK : KK D cI cB cZ s) (hP : va_P D vwCl ws H) (q0 : Nat) (he : ws[q0]? = some (a, .inr (2, fs))) (hv : fs[7]? = some v) (hdg : decode cc pc = .ok (.getfield 37, 3)) (kk : W p l e R s m args below meth c H locs cells slots Q (F0 m (pc + 3) ls (v :: rest))) : W p l e R s m args below meth c H locs cells slots Q (F0 m pc ls (.ref a :: rest)) :=
  va_get (C := RX1) (T := TX1) (N := 11) S.1 S.2.1 S.2.2.2.2 hin_RX1 S.2.2.2.1 hK.1 hP q0 he rfl 7 (by decide) (S.2.2.2.2 _ (wk2_7 0 rfl rfl)) (fun _ h9 => h9) hv hdg kk
set_option maxRecDepth 100000 in
theorem gf_RX1_40 {p : Program} {l : Launch} {e : Env} {R : Room} {s : State} {m : MethodId} {args : Array Value} {below : List Frame} {meth : Method} {c : Code} {H : Heap} {locs : List Loc} {cells slots : Nat} {Q : State → Prop} {cc : ByteArray} {nL pc : Nat} {D : va_G} {cI cB cZ : ClassId} {ws : va_W} {rest : List Value} {ls : Array Slot} {a : Nat} {fs : List Value} {v : Value} (S : SF p m c cc nL s args RX1) (hK : KK D cI cB cZ s) (hP : va_P D vwCl ws H) (q0 : Nat) (he : ws[q0]? = some (a, .inr (2, fs))) (hv : fs[8]? = some v) (hdg : decode cc pc = .ok (.getfield 40, 3)) (kk : W p l e R s m args below meth c H locs cells slots Q (F0 m (pc + 3) ls (v :: rest))) : W p l e R s m args below meth c H locs cells slots Q (F0 m pc ls (.ref a :: rest)) :=
  va_get (C := RX1) (T := TX1) (N := 11) S.1 S.2.1 S.2.2.2.2 hin_RX1 S.2.2.2.1 hK.1 hP q0 he rfl 8 (by decide) (S.2.2.2.2 _ (wk2_7 2 rfl rfl)) (fun _ h9 => h9) hv hdg kk
set_option maxRecDepth 100000 in
theorem kV_RX11_114 : CalV RX11 114 yX11_kitchenAt cX11_kitchenAt 2 (some (.object "OilHome$Kitchen")) 1 := ⟨⟨wk2_14 9 rfl rfl, wk2_14 11 rfl rfl, wT_sel 3 _ rfl rfl rfl, wk1_0 1 rfl rfl, wk2_15 0 rfl rfl⟩, ⟨nmh_0.1, nmh_0.2, pd_10⟩⟩
set_option maxRecDepth 100000 in
theorem gf_RX11_118 {p : Program} {l : Launch} {e : Env} {R : Room} {s : State} {m : MethodId} {args : Array Value} {below : List Frame} {meth : Method} {c : Code} {H : Heap} {locs : List Loc} {cells slots : Nat} {Q : State → Prop} {cc : ByteArray} {nL pc : Nat} {D : va_G} {cI cB cZ : ClassId} {ws : va_W} {rest : List Value} {ls : Array Slot} {a : Nat} {fs : List Value} {v : Value} (S : SF p m c cc nL s args RX11) (hK : KK D cI cB cZ s) (hP : va_P D vwCl ws H) (q0 : Nat) (he : ws[q0]? = some (a, .inr (2, fs))) (hv : fs[4]? = some v) (hdg : decode cc pc = .ok (.getfield 118, 3)) (kk : W p l e R s m args below meth c H locs cells slots Q (F0 m (pc + 3) ls (v :: rest))) : W p l e R s m args below meth c H locs cells slots Q (F0 m pc ls (.ref a :: rest)) :=
  va_get (C := RX1) (T := TX1) (N := 11) S.1 S.2.1 S.2.2.2.2 hin_RX1 S.2.2.2.1 hK.1 hP q0 he rfl 4 (by decide) (S.2.2.2.2 _ (wk2_6 9 rfl rfl)) (fun _ h9 => h9) hv hdg kk
set_option maxRecDepth 100000 in
theorem kV_RX11_121 : CalV RX11 121 yX1_fillOn cX1_fillOn 3 (some .int) 2 := ⟨⟨wk2_16 3 rfl rfl, wk2_16 4 rfl rfl, wk2_16 5 rfl rfl, wk1_1 2 rfl rfl, wk2_16 6 rfl rfl⟩, ⟨nmh_2.1, nmh_2.2, pd_17⟩⟩
set_option maxRecDepth 100000 in
theorem kV_RX11_148 : CalV RX11 148 yX11_loadAt cX11_loadAt 2 (some (.object "OilHome$Load")) 1 := ⟨⟨wk3_2 5 rfl rfl, wk3_2 7 rfl rfl, wT_sel 4 _ rfl rfl rfl, wk1_0 1 rfl rfl, wk3_2 8 rfl rfl⟩, ⟨nmh_0.1, nmh_0.2, pd_11⟩⟩
set_option maxRecDepth 100000 in
theorem hin_RX2 : ∀ w ∈ u_ws RX2 TX2 10, w ∈ wT := hin_all (C := RX2) (T := TX2) (n := 10) (hin_s (hin_s (hin_s (hin_s (hin_s (hin_s (hin_s (hin_s (hin_s (hin_s (fun k hk => absurd hk (Nat.not_lt_zero k)) (wk2_19 1 rfl rfl)) (wk2_19 3 rfl rfl)) (wk2_19 5 rfl rfl)) (wk2_19 7 rfl rfl)) (wk2_19 9 rfl rfl)) (wk2_19 11 rfl rfl)) (wk3_0 1 rfl rfl)) (wk3_0 3 rfl rfl)) (wk3_0 5 rfl rfl)) (wk3_0 7 rfl rfl))
set_option maxRecDepth 100000 in
theorem gf_RX11_141 {p : Program} {l : Launch} {e : Env} {R : Room} {s : State} {m : MethodId} {args : Array Value} {below : List Frame} {meth : Method} {c : Code} {H : Heap} {locs : List Loc} {cells slots : Nat} {Q : State → Prop} {cc : ByteArray} {nL pc : Nat} {D : va_G} {cI cB cZ : ClassId} {ws : va_W} {rest : List Value} {ls : Array Slot} {a : Nat} {fs : List Value} {v : Value} (S : SF p m c cc nL s args RX11) (hK : KK D cI cB cZ s) (hP : va_P D vwCl ws H) (q0 : Nat) (he : ws[q0]? = some (a, .inr (3, fs))) (hv : fs[8]? = some v) (hdg : decode cc pc = .ok (.getfield 141, 3)) (kk : W p l e R s m args below meth c H locs cells slots Q (F0 m (pc + 3) ls (v :: rest))) : W p l e R s m args below meth c H locs cells slots Q (F0 m pc ls (.ref a :: rest)) :=
  va_get (C := RX2) (T := TX2) (N := 10) S.1 S.2.1 S.2.2.2.2 hin_RX2 S.2.2.2.1 hK.1 hP q0 he rfl 8 (by decide) (S.2.2.2.2 _ (wk2_18 11 rfl rfl)) (fun _ h9 => h9) hv hdg kk
set_option maxRecDepth 100000 in
theorem pf_RX11_260 {p : Program} {l : Launch} {e : Env} {R : Room} {s : State} {m : MethodId} {args : Array Value} {below : List Frame} {meth : Method} {c : Code} {H : Heap} {locs : List Loc} {cells slots : Nat} {Q : State → Prop} {cc : ByteArray} {nL pc : Nat} {D : va_G} {cI cB cZ : ClassId} {ws : va_W} {rest : List Value} {ls : Array Slot} {a : Nat} {fs : List Value} {v : Value} {A : Nat → Prop} {H0 : Heap} (S : SF p m c cc nL s args RX11) (hK : KK D cI cB cZ s) (hP : va_P D vwCl ws H) (hD : va_D A ws) (hS : va_S A H0 H locs) (q0 : Nat) (he : ws[q0]? = some (a, .inr (2, fs))) (hl : 9 < fs.length) (hn : narrow (tyX1 9) v = v) (hfit : fits (tyX1 9) v = true) (hdg : decode cc pc = .ok (.putfield 260, 3)) (kk : ∀ (H1 : Heap) (locs1 : List Loc), va_P D vwCl (ws.set q0 (a, .inr (2, fs.set 9 v))) H1 → va_D A (ws.set q0 (a, .inr (2, fs.set 9 v))) → va_S A H0 H1 locs1 → W p l e R s m args below meth c H1 locs1 cells slots Q (F0 m (pc + 3) ls rest)) : W p l e R s m args below meth c H locs cells slots Q (F0 m pc ls (v :: .ref a :: rest)) :=
  va_put (C := RX1) (T := TX1) (N := 11) S.1 S.2.1 S.2.2.2.2 hin_RX1 tyX1 tyX1_ok nmX1 S.2.2.2.1 hK.1 hP hD hS q0 he rfl 9 (by decide) (S.2.2.2.2 _ (wk2_7 4 rfl rfl)) (fun _ h9 => h9) rfl (tyX1_ok 9 (by decide)) hn hfit hl hdg kk
set_option maxRecDepth 100000 in
theorem pf_RX11_450 {p : Program} {l : Launch} {e : Env} {R : Room} {s : State} {m : MethodId} {args : Array Value} {below : List Frame} {meth : Method} {c : Code} {H : Heap} {locs : List Loc} {cells slots : Nat} {Q : State → Prop} {cc : ByteArray} {nL pc : Nat} {D : va_G} {cI cB cZ : ClassId} {ws : va_W} {rest : List Value} {ls : Array Slot} {a : Nat} {fs : List Value} {v : Value} {A : Nat → Prop} {H0 : Heap} (S : SF p m c cc nL s args RX11) (hK : KK D cI cB cZ s) (hP : va_P D vwCl ws H) (hD : va_D A ws) (hS : va_S A H0 H locs) (q0 : Nat) (he : ws[q0]? = some (a, .inr (2, fs))) (hl : 7 < fs.length) (hn : narrow (tyX1 7) v = v) (hfit : fits (tyX1 7) v = true) (hdg : decode cc pc = .ok (.putfield 450, 3)) (kk : ∀ (H1 : Heap) (locs1 : List Loc), va_P D vwCl (ws.set q0 (a, .inr (2, fs.set 7 v))) H1 → va_D A (ws.set q0 (a, .inr (2, fs.set 7 v))) → va_S A H0 H1 locs1 → W p l e R s m args below meth c H1 locs1 cells slots Q (F0 m (pc + 3) ls rest)) : W p l e R s m args below meth c H locs cells slots Q (F0 m pc ls (v :: .ref a :: rest)) :=
  va_put (C := RX1) (T := TX1) (N := 11) S.1 S.2.1 S.2.2.2.2 hin_RX1 tyX1 tyX1_ok nmX1 S.2.2.2.1 hK.1 hP hD hS q0 he rfl 7 (by decide) (S.2.2.2.2 _ (wk2_7 1 rfl rfl)) (fun _ h9 => h9) rfl (tyX1_ok 7 (by decide)) hn hfit hl hdg kk
set_option maxRecDepth 100000 in
theorem pf_RX11_453 {p : Program} {l : Launch} {e : Env} {R : Room} {s : State} {m : MethodId} {args : Array Value} {below : List Frame} {meth : Method} {c : Code} {H : Heap} {locs : List Loc} {cells slots : Nat} {Q : State → Prop} {cc : ByteArray} {nL pc : Nat} {D : va_G} {cI cB cZ : ClassId} {ws : va_W} {rest : List Value} {ls : Array Slot} {a : Nat} {fs : List Value} {v : Value} {A : Nat → Prop} {H0 : Heap} (S : SF p m c cc nL s args RX11) (hK : KK D cI cB cZ s) (hP : va_P D vwCl ws H) (hD : va_D A ws) (hS : va_S A H0 H locs) (q0 : Nat) (he : ws[q0]? = some (a, .inr (2, fs))) (hl : 8 < fs.length) (hn : narrow (tyX1 8) v = v) (hfit : fits (tyX1 8) v = true) (hdg : decode cc pc = .ok (.putfield 453, 3)) (kk : ∀ (H1 : Heap) (locs1 : List Loc), va_P D vwCl (ws.set q0 (a, .inr (2, fs.set 8 v))) H1 → va_D A (ws.set q0 (a, .inr (2, fs.set 8 v))) → va_S A H0 H1 locs1 → W p l e R s m args below meth c H1 locs1 cells slots Q (F0 m (pc + 3) ls rest)) : W p l e R s m args below meth c H locs cells slots Q (F0 m pc ls (v :: .ref a :: rest)) :=
  va_put (C := RX1) (T := TX1) (N := 11) S.1 S.2.1 S.2.2.2.2 hin_RX1 tyX1 tyX1_ok nmX1 S.2.2.2.1 hK.1 hP hD hS q0 he rfl 8 (by decide) (S.2.2.2.2 _ (wk2_7 3 rfl rfl)) (fun _ h9 => h9) rfl (tyX1_ok 8 (by decide)) hn hfit hl hdg kk
set_option maxRecDepth 100000 in
theorem hin_RX10 : ∀ w ∈ u_ws RX10 TX10 7, w ∈ wT := hin_all (C := RX10) (T := TX10) (n := 7) (hin_s (hin_s (hin_s (hin_s (hin_s (hin_s (hin_s (fun k hk => absurd hk (Nat.not_lt_zero k)) (wk1_16 3 rfl rfl)) (wk1_16 5 rfl rfl)) (wk1_16 7 rfl rfl)) (wk1_16 9 rfl rfl)) (wk1_16 11 rfl rfl)) (wk1_17 1 rfl rfl)) (wk1_17 3 rfl rfl))
set_option maxRecDepth 100000 in
theorem pf_RX10_36 {p : Program} {l : Launch} {e : Env} {R : Room} {s : State} {m : MethodId} {args : Array Value} {below : List Frame} {meth : Method} {c : Code} {H : Heap} {locs : List Loc} {cells slots : Nat} {Q : State → Prop} {cc : ByteArray} {nL pc : Nat} {D : va_G} {cI cB cZ : ClassId} {ws : va_W} {rest : List Value} {ls : Array Slot} {a : Nat} {fs : List Value} {v : Value} {A : Nat → Prop} {H0 : Heap} (S : SF p m c cc nL s args RX10) (hK : KK D cI cB cZ s) (hP : va_P D vwCl ws H) (hD : va_D A ws) (hS : va_S A H0 H locs) (q0 : Nat) (he : ws[q0]? = some (a, .inr (11, fs))) (hl : 6 < fs.length) (hn : narrow (tyX10 6) v = v) (hfit : fits (tyX10 6) v = true) (hdg : decode cc pc = .ok (.putfield 36, 3)) (kk : ∀ (H1 : Heap) (locs1 : List Loc), va_P D vwCl (ws.set q0 (a, .inr (11, fs.set 6 v))) H1 → va_D A (ws.set q0 (a, .inr (11, fs.set 6 v))) → va_S A H0 H1 locs1 → W p l e R s m args below meth c H1 locs1 cells slots Q (F0 m (pc + 3) ls rest)) : W p l e R s m args below meth c H locs cells slots Q (F0 m pc ls (v :: .ref a :: rest)) :=
  va_put (C := RX10) (T := TX10) (N := 7) S.1 S.2.1 S.2.2.2.2 hin_RX10 tyX10 tyX10_ok nmX10 S.2.2.2.1 hK.1 hP hD hS q0 he rfl 6 (by decide) (S.2.2.2.2 _ (wk1_16 1 rfl rfl)) (fun _ h9 => h9) rfl (tyX10_ok 6 (by decide)) hn hfit hl hdg kk
set_option maxRecDepth 100000 in
theorem gf_RX10_9 {p : Program} {l : Launch} {e : Env} {R : Room} {s : State} {m : MethodId} {args : Array Value} {below : List Frame} {meth : Method} {c : Code} {H : Heap} {locs : List Loc} {cells slots : Nat} {Q : State → Prop} {cc : ByteArray} {nL pc : Nat} {D : va_G} {cI cB cZ : ClassId} {ws : va_W} {rest : List Value} {ls : Array Slot} {a : Nat} {fs : List Value} {v : Value} (S : SF p m c cc nL s args RX10) (hK : KK D cI cB cZ s) (hP : va_P D vwCl ws H) (q0 : Nat) (he : ws[q0]? = some (a, .inr (11, fs))) (hv : fs[0]? = some v) (hdg : decode cc pc = .ok (.getfield 9, 3)) (kk : W p l e R s m args below meth c H locs cells slots Q (F0 m (pc + 3) ls (v :: rest))) : W p l e R s m args below meth c H locs cells slots Q (F0 m pc ls (.ref a :: rest)) :=
  va_get (C := RX10) (T := TX10) (N := 7) S.1 S.2.1 S.2.2.2.2 hin_RX10 S.2.2.2.1 hK.1 hP q0 he rfl 0 (by decide) (S.2.2.2.2 _ (wk1_15 5 rfl rfl)) (fun _ h9 => h9) hv hdg kk
set_option maxRecDepth 100000 in
theorem gf_RX10_36 {p : Program} {l : Launch} {e : Env} {R : Room} {s : State} {m : MethodId} {args : Array Value} {below : List Frame} {meth : Method} {c : Code} {H : Heap} {locs : List Loc} {cells slots : Nat} {Q : State → Prop} {cc : ByteArray} {nL pc : Nat} {D : va_G} {cI cB cZ : ClassId} {ws : va_W} {rest : List Value} {ls : Array Slot} {a : Nat} {fs : List Value} {v : Value} (S : SF p m c cc nL s args RX10) (hK : KK D cI cB cZ s) (hP : va_P D vwCl ws H) (q0 : Nat) (he : ws[q0]? = some (a, .inr (11, fs))) (hv : fs[6]? = some v) (hdg : decode cc pc = .ok (.getfield 36, 3)) (kk : W p l e R s m args below meth c H locs cells slots Q (F0 m (pc + 3) ls (v :: rest))) : W p l e R s m args below meth c H locs cells slots Q (F0 m pc ls (.ref a :: rest)) :=
  va_get (C := RX10) (T := TX10) (N := 7) S.1 S.2.1 S.2.2.2.2 hin_RX10 S.2.2.2.1 hK.1 hP q0 he rfl 6 (by decide) (S.2.2.2.2 _ (wk1_16 1 rfl rfl)) (fun _ h9 => h9) hv hdg kk
set_option maxRecDepth 100000 in
theorem kS_RX10_40 : CalS RX10 40 yX7_put cX7_put 3 none 3 := ⟨⟨wk4_8 7 rfl rfl, wk3_1 11 rfl rfl, wk1_0 7 rfl rfl, wk3_2 0 rfl rfl⟩, ⟨nmh_8.1, nmh_8.2, pd_69⟩⟩
set_option maxRecDepth 100000 in
theorem gf_RX10_15 {p : Program} {l : Launch} {e : Env} {R : Room} {s : State} {m : MethodId} {args : Array Value} {below : List Frame} {meth : Method} {c : Code} {H : Heap} {locs : List Loc} {cells slots : Nat} {Q : State → Prop} {cc : ByteArray} {nL pc : Nat} {D : va_G} {cI cB cZ : ClassId} {ws : va_W} {rest : List Value} {ls : Array Slot} {a : Nat} {fs : List Value} {v : Value} (S : SF p m c cc nL s args RX10) (hK : KK D cI cB cZ s) (hP : va_P D vwCl ws H) (q0 : Nat) (he : ws[q0]? = some (a, .inr (11, fs))) (hv : fs[1]? = some v) (hdg : decode cc pc = .ok (.getfield 15, 3)) (kk : W p l e R s m args below meth c H locs cells slots Q (F0 m (pc + 3) ls (v :: rest))) : W p l e R s m args below meth c H locs cells slots Q (F0 m pc ls (.ref a :: rest)) :=
  va_get (C := RX10) (T := TX10) (N := 7) S.1 S.2.1 S.2.2.2.2 hin_RX10 S.2.2.2.1 hK.1 hP q0 he rfl 1 (by decide) (S.2.2.2.2 _ (wk1_15 7 rfl rfl)) (fun _ h9 => h9) hv hdg kk
set_option maxRecDepth 100000 in
theorem gf_RX10_18 {p : Program} {l : Launch} {e : Env} {R : Room} {s : State} {m : MethodId} {args : Array Value} {below : List Frame} {meth : Method} {c : Code} {H : Heap} {locs : List Loc} {cells slots : Nat} {Q : State → Prop} {cc : ByteArray} {nL pc : Nat} {D : va_G} {cI cB cZ : ClassId} {ws : va_W} {rest : List Value} {ls : Array Slot} {a : Nat} {fs : List Value} {v : Value} (S : SF p m c cc nL s args RX10) (hK : KK D cI cB cZ s) (hP : va_P D vwCl ws H) (q0 : Nat) (he : ws[q0]? = some (a, .inr (11, fs))) (hv : fs[2]? = some v) (hdg : decode cc pc = .ok (.getfield 18, 3)) (kk : W p l e R s m args below meth c H locs cells slots Q (F0 m (pc + 3) ls (v :: rest))) : W p l e R s m args below meth c H locs cells slots Q (F0 m pc ls (.ref a :: rest)) :=
  va_get (C := RX10) (T := TX10) (N := 7) S.1 S.2.1 S.2.2.2.2 hin_RX10 S.2.2.2.1 hK.1 hP q0 he rfl 2 (by decide) (S.2.2.2.2 _ (wk1_15 9 rfl rfl)) (fun _ h9 => h9) hv hdg kk
set_option maxRecDepth 100000 in
theorem gf_RX10_46 {p : Program} {l : Launch} {e : Env} {R : Room} {s : State} {m : MethodId} {args : Array Value} {below : List Frame} {meth : Method} {c : Code} {H : Heap} {locs : List Loc} {cells slots : Nat} {Q : State → Prop} {cc : ByteArray} {nL pc : Nat} {D : va_G} {cI cB cZ : ClassId} {ws : va_W} {rest : List Value} {ls : Array Slot} {a : Nat} {fs : List Value} {v : Value} (S : SF p m c cc nL s args RX10) (hK : KK D cI cB cZ s) (hP : va_P D vwCl ws H) (q0 : Nat) (he : ws[q0]? = some (a, .inr (2, fs))) (hv : fs[0]? = some v) (hdg : decode cc pc = .ok (.getfield 46, 3)) (kk : W p l e R s m args below meth c H locs cells slots Q (F0 m (pc + 3) ls (v :: rest))) : W p l e R s m args below meth c H locs cells slots Q (F0 m pc ls (.ref a :: rest)) :=
  va_get (C := RX1) (T := TX1) (N := 11) S.1 S.2.1 S.2.2.2.2 hin_RX1 S.2.2.2.1 hK.1 hP q0 he rfl 0 (by decide) (S.2.2.2.2 _ (wk2_6 0 rfl rfl)) (fun _ h9 => h9) hv hdg kk
set_option maxRecDepth 100000 in
theorem gf_RX10_21 {p : Program} {l : Launch} {e : Env} {R : Room} {s : State} {m : MethodId} {args : Array Value} {below : List Frame} {meth : Method} {c : Code} {H : Heap} {locs : List Loc} {cells slots : Nat} {Q : State → Prop} {cc : ByteArray} {nL pc : Nat} {D : va_G} {cI cB cZ : ClassId} {ws : va_W} {rest : List Value} {ls : Array Slot} {a : Nat} {fs : List Value} {v : Value} (S : SF p m c cc nL s args RX10) (hK : KK D cI cB cZ s) (hP : va_P D vwCl ws H) (q0 : Nat) (he : ws[q0]? = some (a, .inr (11, fs))) (hv : fs[3]? = some v) (hdg : decode cc pc = .ok (.getfield 21, 3)) (kk : W p l e R s m args below meth c H locs cells slots Q (F0 m (pc + 3) ls (v :: rest))) : W p l e R s m args below meth c H locs cells slots Q (F0 m pc ls (.ref a :: rest)) :=
  va_get (C := RX10) (T := TX10) (N := 7) S.1 S.2.1 S.2.2.2.2 hin_RX10 S.2.2.2.1 hK.1 hP q0 he rfl 3 (by decide) (S.2.2.2.2 _ (wk1_15 10 rfl rfl)) (fun _ h9 => h9) hv hdg kk
set_option maxRecDepth 100000 in
theorem gf_RX10_51 {p : Program} {l : Launch} {e : Env} {R : Room} {s : State} {m : MethodId} {args : Array Value} {below : List Frame} {meth : Method} {c : Code} {H : Heap} {locs : List Loc} {cells slots : Nat} {Q : State → Prop} {cc : ByteArray} {nL pc : Nat} {D : va_G} {cI cB cZ : ClassId} {ws : va_W} {rest : List Value} {ls : Array Slot} {a : Nat} {fs : List Value} {v : Value} (S : SF p m c cc nL s args RX10) (hK : KK D cI cB cZ s) (hP : va_P D vwCl ws H) (q0 : Nat) (he : ws[q0]? = some (a, .inr (2, fs))) (hv : fs[1]? = some v) (hdg : decode cc pc = .ok (.getfield 51, 3)) (kk : W p l e R s m args below meth c H locs cells slots Q (F0 m (pc + 3) ls (v :: rest))) : W p l e R s m args below meth c H locs cells slots Q (F0 m pc ls (.ref a :: rest)) :=
  va_get (C := RX1) (T := TX1) (N := 11) S.1 S.2.1 S.2.2.2.2 hin_RX1 S.2.2.2.1 hK.1 hP q0 he rfl 1 (by decide) (S.2.2.2.2 _ (wk2_6 3 rfl rfl)) (fun _ h9 => h9) hv hdg kk
set_option maxRecDepth 100000 in
theorem kS_RX10_54 : CalS RX10 54 yX7_at cX7_at 2 (some .int) 2 := ⟨⟨wk4_10 0 rfl rfl, wk3_1 8 rfl rfl, wk1_0 7 rfl rfl, wk3_1 9 rfl rfl⟩, ⟨nmh_8.1, nmh_8.2, pd_67⟩⟩
set_option maxRecDepth 100000 in
theorem kS_RX10_58 : CalS RX10 58 yX10_way cX10_way 4 (some .int) 4 := ⟨⟨wk4_10 1 rfl rfl, wk4_10 2 rfl rfl, wk1_0 9 rfl rfl, wk4_10 3 rfl rfl⟩, ⟨nmh_11.1, nmh_11.2, pd_27⟩⟩
set_option maxRecDepth 100000 in
theorem kV_RX10_66 : CalV RX10 66 yX10_between cX10_between 3 (some .int) 2 := ⟨⟨wk4_9 8 rfl rfl, wk4_9 10 rfl rfl, wT_sel 34 _ rfl rfl rfl, wk1_0 9 rfl rfl, wk4_9 11 rfl rfl⟩, ⟨nmh_11.1, nmh_11.2, pd_17⟩⟩
set_option maxRecDepth 100000 in
theorem gf_RX10_24 {p : Program} {l : Launch} {e : Env} {R : Room} {s : State} {m : MethodId} {args : Array Value} {below : List Frame} {meth : Method} {c : Code} {H : Heap} {locs : List Loc} {cells slots : Nat} {Q : State → Prop} {cc : ByteArray} {nL pc : Nat} {D : va_G} {cI cB cZ : ClassId} {ws : va_W} {rest : List Value} {ls : Array Slot} {a : Nat} {fs : List Value} {v : Value} (S : SF p m c cc nL s args RX10) (hK : KK D cI cB cZ s) (hP : va_P D vwCl ws H) (q0 : Nat) (he : ws[q0]? = some (a, .inr (11, fs))) (hv : fs[4]? = some v) (hdg : decode cc pc = .ok (.getfield 24, 3)) (kk : W p l e R s m args below meth c H locs cells slots Q (F0 m (pc + 3) ls (v :: rest))) : W p l e R s m args below meth c H locs cells slots Q (F0 m pc ls (.ref a :: rest)) :=
  va_get (C := RX10) (T := TX10) (N := 7) S.1 S.2.1 S.2.2.2.2 hin_RX10 S.2.2.2.1 hK.1 hP q0 he rfl 4 (by decide) (S.2.2.2.2 _ (wk1_15 11 rfl rfl)) (fun _ h9 => h9) hv hdg kk
set_option maxRecDepth 100000 in
theorem kV_RX10_69 : CalV RX10 69 yX10_through cX10_through 5 (some .int) 3 := ⟨⟨wk4_9 4 rfl rfl, wk4_9 6 rfl rfl, wT_sel 33 _ rfl rfl rfl, wk1_0 9 rfl rfl, wk4_9 7 rfl rfl⟩, ⟨nmh_11.1, nmh_11.2, pd_22⟩⟩
set_option maxRecDepth 100000 in
theorem gf_RX10_27 {p : Program} {l : Launch} {e : Env} {R : Room} {s : State} {m : MethodId} {args : Array Value} {below : List Frame} {meth : Method} {c : Code} {H : Heap} {locs : List Loc} {cells slots : Nat} {Q : State → Prop} {cc : ByteArray} {nL pc : Nat} {D : va_G} {cI cB cZ : ClassId} {ws : va_W} {rest : List Value} {ls : Array Slot} {a : Nat} {fs : List Value} {v : Value} (S : SF p m c cc nL s args RX10) (hK : KK D cI cB cZ s) (hP : va_P D vwCl ws H) (q0 : Nat) (he : ws[q0]? = some (a, .inr (11, fs))) (hv : fs[5]? = some v) (hdg : decode cc pc = .ok (.getfield 27, 3)) (kk : W p l e R s m args below meth c H locs cells slots Q (F0 m (pc + 3) ls (v :: rest))) : W p l e R s m args below meth c H locs cells slots Q (F0 m pc ls (.ref a :: rest)) :=
  va_get (C := RX10) (T := TX10) (N := 7) S.1 S.2.1 S.2.2.2.2 hin_RX10 S.2.2.2.1 hK.1 hP q0 he rfl 5 (by decide) (S.2.2.2.2 _ (wk1_16 0 rfl rfl)) (fun _ h9 => h9) hv hdg kk
set_option maxRecDepth 100000 in
theorem kV_RX10_62 : CalV RX10 62 yX10_shortest cX10_shortest 6 (some .int) 2 := ⟨⟨wk4_9 0 rfl rfl, wk4_9 2 rfl rfl, wT_sel 32 _ rfl rfl rfl, wk1_0 9 rfl rfl, wk4_9 3 rfl rfl⟩, ⟨nmh_11.1, nmh_11.2, pd_17⟩⟩
set_option maxRecDepth 100000 in
theorem kV_RX10_73 : CalV RX10 73 yX10_lengthOf cX10_lengthOf 2 (some .int) 1 := ⟨⟨wk4_10 11 rfl rfl, wk4_11 0 rfl rfl, wk4_11 1 rfl rfl, wk1_0 9 rfl rfl, wk4_11 2 rfl rfl⟩, ⟨nmh_11.1, nmh_11.2, pd_8⟩⟩
set_option maxRecDepth 100000 in
theorem kV_RX10_76 : CalV RX10 76 yX10_nextStop cX10_nextStop 5 (some .int) 2 := ⟨⟨wk4_11 7 rfl rfl, wk4_11 9 rfl rfl, wT_sel 35 _ rfl rfl rfl, wk1_0 9 rfl rfl, wk4_11 10 rfl rfl⟩, ⟨nmh_11.1, nmh_11.2, pd_17⟩⟩
set_option maxRecDepth 100000 in
theorem pf_RX11_263 {p : Program} {l : Launch} {e : Env} {R : Room} {s : State} {m : MethodId} {args : Array Value} {below : List Frame} {meth : Method} {c : Code} {H : Heap} {locs : List Loc} {cells slots : Nat} {Q : State → Prop} {cc : ByteArray} {nL pc : Nat} {D : va_G} {cI cB cZ : ClassId} {ws : va_W} {rest : List Value} {ls : Array Slot} {a : Nat} {fs : List Value} {v : Value} {A : Nat → Prop} {H0 : Heap} (S : SF p m c cc nL s args RX11) (hK : KK D cI cB cZ s) (hP : va_P D vwCl ws H) (hD : va_D A ws) (hS : va_S A H0 H locs) (q0 : Nat) (he : ws[q0]? = some (a, .inr (2, fs))) (hl : 5 < fs.length) (hn : narrow (tyX1 5) v = v) (hfit : fits (tyX1 5) v = true) (hdg : decode cc pc = .ok (.putfield 263, 3)) (kk : ∀ (H1 : Heap) (locs1 : List Loc), va_P D vwCl (ws.set q0 (a, .inr (2, fs.set 5 v))) H1 → va_D A (ws.set q0 (a, .inr (2, fs.set 5 v))) → va_S A H0 H1 locs1 → W p l e R s m args below meth c H1 locs1 cells slots Q (F0 m (pc + 3) ls rest)) : W p l e R s m args below meth c H locs cells slots Q (F0 m pc ls (v :: .ref a :: rest)) :=
  va_put (C := RX1) (T := TX1) (N := 11) S.1 S.2.1 S.2.2.2.2 hin_RX1 tyX1 tyX1_ok nmX1 S.2.2.2.1 hK.1 hP hD hS q0 he rfl 5 (by decide) (S.2.2.2.2 _ (wk2_6 10 rfl rfl)) (fun _ h9 => h9) rfl (tyX1_ok 5 (by decide)) hn hfit hl hdg kk
set_option maxRecDepth 100000 in
theorem gf_RX11_54 {p : Program} {l : Launch} {e : Env} {R : Room} {s : State} {m : MethodId} {args : Array Value} {below : List Frame} {meth : Method} {c : Code} {H : Heap} {locs : List Loc} {cells slots : Nat} {Q : State → Prop} {cc : ByteArray} {nL pc : Nat} {D : va_G} {cI cB cZ : ClassId} {ws : va_W} {rest : List Value} {ls : Array Slot} {a : Nat} {fs : List Value} {v : Value} (S : SF p m c cc nL s args RX11) (hK : KK D cI cB cZ s) (hP : va_P D vwCl ws H) (q0 : Nat) (he : ws[q0]? = some (a, .inr (12, fs))) (hv : fs[9]? = some v) (hdg : decode cc pc = .ok (.getfield 54, 3)) (kk : W p l e R s m args below meth c H locs cells slots Q (F0 m (pc + 3) ls (v :: rest))) : W p l e R s m args below meth c H locs cells slots Q (F0 m pc ls (.ref a :: rest)) :=
  va_get (C := RX11) (T := TX11) (N := 16) S.1 S.2.1 S.2.2.2.2 hin_RX11 S.2.2.2.1 hK.1 hP q0 he rfl 9 (by decide) (S.2.2.2.2 _ (wk2_0 5 rfl rfl)) (fun _ h9 => h9) hv hdg kk
set_option maxRecDepth 100000 in
theorem kV_RX11_266 : CalV RX11 266 yX10_clear cX10_clear 1 none 0 := ⟨⟨wk4_7 11 rfl rfl, wk4_8 0 rfl rfl, wk4_8 1 rfl rfl, wk1_0 9 rfl rfl, wk4_8 2 rfl rfl⟩, ⟨nmh_11.1, nmh_11.2, pd_2⟩⟩
theorem frq_4_0_1_2_3_5_10_11_12_13_14_15_20_21_22_23_24_25 {li lf : List Nat} {cn c2 : Nat → Nat} {In I2 : Nat → Int32} {Fn F2 : Nat → Nat → Int32} (h : Fr [4] li lf cn In Fn c2 I2 F2) : c2 0 = cn 0 ∧ c2 1 = cn 1 ∧ c2 2 = cn 2 ∧ c2 3 = cn 3 ∧ c2 5 = cn 5 ∧ c2 10 = cn 10 ∧ c2 11 = cn 11 ∧ c2 12 = cn 12 ∧ c2 13 = cn 13 ∧ c2 14 = cn 14 ∧ c2 15 = cn 15 ∧ c2 20 = cn 20 ∧ c2 21 = cn 21 ∧ c2 22 = cn 22 ∧ c2 23 = cn 23 ∧ c2 24 = cn 24 ∧ c2 25 = cn 25 := ⟨h.1 0 (nml rfl), h.1 1 (nml rfl), h.1 2 (nml rfl), h.1 3 (nml rfl), h.1 5 (nml rfl), h.1 10 (nml rfl), h.1 11 (nml rfl), h.1 12 (nml rfl), h.1 13 (nml rfl), h.1 14 (nml rfl), h.1 15 (nml rfl), h.1 20 (nml rfl), h.1 21 (nml rfl), h.1 22 (nml rfl), h.1 23 (nml rfl), h.1 24 (nml rfl), h.1 25 (nml rfl)⟩
set_option maxRecDepth 100000 in
theorem kV_RX11_273 : CalV RX11 273 yX10_solve cX10_solve 3 none 0 := ⟨⟨wk4_8 8 rfl rfl, wk4_8 9 rfl rfl, wk4_8 10 rfl rfl, wk1_0 9 rfl rfl, wk4_8 11 rfl rfl⟩, ⟨nmh_11.1, nmh_11.2, pd_2⟩⟩
set_option maxRecDepth 100000 in
theorem gf_RX11_263 {p : Program} {l : Launch} {e : Env} {R : Room} {s : State} {m : MethodId} {args : Array Value} {below : List Frame} {meth : Method} {c : Code} {H : Heap} {locs : List Loc} {cells slots : Nat} {Q : State → Prop} {cc : ByteArray} {nL pc : Nat} {D : va_G} {cI cB cZ : ClassId} {ws : va_W} {rest : List Value} {ls : Array Slot} {a : Nat} {fs : List Value} {v : Value} (S : SF p m c cc nL s args RX11) (hK : KK D cI cB cZ s) (hP : va_P D vwCl ws H) (q0 : Nat) (he : ws[q0]? = some (a, .inr (2, fs))) (hv : fs[5]? = some v) (hdg : decode cc pc = .ok (.getfield 263, 3)) (kk : W p l e R s m args below meth c H locs cells slots Q (F0 m (pc + 3) ls (v :: rest))) : W p l e R s m args below meth c H locs cells slots Q (F0 m pc ls (.ref a :: rest)) :=
  va_get (C := RX1) (T := TX1) (N := 11) S.1 S.2.1 S.2.2.2.2 hin_RX1 S.2.2.2.1 hK.1 hP q0 he rfl 5 (by decide) (S.2.2.2.2 _ (wk2_6 10 rfl rfl)) (fun _ h9 => h9) hv hdg kk
set_option maxRecDepth 100000 in
theorem gf_RX11_267 {p : Program} {l : Launch} {e : Env} {R : Room} {s : State} {m : MethodId} {args : Array Value} {below : List Frame} {meth : Method} {c : Code} {H : Heap} {locs : List Loc} {cells slots : Nat} {Q : State → Prop} {cc : ByteArray} {nL pc : Nat} {D : va_G} {cI cB cZ : ClassId} {ws : va_W} {rest : List Value} {ls : Array Slot} {a : Nat} {fs : List Value} {v : Value} (S : SF p m c cc nL s args RX11) (hK : KK D cI cB cZ s) (hP : va_P D vwCl ws H) (q0 : Nat) (he : ws[q0]? = some (a, .inr (11, fs))) (hv : fs[6]? = some v) (hdg : decode cc pc = .ok (.getfield 267, 3)) (kk : W p l e R s m args below meth c H locs cells slots Q (F0 m (pc + 3) ls (v :: rest))) : W p l e R s m args below meth c H locs cells slots Q (F0 m pc ls (.ref a :: rest)) :=
  va_get (C := RX10) (T := TX10) (N := 7) S.1 S.2.1 S.2.2.2.2 hin_RX10 S.2.2.2.1 hK.1 hP q0 he rfl 6 (by decide) (S.2.2.2.2 _ (wk1_16 2 rfl rfl)) (fun _ h9 => h9) hv hdg kk
set_option maxRecDepth 100000 in
theorem kV_RX11_270 : CalV RX11 270 yX10_add cX10_add 4 none 3 := ⟨⟨wk4_8 3 rfl rfl, wk4_8 4 rfl rfl, wk4_8 5 rfl rfl, wk1_0 9 rfl rfl, wk4_8 6 rfl rfl⟩, ⟨nmh_11.1, nmh_11.2, pd_41⟩⟩
set_option maxRecDepth 100000 in
theorem kV_RX11_276 : CalV RX11 276 yX11_startTrial cX11_startTrial 5 (some .boolean) 1 := ⟨⟨wk4_7 3 rfl rfl, wk4_7 5 rfl rfl, wT_sel 30 _ rfl rfl rfl, wk1_0 1 rfl rfl, wk4_7 6 rfl rfl⟩, ⟨nmh_0.1, nmh_0.2, pd_15⟩⟩
set_option maxRecDepth 100000 in
theorem kV_RX11_279 : CalV RX11 279 yX11_gatherStops cX11_gatherStops 7 (some .boolean) 3 := ⟨⟨wk4_7 7 rfl rfl, wk4_7 9 rfl rfl, wT_sel 31 _ rfl rfl rfl, wk1_0 1 rfl rfl, wk4_7 10 rfl rfl⟩, ⟨nmh_0.1, nmh_0.2, pd_26⟩⟩
set_option maxRecDepth 100000 in
theorem kV_RX11_285 : CalV RX11 285 yX10_kitchenInRow cX10_kitchenInRow 5 (some .int) 1 := ⟨⟨wk4_11 3 rfl rfl, wk4_11 4 rfl rfl, wk4_11 5 rfl rfl, wk1_0 9 rfl rfl, wk4_11 6 rfl rfl⟩, ⟨nmh_11.1, nmh_11.2, pd_8⟩⟩
set_option maxRecDepth 100000 in
theorem kV_RX11_282 : CalV RX11 282 yX10_wholeLength cX10_wholeLength 1 (some .int) 0 := ⟨⟨wk4_10 7 rfl rfl, wk4_10 8 rfl rfl, wk4_10 9 rfl rfl, wk1_0 9 rfl rfl, wk4_10 10 rfl rfl⟩, ⟨nmh_11.1, nmh_11.2, pd_1⟩⟩
set_option maxRecDepth 100000 in
theorem gf_RX11_306 {p : Program} {l : Launch} {e : Env} {R : Room} {s : State} {m : MethodId} {args : Array Value} {below : List Frame} {meth : Method} {c : Code} {H : Heap} {locs : List Loc} {cells slots : Nat} {Q : State → Prop} {cc : ByteArray} {nL pc : Nat} {D : va_G} {cI cB cZ : ClassId} {ws : va_W} {rest : List Value} {ls : Array Slot} {a : Nat} {fs : List Value} {v : Value} (S : SF p m c cc nL s args RX11) (hK : KK D cI cB cZ s) (hP : va_P D vwCl ws H) (q0 : Nat) (he : ws[q0]? = some (a, .inr (11, fs))) (hv : fs[0]? = some v) (hdg : decode cc pc = .ok (.getfield 306, 3)) (kk : W p l e R s m args below meth c H locs cells slots Q (F0 m (pc + 3) ls (v :: rest))) : W p l e R s m args below meth c H locs cells slots Q (F0 m pc ls (.ref a :: rest)) :=
  va_get (C := RX10) (T := TX10) (N := 7) S.1 S.2.1 S.2.2.2.2 hin_RX10 S.2.2.2.1 hK.1 hP q0 he rfl 0 (by decide) (S.2.2.2.2 _ (wk1_15 6 rfl rfl)) (fun _ h9 => h9) hv hdg kk
set_option maxRecDepth 100000 in
theorem gf_RX11_308 {p : Program} {l : Launch} {e : Env} {R : Room} {s : State} {m : MethodId} {args : Array Value} {below : List Frame} {meth : Method} {c : Code} {H : Heap} {locs : List Loc} {cells slots : Nat} {Q : State → Prop} {cc : ByteArray} {nL pc : Nat} {D : va_G} {cI cB cZ : ClassId} {ws : va_W} {rest : List Value} {ls : Array Slot} {a : Nat} {fs : List Value} {v : Value} (S : SF p m c cc nL s args RX11) (hK : KK D cI cB cZ s) (hP : va_P D vwCl ws H) (q0 : Nat) (he : ws[q0]? = some (a, .inr (11, fs))) (hv : fs[1]? = some v) (hdg : decode cc pc = .ok (.getfield 308, 3)) (kk : W p l e R s m args below meth c H locs cells slots Q (F0 m (pc + 3) ls (v :: rest))) : W p l e R s m args below meth c H locs cells slots Q (F0 m pc ls (.ref a :: rest)) :=
  va_get (C := RX10) (T := TX10) (N := 7) S.1 S.2.1 S.2.2.2.2 hin_RX10 S.2.2.2.1 hK.1 hP q0 he rfl 1 (by decide) (S.2.2.2.2 _ (wk1_15 8 rfl rfl)) (fun _ h9 => h9) hv hdg kk
set_option maxRecDepth 100000 in
theorem kV_RX11_303 : CalV RX11 303 yX11_emptyStops cX11_emptyStops 5 (some .int) 1 := ⟨⟨wk4_13 5 rfl rfl, wk4_13 7 rfl rfl, wT_sel 37 _ rfl rfl rfl, wk1_0 1 rfl rfl, wk4_13 8 rfl rfl⟩, ⟨nmh_0.1, nmh_0.2, pd_8⟩⟩
set_option maxRecDepth 100000 in
theorem kS_RX11_299 : CalS RX11 299 yX10_way cX10_way 4 (some .int) 4 := ⟨⟨wk4_13 0 rfl rfl, wk4_10 2 rfl rfl, wk1_0 9 rfl rfl, wk4_10 3 rfl rfl⟩, ⟨nmh_11.1, nmh_11.2, pd_27⟩⟩
set_option maxRecDepth 100000 in
theorem kV_RX11_291 : CalV RX11 291 yX8_at cX8_at 2 (some .int) 1 := ⟨⟨wk4_12 7 rfl rfl, wk4_12 8 rfl rfl, wk4_12 9 rfl rfl, wk1_0 4 rfl rfl, wk4_12 10 rfl rfl⟩, ⟨nmh_9.1, nmh_9.2, pd_8⟩⟩
set_option maxRecDepth 100000 in
theorem gf_RX11_293 {p : Program} {l : Launch} {e : Env} {R : Room} {s : State} {m : MethodId} {args : Array Value} {below : List Frame} {meth : Method} {c : Code} {H : Heap} {locs : List Loc} {cells slots : Nat} {Q : State → Prop} {cc : ByteArray} {nL pc : Nat} {D : va_G} {cI cB cZ : ClassId} {ws : va_W} {rest : List Value} {ls : Array Slot} {a : Nat} {fs : List Value} {v : Value} (S : SF p m c cc nL s args RX11) (hK : KK D cI cB cZ s) (hP : va_P D vwCl ws H) (q0 : Nat) (he : ws[q0]? = some (a, .inr (2, fs))) (hv : fs[0]? = some v) (hdg : decode cc pc = .ok (.getfield 293, 3)) (kk : W p l e R s m args below meth c H locs cells slots Q (F0 m (pc + 3) ls (v :: rest))) : W p l e R s m args below meth c H locs cells slots Q (F0 m pc ls (.ref a :: rest)) :=
  va_get (C := RX1) (T := TX1) (N := 11) S.1 S.2.1 S.2.2.2.2 hin_RX1 S.2.2.2.1 hK.1 hP q0 he rfl 0 (by decide) (S.2.2.2.2 _ (wk2_6 1 rfl rfl)) (fun _ h9 => h9) hv hdg kk
set_option maxRecDepth 100000 in
theorem gf_RX11_296 {p : Program} {l : Launch} {e : Env} {R : Room} {s : State} {m : MethodId} {args : Array Value} {below : List Frame} {meth : Method} {c : Code} {H : Heap} {locs : List Loc} {cells slots : Nat} {Q : State → Prop} {cc : ByteArray} {nL pc : Nat} {D : va_G} {cI cB cZ : ClassId} {ws : va_W} {rest : List Value} {ls : Array Slot} {a : Nat} {fs : List Value} {v : Value} (S : SF p m c cc nL s args RX11) (hK : KK D cI cB cZ s) (hP : va_P D vwCl ws H) (q0 : Nat) (he : ws[q0]? = some (a, .inr (2, fs))) (hv : fs[1]? = some v) (hdg : decode cc pc = .ok (.getfield 296, 3)) (kk : W p l e R s m args below meth c H locs cells slots Q (F0 m (pc + 3) ls (v :: rest))) : W p l e R s m args below meth c H locs cells slots Q (F0 m pc ls (.ref a :: rest)) :=
  va_get (C := RX1) (T := TX1) (N := 11) S.1 S.2.1 S.2.2.2.2 hin_RX1 S.2.2.2.1 hK.1 hP q0 he rfl 1 (by decide) (S.2.2.2.2 _ (wk2_6 4 rfl rfl)) (fun _ h9 => h9) hv hdg kk
set_option maxRecDepth 100000 in
theorem kV_RX11_288 : CalV RX11 288 yX11_drivenLength cX11_drivenLength 7 (some .int) 1 := ⟨⟨wk4_12 3 rfl rfl, wk4_12 5 rfl rfl, wT_sel 36 _ rfl rfl rfl, wk1_0 1 rfl rfl, wk4_12 6 rfl rfl⟩, ⟨nmh_0.1, nmh_0.2, pd_8⟩⟩
set_option maxRecDepth 100000 in
theorem kV_RX11_162 : CalV RX11 162 yX8_clear cX8_clear 1 none 0 := ⟨⟨wk3_17 7 rfl rfl, wk3_17 8 rfl rfl, wk3_17 9 rfl rfl, wk1_0 4 rfl rfl, wk3_17 10 rfl rfl⟩, ⟨nmh_9.1, nmh_9.2, pd_2⟩⟩
noncomputable def sxX11_kitchenAt_31 : List UInt8 := []
noncomputable def sxX11_kitchenAt_30 : List UInt8 := 176 :: sxX11_kitchenAt_31
noncomputable def sxX11_kitchenAt_27 : List UInt8 := 192 :: 0 :: 91 :: sxX11_kitchenAt_30
noncomputable def sxX11_kitchenAt_24 : List UInt8 := 182 :: 0 :: 87 :: sxX11_kitchenAt_27
noncomputable def sxX11_kitchenAt_23 : List UInt8 := 27 :: sxX11_kitchenAt_24
noncomputable def sxX11_kitchenAt_20 : List UInt8 := 180 :: 0 :: 61 :: sxX11_kitchenAt_23
noncomputable def sxX11_kitchenAt_19 : List UInt8 := 42 :: sxX11_kitchenAt_20
noncomputable def sxX11_kitchenAt_16 : List UInt8 := 167 :: 0 :: 14 :: sxX11_kitchenAt_19
noncomputable def sxX11_kitchenAt_15 : List UInt8 := 1 :: sxX11_kitchenAt_16
noncomputable def sxX11_kitchenAt_12 : List UInt8 := 161 :: 0 :: 7 :: sxX11_kitchenAt_15
noncomputable def sxX11_kitchenAt_9 : List UInt8 := 182 :: 0 :: 84 :: sxX11_kitchenAt_12
noncomputable def sxX11_kitchenAt_6 : List UInt8 := 180 :: 0 :: 61 :: sxX11_kitchenAt_9
noncomputable def sxX11_kitchenAt_5 : List UInt8 := 42 :: sxX11_kitchenAt_6
noncomputable def sxX11_kitchenAt_4 : List UInt8 := 27 :: sxX11_kitchenAt_5
noncomputable def sxX11_kitchenAt_1 : List UInt8 := 155 :: 0 :: 14 :: sxX11_kitchenAt_4
noncomputable def sxX11_kitchenAt_0 : List UInt8 := 27 :: sxX11_kitchenAt_1
theorem shX11_kitchenAt_0 : cX11_kitchenAt.data.toList.drop 0 = sxX11_kitchenAt_0 := rfl
theorem shX11_kitchenAt_1 : cX11_kitchenAt.data.toList.drop 1 = sxX11_kitchenAt_1 := dSn 1 shX11_kitchenAt_0
theorem shX11_kitchenAt_4 : cX11_kitchenAt.data.toList.drop 4 = sxX11_kitchenAt_4 := dSn 3 shX11_kitchenAt_1
theorem shX11_kitchenAt_5 : cX11_kitchenAt.data.toList.drop 5 = sxX11_kitchenAt_5 := dSn 1 shX11_kitchenAt_4
theorem shX11_kitchenAt_6 : cX11_kitchenAt.data.toList.drop 6 = sxX11_kitchenAt_6 := dSn 1 shX11_kitchenAt_5
theorem shX11_kitchenAt_9 : cX11_kitchenAt.data.toList.drop 9 = sxX11_kitchenAt_9 := dSn 3 shX11_kitchenAt_6
theorem shX11_kitchenAt_12 : cX11_kitchenAt.data.toList.drop 12 = sxX11_kitchenAt_12 := dSn 3 shX11_kitchenAt_9
theorem shX11_kitchenAt_15 : cX11_kitchenAt.data.toList.drop 15 = sxX11_kitchenAt_15 := dSn 3 shX11_kitchenAt_12
theorem shX11_kitchenAt_16 : cX11_kitchenAt.data.toList.drop 16 = sxX11_kitchenAt_16 := dSn 1 shX11_kitchenAt_15
theorem shX11_kitchenAt_19 : cX11_kitchenAt.data.toList.drop 19 = sxX11_kitchenAt_19 := dSn 3 shX11_kitchenAt_16
theorem shX11_kitchenAt_20 : cX11_kitchenAt.data.toList.drop 20 = sxX11_kitchenAt_20 := dSn 1 shX11_kitchenAt_19
theorem shX11_kitchenAt_23 : cX11_kitchenAt.data.toList.drop 23 = sxX11_kitchenAt_23 := dSn 3 shX11_kitchenAt_20
theorem shX11_kitchenAt_24 : cX11_kitchenAt.data.toList.drop 24 = sxX11_kitchenAt_24 := dSn 1 shX11_kitchenAt_23
theorem shX11_kitchenAt_27 : cX11_kitchenAt.data.toList.drop 27 = sxX11_kitchenAt_27 := dSn 3 shX11_kitchenAt_24
theorem shX11_kitchenAt_30 : cX11_kitchenAt.data.toList.drop 30 = sxX11_kitchenAt_30 := dSn 3 shX11_kitchenAt_27
theorem dX11_kitchenAt_0 : decode cX11_kitchenAt 0 = .ok (.iload_n 1, 1) := oc_27 shX11_kitchenAt_0
theorem dX11_kitchenAt_1 : decode cX11_kitchenAt 1 = .ok (.ifCond .lt 14, 3) := oc_155 shX11_kitchenAt_1 sgw_0_14
theorem dX11_kitchenAt_15 : decode cX11_kitchenAt 15 = .ok (.aconst_null, 1) := oc_1 shX11_kitchenAt_15
theorem dX11_kitchenAt_16 : decode cX11_kitchenAt 16 = .ok (.goto 14, 3) := oc_167 shX11_kitchenAt_16 sgw_0_14
theorem dX11_kitchenAt_30 : decode cX11_kitchenAt 30 = .ok (.areturn, 1) := oc_176 shX11_kitchenAt_30
theorem dX11_kitchenAt_4 : decode cX11_kitchenAt 4 = .ok (.iload_n 1, 1) := oc_27 shX11_kitchenAt_4
theorem dX11_kitchenAt_5 : decode cX11_kitchenAt 5 = .ok (.aload_n 0, 1) := oc_42 shX11_kitchenAt_5
theorem dX11_kitchenAt_6 : decode cX11_kitchenAt 6 = .ok (.getfield 61, 3) := oc_180 shX11_kitchenAt_6
theorem dX11_kitchenAt_9 : decode cX11_kitchenAt 9 = .ok (.invokevirtual 84, 3) := oc_182 shX11_kitchenAt_9
theorem dX11_kitchenAt_12 : decode cX11_kitchenAt 12 = .ok (.if_icmp .lt 7, 3) := oc_161 shX11_kitchenAt_12 sgw_0_7
theorem dX11_kitchenAt_19 : decode cX11_kitchenAt 19 = .ok (.aload_n 0, 1) := oc_42 shX11_kitchenAt_19
theorem dX11_kitchenAt_20 : decode cX11_kitchenAt 20 = .ok (.getfield 61, 3) := oc_180 shX11_kitchenAt_20
theorem dX11_kitchenAt_23 : decode cX11_kitchenAt 23 = .ok (.iload_n 1, 1) := oc_27 shX11_kitchenAt_23
theorem dX11_kitchenAt_24 : decode cX11_kitchenAt 24 = .ok (.invokevirtual 87, 3) := oc_182 shX11_kitchenAt_24
theorem dX11_kitchenAt_27 : decode cX11_kitchenAt 27 = .ok (.checkcast 91, 3) := oc_192 shX11_kitchenAt_27
noncomputable def sxX11_loadAt_31 : List UInt8 := []
noncomputable def sxX11_loadAt_30 : List UInt8 := 176 :: sxX11_loadAt_31
noncomputable def sxX11_loadAt_27 : List UInt8 := 192 :: 0 :: 93 :: sxX11_loadAt_30
noncomputable def sxX11_loadAt_24 : List UInt8 := 182 :: 0 :: 87 :: sxX11_loadAt_27
noncomputable def sxX11_loadAt_23 : List UInt8 := 27 :: sxX11_loadAt_24
noncomputable def sxX11_loadAt_20 : List UInt8 := 180 :: 0 :: 65 :: sxX11_loadAt_23
noncomputable def sxX11_loadAt_19 : List UInt8 := 42 :: sxX11_loadAt_20
noncomputable def sxX11_loadAt_16 : List UInt8 := 167 :: 0 :: 14 :: sxX11_loadAt_19
noncomputable def sxX11_loadAt_15 : List UInt8 := 1 :: sxX11_loadAt_16
noncomputable def sxX11_loadAt_12 : List UInt8 := 161 :: 0 :: 7 :: sxX11_loadAt_15
noncomputable def sxX11_loadAt_9 : List UInt8 := 182 :: 0 :: 84 :: sxX11_loadAt_12
noncomputable def sxX11_loadAt_6 : List UInt8 := 180 :: 0 :: 65 :: sxX11_loadAt_9
noncomputable def sxX11_loadAt_5 : List UInt8 := 42 :: sxX11_loadAt_6
noncomputable def sxX11_loadAt_4 : List UInt8 := 27 :: sxX11_loadAt_5
noncomputable def sxX11_loadAt_1 : List UInt8 := 155 :: 0 :: 14 :: sxX11_loadAt_4
noncomputable def sxX11_loadAt_0 : List UInt8 := 27 :: sxX11_loadAt_1
theorem shX11_loadAt_0 : cX11_loadAt.data.toList.drop 0 = sxX11_loadAt_0 := rfl
theorem shX11_loadAt_1 : cX11_loadAt.data.toList.drop 1 = sxX11_loadAt_1 := dSn 1 shX11_loadAt_0
theorem shX11_loadAt_4 : cX11_loadAt.data.toList.drop 4 = sxX11_loadAt_4 := dSn 3 shX11_loadAt_1
theorem shX11_loadAt_5 : cX11_loadAt.data.toList.drop 5 = sxX11_loadAt_5 := dSn 1 shX11_loadAt_4
theorem shX11_loadAt_6 : cX11_loadAt.data.toList.drop 6 = sxX11_loadAt_6 := dSn 1 shX11_loadAt_5
theorem shX11_loadAt_9 : cX11_loadAt.data.toList.drop 9 = sxX11_loadAt_9 := dSn 3 shX11_loadAt_6
theorem shX11_loadAt_12 : cX11_loadAt.data.toList.drop 12 = sxX11_loadAt_12 := dSn 3 shX11_loadAt_9
theorem shX11_loadAt_15 : cX11_loadAt.data.toList.drop 15 = sxX11_loadAt_15 := dSn 3 shX11_loadAt_12
theorem shX11_loadAt_16 : cX11_loadAt.data.toList.drop 16 = sxX11_loadAt_16 := dSn 1 shX11_loadAt_15
theorem shX11_loadAt_19 : cX11_loadAt.data.toList.drop 19 = sxX11_loadAt_19 := dSn 3 shX11_loadAt_16
theorem shX11_loadAt_20 : cX11_loadAt.data.toList.drop 20 = sxX11_loadAt_20 := dSn 1 shX11_loadAt_19
theorem shX11_loadAt_23 : cX11_loadAt.data.toList.drop 23 = sxX11_loadAt_23 := dSn 3 shX11_loadAt_20
theorem shX11_loadAt_24 : cX11_loadAt.data.toList.drop 24 = sxX11_loadAt_24 := dSn 1 shX11_loadAt_23
theorem shX11_loadAt_27 : cX11_loadAt.data.toList.drop 27 = sxX11_loadAt_27 := dSn 3 shX11_loadAt_24
theorem shX11_loadAt_30 : cX11_loadAt.data.toList.drop 30 = sxX11_loadAt_30 := dSn 3 shX11_loadAt_27
theorem dX11_loadAt_0 : decode cX11_loadAt 0 = .ok (.iload_n 1, 1) := oc_27 shX11_loadAt_0
theorem dX11_loadAt_1 : decode cX11_loadAt 1 = .ok (.ifCond .lt 14, 3) := oc_155 shX11_loadAt_1 sgw_0_14
theorem dX11_loadAt_15 : decode cX11_loadAt 15 = .ok (.aconst_null, 1) := oc_1 shX11_loadAt_15
theorem dX11_loadAt_16 : decode cX11_loadAt 16 = .ok (.goto 14, 3) := oc_167 shX11_loadAt_16 sgw_0_14
theorem dX11_loadAt_30 : decode cX11_loadAt 30 = .ok (.areturn, 1) := oc_176 shX11_loadAt_30
theorem dX11_loadAt_4 : decode cX11_loadAt 4 = .ok (.iload_n 1, 1) := oc_27 shX11_loadAt_4
theorem dX11_loadAt_5 : decode cX11_loadAt 5 = .ok (.aload_n 0, 1) := oc_42 shX11_loadAt_5
theorem dX11_loadAt_6 : decode cX11_loadAt 6 = .ok (.getfield 65, 3) := oc_180 shX11_loadAt_6
theorem dX11_loadAt_9 : decode cX11_loadAt 9 = .ok (.invokevirtual 84, 3) := oc_182 shX11_loadAt_9
theorem dX11_loadAt_12 : decode cX11_loadAt 12 = .ok (.if_icmp .lt 7, 3) := oc_161 shX11_loadAt_12 sgw_0_7
theorem dX11_loadAt_19 : decode cX11_loadAt 19 = .ok (.aload_n 0, 1) := oc_42 shX11_loadAt_19
theorem dX11_loadAt_20 : decode cX11_loadAt 20 = .ok (.getfield 65, 3) := oc_180 shX11_loadAt_20
theorem dX11_loadAt_23 : decode cX11_loadAt 23 = .ok (.iload_n 1, 1) := oc_27 shX11_loadAt_23
theorem dX11_loadAt_24 : decode cX11_loadAt 24 = .ok (.invokevirtual 87, 3) := oc_182 shX11_loadAt_24
theorem dX11_loadAt_27 : decode cX11_loadAt 27 = .ok (.checkcast 93, 3) := oc_192 shX11_loadAt_27
noncomputable def sxX11_batchAt_31 : List UInt8 := []
noncomputable def sxX11_batchAt_30 : List UInt8 := 176 :: sxX11_batchAt_31
noncomputable def sxX11_batchAt_27 : List UInt8 := 192 :: 0 :: 95 :: sxX11_batchAt_30
noncomputable def sxX11_batchAt_24 : List UInt8 := 182 :: 0 :: 87 :: sxX11_batchAt_27
noncomputable def sxX11_batchAt_23 : List UInt8 := 27 :: sxX11_batchAt_24
noncomputable def sxX11_batchAt_20 : List UInt8 := 180 :: 0 :: 68 :: sxX11_batchAt_23
noncomputable def sxX11_batchAt_19 : List UInt8 := 42 :: sxX11_batchAt_20
noncomputable def sxX11_batchAt_16 : List UInt8 := 167 :: 0 :: 14 :: sxX11_batchAt_19
noncomputable def sxX11_batchAt_15 : List UInt8 := 1 :: sxX11_batchAt_16
noncomputable def sxX11_batchAt_12 : List UInt8 := 161 :: 0 :: 7 :: sxX11_batchAt_15
noncomputable def sxX11_batchAt_9 : List UInt8 := 182 :: 0 :: 84 :: sxX11_batchAt_12
noncomputable def sxX11_batchAt_6 : List UInt8 := 180 :: 0 :: 68 :: sxX11_batchAt_9
noncomputable def sxX11_batchAt_5 : List UInt8 := 42 :: sxX11_batchAt_6
noncomputable def sxX11_batchAt_4 : List UInt8 := 27 :: sxX11_batchAt_5
noncomputable def sxX11_batchAt_1 : List UInt8 := 155 :: 0 :: 14 :: sxX11_batchAt_4
noncomputable def sxX11_batchAt_0 : List UInt8 := 27 :: sxX11_batchAt_1
theorem shX11_batchAt_0 : cX11_batchAt.data.toList.drop 0 = sxX11_batchAt_0 := rfl
theorem shX11_batchAt_1 : cX11_batchAt.data.toList.drop 1 = sxX11_batchAt_1 := dSn 1 shX11_batchAt_0
theorem shX11_batchAt_4 : cX11_batchAt.data.toList.drop 4 = sxX11_batchAt_4 := dSn 3 shX11_batchAt_1
theorem shX11_batchAt_5 : cX11_batchAt.data.toList.drop 5 = sxX11_batchAt_5 := dSn 1 shX11_batchAt_4
theorem shX11_batchAt_6 : cX11_batchAt.data.toList.drop 6 = sxX11_batchAt_6 := dSn 1 shX11_batchAt_5
theorem shX11_batchAt_9 : cX11_batchAt.data.toList.drop 9 = sxX11_batchAt_9 := dSn 3 shX11_batchAt_6
theorem shX11_batchAt_12 : cX11_batchAt.data.toList.drop 12 = sxX11_batchAt_12 := dSn 3 shX11_batchAt_9
theorem shX11_batchAt_15 : cX11_batchAt.data.toList.drop 15 = sxX11_batchAt_15 := dSn 3 shX11_batchAt_12
theorem shX11_batchAt_16 : cX11_batchAt.data.toList.drop 16 = sxX11_batchAt_16 := dSn 1 shX11_batchAt_15
theorem shX11_batchAt_19 : cX11_batchAt.data.toList.drop 19 = sxX11_batchAt_19 := dSn 3 shX11_batchAt_16
theorem shX11_batchAt_20 : cX11_batchAt.data.toList.drop 20 = sxX11_batchAt_20 := dSn 1 shX11_batchAt_19
theorem shX11_batchAt_23 : cX11_batchAt.data.toList.drop 23 = sxX11_batchAt_23 := dSn 3 shX11_batchAt_20
theorem shX11_batchAt_24 : cX11_batchAt.data.toList.drop 24 = sxX11_batchAt_24 := dSn 1 shX11_batchAt_23
theorem shX11_batchAt_27 : cX11_batchAt.data.toList.drop 27 = sxX11_batchAt_27 := dSn 3 shX11_batchAt_24
theorem shX11_batchAt_30 : cX11_batchAt.data.toList.drop 30 = sxX11_batchAt_30 := dSn 3 shX11_batchAt_27
theorem dX11_batchAt_0 : decode cX11_batchAt 0 = .ok (.iload_n 1, 1) := oc_27 shX11_batchAt_0
theorem dX11_batchAt_1 : decode cX11_batchAt 1 = .ok (.ifCond .lt 14, 3) := oc_155 shX11_batchAt_1 sgw_0_14
theorem dX11_batchAt_15 : decode cX11_batchAt 15 = .ok (.aconst_null, 1) := oc_1 shX11_batchAt_15
theorem dX11_batchAt_16 : decode cX11_batchAt 16 = .ok (.goto 14, 3) := oc_167 shX11_batchAt_16 sgw_0_14
theorem dX11_batchAt_30 : decode cX11_batchAt 30 = .ok (.areturn, 1) := oc_176 shX11_batchAt_30
theorem dX11_batchAt_4 : decode cX11_batchAt 4 = .ok (.iload_n 1, 1) := oc_27 shX11_batchAt_4
theorem dX11_batchAt_5 : decode cX11_batchAt 5 = .ok (.aload_n 0, 1) := oc_42 shX11_batchAt_5
theorem dX11_batchAt_6 : decode cX11_batchAt 6 = .ok (.getfield 68, 3) := oc_180 shX11_batchAt_6
theorem dX11_batchAt_9 : decode cX11_batchAt 9 = .ok (.invokevirtual 84, 3) := oc_182 shX11_batchAt_9
theorem dX11_batchAt_12 : decode cX11_batchAt 12 = .ok (.if_icmp .lt 7, 3) := oc_161 shX11_batchAt_12 sgw_0_7
theorem dX11_batchAt_19 : decode cX11_batchAt 19 = .ok (.aload_n 0, 1) := oc_42 shX11_batchAt_19
theorem dX11_batchAt_20 : decode cX11_batchAt 20 = .ok (.getfield 68, 3) := oc_180 shX11_batchAt_20
theorem dX11_batchAt_23 : decode cX11_batchAt 23 = .ok (.iload_n 1, 1) := oc_27 shX11_batchAt_23
theorem dX11_batchAt_24 : decode cX11_batchAt 24 = .ok (.invokevirtual 87, 3) := oc_182 shX11_batchAt_24
theorem dX11_batchAt_27 : decode cX11_batchAt 27 = .ok (.checkcast 95, 3) := oc_192 shX11_batchAt_27
noncomputable def sxX11_proofAt_31 : List UInt8 := []
noncomputable def sxX11_proofAt_30 : List UInt8 := 176 :: sxX11_proofAt_31
noncomputable def sxX11_proofAt_27 : List UInt8 := 192 :: 0 :: 97 :: sxX11_proofAt_30
noncomputable def sxX11_proofAt_24 : List UInt8 := 182 :: 0 :: 87 :: sxX11_proofAt_27
noncomputable def sxX11_proofAt_23 : List UInt8 := 27 :: sxX11_proofAt_24
noncomputable def sxX11_proofAt_20 : List UInt8 := 180 :: 0 :: 71 :: sxX11_proofAt_23
noncomputable def sxX11_proofAt_19 : List UInt8 := 42 :: sxX11_proofAt_20
noncomputable def sxX11_proofAt_16 : List UInt8 := 167 :: 0 :: 14 :: sxX11_proofAt_19
noncomputable def sxX11_proofAt_15 : List UInt8 := 1 :: sxX11_proofAt_16
noncomputable def sxX11_proofAt_12 : List UInt8 := 161 :: 0 :: 7 :: sxX11_proofAt_15
noncomputable def sxX11_proofAt_9 : List UInt8 := 182 :: 0 :: 84 :: sxX11_proofAt_12
noncomputable def sxX11_proofAt_6 : List UInt8 := 180 :: 0 :: 71 :: sxX11_proofAt_9
noncomputable def sxX11_proofAt_5 : List UInt8 := 42 :: sxX11_proofAt_6
noncomputable def sxX11_proofAt_4 : List UInt8 := 27 :: sxX11_proofAt_5
noncomputable def sxX11_proofAt_1 : List UInt8 := 155 :: 0 :: 14 :: sxX11_proofAt_4
noncomputable def sxX11_proofAt_0 : List UInt8 := 27 :: sxX11_proofAt_1
theorem shX11_proofAt_0 : cX11_proofAt.data.toList.drop 0 = sxX11_proofAt_0 := rfl
theorem shX11_proofAt_1 : cX11_proofAt.data.toList.drop 1 = sxX11_proofAt_1 := dSn 1 shX11_proofAt_0
theorem shX11_proofAt_4 : cX11_proofAt.data.toList.drop 4 = sxX11_proofAt_4 := dSn 3 shX11_proofAt_1
theorem shX11_proofAt_5 : cX11_proofAt.data.toList.drop 5 = sxX11_proofAt_5 := dSn 1 shX11_proofAt_4
theorem shX11_proofAt_6 : cX11_proofAt.data.toList.drop 6 = sxX11_proofAt_6 := dSn 1 shX11_proofAt_5
theorem shX11_proofAt_9 : cX11_proofAt.data.toList.drop 9 = sxX11_proofAt_9 := dSn 3 shX11_proofAt_6
theorem shX11_proofAt_12 : cX11_proofAt.data.toList.drop 12 = sxX11_proofAt_12 := dSn 3 shX11_proofAt_9
theorem shX11_proofAt_15 : cX11_proofAt.data.toList.drop 15 = sxX11_proofAt_15 := dSn 3 shX11_proofAt_12
theorem shX11_proofAt_16 : cX11_proofAt.data.toList.drop 16 = sxX11_proofAt_16 := dSn 1 shX11_proofAt_15
theorem shX11_proofAt_19 : cX11_proofAt.data.toList.drop 19 = sxX11_proofAt_19 := dSn 3 shX11_proofAt_16
theorem shX11_proofAt_20 : cX11_proofAt.data.toList.drop 20 = sxX11_proofAt_20 := dSn 1 shX11_proofAt_19
theorem shX11_proofAt_23 : cX11_proofAt.data.toList.drop 23 = sxX11_proofAt_23 := dSn 3 shX11_proofAt_20
theorem shX11_proofAt_24 : cX11_proofAt.data.toList.drop 24 = sxX11_proofAt_24 := dSn 1 shX11_proofAt_23
theorem shX11_proofAt_27 : cX11_proofAt.data.toList.drop 27 = sxX11_proofAt_27 := dSn 3 shX11_proofAt_24
theorem shX11_proofAt_30 : cX11_proofAt.data.toList.drop 30 = sxX11_proofAt_30 := dSn 3 shX11_proofAt_27
theorem dX11_proofAt_0 : decode cX11_proofAt 0 = .ok (.iload_n 1, 1) := oc_27 shX11_proofAt_0
theorem dX11_proofAt_1 : decode cX11_proofAt 1 = .ok (.ifCond .lt 14, 3) := oc_155 shX11_proofAt_1 sgw_0_14
theorem dX11_proofAt_15 : decode cX11_proofAt 15 = .ok (.aconst_null, 1) := oc_1 shX11_proofAt_15
theorem dX11_proofAt_16 : decode cX11_proofAt 16 = .ok (.goto 14, 3) := oc_167 shX11_proofAt_16 sgw_0_14
theorem dX11_proofAt_30 : decode cX11_proofAt 30 = .ok (.areturn, 1) := oc_176 shX11_proofAt_30
theorem dX11_proofAt_4 : decode cX11_proofAt 4 = .ok (.iload_n 1, 1) := oc_27 shX11_proofAt_4
theorem dX11_proofAt_5 : decode cX11_proofAt 5 = .ok (.aload_n 0, 1) := oc_42 shX11_proofAt_5
theorem dX11_proofAt_6 : decode cX11_proofAt 6 = .ok (.getfield 71, 3) := oc_180 shX11_proofAt_6
theorem dX11_proofAt_9 : decode cX11_proofAt 9 = .ok (.invokevirtual 84, 3) := oc_182 shX11_proofAt_9
theorem dX11_proofAt_12 : decode cX11_proofAt 12 = .ok (.if_icmp .lt 7, 3) := oc_161 shX11_proofAt_12 sgw_0_7
theorem dX11_proofAt_19 : decode cX11_proofAt 19 = .ok (.aload_n 0, 1) := oc_42 shX11_proofAt_19
theorem dX11_proofAt_20 : decode cX11_proofAt 20 = .ok (.getfield 71, 3) := oc_180 shX11_proofAt_20
theorem dX11_proofAt_23 : decode cX11_proofAt 23 = .ok (.iload_n 1, 1) := oc_27 shX11_proofAt_23
theorem dX11_proofAt_24 : decode cX11_proofAt 24 = .ok (.invokevirtual 87, 3) := oc_182 shX11_proofAt_24
theorem dX11_proofAt_27 : decode cX11_proofAt 27 = .ok (.checkcast 97, 3) := oc_192 shX11_proofAt_27
noncomputable def sxX1_fillOn_16 : List UInt8 := []
noncomputable def sxX1_fillOn_15 : List UInt8 := 172 :: sxX1_fillOn_16
noncomputable def sxX1_fillOn_12 : List UInt8 := 184 :: 0 :: 31 :: sxX1_fillOn_15
noncomputable def sxX1_fillOn_11 : List UInt8 := 104 :: sxX1_fillOn_12
noncomputable def sxX1_fillOn_10 : List UInt8 := 100 :: sxX1_fillOn_11
noncomputable def sxX1_fillOn_9 : List UInt8 := 28 :: sxX1_fillOn_10
noncomputable def sxX1_fillOn_8 : List UInt8 := 27 :: sxX1_fillOn_9
noncomputable def sxX1_fillOn_5 : List UInt8 := 180 :: 0 :: 16 :: sxX1_fillOn_8
noncomputable def sxX1_fillOn_4 : List UInt8 := 42 :: sxX1_fillOn_5
noncomputable def sxX1_fillOn_1 : List UInt8 := 180 :: 0 :: 19 :: sxX1_fillOn_4
noncomputable def sxX1_fillOn_0 : List UInt8 := 42 :: sxX1_fillOn_1
theorem shX1_fillOn_0 : cX1_fillOn.data.toList.drop 0 = sxX1_fillOn_0 := rfl
theorem shX1_fillOn_1 : cX1_fillOn.data.toList.drop 1 = sxX1_fillOn_1 := dSn 1 shX1_fillOn_0
theorem shX1_fillOn_4 : cX1_fillOn.data.toList.drop 4 = sxX1_fillOn_4 := dSn 3 shX1_fillOn_1
theorem shX1_fillOn_5 : cX1_fillOn.data.toList.drop 5 = sxX1_fillOn_5 := dSn 1 shX1_fillOn_4
theorem shX1_fillOn_8 : cX1_fillOn.data.toList.drop 8 = sxX1_fillOn_8 := dSn 3 shX1_fillOn_5
theorem shX1_fillOn_9 : cX1_fillOn.data.toList.drop 9 = sxX1_fillOn_9 := dSn 1 shX1_fillOn_8
theorem shX1_fillOn_10 : cX1_fillOn.data.toList.drop 10 = sxX1_fillOn_10 := dSn 1 shX1_fillOn_9
theorem shX1_fillOn_11 : cX1_fillOn.data.toList.drop 11 = sxX1_fillOn_11 := dSn 1 shX1_fillOn_10
theorem shX1_fillOn_12 : cX1_fillOn.data.toList.drop 12 = sxX1_fillOn_12 := dSn 1 shX1_fillOn_11
theorem shX1_fillOn_15 : cX1_fillOn.data.toList.drop 15 = sxX1_fillOn_15 := dSn 3 shX1_fillOn_12
theorem dX1_fillOn_0 : decode cX1_fillOn 0 = .ok (.aload_n 0, 1) := oc_42 shX1_fillOn_0
theorem dX1_fillOn_1 : decode cX1_fillOn 1 = .ok (.getfield 19, 3) := oc_180 shX1_fillOn_1
theorem dX1_fillOn_4 : decode cX1_fillOn 4 = .ok (.aload_n 0, 1) := oc_42 shX1_fillOn_4
theorem dX1_fillOn_5 : decode cX1_fillOn 5 = .ok (.getfield 16, 3) := oc_180 shX1_fillOn_5
theorem dX1_fillOn_8 : decode cX1_fillOn 8 = .ok (.iload_n 1, 1) := oc_27 shX1_fillOn_8
theorem dX1_fillOn_9 : decode cX1_fillOn 9 = .ok (.iload_n 2, 1) := oc_28 shX1_fillOn_9
theorem dX1_fillOn_10 : decode cX1_fillOn 10 = .ok (.isub, 1) := oc_100 shX1_fillOn_10
theorem dX1_fillOn_11 : decode cX1_fillOn 11 = .ok (.imul, 1) := oc_104 shX1_fillOn_11
theorem dX1_fillOn_12 : decode cX1_fillOn 12 = .ok (.invokestatic 31, 3) := oc_184 shX1_fillOn_12
theorem dX1_fillOn_15 : decode cX1_fillOn 15 = .ok (.ireturn, 1) := oc_172 shX1_fillOn_15
noncomputable def sxX1_comesFor_22 : List UInt8 := []
noncomputable def sxX1_comesFor_21 : List UInt8 := 172 :: sxX1_comesFor_22
noncomputable def sxX1_comesFor_20 : List UInt8 := 3 :: sxX1_comesFor_21
noncomputable def sxX1_comesFor_17 : List UInt8 := 167 :: 0 :: 4 :: sxX1_comesFor_20
noncomputable def sxX1_comesFor_16 : List UInt8 := 4 :: sxX1_comesFor_17
noncomputable def sxX1_comesFor_13 : List UInt8 := 161 :: 0 :: 7 :: sxX1_comesFor_16
noncomputable def sxX1_comesFor_10 : List UInt8 := 180 :: 0 :: 40 :: sxX1_comesFor_13
noncomputable def sxX1_comesFor_9 : List UInt8 := 42 :: sxX1_comesFor_10
noncomputable def sxX1_comesFor_8 : List UInt8 := 27 :: sxX1_comesFor_9
noncomputable def sxX1_comesFor_5 : List UInt8 := 161 :: 0 :: 15 :: sxX1_comesFor_8
noncomputable def sxX1_comesFor_2 : List UInt8 := 180 :: 0 :: 37 :: sxX1_comesFor_5
noncomputable def sxX1_comesFor_1 : List UInt8 := 42 :: sxX1_comesFor_2
noncomputable def sxX1_comesFor_0 : List UInt8 := 27 :: sxX1_comesFor_1
theorem shX1_comesFor_0 : cX1_comesFor.data.toList.drop 0 = sxX1_comesFor_0 := rfl
theorem shX1_comesFor_1 : cX1_comesFor.data.toList.drop 1 = sxX1_comesFor_1 := dSn 1 shX1_comesFor_0
theorem shX1_comesFor_2 : cX1_comesFor.data.toList.drop 2 = sxX1_comesFor_2 := dSn 1 shX1_comesFor_1
theorem shX1_comesFor_5 : cX1_comesFor.data.toList.drop 5 = sxX1_comesFor_5 := dSn 3 shX1_comesFor_2
theorem shX1_comesFor_8 : cX1_comesFor.data.toList.drop 8 = sxX1_comesFor_8 := dSn 3 shX1_comesFor_5
theorem shX1_comesFor_9 : cX1_comesFor.data.toList.drop 9 = sxX1_comesFor_9 := dSn 1 shX1_comesFor_8
theorem shX1_comesFor_10 : cX1_comesFor.data.toList.drop 10 = sxX1_comesFor_10 := dSn 1 shX1_comesFor_9
theorem shX1_comesFor_13 : cX1_comesFor.data.toList.drop 13 = sxX1_comesFor_13 := dSn 3 shX1_comesFor_10
theorem shX1_comesFor_16 : cX1_comesFor.data.toList.drop 16 = sxX1_comesFor_16 := dSn 3 shX1_comesFor_13
theorem shX1_comesFor_17 : cX1_comesFor.data.toList.drop 17 = sxX1_comesFor_17 := dSn 1 shX1_comesFor_16
theorem shX1_comesFor_20 : cX1_comesFor.data.toList.drop 20 = sxX1_comesFor_20 := dSn 3 shX1_comesFor_17
theorem shX1_comesFor_21 : cX1_comesFor.data.toList.drop 21 = sxX1_comesFor_21 := dSn 1 shX1_comesFor_20
theorem dX1_comesFor_0 : decode cX1_comesFor 0 = .ok (.iload_n 1, 1) := oc_27 shX1_comesFor_0
theorem dX1_comesFor_1 : decode cX1_comesFor 1 = .ok (.aload_n 0, 1) := oc_42 shX1_comesFor_1
theorem dX1_comesFor_2 : decode cX1_comesFor 2 = .ok (.getfield 37, 3) := oc_180 shX1_comesFor_2
theorem dX1_comesFor_5 : decode cX1_comesFor 5 = .ok (.if_icmp .lt 15, 3) := oc_161 shX1_comesFor_5 sgw_0_15
theorem dX1_comesFor_20 : decode cX1_comesFor 20 = .ok (.iconst 0, 1) := oc_3 shX1_comesFor_20
theorem dX1_comesFor_21 : decode cX1_comesFor 21 = .ok (.ireturn, 1) := oc_172 shX1_comesFor_21
theorem dX1_comesFor_8 : decode cX1_comesFor 8 = .ok (.iload_n 1, 1) := oc_27 shX1_comesFor_8
theorem dX1_comesFor_9 : decode cX1_comesFor 9 = .ok (.aload_n 0, 1) := oc_42 shX1_comesFor_9
theorem dX1_comesFor_10 : decode cX1_comesFor 10 = .ok (.getfield 40, 3) := oc_180 shX1_comesFor_10
theorem dX1_comesFor_13 : decode cX1_comesFor 13 = .ok (.if_icmp .lt 7, 3) := oc_161 shX1_comesFor_13 sgw_0_7
theorem dX1_comesFor_16 : decode cX1_comesFor 16 = .ok (.iconst 1, 1) := oc_4 shX1_comesFor_16
theorem dX1_comesFor_17 : decode cX1_comesFor 17 = .ok (.goto 4, 3) := oc_167 shX1_comesFor_17 sgw_0_4
noncomputable def sxX11_likely_37 : List UInt8 := []
noncomputable def sxX11_likely_36 : List UInt8 := 172 :: sxX11_likely_37
noncomputable def sxX11_likely_33 : List UInt8 := 182 :: 0 :: 121 :: sxX11_likely_36
noncomputable def sxX11_likely_30 : List UInt8 := 180 :: 0 :: 118 :: sxX11_likely_33
noncomputable def sxX11_likely_29 : List UInt8 := 45 :: sxX11_likely_30
noncomputable def sxX11_likely_28 : List UInt8 := 28 :: sxX11_likely_29
noncomputable def sxX11_likely_27 : List UInt8 := 45 :: sxX11_likely_28
noncomputable def sxX11_likely_26 : List UInt8 := 172 :: sxX11_likely_27
noncomputable def sxX11_likely_25 : List UInt8 := 2 :: sxX11_likely_26
noncomputable def sxX11_likely_22 : List UInt8 := 162 :: 0 :: 5 :: sxX11_likely_25
noncomputable def sxX11_likely_19 : List UInt8 := 180 :: 0 :: 118 :: sxX11_likely_22
noncomputable def sxX11_likely_18 : List UInt8 := 45 :: sxX11_likely_19
noncomputable def sxX11_likely_17 : List UInt8 := 28 :: sxX11_likely_18
noncomputable def sxX11_likely_14 : List UInt8 := 153 :: 0 :: 11 :: sxX11_likely_17
noncomputable def sxX11_likely_11 : List UInt8 := 184 :: 0 :: 99 :: sxX11_likely_14
noncomputable def sxX11_likely_10 : List UInt8 := 28 :: sxX11_likely_11
noncomputable def sxX11_likely_7 : List UInt8 := 198 :: 0 :: 18 :: sxX11_likely_10
noncomputable def sxX11_likely_6 : List UInt8 := 45 :: sxX11_likely_7
noncomputable def sxX11_likely_5 : List UInt8 := 78 :: sxX11_likely_6
noncomputable def sxX11_likely_2 : List UInt8 := 182 :: 0 :: 114 :: sxX11_likely_5
noncomputable def sxX11_likely_1 : List UInt8 := 27 :: sxX11_likely_2
noncomputable def sxX11_likely_0 : List UInt8 := 42 :: sxX11_likely_1
theorem shX11_likely_0 : cX11_likely.data.toList.drop 0 = sxX11_likely_0 := rfl
theorem shX11_likely_1 : cX11_likely.data.toList.drop 1 = sxX11_likely_1 := dSn 1 shX11_likely_0
theorem shX11_likely_2 : cX11_likely.data.toList.drop 2 = sxX11_likely_2 := dSn 1 shX11_likely_1
theorem shX11_likely_5 : cX11_likely.data.toList.drop 5 = sxX11_likely_5 := dSn 3 shX11_likely_2
theorem shX11_likely_6 : cX11_likely.data.toList.drop 6 = sxX11_likely_6 := dSn 1 shX11_likely_5
theorem shX11_likely_7 : cX11_likely.data.toList.drop 7 = sxX11_likely_7 := dSn 1 shX11_likely_6
theorem shX11_likely_10 : cX11_likely.data.toList.drop 10 = sxX11_likely_10 := dSn 3 shX11_likely_7
theorem shX11_likely_11 : cX11_likely.data.toList.drop 11 = sxX11_likely_11 := dSn 1 shX11_likely_10
theorem shX11_likely_14 : cX11_likely.data.toList.drop 14 = sxX11_likely_14 := dSn 3 shX11_likely_11
theorem shX11_likely_17 : cX11_likely.data.toList.drop 17 = sxX11_likely_17 := dSn 3 shX11_likely_14
theorem shX11_likely_18 : cX11_likely.data.toList.drop 18 = sxX11_likely_18 := dSn 1 shX11_likely_17
theorem shX11_likely_19 : cX11_likely.data.toList.drop 19 = sxX11_likely_19 := dSn 1 shX11_likely_18
theorem shX11_likely_22 : cX11_likely.data.toList.drop 22 = sxX11_likely_22 := dSn 3 shX11_likely_19
theorem shX11_likely_25 : cX11_likely.data.toList.drop 25 = sxX11_likely_25 := dSn 3 shX11_likely_22
theorem shX11_likely_26 : cX11_likely.data.toList.drop 26 = sxX11_likely_26 := dSn 1 shX11_likely_25
theorem shX11_likely_27 : cX11_likely.data.toList.drop 27 = sxX11_likely_27 := dSn 1 shX11_likely_26
theorem shX11_likely_28 : cX11_likely.data.toList.drop 28 = sxX11_likely_28 := dSn 1 shX11_likely_27
theorem shX11_likely_29 : cX11_likely.data.toList.drop 29 = sxX11_likely_29 := dSn 1 shX11_likely_28
theorem shX11_likely_30 : cX11_likely.data.toList.drop 30 = sxX11_likely_30 := dSn 1 shX11_likely_29
theorem shX11_likely_33 : cX11_likely.data.toList.drop 33 = sxX11_likely_33 := dSn 3 shX11_likely_30
theorem shX11_likely_36 : cX11_likely.data.toList.drop 36 = sxX11_likely_36 := dSn 3 shX11_likely_33
theorem dX11_likely_0 : decode cX11_likely 0 = .ok (.aload_n 0, 1) := oc_42 shX11_likely_0
theorem dX11_likely_1 : decode cX11_likely 1 = .ok (.iload_n 1, 1) := oc_27 shX11_likely_1
theorem dX11_likely_2 : decode cX11_likely 2 = .ok (.invokevirtual 114, 3) := oc_182 shX11_likely_2
theorem dX11_likely_5 : decode cX11_likely 5 = .ok (.astore_n 3, 1) := oc_78 shX11_likely_5
theorem dX11_likely_6 : decode cX11_likely 6 = .ok (.aload_n 3, 1) := oc_45 shX11_likely_6
theorem dX11_likely_7 : decode cX11_likely 7 = .ok (.ifnull 18, 3) := oc_198 shX11_likely_7 sgw_0_18
theorem dX11_likely_10 : decode cX11_likely 10 = .ok (.iload_n 2, 1) := oc_28 shX11_likely_10
theorem dX11_likely_11 : decode cX11_likely 11 = .ok (.invokestatic 99, 3) := oc_184 shX11_likely_11
theorem dX11_likely_14 : decode cX11_likely 14 = .ok (.ifCond .eq 11, 3) := oc_153 shX11_likely_14 sgw_0_11
theorem dX11_likely_17 : decode cX11_likely 17 = .ok (.iload_n 2, 1) := oc_28 shX11_likely_17
theorem dX11_likely_18 : decode cX11_likely 18 = .ok (.aload_n 3, 1) := oc_45 shX11_likely_18
theorem dX11_likely_19 : decode cX11_likely 19 = .ok (.getfield 118, 3) := oc_180 shX11_likely_19
theorem dX11_likely_22 : decode cX11_likely 22 = .ok (.if_icmp .ge 5, 3) := oc_162 shX11_likely_22 sgw_0_5
theorem dX11_likely_27 : decode cX11_likely 27 = .ok (.aload_n 3, 1) := oc_45 shX11_likely_27
theorem dX11_likely_28 : decode cX11_likely 28 = .ok (.iload_n 2, 1) := oc_28 shX11_likely_28
theorem dX11_likely_29 : decode cX11_likely 29 = .ok (.aload_n 3, 1) := oc_45 shX11_likely_29
theorem dX11_likely_30 : decode cX11_likely 30 = .ok (.getfield 118, 3) := oc_180 shX11_likely_30
theorem dX11_likely_33 : decode cX11_likely 33 = .ok (.invokevirtual 121, 3) := oc_182 shX11_likely_33
theorem dX11_likely_36 : decode cX11_likely 36 = .ok (.ireturn, 1) := oc_172 shX11_likely_36
theorem dX11_likely_25 : decode cX11_likely 25 = .ok (.iconst (-1), 1) := oc_2 shX11_likely_25
theorem dX11_likely_26 : decode cX11_likely 26 = .ok (.ireturn, 1) := oc_172 shX11_likely_26
noncomputable def sxX11_missing_19 : List UInt8 := []
noncomputable def sxX11_missing_18 : List UInt8 := 172 :: sxX11_missing_19
noncomputable def sxX11_missing_15 : List UInt8 := 180 :: 0 :: 141 :: sxX11_missing_18
noncomputable def sxX11_missing_14 : List UInt8 := 44 :: sxX11_missing_15
noncomputable def sxX11_missing_11 : List UInt8 := 167 :: 0 :: 7 :: sxX11_missing_14
noncomputable def sxX11_missing_10 : List UInt8 := 2 :: sxX11_missing_11
noncomputable def sxX11_missing_7 : List UInt8 := 199 :: 0 :: 7 :: sxX11_missing_10
noncomputable def sxX11_missing_6 : List UInt8 := 44 :: sxX11_missing_7
noncomputable def sxX11_missing_5 : List UInt8 := 77 :: sxX11_missing_6
noncomputable def sxX11_missing_2 : List UInt8 := 182 :: 0 :: 148 :: sxX11_missing_5
noncomputable def sxX11_missing_1 : List UInt8 := 27 :: sxX11_missing_2
noncomputable def sxX11_missing_0 : List UInt8 := 42 :: sxX11_missing_1
theorem shX11_missing_0 : cX11_missing.data.toList.drop 0 = sxX11_missing_0 := rfl
theorem shX11_missing_1 : cX11_missing.data.toList.drop 1 = sxX11_missing_1 := dSn 1 shX11_missing_0
theorem shX11_missing_2 : cX11_missing.data.toList.drop 2 = sxX11_missing_2 := dSn 1 shX11_missing_1
theorem shX11_missing_5 : cX11_missing.data.toList.drop 5 = sxX11_missing_5 := dSn 3 shX11_missing_2
theorem shX11_missing_6 : cX11_missing.data.toList.drop 6 = sxX11_missing_6 := dSn 1 shX11_missing_5
theorem shX11_missing_7 : cX11_missing.data.toList.drop 7 = sxX11_missing_7 := dSn 1 shX11_missing_6
theorem shX11_missing_10 : cX11_missing.data.toList.drop 10 = sxX11_missing_10 := dSn 3 shX11_missing_7
theorem shX11_missing_11 : cX11_missing.data.toList.drop 11 = sxX11_missing_11 := dSn 1 shX11_missing_10
theorem shX11_missing_14 : cX11_missing.data.toList.drop 14 = sxX11_missing_14 := dSn 3 shX11_missing_11
theorem shX11_missing_15 : cX11_missing.data.toList.drop 15 = sxX11_missing_15 := dSn 1 shX11_missing_14
theorem shX11_missing_18 : cX11_missing.data.toList.drop 18 = sxX11_missing_18 := dSn 3 shX11_missing_15
theorem dX11_missing_0 : decode cX11_missing 0 = .ok (.aload_n 0, 1) := oc_42 shX11_missing_0
theorem dX11_missing_1 : decode cX11_missing 1 = .ok (.iload_n 1, 1) := oc_27 shX11_missing_1
theorem dX11_missing_2 : decode cX11_missing 2 = .ok (.invokevirtual 148, 3) := oc_182 shX11_missing_2
theorem dX11_missing_5 : decode cX11_missing 5 = .ok (.astore_n 2, 1) := oc_77 shX11_missing_5
theorem dX11_missing_6 : decode cX11_missing 6 = .ok (.aload_n 2, 1) := oc_44 shX11_missing_6
theorem dX11_missing_7 : decode cX11_missing 7 = .ok (.ifnonnull 7, 3) := oc_199 shX11_missing_7 sgw_0_7
theorem dX11_missing_14 : decode cX11_missing 14 = .ok (.aload_n 2, 1) := oc_44 shX11_missing_14
theorem dX11_missing_15 : decode cX11_missing 15 = .ok (.getfield 141, 3) := oc_180 shX11_missing_15
theorem dX11_missing_18 : decode cX11_missing 18 = .ok (.ireturn, 1) := oc_172 shX11_missing_18
theorem dX11_missing_10 : decode cX11_missing 10 = .ok (.iconst (-1), 1) := oc_2 shX11_missing_10
theorem dX11_missing_11 : decode cX11_missing 11 = .ok (.goto 7, 3) := oc_167 shX11_missing_11 sgw_0_7
noncomputable def sxX11_street_29 : List UInt8 := []
noncomputable def sxX11_street_28 : List UInt8 := 172 :: sxX11_street_29
noncomputable def sxX11_street_27 : List UInt8 := 4 :: sxX11_street_28
noncomputable def sxX11_street_24 : List UInt8 := 181 :: 1 :: 4 :: sxX11_street_27
noncomputable def sxX11_street_23 : List UInt8 := 28 :: sxX11_street_24
noncomputable def sxX11_street_22 : List UInt8 := 45 :: sxX11_street_23
noncomputable def sxX11_street_21 : List UInt8 := 172 :: sxX11_street_22
noncomputable def sxX11_street_20 : List UInt8 := 3 :: sxX11_street_21
noncomputable def sxX11_street_17 : List UInt8 := 154 :: 0 :: 5 :: sxX11_street_20
noncomputable def sxX11_street_14 : List UInt8 := 184 :: 0 :: 80 :: sxX11_street_17
noncomputable def sxX11_street_12 : List UInt8 := 16 :: 9 :: sxX11_street_14
noncomputable def sxX11_street_11 : List UInt8 := 3 :: sxX11_street_12
noncomputable def sxX11_street_10 : List UInt8 := 28 :: sxX11_street_11
noncomputable def sxX11_street_7 : List UInt8 := 198 :: 0 :: 13 :: sxX11_street_10
noncomputable def sxX11_street_6 : List UInt8 := 45 :: sxX11_street_7
noncomputable def sxX11_street_5 : List UInt8 := 78 :: sxX11_street_6
noncomputable def sxX11_street_2 : List UInt8 := 182 :: 0 :: 114 :: sxX11_street_5
noncomputable def sxX11_street_1 : List UInt8 := 27 :: sxX11_street_2
noncomputable def sxX11_street_0 : List UInt8 := 42 :: sxX11_street_1
theorem shX11_street_0 : cX11_street.data.toList.drop 0 = sxX11_street_0 := rfl
theorem shX11_street_1 : cX11_street.data.toList.drop 1 = sxX11_street_1 := dSn 1 shX11_street_0
theorem shX11_street_2 : cX11_street.data.toList.drop 2 = sxX11_street_2 := dSn 1 shX11_street_1
theorem shX11_street_5 : cX11_street.data.toList.drop 5 = sxX11_street_5 := dSn 3 shX11_street_2
theorem shX11_street_6 : cX11_street.data.toList.drop 6 = sxX11_street_6 := dSn 1 shX11_street_5
theorem shX11_street_7 : cX11_street.data.toList.drop 7 = sxX11_street_7 := dSn 1 shX11_street_6
theorem shX11_street_10 : cX11_street.data.toList.drop 10 = sxX11_street_10 := dSn 3 shX11_street_7
theorem shX11_street_11 : cX11_street.data.toList.drop 11 = sxX11_street_11 := dSn 1 shX11_street_10
theorem shX11_street_12 : cX11_street.data.toList.drop 12 = sxX11_street_12 := dSn 1 shX11_street_11
theorem shX11_street_14 : cX11_street.data.toList.drop 14 = sxX11_street_14 := dSn 2 shX11_street_12
theorem shX11_street_17 : cX11_street.data.toList.drop 17 = sxX11_street_17 := dSn 3 shX11_street_14
theorem shX11_street_20 : cX11_street.data.toList.drop 20 = sxX11_street_20 := dSn 3 shX11_street_17
theorem shX11_street_21 : cX11_street.data.toList.drop 21 = sxX11_street_21 := dSn 1 shX11_street_20
theorem shX11_street_22 : cX11_street.data.toList.drop 22 = sxX11_street_22 := dSn 1 shX11_street_21
theorem shX11_street_23 : cX11_street.data.toList.drop 23 = sxX11_street_23 := dSn 1 shX11_street_22
theorem shX11_street_24 : cX11_street.data.toList.drop 24 = sxX11_street_24 := dSn 1 shX11_street_23
theorem shX11_street_27 : cX11_street.data.toList.drop 27 = sxX11_street_27 := dSn 3 shX11_street_24
theorem shX11_street_28 : cX11_street.data.toList.drop 28 = sxX11_street_28 := dSn 1 shX11_street_27
theorem dX11_street_0 : decode cX11_street 0 = .ok (.aload_n 0, 1) := oc_42 shX11_street_0
theorem dX11_street_1 : decode cX11_street 1 = .ok (.iload_n 1, 1) := oc_27 shX11_street_1
theorem dX11_street_2 : decode cX11_street 2 = .ok (.invokevirtual 114, 3) := oc_182 shX11_street_2
theorem dX11_street_5 : decode cX11_street 5 = .ok (.astore_n 3, 1) := oc_78 shX11_street_5
theorem dX11_street_6 : decode cX11_street 6 = .ok (.aload_n 3, 1) := oc_45 shX11_street_6
theorem dX11_street_7 : decode cX11_street 7 = .ok (.ifnull 13, 3) := oc_198 shX11_street_7 sgw_0_13
theorem dX11_street_10 : decode cX11_street 10 = .ok (.iload_n 2, 1) := oc_28 shX11_street_10
theorem dX11_street_11 : decode cX11_street 11 = .ok (.iconst 0, 1) := oc_3 shX11_street_11
theorem dX11_street_12 : decode cX11_street 12 = .ok (.bipush 9, 2) := oc_16 shX11_street_12 sgb_9
theorem dX11_street_14 : decode cX11_street 14 = .ok (.invokestatic 80, 3) := oc_184 shX11_street_14
theorem dX11_street_17 : decode cX11_street 17 = .ok (.ifCond .ne 5, 3) := oc_154 shX11_street_17 sgw_0_5
theorem dX11_street_22 : decode cX11_street 22 = .ok (.aload_n 3, 1) := oc_45 shX11_street_22
theorem dX11_street_23 : decode cX11_street 23 = .ok (.iload_n 2, 1) := oc_28 shX11_street_23
theorem dX11_street_24 : decode cX11_street 24 = .ok (.putfield 260, 3) := oc_181 shX11_street_24
theorem dX11_street_27 : decode cX11_street 27 = .ok (.iconst 1, 1) := oc_4 shX11_street_27
theorem dX11_street_28 : decode cX11_street 28 = .ok (.ireturn, 1) := oc_172 shX11_street_28
theorem dX11_street_20 : decode cX11_street 20 = .ok (.iconst 0, 1) := oc_3 shX11_street_20
theorem dX11_street_21 : decode cX11_street 21 = .ok (.ireturn, 1) := oc_172 shX11_street_21
noncomputable def sxX11_offers_50 : List UInt8 := []
noncomputable def sxX11_offers_49 : List UInt8 := 172 :: sxX11_offers_50
noncomputable def sxX11_offers_48 : List UInt8 := 4 :: sxX11_offers_49
noncomputable def sxX11_offers_45 : List UInt8 := 181 :: 1 :: 197 :: sxX11_offers_48
noncomputable def sxX11_offers_44 : List UInt8 := 29 :: sxX11_offers_45
noncomputable def sxX11_offers_42 : List UInt8 := 25 :: 4 :: sxX11_offers_44
noncomputable def sxX11_offers_39 : List UInt8 := 181 :: 1 :: 194 :: sxX11_offers_42
noncomputable def sxX11_offers_38 : List UInt8 := 28 :: sxX11_offers_39
noncomputable def sxX11_offers_36 : List UInt8 := 25 :: 4 :: sxX11_offers_38
noncomputable def sxX11_offers_35 : List UInt8 := 172 :: sxX11_offers_36
noncomputable def sxX11_offers_34 : List UInt8 := 3 :: sxX11_offers_35
noncomputable def sxX11_offers_31 : List UInt8 := 154 :: 0 :: 5 :: sxX11_offers_34
noncomputable def sxX11_offers_28 : List UInt8 := 184 :: 0 :: 80 :: sxX11_offers_31
noncomputable def sxX11_offers_25 : List UInt8 := 17 :: 0 :: 200 :: sxX11_offers_28
noncomputable def sxX11_offers_24 : List UInt8 := 3 :: sxX11_offers_25
noncomputable def sxX11_offers_23 : List UInt8 := 29 :: sxX11_offers_24
noncomputable def sxX11_offers_20 : List UInt8 := 153 :: 0 :: 14 :: sxX11_offers_23
noncomputable def sxX11_offers_17 : List UInt8 := 184 :: 0 :: 80 :: sxX11_offers_20
noncomputable def sxX11_offers_14 : List UInt8 := 17 :: 0 :: 200 :: sxX11_offers_17
noncomputable def sxX11_offers_13 : List UInt8 := 3 :: sxX11_offers_14
noncomputable def sxX11_offers_12 : List UInt8 := 28 :: sxX11_offers_13
noncomputable def sxX11_offers_9 : List UInt8 := 198 :: 0 :: 25 :: sxX11_offers_12
noncomputable def sxX11_offers_7 : List UInt8 := 25 :: 4 :: sxX11_offers_9
noncomputable def sxX11_offers_5 : List UInt8 := 58 :: 4 :: sxX11_offers_7
noncomputable def sxX11_offers_2 : List UInt8 := 182 :: 0 :: 114 :: sxX11_offers_5
noncomputable def sxX11_offers_1 : List UInt8 := 27 :: sxX11_offers_2
noncomputable def sxX11_offers_0 : List UInt8 := 42 :: sxX11_offers_1
theorem shX11_offers_0 : cX11_offers.data.toList.drop 0 = sxX11_offers_0 := rfl
theorem shX11_offers_1 : cX11_offers.data.toList.drop 1 = sxX11_offers_1 := dSn 1 shX11_offers_0
theorem shX11_offers_2 : cX11_offers.data.toList.drop 2 = sxX11_offers_2 := dSn 1 shX11_offers_1
theorem shX11_offers_5 : cX11_offers.data.toList.drop 5 = sxX11_offers_5 := dSn 3 shX11_offers_2
theorem shX11_offers_7 : cX11_offers.data.toList.drop 7 = sxX11_offers_7 := dSn 2 shX11_offers_5
theorem shX11_offers_9 : cX11_offers.data.toList.drop 9 = sxX11_offers_9 := dSn 2 shX11_offers_7
theorem shX11_offers_12 : cX11_offers.data.toList.drop 12 = sxX11_offers_12 := dSn 3 shX11_offers_9
theorem shX11_offers_13 : cX11_offers.data.toList.drop 13 = sxX11_offers_13 := dSn 1 shX11_offers_12
theorem shX11_offers_14 : cX11_offers.data.toList.drop 14 = sxX11_offers_14 := dSn 1 shX11_offers_13
theorem shX11_offers_17 : cX11_offers.data.toList.drop 17 = sxX11_offers_17 := dSn 3 shX11_offers_14
theorem shX11_offers_20 : cX11_offers.data.toList.drop 20 = sxX11_offers_20 := dSn 3 shX11_offers_17
theorem shX11_offers_23 : cX11_offers.data.toList.drop 23 = sxX11_offers_23 := dSn 3 shX11_offers_20
theorem shX11_offers_24 : cX11_offers.data.toList.drop 24 = sxX11_offers_24 := dSn 1 shX11_offers_23
theorem shX11_offers_25 : cX11_offers.data.toList.drop 25 = sxX11_offers_25 := dSn 1 shX11_offers_24
theorem shX11_offers_28 : cX11_offers.data.toList.drop 28 = sxX11_offers_28 := dSn 3 shX11_offers_25
theorem shX11_offers_31 : cX11_offers.data.toList.drop 31 = sxX11_offers_31 := dSn 3 shX11_offers_28
theorem shX11_offers_34 : cX11_offers.data.toList.drop 34 = sxX11_offers_34 := dSn 3 shX11_offers_31
theorem shX11_offers_35 : cX11_offers.data.toList.drop 35 = sxX11_offers_35 := dSn 1 shX11_offers_34
theorem shX11_offers_36 : cX11_offers.data.toList.drop 36 = sxX11_offers_36 := dSn 1 shX11_offers_35
theorem shX11_offers_38 : cX11_offers.data.toList.drop 38 = sxX11_offers_38 := dSn 2 shX11_offers_36
theorem shX11_offers_39 : cX11_offers.data.toList.drop 39 = sxX11_offers_39 := dSn 1 shX11_offers_38
theorem shX11_offers_42 : cX11_offers.data.toList.drop 42 = sxX11_offers_42 := dSn 3 shX11_offers_39
theorem shX11_offers_44 : cX11_offers.data.toList.drop 44 = sxX11_offers_44 := dSn 2 shX11_offers_42
theorem shX11_offers_45 : cX11_offers.data.toList.drop 45 = sxX11_offers_45 := dSn 1 shX11_offers_44
theorem shX11_offers_48 : cX11_offers.data.toList.drop 48 = sxX11_offers_48 := dSn 3 shX11_offers_45
theorem shX11_offers_49 : cX11_offers.data.toList.drop 49 = sxX11_offers_49 := dSn 1 shX11_offers_48
theorem dX11_offers_0 : decode cX11_offers 0 = .ok (.aload_n 0, 1) := oc_42 shX11_offers_0
theorem dX11_offers_1 : decode cX11_offers 1 = .ok (.iload_n 1, 1) := oc_27 shX11_offers_1
theorem dX11_offers_2 : decode cX11_offers 2 = .ok (.invokevirtual 114, 3) := oc_182 shX11_offers_2
theorem dX11_offers_5 : decode cX11_offers 5 = .ok (.astore 4, 2) := oc_58 shX11_offers_5
theorem dX11_offers_7 : decode cX11_offers 7 = .ok (.aload 4, 2) := oc_25 shX11_offers_7
theorem dX11_offers_9 : decode cX11_offers 9 = .ok (.ifnull 25, 3) := oc_198 shX11_offers_9 sgw_0_25
theorem dX11_offers_12 : decode cX11_offers 12 = .ok (.iload_n 2, 1) := oc_28 shX11_offers_12
theorem dX11_offers_13 : decode cX11_offers 13 = .ok (.iconst 0, 1) := oc_3 shX11_offers_13
theorem dX11_offers_14 : decode cX11_offers 14 = .ok (.sipush 200, 3) := oc_17 shX11_offers_14 sgw_0_200
theorem dX11_offers_17 : decode cX11_offers 17 = .ok (.invokestatic 80, 3) := oc_184 shX11_offers_17
theorem dX11_offers_20 : decode cX11_offers 20 = .ok (.ifCond .eq 14, 3) := oc_153 shX11_offers_20 sgw_0_14
theorem dX11_offers_23 : decode cX11_offers 23 = .ok (.iload_n 3, 1) := oc_29 shX11_offers_23
theorem dX11_offers_24 : decode cX11_offers 24 = .ok (.iconst 0, 1) := oc_3 shX11_offers_24
theorem dX11_offers_25 : decode cX11_offers 25 = .ok (.sipush 200, 3) := oc_17 shX11_offers_25 sgw_0_200
theorem dX11_offers_28 : decode cX11_offers 28 = .ok (.invokestatic 80, 3) := oc_184 shX11_offers_28
theorem dX11_offers_31 : decode cX11_offers 31 = .ok (.ifCond .ne 5, 3) := oc_154 shX11_offers_31 sgw_0_5
theorem dX11_offers_36 : decode cX11_offers 36 = .ok (.aload 4, 2) := oc_25 shX11_offers_36
theorem dX11_offers_38 : decode cX11_offers 38 = .ok (.iload_n 2, 1) := oc_28 shX11_offers_38
theorem dX11_offers_39 : decode cX11_offers 39 = .ok (.putfield 450, 3) := oc_181 shX11_offers_39
theorem dX11_offers_42 : decode cX11_offers 42 = .ok (.aload 4, 2) := oc_25 shX11_offers_42
theorem dX11_offers_44 : decode cX11_offers 44 = .ok (.iload_n 3, 1) := oc_29 shX11_offers_44
theorem dX11_offers_45 : decode cX11_offers 45 = .ok (.putfield 453, 3) := oc_181 shX11_offers_45
theorem dX11_offers_48 : decode cX11_offers 48 = .ok (.iconst 1, 1) := oc_4 shX11_offers_48
theorem dX11_offers_49 : decode cX11_offers 49 = .ok (.ireturn, 1) := oc_172 shX11_offers_49
theorem dX11_offers_34 : decode cX11_offers 34 = .ok (.iconst 0, 1) := oc_3 shX11_offers_34
theorem dX11_offers_35 : decode cX11_offers 35 = .ok (.ireturn, 1) := oc_172 shX11_offers_35
noncomputable def sxX10_way_14 : List UInt8 := []
noncomputable def sxX10_way_13 : List UInt8 := 172 :: sxX10_way_14
noncomputable def sxX10_way_12 : List UInt8 := 96 :: sxX10_way_13
noncomputable def sxX10_way_9 : List UInt8 := 184 :: 0 :: 30 :: sxX10_way_12
noncomputable def sxX10_way_8 : List UInt8 := 100 :: sxX10_way_9
noncomputable def sxX10_way_7 : List UInt8 := 29 :: sxX10_way_8
noncomputable def sxX10_way_6 : List UInt8 := 27 :: sxX10_way_7
noncomputable def sxX10_way_3 : List UInt8 := 184 :: 0 :: 30 :: sxX10_way_6
noncomputable def sxX10_way_2 : List UInt8 := 100 :: sxX10_way_3
noncomputable def sxX10_way_1 : List UInt8 := 28 :: sxX10_way_2
noncomputable def sxX10_way_0 : List UInt8 := 26 :: sxX10_way_1
theorem shX10_way_0 : cX10_way.data.toList.drop 0 = sxX10_way_0 := rfl
theorem shX10_way_1 : cX10_way.data.toList.drop 1 = sxX10_way_1 := dSn 1 shX10_way_0
theorem shX10_way_2 : cX10_way.data.toList.drop 2 = sxX10_way_2 := dSn 1 shX10_way_1
theorem shX10_way_3 : cX10_way.data.toList.drop 3 = sxX10_way_3 := dSn 1 shX10_way_2
theorem shX10_way_6 : cX10_way.data.toList.drop 6 = sxX10_way_6 := dSn 3 shX10_way_3
theorem shX10_way_7 : cX10_way.data.toList.drop 7 = sxX10_way_7 := dSn 1 shX10_way_6
theorem shX10_way_8 : cX10_way.data.toList.drop 8 = sxX10_way_8 := dSn 1 shX10_way_7
theorem shX10_way_9 : cX10_way.data.toList.drop 9 = sxX10_way_9 := dSn 1 shX10_way_8
theorem shX10_way_12 : cX10_way.data.toList.drop 12 = sxX10_way_12 := dSn 3 shX10_way_9
theorem shX10_way_13 : cX10_way.data.toList.drop 13 = sxX10_way_13 := dSn 1 shX10_way_12
theorem dX10_way_0 : decode cX10_way 0 = .ok (.iload_n 0, 1) := oc_26 shX10_way_0
theorem dX10_way_1 : decode cX10_way 1 = .ok (.iload_n 2, 1) := oc_28 shX10_way_1
theorem dX10_way_2 : decode cX10_way 2 = .ok (.isub, 1) := oc_100 shX10_way_2
theorem dX10_way_3 : decode cX10_way 3 = .ok (.invokestatic 30, 3) := oc_184 shX10_way_3
theorem dX10_way_6 : decode cX10_way 6 = .ok (.iload_n 1, 1) := oc_27 shX10_way_6
theorem dX10_way_7 : decode cX10_way 7 = .ok (.iload_n 3, 1) := oc_29 shX10_way_7
theorem dX10_way_8 : decode cX10_way 8 = .ok (.isub, 1) := oc_100 shX10_way_8
theorem dX10_way_9 : decode cX10_way 9 = .ok (.invokestatic 30, 3) := oc_184 shX10_way_9
theorem dX10_way_12 : decode cX10_way 12 = .ok (.iadd, 1) := oc_96 shX10_way_12
theorem dX10_way_13 : decode cX10_way 13 = .ok (.ireturn, 1) := oc_172 shX10_way_13
noncomputable def sxX10_clear_6 : List UInt8 := []
noncomputable def sxX10_clear_5 : List UInt8 := 177 :: sxX10_clear_6
noncomputable def sxX10_clear_2 : List UInt8 := 181 :: 0 :: 36 :: sxX10_clear_5
noncomputable def sxX10_clear_1 : List UInt8 := 3 :: sxX10_clear_2
noncomputable def sxX10_clear_0 : List UInt8 := 42 :: sxX10_clear_1
theorem shX10_clear_0 : cX10_clear.data.toList.drop 0 = sxX10_clear_0 := rfl
theorem shX10_clear_1 : cX10_clear.data.toList.drop 1 = sxX10_clear_1 := dSn 1 shX10_clear_0
theorem shX10_clear_2 : cX10_clear.data.toList.drop 2 = sxX10_clear_2 := dSn 1 shX10_clear_1
theorem shX10_clear_5 : cX10_clear.data.toList.drop 5 = sxX10_clear_5 := dSn 3 shX10_clear_2
theorem dX10_clear_0 : decode cX10_clear 0 = .ok (.aload_n 0, 1) := oc_42 shX10_clear_0
theorem dX10_clear_1 : decode cX10_clear 1 = .ok (.iconst 0, 1) := oc_3 shX10_clear_1
theorem dX10_clear_2 : decode cX10_clear 2 = .ok (.putfield 36, 3) := oc_181 shX10_clear_2
theorem dX10_clear_5 : decode cX10_clear 5 = .ok (.return_, 1) := oc_177 shX10_clear_5
noncomputable def sxX10_add_65 : List UInt8 := []
noncomputable def sxX10_add_64 : List UInt8 := 177 :: sxX10_add_65
noncomputable def sxX10_add_61 : List UInt8 := 181 :: 0 :: 36 :: sxX10_add_64
noncomputable def sxX10_add_60 : List UInt8 := 96 :: sxX10_add_61
noncomputable def sxX10_add_59 : List UInt8 := 4 :: sxX10_add_60
noncomputable def sxX10_add_56 : List UInt8 := 180 :: 0 :: 36 :: sxX10_add_59
noncomputable def sxX10_add_55 : List UInt8 := 89 :: sxX10_add_56
noncomputable def sxX10_add_54 : List UInt8 := 42 :: sxX10_add_55
noncomputable def sxX10_add_51 : List UInt8 := 184 :: 0 :: 40 :: sxX10_add_54
noncomputable def sxX10_add_48 : List UInt8 := 180 :: 0 :: 51 :: sxX10_add_51
noncomputable def sxX10_add_47 : List UInt8 := 44 :: sxX10_add_48
noncomputable def sxX10_add_44 : List UInt8 := 180 :: 0 :: 36 :: sxX10_add_47
noncomputable def sxX10_add_43 : List UInt8 := 42 :: sxX10_add_44
noncomputable def sxX10_add_40 : List UInt8 := 180 :: 0 :: 21 :: sxX10_add_43
noncomputable def sxX10_add_39 : List UInt8 := 42 :: sxX10_add_40
noncomputable def sxX10_add_36 : List UInt8 := 184 :: 0 :: 40 :: sxX10_add_39
noncomputable def sxX10_add_33 : List UInt8 := 180 :: 0 :: 46 :: sxX10_add_36
noncomputable def sxX10_add_32 : List UInt8 := 44 :: sxX10_add_33
noncomputable def sxX10_add_29 : List UInt8 := 180 :: 0 :: 36 :: sxX10_add_32
noncomputable def sxX10_add_28 : List UInt8 := 42 :: sxX10_add_29
noncomputable def sxX10_add_25 : List UInt8 := 180 :: 0 :: 18 :: sxX10_add_28
noncomputable def sxX10_add_24 : List UInt8 := 42 :: sxX10_add_25
noncomputable def sxX10_add_21 : List UInt8 := 184 :: 0 :: 40 :: sxX10_add_24
noncomputable def sxX10_add_20 : List UInt8 := 29 :: sxX10_add_21
noncomputable def sxX10_add_17 : List UInt8 := 180 :: 0 :: 36 :: sxX10_add_20
noncomputable def sxX10_add_16 : List UInt8 := 42 :: sxX10_add_17
noncomputable def sxX10_add_13 : List UInt8 := 180 :: 0 :: 15 :: sxX10_add_16
noncomputable def sxX10_add_12 : List UInt8 := 42 :: sxX10_add_13
noncomputable def sxX10_add_9 : List UInt8 := 184 :: 0 :: 40 :: sxX10_add_12
noncomputable def sxX10_add_8 : List UInt8 := 27 :: sxX10_add_9
noncomputable def sxX10_add_5 : List UInt8 := 180 :: 0 :: 36 :: sxX10_add_8
noncomputable def sxX10_add_4 : List UInt8 := 42 :: sxX10_add_5
noncomputable def sxX10_add_1 : List UInt8 := 180 :: 0 :: 9 :: sxX10_add_4
noncomputable def sxX10_add_0 : List UInt8 := 42 :: sxX10_add_1
theorem shX10_add_0 : cX10_add.data.toList.drop 0 = sxX10_add_0 := rfl
theorem shX10_add_1 : cX10_add.data.toList.drop 1 = sxX10_add_1 := dSn 1 shX10_add_0
theorem shX10_add_4 : cX10_add.data.toList.drop 4 = sxX10_add_4 := dSn 3 shX10_add_1
theorem shX10_add_5 : cX10_add.data.toList.drop 5 = sxX10_add_5 := dSn 1 shX10_add_4
theorem shX10_add_8 : cX10_add.data.toList.drop 8 = sxX10_add_8 := dSn 3 shX10_add_5
theorem shX10_add_9 : cX10_add.data.toList.drop 9 = sxX10_add_9 := dSn 1 shX10_add_8
theorem shX10_add_12 : cX10_add.data.toList.drop 12 = sxX10_add_12 := dSn 3 shX10_add_9
theorem shX10_add_13 : cX10_add.data.toList.drop 13 = sxX10_add_13 := dSn 1 shX10_add_12
theorem shX10_add_16 : cX10_add.data.toList.drop 16 = sxX10_add_16 := dSn 3 shX10_add_13
theorem shX10_add_17 : cX10_add.data.toList.drop 17 = sxX10_add_17 := dSn 1 shX10_add_16
theorem shX10_add_20 : cX10_add.data.toList.drop 20 = sxX10_add_20 := dSn 3 shX10_add_17
theorem shX10_add_21 : cX10_add.data.toList.drop 21 = sxX10_add_21 := dSn 1 shX10_add_20
theorem shX10_add_24 : cX10_add.data.toList.drop 24 = sxX10_add_24 := dSn 3 shX10_add_21
theorem shX10_add_25 : cX10_add.data.toList.drop 25 = sxX10_add_25 := dSn 1 shX10_add_24
theorem shX10_add_28 : cX10_add.data.toList.drop 28 = sxX10_add_28 := dSn 3 shX10_add_25
theorem shX10_add_29 : cX10_add.data.toList.drop 29 = sxX10_add_29 := dSn 1 shX10_add_28
theorem shX10_add_32 : cX10_add.data.toList.drop 32 = sxX10_add_32 := dSn 3 shX10_add_29
theorem shX10_add_33 : cX10_add.data.toList.drop 33 = sxX10_add_33 := dSn 1 shX10_add_32
theorem shX10_add_36 : cX10_add.data.toList.drop 36 = sxX10_add_36 := dSn 3 shX10_add_33
theorem shX10_add_39 : cX10_add.data.toList.drop 39 = sxX10_add_39 := dSn 3 shX10_add_36
theorem shX10_add_40 : cX10_add.data.toList.drop 40 = sxX10_add_40 := dSn 1 shX10_add_39
theorem shX10_add_43 : cX10_add.data.toList.drop 43 = sxX10_add_43 := dSn 3 shX10_add_40
theorem shX10_add_44 : cX10_add.data.toList.drop 44 = sxX10_add_44 := dSn 1 shX10_add_43
theorem shX10_add_47 : cX10_add.data.toList.drop 47 = sxX10_add_47 := dSn 3 shX10_add_44
theorem shX10_add_48 : cX10_add.data.toList.drop 48 = sxX10_add_48 := dSn 1 shX10_add_47
theorem shX10_add_51 : cX10_add.data.toList.drop 51 = sxX10_add_51 := dSn 3 shX10_add_48
theorem shX10_add_54 : cX10_add.data.toList.drop 54 = sxX10_add_54 := dSn 3 shX10_add_51
theorem shX10_add_55 : cX10_add.data.toList.drop 55 = sxX10_add_55 := dSn 1 shX10_add_54
theorem shX10_add_56 : cX10_add.data.toList.drop 56 = sxX10_add_56 := dSn 1 shX10_add_55
theorem shX10_add_59 : cX10_add.data.toList.drop 59 = sxX10_add_59 := dSn 3 shX10_add_56
theorem shX10_add_60 : cX10_add.data.toList.drop 60 = sxX10_add_60 := dSn 1 shX10_add_59
theorem shX10_add_61 : cX10_add.data.toList.drop 61 = sxX10_add_61 := dSn 1 shX10_add_60
theorem shX10_add_64 : cX10_add.data.toList.drop 64 = sxX10_add_64 := dSn 3 shX10_add_61
theorem dX10_add_0 : decode cX10_add 0 = .ok (.aload_n 0, 1) := oc_42 shX10_add_0
theorem dX10_add_1 : decode cX10_add 1 = .ok (.getfield 9, 3) := oc_180 shX10_add_1
theorem dX10_add_4 : decode cX10_add 4 = .ok (.aload_n 0, 1) := oc_42 shX10_add_4
theorem dX10_add_5 : decode cX10_add 5 = .ok (.getfield 36, 3) := oc_180 shX10_add_5
theorem dX10_add_8 : decode cX10_add 8 = .ok (.iload_n 1, 1) := oc_27 shX10_add_8
theorem dX10_add_9 : decode cX10_add 9 = .ok (.invokestatic 40, 3) := oc_184 shX10_add_9
theorem dX10_add_12 : decode cX10_add 12 = .ok (.aload_n 0, 1) := oc_42 shX10_add_12
theorem dX10_add_13 : decode cX10_add 13 = .ok (.getfield 15, 3) := oc_180 shX10_add_13
theorem dX10_add_16 : decode cX10_add 16 = .ok (.aload_n 0, 1) := oc_42 shX10_add_16
theorem dX10_add_17 : decode cX10_add 17 = .ok (.getfield 36, 3) := oc_180 shX10_add_17
theorem dX10_add_20 : decode cX10_add 20 = .ok (.iload_n 3, 1) := oc_29 shX10_add_20
theorem dX10_add_21 : decode cX10_add 21 = .ok (.invokestatic 40, 3) := oc_184 shX10_add_21
theorem dX10_add_24 : decode cX10_add 24 = .ok (.aload_n 0, 1) := oc_42 shX10_add_24
theorem dX10_add_25 : decode cX10_add 25 = .ok (.getfield 18, 3) := oc_180 shX10_add_25
theorem dX10_add_28 : decode cX10_add 28 = .ok (.aload_n 0, 1) := oc_42 shX10_add_28
theorem dX10_add_29 : decode cX10_add 29 = .ok (.getfield 36, 3) := oc_180 shX10_add_29
theorem dX10_add_32 : decode cX10_add 32 = .ok (.aload_n 2, 1) := oc_44 shX10_add_32
theorem dX10_add_33 : decode cX10_add 33 = .ok (.getfield 46, 3) := oc_180 shX10_add_33
theorem dX10_add_36 : decode cX10_add 36 = .ok (.invokestatic 40, 3) := oc_184 shX10_add_36
theorem dX10_add_39 : decode cX10_add 39 = .ok (.aload_n 0, 1) := oc_42 shX10_add_39
theorem dX10_add_40 : decode cX10_add 40 = .ok (.getfield 21, 3) := oc_180 shX10_add_40
theorem dX10_add_43 : decode cX10_add 43 = .ok (.aload_n 0, 1) := oc_42 shX10_add_43
theorem dX10_add_44 : decode cX10_add 44 = .ok (.getfield 36, 3) := oc_180 shX10_add_44
theorem dX10_add_47 : decode cX10_add 47 = .ok (.aload_n 2, 1) := oc_44 shX10_add_47
theorem dX10_add_48 : decode cX10_add 48 = .ok (.getfield 51, 3) := oc_180 shX10_add_48
theorem dX10_add_51 : decode cX10_add 51 = .ok (.invokestatic 40, 3) := oc_184 shX10_add_51
theorem dX10_add_54 : decode cX10_add 54 = .ok (.aload_n 0, 1) := oc_42 shX10_add_54
theorem dX10_add_55 : decode cX10_add 55 = .ok (.dup, 1) := oc_89 shX10_add_55
theorem dX10_add_56 : decode cX10_add 56 = .ok (.getfield 36, 3) := oc_180 shX10_add_56
theorem dX10_add_59 : decode cX10_add 59 = .ok (.iconst 1, 1) := oc_4 shX10_add_59
theorem dX10_add_60 : decode cX10_add 60 = .ok (.iadd, 1) := oc_96 shX10_add_60
theorem dX10_add_61 : decode cX10_add 61 = .ok (.putfield 36, 3) := oc_181 shX10_add_61
theorem dX10_add_64 : decode cX10_add 64 = .ok (.return_, 1) := oc_177 shX10_add_64
noncomputable def sxX10_between_36 : List UInt8 := []
noncomputable def sxX10_between_35 : List UInt8 := 172 :: sxX10_between_36
noncomputable def sxX10_between_32 : List UInt8 := 184 :: 0 :: 58 :: sxX10_between_35
noncomputable def sxX10_between_29 : List UInt8 := 184 :: 0 :: 54 :: sxX10_between_32
noncomputable def sxX10_between_28 : List UInt8 := 28 :: sxX10_between_29
noncomputable def sxX10_between_25 : List UInt8 := 180 :: 0 :: 21 :: sxX10_between_28
noncomputable def sxX10_between_24 : List UInt8 := 42 :: sxX10_between_25
noncomputable def sxX10_between_21 : List UInt8 := 184 :: 0 :: 54 :: sxX10_between_24
noncomputable def sxX10_between_20 : List UInt8 := 28 :: sxX10_between_21
noncomputable def sxX10_between_17 : List UInt8 := 180 :: 0 :: 18 :: sxX10_between_20
noncomputable def sxX10_between_16 : List UInt8 := 42 :: sxX10_between_17
noncomputable def sxX10_between_13 : List UInt8 := 184 :: 0 :: 54 :: sxX10_between_16
noncomputable def sxX10_between_12 : List UInt8 := 27 :: sxX10_between_13
noncomputable def sxX10_between_9 : List UInt8 := 180 :: 0 :: 21 :: sxX10_between_12
noncomputable def sxX10_between_8 : List UInt8 := 42 :: sxX10_between_9
noncomputable def sxX10_between_5 : List UInt8 := 184 :: 0 :: 54 :: sxX10_between_8
noncomputable def sxX10_between_4 : List UInt8 := 27 :: sxX10_between_5
noncomputable def sxX10_between_1 : List UInt8 := 180 :: 0 :: 18 :: sxX10_between_4
noncomputable def sxX10_between_0 : List UInt8 := 42 :: sxX10_between_1
theorem shX10_between_0 : cX10_between.data.toList.drop 0 = sxX10_between_0 := rfl
theorem shX10_between_1 : cX10_between.data.toList.drop 1 = sxX10_between_1 := dSn 1 shX10_between_0
theorem shX10_between_4 : cX10_between.data.toList.drop 4 = sxX10_between_4 := dSn 3 shX10_between_1
theorem shX10_between_5 : cX10_between.data.toList.drop 5 = sxX10_between_5 := dSn 1 shX10_between_4
theorem shX10_between_8 : cX10_between.data.toList.drop 8 = sxX10_between_8 := dSn 3 shX10_between_5
theorem shX10_between_9 : cX10_between.data.toList.drop 9 = sxX10_between_9 := dSn 1 shX10_between_8
theorem shX10_between_12 : cX10_between.data.toList.drop 12 = sxX10_between_12 := dSn 3 shX10_between_9
theorem shX10_between_13 : cX10_between.data.toList.drop 13 = sxX10_between_13 := dSn 1 shX10_between_12
theorem shX10_between_16 : cX10_between.data.toList.drop 16 = sxX10_between_16 := dSn 3 shX10_between_13
theorem shX10_between_17 : cX10_between.data.toList.drop 17 = sxX10_between_17 := dSn 1 shX10_between_16
theorem shX10_between_20 : cX10_between.data.toList.drop 20 = sxX10_between_20 := dSn 3 shX10_between_17
theorem shX10_between_21 : cX10_between.data.toList.drop 21 = sxX10_between_21 := dSn 1 shX10_between_20
theorem shX10_between_24 : cX10_between.data.toList.drop 24 = sxX10_between_24 := dSn 3 shX10_between_21
theorem shX10_between_25 : cX10_between.data.toList.drop 25 = sxX10_between_25 := dSn 1 shX10_between_24
theorem shX10_between_28 : cX10_between.data.toList.drop 28 = sxX10_between_28 := dSn 3 shX10_between_25
theorem shX10_between_29 : cX10_between.data.toList.drop 29 = sxX10_between_29 := dSn 1 shX10_between_28
theorem shX10_between_32 : cX10_between.data.toList.drop 32 = sxX10_between_32 := dSn 3 shX10_between_29
theorem shX10_between_35 : cX10_between.data.toList.drop 35 = sxX10_between_35 := dSn 3 shX10_between_32
theorem dX10_between_0 : decode cX10_between 0 = .ok (.aload_n 0, 1) := oc_42 shX10_between_0
theorem dX10_between_1 : decode cX10_between 1 = .ok (.getfield 18, 3) := oc_180 shX10_between_1
theorem dX10_between_4 : decode cX10_between 4 = .ok (.iload_n 1, 1) := oc_27 shX10_between_4
theorem dX10_between_5 : decode cX10_between 5 = .ok (.invokestatic 54, 3) := oc_184 shX10_between_5
theorem dX10_between_8 : decode cX10_between 8 = .ok (.aload_n 0, 1) := oc_42 shX10_between_8
theorem dX10_between_9 : decode cX10_between 9 = .ok (.getfield 21, 3) := oc_180 shX10_between_9
theorem dX10_between_12 : decode cX10_between 12 = .ok (.iload_n 1, 1) := oc_27 shX10_between_12
theorem dX10_between_13 : decode cX10_between 13 = .ok (.invokestatic 54, 3) := oc_184 shX10_between_13
theorem dX10_between_16 : decode cX10_between 16 = .ok (.aload_n 0, 1) := oc_42 shX10_between_16
theorem dX10_between_17 : decode cX10_between 17 = .ok (.getfield 18, 3) := oc_180 shX10_between_17
theorem dX10_between_20 : decode cX10_between 20 = .ok (.iload_n 2, 1) := oc_28 shX10_between_20
theorem dX10_between_21 : decode cX10_between 21 = .ok (.invokestatic 54, 3) := oc_184 shX10_between_21
theorem dX10_between_24 : decode cX10_between 24 = .ok (.aload_n 0, 1) := oc_42 shX10_between_24
theorem dX10_between_25 : decode cX10_between 25 = .ok (.getfield 21, 3) := oc_180 shX10_between_25
theorem dX10_between_28 : decode cX10_between 28 = .ok (.iload_n 2, 1) := oc_28 shX10_between_28
theorem dX10_between_29 : decode cX10_between 29 = .ok (.invokestatic 54, 3) := oc_184 shX10_between_29
theorem dX10_between_32 : decode cX10_between 32 = .ok (.invokestatic 58, 3) := oc_184 shX10_between_32
theorem dX10_between_35 : decode cX10_between 35 = .ok (.ireturn, 1) := oc_172 shX10_between_35
noncomputable def sxX10_through_31 : List UInt8 := []
noncomputable def sxX10_through_30 : List UInt8 := 172 :: sxX10_through_31
noncomputable def sxX10_through_29 : List UInt8 := 96 :: sxX10_through_30
noncomputable def sxX10_through_26 : List UInt8 := 184 :: 0 :: 54 :: sxX10_through_29
noncomputable def sxX10_through_25 : List UInt8 := 96 :: sxX10_through_26
noncomputable def sxX10_through_24 : List UInt8 := 28 :: sxX10_through_25
noncomputable def sxX10_through_23 : List UInt8 := 104 :: sxX10_through_24
noncomputable def sxX10_through_21 : List UInt8 := 16 :: 8 :: sxX10_through_23
noncomputable def sxX10_through_19 : List UInt8 := 21 :: 4 :: sxX10_through_21
noncomputable def sxX10_through_16 : List UInt8 := 180 :: 0 :: 24 :: sxX10_through_19
noncomputable def sxX10_through_15 : List UInt8 := 42 :: sxX10_through_16
noncomputable def sxX10_through_12 : List UInt8 := 182 :: 0 :: 66 :: sxX10_through_15
noncomputable def sxX10_through_11 : List UInt8 := 28 :: sxX10_through_12
noncomputable def sxX10_through_10 : List UInt8 := 27 :: sxX10_through_11
noncomputable def sxX10_through_9 : List UInt8 := 42 :: sxX10_through_10
noncomputable def sxX10_through_7 : List UInt8 := 54 :: 4 :: sxX10_through_9
noncomputable def sxX10_through_6 : List UInt8 := 126 :: sxX10_through_7
noncomputable def sxX10_through_5 : List UInt8 := 130 :: sxX10_through_6
noncomputable def sxX10_through_4 : List UInt8 := 2 :: sxX10_through_5
noncomputable def sxX10_through_3 : List UInt8 := 120 :: sxX10_through_4
noncomputable def sxX10_through_2 : List UInt8 := 28 :: sxX10_through_3
noncomputable def sxX10_through_1 : List UInt8 := 4 :: sxX10_through_2
noncomputable def sxX10_through_0 : List UInt8 := 29 :: sxX10_through_1
theorem shX10_through_0 : cX10_through.data.toList.drop 0 = sxX10_through_0 := rfl
theorem shX10_through_1 : cX10_through.data.toList.drop 1 = sxX10_through_1 := dSn 1 shX10_through_0
theorem shX10_through_2 : cX10_through.data.toList.drop 2 = sxX10_through_2 := dSn 1 shX10_through_1
theorem shX10_through_3 : cX10_through.data.toList.drop 3 = sxX10_through_3 := dSn 1 shX10_through_2
theorem shX10_through_4 : cX10_through.data.toList.drop 4 = sxX10_through_4 := dSn 1 shX10_through_3
theorem shX10_through_5 : cX10_through.data.toList.drop 5 = sxX10_through_5 := dSn 1 shX10_through_4
theorem shX10_through_6 : cX10_through.data.toList.drop 6 = sxX10_through_6 := dSn 1 shX10_through_5
theorem shX10_through_7 : cX10_through.data.toList.drop 7 = sxX10_through_7 := dSn 1 shX10_through_6
theorem shX10_through_9 : cX10_through.data.toList.drop 9 = sxX10_through_9 := dSn 2 shX10_through_7
theorem shX10_through_10 : cX10_through.data.toList.drop 10 = sxX10_through_10 := dSn 1 shX10_through_9
theorem shX10_through_11 : cX10_through.data.toList.drop 11 = sxX10_through_11 := dSn 1 shX10_through_10
theorem shX10_through_12 : cX10_through.data.toList.drop 12 = sxX10_through_12 := dSn 1 shX10_through_11
theorem shX10_through_15 : cX10_through.data.toList.drop 15 = sxX10_through_15 := dSn 3 shX10_through_12
theorem shX10_through_16 : cX10_through.data.toList.drop 16 = sxX10_through_16 := dSn 1 shX10_through_15
theorem shX10_through_19 : cX10_through.data.toList.drop 19 = sxX10_through_19 := dSn 3 shX10_through_16
theorem shX10_through_21 : cX10_through.data.toList.drop 21 = sxX10_through_21 := dSn 2 shX10_through_19
theorem shX10_through_23 : cX10_through.data.toList.drop 23 = sxX10_through_23 := dSn 2 shX10_through_21
theorem shX10_through_24 : cX10_through.data.toList.drop 24 = sxX10_through_24 := dSn 1 shX10_through_23
theorem shX10_through_25 : cX10_through.data.toList.drop 25 = sxX10_through_25 := dSn 1 shX10_through_24
theorem shX10_through_26 : cX10_through.data.toList.drop 26 = sxX10_through_26 := dSn 1 shX10_through_25
theorem shX10_through_29 : cX10_through.data.toList.drop 29 = sxX10_through_29 := dSn 3 shX10_through_26
theorem shX10_through_30 : cX10_through.data.toList.drop 30 = sxX10_through_30 := dSn 1 shX10_through_29
theorem dX10_through_0 : decode cX10_through 0 = .ok (.iload_n 3, 1) := oc_29 shX10_through_0
theorem dX10_through_1 : decode cX10_through 1 = .ok (.iconst 1, 1) := oc_4 shX10_through_1
theorem dX10_through_2 : decode cX10_through 2 = .ok (.iload_n 2, 1) := oc_28 shX10_through_2
theorem dX10_through_3 : decode cX10_through 3 = .ok (.ishl, 1) := oc_120 shX10_through_3
theorem dX10_through_4 : decode cX10_through 4 = .ok (.iconst (-1), 1) := oc_2 shX10_through_4
theorem dX10_through_5 : decode cX10_through 5 = .ok (.ixor, 1) := oc_130 shX10_through_5
theorem dX10_through_6 : decode cX10_through 6 = .ok (.iand, 1) := oc_126 shX10_through_6
theorem dX10_through_7 : decode cX10_through 7 = .ok (.istore 4, 2) := oc_54 shX10_through_7
theorem dX10_through_9 : decode cX10_through 9 = .ok (.aload_n 0, 1) := oc_42 shX10_through_9
theorem dX10_through_10 : decode cX10_through 10 = .ok (.iload_n 1, 1) := oc_27 shX10_through_10
theorem dX10_through_11 : decode cX10_through 11 = .ok (.iload_n 2, 1) := oc_28 shX10_through_11
theorem dX10_through_12 : decode cX10_through 12 = .ok (.invokevirtual 66, 3) := oc_182 shX10_through_12
theorem dX10_through_15 : decode cX10_through 15 = .ok (.aload_n 0, 1) := oc_42 shX10_through_15
theorem dX10_through_16 : decode cX10_through 16 = .ok (.getfield 24, 3) := oc_180 shX10_through_16
theorem dX10_through_19 : decode cX10_through 19 = .ok (.iload 4, 2) := oc_21 shX10_through_19
theorem dX10_through_21 : decode cX10_through 21 = .ok (.bipush 8, 2) := oc_16 shX10_through_21 sgb_8
theorem dX10_through_23 : decode cX10_through 23 = .ok (.imul, 1) := oc_104 shX10_through_23
theorem dX10_through_24 : decode cX10_through 24 = .ok (.iload_n 2, 1) := oc_28 shX10_through_24
theorem dX10_through_25 : decode cX10_through 25 = .ok (.iadd, 1) := oc_96 shX10_through_25
theorem dX10_through_26 : decode cX10_through 26 = .ok (.invokestatic 54, 3) := oc_184 shX10_through_26
theorem dX10_through_29 : decode cX10_through 29 = .ok (.iadd, 1) := oc_96 shX10_through_29
theorem dX10_through_30 : decode cX10_through 30 = .ok (.ireturn, 1) := oc_172 shX10_through_30
noncomputable def sxX10_shortest_73 : List UInt8 := []
noncomputable def sxX10_shortest_72 : List UInt8 := 172 :: sxX10_shortest_73
noncomputable def sxX10_shortest_71 : List UInt8 := 29 :: sxX10_shortest_72
noncomputable def sxX10_shortest_68 : List UInt8 := 167 :: 0 :: 4 :: sxX10_shortest_71
noncomputable def sxX10_shortest_65 : List UInt8 := 182 :: 0 :: 66 :: sxX10_shortest_68
noncomputable def sxX10_shortest_64 : List UInt8 := 2 :: sxX10_shortest_65
noncomputable def sxX10_shortest_63 : List UInt8 := 27 :: sxX10_shortest_64
noncomputable def sxX10_shortest_62 : List UInt8 := 42 :: sxX10_shortest_63
noncomputable def sxX10_shortest_59 : List UInt8 := 160 :: 0 :: 12 :: sxX10_shortest_62
noncomputable def sxX10_shortest_58 : List UInt8 := 2 :: sxX10_shortest_59
noncomputable def sxX10_shortest_57 : List UInt8 := 29 :: sxX10_shortest_58
noncomputable def sxX10_shortest_54 : List UInt8 := 167 :: 255 :: 207 :: sxX10_shortest_57
noncomputable def sxX10_shortest_51 : List UInt8 := 132 :: 4 :: 1 :: sxX10_shortest_54
noncomputable def sxX10_shortest_50 : List UInt8 := 62 :: sxX10_shortest_51
noncomputable def sxX10_shortest_49 : List UInt8 := 29 :: sxX10_shortest_50
noncomputable def sxX10_shortest_46 : List UInt8 := 167 :: 0 :: 4 :: sxX10_shortest_49
noncomputable def sxX10_shortest_44 : List UInt8 := 21 :: 5 :: sxX10_shortest_46
noncomputable def sxX10_shortest_41 : List UInt8 := 162 :: 0 :: 8 :: sxX10_shortest_44
noncomputable def sxX10_shortest_40 : List UInt8 := 29 :: sxX10_shortest_41
noncomputable def sxX10_shortest_38 : List UInt8 := 21 :: 5 :: sxX10_shortest_40
noncomputable def sxX10_shortest_35 : List UInt8 := 159 :: 0 :: 9 :: sxX10_shortest_38
noncomputable def sxX10_shortest_34 : List UInt8 := 2 :: sxX10_shortest_35
noncomputable def sxX10_shortest_33 : List UInt8 := 29 :: sxX10_shortest_34
noncomputable def sxX10_shortest_31 : List UInt8 := 54 :: 5 :: sxX10_shortest_33
noncomputable def sxX10_shortest_28 : List UInt8 := 182 :: 0 :: 69 :: sxX10_shortest_31
noncomputable def sxX10_shortest_27 : List UInt8 := 28 :: sxX10_shortest_28
noncomputable def sxX10_shortest_25 : List UInt8 := 21 :: 4 :: sxX10_shortest_27
noncomputable def sxX10_shortest_24 : List UInt8 := 27 :: sxX10_shortest_25
noncomputable def sxX10_shortest_23 : List UInt8 := 42 :: sxX10_shortest_24
noncomputable def sxX10_shortest_20 : List UInt8 := 153 :: 0 :: 31 :: sxX10_shortest_23
noncomputable def sxX10_shortest_19 : List UInt8 := 126 :: sxX10_shortest_20
noncomputable def sxX10_shortest_18 : List UInt8 := 4 :: sxX10_shortest_19
noncomputable def sxX10_shortest_17 : List UInt8 := 122 :: sxX10_shortest_18
noncomputable def sxX10_shortest_15 : List UInt8 := 21 :: 4 :: sxX10_shortest_17
noncomputable def sxX10_shortest_14 : List UInt8 := 28 :: sxX10_shortest_15
noncomputable def sxX10_shortest_11 : List UInt8 := 162 :: 0 :: 46 :: sxX10_shortest_14
noncomputable def sxX10_shortest_8 : List UInt8 := 180 :: 0 :: 36 :: sxX10_shortest_11
noncomputable def sxX10_shortest_7 : List UInt8 := 42 :: sxX10_shortest_8
noncomputable def sxX10_shortest_5 : List UInt8 := 21 :: 4 :: sxX10_shortest_7
noncomputable def sxX10_shortest_3 : List UInt8 := 54 :: 4 :: sxX10_shortest_5
noncomputable def sxX10_shortest_2 : List UInt8 := 3 :: sxX10_shortest_3
noncomputable def sxX10_shortest_1 : List UInt8 := 62 :: sxX10_shortest_2
noncomputable def sxX10_shortest_0 : List UInt8 := 2 :: sxX10_shortest_1
theorem shX10_shortest_0 : cX10_shortest.data.toList.drop 0 = sxX10_shortest_0 := rfl
theorem shX10_shortest_1 : cX10_shortest.data.toList.drop 1 = sxX10_shortest_1 := dSn 1 shX10_shortest_0
theorem shX10_shortest_2 : cX10_shortest.data.toList.drop 2 = sxX10_shortest_2 := dSn 1 shX10_shortest_1
theorem shX10_shortest_3 : cX10_shortest.data.toList.drop 3 = sxX10_shortest_3 := dSn 1 shX10_shortest_2
theorem shX10_shortest_5 : cX10_shortest.data.toList.drop 5 = sxX10_shortest_5 := dSn 2 shX10_shortest_3
theorem shX10_shortest_7 : cX10_shortest.data.toList.drop 7 = sxX10_shortest_7 := dSn 2 shX10_shortest_5
theorem shX10_shortest_8 : cX10_shortest.data.toList.drop 8 = sxX10_shortest_8 := dSn 1 shX10_shortest_7
theorem shX10_shortest_11 : cX10_shortest.data.toList.drop 11 = sxX10_shortest_11 := dSn 3 shX10_shortest_8
theorem shX10_shortest_14 : cX10_shortest.data.toList.drop 14 = sxX10_shortest_14 := dSn 3 shX10_shortest_11
theorem shX10_shortest_15 : cX10_shortest.data.toList.drop 15 = sxX10_shortest_15 := dSn 1 shX10_shortest_14
theorem shX10_shortest_17 : cX10_shortest.data.toList.drop 17 = sxX10_shortest_17 := dSn 2 shX10_shortest_15
theorem shX10_shortest_18 : cX10_shortest.data.toList.drop 18 = sxX10_shortest_18 := dSn 1 shX10_shortest_17
theorem shX10_shortest_19 : cX10_shortest.data.toList.drop 19 = sxX10_shortest_19 := dSn 1 shX10_shortest_18
theorem shX10_shortest_20 : cX10_shortest.data.toList.drop 20 = sxX10_shortest_20 := dSn 1 shX10_shortest_19
theorem shX10_shortest_23 : cX10_shortest.data.toList.drop 23 = sxX10_shortest_23 := dSn 3 shX10_shortest_20
theorem shX10_shortest_24 : cX10_shortest.data.toList.drop 24 = sxX10_shortest_24 := dSn 1 shX10_shortest_23
theorem shX10_shortest_25 : cX10_shortest.data.toList.drop 25 = sxX10_shortest_25 := dSn 1 shX10_shortest_24
theorem shX10_shortest_27 : cX10_shortest.data.toList.drop 27 = sxX10_shortest_27 := dSn 2 shX10_shortest_25
theorem shX10_shortest_28 : cX10_shortest.data.toList.drop 28 = sxX10_shortest_28 := dSn 1 shX10_shortest_27
theorem shX10_shortest_31 : cX10_shortest.data.toList.drop 31 = sxX10_shortest_31 := dSn 3 shX10_shortest_28
theorem shX10_shortest_33 : cX10_shortest.data.toList.drop 33 = sxX10_shortest_33 := dSn 2 shX10_shortest_31
theorem shX10_shortest_34 : cX10_shortest.data.toList.drop 34 = sxX10_shortest_34 := dSn 1 shX10_shortest_33
theorem shX10_shortest_35 : cX10_shortest.data.toList.drop 35 = sxX10_shortest_35 := dSn 1 shX10_shortest_34
theorem shX10_shortest_38 : cX10_shortest.data.toList.drop 38 = sxX10_shortest_38 := dSn 3 shX10_shortest_35
theorem shX10_shortest_40 : cX10_shortest.data.toList.drop 40 = sxX10_shortest_40 := dSn 2 shX10_shortest_38
theorem shX10_shortest_41 : cX10_shortest.data.toList.drop 41 = sxX10_shortest_41 := dSn 1 shX10_shortest_40
theorem shX10_shortest_44 : cX10_shortest.data.toList.drop 44 = sxX10_shortest_44 := dSn 3 shX10_shortest_41
theorem shX10_shortest_46 : cX10_shortest.data.toList.drop 46 = sxX10_shortest_46 := dSn 2 shX10_shortest_44
theorem shX10_shortest_49 : cX10_shortest.data.toList.drop 49 = sxX10_shortest_49 := dSn 3 shX10_shortest_46
theorem shX10_shortest_50 : cX10_shortest.data.toList.drop 50 = sxX10_shortest_50 := dSn 1 shX10_shortest_49
theorem shX10_shortest_51 : cX10_shortest.data.toList.drop 51 = sxX10_shortest_51 := dSn 1 shX10_shortest_50
theorem shX10_shortest_54 : cX10_shortest.data.toList.drop 54 = sxX10_shortest_54 := dSn 3 shX10_shortest_51
theorem shX10_shortest_57 : cX10_shortest.data.toList.drop 57 = sxX10_shortest_57 := dSn 3 shX10_shortest_54
theorem shX10_shortest_58 : cX10_shortest.data.toList.drop 58 = sxX10_shortest_58 := dSn 1 shX10_shortest_57
theorem shX10_shortest_59 : cX10_shortest.data.toList.drop 59 = sxX10_shortest_59 := dSn 1 shX10_shortest_58
theorem shX10_shortest_62 : cX10_shortest.data.toList.drop 62 = sxX10_shortest_62 := dSn 3 shX10_shortest_59
theorem shX10_shortest_63 : cX10_shortest.data.toList.drop 63 = sxX10_shortest_63 := dSn 1 shX10_shortest_62
theorem shX10_shortest_64 : cX10_shortest.data.toList.drop 64 = sxX10_shortest_64 := dSn 1 shX10_shortest_63
theorem shX10_shortest_65 : cX10_shortest.data.toList.drop 65 = sxX10_shortest_65 := dSn 1 shX10_shortest_64
theorem shX10_shortest_68 : cX10_shortest.data.toList.drop 68 = sxX10_shortest_68 := dSn 3 shX10_shortest_65
theorem shX10_shortest_71 : cX10_shortest.data.toList.drop 71 = sxX10_shortest_71 := dSn 3 shX10_shortest_68
theorem shX10_shortest_72 : cX10_shortest.data.toList.drop 72 = sxX10_shortest_72 := dSn 1 shX10_shortest_71
theorem dX10_shortest_0 : decode cX10_shortest 0 = .ok (.iconst (-1), 1) := oc_2 shX10_shortest_0
theorem dX10_shortest_1 : decode cX10_shortest 1 = .ok (.istore_n 3, 1) := oc_62 shX10_shortest_1
theorem dX10_shortest_2 : decode cX10_shortest 2 = .ok (.iconst 0, 1) := oc_3 shX10_shortest_2
theorem dX10_shortest_3 : decode cX10_shortest 3 = .ok (.istore 4, 2) := oc_54 shX10_shortest_3
theorem dX10_shortest_5 : decode cX10_shortest 5 = .ok (.iload 4, 2) := oc_21 shX10_shortest_5
theorem dX10_shortest_7 : decode cX10_shortest 7 = .ok (.aload_n 0, 1) := oc_42 shX10_shortest_7
theorem dX10_shortest_8 : decode cX10_shortest 8 = .ok (.getfield 36, 3) := oc_180 shX10_shortest_8
theorem dX10_shortest_11 : decode cX10_shortest 11 = .ok (.if_icmp .ge 46, 3) := oc_162 shX10_shortest_11 sgw_0_46
theorem dX10_shortest_57 : decode cX10_shortest 57 = .ok (.iload_n 3, 1) := oc_29 shX10_shortest_57
theorem dX10_shortest_58 : decode cX10_shortest 58 = .ok (.iconst (-1), 1) := oc_2 shX10_shortest_58
theorem dX10_shortest_59 : decode cX10_shortest 59 = .ok (.if_icmp .ne 12, 3) := oc_160 shX10_shortest_59 sgw_0_12
theorem dX10_shortest_71 : decode cX10_shortest 71 = .ok (.iload_n 3, 1) := oc_29 shX10_shortest_71
theorem dX10_shortest_72 : decode cX10_shortest 72 = .ok (.ireturn, 1) := oc_172 shX10_shortest_72
theorem dX10_shortest_62 : decode cX10_shortest 62 = .ok (.aload_n 0, 1) := oc_42 shX10_shortest_62
theorem dX10_shortest_63 : decode cX10_shortest 63 = .ok (.iload_n 1, 1) := oc_27 shX10_shortest_63
theorem dX10_shortest_64 : decode cX10_shortest 64 = .ok (.iconst (-1), 1) := oc_2 shX10_shortest_64
theorem dX10_shortest_65 : decode cX10_shortest 65 = .ok (.invokevirtual 66, 3) := oc_182 shX10_shortest_65
theorem dX10_shortest_68 : decode cX10_shortest 68 = .ok (.goto 4, 3) := oc_167 shX10_shortest_68 sgw_0_4
theorem dX10_shortest_14 : decode cX10_shortest 14 = .ok (.iload_n 2, 1) := oc_28 shX10_shortest_14
theorem dX10_shortest_15 : decode cX10_shortest 15 = .ok (.iload 4, 2) := oc_21 shX10_shortest_15
theorem dX10_shortest_17 : decode cX10_shortest 17 = .ok (.ishr, 1) := oc_122 shX10_shortest_17
theorem dX10_shortest_18 : decode cX10_shortest 18 = .ok (.iconst 1, 1) := oc_4 shX10_shortest_18
theorem dX10_shortest_19 : decode cX10_shortest 19 = .ok (.iand, 1) := oc_126 shX10_shortest_19
theorem dX10_shortest_20 : decode cX10_shortest 20 = .ok (.ifCond .eq 31, 3) := oc_153 shX10_shortest_20 sgw_0_31
theorem dX10_shortest_51 : decode cX10_shortest 51 = .ok (.iinc 4 1, 3) := oc_132 shX10_shortest_51 sgb_1
theorem dX10_shortest_54 : decode cX10_shortest 54 = .ok (.goto (-49), 3) := oc_167 shX10_shortest_54 sgw_255_207
theorem dX10_shortest_23 : decode cX10_shortest 23 = .ok (.aload_n 0, 1) := oc_42 shX10_shortest_23
theorem dX10_shortest_24 : decode cX10_shortest 24 = .ok (.iload_n 1, 1) := oc_27 shX10_shortest_24
theorem dX10_shortest_25 : decode cX10_shortest 25 = .ok (.iload 4, 2) := oc_21 shX10_shortest_25
theorem dX10_shortest_27 : decode cX10_shortest 27 = .ok (.iload_n 2, 1) := oc_28 shX10_shortest_27
theorem dX10_shortest_28 : decode cX10_shortest 28 = .ok (.invokevirtual 69, 3) := oc_182 shX10_shortest_28
theorem dX10_shortest_31 : decode cX10_shortest 31 = .ok (.istore 5, 2) := oc_54 shX10_shortest_31
theorem dX10_shortest_33 : decode cX10_shortest 33 = .ok (.iload_n 3, 1) := oc_29 shX10_shortest_33
theorem dX10_shortest_34 : decode cX10_shortest 34 = .ok (.iconst (-1), 1) := oc_2 shX10_shortest_34
theorem dX10_shortest_35 : decode cX10_shortest 35 = .ok (.if_icmp .eq 9, 3) := oc_159 shX10_shortest_35 sgw_0_9
theorem dX10_shortest_44 : decode cX10_shortest 44 = .ok (.iload 5, 2) := oc_21 shX10_shortest_44
theorem dX10_shortest_46 : decode cX10_shortest 46 = .ok (.goto 4, 3) := oc_167 shX10_shortest_46 sgw_0_4
theorem dX10_shortest_50 : decode cX10_shortest 50 = .ok (.istore_n 3, 1) := oc_62 shX10_shortest_50
theorem dX10_shortest_38 : decode cX10_shortest 38 = .ok (.iload 5, 2) := oc_21 shX10_shortest_38
theorem dX10_shortest_40 : decode cX10_shortest 40 = .ok (.iload_n 3, 1) := oc_29 shX10_shortest_40
theorem dX10_shortest_41 : decode cX10_shortest 41 = .ok (.if_icmp .ge 8, 3) := oc_162 shX10_shortest_41 sgw_0_8
theorem dX10_shortest_49 : decode cX10_shortest 49 = .ok (.iload_n 3, 1) := oc_29 shX10_shortest_49
noncomputable def sxX10_solve_76 : List UInt8 := []
noncomputable def sxX10_solve_75 : List UInt8 := 177 :: sxX10_solve_76
noncomputable def sxX10_solve_72 : List UInt8 := 167 :: 255 :: 186 :: sxX10_solve_75
noncomputable def sxX10_solve_69 : List UInt8 := 132 :: 1 :: 1 :: sxX10_solve_72
noncomputable def sxX10_solve_66 : List UInt8 := 184 :: 0 :: 40 :: sxX10_solve_69
noncomputable def sxX10_solve_63 : List UInt8 := 182 :: 0 :: 62 :: sxX10_solve_66
noncomputable def sxX10_solve_62 : List UInt8 := 27 :: sxX10_solve_63
noncomputable def sxX10_solve_61 : List UInt8 := 2 :: sxX10_solve_62
noncomputable def sxX10_solve_60 : List UInt8 := 42 :: sxX10_solve_61
noncomputable def sxX10_solve_59 : List UInt8 := 27 :: sxX10_solve_60
noncomputable def sxX10_solve_56 : List UInt8 := 180 :: 0 :: 27 :: sxX10_solve_59
noncomputable def sxX10_solve_55 : List UInt8 := 42 :: sxX10_solve_56
noncomputable def sxX10_solve_52 : List UInt8 := 167 :: 255 :: 218 :: sxX10_solve_55
noncomputable def sxX10_solve_49 : List UInt8 := 132 :: 2 :: 1 :: sxX10_solve_52
noncomputable def sxX10_solve_46 : List UInt8 := 184 :: 0 :: 40 :: sxX10_solve_49
noncomputable def sxX10_solve_43 : List UInt8 := 182 :: 0 :: 62 :: sxX10_solve_46
noncomputable def sxX10_solve_42 : List UInt8 := 27 :: sxX10_solve_43
noncomputable def sxX10_solve_41 : List UInt8 := 28 :: sxX10_solve_42
noncomputable def sxX10_solve_40 : List UInt8 := 42 :: sxX10_solve_41
noncomputable def sxX10_solve_39 : List UInt8 := 96 :: sxX10_solve_40
noncomputable def sxX10_solve_38 : List UInt8 := 28 :: sxX10_solve_39
noncomputable def sxX10_solve_37 : List UInt8 := 104 :: sxX10_solve_38
noncomputable def sxX10_solve_35 : List UInt8 := 16 :: 8 :: sxX10_solve_37
noncomputable def sxX10_solve_34 : List UInt8 := 27 :: sxX10_solve_35
noncomputable def sxX10_solve_31 : List UInt8 := 180 :: 0 :: 24 :: sxX10_solve_34
noncomputable def sxX10_solve_30 : List UInt8 := 42 :: sxX10_solve_31
noncomputable def sxX10_solve_27 : List UInt8 := 154 :: 0 :: 22 :: sxX10_solve_30
noncomputable def sxX10_solve_26 : List UInt8 := 126 :: sxX10_solve_27
noncomputable def sxX10_solve_25 : List UInt8 := 4 :: sxX10_solve_26
noncomputable def sxX10_solve_24 : List UInt8 := 122 :: sxX10_solve_25
noncomputable def sxX10_solve_23 : List UInt8 := 28 :: sxX10_solve_24
noncomputable def sxX10_solve_22 : List UInt8 := 27 :: sxX10_solve_23
noncomputable def sxX10_solve_19 : List UInt8 := 162 :: 0 :: 36 :: sxX10_solve_22
noncomputable def sxX10_solve_16 : List UInt8 := 180 :: 0 :: 36 :: sxX10_solve_19
noncomputable def sxX10_solve_15 : List UInt8 := 42 :: sxX10_solve_16
noncomputable def sxX10_solve_14 : List UInt8 := 28 :: sxX10_solve_15
noncomputable def sxX10_solve_13 : List UInt8 := 61 :: sxX10_solve_14
noncomputable def sxX10_solve_12 : List UInt8 := 3 :: sxX10_solve_13
noncomputable def sxX10_solve_9 : List UInt8 := 162 :: 0 :: 66 :: sxX10_solve_12
noncomputable def sxX10_solve_8 : List UInt8 := 120 :: sxX10_solve_9
noncomputable def sxX10_solve_5 : List UInt8 := 180 :: 0 :: 36 :: sxX10_solve_8
noncomputable def sxX10_solve_4 : List UInt8 := 42 :: sxX10_solve_5
noncomputable def sxX10_solve_3 : List UInt8 := 4 :: sxX10_solve_4
noncomputable def sxX10_solve_2 : List UInt8 := 27 :: sxX10_solve_3
noncomputable def sxX10_solve_1 : List UInt8 := 60 :: sxX10_solve_2
noncomputable def sxX10_solve_0 : List UInt8 := 3 :: sxX10_solve_1
theorem shX10_solve_0 : cX10_solve.data.toList.drop 0 = sxX10_solve_0 := rfl
theorem shX10_solve_1 : cX10_solve.data.toList.drop 1 = sxX10_solve_1 := dSn 1 shX10_solve_0
theorem shX10_solve_2 : cX10_solve.data.toList.drop 2 = sxX10_solve_2 := dSn 1 shX10_solve_1
theorem shX10_solve_3 : cX10_solve.data.toList.drop 3 = sxX10_solve_3 := dSn 1 shX10_solve_2
theorem shX10_solve_4 : cX10_solve.data.toList.drop 4 = sxX10_solve_4 := dSn 1 shX10_solve_3
theorem shX10_solve_5 : cX10_solve.data.toList.drop 5 = sxX10_solve_5 := dSn 1 shX10_solve_4
theorem shX10_solve_8 : cX10_solve.data.toList.drop 8 = sxX10_solve_8 := dSn 3 shX10_solve_5
theorem shX10_solve_9 : cX10_solve.data.toList.drop 9 = sxX10_solve_9 := dSn 1 shX10_solve_8
theorem shX10_solve_12 : cX10_solve.data.toList.drop 12 = sxX10_solve_12 := dSn 3 shX10_solve_9
theorem shX10_solve_13 : cX10_solve.data.toList.drop 13 = sxX10_solve_13 := dSn 1 shX10_solve_12
theorem shX10_solve_14 : cX10_solve.data.toList.drop 14 = sxX10_solve_14 := dSn 1 shX10_solve_13
theorem shX10_solve_15 : cX10_solve.data.toList.drop 15 = sxX10_solve_15 := dSn 1 shX10_solve_14
theorem shX10_solve_16 : cX10_solve.data.toList.drop 16 = sxX10_solve_16 := dSn 1 shX10_solve_15
theorem shX10_solve_19 : cX10_solve.data.toList.drop 19 = sxX10_solve_19 := dSn 3 shX10_solve_16
theorem shX10_solve_22 : cX10_solve.data.toList.drop 22 = sxX10_solve_22 := dSn 3 shX10_solve_19
theorem shX10_solve_23 : cX10_solve.data.toList.drop 23 = sxX10_solve_23 := dSn 1 shX10_solve_22
theorem shX10_solve_24 : cX10_solve.data.toList.drop 24 = sxX10_solve_24 := dSn 1 shX10_solve_23
theorem shX10_solve_25 : cX10_solve.data.toList.drop 25 = sxX10_solve_25 := dSn 1 shX10_solve_24
theorem shX10_solve_26 : cX10_solve.data.toList.drop 26 = sxX10_solve_26 := dSn 1 shX10_solve_25
theorem shX10_solve_27 : cX10_solve.data.toList.drop 27 = sxX10_solve_27 := dSn 1 shX10_solve_26
theorem shX10_solve_30 : cX10_solve.data.toList.drop 30 = sxX10_solve_30 := dSn 3 shX10_solve_27
theorem shX10_solve_31 : cX10_solve.data.toList.drop 31 = sxX10_solve_31 := dSn 1 shX10_solve_30
theorem shX10_solve_34 : cX10_solve.data.toList.drop 34 = sxX10_solve_34 := dSn 3 shX10_solve_31
theorem shX10_solve_35 : cX10_solve.data.toList.drop 35 = sxX10_solve_35 := dSn 1 shX10_solve_34
theorem shX10_solve_37 : cX10_solve.data.toList.drop 37 = sxX10_solve_37 := dSn 2 shX10_solve_35
theorem shX10_solve_38 : cX10_solve.data.toList.drop 38 = sxX10_solve_38 := dSn 1 shX10_solve_37
theorem shX10_solve_39 : cX10_solve.data.toList.drop 39 = sxX10_solve_39 := dSn 1 shX10_solve_38
theorem shX10_solve_40 : cX10_solve.data.toList.drop 40 = sxX10_solve_40 := dSn 1 shX10_solve_39
theorem shX10_solve_41 : cX10_solve.data.toList.drop 41 = sxX10_solve_41 := dSn 1 shX10_solve_40
theorem shX10_solve_42 : cX10_solve.data.toList.drop 42 = sxX10_solve_42 := dSn 1 shX10_solve_41
theorem shX10_solve_43 : cX10_solve.data.toList.drop 43 = sxX10_solve_43 := dSn 1 shX10_solve_42
theorem shX10_solve_46 : cX10_solve.data.toList.drop 46 = sxX10_solve_46 := dSn 3 shX10_solve_43
theorem shX10_solve_49 : cX10_solve.data.toList.drop 49 = sxX10_solve_49 := dSn 3 shX10_solve_46
theorem shX10_solve_52 : cX10_solve.data.toList.drop 52 = sxX10_solve_52 := dSn 3 shX10_solve_49
theorem shX10_solve_55 : cX10_solve.data.toList.drop 55 = sxX10_solve_55 := dSn 3 shX10_solve_52
theorem shX10_solve_56 : cX10_solve.data.toList.drop 56 = sxX10_solve_56 := dSn 1 shX10_solve_55
theorem shX10_solve_59 : cX10_solve.data.toList.drop 59 = sxX10_solve_59 := dSn 3 shX10_solve_56
theorem shX10_solve_60 : cX10_solve.data.toList.drop 60 = sxX10_solve_60 := dSn 1 shX10_solve_59
theorem shX10_solve_61 : cX10_solve.data.toList.drop 61 = sxX10_solve_61 := dSn 1 shX10_solve_60
theorem shX10_solve_62 : cX10_solve.data.toList.drop 62 = sxX10_solve_62 := dSn 1 shX10_solve_61
theorem shX10_solve_63 : cX10_solve.data.toList.drop 63 = sxX10_solve_63 := dSn 1 shX10_solve_62
theorem shX10_solve_66 : cX10_solve.data.toList.drop 66 = sxX10_solve_66 := dSn 3 shX10_solve_63
theorem shX10_solve_69 : cX10_solve.data.toList.drop 69 = sxX10_solve_69 := dSn 3 shX10_solve_66
theorem shX10_solve_72 : cX10_solve.data.toList.drop 72 = sxX10_solve_72 := dSn 3 shX10_solve_69
theorem shX10_solve_75 : cX10_solve.data.toList.drop 75 = sxX10_solve_75 := dSn 3 shX10_solve_72
theorem dX10_solve_0 : decode cX10_solve 0 = .ok (.iconst 0, 1) := oc_3 shX10_solve_0
theorem dX10_solve_1 : decode cX10_solve 1 = .ok (.istore_n 1, 1) := oc_60 shX10_solve_1
theorem dX10_solve_2 : decode cX10_solve 2 = .ok (.iload_n 1, 1) := oc_27 shX10_solve_2
theorem dX10_solve_3 : decode cX10_solve 3 = .ok (.iconst 1, 1) := oc_4 shX10_solve_3
theorem dX10_solve_4 : decode cX10_solve 4 = .ok (.aload_n 0, 1) := oc_42 shX10_solve_4
theorem dX10_solve_5 : decode cX10_solve 5 = .ok (.getfield 36, 3) := oc_180 shX10_solve_5
theorem dX10_solve_8 : decode cX10_solve 8 = .ok (.ishl, 1) := oc_120 shX10_solve_8
theorem dX10_solve_9 : decode cX10_solve 9 = .ok (.if_icmp .ge 66, 3) := oc_162 shX10_solve_9 sgw_0_66
theorem dX10_solve_75 : decode cX10_solve 75 = .ok (.return_, 1) := oc_177 shX10_solve_75
theorem dX10_solve_12 : decode cX10_solve 12 = .ok (.iconst 0, 1) := oc_3 shX10_solve_12
theorem dX10_solve_13 : decode cX10_solve 13 = .ok (.istore_n 2, 1) := oc_61 shX10_solve_13
theorem dX10_solve_14 : decode cX10_solve 14 = .ok (.iload_n 2, 1) := oc_28 shX10_solve_14
theorem dX10_solve_15 : decode cX10_solve 15 = .ok (.aload_n 0, 1) := oc_42 shX10_solve_15
theorem dX10_solve_16 : decode cX10_solve 16 = .ok (.getfield 36, 3) := oc_180 shX10_solve_16
theorem dX10_solve_19 : decode cX10_solve 19 = .ok (.if_icmp .ge 36, 3) := oc_162 shX10_solve_19 sgw_0_36
theorem dX10_solve_55 : decode cX10_solve 55 = .ok (.aload_n 0, 1) := oc_42 shX10_solve_55
theorem dX10_solve_56 : decode cX10_solve 56 = .ok (.getfield 27, 3) := oc_180 shX10_solve_56
theorem dX10_solve_59 : decode cX10_solve 59 = .ok (.iload_n 1, 1) := oc_27 shX10_solve_59
theorem dX10_solve_60 : decode cX10_solve 60 = .ok (.aload_n 0, 1) := oc_42 shX10_solve_60
theorem dX10_solve_61 : decode cX10_solve 61 = .ok (.iconst (-1), 1) := oc_2 shX10_solve_61
theorem dX10_solve_62 : decode cX10_solve 62 = .ok (.iload_n 1, 1) := oc_27 shX10_solve_62
theorem dX10_solve_63 : decode cX10_solve 63 = .ok (.invokevirtual 62, 3) := oc_182 shX10_solve_63
theorem dX10_solve_66 : decode cX10_solve 66 = .ok (.invokestatic 40, 3) := oc_184 shX10_solve_66
theorem dX10_solve_69 : decode cX10_solve 69 = .ok (.iinc 1 1, 3) := oc_132 shX10_solve_69 sgb_1
theorem dX10_solve_72 : decode cX10_solve 72 = .ok (.goto (-70), 3) := oc_167 shX10_solve_72 sgw_255_186
theorem dX10_solve_22 : decode cX10_solve 22 = .ok (.iload_n 1, 1) := oc_27 shX10_solve_22
theorem dX10_solve_23 : decode cX10_solve 23 = .ok (.iload_n 2, 1) := oc_28 shX10_solve_23
theorem dX10_solve_24 : decode cX10_solve 24 = .ok (.ishr, 1) := oc_122 shX10_solve_24
theorem dX10_solve_25 : decode cX10_solve 25 = .ok (.iconst 1, 1) := oc_4 shX10_solve_25
theorem dX10_solve_26 : decode cX10_solve 26 = .ok (.iand, 1) := oc_126 shX10_solve_26
theorem dX10_solve_27 : decode cX10_solve 27 = .ok (.ifCond .ne 22, 3) := oc_154 shX10_solve_27 sgw_0_22
theorem dX10_solve_49 : decode cX10_solve 49 = .ok (.iinc 2 1, 3) := oc_132 shX10_solve_49 sgb_1
theorem dX10_solve_52 : decode cX10_solve 52 = .ok (.goto (-38), 3) := oc_167 shX10_solve_52 sgw_255_218
theorem dX10_solve_30 : decode cX10_solve 30 = .ok (.aload_n 0, 1) := oc_42 shX10_solve_30
theorem dX10_solve_31 : decode cX10_solve 31 = .ok (.getfield 24, 3) := oc_180 shX10_solve_31
theorem dX10_solve_34 : decode cX10_solve 34 = .ok (.iload_n 1, 1) := oc_27 shX10_solve_34
theorem dX10_solve_35 : decode cX10_solve 35 = .ok (.bipush 8, 2) := oc_16 shX10_solve_35 sgb_8
theorem dX10_solve_37 : decode cX10_solve 37 = .ok (.imul, 1) := oc_104 shX10_solve_37
theorem dX10_solve_38 : decode cX10_solve 38 = .ok (.iload_n 2, 1) := oc_28 shX10_solve_38
theorem dX10_solve_39 : decode cX10_solve 39 = .ok (.iadd, 1) := oc_96 shX10_solve_39
theorem dX10_solve_40 : decode cX10_solve 40 = .ok (.aload_n 0, 1) := oc_42 shX10_solve_40
theorem dX10_solve_41 : decode cX10_solve 41 = .ok (.iload_n 2, 1) := oc_28 shX10_solve_41
theorem dX10_solve_42 : decode cX10_solve 42 = .ok (.iload_n 1, 1) := oc_27 shX10_solve_42
theorem dX10_solve_43 : decode cX10_solve 43 = .ok (.invokevirtual 62, 3) := oc_182 shX10_solve_43
theorem dX10_solve_46 : decode cX10_solve 46 = .ok (.invokestatic 40, 3) := oc_184 shX10_solve_46
noncomputable def sxX10_lengthOf_9 : List UInt8 := []
noncomputable def sxX10_lengthOf_8 : List UInt8 := 172 :: sxX10_lengthOf_9
noncomputable def sxX10_lengthOf_5 : List UInt8 := 184 :: 0 :: 54 :: sxX10_lengthOf_8
noncomputable def sxX10_lengthOf_4 : List UInt8 := 27 :: sxX10_lengthOf_5
noncomputable def sxX10_lengthOf_1 : List UInt8 := 180 :: 0 :: 27 :: sxX10_lengthOf_4
noncomputable def sxX10_lengthOf_0 : List UInt8 := 42 :: sxX10_lengthOf_1
theorem shX10_lengthOf_0 : cX10_lengthOf.data.toList.drop 0 = sxX10_lengthOf_0 := rfl
theorem shX10_lengthOf_1 : cX10_lengthOf.data.toList.drop 1 = sxX10_lengthOf_1 := dSn 1 shX10_lengthOf_0
theorem shX10_lengthOf_4 : cX10_lengthOf.data.toList.drop 4 = sxX10_lengthOf_4 := dSn 3 shX10_lengthOf_1
theorem shX10_lengthOf_5 : cX10_lengthOf.data.toList.drop 5 = sxX10_lengthOf_5 := dSn 1 shX10_lengthOf_4
theorem shX10_lengthOf_8 : cX10_lengthOf.data.toList.drop 8 = sxX10_lengthOf_8 := dSn 3 shX10_lengthOf_5
theorem dX10_lengthOf_0 : decode cX10_lengthOf 0 = .ok (.aload_n 0, 1) := oc_42 shX10_lengthOf_0
theorem dX10_lengthOf_1 : decode cX10_lengthOf 1 = .ok (.getfield 27, 3) := oc_180 shX10_lengthOf_1
theorem dX10_lengthOf_4 : decode cX10_lengthOf 4 = .ok (.iload_n 1, 1) := oc_27 shX10_lengthOf_4
theorem dX10_lengthOf_5 : decode cX10_lengthOf 5 = .ok (.invokestatic 54, 3) := oc_184 shX10_lengthOf_5
theorem dX10_lengthOf_8 : decode cX10_lengthOf 8 = .ok (.ireturn, 1) := oc_172 shX10_lengthOf_8
noncomputable def sxX10_wholeLength_13 : List UInt8 := []
noncomputable def sxX10_wholeLength_12 : List UInt8 := 172 :: sxX10_wholeLength_13
noncomputable def sxX10_wholeLength_9 : List UInt8 := 182 :: 0 :: 73 :: sxX10_wholeLength_12
noncomputable def sxX10_wholeLength_8 : List UInt8 := 100 :: sxX10_wholeLength_9
noncomputable def sxX10_wholeLength_7 : List UInt8 := 4 :: sxX10_wholeLength_8
noncomputable def sxX10_wholeLength_6 : List UInt8 := 120 :: sxX10_wholeLength_7
noncomputable def sxX10_wholeLength_3 : List UInt8 := 180 :: 0 :: 36 :: sxX10_wholeLength_6
noncomputable def sxX10_wholeLength_2 : List UInt8 := 42 :: sxX10_wholeLength_3
noncomputable def sxX10_wholeLength_1 : List UInt8 := 4 :: sxX10_wholeLength_2
noncomputable def sxX10_wholeLength_0 : List UInt8 := 42 :: sxX10_wholeLength_1
theorem shX10_wholeLength_0 : cX10_wholeLength.data.toList.drop 0 = sxX10_wholeLength_0 := rfl
theorem shX10_wholeLength_1 : cX10_wholeLength.data.toList.drop 1 = sxX10_wholeLength_1 := dSn 1 shX10_wholeLength_0
theorem shX10_wholeLength_2 : cX10_wholeLength.data.toList.drop 2 = sxX10_wholeLength_2 := dSn 1 shX10_wholeLength_1
theorem shX10_wholeLength_3 : cX10_wholeLength.data.toList.drop 3 = sxX10_wholeLength_3 := dSn 1 shX10_wholeLength_2
theorem shX10_wholeLength_6 : cX10_wholeLength.data.toList.drop 6 = sxX10_wholeLength_6 := dSn 3 shX10_wholeLength_3
theorem shX10_wholeLength_7 : cX10_wholeLength.data.toList.drop 7 = sxX10_wholeLength_7 := dSn 1 shX10_wholeLength_6
theorem shX10_wholeLength_8 : cX10_wholeLength.data.toList.drop 8 = sxX10_wholeLength_8 := dSn 1 shX10_wholeLength_7
theorem shX10_wholeLength_9 : cX10_wholeLength.data.toList.drop 9 = sxX10_wholeLength_9 := dSn 1 shX10_wholeLength_8
theorem shX10_wholeLength_12 : cX10_wholeLength.data.toList.drop 12 = sxX10_wholeLength_12 := dSn 3 shX10_wholeLength_9
theorem dX10_wholeLength_0 : decode cX10_wholeLength 0 = .ok (.aload_n 0, 1) := oc_42 shX10_wholeLength_0
theorem dX10_wholeLength_1 : decode cX10_wholeLength 1 = .ok (.iconst 1, 1) := oc_4 shX10_wholeLength_1
theorem dX10_wholeLength_2 : decode cX10_wholeLength 2 = .ok (.aload_n 0, 1) := oc_42 shX10_wholeLength_2
theorem dX10_wholeLength_3 : decode cX10_wholeLength 3 = .ok (.getfield 36, 3) := oc_180 shX10_wholeLength_3
theorem dX10_wholeLength_6 : decode cX10_wholeLength 6 = .ok (.ishl, 1) := oc_120 shX10_wholeLength_6
theorem dX10_wholeLength_7 : decode cX10_wholeLength 7 = .ok (.iconst 1, 1) := oc_4 shX10_wholeLength_7
theorem dX10_wholeLength_8 : decode cX10_wholeLength 8 = .ok (.isub, 1) := oc_100 shX10_wholeLength_8
theorem dX10_wholeLength_9 : decode cX10_wholeLength 9 = .ok (.invokevirtual 73, 3) := oc_182 shX10_wholeLength_9
theorem dX10_wholeLength_12 : decode cX10_wholeLength 12 = .ok (.ireturn, 1) := oc_172 shX10_wholeLength_12
noncomputable def sxX10_fillOf_43 : List UInt8 := []
noncomputable def sxX10_fillOf_42 : List UInt8 := 172 :: sxX10_fillOf_43
noncomputable def sxX10_fillOf_41 : List UInt8 := 28 :: sxX10_fillOf_42
noncomputable def sxX10_fillOf_38 : List UInt8 := 167 :: 255 :: 222 :: sxX10_fillOf_41
noncomputable def sxX10_fillOf_35 : List UInt8 := 132 :: 3 :: 1 :: sxX10_fillOf_38
noncomputable def sxX10_fillOf_34 : List UInt8 := 61 :: sxX10_fillOf_35
noncomputable def sxX10_fillOf_33 : List UInt8 := 96 :: sxX10_fillOf_34
noncomputable def sxX10_fillOf_32 : List UInt8 := 3 :: sxX10_fillOf_33
noncomputable def sxX10_fillOf_29 : List UInt8 := 167 :: 0 :: 4 :: sxX10_fillOf_32
noncomputable def sxX10_fillOf_26 : List UInt8 := 184 :: 0 :: 54 :: sxX10_fillOf_29
noncomputable def sxX10_fillOf_25 : List UInt8 := 29 :: sxX10_fillOf_26
noncomputable def sxX10_fillOf_22 : List UInt8 := 180 :: 0 :: 15 :: sxX10_fillOf_25
noncomputable def sxX10_fillOf_21 : List UInt8 := 42 :: sxX10_fillOf_22
noncomputable def sxX10_fillOf_18 : List UInt8 := 153 :: 0 :: 14 :: sxX10_fillOf_21
noncomputable def sxX10_fillOf_17 : List UInt8 := 126 :: sxX10_fillOf_18
noncomputable def sxX10_fillOf_16 : List UInt8 := 4 :: sxX10_fillOf_17
noncomputable def sxX10_fillOf_15 : List UInt8 := 122 :: sxX10_fillOf_16
noncomputable def sxX10_fillOf_14 : List UInt8 := 29 :: sxX10_fillOf_15
noncomputable def sxX10_fillOf_13 : List UInt8 := 27 :: sxX10_fillOf_14
noncomputable def sxX10_fillOf_12 : List UInt8 := 28 :: sxX10_fillOf_13
noncomputable def sxX10_fillOf_9 : List UInt8 := 162 :: 0 :: 32 :: sxX10_fillOf_12
noncomputable def sxX10_fillOf_6 : List UInt8 := 180 :: 0 :: 36 :: sxX10_fillOf_9
noncomputable def sxX10_fillOf_5 : List UInt8 := 42 :: sxX10_fillOf_6
noncomputable def sxX10_fillOf_4 : List UInt8 := 29 :: sxX10_fillOf_5
noncomputable def sxX10_fillOf_3 : List UInt8 := 62 :: sxX10_fillOf_4
noncomputable def sxX10_fillOf_2 : List UInt8 := 3 :: sxX10_fillOf_3
noncomputable def sxX10_fillOf_1 : List UInt8 := 61 :: sxX10_fillOf_2
noncomputable def sxX10_fillOf_0 : List UInt8 := 3 :: sxX10_fillOf_1
theorem shX10_fillOf_0 : cX10_fillOf.data.toList.drop 0 = sxX10_fillOf_0 := rfl
theorem shX10_fillOf_1 : cX10_fillOf.data.toList.drop 1 = sxX10_fillOf_1 := dSn 1 shX10_fillOf_0
theorem shX10_fillOf_2 : cX10_fillOf.data.toList.drop 2 = sxX10_fillOf_2 := dSn 1 shX10_fillOf_1
theorem shX10_fillOf_3 : cX10_fillOf.data.toList.drop 3 = sxX10_fillOf_3 := dSn 1 shX10_fillOf_2
theorem shX10_fillOf_4 : cX10_fillOf.data.toList.drop 4 = sxX10_fillOf_4 := dSn 1 shX10_fillOf_3
theorem shX10_fillOf_5 : cX10_fillOf.data.toList.drop 5 = sxX10_fillOf_5 := dSn 1 shX10_fillOf_4
theorem shX10_fillOf_6 : cX10_fillOf.data.toList.drop 6 = sxX10_fillOf_6 := dSn 1 shX10_fillOf_5
theorem shX10_fillOf_9 : cX10_fillOf.data.toList.drop 9 = sxX10_fillOf_9 := dSn 3 shX10_fillOf_6
theorem shX10_fillOf_12 : cX10_fillOf.data.toList.drop 12 = sxX10_fillOf_12 := dSn 3 shX10_fillOf_9
theorem shX10_fillOf_13 : cX10_fillOf.data.toList.drop 13 = sxX10_fillOf_13 := dSn 1 shX10_fillOf_12
theorem shX10_fillOf_14 : cX10_fillOf.data.toList.drop 14 = sxX10_fillOf_14 := dSn 1 shX10_fillOf_13
theorem shX10_fillOf_15 : cX10_fillOf.data.toList.drop 15 = sxX10_fillOf_15 := dSn 1 shX10_fillOf_14
theorem shX10_fillOf_16 : cX10_fillOf.data.toList.drop 16 = sxX10_fillOf_16 := dSn 1 shX10_fillOf_15
theorem shX10_fillOf_17 : cX10_fillOf.data.toList.drop 17 = sxX10_fillOf_17 := dSn 1 shX10_fillOf_16
theorem shX10_fillOf_18 : cX10_fillOf.data.toList.drop 18 = sxX10_fillOf_18 := dSn 1 shX10_fillOf_17
theorem shX10_fillOf_21 : cX10_fillOf.data.toList.drop 21 = sxX10_fillOf_21 := dSn 3 shX10_fillOf_18
theorem shX10_fillOf_22 : cX10_fillOf.data.toList.drop 22 = sxX10_fillOf_22 := dSn 1 shX10_fillOf_21
theorem shX10_fillOf_25 : cX10_fillOf.data.toList.drop 25 = sxX10_fillOf_25 := dSn 3 shX10_fillOf_22
theorem shX10_fillOf_26 : cX10_fillOf.data.toList.drop 26 = sxX10_fillOf_26 := dSn 1 shX10_fillOf_25
theorem shX10_fillOf_29 : cX10_fillOf.data.toList.drop 29 = sxX10_fillOf_29 := dSn 3 shX10_fillOf_26
theorem shX10_fillOf_32 : cX10_fillOf.data.toList.drop 32 = sxX10_fillOf_32 := dSn 3 shX10_fillOf_29
theorem shX10_fillOf_33 : cX10_fillOf.data.toList.drop 33 = sxX10_fillOf_33 := dSn 1 shX10_fillOf_32
theorem shX10_fillOf_34 : cX10_fillOf.data.toList.drop 34 = sxX10_fillOf_34 := dSn 1 shX10_fillOf_33
theorem shX10_fillOf_35 : cX10_fillOf.data.toList.drop 35 = sxX10_fillOf_35 := dSn 1 shX10_fillOf_34
theorem shX10_fillOf_38 : cX10_fillOf.data.toList.drop 38 = sxX10_fillOf_38 := dSn 3 shX10_fillOf_35
theorem shX10_fillOf_41 : cX10_fillOf.data.toList.drop 41 = sxX10_fillOf_41 := dSn 3 shX10_fillOf_38
theorem shX10_fillOf_42 : cX10_fillOf.data.toList.drop 42 = sxX10_fillOf_42 := dSn 1 shX10_fillOf_41
theorem dX10_fillOf_0 : decode cX10_fillOf 0 = .ok (.iconst 0, 1) := oc_3 shX10_fillOf_0
theorem dX10_fillOf_1 : decode cX10_fillOf 1 = .ok (.istore_n 2, 1) := oc_61 shX10_fillOf_1
theorem dX10_fillOf_2 : decode cX10_fillOf 2 = .ok (.iconst 0, 1) := oc_3 shX10_fillOf_2
theorem dX10_fillOf_3 : decode cX10_fillOf 3 = .ok (.istore_n 3, 1) := oc_62 shX10_fillOf_3
theorem dX10_fillOf_4 : decode cX10_fillOf 4 = .ok (.iload_n 3, 1) := oc_29 shX10_fillOf_4
theorem dX10_fillOf_5 : decode cX10_fillOf 5 = .ok (.aload_n 0, 1) := oc_42 shX10_fillOf_5
theorem dX10_fillOf_6 : decode cX10_fillOf 6 = .ok (.getfield 36, 3) := oc_180 shX10_fillOf_6
theorem dX10_fillOf_9 : decode cX10_fillOf 9 = .ok (.if_icmp .ge 32, 3) := oc_162 shX10_fillOf_9 sgw_0_32
theorem dX10_fillOf_41 : decode cX10_fillOf 41 = .ok (.iload_n 2, 1) := oc_28 shX10_fillOf_41
theorem dX10_fillOf_42 : decode cX10_fillOf 42 = .ok (.ireturn, 1) := oc_172 shX10_fillOf_42
theorem dX10_fillOf_12 : decode cX10_fillOf 12 = .ok (.iload_n 2, 1) := oc_28 shX10_fillOf_12
theorem dX10_fillOf_13 : decode cX10_fillOf 13 = .ok (.iload_n 1, 1) := oc_27 shX10_fillOf_13
theorem dX10_fillOf_14 : decode cX10_fillOf 14 = .ok (.iload_n 3, 1) := oc_29 shX10_fillOf_14
theorem dX10_fillOf_15 : decode cX10_fillOf 15 = .ok (.ishr, 1) := oc_122 shX10_fillOf_15
theorem dX10_fillOf_16 : decode cX10_fillOf 16 = .ok (.iconst 1, 1) := oc_4 shX10_fillOf_16
theorem dX10_fillOf_17 : decode cX10_fillOf 17 = .ok (.iand, 1) := oc_126 shX10_fillOf_17
theorem dX10_fillOf_18 : decode cX10_fillOf 18 = .ok (.ifCond .eq 14, 3) := oc_153 shX10_fillOf_18 sgw_0_14
theorem dX10_fillOf_32 : decode cX10_fillOf 32 = .ok (.iconst 0, 1) := oc_3 shX10_fillOf_32
theorem dX10_fillOf_33 : decode cX10_fillOf 33 = .ok (.iadd, 1) := oc_96 shX10_fillOf_33
theorem dX10_fillOf_34 : decode cX10_fillOf 34 = .ok (.istore_n 2, 1) := oc_61 shX10_fillOf_34
theorem dX10_fillOf_35 : decode cX10_fillOf 35 = .ok (.iinc 3 1, 3) := oc_132 shX10_fillOf_35 sgb_1
theorem dX10_fillOf_38 : decode cX10_fillOf 38 = .ok (.goto (-34), 3) := oc_167 shX10_fillOf_38 sgw_255_222
theorem dX10_fillOf_21 : decode cX10_fillOf 21 = .ok (.aload_n 0, 1) := oc_42 shX10_fillOf_21
theorem dX10_fillOf_22 : decode cX10_fillOf 22 = .ok (.getfield 15, 3) := oc_180 shX10_fillOf_22
theorem dX10_fillOf_25 : decode cX10_fillOf 25 = .ok (.iload_n 3, 1) := oc_29 shX10_fillOf_25
theorem dX10_fillOf_26 : decode cX10_fillOf 26 = .ok (.invokestatic 54, 3) := oc_184 shX10_fillOf_26
theorem dX10_fillOf_29 : decode cX10_fillOf 29 = .ok (.goto 4, 3) := oc_167 shX10_fillOf_29 sgw_0_4
noncomputable def sxX10_nextStop_51 : List UInt8 := []
noncomputable def sxX10_nextStop_50 : List UInt8 := 172 :: sxX10_nextStop_51
noncomputable def sxX10_nextStop_49 : List UInt8 := 2 :: sxX10_nextStop_50
noncomputable def sxX10_nextStop_46 : List UInt8 := 167 :: 255 :: 220 :: sxX10_nextStop_49
noncomputable def sxX10_nextStop_43 : List UInt8 := 132 :: 4 :: 1 :: sxX10_nextStop_46
noncomputable def sxX10_nextStop_42 : List UInt8 := 172 :: sxX10_nextStop_43
noncomputable def sxX10_nextStop_40 : List UInt8 := 21 :: 4 :: sxX10_nextStop_42
noncomputable def sxX10_nextStop_37 : List UInt8 := 160 :: 0 :: 6 :: sxX10_nextStop_40
noncomputable def sxX10_nextStop_36 : List UInt8 := 29 :: sxX10_nextStop_37
noncomputable def sxX10_nextStop_33 : List UInt8 := 182 :: 0 :: 69 :: sxX10_nextStop_36
noncomputable def sxX10_nextStop_32 : List UInt8 := 28 :: sxX10_nextStop_33
noncomputable def sxX10_nextStop_30 : List UInt8 := 21 :: 4 :: sxX10_nextStop_32
noncomputable def sxX10_nextStop_29 : List UInt8 := 27 :: sxX10_nextStop_30
noncomputable def sxX10_nextStop_28 : List UInt8 := 42 :: sxX10_nextStop_29
noncomputable def sxX10_nextStop_25 : List UInt8 := 153 :: 0 :: 18 :: sxX10_nextStop_28
noncomputable def sxX10_nextStop_24 : List UInt8 := 126 :: sxX10_nextStop_25
noncomputable def sxX10_nextStop_23 : List UInt8 := 4 :: sxX10_nextStop_24
noncomputable def sxX10_nextStop_22 : List UInt8 := 122 :: sxX10_nextStop_23
noncomputable def sxX10_nextStop_20 : List UInt8 := 21 :: 4 :: sxX10_nextStop_22
noncomputable def sxX10_nextStop_19 : List UInt8 := 28 :: sxX10_nextStop_20
noncomputable def sxX10_nextStop_16 : List UInt8 := 162 :: 0 :: 33 :: sxX10_nextStop_19
noncomputable def sxX10_nextStop_13 : List UInt8 := 180 :: 0 :: 36 :: sxX10_nextStop_16
noncomputable def sxX10_nextStop_12 : List UInt8 := 42 :: sxX10_nextStop_13
noncomputable def sxX10_nextStop_10 : List UInt8 := 21 :: 4 :: sxX10_nextStop_12
noncomputable def sxX10_nextStop_8 : List UInt8 := 54 :: 4 :: sxX10_nextStop_10
noncomputable def sxX10_nextStop_7 : List UInt8 := 3 :: sxX10_nextStop_8
noncomputable def sxX10_nextStop_6 : List UInt8 := 62 :: sxX10_nextStop_7
noncomputable def sxX10_nextStop_3 : List UInt8 := 182 :: 0 :: 62 :: sxX10_nextStop_6
noncomputable def sxX10_nextStop_2 : List UInt8 := 28 :: sxX10_nextStop_3
noncomputable def sxX10_nextStop_1 : List UInt8 := 27 :: sxX10_nextStop_2
noncomputable def sxX10_nextStop_0 : List UInt8 := 42 :: sxX10_nextStop_1
theorem shX10_nextStop_0 : cX10_nextStop.data.toList.drop 0 = sxX10_nextStop_0 := rfl
theorem shX10_nextStop_1 : cX10_nextStop.data.toList.drop 1 = sxX10_nextStop_1 := dSn 1 shX10_nextStop_0
theorem shX10_nextStop_2 : cX10_nextStop.data.toList.drop 2 = sxX10_nextStop_2 := dSn 1 shX10_nextStop_1
theorem shX10_nextStop_3 : cX10_nextStop.data.toList.drop 3 = sxX10_nextStop_3 := dSn 1 shX10_nextStop_2
theorem shX10_nextStop_6 : cX10_nextStop.data.toList.drop 6 = sxX10_nextStop_6 := dSn 3 shX10_nextStop_3
theorem shX10_nextStop_7 : cX10_nextStop.data.toList.drop 7 = sxX10_nextStop_7 := dSn 1 shX10_nextStop_6
theorem shX10_nextStop_8 : cX10_nextStop.data.toList.drop 8 = sxX10_nextStop_8 := dSn 1 shX10_nextStop_7
theorem shX10_nextStop_10 : cX10_nextStop.data.toList.drop 10 = sxX10_nextStop_10 := dSn 2 shX10_nextStop_8
theorem shX10_nextStop_12 : cX10_nextStop.data.toList.drop 12 = sxX10_nextStop_12 := dSn 2 shX10_nextStop_10
theorem shX10_nextStop_13 : cX10_nextStop.data.toList.drop 13 = sxX10_nextStop_13 := dSn 1 shX10_nextStop_12
theorem shX10_nextStop_16 : cX10_nextStop.data.toList.drop 16 = sxX10_nextStop_16 := dSn 3 shX10_nextStop_13
theorem shX10_nextStop_19 : cX10_nextStop.data.toList.drop 19 = sxX10_nextStop_19 := dSn 3 shX10_nextStop_16
theorem shX10_nextStop_20 : cX10_nextStop.data.toList.drop 20 = sxX10_nextStop_20 := dSn 1 shX10_nextStop_19
theorem shX10_nextStop_22 : cX10_nextStop.data.toList.drop 22 = sxX10_nextStop_22 := dSn 2 shX10_nextStop_20
theorem shX10_nextStop_23 : cX10_nextStop.data.toList.drop 23 = sxX10_nextStop_23 := dSn 1 shX10_nextStop_22
theorem shX10_nextStop_24 : cX10_nextStop.data.toList.drop 24 = sxX10_nextStop_24 := dSn 1 shX10_nextStop_23
theorem shX10_nextStop_25 : cX10_nextStop.data.toList.drop 25 = sxX10_nextStop_25 := dSn 1 shX10_nextStop_24
theorem shX10_nextStop_28 : cX10_nextStop.data.toList.drop 28 = sxX10_nextStop_28 := dSn 3 shX10_nextStop_25
theorem shX10_nextStop_29 : cX10_nextStop.data.toList.drop 29 = sxX10_nextStop_29 := dSn 1 shX10_nextStop_28
theorem shX10_nextStop_30 : cX10_nextStop.data.toList.drop 30 = sxX10_nextStop_30 := dSn 1 shX10_nextStop_29
theorem shX10_nextStop_32 : cX10_nextStop.data.toList.drop 32 = sxX10_nextStop_32 := dSn 2 shX10_nextStop_30
theorem shX10_nextStop_33 : cX10_nextStop.data.toList.drop 33 = sxX10_nextStop_33 := dSn 1 shX10_nextStop_32
theorem shX10_nextStop_36 : cX10_nextStop.data.toList.drop 36 = sxX10_nextStop_36 := dSn 3 shX10_nextStop_33
theorem shX10_nextStop_37 : cX10_nextStop.data.toList.drop 37 = sxX10_nextStop_37 := dSn 1 shX10_nextStop_36
theorem shX10_nextStop_40 : cX10_nextStop.data.toList.drop 40 = sxX10_nextStop_40 := dSn 3 shX10_nextStop_37
theorem shX10_nextStop_42 : cX10_nextStop.data.toList.drop 42 = sxX10_nextStop_42 := dSn 2 shX10_nextStop_40
theorem shX10_nextStop_43 : cX10_nextStop.data.toList.drop 43 = sxX10_nextStop_43 := dSn 1 shX10_nextStop_42
theorem shX10_nextStop_46 : cX10_nextStop.data.toList.drop 46 = sxX10_nextStop_46 := dSn 3 shX10_nextStop_43
theorem shX10_nextStop_49 : cX10_nextStop.data.toList.drop 49 = sxX10_nextStop_49 := dSn 3 shX10_nextStop_46
theorem shX10_nextStop_50 : cX10_nextStop.data.toList.drop 50 = sxX10_nextStop_50 := dSn 1 shX10_nextStop_49
theorem dX10_nextStop_0 : decode cX10_nextStop 0 = .ok (.aload_n 0, 1) := oc_42 shX10_nextStop_0
theorem dX10_nextStop_1 : decode cX10_nextStop 1 = .ok (.iload_n 1, 1) := oc_27 shX10_nextStop_1
theorem dX10_nextStop_2 : decode cX10_nextStop 2 = .ok (.iload_n 2, 1) := oc_28 shX10_nextStop_2
theorem dX10_nextStop_3 : decode cX10_nextStop 3 = .ok (.invokevirtual 62, 3) := oc_182 shX10_nextStop_3
theorem dX10_nextStop_6 : decode cX10_nextStop 6 = .ok (.istore_n 3, 1) := oc_62 shX10_nextStop_6
theorem dX10_nextStop_7 : decode cX10_nextStop 7 = .ok (.iconst 0, 1) := oc_3 shX10_nextStop_7
theorem dX10_nextStop_8 : decode cX10_nextStop 8 = .ok (.istore 4, 2) := oc_54 shX10_nextStop_8
theorem dX10_nextStop_10 : decode cX10_nextStop 10 = .ok (.iload 4, 2) := oc_21 shX10_nextStop_10
theorem dX10_nextStop_12 : decode cX10_nextStop 12 = .ok (.aload_n 0, 1) := oc_42 shX10_nextStop_12
theorem dX10_nextStop_13 : decode cX10_nextStop 13 = .ok (.getfield 36, 3) := oc_180 shX10_nextStop_13
theorem dX10_nextStop_16 : decode cX10_nextStop 16 = .ok (.if_icmp .ge 33, 3) := oc_162 shX10_nextStop_16 sgw_0_33
theorem dX10_nextStop_49 : decode cX10_nextStop 49 = .ok (.iconst (-1), 1) := oc_2 shX10_nextStop_49
theorem dX10_nextStop_50 : decode cX10_nextStop 50 = .ok (.ireturn, 1) := oc_172 shX10_nextStop_50
theorem dX10_nextStop_19 : decode cX10_nextStop 19 = .ok (.iload_n 2, 1) := oc_28 shX10_nextStop_19
theorem dX10_nextStop_20 : decode cX10_nextStop 20 = .ok (.iload 4, 2) := oc_21 shX10_nextStop_20
theorem dX10_nextStop_22 : decode cX10_nextStop 22 = .ok (.ishr, 1) := oc_122 shX10_nextStop_22
theorem dX10_nextStop_23 : decode cX10_nextStop 23 = .ok (.iconst 1, 1) := oc_4 shX10_nextStop_23
theorem dX10_nextStop_24 : decode cX10_nextStop 24 = .ok (.iand, 1) := oc_126 shX10_nextStop_24
theorem dX10_nextStop_25 : decode cX10_nextStop 25 = .ok (.ifCond .eq 18, 3) := oc_153 shX10_nextStop_25 sgw_0_18
theorem dX10_nextStop_43 : decode cX10_nextStop 43 = .ok (.iinc 4 1, 3) := oc_132 shX10_nextStop_43 sgb_1
theorem dX10_nextStop_46 : decode cX10_nextStop 46 = .ok (.goto (-36), 3) := oc_167 shX10_nextStop_46 sgw_255_220
theorem dX10_nextStop_28 : decode cX10_nextStop 28 = .ok (.aload_n 0, 1) := oc_42 shX10_nextStop_28
theorem dX10_nextStop_29 : decode cX10_nextStop 29 = .ok (.iload_n 1, 1) := oc_27 shX10_nextStop_29
theorem dX10_nextStop_30 : decode cX10_nextStop 30 = .ok (.iload 4, 2) := oc_21 shX10_nextStop_30
theorem dX10_nextStop_32 : decode cX10_nextStop 32 = .ok (.iload_n 2, 1) := oc_28 shX10_nextStop_32
theorem dX10_nextStop_33 : decode cX10_nextStop 33 = .ok (.invokevirtual 69, 3) := oc_182 shX10_nextStop_33
theorem dX10_nextStop_36 : decode cX10_nextStop 36 = .ok (.iload_n 3, 1) := oc_29 shX10_nextStop_36
theorem dX10_nextStop_37 : decode cX10_nextStop 37 = .ok (.if_icmp .ne 6, 3) := oc_160 shX10_nextStop_37 sgw_0_6
theorem dX10_nextStop_40 : decode cX10_nextStop 40 = .ok (.iload 4, 2) := oc_21 shX10_nextStop_40
theorem dX10_nextStop_42 : decode cX10_nextStop 42 = .ok (.ireturn, 1) := oc_172 shX10_nextStop_42
noncomputable def sxX10_kitchenInRow_80 : List UInt8 := []
noncomputable def sxX10_kitchenInRow_79 : List UInt8 := 172 :: sxX10_kitchenInRow_80
noncomputable def sxX10_kitchenInRow_76 : List UInt8 := 184 :: 0 :: 54 :: sxX10_kitchenInRow_79
noncomputable def sxX10_kitchenInRow_75 : List UInt8 := 29 :: sxX10_kitchenInRow_76
noncomputable def sxX10_kitchenInRow_72 : List UInt8 := 180 :: 0 :: 9 :: sxX10_kitchenInRow_75
noncomputable def sxX10_kitchenInRow_71 : List UInt8 := 42 :: sxX10_kitchenInRow_72
noncomputable def sxX10_kitchenInRow_68 : List UInt8 := 167 :: 0 :: 11 :: sxX10_kitchenInRow_71
noncomputable def sxX10_kitchenInRow_67 : List UInt8 := 2 :: sxX10_kitchenInRow_68
noncomputable def sxX10_kitchenInRow_64 : List UInt8 := 156 :: 0 :: 7 :: sxX10_kitchenInRow_67
noncomputable def sxX10_kitchenInRow_63 : List UInt8 := 29 :: sxX10_kitchenInRow_64
noncomputable def sxX10_kitchenInRow_60 : List UInt8 := 167 :: 255 :: 224 :: sxX10_kitchenInRow_63
noncomputable def sxX10_kitchenInRow_57 : List UInt8 := 132 :: 4 :: 1 :: sxX10_kitchenInRow_60
noncomputable def sxX10_kitchenInRow_56 : List UInt8 := 61 :: sxX10_kitchenInRow_57
noncomputable def sxX10_kitchenInRow_55 : List UInt8 := 126 :: sxX10_kitchenInRow_56
noncomputable def sxX10_kitchenInRow_54 : List UInt8 := 130 :: sxX10_kitchenInRow_55
noncomputable def sxX10_kitchenInRow_53 : List UInt8 := 2 :: sxX10_kitchenInRow_54
noncomputable def sxX10_kitchenInRow_52 : List UInt8 := 120 :: sxX10_kitchenInRow_53
noncomputable def sxX10_kitchenInRow_51 : List UInt8 := 29 :: sxX10_kitchenInRow_52
noncomputable def sxX10_kitchenInRow_50 : List UInt8 := 4 :: sxX10_kitchenInRow_51
noncomputable def sxX10_kitchenInRow_47 : List UInt8 := 167 :: 0 :: 8 :: sxX10_kitchenInRow_50
noncomputable def sxX10_kitchenInRow_46 : List UInt8 := 3 :: sxX10_kitchenInRow_47
noncomputable def sxX10_kitchenInRow_43 : List UInt8 := 156 :: 0 :: 7 :: sxX10_kitchenInRow_46
noncomputable def sxX10_kitchenInRow_42 : List UInt8 := 29 :: sxX10_kitchenInRow_43
noncomputable def sxX10_kitchenInRow_41 : List UInt8 := 28 :: sxX10_kitchenInRow_42
noncomputable def sxX10_kitchenInRow_40 : List UInt8 := 62 :: sxX10_kitchenInRow_41
noncomputable def sxX10_kitchenInRow_37 : List UInt8 := 182 :: 0 :: 76 :: sxX10_kitchenInRow_40
noncomputable def sxX10_kitchenInRow_36 : List UInt8 := 28 :: sxX10_kitchenInRow_37
noncomputable def sxX10_kitchenInRow_35 : List UInt8 := 29 :: sxX10_kitchenInRow_36
noncomputable def sxX10_kitchenInRow_34 : List UInt8 := 42 :: sxX10_kitchenInRow_35
noncomputable def sxX10_kitchenInRow_31 : List UInt8 := 163 :: 0 :: 32 :: sxX10_kitchenInRow_34
noncomputable def sxX10_kitchenInRow_30 : List UInt8 := 27 :: sxX10_kitchenInRow_31
noncomputable def sxX10_kitchenInRow_28 : List UInt8 := 21 :: 4 :: sxX10_kitchenInRow_30
noncomputable def sxX10_kitchenInRow_26 : List UInt8 := 54 :: 4 :: sxX10_kitchenInRow_28
noncomputable def sxX10_kitchenInRow_25 : List UInt8 := 3 :: sxX10_kitchenInRow_26
noncomputable def sxX10_kitchenInRow_24 : List UInt8 := 62 :: sxX10_kitchenInRow_25
noncomputable def sxX10_kitchenInRow_23 : List UInt8 := 2 :: sxX10_kitchenInRow_24
noncomputable def sxX10_kitchenInRow_22 : List UInt8 := 61 :: sxX10_kitchenInRow_23
noncomputable def sxX10_kitchenInRow_21 : List UInt8 := 100 :: sxX10_kitchenInRow_22
noncomputable def sxX10_kitchenInRow_20 : List UInt8 := 4 :: sxX10_kitchenInRow_21
noncomputable def sxX10_kitchenInRow_19 : List UInt8 := 120 :: sxX10_kitchenInRow_20
noncomputable def sxX10_kitchenInRow_16 : List UInt8 := 180 :: 0 :: 36 :: sxX10_kitchenInRow_19
noncomputable def sxX10_kitchenInRow_15 : List UInt8 := 42 :: sxX10_kitchenInRow_16
noncomputable def sxX10_kitchenInRow_14 : List UInt8 := 4 :: sxX10_kitchenInRow_15
noncomputable def sxX10_kitchenInRow_13 : List UInt8 := 172 :: sxX10_kitchenInRow_14
noncomputable def sxX10_kitchenInRow_12 : List UInt8 := 2 :: sxX10_kitchenInRow_13
noncomputable def sxX10_kitchenInRow_9 : List UInt8 := 161 :: 0 :: 5 :: sxX10_kitchenInRow_12
noncomputable def sxX10_kitchenInRow_6 : List UInt8 := 180 :: 0 :: 36 :: sxX10_kitchenInRow_9
noncomputable def sxX10_kitchenInRow_5 : List UInt8 := 42 :: sxX10_kitchenInRow_6
noncomputable def sxX10_kitchenInRow_4 : List UInt8 := 27 :: sxX10_kitchenInRow_5
noncomputable def sxX10_kitchenInRow_1 : List UInt8 := 155 :: 0 :: 11 :: sxX10_kitchenInRow_4
noncomputable def sxX10_kitchenInRow_0 : List UInt8 := 27 :: sxX10_kitchenInRow_1
theorem shX10_kitchenInRow_0 : cX10_kitchenInRow.data.toList.drop 0 = sxX10_kitchenInRow_0 := rfl
theorem shX10_kitchenInRow_1 : cX10_kitchenInRow.data.toList.drop 1 = sxX10_kitchenInRow_1 := dSn 1 shX10_kitchenInRow_0
theorem shX10_kitchenInRow_4 : cX10_kitchenInRow.data.toList.drop 4 = sxX10_kitchenInRow_4 := dSn 3 shX10_kitchenInRow_1
theorem shX10_kitchenInRow_5 : cX10_kitchenInRow.data.toList.drop 5 = sxX10_kitchenInRow_5 := dSn 1 shX10_kitchenInRow_4
theorem shX10_kitchenInRow_6 : cX10_kitchenInRow.data.toList.drop 6 = sxX10_kitchenInRow_6 := dSn 1 shX10_kitchenInRow_5
theorem shX10_kitchenInRow_9 : cX10_kitchenInRow.data.toList.drop 9 = sxX10_kitchenInRow_9 := dSn 3 shX10_kitchenInRow_6
theorem shX10_kitchenInRow_12 : cX10_kitchenInRow.data.toList.drop 12 = sxX10_kitchenInRow_12 := dSn 3 shX10_kitchenInRow_9
theorem shX10_kitchenInRow_13 : cX10_kitchenInRow.data.toList.drop 13 = sxX10_kitchenInRow_13 := dSn 1 shX10_kitchenInRow_12
theorem shX10_kitchenInRow_14 : cX10_kitchenInRow.data.toList.drop 14 = sxX10_kitchenInRow_14 := dSn 1 shX10_kitchenInRow_13
theorem shX10_kitchenInRow_15 : cX10_kitchenInRow.data.toList.drop 15 = sxX10_kitchenInRow_15 := dSn 1 shX10_kitchenInRow_14
theorem shX10_kitchenInRow_16 : cX10_kitchenInRow.data.toList.drop 16 = sxX10_kitchenInRow_16 := dSn 1 shX10_kitchenInRow_15
theorem shX10_kitchenInRow_19 : cX10_kitchenInRow.data.toList.drop 19 = sxX10_kitchenInRow_19 := dSn 3 shX10_kitchenInRow_16
theorem shX10_kitchenInRow_20 : cX10_kitchenInRow.data.toList.drop 20 = sxX10_kitchenInRow_20 := dSn 1 shX10_kitchenInRow_19
theorem shX10_kitchenInRow_21 : cX10_kitchenInRow.data.toList.drop 21 = sxX10_kitchenInRow_21 := dSn 1 shX10_kitchenInRow_20
theorem shX10_kitchenInRow_22 : cX10_kitchenInRow.data.toList.drop 22 = sxX10_kitchenInRow_22 := dSn 1 shX10_kitchenInRow_21
theorem shX10_kitchenInRow_23 : cX10_kitchenInRow.data.toList.drop 23 = sxX10_kitchenInRow_23 := dSn 1 shX10_kitchenInRow_22
theorem shX10_kitchenInRow_24 : cX10_kitchenInRow.data.toList.drop 24 = sxX10_kitchenInRow_24 := dSn 1 shX10_kitchenInRow_23
theorem shX10_kitchenInRow_25 : cX10_kitchenInRow.data.toList.drop 25 = sxX10_kitchenInRow_25 := dSn 1 shX10_kitchenInRow_24
theorem shX10_kitchenInRow_26 : cX10_kitchenInRow.data.toList.drop 26 = sxX10_kitchenInRow_26 := dSn 1 shX10_kitchenInRow_25
theorem shX10_kitchenInRow_28 : cX10_kitchenInRow.data.toList.drop 28 = sxX10_kitchenInRow_28 := dSn 2 shX10_kitchenInRow_26
theorem shX10_kitchenInRow_30 : cX10_kitchenInRow.data.toList.drop 30 = sxX10_kitchenInRow_30 := dSn 2 shX10_kitchenInRow_28
theorem shX10_kitchenInRow_31 : cX10_kitchenInRow.data.toList.drop 31 = sxX10_kitchenInRow_31 := dSn 1 shX10_kitchenInRow_30
theorem shX10_kitchenInRow_34 : cX10_kitchenInRow.data.toList.drop 34 = sxX10_kitchenInRow_34 := dSn 3 shX10_kitchenInRow_31
theorem shX10_kitchenInRow_35 : cX10_kitchenInRow.data.toList.drop 35 = sxX10_kitchenInRow_35 := dSn 1 shX10_kitchenInRow_34
theorem shX10_kitchenInRow_36 : cX10_kitchenInRow.data.toList.drop 36 = sxX10_kitchenInRow_36 := dSn 1 shX10_kitchenInRow_35
theorem shX10_kitchenInRow_37 : cX10_kitchenInRow.data.toList.drop 37 = sxX10_kitchenInRow_37 := dSn 1 shX10_kitchenInRow_36
theorem shX10_kitchenInRow_40 : cX10_kitchenInRow.data.toList.drop 40 = sxX10_kitchenInRow_40 := dSn 3 shX10_kitchenInRow_37
theorem shX10_kitchenInRow_41 : cX10_kitchenInRow.data.toList.drop 41 = sxX10_kitchenInRow_41 := dSn 1 shX10_kitchenInRow_40
theorem shX10_kitchenInRow_42 : cX10_kitchenInRow.data.toList.drop 42 = sxX10_kitchenInRow_42 := dSn 1 shX10_kitchenInRow_41
theorem shX10_kitchenInRow_43 : cX10_kitchenInRow.data.toList.drop 43 = sxX10_kitchenInRow_43 := dSn 1 shX10_kitchenInRow_42
theorem shX10_kitchenInRow_46 : cX10_kitchenInRow.data.toList.drop 46 = sxX10_kitchenInRow_46 := dSn 3 shX10_kitchenInRow_43
theorem shX10_kitchenInRow_47 : cX10_kitchenInRow.data.toList.drop 47 = sxX10_kitchenInRow_47 := dSn 1 shX10_kitchenInRow_46
theorem shX10_kitchenInRow_50 : cX10_kitchenInRow.data.toList.drop 50 = sxX10_kitchenInRow_50 := dSn 3 shX10_kitchenInRow_47
theorem shX10_kitchenInRow_51 : cX10_kitchenInRow.data.toList.drop 51 = sxX10_kitchenInRow_51 := dSn 1 shX10_kitchenInRow_50
theorem shX10_kitchenInRow_52 : cX10_kitchenInRow.data.toList.drop 52 = sxX10_kitchenInRow_52 := dSn 1 shX10_kitchenInRow_51
theorem shX10_kitchenInRow_53 : cX10_kitchenInRow.data.toList.drop 53 = sxX10_kitchenInRow_53 := dSn 1 shX10_kitchenInRow_52
theorem shX10_kitchenInRow_54 : cX10_kitchenInRow.data.toList.drop 54 = sxX10_kitchenInRow_54 := dSn 1 shX10_kitchenInRow_53
theorem shX10_kitchenInRow_55 : cX10_kitchenInRow.data.toList.drop 55 = sxX10_kitchenInRow_55 := dSn 1 shX10_kitchenInRow_54
theorem shX10_kitchenInRow_56 : cX10_kitchenInRow.data.toList.drop 56 = sxX10_kitchenInRow_56 := dSn 1 shX10_kitchenInRow_55
theorem shX10_kitchenInRow_57 : cX10_kitchenInRow.data.toList.drop 57 = sxX10_kitchenInRow_57 := dSn 1 shX10_kitchenInRow_56
theorem shX10_kitchenInRow_60 : cX10_kitchenInRow.data.toList.drop 60 = sxX10_kitchenInRow_60 := dSn 3 shX10_kitchenInRow_57
theorem shX10_kitchenInRow_63 : cX10_kitchenInRow.data.toList.drop 63 = sxX10_kitchenInRow_63 := dSn 3 shX10_kitchenInRow_60
theorem shX10_kitchenInRow_64 : cX10_kitchenInRow.data.toList.drop 64 = sxX10_kitchenInRow_64 := dSn 1 shX10_kitchenInRow_63
theorem shX10_kitchenInRow_67 : cX10_kitchenInRow.data.toList.drop 67 = sxX10_kitchenInRow_67 := dSn 3 shX10_kitchenInRow_64
theorem shX10_kitchenInRow_68 : cX10_kitchenInRow.data.toList.drop 68 = sxX10_kitchenInRow_68 := dSn 1 shX10_kitchenInRow_67
theorem shX10_kitchenInRow_71 : cX10_kitchenInRow.data.toList.drop 71 = sxX10_kitchenInRow_71 := dSn 3 shX10_kitchenInRow_68
theorem shX10_kitchenInRow_72 : cX10_kitchenInRow.data.toList.drop 72 = sxX10_kitchenInRow_72 := dSn 1 shX10_kitchenInRow_71
theorem shX10_kitchenInRow_75 : cX10_kitchenInRow.data.toList.drop 75 = sxX10_kitchenInRow_75 := dSn 3 shX10_kitchenInRow_72
theorem shX10_kitchenInRow_76 : cX10_kitchenInRow.data.toList.drop 76 = sxX10_kitchenInRow_76 := dSn 1 shX10_kitchenInRow_75
theorem shX10_kitchenInRow_79 : cX10_kitchenInRow.data.toList.drop 79 = sxX10_kitchenInRow_79 := dSn 3 shX10_kitchenInRow_76
theorem dX10_kitchenInRow_0 : decode cX10_kitchenInRow 0 = .ok (.iload_n 1, 1) := oc_27 shX10_kitchenInRow_0
theorem dX10_kitchenInRow_1 : decode cX10_kitchenInRow 1 = .ok (.ifCond .lt 11, 3) := oc_155 shX10_kitchenInRow_1 sgw_0_11
theorem dX10_kitchenInRow_12 : decode cX10_kitchenInRow 12 = .ok (.iconst (-1), 1) := oc_2 shX10_kitchenInRow_12
theorem dX10_kitchenInRow_13 : decode cX10_kitchenInRow 13 = .ok (.ireturn, 1) := oc_172 shX10_kitchenInRow_13
theorem dX10_kitchenInRow_4 : decode cX10_kitchenInRow 4 = .ok (.iload_n 1, 1) := oc_27 shX10_kitchenInRow_4
theorem dX10_kitchenInRow_5 : decode cX10_kitchenInRow 5 = .ok (.aload_n 0, 1) := oc_42 shX10_kitchenInRow_5
theorem dX10_kitchenInRow_6 : decode cX10_kitchenInRow 6 = .ok (.getfield 36, 3) := oc_180 shX10_kitchenInRow_6
theorem dX10_kitchenInRow_9 : decode cX10_kitchenInRow 9 = .ok (.if_icmp .lt 5, 3) := oc_161 shX10_kitchenInRow_9 sgw_0_5
theorem dX10_kitchenInRow_14 : decode cX10_kitchenInRow 14 = .ok (.iconst 1, 1) := oc_4 shX10_kitchenInRow_14
theorem dX10_kitchenInRow_15 : decode cX10_kitchenInRow 15 = .ok (.aload_n 0, 1) := oc_42 shX10_kitchenInRow_15
theorem dX10_kitchenInRow_16 : decode cX10_kitchenInRow 16 = .ok (.getfield 36, 3) := oc_180 shX10_kitchenInRow_16
theorem dX10_kitchenInRow_19 : decode cX10_kitchenInRow 19 = .ok (.ishl, 1) := oc_120 shX10_kitchenInRow_19
theorem dX10_kitchenInRow_20 : decode cX10_kitchenInRow 20 = .ok (.iconst 1, 1) := oc_4 shX10_kitchenInRow_20
theorem dX10_kitchenInRow_21 : decode cX10_kitchenInRow 21 = .ok (.isub, 1) := oc_100 shX10_kitchenInRow_21
theorem dX10_kitchenInRow_22 : decode cX10_kitchenInRow 22 = .ok (.istore_n 2, 1) := oc_61 shX10_kitchenInRow_22
theorem dX10_kitchenInRow_23 : decode cX10_kitchenInRow 23 = .ok (.iconst (-1), 1) := oc_2 shX10_kitchenInRow_23
theorem dX10_kitchenInRow_24 : decode cX10_kitchenInRow 24 = .ok (.istore_n 3, 1) := oc_62 shX10_kitchenInRow_24
theorem dX10_kitchenInRow_25 : decode cX10_kitchenInRow 25 = .ok (.iconst 0, 1) := oc_3 shX10_kitchenInRow_25
theorem dX10_kitchenInRow_26 : decode cX10_kitchenInRow 26 = .ok (.istore 4, 2) := oc_54 shX10_kitchenInRow_26
theorem dX10_kitchenInRow_28 : decode cX10_kitchenInRow 28 = .ok (.iload 4, 2) := oc_21 shX10_kitchenInRow_28
theorem dX10_kitchenInRow_30 : decode cX10_kitchenInRow 30 = .ok (.iload_n 1, 1) := oc_27 shX10_kitchenInRow_30
theorem dX10_kitchenInRow_31 : decode cX10_kitchenInRow 31 = .ok (.if_icmp .gt 32, 3) := oc_163 shX10_kitchenInRow_31 sgw_0_32
theorem dX10_kitchenInRow_63 : decode cX10_kitchenInRow 63 = .ok (.iload_n 3, 1) := oc_29 shX10_kitchenInRow_63
theorem dX10_kitchenInRow_64 : decode cX10_kitchenInRow 64 = .ok (.ifCond .ge 7, 3) := oc_156 shX10_kitchenInRow_64 sgw_0_7
theorem dX10_kitchenInRow_71 : decode cX10_kitchenInRow 71 = .ok (.aload_n 0, 1) := oc_42 shX10_kitchenInRow_71
theorem dX10_kitchenInRow_72 : decode cX10_kitchenInRow 72 = .ok (.getfield 9, 3) := oc_180 shX10_kitchenInRow_72
theorem dX10_kitchenInRow_75 : decode cX10_kitchenInRow 75 = .ok (.iload_n 3, 1) := oc_29 shX10_kitchenInRow_75
theorem dX10_kitchenInRow_76 : decode cX10_kitchenInRow 76 = .ok (.invokestatic 54, 3) := oc_184 shX10_kitchenInRow_76
theorem dX10_kitchenInRow_79 : decode cX10_kitchenInRow 79 = .ok (.ireturn, 1) := oc_172 shX10_kitchenInRow_79
theorem dX10_kitchenInRow_67 : decode cX10_kitchenInRow 67 = .ok (.iconst (-1), 1) := oc_2 shX10_kitchenInRow_67
theorem dX10_kitchenInRow_68 : decode cX10_kitchenInRow 68 = .ok (.goto 11, 3) := oc_167 shX10_kitchenInRow_68 sgw_0_11
theorem dX10_kitchenInRow_34 : decode cX10_kitchenInRow 34 = .ok (.aload_n 0, 1) := oc_42 shX10_kitchenInRow_34
theorem dX10_kitchenInRow_35 : decode cX10_kitchenInRow 35 = .ok (.iload_n 3, 1) := oc_29 shX10_kitchenInRow_35
theorem dX10_kitchenInRow_36 : decode cX10_kitchenInRow 36 = .ok (.iload_n 2, 1) := oc_28 shX10_kitchenInRow_36
theorem dX10_kitchenInRow_37 : decode cX10_kitchenInRow 37 = .ok (.invokevirtual 76, 3) := oc_182 shX10_kitchenInRow_37
theorem dX10_kitchenInRow_40 : decode cX10_kitchenInRow 40 = .ok (.istore_n 3, 1) := oc_62 shX10_kitchenInRow_40
theorem dX10_kitchenInRow_41 : decode cX10_kitchenInRow 41 = .ok (.iload_n 2, 1) := oc_28 shX10_kitchenInRow_41
theorem dX10_kitchenInRow_42 : decode cX10_kitchenInRow 42 = .ok (.iload_n 3, 1) := oc_29 shX10_kitchenInRow_42
theorem dX10_kitchenInRow_43 : decode cX10_kitchenInRow 43 = .ok (.ifCond .ge 7, 3) := oc_156 shX10_kitchenInRow_43 sgw_0_7
theorem dX10_kitchenInRow_50 : decode cX10_kitchenInRow 50 = .ok (.iconst 1, 1) := oc_4 shX10_kitchenInRow_50
theorem dX10_kitchenInRow_51 : decode cX10_kitchenInRow 51 = .ok (.iload_n 3, 1) := oc_29 shX10_kitchenInRow_51
theorem dX10_kitchenInRow_52 : decode cX10_kitchenInRow 52 = .ok (.ishl, 1) := oc_120 shX10_kitchenInRow_52
theorem dX10_kitchenInRow_53 : decode cX10_kitchenInRow 53 = .ok (.iconst (-1), 1) := oc_2 shX10_kitchenInRow_53
theorem dX10_kitchenInRow_54 : decode cX10_kitchenInRow 54 = .ok (.ixor, 1) := oc_130 shX10_kitchenInRow_54
theorem dX10_kitchenInRow_55 : decode cX10_kitchenInRow 55 = .ok (.iand, 1) := oc_126 shX10_kitchenInRow_55
theorem dX10_kitchenInRow_56 : decode cX10_kitchenInRow 56 = .ok (.istore_n 2, 1) := oc_61 shX10_kitchenInRow_56
theorem dX10_kitchenInRow_57 : decode cX10_kitchenInRow 57 = .ok (.iinc 4 1, 3) := oc_132 shX10_kitchenInRow_57 sgb_1
theorem dX10_kitchenInRow_60 : decode cX10_kitchenInRow 60 = .ok (.goto (-32), 3) := oc_167 shX10_kitchenInRow_60 sgw_255_224
theorem dX10_kitchenInRow_46 : decode cX10_kitchenInRow 46 = .ok (.iconst 0, 1) := oc_3 shX10_kitchenInRow_46
theorem dX10_kitchenInRow_47 : decode cX10_kitchenInRow 47 = .ok (.goto 8, 3) := oc_167 shX10_kitchenInRow_47 sgw_0_8
noncomputable def sxX11_startTrial_73 : List UInt8 := []
noncomputable def sxX11_startTrial_72 : List UInt8 := 172 :: sxX11_startTrial_73
noncomputable def sxX11_startTrial_71 : List UInt8 := 3 :: sxX11_startTrial_72
noncomputable def sxX11_startTrial_68 : List UInt8 := 167 :: 0 :: 4 :: sxX11_startTrial_71
noncomputable def sxX11_startTrial_67 : List UInt8 := 4 :: sxX11_startTrial_68
noncomputable def sxX11_startTrial_64 : List UInt8 := 154 :: 0 :: 7 :: sxX11_startTrial_67
noncomputable def sxX11_startTrial_63 : List UInt8 := 28 :: sxX11_startTrial_64
noncomputable def sxX11_startTrial_60 : List UInt8 := 167 :: 255 :: 200 :: sxX11_startTrial_63
noncomputable def sxX11_startTrial_57 : List UInt8 := 132 :: 3 :: 1 :: sxX11_startTrial_60
noncomputable def sxX11_startTrial_56 : List UInt8 := 61 :: sxX11_startTrial_57
noncomputable def sxX11_startTrial_55 : List UInt8 := 3 :: sxX11_startTrial_56
noncomputable def sxX11_startTrial_52 : List UInt8 := 167 :: 0 :: 4 :: sxX11_startTrial_55
noncomputable def sxX11_startTrial_51 : List UInt8 := 4 :: sxX11_startTrial_52
noncomputable def sxX11_startTrial_48 : List UInt8 := 164 :: 0 :: 7 :: sxX11_startTrial_51
noncomputable def sxX11_startTrial_47 : List UInt8 := 27 :: sxX11_startTrial_48
noncomputable def sxX11_startTrial_44 : List UInt8 := 180 :: 0 :: 118 :: sxX11_startTrial_47
noncomputable def sxX11_startTrial_42 : List UInt8 := 25 :: 4 :: sxX11_startTrial_44
noncomputable def sxX11_startTrial_39 : List UInt8 := 154 :: 0 :: 12 :: sxX11_startTrial_42
noncomputable def sxX11_startTrial_38 : List UInt8 := 28 :: sxX11_startTrial_39
noncomputable def sxX11_startTrial_35 : List UInt8 := 181 :: 1 :: 7 :: sxX11_startTrial_38
noncomputable def sxX11_startTrial_32 : List UInt8 := 180 :: 0 :: 118 :: sxX11_startTrial_35
noncomputable def sxX11_startTrial_30 : List UInt8 := 25 :: 4 :: sxX11_startTrial_32
noncomputable def sxX11_startTrial_28 : List UInt8 := 25 :: 4 :: sxX11_startTrial_30
noncomputable def sxX11_startTrial_26 : List UInt8 := 58 :: 4 :: sxX11_startTrial_28
noncomputable def sxX11_startTrial_23 : List UInt8 := 192 :: 0 :: 91 :: sxX11_startTrial_26
noncomputable def sxX11_startTrial_20 : List UInt8 := 182 :: 0 :: 87 :: sxX11_startTrial_23
noncomputable def sxX11_startTrial_19 : List UInt8 := 29 :: sxX11_startTrial_20
noncomputable def sxX11_startTrial_16 : List UInt8 := 180 :: 0 :: 61 :: sxX11_startTrial_19
noncomputable def sxX11_startTrial_15 : List UInt8 := 42 :: sxX11_startTrial_16
noncomputable def sxX11_startTrial_12 : List UInt8 := 162 :: 0 :: 51 :: sxX11_startTrial_15
noncomputable def sxX11_startTrial_9 : List UInt8 := 182 :: 0 :: 84 :: sxX11_startTrial_12
noncomputable def sxX11_startTrial_6 : List UInt8 := 180 :: 0 :: 61 :: sxX11_startTrial_9
noncomputable def sxX11_startTrial_5 : List UInt8 := 42 :: sxX11_startTrial_6
noncomputable def sxX11_startTrial_4 : List UInt8 := 29 :: sxX11_startTrial_5
noncomputable def sxX11_startTrial_3 : List UInt8 := 62 :: sxX11_startTrial_4
noncomputable def sxX11_startTrial_2 : List UInt8 := 3 :: sxX11_startTrial_3
noncomputable def sxX11_startTrial_1 : List UInt8 := 61 :: sxX11_startTrial_2
noncomputable def sxX11_startTrial_0 : List UInt8 := 3 :: sxX11_startTrial_1
theorem shX11_startTrial_0 : cX11_startTrial.data.toList.drop 0 = sxX11_startTrial_0 := rfl
theorem shX11_startTrial_1 : cX11_startTrial.data.toList.drop 1 = sxX11_startTrial_1 := dSn 1 shX11_startTrial_0
theorem shX11_startTrial_2 : cX11_startTrial.data.toList.drop 2 = sxX11_startTrial_2 := dSn 1 shX11_startTrial_1
theorem shX11_startTrial_3 : cX11_startTrial.data.toList.drop 3 = sxX11_startTrial_3 := dSn 1 shX11_startTrial_2
theorem shX11_startTrial_4 : cX11_startTrial.data.toList.drop 4 = sxX11_startTrial_4 := dSn 1 shX11_startTrial_3
theorem shX11_startTrial_5 : cX11_startTrial.data.toList.drop 5 = sxX11_startTrial_5 := dSn 1 shX11_startTrial_4
theorem shX11_startTrial_6 : cX11_startTrial.data.toList.drop 6 = sxX11_startTrial_6 := dSn 1 shX11_startTrial_5
theorem shX11_startTrial_9 : cX11_startTrial.data.toList.drop 9 = sxX11_startTrial_9 := dSn 3 shX11_startTrial_6
theorem shX11_startTrial_12 : cX11_startTrial.data.toList.drop 12 = sxX11_startTrial_12 := dSn 3 shX11_startTrial_9
theorem shX11_startTrial_15 : cX11_startTrial.data.toList.drop 15 = sxX11_startTrial_15 := dSn 3 shX11_startTrial_12
theorem shX11_startTrial_16 : cX11_startTrial.data.toList.drop 16 = sxX11_startTrial_16 := dSn 1 shX11_startTrial_15
theorem shX11_startTrial_19 : cX11_startTrial.data.toList.drop 19 = sxX11_startTrial_19 := dSn 3 shX11_startTrial_16
theorem shX11_startTrial_20 : cX11_startTrial.data.toList.drop 20 = sxX11_startTrial_20 := dSn 1 shX11_startTrial_19
theorem shX11_startTrial_23 : cX11_startTrial.data.toList.drop 23 = sxX11_startTrial_23 := dSn 3 shX11_startTrial_20
theorem shX11_startTrial_26 : cX11_startTrial.data.toList.drop 26 = sxX11_startTrial_26 := dSn 3 shX11_startTrial_23
theorem shX11_startTrial_28 : cX11_startTrial.data.toList.drop 28 = sxX11_startTrial_28 := dSn 2 shX11_startTrial_26
theorem shX11_startTrial_30 : cX11_startTrial.data.toList.drop 30 = sxX11_startTrial_30 := dSn 2 shX11_startTrial_28
theorem shX11_startTrial_32 : cX11_startTrial.data.toList.drop 32 = sxX11_startTrial_32 := dSn 2 shX11_startTrial_30
theorem shX11_startTrial_35 : cX11_startTrial.data.toList.drop 35 = sxX11_startTrial_35 := dSn 3 shX11_startTrial_32
theorem shX11_startTrial_38 : cX11_startTrial.data.toList.drop 38 = sxX11_startTrial_38 := dSn 3 shX11_startTrial_35
theorem shX11_startTrial_39 : cX11_startTrial.data.toList.drop 39 = sxX11_startTrial_39 := dSn 1 shX11_startTrial_38
theorem shX11_startTrial_42 : cX11_startTrial.data.toList.drop 42 = sxX11_startTrial_42 := dSn 3 shX11_startTrial_39
theorem shX11_startTrial_44 : cX11_startTrial.data.toList.drop 44 = sxX11_startTrial_44 := dSn 2 shX11_startTrial_42
theorem shX11_startTrial_47 : cX11_startTrial.data.toList.drop 47 = sxX11_startTrial_47 := dSn 3 shX11_startTrial_44
theorem shX11_startTrial_48 : cX11_startTrial.data.toList.drop 48 = sxX11_startTrial_48 := dSn 1 shX11_startTrial_47
theorem shX11_startTrial_51 : cX11_startTrial.data.toList.drop 51 = sxX11_startTrial_51 := dSn 3 shX11_startTrial_48
theorem shX11_startTrial_52 : cX11_startTrial.data.toList.drop 52 = sxX11_startTrial_52 := dSn 1 shX11_startTrial_51
theorem shX11_startTrial_55 : cX11_startTrial.data.toList.drop 55 = sxX11_startTrial_55 := dSn 3 shX11_startTrial_52
theorem shX11_startTrial_56 : cX11_startTrial.data.toList.drop 56 = sxX11_startTrial_56 := dSn 1 shX11_startTrial_55
theorem shX11_startTrial_57 : cX11_startTrial.data.toList.drop 57 = sxX11_startTrial_57 := dSn 1 shX11_startTrial_56
theorem shX11_startTrial_60 : cX11_startTrial.data.toList.drop 60 = sxX11_startTrial_60 := dSn 3 shX11_startTrial_57
theorem shX11_startTrial_63 : cX11_startTrial.data.toList.drop 63 = sxX11_startTrial_63 := dSn 3 shX11_startTrial_60
theorem shX11_startTrial_64 : cX11_startTrial.data.toList.drop 64 = sxX11_startTrial_64 := dSn 1 shX11_startTrial_63
theorem shX11_startTrial_67 : cX11_startTrial.data.toList.drop 67 = sxX11_startTrial_67 := dSn 3 shX11_startTrial_64
theorem shX11_startTrial_68 : cX11_startTrial.data.toList.drop 68 = sxX11_startTrial_68 := dSn 1 shX11_startTrial_67
theorem shX11_startTrial_71 : cX11_startTrial.data.toList.drop 71 = sxX11_startTrial_71 := dSn 3 shX11_startTrial_68
theorem shX11_startTrial_72 : cX11_startTrial.data.toList.drop 72 = sxX11_startTrial_72 := dSn 1 shX11_startTrial_71
theorem dX11_startTrial_0 : decode cX11_startTrial 0 = .ok (.iconst 0, 1) := oc_3 shX11_startTrial_0
theorem dX11_startTrial_1 : decode cX11_startTrial 1 = .ok (.istore_n 2, 1) := oc_61 shX11_startTrial_1
theorem dX11_startTrial_2 : decode cX11_startTrial 2 = .ok (.iconst 0, 1) := oc_3 shX11_startTrial_2
theorem dX11_startTrial_3 : decode cX11_startTrial 3 = .ok (.istore_n 3, 1) := oc_62 shX11_startTrial_3
theorem dX11_startTrial_4 : decode cX11_startTrial 4 = .ok (.iload_n 3, 1) := oc_29 shX11_startTrial_4
theorem dX11_startTrial_5 : decode cX11_startTrial 5 = .ok (.aload_n 0, 1) := oc_42 shX11_startTrial_5
theorem dX11_startTrial_6 : decode cX11_startTrial 6 = .ok (.getfield 61, 3) := oc_180 shX11_startTrial_6
theorem dX11_startTrial_9 : decode cX11_startTrial 9 = .ok (.invokevirtual 84, 3) := oc_182 shX11_startTrial_9
theorem dX11_startTrial_12 : decode cX11_startTrial 12 = .ok (.if_icmp .ge 51, 3) := oc_162 shX11_startTrial_12 sgw_0_51
theorem dX11_startTrial_63 : decode cX11_startTrial 63 = .ok (.iload_n 2, 1) := oc_28 shX11_startTrial_63
theorem dX11_startTrial_64 : decode cX11_startTrial 64 = .ok (.ifCond .ne 7, 3) := oc_154 shX11_startTrial_64 sgw_0_7
theorem dX11_startTrial_71 : decode cX11_startTrial 71 = .ok (.iconst 0, 1) := oc_3 shX11_startTrial_71
theorem dX11_startTrial_72 : decode cX11_startTrial 72 = .ok (.ireturn, 1) := oc_172 shX11_startTrial_72
theorem dX11_startTrial_67 : decode cX11_startTrial 67 = .ok (.iconst 1, 1) := oc_4 shX11_startTrial_67
theorem dX11_startTrial_68 : decode cX11_startTrial 68 = .ok (.goto 4, 3) := oc_167 shX11_startTrial_68 sgw_0_4
theorem dX11_startTrial_15 : decode cX11_startTrial 15 = .ok (.aload_n 0, 1) := oc_42 shX11_startTrial_15
theorem dX11_startTrial_16 : decode cX11_startTrial 16 = .ok (.getfield 61, 3) := oc_180 shX11_startTrial_16
theorem dX11_startTrial_19 : decode cX11_startTrial 19 = .ok (.iload_n 3, 1) := oc_29 shX11_startTrial_19
theorem dX11_startTrial_20 : decode cX11_startTrial 20 = .ok (.invokevirtual 87, 3) := oc_182 shX11_startTrial_20
theorem dX11_startTrial_23 : decode cX11_startTrial 23 = .ok (.checkcast 91, 3) := oc_192 shX11_startTrial_23
theorem dX11_startTrial_26 : decode cX11_startTrial 26 = .ok (.astore 4, 2) := oc_58 shX11_startTrial_26
theorem dX11_startTrial_28 : decode cX11_startTrial 28 = .ok (.aload 4, 2) := oc_25 shX11_startTrial_28
theorem dX11_startTrial_30 : decode cX11_startTrial 30 = .ok (.aload 4, 2) := oc_25 shX11_startTrial_30
theorem dX11_startTrial_32 : decode cX11_startTrial 32 = .ok (.getfield 118, 3) := oc_180 shX11_startTrial_32
theorem dX11_startTrial_35 : decode cX11_startTrial 35 = .ok (.putfield 263, 3) := oc_181 shX11_startTrial_35
theorem dX11_startTrial_38 : decode cX11_startTrial 38 = .ok (.iload_n 2, 1) := oc_28 shX11_startTrial_38
theorem dX11_startTrial_39 : decode cX11_startTrial 39 = .ok (.ifCond .ne 12, 3) := oc_154 shX11_startTrial_39 sgw_0_12
theorem dX11_startTrial_51 : decode cX11_startTrial 51 = .ok (.iconst 1, 1) := oc_4 shX11_startTrial_51
theorem dX11_startTrial_52 : decode cX11_startTrial 52 = .ok (.goto 4, 3) := oc_167 shX11_startTrial_52 sgw_0_4
theorem dX11_startTrial_56 : decode cX11_startTrial 56 = .ok (.istore_n 2, 1) := oc_61 shX11_startTrial_56
theorem dX11_startTrial_57 : decode cX11_startTrial 57 = .ok (.iinc 3 1, 3) := oc_132 shX11_startTrial_57 sgb_1
theorem dX11_startTrial_60 : decode cX11_startTrial 60 = .ok (.goto (-56), 3) := oc_167 shX11_startTrial_60 sgw_255_200
theorem dX11_startTrial_42 : decode cX11_startTrial 42 = .ok (.aload 4, 2) := oc_25 shX11_startTrial_42
theorem dX11_startTrial_44 : decode cX11_startTrial 44 = .ok (.getfield 118, 3) := oc_180 shX11_startTrial_44
theorem dX11_startTrial_47 : decode cX11_startTrial 47 = .ok (.iload_n 1, 1) := oc_27 shX11_startTrial_47
theorem dX11_startTrial_48 : decode cX11_startTrial 48 = .ok (.if_icmp .le 7, 3) := oc_164 shX11_startTrial_48 sgw_0_7
theorem dX11_startTrial_55 : decode cX11_startTrial 55 = .ok (.iconst 0, 1) := oc_3 shX11_startTrial_55
noncomputable def sxX11_gatherStops_99 : List UInt8 := []
noncomputable def sxX11_gatherStops_98 : List UInt8 := 172 :: sxX11_gatherStops_99
noncomputable def sxX11_gatherStops_97 : List UInt8 := 4 :: sxX11_gatherStops_98
noncomputable def sxX11_gatherStops_94 : List UInt8 := 182 :: 1 :: 17 :: sxX11_gatherStops_97
noncomputable def sxX11_gatherStops_91 : List UInt8 := 180 :: 0 :: 54 :: sxX11_gatherStops_94
noncomputable def sxX11_gatherStops_90 : List UInt8 := 42 :: sxX11_gatherStops_91
noncomputable def sxX11_gatherStops_87 : List UInt8 := 167 :: 255 :: 179 :: sxX11_gatherStops_90
noncomputable def sxX11_gatherStops_84 : List UInt8 := 132 :: 4 :: 1 :: sxX11_gatherStops_87
noncomputable def sxX11_gatherStops_81 : List UInt8 := 182 :: 1 :: 14 :: sxX11_gatherStops_84
noncomputable def sxX11_gatherStops_79 : List UInt8 := 21 :: 6 :: sxX11_gatherStops_81
noncomputable def sxX11_gatherStops_77 : List UInt8 := 25 :: 5 :: sxX11_gatherStops_79
noncomputable def sxX11_gatherStops_75 : List UInt8 := 21 :: 4 :: sxX11_gatherStops_77
noncomputable def sxX11_gatherStops_72 : List UInt8 := 180 :: 0 :: 54 :: sxX11_gatherStops_75
noncomputable def sxX11_gatherStops_71 : List UInt8 := 42 :: sxX11_gatherStops_72
noncomputable def sxX11_gatherStops_70 : List UInt8 := 172 :: sxX11_gatherStops_71
noncomputable def sxX11_gatherStops_69 : List UInt8 := 3 :: sxX11_gatherStops_70
noncomputable def sxX11_gatherStops_66 : List UInt8 := 161 :: 0 :: 5 :: sxX11_gatherStops_69
noncomputable def sxX11_gatherStops_65 : List UInt8 := 29 :: sxX11_gatherStops_66
noncomputable def sxX11_gatherStops_62 : List UInt8 := 180 :: 1 :: 11 :: sxX11_gatherStops_65
noncomputable def sxX11_gatherStops_59 : List UInt8 := 180 :: 0 :: 54 :: sxX11_gatherStops_62
noncomputable def sxX11_gatherStops_58 : List UInt8 := 42 :: sxX11_gatherStops_59
noncomputable def sxX11_gatherStops_55 : List UInt8 := 167 :: 0 :: 29 :: sxX11_gatherStops_58
noncomputable def sxX11_gatherStops_52 : List UInt8 := 162 :: 0 :: 6 :: sxX11_gatherStops_55
noncomputable def sxX11_gatherStops_51 : List UInt8 := 28 :: sxX11_gatherStops_52
noncomputable def sxX11_gatherStops_49 : List UInt8 := 21 :: 6 :: sxX11_gatherStops_51
noncomputable def sxX11_gatherStops_47 : List UInt8 := 54 :: 6 :: sxX11_gatherStops_49
noncomputable def sxX11_gatherStops_44 : List UInt8 := 182 :: 0 :: 121 :: sxX11_gatherStops_47
noncomputable def sxX11_gatherStops_41 : List UInt8 := 180 :: 1 :: 7 :: sxX11_gatherStops_44
noncomputable def sxX11_gatherStops_39 : List UInt8 := 25 :: 5 :: sxX11_gatherStops_41
noncomputable def sxX11_gatherStops_38 : List UInt8 := 27 :: sxX11_gatherStops_39
noncomputable def sxX11_gatherStops_36 : List UInt8 := 25 :: 5 :: sxX11_gatherStops_38
noncomputable def sxX11_gatherStops_34 : List UInt8 := 58 :: 5 :: sxX11_gatherStops_36
noncomputable def sxX11_gatherStops_31 : List UInt8 := 192 :: 0 :: 91 :: sxX11_gatherStops_34
noncomputable def sxX11_gatherStops_28 : List UInt8 := 182 :: 0 :: 87 :: sxX11_gatherStops_31
noncomputable def sxX11_gatherStops_26 : List UInt8 := 21 :: 4 :: sxX11_gatherStops_28
noncomputable def sxX11_gatherStops_23 : List UInt8 := 180 :: 0 :: 61 :: sxX11_gatherStops_26
noncomputable def sxX11_gatherStops_22 : List UInt8 := 42 :: sxX11_gatherStops_23
noncomputable def sxX11_gatherStops_19 : List UInt8 := 162 :: 0 :: 71 :: sxX11_gatherStops_22
noncomputable def sxX11_gatherStops_16 : List UInt8 := 182 :: 0 :: 84 :: sxX11_gatherStops_19
noncomputable def sxX11_gatherStops_13 : List UInt8 := 180 :: 0 :: 61 :: sxX11_gatherStops_16
noncomputable def sxX11_gatherStops_12 : List UInt8 := 42 :: sxX11_gatherStops_13
noncomputable def sxX11_gatherStops_10 : List UInt8 := 21 :: 4 :: sxX11_gatherStops_12
noncomputable def sxX11_gatherStops_8 : List UInt8 := 54 :: 4 :: sxX11_gatherStops_10
noncomputable def sxX11_gatherStops_7 : List UInt8 := 3 :: sxX11_gatherStops_8
noncomputable def sxX11_gatherStops_4 : List UInt8 := 182 :: 1 :: 10 :: sxX11_gatherStops_7
noncomputable def sxX11_gatherStops_1 : List UInt8 := 180 :: 0 :: 54 :: sxX11_gatherStops_4
noncomputable def sxX11_gatherStops_0 : List UInt8 := 42 :: sxX11_gatherStops_1
theorem shX11_gatherStops_0 : cX11_gatherStops.data.toList.drop 0 = sxX11_gatherStops_0 := rfl
theorem shX11_gatherStops_1 : cX11_gatherStops.data.toList.drop 1 = sxX11_gatherStops_1 := dSn 1 shX11_gatherStops_0
theorem shX11_gatherStops_4 : cX11_gatherStops.data.toList.drop 4 = sxX11_gatherStops_4 := dSn 3 shX11_gatherStops_1
theorem shX11_gatherStops_7 : cX11_gatherStops.data.toList.drop 7 = sxX11_gatherStops_7 := dSn 3 shX11_gatherStops_4
theorem shX11_gatherStops_8 : cX11_gatherStops.data.toList.drop 8 = sxX11_gatherStops_8 := dSn 1 shX11_gatherStops_7
theorem shX11_gatherStops_10 : cX11_gatherStops.data.toList.drop 10 = sxX11_gatherStops_10 := dSn 2 shX11_gatherStops_8
theorem shX11_gatherStops_12 : cX11_gatherStops.data.toList.drop 12 = sxX11_gatherStops_12 := dSn 2 shX11_gatherStops_10
theorem shX11_gatherStops_13 : cX11_gatherStops.data.toList.drop 13 = sxX11_gatherStops_13 := dSn 1 shX11_gatherStops_12
theorem shX11_gatherStops_16 : cX11_gatherStops.data.toList.drop 16 = sxX11_gatherStops_16 := dSn 3 shX11_gatherStops_13
theorem shX11_gatherStops_19 : cX11_gatherStops.data.toList.drop 19 = sxX11_gatherStops_19 := dSn 3 shX11_gatherStops_16
theorem shX11_gatherStops_22 : cX11_gatherStops.data.toList.drop 22 = sxX11_gatherStops_22 := dSn 3 shX11_gatherStops_19
theorem shX11_gatherStops_23 : cX11_gatherStops.data.toList.drop 23 = sxX11_gatherStops_23 := dSn 1 shX11_gatherStops_22
theorem shX11_gatherStops_26 : cX11_gatherStops.data.toList.drop 26 = sxX11_gatherStops_26 := dSn 3 shX11_gatherStops_23
theorem shX11_gatherStops_28 : cX11_gatherStops.data.toList.drop 28 = sxX11_gatherStops_28 := dSn 2 shX11_gatherStops_26
theorem shX11_gatherStops_31 : cX11_gatherStops.data.toList.drop 31 = sxX11_gatherStops_31 := dSn 3 shX11_gatherStops_28
theorem shX11_gatherStops_34 : cX11_gatherStops.data.toList.drop 34 = sxX11_gatherStops_34 := dSn 3 shX11_gatherStops_31
theorem shX11_gatherStops_36 : cX11_gatherStops.data.toList.drop 36 = sxX11_gatherStops_36 := dSn 2 shX11_gatherStops_34
theorem shX11_gatherStops_38 : cX11_gatherStops.data.toList.drop 38 = sxX11_gatherStops_38 := dSn 2 shX11_gatherStops_36
theorem shX11_gatherStops_39 : cX11_gatherStops.data.toList.drop 39 = sxX11_gatherStops_39 := dSn 1 shX11_gatherStops_38
theorem shX11_gatherStops_41 : cX11_gatherStops.data.toList.drop 41 = sxX11_gatherStops_41 := dSn 2 shX11_gatherStops_39
theorem shX11_gatherStops_44 : cX11_gatherStops.data.toList.drop 44 = sxX11_gatherStops_44 := dSn 3 shX11_gatherStops_41
theorem shX11_gatherStops_47 : cX11_gatherStops.data.toList.drop 47 = sxX11_gatherStops_47 := dSn 3 shX11_gatherStops_44
theorem shX11_gatherStops_49 : cX11_gatherStops.data.toList.drop 49 = sxX11_gatherStops_49 := dSn 2 shX11_gatherStops_47
theorem shX11_gatherStops_51 : cX11_gatherStops.data.toList.drop 51 = sxX11_gatherStops_51 := dSn 2 shX11_gatherStops_49
theorem shX11_gatherStops_52 : cX11_gatherStops.data.toList.drop 52 = sxX11_gatherStops_52 := dSn 1 shX11_gatherStops_51
theorem shX11_gatherStops_55 : cX11_gatherStops.data.toList.drop 55 = sxX11_gatherStops_55 := dSn 3 shX11_gatherStops_52
theorem shX11_gatherStops_58 : cX11_gatherStops.data.toList.drop 58 = sxX11_gatherStops_58 := dSn 3 shX11_gatherStops_55
theorem shX11_gatherStops_59 : cX11_gatherStops.data.toList.drop 59 = sxX11_gatherStops_59 := dSn 1 shX11_gatherStops_58
theorem shX11_gatherStops_62 : cX11_gatherStops.data.toList.drop 62 = sxX11_gatherStops_62 := dSn 3 shX11_gatherStops_59
theorem shX11_gatherStops_65 : cX11_gatherStops.data.toList.drop 65 = sxX11_gatherStops_65 := dSn 3 shX11_gatherStops_62
theorem shX11_gatherStops_66 : cX11_gatherStops.data.toList.drop 66 = sxX11_gatherStops_66 := dSn 1 shX11_gatherStops_65
theorem shX11_gatherStops_69 : cX11_gatherStops.data.toList.drop 69 = sxX11_gatherStops_69 := dSn 3 shX11_gatherStops_66
theorem shX11_gatherStops_70 : cX11_gatherStops.data.toList.drop 70 = sxX11_gatherStops_70 := dSn 1 shX11_gatherStops_69
theorem shX11_gatherStops_71 : cX11_gatherStops.data.toList.drop 71 = sxX11_gatherStops_71 := dSn 1 shX11_gatherStops_70
theorem shX11_gatherStops_72 : cX11_gatherStops.data.toList.drop 72 = sxX11_gatherStops_72 := dSn 1 shX11_gatherStops_71
theorem shX11_gatherStops_75 : cX11_gatherStops.data.toList.drop 75 = sxX11_gatherStops_75 := dSn 3 shX11_gatherStops_72
theorem shX11_gatherStops_77 : cX11_gatherStops.data.toList.drop 77 = sxX11_gatherStops_77 := dSn 2 shX11_gatherStops_75
theorem shX11_gatherStops_79 : cX11_gatherStops.data.toList.drop 79 = sxX11_gatherStops_79 := dSn 2 shX11_gatherStops_77
theorem shX11_gatherStops_81 : cX11_gatherStops.data.toList.drop 81 = sxX11_gatherStops_81 := dSn 2 shX11_gatherStops_79
theorem shX11_gatherStops_84 : cX11_gatherStops.data.toList.drop 84 = sxX11_gatherStops_84 := dSn 3 shX11_gatherStops_81
theorem shX11_gatherStops_87 : cX11_gatherStops.data.toList.drop 87 = sxX11_gatherStops_87 := dSn 3 shX11_gatherStops_84
theorem shX11_gatherStops_90 : cX11_gatherStops.data.toList.drop 90 = sxX11_gatherStops_90 := dSn 3 shX11_gatherStops_87
theorem shX11_gatherStops_91 : cX11_gatherStops.data.toList.drop 91 = sxX11_gatherStops_91 := dSn 1 shX11_gatherStops_90
theorem shX11_gatherStops_94 : cX11_gatherStops.data.toList.drop 94 = sxX11_gatherStops_94 := dSn 3 shX11_gatherStops_91
theorem shX11_gatherStops_97 : cX11_gatherStops.data.toList.drop 97 = sxX11_gatherStops_97 := dSn 3 shX11_gatherStops_94
theorem shX11_gatherStops_98 : cX11_gatherStops.data.toList.drop 98 = sxX11_gatherStops_98 := dSn 1 shX11_gatherStops_97
theorem dX11_gatherStops_0 : decode cX11_gatherStops 0 = .ok (.aload_n 0, 1) := oc_42 shX11_gatherStops_0
theorem dX11_gatherStops_1 : decode cX11_gatherStops 1 = .ok (.getfield 54, 3) := oc_180 shX11_gatherStops_1
theorem dX11_gatherStops_4 : decode cX11_gatherStops 4 = .ok (.invokevirtual 266, 3) := oc_182 shX11_gatherStops_4
theorem dX11_gatherStops_7 : decode cX11_gatherStops 7 = .ok (.iconst 0, 1) := oc_3 shX11_gatherStops_7
theorem dX11_gatherStops_8 : decode cX11_gatherStops 8 = .ok (.istore 4, 2) := oc_54 shX11_gatherStops_8
theorem dX11_gatherStops_10 : decode cX11_gatherStops 10 = .ok (.iload 4, 2) := oc_21 shX11_gatherStops_10
theorem dX11_gatherStops_12 : decode cX11_gatherStops 12 = .ok (.aload_n 0, 1) := oc_42 shX11_gatherStops_12
theorem dX11_gatherStops_13 : decode cX11_gatherStops 13 = .ok (.getfield 61, 3) := oc_180 shX11_gatherStops_13
theorem dX11_gatherStops_16 : decode cX11_gatherStops 16 = .ok (.invokevirtual 84, 3) := oc_182 shX11_gatherStops_16
theorem dX11_gatherStops_19 : decode cX11_gatherStops 19 = .ok (.if_icmp .ge 71, 3) := oc_162 shX11_gatherStops_19 sgw_0_71
theorem dX11_gatherStops_90 : decode cX11_gatherStops 90 = .ok (.aload_n 0, 1) := oc_42 shX11_gatherStops_90
theorem dX11_gatherStops_91 : decode cX11_gatherStops 91 = .ok (.getfield 54, 3) := oc_180 shX11_gatherStops_91
theorem dX11_gatherStops_94 : decode cX11_gatherStops 94 = .ok (.invokevirtual 273, 3) := oc_182 shX11_gatherStops_94
theorem dX11_gatherStops_97 : decode cX11_gatherStops 97 = .ok (.iconst 1, 1) := oc_4 shX11_gatherStops_97
theorem dX11_gatherStops_98 : decode cX11_gatherStops 98 = .ok (.ireturn, 1) := oc_172 shX11_gatherStops_98
theorem dX11_gatherStops_22 : decode cX11_gatherStops 22 = .ok (.aload_n 0, 1) := oc_42 shX11_gatherStops_22
theorem dX11_gatherStops_23 : decode cX11_gatherStops 23 = .ok (.getfield 61, 3) := oc_180 shX11_gatherStops_23
theorem dX11_gatherStops_26 : decode cX11_gatherStops 26 = .ok (.iload 4, 2) := oc_21 shX11_gatherStops_26
theorem dX11_gatherStops_28 : decode cX11_gatherStops 28 = .ok (.invokevirtual 87, 3) := oc_182 shX11_gatherStops_28
theorem dX11_gatherStops_31 : decode cX11_gatherStops 31 = .ok (.checkcast 91, 3) := oc_192 shX11_gatherStops_31
theorem dX11_gatherStops_34 : decode cX11_gatherStops 34 = .ok (.astore 5, 2) := oc_58 shX11_gatherStops_34
theorem dX11_gatherStops_36 : decode cX11_gatherStops 36 = .ok (.aload 5, 2) := oc_25 shX11_gatherStops_36
theorem dX11_gatherStops_38 : decode cX11_gatherStops 38 = .ok (.iload_n 1, 1) := oc_27 shX11_gatherStops_38
theorem dX11_gatherStops_39 : decode cX11_gatherStops 39 = .ok (.aload 5, 2) := oc_25 shX11_gatherStops_39
theorem dX11_gatherStops_41 : decode cX11_gatherStops 41 = .ok (.getfield 263, 3) := oc_180 shX11_gatherStops_41
theorem dX11_gatherStops_44 : decode cX11_gatherStops 44 = .ok (.invokevirtual 121, 3) := oc_182 shX11_gatherStops_44
theorem dX11_gatherStops_47 : decode cX11_gatherStops 47 = .ok (.istore 6, 2) := oc_54 shX11_gatherStops_47
theorem dX11_gatherStops_49 : decode cX11_gatherStops 49 = .ok (.iload 6, 2) := oc_21 shX11_gatherStops_49
theorem dX11_gatherStops_51 : decode cX11_gatherStops 51 = .ok (.iload_n 2, 1) := oc_28 shX11_gatherStops_51
theorem dX11_gatherStops_52 : decode cX11_gatherStops 52 = .ok (.if_icmp .ge 6, 3) := oc_162 shX11_gatherStops_52 sgw_0_6
theorem dX11_gatherStops_58 : decode cX11_gatherStops 58 = .ok (.aload_n 0, 1) := oc_42 shX11_gatherStops_58
theorem dX11_gatherStops_59 : decode cX11_gatherStops 59 = .ok (.getfield 54, 3) := oc_180 shX11_gatherStops_59
theorem dX11_gatherStops_62 : decode cX11_gatherStops 62 = .ok (.getfield 267, 3) := oc_180 shX11_gatherStops_62
theorem dX11_gatherStops_65 : decode cX11_gatherStops 65 = .ok (.iload_n 3, 1) := oc_29 shX11_gatherStops_65
theorem dX11_gatherStops_66 : decode cX11_gatherStops 66 = .ok (.if_icmp .lt 5, 3) := oc_161 shX11_gatherStops_66 sgw_0_5
theorem dX11_gatherStops_71 : decode cX11_gatherStops 71 = .ok (.aload_n 0, 1) := oc_42 shX11_gatherStops_71
theorem dX11_gatherStops_72 : decode cX11_gatherStops 72 = .ok (.getfield 54, 3) := oc_180 shX11_gatherStops_72
theorem dX11_gatherStops_75 : decode cX11_gatherStops 75 = .ok (.iload 4, 2) := oc_21 shX11_gatherStops_75
theorem dX11_gatherStops_77 : decode cX11_gatherStops 77 = .ok (.aload 5, 2) := oc_25 shX11_gatherStops_77
theorem dX11_gatherStops_79 : decode cX11_gatherStops 79 = .ok (.iload 6, 2) := oc_21 shX11_gatherStops_79
theorem dX11_gatherStops_81 : decode cX11_gatherStops 81 = .ok (.invokevirtual 270, 3) := oc_182 shX11_gatherStops_81
theorem dX11_gatherStops_84 : decode cX11_gatherStops 84 = .ok (.iinc 4 1, 3) := oc_132 shX11_gatherStops_84 sgb_1
theorem dX11_gatherStops_87 : decode cX11_gatherStops 87 = .ok (.goto (-77), 3) := oc_167 shX11_gatherStops_87 sgw_255_179
theorem dX11_gatherStops_69 : decode cX11_gatherStops 69 = .ok (.iconst 0, 1) := oc_3 shX11_gatherStops_69
theorem dX11_gatherStops_70 : decode cX11_gatherStops 70 = .ok (.ireturn, 1) := oc_172 shX11_gatherStops_70
theorem dX11_gatherStops_55 : decode cX11_gatherStops 55 = .ok (.goto 29, 3) := oc_167 shX11_gatherStops_55 sgw_0_29
noncomputable def sxX11_round_66 : List UInt8 := []
noncomputable def sxX11_round_65 : List UInt8 := 172 :: sxX11_round_66
noncomputable def sxX11_round_62 : List UInt8 := 182 :: 1 :: 29 :: sxX11_round_65
noncomputable def sxX11_round_61 : List UInt8 := 29 :: sxX11_round_62
noncomputable def sxX11_round_58 : List UInt8 := 180 :: 0 :: 54 :: sxX11_round_61
noncomputable def sxX11_round_57 : List UInt8 := 42 :: sxX11_round_58
noncomputable def sxX11_round_54 : List UInt8 := 167 :: 0 :: 11 :: sxX11_round_57
noncomputable def sxX11_round_51 : List UInt8 := 182 :: 1 :: 26 :: sxX11_round_54
noncomputable def sxX11_round_48 : List UInt8 := 180 :: 0 :: 54 :: sxX11_round_51
noncomputable def sxX11_round_47 : List UInt8 := 42 :: sxX11_round_48
noncomputable def sxX11_round_44 : List UInt8 := 160 :: 0 :: 13 :: sxX11_round_47
noncomputable def sxX11_round_43 : List UInt8 := 2 :: sxX11_round_44
noncomputable def sxX11_round_42 : List UInt8 := 29 :: sxX11_round_43
noncomputable def sxX11_round_41 : List UInt8 := 172 :: sxX11_round_42
noncomputable def sxX11_round_39 : List UInt8 := 16 :: 254 :: sxX11_round_41
noncomputable def sxX11_round_36 : List UInt8 := 154 :: 0 :: 6 :: sxX11_round_39
noncomputable def sxX11_round_33 : List UInt8 := 182 :: 1 :: 23 :: sxX11_round_36
noncomputable def sxX11_round_31 : List UInt8 := 16 :: 8 :: sxX11_round_33
noncomputable def sxX11_round_30 : List UInt8 := 28 :: sxX11_round_31
noncomputable def sxX11_round_29 : List UInt8 := 27 :: sxX11_round_30
noncomputable def sxX11_round_28 : List UInt8 := 42 :: sxX11_round_29
noncomputable def sxX11_round_25 : List UInt8 := 153 :: 0 :: 14 :: sxX11_round_28
noncomputable def sxX11_round_22 : List UInt8 := 182 :: 1 :: 20 :: sxX11_round_25
noncomputable def sxX11_round_21 : List UInt8 := 27 :: sxX11_round_22
noncomputable def sxX11_round_20 : List UInt8 := 42 :: sxX11_round_21
noncomputable def sxX11_round_19 : List UInt8 := 172 :: sxX11_round_20
noncomputable def sxX11_round_18 : List UInt8 := 2 :: sxX11_round_19
noncomputable def sxX11_round_15 : List UInt8 := 154 :: 0 :: 5 :: sxX11_round_18
noncomputable def sxX11_round_12 : List UInt8 := 184 :: 0 :: 80 :: sxX11_round_15
noncomputable def sxX11_round_9 : List UInt8 := 17 :: 1 :: 144 :: sxX11_round_12
noncomputable def sxX11_round_8 : List UInt8 := 4 :: sxX11_round_9
noncomputable def sxX11_round_7 : List UInt8 := 28 :: sxX11_round_8
noncomputable def sxX11_round_4 : List UInt8 := 153 :: 0 :: 14 :: sxX11_round_7
noncomputable def sxX11_round_1 : List UInt8 := 184 :: 0 :: 99 :: sxX11_round_4
noncomputable def sxX11_round_0 : List UInt8 := 27 :: sxX11_round_1
theorem shX11_round_0 : cX11_round.data.toList.drop 0 = sxX11_round_0 := rfl
theorem shX11_round_1 : cX11_round.data.toList.drop 1 = sxX11_round_1 := dSn 1 shX11_round_0
theorem shX11_round_4 : cX11_round.data.toList.drop 4 = sxX11_round_4 := dSn 3 shX11_round_1
theorem shX11_round_7 : cX11_round.data.toList.drop 7 = sxX11_round_7 := dSn 3 shX11_round_4
theorem shX11_round_8 : cX11_round.data.toList.drop 8 = sxX11_round_8 := dSn 1 shX11_round_7
theorem shX11_round_9 : cX11_round.data.toList.drop 9 = sxX11_round_9 := dSn 1 shX11_round_8
theorem shX11_round_12 : cX11_round.data.toList.drop 12 = sxX11_round_12 := dSn 3 shX11_round_9
theorem shX11_round_15 : cX11_round.data.toList.drop 15 = sxX11_round_15 := dSn 3 shX11_round_12
theorem shX11_round_18 : cX11_round.data.toList.drop 18 = sxX11_round_18 := dSn 3 shX11_round_15
theorem shX11_round_19 : cX11_round.data.toList.drop 19 = sxX11_round_19 := dSn 1 shX11_round_18
theorem shX11_round_20 : cX11_round.data.toList.drop 20 = sxX11_round_20 := dSn 1 shX11_round_19
theorem shX11_round_21 : cX11_round.data.toList.drop 21 = sxX11_round_21 := dSn 1 shX11_round_20
theorem shX11_round_22 : cX11_round.data.toList.drop 22 = sxX11_round_22 := dSn 1 shX11_round_21
theorem shX11_round_25 : cX11_round.data.toList.drop 25 = sxX11_round_25 := dSn 3 shX11_round_22
theorem shX11_round_28 : cX11_round.data.toList.drop 28 = sxX11_round_28 := dSn 3 shX11_round_25
theorem shX11_round_29 : cX11_round.data.toList.drop 29 = sxX11_round_29 := dSn 1 shX11_round_28
theorem shX11_round_30 : cX11_round.data.toList.drop 30 = sxX11_round_30 := dSn 1 shX11_round_29
theorem shX11_round_31 : cX11_round.data.toList.drop 31 = sxX11_round_31 := dSn 1 shX11_round_30
theorem shX11_round_33 : cX11_round.data.toList.drop 33 = sxX11_round_33 := dSn 2 shX11_round_31
theorem shX11_round_36 : cX11_round.data.toList.drop 36 = sxX11_round_36 := dSn 3 shX11_round_33
theorem shX11_round_39 : cX11_round.data.toList.drop 39 = sxX11_round_39 := dSn 3 shX11_round_36
theorem shX11_round_41 : cX11_round.data.toList.drop 41 = sxX11_round_41 := dSn 2 shX11_round_39
theorem shX11_round_42 : cX11_round.data.toList.drop 42 = sxX11_round_42 := dSn 1 shX11_round_41
theorem shX11_round_43 : cX11_round.data.toList.drop 43 = sxX11_round_43 := dSn 1 shX11_round_42
theorem shX11_round_44 : cX11_round.data.toList.drop 44 = sxX11_round_44 := dSn 1 shX11_round_43
theorem shX11_round_47 : cX11_round.data.toList.drop 47 = sxX11_round_47 := dSn 3 shX11_round_44
theorem shX11_round_48 : cX11_round.data.toList.drop 48 = sxX11_round_48 := dSn 1 shX11_round_47
theorem shX11_round_51 : cX11_round.data.toList.drop 51 = sxX11_round_51 := dSn 3 shX11_round_48
theorem shX11_round_54 : cX11_round.data.toList.drop 54 = sxX11_round_54 := dSn 3 shX11_round_51
theorem shX11_round_57 : cX11_round.data.toList.drop 57 = sxX11_round_57 := dSn 3 shX11_round_54
theorem shX11_round_58 : cX11_round.data.toList.drop 58 = sxX11_round_58 := dSn 1 shX11_round_57
theorem shX11_round_61 : cX11_round.data.toList.drop 61 = sxX11_round_61 := dSn 3 shX11_round_58
theorem shX11_round_62 : cX11_round.data.toList.drop 62 = sxX11_round_62 := dSn 1 shX11_round_61
theorem shX11_round_65 : cX11_round.data.toList.drop 65 = sxX11_round_65 := dSn 3 shX11_round_62
theorem dX11_round_0 : decode cX11_round 0 = .ok (.iload_n 1, 1) := oc_27 shX11_round_0
theorem dX11_round_1 : decode cX11_round 1 = .ok (.invokestatic 99, 3) := oc_184 shX11_round_1
theorem dX11_round_4 : decode cX11_round 4 = .ok (.ifCond .eq 14, 3) := oc_153 shX11_round_4 sgw_0_14
theorem dX11_round_7 : decode cX11_round 7 = .ok (.iload_n 2, 1) := oc_28 shX11_round_7
theorem dX11_round_8 : decode cX11_round 8 = .ok (.iconst 1, 1) := oc_4 shX11_round_8
theorem dX11_round_9 : decode cX11_round 9 = .ok (.sipush 400, 3) := oc_17 shX11_round_9 sgw_1_144
theorem dX11_round_12 : decode cX11_round 12 = .ok (.invokestatic 80, 3) := oc_184 shX11_round_12
theorem dX11_round_15 : decode cX11_round 15 = .ok (.ifCond .ne 5, 3) := oc_154 shX11_round_15 sgw_0_5
theorem dX11_round_20 : decode cX11_round 20 = .ok (.aload_n 0, 1) := oc_42 shX11_round_20
theorem dX11_round_21 : decode cX11_round 21 = .ok (.iload_n 1, 1) := oc_27 shX11_round_21
theorem dX11_round_22 : decode cX11_round 22 = .ok (.invokevirtual 276, 3) := oc_182 shX11_round_22
theorem dX11_round_25 : decode cX11_round 25 = .ok (.ifCond .eq 14, 3) := oc_153 shX11_round_25 sgw_0_14
theorem dX11_round_39 : decode cX11_round 39 = .ok (.bipush (-2), 2) := oc_16 shX11_round_39 sgb_254
theorem dX11_round_41 : decode cX11_round 41 = .ok (.ireturn, 1) := oc_172 shX11_round_41
theorem dX11_round_28 : decode cX11_round 28 = .ok (.aload_n 0, 1) := oc_42 shX11_round_28
theorem dX11_round_29 : decode cX11_round 29 = .ok (.iload_n 1, 1) := oc_27 shX11_round_29
theorem dX11_round_30 : decode cX11_round 30 = .ok (.iload_n 2, 1) := oc_28 shX11_round_30
theorem dX11_round_31 : decode cX11_round 31 = .ok (.bipush 8, 2) := oc_16 shX11_round_31 sgb_8
theorem dX11_round_33 : decode cX11_round 33 = .ok (.invokevirtual 279, 3) := oc_182 shX11_round_33
theorem dX11_round_36 : decode cX11_round 36 = .ok (.ifCond .ne 6, 3) := oc_154 shX11_round_36 sgw_0_6
theorem dX11_round_42 : decode cX11_round 42 = .ok (.iload_n 3, 1) := oc_29 shX11_round_42
theorem dX11_round_43 : decode cX11_round 43 = .ok (.iconst (-1), 1) := oc_2 shX11_round_43
theorem dX11_round_44 : decode cX11_round 44 = .ok (.if_icmp .ne 13, 3) := oc_160 shX11_round_44 sgw_0_13
theorem dX11_round_57 : decode cX11_round 57 = .ok (.aload_n 0, 1) := oc_42 shX11_round_57
theorem dX11_round_58 : decode cX11_round 58 = .ok (.getfield 54, 3) := oc_180 shX11_round_58
theorem dX11_round_61 : decode cX11_round 61 = .ok (.iload_n 3, 1) := oc_29 shX11_round_61
theorem dX11_round_62 : decode cX11_round 62 = .ok (.invokevirtual 285, 3) := oc_182 shX11_round_62
theorem dX11_round_65 : decode cX11_round 65 = .ok (.ireturn, 1) := oc_172 shX11_round_65
theorem dX11_round_47 : decode cX11_round 47 = .ok (.aload_n 0, 1) := oc_42 shX11_round_47
theorem dX11_round_48 : decode cX11_round 48 = .ok (.getfield 54, 3) := oc_180 shX11_round_48
theorem dX11_round_51 : decode cX11_round 51 = .ok (.invokevirtual 282, 3) := oc_182 shX11_round_51
theorem dX11_round_54 : decode cX11_round 54 = .ok (.goto 11, 3) := oc_167 shX11_round_54 sgw_0_11
theorem dX11_round_18 : decode cX11_round 18 = .ok (.iconst (-1), 1) := oc_2 shX11_round_18
theorem dX11_round_19 : decode cX11_round 19 = .ok (.ireturn, 1) := oc_172 shX11_round_19
noncomputable def sxX11_emptyStops_65 : List UInt8 := []
noncomputable def sxX11_emptyStops_64 : List UInt8 := 172 :: sxX11_emptyStops_65
noncomputable def sxX11_emptyStops_63 : List UInt8 := 28 :: sxX11_emptyStops_64
noncomputable def sxX11_emptyStops_60 : List UInt8 := 167 :: 255 :: 200 :: sxX11_emptyStops_63
noncomputable def sxX11_emptyStops_57 : List UInt8 := 132 :: 3 :: 1 :: sxX11_emptyStops_60
noncomputable def sxX11_emptyStops_54 : List UInt8 := 181 :: 1 :: 7 :: sxX11_emptyStops_57
noncomputable def sxX11_emptyStops_53 : List UInt8 := 27 :: sxX11_emptyStops_54
noncomputable def sxX11_emptyStops_51 : List UInt8 := 25 :: 4 :: sxX11_emptyStops_53
noncomputable def sxX11_emptyStops_48 : List UInt8 := 198 :: 0 :: 9 :: sxX11_emptyStops_51
noncomputable def sxX11_emptyStops_46 : List UInt8 := 25 :: 4 :: sxX11_emptyStops_48
noncomputable def sxX11_emptyStops_45 : List UInt8 := 61 :: sxX11_emptyStops_46
noncomputable def sxX11_emptyStops_44 : List UInt8 := 96 :: sxX11_emptyStops_45
noncomputable def sxX11_emptyStops_41 : List UInt8 := 184 :: 0 :: 192 :: sxX11_emptyStops_44
noncomputable def sxX11_emptyStops_40 : List UInt8 := 29 :: sxX11_emptyStops_41
noncomputable def sxX11_emptyStops_37 : List UInt8 := 180 :: 1 :: 52 :: sxX11_emptyStops_40
noncomputable def sxX11_emptyStops_34 : List UInt8 := 180 :: 0 :: 54 :: sxX11_emptyStops_37
noncomputable def sxX11_emptyStops_33 : List UInt8 := 42 :: sxX11_emptyStops_34
noncomputable def sxX11_emptyStops_32 : List UInt8 := 28 :: sxX11_emptyStops_33
noncomputable def sxX11_emptyStops_30 : List UInt8 := 58 :: 4 :: sxX11_emptyStops_32
noncomputable def sxX11_emptyStops_27 : List UInt8 := 182 :: 0 :: 114 :: sxX11_emptyStops_30
noncomputable def sxX11_emptyStops_24 : List UInt8 := 184 :: 0 :: 192 :: sxX11_emptyStops_27
noncomputable def sxX11_emptyStops_23 : List UInt8 := 29 :: sxX11_emptyStops_24
noncomputable def sxX11_emptyStops_20 : List UInt8 := 180 :: 1 :: 50 :: sxX11_emptyStops_23
noncomputable def sxX11_emptyStops_17 : List UInt8 := 180 :: 0 :: 54 :: sxX11_emptyStops_20
noncomputable def sxX11_emptyStops_16 : List UInt8 := 42 :: sxX11_emptyStops_17
noncomputable def sxX11_emptyStops_15 : List UInt8 := 42 :: sxX11_emptyStops_16
noncomputable def sxX11_emptyStops_12 : List UInt8 := 162 :: 0 :: 51 :: sxX11_emptyStops_15
noncomputable def sxX11_emptyStops_9 : List UInt8 := 180 :: 1 :: 11 :: sxX11_emptyStops_12
noncomputable def sxX11_emptyStops_6 : List UInt8 := 180 :: 0 :: 54 :: sxX11_emptyStops_9
noncomputable def sxX11_emptyStops_5 : List UInt8 := 42 :: sxX11_emptyStops_6
noncomputable def sxX11_emptyStops_4 : List UInt8 := 29 :: sxX11_emptyStops_5
noncomputable def sxX11_emptyStops_3 : List UInt8 := 62 :: sxX11_emptyStops_4
noncomputable def sxX11_emptyStops_2 : List UInt8 := 3 :: sxX11_emptyStops_3
noncomputable def sxX11_emptyStops_1 : List UInt8 := 61 :: sxX11_emptyStops_2
noncomputable def sxX11_emptyStops_0 : List UInt8 := 3 :: sxX11_emptyStops_1
theorem shX11_emptyStops_0 : cX11_emptyStops.data.toList.drop 0 = sxX11_emptyStops_0 := rfl
theorem shX11_emptyStops_1 : cX11_emptyStops.data.toList.drop 1 = sxX11_emptyStops_1 := dSn 1 shX11_emptyStops_0
theorem shX11_emptyStops_2 : cX11_emptyStops.data.toList.drop 2 = sxX11_emptyStops_2 := dSn 1 shX11_emptyStops_1
theorem shX11_emptyStops_3 : cX11_emptyStops.data.toList.drop 3 = sxX11_emptyStops_3 := dSn 1 shX11_emptyStops_2
theorem shX11_emptyStops_4 : cX11_emptyStops.data.toList.drop 4 = sxX11_emptyStops_4 := dSn 1 shX11_emptyStops_3
theorem shX11_emptyStops_5 : cX11_emptyStops.data.toList.drop 5 = sxX11_emptyStops_5 := dSn 1 shX11_emptyStops_4
theorem shX11_emptyStops_6 : cX11_emptyStops.data.toList.drop 6 = sxX11_emptyStops_6 := dSn 1 shX11_emptyStops_5
theorem shX11_emptyStops_9 : cX11_emptyStops.data.toList.drop 9 = sxX11_emptyStops_9 := dSn 3 shX11_emptyStops_6
theorem shX11_emptyStops_12 : cX11_emptyStops.data.toList.drop 12 = sxX11_emptyStops_12 := dSn 3 shX11_emptyStops_9
theorem shX11_emptyStops_15 : cX11_emptyStops.data.toList.drop 15 = sxX11_emptyStops_15 := dSn 3 shX11_emptyStops_12
theorem shX11_emptyStops_16 : cX11_emptyStops.data.toList.drop 16 = sxX11_emptyStops_16 := dSn 1 shX11_emptyStops_15
theorem shX11_emptyStops_17 : cX11_emptyStops.data.toList.drop 17 = sxX11_emptyStops_17 := dSn 1 shX11_emptyStops_16
theorem shX11_emptyStops_20 : cX11_emptyStops.data.toList.drop 20 = sxX11_emptyStops_20 := dSn 3 shX11_emptyStops_17
theorem shX11_emptyStops_23 : cX11_emptyStops.data.toList.drop 23 = sxX11_emptyStops_23 := dSn 3 shX11_emptyStops_20
theorem shX11_emptyStops_24 : cX11_emptyStops.data.toList.drop 24 = sxX11_emptyStops_24 := dSn 1 shX11_emptyStops_23
theorem shX11_emptyStops_27 : cX11_emptyStops.data.toList.drop 27 = sxX11_emptyStops_27 := dSn 3 shX11_emptyStops_24
theorem shX11_emptyStops_30 : cX11_emptyStops.data.toList.drop 30 = sxX11_emptyStops_30 := dSn 3 shX11_emptyStops_27
theorem shX11_emptyStops_32 : cX11_emptyStops.data.toList.drop 32 = sxX11_emptyStops_32 := dSn 2 shX11_emptyStops_30
theorem shX11_emptyStops_33 : cX11_emptyStops.data.toList.drop 33 = sxX11_emptyStops_33 := dSn 1 shX11_emptyStops_32
theorem shX11_emptyStops_34 : cX11_emptyStops.data.toList.drop 34 = sxX11_emptyStops_34 := dSn 1 shX11_emptyStops_33
theorem shX11_emptyStops_37 : cX11_emptyStops.data.toList.drop 37 = sxX11_emptyStops_37 := dSn 3 shX11_emptyStops_34
theorem shX11_emptyStops_40 : cX11_emptyStops.data.toList.drop 40 = sxX11_emptyStops_40 := dSn 3 shX11_emptyStops_37
theorem shX11_emptyStops_41 : cX11_emptyStops.data.toList.drop 41 = sxX11_emptyStops_41 := dSn 1 shX11_emptyStops_40
theorem shX11_emptyStops_44 : cX11_emptyStops.data.toList.drop 44 = sxX11_emptyStops_44 := dSn 3 shX11_emptyStops_41
theorem shX11_emptyStops_45 : cX11_emptyStops.data.toList.drop 45 = sxX11_emptyStops_45 := dSn 1 shX11_emptyStops_44
theorem shX11_emptyStops_46 : cX11_emptyStops.data.toList.drop 46 = sxX11_emptyStops_46 := dSn 1 shX11_emptyStops_45
theorem shX11_emptyStops_48 : cX11_emptyStops.data.toList.drop 48 = sxX11_emptyStops_48 := dSn 2 shX11_emptyStops_46
theorem shX11_emptyStops_51 : cX11_emptyStops.data.toList.drop 51 = sxX11_emptyStops_51 := dSn 3 shX11_emptyStops_48
theorem shX11_emptyStops_53 : cX11_emptyStops.data.toList.drop 53 = sxX11_emptyStops_53 := dSn 2 shX11_emptyStops_51
theorem shX11_emptyStops_54 : cX11_emptyStops.data.toList.drop 54 = sxX11_emptyStops_54 := dSn 1 shX11_emptyStops_53
theorem shX11_emptyStops_57 : cX11_emptyStops.data.toList.drop 57 = sxX11_emptyStops_57 := dSn 3 shX11_emptyStops_54
theorem shX11_emptyStops_60 : cX11_emptyStops.data.toList.drop 60 = sxX11_emptyStops_60 := dSn 3 shX11_emptyStops_57
theorem shX11_emptyStops_63 : cX11_emptyStops.data.toList.drop 63 = sxX11_emptyStops_63 := dSn 3 shX11_emptyStops_60
theorem shX11_emptyStops_64 : cX11_emptyStops.data.toList.drop 64 = sxX11_emptyStops_64 := dSn 1 shX11_emptyStops_63
theorem dX11_emptyStops_0 : decode cX11_emptyStops 0 = .ok (.iconst 0, 1) := oc_3 shX11_emptyStops_0
theorem dX11_emptyStops_1 : decode cX11_emptyStops 1 = .ok (.istore_n 2, 1) := oc_61 shX11_emptyStops_1
theorem dX11_emptyStops_2 : decode cX11_emptyStops 2 = .ok (.iconst 0, 1) := oc_3 shX11_emptyStops_2
theorem dX11_emptyStops_3 : decode cX11_emptyStops 3 = .ok (.istore_n 3, 1) := oc_62 shX11_emptyStops_3
theorem dX11_emptyStops_4 : decode cX11_emptyStops 4 = .ok (.iload_n 3, 1) := oc_29 shX11_emptyStops_4
theorem dX11_emptyStops_5 : decode cX11_emptyStops 5 = .ok (.aload_n 0, 1) := oc_42 shX11_emptyStops_5
theorem dX11_emptyStops_6 : decode cX11_emptyStops 6 = .ok (.getfield 54, 3) := oc_180 shX11_emptyStops_6
theorem dX11_emptyStops_9 : decode cX11_emptyStops 9 = .ok (.getfield 267, 3) := oc_180 shX11_emptyStops_9
theorem dX11_emptyStops_12 : decode cX11_emptyStops 12 = .ok (.if_icmp .ge 51, 3) := oc_162 shX11_emptyStops_12 sgw_0_51
theorem dX11_emptyStops_63 : decode cX11_emptyStops 63 = .ok (.iload_n 2, 1) := oc_28 shX11_emptyStops_63
theorem dX11_emptyStops_64 : decode cX11_emptyStops 64 = .ok (.ireturn, 1) := oc_172 shX11_emptyStops_64
theorem dX11_emptyStops_15 : decode cX11_emptyStops 15 = .ok (.aload_n 0, 1) := oc_42 shX11_emptyStops_15
theorem dX11_emptyStops_16 : decode cX11_emptyStops 16 = .ok (.aload_n 0, 1) := oc_42 shX11_emptyStops_16
theorem dX11_emptyStops_17 : decode cX11_emptyStops 17 = .ok (.getfield 54, 3) := oc_180 shX11_emptyStops_17
theorem dX11_emptyStops_20 : decode cX11_emptyStops 20 = .ok (.getfield 306, 3) := oc_180 shX11_emptyStops_20
theorem dX11_emptyStops_23 : decode cX11_emptyStops 23 = .ok (.iload_n 3, 1) := oc_29 shX11_emptyStops_23
theorem dX11_emptyStops_24 : decode cX11_emptyStops 24 = .ok (.invokestatic 192, 3) := oc_184 shX11_emptyStops_24
theorem dX11_emptyStops_27 : decode cX11_emptyStops 27 = .ok (.invokevirtual 114, 3) := oc_182 shX11_emptyStops_27
theorem dX11_emptyStops_30 : decode cX11_emptyStops 30 = .ok (.astore 4, 2) := oc_58 shX11_emptyStops_30
theorem dX11_emptyStops_32 : decode cX11_emptyStops 32 = .ok (.iload_n 2, 1) := oc_28 shX11_emptyStops_32
theorem dX11_emptyStops_33 : decode cX11_emptyStops 33 = .ok (.aload_n 0, 1) := oc_42 shX11_emptyStops_33
theorem dX11_emptyStops_34 : decode cX11_emptyStops 34 = .ok (.getfield 54, 3) := oc_180 shX11_emptyStops_34
theorem dX11_emptyStops_37 : decode cX11_emptyStops 37 = .ok (.getfield 308, 3) := oc_180 shX11_emptyStops_37
theorem dX11_emptyStops_40 : decode cX11_emptyStops 40 = .ok (.iload_n 3, 1) := oc_29 shX11_emptyStops_40
theorem dX11_emptyStops_41 : decode cX11_emptyStops 41 = .ok (.invokestatic 192, 3) := oc_184 shX11_emptyStops_41
theorem dX11_emptyStops_44 : decode cX11_emptyStops 44 = .ok (.iadd, 1) := oc_96 shX11_emptyStops_44
theorem dX11_emptyStops_45 : decode cX11_emptyStops 45 = .ok (.istore_n 2, 1) := oc_61 shX11_emptyStops_45
theorem dX11_emptyStops_46 : decode cX11_emptyStops 46 = .ok (.aload 4, 2) := oc_25 shX11_emptyStops_46
theorem dX11_emptyStops_48 : decode cX11_emptyStops 48 = .ok (.ifnull 9, 3) := oc_198 shX11_emptyStops_48 sgw_0_9
theorem dX11_emptyStops_51 : decode cX11_emptyStops 51 = .ok (.aload 4, 2) := oc_25 shX11_emptyStops_51
theorem dX11_emptyStops_53 : decode cX11_emptyStops 53 = .ok (.iload_n 1, 1) := oc_27 shX11_emptyStops_53
theorem dX11_emptyStops_54 : decode cX11_emptyStops 54 = .ok (.putfield 263, 3) := oc_181 shX11_emptyStops_54
theorem dX11_emptyStops_57 : decode cX11_emptyStops 57 = .ok (.iinc 3 1, 3) := oc_132 shX11_emptyStops_57 sgb_1
theorem dX11_emptyStops_60 : decode cX11_emptyStops 60 = .ok (.goto (-56), 3) := oc_167 shX11_emptyStops_60 sgw_255_200
noncomputable def sxX11_nights_146 : List UInt8 := []
noncomputable def sxX11_nights_145 : List UInt8 := 172 :: sxX11_nights_146
noncomputable def sxX11_nights_143 : List UInt8 := 21 :: 5 :: sxX11_nights_145
noncomputable def sxX11_nights_140 : List UInt8 := 167 :: 255 :: 184 :: sxX11_nights_143
noncomputable def sxX11_nights_137 : List UInt8 := 132 :: 6 :: 1 :: sxX11_nights_140
noncomputable def sxX11_nights_135 : List UInt8 := 54 :: 5 :: sxX11_nights_137
noncomputable def sxX11_nights_134 : List UInt8 := 96 :: sxX11_nights_135
noncomputable def sxX11_nights_131 : List UInt8 := 180 :: 1 :: 11 :: sxX11_nights_134
noncomputable def sxX11_nights_128 : List UInt8 := 180 :: 0 :: 54 :: sxX11_nights_131
noncomputable def sxX11_nights_127 : List UInt8 := 42 :: sxX11_nights_128
noncomputable def sxX11_nights_124 : List UInt8 := 167 :: 0 :: 10 :: sxX11_nights_127
noncomputable def sxX11_nights_122 : List UInt8 := 21 :: 7 :: sxX11_nights_124
noncomputable def sxX11_nights_119 : List UInt8 := 160 :: 0 :: 8 :: sxX11_nights_122
noncomputable def sxX11_nights_118 : List UInt8 := 4 :: sxX11_nights_119
noncomputable def sxX11_nights_116 : List UInt8 := 21 :: 4 :: sxX11_nights_118
noncomputable def sxX11_nights_113 : List UInt8 := 167 :: 0 :: 21 :: sxX11_nights_116
noncomputable def sxX11_nights_110 : List UInt8 := 182 :: 1 :: 26 :: sxX11_nights_113
noncomputable def sxX11_nights_107 : List UInt8 := 180 :: 0 :: 54 :: sxX11_nights_110
noncomputable def sxX11_nights_106 : List UInt8 := 42 :: sxX11_nights_107
noncomputable def sxX11_nights_103 : List UInt8 := 154 :: 0 :: 13 :: sxX11_nights_106
noncomputable def sxX11_nights_101 : List UInt8 := 21 :: 4 :: sxX11_nights_103
noncomputable def sxX11_nights_99 : List UInt8 := 21 :: 5 :: sxX11_nights_101
noncomputable def sxX11_nights_97 : List UInt8 := 54 :: 7 :: sxX11_nights_99
noncomputable def sxX11_nights_94 : List UInt8 := 182 :: 1 :: 47 :: sxX11_nights_97
noncomputable def sxX11_nights_92 : List UInt8 := 21 :: 6 :: sxX11_nights_94
noncomputable def sxX11_nights_91 : List UInt8 := 42 :: sxX11_nights_92
noncomputable def sxX11_nights_90 : List UInt8 := 172 :: sxX11_nights_91
noncomputable def sxX11_nights_88 : List UInt8 := 16 :: 254 :: sxX11_nights_90
noncomputable def sxX11_nights_85 : List UInt8 := 154 :: 0 :: 6 :: sxX11_nights_88
noncomputable def sxX11_nights_82 : List UInt8 := 182 :: 1 :: 23 :: sxX11_nights_85
noncomputable def sxX11_nights_80 : List UInt8 := 16 :: 8 :: sxX11_nights_82
noncomputable def sxX11_nights_79 : List UInt8 := 29 :: sxX11_nights_80
noncomputable def sxX11_nights_77 : List UInt8 := 21 :: 6 :: sxX11_nights_79
noncomputable def sxX11_nights_76 : List UInt8 := 42 :: sxX11_nights_77
noncomputable def sxX11_nights_73 : List UInt8 := 162 :: 0 :: 70 :: sxX11_nights_76
noncomputable def sxX11_nights_72 : List UInt8 := 96 :: sxX11_nights_73
noncomputable def sxX11_nights_71 : List UInt8 := 28 :: sxX11_nights_72
noncomputable def sxX11_nights_70 : List UInt8 := 27 :: sxX11_nights_71
noncomputable def sxX11_nights_68 : List UInt8 := 21 :: 6 :: sxX11_nights_70
noncomputable def sxX11_nights_66 : List UInt8 := 54 :: 6 :: sxX11_nights_68
noncomputable def sxX11_nights_65 : List UInt8 := 27 :: sxX11_nights_66
noncomputable def sxX11_nights_63 : List UInt8 := 54 :: 5 :: sxX11_nights_65
noncomputable def sxX11_nights_62 : List UInt8 := 3 :: sxX11_nights_63
noncomputable def sxX11_nights_61 : List UInt8 := 172 :: sxX11_nights_62
noncomputable def sxX11_nights_59 : List UInt8 := 16 :: 254 :: sxX11_nights_61
noncomputable def sxX11_nights_56 : List UInt8 := 154 :: 0 :: 6 :: sxX11_nights_59
noncomputable def sxX11_nights_53 : List UInt8 := 182 :: 1 :: 20 :: sxX11_nights_56
noncomputable def sxX11_nights_52 : List UInt8 := 27 :: sxX11_nights_53
noncomputable def sxX11_nights_51 : List UInt8 := 42 :: sxX11_nights_52
noncomputable def sxX11_nights_50 : List UInt8 := 172 :: sxX11_nights_51
noncomputable def sxX11_nights_49 : List UInt8 := 2 :: sxX11_nights_50
noncomputable def sxX11_nights_46 : List UInt8 := 154 :: 0 :: 5 :: sxX11_nights_49
noncomputable def sxX11_nights_43 : List UInt8 := 184 :: 0 :: 80 :: sxX11_nights_46
noncomputable def sxX11_nights_42 : List UInt8 := 5 :: sxX11_nights_43
noncomputable def sxX11_nights_41 : List UInt8 := 3 :: sxX11_nights_42
noncomputable def sxX11_nights_39 : List UInt8 := 21 :: 4 :: sxX11_nights_41
noncomputable def sxX11_nights_36 : List UInt8 := 153 :: 0 :: 13 :: sxX11_nights_39
noncomputable def sxX11_nights_33 : List UInt8 := 184 :: 0 :: 80 :: sxX11_nights_36
noncomputable def sxX11_nights_30 : List UInt8 := 17 :: 1 :: 144 :: sxX11_nights_33
noncomputable def sxX11_nights_29 : List UInt8 := 4 :: sxX11_nights_30
noncomputable def sxX11_nights_28 : List UInt8 := 29 :: sxX11_nights_29
noncomputable def sxX11_nights_25 : List UInt8 := 153 :: 0 :: 24 :: sxX11_nights_28
noncomputable def sxX11_nights_22 : List UInt8 := 184 :: 0 :: 99 :: sxX11_nights_25
noncomputable def sxX11_nights_21 : List UInt8 := 100 :: sxX11_nights_22
noncomputable def sxX11_nights_20 : List UInt8 := 4 :: sxX11_nights_21
noncomputable def sxX11_nights_19 : List UInt8 := 96 :: sxX11_nights_20
noncomputable def sxX11_nights_18 : List UInt8 := 28 :: sxX11_nights_19
noncomputable def sxX11_nights_17 : List UInt8 := 27 :: sxX11_nights_18
noncomputable def sxX11_nights_14 : List UInt8 := 153 :: 0 :: 35 :: sxX11_nights_17
noncomputable def sxX11_nights_11 : List UInt8 := 184 :: 0 :: 80 :: sxX11_nights_14
noncomputable def sxX11_nights_9 : List UInt8 := 16 :: 7 :: sxX11_nights_11
noncomputable def sxX11_nights_8 : List UInt8 := 4 :: sxX11_nights_9
noncomputable def sxX11_nights_7 : List UInt8 := 28 :: sxX11_nights_8
noncomputable def sxX11_nights_4 : List UInt8 := 153 :: 0 :: 45 :: sxX11_nights_7
noncomputable def sxX11_nights_1 : List UInt8 := 184 :: 0 :: 99 :: sxX11_nights_4
noncomputable def sxX11_nights_0 : List UInt8 := 27 :: sxX11_nights_1
theorem shX11_nights_0 : cX11_nights.data.toList.drop 0 = sxX11_nights_0 := rfl
theorem shX11_nights_1 : cX11_nights.data.toList.drop 1 = sxX11_nights_1 := dSn 1 shX11_nights_0
theorem shX11_nights_4 : cX11_nights.data.toList.drop 4 = sxX11_nights_4 := dSn 3 shX11_nights_1
theorem shX11_nights_7 : cX11_nights.data.toList.drop 7 = sxX11_nights_7 := dSn 3 shX11_nights_4
theorem shX11_nights_8 : cX11_nights.data.toList.drop 8 = sxX11_nights_8 := dSn 1 shX11_nights_7
theorem shX11_nights_9 : cX11_nights.data.toList.drop 9 = sxX11_nights_9 := dSn 1 shX11_nights_8
theorem shX11_nights_11 : cX11_nights.data.toList.drop 11 = sxX11_nights_11 := dSn 2 shX11_nights_9
theorem shX11_nights_14 : cX11_nights.data.toList.drop 14 = sxX11_nights_14 := dSn 3 shX11_nights_11
theorem shX11_nights_17 : cX11_nights.data.toList.drop 17 = sxX11_nights_17 := dSn 3 shX11_nights_14
theorem shX11_nights_18 : cX11_nights.data.toList.drop 18 = sxX11_nights_18 := dSn 1 shX11_nights_17
theorem shX11_nights_19 : cX11_nights.data.toList.drop 19 = sxX11_nights_19 := dSn 1 shX11_nights_18
theorem shX11_nights_20 : cX11_nights.data.toList.drop 20 = sxX11_nights_20 := dSn 1 shX11_nights_19
theorem shX11_nights_21 : cX11_nights.data.toList.drop 21 = sxX11_nights_21 := dSn 1 shX11_nights_20
theorem shX11_nights_22 : cX11_nights.data.toList.drop 22 = sxX11_nights_22 := dSn 1 shX11_nights_21
theorem shX11_nights_25 : cX11_nights.data.toList.drop 25 = sxX11_nights_25 := dSn 3 shX11_nights_22
theorem shX11_nights_28 : cX11_nights.data.toList.drop 28 = sxX11_nights_28 := dSn 3 shX11_nights_25
theorem shX11_nights_29 : cX11_nights.data.toList.drop 29 = sxX11_nights_29 := dSn 1 shX11_nights_28
theorem shX11_nights_30 : cX11_nights.data.toList.drop 30 = sxX11_nights_30 := dSn 1 shX11_nights_29
theorem shX11_nights_33 : cX11_nights.data.toList.drop 33 = sxX11_nights_33 := dSn 3 shX11_nights_30
theorem shX11_nights_36 : cX11_nights.data.toList.drop 36 = sxX11_nights_36 := dSn 3 shX11_nights_33
theorem shX11_nights_39 : cX11_nights.data.toList.drop 39 = sxX11_nights_39 := dSn 3 shX11_nights_36
theorem shX11_nights_41 : cX11_nights.data.toList.drop 41 = sxX11_nights_41 := dSn 2 shX11_nights_39
theorem shX11_nights_42 : cX11_nights.data.toList.drop 42 = sxX11_nights_42 := dSn 1 shX11_nights_41
theorem shX11_nights_43 : cX11_nights.data.toList.drop 43 = sxX11_nights_43 := dSn 1 shX11_nights_42
theorem shX11_nights_46 : cX11_nights.data.toList.drop 46 = sxX11_nights_46 := dSn 3 shX11_nights_43
theorem shX11_nights_49 : cX11_nights.data.toList.drop 49 = sxX11_nights_49 := dSn 3 shX11_nights_46
theorem shX11_nights_50 : cX11_nights.data.toList.drop 50 = sxX11_nights_50 := dSn 1 shX11_nights_49
theorem shX11_nights_51 : cX11_nights.data.toList.drop 51 = sxX11_nights_51 := dSn 1 shX11_nights_50
theorem shX11_nights_52 : cX11_nights.data.toList.drop 52 = sxX11_nights_52 := dSn 1 shX11_nights_51
theorem shX11_nights_53 : cX11_nights.data.toList.drop 53 = sxX11_nights_53 := dSn 1 shX11_nights_52
theorem shX11_nights_56 : cX11_nights.data.toList.drop 56 = sxX11_nights_56 := dSn 3 shX11_nights_53
theorem shX11_nights_59 : cX11_nights.data.toList.drop 59 = sxX11_nights_59 := dSn 3 shX11_nights_56
theorem shX11_nights_61 : cX11_nights.data.toList.drop 61 = sxX11_nights_61 := dSn 2 shX11_nights_59
theorem shX11_nights_62 : cX11_nights.data.toList.drop 62 = sxX11_nights_62 := dSn 1 shX11_nights_61
theorem shX11_nights_63 : cX11_nights.data.toList.drop 63 = sxX11_nights_63 := dSn 1 shX11_nights_62
theorem shX11_nights_65 : cX11_nights.data.toList.drop 65 = sxX11_nights_65 := dSn 2 shX11_nights_63
theorem shX11_nights_66 : cX11_nights.data.toList.drop 66 = sxX11_nights_66 := dSn 1 shX11_nights_65
theorem shX11_nights_68 : cX11_nights.data.toList.drop 68 = sxX11_nights_68 := dSn 2 shX11_nights_66
theorem shX11_nights_70 : cX11_nights.data.toList.drop 70 = sxX11_nights_70 := dSn 2 shX11_nights_68
theorem shX11_nights_71 : cX11_nights.data.toList.drop 71 = sxX11_nights_71 := dSn 1 shX11_nights_70
theorem shX11_nights_72 : cX11_nights.data.toList.drop 72 = sxX11_nights_72 := dSn 1 shX11_nights_71
theorem shX11_nights_73 : cX11_nights.data.toList.drop 73 = sxX11_nights_73 := dSn 1 shX11_nights_72
theorem shX11_nights_76 : cX11_nights.data.toList.drop 76 = sxX11_nights_76 := dSn 3 shX11_nights_73
theorem shX11_nights_77 : cX11_nights.data.toList.drop 77 = sxX11_nights_77 := dSn 1 shX11_nights_76
theorem shX11_nights_79 : cX11_nights.data.toList.drop 79 = sxX11_nights_79 := dSn 2 shX11_nights_77
theorem shX11_nights_80 : cX11_nights.data.toList.drop 80 = sxX11_nights_80 := dSn 1 shX11_nights_79
theorem shX11_nights_82 : cX11_nights.data.toList.drop 82 = sxX11_nights_82 := dSn 2 shX11_nights_80
theorem shX11_nights_85 : cX11_nights.data.toList.drop 85 = sxX11_nights_85 := dSn 3 shX11_nights_82
theorem shX11_nights_88 : cX11_nights.data.toList.drop 88 = sxX11_nights_88 := dSn 3 shX11_nights_85
theorem shX11_nights_90 : cX11_nights.data.toList.drop 90 = sxX11_nights_90 := dSn 2 shX11_nights_88
theorem shX11_nights_91 : cX11_nights.data.toList.drop 91 = sxX11_nights_91 := dSn 1 shX11_nights_90
theorem shX11_nights_92 : cX11_nights.data.toList.drop 92 = sxX11_nights_92 := dSn 1 shX11_nights_91
theorem shX11_nights_94 : cX11_nights.data.toList.drop 94 = sxX11_nights_94 := dSn 2 shX11_nights_92
theorem shX11_nights_97 : cX11_nights.data.toList.drop 97 = sxX11_nights_97 := dSn 3 shX11_nights_94
theorem shX11_nights_99 : cX11_nights.data.toList.drop 99 = sxX11_nights_99 := dSn 2 shX11_nights_97
theorem shX11_nights_101 : cX11_nights.data.toList.drop 101 = sxX11_nights_101 := dSn 2 shX11_nights_99
theorem shX11_nights_103 : cX11_nights.data.toList.drop 103 = sxX11_nights_103 := dSn 2 shX11_nights_101
theorem shX11_nights_106 : cX11_nights.data.toList.drop 106 = sxX11_nights_106 := dSn 3 shX11_nights_103
theorem shX11_nights_107 : cX11_nights.data.toList.drop 107 = sxX11_nights_107 := dSn 1 shX11_nights_106
theorem shX11_nights_110 : cX11_nights.data.toList.drop 110 = sxX11_nights_110 := dSn 3 shX11_nights_107
theorem shX11_nights_113 : cX11_nights.data.toList.drop 113 = sxX11_nights_113 := dSn 3 shX11_nights_110
theorem shX11_nights_116 : cX11_nights.data.toList.drop 116 = sxX11_nights_116 := dSn 3 shX11_nights_113
theorem shX11_nights_118 : cX11_nights.data.toList.drop 118 = sxX11_nights_118 := dSn 2 shX11_nights_116
theorem shX11_nights_119 : cX11_nights.data.toList.drop 119 = sxX11_nights_119 := dSn 1 shX11_nights_118
theorem shX11_nights_122 : cX11_nights.data.toList.drop 122 = sxX11_nights_122 := dSn 3 shX11_nights_119
theorem shX11_nights_124 : cX11_nights.data.toList.drop 124 = sxX11_nights_124 := dSn 2 shX11_nights_122
theorem shX11_nights_127 : cX11_nights.data.toList.drop 127 = sxX11_nights_127 := dSn 3 shX11_nights_124
theorem shX11_nights_128 : cX11_nights.data.toList.drop 128 = sxX11_nights_128 := dSn 1 shX11_nights_127
theorem shX11_nights_131 : cX11_nights.data.toList.drop 131 = sxX11_nights_131 := dSn 3 shX11_nights_128
theorem shX11_nights_134 : cX11_nights.data.toList.drop 134 = sxX11_nights_134 := dSn 3 shX11_nights_131
theorem shX11_nights_135 : cX11_nights.data.toList.drop 135 = sxX11_nights_135 := dSn 1 shX11_nights_134
theorem shX11_nights_137 : cX11_nights.data.toList.drop 137 = sxX11_nights_137 := dSn 2 shX11_nights_135
theorem shX11_nights_140 : cX11_nights.data.toList.drop 140 = sxX11_nights_140 := dSn 3 shX11_nights_137
theorem shX11_nights_143 : cX11_nights.data.toList.drop 143 = sxX11_nights_143 := dSn 3 shX11_nights_140
theorem shX11_nights_145 : cX11_nights.data.toList.drop 145 = sxX11_nights_145 := dSn 2 shX11_nights_143
theorem dX11_nights_0 : decode cX11_nights 0 = .ok (.iload_n 1, 1) := oc_27 shX11_nights_0
theorem dX11_nights_1 : decode cX11_nights 1 = .ok (.invokestatic 99, 3) := oc_184 shX11_nights_1
theorem dX11_nights_4 : decode cX11_nights 4 = .ok (.ifCond .eq 45, 3) := oc_153 shX11_nights_4 sgw_0_45
theorem dX11_nights_7 : decode cX11_nights 7 = .ok (.iload_n 2, 1) := oc_28 shX11_nights_7
theorem dX11_nights_8 : decode cX11_nights 8 = .ok (.iconst 1, 1) := oc_4 shX11_nights_8
theorem dX11_nights_9 : decode cX11_nights 9 = .ok (.bipush 7, 2) := oc_16 shX11_nights_9 sgb_7
theorem dX11_nights_11 : decode cX11_nights 11 = .ok (.invokestatic 80, 3) := oc_184 shX11_nights_11
theorem dX11_nights_14 : decode cX11_nights 14 = .ok (.ifCond .eq 35, 3) := oc_153 shX11_nights_14 sgw_0_35
theorem dX11_nights_17 : decode cX11_nights 17 = .ok (.iload_n 1, 1) := oc_27 shX11_nights_17
theorem dX11_nights_18 : decode cX11_nights 18 = .ok (.iload_n 2, 1) := oc_28 shX11_nights_18
theorem dX11_nights_19 : decode cX11_nights 19 = .ok (.iadd, 1) := oc_96 shX11_nights_19
theorem dX11_nights_20 : decode cX11_nights 20 = .ok (.iconst 1, 1) := oc_4 shX11_nights_20
theorem dX11_nights_21 : decode cX11_nights 21 = .ok (.isub, 1) := oc_100 shX11_nights_21
theorem dX11_nights_22 : decode cX11_nights 22 = .ok (.invokestatic 99, 3) := oc_184 shX11_nights_22
theorem dX11_nights_25 : decode cX11_nights 25 = .ok (.ifCond .eq 24, 3) := oc_153 shX11_nights_25 sgw_0_24
theorem dX11_nights_28 : decode cX11_nights 28 = .ok (.iload_n 3, 1) := oc_29 shX11_nights_28
theorem dX11_nights_29 : decode cX11_nights 29 = .ok (.iconst 1, 1) := oc_4 shX11_nights_29
theorem dX11_nights_30 : decode cX11_nights 30 = .ok (.sipush 400, 3) := oc_17 shX11_nights_30 sgw_1_144
theorem dX11_nights_33 : decode cX11_nights 33 = .ok (.invokestatic 80, 3) := oc_184 shX11_nights_33
theorem dX11_nights_36 : decode cX11_nights 36 = .ok (.ifCond .eq 13, 3) := oc_153 shX11_nights_36 sgw_0_13
theorem dX11_nights_39 : decode cX11_nights 39 = .ok (.iload 4, 2) := oc_21 shX11_nights_39
theorem dX11_nights_41 : decode cX11_nights 41 = .ok (.iconst 0, 1) := oc_3 shX11_nights_41
theorem dX11_nights_42 : decode cX11_nights 42 = .ok (.iconst 2, 1) := oc_5 shX11_nights_42
theorem dX11_nights_43 : decode cX11_nights 43 = .ok (.invokestatic 80, 3) := oc_184 shX11_nights_43
theorem dX11_nights_46 : decode cX11_nights 46 = .ok (.ifCond .ne 5, 3) := oc_154 shX11_nights_46 sgw_0_5
theorem dX11_nights_51 : decode cX11_nights 51 = .ok (.aload_n 0, 1) := oc_42 shX11_nights_51
theorem dX11_nights_52 : decode cX11_nights 52 = .ok (.iload_n 1, 1) := oc_27 shX11_nights_52
theorem dX11_nights_53 : decode cX11_nights 53 = .ok (.invokevirtual 276, 3) := oc_182 shX11_nights_53
theorem dX11_nights_56 : decode cX11_nights 56 = .ok (.ifCond .ne 6, 3) := oc_154 shX11_nights_56 sgw_0_6
theorem dX11_nights_62 : decode cX11_nights 62 = .ok (.iconst 0, 1) := oc_3 shX11_nights_62
theorem dX11_nights_63 : decode cX11_nights 63 = .ok (.istore 5, 2) := oc_54 shX11_nights_63
theorem dX11_nights_65 : decode cX11_nights 65 = .ok (.iload_n 1, 1) := oc_27 shX11_nights_65
theorem dX11_nights_66 : decode cX11_nights 66 = .ok (.istore 6, 2) := oc_54 shX11_nights_66
theorem dX11_nights_68 : decode cX11_nights 68 = .ok (.iload 6, 2) := oc_21 shX11_nights_68
theorem dX11_nights_70 : decode cX11_nights 70 = .ok (.iload_n 1, 1) := oc_27 shX11_nights_70
theorem dX11_nights_71 : decode cX11_nights 71 = .ok (.iload_n 2, 1) := oc_28 shX11_nights_71
theorem dX11_nights_72 : decode cX11_nights 72 = .ok (.iadd, 1) := oc_96 shX11_nights_72
theorem dX11_nights_73 : decode cX11_nights 73 = .ok (.if_icmp .ge 70, 3) := oc_162 shX11_nights_73 sgw_0_70
theorem dX11_nights_143 : decode cX11_nights 143 = .ok (.iload 5, 2) := oc_21 shX11_nights_143
theorem dX11_nights_145 : decode cX11_nights 145 = .ok (.ireturn, 1) := oc_172 shX11_nights_145
theorem dX11_nights_76 : decode cX11_nights 76 = .ok (.aload_n 0, 1) := oc_42 shX11_nights_76
theorem dX11_nights_77 : decode cX11_nights 77 = .ok (.iload 6, 2) := oc_21 shX11_nights_77
theorem dX11_nights_79 : decode cX11_nights 79 = .ok (.iload_n 3, 1) := oc_29 shX11_nights_79
theorem dX11_nights_80 : decode cX11_nights 80 = .ok (.bipush 8, 2) := oc_16 shX11_nights_80 sgb_8
theorem dX11_nights_82 : decode cX11_nights 82 = .ok (.invokevirtual 279, 3) := oc_182 shX11_nights_82
theorem dX11_nights_85 : decode cX11_nights 85 = .ok (.ifCond .ne 6, 3) := oc_154 shX11_nights_85 sgw_0_6
theorem dX11_nights_91 : decode cX11_nights 91 = .ok (.aload_n 0, 1) := oc_42 shX11_nights_91
theorem dX11_nights_92 : decode cX11_nights 92 = .ok (.iload 6, 2) := oc_21 shX11_nights_92
theorem dX11_nights_94 : decode cX11_nights 94 = .ok (.invokevirtual 303, 3) := oc_182 shX11_nights_94
theorem dX11_nights_97 : decode cX11_nights 97 = .ok (.istore 7, 2) := oc_54 shX11_nights_97
theorem dX11_nights_99 : decode cX11_nights 99 = .ok (.iload 5, 2) := oc_21 shX11_nights_99
theorem dX11_nights_101 : decode cX11_nights 101 = .ok (.iload 4, 2) := oc_21 shX11_nights_101
theorem dX11_nights_103 : decode cX11_nights 103 = .ok (.ifCond .ne 13, 3) := oc_154 shX11_nights_103 sgw_0_13
theorem dX11_nights_116 : decode cX11_nights 116 = .ok (.iload 4, 2) := oc_21 shX11_nights_116
theorem dX11_nights_118 : decode cX11_nights 118 = .ok (.iconst 1, 1) := oc_4 shX11_nights_118
theorem dX11_nights_119 : decode cX11_nights 119 = .ok (.if_icmp .ne 8, 3) := oc_160 shX11_nights_119 sgw_0_8
theorem dX11_nights_127 : decode cX11_nights 127 = .ok (.aload_n 0, 1) := oc_42 shX11_nights_127
theorem dX11_nights_128 : decode cX11_nights 128 = .ok (.getfield 54, 3) := oc_180 shX11_nights_128
theorem dX11_nights_131 : decode cX11_nights 131 = .ok (.getfield 267, 3) := oc_180 shX11_nights_131
theorem dX11_nights_134 : decode cX11_nights 134 = .ok (.iadd, 1) := oc_96 shX11_nights_134
theorem dX11_nights_135 : decode cX11_nights 135 = .ok (.istore 5, 2) := oc_54 shX11_nights_135
theorem dX11_nights_137 : decode cX11_nights 137 = .ok (.iinc 6 1, 3) := oc_132 shX11_nights_137 sgb_1
theorem dX11_nights_140 : decode cX11_nights 140 = .ok (.goto (-72), 3) := oc_167 shX11_nights_140 sgw_255_184
theorem dX11_nights_122 : decode cX11_nights 122 = .ok (.iload 7, 2) := oc_21 shX11_nights_122
theorem dX11_nights_124 : decode cX11_nights 124 = .ok (.goto 10, 3) := oc_167 shX11_nights_124 sgw_0_10
theorem dX11_nights_106 : decode cX11_nights 106 = .ok (.aload_n 0, 1) := oc_42 shX11_nights_106
theorem dX11_nights_107 : decode cX11_nights 107 = .ok (.getfield 54, 3) := oc_180 shX11_nights_107
theorem dX11_nights_110 : decode cX11_nights 110 = .ok (.invokevirtual 282, 3) := oc_182 shX11_nights_110
theorem dX11_nights_113 : decode cX11_nights 113 = .ok (.goto 21, 3) := oc_167 shX11_nights_113 sgw_0_21
theorem dX11_nights_88 : decode cX11_nights 88 = .ok (.bipush (-2), 2) := oc_16 shX11_nights_88 sgb_254
theorem dX11_nights_90 : decode cX11_nights 90 = .ok (.ireturn, 1) := oc_172 shX11_nights_90
theorem dX11_nights_59 : decode cX11_nights 59 = .ok (.bipush (-2), 2) := oc_16 shX11_nights_59 sgb_254
theorem dX11_nights_61 : decode cX11_nights 61 = .ok (.ireturn, 1) := oc_172 shX11_nights_61
theorem dX11_nights_49 : decode cX11_nights 49 = .ok (.iconst (-1), 1) := oc_2 shX11_nights_49
theorem dX11_nights_50 : decode cX11_nights 50 = .ok (.ireturn, 1) := oc_172 shX11_nights_50
noncomputable def sxX11_drivenLength_87 : List UInt8 := []
noncomputable def sxX11_drivenLength_86 : List UInt8 := 172 :: sxX11_drivenLength_87
noncomputable def sxX11_drivenLength_85 : List UInt8 := 96 :: sxX11_drivenLength_86
noncomputable def sxX11_drivenLength_82 : List UInt8 := 184 :: 1 :: 43 :: sxX11_drivenLength_85
noncomputable def sxX11_drivenLength_81 : List UInt8 := 3 :: sxX11_drivenLength_82
noncomputable def sxX11_drivenLength_80 : List UInt8 := 3 :: sxX11_drivenLength_81
noncomputable def sxX11_drivenLength_78 : List UInt8 := 21 :: 4 :: sxX11_drivenLength_80
noncomputable def sxX11_drivenLength_77 : List UInt8 := 29 :: sxX11_drivenLength_78
noncomputable def sxX11_drivenLength_76 : List UInt8 := 28 :: sxX11_drivenLength_77
noncomputable def sxX11_drivenLength_73 : List UInt8 := 167 :: 255 :: 193 :: sxX11_drivenLength_76
noncomputable def sxX11_drivenLength_70 : List UInt8 := 132 :: 5 :: 1 :: sxX11_drivenLength_73
noncomputable def sxX11_drivenLength_68 : List UInt8 := 54 :: 4 :: sxX11_drivenLength_70
noncomputable def sxX11_drivenLength_65 : List UInt8 := 180 :: 1 :: 40 :: sxX11_drivenLength_68
noncomputable def sxX11_drivenLength_63 : List UInt8 := 25 :: 6 :: sxX11_drivenLength_65
noncomputable def sxX11_drivenLength_62 : List UInt8 := 62 :: sxX11_drivenLength_63
noncomputable def sxX11_drivenLength_59 : List UInt8 := 180 :: 1 :: 37 :: sxX11_drivenLength_62
noncomputable def sxX11_drivenLength_57 : List UInt8 := 25 :: 6 :: sxX11_drivenLength_59
noncomputable def sxX11_drivenLength_56 : List UInt8 := 61 :: sxX11_drivenLength_57
noncomputable def sxX11_drivenLength_55 : List UInt8 := 96 :: sxX11_drivenLength_56
noncomputable def sxX11_drivenLength_52 : List UInt8 := 184 :: 1 :: 43 :: sxX11_drivenLength_55
noncomputable def sxX11_drivenLength_49 : List UInt8 := 180 :: 1 :: 40 :: sxX11_drivenLength_52
noncomputable def sxX11_drivenLength_47 : List UInt8 := 25 :: 6 :: sxX11_drivenLength_49
noncomputable def sxX11_drivenLength_44 : List UInt8 := 180 :: 1 :: 37 :: sxX11_drivenLength_47
noncomputable def sxX11_drivenLength_42 : List UInt8 := 25 :: 6 :: sxX11_drivenLength_44
noncomputable def sxX11_drivenLength_40 : List UInt8 := 21 :: 4 :: sxX11_drivenLength_42
noncomputable def sxX11_drivenLength_39 : List UInt8 := 29 :: sxX11_drivenLength_40
noncomputable def sxX11_drivenLength_38 : List UInt8 := 28 :: sxX11_drivenLength_39
noncomputable def sxX11_drivenLength_37 : List UInt8 := 172 :: sxX11_drivenLength_38
noncomputable def sxX11_drivenLength_36 : List UInt8 := 2 :: sxX11_drivenLength_37
noncomputable def sxX11_drivenLength_33 : List UInt8 := 199 :: 0 :: 5 :: sxX11_drivenLength_36
noncomputable def sxX11_drivenLength_31 : List UInt8 := 25 :: 6 :: sxX11_drivenLength_33
noncomputable def sxX11_drivenLength_29 : List UInt8 := 58 :: 6 :: sxX11_drivenLength_31
noncomputable def sxX11_drivenLength_26 : List UInt8 := 182 :: 0 :: 114 :: sxX11_drivenLength_29
noncomputable def sxX11_drivenLength_23 : List UInt8 := 182 :: 1 :: 35 :: sxX11_drivenLength_26
noncomputable def sxX11_drivenLength_21 : List UInt8 := 21 :: 5 :: sxX11_drivenLength_23
noncomputable def sxX11_drivenLength_18 : List UInt8 := 180 :: 0 :: 21 :: sxX11_drivenLength_21
noncomputable def sxX11_drivenLength_17 : List UInt8 := 42 :: sxX11_drivenLength_18
noncomputable def sxX11_drivenLength_16 : List UInt8 := 42 :: sxX11_drivenLength_17
noncomputable def sxX11_drivenLength_13 : List UInt8 := 162 :: 0 :: 63 :: sxX11_drivenLength_16
noncomputable def sxX11_drivenLength_12 : List UInt8 := 27 :: sxX11_drivenLength_13
noncomputable def sxX11_drivenLength_10 : List UInt8 := 21 :: 5 :: sxX11_drivenLength_12
noncomputable def sxX11_drivenLength_8 : List UInt8 := 54 :: 5 :: sxX11_drivenLength_10
noncomputable def sxX11_drivenLength_7 : List UInt8 := 3 :: sxX11_drivenLength_8
noncomputable def sxX11_drivenLength_5 : List UInt8 := 54 :: 4 :: sxX11_drivenLength_7
noncomputable def sxX11_drivenLength_4 : List UInt8 := 3 :: sxX11_drivenLength_5
noncomputable def sxX11_drivenLength_3 : List UInt8 := 62 :: sxX11_drivenLength_4
noncomputable def sxX11_drivenLength_2 : List UInt8 := 3 :: sxX11_drivenLength_3
noncomputable def sxX11_drivenLength_1 : List UInt8 := 61 :: sxX11_drivenLength_2
noncomputable def sxX11_drivenLength_0 : List UInt8 := 3 :: sxX11_drivenLength_1
theorem shX11_drivenLength_0 : cX11_drivenLength.data.toList.drop 0 = sxX11_drivenLength_0 := rfl
theorem shX11_drivenLength_1 : cX11_drivenLength.data.toList.drop 1 = sxX11_drivenLength_1 := dSn 1 shX11_drivenLength_0
theorem shX11_drivenLength_2 : cX11_drivenLength.data.toList.drop 2 = sxX11_drivenLength_2 := dSn 1 shX11_drivenLength_1
theorem shX11_drivenLength_3 : cX11_drivenLength.data.toList.drop 3 = sxX11_drivenLength_3 := dSn 1 shX11_drivenLength_2
theorem shX11_drivenLength_4 : cX11_drivenLength.data.toList.drop 4 = sxX11_drivenLength_4 := dSn 1 shX11_drivenLength_3
theorem shX11_drivenLength_5 : cX11_drivenLength.data.toList.drop 5 = sxX11_drivenLength_5 := dSn 1 shX11_drivenLength_4
theorem shX11_drivenLength_7 : cX11_drivenLength.data.toList.drop 7 = sxX11_drivenLength_7 := dSn 2 shX11_drivenLength_5
theorem shX11_drivenLength_8 : cX11_drivenLength.data.toList.drop 8 = sxX11_drivenLength_8 := dSn 1 shX11_drivenLength_7
theorem shX11_drivenLength_10 : cX11_drivenLength.data.toList.drop 10 = sxX11_drivenLength_10 := dSn 2 shX11_drivenLength_8
theorem shX11_drivenLength_12 : cX11_drivenLength.data.toList.drop 12 = sxX11_drivenLength_12 := dSn 2 shX11_drivenLength_10
theorem shX11_drivenLength_13 : cX11_drivenLength.data.toList.drop 13 = sxX11_drivenLength_13 := dSn 1 shX11_drivenLength_12
theorem shX11_drivenLength_16 : cX11_drivenLength.data.toList.drop 16 = sxX11_drivenLength_16 := dSn 3 shX11_drivenLength_13
theorem shX11_drivenLength_17 : cX11_drivenLength.data.toList.drop 17 = sxX11_drivenLength_17 := dSn 1 shX11_drivenLength_16
theorem shX11_drivenLength_18 : cX11_drivenLength.data.toList.drop 18 = sxX11_drivenLength_18 := dSn 1 shX11_drivenLength_17
theorem shX11_drivenLength_21 : cX11_drivenLength.data.toList.drop 21 = sxX11_drivenLength_21 := dSn 3 shX11_drivenLength_18
theorem shX11_drivenLength_23 : cX11_drivenLength.data.toList.drop 23 = sxX11_drivenLength_23 := dSn 2 shX11_drivenLength_21
theorem shX11_drivenLength_26 : cX11_drivenLength.data.toList.drop 26 = sxX11_drivenLength_26 := dSn 3 shX11_drivenLength_23
theorem shX11_drivenLength_29 : cX11_drivenLength.data.toList.drop 29 = sxX11_drivenLength_29 := dSn 3 shX11_drivenLength_26
theorem shX11_drivenLength_31 : cX11_drivenLength.data.toList.drop 31 = sxX11_drivenLength_31 := dSn 2 shX11_drivenLength_29
theorem shX11_drivenLength_33 : cX11_drivenLength.data.toList.drop 33 = sxX11_drivenLength_33 := dSn 2 shX11_drivenLength_31
theorem shX11_drivenLength_36 : cX11_drivenLength.data.toList.drop 36 = sxX11_drivenLength_36 := dSn 3 shX11_drivenLength_33
theorem shX11_drivenLength_37 : cX11_drivenLength.data.toList.drop 37 = sxX11_drivenLength_37 := dSn 1 shX11_drivenLength_36
theorem shX11_drivenLength_38 : cX11_drivenLength.data.toList.drop 38 = sxX11_drivenLength_38 := dSn 1 shX11_drivenLength_37
theorem shX11_drivenLength_39 : cX11_drivenLength.data.toList.drop 39 = sxX11_drivenLength_39 := dSn 1 shX11_drivenLength_38
theorem shX11_drivenLength_40 : cX11_drivenLength.data.toList.drop 40 = sxX11_drivenLength_40 := dSn 1 shX11_drivenLength_39
theorem shX11_drivenLength_42 : cX11_drivenLength.data.toList.drop 42 = sxX11_drivenLength_42 := dSn 2 shX11_drivenLength_40
theorem shX11_drivenLength_44 : cX11_drivenLength.data.toList.drop 44 = sxX11_drivenLength_44 := dSn 2 shX11_drivenLength_42
theorem shX11_drivenLength_47 : cX11_drivenLength.data.toList.drop 47 = sxX11_drivenLength_47 := dSn 3 shX11_drivenLength_44
theorem shX11_drivenLength_49 : cX11_drivenLength.data.toList.drop 49 = sxX11_drivenLength_49 := dSn 2 shX11_drivenLength_47
theorem shX11_drivenLength_52 : cX11_drivenLength.data.toList.drop 52 = sxX11_drivenLength_52 := dSn 3 shX11_drivenLength_49
theorem shX11_drivenLength_55 : cX11_drivenLength.data.toList.drop 55 = sxX11_drivenLength_55 := dSn 3 shX11_drivenLength_52
theorem shX11_drivenLength_56 : cX11_drivenLength.data.toList.drop 56 = sxX11_drivenLength_56 := dSn 1 shX11_drivenLength_55
theorem shX11_drivenLength_57 : cX11_drivenLength.data.toList.drop 57 = sxX11_drivenLength_57 := dSn 1 shX11_drivenLength_56
theorem shX11_drivenLength_59 : cX11_drivenLength.data.toList.drop 59 = sxX11_drivenLength_59 := dSn 2 shX11_drivenLength_57
theorem shX11_drivenLength_62 : cX11_drivenLength.data.toList.drop 62 = sxX11_drivenLength_62 := dSn 3 shX11_drivenLength_59
theorem shX11_drivenLength_63 : cX11_drivenLength.data.toList.drop 63 = sxX11_drivenLength_63 := dSn 1 shX11_drivenLength_62
theorem shX11_drivenLength_65 : cX11_drivenLength.data.toList.drop 65 = sxX11_drivenLength_65 := dSn 2 shX11_drivenLength_63
theorem shX11_drivenLength_68 : cX11_drivenLength.data.toList.drop 68 = sxX11_drivenLength_68 := dSn 3 shX11_drivenLength_65
theorem shX11_drivenLength_70 : cX11_drivenLength.data.toList.drop 70 = sxX11_drivenLength_70 := dSn 2 shX11_drivenLength_68
theorem shX11_drivenLength_73 : cX11_drivenLength.data.toList.drop 73 = sxX11_drivenLength_73 := dSn 3 shX11_drivenLength_70
theorem shX11_drivenLength_76 : cX11_drivenLength.data.toList.drop 76 = sxX11_drivenLength_76 := dSn 3 shX11_drivenLength_73
theorem shX11_drivenLength_77 : cX11_drivenLength.data.toList.drop 77 = sxX11_drivenLength_77 := dSn 1 shX11_drivenLength_76
theorem shX11_drivenLength_78 : cX11_drivenLength.data.toList.drop 78 = sxX11_drivenLength_78 := dSn 1 shX11_drivenLength_77
theorem shX11_drivenLength_80 : cX11_drivenLength.data.toList.drop 80 = sxX11_drivenLength_80 := dSn 2 shX11_drivenLength_78
theorem shX11_drivenLength_81 : cX11_drivenLength.data.toList.drop 81 = sxX11_drivenLength_81 := dSn 1 shX11_drivenLength_80
theorem shX11_drivenLength_82 : cX11_drivenLength.data.toList.drop 82 = sxX11_drivenLength_82 := dSn 1 shX11_drivenLength_81
theorem shX11_drivenLength_85 : cX11_drivenLength.data.toList.drop 85 = sxX11_drivenLength_85 := dSn 3 shX11_drivenLength_82
theorem shX11_drivenLength_86 : cX11_drivenLength.data.toList.drop 86 = sxX11_drivenLength_86 := dSn 1 shX11_drivenLength_85
theorem dX11_drivenLength_0 : decode cX11_drivenLength 0 = .ok (.iconst 0, 1) := oc_3 shX11_drivenLength_0
theorem dX11_drivenLength_1 : decode cX11_drivenLength 1 = .ok (.istore_n 2, 1) := oc_61 shX11_drivenLength_1
theorem dX11_drivenLength_2 : decode cX11_drivenLength 2 = .ok (.iconst 0, 1) := oc_3 shX11_drivenLength_2
theorem dX11_drivenLength_3 : decode cX11_drivenLength 3 = .ok (.istore_n 3, 1) := oc_62 shX11_drivenLength_3
theorem dX11_drivenLength_4 : decode cX11_drivenLength 4 = .ok (.iconst 0, 1) := oc_3 shX11_drivenLength_4
theorem dX11_drivenLength_5 : decode cX11_drivenLength 5 = .ok (.istore 4, 2) := oc_54 shX11_drivenLength_5
theorem dX11_drivenLength_7 : decode cX11_drivenLength 7 = .ok (.iconst 0, 1) := oc_3 shX11_drivenLength_7
theorem dX11_drivenLength_8 : decode cX11_drivenLength 8 = .ok (.istore 5, 2) := oc_54 shX11_drivenLength_8
theorem dX11_drivenLength_10 : decode cX11_drivenLength 10 = .ok (.iload 5, 2) := oc_21 shX11_drivenLength_10
theorem dX11_drivenLength_12 : decode cX11_drivenLength 12 = .ok (.iload_n 1, 1) := oc_27 shX11_drivenLength_12
theorem dX11_drivenLength_13 : decode cX11_drivenLength 13 = .ok (.if_icmp .ge 63, 3) := oc_162 shX11_drivenLength_13 sgw_0_63
theorem dX11_drivenLength_76 : decode cX11_drivenLength 76 = .ok (.iload_n 2, 1) := oc_28 shX11_drivenLength_76
theorem dX11_drivenLength_77 : decode cX11_drivenLength 77 = .ok (.iload_n 3, 1) := oc_29 shX11_drivenLength_77
theorem dX11_drivenLength_78 : decode cX11_drivenLength 78 = .ok (.iload 4, 2) := oc_21 shX11_drivenLength_78
theorem dX11_drivenLength_80 : decode cX11_drivenLength 80 = .ok (.iconst 0, 1) := oc_3 shX11_drivenLength_80
theorem dX11_drivenLength_81 : decode cX11_drivenLength 81 = .ok (.iconst 0, 1) := oc_3 shX11_drivenLength_81
theorem dX11_drivenLength_82 : decode cX11_drivenLength 82 = .ok (.invokestatic 299, 3) := oc_184 shX11_drivenLength_82
theorem dX11_drivenLength_85 : decode cX11_drivenLength 85 = .ok (.iadd, 1) := oc_96 shX11_drivenLength_85
theorem dX11_drivenLength_86 : decode cX11_drivenLength 86 = .ok (.ireturn, 1) := oc_172 shX11_drivenLength_86
theorem dX11_drivenLength_16 : decode cX11_drivenLength 16 = .ok (.aload_n 0, 1) := oc_42 shX11_drivenLength_16
theorem dX11_drivenLength_17 : decode cX11_drivenLength 17 = .ok (.aload_n 0, 1) := oc_42 shX11_drivenLength_17
theorem dX11_drivenLength_18 : decode cX11_drivenLength 18 = .ok (.getfield 21, 3) := oc_180 shX11_drivenLength_18
theorem dX11_drivenLength_21 : decode cX11_drivenLength 21 = .ok (.iload 5, 2) := oc_21 shX11_drivenLength_21
theorem dX11_drivenLength_23 : decode cX11_drivenLength 23 = .ok (.invokevirtual 291, 3) := oc_182 shX11_drivenLength_23
theorem dX11_drivenLength_26 : decode cX11_drivenLength 26 = .ok (.invokevirtual 114, 3) := oc_182 shX11_drivenLength_26
theorem dX11_drivenLength_29 : decode cX11_drivenLength 29 = .ok (.astore 6, 2) := oc_58 shX11_drivenLength_29
theorem dX11_drivenLength_31 : decode cX11_drivenLength 31 = .ok (.aload 6, 2) := oc_25 shX11_drivenLength_31
theorem dX11_drivenLength_33 : decode cX11_drivenLength 33 = .ok (.ifnonnull 5, 3) := oc_199 shX11_drivenLength_33 sgw_0_5
theorem dX11_drivenLength_38 : decode cX11_drivenLength 38 = .ok (.iload_n 2, 1) := oc_28 shX11_drivenLength_38
theorem dX11_drivenLength_39 : decode cX11_drivenLength 39 = .ok (.iload_n 3, 1) := oc_29 shX11_drivenLength_39
theorem dX11_drivenLength_40 : decode cX11_drivenLength 40 = .ok (.iload 4, 2) := oc_21 shX11_drivenLength_40
theorem dX11_drivenLength_42 : decode cX11_drivenLength 42 = .ok (.aload 6, 2) := oc_25 shX11_drivenLength_42
theorem dX11_drivenLength_44 : decode cX11_drivenLength 44 = .ok (.getfield 293, 3) := oc_180 shX11_drivenLength_44
theorem dX11_drivenLength_47 : decode cX11_drivenLength 47 = .ok (.aload 6, 2) := oc_25 shX11_drivenLength_47
theorem dX11_drivenLength_49 : decode cX11_drivenLength 49 = .ok (.getfield 296, 3) := oc_180 shX11_drivenLength_49
theorem dX11_drivenLength_52 : decode cX11_drivenLength 52 = .ok (.invokestatic 299, 3) := oc_184 shX11_drivenLength_52
theorem dX11_drivenLength_55 : decode cX11_drivenLength 55 = .ok (.iadd, 1) := oc_96 shX11_drivenLength_55
theorem dX11_drivenLength_56 : decode cX11_drivenLength 56 = .ok (.istore_n 2, 1) := oc_61 shX11_drivenLength_56
theorem dX11_drivenLength_57 : decode cX11_drivenLength 57 = .ok (.aload 6, 2) := oc_25 shX11_drivenLength_57
theorem dX11_drivenLength_59 : decode cX11_drivenLength 59 = .ok (.getfield 293, 3) := oc_180 shX11_drivenLength_59
theorem dX11_drivenLength_62 : decode cX11_drivenLength 62 = .ok (.istore_n 3, 1) := oc_62 shX11_drivenLength_62
theorem dX11_drivenLength_63 : decode cX11_drivenLength 63 = .ok (.aload 6, 2) := oc_25 shX11_drivenLength_63
theorem dX11_drivenLength_65 : decode cX11_drivenLength 65 = .ok (.getfield 296, 3) := oc_180 shX11_drivenLength_65
theorem dX11_drivenLength_68 : decode cX11_drivenLength 68 = .ok (.istore 4, 2) := oc_54 shX11_drivenLength_68
theorem dX11_drivenLength_70 : decode cX11_drivenLength 70 = .ok (.iinc 5 1, 3) := oc_132 shX11_drivenLength_70 sgb_1
theorem dX11_drivenLength_73 : decode cX11_drivenLength 73 = .ok (.goto (-63), 3) := oc_167 shX11_drivenLength_73 sgw_255_193
theorem dX11_drivenLength_36 : decode cX11_drivenLength 36 = .ok (.iconst (-1), 1) := oc_2 shX11_drivenLength_36
theorem dX11_drivenLength_37 : decode cX11_drivenLength 37 = .ok (.ireturn, 1) := oc_172 shX11_drivenLength_37
noncomputable def sxX11_driven_38 : List UInt8 := []
noncomputable def sxX11_driven_37 : List UInt8 := 172 :: sxX11_driven_38
noncomputable def sxX11_driven_36 : List UInt8 := 28 :: sxX11_driven_37
noncomputable def sxX11_driven_33 : List UInt8 := 182 :: 0 :: 162 :: sxX11_driven_36
noncomputable def sxX11_driven_30 : List UInt8 := 180 :: 0 :: 21 :: sxX11_driven_33
noncomputable def sxX11_driven_29 : List UInt8 := 42 :: sxX11_driven_30
noncomputable def sxX11_driven_28 : List UInt8 := 61 :: sxX11_driven_29
noncomputable def sxX11_driven_25 : List UInt8 := 182 :: 1 :: 32 :: sxX11_driven_28
noncomputable def sxX11_driven_24 : List UInt8 := 27 :: sxX11_driven_25
noncomputable def sxX11_driven_23 : List UInt8 := 42 :: sxX11_driven_24
noncomputable def sxX11_driven_22 : List UInt8 := 172 :: sxX11_driven_23
noncomputable def sxX11_driven_21 : List UInt8 := 2 :: sxX11_driven_22
noncomputable def sxX11_driven_18 : List UInt8 := 164 :: 0 :: 5 :: sxX11_driven_21
noncomputable def sxX11_driven_15 : List UInt8 := 182 :: 0 :: 152 :: sxX11_driven_18
noncomputable def sxX11_driven_12 : List UInt8 := 180 :: 0 :: 21 :: sxX11_driven_15
noncomputable def sxX11_driven_11 : List UInt8 := 42 :: sxX11_driven_12
noncomputable def sxX11_driven_10 : List UInt8 := 27 :: sxX11_driven_11
noncomputable def sxX11_driven_7 : List UInt8 := 153 :: 0 :: 14 :: sxX11_driven_10
noncomputable def sxX11_driven_4 : List UInt8 := 184 :: 0 :: 80 :: sxX11_driven_7
noncomputable def sxX11_driven_2 : List UInt8 := 16 :: 20 :: sxX11_driven_4
noncomputable def sxX11_driven_1 : List UInt8 := 3 :: sxX11_driven_2
noncomputable def sxX11_driven_0 : List UInt8 := 27 :: sxX11_driven_1
theorem shX11_driven_0 : cX11_driven.data.toList.drop 0 = sxX11_driven_0 := rfl
theorem shX11_driven_1 : cX11_driven.data.toList.drop 1 = sxX11_driven_1 := dSn 1 shX11_driven_0
theorem shX11_driven_2 : cX11_driven.data.toList.drop 2 = sxX11_driven_2 := dSn 1 shX11_driven_1
theorem shX11_driven_4 : cX11_driven.data.toList.drop 4 = sxX11_driven_4 := dSn 2 shX11_driven_2
theorem shX11_driven_7 : cX11_driven.data.toList.drop 7 = sxX11_driven_7 := dSn 3 shX11_driven_4
theorem shX11_driven_10 : cX11_driven.data.toList.drop 10 = sxX11_driven_10 := dSn 3 shX11_driven_7
theorem shX11_driven_11 : cX11_driven.data.toList.drop 11 = sxX11_driven_11 := dSn 1 shX11_driven_10
theorem shX11_driven_12 : cX11_driven.data.toList.drop 12 = sxX11_driven_12 := dSn 1 shX11_driven_11
theorem shX11_driven_15 : cX11_driven.data.toList.drop 15 = sxX11_driven_15 := dSn 3 shX11_driven_12
theorem shX11_driven_18 : cX11_driven.data.toList.drop 18 = sxX11_driven_18 := dSn 3 shX11_driven_15
theorem shX11_driven_21 : cX11_driven.data.toList.drop 21 = sxX11_driven_21 := dSn 3 shX11_driven_18
theorem shX11_driven_22 : cX11_driven.data.toList.drop 22 = sxX11_driven_22 := dSn 1 shX11_driven_21
theorem shX11_driven_23 : cX11_driven.data.toList.drop 23 = sxX11_driven_23 := dSn 1 shX11_driven_22
theorem shX11_driven_24 : cX11_driven.data.toList.drop 24 = sxX11_driven_24 := dSn 1 shX11_driven_23
theorem shX11_driven_25 : cX11_driven.data.toList.drop 25 = sxX11_driven_25 := dSn 1 shX11_driven_24
theorem shX11_driven_28 : cX11_driven.data.toList.drop 28 = sxX11_driven_28 := dSn 3 shX11_driven_25
theorem shX11_driven_29 : cX11_driven.data.toList.drop 29 = sxX11_driven_29 := dSn 1 shX11_driven_28
theorem shX11_driven_30 : cX11_driven.data.toList.drop 30 = sxX11_driven_30 := dSn 1 shX11_driven_29
theorem shX11_driven_33 : cX11_driven.data.toList.drop 33 = sxX11_driven_33 := dSn 3 shX11_driven_30
theorem shX11_driven_36 : cX11_driven.data.toList.drop 36 = sxX11_driven_36 := dSn 3 shX11_driven_33
theorem shX11_driven_37 : cX11_driven.data.toList.drop 37 = sxX11_driven_37 := dSn 1 shX11_driven_36
theorem dX11_driven_0 : decode cX11_driven 0 = .ok (.iload_n 1, 1) := oc_27 shX11_driven_0
theorem dX11_driven_1 : decode cX11_driven 1 = .ok (.iconst 0, 1) := oc_3 shX11_driven_1
theorem dX11_driven_2 : decode cX11_driven 2 = .ok (.bipush 20, 2) := oc_16 shX11_driven_2 sgb_20
theorem dX11_driven_4 : decode cX11_driven 4 = .ok (.invokestatic 80, 3) := oc_184 shX11_driven_4
theorem dX11_driven_7 : decode cX11_driven 7 = .ok (.ifCond .eq 14, 3) := oc_153 shX11_driven_7 sgw_0_14
theorem dX11_driven_10 : decode cX11_driven 10 = .ok (.iload_n 1, 1) := oc_27 shX11_driven_10
theorem dX11_driven_11 : decode cX11_driven 11 = .ok (.aload_n 0, 1) := oc_42 shX11_driven_11
theorem dX11_driven_12 : decode cX11_driven 12 = .ok (.getfield 21, 3) := oc_180 shX11_driven_12
theorem dX11_driven_15 : decode cX11_driven 15 = .ok (.invokevirtual 152, 3) := oc_182 shX11_driven_15
theorem dX11_driven_18 : decode cX11_driven 18 = .ok (.if_icmp .le 5, 3) := oc_164 shX11_driven_18 sgw_0_5
theorem dX11_driven_23 : decode cX11_driven 23 = .ok (.aload_n 0, 1) := oc_42 shX11_driven_23
theorem dX11_driven_24 : decode cX11_driven 24 = .ok (.iload_n 1, 1) := oc_27 shX11_driven_24
theorem dX11_driven_25 : decode cX11_driven 25 = .ok (.invokevirtual 288, 3) := oc_182 shX11_driven_25
theorem dX11_driven_28 : decode cX11_driven 28 = .ok (.istore_n 2, 1) := oc_61 shX11_driven_28
theorem dX11_driven_29 : decode cX11_driven 29 = .ok (.aload_n 0, 1) := oc_42 shX11_driven_29
theorem dX11_driven_30 : decode cX11_driven 30 = .ok (.getfield 21, 3) := oc_180 shX11_driven_30
theorem dX11_driven_33 : decode cX11_driven 33 = .ok (.invokevirtual 162, 3) := oc_182 shX11_driven_33
theorem dX11_driven_36 : decode cX11_driven 36 = .ok (.iload_n 2, 1) := oc_28 shX11_driven_36
theorem dX11_driven_37 : decode cX11_driven 37 = .ok (.ireturn, 1) := oc_172 shX11_driven_37
theorem dX11_driven_21 : decode cX11_driven 21 = .ok (.iconst (-1), 1) := oc_2 shX11_driven_21
theorem dX11_driven_22 : decode cX11_driven 22 = .ok (.ireturn, 1) := oc_172 shX11_driven_22
set_option maxRecDepth 100000 in
set_option maxHeartbeats 4000000 in
theorem q_XkitchenAt (l : Launch) (D : va_G) (cI cB cZ : ClassId) (zz qq vv : Nat) (bt : Nat → Int32) (g : Nat → Nat) (ad : Nat → Nat → Nat) (cn : Nat → Nat) (In : Nat → Int32) (Fn : Nat → Nat → Int32) (v0 : Int32) (hB : CBX cn) : Met l yX11_kitchenAt (CWS yX11_kitchenAt cX11_kitchenAt 2 (some (.object "OilHome$Kitchen"))) (RM 3 0 0) (PBrx [.ref (g 0), .int v0] D cI cB cZ zz qq vv bt (wX cI (D.1 99) zz g ad cn In Fn)) (va_Sq (fun r => (∃ m : Nat, v0.toInt = (m : Int) ∧ m < cn 10 ∧ r = some (ad 10 m)) ∨ (¬ (0 ≤ v0.toInt ∧ v0.toInt < (cn 10 : Int)) ∧ r = none))) 0 0 (fun _ => False) := by
  refine en_rx rfl pn_RX11 (Nat.le_of_ble_eq_true rfl) (fun p e s m below meth c hx hb hml hown S hr hlocks hnm hP hK hXS hS ls hl => ?_)
  have hl : lv_has ls 2 [(0, .ref (g 0)), (1, .int v0)] := hl
  have hb_cn : Hid (CBX cn) := hB
  replace hB : CBXh cn := hB
  refine lv_iload_n hx hb dX11_kitchenAt_0 rfl (lvA1 hl) ?_
  refine lv_if_lt (tgt := 15) hx hb dX11_kitchenAt_1 rfl (fun c_1 => ?_) (fun c_1 => ?_)
  ·
    have tc_1 : (v0.toInt : Int) < 0 := Int32.lt_iff_toInt_lt.mp c_1
    refine lv_null hx hb dX11_kitchenAt_15 ?_
    refine lv_goto (tgt := 30) hx hb dX11_kitchenAt_16 rfl ?_
    exact W.aret (v := .null) hx hb hr (Or.inl ⟨_, rfl⟩) (Or.inl rfl) (fun t ht hW => ⟨none, rfl, (Or.inr ⟨by (first | omega | (have zz0 := Hid.u hb_cn; omega)), rfl⟩), ht⟩) (fun _ h => absurd h List.not_mem_nil) dX11_kitchenAt_30
  ·
    have tc_1 : (0 : Int) ≤ v0.toInt := Int32.le_iff_toInt_le.mp (Int32.not_lt.mp c_1)
    refine lv_iload_n hx hb dX11_kitchenAt_4 rfl (lvA1 hl) ?_
    refine lv_aload_n hx hb dX11_kitchenAt_5 rfl (lvA0 hl) ?_
    refine gf_RX11_61 S hK hP 0 xo_0 (v := .ref (g 10)) rfl dX11_kitchenAt_6 ?_
    refine vp_callSi (runV_r (As := []) (rest := [.int v0]) S (q_l_size l D cI cB cZ (g 10) (if (cn 10) = 0 then zz else ad 2 0) (In 10) (nI (cn 10))) kV_RX11_84 hK hP [24] (one_is xo_24) 24 xo_24 rfl rfl ⟨Nat.le_of_ble_eq_true rfl, Nat.le_of_ble_eq_true rfl⟩ ⟨Nat.le_of_ble_eq_true rfl, Nat.le_of_ble_eq_true rfl⟩ rfl hl.1 rfl (Nat.le_of_ble_eq_true rfl) dX11_kitchenAt_9) (fun r_2 h_3 => ?_)
    subst h_3
    have : (nI (cn 10)).toInt = (((cn 10) : Nat) : Int) := nI_toInt (by (first | omega | (have zz0 := Hid.u hb_cn; omega)))
    refine lv_icmp_lt (tgt := 19) hx hb dX11_kitchenAt_12 rfl (fun c_4 => ?_) (fun c_4 => ?_)
    ·
      have tc_4 : (v0.toInt : Int) < (nI (cn 10)).toInt := Int32.lt_iff_toInt_lt.mp c_4
      obtain ⟨d0, hd0, rfl⟩ := nI_of (x := v0) (fun q => by have := Int32.lt_iff_toInt_lt.mp q; have e : (0 : Int32).toInt = 0 := rfl; (first | omega | (have zz0 := Hid.u hb_cn; omega)))
      have td0 : (nI d0).toInt = (d0 : Int) := nI_toInt hd0
      have zd0 : (nI d0).toInt.toNat = d0 := by (first | omega | (have zz0 := Hid.u hb_cn; omega))
      refine lv_aload_n hx hb dX11_kitchenAt_19 rfl (lvA0 hl) ?_
      refine gf_RX11_61 S hK hP 0 xo_0 (v := .ref (g 10)) rfl dX11_kitchenAt_20 ?_
      refine lv_iload_n hx hb dX11_kitchenAt_23 rfl (lvA1 hl) ?_
      refine va_csq (runV_rx (As := [.int (nI d0)]) (rest := []) S (q_l_get l D cI cB cZ zz qq vv bt (g 10) (ad 2 0) (cn 20) (cn 10) d0 (ad 10 d0) (In 10) (fun i => if i < (cn 10) then some (ad 10 i) else none) (by (first | omega | (have zz0 := Hid.u hb_cn; omega))) (if_pos (by (first | omega | (have zz0 := Hid.u hb_cn; omega)))) (by (first | omega | (have zz0 := Hid.u hb_cn; omega))) (by (first | omega | (have zz0 := Hid.u hb_cn; omega)))) kV_RX11_87 hK hXS hS hP _ (two_is (xl_0 (by (first | omega | (have zz0 := Hid.u hb_cn; omega)))) (xf_13 (k := 0) (by (first | omega | (have zz0 := Hid.u hb_cn; omega))))) (va_recv hK.1 hP (ci := 0) rfl xo_24) ⟨Nat.le_of_ble_eq_true rfl, Nat.le_of_ble_eq_true rfl⟩ ⟨Nat.le_of_ble_eq_true rfl, Nat.le_of_ble_eq_true rfl⟩ rfl hl.1 rfl (Nat.le_of_ble_eq_true rfl) dX11_kitchenAt_24) (fun r_5 h_6 => ?_)
      subst h_6
      have kf_1 : d0 < cn 10 := by (first | omega | (have zz0 := Hid.u hb_cn; omega))
      refine va_castS hx hb hown (S.2.2.2.2 _ (wk2_5 3 rfl rfl)) (xclass hK.1 (ci := 2) rfl) (va_recv hK.1 hP (ci := 2) rfl (xf_0 kf_1)) dX11_kitchenAt_27 ?_
      exact W.aret (v := .ref (ad 10 d0)) hx hb hr (Or.inl ⟨_, rfl⟩) (Or.inr ⟨_, rfl⟩) (fun t ht hW => ⟨some (ad 10 d0), rfl, (Or.inl ⟨d0, by (first | omega | (have zz0 := Hid.u hb_cn; omega)), by (first | omega | (have zz0 := Hid.u hb_cn; omega)), rfl⟩), ht⟩) (fun _ h => absurd h List.not_mem_nil) dX11_kitchenAt_30
    ·
      have tc_4 : ((nI (cn 10)).toInt : Int) ≤ v0.toInt := Int32.le_iff_toInt_le.mp (Int32.not_lt.mp c_4)
      refine lv_null hx hb dX11_kitchenAt_15 ?_
      refine lv_goto (tgt := 30) hx hb dX11_kitchenAt_16 rfl ?_
      exact W.aret (v := .null) hx hb hr (Or.inl ⟨_, rfl⟩) (Or.inl rfl) (fun t ht hW => ⟨none, rfl, (Or.inr ⟨by (first | omega | (have zz0 := Hid.u hb_cn; omega)), rfl⟩), ht⟩) (fun _ h => absurd h List.not_mem_nil) dX11_kitchenAt_30
set_option maxRecDepth 100000 in
set_option maxHeartbeats 4000000 in
theorem q_XloadAt (l : Launch) (D : va_G) (cI cB cZ : ClassId) (zz qq vv : Nat) (bt : Nat → Int32) (g : Nat → Nat) (ad : Nat → Nat → Nat) (cn : Nat → Nat) (In : Nat → Int32) (Fn : Nat → Nat → Int32) (v0 : Int32) (hB : CBX cn) : Met l yX11_loadAt (CWS yX11_loadAt cX11_loadAt 2 (some (.object "OilHome$Load"))) (RM 3 0 0) (PBrx [.ref (g 0), .int v0] D cI cB cZ zz qq vv bt (wX cI (D.1 99) zz g ad cn In Fn)) (va_Sq (fun r => (∃ m : Nat, v0.toInt = (m : Int) ∧ m < cn 11 ∧ r = some (ad 11 m)) ∨ (¬ (0 ≤ v0.toInt ∧ v0.toInt < (cn 11 : Int)) ∧ r = none))) 0 0 (fun _ => False) := by
  refine en_rx rfl pn_RX11 (Nat.le_of_ble_eq_true rfl) (fun p e s m below meth c hx hb hml hown S hr hlocks hnm hP hK hXS hS ls hl => ?_)
  have hl : lv_has ls 2 [(0, .ref (g 0)), (1, .int v0)] := hl
  have hb_cn : Hid (CBX cn) := hB
  replace hB : CBXh cn := hB
  refine lv_iload_n hx hb dX11_loadAt_0 rfl (lvA1 hl) ?_
  refine lv_if_lt (tgt := 15) hx hb dX11_loadAt_1 rfl (fun c_1 => ?_) (fun c_1 => ?_)
  ·
    have tc_1 : (v0.toInt : Int) < 0 := Int32.lt_iff_toInt_lt.mp c_1
    refine lv_null hx hb dX11_loadAt_15 ?_
    refine lv_goto (tgt := 30) hx hb dX11_loadAt_16 rfl ?_
    exact W.aret (v := .null) hx hb hr (Or.inl ⟨_, rfl⟩) (Or.inl rfl) (fun t ht hW => ⟨none, rfl, (Or.inr ⟨by (first | omega | (have zz0 := Hid.u hb_cn; omega)), rfl⟩), ht⟩) (fun _ h => absurd h List.not_mem_nil) dX11_loadAt_30
  ·
    have tc_1 : (0 : Int) ≤ v0.toInt := Int32.le_iff_toInt_le.mp (Int32.not_lt.mp c_1)
    refine lv_iload_n hx hb dX11_loadAt_4 rfl (lvA1 hl) ?_
    refine lv_aload_n hx hb dX11_loadAt_5 rfl (lvA0 hl) ?_
    refine gf_RX11_65 S hK hP 0 xo_0 (v := .ref (g 11)) rfl dX11_loadAt_6 ?_
    refine vp_callSi (runV_r (As := []) (rest := [.int v0]) S (q_l_size l D cI cB cZ (g 11) (if (cn 11) = 0 then zz else ad 2 1) (In 11) (nI (cn 11))) kV_RX11_84 hK hP [25] (one_is xo_25) 25 xo_25 rfl rfl ⟨Nat.le_of_ble_eq_true rfl, Nat.le_of_ble_eq_true rfl⟩ ⟨Nat.le_of_ble_eq_true rfl, Nat.le_of_ble_eq_true rfl⟩ rfl hl.1 rfl (Nat.le_of_ble_eq_true rfl) dX11_loadAt_9) (fun r_2 h_3 => ?_)
    subst h_3
    have : (nI (cn 11)).toInt = (((cn 11) : Nat) : Int) := nI_toInt (by (first | omega | (have zz0 := Hid.u hb_cn; omega)))
    refine lv_icmp_lt (tgt := 19) hx hb dX11_loadAt_12 rfl (fun c_4 => ?_) (fun c_4 => ?_)
    ·
      have tc_4 : (v0.toInt : Int) < (nI (cn 11)).toInt := Int32.lt_iff_toInt_lt.mp c_4
      obtain ⟨d0, hd0, rfl⟩ := nI_of (x := v0) (fun q => by have := Int32.lt_iff_toInt_lt.mp q; have e : (0 : Int32).toInt = 0 := rfl; (first | omega | (have zz0 := Hid.u hb_cn; omega)))
      have td0 : (nI d0).toInt = (d0 : Int) := nI_toInt hd0
      have zd0 : (nI d0).toInt.toNat = d0 := by (first | omega | (have zz0 := Hid.u hb_cn; omega))
      refine lv_aload_n hx hb dX11_loadAt_19 rfl (lvA0 hl) ?_
      refine gf_RX11_65 S hK hP 0 xo_0 (v := .ref (g 11)) rfl dX11_loadAt_20 ?_
      refine lv_iload_n hx hb dX11_loadAt_23 rfl (lvA1 hl) ?_
      refine va_csq (runV_rx (As := [.int (nI d0)]) (rest := []) S (q_l_get l D cI cB cZ zz qq vv bt (g 11) (ad 2 1) (cn 21) (cn 11) d0 (ad 11 d0) (In 11) (fun i => if i < (cn 11) then some (ad 11 i) else none) (by (first | omega | (have zz0 := Hid.u hb_cn; omega))) (if_pos (by (first | omega | (have zz0 := Hid.u hb_cn; omega)))) (by (first | omega | (have zz0 := Hid.u hb_cn; omega))) (by (first | omega | (have zz0 := Hid.u hb_cn; omega)))) kV_RX11_87 hK hXS hS hP _ (two_is (xl_1 (by (first | omega | (have zz0 := Hid.u hb_cn; omega)))) (xf_14 (k := 0) (by (first | omega | (have zz0 := Hid.u hb_cn; omega))))) (va_recv hK.1 hP (ci := 0) rfl xo_25) ⟨Nat.le_of_ble_eq_true rfl, Nat.le_of_ble_eq_true rfl⟩ ⟨Nat.le_of_ble_eq_true rfl, Nat.le_of_ble_eq_true rfl⟩ rfl hl.1 rfl (Nat.le_of_ble_eq_true rfl) dX11_loadAt_24) (fun r_5 h_6 => ?_)
      subst h_6
      have kf_1 : d0 < cn 11 := by (first | omega | (have zz0 := Hid.u hb_cn; omega))
      refine va_castS hx hb hown (S.2.2.2.2 _ (wk2_17 0 rfl rfl)) (xclass hK.1 (ci := 3) rfl) (va_recv hK.1 hP (ci := 3) rfl (xf_1 kf_1)) dX11_loadAt_27 ?_
      exact W.aret (v := .ref (ad 11 d0)) hx hb hr (Or.inl ⟨_, rfl⟩) (Or.inr ⟨_, rfl⟩) (fun t ht hW => ⟨some (ad 11 d0), rfl, (Or.inl ⟨d0, by (first | omega | (have zz0 := Hid.u hb_cn; omega)), by (first | omega | (have zz0 := Hid.u hb_cn; omega)), rfl⟩), ht⟩) (fun _ h => absurd h List.not_mem_nil) dX11_loadAt_30
    ·
      have tc_4 : ((nI (cn 11)).toInt : Int) ≤ v0.toInt := Int32.le_iff_toInt_le.mp (Int32.not_lt.mp c_4)
      refine lv_null hx hb dX11_loadAt_15 ?_
      refine lv_goto (tgt := 30) hx hb dX11_loadAt_16 rfl ?_
      exact W.aret (v := .null) hx hb hr (Or.inl ⟨_, rfl⟩) (Or.inl rfl) (fun t ht hW => ⟨none, rfl, (Or.inr ⟨by (first | omega | (have zz0 := Hid.u hb_cn; omega)), rfl⟩), ht⟩) (fun _ h => absurd h List.not_mem_nil) dX11_loadAt_30
set_option maxRecDepth 100000 in
set_option maxHeartbeats 4000000 in
theorem q_XbatchAt (l : Launch) (D : va_G) (cI cB cZ : ClassId) (zz qq vv : Nat) (bt : Nat → Int32) (g : Nat → Nat) (ad : Nat → Nat → Nat) (cn : Nat → Nat) (In : Nat → Int32) (Fn : Nat → Nat → Int32) (v0 : Int32) (hB : CBX cn) : Met l yX11_batchAt (CWS yX11_batchAt cX11_batchAt 2 (some (.object "OilHome$Batch"))) (RM 3 0 0) (PBrx [.ref (g 0), .int v0] D cI cB cZ zz qq vv bt (wX cI (D.1 99) zz g ad cn In Fn)) (va_Sq (fun r => (∃ m : Nat, v0.toInt = (m : Int) ∧ m < cn 12 ∧ r = some (ad 12 m)) ∨ (¬ (0 ≤ v0.toInt ∧ v0.toInt < (cn 12 : Int)) ∧ r = none))) 0 0 (fun _ => False) := by
  refine en_rx rfl pn_RX11 (Nat.le_of_ble_eq_true rfl) (fun p e s m below meth c hx hb hml hown S hr hlocks hnm hP hK hXS hS ls hl => ?_)
  have hl : lv_has ls 2 [(0, .ref (g 0)), (1, .int v0)] := hl
  have hb_cn : Hid (CBX cn) := hB
  replace hB : CBXh cn := hB
  refine lv_iload_n hx hb dX11_batchAt_0 rfl (lvA1 hl) ?_
  refine lv_if_lt (tgt := 15) hx hb dX11_batchAt_1 rfl (fun c_1 => ?_) (fun c_1 => ?_)
  ·
    have tc_1 : (v0.toInt : Int) < 0 := Int32.lt_iff_toInt_lt.mp c_1
    refine lv_null hx hb dX11_batchAt_15 ?_
    refine lv_goto (tgt := 30) hx hb dX11_batchAt_16 rfl ?_
    exact W.aret (v := .null) hx hb hr (Or.inl ⟨_, rfl⟩) (Or.inl rfl) (fun t ht hW => ⟨none, rfl, (Or.inr ⟨by (first | omega | (have zz0 := Hid.u hb_cn; omega)), rfl⟩), ht⟩) (fun _ h => absurd h List.not_mem_nil) dX11_batchAt_30
  ·
    have tc_1 : (0 : Int) ≤ v0.toInt := Int32.le_iff_toInt_le.mp (Int32.not_lt.mp c_1)
    refine lv_iload_n hx hb dX11_batchAt_4 rfl (lvA1 hl) ?_
    refine lv_aload_n hx hb dX11_batchAt_5 rfl (lvA0 hl) ?_
    refine gf_RX11_68 S hK hP 0 xo_0 (v := .ref (g 12)) rfl dX11_batchAt_6 ?_
    refine vp_callSi (runV_r (As := []) (rest := [.int v0]) S (q_l_size l D cI cB cZ (g 12) (if (cn 12) = 0 then zz else ad 2 2) (In 12) (nI (cn 12))) kV_RX11_84 hK hP [26] (one_is xo_26) 26 xo_26 rfl rfl ⟨Nat.le_of_ble_eq_true rfl, Nat.le_of_ble_eq_true rfl⟩ ⟨Nat.le_of_ble_eq_true rfl, Nat.le_of_ble_eq_true rfl⟩ rfl hl.1 rfl (Nat.le_of_ble_eq_true rfl) dX11_batchAt_9) (fun r_2 h_3 => ?_)
    subst h_3
    have : (nI (cn 12)).toInt = (((cn 12) : Nat) : Int) := nI_toInt (by (first | omega | (have zz0 := Hid.u hb_cn; omega)))
    refine lv_icmp_lt (tgt := 19) hx hb dX11_batchAt_12 rfl (fun c_4 => ?_) (fun c_4 => ?_)
    ·
      have tc_4 : (v0.toInt : Int) < (nI (cn 12)).toInt := Int32.lt_iff_toInt_lt.mp c_4
      obtain ⟨d0, hd0, rfl⟩ := nI_of (x := v0) (fun q => by have := Int32.lt_iff_toInt_lt.mp q; have e : (0 : Int32).toInt = 0 := rfl; (first | omega | (have zz0 := Hid.u hb_cn; omega)))
      have td0 : (nI d0).toInt = (d0 : Int) := nI_toInt hd0
      have zd0 : (nI d0).toInt.toNat = d0 := by (first | omega | (have zz0 := Hid.u hb_cn; omega))
      refine lv_aload_n hx hb dX11_batchAt_19 rfl (lvA0 hl) ?_
      refine gf_RX11_68 S hK hP 0 xo_0 (v := .ref (g 12)) rfl dX11_batchAt_20 ?_
      refine lv_iload_n hx hb dX11_batchAt_23 rfl (lvA1 hl) ?_
      refine va_csq (runV_rx (As := [.int (nI d0)]) (rest := []) S (q_l_get l D cI cB cZ zz qq vv bt (g 12) (ad 2 2) (cn 22) (cn 12) d0 (ad 12 d0) (In 12) (fun i => if i < (cn 12) then some (ad 12 i) else none) (by (first | omega | (have zz0 := Hid.u hb_cn; omega))) (if_pos (by (first | omega | (have zz0 := Hid.u hb_cn; omega)))) (by (first | omega | (have zz0 := Hid.u hb_cn; omega))) (by (first | omega | (have zz0 := Hid.u hb_cn; omega)))) kV_RX11_87 hK hXS hS hP _ (two_is (xl_2 (by (first | omega | (have zz0 := Hid.u hb_cn; omega)))) (xf_15 (k := 0) (by (first | omega | (have zz0 := Hid.u hb_cn; omega))))) (va_recv hK.1 hP (ci := 0) rfl xo_26) ⟨Nat.le_of_ble_eq_true rfl, Nat.le_of_ble_eq_true rfl⟩ ⟨Nat.le_of_ble_eq_true rfl, Nat.le_of_ble_eq_true rfl⟩ rfl hl.1 rfl (Nat.le_of_ble_eq_true rfl) dX11_batchAt_24) (fun r_5 h_6 => ?_)
      subst h_6
      have kf_1 : d0 < cn 12 := by (first | omega | (have zz0 := Hid.u hb_cn; omega))
      refine va_castS hx hb hown (S.2.2.2.2 _ (wk4_17 7 rfl rfl)) (xclass hK.1 (ci := 1) rfl) (va_recv hK.1 hP (ci := 1) rfl (xf_2 kf_1)) dX11_batchAt_27 ?_
      exact W.aret (v := .ref (ad 12 d0)) hx hb hr (Or.inl ⟨_, rfl⟩) (Or.inr ⟨_, rfl⟩) (fun t ht hW => ⟨some (ad 12 d0), rfl, (Or.inl ⟨d0, by (first | omega | (have zz0 := Hid.u hb_cn; omega)), by (first | omega | (have zz0 := Hid.u hb_cn; omega)), rfl⟩), ht⟩) (fun _ h => absurd h List.not_mem_nil) dX11_batchAt_30
    ·
      have tc_4 : ((nI (cn 12)).toInt : Int) ≤ v0.toInt := Int32.le_iff_toInt_le.mp (Int32.not_lt.mp c_4)
      refine lv_null hx hb dX11_batchAt_15 ?_
      refine lv_goto (tgt := 30) hx hb dX11_batchAt_16 rfl ?_
      exact W.aret (v := .null) hx hb hr (Or.inl ⟨_, rfl⟩) (Or.inl rfl) (fun t ht hW => ⟨none, rfl, (Or.inr ⟨by (first | omega | (have zz0 := Hid.u hb_cn; omega)), rfl⟩), ht⟩) (fun _ h => absurd h List.not_mem_nil) dX11_batchAt_30
set_option maxRecDepth 100000 in
set_option maxHeartbeats 4000000 in
theorem q_XproofAt (l : Launch) (D : va_G) (cI cB cZ : ClassId) (zz qq vv : Nat) (bt : Nat → Int32) (g : Nat → Nat) (ad : Nat → Nat → Nat) (cn : Nat → Nat) (In : Nat → Int32) (Fn : Nat → Nat → Int32) (v0 : Int32) (hB : CBX cn) : Met l yX11_proofAt (CWS yX11_proofAt cX11_proofAt 2 (some (.object "OilHome$Proof"))) (RM 3 0 0) (PBrx [.ref (g 0), .int v0] D cI cB cZ zz qq vv bt (wX cI (D.1 99) zz g ad cn In Fn)) (va_Sq (fun r => (∃ m : Nat, v0.toInt = (m : Int) ∧ m < cn 13 ∧ r = some (ad 13 m)) ∨ (¬ (0 ≤ v0.toInt ∧ v0.toInt < (cn 13 : Int)) ∧ r = none))) 0 0 (fun _ => False) := by
  refine en_rx rfl pn_RX11 (Nat.le_of_ble_eq_true rfl) (fun p e s m below meth c hx hb hml hown S hr hlocks hnm hP hK hXS hS ls hl => ?_)
  have hl : lv_has ls 2 [(0, .ref (g 0)), (1, .int v0)] := hl
  have hb_cn : Hid (CBX cn) := hB
  replace hB : CBXh cn := hB
  refine lv_iload_n hx hb dX11_proofAt_0 rfl (lvA1 hl) ?_
  refine lv_if_lt (tgt := 15) hx hb dX11_proofAt_1 rfl (fun c_1 => ?_) (fun c_1 => ?_)
  ·
    have tc_1 : (v0.toInt : Int) < 0 := Int32.lt_iff_toInt_lt.mp c_1
    refine lv_null hx hb dX11_proofAt_15 ?_
    refine lv_goto (tgt := 30) hx hb dX11_proofAt_16 rfl ?_
    exact W.aret (v := .null) hx hb hr (Or.inl ⟨_, rfl⟩) (Or.inl rfl) (fun t ht hW => ⟨none, rfl, (Or.inr ⟨by (first | omega | (have zz0 := Hid.u hb_cn; omega)), rfl⟩), ht⟩) (fun _ h => absurd h List.not_mem_nil) dX11_proofAt_30
  ·
    have tc_1 : (0 : Int) ≤ v0.toInt := Int32.le_iff_toInt_le.mp (Int32.not_lt.mp c_1)
    refine lv_iload_n hx hb dX11_proofAt_4 rfl (lvA1 hl) ?_
    refine lv_aload_n hx hb dX11_proofAt_5 rfl (lvA0 hl) ?_
    refine gf_RX11_71 S hK hP 0 xo_0 (v := .ref (g 13)) rfl dX11_proofAt_6 ?_
    refine vp_callSi (runV_r (As := []) (rest := [.int v0]) S (q_l_size l D cI cB cZ (g 13) (if (cn 13) = 0 then zz else ad 2 3) (In 13) (nI (cn 13))) kV_RX11_84 hK hP [27] (one_is xo_27) 27 xo_27 rfl rfl ⟨Nat.le_of_ble_eq_true rfl, Nat.le_of_ble_eq_true rfl⟩ ⟨Nat.le_of_ble_eq_true rfl, Nat.le_of_ble_eq_true rfl⟩ rfl hl.1 rfl (Nat.le_of_ble_eq_true rfl) dX11_proofAt_9) (fun r_2 h_3 => ?_)
    subst h_3
    have : (nI (cn 13)).toInt = (((cn 13) : Nat) : Int) := nI_toInt (by (first | omega | (have zz0 := Hid.u hb_cn; omega)))
    refine lv_icmp_lt (tgt := 19) hx hb dX11_proofAt_12 rfl (fun c_4 => ?_) (fun c_4 => ?_)
    ·
      have tc_4 : (v0.toInt : Int) < (nI (cn 13)).toInt := Int32.lt_iff_toInt_lt.mp c_4
      obtain ⟨d0, hd0, rfl⟩ := nI_of (x := v0) (fun q => by have := Int32.lt_iff_toInt_lt.mp q; have e : (0 : Int32).toInt = 0 := rfl; (first | omega | (have zz0 := Hid.u hb_cn; omega)))
      have td0 : (nI d0).toInt = (d0 : Int) := nI_toInt hd0
      have zd0 : (nI d0).toInt.toNat = d0 := by (first | omega | (have zz0 := Hid.u hb_cn; omega))
      refine lv_aload_n hx hb dX11_proofAt_19 rfl (lvA0 hl) ?_
      refine gf_RX11_71 S hK hP 0 xo_0 (v := .ref (g 13)) rfl dX11_proofAt_20 ?_
      refine lv_iload_n hx hb dX11_proofAt_23 rfl (lvA1 hl) ?_
      refine va_csq (runV_rx (As := [.int (nI d0)]) (rest := []) S (q_l_get l D cI cB cZ zz qq vv bt (g 13) (ad 2 3) (cn 23) (cn 13) d0 (ad 13 d0) (In 13) (fun i => if i < (cn 13) then some (ad 13 i) else none) (by (first | omega | (have zz0 := Hid.u hb_cn; omega))) (if_pos (by (first | omega | (have zz0 := Hid.u hb_cn; omega)))) (by (first | omega | (have zz0 := Hid.u hb_cn; omega))) (by (first | omega | (have zz0 := Hid.u hb_cn; omega)))) kV_RX11_87 hK hXS hS hP _ (two_is (xl_3 (by (first | omega | (have zz0 := Hid.u hb_cn; omega)))) (xf_16 (k := 0) (by (first | omega | (have zz0 := Hid.u hb_cn; omega))))) (va_recv hK.1 hP (ci := 0) rfl xo_27) ⟨Nat.le_of_ble_eq_true rfl, Nat.le_of_ble_eq_true rfl⟩ ⟨Nat.le_of_ble_eq_true rfl, Nat.le_of_ble_eq_true rfl⟩ rfl hl.1 rfl (Nat.le_of_ble_eq_true rfl) dX11_proofAt_24) (fun r_5 h_6 => ?_)
      subst h_6
      have kf_1 : d0 < cn 13 := by (first | omega | (have zz0 := Hid.u hb_cn; omega))
      refine va_castS hx hb hown (S.2.2.2.2 _ (wk5_4 7 rfl rfl)) (xclass hK.1 (ci := 5) rfl) (va_recv hK.1 hP (ci := 5) rfl (xf_3 kf_1)) dX11_proofAt_27 ?_
      exact W.aret (v := .ref (ad 13 d0)) hx hb hr (Or.inl ⟨_, rfl⟩) (Or.inr ⟨_, rfl⟩) (fun t ht hW => ⟨some (ad 13 d0), rfl, (Or.inl ⟨d0, by (first | omega | (have zz0 := Hid.u hb_cn; omega)), by (first | omega | (have zz0 := Hid.u hb_cn; omega)), rfl⟩), ht⟩) (fun _ h => absurd h List.not_mem_nil) dX11_proofAt_30
    ·
      have tc_4 : ((nI (cn 13)).toInt : Int) ≤ v0.toInt := Int32.le_iff_toInt_le.mp (Int32.not_lt.mp c_4)
      refine lv_null hx hb dX11_proofAt_15 ?_
      refine lv_goto (tgt := 30) hx hb dX11_proofAt_16 rfl ?_
      exact W.aret (v := .null) hx hb hr (Or.inl ⟨_, rfl⟩) (Or.inl rfl) (fun t ht hW => ⟨none, rfl, (Or.inr ⟨by (first | omega | (have zz0 := Hid.u hb_cn; omega)), rfl⟩), ht⟩) (fun _ h => absurd h List.not_mem_nil) dX11_proofAt_30
set_option maxRecDepth 100000 in
set_option maxHeartbeats 4000000 in
theorem q_XfillOn (l : Launch) (D : va_G) (cI cB cZ : ClassId) (zz qq vv : Nat) (bt : Nat → Int32) (g : Nat → Nat) (ad : Nat → Nat → Nat) (cn : Nat → Nat) (In : Nat → Int32) (Fn : Nat → Nat → Int32) (k0 : Nat) (v0 v1 : Int32) (hB : CBX cn) (hk : k0 < cn 10) : Met l yX1_fillOn (CWS yX1_fillOn cX1_fillOn 3 (some .int)) (RM 1 0 0) (PBrx [.ref (ad 10 k0), .int v0, .int v1] D cI cB cZ zz qq vv bt (wX cI (D.1 99) zz g ad cn In Fn)) (vp_Si (fun r => r = (if (Fn 102 k0 * (v0 - v1)) < Fn 103 k0 then Fn 102 k0 * (v0 - v1) else Fn 103 k0))) 0 0 (fun _ => False) := by
  refine en_rx rfl pn_RX1 (Nat.le_of_ble_eq_true rfl) (fun p e s m below meth c hx hb hml hown S hr hlocks hnm hP hK hXS hS ls hl => ?_)
  have hl : lv_has ls 3 [(0, .ref (ad 10 k0)), (1, .int v0), (2, .int v1)] := hl
  have hb_cn : Hid (CBX cn) := hB
  replace hB : CBXh cn := hB
  refine lv_aload_n hx hb dX1_fillOn_0 rfl (lvA0 hl) ?_
  refine gf_RX1_19 S hK hP _ (xf_0 hk) (v := .int ((Fn 103) k0)) rfl dX1_fillOn_1 ?_
  refine lv_aload_n hx hb dX1_fillOn_4 rfl (lvA0 hl) ?_
  refine gf_RX1_16 S hK hP _ (xf_0 hk) (v := .int ((Fn 102) k0)) rfl dX1_fillOn_5 ?_
  refine lv_iload_n hx hb dX1_fillOn_8 rfl (lvA1 hl) ?_
  refine lv_iload_n hx hb dX1_fillOn_9 rfl (lvA2 hl) ?_
  refine lv_isub hx hb dX1_fillOn_10 ?_
  refine lv_imul hx hb dX1_fillOn_11 ?_
  refine va_mmin hx hb (by rw [hml]; exact hl.1.symm) hown (S.2.2.2.2 _ (wk2_16 7 rfl rfl)) (S.2.2.2.2 _ (wk2_13 10 rfl rfl)) (S.2.2.2.2 _ (wk1_0 3 rfl rfl)) (S.2.2.2.2 _ (wk2_13 11 rfl rfl)) (Nat.le_of_ble_eq_true rfl) (Nat.le_of_ble_eq_true rfl) (Nat.le_of_ble_eq_true rfl) (Nat.le_of_ble_eq_true rfl) dX1_fillOn_12 ?_
  exact W.iret (v := (if (((Fn 102) k0) * (v0 - v1)) < ((Fn 103) k0) then (((Fn 102) k0) * (v0 - v1)) else ((Fn 103) k0))) hx hb hr (fun t ht hW => ⟨(if (((Fn 102) k0) * (v0 - v1)) < ((Fn 103) k0) then (((Fn 102) k0) * (v0 - v1)) else ((Fn 103) k0)), rfl, rfl, ht⟩) (fun _ h => absurd h List.not_mem_nil) dX1_fillOn_15
set_option maxRecDepth 100000 in
set_option maxHeartbeats 4000000 in
theorem q_XcomesFor (l : Launch) (D : va_G) (cI cB cZ : ClassId) (zz qq vv : Nat) (bt : Nat → Int32) (g : Nat → Nat) (ad : Nat → Nat → Nat) (cn : Nat → Nat) (In : Nat → Int32) (Fn : Nat → Nat → Int32) (k0 : Nat) (v0 : Int32) (hB : CBX cn) (hk : k0 < cn 10) : Met l yX1_comesFor (CWS yX1_comesFor cX1_comesFor 2 (some .boolean)) (RM 0 0 0) (PBrx [.ref (ad 10 k0), .int v0] D cI cB cZ zz qq vv bt (wX cI (D.1 99) zz g ad cn In Fn)) (vp_Si (fun r => r = 0 ∨ r = 1)) 0 0 (fun _ => False) := by
  refine en_rx rfl pn_RX1 (Nat.le_of_ble_eq_true rfl) (fun p e s m below meth c hx hb hml hown S hr hlocks hnm hP hK hXS hS ls hl => ?_)
  have hl : lv_has ls 2 [(0, .ref (ad 10 k0)), (1, .int v0)] := hl
  have hb_cn : Hid (CBX cn) := hB
  replace hB : CBXh cn := hB
  refine lv_iload_n hx hb dX1_comesFor_0 rfl (lvA1 hl) ?_
  refine lv_aload_n hx hb dX1_comesFor_1 rfl (lvA0 hl) ?_
  refine gf_RX1_37 S hK hP _ (xf_0 hk) (v := .int ((Fn 107) k0)) rfl dX1_comesFor_2 ?_
  refine lv_icmp_lt (tgt := 20) hx hb dX1_comesFor_5 rfl (fun c_1 => ?_) (fun c_1 => ?_)
  ·
    have tc_1 : (v0.toInt : Int) < ((Fn 107) k0).toInt := Int32.lt_iff_toInt_lt.mp c_1
    refine lv_iconst (v := 0) hx hb dX1_comesFor_20 kic_0 ?_
    exact W.zret (v := 0) hx hb hr rfl (fun t ht hW => ⟨0, rfl, (Or.inl rfl), ht⟩) (fun _ h => absurd h List.not_mem_nil) dX1_comesFor_21
  ·
    have tc_1 : (((Fn 107) k0).toInt : Int) ≤ v0.toInt := Int32.le_iff_toInt_le.mp (Int32.not_lt.mp c_1)
    refine lv_iload_n hx hb dX1_comesFor_8 rfl (lvA1 hl) ?_
    refine lv_aload_n hx hb dX1_comesFor_9 rfl (lvA0 hl) ?_
    refine gf_RX1_40 S hK hP _ (xf_0 hk) (v := .int ((Fn 108) k0)) rfl dX1_comesFor_10 ?_
    refine lv_icmp_lt (tgt := 20) hx hb dX1_comesFor_13 rfl (fun c_2 => ?_) (fun c_2 => ?_)
    ·
      have tc_2 : (v0.toInt : Int) < ((Fn 108) k0).toInt := Int32.lt_iff_toInt_lt.mp c_2
      refine lv_iconst (v := 0) hx hb dX1_comesFor_20 kic_0 ?_
      exact W.zret (v := 0) hx hb hr rfl (fun t ht hW => ⟨0, rfl, (Or.inl rfl), ht⟩) (fun _ h => absurd h List.not_mem_nil) dX1_comesFor_21
    ·
      have tc_2 : (((Fn 108) k0).toInt : Int) ≤ v0.toInt := Int32.le_iff_toInt_le.mp (Int32.not_lt.mp c_2)
      refine lv_iconst (v := 1) hx hb dX1_comesFor_16 kic_1 ?_
      refine lv_goto (tgt := 21) hx hb dX1_comesFor_17 rfl ?_
      exact W.zret (v := 1) hx hb hr rfl (fun t ht hW => ⟨1, rfl, (Or.inr rfl), ht⟩) (fun _ h => absurd h List.not_mem_nil) dX1_comesFor_21
set_option maxRecDepth 100000 in
set_option maxHeartbeats 4000000 in
theorem q_Xlikely (l : Launch) (D : va_G) (cI cB cZ : ClassId) (zz qq vv : Nat) (bt : Nat → Int32) (g : Nat → Nat) (ad : Nat → Nat → Nat) (cn : Nat → Nat) (In : Nat → Int32) (Fn : Nat → Nat → Int32) (v0 v1 : Int32) (hB : CBX cn) : Met l yX11_likely (CWS yX11_likely cX11_likely 4 (some .int)) (RM 4 0 0) (PBrx [.ref (g 0), .int v0, .int v1] D cI cB cZ zz qq vv bt (wX cI (D.1 99) zz g ad cn In Fn)) (vp_Si (fun _ => True)) 0 0 (fun _ => False) := by
  refine en_rx rfl pn_RX11 (Nat.le_of_ble_eq_true rfl) (fun p e s m below meth c hx hb hml hown S hr hlocks hnm hP hK hXS hS ls hl => ?_)
  have hl : lv_has ls 4 [(0, .ref (g 0)), (1, .int v0), (2, .int v1)] := hl
  have hb_cn : Hid (CBX cn) := hB
  replace hB : CBXh cn := hB
  refine lv_aload_n hx hb dX11_likely_0 rfl (lvA0 hl) ?_
  refine lv_iload_n hx hb dX11_likely_1 rfl (lvA1 hl) ?_
  refine va_csq (runV_rxa (As := [.int v0]) (rest := []) S (q_XkitchenAt l D cI cB cZ zz qq vv bt g ad cn In Fn v0 hB) kV_RX11_114 hK hXS hS hP 0 xo_0 rfl rfl ⟨Nat.le_of_ble_eq_true rfl, Nat.le_of_ble_eq_true rfl⟩ ⟨Nat.le_of_ble_eq_true rfl, Nat.le_of_ble_eq_true rfl⟩ rfl hl.1 rfl (Nat.le_of_ble_eq_true rfl) dX11_likely_2) (fun r_1 h_2 => ?_)
  rcases h_2 with ⟨mr_1, er_1, hr_1, rfl⟩ | ⟨hr_1, rfl⟩
  ·
    refine lv_astore_n (lv' := [(3, .ref (ad 10 mr_1)), (0, .ref (g 0)), (1, .int v0), (2, .int v1)]) hx hb dX11_likely_5 rfl hl (ltb rfl) rfl (fun ls hl => ?_)
    refine lv_aload_n hx hb dX11_likely_6 rfl (lvA0 hl) ?_
    refine lv_ifnull hx hb dX11_likely_7 ?_
    refine lv_iload_n hx hb dX11_likely_10 rfl (lvA3 hl) ?_
    refine vp_callSi (runS_r (As := [.int v1]) (rest := []) S (q_l_isDay l D cI cB cZ v1) kS_RX11_99 hK hP [] rfl ⟨Nat.le_of_ble_eq_true rfl, Nat.le_of_ble_eq_true rfl⟩ ⟨Nat.le_of_ble_eq_true rfl, Nat.le_of_ble_eq_true rfl⟩ rfl hl.1 rfl (Nat.le_of_ble_eq_true rfl) dX11_likely_11) (fun r_3 h_4 => ?_)
    rcases h_4 with ⟨rfl, h_4⟩ | ⟨rfl, h_4⟩
    ·
      have h_4 : 0 ≤ v1.toInt ∧ v1.toInt ≤ 399 := h_4
      refine lv_if_eq (tgt := 25) hx hb dX11_likely_14 rfl (fun h => absurd h cq_eq_1_0) (fun _ => ?_)
      refine lv_iload_n hx hb dX11_likely_17 rfl (lvA3 hl) ?_
      refine lv_aload_n hx hb dX11_likely_18 rfl (lvA0 hl) ?_
      have kf_1 : mr_1 < cn 10 := by (first | omega | (have zz0 := Hid.u hb_cn; omega))
      refine gf_RX11_118 S hK hP _ (xf_0 kf_1) (v := .int ((Fn 104) mr_1)) rfl dX11_likely_19 ?_
      refine lv_icmp_ge (tgt := 27) hx hb dX11_likely_22 rfl (fun c_5 => ?_) (fun c_5 => ?_)
      ·
        have tc_5 : (((Fn 104) mr_1).toInt : Int) ≤ v1.toInt := Int32.le_iff_toInt_le.mp c_5
        refine lv_aload_n hx hb dX11_likely_27 rfl (lvA0 hl) ?_
        refine lv_iload_n hx hb dX11_likely_28 rfl (lvA3 hl) ?_
        refine lv_aload_n hx hb dX11_likely_29 rfl (lvA0 hl) ?_
        refine gf_RX11_118 S hK hP _ (xf_0 kf_1) (v := .int ((Fn 104) mr_1)) rfl dX11_likely_30 ?_
        refine vp_callSi (runV_rxa (As := [.int v1, .int ((Fn 104) mr_1)]) (rest := []) S (q_XfillOn l D cI cB cZ zz qq vv bt g ad cn In Fn mr_1 v1 ((Fn 104) mr_1) hB (by (first | omega | (have zz0 := Hid.u hb_cn; omega)))) kV_RX11_121 hK hXS hS hP _ (xf_0 kf_1) rfl rfl ⟨Nat.le_of_ble_eq_true rfl, Nat.le_of_ble_eq_true rfl⟩ ⟨Nat.le_of_ble_eq_true rfl, Nat.le_of_ble_eq_true rfl⟩ rfl hl.1 rfl (Nat.le_of_ble_eq_true rfl) dX11_likely_33) (fun r_6 h_7 => ?_)
        subst h_7
        exact W.iret (v := ((if ((Fn 102) mr_1 * (v1 - ((Fn 104) mr_1))) < (Fn 103) mr_1 then (Fn 102) mr_1 * (v1 - ((Fn 104) mr_1)) else (Fn 103) mr_1))) hx hb hr (fun t ht hW => ⟨((if ((Fn 102) mr_1 * (v1 - ((Fn 104) mr_1))) < (Fn 103) mr_1 then (Fn 102) mr_1 * (v1 - ((Fn 104) mr_1)) else (Fn 103) mr_1)), rfl, trivial, ht⟩) (fun _ h => absurd h List.not_mem_nil) dX11_likely_36
      ·
        have tc_5 : (v1.toInt : Int) < ((Fn 104) mr_1).toInt := Int32.lt_iff_toInt_lt.mp (Int32.not_le.mp c_5)
        refine lv_iconst (v := (-1)) hx hb dX11_likely_25 kic_m1 ?_
        exact W.iret (v := (-1)) hx hb hr (fun t ht hW => ⟨(-1), rfl, trivial, ht⟩) (fun _ h => absurd h List.not_mem_nil) dX11_likely_26
    ·
      have h_4 : ¬ (0 ≤ v1.toInt ∧ v1.toInt ≤ 399) := h_4
      refine lv_if_eq (tgt := 25) hx hb dX11_likely_14 rfl (fun _ => ?_) (fun h => absurd h cq_eq_0_0)
      refine lv_iconst (v := (-1)) hx hb dX11_likely_25 kic_m1 ?_
      exact W.iret (v := (-1)) hx hb hr (fun t ht hW => ⟨(-1), rfl, trivial, ht⟩) (fun _ h => absurd h List.not_mem_nil) dX11_likely_26
  ·
    refine lv_astore_nN (lv' := [(3, .null), (0, .ref (g 0)), (1, .int v0), (2, .int v1)]) hx hb dX11_likely_5 rfl hl (ltb rfl) rfl (fun ls hl => ?_)
    refine lv_aload_nN hx hb dX11_likely_6 rfl (lvA0 hl) ?_
    refine lv_ifnullN (tgt := 25) hx hb dX11_likely_7 rfl ?_
    refine lv_iconst (v := (-1)) hx hb dX11_likely_25 kic_m1 ?_
    exact W.iret (v := (-1)) hx hb hr (fun t ht hW => ⟨(-1), rfl, trivial, ht⟩) (fun _ h => absurd h List.not_mem_nil) dX11_likely_26
set_option maxRecDepth 100000 in
set_option maxHeartbeats 4000000 in
theorem q_Xmissing (l : Launch) (D : va_G) (cI cB cZ : ClassId) (zz qq vv : Nat) (bt : Nat → Int32) (g : Nat → Nat) (ad : Nat → Nat → Nat) (cn : Nat → Nat) (In : Nat → Int32) (Fn : Nat → Nat → Int32) (v0 : Int32) (hB : CBX cn) : Met l yX11_missing (CWS yX11_missing cX11_missing 3 (some .int)) (RM 4 0 0) (PBrx [.ref (g 0), .int v0] D cI cB cZ zz qq vv bt (wX cI (D.1 99) zz g ad cn In Fn)) (vp_Si (fun _ => True)) 0 0 (fun _ => False) := by
  refine en_rx rfl pn_RX11 (Nat.le_of_ble_eq_true rfl) (fun p e s m below meth c hx hb hml hown S hr hlocks hnm hP hK hXS hS ls hl => ?_)
  have hl : lv_has ls 3 [(0, .ref (g 0)), (1, .int v0)] := hl
  have hb_cn : Hid (CBX cn) := hB
  replace hB : CBXh cn := hB
  refine lv_aload_n hx hb dX11_missing_0 rfl (lvA0 hl) ?_
  refine lv_iload_n hx hb dX11_missing_1 rfl (lvA1 hl) ?_
  refine va_csq (runV_rxa (As := [.int v0]) (rest := []) S (q_XloadAt l D cI cB cZ zz qq vv bt g ad cn In Fn v0 hB) kV_RX11_148 hK hXS hS hP 0 xo_0 rfl rfl ⟨Nat.le_of_ble_eq_true rfl, Nat.le_of_ble_eq_true rfl⟩ ⟨Nat.le_of_ble_eq_true rfl, Nat.le_of_ble_eq_true rfl⟩ rfl hl.1 rfl (Nat.le_of_ble_eq_true rfl) dX11_missing_2) (fun r_1 h_2 => ?_)
  rcases h_2 with ⟨mr_1, er_1, hr_1, rfl⟩ | ⟨hr_1, rfl⟩
  ·
    refine lv_astore_n (lv' := [(2, .ref (ad 11 mr_1)), (0, .ref (g 0)), (1, .int v0)]) hx hb dX11_missing_5 rfl hl (ltb rfl) rfl (fun ls hl => ?_)
    refine lv_aload_n hx hb dX11_missing_6 rfl (lvA0 hl) ?_
    refine lv_ifnonnull (tgt := 14) hx hb dX11_missing_7 rfl ?_
    refine lv_aload_n hx hb dX11_missing_14 rfl (lvA0 hl) ?_
    have kf_1 : mr_1 < cn 11 := by (first | omega | (have zz0 := Hid.u hb_cn; omega))
    refine gf_RX11_141 S hK hP _ (xf_1 kf_1) (v := .int ((Fn 128) mr_1)) rfl dX11_missing_15 ?_
    exact W.iret (v := ((Fn 128) mr_1)) hx hb hr (fun t ht hW => ⟨((Fn 128) mr_1), rfl, trivial, ht⟩) (fun _ h => absurd h List.not_mem_nil) dX11_missing_18
  ·
    refine lv_astore_nN (lv' := [(2, .null), (0, .ref (g 0)), (1, .int v0)]) hx hb dX11_missing_5 rfl hl (ltb rfl) rfl (fun ls hl => ?_)
    refine lv_aload_nN hx hb dX11_missing_6 rfl (lvA0 hl) ?_
    refine lv_ifnonnullN hx hb dX11_missing_7 ?_
    refine lv_iconst (v := (-1)) hx hb dX11_missing_10 kic_m1 ?_
    refine lv_goto (tgt := 18) hx hb dX11_missing_11 rfl ?_
    exact W.iret (v := (-1)) hx hb hr (fun t ht hW => ⟨(-1), rfl, trivial, ht⟩) (fun _ h => absurd h List.not_mem_nil) dX11_missing_18
set_option maxRecDepth 100000 in
set_option maxHeartbeats 4000000 in
theorem q_Xstreet (l : Launch) (D : va_G) (cI cB cZ : ClassId) (zz qq vv : Nat) (bt : Nat → Int32) (g : Nat → Nat) (ad : Nat → Nat → Nat) (cn : Nat → Nat) (In : Nat → Int32) (Fn : Nat → Nat → Int32) (v0 v1 : Int32) (sz : Nat) (hB : CBX cn) : Met l yX11_street (CWS yX11_street cX11_street 4 (some .boolean)) (RM 4 0 0) (PBx [.ref (g 0), .int v0, .int v1] D cI cB cZ zz qq vv bt (wX cI (D.1 99) zz g ad cn In Fn) sz) (va_Qi (fun (r : Int32) (u : (Nat → Nat) × (Nat → Int32) × (Nat → Nat → Int32)) => (fun r c2 I2 F2 => Fr [] [] [109] cn In Fn c2 I2 F2 ∧ CBX c2 ∧ (True)) r u.1 u.2.1 u.2.2) (fun (u : (Nat → Nat) × (Nat → Int32) × (Nat → Nat → Int32)) (t : State) => va_P D vwCl (wX cI (D.1 99) zz g ad u.1 u.2.1 u.2.2) t.heap ∧ va_D (va_A (wX cI (D.1 99) zz g ad cn In Fn) sz) (wX cI (D.1 99) zz g ad u.1 u.2.1 u.2.2)) (va_A (wX cI (D.1 99) zz g ad cn In Fn) sz)) 0 0 (va_A (wX cI (D.1 99) zz g ad cn In Fn) sz) := by
  refine en_x (fun A => (va_Qi (fun (r : Int32) (u : (Nat → Nat) × (Nat → Int32) × (Nat → Nat → Int32)) => (fun (r : Int32) (c2 : Nat → Nat) (I2 : Nat → Int32) (F2 : Nat → Nat → Int32) => Fr [] [] [109] cn In Fn c2 I2 F2 ∧ CBX c2 ∧ (True)) r u.1 u.2.1 u.2.2) (fun (u : (Nat → Nat) × (Nat → Int32) × (Nat → Nat → Int32)) (t : State) => va_P D vwCl (wX cI (D.1 99) zz g ad u.1 u.2.1 u.2.2) t.heap ∧ va_D A (wX cI (D.1 99) zz g ad u.1 u.2.1 u.2.2)) A)) rfl rfl pn_RX11 (Nat.le_of_ble_eq_true rfl) (fun p e s m below meth c A hx hb hml hown S hr hlocks hnm hA hP hK hD hXS hS ls hl => ?_)
  have hl : lv_has ls 4 [(0, .ref (g 0)), (1, .int v0), (2, .int v1)] := hl
  have hb_cn : Hid (CBX cn) := hB
  replace hB : CBXh cn := hB
  refine lv_aload_n hx hb dX11_street_0 rfl (lvA0 hl) ?_
  refine lv_iload_n hx hb dX11_street_1 rfl (lvA1 hl) ?_
  refine va_csq (runV_rxa (As := [.int v0]) (rest := []) S (q_XkitchenAt l D cI cB cZ zz qq vv bt g ad cn In Fn v0 hB) kV_RX11_114 hK hXS hS hP 0 xo_0 rfl rfl ⟨Nat.le_of_ble_eq_true rfl, Nat.le_of_ble_eq_true rfl⟩ ⟨Nat.le_of_ble_eq_true rfl, Nat.le_of_ble_eq_true rfl⟩ rfl hl.1 rfl (Nat.le_of_ble_eq_true rfl) dX11_street_2) (fun r_1 h_2 => ?_)
  rcases h_2 with ⟨mr_1, er_1, hr_1, rfl⟩ | ⟨hr_1, rfl⟩
  ·
    refine lv_astore_n (lv' := [(3, .ref (ad 10 mr_1)), (0, .ref (g 0)), (1, .int v0), (2, .int v1)]) hx hb dX11_street_5 rfl hl (ltb rfl) rfl (fun ls hl => ?_)
    refine lv_aload_n hx hb dX11_street_6 rfl (lvA0 hl) ?_
    refine lv_ifnull hx hb dX11_street_7 ?_
    refine lv_iload_n hx hb dX11_street_10 rfl (lvA3 hl) ?_
    refine lv_iconst (v := 0) hx hb dX11_street_11 kic_0 ?_
    refine lv_bipush (v := 9) hx hb dX11_street_12 kbc_9 ?_
    refine vp_callSi (runS_r (As := [.int v1, .int 0, .int 9]) (rest := []) S (q_l_within l D cI cB cZ v1 0 9) kS_RX11_80 hK hP [] rfl ⟨Nat.le_of_ble_eq_true rfl, Nat.le_of_ble_eq_true rfl⟩ ⟨Nat.le_of_ble_eq_true rfl, Nat.le_of_ble_eq_true rfl⟩ rfl hl.1 rfl (Nat.le_of_ble_eq_true rfl) dX11_street_14) (fun r_3 h_4 => ?_)
    rcases h_4 with ⟨rfl, h_4⟩ | ⟨rfl, h_4⟩
    ·
      have h_4 : 0 ≤ v1.toInt ∧ v1.toInt ≤ 9 := h_4
      refine lv_if_ne (tgt := 22) hx hb dX11_street_17 rfl (fun _ => ?_) (fun h => absurd h cq_eq_1_0)
      refine lv_aload_n hx hb dX11_street_22 rfl (lvA0 hl) ?_
      refine lv_iload_n hx hb dX11_street_23 rfl (lvA3 hl) ?_
      have kf_1 : mr_1 < cn 10 := by (first | omega | (have zz0 := Hid.u hb_cn; omega))
      refine pf_RX11_260 S hK hP hD hS _ (xf_0 kf_1) (v := .int v1) (Nat.le_of_ble_eq_true rfl) rfl rfl dX11_street_24 (fun H locs hP hD hS => ?_)
      have hP : va_P D vwCl (wX cI (D.1 99) zz g ad cn In (va_up Fn 109 (upd (Fn 109) mr_1 v1))) H := va_P_eq (xs_109 (by (first | omega | (have zz0 := Hid.u hb_cn; omega)))) hP
      have hD : va_D A (wX cI (D.1 99) zz g ad cn In (va_up Fn 109 (upd (Fn 109) mr_1 v1))) := va_D_eq (xs_109 (by (first | omega | (have zz0 := Hid.u hb_cn; omega)))) hD
      refine lv_iconst (v := 1) hx hb dX11_street_27 kic_1 ?_
      exact W.zret (v := 1) hx hb hr rfl (fun t ht hW => ⟨⟨1, (cn, In, (va_up Fn 109 (upd (Fn 109) mr_1 v1))), rfl, ⟨(Fr.mo (Fr.f 109 Fr.rf) (sbl rfl) (sbl rfl) (sbl rfl)), hB, trivial⟩, by rw [ht]; exact hP, hD⟩, hS.F ht⟩) hS.2.2 dX11_street_28
    ·
      have h_4 : ¬ (0 ≤ v1.toInt ∧ v1.toInt ≤ 9) := h_4
      refine lv_if_ne (tgt := 22) hx hb dX11_street_17 rfl (fun h => absurd h cq_eq_0_0) (fun _ => ?_)
      refine lv_iconst (v := 0) hx hb dX11_street_20 kic_0 ?_
      exact W.zret (v := 0) hx hb hr rfl (fun t ht hW => ⟨⟨0, (cn, In, Fn), rfl, ⟨(Fr.mo Fr.rf (sbl rfl) (sbl rfl) (sbl rfl)), hB, trivial⟩, by rw [ht]; exact hP, hD⟩, hS.F ht⟩) hS.2.2 dX11_street_21
  ·
    refine lv_astore_nN (lv' := [(3, .null), (0, .ref (g 0)), (1, .int v0), (2, .int v1)]) hx hb dX11_street_5 rfl hl (ltb rfl) rfl (fun ls hl => ?_)
    refine lv_aload_nN hx hb dX11_street_6 rfl (lvA0 hl) ?_
    refine lv_ifnullN (tgt := 20) hx hb dX11_street_7 rfl ?_
    refine lv_iconst (v := 0) hx hb dX11_street_20 kic_0 ?_
    exact W.zret (v := 0) hx hb hr rfl (fun t ht hW => ⟨⟨0, (cn, In, Fn), rfl, ⟨(Fr.mo Fr.rf (sbl rfl) (sbl rfl) (sbl rfl)), hB, trivial⟩, by rw [ht]; exact hP, hD⟩, hS.F ht⟩) hS.2.2 dX11_street_21
set_option maxRecDepth 100000 in
set_option maxHeartbeats 4000000 in
theorem q_Xoffers (l : Launch) (D : va_G) (cI cB cZ : ClassId) (zz qq vv : Nat) (bt : Nat → Int32) (g : Nat → Nat) (ad : Nat → Nat → Nat) (cn : Nat → Nat) (In : Nat → Int32) (Fn : Nat → Nat → Int32) (v0 v1 v2 : Int32) (sz : Nat) (hB : CBX cn) : Met l yX11_offers (CWS yX11_offers cX11_offers 5 (some .boolean)) (RM 4 0 0) (PBx [.ref (g 0), .int v0, .int v1, .int v2] D cI cB cZ zz qq vv bt (wX cI (D.1 99) zz g ad cn In Fn) sz) (va_Qi (fun (r : Int32) (u : (Nat → Nat) × (Nat → Int32) × (Nat → Nat → Int32)) => (fun r c2 I2 F2 => Fr [] [] [107, 108] cn In Fn c2 I2 F2 ∧ CBX c2 ∧ (True)) r u.1 u.2.1 u.2.2) (fun (u : (Nat → Nat) × (Nat → Int32) × (Nat → Nat → Int32)) (t : State) => va_P D vwCl (wX cI (D.1 99) zz g ad u.1 u.2.1 u.2.2) t.heap ∧ va_D (va_A (wX cI (D.1 99) zz g ad cn In Fn) sz) (wX cI (D.1 99) zz g ad u.1 u.2.1 u.2.2)) (va_A (wX cI (D.1 99) zz g ad cn In Fn) sz)) 0 0 (va_A (wX cI (D.1 99) zz g ad cn In Fn) sz) := by
  refine en_x (fun A => (va_Qi (fun (r : Int32) (u : (Nat → Nat) × (Nat → Int32) × (Nat → Nat → Int32)) => (fun (r : Int32) (c2 : Nat → Nat) (I2 : Nat → Int32) (F2 : Nat → Nat → Int32) => Fr [] [] [107, 108] cn In Fn c2 I2 F2 ∧ CBX c2 ∧ (True)) r u.1 u.2.1 u.2.2) (fun (u : (Nat → Nat) × (Nat → Int32) × (Nat → Nat → Int32)) (t : State) => va_P D vwCl (wX cI (D.1 99) zz g ad u.1 u.2.1 u.2.2) t.heap ∧ va_D A (wX cI (D.1 99) zz g ad u.1 u.2.1 u.2.2)) A)) rfl rfl pn_RX11 (Nat.le_of_ble_eq_true rfl) (fun p e s m below meth c A hx hb hml hown S hr hlocks hnm hA hP hK hD hXS hS ls hl => ?_)
  have hl : lv_has ls 5 [(0, .ref (g 0)), (1, .int v0), (2, .int v1), (3, .int v2)] := hl
  have hb_cn : Hid (CBX cn) := hB
  replace hB : CBXh cn := hB
  refine lv_aload_n hx hb dX11_offers_0 rfl (lvA0 hl) ?_
  refine lv_iload_n hx hb dX11_offers_1 rfl (lvA1 hl) ?_
  refine va_csq (runV_rxa (As := [.int v0]) (rest := []) S (q_XkitchenAt l D cI cB cZ zz qq vv bt g ad cn In Fn v0 hB) kV_RX11_114 hK hXS hS hP 0 xo_0 rfl rfl ⟨Nat.le_of_ble_eq_true rfl, Nat.le_of_ble_eq_true rfl⟩ ⟨Nat.le_of_ble_eq_true rfl, Nat.le_of_ble_eq_true rfl⟩ rfl hl.1 rfl (Nat.le_of_ble_eq_true rfl) dX11_offers_2) (fun r_1 h_2 => ?_)
  rcases h_2 with ⟨mr_1, er_1, hr_1, rfl⟩ | ⟨hr_1, rfl⟩
  ·
    refine lv_astore (lv' := [(4, .ref (ad 10 mr_1)), (0, .ref (g 0)), (1, .int v0), (2, .int v1), (3, .int v2)]) hx hb dX11_offers_5 hl (ltb rfl) rfl (fun ls hl => ?_)
    refine lv_aload hx hb dX11_offers_7 (lvA0 hl) ?_
    refine lv_ifnull hx hb dX11_offers_9 ?_
    refine lv_iload_n hx hb dX11_offers_12 rfl (lvA3 hl) ?_
    refine lv_iconst (v := 0) hx hb dX11_offers_13 kic_0 ?_
    refine lv_sipush (v := 200) hx hb dX11_offers_14 (by decide) ?_
    refine vp_callSi (runS_r (As := [.int v1, .int 0, .int 200]) (rest := []) S (q_l_within l D cI cB cZ v1 0 200) kS_RX11_80 hK hP [] rfl ⟨Nat.le_of_ble_eq_true rfl, Nat.le_of_ble_eq_true rfl⟩ ⟨Nat.le_of_ble_eq_true rfl, Nat.le_of_ble_eq_true rfl⟩ rfl hl.1 rfl (Nat.le_of_ble_eq_true rfl) dX11_offers_17) (fun r_3 h_4 => ?_)
    rcases h_4 with ⟨rfl, h_4⟩ | ⟨rfl, h_4⟩
    ·
      have h_4 : 0 ≤ v1.toInt ∧ v1.toInt ≤ 200 := h_4
      refine lv_if_eq (tgt := 34) hx hb dX11_offers_20 rfl (fun h => absurd h cq_eq_1_0) (fun _ => ?_)
      refine lv_iload_n hx hb dX11_offers_23 rfl (lvA4 hl) ?_
      refine lv_iconst (v := 0) hx hb dX11_offers_24 kic_0 ?_
      refine lv_sipush (v := 200) hx hb dX11_offers_25 (by decide) ?_
      refine vp_callSi (runS_r (As := [.int v2, .int 0, .int 200]) (rest := []) S (q_l_within l D cI cB cZ v2 0 200) kS_RX11_80 hK hP [] rfl ⟨Nat.le_of_ble_eq_true rfl, Nat.le_of_ble_eq_true rfl⟩ ⟨Nat.le_of_ble_eq_true rfl, Nat.le_of_ble_eq_true rfl⟩ rfl hl.1 rfl (Nat.le_of_ble_eq_true rfl) dX11_offers_28) (fun r_5 h_6 => ?_)
      rcases h_6 with ⟨rfl, h_6⟩ | ⟨rfl, h_6⟩
      ·
        have h_6 : 0 ≤ v2.toInt ∧ v2.toInt ≤ 200 := h_6
        refine lv_if_ne (tgt := 36) hx hb dX11_offers_31 rfl (fun _ => ?_) (fun h => absurd h cq_eq_1_0)
        refine lv_aload hx hb dX11_offers_36 (lvA0 hl) ?_
        refine lv_iload_n hx hb dX11_offers_38 rfl (lvA3 hl) ?_
        have kf_1 : mr_1 < cn 10 := by (first | omega | (have zz0 := Hid.u hb_cn; omega))
        refine pf_RX11_450 S hK hP hD hS _ (xf_0 kf_1) (v := .int v1) (Nat.le_of_ble_eq_true rfl) rfl rfl dX11_offers_39 (fun H locs hP hD hS => ?_)
        have hP : va_P D vwCl (wX cI (D.1 99) zz g ad cn In (va_up Fn 107 (upd (Fn 107) mr_1 v1))) H := va_P_eq (xs_107 (by (first | omega | (have zz0 := Hid.u hb_cn; omega)))) hP
        have hD : va_D A (wX cI (D.1 99) zz g ad cn In (va_up Fn 107 (upd (Fn 107) mr_1 v1))) := va_D_eq (xs_107 (by (first | omega | (have zz0 := Hid.u hb_cn; omega)))) hD
        refine lv_aload hx hb dX11_offers_42 (lvA0 hl) ?_
        refine lv_iload_n hx hb dX11_offers_44 rfl (lvA4 hl) ?_
        refine pf_RX11_453 S hK hP hD hS _ (xf_0 kf_1) (v := .int v2) (Nat.le_of_ble_eq_true rfl) rfl rfl dX11_offers_45 (fun H locs hP hD hS => ?_)
        have hP : va_P D vwCl (wX cI (D.1 99) zz g ad cn In (va_up (va_up Fn 107 (upd (Fn 107) mr_1 v1)) 108 (upd (Fn 108) mr_1 v2))) H := va_P_eq (xs_108 (by (first | omega | (have zz0 := Hid.u hb_cn; omega)))) hP
        have hD : va_D A (wX cI (D.1 99) zz g ad cn In (va_up (va_up Fn 107 (upd (Fn 107) mr_1 v1)) 108 (upd (Fn 108) mr_1 v2))) := va_D_eq (xs_108 (by (first | omega | (have zz0 := Hid.u hb_cn; omega)))) hD
        refine lv_iconst (v := 1) hx hb dX11_offers_48 kic_1 ?_
        exact W.zret (v := 1) hx hb hr rfl (fun t ht hW => ⟨⟨1, (cn, In, (va_up (va_up Fn 107 (upd (Fn 107) mr_1 v1)) 108 (upd (Fn 108) mr_1 v2))), rfl, ⟨(Fr.mo (Fr.f 108 (Fr.f 107 Fr.rf)) (sbl rfl) (sbl rfl) (sbl rfl)), hB, trivial⟩, by rw [ht]; exact hP, hD⟩, hS.F ht⟩) hS.2.2 dX11_offers_49
      ·
        have h_6 : ¬ (0 ≤ v2.toInt ∧ v2.toInt ≤ 200) := h_6
        refine lv_if_ne (tgt := 36) hx hb dX11_offers_31 rfl (fun h => absurd h cq_eq_0_0) (fun _ => ?_)
        refine lv_iconst (v := 0) hx hb dX11_offers_34 kic_0 ?_
        exact W.zret (v := 0) hx hb hr rfl (fun t ht hW => ⟨⟨0, (cn, In, Fn), rfl, ⟨(Fr.mo Fr.rf (sbl rfl) (sbl rfl) (sbl rfl)), hB, trivial⟩, by rw [ht]; exact hP, hD⟩, hS.F ht⟩) hS.2.2 dX11_offers_35
    ·
      have h_4 : ¬ (0 ≤ v1.toInt ∧ v1.toInt ≤ 200) := h_4
      refine lv_if_eq (tgt := 34) hx hb dX11_offers_20 rfl (fun _ => ?_) (fun h => absurd h cq_eq_0_0)
      refine lv_iconst (v := 0) hx hb dX11_offers_34 kic_0 ?_
      exact W.zret (v := 0) hx hb hr rfl (fun t ht hW => ⟨⟨0, (cn, In, Fn), rfl, ⟨(Fr.mo Fr.rf (sbl rfl) (sbl rfl) (sbl rfl)), hB, trivial⟩, by rw [ht]; exact hP, hD⟩, hS.F ht⟩) hS.2.2 dX11_offers_35
  ·
    refine lv_astoreN (lv' := [(4, .null), (0, .ref (g 0)), (1, .int v0), (2, .int v1), (3, .int v2)]) hx hb dX11_offers_5 hl (ltb rfl) rfl (fun ls hl => ?_)
    refine lv_aloadN hx hb dX11_offers_7 (lvA0 hl) ?_
    refine lv_ifnullN (tgt := 34) hx hb dX11_offers_9 rfl ?_
    refine lv_iconst (v := 0) hx hb dX11_offers_34 kic_0 ?_
    exact W.zret (v := 0) hx hb hr rfl (fun t ht hW => ⟨⟨0, (cn, In, Fn), rfl, ⟨(Fr.mo Fr.rf (sbl rfl) (sbl rfl) (sbl rfl)), hB, trivial⟩, by rw [ht]; exact hP, hD⟩, hS.F ht⟩) hS.2.2 dX11_offers_35
set_option maxRecDepth 100000 in
set_option maxHeartbeats 4000000 in
theorem q_Xway (l : Launch) (D : va_G) (cI cB cZ : ClassId) (v0 v1 v2 v3 : Int32)  : Met l yX10_way (CWS yX10_way cX10_way 4 (some .int)) (RM 1 0 0) (PBr [.int v0, .int v1, .int v2, .int v3] D cI cB cZ []) (vp_Si (fun _ => True)) 0 0 (fun _ => False) := by
  refine en_r rfl pn_RX10 (Nat.le_of_ble_eq_true rfl) (fun p e s m below meth c hx hb hml hown S hr hlocks hnm hP hK hS ls hl => ?_)
  have hl : lv_has ls 4 [(0, .int v0), (1, .int v1), (2, .int v2), (3, .int v3)] := hl
  refine lv_iload_n hx hb dX10_way_0 rfl (lvA0 hl) ?_
  refine lv_iload_n hx hb dX10_way_1 rfl (lvA2 hl) ?_
  refine lv_isub hx hb dX10_way_2 ?_
  refine va_mabs hx hb (by rw [hml]; exact hl.1.symm) hown (S.2.2.2.2 _ (wk4_10 4 rfl rfl)) (S.2.2.2.2 _ (wk4_10 5 rfl rfl)) (S.2.2.2.2 _ (wk1_0 3 rfl rfl)) (S.2.2.2.2 _ (wk4_10 6 rfl rfl)) (Nat.le_of_ble_eq_true rfl) (Nat.le_of_ble_eq_true rfl) (Nat.le_of_ble_eq_true rfl) (Nat.le_of_ble_eq_true rfl) dX10_way_3 ?_
  refine lv_iload_n hx hb dX10_way_6 rfl (lvA1 hl) ?_
  refine lv_iload_n hx hb dX10_way_7 rfl (lvA3 hl) ?_
  refine lv_isub hx hb dX10_way_8 ?_
  refine va_mabs hx hb (by rw [hml]; exact hl.1.symm) hown (S.2.2.2.2 _ (wk4_10 4 rfl rfl)) (S.2.2.2.2 _ (wk4_10 5 rfl rfl)) (S.2.2.2.2 _ (wk1_0 3 rfl rfl)) (S.2.2.2.2 _ (wk4_10 6 rfl rfl)) (Nat.le_of_ble_eq_true rfl) (Nat.le_of_ble_eq_true rfl) (Nat.le_of_ble_eq_true rfl) (Nat.le_of_ble_eq_true rfl) dX10_way_9 ?_
  refine lv_iadd hx hb dX10_way_12 ?_
  exact W.iret (v := ((if 0 ≤ (v0 - v2) then (v0 - v2) else 0 - (v0 - v2)) + (if 0 ≤ (v1 - v3) then (v1 - v3) else 0 - (v1 - v3)))) hx hb hr (fun t ht hW => ⟨((if 0 ≤ (v0 - v2) then (v0 - v2) else 0 - (v0 - v2)) + (if 0 ≤ (v1 - v3) then (v1 - v3) else 0 - (v1 - v3))), rfl, trivial, ht⟩) (fun _ h => absurd h List.not_mem_nil) dX10_way_13
set_option maxRecDepth 100000 in
set_option maxHeartbeats 4000000 in
theorem q_Xwclear (l : Launch) (D : va_G) (cI cB cZ : ClassId) (zz qq vv : Nat) (bt : Nat → Int32) (g : Nat → Nat) (ad : Nat → Nat → Nat) (cn : Nat → Nat) (In : Nat → Int32) (Fn : Nat → Nat → Int32)  (sz : Nat) (hB : CBX cn) : Met l yX10_clear (CWS yX10_clear cX10_clear 1 none) (RM 0 0 0) (PBx [.ref (g 9)] D cI cB cZ zz qq vv bt (wX cI (D.1 99) zz g ad cn In Fn) sz) (va_Qv (fun (u : (Nat → Nat) × (Nat → Int32) × (Nat → Nat → Int32)) => (fun c2 I2 F2 => (∀ k : Nat, k ∉ [] → I2 k = In k) ∧ (((True) ∧ (va_up cn 4 0) = c2 ∧ Fn = F2))) u.1 u.2.1 u.2.2) (fun (u : (Nat → Nat) × (Nat → Int32) × (Nat → Nat → Int32)) (t : State) => va_P D vwCl (wX cI (D.1 99) zz g ad u.1 u.2.1 u.2.2) t.heap ∧ va_D (va_A (wX cI (D.1 99) zz g ad cn In Fn) sz) (wX cI (D.1 99) zz g ad u.1 u.2.1 u.2.2)) (va_A (wX cI (D.1 99) zz g ad cn In Fn) sz)) 0 0 (va_A (wX cI (D.1 99) zz g ad cn In Fn) sz) := by
  refine en_x (fun A => (va_Qv (fun (u : (Nat → Nat) × (Nat → Int32) × (Nat → Nat → Int32)) => (fun (c2 : Nat → Nat) (I2 : Nat → Int32) (F2 : Nat → Nat → Int32) => (∀ k : Nat, k ∉ [] → I2 k = In k) ∧ (((True) ∧ (va_up cn 4 0) = c2 ∧ Fn = F2))) u.1 u.2.1 u.2.2) (fun (u : (Nat → Nat) × (Nat → Int32) × (Nat → Nat → Int32)) (t : State) => va_P D vwCl (wX cI (D.1 99) zz g ad u.1 u.2.1 u.2.2) t.heap ∧ va_D A (wX cI (D.1 99) zz g ad u.1 u.2.1 u.2.2)) A)) rfl rfl pn_RX10 (Nat.le_of_ble_eq_true rfl) (fun p e s m below meth c A hx hb hml hown S hr hlocks hnm hA hP hK hD hXS hS ls hl => ?_)
  have hl : lv_has ls 1 [(0, .ref (g 9))] := hl
  have hb_cn : Hid (CBX cn) := hB
  replace hB : CBXh cn := hB
  refine lv_aload_n hx hb dX10_clear_0 rfl (lvA0 hl) ?_
  refine lv_iconst (v := 0) hx hb dX10_clear_1 kic_0 ?_
  refine pf_RX10_36 S hK hP hD hS 17 xo_17 (v := .int 0) (Nat.le_of_ble_eq_true rfl) rfl rfl dX10_clear_2 (fun H locs hP hD hS => ?_)
  have hP : va_P D vwCl (wX cI (D.1 99) zz g ad (va_up cn 4 0) In Fn) H := va_P_eq (xsf_17_6) hP
  have hD : va_D A (wX cI (D.1 99) zz g ad (va_up cn 4 0) In Fn) := va_D_eq (xsf_17_6) hD
  exact W.vret hx hb hr (fun t ht hW => ⟨⟨((va_up cn 4 0), In, Fn), rfl, ⟨(show Fr [4] [] [] cn In Fn (va_up cn 4 0) In Fn from Fr.mo (Fr.c 4 (Fr.rf (cn := cn) (In := In) (Fn := Fn))) (sbl rfl) (sbl rfl) (sbl rfl)).2.1, ⟨(by first | trivial | (first | omega | (have zz0 := Hid.u hb_cn; omega)) | (simp only [zd0]; (first | omega | (have zz0 := Hid.u hb_cn; omega)))), (by first | rfl | simp only [zd0] | simp only [zd0, zd1]), (by first | rfl | simp only [zd0] | simp only [zd0, zd1])⟩⟩, by rw [ht]; exact hP, hD⟩, hS.F ht⟩) hS.2.2 dX10_clear_5
set_option maxRecDepth 100000 in
set_option maxHeartbeats 4000000 in
theorem q_Xwadd (l : Launch) (D : va_G) (cI cB cZ : ClassId) (zz qq vv : Nat) (bt : Nat → Int32) (g : Nat → Nat) (ad : Nat → Nat → Nat) (cn : Nat → Nat) (In : Nat → Int32) (Fn : Nat → Nat → Int32) (v0 : Int32) (k0 : Nat) (v2 : Int32) (sz : Nat) (hB : CBX cn) (hk : k0 < cn 10) (h4 : cn 4 < 8) : Met l yX10_add (CWS yX10_add cX10_add 4 none) (RM 1 0 0) (PBx [.ref (g 9), .int v0, .ref (ad 10 k0), .int v2] D cI cB cZ zz qq vv bt (wX cI (D.1 99) zz g ad cn In Fn) sz) (va_Qv (fun (u : (Nat → Nat) × (Nat → Int32) × (Nat → Nat → Int32)) => (fun c2 I2 F2 => Fr [4] [] [30, 31, 32, 33] cn In Fn c2 I2 F2 ∧ CBX c2 ∧ (c2 4 = cn 4 + 1)) u.1 u.2.1 u.2.2) (fun (u : (Nat → Nat) × (Nat → Int32) × (Nat → Nat → Int32)) (t : State) => va_P D vwCl (wX cI (D.1 99) zz g ad u.1 u.2.1 u.2.2) t.heap ∧ va_D (va_A (wX cI (D.1 99) zz g ad cn In Fn) sz) (wX cI (D.1 99) zz g ad u.1 u.2.1 u.2.2)) (va_A (wX cI (D.1 99) zz g ad cn In Fn) sz)) 0 0 (va_A (wX cI (D.1 99) zz g ad cn In Fn) sz) := by
  refine en_x (fun A => (va_Qv (fun (u : (Nat → Nat) × (Nat → Int32) × (Nat → Nat → Int32)) => (fun (c2 : Nat → Nat) (I2 : Nat → Int32) (F2 : Nat → Nat → Int32) => Fr [4] [] [30, 31, 32, 33] cn In Fn c2 I2 F2 ∧ CBX c2 ∧ (c2 4 = cn 4 + 1)) u.1 u.2.1 u.2.2) (fun (u : (Nat → Nat) × (Nat → Int32) × (Nat → Nat → Int32)) (t : State) => va_P D vwCl (wX cI (D.1 99) zz g ad u.1 u.2.1 u.2.2) t.heap ∧ va_D A (wX cI (D.1 99) zz g ad u.1 u.2.1 u.2.2)) A)) rfl rfl pn_RX10 (Nat.le_of_ble_eq_true rfl) (fun p e s m below meth c A hx hb hml hown S hr hlocks hnm hA hP hK hD hXS hS ls hl => ?_)
  have hl : lv_has ls 4 [(0, .ref (g 9)), (1, .int v0), (2, .ref (ad 10 k0)), (3, .int v2)] := hl
  have hb_cn : Hid (CBX cn) := hB
  replace hB : CBXh cn := hB
  refine lv_aload_n hx hb dX10_add_0 rfl (lvA0 hl) ?_
  refine gf_RX10_9 S hK hP 17 xo_17 (v := .ref (g 30)) rfl dX10_add_1 ?_
  refine lv_aload_n hx hb dX10_add_4 rfl (lvA0 hl) ?_
  refine gf_RX10_36 S hK hP 17 xo_17 (v := .int (nI (cn 4))) rfl dX10_add_5 ?_
  refine lv_iload_n hx hb dX10_add_8 rfl (lvA1 hl) ?_
  have hFc := va_free (wc := [((g 30), .inl (cI, 8, .inl (Fn 30)))]) hD hS hA [18] (one_im xo_18)
  refine va_callv (runS_w (As := [.ref (g 30), .int (nI (cn 4)), .int v0]) (rest := []) S (q_l_put l D cI cB cZ (g 30) 8 (Fn 30) (nI (cn 4)) v0 s.heap.size (by (first | omega | (have zz0 := Hid.u hb_cn; omega)))) kS_RX10_40 hK hP hD [18] (one_is xo_18) (one_im xo_18) rfl ⟨Nat.le_of_ble_eq_true rfl, Nat.le_of_ble_eq_true rfl⟩ ⟨Nat.le_of_ble_eq_true rfl, Nat.le_of_ble_eq_true rfl⟩ rfl hl.1 rfl (Nat.le_of_ble_eq_true rfl) dX10_add_9) hS (fun q _ h => hFc q h) hFc (fun u_3 t H1 locs ht hvm h_2 hB1 hz1 hk1 hS => ?_)
  obtain ⟨hP1, hD1⟩ := hB1
  rw [ht] at hP1
  obtain ⟨hP, hD⟩ := wset1 hP hD xo_18 hk1 hP1
  obtain rfl : u_3 = (putM (Fn 30) 8 (nI (cn 4)) v0) := h_2
  generalize H1 = H at hP hS ⊢
  have hP : va_P D vwCl (wX cI (D.1 99) zz g ad cn In (va_up Fn 30 (putM (Fn 30) 8 (nI (cn 4)) v0))) H := va_P_eq xsa_18 hP
  have hD : va_D A (wX cI (D.1 99) zz g ad cn In (va_up Fn 30 (putM (Fn 30) 8 (nI (cn 4)) v0))) := va_D_eq xsa_18 hD
  refine lv_aload_n hx hb dX10_add_12 rfl (lvA0 hl) ?_
  refine gf_RX10_15 S hK hP 17 xo_17 (v := .ref (g 31)) rfl dX10_add_13 ?_
  refine lv_aload_n hx hb dX10_add_16 rfl (lvA0 hl) ?_
  refine gf_RX10_36 S hK hP 17 xo_17 (v := .int (nI (cn 4))) rfl dX10_add_17 ?_
  refine lv_iload_n hx hb dX10_add_20 rfl (lvA3 hl) ?_
  have hFc := va_free (wc := [((g 31), .inl (cI, 8, .inl (Fn 31)))]) hD hS hA [19] (one_im xo_19)
  refine va_callv (runS_w (As := [.ref (g 31), .int (nI (cn 4)), .int v2]) (rest := []) S (q_l_put l D cI cB cZ (g 31) 8 (Fn 31) (nI (cn 4)) v2 H.size (by (first | omega | (have zz0 := Hid.u hb_cn; omega)))) kS_RX10_40 hK hP hD [19] (one_is xo_19) (one_im xo_19) rfl ⟨Nat.le_of_ble_eq_true rfl, Nat.le_of_ble_eq_true rfl⟩ ⟨Nat.le_of_ble_eq_true rfl, Nat.le_of_ble_eq_true rfl⟩ rfl hl.1 rfl (Nat.le_of_ble_eq_true rfl) dX10_add_21) hS (fun q _ h => hFc q h) hFc (fun u_6 t H1 locs ht hvm h_5 hB1 hz1 hk1 hS => ?_)
  obtain ⟨hP1, hD1⟩ := hB1
  rw [ht] at hP1
  obtain ⟨hP, hD⟩ := wset1 hP hD xo_19 hk1 hP1
  obtain rfl : u_6 = (putM (Fn 31) 8 (nI (cn 4)) v2) := h_5
  generalize H1 = H at hP hS ⊢
  have hP : va_P D vwCl (wX cI (D.1 99) zz g ad cn In (va_up (va_up Fn 30 (putM (Fn 30) 8 (nI (cn 4)) v0)) 31 (putM (Fn 31) 8 (nI (cn 4)) v2))) H := va_P_eq xsa_19 hP
  have hD : va_D A (wX cI (D.1 99) zz g ad cn In (va_up (va_up Fn 30 (putM (Fn 30) 8 (nI (cn 4)) v0)) 31 (putM (Fn 31) 8 (nI (cn 4)) v2))) := va_D_eq xsa_19 hD
  refine lv_aload_n hx hb dX10_add_24 rfl (lvA0 hl) ?_
  refine gf_RX10_18 S hK hP 17 xo_17 (v := .ref (g 32)) rfl dX10_add_25 ?_
  refine lv_aload_n hx hb dX10_add_28 rfl (lvA0 hl) ?_
  refine gf_RX10_36 S hK hP 17 xo_17 (v := .int (nI (cn 4))) rfl dX10_add_29 ?_
  refine lv_aload_n hx hb dX10_add_32 rfl (lvA2 hl) ?_
  refine gf_RX10_46 S hK hP _ (xf_0 hk) (v := .int ((Fn 100) k0)) rfl dX10_add_33 ?_
  have hFc := va_free (wc := [((g 32), .inl (cI, 8, .inl (Fn 32)))]) hD hS hA [20] (one_im xo_20)
  refine va_callv (runS_w (As := [.ref (g 32), .int (nI (cn 4)), .int ((Fn 100) k0)]) (rest := []) S (q_l_put l D cI cB cZ (g 32) 8 (Fn 32) (nI (cn 4)) ((Fn 100) k0) H.size (by (first | omega | (have zz0 := Hid.u hb_cn; omega)))) kS_RX10_40 hK hP hD [20] (one_is xo_20) (one_im xo_20) rfl ⟨Nat.le_of_ble_eq_true rfl, Nat.le_of_ble_eq_true rfl⟩ ⟨Nat.le_of_ble_eq_true rfl, Nat.le_of_ble_eq_true rfl⟩ rfl hl.1 rfl (Nat.le_of_ble_eq_true rfl) dX10_add_36) hS (fun q _ h => hFc q h) hFc (fun u_9 t H1 locs ht hvm h_8 hB1 hz1 hk1 hS => ?_)
  obtain ⟨hP1, hD1⟩ := hB1
  rw [ht] at hP1
  obtain ⟨hP, hD⟩ := wset1 hP hD xo_20 hk1 hP1
  obtain rfl : u_9 = (putM (Fn 32) 8 (nI (cn 4)) ((Fn 100) k0)) := h_8
  generalize H1 = H at hP hS ⊢
  have hP : va_P D vwCl (wX cI (D.1 99) zz g ad cn In (va_up (va_up (va_up Fn 30 (putM (Fn 30) 8 (nI (cn 4)) v0)) 31 (putM (Fn 31) 8 (nI (cn 4)) v2)) 32 (putM (Fn 32) 8 (nI (cn 4)) ((Fn 100) k0)))) H := va_P_eq xsa_20 hP
  have hD : va_D A (wX cI (D.1 99) zz g ad cn In (va_up (va_up (va_up Fn 30 (putM (Fn 30) 8 (nI (cn 4)) v0)) 31 (putM (Fn 31) 8 (nI (cn 4)) v2)) 32 (putM (Fn 32) 8 (nI (cn 4)) ((Fn 100) k0)))) := va_D_eq xsa_20 hD
  refine lv_aload_n hx hb dX10_add_39 rfl (lvA0 hl) ?_
  refine gf_RX10_21 S hK hP 17 xo_17 (v := .ref (g 33)) rfl dX10_add_40 ?_
  refine lv_aload_n hx hb dX10_add_43 rfl (lvA0 hl) ?_
  refine gf_RX10_36 S hK hP 17 xo_17 (v := .int (nI (cn 4))) rfl dX10_add_44 ?_
  refine lv_aload_n hx hb dX10_add_47 rfl (lvA2 hl) ?_
  refine gf_RX10_51 S hK hP _ (xf_0 hk) (v := .int ((Fn 101) k0)) rfl dX10_add_48 ?_
  have hFc := va_free (wc := [((g 33), .inl (cI, 8, .inl (Fn 33)))]) hD hS hA [21] (one_im xo_21)
  refine va_callv (runS_w (As := [.ref (g 33), .int (nI (cn 4)), .int ((Fn 101) k0)]) (rest := []) S (q_l_put l D cI cB cZ (g 33) 8 (Fn 33) (nI (cn 4)) ((Fn 101) k0) H.size (by (first | omega | (have zz0 := Hid.u hb_cn; omega)))) kS_RX10_40 hK hP hD [21] (one_is xo_21) (one_im xo_21) rfl ⟨Nat.le_of_ble_eq_true rfl, Nat.le_of_ble_eq_true rfl⟩ ⟨Nat.le_of_ble_eq_true rfl, Nat.le_of_ble_eq_true rfl⟩ rfl hl.1 rfl (Nat.le_of_ble_eq_true rfl) dX10_add_51) hS (fun q _ h => hFc q h) hFc (fun u_12 t H1 locs ht hvm h_11 hB1 hz1 hk1 hS => ?_)
  obtain ⟨hP1, hD1⟩ := hB1
  rw [ht] at hP1
  obtain ⟨hP, hD⟩ := wset1 hP hD xo_21 hk1 hP1
  obtain rfl : u_12 = (putM (Fn 33) 8 (nI (cn 4)) ((Fn 101) k0)) := h_11
  generalize H1 = H at hP hS ⊢
  have hP : va_P D vwCl (wX cI (D.1 99) zz g ad cn In (va_up (va_up (va_up (va_up Fn 30 (putM (Fn 30) 8 (nI (cn 4)) v0)) 31 (putM (Fn 31) 8 (nI (cn 4)) v2)) 32 (putM (Fn 32) 8 (nI (cn 4)) ((Fn 100) k0))) 33 (putM (Fn 33) 8 (nI (cn 4)) ((Fn 101) k0)))) H := va_P_eq xsa_21 hP
  have hD : va_D A (wX cI (D.1 99) zz g ad cn In (va_up (va_up (va_up (va_up Fn 30 (putM (Fn 30) 8 (nI (cn 4)) v0)) 31 (putM (Fn 31) 8 (nI (cn 4)) v2)) 32 (putM (Fn 32) 8 (nI (cn 4)) ((Fn 100) k0))) 33 (putM (Fn 33) 8 (nI (cn 4)) ((Fn 101) k0)))) := va_D_eq xsa_21 hD
  refine lv_aload_n hx hb dX10_add_54 rfl (lvA0 hl) ?_
  refine lv_dup hx hb dX10_add_55 rfl ?_
  refine gf_RX10_36 S hK hP 17 xo_17 (v := .int (nI (cn 4))) rfl dX10_add_56 ?_
  refine lv_iconst (v := 1) hx hb dX10_add_59 kic_1 ?_
  refine lv_iadd hx hb dX10_add_60 ?_
  refine lv_topi (fun y_13 ey_13 => ?_)
  obtain rfl : y_13 = (nI ((cn 4) + 1)) := ey_13.trans (nI_add (cn 4) 1)
  refine pf_RX10_36 S hK hP hD hS 17 xo_17 (v := .int (nI ((cn 4) + 1))) (Nat.le_of_ble_eq_true rfl) rfl rfl dX10_add_61 (fun H locs hP hD hS => ?_)
  have hP : va_P D vwCl (wX cI (D.1 99) zz g ad (va_up cn 4 ((cn 4) + 1)) In (va_up (va_up (va_up (va_up Fn 30 (putM (Fn 30) 8 (nI (cn 4)) v0)) 31 (putM (Fn 31) 8 (nI (cn 4)) v2)) 32 (putM (Fn 32) 8 (nI (cn 4)) ((Fn 100) k0))) 33 (putM (Fn 33) 8 (nI (cn 4)) ((Fn 101) k0)))) H := va_P_eq (xsf_17_6) hP
  have hD : va_D A (wX cI (D.1 99) zz g ad (va_up cn 4 ((cn 4) + 1)) In (va_up (va_up (va_up (va_up Fn 30 (putM (Fn 30) 8 (nI (cn 4)) v0)) 31 (putM (Fn 31) 8 (nI (cn 4)) v2)) 32 (putM (Fn 32) 8 (nI (cn 4)) ((Fn 100) k0))) 33 (putM (Fn 33) 8 (nI (cn 4)) ((Fn 101) k0)))) := va_D_eq (xsf_17_6) hD
  exact W.vret hx hb hr (fun t ht hW => ⟨⟨((va_up cn 4 ((cn 4) + 1)), In, (va_up (va_up (va_up (va_up Fn 30 (putM (Fn 30) 8 (nI (cn 4)) v0)) 31 (putM (Fn 31) 8 (nI (cn 4)) v2)) 32 (putM (Fn 32) 8 (nI (cn 4)) ((Fn 100) k0))) 33 (putM (Fn 33) 8 (nI (cn 4)) ((Fn 101) k0)))), rfl, ⟨(Fr.mo (Fr.f 33 (Fr.f 32 (Fr.f 31 (Fr.f 30 (Fr.c 4 Fr.rf))))) (sbl rfl) (sbl rfl) (sbl rfl)), (CBX.u4 (v := ((cn 4) + 1)) hB (show ((cn 4) + 1) ≤ 8 by (first | omega | (have zz0 := Hid.u hb_cn; omega)))), (by show (va_up cn 4 ((cn 4) + 1)) 4 = cn 4 + 1; rfl)⟩, by rw [ht]; exact hP, hD⟩, hS.F ht⟩) hS.2.2 dX10_add_64
set_option maxRecDepth 100000 in
set_option maxHeartbeats 4000000 in
theorem q_Xbetween (l : Launch) (D : va_G) (cI cB cZ : ClassId) (zz qq vv : Nat) (bt : Nat → Int32) (g : Nat → Nat) (ad : Nat → Nat → Nat) (cn : Nat → Nat) (In : Nat → Int32) (Fn : Nat → Nat → Int32) (v0 v1 : Int32) (hB : CBX cn) : Met l yX10_between (CWS yX10_between cX10_between 3 (some .int)) (RM 2 0 0) (PBrx [.ref (g 9), .int v0, .int v1] D cI cB cZ zz qq vv bt (wX cI (D.1 99) zz g ad cn In Fn)) (vp_Si (fun _ => True)) 0 0 (fun _ => False) := by
  refine en_rx rfl pn_RX10 (Nat.le_of_ble_eq_true rfl) (fun p e s m below meth c hx hb hml hown S hr hlocks hnm hP hK hXS hS ls hl => ?_)
  have hl : lv_has ls 3 [(0, .ref (g 9)), (1, .int v0), (2, .int v1)] := hl
  have hb_cn : Hid (CBX cn) := hB
  replace hB : CBXh cn := hB
  refine lv_aload_n hx hb dX10_between_0 rfl (lvA0 hl) ?_
  refine gf_RX10_18 S hK hP 17 xo_17 (v := .ref (g 32)) rfl dX10_between_1 ?_
  refine lv_iload_n hx hb dX10_between_4 rfl (lvA1 hl) ?_
  refine vp_callSi (runS_r (As := [.ref (g 32), .int v0]) (rest := []) S (q_l_at l D cI cB cZ (g 32) 8 (Fn 32) v0 (by (first | omega | (have zz0 := Hid.u hb_cn; omega)))) kS_RX10_54 hK hP [20] (one_is xo_20) ⟨Nat.le_of_ble_eq_true rfl, Nat.le_of_ble_eq_true rfl⟩ ⟨Nat.le_of_ble_eq_true rfl, Nat.le_of_ble_eq_true rfl⟩ rfl hl.1 rfl (Nat.le_of_ble_eq_true rfl) dX10_between_5) (fun r_1 h_2 => ?_)
  subst h_2
  refine lv_aload_n hx hb dX10_between_8 rfl (lvA0 hl) ?_
  refine gf_RX10_21 S hK hP 17 xo_17 (v := .ref (g 33)) rfl dX10_between_9 ?_
  refine lv_iload_n hx hb dX10_between_12 rfl (lvA1 hl) ?_
  refine vp_callSi (runS_r (As := [.ref (g 33), .int v0]) (rest := [.int (atM (Fn 32) 8 v0)]) S (q_l_at l D cI cB cZ (g 33) 8 (Fn 33) v0 (by (first | omega | (have zz0 := Hid.u hb_cn; omega)))) kS_RX10_54 hK hP [21] (one_is xo_21) ⟨Nat.le_of_ble_eq_true rfl, Nat.le_of_ble_eq_true rfl⟩ ⟨Nat.le_of_ble_eq_true rfl, Nat.le_of_ble_eq_true rfl⟩ rfl hl.1 rfl (Nat.le_of_ble_eq_true rfl) dX10_between_13) (fun r_3 h_4 => ?_)
  subst h_4
  refine lv_aload_n hx hb dX10_between_16 rfl (lvA0 hl) ?_
  refine gf_RX10_18 S hK hP 17 xo_17 (v := .ref (g 32)) rfl dX10_between_17 ?_
  refine lv_iload_n hx hb dX10_between_20 rfl (lvA2 hl) ?_
  refine vp_callSi (runS_r (As := [.ref (g 32), .int v1]) (rest := [.int (atM (Fn 33) 8 v0), .int (atM (Fn 32) 8 v0)]) S (q_l_at l D cI cB cZ (g 32) 8 (Fn 32) v1 (by (first | omega | (have zz0 := Hid.u hb_cn; omega)))) kS_RX10_54 hK hP [20] (one_is xo_20) ⟨Nat.le_of_ble_eq_true rfl, Nat.le_of_ble_eq_true rfl⟩ ⟨Nat.le_of_ble_eq_true rfl, Nat.le_of_ble_eq_true rfl⟩ rfl hl.1 rfl (Nat.le_of_ble_eq_true rfl) dX10_between_21) (fun r_5 h_6 => ?_)
  subst h_6
  refine lv_aload_n hx hb dX10_between_24 rfl (lvA0 hl) ?_
  refine gf_RX10_21 S hK hP 17 xo_17 (v := .ref (g 33)) rfl dX10_between_25 ?_
  refine lv_iload_n hx hb dX10_between_28 rfl (lvA2 hl) ?_
  refine vp_callSi (runS_r (As := [.ref (g 33), .int v1]) (rest := [.int (atM (Fn 32) 8 v1), .int (atM (Fn 33) 8 v0), .int (atM (Fn 32) 8 v0)]) S (q_l_at l D cI cB cZ (g 33) 8 (Fn 33) v1 (by (first | omega | (have zz0 := Hid.u hb_cn; omega)))) kS_RX10_54 hK hP [21] (one_is xo_21) ⟨Nat.le_of_ble_eq_true rfl, Nat.le_of_ble_eq_true rfl⟩ ⟨Nat.le_of_ble_eq_true rfl, Nat.le_of_ble_eq_true rfl⟩ rfl hl.1 rfl (Nat.le_of_ble_eq_true rfl) dX10_between_29) (fun r_7 h_8 => ?_)
  subst h_8
  refine vp_callSi (runS_r (As := [.int (atM (Fn 32) 8 v0), .int (atM (Fn 33) 8 v0), .int (atM (Fn 32) 8 v1), .int (atM (Fn 33) 8 v1)]) (rest := []) S (q_Xway l D cI cB cZ (atM (Fn 32) 8 v0) (atM (Fn 33) 8 v0) (atM (Fn 32) 8 v1) (atM (Fn 33) 8 v1) ) kS_RX10_58 hK hP [] rfl ⟨Nat.le_of_ble_eq_true rfl, Nat.le_of_ble_eq_true rfl⟩ ⟨Nat.le_of_ble_eq_true rfl, Nat.le_of_ble_eq_true rfl⟩ rfl hl.1 rfl (Nat.le_of_ble_eq_true rfl) dX10_between_32) (fun r_9 h_10 => ?_)
  exact W.iret (v := r_9) hx hb hr (fun t ht hW => ⟨r_9, rfl, trivial, ht⟩) (fun _ h => absurd h List.not_mem_nil) dX10_between_35
set_option maxRecDepth 100000 in
set_option maxHeartbeats 4000000 in
theorem q_Xthrough (l : Launch) (D : va_G) (cI cB cZ : ClassId) (zz qq vv : Nat) (bt : Nat → Int32) (g : Nat → Nat) (ad : Nat → Nat → Nat) (cn : Nat → Nat) (In : Nat → Int32) (Fn : Nat → Nat → Int32) (v0 v1 v2 : Int32) (hB : CBX cn) : Met l yX10_through (CWS yX10_through cX10_through 5 (some .int)) (RM 3 0 0) (PBrx [.ref (g 9), .int v0, .int v1, .int v2] D cI cB cZ zz qq vv bt (wX cI (D.1 99) zz g ad cn In Fn)) (vp_Si (fun _ => True)) 0 0 (fun _ => False) := by
  refine en_rx rfl pn_RX10 (Nat.le_of_ble_eq_true rfl) (fun p e s m below meth c hx hb hml hown S hr hlocks hnm hP hK hXS hS ls hl => ?_)
  have hl : lv_has ls 5 [(0, .ref (g 9)), (1, .int v0), (2, .int v1), (3, .int v2)] := hl
  have hb_cn : Hid (CBX cn) := hB
  replace hB : CBXh cn := hB
  refine lv_iload_n hx hb dX10_through_0 rfl (lvA3 hl) ?_
  refine lv_iconst (v := 1) hx hb dX10_through_1 kic_1 ?_
  refine lv_iload_n hx hb dX10_through_2 rfl (lvA2 hl) ?_
  refine lv_ishl hx hb dX10_through_3 ?_
  refine lv_iconst (v := (-1)) hx hb dX10_through_4 kic_m1 ?_
  refine lv_ixor hx hb dX10_through_5 ?_
  refine lv_iand hx hb dX10_through_6 ?_
  refine lv_istore (lv' := [(4, .int (v2 &&& ((1 <<< (v1 &&& 31)) ^^^ (-1)))), (0, .ref (g 9)), (1, .int v0), (2, .int v1), (3, .int v2)]) hx hb dX10_through_7 hl (ltb rfl) rfl (fun ls hl => ?_)
  refine lv_aload_n hx hb dX10_through_9 rfl (lvA1 hl) ?_
  refine lv_iload_n hx hb dX10_through_10 rfl (lvA2 hl) ?_
  refine lv_iload_n hx hb dX10_through_11 rfl (lvA3 hl) ?_
  refine vp_callSi (runV_rxa (As := [.int v0, .int v1]) (rest := []) S (q_Xbetween l D cI cB cZ zz qq vv bt g ad cn In Fn v0 v1 hB) kV_RX10_66 hK hXS hS hP 17 xo_17 rfl rfl ⟨Nat.le_of_ble_eq_true rfl, Nat.le_of_ble_eq_true rfl⟩ ⟨Nat.le_of_ble_eq_true rfl, Nat.le_of_ble_eq_true rfl⟩ rfl hl.1 rfl (Nat.le_of_ble_eq_true rfl) dX10_through_12) (fun r_1 h_2 => ?_)
  refine lv_aload_n hx hb dX10_through_15 rfl (lvA1 hl) ?_
  refine gf_RX10_24 S hK hP 17 xo_17 (v := .ref (g 34)) rfl dX10_through_16 ?_
  refine lv_iload hx hb dX10_through_19 (lvA0 hl) ?_
  refine lv_bipush (v := 8) hx hb dX10_through_21 kbc_8 ?_
  refine lv_imul hx hb dX10_through_23 ?_
  refine lv_iload_n hx hb dX10_through_24 rfl (lvA3 hl) ?_
  refine lv_iadd hx hb dX10_through_25 ?_
  refine vp_callSi (runS_r (As := [.ref (g 34), .int (((v2 &&& ((1 <<< (v1 &&& 31)) ^^^ (-1))) * 8) + v1)]) (rest := [.int r_1]) S (q_l_at l D cI cB cZ (g 34) 2048 (Fn 34) (((v2 &&& ((1 <<< (v1 &&& 31)) ^^^ (-1))) * 8) + v1) (by (first | omega | (have zz0 := Hid.u hb_cn; omega)))) kS_RX10_54 hK hP [22] (one_is xo_22) ⟨Nat.le_of_ble_eq_true rfl, Nat.le_of_ble_eq_true rfl⟩ ⟨Nat.le_of_ble_eq_true rfl, Nat.le_of_ble_eq_true rfl⟩ rfl hl.1 rfl (Nat.le_of_ble_eq_true rfl) dX10_through_26) (fun r_3 h_4 => ?_)
  subst h_4
  refine lv_iadd hx hb dX10_through_29 ?_
  exact W.iret (v := (r_1 + (atM (Fn 34) 2048 (((v2 &&& ((1 <<< (v1 &&& 31)) ^^^ (-1))) * 8) + v1)))) hx hb hr (fun t ht hW => ⟨(r_1 + (atM (Fn 34) 2048 (((v2 &&& ((1 <<< (v1 &&& 31)) ^^^ (-1))) * 8) + v1))), rfl, trivial, ht⟩) (fun _ h => absurd h List.not_mem_nil) dX10_through_30
set_option maxRecDepth 100000 in
set_option maxHeartbeats 4000000 in
theorem q_Xshortest (l : Launch) (D : va_G) (cI cB cZ : ClassId) (zz qq vv : Nat) (bt : Nat → Int32) (g : Nat → Nat) (ad : Nat → Nat → Nat) (cn : Nat → Nat) (In : Nat → Int32) (Fn : Nat → Nat → Int32) (v0 v1 : Int32) (hB : CBX cn) : Met l yX10_shortest (CWS yX10_shortest cX10_shortest 6 (some .int)) (RM 4 0 0) (PBrx [.ref (g 9), .int v0, .int v1] D cI cB cZ zz qq vv bt (wX cI (D.1 99) zz g ad cn In Fn)) (vp_Si (fun _ => True)) 0 0 (fun _ => False) := by
  refine en_rx rfl pn_RX10 (Nat.le_of_ble_eq_true rfl) (fun p e s m below meth c hx hb hml hown S hr hlocks hnm hP hK hXS hS ls hl => ?_)
  have hl : lv_has ls 6 [(0, .ref (g 9)), (1, .int v0), (2, .int v1)] := hl
  have hb_cn : Hid (CBX cn) := hB
  replace hB : CBXh cn := hB
  refine lv_iconst (v := (-1)) hx hb dX10_shortest_0 kic_m1 ?_
  refine lv_istore_n (lv' := [(3, .int (-1)), (0, .ref (g 9)), (1, .int v0), (2, .int v1)]) hx hb dX10_shortest_1 rfl hl (ltb rfl) rfl (fun ls hl => ?_)
  refine lv_iconst (v := 0) hx hb dX10_shortest_2 kic_0 ?_
  refine lv_istore (lv' := [(4, .int 0), (3, .int (-1)), (0, .ref (g 9)), (1, .int v0), (2, .int v1)]) hx hb dX10_shortest_3 hl (ltb rfl) rfl (fun ls hl => ?_)
  have lp_5 : ∀ (n : Nat) (i5 : Nat) (x5_3 : Int32) , cn 4 - i5 < n → (i5 ≤ cn 4) → ∀ ls : Array Slot, lv_has ls 6 [(4, .int (nI i5)), (3, .int x5_3), (0, .ref (g 9)), (1, .int v0), (2, .int v1)] → W p l e (RM 4 0 0) s m ([.ref (g 9), .int v0, .int v1]).toArray below meth c s.heap [] 0 0 (MQ below (vp_Si (fun _ => True)) ([.ref (g 9), .int v0, .int v1]).toArray s 0 0 (fun _ => False)) (F0 m 5 ls []) := by
    intro n5
    induction n5 with
    | zero => intros; (first | omega | (have zz0 := Hid.u hb_cn; omega))
    | succ n5 ih5 =>
      intro i5 x5_3 hmu5 hinv5 ls hl
      have hr5 := hinv5
      have ti5 : (nI i5).toInt = (i5 : Int) := nI_toInt (by (first | omega | (have zz0 := Hid.u hb_cn; omega)))
      refine lv_iload hx hb dX10_shortest_5 (lvA0 hl) ?_
      refine lv_aload_n hx hb dX10_shortest_7 rfl (lvA2 hl) ?_
      refine gf_RX10_36 S hK hP 17 xo_17 (v := .int (nI (cn 4))) rfl dX10_shortest_8 ?_
      have : (nI (cn 4)).toInt = (((cn 4) : Nat) : Int) := nI_toInt (by (first | omega | (have zz0 := Hid.u hb_cn; omega)))
      refine lv_icmp_ge (tgt := 57) hx hb dX10_shortest_11 rfl (fun c_1 => ?_) (fun c_1 => ?_)
      ·
        have tc_1 : ((nI (cn 4)).toInt : Int) ≤ (nI i5).toInt := Int32.le_iff_toInt_le.mp c_1
        refine lv_iload_n hx hb dX10_shortest_57 rfl (lvA1 hl) ?_
        refine lv_iconst (v := (-1)) hx hb dX10_shortest_58 kic_m1 ?_
        refine lv_icmp_ne (tgt := 71) hx hb dX10_shortest_59 rfl (fun c_2 => ?_) (fun c_2 => ?_)
        ·
          have tc_2 : (x5_3.toInt : Int) ≠ (-1) := fun q => c_2 (Int32.toInt_inj.mp q)
          refine lv_iload_n hx hb dX10_shortest_71 rfl (lvA1 hl) ?_
          exact W.iret (v := x5_3) hx hb hr (fun t ht hW => ⟨x5_3, rfl, trivial, ht⟩) (fun _ h => absurd h List.not_mem_nil) dX10_shortest_72
        ·
          have tc_2 : (x5_3.toInt : Int) = (-1) := congrArg Int32.toInt c_2
          refine lv_aload_n hx hb dX10_shortest_62 rfl (lvA2 hl) ?_
          refine lv_iload_n hx hb dX10_shortest_63 rfl (lvA3 hl) ?_
          refine lv_iconst (v := (-1)) hx hb dX10_shortest_64 kic_m1 ?_
          refine vp_callSi (runV_rxa (As := [.int v0, .int (-1)]) (rest := []) S (q_Xbetween l D cI cB cZ zz qq vv bt g ad cn In Fn v0 (-1) hB) kV_RX10_66 hK hXS hS hP 17 xo_17 rfl rfl ⟨Nat.le_of_ble_eq_true rfl, Nat.le_of_ble_eq_true rfl⟩ ⟨Nat.le_of_ble_eq_true rfl, Nat.le_of_ble_eq_true rfl⟩ rfl hl.1 rfl (Nat.le_of_ble_eq_true rfl) dX10_shortest_65) (fun r_3 h_4 => ?_)
          refine lv_goto (tgt := 72) hx hb dX10_shortest_68 rfl ?_
          exact W.iret (v := r_3) hx hb hr (fun t ht hW => ⟨r_3, rfl, trivial, ht⟩) (fun _ h => absurd h List.not_mem_nil) dX10_shortest_72
      ·
        have tc_1 : ((nI i5).toInt : Int) < (nI (cn 4)).toInt := Int32.lt_iff_toInt_lt.mp (Int32.not_le.mp c_1)
        refine lv_iload_n hx hb dX10_shortest_14 rfl (lvA4 hl) ?_
        refine lv_iload hx hb dX10_shortest_15 (lvA0 hl) ?_
        refine lv_ishr hx hb dX10_shortest_17 ?_
        refine lv_iconst (v := 1) hx hb dX10_shortest_18 kic_1 ?_
        refine lv_iand hx hb dX10_shortest_19 ?_
        refine lv_if_eq (tgt := 51) hx hb dX10_shortest_20 rfl (fun c_5 => ?_) (fun c_5 => ?_)
        ·
          have tc_5 : (((v1 >>> ((nI i5) &&& 31)) &&& 1).toInt : Int) = 0 := congrArg Int32.toInt c_5
          refine lv_iinc (v := (nI (i5 + 1))) (lv' := [(4, .int (nI (i5 + 1))), (3, .int x5_3), (0, .ref (g 9)), (1, .int v0), (2, .int v1)]) hx hb dX10_shortest_51 hl (k := 0) rfl (nI_1 _) (ltb rfl) rfl (fun ls hl => ?_)
          refine lv_goto (tgt := 5) hx hb dX10_shortest_54 rfl ?_
          exact ih5 (i5 + 1) x5_3 (by (first | omega | (have zz0 := Hid.u hb_cn; omega))) (by (first | omega | (have zz0 := Hid.u hb_cn; omega))) ls (lv_sub hl [0, 1, 2, 3, 4] rfl)
        ·
          have tc_5 : (((v1 >>> ((nI i5) &&& 31)) &&& 1).toInt : Int) ≠ 0 := fun q => c_5 (Int32.toInt_inj.mp q)
          refine lv_aload_n hx hb dX10_shortest_23 rfl (lvA2 hl) ?_
          refine lv_iload_n hx hb dX10_shortest_24 rfl (lvA3 hl) ?_
          refine lv_iload hx hb dX10_shortest_25 (lvA0 hl) ?_
          refine lv_iload_n hx hb dX10_shortest_27 rfl (lvA4 hl) ?_
          refine vp_callSi (runV_rxa (As := [.int v0, .int (nI i5), .int v1]) (rest := []) S (q_Xthrough l D cI cB cZ zz qq vv bt g ad cn In Fn v0 (nI i5) v1 hB) kV_RX10_69 hK hXS hS hP 17 xo_17 rfl rfl ⟨Nat.le_of_ble_eq_true rfl, Nat.le_of_ble_eq_true rfl⟩ ⟨Nat.le_of_ble_eq_true rfl, Nat.le_of_ble_eq_true rfl⟩ rfl hl.1 rfl (Nat.le_of_ble_eq_true rfl) dX10_shortest_28) (fun r_6 h_7 => ?_)
          refine lv_istore (lv' := [(5, .int r_6), (4, .int (nI i5)), (3, .int x5_3), (0, .ref (g 9)), (1, .int v0), (2, .int v1)]) hx hb dX10_shortest_31 hl (ltb rfl) rfl (fun ls hl => ?_)
          refine lv_iload_n hx hb dX10_shortest_33 rfl (lvA2 hl) ?_
          refine lv_iconst (v := (-1)) hx hb dX10_shortest_34 kic_m1 ?_
          refine lv_icmp_eq (tgt := 44) hx hb dX10_shortest_35 rfl (fun c_8 => ?_) (fun c_8 => ?_)
          ·
            have tc_8 : (x5_3.toInt : Int) = (-1) := congrArg Int32.toInt c_8
            refine lv_iload hx hb dX10_shortest_44 (lvA0 hl) ?_
            refine lv_goto (tgt := 50) hx hb dX10_shortest_46 rfl ?_
            refine lv_istore_n (lv' := [(3, .int r_6), (5, .int r_6), (4, .int (nI i5)), (0, .ref (g 9)), (1, .int v0), (2, .int v1)]) hx hb dX10_shortest_50 rfl hl (ltb rfl) rfl (fun ls hl => ?_)
            refine lv_iinc (v := (nI (i5 + 1))) (lv' := [(4, .int (nI (i5 + 1))), (3, .int r_6), (5, .int r_6), (0, .ref (g 9)), (1, .int v0), (2, .int v1)]) hx hb dX10_shortest_51 hl (k := 2) rfl (nI_1 _) (ltb rfl) rfl (fun ls hl => ?_)
            refine lv_goto (tgt := 5) hx hb dX10_shortest_54 rfl ?_
            exact ih5 (i5 + 1) r_6 (by (first | omega | (have zz0 := Hid.u hb_cn; omega))) (by (first | omega | (have zz0 := Hid.u hb_cn; omega))) ls (lv_sub hl [0, 1, 3, 4, 5] rfl)
          ·
            have tc_8 : (x5_3.toInt : Int) ≠ (-1) := fun q => c_8 (Int32.toInt_inj.mp q)
            refine lv_iload hx hb dX10_shortest_38 (lvA0 hl) ?_
            refine lv_iload_n hx hb dX10_shortest_40 rfl (lvA2 hl) ?_
            refine lv_icmp_ge (tgt := 49) hx hb dX10_shortest_41 rfl (fun c_9 => ?_) (fun c_9 => ?_)
            ·
              have tc_9 : (x5_3.toInt : Int) ≤ r_6.toInt := Int32.le_iff_toInt_le.mp c_9
              refine lv_iload_n hx hb dX10_shortest_49 rfl (lvA2 hl) ?_
              refine lv_istore_n (lv' := [(3, .int x5_3), (5, .int r_6), (4, .int (nI i5)), (0, .ref (g 9)), (1, .int v0), (2, .int v1)]) hx hb dX10_shortest_50 rfl hl (ltb rfl) rfl (fun ls hl => ?_)
              refine lv_iinc (v := (nI (i5 + 1))) (lv' := [(4, .int (nI (i5 + 1))), (3, .int x5_3), (5, .int r_6), (0, .ref (g 9)), (1, .int v0), (2, .int v1)]) hx hb dX10_shortest_51 hl (k := 2) rfl (nI_1 _) (ltb rfl) rfl (fun ls hl => ?_)
              refine lv_goto (tgt := 5) hx hb dX10_shortest_54 rfl ?_
              exact ih5 (i5 + 1) x5_3 (by (first | omega | (have zz0 := Hid.u hb_cn; omega))) (by (first | omega | (have zz0 := Hid.u hb_cn; omega))) ls (lv_sub hl [0, 1, 3, 4, 5] rfl)
            ·
              have tc_9 : (r_6.toInt : Int) < x5_3.toInt := Int32.lt_iff_toInt_lt.mp (Int32.not_le.mp c_9)
              refine lv_iload hx hb dX10_shortest_44 (lvA0 hl) ?_
              refine lv_goto (tgt := 50) hx hb dX10_shortest_46 rfl ?_
              refine lv_istore_n (lv' := [(3, .int r_6), (5, .int r_6), (4, .int (nI i5)), (0, .ref (g 9)), (1, .int v0), (2, .int v1)]) hx hb dX10_shortest_50 rfl hl (ltb rfl) rfl (fun ls hl => ?_)
              refine lv_iinc (v := (nI (i5 + 1))) (lv' := [(4, .int (nI (i5 + 1))), (3, .int r_6), (5, .int r_6), (0, .ref (g 9)), (1, .int v0), (2, .int v1)]) hx hb dX10_shortest_51 hl (k := 2) rfl (nI_1 _) (ltb rfl) rfl (fun ls hl => ?_)
              refine lv_goto (tgt := 5) hx hb dX10_shortest_54 rfl ?_
              exact ih5 (i5 + 1) r_6 (by (first | omega | (have zz0 := Hid.u hb_cn; omega))) (by (first | omega | (have zz0 := Hid.u hb_cn; omega))) ls (lv_sub hl [0, 1, 3, 4, 5] rfl)
  exact lp_5 _ 0 (-1) (Nat.lt_succ_self _) (by (first | omega | (have zz0 := Hid.u hb_cn; omega))) ls (lv_sub hl [0, 1, 2, 3, 4] rfl)
set_option maxRecDepth 100000 in
set_option maxHeartbeats 4000000 in
theorem q_Xsolve (l : Launch) (D : va_G) (cI cB cZ : ClassId) (zz qq vv : Nat) (bt : Nat → Int32) (g : Nat → Nat) (ad : Nat → Nat → Nat) (cn : Nat → Nat) (In : Nat → Int32) (Fn : Nat → Nat → Int32)  (sz : Nat) (hB : CBX cn) : Met l yX10_solve (CWS yX10_solve cX10_solve 3 none) (RM 5 0 0) (PBx [.ref (g 9)] D cI cB cZ zz qq vv bt (wX cI (D.1 99) zz g ad cn In Fn) sz) (va_Qv (fun (u : (Nat → Nat) × (Nat → Int32) × (Nat → Nat → Int32)) => (fun c2 I2 F2 => Fr [] [] [34, 35] cn In Fn c2 I2 F2 ∧ CBX c2 ∧ (True)) u.1 u.2.1 u.2.2) (fun (u : (Nat → Nat) × (Nat → Int32) × (Nat → Nat → Int32)) (t : State) => va_P D vwCl (wX cI (D.1 99) zz g ad u.1 u.2.1 u.2.2) t.heap ∧ va_D (va_A (wX cI (D.1 99) zz g ad cn In Fn) sz) (wX cI (D.1 99) zz g ad u.1 u.2.1 u.2.2)) (va_A (wX cI (D.1 99) zz g ad cn In Fn) sz)) 0 0 (va_A (wX cI (D.1 99) zz g ad cn In Fn) sz) := by
  refine en_x (fun A => (va_Qv (fun (u : (Nat → Nat) × (Nat → Int32) × (Nat → Nat → Int32)) => (fun (c2 : Nat → Nat) (I2 : Nat → Int32) (F2 : Nat → Nat → Int32) => Fr [] [] [34, 35] cn In Fn c2 I2 F2 ∧ CBX c2 ∧ (True)) u.1 u.2.1 u.2.2) (fun (u : (Nat → Nat) × (Nat → Int32) × (Nat → Nat → Int32)) (t : State) => va_P D vwCl (wX cI (D.1 99) zz g ad u.1 u.2.1 u.2.2) t.heap ∧ va_D A (wX cI (D.1 99) zz g ad u.1 u.2.1 u.2.2)) A)) rfl rfl pn_RX10 (Nat.le_of_ble_eq_true rfl) (fun p e s m below meth c A hx hb hml hown S hr hlocks hnm hA hP hK hD hXS hS ls hl => ?_)
  have hl : lv_has ls 3 [(0, .ref (g 9))] := hl
  have hb_cn : Hid (CBX cn) := hB
  replace hB : CBXh cn := hB
  have h2p := p2b (n := cn 4) (by (first | omega | (have zz0 := Hid.u hb_cn; omega)))
  refine lv_iconst (v := 0) hx hb dX10_solve_0 kic_0 ?_
  refine lv_istore_n (lv' := [(1, .int 0), (0, .ref (g 9))]) hx hb dX10_solve_1 rfl hl (ltb rfl) rfl (fun ls hl => ?_)
  have lp_2 : ∀ (n : Nat) (i2 : Nat) (F2 : Nat → Nat → Int32) (H : Heap) (locs : List Loc) , 2 ^ cn 4 - i2 < n → (i2 ≤ 2 ^ cn 4 ∧ Fr [] [] [34, 35] cn In Fn cn In F2 ∧ CBX cn) → va_P D vwCl (wX cI (D.1 99) zz g ad cn In F2) H → va_D A (wX cI (D.1 99) zz g ad cn In F2) → va_S A s.heap H locs → ∀ ls : Array Slot, lv_has ls 3 [(1, .int (nI i2)), (0, .ref (g 9))] → W p l e (RM 5 0 0) s m ([.ref (g 9)]).toArray below meth c H locs 0 0 (MQ below (va_Qv (fun (u : (Nat → Nat) × (Nat → Int32) × (Nat → Nat → Int32)) => (fun c2 I2 F2 => Fr [] [] [34, 35] cn In Fn c2 I2 F2 ∧ CBX c2 ∧ (True)) u.1 u.2.1 u.2.2) (fun (u : (Nat → Nat) × (Nat → Int32) × (Nat → Nat → Int32)) (t : State) => va_P D vwCl (wX cI (D.1 99) zz g ad u.1 u.2.1 u.2.2) t.heap ∧ va_D A (wX cI (D.1 99) zz g ad u.1 u.2.1 u.2.2)) A) ([.ref (g 9)]).toArray s 0 0 A) (F0 m 2 ls []) := by
    intro n2
    induction n2 with
    | zero => intros; (first | omega | (have zz0 := Hid.u hb_cn; omega))
    | succ n2 ih2 =>
      intro i2 F2 H locs hmu2 hinv2 hP hD hS ls hl
      obtain ⟨hr2, hfr2, hI2⟩ := hinv2
      have ti2 : (nI i2).toInt = (i2 : Int) := nI_toInt (by (first | omega | (have zz0 := Hid.u hb_cn; omega)))
      replace hI2 : CBXh cn := hI2
      have h2p := p2b (n := cn 4) (by (first | omega | (have zz0 := Hid.u hb_cn; omega)))
      refine lv_iload_n hx hb dX10_solve_2 rfl (lvA0 hl) ?_
      refine lv_iconst (v := 1) hx hb dX10_solve_3 kic_1 ?_
      refine lv_aload_n hx hb dX10_solve_4 rfl (lvA1 hl) ?_
      refine gf_RX10_36 S hK hP 17 xo_17 (v := .int (nI (cn 4))) rfl dX10_solve_5 ?_
      refine lv_ishl hx hb dX10_solve_8 ?_
      refine lv_topi (fun y_1 ey_1 => ?_)
      obtain rfl : y_1 = (nI (2 ^ cn 4)) := ey_1.trans (sh1 (by (first | omega | (have zz0 := Hid.u hb_cn; omega))))
      have : (nI (2 ^ cn 4)).toInt = (((2 ^ cn 4) : Nat) : Int) := nI_toInt (by (first | omega | (have zz0 := Hid.u hb_cn; omega)))
      refine lv_icmp_ge (tgt := 75) hx hb dX10_solve_9 rfl (fun c_2 => ?_) (fun c_2 => ?_)
      ·
        have tc_2 : ((nI (2 ^ cn 4)).toInt : Int) ≤ (nI i2).toInt := Int32.le_iff_toInt_le.mp c_2
        exact W.vret hx hb hr (fun t ht hW => ⟨⟨(cn, In, F2), rfl, ⟨(Fr.mo hfr2 (sbl rfl) (sbl rfl) (sbl rfl)), hI2, trivial⟩, by rw [ht]; exact hP, hD⟩, hS.F ht⟩) hS.2.2 dX10_solve_75
      ·
        have tc_2 : ((nI i2).toInt : Int) < (nI (2 ^ cn 4)).toInt := Int32.lt_iff_toInt_lt.mp (Int32.not_le.mp c_2)
        refine lv_iconst (v := 0) hx hb dX10_solve_12 kic_0 ?_
        refine lv_istore_n (lv' := [(2, .int 0), (1, .int (nI i2)), (0, .ref (g 9))]) hx hb dX10_solve_13 rfl hl (ltb rfl) rfl (fun ls hl => ?_)
        have lp_14 : ∀ (n : Nat) (i14 : Nat) (F14 : Nat → Nat → Int32) (H : Heap) (locs : List Loc) , cn 4 - i14 < n → (i14 ≤ cn 4 ∧ Fr [] [] [34, 35] cn In Fn cn In F14 ∧ CBX cn) → va_P D vwCl (wX cI (D.1 99) zz g ad cn In F14) H → va_D A (wX cI (D.1 99) zz g ad cn In F14) → va_S A s.heap H locs → ∀ ls : Array Slot, lv_has ls 3 [(2, .int (nI i14)), (1, .int (nI i2)), (0, .ref (g 9))] → W p l e (RM 5 0 0) s m ([.ref (g 9)]).toArray below meth c H locs 0 0 (MQ below (va_Qv (fun (u : (Nat → Nat) × (Nat → Int32) × (Nat → Nat → Int32)) => (fun c2 I2 F2 => Fr [] [] [34, 35] cn In Fn c2 I2 F2 ∧ CBX c2 ∧ (True)) u.1 u.2.1 u.2.2) (fun (u : (Nat → Nat) × (Nat → Int32) × (Nat → Nat → Int32)) (t : State) => va_P D vwCl (wX cI (D.1 99) zz g ad u.1 u.2.1 u.2.2) t.heap ∧ va_D A (wX cI (D.1 99) zz g ad u.1 u.2.1 u.2.2)) A) ([.ref (g 9)]).toArray s 0 0 A) (F0 m 14 ls []) := by
          intro n14
          induction n14 with
          | zero => intros; (first | omega | (have zz0 := Hid.u hb_cn; omega))
          | succ n14 ih14 =>
            intro i14 F14 H locs hmu14 hinv14 hP hD hS ls hl
            obtain ⟨hr14, hfr14, hI14⟩ := hinv14
            have ti14 : (nI i14).toInt = (i14 : Int) := nI_toInt (by (first | omega | (have zz0 := Hid.u hb_cn; omega)))
            replace hI14 : CBXh cn := hI14
            refine lv_iload_n hx hb dX10_solve_14 rfl (lvA0 hl) ?_
            refine lv_aload_n hx hb dX10_solve_15 rfl (lvA2 hl) ?_
            refine gf_RX10_36 S hK hP 17 xo_17 (v := .int (nI (cn 4))) rfl dX10_solve_16 ?_
            have : (nI (cn 4)).toInt = (((cn 4) : Nat) : Int) := nI_toInt (by (first | omega | (have zz0 := Hid.u hb_cn; omega)))
            refine lv_icmp_ge (tgt := 55) hx hb dX10_solve_19 rfl (fun c_3 => ?_) (fun c_3 => ?_)
            ·
              have tc_3 : ((nI (cn 4)).toInt : Int) ≤ (nI i14).toInt := Int32.le_iff_toInt_le.mp c_3
              refine lv_aload_n hx hb dX10_solve_55 rfl (lvA2 hl) ?_
              refine gf_RX10_27 S hK hP 17 xo_17 (v := .ref (g 35)) rfl dX10_solve_56 ?_
              refine lv_iload_n hx hb dX10_solve_59 rfl (lvA1 hl) ?_
              refine lv_aload_n hx hb dX10_solve_60 rfl (lvA2 hl) ?_
              refine lv_iconst (v := (-1)) hx hb dX10_solve_61 kic_m1 ?_
              refine lv_iload_n hx hb dX10_solve_62 rfl (lvA1 hl) ?_
              refine vp_callSi (runV_rxa (As := [.int (-1), .int (nI i2)]) (rest := [.int (nI i2), .ref (g 35)]) S (q_Xshortest l D cI cB cZ zz qq vv bt g ad cn In F14 (-1) (nI i2) hI14) kV_RX10_62 hK hXS hS hP 17 xo_17 rfl rfl ⟨Nat.le_of_ble_eq_true rfl, Nat.le_of_ble_eq_true rfl⟩ ⟨Nat.le_of_ble_eq_true rfl, Nat.le_of_ble_eq_true rfl⟩ rfl hl.1 rfl (Nat.le_of_ble_eq_true rfl) dX10_solve_63) (fun r_4 h_5 => ?_)
              have hFc := va_free (wc := [((g 35), .inl (cI, 256, .inl (F14 35)))]) hD hS hA [23] (one_im xo_23)
              refine va_callv (runS_w (As := [.ref (g 35), .int (nI i2), .int r_4]) (rest := []) S (q_l_put l D cI cB cZ (g 35) 256 (F14 35) (nI i2) r_4 H.size (by (first | omega | (have zz0 := Hid.u hb_cn; omega)))) kS_RX10_40 hK hP hD [23] (one_is xo_23) (one_im xo_23) rfl ⟨Nat.le_of_ble_eq_true rfl, Nat.le_of_ble_eq_true rfl⟩ ⟨Nat.le_of_ble_eq_true rfl, Nat.le_of_ble_eq_true rfl⟩ rfl hl.1 rfl (Nat.le_of_ble_eq_true rfl) dX10_solve_66) hS (fun q _ h => hFc q h) hFc (fun u_8 t H1 locs ht hvm h_7 hB1 hz1 hk1 hS => ?_)
              obtain ⟨hP1, hD1⟩ := hB1
              rw [ht] at hP1
              obtain ⟨hP, hD⟩ := wset1 hP hD xo_23 hk1 hP1
              obtain rfl : u_8 = (putM (F14 35) 256 (nI i2) r_4) := h_7
              generalize H1 = H at hP hS ⊢
              have hP : va_P D vwCl (wX cI (D.1 99) zz g ad cn In (va_up F14 35 (putM (F14 35) 256 (nI i2) r_4))) H := va_P_eq xsa_23 hP
              have hD : va_D A (wX cI (D.1 99) zz g ad cn In (va_up F14 35 (putM (F14 35) 256 (nI i2) r_4))) := va_D_eq xsa_23 hD
              refine lv_iinc (v := (nI (i2 + 1))) (lv' := [(1, .int (nI (i2 + 1))), (2, .int (nI i14)), (0, .ref (g 9))]) hx hb dX10_solve_69 hl (k := 1) rfl (nI_1 _) (ltb rfl) rfl (fun ls hl => ?_)
              refine lv_goto (tgt := 2) hx hb dX10_solve_72 rfl ?_
              exact ih2 (i2 + 1) (va_up F14 35 (putM (F14 35) 256 (nI i2) r_4)) _ _ (by (first | omega | (have zz0 := Hid.u hb_cn; omega))) ⟨(by (first | omega | (have zz0 := Hid.u hb_cn; omega))), (Fr.mo (Fr.f 35 hfr14) (sbl rfl) (sbl rfl) (sbl rfl)), hI14⟩ hP hD hS ls (lv_sub hl [0, 2] rfl)
            ·
              have tc_3 : ((nI i14).toInt : Int) < (nI (cn 4)).toInt := Int32.lt_iff_toInt_lt.mp (Int32.not_le.mp c_3)
              refine lv_iload_n hx hb dX10_solve_22 rfl (lvA1 hl) ?_
              refine lv_iload_n hx hb dX10_solve_23 rfl (lvA0 hl) ?_
              refine lv_ishr hx hb dX10_solve_24 ?_
              refine lv_iconst (v := 1) hx hb dX10_solve_25 kic_1 ?_
              refine lv_iand hx hb dX10_solve_26 ?_
              refine lv_if_ne (tgt := 49) hx hb dX10_solve_27 rfl (fun c_9 => ?_) (fun c_9 => ?_)
              ·
                have tc_9 : ((((nI i2) >>> ((nI i14) &&& 31)) &&& 1).toInt : Int) ≠ 0 := fun q => c_9 (Int32.toInt_inj.mp q)
                refine lv_iinc (v := (nI (i14 + 1))) (lv' := [(2, .int (nI (i14 + 1))), (1, .int (nI i2)), (0, .ref (g 9))]) hx hb dX10_solve_49 hl (k := 0) rfl (nI_1 _) (ltb rfl) rfl (fun ls hl => ?_)
                refine lv_goto (tgt := 14) hx hb dX10_solve_52 rfl ?_
                exact ih14 (i14 + 1) F14 _ _ (by (first | omega | (have zz0 := Hid.u hb_cn; omega))) ⟨(by (first | omega | (have zz0 := Hid.u hb_cn; omega))), (Fr.mo hfr14 (sbl rfl) (sbl rfl) (sbl rfl)), hI14⟩ hP hD hS ls (lv_sub hl [0, 1, 2] rfl)
              ·
                have tc_9 : ((((nI i2) >>> ((nI i14) &&& 31)) &&& 1).toInt : Int) = 0 := congrArg Int32.toInt c_9
                refine lv_aload_n hx hb dX10_solve_30 rfl (lvA2 hl) ?_
                refine gf_RX10_24 S hK hP 17 xo_17 (v := .ref (g 34)) rfl dX10_solve_31 ?_
                refine lv_iload_n hx hb dX10_solve_34 rfl (lvA1 hl) ?_
                refine lv_bipush (v := 8) hx hb dX10_solve_35 kbc_8 ?_
                refine lv_imul hx hb dX10_solve_37 ?_
                refine lv_topi (fun y_10 ey_10 => ?_)
                obtain rfl : y_10 = (nI (i2 * 8)) := ey_10.trans (pk_mul i2 8)
                refine lv_iload_n hx hb dX10_solve_38 rfl (lvA0 hl) ?_
                refine lv_iadd hx hb dX10_solve_39 ?_
                refine lv_topi (fun y_11 ey_11 => ?_)
                obtain rfl : y_11 = (nI ((i2 * 8) + i14)) := ey_11.trans (nI_add (i2 * 8) i14)
                refine lv_aload_n hx hb dX10_solve_40 rfl (lvA2 hl) ?_
                refine lv_iload_n hx hb dX10_solve_41 rfl (lvA0 hl) ?_
                refine lv_iload_n hx hb dX10_solve_42 rfl (lvA1 hl) ?_
                refine vp_callSi (runV_rxa (As := [.int (nI i14), .int (nI i2)]) (rest := [.int (nI ((i2 * 8) + i14)), .ref (g 34)]) S (q_Xshortest l D cI cB cZ zz qq vv bt g ad cn In F14 (nI i14) (nI i2) hI14) kV_RX10_62 hK hXS hS hP 17 xo_17 rfl rfl ⟨Nat.le_of_ble_eq_true rfl, Nat.le_of_ble_eq_true rfl⟩ ⟨Nat.le_of_ble_eq_true rfl, Nat.le_of_ble_eq_true rfl⟩ rfl hl.1 rfl (Nat.le_of_ble_eq_true rfl) dX10_solve_43) (fun r_12 h_13 => ?_)
                have hFc := va_free (wc := [((g 34), .inl (cI, 2048, .inl (F14 34)))]) hD hS hA [22] (one_im xo_22)
                refine va_callv (runS_w (As := [.ref (g 34), .int (nI ((i2 * 8) + i14)), .int r_12]) (rest := []) S (q_l_put l D cI cB cZ (g 34) 2048 (F14 34) (nI ((i2 * 8) + i14)) r_12 H.size (by (first | omega | (have zz0 := Hid.u hb_cn; omega)))) kS_RX10_40 hK hP hD [22] (one_is xo_22) (one_im xo_22) rfl ⟨Nat.le_of_ble_eq_true rfl, Nat.le_of_ble_eq_true rfl⟩ ⟨Nat.le_of_ble_eq_true rfl, Nat.le_of_ble_eq_true rfl⟩ rfl hl.1 rfl (Nat.le_of_ble_eq_true rfl) dX10_solve_46) hS (fun q _ h => hFc q h) hFc (fun u_16 t H1 locs ht hvm h_15 hB1 hz1 hk1 hS => ?_)
                obtain ⟨hP1, hD1⟩ := hB1
                rw [ht] at hP1
                obtain ⟨hP, hD⟩ := wset1 hP hD xo_22 hk1 hP1
                obtain rfl : u_16 = (putM (F14 34) 2048 (nI ((i2 * 8) + i14)) r_12) := h_15
                generalize H1 = H at hP hS ⊢
                have hP : va_P D vwCl (wX cI (D.1 99) zz g ad cn In (va_up F14 34 (putM (F14 34) 2048 (nI ((i2 * 8) + i14)) r_12))) H := va_P_eq xsa_22 hP
                have hD : va_D A (wX cI (D.1 99) zz g ad cn In (va_up F14 34 (putM (F14 34) 2048 (nI ((i2 * 8) + i14)) r_12))) := va_D_eq xsa_22 hD
                refine lv_iinc (v := (nI (i14 + 1))) (lv' := [(2, .int (nI (i14 + 1))), (1, .int (nI i2)), (0, .ref (g 9))]) hx hb dX10_solve_49 hl (k := 0) rfl (nI_1 _) (ltb rfl) rfl (fun ls hl => ?_)
                refine lv_goto (tgt := 14) hx hb dX10_solve_52 rfl ?_
                exact ih14 (i14 + 1) (va_up F14 34 (putM (F14 34) 2048 (nI ((i2 * 8) + i14)) r_12)) _ _ (by (first | omega | (have zz0 := Hid.u hb_cn; omega))) ⟨(by (first | omega | (have zz0 := Hid.u hb_cn; omega))), (Fr.mo (Fr.f 34 hfr14) (sbl rfl) (sbl rfl) (sbl rfl)), hI14⟩ hP hD hS ls (lv_sub hl [0, 1, 2] rfl)
        exact lp_14 _ 0 F2 _ _ (Nat.lt_succ_self _) ⟨(by (first | omega | (have zz0 := Hid.u hb_cn; omega))), (Fr.mo hfr2 (sbl rfl) (sbl rfl) (sbl rfl)), hI2⟩ hP hD hS ls (lv_sub hl [0, 1, 2] rfl)
  exact lp_2 _ 0 Fn _ _ (Nat.lt_succ_self _) ⟨(by (first | omega | (have zz0 := Hid.u hb_cn; omega))), (Fr.mo Fr.rf (sbl rfl) (sbl rfl) (sbl rfl)), hB⟩ hP hD hS ls (lv_sub hl [0, 1] rfl)
set_option maxRecDepth 100000 in
set_option maxHeartbeats 4000000 in
theorem q_XlengthOf (l : Launch) (D : va_G) (cI cB cZ : ClassId) (zz qq vv : Nat) (bt : Nat → Int32) (g : Nat → Nat) (ad : Nat → Nat → Nat) (cn : Nat → Nat) (In : Nat → Int32) (Fn : Nat → Nat → Int32) (v0 : Int32) (hB : CBX cn) : Met l yX10_lengthOf (CWS yX10_lengthOf cX10_lengthOf 2 (some .int)) (RM 1 0 0) (PBrx [.ref (g 9), .int v0] D cI cB cZ zz qq vv bt (wX cI (D.1 99) zz g ad cn In Fn)) (vp_Si (fun _ => True)) 0 0 (fun _ => False) := by
  refine en_rx rfl pn_RX10 (Nat.le_of_ble_eq_true rfl) (fun p e s m below meth c hx hb hml hown S hr hlocks hnm hP hK hXS hS ls hl => ?_)
  have hl : lv_has ls 2 [(0, .ref (g 9)), (1, .int v0)] := hl
  have hb_cn : Hid (CBX cn) := hB
  replace hB : CBXh cn := hB
  refine lv_aload_n hx hb dX10_lengthOf_0 rfl (lvA0 hl) ?_
  refine gf_RX10_27 S hK hP 17 xo_17 (v := .ref (g 35)) rfl dX10_lengthOf_1 ?_
  refine lv_iload_n hx hb dX10_lengthOf_4 rfl (lvA1 hl) ?_
  refine vp_callSi (runS_r (As := [.ref (g 35), .int v0]) (rest := []) S (q_l_at l D cI cB cZ (g 35) 256 (Fn 35) v0 (by (first | omega | (have zz0 := Hid.u hb_cn; omega)))) kS_RX10_54 hK hP [23] (one_is xo_23) ⟨Nat.le_of_ble_eq_true rfl, Nat.le_of_ble_eq_true rfl⟩ ⟨Nat.le_of_ble_eq_true rfl, Nat.le_of_ble_eq_true rfl⟩ rfl hl.1 rfl (Nat.le_of_ble_eq_true rfl) dX10_lengthOf_5) (fun r_1 h_2 => ?_)
  subst h_2
  exact W.iret (v := (atM (Fn 35) 256 v0)) hx hb hr (fun t ht hW => ⟨(atM (Fn 35) 256 v0), rfl, trivial, ht⟩) (fun _ h => absurd h List.not_mem_nil) dX10_lengthOf_8
set_option maxRecDepth 100000 in
set_option maxHeartbeats 4000000 in
theorem q_XwholeLength (l : Launch) (D : va_G) (cI cB cZ : ClassId) (zz qq vv : Nat) (bt : Nat → Int32) (g : Nat → Nat) (ad : Nat → Nat → Nat) (cn : Nat → Nat) (In : Nat → Int32) (Fn : Nat → Nat → Int32)  (hB : CBX cn) : Met l yX10_wholeLength (CWS yX10_wholeLength cX10_wholeLength 1 (some .int)) (RM 2 0 0) (PBrx [.ref (g 9)] D cI cB cZ zz qq vv bt (wX cI (D.1 99) zz g ad cn In Fn)) (vp_Si (fun _ => True)) 0 0 (fun _ => False) := by
  refine en_rx rfl pn_RX10 (Nat.le_of_ble_eq_true rfl) (fun p e s m below meth c hx hb hml hown S hr hlocks hnm hP hK hXS hS ls hl => ?_)
  have hl : lv_has ls 1 [(0, .ref (g 9))] := hl
  have hb_cn : Hid (CBX cn) := hB
  replace hB : CBXh cn := hB
  refine lv_aload_n hx hb dX10_wholeLength_0 rfl (lvA0 hl) ?_
  refine lv_iconst (v := 1) hx hb dX10_wholeLength_1 kic_1 ?_
  refine lv_aload_n hx hb dX10_wholeLength_2 rfl (lvA0 hl) ?_
  refine gf_RX10_36 S hK hP 17 xo_17 (v := .int (nI (cn 4))) rfl dX10_wholeLength_3 ?_
  refine lv_ishl hx hb dX10_wholeLength_6 ?_
  refine lv_iconst (v := 1) hx hb dX10_wholeLength_7 kic_1 ?_
  refine lv_isub hx hb dX10_wholeLength_8 ?_
  refine vp_callSi (runV_rxa (As := [.int ((1 <<< ((nI (cn 4)) &&& 31)) - 1)]) (rest := []) S (q_XlengthOf l D cI cB cZ zz qq vv bt g ad cn In Fn ((1 <<< ((nI (cn 4)) &&& 31)) - 1) hB) kV_RX10_73 hK hXS hS hP 17 xo_17 rfl rfl ⟨Nat.le_of_ble_eq_true rfl, Nat.le_of_ble_eq_true rfl⟩ ⟨Nat.le_of_ble_eq_true rfl, Nat.le_of_ble_eq_true rfl⟩ rfl hl.1 rfl (Nat.le_of_ble_eq_true rfl) dX10_wholeLength_9) (fun r_1 h_2 => ?_)
  exact W.iret (v := r_1) hx hb hr (fun t ht hW => ⟨r_1, rfl, trivial, ht⟩) (fun _ h => absurd h List.not_mem_nil) dX10_wholeLength_12
set_option maxRecDepth 100000 in
set_option maxHeartbeats 4000000 in
theorem q_XfillOf (l : Launch) (D : va_G) (cI cB cZ : ClassId) (zz qq vv : Nat) (bt : Nat → Int32) (g : Nat → Nat) (ad : Nat → Nat → Nat) (cn : Nat → Nat) (In : Nat → Int32) (Fn : Nat → Nat → Int32) (v0 : Int32) (hB : CBX cn) : Met l yX10_fillOf (CWS yX10_fillOf cX10_fillOf 4 (some .int)) (RM 1 0 0) (PBrx [.ref (g 9), .int v0] D cI cB cZ zz qq vv bt (wX cI (D.1 99) zz g ad cn In Fn)) (vp_Si (fun _ => True)) 0 0 (fun _ => False) := by
  refine en_rx rfl pn_RX10 (Nat.le_of_ble_eq_true rfl) (fun p e s m below meth c hx hb hml hown S hr hlocks hnm hP hK hXS hS ls hl => ?_)
  have hl : lv_has ls 4 [(0, .ref (g 9)), (1, .int v0)] := hl
  have hb_cn : Hid (CBX cn) := hB
  replace hB : CBXh cn := hB
  refine lv_iconst (v := 0) hx hb dX10_fillOf_0 kic_0 ?_
  refine lv_istore_n (lv' := [(2, .int 0), (0, .ref (g 9)), (1, .int v0)]) hx hb dX10_fillOf_1 rfl hl (ltb rfl) rfl (fun ls hl => ?_)
  refine lv_iconst (v := 0) hx hb dX10_fillOf_2 kic_0 ?_
  refine lv_istore_n (lv' := [(3, .int 0), (2, .int 0), (0, .ref (g 9)), (1, .int v0)]) hx hb dX10_fillOf_3 rfl hl (ltb rfl) rfl (fun ls hl => ?_)
  have lp_4 : ∀ (n : Nat) (i4 : Nat) (x4_2 : Int32) , cn 4 - i4 < n → (i4 ≤ cn 4) → ∀ ls : Array Slot, lv_has ls 4 [(3, .int (nI i4)), (2, .int x4_2), (0, .ref (g 9)), (1, .int v0)] → W p l e (RM 1 0 0) s m ([.ref (g 9), .int v0]).toArray below meth c s.heap [] 0 0 (MQ below (vp_Si (fun _ => True)) ([.ref (g 9), .int v0]).toArray s 0 0 (fun _ => False)) (F0 m 4 ls []) := by
    intro n4
    induction n4 with
    | zero => intros; (first | omega | (have zz0 := Hid.u hb_cn; omega))
    | succ n4 ih4 =>
      intro i4 x4_2 hmu4 hinv4 ls hl
      have hr4 := hinv4
      have ti4 : (nI i4).toInt = (i4 : Int) := nI_toInt (by (first | omega | (have zz0 := Hid.u hb_cn; omega)))
      refine lv_iload_n hx hb dX10_fillOf_4 rfl (lvA0 hl) ?_
      refine lv_aload_n hx hb dX10_fillOf_5 rfl (lvA2 hl) ?_
      refine gf_RX10_36 S hK hP 17 xo_17 (v := .int (nI (cn 4))) rfl dX10_fillOf_6 ?_
      have : (nI (cn 4)).toInt = (((cn 4) : Nat) : Int) := nI_toInt (by (first | omega | (have zz0 := Hid.u hb_cn; omega)))
      refine lv_icmp_ge (tgt := 41) hx hb dX10_fillOf_9 rfl (fun c_1 => ?_) (fun c_1 => ?_)
      ·
        have tc_1 : ((nI (cn 4)).toInt : Int) ≤ (nI i4).toInt := Int32.le_iff_toInt_le.mp c_1
        refine lv_iload_n hx hb dX10_fillOf_41 rfl (lvA1 hl) ?_
        exact W.iret (v := x4_2) hx hb hr (fun t ht hW => ⟨x4_2, rfl, trivial, ht⟩) (fun _ h => absurd h List.not_mem_nil) dX10_fillOf_42
      ·
        have tc_1 : ((nI i4).toInt : Int) < (nI (cn 4)).toInt := Int32.lt_iff_toInt_lt.mp (Int32.not_le.mp c_1)
        refine lv_iload_n hx hb dX10_fillOf_12 rfl (lvA1 hl) ?_
        refine lv_iload_n hx hb dX10_fillOf_13 rfl (lvA3 hl) ?_
        refine lv_iload_n hx hb dX10_fillOf_14 rfl (lvA0 hl) ?_
        refine lv_ishr hx hb dX10_fillOf_15 ?_
        refine lv_iconst (v := 1) hx hb dX10_fillOf_16 kic_1 ?_
        refine lv_iand hx hb dX10_fillOf_17 ?_
        refine lv_if_eq (tgt := 32) hx hb dX10_fillOf_18 rfl (fun c_2 => ?_) (fun c_2 => ?_)
        ·
          have tc_2 : (((v0 >>> ((nI i4) &&& 31)) &&& 1).toInt : Int) = 0 := congrArg Int32.toInt c_2
          refine lv_iconst (v := 0) hx hb dX10_fillOf_32 kic_0 ?_
          refine lv_iadd hx hb dX10_fillOf_33 ?_
          refine lv_istore_n (lv' := [(2, .int (x4_2 + 0)), (3, .int (nI i4)), (0, .ref (g 9)), (1, .int v0)]) hx hb dX10_fillOf_34 rfl hl (ltb rfl) rfl (fun ls hl => ?_)
          refine lv_iinc (v := (nI (i4 + 1))) (lv' := [(3, .int (nI (i4 + 1))), (2, .int (x4_2 + 0)), (0, .ref (g 9)), (1, .int v0)]) hx hb dX10_fillOf_35 hl (k := 1) rfl (nI_1 _) (ltb rfl) rfl (fun ls hl => ?_)
          refine lv_goto (tgt := 4) hx hb dX10_fillOf_38 rfl ?_
          exact ih4 (i4 + 1) (x4_2 + 0) (by (first | omega | (have zz0 := Hid.u hb_cn; omega))) (by (first | omega | (have zz0 := Hid.u hb_cn; omega))) ls (lv_sub hl [0, 1, 2, 3] rfl)
        ·
          have tc_2 : (((v0 >>> ((nI i4) &&& 31)) &&& 1).toInt : Int) ≠ 0 := fun q => c_2 (Int32.toInt_inj.mp q)
          refine lv_aload_n hx hb dX10_fillOf_21 rfl (lvA2 hl) ?_
          refine gf_RX10_15 S hK hP 17 xo_17 (v := .ref (g 31)) rfl dX10_fillOf_22 ?_
          refine lv_iload_n hx hb dX10_fillOf_25 rfl (lvA0 hl) ?_
          refine vp_callSi (runS_r (As := [.ref (g 31), .int (nI i4)]) (rest := [.int x4_2]) S (q_l_at l D cI cB cZ (g 31) 8 (Fn 31) (nI i4) (by (first | omega | (have zz0 := Hid.u hb_cn; omega)))) kS_RX10_54 hK hP [19] (one_is xo_19) ⟨Nat.le_of_ble_eq_true rfl, Nat.le_of_ble_eq_true rfl⟩ ⟨Nat.le_of_ble_eq_true rfl, Nat.le_of_ble_eq_true rfl⟩ rfl hl.1 rfl (Nat.le_of_ble_eq_true rfl) dX10_fillOf_26) (fun r_3 h_4 => ?_)
          subst h_4
          refine lv_goto (tgt := 33) hx hb dX10_fillOf_29 rfl ?_
          refine lv_iadd hx hb dX10_fillOf_33 ?_
          refine lv_istore_n (lv' := [(2, .int (x4_2 + (atM (Fn 31) 8 (nI i4)))), (3, .int (nI i4)), (0, .ref (g 9)), (1, .int v0)]) hx hb dX10_fillOf_34 rfl hl (ltb rfl) rfl (fun ls hl => ?_)
          refine lv_iinc (v := (nI (i4 + 1))) (lv' := [(3, .int (nI (i4 + 1))), (2, .int (x4_2 + (atM (Fn 31) 8 (nI i4)))), (0, .ref (g 9)), (1, .int v0)]) hx hb dX10_fillOf_35 hl (k := 1) rfl (nI_1 _) (ltb rfl) rfl (fun ls hl => ?_)
          refine lv_goto (tgt := 4) hx hb dX10_fillOf_38 rfl ?_
          exact ih4 (i4 + 1) (x4_2 + (atM (Fn 31) 8 (nI i4))) (by (first | omega | (have zz0 := Hid.u hb_cn; omega))) (by (first | omega | (have zz0 := Hid.u hb_cn; omega))) ls (lv_sub hl [0, 1, 2, 3] rfl)
  exact lp_4 _ 0 0 (Nat.lt_succ_self _) (by (first | omega | (have zz0 := Hid.u hb_cn; omega))) ls (lv_sub hl [0, 1, 2, 3] rfl)
set_option maxRecDepth 100000 in
set_option maxHeartbeats 4000000 in
theorem q_XnextStop (l : Launch) (D : va_G) (cI cB cZ : ClassId) (zz qq vv : Nat) (bt : Nat → Int32) (g : Nat → Nat) (ad : Nat → Nat → Nat) (cn : Nat → Nat) (In : Nat → Int32) (Fn : Nat → Nat → Int32) (v0 v1 : Int32) (hB : CBX cn) : Met l yX10_nextStop (CWS yX10_nextStop cX10_nextStop 5 (some .int)) (RM 5 0 0) (PBrx [.ref (g 9), .int v0, .int v1] D cI cB cZ zz qq vv bt (wX cI (D.1 99) zz g ad cn In Fn)) (vp_Si (fun _ => True)) 0 0 (fun _ => False) := by
  refine en_rx rfl pn_RX10 (Nat.le_of_ble_eq_true rfl) (fun p e s m below meth c hx hb hml hown S hr hlocks hnm hP hK hXS hS ls hl => ?_)
  have hl : lv_has ls 5 [(0, .ref (g 9)), (1, .int v0), (2, .int v1)] := hl
  have hb_cn : Hid (CBX cn) := hB
  replace hB : CBXh cn := hB
  refine lv_aload_n hx hb dX10_nextStop_0 rfl (lvA0 hl) ?_
  refine lv_iload_n hx hb dX10_nextStop_1 rfl (lvA1 hl) ?_
  refine lv_iload_n hx hb dX10_nextStop_2 rfl (lvA2 hl) ?_
  refine vp_callSi (runV_rxa (As := [.int v0, .int v1]) (rest := []) S (q_Xshortest l D cI cB cZ zz qq vv bt g ad cn In Fn v0 v1 hB) kV_RX10_62 hK hXS hS hP 17 xo_17 rfl rfl ⟨Nat.le_of_ble_eq_true rfl, Nat.le_of_ble_eq_true rfl⟩ ⟨Nat.le_of_ble_eq_true rfl, Nat.le_of_ble_eq_true rfl⟩ rfl hl.1 rfl (Nat.le_of_ble_eq_true rfl) dX10_nextStop_3) (fun r_1 h_2 => ?_)
  refine lv_istore_n (lv' := [(3, .int r_1), (0, .ref (g 9)), (1, .int v0), (2, .int v1)]) hx hb dX10_nextStop_6 rfl hl (ltb rfl) rfl (fun ls hl => ?_)
  refine lv_iconst (v := 0) hx hb dX10_nextStop_7 kic_0 ?_
  refine lv_istore (lv' := [(4, .int 0), (3, .int r_1), (0, .ref (g 9)), (1, .int v0), (2, .int v1)]) hx hb dX10_nextStop_8 hl (ltb rfl) rfl (fun ls hl => ?_)
  have lp_10 : ∀ (n : Nat) (i10 : Nat) , cn 4 - i10 < n → (i10 ≤ cn 4) → ∀ ls : Array Slot, lv_has ls 5 [(4, .int (nI i10)), (3, .int r_1), (0, .ref (g 9)), (1, .int v0), (2, .int v1)] → W p l e (RM 5 0 0) s m ([.ref (g 9), .int v0, .int v1]).toArray below meth c s.heap [] 0 0 (MQ below (vp_Si (fun _ => True)) ([.ref (g 9), .int v0, .int v1]).toArray s 0 0 (fun _ => False)) (F0 m 10 ls []) := by
    intro n10
    induction n10 with
    | zero => intros; (first | omega | (have zz0 := Hid.u hb_cn; omega))
    | succ n10 ih10 =>
      intro i10 hmu10 hinv10 ls hl
      have hr10 := hinv10
      have ti10 : (nI i10).toInt = (i10 : Int) := nI_toInt (by (first | omega | (have zz0 := Hid.u hb_cn; omega)))
      refine lv_iload hx hb dX10_nextStop_10 (lvA0 hl) ?_
      refine lv_aload_n hx hb dX10_nextStop_12 rfl (lvA2 hl) ?_
      refine gf_RX10_36 S hK hP 17 xo_17 (v := .int (nI (cn 4))) rfl dX10_nextStop_13 ?_
      have : (nI (cn 4)).toInt = (((cn 4) : Nat) : Int) := nI_toInt (by (first | omega | (have zz0 := Hid.u hb_cn; omega)))
      refine lv_icmp_ge (tgt := 49) hx hb dX10_nextStop_16 rfl (fun c_3 => ?_) (fun c_3 => ?_)
      ·
        have tc_3 : ((nI (cn 4)).toInt : Int) ≤ (nI i10).toInt := Int32.le_iff_toInt_le.mp c_3
        refine lv_iconst (v := (-1)) hx hb dX10_nextStop_49 kic_m1 ?_
        exact W.iret (v := (-1)) hx hb hr (fun t ht hW => ⟨(-1), rfl, trivial, ht⟩) (fun _ h => absurd h List.not_mem_nil) dX10_nextStop_50
      ·
        have tc_3 : ((nI i10).toInt : Int) < (nI (cn 4)).toInt := Int32.lt_iff_toInt_lt.mp (Int32.not_le.mp c_3)
        refine lv_iload_n hx hb dX10_nextStop_19 rfl (lvA4 hl) ?_
        refine lv_iload hx hb dX10_nextStop_20 (lvA0 hl) ?_
        refine lv_ishr hx hb dX10_nextStop_22 ?_
        refine lv_iconst (v := 1) hx hb dX10_nextStop_23 kic_1 ?_
        refine lv_iand hx hb dX10_nextStop_24 ?_
        refine lv_if_eq (tgt := 43) hx hb dX10_nextStop_25 rfl (fun c_4 => ?_) (fun c_4 => ?_)
        ·
          have tc_4 : (((v1 >>> ((nI i10) &&& 31)) &&& 1).toInt : Int) = 0 := congrArg Int32.toInt c_4
          refine lv_iinc (v := (nI (i10 + 1))) (lv' := [(4, .int (nI (i10 + 1))), (3, .int r_1), (0, .ref (g 9)), (1, .int v0), (2, .int v1)]) hx hb dX10_nextStop_43 hl (k := 0) rfl (nI_1 _) (ltb rfl) rfl (fun ls hl => ?_)
          refine lv_goto (tgt := 10) hx hb dX10_nextStop_46 rfl ?_
          exact ih10 (i10 + 1) (by (first | omega | (have zz0 := Hid.u hb_cn; omega))) (by (first | omega | (have zz0 := Hid.u hb_cn; omega))) ls (lv_sub hl [0, 1, 2, 3, 4] rfl)
        ·
          have tc_4 : (((v1 >>> ((nI i10) &&& 31)) &&& 1).toInt : Int) ≠ 0 := fun q => c_4 (Int32.toInt_inj.mp q)
          refine lv_aload_n hx hb dX10_nextStop_28 rfl (lvA2 hl) ?_
          refine lv_iload_n hx hb dX10_nextStop_29 rfl (lvA3 hl) ?_
          refine lv_iload hx hb dX10_nextStop_30 (lvA0 hl) ?_
          refine lv_iload_n hx hb dX10_nextStop_32 rfl (lvA4 hl) ?_
          refine vp_callSi (runV_rxa (As := [.int v0, .int (nI i10), .int v1]) (rest := []) S (q_Xthrough l D cI cB cZ zz qq vv bt g ad cn In Fn v0 (nI i10) v1 hB) kV_RX10_69 hK hXS hS hP 17 xo_17 rfl rfl ⟨Nat.le_of_ble_eq_true rfl, Nat.le_of_ble_eq_true rfl⟩ ⟨Nat.le_of_ble_eq_true rfl, Nat.le_of_ble_eq_true rfl⟩ rfl hl.1 rfl (Nat.le_of_ble_eq_true rfl) dX10_nextStop_33) (fun r_5 h_6 => ?_)
          refine lv_iload_n hx hb dX10_nextStop_36 rfl (lvA1 hl) ?_
          refine lv_icmp_ne (tgt := 43) hx hb dX10_nextStop_37 rfl (fun c_7 => ?_) (fun c_7 => ?_)
          ·
            have tc_7 : (r_5.toInt : Int) ≠ r_1.toInt := fun q => c_7 (Int32.toInt_inj.mp q)
            refine lv_iinc (v := (nI (i10 + 1))) (lv' := [(4, .int (nI (i10 + 1))), (3, .int r_1), (0, .ref (g 9)), (1, .int v0), (2, .int v1)]) hx hb dX10_nextStop_43 hl (k := 0) rfl (nI_1 _) (ltb rfl) rfl (fun ls hl => ?_)
            refine lv_goto (tgt := 10) hx hb dX10_nextStop_46 rfl ?_
            exact ih10 (i10 + 1) (by (first | omega | (have zz0 := Hid.u hb_cn; omega))) (by (first | omega | (have zz0 := Hid.u hb_cn; omega))) ls (lv_sub hl [0, 1, 2, 3, 4] rfl)
          ·
            have tc_7 : (r_5.toInt : Int) = r_1.toInt := congrArg Int32.toInt c_7
            refine lv_iload hx hb dX10_nextStop_40 (lvA0 hl) ?_
            exact W.iret (v := (nI i10)) hx hb hr (fun t ht hW => ⟨(nI i10), rfl, trivial, ht⟩) (fun _ h => absurd h List.not_mem_nil) dX10_nextStop_42
  exact lp_10 _ 0 (Nat.lt_succ_self _) (by (first | omega | (have zz0 := Hid.u hb_cn; omega))) ls (lv_sub hl [0, 1, 2, 3, 4] rfl)
set_option maxRecDepth 100000 in
set_option maxHeartbeats 4000000 in
theorem q_XkitchenInRow (l : Launch) (D : va_G) (cI cB cZ : ClassId) (zz qq vv : Nat) (bt : Nat → Int32) (g : Nat → Nat) (ad : Nat → Nat → Nat) (cn : Nat → Nat) (In : Nat → Int32) (Fn : Nat → Nat → Int32) (v0 : Int32) (hB : CBX cn) : Met l yX10_kitchenInRow (CWS yX10_kitchenInRow cX10_kitchenInRow 5 (some .int)) (RM 6 0 0) (PBrx [.ref (g 9), .int v0] D cI cB cZ zz qq vv bt (wX cI (D.1 99) zz g ad cn In Fn)) (vp_Si (fun _ => True)) 0 0 (fun _ => False) := by
  refine en_rx rfl pn_RX10 (Nat.le_of_ble_eq_true rfl) (fun p e s m below meth c hx hb hml hown S hr hlocks hnm hP hK hXS hS ls hl => ?_)
  have hl : lv_has ls 5 [(0, .ref (g 9)), (1, .int v0)] := hl
  have hb_cn : Hid (CBX cn) := hB
  replace hB : CBXh cn := hB
  refine lv_iload_n hx hb dX10_kitchenInRow_0 rfl (lvA1 hl) ?_
  refine lv_if_lt (tgt := 12) hx hb dX10_kitchenInRow_1 rfl (fun c_1 => ?_) (fun c_1 => ?_)
  ·
    have tc_1 : (v0.toInt : Int) < 0 := Int32.lt_iff_toInt_lt.mp c_1
    refine lv_iconst (v := (-1)) hx hb dX10_kitchenInRow_12 kic_m1 ?_
    exact W.iret (v := (-1)) hx hb hr (fun t ht hW => ⟨(-1), rfl, trivial, ht⟩) (fun _ h => absurd h List.not_mem_nil) dX10_kitchenInRow_13
  ·
    have tc_1 : (0 : Int) ≤ v0.toInt := Int32.le_iff_toInt_le.mp (Int32.not_lt.mp c_1)
    refine lv_iload_n hx hb dX10_kitchenInRow_4 rfl (lvA1 hl) ?_
    refine lv_aload_n hx hb dX10_kitchenInRow_5 rfl (lvA0 hl) ?_
    refine gf_RX10_36 S hK hP 17 xo_17 (v := .int (nI (cn 4))) rfl dX10_kitchenInRow_6 ?_
    have : (nI (cn 4)).toInt = (((cn 4) : Nat) : Int) := nI_toInt (by (first | omega | (have zz0 := Hid.u hb_cn; omega)))
    refine lv_icmp_lt (tgt := 14) hx hb dX10_kitchenInRow_9 rfl (fun c_2 => ?_) (fun c_2 => ?_)
    ·
      have tc_2 : (v0.toInt : Int) < (nI (cn 4)).toInt := Int32.lt_iff_toInt_lt.mp c_2
      obtain ⟨d0, hd0, rfl⟩ := nI_of (x := v0) (fun q => by have := Int32.lt_iff_toInt_lt.mp q; have e : (0 : Int32).toInt = 0 := rfl; (first | omega | (have zz0 := Hid.u hb_cn; omega)))
      have td0 : (nI d0).toInt = (d0 : Int) := nI_toInt hd0
      have zd0 : (nI d0).toInt.toNat = d0 := by (first | omega | (have zz0 := Hid.u hb_cn; omega))
      refine lv_iconst (v := 1) hx hb dX10_kitchenInRow_14 kic_1 ?_
      refine lv_aload_n hx hb dX10_kitchenInRow_15 rfl (lvA0 hl) ?_
      refine gf_RX10_36 S hK hP 17 xo_17 (v := .int (nI (cn 4))) rfl dX10_kitchenInRow_16 ?_
      refine lv_ishl hx hb dX10_kitchenInRow_19 ?_
      refine lv_iconst (v := 1) hx hb dX10_kitchenInRow_20 kic_1 ?_
      refine lv_isub hx hb dX10_kitchenInRow_21 ?_
      refine lv_istore_n (lv' := [(2, .int ((1 <<< ((nI (cn 4)) &&& 31)) - 1)), (0, .ref (g 9)), (1, .int (nI d0))]) hx hb dX10_kitchenInRow_22 rfl hl (ltb rfl) rfl (fun ls hl => ?_)
      refine lv_iconst (v := (-1)) hx hb dX10_kitchenInRow_23 kic_m1 ?_
      refine lv_istore_n (lv' := [(3, .int (-1)), (2, .int ((1 <<< ((nI (cn 4)) &&& 31)) - 1)), (0, .ref (g 9)), (1, .int (nI d0))]) hx hb dX10_kitchenInRow_24 rfl hl (ltb rfl) rfl (fun ls hl => ?_)
      refine lv_iconst (v := 0) hx hb dX10_kitchenInRow_25 kic_0 ?_
      refine lv_istore (lv' := [(4, .int 0), (3, .int (-1)), (2, .int ((1 <<< ((nI (cn 4)) &&& 31)) - 1)), (0, .ref (g 9)), (1, .int (nI d0))]) hx hb dX10_kitchenInRow_26 hl (ltb rfl) rfl (fun ls hl => ?_)
      have lp_28 : ∀ (n : Nat) (i28 : Nat) (x28_2 : Int32) (x28_3 : Int32) , d0 + 1 - i28 < n → (i28 ≤ d0 + 1) → ∀ ls : Array Slot, lv_has ls 5 [(4, .int (nI i28)), (3, .int x28_3), (2, .int x28_2), (0, .ref (g 9)), (1, .int (nI d0))] → W p l e (RM 6 0 0) s m ([.ref (g 9), .int (nI d0)]).toArray below meth c s.heap [] 0 0 (MQ below (vp_Si (fun _ => True)) ([.ref (g 9), .int (nI d0)]).toArray s 0 0 (fun _ => False)) (F0 m 28 ls []) := by
        intro n28
        induction n28 with
        | zero => intros; (first | omega | (have zz0 := Hid.u hb_cn; omega))
        | succ n28 ih28 =>
          intro i28 x28_2 x28_3 hmu28 hinv28 ls hl
          have hr28 := hinv28
          have ti28 : (nI i28).toInt = (i28 : Int) := nI_toInt (by (first | omega | (have zz0 := Hid.u hb_cn; omega)))
          refine lv_iload hx hb dX10_kitchenInRow_28 (lvA0 hl) ?_
          refine lv_iload_n hx hb dX10_kitchenInRow_30 rfl (lvA4 hl) ?_
          refine lv_icmp_gt (tgt := 63) hx hb dX10_kitchenInRow_31 rfl (fun c_3 => ?_) (fun c_3 => ?_)
          ·
            have tc_3 : ((nI d0).toInt : Int) < (nI i28).toInt := Int32.lt_iff_toInt_lt.mp c_3
            refine lv_iload_n hx hb dX10_kitchenInRow_63 rfl (lvA1 hl) ?_
            refine lv_if_ge (tgt := 71) hx hb dX10_kitchenInRow_64 rfl (fun c_4 => ?_) (fun c_4 => ?_)
            ·
              have tc_4 : (0 : Int) ≤ x28_3.toInt := Int32.le_iff_toInt_le.mp c_4
              refine lv_aload_n hx hb dX10_kitchenInRow_71 rfl (lvA3 hl) ?_
              refine gf_RX10_9 S hK hP 17 xo_17 (v := .ref (g 30)) rfl dX10_kitchenInRow_72 ?_
              refine lv_iload_n hx hb dX10_kitchenInRow_75 rfl (lvA1 hl) ?_
              refine vp_callSi (runS_r (As := [.ref (g 30), .int x28_3]) (rest := []) S (q_l_at l D cI cB cZ (g 30) 8 (Fn 30) x28_3 (by (first | omega | (have zz0 := Hid.u hb_cn; omega)))) kS_RX10_54 hK hP [18] (one_is xo_18) ⟨Nat.le_of_ble_eq_true rfl, Nat.le_of_ble_eq_true rfl⟩ ⟨Nat.le_of_ble_eq_true rfl, Nat.le_of_ble_eq_true rfl⟩ rfl hl.1 rfl (Nat.le_of_ble_eq_true rfl) dX10_kitchenInRow_76) (fun r_5 h_6 => ?_)
              subst h_6
              exact W.iret (v := (atM (Fn 30) 8 x28_3)) hx hb hr (fun t ht hW => ⟨(atM (Fn 30) 8 x28_3), rfl, trivial, ht⟩) (fun _ h => absurd h List.not_mem_nil) dX10_kitchenInRow_79
            ·
              have tc_4 : (x28_3.toInt : Int) < 0 := Int32.lt_iff_toInt_lt.mp (Int32.not_le.mp c_4)
              refine lv_iconst (v := (-1)) hx hb dX10_kitchenInRow_67 kic_m1 ?_
              refine lv_goto (tgt := 79) hx hb dX10_kitchenInRow_68 rfl ?_
              exact W.iret (v := (-1)) hx hb hr (fun t ht hW => ⟨(-1), rfl, trivial, ht⟩) (fun _ h => absurd h List.not_mem_nil) dX10_kitchenInRow_79
          ·
            have tc_3 : ((nI i28).toInt : Int) ≤ (nI d0).toInt := Int32.le_iff_toInt_le.mp (Int32.not_lt.mp c_3)
            refine lv_aload_n hx hb dX10_kitchenInRow_34 rfl (lvA3 hl) ?_
            refine lv_iload_n hx hb dX10_kitchenInRow_35 rfl (lvA1 hl) ?_
            refine lv_iload_n hx hb dX10_kitchenInRow_36 rfl (lvA2 hl) ?_
            refine vp_callSi (runV_rxa (As := [.int x28_3, .int x28_2]) (rest := []) S (q_XnextStop l D cI cB cZ zz qq vv bt g ad cn In Fn x28_3 x28_2 hB) kV_RX10_76 hK hXS hS hP 17 xo_17 rfl rfl ⟨Nat.le_of_ble_eq_true rfl, Nat.le_of_ble_eq_true rfl⟩ ⟨Nat.le_of_ble_eq_true rfl, Nat.le_of_ble_eq_true rfl⟩ rfl hl.1 rfl (Nat.le_of_ble_eq_true rfl) dX10_kitchenInRow_37) (fun r_7 h_8 => ?_)
            refine lv_istore_n (lv' := [(3, .int r_7), (4, .int (nI i28)), (2, .int x28_2), (0, .ref (g 9)), (1, .int (nI d0))]) hx hb dX10_kitchenInRow_40 rfl hl (ltb rfl) rfl (fun ls hl => ?_)
            refine lv_iload_n hx hb dX10_kitchenInRow_41 rfl (lvA2 hl) ?_
            refine lv_iload_n hx hb dX10_kitchenInRow_42 rfl (lvA0 hl) ?_
            refine lv_if_ge (tgt := 50) hx hb dX10_kitchenInRow_43 rfl (fun c_9 => ?_) (fun c_9 => ?_)
            ·
              have tc_9 : (0 : Int) ≤ r_7.toInt := Int32.le_iff_toInt_le.mp c_9
              refine lv_iconst (v := 1) hx hb dX10_kitchenInRow_50 kic_1 ?_
              refine lv_iload_n hx hb dX10_kitchenInRow_51 rfl (lvA0 hl) ?_
              refine lv_ishl hx hb dX10_kitchenInRow_52 ?_
              refine lv_iconst (v := (-1)) hx hb dX10_kitchenInRow_53 kic_m1 ?_
              refine lv_ixor hx hb dX10_kitchenInRow_54 ?_
              refine lv_iand hx hb dX10_kitchenInRow_55 ?_
              refine lv_istore_n (lv' := [(2, .int (x28_2 &&& ((1 <<< (r_7 &&& 31)) ^^^ (-1)))), (3, .int r_7), (4, .int (nI i28)), (0, .ref (g 9)), (1, .int (nI d0))]) hx hb dX10_kitchenInRow_56 rfl hl (ltb rfl) rfl (fun ls hl => ?_)
              refine lv_iinc (v := (nI (i28 + 1))) (lv' := [(4, .int (nI (i28 + 1))), (2, .int (x28_2 &&& ((1 <<< (r_7 &&& 31)) ^^^ (-1)))), (3, .int r_7), (0, .ref (g 9)), (1, .int (nI d0))]) hx hb dX10_kitchenInRow_57 hl (k := 2) rfl (nI_1 _) (ltb rfl) rfl (fun ls hl => ?_)
              refine lv_goto (tgt := 28) hx hb dX10_kitchenInRow_60 rfl ?_
              exact ih28 (i28 + 1) (x28_2 &&& ((1 <<< (r_7 &&& 31)) ^^^ (-1))) r_7 (by (first | omega | (have zz0 := Hid.u hb_cn; omega))) (by (first | omega | (have zz0 := Hid.u hb_cn; omega))) ls (lv_sub hl [0, 2, 1, 3, 4] rfl)
            ·
              have tc_9 : (r_7.toInt : Int) < 0 := Int32.lt_iff_toInt_lt.mp (Int32.not_le.mp c_9)
              refine lv_iconst (v := 0) hx hb dX10_kitchenInRow_46 kic_0 ?_
              refine lv_goto (tgt := 55) hx hb dX10_kitchenInRow_47 rfl ?_
              refine lv_iand hx hb dX10_kitchenInRow_55 ?_
              refine lv_istore_n (lv' := [(2, .int (x28_2 &&& 0)), (3, .int r_7), (4, .int (nI i28)), (0, .ref (g 9)), (1, .int (nI d0))]) hx hb dX10_kitchenInRow_56 rfl hl (ltb rfl) rfl (fun ls hl => ?_)
              refine lv_iinc (v := (nI (i28 + 1))) (lv' := [(4, .int (nI (i28 + 1))), (2, .int (x28_2 &&& 0)), (3, .int r_7), (0, .ref (g 9)), (1, .int (nI d0))]) hx hb dX10_kitchenInRow_57 hl (k := 2) rfl (nI_1 _) (ltb rfl) rfl (fun ls hl => ?_)
              refine lv_goto (tgt := 28) hx hb dX10_kitchenInRow_60 rfl ?_
              exact ih28 (i28 + 1) (x28_2 &&& 0) r_7 (by (first | omega | (have zz0 := Hid.u hb_cn; omega))) (by (first | omega | (have zz0 := Hid.u hb_cn; omega))) ls (lv_sub hl [0, 2, 1, 3, 4] rfl)
      exact lp_28 _ 0 ((1 <<< ((nI (cn 4)) &&& 31)) - 1) (-1) (Nat.lt_succ_self _) (by (first | omega | (have zz0 := Hid.u hb_cn; omega))) ls (lv_sub hl [0, 1, 2, 3, 4] rfl)
    ·
      have tc_2 : ((nI (cn 4)).toInt : Int) ≤ v0.toInt := Int32.le_iff_toInt_le.mp (Int32.not_lt.mp c_2)
      refine lv_iconst (v := (-1)) hx hb dX10_kitchenInRow_12 kic_m1 ?_
      exact W.iret (v := (-1)) hx hb hr (fun t ht hW => ⟨(-1), rfl, trivial, ht⟩) (fun _ h => absurd h List.not_mem_nil) dX10_kitchenInRow_13
set_option maxRecDepth 100000 in
set_option maxHeartbeats 4000000 in
theorem q_XstartTrial (l : Launch) (D : va_G) (cI cB cZ : ClassId) (zz qq vv : Nat) (bt : Nat → Int32) (g : Nat → Nat) (ad : Nat → Nat → Nat) (cn : Nat → Nat) (In : Nat → Int32) (Fn : Nat → Nat → Int32) (v0 : Int32) (sz : Nat) (hB : CBX cn) : Met l yX11_startTrial (CWS yX11_startTrial cX11_startTrial 5 (some .boolean)) (RM 3 0 0) (PBx [.ref (g 0), .int v0] D cI cB cZ zz qq vv bt (wX cI (D.1 99) zz g ad cn In Fn) sz) (va_Qi (fun (r : Int32) (u : (Nat → Nat) × (Nat → Int32) × (Nat → Nat → Int32)) => (fun r c2 I2 F2 => Fr [] [] [105] cn In Fn c2 I2 F2 ∧ CBX c2 ∧ (True)) r u.1 u.2.1 u.2.2) (fun (u : (Nat → Nat) × (Nat → Int32) × (Nat → Nat → Int32)) (t : State) => va_P D vwCl (wX cI (D.1 99) zz g ad u.1 u.2.1 u.2.2) t.heap ∧ va_D (va_A (wX cI (D.1 99) zz g ad cn In Fn) sz) (wX cI (D.1 99) zz g ad u.1 u.2.1 u.2.2)) (va_A (wX cI (D.1 99) zz g ad cn In Fn) sz)) 0 0 (va_A (wX cI (D.1 99) zz g ad cn In Fn) sz) := by
  refine en_x (fun A => (va_Qi (fun (r : Int32) (u : (Nat → Nat) × (Nat → Int32) × (Nat → Nat → Int32)) => (fun (r : Int32) (c2 : Nat → Nat) (I2 : Nat → Int32) (F2 : Nat → Nat → Int32) => Fr [] [] [105] cn In Fn c2 I2 F2 ∧ CBX c2 ∧ (True)) r u.1 u.2.1 u.2.2) (fun (u : (Nat → Nat) × (Nat → Int32) × (Nat → Nat → Int32)) (t : State) => va_P D vwCl (wX cI (D.1 99) zz g ad u.1 u.2.1 u.2.2) t.heap ∧ va_D A (wX cI (D.1 99) zz g ad u.1 u.2.1 u.2.2)) A)) rfl rfl pn_RX11 (Nat.le_of_ble_eq_true rfl) (fun p e s m below meth c A hx hb hml hown S hr hlocks hnm hA hP hK hD hXS hS ls hl => ?_)
  have hl : lv_has ls 5 [(0, .ref (g 0)), (1, .int v0)] := hl
  have hb_cn : Hid (CBX cn) := hB
  replace hB : CBXh cn := hB
  refine lv_iconst (v := 0) hx hb dX11_startTrial_0 kic_0 ?_
  refine lv_istore_n (lv' := [(2, .int 0), (0, .ref (g 0)), (1, .int v0)]) hx hb dX11_startTrial_1 rfl hl (ltb rfl) rfl (fun ls hl => ?_)
  refine lv_iconst (v := 0) hx hb dX11_startTrial_2 kic_0 ?_
  refine lv_istore_n (lv' := [(3, .int 0), (2, .int 0), (0, .ref (g 0)), (1, .int v0)]) hx hb dX11_startTrial_3 rfl hl (ltb rfl) rfl (fun ls hl => ?_)
  have lp_4 : ∀ (n : Nat) (i4 : Nat) (x4_2 : Int32) (F4 : Nat → Nat → Int32) (H : Heap) (locs : List Loc) , cn 10 - i4 < n → (i4 ≤ cn 10 ∧ Fr [] [] [105] cn In Fn cn In F4 ∧ CBX cn) → va_P D vwCl (wX cI (D.1 99) zz g ad cn In F4) H → va_D A (wX cI (D.1 99) zz g ad cn In F4) → va_S A s.heap H locs → ∀ ls : Array Slot, lv_has ls 5 [(3, .int (nI i4)), (2, .int x4_2), (0, .ref (g 0)), (1, .int v0)] → W p l e (RM 3 0 0) s m ([.ref (g 0), .int v0]).toArray below meth c H locs 0 0 (MQ below (va_Qi (fun (r : Int32) (u : (Nat → Nat) × (Nat → Int32) × (Nat → Nat → Int32)) => (fun r c2 I2 F2 => Fr [] [] [105] cn In Fn c2 I2 F2 ∧ CBX c2 ∧ (True)) r u.1 u.2.1 u.2.2) (fun (u : (Nat → Nat) × (Nat → Int32) × (Nat → Nat → Int32)) (t : State) => va_P D vwCl (wX cI (D.1 99) zz g ad u.1 u.2.1 u.2.2) t.heap ∧ va_D A (wX cI (D.1 99) zz g ad u.1 u.2.1 u.2.2)) A) ([.ref (g 0), .int v0]).toArray s 0 0 A) (F0 m 4 ls []) := by
    intro n4
    induction n4 with
    | zero => intros; (first | omega | (have zz0 := Hid.u hb_cn; omega))
    | succ n4 ih4 =>
      intro i4 x4_2 F4 H locs hmu4 hinv4 hP hD hS ls hl
      obtain ⟨hr4, hfr4, hI4⟩ := hinv4
      have ti4 : (nI i4).toInt = (i4 : Int) := nI_toInt (by (first | omega | (have zz0 := Hid.u hb_cn; omega)))
      replace hI4 : CBXh cn := hI4
      refine lv_iload_n hx hb dX11_startTrial_4 rfl (lvA0 hl) ?_
      refine lv_aload_n hx hb dX11_startTrial_5 rfl (lvA2 hl) ?_
      refine gf_RX11_61 S hK hP 0 xo_0 (v := .ref (g 10)) rfl dX11_startTrial_6 ?_
      refine vp_callSi (runV_r (As := []) (rest := [.int (nI i4)]) S (q_l_size l D cI cB cZ (g 10) (if (cn 10) = 0 then zz else ad 2 0) (In 10) (nI (cn 10))) kV_RX11_84 hK hP [24] (one_is xo_24) 24 xo_24 rfl rfl ⟨Nat.le_of_ble_eq_true rfl, Nat.le_of_ble_eq_true rfl⟩ ⟨Nat.le_of_ble_eq_true rfl, Nat.le_of_ble_eq_true rfl⟩ rfl hl.1 rfl (Nat.le_of_ble_eq_true rfl) dX11_startTrial_9) (fun r_1 h_2 => ?_)
      subst h_2
      have : (nI (cn 10)).toInt = (((cn 10) : Nat) : Int) := nI_toInt (by (first | omega | (have zz0 := Hid.u hb_cn; omega)))
      refine lv_icmp_ge (tgt := 63) hx hb dX11_startTrial_12 rfl (fun c_3 => ?_) (fun c_3 => ?_)
      ·
        have tc_3 : ((nI (cn 10)).toInt : Int) ≤ (nI i4).toInt := Int32.le_iff_toInt_le.mp c_3
        refine lv_iload_n hx hb dX11_startTrial_63 rfl (lvA1 hl) ?_
        refine lv_if_ne (tgt := 71) hx hb dX11_startTrial_64 rfl (fun c_4 => ?_) (fun c_4 => ?_)
        ·
          have tc_4 : (x4_2.toInt : Int) ≠ 0 := fun q => c_4 (Int32.toInt_inj.mp q)
          refine lv_iconst (v := 0) hx hb dX11_startTrial_71 kic_0 ?_
          exact W.zret (v := 0) hx hb hr rfl (fun t ht hW => ⟨⟨0, (cn, In, F4), rfl, ⟨(Fr.mo hfr4 (sbl rfl) (sbl rfl) (sbl rfl)), hI4, trivial⟩, by rw [ht]; exact hP, hD⟩, hS.F ht⟩) hS.2.2 dX11_startTrial_72
        ·
          have tc_4 : (x4_2.toInt : Int) = 0 := congrArg Int32.toInt c_4
          refine lv_iconst (v := 1) hx hb dX11_startTrial_67 kic_1 ?_
          refine lv_goto (tgt := 72) hx hb dX11_startTrial_68 rfl ?_
          exact W.zret (v := 1) hx hb hr rfl (fun t ht hW => ⟨⟨1, (cn, In, F4), rfl, ⟨(Fr.mo hfr4 (sbl rfl) (sbl rfl) (sbl rfl)), hI4, trivial⟩, by rw [ht]; exact hP, hD⟩, hS.F ht⟩) hS.2.2 dX11_startTrial_72
      ·
        have tc_3 : ((nI i4).toInt : Int) < (nI (cn 10)).toInt := Int32.lt_iff_toInt_lt.mp (Int32.not_le.mp c_3)
        refine lv_aload_n hx hb dX11_startTrial_15 rfl (lvA2 hl) ?_
        refine gf_RX11_61 S hK hP 0 xo_0 (v := .ref (g 10)) rfl dX11_startTrial_16 ?_
        refine lv_iload_n hx hb dX11_startTrial_19 rfl (lvA0 hl) ?_
        refine va_csq (runV_rx (As := [.int (nI i4)]) (rest := []) S (q_l_get l D cI cB cZ zz qq vv bt (g 10) (ad 2 0) (cn 20) (cn 10) i4 (ad 10 i4) (In 10) (fun i => if i < (cn 10) then some (ad 10 i) else none) (by (first | omega | (have zz0 := Hid.u hb_cn; omega))) (if_pos (by (first | omega | (have zz0 := Hid.u hb_cn; omega)))) (by (first | omega | (have zz0 := Hid.u hb_cn; omega))) (by (first | omega | (have zz0 := Hid.u hb_cn; omega)))) kV_RX11_87 hK hXS hS hP _ (two_is (xl_0 (by (first | omega | (have zz0 := Hid.u hb_cn; omega)))) (xf_13 (k := 0) (by (first | omega | (have zz0 := Hid.u hb_cn; omega))))) (va_recv hK.1 hP (ci := 0) rfl xo_24) ⟨Nat.le_of_ble_eq_true rfl, Nat.le_of_ble_eq_true rfl⟩ ⟨Nat.le_of_ble_eq_true rfl, Nat.le_of_ble_eq_true rfl⟩ rfl hl.1 rfl (Nat.le_of_ble_eq_true rfl) dX11_startTrial_20) (fun r_5 h_6 => ?_)
        subst h_6
        have kf_1 : i4 < cn 10 := by (first | omega | (have zz0 := Hid.u hb_cn; omega))
        refine va_castS hx hb hown (S.2.2.2.2 _ (wk2_5 3 rfl rfl)) (xclass hK.1 (ci := 2) rfl) (va_recv hK.1 hP (ci := 2) rfl (xf_0 kf_1)) dX11_startTrial_23 ?_
        refine lv_astore (lv' := [(4, .ref (ad 10 i4)), (3, .int (nI i4)), (2, .int x4_2), (0, .ref (g 0)), (1, .int v0)]) hx hb dX11_startTrial_26 hl (ltb rfl) rfl (fun ls hl => ?_)
        refine lv_aload hx hb dX11_startTrial_28 (lvA0 hl) ?_
        refine lv_aload hx hb dX11_startTrial_30 (lvA0 hl) ?_
        refine gf_RX11_118 S hK hP _ (xf_0 kf_1) (v := .int ((F4 104) i4)) rfl dX11_startTrial_32 ?_
        refine pf_RX11_263 S hK hP hD hS _ (xf_0 kf_1) (v := .int ((F4 104) i4)) (Nat.le_of_ble_eq_true rfl) rfl rfl dX11_startTrial_35 (fun H locs hP hD hS => ?_)
        have hP : va_P D vwCl (wX cI (D.1 99) zz g ad cn In (va_up F4 105 (upd (F4 105) i4 ((F4 104) i4)))) H := va_P_eq (xs_105 (by (first | omega | (have zz0 := Hid.u hb_cn; omega)))) hP
        have hD : va_D A (wX cI (D.1 99) zz g ad cn In (va_up F4 105 (upd (F4 105) i4 ((F4 104) i4)))) := va_D_eq (xs_105 (by (first | omega | (have zz0 := Hid.u hb_cn; omega)))) hD
        refine lv_iload_n hx hb dX11_startTrial_38 rfl (lvA2 hl) ?_
        refine lv_if_ne (tgt := 51) hx hb dX11_startTrial_39 rfl (fun c_7 => ?_) (fun c_7 => ?_)
        ·
          have tc_7 : (x4_2.toInt : Int) ≠ 0 := fun q => c_7 (Int32.toInt_inj.mp q)
          refine lv_iconst (v := 1) hx hb dX11_startTrial_51 kic_1 ?_
          refine lv_goto (tgt := 56) hx hb dX11_startTrial_52 rfl ?_
          refine lv_istore_n (lv' := [(2, .int 1), (4, .ref (ad 10 i4)), (3, .int (nI i4)), (0, .ref (g 0)), (1, .int v0)]) hx hb dX11_startTrial_56 rfl hl (ltb rfl) rfl (fun ls hl => ?_)
          refine lv_iinc (v := (nI (i4 + 1))) (lv' := [(3, .int (nI (i4 + 1))), (2, .int 1), (4, .ref (ad 10 i4)), (0, .ref (g 0)), (1, .int v0)]) hx hb dX11_startTrial_57 hl (k := 2) rfl (nI_1 _) (ltb rfl) rfl (fun ls hl => ?_)
          refine lv_goto (tgt := 4) hx hb dX11_startTrial_60 rfl ?_
          exact ih4 (i4 + 1) 1 (va_up F4 105 (upd (F4 105) i4 ((F4 104) i4))) _ _ (by (first | omega | (have zz0 := Hid.u hb_cn; omega))) ⟨(by (first | omega | (have zz0 := Hid.u hb_cn; omega))), (Fr.mo (Fr.f 105 hfr4) (sbl rfl) (sbl rfl) (sbl rfl)), hI4⟩ hP hD hS ls (lv_sub hl [0, 1, 3, 4] rfl)
        ·
          have tc_7 : (x4_2.toInt : Int) = 0 := congrArg Int32.toInt c_7
          refine lv_aload hx hb dX11_startTrial_42 (lvA0 hl) ?_
          refine gf_RX11_118 S hK hP _ (xf_0 kf_1) (v := .int ((F4 104) i4)) rfl dX11_startTrial_44 ?_
          refine lv_iload_n hx hb dX11_startTrial_47 rfl (lvA4 hl) ?_
          refine lv_icmp_le (tgt := 55) hx hb dX11_startTrial_48 rfl (fun c_8 => ?_) (fun c_8 => ?_)
          ·
            have tc_8 : (((F4 104) i4).toInt : Int) ≤ v0.toInt := Int32.le_iff_toInt_le.mp c_8
            refine lv_iconst (v := 0) hx hb dX11_startTrial_55 kic_0 ?_
            refine lv_istore_n (lv' := [(2, .int 0), (4, .ref (ad 10 i4)), (3, .int (nI i4)), (0, .ref (g 0)), (1, .int v0)]) hx hb dX11_startTrial_56 rfl hl (ltb rfl) rfl (fun ls hl => ?_)
            refine lv_iinc (v := (nI (i4 + 1))) (lv' := [(3, .int (nI (i4 + 1))), (2, .int 0), (4, .ref (ad 10 i4)), (0, .ref (g 0)), (1, .int v0)]) hx hb dX11_startTrial_57 hl (k := 2) rfl (nI_1 _) (ltb rfl) rfl (fun ls hl => ?_)
            refine lv_goto (tgt := 4) hx hb dX11_startTrial_60 rfl ?_
            exact ih4 (i4 + 1) 0 (va_up F4 105 (upd (F4 105) i4 ((F4 104) i4))) _ _ (by (first | omega | (have zz0 := Hid.u hb_cn; omega))) ⟨(by (first | omega | (have zz0 := Hid.u hb_cn; omega))), (Fr.mo (Fr.f 105 hfr4) (sbl rfl) (sbl rfl) (sbl rfl)), hI4⟩ hP hD hS ls (lv_sub hl [0, 1, 3, 4] rfl)
          ·
            have tc_8 : (v0.toInt : Int) < ((F4 104) i4).toInt := Int32.lt_iff_toInt_lt.mp (Int32.not_le.mp c_8)
            refine lv_iconst (v := 1) hx hb dX11_startTrial_51 kic_1 ?_
            refine lv_goto (tgt := 56) hx hb dX11_startTrial_52 rfl ?_
            refine lv_istore_n (lv' := [(2, .int 1), (4, .ref (ad 10 i4)), (3, .int (nI i4)), (0, .ref (g 0)), (1, .int v0)]) hx hb dX11_startTrial_56 rfl hl (ltb rfl) rfl (fun ls hl => ?_)
            refine lv_iinc (v := (nI (i4 + 1))) (lv' := [(3, .int (nI (i4 + 1))), (2, .int 1), (4, .ref (ad 10 i4)), (0, .ref (g 0)), (1, .int v0)]) hx hb dX11_startTrial_57 hl (k := 2) rfl (nI_1 _) (ltb rfl) rfl (fun ls hl => ?_)
            refine lv_goto (tgt := 4) hx hb dX11_startTrial_60 rfl ?_
            exact ih4 (i4 + 1) 1 (va_up F4 105 (upd (F4 105) i4 ((F4 104) i4))) _ _ (by (first | omega | (have zz0 := Hid.u hb_cn; omega))) ⟨(by (first | omega | (have zz0 := Hid.u hb_cn; omega))), (Fr.mo (Fr.f 105 hfr4) (sbl rfl) (sbl rfl) (sbl rfl)), hI4⟩ hP hD hS ls (lv_sub hl [0, 1, 3, 4] rfl)
  exact lp_4 _ 0 0 Fn _ _ (Nat.lt_succ_self _) ⟨(by (first | omega | (have zz0 := Hid.u hb_cn; omega))), (Fr.mo Fr.rf (sbl rfl) (sbl rfl) (sbl rfl)), hB⟩ hP hD hS ls (lv_sub hl [0, 1, 2, 3] rfl)
set_option maxRecDepth 100000 in
set_option maxHeartbeats 4000000 in
theorem q_XgatherStops (l : Launch) (D : va_G) (cI cB cZ : ClassId) (zz qq vv : Nat) (bt : Nat → Int32) (g : Nat → Nat) (ad : Nat → Nat → Nat) (cn : Nat → Nat) (In : Nat → Int32) (Fn : Nat → Nat → Int32) (v0 v1 v2 : Int32) (sz : Nat) (hB : CBX cn) (hm : v2.toInt ≤ 8) : Met l yX11_gatherStops (CWS yX11_gatherStops cX11_gatherStops 7 (some .boolean)) (RM 6 0 0) (PBx [.ref (g 0), .int v0, .int v1, .int v2] D cI cB cZ zz qq vv bt (wX cI (D.1 99) zz g ad cn In Fn) sz) (va_Qi (fun (r : Int32) (u : (Nat → Nat) × (Nat → Int32) × (Nat → Nat → Int32)) => (fun r c2 I2 F2 => Fr [4] [] [30, 31, 32, 33, 34, 35] cn In Fn c2 I2 F2 ∧ CBX c2 ∧ (True)) r u.1 u.2.1 u.2.2) (fun (u : (Nat → Nat) × (Nat → Int32) × (Nat → Nat → Int32)) (t : State) => va_P D vwCl (wX cI (D.1 99) zz g ad u.1 u.2.1 u.2.2) t.heap ∧ va_D (va_A (wX cI (D.1 99) zz g ad cn In Fn) sz) (wX cI (D.1 99) zz g ad u.1 u.2.1 u.2.2)) (va_A (wX cI (D.1 99) zz g ad cn In Fn) sz)) 0 0 (va_A (wX cI (D.1 99) zz g ad cn In Fn) sz) := by
  refine en_x (fun A => (va_Qi (fun (r : Int32) (u : (Nat → Nat) × (Nat → Int32) × (Nat → Nat → Int32)) => (fun (r : Int32) (c2 : Nat → Nat) (I2 : Nat → Int32) (F2 : Nat → Nat → Int32) => Fr [4] [] [30, 31, 32, 33, 34, 35] cn In Fn c2 I2 F2 ∧ CBX c2 ∧ (True)) r u.1 u.2.1 u.2.2) (fun (u : (Nat → Nat) × (Nat → Int32) × (Nat → Nat → Int32)) (t : State) => va_P D vwCl (wX cI (D.1 99) zz g ad u.1 u.2.1 u.2.2) t.heap ∧ va_D A (wX cI (D.1 99) zz g ad u.1 u.2.1 u.2.2)) A)) rfl rfl pn_RX11 (Nat.le_of_ble_eq_true rfl) (fun p e s m below meth c A hx hb hml hown S hr hlocks hnm hA hP hK hD hXS hS ls hl => ?_)
  have hl : lv_has ls 7 [(0, .ref (g 0)), (1, .int v0), (2, .int v1), (3, .int v2)] := hl
  have hb_cn : Hid (CBX cn) := hB
  replace hB : CBXh cn := hB
  refine lv_aload_n hx hb dX11_gatherStops_0 rfl (lvA0 hl) ?_
  refine gf_RX11_54 S hK hP 0 xo_0 (v := .ref (g 9)) rfl dX11_gatherStops_1 ?_
  have hFc := free_all hD hS hA
  refine va_callv (runV_xa (As := []) (rest := []) S (q_Xwclear l D cI cB cZ zz qq vv bt g ad cn In Fn  s.heap.size hB) kV_RX11_266 hK hXS hS hFc hP hD 17 xo_17 rfl rfl ⟨Nat.le_of_ble_eq_true rfl, Nat.le_of_ble_eq_true rfl⟩ ⟨Nat.le_of_ble_eq_true rfl, Nat.le_of_ble_eq_true rfl⟩ rfl hl.1 rfl (Nat.le_of_ble_eq_true rfl) dX11_gatherStops_4) hS (fun q _ h => hFc q h) hFc (fun u t H1 locs ht hvm wh_2 hB1 hz1 hk1 hS => ?_)
  obtain ⟨cn2, In2, Fn2⟩ := u
  obtain ⟨hP1, hD1⟩ := hB1
  rw [ht] at hP1
  have vh_2 : (fun c2 I2 F2 => (∀ k : Nat, k ∉ [] → I2 k = In k) ∧ (((True) ∧ (va_up cn 4 0) = c2 ∧ Fn = F2))) cn2 In2 Fn2 := wh_2
  obtain ⟨hI2_, vh_2⟩ := vh_2
  obtain ⟨h_2, rfl, rfl⟩ := vh_2
  obtain rfl : In = In2 := (funext (fun k => hI2_ k List.not_mem_nil)).symm
  have hP : va_P D vwCl (wX cI (D.1 99) zz g ad (va_up cn 4 0) In Fn) H1 := hP1
  have hD : va_D A (wX cI (D.1 99) zz g ad (va_up cn 4 0) In Fn) := hD1.weaken (fun _ _ _ h => hFc _ h)
  generalize H1 = H at hP hS ⊢
  refine lv_iconst (v := 0) hx hb dX11_gatherStops_7 kic_0 ?_
  refine lv_istore (lv' := [(4, .int 0), (0, .ref (g 0)), (1, .int v0), (2, .int v1), (3, .int v2)]) hx hb dX11_gatherStops_8 hl (ltb rfl) rfl (fun ls hl => ?_)
  have lp_10 : ∀ (n : Nat) (i10 : Nat) (c10 : Nat → Nat) (F10 : Nat → Nat → Int32) (H : Heap) (locs : List Loc) , cn 10 - i10 < n → (i10 ≤ cn 10 ∧ Fr [4] [] [30, 31, 32, 33, 34, 35] cn In Fn c10 In F10 ∧ CBX c10) → va_P D vwCl (wX cI (D.1 99) zz g ad c10 In F10) H → va_D A (wX cI (D.1 99) zz g ad c10 In F10) → va_S A s.heap H locs → ∀ ls : Array Slot, lv_has ls 7 [(4, .int (nI i10)), (0, .ref (g 0)), (1, .int v0), (2, .int v1), (3, .int v2)] → W p l e (RM 6 0 0) s m ([.ref (g 0), .int v0, .int v1, .int v2]).toArray below meth c H locs 0 0 (MQ below (va_Qi (fun (r : Int32) (u : (Nat → Nat) × (Nat → Int32) × (Nat → Nat → Int32)) => (fun r c2 I2 F2 => Fr [4] [] [30, 31, 32, 33, 34, 35] cn In Fn c2 I2 F2 ∧ CBX c2 ∧ (True)) r u.1 u.2.1 u.2.2) (fun (u : (Nat → Nat) × (Nat → Int32) × (Nat → Nat → Int32)) (t : State) => va_P D vwCl (wX cI (D.1 99) zz g ad u.1 u.2.1 u.2.2) t.heap ∧ va_D A (wX cI (D.1 99) zz g ad u.1 u.2.1 u.2.2)) A) ([.ref (g 0), .int v0, .int v1, .int v2]).toArray s 0 0 A) (F0 m 10 ls []) := by
    intro n10
    induction n10 with
    | zero => intros; (first | omega | (have zz0 := Hid.u hb_cn; omega))
    | succ n10 ih10 =>
      intro i10 c10 F10 H locs hmu10 hinv10 hP hD hS ls hl
      obtain ⟨hr10, hfr10, hI10⟩ := hinv10
      have ti10 : (nI i10).toInt = (i10 : Int) := nI_toInt (by (first | omega | (have zz0 := Hid.u hb_cn; omega)))
      have hb_c10 : Hid (CBX c10) := hI10
      replace hI10 : CBXh c10 := hI10
      have : c10 6 = cn 6 := hfr10.1 6 (nml rfl)
      have : c10 31 = cn 31 := hfr10.1 31 (nml rfl)
      have : c10 32 = cn 32 := hfr10.1 32 (nml rfl)
      have hq_c10 := Hid.i (frq_4_0_1_2_3_5_10_11_12_13_14_15_20_21_22_23_24_25 hfr10)
      refine lv_iload hx hb dX11_gatherStops_10 (lvA0 hl) ?_
      refine lv_aload_n hx hb dX11_gatherStops_12 rfl (lvA1 hl) ?_
      refine gf_RX11_61 S hK hP 0 xo_0 (v := .ref (g 10)) rfl dX11_gatherStops_13 ?_
      refine vp_callSi (runV_r (As := []) (rest := [.int (nI i10)]) S (q_l_size l D cI cB cZ (g 10) (if (c10 10) = 0 then zz else ad 2 0) (In 10) (nI (c10 10))) kV_RX11_84 hK hP [24] (one_is xo_24) 24 xo_24 rfl rfl ⟨Nat.le_of_ble_eq_true rfl, Nat.le_of_ble_eq_true rfl⟩ ⟨Nat.le_of_ble_eq_true rfl, Nat.le_of_ble_eq_true rfl⟩ rfl hl.1 rfl (Nat.le_of_ble_eq_true rfl) dX11_gatherStops_16) (fun r_3 h_4 => ?_)
      subst h_4
      have : (nI (c10 10)).toInt = (((c10 10) : Nat) : Int) := nI_toInt (by (first | omega | (have zz0 := Hid.u hb_c10; have zz1 := Hid.u hb_cn; have zz2 := Hid.u hq_c10; omega)))
      refine lv_icmp_ge (tgt := 90) hx hb dX11_gatherStops_19 rfl (fun c_5 => ?_) (fun c_5 => ?_)
      ·
        have tc_5 : ((nI (c10 10)).toInt : Int) ≤ (nI i10).toInt := Int32.le_iff_toInt_le.mp c_5
        refine lv_aload_n hx hb dX11_gatherStops_90 rfl (lvA1 hl) ?_
        refine gf_RX11_54 S hK hP 0 xo_0 (v := .ref (g 9)) rfl dX11_gatherStops_91 ?_
        have hFc := free_all hD hS hA
        refine va_callv (runV_xa (As := []) (rest := []) S (q_Xsolve l D cI cB cZ zz qq vv bt g ad c10 In F10  H.size hI10) kV_RX11_273 hK hXS hS hFc hP hD 17 xo_17 rfl rfl ⟨Nat.le_of_ble_eq_true rfl, Nat.le_of_ble_eq_true rfl⟩ ⟨Nat.le_of_ble_eq_true rfl, Nat.le_of_ble_eq_true rfl⟩ rfl hl.1 rfl (Nat.le_of_ble_eq_true rfl) dX11_gatherStops_94) hS (fun q _ h => hFc q h) hFc (fun u t H1 locs ht hvm wh_7 hB1 hz1 hk1 hS => ?_)
        obtain ⟨cn7, In7, Fn7⟩ := u
        obtain ⟨hP1, hD1⟩ := hB1
        rw [ht] at hP1
        have hP : va_P D vwCl (wX cI (D.1 99) zz g ad cn7 In7 Fn7) H1 := hP1
        have hD : va_D A (wX cI (D.1 99) zz g ad cn7 In7 Fn7) := hD1.weaken (fun _ _ _ h => hFc _ h)
        generalize H1 = H at hP hS ⊢
        have vh_7 : (fun c2 I2 F2 => Fr [] [] [34, 35] c10 In F10 c2 I2 F2 ∧ CBX c2 ∧ (True)) cn7 In7 Fn7 := wh_7
        obtain ⟨hfc7, hIn7, h_7⟩ := vh_7
        obtain rfl : c10 = cn7 := (funext (fun k => hfc7.1 k List.not_mem_nil)).symm
        obtain rfl : In = In7 := (funext (fun k => hfc7.2.1 k List.not_mem_nil)).symm
        have hf7 : Fr [4] [] [30, 31, 32, 33, 34, 35] cn In Fn c10 In Fn7 := Fr.mo (Fr.tr hfr10 hfc7) (sbl rfl) (sbl rfl) (sbl rfl)
        replace hIn7 : CBXh c10 := hIn7
        refine lv_iconst (v := 1) hx hb dX11_gatherStops_97 kic_1 ?_
        exact W.zret (v := 1) hx hb hr rfl (fun t ht hW => ⟨⟨1, (c10, In, Fn7), rfl, ⟨(Fr.mo hf7 (sbl rfl) (sbl rfl) (sbl rfl)), hIn7, trivial⟩, by rw [ht]; exact hP, hD⟩, hS.F ht⟩) hS.2.2 dX11_gatherStops_98
      ·
        have tc_5 : ((nI i10).toInt : Int) < (nI (c10 10)).toInt := Int32.lt_iff_toInt_lt.mp (Int32.not_le.mp c_5)
        refine lv_aload_n hx hb dX11_gatherStops_22 rfl (lvA1 hl) ?_
        refine gf_RX11_61 S hK hP 0 xo_0 (v := .ref (g 10)) rfl dX11_gatherStops_23 ?_
        refine lv_iload hx hb dX11_gatherStops_26 (lvA0 hl) ?_
        refine va_csq (runV_rx (As := [.int (nI i10)]) (rest := []) S (q_l_get l D cI cB cZ zz qq vv bt (g 10) (ad 2 0) (c10 20) (c10 10) i10 (ad 10 i10) (In 10) (fun i => if i < (c10 10) then some (ad 10 i) else none) (by (first | omega | (have zz0 := Hid.u hb_c10; have zz1 := Hid.u hb_cn; have zz2 := Hid.u hq_c10; omega))) (if_pos (by (first | omega | (have zz0 := Hid.u hb_c10; have zz1 := Hid.u hb_cn; have zz2 := Hid.u hq_c10; omega)))) (by (first | omega | (have zz0 := Hid.u hb_c10; have zz1 := Hid.u hb_cn; have zz2 := Hid.u hq_c10; omega))) (by (first | omega | (have zz0 := Hid.u hb_c10; have zz1 := Hid.u hb_cn; have zz2 := Hid.u hq_c10; omega)))) kV_RX11_87 hK hXS hS hP _ (two_is (xl_0 (by (first | omega | (have zz0 := Hid.u hb_c10; have zz1 := Hid.u hb_cn; have zz2 := Hid.u hq_c10; omega)))) (xf_13 (k := 0) (by (first | omega | (have zz0 := Hid.u hb_c10; have zz1 := Hid.u hb_cn; have zz2 := Hid.u hq_c10; omega))))) (va_recv hK.1 hP (ci := 0) rfl xo_24) ⟨Nat.le_of_ble_eq_true rfl, Nat.le_of_ble_eq_true rfl⟩ ⟨Nat.le_of_ble_eq_true rfl, Nat.le_of_ble_eq_true rfl⟩ rfl hl.1 rfl (Nat.le_of_ble_eq_true rfl) dX11_gatherStops_28) (fun r_8 h_9 => ?_)
        subst h_9
        have kf_1 : i10 < c10 10 := by (first | omega | (have zz0 := Hid.u hb_c10; have zz1 := Hid.u hb_cn; have zz2 := Hid.u hq_c10; omega))
        refine va_castS hx hb hown (S.2.2.2.2 _ (wk2_5 3 rfl rfl)) (xclass hK.1 (ci := 2) rfl) (va_recv hK.1 hP (ci := 2) rfl (xf_0 kf_1)) dX11_gatherStops_31 ?_
        refine lv_astore (lv' := [(5, .ref (ad 10 i10)), (4, .int (nI i10)), (0, .ref (g 0)), (1, .int v0), (2, .int v1), (3, .int v2)]) hx hb dX11_gatherStops_34 hl (ltb rfl) rfl (fun ls hl => ?_)
        refine lv_aload hx hb dX11_gatherStops_36 (lvA0 hl) ?_
        refine lv_iload_n hx hb dX11_gatherStops_38 rfl (lvA3 hl) ?_
        refine lv_aload hx hb dX11_gatherStops_39 (lvA0 hl) ?_
        refine gf_RX11_263 S hK hP _ (xf_0 kf_1) (v := .int ((F10 105) i10)) rfl dX11_gatherStops_41 ?_
        refine vp_callSi (runV_rxa (As := [.int v0, .int ((F10 105) i10)]) (rest := []) S (q_XfillOn l D cI cB cZ zz qq vv bt g ad c10 In F10 i10 v0 ((F10 105) i10) hI10 (by (first | omega | (have zz0 := Hid.u hb_c10; have zz1 := Hid.u hb_cn; have zz2 := Hid.u hq_c10; omega)))) kV_RX11_121 hK hXS hS hP _ (xf_0 kf_1) rfl rfl ⟨Nat.le_of_ble_eq_true rfl, Nat.le_of_ble_eq_true rfl⟩ ⟨Nat.le_of_ble_eq_true rfl, Nat.le_of_ble_eq_true rfl⟩ rfl hl.1 rfl (Nat.le_of_ble_eq_true rfl) dX11_gatherStops_44) (fun r_10 h_11 => ?_)
        subst h_11
        refine lv_istore (lv' := [(6, .int ((if ((F10 102) i10 * (v0 - ((F10 105) i10))) < (F10 103) i10 then (F10 102) i10 * (v0 - ((F10 105) i10)) else (F10 103) i10))), (5, .ref (ad 10 i10)), (4, .int (nI i10)), (0, .ref (g 0)), (1, .int v0), (2, .int v1), (3, .int v2)]) hx hb dX11_gatherStops_47 hl (ltb rfl) rfl (fun ls hl => ?_)
        refine lv_iload hx hb dX11_gatherStops_49 (lvA0 hl) ?_
        refine lv_iload_n hx hb dX11_gatherStops_51 rfl (lvA5 hl) ?_
        refine lv_icmp_ge (tgt := 58) hx hb dX11_gatherStops_52 rfl (fun c_12 => ?_) (fun c_12 => ?_)
        ·
          have tc_12 : (v1.toInt : Int) ≤ ((if ((F10 102) i10 * (v0 - ((F10 105) i10))) < (F10 103) i10 then (F10 102) i10 * (v0 - ((F10 105) i10)) else (F10 103) i10)).toInt := Int32.le_iff_toInt_le.mp c_12
          refine lv_aload_n hx hb dX11_gatherStops_58 rfl (lvA3 hl) ?_
          refine gf_RX11_54 S hK hP 0 xo_0 (v := .ref (g 9)) rfl dX11_gatherStops_59 ?_
          refine gf_RX11_267 S hK hP 17 xo_17 (v := .int (nI (c10 4))) rfl dX11_gatherStops_62 ?_
          refine lv_iload_n hx hb dX11_gatherStops_65 rfl (lvA6 hl) ?_
          have : (nI (c10 4)).toInt = (((c10 4) : Nat) : Int) := nI_toInt (by (first | omega | (have zz0 := Hid.u hb_c10; have zz1 := Hid.u hb_cn; have zz2 := Hid.u hq_c10; omega)))
          refine lv_icmp_lt (tgt := 71) hx hb dX11_gatherStops_66 rfl (fun c_13 => ?_) (fun c_13 => ?_)
          ·
            have tc_13 : ((nI (c10 4)).toInt : Int) < v2.toInt := Int32.lt_iff_toInt_lt.mp c_13
            refine lv_aload_n hx hb dX11_gatherStops_71 rfl (lvA3 hl) ?_
            refine gf_RX11_54 S hK hP 0 xo_0 (v := .ref (g 9)) rfl dX11_gatherStops_72 ?_
            refine lv_iload hx hb dX11_gatherStops_75 (lvA2 hl) ?_
            refine lv_aload hx hb dX11_gatherStops_77 (lvA1 hl) ?_
            refine lv_iload hx hb dX11_gatherStops_79 (lvA0 hl) ?_
            have hFc := free_all hD hS hA
            refine va_callv (runV_xa (As := [.int (nI i10), .ref (ad 10 i10), .int ((if ((F10 102) i10 * (v0 - ((F10 105) i10))) < (F10 103) i10 then (F10 102) i10 * (v0 - ((F10 105) i10)) else (F10 103) i10))]) (rest := []) S (q_Xwadd l D cI cB cZ zz qq vv bt g ad c10 In F10 (nI i10) i10 ((if ((F10 102) i10 * (v0 - ((F10 105) i10))) < (F10 103) i10 then (F10 102) i10 * (v0 - ((F10 105) i10)) else (F10 103) i10)) H.size hI10 (by (first | omega | (have zz0 := Hid.u hb_c10; have zz1 := Hid.u hb_cn; have zz2 := Hid.u hq_c10; omega))) (by (first | omega | (have zz0 := Hid.u hb_c10; have zz1 := Hid.u hb_cn; have zz2 := Hid.u hq_c10; omega)))) kV_RX11_270 hK hXS hS hFc hP hD 17 xo_17 rfl rfl ⟨Nat.le_of_ble_eq_true rfl, Nat.le_of_ble_eq_true rfl⟩ ⟨Nat.le_of_ble_eq_true rfl, Nat.le_of_ble_eq_true rfl⟩ rfl hl.1 rfl (Nat.le_of_ble_eq_true rfl) dX11_gatherStops_81) hS (fun q _ h => hFc q h) hFc (fun u t H1 locs ht hvm wh_15 hB1 hz1 hk1 hS => ?_)
            obtain ⟨cn15, In15, Fn15⟩ := u
            obtain ⟨hP1, hD1⟩ := hB1
            rw [ht] at hP1
            have hP : va_P D vwCl (wX cI (D.1 99) zz g ad cn15 In15 Fn15) H1 := hP1
            have hD : va_D A (wX cI (D.1 99) zz g ad cn15 In15 Fn15) := hD1.weaken (fun _ _ _ h => hFc _ h)
            generalize H1 = H at hP hS ⊢
            have vh_15 : (fun c2 I2 F2 => Fr [4] [] [30, 31, 32, 33] c10 In F10 c2 I2 F2 ∧ CBX c2 ∧ (c2 4 = (c10 4) + 1)) cn15 In15 Fn15 := wh_15
            obtain ⟨hfc15, hIn15, h_15⟩ := vh_15
            obtain rfl : In = In15 := (funext (fun k => hfc15.2.1 k List.not_mem_nil)).symm
            have hf15 : Fr [4] [] [30, 31, 32, 33, 34, 35] cn In Fn cn15 In Fn15 := Fr.mo (Fr.tr hfr10 hfc15) (sbl rfl) (sbl rfl) (sbl rfl)
            have hb_cn15 : Hid (CBX cn15) := hIn15
            replace hIn15 : CBXh cn15 := hIn15
            have : cn15 6 = (c10 6) := hfc15.1 6 (nml rfl)
            have : cn15 31 = (c10 31) := hfc15.1 31 (nml rfl)
            have : cn15 32 = (c10 32) := hfc15.1 32 (nml rfl)
            have hq_cn15 : Hid (cn15 0 = (c10 0) ∧ cn15 1 = (c10 1) ∧ cn15 2 = (c10 2) ∧ cn15 3 = (c10 3) ∧ cn15 5 = (c10 5) ∧ cn15 10 = (c10 10) ∧ cn15 11 = (c10 11) ∧ cn15 12 = (c10 12) ∧ cn15 13 = (c10 13) ∧ cn15 14 = (c10 14) ∧ cn15 15 = (c10 15) ∧ cn15 20 = (c10 20) ∧ cn15 21 = (c10 21) ∧ cn15 22 = (c10 22) ∧ cn15 23 = (c10 23) ∧ cn15 24 = (c10 24) ∧ cn15 25 = (c10 25)) := Hid.i (p := cn15 0 = (c10 0) ∧ cn15 1 = (c10 1) ∧ cn15 2 = (c10 2) ∧ cn15 3 = (c10 3) ∧ cn15 5 = (c10 5) ∧ cn15 10 = (c10 10) ∧ cn15 11 = (c10 11) ∧ cn15 12 = (c10 12) ∧ cn15 13 = (c10 13) ∧ cn15 14 = (c10 14) ∧ cn15 15 = (c10 15) ∧ cn15 20 = (c10 20) ∧ cn15 21 = (c10 21) ∧ cn15 22 = (c10 22) ∧ cn15 23 = (c10 23) ∧ cn15 24 = (c10 24) ∧ cn15 25 = (c10 25)) ⟨hfc15.1 0 (nml rfl), hfc15.1 1 (nml rfl), hfc15.1 2 (nml rfl), hfc15.1 3 (nml rfl), hfc15.1 5 (nml rfl), hfc15.1 10 (nml rfl), hfc15.1 11 (nml rfl), hfc15.1 12 (nml rfl), hfc15.1 13 (nml rfl), hfc15.1 14 (nml rfl), hfc15.1 15 (nml rfl), hfc15.1 20 (nml rfl), hfc15.1 21 (nml rfl), hfc15.1 22 (nml rfl), hfc15.1 23 (nml rfl), hfc15.1 24 (nml rfl), hfc15.1 25 (nml rfl)⟩
            refine lv_iinc (v := (nI (i10 + 1))) (lv' := [(4, .int (nI (i10 + 1))), (6, .int ((if ((F10 102) i10 * (v0 - ((F10 105) i10))) < (F10 103) i10 then (F10 102) i10 * (v0 - ((F10 105) i10)) else (F10 103) i10))), (5, .ref (ad 10 i10)), (0, .ref (g 0)), (1, .int v0), (2, .int v1), (3, .int v2)]) hx hb dX11_gatherStops_84 hl (k := 2) rfl (nI_1 _) (ltb rfl) rfl (fun ls hl => ?_)
            refine lv_goto (tgt := 10) hx hb dX11_gatherStops_87 rfl ?_
            exact ih10 (i10 + 1) cn15 Fn15 _ _ (by (first | omega | (have zz0 := Hid.u hb_c10; have zz1 := Hid.u hb_cn; have zz2 := Hid.u hb_cn15; have zz3 := Hid.u hq_c10; have zz4 := Hid.u hq_cn15; omega))) ⟨(by (first | omega | (have zz0 := Hid.u hb_c10; have zz1 := Hid.u hb_cn; have zz2 := Hid.u hb_cn15; have zz3 := Hid.u hq_c10; have zz4 := Hid.u hq_cn15; omega))), (Fr.mo hf15 (sbl rfl) (sbl rfl) (sbl rfl)), hIn15⟩ hP hD hS ls (lv_sub hl [0, 3, 4, 5, 6] rfl)
          ·
            have tc_13 : (v2.toInt : Int) ≤ (nI (c10 4)).toInt := Int32.le_iff_toInt_le.mp (Int32.not_lt.mp c_13)
            refine lv_iconst (v := 0) hx hb dX11_gatherStops_69 kic_0 ?_
            exact W.zret (v := 0) hx hb hr rfl (fun t ht hW => ⟨⟨0, (c10, In, F10), rfl, ⟨(Fr.mo hfr10 (sbl rfl) (sbl rfl) (sbl rfl)), hI10, trivial⟩, by rw [ht]; exact hP, hD⟩, hS.F ht⟩) hS.2.2 dX11_gatherStops_70
        ·
          have tc_12 : (((if ((F10 102) i10 * (v0 - ((F10 105) i10))) < (F10 103) i10 then (F10 102) i10 * (v0 - ((F10 105) i10)) else (F10 103) i10)).toInt : Int) < v1.toInt := Int32.lt_iff_toInt_lt.mp (Int32.not_le.mp c_12)
          refine lv_goto (tgt := 84) hx hb dX11_gatherStops_55 rfl ?_
          refine lv_iinc (v := (nI (i10 + 1))) (lv' := [(4, .int (nI (i10 + 1))), (6, .int ((if ((F10 102) i10 * (v0 - ((F10 105) i10))) < (F10 103) i10 then (F10 102) i10 * (v0 - ((F10 105) i10)) else (F10 103) i10))), (5, .ref (ad 10 i10)), (0, .ref (g 0)), (1, .int v0), (2, .int v1), (3, .int v2)]) hx hb dX11_gatherStops_84 hl (k := 2) rfl (nI_1 _) (ltb rfl) rfl (fun ls hl => ?_)
          refine lv_goto (tgt := 10) hx hb dX11_gatherStops_87 rfl ?_
          exact ih10 (i10 + 1) c10 F10 _ _ (by (first | omega | (have zz0 := Hid.u hb_c10; have zz1 := Hid.u hb_cn; have zz2 := Hid.u hq_c10; omega))) ⟨(by (first | omega | (have zz0 := Hid.u hb_c10; have zz1 := Hid.u hb_cn; have zz2 := Hid.u hq_c10; omega))), (Fr.mo hfr10 (sbl rfl) (sbl rfl) (sbl rfl)), hI10⟩ hP hD hS ls (lv_sub hl [0, 3, 4, 5, 6] rfl)
  exact lp_10 _ 0 (va_up cn 4 0) Fn _ _ (Nat.lt_succ_self _) ⟨(by (first | omega | (have zz0 := Hid.u hb_cn; omega))), (Fr.mo (Fr.c 4 Fr.rf) (sbl rfl) (sbl rfl) (sbl rfl)), (CBX.u4 (v := 0) hB (show 0 ≤ 8 by (first | omega | (have zz0 := Hid.u hb_cn; omega))))⟩ hP hD hS ls (lv_sub hl [0, 1, 2, 3, 4] rfl)
set_option maxRecDepth 100000 in
set_option maxHeartbeats 4000000 in
theorem q_Xround (l : Launch) (D : va_G) (cI cB cZ : ClassId) (zz qq vv : Nat) (bt : Nat → Int32) (g : Nat → Nat) (ad : Nat → Nat → Nat) (cn : Nat → Nat) (In : Nat → Int32) (Fn : Nat → Nat → Int32) (v0 v1 v2 : Int32) (sz : Nat) (hB : CBX cn) : Met l yX11_round (CWS yX11_round cX11_round 4 (some .int)) (RM 7 0 0) (PBx [.ref (g 0), .int v0, .int v1, .int v2] D cI cB cZ zz qq vv bt (wX cI (D.1 99) zz g ad cn In Fn) sz) (va_Qi (fun (r : Int32) (u : (Nat → Nat) × (Nat → Int32) × (Nat → Nat → Int32)) => (fun r c2 I2 F2 => Fr [4] [] [30, 31, 32, 33, 34, 35, 105] cn In Fn c2 I2 F2 ∧ CBX c2 ∧ (True)) r u.1 u.2.1 u.2.2) (fun (u : (Nat → Nat) × (Nat → Int32) × (Nat → Nat → Int32)) (t : State) => va_P D vwCl (wX cI (D.1 99) zz g ad u.1 u.2.1 u.2.2) t.heap ∧ va_D (va_A (wX cI (D.1 99) zz g ad cn In Fn) sz) (wX cI (D.1 99) zz g ad u.1 u.2.1 u.2.2)) (va_A (wX cI (D.1 99) zz g ad cn In Fn) sz)) 0 0 (va_A (wX cI (D.1 99) zz g ad cn In Fn) sz) := by
  refine en_x (fun A => (va_Qi (fun (r : Int32) (u : (Nat → Nat) × (Nat → Int32) × (Nat → Nat → Int32)) => (fun (r : Int32) (c2 : Nat → Nat) (I2 : Nat → Int32) (F2 : Nat → Nat → Int32) => Fr [4] [] [30, 31, 32, 33, 34, 35, 105] cn In Fn c2 I2 F2 ∧ CBX c2 ∧ (True)) r u.1 u.2.1 u.2.2) (fun (u : (Nat → Nat) × (Nat → Int32) × (Nat → Nat → Int32)) (t : State) => va_P D vwCl (wX cI (D.1 99) zz g ad u.1 u.2.1 u.2.2) t.heap ∧ va_D A (wX cI (D.1 99) zz g ad u.1 u.2.1 u.2.2)) A)) rfl rfl pn_RX11 (Nat.le_of_ble_eq_true rfl) (fun p e s m below meth c A hx hb hml hown S hr hlocks hnm hA hP hK hD hXS hS ls hl => ?_)
  have hl : lv_has ls 4 [(0, .ref (g 0)), (1, .int v0), (2, .int v1), (3, .int v2)] := hl
  have hb_cn : Hid (CBX cn) := hB
  replace hB : CBXh cn := hB
  refine lv_iload_n hx hb dX11_round_0 rfl (lvA1 hl) ?_
  refine vp_callSi (runS_r (As := [.int v0]) (rest := []) S (q_l_isDay l D cI cB cZ v0) kS_RX11_99 hK hP [] rfl ⟨Nat.le_of_ble_eq_true rfl, Nat.le_of_ble_eq_true rfl⟩ ⟨Nat.le_of_ble_eq_true rfl, Nat.le_of_ble_eq_true rfl⟩ rfl hl.1 rfl (Nat.le_of_ble_eq_true rfl) dX11_round_1) (fun r_1 h_2 => ?_)
  rcases h_2 with ⟨rfl, h_2⟩ | ⟨rfl, h_2⟩
  ·
    have h_2 : 0 ≤ v0.toInt ∧ v0.toInt ≤ 399 := h_2
    refine lv_if_eq (tgt := 18) hx hb dX11_round_4 rfl (fun h => absurd h cq_eq_1_0) (fun _ => ?_)
    refine lv_iload_n hx hb dX11_round_7 rfl (lvA2 hl) ?_
    refine lv_iconst (v := 1) hx hb dX11_round_8 kic_1 ?_
    refine lv_sipush (v := 400) hx hb dX11_round_9 (by decide) ?_
    refine vp_callSi (runS_r (As := [.int v1, .int 1, .int 400]) (rest := []) S (q_l_within l D cI cB cZ v1 1 400) kS_RX11_80 hK hP [] rfl ⟨Nat.le_of_ble_eq_true rfl, Nat.le_of_ble_eq_true rfl⟩ ⟨Nat.le_of_ble_eq_true rfl, Nat.le_of_ble_eq_true rfl⟩ rfl hl.1 rfl (Nat.le_of_ble_eq_true rfl) dX11_round_12) (fun r_3 h_4 => ?_)
    rcases h_4 with ⟨rfl, h_4⟩ | ⟨rfl, h_4⟩
    ·
      have h_4 : 1 ≤ v1.toInt ∧ v1.toInt ≤ 400 := h_4
      refine lv_if_ne (tgt := 20) hx hb dX11_round_15 rfl (fun _ => ?_) (fun h => absurd h cq_eq_1_0)
      refine lv_aload_n hx hb dX11_round_20 rfl (lvA0 hl) ?_
      refine lv_iload_n hx hb dX11_round_21 rfl (lvA1 hl) ?_
      have hFc := free_all hD hS hA
      refine va_calli (runV_xa (As := [.int v0]) (rest := []) S (q_XstartTrial l D cI cB cZ zz qq vv bt g ad cn In Fn v0 s.heap.size hB) kV_RX11_276 hK hXS hS hFc hP hD 0 xo_0 rfl rfl ⟨Nat.le_of_ble_eq_true rfl, Nat.le_of_ble_eq_true rfl⟩ ⟨Nat.le_of_ble_eq_true rfl, Nat.le_of_ble_eq_true rfl⟩ rfl hl.1 rfl (Nat.le_of_ble_eq_true rfl) dX11_round_22) hS (fun q _ h => hFc q h) hFc (fun r_5 u t H1 locs ht hvm wh_6 hB1 hz1 hk1 hS => ?_)
      obtain ⟨cn6, In6, Fn6⟩ := u
      obtain ⟨hP1, hD1⟩ := hB1
      rw [ht] at hP1
      have hP : va_P D vwCl (wX cI (D.1 99) zz g ad cn6 In6 Fn6) H1 := hP1
      have hD : va_D A (wX cI (D.1 99) zz g ad cn6 In6 Fn6) := hD1.weaken (fun _ _ _ h => hFc _ h)
      generalize H1 = H at hP hS ⊢
      have vh_6 : (fun r c2 I2 F2 => Fr [] [] [105] cn In Fn c2 I2 F2 ∧ CBX c2 ∧ (True)) r_5 cn6 In6 Fn6 := wh_6
      obtain ⟨hfc6, hIn6, h_6⟩ := vh_6
      obtain rfl : cn = cn6 := (funext (fun k => hfc6.1 k List.not_mem_nil)).symm
      obtain rfl : In = In6 := (funext (fun k => hfc6.2.1 k List.not_mem_nil)).symm
      have hf6 : Fr [4] [] [30, 31, 32, 33, 34, 35, 105] cn In Fn cn In Fn6 := Fr.mo (Fr.tr (Fr.rf (cn := cn) (In := In) (Fn := Fn)) hfc6) (sbl rfl) (sbl rfl) (sbl rfl)
      replace hIn6 : CBXh cn := hIn6
      refine lv_if_eq (tgt := 39) hx hb dX11_round_25 rfl (fun c_7 => ?_) (fun c_7 => ?_)
      ·
        have tc_7 : (r_5.toInt : Int) = 0 := congrArg Int32.toInt c_7
        refine lv_bipush (v := (-2)) hx hb dX11_round_39 kbc_m2 ?_
        exact W.iret (v := (-2)) hx hb hr (fun t ht hW => ⟨⟨(-2), (cn, In, Fn6), rfl, ⟨(Fr.mo hf6 (sbl rfl) (sbl rfl) (sbl rfl)), hIn6, trivial⟩, by rw [ht]; exact hP, hD⟩, hS.F ht⟩) hS.2.2 dX11_round_41
      ·
        have tc_7 : (r_5.toInt : Int) ≠ 0 := fun q => c_7 (Int32.toInt_inj.mp q)
        refine lv_aload_n hx hb dX11_round_28 rfl (lvA0 hl) ?_
        refine lv_iload_n hx hb dX11_round_29 rfl (lvA1 hl) ?_
        refine lv_iload_n hx hb dX11_round_30 rfl (lvA2 hl) ?_
        refine lv_bipush (v := 8) hx hb dX11_round_31 kbc_8 ?_
        have hFc := free_all hD hS hA
        refine va_calli (runV_xa (As := [.int v0, .int v1, .int 8]) (rest := []) S (q_XgatherStops l D cI cB cZ zz qq vv bt g ad cn In Fn6 v0 v1 8 H.size hIn6 (by decide)) kV_RX11_279 hK hXS hS hFc hP hD 0 xo_0 rfl rfl ⟨Nat.le_of_ble_eq_true rfl, Nat.le_of_ble_eq_true rfl⟩ ⟨Nat.le_of_ble_eq_true rfl, Nat.le_of_ble_eq_true rfl⟩ rfl hl.1 rfl (Nat.le_of_ble_eq_true rfl) dX11_round_33) hS (fun q _ h => hFc q h) hFc (fun r_8 u t H1 locs ht hvm wh_9 hB1 hz1 hk1 hS => ?_)
        obtain ⟨cn9, In9, Fn9⟩ := u
        obtain ⟨hP1, hD1⟩ := hB1
        rw [ht] at hP1
        have hP : va_P D vwCl (wX cI (D.1 99) zz g ad cn9 In9 Fn9) H1 := hP1
        have hD : va_D A (wX cI (D.1 99) zz g ad cn9 In9 Fn9) := hD1.weaken (fun _ _ _ h => hFc _ h)
        generalize H1 = H at hP hS ⊢
        have vh_9 : (fun r c2 I2 F2 => Fr [4] [] [30, 31, 32, 33, 34, 35] cn In Fn6 c2 I2 F2 ∧ CBX c2 ∧ (True)) r_8 cn9 In9 Fn9 := wh_9
        obtain ⟨hfc9, hIn9, h_9⟩ := vh_9
        obtain rfl : In = In9 := (funext (fun k => hfc9.2.1 k List.not_mem_nil)).symm
        have hf9 : Fr [4] [] [30, 31, 32, 33, 34, 35, 105] cn In Fn cn9 In Fn9 := Fr.mo (Fr.tr hf6 hfc9) (sbl rfl) (sbl rfl) (sbl rfl)
        have hb_cn9 : Hid (CBX cn9) := hIn9
        replace hIn9 : CBXh cn9 := hIn9
        have : cn9 6 = (cn 6) := hfc9.1 6 (nml rfl)
        have : cn9 31 = (cn 31) := hfc9.1 31 (nml rfl)
        have : cn9 32 = (cn 32) := hfc9.1 32 (nml rfl)
        have hq_cn9 : Hid (cn9 0 = (cn 0) ∧ cn9 1 = (cn 1) ∧ cn9 2 = (cn 2) ∧ cn9 3 = (cn 3) ∧ cn9 5 = (cn 5) ∧ cn9 10 = (cn 10) ∧ cn9 11 = (cn 11) ∧ cn9 12 = (cn 12) ∧ cn9 13 = (cn 13) ∧ cn9 14 = (cn 14) ∧ cn9 15 = (cn 15) ∧ cn9 20 = (cn 20) ∧ cn9 21 = (cn 21) ∧ cn9 22 = (cn 22) ∧ cn9 23 = (cn 23) ∧ cn9 24 = (cn 24) ∧ cn9 25 = (cn 25)) := Hid.i (p := cn9 0 = (cn 0) ∧ cn9 1 = (cn 1) ∧ cn9 2 = (cn 2) ∧ cn9 3 = (cn 3) ∧ cn9 5 = (cn 5) ∧ cn9 10 = (cn 10) ∧ cn9 11 = (cn 11) ∧ cn9 12 = (cn 12) ∧ cn9 13 = (cn 13) ∧ cn9 14 = (cn 14) ∧ cn9 15 = (cn 15) ∧ cn9 20 = (cn 20) ∧ cn9 21 = (cn 21) ∧ cn9 22 = (cn 22) ∧ cn9 23 = (cn 23) ∧ cn9 24 = (cn 24) ∧ cn9 25 = (cn 25)) ⟨hfc9.1 0 (nml rfl), hfc9.1 1 (nml rfl), hfc9.1 2 (nml rfl), hfc9.1 3 (nml rfl), hfc9.1 5 (nml rfl), hfc9.1 10 (nml rfl), hfc9.1 11 (nml rfl), hfc9.1 12 (nml rfl), hfc9.1 13 (nml rfl), hfc9.1 14 (nml rfl), hfc9.1 15 (nml rfl), hfc9.1 20 (nml rfl), hfc9.1 21 (nml rfl), hfc9.1 22 (nml rfl), hfc9.1 23 (nml rfl), hfc9.1 24 (nml rfl), hfc9.1 25 (nml rfl)⟩
        refine lv_if_ne (tgt := 42) hx hb dX11_round_36 rfl (fun c_10 => ?_) (fun c_10 => ?_)
        ·
          have tc_10 : (r_8.toInt : Int) ≠ 0 := fun q => c_10 (Int32.toInt_inj.mp q)
          refine lv_iload_n hx hb dX11_round_42 rfl (lvA3 hl) ?_
          refine lv_iconst (v := (-1)) hx hb dX11_round_43 kic_m1 ?_
          refine lv_icmp_ne (tgt := 57) hx hb dX11_round_44 rfl (fun c_11 => ?_) (fun c_11 => ?_)
          ·
            have tc_11 : (v2.toInt : Int) ≠ (-1) := fun q => c_11 (Int32.toInt_inj.mp q)
            refine lv_aload_n hx hb dX11_round_57 rfl (lvA0 hl) ?_
            refine gf_RX11_54 S hK hP 0 xo_0 (v := .ref (g 9)) rfl dX11_round_58 ?_
            refine lv_iload_n hx hb dX11_round_61 rfl (lvA3 hl) ?_
            refine vp_callSi (runV_rxa (As := [.int v2]) (rest := []) S (q_XkitchenInRow l D cI cB cZ zz qq vv bt g ad cn9 In Fn9 v2 hIn9) kV_RX11_285 hK hXS hS hP 17 xo_17 rfl rfl ⟨Nat.le_of_ble_eq_true rfl, Nat.le_of_ble_eq_true rfl⟩ ⟨Nat.le_of_ble_eq_true rfl, Nat.le_of_ble_eq_true rfl⟩ rfl hl.1 rfl (Nat.le_of_ble_eq_true rfl) dX11_round_62) (fun r_12 h_13 => ?_)
            exact W.iret (v := r_12) hx hb hr (fun t ht hW => ⟨⟨r_12, (cn9, In, Fn9), rfl, ⟨(Fr.mo hf9 (sbl rfl) (sbl rfl) (sbl rfl)), hIn9, trivial⟩, by rw [ht]; exact hP, hD⟩, hS.F ht⟩) hS.2.2 dX11_round_65
          ·
            have tc_11 : (v2.toInt : Int) = (-1) := congrArg Int32.toInt c_11
            refine lv_aload_n hx hb dX11_round_47 rfl (lvA0 hl) ?_
            refine gf_RX11_54 S hK hP 0 xo_0 (v := .ref (g 9)) rfl dX11_round_48 ?_
            refine vp_callSi (runV_rxa (As := []) (rest := []) S (q_XwholeLength l D cI cB cZ zz qq vv bt g ad cn9 In Fn9  hIn9) kV_RX11_282 hK hXS hS hP 17 xo_17 rfl rfl ⟨Nat.le_of_ble_eq_true rfl, Nat.le_of_ble_eq_true rfl⟩ ⟨Nat.le_of_ble_eq_true rfl, Nat.le_of_ble_eq_true rfl⟩ rfl hl.1 rfl (Nat.le_of_ble_eq_true rfl) dX11_round_51) (fun r_14 h_15 => ?_)
            refine lv_goto (tgt := 65) hx hb dX11_round_54 rfl ?_
            exact W.iret (v := r_14) hx hb hr (fun t ht hW => ⟨⟨r_14, (cn9, In, Fn9), rfl, ⟨(Fr.mo hf9 (sbl rfl) (sbl rfl) (sbl rfl)), hIn9, trivial⟩, by rw [ht]; exact hP, hD⟩, hS.F ht⟩) hS.2.2 dX11_round_65
        ·
          have tc_10 : (r_8.toInt : Int) = 0 := congrArg Int32.toInt c_10
          refine lv_bipush (v := (-2)) hx hb dX11_round_39 kbc_m2 ?_
          exact W.iret (v := (-2)) hx hb hr (fun t ht hW => ⟨⟨(-2), (cn9, In, Fn9), rfl, ⟨(Fr.mo hf9 (sbl rfl) (sbl rfl) (sbl rfl)), hIn9, trivial⟩, by rw [ht]; exact hP, hD⟩, hS.F ht⟩) hS.2.2 dX11_round_41
    ·
      have h_4 : ¬ (1 ≤ v1.toInt ∧ v1.toInt ≤ 400) := h_4
      refine lv_if_ne (tgt := 20) hx hb dX11_round_15 rfl (fun h => absurd h cq_eq_0_0) (fun _ => ?_)
      refine lv_iconst (v := (-1)) hx hb dX11_round_18 kic_m1 ?_
      exact W.iret (v := (-1)) hx hb hr (fun t ht hW => ⟨⟨(-1), (cn, In, Fn), rfl, ⟨(Fr.mo Fr.rf (sbl rfl) (sbl rfl) (sbl rfl)), hB, trivial⟩, by rw [ht]; exact hP, hD⟩, hS.F ht⟩) hS.2.2 dX11_round_19
  ·
    have h_2 : ¬ (0 ≤ v0.toInt ∧ v0.toInt ≤ 399) := h_2
    refine lv_if_eq (tgt := 18) hx hb dX11_round_4 rfl (fun _ => ?_) (fun h => absurd h cq_eq_0_0)
    refine lv_iconst (v := (-1)) hx hb dX11_round_18 kic_m1 ?_
    exact W.iret (v := (-1)) hx hb hr (fun t ht hW => ⟨⟨(-1), (cn, In, Fn), rfl, ⟨(Fr.mo Fr.rf (sbl rfl) (sbl rfl) (sbl rfl)), hB, trivial⟩, by rw [ht]; exact hP, hD⟩, hS.F ht⟩) hS.2.2 dX11_round_19
set_option maxRecDepth 100000 in
set_option maxHeartbeats 4000000 in
theorem q_XemptyStops (l : Launch) (D : va_G) (cI cB cZ : ClassId) (zz qq vv : Nat) (bt : Nat → Int32) (g : Nat → Nat) (ad : Nat → Nat → Nat) (cn : Nat → Nat) (In : Nat → Int32) (Fn : Nat → Nat → Int32) (v0 : Int32) (sz : Nat) (hB : CBX cn) : Met l yX11_emptyStops (CWS yX11_emptyStops cX11_emptyStops 5 (some .int)) (RM 4 0 0) (PBx [.ref (g 0), .int v0] D cI cB cZ zz qq vv bt (wX cI (D.1 99) zz g ad cn In Fn) sz) (va_Qi (fun (r : Int32) (u : (Nat → Nat) × (Nat → Int32) × (Nat → Nat → Int32)) => (fun r c2 I2 F2 => Fr [] [] [105] cn In Fn c2 I2 F2 ∧ CBX c2 ∧ (True)) r u.1 u.2.1 u.2.2) (fun (u : (Nat → Nat) × (Nat → Int32) × (Nat → Nat → Int32)) (t : State) => va_P D vwCl (wX cI (D.1 99) zz g ad u.1 u.2.1 u.2.2) t.heap ∧ va_D (va_A (wX cI (D.1 99) zz g ad cn In Fn) sz) (wX cI (D.1 99) zz g ad u.1 u.2.1 u.2.2)) (va_A (wX cI (D.1 99) zz g ad cn In Fn) sz)) 0 0 (va_A (wX cI (D.1 99) zz g ad cn In Fn) sz) := by
  refine en_x (fun A => (va_Qi (fun (r : Int32) (u : (Nat → Nat) × (Nat → Int32) × (Nat → Nat → Int32)) => (fun (r : Int32) (c2 : Nat → Nat) (I2 : Nat → Int32) (F2 : Nat → Nat → Int32) => Fr [] [] [105] cn In Fn c2 I2 F2 ∧ CBX c2 ∧ (True)) r u.1 u.2.1 u.2.2) (fun (u : (Nat → Nat) × (Nat → Int32) × (Nat → Nat → Int32)) (t : State) => va_P D vwCl (wX cI (D.1 99) zz g ad u.1 u.2.1 u.2.2) t.heap ∧ va_D A (wX cI (D.1 99) zz g ad u.1 u.2.1 u.2.2)) A)) rfl rfl pn_RX11 (Nat.le_of_ble_eq_true rfl) (fun p e s m below meth c A hx hb hml hown S hr hlocks hnm hA hP hK hD hXS hS ls hl => ?_)
  have hl : lv_has ls 5 [(0, .ref (g 0)), (1, .int v0)] := hl
  have hb_cn : Hid (CBX cn) := hB
  replace hB : CBXh cn := hB
  refine lv_iconst (v := 0) hx hb dX11_emptyStops_0 kic_0 ?_
  refine lv_istore_n (lv' := [(2, .int 0), (0, .ref (g 0)), (1, .int v0)]) hx hb dX11_emptyStops_1 rfl hl (ltb rfl) rfl (fun ls hl => ?_)
  refine lv_iconst (v := 0) hx hb dX11_emptyStops_2 kic_0 ?_
  refine lv_istore_n (lv' := [(3, .int 0), (2, .int 0), (0, .ref (g 0)), (1, .int v0)]) hx hb dX11_emptyStops_3 rfl hl (ltb rfl) rfl (fun ls hl => ?_)
  have lp_4 : ∀ (n : Nat) (i4 : Nat) (x4_2 : Int32) (F4 : Nat → Nat → Int32) (H : Heap) (locs : List Loc) , cn 4 - i4 < n → (i4 ≤ cn 4 ∧ Fr [] [] [105] cn In Fn cn In F4 ∧ CBX cn) → va_P D vwCl (wX cI (D.1 99) zz g ad cn In F4) H → va_D A (wX cI (D.1 99) zz g ad cn In F4) → va_S A s.heap H locs → ∀ ls : Array Slot, lv_has ls 5 [(3, .int (nI i4)), (2, .int x4_2), (0, .ref (g 0)), (1, .int v0)] → W p l e (RM 4 0 0) s m ([.ref (g 0), .int v0]).toArray below meth c H locs 0 0 (MQ below (va_Qi (fun (r : Int32) (u : (Nat → Nat) × (Nat → Int32) × (Nat → Nat → Int32)) => (fun r c2 I2 F2 => Fr [] [] [105] cn In Fn c2 I2 F2 ∧ CBX c2 ∧ (True)) r u.1 u.2.1 u.2.2) (fun (u : (Nat → Nat) × (Nat → Int32) × (Nat → Nat → Int32)) (t : State) => va_P D vwCl (wX cI (D.1 99) zz g ad u.1 u.2.1 u.2.2) t.heap ∧ va_D A (wX cI (D.1 99) zz g ad u.1 u.2.1 u.2.2)) A) ([.ref (g 0), .int v0]).toArray s 0 0 A) (F0 m 4 ls []) := by
    intro n4
    induction n4 with
    | zero => intros; (first | omega | (have zz0 := Hid.u hb_cn; omega))
    | succ n4 ih4 =>
      intro i4 x4_2 F4 H locs hmu4 hinv4 hP hD hS ls hl
      obtain ⟨hr4, hfr4, hI4⟩ := hinv4
      have ti4 : (nI i4).toInt = (i4 : Int) := nI_toInt (by (first | omega | (have zz0 := Hid.u hb_cn; omega)))
      replace hI4 : CBXh cn := hI4
      refine lv_iload_n hx hb dX11_emptyStops_4 rfl (lvA0 hl) ?_
      refine lv_aload_n hx hb dX11_emptyStops_5 rfl (lvA2 hl) ?_
      refine gf_RX11_54 S hK hP 0 xo_0 (v := .ref (g 9)) rfl dX11_emptyStops_6 ?_
      refine gf_RX11_267 S hK hP 17 xo_17 (v := .int (nI (cn 4))) rfl dX11_emptyStops_9 ?_
      have : (nI (cn 4)).toInt = (((cn 4) : Nat) : Int) := nI_toInt (by (first | omega | (have zz0 := Hid.u hb_cn; omega)))
      refine lv_icmp_ge (tgt := 63) hx hb dX11_emptyStops_12 rfl (fun c_1 => ?_) (fun c_1 => ?_)
      ·
        have tc_1 : ((nI (cn 4)).toInt : Int) ≤ (nI i4).toInt := Int32.le_iff_toInt_le.mp c_1
        refine lv_iload_n hx hb dX11_emptyStops_63 rfl (lvA1 hl) ?_
        exact W.iret (v := x4_2) hx hb hr (fun t ht hW => ⟨⟨x4_2, (cn, In, F4), rfl, ⟨(Fr.mo hfr4 (sbl rfl) (sbl rfl) (sbl rfl)), hI4, trivial⟩, by rw [ht]; exact hP, hD⟩, hS.F ht⟩) hS.2.2 dX11_emptyStops_64
      ·
        have tc_1 : ((nI i4).toInt : Int) < (nI (cn 4)).toInt := Int32.lt_iff_toInt_lt.mp (Int32.not_le.mp c_1)
        refine lv_aload_n hx hb dX11_emptyStops_15 rfl (lvA2 hl) ?_
        refine lv_aload_n hx hb dX11_emptyStops_16 rfl (lvA2 hl) ?_
        refine gf_RX11_54 S hK hP 0 xo_0 (v := .ref (g 9)) rfl dX11_emptyStops_17 ?_
        refine gf_RX11_306 S hK hP 17 xo_17 (v := .ref (g 30)) rfl dX11_emptyStops_20 ?_
        refine lv_iload_n hx hb dX11_emptyStops_23 rfl (lvA0 hl) ?_
        refine vp_callSi (runS_r (As := [.ref (g 30), .int (nI i4)]) (rest := [.ref (g 0)]) S (q_l_at l D cI cB cZ (g 30) 8 (F4 30) (nI i4) (by (first | omega | (have zz0 := Hid.u hb_cn; omega)))) kS_RX11_192 hK hP [18] (one_is xo_18) ⟨Nat.le_of_ble_eq_true rfl, Nat.le_of_ble_eq_true rfl⟩ ⟨Nat.le_of_ble_eq_true rfl, Nat.le_of_ble_eq_true rfl⟩ rfl hl.1 rfl (Nat.le_of_ble_eq_true rfl) dX11_emptyStops_24) (fun r_2 h_3 => ?_)
        subst h_3
        refine va_csq (runV_rxa (As := [.int (atM (F4 30) 8 (nI i4))]) (rest := []) S (q_XkitchenAt l D cI cB cZ zz qq vv bt g ad cn In F4 (atM (F4 30) 8 (nI i4)) hI4) kV_RX11_114 hK hXS hS hP 0 xo_0 rfl rfl ⟨Nat.le_of_ble_eq_true rfl, Nat.le_of_ble_eq_true rfl⟩ ⟨Nat.le_of_ble_eq_true rfl, Nat.le_of_ble_eq_true rfl⟩ rfl hl.1 rfl (Nat.le_of_ble_eq_true rfl) dX11_emptyStops_27) (fun r_4 h_5 => ?_)
        rcases h_5 with ⟨mr_4, er_4, hr_4, rfl⟩ | ⟨hr_4, rfl⟩
        ·
          refine lv_astore (lv' := [(4, .ref (ad 10 mr_4)), (3, .int (nI i4)), (2, .int x4_2), (0, .ref (g 0)), (1, .int v0)]) hx hb dX11_emptyStops_30 hl (ltb rfl) rfl (fun ls hl => ?_)
          refine lv_iload_n hx hb dX11_emptyStops_32 rfl (lvA2 hl) ?_
          refine lv_aload_n hx hb dX11_emptyStops_33 rfl (lvA3 hl) ?_
          refine gf_RX11_54 S hK hP 0 xo_0 (v := .ref (g 9)) rfl dX11_emptyStops_34 ?_
          refine gf_RX11_308 S hK hP 17 xo_17 (v := .ref (g 31)) rfl dX11_emptyStops_37 ?_
          refine lv_iload_n hx hb dX11_emptyStops_40 rfl (lvA1 hl) ?_
          refine vp_callSi (runS_r (As := [.ref (g 31), .int (nI i4)]) (rest := [.int x4_2]) S (q_l_at l D cI cB cZ (g 31) 8 (F4 31) (nI i4) (by (first | omega | (have zz0 := Hid.u hb_cn; omega)))) kS_RX11_192 hK hP [19] (one_is xo_19) ⟨Nat.le_of_ble_eq_true rfl, Nat.le_of_ble_eq_true rfl⟩ ⟨Nat.le_of_ble_eq_true rfl, Nat.le_of_ble_eq_true rfl⟩ rfl hl.1 rfl (Nat.le_of_ble_eq_true rfl) dX11_emptyStops_41) (fun r_6 h_7 => ?_)
          subst h_7
          refine lv_iadd hx hb dX11_emptyStops_44 ?_
          refine lv_istore_n (lv' := [(2, .int (x4_2 + (atM (F4 31) 8 (nI i4)))), (4, .ref (ad 10 mr_4)), (3, .int (nI i4)), (0, .ref (g 0)), (1, .int v0)]) hx hb dX11_emptyStops_45 rfl hl (ltb rfl) rfl (fun ls hl => ?_)
          refine lv_aload hx hb dX11_emptyStops_46 (lvA1 hl) ?_
          refine lv_ifnull hx hb dX11_emptyStops_48 ?_
          refine lv_aload hx hb dX11_emptyStops_51 (lvA1 hl) ?_
          refine lv_iload_n hx hb dX11_emptyStops_53 rfl (lvA4 hl) ?_
          have kf_1 : mr_4 < cn 10 := by (first | omega | (have zz0 := Hid.u hb_cn; omega))
          refine pf_RX11_263 S hK hP hD hS _ (xf_0 kf_1) (v := .int v0) (Nat.le_of_ble_eq_true rfl) rfl rfl dX11_emptyStops_54 (fun H locs hP hD hS => ?_)
          have hP : va_P D vwCl (wX cI (D.1 99) zz g ad cn In (va_up F4 105 (upd (F4 105) mr_4 v0))) H := va_P_eq (xs_105 (by (first | omega | (have zz0 := Hid.u hb_cn; omega)))) hP
          have hD : va_D A (wX cI (D.1 99) zz g ad cn In (va_up F4 105 (upd (F4 105) mr_4 v0))) := va_D_eq (xs_105 (by (first | omega | (have zz0 := Hid.u hb_cn; omega)))) hD
          refine lv_iinc (v := (nI (i4 + 1))) (lv' := [(3, .int (nI (i4 + 1))), (2, .int (x4_2 + (atM (F4 31) 8 (nI i4)))), (4, .ref (ad 10 mr_4)), (0, .ref (g 0)), (1, .int v0)]) hx hb dX11_emptyStops_57 hl (k := 2) rfl (nI_1 _) (ltb rfl) rfl (fun ls hl => ?_)
          refine lv_goto (tgt := 4) hx hb dX11_emptyStops_60 rfl ?_
          exact ih4 (i4 + 1) (x4_2 + (atM (F4 31) 8 (nI i4))) (va_up F4 105 (upd (F4 105) mr_4 v0)) _ _ (by (first | omega | (have zz0 := Hid.u hb_cn; omega))) ⟨(by (first | omega | (have zz0 := Hid.u hb_cn; omega))), (Fr.mo (Fr.f 105 hfr4) (sbl rfl) (sbl rfl) (sbl rfl)), hI4⟩ hP hD hS ls (lv_sub hl [0, 1, 3, 4] rfl)
        ·
          refine lv_astoreN (lv' := [(4, .null), (3, .int (nI i4)), (2, .int x4_2), (0, .ref (g 0)), (1, .int v0)]) hx hb dX11_emptyStops_30 hl (ltb rfl) rfl (fun ls hl => ?_)
          refine lv_iload_n hx hb dX11_emptyStops_32 rfl (lvA2 hl) ?_
          refine lv_aload_n hx hb dX11_emptyStops_33 rfl (lvA3 hl) ?_
          refine gf_RX11_54 S hK hP 0 xo_0 (v := .ref (g 9)) rfl dX11_emptyStops_34 ?_
          refine gf_RX11_308 S hK hP 17 xo_17 (v := .ref (g 31)) rfl dX11_emptyStops_37 ?_
          refine lv_iload_n hx hb dX11_emptyStops_40 rfl (lvA1 hl) ?_
          refine vp_callSi (runS_r (As := [.ref (g 31), .int (nI i4)]) (rest := [.int x4_2]) S (q_l_at l D cI cB cZ (g 31) 8 (F4 31) (nI i4) (by (first | omega | (have zz0 := Hid.u hb_cn; omega)))) kS_RX11_192 hK hP [19] (one_is xo_19) ⟨Nat.le_of_ble_eq_true rfl, Nat.le_of_ble_eq_true rfl⟩ ⟨Nat.le_of_ble_eq_true rfl, Nat.le_of_ble_eq_true rfl⟩ rfl hl.1 rfl (Nat.le_of_ble_eq_true rfl) dX11_emptyStops_41) (fun r_8 h_9 => ?_)
          subst h_9
          refine lv_iadd hx hb dX11_emptyStops_44 ?_
          refine lv_istore_n (lv' := [(2, .int (x4_2 + (atM (F4 31) 8 (nI i4)))), (4, .null), (3, .int (nI i4)), (0, .ref (g 0)), (1, .int v0)]) hx hb dX11_emptyStops_45 rfl hl (ltb rfl) rfl (fun ls hl => ?_)
          refine lv_aloadN hx hb dX11_emptyStops_46 (lvA1 hl) ?_
          refine lv_ifnullN (tgt := 57) hx hb dX11_emptyStops_48 rfl ?_
          refine lv_iinc (v := (nI (i4 + 1))) (lv' := [(3, .int (nI (i4 + 1))), (2, .int (x4_2 + (atM (F4 31) 8 (nI i4)))), (4, .null), (0, .ref (g 0)), (1, .int v0)]) hx hb dX11_emptyStops_57 hl (k := 2) rfl (nI_1 _) (ltb rfl) rfl (fun ls hl => ?_)
          refine lv_goto (tgt := 4) hx hb dX11_emptyStops_60 rfl ?_
          exact ih4 (i4 + 1) (x4_2 + (atM (F4 31) 8 (nI i4))) F4 _ _ (by (first | omega | (have zz0 := Hid.u hb_cn; omega))) ⟨(by (first | omega | (have zz0 := Hid.u hb_cn; omega))), (Fr.mo hfr4 (sbl rfl) (sbl rfl) (sbl rfl)), hI4⟩ hP hD hS ls (lv_sub hl [0, 1, 3, 4] rfl)
  exact lp_4 _ 0 0 Fn _ _ (Nat.lt_succ_self _) ⟨(by (first | omega | (have zz0 := Hid.u hb_cn; omega))), (Fr.mo Fr.rf (sbl rfl) (sbl rfl) (sbl rfl)), hB⟩ hP hD hS ls (lv_sub hl [0, 1, 2, 3] rfl)
set_option maxRecDepth 100000 in
set_option maxHeartbeats 4000000 in
theorem q_Xnights (l : Launch) (D : va_G) (cI cB cZ : ClassId) (zz qq vv : Nat) (bt : Nat → Int32) (g : Nat → Nat) (ad : Nat → Nat → Nat) (cn : Nat → Nat) (In : Nat → Int32) (Fn : Nat → Nat → Int32) (v0 v1 v2 v3 : Int32) (sz : Nat) (hB : CBX cn) : Met l yX11_nights (CWS yX11_nights cX11_nights 8 (some .int)) (RM 7 0 0) (PBx [.ref (g 0), .int v0, .int v1, .int v2, .int v3] D cI cB cZ zz qq vv bt (wX cI (D.1 99) zz g ad cn In Fn) sz) (va_Qi (fun (r : Int32) (u : (Nat → Nat) × (Nat → Int32) × (Nat → Nat → Int32)) => (fun r c2 I2 F2 => Fr [4] [] [30, 31, 32, 33, 34, 35, 105] cn In Fn c2 I2 F2 ∧ CBX c2 ∧ (True)) r u.1 u.2.1 u.2.2) (fun (u : (Nat → Nat) × (Nat → Int32) × (Nat → Nat → Int32)) (t : State) => va_P D vwCl (wX cI (D.1 99) zz g ad u.1 u.2.1 u.2.2) t.heap ∧ va_D (va_A (wX cI (D.1 99) zz g ad cn In Fn) sz) (wX cI (D.1 99) zz g ad u.1 u.2.1 u.2.2)) (va_A (wX cI (D.1 99) zz g ad cn In Fn) sz)) 0 0 (va_A (wX cI (D.1 99) zz g ad cn In Fn) sz) := by
  refine en_x (fun A => (va_Qi (fun (r : Int32) (u : (Nat → Nat) × (Nat → Int32) × (Nat → Nat → Int32)) => (fun (r : Int32) (c2 : Nat → Nat) (I2 : Nat → Int32) (F2 : Nat → Nat → Int32) => Fr [4] [] [30, 31, 32, 33, 34, 35, 105] cn In Fn c2 I2 F2 ∧ CBX c2 ∧ (True)) r u.1 u.2.1 u.2.2) (fun (u : (Nat → Nat) × (Nat → Int32) × (Nat → Nat → Int32)) (t : State) => va_P D vwCl (wX cI (D.1 99) zz g ad u.1 u.2.1 u.2.2) t.heap ∧ va_D A (wX cI (D.1 99) zz g ad u.1 u.2.1 u.2.2)) A)) rfl rfl pn_RX11 (Nat.le_of_ble_eq_true rfl) (fun p e s m below meth c A hx hb hml hown S hr hlocks hnm hA hP hK hD hXS hS ls hl => ?_)
  have hl : lv_has ls 8 [(0, .ref (g 0)), (1, .int v0), (2, .int v1), (3, .int v2), (4, .int v3)] := hl
  have hb_cn : Hid (CBX cn) := hB
  replace hB : CBXh cn := hB
  refine lv_iload_n hx hb dX11_nights_0 rfl (lvA1 hl) ?_
  refine vp_callSi (runS_r (As := [.int v0]) (rest := []) S (q_l_isDay l D cI cB cZ v0) kS_RX11_99 hK hP [] rfl ⟨Nat.le_of_ble_eq_true rfl, Nat.le_of_ble_eq_true rfl⟩ ⟨Nat.le_of_ble_eq_true rfl, Nat.le_of_ble_eq_true rfl⟩ rfl hl.1 rfl (Nat.le_of_ble_eq_true rfl) dX11_nights_1) (fun r_1 h_2 => ?_)
  rcases h_2 with ⟨rfl, h_2⟩ | ⟨rfl, h_2⟩
  ·
    have h_2 : 0 ≤ v0.toInt ∧ v0.toInt ≤ 399 := h_2
    refine lv_if_eq (tgt := 49) hx hb dX11_nights_4 rfl (fun h => absurd h cq_eq_1_0) (fun _ => ?_)
    refine lv_iload_n hx hb dX11_nights_7 rfl (lvA2 hl) ?_
    refine lv_iconst (v := 1) hx hb dX11_nights_8 kic_1 ?_
    refine lv_bipush (v := 7) hx hb dX11_nights_9 kbc_7 ?_
    refine vp_callSi (runS_r (As := [.int v1, .int 1, .int 7]) (rest := []) S (q_l_within l D cI cB cZ v1 1 7) kS_RX11_80 hK hP [] rfl ⟨Nat.le_of_ble_eq_true rfl, Nat.le_of_ble_eq_true rfl⟩ ⟨Nat.le_of_ble_eq_true rfl, Nat.le_of_ble_eq_true rfl⟩ rfl hl.1 rfl (Nat.le_of_ble_eq_true rfl) dX11_nights_11) (fun r_3 h_4 => ?_)
    rcases h_4 with ⟨rfl, h_4⟩ | ⟨rfl, h_4⟩
    ·
      have h_4 : 1 ≤ v1.toInt ∧ v1.toInt ≤ 7 := h_4
      refine lv_if_eq (tgt := 49) hx hb dX11_nights_14 rfl (fun h => absurd h cq_eq_1_0) (fun _ => ?_)
      obtain ⟨d0, hd0, rfl⟩ := nI_of (x := v0) (fun q => by have := Int32.lt_iff_toInt_lt.mp q; have e : (0 : Int32).toInt = 0 := rfl; (first | omega | (have zz0 := Hid.u hb_cn; omega)))
      have td0 : (nI d0).toInt = (d0 : Int) := nI_toInt hd0
      have zd0 : (nI d0).toInt.toNat = d0 := by (first | omega | (have zz0 := Hid.u hb_cn; omega))
      obtain ⟨n0, hn0, rfl⟩ := nI_of (x := v1) (fun q => by have := Int32.lt_iff_toInt_lt.mp q; have e : (0 : Int32).toInt = 0 := rfl; (first | omega | (have zz0 := Hid.u hb_cn; omega)))
      have tn0 : (nI n0).toInt = (n0 : Int) := nI_toInt hn0
      have zn0 : (nI n0).toInt.toNat = n0 := by (first | omega | (have zz0 := Hid.u hb_cn; omega))
      refine lv_iload_n hx hb dX11_nights_17 rfl (lvA1 hl) ?_
      refine lv_iload_n hx hb dX11_nights_18 rfl (lvA2 hl) ?_
      refine lv_iadd hx hb dX11_nights_19 ?_
      refine lv_topi (fun y_5 ey_5 => ?_)
      obtain rfl : y_5 = (nI (d0 + n0)) := ey_5.trans (nI_add d0 n0)
      refine lv_iconst (v := 1) hx hb dX11_nights_20 kic_1 ?_
      refine lv_isub hx hb dX11_nights_21 ?_
      refine lv_topi (fun y_6 ey_6 => ?_)
      obtain rfl : y_6 = (nI (d0 + n0 - 1)) := ey_6.trans (nI_sub (b := 1) (by (first | omega | (have zz0 := Hid.u hb_cn; omega))))
      refine vp_callSi (runS_r (As := [.int (nI (d0 + n0 - 1))]) (rest := []) S (q_l_isDay l D cI cB cZ (nI (d0 + n0 - 1))) kS_RX11_99 hK hP [] rfl ⟨Nat.le_of_ble_eq_true rfl, Nat.le_of_ble_eq_true rfl⟩ ⟨Nat.le_of_ble_eq_true rfl, Nat.le_of_ble_eq_true rfl⟩ rfl hl.1 rfl (Nat.le_of_ble_eq_true rfl) dX11_nights_22) (fun r_7 h_8 => ?_)
      have : (nI (d0 + n0 - 1)).toInt = (((d0 + n0 - 1) : Nat) : Int) := nI_toInt (by (first | omega | (have zz0 := Hid.u hb_cn; omega)))
      rcases h_8 with ⟨rfl, h_8⟩ | ⟨rfl, h_8⟩
      ·
        have h_8 : 0 ≤ (nI (d0 + n0 - 1)).toInt ∧ (nI (d0 + n0 - 1)).toInt ≤ 399 := h_8
        refine lv_if_eq (tgt := 49) hx hb dX11_nights_25 rfl (fun h => absurd h cq_eq_1_0) (fun _ => ?_)
        refine lv_iload_n hx hb dX11_nights_28 rfl (lvA3 hl) ?_
        refine lv_iconst (v := 1) hx hb dX11_nights_29 kic_1 ?_
        refine lv_sipush (v := 400) hx hb dX11_nights_30 (by decide) ?_
        refine vp_callSi (runS_r (As := [.int v2, .int 1, .int 400]) (rest := []) S (q_l_within l D cI cB cZ v2 1 400) kS_RX11_80 hK hP [] rfl ⟨Nat.le_of_ble_eq_true rfl, Nat.le_of_ble_eq_true rfl⟩ ⟨Nat.le_of_ble_eq_true rfl, Nat.le_of_ble_eq_true rfl⟩ rfl hl.1 rfl (Nat.le_of_ble_eq_true rfl) dX11_nights_33) (fun r_9 h_10 => ?_)
        rcases h_10 with ⟨rfl, h_10⟩ | ⟨rfl, h_10⟩
        ·
          have h_10 : 1 ≤ v2.toInt ∧ v2.toInt ≤ 400 := h_10
          refine lv_if_eq (tgt := 49) hx hb dX11_nights_36 rfl (fun h => absurd h cq_eq_1_0) (fun _ => ?_)
          refine lv_iload hx hb dX11_nights_39 (lvA4 hl) ?_
          refine lv_iconst (v := 0) hx hb dX11_nights_41 kic_0 ?_
          refine lv_iconst (v := 2) hx hb dX11_nights_42 kic_2 ?_
          refine vp_callSi (runS_r (As := [.int v3, .int 0, .int 2]) (rest := []) S (q_l_within l D cI cB cZ v3 0 2) kS_RX11_80 hK hP [] rfl ⟨Nat.le_of_ble_eq_true rfl, Nat.le_of_ble_eq_true rfl⟩ ⟨Nat.le_of_ble_eq_true rfl, Nat.le_of_ble_eq_true rfl⟩ rfl hl.1 rfl (Nat.le_of_ble_eq_true rfl) dX11_nights_43) (fun r_11 h_12 => ?_)
          rcases h_12 with ⟨rfl, h_12⟩ | ⟨rfl, h_12⟩
          ·
            have h_12 : 0 ≤ v3.toInt ∧ v3.toInt ≤ 2 := h_12
            refine lv_if_ne (tgt := 51) hx hb dX11_nights_46 rfl (fun _ => ?_) (fun h => absurd h cq_eq_1_0)
            refine lv_aload_n hx hb dX11_nights_51 rfl (lvA0 hl) ?_
            refine lv_iload_n hx hb dX11_nights_52 rfl (lvA1 hl) ?_
            have hFc := free_all hD hS hA
            refine va_calli (runV_xa (As := [.int (nI d0)]) (rest := []) S (q_XstartTrial l D cI cB cZ zz qq vv bt g ad cn In Fn (nI d0) s.heap.size hB) kV_RX11_276 hK hXS hS hFc hP hD 0 xo_0 rfl rfl ⟨Nat.le_of_ble_eq_true rfl, Nat.le_of_ble_eq_true rfl⟩ ⟨Nat.le_of_ble_eq_true rfl, Nat.le_of_ble_eq_true rfl⟩ rfl hl.1 rfl (Nat.le_of_ble_eq_true rfl) dX11_nights_53) hS (fun q _ h => hFc q h) hFc (fun r_13 u t H1 locs ht hvm wh_14 hB1 hz1 hk1 hS => ?_)
            obtain ⟨cn14, In14, Fn14⟩ := u
            obtain ⟨hP1, hD1⟩ := hB1
            rw [ht] at hP1
            have hP : va_P D vwCl (wX cI (D.1 99) zz g ad cn14 In14 Fn14) H1 := hP1
            have hD : va_D A (wX cI (D.1 99) zz g ad cn14 In14 Fn14) := hD1.weaken (fun _ _ _ h => hFc _ h)
            generalize H1 = H at hP hS ⊢
            have vh_14 : (fun r c2 I2 F2 => Fr [] [] [105] cn In Fn c2 I2 F2 ∧ CBX c2 ∧ (True)) r_13 cn14 In14 Fn14 := wh_14
            obtain ⟨hfc14, hIn14, h_14⟩ := vh_14
            obtain rfl : cn = cn14 := (funext (fun k => hfc14.1 k List.not_mem_nil)).symm
            obtain rfl : In = In14 := (funext (fun k => hfc14.2.1 k List.not_mem_nil)).symm
            have hf14 : Fr [4] [] [30, 31, 32, 33, 34, 35, 105] cn In Fn cn In Fn14 := Fr.mo (Fr.tr (Fr.rf (cn := cn) (In := In) (Fn := Fn)) hfc14) (sbl rfl) (sbl rfl) (sbl rfl)
            replace hIn14 : CBXh cn := hIn14
            refine lv_if_ne (tgt := 62) hx hb dX11_nights_56 rfl (fun c_15 => ?_) (fun c_15 => ?_)
            ·
              have tc_15 : (r_13.toInt : Int) ≠ 0 := fun q => c_15 (Int32.toInt_inj.mp q)
              refine lv_iconst (v := 0) hx hb dX11_nights_62 kic_0 ?_
              refine lv_istore (lv' := [(5, .int 0), (0, .ref (g 0)), (1, .int (nI d0)), (2, .int (nI n0)), (3, .int v2), (4, .int v3)]) hx hb dX11_nights_63 hl (ltb rfl) rfl (fun ls hl => ?_)
              refine lv_iload_n hx hb dX11_nights_65 rfl (lvA2 hl) ?_
              refine lv_istore (lv' := [(6, .int (nI d0)), (5, .int 0), (0, .ref (g 0)), (1, .int (nI d0)), (2, .int (nI n0)), (3, .int v2), (4, .int v3)]) hx hb dX11_nights_66 hl (ltb rfl) rfl (fun ls hl => ?_)
              have lp_68 : ∀ (n : Nat) (i68 : Nat) (x68_5 : Int32) (c68 : Nat → Nat) (F68 : Nat → Nat → Int32) (H : Heap) (locs : List Loc) , d0 + n0 - i68 < n → (i68 ≤ d0 + n0 ∧ Fr [4] [] [30, 31, 32, 33, 34, 35, 105] cn In Fn c68 In F68 ∧ CBX c68) → va_P D vwCl (wX cI (D.1 99) zz g ad c68 In F68) H → va_D A (wX cI (D.1 99) zz g ad c68 In F68) → va_S A s.heap H locs → ∀ ls : Array Slot, lv_has ls 8 [(6, .int (nI i68)), (5, .int x68_5), (0, .ref (g 0)), (1, .int (nI d0)), (2, .int (nI n0)), (3, .int v2), (4, .int v3)] → W p l e (RM 7 0 0) s m ([.ref (g 0), .int (nI d0), .int (nI n0), .int v2, .int v3]).toArray below meth c H locs 0 0 (MQ below (va_Qi (fun (r : Int32) (u : (Nat → Nat) × (Nat → Int32) × (Nat → Nat → Int32)) => (fun r c2 I2 F2 => Fr [4] [] [30, 31, 32, 33, 34, 35, 105] cn In Fn c2 I2 F2 ∧ CBX c2 ∧ (True)) r u.1 u.2.1 u.2.2) (fun (u : (Nat → Nat) × (Nat → Int32) × (Nat → Nat → Int32)) (t : State) => va_P D vwCl (wX cI (D.1 99) zz g ad u.1 u.2.1 u.2.2) t.heap ∧ va_D A (wX cI (D.1 99) zz g ad u.1 u.2.1 u.2.2)) A) ([.ref (g 0), .int (nI d0), .int (nI n0), .int v2, .int v3]).toArray s 0 0 A) (F0 m 68 ls []) := by
                intro n68
                induction n68 with
                | zero => intros; (first | omega | (have zz0 := Hid.u hb_cn; omega))
                | succ n68 ih68 =>
                  intro i68 x68_5 c68 F68 H locs hmu68 hinv68 hP hD hS ls hl
                  obtain ⟨hr68, hfr68, hI68⟩ := hinv68
                  have ti68 : (nI i68).toInt = (i68 : Int) := nI_toInt (by (first | omega | (have zz0 := Hid.u hb_cn; omega)))
                  have hb_c68 : Hid (CBX c68) := hI68
                  replace hI68 : CBXh c68 := hI68
                  have : c68 6 = cn 6 := hfr68.1 6 (nml rfl)
                  have : c68 31 = cn 31 := hfr68.1 31 (nml rfl)
                  have : c68 32 = cn 32 := hfr68.1 32 (nml rfl)
                  have hq_c68 := Hid.i (frq_4_0_1_2_3_5_10_11_12_13_14_15_20_21_22_23_24_25 hfr68)
                  refine lv_iload hx hb dX11_nights_68 (lvA0 hl) ?_
                  refine lv_iload_n hx hb dX11_nights_70 rfl (lvA3 hl) ?_
                  refine lv_iload_n hx hb dX11_nights_71 rfl (lvA4 hl) ?_
                  refine lv_iadd hx hb dX11_nights_72 ?_
                  refine lv_topi (fun y_16 ey_16 => ?_)
                  obtain rfl : y_16 = (nI (d0 + n0)) := ey_16.trans (nI_add d0 n0)
                  have : (nI (d0 + n0)).toInt = (((d0 + n0) : Nat) : Int) := nI_toInt (by (first | omega | (have zz0 := Hid.u hb_c68; have zz1 := Hid.u hb_cn; have zz2 := Hid.u hq_c68; omega)))
                  refine lv_icmp_ge (tgt := 143) hx hb dX11_nights_73 rfl (fun c_17 => ?_) (fun c_17 => ?_)
                  ·
                    have tc_17 : ((nI (d0 + n0)).toInt : Int) ≤ (nI i68).toInt := Int32.le_iff_toInt_le.mp c_17
                    refine lv_iload hx hb dX11_nights_143 (lvA1 hl) ?_
                    exact W.iret (v := x68_5) hx hb hr (fun t ht hW => ⟨⟨x68_5, (c68, In, F68), rfl, ⟨(Fr.mo hfr68 (sbl rfl) (sbl rfl) (sbl rfl)), hI68, trivial⟩, by rw [ht]; exact hP, hD⟩, hS.F ht⟩) hS.2.2 dX11_nights_145
                  ·
                    have tc_17 : ((nI i68).toInt : Int) < (nI (d0 + n0)).toInt := Int32.lt_iff_toInt_lt.mp (Int32.not_le.mp c_17)
                    refine lv_aload_n hx hb dX11_nights_76 rfl (lvA2 hl) ?_
                    refine lv_iload hx hb dX11_nights_77 (lvA0 hl) ?_
                    refine lv_iload_n hx hb dX11_nights_79 rfl (lvA5 hl) ?_
                    refine lv_bipush (v := 8) hx hb dX11_nights_80 kbc_8 ?_
                    have hFc := free_all hD hS hA
                    refine va_calli (runV_xa (As := [.int (nI i68), .int v2, .int 8]) (rest := []) S (q_XgatherStops l D cI cB cZ zz qq vv bt g ad c68 In F68 (nI i68) v2 8 H.size hI68 (by decide)) kV_RX11_279 hK hXS hS hFc hP hD 0 xo_0 rfl rfl ⟨Nat.le_of_ble_eq_true rfl, Nat.le_of_ble_eq_true rfl⟩ ⟨Nat.le_of_ble_eq_true rfl, Nat.le_of_ble_eq_true rfl⟩ rfl hl.1 rfl (Nat.le_of_ble_eq_true rfl) dX11_nights_82) hS (fun q _ h => hFc q h) hFc (fun r_18 u t H1 locs ht hvm wh_19 hB1 hz1 hk1 hS => ?_)
                    obtain ⟨cn19, In19, Fn19⟩ := u
                    obtain ⟨hP1, hD1⟩ := hB1
                    rw [ht] at hP1
                    have hP : va_P D vwCl (wX cI (D.1 99) zz g ad cn19 In19 Fn19) H1 := hP1
                    have hD : va_D A (wX cI (D.1 99) zz g ad cn19 In19 Fn19) := hD1.weaken (fun _ _ _ h => hFc _ h)
                    generalize H1 = H at hP hS ⊢
                    have vh_19 : (fun r c2 I2 F2 => Fr [4] [] [30, 31, 32, 33, 34, 35] c68 In F68 c2 I2 F2 ∧ CBX c2 ∧ (True)) r_18 cn19 In19 Fn19 := wh_19
                    obtain ⟨hfc19, hIn19, h_19⟩ := vh_19
                    obtain rfl : In = In19 := (funext (fun k => hfc19.2.1 k List.not_mem_nil)).symm
                    have hf19 : Fr [4] [] [30, 31, 32, 33, 34, 35, 105] cn In Fn cn19 In Fn19 := Fr.mo (Fr.tr hfr68 hfc19) (sbl rfl) (sbl rfl) (sbl rfl)
                    have hb_cn19 : Hid (CBX cn19) := hIn19
                    replace hIn19 : CBXh cn19 := hIn19
                    have : cn19 6 = (c68 6) := hfc19.1 6 (nml rfl)
                    have : cn19 31 = (c68 31) := hfc19.1 31 (nml rfl)
                    have : cn19 32 = (c68 32) := hfc19.1 32 (nml rfl)
                    have hq_cn19 : Hid (cn19 0 = (c68 0) ∧ cn19 1 = (c68 1) ∧ cn19 2 = (c68 2) ∧ cn19 3 = (c68 3) ∧ cn19 5 = (c68 5) ∧ cn19 10 = (c68 10) ∧ cn19 11 = (c68 11) ∧ cn19 12 = (c68 12) ∧ cn19 13 = (c68 13) ∧ cn19 14 = (c68 14) ∧ cn19 15 = (c68 15) ∧ cn19 20 = (c68 20) ∧ cn19 21 = (c68 21) ∧ cn19 22 = (c68 22) ∧ cn19 23 = (c68 23) ∧ cn19 24 = (c68 24) ∧ cn19 25 = (c68 25)) := Hid.i (p := cn19 0 = (c68 0) ∧ cn19 1 = (c68 1) ∧ cn19 2 = (c68 2) ∧ cn19 3 = (c68 3) ∧ cn19 5 = (c68 5) ∧ cn19 10 = (c68 10) ∧ cn19 11 = (c68 11) ∧ cn19 12 = (c68 12) ∧ cn19 13 = (c68 13) ∧ cn19 14 = (c68 14) ∧ cn19 15 = (c68 15) ∧ cn19 20 = (c68 20) ∧ cn19 21 = (c68 21) ∧ cn19 22 = (c68 22) ∧ cn19 23 = (c68 23) ∧ cn19 24 = (c68 24) ∧ cn19 25 = (c68 25)) ⟨hfc19.1 0 (nml rfl), hfc19.1 1 (nml rfl), hfc19.1 2 (nml rfl), hfc19.1 3 (nml rfl), hfc19.1 5 (nml rfl), hfc19.1 10 (nml rfl), hfc19.1 11 (nml rfl), hfc19.1 12 (nml rfl), hfc19.1 13 (nml rfl), hfc19.1 14 (nml rfl), hfc19.1 15 (nml rfl), hfc19.1 20 (nml rfl), hfc19.1 21 (nml rfl), hfc19.1 22 (nml rfl), hfc19.1 23 (nml rfl), hfc19.1 24 (nml rfl), hfc19.1 25 (nml rfl)⟩
                    refine lv_if_ne (tgt := 91) hx hb dX11_nights_85 rfl (fun c_20 => ?_) (fun c_20 => ?_)
                    ·
                      have tc_20 : (r_18.toInt : Int) ≠ 0 := fun q => c_20 (Int32.toInt_inj.mp q)
                      refine lv_aload_n hx hb dX11_nights_91 rfl (lvA2 hl) ?_
                      refine lv_iload hx hb dX11_nights_92 (lvA0 hl) ?_
                      have hFc := free_all hD hS hA
                      refine va_calli (runV_xa (As := [.int (nI i68)]) (rest := []) S (q_XemptyStops l D cI cB cZ zz qq vv bt g ad cn19 In Fn19 (nI i68) H.size hIn19) kV_RX11_303 hK hXS hS hFc hP hD 0 xo_0 rfl rfl ⟨Nat.le_of_ble_eq_true rfl, Nat.le_of_ble_eq_true rfl⟩ ⟨Nat.le_of_ble_eq_true rfl, Nat.le_of_ble_eq_true rfl⟩ rfl hl.1 rfl (Nat.le_of_ble_eq_true rfl) dX11_nights_94) hS (fun q _ h => hFc q h) hFc (fun r_21 u t H1 locs ht hvm wh_22 hB1 hz1 hk1 hS => ?_)
                      obtain ⟨cn22, In22, Fn22⟩ := u
                      obtain ⟨hP1, hD1⟩ := hB1
                      rw [ht] at hP1
                      have hP : va_P D vwCl (wX cI (D.1 99) zz g ad cn22 In22 Fn22) H1 := hP1
                      have hD : va_D A (wX cI (D.1 99) zz g ad cn22 In22 Fn22) := hD1.weaken (fun _ _ _ h => hFc _ h)
                      generalize H1 = H at hP hS ⊢
                      have vh_22 : (fun r c2 I2 F2 => Fr [] [] [105] cn19 In Fn19 c2 I2 F2 ∧ CBX c2 ∧ (True)) r_21 cn22 In22 Fn22 := wh_22
                      obtain ⟨hfc22, hIn22, h_22⟩ := vh_22
                      obtain rfl : cn19 = cn22 := (funext (fun k => hfc22.1 k List.not_mem_nil)).symm
                      obtain rfl : In = In22 := (funext (fun k => hfc22.2.1 k List.not_mem_nil)).symm
                      have hf22 : Fr [4] [] [30, 31, 32, 33, 34, 35, 105] cn In Fn cn19 In Fn22 := Fr.mo (Fr.tr hf19 hfc22) (sbl rfl) (sbl rfl) (sbl rfl)
                      replace hIn22 : CBXh cn19 := hIn22
                      refine lv_istore (lv' := [(7, .int r_21), (6, .int (nI i68)), (5, .int x68_5), (0, .ref (g 0)), (1, .int (nI d0)), (2, .int (nI n0)), (3, .int v2), (4, .int v3)]) hx hb dX11_nights_97 hl (ltb rfl) rfl (fun ls hl => ?_)
                      refine lv_iload hx hb dX11_nights_99 (lvA2 hl) ?_
                      refine lv_iload hx hb dX11_nights_101 (lvA7 hl) ?_
                      refine lv_if_ne (tgt := 116) hx hb dX11_nights_103 rfl (fun c_23 => ?_) (fun c_23 => ?_)
                      ·
                        have tc_23 : (v3.toInt : Int) ≠ 0 := fun q => c_23 (Int32.toInt_inj.mp q)
                        refine lv_iload hx hb dX11_nights_116 (lvA7 hl) ?_
                        refine lv_iconst (v := 1) hx hb dX11_nights_118 kic_1 ?_
                        refine lv_icmp_ne (tgt := 127) hx hb dX11_nights_119 rfl (fun c_24 => ?_) (fun c_24 => ?_)
                        ·
                          have tc_24 : (v3.toInt : Int) ≠ 1 := fun q => c_24 (Int32.toInt_inj.mp q)
                          refine lv_aload_n hx hb dX11_nights_127 rfl (lvA3 hl) ?_
                          refine gf_RX11_54 S hK hP 0 xo_0 (v := .ref (g 9)) rfl dX11_nights_128 ?_
                          refine gf_RX11_267 S hK hP 17 xo_17 (v := .int (nI (cn19 4))) rfl dX11_nights_131 ?_
                          refine lv_iadd hx hb dX11_nights_134 ?_
                          refine lv_istore (lv' := [(5, .int (x68_5 + (nI (cn19 4)))), (7, .int r_21), (6, .int (nI i68)), (0, .ref (g 0)), (1, .int (nI d0)), (2, .int (nI n0)), (3, .int v2), (4, .int v3)]) hx hb dX11_nights_135 hl (ltb rfl) rfl (fun ls hl => ?_)
                          refine lv_iinc (v := (nI (i68 + 1))) (lv' := [(6, .int (nI (i68 + 1))), (5, .int (x68_5 + (nI (cn19 4)))), (7, .int r_21), (0, .ref (g 0)), (1, .int (nI d0)), (2, .int (nI n0)), (3, .int v2), (4, .int v3)]) hx hb dX11_nights_137 hl (k := 2) rfl (nI_1 _) (ltb rfl) rfl (fun ls hl => ?_)
                          refine lv_goto (tgt := 68) hx hb dX11_nights_140 rfl ?_
                          exact ih68 (i68 + 1) (x68_5 + (nI (cn19 4))) cn19 Fn22 _ _ (by (first | omega | (have zz0 := Hid.u hb_c68; have zz1 := Hid.u hb_cn; have zz2 := Hid.u hb_cn19; have zz3 := Hid.u hq_c68; have zz4 := Hid.u hq_cn19; omega))) ⟨(by (first | omega | (have zz0 := Hid.u hb_c68; have zz1 := Hid.u hb_cn; have zz2 := Hid.u hb_cn19; have zz3 := Hid.u hq_c68; have zz4 := Hid.u hq_cn19; omega))), (Fr.mo hf22 (sbl rfl) (sbl rfl) (sbl rfl)), hIn22⟩ hP hD hS ls (lv_sub hl [0, 1, 3, 4, 5, 6, 7] rfl)
                        ·
                          have tc_24 : (v3.toInt : Int) = 1 := congrArg Int32.toInt c_24
                          refine lv_iload hx hb dX11_nights_122 (lvA0 hl) ?_
                          refine lv_goto (tgt := 134) hx hb dX11_nights_124 rfl ?_
                          refine lv_iadd hx hb dX11_nights_134 ?_
                          refine lv_istore (lv' := [(5, .int (x68_5 + r_21)), (7, .int r_21), (6, .int (nI i68)), (0, .ref (g 0)), (1, .int (nI d0)), (2, .int (nI n0)), (3, .int v2), (4, .int v3)]) hx hb dX11_nights_135 hl (ltb rfl) rfl (fun ls hl => ?_)
                          refine lv_iinc (v := (nI (i68 + 1))) (lv' := [(6, .int (nI (i68 + 1))), (5, .int (x68_5 + r_21)), (7, .int r_21), (0, .ref (g 0)), (1, .int (nI d0)), (2, .int (nI n0)), (3, .int v2), (4, .int v3)]) hx hb dX11_nights_137 hl (k := 2) rfl (nI_1 _) (ltb rfl) rfl (fun ls hl => ?_)
                          refine lv_goto (tgt := 68) hx hb dX11_nights_140 rfl ?_
                          exact ih68 (i68 + 1) (x68_5 + r_21) cn19 Fn22 _ _ (by (first | omega | (have zz0 := Hid.u hb_c68; have zz1 := Hid.u hb_cn; have zz2 := Hid.u hb_cn19; have zz3 := Hid.u hq_c68; have zz4 := Hid.u hq_cn19; omega))) ⟨(by (first | omega | (have zz0 := Hid.u hb_c68; have zz1 := Hid.u hb_cn; have zz2 := Hid.u hb_cn19; have zz3 := Hid.u hq_c68; have zz4 := Hid.u hq_cn19; omega))), (Fr.mo hf22 (sbl rfl) (sbl rfl) (sbl rfl)), hIn22⟩ hP hD hS ls (lv_sub hl [0, 1, 3, 4, 5, 6, 7] rfl)
                      ·
                        have tc_23 : (v3.toInt : Int) = 0 := congrArg Int32.toInt c_23
                        refine lv_aload_n hx hb dX11_nights_106 rfl (lvA3 hl) ?_
                        refine gf_RX11_54 S hK hP 0 xo_0 (v := .ref (g 9)) rfl dX11_nights_107 ?_
                        refine vp_callSi (runV_rxa (As := []) (rest := [.int x68_5]) S (q_XwholeLength l D cI cB cZ zz qq vv bt g ad cn19 In Fn22  hIn22) kV_RX11_282 hK hXS hS hP 17 xo_17 rfl rfl ⟨Nat.le_of_ble_eq_true rfl, Nat.le_of_ble_eq_true rfl⟩ ⟨Nat.le_of_ble_eq_true rfl, Nat.le_of_ble_eq_true rfl⟩ rfl hl.1 rfl (Nat.le_of_ble_eq_true rfl) dX11_nights_110) (fun r_25 h_26 => ?_)
                        refine lv_goto (tgt := 134) hx hb dX11_nights_113 rfl ?_
                        refine lv_iadd hx hb dX11_nights_134 ?_
                        refine lv_istore (lv' := [(5, .int (x68_5 + r_25)), (7, .int r_21), (6, .int (nI i68)), (0, .ref (g 0)), (1, .int (nI d0)), (2, .int (nI n0)), (3, .int v2), (4, .int v3)]) hx hb dX11_nights_135 hl (ltb rfl) rfl (fun ls hl => ?_)
                        refine lv_iinc (v := (nI (i68 + 1))) (lv' := [(6, .int (nI (i68 + 1))), (5, .int (x68_5 + r_25)), (7, .int r_21), (0, .ref (g 0)), (1, .int (nI d0)), (2, .int (nI n0)), (3, .int v2), (4, .int v3)]) hx hb dX11_nights_137 hl (k := 2) rfl (nI_1 _) (ltb rfl) rfl (fun ls hl => ?_)
                        refine lv_goto (tgt := 68) hx hb dX11_nights_140 rfl ?_
                        exact ih68 (i68 + 1) (x68_5 + r_25) cn19 Fn22 _ _ (by (first | omega | (have zz0 := Hid.u hb_c68; have zz1 := Hid.u hb_cn; have zz2 := Hid.u hb_cn19; have zz3 := Hid.u hq_c68; have zz4 := Hid.u hq_cn19; omega))) ⟨(by (first | omega | (have zz0 := Hid.u hb_c68; have zz1 := Hid.u hb_cn; have zz2 := Hid.u hb_cn19; have zz3 := Hid.u hq_c68; have zz4 := Hid.u hq_cn19; omega))), (Fr.mo hf22 (sbl rfl) (sbl rfl) (sbl rfl)), hIn22⟩ hP hD hS ls (lv_sub hl [0, 1, 3, 4, 5, 6, 7] rfl)
                    ·
                      have tc_20 : (r_18.toInt : Int) = 0 := congrArg Int32.toInt c_20
                      refine lv_bipush (v := (-2)) hx hb dX11_nights_88 kbc_m2 ?_
                      exact W.iret (v := (-2)) hx hb hr (fun t ht hW => ⟨⟨(-2), (cn19, In, Fn19), rfl, ⟨(Fr.mo hf19 (sbl rfl) (sbl rfl) (sbl rfl)), hIn19, trivial⟩, by rw [ht]; exact hP, hD⟩, hS.F ht⟩) hS.2.2 dX11_nights_90
              exact lp_68 _ d0 0 cn Fn14 _ _ (Nat.lt_succ_self _) ⟨(by (first | omega | (have zz0 := Hid.u hb_cn; omega))), (Fr.mo hf14 (sbl rfl) (sbl rfl) (sbl rfl)), hIn14⟩ hP hD hS ls (lv_sub hl [0, 1, 2, 3, 4, 5, 6] rfl)
            ·
              have tc_15 : (r_13.toInt : Int) = 0 := congrArg Int32.toInt c_15
              refine lv_bipush (v := (-2)) hx hb dX11_nights_59 kbc_m2 ?_
              exact W.iret (v := (-2)) hx hb hr (fun t ht hW => ⟨⟨(-2), (cn, In, Fn14), rfl, ⟨(Fr.mo hf14 (sbl rfl) (sbl rfl) (sbl rfl)), hIn14, trivial⟩, by rw [ht]; exact hP, hD⟩, hS.F ht⟩) hS.2.2 dX11_nights_61
          ·
            have h_12 : ¬ (0 ≤ v3.toInt ∧ v3.toInt ≤ 2) := h_12
            refine lv_if_ne (tgt := 51) hx hb dX11_nights_46 rfl (fun h => absurd h cq_eq_0_0) (fun _ => ?_)
            refine lv_iconst (v := (-1)) hx hb dX11_nights_49 kic_m1 ?_
            exact W.iret (v := (-1)) hx hb hr (fun t ht hW => ⟨⟨(-1), (cn, In, Fn), rfl, ⟨(Fr.mo Fr.rf (sbl rfl) (sbl rfl) (sbl rfl)), hB, trivial⟩, by rw [ht]; exact hP, hD⟩, hS.F ht⟩) hS.2.2 dX11_nights_50
        ·
          have h_10 : ¬ (1 ≤ v2.toInt ∧ v2.toInt ≤ 400) := h_10
          refine lv_if_eq (tgt := 49) hx hb dX11_nights_36 rfl (fun _ => ?_) (fun h => absurd h cq_eq_0_0)
          refine lv_iconst (v := (-1)) hx hb dX11_nights_49 kic_m1 ?_
          exact W.iret (v := (-1)) hx hb hr (fun t ht hW => ⟨⟨(-1), (cn, In, Fn), rfl, ⟨(Fr.mo Fr.rf (sbl rfl) (sbl rfl) (sbl rfl)), hB, trivial⟩, by rw [ht]; exact hP, hD⟩, hS.F ht⟩) hS.2.2 dX11_nights_50
      ·
        have h_8 : ¬ (0 ≤ (nI (d0 + n0 - 1)).toInt ∧ (nI (d0 + n0 - 1)).toInt ≤ 399) := h_8
        refine lv_if_eq (tgt := 49) hx hb dX11_nights_25 rfl (fun _ => ?_) (fun h => absurd h cq_eq_0_0)
        refine lv_iconst (v := (-1)) hx hb dX11_nights_49 kic_m1 ?_
        exact W.iret (v := (-1)) hx hb hr (fun t ht hW => ⟨⟨(-1), (cn, In, Fn), rfl, ⟨(Fr.mo Fr.rf (sbl rfl) (sbl rfl) (sbl rfl)), hB, trivial⟩, by rw [ht]; exact hP, hD⟩, hS.F ht⟩) hS.2.2 dX11_nights_50
    ·
      have h_4 : ¬ (1 ≤ v1.toInt ∧ v1.toInt ≤ 7) := h_4
      refine lv_if_eq (tgt := 49) hx hb dX11_nights_14 rfl (fun _ => ?_) (fun h => absurd h cq_eq_0_0)
      refine lv_iconst (v := (-1)) hx hb dX11_nights_49 kic_m1 ?_
      exact W.iret (v := (-1)) hx hb hr (fun t ht hW => ⟨⟨(-1), (cn, In, Fn), rfl, ⟨(Fr.mo Fr.rf (sbl rfl) (sbl rfl) (sbl rfl)), hB, trivial⟩, by rw [ht]; exact hP, hD⟩, hS.F ht⟩) hS.2.2 dX11_nights_50
  ·
    have h_2 : ¬ (0 ≤ v0.toInt ∧ v0.toInt ≤ 399) := h_2
    refine lv_if_eq (tgt := 49) hx hb dX11_nights_4 rfl (fun _ => ?_) (fun h => absurd h cq_eq_0_0)
    refine lv_iconst (v := (-1)) hx hb dX11_nights_49 kic_m1 ?_
    exact W.iret (v := (-1)) hx hb hr (fun t ht hW => ⟨⟨(-1), (cn, In, Fn), rfl, ⟨(Fr.mo Fr.rf (sbl rfl) (sbl rfl) (sbl rfl)), hB, trivial⟩, by rw [ht]; exact hP, hD⟩, hS.F ht⟩) hS.2.2 dX11_nights_50
set_option maxRecDepth 100000 in
set_option maxHeartbeats 4000000 in
theorem q_XdrivenLength (l : Launch) (D : va_G) (cI cB cZ : ClassId) (zz qq vv : Nat) (bt : Nat → Int32) (g : Nat → Nat) (ad : Nat → Nat → Nat) (cn : Nat → Nat) (In : Nat → Int32) (Fn : Nat → Nat → Int32) (n0 : Nat) (hB : CBX cn) (hn : n0 ≤ 20) : Met l yX11_drivenLength (CWS yX11_drivenLength cX11_drivenLength 7 (some .int)) (RM 4 0 0) (PBrx [.ref (g 0), .int (nI n0)] D cI cB cZ zz qq vv bt (wX cI (D.1 99) zz g ad cn In Fn)) (vp_Si (fun _ => True)) 0 0 (fun _ => False) := by
  refine en_rx rfl pn_RX11 (Nat.le_of_ble_eq_true rfl) (fun p e s m below meth c hx hb hml hown S hr hlocks hnm hP hK hXS hS ls hl => ?_)
  have hl : lv_has ls 7 [(0, .ref (g 0)), (1, .int (nI n0))] := hl
  have hb_cn : Hid (CBX cn) := hB
  replace hB : CBXh cn := hB
  refine lv_iconst (v := 0) hx hb dX11_drivenLength_0 kic_0 ?_
  refine lv_istore_n (lv' := [(2, .int 0), (0, .ref (g 0)), (1, .int (nI n0))]) hx hb dX11_drivenLength_1 rfl hl (ltb rfl) rfl (fun ls hl => ?_)
  refine lv_iconst (v := 0) hx hb dX11_drivenLength_2 kic_0 ?_
  refine lv_istore_n (lv' := [(3, .int 0), (2, .int 0), (0, .ref (g 0)), (1, .int (nI n0))]) hx hb dX11_drivenLength_3 rfl hl (ltb rfl) rfl (fun ls hl => ?_)
  refine lv_iconst (v := 0) hx hb dX11_drivenLength_4 kic_0 ?_
  refine lv_istore (lv' := [(4, .int 0), (3, .int 0), (2, .int 0), (0, .ref (g 0)), (1, .int (nI n0))]) hx hb dX11_drivenLength_5 hl (ltb rfl) rfl (fun ls hl => ?_)
  refine lv_iconst (v := 0) hx hb dX11_drivenLength_7 kic_0 ?_
  refine lv_istore (lv' := [(5, .int 0), (4, .int 0), (3, .int 0), (2, .int 0), (0, .ref (g 0)), (1, .int (nI n0))]) hx hb dX11_drivenLength_8 hl (ltb rfl) rfl (fun ls hl => ?_)
  have lp_10 : ∀ (n : Nat) (i10 : Nat) (x10_2 : Int32) (x10_3 : Int32) (x10_4 : Int32) , n0 - i10 < n → (i10 ≤ n0) → ∀ ls : Array Slot, lv_has ls 7 [(5, .int (nI i10)), (4, .int x10_4), (3, .int x10_3), (2, .int x10_2), (0, .ref (g 0)), (1, .int (nI n0))] → W p l e (RM 4 0 0) s m ([.ref (g 0), .int (nI n0)]).toArray below meth c s.heap [] 0 0 (MQ below (vp_Si (fun _ => True)) ([.ref (g 0), .int (nI n0)]).toArray s 0 0 (fun _ => False)) (F0 m 10 ls []) := by
    intro n10
    induction n10 with
    | zero => intros; (first | omega | (have zz0 := Hid.u hb_cn; omega))
    | succ n10 ih10 =>
      intro i10 x10_2 x10_3 x10_4 hmu10 hinv10 ls hl
      have hr10 := hinv10
      have ti10 : (nI i10).toInt = (i10 : Int) := nI_toInt (by (first | omega | (have zz0 := Hid.u hb_cn; omega)))
      refine lv_iload hx hb dX11_drivenLength_10 (lvA0 hl) ?_
      refine lv_iload_n hx hb dX11_drivenLength_12 rfl (lvA5 hl) ?_
      have : (nI n0).toInt = ((n0 : Nat) : Int) := nI_toInt (by (first | omega | (have zz0 := Hid.u hb_cn; omega)))
      refine lv_icmp_ge (tgt := 76) hx hb dX11_drivenLength_13 rfl (fun c_1 => ?_) (fun c_1 => ?_)
      ·
        have tc_1 : ((nI n0).toInt : Int) ≤ (nI i10).toInt := Int32.le_iff_toInt_le.mp c_1
        refine lv_iload_n hx hb dX11_drivenLength_76 rfl (lvA3 hl) ?_
        refine lv_iload_n hx hb dX11_drivenLength_77 rfl (lvA2 hl) ?_
        refine lv_iload hx hb dX11_drivenLength_78 (lvA1 hl) ?_
        refine lv_iconst (v := 0) hx hb dX11_drivenLength_80 kic_0 ?_
        refine lv_iconst (v := 0) hx hb dX11_drivenLength_81 kic_0 ?_
        refine vp_callSi (runS_r (As := [.int x10_3, .int x10_4, .int 0, .int 0]) (rest := [.int x10_2]) S (q_Xway l D cI cB cZ x10_3 x10_4 0 0 ) kS_RX11_299 hK hP [] rfl ⟨Nat.le_of_ble_eq_true rfl, Nat.le_of_ble_eq_true rfl⟩ ⟨Nat.le_of_ble_eq_true rfl, Nat.le_of_ble_eq_true rfl⟩ rfl hl.1 rfl (Nat.le_of_ble_eq_true rfl) dX11_drivenLength_82) (fun r_2 h_3 => ?_)
        refine lv_iadd hx hb dX11_drivenLength_85 ?_
        exact W.iret (v := (x10_2 + r_2)) hx hb hr (fun t ht hW => ⟨(x10_2 + r_2), rfl, trivial, ht⟩) (fun _ h => absurd h List.not_mem_nil) dX11_drivenLength_86
      ·
        have tc_1 : ((nI i10).toInt : Int) < (nI n0).toInt := Int32.lt_iff_toInt_lt.mp (Int32.not_le.mp c_1)
        refine lv_aload_n hx hb dX11_drivenLength_16 rfl (lvA4 hl) ?_
        refine lv_aload_n hx hb dX11_drivenLength_17 rfl (lvA4 hl) ?_
        refine gf_RX11_21 S hK hP 0 xo_0 (v := .ref (g 5)) rfl dX11_drivenLength_18 ?_
        refine lv_iload hx hb dX11_drivenLength_21 (lvA0 hl) ?_
        refine vp_callSi (runV_rxa (As := [.int (nI i10)]) (rest := [.ref (g 0)]) S (q_Xtat l D cI cB cZ zz qq vv bt g ad cn In Fn (nI i10) hB) kV_RX11_291 hK hXS hS hP 1 xo_1 rfl rfl ⟨Nat.le_of_ble_eq_true rfl, Nat.le_of_ble_eq_true rfl⟩ ⟨Nat.le_of_ble_eq_true rfl, Nat.le_of_ble_eq_true rfl⟩ rfl hl.1 rfl (Nat.le_of_ble_eq_true rfl) dX11_drivenLength_23) (fun r_4 h_5 => ?_)
        refine va_csq (runV_rxa (As := [.int r_4]) (rest := []) S (q_XkitchenAt l D cI cB cZ zz qq vv bt g ad cn In Fn r_4 hB) kV_RX11_114 hK hXS hS hP 0 xo_0 rfl rfl ⟨Nat.le_of_ble_eq_true rfl, Nat.le_of_ble_eq_true rfl⟩ ⟨Nat.le_of_ble_eq_true rfl, Nat.le_of_ble_eq_true rfl⟩ rfl hl.1 rfl (Nat.le_of_ble_eq_true rfl) dX11_drivenLength_26) (fun r_6 h_7 => ?_)
        rcases h_7 with ⟨mr_6, er_6, hr_6, rfl⟩ | ⟨hr_6, rfl⟩
        ·
          refine lv_astore (lv' := [(6, .ref (ad 10 mr_6)), (5, .int (nI i10)), (4, .int x10_4), (3, .int x10_3), (2, .int x10_2), (0, .ref (g 0)), (1, .int (nI n0))]) hx hb dX11_drivenLength_29 hl (ltb rfl) rfl (fun ls hl => ?_)
          refine lv_aload hx hb dX11_drivenLength_31 (lvA0 hl) ?_
          refine lv_ifnonnull (tgt := 38) hx hb dX11_drivenLength_33 rfl ?_
          refine lv_iload_n hx hb dX11_drivenLength_38 rfl (lvA4 hl) ?_
          refine lv_iload_n hx hb dX11_drivenLength_39 rfl (lvA3 hl) ?_
          refine lv_iload hx hb dX11_drivenLength_40 (lvA2 hl) ?_
          refine lv_aload hx hb dX11_drivenLength_42 (lvA0 hl) ?_
          have kf_1 : mr_6 < cn 10 := by (first | omega | (have zz0 := Hid.u hb_cn; omega))
          refine gf_RX11_293 S hK hP _ (xf_0 kf_1) (v := .int ((Fn 100) mr_6)) rfl dX11_drivenLength_44 ?_
          refine lv_aload hx hb dX11_drivenLength_47 (lvA0 hl) ?_
          refine gf_RX11_296 S hK hP _ (xf_0 kf_1) (v := .int ((Fn 101) mr_6)) rfl dX11_drivenLength_49 ?_
          refine vp_callSi (runS_r (As := [.int x10_3, .int x10_4, .int ((Fn 100) mr_6), .int ((Fn 101) mr_6)]) (rest := [.int x10_2]) S (q_Xway l D cI cB cZ x10_3 x10_4 ((Fn 100) mr_6) ((Fn 101) mr_6) ) kS_RX11_299 hK hP [] rfl ⟨Nat.le_of_ble_eq_true rfl, Nat.le_of_ble_eq_true rfl⟩ ⟨Nat.le_of_ble_eq_true rfl, Nat.le_of_ble_eq_true rfl⟩ rfl hl.1 rfl (Nat.le_of_ble_eq_true rfl) dX11_drivenLength_52) (fun r_8 h_9 => ?_)
          refine lv_iadd hx hb dX11_drivenLength_55 ?_
          refine lv_istore_n (lv' := [(2, .int (x10_2 + r_8)), (6, .ref (ad 10 mr_6)), (5, .int (nI i10)), (4, .int x10_4), (3, .int x10_3), (0, .ref (g 0)), (1, .int (nI n0))]) hx hb dX11_drivenLength_56 rfl hl (ltb rfl) rfl (fun ls hl => ?_)
          refine lv_aload hx hb dX11_drivenLength_57 (lvA1 hl) ?_
          refine gf_RX11_293 S hK hP _ (xf_0 kf_1) (v := .int ((Fn 100) mr_6)) rfl dX11_drivenLength_59 ?_
          refine lv_istore_n (lv' := [(3, .int ((Fn 100) mr_6)), (2, .int (x10_2 + r_8)), (6, .ref (ad 10 mr_6)), (5, .int (nI i10)), (4, .int x10_4), (0, .ref (g 0)), (1, .int (nI n0))]) hx hb dX11_drivenLength_62 rfl hl (ltb rfl) rfl (fun ls hl => ?_)
          refine lv_aload hx hb dX11_drivenLength_63 (lvA2 hl) ?_
          refine gf_RX11_296 S hK hP _ (xf_0 kf_1) (v := .int ((Fn 101) mr_6)) rfl dX11_drivenLength_65 ?_
          refine lv_istore (lv' := [(4, .int ((Fn 101) mr_6)), (3, .int ((Fn 100) mr_6)), (2, .int (x10_2 + r_8)), (6, .ref (ad 10 mr_6)), (5, .int (nI i10)), (0, .ref (g 0)), (1, .int (nI n0))]) hx hb dX11_drivenLength_68 hl (ltb rfl) rfl (fun ls hl => ?_)
          refine lv_iinc (v := (nI (i10 + 1))) (lv' := [(5, .int (nI (i10 + 1))), (4, .int ((Fn 101) mr_6)), (3, .int ((Fn 100) mr_6)), (2, .int (x10_2 + r_8)), (6, .ref (ad 10 mr_6)), (0, .ref (g 0)), (1, .int (nI n0))]) hx hb dX11_drivenLength_70 hl (k := 4) rfl (nI_1 _) (ltb rfl) rfl (fun ls hl => ?_)
          refine lv_goto (tgt := 10) hx hb dX11_drivenLength_73 rfl ?_
          exact ih10 (i10 + 1) (x10_2 + r_8) ((Fn 100) mr_6) ((Fn 101) mr_6) (by (first | omega | (have zz0 := Hid.u hb_cn; omega))) (by (first | omega | (have zz0 := Hid.u hb_cn; omega))) ls (lv_sub hl [0, 1, 2, 3, 5, 6] rfl)
        ·
          refine lv_astoreN (lv' := [(6, .null), (5, .int (nI i10)), (4, .int x10_4), (3, .int x10_3), (2, .int x10_2), (0, .ref (g 0)), (1, .int (nI n0))]) hx hb dX11_drivenLength_29 hl (ltb rfl) rfl (fun ls hl => ?_)
          refine lv_aloadN hx hb dX11_drivenLength_31 (lvA0 hl) ?_
          refine lv_ifnonnullN hx hb dX11_drivenLength_33 ?_
          refine lv_iconst (v := (-1)) hx hb dX11_drivenLength_36 kic_m1 ?_
          exact W.iret (v := (-1)) hx hb hr (fun t ht hW => ⟨(-1), rfl, trivial, ht⟩) (fun _ h => absurd h List.not_mem_nil) dX11_drivenLength_37
  exact lp_10 _ 0 0 0 0 (Nat.lt_succ_self _) (by (first | omega | (have zz0 := Hid.u hb_cn; omega))) ls (lv_sub hl [0, 1, 2, 3, 4, 5] rfl)
set_option maxRecDepth 100000 in
set_option maxHeartbeats 4000000 in
theorem q_Xdriven (l : Launch) (D : va_G) (cI cB cZ : ClassId) (zz qq vv : Nat) (bt : Nat → Int32) (g : Nat → Nat) (ad : Nat → Nat → Nat) (cn : Nat → Nat) (In : Nat → Int32) (Fn : Nat → Nat → Int32) (v0 : Int32) (sz : Nat) (hB : CBX cn) : Met l yX11_driven (CWS yX11_driven cX11_driven 3 (some .int)) (RM 5 0 0) (PBx [.ref (g 0), .int v0] D cI cB cZ zz qq vv bt (wX cI (D.1 99) zz g ad cn In Fn) sz) (va_Qi (fun (r : Int32) (u : (Nat → Nat) × (Nat → Int32) × (Nat → Nat → Int32)) => (fun r c2 I2 F2 => Fr [3] [] [] cn In Fn c2 I2 F2 ∧ CBX c2 ∧ (True)) r u.1 u.2.1 u.2.2) (fun (u : (Nat → Nat) × (Nat → Int32) × (Nat → Nat → Int32)) (t : State) => va_P D vwCl (wX cI (D.1 99) zz g ad u.1 u.2.1 u.2.2) t.heap ∧ va_D (va_A (wX cI (D.1 99) zz g ad cn In Fn) sz) (wX cI (D.1 99) zz g ad u.1 u.2.1 u.2.2)) (va_A (wX cI (D.1 99) zz g ad cn In Fn) sz)) 0 0 (va_A (wX cI (D.1 99) zz g ad cn In Fn) sz) := by
  refine en_x (fun A => (va_Qi (fun (r : Int32) (u : (Nat → Nat) × (Nat → Int32) × (Nat → Nat → Int32)) => (fun (r : Int32) (c2 : Nat → Nat) (I2 : Nat → Int32) (F2 : Nat → Nat → Int32) => Fr [3] [] [] cn In Fn c2 I2 F2 ∧ CBX c2 ∧ (True)) r u.1 u.2.1 u.2.2) (fun (u : (Nat → Nat) × (Nat → Int32) × (Nat → Nat → Int32)) (t : State) => va_P D vwCl (wX cI (D.1 99) zz g ad u.1 u.2.1 u.2.2) t.heap ∧ va_D A (wX cI (D.1 99) zz g ad u.1 u.2.1 u.2.2)) A)) rfl rfl pn_RX11 (Nat.le_of_ble_eq_true rfl) (fun p e s m below meth c A hx hb hml hown S hr hlocks hnm hA hP hK hD hXS hS ls hl => ?_)
  have hl : lv_has ls 3 [(0, .ref (g 0)), (1, .int v0)] := hl
  have hb_cn : Hid (CBX cn) := hB
  replace hB : CBXh cn := hB
  refine lv_iload_n hx hb dX11_driven_0 rfl (lvA1 hl) ?_
  refine lv_iconst (v := 0) hx hb dX11_driven_1 kic_0 ?_
  refine lv_bipush (v := 20) hx hb dX11_driven_2 kbc_20 ?_
  refine vp_callSi (runS_r (As := [.int v0, .int 0, .int 20]) (rest := []) S (q_l_within l D cI cB cZ v0 0 20) kS_RX11_80 hK hP [] rfl ⟨Nat.le_of_ble_eq_true rfl, Nat.le_of_ble_eq_true rfl⟩ ⟨Nat.le_of_ble_eq_true rfl, Nat.le_of_ble_eq_true rfl⟩ rfl hl.1 rfl (Nat.le_of_ble_eq_true rfl) dX11_driven_4) (fun r_1 h_2 => ?_)
  rcases h_2 with ⟨rfl, h_2⟩ | ⟨rfl, h_2⟩
  ·
    have h_2 : 0 ≤ v0.toInt ∧ v0.toInt ≤ 20 := h_2
    refine lv_if_eq (tgt := 21) hx hb dX11_driven_7 rfl (fun h => absurd h cq_eq_1_0) (fun _ => ?_)
    refine lv_iload_n hx hb dX11_driven_10 rfl (lvA1 hl) ?_
    refine lv_aload_n hx hb dX11_driven_11 rfl (lvA0 hl) ?_
    refine gf_RX11_21 S hK hP 0 xo_0 (v := .ref (g 5)) rfl dX11_driven_12 ?_
    refine vp_callSi (runV_rxa (As := []) (rest := [.int v0]) S (q_Xlength l D cI cB cZ zz qq vv bt g ad cn In Fn  hB) kV_RX11_152 hK hXS hS hP 1 xo_1 rfl rfl ⟨Nat.le_of_ble_eq_true rfl, Nat.le_of_ble_eq_true rfl⟩ ⟨Nat.le_of_ble_eq_true rfl, Nat.le_of_ble_eq_true rfl⟩ rfl hl.1 rfl (Nat.le_of_ble_eq_true rfl) dX11_driven_15) (fun r_3 h_4 => ?_)
    subst h_4
    have : (nI ((cn 3))).toInt = ((((cn 3)) : Nat) : Int) := nI_toInt (by (first | omega | (have zz0 := Hid.u hb_cn; omega)))
    refine lv_icmp_le (tgt := 23) hx hb dX11_driven_18 rfl (fun c_5 => ?_) (fun c_5 => ?_)
    ·
      have tc_5 : (v0.toInt : Int) ≤ (nI ((cn 3))).toInt := Int32.le_iff_toInt_le.mp c_5
      obtain ⟨d0, hd0, rfl⟩ := nI_of (x := v0) (fun q => by have := Int32.lt_iff_toInt_lt.mp q; have e : (0 : Int32).toInt = 0 := rfl; (first | omega | (have zz0 := Hid.u hb_cn; omega)))
      have td0 : (nI d0).toInt = (d0 : Int) := nI_toInt hd0
      have zd0 : (nI d0).toInt.toNat = d0 := by (first | omega | (have zz0 := Hid.u hb_cn; omega))
      refine lv_aload_n hx hb dX11_driven_23 rfl (lvA0 hl) ?_
      refine lv_iload_n hx hb dX11_driven_24 rfl (lvA1 hl) ?_
      refine vp_callSi (runV_rxa (As := [.int (nI d0)]) (rest := []) S (q_XdrivenLength l D cI cB cZ zz qq vv bt g ad cn In Fn d0 hB (by (first | omega | (have zz0 := Hid.u hb_cn; omega)))) kV_RX11_288 hK hXS hS hP 0 xo_0 rfl rfl ⟨Nat.le_of_ble_eq_true rfl, Nat.le_of_ble_eq_true rfl⟩ ⟨Nat.le_of_ble_eq_true rfl, Nat.le_of_ble_eq_true rfl⟩ rfl hl.1 rfl (Nat.le_of_ble_eq_true rfl) dX11_driven_25) (fun r_6 h_7 => ?_)
      refine lv_istore_n (lv' := [(2, .int r_6), (0, .ref (g 0)), (1, .int (nI d0))]) hx hb dX11_driven_28 rfl hl (ltb rfl) rfl (fun ls hl => ?_)
      refine lv_aload_n hx hb dX11_driven_29 rfl (lvA1 hl) ?_
      refine gf_RX11_21 S hK hP 0 xo_0 (v := .ref (g 5)) rfl dX11_driven_30 ?_
      have hFc := free_all hD hS hA
      refine va_callv (runV_xa (As := []) (rest := []) S (q_Xclear l D cI cB cZ zz qq vv bt g ad cn In Fn  s.heap.size hB) kV_RX11_162 hK hXS hS hFc hP hD 1 xo_1 rfl rfl ⟨Nat.le_of_ble_eq_true rfl, Nat.le_of_ble_eq_true rfl⟩ ⟨Nat.le_of_ble_eq_true rfl, Nat.le_of_ble_eq_true rfl⟩ rfl hl.1 rfl (Nat.le_of_ble_eq_true rfl) dX11_driven_33) hS (fun q _ h => hFc q h) hFc (fun u t H1 locs ht hvm wh_9 hB1 hz1 hk1 hS => ?_)
      obtain ⟨cn9, In9, Fn9⟩ := u
      obtain ⟨hP1, hD1⟩ := hB1
      rw [ht] at hP1
      have hP : va_P D vwCl (wX cI (D.1 99) zz g ad cn9 In9 Fn9) H1 := hP1
      have hD : va_D A (wX cI (D.1 99) zz g ad cn9 In9 Fn9) := hD1.weaken (fun _ _ _ h => hFc _ h)
      generalize H1 = H at hP hS ⊢
      have vh_9 : (fun c2 I2 F2 => Fr [3] [] [] cn In Fn c2 I2 F2 ∧ CBX c2 ∧ (c2 3 = 0)) cn9 In9 Fn9 := wh_9
      obtain ⟨hfc9, hIn9, h_9⟩ := vh_9
      obtain rfl : In = In9 := (funext (fun k => hfc9.2.1 k List.not_mem_nil)).symm
      obtain rfl : Fn = Fn9 := (funext (fun k => hfc9.2.2 k List.not_mem_nil)).symm
      have hf9 : Fr [3] [] [] cn In Fn cn9 In Fn := Fr.mo (Fr.tr (Fr.rf (cn := cn) (In := In) (Fn := Fn)) hfc9) (sbl rfl) (sbl rfl) (sbl rfl)
      have hb_cn9 : Hid (CBX cn9) := hIn9
      replace hIn9 : CBXh cn9 := hIn9
      have : cn9 6 = (cn 6) := hfc9.1 6 (nml rfl)
      have : cn9 31 = (cn 31) := hfc9.1 31 (nml rfl)
      have : cn9 32 = (cn 32) := hfc9.1 32 (nml rfl)
      have hq_cn9 : Hid (cn9 0 = (cn 0) ∧ cn9 1 = (cn 1) ∧ cn9 2 = (cn 2) ∧ cn9 4 = (cn 4) ∧ cn9 5 = (cn 5) ∧ cn9 10 = (cn 10) ∧ cn9 11 = (cn 11) ∧ cn9 12 = (cn 12) ∧ cn9 13 = (cn 13) ∧ cn9 14 = (cn 14) ∧ cn9 15 = (cn 15) ∧ cn9 20 = (cn 20) ∧ cn9 21 = (cn 21) ∧ cn9 22 = (cn 22) ∧ cn9 23 = (cn 23) ∧ cn9 24 = (cn 24) ∧ cn9 25 = (cn 25)) := Hid.i (p := cn9 0 = (cn 0) ∧ cn9 1 = (cn 1) ∧ cn9 2 = (cn 2) ∧ cn9 4 = (cn 4) ∧ cn9 5 = (cn 5) ∧ cn9 10 = (cn 10) ∧ cn9 11 = (cn 11) ∧ cn9 12 = (cn 12) ∧ cn9 13 = (cn 13) ∧ cn9 14 = (cn 14) ∧ cn9 15 = (cn 15) ∧ cn9 20 = (cn 20) ∧ cn9 21 = (cn 21) ∧ cn9 22 = (cn 22) ∧ cn9 23 = (cn 23) ∧ cn9 24 = (cn 24) ∧ cn9 25 = (cn 25)) ⟨hfc9.1 0 (nml rfl), hfc9.1 1 (nml rfl), hfc9.1 2 (nml rfl), hfc9.1 4 (nml rfl), hfc9.1 5 (nml rfl), hfc9.1 10 (nml rfl), hfc9.1 11 (nml rfl), hfc9.1 12 (nml rfl), hfc9.1 13 (nml rfl), hfc9.1 14 (nml rfl), hfc9.1 15 (nml rfl), hfc9.1 20 (nml rfl), hfc9.1 21 (nml rfl), hfc9.1 22 (nml rfl), hfc9.1 23 (nml rfl), hfc9.1 24 (nml rfl), hfc9.1 25 (nml rfl)⟩
      refine lv_iload_n hx hb dX11_driven_36 rfl (lvA0 hl) ?_
      exact W.iret (v := r_6) hx hb hr (fun t ht hW => ⟨⟨r_6, (cn9, In, Fn), rfl, ⟨(Fr.mo hf9 (sbl rfl) (sbl rfl) (sbl rfl)), hIn9, trivial⟩, by rw [ht]; exact hP, hD⟩, hS.F ht⟩) hS.2.2 dX11_driven_37
    ·
      have tc_5 : ((nI ((cn 3))).toInt : Int) < v0.toInt := Int32.lt_iff_toInt_lt.mp (Int32.not_le.mp c_5)
      refine lv_iconst (v := (-1)) hx hb dX11_driven_21 kic_m1 ?_
      exact W.iret (v := (-1)) hx hb hr (fun t ht hW => ⟨⟨(-1), (cn, In, Fn), rfl, ⟨(Fr.mo Fr.rf (sbl rfl) (sbl rfl) (sbl rfl)), hB, trivial⟩, by rw [ht]; exact hP, hD⟩, hS.F ht⟩) hS.2.2 dX11_driven_22
  ·
    have h_2 : ¬ (0 ≤ v0.toInt ∧ v0.toInt ≤ 20) := h_2
    refine lv_if_eq (tgt := 21) hx hb dX11_driven_7 rfl (fun _ => ?_) (fun h => absurd h cq_eq_0_0)
    refine lv_iconst (v := (-1)) hx hb dX11_driven_21 kic_m1 ?_
    exact W.iret (v := (-1)) hx hb hr (fun t ht hW => ⟨⟨(-1), (cn, In, Fn), rfl, ⟨(Fr.mo Fr.rf (sbl rfl) (sbl rfl) (sbl rfl)), hB, trivial⟩, by rw [ht]; exact hP, hD⟩, hS.F ht⟩) hS.2.2 dX11_driven_22
