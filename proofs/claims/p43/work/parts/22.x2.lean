set_option maxRecDepth 100000 in
theorem gf_RX11_61 {p : Program} {l : Launch} {e : Env} {R : Room} {s : State} {m : MethodId} {args : Array Value} {below : List Frame} {meth : Method} {c : Code} {H : Heap} {locs : List Loc} {cells slots : Nat} {Q : State → Prop} {cc : ByteArray} {nL pc : Nat} {D : va_G} {cI cB cZ : ClassId} {ws : va_W} {rest : List Value} {ls : Array Slot} {a : Nat} {fs : List Value} {v : Value} (S : SF p m c cc nL s args RX11) (hK : KK D cI cB cZ s) (hP : va_P D vwCl ws H) (q0 : Nat) (he : ws[q0]? = some (a, .inr (12, fs))) (hv : fs[10]? = some v) (hdg : decode cc pc = .ok (.getfield 61, 3)) (kk : W p l e R s m args below meth c H locs cells slots Q (F0 m (pc + 3) ls (v :: rest))) : W p l e R s m args below meth c H locs cells slots Q (F0 m pc ls (.ref a :: rest)) :=
  va_get (C := RX11) (T := TX11) (N := 16) S.1 S.2.1 S.2.2.2.2 hin_RX11 S.2.2.2.1 hK.1 hP q0 he rfl 10 (by decide) (S.2.2.2.2 _ (wk2_0 6 rfl rfl)) (fun _ h9 => h9) hv hdg kk
set_option maxRecDepth 100000 in
theorem kV_RX11_84 : CalV RX11 84 yJx4a65c_size_8abf5 cJx4a65c_size_8abf5 1 (some .int) 0 := ⟨⟨wk2_4 11 rfl rfl, wk2_5 0 rfl rfl, wk2_5 1 rfl rfl, wk1_1 0 rfl rfl, wk2_5 2 rfl rfl⟩, ⟨nmh_21.1, nmh_21.2, pd_1⟩⟩
set_option maxRecDepth 100000 in
theorem kV_RX11_87 : CalV RX11 87 yJx4a65c_get_915e3 cJx4a65c_get_915e3 2 (some (.object "java/lang/Object")) 1 := ⟨⟨wk2_15 1 rfl rfl, wk2_15 2 rfl rfl, wk2_15 3 rfl rfl, wk1_1 0 rfl rfl, wk2_15 4 rfl rfl⟩, ⟨nmh_21.1, nmh_21.2, pd_13⟩⟩
set_option maxRecDepth 100000 in
theorem gf_RX11_65 {p : Program} {l : Launch} {e : Env} {R : Room} {s : State} {m : MethodId} {args : Array Value} {below : List Frame} {meth : Method} {c : Code} {H : Heap} {locs : List Loc} {cells slots : Nat} {Q : State → Prop} {cc : ByteArray} {nL pc : Nat} {D : va_G} {cI cB cZ : ClassId} {ws : va_W} {rest : List Value} {ls : Array Slot} {a : Nat} {fs : List Value} {v : Value} (S : SF p m c cc nL s args RX11) (hK : KK D cI cB cZ s) (hP : va_P D vwCl ws H) (q0 : Nat) (he : ws[q0]? = some (a, .inr (12, fs))) (hv : fs[11]? = some v) (hdg : decode cc pc = .ok (.getfield 65, 3)) (kk : W p l e R s m args below meth c H locs cells slots Q (F0 m (pc + 3) ls (v :: rest))) : W p l e R s m args below meth c H locs cells slots Q (F0 m pc ls (.ref a :: rest)) :=
  va_get (C := RX11) (T := TX11) (N := 16) S.1 S.2.1 S.2.2.2.2 hin_RX11 S.2.2.2.1 hK.1 hP q0 he rfl 11 (by decide) (S.2.2.2.2 _ (wk2_0 7 rfl rfl)) (fun _ h9 => h9) hv hdg kk
set_option maxRecDepth 100000 in
theorem gf_RX11_68 {p : Program} {l : Launch} {e : Env} {R : Room} {s : State} {m : MethodId} {args : Array Value} {below : List Frame} {meth : Method} {c : Code} {H : Heap} {locs : List Loc} {cells slots : Nat} {Q : State → Prop} {cc : ByteArray} {nL pc : Nat} {D : va_G} {cI cB cZ : ClassId} {ws : va_W} {rest : List Value} {ls : Array Slot} {a : Nat} {fs : List Value} {v : Value} (S : SF p m c cc nL s args RX11) (hK : KK D cI cB cZ s) (hP : va_P D vwCl ws H) (q0 : Nat) (he : ws[q0]? = some (a, .inr (12, fs))) (hv : fs[12]? = some v) (hdg : decode cc pc = .ok (.getfield 68, 3)) (kk : W p l e R s m args below meth c H locs cells slots Q (F0 m (pc + 3) ls (v :: rest))) : W p l e R s m args below meth c H locs cells slots Q (F0 m pc ls (.ref a :: rest)) :=
  va_get (C := RX11) (T := TX11) (N := 16) S.1 S.2.1 S.2.2.2.2 hin_RX11 S.2.2.2.1 hK.1 hP q0 he rfl 12 (by decide) (S.2.2.2.2 _ (wk2_0 8 rfl rfl)) (fun _ h9 => h9) hv hdg kk
set_option maxRecDepth 100000 in
theorem gf_RX11_71 {p : Program} {l : Launch} {e : Env} {R : Room} {s : State} {m : MethodId} {args : Array Value} {below : List Frame} {meth : Method} {c : Code} {H : Heap} {locs : List Loc} {cells slots : Nat} {Q : State → Prop} {cc : ByteArray} {nL pc : Nat} {D : va_G} {cI cB cZ : ClassId} {ws : va_W} {rest : List Value} {ls : Array Slot} {a : Nat} {fs : List Value} {v : Value} (S : SF p m c cc nL s args RX11) (hK : KK D cI cB cZ s) (hP : va_P D vwCl ws H) (q0 : Nat) (he : ws[q0]? = some (a, .inr (12, fs))) (hv : fs[13]? = some v) (hdg : decode cc pc = .ok (.getfield 71, 3)) (kk : W p l e R s m args below meth c H locs cells slots Q (F0 m (pc + 3) ls (v :: rest))) : W p l e R s m args below meth c H locs cells slots Q (F0 m pc ls (.ref a :: rest)) :=
  va_get (C := RX11) (T := TX11) (N := 16) S.1 S.2.1 S.2.2.2.2 hin_RX11 S.2.2.2.1 hK.1 hP q0 he rfl 13 (by decide) (S.2.2.2.2 _ (wk2_0 9 rfl rfl)) (fun _ h9 => h9) hv hdg kk
set_option maxRecDepth 100000 in
theorem hin_RX1 : ∀ w ∈ u_ws RX1 TX1 11, w ∈ wT := hin_all (C := RX1) (T := TX1) (n := 11) (hin_s (hin_s (hin_s (hin_s (hin_s (hin_s (hin_s (hin_s (hin_s (hin_s (hin_s (fun k hk => absurd hk (Nat.not_lt_zero k)) (wk2_7 7 rfl rfl)) (wk2_7 9 rfl rfl)) (wk2_7 11 rfl rfl)) (wk2_8 1 rfl rfl)) (wk2_8 3 rfl rfl)) (wk2_8 5 rfl rfl)) (wk2_8 7 rfl rfl)) (wk2_8 9 rfl rfl)) (wk2_8 11 rfl rfl)) (wk2_9 1 rfl rfl)) (wk2_9 3 rfl rfl))
set_option maxRecDepth 100000 in
theorem gf_RX1_19 {p : Program} {l : Launch} {e : Env} {R : Room} {s : State} {m : MethodId} {args : Array Value} {below : List Frame} {meth : Method} {c : Code} {H : Heap} {locs : List Loc} {cells slots : Nat} {Q : State → Prop} {cc : ByteArray} {nL pc : Nat} {D : va_G} {cI cB cZ : ClassId} {ws : va_W} {rest : List Value} {ls : Array Slot} {a : Nat} {fs : List Value} {v : Value} (S : SF p m c cc nL s args RX1) (hK : KK D cI cB cZ s) (hP : va_P D vwCl ws H) (q0 : Nat) (he : ws[q0]? = some (a, .inr (2, fs))) (hv : fs[3]? = some v) (hdg : decode cc pc = .ok (.getfield 19, 3)) (kk : W p l e R s m args below meth c H locs cells slots Q (F0 m (pc + 3) ls (v :: rest))) : W p l e R s m args below meth c H locs cells slots Q (F0 m pc ls (.ref a :: rest)) :=
  va_get (C := RX1) (T := TX1) (N := 11) S.1 S.2.1 S.2.2.2.2 hin_RX1 S.2.2.2.1 hK.1 hP q0 he rfl 3 (by decide) (S.2.2.2.2 _ (wk2_6 7 rfl rfl)) (fun _ h9 => h9) hv hdg kk
set_option maxRecDepth 100000 in
theorem gf_RX1_16 {p : Program} {l : Launch} {e : Env} {R : Room} {s : State} {m : MethodId} {args : Array Value} {below : List Frame} {meth : Method} {c : Code} {H : Heap} {locs : List Loc} {cells slots : Nat} {Q : State → Prop} {cc : ByteArray} {nL pc : Nat} {D : va_G} {cI cB cZ : ClassId} {ws : va_W} {rest : List Value} {ls : Array Slot} {a : Nat} {fs : List Value} {v : Value} (S : SF p m c cc nL s args RX1) (hK : KK D cI cB cZ s) (hP : va_P D vwCl ws H) (q0 : Nat) (he : ws[q0]? = some (a, .inr (2, fs))) (hv : fs[2]? = some v) (hdg : decode cc pc = .ok (.getfield 16, 3)) (kk : W p l e R s m args below meth c H locs cells slots Q (F0 m (pc + 3) ls (v :: rest))) : W p l e R s m args below meth c H locs cells slots Q (F0 m pc ls (.ref a :: rest)) :=
  va_get (C := RX1) (T := TX1) (N := 11) S.1 S.2.1 S.2.2.2.2 hin_RX1 S.2.2.2.1 hK.1 hP q0 he rfl 2 (by decide) (S.2.2.2.2 _ (wk2_6 5 rfl rfl)) (fun _ h9 => h9) hv hdg kk
set_option maxRecDepth 100000 in
theorem gf_RX1_37 {p : Program} {l : Launch} {e : Env} {R : Room} {s : State} {m : MethodId} {args : Array Value} {below : List Frame} {meth : Method} {c : Code} {H : Heap} {locs : List Loc} {cells slots : Nat} {Q : State → Prop} {cc : ByteArray} {nL pc : Nat} {D : va_G} {cI cB cZ : ClassId} {ws : va_W} {rest : List Value} {ls : Array Slot} {a : Nat} {fs : List Value} {v : Value} (S : SF p m c cc nL s args RX1) (hK : KK D cI cB cZ s) (hP : va_P D vwCl ws H) (q0 : Nat) (he : ws[q0]? = some (a, .inr (2, fs))) (hv : fs[7]? = some v) (hdg : decode cc pc = .ok (.getfield 37, 3)) (kk : W p l e R s m args below meth c H locs cells slots Q (F0 m (pc + 3) ls (v :: rest))) : W p l e R s m args below meth c H locs cells slots Q (F0 m pc ls (.ref a :: rest)) :=
  va_get (C := RX1) (T := TX1) (N := 11) S.1 S.2.1 S.2.2.2.2 hin_RX1 S.2.2.2.1 hK.1 hP q0 he rfl 7 (by decide) (S.2.2.2.2 _ (wk2_7 0 rfl rfl)) (fun _ h9 => h9) hv hdg kk
set_option maxRecDepth 100000 in
theorem gf_RX1_40 {p : Program} {l : Launch} {e : Env} {R : Room} {s : State} {m : MethodId} {args : Array Value} {below : List Frame} {meth : Method} {c : Code} {H : Heap} {locs : List Loc} {cells slots : Nat} {Q : State → Prop} {cc : ByteArray} {nL pc : Nat} {D : va_G} {cI cB cZ : ClassId} {ws : va_W} {rest : List Value} {ls : Array Slot} {a : Nat} {fs : List Value} {v : Value} (S : SF p m c cc nL s args RX1) (hK : KK D cI cB cZ s) (hP : va_P D vwCl ws H) (q0 : Nat) (he : ws[q0]? = some (a, .inr (2, fs))) (hv : fs[8]? = some v) (hdg : decode cc pc = .ok (.getfield 40, 3)) (kk : W p l e R s m args below meth c H locs cells slots Q (F0 m (pc + 3) ls (v :: rest))) : W p l e R s m args below meth c H locs cells slots Q (F0 m pc ls (.ref a :: rest)) :=
  va_get (C := RX1) (T := TX1) (N := 11) S.1 S.2.1 S.2.2.2.2 hin_RX1 S.2.2.2.1 hK.1 hP q0 he rfl 8 (by decide) (S.2.2.2.2 _ (wk2_7 2 rfl rfl)) (fun _ h9 => h9) hv hdg kk
set_option maxRecDepth 100000 in
theorem kV_RX11_114 : CalV RX11 114 yX11_kitchenAt cX11_kitchenAt 2 (some (.object "OilHome$Kitchen")) 1 := ⟨⟨wk2_14 9 rfl rfl, wk2_14 11 rfl rfl, wT_sel 3 _ rfl rfl rfl, wk1_0 1 rfl rfl, wk2_15 0 rfl rfl⟩, ⟨nmh_0.1, nmh_0.2, pd_10⟩⟩
set_option maxRecDepth 100000 in
theorem gf_RX11_118 {p : Program} {l : Launch} {e : Env} {R : Room} {s : State} {m : MethodId} {args : Array Value} {below : List Frame} {meth : Method} {c : Code} {H : Heap} {locs : List Loc} {cells slots : Nat} {Q : State → Prop} {cc : ByteArray} {nL pc : Nat} {D : va_G} {cI cB cZ : ClassId} {ws : va_W} {rest : List Value} {ls : Array Slot} {a : Nat} {fs : List Value} {v : Value} (S : SF p m c cc nL s args RX11) (hK : KK D cI cB cZ s) (hP : va_P D vwCl ws H) (q0 : Nat) (he : ws[q0]? = some (a, .inr (2, fs))) (hv : fs[4]? = some v) (hdg : decode cc pc = .ok (.getfield 118, 3)) (kk : W p l e R s m args below meth c H locs cells slots Q (F0 m (pc + 3) ls (v :: rest))) : W p l e R s m args below meth c H locs cells slots Q (F0 m pc ls (.ref a :: rest)) :=
  va_get (C := RX1) (T := TX1) (N := 11) S.1 S.2.1 S.2.2.2.2 hin_RX1 S.2.2.2.1 hK.1 hP q0 he rfl 4 (by decide) (S.2.2.2.2 _ (wk2_6 9 rfl rfl)) (fun _ h9 => h9) hv hdg kk
set_option maxRecDepth 100000 in
theorem kV_RX11_121 : CalV RX11 121 yX1_fillOn cX1_fillOn 3 (some .int) 2 := ⟨⟨wk2_16 3 rfl rfl, wk2_16 4 rfl rfl, wk2_16 5 rfl rfl, wk1_1 2 rfl rfl, wk2_16 6 rfl rfl⟩, ⟨nmh_2.1, nmh_2.2, pd_17⟩⟩
set_option maxRecDepth 100000 in
theorem kV_RX11_148 : CalV RX11 148 yX11_loadAt cX11_loadAt 2 (some (.object "OilHome$Load")) 1 := ⟨⟨wk3_2 5 rfl rfl, wk3_2 7 rfl rfl, wT_sel 4 _ rfl rfl rfl, wk1_0 1 rfl rfl, wk3_2 8 rfl rfl⟩, ⟨nmh_0.1, nmh_0.2, pd_11⟩⟩
set_option maxRecDepth 100000 in
theorem hin_RX2 : ∀ w ∈ u_ws RX2 TX2 10, w ∈ wT := hin_all (C := RX2) (T := TX2) (n := 10) (hin_s (hin_s (hin_s (hin_s (hin_s (hin_s (hin_s (hin_s (hin_s (hin_s (fun k hk => absurd hk (Nat.not_lt_zero k)) (wk2_19 1 rfl rfl)) (wk2_19 3 rfl rfl)) (wk2_19 5 rfl rfl)) (wk2_19 7 rfl rfl)) (wk2_19 9 rfl rfl)) (wk2_19 11 rfl rfl)) (wk3_0 1 rfl rfl)) (wk3_0 3 rfl rfl)) (wk3_0 5 rfl rfl)) (wk3_0 7 rfl rfl))
set_option maxRecDepth 100000 in
theorem gf_RX11_141 {p : Program} {l : Launch} {e : Env} {R : Room} {s : State} {m : MethodId} {args : Array Value} {below : List Frame} {meth : Method} {c : Code} {H : Heap} {locs : List Loc} {cells slots : Nat} {Q : State → Prop} {cc : ByteArray} {nL pc : Nat} {D : va_G} {cI cB cZ : ClassId} {ws : va_W} {rest : List Value} {ls : Array Slot} {a : Nat} {fs : List Value} {v : Value} (S : SF p m c cc nL s args RX11) (hK : KK D cI cB cZ s) (hP : va_P D vwCl ws H) (q0 : Nat) (he : ws[q0]? = some (a, .inr (3, fs))) (hv : fs[8]? = some v) (hdg : decode cc pc = .ok (.getfield 141, 3)) (kk : W p l e R s m args below meth c H locs cells slots Q (F0 m (pc + 3) ls (v :: rest))) : W p l e R s m args below meth c H locs cells slots Q (F0 m pc ls (.ref a :: rest)) :=
  va_get (C := RX2) (T := TX2) (N := 10) S.1 S.2.1 S.2.2.2.2 hin_RX2 S.2.2.2.1 hK.1 hP q0 he rfl 8 (by decide) (S.2.2.2.2 _ (wk2_18 11 rfl rfl)) (fun _ h9 => h9) hv hdg kk
set_option maxRecDepth 100000 in
theorem pf_RX11_260 {p : Program} {l : Launch} {e : Env} {R : Room} {s : State} {m : MethodId} {args : Array Value} {below : List Frame} {meth : Method} {c : Code} {H : Heap} {locs : List Loc} {cells slots : Nat} {Q : State → Prop} {cc : ByteArray} {nL pc : Nat} {D : va_G} {cI cB cZ : ClassId} {ws : va_W} {rest : List Value} {ls : Array Slot} {a : Nat} {fs : List Value} {v : Value} {A : Nat → Prop} {H0 : Heap} (S : SF p m c cc nL s args RX11) (hK : KK D cI cB cZ s) (hP : va_P D vwCl ws H) (hD : va_D A ws) (hS : va_S A H0 H locs) (q0 : Nat) (he : ws[q0]? = some (a, .inr (2, fs))) (hl : 9 < fs.length) (hn : narrow (tyX1 9) v = v) (hfit : fits (tyX1 9) v = true) (hdg : decode cc pc = .ok (.putfield 260, 3)) (kk : ∀ (H1 : Heap) (locs1 : List Loc), va_P D vwCl (ws.set q0 (a, .inr (2, fs.set 9 v))) H1 → va_D A (ws.set q0 (a, .inr (2, fs.set 9 v))) → va_S A H0 H1 locs1 → W p l e R s m args below meth c H1 locs1 cells slots Q (F0 m (pc + 3) ls rest)) : W p l e R s m args below meth c H locs cells slots Q (F0 m pc ls (v :: .ref a :: rest)) :=
  va_put (C := RX1) (T := TX1) (N := 11) S.1 S.2.1 S.2.2.2.2 hin_RX1 tyX1 tyX1_ok nmX1 S.2.2.2.1 hK.1 hP hD hS q0 he rfl 9 (by decide) (S.2.2.2.2 _ (wk2_7 4 rfl rfl)) (fun _ h9 => h9) rfl (tyX1_ok 9 (by decide)) hn hfit hl hdg kk
set_option maxRecDepth 100000 in
theorem pf_RX11_450 {p : Program} {l : Launch} {e : Env} {R : Room} {s : State} {m : MethodId} {args : Array Value} {below : List Frame} {meth : Method} {c : Code} {H : Heap} {locs : List Loc} {cells slots : Nat} {Q : State → Prop} {cc : ByteArray} {nL pc : Nat} {D : va_G} {cI cB cZ : ClassId} {ws : va_W} {rest : List Value} {ls : Array Slot} {a : Nat} {fs : List Value} {v : Value} {A : Nat → Prop} {H0 : Heap} (S : SF p m c cc nL s args RX11) (hK : KK D cI cB cZ s) (hP : va_P D vwCl ws H) (hD : va_D A ws) (hS : va_S A H0 H locs) (q0 : Nat) (he : ws[q0]? = some (a, .inr (2, fs))) (hl : 7 < fs.length) (hn : narrow (tyX1 7) v = v) (hfit : fits (tyX1 7) v = true) (hdg : decode cc pc = .ok (.putfield 450, 3)) (kk : ∀ (H1 : Heap) (locs1 : List Loc), va_P D vwCl (ws.set q0 (a, .inr (2, fs.set 7 v))) H1 → va_D A (ws.set q0 (a, .inr (2, fs.set 7 v))) → va_S A H0 H1 locs1 → W p l e R s m args below meth c H1 locs1 cells slots Q (F0 m (pc + 3) ls rest)) : W p l e R s m args below meth c H locs cells slots Q (F0 m pc ls (v :: .ref a :: rest)) :=
  va_put (C := RX1) (T := TX1) (N := 11) S.1 S.2.1 S.2.2.2.2 hin_RX1 tyX1 tyX1_ok nmX1 S.2.2.2.1 hK.1 hP hD hS q0 he rfl 7 (by decide) (S.2.2.2.2 _ (wk2_7 1 rfl rfl)) (fun _ h9 => h9) rfl (tyX1_ok 7 (by decide)) hn hfit hl hdg kk
set_option maxRecDepth 100000 in
theorem pf_RX11_453 {p : Program} {l : Launch} {e : Env} {R : Room} {s : State} {m : MethodId} {args : Array Value} {below : List Frame} {meth : Method} {c : Code} {H : Heap} {locs : List Loc} {cells slots : Nat} {Q : State → Prop} {cc : ByteArray} {nL pc : Nat} {D : va_G} {cI cB cZ : ClassId} {ws : va_W} {rest : List Value} {ls : Array Slot} {a : Nat} {fs : List Value} {v : Value} {A : Nat → Prop} {H0 : Heap} (S : SF p m c cc nL s args RX11) (hK : KK D cI cB cZ s) (hP : va_P D vwCl ws H) (hD : va_D A ws) (hS : va_S A H0 H locs) (q0 : Nat) (he : ws[q0]? = some (a, .inr (2, fs))) (hl : 8 < fs.length) (hn : narrow (tyX1 8) v = v) (hfit : fits (tyX1 8) v = true) (hdg : decode cc pc = .ok (.putfield 453, 3)) (kk : ∀ (H1 : Heap) (locs1 : List Loc), va_P D vwCl (ws.set q0 (a, .inr (2, fs.set 8 v))) H1 → va_D A (ws.set q0 (a, .inr (2, fs.set 8 v))) → va_S A H0 H1 locs1 → W p l e R s m args below meth c H1 locs1 cells slots Q (F0 m (pc + 3) ls rest)) : W p l e R s m args below meth c H locs cells slots Q (F0 m pc ls (v :: .ref a :: rest)) :=
  va_put (C := RX1) (T := TX1) (N := 11) S.1 S.2.1 S.2.2.2.2 hin_RX1 tyX1 tyX1_ok nmX1 S.2.2.2.1 hK.1 hP hD hS q0 he rfl 8 (by decide) (S.2.2.2.2 _ (wk2_7 3 rfl rfl)) (fun _ h9 => h9) rfl (tyX1_ok 8 (by decide)) hn hfit hl hdg kk
set_option maxRecDepth 100000 in
theorem hin_RX10 : ∀ w ∈ u_ws RX10 TX10 7, w ∈ wT := hin_all (C := RX10) (T := TX10) (n := 7) (hin_s (hin_s (hin_s (hin_s (hin_s (hin_s (hin_s (fun k hk => absurd hk (Nat.not_lt_zero k)) (wk1_16 3 rfl rfl)) (wk1_16 5 rfl rfl)) (wk1_16 7 rfl rfl)) (wk1_16 9 rfl rfl)) (wk1_16 11 rfl rfl)) (wk1_17 1 rfl rfl)) (wk1_17 3 rfl rfl))
set_option maxRecDepth 100000 in
theorem pf_RX10_36 {p : Program} {l : Launch} {e : Env} {R : Room} {s : State} {m : MethodId} {args : Array Value} {below : List Frame} {meth : Method} {c : Code} {H : Heap} {locs : List Loc} {cells slots : Nat} {Q : State → Prop} {cc : ByteArray} {nL pc : Nat} {D : va_G} {cI cB cZ : ClassId} {ws : va_W} {rest : List Value} {ls : Array Slot} {a : Nat} {fs : List Value} {v : Value} {A : Nat → Prop} {H0 : Heap} (S : SF p m c cc nL s args RX10) (hK : KK D cI cB cZ s) (hP : va_P D vwCl ws H) (hD : va_D A ws) (hS : va_S A H0 H locs) (q0 : Nat) (he : ws[q0]? = some (a, .inr (11, fs))) (hl : 6 < fs.length) (hn : narrow (tyX10 6) v = v) (hfit : fits (tyX10 6) v = true) (hdg : decode cc pc = .ok (.putfield 36, 3)) (kk : ∀ (H1 : Heap) (locs1 : List Loc), va_P D vwCl (ws.set q0 (a, .inr (11, fs.set 6 v))) H1 → va_D A (ws.set q0 (a, .inr (11, fs.set 6 v))) → va_S A H0 H1 locs1 → W p l e R s m args below meth c H1 locs1 cells slots Q (F0 m (pc + 3) ls rest)) : W p l e R s m args below meth c H locs cells slots Q (F0 m pc ls (v :: .ref a :: rest)) :=
  va_put (C := RX10) (T := TX10) (N := 7) S.1 S.2.1 S.2.2.2.2 hin_RX10 tyX10 tyX10_ok nmX10 S.2.2.2.1 hK.1 hP hD hS q0 he rfl 6 (by decide) (S.2.2.2.2 _ (wk1_16 1 rfl rfl)) (fun _ h9 => h9) rfl (tyX10_ok 6 (by decide)) hn hfit hl hdg kk
set_option maxRecDepth 100000 in
theorem gf_RX10_9 {p : Program} {l : Launch} {e : Env} {R : Room} {s : State} {m : MethodId} {args : Array Value} {below : List Frame} {meth : Method} {c : Code} {H : Heap} {locs : List Loc} {cells slots : Nat} {Q : State → Prop} {cc : ByteArray} {nL pc : Nat} {D : va_G} {cI cB cZ : ClassId} {ws : va_W} {rest : List Value} {ls : Array Slot} {a : Nat} {fs : List Value} {v : Value} (S : SF p m c cc nL s args RX10) (hK : KK D cI cB cZ s) (hP : va_P D vwCl ws H) (q0 : Nat) (he : ws[q0]? = some (a, .inr (11, fs))) (hv : fs[0]? = some v) (hdg : decode cc pc = .ok (.getfield 9, 3)) (kk : W p l e R s m args below meth c H locs cells slots Q (F0 m (pc + 3) ls (v :: rest))) : W p l e R s m args below meth c H locs cells slots Q (F0 m pc ls (.ref a :: rest)) :=
  va_get (C := RX10) (T := TX10) (N := 7) S.1 S.2.1 S.2.2.2.2 hin_RX10 S.2.2.2.1 hK.1 hP q0 he rfl 0 (by decide) (S.2.2.2.2 _ (wk1_15 5 rfl rfl)) (fun _ h9 => h9) hv hdg kk
set_option maxRecDepth 100000 in
theorem gf_RX10_36 {p : Program} {l : Launch} {e : Env} {R : Room} {s : State} {m : MethodId} {args : Array Value} {below : List Frame} {meth : Method} {c : Code} {H : Heap} {locs : List Loc} {cells slots : Nat} {Q : State → Prop} {cc : ByteArray} {nL pc : Nat} {D : va_G} {cI cB cZ : ClassId} {ws : va_W} {rest : List Value} {ls : Array Slot} {a : Nat} {fs : List Value} {v : Value} (S : SF p m c cc nL s args RX10) (hK : KK D cI cB cZ s) (hP : va_P D vwCl ws H) (q0 : Nat) (he : ws[q0]? = some (a, .inr (11, fs))) (hv : fs[6]? = some v) (hdg : decode cc pc = .ok (.getfield 36, 3)) (kk : W p l e R s m args below meth c H locs cells slots Q (F0 m (pc + 3) ls (v :: rest))) : W p l e R s m args below meth c H locs cells slots Q (F0 m pc ls (.ref a :: rest)) :=
  va_get (C := RX10) (T := TX10) (N := 7) S.1 S.2.1 S.2.2.2.2 hin_RX10 S.2.2.2.1 hK.1 hP q0 he rfl 6 (by decide) (S.2.2.2.2 _ (wk1_16 1 rfl rfl)) (fun _ h9 => h9) hv hdg kk
set_option maxRecDepth 100000 in
theorem kS_RX10_40 : CalS RX10 40 yX7_put cX7_put 3 none 3 := ⟨⟨wk4_8 7 rfl rfl, wk3_1 11 rfl rfl, wk1_0 7 rfl rfl, wk3_2 0 rfl rfl⟩, ⟨nmh_8.1, nmh_8.2, pd_69⟩⟩
set_option maxRecDepth 100000 in
theorem gf_RX10_15 {p : Program} {l : Launch} {e : Env} {R : Room} {s : State} {m : MethodId} {args : Array Value} {below : List Frame} {meth : Method} {c : Code} {H : Heap} {locs : List Loc} {cells slots : Nat} {Q : State → Prop} {cc : ByteArray} {nL pc : Nat} {D : va_G} {cI cB cZ : ClassId} {ws : va_W} {rest : List Value} {ls : Array Slot} {a : Nat} {fs : List Value} {v : Value} (S : SF p m c cc nL s args RX10) (hK : KK D cI cB cZ s) (hP : va_P D vwCl ws H) (q0 : Nat) (he : ws[q0]? = some (a, .inr (11, fs))) (hv : fs[1]? = some v) (hdg : decode cc pc = .ok (.getfield 15, 3)) (kk : W p l e R s m args below meth c H locs cells slots Q (F0 m (pc + 3) ls (v :: rest))) : W p l e R s m args below meth c H locs cells slots Q (F0 m pc ls (.ref a :: rest)) :=
  va_get (C := RX10) (T := TX10) (N := 7) S.1 S.2.1 S.2.2.2.2 hin_RX10 S.2.2.2.1 hK.1 hP q0 he rfl 1 (by decide) (S.2.2.2.2 _ (wk1_15 7 rfl rfl)) (fun _ h9 => h9) hv hdg kk
set_option maxRecDepth 100000 in
theorem gf_RX10_18 {p : Program} {l : Launch} {e : Env} {R : Room} {s : State} {m : MethodId} {args : Array Value} {below : List Frame} {meth : Method} {c : Code} {H : Heap} {locs : List Loc} {cells slots : Nat} {Q : State → Prop} {cc : ByteArray} {nL pc : Nat} {D : va_G} {cI cB cZ : ClassId} {ws : va_W} {rest : List Value} {ls : Array Slot} {a : Nat} {fs : List Value} {v : Value} (S : SF p m c cc nL s args RX10) (hK : KK D cI cB cZ s) (hP : va_P D vwCl ws H) (q0 : Nat) (he : ws[q0]? = some (a, .inr (11, fs))) (hv : fs[2]? = some v) (hdg : decode cc pc = .ok (.getfield 18, 3)) (kk : W p l e R s m args below meth c H locs cells slots Q (F0 m (pc + 3) ls (v :: rest))) : W p l e R s m args below meth c H locs cells slots Q (F0 m pc ls (.ref a :: rest)) :=
  va_get (C := RX10) (T := TX10) (N := 7) S.1 S.2.1 S.2.2.2.2 hin_RX10 S.2.2.2.1 hK.1 hP q0 he rfl 2 (by decide) (S.2.2.2.2 _ (wk1_15 9 rfl rfl)) (fun _ h9 => h9) hv hdg kk
set_option maxRecDepth 100000 in
theorem gf_RX10_46 {p : Program} {l : Launch} {e : Env} {R : Room} {s : State} {m : MethodId} {args : Array Value} {below : List Frame} {meth : Method} {c : Code} {H : Heap} {locs : List Loc} {cells slots : Nat} {Q : State → Prop} {cc : ByteArray} {nL pc : Nat} {D : va_G} {cI cB cZ : ClassId} {ws : va_W} {rest : List Value} {ls : Array Slot} {a : Nat} {fs : List Value} {v : Value} (S : SF p m c cc nL s args RX10) (hK : KK D cI cB cZ s) (hP : va_P D vwCl ws H) (q0 : Nat) (he : ws[q0]? = some (a, .inr (2, fs))) (hv : fs[0]? = some v) (hdg : decode cc pc = .ok (.getfield 46, 3)) (kk : W p l e R s m args below meth c H locs cells slots Q (F0 m (pc + 3) ls (v :: rest))) : W p l e R s m args below meth c H locs cells slots Q (F0 m pc ls (.ref a :: rest)) :=
  va_get (C := RX1) (T := TX1) (N := 11) S.1 S.2.1 S.2.2.2.2 hin_RX1 S.2.2.2.1 hK.1 hP q0 he rfl 0 (by decide) (S.2.2.2.2 _ (wk2_6 0 rfl rfl)) (fun _ h9 => h9) hv hdg kk
set_option maxRecDepth 100000 in
theorem gf_RX10_21 {p : Program} {l : Launch} {e : Env} {R : Room} {s : State} {m : MethodId} {args : Array Value} {below : List Frame} {meth : Method} {c : Code} {H : Heap} {locs : List Loc} {cells slots : Nat} {Q : State → Prop} {cc : ByteArray} {nL pc : Nat} {D : va_G} {cI cB cZ : ClassId} {ws : va_W} {rest : List Value} {ls : Array Slot} {a : Nat} {fs : List Value} {v : Value} (S : SF p m c cc nL s args RX10) (hK : KK D cI cB cZ s) (hP : va_P D vwCl ws H) (q0 : Nat) (he : ws[q0]? = some (a, .inr (11, fs))) (hv : fs[3]? = some v) (hdg : decode cc pc = .ok (.getfield 21, 3)) (kk : W p l e R s m args below meth c H locs cells slots Q (F0 m (pc + 3) ls (v :: rest))) : W p l e R s m args below meth c H locs cells slots Q (F0 m pc ls (.ref a :: rest)) :=
  va_get (C := RX10) (T := TX10) (N := 7) S.1 S.2.1 S.2.2.2.2 hin_RX10 S.2.2.2.1 hK.1 hP q0 he rfl 3 (by decide) (S.2.2.2.2 _ (wk1_15 10 rfl rfl)) (fun _ h9 => h9) hv hdg kk
set_option maxRecDepth 100000 in
theorem gf_RX10_51 {p : Program} {l : Launch} {e : Env} {R : Room} {s : State} {m : MethodId} {args : Array Value} {below : List Frame} {meth : Method} {c : Code} {H : Heap} {locs : List Loc} {cells slots : Nat} {Q : State → Prop} {cc : ByteArray} {nL pc : Nat} {D : va_G} {cI cB cZ : ClassId} {ws : va_W} {rest : List Value} {ls : Array Slot} {a : Nat} {fs : List Value} {v : Value} (S : SF p m c cc nL s args RX10) (hK : KK D cI cB cZ s) (hP : va_P D vwCl ws H) (q0 : Nat) (he : ws[q0]? = some (a, .inr (2, fs))) (hv : fs[1]? = some v) (hdg : decode cc pc = .ok (.getfield 51, 3)) (kk : W p l e R s m args below meth c H locs cells slots Q (F0 m (pc + 3) ls (v :: rest))) : W p l e R s m args below meth c H locs cells slots Q (F0 m pc ls (.ref a :: rest)) :=
  va_get (C := RX1) (T := TX1) (N := 11) S.1 S.2.1 S.2.2.2.2 hin_RX1 S.2.2.2.1 hK.1 hP q0 he rfl 1 (by decide) (S.2.2.2.2 _ (wk2_6 3 rfl rfl)) (fun _ h9 => h9) hv hdg kk
set_option maxRecDepth 100000 in
theorem kS_RX10_54 : CalS RX10 54 yX7_at cX7_at 2 (some .int) 2 := ⟨⟨wk4_10 0 rfl rfl, wk3_1 8 rfl rfl, wk1_0 7 rfl rfl, wk3_1 9 rfl rfl⟩, ⟨nmh_8.1, nmh_8.2, pd_67⟩⟩
set_option maxRecDepth 100000 in
theorem kS_RX10_58 : CalS RX10 58 yX10_way cX10_way 4 (some .int) 4 := ⟨⟨wk4_10 1 rfl rfl, wk4_10 2 rfl rfl, wk1_0 9 rfl rfl, wk4_10 3 rfl rfl⟩, ⟨nmh_11.1, nmh_11.2, pd_27⟩⟩
set_option maxRecDepth 100000 in
theorem kV_RX10_66 : CalV RX10 66 yX10_between cX10_between 3 (some .int) 2 := ⟨⟨wk4_9 8 rfl rfl, wk4_9 10 rfl rfl, wT_sel 34 _ rfl rfl rfl, wk1_0 9 rfl rfl, wk4_9 11 rfl rfl⟩, ⟨nmh_11.1, nmh_11.2, pd_17⟩⟩
set_option maxRecDepth 100000 in
theorem gf_RX10_24 {p : Program} {l : Launch} {e : Env} {R : Room} {s : State} {m : MethodId} {args : Array Value} {below : List Frame} {meth : Method} {c : Code} {H : Heap} {locs : List Loc} {cells slots : Nat} {Q : State → Prop} {cc : ByteArray} {nL pc : Nat} {D : va_G} {cI cB cZ : ClassId} {ws : va_W} {rest : List Value} {ls : Array Slot} {a : Nat} {fs : List Value} {v : Value} (S : SF p m c cc nL s args RX10) (hK : KK D cI cB cZ s) (hP : va_P D vwCl ws H) (q0 : Nat) (he : ws[q0]? = some (a, .inr (11, fs))) (hv : fs[4]? = some v) (hdg : decode cc pc = .ok (.getfield 24, 3)) (kk : W p l e R s m args below meth c H locs cells slots Q (F0 m (pc + 3) ls (v :: rest))) : W p l e R s m args below meth c H locs cells slots Q (F0 m pc ls (.ref a :: rest)) :=
  va_get (C := RX10) (T := TX10) (N := 7) S.1 S.2.1 S.2.2.2.2 hin_RX10 S.2.2.2.1 hK.1 hP q0 he rfl 4 (by decide) (S.2.2.2.2 _ (wk1_15 11 rfl rfl)) (fun _ h9 => h9) hv hdg kk
set_option maxRecDepth 100000 in
theorem kV_RX10_69 : CalV RX10 69 yX10_through cX10_through 5 (some .int) 3 := ⟨⟨wk4_9 4 rfl rfl, wk4_9 6 rfl rfl, wT_sel 33 _ rfl rfl rfl, wk1_0 9 rfl rfl, wk4_9 7 rfl rfl⟩, ⟨nmh_11.1, nmh_11.2, pd_22⟩⟩
set_option maxRecDepth 100000 in
theorem gf_RX10_27 {p : Program} {l : Launch} {e : Env} {R : Room} {s : State} {m : MethodId} {args : Array Value} {below : List Frame} {meth : Method} {c : Code} {H : Heap} {locs : List Loc} {cells slots : Nat} {Q : State → Prop} {cc : ByteArray} {nL pc : Nat} {D : va_G} {cI cB cZ : ClassId} {ws : va_W} {rest : List Value} {ls : Array Slot} {a : Nat} {fs : List Value} {v : Value} (S : SF p m c cc nL s args RX10) (hK : KK D cI cB cZ s) (hP : va_P D vwCl ws H) (q0 : Nat) (he : ws[q0]? = some (a, .inr (11, fs))) (hv : fs[5]? = some v) (hdg : decode cc pc = .ok (.getfield 27, 3)) (kk : W p l e R s m args below meth c H locs cells slots Q (F0 m (pc + 3) ls (v :: rest))) : W p l e R s m args below meth c H locs cells slots Q (F0 m pc ls (.ref a :: rest)) :=
  va_get (C := RX10) (T := TX10) (N := 7) S.1 S.2.1 S.2.2.2.2 hin_RX10 S.2.2.2.1 hK.1 hP q0 he rfl 5 (by decide) (S.2.2.2.2 _ (wk1_16 0 rfl rfl)) (fun _ h9 => h9) hv hdg kk
set_option maxRecDepth 100000 in
theorem kV_RX10_62 : CalV RX10 62 yX10_shortest cX10_shortest 6 (some .int) 2 := ⟨⟨wk4_9 0 rfl rfl, wk4_9 2 rfl rfl, wT_sel 32 _ rfl rfl rfl, wk1_0 9 rfl rfl, wk4_9 3 rfl rfl⟩, ⟨nmh_11.1, nmh_11.2, pd_17⟩⟩
set_option maxRecDepth 100000 in
theorem kV_RX10_73 : CalV RX10 73 yX10_lengthOf cX10_lengthOf 2 (some .int) 1 := ⟨⟨wk4_10 11 rfl rfl, wk4_11 0 rfl rfl, wk4_11 1 rfl rfl, wk1_0 9 rfl rfl, wk4_11 2 rfl rfl⟩, ⟨nmh_11.1, nmh_11.2, pd_8⟩⟩
set_option maxRecDepth 100000 in
theorem kV_RX10_76 : CalV RX10 76 yX10_nextStop cX10_nextStop 5 (some .int) 2 := ⟨⟨wk4_11 7 rfl rfl, wk4_11 9 rfl rfl, wT_sel 35 _ rfl rfl rfl, wk1_0 9 rfl rfl, wk4_11 10 rfl rfl⟩, ⟨nmh_11.1, nmh_11.2, pd_17⟩⟩
set_option maxRecDepth 100000 in
theorem pf_RX11_263 {p : Program} {l : Launch} {e : Env} {R : Room} {s : State} {m : MethodId} {args : Array Value} {below : List Frame} {meth : Method} {c : Code} {H : Heap} {locs : List Loc} {cells slots : Nat} {Q : State → Prop} {cc : ByteArray} {nL pc : Nat} {D : va_G} {cI cB cZ : ClassId} {ws : va_W} {rest : List Value} {ls : Array Slot} {a : Nat} {fs : List Value} {v : Value} {A : Nat → Prop} {H0 : Heap} (S : SF p m c cc nL s args RX11) (hK : KK D cI cB cZ s) (hP : va_P D vwCl ws H) (hD : va_D A ws) (hS : va_S A H0 H locs) (q0 : Nat) (he : ws[q0]? = some (a, .inr (2, fs))) (hl : 5 < fs.length) (hn : narrow (tyX1 5) v = v) (hfit : fits (tyX1 5) v = true) (hdg : decode cc pc = .ok (.putfield 263, 3)) (kk : ∀ (H1 : Heap) (locs1 : List Loc), va_P D vwCl (ws.set q0 (a, .inr (2, fs.set 5 v))) H1 → va_D A (ws.set q0 (a, .inr (2, fs.set 5 v))) → va_S A H0 H1 locs1 → W p l e R s m args below meth c H1 locs1 cells slots Q (F0 m (pc + 3) ls rest)) : W p l e R s m args below meth c H locs cells slots Q (F0 m pc ls (v :: .ref a :: rest)) :=
  va_put (C := RX1) (T := TX1) (N := 11) S.1 S.2.1 S.2.2.2.2 hin_RX1 tyX1 tyX1_ok nmX1 S.2.2.2.1 hK.1 hP hD hS q0 he rfl 5 (by decide) (S.2.2.2.2 _ (wk2_6 10 rfl rfl)) (fun _ h9 => h9) rfl (tyX1_ok 5 (by decide)) hn hfit hl hdg kk
set_option maxRecDepth 100000 in
theorem gf_RX11_54 {p : Program} {l : Launch} {e : Env} {R : Room} {s : State} {m : MethodId} {args : Array Value} {below : List Frame} {meth : Method} {c : Code} {H : Heap} {locs : List Loc} {cells slots : Nat} {Q : State → Prop} {cc : ByteArray} {nL pc : Nat} {D : va_G} {cI cB cZ : ClassId} {ws : va_W} {rest : List Value} {ls : Array Slot} {a : Nat} {fs : List Value} {v : Value} (S : SF p m c cc nL s args RX11) (hK : KK D cI cB cZ s) (hP : va_P D vwCl ws H) (q0 : Nat) (he : ws[q0]? = some (a, .inr (12, fs))) (hv : fs[9]? = some v) (hdg : decode cc pc = .ok (.getfield 54, 3)) (kk : W p l e R s m args below meth c H locs cells slots Q (F0 m (pc + 3) ls (v :: rest))) : W p l e R s m args below meth c H locs cells slots Q (F0 m pc ls (.ref a :: rest)) :=
  va_get (C := RX11) (T := TX11) (N := 16) S.1 S.2.1 S.2.2.2.2 hin_RX11 S.2.2.2.1 hK.1 hP q0 he rfl 9 (by decide) (S.2.2.2.2 _ (wk2_0 5 rfl rfl)) (fun _ h9 => h9) hv hdg kk
set_option maxRecDepth 100000 in
theorem kV_RX11_266 : CalV RX11 266 yX10_clear cX10_clear 1 none 0 := ⟨⟨wk4_7 11 rfl rfl, wk4_8 0 rfl rfl, wk4_8 1 rfl rfl, wk1_0 9 rfl rfl, wk4_8 2 rfl rfl⟩, ⟨nmh_11.1, nmh_11.2, pd_2⟩⟩
theorem frq_4_0_1_2_3_5_10_11_12_13_14_15_20_21_22_23_24_25 {li lf : List Nat} {cn c2 : Nat → Nat} {In I2 : Nat → Int32} {Fn F2 : Nat → Nat → Int32} (h : Fr [4] li lf cn In Fn c2 I2 F2) : c2 0 = cn 0 ∧ c2 1 = cn 1 ∧ c2 2 = cn 2 ∧ c2 3 = cn 3 ∧ c2 5 = cn 5 ∧ c2 10 = cn 10 ∧ c2 11 = cn 11 ∧ c2 12 = cn 12 ∧ c2 13 = cn 13 ∧ c2 14 = cn 14 ∧ c2 15 = cn 15 ∧ c2 20 = cn 20 ∧ c2 21 = cn 21 ∧ c2 22 = cn 22 ∧ c2 23 = cn 23 ∧ c2 24 = cn 24 ∧ c2 25 = cn 25 := ⟨h.1 0 (nml rfl), h.1 1 (nml rfl), h.1 2 (nml rfl), h.1 3 (nml rfl), h.1 5 (nml rfl), h.1 10 (nml rfl), h.1 11 (nml rfl), h.1 12 (nml rfl), h.1 13 (nml rfl), h.1 14 (nml rfl), h.1 15 (nml rfl), h.1 20 (nml rfl), h.1 21 (nml rfl), h.1 22 (nml rfl), h.1 23 (nml rfl), h.1 24 (nml rfl), h.1 25 (nml rfl)⟩
set_option maxRecDepth 100000 in
theorem kV_RX11_273 : CalV RX11 273 yX10_solve cX10_solve 3 none 0 := ⟨⟨wk4_8 8 rfl rfl, wk4_8 9 rfl rfl, wk4_8 10 rfl rfl, wk1_0 9 rfl rfl, wk4_8 11 rfl rfl⟩, ⟨nmh_11.1, nmh_11.2, pd_2⟩⟩
set_option maxRecDepth 100000 in
theorem gf_RX11_263 {p : Program} {l : Launch} {e : Env} {R : Room} {s : State} {m : MethodId} {args : Array Value} {below : List Frame} {meth : Method} {c : Code} {H : Heap} {locs : List Loc} {cells slots : Nat} {Q : State → Prop} {cc : ByteArray} {nL pc : Nat} {D : va_G} {cI cB cZ : ClassId} {ws : va_W} {rest : List Value} {ls : Array Slot} {a : Nat} {fs : List Value} {v : Value} (S : SF p m c cc nL s args RX11) (hK : KK D cI cB cZ s) (hP : va_P D vwCl ws H) (q0 : Nat) (he : ws[q0]? = some (a, .inr (2, fs))) (hv : fs[5]? = some v) (hdg : decode cc pc = .ok (.getfield 263, 3)) (kk : W p l e R s m args below meth c H locs cells slots Q (F0 m (pc + 3) ls (v :: rest))) : W p l e R s m args below meth c H locs cells slots Q (F0 m pc ls (.ref a :: rest)) :=
  va_get (C := RX1) (T := TX1) (N := 11) S.1 S.2.1 S.2.2.2.2 hin_RX1 S.2.2.2.1 hK.1 hP q0 he rfl 5 (by decide) (S.2.2.2.2 _ (wk2_6 10 rfl rfl)) (fun _ h9 => h9) hv hdg kk
set_option maxRecDepth 100000 in
theorem gf_RX11_267 {p : Program} {l : Launch} {e : Env} {R : Room} {s : State} {m : MethodId} {args : Array Value} {below : List Frame} {meth : Method} {c : Code} {H : Heap} {locs : List Loc} {cells slots : Nat} {Q : State → Prop} {cc : ByteArray} {nL pc : Nat} {D : va_G} {cI cB cZ : ClassId} {ws : va_W} {rest : List Value} {ls : Array Slot} {a : Nat} {fs : List Value} {v : Value} (S : SF p m c cc nL s args RX11) (hK : KK D cI cB cZ s) (hP : va_P D vwCl ws H) (q0 : Nat) (he : ws[q0]? = some (a, .inr (11, fs))) (hv : fs[6]? = some v) (hdg : decode cc pc = .ok (.getfield 267, 3)) (kk : W p l e R s m args below meth c H locs cells slots Q (F0 m (pc + 3) ls (v :: rest))) : W p l e R s m args below meth c H locs cells slots Q (F0 m pc ls (.ref a :: rest)) :=
  va_get (C := RX10) (T := TX10) (N := 7) S.1 S.2.1 S.2.2.2.2 hin_RX10 S.2.2.2.1 hK.1 hP q0 he rfl 6 (by decide) (S.2.2.2.2 _ (wk1_16 2 rfl rfl)) (fun _ h9 => h9) hv hdg kk
set_option maxRecDepth 100000 in
theorem kV_RX11_270 : CalV RX11 270 yX10_add cX10_add 4 none 3 := ⟨⟨wk4_8 3 rfl rfl, wk4_8 4 rfl rfl, wk4_8 5 rfl rfl, wk1_0 9 rfl rfl, wk4_8 6 rfl rfl⟩, ⟨nmh_11.1, nmh_11.2, pd_41⟩⟩
set_option maxRecDepth 100000 in
theorem kV_RX11_276 : CalV RX11 276 yX11_startTrial cX11_startTrial 5 (some .boolean) 1 := ⟨⟨wk4_7 3 rfl rfl, wk4_7 5 rfl rfl, wT_sel 30 _ rfl rfl rfl, wk1_0 1 rfl rfl, wk4_7 6 rfl rfl⟩, ⟨nmh_0.1, nmh_0.2, pd_15⟩⟩
set_option maxRecDepth 100000 in
theorem kV_RX11_279 : CalV RX11 279 yX11_gatherStops cX11_gatherStops 7 (some .boolean) 3 := ⟨⟨wk4_7 7 rfl rfl, wk4_7 9 rfl rfl, wT_sel 31 _ rfl rfl rfl, wk1_0 1 rfl rfl, wk4_7 10 rfl rfl⟩, ⟨nmh_0.1, nmh_0.2, pd_26⟩⟩
set_option maxRecDepth 100000 in
theorem kV_RX11_285 : CalV RX11 285 yX10_kitchenInRow cX10_kitchenInRow 5 (some .int) 1 := ⟨⟨wk4_11 3 rfl rfl, wk4_11 4 rfl rfl, wk4_11 5 rfl rfl, wk1_0 9 rfl rfl, wk4_11 6 rfl rfl⟩, ⟨nmh_11.1, nmh_11.2, pd_8⟩⟩
set_option maxRecDepth 100000 in
theorem kV_RX11_282 : CalV RX11 282 yX10_wholeLength cX10_wholeLength 1 (some .int) 0 := ⟨⟨wk4_10 7 rfl rfl, wk4_10 8 rfl rfl, wk4_10 9 rfl rfl, wk1_0 9 rfl rfl, wk4_10 10 rfl rfl⟩, ⟨nmh_11.1, nmh_11.2, pd_1⟩⟩
set_option maxRecDepth 100000 in
theorem gf_RX11_306 {p : Program} {l : Launch} {e : Env} {R : Room} {s : State} {m : MethodId} {args : Array Value} {below : List Frame} {meth : Method} {c : Code} {H : Heap} {locs : List Loc} {cells slots : Nat} {Q : State → Prop} {cc : ByteArray} {nL pc : Nat} {D : va_G} {cI cB cZ : ClassId} {ws : va_W} {rest : List Value} {ls : Array Slot} {a : Nat} {fs : List Value} {v : Value} (S : SF p m c cc nL s args RX11) (hK : KK D cI cB cZ s) (hP : va_P D vwCl ws H) (q0 : Nat) (he : ws[q0]? = some (a, .inr (11, fs))) (hv : fs[0]? = some v) (hdg : decode cc pc = .ok (.getfield 306, 3)) (kk : W p l e R s m args below meth c H locs cells slots Q (F0 m (pc + 3) ls (v :: rest))) : W p l e R s m args below meth c H locs cells slots Q (F0 m pc ls (.ref a :: rest)) :=
  va_get (C := RX10) (T := TX10) (N := 7) S.1 S.2.1 S.2.2.2.2 hin_RX10 S.2.2.2.1 hK.1 hP q0 he rfl 0 (by decide) (S.2.2.2.2 _ (wk1_15 6 rfl rfl)) (fun _ h9 => h9) hv hdg kk
set_option maxRecDepth 100000 in
theorem gf_RX11_308 {p : Program} {l : Launch} {e : Env} {R : Room} {s : State} {m : MethodId} {args : Array Value} {below : List Frame} {meth : Method} {c : Code} {H : Heap} {locs : List Loc} {cells slots : Nat} {Q : State → Prop} {cc : ByteArray} {nL pc : Nat} {D : va_G} {cI cB cZ : ClassId} {ws : va_W} {rest : List Value} {ls : Array Slot} {a : Nat} {fs : List Value} {v : Value} (S : SF p m c cc nL s args RX11) (hK : KK D cI cB cZ s) (hP : va_P D vwCl ws H) (q0 : Nat) (he : ws[q0]? = some (a, .inr (11, fs))) (hv : fs[1]? = some v) (hdg : decode cc pc = .ok (.getfield 308, 3)) (kk : W p l e R s m args below meth c H locs cells slots Q (F0 m (pc + 3) ls (v :: rest))) : W p l e R s m args below meth c H locs cells slots Q (F0 m pc ls (.ref a :: rest)) :=
  va_get (C := RX10) (T := TX10) (N := 7) S.1 S.2.1 S.2.2.2.2 hin_RX10 S.2.2.2.1 hK.1 hP q0 he rfl 1 (by decide) (S.2.2.2.2 _ (wk1_15 8 rfl rfl)) (fun _ h9 => h9) hv hdg kk
set_option maxRecDepth 100000 in
theorem kV_RX11_303 : CalV RX11 303 yX11_emptyStops cX11_emptyStops 5 (some .int) 1 := ⟨⟨wk4_13 5 rfl rfl, wk4_13 7 rfl rfl, wT_sel 37 _ rfl rfl rfl, wk1_0 1 rfl rfl, wk4_13 8 rfl rfl⟩, ⟨nmh_0.1, nmh_0.2, pd_8⟩⟩
set_option maxRecDepth 100000 in
theorem kS_RX11_299 : CalS RX11 299 yX10_way cX10_way 4 (some .int) 4 := ⟨⟨wk4_13 0 rfl rfl, wk4_10 2 rfl rfl, wk1_0 9 rfl rfl, wk4_10 3 rfl rfl⟩, ⟨nmh_11.1, nmh_11.2, pd_27⟩⟩
set_option maxRecDepth 100000 in
theorem kV_RX11_291 : CalV RX11 291 yX8_at cX8_at 2 (some .int) 1 := ⟨⟨wk4_12 7 rfl rfl, wk4_12 8 rfl rfl, wk4_12 9 rfl rfl, wk1_0 4 rfl rfl, wk4_12 10 rfl rfl⟩, ⟨nmh_9.1, nmh_9.2, pd_8⟩⟩
set_option maxRecDepth 100000 in
theorem gf_RX11_293 {p : Program} {l : Launch} {e : Env} {R : Room} {s : State} {m : MethodId} {args : Array Value} {below : List Frame} {meth : Method} {c : Code} {H : Heap} {locs : List Loc} {cells slots : Nat} {Q : State → Prop} {cc : ByteArray} {nL pc : Nat} {D : va_G} {cI cB cZ : ClassId} {ws : va_W} {rest : List Value} {ls : Array Slot} {a : Nat} {fs : List Value} {v : Value} (S : SF p m c cc nL s args RX11) (hK : KK D cI cB cZ s) (hP : va_P D vwCl ws H) (q0 : Nat) (he : ws[q0]? = some (a, .inr (2, fs))) (hv : fs[0]? = some v) (hdg : decode cc pc = .ok (.getfield 293, 3)) (kk : W p l e R s m args below meth c H locs cells slots Q (F0 m (pc + 3) ls (v :: rest))) : W p l e R s m args below meth c H locs cells slots Q (F0 m pc ls (.ref a :: rest)) :=
  va_get (C := RX1) (T := TX1) (N := 11) S.1 S.2.1 S.2.2.2.2 hin_RX1 S.2.2.2.1 hK.1 hP q0 he rfl 0 (by decide) (S.2.2.2.2 _ (wk2_6 1 rfl rfl)) (fun _ h9 => h9) hv hdg kk
set_option maxRecDepth 100000 in
theorem gf_RX11_296 {p : Program} {l : Launch} {e : Env} {R : Room} {s : State} {m : MethodId} {args : Array Value} {below : List Frame} {meth : Method} {c : Code} {H : Heap} {locs : List Loc} {cells slots : Nat} {Q : State → Prop} {cc : ByteArray} {nL pc : Nat} {D : va_G} {cI cB cZ : ClassId} {ws : va_W} {rest : List Value} {ls : Array Slot} {a : Nat} {fs : List Value} {v : Value} (S : SF p m c cc nL s args RX11) (hK : KK D cI cB cZ s) (hP : va_P D vwCl ws H) (q0 : Nat) (he : ws[q0]? = some (a, .inr (2, fs))) (hv : fs[1]? = some v) (hdg : decode cc pc = .ok (.getfield 296, 3)) (kk : W p l e R s m args below meth c H locs cells slots Q (F0 m (pc + 3) ls (v :: rest))) : W p l e R s m args below meth c H locs cells slots Q (F0 m pc ls (.ref a :: rest)) :=
  va_get (C := RX1) (T := TX1) (N := 11) S.1 S.2.1 S.2.2.2.2 hin_RX1 S.2.2.2.1 hK.1 hP q0 he rfl 1 (by decide) (S.2.2.2.2 _ (wk2_6 4 rfl rfl)) (fun _ h9 => h9) hv hdg kk
set_option maxRecDepth 100000 in
theorem kV_RX11_288 : CalV RX11 288 yX11_drivenLength cX11_drivenLength 7 (some .int) 1 := ⟨⟨wk4_12 3 rfl rfl, wk4_12 5 rfl rfl, wT_sel 36 _ rfl rfl rfl, wk1_0 1 rfl rfl, wk4_12 6 rfl rfl⟩, ⟨nmh_0.1, nmh_0.2, pd_8⟩⟩
set_option maxRecDepth 100000 in
theorem kV_RX11_162 : CalV RX11 162 yX8_clear cX8_clear 1 none 0 := ⟨⟨wk3_17 7 rfl rfl, wk3_17 8 rfl rfl, wk3_17 9 rfl rfl, wk1_0 4 rfl rfl, wk3_17 10 rfl rfl⟩, ⟨nmh_9.1, nmh_9.2, pd_2⟩⟩
noncomputable def sxX11_kitchenAt_31 : List UInt8 := []
noncomputable def sxX11_kitchenAt_24 : List UInt8 := 182 :: 0 :: 87 :: 192 :: 0 :: 91 :: 176 :: sxX11_kitchenAt_31
theorem shX11_kitchenAt_0 : cX11_kitchenAt.data.toList.drop 0 = 27 :: 155 :: 0 :: 14 :: 27 :: 42 :: 180 :: 0 :: 61 :: 182 :: 0 :: 84 :: 161 :: 0 :: 7 :: 1 :: 167 :: 0 :: 14 :: 42 :: 180 :: 0 :: 61 :: 27 :: sxX11_kitchenAt_24 := rfl
theorem shX11_kitchenAt_24 : cX11_kitchenAt.data.toList.drop 24 = 182 :: 0 :: 87 :: 192 :: 0 :: 91 :: 176 :: sxX11_kitchenAt_31 := aq_24 shX11_kitchenAt_0
noncomputable def sxX11_loadAt_31 : List UInt8 := []
noncomputable def sxX11_loadAt_24 : List UInt8 := 182 :: 0 :: 87 :: 192 :: 0 :: 93 :: 176 :: sxX11_loadAt_31
theorem shX11_loadAt_0 : cX11_loadAt.data.toList.drop 0 = 27 :: 155 :: 0 :: 14 :: 27 :: 42 :: 180 :: 0 :: 65 :: 182 :: 0 :: 84 :: 161 :: 0 :: 7 :: 1 :: 167 :: 0 :: 14 :: 42 :: 180 :: 0 :: 65 :: 27 :: sxX11_loadAt_24 := rfl
theorem shX11_loadAt_24 : cX11_loadAt.data.toList.drop 24 = 182 :: 0 :: 87 :: 192 :: 0 :: 93 :: 176 :: sxX11_loadAt_31 := aq_24 shX11_loadAt_0
noncomputable def sxX11_batchAt_31 : List UInt8 := []
noncomputable def sxX11_batchAt_24 : List UInt8 := 182 :: 0 :: 87 :: 192 :: 0 :: 95 :: 176 :: sxX11_batchAt_31
theorem shX11_batchAt_0 : cX11_batchAt.data.toList.drop 0 = 27 :: 155 :: 0 :: 14 :: 27 :: 42 :: 180 :: 0 :: 68 :: 182 :: 0 :: 84 :: 161 :: 0 :: 7 :: 1 :: 167 :: 0 :: 14 :: 42 :: 180 :: 0 :: 68 :: 27 :: sxX11_batchAt_24 := rfl
theorem shX11_batchAt_24 : cX11_batchAt.data.toList.drop 24 = 182 :: 0 :: 87 :: 192 :: 0 :: 95 :: 176 :: sxX11_batchAt_31 := aq_24 shX11_batchAt_0
noncomputable def sxX11_proofAt_31 : List UInt8 := []
noncomputable def sxX11_proofAt_24 : List UInt8 := 182 :: 0 :: 87 :: 192 :: 0 :: 97 :: 176 :: sxX11_proofAt_31
theorem shX11_proofAt_0 : cX11_proofAt.data.toList.drop 0 = 27 :: 155 :: 0 :: 14 :: 27 :: 42 :: 180 :: 0 :: 71 :: 182 :: 0 :: 84 :: 161 :: 0 :: 7 :: 1 :: 167 :: 0 :: 14 :: 42 :: 180 :: 0 :: 71 :: 27 :: sxX11_proofAt_24 := rfl
theorem shX11_proofAt_24 : cX11_proofAt.data.toList.drop 24 = 182 :: 0 :: 87 :: 192 :: 0 :: 97 :: 176 :: sxX11_proofAt_31 := aq_24 shX11_proofAt_0
noncomputable def sxX1_fillOn_16 : List UInt8 := []
theorem shX1_fillOn_0 : cX1_fillOn.data.toList.drop 0 = 42 :: 180 :: 0 :: 19 :: 42 :: 180 :: 0 :: 16 :: 27 :: 28 :: 100 :: 104 :: 184 :: 0 :: 31 :: 172 :: sxX1_fillOn_16 := rfl
noncomputable def sxX1_comesFor_22 : List UInt8 := []
theorem shX1_comesFor_0 : cX1_comesFor.data.toList.drop 0 = 27 :: 42 :: 180 :: 0 :: 37 :: 161 :: 0 :: 15 :: 27 :: 42 :: 180 :: 0 :: 40 :: 161 :: 0 :: 7 :: 4 :: 167 :: 0 :: 4 :: 3 :: 172 :: sxX1_comesFor_22 := rfl
noncomputable def sxX11_likely_37 : List UInt8 := []
noncomputable def sxX11_likely_25 : List UInt8 := 2 :: 172 :: 45 :: 28 :: 45 :: 180 :: 0 :: 118 :: 182 :: 0 :: 121 :: 172 :: sxX11_likely_37
theorem shX11_likely_0 : cX11_likely.data.toList.drop 0 = 42 :: 27 :: 182 :: 0 :: 114 :: 78 :: 45 :: 198 :: 0 :: 18 :: 28 :: 184 :: 0 :: 99 :: 153 :: 0 :: 11 :: 28 :: 45 :: 180 :: 0 :: 118 :: 162 :: 0 :: 5 :: sxX11_likely_25 := rfl
theorem shX11_likely_25 : cX11_likely.data.toList.drop 25 = 2 :: 172 :: 45 :: 28 :: 45 :: 180 :: 0 :: 118 :: 182 :: 0 :: 121 :: 172 :: sxX11_likely_37 := aq_25 shX11_likely_0
noncomputable def sxX11_missing_19 : List UInt8 := []
theorem shX11_missing_0 : cX11_missing.data.toList.drop 0 = 42 :: 27 :: 182 :: 0 :: 148 :: 77 :: 44 :: 199 :: 0 :: 7 :: 2 :: 167 :: 0 :: 7 :: 44 :: 180 :: 0 :: 141 :: 172 :: sxX11_missing_19 := rfl
noncomputable def sxX11_street_29 : List UInt8 := []
noncomputable def sxX11_street_24 : List UInt8 := 181 :: 1 :: 4 :: 4 :: 172 :: sxX11_street_29
theorem shX11_street_0 : cX11_street.data.toList.drop 0 = 42 :: 27 :: 182 :: 0 :: 114 :: 78 :: 45 :: 198 :: 0 :: 13 :: 28 :: 3 :: 16 :: 9 :: 184 :: 0 :: 80 :: 154 :: 0 :: 5 :: 3 :: 172 :: 45 :: 28 :: sxX11_street_24 := rfl
theorem shX11_street_24 : cX11_street.data.toList.drop 24 = 181 :: 1 :: 4 :: 4 :: 172 :: sxX11_street_29 := aq_24 shX11_street_0
theorem dX11_street_5 : decode cX11_street 5 = .ok (.astore_n 3, 1) := oc_78 5 (aq_5 shX11_street_0)
theorem dX11_street_6 : decode cX11_street 6 = .ok (.aload_n 3, 1) := oc_45 6 (aq_6 shX11_street_0)
theorem dX11_street_7 : decode cX11_street 7 = .ok (.ifnull 13, 3) := oc_198 7 (aq_7 shX11_street_0) sgw_0_13
theorem dX11_street_17 : decode cX11_street 17 = .ok (.ifCond .ne 5, 3) := oc_154 17 (aq_17 shX11_street_0) sgw_0_5
theorem dX11_street_20 : decode cX11_street 20 = .ok (.iconst 0, 1) := oc_3 20 (aq_20 shX11_street_0)
theorem dX11_street_21 : decode cX11_street 21 = .ok (.ireturn, 1) := oc_172 21 (aq_21 shX11_street_0)
noncomputable def sxX11_offers_50 : List UInt8 := []
noncomputable def sxX11_offers_48 : List UInt8 := 4 :: 172 :: sxX11_offers_50
noncomputable def sxX11_offers_24 : List UInt8 := 3 :: 17 :: 0 :: 200 :: 184 :: 0 :: 80 :: 154 :: 0 :: 5 :: 3 :: 172 :: 25 :: 4 :: 28 :: 181 :: 1 :: 194 :: 25 :: 4 :: 29 :: 181 :: 1 :: 197 :: sxX11_offers_48
theorem shX11_offers_0 : cX11_offers.data.toList.drop 0 = 42 :: 27 :: 182 :: 0 :: 114 :: 58 :: 4 :: 25 :: 4 :: 198 :: 0 :: 25 :: 28 :: 3 :: 17 :: 0 :: 200 :: 184 :: 0 :: 80 :: 153 :: 0 :: 14 :: 29 :: sxX11_offers_24 := rfl
theorem shX11_offers_24 : cX11_offers.data.toList.drop 24 = 3 :: 17 :: 0 :: 200 :: 184 :: 0 :: 80 :: 154 :: 0 :: 5 :: 3 :: 172 :: 25 :: 4 :: 28 :: 181 :: 1 :: 194 :: 25 :: 4 :: 29 :: 181 :: 1 :: 197 :: sxX11_offers_48 := aq_24 shX11_offers_0
theorem shX11_offers_48 : cX11_offers.data.toList.drop 48 = 4 :: 172 :: sxX11_offers_50 := aq_24 shX11_offers_24
theorem dX11_offers_5 : decode cX11_offers 5 = .ok (.astore 4, 2) := oc_58 5 (aq_5 shX11_offers_0) ub_4
theorem dX11_offers_7 : decode cX11_offers 7 = .ok (.aload 4, 2) := oc_25 7 (aq_7 shX11_offers_0) ub_4
theorem dX11_offers_9 : decode cX11_offers 9 = .ok (.ifnull 25, 3) := oc_198 9 (aq_9 shX11_offers_0) sgw_0_25
theorem dX11_offers_20 : decode cX11_offers 20 = .ok (.ifCond .eq 14, 3) := oc_153 20 (aq_20 shX11_offers_0) sgw_0_14
theorem dX11_offers_31 : decode cX11_offers 31 = .ok (.ifCond .ne 5, 3) := oc_154 31 (aq_7 shX11_offers_24) sgw_0_5
theorem dX11_offers_34 : decode cX11_offers 34 = .ok (.iconst 0, 1) := oc_3 34 (aq_10 shX11_offers_24)
theorem dX11_offers_35 : decode cX11_offers 35 = .ok (.ireturn, 1) := oc_172 35 (aq_11 shX11_offers_24)
noncomputable def sxX10_way_14 : List UInt8 := []
theorem shX10_way_0 : cX10_way.data.toList.drop 0 = 26 :: 28 :: 100 :: 184 :: 0 :: 30 :: 27 :: 29 :: 100 :: 184 :: 0 :: 30 :: 96 :: 172 :: sxX10_way_14 := rfl
noncomputable def sxX10_clear_6 : List UInt8 := []
theorem shX10_clear_0 : cX10_clear.data.toList.drop 0 = 42 :: 3 :: 181 :: 0 :: 36 :: 177 :: sxX10_clear_6 := rfl
noncomputable def sxX10_add_65 : List UInt8 := []
noncomputable def sxX10_add_48 : List UInt8 := 180 :: 0 :: 51 :: 184 :: 0 :: 40 :: 42 :: 89 :: 180 :: 0 :: 36 :: 4 :: 96 :: 181 :: 0 :: 36 :: 177 :: sxX10_add_65
noncomputable def sxX10_add_24 : List UInt8 := 42 :: 180 :: 0 :: 18 :: 42 :: 180 :: 0 :: 36 :: 44 :: 180 :: 0 :: 46 :: 184 :: 0 :: 40 :: 42 :: 180 :: 0 :: 21 :: 42 :: 180 :: 0 :: 36 :: 44 :: sxX10_add_48
theorem shX10_add_0 : cX10_add.data.toList.drop 0 = 42 :: 180 :: 0 :: 9 :: 42 :: 180 :: 0 :: 36 :: 27 :: 184 :: 0 :: 40 :: 42 :: 180 :: 0 :: 15 :: 42 :: 180 :: 0 :: 36 :: 29 :: 184 :: 0 :: 40 :: sxX10_add_24 := rfl
theorem shX10_add_24 : cX10_add.data.toList.drop 24 = 42 :: 180 :: 0 :: 18 :: 42 :: 180 :: 0 :: 36 :: 44 :: 180 :: 0 :: 46 :: 184 :: 0 :: 40 :: 42 :: 180 :: 0 :: 21 :: 42 :: 180 :: 0 :: 36 :: 44 :: sxX10_add_48 := aq_24 shX10_add_0
theorem shX10_add_48 : cX10_add.data.toList.drop 48 = 180 :: 0 :: 51 :: 184 :: 0 :: 40 :: 42 :: 89 :: 180 :: 0 :: 36 :: 4 :: 96 :: 181 :: 0 :: 36 :: 177 :: sxX10_add_65 := aq_24 shX10_add_24
noncomputable def sxX10_between_36 : List UInt8 := []
noncomputable def sxX10_between_24 : List UInt8 := 42 :: 180 :: 0 :: 21 :: 28 :: 184 :: 0 :: 54 :: 184 :: 0 :: 58 :: 172 :: sxX10_between_36
theorem shX10_between_0 : cX10_between.data.toList.drop 0 = 42 :: 180 :: 0 :: 18 :: 27 :: 184 :: 0 :: 54 :: 42 :: 180 :: 0 :: 21 :: 27 :: 184 :: 0 :: 54 :: 42 :: 180 :: 0 :: 18 :: 28 :: 184 :: 0 :: 54 :: sxX10_between_24 := rfl
theorem shX10_between_24 : cX10_between.data.toList.drop 24 = 42 :: 180 :: 0 :: 21 :: 28 :: 184 :: 0 :: 54 :: 184 :: 0 :: 58 :: 172 :: sxX10_between_36 := aq_24 shX10_between_0
noncomputable def sxX10_through_31 : List UInt8 := []
noncomputable def sxX10_through_24 : List UInt8 := 28 :: 96 :: 184 :: 0 :: 54 :: 96 :: 172 :: sxX10_through_31
theorem shX10_through_0 : cX10_through.data.toList.drop 0 = 29 :: 4 :: 28 :: 120 :: 2 :: 130 :: 126 :: 54 :: 4 :: 42 :: 27 :: 28 :: 182 :: 0 :: 66 :: 42 :: 180 :: 0 :: 24 :: 21 :: 4 :: 16 :: 8 :: 104 :: sxX10_through_24 := rfl
theorem shX10_through_24 : cX10_through.data.toList.drop 24 = 28 :: 96 :: 184 :: 0 :: 54 :: 96 :: 172 :: sxX10_through_31 := aq_24 shX10_through_0
noncomputable def sxX10_shortest_73 : List UInt8 := []
noncomputable def sxX10_shortest_49 : List UInt8 := 29 :: 62 :: 132 :: 4 :: 1 :: 167 :: 255 :: 207 :: 29 :: 2 :: 160 :: 0 :: 12 :: 42 :: 27 :: 2 :: 182 :: 0 :: 66 :: 167 :: 0 :: 4 :: 29 :: 172 :: sxX10_shortest_73
noncomputable def sxX10_shortest_24 : List UInt8 := 27 :: 21 :: 4 :: 28 :: 182 :: 0 :: 69 :: 54 :: 5 :: 29 :: 2 :: 159 :: 0 :: 9 :: 21 :: 5 :: 29 :: 162 :: 0 :: 8 :: 21 :: 5 :: 167 :: 0 :: 4 :: sxX10_shortest_49
theorem shX10_shortest_0 : cX10_shortest.data.toList.drop 0 = 2 :: 62 :: 3 :: 54 :: 4 :: 21 :: 4 :: 42 :: 180 :: 0 :: 36 :: 162 :: 0 :: 46 :: 28 :: 21 :: 4 :: 122 :: 4 :: 126 :: 153 :: 0 :: 31 :: 42 :: sxX10_shortest_24 := rfl
theorem shX10_shortest_24 : cX10_shortest.data.toList.drop 24 = 27 :: 21 :: 4 :: 28 :: 182 :: 0 :: 69 :: 54 :: 5 :: 29 :: 2 :: 159 :: 0 :: 9 :: 21 :: 5 :: 29 :: 162 :: 0 :: 8 :: 21 :: 5 :: 167 :: 0 :: 4 :: sxX10_shortest_49 := aq_24 shX10_shortest_0
theorem shX10_shortest_49 : cX10_shortest.data.toList.drop 49 = 29 :: 62 :: 132 :: 4 :: 1 :: 167 :: 255 :: 207 :: 29 :: 2 :: 160 :: 0 :: 12 :: 42 :: 27 :: 2 :: 182 :: 0 :: 66 :: 167 :: 0 :: 4 :: 29 :: 172 :: sxX10_shortest_73 := aq_25 shX10_shortest_24
theorem dX10_shortest_51 : decode cX10_shortest 51 = .ok (.iinc 4 1, 3) := oc_132 51 (aq_2 shX10_shortest_49) ub_4 sgb_1
theorem dX10_shortest_54 : decode cX10_shortest 54 = .ok (.goto (-49), 3) := oc_167 54 (aq_5 shX10_shortest_49) sgw_255_207
noncomputable def sxX10_solve_76 : List UInt8 := []
noncomputable def sxX10_solve_75 : List UInt8 := 177 :: sxX10_solve_76
noncomputable def sxX10_solve_49 : List UInt8 := 132 :: 2 :: 1 :: 167 :: 255 :: 218 :: 42 :: 180 :: 0 :: 27 :: 27 :: 42 :: 2 :: 27 :: 182 :: 0 :: 62 :: 184 :: 0 :: 40 :: 132 :: 1 :: 1 :: 167 :: 255 :: 186 :: sxX10_solve_75
noncomputable def sxX10_solve_24 : List UInt8 := 122 :: 4 :: 126 :: 154 :: 0 :: 22 :: 42 :: 180 :: 0 :: 24 :: 27 :: 16 :: 8 :: 104 :: 28 :: 96 :: 42 :: 28 :: 27 :: 182 :: 0 :: 62 :: 184 :: 0 :: 40 :: sxX10_solve_49
theorem shX10_solve_0 : cX10_solve.data.toList.drop 0 = 3 :: 60 :: 27 :: 4 :: 42 :: 180 :: 0 :: 36 :: 120 :: 162 :: 0 :: 66 :: 3 :: 61 :: 28 :: 42 :: 180 :: 0 :: 36 :: 162 :: 0 :: 36 :: 27 :: 28 :: sxX10_solve_24 := rfl
theorem shX10_solve_24 : cX10_solve.data.toList.drop 24 = 122 :: 4 :: 126 :: 154 :: 0 :: 22 :: 42 :: 180 :: 0 :: 24 :: 27 :: 16 :: 8 :: 104 :: 28 :: 96 :: 42 :: 28 :: 27 :: 182 :: 0 :: 62 :: 184 :: 0 :: 40 :: sxX10_solve_49 := aq_24 shX10_solve_0
theorem shX10_solve_49 : cX10_solve.data.toList.drop 49 = 132 :: 2 :: 1 :: 167 :: 255 :: 218 :: 42 :: 180 :: 0 :: 27 :: 27 :: 42 :: 2 :: 27 :: 182 :: 0 :: 62 :: 184 :: 0 :: 40 :: 132 :: 1 :: 1 :: 167 :: 255 :: 186 :: sxX10_solve_75 := aq_25 shX10_solve_24
theorem shX10_solve_75 : cX10_solve.data.toList.drop 75 = 177 :: sxX10_solve_76 := aq_26 shX10_solve_49
noncomputable def sxX10_lengthOf_9 : List UInt8 := []
theorem shX10_lengthOf_0 : cX10_lengthOf.data.toList.drop 0 = 42 :: 180 :: 0 :: 27 :: 27 :: 184 :: 0 :: 54 :: 172 :: sxX10_lengthOf_9 := rfl
noncomputable def sxX10_wholeLength_13 : List UInt8 := []
theorem shX10_wholeLength_0 : cX10_wholeLength.data.toList.drop 0 = 42 :: 4 :: 42 :: 180 :: 0 :: 36 :: 120 :: 4 :: 100 :: 182 :: 0 :: 73 :: 172 :: sxX10_wholeLength_13 := rfl
noncomputable def sxX10_fillOf_43 : List UInt8 := []
noncomputable def sxX10_fillOf_25 : List UInt8 := 29 :: 184 :: 0 :: 54 :: 167 :: 0 :: 4 :: 3 :: 96 :: 61 :: 132 :: 3 :: 1 :: 167 :: 255 :: 222 :: 28 :: 172 :: sxX10_fillOf_43
theorem shX10_fillOf_0 : cX10_fillOf.data.toList.drop 0 = 3 :: 61 :: 3 :: 62 :: 29 :: 42 :: 180 :: 0 :: 36 :: 162 :: 0 :: 32 :: 28 :: 27 :: 29 :: 122 :: 4 :: 126 :: 153 :: 0 :: 14 :: 42 :: 180 :: 0 :: 15 :: sxX10_fillOf_25 := rfl
theorem shX10_fillOf_25 : cX10_fillOf.data.toList.drop 25 = 29 :: 184 :: 0 :: 54 :: 167 :: 0 :: 4 :: 3 :: 96 :: 61 :: 132 :: 3 :: 1 :: 167 :: 255 :: 222 :: 28 :: 172 :: sxX10_fillOf_43 := aq_25 shX10_fillOf_0
noncomputable def sxX10_nextStop_51 : List UInt8 := []
noncomputable def sxX10_nextStop_49 : List UInt8 := 2 :: 172 :: sxX10_nextStop_51
noncomputable def sxX10_nextStop_24 : List UInt8 := 126 :: 153 :: 0 :: 18 :: 42 :: 27 :: 21 :: 4 :: 28 :: 182 :: 0 :: 69 :: 29 :: 160 :: 0 :: 6 :: 21 :: 4 :: 172 :: 132 :: 4 :: 1 :: 167 :: 255 :: 220 :: sxX10_nextStop_49
theorem shX10_nextStop_0 : cX10_nextStop.data.toList.drop 0 = 42 :: 27 :: 28 :: 182 :: 0 :: 62 :: 62 :: 3 :: 54 :: 4 :: 21 :: 4 :: 42 :: 180 :: 0 :: 36 :: 162 :: 0 :: 33 :: 28 :: 21 :: 4 :: 122 :: 4 :: sxX10_nextStop_24 := rfl
theorem shX10_nextStop_24 : cX10_nextStop.data.toList.drop 24 = 126 :: 153 :: 0 :: 18 :: 42 :: 27 :: 21 :: 4 :: 28 :: 182 :: 0 :: 69 :: 29 :: 160 :: 0 :: 6 :: 21 :: 4 :: 172 :: 132 :: 4 :: 1 :: 167 :: 255 :: 220 :: sxX10_nextStop_49 := aq_24 shX10_nextStop_0
theorem shX10_nextStop_49 : cX10_nextStop.data.toList.drop 49 = 2 :: 172 :: sxX10_nextStop_51 := aq_25 shX10_nextStop_24
noncomputable def sxX10_kitchenInRow_80 : List UInt8 := []
noncomputable def sxX10_kitchenInRow_75 : List UInt8 := 29 :: 184 :: 0 :: 54 :: 172 :: sxX10_kitchenInRow_80
noncomputable def sxX10_kitchenInRow_50 : List UInt8 := 4 :: 29 :: 120 :: 2 :: 130 :: 126 :: 61 :: 132 :: 4 :: 1 :: 167 :: 255 :: 224 :: 29 :: 156 :: 0 :: 7 :: 2 :: 167 :: 0 :: 11 :: 42 :: 180 :: 0 :: 9 :: sxX10_kitchenInRow_75
noncomputable def sxX10_kitchenInRow_24 : List UInt8 := 62 :: 3 :: 54 :: 4 :: 21 :: 4 :: 27 :: 163 :: 0 :: 32 :: 42 :: 29 :: 28 :: 182 :: 0 :: 76 :: 62 :: 28 :: 29 :: 156 :: 0 :: 7 :: 3 :: 167 :: 0 :: 8 :: sxX10_kitchenInRow_50
theorem shX10_kitchenInRow_0 : cX10_kitchenInRow.data.toList.drop 0 = 27 :: 155 :: 0 :: 11 :: 27 :: 42 :: 180 :: 0 :: 36 :: 161 :: 0 :: 5 :: 2 :: 172 :: 4 :: 42 :: 180 :: 0 :: 36 :: 120 :: 4 :: 100 :: 61 :: 2 :: sxX10_kitchenInRow_24 := rfl
theorem shX10_kitchenInRow_24 : cX10_kitchenInRow.data.toList.drop 24 = 62 :: 3 :: 54 :: 4 :: 21 :: 4 :: 27 :: 163 :: 0 :: 32 :: 42 :: 29 :: 28 :: 182 :: 0 :: 76 :: 62 :: 28 :: 29 :: 156 :: 0 :: 7 :: 3 :: 167 :: 0 :: 8 :: sxX10_kitchenInRow_50 := aq_24 shX10_kitchenInRow_0
theorem shX10_kitchenInRow_50 : cX10_kitchenInRow.data.toList.drop 50 = 4 :: 29 :: 120 :: 2 :: 130 :: 126 :: 61 :: 132 :: 4 :: 1 :: 167 :: 255 :: 224 :: 29 :: 156 :: 0 :: 7 :: 2 :: 167 :: 0 :: 11 :: 42 :: 180 :: 0 :: 9 :: sxX10_kitchenInRow_75 := aq_26 shX10_kitchenInRow_24
theorem shX10_kitchenInRow_75 : cX10_kitchenInRow.data.toList.drop 75 = 29 :: 184 :: 0 :: 54 :: 172 :: sxX10_kitchenInRow_80 := aq_25 shX10_kitchenInRow_50
noncomputable def sxX11_startTrial_73 : List UInt8 := []
noncomputable def sxX11_startTrial_51 : List UInt8 := 4 :: 167 :: 0 :: 4 :: 3 :: 61 :: 132 :: 3 :: 1 :: 167 :: 255 :: 200 :: 28 :: 154 :: 0 :: 7 :: 4 :: 167 :: 0 :: 4 :: 3 :: 172 :: sxX11_startTrial_73
noncomputable def sxX11_startTrial_26 : List UInt8 := 58 :: 4 :: 25 :: 4 :: 25 :: 4 :: 180 :: 0 :: 118 :: 181 :: 1 :: 7 :: 28 :: 154 :: 0 :: 12 :: 25 :: 4 :: 180 :: 0 :: 118 :: 27 :: 164 :: 0 :: 7 :: sxX11_startTrial_51
theorem shX11_startTrial_0 : cX11_startTrial.data.toList.drop 0 = 3 :: 61 :: 3 :: 62 :: 29 :: 42 :: 180 :: 0 :: 61 :: 182 :: 0 :: 84 :: 162 :: 0 :: 51 :: 42 :: 180 :: 0 :: 61 :: 29 :: 182 :: 0 :: 87 :: 192 :: 0 :: 91 :: sxX11_startTrial_26 := rfl
theorem shX11_startTrial_26 : cX11_startTrial.data.toList.drop 26 = 58 :: 4 :: 25 :: 4 :: 25 :: 4 :: 180 :: 0 :: 118 :: 181 :: 1 :: 7 :: 28 :: 154 :: 0 :: 12 :: 25 :: 4 :: 180 :: 0 :: 118 :: 27 :: 164 :: 0 :: 7 :: sxX11_startTrial_51 := aq_26 shX11_startTrial_0
theorem shX11_startTrial_51 : cX11_startTrial.data.toList.drop 51 = 4 :: 167 :: 0 :: 4 :: 3 :: 61 :: 132 :: 3 :: 1 :: 167 :: 255 :: 200 :: 28 :: 154 :: 0 :: 7 :: 4 :: 167 :: 0 :: 4 :: 3 :: 172 :: sxX11_startTrial_73 := aq_25 shX11_startTrial_26
noncomputable def sxX11_gatherStops_99 : List UInt8 := []
noncomputable def sxX11_gatherStops_75 : List UInt8 := 21 :: 4 :: 25 :: 5 :: 21 :: 6 :: 182 :: 1 :: 14 :: 132 :: 4 :: 1 :: 167 :: 255 :: 179 :: 42 :: 180 :: 0 :: 54 :: 182 :: 1 :: 17 :: 4 :: 172 :: sxX11_gatherStops_99
noncomputable def sxX11_gatherStops_51 : List UInt8 := 28 :: 162 :: 0 :: 6 :: 167 :: 0 :: 29 :: 42 :: 180 :: 0 :: 54 :: 180 :: 1 :: 11 :: 29 :: 161 :: 0 :: 5 :: 3 :: 172 :: 42 :: 180 :: 0 :: 54 :: sxX11_gatherStops_75
noncomputable def sxX11_gatherStops_26 : List UInt8 := 21 :: 4 :: 182 :: 0 :: 87 :: 192 :: 0 :: 91 :: 58 :: 5 :: 25 :: 5 :: 27 :: 25 :: 5 :: 180 :: 1 :: 7 :: 182 :: 0 :: 121 :: 54 :: 6 :: 21 :: 6 :: sxX11_gatherStops_51
theorem shX11_gatherStops_0 : cX11_gatherStops.data.toList.drop 0 = 42 :: 180 :: 0 :: 54 :: 182 :: 1 :: 10 :: 3 :: 54 :: 4 :: 21 :: 4 :: 42 :: 180 :: 0 :: 61 :: 182 :: 0 :: 84 :: 162 :: 0 :: 71 :: 42 :: 180 :: 0 :: 61 :: sxX11_gatherStops_26 := rfl
theorem shX11_gatherStops_26 : cX11_gatherStops.data.toList.drop 26 = 21 :: 4 :: 182 :: 0 :: 87 :: 192 :: 0 :: 91 :: 58 :: 5 :: 25 :: 5 :: 27 :: 25 :: 5 :: 180 :: 1 :: 7 :: 182 :: 0 :: 121 :: 54 :: 6 :: 21 :: 6 :: sxX11_gatherStops_51 := aq_26 shX11_gatherStops_0
theorem shX11_gatherStops_51 : cX11_gatherStops.data.toList.drop 51 = 28 :: 162 :: 0 :: 6 :: 167 :: 0 :: 29 :: 42 :: 180 :: 0 :: 54 :: 180 :: 1 :: 11 :: 29 :: 161 :: 0 :: 5 :: 3 :: 172 :: 42 :: 180 :: 0 :: 54 :: sxX11_gatherStops_75 := aq_25 shX11_gatherStops_26
theorem shX11_gatherStops_75 : cX11_gatherStops.data.toList.drop 75 = 21 :: 4 :: 25 :: 5 :: 21 :: 6 :: 182 :: 1 :: 14 :: 132 :: 4 :: 1 :: 167 :: 255 :: 179 :: 42 :: 180 :: 0 :: 54 :: 182 :: 1 :: 17 :: 4 :: 172 :: sxX11_gatherStops_99 := aq_24 shX11_gatherStops_51
noncomputable def sxX11_round_66 : List UInt8 := []
noncomputable def sxX11_round_51 : List UInt8 := 182 :: 1 :: 26 :: 167 :: 0 :: 11 :: 42 :: 180 :: 0 :: 54 :: 29 :: 182 :: 1 :: 29 :: 172 :: sxX11_round_66
noncomputable def sxX11_round_25 : List UInt8 := 153 :: 0 :: 14 :: 42 :: 27 :: 28 :: 16 :: 8 :: 182 :: 1 :: 23 :: 154 :: 0 :: 6 :: 16 :: 254 :: 172 :: 29 :: 2 :: 160 :: 0 :: 13 :: 42 :: 180 :: 0 :: 54 :: sxX11_round_51
theorem shX11_round_0 : cX11_round.data.toList.drop 0 = 27 :: 184 :: 0 :: 99 :: 153 :: 0 :: 14 :: 28 :: 4 :: 17 :: 1 :: 144 :: 184 :: 0 :: 80 :: 154 :: 0 :: 5 :: 2 :: 172 :: 42 :: 27 :: 182 :: 1 :: 20 :: sxX11_round_25 := rfl
theorem shX11_round_25 : cX11_round.data.toList.drop 25 = 153 :: 0 :: 14 :: 42 :: 27 :: 28 :: 16 :: 8 :: 182 :: 1 :: 23 :: 154 :: 0 :: 6 :: 16 :: 254 :: 172 :: 29 :: 2 :: 160 :: 0 :: 13 :: 42 :: 180 :: 0 :: 54 :: sxX11_round_51 := aq_25 shX11_round_0
theorem shX11_round_51 : cX11_round.data.toList.drop 51 = 182 :: 1 :: 26 :: 167 :: 0 :: 11 :: 42 :: 180 :: 0 :: 54 :: 29 :: 182 :: 1 :: 29 :: 172 :: sxX11_round_66 := aq_26 shX11_round_25
noncomputable def sxX11_emptyStops_65 : List UInt8 := []
noncomputable def sxX11_emptyStops_48 : List UInt8 := 198 :: 0 :: 9 :: 25 :: 4 :: 27 :: 181 :: 1 :: 7 :: 132 :: 3 :: 1 :: 167 :: 255 :: 200 :: 28 :: 172 :: sxX11_emptyStops_65
noncomputable def sxX11_emptyStops_24 : List UInt8 := 184 :: 0 :: 192 :: 182 :: 0 :: 114 :: 58 :: 4 :: 28 :: 42 :: 180 :: 0 :: 54 :: 180 :: 1 :: 52 :: 29 :: 184 :: 0 :: 192 :: 96 :: 61 :: 25 :: 4 :: sxX11_emptyStops_48
theorem shX11_emptyStops_0 : cX11_emptyStops.data.toList.drop 0 = 3 :: 61 :: 3 :: 62 :: 29 :: 42 :: 180 :: 0 :: 54 :: 180 :: 1 :: 11 :: 162 :: 0 :: 51 :: 42 :: 42 :: 180 :: 0 :: 54 :: 180 :: 1 :: 50 :: 29 :: sxX11_emptyStops_24 := rfl
theorem shX11_emptyStops_24 : cX11_emptyStops.data.toList.drop 24 = 184 :: 0 :: 192 :: 182 :: 0 :: 114 :: 58 :: 4 :: 28 :: 42 :: 180 :: 0 :: 54 :: 180 :: 1 :: 52 :: 29 :: 184 :: 0 :: 192 :: 96 :: 61 :: 25 :: 4 :: sxX11_emptyStops_48 := aq_24 shX11_emptyStops_0
theorem shX11_emptyStops_48 : cX11_emptyStops.data.toList.drop 48 = 198 :: 0 :: 9 :: 25 :: 4 :: 27 :: 181 :: 1 :: 7 :: 132 :: 3 :: 1 :: 167 :: 255 :: 200 :: 28 :: 172 :: sxX11_emptyStops_65 := aq_24 shX11_emptyStops_24
noncomputable def sxX11_nights_146 : List UInt8 := []
noncomputable def sxX11_nights_122 : List UInt8 := 21 :: 7 :: 167 :: 0 :: 10 :: 42 :: 180 :: 0 :: 54 :: 180 :: 1 :: 11 :: 96 :: 54 :: 5 :: 132 :: 6 :: 1 :: 167 :: 255 :: 184 :: 21 :: 5 :: 172 :: sxX11_nights_146
noncomputable def sxX11_nights_97 : List UInt8 := 54 :: 7 :: 21 :: 5 :: 21 :: 4 :: 154 :: 0 :: 13 :: 42 :: 180 :: 0 :: 54 :: 182 :: 1 :: 26 :: 167 :: 0 :: 21 :: 21 :: 4 :: 4 :: 160 :: 0 :: 8 :: sxX11_nights_122
noncomputable def sxX11_nights_73 : List UInt8 := 162 :: 0 :: 70 :: 42 :: 21 :: 6 :: 29 :: 16 :: 8 :: 182 :: 1 :: 23 :: 154 :: 0 :: 6 :: 16 :: 254 :: 172 :: 42 :: 21 :: 6 :: 182 :: 1 :: 47 :: sxX11_nights_97
noncomputable def sxX11_nights_49 : List UInt8 := 2 :: 172 :: 42 :: 27 :: 182 :: 1 :: 20 :: 154 :: 0 :: 6 :: 16 :: 254 :: 172 :: 3 :: 54 :: 5 :: 27 :: 54 :: 6 :: 21 :: 6 :: 27 :: 28 :: 96 :: sxX11_nights_73
noncomputable def sxX11_nights_25 : List UInt8 := 153 :: 0 :: 24 :: 29 :: 4 :: 17 :: 1 :: 144 :: 184 :: 0 :: 80 :: 153 :: 0 :: 13 :: 21 :: 4 :: 3 :: 5 :: 184 :: 0 :: 80 :: 154 :: 0 :: 5 :: sxX11_nights_49
theorem shX11_nights_0 : cX11_nights.data.toList.drop 0 = 27 :: 184 :: 0 :: 99 :: 153 :: 0 :: 45 :: 28 :: 4 :: 16 :: 7 :: 184 :: 0 :: 80 :: 153 :: 0 :: 35 :: 27 :: 28 :: 96 :: 4 :: 100 :: 184 :: 0 :: 99 :: sxX11_nights_25 := rfl
theorem shX11_nights_25 : cX11_nights.data.toList.drop 25 = 153 :: 0 :: 24 :: 29 :: 4 :: 17 :: 1 :: 144 :: 184 :: 0 :: 80 :: 153 :: 0 :: 13 :: 21 :: 4 :: 3 :: 5 :: 184 :: 0 :: 80 :: 154 :: 0 :: 5 :: sxX11_nights_49 := aq_25 shX11_nights_0
theorem shX11_nights_49 : cX11_nights.data.toList.drop 49 = 2 :: 172 :: 42 :: 27 :: 182 :: 1 :: 20 :: 154 :: 0 :: 6 :: 16 :: 254 :: 172 :: 3 :: 54 :: 5 :: 27 :: 54 :: 6 :: 21 :: 6 :: 27 :: 28 :: 96 :: sxX11_nights_73 := aq_24 shX11_nights_25
theorem shX11_nights_73 : cX11_nights.data.toList.drop 73 = 162 :: 0 :: 70 :: 42 :: 21 :: 6 :: 29 :: 16 :: 8 :: 182 :: 1 :: 23 :: 154 :: 0 :: 6 :: 16 :: 254 :: 172 :: 42 :: 21 :: 6 :: 182 :: 1 :: 47 :: sxX11_nights_97 := aq_24 shX11_nights_49
theorem shX11_nights_97 : cX11_nights.data.toList.drop 97 = 54 :: 7 :: 21 :: 5 :: 21 :: 4 :: 154 :: 0 :: 13 :: 42 :: 180 :: 0 :: 54 :: 182 :: 1 :: 26 :: 167 :: 0 :: 21 :: 21 :: 4 :: 4 :: 160 :: 0 :: 8 :: sxX11_nights_122 := aq_24 shX11_nights_73
theorem shX11_nights_122 : cX11_nights.data.toList.drop 122 = 21 :: 7 :: 167 :: 0 :: 10 :: 42 :: 180 :: 0 :: 54 :: 180 :: 1 :: 11 :: 96 :: 54 :: 5 :: 132 :: 6 :: 1 :: 167 :: 255 :: 184 :: 21 :: 5 :: 172 :: sxX11_nights_146 := aq_25 shX11_nights_97
theorem dX11_nights_49 : decode cX11_nights 49 = .ok (.iconst (-1), 1) := oc_2 49 shX11_nights_49
theorem dX11_nights_50 : decode cX11_nights 50 = .ok (.ireturn, 1) := oc_172 50 (aq_1 shX11_nights_49)
noncomputable def sxX11_drivenLength_87 : List UInt8 := []
noncomputable def sxX11_drivenLength_76 : List UInt8 := 28 :: 29 :: 21 :: 4 :: 3 :: 3 :: 184 :: 1 :: 43 :: 96 :: 172 :: sxX11_drivenLength_87
noncomputable def sxX11_drivenLength_52 : List UInt8 := 184 :: 1 :: 43 :: 96 :: 61 :: 25 :: 6 :: 180 :: 1 :: 37 :: 62 :: 25 :: 6 :: 180 :: 1 :: 40 :: 54 :: 4 :: 132 :: 5 :: 1 :: 167 :: 255 :: 193 :: sxX11_drivenLength_76
noncomputable def sxX11_drivenLength_26 : List UInt8 := 182 :: 0 :: 114 :: 58 :: 6 :: 25 :: 6 :: 199 :: 0 :: 5 :: 2 :: 172 :: 28 :: 29 :: 21 :: 4 :: 25 :: 6 :: 180 :: 1 :: 37 :: 25 :: 6 :: 180 :: 1 :: 40 :: sxX11_drivenLength_52
theorem shX11_drivenLength_0 : cX11_drivenLength.data.toList.drop 0 = 3 :: 61 :: 3 :: 62 :: 3 :: 54 :: 4 :: 3 :: 54 :: 5 :: 21 :: 5 :: 27 :: 162 :: 0 :: 63 :: 42 :: 42 :: 180 :: 0 :: 21 :: 21 :: 5 :: 182 :: 1 :: 35 :: sxX11_drivenLength_26 := rfl
theorem shX11_drivenLength_26 : cX11_drivenLength.data.toList.drop 26 = 182 :: 0 :: 114 :: 58 :: 6 :: 25 :: 6 :: 199 :: 0 :: 5 :: 2 :: 172 :: 28 :: 29 :: 21 :: 4 :: 25 :: 6 :: 180 :: 1 :: 37 :: 25 :: 6 :: 180 :: 1 :: 40 :: sxX11_drivenLength_52 := aq_26 shX11_drivenLength_0
theorem shX11_drivenLength_52 : cX11_drivenLength.data.toList.drop 52 = 184 :: 1 :: 43 :: 96 :: 61 :: 25 :: 6 :: 180 :: 1 :: 37 :: 62 :: 25 :: 6 :: 180 :: 1 :: 40 :: 54 :: 4 :: 132 :: 5 :: 1 :: 167 :: 255 :: 193 :: sxX11_drivenLength_76 := aq_26 shX11_drivenLength_26
theorem shX11_drivenLength_76 : cX11_drivenLength.data.toList.drop 76 = 28 :: 29 :: 21 :: 4 :: 3 :: 3 :: 184 :: 1 :: 43 :: 96 :: 172 :: sxX11_drivenLength_87 := aq_24 shX11_drivenLength_52
noncomputable def sxX11_driven_38 : List UInt8 := []
noncomputable def sxX11_driven_24 : List UInt8 := 27 :: 182 :: 1 :: 32 :: 61 :: 42 :: 180 :: 0 :: 21 :: 182 :: 0 :: 162 :: 28 :: 172 :: sxX11_driven_38
theorem shX11_driven_0 : cX11_driven.data.toList.drop 0 = 27 :: 3 :: 16 :: 20 :: 184 :: 0 :: 80 :: 153 :: 0 :: 14 :: 27 :: 42 :: 180 :: 0 :: 21 :: 182 :: 0 :: 152 :: 164 :: 0 :: 5 :: 2 :: 172 :: 42 :: sxX11_driven_24 := rfl
theorem shX11_driven_24 : cX11_driven.data.toList.drop 24 = 27 :: 182 :: 1 :: 32 :: 61 :: 42 :: 180 :: 0 :: 21 :: 182 :: 0 :: 162 :: 28 :: 172 :: sxX11_driven_38 := aq_24 shX11_driven_0
set_option maxRecDepth 100000 in
set_option maxHeartbeats 4000000 in
theorem q_XkitchenAt (l : Launch) (D : va_G) (cI cB cZ : ClassId) (zz qq vv : Nat) (bt : Nat → Int32) (g : Nat → Nat) (ad : Nat → Nat → Nat) (cn : Nat → Nat) (In : Nat → Int32) (Fn : Nat → Nat → Int32) (v0 : Int32) (hB : CBX cn) : Met l yX11_kitchenAt (CWS yX11_kitchenAt cX11_kitchenAt 2 (some (.object "OilHome$Kitchen"))) (RM 3 0 0) (PBrx [.ref (g 0), .int v0] D cI cB cZ zz qq vv bt (wX cI (D.1 99) zz g ad cn In Fn)) (va_Sq (fun r => (∃ m : Nat, v0.toInt = (m : Int) ∧ m < cn 10 ∧ r = some (ad 10 m)) ∨ (¬ (0 ≤ v0.toInt ∧ v0.toInt < (cn 10 : Int)) ∧ r = none))) 0 0 (fun _ => False) := by
  refine en_rx rfl pn_RX11 (Nat.le_of_ble_eq_true rfl) (fun p e s m below meth c hx hb hml hown S hr hlocks hnm hP hK hXS hS ls hl => ?_)
  have hl : lv_has ls 2 [(0, .ref (g 0)), (1, .int v0)] := hl
  have hb_cn : Hid (CBX cn) := hB
  replace hB : CBXh cn := hB
  refine lv_iload_n hx hb (oc_27 0 shX11_kitchenAt_0) rfl (lvA1 hl) ?_
  refine lv_if_lt (tgt := 15) hx hb (oc_155 1 (aq_1 shX11_kitchenAt_0) sgw_0_14) rfl (fun c_1 => ?_) (fun c_1 => ?_)
  ·
    have tc_1 : (v0.toInt : Int) < 0 := Int32.lt_iff_toInt_lt.mp c_1
    refine lv_null hx hb (oc_1 15 (aq_15 shX11_kitchenAt_0)) ?_
    refine lv_goto (tgt := 30) hx hb (oc_167 16 (aq_16 shX11_kitchenAt_0) sgw_0_14) rfl ?_
    exact W.aret (v := .null) hx hb hr (Or.inl ⟨_, rfl⟩) (Or.inl rfl) (fun t ht hW => ⟨none, rfl, (Or.inr ⟨by (first | omega | (have zz0 := Hid.u hb_cn; omega)), rfl⟩), ht⟩) (fun _ h => absurd h List.not_mem_nil) (oc_176 30 (aq_6 shX11_kitchenAt_24))
  ·
    have tc_1 : (0 : Int) ≤ v0.toInt := Int32.le_iff_toInt_le.mp (Int32.not_lt.mp c_1)
    refine lv_iload_n hx hb (oc_27 4 (aq_4 shX11_kitchenAt_0)) rfl (lvA1 hl) ?_
    refine lv_aload_n hx hb (oc_42 5 (aq_5 shX11_kitchenAt_0)) rfl (lvA0 hl) ?_
    refine gf_RX11_61 S hK hP 0 xo_0 (v := .ref (g 10)) rfl (oc_180 6 (aq_6 shX11_kitchenAt_0) uw_0_61) ?_
    refine vp_callSi (runV_r (As := []) (rest := [.int v0]) S (q_l_size l D cI cB cZ (g 10) (if (cn 10) = 0 then zz else ad 2 0) (In 10) (nI (cn 10))) kV_RX11_84 hK hP [24] (one_is xo_24) 24 xo_24 rfl rfl ⟨Nat.le_of_ble_eq_true rfl, Nat.le_of_ble_eq_true rfl⟩ ⟨Nat.le_of_ble_eq_true rfl, Nat.le_of_ble_eq_true rfl⟩ rfl hl.1 rfl (Nat.le_of_ble_eq_true rfl) (oc_182 9 (aq_9 shX11_kitchenAt_0) uw_0_84)) (fun r_2 h_3 => ?_)
    subst h_3
    have : (nI (cn 10)).toInt = (((cn 10) : Nat) : Int) := nI_toInt (by (first | omega | (have zz0 := Hid.u hb_cn; omega)))
    refine lv_icmp_lt (tgt := 19) hx hb (oc_161 12 (aq_12 shX11_kitchenAt_0) sgw_0_7) rfl (fun c_4 => ?_) (fun c_4 => ?_)
    ·
      have tc_4 : (v0.toInt : Int) < (nI (cn 10)).toInt := Int32.lt_iff_toInt_lt.mp c_4
      obtain ⟨d0, hd0, rfl⟩ := nI_of (x := v0) (fun q => by have := Int32.lt_iff_toInt_lt.mp q; have e : (0 : Int32).toInt = 0 := rfl; (first | omega | (have zz0 := Hid.u hb_cn; omega)))
      have td0 : (nI d0).toInt = (d0 : Int) := nI_toInt hd0
      have zd0 : (nI d0).toInt.toNat = d0 := by (first | omega | (have zz0 := Hid.u hb_cn; omega))
      refine lv_aload_n hx hb (oc_42 19 (aq_19 shX11_kitchenAt_0)) rfl (lvA0 hl) ?_
      refine gf_RX11_61 S hK hP 0 xo_0 (v := .ref (g 10)) rfl (oc_180 20 (aq_20 shX11_kitchenAt_0) uw_0_61) ?_
      refine lv_iload_n hx hb (oc_27 23 (aq_23 shX11_kitchenAt_0)) rfl (lvA1 hl) ?_
      refine va_csq (runV_rx (As := [.int (nI d0)]) (rest := []) S (q_l_get l D cI cB cZ zz qq vv bt (g 10) (ad 2 0) (cn 20) (cn 10) d0 (ad 10 d0) (In 10) (fun i => if i < (cn 10) then some (ad 10 i) else none) (by (first | omega | (have zz0 := Hid.u hb_cn; omega))) (if_pos (by (first | omega | (have zz0 := Hid.u hb_cn; omega)))) (by (first | omega | (have zz0 := Hid.u hb_cn; omega))) (by (first | omega | (have zz0 := Hid.u hb_cn; omega)))) kV_RX11_87 hK hXS hS hP _ (two_is (xl_0 (by (first | omega | (have zz0 := Hid.u hb_cn; omega)))) (xf_13 (k := 0) (by (first | omega | (have zz0 := Hid.u hb_cn; omega))))) (va_recv hK.1 hP (ci := 0) rfl xo_24) ⟨Nat.le_of_ble_eq_true rfl, Nat.le_of_ble_eq_true rfl⟩ ⟨Nat.le_of_ble_eq_true rfl, Nat.le_of_ble_eq_true rfl⟩ rfl hl.1 rfl (Nat.le_of_ble_eq_true rfl) (oc_182 24 shX11_kitchenAt_24 uw_0_87)) (fun r_5 h_6 => ?_)
      subst h_6
      have kf_1 : d0 < cn 10 := by (first | omega | (have zz0 := Hid.u hb_cn; omega))
      refine va_castS hx hb hown (S.2.2.2.2 _ (wk2_5 3 rfl rfl)) (xclass hK.1 (ci := 2) rfl) (va_recv hK.1 hP (ci := 2) rfl (xf_0 kf_1)) (oc_192 27 (aq_3 shX11_kitchenAt_24) uw_0_91) ?_
      exact W.aret (v := .ref (ad 10 d0)) hx hb hr (Or.inl ⟨_, rfl⟩) (Or.inr ⟨_, rfl⟩) (fun t ht hW => ⟨some (ad 10 d0), rfl, (Or.inl ⟨d0, by (first | omega | (have zz0 := Hid.u hb_cn; omega)), by (first | omega | (have zz0 := Hid.u hb_cn; omega)), rfl⟩), ht⟩) (fun _ h => absurd h List.not_mem_nil) (oc_176 30 (aq_6 shX11_kitchenAt_24))
    ·
      have tc_4 : ((nI (cn 10)).toInt : Int) ≤ v0.toInt := Int32.le_iff_toInt_le.mp (Int32.not_lt.mp c_4)
      refine lv_null hx hb (oc_1 15 (aq_15 shX11_kitchenAt_0)) ?_
      refine lv_goto (tgt := 30) hx hb (oc_167 16 (aq_16 shX11_kitchenAt_0) sgw_0_14) rfl ?_
      exact W.aret (v := .null) hx hb hr (Or.inl ⟨_, rfl⟩) (Or.inl rfl) (fun t ht hW => ⟨none, rfl, (Or.inr ⟨by (first | omega | (have zz0 := Hid.u hb_cn; omega)), rfl⟩), ht⟩) (fun _ h => absurd h List.not_mem_nil) (oc_176 30 (aq_6 shX11_kitchenAt_24))
set_option maxRecDepth 100000 in
set_option maxHeartbeats 4000000 in
theorem q_XloadAt (l : Launch) (D : va_G) (cI cB cZ : ClassId) (zz qq vv : Nat) (bt : Nat → Int32) (g : Nat → Nat) (ad : Nat → Nat → Nat) (cn : Nat → Nat) (In : Nat → Int32) (Fn : Nat → Nat → Int32) (v0 : Int32) (hB : CBX cn) : Met l yX11_loadAt (CWS yX11_loadAt cX11_loadAt 2 (some (.object "OilHome$Load"))) (RM 3 0 0) (PBrx [.ref (g 0), .int v0] D cI cB cZ zz qq vv bt (wX cI (D.1 99) zz g ad cn In Fn)) (va_Sq (fun r => (∃ m : Nat, v0.toInt = (m : Int) ∧ m < cn 11 ∧ r = some (ad 11 m)) ∨ (¬ (0 ≤ v0.toInt ∧ v0.toInt < (cn 11 : Int)) ∧ r = none))) 0 0 (fun _ => False) := by
  refine en_rx rfl pn_RX11 (Nat.le_of_ble_eq_true rfl) (fun p e s m below meth c hx hb hml hown S hr hlocks hnm hP hK hXS hS ls hl => ?_)
  have hl : lv_has ls 2 [(0, .ref (g 0)), (1, .int v0)] := hl
  have hb_cn : Hid (CBX cn) := hB
  replace hB : CBXh cn := hB
  refine lv_iload_n hx hb (oc_27 0 shX11_loadAt_0) rfl (lvA1 hl) ?_
  refine lv_if_lt (tgt := 15) hx hb (oc_155 1 (aq_1 shX11_loadAt_0) sgw_0_14) rfl (fun c_1 => ?_) (fun c_1 => ?_)
  ·
    have tc_1 : (v0.toInt : Int) < 0 := Int32.lt_iff_toInt_lt.mp c_1
    refine lv_null hx hb (oc_1 15 (aq_15 shX11_loadAt_0)) ?_
    refine lv_goto (tgt := 30) hx hb (oc_167 16 (aq_16 shX11_loadAt_0) sgw_0_14) rfl ?_
    exact W.aret (v := .null) hx hb hr (Or.inl ⟨_, rfl⟩) (Or.inl rfl) (fun t ht hW => ⟨none, rfl, (Or.inr ⟨by (first | omega | (have zz0 := Hid.u hb_cn; omega)), rfl⟩), ht⟩) (fun _ h => absurd h List.not_mem_nil) (oc_176 30 (aq_6 shX11_loadAt_24))
  ·
    have tc_1 : (0 : Int) ≤ v0.toInt := Int32.le_iff_toInt_le.mp (Int32.not_lt.mp c_1)
    refine lv_iload_n hx hb (oc_27 4 (aq_4 shX11_loadAt_0)) rfl (lvA1 hl) ?_
    refine lv_aload_n hx hb (oc_42 5 (aq_5 shX11_loadAt_0)) rfl (lvA0 hl) ?_
    refine gf_RX11_65 S hK hP 0 xo_0 (v := .ref (g 11)) rfl (oc_180 6 (aq_6 shX11_loadAt_0) uw_0_65) ?_
    refine vp_callSi (runV_r (As := []) (rest := [.int v0]) S (q_l_size l D cI cB cZ (g 11) (if (cn 11) = 0 then zz else ad 2 1) (In 11) (nI (cn 11))) kV_RX11_84 hK hP [25] (one_is xo_25) 25 xo_25 rfl rfl ⟨Nat.le_of_ble_eq_true rfl, Nat.le_of_ble_eq_true rfl⟩ ⟨Nat.le_of_ble_eq_true rfl, Nat.le_of_ble_eq_true rfl⟩ rfl hl.1 rfl (Nat.le_of_ble_eq_true rfl) (oc_182 9 (aq_9 shX11_loadAt_0) uw_0_84)) (fun r_2 h_3 => ?_)
    subst h_3
    have : (nI (cn 11)).toInt = (((cn 11) : Nat) : Int) := nI_toInt (by (first | omega | (have zz0 := Hid.u hb_cn; omega)))
    refine lv_icmp_lt (tgt := 19) hx hb (oc_161 12 (aq_12 shX11_loadAt_0) sgw_0_7) rfl (fun c_4 => ?_) (fun c_4 => ?_)
    ·
      have tc_4 : (v0.toInt : Int) < (nI (cn 11)).toInt := Int32.lt_iff_toInt_lt.mp c_4
      obtain ⟨d0, hd0, rfl⟩ := nI_of (x := v0) (fun q => by have := Int32.lt_iff_toInt_lt.mp q; have e : (0 : Int32).toInt = 0 := rfl; (first | omega | (have zz0 := Hid.u hb_cn; omega)))
      have td0 : (nI d0).toInt = (d0 : Int) := nI_toInt hd0
      have zd0 : (nI d0).toInt.toNat = d0 := by (first | omega | (have zz0 := Hid.u hb_cn; omega))
      refine lv_aload_n hx hb (oc_42 19 (aq_19 shX11_loadAt_0)) rfl (lvA0 hl) ?_
      refine gf_RX11_65 S hK hP 0 xo_0 (v := .ref (g 11)) rfl (oc_180 20 (aq_20 shX11_loadAt_0) uw_0_65) ?_
      refine lv_iload_n hx hb (oc_27 23 (aq_23 shX11_loadAt_0)) rfl (lvA1 hl) ?_
      refine va_csq (runV_rx (As := [.int (nI d0)]) (rest := []) S (q_l_get l D cI cB cZ zz qq vv bt (g 11) (ad 2 1) (cn 21) (cn 11) d0 (ad 11 d0) (In 11) (fun i => if i < (cn 11) then some (ad 11 i) else none) (by (first | omega | (have zz0 := Hid.u hb_cn; omega))) (if_pos (by (first | omega | (have zz0 := Hid.u hb_cn; omega)))) (by (first | omega | (have zz0 := Hid.u hb_cn; omega))) (by (first | omega | (have zz0 := Hid.u hb_cn; omega)))) kV_RX11_87 hK hXS hS hP _ (two_is (xl_1 (by (first | omega | (have zz0 := Hid.u hb_cn; omega)))) (xf_14 (k := 0) (by (first | omega | (have zz0 := Hid.u hb_cn; omega))))) (va_recv hK.1 hP (ci := 0) rfl xo_25) ⟨Nat.le_of_ble_eq_true rfl, Nat.le_of_ble_eq_true rfl⟩ ⟨Nat.le_of_ble_eq_true rfl, Nat.le_of_ble_eq_true rfl⟩ rfl hl.1 rfl (Nat.le_of_ble_eq_true rfl) (oc_182 24 shX11_loadAt_24 uw_0_87)) (fun r_5 h_6 => ?_)
      subst h_6
      have kf_1 : d0 < cn 11 := by (first | omega | (have zz0 := Hid.u hb_cn; omega))
      refine va_castS hx hb hown (S.2.2.2.2 _ (wk2_17 0 rfl rfl)) (xclass hK.1 (ci := 3) rfl) (va_recv hK.1 hP (ci := 3) rfl (xf_1 kf_1)) (oc_192 27 (aq_3 shX11_loadAt_24) uw_0_93) ?_
      exact W.aret (v := .ref (ad 11 d0)) hx hb hr (Or.inl ⟨_, rfl⟩) (Or.inr ⟨_, rfl⟩) (fun t ht hW => ⟨some (ad 11 d0), rfl, (Or.inl ⟨d0, by (first | omega | (have zz0 := Hid.u hb_cn; omega)), by (first | omega | (have zz0 := Hid.u hb_cn; omega)), rfl⟩), ht⟩) (fun _ h => absurd h List.not_mem_nil) (oc_176 30 (aq_6 shX11_loadAt_24))
    ·
      have tc_4 : ((nI (cn 11)).toInt : Int) ≤ v0.toInt := Int32.le_iff_toInt_le.mp (Int32.not_lt.mp c_4)
      refine lv_null hx hb (oc_1 15 (aq_15 shX11_loadAt_0)) ?_
      refine lv_goto (tgt := 30) hx hb (oc_167 16 (aq_16 shX11_loadAt_0) sgw_0_14) rfl ?_
      exact W.aret (v := .null) hx hb hr (Or.inl ⟨_, rfl⟩) (Or.inl rfl) (fun t ht hW => ⟨none, rfl, (Or.inr ⟨by (first | omega | (have zz0 := Hid.u hb_cn; omega)), rfl⟩), ht⟩) (fun _ h => absurd h List.not_mem_nil) (oc_176 30 (aq_6 shX11_loadAt_24))
set_option maxRecDepth 100000 in
set_option maxHeartbeats 4000000 in
theorem q_XbatchAt (l : Launch) (D : va_G) (cI cB cZ : ClassId) (zz qq vv : Nat) (bt : Nat → Int32) (g : Nat → Nat) (ad : Nat → Nat → Nat) (cn : Nat → Nat) (In : Nat → Int32) (Fn : Nat → Nat → Int32) (v0 : Int32) (hB : CBX cn) : Met l yX11_batchAt (CWS yX11_batchAt cX11_batchAt 2 (some (.object "OilHome$Batch"))) (RM 3 0 0) (PBrx [.ref (g 0), .int v0] D cI cB cZ zz qq vv bt (wX cI (D.1 99) zz g ad cn In Fn)) (va_Sq (fun r => (∃ m : Nat, v0.toInt = (m : Int) ∧ m < cn 12 ∧ r = some (ad 12 m)) ∨ (¬ (0 ≤ v0.toInt ∧ v0.toInt < (cn 12 : Int)) ∧ r = none))) 0 0 (fun _ => False) := by
  refine en_rx rfl pn_RX11 (Nat.le_of_ble_eq_true rfl) (fun p e s m below meth c hx hb hml hown S hr hlocks hnm hP hK hXS hS ls hl => ?_)
  have hl : lv_has ls 2 [(0, .ref (g 0)), (1, .int v0)] := hl
  have hb_cn : Hid (CBX cn) := hB
  replace hB : CBXh cn := hB
  refine lv_iload_n hx hb (oc_27 0 shX11_batchAt_0) rfl (lvA1 hl) ?_
  refine lv_if_lt (tgt := 15) hx hb (oc_155 1 (aq_1 shX11_batchAt_0) sgw_0_14) rfl (fun c_1 => ?_) (fun c_1 => ?_)
  ·
    have tc_1 : (v0.toInt : Int) < 0 := Int32.lt_iff_toInt_lt.mp c_1
    refine lv_null hx hb (oc_1 15 (aq_15 shX11_batchAt_0)) ?_
    refine lv_goto (tgt := 30) hx hb (oc_167 16 (aq_16 shX11_batchAt_0) sgw_0_14) rfl ?_
    exact W.aret (v := .null) hx hb hr (Or.inl ⟨_, rfl⟩) (Or.inl rfl) (fun t ht hW => ⟨none, rfl, (Or.inr ⟨by (first | omega | (have zz0 := Hid.u hb_cn; omega)), rfl⟩), ht⟩) (fun _ h => absurd h List.not_mem_nil) (oc_176 30 (aq_6 shX11_batchAt_24))
  ·
    have tc_1 : (0 : Int) ≤ v0.toInt := Int32.le_iff_toInt_le.mp (Int32.not_lt.mp c_1)
    refine lv_iload_n hx hb (oc_27 4 (aq_4 shX11_batchAt_0)) rfl (lvA1 hl) ?_
    refine lv_aload_n hx hb (oc_42 5 (aq_5 shX11_batchAt_0)) rfl (lvA0 hl) ?_
    refine gf_RX11_68 S hK hP 0 xo_0 (v := .ref (g 12)) rfl (oc_180 6 (aq_6 shX11_batchAt_0) uw_0_68) ?_
    refine vp_callSi (runV_r (As := []) (rest := [.int v0]) S (q_l_size l D cI cB cZ (g 12) (if (cn 12) = 0 then zz else ad 2 2) (In 12) (nI (cn 12))) kV_RX11_84 hK hP [26] (one_is xo_26) 26 xo_26 rfl rfl ⟨Nat.le_of_ble_eq_true rfl, Nat.le_of_ble_eq_true rfl⟩ ⟨Nat.le_of_ble_eq_true rfl, Nat.le_of_ble_eq_true rfl⟩ rfl hl.1 rfl (Nat.le_of_ble_eq_true rfl) (oc_182 9 (aq_9 shX11_batchAt_0) uw_0_84)) (fun r_2 h_3 => ?_)
    subst h_3
    have : (nI (cn 12)).toInt = (((cn 12) : Nat) : Int) := nI_toInt (by (first | omega | (have zz0 := Hid.u hb_cn; omega)))
    refine lv_icmp_lt (tgt := 19) hx hb (oc_161 12 (aq_12 shX11_batchAt_0) sgw_0_7) rfl (fun c_4 => ?_) (fun c_4 => ?_)
    ·
      have tc_4 : (v0.toInt : Int) < (nI (cn 12)).toInt := Int32.lt_iff_toInt_lt.mp c_4
      obtain ⟨d0, hd0, rfl⟩ := nI_of (x := v0) (fun q => by have := Int32.lt_iff_toInt_lt.mp q; have e : (0 : Int32).toInt = 0 := rfl; (first | omega | (have zz0 := Hid.u hb_cn; omega)))
      have td0 : (nI d0).toInt = (d0 : Int) := nI_toInt hd0
      have zd0 : (nI d0).toInt.toNat = d0 := by (first | omega | (have zz0 := Hid.u hb_cn; omega))
      refine lv_aload_n hx hb (oc_42 19 (aq_19 shX11_batchAt_0)) rfl (lvA0 hl) ?_
      refine gf_RX11_68 S hK hP 0 xo_0 (v := .ref (g 12)) rfl (oc_180 20 (aq_20 shX11_batchAt_0) uw_0_68) ?_
      refine lv_iload_n hx hb (oc_27 23 (aq_23 shX11_batchAt_0)) rfl (lvA1 hl) ?_
      refine va_csq (runV_rx (As := [.int (nI d0)]) (rest := []) S (q_l_get l D cI cB cZ zz qq vv bt (g 12) (ad 2 2) (cn 22) (cn 12) d0 (ad 12 d0) (In 12) (fun i => if i < (cn 12) then some (ad 12 i) else none) (by (first | omega | (have zz0 := Hid.u hb_cn; omega))) (if_pos (by (first | omega | (have zz0 := Hid.u hb_cn; omega)))) (by (first | omega | (have zz0 := Hid.u hb_cn; omega))) (by (first | omega | (have zz0 := Hid.u hb_cn; omega)))) kV_RX11_87 hK hXS hS hP _ (two_is (xl_2 (by (first | omega | (have zz0 := Hid.u hb_cn; omega)))) (xf_15 (k := 0) (by (first | omega | (have zz0 := Hid.u hb_cn; omega))))) (va_recv hK.1 hP (ci := 0) rfl xo_26) ⟨Nat.le_of_ble_eq_true rfl, Nat.le_of_ble_eq_true rfl⟩ ⟨Nat.le_of_ble_eq_true rfl, Nat.le_of_ble_eq_true rfl⟩ rfl hl.1 rfl (Nat.le_of_ble_eq_true rfl) (oc_182 24 shX11_batchAt_24 uw_0_87)) (fun r_5 h_6 => ?_)
      subst h_6
      have kf_1 : d0 < cn 12 := by (first | omega | (have zz0 := Hid.u hb_cn; omega))
      refine va_castS hx hb hown (S.2.2.2.2 _ (wk4_17 7 rfl rfl)) (xclass hK.1 (ci := 1) rfl) (va_recv hK.1 hP (ci := 1) rfl (xf_2 kf_1)) (oc_192 27 (aq_3 shX11_batchAt_24) uw_0_95) ?_
      exact W.aret (v := .ref (ad 12 d0)) hx hb hr (Or.inl ⟨_, rfl⟩) (Or.inr ⟨_, rfl⟩) (fun t ht hW => ⟨some (ad 12 d0), rfl, (Or.inl ⟨d0, by (first | omega | (have zz0 := Hid.u hb_cn; omega)), by (first | omega | (have zz0 := Hid.u hb_cn; omega)), rfl⟩), ht⟩) (fun _ h => absurd h List.not_mem_nil) (oc_176 30 (aq_6 shX11_batchAt_24))
    ·
      have tc_4 : ((nI (cn 12)).toInt : Int) ≤ v0.toInt := Int32.le_iff_toInt_le.mp (Int32.not_lt.mp c_4)
      refine lv_null hx hb (oc_1 15 (aq_15 shX11_batchAt_0)) ?_
      refine lv_goto (tgt := 30) hx hb (oc_167 16 (aq_16 shX11_batchAt_0) sgw_0_14) rfl ?_
      exact W.aret (v := .null) hx hb hr (Or.inl ⟨_, rfl⟩) (Or.inl rfl) (fun t ht hW => ⟨none, rfl, (Or.inr ⟨by (first | omega | (have zz0 := Hid.u hb_cn; omega)), rfl⟩), ht⟩) (fun _ h => absurd h List.not_mem_nil) (oc_176 30 (aq_6 shX11_batchAt_24))
set_option maxRecDepth 100000 in
set_option maxHeartbeats 4000000 in
theorem q_XproofAt (l : Launch) (D : va_G) (cI cB cZ : ClassId) (zz qq vv : Nat) (bt : Nat → Int32) (g : Nat → Nat) (ad : Nat → Nat → Nat) (cn : Nat → Nat) (In : Nat → Int32) (Fn : Nat → Nat → Int32) (v0 : Int32) (hB : CBX cn) : Met l yX11_proofAt (CWS yX11_proofAt cX11_proofAt 2 (some (.object "OilHome$Proof"))) (RM 3 0 0) (PBrx [.ref (g 0), .int v0] D cI cB cZ zz qq vv bt (wX cI (D.1 99) zz g ad cn In Fn)) (va_Sq (fun r => (∃ m : Nat, v0.toInt = (m : Int) ∧ m < cn 13 ∧ r = some (ad 13 m)) ∨ (¬ (0 ≤ v0.toInt ∧ v0.toInt < (cn 13 : Int)) ∧ r = none))) 0 0 (fun _ => False) := by
  refine en_rx rfl pn_RX11 (Nat.le_of_ble_eq_true rfl) (fun p e s m below meth c hx hb hml hown S hr hlocks hnm hP hK hXS hS ls hl => ?_)
  have hl : lv_has ls 2 [(0, .ref (g 0)), (1, .int v0)] := hl
  have hb_cn : Hid (CBX cn) := hB
  replace hB : CBXh cn := hB
  refine lv_iload_n hx hb (oc_27 0 shX11_proofAt_0) rfl (lvA1 hl) ?_
  refine lv_if_lt (tgt := 15) hx hb (oc_155 1 (aq_1 shX11_proofAt_0) sgw_0_14) rfl (fun c_1 => ?_) (fun c_1 => ?_)
  ·
    have tc_1 : (v0.toInt : Int) < 0 := Int32.lt_iff_toInt_lt.mp c_1
    refine lv_null hx hb (oc_1 15 (aq_15 shX11_proofAt_0)) ?_
    refine lv_goto (tgt := 30) hx hb (oc_167 16 (aq_16 shX11_proofAt_0) sgw_0_14) rfl ?_
    exact W.aret (v := .null) hx hb hr (Or.inl ⟨_, rfl⟩) (Or.inl rfl) (fun t ht hW => ⟨none, rfl, (Or.inr ⟨by (first | omega | (have zz0 := Hid.u hb_cn; omega)), rfl⟩), ht⟩) (fun _ h => absurd h List.not_mem_nil) (oc_176 30 (aq_6 shX11_proofAt_24))
  ·
    have tc_1 : (0 : Int) ≤ v0.toInt := Int32.le_iff_toInt_le.mp (Int32.not_lt.mp c_1)
    refine lv_iload_n hx hb (oc_27 4 (aq_4 shX11_proofAt_0)) rfl (lvA1 hl) ?_
    refine lv_aload_n hx hb (oc_42 5 (aq_5 shX11_proofAt_0)) rfl (lvA0 hl) ?_
    refine gf_RX11_71 S hK hP 0 xo_0 (v := .ref (g 13)) rfl (oc_180 6 (aq_6 shX11_proofAt_0) uw_0_71) ?_
    refine vp_callSi (runV_r (As := []) (rest := [.int v0]) S (q_l_size l D cI cB cZ (g 13) (if (cn 13) = 0 then zz else ad 2 3) (In 13) (nI (cn 13))) kV_RX11_84 hK hP [27] (one_is xo_27) 27 xo_27 rfl rfl ⟨Nat.le_of_ble_eq_true rfl, Nat.le_of_ble_eq_true rfl⟩ ⟨Nat.le_of_ble_eq_true rfl, Nat.le_of_ble_eq_true rfl⟩ rfl hl.1 rfl (Nat.le_of_ble_eq_true rfl) (oc_182 9 (aq_9 shX11_proofAt_0) uw_0_84)) (fun r_2 h_3 => ?_)
    subst h_3
    have : (nI (cn 13)).toInt = (((cn 13) : Nat) : Int) := nI_toInt (by (first | omega | (have zz0 := Hid.u hb_cn; omega)))
    refine lv_icmp_lt (tgt := 19) hx hb (oc_161 12 (aq_12 shX11_proofAt_0) sgw_0_7) rfl (fun c_4 => ?_) (fun c_4 => ?_)
    ·
      have tc_4 : (v0.toInt : Int) < (nI (cn 13)).toInt := Int32.lt_iff_toInt_lt.mp c_4
      obtain ⟨d0, hd0, rfl⟩ := nI_of (x := v0) (fun q => by have := Int32.lt_iff_toInt_lt.mp q; have e : (0 : Int32).toInt = 0 := rfl; (first | omega | (have zz0 := Hid.u hb_cn; omega)))
      have td0 : (nI d0).toInt = (d0 : Int) := nI_toInt hd0
      have zd0 : (nI d0).toInt.toNat = d0 := by (first | omega | (have zz0 := Hid.u hb_cn; omega))
      refine lv_aload_n hx hb (oc_42 19 (aq_19 shX11_proofAt_0)) rfl (lvA0 hl) ?_
      refine gf_RX11_71 S hK hP 0 xo_0 (v := .ref (g 13)) rfl (oc_180 20 (aq_20 shX11_proofAt_0) uw_0_71) ?_
      refine lv_iload_n hx hb (oc_27 23 (aq_23 shX11_proofAt_0)) rfl (lvA1 hl) ?_
      refine va_csq (runV_rx (As := [.int (nI d0)]) (rest := []) S (q_l_get l D cI cB cZ zz qq vv bt (g 13) (ad 2 3) (cn 23) (cn 13) d0 (ad 13 d0) (In 13) (fun i => if i < (cn 13) then some (ad 13 i) else none) (by (first | omega | (have zz0 := Hid.u hb_cn; omega))) (if_pos (by (first | omega | (have zz0 := Hid.u hb_cn; omega)))) (by (first | omega | (have zz0 := Hid.u hb_cn; omega))) (by (first | omega | (have zz0 := Hid.u hb_cn; omega)))) kV_RX11_87 hK hXS hS hP _ (two_is (xl_3 (by (first | omega | (have zz0 := Hid.u hb_cn; omega)))) (xf_16 (k := 0) (by (first | omega | (have zz0 := Hid.u hb_cn; omega))))) (va_recv hK.1 hP (ci := 0) rfl xo_27) ⟨Nat.le_of_ble_eq_true rfl, Nat.le_of_ble_eq_true rfl⟩ ⟨Nat.le_of_ble_eq_true rfl, Nat.le_of_ble_eq_true rfl⟩ rfl hl.1 rfl (Nat.le_of_ble_eq_true rfl) (oc_182 24 shX11_proofAt_24 uw_0_87)) (fun r_5 h_6 => ?_)
      subst h_6
      have kf_1 : d0 < cn 13 := by (first | omega | (have zz0 := Hid.u hb_cn; omega))
      refine va_castS hx hb hown (S.2.2.2.2 _ (wk5_4 7 rfl rfl)) (xclass hK.1 (ci := 5) rfl) (va_recv hK.1 hP (ci := 5) rfl (xf_3 kf_1)) (oc_192 27 (aq_3 shX11_proofAt_24) uw_0_97) ?_
      exact W.aret (v := .ref (ad 13 d0)) hx hb hr (Or.inl ⟨_, rfl⟩) (Or.inr ⟨_, rfl⟩) (fun t ht hW => ⟨some (ad 13 d0), rfl, (Or.inl ⟨d0, by (first | omega | (have zz0 := Hid.u hb_cn; omega)), by (first | omega | (have zz0 := Hid.u hb_cn; omega)), rfl⟩), ht⟩) (fun _ h => absurd h List.not_mem_nil) (oc_176 30 (aq_6 shX11_proofAt_24))
    ·
      have tc_4 : ((nI (cn 13)).toInt : Int) ≤ v0.toInt := Int32.le_iff_toInt_le.mp (Int32.not_lt.mp c_4)
      refine lv_null hx hb (oc_1 15 (aq_15 shX11_proofAt_0)) ?_
      refine lv_goto (tgt := 30) hx hb (oc_167 16 (aq_16 shX11_proofAt_0) sgw_0_14) rfl ?_
      exact W.aret (v := .null) hx hb hr (Or.inl ⟨_, rfl⟩) (Or.inl rfl) (fun t ht hW => ⟨none, rfl, (Or.inr ⟨by (first | omega | (have zz0 := Hid.u hb_cn; omega)), rfl⟩), ht⟩) (fun _ h => absurd h List.not_mem_nil) (oc_176 30 (aq_6 shX11_proofAt_24))
set_option maxRecDepth 100000 in
set_option maxHeartbeats 4000000 in
theorem q_XfillOn (l : Launch) (D : va_G) (cI cB cZ : ClassId) (zz qq vv : Nat) (bt : Nat → Int32) (g : Nat → Nat) (ad : Nat → Nat → Nat) (cn : Nat → Nat) (In : Nat → Int32) (Fn : Nat → Nat → Int32) (k0 : Nat) (v0 v1 : Int32) (hB : CBX cn) (hk : k0 < cn 10) : Met l yX1_fillOn (CWS yX1_fillOn cX1_fillOn 3 (some .int)) (RM 1 0 0) (PBrx [.ref (ad 10 k0), .int v0, .int v1] D cI cB cZ zz qq vv bt (wX cI (D.1 99) zz g ad cn In Fn)) (vp_Si (fun r => r = (if (Fn 102 k0 * (v0 - v1)) < Fn 103 k0 then Fn 102 k0 * (v0 - v1) else Fn 103 k0))) 0 0 (fun _ => False) := by
  refine en_rx rfl pn_RX1 (Nat.le_of_ble_eq_true rfl) (fun p e s m below meth c hx hb hml hown S hr hlocks hnm hP hK hXS hS ls hl => ?_)
  have hl : lv_has ls 3 [(0, .ref (ad 10 k0)), (1, .int v0), (2, .int v1)] := hl
  have hb_cn : Hid (CBX cn) := hB
  replace hB : CBXh cn := hB
  refine lv_aload_n hx hb (oc_42 0 shX1_fillOn_0) rfl (lvA0 hl) ?_
  refine gf_RX1_19 S hK hP _ (xf_0 hk) (v := .int ((Fn 103) k0)) rfl (oc_180 1 (aq_1 shX1_fillOn_0) uw_0_19) ?_
  refine lv_aload_n hx hb (oc_42 4 (aq_4 shX1_fillOn_0)) rfl (lvA0 hl) ?_
  refine gf_RX1_16 S hK hP _ (xf_0 hk) (v := .int ((Fn 102) k0)) rfl (oc_180 5 (aq_5 shX1_fillOn_0) uw_0_16) ?_
  refine lv_iload_n hx hb (oc_27 8 (aq_8 shX1_fillOn_0)) rfl (lvA1 hl) ?_
  refine lv_iload_n hx hb (oc_28 9 (aq_9 shX1_fillOn_0)) rfl (lvA2 hl) ?_
  refine lv_isub hx hb (oc_100 10 (aq_10 shX1_fillOn_0)) ?_
  refine lv_imul hx hb (oc_104 11 (aq_11 shX1_fillOn_0)) ?_
  refine va_mmin hx hb (by rw [hml]; exact hl.1.symm) hown (S.2.2.2.2 _ (wk2_16 7 rfl rfl)) (S.2.2.2.2 _ (wk2_13 10 rfl rfl)) (S.2.2.2.2 _ (wk1_0 3 rfl rfl)) (S.2.2.2.2 _ (wk2_13 11 rfl rfl)) (Nat.le_of_ble_eq_true rfl) (Nat.le_of_ble_eq_true rfl) (Nat.le_of_ble_eq_true rfl) (Nat.le_of_ble_eq_true rfl) (oc_184 12 (aq_12 shX1_fillOn_0) uw_0_31) ?_
  exact W.iret (v := (if (((Fn 102) k0) * (v0 - v1)) < ((Fn 103) k0) then (((Fn 102) k0) * (v0 - v1)) else ((Fn 103) k0))) hx hb hr (fun t ht hW => ⟨(if (((Fn 102) k0) * (v0 - v1)) < ((Fn 103) k0) then (((Fn 102) k0) * (v0 - v1)) else ((Fn 103) k0)), rfl, rfl, ht⟩) (fun _ h => absurd h List.not_mem_nil) (oc_172 15 (aq_15 shX1_fillOn_0))
set_option maxRecDepth 100000 in
set_option maxHeartbeats 4000000 in
theorem q_XcomesFor (l : Launch) (D : va_G) (cI cB cZ : ClassId) (zz qq vv : Nat) (bt : Nat → Int32) (g : Nat → Nat) (ad : Nat → Nat → Nat) (cn : Nat → Nat) (In : Nat → Int32) (Fn : Nat → Nat → Int32) (k0 : Nat) (v0 : Int32) (hB : CBX cn) (hk : k0 < cn 10) : Met l yX1_comesFor (CWS yX1_comesFor cX1_comesFor 2 (some .boolean)) (RM 0 0 0) (PBrx [.ref (ad 10 k0), .int v0] D cI cB cZ zz qq vv bt (wX cI (D.1 99) zz g ad cn In Fn)) (vp_Si (fun r => r = 0 ∨ r = 1)) 0 0 (fun _ => False) := by
  refine en_rx rfl pn_RX1 (Nat.le_of_ble_eq_true rfl) (fun p e s m below meth c hx hb hml hown S hr hlocks hnm hP hK hXS hS ls hl => ?_)
  have hl : lv_has ls 2 [(0, .ref (ad 10 k0)), (1, .int v0)] := hl
  have hb_cn : Hid (CBX cn) := hB
  replace hB : CBXh cn := hB
  refine lv_iload_n hx hb (oc_27 0 shX1_comesFor_0) rfl (lvA1 hl) ?_
  refine lv_aload_n hx hb (oc_42 1 (aq_1 shX1_comesFor_0)) rfl (lvA0 hl) ?_
  refine gf_RX1_37 S hK hP _ (xf_0 hk) (v := .int ((Fn 107) k0)) rfl (oc_180 2 (aq_2 shX1_comesFor_0) uw_0_37) ?_
  refine lv_icmp_lt (tgt := 20) hx hb (oc_161 5 (aq_5 shX1_comesFor_0) sgw_0_15) rfl (fun c_1 => ?_) (fun c_1 => ?_)
  ·
    have tc_1 : (v0.toInt : Int) < ((Fn 107) k0).toInt := Int32.lt_iff_toInt_lt.mp c_1
    refine lv_iconst (v := 0) hx hb (oc_3 20 (aq_20 shX1_comesFor_0)) kic_0 ?_
    exact W.zret (v := 0) hx hb hr rfl (fun t ht hW => ⟨0, rfl, (Or.inl rfl), ht⟩) (fun _ h => absurd h List.not_mem_nil) (oc_172 21 (aq_21 shX1_comesFor_0))
  ·
    have tc_1 : (((Fn 107) k0).toInt : Int) ≤ v0.toInt := Int32.le_iff_toInt_le.mp (Int32.not_lt.mp c_1)
    refine lv_iload_n hx hb (oc_27 8 (aq_8 shX1_comesFor_0)) rfl (lvA1 hl) ?_
    refine lv_aload_n hx hb (oc_42 9 (aq_9 shX1_comesFor_0)) rfl (lvA0 hl) ?_
    refine gf_RX1_40 S hK hP _ (xf_0 hk) (v := .int ((Fn 108) k0)) rfl (oc_180 10 (aq_10 shX1_comesFor_0) uw_0_40) ?_
    refine lv_icmp_lt (tgt := 20) hx hb (oc_161 13 (aq_13 shX1_comesFor_0) sgw_0_7) rfl (fun c_2 => ?_) (fun c_2 => ?_)
    ·
      have tc_2 : (v0.toInt : Int) < ((Fn 108) k0).toInt := Int32.lt_iff_toInt_lt.mp c_2
      refine lv_iconst (v := 0) hx hb (oc_3 20 (aq_20 shX1_comesFor_0)) kic_0 ?_
      exact W.zret (v := 0) hx hb hr rfl (fun t ht hW => ⟨0, rfl, (Or.inl rfl), ht⟩) (fun _ h => absurd h List.not_mem_nil) (oc_172 21 (aq_21 shX1_comesFor_0))
    ·
      have tc_2 : (((Fn 108) k0).toInt : Int) ≤ v0.toInt := Int32.le_iff_toInt_le.mp (Int32.not_lt.mp c_2)
      refine lv_iconst (v := 1) hx hb (oc_4 16 (aq_16 shX1_comesFor_0)) kic_1 ?_
      refine lv_goto (tgt := 21) hx hb (oc_167 17 (aq_17 shX1_comesFor_0) sgw_0_4) rfl ?_
      exact W.zret (v := 1) hx hb hr rfl (fun t ht hW => ⟨1, rfl, (Or.inr rfl), ht⟩) (fun _ h => absurd h List.not_mem_nil) (oc_172 21 (aq_21 shX1_comesFor_0))
set_option maxRecDepth 100000 in
set_option maxHeartbeats 4000000 in
theorem q_Xlikely (l : Launch) (D : va_G) (cI cB cZ : ClassId) (zz qq vv : Nat) (bt : Nat → Int32) (g : Nat → Nat) (ad : Nat → Nat → Nat) (cn : Nat → Nat) (In : Nat → Int32) (Fn : Nat → Nat → Int32) (v0 v1 : Int32) (hB : CBX cn) : Met l yX11_likely (CWS yX11_likely cX11_likely 4 (some .int)) (RM 4 0 0) (PBrx [.ref (g 0), .int v0, .int v1] D cI cB cZ zz qq vv bt (wX cI (D.1 99) zz g ad cn In Fn)) (vp_Si (fun _ => True)) 0 0 (fun _ => False) := by
  refine en_rx rfl pn_RX11 (Nat.le_of_ble_eq_true rfl) (fun p e s m below meth c hx hb hml hown S hr hlocks hnm hP hK hXS hS ls hl => ?_)
  have hl : lv_has ls 4 [(0, .ref (g 0)), (1, .int v0), (2, .int v1)] := hl
  have hb_cn : Hid (CBX cn) := hB
  replace hB : CBXh cn := hB
  refine lv_aload_n hx hb (oc_42 0 shX11_likely_0) rfl (lvA0 hl) ?_
  refine lv_iload_n hx hb (oc_27 1 (aq_1 shX11_likely_0)) rfl (lvA1 hl) ?_
  refine va_csq (runV_rxa (As := [.int v0]) (rest := []) S (q_XkitchenAt l D cI cB cZ zz qq vv bt g ad cn In Fn v0 hB) kV_RX11_114 hK hXS hS hP 0 xo_0 rfl rfl ⟨Nat.le_of_ble_eq_true rfl, Nat.le_of_ble_eq_true rfl⟩ ⟨Nat.le_of_ble_eq_true rfl, Nat.le_of_ble_eq_true rfl⟩ rfl hl.1 rfl (Nat.le_of_ble_eq_true rfl) (oc_182 2 (aq_2 shX11_likely_0) uw_0_114)) (fun r_1 h_2 => ?_)
  rcases h_2 with ⟨mr_1, er_1, hr_1, rfl⟩ | ⟨hr_1, rfl⟩
  ·
    refine lv_astore_n (lv' := [(3, .ref (ad 10 mr_1)), (0, .ref (g 0)), (1, .int v0), (2, .int v1)]) hx hb (oc_78 5 (aq_5 shX11_likely_0)) rfl hl (ltb rfl) rfl (fun ls hl => ?_)
    refine lv_aload_n hx hb (oc_45 6 (aq_6 shX11_likely_0)) rfl (lvA0 hl) ?_
    refine lv_ifnull hx hb (oc_198 7 (aq_7 shX11_likely_0) sgw_0_18) ?_
    refine lv_iload_n hx hb (oc_28 10 (aq_10 shX11_likely_0)) rfl (lvA3 hl) ?_
    refine vp_callSi (runS_r (As := [.int v1]) (rest := []) S (q_l_isDay l D cI cB cZ v1) kS_RX11_99 hK hP [] rfl ⟨Nat.le_of_ble_eq_true rfl, Nat.le_of_ble_eq_true rfl⟩ ⟨Nat.le_of_ble_eq_true rfl, Nat.le_of_ble_eq_true rfl⟩ rfl hl.1 rfl (Nat.le_of_ble_eq_true rfl) (oc_184 11 (aq_11 shX11_likely_0) uw_0_99)) (fun r_3 h_4 => ?_)
    rcases h_4 with ⟨rfl, h_4⟩ | ⟨rfl, h_4⟩
    ·
      have h_4 : 0 ≤ v1.toInt ∧ v1.toInt ≤ 399 := h_4
      refine lv_if_eq (tgt := 25) hx hb (oc_153 14 (aq_14 shX11_likely_0) sgw_0_11) rfl (fun h => absurd h cq_eq_1_0) (fun _ => ?_)
      refine lv_iload_n hx hb (oc_28 17 (aq_17 shX11_likely_0)) rfl (lvA3 hl) ?_
      refine lv_aload_n hx hb (oc_45 18 (aq_18 shX11_likely_0)) rfl (lvA0 hl) ?_
      have kf_1 : mr_1 < cn 10 := by (first | omega | (have zz0 := Hid.u hb_cn; omega))
      refine gf_RX11_118 S hK hP _ (xf_0 kf_1) (v := .int ((Fn 104) mr_1)) rfl (oc_180 19 (aq_19 shX11_likely_0) uw_0_118) ?_
      refine lv_icmp_ge (tgt := 27) hx hb (oc_162 22 (aq_22 shX11_likely_0) sgw_0_5) rfl (fun c_5 => ?_) (fun c_5 => ?_)
      ·
        have tc_5 : (((Fn 104) mr_1).toInt : Int) ≤ v1.toInt := Int32.le_iff_toInt_le.mp c_5
        refine lv_aload_n hx hb (oc_45 27 (aq_2 shX11_likely_25)) rfl (lvA0 hl) ?_
        refine lv_iload_n hx hb (oc_28 28 (aq_3 shX11_likely_25)) rfl (lvA3 hl) ?_
        refine lv_aload_n hx hb (oc_45 29 (aq_4 shX11_likely_25)) rfl (lvA0 hl) ?_
        refine gf_RX11_118 S hK hP _ (xf_0 kf_1) (v := .int ((Fn 104) mr_1)) rfl (oc_180 30 (aq_5 shX11_likely_25) uw_0_118) ?_
        refine vp_callSi (runV_rxa (As := [.int v1, .int ((Fn 104) mr_1)]) (rest := []) S (q_XfillOn l D cI cB cZ zz qq vv bt g ad cn In Fn mr_1 v1 ((Fn 104) mr_1) hB (by (first | omega | (have zz0 := Hid.u hb_cn; omega)))) kV_RX11_121 hK hXS hS hP _ (xf_0 kf_1) rfl rfl ⟨Nat.le_of_ble_eq_true rfl, Nat.le_of_ble_eq_true rfl⟩ ⟨Nat.le_of_ble_eq_true rfl, Nat.le_of_ble_eq_true rfl⟩ rfl hl.1 rfl (Nat.le_of_ble_eq_true rfl) (oc_182 33 (aq_8 shX11_likely_25) uw_0_121)) (fun r_6 h_7 => ?_)
        subst h_7
        exact W.iret (v := ((if ((Fn 102) mr_1 * (v1 - ((Fn 104) mr_1))) < (Fn 103) mr_1 then (Fn 102) mr_1 * (v1 - ((Fn 104) mr_1)) else (Fn 103) mr_1))) hx hb hr (fun t ht hW => ⟨((if ((Fn 102) mr_1 * (v1 - ((Fn 104) mr_1))) < (Fn 103) mr_1 then (Fn 102) mr_1 * (v1 - ((Fn 104) mr_1)) else (Fn 103) mr_1)), rfl, trivial, ht⟩) (fun _ h => absurd h List.not_mem_nil) (oc_172 36 (aq_11 shX11_likely_25))
      ·
        have tc_5 : (v1.toInt : Int) < ((Fn 104) mr_1).toInt := Int32.lt_iff_toInt_lt.mp (Int32.not_le.mp c_5)
        refine lv_iconst (v := (-1)) hx hb (oc_2 25 shX11_likely_25) kic_m1 ?_
        exact W.iret (v := (-1)) hx hb hr (fun t ht hW => ⟨(-1), rfl, trivial, ht⟩) (fun _ h => absurd h List.not_mem_nil) (oc_172 26 (aq_1 shX11_likely_25))
    ·
      have h_4 : ¬ (0 ≤ v1.toInt ∧ v1.toInt ≤ 399) := h_4
      refine lv_if_eq (tgt := 25) hx hb (oc_153 14 (aq_14 shX11_likely_0) sgw_0_11) rfl (fun _ => ?_) (fun h => absurd h cq_eq_0_0)
      refine lv_iconst (v := (-1)) hx hb (oc_2 25 shX11_likely_25) kic_m1 ?_
      exact W.iret (v := (-1)) hx hb hr (fun t ht hW => ⟨(-1), rfl, trivial, ht⟩) (fun _ h => absurd h List.not_mem_nil) (oc_172 26 (aq_1 shX11_likely_25))
  ·
    refine lv_astore_nN (lv' := [(3, .null), (0, .ref (g 0)), (1, .int v0), (2, .int v1)]) hx hb (oc_78 5 (aq_5 shX11_likely_0)) rfl hl (ltb rfl) rfl (fun ls hl => ?_)
    refine lv_aload_nN hx hb (oc_45 6 (aq_6 shX11_likely_0)) rfl (lvA0 hl) ?_
    refine lv_ifnullN (tgt := 25) hx hb (oc_198 7 (aq_7 shX11_likely_0) sgw_0_18) rfl ?_
    refine lv_iconst (v := (-1)) hx hb (oc_2 25 shX11_likely_25) kic_m1 ?_
    exact W.iret (v := (-1)) hx hb hr (fun t ht hW => ⟨(-1), rfl, trivial, ht⟩) (fun _ h => absurd h List.not_mem_nil) (oc_172 26 (aq_1 shX11_likely_25))
set_option maxRecDepth 100000 in
set_option maxHeartbeats 4000000 in
theorem q_Xmissing (l : Launch) (D : va_G) (cI cB cZ : ClassId) (zz qq vv : Nat) (bt : Nat → Int32) (g : Nat → Nat) (ad : Nat → Nat → Nat) (cn : Nat → Nat) (In : Nat → Int32) (Fn : Nat → Nat → Int32) (v0 : Int32) (hB : CBX cn) : Met l yX11_missing (CWS yX11_missing cX11_missing 3 (some .int)) (RM 4 0 0) (PBrx [.ref (g 0), .int v0] D cI cB cZ zz qq vv bt (wX cI (D.1 99) zz g ad cn In Fn)) (vp_Si (fun _ => True)) 0 0 (fun _ => False) := by
  refine en_rx rfl pn_RX11 (Nat.le_of_ble_eq_true rfl) (fun p e s m below meth c hx hb hml hown S hr hlocks hnm hP hK hXS hS ls hl => ?_)
  have hl : lv_has ls 3 [(0, .ref (g 0)), (1, .int v0)] := hl
  have hb_cn : Hid (CBX cn) := hB
  replace hB : CBXh cn := hB
  refine lv_aload_n hx hb (oc_42 0 shX11_missing_0) rfl (lvA0 hl) ?_
  refine lv_iload_n hx hb (oc_27 1 (aq_1 shX11_missing_0)) rfl (lvA1 hl) ?_
  refine va_csq (runV_rxa (As := [.int v0]) (rest := []) S (q_XloadAt l D cI cB cZ zz qq vv bt g ad cn In Fn v0 hB) kV_RX11_148 hK hXS hS hP 0 xo_0 rfl rfl ⟨Nat.le_of_ble_eq_true rfl, Nat.le_of_ble_eq_true rfl⟩ ⟨Nat.le_of_ble_eq_true rfl, Nat.le_of_ble_eq_true rfl⟩ rfl hl.1 rfl (Nat.le_of_ble_eq_true rfl) (oc_182 2 (aq_2 shX11_missing_0) uw_0_148)) (fun r_1 h_2 => ?_)
  rcases h_2 with ⟨mr_1, er_1, hr_1, rfl⟩ | ⟨hr_1, rfl⟩
  ·
    refine lv_astore_n (lv' := [(2, .ref (ad 11 mr_1)), (0, .ref (g 0)), (1, .int v0)]) hx hb (oc_77 5 (aq_5 shX11_missing_0)) rfl hl (ltb rfl) rfl (fun ls hl => ?_)
    refine lv_aload_n hx hb (oc_44 6 (aq_6 shX11_missing_0)) rfl (lvA0 hl) ?_
    refine lv_ifnonnull (tgt := 14) hx hb (oc_199 7 (aq_7 shX11_missing_0) sgw_0_7) rfl ?_
    refine lv_aload_n hx hb (oc_44 14 (aq_14 shX11_missing_0)) rfl (lvA0 hl) ?_
    have kf_1 : mr_1 < cn 11 := by (first | omega | (have zz0 := Hid.u hb_cn; omega))
    refine gf_RX11_141 S hK hP _ (xf_1 kf_1) (v := .int ((Fn 128) mr_1)) rfl (oc_180 15 (aq_15 shX11_missing_0) uw_0_141) ?_
    exact W.iret (v := ((Fn 128) mr_1)) hx hb hr (fun t ht hW => ⟨((Fn 128) mr_1), rfl, trivial, ht⟩) (fun _ h => absurd h List.not_mem_nil) (oc_172 18 (aq_18 shX11_missing_0))
  ·
    refine lv_astore_nN (lv' := [(2, .null), (0, .ref (g 0)), (1, .int v0)]) hx hb (oc_77 5 (aq_5 shX11_missing_0)) rfl hl (ltb rfl) rfl (fun ls hl => ?_)
    refine lv_aload_nN hx hb (oc_44 6 (aq_6 shX11_missing_0)) rfl (lvA0 hl) ?_
    refine lv_ifnonnullN hx hb (oc_199 7 (aq_7 shX11_missing_0) sgw_0_7) ?_
    refine lv_iconst (v := (-1)) hx hb (oc_2 10 (aq_10 shX11_missing_0)) kic_m1 ?_
    refine lv_goto (tgt := 18) hx hb (oc_167 11 (aq_11 shX11_missing_0) sgw_0_7) rfl ?_
    exact W.iret (v := (-1)) hx hb hr (fun t ht hW => ⟨(-1), rfl, trivial, ht⟩) (fun _ h => absurd h List.not_mem_nil) (oc_172 18 (aq_18 shX11_missing_0))
set_option maxRecDepth 100000 in
set_option maxHeartbeats 4000000 in
theorem q_Xstreet (l : Launch) (D : va_G) (cI cB cZ : ClassId) (zz qq vv : Nat) (bt : Nat → Int32) (g : Nat → Nat) (ad : Nat → Nat → Nat) (cn : Nat → Nat) (In : Nat → Int32) (Fn : Nat → Nat → Int32) (v0 v1 : Int32) (sz : Nat) (hB : CBX cn) : Met l yX11_street (CWS yX11_street cX11_street 4 (some .boolean)) (RM 4 0 0) (PBx [.ref (g 0), .int v0, .int v1] D cI cB cZ zz qq vv bt (wX cI (D.1 99) zz g ad cn In Fn) sz) (va_Qi (fun (r : Int32) (u : (Nat → Nat) × (Nat → Int32) × (Nat → Nat → Int32)) => (fun r c2 I2 F2 => Fr [] [] [109] cn In Fn c2 I2 F2 ∧ CBX c2 ∧ (True)) r u.1 u.2.1 u.2.2) (fun (u : (Nat → Nat) × (Nat → Int32) × (Nat → Nat → Int32)) (t : State) => va_P D vwCl (wX cI (D.1 99) zz g ad u.1 u.2.1 u.2.2) t.heap ∧ va_D (va_A (wX cI (D.1 99) zz g ad cn In Fn) sz) (wX cI (D.1 99) zz g ad u.1 u.2.1 u.2.2)) (va_A (wX cI (D.1 99) zz g ad cn In Fn) sz)) 0 0 (va_A (wX cI (D.1 99) zz g ad cn In Fn) sz) := by
  refine en_x (fun A => (va_Qi (fun (r : Int32) (u : (Nat → Nat) × (Nat → Int32) × (Nat → Nat → Int32)) => (fun (r : Int32) (c2 : Nat → Nat) (I2 : Nat → Int32) (F2 : Nat → Nat → Int32) => Fr [] [] [109] cn In Fn c2 I2 F2 ∧ CBX c2 ∧ (True)) r u.1 u.2.1 u.2.2) (fun (u : (Nat → Nat) × (Nat → Int32) × (Nat → Nat → Int32)) (t : State) => va_P D vwCl (wX cI (D.1 99) zz g ad u.1 u.2.1 u.2.2) t.heap ∧ va_D A (wX cI (D.1 99) zz g ad u.1 u.2.1 u.2.2)) A)) rfl rfl pn_RX11 (Nat.le_of_ble_eq_true rfl) (fun p e s m below meth c A hx hb hml hown S hr hlocks hnm hA hP hK hD hXS hS ls hl => ?_)
  have hl : lv_has ls 4 [(0, .ref (g 0)), (1, .int v0), (2, .int v1)] := hl
  have hb_cn : Hid (CBX cn) := hB
  replace hB : CBXh cn := hB
  refine lv_aload_n hx hb (oc_42 0 shX11_street_0) rfl (lvA0 hl) ?_
  refine lv_iload_n hx hb (oc_27 1 (aq_1 shX11_street_0)) rfl (lvA1 hl) ?_
  refine va_csq (runV_rxa (As := [.int v0]) (rest := []) S (q_XkitchenAt l D cI cB cZ zz qq vv bt g ad cn In Fn v0 hB) kV_RX11_114 hK hXS hS hP 0 xo_0 rfl rfl ⟨Nat.le_of_ble_eq_true rfl, Nat.le_of_ble_eq_true rfl⟩ ⟨Nat.le_of_ble_eq_true rfl, Nat.le_of_ble_eq_true rfl⟩ rfl hl.1 rfl (Nat.le_of_ble_eq_true rfl) (oc_182 2 (aq_2 shX11_street_0) uw_0_114)) (fun r_1 h_2 => ?_)
  rcases h_2 with ⟨mr_1, er_1, hr_1, rfl⟩ | ⟨hr_1, rfl⟩
  ·
    refine lv_astore_n (lv' := [(3, .ref (ad 10 mr_1)), (0, .ref (g 0)), (1, .int v0), (2, .int v1)]) hx hb dX11_street_5 rfl hl (ltb rfl) rfl (fun ls hl => ?_)
    refine lv_aload_n hx hb dX11_street_6 rfl (lvA0 hl) ?_
    refine lv_ifnull hx hb dX11_street_7 ?_
    refine lv_iload_n hx hb (oc_28 10 (aq_10 shX11_street_0)) rfl (lvA3 hl) ?_
    refine lv_iconst (v := 0) hx hb (oc_3 11 (aq_11 shX11_street_0)) kic_0 ?_
    refine lv_bipush (v := 9) hx hb (oc_16 12 (aq_12 shX11_street_0) sgb_9) kbc_9 ?_
    refine vp_callSi (runS_r (As := [.int v1, .int 0, .int 9]) (rest := []) S (q_l_within l D cI cB cZ v1 0 9) kS_RX11_80 hK hP [] rfl ⟨Nat.le_of_ble_eq_true rfl, Nat.le_of_ble_eq_true rfl⟩ ⟨Nat.le_of_ble_eq_true rfl, Nat.le_of_ble_eq_true rfl⟩ rfl hl.1 rfl (Nat.le_of_ble_eq_true rfl) (oc_184 14 (aq_14 shX11_street_0) uw_0_80)) (fun r_3 h_4 => ?_)
    rcases h_4 with ⟨rfl, h_4⟩ | ⟨rfl, h_4⟩
    ·
      have h_4 : 0 ≤ v1.toInt ∧ v1.toInt ≤ 9 := h_4
      refine lv_if_ne (tgt := 22) hx hb dX11_street_17 rfl (fun _ => ?_) (fun h => absurd h cq_eq_1_0)
      refine lv_aload_n hx hb (oc_45 22 (aq_22 shX11_street_0)) rfl (lvA0 hl) ?_
      refine lv_iload_n hx hb (oc_28 23 (aq_23 shX11_street_0)) rfl (lvA3 hl) ?_
      have kf_1 : mr_1 < cn 10 := by (first | omega | (have zz0 := Hid.u hb_cn; omega))
      refine pf_RX11_260 S hK hP hD hS _ (xf_0 kf_1) (v := .int v1) (Nat.le_of_ble_eq_true rfl) rfl rfl (oc_181 24 shX11_street_24 uw_1_4) (fun H locs hP hD hS => ?_)
      have hP : va_P D vwCl (wX cI (D.1 99) zz g ad cn In (va_up Fn 109 (upd (Fn 109) mr_1 v1))) H := va_P_eq (xs_109 (by (first | omega | (have zz0 := Hid.u hb_cn; omega)))) hP
      have hD : va_D A (wX cI (D.1 99) zz g ad cn In (va_up Fn 109 (upd (Fn 109) mr_1 v1))) := va_D_eq (xs_109 (by (first | omega | (have zz0 := Hid.u hb_cn; omega)))) hD
      refine lv_iconst (v := 1) hx hb (oc_4 27 (aq_3 shX11_street_24)) kic_1 ?_
      exact W.zret (v := 1) hx hb hr rfl (fun t ht hW => ⟨⟨1, (cn, In, (va_up Fn 109 (upd (Fn 109) mr_1 v1))), rfl, ⟨(Fr.mo (Fr.f 109 Fr.rf) (sbl rfl) (sbl rfl) (sbl rfl)), hB, trivial⟩, by rw [ht]; exact hP, hD⟩, hS.F ht⟩) hS.2.2 (oc_172 28 (aq_4 shX11_street_24))
    ·
      have h_4 : ¬ (0 ≤ v1.toInt ∧ v1.toInt ≤ 9) := h_4
      refine lv_if_ne (tgt := 22) hx hb dX11_street_17 rfl (fun h => absurd h cq_eq_0_0) (fun _ => ?_)
      refine lv_iconst (v := 0) hx hb dX11_street_20 kic_0 ?_
      exact W.zret (v := 0) hx hb hr rfl (fun t ht hW => ⟨⟨0, (cn, In, Fn), rfl, ⟨(Fr.mo Fr.rf (sbl rfl) (sbl rfl) (sbl rfl)), hB, trivial⟩, by rw [ht]; exact hP, hD⟩, hS.F ht⟩) hS.2.2 dX11_street_21
  ·
    refine lv_astore_nN (lv' := [(3, .null), (0, .ref (g 0)), (1, .int v0), (2, .int v1)]) hx hb dX11_street_5 rfl hl (ltb rfl) rfl (fun ls hl => ?_)
    refine lv_aload_nN hx hb dX11_street_6 rfl (lvA0 hl) ?_
    refine lv_ifnullN (tgt := 20) hx hb dX11_street_7 rfl ?_
    refine lv_iconst (v := 0) hx hb dX11_street_20 kic_0 ?_
    exact W.zret (v := 0) hx hb hr rfl (fun t ht hW => ⟨⟨0, (cn, In, Fn), rfl, ⟨(Fr.mo Fr.rf (sbl rfl) (sbl rfl) (sbl rfl)), hB, trivial⟩, by rw [ht]; exact hP, hD⟩, hS.F ht⟩) hS.2.2 dX11_street_21
set_option maxRecDepth 100000 in
set_option maxHeartbeats 4000000 in
theorem q_Xoffers (l : Launch) (D : va_G) (cI cB cZ : ClassId) (zz qq vv : Nat) (bt : Nat → Int32) (g : Nat → Nat) (ad : Nat → Nat → Nat) (cn : Nat → Nat) (In : Nat → Int32) (Fn : Nat → Nat → Int32) (v0 v1 v2 : Int32) (sz : Nat) (hB : CBX cn) : Met l yX11_offers (CWS yX11_offers cX11_offers 5 (some .boolean)) (RM 4 0 0) (PBx [.ref (g 0), .int v0, .int v1, .int v2] D cI cB cZ zz qq vv bt (wX cI (D.1 99) zz g ad cn In Fn) sz) (va_Qi (fun (r : Int32) (u : (Nat → Nat) × (Nat → Int32) × (Nat → Nat → Int32)) => (fun r c2 I2 F2 => Fr [] [] [107, 108] cn In Fn c2 I2 F2 ∧ CBX c2 ∧ (True)) r u.1 u.2.1 u.2.2) (fun (u : (Nat → Nat) × (Nat → Int32) × (Nat → Nat → Int32)) (t : State) => va_P D vwCl (wX cI (D.1 99) zz g ad u.1 u.2.1 u.2.2) t.heap ∧ va_D (va_A (wX cI (D.1 99) zz g ad cn In Fn) sz) (wX cI (D.1 99) zz g ad u.1 u.2.1 u.2.2)) (va_A (wX cI (D.1 99) zz g ad cn In Fn) sz)) 0 0 (va_A (wX cI (D.1 99) zz g ad cn In Fn) sz) := by
  refine en_x (fun A => (va_Qi (fun (r : Int32) (u : (Nat → Nat) × (Nat → Int32) × (Nat → Nat → Int32)) => (fun (r : Int32) (c2 : Nat → Nat) (I2 : Nat → Int32) (F2 : Nat → Nat → Int32) => Fr [] [] [107, 108] cn In Fn c2 I2 F2 ∧ CBX c2 ∧ (True)) r u.1 u.2.1 u.2.2) (fun (u : (Nat → Nat) × (Nat → Int32) × (Nat → Nat → Int32)) (t : State) => va_P D vwCl (wX cI (D.1 99) zz g ad u.1 u.2.1 u.2.2) t.heap ∧ va_D A (wX cI (D.1 99) zz g ad u.1 u.2.1 u.2.2)) A)) rfl rfl pn_RX11 (Nat.le_of_ble_eq_true rfl) (fun p e s m below meth c A hx hb hml hown S hr hlocks hnm hA hP hK hD hXS hS ls hl => ?_)
  have hl : lv_has ls 5 [(0, .ref (g 0)), (1, .int v0), (2, .int v1), (3, .int v2)] := hl
  have hb_cn : Hid (CBX cn) := hB
  replace hB : CBXh cn := hB
  refine lv_aload_n hx hb (oc_42 0 shX11_offers_0) rfl (lvA0 hl) ?_
  refine lv_iload_n hx hb (oc_27 1 (aq_1 shX11_offers_0)) rfl (lvA1 hl) ?_
  refine va_csq (runV_rxa (As := [.int v0]) (rest := []) S (q_XkitchenAt l D cI cB cZ zz qq vv bt g ad cn In Fn v0 hB) kV_RX11_114 hK hXS hS hP 0 xo_0 rfl rfl ⟨Nat.le_of_ble_eq_true rfl, Nat.le_of_ble_eq_true rfl⟩ ⟨Nat.le_of_ble_eq_true rfl, Nat.le_of_ble_eq_true rfl⟩ rfl hl.1 rfl (Nat.le_of_ble_eq_true rfl) (oc_182 2 (aq_2 shX11_offers_0) uw_0_114)) (fun r_1 h_2 => ?_)
  rcases h_2 with ⟨mr_1, er_1, hr_1, rfl⟩ | ⟨hr_1, rfl⟩
  ·
    refine lv_astore (lv' := [(4, .ref (ad 10 mr_1)), (0, .ref (g 0)), (1, .int v0), (2, .int v1), (3, .int v2)]) hx hb dX11_offers_5 hl (ltb rfl) rfl (fun ls hl => ?_)
    refine lv_aload hx hb dX11_offers_7 (lvA0 hl) ?_
    refine lv_ifnull hx hb dX11_offers_9 ?_
    refine lv_iload_n hx hb (oc_28 12 (aq_12 shX11_offers_0)) rfl (lvA3 hl) ?_
    refine lv_iconst (v := 0) hx hb (oc_3 13 (aq_13 shX11_offers_0)) kic_0 ?_
    refine lv_sipush (v := 200) hx hb (oc_17 14 (aq_14 shX11_offers_0) sgw_0_200) (by decide) ?_
    refine vp_callSi (runS_r (As := [.int v1, .int 0, .int 200]) (rest := []) S (q_l_within l D cI cB cZ v1 0 200) kS_RX11_80 hK hP [] rfl ⟨Nat.le_of_ble_eq_true rfl, Nat.le_of_ble_eq_true rfl⟩ ⟨Nat.le_of_ble_eq_true rfl, Nat.le_of_ble_eq_true rfl⟩ rfl hl.1 rfl (Nat.le_of_ble_eq_true rfl) (oc_184 17 (aq_17 shX11_offers_0) uw_0_80)) (fun r_3 h_4 => ?_)
    rcases h_4 with ⟨rfl, h_4⟩ | ⟨rfl, h_4⟩
    ·
      have h_4 : 0 ≤ v1.toInt ∧ v1.toInt ≤ 200 := h_4
      refine lv_if_eq (tgt := 34) hx hb dX11_offers_20 rfl (fun h => absurd h cq_eq_1_0) (fun _ => ?_)
      refine lv_iload_n hx hb (oc_29 23 (aq_23 shX11_offers_0)) rfl (lvA4 hl) ?_
      refine lv_iconst (v := 0) hx hb (oc_3 24 shX11_offers_24) kic_0 ?_
      refine lv_sipush (v := 200) hx hb (oc_17 25 (aq_1 shX11_offers_24) sgw_0_200) (by decide) ?_
      refine vp_callSi (runS_r (As := [.int v2, .int 0, .int 200]) (rest := []) S (q_l_within l D cI cB cZ v2 0 200) kS_RX11_80 hK hP [] rfl ⟨Nat.le_of_ble_eq_true rfl, Nat.le_of_ble_eq_true rfl⟩ ⟨Nat.le_of_ble_eq_true rfl, Nat.le_of_ble_eq_true rfl⟩ rfl hl.1 rfl (Nat.le_of_ble_eq_true rfl) (oc_184 28 (aq_4 shX11_offers_24) uw_0_80)) (fun r_5 h_6 => ?_)
      rcases h_6 with ⟨rfl, h_6⟩ | ⟨rfl, h_6⟩
      ·
        have h_6 : 0 ≤ v2.toInt ∧ v2.toInt ≤ 200 := h_6
        refine lv_if_ne (tgt := 36) hx hb dX11_offers_31 rfl (fun _ => ?_) (fun h => absurd h cq_eq_1_0)
        refine lv_aload hx hb (oc_25 36 (aq_12 shX11_offers_24) ub_4) (lvA0 hl) ?_
        refine lv_iload_n hx hb (oc_28 38 (aq_14 shX11_offers_24)) rfl (lvA3 hl) ?_
        have kf_1 : mr_1 < cn 10 := by (first | omega | (have zz0 := Hid.u hb_cn; omega))
        refine pf_RX11_450 S hK hP hD hS _ (xf_0 kf_1) (v := .int v1) (Nat.le_of_ble_eq_true rfl) rfl rfl (oc_181 39 (aq_15 shX11_offers_24) uw_1_194) (fun H locs hP hD hS => ?_)
        have hP : va_P D vwCl (wX cI (D.1 99) zz g ad cn In (va_up Fn 107 (upd (Fn 107) mr_1 v1))) H := va_P_eq (xs_107 (by (first | omega | (have zz0 := Hid.u hb_cn; omega)))) hP
        have hD : va_D A (wX cI (D.1 99) zz g ad cn In (va_up Fn 107 (upd (Fn 107) mr_1 v1))) := va_D_eq (xs_107 (by (first | omega | (have zz0 := Hid.u hb_cn; omega)))) hD
        refine lv_aload hx hb (oc_25 42 (aq_18 shX11_offers_24) ub_4) (lvA0 hl) ?_
        refine lv_iload_n hx hb (oc_29 44 (aq_20 shX11_offers_24)) rfl (lvA4 hl) ?_
        refine pf_RX11_453 S hK hP hD hS _ (xf_0 kf_1) (v := .int v2) (Nat.le_of_ble_eq_true rfl) rfl rfl (oc_181 45 (aq_21 shX11_offers_24) uw_1_197) (fun H locs hP hD hS => ?_)
        have hP : va_P D vwCl (wX cI (D.1 99) zz g ad cn In (va_up (va_up Fn 107 (upd (Fn 107) mr_1 v1)) 108 (upd (Fn 108) mr_1 v2))) H := va_P_eq (xs_108 (by (first | omega | (have zz0 := Hid.u hb_cn; omega)))) hP
        have hD : va_D A (wX cI (D.1 99) zz g ad cn In (va_up (va_up Fn 107 (upd (Fn 107) mr_1 v1)) 108 (upd (Fn 108) mr_1 v2))) := va_D_eq (xs_108 (by (first | omega | (have zz0 := Hid.u hb_cn; omega)))) hD
        refine lv_iconst (v := 1) hx hb (oc_4 48 shX11_offers_48) kic_1 ?_
        exact W.zret (v := 1) hx hb hr rfl (fun t ht hW => ⟨⟨1, (cn, In, (va_up (va_up Fn 107 (upd (Fn 107) mr_1 v1)) 108 (upd (Fn 108) mr_1 v2))), rfl, ⟨(Fr.mo (Fr.f 108 (Fr.f 107 Fr.rf)) (sbl rfl) (sbl rfl) (sbl rfl)), hB, trivial⟩, by rw [ht]; exact hP, hD⟩, hS.F ht⟩) hS.2.2 (oc_172 49 (aq_1 shX11_offers_48))
      ·
        have h_6 : ¬ (0 ≤ v2.toInt ∧ v2.toInt ≤ 200) := h_6
        refine lv_if_ne (tgt := 36) hx hb dX11_offers_31 rfl (fun h => absurd h cq_eq_0_0) (fun _ => ?_)
        refine lv_iconst (v := 0) hx hb dX11_offers_34 kic_0 ?_
        exact W.zret (v := 0) hx hb hr rfl (fun t ht hW => ⟨⟨0, (cn, In, Fn), rfl, ⟨(Fr.mo Fr.rf (sbl rfl) (sbl rfl) (sbl rfl)), hB, trivial⟩, by rw [ht]; exact hP, hD⟩, hS.F ht⟩) hS.2.2 dX11_offers_35
    ·
      have h_4 : ¬ (0 ≤ v1.toInt ∧ v1.toInt ≤ 200) := h_4
      refine lv_if_eq (tgt := 34) hx hb dX11_offers_20 rfl (fun _ => ?_) (fun h => absurd h cq_eq_0_0)
      refine lv_iconst (v := 0) hx hb dX11_offers_34 kic_0 ?_
      exact W.zret (v := 0) hx hb hr rfl (fun t ht hW => ⟨⟨0, (cn, In, Fn), rfl, ⟨(Fr.mo Fr.rf (sbl rfl) (sbl rfl) (sbl rfl)), hB, trivial⟩, by rw [ht]; exact hP, hD⟩, hS.F ht⟩) hS.2.2 dX11_offers_35
  ·
    refine lv_astoreN (lv' := [(4, .null), (0, .ref (g 0)), (1, .int v0), (2, .int v1), (3, .int v2)]) hx hb dX11_offers_5 hl (ltb rfl) rfl (fun ls hl => ?_)
    refine lv_aloadN hx hb dX11_offers_7 (lvA0 hl) ?_
    refine lv_ifnullN (tgt := 34) hx hb dX11_offers_9 rfl ?_
    refine lv_iconst (v := 0) hx hb dX11_offers_34 kic_0 ?_
    exact W.zret (v := 0) hx hb hr rfl (fun t ht hW => ⟨⟨0, (cn, In, Fn), rfl, ⟨(Fr.mo Fr.rf (sbl rfl) (sbl rfl) (sbl rfl)), hB, trivial⟩, by rw [ht]; exact hP, hD⟩, hS.F ht⟩) hS.2.2 dX11_offers_35
set_option maxRecDepth 100000 in
set_option maxHeartbeats 4000000 in
theorem q_Xway (l : Launch) (D : va_G) (cI cB cZ : ClassId) (v0 v1 v2 v3 : Int32)  : Met l yX10_way (CWS yX10_way cX10_way 4 (some .int)) (RM 1 0 0) (PBr [.int v0, .int v1, .int v2, .int v3] D cI cB cZ []) (vp_Si (fun _ => True)) 0 0 (fun _ => False) := by
  refine en_r rfl pn_RX10 (Nat.le_of_ble_eq_true rfl) (fun p e s m below meth c hx hb hml hown S hr hlocks hnm hP hK hS ls hl => ?_)
  have hl : lv_has ls 4 [(0, .int v0), (1, .int v1), (2, .int v2), (3, .int v3)] := hl
  refine lv_iload_n hx hb (oc_26 0 shX10_way_0) rfl (lvA0 hl) ?_
  refine lv_iload_n hx hb (oc_28 1 (aq_1 shX10_way_0)) rfl (lvA2 hl) ?_
  refine lv_isub hx hb (oc_100 2 (aq_2 shX10_way_0)) ?_
  refine va_mabs hx hb (by rw [hml]; exact hl.1.symm) hown (S.2.2.2.2 _ (wk4_10 4 rfl rfl)) (S.2.2.2.2 _ (wk4_10 5 rfl rfl)) (S.2.2.2.2 _ (wk1_0 3 rfl rfl)) (S.2.2.2.2 _ (wk4_10 6 rfl rfl)) (Nat.le_of_ble_eq_true rfl) (Nat.le_of_ble_eq_true rfl) (Nat.le_of_ble_eq_true rfl) (Nat.le_of_ble_eq_true rfl) (oc_184 3 (aq_3 shX10_way_0) uw_0_30) ?_
  refine lv_iload_n hx hb (oc_27 6 (aq_6 shX10_way_0)) rfl (lvA1 hl) ?_
  refine lv_iload_n hx hb (oc_29 7 (aq_7 shX10_way_0)) rfl (lvA3 hl) ?_
  refine lv_isub hx hb (oc_100 8 (aq_8 shX10_way_0)) ?_
  refine va_mabs hx hb (by rw [hml]; exact hl.1.symm) hown (S.2.2.2.2 _ (wk4_10 4 rfl rfl)) (S.2.2.2.2 _ (wk4_10 5 rfl rfl)) (S.2.2.2.2 _ (wk1_0 3 rfl rfl)) (S.2.2.2.2 _ (wk4_10 6 rfl rfl)) (Nat.le_of_ble_eq_true rfl) (Nat.le_of_ble_eq_true rfl) (Nat.le_of_ble_eq_true rfl) (Nat.le_of_ble_eq_true rfl) (oc_184 9 (aq_9 shX10_way_0) uw_0_30) ?_
  refine lv_iadd hx hb (oc_96 12 (aq_12 shX10_way_0)) ?_
  exact W.iret (v := ((if 0 ≤ (v0 - v2) then (v0 - v2) else 0 - (v0 - v2)) + (if 0 ≤ (v1 - v3) then (v1 - v3) else 0 - (v1 - v3)))) hx hb hr (fun t ht hW => ⟨((if 0 ≤ (v0 - v2) then (v0 - v2) else 0 - (v0 - v2)) + (if 0 ≤ (v1 - v3) then (v1 - v3) else 0 - (v1 - v3))), rfl, trivial, ht⟩) (fun _ h => absurd h List.not_mem_nil) (oc_172 13 (aq_13 shX10_way_0))
set_option maxRecDepth 100000 in
set_option maxHeartbeats 4000000 in
theorem q_Xwclear (l : Launch) (D : va_G) (cI cB cZ : ClassId) (zz qq vv : Nat) (bt : Nat → Int32) (g : Nat → Nat) (ad : Nat → Nat → Nat) (cn : Nat → Nat) (In : Nat → Int32) (Fn : Nat → Nat → Int32)  (sz : Nat) (hB : CBX cn) : Met l yX10_clear (CWS yX10_clear cX10_clear 1 none) (RM 0 0 0) (PBx [.ref (g 9)] D cI cB cZ zz qq vv bt (wX cI (D.1 99) zz g ad cn In Fn) sz) (va_Qv (fun (u : (Nat → Nat) × (Nat → Int32) × (Nat → Nat → Int32)) => (fun c2 I2 F2 => (∀ k : Nat, k ∉ [] → I2 k = In k) ∧ (((True) ∧ (va_up cn 4 0) = c2 ∧ Fn = F2))) u.1 u.2.1 u.2.2) (fun (u : (Nat → Nat) × (Nat → Int32) × (Nat → Nat → Int32)) (t : State) => va_P D vwCl (wX cI (D.1 99) zz g ad u.1 u.2.1 u.2.2) t.heap ∧ va_D (va_A (wX cI (D.1 99) zz g ad cn In Fn) sz) (wX cI (D.1 99) zz g ad u.1 u.2.1 u.2.2)) (va_A (wX cI (D.1 99) zz g ad cn In Fn) sz)) 0 0 (va_A (wX cI (D.1 99) zz g ad cn In Fn) sz) := by
  refine en_x (fun A => (va_Qv (fun (u : (Nat → Nat) × (Nat → Int32) × (Nat → Nat → Int32)) => (fun (c2 : Nat → Nat) (I2 : Nat → Int32) (F2 : Nat → Nat → Int32) => (∀ k : Nat, k ∉ [] → I2 k = In k) ∧ (((True) ∧ (va_up cn 4 0) = c2 ∧ Fn = F2))) u.1 u.2.1 u.2.2) (fun (u : (Nat → Nat) × (Nat → Int32) × (Nat → Nat → Int32)) (t : State) => va_P D vwCl (wX cI (D.1 99) zz g ad u.1 u.2.1 u.2.2) t.heap ∧ va_D A (wX cI (D.1 99) zz g ad u.1 u.2.1 u.2.2)) A)) rfl rfl pn_RX10 (Nat.le_of_ble_eq_true rfl) (fun p e s m below meth c A hx hb hml hown S hr hlocks hnm hA hP hK hD hXS hS ls hl => ?_)
  have hl : lv_has ls 1 [(0, .ref (g 9))] := hl
  have hb_cn : Hid (CBX cn) := hB
  replace hB : CBXh cn := hB
  refine lv_aload_n hx hb (oc_42 0 shX10_clear_0) rfl (lvA0 hl) ?_
  refine lv_iconst (v := 0) hx hb (oc_3 1 (aq_1 shX10_clear_0)) kic_0 ?_
  refine pf_RX10_36 S hK hP hD hS 17 xo_17 (v := .int 0) (Nat.le_of_ble_eq_true rfl) rfl rfl (oc_181 2 (aq_2 shX10_clear_0) uw_0_36) (fun H locs hP hD hS => ?_)
  have hP : va_P D vwCl (wX cI (D.1 99) zz g ad (va_up cn 4 0) In Fn) H := va_P_eq (xsf_17_6) hP
  have hD : va_D A (wX cI (D.1 99) zz g ad (va_up cn 4 0) In Fn) := va_D_eq (xsf_17_6) hD
  exact W.vret hx hb hr (fun t ht hW => ⟨⟨((va_up cn 4 0), In, Fn), rfl, ⟨(show Fr [4] [] [] cn In Fn (va_up cn 4 0) In Fn from Fr.mo (Fr.c 4 (Fr.rf (cn := cn) (In := In) (Fn := Fn))) (sbl rfl) (sbl rfl) (sbl rfl)).2.1, ⟨(by first | trivial | (first | omega | (have zz0 := Hid.u hb_cn; omega)) | (simp only [zd0]; (first | omega | (have zz0 := Hid.u hb_cn; omega)))), (by first | rfl | simp only [zd0] | simp only [zd0, zd1]), (by first | rfl | simp only [zd0] | simp only [zd0, zd1])⟩⟩, by rw [ht]; exact hP, hD⟩, hS.F ht⟩) hS.2.2 (oc_177 5 (aq_5 shX10_clear_0))
set_option maxRecDepth 100000 in
set_option maxHeartbeats 4000000 in
theorem q_Xwadd (l : Launch) (D : va_G) (cI cB cZ : ClassId) (zz qq vv : Nat) (bt : Nat → Int32) (g : Nat → Nat) (ad : Nat → Nat → Nat) (cn : Nat → Nat) (In : Nat → Int32) (Fn : Nat → Nat → Int32) (v0 : Int32) (k0 : Nat) (v2 : Int32) (sz : Nat) (hB : CBX cn) (hk : k0 < cn 10) (h4 : cn 4 < 8) : Met l yX10_add (CWS yX10_add cX10_add 4 none) (RM 1 0 0) (PBx [.ref (g 9), .int v0, .ref (ad 10 k0), .int v2] D cI cB cZ zz qq vv bt (wX cI (D.1 99) zz g ad cn In Fn) sz) (va_Qv (fun (u : (Nat → Nat) × (Nat → Int32) × (Nat → Nat → Int32)) => (fun c2 I2 F2 => Fr [4] [] [30, 31, 32, 33] cn In Fn c2 I2 F2 ∧ CBX c2 ∧ (c2 4 = cn 4 + 1)) u.1 u.2.1 u.2.2) (fun (u : (Nat → Nat) × (Nat → Int32) × (Nat → Nat → Int32)) (t : State) => va_P D vwCl (wX cI (D.1 99) zz g ad u.1 u.2.1 u.2.2) t.heap ∧ va_D (va_A (wX cI (D.1 99) zz g ad cn In Fn) sz) (wX cI (D.1 99) zz g ad u.1 u.2.1 u.2.2)) (va_A (wX cI (D.1 99) zz g ad cn In Fn) sz)) 0 0 (va_A (wX cI (D.1 99) zz g ad cn In Fn) sz) := by
  refine en_x (fun A => (va_Qv (fun (u : (Nat → Nat) × (Nat → Int32) × (Nat → Nat → Int32)) => (fun (c2 : Nat → Nat) (I2 : Nat → Int32) (F2 : Nat → Nat → Int32) => Fr [4] [] [30, 31, 32, 33] cn In Fn c2 I2 F2 ∧ CBX c2 ∧ (c2 4 = cn 4 + 1)) u.1 u.2.1 u.2.2) (fun (u : (Nat → Nat) × (Nat → Int32) × (Nat → Nat → Int32)) (t : State) => va_P D vwCl (wX cI (D.1 99) zz g ad u.1 u.2.1 u.2.2) t.heap ∧ va_D A (wX cI (D.1 99) zz g ad u.1 u.2.1 u.2.2)) A)) rfl rfl pn_RX10 (Nat.le_of_ble_eq_true rfl) (fun p e s m below meth c A hx hb hml hown S hr hlocks hnm hA hP hK hD hXS hS ls hl => ?_)
  have hl : lv_has ls 4 [(0, .ref (g 9)), (1, .int v0), (2, .ref (ad 10 k0)), (3, .int v2)] := hl
  have hb_cn : Hid (CBX cn) := hB
  replace hB : CBXh cn := hB
  refine lv_aload_n hx hb (oc_42 0 shX10_add_0) rfl (lvA0 hl) ?_
  refine gf_RX10_9 S hK hP 17 xo_17 (v := .ref (g 30)) rfl (oc_180 1 (aq_1 shX10_add_0) uw_0_9) ?_
  refine lv_aload_n hx hb (oc_42 4 (aq_4 shX10_add_0)) rfl (lvA0 hl) ?_
  refine gf_RX10_36 S hK hP 17 xo_17 (v := .int (nI (cn 4))) rfl (oc_180 5 (aq_5 shX10_add_0) uw_0_36) ?_
  refine lv_iload_n hx hb (oc_27 8 (aq_8 shX10_add_0)) rfl (lvA1 hl) ?_
  have hFc := va_free (wc := [((g 30), .inl (cI, 8, .inl (Fn 30)))]) hD hS hA [18] (one_im xo_18)
  refine va_callv (runS_w (As := [.ref (g 30), .int (nI (cn 4)), .int v0]) (rest := []) S (q_l_put l D cI cB cZ (g 30) 8 (Fn 30) (nI (cn 4)) v0 s.heap.size (by (first | omega | (have zz0 := Hid.u hb_cn; omega)))) kS_RX10_40 hK hP hD [18] (one_is xo_18) (one_im xo_18) rfl ⟨Nat.le_of_ble_eq_true rfl, Nat.le_of_ble_eq_true rfl⟩ ⟨Nat.le_of_ble_eq_true rfl, Nat.le_of_ble_eq_true rfl⟩ rfl hl.1 rfl (Nat.le_of_ble_eq_true rfl) (oc_184 9 (aq_9 shX10_add_0) uw_0_40)) hS (fun q _ h => hFc q h) hFc (fun u_3 t H1 locs ht hvm h_2 hB1 hz1 hk1 hS => ?_)
  obtain ⟨hP1, hD1⟩ := hB1
  rw [ht] at hP1
  obtain ⟨hP, hD⟩ := wset1 hP hD xo_18 hk1 hP1
  obtain rfl : u_3 = (putM (Fn 30) 8 (nI (cn 4)) v0) := h_2
  generalize H1 = H at hP hS ⊢
  have hP : va_P D vwCl (wX cI (D.1 99) zz g ad cn In (va_up Fn 30 (putM (Fn 30) 8 (nI (cn 4)) v0))) H := va_P_eq xsa_18 hP
  have hD : va_D A (wX cI (D.1 99) zz g ad cn In (va_up Fn 30 (putM (Fn 30) 8 (nI (cn 4)) v0))) := va_D_eq xsa_18 hD
  refine lv_aload_n hx hb (oc_42 12 (aq_12 shX10_add_0)) rfl (lvA0 hl) ?_
  refine gf_RX10_15 S hK hP 17 xo_17 (v := .ref (g 31)) rfl (oc_180 13 (aq_13 shX10_add_0) uw_0_15) ?_
  refine lv_aload_n hx hb (oc_42 16 (aq_16 shX10_add_0)) rfl (lvA0 hl) ?_
  refine gf_RX10_36 S hK hP 17 xo_17 (v := .int (nI (cn 4))) rfl (oc_180 17 (aq_17 shX10_add_0) uw_0_36) ?_
  refine lv_iload_n hx hb (oc_29 20 (aq_20 shX10_add_0)) rfl (lvA3 hl) ?_
  have hFc := va_free (wc := [((g 31), .inl (cI, 8, .inl (Fn 31)))]) hD hS hA [19] (one_im xo_19)
  refine va_callv (runS_w (As := [.ref (g 31), .int (nI (cn 4)), .int v2]) (rest := []) S (q_l_put l D cI cB cZ (g 31) 8 (Fn 31) (nI (cn 4)) v2 H.size (by (first | omega | (have zz0 := Hid.u hb_cn; omega)))) kS_RX10_40 hK hP hD [19] (one_is xo_19) (one_im xo_19) rfl ⟨Nat.le_of_ble_eq_true rfl, Nat.le_of_ble_eq_true rfl⟩ ⟨Nat.le_of_ble_eq_true rfl, Nat.le_of_ble_eq_true rfl⟩ rfl hl.1 rfl (Nat.le_of_ble_eq_true rfl) (oc_184 21 (aq_21 shX10_add_0) uw_0_40)) hS (fun q _ h => hFc q h) hFc (fun u_6 t H1 locs ht hvm h_5 hB1 hz1 hk1 hS => ?_)
  obtain ⟨hP1, hD1⟩ := hB1
  rw [ht] at hP1
  obtain ⟨hP, hD⟩ := wset1 hP hD xo_19 hk1 hP1
  obtain rfl : u_6 = (putM (Fn 31) 8 (nI (cn 4)) v2) := h_5
  generalize H1 = H at hP hS ⊢
  have hP : va_P D vwCl (wX cI (D.1 99) zz g ad cn In (va_up (va_up Fn 30 (putM (Fn 30) 8 (nI (cn 4)) v0)) 31 (putM (Fn 31) 8 (nI (cn 4)) v2))) H := va_P_eq xsa_19 hP
  have hD : va_D A (wX cI (D.1 99) zz g ad cn In (va_up (va_up Fn 30 (putM (Fn 30) 8 (nI (cn 4)) v0)) 31 (putM (Fn 31) 8 (nI (cn 4)) v2))) := va_D_eq xsa_19 hD
  refine lv_aload_n hx hb (oc_42 24 shX10_add_24) rfl (lvA0 hl) ?_
  refine gf_RX10_18 S hK hP 17 xo_17 (v := .ref (g 32)) rfl (oc_180 25 (aq_1 shX10_add_24) uw_0_18) ?_
  refine lv_aload_n hx hb (oc_42 28 (aq_4 shX10_add_24)) rfl (lvA0 hl) ?_
  refine gf_RX10_36 S hK hP 17 xo_17 (v := .int (nI (cn 4))) rfl (oc_180 29 (aq_5 shX10_add_24) uw_0_36) ?_
  refine lv_aload_n hx hb (oc_44 32 (aq_8 shX10_add_24)) rfl (lvA2 hl) ?_
  refine gf_RX10_46 S hK hP _ (xf_0 hk) (v := .int ((Fn 100) k0)) rfl (oc_180 33 (aq_9 shX10_add_24) uw_0_46) ?_
  have hFc := va_free (wc := [((g 32), .inl (cI, 8, .inl (Fn 32)))]) hD hS hA [20] (one_im xo_20)
  refine va_callv (runS_w (As := [.ref (g 32), .int (nI (cn 4)), .int ((Fn 100) k0)]) (rest := []) S (q_l_put l D cI cB cZ (g 32) 8 (Fn 32) (nI (cn 4)) ((Fn 100) k0) H.size (by (first | omega | (have zz0 := Hid.u hb_cn; omega)))) kS_RX10_40 hK hP hD [20] (one_is xo_20) (one_im xo_20) rfl ⟨Nat.le_of_ble_eq_true rfl, Nat.le_of_ble_eq_true rfl⟩ ⟨Nat.le_of_ble_eq_true rfl, Nat.le_of_ble_eq_true rfl⟩ rfl hl.1 rfl (Nat.le_of_ble_eq_true rfl) (oc_184 36 (aq_12 shX10_add_24) uw_0_40)) hS (fun q _ h => hFc q h) hFc (fun u_9 t H1 locs ht hvm h_8 hB1 hz1 hk1 hS => ?_)
  obtain ⟨hP1, hD1⟩ := hB1
  rw [ht] at hP1
  obtain ⟨hP, hD⟩ := wset1 hP hD xo_20 hk1 hP1
  obtain rfl : u_9 = (putM (Fn 32) 8 (nI (cn 4)) ((Fn 100) k0)) := h_8
  generalize H1 = H at hP hS ⊢
  have hP : va_P D vwCl (wX cI (D.1 99) zz g ad cn In (va_up (va_up (va_up Fn 30 (putM (Fn 30) 8 (nI (cn 4)) v0)) 31 (putM (Fn 31) 8 (nI (cn 4)) v2)) 32 (putM (Fn 32) 8 (nI (cn 4)) ((Fn 100) k0)))) H := va_P_eq xsa_20 hP
  have hD : va_D A (wX cI (D.1 99) zz g ad cn In (va_up (va_up (va_up Fn 30 (putM (Fn 30) 8 (nI (cn 4)) v0)) 31 (putM (Fn 31) 8 (nI (cn 4)) v2)) 32 (putM (Fn 32) 8 (nI (cn 4)) ((Fn 100) k0)))) := va_D_eq xsa_20 hD
  refine lv_aload_n hx hb (oc_42 39 (aq_15 shX10_add_24)) rfl (lvA0 hl) ?_
  refine gf_RX10_21 S hK hP 17 xo_17 (v := .ref (g 33)) rfl (oc_180 40 (aq_16 shX10_add_24) uw_0_21) ?_
  refine lv_aload_n hx hb (oc_42 43 (aq_19 shX10_add_24)) rfl (lvA0 hl) ?_
  refine gf_RX10_36 S hK hP 17 xo_17 (v := .int (nI (cn 4))) rfl (oc_180 44 (aq_20 shX10_add_24) uw_0_36) ?_
  refine lv_aload_n hx hb (oc_44 47 (aq_23 shX10_add_24)) rfl (lvA2 hl) ?_
  refine gf_RX10_51 S hK hP _ (xf_0 hk) (v := .int ((Fn 101) k0)) rfl (oc_180 48 shX10_add_48 uw_0_51) ?_
  have hFc := va_free (wc := [((g 33), .inl (cI, 8, .inl (Fn 33)))]) hD hS hA [21] (one_im xo_21)
  refine va_callv (runS_w (As := [.ref (g 33), .int (nI (cn 4)), .int ((Fn 101) k0)]) (rest := []) S (q_l_put l D cI cB cZ (g 33) 8 (Fn 33) (nI (cn 4)) ((Fn 101) k0) H.size (by (first | omega | (have zz0 := Hid.u hb_cn; omega)))) kS_RX10_40 hK hP hD [21] (one_is xo_21) (one_im xo_21) rfl ⟨Nat.le_of_ble_eq_true rfl, Nat.le_of_ble_eq_true rfl⟩ ⟨Nat.le_of_ble_eq_true rfl, Nat.le_of_ble_eq_true rfl⟩ rfl hl.1 rfl (Nat.le_of_ble_eq_true rfl) (oc_184 51 (aq_3 shX10_add_48) uw_0_40)) hS (fun q _ h => hFc q h) hFc (fun u_12 t H1 locs ht hvm h_11 hB1 hz1 hk1 hS => ?_)
  obtain ⟨hP1, hD1⟩ := hB1
  rw [ht] at hP1
  obtain ⟨hP, hD⟩ := wset1 hP hD xo_21 hk1 hP1
  obtain rfl : u_12 = (putM (Fn 33) 8 (nI (cn 4)) ((Fn 101) k0)) := h_11
  generalize H1 = H at hP hS ⊢
  have hP : va_P D vwCl (wX cI (D.1 99) zz g ad cn In (va_up (va_up (va_up (va_up Fn 30 (putM (Fn 30) 8 (nI (cn 4)) v0)) 31 (putM (Fn 31) 8 (nI (cn 4)) v2)) 32 (putM (Fn 32) 8 (nI (cn 4)) ((Fn 100) k0))) 33 (putM (Fn 33) 8 (nI (cn 4)) ((Fn 101) k0)))) H := va_P_eq xsa_21 hP
  have hD : va_D A (wX cI (D.1 99) zz g ad cn In (va_up (va_up (va_up (va_up Fn 30 (putM (Fn 30) 8 (nI (cn 4)) v0)) 31 (putM (Fn 31) 8 (nI (cn 4)) v2)) 32 (putM (Fn 32) 8 (nI (cn 4)) ((Fn 100) k0))) 33 (putM (Fn 33) 8 (nI (cn 4)) ((Fn 101) k0)))) := va_D_eq xsa_21 hD
  refine lv_aload_n hx hb (oc_42 54 (aq_6 shX10_add_48)) rfl (lvA0 hl) ?_
  refine lv_dup hx hb (oc_89 55 (aq_7 shX10_add_48)) rfl ?_
  refine gf_RX10_36 S hK hP 17 xo_17 (v := .int (nI (cn 4))) rfl (oc_180 56 (aq_8 shX10_add_48) uw_0_36) ?_
  refine lv_iconst (v := 1) hx hb (oc_4 59 (aq_11 shX10_add_48)) kic_1 ?_
  refine lv_iadd hx hb (oc_96 60 (aq_12 shX10_add_48)) ?_
  refine lv_topi (fun y_13 ey_13 => ?_)
  obtain rfl : y_13 = (nI ((cn 4) + 1)) := ey_13.trans (nI_add (cn 4) 1)
  refine pf_RX10_36 S hK hP hD hS 17 xo_17 (v := .int (nI ((cn 4) + 1))) (Nat.le_of_ble_eq_true rfl) rfl rfl (oc_181 61 (aq_13 shX10_add_48) uw_0_36) (fun H locs hP hD hS => ?_)
  have hP : va_P D vwCl (wX cI (D.1 99) zz g ad (va_up cn 4 ((cn 4) + 1)) In (va_up (va_up (va_up (va_up Fn 30 (putM (Fn 30) 8 (nI (cn 4)) v0)) 31 (putM (Fn 31) 8 (nI (cn 4)) v2)) 32 (putM (Fn 32) 8 (nI (cn 4)) ((Fn 100) k0))) 33 (putM (Fn 33) 8 (nI (cn 4)) ((Fn 101) k0)))) H := va_P_eq (xsf_17_6) hP
  have hD : va_D A (wX cI (D.1 99) zz g ad (va_up cn 4 ((cn 4) + 1)) In (va_up (va_up (va_up (va_up Fn 30 (putM (Fn 30) 8 (nI (cn 4)) v0)) 31 (putM (Fn 31) 8 (nI (cn 4)) v2)) 32 (putM (Fn 32) 8 (nI (cn 4)) ((Fn 100) k0))) 33 (putM (Fn 33) 8 (nI (cn 4)) ((Fn 101) k0)))) := va_D_eq (xsf_17_6) hD
  exact W.vret hx hb hr (fun t ht hW => ⟨⟨((va_up cn 4 ((cn 4) + 1)), In, (va_up (va_up (va_up (va_up Fn 30 (putM (Fn 30) 8 (nI (cn 4)) v0)) 31 (putM (Fn 31) 8 (nI (cn 4)) v2)) 32 (putM (Fn 32) 8 (nI (cn 4)) ((Fn 100) k0))) 33 (putM (Fn 33) 8 (nI (cn 4)) ((Fn 101) k0)))), rfl, ⟨(Fr.mo (Fr.f 33 (Fr.f 32 (Fr.f 31 (Fr.f 30 (Fr.c 4 Fr.rf))))) (sbl rfl) (sbl rfl) (sbl rfl)), (CBX.u4 (v := ((cn 4) + 1)) hB (show ((cn 4) + 1) ≤ 8 by (first | omega | (have zz0 := Hid.u hb_cn; omega)))), (by show (va_up cn 4 ((cn 4) + 1)) 4 = cn 4 + 1; rfl)⟩, by rw [ht]; exact hP, hD⟩, hS.F ht⟩) hS.2.2 (oc_177 64 (aq_16 shX10_add_48))
set_option maxRecDepth 100000 in
set_option maxHeartbeats 4000000 in
theorem q_Xbetween (l : Launch) (D : va_G) (cI cB cZ : ClassId) (zz qq vv : Nat) (bt : Nat → Int32) (g : Nat → Nat) (ad : Nat → Nat → Nat) (cn : Nat → Nat) (In : Nat → Int32) (Fn : Nat → Nat → Int32) (v0 v1 : Int32) (hB : CBX cn) : Met l yX10_between (CWS yX10_between cX10_between 3 (some .int)) (RM 2 0 0) (PBrx [.ref (g 9), .int v0, .int v1] D cI cB cZ zz qq vv bt (wX cI (D.1 99) zz g ad cn In Fn)) (vp_Si (fun _ => True)) 0 0 (fun _ => False) := by
  refine en_rx rfl pn_RX10 (Nat.le_of_ble_eq_true rfl) (fun p e s m below meth c hx hb hml hown S hr hlocks hnm hP hK hXS hS ls hl => ?_)
  have hl : lv_has ls 3 [(0, .ref (g 9)), (1, .int v0), (2, .int v1)] := hl
  have hb_cn : Hid (CBX cn) := hB
  replace hB : CBXh cn := hB
  refine lv_aload_n hx hb (oc_42 0 shX10_between_0) rfl (lvA0 hl) ?_
  refine gf_RX10_18 S hK hP 17 xo_17 (v := .ref (g 32)) rfl (oc_180 1 (aq_1 shX10_between_0) uw_0_18) ?_
  refine lv_iload_n hx hb (oc_27 4 (aq_4 shX10_between_0)) rfl (lvA1 hl) ?_
  refine vp_callSi (runS_r (As := [.ref (g 32), .int v0]) (rest := []) S (q_l_at l D cI cB cZ (g 32) 8 (Fn 32) v0 (by (first | omega | (have zz0 := Hid.u hb_cn; omega)))) kS_RX10_54 hK hP [20] (one_is xo_20) ⟨Nat.le_of_ble_eq_true rfl, Nat.le_of_ble_eq_true rfl⟩ ⟨Nat.le_of_ble_eq_true rfl, Nat.le_of_ble_eq_true rfl⟩ rfl hl.1 rfl (Nat.le_of_ble_eq_true rfl) (oc_184 5 (aq_5 shX10_between_0) uw_0_54)) (fun r_1 h_2 => ?_)
  subst h_2
  refine lv_aload_n hx hb (oc_42 8 (aq_8 shX10_between_0)) rfl (lvA0 hl) ?_
  refine gf_RX10_21 S hK hP 17 xo_17 (v := .ref (g 33)) rfl (oc_180 9 (aq_9 shX10_between_0) uw_0_21) ?_
  refine lv_iload_n hx hb (oc_27 12 (aq_12 shX10_between_0)) rfl (lvA1 hl) ?_
  refine vp_callSi (runS_r (As := [.ref (g 33), .int v0]) (rest := [.int (atM (Fn 32) 8 v0)]) S (q_l_at l D cI cB cZ (g 33) 8 (Fn 33) v0 (by (first | omega | (have zz0 := Hid.u hb_cn; omega)))) kS_RX10_54 hK hP [21] (one_is xo_21) ⟨Nat.le_of_ble_eq_true rfl, Nat.le_of_ble_eq_true rfl⟩ ⟨Nat.le_of_ble_eq_true rfl, Nat.le_of_ble_eq_true rfl⟩ rfl hl.1 rfl (Nat.le_of_ble_eq_true rfl) (oc_184 13 (aq_13 shX10_between_0) uw_0_54)) (fun r_3 h_4 => ?_)
  subst h_4
  refine lv_aload_n hx hb (oc_42 16 (aq_16 shX10_between_0)) rfl (lvA0 hl) ?_
  refine gf_RX10_18 S hK hP 17 xo_17 (v := .ref (g 32)) rfl (oc_180 17 (aq_17 shX10_between_0) uw_0_18) ?_
  refine lv_iload_n hx hb (oc_28 20 (aq_20 shX10_between_0)) rfl (lvA2 hl) ?_
  refine vp_callSi (runS_r (As := [.ref (g 32), .int v1]) (rest := [.int (atM (Fn 33) 8 v0), .int (atM (Fn 32) 8 v0)]) S (q_l_at l D cI cB cZ (g 32) 8 (Fn 32) v1 (by (first | omega | (have zz0 := Hid.u hb_cn; omega)))) kS_RX10_54 hK hP [20] (one_is xo_20) ⟨Nat.le_of_ble_eq_true rfl, Nat.le_of_ble_eq_true rfl⟩ ⟨Nat.le_of_ble_eq_true rfl, Nat.le_of_ble_eq_true rfl⟩ rfl hl.1 rfl (Nat.le_of_ble_eq_true rfl) (oc_184 21 (aq_21 shX10_between_0) uw_0_54)) (fun r_5 h_6 => ?_)
  subst h_6
  refine lv_aload_n hx hb (oc_42 24 shX10_between_24) rfl (lvA0 hl) ?_
  refine gf_RX10_21 S hK hP 17 xo_17 (v := .ref (g 33)) rfl (oc_180 25 (aq_1 shX10_between_24) uw_0_21) ?_
  refine lv_iload_n hx hb (oc_28 28 (aq_4 shX10_between_24)) rfl (lvA2 hl) ?_
  refine vp_callSi (runS_r (As := [.ref (g 33), .int v1]) (rest := [.int (atM (Fn 32) 8 v1), .int (atM (Fn 33) 8 v0), .int (atM (Fn 32) 8 v0)]) S (q_l_at l D cI cB cZ (g 33) 8 (Fn 33) v1 (by (first | omega | (have zz0 := Hid.u hb_cn; omega)))) kS_RX10_54 hK hP [21] (one_is xo_21) ⟨Nat.le_of_ble_eq_true rfl, Nat.le_of_ble_eq_true rfl⟩ ⟨Nat.le_of_ble_eq_true rfl, Nat.le_of_ble_eq_true rfl⟩ rfl hl.1 rfl (Nat.le_of_ble_eq_true rfl) (oc_184 29 (aq_5 shX10_between_24) uw_0_54)) (fun r_7 h_8 => ?_)
  subst h_8
  refine vp_callSi (runS_r (As := [.int (atM (Fn 32) 8 v0), .int (atM (Fn 33) 8 v0), .int (atM (Fn 32) 8 v1), .int (atM (Fn 33) 8 v1)]) (rest := []) S (q_Xway l D cI cB cZ (atM (Fn 32) 8 v0) (atM (Fn 33) 8 v0) (atM (Fn 32) 8 v1) (atM (Fn 33) 8 v1) ) kS_RX10_58 hK hP [] rfl ⟨Nat.le_of_ble_eq_true rfl, Nat.le_of_ble_eq_true rfl⟩ ⟨Nat.le_of_ble_eq_true rfl, Nat.le_of_ble_eq_true rfl⟩ rfl hl.1 rfl (Nat.le_of_ble_eq_true rfl) (oc_184 32 (aq_8 shX10_between_24) uw_0_58)) (fun r_9 h_10 => ?_)
  exact W.iret (v := r_9) hx hb hr (fun t ht hW => ⟨r_9, rfl, trivial, ht⟩) (fun _ h => absurd h List.not_mem_nil) (oc_172 35 (aq_11 shX10_between_24))
set_option maxRecDepth 100000 in
set_option maxHeartbeats 4000000 in
theorem q_Xthrough (l : Launch) (D : va_G) (cI cB cZ : ClassId) (zz qq vv : Nat) (bt : Nat → Int32) (g : Nat → Nat) (ad : Nat → Nat → Nat) (cn : Nat → Nat) (In : Nat → Int32) (Fn : Nat → Nat → Int32) (v0 v1 v2 : Int32) (hB : CBX cn) : Met l yX10_through (CWS yX10_through cX10_through 5 (some .int)) (RM 3 0 0) (PBrx [.ref (g 9), .int v0, .int v1, .int v2] D cI cB cZ zz qq vv bt (wX cI (D.1 99) zz g ad cn In Fn)) (vp_Si (fun _ => True)) 0 0 (fun _ => False) := by
  refine en_rx rfl pn_RX10 (Nat.le_of_ble_eq_true rfl) (fun p e s m below meth c hx hb hml hown S hr hlocks hnm hP hK hXS hS ls hl => ?_)
  have hl : lv_has ls 5 [(0, .ref (g 9)), (1, .int v0), (2, .int v1), (3, .int v2)] := hl
  have hb_cn : Hid (CBX cn) := hB
  replace hB : CBXh cn := hB
  refine lv_iload_n hx hb (oc_29 0 shX10_through_0) rfl (lvA3 hl) ?_
  refine lv_iconst (v := 1) hx hb (oc_4 1 (aq_1 shX10_through_0)) kic_1 ?_
  refine lv_iload_n hx hb (oc_28 2 (aq_2 shX10_through_0)) rfl (lvA2 hl) ?_
  refine lv_ishl hx hb (oc_120 3 (aq_3 shX10_through_0)) ?_
  refine lv_iconst (v := (-1)) hx hb (oc_2 4 (aq_4 shX10_through_0)) kic_m1 ?_
  refine lv_ixor hx hb (oc_130 5 (aq_5 shX10_through_0)) ?_
  refine lv_iand hx hb (oc_126 6 (aq_6 shX10_through_0)) ?_
  refine lv_istore (lv' := [(4, .int (v2 &&& ((1 <<< (v1 &&& 31)) ^^^ (-1)))), (0, .ref (g 9)), (1, .int v0), (2, .int v1), (3, .int v2)]) hx hb (oc_54 7 (aq_7 shX10_through_0) ub_4) hl (ltb rfl) rfl (fun ls hl => ?_)
  refine lv_aload_n hx hb (oc_42 9 (aq_9 shX10_through_0)) rfl (lvA1 hl) ?_
  refine lv_iload_n hx hb (oc_27 10 (aq_10 shX10_through_0)) rfl (lvA2 hl) ?_
  refine lv_iload_n hx hb (oc_28 11 (aq_11 shX10_through_0)) rfl (lvA3 hl) ?_
  refine vp_callSi (runV_rxa (As := [.int v0, .int v1]) (rest := []) S (q_Xbetween l D cI cB cZ zz qq vv bt g ad cn In Fn v0 v1 hB) kV_RX10_66 hK hXS hS hP 17 xo_17 rfl rfl ⟨Nat.le_of_ble_eq_true rfl, Nat.le_of_ble_eq_true rfl⟩ ⟨Nat.le_of_ble_eq_true rfl, Nat.le_of_ble_eq_true rfl⟩ rfl hl.1 rfl (Nat.le_of_ble_eq_true rfl) (oc_182 12 (aq_12 shX10_through_0) uw_0_66)) (fun r_1 h_2 => ?_)
  refine lv_aload_n hx hb (oc_42 15 (aq_15 shX10_through_0)) rfl (lvA1 hl) ?_
  refine gf_RX10_24 S hK hP 17 xo_17 (v := .ref (g 34)) rfl (oc_180 16 (aq_16 shX10_through_0) uw_0_24) ?_
  refine lv_iload hx hb (oc_21 19 (aq_19 shX10_through_0) ub_4) (lvA0 hl) ?_
  refine lv_bipush (v := 8) hx hb (oc_16 21 (aq_21 shX10_through_0) sgb_8) kbc_8 ?_
  refine lv_imul hx hb (oc_104 23 (aq_23 shX10_through_0)) ?_
  refine lv_iload_n hx hb (oc_28 24 shX10_through_24) rfl (lvA3 hl) ?_
  refine lv_iadd hx hb (oc_96 25 (aq_1 shX10_through_24)) ?_
  refine vp_callSi (runS_r (As := [.ref (g 34), .int (((v2 &&& ((1 <<< (v1 &&& 31)) ^^^ (-1))) * 8) + v1)]) (rest := [.int r_1]) S (q_l_at l D cI cB cZ (g 34) 2048 (Fn 34) (((v2 &&& ((1 <<< (v1 &&& 31)) ^^^ (-1))) * 8) + v1) (by (first | omega | (have zz0 := Hid.u hb_cn; omega)))) kS_RX10_54 hK hP [22] (one_is xo_22) ⟨Nat.le_of_ble_eq_true rfl, Nat.le_of_ble_eq_true rfl⟩ ⟨Nat.le_of_ble_eq_true rfl, Nat.le_of_ble_eq_true rfl⟩ rfl hl.1 rfl (Nat.le_of_ble_eq_true rfl) (oc_184 26 (aq_2 shX10_through_24) uw_0_54)) (fun r_3 h_4 => ?_)
  subst h_4
  refine lv_iadd hx hb (oc_96 29 (aq_5 shX10_through_24)) ?_
  exact W.iret (v := (r_1 + (atM (Fn 34) 2048 (((v2 &&& ((1 <<< (v1 &&& 31)) ^^^ (-1))) * 8) + v1)))) hx hb hr (fun t ht hW => ⟨(r_1 + (atM (Fn 34) 2048 (((v2 &&& ((1 <<< (v1 &&& 31)) ^^^ (-1))) * 8) + v1))), rfl, trivial, ht⟩) (fun _ h => absurd h List.not_mem_nil) (oc_172 30 (aq_6 shX10_through_24))
set_option maxRecDepth 100000 in
set_option maxHeartbeats 4000000 in
theorem q_Xshortest (l : Launch) (D : va_G) (cI cB cZ : ClassId) (zz qq vv : Nat) (bt : Nat → Int32) (g : Nat → Nat) (ad : Nat → Nat → Nat) (cn : Nat → Nat) (In : Nat → Int32) (Fn : Nat → Nat → Int32) (v0 v1 : Int32) (hB : CBX cn) : Met l yX10_shortest (CWS yX10_shortest cX10_shortest 6 (some .int)) (RM 4 0 0) (PBrx [.ref (g 9), .int v0, .int v1] D cI cB cZ zz qq vv bt (wX cI (D.1 99) zz g ad cn In Fn)) (vp_Si (fun _ => True)) 0 0 (fun _ => False) := by
  refine en_rx rfl pn_RX10 (Nat.le_of_ble_eq_true rfl) (fun p e s m below meth c hx hb hml hown S hr hlocks hnm hP hK hXS hS ls hl => ?_)
  have hl : lv_has ls 6 [(0, .ref (g 9)), (1, .int v0), (2, .int v1)] := hl
  have hb_cn : Hid (CBX cn) := hB
  replace hB : CBXh cn := hB
  refine lv_iconst (v := (-1)) hx hb (oc_2 0 shX10_shortest_0) kic_m1 ?_
  refine lv_istore_n (lv' := [(3, .int (-1)), (0, .ref (g 9)), (1, .int v0), (2, .int v1)]) hx hb (oc_62 1 (aq_1 shX10_shortest_0)) rfl hl (ltb rfl) rfl (fun ls hl => ?_)
  refine lv_iconst (v := 0) hx hb (oc_3 2 (aq_2 shX10_shortest_0)) kic_0 ?_
  refine lv_istore (lv' := [(4, .int 0), (3, .int (-1)), (0, .ref (g 9)), (1, .int v0), (2, .int v1)]) hx hb (oc_54 3 (aq_3 shX10_shortest_0) ub_4) hl (ltb rfl) rfl (fun ls hl => ?_)
  have lp_5 : ∀ (n : Nat) (i5 : Nat) (x5_3 : Int32) , cn 4 - i5 < n → (i5 ≤ cn 4) → ∀ ls : Array Slot, lv_has ls 6 [(4, .int (nI i5)), (3, .int x5_3), (0, .ref (g 9)), (1, .int v0), (2, .int v1)] → W p l e (RM 4 0 0) s m ([.ref (g 9), .int v0, .int v1]).toArray below meth c s.heap [] 0 0 (MQ below (vp_Si (fun _ => True)) ([.ref (g 9), .int v0, .int v1]).toArray s 0 0 (fun _ => False)) (F0 m 5 ls []) := by
    intro n5
    induction n5 with
    | zero => intros; (first | omega | (have zz0 := Hid.u hb_cn; omega))
    | succ n5 ih5 =>
      intro i5 x5_3 hmu5 hinv5 ls hl
      have hr5 := hinv5
      have ti5 : (nI i5).toInt = (i5 : Int) := nI_toInt (by (first | omega | (have zz0 := Hid.u hb_cn; omega)))
      refine lv_iload hx hb (oc_21 5 (aq_5 shX10_shortest_0) ub_4) (lvA0 hl) ?_
      refine lv_aload_n hx hb (oc_42 7 (aq_7 shX10_shortest_0)) rfl (lvA2 hl) ?_
      refine gf_RX10_36 S hK hP 17 xo_17 (v := .int (nI (cn 4))) rfl (oc_180 8 (aq_8 shX10_shortest_0) uw_0_36) ?_
      have : (nI (cn 4)).toInt = (((cn 4) : Nat) : Int) := nI_toInt (by (first | omega | (have zz0 := Hid.u hb_cn; omega)))
      refine lv_icmp_ge (tgt := 57) hx hb (oc_162 11 (aq_11 shX10_shortest_0) sgw_0_46) rfl (fun c_1 => ?_) (fun c_1 => ?_)
      ·
        have tc_1 : ((nI (cn 4)).toInt : Int) ≤ (nI i5).toInt := Int32.le_iff_toInt_le.mp c_1
        refine lv_iload_n hx hb (oc_29 57 (aq_8 shX10_shortest_49)) rfl (lvA1 hl) ?_
        refine lv_iconst (v := (-1)) hx hb (oc_2 58 (aq_9 shX10_shortest_49)) kic_m1 ?_
        refine lv_icmp_ne (tgt := 71) hx hb (oc_160 59 (aq_10 shX10_shortest_49) sgw_0_12) rfl (fun c_2 => ?_) (fun c_2 => ?_)
        ·
          have tc_2 : (x5_3.toInt : Int) ≠ (-1) := fun q => c_2 (Int32.toInt_inj.mp q)
          refine lv_iload_n hx hb (oc_29 71 (aq_22 shX10_shortest_49)) rfl (lvA1 hl) ?_
          exact W.iret (v := x5_3) hx hb hr (fun t ht hW => ⟨x5_3, rfl, trivial, ht⟩) (fun _ h => absurd h List.not_mem_nil) (oc_172 72 (aq_23 shX10_shortest_49))
        ·
          have tc_2 : (x5_3.toInt : Int) = (-1) := congrArg Int32.toInt c_2
          refine lv_aload_n hx hb (oc_42 62 (aq_13 shX10_shortest_49)) rfl (lvA2 hl) ?_
          refine lv_iload_n hx hb (oc_27 63 (aq_14 shX10_shortest_49)) rfl (lvA3 hl) ?_
          refine lv_iconst (v := (-1)) hx hb (oc_2 64 (aq_15 shX10_shortest_49)) kic_m1 ?_
          refine vp_callSi (runV_rxa (As := [.int v0, .int (-1)]) (rest := []) S (q_Xbetween l D cI cB cZ zz qq vv bt g ad cn In Fn v0 (-1) hB) kV_RX10_66 hK hXS hS hP 17 xo_17 rfl rfl ⟨Nat.le_of_ble_eq_true rfl, Nat.le_of_ble_eq_true rfl⟩ ⟨Nat.le_of_ble_eq_true rfl, Nat.le_of_ble_eq_true rfl⟩ rfl hl.1 rfl (Nat.le_of_ble_eq_true rfl) (oc_182 65 (aq_16 shX10_shortest_49) uw_0_66)) (fun r_3 h_4 => ?_)
          refine lv_goto (tgt := 72) hx hb (oc_167 68 (aq_19 shX10_shortest_49) sgw_0_4) rfl ?_
          exact W.iret (v := r_3) hx hb hr (fun t ht hW => ⟨r_3, rfl, trivial, ht⟩) (fun _ h => absurd h List.not_mem_nil) (oc_172 72 (aq_23 shX10_shortest_49))
      ·
        have tc_1 : ((nI i5).toInt : Int) < (nI (cn 4)).toInt := Int32.lt_iff_toInt_lt.mp (Int32.not_le.mp c_1)
        refine lv_iload_n hx hb (oc_28 14 (aq_14 shX10_shortest_0)) rfl (lvA4 hl) ?_
        refine lv_iload hx hb (oc_21 15 (aq_15 shX10_shortest_0) ub_4) (lvA0 hl) ?_
        refine lv_ishr hx hb (oc_122 17 (aq_17 shX10_shortest_0)) ?_
        refine lv_iconst (v := 1) hx hb (oc_4 18 (aq_18 shX10_shortest_0)) kic_1 ?_
        refine lv_iand hx hb (oc_126 19 (aq_19 shX10_shortest_0)) ?_
        refine lv_if_eq (tgt := 51) hx hb (oc_153 20 (aq_20 shX10_shortest_0) sgw_0_31) rfl (fun c_5 => ?_) (fun c_5 => ?_)
        ·
          have tc_5 : (((v1 >>> ((nI i5) &&& 31)) &&& 1).toInt : Int) = 0 := congrArg Int32.toInt c_5
          refine lv_iinc (v := (nI (i5 + 1))) (lv' := [(4, .int (nI (i5 + 1))), (3, .int x5_3), (0, .ref (g 9)), (1, .int v0), (2, .int v1)]) hx hb dX10_shortest_51 hl (k := 0) rfl (nI_1 _) (ltb rfl) rfl (fun ls hl => ?_)
          refine lv_goto (tgt := 5) hx hb dX10_shortest_54 rfl ?_
          exact ih5 (i5 + 1) x5_3 (by (first | omega | (have zz0 := Hid.u hb_cn; omega))) (by (first | omega | (have zz0 := Hid.u hb_cn; omega))) ls (lv_sub hl [0, 1, 2, 3, 4] rfl)
        ·
          have tc_5 : (((v1 >>> ((nI i5) &&& 31)) &&& 1).toInt : Int) ≠ 0 := fun q => c_5 (Int32.toInt_inj.mp q)
          refine lv_aload_n hx hb (oc_42 23 (aq_23 shX10_shortest_0)) rfl (lvA2 hl) ?_
          refine lv_iload_n hx hb (oc_27 24 shX10_shortest_24) rfl (lvA3 hl) ?_
          refine lv_iload hx hb (oc_21 25 (aq_1 shX10_shortest_24) ub_4) (lvA0 hl) ?_
          refine lv_iload_n hx hb (oc_28 27 (aq_3 shX10_shortest_24)) rfl (lvA4 hl) ?_
          refine vp_callSi (runV_rxa (As := [.int v0, .int (nI i5), .int v1]) (rest := []) S (q_Xthrough l D cI cB cZ zz qq vv bt g ad cn In Fn v0 (nI i5) v1 hB) kV_RX10_69 hK hXS hS hP 17 xo_17 rfl rfl ⟨Nat.le_of_ble_eq_true rfl, Nat.le_of_ble_eq_true rfl⟩ ⟨Nat.le_of_ble_eq_true rfl, Nat.le_of_ble_eq_true rfl⟩ rfl hl.1 rfl (Nat.le_of_ble_eq_true rfl) (oc_182 28 (aq_4 shX10_shortest_24) uw_0_69)) (fun r_6 h_7 => ?_)
          refine lv_istore (lv' := [(5, .int r_6), (4, .int (nI i5)), (3, .int x5_3), (0, .ref (g 9)), (1, .int v0), (2, .int v1)]) hx hb (oc_54 31 (aq_7 shX10_shortest_24) ub_5) hl (ltb rfl) rfl (fun ls hl => ?_)
          refine lv_iload_n hx hb (oc_29 33 (aq_9 shX10_shortest_24)) rfl (lvA2 hl) ?_
          refine lv_iconst (v := (-1)) hx hb (oc_2 34 (aq_10 shX10_shortest_24)) kic_m1 ?_
          refine lv_icmp_eq (tgt := 44) hx hb (oc_159 35 (aq_11 shX10_shortest_24) sgw_0_9) rfl (fun c_8 => ?_) (fun c_8 => ?_)
          ·
            have tc_8 : (x5_3.toInt : Int) = (-1) := congrArg Int32.toInt c_8
            refine lv_iload hx hb (oc_21 44 (aq_20 shX10_shortest_24) ub_5) (lvA0 hl) ?_
            refine lv_goto (tgt := 50) hx hb (oc_167 46 (aq_22 shX10_shortest_24) sgw_0_4) rfl ?_
            refine lv_istore_n (lv' := [(3, .int r_6), (5, .int r_6), (4, .int (nI i5)), (0, .ref (g 9)), (1, .int v0), (2, .int v1)]) hx hb (oc_62 50 (aq_1 shX10_shortest_49)) rfl hl (ltb rfl) rfl (fun ls hl => ?_)
            refine lv_iinc (v := (nI (i5 + 1))) (lv' := [(4, .int (nI (i5 + 1))), (3, .int r_6), (5, .int r_6), (0, .ref (g 9)), (1, .int v0), (2, .int v1)]) hx hb dX10_shortest_51 hl (k := 2) rfl (nI_1 _) (ltb rfl) rfl (fun ls hl => ?_)
            refine lv_goto (tgt := 5) hx hb dX10_shortest_54 rfl ?_
            exact ih5 (i5 + 1) r_6 (by (first | omega | (have zz0 := Hid.u hb_cn; omega))) (by (first | omega | (have zz0 := Hid.u hb_cn; omega))) ls (lv_sub hl [0, 1, 3, 4, 5] rfl)
          ·
            have tc_8 : (x5_3.toInt : Int) ≠ (-1) := fun q => c_8 (Int32.toInt_inj.mp q)
            refine lv_iload hx hb (oc_21 38 (aq_14 shX10_shortest_24) ub_5) (lvA0 hl) ?_
            refine lv_iload_n hx hb (oc_29 40 (aq_16 shX10_shortest_24)) rfl (lvA2 hl) ?_
            refine lv_icmp_ge (tgt := 49) hx hb (oc_162 41 (aq_17 shX10_shortest_24) sgw_0_8) rfl (fun c_9 => ?_) (fun c_9 => ?_)
            ·
              have tc_9 : (x5_3.toInt : Int) ≤ r_6.toInt := Int32.le_iff_toInt_le.mp c_9
              refine lv_iload_n hx hb (oc_29 49 shX10_shortest_49) rfl (lvA2 hl) ?_
              refine lv_istore_n (lv' := [(3, .int x5_3), (5, .int r_6), (4, .int (nI i5)), (0, .ref (g 9)), (1, .int v0), (2, .int v1)]) hx hb (oc_62 50 (aq_1 shX10_shortest_49)) rfl hl (ltb rfl) rfl (fun ls hl => ?_)
              refine lv_iinc (v := (nI (i5 + 1))) (lv' := [(4, .int (nI (i5 + 1))), (3, .int x5_3), (5, .int r_6), (0, .ref (g 9)), (1, .int v0), (2, .int v1)]) hx hb dX10_shortest_51 hl (k := 2) rfl (nI_1 _) (ltb rfl) rfl (fun ls hl => ?_)
              refine lv_goto (tgt := 5) hx hb dX10_shortest_54 rfl ?_
              exact ih5 (i5 + 1) x5_3 (by (first | omega | (have zz0 := Hid.u hb_cn; omega))) (by (first | omega | (have zz0 := Hid.u hb_cn; omega))) ls (lv_sub hl [0, 1, 3, 4, 5] rfl)
            ·
              have tc_9 : (r_6.toInt : Int) < x5_3.toInt := Int32.lt_iff_toInt_lt.mp (Int32.not_le.mp c_9)
              refine lv_iload hx hb (oc_21 44 (aq_20 shX10_shortest_24) ub_5) (lvA0 hl) ?_
              refine lv_goto (tgt := 50) hx hb (oc_167 46 (aq_22 shX10_shortest_24) sgw_0_4) rfl ?_
              refine lv_istore_n (lv' := [(3, .int r_6), (5, .int r_6), (4, .int (nI i5)), (0, .ref (g 9)), (1, .int v0), (2, .int v1)]) hx hb (oc_62 50 (aq_1 shX10_shortest_49)) rfl hl (ltb rfl) rfl (fun ls hl => ?_)
              refine lv_iinc (v := (nI (i5 + 1))) (lv' := [(4, .int (nI (i5 + 1))), (3, .int r_6), (5, .int r_6), (0, .ref (g 9)), (1, .int v0), (2, .int v1)]) hx hb dX10_shortest_51 hl (k := 2) rfl (nI_1 _) (ltb rfl) rfl (fun ls hl => ?_)
              refine lv_goto (tgt := 5) hx hb dX10_shortest_54 rfl ?_
              exact ih5 (i5 + 1) r_6 (by (first | omega | (have zz0 := Hid.u hb_cn; omega))) (by (first | omega | (have zz0 := Hid.u hb_cn; omega))) ls (lv_sub hl [0, 1, 3, 4, 5] rfl)
  exact lp_5 _ 0 (-1) (Nat.lt_succ_self _) (by (first | omega | (have zz0 := Hid.u hb_cn; omega))) ls (lv_sub hl [0, 1, 2, 3, 4] rfl)
set_option maxRecDepth 100000 in
set_option maxHeartbeats 4000000 in
theorem q_Xsolve (l : Launch) (D : va_G) (cI cB cZ : ClassId) (zz qq vv : Nat) (bt : Nat → Int32) (g : Nat → Nat) (ad : Nat → Nat → Nat) (cn : Nat → Nat) (In : Nat → Int32) (Fn : Nat → Nat → Int32)  (sz : Nat) (hB : CBX cn) : Met l yX10_solve (CWS yX10_solve cX10_solve 3 none) (RM 5 0 0) (PBx [.ref (g 9)] D cI cB cZ zz qq vv bt (wX cI (D.1 99) zz g ad cn In Fn) sz) (va_Qv (fun (u : (Nat → Nat) × (Nat → Int32) × (Nat → Nat → Int32)) => (fun c2 I2 F2 => Fr [] [] [34, 35] cn In Fn c2 I2 F2 ∧ CBX c2 ∧ (True)) u.1 u.2.1 u.2.2) (fun (u : (Nat → Nat) × (Nat → Int32) × (Nat → Nat → Int32)) (t : State) => va_P D vwCl (wX cI (D.1 99) zz g ad u.1 u.2.1 u.2.2) t.heap ∧ va_D (va_A (wX cI (D.1 99) zz g ad cn In Fn) sz) (wX cI (D.1 99) zz g ad u.1 u.2.1 u.2.2)) (va_A (wX cI (D.1 99) zz g ad cn In Fn) sz)) 0 0 (va_A (wX cI (D.1 99) zz g ad cn In Fn) sz) := by
  refine en_x (fun A => (va_Qv (fun (u : (Nat → Nat) × (Nat → Int32) × (Nat → Nat → Int32)) => (fun (c2 : Nat → Nat) (I2 : Nat → Int32) (F2 : Nat → Nat → Int32) => Fr [] [] [34, 35] cn In Fn c2 I2 F2 ∧ CBX c2 ∧ (True)) u.1 u.2.1 u.2.2) (fun (u : (Nat → Nat) × (Nat → Int32) × (Nat → Nat → Int32)) (t : State) => va_P D vwCl (wX cI (D.1 99) zz g ad u.1 u.2.1 u.2.2) t.heap ∧ va_D A (wX cI (D.1 99) zz g ad u.1 u.2.1 u.2.2)) A)) rfl rfl pn_RX10 (Nat.le_of_ble_eq_true rfl) (fun p e s m below meth c A hx hb hml hown S hr hlocks hnm hA hP hK hD hXS hS ls hl => ?_)
  have hl : lv_has ls 3 [(0, .ref (g 9))] := hl
  have hb_cn : Hid (CBX cn) := hB
  replace hB : CBXh cn := hB
  have h2p := p2b (n := cn 4) (by (first | omega | (have zz0 := Hid.u hb_cn; omega)))
  refine lv_iconst (v := 0) hx hb (oc_3 0 shX10_solve_0) kic_0 ?_
  refine lv_istore_n (lv' := [(1, .int 0), (0, .ref (g 9))]) hx hb (oc_60 1 (aq_1 shX10_solve_0)) rfl hl (ltb rfl) rfl (fun ls hl => ?_)
  have lp_2 : ∀ (n : Nat) (i2 : Nat) (F2 : Nat → Nat → Int32) (H : Heap) (locs : List Loc) , 2 ^ cn 4 - i2 < n → (i2 ≤ 2 ^ cn 4 ∧ Fr [] [] [34, 35] cn In Fn cn In F2 ∧ CBX cn) → va_P D vwCl (wX cI (D.1 99) zz g ad cn In F2) H → va_D A (wX cI (D.1 99) zz g ad cn In F2) → va_S A s.heap H locs → ∀ ls : Array Slot, lv_has ls 3 [(1, .int (nI i2)), (0, .ref (g 9))] → W p l e (RM 5 0 0) s m ([.ref (g 9)]).toArray below meth c H locs 0 0 (MQ below (va_Qv (fun (u : (Nat → Nat) × (Nat → Int32) × (Nat → Nat → Int32)) => (fun c2 I2 F2 => Fr [] [] [34, 35] cn In Fn c2 I2 F2 ∧ CBX c2 ∧ (True)) u.1 u.2.1 u.2.2) (fun (u : (Nat → Nat) × (Nat → Int32) × (Nat → Nat → Int32)) (t : State) => va_P D vwCl (wX cI (D.1 99) zz g ad u.1 u.2.1 u.2.2) t.heap ∧ va_D A (wX cI (D.1 99) zz g ad u.1 u.2.1 u.2.2)) A) ([.ref (g 9)]).toArray s 0 0 A) (F0 m 2 ls []) := by
    intro n2
    induction n2 with
    | zero => intros; (first | omega | (have zz0 := Hid.u hb_cn; omega))
    | succ n2 ih2 =>
      intro i2 F2 H locs hmu2 hinv2 hP hD hS ls hl
      obtain ⟨hr2, hfr2, hI2⟩ := hinv2
      have ti2 : (nI i2).toInt = (i2 : Int) := nI_toInt (by (first | omega | (have zz0 := Hid.u hb_cn; omega)))
      replace hI2 : CBXh cn := hI2
      have h2p := p2b (n := cn 4) (by (first | omega | (have zz0 := Hid.u hb_cn; omega)))
      refine lv_iload_n hx hb (oc_27 2 (aq_2 shX10_solve_0)) rfl (lvA0 hl) ?_
      refine lv_iconst (v := 1) hx hb (oc_4 3 (aq_3 shX10_solve_0)) kic_1 ?_
      refine lv_aload_n hx hb (oc_42 4 (aq_4 shX10_solve_0)) rfl (lvA1 hl) ?_
      refine gf_RX10_36 S hK hP 17 xo_17 (v := .int (nI (cn 4))) rfl (oc_180 5 (aq_5 shX10_solve_0) uw_0_36) ?_
      refine lv_ishl hx hb (oc_120 8 (aq_8 shX10_solve_0)) ?_
      refine lv_topi (fun y_1 ey_1 => ?_)
      obtain rfl : y_1 = (nI (2 ^ cn 4)) := ey_1.trans (sh1 (by (first | omega | (have zz0 := Hid.u hb_cn; omega))))
      have : (nI (2 ^ cn 4)).toInt = (((2 ^ cn 4) : Nat) : Int) := nI_toInt (by (first | omega | (have zz0 := Hid.u hb_cn; omega)))
      refine lv_icmp_ge (tgt := 75) hx hb (oc_162 9 (aq_9 shX10_solve_0) sgw_0_66) rfl (fun c_2 => ?_) (fun c_2 => ?_)
      ·
        have tc_2 : ((nI (2 ^ cn 4)).toInt : Int) ≤ (nI i2).toInt := Int32.le_iff_toInt_le.mp c_2
        exact W.vret hx hb hr (fun t ht hW => ⟨⟨(cn, In, F2), rfl, ⟨(Fr.mo hfr2 (sbl rfl) (sbl rfl) (sbl rfl)), hI2, trivial⟩, by rw [ht]; exact hP, hD⟩, hS.F ht⟩) hS.2.2 (oc_177 75 shX10_solve_75)
      ·
        have tc_2 : ((nI i2).toInt : Int) < (nI (2 ^ cn 4)).toInt := Int32.lt_iff_toInt_lt.mp (Int32.not_le.mp c_2)
        refine lv_iconst (v := 0) hx hb (oc_3 12 (aq_12 shX10_solve_0)) kic_0 ?_
        refine lv_istore_n (lv' := [(2, .int 0), (1, .int (nI i2)), (0, .ref (g 9))]) hx hb (oc_61 13 (aq_13 shX10_solve_0)) rfl hl (ltb rfl) rfl (fun ls hl => ?_)
        have lp_14 : ∀ (n : Nat) (i14 : Nat) (F14 : Nat → Nat → Int32) (H : Heap) (locs : List Loc) , cn 4 - i14 < n → (i14 ≤ cn 4 ∧ Fr [] [] [34, 35] cn In Fn cn In F14 ∧ CBX cn) → va_P D vwCl (wX cI (D.1 99) zz g ad cn In F14) H → va_D A (wX cI (D.1 99) zz g ad cn In F14) → va_S A s.heap H locs → ∀ ls : Array Slot, lv_has ls 3 [(2, .int (nI i14)), (1, .int (nI i2)), (0, .ref (g 9))] → W p l e (RM 5 0 0) s m ([.ref (g 9)]).toArray below meth c H locs 0 0 (MQ below (va_Qv (fun (u : (Nat → Nat) × (Nat → Int32) × (Nat → Nat → Int32)) => (fun c2 I2 F2 => Fr [] [] [34, 35] cn In Fn c2 I2 F2 ∧ CBX c2 ∧ (True)) u.1 u.2.1 u.2.2) (fun (u : (Nat → Nat) × (Nat → Int32) × (Nat → Nat → Int32)) (t : State) => va_P D vwCl (wX cI (D.1 99) zz g ad u.1 u.2.1 u.2.2) t.heap ∧ va_D A (wX cI (D.1 99) zz g ad u.1 u.2.1 u.2.2)) A) ([.ref (g 9)]).toArray s 0 0 A) (F0 m 14 ls []) := by
          intro n14
          induction n14 with
          | zero => intros; (first | omega | (have zz0 := Hid.u hb_cn; omega))
          | succ n14 ih14 =>
            intro i14 F14 H locs hmu14 hinv14 hP hD hS ls hl
            obtain ⟨hr14, hfr14, hI14⟩ := hinv14
            have ti14 : (nI i14).toInt = (i14 : Int) := nI_toInt (by (first | omega | (have zz0 := Hid.u hb_cn; omega)))
            replace hI14 : CBXh cn := hI14
            refine lv_iload_n hx hb (oc_28 14 (aq_14 shX10_solve_0)) rfl (lvA0 hl) ?_
            refine lv_aload_n hx hb (oc_42 15 (aq_15 shX10_solve_0)) rfl (lvA2 hl) ?_
            refine gf_RX10_36 S hK hP 17 xo_17 (v := .int (nI (cn 4))) rfl (oc_180 16 (aq_16 shX10_solve_0) uw_0_36) ?_
            have : (nI (cn 4)).toInt = (((cn 4) : Nat) : Int) := nI_toInt (by (first | omega | (have zz0 := Hid.u hb_cn; omega)))
            refine lv_icmp_ge (tgt := 55) hx hb (oc_162 19 (aq_19 shX10_solve_0) sgw_0_36) rfl (fun c_3 => ?_) (fun c_3 => ?_)
            ·
              have tc_3 : ((nI (cn 4)).toInt : Int) ≤ (nI i14).toInt := Int32.le_iff_toInt_le.mp c_3
              refine lv_aload_n hx hb (oc_42 55 (aq_6 shX10_solve_49)) rfl (lvA2 hl) ?_
              refine gf_RX10_27 S hK hP 17 xo_17 (v := .ref (g 35)) rfl (oc_180 56 (aq_7 shX10_solve_49) uw_0_27) ?_
              refine lv_iload_n hx hb (oc_27 59 (aq_10 shX10_solve_49)) rfl (lvA1 hl) ?_
              refine lv_aload_n hx hb (oc_42 60 (aq_11 shX10_solve_49)) rfl (lvA2 hl) ?_
              refine lv_iconst (v := (-1)) hx hb (oc_2 61 (aq_12 shX10_solve_49)) kic_m1 ?_
              refine lv_iload_n hx hb (oc_27 62 (aq_13 shX10_solve_49)) rfl (lvA1 hl) ?_
              refine vp_callSi (runV_rxa (As := [.int (-1), .int (nI i2)]) (rest := [.int (nI i2), .ref (g 35)]) S (q_Xshortest l D cI cB cZ zz qq vv bt g ad cn In F14 (-1) (nI i2) hI14) kV_RX10_62 hK hXS hS hP 17 xo_17 rfl rfl ⟨Nat.le_of_ble_eq_true rfl, Nat.le_of_ble_eq_true rfl⟩ ⟨Nat.le_of_ble_eq_true rfl, Nat.le_of_ble_eq_true rfl⟩ rfl hl.1 rfl (Nat.le_of_ble_eq_true rfl) (oc_182 63 (aq_14 shX10_solve_49) uw_0_62)) (fun r_4 h_5 => ?_)
              have hFc := va_free (wc := [((g 35), .inl (cI, 256, .inl (F14 35)))]) hD hS hA [23] (one_im xo_23)
              refine va_callv (runS_w (As := [.ref (g 35), .int (nI i2), .int r_4]) (rest := []) S (q_l_put l D cI cB cZ (g 35) 256 (F14 35) (nI i2) r_4 H.size (by (first | omega | (have zz0 := Hid.u hb_cn; omega)))) kS_RX10_40 hK hP hD [23] (one_is xo_23) (one_im xo_23) rfl ⟨Nat.le_of_ble_eq_true rfl, Nat.le_of_ble_eq_true rfl⟩ ⟨Nat.le_of_ble_eq_true rfl, Nat.le_of_ble_eq_true rfl⟩ rfl hl.1 rfl (Nat.le_of_ble_eq_true rfl) (oc_184 66 (aq_17 shX10_solve_49) uw_0_40)) hS (fun q _ h => hFc q h) hFc (fun u_8 t H1 locs ht hvm h_7 hB1 hz1 hk1 hS => ?_)
              obtain ⟨hP1, hD1⟩ := hB1
              rw [ht] at hP1
              obtain ⟨hP, hD⟩ := wset1 hP hD xo_23 hk1 hP1
              obtain rfl : u_8 = (putM (F14 35) 256 (nI i2) r_4) := h_7
              generalize H1 = H at hP hS ⊢
              have hP : va_P D vwCl (wX cI (D.1 99) zz g ad cn In (va_up F14 35 (putM (F14 35) 256 (nI i2) r_4))) H := va_P_eq xsa_23 hP
              have hD : va_D A (wX cI (D.1 99) zz g ad cn In (va_up F14 35 (putM (F14 35) 256 (nI i2) r_4))) := va_D_eq xsa_23 hD
              refine lv_iinc (v := (nI (i2 + 1))) (lv' := [(1, .int (nI (i2 + 1))), (2, .int (nI i14)), (0, .ref (g 9))]) hx hb (oc_132 69 (aq_20 shX10_solve_49) ub_1 sgb_1) hl (k := 1) rfl (nI_1 _) (ltb rfl) rfl (fun ls hl => ?_)
              refine lv_goto (tgt := 2) hx hb (oc_167 72 (aq_23 shX10_solve_49) sgw_255_186) rfl ?_
              exact ih2 (i2 + 1) (va_up F14 35 (putM (F14 35) 256 (nI i2) r_4)) _ _ (by (first | omega | (have zz0 := Hid.u hb_cn; omega))) ⟨(by (first | omega | (have zz0 := Hid.u hb_cn; omega))), (Fr.mo (Fr.f 35 hfr14) (sbl rfl) (sbl rfl) (sbl rfl)), hI14⟩ hP hD hS ls (lv_sub hl [0, 2] rfl)
            ·
              have tc_3 : ((nI i14).toInt : Int) < (nI (cn 4)).toInt := Int32.lt_iff_toInt_lt.mp (Int32.not_le.mp c_3)
              refine lv_iload_n hx hb (oc_27 22 (aq_22 shX10_solve_0)) rfl (lvA1 hl) ?_
              refine lv_iload_n hx hb (oc_28 23 (aq_23 shX10_solve_0)) rfl (lvA0 hl) ?_
              refine lv_ishr hx hb (oc_122 24 shX10_solve_24) ?_
              refine lv_iconst (v := 1) hx hb (oc_4 25 (aq_1 shX10_solve_24)) kic_1 ?_
              refine lv_iand hx hb (oc_126 26 (aq_2 shX10_solve_24)) ?_
              refine lv_if_ne (tgt := 49) hx hb (oc_154 27 (aq_3 shX10_solve_24) sgw_0_22) rfl (fun c_9 => ?_) (fun c_9 => ?_)
              ·
                have tc_9 : ((((nI i2) >>> ((nI i14) &&& 31)) &&& 1).toInt : Int) ≠ 0 := fun q => c_9 (Int32.toInt_inj.mp q)
                refine lv_iinc (v := (nI (i14 + 1))) (lv' := [(2, .int (nI (i14 + 1))), (1, .int (nI i2)), (0, .ref (g 9))]) hx hb (oc_132 49 shX10_solve_49 ub_2 sgb_1) hl (k := 0) rfl (nI_1 _) (ltb rfl) rfl (fun ls hl => ?_)
                refine lv_goto (tgt := 14) hx hb (oc_167 52 (aq_3 shX10_solve_49) sgw_255_218) rfl ?_
                exact ih14 (i14 + 1) F14 _ _ (by (first | omega | (have zz0 := Hid.u hb_cn; omega))) ⟨(by (first | omega | (have zz0 := Hid.u hb_cn; omega))), (Fr.mo hfr14 (sbl rfl) (sbl rfl) (sbl rfl)), hI14⟩ hP hD hS ls (lv_sub hl [0, 1, 2] rfl)
              ·
                have tc_9 : ((((nI i2) >>> ((nI i14) &&& 31)) &&& 1).toInt : Int) = 0 := congrArg Int32.toInt c_9
                refine lv_aload_n hx hb (oc_42 30 (aq_6 shX10_solve_24)) rfl (lvA2 hl) ?_
                refine gf_RX10_24 S hK hP 17 xo_17 (v := .ref (g 34)) rfl (oc_180 31 (aq_7 shX10_solve_24) uw_0_24) ?_
                refine lv_iload_n hx hb (oc_27 34 (aq_10 shX10_solve_24)) rfl (lvA1 hl) ?_
                refine lv_bipush (v := 8) hx hb (oc_16 35 (aq_11 shX10_solve_24) sgb_8) kbc_8 ?_
                refine lv_imul hx hb (oc_104 37 (aq_13 shX10_solve_24)) ?_
                refine lv_topi (fun y_10 ey_10 => ?_)
                obtain rfl : y_10 = (nI (i2 * 8)) := ey_10.trans (pk_mul i2 8)
                refine lv_iload_n hx hb (oc_28 38 (aq_14 shX10_solve_24)) rfl (lvA0 hl) ?_
                refine lv_iadd hx hb (oc_96 39 (aq_15 shX10_solve_24)) ?_
                refine lv_topi (fun y_11 ey_11 => ?_)
                obtain rfl : y_11 = (nI ((i2 * 8) + i14)) := ey_11.trans (nI_add (i2 * 8) i14)
                refine lv_aload_n hx hb (oc_42 40 (aq_16 shX10_solve_24)) rfl (lvA2 hl) ?_
                refine lv_iload_n hx hb (oc_28 41 (aq_17 shX10_solve_24)) rfl (lvA0 hl) ?_
                refine lv_iload_n hx hb (oc_27 42 (aq_18 shX10_solve_24)) rfl (lvA1 hl) ?_
                refine vp_callSi (runV_rxa (As := [.int (nI i14), .int (nI i2)]) (rest := [.int (nI ((i2 * 8) + i14)), .ref (g 34)]) S (q_Xshortest l D cI cB cZ zz qq vv bt g ad cn In F14 (nI i14) (nI i2) hI14) kV_RX10_62 hK hXS hS hP 17 xo_17 rfl rfl ⟨Nat.le_of_ble_eq_true rfl, Nat.le_of_ble_eq_true rfl⟩ ⟨Nat.le_of_ble_eq_true rfl, Nat.le_of_ble_eq_true rfl⟩ rfl hl.1 rfl (Nat.le_of_ble_eq_true rfl) (oc_182 43 (aq_19 shX10_solve_24) uw_0_62)) (fun r_12 h_13 => ?_)
                have hFc := va_free (wc := [((g 34), .inl (cI, 2048, .inl (F14 34)))]) hD hS hA [22] (one_im xo_22)
                refine va_callv (runS_w (As := [.ref (g 34), .int (nI ((i2 * 8) + i14)), .int r_12]) (rest := []) S (q_l_put l D cI cB cZ (g 34) 2048 (F14 34) (nI ((i2 * 8) + i14)) r_12 H.size (by (first | omega | (have zz0 := Hid.u hb_cn; omega)))) kS_RX10_40 hK hP hD [22] (one_is xo_22) (one_im xo_22) rfl ⟨Nat.le_of_ble_eq_true rfl, Nat.le_of_ble_eq_true rfl⟩ ⟨Nat.le_of_ble_eq_true rfl, Nat.le_of_ble_eq_true rfl⟩ rfl hl.1 rfl (Nat.le_of_ble_eq_true rfl) (oc_184 46 (aq_22 shX10_solve_24) uw_0_40)) hS (fun q _ h => hFc q h) hFc (fun u_16 t H1 locs ht hvm h_15 hB1 hz1 hk1 hS => ?_)
                obtain ⟨hP1, hD1⟩ := hB1
                rw [ht] at hP1
                obtain ⟨hP, hD⟩ := wset1 hP hD xo_22 hk1 hP1
                obtain rfl : u_16 = (putM (F14 34) 2048 (nI ((i2 * 8) + i14)) r_12) := h_15
                generalize H1 = H at hP hS ⊢
                have hP : va_P D vwCl (wX cI (D.1 99) zz g ad cn In (va_up F14 34 (putM (F14 34) 2048 (nI ((i2 * 8) + i14)) r_12))) H := va_P_eq xsa_22 hP
                have hD : va_D A (wX cI (D.1 99) zz g ad cn In (va_up F14 34 (putM (F14 34) 2048 (nI ((i2 * 8) + i14)) r_12))) := va_D_eq xsa_22 hD
                refine lv_iinc (v := (nI (i14 + 1))) (lv' := [(2, .int (nI (i14 + 1))), (1, .int (nI i2)), (0, .ref (g 9))]) hx hb (oc_132 49 shX10_solve_49 ub_2 sgb_1) hl (k := 0) rfl (nI_1 _) (ltb rfl) rfl (fun ls hl => ?_)
                refine lv_goto (tgt := 14) hx hb (oc_167 52 (aq_3 shX10_solve_49) sgw_255_218) rfl ?_
                exact ih14 (i14 + 1) (va_up F14 34 (putM (F14 34) 2048 (nI ((i2 * 8) + i14)) r_12)) _ _ (by (first | omega | (have zz0 := Hid.u hb_cn; omega))) ⟨(by (first | omega | (have zz0 := Hid.u hb_cn; omega))), (Fr.mo (Fr.f 34 hfr14) (sbl rfl) (sbl rfl) (sbl rfl)), hI14⟩ hP hD hS ls (lv_sub hl [0, 1, 2] rfl)
        exact lp_14 _ 0 F2 _ _ (Nat.lt_succ_self _) ⟨(by (first | omega | (have zz0 := Hid.u hb_cn; omega))), (Fr.mo hfr2 (sbl rfl) (sbl rfl) (sbl rfl)), hI2⟩ hP hD hS ls (lv_sub hl [0, 1, 2] rfl)
  exact lp_2 _ 0 Fn _ _ (Nat.lt_succ_self _) ⟨(by (first | omega | (have zz0 := Hid.u hb_cn; omega))), (Fr.mo Fr.rf (sbl rfl) (sbl rfl) (sbl rfl)), hB⟩ hP hD hS ls (lv_sub hl [0, 1] rfl)
set_option maxRecDepth 100000 in
set_option maxHeartbeats 4000000 in
theorem q_XlengthOf (l : Launch) (D : va_G) (cI cB cZ : ClassId) (zz qq vv : Nat) (bt : Nat → Int32) (g : Nat → Nat) (ad : Nat → Nat → Nat) (cn : Nat → Nat) (In : Nat → Int32) (Fn : Nat → Nat → Int32) (v0 : Int32) (hB : CBX cn) : Met l yX10_lengthOf (CWS yX10_lengthOf cX10_lengthOf 2 (some .int)) (RM 1 0 0) (PBrx [.ref (g 9), .int v0] D cI cB cZ zz qq vv bt (wX cI (D.1 99) zz g ad cn In Fn)) (vp_Si (fun _ => True)) 0 0 (fun _ => False) := by
  refine en_rx rfl pn_RX10 (Nat.le_of_ble_eq_true rfl) (fun p e s m below meth c hx hb hml hown S hr hlocks hnm hP hK hXS hS ls hl => ?_)
  have hl : lv_has ls 2 [(0, .ref (g 9)), (1, .int v0)] := hl
  have hb_cn : Hid (CBX cn) := hB
  replace hB : CBXh cn := hB
  refine lv_aload_n hx hb (oc_42 0 shX10_lengthOf_0) rfl (lvA0 hl) ?_
  refine gf_RX10_27 S hK hP 17 xo_17 (v := .ref (g 35)) rfl (oc_180 1 (aq_1 shX10_lengthOf_0) uw_0_27) ?_
  refine lv_iload_n hx hb (oc_27 4 (aq_4 shX10_lengthOf_0)) rfl (lvA1 hl) ?_
  refine vp_callSi (runS_r (As := [.ref (g 35), .int v0]) (rest := []) S (q_l_at l D cI cB cZ (g 35) 256 (Fn 35) v0 (by (first | omega | (have zz0 := Hid.u hb_cn; omega)))) kS_RX10_54 hK hP [23] (one_is xo_23) ⟨Nat.le_of_ble_eq_true rfl, Nat.le_of_ble_eq_true rfl⟩ ⟨Nat.le_of_ble_eq_true rfl, Nat.le_of_ble_eq_true rfl⟩ rfl hl.1 rfl (Nat.le_of_ble_eq_true rfl) (oc_184 5 (aq_5 shX10_lengthOf_0) uw_0_54)) (fun r_1 h_2 => ?_)
  subst h_2
  exact W.iret (v := (atM (Fn 35) 256 v0)) hx hb hr (fun t ht hW => ⟨(atM (Fn 35) 256 v0), rfl, trivial, ht⟩) (fun _ h => absurd h List.not_mem_nil) (oc_172 8 (aq_8 shX10_lengthOf_0))
set_option maxRecDepth 100000 in
set_option maxHeartbeats 4000000 in
theorem q_XwholeLength (l : Launch) (D : va_G) (cI cB cZ : ClassId) (zz qq vv : Nat) (bt : Nat → Int32) (g : Nat → Nat) (ad : Nat → Nat → Nat) (cn : Nat → Nat) (In : Nat → Int32) (Fn : Nat → Nat → Int32)  (hB : CBX cn) : Met l yX10_wholeLength (CWS yX10_wholeLength cX10_wholeLength 1 (some .int)) (RM 2 0 0) (PBrx [.ref (g 9)] D cI cB cZ zz qq vv bt (wX cI (D.1 99) zz g ad cn In Fn)) (vp_Si (fun _ => True)) 0 0 (fun _ => False) := by
  refine en_rx rfl pn_RX10 (Nat.le_of_ble_eq_true rfl) (fun p e s m below meth c hx hb hml hown S hr hlocks hnm hP hK hXS hS ls hl => ?_)
  have hl : lv_has ls 1 [(0, .ref (g 9))] := hl
  have hb_cn : Hid (CBX cn) := hB
  replace hB : CBXh cn := hB
  refine lv_aload_n hx hb (oc_42 0 shX10_wholeLength_0) rfl (lvA0 hl) ?_
  refine lv_iconst (v := 1) hx hb (oc_4 1 (aq_1 shX10_wholeLength_0)) kic_1 ?_
  refine lv_aload_n hx hb (oc_42 2 (aq_2 shX10_wholeLength_0)) rfl (lvA0 hl) ?_
  refine gf_RX10_36 S hK hP 17 xo_17 (v := .int (nI (cn 4))) rfl (oc_180 3 (aq_3 shX10_wholeLength_0) uw_0_36) ?_
  refine lv_ishl hx hb (oc_120 6 (aq_6 shX10_wholeLength_0)) ?_
  refine lv_iconst (v := 1) hx hb (oc_4 7 (aq_7 shX10_wholeLength_0)) kic_1 ?_
  refine lv_isub hx hb (oc_100 8 (aq_8 shX10_wholeLength_0)) ?_
  refine vp_callSi (runV_rxa (As := [.int ((1 <<< ((nI (cn 4)) &&& 31)) - 1)]) (rest := []) S (q_XlengthOf l D cI cB cZ zz qq vv bt g ad cn In Fn ((1 <<< ((nI (cn 4)) &&& 31)) - 1) hB) kV_RX10_73 hK hXS hS hP 17 xo_17 rfl rfl ⟨Nat.le_of_ble_eq_true rfl, Nat.le_of_ble_eq_true rfl⟩ ⟨Nat.le_of_ble_eq_true rfl, Nat.le_of_ble_eq_true rfl⟩ rfl hl.1 rfl (Nat.le_of_ble_eq_true rfl) (oc_182 9 (aq_9 shX10_wholeLength_0) uw_0_73)) (fun r_1 h_2 => ?_)
  exact W.iret (v := r_1) hx hb hr (fun t ht hW => ⟨r_1, rfl, trivial, ht⟩) (fun _ h => absurd h List.not_mem_nil) (oc_172 12 (aq_12 shX10_wholeLength_0))
set_option maxRecDepth 100000 in
set_option maxHeartbeats 4000000 in
theorem q_XfillOf (l : Launch) (D : va_G) (cI cB cZ : ClassId) (zz qq vv : Nat) (bt : Nat → Int32) (g : Nat → Nat) (ad : Nat → Nat → Nat) (cn : Nat → Nat) (In : Nat → Int32) (Fn : Nat → Nat → Int32) (v0 : Int32) (hB : CBX cn) : Met l yX10_fillOf (CWS yX10_fillOf cX10_fillOf 4 (some .int)) (RM 1 0 0) (PBrx [.ref (g 9), .int v0] D cI cB cZ zz qq vv bt (wX cI (D.1 99) zz g ad cn In Fn)) (vp_Si (fun _ => True)) 0 0 (fun _ => False) := by
  refine en_rx rfl pn_RX10 (Nat.le_of_ble_eq_true rfl) (fun p e s m below meth c hx hb hml hown S hr hlocks hnm hP hK hXS hS ls hl => ?_)
  have hl : lv_has ls 4 [(0, .ref (g 9)), (1, .int v0)] := hl
  have hb_cn : Hid (CBX cn) := hB
  replace hB : CBXh cn := hB
  refine lv_iconst (v := 0) hx hb (oc_3 0 shX10_fillOf_0) kic_0 ?_
  refine lv_istore_n (lv' := [(2, .int 0), (0, .ref (g 9)), (1, .int v0)]) hx hb (oc_61 1 (aq_1 shX10_fillOf_0)) rfl hl (ltb rfl) rfl (fun ls hl => ?_)
  refine lv_iconst (v := 0) hx hb (oc_3 2 (aq_2 shX10_fillOf_0)) kic_0 ?_
  refine lv_istore_n (lv' := [(3, .int 0), (2, .int 0), (0, .ref (g 9)), (1, .int v0)]) hx hb (oc_62 3 (aq_3 shX10_fillOf_0)) rfl hl (ltb rfl) rfl (fun ls hl => ?_)
  have lp_4 : ∀ (n : Nat) (i4 : Nat) (x4_2 : Int32) , cn 4 - i4 < n → (i4 ≤ cn 4) → ∀ ls : Array Slot, lv_has ls 4 [(3, .int (nI i4)), (2, .int x4_2), (0, .ref (g 9)), (1, .int v0)] → W p l e (RM 1 0 0) s m ([.ref (g 9), .int v0]).toArray below meth c s.heap [] 0 0 (MQ below (vp_Si (fun _ => True)) ([.ref (g 9), .int v0]).toArray s 0 0 (fun _ => False)) (F0 m 4 ls []) := by
    intro n4
    induction n4 with
    | zero => intros; (first | omega | (have zz0 := Hid.u hb_cn; omega))
    | succ n4 ih4 =>
      intro i4 x4_2 hmu4 hinv4 ls hl
      have hr4 := hinv4
      have ti4 : (nI i4).toInt = (i4 : Int) := nI_toInt (by (first | omega | (have zz0 := Hid.u hb_cn; omega)))
      refine lv_iload_n hx hb (oc_29 4 (aq_4 shX10_fillOf_0)) rfl (lvA0 hl) ?_
      refine lv_aload_n hx hb (oc_42 5 (aq_5 shX10_fillOf_0)) rfl (lvA2 hl) ?_
      refine gf_RX10_36 S hK hP 17 xo_17 (v := .int (nI (cn 4))) rfl (oc_180 6 (aq_6 shX10_fillOf_0) uw_0_36) ?_
      have : (nI (cn 4)).toInt = (((cn 4) : Nat) : Int) := nI_toInt (by (first | omega | (have zz0 := Hid.u hb_cn; omega)))
      refine lv_icmp_ge (tgt := 41) hx hb (oc_162 9 (aq_9 shX10_fillOf_0) sgw_0_32) rfl (fun c_1 => ?_) (fun c_1 => ?_)
      ·
        have tc_1 : ((nI (cn 4)).toInt : Int) ≤ (nI i4).toInt := Int32.le_iff_toInt_le.mp c_1
        refine lv_iload_n hx hb (oc_28 41 (aq_16 shX10_fillOf_25)) rfl (lvA1 hl) ?_
        exact W.iret (v := x4_2) hx hb hr (fun t ht hW => ⟨x4_2, rfl, trivial, ht⟩) (fun _ h => absurd h List.not_mem_nil) (oc_172 42 (aq_17 shX10_fillOf_25))
      ·
        have tc_1 : ((nI i4).toInt : Int) < (nI (cn 4)).toInt := Int32.lt_iff_toInt_lt.mp (Int32.not_le.mp c_1)
        refine lv_iload_n hx hb (oc_28 12 (aq_12 shX10_fillOf_0)) rfl (lvA1 hl) ?_
        refine lv_iload_n hx hb (oc_27 13 (aq_13 shX10_fillOf_0)) rfl (lvA3 hl) ?_
        refine lv_iload_n hx hb (oc_29 14 (aq_14 shX10_fillOf_0)) rfl (lvA0 hl) ?_
        refine lv_ishr hx hb (oc_122 15 (aq_15 shX10_fillOf_0)) ?_
        refine lv_iconst (v := 1) hx hb (oc_4 16 (aq_16 shX10_fillOf_0)) kic_1 ?_
        refine lv_iand hx hb (oc_126 17 (aq_17 shX10_fillOf_0)) ?_
        refine lv_if_eq (tgt := 32) hx hb (oc_153 18 (aq_18 shX10_fillOf_0) sgw_0_14) rfl (fun c_2 => ?_) (fun c_2 => ?_)
        ·
          have tc_2 : (((v0 >>> ((nI i4) &&& 31)) &&& 1).toInt : Int) = 0 := congrArg Int32.toInt c_2
          refine lv_iconst (v := 0) hx hb (oc_3 32 (aq_7 shX10_fillOf_25)) kic_0 ?_
          refine lv_iadd hx hb (oc_96 33 (aq_8 shX10_fillOf_25)) ?_
          refine lv_istore_n (lv' := [(2, .int (x4_2 + 0)), (3, .int (nI i4)), (0, .ref (g 9)), (1, .int v0)]) hx hb (oc_61 34 (aq_9 shX10_fillOf_25)) rfl hl (ltb rfl) rfl (fun ls hl => ?_)
          refine lv_iinc (v := (nI (i4 + 1))) (lv' := [(3, .int (nI (i4 + 1))), (2, .int (x4_2 + 0)), (0, .ref (g 9)), (1, .int v0)]) hx hb (oc_132 35 (aq_10 shX10_fillOf_25) ub_3 sgb_1) hl (k := 1) rfl (nI_1 _) (ltb rfl) rfl (fun ls hl => ?_)
          refine lv_goto (tgt := 4) hx hb (oc_167 38 (aq_13 shX10_fillOf_25) sgw_255_222) rfl ?_
          exact ih4 (i4 + 1) (x4_2 + 0) (by (first | omega | (have zz0 := Hid.u hb_cn; omega))) (by (first | omega | (have zz0 := Hid.u hb_cn; omega))) ls (lv_sub hl [0, 1, 2, 3] rfl)
        ·
          have tc_2 : (((v0 >>> ((nI i4) &&& 31)) &&& 1).toInt : Int) ≠ 0 := fun q => c_2 (Int32.toInt_inj.mp q)
          refine lv_aload_n hx hb (oc_42 21 (aq_21 shX10_fillOf_0)) rfl (lvA2 hl) ?_
          refine gf_RX10_15 S hK hP 17 xo_17 (v := .ref (g 31)) rfl (oc_180 22 (aq_22 shX10_fillOf_0) uw_0_15) ?_
          refine lv_iload_n hx hb (oc_29 25 shX10_fillOf_25) rfl (lvA0 hl) ?_
          refine vp_callSi (runS_r (As := [.ref (g 31), .int (nI i4)]) (rest := [.int x4_2]) S (q_l_at l D cI cB cZ (g 31) 8 (Fn 31) (nI i4) (by (first | omega | (have zz0 := Hid.u hb_cn; omega)))) kS_RX10_54 hK hP [19] (one_is xo_19) ⟨Nat.le_of_ble_eq_true rfl, Nat.le_of_ble_eq_true rfl⟩ ⟨Nat.le_of_ble_eq_true rfl, Nat.le_of_ble_eq_true rfl⟩ rfl hl.1 rfl (Nat.le_of_ble_eq_true rfl) (oc_184 26 (aq_1 shX10_fillOf_25) uw_0_54)) (fun r_3 h_4 => ?_)
          subst h_4
          refine lv_goto (tgt := 33) hx hb (oc_167 29 (aq_4 shX10_fillOf_25) sgw_0_4) rfl ?_
          refine lv_iadd hx hb (oc_96 33 (aq_8 shX10_fillOf_25)) ?_
          refine lv_istore_n (lv' := [(2, .int (x4_2 + (atM (Fn 31) 8 (nI i4)))), (3, .int (nI i4)), (0, .ref (g 9)), (1, .int v0)]) hx hb (oc_61 34 (aq_9 shX10_fillOf_25)) rfl hl (ltb rfl) rfl (fun ls hl => ?_)
          refine lv_iinc (v := (nI (i4 + 1))) (lv' := [(3, .int (nI (i4 + 1))), (2, .int (x4_2 + (atM (Fn 31) 8 (nI i4)))), (0, .ref (g 9)), (1, .int v0)]) hx hb (oc_132 35 (aq_10 shX10_fillOf_25) ub_3 sgb_1) hl (k := 1) rfl (nI_1 _) (ltb rfl) rfl (fun ls hl => ?_)
          refine lv_goto (tgt := 4) hx hb (oc_167 38 (aq_13 shX10_fillOf_25) sgw_255_222) rfl ?_
          exact ih4 (i4 + 1) (x4_2 + (atM (Fn 31) 8 (nI i4))) (by (first | omega | (have zz0 := Hid.u hb_cn; omega))) (by (first | omega | (have zz0 := Hid.u hb_cn; omega))) ls (lv_sub hl [0, 1, 2, 3] rfl)
  exact lp_4 _ 0 0 (Nat.lt_succ_self _) (by (first | omega | (have zz0 := Hid.u hb_cn; omega))) ls (lv_sub hl [0, 1, 2, 3] rfl)
set_option maxRecDepth 100000 in
set_option maxHeartbeats 4000000 in
theorem q_XnextStop (l : Launch) (D : va_G) (cI cB cZ : ClassId) (zz qq vv : Nat) (bt : Nat → Int32) (g : Nat → Nat) (ad : Nat → Nat → Nat) (cn : Nat → Nat) (In : Nat → Int32) (Fn : Nat → Nat → Int32) (v0 v1 : Int32) (hB : CBX cn) : Met l yX10_nextStop (CWS yX10_nextStop cX10_nextStop 5 (some .int)) (RM 5 0 0) (PBrx [.ref (g 9), .int v0, .int v1] D cI cB cZ zz qq vv bt (wX cI (D.1 99) zz g ad cn In Fn)) (vp_Si (fun _ => True)) 0 0 (fun _ => False) := by
  refine en_rx rfl pn_RX10 (Nat.le_of_ble_eq_true rfl) (fun p e s m below meth c hx hb hml hown S hr hlocks hnm hP hK hXS hS ls hl => ?_)
  have hl : lv_has ls 5 [(0, .ref (g 9)), (1, .int v0), (2, .int v1)] := hl
  have hb_cn : Hid (CBX cn) := hB
  replace hB : CBXh cn := hB
  refine lv_aload_n hx hb (oc_42 0 shX10_nextStop_0) rfl (lvA0 hl) ?_
  refine lv_iload_n hx hb (oc_27 1 (aq_1 shX10_nextStop_0)) rfl (lvA1 hl) ?_
  refine lv_iload_n hx hb (oc_28 2 (aq_2 shX10_nextStop_0)) rfl (lvA2 hl) ?_
  refine vp_callSi (runV_rxa (As := [.int v0, .int v1]) (rest := []) S (q_Xshortest l D cI cB cZ zz qq vv bt g ad cn In Fn v0 v1 hB) kV_RX10_62 hK hXS hS hP 17 xo_17 rfl rfl ⟨Nat.le_of_ble_eq_true rfl, Nat.le_of_ble_eq_true rfl⟩ ⟨Nat.le_of_ble_eq_true rfl, Nat.le_of_ble_eq_true rfl⟩ rfl hl.1 rfl (Nat.le_of_ble_eq_true rfl) (oc_182 3 (aq_3 shX10_nextStop_0) uw_0_62)) (fun r_1 h_2 => ?_)
  refine lv_istore_n (lv' := [(3, .int r_1), (0, .ref (g 9)), (1, .int v0), (2, .int v1)]) hx hb (oc_62 6 (aq_6 shX10_nextStop_0)) rfl hl (ltb rfl) rfl (fun ls hl => ?_)
  refine lv_iconst (v := 0) hx hb (oc_3 7 (aq_7 shX10_nextStop_0)) kic_0 ?_
  refine lv_istore (lv' := [(4, .int 0), (3, .int r_1), (0, .ref (g 9)), (1, .int v0), (2, .int v1)]) hx hb (oc_54 8 (aq_8 shX10_nextStop_0) ub_4) hl (ltb rfl) rfl (fun ls hl => ?_)
  have lp_10 : ∀ (n : Nat) (i10 : Nat) , cn 4 - i10 < n → (i10 ≤ cn 4) → ∀ ls : Array Slot, lv_has ls 5 [(4, .int (nI i10)), (3, .int r_1), (0, .ref (g 9)), (1, .int v0), (2, .int v1)] → W p l e (RM 5 0 0) s m ([.ref (g 9), .int v0, .int v1]).toArray below meth c s.heap [] 0 0 (MQ below (vp_Si (fun _ => True)) ([.ref (g 9), .int v0, .int v1]).toArray s 0 0 (fun _ => False)) (F0 m 10 ls []) := by
    intro n10
    induction n10 with
    | zero => intros; (first | omega | (have zz0 := Hid.u hb_cn; omega))
    | succ n10 ih10 =>
      intro i10 hmu10 hinv10 ls hl
      have hr10 := hinv10
      have ti10 : (nI i10).toInt = (i10 : Int) := nI_toInt (by (first | omega | (have zz0 := Hid.u hb_cn; omega)))
      refine lv_iload hx hb (oc_21 10 (aq_10 shX10_nextStop_0) ub_4) (lvA0 hl) ?_
      refine lv_aload_n hx hb (oc_42 12 (aq_12 shX10_nextStop_0)) rfl (lvA2 hl) ?_
      refine gf_RX10_36 S hK hP 17 xo_17 (v := .int (nI (cn 4))) rfl (oc_180 13 (aq_13 shX10_nextStop_0) uw_0_36) ?_
      have : (nI (cn 4)).toInt = (((cn 4) : Nat) : Int) := nI_toInt (by (first | omega | (have zz0 := Hid.u hb_cn; omega)))
      refine lv_icmp_ge (tgt := 49) hx hb (oc_162 16 (aq_16 shX10_nextStop_0) sgw_0_33) rfl (fun c_3 => ?_) (fun c_3 => ?_)
      ·
        have tc_3 : ((nI (cn 4)).toInt : Int) ≤ (nI i10).toInt := Int32.le_iff_toInt_le.mp c_3
        refine lv_iconst (v := (-1)) hx hb (oc_2 49 shX10_nextStop_49) kic_m1 ?_
        exact W.iret (v := (-1)) hx hb hr (fun t ht hW => ⟨(-1), rfl, trivial, ht⟩) (fun _ h => absurd h List.not_mem_nil) (oc_172 50 (aq_1 shX10_nextStop_49))
      ·
        have tc_3 : ((nI i10).toInt : Int) < (nI (cn 4)).toInt := Int32.lt_iff_toInt_lt.mp (Int32.not_le.mp c_3)
        refine lv_iload_n hx hb (oc_28 19 (aq_19 shX10_nextStop_0)) rfl (lvA4 hl) ?_
        refine lv_iload hx hb (oc_21 20 (aq_20 shX10_nextStop_0) ub_4) (lvA0 hl) ?_
        refine lv_ishr hx hb (oc_122 22 (aq_22 shX10_nextStop_0)) ?_
        refine lv_iconst (v := 1) hx hb (oc_4 23 (aq_23 shX10_nextStop_0)) kic_1 ?_
        refine lv_iand hx hb (oc_126 24 shX10_nextStop_24) ?_
        refine lv_if_eq (tgt := 43) hx hb (oc_153 25 (aq_1 shX10_nextStop_24) sgw_0_18) rfl (fun c_4 => ?_) (fun c_4 => ?_)
        ·
          have tc_4 : (((v1 >>> ((nI i10) &&& 31)) &&& 1).toInt : Int) = 0 := congrArg Int32.toInt c_4
          refine lv_iinc (v := (nI (i10 + 1))) (lv' := [(4, .int (nI (i10 + 1))), (3, .int r_1), (0, .ref (g 9)), (1, .int v0), (2, .int v1)]) hx hb (oc_132 43 (aq_19 shX10_nextStop_24) ub_4 sgb_1) hl (k := 0) rfl (nI_1 _) (ltb rfl) rfl (fun ls hl => ?_)
          refine lv_goto (tgt := 10) hx hb (oc_167 46 (aq_22 shX10_nextStop_24) sgw_255_220) rfl ?_
          exact ih10 (i10 + 1) (by (first | omega | (have zz0 := Hid.u hb_cn; omega))) (by (first | omega | (have zz0 := Hid.u hb_cn; omega))) ls (lv_sub hl [0, 1, 2, 3, 4] rfl)
        ·
          have tc_4 : (((v1 >>> ((nI i10) &&& 31)) &&& 1).toInt : Int) ≠ 0 := fun q => c_4 (Int32.toInt_inj.mp q)
          refine lv_aload_n hx hb (oc_42 28 (aq_4 shX10_nextStop_24)) rfl (lvA2 hl) ?_
          refine lv_iload_n hx hb (oc_27 29 (aq_5 shX10_nextStop_24)) rfl (lvA3 hl) ?_
          refine lv_iload hx hb (oc_21 30 (aq_6 shX10_nextStop_24) ub_4) (lvA0 hl) ?_
          refine lv_iload_n hx hb (oc_28 32 (aq_8 shX10_nextStop_24)) rfl (lvA4 hl) ?_
          refine vp_callSi (runV_rxa (As := [.int v0, .int (nI i10), .int v1]) (rest := []) S (q_Xthrough l D cI cB cZ zz qq vv bt g ad cn In Fn v0 (nI i10) v1 hB) kV_RX10_69 hK hXS hS hP 17 xo_17 rfl rfl ⟨Nat.le_of_ble_eq_true rfl, Nat.le_of_ble_eq_true rfl⟩ ⟨Nat.le_of_ble_eq_true rfl, Nat.le_of_ble_eq_true rfl⟩ rfl hl.1 rfl (Nat.le_of_ble_eq_true rfl) (oc_182 33 (aq_9 shX10_nextStop_24) uw_0_69)) (fun r_5 h_6 => ?_)
          refine lv_iload_n hx hb (oc_29 36 (aq_12 shX10_nextStop_24)) rfl (lvA1 hl) ?_
          refine lv_icmp_ne (tgt := 43) hx hb (oc_160 37 (aq_13 shX10_nextStop_24) sgw_0_6) rfl (fun c_7 => ?_) (fun c_7 => ?_)
          ·
            have tc_7 : (r_5.toInt : Int) ≠ r_1.toInt := fun q => c_7 (Int32.toInt_inj.mp q)
            refine lv_iinc (v := (nI (i10 + 1))) (lv' := [(4, .int (nI (i10 + 1))), (3, .int r_1), (0, .ref (g 9)), (1, .int v0), (2, .int v1)]) hx hb (oc_132 43 (aq_19 shX10_nextStop_24) ub_4 sgb_1) hl (k := 0) rfl (nI_1 _) (ltb rfl) rfl (fun ls hl => ?_)
            refine lv_goto (tgt := 10) hx hb (oc_167 46 (aq_22 shX10_nextStop_24) sgw_255_220) rfl ?_
            exact ih10 (i10 + 1) (by (first | omega | (have zz0 := Hid.u hb_cn; omega))) (by (first | omega | (have zz0 := Hid.u hb_cn; omega))) ls (lv_sub hl [0, 1, 2, 3, 4] rfl)
          ·
            have tc_7 : (r_5.toInt : Int) = r_1.toInt := congrArg Int32.toInt c_7
            refine lv_iload hx hb (oc_21 40 (aq_16 shX10_nextStop_24) ub_4) (lvA0 hl) ?_
            exact W.iret (v := (nI i10)) hx hb hr (fun t ht hW => ⟨(nI i10), rfl, trivial, ht⟩) (fun _ h => absurd h List.not_mem_nil) (oc_172 42 (aq_18 shX10_nextStop_24))
  exact lp_10 _ 0 (Nat.lt_succ_self _) (by (first | omega | (have zz0 := Hid.u hb_cn; omega))) ls (lv_sub hl [0, 1, 2, 3, 4] rfl)
set_option maxRecDepth 100000 in
set_option maxHeartbeats 4000000 in
theorem q_XkitchenInRow (l : Launch) (D : va_G) (cI cB cZ : ClassId) (zz qq vv : Nat) (bt : Nat → Int32) (g : Nat → Nat) (ad : Nat → Nat → Nat) (cn : Nat → Nat) (In : Nat → Int32) (Fn : Nat → Nat → Int32) (v0 : Int32) (hB : CBX cn) : Met l yX10_kitchenInRow (CWS yX10_kitchenInRow cX10_kitchenInRow 5 (some .int)) (RM 6 0 0) (PBrx [.ref (g 9), .int v0] D cI cB cZ zz qq vv bt (wX cI (D.1 99) zz g ad cn In Fn)) (vp_Si (fun _ => True)) 0 0 (fun _ => False) := by
  refine en_rx rfl pn_RX10 (Nat.le_of_ble_eq_true rfl) (fun p e s m below meth c hx hb hml hown S hr hlocks hnm hP hK hXS hS ls hl => ?_)
  have hl : lv_has ls 5 [(0, .ref (g 9)), (1, .int v0)] := hl
  have hb_cn : Hid (CBX cn) := hB
  replace hB : CBXh cn := hB
  refine lv_iload_n hx hb (oc_27 0 shX10_kitchenInRow_0) rfl (lvA1 hl) ?_
  refine lv_if_lt (tgt := 12) hx hb (oc_155 1 (aq_1 shX10_kitchenInRow_0) sgw_0_11) rfl (fun c_1 => ?_) (fun c_1 => ?_)
  ·
    have tc_1 : (v0.toInt : Int) < 0 := Int32.lt_iff_toInt_lt.mp c_1
    refine lv_iconst (v := (-1)) hx hb (oc_2 12 (aq_12 shX10_kitchenInRow_0)) kic_m1 ?_
    exact W.iret (v := (-1)) hx hb hr (fun t ht hW => ⟨(-1), rfl, trivial, ht⟩) (fun _ h => absurd h List.not_mem_nil) (oc_172 13 (aq_13 shX10_kitchenInRow_0))
  ·
    have tc_1 : (0 : Int) ≤ v0.toInt := Int32.le_iff_toInt_le.mp (Int32.not_lt.mp c_1)
    refine lv_iload_n hx hb (oc_27 4 (aq_4 shX10_kitchenInRow_0)) rfl (lvA1 hl) ?_
    refine lv_aload_n hx hb (oc_42 5 (aq_5 shX10_kitchenInRow_0)) rfl (lvA0 hl) ?_
    refine gf_RX10_36 S hK hP 17 xo_17 (v := .int (nI (cn 4))) rfl (oc_180 6 (aq_6 shX10_kitchenInRow_0) uw_0_36) ?_
    have : (nI (cn 4)).toInt = (((cn 4) : Nat) : Int) := nI_toInt (by (first | omega | (have zz0 := Hid.u hb_cn; omega)))
    refine lv_icmp_lt (tgt := 14) hx hb (oc_161 9 (aq_9 shX10_kitchenInRow_0) sgw_0_5) rfl (fun c_2 => ?_) (fun c_2 => ?_)
    ·
      have tc_2 : (v0.toInt : Int) < (nI (cn 4)).toInt := Int32.lt_iff_toInt_lt.mp c_2
      obtain ⟨d0, hd0, rfl⟩ := nI_of (x := v0) (fun q => by have := Int32.lt_iff_toInt_lt.mp q; have e : (0 : Int32).toInt = 0 := rfl; (first | omega | (have zz0 := Hid.u hb_cn; omega)))
      have td0 : (nI d0).toInt = (d0 : Int) := nI_toInt hd0
      have zd0 : (nI d0).toInt.toNat = d0 := by (first | omega | (have zz0 := Hid.u hb_cn; omega))
      refine lv_iconst (v := 1) hx hb (oc_4 14 (aq_14 shX10_kitchenInRow_0)) kic_1 ?_
      refine lv_aload_n hx hb (oc_42 15 (aq_15 shX10_kitchenInRow_0)) rfl (lvA0 hl) ?_
      refine gf_RX10_36 S hK hP 17 xo_17 (v := .int (nI (cn 4))) rfl (oc_180 16 (aq_16 shX10_kitchenInRow_0) uw_0_36) ?_
      refine lv_ishl hx hb (oc_120 19 (aq_19 shX10_kitchenInRow_0)) ?_
      refine lv_iconst (v := 1) hx hb (oc_4 20 (aq_20 shX10_kitchenInRow_0)) kic_1 ?_
      refine lv_isub hx hb (oc_100 21 (aq_21 shX10_kitchenInRow_0)) ?_
      refine lv_istore_n (lv' := [(2, .int ((1 <<< ((nI (cn 4)) &&& 31)) - 1)), (0, .ref (g 9)), (1, .int (nI d0))]) hx hb (oc_61 22 (aq_22 shX10_kitchenInRow_0)) rfl hl (ltb rfl) rfl (fun ls hl => ?_)
      refine lv_iconst (v := (-1)) hx hb (oc_2 23 (aq_23 shX10_kitchenInRow_0)) kic_m1 ?_
      refine lv_istore_n (lv' := [(3, .int (-1)), (2, .int ((1 <<< ((nI (cn 4)) &&& 31)) - 1)), (0, .ref (g 9)), (1, .int (nI d0))]) hx hb (oc_62 24 shX10_kitchenInRow_24) rfl hl (ltb rfl) rfl (fun ls hl => ?_)
      refine lv_iconst (v := 0) hx hb (oc_3 25 (aq_1 shX10_kitchenInRow_24)) kic_0 ?_
      refine lv_istore (lv' := [(4, .int 0), (3, .int (-1)), (2, .int ((1 <<< ((nI (cn 4)) &&& 31)) - 1)), (0, .ref (g 9)), (1, .int (nI d0))]) hx hb (oc_54 26 (aq_2 shX10_kitchenInRow_24) ub_4) hl (ltb rfl) rfl (fun ls hl => ?_)
      have lp_28 : ∀ (n : Nat) (i28 : Nat) (x28_2 : Int32) (x28_3 : Int32) , d0 + 1 - i28 < n → (i28 ≤ d0 + 1) → ∀ ls : Array Slot, lv_has ls 5 [(4, .int (nI i28)), (3, .int x28_3), (2, .int x28_2), (0, .ref (g 9)), (1, .int (nI d0))] → W p l e (RM 6 0 0) s m ([.ref (g 9), .int (nI d0)]).toArray below meth c s.heap [] 0 0 (MQ below (vp_Si (fun _ => True)) ([.ref (g 9), .int (nI d0)]).toArray s 0 0 (fun _ => False)) (F0 m 28 ls []) := by
        intro n28
        induction n28 with
        | zero => intros; (first | omega | (have zz0 := Hid.u hb_cn; omega))
        | succ n28 ih28 =>
          intro i28 x28_2 x28_3 hmu28 hinv28 ls hl
          have hr28 := hinv28
          have ti28 : (nI i28).toInt = (i28 : Int) := nI_toInt (by (first | omega | (have zz0 := Hid.u hb_cn; omega)))
          refine lv_iload hx hb (oc_21 28 (aq_4 shX10_kitchenInRow_24) ub_4) (lvA0 hl) ?_
          refine lv_iload_n hx hb (oc_27 30 (aq_6 shX10_kitchenInRow_24)) rfl (lvA4 hl) ?_
          refine lv_icmp_gt (tgt := 63) hx hb (oc_163 31 (aq_7 shX10_kitchenInRow_24) sgw_0_32) rfl (fun c_3 => ?_) (fun c_3 => ?_)
          ·
            have tc_3 : ((nI d0).toInt : Int) < (nI i28).toInt := Int32.lt_iff_toInt_lt.mp c_3
            refine lv_iload_n hx hb (oc_29 63 (aq_13 shX10_kitchenInRow_50)) rfl (lvA1 hl) ?_
            refine lv_if_ge (tgt := 71) hx hb (oc_156 64 (aq_14 shX10_kitchenInRow_50) sgw_0_7) rfl (fun c_4 => ?_) (fun c_4 => ?_)
            ·
              have tc_4 : (0 : Int) ≤ x28_3.toInt := Int32.le_iff_toInt_le.mp c_4
              refine lv_aload_n hx hb (oc_42 71 (aq_21 shX10_kitchenInRow_50)) rfl (lvA3 hl) ?_
              refine gf_RX10_9 S hK hP 17 xo_17 (v := .ref (g 30)) rfl (oc_180 72 (aq_22 shX10_kitchenInRow_50) uw_0_9) ?_
              refine lv_iload_n hx hb (oc_29 75 shX10_kitchenInRow_75) rfl (lvA1 hl) ?_
              refine vp_callSi (runS_r (As := [.ref (g 30), .int x28_3]) (rest := []) S (q_l_at l D cI cB cZ (g 30) 8 (Fn 30) x28_3 (by (first | omega | (have zz0 := Hid.u hb_cn; omega)))) kS_RX10_54 hK hP [18] (one_is xo_18) ⟨Nat.le_of_ble_eq_true rfl, Nat.le_of_ble_eq_true rfl⟩ ⟨Nat.le_of_ble_eq_true rfl, Nat.le_of_ble_eq_true rfl⟩ rfl hl.1 rfl (Nat.le_of_ble_eq_true rfl) (oc_184 76 (aq_1 shX10_kitchenInRow_75) uw_0_54)) (fun r_5 h_6 => ?_)
              subst h_6
              exact W.iret (v := (atM (Fn 30) 8 x28_3)) hx hb hr (fun t ht hW => ⟨(atM (Fn 30) 8 x28_3), rfl, trivial, ht⟩) (fun _ h => absurd h List.not_mem_nil) (oc_172 79 (aq_4 shX10_kitchenInRow_75))
            ·
              have tc_4 : (x28_3.toInt : Int) < 0 := Int32.lt_iff_toInt_lt.mp (Int32.not_le.mp c_4)
              refine lv_iconst (v := (-1)) hx hb (oc_2 67 (aq_17 shX10_kitchenInRow_50)) kic_m1 ?_
              refine lv_goto (tgt := 79) hx hb (oc_167 68 (aq_18 shX10_kitchenInRow_50) sgw_0_11) rfl ?_
              exact W.iret (v := (-1)) hx hb hr (fun t ht hW => ⟨(-1), rfl, trivial, ht⟩) (fun _ h => absurd h List.not_mem_nil) (oc_172 79 (aq_4 shX10_kitchenInRow_75))
          ·
            have tc_3 : ((nI i28).toInt : Int) ≤ (nI d0).toInt := Int32.le_iff_toInt_le.mp (Int32.not_lt.mp c_3)
            refine lv_aload_n hx hb (oc_42 34 (aq_10 shX10_kitchenInRow_24)) rfl (lvA3 hl) ?_
            refine lv_iload_n hx hb (oc_29 35 (aq_11 shX10_kitchenInRow_24)) rfl (lvA1 hl) ?_
            refine lv_iload_n hx hb (oc_28 36 (aq_12 shX10_kitchenInRow_24)) rfl (lvA2 hl) ?_
            refine vp_callSi (runV_rxa (As := [.int x28_3, .int x28_2]) (rest := []) S (q_XnextStop l D cI cB cZ zz qq vv bt g ad cn In Fn x28_3 x28_2 hB) kV_RX10_76 hK hXS hS hP 17 xo_17 rfl rfl ⟨Nat.le_of_ble_eq_true rfl, Nat.le_of_ble_eq_true rfl⟩ ⟨Nat.le_of_ble_eq_true rfl, Nat.le_of_ble_eq_true rfl⟩ rfl hl.1 rfl (Nat.le_of_ble_eq_true rfl) (oc_182 37 (aq_13 shX10_kitchenInRow_24) uw_0_76)) (fun r_7 h_8 => ?_)
            refine lv_istore_n (lv' := [(3, .int r_7), (4, .int (nI i28)), (2, .int x28_2), (0, .ref (g 9)), (1, .int (nI d0))]) hx hb (oc_62 40 (aq_16 shX10_kitchenInRow_24)) rfl hl (ltb rfl) rfl (fun ls hl => ?_)
            refine lv_iload_n hx hb (oc_28 41 (aq_17 shX10_kitchenInRow_24)) rfl (lvA2 hl) ?_
            refine lv_iload_n hx hb (oc_29 42 (aq_18 shX10_kitchenInRow_24)) rfl (lvA0 hl) ?_
            refine lv_if_ge (tgt := 50) hx hb (oc_156 43 (aq_19 shX10_kitchenInRow_24) sgw_0_7) rfl (fun c_9 => ?_) (fun c_9 => ?_)
            ·
              have tc_9 : (0 : Int) ≤ r_7.toInt := Int32.le_iff_toInt_le.mp c_9
              refine lv_iconst (v := 1) hx hb (oc_4 50 shX10_kitchenInRow_50) kic_1 ?_
              refine lv_iload_n hx hb (oc_29 51 (aq_1 shX10_kitchenInRow_50)) rfl (lvA0 hl) ?_
              refine lv_ishl hx hb (oc_120 52 (aq_2 shX10_kitchenInRow_50)) ?_
              refine lv_iconst (v := (-1)) hx hb (oc_2 53 (aq_3 shX10_kitchenInRow_50)) kic_m1 ?_
              refine lv_ixor hx hb (oc_130 54 (aq_4 shX10_kitchenInRow_50)) ?_
              refine lv_iand hx hb (oc_126 55 (aq_5 shX10_kitchenInRow_50)) ?_
              refine lv_istore_n (lv' := [(2, .int (x28_2 &&& ((1 <<< (r_7 &&& 31)) ^^^ (-1)))), (3, .int r_7), (4, .int (nI i28)), (0, .ref (g 9)), (1, .int (nI d0))]) hx hb (oc_61 56 (aq_6 shX10_kitchenInRow_50)) rfl hl (ltb rfl) rfl (fun ls hl => ?_)
              refine lv_iinc (v := (nI (i28 + 1))) (lv' := [(4, .int (nI (i28 + 1))), (2, .int (x28_2 &&& ((1 <<< (r_7 &&& 31)) ^^^ (-1)))), (3, .int r_7), (0, .ref (g 9)), (1, .int (nI d0))]) hx hb (oc_132 57 (aq_7 shX10_kitchenInRow_50) ub_4 sgb_1) hl (k := 2) rfl (nI_1 _) (ltb rfl) rfl (fun ls hl => ?_)
              refine lv_goto (tgt := 28) hx hb (oc_167 60 (aq_10 shX10_kitchenInRow_50) sgw_255_224) rfl ?_
              exact ih28 (i28 + 1) (x28_2 &&& ((1 <<< (r_7 &&& 31)) ^^^ (-1))) r_7 (by (first | omega | (have zz0 := Hid.u hb_cn; omega))) (by (first | omega | (have zz0 := Hid.u hb_cn; omega))) ls (lv_sub hl [0, 2, 1, 3, 4] rfl)
            ·
              have tc_9 : (r_7.toInt : Int) < 0 := Int32.lt_iff_toInt_lt.mp (Int32.not_le.mp c_9)
              refine lv_iconst (v := 0) hx hb (oc_3 46 (aq_22 shX10_kitchenInRow_24)) kic_0 ?_
              refine lv_goto (tgt := 55) hx hb (oc_167 47 (aq_23 shX10_kitchenInRow_24) sgw_0_8) rfl ?_
              refine lv_iand hx hb (oc_126 55 (aq_5 shX10_kitchenInRow_50)) ?_
              refine lv_istore_n (lv' := [(2, .int (x28_2 &&& 0)), (3, .int r_7), (4, .int (nI i28)), (0, .ref (g 9)), (1, .int (nI d0))]) hx hb (oc_61 56 (aq_6 shX10_kitchenInRow_50)) rfl hl (ltb rfl) rfl (fun ls hl => ?_)
              refine lv_iinc (v := (nI (i28 + 1))) (lv' := [(4, .int (nI (i28 + 1))), (2, .int (x28_2 &&& 0)), (3, .int r_7), (0, .ref (g 9)), (1, .int (nI d0))]) hx hb (oc_132 57 (aq_7 shX10_kitchenInRow_50) ub_4 sgb_1) hl (k := 2) rfl (nI_1 _) (ltb rfl) rfl (fun ls hl => ?_)
              refine lv_goto (tgt := 28) hx hb (oc_167 60 (aq_10 shX10_kitchenInRow_50) sgw_255_224) rfl ?_
              exact ih28 (i28 + 1) (x28_2 &&& 0) r_7 (by (first | omega | (have zz0 := Hid.u hb_cn; omega))) (by (first | omega | (have zz0 := Hid.u hb_cn; omega))) ls (lv_sub hl [0, 2, 1, 3, 4] rfl)
      exact lp_28 _ 0 ((1 <<< ((nI (cn 4)) &&& 31)) - 1) (-1) (Nat.lt_succ_self _) (by (first | omega | (have zz0 := Hid.u hb_cn; omega))) ls (lv_sub hl [0, 1, 2, 3, 4] rfl)
    ·
      have tc_2 : ((nI (cn 4)).toInt : Int) ≤ v0.toInt := Int32.le_iff_toInt_le.mp (Int32.not_lt.mp c_2)
      refine lv_iconst (v := (-1)) hx hb (oc_2 12 (aq_12 shX10_kitchenInRow_0)) kic_m1 ?_
      exact W.iret (v := (-1)) hx hb hr (fun t ht hW => ⟨(-1), rfl, trivial, ht⟩) (fun _ h => absurd h List.not_mem_nil) (oc_172 13 (aq_13 shX10_kitchenInRow_0))
set_option maxRecDepth 100000 in
set_option maxHeartbeats 4000000 in
theorem q_XstartTrial (l : Launch) (D : va_G) (cI cB cZ : ClassId) (zz qq vv : Nat) (bt : Nat → Int32) (g : Nat → Nat) (ad : Nat → Nat → Nat) (cn : Nat → Nat) (In : Nat → Int32) (Fn : Nat → Nat → Int32) (v0 : Int32) (sz : Nat) (hB : CBX cn) : Met l yX11_startTrial (CWS yX11_startTrial cX11_startTrial 5 (some .boolean)) (RM 3 0 0) (PBx [.ref (g 0), .int v0] D cI cB cZ zz qq vv bt (wX cI (D.1 99) zz g ad cn In Fn) sz) (va_Qi (fun (r : Int32) (u : (Nat → Nat) × (Nat → Int32) × (Nat → Nat → Int32)) => (fun r c2 I2 F2 => Fr [] [] [105] cn In Fn c2 I2 F2 ∧ CBX c2 ∧ (True)) r u.1 u.2.1 u.2.2) (fun (u : (Nat → Nat) × (Nat → Int32) × (Nat → Nat → Int32)) (t : State) => va_P D vwCl (wX cI (D.1 99) zz g ad u.1 u.2.1 u.2.2) t.heap ∧ va_D (va_A (wX cI (D.1 99) zz g ad cn In Fn) sz) (wX cI (D.1 99) zz g ad u.1 u.2.1 u.2.2)) (va_A (wX cI (D.1 99) zz g ad cn In Fn) sz)) 0 0 (va_A (wX cI (D.1 99) zz g ad cn In Fn) sz) := by
  refine en_x (fun A => (va_Qi (fun (r : Int32) (u : (Nat → Nat) × (Nat → Int32) × (Nat → Nat → Int32)) => (fun (r : Int32) (c2 : Nat → Nat) (I2 : Nat → Int32) (F2 : Nat → Nat → Int32) => Fr [] [] [105] cn In Fn c2 I2 F2 ∧ CBX c2 ∧ (True)) r u.1 u.2.1 u.2.2) (fun (u : (Nat → Nat) × (Nat → Int32) × (Nat → Nat → Int32)) (t : State) => va_P D vwCl (wX cI (D.1 99) zz g ad u.1 u.2.1 u.2.2) t.heap ∧ va_D A (wX cI (D.1 99) zz g ad u.1 u.2.1 u.2.2)) A)) rfl rfl pn_RX11 (Nat.le_of_ble_eq_true rfl) (fun p e s m below meth c A hx hb hml hown S hr hlocks hnm hA hP hK hD hXS hS ls hl => ?_)
  have hl : lv_has ls 5 [(0, .ref (g 0)), (1, .int v0)] := hl
  have hb_cn : Hid (CBX cn) := hB
  replace hB : CBXh cn := hB
  refine lv_iconst (v := 0) hx hb (oc_3 0 shX11_startTrial_0) kic_0 ?_
  refine lv_istore_n (lv' := [(2, .int 0), (0, .ref (g 0)), (1, .int v0)]) hx hb (oc_61 1 (aq_1 shX11_startTrial_0)) rfl hl (ltb rfl) rfl (fun ls hl => ?_)
  refine lv_iconst (v := 0) hx hb (oc_3 2 (aq_2 shX11_startTrial_0)) kic_0 ?_
  refine lv_istore_n (lv' := [(3, .int 0), (2, .int 0), (0, .ref (g 0)), (1, .int v0)]) hx hb (oc_62 3 (aq_3 shX11_startTrial_0)) rfl hl (ltb rfl) rfl (fun ls hl => ?_)
  have lp_4 : ∀ (n : Nat) (i4 : Nat) (x4_2 : Int32) (F4 : Nat → Nat → Int32) (H : Heap) (locs : List Loc) , cn 10 - i4 < n → (i4 ≤ cn 10 ∧ Fr [] [] [105] cn In Fn cn In F4 ∧ CBX cn) → va_P D vwCl (wX cI (D.1 99) zz g ad cn In F4) H → va_D A (wX cI (D.1 99) zz g ad cn In F4) → va_S A s.heap H locs → ∀ ls : Array Slot, lv_has ls 5 [(3, .int (nI i4)), (2, .int x4_2), (0, .ref (g 0)), (1, .int v0)] → W p l e (RM 3 0 0) s m ([.ref (g 0), .int v0]).toArray below meth c H locs 0 0 (MQ below (va_Qi (fun (r : Int32) (u : (Nat → Nat) × (Nat → Int32) × (Nat → Nat → Int32)) => (fun r c2 I2 F2 => Fr [] [] [105] cn In Fn c2 I2 F2 ∧ CBX c2 ∧ (True)) r u.1 u.2.1 u.2.2) (fun (u : (Nat → Nat) × (Nat → Int32) × (Nat → Nat → Int32)) (t : State) => va_P D vwCl (wX cI (D.1 99) zz g ad u.1 u.2.1 u.2.2) t.heap ∧ va_D A (wX cI (D.1 99) zz g ad u.1 u.2.1 u.2.2)) A) ([.ref (g 0), .int v0]).toArray s 0 0 A) (F0 m 4 ls []) := by
    intro n4
    induction n4 with
    | zero => intros; (first | omega | (have zz0 := Hid.u hb_cn; omega))
    | succ n4 ih4 =>
      intro i4 x4_2 F4 H locs hmu4 hinv4 hP hD hS ls hl
      obtain ⟨hr4, hfr4, hI4⟩ := hinv4
      have ti4 : (nI i4).toInt = (i4 : Int) := nI_toInt (by (first | omega | (have zz0 := Hid.u hb_cn; omega)))
      replace hI4 : CBXh cn := hI4
      refine lv_iload_n hx hb (oc_29 4 (aq_4 shX11_startTrial_0)) rfl (lvA0 hl) ?_
      refine lv_aload_n hx hb (oc_42 5 (aq_5 shX11_startTrial_0)) rfl (lvA2 hl) ?_
      refine gf_RX11_61 S hK hP 0 xo_0 (v := .ref (g 10)) rfl (oc_180 6 (aq_6 shX11_startTrial_0) uw_0_61) ?_
      refine vp_callSi (runV_r (As := []) (rest := [.int (nI i4)]) S (q_l_size l D cI cB cZ (g 10) (if (cn 10) = 0 then zz else ad 2 0) (In 10) (nI (cn 10))) kV_RX11_84 hK hP [24] (one_is xo_24) 24 xo_24 rfl rfl ⟨Nat.le_of_ble_eq_true rfl, Nat.le_of_ble_eq_true rfl⟩ ⟨Nat.le_of_ble_eq_true rfl, Nat.le_of_ble_eq_true rfl⟩ rfl hl.1 rfl (Nat.le_of_ble_eq_true rfl) (oc_182 9 (aq_9 shX11_startTrial_0) uw_0_84)) (fun r_1 h_2 => ?_)
      subst h_2
      have : (nI (cn 10)).toInt = (((cn 10) : Nat) : Int) := nI_toInt (by (first | omega | (have zz0 := Hid.u hb_cn; omega)))
      refine lv_icmp_ge (tgt := 63) hx hb (oc_162 12 (aq_12 shX11_startTrial_0) sgw_0_51) rfl (fun c_3 => ?_) (fun c_3 => ?_)
      ·
        have tc_3 : ((nI (cn 10)).toInt : Int) ≤ (nI i4).toInt := Int32.le_iff_toInt_le.mp c_3
        refine lv_iload_n hx hb (oc_28 63 (aq_12 shX11_startTrial_51)) rfl (lvA1 hl) ?_
        refine lv_if_ne (tgt := 71) hx hb (oc_154 64 (aq_13 shX11_startTrial_51) sgw_0_7) rfl (fun c_4 => ?_) (fun c_4 => ?_)
        ·
          have tc_4 : (x4_2.toInt : Int) ≠ 0 := fun q => c_4 (Int32.toInt_inj.mp q)
          refine lv_iconst (v := 0) hx hb (oc_3 71 (aq_20 shX11_startTrial_51)) kic_0 ?_
          exact W.zret (v := 0) hx hb hr rfl (fun t ht hW => ⟨⟨0, (cn, In, F4), rfl, ⟨(Fr.mo hfr4 (sbl rfl) (sbl rfl) (sbl rfl)), hI4, trivial⟩, by rw [ht]; exact hP, hD⟩, hS.F ht⟩) hS.2.2 (oc_172 72 (aq_21 shX11_startTrial_51))
        ·
          have tc_4 : (x4_2.toInt : Int) = 0 := congrArg Int32.toInt c_4
          refine lv_iconst (v := 1) hx hb (oc_4 67 (aq_16 shX11_startTrial_51)) kic_1 ?_
          refine lv_goto (tgt := 72) hx hb (oc_167 68 (aq_17 shX11_startTrial_51) sgw_0_4) rfl ?_
          exact W.zret (v := 1) hx hb hr rfl (fun t ht hW => ⟨⟨1, (cn, In, F4), rfl, ⟨(Fr.mo hfr4 (sbl rfl) (sbl rfl) (sbl rfl)), hI4, trivial⟩, by rw [ht]; exact hP, hD⟩, hS.F ht⟩) hS.2.2 (oc_172 72 (aq_21 shX11_startTrial_51))
      ·
        have tc_3 : ((nI i4).toInt : Int) < (nI (cn 10)).toInt := Int32.lt_iff_toInt_lt.mp (Int32.not_le.mp c_3)
        refine lv_aload_n hx hb (oc_42 15 (aq_15 shX11_startTrial_0)) rfl (lvA2 hl) ?_
        refine gf_RX11_61 S hK hP 0 xo_0 (v := .ref (g 10)) rfl (oc_180 16 (aq_16 shX11_startTrial_0) uw_0_61) ?_
        refine lv_iload_n hx hb (oc_29 19 (aq_19 shX11_startTrial_0)) rfl (lvA0 hl) ?_
        refine va_csq (runV_rx (As := [.int (nI i4)]) (rest := []) S (q_l_get l D cI cB cZ zz qq vv bt (g 10) (ad 2 0) (cn 20) (cn 10) i4 (ad 10 i4) (In 10) (fun i => if i < (cn 10) then some (ad 10 i) else none) (by (first | omega | (have zz0 := Hid.u hb_cn; omega))) (if_pos (by (first | omega | (have zz0 := Hid.u hb_cn; omega)))) (by (first | omega | (have zz0 := Hid.u hb_cn; omega))) (by (first | omega | (have zz0 := Hid.u hb_cn; omega)))) kV_RX11_87 hK hXS hS hP _ (two_is (xl_0 (by (first | omega | (have zz0 := Hid.u hb_cn; omega)))) (xf_13 (k := 0) (by (first | omega | (have zz0 := Hid.u hb_cn; omega))))) (va_recv hK.1 hP (ci := 0) rfl xo_24) ⟨Nat.le_of_ble_eq_true rfl, Nat.le_of_ble_eq_true rfl⟩ ⟨Nat.le_of_ble_eq_true rfl, Nat.le_of_ble_eq_true rfl⟩ rfl hl.1 rfl (Nat.le_of_ble_eq_true rfl) (oc_182 20 (aq_20 shX11_startTrial_0) uw_0_87)) (fun r_5 h_6 => ?_)
        subst h_6
        have kf_1 : i4 < cn 10 := by (first | omega | (have zz0 := Hid.u hb_cn; omega))
        refine va_castS hx hb hown (S.2.2.2.2 _ (wk2_5 3 rfl rfl)) (xclass hK.1 (ci := 2) rfl) (va_recv hK.1 hP (ci := 2) rfl (xf_0 kf_1)) (oc_192 23 (aq_23 shX11_startTrial_0) uw_0_91) ?_
        refine lv_astore (lv' := [(4, .ref (ad 10 i4)), (3, .int (nI i4)), (2, .int x4_2), (0, .ref (g 0)), (1, .int v0)]) hx hb (oc_58 26 shX11_startTrial_26 ub_4) hl (ltb rfl) rfl (fun ls hl => ?_)
        refine lv_aload hx hb (oc_25 28 (aq_2 shX11_startTrial_26) ub_4) (lvA0 hl) ?_
        refine lv_aload hx hb (oc_25 30 (aq_4 shX11_startTrial_26) ub_4) (lvA0 hl) ?_
        refine gf_RX11_118 S hK hP _ (xf_0 kf_1) (v := .int ((F4 104) i4)) rfl (oc_180 32 (aq_6 shX11_startTrial_26) uw_0_118) ?_
        refine pf_RX11_263 S hK hP hD hS _ (xf_0 kf_1) (v := .int ((F4 104) i4)) (Nat.le_of_ble_eq_true rfl) rfl rfl (oc_181 35 (aq_9 shX11_startTrial_26) uw_1_7) (fun H locs hP hD hS => ?_)
        have hP : va_P D vwCl (wX cI (D.1 99) zz g ad cn In (va_up F4 105 (upd (F4 105) i4 ((F4 104) i4)))) H := va_P_eq (xs_105 (by (first | omega | (have zz0 := Hid.u hb_cn; omega)))) hP
        have hD : va_D A (wX cI (D.1 99) zz g ad cn In (va_up F4 105 (upd (F4 105) i4 ((F4 104) i4)))) := va_D_eq (xs_105 (by (first | omega | (have zz0 := Hid.u hb_cn; omega)))) hD
        refine lv_iload_n hx hb (oc_28 38 (aq_12 shX11_startTrial_26)) rfl (lvA2 hl) ?_
        refine lv_if_ne (tgt := 51) hx hb (oc_154 39 (aq_13 shX11_startTrial_26) sgw_0_12) rfl (fun c_7 => ?_) (fun c_7 => ?_)
        ·
          have tc_7 : (x4_2.toInt : Int) ≠ 0 := fun q => c_7 (Int32.toInt_inj.mp q)
          refine lv_iconst (v := 1) hx hb (oc_4 51 shX11_startTrial_51) kic_1 ?_
          refine lv_goto (tgt := 56) hx hb (oc_167 52 (aq_1 shX11_startTrial_51) sgw_0_4) rfl ?_
          refine lv_istore_n (lv' := [(2, .int 1), (4, .ref (ad 10 i4)), (3, .int (nI i4)), (0, .ref (g 0)), (1, .int v0)]) hx hb (oc_61 56 (aq_5 shX11_startTrial_51)) rfl hl (ltb rfl) rfl (fun ls hl => ?_)
          refine lv_iinc (v := (nI (i4 + 1))) (lv' := [(3, .int (nI (i4 + 1))), (2, .int 1), (4, .ref (ad 10 i4)), (0, .ref (g 0)), (1, .int v0)]) hx hb (oc_132 57 (aq_6 shX11_startTrial_51) ub_3 sgb_1) hl (k := 2) rfl (nI_1 _) (ltb rfl) rfl (fun ls hl => ?_)
          refine lv_goto (tgt := 4) hx hb (oc_167 60 (aq_9 shX11_startTrial_51) sgw_255_200) rfl ?_
          exact ih4 (i4 + 1) 1 (va_up F4 105 (upd (F4 105) i4 ((F4 104) i4))) _ _ (by (first | omega | (have zz0 := Hid.u hb_cn; omega))) ⟨(by (first | omega | (have zz0 := Hid.u hb_cn; omega))), (Fr.mo (Fr.f 105 hfr4) (sbl rfl) (sbl rfl) (sbl rfl)), hI4⟩ hP hD hS ls (lv_sub hl [0, 1, 3, 4] rfl)
        ·
          have tc_7 : (x4_2.toInt : Int) = 0 := congrArg Int32.toInt c_7
          refine lv_aload hx hb (oc_25 42 (aq_16 shX11_startTrial_26) ub_4) (lvA0 hl) ?_
          refine gf_RX11_118 S hK hP _ (xf_0 kf_1) (v := .int ((F4 104) i4)) rfl (oc_180 44 (aq_18 shX11_startTrial_26) uw_0_118) ?_
          refine lv_iload_n hx hb (oc_27 47 (aq_21 shX11_startTrial_26)) rfl (lvA4 hl) ?_
          refine lv_icmp_le (tgt := 55) hx hb (oc_164 48 (aq_22 shX11_startTrial_26) sgw_0_7) rfl (fun c_8 => ?_) (fun c_8 => ?_)
          ·
            have tc_8 : (((F4 104) i4).toInt : Int) ≤ v0.toInt := Int32.le_iff_toInt_le.mp c_8
            refine lv_iconst (v := 0) hx hb (oc_3 55 (aq_4 shX11_startTrial_51)) kic_0 ?_
            refine lv_istore_n (lv' := [(2, .int 0), (4, .ref (ad 10 i4)), (3, .int (nI i4)), (0, .ref (g 0)), (1, .int v0)]) hx hb (oc_61 56 (aq_5 shX11_startTrial_51)) rfl hl (ltb rfl) rfl (fun ls hl => ?_)
            refine lv_iinc (v := (nI (i4 + 1))) (lv' := [(3, .int (nI (i4 + 1))), (2, .int 0), (4, .ref (ad 10 i4)), (0, .ref (g 0)), (1, .int v0)]) hx hb (oc_132 57 (aq_6 shX11_startTrial_51) ub_3 sgb_1) hl (k := 2) rfl (nI_1 _) (ltb rfl) rfl (fun ls hl => ?_)
            refine lv_goto (tgt := 4) hx hb (oc_167 60 (aq_9 shX11_startTrial_51) sgw_255_200) rfl ?_
            exact ih4 (i4 + 1) 0 (va_up F4 105 (upd (F4 105) i4 ((F4 104) i4))) _ _ (by (first | omega | (have zz0 := Hid.u hb_cn; omega))) ⟨(by (first | omega | (have zz0 := Hid.u hb_cn; omega))), (Fr.mo (Fr.f 105 hfr4) (sbl rfl) (sbl rfl) (sbl rfl)), hI4⟩ hP hD hS ls (lv_sub hl [0, 1, 3, 4] rfl)
          ·
            have tc_8 : (v0.toInt : Int) < ((F4 104) i4).toInt := Int32.lt_iff_toInt_lt.mp (Int32.not_le.mp c_8)
            refine lv_iconst (v := 1) hx hb (oc_4 51 shX11_startTrial_51) kic_1 ?_
            refine lv_goto (tgt := 56) hx hb (oc_167 52 (aq_1 shX11_startTrial_51) sgw_0_4) rfl ?_
            refine lv_istore_n (lv' := [(2, .int 1), (4, .ref (ad 10 i4)), (3, .int (nI i4)), (0, .ref (g 0)), (1, .int v0)]) hx hb (oc_61 56 (aq_5 shX11_startTrial_51)) rfl hl (ltb rfl) rfl (fun ls hl => ?_)
            refine lv_iinc (v := (nI (i4 + 1))) (lv' := [(3, .int (nI (i4 + 1))), (2, .int 1), (4, .ref (ad 10 i4)), (0, .ref (g 0)), (1, .int v0)]) hx hb (oc_132 57 (aq_6 shX11_startTrial_51) ub_3 sgb_1) hl (k := 2) rfl (nI_1 _) (ltb rfl) rfl (fun ls hl => ?_)
            refine lv_goto (tgt := 4) hx hb (oc_167 60 (aq_9 shX11_startTrial_51) sgw_255_200) rfl ?_
            exact ih4 (i4 + 1) 1 (va_up F4 105 (upd (F4 105) i4 ((F4 104) i4))) _ _ (by (first | omega | (have zz0 := Hid.u hb_cn; omega))) ⟨(by (first | omega | (have zz0 := Hid.u hb_cn; omega))), (Fr.mo (Fr.f 105 hfr4) (sbl rfl) (sbl rfl) (sbl rfl)), hI4⟩ hP hD hS ls (lv_sub hl [0, 1, 3, 4] rfl)
  exact lp_4 _ 0 0 Fn _ _ (Nat.lt_succ_self _) ⟨(by (first | omega | (have zz0 := Hid.u hb_cn; omega))), (Fr.mo Fr.rf (sbl rfl) (sbl rfl) (sbl rfl)), hB⟩ hP hD hS ls (lv_sub hl [0, 1, 2, 3] rfl)
set_option maxRecDepth 100000 in
set_option maxHeartbeats 4000000 in
theorem q_XgatherStops (l : Launch) (D : va_G) (cI cB cZ : ClassId) (zz qq vv : Nat) (bt : Nat → Int32) (g : Nat → Nat) (ad : Nat → Nat → Nat) (cn : Nat → Nat) (In : Nat → Int32) (Fn : Nat → Nat → Int32) (v0 v1 v2 : Int32) (sz : Nat) (hB : CBX cn) (hm : v2.toInt ≤ 8) : Met l yX11_gatherStops (CWS yX11_gatherStops cX11_gatherStops 7 (some .boolean)) (RM 6 0 0) (PBx [.ref (g 0), .int v0, .int v1, .int v2] D cI cB cZ zz qq vv bt (wX cI (D.1 99) zz g ad cn In Fn) sz) (va_Qi (fun (r : Int32) (u : (Nat → Nat) × (Nat → Int32) × (Nat → Nat → Int32)) => (fun r c2 I2 F2 => Fr [4] [] [30, 31, 32, 33, 34, 35] cn In Fn c2 I2 F2 ∧ CBX c2 ∧ (True)) r u.1 u.2.1 u.2.2) (fun (u : (Nat → Nat) × (Nat → Int32) × (Nat → Nat → Int32)) (t : State) => va_P D vwCl (wX cI (D.1 99) zz g ad u.1 u.2.1 u.2.2) t.heap ∧ va_D (va_A (wX cI (D.1 99) zz g ad cn In Fn) sz) (wX cI (D.1 99) zz g ad u.1 u.2.1 u.2.2)) (va_A (wX cI (D.1 99) zz g ad cn In Fn) sz)) 0 0 (va_A (wX cI (D.1 99) zz g ad cn In Fn) sz) := by
  refine en_x (fun A => (va_Qi (fun (r : Int32) (u : (Nat → Nat) × (Nat → Int32) × (Nat → Nat → Int32)) => (fun (r : Int32) (c2 : Nat → Nat) (I2 : Nat → Int32) (F2 : Nat → Nat → Int32) => Fr [4] [] [30, 31, 32, 33, 34, 35] cn In Fn c2 I2 F2 ∧ CBX c2 ∧ (True)) r u.1 u.2.1 u.2.2) (fun (u : (Nat → Nat) × (Nat → Int32) × (Nat → Nat → Int32)) (t : State) => va_P D vwCl (wX cI (D.1 99) zz g ad u.1 u.2.1 u.2.2) t.heap ∧ va_D A (wX cI (D.1 99) zz g ad u.1 u.2.1 u.2.2)) A)) rfl rfl pn_RX11 (Nat.le_of_ble_eq_true rfl) (fun p e s m below meth c A hx hb hml hown S hr hlocks hnm hA hP hK hD hXS hS ls hl => ?_)
  have hl : lv_has ls 7 [(0, .ref (g 0)), (1, .int v0), (2, .int v1), (3, .int v2)] := hl
  have hb_cn : Hid (CBX cn) := hB
  replace hB : CBXh cn := hB
  refine lv_aload_n hx hb (oc_42 0 shX11_gatherStops_0) rfl (lvA0 hl) ?_
  refine gf_RX11_54 S hK hP 0 xo_0 (v := .ref (g 9)) rfl (oc_180 1 (aq_1 shX11_gatherStops_0) uw_0_54) ?_
  have hFc := free_all hD hS hA
  refine va_callv (runV_xa (As := []) (rest := []) S (q_Xwclear l D cI cB cZ zz qq vv bt g ad cn In Fn  s.heap.size hB) kV_RX11_266 hK hXS hS hFc hP hD 17 xo_17 rfl rfl ⟨Nat.le_of_ble_eq_true rfl, Nat.le_of_ble_eq_true rfl⟩ ⟨Nat.le_of_ble_eq_true rfl, Nat.le_of_ble_eq_true rfl⟩ rfl hl.1 rfl (Nat.le_of_ble_eq_true rfl) (oc_182 4 (aq_4 shX11_gatherStops_0) uw_1_10)) hS (fun q _ h => hFc q h) hFc (fun u t H1 locs ht hvm wh_2 hB1 hz1 hk1 hS => ?_)
  obtain ⟨cn2, In2, Fn2⟩ := u
  obtain ⟨hP1, hD1⟩ := hB1
  rw [ht] at hP1
  have vh_2 : (fun c2 I2 F2 => (∀ k : Nat, k ∉ [] → I2 k = In k) ∧ (((True) ∧ (va_up cn 4 0) = c2 ∧ Fn = F2))) cn2 In2 Fn2 := wh_2
  obtain ⟨hI2_, vh_2⟩ := vh_2
  obtain ⟨h_2, rfl, rfl⟩ := vh_2
  obtain rfl : In = In2 := (funext (fun k => hI2_ k List.not_mem_nil)).symm
  have hP : va_P D vwCl (wX cI (D.1 99) zz g ad (va_up cn 4 0) In Fn) H1 := hP1
  have hD : va_D A (wX cI (D.1 99) zz g ad (va_up cn 4 0) In Fn) := hD1.weaken (fun _ _ _ h => hFc _ h)
  generalize H1 = H at hP hS ⊢
  refine lv_iconst (v := 0) hx hb (oc_3 7 (aq_7 shX11_gatherStops_0)) kic_0 ?_
  refine lv_istore (lv' := [(4, .int 0), (0, .ref (g 0)), (1, .int v0), (2, .int v1), (3, .int v2)]) hx hb (oc_54 8 (aq_8 shX11_gatherStops_0) ub_4) hl (ltb rfl) rfl (fun ls hl => ?_)
  have lp_10 : ∀ (n : Nat) (i10 : Nat) (c10 : Nat → Nat) (F10 : Nat → Nat → Int32) (H : Heap) (locs : List Loc) , cn 10 - i10 < n → (i10 ≤ cn 10 ∧ Fr [4] [] [30, 31, 32, 33, 34, 35] cn In Fn c10 In F10 ∧ CBX c10) → va_P D vwCl (wX cI (D.1 99) zz g ad c10 In F10) H → va_D A (wX cI (D.1 99) zz g ad c10 In F10) → va_S A s.heap H locs → ∀ ls : Array Slot, lv_has ls 7 [(4, .int (nI i10)), (0, .ref (g 0)), (1, .int v0), (2, .int v1), (3, .int v2)] → W p l e (RM 6 0 0) s m ([.ref (g 0), .int v0, .int v1, .int v2]).toArray below meth c H locs 0 0 (MQ below (va_Qi (fun (r : Int32) (u : (Nat → Nat) × (Nat → Int32) × (Nat → Nat → Int32)) => (fun r c2 I2 F2 => Fr [4] [] [30, 31, 32, 33, 34, 35] cn In Fn c2 I2 F2 ∧ CBX c2 ∧ (True)) r u.1 u.2.1 u.2.2) (fun (u : (Nat → Nat) × (Nat → Int32) × (Nat → Nat → Int32)) (t : State) => va_P D vwCl (wX cI (D.1 99) zz g ad u.1 u.2.1 u.2.2) t.heap ∧ va_D A (wX cI (D.1 99) zz g ad u.1 u.2.1 u.2.2)) A) ([.ref (g 0), .int v0, .int v1, .int v2]).toArray s 0 0 A) (F0 m 10 ls []) := by
    intro n10
    induction n10 with
    | zero => intros; (first | omega | (have zz0 := Hid.u hb_cn; omega))
    | succ n10 ih10 =>
      intro i10 c10 F10 H locs hmu10 hinv10 hP hD hS ls hl
      obtain ⟨hr10, hfr10, hI10⟩ := hinv10
      have ti10 : (nI i10).toInt = (i10 : Int) := nI_toInt (by (first | omega | (have zz0 := Hid.u hb_cn; omega)))
      have hb_c10 : Hid (CBX c10) := hI10
      replace hI10 : CBXh c10 := hI10
      have : c10 6 = cn 6 := hfr10.1 6 (nml rfl)
      have : c10 31 = cn 31 := hfr10.1 31 (nml rfl)
      have : c10 32 = cn 32 := hfr10.1 32 (nml rfl)
      have hq_c10 := Hid.i (frq_4_0_1_2_3_5_10_11_12_13_14_15_20_21_22_23_24_25 hfr10)
      refine lv_iload hx hb (oc_21 10 (aq_10 shX11_gatherStops_0) ub_4) (lvA0 hl) ?_
      refine lv_aload_n hx hb (oc_42 12 (aq_12 shX11_gatherStops_0)) rfl (lvA1 hl) ?_
      refine gf_RX11_61 S hK hP 0 xo_0 (v := .ref (g 10)) rfl (oc_180 13 (aq_13 shX11_gatherStops_0) uw_0_61) ?_
      refine vp_callSi (runV_r (As := []) (rest := [.int (nI i10)]) S (q_l_size l D cI cB cZ (g 10) (if (c10 10) = 0 then zz else ad 2 0) (In 10) (nI (c10 10))) kV_RX11_84 hK hP [24] (one_is xo_24) 24 xo_24 rfl rfl ⟨Nat.le_of_ble_eq_true rfl, Nat.le_of_ble_eq_true rfl⟩ ⟨Nat.le_of_ble_eq_true rfl, Nat.le_of_ble_eq_true rfl⟩ rfl hl.1 rfl (Nat.le_of_ble_eq_true rfl) (oc_182 16 (aq_16 shX11_gatherStops_0) uw_0_84)) (fun r_3 h_4 => ?_)
      subst h_4
      have : (nI (c10 10)).toInt = (((c10 10) : Nat) : Int) := nI_toInt (by (first | omega | (have zz0 := Hid.u hb_c10; have zz1 := Hid.u hb_cn; have zz2 := Hid.u hq_c10; omega)))
      refine lv_icmp_ge (tgt := 90) hx hb (oc_162 19 (aq_19 shX11_gatherStops_0) sgw_0_71) rfl (fun c_5 => ?_) (fun c_5 => ?_)
      ·
        have tc_5 : ((nI (c10 10)).toInt : Int) ≤ (nI i10).toInt := Int32.le_iff_toInt_le.mp c_5
        refine lv_aload_n hx hb (oc_42 90 (aq_15 shX11_gatherStops_75)) rfl (lvA1 hl) ?_
        refine gf_RX11_54 S hK hP 0 xo_0 (v := .ref (g 9)) rfl (oc_180 91 (aq_16 shX11_gatherStops_75) uw_0_54) ?_
        have hFc := free_all hD hS hA
        refine va_callv (runV_xa (As := []) (rest := []) S (q_Xsolve l D cI cB cZ zz qq vv bt g ad c10 In F10  H.size hI10) kV_RX11_273 hK hXS hS hFc hP hD 17 xo_17 rfl rfl ⟨Nat.le_of_ble_eq_true rfl, Nat.le_of_ble_eq_true rfl⟩ ⟨Nat.le_of_ble_eq_true rfl, Nat.le_of_ble_eq_true rfl⟩ rfl hl.1 rfl (Nat.le_of_ble_eq_true rfl) (oc_182 94 (aq_19 shX11_gatherStops_75) uw_1_17)) hS (fun q _ h => hFc q h) hFc (fun u t H1 locs ht hvm wh_7 hB1 hz1 hk1 hS => ?_)
        obtain ⟨cn7, In7, Fn7⟩ := u
        obtain ⟨hP1, hD1⟩ := hB1
        rw [ht] at hP1
        have hP : va_P D vwCl (wX cI (D.1 99) zz g ad cn7 In7 Fn7) H1 := hP1
        have hD : va_D A (wX cI (D.1 99) zz g ad cn7 In7 Fn7) := hD1.weaken (fun _ _ _ h => hFc _ h)
        generalize H1 = H at hP hS ⊢
        have vh_7 : (fun c2 I2 F2 => Fr [] [] [34, 35] c10 In F10 c2 I2 F2 ∧ CBX c2 ∧ (True)) cn7 In7 Fn7 := wh_7
        obtain ⟨hfc7, hIn7, h_7⟩ := vh_7
        obtain rfl : c10 = cn7 := (funext (fun k => hfc7.1 k List.not_mem_nil)).symm
        obtain rfl : In = In7 := (funext (fun k => hfc7.2.1 k List.not_mem_nil)).symm
        have hf7 : Fr [4] [] [30, 31, 32, 33, 34, 35] cn In Fn c10 In Fn7 := Fr.mo (Fr.tr hfr10 hfc7) (sbl rfl) (sbl rfl) (sbl rfl)
        replace hIn7 : CBXh c10 := hIn7
        refine lv_iconst (v := 1) hx hb (oc_4 97 (aq_22 shX11_gatherStops_75)) kic_1 ?_
        exact W.zret (v := 1) hx hb hr rfl (fun t ht hW => ⟨⟨1, (c10, In, Fn7), rfl, ⟨(Fr.mo hf7 (sbl rfl) (sbl rfl) (sbl rfl)), hIn7, trivial⟩, by rw [ht]; exact hP, hD⟩, hS.F ht⟩) hS.2.2 (oc_172 98 (aq_23 shX11_gatherStops_75))
      ·
        have tc_5 : ((nI i10).toInt : Int) < (nI (c10 10)).toInt := Int32.lt_iff_toInt_lt.mp (Int32.not_le.mp c_5)
        refine lv_aload_n hx hb (oc_42 22 (aq_22 shX11_gatherStops_0)) rfl (lvA1 hl) ?_
        refine gf_RX11_61 S hK hP 0 xo_0 (v := .ref (g 10)) rfl (oc_180 23 (aq_23 shX11_gatherStops_0) uw_0_61) ?_
        refine lv_iload hx hb (oc_21 26 shX11_gatherStops_26 ub_4) (lvA0 hl) ?_
        refine va_csq (runV_rx (As := [.int (nI i10)]) (rest := []) S (q_l_get l D cI cB cZ zz qq vv bt (g 10) (ad 2 0) (c10 20) (c10 10) i10 (ad 10 i10) (In 10) (fun i => if i < (c10 10) then some (ad 10 i) else none) (by (first | omega | (have zz0 := Hid.u hb_c10; have zz1 := Hid.u hb_cn; have zz2 := Hid.u hq_c10; omega))) (if_pos (by (first | omega | (have zz0 := Hid.u hb_c10; have zz1 := Hid.u hb_cn; have zz2 := Hid.u hq_c10; omega)))) (by (first | omega | (have zz0 := Hid.u hb_c10; have zz1 := Hid.u hb_cn; have zz2 := Hid.u hq_c10; omega))) (by (first | omega | (have zz0 := Hid.u hb_c10; have zz1 := Hid.u hb_cn; have zz2 := Hid.u hq_c10; omega)))) kV_RX11_87 hK hXS hS hP _ (two_is (xl_0 (by (first | omega | (have zz0 := Hid.u hb_c10; have zz1 := Hid.u hb_cn; have zz2 := Hid.u hq_c10; omega)))) (xf_13 (k := 0) (by (first | omega | (have zz0 := Hid.u hb_c10; have zz1 := Hid.u hb_cn; have zz2 := Hid.u hq_c10; omega))))) (va_recv hK.1 hP (ci := 0) rfl xo_24) ⟨Nat.le_of_ble_eq_true rfl, Nat.le_of_ble_eq_true rfl⟩ ⟨Nat.le_of_ble_eq_true rfl, Nat.le_of_ble_eq_true rfl⟩ rfl hl.1 rfl (Nat.le_of_ble_eq_true rfl) (oc_182 28 (aq_2 shX11_gatherStops_26) uw_0_87)) (fun r_8 h_9 => ?_)
        subst h_9
        have kf_1 : i10 < c10 10 := by (first | omega | (have zz0 := Hid.u hb_c10; have zz1 := Hid.u hb_cn; have zz2 := Hid.u hq_c10; omega))
        refine va_castS hx hb hown (S.2.2.2.2 _ (wk2_5 3 rfl rfl)) (xclass hK.1 (ci := 2) rfl) (va_recv hK.1 hP (ci := 2) rfl (xf_0 kf_1)) (oc_192 31 (aq_5 shX11_gatherStops_26) uw_0_91) ?_
        refine lv_astore (lv' := [(5, .ref (ad 10 i10)), (4, .int (nI i10)), (0, .ref (g 0)), (1, .int v0), (2, .int v1), (3, .int v2)]) hx hb (oc_58 34 (aq_8 shX11_gatherStops_26) ub_5) hl (ltb rfl) rfl (fun ls hl => ?_)
        refine lv_aload hx hb (oc_25 36 (aq_10 shX11_gatherStops_26) ub_5) (lvA0 hl) ?_
        refine lv_iload_n hx hb (oc_27 38 (aq_12 shX11_gatherStops_26)) rfl (lvA3 hl) ?_
        refine lv_aload hx hb (oc_25 39 (aq_13 shX11_gatherStops_26) ub_5) (lvA0 hl) ?_
        refine gf_RX11_263 S hK hP _ (xf_0 kf_1) (v := .int ((F10 105) i10)) rfl (oc_180 41 (aq_15 shX11_gatherStops_26) uw_1_7) ?_
        refine vp_callSi (runV_rxa (As := [.int v0, .int ((F10 105) i10)]) (rest := []) S (q_XfillOn l D cI cB cZ zz qq vv bt g ad c10 In F10 i10 v0 ((F10 105) i10) hI10 (by (first | omega | (have zz0 := Hid.u hb_c10; have zz1 := Hid.u hb_cn; have zz2 := Hid.u hq_c10; omega)))) kV_RX11_121 hK hXS hS hP _ (xf_0 kf_1) rfl rfl ⟨Nat.le_of_ble_eq_true rfl, Nat.le_of_ble_eq_true rfl⟩ ⟨Nat.le_of_ble_eq_true rfl, Nat.le_of_ble_eq_true rfl⟩ rfl hl.1 rfl (Nat.le_of_ble_eq_true rfl) (oc_182 44 (aq_18 shX11_gatherStops_26) uw_0_121)) (fun r_10 h_11 => ?_)
        subst h_11
        refine lv_istore (lv' := [(6, .int ((if ((F10 102) i10 * (v0 - ((F10 105) i10))) < (F10 103) i10 then (F10 102) i10 * (v0 - ((F10 105) i10)) else (F10 103) i10))), (5, .ref (ad 10 i10)), (4, .int (nI i10)), (0, .ref (g 0)), (1, .int v0), (2, .int v1), (3, .int v2)]) hx hb (oc_54 47 (aq_21 shX11_gatherStops_26) ub_6) hl (ltb rfl) rfl (fun ls hl => ?_)
        refine lv_iload hx hb (oc_21 49 (aq_23 shX11_gatherStops_26) ub_6) (lvA0 hl) ?_
        refine lv_iload_n hx hb (oc_28 51 shX11_gatherStops_51) rfl (lvA5 hl) ?_
        refine lv_icmp_ge (tgt := 58) hx hb (oc_162 52 (aq_1 shX11_gatherStops_51) sgw_0_6) rfl (fun c_12 => ?_) (fun c_12 => ?_)
        ·
          have tc_12 : (v1.toInt : Int) ≤ ((if ((F10 102) i10 * (v0 - ((F10 105) i10))) < (F10 103) i10 then (F10 102) i10 * (v0 - ((F10 105) i10)) else (F10 103) i10)).toInt := Int32.le_iff_toInt_le.mp c_12
          refine lv_aload_n hx hb (oc_42 58 (aq_7 shX11_gatherStops_51)) rfl (lvA3 hl) ?_
          refine gf_RX11_54 S hK hP 0 xo_0 (v := .ref (g 9)) rfl (oc_180 59 (aq_8 shX11_gatherStops_51) uw_0_54) ?_
          refine gf_RX11_267 S hK hP 17 xo_17 (v := .int (nI (c10 4))) rfl (oc_180 62 (aq_11 shX11_gatherStops_51) uw_1_11) ?_
          refine lv_iload_n hx hb (oc_29 65 (aq_14 shX11_gatherStops_51)) rfl (lvA6 hl) ?_
          have : (nI (c10 4)).toInt = (((c10 4) : Nat) : Int) := nI_toInt (by (first | omega | (have zz0 := Hid.u hb_c10; have zz1 := Hid.u hb_cn; have zz2 := Hid.u hq_c10; omega)))
          refine lv_icmp_lt (tgt := 71) hx hb (oc_161 66 (aq_15 shX11_gatherStops_51) sgw_0_5) rfl (fun c_13 => ?_) (fun c_13 => ?_)
          ·
            have tc_13 : ((nI (c10 4)).toInt : Int) < v2.toInt := Int32.lt_iff_toInt_lt.mp c_13
            refine lv_aload_n hx hb (oc_42 71 (aq_20 shX11_gatherStops_51)) rfl (lvA3 hl) ?_
            refine gf_RX11_54 S hK hP 0 xo_0 (v := .ref (g 9)) rfl (oc_180 72 (aq_21 shX11_gatherStops_51) uw_0_54) ?_
            refine lv_iload hx hb (oc_21 75 shX11_gatherStops_75 ub_4) (lvA2 hl) ?_
            refine lv_aload hx hb (oc_25 77 (aq_2 shX11_gatherStops_75) ub_5) (lvA1 hl) ?_
            refine lv_iload hx hb (oc_21 79 (aq_4 shX11_gatherStops_75) ub_6) (lvA0 hl) ?_
            have hFc := free_all hD hS hA
            refine va_callv (runV_xa (As := [.int (nI i10), .ref (ad 10 i10), .int ((if ((F10 102) i10 * (v0 - ((F10 105) i10))) < (F10 103) i10 then (F10 102) i10 * (v0 - ((F10 105) i10)) else (F10 103) i10))]) (rest := []) S (q_Xwadd l D cI cB cZ zz qq vv bt g ad c10 In F10 (nI i10) i10 ((if ((F10 102) i10 * (v0 - ((F10 105) i10))) < (F10 103) i10 then (F10 102) i10 * (v0 - ((F10 105) i10)) else (F10 103) i10)) H.size hI10 (by (first | omega | (have zz0 := Hid.u hb_c10; have zz1 := Hid.u hb_cn; have zz2 := Hid.u hq_c10; omega))) (by (first | omega | (have zz0 := Hid.u hb_c10; have zz1 := Hid.u hb_cn; have zz2 := Hid.u hq_c10; omega)))) kV_RX11_270 hK hXS hS hFc hP hD 17 xo_17 rfl rfl ⟨Nat.le_of_ble_eq_true rfl, Nat.le_of_ble_eq_true rfl⟩ ⟨Nat.le_of_ble_eq_true rfl, Nat.le_of_ble_eq_true rfl⟩ rfl hl.1 rfl (Nat.le_of_ble_eq_true rfl) (oc_182 81 (aq_6 shX11_gatherStops_75) uw_1_14)) hS (fun q _ h => hFc q h) hFc (fun u t H1 locs ht hvm wh_15 hB1 hz1 hk1 hS => ?_)
            obtain ⟨cn15, In15, Fn15⟩ := u
            obtain ⟨hP1, hD1⟩ := hB1
            rw [ht] at hP1
            have hP : va_P D vwCl (wX cI (D.1 99) zz g ad cn15 In15 Fn15) H1 := hP1
            have hD : va_D A (wX cI (D.1 99) zz g ad cn15 In15 Fn15) := hD1.weaken (fun _ _ _ h => hFc _ h)
            generalize H1 = H at hP hS ⊢
            have vh_15 : (fun c2 I2 F2 => Fr [4] [] [30, 31, 32, 33] c10 In F10 c2 I2 F2 ∧ CBX c2 ∧ (c2 4 = (c10 4) + 1)) cn15 In15 Fn15 := wh_15
            obtain ⟨hfc15, hIn15, h_15⟩ := vh_15
            obtain rfl : In = In15 := (funext (fun k => hfc15.2.1 k List.not_mem_nil)).symm
            have hf15 : Fr [4] [] [30, 31, 32, 33, 34, 35] cn In Fn cn15 In Fn15 := Fr.mo (Fr.tr hfr10 hfc15) (sbl rfl) (sbl rfl) (sbl rfl)
            have hb_cn15 : Hid (CBX cn15) := hIn15
            replace hIn15 : CBXh cn15 := hIn15
            have : cn15 6 = (c10 6) := hfc15.1 6 (nml rfl)
            have : cn15 31 = (c10 31) := hfc15.1 31 (nml rfl)
            have : cn15 32 = (c10 32) := hfc15.1 32 (nml rfl)
            have hq_cn15 : Hid (cn15 0 = (c10 0) ∧ cn15 1 = (c10 1) ∧ cn15 2 = (c10 2) ∧ cn15 3 = (c10 3) ∧ cn15 5 = (c10 5) ∧ cn15 10 = (c10 10) ∧ cn15 11 = (c10 11) ∧ cn15 12 = (c10 12) ∧ cn15 13 = (c10 13) ∧ cn15 14 = (c10 14) ∧ cn15 15 = (c10 15) ∧ cn15 20 = (c10 20) ∧ cn15 21 = (c10 21) ∧ cn15 22 = (c10 22) ∧ cn15 23 = (c10 23) ∧ cn15 24 = (c10 24) ∧ cn15 25 = (c10 25)) := Hid.i (p := cn15 0 = (c10 0) ∧ cn15 1 = (c10 1) ∧ cn15 2 = (c10 2) ∧ cn15 3 = (c10 3) ∧ cn15 5 = (c10 5) ∧ cn15 10 = (c10 10) ∧ cn15 11 = (c10 11) ∧ cn15 12 = (c10 12) ∧ cn15 13 = (c10 13) ∧ cn15 14 = (c10 14) ∧ cn15 15 = (c10 15) ∧ cn15 20 = (c10 20) ∧ cn15 21 = (c10 21) ∧ cn15 22 = (c10 22) ∧ cn15 23 = (c10 23) ∧ cn15 24 = (c10 24) ∧ cn15 25 = (c10 25)) ⟨hfc15.1 0 (nml rfl), hfc15.1 1 (nml rfl), hfc15.1 2 (nml rfl), hfc15.1 3 (nml rfl), hfc15.1 5 (nml rfl), hfc15.1 10 (nml rfl), hfc15.1 11 (nml rfl), hfc15.1 12 (nml rfl), hfc15.1 13 (nml rfl), hfc15.1 14 (nml rfl), hfc15.1 15 (nml rfl), hfc15.1 20 (nml rfl), hfc15.1 21 (nml rfl), hfc15.1 22 (nml rfl), hfc15.1 23 (nml rfl), hfc15.1 24 (nml rfl), hfc15.1 25 (nml rfl)⟩
            refine lv_iinc (v := (nI (i10 + 1))) (lv' := [(4, .int (nI (i10 + 1))), (6, .int ((if ((F10 102) i10 * (v0 - ((F10 105) i10))) < (F10 103) i10 then (F10 102) i10 * (v0 - ((F10 105) i10)) else (F10 103) i10))), (5, .ref (ad 10 i10)), (0, .ref (g 0)), (1, .int v0), (2, .int v1), (3, .int v2)]) hx hb (oc_132 84 (aq_9 shX11_gatherStops_75) ub_4 sgb_1) hl (k := 2) rfl (nI_1 _) (ltb rfl) rfl (fun ls hl => ?_)
            refine lv_goto (tgt := 10) hx hb (oc_167 87 (aq_12 shX11_gatherStops_75) sgw_255_179) rfl ?_
            exact ih10 (i10 + 1) cn15 Fn15 _ _ (by (first | omega | (have zz0 := Hid.u hb_c10; have zz1 := Hid.u hb_cn; have zz2 := Hid.u hb_cn15; have zz3 := Hid.u hq_c10; have zz4 := Hid.u hq_cn15; omega))) ⟨(by (first | omega | (have zz0 := Hid.u hb_c10; have zz1 := Hid.u hb_cn; have zz2 := Hid.u hb_cn15; have zz3 := Hid.u hq_c10; have zz4 := Hid.u hq_cn15; omega))), (Fr.mo hf15 (sbl rfl) (sbl rfl) (sbl rfl)), hIn15⟩ hP hD hS ls (lv_sub hl [0, 3, 4, 5, 6] rfl)
          ·
            have tc_13 : (v2.toInt : Int) ≤ (nI (c10 4)).toInt := Int32.le_iff_toInt_le.mp (Int32.not_lt.mp c_13)
            refine lv_iconst (v := 0) hx hb (oc_3 69 (aq_18 shX11_gatherStops_51)) kic_0 ?_
            exact W.zret (v := 0) hx hb hr rfl (fun t ht hW => ⟨⟨0, (c10, In, F10), rfl, ⟨(Fr.mo hfr10 (sbl rfl) (sbl rfl) (sbl rfl)), hI10, trivial⟩, by rw [ht]; exact hP, hD⟩, hS.F ht⟩) hS.2.2 (oc_172 70 (aq_19 shX11_gatherStops_51))
        ·
          have tc_12 : (((if ((F10 102) i10 * (v0 - ((F10 105) i10))) < (F10 103) i10 then (F10 102) i10 * (v0 - ((F10 105) i10)) else (F10 103) i10)).toInt : Int) < v1.toInt := Int32.lt_iff_toInt_lt.mp (Int32.not_le.mp c_12)
          refine lv_goto (tgt := 84) hx hb (oc_167 55 (aq_4 shX11_gatherStops_51) sgw_0_29) rfl ?_
          refine lv_iinc (v := (nI (i10 + 1))) (lv' := [(4, .int (nI (i10 + 1))), (6, .int ((if ((F10 102) i10 * (v0 - ((F10 105) i10))) < (F10 103) i10 then (F10 102) i10 * (v0 - ((F10 105) i10)) else (F10 103) i10))), (5, .ref (ad 10 i10)), (0, .ref (g 0)), (1, .int v0), (2, .int v1), (3, .int v2)]) hx hb (oc_132 84 (aq_9 shX11_gatherStops_75) ub_4 sgb_1) hl (k := 2) rfl (nI_1 _) (ltb rfl) rfl (fun ls hl => ?_)
          refine lv_goto (tgt := 10) hx hb (oc_167 87 (aq_12 shX11_gatherStops_75) sgw_255_179) rfl ?_
          exact ih10 (i10 + 1) c10 F10 _ _ (by (first | omega | (have zz0 := Hid.u hb_c10; have zz1 := Hid.u hb_cn; have zz2 := Hid.u hq_c10; omega))) ⟨(by (first | omega | (have zz0 := Hid.u hb_c10; have zz1 := Hid.u hb_cn; have zz2 := Hid.u hq_c10; omega))), (Fr.mo hfr10 (sbl rfl) (sbl rfl) (sbl rfl)), hI10⟩ hP hD hS ls (lv_sub hl [0, 3, 4, 5, 6] rfl)
  exact lp_10 _ 0 (va_up cn 4 0) Fn _ _ (Nat.lt_succ_self _) ⟨(by (first | omega | (have zz0 := Hid.u hb_cn; omega))), (Fr.mo (Fr.c 4 Fr.rf) (sbl rfl) (sbl rfl) (sbl rfl)), (CBX.u4 (v := 0) hB (show 0 ≤ 8 by (first | omega | (have zz0 := Hid.u hb_cn; omega))))⟩ hP hD hS ls (lv_sub hl [0, 1, 2, 3, 4] rfl)
set_option maxRecDepth 100000 in
set_option maxHeartbeats 4000000 in
theorem q_Xround (l : Launch) (D : va_G) (cI cB cZ : ClassId) (zz qq vv : Nat) (bt : Nat → Int32) (g : Nat → Nat) (ad : Nat → Nat → Nat) (cn : Nat → Nat) (In : Nat → Int32) (Fn : Nat → Nat → Int32) (v0 v1 v2 : Int32) (sz : Nat) (hB : CBX cn) : Met l yX11_round (CWS yX11_round cX11_round 4 (some .int)) (RM 7 0 0) (PBx [.ref (g 0), .int v0, .int v1, .int v2] D cI cB cZ zz qq vv bt (wX cI (D.1 99) zz g ad cn In Fn) sz) (va_Qi (fun (r : Int32) (u : (Nat → Nat) × (Nat → Int32) × (Nat → Nat → Int32)) => (fun r c2 I2 F2 => Fr [4] [] [30, 31, 32, 33, 34, 35, 105] cn In Fn c2 I2 F2 ∧ CBX c2 ∧ (True)) r u.1 u.2.1 u.2.2) (fun (u : (Nat → Nat) × (Nat → Int32) × (Nat → Nat → Int32)) (t : State) => va_P D vwCl (wX cI (D.1 99) zz g ad u.1 u.2.1 u.2.2) t.heap ∧ va_D (va_A (wX cI (D.1 99) zz g ad cn In Fn) sz) (wX cI (D.1 99) zz g ad u.1 u.2.1 u.2.2)) (va_A (wX cI (D.1 99) zz g ad cn In Fn) sz)) 0 0 (va_A (wX cI (D.1 99) zz g ad cn In Fn) sz) := by
  refine en_x (fun A => (va_Qi (fun (r : Int32) (u : (Nat → Nat) × (Nat → Int32) × (Nat → Nat → Int32)) => (fun (r : Int32) (c2 : Nat → Nat) (I2 : Nat → Int32) (F2 : Nat → Nat → Int32) => Fr [4] [] [30, 31, 32, 33, 34, 35, 105] cn In Fn c2 I2 F2 ∧ CBX c2 ∧ (True)) r u.1 u.2.1 u.2.2) (fun (u : (Nat → Nat) × (Nat → Int32) × (Nat → Nat → Int32)) (t : State) => va_P D vwCl (wX cI (D.1 99) zz g ad u.1 u.2.1 u.2.2) t.heap ∧ va_D A (wX cI (D.1 99) zz g ad u.1 u.2.1 u.2.2)) A)) rfl rfl pn_RX11 (Nat.le_of_ble_eq_true rfl) (fun p e s m below meth c A hx hb hml hown S hr hlocks hnm hA hP hK hD hXS hS ls hl => ?_)
  have hl : lv_has ls 4 [(0, .ref (g 0)), (1, .int v0), (2, .int v1), (3, .int v2)] := hl
  have hb_cn : Hid (CBX cn) := hB
  replace hB : CBXh cn := hB
  refine lv_iload_n hx hb (oc_27 0 shX11_round_0) rfl (lvA1 hl) ?_
  refine vp_callSi (runS_r (As := [.int v0]) (rest := []) S (q_l_isDay l D cI cB cZ v0) kS_RX11_99 hK hP [] rfl ⟨Nat.le_of_ble_eq_true rfl, Nat.le_of_ble_eq_true rfl⟩ ⟨Nat.le_of_ble_eq_true rfl, Nat.le_of_ble_eq_true rfl⟩ rfl hl.1 rfl (Nat.le_of_ble_eq_true rfl) (oc_184 1 (aq_1 shX11_round_0) uw_0_99)) (fun r_1 h_2 => ?_)
  rcases h_2 with ⟨rfl, h_2⟩ | ⟨rfl, h_2⟩
  ·
    have h_2 : 0 ≤ v0.toInt ∧ v0.toInt ≤ 399 := h_2
    refine lv_if_eq (tgt := 18) hx hb (oc_153 4 (aq_4 shX11_round_0) sgw_0_14) rfl (fun h => absurd h cq_eq_1_0) (fun _ => ?_)
    refine lv_iload_n hx hb (oc_28 7 (aq_7 shX11_round_0)) rfl (lvA2 hl) ?_
    refine lv_iconst (v := 1) hx hb (oc_4 8 (aq_8 shX11_round_0)) kic_1 ?_
    refine lv_sipush (v := 400) hx hb (oc_17 9 (aq_9 shX11_round_0) sgw_1_144) (by decide) ?_
    refine vp_callSi (runS_r (As := [.int v1, .int 1, .int 400]) (rest := []) S (q_l_within l D cI cB cZ v1 1 400) kS_RX11_80 hK hP [] rfl ⟨Nat.le_of_ble_eq_true rfl, Nat.le_of_ble_eq_true rfl⟩ ⟨Nat.le_of_ble_eq_true rfl, Nat.le_of_ble_eq_true rfl⟩ rfl hl.1 rfl (Nat.le_of_ble_eq_true rfl) (oc_184 12 (aq_12 shX11_round_0) uw_0_80)) (fun r_3 h_4 => ?_)
    rcases h_4 with ⟨rfl, h_4⟩ | ⟨rfl, h_4⟩
    ·
      have h_4 : 1 ≤ v1.toInt ∧ v1.toInt ≤ 400 := h_4
      refine lv_if_ne (tgt := 20) hx hb (oc_154 15 (aq_15 shX11_round_0) sgw_0_5) rfl (fun _ => ?_) (fun h => absurd h cq_eq_1_0)
      refine lv_aload_n hx hb (oc_42 20 (aq_20 shX11_round_0)) rfl (lvA0 hl) ?_
      refine lv_iload_n hx hb (oc_27 21 (aq_21 shX11_round_0)) rfl (lvA1 hl) ?_
      have hFc := free_all hD hS hA
      refine va_calli (runV_xa (As := [.int v0]) (rest := []) S (q_XstartTrial l D cI cB cZ zz qq vv bt g ad cn In Fn v0 s.heap.size hB) kV_RX11_276 hK hXS hS hFc hP hD 0 xo_0 rfl rfl ⟨Nat.le_of_ble_eq_true rfl, Nat.le_of_ble_eq_true rfl⟩ ⟨Nat.le_of_ble_eq_true rfl, Nat.le_of_ble_eq_true rfl⟩ rfl hl.1 rfl (Nat.le_of_ble_eq_true rfl) (oc_182 22 (aq_22 shX11_round_0) uw_1_20)) hS (fun q _ h => hFc q h) hFc (fun r_5 u t H1 locs ht hvm wh_6 hB1 hz1 hk1 hS => ?_)
      obtain ⟨cn6, In6, Fn6⟩ := u
      obtain ⟨hP1, hD1⟩ := hB1
      rw [ht] at hP1
      have hP : va_P D vwCl (wX cI (D.1 99) zz g ad cn6 In6 Fn6) H1 := hP1
      have hD : va_D A (wX cI (D.1 99) zz g ad cn6 In6 Fn6) := hD1.weaken (fun _ _ _ h => hFc _ h)
      generalize H1 = H at hP hS ⊢
      have vh_6 : (fun r c2 I2 F2 => Fr [] [] [105] cn In Fn c2 I2 F2 ∧ CBX c2 ∧ (True)) r_5 cn6 In6 Fn6 := wh_6
      obtain ⟨hfc6, hIn6, h_6⟩ := vh_6
      obtain rfl : cn = cn6 := (funext (fun k => hfc6.1 k List.not_mem_nil)).symm
      obtain rfl : In = In6 := (funext (fun k => hfc6.2.1 k List.not_mem_nil)).symm
      have hf6 : Fr [4] [] [30, 31, 32, 33, 34, 35, 105] cn In Fn cn In Fn6 := Fr.mo (Fr.tr (Fr.rf (cn := cn) (In := In) (Fn := Fn)) hfc6) (sbl rfl) (sbl rfl) (sbl rfl)
      replace hIn6 : CBXh cn := hIn6
      refine lv_if_eq (tgt := 39) hx hb (oc_153 25 shX11_round_25 sgw_0_14) rfl (fun c_7 => ?_) (fun c_7 => ?_)
      ·
        have tc_7 : (r_5.toInt : Int) = 0 := congrArg Int32.toInt c_7
        refine lv_bipush (v := (-2)) hx hb (oc_16 39 (aq_14 shX11_round_25) sgb_254) kbc_m2 ?_
        exact W.iret (v := (-2)) hx hb hr (fun t ht hW => ⟨⟨(-2), (cn, In, Fn6), rfl, ⟨(Fr.mo hf6 (sbl rfl) (sbl rfl) (sbl rfl)), hIn6, trivial⟩, by rw [ht]; exact hP, hD⟩, hS.F ht⟩) hS.2.2 (oc_172 41 (aq_16 shX11_round_25))
      ·
        have tc_7 : (r_5.toInt : Int) ≠ 0 := fun q => c_7 (Int32.toInt_inj.mp q)
        refine lv_aload_n hx hb (oc_42 28 (aq_3 shX11_round_25)) rfl (lvA0 hl) ?_
        refine lv_iload_n hx hb (oc_27 29 (aq_4 shX11_round_25)) rfl (lvA1 hl) ?_
        refine lv_iload_n hx hb (oc_28 30 (aq_5 shX11_round_25)) rfl (lvA2 hl) ?_
        refine lv_bipush (v := 8) hx hb (oc_16 31 (aq_6 shX11_round_25) sgb_8) kbc_8 ?_
        have hFc := free_all hD hS hA
        refine va_calli (runV_xa (As := [.int v0, .int v1, .int 8]) (rest := []) S (q_XgatherStops l D cI cB cZ zz qq vv bt g ad cn In Fn6 v0 v1 8 H.size hIn6 (by decide)) kV_RX11_279 hK hXS hS hFc hP hD 0 xo_0 rfl rfl ⟨Nat.le_of_ble_eq_true rfl, Nat.le_of_ble_eq_true rfl⟩ ⟨Nat.le_of_ble_eq_true rfl, Nat.le_of_ble_eq_true rfl⟩ rfl hl.1 rfl (Nat.le_of_ble_eq_true rfl) (oc_182 33 (aq_8 shX11_round_25) uw_1_23)) hS (fun q _ h => hFc q h) hFc (fun r_8 u t H1 locs ht hvm wh_9 hB1 hz1 hk1 hS => ?_)
        obtain ⟨cn9, In9, Fn9⟩ := u
        obtain ⟨hP1, hD1⟩ := hB1
        rw [ht] at hP1
        have hP : va_P D vwCl (wX cI (D.1 99) zz g ad cn9 In9 Fn9) H1 := hP1
        have hD : va_D A (wX cI (D.1 99) zz g ad cn9 In9 Fn9) := hD1.weaken (fun _ _ _ h => hFc _ h)
        generalize H1 = H at hP hS ⊢
        have vh_9 : (fun r c2 I2 F2 => Fr [4] [] [30, 31, 32, 33, 34, 35] cn In Fn6 c2 I2 F2 ∧ CBX c2 ∧ (True)) r_8 cn9 In9 Fn9 := wh_9
        obtain ⟨hfc9, hIn9, h_9⟩ := vh_9
        obtain rfl : In = In9 := (funext (fun k => hfc9.2.1 k List.not_mem_nil)).symm
        have hf9 : Fr [4] [] [30, 31, 32, 33, 34, 35, 105] cn In Fn cn9 In Fn9 := Fr.mo (Fr.tr hf6 hfc9) (sbl rfl) (sbl rfl) (sbl rfl)
        have hb_cn9 : Hid (CBX cn9) := hIn9
        replace hIn9 : CBXh cn9 := hIn9
        have : cn9 6 = (cn 6) := hfc9.1 6 (nml rfl)
        have : cn9 31 = (cn 31) := hfc9.1 31 (nml rfl)
        have : cn9 32 = (cn 32) := hfc9.1 32 (nml rfl)
        have hq_cn9 : Hid (cn9 0 = (cn 0) ∧ cn9 1 = (cn 1) ∧ cn9 2 = (cn 2) ∧ cn9 3 = (cn 3) ∧ cn9 5 = (cn 5) ∧ cn9 10 = (cn 10) ∧ cn9 11 = (cn 11) ∧ cn9 12 = (cn 12) ∧ cn9 13 = (cn 13) ∧ cn9 14 = (cn 14) ∧ cn9 15 = (cn 15) ∧ cn9 20 = (cn 20) ∧ cn9 21 = (cn 21) ∧ cn9 22 = (cn 22) ∧ cn9 23 = (cn 23) ∧ cn9 24 = (cn 24) ∧ cn9 25 = (cn 25)) := Hid.i (p := cn9 0 = (cn 0) ∧ cn9 1 = (cn 1) ∧ cn9 2 = (cn 2) ∧ cn9 3 = (cn 3) ∧ cn9 5 = (cn 5) ∧ cn9 10 = (cn 10) ∧ cn9 11 = (cn 11) ∧ cn9 12 = (cn 12) ∧ cn9 13 = (cn 13) ∧ cn9 14 = (cn 14) ∧ cn9 15 = (cn 15) ∧ cn9 20 = (cn 20) ∧ cn9 21 = (cn 21) ∧ cn9 22 = (cn 22) ∧ cn9 23 = (cn 23) ∧ cn9 24 = (cn 24) ∧ cn9 25 = (cn 25)) ⟨hfc9.1 0 (nml rfl), hfc9.1 1 (nml rfl), hfc9.1 2 (nml rfl), hfc9.1 3 (nml rfl), hfc9.1 5 (nml rfl), hfc9.1 10 (nml rfl), hfc9.1 11 (nml rfl), hfc9.1 12 (nml rfl), hfc9.1 13 (nml rfl), hfc9.1 14 (nml rfl), hfc9.1 15 (nml rfl), hfc9.1 20 (nml rfl), hfc9.1 21 (nml rfl), hfc9.1 22 (nml rfl), hfc9.1 23 (nml rfl), hfc9.1 24 (nml rfl), hfc9.1 25 (nml rfl)⟩
        refine lv_if_ne (tgt := 42) hx hb (oc_154 36 (aq_11 shX11_round_25) sgw_0_6) rfl (fun c_10 => ?_) (fun c_10 => ?_)
        ·
          have tc_10 : (r_8.toInt : Int) ≠ 0 := fun q => c_10 (Int32.toInt_inj.mp q)
          refine lv_iload_n hx hb (oc_29 42 (aq_17 shX11_round_25)) rfl (lvA3 hl) ?_
          refine lv_iconst (v := (-1)) hx hb (oc_2 43 (aq_18 shX11_round_25)) kic_m1 ?_
          refine lv_icmp_ne (tgt := 57) hx hb (oc_160 44 (aq_19 shX11_round_25) sgw_0_13) rfl (fun c_11 => ?_) (fun c_11 => ?_)
          ·
            have tc_11 : (v2.toInt : Int) ≠ (-1) := fun q => c_11 (Int32.toInt_inj.mp q)
            refine lv_aload_n hx hb (oc_42 57 (aq_6 shX11_round_51)) rfl (lvA0 hl) ?_
            refine gf_RX11_54 S hK hP 0 xo_0 (v := .ref (g 9)) rfl (oc_180 58 (aq_7 shX11_round_51) uw_0_54) ?_
            refine lv_iload_n hx hb (oc_29 61 (aq_10 shX11_round_51)) rfl (lvA3 hl) ?_
            refine vp_callSi (runV_rxa (As := [.int v2]) (rest := []) S (q_XkitchenInRow l D cI cB cZ zz qq vv bt g ad cn9 In Fn9 v2 hIn9) kV_RX11_285 hK hXS hS hP 17 xo_17 rfl rfl ⟨Nat.le_of_ble_eq_true rfl, Nat.le_of_ble_eq_true rfl⟩ ⟨Nat.le_of_ble_eq_true rfl, Nat.le_of_ble_eq_true rfl⟩ rfl hl.1 rfl (Nat.le_of_ble_eq_true rfl) (oc_182 62 (aq_11 shX11_round_51) uw_1_29)) (fun r_12 h_13 => ?_)
            exact W.iret (v := r_12) hx hb hr (fun t ht hW => ⟨⟨r_12, (cn9, In, Fn9), rfl, ⟨(Fr.mo hf9 (sbl rfl) (sbl rfl) (sbl rfl)), hIn9, trivial⟩, by rw [ht]; exact hP, hD⟩, hS.F ht⟩) hS.2.2 (oc_172 65 (aq_14 shX11_round_51))
          ·
            have tc_11 : (v2.toInt : Int) = (-1) := congrArg Int32.toInt c_11
            refine lv_aload_n hx hb (oc_42 47 (aq_22 shX11_round_25)) rfl (lvA0 hl) ?_
            refine gf_RX11_54 S hK hP 0 xo_0 (v := .ref (g 9)) rfl (oc_180 48 (aq_23 shX11_round_25) uw_0_54) ?_
            refine vp_callSi (runV_rxa (As := []) (rest := []) S (q_XwholeLength l D cI cB cZ zz qq vv bt g ad cn9 In Fn9  hIn9) kV_RX11_282 hK hXS hS hP 17 xo_17 rfl rfl ⟨Nat.le_of_ble_eq_true rfl, Nat.le_of_ble_eq_true rfl⟩ ⟨Nat.le_of_ble_eq_true rfl, Nat.le_of_ble_eq_true rfl⟩ rfl hl.1 rfl (Nat.le_of_ble_eq_true rfl) (oc_182 51 shX11_round_51 uw_1_26)) (fun r_14 h_15 => ?_)
            refine lv_goto (tgt := 65) hx hb (oc_167 54 (aq_3 shX11_round_51) sgw_0_11) rfl ?_
            exact W.iret (v := r_14) hx hb hr (fun t ht hW => ⟨⟨r_14, (cn9, In, Fn9), rfl, ⟨(Fr.mo hf9 (sbl rfl) (sbl rfl) (sbl rfl)), hIn9, trivial⟩, by rw [ht]; exact hP, hD⟩, hS.F ht⟩) hS.2.2 (oc_172 65 (aq_14 shX11_round_51))
        ·
          have tc_10 : (r_8.toInt : Int) = 0 := congrArg Int32.toInt c_10
          refine lv_bipush (v := (-2)) hx hb (oc_16 39 (aq_14 shX11_round_25) sgb_254) kbc_m2 ?_
          exact W.iret (v := (-2)) hx hb hr (fun t ht hW => ⟨⟨(-2), (cn9, In, Fn9), rfl, ⟨(Fr.mo hf9 (sbl rfl) (sbl rfl) (sbl rfl)), hIn9, trivial⟩, by rw [ht]; exact hP, hD⟩, hS.F ht⟩) hS.2.2 (oc_172 41 (aq_16 shX11_round_25))
    ·
      have h_4 : ¬ (1 ≤ v1.toInt ∧ v1.toInt ≤ 400) := h_4
      refine lv_if_ne (tgt := 20) hx hb (oc_154 15 (aq_15 shX11_round_0) sgw_0_5) rfl (fun h => absurd h cq_eq_0_0) (fun _ => ?_)
      refine lv_iconst (v := (-1)) hx hb (oc_2 18 (aq_18 shX11_round_0)) kic_m1 ?_
      exact W.iret (v := (-1)) hx hb hr (fun t ht hW => ⟨⟨(-1), (cn, In, Fn), rfl, ⟨(Fr.mo Fr.rf (sbl rfl) (sbl rfl) (sbl rfl)), hB, trivial⟩, by rw [ht]; exact hP, hD⟩, hS.F ht⟩) hS.2.2 (oc_172 19 (aq_19 shX11_round_0))
  ·
    have h_2 : ¬ (0 ≤ v0.toInt ∧ v0.toInt ≤ 399) := h_2
    refine lv_if_eq (tgt := 18) hx hb (oc_153 4 (aq_4 shX11_round_0) sgw_0_14) rfl (fun _ => ?_) (fun h => absurd h cq_eq_0_0)
    refine lv_iconst (v := (-1)) hx hb (oc_2 18 (aq_18 shX11_round_0)) kic_m1 ?_
    exact W.iret (v := (-1)) hx hb hr (fun t ht hW => ⟨⟨(-1), (cn, In, Fn), rfl, ⟨(Fr.mo Fr.rf (sbl rfl) (sbl rfl) (sbl rfl)), hB, trivial⟩, by rw [ht]; exact hP, hD⟩, hS.F ht⟩) hS.2.2 (oc_172 19 (aq_19 shX11_round_0))
set_option maxRecDepth 100000 in
set_option maxHeartbeats 4000000 in
theorem q_XemptyStops (l : Launch) (D : va_G) (cI cB cZ : ClassId) (zz qq vv : Nat) (bt : Nat → Int32) (g : Nat → Nat) (ad : Nat → Nat → Nat) (cn : Nat → Nat) (In : Nat → Int32) (Fn : Nat → Nat → Int32) (v0 : Int32) (sz : Nat) (hB : CBX cn) : Met l yX11_emptyStops (CWS yX11_emptyStops cX11_emptyStops 5 (some .int)) (RM 4 0 0) (PBx [.ref (g 0), .int v0] D cI cB cZ zz qq vv bt (wX cI (D.1 99) zz g ad cn In Fn) sz) (va_Qi (fun (r : Int32) (u : (Nat → Nat) × (Nat → Int32) × (Nat → Nat → Int32)) => (fun r c2 I2 F2 => Fr [] [] [105] cn In Fn c2 I2 F2 ∧ CBX c2 ∧ (True)) r u.1 u.2.1 u.2.2) (fun (u : (Nat → Nat) × (Nat → Int32) × (Nat → Nat → Int32)) (t : State) => va_P D vwCl (wX cI (D.1 99) zz g ad u.1 u.2.1 u.2.2) t.heap ∧ va_D (va_A (wX cI (D.1 99) zz g ad cn In Fn) sz) (wX cI (D.1 99) zz g ad u.1 u.2.1 u.2.2)) (va_A (wX cI (D.1 99) zz g ad cn In Fn) sz)) 0 0 (va_A (wX cI (D.1 99) zz g ad cn In Fn) sz) := by
  refine en_x (fun A => (va_Qi (fun (r : Int32) (u : (Nat → Nat) × (Nat → Int32) × (Nat → Nat → Int32)) => (fun (r : Int32) (c2 : Nat → Nat) (I2 : Nat → Int32) (F2 : Nat → Nat → Int32) => Fr [] [] [105] cn In Fn c2 I2 F2 ∧ CBX c2 ∧ (True)) r u.1 u.2.1 u.2.2) (fun (u : (Nat → Nat) × (Nat → Int32) × (Nat → Nat → Int32)) (t : State) => va_P D vwCl (wX cI (D.1 99) zz g ad u.1 u.2.1 u.2.2) t.heap ∧ va_D A (wX cI (D.1 99) zz g ad u.1 u.2.1 u.2.2)) A)) rfl rfl pn_RX11 (Nat.le_of_ble_eq_true rfl) (fun p e s m below meth c A hx hb hml hown S hr hlocks hnm hA hP hK hD hXS hS ls hl => ?_)
  have hl : lv_has ls 5 [(0, .ref (g 0)), (1, .int v0)] := hl
  have hb_cn : Hid (CBX cn) := hB
  replace hB : CBXh cn := hB
  refine lv_iconst (v := 0) hx hb (oc_3 0 shX11_emptyStops_0) kic_0 ?_
  refine lv_istore_n (lv' := [(2, .int 0), (0, .ref (g 0)), (1, .int v0)]) hx hb (oc_61 1 (aq_1 shX11_emptyStops_0)) rfl hl (ltb rfl) rfl (fun ls hl => ?_)
  refine lv_iconst (v := 0) hx hb (oc_3 2 (aq_2 shX11_emptyStops_0)) kic_0 ?_
  refine lv_istore_n (lv' := [(3, .int 0), (2, .int 0), (0, .ref (g 0)), (1, .int v0)]) hx hb (oc_62 3 (aq_3 shX11_emptyStops_0)) rfl hl (ltb rfl) rfl (fun ls hl => ?_)
  have lp_4 : ∀ (n : Nat) (i4 : Nat) (x4_2 : Int32) (F4 : Nat → Nat → Int32) (H : Heap) (locs : List Loc) , cn 4 - i4 < n → (i4 ≤ cn 4 ∧ Fr [] [] [105] cn In Fn cn In F4 ∧ CBX cn) → va_P D vwCl (wX cI (D.1 99) zz g ad cn In F4) H → va_D A (wX cI (D.1 99) zz g ad cn In F4) → va_S A s.heap H locs → ∀ ls : Array Slot, lv_has ls 5 [(3, .int (nI i4)), (2, .int x4_2), (0, .ref (g 0)), (1, .int v0)] → W p l e (RM 4 0 0) s m ([.ref (g 0), .int v0]).toArray below meth c H locs 0 0 (MQ below (va_Qi (fun (r : Int32) (u : (Nat → Nat) × (Nat → Int32) × (Nat → Nat → Int32)) => (fun r c2 I2 F2 => Fr [] [] [105] cn In Fn c2 I2 F2 ∧ CBX c2 ∧ (True)) r u.1 u.2.1 u.2.2) (fun (u : (Nat → Nat) × (Nat → Int32) × (Nat → Nat → Int32)) (t : State) => va_P D vwCl (wX cI (D.1 99) zz g ad u.1 u.2.1 u.2.2) t.heap ∧ va_D A (wX cI (D.1 99) zz g ad u.1 u.2.1 u.2.2)) A) ([.ref (g 0), .int v0]).toArray s 0 0 A) (F0 m 4 ls []) := by
    intro n4
    induction n4 with
    | zero => intros; (first | omega | (have zz0 := Hid.u hb_cn; omega))
    | succ n4 ih4 =>
      intro i4 x4_2 F4 H locs hmu4 hinv4 hP hD hS ls hl
      obtain ⟨hr4, hfr4, hI4⟩ := hinv4
      have ti4 : (nI i4).toInt = (i4 : Int) := nI_toInt (by (first | omega | (have zz0 := Hid.u hb_cn; omega)))
      replace hI4 : CBXh cn := hI4
      refine lv_iload_n hx hb (oc_29 4 (aq_4 shX11_emptyStops_0)) rfl (lvA0 hl) ?_
      refine lv_aload_n hx hb (oc_42 5 (aq_5 shX11_emptyStops_0)) rfl (lvA2 hl) ?_
      refine gf_RX11_54 S hK hP 0 xo_0 (v := .ref (g 9)) rfl (oc_180 6 (aq_6 shX11_emptyStops_0) uw_0_54) ?_
      refine gf_RX11_267 S hK hP 17 xo_17 (v := .int (nI (cn 4))) rfl (oc_180 9 (aq_9 shX11_emptyStops_0) uw_1_11) ?_
      have : (nI (cn 4)).toInt = (((cn 4) : Nat) : Int) := nI_toInt (by (first | omega | (have zz0 := Hid.u hb_cn; omega)))
      refine lv_icmp_ge (tgt := 63) hx hb (oc_162 12 (aq_12 shX11_emptyStops_0) sgw_0_51) rfl (fun c_1 => ?_) (fun c_1 => ?_)
      ·
        have tc_1 : ((nI (cn 4)).toInt : Int) ≤ (nI i4).toInt := Int32.le_iff_toInt_le.mp c_1
        refine lv_iload_n hx hb (oc_28 63 (aq_15 shX11_emptyStops_48)) rfl (lvA1 hl) ?_
        exact W.iret (v := x4_2) hx hb hr (fun t ht hW => ⟨⟨x4_2, (cn, In, F4), rfl, ⟨(Fr.mo hfr4 (sbl rfl) (sbl rfl) (sbl rfl)), hI4, trivial⟩, by rw [ht]; exact hP, hD⟩, hS.F ht⟩) hS.2.2 (oc_172 64 (aq_16 shX11_emptyStops_48))
      ·
        have tc_1 : ((nI i4).toInt : Int) < (nI (cn 4)).toInt := Int32.lt_iff_toInt_lt.mp (Int32.not_le.mp c_1)
        refine lv_aload_n hx hb (oc_42 15 (aq_15 shX11_emptyStops_0)) rfl (lvA2 hl) ?_
        refine lv_aload_n hx hb (oc_42 16 (aq_16 shX11_emptyStops_0)) rfl (lvA2 hl) ?_
        refine gf_RX11_54 S hK hP 0 xo_0 (v := .ref (g 9)) rfl (oc_180 17 (aq_17 shX11_emptyStops_0) uw_0_54) ?_
        refine gf_RX11_306 S hK hP 17 xo_17 (v := .ref (g 30)) rfl (oc_180 20 (aq_20 shX11_emptyStops_0) uw_1_50) ?_
        refine lv_iload_n hx hb (oc_29 23 (aq_23 shX11_emptyStops_0)) rfl (lvA0 hl) ?_
        refine vp_callSi (runS_r (As := [.ref (g 30), .int (nI i4)]) (rest := [.ref (g 0)]) S (q_l_at l D cI cB cZ (g 30) 8 (F4 30) (nI i4) (by (first | omega | (have zz0 := Hid.u hb_cn; omega)))) kS_RX11_192 hK hP [18] (one_is xo_18) ⟨Nat.le_of_ble_eq_true rfl, Nat.le_of_ble_eq_true rfl⟩ ⟨Nat.le_of_ble_eq_true rfl, Nat.le_of_ble_eq_true rfl⟩ rfl hl.1 rfl (Nat.le_of_ble_eq_true rfl) (oc_184 24 shX11_emptyStops_24 uw_0_192)) (fun r_2 h_3 => ?_)
        subst h_3
        refine va_csq (runV_rxa (As := [.int (atM (F4 30) 8 (nI i4))]) (rest := []) S (q_XkitchenAt l D cI cB cZ zz qq vv bt g ad cn In F4 (atM (F4 30) 8 (nI i4)) hI4) kV_RX11_114 hK hXS hS hP 0 xo_0 rfl rfl ⟨Nat.le_of_ble_eq_true rfl, Nat.le_of_ble_eq_true rfl⟩ ⟨Nat.le_of_ble_eq_true rfl, Nat.le_of_ble_eq_true rfl⟩ rfl hl.1 rfl (Nat.le_of_ble_eq_true rfl) (oc_182 27 (aq_3 shX11_emptyStops_24) uw_0_114)) (fun r_4 h_5 => ?_)
        rcases h_5 with ⟨mr_4, er_4, hr_4, rfl⟩ | ⟨hr_4, rfl⟩
        ·
          refine lv_astore (lv' := [(4, .ref (ad 10 mr_4)), (3, .int (nI i4)), (2, .int x4_2), (0, .ref (g 0)), (1, .int v0)]) hx hb (oc_58 30 (aq_6 shX11_emptyStops_24) ub_4) hl (ltb rfl) rfl (fun ls hl => ?_)
          refine lv_iload_n hx hb (oc_28 32 (aq_8 shX11_emptyStops_24)) rfl (lvA2 hl) ?_
          refine lv_aload_n hx hb (oc_42 33 (aq_9 shX11_emptyStops_24)) rfl (lvA3 hl) ?_
          refine gf_RX11_54 S hK hP 0 xo_0 (v := .ref (g 9)) rfl (oc_180 34 (aq_10 shX11_emptyStops_24) uw_0_54) ?_
          refine gf_RX11_308 S hK hP 17 xo_17 (v := .ref (g 31)) rfl (oc_180 37 (aq_13 shX11_emptyStops_24) uw_1_52) ?_
          refine lv_iload_n hx hb (oc_29 40 (aq_16 shX11_emptyStops_24)) rfl (lvA1 hl) ?_
          refine vp_callSi (runS_r (As := [.ref (g 31), .int (nI i4)]) (rest := [.int x4_2]) S (q_l_at l D cI cB cZ (g 31) 8 (F4 31) (nI i4) (by (first | omega | (have zz0 := Hid.u hb_cn; omega)))) kS_RX11_192 hK hP [19] (one_is xo_19) ⟨Nat.le_of_ble_eq_true rfl, Nat.le_of_ble_eq_true rfl⟩ ⟨Nat.le_of_ble_eq_true rfl, Nat.le_of_ble_eq_true rfl⟩ rfl hl.1 rfl (Nat.le_of_ble_eq_true rfl) (oc_184 41 (aq_17 shX11_emptyStops_24) uw_0_192)) (fun r_6 h_7 => ?_)
          subst h_7
          refine lv_iadd hx hb (oc_96 44 (aq_20 shX11_emptyStops_24)) ?_
          refine lv_istore_n (lv' := [(2, .int (x4_2 + (atM (F4 31) 8 (nI i4)))), (4, .ref (ad 10 mr_4)), (3, .int (nI i4)), (0, .ref (g 0)), (1, .int v0)]) hx hb (oc_61 45 (aq_21 shX11_emptyStops_24)) rfl hl (ltb rfl) rfl (fun ls hl => ?_)
          refine lv_aload hx hb (oc_25 46 (aq_22 shX11_emptyStops_24) ub_4) (lvA1 hl) ?_
          refine lv_ifnull hx hb (oc_198 48 shX11_emptyStops_48 sgw_0_9) ?_
          refine lv_aload hx hb (oc_25 51 (aq_3 shX11_emptyStops_48) ub_4) (lvA1 hl) ?_
          refine lv_iload_n hx hb (oc_27 53 (aq_5 shX11_emptyStops_48)) rfl (lvA4 hl) ?_
          have kf_1 : mr_4 < cn 10 := by (first | omega | (have zz0 := Hid.u hb_cn; omega))
          refine pf_RX11_263 S hK hP hD hS _ (xf_0 kf_1) (v := .int v0) (Nat.le_of_ble_eq_true rfl) rfl rfl (oc_181 54 (aq_6 shX11_emptyStops_48) uw_1_7) (fun H locs hP hD hS => ?_)
          have hP : va_P D vwCl (wX cI (D.1 99) zz g ad cn In (va_up F4 105 (upd (F4 105) mr_4 v0))) H := va_P_eq (xs_105 (by (first | omega | (have zz0 := Hid.u hb_cn; omega)))) hP
          have hD : va_D A (wX cI (D.1 99) zz g ad cn In (va_up F4 105 (upd (F4 105) mr_4 v0))) := va_D_eq (xs_105 (by (first | omega | (have zz0 := Hid.u hb_cn; omega)))) hD
          refine lv_iinc (v := (nI (i4 + 1))) (lv' := [(3, .int (nI (i4 + 1))), (2, .int (x4_2 + (atM (F4 31) 8 (nI i4)))), (4, .ref (ad 10 mr_4)), (0, .ref (g 0)), (1, .int v0)]) hx hb (oc_132 57 (aq_9 shX11_emptyStops_48) ub_3 sgb_1) hl (k := 2) rfl (nI_1 _) (ltb rfl) rfl (fun ls hl => ?_)
          refine lv_goto (tgt := 4) hx hb (oc_167 60 (aq_12 shX11_emptyStops_48) sgw_255_200) rfl ?_
          exact ih4 (i4 + 1) (x4_2 + (atM (F4 31) 8 (nI i4))) (va_up F4 105 (upd (F4 105) mr_4 v0)) _ _ (by (first | omega | (have zz0 := Hid.u hb_cn; omega))) ⟨(by (first | omega | (have zz0 := Hid.u hb_cn; omega))), (Fr.mo (Fr.f 105 hfr4) (sbl rfl) (sbl rfl) (sbl rfl)), hI4⟩ hP hD hS ls (lv_sub hl [0, 1, 3, 4] rfl)
        ·
          refine lv_astoreN (lv' := [(4, .null), (3, .int (nI i4)), (2, .int x4_2), (0, .ref (g 0)), (1, .int v0)]) hx hb (oc_58 30 (aq_6 shX11_emptyStops_24) ub_4) hl (ltb rfl) rfl (fun ls hl => ?_)
          refine lv_iload_n hx hb (oc_28 32 (aq_8 shX11_emptyStops_24)) rfl (lvA2 hl) ?_
          refine lv_aload_n hx hb (oc_42 33 (aq_9 shX11_emptyStops_24)) rfl (lvA3 hl) ?_
          refine gf_RX11_54 S hK hP 0 xo_0 (v := .ref (g 9)) rfl (oc_180 34 (aq_10 shX11_emptyStops_24) uw_0_54) ?_
          refine gf_RX11_308 S hK hP 17 xo_17 (v := .ref (g 31)) rfl (oc_180 37 (aq_13 shX11_emptyStops_24) uw_1_52) ?_
          refine lv_iload_n hx hb (oc_29 40 (aq_16 shX11_emptyStops_24)) rfl (lvA1 hl) ?_
          refine vp_callSi (runS_r (As := [.ref (g 31), .int (nI i4)]) (rest := [.int x4_2]) S (q_l_at l D cI cB cZ (g 31) 8 (F4 31) (nI i4) (by (first | omega | (have zz0 := Hid.u hb_cn; omega)))) kS_RX11_192 hK hP [19] (one_is xo_19) ⟨Nat.le_of_ble_eq_true rfl, Nat.le_of_ble_eq_true rfl⟩ ⟨Nat.le_of_ble_eq_true rfl, Nat.le_of_ble_eq_true rfl⟩ rfl hl.1 rfl (Nat.le_of_ble_eq_true rfl) (oc_184 41 (aq_17 shX11_emptyStops_24) uw_0_192)) (fun r_8 h_9 => ?_)
          subst h_9
          refine lv_iadd hx hb (oc_96 44 (aq_20 shX11_emptyStops_24)) ?_
          refine lv_istore_n (lv' := [(2, .int (x4_2 + (atM (F4 31) 8 (nI i4)))), (4, .null), (3, .int (nI i4)), (0, .ref (g 0)), (1, .int v0)]) hx hb (oc_61 45 (aq_21 shX11_emptyStops_24)) rfl hl (ltb rfl) rfl (fun ls hl => ?_)
          refine lv_aloadN hx hb (oc_25 46 (aq_22 shX11_emptyStops_24) ub_4) (lvA1 hl) ?_
          refine lv_ifnullN (tgt := 57) hx hb (oc_198 48 shX11_emptyStops_48 sgw_0_9) rfl ?_
          refine lv_iinc (v := (nI (i4 + 1))) (lv' := [(3, .int (nI (i4 + 1))), (2, .int (x4_2 + (atM (F4 31) 8 (nI i4)))), (4, .null), (0, .ref (g 0)), (1, .int v0)]) hx hb (oc_132 57 (aq_9 shX11_emptyStops_48) ub_3 sgb_1) hl (k := 2) rfl (nI_1 _) (ltb rfl) rfl (fun ls hl => ?_)
          refine lv_goto (tgt := 4) hx hb (oc_167 60 (aq_12 shX11_emptyStops_48) sgw_255_200) rfl ?_
          exact ih4 (i4 + 1) (x4_2 + (atM (F4 31) 8 (nI i4))) F4 _ _ (by (first | omega | (have zz0 := Hid.u hb_cn; omega))) ⟨(by (first | omega | (have zz0 := Hid.u hb_cn; omega))), (Fr.mo hfr4 (sbl rfl) (sbl rfl) (sbl rfl)), hI4⟩ hP hD hS ls (lv_sub hl [0, 1, 3, 4] rfl)
  exact lp_4 _ 0 0 Fn _ _ (Nat.lt_succ_self _) ⟨(by (first | omega | (have zz0 := Hid.u hb_cn; omega))), (Fr.mo Fr.rf (sbl rfl) (sbl rfl) (sbl rfl)), hB⟩ hP hD hS ls (lv_sub hl [0, 1, 2, 3] rfl)
set_option maxRecDepth 100000 in
set_option maxHeartbeats 4000000 in
theorem q_Xnights (l : Launch) (D : va_G) (cI cB cZ : ClassId) (zz qq vv : Nat) (bt : Nat → Int32) (g : Nat → Nat) (ad : Nat → Nat → Nat) (cn : Nat → Nat) (In : Nat → Int32) (Fn : Nat → Nat → Int32) (v0 v1 v2 v3 : Int32) (sz : Nat) (hB : CBX cn) : Met l yX11_nights (CWS yX11_nights cX11_nights 8 (some .int)) (RM 7 0 0) (PBx [.ref (g 0), .int v0, .int v1, .int v2, .int v3] D cI cB cZ zz qq vv bt (wX cI (D.1 99) zz g ad cn In Fn) sz) (va_Qi (fun (r : Int32) (u : (Nat → Nat) × (Nat → Int32) × (Nat → Nat → Int32)) => (fun r c2 I2 F2 => Fr [4] [] [30, 31, 32, 33, 34, 35, 105] cn In Fn c2 I2 F2 ∧ CBX c2 ∧ (True)) r u.1 u.2.1 u.2.2) (fun (u : (Nat → Nat) × (Nat → Int32) × (Nat → Nat → Int32)) (t : State) => va_P D vwCl (wX cI (D.1 99) zz g ad u.1 u.2.1 u.2.2) t.heap ∧ va_D (va_A (wX cI (D.1 99) zz g ad cn In Fn) sz) (wX cI (D.1 99) zz g ad u.1 u.2.1 u.2.2)) (va_A (wX cI (D.1 99) zz g ad cn In Fn) sz)) 0 0 (va_A (wX cI (D.1 99) zz g ad cn In Fn) sz) := by
  refine en_x (fun A => (va_Qi (fun (r : Int32) (u : (Nat → Nat) × (Nat → Int32) × (Nat → Nat → Int32)) => (fun (r : Int32) (c2 : Nat → Nat) (I2 : Nat → Int32) (F2 : Nat → Nat → Int32) => Fr [4] [] [30, 31, 32, 33, 34, 35, 105] cn In Fn c2 I2 F2 ∧ CBX c2 ∧ (True)) r u.1 u.2.1 u.2.2) (fun (u : (Nat → Nat) × (Nat → Int32) × (Nat → Nat → Int32)) (t : State) => va_P D vwCl (wX cI (D.1 99) zz g ad u.1 u.2.1 u.2.2) t.heap ∧ va_D A (wX cI (D.1 99) zz g ad u.1 u.2.1 u.2.2)) A)) rfl rfl pn_RX11 (Nat.le_of_ble_eq_true rfl) (fun p e s m below meth c A hx hb hml hown S hr hlocks hnm hA hP hK hD hXS hS ls hl => ?_)
  have hl : lv_has ls 8 [(0, .ref (g 0)), (1, .int v0), (2, .int v1), (3, .int v2), (4, .int v3)] := hl
  have hb_cn : Hid (CBX cn) := hB
  replace hB : CBXh cn := hB
  refine lv_iload_n hx hb (oc_27 0 shX11_nights_0) rfl (lvA1 hl) ?_
  refine vp_callSi (runS_r (As := [.int v0]) (rest := []) S (q_l_isDay l D cI cB cZ v0) kS_RX11_99 hK hP [] rfl ⟨Nat.le_of_ble_eq_true rfl, Nat.le_of_ble_eq_true rfl⟩ ⟨Nat.le_of_ble_eq_true rfl, Nat.le_of_ble_eq_true rfl⟩ rfl hl.1 rfl (Nat.le_of_ble_eq_true rfl) (oc_184 1 (aq_1 shX11_nights_0) uw_0_99)) (fun r_1 h_2 => ?_)
  rcases h_2 with ⟨rfl, h_2⟩ | ⟨rfl, h_2⟩
  ·
    have h_2 : 0 ≤ v0.toInt ∧ v0.toInt ≤ 399 := h_2
    refine lv_if_eq (tgt := 49) hx hb (oc_153 4 (aq_4 shX11_nights_0) sgw_0_45) rfl (fun h => absurd h cq_eq_1_0) (fun _ => ?_)
    refine lv_iload_n hx hb (oc_28 7 (aq_7 shX11_nights_0)) rfl (lvA2 hl) ?_
    refine lv_iconst (v := 1) hx hb (oc_4 8 (aq_8 shX11_nights_0)) kic_1 ?_
    refine lv_bipush (v := 7) hx hb (oc_16 9 (aq_9 shX11_nights_0) sgb_7) kbc_7 ?_
    refine vp_callSi (runS_r (As := [.int v1, .int 1, .int 7]) (rest := []) S (q_l_within l D cI cB cZ v1 1 7) kS_RX11_80 hK hP [] rfl ⟨Nat.le_of_ble_eq_true rfl, Nat.le_of_ble_eq_true rfl⟩ ⟨Nat.le_of_ble_eq_true rfl, Nat.le_of_ble_eq_true rfl⟩ rfl hl.1 rfl (Nat.le_of_ble_eq_true rfl) (oc_184 11 (aq_11 shX11_nights_0) uw_0_80)) (fun r_3 h_4 => ?_)
    rcases h_4 with ⟨rfl, h_4⟩ | ⟨rfl, h_4⟩
    ·
      have h_4 : 1 ≤ v1.toInt ∧ v1.toInt ≤ 7 := h_4
      refine lv_if_eq (tgt := 49) hx hb (oc_153 14 (aq_14 shX11_nights_0) sgw_0_35) rfl (fun h => absurd h cq_eq_1_0) (fun _ => ?_)
      obtain ⟨d0, hd0, rfl⟩ := nI_of (x := v0) (fun q => by have := Int32.lt_iff_toInt_lt.mp q; have e : (0 : Int32).toInt = 0 := rfl; (first | omega | (have zz0 := Hid.u hb_cn; omega)))
      have td0 : (nI d0).toInt = (d0 : Int) := nI_toInt hd0
      have zd0 : (nI d0).toInt.toNat = d0 := by (first | omega | (have zz0 := Hid.u hb_cn; omega))
      obtain ⟨n0, hn0, rfl⟩ := nI_of (x := v1) (fun q => by have := Int32.lt_iff_toInt_lt.mp q; have e : (0 : Int32).toInt = 0 := rfl; (first | omega | (have zz0 := Hid.u hb_cn; omega)))
      have tn0 : (nI n0).toInt = (n0 : Int) := nI_toInt hn0
      have zn0 : (nI n0).toInt.toNat = n0 := by (first | omega | (have zz0 := Hid.u hb_cn; omega))
      refine lv_iload_n hx hb (oc_27 17 (aq_17 shX11_nights_0)) rfl (lvA1 hl) ?_
      refine lv_iload_n hx hb (oc_28 18 (aq_18 shX11_nights_0)) rfl (lvA2 hl) ?_
      refine lv_iadd hx hb (oc_96 19 (aq_19 shX11_nights_0)) ?_
      refine lv_topi (fun y_5 ey_5 => ?_)
      obtain rfl : y_5 = (nI (d0 + n0)) := ey_5.trans (nI_add d0 n0)
      refine lv_iconst (v := 1) hx hb (oc_4 20 (aq_20 shX11_nights_0)) kic_1 ?_
      refine lv_isub hx hb (oc_100 21 (aq_21 shX11_nights_0)) ?_
      refine lv_topi (fun y_6 ey_6 => ?_)
      obtain rfl : y_6 = (nI (d0 + n0 - 1)) := ey_6.trans (nI_sub (b := 1) (by (first | omega | (have zz0 := Hid.u hb_cn; omega))))
      refine vp_callSi (runS_r (As := [.int (nI (d0 + n0 - 1))]) (rest := []) S (q_l_isDay l D cI cB cZ (nI (d0 + n0 - 1))) kS_RX11_99 hK hP [] rfl ⟨Nat.le_of_ble_eq_true rfl, Nat.le_of_ble_eq_true rfl⟩ ⟨Nat.le_of_ble_eq_true rfl, Nat.le_of_ble_eq_true rfl⟩ rfl hl.1 rfl (Nat.le_of_ble_eq_true rfl) (oc_184 22 (aq_22 shX11_nights_0) uw_0_99)) (fun r_7 h_8 => ?_)
      have : (nI (d0 + n0 - 1)).toInt = (((d0 + n0 - 1) : Nat) : Int) := nI_toInt (by (first | omega | (have zz0 := Hid.u hb_cn; omega)))
      rcases h_8 with ⟨rfl, h_8⟩ | ⟨rfl, h_8⟩
      ·
        have h_8 : 0 ≤ (nI (d0 + n0 - 1)).toInt ∧ (nI (d0 + n0 - 1)).toInt ≤ 399 := h_8
        refine lv_if_eq (tgt := 49) hx hb (oc_153 25 shX11_nights_25 sgw_0_24) rfl (fun h => absurd h cq_eq_1_0) (fun _ => ?_)
        refine lv_iload_n hx hb (oc_29 28 (aq_3 shX11_nights_25)) rfl (lvA3 hl) ?_
        refine lv_iconst (v := 1) hx hb (oc_4 29 (aq_4 shX11_nights_25)) kic_1 ?_
        refine lv_sipush (v := 400) hx hb (oc_17 30 (aq_5 shX11_nights_25) sgw_1_144) (by decide) ?_
        refine vp_callSi (runS_r (As := [.int v2, .int 1, .int 400]) (rest := []) S (q_l_within l D cI cB cZ v2 1 400) kS_RX11_80 hK hP [] rfl ⟨Nat.le_of_ble_eq_true rfl, Nat.le_of_ble_eq_true rfl⟩ ⟨Nat.le_of_ble_eq_true rfl, Nat.le_of_ble_eq_true rfl⟩ rfl hl.1 rfl (Nat.le_of_ble_eq_true rfl) (oc_184 33 (aq_8 shX11_nights_25) uw_0_80)) (fun r_9 h_10 => ?_)
        rcases h_10 with ⟨rfl, h_10⟩ | ⟨rfl, h_10⟩
        ·
          have h_10 : 1 ≤ v2.toInt ∧ v2.toInt ≤ 400 := h_10
          refine lv_if_eq (tgt := 49) hx hb (oc_153 36 (aq_11 shX11_nights_25) sgw_0_13) rfl (fun h => absurd h cq_eq_1_0) (fun _ => ?_)
          refine lv_iload hx hb (oc_21 39 (aq_14 shX11_nights_25) ub_4) (lvA4 hl) ?_
          refine lv_iconst (v := 0) hx hb (oc_3 41 (aq_16 shX11_nights_25)) kic_0 ?_
          refine lv_iconst (v := 2) hx hb (oc_5 42 (aq_17 shX11_nights_25)) kic_2 ?_
          refine vp_callSi (runS_r (As := [.int v3, .int 0, .int 2]) (rest := []) S (q_l_within l D cI cB cZ v3 0 2) kS_RX11_80 hK hP [] rfl ⟨Nat.le_of_ble_eq_true rfl, Nat.le_of_ble_eq_true rfl⟩ ⟨Nat.le_of_ble_eq_true rfl, Nat.le_of_ble_eq_true rfl⟩ rfl hl.1 rfl (Nat.le_of_ble_eq_true rfl) (oc_184 43 (aq_18 shX11_nights_25) uw_0_80)) (fun r_11 h_12 => ?_)
          rcases h_12 with ⟨rfl, h_12⟩ | ⟨rfl, h_12⟩
          ·
            have h_12 : 0 ≤ v3.toInt ∧ v3.toInt ≤ 2 := h_12
            refine lv_if_ne (tgt := 51) hx hb (oc_154 46 (aq_21 shX11_nights_25) sgw_0_5) rfl (fun _ => ?_) (fun h => absurd h cq_eq_1_0)
            refine lv_aload_n hx hb (oc_42 51 (aq_2 shX11_nights_49)) rfl (lvA0 hl) ?_
            refine lv_iload_n hx hb (oc_27 52 (aq_3 shX11_nights_49)) rfl (lvA1 hl) ?_
            have hFc := free_all hD hS hA
            refine va_calli (runV_xa (As := [.int (nI d0)]) (rest := []) S (q_XstartTrial l D cI cB cZ zz qq vv bt g ad cn In Fn (nI d0) s.heap.size hB) kV_RX11_276 hK hXS hS hFc hP hD 0 xo_0 rfl rfl ⟨Nat.le_of_ble_eq_true rfl, Nat.le_of_ble_eq_true rfl⟩ ⟨Nat.le_of_ble_eq_true rfl, Nat.le_of_ble_eq_true rfl⟩ rfl hl.1 rfl (Nat.le_of_ble_eq_true rfl) (oc_182 53 (aq_4 shX11_nights_49) uw_1_20)) hS (fun q _ h => hFc q h) hFc (fun r_13 u t H1 locs ht hvm wh_14 hB1 hz1 hk1 hS => ?_)
            obtain ⟨cn14, In14, Fn14⟩ := u
            obtain ⟨hP1, hD1⟩ := hB1
            rw [ht] at hP1
            have hP : va_P D vwCl (wX cI (D.1 99) zz g ad cn14 In14 Fn14) H1 := hP1
            have hD : va_D A (wX cI (D.1 99) zz g ad cn14 In14 Fn14) := hD1.weaken (fun _ _ _ h => hFc _ h)
            generalize H1 = H at hP hS ⊢
            have vh_14 : (fun r c2 I2 F2 => Fr [] [] [105] cn In Fn c2 I2 F2 ∧ CBX c2 ∧ (True)) r_13 cn14 In14 Fn14 := wh_14
            obtain ⟨hfc14, hIn14, h_14⟩ := vh_14
            obtain rfl : cn = cn14 := (funext (fun k => hfc14.1 k List.not_mem_nil)).symm
            obtain rfl : In = In14 := (funext (fun k => hfc14.2.1 k List.not_mem_nil)).symm
            have hf14 : Fr [4] [] [30, 31, 32, 33, 34, 35, 105] cn In Fn cn In Fn14 := Fr.mo (Fr.tr (Fr.rf (cn := cn) (In := In) (Fn := Fn)) hfc14) (sbl rfl) (sbl rfl) (sbl rfl)
            replace hIn14 : CBXh cn := hIn14
            refine lv_if_ne (tgt := 62) hx hb (oc_154 56 (aq_7 shX11_nights_49) sgw_0_6) rfl (fun c_15 => ?_) (fun c_15 => ?_)
            ·
              have tc_15 : (r_13.toInt : Int) ≠ 0 := fun q => c_15 (Int32.toInt_inj.mp q)
              refine lv_iconst (v := 0) hx hb (oc_3 62 (aq_13 shX11_nights_49)) kic_0 ?_
              refine lv_istore (lv' := [(5, .int 0), (0, .ref (g 0)), (1, .int (nI d0)), (2, .int (nI n0)), (3, .int v2), (4, .int v3)]) hx hb (oc_54 63 (aq_14 shX11_nights_49) ub_5) hl (ltb rfl) rfl (fun ls hl => ?_)
              refine lv_iload_n hx hb (oc_27 65 (aq_16 shX11_nights_49)) rfl (lvA2 hl) ?_
              refine lv_istore (lv' := [(6, .int (nI d0)), (5, .int 0), (0, .ref (g 0)), (1, .int (nI d0)), (2, .int (nI n0)), (3, .int v2), (4, .int v3)]) hx hb (oc_54 66 (aq_17 shX11_nights_49) ub_6) hl (ltb rfl) rfl (fun ls hl => ?_)
              have lp_68 : ∀ (n : Nat) (i68 : Nat) (x68_5 : Int32) (c68 : Nat → Nat) (F68 : Nat → Nat → Int32) (H : Heap) (locs : List Loc) , d0 + n0 - i68 < n → (i68 ≤ d0 + n0 ∧ Fr [4] [] [30, 31, 32, 33, 34, 35, 105] cn In Fn c68 In F68 ∧ CBX c68) → va_P D vwCl (wX cI (D.1 99) zz g ad c68 In F68) H → va_D A (wX cI (D.1 99) zz g ad c68 In F68) → va_S A s.heap H locs → ∀ ls : Array Slot, lv_has ls 8 [(6, .int (nI i68)), (5, .int x68_5), (0, .ref (g 0)), (1, .int (nI d0)), (2, .int (nI n0)), (3, .int v2), (4, .int v3)] → W p l e (RM 7 0 0) s m ([.ref (g 0), .int (nI d0), .int (nI n0), .int v2, .int v3]).toArray below meth c H locs 0 0 (MQ below (va_Qi (fun (r : Int32) (u : (Nat → Nat) × (Nat → Int32) × (Nat → Nat → Int32)) => (fun r c2 I2 F2 => Fr [4] [] [30, 31, 32, 33, 34, 35, 105] cn In Fn c2 I2 F2 ∧ CBX c2 ∧ (True)) r u.1 u.2.1 u.2.2) (fun (u : (Nat → Nat) × (Nat → Int32) × (Nat → Nat → Int32)) (t : State) => va_P D vwCl (wX cI (D.1 99) zz g ad u.1 u.2.1 u.2.2) t.heap ∧ va_D A (wX cI (D.1 99) zz g ad u.1 u.2.1 u.2.2)) A) ([.ref (g 0), .int (nI d0), .int (nI n0), .int v2, .int v3]).toArray s 0 0 A) (F0 m 68 ls []) := by
                intro n68
                induction n68 with
                | zero => intros; (first | omega | (have zz0 := Hid.u hb_cn; omega))
                | succ n68 ih68 =>
                  intro i68 x68_5 c68 F68 H locs hmu68 hinv68 hP hD hS ls hl
                  obtain ⟨hr68, hfr68, hI68⟩ := hinv68
                  have ti68 : (nI i68).toInt = (i68 : Int) := nI_toInt (by (first | omega | (have zz0 := Hid.u hb_cn; omega)))
                  have hb_c68 : Hid (CBX c68) := hI68
                  replace hI68 : CBXh c68 := hI68
                  have : c68 6 = cn 6 := hfr68.1 6 (nml rfl)
                  have : c68 31 = cn 31 := hfr68.1 31 (nml rfl)
                  have : c68 32 = cn 32 := hfr68.1 32 (nml rfl)
                  have hq_c68 := Hid.i (frq_4_0_1_2_3_5_10_11_12_13_14_15_20_21_22_23_24_25 hfr68)
                  refine lv_iload hx hb (oc_21 68 (aq_19 shX11_nights_49) ub_6) (lvA0 hl) ?_
                  refine lv_iload_n hx hb (oc_27 70 (aq_21 shX11_nights_49)) rfl (lvA3 hl) ?_
                  refine lv_iload_n hx hb (oc_28 71 (aq_22 shX11_nights_49)) rfl (lvA4 hl) ?_
                  refine lv_iadd hx hb (oc_96 72 (aq_23 shX11_nights_49)) ?_
                  refine lv_topi (fun y_16 ey_16 => ?_)
                  obtain rfl : y_16 = (nI (d0 + n0)) := ey_16.trans (nI_add d0 n0)
                  have : (nI (d0 + n0)).toInt = (((d0 + n0) : Nat) : Int) := nI_toInt (by (first | omega | (have zz0 := Hid.u hb_c68; have zz1 := Hid.u hb_cn; have zz2 := Hid.u hq_c68; omega)))
                  refine lv_icmp_ge (tgt := 143) hx hb (oc_162 73 shX11_nights_73 sgw_0_70) rfl (fun c_17 => ?_) (fun c_17 => ?_)
                  ·
                    have tc_17 : ((nI (d0 + n0)).toInt : Int) ≤ (nI i68).toInt := Int32.le_iff_toInt_le.mp c_17
                    refine lv_iload hx hb (oc_21 143 (aq_21 shX11_nights_122) ub_5) (lvA1 hl) ?_
                    exact W.iret (v := x68_5) hx hb hr (fun t ht hW => ⟨⟨x68_5, (c68, In, F68), rfl, ⟨(Fr.mo hfr68 (sbl rfl) (sbl rfl) (sbl rfl)), hI68, trivial⟩, by rw [ht]; exact hP, hD⟩, hS.F ht⟩) hS.2.2 (oc_172 145 (aq_23 shX11_nights_122))
                  ·
                    have tc_17 : ((nI i68).toInt : Int) < (nI (d0 + n0)).toInt := Int32.lt_iff_toInt_lt.mp (Int32.not_le.mp c_17)
                    refine lv_aload_n hx hb (oc_42 76 (aq_3 shX11_nights_73)) rfl (lvA2 hl) ?_
                    refine lv_iload hx hb (oc_21 77 (aq_4 shX11_nights_73) ub_6) (lvA0 hl) ?_
                    refine lv_iload_n hx hb (oc_29 79 (aq_6 shX11_nights_73)) rfl (lvA5 hl) ?_
                    refine lv_bipush (v := 8) hx hb (oc_16 80 (aq_7 shX11_nights_73) sgb_8) kbc_8 ?_
                    have hFc := free_all hD hS hA
                    refine va_calli (runV_xa (As := [.int (nI i68), .int v2, .int 8]) (rest := []) S (q_XgatherStops l D cI cB cZ zz qq vv bt g ad c68 In F68 (nI i68) v2 8 H.size hI68 (by decide)) kV_RX11_279 hK hXS hS hFc hP hD 0 xo_0 rfl rfl ⟨Nat.le_of_ble_eq_true rfl, Nat.le_of_ble_eq_true rfl⟩ ⟨Nat.le_of_ble_eq_true rfl, Nat.le_of_ble_eq_true rfl⟩ rfl hl.1 rfl (Nat.le_of_ble_eq_true rfl) (oc_182 82 (aq_9 shX11_nights_73) uw_1_23)) hS (fun q _ h => hFc q h) hFc (fun r_18 u t H1 locs ht hvm wh_19 hB1 hz1 hk1 hS => ?_)
                    obtain ⟨cn19, In19, Fn19⟩ := u
                    obtain ⟨hP1, hD1⟩ := hB1
                    rw [ht] at hP1
                    have hP : va_P D vwCl (wX cI (D.1 99) zz g ad cn19 In19 Fn19) H1 := hP1
                    have hD : va_D A (wX cI (D.1 99) zz g ad cn19 In19 Fn19) := hD1.weaken (fun _ _ _ h => hFc _ h)
                    generalize H1 = H at hP hS ⊢
                    have vh_19 : (fun r c2 I2 F2 => Fr [4] [] [30, 31, 32, 33, 34, 35] c68 In F68 c2 I2 F2 ∧ CBX c2 ∧ (True)) r_18 cn19 In19 Fn19 := wh_19
                    obtain ⟨hfc19, hIn19, h_19⟩ := vh_19
                    obtain rfl : In = In19 := (funext (fun k => hfc19.2.1 k List.not_mem_nil)).symm
                    have hf19 : Fr [4] [] [30, 31, 32, 33, 34, 35, 105] cn In Fn cn19 In Fn19 := Fr.mo (Fr.tr hfr68 hfc19) (sbl rfl) (sbl rfl) (sbl rfl)
                    have hb_cn19 : Hid (CBX cn19) := hIn19
                    replace hIn19 : CBXh cn19 := hIn19
                    have : cn19 6 = (c68 6) := hfc19.1 6 (nml rfl)
                    have : cn19 31 = (c68 31) := hfc19.1 31 (nml rfl)
                    have : cn19 32 = (c68 32) := hfc19.1 32 (nml rfl)
                    have hq_cn19 : Hid (cn19 0 = (c68 0) ∧ cn19 1 = (c68 1) ∧ cn19 2 = (c68 2) ∧ cn19 3 = (c68 3) ∧ cn19 5 = (c68 5) ∧ cn19 10 = (c68 10) ∧ cn19 11 = (c68 11) ∧ cn19 12 = (c68 12) ∧ cn19 13 = (c68 13) ∧ cn19 14 = (c68 14) ∧ cn19 15 = (c68 15) ∧ cn19 20 = (c68 20) ∧ cn19 21 = (c68 21) ∧ cn19 22 = (c68 22) ∧ cn19 23 = (c68 23) ∧ cn19 24 = (c68 24) ∧ cn19 25 = (c68 25)) := Hid.i (p := cn19 0 = (c68 0) ∧ cn19 1 = (c68 1) ∧ cn19 2 = (c68 2) ∧ cn19 3 = (c68 3) ∧ cn19 5 = (c68 5) ∧ cn19 10 = (c68 10) ∧ cn19 11 = (c68 11) ∧ cn19 12 = (c68 12) ∧ cn19 13 = (c68 13) ∧ cn19 14 = (c68 14) ∧ cn19 15 = (c68 15) ∧ cn19 20 = (c68 20) ∧ cn19 21 = (c68 21) ∧ cn19 22 = (c68 22) ∧ cn19 23 = (c68 23) ∧ cn19 24 = (c68 24) ∧ cn19 25 = (c68 25)) ⟨hfc19.1 0 (nml rfl), hfc19.1 1 (nml rfl), hfc19.1 2 (nml rfl), hfc19.1 3 (nml rfl), hfc19.1 5 (nml rfl), hfc19.1 10 (nml rfl), hfc19.1 11 (nml rfl), hfc19.1 12 (nml rfl), hfc19.1 13 (nml rfl), hfc19.1 14 (nml rfl), hfc19.1 15 (nml rfl), hfc19.1 20 (nml rfl), hfc19.1 21 (nml rfl), hfc19.1 22 (nml rfl), hfc19.1 23 (nml rfl), hfc19.1 24 (nml rfl), hfc19.1 25 (nml rfl)⟩
                    refine lv_if_ne (tgt := 91) hx hb (oc_154 85 (aq_12 shX11_nights_73) sgw_0_6) rfl (fun c_20 => ?_) (fun c_20 => ?_)
                    ·
                      have tc_20 : (r_18.toInt : Int) ≠ 0 := fun q => c_20 (Int32.toInt_inj.mp q)
                      refine lv_aload_n hx hb (oc_42 91 (aq_18 shX11_nights_73)) rfl (lvA2 hl) ?_
                      refine lv_iload hx hb (oc_21 92 (aq_19 shX11_nights_73) ub_6) (lvA0 hl) ?_
                      have hFc := free_all hD hS hA
                      refine va_calli (runV_xa (As := [.int (nI i68)]) (rest := []) S (q_XemptyStops l D cI cB cZ zz qq vv bt g ad cn19 In Fn19 (nI i68) H.size hIn19) kV_RX11_303 hK hXS hS hFc hP hD 0 xo_0 rfl rfl ⟨Nat.le_of_ble_eq_true rfl, Nat.le_of_ble_eq_true rfl⟩ ⟨Nat.le_of_ble_eq_true rfl, Nat.le_of_ble_eq_true rfl⟩ rfl hl.1 rfl (Nat.le_of_ble_eq_true rfl) (oc_182 94 (aq_21 shX11_nights_73) uw_1_47)) hS (fun q _ h => hFc q h) hFc (fun r_21 u t H1 locs ht hvm wh_22 hB1 hz1 hk1 hS => ?_)
                      obtain ⟨cn22, In22, Fn22⟩ := u
                      obtain ⟨hP1, hD1⟩ := hB1
                      rw [ht] at hP1
                      have hP : va_P D vwCl (wX cI (D.1 99) zz g ad cn22 In22 Fn22) H1 := hP1
                      have hD : va_D A (wX cI (D.1 99) zz g ad cn22 In22 Fn22) := hD1.weaken (fun _ _ _ h => hFc _ h)
                      generalize H1 = H at hP hS ⊢
                      have vh_22 : (fun r c2 I2 F2 => Fr [] [] [105] cn19 In Fn19 c2 I2 F2 ∧ CBX c2 ∧ (True)) r_21 cn22 In22 Fn22 := wh_22
                      obtain ⟨hfc22, hIn22, h_22⟩ := vh_22
                      obtain rfl : cn19 = cn22 := (funext (fun k => hfc22.1 k List.not_mem_nil)).symm
                      obtain rfl : In = In22 := (funext (fun k => hfc22.2.1 k List.not_mem_nil)).symm
                      have hf22 : Fr [4] [] [30, 31, 32, 33, 34, 35, 105] cn In Fn cn19 In Fn22 := Fr.mo (Fr.tr hf19 hfc22) (sbl rfl) (sbl rfl) (sbl rfl)
                      replace hIn22 : CBXh cn19 := hIn22
                      refine lv_istore (lv' := [(7, .int r_21), (6, .int (nI i68)), (5, .int x68_5), (0, .ref (g 0)), (1, .int (nI d0)), (2, .int (nI n0)), (3, .int v2), (4, .int v3)]) hx hb (oc_54 97 shX11_nights_97 ub_7) hl (ltb rfl) rfl (fun ls hl => ?_)
                      refine lv_iload hx hb (oc_21 99 (aq_2 shX11_nights_97) ub_5) (lvA2 hl) ?_
                      refine lv_iload hx hb (oc_21 101 (aq_4 shX11_nights_97) ub_4) (lvA7 hl) ?_
                      refine lv_if_ne (tgt := 116) hx hb (oc_154 103 (aq_6 shX11_nights_97) sgw_0_13) rfl (fun c_23 => ?_) (fun c_23 => ?_)
                      ·
                        have tc_23 : (v3.toInt : Int) ≠ 0 := fun q => c_23 (Int32.toInt_inj.mp q)
                        refine lv_iload hx hb (oc_21 116 (aq_19 shX11_nights_97) ub_4) (lvA7 hl) ?_
                        refine lv_iconst (v := 1) hx hb (oc_4 118 (aq_21 shX11_nights_97)) kic_1 ?_
                        refine lv_icmp_ne (tgt := 127) hx hb (oc_160 119 (aq_22 shX11_nights_97) sgw_0_8) rfl (fun c_24 => ?_) (fun c_24 => ?_)
                        ·
                          have tc_24 : (v3.toInt : Int) ≠ 1 := fun q => c_24 (Int32.toInt_inj.mp q)
                          refine lv_aload_n hx hb (oc_42 127 (aq_5 shX11_nights_122)) rfl (lvA3 hl) ?_
                          refine gf_RX11_54 S hK hP 0 xo_0 (v := .ref (g 9)) rfl (oc_180 128 (aq_6 shX11_nights_122) uw_0_54) ?_
                          refine gf_RX11_267 S hK hP 17 xo_17 (v := .int (nI (cn19 4))) rfl (oc_180 131 (aq_9 shX11_nights_122) uw_1_11) ?_
                          refine lv_iadd hx hb (oc_96 134 (aq_12 shX11_nights_122)) ?_
                          refine lv_istore (lv' := [(5, .int (x68_5 + (nI (cn19 4)))), (7, .int r_21), (6, .int (nI i68)), (0, .ref (g 0)), (1, .int (nI d0)), (2, .int (nI n0)), (3, .int v2), (4, .int v3)]) hx hb (oc_54 135 (aq_13 shX11_nights_122) ub_5) hl (ltb rfl) rfl (fun ls hl => ?_)
                          refine lv_iinc (v := (nI (i68 + 1))) (lv' := [(6, .int (nI (i68 + 1))), (5, .int (x68_5 + (nI (cn19 4)))), (7, .int r_21), (0, .ref (g 0)), (1, .int (nI d0)), (2, .int (nI n0)), (3, .int v2), (4, .int v3)]) hx hb (oc_132 137 (aq_15 shX11_nights_122) ub_6 sgb_1) hl (k := 2) rfl (nI_1 _) (ltb rfl) rfl (fun ls hl => ?_)
                          refine lv_goto (tgt := 68) hx hb (oc_167 140 (aq_18 shX11_nights_122) sgw_255_184) rfl ?_
                          exact ih68 (i68 + 1) (x68_5 + (nI (cn19 4))) cn19 Fn22 _ _ (by (first | omega | (have zz0 := Hid.u hb_c68; have zz1 := Hid.u hb_cn; have zz2 := Hid.u hb_cn19; have zz3 := Hid.u hq_c68; have zz4 := Hid.u hq_cn19; omega))) ⟨(by (first | omega | (have zz0 := Hid.u hb_c68; have zz1 := Hid.u hb_cn; have zz2 := Hid.u hb_cn19; have zz3 := Hid.u hq_c68; have zz4 := Hid.u hq_cn19; omega))), (Fr.mo hf22 (sbl rfl) (sbl rfl) (sbl rfl)), hIn22⟩ hP hD hS ls (lv_sub hl [0, 1, 3, 4, 5, 6, 7] rfl)
                        ·
                          have tc_24 : (v3.toInt : Int) = 1 := congrArg Int32.toInt c_24
                          refine lv_iload hx hb (oc_21 122 shX11_nights_122 ub_7) (lvA0 hl) ?_
                          refine lv_goto (tgt := 134) hx hb (oc_167 124 (aq_2 shX11_nights_122) sgw_0_10) rfl ?_
                          refine lv_iadd hx hb (oc_96 134 (aq_12 shX11_nights_122)) ?_
                          refine lv_istore (lv' := [(5, .int (x68_5 + r_21)), (7, .int r_21), (6, .int (nI i68)), (0, .ref (g 0)), (1, .int (nI d0)), (2, .int (nI n0)), (3, .int v2), (4, .int v3)]) hx hb (oc_54 135 (aq_13 shX11_nights_122) ub_5) hl (ltb rfl) rfl (fun ls hl => ?_)
                          refine lv_iinc (v := (nI (i68 + 1))) (lv' := [(6, .int (nI (i68 + 1))), (5, .int (x68_5 + r_21)), (7, .int r_21), (0, .ref (g 0)), (1, .int (nI d0)), (2, .int (nI n0)), (3, .int v2), (4, .int v3)]) hx hb (oc_132 137 (aq_15 shX11_nights_122) ub_6 sgb_1) hl (k := 2) rfl (nI_1 _) (ltb rfl) rfl (fun ls hl => ?_)
                          refine lv_goto (tgt := 68) hx hb (oc_167 140 (aq_18 shX11_nights_122) sgw_255_184) rfl ?_
                          exact ih68 (i68 + 1) (x68_5 + r_21) cn19 Fn22 _ _ (by (first | omega | (have zz0 := Hid.u hb_c68; have zz1 := Hid.u hb_cn; have zz2 := Hid.u hb_cn19; have zz3 := Hid.u hq_c68; have zz4 := Hid.u hq_cn19; omega))) ⟨(by (first | omega | (have zz0 := Hid.u hb_c68; have zz1 := Hid.u hb_cn; have zz2 := Hid.u hb_cn19; have zz3 := Hid.u hq_c68; have zz4 := Hid.u hq_cn19; omega))), (Fr.mo hf22 (sbl rfl) (sbl rfl) (sbl rfl)), hIn22⟩ hP hD hS ls (lv_sub hl [0, 1, 3, 4, 5, 6, 7] rfl)
                      ·
                        have tc_23 : (v3.toInt : Int) = 0 := congrArg Int32.toInt c_23
                        refine lv_aload_n hx hb (oc_42 106 (aq_9 shX11_nights_97)) rfl (lvA3 hl) ?_
                        refine gf_RX11_54 S hK hP 0 xo_0 (v := .ref (g 9)) rfl (oc_180 107 (aq_10 shX11_nights_97) uw_0_54) ?_
                        refine vp_callSi (runV_rxa (As := []) (rest := [.int x68_5]) S (q_XwholeLength l D cI cB cZ zz qq vv bt g ad cn19 In Fn22  hIn22) kV_RX11_282 hK hXS hS hP 17 xo_17 rfl rfl ⟨Nat.le_of_ble_eq_true rfl, Nat.le_of_ble_eq_true rfl⟩ ⟨Nat.le_of_ble_eq_true rfl, Nat.le_of_ble_eq_true rfl⟩ rfl hl.1 rfl (Nat.le_of_ble_eq_true rfl) (oc_182 110 (aq_13 shX11_nights_97) uw_1_26)) (fun r_25 h_26 => ?_)
                        refine lv_goto (tgt := 134) hx hb (oc_167 113 (aq_16 shX11_nights_97) sgw_0_21) rfl ?_
                        refine lv_iadd hx hb (oc_96 134 (aq_12 shX11_nights_122)) ?_
                        refine lv_istore (lv' := [(5, .int (x68_5 + r_25)), (7, .int r_21), (6, .int (nI i68)), (0, .ref (g 0)), (1, .int (nI d0)), (2, .int (nI n0)), (3, .int v2), (4, .int v3)]) hx hb (oc_54 135 (aq_13 shX11_nights_122) ub_5) hl (ltb rfl) rfl (fun ls hl => ?_)
                        refine lv_iinc (v := (nI (i68 + 1))) (lv' := [(6, .int (nI (i68 + 1))), (5, .int (x68_5 + r_25)), (7, .int r_21), (0, .ref (g 0)), (1, .int (nI d0)), (2, .int (nI n0)), (3, .int v2), (4, .int v3)]) hx hb (oc_132 137 (aq_15 shX11_nights_122) ub_6 sgb_1) hl (k := 2) rfl (nI_1 _) (ltb rfl) rfl (fun ls hl => ?_)
                        refine lv_goto (tgt := 68) hx hb (oc_167 140 (aq_18 shX11_nights_122) sgw_255_184) rfl ?_
                        exact ih68 (i68 + 1) (x68_5 + r_25) cn19 Fn22 _ _ (by (first | omega | (have zz0 := Hid.u hb_c68; have zz1 := Hid.u hb_cn; have zz2 := Hid.u hb_cn19; have zz3 := Hid.u hq_c68; have zz4 := Hid.u hq_cn19; omega))) ⟨(by (first | omega | (have zz0 := Hid.u hb_c68; have zz1 := Hid.u hb_cn; have zz2 := Hid.u hb_cn19; have zz3 := Hid.u hq_c68; have zz4 := Hid.u hq_cn19; omega))), (Fr.mo hf22 (sbl rfl) (sbl rfl) (sbl rfl)), hIn22⟩ hP hD hS ls (lv_sub hl [0, 1, 3, 4, 5, 6, 7] rfl)
                    ·
                      have tc_20 : (r_18.toInt : Int) = 0 := congrArg Int32.toInt c_20
                      refine lv_bipush (v := (-2)) hx hb (oc_16 88 (aq_15 shX11_nights_73) sgb_254) kbc_m2 ?_
                      exact W.iret (v := (-2)) hx hb hr (fun t ht hW => ⟨⟨(-2), (cn19, In, Fn19), rfl, ⟨(Fr.mo hf19 (sbl rfl) (sbl rfl) (sbl rfl)), hIn19, trivial⟩, by rw [ht]; exact hP, hD⟩, hS.F ht⟩) hS.2.2 (oc_172 90 (aq_17 shX11_nights_73))
              exact lp_68 _ d0 0 cn Fn14 _ _ (Nat.lt_succ_self _) ⟨(by (first | omega | (have zz0 := Hid.u hb_cn; omega))), (Fr.mo hf14 (sbl rfl) (sbl rfl) (sbl rfl)), hIn14⟩ hP hD hS ls (lv_sub hl [0, 1, 2, 3, 4, 5, 6] rfl)
            ·
              have tc_15 : (r_13.toInt : Int) = 0 := congrArg Int32.toInt c_15
              refine lv_bipush (v := (-2)) hx hb (oc_16 59 (aq_10 shX11_nights_49) sgb_254) kbc_m2 ?_
              exact W.iret (v := (-2)) hx hb hr (fun t ht hW => ⟨⟨(-2), (cn, In, Fn14), rfl, ⟨(Fr.mo hf14 (sbl rfl) (sbl rfl) (sbl rfl)), hIn14, trivial⟩, by rw [ht]; exact hP, hD⟩, hS.F ht⟩) hS.2.2 (oc_172 61 (aq_12 shX11_nights_49))
          ·
            have h_12 : ¬ (0 ≤ v3.toInt ∧ v3.toInt ≤ 2) := h_12
            refine lv_if_ne (tgt := 51) hx hb (oc_154 46 (aq_21 shX11_nights_25) sgw_0_5) rfl (fun h => absurd h cq_eq_0_0) (fun _ => ?_)
            refine lv_iconst (v := (-1)) hx hb dX11_nights_49 kic_m1 ?_
            exact W.iret (v := (-1)) hx hb hr (fun t ht hW => ⟨⟨(-1), (cn, In, Fn), rfl, ⟨(Fr.mo Fr.rf (sbl rfl) (sbl rfl) (sbl rfl)), hB, trivial⟩, by rw [ht]; exact hP, hD⟩, hS.F ht⟩) hS.2.2 dX11_nights_50
        ·
          have h_10 : ¬ (1 ≤ v2.toInt ∧ v2.toInt ≤ 400) := h_10
          refine lv_if_eq (tgt := 49) hx hb (oc_153 36 (aq_11 shX11_nights_25) sgw_0_13) rfl (fun _ => ?_) (fun h => absurd h cq_eq_0_0)
          refine lv_iconst (v := (-1)) hx hb dX11_nights_49 kic_m1 ?_
          exact W.iret (v := (-1)) hx hb hr (fun t ht hW => ⟨⟨(-1), (cn, In, Fn), rfl, ⟨(Fr.mo Fr.rf (sbl rfl) (sbl rfl) (sbl rfl)), hB, trivial⟩, by rw [ht]; exact hP, hD⟩, hS.F ht⟩) hS.2.2 dX11_nights_50
      ·
        have h_8 : ¬ (0 ≤ (nI (d0 + n0 - 1)).toInt ∧ (nI (d0 + n0 - 1)).toInt ≤ 399) := h_8
        refine lv_if_eq (tgt := 49) hx hb (oc_153 25 shX11_nights_25 sgw_0_24) rfl (fun _ => ?_) (fun h => absurd h cq_eq_0_0)
        refine lv_iconst (v := (-1)) hx hb dX11_nights_49 kic_m1 ?_
        exact W.iret (v := (-1)) hx hb hr (fun t ht hW => ⟨⟨(-1), (cn, In, Fn), rfl, ⟨(Fr.mo Fr.rf (sbl rfl) (sbl rfl) (sbl rfl)), hB, trivial⟩, by rw [ht]; exact hP, hD⟩, hS.F ht⟩) hS.2.2 dX11_nights_50
    ·
      have h_4 : ¬ (1 ≤ v1.toInt ∧ v1.toInt ≤ 7) := h_4
      refine lv_if_eq (tgt := 49) hx hb (oc_153 14 (aq_14 shX11_nights_0) sgw_0_35) rfl (fun _ => ?_) (fun h => absurd h cq_eq_0_0)
      refine lv_iconst (v := (-1)) hx hb dX11_nights_49 kic_m1 ?_
      exact W.iret (v := (-1)) hx hb hr (fun t ht hW => ⟨⟨(-1), (cn, In, Fn), rfl, ⟨(Fr.mo Fr.rf (sbl rfl) (sbl rfl) (sbl rfl)), hB, trivial⟩, by rw [ht]; exact hP, hD⟩, hS.F ht⟩) hS.2.2 dX11_nights_50
  ·
    have h_2 : ¬ (0 ≤ v0.toInt ∧ v0.toInt ≤ 399) := h_2
    refine lv_if_eq (tgt := 49) hx hb (oc_153 4 (aq_4 shX11_nights_0) sgw_0_45) rfl (fun _ => ?_) (fun h => absurd h cq_eq_0_0)
    refine lv_iconst (v := (-1)) hx hb dX11_nights_49 kic_m1 ?_
    exact W.iret (v := (-1)) hx hb hr (fun t ht hW => ⟨⟨(-1), (cn, In, Fn), rfl, ⟨(Fr.mo Fr.rf (sbl rfl) (sbl rfl) (sbl rfl)), hB, trivial⟩, by rw [ht]; exact hP, hD⟩, hS.F ht⟩) hS.2.2 dX11_nights_50
set_option maxRecDepth 100000 in
set_option maxHeartbeats 4000000 in
theorem q_XdrivenLength (l : Launch) (D : va_G) (cI cB cZ : ClassId) (zz qq vv : Nat) (bt : Nat → Int32) (g : Nat → Nat) (ad : Nat → Nat → Nat) (cn : Nat → Nat) (In : Nat → Int32) (Fn : Nat → Nat → Int32) (n0 : Nat) (hB : CBX cn) (hn : n0 ≤ 20) : Met l yX11_drivenLength (CWS yX11_drivenLength cX11_drivenLength 7 (some .int)) (RM 4 0 0) (PBrx [.ref (g 0), .int (nI n0)] D cI cB cZ zz qq vv bt (wX cI (D.1 99) zz g ad cn In Fn)) (vp_Si (fun _ => True)) 0 0 (fun _ => False) := by
  refine en_rx rfl pn_RX11 (Nat.le_of_ble_eq_true rfl) (fun p e s m below meth c hx hb hml hown S hr hlocks hnm hP hK hXS hS ls hl => ?_)
  have hl : lv_has ls 7 [(0, .ref (g 0)), (1, .int (nI n0))] := hl
  have hb_cn : Hid (CBX cn) := hB
  replace hB : CBXh cn := hB
  refine lv_iconst (v := 0) hx hb (oc_3 0 shX11_drivenLength_0) kic_0 ?_
  refine lv_istore_n (lv' := [(2, .int 0), (0, .ref (g 0)), (1, .int (nI n0))]) hx hb (oc_61 1 (aq_1 shX11_drivenLength_0)) rfl hl (ltb rfl) rfl (fun ls hl => ?_)
  refine lv_iconst (v := 0) hx hb (oc_3 2 (aq_2 shX11_drivenLength_0)) kic_0 ?_
  refine lv_istore_n (lv' := [(3, .int 0), (2, .int 0), (0, .ref (g 0)), (1, .int (nI n0))]) hx hb (oc_62 3 (aq_3 shX11_drivenLength_0)) rfl hl (ltb rfl) rfl (fun ls hl => ?_)
  refine lv_iconst (v := 0) hx hb (oc_3 4 (aq_4 shX11_drivenLength_0)) kic_0 ?_
  refine lv_istore (lv' := [(4, .int 0), (3, .int 0), (2, .int 0), (0, .ref (g 0)), (1, .int (nI n0))]) hx hb (oc_54 5 (aq_5 shX11_drivenLength_0) ub_4) hl (ltb rfl) rfl (fun ls hl => ?_)
  refine lv_iconst (v := 0) hx hb (oc_3 7 (aq_7 shX11_drivenLength_0)) kic_0 ?_
  refine lv_istore (lv' := [(5, .int 0), (4, .int 0), (3, .int 0), (2, .int 0), (0, .ref (g 0)), (1, .int (nI n0))]) hx hb (oc_54 8 (aq_8 shX11_drivenLength_0) ub_5) hl (ltb rfl) rfl (fun ls hl => ?_)
  have lp_10 : ∀ (n : Nat) (i10 : Nat) (x10_2 : Int32) (x10_3 : Int32) (x10_4 : Int32) , n0 - i10 < n → (i10 ≤ n0) → ∀ ls : Array Slot, lv_has ls 7 [(5, .int (nI i10)), (4, .int x10_4), (3, .int x10_3), (2, .int x10_2), (0, .ref (g 0)), (1, .int (nI n0))] → W p l e (RM 4 0 0) s m ([.ref (g 0), .int (nI n0)]).toArray below meth c s.heap [] 0 0 (MQ below (vp_Si (fun _ => True)) ([.ref (g 0), .int (nI n0)]).toArray s 0 0 (fun _ => False)) (F0 m 10 ls []) := by
    intro n10
    induction n10 with
    | zero => intros; (first | omega | (have zz0 := Hid.u hb_cn; omega))
    | succ n10 ih10 =>
      intro i10 x10_2 x10_3 x10_4 hmu10 hinv10 ls hl
      have hr10 := hinv10
      have ti10 : (nI i10).toInt = (i10 : Int) := nI_toInt (by (first | omega | (have zz0 := Hid.u hb_cn; omega)))
      refine lv_iload hx hb (oc_21 10 (aq_10 shX11_drivenLength_0) ub_5) (lvA0 hl) ?_
      refine lv_iload_n hx hb (oc_27 12 (aq_12 shX11_drivenLength_0)) rfl (lvA5 hl) ?_
      have : (nI n0).toInt = ((n0 : Nat) : Int) := nI_toInt (by (first | omega | (have zz0 := Hid.u hb_cn; omega)))
      refine lv_icmp_ge (tgt := 76) hx hb (oc_162 13 (aq_13 shX11_drivenLength_0) sgw_0_63) rfl (fun c_1 => ?_) (fun c_1 => ?_)
      ·
        have tc_1 : ((nI n0).toInt : Int) ≤ (nI i10).toInt := Int32.le_iff_toInt_le.mp c_1
        refine lv_iload_n hx hb (oc_28 76 shX11_drivenLength_76) rfl (lvA3 hl) ?_
        refine lv_iload_n hx hb (oc_29 77 (aq_1 shX11_drivenLength_76)) rfl (lvA2 hl) ?_
        refine lv_iload hx hb (oc_21 78 (aq_2 shX11_drivenLength_76) ub_4) (lvA1 hl) ?_
        refine lv_iconst (v := 0) hx hb (oc_3 80 (aq_4 shX11_drivenLength_76)) kic_0 ?_
        refine lv_iconst (v := 0) hx hb (oc_3 81 (aq_5 shX11_drivenLength_76)) kic_0 ?_
        refine vp_callSi (runS_r (As := [.int x10_3, .int x10_4, .int 0, .int 0]) (rest := [.int x10_2]) S (q_Xway l D cI cB cZ x10_3 x10_4 0 0 ) kS_RX11_299 hK hP [] rfl ⟨Nat.le_of_ble_eq_true rfl, Nat.le_of_ble_eq_true rfl⟩ ⟨Nat.le_of_ble_eq_true rfl, Nat.le_of_ble_eq_true rfl⟩ rfl hl.1 rfl (Nat.le_of_ble_eq_true rfl) (oc_184 82 (aq_6 shX11_drivenLength_76) uw_1_43)) (fun r_2 h_3 => ?_)
        refine lv_iadd hx hb (oc_96 85 (aq_9 shX11_drivenLength_76)) ?_
        exact W.iret (v := (x10_2 + r_2)) hx hb hr (fun t ht hW => ⟨(x10_2 + r_2), rfl, trivial, ht⟩) (fun _ h => absurd h List.not_mem_nil) (oc_172 86 (aq_10 shX11_drivenLength_76))
      ·
        have tc_1 : ((nI i10).toInt : Int) < (nI n0).toInt := Int32.lt_iff_toInt_lt.mp (Int32.not_le.mp c_1)
        refine lv_aload_n hx hb (oc_42 16 (aq_16 shX11_drivenLength_0)) rfl (lvA4 hl) ?_
        refine lv_aload_n hx hb (oc_42 17 (aq_17 shX11_drivenLength_0)) rfl (lvA4 hl) ?_
        refine gf_RX11_21 S hK hP 0 xo_0 (v := .ref (g 5)) rfl (oc_180 18 (aq_18 shX11_drivenLength_0) uw_0_21) ?_
        refine lv_iload hx hb (oc_21 21 (aq_21 shX11_drivenLength_0) ub_5) (lvA0 hl) ?_
        refine vp_callSi (runV_rxa (As := [.int (nI i10)]) (rest := [.ref (g 0)]) S (q_Xtat l D cI cB cZ zz qq vv bt g ad cn In Fn (nI i10) hB) kV_RX11_291 hK hXS hS hP 1 xo_1 rfl rfl ⟨Nat.le_of_ble_eq_true rfl, Nat.le_of_ble_eq_true rfl⟩ ⟨Nat.le_of_ble_eq_true rfl, Nat.le_of_ble_eq_true rfl⟩ rfl hl.1 rfl (Nat.le_of_ble_eq_true rfl) (oc_182 23 (aq_23 shX11_drivenLength_0) uw_1_35)) (fun r_4 h_5 => ?_)
        refine va_csq (runV_rxa (As := [.int r_4]) (rest := []) S (q_XkitchenAt l D cI cB cZ zz qq vv bt g ad cn In Fn r_4 hB) kV_RX11_114 hK hXS hS hP 0 xo_0 rfl rfl ⟨Nat.le_of_ble_eq_true rfl, Nat.le_of_ble_eq_true rfl⟩ ⟨Nat.le_of_ble_eq_true rfl, Nat.le_of_ble_eq_true rfl⟩ rfl hl.1 rfl (Nat.le_of_ble_eq_true rfl) (oc_182 26 shX11_drivenLength_26 uw_0_114)) (fun r_6 h_7 => ?_)
        rcases h_7 with ⟨mr_6, er_6, hr_6, rfl⟩ | ⟨hr_6, rfl⟩
        ·
          refine lv_astore (lv' := [(6, .ref (ad 10 mr_6)), (5, .int (nI i10)), (4, .int x10_4), (3, .int x10_3), (2, .int x10_2), (0, .ref (g 0)), (1, .int (nI n0))]) hx hb (oc_58 29 (aq_3 shX11_drivenLength_26) ub_6) hl (ltb rfl) rfl (fun ls hl => ?_)
          refine lv_aload hx hb (oc_25 31 (aq_5 shX11_drivenLength_26) ub_6) (lvA0 hl) ?_
          refine lv_ifnonnull (tgt := 38) hx hb (oc_199 33 (aq_7 shX11_drivenLength_26) sgw_0_5) rfl ?_
          refine lv_iload_n hx hb (oc_28 38 (aq_12 shX11_drivenLength_26)) rfl (lvA4 hl) ?_
          refine lv_iload_n hx hb (oc_29 39 (aq_13 shX11_drivenLength_26)) rfl (lvA3 hl) ?_
          refine lv_iload hx hb (oc_21 40 (aq_14 shX11_drivenLength_26) ub_4) (lvA2 hl) ?_
          refine lv_aload hx hb (oc_25 42 (aq_16 shX11_drivenLength_26) ub_6) (lvA0 hl) ?_
          have kf_1 : mr_6 < cn 10 := by (first | omega | (have zz0 := Hid.u hb_cn; omega))
          refine gf_RX11_293 S hK hP _ (xf_0 kf_1) (v := .int ((Fn 100) mr_6)) rfl (oc_180 44 (aq_18 shX11_drivenLength_26) uw_1_37) ?_
          refine lv_aload hx hb (oc_25 47 (aq_21 shX11_drivenLength_26) ub_6) (lvA0 hl) ?_
          refine gf_RX11_296 S hK hP _ (xf_0 kf_1) (v := .int ((Fn 101) mr_6)) rfl (oc_180 49 (aq_23 shX11_drivenLength_26) uw_1_40) ?_
          refine vp_callSi (runS_r (As := [.int x10_3, .int x10_4, .int ((Fn 100) mr_6), .int ((Fn 101) mr_6)]) (rest := [.int x10_2]) S (q_Xway l D cI cB cZ x10_3 x10_4 ((Fn 100) mr_6) ((Fn 101) mr_6) ) kS_RX11_299 hK hP [] rfl ⟨Nat.le_of_ble_eq_true rfl, Nat.le_of_ble_eq_true rfl⟩ ⟨Nat.le_of_ble_eq_true rfl, Nat.le_of_ble_eq_true rfl⟩ rfl hl.1 rfl (Nat.le_of_ble_eq_true rfl) (oc_184 52 shX11_drivenLength_52 uw_1_43)) (fun r_8 h_9 => ?_)
          refine lv_iadd hx hb (oc_96 55 (aq_3 shX11_drivenLength_52)) ?_
          refine lv_istore_n (lv' := [(2, .int (x10_2 + r_8)), (6, .ref (ad 10 mr_6)), (5, .int (nI i10)), (4, .int x10_4), (3, .int x10_3), (0, .ref (g 0)), (1, .int (nI n0))]) hx hb (oc_61 56 (aq_4 shX11_drivenLength_52)) rfl hl (ltb rfl) rfl (fun ls hl => ?_)
          refine lv_aload hx hb (oc_25 57 (aq_5 shX11_drivenLength_52) ub_6) (lvA1 hl) ?_
          refine gf_RX11_293 S hK hP _ (xf_0 kf_1) (v := .int ((Fn 100) mr_6)) rfl (oc_180 59 (aq_7 shX11_drivenLength_52) uw_1_37) ?_
          refine lv_istore_n (lv' := [(3, .int ((Fn 100) mr_6)), (2, .int (x10_2 + r_8)), (6, .ref (ad 10 mr_6)), (5, .int (nI i10)), (4, .int x10_4), (0, .ref (g 0)), (1, .int (nI n0))]) hx hb (oc_62 62 (aq_10 shX11_drivenLength_52)) rfl hl (ltb rfl) rfl (fun ls hl => ?_)
          refine lv_aload hx hb (oc_25 63 (aq_11 shX11_drivenLength_52) ub_6) (lvA2 hl) ?_
          refine gf_RX11_296 S hK hP _ (xf_0 kf_1) (v := .int ((Fn 101) mr_6)) rfl (oc_180 65 (aq_13 shX11_drivenLength_52) uw_1_40) ?_
          refine lv_istore (lv' := [(4, .int ((Fn 101) mr_6)), (3, .int ((Fn 100) mr_6)), (2, .int (x10_2 + r_8)), (6, .ref (ad 10 mr_6)), (5, .int (nI i10)), (0, .ref (g 0)), (1, .int (nI n0))]) hx hb (oc_54 68 (aq_16 shX11_drivenLength_52) ub_4) hl (ltb rfl) rfl (fun ls hl => ?_)
          refine lv_iinc (v := (nI (i10 + 1))) (lv' := [(5, .int (nI (i10 + 1))), (4, .int ((Fn 101) mr_6)), (3, .int ((Fn 100) mr_6)), (2, .int (x10_2 + r_8)), (6, .ref (ad 10 mr_6)), (0, .ref (g 0)), (1, .int (nI n0))]) hx hb (oc_132 70 (aq_18 shX11_drivenLength_52) ub_5 sgb_1) hl (k := 4) rfl (nI_1 _) (ltb rfl) rfl (fun ls hl => ?_)
          refine lv_goto (tgt := 10) hx hb (oc_167 73 (aq_21 shX11_drivenLength_52) sgw_255_193) rfl ?_
          exact ih10 (i10 + 1) (x10_2 + r_8) ((Fn 100) mr_6) ((Fn 101) mr_6) (by (first | omega | (have zz0 := Hid.u hb_cn; omega))) (by (first | omega | (have zz0 := Hid.u hb_cn; omega))) ls (lv_sub hl [0, 1, 2, 3, 5, 6] rfl)
        ·
          refine lv_astoreN (lv' := [(6, .null), (5, .int (nI i10)), (4, .int x10_4), (3, .int x10_3), (2, .int x10_2), (0, .ref (g 0)), (1, .int (nI n0))]) hx hb (oc_58 29 (aq_3 shX11_drivenLength_26) ub_6) hl (ltb rfl) rfl (fun ls hl => ?_)
          refine lv_aloadN hx hb (oc_25 31 (aq_5 shX11_drivenLength_26) ub_6) (lvA0 hl) ?_
          refine lv_ifnonnullN hx hb (oc_199 33 (aq_7 shX11_drivenLength_26) sgw_0_5) ?_
          refine lv_iconst (v := (-1)) hx hb (oc_2 36 (aq_10 shX11_drivenLength_26)) kic_m1 ?_
          exact W.iret (v := (-1)) hx hb hr (fun t ht hW => ⟨(-1), rfl, trivial, ht⟩) (fun _ h => absurd h List.not_mem_nil) (oc_172 37 (aq_11 shX11_drivenLength_26))
  exact lp_10 _ 0 0 0 0 (Nat.lt_succ_self _) (by (first | omega | (have zz0 := Hid.u hb_cn; omega))) ls (lv_sub hl [0, 1, 2, 3, 4, 5] rfl)
set_option maxRecDepth 100000 in
set_option maxHeartbeats 4000000 in
theorem q_Xdriven (l : Launch) (D : va_G) (cI cB cZ : ClassId) (zz qq vv : Nat) (bt : Nat → Int32) (g : Nat → Nat) (ad : Nat → Nat → Nat) (cn : Nat → Nat) (In : Nat → Int32) (Fn : Nat → Nat → Int32) (v0 : Int32) (sz : Nat) (hB : CBX cn) : Met l yX11_driven (CWS yX11_driven cX11_driven 3 (some .int)) (RM 5 0 0) (PBx [.ref (g 0), .int v0] D cI cB cZ zz qq vv bt (wX cI (D.1 99) zz g ad cn In Fn) sz) (va_Qi (fun (r : Int32) (u : (Nat → Nat) × (Nat → Int32) × (Nat → Nat → Int32)) => (fun r c2 I2 F2 => Fr [3] [] [] cn In Fn c2 I2 F2 ∧ CBX c2 ∧ (True)) r u.1 u.2.1 u.2.2) (fun (u : (Nat → Nat) × (Nat → Int32) × (Nat → Nat → Int32)) (t : State) => va_P D vwCl (wX cI (D.1 99) zz g ad u.1 u.2.1 u.2.2) t.heap ∧ va_D (va_A (wX cI (D.1 99) zz g ad cn In Fn) sz) (wX cI (D.1 99) zz g ad u.1 u.2.1 u.2.2)) (va_A (wX cI (D.1 99) zz g ad cn In Fn) sz)) 0 0 (va_A (wX cI (D.1 99) zz g ad cn In Fn) sz) := by
  refine en_x (fun A => (va_Qi (fun (r : Int32) (u : (Nat → Nat) × (Nat → Int32) × (Nat → Nat → Int32)) => (fun (r : Int32) (c2 : Nat → Nat) (I2 : Nat → Int32) (F2 : Nat → Nat → Int32) => Fr [3] [] [] cn In Fn c2 I2 F2 ∧ CBX c2 ∧ (True)) r u.1 u.2.1 u.2.2) (fun (u : (Nat → Nat) × (Nat → Int32) × (Nat → Nat → Int32)) (t : State) => va_P D vwCl (wX cI (D.1 99) zz g ad u.1 u.2.1 u.2.2) t.heap ∧ va_D A (wX cI (D.1 99) zz g ad u.1 u.2.1 u.2.2)) A)) rfl rfl pn_RX11 (Nat.le_of_ble_eq_true rfl) (fun p e s m below meth c A hx hb hml hown S hr hlocks hnm hA hP hK hD hXS hS ls hl => ?_)
  have hl : lv_has ls 3 [(0, .ref (g 0)), (1, .int v0)] := hl
  have hb_cn : Hid (CBX cn) := hB
  replace hB : CBXh cn := hB
  refine lv_iload_n hx hb (oc_27 0 shX11_driven_0) rfl (lvA1 hl) ?_
  refine lv_iconst (v := 0) hx hb (oc_3 1 (aq_1 shX11_driven_0)) kic_0 ?_
  refine lv_bipush (v := 20) hx hb (oc_16 2 (aq_2 shX11_driven_0) sgb_20) kbc_20 ?_
  refine vp_callSi (runS_r (As := [.int v0, .int 0, .int 20]) (rest := []) S (q_l_within l D cI cB cZ v0 0 20) kS_RX11_80 hK hP [] rfl ⟨Nat.le_of_ble_eq_true rfl, Nat.le_of_ble_eq_true rfl⟩ ⟨Nat.le_of_ble_eq_true rfl, Nat.le_of_ble_eq_true rfl⟩ rfl hl.1 rfl (Nat.le_of_ble_eq_true rfl) (oc_184 4 (aq_4 shX11_driven_0) uw_0_80)) (fun r_1 h_2 => ?_)
  rcases h_2 with ⟨rfl, h_2⟩ | ⟨rfl, h_2⟩
  ·
    have h_2 : 0 ≤ v0.toInt ∧ v0.toInt ≤ 20 := h_2
    refine lv_if_eq (tgt := 21) hx hb (oc_153 7 (aq_7 shX11_driven_0) sgw_0_14) rfl (fun h => absurd h cq_eq_1_0) (fun _ => ?_)
    refine lv_iload_n hx hb (oc_27 10 (aq_10 shX11_driven_0)) rfl (lvA1 hl) ?_
    refine lv_aload_n hx hb (oc_42 11 (aq_11 shX11_driven_0)) rfl (lvA0 hl) ?_
    refine gf_RX11_21 S hK hP 0 xo_0 (v := .ref (g 5)) rfl (oc_180 12 (aq_12 shX11_driven_0) uw_0_21) ?_
    refine vp_callSi (runV_rxa (As := []) (rest := [.int v0]) S (q_Xlength l D cI cB cZ zz qq vv bt g ad cn In Fn  hB) kV_RX11_152 hK hXS hS hP 1 xo_1 rfl rfl ⟨Nat.le_of_ble_eq_true rfl, Nat.le_of_ble_eq_true rfl⟩ ⟨Nat.le_of_ble_eq_true rfl, Nat.le_of_ble_eq_true rfl⟩ rfl hl.1 rfl (Nat.le_of_ble_eq_true rfl) (oc_182 15 (aq_15 shX11_driven_0) uw_0_152)) (fun r_3 h_4 => ?_)
    subst h_4
    have : (nI ((cn 3))).toInt = ((((cn 3)) : Nat) : Int) := nI_toInt (by (first | omega | (have zz0 := Hid.u hb_cn; omega)))
    refine lv_icmp_le (tgt := 23) hx hb (oc_164 18 (aq_18 shX11_driven_0) sgw_0_5) rfl (fun c_5 => ?_) (fun c_5 => ?_)
    ·
      have tc_5 : (v0.toInt : Int) ≤ (nI ((cn 3))).toInt := Int32.le_iff_toInt_le.mp c_5
      obtain ⟨d0, hd0, rfl⟩ := nI_of (x := v0) (fun q => by have := Int32.lt_iff_toInt_lt.mp q; have e : (0 : Int32).toInt = 0 := rfl; (first | omega | (have zz0 := Hid.u hb_cn; omega)))
      have td0 : (nI d0).toInt = (d0 : Int) := nI_toInt hd0
      have zd0 : (nI d0).toInt.toNat = d0 := by (first | omega | (have zz0 := Hid.u hb_cn; omega))
      refine lv_aload_n hx hb (oc_42 23 (aq_23 shX11_driven_0)) rfl (lvA0 hl) ?_
      refine lv_iload_n hx hb (oc_27 24 shX11_driven_24) rfl (lvA1 hl) ?_
      refine vp_callSi (runV_rxa (As := [.int (nI d0)]) (rest := []) S (q_XdrivenLength l D cI cB cZ zz qq vv bt g ad cn In Fn d0 hB (by (first | omega | (have zz0 := Hid.u hb_cn; omega)))) kV_RX11_288 hK hXS hS hP 0 xo_0 rfl rfl ⟨Nat.le_of_ble_eq_true rfl, Nat.le_of_ble_eq_true rfl⟩ ⟨Nat.le_of_ble_eq_true rfl, Nat.le_of_ble_eq_true rfl⟩ rfl hl.1 rfl (Nat.le_of_ble_eq_true rfl) (oc_182 25 (aq_1 shX11_driven_24) uw_1_32)) (fun r_6 h_7 => ?_)
      refine lv_istore_n (lv' := [(2, .int r_6), (0, .ref (g 0)), (1, .int (nI d0))]) hx hb (oc_61 28 (aq_4 shX11_driven_24)) rfl hl (ltb rfl) rfl (fun ls hl => ?_)
      refine lv_aload_n hx hb (oc_42 29 (aq_5 shX11_driven_24)) rfl (lvA1 hl) ?_
      refine gf_RX11_21 S hK hP 0 xo_0 (v := .ref (g 5)) rfl (oc_180 30 (aq_6 shX11_driven_24) uw_0_21) ?_
      have hFc := free_all hD hS hA
      refine va_callv (runV_xa (As := []) (rest := []) S (q_Xclear l D cI cB cZ zz qq vv bt g ad cn In Fn  s.heap.size hB) kV_RX11_162 hK hXS hS hFc hP hD 1 xo_1 rfl rfl ⟨Nat.le_of_ble_eq_true rfl, Nat.le_of_ble_eq_true rfl⟩ ⟨Nat.le_of_ble_eq_true rfl, Nat.le_of_ble_eq_true rfl⟩ rfl hl.1 rfl (Nat.le_of_ble_eq_true rfl) (oc_182 33 (aq_9 shX11_driven_24) uw_0_162)) hS (fun q _ h => hFc q h) hFc (fun u t H1 locs ht hvm wh_9 hB1 hz1 hk1 hS => ?_)
      obtain ⟨cn9, In9, Fn9⟩ := u
      obtain ⟨hP1, hD1⟩ := hB1
      rw [ht] at hP1
      have hP : va_P D vwCl (wX cI (D.1 99) zz g ad cn9 In9 Fn9) H1 := hP1
      have hD : va_D A (wX cI (D.1 99) zz g ad cn9 In9 Fn9) := hD1.weaken (fun _ _ _ h => hFc _ h)
      generalize H1 = H at hP hS ⊢
      have vh_9 : (fun c2 I2 F2 => Fr [3] [] [] cn In Fn c2 I2 F2 ∧ CBX c2 ∧ (c2 3 = 0)) cn9 In9 Fn9 := wh_9
      obtain ⟨hfc9, hIn9, h_9⟩ := vh_9
      obtain rfl : In = In9 := (funext (fun k => hfc9.2.1 k List.not_mem_nil)).symm
      obtain rfl : Fn = Fn9 := (funext (fun k => hfc9.2.2 k List.not_mem_nil)).symm
      have hf9 : Fr [3] [] [] cn In Fn cn9 In Fn := Fr.mo (Fr.tr (Fr.rf (cn := cn) (In := In) (Fn := Fn)) hfc9) (sbl rfl) (sbl rfl) (sbl rfl)
      have hb_cn9 : Hid (CBX cn9) := hIn9
      replace hIn9 : CBXh cn9 := hIn9
      have : cn9 6 = (cn 6) := hfc9.1 6 (nml rfl)
      have : cn9 31 = (cn 31) := hfc9.1 31 (nml rfl)
      have : cn9 32 = (cn 32) := hfc9.1 32 (nml rfl)
      have hq_cn9 : Hid (cn9 0 = (cn 0) ∧ cn9 1 = (cn 1) ∧ cn9 2 = (cn 2) ∧ cn9 4 = (cn 4) ∧ cn9 5 = (cn 5) ∧ cn9 10 = (cn 10) ∧ cn9 11 = (cn 11) ∧ cn9 12 = (cn 12) ∧ cn9 13 = (cn 13) ∧ cn9 14 = (cn 14) ∧ cn9 15 = (cn 15) ∧ cn9 20 = (cn 20) ∧ cn9 21 = (cn 21) ∧ cn9 22 = (cn 22) ∧ cn9 23 = (cn 23) ∧ cn9 24 = (cn 24) ∧ cn9 25 = (cn 25)) := Hid.i (p := cn9 0 = (cn 0) ∧ cn9 1 = (cn 1) ∧ cn9 2 = (cn 2) ∧ cn9 4 = (cn 4) ∧ cn9 5 = (cn 5) ∧ cn9 10 = (cn 10) ∧ cn9 11 = (cn 11) ∧ cn9 12 = (cn 12) ∧ cn9 13 = (cn 13) ∧ cn9 14 = (cn 14) ∧ cn9 15 = (cn 15) ∧ cn9 20 = (cn 20) ∧ cn9 21 = (cn 21) ∧ cn9 22 = (cn 22) ∧ cn9 23 = (cn 23) ∧ cn9 24 = (cn 24) ∧ cn9 25 = (cn 25)) ⟨hfc9.1 0 (nml rfl), hfc9.1 1 (nml rfl), hfc9.1 2 (nml rfl), hfc9.1 4 (nml rfl), hfc9.1 5 (nml rfl), hfc9.1 10 (nml rfl), hfc9.1 11 (nml rfl), hfc9.1 12 (nml rfl), hfc9.1 13 (nml rfl), hfc9.1 14 (nml rfl), hfc9.1 15 (nml rfl), hfc9.1 20 (nml rfl), hfc9.1 21 (nml rfl), hfc9.1 22 (nml rfl), hfc9.1 23 (nml rfl), hfc9.1 24 (nml rfl), hfc9.1 25 (nml rfl)⟩
      refine lv_iload_n hx hb (oc_28 36 (aq_12 shX11_driven_24)) rfl (lvA0 hl) ?_
      exact W.iret (v := r_6) hx hb hr (fun t ht hW => ⟨⟨r_6, (cn9, In, Fn), rfl, ⟨(Fr.mo hf9 (sbl rfl) (sbl rfl) (sbl rfl)), hIn9, trivial⟩, by rw [ht]; exact hP, hD⟩, hS.F ht⟩) hS.2.2 (oc_172 37 (aq_13 shX11_driven_24))
    ·
      have tc_5 : ((nI ((cn 3))).toInt : Int) < v0.toInt := Int32.lt_iff_toInt_lt.mp (Int32.not_le.mp c_5)
      refine lv_iconst (v := (-1)) hx hb (oc_2 21 (aq_21 shX11_driven_0)) kic_m1 ?_
      exact W.iret (v := (-1)) hx hb hr (fun t ht hW => ⟨⟨(-1), (cn, In, Fn), rfl, ⟨(Fr.mo Fr.rf (sbl rfl) (sbl rfl) (sbl rfl)), hB, trivial⟩, by rw [ht]; exact hP, hD⟩, hS.F ht⟩) hS.2.2 (oc_172 22 (aq_22 shX11_driven_0))
  ·
    have h_2 : ¬ (0 ≤ v0.toInt ∧ v0.toInt ≤ 20) := h_2
    refine lv_if_eq (tgt := 21) hx hb (oc_153 7 (aq_7 shX11_driven_0) sgw_0_14) rfl (fun _ => ?_) (fun h => absurd h cq_eq_0_0)
    refine lv_iconst (v := (-1)) hx hb (oc_2 21 (aq_21 shX11_driven_0)) kic_m1 ?_
    exact W.iret (v := (-1)) hx hb hr (fun t ht hW => ⟨⟨(-1), (cn, In, Fn), rfl, ⟨(Fr.mo Fr.rf (sbl rfl) (sbl rfl) (sbl rfl)), hB, trivial⟩, by rw [ht]; exact hP, hD⟩, hS.F ht⟩) hS.2.2 (oc_172 22 (aq_22 shX11_driven_0))
