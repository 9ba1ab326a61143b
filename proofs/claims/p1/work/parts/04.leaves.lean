set_option maxRecDepth 100000 in
theorem kS_RX11_80 : CalS RX11 80 yX11_within cX11_within 3 (some .boolean) 3 := ⟨⟨wT_tab 292 rfl rfl, wT_tab 293 rfl rfl, wT_tab 1 rfl rfl, wT_tab 294 rfl rfl⟩, ⟨by decide, by decide, by decide +kernel⟩⟩
set_option maxRecDepth 100000 in
theorem hin_RJx4a65c : ∀ w ∈ u_ws RJx4a65c TJx4a65c 3, w ∈ wT := by decide +kernel
set_option maxRecDepth 100000 in
theorem gf_RJx4a65c_48 {p : Program} {l : Launch} {e : Env} {R : Room} {s : State} {m : MethodId} {args : Array Value} {below : List Frame} {meth : Method} {c : Code} {H : Heap} {locs : List Loc} {cells slots : Nat} {Q : State → Prop} {cc : ByteArray} {nL pc : Nat} {D : va_G} {cI cB cZ : ClassId} {ws : va_W} {rest : List Value} {ls : Array Slot} {a : Nat} {fs : List Value} {v : Value} (S : SF p m c cc nL s args RJx4a65c) (hK : KK D cI cB cZ s) (hP : va_P D vwCl ws H) (q0 : Nat) (he : ws[q0]? = some (a, .inr (0, fs))) (hv : fs[2]? = some v) (hdg : decode cc pc = .ok (.getfield 48, 3)) (kk : W p l e R s m args below meth c H locs cells slots Q (F0 m (pc + 3) ls (v :: rest))) : W p l e R s m args below meth c H locs cells slots Q (F0 m pc ls (.ref a :: rest)) :=
  va_get (C := RJx4a65c) (T := TJx4a65c) (N := 3) S.1 S.2.1 S.2.2.2.2 hin_RJx4a65c S.2.2.2.1 hK.1 hP q0 he rfl 2 (by decide) (S.2.2.2.2 _ (wT_tab 225 rfl rfl)) (fun _ h9 => h9) hv hdg kk
set_option maxRecDepth 100000 in
theorem hin_RX11 : ∀ w ∈ u_ws RX11 TX11 16, w ∈ wT := by decide +kernel
set_option maxRecDepth 100000 in
theorem gf_RX11_61 {p : Program} {l : Launch} {e : Env} {R : Room} {s : State} {m : MethodId} {args : Array Value} {below : List Frame} {meth : Method} {c : Code} {H : Heap} {locs : List Loc} {cells slots : Nat} {Q : State → Prop} {cc : ByteArray} {nL pc : Nat} {D : va_G} {cI cB cZ : ClassId} {ws : va_W} {rest : List Value} {ls : Array Slot} {a : Nat} {fs : List Value} {v : Value} (S : SF p m c cc nL s args RX11) (hK : KK D cI cB cZ s) (hP : va_P D vwCl ws H) (q0 : Nat) (he : ws[q0]? = some (a, .inr (12, fs))) (hv : fs[10]? = some v) (hdg : decode cc pc = .ok (.getfield 61, 3)) (kk : W p l e R s m args below meth c H locs cells slots Q (F0 m (pc + 3) ls (v :: rest))) : W p l e R s m args below meth c H locs cells slots Q (F0 m pc ls (.ref a :: rest)) :=
  va_get (C := RX11) (T := TX11) (N := 16) S.1 S.2.1 S.2.2.2.2 hin_RX11 S.2.2.2.1 hK.1 hP q0 he rfl 10 (by decide) (S.2.2.2.2 _ (wT_tab 246 rfl rfl)) (fun _ h9 => h9) hv hdg kk
set_option maxRecDepth 100000 in
theorem kV_RX11_84 : CalV RX11 84 yJx4a65c_size_8abf5 cJx4a65c_size_8abf5 1 (some .int) 0 := ⟨⟨wT_tab 299 rfl rfl, wT_tab 300 rfl rfl, wT_tab 301 rfl rfl, wT_tab 12 rfl rfl, wT_tab 302 rfl rfl⟩, ⟨by decide, by decide, by decide +kernel⟩⟩
set_option maxRecDepth 100000 in
theorem gf_RX11_65 {p : Program} {l : Launch} {e : Env} {R : Room} {s : State} {m : MethodId} {args : Array Value} {below : List Frame} {meth : Method} {c : Code} {H : Heap} {locs : List Loc} {cells slots : Nat} {Q : State → Prop} {cc : ByteArray} {nL pc : Nat} {D : va_G} {cI cB cZ : ClassId} {ws : va_W} {rest : List Value} {ls : Array Slot} {a : Nat} {fs : List Value} {v : Value} (S : SF p m c cc nL s args RX11) (hK : KK D cI cB cZ s) (hP : va_P D vwCl ws H) (q0 : Nat) (he : ws[q0]? = some (a, .inr (12, fs))) (hv : fs[11]? = some v) (hdg : decode cc pc = .ok (.getfield 65, 3)) (kk : W p l e R s m args below meth c H locs cells slots Q (F0 m (pc + 3) ls (v :: rest))) : W p l e R s m args below meth c H locs cells slots Q (F0 m pc ls (.ref a :: rest)) :=
  va_get (C := RX11) (T := TX11) (N := 16) S.1 S.2.1 S.2.2.2.2 hin_RX11 S.2.2.2.1 hK.1 hP q0 he rfl 11 (by decide) (S.2.2.2.2 _ (wT_tab 247 rfl rfl)) (fun _ h9 => h9) hv hdg kk
set_option maxRecDepth 100000 in
theorem gf_RX11_68 {p : Program} {l : Launch} {e : Env} {R : Room} {s : State} {m : MethodId} {args : Array Value} {below : List Frame} {meth : Method} {c : Code} {H : Heap} {locs : List Loc} {cells slots : Nat} {Q : State → Prop} {cc : ByteArray} {nL pc : Nat} {D : va_G} {cI cB cZ : ClassId} {ws : va_W} {rest : List Value} {ls : Array Slot} {a : Nat} {fs : List Value} {v : Value} (S : SF p m c cc nL s args RX11) (hK : KK D cI cB cZ s) (hP : va_P D vwCl ws H) (q0 : Nat) (he : ws[q0]? = some (a, .inr (12, fs))) (hv : fs[12]? = some v) (hdg : decode cc pc = .ok (.getfield 68, 3)) (kk : W p l e R s m args below meth c H locs cells slots Q (F0 m (pc + 3) ls (v :: rest))) : W p l e R s m args below meth c H locs cells slots Q (F0 m pc ls (.ref a :: rest)) :=
  va_get (C := RX11) (T := TX11) (N := 16) S.1 S.2.1 S.2.2.2.2 hin_RX11 S.2.2.2.1 hK.1 hP q0 he rfl 12 (by decide) (S.2.2.2.2 _ (wT_tab 248 rfl rfl)) (fun _ h9 => h9) hv hdg kk
set_option maxRecDepth 100000 in
theorem gf_RX11_71 {p : Program} {l : Launch} {e : Env} {R : Room} {s : State} {m : MethodId} {args : Array Value} {below : List Frame} {meth : Method} {c : Code} {H : Heap} {locs : List Loc} {cells slots : Nat} {Q : State → Prop} {cc : ByteArray} {nL pc : Nat} {D : va_G} {cI cB cZ : ClassId} {ws : va_W} {rest : List Value} {ls : Array Slot} {a : Nat} {fs : List Value} {v : Value} (S : SF p m c cc nL s args RX11) (hK : KK D cI cB cZ s) (hP : va_P D vwCl ws H) (q0 : Nat) (he : ws[q0]? = some (a, .inr (12, fs))) (hv : fs[13]? = some v) (hdg : decode cc pc = .ok (.getfield 71, 3)) (kk : W p l e R s m args below meth c H locs cells slots Q (F0 m (pc + 3) ls (v :: rest))) : W p l e R s m args below meth c H locs cells slots Q (F0 m pc ls (.ref a :: rest)) :=
  va_get (C := RX11) (T := TX11) (N := 16) S.1 S.2.1 S.2.2.2.2 hin_RX11 S.2.2.2.1 hK.1 hP q0 he rfl 13 (by decide) (S.2.2.2.2 _ (wT_tab 249 rfl rfl)) (fun _ h9 => h9) hv hdg kk
set_option maxRecDepth 100000 in
theorem hin_RX8 : ∀ w ∈ u_ws RX8 TX8 2, w ∈ wT := by decide +kernel
set_option maxRecDepth 100000 in
theorem gf_RX8_13 {p : Program} {l : Launch} {e : Env} {R : Room} {s : State} {m : MethodId} {args : Array Value} {below : List Frame} {meth : Method} {c : Code} {H : Heap} {locs : List Loc} {cells slots : Nat} {Q : State → Prop} {cc : ByteArray} {nL pc : Nat} {D : va_G} {cI cB cZ : ClassId} {ws : va_W} {rest : List Value} {ls : Array Slot} {a : Nat} {fs : List Value} {v : Value} (S : SF p m c cc nL s args RX8) (hK : KK D cI cB cZ s) (hP : va_P D vwCl ws H) (q0 : Nat) (he : ws[q0]? = some (a, .inr (9, fs))) (hv : fs[1]? = some v) (hdg : decode cc pc = .ok (.getfield 13, 3)) (kk : W p l e R s m args below meth c H locs cells slots Q (F0 m (pc + 3) ls (v :: rest))) : W p l e R s m args below meth c H locs cells slots Q (F0 m pc ls (.ref a :: rest)) :=
  va_get (C := RX8) (T := TX8) (N := 2) S.1 S.2.1 S.2.2.2.2 hin_RX8 S.2.2.2.1 hK.1 hP q0 he rfl 1 (by decide) (S.2.2.2.2 _ (wT_tab 83 rfl rfl)) (fun _ h9 => h9) hv hdg kk
set_option maxRecDepth 100000 in
theorem gf_RX11_21 {p : Program} {l : Launch} {e : Env} {R : Room} {s : State} {m : MethodId} {args : Array Value} {below : List Frame} {meth : Method} {c : Code} {H : Heap} {locs : List Loc} {cells slots : Nat} {Q : State → Prop} {cc : ByteArray} {nL pc : Nat} {D : va_G} {cI cB cZ : ClassId} {ws : va_W} {rest : List Value} {ls : Array Slot} {a : Nat} {fs : List Value} {v : Value} (S : SF p m c cc nL s args RX11) (hK : KK D cI cB cZ s) (hP : va_P D vwCl ws H) (q0 : Nat) (he : ws[q0]? = some (a, .inr (12, fs))) (hv : fs[5]? = some v) (hdg : decode cc pc = .ok (.getfield 21, 3)) (kk : W p l e R s m args below meth c H locs cells slots Q (F0 m (pc + 3) ls (v :: rest))) : W p l e R s m args below meth c H locs cells slots Q (F0 m pc ls (.ref a :: rest)) :=
  va_get (C := RX11) (T := TX11) (N := 16) S.1 S.2.1 S.2.2.2.2 hin_RX11 S.2.2.2.1 hK.1 hP q0 he rfl 5 (by decide) (S.2.2.2.2 _ (wT_tab 241 rfl rfl)) (fun _ h9 => h9) hv hdg kk
set_option maxRecDepth 100000 in
theorem kV_RX11_152 : CalV RX11 152 yX8_length cX8_length 1 (some .int) 0 := ⟨⟨wT_tab 517 rfl rfl, wT_tab 518 rfl rfl, wT_tab 519 rfl rfl, wT_tab 4 rfl rfl, wT_tab 520 rfl rfl⟩, ⟨by decide, by decide, by decide +kernel⟩⟩
set_option maxRecDepth 100000 in
theorem kS_RX11_246 : CalS RX11 246 yX11_choose cX11_choose 6 (some .long) 2 := ⟨⟨wT_tab 785 rfl rfl, wT_tab 786 rfl rfl, wT_tab 1 rfl rfl, wT_tab 787 rfl rfl⟩, ⟨by decide, by decide, by decide +kernel⟩⟩
set_option maxRecDepth 100000 in
theorem kS_RX11_250 : CalS RX11 250 yX11_divisor cX11_divisor 7 (some .long) 2 := ⟨⟨wT_tab 788 rfl rfl, wT_tab 789 rfl rfl, wT_tab 1 rfl rfl, wT_tab 790 rfl rfl⟩, ⟨by decide, by decide, by decide +kernel⟩⟩
set_option maxRecDepth 100000 in
theorem hin_RX10 : ∀ w ∈ u_ws RX10 TX10 7, w ∈ wT := by decide +kernel
set_option maxRecDepth 100000 in
theorem gf_RX10_18 {p : Program} {l : Launch} {e : Env} {R : Room} {s : State} {m : MethodId} {args : Array Value} {below : List Frame} {meth : Method} {c : Code} {H : Heap} {locs : List Loc} {cells slots : Nat} {Q : State → Prop} {cc : ByteArray} {nL pc : Nat} {D : va_G} {cI cB cZ : ClassId} {ws : va_W} {rest : List Value} {ls : Array Slot} {a : Nat} {fs : List Value} {v : Value} (S : SF p m c cc nL s args RX10) (hK : KK D cI cB cZ s) (hP : va_P D vwCl ws H) (q0 : Nat) (he : ws[q0]? = some (a, .inr (11, fs))) (hv : fs[2]? = some v) (hdg : decode cc pc = .ok (.getfield 18, 3)) (kk : W p l e R s m args below meth c H locs cells slots Q (F0 m (pc + 3) ls (v :: rest))) : W p l e R s m args below meth c H locs cells slots Q (F0 m pc ls (.ref a :: rest)) :=
  va_get (C := RX10) (T := TX10) (N := 7) S.1 S.2.1 S.2.2.2.2 hin_RX10 S.2.2.2.1 hK.1 hP q0 he rfl 2 (by decide) (S.2.2.2.2 _ (wT_tab 189 rfl rfl)) (fun _ h9 => h9) hv hdg kk
set_option maxRecDepth 100000 in
theorem kS_RX10_54 : CalS RX10 54 yX7_at cX7_at 2 (some .int) 2 := ⟨⟨wT_tab 840 rfl rfl, wT_tab 500 rfl rfl, wT_tab 7 rfl rfl, wT_tab 501 rfl rfl⟩, ⟨by decide, by decide, by decide +kernel⟩⟩
set_option maxRecDepth 100000 in
theorem gf_RX10_21 {p : Program} {l : Launch} {e : Env} {R : Room} {s : State} {m : MethodId} {args : Array Value} {below : List Frame} {meth : Method} {c : Code} {H : Heap} {locs : List Loc} {cells slots : Nat} {Q : State → Prop} {cc : ByteArray} {nL pc : Nat} {D : va_G} {cI cB cZ : ClassId} {ws : va_W} {rest : List Value} {ls : Array Slot} {a : Nat} {fs : List Value} {v : Value} (S : SF p m c cc nL s args RX10) (hK : KK D cI cB cZ s) (hP : va_P D vwCl ws H) (q0 : Nat) (he : ws[q0]? = some (a, .inr (11, fs))) (hv : fs[3]? = some v) (hdg : decode cc pc = .ok (.getfield 21, 3)) (kk : W p l e R s m args below meth c H locs cells slots Q (F0 m (pc + 3) ls (v :: rest))) : W p l e R s m args below meth c H locs cells slots Q (F0 m pc ls (.ref a :: rest)) :=
  va_get (C := RX10) (T := TX10) (N := 7) S.1 S.2.1 S.2.2.2.2 hin_RX10 S.2.2.2.1 hK.1 hP q0 he rfl 3 (by decide) (S.2.2.2.2 _ (wT_tab 190 rfl rfl)) (fun _ h9 => h9) hv hdg kk
set_option maxRecDepth 100000 in
theorem kS_RX10_58 : CalS RX10 58 yX10_way cX10_way 4 (some .int) 4 := ⟨⟨wT_tab 841 rfl rfl, wT_tab 842 rfl rfl, wT_tab 9 rfl rfl, wT_tab 843 rfl rfl⟩, ⟨by decide, by decide, by decide +kernel⟩⟩
set_option maxRecDepth 100000 in
theorem gf_RX10_36 {p : Program} {l : Launch} {e : Env} {R : Room} {s : State} {m : MethodId} {args : Array Value} {below : List Frame} {meth : Method} {c : Code} {H : Heap} {locs : List Loc} {cells slots : Nat} {Q : State → Prop} {cc : ByteArray} {nL pc : Nat} {D : va_G} {cI cB cZ : ClassId} {ws : va_W} {rest : List Value} {ls : Array Slot} {a : Nat} {fs : List Value} {v : Value} (S : SF p m c cc nL s args RX10) (hK : KK D cI cB cZ s) (hP : va_P D vwCl ws H) (q0 : Nat) (he : ws[q0]? = some (a, .inr (11, fs))) (hv : fs[6]? = some v) (hdg : decode cc pc = .ok (.getfield 36, 3)) (kk : W p l e R s m args below meth c H locs cells slots Q (F0 m (pc + 3) ls (v :: rest))) : W p l e R s m args below meth c H locs cells slots Q (F0 m pc ls (.ref a :: rest)) :=
  va_get (C := RX10) (T := TX10) (N := 7) S.1 S.2.1 S.2.2.2.2 hin_RX10 S.2.2.2.1 hK.1 hP q0 he rfl 6 (by decide) (S.2.2.2.2 _ (wT_tab 193 rfl rfl)) (fun _ h9 => h9) hv hdg kk
set_option maxRecDepth 100000 in
theorem kV_RX10_66 : CalV RX10 66 yX10_between cX10_between 3 (some .int) 2 := ⟨⟨wT_tab 836 rfl rfl, wT_tab 838 rfl rfl, wT_sel 34 _ rfl rfl rfl, wT_tab 9 rfl rfl, wT_tab 839 rfl rfl⟩, ⟨by decide, by decide, by decide +kernel⟩⟩
set_option maxRecDepth 100000 in
theorem gf_RX10_27 {p : Program} {l : Launch} {e : Env} {R : Room} {s : State} {m : MethodId} {args : Array Value} {below : List Frame} {meth : Method} {c : Code} {H : Heap} {locs : List Loc} {cells slots : Nat} {Q : State → Prop} {cc : ByteArray} {nL pc : Nat} {D : va_G} {cI cB cZ : ClassId} {ws : va_W} {rest : List Value} {ls : Array Slot} {a : Nat} {fs : List Value} {v : Value} (S : SF p m c cc nL s args RX10) (hK : KK D cI cB cZ s) (hP : va_P D vwCl ws H) (q0 : Nat) (he : ws[q0]? = some (a, .inr (11, fs))) (hv : fs[5]? = some v) (hdg : decode cc pc = .ok (.getfield 27, 3)) (kk : W p l e R s m args below meth c H locs cells slots Q (F0 m (pc + 3) ls (v :: rest))) : W p l e R s m args below meth c H locs cells slots Q (F0 m pc ls (.ref a :: rest)) :=
  va_get (C := RX10) (T := TX10) (N := 7) S.1 S.2.1 S.2.2.2.2 hin_RX10 S.2.2.2.1 hK.1 hP q0 he rfl 5 (by decide) (S.2.2.2.2 _ (wT_tab 192 rfl rfl)) (fun _ h9 => h9) hv hdg kk
set_option maxRecDepth 100000 in
theorem kV_RX10_62 : CalV RX10 62 yX10_shortest cX10_shortest 6 (some .int) 2 := ⟨⟨wT_tab 828 rfl rfl, wT_tab 830 rfl rfl, wT_sel 32 _ rfl rfl rfl, wT_tab 9 rfl rfl, wT_tab 831 rfl rfl⟩, ⟨by decide, by decide, by decide +kernel⟩⟩
set_option maxRecDepth 100000 in
theorem kS_RX10_40 : CalS RX10 40 yX7_put cX7_put 3 none 3 := ⟨⟨wT_tab 823 rfl rfl, wT_tab 503 rfl rfl, wT_tab 7 rfl rfl, wT_tab 504 rfl rfl⟩, ⟨by decide, by decide, by decide +kernel⟩⟩
set_option maxRecDepth 100000 in
theorem pf_RX10_36 {p : Program} {l : Launch} {e : Env} {R : Room} {s : State} {m : MethodId} {args : Array Value} {below : List Frame} {meth : Method} {c : Code} {H : Heap} {locs : List Loc} {cells slots : Nat} {Q : State → Prop} {cc : ByteArray} {nL pc : Nat} {D : va_G} {cI cB cZ : ClassId} {ws : va_W} {rest : List Value} {ls : Array Slot} {a : Nat} {fs : List Value} {v : Value} {A : Nat → Prop} {H0 : Heap} (S : SF p m c cc nL s args RX10) (hK : KK D cI cB cZ s) (hP : va_P D vwCl ws H) (hD : va_D A ws) (hS : va_S A H0 H locs) (q0 : Nat) (he : ws[q0]? = some (a, .inr (11, fs))) (hl : 6 < fs.length) (hn : narrow (tyX10 6) v = v) (hfit : fits (tyX10 6) v = true) (hdg : decode cc pc = .ok (.putfield 36, 3)) (kk : ∀ (H1 : Heap) (locs1 : List Loc), va_P D vwCl (ws.set q0 (a, .inr (11, fs.set 6 v))) H1 → va_D A (ws.set q0 (a, .inr (11, fs.set 6 v))) → va_S A H0 H1 locs1 → W p l e R s m args below meth c H1 locs1 cells slots Q (F0 m (pc + 3) ls rest)) : W p l e R s m args below meth c H locs cells slots Q (F0 m pc ls (v :: .ref a :: rest)) :=
  va_put (C := RX10) (T := TX10) (N := 7) S.1 S.2.1 S.2.2.2.2 hin_RX10 tyX10 tyX10_ok nmX10 S.2.2.2.1 hK.1 hP hD hS q0 he rfl 6 (by decide) (S.2.2.2.2 _ (wT_tab 193 rfl rfl)) (fun _ h9 => h9) rfl (tyX10_ok 6 (by decide)) hn hfit hl hdg kk
set_option maxRecDepth 100000 in
theorem kV_RX10_73 : CalV RX10 73 yX10_lengthOf cX10_lengthOf 2 (some .int) 1 := ⟨⟨wT_tab 851 rfl rfl, wT_tab 852 rfl rfl, wT_tab 853 rfl rfl, wT_tab 9 rfl rfl, wT_tab 854 rfl rfl⟩, ⟨by decide, by decide, by decide +kernel⟩⟩
set_option maxRecDepth 100000 in
theorem gf_RX11_54 {p : Program} {l : Launch} {e : Env} {R : Room} {s : State} {m : MethodId} {args : Array Value} {below : List Frame} {meth : Method} {c : Code} {H : Heap} {locs : List Loc} {cells slots : Nat} {Q : State → Prop} {cc : ByteArray} {nL pc : Nat} {D : va_G} {cI cB cZ : ClassId} {ws : va_W} {rest : List Value} {ls : Array Slot} {a : Nat} {fs : List Value} {v : Value} (S : SF p m c cc nL s args RX11) (hK : KK D cI cB cZ s) (hP : va_P D vwCl ws H) (q0 : Nat) (he : ws[q0]? = some (a, .inr (12, fs))) (hv : fs[9]? = some v) (hdg : decode cc pc = .ok (.getfield 54, 3)) (kk : W p l e R s m args below meth c H locs cells slots Q (F0 m (pc + 3) ls (v :: rest))) : W p l e R s m args below meth c H locs cells slots Q (F0 m pc ls (.ref a :: rest)) :=
  va_get (C := RX11) (T := TX11) (N := 16) S.1 S.2.1 S.2.2.2.2 hin_RX11 S.2.2.2.1 hK.1 hP q0 he rfl 9 (by decide) (S.2.2.2.2 _ (wT_tab 245 rfl rfl)) (fun _ h9 => h9) hv hdg kk
set_option maxRecDepth 100000 in
theorem kV_RX11_266 : CalV RX11 266 yX10_clear cX10_clear 1 none 0 := ⟨⟨wT_tab 815 rfl rfl, wT_tab 816 rfl rfl, wT_tab 817 rfl rfl, wT_tab 9 rfl rfl, wT_tab 818 rfl rfl⟩, ⟨by decide, by decide, by decide +kernel⟩⟩
set_option maxRecDepth 100000 in
theorem kV_RX11_273 : CalV RX11 273 yX10_solve cX10_solve 3 none 0 := ⟨⟨wT_tab 824 rfl rfl, wT_tab 825 rfl rfl, wT_tab 826 rfl rfl, wT_tab 9 rfl rfl, wT_tab 827 rfl rfl⟩, ⟨by decide, by decide, by decide +kernel⟩⟩
theorem dX11_within_0 : decode cX11_within 0 = .ok (.iload_n 0, 1) := by decide +kernel
theorem dX11_within_1 : decode cX11_within 1 = .ok (.iload_n 1, 1) := by decide +kernel
theorem dX11_within_2 : decode cX11_within 2 = .ok (.if_icmp .lt 12, 3) := by decide +kernel
theorem dX11_within_14 : decode cX11_within 14 = .ok (.iconst 0, 1) := by decide +kernel
theorem dX11_within_15 : decode cX11_within 15 = .ok (.ireturn, 1) := by decide +kernel
theorem dX11_within_5 : decode cX11_within 5 = .ok (.iload_n 0, 1) := by decide +kernel
theorem dX11_within_6 : decode cX11_within 6 = .ok (.iload_n 2, 1) := by decide +kernel
theorem dX11_within_7 : decode cX11_within 7 = .ok (.if_icmp .gt 7, 3) := by decide +kernel
theorem dX11_within_10 : decode cX11_within 10 = .ok (.iconst 1, 1) := by decide +kernel
theorem dX11_within_11 : decode cX11_within 11 = .ok (.goto 4, 3) := by decide +kernel
theorem dX11_isDay_0 : decode cX11_isDay 0 = .ok (.iload_n 0, 1) := by decide +kernel
theorem dX11_isDay_1 : decode cX11_isDay 1 = .ok (.iconst 0, 1) := by decide +kernel
theorem dX11_isDay_2 : decode cX11_isDay 2 = .ok (.sipush 399, 3) := by decide +kernel
theorem dX11_isDay_5 : decode cX11_isDay 5 = .ok (.invokestatic 80, 3) := by decide +kernel
theorem dX11_isDay_8 : decode cX11_isDay 8 = .ok (.ireturn, 1) := by decide +kernel
theorem dJx4a65c_size_8abf5_0 : decode cJx4a65c_size_8abf5 0 = .ok (.aload_n 0, 1) := by decide +kernel
theorem dJx4a65c_size_8abf5_1 : decode cJx4a65c_size_8abf5 1 = .ok (.getfield 48, 3) := by decide +kernel
theorem dJx4a65c_size_8abf5_4 : decode cJx4a65c_size_8abf5 4 = .ok (.ireturn, 1) := by decide +kernel
theorem dX7_at_0 : decode cX7_at 0 = .ok (.iload_n 1, 1) := by decide +kernel
theorem dX7_at_1 : decode cX7_at 1 = .ok (.ifCond .lt 9, 3) := by decide +kernel
theorem dX7_at_10 : decode cX7_at 10 = .ok (.iconst 0, 1) := by decide +kernel
theorem dX7_at_11 : decode cX7_at 11 = .ok (.goto 6, 3) := by decide +kernel
theorem dX7_at_17 : decode cX7_at 17 = .ok (.ireturn, 1) := by decide +kernel
theorem dX7_at_4 : decode cX7_at 4 = .ok (.iload_n 1, 1) := by decide +kernel
theorem dX7_at_5 : decode cX7_at 5 = .ok (.aload_n 0, 1) := by decide +kernel
theorem dX7_at_6 : decode cX7_at 6 = .ok (.arraylength, 1) := by decide +kernel
theorem dX7_at_7 : decode cX7_at 7 = .ok (.if_icmp .lt 7, 3) := by decide +kernel
theorem dX7_at_14 : decode cX7_at 14 = .ok (.aload_n 0, 1) := by decide +kernel
theorem dX7_at_15 : decode cX7_at 15 = .ok (.iload_n 1, 1) := by decide +kernel
theorem dX7_at_16 : decode cX7_at 16 = .ok (.iaload, 1) := by decide +kernel
theorem dX7_put_0 : decode cX7_put 0 = .ok (.iload_n 1, 1) := by decide +kernel
theorem dX7_put_1 : decode cX7_put 1 = .ok (.ifCond .lt 13, 3) := by decide +kernel
theorem dX7_put_14 : decode cX7_put 14 = .ok (.return_, 1) := by decide +kernel
theorem dX7_put_4 : decode cX7_put 4 = .ok (.iload_n 1, 1) := by decide +kernel
theorem dX7_put_5 : decode cX7_put 5 = .ok (.aload_n 0, 1) := by decide +kernel
theorem dX7_put_6 : decode cX7_put 6 = .ok (.arraylength, 1) := by decide +kernel
theorem dX7_put_7 : decode cX7_put 7 = .ok (.if_icmp .ge 7, 3) := by decide +kernel
theorem dX7_put_10 : decode cX7_put 10 = .ok (.aload_n 0, 1) := by decide +kernel
theorem dX7_put_11 : decode cX7_put 11 = .ok (.iload_n 1, 1) := by decide +kernel
theorem dX7_put_12 : decode cX7_put 12 = .ok (.iload_n 2, 1) := by decide +kernel
theorem dX7_put_13 : decode cX7_put 13 = .ok (.iastore, 1) := by decide +kernel
theorem dX7_tell_0 : decode cX7_tell 0 = .ok (.iload_n 1, 1) := by decide +kernel
theorem dX7_tell_1 : decode cX7_tell 1 = .ok (.ifCond .lt 20, 3) := by decide +kernel
theorem dX7_tell_21 : decode cX7_tell 21 = .ok (.iconst 0, 1) := by decide +kernel
theorem dX7_tell_22 : decode cX7_tell 22 = .ok (.ireturn, 1) := by decide +kernel
theorem dX7_tell_4 : decode cX7_tell 4 = .ok (.iload_n 1, 1) := by decide +kernel
theorem dX7_tell_5 : decode cX7_tell 5 = .ok (.aload_n 0, 1) := by decide +kernel
theorem dX7_tell_6 : decode cX7_tell 6 = .ok (.arraylength, 1) := by decide +kernel
theorem dX7_tell_7 : decode cX7_tell 7 = .ok (.if_icmp .ge 14, 3) := by decide +kernel
theorem dX7_tell_10 : decode cX7_tell 10 = .ok (.iload_n 2, 1) := by decide +kernel
theorem dX7_tell_11 : decode cX7_tell 11 = .ok (.iload_n 3, 1) := by decide +kernel
theorem dX7_tell_12 : decode cX7_tell 12 = .ok (.if_icmp .lt 9, 3) := by decide +kernel
theorem dX7_tell_15 : decode cX7_tell 15 = .ok (.iload_n 2, 1) := by decide +kernel
theorem dX7_tell_16 : decode cX7_tell 16 = .ok (.iload 4, 2) := by decide +kernel
theorem dX7_tell_18 : decode cX7_tell 18 = .ok (.if_icmp .le 5, 3) := by decide +kernel
theorem dX7_tell_23 : decode cX7_tell 23 = .ok (.aload_n 0, 1) := by decide +kernel
theorem dX7_tell_24 : decode cX7_tell 24 = .ok (.iload_n 1, 1) := by decide +kernel
theorem dX7_tell_25 : decode cX7_tell 25 = .ok (.iload_n 2, 1) := by decide +kernel
theorem dX7_tell_26 : decode cX7_tell 26 = .ok (.iastore, 1) := by decide +kernel
theorem dX7_tell_27 : decode cX7_tell 27 = .ok (.iconst 1, 1) := by decide +kernel
theorem dX7_tell_28 : decode cX7_tell 28 = .ok (.ireturn, 1) := by decide +kernel
theorem dX11_kitchenAt_0 : decode cX11_kitchenAt 0 = .ok (.iload_n 1, 1) := by decide +kernel
theorem dX11_kitchenAt_1 : decode cX11_kitchenAt 1 = .ok (.ifCond .lt 14, 3) := by decide +kernel
theorem dX11_kitchenAt_15 : decode cX11_kitchenAt 15 = .ok (.aconst_null, 1) := by decide +kernel
theorem dX11_kitchenAt_16 : decode cX11_kitchenAt 16 = .ok (.goto 14, 3) := by decide +kernel
theorem dX11_kitchenAt_30 : decode cX11_kitchenAt 30 = .ok (.areturn, 1) := by decide +kernel
theorem dX11_kitchenAt_4 : decode cX11_kitchenAt 4 = .ok (.iload_n 1, 1) := by decide +kernel
theorem dX11_kitchenAt_5 : decode cX11_kitchenAt 5 = .ok (.aload_n 0, 1) := by decide +kernel
theorem dX11_kitchenAt_6 : decode cX11_kitchenAt 6 = .ok (.getfield 61, 3) := by decide +kernel
theorem dX11_kitchenAt_9 : decode cX11_kitchenAt 9 = .ok (.invokevirtual 84, 3) := by decide +kernel
theorem dX11_kitchenAt_12 : decode cX11_kitchenAt 12 = .ok (.if_icmp .lt 7, 3) := by decide +kernel
theorem dX11_loadAt_0 : decode cX11_loadAt 0 = .ok (.iload_n 1, 1) := by decide +kernel
theorem dX11_loadAt_1 : decode cX11_loadAt 1 = .ok (.ifCond .lt 14, 3) := by decide +kernel
theorem dX11_loadAt_15 : decode cX11_loadAt 15 = .ok (.aconst_null, 1) := by decide +kernel
theorem dX11_loadAt_16 : decode cX11_loadAt 16 = .ok (.goto 14, 3) := by decide +kernel
theorem dX11_loadAt_30 : decode cX11_loadAt 30 = .ok (.areturn, 1) := by decide +kernel
theorem dX11_loadAt_4 : decode cX11_loadAt 4 = .ok (.iload_n 1, 1) := by decide +kernel
theorem dX11_loadAt_5 : decode cX11_loadAt 5 = .ok (.aload_n 0, 1) := by decide +kernel
theorem dX11_loadAt_6 : decode cX11_loadAt 6 = .ok (.getfield 65, 3) := by decide +kernel
theorem dX11_loadAt_9 : decode cX11_loadAt 9 = .ok (.invokevirtual 84, 3) := by decide +kernel
theorem dX11_loadAt_12 : decode cX11_loadAt 12 = .ok (.if_icmp .lt 7, 3) := by decide +kernel
theorem dX11_batchAt_0 : decode cX11_batchAt 0 = .ok (.iload_n 1, 1) := by decide +kernel
theorem dX11_batchAt_1 : decode cX11_batchAt 1 = .ok (.ifCond .lt 14, 3) := by decide +kernel
theorem dX11_batchAt_15 : decode cX11_batchAt 15 = .ok (.aconst_null, 1) := by decide +kernel
theorem dX11_batchAt_16 : decode cX11_batchAt 16 = .ok (.goto 14, 3) := by decide +kernel
theorem dX11_batchAt_30 : decode cX11_batchAt 30 = .ok (.areturn, 1) := by decide +kernel
theorem dX11_batchAt_4 : decode cX11_batchAt 4 = .ok (.iload_n 1, 1) := by decide +kernel
theorem dX11_batchAt_5 : decode cX11_batchAt 5 = .ok (.aload_n 0, 1) := by decide +kernel
theorem dX11_batchAt_6 : decode cX11_batchAt 6 = .ok (.getfield 68, 3) := by decide +kernel
theorem dX11_batchAt_9 : decode cX11_batchAt 9 = .ok (.invokevirtual 84, 3) := by decide +kernel
theorem dX11_batchAt_12 : decode cX11_batchAt 12 = .ok (.if_icmp .lt 7, 3) := by decide +kernel
theorem dX11_proofAt_0 : decode cX11_proofAt 0 = .ok (.iload_n 1, 1) := by decide +kernel
theorem dX11_proofAt_1 : decode cX11_proofAt 1 = .ok (.ifCond .lt 14, 3) := by decide +kernel
theorem dX11_proofAt_15 : decode cX11_proofAt 15 = .ok (.aconst_null, 1) := by decide +kernel
theorem dX11_proofAt_16 : decode cX11_proofAt 16 = .ok (.goto 14, 3) := by decide +kernel
theorem dX11_proofAt_30 : decode cX11_proofAt 30 = .ok (.areturn, 1) := by decide +kernel
theorem dX11_proofAt_4 : decode cX11_proofAt 4 = .ok (.iload_n 1, 1) := by decide +kernel
theorem dX11_proofAt_5 : decode cX11_proofAt 5 = .ok (.aload_n 0, 1) := by decide +kernel
theorem dX11_proofAt_6 : decode cX11_proofAt 6 = .ok (.getfield 71, 3) := by decide +kernel
theorem dX11_proofAt_9 : decode cX11_proofAt 9 = .ok (.invokevirtual 84, 3) := by decide +kernel
theorem dX11_proofAt_12 : decode cX11_proofAt 12 = .ok (.if_icmp .lt 7, 3) := by decide +kernel
theorem dX8_length_0 : decode cX8_length 0 = .ok (.aload_n 0, 1) := by decide +kernel
theorem dX8_length_1 : decode cX8_length 1 = .ok (.getfield 13, 3) := by decide +kernel
theorem dX8_length_4 : decode cX8_length 4 = .ok (.ireturn, 1) := by decide +kernel
theorem dX11_isText_0 : decode cX11_isText 0 = .ok (.iload_n 1, 1) := by decide +kernel
theorem dX11_isText_1 : decode cX11_isText 1 = .ok (.iconst 1, 1) := by decide +kernel
theorem dX11_isText_2 : decode cX11_isText 2 = .ok (.sipush 160, 3) := by decide +kernel
theorem dX11_isText_5 : decode cX11_isText 5 = .ok (.invokestatic 80, 3) := by decide +kernel
theorem dX11_isText_8 : decode cX11_isText 8 = .ok (.ifCond .eq 18, 3) := by decide +kernel
theorem dX11_isText_11 : decode cX11_isText 11 = .ok (.iload_n 1, 1) := by decide +kernel
theorem dX11_isText_12 : decode cX11_isText 12 = .ok (.aload_n 0, 1) := by decide +kernel
theorem dX11_isText_13 : decode cX11_isText 13 = .ok (.getfield 21, 3) := by decide +kernel
theorem dX11_isText_16 : decode cX11_isText 16 = .ok (.invokevirtual 152, 3) := by decide +kernel
theorem dX11_isText_19 : decode cX11_isText 19 = .ok (.if_icmp .gt 7, 3) := by decide +kernel
theorem dX11_isText_26 : decode cX11_isText 26 = .ok (.iconst 0, 1) := by decide +kernel
theorem dX11_isText_27 : decode cX11_isText 27 = .ok (.ireturn, 1) := by decide +kernel
theorem dX11_choose_0 : decode cX11_choose 0 = .ok (.iload_n 1, 1) := by decide +kernel
theorem dX11_choose_1 : decode cX11_choose 1 = .ok (.ifCond .lt 8, 3) := by decide +kernel
theorem dX11_choose_4 : decode cX11_choose 4 = .ok (.iload_n 1, 1) := by decide +kernel
theorem dX11_choose_5 : decode cX11_choose 5 = .ok (.iload_n 0, 1) := by decide +kernel
theorem dX11_choose_6 : decode cX11_choose 6 = .ok (.if_icmp .le 5, 3) := by decide +kernel
theorem dX11_choose_11 : decode cX11_choose 11 = .ok (.lconst 1, 1) := by decide +kernel
theorem dX11_choose_12 : decode cX11_choose 12 = .ok (.lstore_n 2, 1) := by decide +kernel
theorem dX11_choose_13 : decode cX11_choose 13 = .ok (.iload_n 1, 1) := by decide +kernel
theorem dX11_choose_14 : decode cX11_choose 14 = .ok (.iload_n 0, 1) := by decide +kernel
theorem dX11_choose_15 : decode cX11_choose 15 = .ok (.iload_n 1, 1) := by decide +kernel
theorem dX11_choose_16 : decode cX11_choose 16 = .ok (.isub, 1) := by decide +kernel
theorem dX11_choose_17 : decode cX11_choose 17 = .ok (.invokestatic 227, 3) := by decide +kernel
theorem dX11_choose_20 : decode cX11_choose 20 = .ok (.istore 4, 2) := by decide +kernel
theorem dX11_choose_22 : decode cX11_choose 22 = .ok (.iconst 0, 1) := by decide +kernel
theorem dX11_choose_23 : decode cX11_choose 23 = .ok (.istore 5, 2) := by decide +kernel
theorem dX11_choose_25 : decode cX11_choose 25 = .ok (.iload 5, 2) := by decide +kernel
theorem dX11_choose_27 : decode cX11_choose 27 = .ok (.iload 4, 2) := by decide +kernel
theorem dX11_choose_29 : decode cX11_choose 29 = .ok (.if_icmp .ge 23, 3) := by decide +kernel
theorem dX11_choose_52 : decode cX11_choose 52 = .ok (.lload_n 2, 1) := by decide +kernel
theorem dX11_choose_53 : decode cX11_choose 53 = .ok (.lreturn, 1) := by decide +kernel
theorem dX11_divisor_0 : decode cX11_divisor 0 = .ok (.iconst 0, 1) := by decide +kernel
theorem dX11_divisor_1 : decode cX11_divisor 1 = .ok (.istore 4, 2) := by decide +kernel
theorem dX11_divisor_3 : decode cX11_divisor 3 = .ok (.iload 4, 2) := by decide +kernel
theorem dX11_divisor_5 : decode cX11_divisor 5 = .ok (.sipush 200, 3) := by decide +kernel
theorem dX11_divisor_8 : decode cX11_divisor 8 = .ok (.if_icmp .ge 25, 3) := by decide +kernel
theorem dX11_divisor_11 : decode cX11_divisor 11 = .ok (.lload_n 2, 1) := by decide +kernel
theorem dX11_divisor_12 : decode cX11_divisor 12 = .ok (.lconst 0, 1) := by decide +kernel
theorem dX11_divisor_13 : decode cX11_divisor 13 = .ok (.lcmp, 1) := by decide +kernel
theorem dX11_divisor_14 : decode cX11_divisor 14 = .ok (.ifCond .eq 19, 3) := by decide +kernel
theorem dX11_divisor_17 : decode cX11_divisor 17 = .ok (.lload_n 0, 1) := by decide +kernel
theorem dX11_divisor_18 : decode cX11_divisor 18 = .ok (.lload_n 2, 1) := by decide +kernel
theorem dX11_divisor_19 : decode cX11_divisor 19 = .ok (.lrem, 1) := by decide +kernel
theorem dX11_divisor_20 : decode cX11_divisor 20 = .ok (.lstore 5, 2) := by decide +kernel
theorem dX11_divisor_22 : decode cX11_divisor 22 = .ok (.lload_n 2, 1) := by decide +kernel
theorem dX11_divisor_23 : decode cX11_divisor 23 = .ok (.lstore_n 0, 1) := by decide +kernel
theorem dX11_divisor_24 : decode cX11_divisor 24 = .ok (.lload 5, 2) := by decide +kernel
theorem dX11_divisor_26 : decode cX11_divisor 26 = .ok (.lstore_n 2, 1) := by decide +kernel
theorem dX11_divisor_27 : decode cX11_divisor 27 = .ok (.iinc 4 1, 3) := by decide +kernel
theorem dX11_divisor_30 : decode cX11_divisor 30 = .ok (.goto (-27), 3) := by decide +kernel
theorem dX11_divisor_33 : decode cX11_divisor 33 = .ok (.lload_n 0, 1) := by decide +kernel
theorem dX11_divisor_34 : decode cX11_divisor 34 = .ok (.lreturn, 1) := by decide +kernel
theorem dX11_odds_0 : decode cX11_odds 0 = .ok (.iload 4, 2) := by decide +kernel
theorem dX11_odds_2 : decode cX11_odds 2 = .ok (.iconst 2, 1) := by decide +kernel
theorem dX11_odds_3 : decode cX11_odds 3 = .ok (.if_icmp .ne 6, 3) := by decide +kernel
theorem dX11_odds_9 : decode cX11_odds 9 = .ok (.lconst 0, 1) := by decide +kernel
theorem dX11_odds_10 : decode cX11_odds 10 = .ok (.lstore 5, 2) := by decide +kernel
theorem dX11_odds_12 : decode cX11_odds 12 = .ok (.iload_n 2, 1) := by decide +kernel
theorem dX11_odds_13 : decode cX11_odds 13 = .ok (.istore 7, 2) := by decide +kernel
theorem dX11_odds_15 : decode cX11_odds 15 = .ok (.iload 7, 2) := by decide +kernel
theorem dX11_odds_17 : decode cX11_odds 17 = .ok (.iload_n 1, 1) := by decide +kernel
theorem dX11_odds_18 : decode cX11_odds 18 = .ok (.if_icmp .gt 37, 3) := by decide +kernel
theorem dX11_odds_21 : decode cX11_odds 21 = .ok (.iload 7, 2) := by decide +kernel
theorem dX11_odds_23 : decode cX11_odds 23 = .ok (.iload_n 0, 1) := by decide +kernel
theorem dX11_odds_24 : decode cX11_odds 24 = .ok (.if_icmp .gt 31, 3) := by decide +kernel
theorem dX11_odds_27 : decode cX11_odds 27 = .ok (.lload 5, 2) := by decide +kernel
theorem dX11_odds_29 : decode cX11_odds 29 = .ok (.iload_n 0, 1) := by decide +kernel
theorem dX11_odds_30 : decode cX11_odds 30 = .ok (.iload 7, 2) := by decide +kernel
theorem dX11_odds_32 : decode cX11_odds 32 = .ok (.invokestatic 246, 3) := by decide +kernel
theorem dX11_odds_35 : decode cX11_odds 35 = .ok (.iload_n 3, 1) := by decide +kernel
theorem dX11_odds_36 : decode cX11_odds 36 = .ok (.iload_n 0, 1) := by decide +kernel
theorem dX11_odds_37 : decode cX11_odds 37 = .ok (.isub, 1) := by decide +kernel
theorem dX11_odds_38 : decode cX11_odds 38 = .ok (.iload_n 1, 1) := by decide +kernel
theorem dX11_odds_39 : decode cX11_odds 39 = .ok (.iload 7, 2) := by decide +kernel
theorem dX11_odds_41 : decode cX11_odds 41 = .ok (.isub, 1) := by decide +kernel
theorem dX11_odds_42 : decode cX11_odds 42 = .ok (.invokestatic 246, 3) := by decide +kernel
theorem dX11_odds_45 : decode cX11_odds 45 = .ok (.lmul, 1) := by decide +kernel
theorem dX11_odds_46 : decode cX11_odds 46 = .ok (.ladd, 1) := by decide +kernel
theorem dX11_odds_47 : decode cX11_odds 47 = .ok (.lstore 5, 2) := by decide +kernel
theorem dX11_odds_49 : decode cX11_odds 49 = .ok (.iinc 7 1, 3) := by decide +kernel
theorem dX11_odds_52 : decode cX11_odds 52 = .ok (.goto (-37), 3) := by decide +kernel
theorem dX11_odds_55 : decode cX11_odds 55 = .ok (.iload_n 3, 1) := by decide +kernel
theorem dX11_odds_56 : decode cX11_odds 56 = .ok (.iload_n 1, 1) := by decide +kernel
theorem dX11_odds_57 : decode cX11_odds 57 = .ok (.invokestatic 246, 3) := by decide +kernel
theorem dX11_odds_60 : decode cX11_odds 60 = .ok (.lstore 7, 2) := by decide +kernel
theorem dX11_odds_62 : decode cX11_odds 62 = .ok (.lload 5, 2) := by decide +kernel
theorem dX11_odds_64 : decode cX11_odds 64 = .ok (.lload 7, 2) := by decide +kernel
theorem dX11_odds_66 : decode cX11_odds 66 = .ok (.invokestatic 250, 3) := by decide +kernel
theorem dX11_odds_69 : decode cX11_odds 69 = .ok (.lstore 9, 2) := by decide +kernel
theorem dX11_odds_71 : decode cX11_odds 71 = .ok (.lload 9, 2) := by decide +kernel
theorem dX11_odds_73 : decode cX11_odds 73 = .ok (.lconst 0, 1) := by decide +kernel
theorem dX11_odds_74 : decode cX11_odds 74 = .ok (.lcmp, 1) := by decide +kernel
theorem dX11_odds_75 : decode cX11_odds 75 = .ok (.ifCond .ne 7, 3) := by decide +kernel
theorem dX11_odds_82 : decode cX11_odds 82 = .ok (.iload 4, 2) := by decide +kernel
theorem dX11_odds_84 : decode cX11_odds 84 = .ok (.ifCond .ne 11, 3) := by decide +kernel
theorem dX11_odds_95 : decode cX11_odds 95 = .ok (.lload 7, 2) := by decide +kernel
theorem dX11_odds_97 : decode cX11_odds 97 = .ok (.lload 9, 2) := by decide +kernel
theorem dX11_odds_99 : decode cX11_odds 99 = .ok (.ldiv, 1) := by decide +kernel
theorem dX11_odds_100 : decode cX11_odds 100 = .ok (.lreturn, 1) := by decide +kernel
theorem dX11_odds_87 : decode cX11_odds 87 = .ok (.lload 5, 2) := by decide +kernel
theorem dX11_odds_89 : decode cX11_odds 89 = .ok (.lload 9, 2) := by decide +kernel
theorem dX11_odds_91 : decode cX11_odds 91 = .ok (.ldiv, 1) := by decide +kernel
theorem dX11_odds_92 : decode cX11_odds 92 = .ok (.goto 8, 3) := by decide +kernel
theorem dX11_odds_6 : decode cX11_odds 6 = .ok (.iload_n 2, 1) := by decide +kernel
theorem dX11_odds_7 : decode cX11_odds 7 = .ok (.i2l, 1) := by decide +kernel
theorem dX11_odds_8 : decode cX11_odds 8 = .ok (.lreturn, 1) := by decide +kernel
theorem dX11_startTrial_0 : decode cX11_startTrial 0 = .ok (.iconst 0, 1) := by decide +kernel
theorem dX11_startTrial_1 : decode cX11_startTrial 1 = .ok (.istore_n 2, 1) := by decide +kernel
theorem dX11_startTrial_2 : decode cX11_startTrial 2 = .ok (.iconst 0, 1) := by decide +kernel
theorem dX11_startTrial_3 : decode cX11_startTrial 3 = .ok (.istore_n 3, 1) := by decide +kernel
theorem dX11_startTrial_4 : decode cX11_startTrial 4 = .ok (.iload_n 3, 1) := by decide +kernel
theorem dX11_startTrial_5 : decode cX11_startTrial 5 = .ok (.aload_n 0, 1) := by decide +kernel
theorem dX11_startTrial_6 : decode cX11_startTrial 6 = .ok (.getfield 61, 3) := by decide +kernel
theorem dX11_startTrial_9 : decode cX11_startTrial 9 = .ok (.invokevirtual 84, 3) := by decide +kernel
theorem dX11_startTrial_12 : decode cX11_startTrial 12 = .ok (.if_icmp .ge 51, 3) := by decide +kernel
theorem dX11_startTrial_63 : decode cX11_startTrial 63 = .ok (.iload_n 2, 1) := by decide +kernel
theorem dX11_startTrial_64 : decode cX11_startTrial 64 = .ok (.ifCond .ne 7, 3) := by decide +kernel
theorem dX11_startTrial_67 : decode cX11_startTrial 67 = .ok (.iconst 1, 1) := by decide +kernel
theorem dX11_startTrial_68 : decode cX11_startTrial 68 = .ok (.goto 4, 3) := by decide +kernel
theorem dX11_startTrial_72 : decode cX11_startTrial 72 = .ok (.ireturn, 1) := by decide +kernel
theorem dX10_way_0 : decode cX10_way 0 = .ok (.iload_n 0, 1) := by decide +kernel
theorem dX10_way_1 : decode cX10_way 1 = .ok (.iload_n 2, 1) := by decide +kernel
theorem dX10_way_2 : decode cX10_way 2 = .ok (.isub, 1) := by decide +kernel
theorem dX10_way_3 : decode cX10_way 3 = .ok (.invokestatic 30, 3) := by decide +kernel
theorem dX10_way_6 : decode cX10_way 6 = .ok (.iload_n 1, 1) := by decide +kernel
theorem dX10_way_7 : decode cX10_way 7 = .ok (.iload_n 3, 1) := by decide +kernel
theorem dX10_way_8 : decode cX10_way 8 = .ok (.isub, 1) := by decide +kernel
theorem dX10_way_9 : decode cX10_way 9 = .ok (.invokestatic 30, 3) := by decide +kernel
theorem dX10_way_12 : decode cX10_way 12 = .ok (.iadd, 1) := by decide +kernel
theorem dX10_way_13 : decode cX10_way 13 = .ok (.ireturn, 1) := by decide +kernel
theorem dX10_between_0 : decode cX10_between 0 = .ok (.aload_n 0, 1) := by decide +kernel
theorem dX10_between_1 : decode cX10_between 1 = .ok (.getfield 18, 3) := by decide +kernel
theorem dX10_between_4 : decode cX10_between 4 = .ok (.iload_n 1, 1) := by decide +kernel
theorem dX10_between_5 : decode cX10_between 5 = .ok (.invokestatic 54, 3) := by decide +kernel
theorem dX10_between_8 : decode cX10_between 8 = .ok (.aload_n 0, 1) := by decide +kernel
theorem dX10_between_9 : decode cX10_between 9 = .ok (.getfield 21, 3) := by decide +kernel
theorem dX10_between_12 : decode cX10_between 12 = .ok (.iload_n 1, 1) := by decide +kernel
theorem dX10_between_13 : decode cX10_between 13 = .ok (.invokestatic 54, 3) := by decide +kernel
theorem dX10_between_16 : decode cX10_between 16 = .ok (.aload_n 0, 1) := by decide +kernel
theorem dX10_between_17 : decode cX10_between 17 = .ok (.getfield 18, 3) := by decide +kernel
theorem dX10_between_20 : decode cX10_between 20 = .ok (.iload_n 2, 1) := by decide +kernel
theorem dX10_between_21 : decode cX10_between 21 = .ok (.invokestatic 54, 3) := by decide +kernel
theorem dX10_between_24 : decode cX10_between 24 = .ok (.aload_n 0, 1) := by decide +kernel
theorem dX10_between_25 : decode cX10_between 25 = .ok (.getfield 21, 3) := by decide +kernel
theorem dX10_between_28 : decode cX10_between 28 = .ok (.iload_n 2, 1) := by decide +kernel
theorem dX10_between_29 : decode cX10_between 29 = .ok (.invokestatic 54, 3) := by decide +kernel
theorem dX10_between_32 : decode cX10_between 32 = .ok (.invokestatic 58, 3) := by decide +kernel
theorem dX10_between_35 : decode cX10_between 35 = .ok (.ireturn, 1) := by decide +kernel
theorem dX10_shortest_0 : decode cX10_shortest 0 = .ok (.iconst (-1), 1) := by decide +kernel
theorem dX10_shortest_1 : decode cX10_shortest 1 = .ok (.istore_n 3, 1) := by decide +kernel
theorem dX10_shortest_2 : decode cX10_shortest 2 = .ok (.iconst 0, 1) := by decide +kernel
theorem dX10_shortest_3 : decode cX10_shortest 3 = .ok (.istore 4, 2) := by decide +kernel
theorem dX10_shortest_5 : decode cX10_shortest 5 = .ok (.iload 4, 2) := by decide +kernel
theorem dX10_shortest_7 : decode cX10_shortest 7 = .ok (.aload_n 0, 1) := by decide +kernel
theorem dX10_shortest_8 : decode cX10_shortest 8 = .ok (.getfield 36, 3) := by decide +kernel
theorem dX10_shortest_11 : decode cX10_shortest 11 = .ok (.if_icmp .ge 46, 3) := by decide +kernel
theorem dX10_shortest_57 : decode cX10_shortest 57 = .ok (.iload_n 3, 1) := by decide +kernel
theorem dX10_shortest_58 : decode cX10_shortest 58 = .ok (.iconst (-1), 1) := by decide +kernel
theorem dX10_shortest_59 : decode cX10_shortest 59 = .ok (.if_icmp .ne 12, 3) := by decide +kernel
theorem dX10_shortest_62 : decode cX10_shortest 62 = .ok (.aload_n 0, 1) := by decide +kernel
theorem dX10_shortest_63 : decode cX10_shortest 63 = .ok (.iload_n 1, 1) := by decide +kernel
theorem dX10_shortest_64 : decode cX10_shortest 64 = .ok (.iconst (-1), 1) := by decide +kernel
theorem dX10_shortest_65 : decode cX10_shortest 65 = .ok (.invokevirtual 66, 3) := by decide +kernel
theorem dX10_shortest_68 : decode cX10_shortest 68 = .ok (.goto 4, 3) := by decide +kernel
theorem dX10_shortest_72 : decode cX10_shortest 72 = .ok (.ireturn, 1) := by decide +kernel
theorem dX10_solve_0 : decode cX10_solve 0 = .ok (.iconst 0, 1) := by decide +kernel
theorem dX10_solve_1 : decode cX10_solve 1 = .ok (.istore_n 1, 1) := by decide +kernel
theorem dX10_solve_2 : decode cX10_solve 2 = .ok (.iload_n 1, 1) := by decide +kernel
theorem dX10_solve_3 : decode cX10_solve 3 = .ok (.iconst 1, 1) := by decide +kernel
theorem dX10_solve_4 : decode cX10_solve 4 = .ok (.aload_n 0, 1) := by decide +kernel
theorem dX10_solve_5 : decode cX10_solve 5 = .ok (.getfield 36, 3) := by decide +kernel
theorem dX10_solve_8 : decode cX10_solve 8 = .ok (.ishl, 1) := by decide +kernel
theorem dX10_solve_9 : decode cX10_solve 9 = .ok (.if_icmp .ge 66, 3) := by decide +kernel
theorem dX10_solve_12 : decode cX10_solve 12 = .ok (.iconst 0, 1) := by decide +kernel
theorem dX10_solve_13 : decode cX10_solve 13 = .ok (.istore_n 2, 1) := by decide +kernel
theorem dX10_solve_14 : decode cX10_solve 14 = .ok (.iload_n 2, 1) := by decide +kernel
theorem dX10_solve_15 : decode cX10_solve 15 = .ok (.aload_n 0, 1) := by decide +kernel
theorem dX10_solve_16 : decode cX10_solve 16 = .ok (.getfield 36, 3) := by decide +kernel
theorem dX10_solve_19 : decode cX10_solve 19 = .ok (.if_icmp .ge 36, 3) := by decide +kernel
theorem dX10_solve_55 : decode cX10_solve 55 = .ok (.aload_n 0, 1) := by decide +kernel
theorem dX10_solve_56 : decode cX10_solve 56 = .ok (.getfield 27, 3) := by decide +kernel
theorem dX10_solve_59 : decode cX10_solve 59 = .ok (.iload_n 1, 1) := by decide +kernel
theorem dX10_solve_60 : decode cX10_solve 60 = .ok (.aload_n 0, 1) := by decide +kernel
theorem dX10_solve_61 : decode cX10_solve 61 = .ok (.iconst (-1), 1) := by decide +kernel
theorem dX10_solve_62 : decode cX10_solve 62 = .ok (.iload_n 1, 1) := by decide +kernel
theorem dX10_solve_63 : decode cX10_solve 63 = .ok (.invokevirtual 62, 3) := by decide +kernel
theorem dX10_solve_66 : decode cX10_solve 66 = .ok (.invokestatic 40, 3) := by decide +kernel
theorem dX10_solve_69 : decode cX10_solve 69 = .ok (.iinc 1 1, 3) := by decide +kernel
theorem dX10_solve_72 : decode cX10_solve 72 = .ok (.goto (-70), 3) := by decide +kernel
theorem dX10_solve_75 : decode cX10_solve 75 = .ok (.return_, 1) := by decide +kernel
theorem dX10_clear_0 : decode cX10_clear 0 = .ok (.aload_n 0, 1) := by decide +kernel
theorem dX10_clear_1 : decode cX10_clear 1 = .ok (.iconst 0, 1) := by decide +kernel
theorem dX10_clear_2 : decode cX10_clear 2 = .ok (.putfield 36, 3) := by decide +kernel
theorem dX10_clear_5 : decode cX10_clear 5 = .ok (.return_, 1) := by decide +kernel
theorem dX10_lengthOf_0 : decode cX10_lengthOf 0 = .ok (.aload_n 0, 1) := by decide +kernel
theorem dX10_lengthOf_1 : decode cX10_lengthOf 1 = .ok (.getfield 27, 3) := by decide +kernel
theorem dX10_lengthOf_4 : decode cX10_lengthOf 4 = .ok (.iload_n 1, 1) := by decide +kernel
theorem dX10_lengthOf_5 : decode cX10_lengthOf 5 = .ok (.invokestatic 54, 3) := by decide +kernel
theorem dX10_lengthOf_8 : decode cX10_lengthOf 8 = .ok (.ireturn, 1) := by decide +kernel
theorem dX10_wholeLength_0 : decode cX10_wholeLength 0 = .ok (.aload_n 0, 1) := by decide +kernel
theorem dX10_wholeLength_1 : decode cX10_wholeLength 1 = .ok (.iconst 1, 1) := by decide +kernel
theorem dX10_wholeLength_2 : decode cX10_wholeLength 2 = .ok (.aload_n 0, 1) := by decide +kernel
theorem dX10_wholeLength_3 : decode cX10_wholeLength 3 = .ok (.getfield 36, 3) := by decide +kernel
theorem dX10_wholeLength_6 : decode cX10_wholeLength 6 = .ok (.ishl, 1) := by decide +kernel
theorem dX10_wholeLength_7 : decode cX10_wholeLength 7 = .ok (.iconst 1, 1) := by decide +kernel
theorem dX10_wholeLength_8 : decode cX10_wholeLength 8 = .ok (.isub, 1) := by decide +kernel
theorem dX10_wholeLength_9 : decode cX10_wholeLength 9 = .ok (.invokevirtual 73, 3) := by decide +kernel
theorem dX10_wholeLength_12 : decode cX10_wholeLength 12 = .ok (.ireturn, 1) := by decide +kernel
theorem dX10_kitchenInRow_0 : decode cX10_kitchenInRow 0 = .ok (.iload_n 1, 1) := by decide +kernel
theorem dX10_kitchenInRow_1 : decode cX10_kitchenInRow 1 = .ok (.ifCond .lt 11, 3) := by decide +kernel
theorem dX10_kitchenInRow_12 : decode cX10_kitchenInRow 12 = .ok (.iconst (-1), 1) := by decide +kernel
theorem dX10_kitchenInRow_13 : decode cX10_kitchenInRow 13 = .ok (.ireturn, 1) := by decide +kernel
theorem dX10_kitchenInRow_4 : decode cX10_kitchenInRow 4 = .ok (.iload_n 1, 1) := by decide +kernel
theorem dX10_kitchenInRow_5 : decode cX10_kitchenInRow 5 = .ok (.aload_n 0, 1) := by decide +kernel
theorem dX10_kitchenInRow_6 : decode cX10_kitchenInRow 6 = .ok (.getfield 36, 3) := by decide +kernel
theorem dX10_kitchenInRow_9 : decode cX10_kitchenInRow 9 = .ok (.if_icmp .lt 5, 3) := by decide +kernel
theorem dX11_gatherStops_0 : decode cX11_gatherStops 0 = .ok (.aload_n 0, 1) := by decide +kernel
theorem dX11_gatherStops_1 : decode cX11_gatherStops 1 = .ok (.getfield 54, 3) := by decide +kernel
theorem dX11_gatherStops_4 : decode cX11_gatherStops 4 = .ok (.invokevirtual 266, 3) := by decide +kernel
theorem dX11_gatherStops_7 : decode cX11_gatherStops 7 = .ok (.iconst 0, 1) := by decide +kernel
theorem dX11_gatherStops_8 : decode cX11_gatherStops 8 = .ok (.istore 4, 2) := by decide +kernel
theorem dX11_gatherStops_10 : decode cX11_gatherStops 10 = .ok (.iload 4, 2) := by decide +kernel
theorem dX11_gatherStops_12 : decode cX11_gatherStops 12 = .ok (.aload_n 0, 1) := by decide +kernel
theorem dX11_gatherStops_13 : decode cX11_gatherStops 13 = .ok (.getfield 61, 3) := by decide +kernel
theorem dX11_gatherStops_16 : decode cX11_gatherStops 16 = .ok (.invokevirtual 84, 3) := by decide +kernel
theorem dX11_gatherStops_19 : decode cX11_gatherStops 19 = .ok (.if_icmp .ge 71, 3) := by decide +kernel
theorem dX11_gatherStops_90 : decode cX11_gatherStops 90 = .ok (.aload_n 0, 1) := by decide +kernel
theorem dX11_gatherStops_91 : decode cX11_gatherStops 91 = .ok (.getfield 54, 3) := by decide +kernel
theorem dX11_gatherStops_94 : decode cX11_gatherStops 94 = .ok (.invokevirtual 273, 3) := by decide +kernel
theorem dX11_gatherStops_97 : decode cX11_gatherStops 97 = .ok (.iconst 1, 1) := by decide +kernel
theorem dX11_gatherStops_98 : decode cX11_gatherStops 98 = .ok (.ireturn, 1) := by decide +kernel
set_option maxRecDepth 100000 in
set_option maxHeartbeats 4000000 in
theorem q_within (l : Launch) (D : va_G) (cI cB cZ : ClassId) (v0 v1 v2 : Int32) : Met l yX11_within (CWS yX11_within cX11_within 3 (some .boolean)) (RM 0 0 0) (PBr [.int v0, .int v1, .int v2] D cI cB cZ []) (vp_Si (fun r => (r = 1 ∧ (v1.toInt ≤ v0.toInt ∧ v0.toInt ≤ v2.toInt)) ∨ (r = 0 ∧ ¬ (v1.toInt ≤ v0.toInt ∧ v0.toInt ≤ v2.toInt)))) 0 0 (fun _ => False) := by
  refine Met.ofW (cc := cX11_within) (maxL := 3) (ret := (some .boolean)) (by decide) rfl ?_
  intro p e s m args below meth c s₁ B hml hv
  obtain ⟨rfl, hP, hK⟩ := hv
  have hx := B.exec
  have hb := B.bytes
  have hr := B.returns
  have hts := atoms_spec (ws := (CWS yX11_within cX11_within 3 (some .boolean))) B.pre
  have hown : s.vm.findClass RX11 = some m.cls := findClass_of_methodNamed B.named
  have hlocks := B.notSynchronized
  have S : SF p m c cX11_within 3 s ([.int v0, .int v1, .int v2]).toArray RX11 := ⟨hx, hb, hml, hown, fun w h => hts w (List.mem_cons_of_mem _ h)⟩
  have hP : va_P D vwCl [] s.heap := hP
  have hl := lv_entry ([.int v0, .int v1, .int v2]) (n := 3) (Nat.le_of_ble_eq_true rfl)
  rw [lg_entry_eq]
  generalize (lg_sl ([.int v0, .int v1, .int v2]) ++ List.replicate (3 - (lg_sl ([.int v0, .int v1, .int v2])).length) Slot.unset).toArray = ls at hl ⊢
  have hl : lv_has ls 3 [(0, .int v0), (1, .int v1), (2, .int v2)] := hl
  refine lv_iload_n hx hb dX11_within_0 rfl (lv_at hl 0 rfl) ?_
  refine lv_iload_n hx hb dX11_within_1 rfl (lv_at hl 1 rfl) ?_
  refine lv_icmp_lt (tgt := 14) hx hb dX11_within_2 (by decide) (fun c_1 => ?_) (fun c_1 => ?_)
  ·
    have tc_1 : (v0.toInt : Int) < v1.toInt := Int32.lt_iff_toInt_lt.mp c_1
    refine lv_iconst (v := 0) hx hb dX11_within_14 (by decide) ?_
    exact W.zret (v := 0) hx hb hr rfl (fun t ht hW => ⟨0, rfl, (Or.inr ⟨rfl, by omega⟩), ht⟩) (fun _ h => absurd h List.not_mem_nil) dX11_within_15
  ·
    have tc_1 : (v1.toInt : Int) ≤ v0.toInt := Int32.le_iff_toInt_le.mp (Int32.not_lt.mp c_1)
    refine lv_iload_n hx hb dX11_within_5 rfl (lv_at hl 0 rfl) ?_
    refine lv_iload_n hx hb dX11_within_6 rfl (lv_at hl 2 rfl) ?_
    refine lv_icmp_gt (tgt := 14) hx hb dX11_within_7 (by decide) (fun c_2 => ?_) (fun c_2 => ?_)
    ·
      have tc_2 : (v2.toInt : Int) < v0.toInt := Int32.lt_iff_toInt_lt.mp c_2
      refine lv_iconst (v := 0) hx hb dX11_within_14 (by decide) ?_
      exact W.zret (v := 0) hx hb hr rfl (fun t ht hW => ⟨0, rfl, (Or.inr ⟨rfl, by omega⟩), ht⟩) (fun _ h => absurd h List.not_mem_nil) dX11_within_15
    ·
      have tc_2 : (v0.toInt : Int) ≤ v2.toInt := Int32.le_iff_toInt_le.mp (Int32.not_lt.mp c_2)
      refine lv_iconst (v := 1) hx hb dX11_within_10 (by decide) ?_
      refine lv_goto (tgt := 15) hx hb dX11_within_11 (by decide) ?_
      exact W.zret (v := 1) hx hb hr rfl (fun t ht hW => ⟨1, rfl, (Or.inl ⟨rfl, by omega⟩), ht⟩) (fun _ h => absurd h List.not_mem_nil) dX11_within_15
set_option maxRecDepth 100000 in
set_option maxHeartbeats 4000000 in
theorem q_isDay (l : Launch) (D : va_G) (cI cB cZ : ClassId) (v0 : Int32) : Met l yX11_isDay (CWS yX11_isDay cX11_isDay 1 (some .boolean)) (RM 1 0 0) (PBr [.int v0] D cI cB cZ []) (vp_Si (fun r => (r = 1 ∧ (0 ≤ v0.toInt ∧ v0.toInt ≤ 399)) ∨ (r = 0 ∧ ¬ (0 ≤ v0.toInt ∧ v0.toInt ≤ 399)))) 0 0 (fun _ => False) := by
  refine Met.ofW (cc := cX11_isDay) (maxL := 1) (ret := (some .boolean)) (by decide) rfl ?_
  intro p e s m args below meth c s₁ B hml hv
  obtain ⟨rfl, hP, hK⟩ := hv
  have hx := B.exec
  have hb := B.bytes
  have hr := B.returns
  have hts := atoms_spec (ws := (CWS yX11_isDay cX11_isDay 1 (some .boolean))) B.pre
  have hown : s.vm.findClass RX11 = some m.cls := findClass_of_methodNamed B.named
  have hlocks := B.notSynchronized
  have S : SF p m c cX11_isDay 1 s ([.int v0]).toArray RX11 := ⟨hx, hb, hml, hown, fun w h => hts w (List.mem_cons_of_mem _ h)⟩
  have hP : va_P D vwCl [] s.heap := hP
  have hl := lv_entry ([.int v0]) (n := 1) (Nat.le_of_ble_eq_true rfl)
  rw [lg_entry_eq]
  generalize (lg_sl ([.int v0]) ++ List.replicate (1 - (lg_sl ([.int v0])).length) Slot.unset).toArray = ls at hl ⊢
  have hl : lv_has ls 1 [(0, .int v0)] := hl
  refine lv_iload_n hx hb dX11_isDay_0 rfl (lv_at hl 0 rfl) ?_
  refine lv_iconst (v := 0) hx hb dX11_isDay_1 (by decide) ?_
  refine lv_sipush (v := 399) hx hb dX11_isDay_2 (by decide) ?_
  refine vp_callSi (runS_r (As := [.int v0, .int 0, .int 399]) (rest := []) S (q_within l D cI cB cZ v0 0 399) kS_RX11_80 hK hP [] rfl ⟨Nat.le_of_ble_eq_true rfl, Nat.le_of_ble_eq_true rfl⟩ ⟨Nat.le_of_ble_eq_true rfl, Nat.le_of_ble_eq_true rfl⟩ rfl hl.1 rfl (Nat.le_of_ble_eq_true rfl) dX11_isDay_5) (fun r_1 h_2 => ?_)
  rcases h_2 with ⟨rfl, h_2⟩ | ⟨rfl, h_2⟩
  ·
    have h_2 : 0 ≤ v0.toInt ∧ v0.toInt ≤ 399 := h_2
    exact W.zret (v := 1) hx hb hr rfl (fun t ht hW => ⟨1, rfl, (Or.inl ⟨rfl, by omega⟩), ht⟩) (fun _ h => absurd h List.not_mem_nil) dX11_isDay_8
  ·
    have h_2 : ¬ (0 ≤ v0.toInt ∧ v0.toInt ≤ 399) := h_2
    exact W.zret (v := 0) hx hb hr rfl (fun t ht hW => ⟨0, rfl, (Or.inr ⟨rfl, by omega⟩), ht⟩) (fun _ h => absurd h List.not_mem_nil) dX11_isDay_8
set_option maxRecDepth 100000 in
set_option maxHeartbeats 4000000 in
theorem q_size (l : Launch) (D : va_G) (cI cB cZ : ClassId) (x z : Nat) (mc n : Int32) : Met l yJx4a65c_size_8abf5 (CWS yJx4a65c_size_8abf5 cJx4a65c_size_8abf5 1 (some .int)) (RM 0 0 0) (PBr [.ref x] D cI cB cZ [(x, .inr (0, [.int mc, .ref z, .int n]))]) (vp_Si (fun r => r = n)) 0 0 (fun _ => False) := by
  refine Met.ofW (cc := cJx4a65c_size_8abf5) (maxL := 1) (ret := (some .int)) (by decide) rfl ?_
  intro p e s m args below meth c s₁ B hml hv
  obtain ⟨rfl, hP, hK⟩ := hv
  have hx := B.exec
  have hb := B.bytes
  have hr := B.returns
  have hts := atoms_spec (ws := (CWS yJx4a65c_size_8abf5 cJx4a65c_size_8abf5 1 (some .int))) B.pre
  have hown : s.vm.findClass RJx4a65c = some m.cls := findClass_of_methodNamed B.named
  have hlocks := B.notSynchronized
  have S : SF p m c cJx4a65c_size_8abf5 1 s ([.ref x]).toArray RJx4a65c := ⟨hx, hb, hml, hown, fun w h => hts w (List.mem_cons_of_mem _ h)⟩
  have hP : va_P D vwCl [(x, .inr (0, [.int mc, .ref z, .int n]))] s.heap := hP
  have hl := lv_entry ([.ref x]) (n := 1) (Nat.le_of_ble_eq_true rfl)
  rw [lg_entry_eq]
  generalize (lg_sl ([.ref x]) ++ List.replicate (1 - (lg_sl ([.ref x])).length) Slot.unset).toArray = ls at hl ⊢
  have hl : lv_has ls 1 [(0, .ref x)] := hl
  refine lv_aload_n hx hb dJx4a65c_size_8abf5_0 rfl (lv_at hl 0 rfl) ?_
  refine gf_RJx4a65c_48 S hK hP 0 rfl (v := .int n) rfl dJx4a65c_size_8abf5_1 ?_
  exact W.iret (v := n) hx hb hr (fun t ht hW => ⟨n, rfl, rfl, ht⟩) (fun _ h => absurd h List.not_mem_nil) dJx4a65c_size_8abf5_4
set_option maxRecDepth 100000 in
set_option maxHeartbeats 4000000 in
theorem q_at0 (l : Launch) (D : va_G) (cI cB cZ : ClassId) (a n : Nat) (v0 : Int32) (hn : n < 2147483648) : Met l yX7_at (CWS yX7_at cX7_at 2 (some .int)) (RM 0 0 0) (PBr [.ref a, .int v0] D cI cB cZ [(a, .inl (cI, n, .inl (fun _ => 0)))]) (vp_Si (fun r => r = 0)) 0 0 (fun _ => False) := by
  refine Met.ofW (cc := cX7_at) (maxL := 2) (ret := (some .int)) (by decide) rfl ?_
  intro p e s m args below meth c s₁ B hml hv
  obtain ⟨rfl, hP, hK⟩ := hv
  have hx := B.exec
  have hb := B.bytes
  have hr := B.returns
  have hts := atoms_spec (ws := (CWS yX7_at cX7_at 2 (some .int))) B.pre
  have hown : s.vm.findClass RX7 = some m.cls := findClass_of_methodNamed B.named
  have hlocks := B.notSynchronized
  have S : SF p m c cX7_at 2 s ([.ref a, .int v0]).toArray RX7 := ⟨hx, hb, hml, hown, fun w h => hts w (List.mem_cons_of_mem _ h)⟩
  have hP : va_P D vwCl [(a, .inl (cI, n, .inl (fun _ => 0)))] s.heap := hP
  have hl := lv_entry ([.ref a, .int v0]) (n := 2) (Nat.le_of_ble_eq_true rfl)
  rw [lg_entry_eq]
  generalize (lg_sl ([.ref a, .int v0]) ++ List.replicate (2 - (lg_sl ([.ref a, .int v0])).length) Slot.unset).toArray = ls at hl ⊢
  have hl : lv_has ls 2 [(0, .ref a), (1, .int v0)] := hl
  have tn : (nI n).toInt = (n : Int) := nI_toInt (by omega)
  refine lv_iload_n hx hb dX7_at_0 rfl (lv_at hl 1 rfl) ?_
  refine lv_if_lt (tgt := 10) hx hb dX7_at_1 (by decide) (fun c_1 => ?_) (fun c_1 => ?_)
  ·
    have tc_1 : (v0.toInt : Int) < 0 := Int32.lt_iff_toInt_lt.mp c_1
    refine lv_iconst (v := 0) hx hb dX7_at_10 (by decide) ?_
    refine lv_goto (tgt := 17) hx hb dX7_at_11 (by decide) ?_
    exact W.iret (v := 0) hx hb hr (fun t ht hW => ⟨0, rfl, rfl, ht⟩) (fun _ h => absurd h List.not_mem_nil) dX7_at_17
  ·
    have tc_1 : (0 : Int) ≤ v0.toInt := Int32.le_iff_toInt_le.mp (Int32.not_lt.mp c_1)
    refine lv_iload_n hx hb dX7_at_4 rfl (lv_at hl 1 rfl) ?_
    refine lv_aload_n hx hb dX7_at_5 rfl (lv_at hl 0 rfl) ?_
    refine va_alen hx hb hK.1 hP 0 0 rfl rfl (v := (nI n)) rfl dX7_at_6 ?_
    refine lv_icmp_lt (tgt := 14) hx hb dX7_at_7 (by decide) (fun c_2 => ?_) (fun c_2 => ?_)
    ·
      have tc_2 : (v0.toInt : Int) < (nI n).toInt := Int32.lt_iff_toInt_lt.mp c_2
      refine lv_aload_n hx hb dX7_at_14 rfl (lv_at hl 0 rfl) ?_
      refine lv_iload_n hx hb dX7_at_15 rfl (lv_at hl 1 rfl) ?_
      refine va_iald hx hb hK.1 hP 0 0 rfl rfl (vp_in_iff.mpr ⟨by omega, by omega⟩) dX7_at_16 ?_
      refine lv_topi (fun y_3 ey_3 => ?_)
      obtain rfl : y_3 = 0 := ey_3
      exact W.iret (v := 0) hx hb hr (fun t ht hW => ⟨0, rfl, rfl, ht⟩) (fun _ h => absurd h List.not_mem_nil) dX7_at_17
    ·
      have tc_2 : ((nI n).toInt : Int) ≤ v0.toInt := Int32.le_iff_toInt_le.mp (Int32.not_lt.mp c_2)
      refine lv_iconst (v := 0) hx hb dX7_at_10 (by decide) ?_
      refine lv_goto (tgt := 17) hx hb dX7_at_11 (by decide) ?_
      exact W.iret (v := 0) hx hb hr (fun t ht hW => ⟨0, rfl, rfl, ht⟩) (fun _ h => absurd h List.not_mem_nil) dX7_at_17
set_option maxRecDepth 100000 in
set_option maxHeartbeats 4000000 in
theorem q_atF (l : Launch) (D : va_G) (cI cB cZ : ClassId) (a n : Nat) (f : Nat → Int32) (v0 : Int32) (hn : n < 2147483648) (h0 : 0 ≤ v0.toInt) (h1 : v0.toInt < n) : Met l yX7_at (CWS yX7_at cX7_at 2 (some .int)) (RM 0 0 0) (PBr [.ref a, .int v0] D cI cB cZ [(a, .inl (cI, n, .inl f))]) (vp_Si (fun r => r = f v0.toNatClampNeg)) 0 0 (fun _ => False) := by
  refine Met.ofW (cc := cX7_at) (maxL := 2) (ret := (some .int)) (by decide) rfl ?_
  intro p e s m args below meth c s₁ B hml hv
  obtain ⟨rfl, hP, hK⟩ := hv
  have hx := B.exec
  have hb := B.bytes
  have hr := B.returns
  have hts := atoms_spec (ws := (CWS yX7_at cX7_at 2 (some .int))) B.pre
  have hown : s.vm.findClass RX7 = some m.cls := findClass_of_methodNamed B.named
  have hlocks := B.notSynchronized
  have S : SF p m c cX7_at 2 s ([.ref a, .int v0]).toArray RX7 := ⟨hx, hb, hml, hown, fun w h => hts w (List.mem_cons_of_mem _ h)⟩
  have hP : va_P D vwCl [(a, .inl (cI, n, .inl f))] s.heap := hP
  have hl := lv_entry ([.ref a, .int v0]) (n := 2) (Nat.le_of_ble_eq_true rfl)
  rw [lg_entry_eq]
  generalize (lg_sl ([.ref a, .int v0]) ++ List.replicate (2 - (lg_sl ([.ref a, .int v0])).length) Slot.unset).toArray = ls at hl ⊢
  have hl : lv_has ls 2 [(0, .ref a), (1, .int v0)] := hl
  have tn : (nI n).toInt = (n : Int) := nI_toInt (by omega)
  refine lv_iload_n hx hb dX7_at_0 rfl (lv_at hl 1 rfl) ?_
  refine lv_if_lt (tgt := 10) hx hb dX7_at_1 (by decide) (fun c_1 => False.elim (by have tc_1 : (v0.toInt : Int) < 0 := Int32.lt_iff_toInt_lt.mp c_1; omega)) (fun c_1 => ?_)
  have tc_1 : (0 : Int) ≤ v0.toInt := Int32.le_iff_toInt_le.mp (Int32.not_lt.mp c_1)
  refine lv_iload_n hx hb dX7_at_4 rfl (lv_at hl 1 rfl) ?_
  refine lv_aload_n hx hb dX7_at_5 rfl (lv_at hl 0 rfl) ?_
  refine va_alen hx hb hK.1 hP 0 0 rfl rfl (v := (nI n)) rfl dX7_at_6 ?_
  refine lv_icmp_lt (tgt := 14) hx hb dX7_at_7 (by decide) (fun c_2 => ?_) (fun c_2 => False.elim (by have tc_2 : ((nI n).toInt : Int) ≤ v0.toInt := Int32.le_iff_toInt_le.mp (Int32.not_lt.mp c_2); omega))
  have tc_2 : (v0.toInt : Int) < (nI n).toInt := Int32.lt_iff_toInt_lt.mp c_2
  refine lv_aload_n hx hb dX7_at_14 rfl (lv_at hl 0 rfl) ?_
  refine lv_iload_n hx hb dX7_at_15 rfl (lv_at hl 1 rfl) ?_
  refine va_iald hx hb hK.1 hP 0 0 rfl rfl (vp_in_iff.mpr ⟨by omega, by omega⟩) dX7_at_16 ?_
  exact W.iret (v := (f v0.toNatClampNeg)) hx hb hr (fun t ht hW => ⟨(f v0.toNatClampNeg), rfl, rfl, ht⟩) (fun _ h => absurd h List.not_mem_nil) dX7_at_17
set_option maxRecDepth 100000 in
set_option maxHeartbeats 4000000 in
theorem q_putU (l : Launch) (D : va_G) (cI cB cZ : ClassId) (a n : Nat) (f : Nat → Int32) (v0 v1 : Int32) (sz : Nat) (hn : n < 2147483648) : Met l yX7_put (CWS yX7_put cX7_put 3 none) (RM 0 0 0) (PBw [.ref a, .int v0, .int v1] D cI cB cZ [(a, .inl (cI, n, .inl f))] sz) (va_Qv (fun (_ : Nat → Int32) => True) (fun (u : Nat → Int32) (t : State) => va_P D vwCl [(a, .inl (cI, n, .inl u))] t.heap ∧ va_D (va_A [(a, .inl (cI, n, .inl f))] sz) [(a, .inl (cI, n, .inl u))]) (va_A [(a, .inl (cI, n, .inl f))] sz)) 0 0 (va_A [(a, .inl (cI, n, .inl f))] sz) := by
  refine Met.ofW (cc := cX7_put) (maxL := 3) (ret := none) (by decide) rfl ?_
  intro p e s m args below meth c s₁ B hml hv
  obtain ⟨rfl, hsz, hP, hK, hD0⟩ := hv
  have hx := B.exec
  have hb := B.bytes
  have hr := B.returns
  have hts := atoms_spec (ws := (CWS yX7_put cX7_put 3 none)) B.pre
  have hown : s.vm.findClass RX7 = some m.cls := findClass_of_methodNamed B.named
  have hlocks := B.notSynchronized
  have S : SF p m c cX7_put 3 s ([.ref a, .int v0, .int v1]).toArray RX7 := ⟨hx, hb, hml, hown, fun w h => hts w (List.mem_cons_of_mem _ h)⟩
  subst hsz
  have hD := hD0.self (sz := s.heap.size)
  generalize hAe : va_A [(a, .inl (cI, n, .inl f))] s.heap.size = A at hD ⊢
  have hA : ∀ q : Nat, s.heap.size ≤ q → A q := fun q h => by rw [← hAe]; exact Or.inr h
  have hS : va_S A s.heap s.heap [] := va_S.rf
  have hP : va_P D vwCl [(a, .inl (cI, n, .inl f))] s.heap := hP
  have hD : va_D A [(a, .inl (cI, n, .inl f))] := hD
  have hl := lv_entry ([.ref a, .int v0, .int v1]) (n := 3) (Nat.le_of_ble_eq_true rfl)
  rw [lg_entry_eq]
  generalize (lg_sl ([.ref a, .int v0, .int v1]) ++ List.replicate (3 - (lg_sl ([.ref a, .int v0, .int v1])).length) Slot.unset).toArray = ls at hl ⊢
  have hl : lv_has ls 3 [(0, .ref a), (1, .int v0), (2, .int v1)] := hl
  have tn : (nI n).toInt = (n : Int) := nI_toInt (by omega)
  refine lv_iload_n hx hb dX7_put_0 rfl (lv_at hl 1 rfl) ?_
  refine lv_if_lt (tgt := 14) hx hb dX7_put_1 (by decide) (fun c_1 => ?_) (fun c_1 => ?_)
  ·
    have tc_1 : (v0.toInt : Int) < 0 := Int32.lt_iff_toInt_lt.mp c_1
    have hP9 := hP.sub (ws' := [(a, .inl (cI, n, .inl f))]) [0] rfl
    have hD9 := hD.sub (ws' := [(a, .inl (cI, n, .inl f))]) [0] (by decide) rfl
    exact W.vret hx hb hr (fun t ht hW => ⟨⟨f, rfl, trivial, by rw [ht]; exact hP9, hD9⟩, hS.F ht⟩) hS.2.2 dX7_put_14
  ·
    have tc_1 : (0 : Int) ≤ v0.toInt := Int32.le_iff_toInt_le.mp (Int32.not_lt.mp c_1)
    refine lv_iload_n hx hb dX7_put_4 rfl (lv_at hl 1 rfl) ?_
    refine lv_aload_n hx hb dX7_put_5 rfl (lv_at hl 0 rfl) ?_
    refine va_alen hx hb hK.1 hP 0 0 rfl rfl (v := (nI n)) rfl dX7_put_6 ?_
    refine lv_icmp_ge (tgt := 14) hx hb dX7_put_7 (by decide) (fun c_2 => ?_) (fun c_2 => ?_)
    ·
      have tc_2 : ((nI n).toInt : Int) ≤ v0.toInt := Int32.le_iff_toInt_le.mp c_2
      have hP9 := hP.sub (ws' := [(a, .inl (cI, n, .inl f))]) [0] rfl
      have hD9 := hD.sub (ws' := [(a, .inl (cI, n, .inl f))]) [0] (by decide) rfl
      exact W.vret hx hb hr (fun t ht hW => ⟨⟨f, rfl, trivial, by rw [ht]; exact hP9, hD9⟩, hS.F ht⟩) hS.2.2 dX7_put_14
    ·
      have tc_2 : (v0.toInt : Int) < (nI n).toInt := Int32.lt_iff_toInt_lt.mp (Int32.not_le.mp c_2)
      refine lv_aload_n hx hb dX7_put_10 rfl (lv_at hl 0 rfl) ?_
      refine lv_iload_n hx hb dX7_put_11 rfl (lv_at hl 1 rfl) ?_
      refine lv_iload_n hx hb dX7_put_12 rfl (lv_at hl 2 rfl) ?_
      refine va_iast hx hb hK.1 hP hD hS 0 0 rfl rfl (vp_in_iff.mpr ⟨by omega, by omega⟩) dX7_put_13 (fun H locs hP hD hS => ?_)
      have hP : va_P D vwCl [(a, .inl (cI, n, .inl (upd f v0.toNatClampNeg v1)))] H := hP
      have hD : va_D A [(a, .inl (cI, n, .inl (upd f v0.toNatClampNeg v1)))] := hD
      have hP9 := hP.sub (ws' := [(a, .inl (cI, n, .inl (upd f v0.toNatClampNeg v1)))]) [0] rfl
      have hD9 := hD.sub (ws' := [(a, .inl (cI, n, .inl (upd f v0.toNatClampNeg v1)))]) [0] (by decide) rfl
      exact W.vret hx hb hr (fun t ht hW => ⟨⟨(upd f v0.toNatClampNeg v1), rfl, trivial, by rw [ht]; exact hP9, hD9⟩, hS.F ht⟩) hS.2.2 dX7_put_14
set_option maxRecDepth 100000 in
set_option maxHeartbeats 4000000 in
theorem q_put0 (l : Launch) (D : va_G) (cI cB cZ : ClassId) (a n : Nat) (v0 : Int32) (sz : Nat) (hn : n < 2147483648) : Met l yX7_put (CWS yX7_put cX7_put 3 none) (RM 0 0 0) (PBw [.ref a, .int v0, .int 0] D cI cB cZ [(a, .inl (cI, n, .inl (fun _ => 0)))] sz) (va_Qv (fun (_ : Unit) => True) (fun (u : Unit) (t : State) => va_P D vwCl [(a, .inl (cI, n, .inl (fun _ => 0)))] t.heap ∧ va_D (va_A [(a, .inl (cI, n, .inl (fun _ => 0)))] sz) [(a, .inl (cI, n, .inl (fun _ => 0)))]) (va_A [(a, .inl (cI, n, .inl (fun _ => 0)))] sz)) 0 0 (va_A [(a, .inl (cI, n, .inl (fun _ => 0)))] sz) := by
  refine Met.ofW (cc := cX7_put) (maxL := 3) (ret := none) (by decide) rfl ?_
  intro p e s m args below meth c s₁ B hml hv
  obtain ⟨rfl, hsz, hP, hK, hD0⟩ := hv
  have hx := B.exec
  have hb := B.bytes
  have hr := B.returns
  have hts := atoms_spec (ws := (CWS yX7_put cX7_put 3 none)) B.pre
  have hown : s.vm.findClass RX7 = some m.cls := findClass_of_methodNamed B.named
  have hlocks := B.notSynchronized
  have S : SF p m c cX7_put 3 s ([.ref a, .int v0, .int 0]).toArray RX7 := ⟨hx, hb, hml, hown, fun w h => hts w (List.mem_cons_of_mem _ h)⟩
  subst hsz
  have hD := hD0.self (sz := s.heap.size)
  generalize hAe : va_A [(a, .inl (cI, n, .inl (fun _ => 0)))] s.heap.size = A at hD ⊢
  have hA : ∀ q : Nat, s.heap.size ≤ q → A q := fun q h => by rw [← hAe]; exact Or.inr h
  have hS : va_S A s.heap s.heap [] := va_S.rf
  have hP : va_P D vwCl [(a, .inl (cI, n, .inl (fun _ => 0)))] s.heap := hP
  have hD : va_D A [(a, .inl (cI, n, .inl (fun _ => 0)))] := hD
  have hl := lv_entry ([.ref a, .int v0, .int 0]) (n := 3) (Nat.le_of_ble_eq_true rfl)
  rw [lg_entry_eq]
  generalize (lg_sl ([.ref a, .int v0, .int 0]) ++ List.replicate (3 - (lg_sl ([.ref a, .int v0, .int 0])).length) Slot.unset).toArray = ls at hl ⊢
  have hl : lv_has ls 3 [(0, .ref a), (1, .int v0), (2, .int 0)] := hl
  have tn : (nI n).toInt = (n : Int) := nI_toInt (by omega)
  refine lv_iload_n hx hb dX7_put_0 rfl (lv_at hl 1 rfl) ?_
  refine lv_if_lt (tgt := 14) hx hb dX7_put_1 (by decide) (fun c_1 => ?_) (fun c_1 => ?_)
  ·
    have tc_1 : (v0.toInt : Int) < 0 := Int32.lt_iff_toInt_lt.mp c_1
    have hP9 := hP.sub (ws' := [(a, .inl (cI, n, .inl (fun _ => 0)))]) [0] rfl
    have hD9 := hD.sub (ws' := [(a, .inl (cI, n, .inl (fun _ => 0)))]) [0] (by decide) rfl
    exact W.vret hx hb hr (fun t ht hW => ⟨⟨(), rfl, trivial, by rw [ht]; exact hP9, hD9⟩, hS.F ht⟩) hS.2.2 dX7_put_14
  ·
    have tc_1 : (0 : Int) ≤ v0.toInt := Int32.le_iff_toInt_le.mp (Int32.not_lt.mp c_1)
    refine lv_iload_n hx hb dX7_put_4 rfl (lv_at hl 1 rfl) ?_
    refine lv_aload_n hx hb dX7_put_5 rfl (lv_at hl 0 rfl) ?_
    refine va_alen hx hb hK.1 hP 0 0 rfl rfl (v := (nI n)) rfl dX7_put_6 ?_
    refine lv_icmp_ge (tgt := 14) hx hb dX7_put_7 (by decide) (fun c_2 => ?_) (fun c_2 => ?_)
    ·
      have tc_2 : ((nI n).toInt : Int) ≤ v0.toInt := Int32.le_iff_toInt_le.mp c_2
      have hP9 := hP.sub (ws' := [(a, .inl (cI, n, .inl (fun _ => 0)))]) [0] rfl
      have hD9 := hD.sub (ws' := [(a, .inl (cI, n, .inl (fun _ => 0)))]) [0] (by decide) rfl
      exact W.vret hx hb hr (fun t ht hW => ⟨⟨(), rfl, trivial, by rw [ht]; exact hP9, hD9⟩, hS.F ht⟩) hS.2.2 dX7_put_14
    ·
      have tc_2 : (v0.toInt : Int) < (nI n).toInt := Int32.lt_iff_toInt_lt.mp (Int32.not_le.mp c_2)
      refine lv_aload_n hx hb dX7_put_10 rfl (lv_at hl 0 rfl) ?_
      refine lv_iload_n hx hb dX7_put_11 rfl (lv_at hl 1 rfl) ?_
      refine lv_iload_n hx hb dX7_put_12 rfl (lv_at hl 2 rfl) ?_
      refine va_iast hx hb hK.1 hP hD hS 0 0 rfl rfl (vp_in_iff.mpr ⟨by omega, by omega⟩) dX7_put_13 (fun H locs hP hD hS => ?_)
      rw [upd_0] at hP hD
      have hP : va_P D vwCl [(a, .inl (cI, n, .inl (fun _ => 0)))] H := hP
      have hD : va_D A [(a, .inl (cI, n, .inl (fun _ => 0)))] := hD
      have hP9 := hP.sub (ws' := [(a, .inl (cI, n, .inl (fun _ => 0)))]) [0] rfl
      have hD9 := hD.sub (ws' := [(a, .inl (cI, n, .inl (fun _ => 0)))]) [0] (by decide) rfl
      exact W.vret hx hb hr (fun t ht hW => ⟨⟨(), rfl, trivial, by rw [ht]; exact hP9, hD9⟩, hS.F ht⟩) hS.2.2 dX7_put_14
set_option maxRecDepth 100000 in
set_option maxHeartbeats 4000000 in
theorem q_tell (l : Launch) (D : va_G) (cI cB cZ : ClassId) (a n : Nat) (f : Nat → Int32) (v0 v1 v2 v3 : Int32) (sz : Nat) (hn : n < 2147483648) : Met l yX7_tell (CWS yX7_tell cX7_tell 5 (some .boolean)) (RM 0 0 0) (PBw [.ref a, .int v0, .int v1, .int v2, .int v3] D cI cB cZ [(a, .inl (cI, n, .inl f))] sz) (va_Qi (fun (r : Int32) (_ : Unit) => (r = 1 ∧ (0 ≤ v0.toInt ∧ v0.toInt < n ∧ v2.toInt ≤ v1.toInt ∧ v1.toInt ≤ v3.toInt)) ∨ (r = 0 ∧ ¬ (0 ≤ v0.toInt ∧ v0.toInt < n ∧ v2.toInt ≤ v1.toInt ∧ v1.toInt ≤ v3.toInt))) (fun (_ : Unit) (_ : State) => True) (va_A [(a, .inl (cI, n, .inl f))] sz)) 0 0 (va_A [(a, .inl (cI, n, .inl f))] sz) := by
  refine Met.ofW (cc := cX7_tell) (maxL := 5) (ret := (some .boolean)) (by decide) rfl ?_
  intro p e s m args below meth c s₁ B hml hv
  obtain ⟨rfl, hsz, hP, hK, hD0⟩ := hv
  have hx := B.exec
  have hb := B.bytes
  have hr := B.returns
  have hts := atoms_spec (ws := (CWS yX7_tell cX7_tell 5 (some .boolean))) B.pre
  have hown : s.vm.findClass RX7 = some m.cls := findClass_of_methodNamed B.named
  have hlocks := B.notSynchronized
  have S : SF p m c cX7_tell 5 s ([.ref a, .int v0, .int v1, .int v2, .int v3]).toArray RX7 := ⟨hx, hb, hml, hown, fun w h => hts w (List.mem_cons_of_mem _ h)⟩
  subst hsz
  have hD := hD0.self (sz := s.heap.size)
  generalize hAe : va_A [(a, .inl (cI, n, .inl f))] s.heap.size = A at hD ⊢
  have hA : ∀ q : Nat, s.heap.size ≤ q → A q := fun q h => by rw [← hAe]; exact Or.inr h
  have hS : va_S A s.heap s.heap [] := va_S.rf
  have hP : va_P D vwCl [(a, .inl (cI, n, .inl f))] s.heap := hP
  have hD : va_D A [(a, .inl (cI, n, .inl f))] := hD
  have hl := lv_entry ([.ref a, .int v0, .int v1, .int v2, .int v3]) (n := 5) (Nat.le_of_ble_eq_true rfl)
  rw [lg_entry_eq]
  generalize (lg_sl ([.ref a, .int v0, .int v1, .int v2, .int v3]) ++ List.replicate (5 - (lg_sl ([.ref a, .int v0, .int v1, .int v2, .int v3])).length) Slot.unset).toArray = ls at hl ⊢
  have hl : lv_has ls 5 [(0, .ref a), (1, .int v0), (2, .int v1), (3, .int v2), (4, .int v3)] := hl
  have tn : (nI n).toInt = (n : Int) := nI_toInt (by omega)
  refine lv_iload_n hx hb dX7_tell_0 rfl (lv_at hl 1 rfl) ?_
  refine lv_if_lt (tgt := 21) hx hb dX7_tell_1 (by decide) (fun c_1 => ?_) (fun c_1 => ?_)
  ·
    have tc_1 : (v0.toInt : Int) < 0 := Int32.lt_iff_toInt_lt.mp c_1
    refine lv_iconst (v := 0) hx hb dX7_tell_21 (by decide) ?_
    exact W.zret (v := 0) hx hb hr rfl (fun t ht hW => ⟨⟨0, (), rfl, (Or.inr ⟨rfl, by omega⟩), trivial⟩, hS.F ht⟩) hS.2.2 dX7_tell_22
  ·
    have tc_1 : (0 : Int) ≤ v0.toInt := Int32.le_iff_toInt_le.mp (Int32.not_lt.mp c_1)
    refine lv_iload_n hx hb dX7_tell_4 rfl (lv_at hl 1 rfl) ?_
    refine lv_aload_n hx hb dX7_tell_5 rfl (lv_at hl 0 rfl) ?_
    refine va_alen hx hb hK.1 hP 0 0 rfl rfl (v := (nI n)) rfl dX7_tell_6 ?_
    refine lv_icmp_ge (tgt := 21) hx hb dX7_tell_7 (by decide) (fun c_2 => ?_) (fun c_2 => ?_)
    ·
      have tc_2 : ((nI n).toInt : Int) ≤ v0.toInt := Int32.le_iff_toInt_le.mp c_2
      refine lv_iconst (v := 0) hx hb dX7_tell_21 (by decide) ?_
      exact W.zret (v := 0) hx hb hr rfl (fun t ht hW => ⟨⟨0, (), rfl, (Or.inr ⟨rfl, by omega⟩), trivial⟩, hS.F ht⟩) hS.2.2 dX7_tell_22
    ·
      have tc_2 : (v0.toInt : Int) < (nI n).toInt := Int32.lt_iff_toInt_lt.mp (Int32.not_le.mp c_2)
      refine lv_iload_n hx hb dX7_tell_10 rfl (lv_at hl 2 rfl) ?_
      refine lv_iload_n hx hb dX7_tell_11 rfl (lv_at hl 3 rfl) ?_
      refine lv_icmp_lt (tgt := 21) hx hb dX7_tell_12 (by decide) (fun c_3 => ?_) (fun c_3 => ?_)
      ·
        have tc_3 : (v1.toInt : Int) < v2.toInt := Int32.lt_iff_toInt_lt.mp c_3
        refine lv_iconst (v := 0) hx hb dX7_tell_21 (by decide) ?_
        exact W.zret (v := 0) hx hb hr rfl (fun t ht hW => ⟨⟨0, (), rfl, (Or.inr ⟨rfl, by omega⟩), trivial⟩, hS.F ht⟩) hS.2.2 dX7_tell_22
      ·
        have tc_3 : (v2.toInt : Int) ≤ v1.toInt := Int32.le_iff_toInt_le.mp (Int32.not_lt.mp c_3)
        refine lv_iload_n hx hb dX7_tell_15 rfl (lv_at hl 2 rfl) ?_
        refine lv_iload hx hb dX7_tell_16 (lv_at hl 4 rfl) ?_
        refine lv_icmp_le (tgt := 23) hx hb dX7_tell_18 (by decide) (fun c_4 => ?_) (fun c_4 => ?_)
        ·
          have tc_4 : (v1.toInt : Int) ≤ v3.toInt := Int32.le_iff_toInt_le.mp c_4
          refine lv_aload_n hx hb dX7_tell_23 rfl (lv_at hl 0 rfl) ?_
          refine lv_iload_n hx hb dX7_tell_24 rfl (lv_at hl 1 rfl) ?_
          refine lv_iload_n hx hb dX7_tell_25 rfl (lv_at hl 2 rfl) ?_
          refine va_iast hx hb hK.1 hP hD hS 0 0 rfl rfl (vp_in_iff.mpr ⟨by omega, by omega⟩) dX7_tell_26 (fun H locs hP hD hS => ?_)
          have hP : va_P D vwCl [(a, .inl (cI, n, .inl (upd f v0.toNatClampNeg v1)))] H := hP
          have hD : va_D A [(a, .inl (cI, n, .inl (upd f v0.toNatClampNeg v1)))] := hD
          refine lv_iconst (v := 1) hx hb dX7_tell_27 (by decide) ?_
          exact W.zret (v := 1) hx hb hr rfl (fun t ht hW => ⟨⟨1, (), rfl, (Or.inl ⟨rfl, by omega⟩), trivial⟩, hS.F ht⟩) hS.2.2 dX7_tell_28
        ·
          have tc_4 : (v3.toInt : Int) < v1.toInt := Int32.lt_iff_toInt_lt.mp (Int32.not_le.mp c_4)
          refine lv_iconst (v := 0) hx hb dX7_tell_21 (by decide) ?_
          exact W.zret (v := 0) hx hb hr rfl (fun t ht hW => ⟨⟨0, (), rfl, (Or.inr ⟨rfl, by omega⟩), trivial⟩, hS.F ht⟩) hS.2.2 dX7_tell_22
set_option maxRecDepth 100000 in
set_option maxHeartbeats 4000000 in
theorem q_kitchenAt (l : Launch) (D : va_G) (cI cB cZ : ClassId) (g : Nat → Nat) (v0 : Int32) : Met l yX11_kitchenAt (CWS yX11_kitchenAt cX11_kitchenAt 2 (some (.object "OilHome$Kitchen"))) (RM 1 0 0) (PBr [.ref (g 0), .int v0] D cI cB cZ [((g 0), .inr (12, oX g)), ((g 10), .inr (0, [.int 0, .ref (g 50), .int 0]))]) (va_Sq (fun r => r = none)) 0 0 (fun _ => False) := by
  refine Met.ofW (cc := cX11_kitchenAt) (maxL := 2) (ret := (some (.object "OilHome$Kitchen"))) (by decide) rfl ?_
  intro p e s m args below meth c s₁ B hml hv
  obtain ⟨rfl, hP, hK⟩ := hv
  have hx := B.exec
  have hb := B.bytes
  have hr := B.returns
  have hts := atoms_spec (ws := (CWS yX11_kitchenAt cX11_kitchenAt 2 (some (.object "OilHome$Kitchen")))) B.pre
  have hown : s.vm.findClass RX11 = some m.cls := findClass_of_methodNamed B.named
  have hlocks := B.notSynchronized
  have S : SF p m c cX11_kitchenAt 2 s ([.ref (g 0), .int v0]).toArray RX11 := ⟨hx, hb, hml, hown, fun w h => hts w (List.mem_cons_of_mem _ h)⟩
  have hP : va_P D vwCl [((g 0), .inr (12, oX g)), ((g 10), .inr (0, [.int 0, .ref (g 50), .int 0]))] s.heap := hP
  have hl := lv_entry ([.ref (g 0), .int v0]) (n := 2) (Nat.le_of_ble_eq_true rfl)
  rw [lg_entry_eq]
  generalize (lg_sl ([.ref (g 0), .int v0]) ++ List.replicate (2 - (lg_sl ([.ref (g 0), .int v0])).length) Slot.unset).toArray = ls at hl ⊢
  have hl : lv_has ls 2 [(0, .ref (g 0)), (1, .int v0)] := hl
  refine lv_iload_n hx hb dX11_kitchenAt_0 rfl (lv_at hl 1 rfl) ?_
  refine lv_if_lt (tgt := 15) hx hb dX11_kitchenAt_1 (by decide) (fun c_1 => ?_) (fun c_1 => ?_)
  ·
    have tc_1 : (v0.toInt : Int) < 0 := Int32.lt_iff_toInt_lt.mp c_1
    refine lv_null hx hb dX11_kitchenAt_15 ?_
    refine lv_goto (tgt := 30) hx hb dX11_kitchenAt_16 (by decide) ?_
    exact W.aret (v := .null) hx hb hr (Or.inl ⟨_, rfl⟩) (Or.inl rfl) (fun t ht hW => ⟨none, rfl, rfl, ht⟩) (fun _ h => absurd h List.not_mem_nil) dX11_kitchenAt_30
  ·
    have tc_1 : (0 : Int) ≤ v0.toInt := Int32.le_iff_toInt_le.mp (Int32.not_lt.mp c_1)
    refine lv_iload_n hx hb dX11_kitchenAt_4 rfl (lv_at hl 1 rfl) ?_
    refine lv_aload_n hx hb dX11_kitchenAt_5 rfl (lv_at hl 0 rfl) ?_
    refine gf_RX11_61 S hK hP 0 rfl (v := .ref (g 10)) rfl dX11_kitchenAt_6 ?_
    refine vp_callSi (runV_r (As := []) (rest := [.int v0]) S (q_size l D cI cB cZ (g 10) (g 50) 0 0) kV_RX11_84 hK hP [1] rfl 1 rfl rfl rfl ⟨Nat.le_of_ble_eq_true rfl, Nat.le_of_ble_eq_true rfl⟩ ⟨Nat.le_of_ble_eq_true rfl, Nat.le_of_ble_eq_true rfl⟩ rfl hl.1 rfl (Nat.le_of_ble_eq_true rfl) dX11_kitchenAt_9) (fun r_2 h_3 => ?_)
    subst h_3
    refine lv_icmp_lt (tgt := 19) hx hb dX11_kitchenAt_12 (by decide) (fun c_4 => False.elim (by have tc_4 : (v0.toInt : Int) < 0 := Int32.lt_iff_toInt_lt.mp c_4; omega)) (fun c_4 => ?_)
    have tc_4 : (0 : Int) ≤ v0.toInt := Int32.le_iff_toInt_le.mp (Int32.not_lt.mp c_4)
    refine lv_null hx hb dX11_kitchenAt_15 ?_
    refine lv_goto (tgt := 30) hx hb dX11_kitchenAt_16 (by decide) ?_
    exact W.aret (v := .null) hx hb hr (Or.inl ⟨_, rfl⟩) (Or.inl rfl) (fun t ht hW => ⟨none, rfl, rfl, ht⟩) (fun _ h => absurd h List.not_mem_nil) dX11_kitchenAt_30
set_option maxRecDepth 100000 in
set_option maxHeartbeats 4000000 in
theorem q_loadAt (l : Launch) (D : va_G) (cI cB cZ : ClassId) (g : Nat → Nat) (v0 : Int32) : Met l yX11_loadAt (CWS yX11_loadAt cX11_loadAt 2 (some (.object "OilHome$Load"))) (RM 1 0 0) (PBr [.ref (g 0), .int v0] D cI cB cZ [((g 0), .inr (12, oX g)), ((g 11), .inr (0, [.int 0, .ref (g 50), .int 0]))]) (va_Sq (fun r => r = none)) 0 0 (fun _ => False) := by
  refine Met.ofW (cc := cX11_loadAt) (maxL := 2) (ret := (some (.object "OilHome$Load"))) (by decide) rfl ?_
  intro p e s m args below meth c s₁ B hml hv
  obtain ⟨rfl, hP, hK⟩ := hv
  have hx := B.exec
  have hb := B.bytes
  have hr := B.returns
  have hts := atoms_spec (ws := (CWS yX11_loadAt cX11_loadAt 2 (some (.object "OilHome$Load")))) B.pre
  have hown : s.vm.findClass RX11 = some m.cls := findClass_of_methodNamed B.named
  have hlocks := B.notSynchronized
  have S : SF p m c cX11_loadAt 2 s ([.ref (g 0), .int v0]).toArray RX11 := ⟨hx, hb, hml, hown, fun w h => hts w (List.mem_cons_of_mem _ h)⟩
  have hP : va_P D vwCl [((g 0), .inr (12, oX g)), ((g 11), .inr (0, [.int 0, .ref (g 50), .int 0]))] s.heap := hP
  have hl := lv_entry ([.ref (g 0), .int v0]) (n := 2) (Nat.le_of_ble_eq_true rfl)
  rw [lg_entry_eq]
  generalize (lg_sl ([.ref (g 0), .int v0]) ++ List.replicate (2 - (lg_sl ([.ref (g 0), .int v0])).length) Slot.unset).toArray = ls at hl ⊢
  have hl : lv_has ls 2 [(0, .ref (g 0)), (1, .int v0)] := hl
  refine lv_iload_n hx hb dX11_loadAt_0 rfl (lv_at hl 1 rfl) ?_
  refine lv_if_lt (tgt := 15) hx hb dX11_loadAt_1 (by decide) (fun c_1 => ?_) (fun c_1 => ?_)
  ·
    have tc_1 : (v0.toInt : Int) < 0 := Int32.lt_iff_toInt_lt.mp c_1
    refine lv_null hx hb dX11_loadAt_15 ?_
    refine lv_goto (tgt := 30) hx hb dX11_loadAt_16 (by decide) ?_
    exact W.aret (v := .null) hx hb hr (Or.inl ⟨_, rfl⟩) (Or.inl rfl) (fun t ht hW => ⟨none, rfl, rfl, ht⟩) (fun _ h => absurd h List.not_mem_nil) dX11_loadAt_30
  ·
    have tc_1 : (0 : Int) ≤ v0.toInt := Int32.le_iff_toInt_le.mp (Int32.not_lt.mp c_1)
    refine lv_iload_n hx hb dX11_loadAt_4 rfl (lv_at hl 1 rfl) ?_
    refine lv_aload_n hx hb dX11_loadAt_5 rfl (lv_at hl 0 rfl) ?_
    refine gf_RX11_65 S hK hP 0 rfl (v := .ref (g 11)) rfl dX11_loadAt_6 ?_
    refine vp_callSi (runV_r (As := []) (rest := [.int v0]) S (q_size l D cI cB cZ (g 11) (g 50) 0 0) kV_RX11_84 hK hP [1] rfl 1 rfl rfl rfl ⟨Nat.le_of_ble_eq_true rfl, Nat.le_of_ble_eq_true rfl⟩ ⟨Nat.le_of_ble_eq_true rfl, Nat.le_of_ble_eq_true rfl⟩ rfl hl.1 rfl (Nat.le_of_ble_eq_true rfl) dX11_loadAt_9) (fun r_2 h_3 => ?_)
    subst h_3
    refine lv_icmp_lt (tgt := 19) hx hb dX11_loadAt_12 (by decide) (fun c_4 => False.elim (by have tc_4 : (v0.toInt : Int) < 0 := Int32.lt_iff_toInt_lt.mp c_4; omega)) (fun c_4 => ?_)
    have tc_4 : (0 : Int) ≤ v0.toInt := Int32.le_iff_toInt_le.mp (Int32.not_lt.mp c_4)
    refine lv_null hx hb dX11_loadAt_15 ?_
    refine lv_goto (tgt := 30) hx hb dX11_loadAt_16 (by decide) ?_
    exact W.aret (v := .null) hx hb hr (Or.inl ⟨_, rfl⟩) (Or.inl rfl) (fun t ht hW => ⟨none, rfl, rfl, ht⟩) (fun _ h => absurd h List.not_mem_nil) dX11_loadAt_30
set_option maxRecDepth 100000 in
set_option maxHeartbeats 4000000 in
theorem q_batchAt (l : Launch) (D : va_G) (cI cB cZ : ClassId) (g : Nat → Nat) (v0 : Int32) : Met l yX11_batchAt (CWS yX11_batchAt cX11_batchAt 2 (some (.object "OilHome$Batch"))) (RM 1 0 0) (PBr [.ref (g 0), .int v0] D cI cB cZ [((g 0), .inr (12, oX g)), ((g 12), .inr (0, [.int 0, .ref (g 50), .int 0]))]) (va_Sq (fun r => r = none)) 0 0 (fun _ => False) := by
  refine Met.ofW (cc := cX11_batchAt) (maxL := 2) (ret := (some (.object "OilHome$Batch"))) (by decide) rfl ?_
  intro p e s m args below meth c s₁ B hml hv
  obtain ⟨rfl, hP, hK⟩ := hv
  have hx := B.exec
  have hb := B.bytes
  have hr := B.returns
  have hts := atoms_spec (ws := (CWS yX11_batchAt cX11_batchAt 2 (some (.object "OilHome$Batch")))) B.pre
  have hown : s.vm.findClass RX11 = some m.cls := findClass_of_methodNamed B.named
  have hlocks := B.notSynchronized
  have S : SF p m c cX11_batchAt 2 s ([.ref (g 0), .int v0]).toArray RX11 := ⟨hx, hb, hml, hown, fun w h => hts w (List.mem_cons_of_mem _ h)⟩
  have hP : va_P D vwCl [((g 0), .inr (12, oX g)), ((g 12), .inr (0, [.int 0, .ref (g 50), .int 0]))] s.heap := hP
  have hl := lv_entry ([.ref (g 0), .int v0]) (n := 2) (Nat.le_of_ble_eq_true rfl)
  rw [lg_entry_eq]
  generalize (lg_sl ([.ref (g 0), .int v0]) ++ List.replicate (2 - (lg_sl ([.ref (g 0), .int v0])).length) Slot.unset).toArray = ls at hl ⊢
  have hl : lv_has ls 2 [(0, .ref (g 0)), (1, .int v0)] := hl
  refine lv_iload_n hx hb dX11_batchAt_0 rfl (lv_at hl 1 rfl) ?_
  refine lv_if_lt (tgt := 15) hx hb dX11_batchAt_1 (by decide) (fun c_1 => ?_) (fun c_1 => ?_)
  ·
    have tc_1 : (v0.toInt : Int) < 0 := Int32.lt_iff_toInt_lt.mp c_1
    refine lv_null hx hb dX11_batchAt_15 ?_
    refine lv_goto (tgt := 30) hx hb dX11_batchAt_16 (by decide) ?_
    exact W.aret (v := .null) hx hb hr (Or.inl ⟨_, rfl⟩) (Or.inl rfl) (fun t ht hW => ⟨none, rfl, rfl, ht⟩) (fun _ h => absurd h List.not_mem_nil) dX11_batchAt_30
  ·
    have tc_1 : (0 : Int) ≤ v0.toInt := Int32.le_iff_toInt_le.mp (Int32.not_lt.mp c_1)
    refine lv_iload_n hx hb dX11_batchAt_4 rfl (lv_at hl 1 rfl) ?_
    refine lv_aload_n hx hb dX11_batchAt_5 rfl (lv_at hl 0 rfl) ?_
    refine gf_RX11_68 S hK hP 0 rfl (v := .ref (g 12)) rfl dX11_batchAt_6 ?_
    refine vp_callSi (runV_r (As := []) (rest := [.int v0]) S (q_size l D cI cB cZ (g 12) (g 50) 0 0) kV_RX11_84 hK hP [1] rfl 1 rfl rfl rfl ⟨Nat.le_of_ble_eq_true rfl, Nat.le_of_ble_eq_true rfl⟩ ⟨Nat.le_of_ble_eq_true rfl, Nat.le_of_ble_eq_true rfl⟩ rfl hl.1 rfl (Nat.le_of_ble_eq_true rfl) dX11_batchAt_9) (fun r_2 h_3 => ?_)
    subst h_3
    refine lv_icmp_lt (tgt := 19) hx hb dX11_batchAt_12 (by decide) (fun c_4 => False.elim (by have tc_4 : (v0.toInt : Int) < 0 := Int32.lt_iff_toInt_lt.mp c_4; omega)) (fun c_4 => ?_)
    have tc_4 : (0 : Int) ≤ v0.toInt := Int32.le_iff_toInt_le.mp (Int32.not_lt.mp c_4)
    refine lv_null hx hb dX11_batchAt_15 ?_
    refine lv_goto (tgt := 30) hx hb dX11_batchAt_16 (by decide) ?_
    exact W.aret (v := .null) hx hb hr (Or.inl ⟨_, rfl⟩) (Or.inl rfl) (fun t ht hW => ⟨none, rfl, rfl, ht⟩) (fun _ h => absurd h List.not_mem_nil) dX11_batchAt_30
set_option maxRecDepth 100000 in
set_option maxHeartbeats 4000000 in
theorem q_proofAt (l : Launch) (D : va_G) (cI cB cZ : ClassId) (g : Nat → Nat) (v0 : Int32) : Met l yX11_proofAt (CWS yX11_proofAt cX11_proofAt 2 (some (.object "OilHome$Proof"))) (RM 1 0 0) (PBr [.ref (g 0), .int v0] D cI cB cZ [((g 0), .inr (12, oX g)), ((g 13), .inr (0, [.int 0, .ref (g 50), .int 0]))]) (va_Sq (fun r => r = none)) 0 0 (fun _ => False) := by
  refine Met.ofW (cc := cX11_proofAt) (maxL := 2) (ret := (some (.object "OilHome$Proof"))) (by decide) rfl ?_
  intro p e s m args below meth c s₁ B hml hv
  obtain ⟨rfl, hP, hK⟩ := hv
  have hx := B.exec
  have hb := B.bytes
  have hr := B.returns
  have hts := atoms_spec (ws := (CWS yX11_proofAt cX11_proofAt 2 (some (.object "OilHome$Proof")))) B.pre
  have hown : s.vm.findClass RX11 = some m.cls := findClass_of_methodNamed B.named
  have hlocks := B.notSynchronized
  have S : SF p m c cX11_proofAt 2 s ([.ref (g 0), .int v0]).toArray RX11 := ⟨hx, hb, hml, hown, fun w h => hts w (List.mem_cons_of_mem _ h)⟩
  have hP : va_P D vwCl [((g 0), .inr (12, oX g)), ((g 13), .inr (0, [.int 0, .ref (g 50), .int 0]))] s.heap := hP
  have hl := lv_entry ([.ref (g 0), .int v0]) (n := 2) (Nat.le_of_ble_eq_true rfl)
  rw [lg_entry_eq]
  generalize (lg_sl ([.ref (g 0), .int v0]) ++ List.replicate (2 - (lg_sl ([.ref (g 0), .int v0])).length) Slot.unset).toArray = ls at hl ⊢
  have hl : lv_has ls 2 [(0, .ref (g 0)), (1, .int v0)] := hl
  refine lv_iload_n hx hb dX11_proofAt_0 rfl (lv_at hl 1 rfl) ?_
  refine lv_if_lt (tgt := 15) hx hb dX11_proofAt_1 (by decide) (fun c_1 => ?_) (fun c_1 => ?_)
  ·
    have tc_1 : (v0.toInt : Int) < 0 := Int32.lt_iff_toInt_lt.mp c_1
    refine lv_null hx hb dX11_proofAt_15 ?_
    refine lv_goto (tgt := 30) hx hb dX11_proofAt_16 (by decide) ?_
    exact W.aret (v := .null) hx hb hr (Or.inl ⟨_, rfl⟩) (Or.inl rfl) (fun t ht hW => ⟨none, rfl, rfl, ht⟩) (fun _ h => absurd h List.not_mem_nil) dX11_proofAt_30
  ·
    have tc_1 : (0 : Int) ≤ v0.toInt := Int32.le_iff_toInt_le.mp (Int32.not_lt.mp c_1)
    refine lv_iload_n hx hb dX11_proofAt_4 rfl (lv_at hl 1 rfl) ?_
    refine lv_aload_n hx hb dX11_proofAt_5 rfl (lv_at hl 0 rfl) ?_
    refine gf_RX11_71 S hK hP 0 rfl (v := .ref (g 13)) rfl dX11_proofAt_6 ?_
    refine vp_callSi (runV_r (As := []) (rest := [.int v0]) S (q_size l D cI cB cZ (g 13) (g 50) 0 0) kV_RX11_84 hK hP [1] rfl 1 rfl rfl rfl ⟨Nat.le_of_ble_eq_true rfl, Nat.le_of_ble_eq_true rfl⟩ ⟨Nat.le_of_ble_eq_true rfl, Nat.le_of_ble_eq_true rfl⟩ rfl hl.1 rfl (Nat.le_of_ble_eq_true rfl) dX11_proofAt_9) (fun r_2 h_3 => ?_)
    subst h_3
    refine lv_icmp_lt (tgt := 19) hx hb dX11_proofAt_12 (by decide) (fun c_4 => False.elim (by have tc_4 : (v0.toInt : Int) < 0 := Int32.lt_iff_toInt_lt.mp c_4; omega)) (fun c_4 => ?_)
    have tc_4 : (0 : Int) ≤ v0.toInt := Int32.le_iff_toInt_le.mp (Int32.not_lt.mp c_4)
    refine lv_null hx hb dX11_proofAt_15 ?_
    refine lv_goto (tgt := 30) hx hb dX11_proofAt_16 (by decide) ?_
    exact W.aret (v := .null) hx hb hr (Or.inl ⟨_, rfl⟩) (Or.inl rfl) (fun t ht hW => ⟨none, rfl, rfl, ht⟩) (fun _ h => absurd h List.not_mem_nil) dX11_proofAt_30
set_option maxRecDepth 100000 in
set_option maxHeartbeats 4000000 in
theorem q_tapeLen (l : Launch) (D : va_G) (cI cB cZ : ClassId) (x b : Nat) (n : Int32) : Met l yX8_length (CWS yX8_length cX8_length 1 (some .int)) (RM 0 0 0) (PBr [.ref x] D cI cB cZ [(x, .inr (9, [.ref b, .int n]))]) (vp_Si (fun r => r = n)) 0 0 (fun _ => False) := by
  refine Met.ofW (cc := cX8_length) (maxL := 1) (ret := (some .int)) (by decide) rfl ?_
  intro p e s m args below meth c s₁ B hml hv
  obtain ⟨rfl, hP, hK⟩ := hv
  have hx := B.exec
  have hb := B.bytes
  have hr := B.returns
  have hts := atoms_spec (ws := (CWS yX8_length cX8_length 1 (some .int))) B.pre
  have hown : s.vm.findClass RX8 = some m.cls := findClass_of_methodNamed B.named
  have hlocks := B.notSynchronized
  have S : SF p m c cX8_length 1 s ([.ref x]).toArray RX8 := ⟨hx, hb, hml, hown, fun w h => hts w (List.mem_cons_of_mem _ h)⟩
  have hP : va_P D vwCl [(x, .inr (9, [.ref b, .int n]))] s.heap := hP
  have hl := lv_entry ([.ref x]) (n := 1) (Nat.le_of_ble_eq_true rfl)
  rw [lg_entry_eq]
  generalize (lg_sl ([.ref x]) ++ List.replicate (1 - (lg_sl ([.ref x])).length) Slot.unset).toArray = ls at hl ⊢
  have hl : lv_has ls 1 [(0, .ref x)] := hl
  refine lv_aload_n hx hb dX8_length_0 rfl (lv_at hl 0 rfl) ?_
  refine gf_RX8_13 S hK hP 0 rfl (v := .int n) rfl dX8_length_1 ?_
  exact W.iret (v := n) hx hb hr (fun t ht hW => ⟨n, rfl, rfl, ht⟩) (fun _ h => absurd h List.not_mem_nil) dX8_length_4
set_option maxRecDepth 100000 in
set_option maxHeartbeats 4000000 in
theorem q_isText (l : Launch) (D : va_G) (cI cB cZ : ClassId) (g : Nat → Nat) (v0 : Int32) : Met l yX11_isText (CWS yX11_isText cX11_isText 2 (some .boolean)) (RM 1 0 0) (PBr [.ref (g 0), .int v0] D cI cB cZ [((g 0), .inr (12, oX g)), ((g 5), .inr (9, [.ref (g 40), .int 0]))]) (vp_Si (fun r => r = 0)) 0 0 (fun _ => False) := by
  refine Met.ofW (cc := cX11_isText) (maxL := 2) (ret := (some .boolean)) (by decide) rfl ?_
  intro p e s m args below meth c s₁ B hml hv
  obtain ⟨rfl, hP, hK⟩ := hv
  have hx := B.exec
  have hb := B.bytes
  have hr := B.returns
  have hts := atoms_spec (ws := (CWS yX11_isText cX11_isText 2 (some .boolean))) B.pre
  have hown : s.vm.findClass RX11 = some m.cls := findClass_of_methodNamed B.named
  have hlocks := B.notSynchronized
  have S : SF p m c cX11_isText 2 s ([.ref (g 0), .int v0]).toArray RX11 := ⟨hx, hb, hml, hown, fun w h => hts w (List.mem_cons_of_mem _ h)⟩
  have hP : va_P D vwCl [((g 0), .inr (12, oX g)), ((g 5), .inr (9, [.ref (g 40), .int 0]))] s.heap := hP
  have hl := lv_entry ([.ref (g 0), .int v0]) (n := 2) (Nat.le_of_ble_eq_true rfl)
  rw [lg_entry_eq]
  generalize (lg_sl ([.ref (g 0), .int v0]) ++ List.replicate (2 - (lg_sl ([.ref (g 0), .int v0])).length) Slot.unset).toArray = ls at hl ⊢
  have hl : lv_has ls 2 [(0, .ref (g 0)), (1, .int v0)] := hl
  refine lv_iload_n hx hb dX11_isText_0 rfl (lv_at hl 1 rfl) ?_
  refine lv_iconst (v := 1) hx hb dX11_isText_1 (by decide) ?_
  refine lv_sipush (v := 160) hx hb dX11_isText_2 (by decide) ?_
  refine vp_callSi (runS_r (As := [.int v0, .int 1, .int 160]) (rest := []) S (q_within l D cI cB cZ v0 1 160) kS_RX11_80 hK hP [] rfl ⟨Nat.le_of_ble_eq_true rfl, Nat.le_of_ble_eq_true rfl⟩ ⟨Nat.le_of_ble_eq_true rfl, Nat.le_of_ble_eq_true rfl⟩ rfl hl.1 rfl (Nat.le_of_ble_eq_true rfl) dX11_isText_5) (fun r_1 h_2 => ?_)
  rcases h_2 with ⟨rfl, h_2⟩ | ⟨rfl, h_2⟩
  ·
    have h_2 : 1 ≤ v0.toInt ∧ v0.toInt ≤ 160 := h_2
    refine lv_if_eq (tgt := 26) hx hb dX11_isText_8 (by decide) (fun h => absurd h (by decide)) (fun _ => ?_)
    refine lv_iload_n hx hb dX11_isText_11 rfl (lv_at hl 1 rfl) ?_
    refine lv_aload_n hx hb dX11_isText_12 rfl (lv_at hl 0 rfl) ?_
    refine gf_RX11_21 S hK hP 0 rfl (v := .ref (g 5)) rfl dX11_isText_13 ?_
    refine vp_callSi (runV_r (As := []) (rest := [.int v0]) S (q_tapeLen l D cI cB cZ (g 5) (g 40) 0) kV_RX11_152 hK hP [1] rfl 1 rfl rfl rfl ⟨Nat.le_of_ble_eq_true rfl, Nat.le_of_ble_eq_true rfl⟩ ⟨Nat.le_of_ble_eq_true rfl, Nat.le_of_ble_eq_true rfl⟩ rfl hl.1 rfl (Nat.le_of_ble_eq_true rfl) dX11_isText_16) (fun r_3 h_4 => ?_)
    subst h_4
    refine lv_icmp_gt (tgt := 26) hx hb dX11_isText_19 (by decide) (fun c_5 => ?_) (fun c_5 => False.elim (by have tc_5 : (v0.toInt : Int) ≤ 0 := Int32.le_iff_toInt_le.mp (Int32.not_lt.mp c_5); omega))
    have tc_5 : (0 : Int) < v0.toInt := Int32.lt_iff_toInt_lt.mp c_5
    refine lv_iconst (v := 0) hx hb dX11_isText_26 (by decide) ?_
    exact W.zret (v := 0) hx hb hr rfl (fun t ht hW => ⟨0, rfl, rfl, ht⟩) (fun _ h => absurd h List.not_mem_nil) dX11_isText_27
  ·
    have h_2 : ¬ (1 ≤ v0.toInt ∧ v0.toInt ≤ 160) := h_2
    refine lv_if_eq (tgt := 26) hx hb dX11_isText_8 (by decide) (fun _ => ?_) (fun h => absurd h (by decide))
    refine lv_iconst (v := 0) hx hb dX11_isText_26 (by decide) ?_
    exact W.zret (v := 0) hx hb hr rfl (fun t ht hW => ⟨0, rfl, rfl, ht⟩) (fun _ h => absurd h List.not_mem_nil) dX11_isText_27
set_option maxRecDepth 100000 in
set_option maxHeartbeats 4000000 in
theorem q_choose (l : Launch) (D : va_G) (cI cB cZ : ClassId)  : Met l yX11_choose (CWS yX11_choose cX11_choose 6 (some .long)) (RM 1 0 0) (PBr [.int 0, .int 0] D cI cB cZ []) (vp_Sl (fun r => r = 1)) 0 0 (fun _ => False) := by
  refine Met.ofW (cc := cX11_choose) (maxL := 6) (ret := (some .long)) (by decide) rfl ?_
  intro p e s m args below meth c s₁ B hml hv
  obtain ⟨rfl, hP, hK⟩ := hv
  have hx := B.exec
  have hb := B.bytes
  have hr := B.returns
  have hts := atoms_spec (ws := (CWS yX11_choose cX11_choose 6 (some .long))) B.pre
  have hown : s.vm.findClass RX11 = some m.cls := findClass_of_methodNamed B.named
  have hlocks := B.notSynchronized
  have S : SF p m c cX11_choose 6 s ([.int 0, .int 0]).toArray RX11 := ⟨hx, hb, hml, hown, fun w h => hts w (List.mem_cons_of_mem _ h)⟩
  have hP : va_P D vwCl [] s.heap := hP
  have hl := lv_entry ([.int 0, .int 0]) (n := 6) (Nat.le_of_ble_eq_true rfl)
  rw [lg_entry_eq]
  generalize (lg_sl ([.int 0, .int 0]) ++ List.replicate (6 - (lg_sl ([.int 0, .int 0])).length) Slot.unset).toArray = ls at hl ⊢
  have hl : lv_has ls 6 [(0, .int 0), (1, .int 0)] := hl
  refine lv_iload_n hx hb dX11_choose_0 rfl (lv_at hl 1 rfl) ?_
  refine lv_if_lt (tgt := 9) hx hb dX11_choose_1 (by decide) (fun h => absurd h (by decide)) (fun _ => ?_)
  refine lv_iload_n hx hb dX11_choose_4 rfl (lv_at hl 1 rfl) ?_
  refine lv_iload_n hx hb dX11_choose_5 rfl (lv_at hl 0 rfl) ?_
  refine lv_icmp_le (tgt := 11) hx hb dX11_choose_6 (by decide) (fun _ => ?_) (fun h => absurd h (by decide))
  refine lv_lconst (v := 1) hx hb dX11_choose_11 (by decide) ?_
  refine lv_lstore_n (lv' := [(2, .long 1), (0, .int 0), (1, .int 0)]) hx hb dX11_choose_12 rfl hl (by decide) rfl (fun ls hl => ?_)
  refine lv_iload_n hx hb dX11_choose_13 rfl (lv_at hl 2 rfl) ?_
  refine lv_iload_n hx hb dX11_choose_14 rfl (lv_at hl 1 rfl) ?_
  refine lv_iload_n hx hb dX11_choose_15 rfl (lv_at hl 2 rfl) ?_
  refine lv_isub hx hb dX11_choose_16 ?_
  refine lv_topi (fun y_1 ey_1 => ?_)
  obtain rfl : y_1 = 0 := ey_1.trans (by decide)
  refine va_mmin hx hb (by rw [hml]; exact hl.1.symm) hown (S.2.2.2.2 _ (wT_tab 763 rfl rfl)) (S.2.2.2.2 _ (wT_tab 406 rfl rfl)) (S.2.2.2.2 _ (wT_tab 3 rfl rfl)) (S.2.2.2.2 _ (wT_tab 407 rfl rfl)) (Nat.le_of_ble_eq_true rfl) (Nat.le_of_ble_eq_true rfl) (Nat.le_of_ble_eq_true rfl) (Nat.le_of_ble_eq_true rfl) dX11_choose_17 ?_
  refine lv_topi (fun y_2 ey_2 => ?_)
  obtain rfl : y_2 = 0 := ey_2.trans (by decide)
  refine lv_istore (lv' := [(4, .int 0), (2, .long 1), (0, .int 0), (1, .int 0)]) hx hb dX11_choose_20 hl (by decide) rfl (fun ls hl => ?_)
  refine lv_iconst (v := 0) hx hb dX11_choose_22 (by decide) ?_
  refine lv_istore (lv' := [(5, .int 0), (4, .int 0), (2, .long 1), (0, .int 0), (1, .int 0)]) hx hb dX11_choose_23 hl (by decide) rfl (fun ls hl => ?_)
  refine lv_iload hx hb dX11_choose_25 (lv_at hl 0 rfl) ?_
  refine lv_iload hx hb dX11_choose_27 (lv_at hl 1 rfl) ?_
  refine lv_icmp_ge (tgt := 52) hx hb dX11_choose_29 (by decide) (fun _ => ?_) (fun h => absurd h (by decide))
  refine lv_lload_n hx hb dX11_choose_52 rfl (lv_at hl 2 rfl) ?_
  exact W.lret (v := 1) hx hb hr (fun t ht hW => ⟨1, rfl, rfl, ht⟩) (fun _ h => absurd h List.not_mem_nil) dX11_choose_53
set_option maxRecDepth 100000 in
set_option maxHeartbeats 4000000 in
theorem q_divisor (l : Launch) (D : va_G) (cI cB cZ : ClassId)  : Met l yX11_divisor (CWS yX11_divisor cX11_divisor 7 (some .long)) (RM 0 0 0) (PBr [.long 1, .long 1] D cI cB cZ []) (vp_Sl (fun r => r = 1)) 0 0 (fun _ => False) := by
  refine Met.ofW (cc := cX11_divisor) (maxL := 7) (ret := (some .long)) (by decide) rfl ?_
  intro p e s m args below meth c s₁ B hml hv
  obtain ⟨rfl, hP, hK⟩ := hv
  have hx := B.exec
  have hb := B.bytes
  have hr := B.returns
  have hts := atoms_spec (ws := (CWS yX11_divisor cX11_divisor 7 (some .long))) B.pre
  have hown : s.vm.findClass RX11 = some m.cls := findClass_of_methodNamed B.named
  have hlocks := B.notSynchronized
  have S : SF p m c cX11_divisor 7 s ([.long 1, .long 1]).toArray RX11 := ⟨hx, hb, hml, hown, fun w h => hts w (List.mem_cons_of_mem _ h)⟩
  have hP : va_P D vwCl [] s.heap := hP
  have hl := lv_entry ([.long 1, .long 1]) (n := 7) (Nat.le_of_ble_eq_true rfl)
  rw [lg_entry_eq]
  generalize (lg_sl ([.long 1, .long 1]) ++ List.replicate (7 - (lg_sl ([.long 1, .long 1])).length) Slot.unset).toArray = ls at hl ⊢
  have hl : lv_has ls 7 [(0, .long 1), (2, .long 1)] := hl
  refine lv_iconst (v := 0) hx hb dX11_divisor_0 (by decide) ?_
  refine lv_istore (lv' := [(4, .int 0), (0, .long 1), (2, .long 1)]) hx hb dX11_divisor_1 hl (by decide) rfl (fun ls hl => ?_)
  refine lv_iload hx hb dX11_divisor_3 (lv_at hl 0 rfl) ?_
  refine lv_sipush (v := 200) hx hb dX11_divisor_5 (by decide) ?_
  refine lv_icmp_ge (tgt := 33) hx hb dX11_divisor_8 (by decide) (fun h => absurd h (by decide)) (fun _ => ?_)
  refine lv_lload_n hx hb dX11_divisor_11 rfl (lv_at hl 2 rfl) ?_
  refine lv_lconst (v := 0) hx hb dX11_divisor_12 (by decide) ?_
  refine W.lcmp hx hb dX11_divisor_13 ?_
  refine lv_topi (fun y_1 ey_1 => ?_)
  obtain rfl : y_1 = 1 := ey_1.trans (by decide)
  refine lv_if_eq (tgt := 33) hx hb dX11_divisor_14 (by decide) (fun h => absurd h (by decide)) (fun _ => ?_)
  refine lv_lload_n hx hb dX11_divisor_17 rfl (lv_at hl 1 rfl) ?_
  refine lv_lload_n hx hb dX11_divisor_18 rfl (lv_at hl 2 rfl) ?_
  refine lv_lrem hx hb dX11_divisor_19 (by decide) ?_
  refine lv_topl (fun y_2 ey_2 => ?_)
  obtain rfl : y_2 = 0 := ey_2.trans (by decide)
  refine lv_lstore (lv' := [(5, .long 0), (4, .int 0), (0, .long 1), (2, .long 1)]) hx hb dX11_divisor_20 hl (by decide) rfl (fun ls hl => ?_)
  refine lv_lload_n hx hb dX11_divisor_22 rfl (lv_at hl 3 rfl) ?_
  refine lv_lstore_n (lv' := [(0, .long 1), (5, .long 0), (4, .int 0), (2, .long 1)]) hx hb dX11_divisor_23 rfl hl (by decide) rfl (fun ls hl => ?_)
  refine lv_lload hx hb dX11_divisor_24 (lv_at hl 1 rfl) ?_
  refine lv_lstore_n (lv' := [(2, .long 0), (0, .long 1), (5, .long 0), (4, .int 0)]) hx hb dX11_divisor_26 rfl hl (by decide) rfl (fun ls hl => ?_)
  refine lv_iinc (v := 1) (lv' := [(4, .int 1), (2, .long 0), (0, .long 1), (5, .long 0)]) hx hb dX11_divisor_27 hl (k := 3) rfl (by decide) (by decide) rfl (fun ls hl => ?_)
  refine lv_goto (tgt := 3) hx hb dX11_divisor_30 (by decide) ?_
  refine lv_iload hx hb dX11_divisor_3 (lv_at hl 0 rfl) ?_
  refine lv_sipush (v := 200) hx hb dX11_divisor_5 (by decide) ?_
  refine lv_icmp_ge (tgt := 33) hx hb dX11_divisor_8 (by decide) (fun h => absurd h (by decide)) (fun _ => ?_)
  refine lv_lload_n hx hb dX11_divisor_11 rfl (lv_at hl 1 rfl) ?_
  refine lv_lconst (v := 0) hx hb dX11_divisor_12 (by decide) ?_
  refine W.lcmp hx hb dX11_divisor_13 ?_
  refine lv_topi (fun y_3 ey_3 => ?_)
  obtain rfl : y_3 = 0 := ey_3.trans (by decide)
  refine lv_if_eq (tgt := 33) hx hb dX11_divisor_14 (by decide) (fun _ => ?_) (fun h => absurd h (by decide))
  refine lv_lload_n hx hb dX11_divisor_33 rfl (lv_at hl 2 rfl) ?_
  exact W.lret (v := 1) hx hb hr (fun t ht hW => ⟨1, rfl, rfl, ht⟩) (fun _ h => absurd h List.not_mem_nil) dX11_divisor_34
set_option maxRecDepth 100000 in
set_option maxHeartbeats 4000000 in
theorem q_odds (l : Launch) (D : va_G) (cI cB cZ : ClassId) (v4 : Int32) : Met l yX11_odds (CWS yX11_odds cX11_odds 11 (some .long)) (RM 2 0 0) (PBr [.int 0, .int 0, .int 0, .int 0, .int v4] D cI cB cZ []) (vp_Sl (fun r => r = (if v4.toInt = 2 then (0 : Int64) else 1))) 0 0 (fun _ => False) := by
  refine Met.ofW (cc := cX11_odds) (maxL := 11) (ret := (some .long)) (by decide) rfl ?_
  intro p e s m args below meth c s₁ B hml hv
  obtain ⟨rfl, hP, hK⟩ := hv
  have hx := B.exec
  have hb := B.bytes
  have hr := B.returns
  have hts := atoms_spec (ws := (CWS yX11_odds cX11_odds 11 (some .long))) B.pre
  have hown : s.vm.findClass RX11 = some m.cls := findClass_of_methodNamed B.named
  have hlocks := B.notSynchronized
  have S : SF p m c cX11_odds 11 s ([.int 0, .int 0, .int 0, .int 0, .int v4]).toArray RX11 := ⟨hx, hb, hml, hown, fun w h => hts w (List.mem_cons_of_mem _ h)⟩
  have hP : va_P D vwCl [] s.heap := hP
  have hl := lv_entry ([.int 0, .int 0, .int 0, .int 0, .int v4]) (n := 11) (Nat.le_of_ble_eq_true rfl)
  rw [lg_entry_eq]
  generalize (lg_sl ([.int 0, .int 0, .int 0, .int 0, .int v4]) ++ List.replicate (11 - (lg_sl ([.int 0, .int 0, .int 0, .int 0, .int v4])).length) Slot.unset).toArray = ls at hl ⊢
  have hl : lv_has ls 11 [(0, .int 0), (1, .int 0), (2, .int 0), (3, .int 0), (4, .int v4)] := hl
  refine lv_iload hx hb dX11_odds_0 (lv_at hl 4 rfl) ?_
  refine lv_iconst (v := 2) hx hb dX11_odds_2 (by decide) ?_
  refine lv_icmp_ne (tgt := 9) hx hb dX11_odds_3 (by decide) (fun c_1 => ?_) (fun c_1 => ?_)
  ·
    have tc_1 : (v4.toInt : Int) ≠ 2 := fun q => c_1 (Int32.toInt_inj.mp q)
    refine lv_lconst (v := 0) hx hb dX11_odds_9 (by decide) ?_
    refine lv_lstore (lv' := [(5, .long 0), (0, .int 0), (1, .int 0), (2, .int 0), (3, .int 0), (4, .int v4)]) hx hb dX11_odds_10 hl (by decide) rfl (fun ls hl => ?_)
    refine lv_iload_n hx hb dX11_odds_12 rfl (lv_at hl 3 rfl) ?_
    refine lv_istore (lv' := [(7, .int 0), (5, .long 0), (0, .int 0), (1, .int 0), (2, .int 0), (3, .int 0), (4, .int v4)]) hx hb dX11_odds_13 hl (by decide) rfl (fun ls hl => ?_)
    refine lv_iload hx hb dX11_odds_15 (lv_at hl 0 rfl) ?_
    refine lv_iload_n hx hb dX11_odds_17 rfl (lv_at hl 3 rfl) ?_
    refine lv_icmp_gt (tgt := 55) hx hb dX11_odds_18 (by decide) (fun h => absurd h (by decide)) (fun _ => ?_)
    refine lv_iload hx hb dX11_odds_21 (lv_at hl 0 rfl) ?_
    refine lv_iload_n hx hb dX11_odds_23 rfl (lv_at hl 2 rfl) ?_
    refine lv_icmp_gt (tgt := 55) hx hb dX11_odds_24 (by decide) (fun h => absurd h (by decide)) (fun _ => ?_)
    refine lv_lload hx hb dX11_odds_27 (lv_at hl 1 rfl) ?_
    refine lv_iload_n hx hb dX11_odds_29 rfl (lv_at hl 2 rfl) ?_
    refine lv_iload hx hb dX11_odds_30 (lv_at hl 0 rfl) ?_
    refine vp_callSl (runS_r (As := [.int 0, .int 0]) (rest := [.long 0]) S (q_choose l D cI cB cZ ) kS_RX11_246 hK hP [] rfl ⟨Nat.le_of_ble_eq_true rfl, Nat.le_of_ble_eq_true rfl⟩ ⟨Nat.le_of_ble_eq_true rfl, Nat.le_of_ble_eq_true rfl⟩ rfl hl.1 rfl (Nat.le_of_ble_eq_true rfl) dX11_odds_32) (fun r_2 h_3 => ?_)
    subst h_3
    refine lv_iload_n hx hb dX11_odds_35 rfl (lv_at hl 5 rfl) ?_
    refine lv_iload_n hx hb dX11_odds_36 rfl (lv_at hl 2 rfl) ?_
    refine lv_isub hx hb dX11_odds_37 ?_
    refine lv_topi (fun y_4 ey_4 => ?_)
    obtain rfl : y_4 = 0 := ey_4.trans (by decide)
    refine lv_iload_n hx hb dX11_odds_38 rfl (lv_at hl 3 rfl) ?_
    refine lv_iload hx hb dX11_odds_39 (lv_at hl 0 rfl) ?_
    refine lv_isub hx hb dX11_odds_41 ?_
    refine lv_topi (fun y_5 ey_5 => ?_)
    obtain rfl : y_5 = 0 := ey_5.trans (by decide)
    refine vp_callSl (runS_r (As := [.int 0, .int 0]) (rest := [.long 1, .long 0]) S (q_choose l D cI cB cZ ) kS_RX11_246 hK hP [] rfl ⟨Nat.le_of_ble_eq_true rfl, Nat.le_of_ble_eq_true rfl⟩ ⟨Nat.le_of_ble_eq_true rfl, Nat.le_of_ble_eq_true rfl⟩ rfl hl.1 rfl (Nat.le_of_ble_eq_true rfl) dX11_odds_42) (fun r_6 h_7 => ?_)
    subst h_7
    refine lv_lmul hx hb dX11_odds_45 ?_
    refine lv_topl (fun y_8 ey_8 => ?_)
    obtain rfl : y_8 = 1 := ey_8.trans (by decide)
    refine lv_ladd hx hb dX11_odds_46 ?_
    refine lv_topl (fun y_9 ey_9 => ?_)
    obtain rfl : y_9 = 1 := ey_9.trans (by decide)
    refine lv_lstore (lv' := [(5, .long 1), (7, .int 0), (0, .int 0), (1, .int 0), (2, .int 0), (3, .int 0), (4, .int v4)]) hx hb dX11_odds_47 hl (by decide) rfl (fun ls hl => ?_)
    refine lv_iinc (v := 1) (lv' := [(7, .int 1), (5, .long 1), (0, .int 0), (1, .int 0), (2, .int 0), (3, .int 0), (4, .int v4)]) hx hb dX11_odds_49 hl (k := 1) rfl (by decide) (by decide) rfl (fun ls hl => ?_)
    refine lv_goto (tgt := 15) hx hb dX11_odds_52 (by decide) ?_
    refine lv_iload hx hb dX11_odds_15 (lv_at hl 0 rfl) ?_
    refine lv_iload_n hx hb dX11_odds_17 rfl (lv_at hl 3 rfl) ?_
    refine lv_icmp_gt (tgt := 55) hx hb dX11_odds_18 (by decide) (fun _ => ?_) (fun h => absurd h (by decide))
    refine lv_iload_n hx hb dX11_odds_55 rfl (lv_at hl 5 rfl) ?_
    refine lv_iload_n hx hb dX11_odds_56 rfl (lv_at hl 3 rfl) ?_
    refine vp_callSl (runS_r (As := [.int 0, .int 0]) (rest := []) S (q_choose l D cI cB cZ ) kS_RX11_246 hK hP [] rfl ⟨Nat.le_of_ble_eq_true rfl, Nat.le_of_ble_eq_true rfl⟩ ⟨Nat.le_of_ble_eq_true rfl, Nat.le_of_ble_eq_true rfl⟩ rfl hl.1 rfl (Nat.le_of_ble_eq_true rfl) dX11_odds_57) (fun r_10 h_11 => ?_)
    subst h_11
    refine lv_lstore (lv' := [(7, .long 1), (5, .long 1), (0, .int 0), (1, .int 0), (2, .int 0), (3, .int 0), (4, .int v4)]) hx hb dX11_odds_60 hl (by decide) rfl (fun ls hl => ?_)
    refine lv_lload hx hb dX11_odds_62 (lv_at hl 1 rfl) ?_
    refine lv_lload hx hb dX11_odds_64 (lv_at hl 0 rfl) ?_
    refine vp_callSl (runS_r (As := [.long 1, .long 1]) (rest := []) S (q_divisor l D cI cB cZ ) kS_RX11_250 hK hP [] rfl ⟨Nat.le_of_ble_eq_true rfl, Nat.le_of_ble_eq_true rfl⟩ ⟨Nat.le_of_ble_eq_true rfl, Nat.le_of_ble_eq_true rfl⟩ rfl hl.1 rfl (Nat.le_of_ble_eq_true rfl) dX11_odds_66) (fun r_12 h_13 => ?_)
    subst h_13
    refine lv_lstore (lv' := [(9, .long 1), (7, .long 1), (5, .long 1), (0, .int 0), (1, .int 0), (2, .int 0), (3, .int 0), (4, .int v4)]) hx hb dX11_odds_69 hl (by decide) rfl (fun ls hl => ?_)
    refine lv_lload hx hb dX11_odds_71 (lv_at hl 0 rfl) ?_
    refine lv_lconst (v := 0) hx hb dX11_odds_73 (by decide) ?_
    refine W.lcmp hx hb dX11_odds_74 ?_
    refine lv_topi (fun y_14 ey_14 => ?_)
    obtain rfl : y_14 = 1 := ey_14.trans (by decide)
    refine lv_if_ne (tgt := 82) hx hb dX11_odds_75 (by decide) (fun _ => ?_) (fun h => absurd h (by decide))
    refine lv_iload hx hb dX11_odds_82 (lv_at hl 7 rfl) ?_
    refine lv_if_ne (tgt := 95) hx hb dX11_odds_84 (by decide) (fun c_15 => ?_) (fun c_15 => ?_)
    ·
      have tc_15 : (v4.toInt : Int) ≠ 0 := fun q => c_15 (Int32.toInt_inj.mp q)
      refine lv_lload hx hb dX11_odds_95 (lv_at hl 1 rfl) ?_
      refine lv_lload hx hb dX11_odds_97 (lv_at hl 0 rfl) ?_
      refine lv_ldiv hx hb dX11_odds_99 (by decide) ?_
      refine lv_topl (fun y_16 ey_16 => ?_)
      obtain rfl : y_16 = 1 := ey_16.trans (by decide)
      exact W.lret (v := 1) hx hb hr (fun t ht hW => ⟨1, rfl, (if_neg (by omega)).symm, ht⟩) (fun _ h => absurd h List.not_mem_nil) dX11_odds_100
    ·
      have tc_15 : (v4.toInt : Int) = 0 := congrArg Int32.toInt c_15
      refine lv_lload hx hb dX11_odds_87 (lv_at hl 2 rfl) ?_
      refine lv_lload hx hb dX11_odds_89 (lv_at hl 0 rfl) ?_
      refine lv_ldiv hx hb dX11_odds_91 (by decide) ?_
      refine lv_topl (fun y_17 ey_17 => ?_)
      obtain rfl : y_17 = 1 := ey_17.trans (by decide)
      refine lv_goto (tgt := 100) hx hb dX11_odds_92 (by decide) ?_
      exact W.lret (v := 1) hx hb hr (fun t ht hW => ⟨1, rfl, (if_neg (by omega)).symm, ht⟩) (fun _ h => absurd h List.not_mem_nil) dX11_odds_100
  ·
    have tc_1 : (v4.toInt : Int) = 2 := congrArg Int32.toInt c_1
    refine lv_iload_n hx hb dX11_odds_6 rfl (lv_at hl 2 rfl) ?_
    refine lv_i2l (v := 0) hx hb dX11_odds_7 (by decide) ?_
    exact W.lret (v := 0) hx hb hr (fun t ht hW => ⟨0, rfl, (if_pos (by omega)).symm, ht⟩) (fun _ h => absurd h List.not_mem_nil) dX11_odds_8
set_option maxRecDepth 100000 in
set_option maxHeartbeats 4000000 in
theorem q_startTrial (l : Launch) (D : va_G) (cI cB cZ : ClassId) (g : Nat → Nat) (v0 : Int32) : Met l yX11_startTrial (CWS yX11_startTrial cX11_startTrial 5 (some .boolean)) (RM 1 0 0) (PBr [.ref (g 0), .int v0] D cI cB cZ [((g 0), .inr (12, oX g)), ((g 10), .inr (0, [.int 0, .ref (g 50), .int 0]))]) (vp_Si (fun r => r = 1)) 0 0 (fun _ => False) := by
  refine Met.ofW (cc := cX11_startTrial) (maxL := 5) (ret := (some .boolean)) (by decide) rfl ?_
  intro p e s m args below meth c s₁ B hml hv
  obtain ⟨rfl, hP, hK⟩ := hv
  have hx := B.exec
  have hb := B.bytes
  have hr := B.returns
  have hts := atoms_spec (ws := (CWS yX11_startTrial cX11_startTrial 5 (some .boolean))) B.pre
  have hown : s.vm.findClass RX11 = some m.cls := findClass_of_methodNamed B.named
  have hlocks := B.notSynchronized
  have S : SF p m c cX11_startTrial 5 s ([.ref (g 0), .int v0]).toArray RX11 := ⟨hx, hb, hml, hown, fun w h => hts w (List.mem_cons_of_mem _ h)⟩
  have hP : va_P D vwCl [((g 0), .inr (12, oX g)), ((g 10), .inr (0, [.int 0, .ref (g 50), .int 0]))] s.heap := hP
  have hl := lv_entry ([.ref (g 0), .int v0]) (n := 5) (Nat.le_of_ble_eq_true rfl)
  rw [lg_entry_eq]
  generalize (lg_sl ([.ref (g 0), .int v0]) ++ List.replicate (5 - (lg_sl ([.ref (g 0), .int v0])).length) Slot.unset).toArray = ls at hl ⊢
  have hl : lv_has ls 5 [(0, .ref (g 0)), (1, .int v0)] := hl
  refine lv_iconst (v := 0) hx hb dX11_startTrial_0 (by decide) ?_
  refine lv_istore_n (lv' := [(2, .int 0), (0, .ref (g 0)), (1, .int v0)]) hx hb dX11_startTrial_1 rfl hl (by decide) rfl (fun ls hl => ?_)
  refine lv_iconst (v := 0) hx hb dX11_startTrial_2 (by decide) ?_
  refine lv_istore_n (lv' := [(3, .int 0), (2, .int 0), (0, .ref (g 0)), (1, .int v0)]) hx hb dX11_startTrial_3 rfl hl (by decide) rfl (fun ls hl => ?_)
  refine lv_iload_n hx hb dX11_startTrial_4 rfl (lv_at hl 0 rfl) ?_
  refine lv_aload_n hx hb dX11_startTrial_5 rfl (lv_at hl 2 rfl) ?_
  refine gf_RX11_61 S hK hP 0 rfl (v := .ref (g 10)) rfl dX11_startTrial_6 ?_
  refine vp_callSi (runV_r (As := []) (rest := [.int 0]) S (q_size l D cI cB cZ (g 10) (g 50) 0 0) kV_RX11_84 hK hP [1] rfl 1 rfl rfl rfl ⟨Nat.le_of_ble_eq_true rfl, Nat.le_of_ble_eq_true rfl⟩ ⟨Nat.le_of_ble_eq_true rfl, Nat.le_of_ble_eq_true rfl⟩ rfl hl.1 rfl (Nat.le_of_ble_eq_true rfl) dX11_startTrial_9) (fun r_1 h_2 => ?_)
  subst h_2
  refine lv_icmp_ge (tgt := 63) hx hb dX11_startTrial_12 (by decide) (fun _ => ?_) (fun h => absurd h (by decide))
  refine lv_iload_n hx hb dX11_startTrial_63 rfl (lv_at hl 1 rfl) ?_
  refine lv_if_ne (tgt := 71) hx hb dX11_startTrial_64 (by decide) (fun h => absurd h (by decide)) (fun _ => ?_)
  refine lv_iconst (v := 1) hx hb dX11_startTrial_67 (by decide) ?_
  refine lv_goto (tgt := 72) hx hb dX11_startTrial_68 (by decide) ?_
  exact W.zret (v := 1) hx hb hr rfl (fun t ht hW => ⟨1, rfl, rfl, ht⟩) (fun _ h => absurd h List.not_mem_nil) dX11_startTrial_72
set_option maxRecDepth 100000 in
set_option maxHeartbeats 4000000 in
theorem q_way (l : Launch) (D : va_G) (cI cB cZ : ClassId)  : Met l yX10_way (CWS yX10_way cX10_way 4 (some .int)) (RM 1 0 0) (PBr [.int 0, .int 0, .int 0, .int 0] D cI cB cZ []) (vp_Si (fun r => r = 0)) 0 0 (fun _ => False) := by
  refine Met.ofW (cc := cX10_way) (maxL := 4) (ret := (some .int)) (by decide) rfl ?_
  intro p e s m args below meth c s₁ B hml hv
  obtain ⟨rfl, hP, hK⟩ := hv
  have hx := B.exec
  have hb := B.bytes
  have hr := B.returns
  have hts := atoms_spec (ws := (CWS yX10_way cX10_way 4 (some .int))) B.pre
  have hown : s.vm.findClass RX10 = some m.cls := findClass_of_methodNamed B.named
  have hlocks := B.notSynchronized
  have S : SF p m c cX10_way 4 s ([.int 0, .int 0, .int 0, .int 0]).toArray RX10 := ⟨hx, hb, hml, hown, fun w h => hts w (List.mem_cons_of_mem _ h)⟩
  have hP : va_P D vwCl [] s.heap := hP
  have hl := lv_entry ([.int 0, .int 0, .int 0, .int 0]) (n := 4) (Nat.le_of_ble_eq_true rfl)
  rw [lg_entry_eq]
  generalize (lg_sl ([.int 0, .int 0, .int 0, .int 0]) ++ List.replicate (4 - (lg_sl ([.int 0, .int 0, .int 0, .int 0])).length) Slot.unset).toArray = ls at hl ⊢
  have hl : lv_has ls 4 [(0, .int 0), (1, .int 0), (2, .int 0), (3, .int 0)] := hl
  refine lv_iload_n hx hb dX10_way_0 rfl (lv_at hl 0 rfl) ?_
  refine lv_iload_n hx hb dX10_way_1 rfl (lv_at hl 2 rfl) ?_
  refine lv_isub hx hb dX10_way_2 ?_
  refine lv_topi (fun y_1 ey_1 => ?_)
  obtain rfl : y_1 = 0 := ey_1.trans (by decide)
  refine va_mabs hx hb (by rw [hml]; exact hl.1.symm) hown (S.2.2.2.2 _ (wT_tab 844 rfl rfl)) (S.2.2.2.2 _ (wT_tab 845 rfl rfl)) (S.2.2.2.2 _ (wT_tab 3 rfl rfl)) (S.2.2.2.2 _ (wT_tab 846 rfl rfl)) (Nat.le_of_ble_eq_true rfl) (Nat.le_of_ble_eq_true rfl) (Nat.le_of_ble_eq_true rfl) (Nat.le_of_ble_eq_true rfl) dX10_way_3 ?_
  refine lv_topi (fun y_2 ey_2 => ?_)
  obtain rfl : y_2 = 0 := ey_2.trans (by decide)
  refine lv_iload_n hx hb dX10_way_6 rfl (lv_at hl 1 rfl) ?_
  refine lv_iload_n hx hb dX10_way_7 rfl (lv_at hl 3 rfl) ?_
  refine lv_isub hx hb dX10_way_8 ?_
  refine lv_topi (fun y_3 ey_3 => ?_)
  obtain rfl : y_3 = 0 := ey_3.trans (by decide)
  refine va_mabs hx hb (by rw [hml]; exact hl.1.symm) hown (S.2.2.2.2 _ (wT_tab 844 rfl rfl)) (S.2.2.2.2 _ (wT_tab 845 rfl rfl)) (S.2.2.2.2 _ (wT_tab 3 rfl rfl)) (S.2.2.2.2 _ (wT_tab 846 rfl rfl)) (Nat.le_of_ble_eq_true rfl) (Nat.le_of_ble_eq_true rfl) (Nat.le_of_ble_eq_true rfl) (Nat.le_of_ble_eq_true rfl) dX10_way_9 ?_
  refine lv_topi (fun y_4 ey_4 => ?_)
  obtain rfl : y_4 = 0 := ey_4.trans (by decide)
  refine lv_iadd hx hb dX10_way_12 ?_
  refine lv_topi (fun y_5 ey_5 => ?_)
  obtain rfl : y_5 = 0 := ey_5.trans (by decide)
  exact W.iret (v := 0) hx hb hr (fun t ht hW => ⟨0, rfl, rfl, ht⟩) (fun _ h => absurd h List.not_mem_nil) dX10_way_13
set_option maxRecDepth 100000 in
set_option maxHeartbeats 4000000 in
theorem q_between (l : Launch) (D : va_G) (cI cB cZ : ClassId) (g : Nat → Nat) : Met l yX10_between (CWS yX10_between cX10_between 3 (some .int)) (RM 2 0 0) (PBr [.ref (g 9), .int (-1), .int (-1)] D cI cB cZ [((g 9), .inr (11, oW g)), ((g 32), .inl (cI, 8, .inl (fun _ => 0))), ((g 33), .inl (cI, 8, .inl (fun _ => 0)))]) (vp_Si (fun r => r = 0)) 0 0 (fun _ => False) := by
  refine Met.ofW (cc := cX10_between) (maxL := 3) (ret := (some .int)) (by decide) rfl ?_
  intro p e s m args below meth c s₁ B hml hv
  obtain ⟨rfl, hP, hK⟩ := hv
  have hx := B.exec
  have hb := B.bytes
  have hr := B.returns
  have hts := atoms_spec (ws := (CWS yX10_between cX10_between 3 (some .int))) B.pre
  have hown : s.vm.findClass RX10 = some m.cls := findClass_of_methodNamed B.named
  have hlocks := B.notSynchronized
  have S : SF p m c cX10_between 3 s ([.ref (g 9), .int (-1), .int (-1)]).toArray RX10 := ⟨hx, hb, hml, hown, fun w h => hts w (List.mem_cons_of_mem _ h)⟩
  have hP : va_P D vwCl [((g 9), .inr (11, oW g)), ((g 32), .inl (cI, 8, .inl (fun _ => 0))), ((g 33), .inl (cI, 8, .inl (fun _ => 0)))] s.heap := hP
  have hl := lv_entry ([.ref (g 9), .int (-1), .int (-1)]) (n := 3) (Nat.le_of_ble_eq_true rfl)
  rw [lg_entry_eq]
  generalize (lg_sl ([.ref (g 9), .int (-1), .int (-1)]) ++ List.replicate (3 - (lg_sl ([.ref (g 9), .int (-1), .int (-1)])).length) Slot.unset).toArray = ls at hl ⊢
  have hl : lv_has ls 3 [(0, .ref (g 9)), (1, .int (-1)), (2, .int (-1))] := hl
  refine lv_aload_n hx hb dX10_between_0 rfl (lv_at hl 0 rfl) ?_
  refine gf_RX10_18 S hK hP 0 rfl (v := .ref (g 32)) rfl dX10_between_1 ?_
  refine lv_iload_n hx hb dX10_between_4 rfl (lv_at hl 1 rfl) ?_
  refine vp_callSi (runS_r (As := [.ref (g 32), .int (-1)]) (rest := []) S (q_at0 l D cI cB cZ (g 32) 8 (-1) (by omega)) kS_RX10_54 hK hP [1] rfl ⟨Nat.le_of_ble_eq_true rfl, Nat.le_of_ble_eq_true rfl⟩ ⟨Nat.le_of_ble_eq_true rfl, Nat.le_of_ble_eq_true rfl⟩ rfl hl.1 rfl (Nat.le_of_ble_eq_true rfl) dX10_between_5) (fun r_1 h_2 => ?_)
  subst h_2
  refine lv_aload_n hx hb dX10_between_8 rfl (lv_at hl 0 rfl) ?_
  refine gf_RX10_21 S hK hP 0 rfl (v := .ref (g 33)) rfl dX10_between_9 ?_
  refine lv_iload_n hx hb dX10_between_12 rfl (lv_at hl 1 rfl) ?_
  refine vp_callSi (runS_r (As := [.ref (g 33), .int (-1)]) (rest := [.int 0]) S (q_at0 l D cI cB cZ (g 33) 8 (-1) (by omega)) kS_RX10_54 hK hP [2] rfl ⟨Nat.le_of_ble_eq_true rfl, Nat.le_of_ble_eq_true rfl⟩ ⟨Nat.le_of_ble_eq_true rfl, Nat.le_of_ble_eq_true rfl⟩ rfl hl.1 rfl (Nat.le_of_ble_eq_true rfl) dX10_between_13) (fun r_3 h_4 => ?_)
  subst h_4
  refine lv_aload_n hx hb dX10_between_16 rfl (lv_at hl 0 rfl) ?_
  refine gf_RX10_18 S hK hP 0 rfl (v := .ref (g 32)) rfl dX10_between_17 ?_
  refine lv_iload_n hx hb dX10_between_20 rfl (lv_at hl 2 rfl) ?_
  refine vp_callSi (runS_r (As := [.ref (g 32), .int (-1)]) (rest := [.int 0, .int 0]) S (q_at0 l D cI cB cZ (g 32) 8 (-1) (by omega)) kS_RX10_54 hK hP [1] rfl ⟨Nat.le_of_ble_eq_true rfl, Nat.le_of_ble_eq_true rfl⟩ ⟨Nat.le_of_ble_eq_true rfl, Nat.le_of_ble_eq_true rfl⟩ rfl hl.1 rfl (Nat.le_of_ble_eq_true rfl) dX10_between_21) (fun r_5 h_6 => ?_)
  subst h_6
  refine lv_aload_n hx hb dX10_between_24 rfl (lv_at hl 0 rfl) ?_
  refine gf_RX10_21 S hK hP 0 rfl (v := .ref (g 33)) rfl dX10_between_25 ?_
  refine lv_iload_n hx hb dX10_between_28 rfl (lv_at hl 2 rfl) ?_
  refine vp_callSi (runS_r (As := [.ref (g 33), .int (-1)]) (rest := [.int 0, .int 0, .int 0]) S (q_at0 l D cI cB cZ (g 33) 8 (-1) (by omega)) kS_RX10_54 hK hP [2] rfl ⟨Nat.le_of_ble_eq_true rfl, Nat.le_of_ble_eq_true rfl⟩ ⟨Nat.le_of_ble_eq_true rfl, Nat.le_of_ble_eq_true rfl⟩ rfl hl.1 rfl (Nat.le_of_ble_eq_true rfl) dX10_between_29) (fun r_7 h_8 => ?_)
  subst h_8
  refine vp_callSi (runS_r (As := [.int 0, .int 0, .int 0, .int 0]) (rest := []) S (q_way l D cI cB cZ ) kS_RX10_58 hK hP [] rfl ⟨Nat.le_of_ble_eq_true rfl, Nat.le_of_ble_eq_true rfl⟩ ⟨Nat.le_of_ble_eq_true rfl, Nat.le_of_ble_eq_true rfl⟩ rfl hl.1 rfl (Nat.le_of_ble_eq_true rfl) dX10_between_32) (fun r_9 h_10 => ?_)
  subst h_10
  exact W.iret (v := 0) hx hb hr (fun t ht hW => ⟨0, rfl, rfl, ht⟩) (fun _ h => absurd h List.not_mem_nil) dX10_between_35
set_option maxRecDepth 100000 in
set_option maxHeartbeats 4000000 in
theorem q_shortest (l : Launch) (D : va_G) (cI cB cZ : ClassId) (g : Nat → Nat) : Met l yX10_shortest (CWS yX10_shortest cX10_shortest 6 (some .int)) (RM 3 0 0) (PBr [.ref (g 9), .int (-1), .int 0] D cI cB cZ [((g 9), .inr (11, oW g)), ((g 32), .inl (cI, 8, .inl (fun _ => 0))), ((g 33), .inl (cI, 8, .inl (fun _ => 0)))]) (vp_Si (fun r => r = 0)) 0 0 (fun _ => False) := by
  refine Met.ofW (cc := cX10_shortest) (maxL := 6) (ret := (some .int)) (by decide) rfl ?_
  intro p e s m args below meth c s₁ B hml hv
  obtain ⟨rfl, hP, hK⟩ := hv
  have hx := B.exec
  have hb := B.bytes
  have hr := B.returns
  have hts := atoms_spec (ws := (CWS yX10_shortest cX10_shortest 6 (some .int))) B.pre
  have hown : s.vm.findClass RX10 = some m.cls := findClass_of_methodNamed B.named
  have hlocks := B.notSynchronized
  have S : SF p m c cX10_shortest 6 s ([.ref (g 9), .int (-1), .int 0]).toArray RX10 := ⟨hx, hb, hml, hown, fun w h => hts w (List.mem_cons_of_mem _ h)⟩
  have hP : va_P D vwCl [((g 9), .inr (11, oW g)), ((g 32), .inl (cI, 8, .inl (fun _ => 0))), ((g 33), .inl (cI, 8, .inl (fun _ => 0)))] s.heap := hP
  have hl := lv_entry ([.ref (g 9), .int (-1), .int 0]) (n := 6) (Nat.le_of_ble_eq_true rfl)
  rw [lg_entry_eq]
  generalize (lg_sl ([.ref (g 9), .int (-1), .int 0]) ++ List.replicate (6 - (lg_sl ([.ref (g 9), .int (-1), .int 0])).length) Slot.unset).toArray = ls at hl ⊢
  have hl : lv_has ls 6 [(0, .ref (g 9)), (1, .int (-1)), (2, .int 0)] := hl
  refine lv_iconst (v := (-1)) hx hb dX10_shortest_0 (by decide) ?_
  refine lv_istore_n (lv' := [(3, .int (-1)), (0, .ref (g 9)), (1, .int (-1)), (2, .int 0)]) hx hb dX10_shortest_1 rfl hl (by decide) rfl (fun ls hl => ?_)
  refine lv_iconst (v := 0) hx hb dX10_shortest_2 (by decide) ?_
  refine lv_istore (lv' := [(4, .int 0), (3, .int (-1)), (0, .ref (g 9)), (1, .int (-1)), (2, .int 0)]) hx hb dX10_shortest_3 hl (by decide) rfl (fun ls hl => ?_)
  refine lv_iload hx hb dX10_shortest_5 (lv_at hl 0 rfl) ?_
  refine lv_aload_n hx hb dX10_shortest_7 rfl (lv_at hl 2 rfl) ?_
  refine gf_RX10_36 S hK hP 0 rfl (v := .int 0) rfl dX10_shortest_8 ?_
  refine lv_icmp_ge (tgt := 57) hx hb dX10_shortest_11 (by decide) (fun _ => ?_) (fun h => absurd h (by decide))
  refine lv_iload_n hx hb dX10_shortest_57 rfl (lv_at hl 1 rfl) ?_
  refine lv_iconst (v := (-1)) hx hb dX10_shortest_58 (by decide) ?_
  refine lv_icmp_ne (tgt := 71) hx hb dX10_shortest_59 (by decide) (fun h => absurd h (by decide)) (fun _ => ?_)
  refine lv_aload_n hx hb dX10_shortest_62 rfl (lv_at hl 2 rfl) ?_
  refine lv_iload_n hx hb dX10_shortest_63 rfl (lv_at hl 3 rfl) ?_
  refine lv_iconst (v := (-1)) hx hb dX10_shortest_64 (by decide) ?_
  refine vp_callSi (runV_r (As := [.int (-1), .int (-1)]) (rest := []) S (q_between l D cI cB cZ g) kV_RX10_66 hK hP [0, 1, 2] rfl 0 rfl rfl rfl ⟨Nat.le_of_ble_eq_true rfl, Nat.le_of_ble_eq_true rfl⟩ ⟨Nat.le_of_ble_eq_true rfl, Nat.le_of_ble_eq_true rfl⟩ rfl hl.1 rfl (Nat.le_of_ble_eq_true rfl) dX10_shortest_65) (fun r_1 h_2 => ?_)
  subst h_2
  refine lv_goto (tgt := 72) hx hb dX10_shortest_68 (by decide) ?_
  exact W.iret (v := 0) hx hb hr (fun t ht hW => ⟨0, rfl, rfl, ht⟩) (fun _ h => absurd h List.not_mem_nil) dX10_shortest_72
set_option maxRecDepth 100000 in
set_option maxHeartbeats 4000000 in
theorem q_solve (l : Launch) (D : va_G) (cI cB cZ : ClassId) (g : Nat → Nat) (sz : Nat) : Met l yX10_solve (CWS yX10_solve cX10_solve 3 none) (RM 4 0 0) (PBw [.ref (g 9)] D cI cB cZ [((g 9), .inr (11, oW g)), ((g 32), .inl (cI, 8, .inl (fun _ => 0))), ((g 33), .inl (cI, 8, .inl (fun _ => 0))), ((g 35), .inl (cI, 256, .inl (fun _ => 0)))] sz) (va_Qv (fun (_ : Unit) => True) (fun (u : Unit) (t : State) => va_P D vwCl [((g 9), .inr (11, oW g)), ((g 32), .inl (cI, 8, .inl (fun _ => 0))), ((g 33), .inl (cI, 8, .inl (fun _ => 0))), ((g 35), .inl (cI, 256, .inl (fun _ => 0)))] t.heap ∧ va_D (va_A [((g 9), .inr (11, oW g)), ((g 32), .inl (cI, 8, .inl (fun _ => 0))), ((g 33), .inl (cI, 8, .inl (fun _ => 0))), ((g 35), .inl (cI, 256, .inl (fun _ => 0)))] sz) [((g 9), .inr (11, oW g)), ((g 32), .inl (cI, 8, .inl (fun _ => 0))), ((g 33), .inl (cI, 8, .inl (fun _ => 0))), ((g 35), .inl (cI, 256, .inl (fun _ => 0)))]) (va_A [((g 9), .inr (11, oW g)), ((g 32), .inl (cI, 8, .inl (fun _ => 0))), ((g 33), .inl (cI, 8, .inl (fun _ => 0))), ((g 35), .inl (cI, 256, .inl (fun _ => 0)))] sz)) 0 0 (va_A [((g 9), .inr (11, oW g)), ((g 32), .inl (cI, 8, .inl (fun _ => 0))), ((g 33), .inl (cI, 8, .inl (fun _ => 0))), ((g 35), .inl (cI, 256, .inl (fun _ => 0)))] sz) := by
  refine Met.ofW (cc := cX10_solve) (maxL := 3) (ret := none) (by decide) rfl ?_
  intro p e s m args below meth c s₁ B hml hv
  obtain ⟨rfl, hsz, hP, hK, hD0⟩ := hv
  have hx := B.exec
  have hb := B.bytes
  have hr := B.returns
  have hts := atoms_spec (ws := (CWS yX10_solve cX10_solve 3 none)) B.pre
  have hown : s.vm.findClass RX10 = some m.cls := findClass_of_methodNamed B.named
  have hlocks := B.notSynchronized
  have S : SF p m c cX10_solve 3 s ([.ref (g 9)]).toArray RX10 := ⟨hx, hb, hml, hown, fun w h => hts w (List.mem_cons_of_mem _ h)⟩
  subst hsz
  have hD := hD0.self (sz := s.heap.size)
  generalize hAe : va_A [((g 9), .inr (11, oW g)), ((g 32), .inl (cI, 8, .inl (fun _ => 0))), ((g 33), .inl (cI, 8, .inl (fun _ => 0))), ((g 35), .inl (cI, 256, .inl (fun _ => 0)))] s.heap.size = A at hD ⊢
  have hA : ∀ q : Nat, s.heap.size ≤ q → A q := fun q h => by rw [← hAe]; exact Or.inr h
  have hS : va_S A s.heap s.heap [] := va_S.rf
  have hP : va_P D vwCl [((g 9), .inr (11, oW g)), ((g 32), .inl (cI, 8, .inl (fun _ => 0))), ((g 33), .inl (cI, 8, .inl (fun _ => 0))), ((g 35), .inl (cI, 256, .inl (fun _ => 0)))] s.heap := hP
  have hD : va_D A [((g 9), .inr (11, oW g)), ((g 32), .inl (cI, 8, .inl (fun _ => 0))), ((g 33), .inl (cI, 8, .inl (fun _ => 0))), ((g 35), .inl (cI, 256, .inl (fun _ => 0)))] := hD
  have hl := lv_entry ([.ref (g 9)]) (n := 3) (Nat.le_of_ble_eq_true rfl)
  rw [lg_entry_eq]
  generalize (lg_sl ([.ref (g 9)]) ++ List.replicate (3 - (lg_sl ([.ref (g 9)])).length) Slot.unset).toArray = ls at hl ⊢
  have hl : lv_has ls 3 [(0, .ref (g 9))] := hl
  refine lv_iconst (v := 0) hx hb dX10_solve_0 (by decide) ?_
  refine lv_istore_n (lv' := [(1, .int 0), (0, .ref (g 9))]) hx hb dX10_solve_1 rfl hl (by decide) rfl (fun ls hl => ?_)
  refine lv_iload_n hx hb dX10_solve_2 rfl (lv_at hl 0 rfl) ?_
  refine lv_iconst (v := 1) hx hb dX10_solve_3 (by decide) ?_
  refine lv_aload_n hx hb dX10_solve_4 rfl (lv_at hl 1 rfl) ?_
  refine gf_RX10_36 S hK hP 0 rfl (v := .int 0) rfl dX10_solve_5 ?_
  refine lv_ishl hx hb dX10_solve_8 ?_
  refine lv_topi (fun y_1 ey_1 => ?_)
  obtain rfl : y_1 = 1 := ey_1.trans (by decide)
  refine lv_icmp_ge (tgt := 75) hx hb dX10_solve_9 (by decide) (fun h => absurd h (by decide)) (fun _ => ?_)
  refine lv_iconst (v := 0) hx hb dX10_solve_12 (by decide) ?_
  refine lv_istore_n (lv' := [(2, .int 0), (1, .int 0), (0, .ref (g 9))]) hx hb dX10_solve_13 rfl hl (by decide) rfl (fun ls hl => ?_)
  refine lv_iload_n hx hb dX10_solve_14 rfl (lv_at hl 0 rfl) ?_
  refine lv_aload_n hx hb dX10_solve_15 rfl (lv_at hl 2 rfl) ?_
  refine gf_RX10_36 S hK hP 0 rfl (v := .int 0) rfl dX10_solve_16 ?_
  refine lv_icmp_ge (tgt := 55) hx hb dX10_solve_19 (by decide) (fun _ => ?_) (fun h => absurd h (by decide))
  refine lv_aload_n hx hb dX10_solve_55 rfl (lv_at hl 2 rfl) ?_
  refine gf_RX10_27 S hK hP 0 rfl (v := .ref (g 35)) rfl dX10_solve_56 ?_
  refine lv_iload_n hx hb dX10_solve_59 rfl (lv_at hl 1 rfl) ?_
  refine lv_aload_n hx hb dX10_solve_60 rfl (lv_at hl 2 rfl) ?_
  refine lv_iconst (v := (-1)) hx hb dX10_solve_61 (by decide) ?_
  refine lv_iload_n hx hb dX10_solve_62 rfl (lv_at hl 1 rfl) ?_
  refine vp_callSi (runV_r (As := [.int (-1), .int 0]) (rest := [.int 0, .ref (g 35)]) S (q_shortest l D cI cB cZ g) kV_RX10_62 hK hP [0, 1, 2] rfl 0 rfl rfl rfl ⟨Nat.le_of_ble_eq_true rfl, Nat.le_of_ble_eq_true rfl⟩ ⟨Nat.le_of_ble_eq_true rfl, Nat.le_of_ble_eq_true rfl⟩ rfl hl.1 rfl (Nat.le_of_ble_eq_true rfl) dX10_solve_63) (fun r_2 h_3 => ?_)
  subst h_3
  have hFc := va_free (wc := [((g 35), .inl (cI, 256, .inl (fun _ => 0)))]) hD hS hA [3] rfl
  refine va_callv (runS_w (As := [.ref (g 35), .int 0, .int 0]) (rest := []) S (q_put0 l D cI cB cZ (g 35) 256 0 s.heap.size (by omega)) kS_RX10_40 hK hP hD [3] rfl rfl (by decide) ⟨Nat.le_of_ble_eq_true rfl, Nat.le_of_ble_eq_true rfl⟩ ⟨Nat.le_of_ble_eq_true rfl, Nat.le_of_ble_eq_true rfl⟩ rfl hl.1 rfl (Nat.le_of_ble_eq_true rfl) dX10_solve_66) hS (fun q _ h => hFc q h) hFc (fun u_5 t H1 locs ht hvm h_6 hB hz1 hk1 hS => ?_)
  obtain ⟨hP1, hD1⟩ := hB
  rw [ht] at hP1
  obtain ⟨hP, hD⟩ := va_join (wr := [((g 9), .inr (11, oW g)), ((g 32), .inl (cI, 8, .inl (fun _ => 0))), ((g 33), .inl (cI, 8, .inl (fun _ => 0)))]) (w1 := [((g 35), .inl (cI, 256, .inl (fun _ => 0)))]) hP hD [3] [0, 1, 2] rfl rfl (by decide) (by decide) hk1 hFc hP1 hD1
  generalize H1 = H at hP hS ⊢
  have hP : va_P D vwCl [((g 9), .inr (11, oW g)), ((g 32), .inl (cI, 8, .inl (fun _ => 0))), ((g 33), .inl (cI, 8, .inl (fun _ => 0))), ((g 35), .inl (cI, 256, .inl (fun _ => 0)))] H := hP
  have hD : va_D A [((g 9), .inr (11, oW g)), ((g 32), .inl (cI, 8, .inl (fun _ => 0))), ((g 33), .inl (cI, 8, .inl (fun _ => 0))), ((g 35), .inl (cI, 256, .inl (fun _ => 0)))] := hD
  refine lv_iinc (v := 1) (lv' := [(1, .int 1), (2, .int 0), (0, .ref (g 9))]) hx hb dX10_solve_69 hl (k := 1) rfl (by decide) (by decide) rfl (fun ls hl => ?_)
  refine lv_goto (tgt := 2) hx hb dX10_solve_72 (by decide) ?_
  refine lv_iload_n hx hb dX10_solve_2 rfl (lv_at hl 0 rfl) ?_
  refine lv_iconst (v := 1) hx hb dX10_solve_3 (by decide) ?_
  refine lv_aload_n hx hb dX10_solve_4 rfl (lv_at hl 2 rfl) ?_
  refine gf_RX10_36 S hK hP 0 rfl (v := .int 0) rfl dX10_solve_5 ?_
  refine lv_ishl hx hb dX10_solve_8 ?_
  refine lv_topi (fun y_7 ey_7 => ?_)
  obtain rfl : y_7 = 1 := ey_7.trans (by decide)
  refine lv_icmp_ge (tgt := 75) hx hb dX10_solve_9 (by decide) (fun _ => ?_) (fun h => absurd h (by decide))
  have hP9 := hP.sub (ws' := [((g 9), .inr (11, oW g)), ((g 32), .inl (cI, 8, .inl (fun _ => 0))), ((g 33), .inl (cI, 8, .inl (fun _ => 0))), ((g 35), .inl (cI, 256, .inl (fun _ => 0)))]) [0, 1, 2, 3] rfl
  have hD9 := hD.sub (ws' := [((g 9), .inr (11, oW g)), ((g 32), .inl (cI, 8, .inl (fun _ => 0))), ((g 33), .inl (cI, 8, .inl (fun _ => 0))), ((g 35), .inl (cI, 256, .inl (fun _ => 0)))]) [0, 1, 2, 3] (by decide) rfl
  exact W.vret hx hb hr (fun t ht hW => ⟨⟨(), rfl, trivial, by rw [ht]; exact hP9, hD9⟩, hS.F ht⟩) hS.2.2 dX10_solve_75
set_option maxRecDepth 100000 in
set_option maxHeartbeats 4000000 in
theorem q_wclear (l : Launch) (D : va_G) (cI cB cZ : ClassId) (g : Nat → Nat) (sz : Nat) : Met l yX10_clear (CWS yX10_clear cX10_clear 1 none) (RM 0 0 0) (PBw [.ref (g 9)] D cI cB cZ [((g 9), .inr (11, oW g))] sz) (va_Qv (fun (_ : Unit) => True) (fun (u : Unit) (t : State) => va_P D vwCl [((g 9), .inr (11, oW g))] t.heap ∧ va_D (va_A [((g 9), .inr (11, oW g))] sz) [((g 9), .inr (11, oW g))]) (va_A [((g 9), .inr (11, oW g))] sz)) 0 0 (va_A [((g 9), .inr (11, oW g))] sz) := by
  refine Met.ofW (cc := cX10_clear) (maxL := 1) (ret := none) (by decide) rfl ?_
  intro p e s m args below meth c s₁ B hml hv
  obtain ⟨rfl, hsz, hP, hK, hD0⟩ := hv
  have hx := B.exec
  have hb := B.bytes
  have hr := B.returns
  have hts := atoms_spec (ws := (CWS yX10_clear cX10_clear 1 none)) B.pre
  have hown : s.vm.findClass RX10 = some m.cls := findClass_of_methodNamed B.named
  have hlocks := B.notSynchronized
  have S : SF p m c cX10_clear 1 s ([.ref (g 9)]).toArray RX10 := ⟨hx, hb, hml, hown, fun w h => hts w (List.mem_cons_of_mem _ h)⟩
  subst hsz
  have hD := hD0.self (sz := s.heap.size)
  generalize hAe : va_A [((g 9), .inr (11, oW g))] s.heap.size = A at hD ⊢
  have hA : ∀ q : Nat, s.heap.size ≤ q → A q := fun q h => by rw [← hAe]; exact Or.inr h
  have hS : va_S A s.heap s.heap [] := va_S.rf
  have hP : va_P D vwCl [((g 9), .inr (11, oW g))] s.heap := hP
  have hD : va_D A [((g 9), .inr (11, oW g))] := hD
  have hl := lv_entry ([.ref (g 9)]) (n := 1) (Nat.le_of_ble_eq_true rfl)
  rw [lg_entry_eq]
  generalize (lg_sl ([.ref (g 9)]) ++ List.replicate (1 - (lg_sl ([.ref (g 9)])).length) Slot.unset).toArray = ls at hl ⊢
  have hl : lv_has ls 1 [(0, .ref (g 9))] := hl
  refine lv_aload_n hx hb dX10_clear_0 rfl (lv_at hl 0 rfl) ?_
  refine lv_iconst (v := 0) hx hb dX10_clear_1 (by decide) ?_
  refine pf_RX10_36 S hK hP hD hS 0 rfl (v := .int 0) (Nat.le_of_ble_eq_true rfl) rfl rfl dX10_clear_2 (fun H locs hP hD hS => ?_)
  have hP : va_P D vwCl [((g 9), .inr (11, oW g))] H := hP
  have hD : va_D A [((g 9), .inr (11, oW g))] := hD
  have hP9 := hP.sub (ws' := [((g 9), .inr (11, oW g))]) [0] rfl
  have hD9 := hD.sub (ws' := [((g 9), .inr (11, oW g))]) [0] (by decide) rfl
  exact W.vret hx hb hr (fun t ht hW => ⟨⟨(), rfl, trivial, by rw [ht]; exact hP9, hD9⟩, hS.F ht⟩) hS.2.2 dX10_clear_5
set_option maxRecDepth 100000 in
set_option maxHeartbeats 4000000 in
theorem q_lengthOf (l : Launch) (D : va_G) (cI cB cZ : ClassId) (g : Nat → Nat) : Met l yX10_lengthOf (CWS yX10_lengthOf cX10_lengthOf 2 (some .int)) (RM 1 0 0) (PBr [.ref (g 9), .int 0] D cI cB cZ [((g 9), .inr (11, oW g)), ((g 35), .inl (cI, 256, .inl (fun _ => 0)))]) (vp_Si (fun r => r = 0)) 0 0 (fun _ => False) := by
  refine Met.ofW (cc := cX10_lengthOf) (maxL := 2) (ret := (some .int)) (by decide) rfl ?_
  intro p e s m args below meth c s₁ B hml hv
  obtain ⟨rfl, hP, hK⟩ := hv
  have hx := B.exec
  have hb := B.bytes
  have hr := B.returns
  have hts := atoms_spec (ws := (CWS yX10_lengthOf cX10_lengthOf 2 (some .int))) B.pre
  have hown : s.vm.findClass RX10 = some m.cls := findClass_of_methodNamed B.named
  have hlocks := B.notSynchronized
  have S : SF p m c cX10_lengthOf 2 s ([.ref (g 9), .int 0]).toArray RX10 := ⟨hx, hb, hml, hown, fun w h => hts w (List.mem_cons_of_mem _ h)⟩
  have hP : va_P D vwCl [((g 9), .inr (11, oW g)), ((g 35), .inl (cI, 256, .inl (fun _ => 0)))] s.heap := hP
  have hl := lv_entry ([.ref (g 9), .int 0]) (n := 2) (Nat.le_of_ble_eq_true rfl)
  rw [lg_entry_eq]
  generalize (lg_sl ([.ref (g 9), .int 0]) ++ List.replicate (2 - (lg_sl ([.ref (g 9), .int 0])).length) Slot.unset).toArray = ls at hl ⊢
  have hl : lv_has ls 2 [(0, .ref (g 9)), (1, .int 0)] := hl
  refine lv_aload_n hx hb dX10_lengthOf_0 rfl (lv_at hl 0 rfl) ?_
  refine gf_RX10_27 S hK hP 0 rfl (v := .ref (g 35)) rfl dX10_lengthOf_1 ?_
  refine lv_iload_n hx hb dX10_lengthOf_4 rfl (lv_at hl 1 rfl) ?_
  refine vp_callSi (runS_r (As := [.ref (g 35), .int 0]) (rest := []) S (q_at0 l D cI cB cZ (g 35) 256 0 (by omega)) kS_RX10_54 hK hP [1] rfl ⟨Nat.le_of_ble_eq_true rfl, Nat.le_of_ble_eq_true rfl⟩ ⟨Nat.le_of_ble_eq_true rfl, Nat.le_of_ble_eq_true rfl⟩ rfl hl.1 rfl (Nat.le_of_ble_eq_true rfl) dX10_lengthOf_5) (fun r_1 h_2 => ?_)
  subst h_2
  exact W.iret (v := 0) hx hb hr (fun t ht hW => ⟨0, rfl, rfl, ht⟩) (fun _ h => absurd h List.not_mem_nil) dX10_lengthOf_8
set_option maxRecDepth 100000 in
set_option maxHeartbeats 4000000 in
theorem q_wholeLength (l : Launch) (D : va_G) (cI cB cZ : ClassId) (g : Nat → Nat) : Met l yX10_wholeLength (CWS yX10_wholeLength cX10_wholeLength 1 (some .int)) (RM 2 0 0) (PBr [.ref (g 9)] D cI cB cZ [((g 9), .inr (11, oW g)), ((g 35), .inl (cI, 256, .inl (fun _ => 0)))]) (vp_Si (fun r => r = 0)) 0 0 (fun _ => False) := by
  refine Met.ofW (cc := cX10_wholeLength) (maxL := 1) (ret := (some .int)) (by decide) rfl ?_
  intro p e s m args below meth c s₁ B hml hv
  obtain ⟨rfl, hP, hK⟩ := hv
  have hx := B.exec
  have hb := B.bytes
  have hr := B.returns
  have hts := atoms_spec (ws := (CWS yX10_wholeLength cX10_wholeLength 1 (some .int))) B.pre
  have hown : s.vm.findClass RX10 = some m.cls := findClass_of_methodNamed B.named
  have hlocks := B.notSynchronized
  have S : SF p m c cX10_wholeLength 1 s ([.ref (g 9)]).toArray RX10 := ⟨hx, hb, hml, hown, fun w h => hts w (List.mem_cons_of_mem _ h)⟩
  have hP : va_P D vwCl [((g 9), .inr (11, oW g)), ((g 35), .inl (cI, 256, .inl (fun _ => 0)))] s.heap := hP
  have hl := lv_entry ([.ref (g 9)]) (n := 1) (Nat.le_of_ble_eq_true rfl)
  rw [lg_entry_eq]
  generalize (lg_sl ([.ref (g 9)]) ++ List.replicate (1 - (lg_sl ([.ref (g 9)])).length) Slot.unset).toArray = ls at hl ⊢
  have hl : lv_has ls 1 [(0, .ref (g 9))] := hl
  refine lv_aload_n hx hb dX10_wholeLength_0 rfl (lv_at hl 0 rfl) ?_
  refine lv_iconst (v := 1) hx hb dX10_wholeLength_1 (by decide) ?_
  refine lv_aload_n hx hb dX10_wholeLength_2 rfl (lv_at hl 0 rfl) ?_
  refine gf_RX10_36 S hK hP 0 rfl (v := .int 0) rfl dX10_wholeLength_3 ?_
  refine lv_ishl hx hb dX10_wholeLength_6 ?_
  refine lv_topi (fun y_1 ey_1 => ?_)
  obtain rfl : y_1 = 1 := ey_1.trans (by decide)
  refine lv_iconst (v := 1) hx hb dX10_wholeLength_7 (by decide) ?_
  refine lv_isub hx hb dX10_wholeLength_8 ?_
  refine lv_topi (fun y_2 ey_2 => ?_)
  obtain rfl : y_2 = 0 := ey_2.trans (by decide)
  refine vp_callSi (runV_r (As := [.int 0]) (rest := []) S (q_lengthOf l D cI cB cZ g) kV_RX10_73 hK hP [0, 1] rfl 0 rfl rfl rfl ⟨Nat.le_of_ble_eq_true rfl, Nat.le_of_ble_eq_true rfl⟩ ⟨Nat.le_of_ble_eq_true rfl, Nat.le_of_ble_eq_true rfl⟩ rfl hl.1 rfl (Nat.le_of_ble_eq_true rfl) dX10_wholeLength_9) (fun r_3 h_4 => ?_)
  subst h_4
  exact W.iret (v := 0) hx hb hr (fun t ht hW => ⟨0, rfl, rfl, ht⟩) (fun _ h => absurd h List.not_mem_nil) dX10_wholeLength_12
set_option maxRecDepth 100000 in
set_option maxHeartbeats 4000000 in
theorem q_kitchenInRow (l : Launch) (D : va_G) (cI cB cZ : ClassId) (g : Nat → Nat) (v0 : Int32) : Met l yX10_kitchenInRow (CWS yX10_kitchenInRow cX10_kitchenInRow 5 (some .int)) (RM 0 0 0) (PBr [.ref (g 9), .int v0] D cI cB cZ [((g 9), .inr (11, oW g))]) (vp_Si (fun r => r = -1)) 0 0 (fun _ => False) := by
  refine Met.ofW (cc := cX10_kitchenInRow) (maxL := 5) (ret := (some .int)) (by decide) rfl ?_
  intro p e s m args below meth c s₁ B hml hv
  obtain ⟨rfl, hP, hK⟩ := hv
  have hx := B.exec
  have hb := B.bytes
  have hr := B.returns
  have hts := atoms_spec (ws := (CWS yX10_kitchenInRow cX10_kitchenInRow 5 (some .int))) B.pre
  have hown : s.vm.findClass RX10 = some m.cls := findClass_of_methodNamed B.named
  have hlocks := B.notSynchronized
  have S : SF p m c cX10_kitchenInRow 5 s ([.ref (g 9), .int v0]).toArray RX10 := ⟨hx, hb, hml, hown, fun w h => hts w (List.mem_cons_of_mem _ h)⟩
  have hP : va_P D vwCl [((g 9), .inr (11, oW g))] s.heap := hP
  have hl := lv_entry ([.ref (g 9), .int v0]) (n := 5) (Nat.le_of_ble_eq_true rfl)
  rw [lg_entry_eq]
  generalize (lg_sl ([.ref (g 9), .int v0]) ++ List.replicate (5 - (lg_sl ([.ref (g 9), .int v0])).length) Slot.unset).toArray = ls at hl ⊢
  have hl : lv_has ls 5 [(0, .ref (g 9)), (1, .int v0)] := hl
  refine lv_iload_n hx hb dX10_kitchenInRow_0 rfl (lv_at hl 1 rfl) ?_
  refine lv_if_lt (tgt := 12) hx hb dX10_kitchenInRow_1 (by decide) (fun c_1 => ?_) (fun c_1 => ?_)
  ·
    have tc_1 : (v0.toInt : Int) < 0 := Int32.lt_iff_toInt_lt.mp c_1
    refine lv_iconst (v := (-1)) hx hb dX10_kitchenInRow_12 (by decide) ?_
    exact W.iret (v := (-1)) hx hb hr (fun t ht hW => ⟨(-1), rfl, rfl, ht⟩) (fun _ h => absurd h List.not_mem_nil) dX10_kitchenInRow_13
  ·
    have tc_1 : (0 : Int) ≤ v0.toInt := Int32.le_iff_toInt_le.mp (Int32.not_lt.mp c_1)
    refine lv_iload_n hx hb dX10_kitchenInRow_4 rfl (lv_at hl 1 rfl) ?_
    refine lv_aload_n hx hb dX10_kitchenInRow_5 rfl (lv_at hl 0 rfl) ?_
    refine gf_RX10_36 S hK hP 0 rfl (v := .int 0) rfl dX10_kitchenInRow_6 ?_
    refine lv_icmp_lt (tgt := 14) hx hb dX10_kitchenInRow_9 (by decide) (fun c_2 => False.elim (by have tc_2 : (v0.toInt : Int) < 0 := Int32.lt_iff_toInt_lt.mp c_2; omega)) (fun c_2 => ?_)
    have tc_2 : (0 : Int) ≤ v0.toInt := Int32.le_iff_toInt_le.mp (Int32.not_lt.mp c_2)
    refine lv_iconst (v := (-1)) hx hb dX10_kitchenInRow_12 (by decide) ?_
    exact W.iret (v := (-1)) hx hb hr (fun t ht hW => ⟨(-1), rfl, rfl, ht⟩) (fun _ h => absurd h List.not_mem_nil) dX10_kitchenInRow_13
set_option maxRecDepth 100000 in
set_option maxHeartbeats 4000000 in
theorem q_gatherStops (l : Launch) (D : va_G) (cI cB cZ : ClassId) (g : Nat → Nat) (v0 v1 v2 : Int32) (sz : Nat) : Met l yX11_gatherStops (CWS yX11_gatherStops cX11_gatherStops 7 (some .boolean)) (RM 5 0 0) (PBw [.ref (g 0), .int v0, .int v1, .int v2] D cI cB cZ [((g 0), .inr (12, oX g)), ((g 10), .inr (0, [.int 0, .ref (g 50), .int 0])), ((g 9), .inr (11, oW g)), ((g 32), .inl (cI, 8, .inl (fun _ => 0))), ((g 33), .inl (cI, 8, .inl (fun _ => 0))), ((g 35), .inl (cI, 256, .inl (fun _ => 0)))] sz) (va_Qi (fun (r : Int32) (_ : Unit) => r = 1) (fun (u : Unit) (t : State) => va_P D vwCl [((g 0), .inr (12, oX g)), ((g 10), .inr (0, [.int 0, .ref (g 50), .int 0])), ((g 9), .inr (11, oW g)), ((g 32), .inl (cI, 8, .inl (fun _ => 0))), ((g 33), .inl (cI, 8, .inl (fun _ => 0))), ((g 35), .inl (cI, 256, .inl (fun _ => 0)))] t.heap ∧ va_D (va_A [((g 0), .inr (12, oX g)), ((g 10), .inr (0, [.int 0, .ref (g 50), .int 0])), ((g 9), .inr (11, oW g)), ((g 32), .inl (cI, 8, .inl (fun _ => 0))), ((g 33), .inl (cI, 8, .inl (fun _ => 0))), ((g 35), .inl (cI, 256, .inl (fun _ => 0)))] sz) [((g 0), .inr (12, oX g)), ((g 10), .inr (0, [.int 0, .ref (g 50), .int 0])), ((g 9), .inr (11, oW g)), ((g 32), .inl (cI, 8, .inl (fun _ => 0))), ((g 33), .inl (cI, 8, .inl (fun _ => 0))), ((g 35), .inl (cI, 256, .inl (fun _ => 0)))]) (va_A [((g 0), .inr (12, oX g)), ((g 10), .inr (0, [.int 0, .ref (g 50), .int 0])), ((g 9), .inr (11, oW g)), ((g 32), .inl (cI, 8, .inl (fun _ => 0))), ((g 33), .inl (cI, 8, .inl (fun _ => 0))), ((g 35), .inl (cI, 256, .inl (fun _ => 0)))] sz)) 0 0 (va_A [((g 0), .inr (12, oX g)), ((g 10), .inr (0, [.int 0, .ref (g 50), .int 0])), ((g 9), .inr (11, oW g)), ((g 32), .inl (cI, 8, .inl (fun _ => 0))), ((g 33), .inl (cI, 8, .inl (fun _ => 0))), ((g 35), .inl (cI, 256, .inl (fun _ => 0)))] sz) := by
  refine Met.ofW (cc := cX11_gatherStops) (maxL := 7) (ret := (some .boolean)) (by decide) rfl ?_
  intro p e s m args below meth c s₁ B hml hv
  obtain ⟨rfl, hsz, hP, hK, hD0⟩ := hv
  have hx := B.exec
  have hb := B.bytes
  have hr := B.returns
  have hts := atoms_spec (ws := (CWS yX11_gatherStops cX11_gatherStops 7 (some .boolean))) B.pre
  have hown : s.vm.findClass RX11 = some m.cls := findClass_of_methodNamed B.named
  have hlocks := B.notSynchronized
  have S : SF p m c cX11_gatherStops 7 s ([.ref (g 0), .int v0, .int v1, .int v2]).toArray RX11 := ⟨hx, hb, hml, hown, fun w h => hts w (List.mem_cons_of_mem _ h)⟩
  subst hsz
  have hD := hD0.self (sz := s.heap.size)
  generalize hAe : va_A [((g 0), .inr (12, oX g)), ((g 10), .inr (0, [.int 0, .ref (g 50), .int 0])), ((g 9), .inr (11, oW g)), ((g 32), .inl (cI, 8, .inl (fun _ => 0))), ((g 33), .inl (cI, 8, .inl (fun _ => 0))), ((g 35), .inl (cI, 256, .inl (fun _ => 0)))] s.heap.size = A at hD ⊢
  have hA : ∀ q : Nat, s.heap.size ≤ q → A q := fun q h => by rw [← hAe]; exact Or.inr h
  have hS : va_S A s.heap s.heap [] := va_S.rf
  have hP : va_P D vwCl [((g 0), .inr (12, oX g)), ((g 10), .inr (0, [.int 0, .ref (g 50), .int 0])), ((g 9), .inr (11, oW g)), ((g 32), .inl (cI, 8, .inl (fun _ => 0))), ((g 33), .inl (cI, 8, .inl (fun _ => 0))), ((g 35), .inl (cI, 256, .inl (fun _ => 0)))] s.heap := hP
  have hD : va_D A [((g 0), .inr (12, oX g)), ((g 10), .inr (0, [.int 0, .ref (g 50), .int 0])), ((g 9), .inr (11, oW g)), ((g 32), .inl (cI, 8, .inl (fun _ => 0))), ((g 33), .inl (cI, 8, .inl (fun _ => 0))), ((g 35), .inl (cI, 256, .inl (fun _ => 0)))] := hD
  have hl := lv_entry ([.ref (g 0), .int v0, .int v1, .int v2]) (n := 7) (Nat.le_of_ble_eq_true rfl)
  rw [lg_entry_eq]
  generalize (lg_sl ([.ref (g 0), .int v0, .int v1, .int v2]) ++ List.replicate (7 - (lg_sl ([.ref (g 0), .int v0, .int v1, .int v2])).length) Slot.unset).toArray = ls at hl ⊢
  have hl : lv_has ls 7 [(0, .ref (g 0)), (1, .int v0), (2, .int v1), (3, .int v2)] := hl
  refine lv_aload_n hx hb dX11_gatherStops_0 rfl (lv_at hl 0 rfl) ?_
  refine gf_RX11_54 S hK hP 0 rfl (v := .ref (g 9)) rfl dX11_gatherStops_1 ?_
  have hFc := va_free (wc := [((g 9), .inr (11, oW g))]) hD hS hA [2] rfl
  refine va_callv (runV_w (As := []) (rest := []) S (q_wclear l D cI cB cZ g s.heap.size) kV_RX11_266 hK hP hD [2] rfl rfl (by decide) 2 rfl rfl rfl ⟨Nat.le_of_ble_eq_true rfl, Nat.le_of_ble_eq_true rfl⟩ ⟨Nat.le_of_ble_eq_true rfl, Nat.le_of_ble_eq_true rfl⟩ rfl hl.1 rfl (Nat.le_of_ble_eq_true rfl) dX11_gatherStops_4) hS (fun q _ h => hFc q h) hFc (fun u_2 t H1 locs ht hvm h_3 hB hz1 hk1 hS => ?_)
  obtain ⟨hP1, hD1⟩ := hB
  rw [ht] at hP1
  obtain ⟨hP, hD⟩ := va_join (wr := [((g 0), .inr (12, oX g)), ((g 10), .inr (0, [.int 0, .ref (g 50), .int 0])), ((g 32), .inl (cI, 8, .inl (fun _ => 0))), ((g 33), .inl (cI, 8, .inl (fun _ => 0))), ((g 35), .inl (cI, 256, .inl (fun _ => 0)))]) (w1 := [((g 9), .inr (11, oW g))]) hP hD [2] [0, 1, 3, 4, 5] rfl rfl (by decide) (by decide) hk1 hFc hP1 hD1
  generalize H1 = H at hP hS ⊢
  have hP : va_P D vwCl [((g 0), .inr (12, oX g)), ((g 10), .inr (0, [.int 0, .ref (g 50), .int 0])), ((g 32), .inl (cI, 8, .inl (fun _ => 0))), ((g 33), .inl (cI, 8, .inl (fun _ => 0))), ((g 35), .inl (cI, 256, .inl (fun _ => 0))), ((g 9), .inr (11, oW g))] H := hP
  have hD : va_D A [((g 0), .inr (12, oX g)), ((g 10), .inr (0, [.int 0, .ref (g 50), .int 0])), ((g 32), .inl (cI, 8, .inl (fun _ => 0))), ((g 33), .inl (cI, 8, .inl (fun _ => 0))), ((g 35), .inl (cI, 256, .inl (fun _ => 0))), ((g 9), .inr (11, oW g))] := hD
  refine lv_iconst (v := 0) hx hb dX11_gatherStops_7 (by decide) ?_
  refine lv_istore (lv' := [(4, .int 0), (0, .ref (g 0)), (1, .int v0), (2, .int v1), (3, .int v2)]) hx hb dX11_gatherStops_8 hl (by decide) rfl (fun ls hl => ?_)
  refine lv_iload hx hb dX11_gatherStops_10 (lv_at hl 0 rfl) ?_
  refine lv_aload_n hx hb dX11_gatherStops_12 rfl (lv_at hl 1 rfl) ?_
  refine gf_RX11_61 S hK hP 0 rfl (v := .ref (g 10)) rfl dX11_gatherStops_13 ?_
  refine vp_callSi (runV_r (As := []) (rest := [.int 0]) S (q_size l D cI cB cZ (g 10) (g 50) 0 0) kV_RX11_84 hK hP [1] rfl 1 rfl rfl rfl ⟨Nat.le_of_ble_eq_true rfl, Nat.le_of_ble_eq_true rfl⟩ ⟨Nat.le_of_ble_eq_true rfl, Nat.le_of_ble_eq_true rfl⟩ rfl hl.1 rfl (Nat.le_of_ble_eq_true rfl) dX11_gatherStops_16) (fun r_4 h_5 => ?_)
  subst h_5
  refine lv_icmp_ge (tgt := 90) hx hb dX11_gatherStops_19 (by decide) (fun _ => ?_) (fun h => absurd h (by decide))
  refine lv_aload_n hx hb dX11_gatherStops_90 rfl (lv_at hl 1 rfl) ?_
  refine gf_RX11_54 S hK hP 0 rfl (v := .ref (g 9)) rfl dX11_gatherStops_91 ?_
  have hFc := va_free (wc := [((g 9), .inr (11, oW g)), ((g 32), .inl (cI, 8, .inl (fun _ => 0))), ((g 33), .inl (cI, 8, .inl (fun _ => 0))), ((g 35), .inl (cI, 256, .inl (fun _ => 0)))]) hD hS hA [5, 2, 3, 4] rfl
  refine va_callv (runV_w (As := []) (rest := []) S (q_solve l D cI cB cZ g H.size) kV_RX11_273 hK hP hD [5, 2, 3, 4] rfl rfl (by decide) 5 rfl rfl rfl ⟨Nat.le_of_ble_eq_true rfl, Nat.le_of_ble_eq_true rfl⟩ ⟨Nat.le_of_ble_eq_true rfl, Nat.le_of_ble_eq_true rfl⟩ rfl hl.1 rfl (Nat.le_of_ble_eq_true rfl) dX11_gatherStops_94) hS (fun q _ h => hFc q h) hFc (fun u_7 t H1 locs ht hvm h_8 hB hz1 hk1 hS => ?_)
  obtain ⟨hP1, hD1⟩ := hB
  rw [ht] at hP1
  obtain ⟨hP, hD⟩ := va_join (wr := [((g 0), .inr (12, oX g)), ((g 10), .inr (0, [.int 0, .ref (g 50), .int 0]))]) (w1 := [((g 9), .inr (11, oW g)), ((g 32), .inl (cI, 8, .inl (fun _ => 0))), ((g 33), .inl (cI, 8, .inl (fun _ => 0))), ((g 35), .inl (cI, 256, .inl (fun _ => 0)))]) hP hD [5, 2, 3, 4] [0, 1] rfl rfl (by decide) (by decide) hk1 hFc hP1 hD1
  generalize H1 = H at hP hS ⊢
  have hP : va_P D vwCl [((g 0), .inr (12, oX g)), ((g 10), .inr (0, [.int 0, .ref (g 50), .int 0])), ((g 9), .inr (11, oW g)), ((g 32), .inl (cI, 8, .inl (fun _ => 0))), ((g 33), .inl (cI, 8, .inl (fun _ => 0))), ((g 35), .inl (cI, 256, .inl (fun _ => 0)))] H := hP
  have hD : va_D A [((g 0), .inr (12, oX g)), ((g 10), .inr (0, [.int 0, .ref (g 50), .int 0])), ((g 9), .inr (11, oW g)), ((g 32), .inl (cI, 8, .inl (fun _ => 0))), ((g 33), .inl (cI, 8, .inl (fun _ => 0))), ((g 35), .inl (cI, 256, .inl (fun _ => 0)))] := hD
  refine lv_iconst (v := 1) hx hb dX11_gatherStops_97 (by decide) ?_
  have hP9 := hP.sub (ws' := [((g 0), .inr (12, oX g)), ((g 10), .inr (0, [.int 0, .ref (g 50), .int 0])), ((g 9), .inr (11, oW g)), ((g 32), .inl (cI, 8, .inl (fun _ => 0))), ((g 33), .inl (cI, 8, .inl (fun _ => 0))), ((g 35), .inl (cI, 256, .inl (fun _ => 0)))]) [0, 1, 2, 3, 4, 5] rfl
  have hD9 := hD.sub (ws' := [((g 0), .inr (12, oX g)), ((g 10), .inr (0, [.int 0, .ref (g 50), .int 0])), ((g 9), .inr (11, oW g)), ((g 32), .inl (cI, 8, .inl (fun _ => 0))), ((g 33), .inl (cI, 8, .inl (fun _ => 0))), ((g 35), .inl (cI, 256, .inl (fun _ => 0)))]) [0, 1, 2, 3, 4, 5] (by decide) rfl
  exact W.zret (v := 1) hx hb hr rfl (fun t ht hW => ⟨⟨1, (), rfl, rfl, by rw [ht]; exact hP9, hD9⟩, hS.F ht⟩) hS.2.2 dX11_gatherStops_98
