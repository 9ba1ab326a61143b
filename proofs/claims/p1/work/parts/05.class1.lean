theorem min200b {t : Nat} (h : t + 1 ≤ 200) : (if 200 < nI t + 1 then 200 else nI t + 1) = nI (t + 1) := by
  rw [nI_1]
  exact if_neg (nI_nlt (a := 200) (b := t + 1) h (by omega))
theorem sum_day {x y : Int32} (hx : 0 ≤ x.toInt ∧ x.toInt ≤ 399) (hy : 1 ≤ y.toInt ∧ y.toInt ≤ 7) : (x + y).toInt = x.toInt + y.toInt ∧ ((x + y) - 1).toInt = x.toInt + y.toInt - 1 := by
  have h1 : (x + y).toInt = x.toInt + y.toInt := by
    rw [Int32.toInt_add]; exact Int.bmod_eq_of_le (by omega) (by omega)
  refine ⟨h1, ?_⟩
  rw [Int32.toInt_sub, h1, show (1 : Int32).toInt = 1 from rfl]
  exact Int.bmod_eq_of_le (by omega) (by omega)
theorem idx58 {x y : Int32} (hx : 0 ≤ x.toInt ∧ x.toInt ≤ 3) (hy : 0 ≤ y.toInt ∧ y.toInt ≤ 57) : ((x * 58) + y).toInt = x.toInt * 58 + y.toInt := by
  have h1 : (x * 58).toInt = x.toInt * 58 := by
    rw [Int32.toInt_mul, show (58 : Int32).toInt = 58 from rfl]; exact Int.bmod_eq_of_le (by omega) (by omega)
  rw [Int32.toInt_add, h1]
  exact Int.bmod_eq_of_le (by omega) (by omega)
theorem dg15 {x : Int32} (h : x.toInt ≤ 399) : dgF 400 x.toNatClampNeg = 15 := if_pos (by show x.toInt.toNat < 400; omega)

set_option maxRecDepth 100000 in
theorem kS_RX11_99 : CalS RX11 99 yX11_isDay cX11_isDay 1 (some .boolean) 1 := ⟨⟨wT_tab 289 rfl rfl, wT_tab 290 rfl rfl, wT_tab 1 rfl rfl, wT_tab 291 rfl rfl⟩, ⟨by decide, by decide, by decide +kernel⟩⟩
set_option maxRecDepth 100000 in
theorem gf_RX11_103 {p : Program} {l : Launch} {e : Env} {R : Room} {s : State} {m : MethodId} {args : Array Value} {below : List Frame} {meth : Method} {c : Code} {H : Heap} {locs : List Loc} {cells slots : Nat} {Q : State → Prop} {cc : ByteArray} {nL pc : Nat} {D : va_G} {cI cB cZ : ClassId} {ws : va_W} {rest : List Value} {ls : Array Slot} {a : Nat} {fs : List Value} {v : Value} (S : SF p m c cc nL s args RX11) (hK : KK D cI cB cZ s) (hP : va_P D vwCl ws H) (q0 : Nat) (he : ws[q0]? = some (a, .inr (12, fs))) (hv : fs[0]? = some v) (hdg : decode cc pc = .ok (.getfield 103, 3)) (kk : W p l e R s m args below meth c H locs cells slots Q (F0 m (pc + 3) ls (v :: rest))) : W p l e R s m args below meth c H locs cells slots Q (F0 m pc ls (.ref a :: rest)) :=
  va_get (C := RX11) (T := TX11) (N := 16) S.1 S.2.1 S.2.2.2.2 hin_RX11 S.2.2.2.1 hK.1 hP q0 he rfl 0 (by decide) (S.2.2.2.2 _ (wT_tab 236 rfl rfl)) (fun _ h9 => h9) hv hdg kk
set_option maxRecDepth 100000 in
theorem pf_RX11_103 {p : Program} {l : Launch} {e : Env} {R : Room} {s : State} {m : MethodId} {args : Array Value} {below : List Frame} {meth : Method} {c : Code} {H : Heap} {locs : List Loc} {cells slots : Nat} {Q : State → Prop} {cc : ByteArray} {nL pc : Nat} {D : va_G} {cI cB cZ : ClassId} {ws : va_W} {rest : List Value} {ls : Array Slot} {a : Nat} {fs : List Value} {v : Value} {A : Nat → Prop} {H0 : Heap} (S : SF p m c cc nL s args RX11) (hK : KK D cI cB cZ s) (hP : va_P D vwCl ws H) (hD : va_D A ws) (hS : va_S A H0 H locs) (q0 : Nat) (he : ws[q0]? = some (a, .inr (12, fs))) (hl : 0 < fs.length) (hn : narrow (tyX11 0) v = v) (hfit : fits (tyX11 0) v = true) (hdg : decode cc pc = .ok (.putfield 103, 3)) (kk : ∀ (H1 : Heap) (locs1 : List Loc), va_P D vwCl (ws.set q0 (a, .inr (12, fs.set 0 v))) H1 → va_D A (ws.set q0 (a, .inr (12, fs.set 0 v))) → va_S A H0 H1 locs1 → W p l e R s m args below meth c H1 locs1 cells slots Q (F0 m (pc + 3) ls rest)) : W p l e R s m args below meth c H locs cells slots Q (F0 m pc ls (v :: .ref a :: rest)) :=
  va_put (C := RX11) (T := TX11) (N := 16) S.1 S.2.1 S.2.2.2.2 hin_RX11 tyX11 tyX11_ok nmX11 S.2.2.2.1 hK.1 hP hD hS q0 he rfl 0 (by decide) (S.2.2.2.2 _ (wT_tab 236 rfl rfl)) (fun _ h9 => h9) rfl (tyX11_ok 0 (by decide)) hn hfit hl hdg kk
set_option maxRecDepth 100000 in
theorem kV_RX11_114 : CalV RX11 114 yX11_kitchenAt cX11_kitchenAt 2 (some (.object "OilHome$Kitchen")) 1 := ⟨⟨wT_tab 417 rfl rfl, wT_tab 419 rfl rfl, wT_sel 3 _ rfl rfl rfl, wT_tab 1 rfl rfl, wT_tab 420 rfl rfl⟩, ⟨by decide, by decide, by decide +kernel⟩⟩
set_option maxRecDepth 100000 in
theorem kV_RX11_148 : CalV RX11 148 yX11_loadAt cX11_loadAt 2 (some (.object "OilHome$Load")) 1 := ⟨⟨wT_tab 509 rfl rfl, wT_tab 511 rfl rfl, wT_sel 4 _ rfl rfl rfl, wT_tab 1 rfl rfl, wT_tab 512 rfl rfl⟩, ⟨by decide, by decide, by decide +kernel⟩⟩
set_option maxRecDepth 100000 in
theorem gf_RX8_9 {p : Program} {l : Launch} {e : Env} {R : Room} {s : State} {m : MethodId} {args : Array Value} {below : List Frame} {meth : Method} {c : Code} {H : Heap} {locs : List Loc} {cells slots : Nat} {Q : State → Prop} {cc : ByteArray} {nL pc : Nat} {D : va_G} {cI cB cZ : ClassId} {ws : va_W} {rest : List Value} {ls : Array Slot} {a : Nat} {fs : List Value} {v : Value} (S : SF p m c cc nL s args RX8) (hK : KK D cI cB cZ s) (hP : va_P D vwCl ws H) (q0 : Nat) (he : ws[q0]? = some (a, .inr (9, fs))) (hv : fs[0]? = some v) (hdg : decode cc pc = .ok (.getfield 9, 3)) (kk : W p l e R s m args below meth c H locs cells slots Q (F0 m (pc + 3) ls (v :: rest))) : W p l e R s m args below meth c H locs cells slots Q (F0 m pc ls (.ref a :: rest)) :=
  va_get (C := RX8) (T := TX8) (N := 2) S.1 S.2.1 S.2.2.2.2 hin_RX8 S.2.2.2.1 hK.1 hP q0 he rfl 0 (by decide) (S.2.2.2.2 _ (wT_tab 81 rfl rfl)) (fun _ h9 => h9) hv hdg kk
set_option maxRecDepth 100000 in
theorem kS_RX8_17 : CalS RX8 17 yX7_put cX7_put 3 none 3 := ⟨⟨wT_tab 525 rfl rfl, wT_tab 503 rfl rfl, wT_tab 7 rfl rfl, wT_tab 504 rfl rfl⟩, ⟨by decide, by decide, by decide +kernel⟩⟩
set_option maxRecDepth 100000 in
theorem pf_RX8_13 {p : Program} {l : Launch} {e : Env} {R : Room} {s : State} {m : MethodId} {args : Array Value} {below : List Frame} {meth : Method} {c : Code} {H : Heap} {locs : List Loc} {cells slots : Nat} {Q : State → Prop} {cc : ByteArray} {nL pc : Nat} {D : va_G} {cI cB cZ : ClassId} {ws : va_W} {rest : List Value} {ls : Array Slot} {a : Nat} {fs : List Value} {v : Value} {A : Nat → Prop} {H0 : Heap} (S : SF p m c cc nL s args RX8) (hK : KK D cI cB cZ s) (hP : va_P D vwCl ws H) (hD : va_D A ws) (hS : va_S A H0 H locs) (q0 : Nat) (he : ws[q0]? = some (a, .inr (9, fs))) (hl : 1 < fs.length) (hn : narrow (tyX8 1) v = v) (hfit : fits (tyX8 1) v = true) (hdg : decode cc pc = .ok (.putfield 13, 3)) (kk : ∀ (H1 : Heap) (locs1 : List Loc), va_P D vwCl (ws.set q0 (a, .inr (9, fs.set 1 v))) H1 → va_D A (ws.set q0 (a, .inr (9, fs.set 1 v))) → va_S A H0 H1 locs1 → W p l e R s m args below meth c H1 locs1 cells slots Q (F0 m (pc + 3) ls rest)) : W p l e R s m args below meth c H locs cells slots Q (F0 m pc ls (v :: .ref a :: rest)) :=
  va_put (C := RX8) (T := TX8) (N := 2) S.1 S.2.1 S.2.2.2.2 hin_RX8 tyX8 tyX8_ok nmX8 S.2.2.2.1 hK.1 hP hD hS q0 he rfl 1 (by decide) (S.2.2.2.2 _ (wT_tab 83 rfl rfl)) (fun _ h9 => h9) rfl (tyX8_ok 1 (by decide)) hn hfit hl hdg kk
set_option maxRecDepth 100000 in
theorem kV_RX11_153 : CalV RX11 153 yX8_add cX8_add 3 none 1 := ⟨⟨wT_tab 521 rfl rfl, wT_tab 522 rfl rfl, wT_tab 523 rfl rfl, wT_tab 4 rfl rfl, wT_tab 524 rfl rfl⟩, ⟨by decide, by decide, by decide +kernel⟩⟩
set_option maxRecDepth 100000 in
theorem kV_RX11_155 : CalV RX11 155 yX11_isText cX11_isText 2 (some .boolean) 1 := ⟨⟨wT_tab 531 rfl rfl, wT_tab 533 rfl rfl, wT_sel 5 _ rfl rfl rfl, wT_tab 1 rfl rfl, wT_tab 534 rfl rfl⟩, ⟨by decide, by decide, by decide +kernel⟩⟩
set_option maxRecDepth 100000 in
theorem gf_RX11_47 {p : Program} {l : Launch} {e : Env} {R : Room} {s : State} {m : MethodId} {args : Array Value} {below : List Frame} {meth : Method} {c : Code} {H : Heap} {locs : List Loc} {cells slots : Nat} {Q : State → Prop} {cc : ByteArray} {nL pc : Nat} {D : va_G} {cI cB cZ : ClassId} {ws : va_W} {rest : List Value} {ls : Array Slot} {a : Nat} {fs : List Value} {v : Value} (S : SF p m c cc nL s args RX11) (hK : KK D cI cB cZ s) (hP : va_P D vwCl ws H) (q0 : Nat) (he : ws[q0]? = some (a, .inr (12, fs))) (hv : fs[8]? = some v) (hdg : decode cc pc = .ok (.getfield 47, 3)) (kk : W p l e R s m args below meth c H locs cells slots Q (F0 m (pc + 3) ls (v :: rest))) : W p l e R s m args below meth c H locs cells slots Q (F0 m pc ls (.ref a :: rest)) :=
  va_get (C := RX11) (T := TX11) (N := 16) S.1 S.2.1 S.2.2.2.2 hin_RX11 S.2.2.2.1 hK.1 hP q0 he rfl 8 (by decide) (S.2.2.2.2 _ (wT_tab 244 rfl rfl)) (fun _ h9 => h9) hv hdg kk
set_option maxRecDepth 100000 in
theorem hin_RX7 : ∀ w ∈ u_ws RX7 TX7 10, w ∈ wT := by decide +kernel
set_option maxRecDepth 100000 in
theorem gf_RX11_174 {p : Program} {l : Launch} {e : Env} {R : Room} {s : State} {m : MethodId} {args : Array Value} {below : List Frame} {meth : Method} {c : Code} {H : Heap} {locs : List Loc} {cells slots : Nat} {Q : State → Prop} {cc : ByteArray} {nL pc : Nat} {D : va_G} {cI cB cZ : ClassId} {ws : va_W} {rest : List Value} {ls : Array Slot} {a : Nat} {fs : List Value} {v : Value} (S : SF p m c cc nL s args RX11) (hK : KK D cI cB cZ s) (hP : va_P D vwCl ws H) (q0 : Nat) (he : ws[q0]? = some (a, .inr (8, fs))) (hv : fs[0]? = some v) (hdg : decode cc pc = .ok (.getfield 174, 3)) (kk : W p l e R s m args below meth c H locs cells slots Q (F0 m (pc + 3) ls (v :: rest))) : W p l e R s m args below meth c H locs cells slots Q (F0 m pc ls (.ref a :: rest)) :=
  va_get (C := RX7) (T := TX7) (N := 10) S.1 S.2.1 S.2.2.2.2 hin_RX7 S.2.2.2.1 hK.1 hP q0 he rfl 0 (by decide) (S.2.2.2.2 _ (wT_tab 138 rfl rfl)) (fun _ h9 => h9) hv hdg kk
set_option maxRecDepth 100000 in
theorem kS_RX11_177 : CalS RX11 177 yX7_tell cX7_tell 5 (some .boolean) 5 := ⟨⟨wT_tab 703 rfl rfl, wT_tab 704 rfl rfl, wT_tab 7 rfl rfl, wT_tab 705 rfl rfl⟩, ⟨by decide, by decide, by decide +kernel⟩⟩
set_option maxRecDepth 100000 in
theorem gf_RX11_467 {p : Program} {l : Launch} {e : Env} {R : Room} {s : State} {m : MethodId} {args : Array Value} {below : List Frame} {meth : Method} {c : Code} {H : Heap} {locs : List Loc} {cells slots : Nat} {Q : State → Prop} {cc : ByteArray} {nL pc : Nat} {D : va_G} {cI cB cZ : ClassId} {ws : va_W} {rest : List Value} {ls : Array Slot} {a : Nat} {fs : List Value} {v : Value} (S : SF p m c cc nL s args RX11) (hK : KK D cI cB cZ s) (hP : va_P D vwCl ws H) (q0 : Nat) (he : ws[q0]? = some (a, .inr (8, fs))) (hv : fs[1]? = some v) (hdg : decode cc pc = .ok (.getfield 467, 3)) (kk : W p l e R s m args below meth c H locs cells slots Q (F0 m (pc + 3) ls (v :: rest))) : W p l e R s m args below meth c H locs cells slots Q (F0 m pc ls (.ref a :: rest)) :=
  va_get (C := RX7) (T := TX7) (N := 10) S.1 S.2.1 S.2.2.2.2 hin_RX7 S.2.2.2.1 hK.1 hP q0 he rfl 1 (by decide) (S.2.2.2.2 _ (wT_tab 140 rfl rfl)) (fun _ h9 => h9) hv hdg kk
set_option maxRecDepth 100000 in
theorem gf_RX11_486 {p : Program} {l : Launch} {e : Env} {R : Room} {s : State} {m : MethodId} {args : Array Value} {below : List Frame} {meth : Method} {c : Code} {H : Heap} {locs : List Loc} {cells slots : Nat} {Q : State → Prop} {cc : ByteArray} {nL pc : Nat} {D : va_G} {cI cB cZ : ClassId} {ws : va_W} {rest : List Value} {ls : Array Slot} {a : Nat} {fs : List Value} {v : Value} (S : SF p m c cc nL s args RX11) (hK : KK D cI cB cZ s) (hP : va_P D vwCl ws H) (q0 : Nat) (he : ws[q0]? = some (a, .inr (8, fs))) (hv : fs[2]? = some v) (hdg : decode cc pc = .ok (.getfield 486, 3)) (kk : W p l e R s m args below meth c H locs cells slots Q (F0 m (pc + 3) ls (v :: rest))) : W p l e R s m args below meth c H locs cells slots Q (F0 m pc ls (.ref a :: rest)) :=
  va_get (C := RX7) (T := TX7) (N := 10) S.1 S.2.1 S.2.2.2.2 hin_RX7 S.2.2.2.1 hK.1 hP q0 he rfl 2 (by decide) (S.2.2.2.2 _ (wT_tab 142 rfl rfl)) (fun _ h9 => h9) hv hdg kk
set_option maxRecDepth 100000 in
theorem gf_RX11_492 {p : Program} {l : Launch} {e : Env} {R : Room} {s : State} {m : MethodId} {args : Array Value} {below : List Frame} {meth : Method} {c : Code} {H : Heap} {locs : List Loc} {cells slots : Nat} {Q : State → Prop} {cc : ByteArray} {nL pc : Nat} {D : va_G} {cI cB cZ : ClassId} {ws : va_W} {rest : List Value} {ls : Array Slot} {a : Nat} {fs : List Value} {v : Value} (S : SF p m c cc nL s args RX11) (hK : KK D cI cB cZ s) (hP : va_P D vwCl ws H) (q0 : Nat) (he : ws[q0]? = some (a, .inr (8, fs))) (hv : fs[3]? = some v) (hdg : decode cc pc = .ok (.getfield 492, 3)) (kk : W p l e R s m args below meth c H locs cells slots Q (F0 m (pc + 3) ls (v :: rest))) : W p l e R s m args below meth c H locs cells slots Q (F0 m pc ls (.ref a :: rest)) :=
  va_get (C := RX7) (T := TX7) (N := 10) S.1 S.2.1 S.2.2.2.2 hin_RX7 S.2.2.2.1 hK.1 hP q0 he rfl 3 (by decide) (S.2.2.2.2 _ (wT_tab 144 rfl rfl)) (fun _ h9 => h9) hv hdg kk
set_option maxRecDepth 100000 in
theorem gf_RX11_426 {p : Program} {l : Launch} {e : Env} {R : Room} {s : State} {m : MethodId} {args : Array Value} {below : List Frame} {meth : Method} {c : Code} {H : Heap} {locs : List Loc} {cells slots : Nat} {Q : State → Prop} {cc : ByteArray} {nL pc : Nat} {D : va_G} {cI cB cZ : ClassId} {ws : va_W} {rest : List Value} {ls : Array Slot} {a : Nat} {fs : List Value} {v : Value} (S : SF p m c cc nL s args RX11) (hK : KK D cI cB cZ s) (hP : va_P D vwCl ws H) (q0 : Nat) (he : ws[q0]? = some (a, .inr (8, fs))) (hv : fs[4]? = some v) (hdg : decode cc pc = .ok (.getfield 426, 3)) (kk : W p l e R s m args below meth c H locs cells slots Q (F0 m (pc + 3) ls (v :: rest))) : W p l e R s m args below meth c H locs cells slots Q (F0 m pc ls (.ref a :: rest)) :=
  va_get (C := RX7) (T := TX7) (N := 10) S.1 S.2.1 S.2.2.2.2 hin_RX7 S.2.2.2.1 hK.1 hP q0 he rfl 4 (by decide) (S.2.2.2.2 _ (wT_tab 146 rfl rfl)) (fun _ h9 => h9) hv hdg kk
set_option maxRecDepth 100000 in
theorem gf_RX11_435 {p : Program} {l : Launch} {e : Env} {R : Room} {s : State} {m : MethodId} {args : Array Value} {below : List Frame} {meth : Method} {c : Code} {H : Heap} {locs : List Loc} {cells slots : Nat} {Q : State → Prop} {cc : ByteArray} {nL pc : Nat} {D : va_G} {cI cB cZ : ClassId} {ws : va_W} {rest : List Value} {ls : Array Slot} {a : Nat} {fs : List Value} {v : Value} (S : SF p m c cc nL s args RX11) (hK : KK D cI cB cZ s) (hP : va_P D vwCl ws H) (q0 : Nat) (he : ws[q0]? = some (a, .inr (8, fs))) (hv : fs[5]? = some v) (hdg : decode cc pc = .ok (.getfield 435, 3)) (kk : W p l e R s m args below meth c H locs cells slots Q (F0 m (pc + 3) ls (v :: rest))) : W p l e R s m args below meth c H locs cells slots Q (F0 m pc ls (.ref a :: rest)) :=
  va_get (C := RX7) (T := TX7) (N := 10) S.1 S.2.1 S.2.2.2.2 hin_RX7 S.2.2.2.1 hK.1 hP q0 he rfl 5 (by decide) (S.2.2.2.2 _ (wT_tab 148 rfl rfl)) (fun _ h9 => h9) hv hdg kk
set_option maxRecDepth 100000 in
theorem gf_RX11_429 {p : Program} {l : Launch} {e : Env} {R : Room} {s : State} {m : MethodId} {args : Array Value} {below : List Frame} {meth : Method} {c : Code} {H : Heap} {locs : List Loc} {cells slots : Nat} {Q : State → Prop} {cc : ByteArray} {nL pc : Nat} {D : va_G} {cI cB cZ : ClassId} {ws : va_W} {rest : List Value} {ls : Array Slot} {a : Nat} {fs : List Value} {v : Value} (S : SF p m c cc nL s args RX11) (hK : KK D cI cB cZ s) (hP : va_P D vwCl ws H) (q0 : Nat) (he : ws[q0]? = some (a, .inr (8, fs))) (hv : fs[6]? = some v) (hdg : decode cc pc = .ok (.getfield 429, 3)) (kk : W p l e R s m args below meth c H locs cells slots Q (F0 m (pc + 3) ls (v :: rest))) : W p l e R s m args below meth c H locs cells slots Q (F0 m pc ls (.ref a :: rest)) :=
  va_get (C := RX7) (T := TX7) (N := 10) S.1 S.2.1 S.2.2.2.2 hin_RX7 S.2.2.2.1 hK.1 hP q0 he rfl 6 (by decide) (S.2.2.2.2 _ (wT_tab 150 rfl rfl)) (fun _ h9 => h9) hv hdg kk
theorem dX11_now_0 : decode cX11_now 0 = .ok (.iload_n 1, 1) := by decide +kernel
theorem dX11_now_1 : decode cX11_now 1 = .ok (.invokestatic 99, 3) := by decide +kernel
theorem dX11_now_4 : decode cX11_now 4 = .ok (.ifCond .eq 11, 3) := by decide +kernel
theorem dX11_now_7 : decode cX11_now 7 = .ok (.iload_n 1, 1) := by decide +kernel
theorem dX11_now_8 : decode cX11_now 8 = .ok (.aload_n 0, 1) := by decide +kernel
theorem dX11_now_9 : decode cX11_now 9 = .ok (.getfield 103, 3) := by decide +kernel
theorem dX11_now_12 : decode cX11_now 12 = .ok (.if_icmp .ge 5, 3) := by decide +kernel
theorem dX11_now_17 : decode cX11_now 17 = .ok (.aload_n 0, 1) := by decide +kernel
theorem dX11_now_18 : decode cX11_now 18 = .ok (.iload_n 1, 1) := by decide +kernel
theorem dX11_now_19 : decode cX11_now 19 = .ok (.putfield 103, 3) := by decide +kernel
theorem dX11_now_22 : decode cX11_now 22 = .ok (.iconst 1, 1) := by decide +kernel
theorem dX11_now_23 : decode cX11_now 23 = .ok (.ireturn, 1) := by decide +kernel
theorem dX11_now_15 : decode cX11_now 15 = .ok (.iconst 0, 1) := by decide +kernel
theorem dX11_now_16 : decode cX11_now 16 = .ok (.ireturn, 1) := by decide +kernel
theorem dX11_likely_0 : decode cX11_likely 0 = .ok (.aload_n 0, 1) := by decide +kernel
theorem dX11_likely_1 : decode cX11_likely 1 = .ok (.iload_n 1, 1) := by decide +kernel
theorem dX11_likely_2 : decode cX11_likely 2 = .ok (.invokevirtual 114, 3) := by decide +kernel
theorem dX11_likely_5 : decode cX11_likely 5 = .ok (.astore_n 3, 1) := by decide +kernel
theorem dX11_likely_6 : decode cX11_likely 6 = .ok (.aload_n 3, 1) := by decide +kernel
theorem dX11_likely_7 : decode cX11_likely 7 = .ok (.ifnull 18, 3) := by decide +kernel
theorem dX11_likely_25 : decode cX11_likely 25 = .ok (.iconst (-1), 1) := by decide +kernel
theorem dX11_likely_26 : decode cX11_likely 26 = .ok (.ireturn, 1) := by decide +kernel
theorem dX11_missing_0 : decode cX11_missing 0 = .ok (.aload_n 0, 1) := by decide +kernel
theorem dX11_missing_1 : decode cX11_missing 1 = .ok (.iload_n 1, 1) := by decide +kernel
theorem dX11_missing_2 : decode cX11_missing 2 = .ok (.invokevirtual 148, 3) := by decide +kernel
theorem dX11_missing_5 : decode cX11_missing 5 = .ok (.astore_n 2, 1) := by decide +kernel
theorem dX11_missing_6 : decode cX11_missing 6 = .ok (.aload_n 2, 1) := by decide +kernel
theorem dX11_missing_7 : decode cX11_missing 7 = .ok (.ifnonnull 7, 3) := by decide +kernel
theorem dX11_missing_10 : decode cX11_missing 10 = .ok (.iconst (-1), 1) := by decide +kernel
theorem dX11_missing_11 : decode cX11_missing 11 = .ok (.goto 7, 3) := by decide +kernel
theorem dX11_missing_18 : decode cX11_missing 18 = .ok (.ireturn, 1) := by decide +kernel
theorem dX8_add_0 : decode cX8_add 0 = .ok (.bipush 24, 2) := by decide +kernel
theorem dX8_add_2 : decode cX8_add 2 = .ok (.istore_n 2, 1) := by decide +kernel
theorem dX8_add_3 : decode cX8_add 3 = .ok (.iload_n 2, 1) := by decide +kernel
theorem dX8_add_4 : decode cX8_add 4 = .ok (.ifCond .lt 43, 3) := by decide +kernel
theorem dX8_add_7 : decode cX8_add 7 = .ok (.aload_n 0, 1) := by decide +kernel
theorem dX8_add_8 : decode cX8_add 8 = .ok (.getfield 9, 3) := by decide +kernel
theorem dX8_add_11 : decode cX8_add 11 = .ok (.aload_n 0, 1) := by decide +kernel
theorem dX8_add_12 : decode cX8_add 12 = .ok (.getfield 13, 3) := by decide +kernel
theorem dX8_add_15 : decode cX8_add 15 = .ok (.iload_n 1, 1) := by decide +kernel
theorem dX8_add_16 : decode cX8_add 16 = .ok (.iload_n 2, 1) := by decide +kernel
theorem dX8_add_17 : decode cX8_add 17 = .ok (.ishr, 1) := by decide +kernel
theorem dX8_add_18 : decode cX8_add 18 = .ok (.sipush 255, 3) := by decide +kernel
theorem dX8_add_21 : decode cX8_add 21 = .ok (.iand, 1) := by decide +kernel
theorem dX8_add_22 : decode cX8_add 22 = .ok (.invokestatic 17, 3) := by decide +kernel
theorem dX8_add_25 : decode cX8_add 25 = .ok (.aload_n 0, 1) := by decide +kernel
theorem dX8_add_26 : decode cX8_add 26 = .ok (.aload_n 0, 1) := by decide +kernel
theorem dX8_add_27 : decode cX8_add 27 = .ok (.getfield 13, 3) := by decide +kernel
theorem dX8_add_30 : decode cX8_add 30 = .ok (.iconst 1, 1) := by decide +kernel
theorem dX8_add_31 : decode cX8_add 31 = .ok (.iadd, 1) := by decide +kernel
theorem dX8_add_32 : decode cX8_add 32 = .ok (.sipush 200, 3) := by decide +kernel
theorem dX8_add_35 : decode cX8_add 35 = .ok (.invokestatic 23, 3) := by decide +kernel
theorem dX8_add_38 : decode cX8_add 38 = .ok (.putfield 13, 3) := by decide +kernel
theorem dX8_add_41 : decode cX8_add 41 = .ok (.iinc 2 (-8), 3) := by decide +kernel
theorem dX8_add_44 : decode cX8_add 44 = .ok (.goto (-41), 3) := by decide +kernel
theorem dX8_add_47 : decode cX8_add 47 = .ok (.return_, 1) := by decide +kernel
theorem dX11_feed_0 : decode cX11_feed 0 = .ok (.aload_n 0, 1) := by decide +kernel
theorem dX11_feed_1 : decode cX11_feed 1 = .ok (.getfield 21, 3) := by decide +kernel
theorem dX11_feed_4 : decode cX11_feed 4 = .ok (.invokevirtual 152, 3) := by decide +kernel
theorem dX11_feed_7 : decode cX11_feed 7 = .ok (.bipush 20, 2) := by decide +kernel
theorem dX11_feed_9 : decode cX11_feed 9 = .ok (.iadd, 1) := by decide +kernel
theorem dX11_feed_10 : decode cX11_feed 10 = .ok (.sipush 200, 3) := by decide +kernel
theorem dX11_feed_13 : decode cX11_feed 13 = .ok (.if_icmp .le 5, 3) := by decide +kernel
theorem dX11_feed_18 : decode cX11_feed 18 = .ok (.aload_n 0, 1) := by decide +kernel
theorem dX11_feed_19 : decode cX11_feed 19 = .ok (.getfield 21, 3) := by decide +kernel
theorem dX11_feed_22 : decode cX11_feed 22 = .ok (.iload_n 1, 1) := by decide +kernel
theorem dX11_feed_23 : decode cX11_feed 23 = .ok (.invokevirtual 153, 3) := by decide +kernel
theorem dX11_feed_26 : decode cX11_feed 26 = .ok (.aload_n 0, 1) := by decide +kernel
theorem dX11_feed_27 : decode cX11_feed 27 = .ok (.getfield 21, 3) := by decide +kernel
theorem dX11_feed_30 : decode cX11_feed 30 = .ok (.iload_n 2, 1) := by decide +kernel
theorem dX11_feed_31 : decode cX11_feed 31 = .ok (.invokevirtual 153, 3) := by decide +kernel
theorem dX11_feed_34 : decode cX11_feed 34 = .ok (.aload_n 0, 1) := by decide +kernel
theorem dX11_feed_35 : decode cX11_feed 35 = .ok (.getfield 21, 3) := by decide +kernel
theorem dX11_feed_38 : decode cX11_feed 38 = .ok (.iload_n 3, 1) := by decide +kernel
theorem dX11_feed_39 : decode cX11_feed 39 = .ok (.invokevirtual 153, 3) := by decide +kernel
theorem dX11_feed_42 : decode cX11_feed 42 = .ok (.aload_n 0, 1) := by decide +kernel
theorem dX11_feed_43 : decode cX11_feed 43 = .ok (.getfield 21, 3) := by decide +kernel
theorem dX11_feed_46 : decode cX11_feed 46 = .ok (.iload 4, 2) := by decide +kernel
theorem dX11_feed_48 : decode cX11_feed 48 = .ok (.invokevirtual 153, 3) := by decide +kernel
theorem dX11_feed_51 : decode cX11_feed 51 = .ok (.aload_n 0, 1) := by decide +kernel
theorem dX11_feed_52 : decode cX11_feed 52 = .ok (.getfield 21, 3) := by decide +kernel
theorem dX11_feed_55 : decode cX11_feed 55 = .ok (.iload 5, 2) := by decide +kernel
theorem dX11_feed_57 : decode cX11_feed 57 = .ok (.invokevirtual 153, 3) := by decide +kernel
theorem dX11_feed_60 : decode cX11_feed 60 = .ok (.aload_n 0, 1) := by decide +kernel
theorem dX11_feed_61 : decode cX11_feed 61 = .ok (.getfield 21, 3) := by decide +kernel
theorem dX11_feed_64 : decode cX11_feed 64 = .ok (.invokevirtual 152, 3) := by decide +kernel
theorem dX11_feed_67 : decode cX11_feed 67 = .ok (.ireturn, 1) := by decide +kernel
theorem dX11_contract_0 : decode cX11_contract 0 = .ok (.aload_n 0, 1) := by decide +kernel
theorem dX11_contract_1 : decode cX11_contract 1 = .ok (.iload_n 1, 1) := by decide +kernel
theorem dX11_contract_2 : decode cX11_contract 2 = .ok (.invokevirtual 114, 3) := by decide +kernel
theorem dX11_contract_5 : decode cX11_contract 5 = .ok (.astore_n 3, 1) := by decide +kernel
theorem dX11_contract_6 : decode cX11_contract 6 = .ok (.aload_n 3, 1) := by decide +kernel
theorem dX11_contract_7 : decode cX11_contract 7 = .ok (.ifnull 11, 3) := by decide +kernel
theorem dX11_contract_18 : decode cX11_contract 18 = .ok (.iconst (-1), 1) := by decide +kernel
theorem dX11_contract_19 : decode cX11_contract 19 = .ok (.ireturn, 1) := by decide +kernel
theorem dX11_law_0 : decode cX11_law 0 = .ok (.aload_n 0, 1) := by decide +kernel
theorem dX11_law_1 : decode cX11_law 1 = .ok (.iload_n 1, 1) := by decide +kernel
theorem dX11_law_2 : decode cX11_law 2 = .ok (.invokevirtual 155, 3) := by decide +kernel
theorem dX11_law_5 : decode cX11_law 5 = .ok (.ifCond .ne 5, 3) := by decide +kernel
theorem dX11_law_8 : decode cX11_law 8 = .ok (.iconst (-1), 1) := by decide +kernel
theorem dX11_law_9 : decode cX11_law 9 = .ok (.ireturn, 1) := by decide +kernel
theorem dX11_price_0 : decode cX11_price 0 = .ok (.aload_n 0, 1) := by decide +kernel
theorem dX11_price_1 : decode cX11_price 1 = .ok (.getfield 47, 3) := by decide +kernel
theorem dX11_price_4 : decode cX11_price 4 = .ok (.getfield 174, 3) := by decide +kernel
theorem dX11_price_7 : decode cX11_price 7 = .ok (.iload_n 1, 1) := by decide +kernel
theorem dX11_price_8 : decode cX11_price 8 = .ok (.iload_n 2, 1) := by decide +kernel
theorem dX11_price_9 : decode cX11_price 9 = .ok (.iconst 0, 1) := by decide +kernel
theorem dX11_price_10 : decode cX11_price 10 = .ok (.sipush 1000, 3) := by decide +kernel
theorem dX11_price_13 : decode cX11_price 13 = .ok (.invokestatic 177, 3) := by decide +kernel
theorem dX11_price_16 : decode cX11_price 16 = .ok (.ireturn, 1) := by decide +kernel
theorem dX11_thefts_0 : decode cX11_thefts 0 = .ok (.aload_n 0, 1) := by decide +kernel
theorem dX11_thefts_1 : decode cX11_thefts 1 = .ok (.getfield 47, 3) := by decide +kernel
theorem dX11_thefts_4 : decode cX11_thefts 4 = .ok (.getfield 467, 3) := by decide +kernel
theorem dX11_thefts_7 : decode cX11_thefts 7 = .ok (.iload_n 1, 1) := by decide +kernel
theorem dX11_thefts_8 : decode cX11_thefts 8 = .ok (.iload_n 2, 1) := by decide +kernel
theorem dX11_thefts_9 : decode cX11_thefts 9 = .ok (.iconst 0, 1) := by decide +kernel
theorem dX11_thefts_10 : decode cX11_thefts 10 = .ok (.sipush 1000, 3) := by decide +kernel
theorem dX11_thefts_13 : decode cX11_thefts 13 = .ok (.invokestatic 177, 3) := by decide +kernel
theorem dX11_thefts_16 : decode cX11_thefts 16 = .ok (.ireturn, 1) := by decide +kernel
theorem dX11_degrees_0 : decode cX11_degrees 0 = .ok (.aload_n 0, 1) := by decide +kernel
theorem dX11_degrees_1 : decode cX11_degrees 1 = .ok (.getfield 47, 3) := by decide +kernel
theorem dX11_degrees_4 : decode cX11_degrees 4 = .ok (.getfield 486, 3) := by decide +kernel
theorem dX11_degrees_7 : decode cX11_degrees 7 = .ok (.iload_n 1, 1) := by decide +kernel
theorem dX11_degrees_8 : decode cX11_degrees 8 = .ok (.iload_n 2, 1) := by decide +kernel
theorem dX11_degrees_9 : decode cX11_degrees 9 = .ok (.bipush (-40), 2) := by decide +kernel
theorem dX11_degrees_11 : decode cX11_degrees 11 = .ok (.bipush 40, 2) := by decide +kernel
theorem dX11_degrees_13 : decode cX11_degrees 13 = .ok (.invokestatic 177, 3) := by decide +kernel
theorem dX11_degrees_16 : decode cX11_degrees 16 = .ok (.ireturn, 1) := by decide +kernel
theorem dX11_feast_0 : decode cX11_feast 0 = .ok (.aload_n 0, 1) := by decide +kernel
theorem dX11_feast_1 : decode cX11_feast 1 = .ok (.getfield 47, 3) := by decide +kernel
theorem dX11_feast_4 : decode cX11_feast 4 = .ok (.getfield 492, 3) := by decide +kernel
theorem dX11_feast_7 : decode cX11_feast 7 = .ok (.iload_n 1, 1) := by decide +kernel
theorem dX11_feast_8 : decode cX11_feast 8 = .ok (.iload_n 2, 1) := by decide +kernel
theorem dX11_feast_9 : decode cX11_feast 9 = .ok (.iconst 0, 1) := by decide +kernel
theorem dX11_feast_10 : decode cX11_feast 10 = .ok (.sipush 300, 3) := by decide +kernel
theorem dX11_feast_13 : decode cX11_feast 13 = .ok (.invokestatic 177, 3) := by decide +kernel
theorem dX11_feast_16 : decode cX11_feast 16 = .ok (.ireturn, 1) := by decide +kernel
theorem dX11_use_0 : decode cX11_use 0 = .ok (.aload_n 0, 1) := by decide +kernel
theorem dX11_use_1 : decode cX11_use 1 = .ok (.getfield 47, 3) := by decide +kernel
theorem dX11_use_4 : decode cX11_use 4 = .ok (.getfield 426, 3) := by decide +kernel
theorem dX11_use_7 : decode cX11_use 7 = .ok (.iload_n 1, 1) := by decide +kernel
theorem dX11_use_8 : decode cX11_use 8 = .ok (.iload_n 2, 1) := by decide +kernel
theorem dX11_use_9 : decode cX11_use 9 = .ok (.iconst 0, 1) := by decide +kernel
theorem dX11_use_10 : decode cX11_use 10 = .ok (.iconst 3, 1) := by decide +kernel
theorem dX11_use_11 : decode cX11_use 11 = .ok (.invokestatic 177, 3) := by decide +kernel
theorem dX11_use_14 : decode cX11_use 14 = .ok (.ireturn, 1) := by decide +kernel
theorem dX11_most_0 : decode cX11_most 0 = .ok (.aload_n 0, 1) := by decide +kernel
theorem dX11_most_1 : decode cX11_most 1 = .ok (.getfield 47, 3) := by decide +kernel
theorem dX11_most_4 : decode cX11_most 4 = .ok (.getfield 435, 3) := by decide +kernel
theorem dX11_most_7 : decode cX11_most 7 = .ok (.iload_n 1, 1) := by decide +kernel
theorem dX11_most_8 : decode cX11_most 8 = .ok (.iload_n 2, 1) := by decide +kernel
theorem dX11_most_9 : decode cX11_most 9 = .ok (.iconst 0, 1) := by decide +kernel
theorem dX11_most_10 : decode cX11_most 10 = .ok (.ldc 222, 2) := by decide +kernel
theorem dX11_most_12 : decode cX11_most 12 = .ok (.invokestatic 177, 3) := by decide +kernel
theorem dX11_most_15 : decode cX11_most 15 = .ok (.ireturn, 1) := by decide +kernel
theorem dX11_rate_0 : decode cX11_rate 0 = .ok (.iload_n 1, 1) := by decide +kernel
theorem dX11_rate_1 : decode cX11_rate 1 = .ok (.iconst 0, 1) := by decide +kernel
theorem dX11_rate_2 : decode cX11_rate 2 = .ok (.iconst 3, 1) := by decide +kernel
theorem dX11_rate_3 : decode cX11_rate 3 = .ok (.invokestatic 80, 3) := by decide +kernel
theorem dX11_rate_6 : decode cX11_rate 6 = .ok (.ifCond .eq 17, 3) := by decide +kernel
theorem dX11_rate_9 : decode cX11_rate 9 = .ok (.iload_n 2, 1) := by decide +kernel
theorem dX11_rate_10 : decode cX11_rate 10 = .ok (.iconst 0, 1) := by decide +kernel
theorem dX11_rate_11 : decode cX11_rate 11 = .ok (.bipush 57, 2) := by decide +kernel
theorem dX11_rate_13 : decode cX11_rate 13 = .ok (.invokestatic 80, 3) := by decide +kernel
theorem dX11_rate_16 : decode cX11_rate 16 = .ok (.ifCond .eq 7, 3) := by decide +kernel
theorem dX11_rate_19 : decode cX11_rate 19 = .ok (.iconst 1, 1) := by decide +kernel
theorem dX11_rate_20 : decode cX11_rate 20 = .ok (.goto 4, 3) := by decide +kernel
theorem dX11_rate_24 : decode cX11_rate 24 = .ok (.istore 4, 2) := by decide +kernel
theorem dX11_rate_26 : decode cX11_rate 26 = .ok (.iload 4, 2) := by decide +kernel
theorem dX11_rate_28 : decode cX11_rate 28 = .ok (.ifCond .eq 31, 3) := by decide +kernel
theorem dX11_rate_31 : decode cX11_rate 31 = .ok (.aload_n 0, 1) := by decide +kernel
theorem dX11_rate_32 : decode cX11_rate 32 = .ok (.getfield 47, 3) := by decide +kernel
theorem dX11_rate_35 : decode cX11_rate 35 = .ok (.getfield 429, 3) := by decide +kernel
theorem dX11_rate_38 : decode cX11_rate 38 = .ok (.iload_n 1, 1) := by decide +kernel
theorem dX11_rate_39 : decode cX11_rate 39 = .ok (.bipush 58, 2) := by decide +kernel
theorem dX11_rate_41 : decode cX11_rate 41 = .ok (.imul, 1) := by decide +kernel
theorem dX11_rate_42 : decode cX11_rate 42 = .ok (.iload_n 2, 1) := by decide +kernel
theorem dX11_rate_43 : decode cX11_rate 43 = .ok (.iadd, 1) := by decide +kernel
theorem dX11_rate_44 : decode cX11_rate 44 = .ok (.iload_n 3, 1) := by decide +kernel
theorem dX11_rate_45 : decode cX11_rate 45 = .ok (.iconst 0, 1) := by decide +kernel
theorem dX11_rate_46 : decode cX11_rate 46 = .ok (.sipush 1000, 3) := by decide +kernel
theorem dX11_rate_49 : decode cX11_rate 49 = .ok (.invokestatic 177, 3) := by decide +kernel
theorem dX11_rate_52 : decode cX11_rate 52 = .ok (.ifCond .eq 7, 3) := by decide +kernel
theorem dX11_rate_55 : decode cX11_rate 55 = .ok (.iconst 1, 1) := by decide +kernel
theorem dX11_rate_56 : decode cX11_rate 56 = .ok (.goto 4, 3) := by decide +kernel
theorem dX11_rate_60 : decode cX11_rate 60 = .ok (.ireturn, 1) := by decide +kernel
theorem dX11_rate_59 : decode cX11_rate 59 = .ok (.iconst 0, 1) := by decide +kernel
theorem dX11_rate_23 : decode cX11_rate 23 = .ok (.iconst 0, 1) := by decide +kernel
set_option maxRecDepth 100000 in
set_option maxHeartbeats 4000000 in
theorem q_X_now (l : Launch) (D : va_G) (cI cB cZ : ClassId) (g : Nat → Nat) (v0 : Int32) (sz : Nat) : Met l yX11_now (CWS yX11_now cX11_now 2 (some .boolean)) (RM 3 0 0) (PBw [.ref (g 0), .int v0] D cI cB cZ [((g 0), .inr (12, oX g))] sz) (va_Qi (fun (r : Int32) (_ : Unit) => r = (if 0 ≤ v0.toInt ∧ v0.toInt ≤ 399 then (1 : Int32) else 0)) (fun (_ : Unit) (_ : State) => True) (va_A [((g 0), .inr (12, oX g))] sz)) 0 0 (va_A [((g 0), .inr (12, oX g))] sz) := by
  refine Met.ofW (cc := cX11_now) (maxL := 2) (ret := (some .boolean)) (by decide) rfl ?_
  intro p e s m args below meth c s₁ B hml hv
  obtain ⟨rfl, hsz, hP, hK, hD0⟩ := hv
  have hx := B.exec
  have hb := B.bytes
  have hr := B.returns
  have hts := atoms_spec (ws := (CWS yX11_now cX11_now 2 (some .boolean))) B.pre
  have hown : s.vm.findClass RX11 = some m.cls := findClass_of_methodNamed B.named
  have hlocks := B.notSynchronized
  have S : SF p m c cX11_now 2 s ([.ref (g 0), .int v0]).toArray RX11 := ⟨hx, hb, hml, hown, fun w h => hts w (List.mem_cons_of_mem _ h)⟩
  subst hsz
  have hD := hD0.self (sz := s.heap.size)
  generalize hAe : va_A [((g 0), .inr (12, oX g))] s.heap.size = A at hD ⊢
  have hA : ∀ q : Nat, s.heap.size ≤ q → A q := fun q h => by rw [← hAe]; exact Or.inr h
  have hS : va_S A s.heap s.heap [] := va_S.rf
  have hP : va_P D vwCl [((g 0), .inr (12, oX g))] s.heap := hP
  have hD : va_D A [((g 0), .inr (12, oX g))] := hD
  have hl := lv_entry ([.ref (g 0), .int v0]) (n := 2) (Nat.le_of_ble_eq_true rfl)
  rw [lg_entry_eq]
  generalize (lg_sl ([.ref (g 0), .int v0]) ++ List.replicate (2 - (lg_sl ([.ref (g 0), .int v0])).length) Slot.unset).toArray = ls at hl ⊢
  have hl : lv_has ls 2 [(0, .ref (g 0)), (1, .int v0)] := hl
  refine lv_iload_n hx hb dX11_now_0 rfl (lv_at hl 1 rfl) ?_
  refine vp_callSi (runS_r (As := [.int v0]) (rest := []) S (q_isDay l D cI cB cZ v0) kS_RX11_99 hK hP [] rfl ⟨Nat.le_of_ble_eq_true rfl, Nat.le_of_ble_eq_true rfl⟩ ⟨Nat.le_of_ble_eq_true rfl, Nat.le_of_ble_eq_true rfl⟩ rfl hl.1 rfl (Nat.le_of_ble_eq_true rfl) dX11_now_1) (fun r_1 h_2 => ?_)
  rcases h_2 with ⟨rfl, h_2⟩ | ⟨rfl, h_2⟩
  ·
    have h_2 : 0 ≤ v0.toInt ∧ v0.toInt ≤ 399 := h_2
    refine lv_if_eq (tgt := 15) hx hb dX11_now_4 (by decide) (fun h => absurd h (by decide)) (fun _ => ?_)
    refine lv_iload_n hx hb dX11_now_7 rfl (lv_at hl 1 rfl) ?_
    refine lv_aload_n hx hb dX11_now_8 rfl (lv_at hl 0 rfl) ?_
    refine gf_RX11_103 S hK hP 0 rfl (v := .int 0) rfl dX11_now_9 ?_
    refine lv_icmp_ge (tgt := 17) hx hb dX11_now_12 (by decide) (fun c_3 => ?_) (fun c_3 => False.elim (by have tc_3 : (v0.toInt : Int) < 0 := Int32.lt_iff_toInt_lt.mp (Int32.not_le.mp c_3); omega))
    have tc_3 : (0 : Int) ≤ v0.toInt := Int32.le_iff_toInt_le.mp c_3
    refine lv_aload_n hx hb dX11_now_17 rfl (lv_at hl 0 rfl) ?_
    refine lv_iload_n hx hb dX11_now_18 rfl (lv_at hl 1 rfl) ?_
    refine pf_RX11_103 S hK hP hD hS 0 rfl (v := .int v0) (Nat.le_of_ble_eq_true rfl) rfl rfl dX11_now_19 (fun H locs hP hD hS => ?_)
    have hP : va_P D vwCl [((g 0), .inr (12, [.int v0, .int 0, .int 0, .int 0, .ref (g 4), .ref (g 5), .ref (g 6), .ref (g 7), .ref (g 8), .ref (g 9), .ref (g 10), .ref (g 11), .ref (g 12), .ref (g 13), .ref (g 14), .ref (g 15)]))] H := hP
    have hD : va_D A [((g 0), .inr (12, [.int v0, .int 0, .int 0, .int 0, .ref (g 4), .ref (g 5), .ref (g 6), .ref (g 7), .ref (g 8), .ref (g 9), .ref (g 10), .ref (g 11), .ref (g 12), .ref (g 13), .ref (g 14), .ref (g 15)]))] := hD
    refine lv_iconst (v := 1) hx hb dX11_now_22 (by decide) ?_
    exact W.zret (v := 1) hx hb hr rfl (fun t ht hW => ⟨⟨1, (), rfl, (if_pos (by omega)).symm, trivial⟩, hS.F ht⟩) hS.2.2 dX11_now_23
  ·
    have h_2 : ¬ (0 ≤ v0.toInt ∧ v0.toInt ≤ 399) := h_2
    refine lv_if_eq (tgt := 15) hx hb dX11_now_4 (by decide) (fun _ => ?_) (fun h => absurd h (by decide))
    refine lv_iconst (v := 0) hx hb dX11_now_15 (by decide) ?_
    exact W.zret (v := 0) hx hb hr rfl (fun t ht hW => ⟨⟨0, (), rfl, (if_neg (by omega)).symm, trivial⟩, hS.F ht⟩) hS.2.2 dX11_now_16
set_option maxRecDepth 100000 in
set_option maxHeartbeats 4000000 in
theorem q_X_likely (l : Launch) (D : va_G) (cI cB cZ : ClassId) (g : Nat → Nat) (v0 v1 : Int32) : Met l yX11_likely (CWS yX11_likely cX11_likely 4 (some .int)) (RM 3 0 0) (PBr [.ref (g 0), .int v0, .int v1] D cI cB cZ [((g 0), .inr (12, oX g)), ((g 10), .inr (0, [.int 0, .ref (g 50), .int 0]))]) (vp_Si (fun r => r = -1)) 0 0 (fun _ => False) := by
  refine Met.ofW (cc := cX11_likely) (maxL := 4) (ret := (some .int)) (by decide) rfl ?_
  intro p e s m args below meth c s₁ B hml hv
  obtain ⟨rfl, hP, hK⟩ := hv
  have hx := B.exec
  have hb := B.bytes
  have hr := B.returns
  have hts := atoms_spec (ws := (CWS yX11_likely cX11_likely 4 (some .int))) B.pre
  have hown : s.vm.findClass RX11 = some m.cls := findClass_of_methodNamed B.named
  have hlocks := B.notSynchronized
  have S : SF p m c cX11_likely 4 s ([.ref (g 0), .int v0, .int v1]).toArray RX11 := ⟨hx, hb, hml, hown, fun w h => hts w (List.mem_cons_of_mem _ h)⟩
  have hP : va_P D vwCl [((g 0), .inr (12, oX g)), ((g 10), .inr (0, [.int 0, .ref (g 50), .int 0]))] s.heap := hP
  have hl := lv_entry ([.ref (g 0), .int v0, .int v1]) (n := 4) (Nat.le_of_ble_eq_true rfl)
  rw [lg_entry_eq]
  generalize (lg_sl ([.ref (g 0), .int v0, .int v1]) ++ List.replicate (4 - (lg_sl ([.ref (g 0), .int v0, .int v1])).length) Slot.unset).toArray = ls at hl ⊢
  have hl : lv_has ls 4 [(0, .ref (g 0)), (1, .int v0), (2, .int v1)] := hl
  refine lv_aload_n hx hb dX11_likely_0 rfl (lv_at hl 0 rfl) ?_
  refine lv_iload_n hx hb dX11_likely_1 rfl (lv_at hl 1 rfl) ?_
  refine va_csq (runV_r (As := [.int v0]) (rest := []) S (q_kitchenAt l D cI cB cZ g v0) kV_RX11_114 hK hP [0, 1] rfl 0 rfl rfl rfl ⟨Nat.le_of_ble_eq_true rfl, Nat.le_of_ble_eq_true rfl⟩ ⟨Nat.le_of_ble_eq_true rfl, Nat.le_of_ble_eq_true rfl⟩ rfl hl.1 rfl (Nat.le_of_ble_eq_true rfl) dX11_likely_2) (fun r_1 h_2 => ?_)
  subst h_2
  refine lv_astore_nN (lv' := [(3, .null), (0, .ref (g 0)), (1, .int v0), (2, .int v1)]) hx hb dX11_likely_5 rfl hl (by decide) rfl (fun ls hl => ?_)
  refine lv_aload_nN hx hb dX11_likely_6 rfl (lv_at hl 0 rfl) ?_
  refine lv_ifnullN (tgt := 25) hx hb dX11_likely_7 (by decide) ?_
  refine lv_iconst (v := (-1)) hx hb dX11_likely_25 (by decide) ?_
  exact W.iret (v := (-1)) hx hb hr (fun t ht hW => ⟨(-1), rfl, rfl, ht⟩) (fun _ h => absurd h List.not_mem_nil) dX11_likely_26
set_option maxRecDepth 100000 in
set_option maxHeartbeats 4000000 in
theorem q_X_missing (l : Launch) (D : va_G) (cI cB cZ : ClassId) (g : Nat → Nat) (v0 : Int32) : Met l yX11_missing (CWS yX11_missing cX11_missing 3 (some .int)) (RM 3 0 0) (PBr [.ref (g 0), .int v0] D cI cB cZ [((g 0), .inr (12, oX g)), ((g 11), .inr (0, [.int 0, .ref (g 50), .int 0]))]) (vp_Si (fun r => r = -1)) 0 0 (fun _ => False) := by
  refine Met.ofW (cc := cX11_missing) (maxL := 3) (ret := (some .int)) (by decide) rfl ?_
  intro p e s m args below meth c s₁ B hml hv
  obtain ⟨rfl, hP, hK⟩ := hv
  have hx := B.exec
  have hb := B.bytes
  have hr := B.returns
  have hts := atoms_spec (ws := (CWS yX11_missing cX11_missing 3 (some .int))) B.pre
  have hown : s.vm.findClass RX11 = some m.cls := findClass_of_methodNamed B.named
  have hlocks := B.notSynchronized
  have S : SF p m c cX11_missing 3 s ([.ref (g 0), .int v0]).toArray RX11 := ⟨hx, hb, hml, hown, fun w h => hts w (List.mem_cons_of_mem _ h)⟩
  have hP : va_P D vwCl [((g 0), .inr (12, oX g)), ((g 11), .inr (0, [.int 0, .ref (g 50), .int 0]))] s.heap := hP
  have hl := lv_entry ([.ref (g 0), .int v0]) (n := 3) (Nat.le_of_ble_eq_true rfl)
  rw [lg_entry_eq]
  generalize (lg_sl ([.ref (g 0), .int v0]) ++ List.replicate (3 - (lg_sl ([.ref (g 0), .int v0])).length) Slot.unset).toArray = ls at hl ⊢
  have hl : lv_has ls 3 [(0, .ref (g 0)), (1, .int v0)] := hl
  refine lv_aload_n hx hb dX11_missing_0 rfl (lv_at hl 0 rfl) ?_
  refine lv_iload_n hx hb dX11_missing_1 rfl (lv_at hl 1 rfl) ?_
  refine va_csq (runV_r (As := [.int v0]) (rest := []) S (q_loadAt l D cI cB cZ g v0) kV_RX11_148 hK hP [0, 1] rfl 0 rfl rfl rfl ⟨Nat.le_of_ble_eq_true rfl, Nat.le_of_ble_eq_true rfl⟩ ⟨Nat.le_of_ble_eq_true rfl, Nat.le_of_ble_eq_true rfl⟩ rfl hl.1 rfl (Nat.le_of_ble_eq_true rfl) dX11_missing_2) (fun r_1 h_2 => ?_)
  subst h_2
  refine lv_astore_nN (lv' := [(2, .null), (0, .ref (g 0)), (1, .int v0)]) hx hb dX11_missing_5 rfl hl (by decide) rfl (fun ls hl => ?_)
  refine lv_aload_nN hx hb dX11_missing_6 rfl (lv_at hl 0 rfl) ?_
  refine lv_ifnonnullN hx hb dX11_missing_7 ?_
  refine lv_iconst (v := (-1)) hx hb dX11_missing_10 (by decide) ?_
  refine lv_goto (tgt := 18) hx hb dX11_missing_11 (by decide) ?_
  exact W.iret (v := (-1)) hx hb hr (fun t ht hW => ⟨(-1), rfl, rfl, ht⟩) (fun _ h => absurd h List.not_mem_nil) dX11_missing_18
set_option maxRecDepth 100000 in
set_option maxHeartbeats 4000000 in
theorem q_add (l : Launch) (D : va_G) (cI cB cZ : ClassId) (x b k0 : Nat) (f : Nat → Int32) (v0 : Int32) (sz : Nat) (h4 : k0 + 4 ≤ 200) : Met l yX8_add (CWS yX8_add cX8_add 3 none) (RM 1 0 0) (PBw [.ref x, .int v0] D cI cB cZ [(x, .inr (9, [.ref b, .int (nI k0)])), (b, .inl (cI, 200, .inl f))] sz) (va_Qv (fun (_ : Nat → Int32) => True) (fun (u : Nat → Int32) (t : State) => va_P D vwCl [(x, .inr (9, [.ref b, .int (nI (k0 + 4))])), (b, .inl (cI, 200, .inl u))] t.heap ∧ va_D (va_A [(x, .inr (9, [.ref b, .int (nI k0)])), (b, .inl (cI, 200, .inl f))] sz) [(x, .inr (9, [.ref b, .int (nI (k0 + 4))])), (b, .inl (cI, 200, .inl u))]) (va_A [(x, .inr (9, [.ref b, .int (nI k0)])), (b, .inl (cI, 200, .inl f))] sz)) 0 0 (va_A [(x, .inr (9, [.ref b, .int (nI k0)])), (b, .inl (cI, 200, .inl f))] sz) := by
  refine Met.ofW (cc := cX8_add) (maxL := 3) (ret := none) (by decide) rfl ?_
  intro p e s m args below meth c s₁ B hml hv
  obtain ⟨rfl, hsz, hP, hK, hD0⟩ := hv
  have hx := B.exec
  have hb := B.bytes
  have hr := B.returns
  have hts := atoms_spec (ws := (CWS yX8_add cX8_add 3 none)) B.pre
  have hown : s.vm.findClass RX8 = some m.cls := findClass_of_methodNamed B.named
  have hlocks := B.notSynchronized
  have S : SF p m c cX8_add 3 s ([.ref x, .int v0]).toArray RX8 := ⟨hx, hb, hml, hown, fun w h => hts w (List.mem_cons_of_mem _ h)⟩
  subst hsz
  have hD := hD0.self (sz := s.heap.size)
  generalize hAe : va_A [(x, .inr (9, [.ref b, .int (nI k0)])), (b, .inl (cI, 200, .inl f))] s.heap.size = A at hD ⊢
  have hA : ∀ q : Nat, s.heap.size ≤ q → A q := fun q h => by rw [← hAe]; exact Or.inr h
  have hS : va_S A s.heap s.heap [] := va_S.rf
  have hP : va_P D vwCl [(x, .inr (9, [.ref b, .int (nI k0)])), (b, .inl (cI, 200, .inl f))] s.heap := hP
  have hD : va_D A [(x, .inr (9, [.ref b, .int (nI k0)])), (b, .inl (cI, 200, .inl f))] := hD
  have hl := lv_entry ([.ref x, .int v0]) (n := 3) (Nat.le_of_ble_eq_true rfl)
  rw [lg_entry_eq]
  generalize (lg_sl ([.ref x, .int v0]) ++ List.replicate (3 - (lg_sl ([.ref x, .int v0])).length) Slot.unset).toArray = ls at hl ⊢
  have hl : lv_has ls 3 [(0, .ref x), (1, .int v0)] := hl
  refine lv_bipush (v := 24) hx hb dX8_add_0 (by decide) ?_
  refine lv_istore_n (lv' := [(2, .int 24), (0, .ref x), (1, .int v0)]) hx hb dX8_add_2 rfl hl (by decide) rfl (fun ls hl => ?_)
  refine lv_iload_n hx hb dX8_add_3 rfl (lv_at hl 0 rfl) ?_
  refine lv_if_lt (tgt := 47) hx hb dX8_add_4 (by decide) (fun h => absurd h (by decide)) (fun _ => ?_)
  refine lv_aload_n hx hb dX8_add_7 rfl (lv_at hl 1 rfl) ?_
  refine gf_RX8_9 S hK hP 0 rfl (v := .ref b) rfl dX8_add_8 ?_
  refine lv_aload_n hx hb dX8_add_11 rfl (lv_at hl 1 rfl) ?_
  refine gf_RX8_13 S hK hP 0 rfl (v := .int (nI k0)) rfl dX8_add_12 ?_
  refine lv_iload_n hx hb dX8_add_15 rfl (lv_at hl 2 rfl) ?_
  refine lv_iload_n hx hb dX8_add_16 rfl (lv_at hl 0 rfl) ?_
  refine lv_ishr hx hb dX8_add_17 ?_
  refine lv_sipush (v := 255) hx hb dX8_add_18 (by decide) ?_
  refine lv_iand hx hb dX8_add_21 ?_
  have hFc := va_free (wc := [(b, .inl (cI, 200, .inl f))]) hD hS hA [1] rfl
  refine va_callv (runS_w (As := [.ref b, .int (nI k0), .int ((v0 >>> (24 &&& 31)) &&& 255)]) (rest := []) S (q_putU l D cI cB cZ b 200 f (nI k0) ((v0 >>> (24 &&& 31)) &&& 255) s.heap.size (by omega)) kS_RX8_17 hK hP hD [1] rfl rfl (by decide) ⟨Nat.le_of_ble_eq_true rfl, Nat.le_of_ble_eq_true rfl⟩ ⟨Nat.le_of_ble_eq_true rfl, Nat.le_of_ble_eq_true rfl⟩ rfl hl.1 rfl (Nat.le_of_ble_eq_true rfl) dX8_add_22) hS (fun q _ h => hFc q h) hFc (fun u_2 t H1 locs ht hvm h_3 hB hz1 hk1 hS => ?_)
  obtain ⟨hP1, hD1⟩ := hB
  rw [ht] at hP1
  obtain ⟨hP, hD⟩ := va_join (wr := [(x, .inr (9, [.ref b, .int (nI k0)]))]) (w1 := [(b, .inl (cI, 200, .inl u_2))]) hP hD [1] [0] rfl rfl (by decide) (by decide) hk1 hFc hP1 hD1
  generalize H1 = H at hP hS ⊢
  have hP : va_P D vwCl [(x, .inr (9, [.ref b, .int (nI k0)])), (b, .inl (cI, 200, .inl u_2))] H := hP
  have hD : va_D A [(x, .inr (9, [.ref b, .int (nI k0)])), (b, .inl (cI, 200, .inl u_2))] := hD
  refine lv_aload_n hx hb dX8_add_25 rfl (lv_at hl 1 rfl) ?_
  refine lv_aload_n hx hb dX8_add_26 rfl (lv_at hl 1 rfl) ?_
  refine gf_RX8_13 S hK hP 0 rfl (v := .int (nI k0)) rfl dX8_add_27 ?_
  refine lv_iconst (v := 1) hx hb dX8_add_30 (by decide) ?_
  refine lv_iadd hx hb dX8_add_31 ?_
  refine lv_sipush (v := 200) hx hb dX8_add_32 (by decide) ?_
  refine va_mmin hx hb (by rw [hml]; exact hl.1.symm) hown (S.2.2.2.2 _ (wT_tab 526 rfl rfl)) (S.2.2.2.2 _ (wT_tab 406 rfl rfl)) (S.2.2.2.2 _ (wT_tab 3 rfl rfl)) (S.2.2.2.2 _ (wT_tab 407 rfl rfl)) (Nat.le_of_ble_eq_true rfl) (Nat.le_of_ble_eq_true rfl) (Nat.le_of_ble_eq_true rfl) (Nat.le_of_ble_eq_true rfl) dX8_add_35 ?_
  refine lv_topi (fun y_4 ey_4 => ?_)
  obtain rfl : y_4 = (nI (k0 + 1)) := ey_4.trans (min200b (by omega))
  refine pf_RX8_13 S hK hP hD hS 0 rfl (v := .int (nI (k0 + 1))) (Nat.le_of_ble_eq_true rfl) rfl rfl dX8_add_38 (fun H locs hP hD hS => ?_)
  have hP : va_P D vwCl [(x, .inr (9, [.ref b, .int (nI (k0 + 1))])), (b, .inl (cI, 200, .inl u_2))] H := hP
  have hD : va_D A [(x, .inr (9, [.ref b, .int (nI (k0 + 1))])), (b, .inl (cI, 200, .inl u_2))] := hD
  refine lv_iinc (v := 16) (lv' := [(2, .int 16), (0, .ref x), (1, .int v0)]) hx hb dX8_add_41 hl (k := 0) rfl (by decide) (by decide) rfl (fun ls hl => ?_)
  refine lv_goto (tgt := 3) hx hb dX8_add_44 (by decide) ?_
  refine lv_iload_n hx hb dX8_add_3 rfl (lv_at hl 0 rfl) ?_
  refine lv_if_lt (tgt := 47) hx hb dX8_add_4 (by decide) (fun h => absurd h (by decide)) (fun _ => ?_)
  refine lv_aload_n hx hb dX8_add_7 rfl (lv_at hl 1 rfl) ?_
  refine gf_RX8_9 S hK hP 0 rfl (v := .ref b) rfl dX8_add_8 ?_
  refine lv_aload_n hx hb dX8_add_11 rfl (lv_at hl 1 rfl) ?_
  refine gf_RX8_13 S hK hP 0 rfl (v := .int (nI (k0 + 1))) rfl dX8_add_12 ?_
  refine lv_iload_n hx hb dX8_add_15 rfl (lv_at hl 2 rfl) ?_
  refine lv_iload_n hx hb dX8_add_16 rfl (lv_at hl 0 rfl) ?_
  refine lv_ishr hx hb dX8_add_17 ?_
  refine lv_sipush (v := 255) hx hb dX8_add_18 (by decide) ?_
  refine lv_iand hx hb dX8_add_21 ?_
  have hFc := va_free (wc := [(b, .inl (cI, 200, .inl u_2))]) hD hS hA [1] rfl
  refine va_callv (runS_w (As := [.ref b, .int (nI (k0 + 1)), .int ((v0 >>> (16 &&& 31)) &&& 255)]) (rest := []) S (q_putU l D cI cB cZ b 200 u_2 (nI (k0 + 1)) ((v0 >>> (16 &&& 31)) &&& 255) H.size (by omega)) kS_RX8_17 hK hP hD [1] rfl rfl (by decide) ⟨Nat.le_of_ble_eq_true rfl, Nat.le_of_ble_eq_true rfl⟩ ⟨Nat.le_of_ble_eq_true rfl, Nat.le_of_ble_eq_true rfl⟩ rfl hl.1 rfl (Nat.le_of_ble_eq_true rfl) dX8_add_22) hS (fun q _ h => hFc q h) hFc (fun u_6 t H1 locs ht hvm h_7 hB hz1 hk1 hS => ?_)
  obtain ⟨hP1, hD1⟩ := hB
  rw [ht] at hP1
  obtain ⟨hP, hD⟩ := va_join (wr := [(x, .inr (9, [.ref b, .int (nI (k0 + 1))]))]) (w1 := [(b, .inl (cI, 200, .inl u_6))]) hP hD [1] [0] rfl rfl (by decide) (by decide) hk1 hFc hP1 hD1
  generalize H1 = H at hP hS ⊢
  have hP : va_P D vwCl [(x, .inr (9, [.ref b, .int (nI (k0 + 1))])), (b, .inl (cI, 200, .inl u_6))] H := hP
  have hD : va_D A [(x, .inr (9, [.ref b, .int (nI (k0 + 1))])), (b, .inl (cI, 200, .inl u_6))] := hD
  refine lv_aload_n hx hb dX8_add_25 rfl (lv_at hl 1 rfl) ?_
  refine lv_aload_n hx hb dX8_add_26 rfl (lv_at hl 1 rfl) ?_
  refine gf_RX8_13 S hK hP 0 rfl (v := .int (nI (k0 + 1))) rfl dX8_add_27 ?_
  refine lv_iconst (v := 1) hx hb dX8_add_30 (by decide) ?_
  refine lv_iadd hx hb dX8_add_31 ?_
  refine lv_sipush (v := 200) hx hb dX8_add_32 (by decide) ?_
  refine va_mmin hx hb (by rw [hml]; exact hl.1.symm) hown (S.2.2.2.2 _ (wT_tab 526 rfl rfl)) (S.2.2.2.2 _ (wT_tab 406 rfl rfl)) (S.2.2.2.2 _ (wT_tab 3 rfl rfl)) (S.2.2.2.2 _ (wT_tab 407 rfl rfl)) (Nat.le_of_ble_eq_true rfl) (Nat.le_of_ble_eq_true rfl) (Nat.le_of_ble_eq_true rfl) (Nat.le_of_ble_eq_true rfl) dX8_add_35 ?_
  refine lv_topi (fun y_8 ey_8 => ?_)
  obtain rfl : y_8 = (nI (k0 + 2)) := ey_8.trans (min200b (by omega))
  refine pf_RX8_13 S hK hP hD hS 0 rfl (v := .int (nI (k0 + 2))) (Nat.le_of_ble_eq_true rfl) rfl rfl dX8_add_38 (fun H locs hP hD hS => ?_)
  have hP : va_P D vwCl [(x, .inr (9, [.ref b, .int (nI (k0 + 2))])), (b, .inl (cI, 200, .inl u_6))] H := hP
  have hD : va_D A [(x, .inr (9, [.ref b, .int (nI (k0 + 2))])), (b, .inl (cI, 200, .inl u_6))] := hD
  refine lv_iinc (v := 8) (lv' := [(2, .int 8), (0, .ref x), (1, .int v0)]) hx hb dX8_add_41 hl (k := 0) rfl (by decide) (by decide) rfl (fun ls hl => ?_)
  refine lv_goto (tgt := 3) hx hb dX8_add_44 (by decide) ?_
  refine lv_iload_n hx hb dX8_add_3 rfl (lv_at hl 0 rfl) ?_
  refine lv_if_lt (tgt := 47) hx hb dX8_add_4 (by decide) (fun h => absurd h (by decide)) (fun _ => ?_)
  refine lv_aload_n hx hb dX8_add_7 rfl (lv_at hl 1 rfl) ?_
  refine gf_RX8_9 S hK hP 0 rfl (v := .ref b) rfl dX8_add_8 ?_
  refine lv_aload_n hx hb dX8_add_11 rfl (lv_at hl 1 rfl) ?_
  refine gf_RX8_13 S hK hP 0 rfl (v := .int (nI (k0 + 2))) rfl dX8_add_12 ?_
  refine lv_iload_n hx hb dX8_add_15 rfl (lv_at hl 2 rfl) ?_
  refine lv_iload_n hx hb dX8_add_16 rfl (lv_at hl 0 rfl) ?_
  refine lv_ishr hx hb dX8_add_17 ?_
  refine lv_sipush (v := 255) hx hb dX8_add_18 (by decide) ?_
  refine lv_iand hx hb dX8_add_21 ?_
  have hFc := va_free (wc := [(b, .inl (cI, 200, .inl u_6))]) hD hS hA [1] rfl
  refine va_callv (runS_w (As := [.ref b, .int (nI (k0 + 2)), .int ((v0 >>> (8 &&& 31)) &&& 255)]) (rest := []) S (q_putU l D cI cB cZ b 200 u_6 (nI (k0 + 2)) ((v0 >>> (8 &&& 31)) &&& 255) H.size (by omega)) kS_RX8_17 hK hP hD [1] rfl rfl (by decide) ⟨Nat.le_of_ble_eq_true rfl, Nat.le_of_ble_eq_true rfl⟩ ⟨Nat.le_of_ble_eq_true rfl, Nat.le_of_ble_eq_true rfl⟩ rfl hl.1 rfl (Nat.le_of_ble_eq_true rfl) dX8_add_22) hS (fun q _ h => hFc q h) hFc (fun u_10 t H1 locs ht hvm h_11 hB hz1 hk1 hS => ?_)
  obtain ⟨hP1, hD1⟩ := hB
  rw [ht] at hP1
  obtain ⟨hP, hD⟩ := va_join (wr := [(x, .inr (9, [.ref b, .int (nI (k0 + 2))]))]) (w1 := [(b, .inl (cI, 200, .inl u_10))]) hP hD [1] [0] rfl rfl (by decide) (by decide) hk1 hFc hP1 hD1
  generalize H1 = H at hP hS ⊢
  have hP : va_P D vwCl [(x, .inr (9, [.ref b, .int (nI (k0 + 2))])), (b, .inl (cI, 200, .inl u_10))] H := hP
  have hD : va_D A [(x, .inr (9, [.ref b, .int (nI (k0 + 2))])), (b, .inl (cI, 200, .inl u_10))] := hD
  refine lv_aload_n hx hb dX8_add_25 rfl (lv_at hl 1 rfl) ?_
  refine lv_aload_n hx hb dX8_add_26 rfl (lv_at hl 1 rfl) ?_
  refine gf_RX8_13 S hK hP 0 rfl (v := .int (nI (k0 + 2))) rfl dX8_add_27 ?_
  refine lv_iconst (v := 1) hx hb dX8_add_30 (by decide) ?_
  refine lv_iadd hx hb dX8_add_31 ?_
  refine lv_sipush (v := 200) hx hb dX8_add_32 (by decide) ?_
  refine va_mmin hx hb (by rw [hml]; exact hl.1.symm) hown (S.2.2.2.2 _ (wT_tab 526 rfl rfl)) (S.2.2.2.2 _ (wT_tab 406 rfl rfl)) (S.2.2.2.2 _ (wT_tab 3 rfl rfl)) (S.2.2.2.2 _ (wT_tab 407 rfl rfl)) (Nat.le_of_ble_eq_true rfl) (Nat.le_of_ble_eq_true rfl) (Nat.le_of_ble_eq_true rfl) (Nat.le_of_ble_eq_true rfl) dX8_add_35 ?_
  refine lv_topi (fun y_12 ey_12 => ?_)
  obtain rfl : y_12 = (nI (k0 + 3)) := ey_12.trans (min200b (by omega))
  refine pf_RX8_13 S hK hP hD hS 0 rfl (v := .int (nI (k0 + 3))) (Nat.le_of_ble_eq_true rfl) rfl rfl dX8_add_38 (fun H locs hP hD hS => ?_)
  have hP : va_P D vwCl [(x, .inr (9, [.ref b, .int (nI (k0 + 3))])), (b, .inl (cI, 200, .inl u_10))] H := hP
  have hD : va_D A [(x, .inr (9, [.ref b, .int (nI (k0 + 3))])), (b, .inl (cI, 200, .inl u_10))] := hD
  refine lv_iinc (v := 0) (lv' := [(2, .int 0), (0, .ref x), (1, .int v0)]) hx hb dX8_add_41 hl (k := 0) rfl (by decide) (by decide) rfl (fun ls hl => ?_)
  refine lv_goto (tgt := 3) hx hb dX8_add_44 (by decide) ?_
  refine lv_iload_n hx hb dX8_add_3 rfl (lv_at hl 0 rfl) ?_
  refine lv_if_lt (tgt := 47) hx hb dX8_add_4 (by decide) (fun h => absurd h (by decide)) (fun _ => ?_)
  refine lv_aload_n hx hb dX8_add_7 rfl (lv_at hl 1 rfl) ?_
  refine gf_RX8_9 S hK hP 0 rfl (v := .ref b) rfl dX8_add_8 ?_
  refine lv_aload_n hx hb dX8_add_11 rfl (lv_at hl 1 rfl) ?_
  refine gf_RX8_13 S hK hP 0 rfl (v := .int (nI (k0 + 3))) rfl dX8_add_12 ?_
  refine lv_iload_n hx hb dX8_add_15 rfl (lv_at hl 2 rfl) ?_
  refine lv_iload_n hx hb dX8_add_16 rfl (lv_at hl 0 rfl) ?_
  refine lv_ishr hx hb dX8_add_17 ?_
  refine lv_sipush (v := 255) hx hb dX8_add_18 (by decide) ?_
  refine lv_iand hx hb dX8_add_21 ?_
  have hFc := va_free (wc := [(b, .inl (cI, 200, .inl u_10))]) hD hS hA [1] rfl
  refine va_callv (runS_w (As := [.ref b, .int (nI (k0 + 3)), .int ((v0 >>> (0 &&& 31)) &&& 255)]) (rest := []) S (q_putU l D cI cB cZ b 200 u_10 (nI (k0 + 3)) ((v0 >>> (0 &&& 31)) &&& 255) H.size (by omega)) kS_RX8_17 hK hP hD [1] rfl rfl (by decide) ⟨Nat.le_of_ble_eq_true rfl, Nat.le_of_ble_eq_true rfl⟩ ⟨Nat.le_of_ble_eq_true rfl, Nat.le_of_ble_eq_true rfl⟩ rfl hl.1 rfl (Nat.le_of_ble_eq_true rfl) dX8_add_22) hS (fun q _ h => hFc q h) hFc (fun u_14 t H1 locs ht hvm h_15 hB hz1 hk1 hS => ?_)
  obtain ⟨hP1, hD1⟩ := hB
  rw [ht] at hP1
  obtain ⟨hP, hD⟩ := va_join (wr := [(x, .inr (9, [.ref b, .int (nI (k0 + 3))]))]) (w1 := [(b, .inl (cI, 200, .inl u_14))]) hP hD [1] [0] rfl rfl (by decide) (by decide) hk1 hFc hP1 hD1
  generalize H1 = H at hP hS ⊢
  have hP : va_P D vwCl [(x, .inr (9, [.ref b, .int (nI (k0 + 3))])), (b, .inl (cI, 200, .inl u_14))] H := hP
  have hD : va_D A [(x, .inr (9, [.ref b, .int (nI (k0 + 3))])), (b, .inl (cI, 200, .inl u_14))] := hD
  refine lv_aload_n hx hb dX8_add_25 rfl (lv_at hl 1 rfl) ?_
  refine lv_aload_n hx hb dX8_add_26 rfl (lv_at hl 1 rfl) ?_
  refine gf_RX8_13 S hK hP 0 rfl (v := .int (nI (k0 + 3))) rfl dX8_add_27 ?_
  refine lv_iconst (v := 1) hx hb dX8_add_30 (by decide) ?_
  refine lv_iadd hx hb dX8_add_31 ?_
  refine lv_sipush (v := 200) hx hb dX8_add_32 (by decide) ?_
  refine va_mmin hx hb (by rw [hml]; exact hl.1.symm) hown (S.2.2.2.2 _ (wT_tab 526 rfl rfl)) (S.2.2.2.2 _ (wT_tab 406 rfl rfl)) (S.2.2.2.2 _ (wT_tab 3 rfl rfl)) (S.2.2.2.2 _ (wT_tab 407 rfl rfl)) (Nat.le_of_ble_eq_true rfl) (Nat.le_of_ble_eq_true rfl) (Nat.le_of_ble_eq_true rfl) (Nat.le_of_ble_eq_true rfl) dX8_add_35 ?_
  refine lv_topi (fun y_16 ey_16 => ?_)
  obtain rfl : y_16 = (nI (k0 + 4)) := ey_16.trans (min200b (by omega))
  refine pf_RX8_13 S hK hP hD hS 0 rfl (v := .int (nI (k0 + 4))) (Nat.le_of_ble_eq_true rfl) rfl rfl dX8_add_38 (fun H locs hP hD hS => ?_)
  have hP : va_P D vwCl [(x, .inr (9, [.ref b, .int (nI (k0 + 4))])), (b, .inl (cI, 200, .inl u_14))] H := hP
  have hD : va_D A [(x, .inr (9, [.ref b, .int (nI (k0 + 4))])), (b, .inl (cI, 200, .inl u_14))] := hD
  refine lv_iinc (v := (-8)) (lv' := [(2, .int (-8)), (0, .ref x), (1, .int v0)]) hx hb dX8_add_41 hl (k := 0) rfl (by decide) (by decide) rfl (fun ls hl => ?_)
  refine lv_goto (tgt := 3) hx hb dX8_add_44 (by decide) ?_
  refine lv_iload_n hx hb dX8_add_3 rfl (lv_at hl 0 rfl) ?_
  refine lv_if_lt (tgt := 47) hx hb dX8_add_4 (by decide) (fun _ => ?_) (fun h => absurd h (by decide))
  have hP9 := hP.sub (ws' := [(x, .inr (9, [.ref b, .int (nI (k0 + 4))])), (b, .inl (cI, 200, .inl u_14))]) [0, 1] rfl
  have hD9 := hD.sub (ws' := [(x, .inr (9, [.ref b, .int (nI (k0 + 4))])), (b, .inl (cI, 200, .inl u_14))]) [0, 1] (by decide) rfl
  exact W.vret hx hb hr (fun t ht hW => ⟨⟨u_14, rfl, trivial, by rw [ht]; exact hP9, hD9⟩, hS.F ht⟩) hS.2.2 dX8_add_47
set_option maxRecDepth 100000 in
set_option maxHeartbeats 4000000 in
theorem q_X_feed (l : Launch) (D : va_G) (cI cB cZ : ClassId) (g : Nat → Nat) (v0 v1 v2 v3 v4 : Int32) (sz : Nat) : Met l yX11_feed (CWS yX11_feed cX11_feed 6 (some .int)) (RM 2 0 0) (PBw [.ref (g 0), .int v0, .int v1, .int v2, .int v3, .int v4] D cI cB cZ [((g 0), .inr (12, oX g)), ((g 5), .inr (9, [.ref (g 40), .int 0])), ((g 40), .inl (cI, 200, .inl (fun _ => 0)))] sz) (va_Qi (fun (r : Int32) (_ : Unit) => r = 20) (fun (_ : Unit) (_ : State) => True) (va_A [((g 0), .inr (12, oX g)), ((g 5), .inr (9, [.ref (g 40), .int 0])), ((g 40), .inl (cI, 200, .inl (fun _ => 0)))] sz)) 0 0 (va_A [((g 0), .inr (12, oX g)), ((g 5), .inr (9, [.ref (g 40), .int 0])), ((g 40), .inl (cI, 200, .inl (fun _ => 0)))] sz) := by
  refine Met.ofW (cc := cX11_feed) (maxL := 6) (ret := (some .int)) (by decide) rfl ?_
  intro p e s m args below meth c s₁ B hml hv
  obtain ⟨rfl, hsz, hP, hK, hD0⟩ := hv
  have hx := B.exec
  have hb := B.bytes
  have hr := B.returns
  have hts := atoms_spec (ws := (CWS yX11_feed cX11_feed 6 (some .int))) B.pre
  have hown : s.vm.findClass RX11 = some m.cls := findClass_of_methodNamed B.named
  have hlocks := B.notSynchronized
  have S : SF p m c cX11_feed 6 s ([.ref (g 0), .int v0, .int v1, .int v2, .int v3, .int v4]).toArray RX11 := ⟨hx, hb, hml, hown, fun w h => hts w (List.mem_cons_of_mem _ h)⟩
  subst hsz
  have hD := hD0.self (sz := s.heap.size)
  generalize hAe : va_A [((g 0), .inr (12, oX g)), ((g 5), .inr (9, [.ref (g 40), .int 0])), ((g 40), .inl (cI, 200, .inl (fun _ => 0)))] s.heap.size = A at hD ⊢
  have hA : ∀ q : Nat, s.heap.size ≤ q → A q := fun q h => by rw [← hAe]; exact Or.inr h
  have hS : va_S A s.heap s.heap [] := va_S.rf
  have hP : va_P D vwCl [((g 0), .inr (12, oX g)), ((g 5), .inr (9, [.ref (g 40), .int 0])), ((g 40), .inl (cI, 200, .inl (fun _ => 0)))] s.heap := hP
  have hD : va_D A [((g 0), .inr (12, oX g)), ((g 5), .inr (9, [.ref (g 40), .int 0])), ((g 40), .inl (cI, 200, .inl (fun _ => 0)))] := hD
  have hl := lv_entry ([.ref (g 0), .int v0, .int v1, .int v2, .int v3, .int v4]) (n := 6) (Nat.le_of_ble_eq_true rfl)
  rw [lg_entry_eq]
  generalize (lg_sl ([.ref (g 0), .int v0, .int v1, .int v2, .int v3, .int v4]) ++ List.replicate (6 - (lg_sl ([.ref (g 0), .int v0, .int v1, .int v2, .int v3, .int v4])).length) Slot.unset).toArray = ls at hl ⊢
  have hl : lv_has ls 6 [(0, .ref (g 0)), (1, .int v0), (2, .int v1), (3, .int v2), (4, .int v3), (5, .int v4)] := hl
  refine lv_aload_n hx hb dX11_feed_0 rfl (lv_at hl 0 rfl) ?_
  refine gf_RX11_21 S hK hP 0 rfl (v := .ref (g 5)) rfl dX11_feed_1 ?_
  refine vp_callSi (runV_r (As := []) (rest := []) S (q_tapeLen l D cI cB cZ (g 5) (g 40) 0) kV_RX11_152 hK hP [1] rfl 1 rfl rfl rfl ⟨Nat.le_of_ble_eq_true rfl, Nat.le_of_ble_eq_true rfl⟩ ⟨Nat.le_of_ble_eq_true rfl, Nat.le_of_ble_eq_true rfl⟩ rfl hl.1 rfl (Nat.le_of_ble_eq_true rfl) dX11_feed_4) (fun r_1 h_2 => ?_)
  subst h_2
  refine lv_bipush (v := 20) hx hb dX11_feed_7 (by decide) ?_
  refine lv_iadd hx hb dX11_feed_9 ?_
  refine lv_topi (fun y_3 ey_3 => ?_)
  obtain rfl : y_3 = 20 := ey_3.trans (by decide)
  refine lv_sipush (v := 200) hx hb dX11_feed_10 (by decide) ?_
  refine lv_icmp_le (tgt := 18) hx hb dX11_feed_13 (by decide) (fun _ => ?_) (fun h => absurd h (by decide))
  refine lv_aload_n hx hb dX11_feed_18 rfl (lv_at hl 0 rfl) ?_
  refine gf_RX11_21 S hK hP 0 rfl (v := .ref (g 5)) rfl dX11_feed_19 ?_
  refine lv_iload_n hx hb dX11_feed_22 rfl (lv_at hl 1 rfl) ?_
  have hFc := va_free (wc := [((g 5), .inr (9, [.ref (g 40), .int 0])), ((g 40), .inl (cI, 200, .inl (fun _ => 0)))]) hD hS hA [1, 2] rfl
  refine va_callv (runV_w (As := [.int v0]) (rest := []) S (q_add l D cI cB cZ (g 5) (g 40) 0 (fun _ => 0) v0 s.heap.size (by omega)) kV_RX11_153 hK hP hD [1, 2] rfl rfl (by decide) 1 rfl rfl rfl ⟨Nat.le_of_ble_eq_true rfl, Nat.le_of_ble_eq_true rfl⟩ ⟨Nat.le_of_ble_eq_true rfl, Nat.le_of_ble_eq_true rfl⟩ rfl hl.1 rfl (Nat.le_of_ble_eq_true rfl) dX11_feed_23) hS (fun q _ h => hFc q h) hFc (fun u_5 t H1 locs ht hvm h_6 hB hz1 hk1 hS => ?_)
  obtain ⟨hP1, hD1⟩ := hB
  rw [ht] at hP1
  obtain ⟨hP, hD⟩ := va_join (wr := [((g 0), .inr (12, oX g))]) (w1 := [((g 5), .inr (9, [.ref (g 40), .int (nI (0 + 4))])), ((g 40), .inl (cI, 200, .inl u_5))]) hP hD [1, 2] [0] rfl rfl (by decide) (by decide) hk1 hFc hP1 hD1
  generalize H1 = H at hP hS ⊢
  have hP : va_P D vwCl [((g 0), .inr (12, oX g)), ((g 5), .inr (9, [.ref (g 40), .int (nI (0 + 4))])), ((g 40), .inl (cI, 200, .inl u_5))] H := hP
  have hD : va_D A [((g 0), .inr (12, oX g)), ((g 5), .inr (9, [.ref (g 40), .int (nI (0 + 4))])), ((g 40), .inl (cI, 200, .inl u_5))] := hD
  refine lv_aload_n hx hb dX11_feed_26 rfl (lv_at hl 0 rfl) ?_
  refine gf_RX11_21 S hK hP 0 rfl (v := .ref (g 5)) rfl dX11_feed_27 ?_
  refine lv_iload_n hx hb dX11_feed_30 rfl (lv_at hl 2 rfl) ?_
  have hFc := va_free (wc := [((g 5), .inr (9, [.ref (g 40), .int (nI (0 + 4))])), ((g 40), .inl (cI, 200, .inl u_5))]) hD hS hA [1, 2] rfl
  refine va_callv (runV_w (As := [.int v1]) (rest := []) S (q_add l D cI cB cZ (g 5) (g 40) 4 u_5 v1 H.size (by omega)) kV_RX11_153 hK hP hD [1, 2] rfl rfl (by decide) 1 rfl rfl rfl ⟨Nat.le_of_ble_eq_true rfl, Nat.le_of_ble_eq_true rfl⟩ ⟨Nat.le_of_ble_eq_true rfl, Nat.le_of_ble_eq_true rfl⟩ rfl hl.1 rfl (Nat.le_of_ble_eq_true rfl) dX11_feed_31) hS (fun q _ h => hFc q h) hFc (fun u_8 t H1 locs ht hvm h_9 hB hz1 hk1 hS => ?_)
  obtain ⟨hP1, hD1⟩ := hB
  rw [ht] at hP1
  obtain ⟨hP, hD⟩ := va_join (wr := [((g 0), .inr (12, oX g))]) (w1 := [((g 5), .inr (9, [.ref (g 40), .int (nI (4 + 4))])), ((g 40), .inl (cI, 200, .inl u_8))]) hP hD [1, 2] [0] rfl rfl (by decide) (by decide) hk1 hFc hP1 hD1
  generalize H1 = H at hP hS ⊢
  have hP : va_P D vwCl [((g 0), .inr (12, oX g)), ((g 5), .inr (9, [.ref (g 40), .int (nI (4 + 4))])), ((g 40), .inl (cI, 200, .inl u_8))] H := hP
  have hD : va_D A [((g 0), .inr (12, oX g)), ((g 5), .inr (9, [.ref (g 40), .int (nI (4 + 4))])), ((g 40), .inl (cI, 200, .inl u_8))] := hD
  refine lv_aload_n hx hb dX11_feed_34 rfl (lv_at hl 0 rfl) ?_
  refine gf_RX11_21 S hK hP 0 rfl (v := .ref (g 5)) rfl dX11_feed_35 ?_
  refine lv_iload_n hx hb dX11_feed_38 rfl (lv_at hl 3 rfl) ?_
  have hFc := va_free (wc := [((g 5), .inr (9, [.ref (g 40), .int (nI (4 + 4))])), ((g 40), .inl (cI, 200, .inl u_8))]) hD hS hA [1, 2] rfl
  refine va_callv (runV_w (As := [.int v2]) (rest := []) S (q_add l D cI cB cZ (g 5) (g 40) 8 u_8 v2 H.size (by omega)) kV_RX11_153 hK hP hD [1, 2] rfl rfl (by decide) 1 rfl rfl rfl ⟨Nat.le_of_ble_eq_true rfl, Nat.le_of_ble_eq_true rfl⟩ ⟨Nat.le_of_ble_eq_true rfl, Nat.le_of_ble_eq_true rfl⟩ rfl hl.1 rfl (Nat.le_of_ble_eq_true rfl) dX11_feed_39) hS (fun q _ h => hFc q h) hFc (fun u_11 t H1 locs ht hvm h_12 hB hz1 hk1 hS => ?_)
  obtain ⟨hP1, hD1⟩ := hB
  rw [ht] at hP1
  obtain ⟨hP, hD⟩ := va_join (wr := [((g 0), .inr (12, oX g))]) (w1 := [((g 5), .inr (9, [.ref (g 40), .int (nI (8 + 4))])), ((g 40), .inl (cI, 200, .inl u_11))]) hP hD [1, 2] [0] rfl rfl (by decide) (by decide) hk1 hFc hP1 hD1
  generalize H1 = H at hP hS ⊢
  have hP : va_P D vwCl [((g 0), .inr (12, oX g)), ((g 5), .inr (9, [.ref (g 40), .int (nI (8 + 4))])), ((g 40), .inl (cI, 200, .inl u_11))] H := hP
  have hD : va_D A [((g 0), .inr (12, oX g)), ((g 5), .inr (9, [.ref (g 40), .int (nI (8 + 4))])), ((g 40), .inl (cI, 200, .inl u_11))] := hD
  refine lv_aload_n hx hb dX11_feed_42 rfl (lv_at hl 0 rfl) ?_
  refine gf_RX11_21 S hK hP 0 rfl (v := .ref (g 5)) rfl dX11_feed_43 ?_
  refine lv_iload hx hb dX11_feed_46 (lv_at hl 4 rfl) ?_
  have hFc := va_free (wc := [((g 5), .inr (9, [.ref (g 40), .int (nI (8 + 4))])), ((g 40), .inl (cI, 200, .inl u_11))]) hD hS hA [1, 2] rfl
  refine va_callv (runV_w (As := [.int v3]) (rest := []) S (q_add l D cI cB cZ (g 5) (g 40) 12 u_11 v3 H.size (by omega)) kV_RX11_153 hK hP hD [1, 2] rfl rfl (by decide) 1 rfl rfl rfl ⟨Nat.le_of_ble_eq_true rfl, Nat.le_of_ble_eq_true rfl⟩ ⟨Nat.le_of_ble_eq_true rfl, Nat.le_of_ble_eq_true rfl⟩ rfl hl.1 rfl (Nat.le_of_ble_eq_true rfl) dX11_feed_48) hS (fun q _ h => hFc q h) hFc (fun u_14 t H1 locs ht hvm h_15 hB hz1 hk1 hS => ?_)
  obtain ⟨hP1, hD1⟩ := hB
  rw [ht] at hP1
  obtain ⟨hP, hD⟩ := va_join (wr := [((g 0), .inr (12, oX g))]) (w1 := [((g 5), .inr (9, [.ref (g 40), .int (nI (12 + 4))])), ((g 40), .inl (cI, 200, .inl u_14))]) hP hD [1, 2] [0] rfl rfl (by decide) (by decide) hk1 hFc hP1 hD1
  generalize H1 = H at hP hS ⊢
  have hP : va_P D vwCl [((g 0), .inr (12, oX g)), ((g 5), .inr (9, [.ref (g 40), .int (nI (12 + 4))])), ((g 40), .inl (cI, 200, .inl u_14))] H := hP
  have hD : va_D A [((g 0), .inr (12, oX g)), ((g 5), .inr (9, [.ref (g 40), .int (nI (12 + 4))])), ((g 40), .inl (cI, 200, .inl u_14))] := hD
  refine lv_aload_n hx hb dX11_feed_51 rfl (lv_at hl 0 rfl) ?_
  refine gf_RX11_21 S hK hP 0 rfl (v := .ref (g 5)) rfl dX11_feed_52 ?_
  refine lv_iload hx hb dX11_feed_55 (lv_at hl 5 rfl) ?_
  have hFc := va_free (wc := [((g 5), .inr (9, [.ref (g 40), .int (nI (12 + 4))])), ((g 40), .inl (cI, 200, .inl u_14))]) hD hS hA [1, 2] rfl
  refine va_callv (runV_w (As := [.int v4]) (rest := []) S (q_add l D cI cB cZ (g 5) (g 40) 16 u_14 v4 H.size (by omega)) kV_RX11_153 hK hP hD [1, 2] rfl rfl (by decide) 1 rfl rfl rfl ⟨Nat.le_of_ble_eq_true rfl, Nat.le_of_ble_eq_true rfl⟩ ⟨Nat.le_of_ble_eq_true rfl, Nat.le_of_ble_eq_true rfl⟩ rfl hl.1 rfl (Nat.le_of_ble_eq_true rfl) dX11_feed_57) hS (fun q _ h => hFc q h) hFc (fun u_17 t H1 locs ht hvm h_18 hB hz1 hk1 hS => ?_)
  obtain ⟨hP1, hD1⟩ := hB
  rw [ht] at hP1
  obtain ⟨hP, hD⟩ := va_join (wr := [((g 0), .inr (12, oX g))]) (w1 := [((g 5), .inr (9, [.ref (g 40), .int (nI (16 + 4))])), ((g 40), .inl (cI, 200, .inl u_17))]) hP hD [1, 2] [0] rfl rfl (by decide) (by decide) hk1 hFc hP1 hD1
  generalize H1 = H at hP hS ⊢
  have hP : va_P D vwCl [((g 0), .inr (12, oX g)), ((g 5), .inr (9, [.ref (g 40), .int (nI (16 + 4))])), ((g 40), .inl (cI, 200, .inl u_17))] H := hP
  have hD : va_D A [((g 0), .inr (12, oX g)), ((g 5), .inr (9, [.ref (g 40), .int (nI (16 + 4))])), ((g 40), .inl (cI, 200, .inl u_17))] := hD
  refine lv_aload_n hx hb dX11_feed_60 rfl (lv_at hl 0 rfl) ?_
  refine gf_RX11_21 S hK hP 0 rfl (v := .ref (g 5)) rfl dX11_feed_61 ?_
  refine vp_callSi (runV_r (As := []) (rest := []) S (q_tapeLen l D cI cB cZ (g 5) (g 40) (nI (16 + 4))) kV_RX11_152 hK hP [1] rfl 1 rfl rfl rfl ⟨Nat.le_of_ble_eq_true rfl, Nat.le_of_ble_eq_true rfl⟩ ⟨Nat.le_of_ble_eq_true rfl, Nat.le_of_ble_eq_true rfl⟩ rfl hl.1 rfl (Nat.le_of_ble_eq_true rfl) dX11_feed_64) (fun r_19 h_20 => ?_)
  subst h_20
  exact W.iret (v := (nI (16 + 4))) hx hb hr (fun t ht hW => ⟨⟨(nI (16 + 4)), (), rfl, rfl, trivial⟩, hS.F ht⟩) hS.2.2 dX11_feed_67
set_option maxRecDepth 100000 in
set_option maxHeartbeats 4000000 in
theorem q_X_contract (l : Launch) (D : va_G) (cI cB cZ : ClassId) (g : Nat → Nat) (v0 v1 : Int32) : Met l yX11_contract (CWS yX11_contract cX11_contract 5 (some .int)) (RM 3 0 0) (PBr [.ref (g 0), .int v0, .int v1] D cI cB cZ [((g 0), .inr (12, oX g)), ((g 10), .inr (0, [.int 0, .ref (g 50), .int 0]))]) (vp_Si (fun r => r = -1)) 0 0 (fun _ => False) := by
  refine Met.ofW (cc := cX11_contract) (maxL := 5) (ret := (some .int)) (by decide) rfl ?_
  intro p e s m args below meth c s₁ B hml hv
  obtain ⟨rfl, hP, hK⟩ := hv
  have hx := B.exec
  have hb := B.bytes
  have hr := B.returns
  have hts := atoms_spec (ws := (CWS yX11_contract cX11_contract 5 (some .int))) B.pre
  have hown : s.vm.findClass RX11 = some m.cls := findClass_of_methodNamed B.named
  have hlocks := B.notSynchronized
  have S : SF p m c cX11_contract 5 s ([.ref (g 0), .int v0, .int v1]).toArray RX11 := ⟨hx, hb, hml, hown, fun w h => hts w (List.mem_cons_of_mem _ h)⟩
  have hP : va_P D vwCl [((g 0), .inr (12, oX g)), ((g 10), .inr (0, [.int 0, .ref (g 50), .int 0]))] s.heap := hP
  have hl := lv_entry ([.ref (g 0), .int v0, .int v1]) (n := 5) (Nat.le_of_ble_eq_true rfl)
  rw [lg_entry_eq]
  generalize (lg_sl ([.ref (g 0), .int v0, .int v1]) ++ List.replicate (5 - (lg_sl ([.ref (g 0), .int v0, .int v1])).length) Slot.unset).toArray = ls at hl ⊢
  have hl : lv_has ls 5 [(0, .ref (g 0)), (1, .int v0), (2, .int v1)] := hl
  refine lv_aload_n hx hb dX11_contract_0 rfl (lv_at hl 0 rfl) ?_
  refine lv_iload_n hx hb dX11_contract_1 rfl (lv_at hl 1 rfl) ?_
  refine va_csq (runV_r (As := [.int v0]) (rest := []) S (q_kitchenAt l D cI cB cZ g v0) kV_RX11_114 hK hP [0, 1] rfl 0 rfl rfl rfl ⟨Nat.le_of_ble_eq_true rfl, Nat.le_of_ble_eq_true rfl⟩ ⟨Nat.le_of_ble_eq_true rfl, Nat.le_of_ble_eq_true rfl⟩ rfl hl.1 rfl (Nat.le_of_ble_eq_true rfl) dX11_contract_2) (fun r_1 h_2 => ?_)
  subst h_2
  refine lv_astore_nN (lv' := [(3, .null), (0, .ref (g 0)), (1, .int v0), (2, .int v1)]) hx hb dX11_contract_5 rfl hl (by decide) rfl (fun ls hl => ?_)
  refine lv_aload_nN hx hb dX11_contract_6 rfl (lv_at hl 0 rfl) ?_
  refine lv_ifnullN (tgt := 18) hx hb dX11_contract_7 (by decide) ?_
  refine lv_iconst (v := (-1)) hx hb dX11_contract_18 (by decide) ?_
  exact W.iret (v := (-1)) hx hb hr (fun t ht hW => ⟨(-1), rfl, rfl, ht⟩) (fun _ h => absurd h List.not_mem_nil) dX11_contract_19
set_option maxRecDepth 100000 in
set_option maxHeartbeats 4000000 in
theorem q_X_law (l : Launch) (D : va_G) (cI cB cZ : ClassId) (g : Nat → Nat) (v0 : Int32) : Met l yX11_law (CWS yX11_law cX11_law 3 (some .int)) (RM 3 0 0) (PBr [.ref (g 0), .int v0] D cI cB cZ [((g 0), .inr (12, oX g)), ((g 5), .inr (9, [.ref (g 40), .int 0]))]) (vp_Si (fun r => r = -1)) 0 0 (fun _ => False) := by
  refine Met.ofW (cc := cX11_law) (maxL := 3) (ret := (some .int)) (by decide) rfl ?_
  intro p e s m args below meth c s₁ B hml hv
  obtain ⟨rfl, hP, hK⟩ := hv
  have hx := B.exec
  have hb := B.bytes
  have hr := B.returns
  have hts := atoms_spec (ws := (CWS yX11_law cX11_law 3 (some .int))) B.pre
  have hown : s.vm.findClass RX11 = some m.cls := findClass_of_methodNamed B.named
  have hlocks := B.notSynchronized
  have S : SF p m c cX11_law 3 s ([.ref (g 0), .int v0]).toArray RX11 := ⟨hx, hb, hml, hown, fun w h => hts w (List.mem_cons_of_mem _ h)⟩
  have hP : va_P D vwCl [((g 0), .inr (12, oX g)), ((g 5), .inr (9, [.ref (g 40), .int 0]))] s.heap := hP
  have hl := lv_entry ([.ref (g 0), .int v0]) (n := 3) (Nat.le_of_ble_eq_true rfl)
  rw [lg_entry_eq]
  generalize (lg_sl ([.ref (g 0), .int v0]) ++ List.replicate (3 - (lg_sl ([.ref (g 0), .int v0])).length) Slot.unset).toArray = ls at hl ⊢
  have hl : lv_has ls 3 [(0, .ref (g 0)), (1, .int v0)] := hl
  refine lv_aload_n hx hb dX11_law_0 rfl (lv_at hl 0 rfl) ?_
  refine lv_iload_n hx hb dX11_law_1 rfl (lv_at hl 1 rfl) ?_
  refine vp_callSi (runV_r (As := [.int v0]) (rest := []) S (q_isText l D cI cB cZ g v0) kV_RX11_155 hK hP [0, 1] rfl 0 rfl rfl rfl ⟨Nat.le_of_ble_eq_true rfl, Nat.le_of_ble_eq_true rfl⟩ ⟨Nat.le_of_ble_eq_true rfl, Nat.le_of_ble_eq_true rfl⟩ rfl hl.1 rfl (Nat.le_of_ble_eq_true rfl) dX11_law_2) (fun r_1 h_2 => ?_)
  subst h_2
  refine lv_if_ne (tgt := 10) hx hb dX11_law_5 (by decide) (fun h => absurd h (by decide)) (fun _ => ?_)
  refine lv_iconst (v := (-1)) hx hb dX11_law_8 (by decide) ?_
  exact W.iret (v := (-1)) hx hb hr (fun t ht hW => ⟨(-1), rfl, rfl, ht⟩) (fun _ h => absurd h List.not_mem_nil) dX11_law_9
set_option maxRecDepth 100000 in
set_option maxHeartbeats 4000000 in
theorem q_X_price (l : Launch) (D : va_G) (cI cB cZ : ClassId) (g : Nat → Nat) (v0 v1 : Int32) (sz : Nat) : Met l yX11_price (CWS yX11_price cX11_price 3 (some .boolean)) (RM 3 0 0) (PBw [.ref (g 0), .int v0, .int v1] D cI cB cZ [((g 0), .inr (12, oX g)), ((g 8), .inr (8, oT g)), ((g 20), .inl (cI, 58, .inl (fun _ => 0)))] sz) (va_Qi (fun (r : Int32) (_ : Unit) => r = (if 0 ≤ v0.toInt ∧ v0.toInt ≤ 57 ∧ 0 ≤ v1.toInt ∧ v1.toInt ≤ 1000 then (1 : Int32) else 0)) (fun (_ : Unit) (_ : State) => True) (va_A [((g 0), .inr (12, oX g)), ((g 8), .inr (8, oT g)), ((g 20), .inl (cI, 58, .inl (fun _ => 0)))] sz)) 0 0 (va_A [((g 0), .inr (12, oX g)), ((g 8), .inr (8, oT g)), ((g 20), .inl (cI, 58, .inl (fun _ => 0)))] sz) := by
  refine Met.ofW (cc := cX11_price) (maxL := 3) (ret := (some .boolean)) (by decide) rfl ?_
  intro p e s m args below meth c s₁ B hml hv
  obtain ⟨rfl, hsz, hP, hK, hD0⟩ := hv
  have hx := B.exec
  have hb := B.bytes
  have hr := B.returns
  have hts := atoms_spec (ws := (CWS yX11_price cX11_price 3 (some .boolean))) B.pre
  have hown : s.vm.findClass RX11 = some m.cls := findClass_of_methodNamed B.named
  have hlocks := B.notSynchronized
  have S : SF p m c cX11_price 3 s ([.ref (g 0), .int v0, .int v1]).toArray RX11 := ⟨hx, hb, hml, hown, fun w h => hts w (List.mem_cons_of_mem _ h)⟩
  subst hsz
  have hD := hD0.self (sz := s.heap.size)
  generalize hAe : va_A [((g 0), .inr (12, oX g)), ((g 8), .inr (8, oT g)), ((g 20), .inl (cI, 58, .inl (fun _ => 0)))] s.heap.size = A at hD ⊢
  have hA : ∀ q : Nat, s.heap.size ≤ q → A q := fun q h => by rw [← hAe]; exact Or.inr h
  have hS : va_S A s.heap s.heap [] := va_S.rf
  have hP : va_P D vwCl [((g 0), .inr (12, oX g)), ((g 8), .inr (8, oT g)), ((g 20), .inl (cI, 58, .inl (fun _ => 0)))] s.heap := hP
  have hD : va_D A [((g 0), .inr (12, oX g)), ((g 8), .inr (8, oT g)), ((g 20), .inl (cI, 58, .inl (fun _ => 0)))] := hD
  have hl := lv_entry ([.ref (g 0), .int v0, .int v1]) (n := 3) (Nat.le_of_ble_eq_true rfl)
  rw [lg_entry_eq]
  generalize (lg_sl ([.ref (g 0), .int v0, .int v1]) ++ List.replicate (3 - (lg_sl ([.ref (g 0), .int v0, .int v1])).length) Slot.unset).toArray = ls at hl ⊢
  have hl : lv_has ls 3 [(0, .ref (g 0)), (1, .int v0), (2, .int v1)] := hl
  refine lv_aload_n hx hb dX11_price_0 rfl (lv_at hl 0 rfl) ?_
  refine gf_RX11_47 S hK hP 0 rfl (v := .ref (g 8)) rfl dX11_price_1 ?_
  refine gf_RX11_174 S hK hP 1 rfl (v := .ref (g 20)) rfl dX11_price_4 ?_
  refine lv_iload_n hx hb dX11_price_7 rfl (lv_at hl 1 rfl) ?_
  refine lv_iload_n hx hb dX11_price_8 rfl (lv_at hl 2 rfl) ?_
  refine lv_iconst (v := 0) hx hb dX11_price_9 (by decide) ?_
  refine lv_sipush (v := 1000) hx hb dX11_price_10 (by decide) ?_
  have hFc := va_free (wc := [((g 20), .inl (cI, 58, .inl (fun _ => 0)))]) hD hS hA [2] rfl
  refine va_calli (runS_w (As := [.ref (g 20), .int v0, .int v1, .int 0, .int 1000]) (rest := []) S (q_tell l D cI cB cZ (g 20) 58 (fun _ => 0) v0 v1 0 1000 s.heap.size (by omega)) kS_RX11_177 hK hP hD [2] rfl rfl (by decide) ⟨Nat.le_of_ble_eq_true rfl, Nat.le_of_ble_eq_true rfl⟩ ⟨Nat.le_of_ble_eq_true rfl, Nat.le_of_ble_eq_true rfl⟩ rfl hl.1 rfl (Nat.le_of_ble_eq_true rfl) dX11_price_13) hS (fun q _ h => hFc q h) hFc (fun r_1 u_2 t H1 locs ht hvm h_3 hB hz1 hk1 hS => ?_)
  have hP1 : va_P D vwCl [] H1 := fun k q h => by simp at h
  have hD1 : va_D (va_A [((g 20), .inl (cI, 58, .inl (fun _ => 0)))] s.heap.size) [] := ⟨fun i j p q h => by simp at h, fun k q h => by simp at h⟩
  obtain ⟨hP, hD⟩ := va_join (wr := [((g 0), .inr (12, oX g)), ((g 8), .inr (8, oT g))]) (w1 := []) hP hD [2] [0, 1] rfl rfl (by decide) (by decide) hk1 hFc hP1 hD1
  generalize H1 = H at hP hS ⊢
  have hP : va_P D vwCl [((g 0), .inr (12, oX g)), ((g 8), .inr (8, oT g))] H := hP
  have hD : va_D A [((g 0), .inr (12, oX g)), ((g 8), .inr (8, oT g))] := hD
  rcases h_3 with ⟨rfl, h_3⟩ | ⟨rfl, h_3⟩
  ·
    have h_3 : 0 ≤ v0.toInt ∧ v0.toInt < 58 ∧ 0 ≤ v1.toInt ∧ v1.toInt ≤ 1000 := h_3
    exact W.zret (v := 1) hx hb hr rfl (fun t ht hW => ⟨⟨1, (), rfl, (if_pos (by omega)).symm, trivial⟩, hS.F ht⟩) hS.2.2 dX11_price_16
  ·
    have h_3 : ¬ (0 ≤ v0.toInt ∧ v0.toInt < 58 ∧ 0 ≤ v1.toInt ∧ v1.toInt ≤ 1000) := h_3
    exact W.zret (v := 0) hx hb hr rfl (fun t ht hW => ⟨⟨0, (), rfl, (if_neg (by omega)).symm, trivial⟩, hS.F ht⟩) hS.2.2 dX11_price_16
set_option maxRecDepth 100000 in
set_option maxHeartbeats 4000000 in
theorem q_X_thefts (l : Launch) (D : va_G) (cI cB cZ : ClassId) (g : Nat → Nat) (v0 v1 : Int32) (sz : Nat) : Met l yX11_thefts (CWS yX11_thefts cX11_thefts 3 (some .boolean)) (RM 3 0 0) (PBw [.ref (g 0), .int v0, .int v1] D cI cB cZ [((g 0), .inr (12, oX g)), ((g 8), .inr (8, oT g)), ((g 21), .inl (cI, 24, .inl (fun _ => 0)))] sz) (va_Qi (fun (r : Int32) (_ : Unit) => r = (if 0 ≤ v0.toInt ∧ v0.toInt ≤ 23 ∧ 0 ≤ v1.toInt ∧ v1.toInt ≤ 1000 then (1 : Int32) else 0)) (fun (_ : Unit) (_ : State) => True) (va_A [((g 0), .inr (12, oX g)), ((g 8), .inr (8, oT g)), ((g 21), .inl (cI, 24, .inl (fun _ => 0)))] sz)) 0 0 (va_A [((g 0), .inr (12, oX g)), ((g 8), .inr (8, oT g)), ((g 21), .inl (cI, 24, .inl (fun _ => 0)))] sz) := by
  refine Met.ofW (cc := cX11_thefts) (maxL := 3) (ret := (some .boolean)) (by decide) rfl ?_
  intro p e s m args below meth c s₁ B hml hv
  obtain ⟨rfl, hsz, hP, hK, hD0⟩ := hv
  have hx := B.exec
  have hb := B.bytes
  have hr := B.returns
  have hts := atoms_spec (ws := (CWS yX11_thefts cX11_thefts 3 (some .boolean))) B.pre
  have hown : s.vm.findClass RX11 = some m.cls := findClass_of_methodNamed B.named
  have hlocks := B.notSynchronized
  have S : SF p m c cX11_thefts 3 s ([.ref (g 0), .int v0, .int v1]).toArray RX11 := ⟨hx, hb, hml, hown, fun w h => hts w (List.mem_cons_of_mem _ h)⟩
  subst hsz
  have hD := hD0.self (sz := s.heap.size)
  generalize hAe : va_A [((g 0), .inr (12, oX g)), ((g 8), .inr (8, oT g)), ((g 21), .inl (cI, 24, .inl (fun _ => 0)))] s.heap.size = A at hD ⊢
  have hA : ∀ q : Nat, s.heap.size ≤ q → A q := fun q h => by rw [← hAe]; exact Or.inr h
  have hS : va_S A s.heap s.heap [] := va_S.rf
  have hP : va_P D vwCl [((g 0), .inr (12, oX g)), ((g 8), .inr (8, oT g)), ((g 21), .inl (cI, 24, .inl (fun _ => 0)))] s.heap := hP
  have hD : va_D A [((g 0), .inr (12, oX g)), ((g 8), .inr (8, oT g)), ((g 21), .inl (cI, 24, .inl (fun _ => 0)))] := hD
  have hl := lv_entry ([.ref (g 0), .int v0, .int v1]) (n := 3) (Nat.le_of_ble_eq_true rfl)
  rw [lg_entry_eq]
  generalize (lg_sl ([.ref (g 0), .int v0, .int v1]) ++ List.replicate (3 - (lg_sl ([.ref (g 0), .int v0, .int v1])).length) Slot.unset).toArray = ls at hl ⊢
  have hl : lv_has ls 3 [(0, .ref (g 0)), (1, .int v0), (2, .int v1)] := hl
  refine lv_aload_n hx hb dX11_thefts_0 rfl (lv_at hl 0 rfl) ?_
  refine gf_RX11_47 S hK hP 0 rfl (v := .ref (g 8)) rfl dX11_thefts_1 ?_
  refine gf_RX11_467 S hK hP 1 rfl (v := .ref (g 21)) rfl dX11_thefts_4 ?_
  refine lv_iload_n hx hb dX11_thefts_7 rfl (lv_at hl 1 rfl) ?_
  refine lv_iload_n hx hb dX11_thefts_8 rfl (lv_at hl 2 rfl) ?_
  refine lv_iconst (v := 0) hx hb dX11_thefts_9 (by decide) ?_
  refine lv_sipush (v := 1000) hx hb dX11_thefts_10 (by decide) ?_
  have hFc := va_free (wc := [((g 21), .inl (cI, 24, .inl (fun _ => 0)))]) hD hS hA [2] rfl
  refine va_calli (runS_w (As := [.ref (g 21), .int v0, .int v1, .int 0, .int 1000]) (rest := []) S (q_tell l D cI cB cZ (g 21) 24 (fun _ => 0) v0 v1 0 1000 s.heap.size (by omega)) kS_RX11_177 hK hP hD [2] rfl rfl (by decide) ⟨Nat.le_of_ble_eq_true rfl, Nat.le_of_ble_eq_true rfl⟩ ⟨Nat.le_of_ble_eq_true rfl, Nat.le_of_ble_eq_true rfl⟩ rfl hl.1 rfl (Nat.le_of_ble_eq_true rfl) dX11_thefts_13) hS (fun q _ h => hFc q h) hFc (fun r_1 u_2 t H1 locs ht hvm h_3 hB hz1 hk1 hS => ?_)
  have hP1 : va_P D vwCl [] H1 := fun k q h => by simp at h
  have hD1 : va_D (va_A [((g 21), .inl (cI, 24, .inl (fun _ => 0)))] s.heap.size) [] := ⟨fun i j p q h => by simp at h, fun k q h => by simp at h⟩
  obtain ⟨hP, hD⟩ := va_join (wr := [((g 0), .inr (12, oX g)), ((g 8), .inr (8, oT g))]) (w1 := []) hP hD [2] [0, 1] rfl rfl (by decide) (by decide) hk1 hFc hP1 hD1
  generalize H1 = H at hP hS ⊢
  have hP : va_P D vwCl [((g 0), .inr (12, oX g)), ((g 8), .inr (8, oT g))] H := hP
  have hD : va_D A [((g 0), .inr (12, oX g)), ((g 8), .inr (8, oT g))] := hD
  rcases h_3 with ⟨rfl, h_3⟩ | ⟨rfl, h_3⟩
  ·
    have h_3 : 0 ≤ v0.toInt ∧ v0.toInt < 24 ∧ 0 ≤ v1.toInt ∧ v1.toInt ≤ 1000 := h_3
    exact W.zret (v := 1) hx hb hr rfl (fun t ht hW => ⟨⟨1, (), rfl, (if_pos (by omega)).symm, trivial⟩, hS.F ht⟩) hS.2.2 dX11_thefts_16
  ·
    have h_3 : ¬ (0 ≤ v0.toInt ∧ v0.toInt < 24 ∧ 0 ≤ v1.toInt ∧ v1.toInt ≤ 1000) := h_3
    exact W.zret (v := 0) hx hb hr rfl (fun t ht hW => ⟨⟨0, (), rfl, (if_neg (by omega)).symm, trivial⟩, hS.F ht⟩) hS.2.2 dX11_thefts_16
set_option maxRecDepth 100000 in
set_option maxHeartbeats 4000000 in
theorem q_X_degrees (l : Launch) (D : va_G) (cI cB cZ : ClassId) (g : Nat → Nat) (v0 v1 : Int32) (sz : Nat) : Met l yX11_degrees (CWS yX11_degrees cX11_degrees 3 (some .boolean)) (RM 3 0 0) (PBw [.ref (g 0), .int v0, .int v1] D cI cB cZ [((g 0), .inr (12, oX g)), ((g 8), .inr (8, oT g)), ((g 22), .inl (cI, 400, .inl (dgF 400)))] sz) (va_Qi (fun (r : Int32) (_ : Unit) => r = (if 0 ≤ v0.toInt ∧ v0.toInt ≤ 399 ∧ -40 ≤ v1.toInt ∧ v1.toInt ≤ 40 then (1 : Int32) else 0)) (fun (_ : Unit) (_ : State) => True) (va_A [((g 0), .inr (12, oX g)), ((g 8), .inr (8, oT g)), ((g 22), .inl (cI, 400, .inl (dgF 400)))] sz)) 0 0 (va_A [((g 0), .inr (12, oX g)), ((g 8), .inr (8, oT g)), ((g 22), .inl (cI, 400, .inl (dgF 400)))] sz) := by
  refine Met.ofW (cc := cX11_degrees) (maxL := 3) (ret := (some .boolean)) (by decide) rfl ?_
  intro p e s m args below meth c s₁ B hml hv
  obtain ⟨rfl, hsz, hP, hK, hD0⟩ := hv
  have hx := B.exec
  have hb := B.bytes
  have hr := B.returns
  have hts := atoms_spec (ws := (CWS yX11_degrees cX11_degrees 3 (some .boolean))) B.pre
  have hown : s.vm.findClass RX11 = some m.cls := findClass_of_methodNamed B.named
  have hlocks := B.notSynchronized
  have S : SF p m c cX11_degrees 3 s ([.ref (g 0), .int v0, .int v1]).toArray RX11 := ⟨hx, hb, hml, hown, fun w h => hts w (List.mem_cons_of_mem _ h)⟩
  subst hsz
  have hD := hD0.self (sz := s.heap.size)
  generalize hAe : va_A [((g 0), .inr (12, oX g)), ((g 8), .inr (8, oT g)), ((g 22), .inl (cI, 400, .inl (dgF 400)))] s.heap.size = A at hD ⊢
  have hA : ∀ q : Nat, s.heap.size ≤ q → A q := fun q h => by rw [← hAe]; exact Or.inr h
  have hS : va_S A s.heap s.heap [] := va_S.rf
  have hP : va_P D vwCl [((g 0), .inr (12, oX g)), ((g 8), .inr (8, oT g)), ((g 22), .inl (cI, 400, .inl (dgF 400)))] s.heap := hP
  have hD : va_D A [((g 0), .inr (12, oX g)), ((g 8), .inr (8, oT g)), ((g 22), .inl (cI, 400, .inl (dgF 400)))] := hD
  have hl := lv_entry ([.ref (g 0), .int v0, .int v1]) (n := 3) (Nat.le_of_ble_eq_true rfl)
  rw [lg_entry_eq]
  generalize (lg_sl ([.ref (g 0), .int v0, .int v1]) ++ List.replicate (3 - (lg_sl ([.ref (g 0), .int v0, .int v1])).length) Slot.unset).toArray = ls at hl ⊢
  have hl : lv_has ls 3 [(0, .ref (g 0)), (1, .int v0), (2, .int v1)] := hl
  refine lv_aload_n hx hb dX11_degrees_0 rfl (lv_at hl 0 rfl) ?_
  refine gf_RX11_47 S hK hP 0 rfl (v := .ref (g 8)) rfl dX11_degrees_1 ?_
  refine gf_RX11_486 S hK hP 1 rfl (v := .ref (g 22)) rfl dX11_degrees_4 ?_
  refine lv_iload_n hx hb dX11_degrees_7 rfl (lv_at hl 1 rfl) ?_
  refine lv_iload_n hx hb dX11_degrees_8 rfl (lv_at hl 2 rfl) ?_
  refine lv_bipush (v := (-40)) hx hb dX11_degrees_9 (by decide) ?_
  refine lv_bipush (v := 40) hx hb dX11_degrees_11 (by decide) ?_
  have hFc := va_free (wc := [((g 22), .inl (cI, 400, .inl (dgF 400)))]) hD hS hA [2] rfl
  refine va_calli (runS_w (As := [.ref (g 22), .int v0, .int v1, .int (-40), .int 40]) (rest := []) S (q_tell l D cI cB cZ (g 22) 400 (dgF 400) v0 v1 (-40) 40 s.heap.size (by omega)) kS_RX11_177 hK hP hD [2] rfl rfl (by decide) ⟨Nat.le_of_ble_eq_true rfl, Nat.le_of_ble_eq_true rfl⟩ ⟨Nat.le_of_ble_eq_true rfl, Nat.le_of_ble_eq_true rfl⟩ rfl hl.1 rfl (Nat.le_of_ble_eq_true rfl) dX11_degrees_13) hS (fun q _ h => hFc q h) hFc (fun r_1 u_2 t H1 locs ht hvm h_3 hB hz1 hk1 hS => ?_)
  have hP1 : va_P D vwCl [] H1 := fun k q h => by simp at h
  have hD1 : va_D (va_A [((g 22), .inl (cI, 400, .inl (dgF 400)))] s.heap.size) [] := ⟨fun i j p q h => by simp at h, fun k q h => by simp at h⟩
  obtain ⟨hP, hD⟩ := va_join (wr := [((g 0), .inr (12, oX g)), ((g 8), .inr (8, oT g))]) (w1 := []) hP hD [2] [0, 1] rfl rfl (by decide) (by decide) hk1 hFc hP1 hD1
  generalize H1 = H at hP hS ⊢
  have hP : va_P D vwCl [((g 0), .inr (12, oX g)), ((g 8), .inr (8, oT g))] H := hP
  have hD : va_D A [((g 0), .inr (12, oX g)), ((g 8), .inr (8, oT g))] := hD
  rcases h_3 with ⟨rfl, h_3⟩ | ⟨rfl, h_3⟩
  ·
    have h_3 : 0 ≤ v0.toInt ∧ v0.toInt < 400 ∧ (-40) ≤ v1.toInt ∧ v1.toInt ≤ 40 := h_3
    exact W.zret (v := 1) hx hb hr rfl (fun t ht hW => ⟨⟨1, (), rfl, (if_pos (by omega)).symm, trivial⟩, hS.F ht⟩) hS.2.2 dX11_degrees_16
  ·
    have h_3 : ¬ (0 ≤ v0.toInt ∧ v0.toInt < 400 ∧ (-40) ≤ v1.toInt ∧ v1.toInt ≤ 40) := h_3
    exact W.zret (v := 0) hx hb hr rfl (fun t ht hW => ⟨⟨0, (), rfl, (if_neg (by omega)).symm, trivial⟩, hS.F ht⟩) hS.2.2 dX11_degrees_16
set_option maxRecDepth 100000 in
set_option maxHeartbeats 4000000 in
theorem q_X_feast (l : Launch) (D : va_G) (cI cB cZ : ClassId) (g : Nat → Nat) (v0 v1 : Int32) (sz : Nat) : Met l yX11_feast (CWS yX11_feast cX11_feast 3 (some .boolean)) (RM 3 0 0) (PBw [.ref (g 0), .int v0, .int v1] D cI cB cZ [((g 0), .inr (12, oX g)), ((g 8), .inr (8, oT g)), ((g 23), .inl (cI, 400, .inl (fun _ => 0)))] sz) (va_Qi (fun (r : Int32) (_ : Unit) => r = (if 0 ≤ v0.toInt ∧ v0.toInt ≤ 399 ∧ 0 ≤ v1.toInt ∧ v1.toInt ≤ 300 then (1 : Int32) else 0)) (fun (_ : Unit) (_ : State) => True) (va_A [((g 0), .inr (12, oX g)), ((g 8), .inr (8, oT g)), ((g 23), .inl (cI, 400, .inl (fun _ => 0)))] sz)) 0 0 (va_A [((g 0), .inr (12, oX g)), ((g 8), .inr (8, oT g)), ((g 23), .inl (cI, 400, .inl (fun _ => 0)))] sz) := by
  refine Met.ofW (cc := cX11_feast) (maxL := 3) (ret := (some .boolean)) (by decide) rfl ?_
  intro p e s m args below meth c s₁ B hml hv
  obtain ⟨rfl, hsz, hP, hK, hD0⟩ := hv
  have hx := B.exec
  have hb := B.bytes
  have hr := B.returns
  have hts := atoms_spec (ws := (CWS yX11_feast cX11_feast 3 (some .boolean))) B.pre
  have hown : s.vm.findClass RX11 = some m.cls := findClass_of_methodNamed B.named
  have hlocks := B.notSynchronized
  have S : SF p m c cX11_feast 3 s ([.ref (g 0), .int v0, .int v1]).toArray RX11 := ⟨hx, hb, hml, hown, fun w h => hts w (List.mem_cons_of_mem _ h)⟩
  subst hsz
  have hD := hD0.self (sz := s.heap.size)
  generalize hAe : va_A [((g 0), .inr (12, oX g)), ((g 8), .inr (8, oT g)), ((g 23), .inl (cI, 400, .inl (fun _ => 0)))] s.heap.size = A at hD ⊢
  have hA : ∀ q : Nat, s.heap.size ≤ q → A q := fun q h => by rw [← hAe]; exact Or.inr h
  have hS : va_S A s.heap s.heap [] := va_S.rf
  have hP : va_P D vwCl [((g 0), .inr (12, oX g)), ((g 8), .inr (8, oT g)), ((g 23), .inl (cI, 400, .inl (fun _ => 0)))] s.heap := hP
  have hD : va_D A [((g 0), .inr (12, oX g)), ((g 8), .inr (8, oT g)), ((g 23), .inl (cI, 400, .inl (fun _ => 0)))] := hD
  have hl := lv_entry ([.ref (g 0), .int v0, .int v1]) (n := 3) (Nat.le_of_ble_eq_true rfl)
  rw [lg_entry_eq]
  generalize (lg_sl ([.ref (g 0), .int v0, .int v1]) ++ List.replicate (3 - (lg_sl ([.ref (g 0), .int v0, .int v1])).length) Slot.unset).toArray = ls at hl ⊢
  have hl : lv_has ls 3 [(0, .ref (g 0)), (1, .int v0), (2, .int v1)] := hl
  refine lv_aload_n hx hb dX11_feast_0 rfl (lv_at hl 0 rfl) ?_
  refine gf_RX11_47 S hK hP 0 rfl (v := .ref (g 8)) rfl dX11_feast_1 ?_
  refine gf_RX11_492 S hK hP 1 rfl (v := .ref (g 23)) rfl dX11_feast_4 ?_
  refine lv_iload_n hx hb dX11_feast_7 rfl (lv_at hl 1 rfl) ?_
  refine lv_iload_n hx hb dX11_feast_8 rfl (lv_at hl 2 rfl) ?_
  refine lv_iconst (v := 0) hx hb dX11_feast_9 (by decide) ?_
  refine lv_sipush (v := 300) hx hb dX11_feast_10 (by decide) ?_
  have hFc := va_free (wc := [((g 23), .inl (cI, 400, .inl (fun _ => 0)))]) hD hS hA [2] rfl
  refine va_calli (runS_w (As := [.ref (g 23), .int v0, .int v1, .int 0, .int 300]) (rest := []) S (q_tell l D cI cB cZ (g 23) 400 (fun _ => 0) v0 v1 0 300 s.heap.size (by omega)) kS_RX11_177 hK hP hD [2] rfl rfl (by decide) ⟨Nat.le_of_ble_eq_true rfl, Nat.le_of_ble_eq_true rfl⟩ ⟨Nat.le_of_ble_eq_true rfl, Nat.le_of_ble_eq_true rfl⟩ rfl hl.1 rfl (Nat.le_of_ble_eq_true rfl) dX11_feast_13) hS (fun q _ h => hFc q h) hFc (fun r_1 u_2 t H1 locs ht hvm h_3 hB hz1 hk1 hS => ?_)
  have hP1 : va_P D vwCl [] H1 := fun k q h => by simp at h
  have hD1 : va_D (va_A [((g 23), .inl (cI, 400, .inl (fun _ => 0)))] s.heap.size) [] := ⟨fun i j p q h => by simp at h, fun k q h => by simp at h⟩
  obtain ⟨hP, hD⟩ := va_join (wr := [((g 0), .inr (12, oX g)), ((g 8), .inr (8, oT g))]) (w1 := []) hP hD [2] [0, 1] rfl rfl (by decide) (by decide) hk1 hFc hP1 hD1
  generalize H1 = H at hP hS ⊢
  have hP : va_P D vwCl [((g 0), .inr (12, oX g)), ((g 8), .inr (8, oT g))] H := hP
  have hD : va_D A [((g 0), .inr (12, oX g)), ((g 8), .inr (8, oT g))] := hD
  rcases h_3 with ⟨rfl, h_3⟩ | ⟨rfl, h_3⟩
  ·
    have h_3 : 0 ≤ v0.toInt ∧ v0.toInt < 400 ∧ 0 ≤ v1.toInt ∧ v1.toInt ≤ 300 := h_3
    exact W.zret (v := 1) hx hb hr rfl (fun t ht hW => ⟨⟨1, (), rfl, (if_pos (by omega)).symm, trivial⟩, hS.F ht⟩) hS.2.2 dX11_feast_16
  ·
    have h_3 : ¬ (0 ≤ v0.toInt ∧ v0.toInt < 400 ∧ 0 ≤ v1.toInt ∧ v1.toInt ≤ 300) := h_3
    exact W.zret (v := 0) hx hb hr rfl (fun t ht hW => ⟨⟨0, (), rfl, (if_neg (by omega)).symm, trivial⟩, hS.F ht⟩) hS.2.2 dX11_feast_16
set_option maxRecDepth 100000 in
set_option maxHeartbeats 4000000 in
theorem q_X_use (l : Launch) (D : va_G) (cI cB cZ : ClassId) (g : Nat → Nat) (v0 v1 : Int32) (sz : Nat) : Met l yX11_use (CWS yX11_use cX11_use 3 (some .boolean)) (RM 3 0 0) (PBw [.ref (g 0), .int v0, .int v1] D cI cB cZ [((g 0), .inr (12, oX g)), ((g 8), .inr (8, oT g)), ((g 24), .inl (cI, 10, .inl (fun _ => 0)))] sz) (va_Qi (fun (r : Int32) (_ : Unit) => r = (if 0 ≤ v0.toInt ∧ v0.toInt ≤ 9 ∧ 0 ≤ v1.toInt ∧ v1.toInt ≤ 3 then (1 : Int32) else 0)) (fun (_ : Unit) (_ : State) => True) (va_A [((g 0), .inr (12, oX g)), ((g 8), .inr (8, oT g)), ((g 24), .inl (cI, 10, .inl (fun _ => 0)))] sz)) 0 0 (va_A [((g 0), .inr (12, oX g)), ((g 8), .inr (8, oT g)), ((g 24), .inl (cI, 10, .inl (fun _ => 0)))] sz) := by
  refine Met.ofW (cc := cX11_use) (maxL := 3) (ret := (some .boolean)) (by decide) rfl ?_
  intro p e s m args below meth c s₁ B hml hv
  obtain ⟨rfl, hsz, hP, hK, hD0⟩ := hv
  have hx := B.exec
  have hb := B.bytes
  have hr := B.returns
  have hts := atoms_spec (ws := (CWS yX11_use cX11_use 3 (some .boolean))) B.pre
  have hown : s.vm.findClass RX11 = some m.cls := findClass_of_methodNamed B.named
  have hlocks := B.notSynchronized
  have S : SF p m c cX11_use 3 s ([.ref (g 0), .int v0, .int v1]).toArray RX11 := ⟨hx, hb, hml, hown, fun w h => hts w (List.mem_cons_of_mem _ h)⟩
  subst hsz
  have hD := hD0.self (sz := s.heap.size)
  generalize hAe : va_A [((g 0), .inr (12, oX g)), ((g 8), .inr (8, oT g)), ((g 24), .inl (cI, 10, .inl (fun _ => 0)))] s.heap.size = A at hD ⊢
  have hA : ∀ q : Nat, s.heap.size ≤ q → A q := fun q h => by rw [← hAe]; exact Or.inr h
  have hS : va_S A s.heap s.heap [] := va_S.rf
  have hP : va_P D vwCl [((g 0), .inr (12, oX g)), ((g 8), .inr (8, oT g)), ((g 24), .inl (cI, 10, .inl (fun _ => 0)))] s.heap := hP
  have hD : va_D A [((g 0), .inr (12, oX g)), ((g 8), .inr (8, oT g)), ((g 24), .inl (cI, 10, .inl (fun _ => 0)))] := hD
  have hl := lv_entry ([.ref (g 0), .int v0, .int v1]) (n := 3) (Nat.le_of_ble_eq_true rfl)
  rw [lg_entry_eq]
  generalize (lg_sl ([.ref (g 0), .int v0, .int v1]) ++ List.replicate (3 - (lg_sl ([.ref (g 0), .int v0, .int v1])).length) Slot.unset).toArray = ls at hl ⊢
  have hl : lv_has ls 3 [(0, .ref (g 0)), (1, .int v0), (2, .int v1)] := hl
  refine lv_aload_n hx hb dX11_use_0 rfl (lv_at hl 0 rfl) ?_
  refine gf_RX11_47 S hK hP 0 rfl (v := .ref (g 8)) rfl dX11_use_1 ?_
  refine gf_RX11_426 S hK hP 1 rfl (v := .ref (g 24)) rfl dX11_use_4 ?_
  refine lv_iload_n hx hb dX11_use_7 rfl (lv_at hl 1 rfl) ?_
  refine lv_iload_n hx hb dX11_use_8 rfl (lv_at hl 2 rfl) ?_
  refine lv_iconst (v := 0) hx hb dX11_use_9 (by decide) ?_
  refine lv_iconst (v := 3) hx hb dX11_use_10 (by decide) ?_
  have hFc := va_free (wc := [((g 24), .inl (cI, 10, .inl (fun _ => 0)))]) hD hS hA [2] rfl
  refine va_calli (runS_w (As := [.ref (g 24), .int v0, .int v1, .int 0, .int 3]) (rest := []) S (q_tell l D cI cB cZ (g 24) 10 (fun _ => 0) v0 v1 0 3 s.heap.size (by omega)) kS_RX11_177 hK hP hD [2] rfl rfl (by decide) ⟨Nat.le_of_ble_eq_true rfl, Nat.le_of_ble_eq_true rfl⟩ ⟨Nat.le_of_ble_eq_true rfl, Nat.le_of_ble_eq_true rfl⟩ rfl hl.1 rfl (Nat.le_of_ble_eq_true rfl) dX11_use_11) hS (fun q _ h => hFc q h) hFc (fun r_1 u_2 t H1 locs ht hvm h_3 hB hz1 hk1 hS => ?_)
  have hP1 : va_P D vwCl [] H1 := fun k q h => by simp at h
  have hD1 : va_D (va_A [((g 24), .inl (cI, 10, .inl (fun _ => 0)))] s.heap.size) [] := ⟨fun i j p q h => by simp at h, fun k q h => by simp at h⟩
  obtain ⟨hP, hD⟩ := va_join (wr := [((g 0), .inr (12, oX g)), ((g 8), .inr (8, oT g))]) (w1 := []) hP hD [2] [0, 1] rfl rfl (by decide) (by decide) hk1 hFc hP1 hD1
  generalize H1 = H at hP hS ⊢
  have hP : va_P D vwCl [((g 0), .inr (12, oX g)), ((g 8), .inr (8, oT g))] H := hP
  have hD : va_D A [((g 0), .inr (12, oX g)), ((g 8), .inr (8, oT g))] := hD
  rcases h_3 with ⟨rfl, h_3⟩ | ⟨rfl, h_3⟩
  ·
    have h_3 : 0 ≤ v0.toInt ∧ v0.toInt < 10 ∧ 0 ≤ v1.toInt ∧ v1.toInt ≤ 3 := h_3
    exact W.zret (v := 1) hx hb hr rfl (fun t ht hW => ⟨⟨1, (), rfl, (if_pos (by omega)).symm, trivial⟩, hS.F ht⟩) hS.2.2 dX11_use_14
  ·
    have h_3 : ¬ (0 ≤ v0.toInt ∧ v0.toInt < 10 ∧ 0 ≤ v1.toInt ∧ v1.toInt ≤ 3) := h_3
    exact W.zret (v := 0) hx hb hr rfl (fun t ht hW => ⟨⟨0, (), rfl, (if_neg (by omega)).symm, trivial⟩, hS.F ht⟩) hS.2.2 dX11_use_14
set_option maxRecDepth 100000 in
set_option maxHeartbeats 4000000 in
theorem q_X_most (l : Launch) (D : va_G) (cI cB cZ : ClassId) (g : Nat → Nat) (v0 v1 : Int32) (sz : Nat) : Met l yX11_most (CWS yX11_most cX11_most 3 (some .boolean)) (RM 3 0 0) (PBw [.ref (g 0), .int v0, .int v1] D cI cB cZ [((g 0), .inr (12, oX g)), ((g 8), .inr (8, oT g)), ((g 25), .inl (cI, 10, .inl (fun _ => 0)))] sz) (va_Qi (fun (r : Int32) (_ : Unit) => r = (if 0 ≤ v0.toInt ∧ v0.toInt ≤ 9 ∧ 0 ≤ v1.toInt ∧ v1.toInt ≤ 100000 then (1 : Int32) else 0)) (fun (_ : Unit) (_ : State) => True) (va_A [((g 0), .inr (12, oX g)), ((g 8), .inr (8, oT g)), ((g 25), .inl (cI, 10, .inl (fun _ => 0)))] sz)) 0 0 (va_A [((g 0), .inr (12, oX g)), ((g 8), .inr (8, oT g)), ((g 25), .inl (cI, 10, .inl (fun _ => 0)))] sz) := by
  refine Met.ofW (cc := cX11_most) (maxL := 3) (ret := (some .boolean)) (by decide) rfl ?_
  intro p e s m args below meth c s₁ B hml hv
  obtain ⟨rfl, hsz, hP, hK, hD0⟩ := hv
  have hx := B.exec
  have hb := B.bytes
  have hr := B.returns
  have hts := atoms_spec (ws := (CWS yX11_most cX11_most 3 (some .boolean))) B.pre
  have hown : s.vm.findClass RX11 = some m.cls := findClass_of_methodNamed B.named
  have hlocks := B.notSynchronized
  have S : SF p m c cX11_most 3 s ([.ref (g 0), .int v0, .int v1]).toArray RX11 := ⟨hx, hb, hml, hown, fun w h => hts w (List.mem_cons_of_mem _ h)⟩
  subst hsz
  have hD := hD0.self (sz := s.heap.size)
  generalize hAe : va_A [((g 0), .inr (12, oX g)), ((g 8), .inr (8, oT g)), ((g 25), .inl (cI, 10, .inl (fun _ => 0)))] s.heap.size = A at hD ⊢
  have hA : ∀ q : Nat, s.heap.size ≤ q → A q := fun q h => by rw [← hAe]; exact Or.inr h
  have hS : va_S A s.heap s.heap [] := va_S.rf
  have hP : va_P D vwCl [((g 0), .inr (12, oX g)), ((g 8), .inr (8, oT g)), ((g 25), .inl (cI, 10, .inl (fun _ => 0)))] s.heap := hP
  have hD : va_D A [((g 0), .inr (12, oX g)), ((g 8), .inr (8, oT g)), ((g 25), .inl (cI, 10, .inl (fun _ => 0)))] := hD
  have hl := lv_entry ([.ref (g 0), .int v0, .int v1]) (n := 3) (Nat.le_of_ble_eq_true rfl)
  rw [lg_entry_eq]
  generalize (lg_sl ([.ref (g 0), .int v0, .int v1]) ++ List.replicate (3 - (lg_sl ([.ref (g 0), .int v0, .int v1])).length) Slot.unset).toArray = ls at hl ⊢
  have hl : lv_has ls 3 [(0, .ref (g 0)), (1, .int v0), (2, .int v1)] := hl
  refine lv_aload_n hx hb dX11_most_0 rfl (lv_at hl 0 rfl) ?_
  refine gf_RX11_47 S hK hP 0 rfl (v := .ref (g 8)) rfl dX11_most_1 ?_
  refine gf_RX11_435 S hK hP 1 rfl (v := .ref (g 25)) rfl dX11_most_4 ?_
  refine lv_iload_n hx hb dX11_most_7 rfl (lv_at hl 1 rfl) ?_
  refine lv_iload_n hx hb dX11_most_8 rfl (lv_at hl 2 rfl) ?_
  refine lv_iconst (v := 0) hx hb dX11_most_9 (by decide) ?_
  refine lv_ldc (v := 100000) hx hb hown (S.2.2.2.2 _ (wT_tab 758 rfl rfl)) dX11_most_10 ?_
  have hFc := va_free (wc := [((g 25), .inl (cI, 10, .inl (fun _ => 0)))]) hD hS hA [2] rfl
  refine va_calli (runS_w (As := [.ref (g 25), .int v0, .int v1, .int 0, .int 100000]) (rest := []) S (q_tell l D cI cB cZ (g 25) 10 (fun _ => 0) v0 v1 0 100000 s.heap.size (by omega)) kS_RX11_177 hK hP hD [2] rfl rfl (by decide) ⟨Nat.le_of_ble_eq_true rfl, Nat.le_of_ble_eq_true rfl⟩ ⟨Nat.le_of_ble_eq_true rfl, Nat.le_of_ble_eq_true rfl⟩ rfl hl.1 rfl (Nat.le_of_ble_eq_true rfl) dX11_most_12) hS (fun q _ h => hFc q h) hFc (fun r_1 u_2 t H1 locs ht hvm h_3 hB hz1 hk1 hS => ?_)
  have hP1 : va_P D vwCl [] H1 := fun k q h => by simp at h
  have hD1 : va_D (va_A [((g 25), .inl (cI, 10, .inl (fun _ => 0)))] s.heap.size) [] := ⟨fun i j p q h => by simp at h, fun k q h => by simp at h⟩
  obtain ⟨hP, hD⟩ := va_join (wr := [((g 0), .inr (12, oX g)), ((g 8), .inr (8, oT g))]) (w1 := []) hP hD [2] [0, 1] rfl rfl (by decide) (by decide) hk1 hFc hP1 hD1
  generalize H1 = H at hP hS ⊢
  have hP : va_P D vwCl [((g 0), .inr (12, oX g)), ((g 8), .inr (8, oT g))] H := hP
  have hD : va_D A [((g 0), .inr (12, oX g)), ((g 8), .inr (8, oT g))] := hD
  rcases h_3 with ⟨rfl, h_3⟩ | ⟨rfl, h_3⟩
  ·
    have h_3 : 0 ≤ v0.toInt ∧ v0.toInt < 10 ∧ 0 ≤ v1.toInt ∧ v1.toInt ≤ 100000 := h_3
    exact W.zret (v := 1) hx hb hr rfl (fun t ht hW => ⟨⟨1, (), rfl, (if_pos (by omega)).symm, trivial⟩, hS.F ht⟩) hS.2.2 dX11_most_15
  ·
    have h_3 : ¬ (0 ≤ v0.toInt ∧ v0.toInt < 10 ∧ 0 ≤ v1.toInt ∧ v1.toInt ≤ 100000) := h_3
    exact W.zret (v := 0) hx hb hr rfl (fun t ht hW => ⟨⟨0, (), rfl, (if_neg (by omega)).symm, trivial⟩, hS.F ht⟩) hS.2.2 dX11_most_15
set_option maxRecDepth 100000 in
set_option maxHeartbeats 4000000 in
theorem q_X_rate (l : Launch) (D : va_G) (cI cB cZ : ClassId) (g : Nat → Nat) (v0 v1 v2 : Int32) (sz : Nat) : Met l yX11_rate (CWS yX11_rate cX11_rate 5 (some .boolean)) (RM 3 0 0) (PBw [.ref (g 0), .int v0, .int v1, .int v2] D cI cB cZ [((g 0), .inr (12, oX g)), ((g 8), .inr (8, oT g)), ((g 26), .inl (cI, 232, .inl (fun _ => 0)))] sz) (va_Qi (fun (r : Int32) (_ : Unit) => r = (if 0 ≤ v0.toInt ∧ v0.toInt ≤ 3 ∧ 0 ≤ v1.toInt ∧ v1.toInt ≤ 57 ∧ 0 ≤ v2.toInt ∧ v2.toInt ≤ 1000 then (1 : Int32) else 0)) (fun (_ : Unit) (_ : State) => True) (va_A [((g 0), .inr (12, oX g)), ((g 8), .inr (8, oT g)), ((g 26), .inl (cI, 232, .inl (fun _ => 0)))] sz)) 0 0 (va_A [((g 0), .inr (12, oX g)), ((g 8), .inr (8, oT g)), ((g 26), .inl (cI, 232, .inl (fun _ => 0)))] sz) := by
  refine Met.ofW (cc := cX11_rate) (maxL := 5) (ret := (some .boolean)) (by decide) rfl ?_
  intro p e s m args below meth c s₁ B hml hv
  obtain ⟨rfl, hsz, hP, hK, hD0⟩ := hv
  have hx := B.exec
  have hb := B.bytes
  have hr := B.returns
  have hts := atoms_spec (ws := (CWS yX11_rate cX11_rate 5 (some .boolean))) B.pre
  have hown : s.vm.findClass RX11 = some m.cls := findClass_of_methodNamed B.named
  have hlocks := B.notSynchronized
  have S : SF p m c cX11_rate 5 s ([.ref (g 0), .int v0, .int v1, .int v2]).toArray RX11 := ⟨hx, hb, hml, hown, fun w h => hts w (List.mem_cons_of_mem _ h)⟩
  subst hsz
  have hD := hD0.self (sz := s.heap.size)
  generalize hAe : va_A [((g 0), .inr (12, oX g)), ((g 8), .inr (8, oT g)), ((g 26), .inl (cI, 232, .inl (fun _ => 0)))] s.heap.size = A at hD ⊢
  have hA : ∀ q : Nat, s.heap.size ≤ q → A q := fun q h => by rw [← hAe]; exact Or.inr h
  have hS : va_S A s.heap s.heap [] := va_S.rf
  have hP : va_P D vwCl [((g 0), .inr (12, oX g)), ((g 8), .inr (8, oT g)), ((g 26), .inl (cI, 232, .inl (fun _ => 0)))] s.heap := hP
  have hD : va_D A [((g 0), .inr (12, oX g)), ((g 8), .inr (8, oT g)), ((g 26), .inl (cI, 232, .inl (fun _ => 0)))] := hD
  have hl := lv_entry ([.ref (g 0), .int v0, .int v1, .int v2]) (n := 5) (Nat.le_of_ble_eq_true rfl)
  rw [lg_entry_eq]
  generalize (lg_sl ([.ref (g 0), .int v0, .int v1, .int v2]) ++ List.replicate (5 - (lg_sl ([.ref (g 0), .int v0, .int v1, .int v2])).length) Slot.unset).toArray = ls at hl ⊢
  have hl : lv_has ls 5 [(0, .ref (g 0)), (1, .int v0), (2, .int v1), (3, .int v2)] := hl
  refine lv_iload_n hx hb dX11_rate_0 rfl (lv_at hl 1 rfl) ?_
  refine lv_iconst (v := 0) hx hb dX11_rate_1 (by decide) ?_
  refine lv_iconst (v := 3) hx hb dX11_rate_2 (by decide) ?_
  refine vp_callSi (runS_r (As := [.int v0, .int 0, .int 3]) (rest := []) S (q_within l D cI cB cZ v0 0 3) kS_RX11_80 hK hP [] rfl ⟨Nat.le_of_ble_eq_true rfl, Nat.le_of_ble_eq_true rfl⟩ ⟨Nat.le_of_ble_eq_true rfl, Nat.le_of_ble_eq_true rfl⟩ rfl hl.1 rfl (Nat.le_of_ble_eq_true rfl) dX11_rate_3) (fun r_1 h_2 => ?_)
  rcases h_2 with ⟨rfl, h_2⟩ | ⟨rfl, h_2⟩
  ·
    have h_2 : 0 ≤ v0.toInt ∧ v0.toInt ≤ 3 := h_2
    refine lv_if_eq (tgt := 23) hx hb dX11_rate_6 (by decide) (fun h => absurd h (by decide)) (fun _ => ?_)
    refine lv_iload_n hx hb dX11_rate_9 rfl (lv_at hl 2 rfl) ?_
    refine lv_iconst (v := 0) hx hb dX11_rate_10 (by decide) ?_
    refine lv_bipush (v := 57) hx hb dX11_rate_11 (by decide) ?_
    refine vp_callSi (runS_r (As := [.int v1, .int 0, .int 57]) (rest := []) S (q_within l D cI cB cZ v1 0 57) kS_RX11_80 hK hP [] rfl ⟨Nat.le_of_ble_eq_true rfl, Nat.le_of_ble_eq_true rfl⟩ ⟨Nat.le_of_ble_eq_true rfl, Nat.le_of_ble_eq_true rfl⟩ rfl hl.1 rfl (Nat.le_of_ble_eq_true rfl) dX11_rate_13) (fun r_3 h_4 => ?_)
    rcases h_4 with ⟨rfl, h_4⟩ | ⟨rfl, h_4⟩
    ·
      have h_4 : 0 ≤ v1.toInt ∧ v1.toInt ≤ 57 := h_4
      refine lv_if_eq (tgt := 23) hx hb dX11_rate_16 (by decide) (fun h => absurd h (by decide)) (fun _ => ?_)
      refine lv_iconst (v := 1) hx hb dX11_rate_19 (by decide) ?_
      refine lv_goto (tgt := 24) hx hb dX11_rate_20 (by decide) ?_
      refine lv_istore (lv' := [(4, .int 1), (0, .ref (g 0)), (1, .int v0), (2, .int v1), (3, .int v2)]) hx hb dX11_rate_24 hl (by decide) rfl (fun ls hl => ?_)
      refine lv_iload hx hb dX11_rate_26 (lv_at hl 0 rfl) ?_
      refine lv_if_eq (tgt := 59) hx hb dX11_rate_28 (by decide) (fun h => absurd h (by decide)) (fun _ => ?_)
      have t58 := idx58 (x := v0) (y := v1) (by omega) (by omega)
      refine lv_aload_n hx hb dX11_rate_31 rfl (lv_at hl 1 rfl) ?_
      refine gf_RX11_47 S hK hP 0 rfl (v := .ref (g 8)) rfl dX11_rate_32 ?_
      refine gf_RX11_429 S hK hP 1 rfl (v := .ref (g 26)) rfl dX11_rate_35 ?_
      refine lv_iload_n hx hb dX11_rate_38 rfl (lv_at hl 2 rfl) ?_
      refine lv_bipush (v := 58) hx hb dX11_rate_39 (by decide) ?_
      refine lv_imul hx hb dX11_rate_41 ?_
      refine lv_iload_n hx hb dX11_rate_42 rfl (lv_at hl 3 rfl) ?_
      refine lv_iadd hx hb dX11_rate_43 ?_
      refine lv_iload_n hx hb dX11_rate_44 rfl (lv_at hl 4 rfl) ?_
      refine lv_iconst (v := 0) hx hb dX11_rate_45 (by decide) ?_
      refine lv_sipush (v := 1000) hx hb dX11_rate_46 (by decide) ?_
      have hFc := va_free (wc := [((g 26), .inl (cI, 232, .inl (fun _ => 0)))]) hD hS hA [2] rfl
      refine va_calli (runS_w (As := [.ref (g 26), .int ((v0 * 58) + v1), .int v2, .int 0, .int 1000]) (rest := []) S (q_tell l D cI cB cZ (g 26) 232 (fun _ => 0) ((v0 * 58) + v1) v2 0 1000 s.heap.size (by omega)) kS_RX11_177 hK hP hD [2] rfl rfl (by decide) ⟨Nat.le_of_ble_eq_true rfl, Nat.le_of_ble_eq_true rfl⟩ ⟨Nat.le_of_ble_eq_true rfl, Nat.le_of_ble_eq_true rfl⟩ rfl hl.1 rfl (Nat.le_of_ble_eq_true rfl) dX11_rate_49) hS (fun q _ h => hFc q h) hFc (fun r_5 u_6 t H1 locs ht hvm h_7 hB hz1 hk1 hS => ?_)
      have hP1 : va_P D vwCl [] H1 := fun k q h => by simp at h
      have hD1 : va_D (va_A [((g 26), .inl (cI, 232, .inl (fun _ => 0)))] s.heap.size) [] := ⟨fun i j p q h => by simp at h, fun k q h => by simp at h⟩
      obtain ⟨hP, hD⟩ := va_join (wr := [((g 0), .inr (12, oX g)), ((g 8), .inr (8, oT g))]) (w1 := []) hP hD [2] [0, 1] rfl rfl (by decide) (by decide) hk1 hFc hP1 hD1
      generalize H1 = H at hP hS ⊢
      have hP : va_P D vwCl [((g 0), .inr (12, oX g)), ((g 8), .inr (8, oT g))] H := hP
      have hD : va_D A [((g 0), .inr (12, oX g)), ((g 8), .inr (8, oT g))] := hD
      rcases h_7 with ⟨rfl, h_7⟩ | ⟨rfl, h_7⟩
      ·
        have h_7 : 0 ≤ ((v0 * 58) + v1).toInt ∧ ((v0 * 58) + v1).toInt < 232 ∧ 0 ≤ v2.toInt ∧ v2.toInt ≤ 1000 := h_7
        refine lv_if_eq (tgt := 59) hx hb dX11_rate_52 (by decide) (fun h => absurd h (by decide)) (fun _ => ?_)
        refine lv_iconst (v := 1) hx hb dX11_rate_55 (by decide) ?_
        refine lv_goto (tgt := 60) hx hb dX11_rate_56 (by decide) ?_
        exact W.zret (v := 1) hx hb hr rfl (fun t ht hW => ⟨⟨1, (), rfl, (if_pos (by omega)).symm, trivial⟩, hS.F ht⟩) hS.2.2 dX11_rate_60
      ·
        have h_7 : ¬ (0 ≤ ((v0 * 58) + v1).toInt ∧ ((v0 * 58) + v1).toInt < 232 ∧ 0 ≤ v2.toInt ∧ v2.toInt ≤ 1000) := h_7
        refine lv_if_eq (tgt := 59) hx hb dX11_rate_52 (by decide) (fun _ => ?_) (fun h => absurd h (by decide))
        refine lv_iconst (v := 0) hx hb dX11_rate_59 (by decide) ?_
        exact W.zret (v := 0) hx hb hr rfl (fun t ht hW => ⟨⟨0, (), rfl, (if_neg (by omega)).symm, trivial⟩, hS.F ht⟩) hS.2.2 dX11_rate_60
    ·
      have h_4 : ¬ (0 ≤ v1.toInt ∧ v1.toInt ≤ 57) := h_4
      refine lv_if_eq (tgt := 23) hx hb dX11_rate_16 (by decide) (fun _ => ?_) (fun h => absurd h (by decide))
      refine lv_iconst (v := 0) hx hb dX11_rate_23 (by decide) ?_
      refine lv_istore (lv' := [(4, .int 0), (0, .ref (g 0)), (1, .int v0), (2, .int v1), (3, .int v2)]) hx hb dX11_rate_24 hl (by decide) rfl (fun ls hl => ?_)
      refine lv_iload hx hb dX11_rate_26 (lv_at hl 0 rfl) ?_
      refine lv_if_eq (tgt := 59) hx hb dX11_rate_28 (by decide) (fun _ => ?_) (fun h => absurd h (by decide))
      refine lv_iconst (v := 0) hx hb dX11_rate_59 (by decide) ?_
      exact W.zret (v := 0) hx hb hr rfl (fun t ht hW => ⟨⟨0, (), rfl, (if_neg (by omega)).symm, trivial⟩, hS.F ht⟩) hS.2.2 dX11_rate_60
  ·
    have h_2 : ¬ (0 ≤ v0.toInt ∧ v0.toInt ≤ 3) := h_2
    refine lv_if_eq (tgt := 23) hx hb dX11_rate_6 (by decide) (fun _ => ?_) (fun h => absurd h (by decide))
    refine lv_iconst (v := 0) hx hb dX11_rate_23 (by decide) ?_
    refine lv_istore (lv' := [(4, .int 0), (0, .ref (g 0)), (1, .int v0), (2, .int v1), (3, .int v2)]) hx hb dX11_rate_24 hl (by decide) rfl (fun ls hl => ?_)
    refine lv_iload hx hb dX11_rate_26 (lv_at hl 0 rfl) ?_
    refine lv_if_eq (tgt := 59) hx hb dX11_rate_28 (by decide) (fun _ => ?_) (fun h => absurd h (by decide))
    refine lv_iconst (v := 0) hx hb dX11_rate_59 (by decide) ?_
    exact W.zret (v := 0) hx hb hr rfl (fun t ht hW => ⟨⟨0, (), rfl, (if_neg (by omega)).symm, trivial⟩, hS.F ht⟩) hS.2.2 dX11_rate_60
