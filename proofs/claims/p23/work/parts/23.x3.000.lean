theorem minNI {a b : Nat} (ha : a < 2 ^ 31) (hb : b < 2 ^ 31) : (if nI b < nI a then nI b else nI a) = nI (min a b) := by
  by_cases q : b < a
  · rw [if_pos (nI_lt q ha), Nat.min_eq_right (by omega)]
  · rw [if_neg (nI_nlt (by omega) hb), Nat.min_eq_left (by omega)]

set_option maxRecDepth 100000 in
theorem kS_RX11_246 : CalS RX11 246 yX11_choose cX11_choose 6 (some .long) 2 := ⟨⟨wT_t4 65 rfl rfl, wT_t4 66 rfl rfl, wT_t1 1 rfl rfl, wT_t4 67 rfl rfl⟩, ⟨by decide, by decide, by decide +kernel⟩⟩
set_option maxRecDepth 100000 in
theorem kS_RX11_250 : CalS RX11 250 yX11_divisor cX11_divisor 7 (some .long) 2 := ⟨⟨wT_t4 68 rfl rfl, wT_t4 69 rfl rfl, wT_t1 1 rfl rfl, wT_t4 70 rfl rfl⟩, ⟨by decide, by decide, by decide +kernel⟩⟩
set_option maxRecDepth 100000 in
theorem kS_RX11_256 : CalS RX11 256 yX11_odds cX11_odds 11 (some .long) 5 := ⟨⟨wT_t4 62 rfl rfl, wT_t4 63 rfl rfl, wT_t1 1 rfl rfl, wT_t4 64 rfl rfl⟩, ⟨by decide, by decide, by decide +kernel⟩⟩
set_option maxRecDepth 100000 in
theorem gf_RX11_196 {p : Program} {l : Launch} {e : Env} {R : Room} {s : State} {m : MethodId} {args : Array Value} {below : List Frame} {meth : Method} {c : Code} {H : Heap} {locs : List Loc} {cells slots : Nat} {Q : State → Prop} {cc : ByteArray} {nL pc : Nat} {D : va_G} {cI cB cZ : ClassId} {ws : va_W} {rest : List Value} {ls : Array Slot} {a : Nat} {fs : List Value} {v : Value} (S : SF p m c cc nL s args RX11) (hK : KK D cI cB cZ s) (hP : va_P D vwCl ws H) (q0 : Nat) (he : ws[q0]? = some (a, .inr (3, fs))) (hv : fs[1]? = some v) (hdg : decode cc pc = .ok (.getfield 196, 3)) (kk : W p l e R s m args below meth c H locs cells slots Q (F0 m (pc + 3) ls (v :: rest))) : W p l e R s m args below meth c H locs cells slots Q (F0 m pc ls (.ref a :: rest)) :=
  va_get (C := RX2) (T := TX2) (N := 10) S.1 S.2.1 S.2.2.2.2 hin_RX2 S.2.2.2.1 hK.1 hP q0 he rfl 1 (by decide) (S.2.2.2.2 _ (wT_t2 213 rfl rfl)) (fun _ h9 => h9) hv hdg kk
set_option maxRecDepth 100000 in
theorem gf_RX11_211 {p : Program} {l : Launch} {e : Env} {R : Room} {s : State} {m : MethodId} {args : Array Value} {below : List Frame} {meth : Method} {c : Code} {H : Heap} {locs : List Loc} {cells slots : Nat} {Q : State → Prop} {cc : ByteArray} {nL pc : Nat} {D : va_G} {cI cB cZ : ClassId} {ws : va_W} {rest : List Value} {ls : Array Slot} {a : Nat} {fs : List Value} {v : Value} (S : SF p m c cc nL s args RX11) (hK : KK D cI cB cZ s) (hP : va_P D vwCl ws H) (q0 : Nat) (he : ws[q0]? = some (a, .inr (3, fs))) (hv : fs[0]? = some v) (hdg : decode cc pc = .ok (.getfield 211, 3)) (kk : W p l e R s m args below meth c H locs cells slots Q (F0 m (pc + 3) ls (v :: rest))) : W p l e R s m args below meth c H locs cells slots Q (F0 m pc ls (.ref a :: rest)) :=
  va_get (C := RX2) (T := TX2) (N := 10) S.1 S.2.1 S.2.2.2.2 hin_RX2 S.2.2.2.1 hK.1 hP q0 he rfl 0 (by decide) (S.2.2.2.2 _ (wT_t2 211 rfl rfl)) (fun _ h9 => h9) hv hdg kk
set_option maxRecDepth 100000 in
theorem gf_RX11_260 {p : Program} {l : Launch} {e : Env} {R : Room} {s : State} {m : MethodId} {args : Array Value} {below : List Frame} {meth : Method} {c : Code} {H : Heap} {locs : List Loc} {cells slots : Nat} {Q : State → Prop} {cc : ByteArray} {nL pc : Nat} {D : va_G} {cI cB cZ : ClassId} {ws : va_W} {rest : List Value} {ls : Array Slot} {a : Nat} {fs : List Value} {v : Value} (S : SF p m c cc nL s args RX11) (hK : KK D cI cB cZ s) (hP : va_P D vwCl ws H) (q0 : Nat) (he : ws[q0]? = some (a, .inr (2, fs))) (hv : fs[9]? = some v) (hdg : decode cc pc = .ok (.getfield 260, 3)) (kk : W p l e R s m args below meth c H locs cells slots Q (F0 m (pc + 3) ls (v :: rest))) : W p l e R s m args below meth c H locs cells slots Q (F0 m pc ls (.ref a :: rest)) :=
  va_get (C := RX1) (T := TX1) (N := 11) S.1 S.2.1 S.2.2.2.2 hin_RX1 S.2.2.2.1 hK.1 hP q0 he rfl 9 (by decide) (S.2.2.2.2 _ (wT_t2 88 rfl rfl)) (fun _ h9 => h9) hv hdg kk
set_option maxRecDepth 100000 in
theorem gf_RX11_205 {p : Program} {l : Launch} {e : Env} {R : Room} {s : State} {m : MethodId} {args : Array Value} {below : List Frame} {meth : Method} {c : Code} {H : Heap} {locs : List Loc} {cells slots : Nat} {Q : State → Prop} {cc : ByteArray} {nL pc : Nat} {D : va_G} {cI cB cZ : ClassId} {ws : va_W} {rest : List Value} {ls : Array Slot} {a : Nat} {fs : List Value} {v : Value} (S : SF p m c cc nL s args RX11) (hK : KK D cI cB cZ s) (hP : va_P D vwCl ws H) (q0 : Nat) (he : ws[q0]? = some (a, .inr (3, fs))) (hv : fs[3]? = some v) (hdg : decode cc pc = .ok (.getfield 205, 3)) (kk : W p l e R s m args below meth c H locs cells slots Q (F0 m (pc + 3) ls (v :: rest))) : W p l e R s m args below meth c H locs cells slots Q (F0 m pc ls (.ref a :: rest)) :=
  va_get (C := RX2) (T := TX2) (N := 10) S.1 S.2.1 S.2.2.2.2 hin_RX2 S.2.2.2.1 hK.1 hP q0 he rfl 3 (by decide) (S.2.2.2.2 _ (wT_t2 219 rfl rfl)) (fun _ h9 => h9) hv hdg kk
set_option maxRecDepth 100000 in
theorem kV_RX11_456 : CalV RX11 456 yX1_comesFor cX1_comesFor 2 (some .boolean) 1 := ⟨⟨wT_t5 180 rfl rfl, wT_t5 181 rfl rfl, wT_t5 182 rfl rfl, wT_t1 14 rfl rfl, wT_t5 183 rfl rfl⟩, ⟨by decide, by decide, by decide +kernel⟩⟩
set_option maxRecDepth 100000 in
theorem gf_RX11_459 {p : Program} {l : Launch} {e : Env} {R : Room} {s : State} {m : MethodId} {args : Array Value} {below : List Frame} {meth : Method} {c : Code} {H : Heap} {locs : List Loc} {cells slots : Nat} {Q : State → Prop} {cc : ByteArray} {nL pc : Nat} {D : va_G} {cI cB cZ : ClassId} {ws : va_W} {rest : List Value} {ls : Array Slot} {a : Nat} {fs : List Value} {v : Value} (S : SF p m c cc nL s args RX11) (hK : KK D cI cB cZ s) (hP : va_P D vwCl ws H) (q0 : Nat) (he : ws[q0]? = some (a, .inr (2, fs))) (hv : fs[2]? = some v) (hdg : decode cc pc = .ok (.getfield 459, 3)) (kk : W p l e R s m args below meth c H locs cells slots Q (F0 m (pc + 3) ls (v :: rest))) : W p l e R s m args below meth c H locs cells slots Q (F0 m pc ls (.ref a :: rest)) :=
  va_get (C := RX1) (T := TX1) (N := 11) S.1 S.2.1 S.2.2.2.2 hin_RX1 S.2.2.2.1 hK.1 hP q0 he rfl 2 (by decide) (S.2.2.2.2 _ (wT_t2 78 rfl rfl)) (fun _ h9 => h9) hv hdg kk
set_option maxRecDepth 100000 in
theorem kV_RX11_460 : CalV RX11 460 yX11_worthOf cX11_worthOf 6 (some .int) 2 := ⟨⟨wT_t5 176 rfl rfl, wT_t5 178 rfl rfl, wT_sel 56 _ rfl rfl rfl, wT_t1 1 rfl rfl, wT_t5 179 rfl rfl⟩, ⟨by decide, by decide, by decide +kernel⟩⟩
set_option maxRecDepth 100000 in
theorem kV_RX11_464 : CalV RX11 464 yX11_comers cX11_comers 4 (some .int) 1 := ⟨⟨wT_t5 189 rfl rfl, wT_t5 191 rfl rfl, wT_sel 57 _ rfl rfl rfl, wT_t1 1 rfl rfl, wT_t5 192 rfl rfl⟩, ⟨by decide, by decide, by decide +kernel⟩⟩
set_option maxRecDepth 100000 in
theorem gf_RX11_74 {p : Program} {l : Launch} {e : Env} {R : Room} {s : State} {m : MethodId} {args : Array Value} {below : List Frame} {meth : Method} {c : Code} {H : Heap} {locs : List Loc} {cells slots : Nat} {Q : State → Prop} {cc : ByteArray} {nL pc : Nat} {D : va_G} {cI cB cZ : ClassId} {ws : va_W} {rest : List Value} {ls : Array Slot} {a : Nat} {fs : List Value} {v : Value} (S : SF p m c cc nL s args RX11) (hK : KK D cI cB cZ s) (hP : va_P D vwCl ws H) (q0 : Nat) (he : ws[q0]? = some (a, .inr (12, fs))) (hv : fs[14]? = some v) (hdg : decode cc pc = .ok (.getfield 74, 3)) (kk : W p l e R s m args below meth c H locs cells slots Q (F0 m (pc + 3) ls (v :: rest))) : W p l e R s m args below meth c H locs cells slots Q (F0 m pc ls (.ref a :: rest)) :=
  va_get (C := RX11) (T := TX11) (N := 16) S.1 S.2.1 S.2.2.2.2 hin_RX11 S.2.2.2.1 hK.1 hP q0 he rfl 14 (by decide) (S.2.2.2.2 _ (wT_t2 10 rfl rfl)) (fun _ h9 => h9) hv hdg kk
set_option maxRecDepth 100000 in
theorem hin_RX6 : ∀ w ∈ u_ws RX6 TX6 3, w ∈ wT := by decide +kernel
set_option maxRecDepth 100000 in
theorem gf_RX11_477 {p : Program} {l : Launch} {e : Env} {R : Room} {s : State} {m : MethodId} {args : Array Value} {below : List Frame} {meth : Method} {c : Code} {H : Heap} {locs : List Loc} {cells slots : Nat} {Q : State → Prop} {cc : ByteArray} {nL pc : Nat} {D : va_G} {cI cB cZ : ClassId} {ws : va_W} {rest : List Value} {ls : Array Slot} {a : Nat} {fs : List Value} {v : Value} (S : SF p m c cc nL s args RX11) (hK : KK D cI cB cZ s) (hP : va_P D vwCl ws H) (q0 : Nat) (he : ws[q0]? = some (a, .inr (7, fs))) (hv : fs[2]? = some v) (hdg : decode cc pc = .ok (.getfield 477, 3)) (kk : W p l e R s m args below meth c H locs cells slots Q (F0 m (pc + 3) ls (v :: rest))) : W p l e R s m args below meth c H locs cells slots Q (F0 m pc ls (.ref a :: rest)) :=
  va_get (C := RX6) (T := TX6) (N := 3) S.1 S.2.1 S.2.2.2.2 hin_RX6 S.2.2.2.1 hK.1 hP q0 he rfl 2 (by decide) (S.2.2.2.2 _ (wT_t5 219 rfl rfl)) (fun _ h9 => h9) hv hdg kk
set_option maxRecDepth 100000 in
theorem gf_RX11_480 {p : Program} {l : Launch} {e : Env} {R : Room} {s : State} {m : MethodId} {args : Array Value} {below : List Frame} {meth : Method} {c : Code} {H : Heap} {locs : List Loc} {cells slots : Nat} {Q : State → Prop} {cc : ByteArray} {nL pc : Nat} {D : va_G} {cI cB cZ : ClassId} {ws : va_W} {rest : List Value} {ls : Array Slot} {a : Nat} {fs : List Value} {v : Value} (S : SF p m c cc nL s args RX11) (hK : KK D cI cB cZ s) (hP : va_P D vwCl ws H) (q0 : Nat) (he : ws[q0]? = some (a, .inr (7, fs))) (hv : fs[0]? = some v) (hdg : decode cc pc = .ok (.getfield 480, 3)) (kk : W p l e R s m args below meth c H locs cells slots Q (F0 m (pc + 3) ls (v :: rest))) : W p l e R s m args below meth c H locs cells slots Q (F0 m pc ls (.ref a :: rest)) :=
  va_get (C := RX6) (T := TX6) (N := 3) S.1 S.2.1 S.2.2.2.2 hin_RX6 S.2.2.2.1 hK.1 hP q0 he rfl 0 (by decide) (S.2.2.2.2 _ (wT_t5 216 rfl rfl)) (fun _ h9 => h9) hv hdg kk
set_option maxRecDepth 100000 in
theorem gf_RX11_481 {p : Program} {l : Launch} {e : Env} {R : Room} {s : State} {m : MethodId} {args : Array Value} {below : List Frame} {meth : Method} {c : Code} {H : Heap} {locs : List Loc} {cells slots : Nat} {Q : State → Prop} {cc : ByteArray} {nL pc : Nat} {D : va_G} {cI cB cZ : ClassId} {ws : va_W} {rest : List Value} {ls : Array Slot} {a : Nat} {fs : List Value} {v : Value} (S : SF p m c cc nL s args RX11) (hK : KK D cI cB cZ s) (hP : va_P D vwCl ws H) (q0 : Nat) (he : ws[q0]? = some (a, .inr (7, fs))) (hv : fs[1]? = some v) (hdg : decode cc pc = .ok (.getfield 481, 3)) (kk : W p l e R s m args below meth c H locs cells slots Q (F0 m (pc + 3) ls (v :: rest))) : W p l e R s m args below meth c H locs cells slots Q (F0 m pc ls (.ref a :: rest)) :=
  va_get (C := RX6) (T := TX6) (N := 3) S.1 S.2.1 S.2.2.2.2 hin_RX6 S.2.2.2.1 hK.1 hP q0 he rfl 1 (by decide) (S.2.2.2.2 _ (wT_t5 218 rfl rfl)) (fun _ h9 => h9) hv hdg kk
set_option maxRecDepth 100000 in
theorem kV_RX11_482 : CalV RX11 482 yX11_isBeside cX11_isBeside 6 (some .boolean) 3 := ⟨⟨wT_t5 235 rfl rfl, wT_t5 237 rfl rfl, wT_sel 59 _ rfl rfl rfl, wT_t1 1 rfl rfl, wT_t5 238 rfl rfl⟩, ⟨by decide, by decide, by decide +kernel⟩⟩
set_option maxRecDepth 100000 in
theorem gf_RX2_16 {p : Program} {l : Launch} {e : Env} {R : Room} {s : State} {m : MethodId} {args : Array Value} {below : List Frame} {meth : Method} {c : Code} {H : Heap} {locs : List Loc} {cells slots : Nat} {Q : State → Prop} {cc : ByteArray} {nL pc : Nat} {D : va_G} {cI cB cZ : ClassId} {ws : va_W} {rest : List Value} {ls : Array Slot} {a : Nat} {fs : List Value} {v : Value} (S : SF p m c cc nL s args RX2) (hK : KK D cI cB cZ s) (hP : va_P D vwCl ws H) (q0 : Nat) (he : ws[q0]? = some (a, .inr (3, fs))) (hv : fs[2]? = some v) (hdg : decode cc pc = .ok (.getfield 16, 3)) (kk : W p l e R s m args below meth c H locs cells slots Q (F0 m (pc + 3) ls (v :: rest))) : W p l e R s m args below meth c H locs cells slots Q (F0 m pc ls (.ref a :: rest)) :=
  va_get (C := RX2) (T := TX2) (N := 10) S.1 S.2.1 S.2.2.2.2 hin_RX2 S.2.2.2.1 hK.1 hP q0 he rfl 2 (by decide) (S.2.2.2.2 _ (wT_t2 214 rfl rfl)) (fun _ h9 => h9) hv hdg kk
set_option maxRecDepth 100000 in
theorem gf_RX11_128 {p : Program} {l : Launch} {e : Env} {R : Room} {s : State} {m : MethodId} {args : Array Value} {below : List Frame} {meth : Method} {c : Code} {H : Heap} {locs : List Loc} {cells slots : Nat} {Q : State → Prop} {cc : ByteArray} {nL pc : Nat} {D : va_G} {cI cB cZ : ClassId} {ws : va_W} {rest : List Value} {ls : Array Slot} {a : Nat} {fs : List Value} {v : Value} (S : SF p m c cc nL s args RX11) (hK : KK D cI cB cZ s) (hP : va_P D vwCl ws H) (q0 : Nat) (he : ws[q0]? = some (a, .inr (3, fs))) (hv : fs[6]? = some v) (hdg : decode cc pc = .ok (.getfield 128, 3)) (kk : W p l e R s m args below meth c H locs cells slots Q (F0 m (pc + 3) ls (v :: rest))) : W p l e R s m args below meth c H locs cells slots Q (F0 m pc ls (.ref a :: rest)) :=
  va_get (C := RX2) (T := TX2) (N := 10) S.1 S.2.1 S.2.2.2.2 hin_RX2 S.2.2.2.1 hK.1 hP q0 he rfl 6 (by decide) (S.2.2.2.2 _ (wT_t2 225 rfl rfl)) (fun _ h9 => h9) hv hdg kk
set_option maxRecDepth 100000 in
theorem gf_RX11_495 {p : Program} {l : Launch} {e : Env} {R : Room} {s : State} {m : MethodId} {args : Array Value} {below : List Frame} {meth : Method} {c : Code} {H : Heap} {locs : List Loc} {cells slots : Nat} {Q : State → Prop} {cc : ByteArray} {nL pc : Nat} {D : va_G} {cI cB cZ : ClassId} {ws : va_W} {rest : List Value} {ls : Array Slot} {a : Nat} {fs : List Value} {v : Value} (S : SF p m c cc nL s args RX11) (hK : KK D cI cB cZ s) (hP : va_P D vwCl ws H) (q0 : Nat) (he : ws[q0]? = some (a, .inr (2, fs))) (hv : fs[3]? = some v) (hdg : decode cc pc = .ok (.getfield 495, 3)) (kk : W p l e R s m args below meth c H locs cells slots Q (F0 m (pc + 3) ls (v :: rest))) : W p l e R s m args below meth c H locs cells slots Q (F0 m pc ls (.ref a :: rest)) :=
  va_get (C := RX1) (T := TX1) (N := 11) S.1 S.2.1 S.2.2.2.2 hin_RX1 S.2.2.2.1 hK.1 hP q0 he rfl 3 (by decide) (S.2.2.2.2 _ (wT_t2 80 rfl rfl)) (fun _ h9 => h9) hv hdg kk
set_option maxRecDepth 100000 in
theorem kV_RX11_498 : CalV RX11 498 yX11_feastedFill cX11_feastedFill 5 (some .int) 2 := ⟨⟨wT_t6 23 rfl rfl, wT_t6 25 rfl rfl, wT_sel 61 _ rfl rfl rfl, wT_t1 1 rfl rfl, wT_t6 26 rfl rfl⟩, ⟨by decide, by decide, by decide +kernel⟩⟩
set_option maxRecDepth 100000 in
theorem kV_RX11_137 : CalV RX11 137 yX2_shortOf cX2_shortOf 2 (some .int) 1 := ⟨⟨wT_t3 10 rfl rfl, wT_t3 11 rfl rfl, wT_t3 12 rfl rfl, wT_t1 19 rfl rfl, wT_t3 13 rfl rfl⟩, ⟨by decide, by decide, by decide +kernel⟩⟩
set_option maxRecDepth 100000 in
theorem gf_RX11_77 {p : Program} {l : Launch} {e : Env} {R : Room} {s : State} {m : MethodId} {args : Array Value} {below : List Frame} {meth : Method} {c : Code} {H : Heap} {locs : List Loc} {cells slots : Nat} {Q : State → Prop} {cc : ByteArray} {nL pc : Nat} {D : va_G} {cI cB cZ : ClassId} {ws : va_W} {rest : List Value} {ls : Array Slot} {a : Nat} {fs : List Value} {v : Value} (S : SF p m c cc nL s args RX11) (hK : KK D cI cB cZ s) (hP : va_P D vwCl ws H) (q0 : Nat) (he : ws[q0]? = some (a, .inr (12, fs))) (hv : fs[15]? = some v) (hdg : decode cc pc = .ok (.getfield 77, 3)) (kk : W p l e R s m args below meth c H locs cells slots Q (F0 m (pc + 3) ls (v :: rest))) : W p l e R s m args below meth c H locs cells slots Q (F0 m pc ls (.ref a :: rest)) :=
  va_get (C := RX11) (T := TX11) (N := 16) S.1 S.2.1 S.2.2.2.2 hin_RX11 S.2.2.2.1 hK.1 hP q0 he rfl 15 (by decide) (S.2.2.2.2 _ (wT_t2 11 rfl rfl)) (fun _ h9 => h9) hv hdg kk
set_option maxRecDepth 100000 in
theorem hin_RX3 : ∀ w ∈ u_ws RX3 TX3 3, w ∈ wT := by decide +kernel
set_option maxRecDepth 100000 in
theorem gf_RX11_507 {p : Program} {l : Launch} {e : Env} {R : Room} {s : State} {m : MethodId} {args : Array Value} {below : List Frame} {meth : Method} {c : Code} {H : Heap} {locs : List Loc} {cells slots : Nat} {Q : State → Prop} {cc : ByteArray} {nL pc : Nat} {D : va_G} {cI cB cZ : ClassId} {ws : va_W} {rest : List Value} {ls : Array Slot} {a : Nat} {fs : List Value} {v : Value} (S : SF p m c cc nL s args RX11) (hK : KK D cI cB cZ s) (hP : va_P D vwCl ws H) (q0 : Nat) (he : ws[q0]? = some (a, .inr (4, fs))) (hv : fs[0]? = some v) (hdg : decode cc pc = .ok (.getfield 507, 3)) (kk : W p l e R s m args below meth c H locs cells slots Q (F0 m (pc + 3) ls (v :: rest))) : W p l e R s m args below meth c H locs cells slots Q (F0 m pc ls (.ref a :: rest)) :=
  va_get (C := RX3) (T := TX3) (N := 3) S.1 S.2.1 S.2.2.2.2 hin_RX3 S.2.2.2.1 hK.1 hP q0 he rfl 0 (by decide) (S.2.2.2.2 _ (wT_t6 46 rfl rfl)) (fun _ h9 => h9) hv hdg kk
set_option maxRecDepth 100000 in
theorem gf_RX11_508 {p : Program} {l : Launch} {e : Env} {R : Room} {s : State} {m : MethodId} {args : Array Value} {below : List Frame} {meth : Method} {c : Code} {H : Heap} {locs : List Loc} {cells slots : Nat} {Q : State → Prop} {cc : ByteArray} {nL pc : Nat} {D : va_G} {cI cB cZ : ClassId} {ws : va_W} {rest : List Value} {ls : Array Slot} {a : Nat} {fs : List Value} {v : Value} (S : SF p m c cc nL s args RX11) (hK : KK D cI cB cZ s) (hP : va_P D vwCl ws H) (q0 : Nat) (he : ws[q0]? = some (a, .inr (4, fs))) (hv : fs[2]? = some v) (hdg : decode cc pc = .ok (.getfield 508, 3)) (kk : W p l e R s m args below meth c H locs cells slots Q (F0 m (pc + 3) ls (v :: rest))) : W p l e R s m args below meth c H locs cells slots Q (F0 m pc ls (.ref a :: rest)) :=
  va_get (C := RX3) (T := TX3) (N := 3) S.1 S.2.1 S.2.2.2.2 hin_RX3 S.2.2.2.1 hK.1 hP q0 he rfl 2 (by decide) (S.2.2.2.2 _ (wT_t6 50 rfl rfl)) (fun _ h9 => h9) hv hdg kk
set_option maxRecDepth 100000 in
theorem kV_RX11_509 : CalV RX11 509 yX11_moveBy cX11_moveBy 6 (some (.object "OilHome$Move")) 2 := ⟨⟨wT_t6 35 rfl rfl, wT_t6 37 rfl rfl, wT_sel 62 _ rfl rfl rfl, wT_t1 1 rfl rfl, wT_t6 38 rfl rfl⟩, ⟨by decide, by decide, by decide +kernel⟩⟩
set_option maxRecDepth 100000 in
theorem gf_RX11_516 {p : Program} {l : Launch} {e : Env} {R : Room} {s : State} {m : MethodId} {args : Array Value} {below : List Frame} {meth : Method} {c : Code} {H : Heap} {locs : List Loc} {cells slots : Nat} {Q : State → Prop} {cc : ByteArray} {nL pc : Nat} {D : va_G} {cI cB cZ : ClassId} {ws : va_W} {rest : List Value} {ls : Array Slot} {a : Nat} {fs : List Value} {v : Value} (S : SF p m c cc nL s args RX11) (hK : KK D cI cB cZ s) (hP : va_P D vwCl ws H) (q0 : Nat) (he : ws[q0]? = some (a, .inr (4, fs))) (hv : fs[1]? = some v) (hdg : decode cc pc = .ok (.getfield 516, 3)) (kk : W p l e R s m args below meth c H locs cells slots Q (F0 m (pc + 3) ls (v :: rest))) : W p l e R s m args below meth c H locs cells slots Q (F0 m pc ls (.ref a :: rest)) :=
  va_get (C := RX3) (T := TX3) (N := 3) S.1 S.2.1 S.2.2.2.2 hin_RX3 S.2.2.2.1 hK.1 hP q0 he rfl 1 (by decide) (S.2.2.2.2 _ (wT_t6 48 rfl rfl)) (fun _ h9 => h9) hv hdg kk
set_option maxRecDepth 100000 in
theorem kV_RX11_333 : CalV RX11 333 yX11_stopsOf cX11_stopsOf 6 (some .int) 2 := ⟨⟨wT_t4 189 rfl rfl, wT_t4 191 rfl rfl, wT_sel 41 _ rfl rfl rfl, wT_t1 1 rfl rfl, wT_t4 192 rfl rfl⟩, ⟨by decide, by decide, by decide +kernel⟩⟩
set_option maxRecDepth 100000 in
theorem kV_RX11_339 : CalV RX11 339 yX10_lengthOf cX10_lengthOf 2 (some .int) 1 := ⟨⟨wT_t4 197 rfl rfl, wT_t4 132 rfl rfl, wT_t4 133 rfl rfl, wT_t1 9 rfl rfl, wT_t4 134 rfl rfl⟩, ⟨by decide, by decide, by decide +kernel⟩⟩
set_option maxRecDepth 100000 in
theorem kV_RX11_336 : CalV RX11 336 yX10_fillOf cX10_fillOf 4 (some .int) 1 := ⟨⟨wT_t4 193 rfl rfl, wT_t4 194 rfl rfl, wT_t4 195 rfl rfl, wT_t1 9 rfl rfl, wT_t4 196 rfl rfl⟩, ⟨by decide, by decide, by decide +kernel⟩⟩
set_option maxRecDepth 100000 in
theorem kV_RX11_327 : CalV RX11 327 yX11_sharedLength cX11_sharedLength 6 (some .int) 2 := ⟨⟨wT_t4 185 rfl rfl, wT_t4 187 rfl rfl, wT_sel 40 _ rfl rfl rfl, wT_t1 1 rfl rfl, wT_t4 188 rfl rfl⟩, ⟨by decide, by decide, by decide +kernel⟩⟩
set_option maxRecDepth 100000 in
theorem kV_RX11_324 : CalV RX11 324 yX11_bestShares cX11_bestShares 7 (some .int) 1 := ⟨⟨wT_t4 181 rfl rfl, wT_t4 183 rfl rfl, wT_sel 39 _ rfl rfl rfl, wT_t1 1 rfl rfl, wT_t4 184 rfl rfl⟩, ⟨by decide, by decide, by decide +kernel⟩⟩
set_option maxRecDepth 100000 in
theorem kV_RX11_330 : CalV RX11 330 yX11_lorryOf cX11_lorryOf 5 (some .int) 2 := ⟨⟨wT_t4 198 rfl rfl, wT_t4 200 rfl rfl, wT_sel 42 _ rfl rfl rfl, wT_t1 1 rfl rfl, wT_t4 201 rfl rfl⟩, ⟨by decide, by decide, by decide +kernel⟩⟩
def sxX11_choose_54 : List UInt8 := []
def sxX11_choose_53 : List UInt8 := 173 :: sxX11_choose_54
def sxX11_choose_52 : List UInt8 := 32 :: sxX11_choose_53
def sxX11_choose_49 : List UInt8 := 167 :: 255 :: 232 :: sxX11_choose_52
def sxX11_choose_46 : List UInt8 := 132 :: 5 :: 1 :: sxX11_choose_49
def sxX11_choose_45 : List UInt8 := 65 :: sxX11_choose_46
def sxX11_choose_44 : List UInt8 := 109 :: sxX11_choose_45
def sxX11_choose_43 : List UInt8 := 133 :: sxX11_choose_44
def sxX11_choose_42 : List UInt8 := 96 :: sxX11_choose_43
def sxX11_choose_41 : List UInt8 := 4 :: sxX11_choose_42
def sxX11_choose_39 : List UInt8 := 21 :: 5 :: sxX11_choose_41
def sxX11_choose_38 : List UInt8 := 105 :: sxX11_choose_39
def sxX11_choose_37 : List UInt8 := 133 :: sxX11_choose_38
def sxX11_choose_36 : List UInt8 := 100 :: sxX11_choose_37
def sxX11_choose_34 : List UInt8 := 21 :: 5 :: sxX11_choose_36
def sxX11_choose_33 : List UInt8 := 26 :: sxX11_choose_34
def sxX11_choose_32 : List UInt8 := 32 :: sxX11_choose_33
def sxX11_choose_29 : List UInt8 := 162 :: 0 :: 23 :: sxX11_choose_32
def sxX11_choose_27 : List UInt8 := 21 :: 4 :: sxX11_choose_29
def sxX11_choose_25 : List UInt8 := 21 :: 5 :: sxX11_choose_27
def sxX11_choose_23 : List UInt8 := 54 :: 5 :: sxX11_choose_25
def sxX11_choose_22 : List UInt8 := 3 :: sxX11_choose_23
def sxX11_choose_20 : List UInt8 := 54 :: 4 :: sxX11_choose_22
def sxX11_choose_17 : List UInt8 := 184 :: 0 :: 227 :: sxX11_choose_20
def sxX11_choose_16 : List UInt8 := 100 :: sxX11_choose_17
def sxX11_choose_15 : List UInt8 := 27 :: sxX11_choose_16
def sxX11_choose_14 : List UInt8 := 26 :: sxX11_choose_15
def sxX11_choose_13 : List UInt8 := 27 :: sxX11_choose_14
def sxX11_choose_12 : List UInt8 := 65 :: sxX11_choose_13
def sxX11_choose_11 : List UInt8 := 10 :: sxX11_choose_12
def sxX11_choose_10 : List UInt8 := 173 :: sxX11_choose_11
def sxX11_choose_9 : List UInt8 := 9 :: sxX11_choose_10
def sxX11_choose_6 : List UInt8 := 164 :: 0 :: 5 :: sxX11_choose_9
def sxX11_choose_5 : List UInt8 := 26 :: sxX11_choose_6
def sxX11_choose_4 : List UInt8 := 27 :: sxX11_choose_5
def sxX11_choose_1 : List UInt8 := 155 :: 0 :: 8 :: sxX11_choose_4
def sxX11_choose_0 : List UInt8 := 27 :: sxX11_choose_1
theorem shX11_choose_0 : cX11_choose.data.toList.drop 0 = sxX11_choose_0 := rfl
theorem shX11_choose_1 : cX11_choose.data.toList.drop 1 = sxX11_choose_1 := dSn 1 shX11_choose_0
theorem shX11_choose_4 : cX11_choose.data.toList.drop 4 = sxX11_choose_4 := dSn 3 shX11_choose_1
theorem shX11_choose_5 : cX11_choose.data.toList.drop 5 = sxX11_choose_5 := dSn 1 shX11_choose_4
theorem shX11_choose_6 : cX11_choose.data.toList.drop 6 = sxX11_choose_6 := dSn 1 shX11_choose_5
theorem shX11_choose_9 : cX11_choose.data.toList.drop 9 = sxX11_choose_9 := dSn 3 shX11_choose_6
theorem shX11_choose_10 : cX11_choose.data.toList.drop 10 = sxX11_choose_10 := dSn 1 shX11_choose_9
theorem shX11_choose_11 : cX11_choose.data.toList.drop 11 = sxX11_choose_11 := dSn 1 shX11_choose_10
theorem shX11_choose_12 : cX11_choose.data.toList.drop 12 = sxX11_choose_12 := dSn 1 shX11_choose_11
theorem shX11_choose_13 : cX11_choose.data.toList.drop 13 = sxX11_choose_13 := dSn 1 shX11_choose_12
theorem shX11_choose_14 : cX11_choose.data.toList.drop 14 = sxX11_choose_14 := dSn 1 shX11_choose_13
theorem shX11_choose_15 : cX11_choose.data.toList.drop 15 = sxX11_choose_15 := dSn 1 shX11_choose_14
theorem shX11_choose_16 : cX11_choose.data.toList.drop 16 = sxX11_choose_16 := dSn 1 shX11_choose_15
theorem shX11_choose_17 : cX11_choose.data.toList.drop 17 = sxX11_choose_17 := dSn 1 shX11_choose_16
theorem shX11_choose_20 : cX11_choose.data.toList.drop 20 = sxX11_choose_20 := dSn 3 shX11_choose_17
theorem shX11_choose_22 : cX11_choose.data.toList.drop 22 = sxX11_choose_22 := dSn 2 shX11_choose_20
theorem shX11_choose_23 : cX11_choose.data.toList.drop 23 = sxX11_choose_23 := dSn 1 shX11_choose_22
theorem shX11_choose_25 : cX11_choose.data.toList.drop 25 = sxX11_choose_25 := dSn 2 shX11_choose_23
theorem shX11_choose_27 : cX11_choose.data.toList.drop 27 = sxX11_choose_27 := dSn 2 shX11_choose_25
theorem shX11_choose_29 : cX11_choose.data.toList.drop 29 = sxX11_choose_29 := dSn 2 shX11_choose_27
theorem shX11_choose_32 : cX11_choose.data.toList.drop 32 = sxX11_choose_32 := dSn 3 shX11_choose_29
theorem shX11_choose_33 : cX11_choose.data.toList.drop 33 = sxX11_choose_33 := dSn 1 shX11_choose_32
theorem shX11_choose_34 : cX11_choose.data.toList.drop 34 = sxX11_choose_34 := dSn 1 shX11_choose_33
theorem shX11_choose_36 : cX11_choose.data.toList.drop 36 = sxX11_choose_36 := dSn 2 shX11_choose_34
theorem shX11_choose_37 : cX11_choose.data.toList.drop 37 = sxX11_choose_37 := dSn 1 shX11_choose_36
theorem shX11_choose_38 : cX11_choose.data.toList.drop 38 = sxX11_choose_38 := dSn 1 shX11_choose_37
theorem shX11_choose_39 : cX11_choose.data.toList.drop 39 = sxX11_choose_39 := dSn 1 shX11_choose_38
theorem shX11_choose_41 : cX11_choose.data.toList.drop 41 = sxX11_choose_41 := dSn 2 shX11_choose_39
theorem shX11_choose_42 : cX11_choose.data.toList.drop 42 = sxX11_choose_42 := dSn 1 shX11_choose_41
theorem shX11_choose_43 : cX11_choose.data.toList.drop 43 = sxX11_choose_43 := dSn 1 shX11_choose_42
theorem shX11_choose_44 : cX11_choose.data.toList.drop 44 = sxX11_choose_44 := dSn 1 shX11_choose_43
theorem shX11_choose_45 : cX11_choose.data.toList.drop 45 = sxX11_choose_45 := dSn 1 shX11_choose_44
theorem shX11_choose_46 : cX11_choose.data.toList.drop 46 = sxX11_choose_46 := dSn 1 shX11_choose_45
theorem shX11_choose_49 : cX11_choose.data.toList.drop 49 = sxX11_choose_49 := dSn 3 shX11_choose_46
theorem shX11_choose_52 : cX11_choose.data.toList.drop 52 = sxX11_choose_52 := dSn 3 shX11_choose_49
theorem shX11_choose_53 : cX11_choose.data.toList.drop 53 = sxX11_choose_53 := dSn 1 shX11_choose_52
theorem dX11_choose_0 : decode cX11_choose 0 = .ok (.iload_n 1, 1) := oc_27 shX11_choose_0
theorem dX11_choose_1 : decode cX11_choose 1 = .ok (.ifCond .lt 8, 3) := oc_155 shX11_choose_1 sgw_0_8
theorem dX11_choose_4 : decode cX11_choose 4 = .ok (.iload_n 1, 1) := oc_27 shX11_choose_4
theorem dX11_choose_5 : decode cX11_choose 5 = .ok (.iload_n 0, 1) := oc_26 shX11_choose_5
theorem dX11_choose_6 : decode cX11_choose 6 = .ok (.if_icmp .le 5, 3) := oc_164 shX11_choose_6 sgw_0_5
theorem dX11_choose_11 : decode cX11_choose 11 = .ok (.lconst 1, 1) := oc_10 shX11_choose_11
theorem dX11_choose_12 : decode cX11_choose 12 = .ok (.lstore_n 2, 1) := oc_65 shX11_choose_12
theorem dX11_choose_13 : decode cX11_choose 13 = .ok (.iload_n 1, 1) := oc_27 shX11_choose_13
theorem dX11_choose_14 : decode cX11_choose 14 = .ok (.iload_n 0, 1) := oc_26 shX11_choose_14
theorem dX11_choose_15 : decode cX11_choose 15 = .ok (.iload_n 1, 1) := oc_27 shX11_choose_15
theorem dX11_choose_16 : decode cX11_choose 16 = .ok (.isub, 1) := oc_100 shX11_choose_16
theorem dX11_choose_17 : decode cX11_choose 17 = .ok (.invokestatic 227, 3) := oc_184 shX11_choose_17
theorem dX11_choose_20 : decode cX11_choose 20 = .ok (.istore 4, 2) := oc_54 shX11_choose_20
theorem dX11_choose_22 : decode cX11_choose 22 = .ok (.iconst 0, 1) := oc_3 shX11_choose_22
theorem dX11_choose_23 : decode cX11_choose 23 = .ok (.istore 5, 2) := oc_54 shX11_choose_23
theorem dX11_choose_25 : decode cX11_choose 25 = .ok (.iload 5, 2) := oc_21 shX11_choose_25
theorem dX11_choose_27 : decode cX11_choose 27 = .ok (.iload 4, 2) := oc_21 shX11_choose_27
theorem dX11_choose_29 : decode cX11_choose 29 = .ok (.if_icmp .ge 23, 3) := oc_162 shX11_choose_29 sgw_0_23
theorem dX11_choose_52 : decode cX11_choose 52 = .ok (.lload_n 2, 1) := oc_32 shX11_choose_52
theorem dX11_choose_53 : decode cX11_choose 53 = .ok (.lreturn, 1) := oc_173 shX11_choose_53
theorem dX11_choose_32 : decode cX11_choose 32 = .ok (.lload_n 2, 1) := oc_32 shX11_choose_32
theorem dX11_choose_33 : decode cX11_choose 33 = .ok (.iload_n 0, 1) := oc_26 shX11_choose_33
theorem dX11_choose_34 : decode cX11_choose 34 = .ok (.iload 5, 2) := oc_21 shX11_choose_34
theorem dX11_choose_36 : decode cX11_choose 36 = .ok (.isub, 1) := oc_100 shX11_choose_36
theorem dX11_choose_37 : decode cX11_choose 37 = .ok (.i2l, 1) := oc_133 shX11_choose_37
theorem dX11_choose_38 : decode cX11_choose 38 = .ok (.lmul, 1) := oc_105 shX11_choose_38
theorem dX11_choose_39 : decode cX11_choose 39 = .ok (.iload 5, 2) := oc_21 shX11_choose_39
theorem dX11_choose_41 : decode cX11_choose 41 = .ok (.iconst 1, 1) := oc_4 shX11_choose_41
theorem dX11_choose_42 : decode cX11_choose 42 = .ok (.iadd, 1) := oc_96 shX11_choose_42
theorem dX11_choose_43 : decode cX11_choose 43 = .ok (.i2l, 1) := oc_133 shX11_choose_43
theorem dX11_choose_44 : decode cX11_choose 44 = .ok (.ldiv, 1) := oc_109 shX11_choose_44
theorem dX11_choose_45 : decode cX11_choose 45 = .ok (.lstore_n 2, 1) := oc_65 shX11_choose_45
theorem dX11_choose_46 : decode cX11_choose 46 = .ok (.iinc 5 1, 3) := oc_132 shX11_choose_46 sgb_1
theorem dX11_choose_49 : decode cX11_choose 49 = .ok (.goto (-24), 3) := oc_167 shX11_choose_49 sgw_255_232
theorem dX11_choose_9 : decode cX11_choose 9 = .ok (.lconst 0, 1) := oc_9 shX11_choose_9
theorem dX11_choose_10 : decode cX11_choose 10 = .ok (.lreturn, 1) := oc_173 shX11_choose_10
def sxX11_divisor_35 : List UInt8 := []
def sxX11_divisor_34 : List UInt8 := 173 :: sxX11_divisor_35
def sxX11_divisor_33 : List UInt8 := 30 :: sxX11_divisor_34
def sxX11_divisor_30 : List UInt8 := 167 :: 255 :: 229 :: sxX11_divisor_33
def sxX11_divisor_27 : List UInt8 := 132 :: 4 :: 1 :: sxX11_divisor_30
def sxX11_divisor_26 : List UInt8 := 65 :: sxX11_divisor_27
def sxX11_divisor_24 : List UInt8 := 22 :: 5 :: sxX11_divisor_26
def sxX11_divisor_23 : List UInt8 := 63 :: sxX11_divisor_24
def sxX11_divisor_22 : List UInt8 := 32 :: sxX11_divisor_23
def sxX11_divisor_20 : List UInt8 := 55 :: 5 :: sxX11_divisor_22
def sxX11_divisor_19 : List UInt8 := 113 :: sxX11_divisor_20
def sxX11_divisor_18 : List UInt8 := 32 :: sxX11_divisor_19
def sxX11_divisor_17 : List UInt8 := 30 :: sxX11_divisor_18
def sxX11_divisor_14 : List UInt8 := 153 :: 0 :: 19 :: sxX11_divisor_17
def sxX11_divisor_13 : List UInt8 := 148 :: sxX11_divisor_14
def sxX11_divisor_12 : List UInt8 := 9 :: sxX11_divisor_13
def sxX11_divisor_11 : List UInt8 := 32 :: sxX11_divisor_12
def sxX11_divisor_8 : List UInt8 := 162 :: 0 :: 25 :: sxX11_divisor_11
def sxX11_divisor_5 : List UInt8 := 17 :: 0 :: 200 :: sxX11_divisor_8
def sxX11_divisor_3 : List UInt8 := 21 :: 4 :: sxX11_divisor_5
def sxX11_divisor_1 : List UInt8 := 54 :: 4 :: sxX11_divisor_3
def sxX11_divisor_0 : List UInt8 := 3 :: sxX11_divisor_1
theorem shX11_divisor_0 : cX11_divisor.data.toList.drop 0 = sxX11_divisor_0 := rfl
theorem shX11_divisor_1 : cX11_divisor.data.toList.drop 1 = sxX11_divisor_1 := dSn 1 shX11_divisor_0
theorem shX11_divisor_3 : cX11_divisor.data.toList.drop 3 = sxX11_divisor_3 := dSn 2 shX11_divisor_1
theorem shX11_divisor_5 : cX11_divisor.data.toList.drop 5 = sxX11_divisor_5 := dSn 2 shX11_divisor_3
theorem shX11_divisor_8 : cX11_divisor.data.toList.drop 8 = sxX11_divisor_8 := dSn 3 shX11_divisor_5
theorem shX11_divisor_11 : cX11_divisor.data.toList.drop 11 = sxX11_divisor_11 := dSn 3 shX11_divisor_8
theorem shX11_divisor_12 : cX11_divisor.data.toList.drop 12 = sxX11_divisor_12 := dSn 1 shX11_divisor_11
theorem shX11_divisor_13 : cX11_divisor.data.toList.drop 13 = sxX11_divisor_13 := dSn 1 shX11_divisor_12
theorem shX11_divisor_14 : cX11_divisor.data.toList.drop 14 = sxX11_divisor_14 := dSn 1 shX11_divisor_13
theorem shX11_divisor_17 : cX11_divisor.data.toList.drop 17 = sxX11_divisor_17 := dSn 3 shX11_divisor_14
theorem shX11_divisor_18 : cX11_divisor.data.toList.drop 18 = sxX11_divisor_18 := dSn 1 shX11_divisor_17
theorem shX11_divisor_19 : cX11_divisor.data.toList.drop 19 = sxX11_divisor_19 := dSn 1 shX11_divisor_18
theorem shX11_divisor_20 : cX11_divisor.data.toList.drop 20 = sxX11_divisor_20 := dSn 1 shX11_divisor_19
theorem shX11_divisor_22 : cX11_divisor.data.toList.drop 22 = sxX11_divisor_22 := dSn 2 shX11_divisor_20
theorem shX11_divisor_23 : cX11_divisor.data.toList.drop 23 = sxX11_divisor_23 := dSn 1 shX11_divisor_22
theorem shX11_divisor_24 : cX11_divisor.data.toList.drop 24 = sxX11_divisor_24 := dSn 1 shX11_divisor_23
theorem shX11_divisor_26 : cX11_divisor.data.toList.drop 26 = sxX11_divisor_26 := dSn 2 shX11_divisor_24
theorem shX11_divisor_27 : cX11_divisor.data.toList.drop 27 = sxX11_divisor_27 := dSn 1 shX11_divisor_26
theorem shX11_divisor_30 : cX11_divisor.data.toList.drop 30 = sxX11_divisor_30 := dSn 3 shX11_divisor_27
theorem shX11_divisor_33 : cX11_divisor.data.toList.drop 33 = sxX11_divisor_33 := dSn 3 shX11_divisor_30
theorem shX11_divisor_34 : cX11_divisor.data.toList.drop 34 = sxX11_divisor_34 := dSn 1 shX11_divisor_33
theorem dX11_divisor_0 : decode cX11_divisor 0 = .ok (.iconst 0, 1) := oc_3 shX11_divisor_0
theorem dX11_divisor_1 : decode cX11_divisor 1 = .ok (.istore 4, 2) := oc_54 shX11_divisor_1
theorem dX11_divisor_3 : decode cX11_divisor 3 = .ok (.iload 4, 2) := oc_21 shX11_divisor_3
theorem dX11_divisor_5 : decode cX11_divisor 5 = .ok (.sipush 200, 3) := oc_17 shX11_divisor_5 sgw_0_200
theorem dX11_divisor_8 : decode cX11_divisor 8 = .ok (.if_icmp .ge 25, 3) := oc_162 shX11_divisor_8 sgw_0_25
theorem dX11_divisor_33 : decode cX11_divisor 33 = .ok (.lload_n 0, 1) := oc_30 shX11_divisor_33
theorem dX11_divisor_34 : decode cX11_divisor 34 = .ok (.lreturn, 1) := oc_173 shX11_divisor_34
theorem dX11_divisor_11 : decode cX11_divisor 11 = .ok (.lload_n 2, 1) := oc_32 shX11_divisor_11
theorem dX11_divisor_12 : decode cX11_divisor 12 = .ok (.lconst 0, 1) := oc_9 shX11_divisor_12
theorem dX11_divisor_13 : decode cX11_divisor 13 = .ok (.lcmp, 1) := oc_148 shX11_divisor_13
theorem dX11_divisor_14 : decode cX11_divisor 14 = .ok (.ifCond .eq 19, 3) := oc_153 shX11_divisor_14 sgw_0_19
theorem dX11_divisor_17 : decode cX11_divisor 17 = .ok (.lload_n 0, 1) := oc_30 shX11_divisor_17
theorem dX11_divisor_18 : decode cX11_divisor 18 = .ok (.lload_n 2, 1) := oc_32 shX11_divisor_18
theorem dX11_divisor_19 : decode cX11_divisor 19 = .ok (.lrem, 1) := oc_113 shX11_divisor_19
theorem dX11_divisor_20 : decode cX11_divisor 20 = .ok (.lstore 5, 2) := oc_55 shX11_divisor_20
theorem dX11_divisor_22 : decode cX11_divisor 22 = .ok (.lload_n 2, 1) := oc_32 shX11_divisor_22
theorem dX11_divisor_23 : decode cX11_divisor 23 = .ok (.lstore_n 0, 1) := oc_63 shX11_divisor_23
theorem dX11_divisor_24 : decode cX11_divisor 24 = .ok (.lload 5, 2) := oc_22 shX11_divisor_24
theorem dX11_divisor_26 : decode cX11_divisor 26 = .ok (.lstore_n 2, 1) := oc_65 shX11_divisor_26
theorem dX11_divisor_27 : decode cX11_divisor 27 = .ok (.iinc 4 1, 3) := oc_132 shX11_divisor_27 sgb_1
theorem dX11_divisor_30 : decode cX11_divisor 30 = .ok (.goto (-27), 3) := oc_167 shX11_divisor_30 sgw_255_229
def sxX11_odds_101 : List UInt8 := []
def sxX11_odds_100 : List UInt8 := 173 :: sxX11_odds_101
def sxX11_odds_99 : List UInt8 := 109 :: sxX11_odds_100
def sxX11_odds_97 : List UInt8 := 22 :: 9 :: sxX11_odds_99
def sxX11_odds_95 : List UInt8 := 22 :: 7 :: sxX11_odds_97
def sxX11_odds_92 : List UInt8 := 167 :: 0 :: 8 :: sxX11_odds_95
def sxX11_odds_91 : List UInt8 := 109 :: sxX11_odds_92
def sxX11_odds_89 : List UInt8 := 22 :: 9 :: sxX11_odds_91
def sxX11_odds_87 : List UInt8 := 22 :: 5 :: sxX11_odds_89
def sxX11_odds_84 : List UInt8 := 154 :: 0 :: 11 :: sxX11_odds_87
def sxX11_odds_82 : List UInt8 := 21 :: 4 :: sxX11_odds_84
def sxX11_odds_81 : List UInt8 := 173 :: sxX11_odds_82
def sxX11_odds_78 : List UInt8 := 20 :: 0 :: 254 :: sxX11_odds_81
def sxX11_odds_75 : List UInt8 := 154 :: 0 :: 7 :: sxX11_odds_78
def sxX11_odds_74 : List UInt8 := 148 :: sxX11_odds_75
def sxX11_odds_73 : List UInt8 := 9 :: sxX11_odds_74
def sxX11_odds_71 : List UInt8 := 22 :: 9 :: sxX11_odds_73
def sxX11_odds_69 : List UInt8 := 55 :: 9 :: sxX11_odds_71
def sxX11_odds_66 : List UInt8 := 184 :: 0 :: 250 :: sxX11_odds_69
def sxX11_odds_64 : List UInt8 := 22 :: 7 :: sxX11_odds_66
def sxX11_odds_62 : List UInt8 := 22 :: 5 :: sxX11_odds_64
def sxX11_odds_60 : List UInt8 := 55 :: 7 :: sxX11_odds_62
def sxX11_odds_57 : List UInt8 := 184 :: 0 :: 246 :: sxX11_odds_60
def sxX11_odds_56 : List UInt8 := 27 :: sxX11_odds_57
def sxX11_odds_55 : List UInt8 := 29 :: sxX11_odds_56
def sxX11_odds_52 : List UInt8 := 167 :: 255 :: 219 :: sxX11_odds_55
def sxX11_odds_49 : List UInt8 := 132 :: 7 :: 1 :: sxX11_odds_52
def sxX11_odds_47 : List UInt8 := 55 :: 5 :: sxX11_odds_49
def sxX11_odds_46 : List UInt8 := 97 :: sxX11_odds_47
def sxX11_odds_45 : List UInt8 := 105 :: sxX11_odds_46
def sxX11_odds_42 : List UInt8 := 184 :: 0 :: 246 :: sxX11_odds_45
def sxX11_odds_41 : List UInt8 := 100 :: sxX11_odds_42
def sxX11_odds_39 : List UInt8 := 21 :: 7 :: sxX11_odds_41
def sxX11_odds_38 : List UInt8 := 27 :: sxX11_odds_39
def sxX11_odds_37 : List UInt8 := 100 :: sxX11_odds_38
def sxX11_odds_36 : List UInt8 := 26 :: sxX11_odds_37
def sxX11_odds_35 : List UInt8 := 29 :: sxX11_odds_36
def sxX11_odds_32 : List UInt8 := 184 :: 0 :: 246 :: sxX11_odds_35
def sxX11_odds_30 : List UInt8 := 21 :: 7 :: sxX11_odds_32
def sxX11_odds_29 : List UInt8 := 26 :: sxX11_odds_30
def sxX11_odds_27 : List UInt8 := 22 :: 5 :: sxX11_odds_29
def sxX11_odds_24 : List UInt8 := 163 :: 0 :: 31 :: sxX11_odds_27
def sxX11_odds_23 : List UInt8 := 26 :: sxX11_odds_24
def sxX11_odds_21 : List UInt8 := 21 :: 7 :: sxX11_odds_23
def sxX11_odds_18 : List UInt8 := 163 :: 0 :: 37 :: sxX11_odds_21
def sxX11_odds_17 : List UInt8 := 27 :: sxX11_odds_18
def sxX11_odds_15 : List UInt8 := 21 :: 7 :: sxX11_odds_17
def sxX11_odds_13 : List UInt8 := 54 :: 7 :: sxX11_odds_15
def sxX11_odds_12 : List UInt8 := 28 :: sxX11_odds_13
def sxX11_odds_10 : List UInt8 := 55 :: 5 :: sxX11_odds_12
def sxX11_odds_9 : List UInt8 := 9 :: sxX11_odds_10
def sxX11_odds_8 : List UInt8 := 173 :: sxX11_odds_9
def sxX11_odds_7 : List UInt8 := 133 :: sxX11_odds_8
def sxX11_odds_6 : List UInt8 := 28 :: sxX11_odds_7
def sxX11_odds_3 : List UInt8 := 160 :: 0 :: 6 :: sxX11_odds_6
def sxX11_odds_2 : List UInt8 := 5 :: sxX11_odds_3
def sxX11_odds_0 : List UInt8 := 21 :: 4 :: sxX11_odds_2
theorem shX11_odds_0 : cX11_odds.data.toList.drop 0 = sxX11_odds_0 := rfl
theorem shX11_odds_2 : cX11_odds.data.toList.drop 2 = sxX11_odds_2 := dSn 2 shX11_odds_0
theorem shX11_odds_3 : cX11_odds.data.toList.drop 3 = sxX11_odds_3 := dSn 1 shX11_odds_2
theorem shX11_odds_6 : cX11_odds.data.toList.drop 6 = sxX11_odds_6 := dSn 3 shX11_odds_3
theorem shX11_odds_7 : cX11_odds.data.toList.drop 7 = sxX11_odds_7 := dSn 1 shX11_odds_6
theorem shX11_odds_8 : cX11_odds.data.toList.drop 8 = sxX11_odds_8 := dSn 1 shX11_odds_7
theorem shX11_odds_9 : cX11_odds.data.toList.drop 9 = sxX11_odds_9 := dSn 1 shX11_odds_8
theorem shX11_odds_10 : cX11_odds.data.toList.drop 10 = sxX11_odds_10 := dSn 1 shX11_odds_9
theorem shX11_odds_12 : cX11_odds.data.toList.drop 12 = sxX11_odds_12 := dSn 2 shX11_odds_10
theorem shX11_odds_13 : cX11_odds.data.toList.drop 13 = sxX11_odds_13 := dSn 1 shX11_odds_12
theorem shX11_odds_15 : cX11_odds.data.toList.drop 15 = sxX11_odds_15 := dSn 2 shX11_odds_13
theorem shX11_odds_17 : cX11_odds.data.toList.drop 17 = sxX11_odds_17 := dSn 2 shX11_odds_15
theorem shX11_odds_18 : cX11_odds.data.toList.drop 18 = sxX11_odds_18 := dSn 1 shX11_odds_17
theorem shX11_odds_21 : cX11_odds.data.toList.drop 21 = sxX11_odds_21 := dSn 3 shX11_odds_18
theorem shX11_odds_23 : cX11_odds.data.toList.drop 23 = sxX11_odds_23 := dSn 2 shX11_odds_21
theorem shX11_odds_24 : cX11_odds.data.toList.drop 24 = sxX11_odds_24 := dSn 1 shX11_odds_23
theorem shX11_odds_27 : cX11_odds.data.toList.drop 27 = sxX11_odds_27 := dSn 3 shX11_odds_24
theorem shX11_odds_29 : cX11_odds.data.toList.drop 29 = sxX11_odds_29 := dSn 2 shX11_odds_27
theorem shX11_odds_30 : cX11_odds.data.toList.drop 30 = sxX11_odds_30 := dSn 1 shX11_odds_29
theorem shX11_odds_32 : cX11_odds.data.toList.drop 32 = sxX11_odds_32 := dSn 2 shX11_odds_30
theorem shX11_odds_35 : cX11_odds.data.toList.drop 35 = sxX11_odds_35 := dSn 3 shX11_odds_32
theorem shX11_odds_36 : cX11_odds.data.toList.drop 36 = sxX11_odds_36 := dSn 1 shX11_odds_35
theorem shX11_odds_37 : cX11_odds.data.toList.drop 37 = sxX11_odds_37 := dSn 1 shX11_odds_36
theorem shX11_odds_38 : cX11_odds.data.toList.drop 38 = sxX11_odds_38 := dSn 1 shX11_odds_37
theorem shX11_odds_39 : cX11_odds.data.toList.drop 39 = sxX11_odds_39 := dSn 1 shX11_odds_38
theorem shX11_odds_41 : cX11_odds.data.toList.drop 41 = sxX11_odds_41 := dSn 2 shX11_odds_39
theorem shX11_odds_42 : cX11_odds.data.toList.drop 42 = sxX11_odds_42 := dSn 1 shX11_odds_41
theorem shX11_odds_45 : cX11_odds.data.toList.drop 45 = sxX11_odds_45 := dSn 3 shX11_odds_42
theorem shX11_odds_46 : cX11_odds.data.toList.drop 46 = sxX11_odds_46 := dSn 1 shX11_odds_45
theorem shX11_odds_47 : cX11_odds.data.toList.drop 47 = sxX11_odds_47 := dSn 1 shX11_odds_46
theorem shX11_odds_49 : cX11_odds.data.toList.drop 49 = sxX11_odds_49 := dSn 2 shX11_odds_47
theorem shX11_odds_52 : cX11_odds.data.toList.drop 52 = sxX11_odds_52 := dSn 3 shX11_odds_49
theorem shX11_odds_55 : cX11_odds.data.toList.drop 55 = sxX11_odds_55 := dSn 3 shX11_odds_52
theorem shX11_odds_56 : cX11_odds.data.toList.drop 56 = sxX11_odds_56 := dSn 1 shX11_odds_55
theorem shX11_odds_57 : cX11_odds.data.toList.drop 57 = sxX11_odds_57 := dSn 1 shX11_odds_56
theorem shX11_odds_60 : cX11_odds.data.toList.drop 60 = sxX11_odds_60 := dSn 3 shX11_odds_57
theorem shX11_odds_62 : cX11_odds.data.toList.drop 62 = sxX11_odds_62 := dSn 2 shX11_odds_60
theorem shX11_odds_64 : cX11_odds.data.toList.drop 64 = sxX11_odds_64 := dSn 2 shX11_odds_62
theorem shX11_odds_66 : cX11_odds.data.toList.drop 66 = sxX11_odds_66 := dSn 2 shX11_odds_64
theorem shX11_odds_69 : cX11_odds.data.toList.drop 69 = sxX11_odds_69 := dSn 3 shX11_odds_66
theorem shX11_odds_71 : cX11_odds.data.toList.drop 71 = sxX11_odds_71 := dSn 2 shX11_odds_69
theorem shX11_odds_73 : cX11_odds.data.toList.drop 73 = sxX11_odds_73 := dSn 2 shX11_odds_71
theorem shX11_odds_74 : cX11_odds.data.toList.drop 74 = sxX11_odds_74 := dSn 1 shX11_odds_73
theorem shX11_odds_75 : cX11_odds.data.toList.drop 75 = sxX11_odds_75 := dSn 1 shX11_odds_74
theorem shX11_odds_78 : cX11_odds.data.toList.drop 78 = sxX11_odds_78 := dSn 3 shX11_odds_75
theorem shX11_odds_81 : cX11_odds.data.toList.drop 81 = sxX11_odds_81 := dSn 3 shX11_odds_78
theorem shX11_odds_82 : cX11_odds.data.toList.drop 82 = sxX11_odds_82 := dSn 1 shX11_odds_81
theorem shX11_odds_84 : cX11_odds.data.toList.drop 84 = sxX11_odds_84 := dSn 2 shX11_odds_82
theorem shX11_odds_87 : cX11_odds.data.toList.drop 87 = sxX11_odds_87 := dSn 3 shX11_odds_84
theorem shX11_odds_89 : cX11_odds.data.toList.drop 89 = sxX11_odds_89 := dSn 2 shX11_odds_87
theorem shX11_odds_91 : cX11_odds.data.toList.drop 91 = sxX11_odds_91 := dSn 2 shX11_odds_89
theorem shX11_odds_92 : cX11_odds.data.toList.drop 92 = sxX11_odds_92 := dSn 1 shX11_odds_91
theorem shX11_odds_95 : cX11_odds.data.toList.drop 95 = sxX11_odds_95 := dSn 3 shX11_odds_92
theorem shX11_odds_97 : cX11_odds.data.toList.drop 97 = sxX11_odds_97 := dSn 2 shX11_odds_95
theorem shX11_odds_99 : cX11_odds.data.toList.drop 99 = sxX11_odds_99 := dSn 2 shX11_odds_97
theorem shX11_odds_100 : cX11_odds.data.toList.drop 100 = sxX11_odds_100 := dSn 1 shX11_odds_99
theorem dX11_odds_0 : decode cX11_odds 0 = .ok (.iload 4, 2) := oc_21 shX11_odds_0
theorem dX11_odds_2 : decode cX11_odds 2 = .ok (.iconst 2, 1) := oc_5 shX11_odds_2
theorem dX11_odds_3 : decode cX11_odds 3 = .ok (.if_icmp .ne 6, 3) := oc_160 shX11_odds_3 sgw_0_6
theorem dX11_odds_9 : decode cX11_odds 9 = .ok (.lconst 0, 1) := oc_9 shX11_odds_9
theorem dX11_odds_10 : decode cX11_odds 10 = .ok (.lstore 5, 2) := oc_55 shX11_odds_10
theorem dX11_odds_12 : decode cX11_odds 12 = .ok (.iload_n 2, 1) := oc_28 shX11_odds_12
theorem dX11_odds_13 : decode cX11_odds 13 = .ok (.istore 7, 2) := oc_54 shX11_odds_13
theorem dX11_odds_15 : decode cX11_odds 15 = .ok (.iload 7, 2) := oc_21 shX11_odds_15
theorem dX11_odds_17 : decode cX11_odds 17 = .ok (.iload_n 1, 1) := oc_27 shX11_odds_17
theorem dX11_odds_18 : decode cX11_odds 18 = .ok (.if_icmp .gt 37, 3) := oc_163 shX11_odds_18 sgw_0_37
theorem dX11_odds_55 : decode cX11_odds 55 = .ok (.iload_n 3, 1) := oc_29 shX11_odds_55
theorem dX11_odds_56 : decode cX11_odds 56 = .ok (.iload_n 1, 1) := oc_27 shX11_odds_56
theorem dX11_odds_57 : decode cX11_odds 57 = .ok (.invokestatic 246, 3) := oc_184 shX11_odds_57
theorem dX11_odds_60 : decode cX11_odds 60 = .ok (.lstore 7, 2) := oc_55 shX11_odds_60
theorem dX11_odds_62 : decode cX11_odds 62 = .ok (.lload 5, 2) := oc_22 shX11_odds_62
theorem dX11_odds_64 : decode cX11_odds 64 = .ok (.lload 7, 2) := oc_22 shX11_odds_64
theorem dX11_odds_66 : decode cX11_odds 66 = .ok (.invokestatic 250, 3) := oc_184 shX11_odds_66
theorem dX11_odds_69 : decode cX11_odds 69 = .ok (.lstore 9, 2) := oc_55 shX11_odds_69
theorem dX11_odds_71 : decode cX11_odds 71 = .ok (.lload 9, 2) := oc_22 shX11_odds_71
theorem dX11_odds_73 : decode cX11_odds 73 = .ok (.lconst 0, 1) := oc_9 shX11_odds_73
theorem dX11_odds_74 : decode cX11_odds 74 = .ok (.lcmp, 1) := oc_148 shX11_odds_74
theorem dX11_odds_75 : decode cX11_odds 75 = .ok (.ifCond .ne 7, 3) := oc_154 shX11_odds_75 sgw_0_7
theorem dX11_odds_82 : decode cX11_odds 82 = .ok (.iload 4, 2) := oc_21 shX11_odds_82
theorem dX11_odds_84 : decode cX11_odds 84 = .ok (.ifCond .ne 11, 3) := oc_154 shX11_odds_84 sgw_0_11
theorem dX11_odds_95 : decode cX11_odds 95 = .ok (.lload 7, 2) := oc_22 shX11_odds_95
theorem dX11_odds_97 : decode cX11_odds 97 = .ok (.lload 9, 2) := oc_22 shX11_odds_97
theorem dX11_odds_99 : decode cX11_odds 99 = .ok (.ldiv, 1) := oc_109 shX11_odds_99
theorem dX11_odds_100 : decode cX11_odds 100 = .ok (.lreturn, 1) := oc_173 shX11_odds_100
theorem dX11_odds_87 : decode cX11_odds 87 = .ok (.lload 5, 2) := oc_22 shX11_odds_87
theorem dX11_odds_89 : decode cX11_odds 89 = .ok (.lload 9, 2) := oc_22 shX11_odds_89
theorem dX11_odds_91 : decode cX11_odds 91 = .ok (.ldiv, 1) := oc_109 shX11_odds_91
theorem dX11_odds_92 : decode cX11_odds 92 = .ok (.goto 8, 3) := oc_167 shX11_odds_92 sgw_0_8
theorem dX11_odds_78 : decode cX11_odds 78 = .ok (.ldc2_w 254, 3) := oc_20 shX11_odds_78
theorem dX11_odds_81 : decode cX11_odds 81 = .ok (.lreturn, 1) := oc_173 shX11_odds_81
theorem dX11_odds_21 : decode cX11_odds 21 = .ok (.iload 7, 2) := oc_21 shX11_odds_21
theorem dX11_odds_23 : decode cX11_odds 23 = .ok (.iload_n 0, 1) := oc_26 shX11_odds_23
theorem dX11_odds_24 : decode cX11_odds 24 = .ok (.if_icmp .gt 31, 3) := oc_163 shX11_odds_24 sgw_0_31
theorem dX11_odds_27 : decode cX11_odds 27 = .ok (.lload 5, 2) := oc_22 shX11_odds_27
theorem dX11_odds_29 : decode cX11_odds 29 = .ok (.iload_n 0, 1) := oc_26 shX11_odds_29
theorem dX11_odds_30 : decode cX11_odds 30 = .ok (.iload 7, 2) := oc_21 shX11_odds_30
theorem dX11_odds_32 : decode cX11_odds 32 = .ok (.invokestatic 246, 3) := oc_184 shX11_odds_32
theorem dX11_odds_35 : decode cX11_odds 35 = .ok (.iload_n 3, 1) := oc_29 shX11_odds_35
theorem dX11_odds_36 : decode cX11_odds 36 = .ok (.iload_n 0, 1) := oc_26 shX11_odds_36
theorem dX11_odds_37 : decode cX11_odds 37 = .ok (.isub, 1) := oc_100 shX11_odds_37
theorem dX11_odds_38 : decode cX11_odds 38 = .ok (.iload_n 1, 1) := oc_27 shX11_odds_38
theorem dX11_odds_39 : decode cX11_odds 39 = .ok (.iload 7, 2) := oc_21 shX11_odds_39
theorem dX11_odds_41 : decode cX11_odds 41 = .ok (.isub, 1) := oc_100 shX11_odds_41
theorem dX11_odds_42 : decode cX11_odds 42 = .ok (.invokestatic 246, 3) := oc_184 shX11_odds_42
theorem dX11_odds_45 : decode cX11_odds 45 = .ok (.lmul, 1) := oc_105 shX11_odds_45
theorem dX11_odds_46 : decode cX11_odds 46 = .ok (.ladd, 1) := oc_97 shX11_odds_46
theorem dX11_odds_47 : decode cX11_odds 47 = .ok (.lstore 5, 2) := oc_55 shX11_odds_47
theorem dX11_odds_49 : decode cX11_odds 49 = .ok (.iinc 7 1, 3) := oc_132 shX11_odds_49 sgb_1
theorem dX11_odds_52 : decode cX11_odds 52 = .ok (.goto (-37), 3) := oc_167 shX11_odds_52 sgw_255_219
theorem dX11_odds_6 : decode cX11_odds 6 = .ok (.iload_n 2, 1) := oc_28 shX11_odds_6
theorem dX11_odds_7 : decode cX11_odds 7 = .ok (.i2l, 1) := oc_133 shX11_odds_7
