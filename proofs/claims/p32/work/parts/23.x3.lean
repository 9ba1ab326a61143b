theorem minNI {a b : Nat} (ha : a < 2 ^ 31) (hb : b < 2 ^ 31) : (if nI b < nI a then nI b else nI a) = nI (min a b) := by
  by_cases q : b < a
  · rw [if_pos (nI_lt q ha), Nat.min_eq_right (by omega)]
  · rw [if_neg (nI_nlt (by omega) hb), Nat.min_eq_left (by omega)]

set_option maxRecDepth 100000 in
theorem kS_RX11_246 : CalS RX11 246 yX11_choose cX11_choose 6 (some .long) 2 := ⟨⟨wk4_5 5 rfl rfl, wk4_5 6 rfl rfl, wk1_0 1 rfl rfl, wk4_5 7 rfl rfl⟩, ⟨nmh_0.1, nmh_0.2, pd_18⟩⟩
set_option maxRecDepth 100000 in
theorem kS_RX11_250 : CalS RX11 250 yX11_divisor cX11_divisor 7 (some .long) 2 := ⟨⟨wk4_5 8 rfl rfl, wk4_5 9 rfl rfl, wk1_0 1 rfl rfl, wk4_5 10 rfl rfl⟩, ⟨nmh_0.1, nmh_0.2, pd_45⟩⟩
set_option maxRecDepth 100000 in
theorem kS_RX11_256 : CalS RX11 256 yX11_odds cX11_odds 11 (some .long) 5 := ⟨⟨wk4_5 2 rfl rfl, wk4_5 3 rfl rfl, wk1_0 1 rfl rfl, wk4_5 4 rfl rfl⟩, ⟨nmh_0.1, nmh_0.2, pd_31⟩⟩
set_option maxRecDepth 100000 in
theorem gf_RX11_196 {p : Program} {l : Launch} {e : Env} {R : Room} {s : State} {m : MethodId} {args : Array Value} {below : List Frame} {meth : Method} {c : Code} {H : Heap} {locs : List Loc} {cells slots : Nat} {Q : State → Prop} {cc : ByteArray} {nL pc : Nat} {D : va_G} {cI cB cZ : ClassId} {ws : va_W} {rest : List Value} {ls : Array Slot} {a : Nat} {fs : List Value} {v : Value} (S : SF p m c cc nL s args RX11) (hK : KK D cI cB cZ s) (hP : va_P D vwCl ws H) (q0 : Nat) (he : ws[q0]? = some (a, .inr (3, fs))) (hv : fs[1]? = some v) (hdg : decode cc pc = .ok (.getfield 196, 3)) (kk : W p l e R s m args below meth c H locs cells slots Q (F0 m (pc + 3) ls (v :: rest))) : W p l e R s m args below meth c H locs cells slots Q (F0 m pc ls (.ref a :: rest)) :=
  va_get (C := RX2) (T := TX2) (N := 10) S.1 S.2.1 S.2.2.2.2 hin_RX2 S.2.2.2.1 hK.1 hP q0 he rfl 1 (by decide) (S.2.2.2.2 _ (wk2_17 9 rfl rfl)) (fun _ h9 => h9) hv hdg kk
set_option maxRecDepth 100000 in
theorem gf_RX11_211 {p : Program} {l : Launch} {e : Env} {R : Room} {s : State} {m : MethodId} {args : Array Value} {below : List Frame} {meth : Method} {c : Code} {H : Heap} {locs : List Loc} {cells slots : Nat} {Q : State → Prop} {cc : ByteArray} {nL pc : Nat} {D : va_G} {cI cB cZ : ClassId} {ws : va_W} {rest : List Value} {ls : Array Slot} {a : Nat} {fs : List Value} {v : Value} (S : SF p m c cc nL s args RX11) (hK : KK D cI cB cZ s) (hP : va_P D vwCl ws H) (q0 : Nat) (he : ws[q0]? = some (a, .inr (3, fs))) (hv : fs[0]? = some v) (hdg : decode cc pc = .ok (.getfield 211, 3)) (kk : W p l e R s m args below meth c H locs cells slots Q (F0 m (pc + 3) ls (v :: rest))) : W p l e R s m args below meth c H locs cells slots Q (F0 m pc ls (.ref a :: rest)) :=
  va_get (C := RX2) (T := TX2) (N := 10) S.1 S.2.1 S.2.2.2.2 hin_RX2 S.2.2.2.1 hK.1 hP q0 he rfl 0 (by decide) (S.2.2.2.2 _ (wk2_17 7 rfl rfl)) (fun _ h9 => h9) hv hdg kk
set_option maxRecDepth 100000 in
theorem gf_RX11_260 {p : Program} {l : Launch} {e : Env} {R : Room} {s : State} {m : MethodId} {args : Array Value} {below : List Frame} {meth : Method} {c : Code} {H : Heap} {locs : List Loc} {cells slots : Nat} {Q : State → Prop} {cc : ByteArray} {nL pc : Nat} {D : va_G} {cI cB cZ : ClassId} {ws : va_W} {rest : List Value} {ls : Array Slot} {a : Nat} {fs : List Value} {v : Value} (S : SF p m c cc nL s args RX11) (hK : KK D cI cB cZ s) (hP : va_P D vwCl ws H) (q0 : Nat) (he : ws[q0]? = some (a, .inr (2, fs))) (hv : fs[9]? = some v) (hdg : decode cc pc = .ok (.getfield 260, 3)) (kk : W p l e R s m args below meth c H locs cells slots Q (F0 m (pc + 3) ls (v :: rest))) : W p l e R s m args below meth c H locs cells slots Q (F0 m pc ls (.ref a :: rest)) :=
  va_get (C := RX1) (T := TX1) (N := 11) S.1 S.2.1 S.2.2.2.2 hin_RX1 S.2.2.2.1 hK.1 hP q0 he rfl 9 (by decide) (S.2.2.2.2 _ (wk2_7 4 rfl rfl)) (fun _ h9 => h9) hv hdg kk
set_option maxRecDepth 100000 in
theorem gf_RX11_205 {p : Program} {l : Launch} {e : Env} {R : Room} {s : State} {m : MethodId} {args : Array Value} {below : List Frame} {meth : Method} {c : Code} {H : Heap} {locs : List Loc} {cells slots : Nat} {Q : State → Prop} {cc : ByteArray} {nL pc : Nat} {D : va_G} {cI cB cZ : ClassId} {ws : va_W} {rest : List Value} {ls : Array Slot} {a : Nat} {fs : List Value} {v : Value} (S : SF p m c cc nL s args RX11) (hK : KK D cI cB cZ s) (hP : va_P D vwCl ws H) (q0 : Nat) (he : ws[q0]? = some (a, .inr (3, fs))) (hv : fs[3]? = some v) (hdg : decode cc pc = .ok (.getfield 205, 3)) (kk : W p l e R s m args below meth c H locs cells slots Q (F0 m (pc + 3) ls (v :: rest))) : W p l e R s m args below meth c H locs cells slots Q (F0 m pc ls (.ref a :: rest)) :=
  va_get (C := RX2) (T := TX2) (N := 10) S.1 S.2.1 S.2.2.2.2 hin_RX2 S.2.2.2.1 hK.1 hP q0 he rfl 3 (by decide) (S.2.2.2.2 _ (wk2_18 3 rfl rfl)) (fun _ h9 => h9) hv hdg kk
set_option maxRecDepth 100000 in
theorem kV_RX11_456 : CalV RX11 456 yX1_comesFor cX1_comesFor 2 (some .boolean) 1 := ⟨⟨wk5_15 0 rfl rfl, wk5_15 1 rfl rfl, wk5_15 2 rfl rfl, wk1_1 2 rfl rfl, wk5_15 3 rfl rfl⟩, ⟨nmh_2.1, nmh_2.2, pd_15⟩⟩
set_option maxRecDepth 100000 in
theorem gf_RX11_459 {p : Program} {l : Launch} {e : Env} {R : Room} {s : State} {m : MethodId} {args : Array Value} {below : List Frame} {meth : Method} {c : Code} {H : Heap} {locs : List Loc} {cells slots : Nat} {Q : State → Prop} {cc : ByteArray} {nL pc : Nat} {D : va_G} {cI cB cZ : ClassId} {ws : va_W} {rest : List Value} {ls : Array Slot} {a : Nat} {fs : List Value} {v : Value} (S : SF p m c cc nL s args RX11) (hK : KK D cI cB cZ s) (hP : va_P D vwCl ws H) (q0 : Nat) (he : ws[q0]? = some (a, .inr (2, fs))) (hv : fs[2]? = some v) (hdg : decode cc pc = .ok (.getfield 459, 3)) (kk : W p l e R s m args below meth c H locs cells slots Q (F0 m (pc + 3) ls (v :: rest))) : W p l e R s m args below meth c H locs cells slots Q (F0 m pc ls (.ref a :: rest)) :=
  va_get (C := RX1) (T := TX1) (N := 11) S.1 S.2.1 S.2.2.2.2 hin_RX1 S.2.2.2.1 hK.1 hP q0 he rfl 2 (by decide) (S.2.2.2.2 _ (wk2_6 6 rfl rfl)) (fun _ h9 => h9) hv hdg kk
set_option maxRecDepth 100000 in
theorem kV_RX11_460 : CalV RX11 460 yX11_worthOf cX11_worthOf 6 (some .int) 2 := ⟨⟨wk5_14 8 rfl rfl, wk5_14 10 rfl rfl, wT_sel 56 _ rfl rfl rfl, wk1_0 1 rfl rfl, wk5_14 11 rfl rfl⟩, ⟨nmh_0.1, nmh_0.2, pd_17⟩⟩
set_option maxRecDepth 100000 in
theorem kV_RX11_464 : CalV RX11 464 yX11_comers cX11_comers 4 (some .int) 1 := ⟨⟨wk5_15 9 rfl rfl, wk5_15 11 rfl rfl, wT_sel 57 _ rfl rfl rfl, wk1_0 1 rfl rfl, wk5_16 0 rfl rfl⟩, ⟨nmh_0.1, nmh_0.2, pd_8⟩⟩
set_option maxRecDepth 100000 in
theorem gf_RX11_74 {p : Program} {l : Launch} {e : Env} {R : Room} {s : State} {m : MethodId} {args : Array Value} {below : List Frame} {meth : Method} {c : Code} {H : Heap} {locs : List Loc} {cells slots : Nat} {Q : State → Prop} {cc : ByteArray} {nL pc : Nat} {D : va_G} {cI cB cZ : ClassId} {ws : va_W} {rest : List Value} {ls : Array Slot} {a : Nat} {fs : List Value} {v : Value} (S : SF p m c cc nL s args RX11) (hK : KK D cI cB cZ s) (hP : va_P D vwCl ws H) (q0 : Nat) (he : ws[q0]? = some (a, .inr (12, fs))) (hv : fs[14]? = some v) (hdg : decode cc pc = .ok (.getfield 74, 3)) (kk : W p l e R s m args below meth c H locs cells slots Q (F0 m (pc + 3) ls (v :: rest))) : W p l e R s m args below meth c H locs cells slots Q (F0 m pc ls (.ref a :: rest)) :=
  va_get (C := RX11) (T := TX11) (N := 16) S.1 S.2.1 S.2.2.2.2 hin_RX11 S.2.2.2.1 hK.1 hP q0 he rfl 14 (by decide) (S.2.2.2.2 _ (wk2_0 10 rfl rfl)) (fun _ h9 => h9) hv hdg kk
set_option maxRecDepth 100000 in
theorem hin_RX6 : ∀ w ∈ u_ws RX6 TX6 3, w ∈ wT := hin_all (C := RX6) (T := TX6) (n := 3) (hin_s (hin_s (hin_s (fun k hk => absurd hk (Nat.not_lt_zero k)) (wk5_18 4 rfl rfl)) (wk5_18 6 rfl rfl)) (wk5_18 8 rfl rfl))
set_option maxRecDepth 100000 in
theorem gf_RX11_477 {p : Program} {l : Launch} {e : Env} {R : Room} {s : State} {m : MethodId} {args : Array Value} {below : List Frame} {meth : Method} {c : Code} {H : Heap} {locs : List Loc} {cells slots : Nat} {Q : State → Prop} {cc : ByteArray} {nL pc : Nat} {D : va_G} {cI cB cZ : ClassId} {ws : va_W} {rest : List Value} {ls : Array Slot} {a : Nat} {fs : List Value} {v : Value} (S : SF p m c cc nL s args RX11) (hK : KK D cI cB cZ s) (hP : va_P D vwCl ws H) (q0 : Nat) (he : ws[q0]? = some (a, .inr (7, fs))) (hv : fs[2]? = some v) (hdg : decode cc pc = .ok (.getfield 477, 3)) (kk : W p l e R s m args below meth c H locs cells slots Q (F0 m (pc + 3) ls (v :: rest))) : W p l e R s m args below meth c H locs cells slots Q (F0 m pc ls (.ref a :: rest)) :=
  va_get (C := RX6) (T := TX6) (N := 3) S.1 S.2.1 S.2.2.2.2 hin_RX6 S.2.2.2.1 hK.1 hP q0 he rfl 2 (by decide) (S.2.2.2.2 _ (wk5_18 3 rfl rfl)) (fun _ h9 => h9) hv hdg kk
set_option maxRecDepth 100000 in
theorem gf_RX11_480 {p : Program} {l : Launch} {e : Env} {R : Room} {s : State} {m : MethodId} {args : Array Value} {below : List Frame} {meth : Method} {c : Code} {H : Heap} {locs : List Loc} {cells slots : Nat} {Q : State → Prop} {cc : ByteArray} {nL pc : Nat} {D : va_G} {cI cB cZ : ClassId} {ws : va_W} {rest : List Value} {ls : Array Slot} {a : Nat} {fs : List Value} {v : Value} (S : SF p m c cc nL s args RX11) (hK : KK D cI cB cZ s) (hP : va_P D vwCl ws H) (q0 : Nat) (he : ws[q0]? = some (a, .inr (7, fs))) (hv : fs[0]? = some v) (hdg : decode cc pc = .ok (.getfield 480, 3)) (kk : W p l e R s m args below meth c H locs cells slots Q (F0 m (pc + 3) ls (v :: rest))) : W p l e R s m args below meth c H locs cells slots Q (F0 m pc ls (.ref a :: rest)) :=
  va_get (C := RX6) (T := TX6) (N := 3) S.1 S.2.1 S.2.2.2.2 hin_RX6 S.2.2.2.1 hK.1 hP q0 he rfl 0 (by decide) (S.2.2.2.2 _ (wk5_18 0 rfl rfl)) (fun _ h9 => h9) hv hdg kk
set_option maxRecDepth 100000 in
theorem gf_RX11_481 {p : Program} {l : Launch} {e : Env} {R : Room} {s : State} {m : MethodId} {args : Array Value} {below : List Frame} {meth : Method} {c : Code} {H : Heap} {locs : List Loc} {cells slots : Nat} {Q : State → Prop} {cc : ByteArray} {nL pc : Nat} {D : va_G} {cI cB cZ : ClassId} {ws : va_W} {rest : List Value} {ls : Array Slot} {a : Nat} {fs : List Value} {v : Value} (S : SF p m c cc nL s args RX11) (hK : KK D cI cB cZ s) (hP : va_P D vwCl ws H) (q0 : Nat) (he : ws[q0]? = some (a, .inr (7, fs))) (hv : fs[1]? = some v) (hdg : decode cc pc = .ok (.getfield 481, 3)) (kk : W p l e R s m args below meth c H locs cells slots Q (F0 m (pc + 3) ls (v :: rest))) : W p l e R s m args below meth c H locs cells slots Q (F0 m pc ls (.ref a :: rest)) :=
  va_get (C := RX6) (T := TX6) (N := 3) S.1 S.2.1 S.2.2.2.2 hin_RX6 S.2.2.2.1 hK.1 hP q0 he rfl 1 (by decide) (S.2.2.2.2 _ (wk5_18 2 rfl rfl)) (fun _ h9 => h9) hv hdg kk
set_option maxRecDepth 100000 in
theorem kV_RX11_482 : CalV RX11 482 yX11_isBeside cX11_isBeside 6 (some .boolean) 3 := ⟨⟨wk5_19 7 rfl rfl, wk5_19 9 rfl rfl, wT_sel 59 _ rfl rfl rfl, wk1_0 1 rfl rfl, wk5_19 10 rfl rfl⟩, ⟨nmh_0.1, nmh_0.2, pd_50⟩⟩
set_option maxRecDepth 100000 in
theorem gf_RX2_16 {p : Program} {l : Launch} {e : Env} {R : Room} {s : State} {m : MethodId} {args : Array Value} {below : List Frame} {meth : Method} {c : Code} {H : Heap} {locs : List Loc} {cells slots : Nat} {Q : State → Prop} {cc : ByteArray} {nL pc : Nat} {D : va_G} {cI cB cZ : ClassId} {ws : va_W} {rest : List Value} {ls : Array Slot} {a : Nat} {fs : List Value} {v : Value} (S : SF p m c cc nL s args RX2) (hK : KK D cI cB cZ s) (hP : va_P D vwCl ws H) (q0 : Nat) (he : ws[q0]? = some (a, .inr (3, fs))) (hv : fs[2]? = some v) (hdg : decode cc pc = .ok (.getfield 16, 3)) (kk : W p l e R s m args below meth c H locs cells slots Q (F0 m (pc + 3) ls (v :: rest))) : W p l e R s m args below meth c H locs cells slots Q (F0 m pc ls (.ref a :: rest)) :=
  va_get (C := RX2) (T := TX2) (N := 10) S.1 S.2.1 S.2.2.2.2 hin_RX2 S.2.2.2.1 hK.1 hP q0 he rfl 2 (by decide) (S.2.2.2.2 _ (wk2_17 10 rfl rfl)) (fun _ h9 => h9) hv hdg kk
set_option maxRecDepth 100000 in
theorem gf_RX11_128 {p : Program} {l : Launch} {e : Env} {R : Room} {s : State} {m : MethodId} {args : Array Value} {below : List Frame} {meth : Method} {c : Code} {H : Heap} {locs : List Loc} {cells slots : Nat} {Q : State → Prop} {cc : ByteArray} {nL pc : Nat} {D : va_G} {cI cB cZ : ClassId} {ws : va_W} {rest : List Value} {ls : Array Slot} {a : Nat} {fs : List Value} {v : Value} (S : SF p m c cc nL s args RX11) (hK : KK D cI cB cZ s) (hP : va_P D vwCl ws H) (q0 : Nat) (he : ws[q0]? = some (a, .inr (3, fs))) (hv : fs[6]? = some v) (hdg : decode cc pc = .ok (.getfield 128, 3)) (kk : W p l e R s m args below meth c H locs cells slots Q (F0 m (pc + 3) ls (v :: rest))) : W p l e R s m args below meth c H locs cells slots Q (F0 m pc ls (.ref a :: rest)) :=
  va_get (C := RX2) (T := TX2) (N := 10) S.1 S.2.1 S.2.2.2.2 hin_RX2 S.2.2.2.1 hK.1 hP q0 he rfl 6 (by decide) (S.2.2.2.2 _ (wk2_18 9 rfl rfl)) (fun _ h9 => h9) hv hdg kk
set_option maxRecDepth 100000 in
theorem gf_RX11_495 {p : Program} {l : Launch} {e : Env} {R : Room} {s : State} {m : MethodId} {args : Array Value} {below : List Frame} {meth : Method} {c : Code} {H : Heap} {locs : List Loc} {cells slots : Nat} {Q : State → Prop} {cc : ByteArray} {nL pc : Nat} {D : va_G} {cI cB cZ : ClassId} {ws : va_W} {rest : List Value} {ls : Array Slot} {a : Nat} {fs : List Value} {v : Value} (S : SF p m c cc nL s args RX11) (hK : KK D cI cB cZ s) (hP : va_P D vwCl ws H) (q0 : Nat) (he : ws[q0]? = some (a, .inr (2, fs))) (hv : fs[3]? = some v) (hdg : decode cc pc = .ok (.getfield 495, 3)) (kk : W p l e R s m args below meth c H locs cells slots Q (F0 m (pc + 3) ls (v :: rest))) : W p l e R s m args below meth c H locs cells slots Q (F0 m pc ls (.ref a :: rest)) :=
  va_get (C := RX1) (T := TX1) (N := 11) S.1 S.2.1 S.2.2.2.2 hin_RX1 S.2.2.2.1 hK.1 hP q0 he rfl 3 (by decide) (S.2.2.2.2 _ (wk2_6 8 rfl rfl)) (fun _ h9 => h9) hv hdg kk
set_option maxRecDepth 100000 in
theorem kV_RX11_498 : CalV RX11 498 yX11_feastedFill cX11_feastedFill 5 (some .int) 2 := ⟨⟨wk6_1 11 rfl rfl, wk6_2 1 rfl rfl, wT_sel 61 _ rfl rfl rfl, wk1_0 1 rfl rfl, wk6_2 2 rfl rfl⟩, ⟨nmh_0.1, nmh_0.2, pd_54⟩⟩
set_option maxRecDepth 100000 in
theorem kV_RX11_137 : CalV RX11 137 yX2_shortOf cX2_shortOf 2 (some .int) 1 := ⟨⟨wk3_0 10 rfl rfl, wk3_0 11 rfl rfl, wk3_1 0 rfl rfl, wk1_1 7 rfl rfl, wk3_1 1 rfl rfl⟩, ⟨nmh_3.1, nmh_3.2, pd_8⟩⟩
set_option maxRecDepth 100000 in
theorem gf_RX11_77 {p : Program} {l : Launch} {e : Env} {R : Room} {s : State} {m : MethodId} {args : Array Value} {below : List Frame} {meth : Method} {c : Code} {H : Heap} {locs : List Loc} {cells slots : Nat} {Q : State → Prop} {cc : ByteArray} {nL pc : Nat} {D : va_G} {cI cB cZ : ClassId} {ws : va_W} {rest : List Value} {ls : Array Slot} {a : Nat} {fs : List Value} {v : Value} (S : SF p m c cc nL s args RX11) (hK : KK D cI cB cZ s) (hP : va_P D vwCl ws H) (q0 : Nat) (he : ws[q0]? = some (a, .inr (12, fs))) (hv : fs[15]? = some v) (hdg : decode cc pc = .ok (.getfield 77, 3)) (kk : W p l e R s m args below meth c H locs cells slots Q (F0 m (pc + 3) ls (v :: rest))) : W p l e R s m args below meth c H locs cells slots Q (F0 m pc ls (.ref a :: rest)) :=
  va_get (C := RX11) (T := TX11) (N := 16) S.1 S.2.1 S.2.2.2.2 hin_RX11 S.2.2.2.1 hK.1 hP q0 he rfl 15 (by decide) (S.2.2.2.2 _ (wk2_0 11 rfl rfl)) (fun _ h9 => h9) hv hdg kk
set_option maxRecDepth 100000 in
theorem hin_RX3 : ∀ w ∈ u_ws RX3 TX3 3, w ∈ wT := hin_all (C := RX3) (T := TX3) (n := 3) (hin_s (hin_s (hin_s (fun k hk => absurd hk (Nat.not_lt_zero k)) (wk6_4 3 rfl rfl)) (wk6_4 5 rfl rfl)) (wk6_4 7 rfl rfl))
set_option maxRecDepth 100000 in
theorem gf_RX11_507 {p : Program} {l : Launch} {e : Env} {R : Room} {s : State} {m : MethodId} {args : Array Value} {below : List Frame} {meth : Method} {c : Code} {H : Heap} {locs : List Loc} {cells slots : Nat} {Q : State → Prop} {cc : ByteArray} {nL pc : Nat} {D : va_G} {cI cB cZ : ClassId} {ws : va_W} {rest : List Value} {ls : Array Slot} {a : Nat} {fs : List Value} {v : Value} (S : SF p m c cc nL s args RX11) (hK : KK D cI cB cZ s) (hP : va_P D vwCl ws H) (q0 : Nat) (he : ws[q0]? = some (a, .inr (4, fs))) (hv : fs[0]? = some v) (hdg : decode cc pc = .ok (.getfield 507, 3)) (kk : W p l e R s m args below meth c H locs cells slots Q (F0 m (pc + 3) ls (v :: rest))) : W p l e R s m args below meth c H locs cells slots Q (F0 m pc ls (.ref a :: rest)) :=
  va_get (C := RX3) (T := TX3) (N := 3) S.1 S.2.1 S.2.2.2.2 hin_RX3 S.2.2.2.1 hK.1 hP q0 he rfl 0 (by decide) (S.2.2.2.2 _ (wk6_3 10 rfl rfl)) (fun _ h9 => h9) hv hdg kk
set_option maxRecDepth 100000 in
theorem gf_RX11_508 {p : Program} {l : Launch} {e : Env} {R : Room} {s : State} {m : MethodId} {args : Array Value} {below : List Frame} {meth : Method} {c : Code} {H : Heap} {locs : List Loc} {cells slots : Nat} {Q : State → Prop} {cc : ByteArray} {nL pc : Nat} {D : va_G} {cI cB cZ : ClassId} {ws : va_W} {rest : List Value} {ls : Array Slot} {a : Nat} {fs : List Value} {v : Value} (S : SF p m c cc nL s args RX11) (hK : KK D cI cB cZ s) (hP : va_P D vwCl ws H) (q0 : Nat) (he : ws[q0]? = some (a, .inr (4, fs))) (hv : fs[2]? = some v) (hdg : decode cc pc = .ok (.getfield 508, 3)) (kk : W p l e R s m args below meth c H locs cells slots Q (F0 m (pc + 3) ls (v :: rest))) : W p l e R s m args below meth c H locs cells slots Q (F0 m pc ls (.ref a :: rest)) :=
  va_get (C := RX3) (T := TX3) (N := 3) S.1 S.2.1 S.2.2.2.2 hin_RX3 S.2.2.2.1 hK.1 hP q0 he rfl 2 (by decide) (S.2.2.2.2 _ (wk6_4 2 rfl rfl)) (fun _ h9 => h9) hv hdg kk
set_option maxRecDepth 100000 in
theorem kV_RX11_509 : CalV RX11 509 yX11_moveBy cX11_moveBy 6 (some (.object "OilHome$Move")) 2 := ⟨⟨wk6_2 11 rfl rfl, wk6_3 1 rfl rfl, wT_sel 62 _ rfl rfl rfl, wk1_0 1 rfl rfl, wk6_3 2 rfl rfl⟩, ⟨nmh_0.1, nmh_0.2, pd_19⟩⟩
set_option maxRecDepth 100000 in
theorem gf_RX11_516 {p : Program} {l : Launch} {e : Env} {R : Room} {s : State} {m : MethodId} {args : Array Value} {below : List Frame} {meth : Method} {c : Code} {H : Heap} {locs : List Loc} {cells slots : Nat} {Q : State → Prop} {cc : ByteArray} {nL pc : Nat} {D : va_G} {cI cB cZ : ClassId} {ws : va_W} {rest : List Value} {ls : Array Slot} {a : Nat} {fs : List Value} {v : Value} (S : SF p m c cc nL s args RX11) (hK : KK D cI cB cZ s) (hP : va_P D vwCl ws H) (q0 : Nat) (he : ws[q0]? = some (a, .inr (4, fs))) (hv : fs[1]? = some v) (hdg : decode cc pc = .ok (.getfield 516, 3)) (kk : W p l e R s m args below meth c H locs cells slots Q (F0 m (pc + 3) ls (v :: rest))) : W p l e R s m args below meth c H locs cells slots Q (F0 m pc ls (.ref a :: rest)) :=
  va_get (C := RX3) (T := TX3) (N := 3) S.1 S.2.1 S.2.2.2.2 hin_RX3 S.2.2.2.1 hK.1 hP q0 he rfl 1 (by decide) (S.2.2.2.2 _ (wk6_4 0 rfl rfl)) (fun _ h9 => h9) hv hdg kk
set_option maxRecDepth 100000 in
theorem kV_RX11_333 : CalV RX11 333 yX11_stopsOf cX11_stopsOf 6 (some .int) 2 := ⟨⟨wk4_15 9 rfl rfl, wk4_15 11 rfl rfl, wT_sel 41 _ rfl rfl rfl, wk1_0 1 rfl rfl, wk4_16 0 rfl rfl⟩, ⟨nmh_0.1, nmh_0.2, pd_17⟩⟩
set_option maxRecDepth 100000 in
theorem kV_RX11_339 : CalV RX11 339 yX10_lengthOf cX10_lengthOf 2 (some .int) 1 := ⟨⟨wk4_16 5 rfl rfl, wk4_11 0 rfl rfl, wk4_11 1 rfl rfl, wk1_0 9 rfl rfl, wk4_11 2 rfl rfl⟩, ⟨nmh_11.1, nmh_11.2, pd_8⟩⟩
set_option maxRecDepth 100000 in
theorem kV_RX11_336 : CalV RX11 336 yX10_fillOf cX10_fillOf 4 (some .int) 1 := ⟨⟨wk4_16 1 rfl rfl, wk4_16 2 rfl rfl, wk4_16 3 rfl rfl, wk1_0 9 rfl rfl, wk4_16 4 rfl rfl⟩, ⟨nmh_11.1, nmh_11.2, pd_8⟩⟩
set_option maxRecDepth 100000 in
theorem kV_RX11_327 : CalV RX11 327 yX11_sharedLength cX11_sharedLength 6 (some .int) 2 := ⟨⟨wk4_15 5 rfl rfl, wk4_15 7 rfl rfl, wT_sel 40 _ rfl rfl rfl, wk1_0 1 rfl rfl, wk4_15 8 rfl rfl⟩, ⟨nmh_0.1, nmh_0.2, pd_17⟩⟩
set_option maxRecDepth 100000 in
theorem kV_RX11_324 : CalV RX11 324 yX11_bestShares cX11_bestShares 7 (some .int) 1 := ⟨⟨wk4_15 1 rfl rfl, wk4_15 3 rfl rfl, wT_sel 39 _ rfl rfl rfl, wk1_0 1 rfl rfl, wk4_15 4 rfl rfl⟩, ⟨nmh_0.1, nmh_0.2, pd_8⟩⟩
set_option maxRecDepth 100000 in
theorem kV_RX11_330 : CalV RX11 330 yX11_lorryOf cX11_lorryOf 5 (some .int) 2 := ⟨⟨wk4_16 6 rfl rfl, wk4_16 8 rfl rfl, wT_sel 42 _ rfl rfl rfl, wk1_0 1 rfl rfl, wk4_16 9 rfl rfl⟩, ⟨nmh_0.1, nmh_0.2, pd_17⟩⟩
noncomputable def sxX11_choose_54 : List UInt8 := []
noncomputable def sxX11_choose_53 : List UInt8 := 173 :: sxX11_choose_54
noncomputable def sxX11_choose_52 : List UInt8 := 32 :: sxX11_choose_53
noncomputable def sxX11_choose_49 : List UInt8 := 167 :: 255 :: 232 :: sxX11_choose_52
noncomputable def sxX11_choose_46 : List UInt8 := 132 :: 5 :: 1 :: sxX11_choose_49
noncomputable def sxX11_choose_45 : List UInt8 := 65 :: sxX11_choose_46
noncomputable def sxX11_choose_44 : List UInt8 := 109 :: sxX11_choose_45
noncomputable def sxX11_choose_43 : List UInt8 := 133 :: sxX11_choose_44
noncomputable def sxX11_choose_42 : List UInt8 := 96 :: sxX11_choose_43
noncomputable def sxX11_choose_41 : List UInt8 := 4 :: sxX11_choose_42
noncomputable def sxX11_choose_39 : List UInt8 := 21 :: 5 :: sxX11_choose_41
noncomputable def sxX11_choose_38 : List UInt8 := 105 :: sxX11_choose_39
noncomputable def sxX11_choose_37 : List UInt8 := 133 :: sxX11_choose_38
noncomputable def sxX11_choose_36 : List UInt8 := 100 :: sxX11_choose_37
noncomputable def sxX11_choose_34 : List UInt8 := 21 :: 5 :: sxX11_choose_36
noncomputable def sxX11_choose_33 : List UInt8 := 26 :: sxX11_choose_34
noncomputable def sxX11_choose_32 : List UInt8 := 32 :: sxX11_choose_33
noncomputable def sxX11_choose_29 : List UInt8 := 162 :: 0 :: 23 :: sxX11_choose_32
noncomputable def sxX11_choose_27 : List UInt8 := 21 :: 4 :: sxX11_choose_29
noncomputable def sxX11_choose_25 : List UInt8 := 21 :: 5 :: sxX11_choose_27
noncomputable def sxX11_choose_23 : List UInt8 := 54 :: 5 :: sxX11_choose_25
noncomputable def sxX11_choose_22 : List UInt8 := 3 :: sxX11_choose_23
noncomputable def sxX11_choose_20 : List UInt8 := 54 :: 4 :: sxX11_choose_22
noncomputable def sxX11_choose_17 : List UInt8 := 184 :: 0 :: 227 :: sxX11_choose_20
noncomputable def sxX11_choose_16 : List UInt8 := 100 :: sxX11_choose_17
noncomputable def sxX11_choose_15 : List UInt8 := 27 :: sxX11_choose_16
noncomputable def sxX11_choose_14 : List UInt8 := 26 :: sxX11_choose_15
noncomputable def sxX11_choose_13 : List UInt8 := 27 :: sxX11_choose_14
noncomputable def sxX11_choose_12 : List UInt8 := 65 :: sxX11_choose_13
noncomputable def sxX11_choose_11 : List UInt8 := 10 :: sxX11_choose_12
noncomputable def sxX11_choose_10 : List UInt8 := 173 :: sxX11_choose_11
noncomputable def sxX11_choose_9 : List UInt8 := 9 :: sxX11_choose_10
noncomputable def sxX11_choose_6 : List UInt8 := 164 :: 0 :: 5 :: sxX11_choose_9
noncomputable def sxX11_choose_5 : List UInt8 := 26 :: sxX11_choose_6
noncomputable def sxX11_choose_4 : List UInt8 := 27 :: sxX11_choose_5
noncomputable def sxX11_choose_1 : List UInt8 := 155 :: 0 :: 8 :: sxX11_choose_4
noncomputable def sxX11_choose_0 : List UInt8 := 27 :: sxX11_choose_1
theorem shX11_choose_0 : cX11_choose.data.toList.drop 0 = sxX11_choose_0 := rfl
theorem shX11_choose_1 : cX11_choose.data.toList.drop 1 = sxX11_choose_1 := dSn 1 shX11_choose_0
theorem shX11_choose_4 : cX11_choose.data.toList.drop 4 = sxX11_choose_4 := dSn 3 shX11_choose_1
theorem shX11_choose_5 : cX11_choose.data.toList.drop 5 = sxX11_choose_5 := dSn 1 shX11_choose_4
theorem shX11_choose_6 : cX11_choose.data.toList.drop 6 = sxX11_choose_6 := dSn 1 shX11_choose_5
theorem shX11_choose_9 : cX11_choose.data.toList.drop 9 = sxX11_choose_9 := dSn 3 shX11_choose_6
theorem shX11_choose_10 : cX11_choose.data.toList.drop 10 = sxX11_choose_10 := dSn 1 shX11_choose_9
theorem shX11_choose_11 : cX11_choose.data.toList.drop 11 = sxX11_choose_11 := dSn 1 shX11_choose_10
theorem shX11_choose_12 : cX11_choose.data.toList.drop 12 = sxX11_choose_12 := dSn 1 shX11_choose_11
theorem shX11_choose_13 : cX11_choose.data.toList.drop 13 = sxX11_choose_13 := dSn 1 shX11_choose_12
theorem shX11_choose_14 : cX11_choose.data.toList.drop 14 = sxX11_choose_14 := dSn 1 shX11_choose_13
theorem shX11_choose_15 : cX11_choose.data.toList.drop 15 = sxX11_choose_15 := dSn 1 shX11_choose_14
theorem shX11_choose_16 : cX11_choose.data.toList.drop 16 = sxX11_choose_16 := dSn 1 shX11_choose_15
theorem shX11_choose_17 : cX11_choose.data.toList.drop 17 = sxX11_choose_17 := dSn 1 shX11_choose_16
theorem shX11_choose_20 : cX11_choose.data.toList.drop 20 = sxX11_choose_20 := dSn 3 shX11_choose_17
theorem shX11_choose_22 : cX11_choose.data.toList.drop 22 = sxX11_choose_22 := dSn 2 shX11_choose_20
theorem shX11_choose_23 : cX11_choose.data.toList.drop 23 = sxX11_choose_23 := dSn 1 shX11_choose_22
theorem shX11_choose_25 : cX11_choose.data.toList.drop 25 = sxX11_choose_25 := dSn 2 shX11_choose_23
theorem shX11_choose_27 : cX11_choose.data.toList.drop 27 = sxX11_choose_27 := dSn 2 shX11_choose_25
theorem shX11_choose_29 : cX11_choose.data.toList.drop 29 = sxX11_choose_29 := dSn 2 shX11_choose_27
theorem shX11_choose_32 : cX11_choose.data.toList.drop 32 = sxX11_choose_32 := dSn 3 shX11_choose_29
theorem shX11_choose_33 : cX11_choose.data.toList.drop 33 = sxX11_choose_33 := dSn 1 shX11_choose_32
theorem shX11_choose_34 : cX11_choose.data.toList.drop 34 = sxX11_choose_34 := dSn 1 shX11_choose_33
theorem shX11_choose_36 : cX11_choose.data.toList.drop 36 = sxX11_choose_36 := dSn 2 shX11_choose_34
theorem shX11_choose_37 : cX11_choose.data.toList.drop 37 = sxX11_choose_37 := dSn 1 shX11_choose_36
theorem shX11_choose_38 : cX11_choose.data.toList.drop 38 = sxX11_choose_38 := dSn 1 shX11_choose_37
theorem shX11_choose_39 : cX11_choose.data.toList.drop 39 = sxX11_choose_39 := dSn 1 shX11_choose_38
theorem shX11_choose_41 : cX11_choose.data.toList.drop 41 = sxX11_choose_41 := dSn 2 shX11_choose_39
theorem shX11_choose_42 : cX11_choose.data.toList.drop 42 = sxX11_choose_42 := dSn 1 shX11_choose_41
theorem shX11_choose_43 : cX11_choose.data.toList.drop 43 = sxX11_choose_43 := dSn 1 shX11_choose_42
theorem shX11_choose_44 : cX11_choose.data.toList.drop 44 = sxX11_choose_44 := dSn 1 shX11_choose_43
theorem shX11_choose_45 : cX11_choose.data.toList.drop 45 = sxX11_choose_45 := dSn 1 shX11_choose_44
theorem shX11_choose_46 : cX11_choose.data.toList.drop 46 = sxX11_choose_46 := dSn 1 shX11_choose_45
theorem shX11_choose_49 : cX11_choose.data.toList.drop 49 = sxX11_choose_49 := dSn 3 shX11_choose_46
theorem shX11_choose_52 : cX11_choose.data.toList.drop 52 = sxX11_choose_52 := dSn 3 shX11_choose_49
theorem shX11_choose_53 : cX11_choose.data.toList.drop 53 = sxX11_choose_53 := dSn 1 shX11_choose_52
theorem dX11_choose_0 : decode cX11_choose 0 = .ok (.iload_n 1, 1) := oc_27 shX11_choose_0
theorem dX11_choose_1 : decode cX11_choose 1 = .ok (.ifCond .lt 8, 3) := oc_155 shX11_choose_1 sgw_0_8
theorem dX11_choose_4 : decode cX11_choose 4 = .ok (.iload_n 1, 1) := oc_27 shX11_choose_4
theorem dX11_choose_5 : decode cX11_choose 5 = .ok (.iload_n 0, 1) := oc_26 shX11_choose_5
theorem dX11_choose_6 : decode cX11_choose 6 = .ok (.if_icmp .le 5, 3) := oc_164 shX11_choose_6 sgw_0_5
theorem dX11_choose_11 : decode cX11_choose 11 = .ok (.lconst 1, 1) := oc_10 shX11_choose_11
theorem dX11_choose_12 : decode cX11_choose 12 = .ok (.lstore_n 2, 1) := oc_65 shX11_choose_12
theorem dX11_choose_13 : decode cX11_choose 13 = .ok (.iload_n 1, 1) := oc_27 shX11_choose_13
theorem dX11_choose_14 : decode cX11_choose 14 = .ok (.iload_n 0, 1) := oc_26 shX11_choose_14
theorem dX11_choose_15 : decode cX11_choose 15 = .ok (.iload_n 1, 1) := oc_27 shX11_choose_15
theorem dX11_choose_16 : decode cX11_choose 16 = .ok (.isub, 1) := oc_100 shX11_choose_16
theorem dX11_choose_17 : decode cX11_choose 17 = .ok (.invokestatic 227, 3) := oc_184 shX11_choose_17
theorem dX11_choose_20 : decode cX11_choose 20 = .ok (.istore 4, 2) := oc_54 shX11_choose_20
theorem dX11_choose_22 : decode cX11_choose 22 = .ok (.iconst 0, 1) := oc_3 shX11_choose_22
theorem dX11_choose_23 : decode cX11_choose 23 = .ok (.istore 5, 2) := oc_54 shX11_choose_23
theorem dX11_choose_25 : decode cX11_choose 25 = .ok (.iload 5, 2) := oc_21 shX11_choose_25
theorem dX11_choose_27 : decode cX11_choose 27 = .ok (.iload 4, 2) := oc_21 shX11_choose_27
theorem dX11_choose_29 : decode cX11_choose 29 = .ok (.if_icmp .ge 23, 3) := oc_162 shX11_choose_29 sgw_0_23
theorem dX11_choose_52 : decode cX11_choose 52 = .ok (.lload_n 2, 1) := oc_32 shX11_choose_52
theorem dX11_choose_53 : decode cX11_choose 53 = .ok (.lreturn, 1) := oc_173 shX11_choose_53
theorem dX11_choose_32 : decode cX11_choose 32 = .ok (.lload_n 2, 1) := oc_32 shX11_choose_32
theorem dX11_choose_33 : decode cX11_choose 33 = .ok (.iload_n 0, 1) := oc_26 shX11_choose_33
theorem dX11_choose_34 : decode cX11_choose 34 = .ok (.iload 5, 2) := oc_21 shX11_choose_34
theorem dX11_choose_36 : decode cX11_choose 36 = .ok (.isub, 1) := oc_100 shX11_choose_36
theorem dX11_choose_37 : decode cX11_choose 37 = .ok (.i2l, 1) := oc_133 shX11_choose_37
theorem dX11_choose_38 : decode cX11_choose 38 = .ok (.lmul, 1) := oc_105 shX11_choose_38
theorem dX11_choose_39 : decode cX11_choose 39 = .ok (.iload 5, 2) := oc_21 shX11_choose_39
theorem dX11_choose_41 : decode cX11_choose 41 = .ok (.iconst 1, 1) := oc_4 shX11_choose_41
theorem dX11_choose_42 : decode cX11_choose 42 = .ok (.iadd, 1) := oc_96 shX11_choose_42
theorem dX11_choose_43 : decode cX11_choose 43 = .ok (.i2l, 1) := oc_133 shX11_choose_43
theorem dX11_choose_44 : decode cX11_choose 44 = .ok (.ldiv, 1) := oc_109 shX11_choose_44
theorem dX11_choose_45 : decode cX11_choose 45 = .ok (.lstore_n 2, 1) := oc_65 shX11_choose_45
theorem dX11_choose_46 : decode cX11_choose 46 = .ok (.iinc 5 1, 3) := oc_132 shX11_choose_46 sgb_1
theorem dX11_choose_49 : decode cX11_choose 49 = .ok (.goto (-24), 3) := oc_167 shX11_choose_49 sgw_255_232
theorem dX11_choose_9 : decode cX11_choose 9 = .ok (.lconst 0, 1) := oc_9 shX11_choose_9
theorem dX11_choose_10 : decode cX11_choose 10 = .ok (.lreturn, 1) := oc_173 shX11_choose_10
noncomputable def sxX11_divisor_35 : List UInt8 := []
noncomputable def sxX11_divisor_34 : List UInt8 := 173 :: sxX11_divisor_35
noncomputable def sxX11_divisor_33 : List UInt8 := 30 :: sxX11_divisor_34
noncomputable def sxX11_divisor_30 : List UInt8 := 167 :: 255 :: 229 :: sxX11_divisor_33
noncomputable def sxX11_divisor_27 : List UInt8 := 132 :: 4 :: 1 :: sxX11_divisor_30
noncomputable def sxX11_divisor_26 : List UInt8 := 65 :: sxX11_divisor_27
noncomputable def sxX11_divisor_24 : List UInt8 := 22 :: 5 :: sxX11_divisor_26
noncomputable def sxX11_divisor_23 : List UInt8 := 63 :: sxX11_divisor_24
noncomputable def sxX11_divisor_22 : List UInt8 := 32 :: sxX11_divisor_23
noncomputable def sxX11_divisor_20 : List UInt8 := 55 :: 5 :: sxX11_divisor_22
noncomputable def sxX11_divisor_19 : List UInt8 := 113 :: sxX11_divisor_20
noncomputable def sxX11_divisor_18 : List UInt8 := 32 :: sxX11_divisor_19
noncomputable def sxX11_divisor_17 : List UInt8 := 30 :: sxX11_divisor_18
noncomputable def sxX11_divisor_14 : List UInt8 := 153 :: 0 :: 19 :: sxX11_divisor_17
noncomputable def sxX11_divisor_13 : List UInt8 := 148 :: sxX11_divisor_14
noncomputable def sxX11_divisor_12 : List UInt8 := 9 :: sxX11_divisor_13
noncomputable def sxX11_divisor_11 : List UInt8 := 32 :: sxX11_divisor_12
noncomputable def sxX11_divisor_8 : List UInt8 := 162 :: 0 :: 25 :: sxX11_divisor_11
noncomputable def sxX11_divisor_5 : List UInt8 := 17 :: 0 :: 200 :: sxX11_divisor_8
noncomputable def sxX11_divisor_3 : List UInt8 := 21 :: 4 :: sxX11_divisor_5
noncomputable def sxX11_divisor_1 : List UInt8 := 54 :: 4 :: sxX11_divisor_3
noncomputable def sxX11_divisor_0 : List UInt8 := 3 :: sxX11_divisor_1
theorem shX11_divisor_0 : cX11_divisor.data.toList.drop 0 = sxX11_divisor_0 := rfl
theorem shX11_divisor_1 : cX11_divisor.data.toList.drop 1 = sxX11_divisor_1 := dSn 1 shX11_divisor_0
theorem shX11_divisor_3 : cX11_divisor.data.toList.drop 3 = sxX11_divisor_3 := dSn 2 shX11_divisor_1
theorem shX11_divisor_5 : cX11_divisor.data.toList.drop 5 = sxX11_divisor_5 := dSn 2 shX11_divisor_3
theorem shX11_divisor_8 : cX11_divisor.data.toList.drop 8 = sxX11_divisor_8 := dSn 3 shX11_divisor_5
theorem shX11_divisor_11 : cX11_divisor.data.toList.drop 11 = sxX11_divisor_11 := dSn 3 shX11_divisor_8
theorem shX11_divisor_12 : cX11_divisor.data.toList.drop 12 = sxX11_divisor_12 := dSn 1 shX11_divisor_11
theorem shX11_divisor_13 : cX11_divisor.data.toList.drop 13 = sxX11_divisor_13 := dSn 1 shX11_divisor_12
theorem shX11_divisor_14 : cX11_divisor.data.toList.drop 14 = sxX11_divisor_14 := dSn 1 shX11_divisor_13
theorem shX11_divisor_17 : cX11_divisor.data.toList.drop 17 = sxX11_divisor_17 := dSn 3 shX11_divisor_14
theorem shX11_divisor_18 : cX11_divisor.data.toList.drop 18 = sxX11_divisor_18 := dSn 1 shX11_divisor_17
theorem shX11_divisor_19 : cX11_divisor.data.toList.drop 19 = sxX11_divisor_19 := dSn 1 shX11_divisor_18
theorem shX11_divisor_20 : cX11_divisor.data.toList.drop 20 = sxX11_divisor_20 := dSn 1 shX11_divisor_19
theorem shX11_divisor_22 : cX11_divisor.data.toList.drop 22 = sxX11_divisor_22 := dSn 2 shX11_divisor_20
theorem shX11_divisor_23 : cX11_divisor.data.toList.drop 23 = sxX11_divisor_23 := dSn 1 shX11_divisor_22
theorem shX11_divisor_24 : cX11_divisor.data.toList.drop 24 = sxX11_divisor_24 := dSn 1 shX11_divisor_23
theorem shX11_divisor_26 : cX11_divisor.data.toList.drop 26 = sxX11_divisor_26 := dSn 2 shX11_divisor_24
theorem shX11_divisor_27 : cX11_divisor.data.toList.drop 27 = sxX11_divisor_27 := dSn 1 shX11_divisor_26
theorem shX11_divisor_30 : cX11_divisor.data.toList.drop 30 = sxX11_divisor_30 := dSn 3 shX11_divisor_27
theorem shX11_divisor_33 : cX11_divisor.data.toList.drop 33 = sxX11_divisor_33 := dSn 3 shX11_divisor_30
theorem shX11_divisor_34 : cX11_divisor.data.toList.drop 34 = sxX11_divisor_34 := dSn 1 shX11_divisor_33
theorem dX11_divisor_0 : decode cX11_divisor 0 = .ok (.iconst 0, 1) := oc_3 shX11_divisor_0
theorem dX11_divisor_1 : decode cX11_divisor 1 = .ok (.istore 4, 2) := oc_54 shX11_divisor_1
theorem dX11_divisor_3 : decode cX11_divisor 3 = .ok (.iload 4, 2) := oc_21 shX11_divisor_3
theorem dX11_divisor_5 : decode cX11_divisor 5 = .ok (.sipush 200, 3) := oc_17 shX11_divisor_5 sgw_0_200
theorem dX11_divisor_8 : decode cX11_divisor 8 = .ok (.if_icmp .ge 25, 3) := oc_162 shX11_divisor_8 sgw_0_25
theorem dX11_divisor_33 : decode cX11_divisor 33 = .ok (.lload_n 0, 1) := oc_30 shX11_divisor_33
theorem dX11_divisor_34 : decode cX11_divisor 34 = .ok (.lreturn, 1) := oc_173 shX11_divisor_34
theorem dX11_divisor_11 : decode cX11_divisor 11 = .ok (.lload_n 2, 1) := oc_32 shX11_divisor_11
theorem dX11_divisor_12 : decode cX11_divisor 12 = .ok (.lconst 0, 1) := oc_9 shX11_divisor_12
theorem dX11_divisor_13 : decode cX11_divisor 13 = .ok (.lcmp, 1) := oc_148 shX11_divisor_13
theorem dX11_divisor_14 : decode cX11_divisor 14 = .ok (.ifCond .eq 19, 3) := oc_153 shX11_divisor_14 sgw_0_19
theorem dX11_divisor_17 : decode cX11_divisor 17 = .ok (.lload_n 0, 1) := oc_30 shX11_divisor_17
theorem dX11_divisor_18 : decode cX11_divisor 18 = .ok (.lload_n 2, 1) := oc_32 shX11_divisor_18
theorem dX11_divisor_19 : decode cX11_divisor 19 = .ok (.lrem, 1) := oc_113 shX11_divisor_19
theorem dX11_divisor_20 : decode cX11_divisor 20 = .ok (.lstore 5, 2) := oc_55 shX11_divisor_20
theorem dX11_divisor_22 : decode cX11_divisor 22 = .ok (.lload_n 2, 1) := oc_32 shX11_divisor_22
theorem dX11_divisor_23 : decode cX11_divisor 23 = .ok (.lstore_n 0, 1) := oc_63 shX11_divisor_23
theorem dX11_divisor_24 : decode cX11_divisor 24 = .ok (.lload 5, 2) := oc_22 shX11_divisor_24
theorem dX11_divisor_26 : decode cX11_divisor 26 = .ok (.lstore_n 2, 1) := oc_65 shX11_divisor_26
theorem dX11_divisor_27 : decode cX11_divisor 27 = .ok (.iinc 4 1, 3) := oc_132 shX11_divisor_27 sgb_1
theorem dX11_divisor_30 : decode cX11_divisor 30 = .ok (.goto (-27), 3) := oc_167 shX11_divisor_30 sgw_255_229
noncomputable def sxX11_odds_101 : List UInt8 := []
noncomputable def sxX11_odds_100 : List UInt8 := 173 :: sxX11_odds_101
noncomputable def sxX11_odds_99 : List UInt8 := 109 :: sxX11_odds_100
noncomputable def sxX11_odds_97 : List UInt8 := 22 :: 9 :: sxX11_odds_99
noncomputable def sxX11_odds_95 : List UInt8 := 22 :: 7 :: sxX11_odds_97
noncomputable def sxX11_odds_92 : List UInt8 := 167 :: 0 :: 8 :: sxX11_odds_95
noncomputable def sxX11_odds_91 : List UInt8 := 109 :: sxX11_odds_92
noncomputable def sxX11_odds_89 : List UInt8 := 22 :: 9 :: sxX11_odds_91
noncomputable def sxX11_odds_87 : List UInt8 := 22 :: 5 :: sxX11_odds_89
noncomputable def sxX11_odds_84 : List UInt8 := 154 :: 0 :: 11 :: sxX11_odds_87
noncomputable def sxX11_odds_82 : List UInt8 := 21 :: 4 :: sxX11_odds_84
noncomputable def sxX11_odds_81 : List UInt8 := 173 :: sxX11_odds_82
noncomputable def sxX11_odds_78 : List UInt8 := 20 :: 0 :: 254 :: sxX11_odds_81
noncomputable def sxX11_odds_75 : List UInt8 := 154 :: 0 :: 7 :: sxX11_odds_78
noncomputable def sxX11_odds_74 : List UInt8 := 148 :: sxX11_odds_75
noncomputable def sxX11_odds_73 : List UInt8 := 9 :: sxX11_odds_74
noncomputable def sxX11_odds_71 : List UInt8 := 22 :: 9 :: sxX11_odds_73
noncomputable def sxX11_odds_69 : List UInt8 := 55 :: 9 :: sxX11_odds_71
noncomputable def sxX11_odds_66 : List UInt8 := 184 :: 0 :: 250 :: sxX11_odds_69
noncomputable def sxX11_odds_64 : List UInt8 := 22 :: 7 :: sxX11_odds_66
noncomputable def sxX11_odds_62 : List UInt8 := 22 :: 5 :: sxX11_odds_64
noncomputable def sxX11_odds_60 : List UInt8 := 55 :: 7 :: sxX11_odds_62
noncomputable def sxX11_odds_57 : List UInt8 := 184 :: 0 :: 246 :: sxX11_odds_60
noncomputable def sxX11_odds_56 : List UInt8 := 27 :: sxX11_odds_57
noncomputable def sxX11_odds_55 : List UInt8 := 29 :: sxX11_odds_56
noncomputable def sxX11_odds_52 : List UInt8 := 167 :: 255 :: 219 :: sxX11_odds_55
noncomputable def sxX11_odds_49 : List UInt8 := 132 :: 7 :: 1 :: sxX11_odds_52
noncomputable def sxX11_odds_47 : List UInt8 := 55 :: 5 :: sxX11_odds_49
noncomputable def sxX11_odds_46 : List UInt8 := 97 :: sxX11_odds_47
noncomputable def sxX11_odds_45 : List UInt8 := 105 :: sxX11_odds_46
noncomputable def sxX11_odds_42 : List UInt8 := 184 :: 0 :: 246 :: sxX11_odds_45
noncomputable def sxX11_odds_41 : List UInt8 := 100 :: sxX11_odds_42
noncomputable def sxX11_odds_39 : List UInt8 := 21 :: 7 :: sxX11_odds_41
noncomputable def sxX11_odds_38 : List UInt8 := 27 :: sxX11_odds_39
noncomputable def sxX11_odds_37 : List UInt8 := 100 :: sxX11_odds_38
noncomputable def sxX11_odds_36 : List UInt8 := 26 :: sxX11_odds_37
noncomputable def sxX11_odds_35 : List UInt8 := 29 :: sxX11_odds_36
noncomputable def sxX11_odds_32 : List UInt8 := 184 :: 0 :: 246 :: sxX11_odds_35
noncomputable def sxX11_odds_30 : List UInt8 := 21 :: 7 :: sxX11_odds_32
noncomputable def sxX11_odds_29 : List UInt8 := 26 :: sxX11_odds_30
noncomputable def sxX11_odds_27 : List UInt8 := 22 :: 5 :: sxX11_odds_29
noncomputable def sxX11_odds_24 : List UInt8 := 163 :: 0 :: 31 :: sxX11_odds_27
noncomputable def sxX11_odds_23 : List UInt8 := 26 :: sxX11_odds_24
noncomputable def sxX11_odds_21 : List UInt8 := 21 :: 7 :: sxX11_odds_23
noncomputable def sxX11_odds_18 : List UInt8 := 163 :: 0 :: 37 :: sxX11_odds_21
noncomputable def sxX11_odds_17 : List UInt8 := 27 :: sxX11_odds_18
noncomputable def sxX11_odds_15 : List UInt8 := 21 :: 7 :: sxX11_odds_17
noncomputable def sxX11_odds_13 : List UInt8 := 54 :: 7 :: sxX11_odds_15
noncomputable def sxX11_odds_12 : List UInt8 := 28 :: sxX11_odds_13
noncomputable def sxX11_odds_10 : List UInt8 := 55 :: 5 :: sxX11_odds_12
noncomputable def sxX11_odds_9 : List UInt8 := 9 :: sxX11_odds_10
noncomputable def sxX11_odds_8 : List UInt8 := 173 :: sxX11_odds_9
noncomputable def sxX11_odds_7 : List UInt8 := 133 :: sxX11_odds_8
noncomputable def sxX11_odds_6 : List UInt8 := 28 :: sxX11_odds_7
noncomputable def sxX11_odds_3 : List UInt8 := 160 :: 0 :: 6 :: sxX11_odds_6
noncomputable def sxX11_odds_2 : List UInt8 := 5 :: sxX11_odds_3
noncomputable def sxX11_odds_0 : List UInt8 := 21 :: 4 :: sxX11_odds_2
theorem shX11_odds_0 : cX11_odds.data.toList.drop 0 = sxX11_odds_0 := rfl
theorem shX11_odds_2 : cX11_odds.data.toList.drop 2 = sxX11_odds_2 := dSn 2 shX11_odds_0
theorem shX11_odds_3 : cX11_odds.data.toList.drop 3 = sxX11_odds_3 := dSn 1 shX11_odds_2
theorem shX11_odds_6 : cX11_odds.data.toList.drop 6 = sxX11_odds_6 := dSn 3 shX11_odds_3
theorem shX11_odds_7 : cX11_odds.data.toList.drop 7 = sxX11_odds_7 := dSn 1 shX11_odds_6
theorem shX11_odds_8 : cX11_odds.data.toList.drop 8 = sxX11_odds_8 := dSn 1 shX11_odds_7
theorem shX11_odds_9 : cX11_odds.data.toList.drop 9 = sxX11_odds_9 := dSn 1 shX11_odds_8
theorem shX11_odds_10 : cX11_odds.data.toList.drop 10 = sxX11_odds_10 := dSn 1 shX11_odds_9
theorem shX11_odds_12 : cX11_odds.data.toList.drop 12 = sxX11_odds_12 := dSn 2 shX11_odds_10
theorem shX11_odds_13 : cX11_odds.data.toList.drop 13 = sxX11_odds_13 := dSn 1 shX11_odds_12
theorem shX11_odds_15 : cX11_odds.data.toList.drop 15 = sxX11_odds_15 := dSn 2 shX11_odds_13
theorem shX11_odds_17 : cX11_odds.data.toList.drop 17 = sxX11_odds_17 := dSn 2 shX11_odds_15
theorem shX11_odds_18 : cX11_odds.data.toList.drop 18 = sxX11_odds_18 := dSn 1 shX11_odds_17
theorem shX11_odds_21 : cX11_odds.data.toList.drop 21 = sxX11_odds_21 := dSn 3 shX11_odds_18
theorem shX11_odds_23 : cX11_odds.data.toList.drop 23 = sxX11_odds_23 := dSn 2 shX11_odds_21
theorem shX11_odds_24 : cX11_odds.data.toList.drop 24 = sxX11_odds_24 := dSn 1 shX11_odds_23
theorem shX11_odds_27 : cX11_odds.data.toList.drop 27 = sxX11_odds_27 := dSn 3 shX11_odds_24
theorem shX11_odds_29 : cX11_odds.data.toList.drop 29 = sxX11_odds_29 := dSn 2 shX11_odds_27
theorem shX11_odds_30 : cX11_odds.data.toList.drop 30 = sxX11_odds_30 := dSn 1 shX11_odds_29
theorem shX11_odds_32 : cX11_odds.data.toList.drop 32 = sxX11_odds_32 := dSn 2 shX11_odds_30
theorem shX11_odds_35 : cX11_odds.data.toList.drop 35 = sxX11_odds_35 := dSn 3 shX11_odds_32
theorem shX11_odds_36 : cX11_odds.data.toList.drop 36 = sxX11_odds_36 := dSn 1 shX11_odds_35
theorem shX11_odds_37 : cX11_odds.data.toList.drop 37 = sxX11_odds_37 := dSn 1 shX11_odds_36
theorem shX11_odds_38 : cX11_odds.data.toList.drop 38 = sxX11_odds_38 := dSn 1 shX11_odds_37
theorem shX11_odds_39 : cX11_odds.data.toList.drop 39 = sxX11_odds_39 := dSn 1 shX11_odds_38
theorem shX11_odds_41 : cX11_odds.data.toList.drop 41 = sxX11_odds_41 := dSn 2 shX11_odds_39
theorem shX11_odds_42 : cX11_odds.data.toList.drop 42 = sxX11_odds_42 := dSn 1 shX11_odds_41
theorem shX11_odds_45 : cX11_odds.data.toList.drop 45 = sxX11_odds_45 := dSn 3 shX11_odds_42
theorem shX11_odds_46 : cX11_odds.data.toList.drop 46 = sxX11_odds_46 := dSn 1 shX11_odds_45
theorem shX11_odds_47 : cX11_odds.data.toList.drop 47 = sxX11_odds_47 := dSn 1 shX11_odds_46
theorem shX11_odds_49 : cX11_odds.data.toList.drop 49 = sxX11_odds_49 := dSn 2 shX11_odds_47
theorem shX11_odds_52 : cX11_odds.data.toList.drop 52 = sxX11_odds_52 := dSn 3 shX11_odds_49
theorem shX11_odds_55 : cX11_odds.data.toList.drop 55 = sxX11_odds_55 := dSn 3 shX11_odds_52
theorem shX11_odds_56 : cX11_odds.data.toList.drop 56 = sxX11_odds_56 := dSn 1 shX11_odds_55
theorem shX11_odds_57 : cX11_odds.data.toList.drop 57 = sxX11_odds_57 := dSn 1 shX11_odds_56
theorem shX11_odds_60 : cX11_odds.data.toList.drop 60 = sxX11_odds_60 := dSn 3 shX11_odds_57
theorem shX11_odds_62 : cX11_odds.data.toList.drop 62 = sxX11_odds_62 := dSn 2 shX11_odds_60
theorem shX11_odds_64 : cX11_odds.data.toList.drop 64 = sxX11_odds_64 := dSn 2 shX11_odds_62
theorem shX11_odds_66 : cX11_odds.data.toList.drop 66 = sxX11_odds_66 := dSn 2 shX11_odds_64
theorem shX11_odds_69 : cX11_odds.data.toList.drop 69 = sxX11_odds_69 := dSn 3 shX11_odds_66
theorem shX11_odds_71 : cX11_odds.data.toList.drop 71 = sxX11_odds_71 := dSn 2 shX11_odds_69
theorem shX11_odds_73 : cX11_odds.data.toList.drop 73 = sxX11_odds_73 := dSn 2 shX11_odds_71
theorem shX11_odds_74 : cX11_odds.data.toList.drop 74 = sxX11_odds_74 := dSn 1 shX11_odds_73
theorem shX11_odds_75 : cX11_odds.data.toList.drop 75 = sxX11_odds_75 := dSn 1 shX11_odds_74
theorem shX11_odds_78 : cX11_odds.data.toList.drop 78 = sxX11_odds_78 := dSn 3 shX11_odds_75
theorem shX11_odds_81 : cX11_odds.data.toList.drop 81 = sxX11_odds_81 := dSn 3 shX11_odds_78
theorem shX11_odds_82 : cX11_odds.data.toList.drop 82 = sxX11_odds_82 := dSn 1 shX11_odds_81
theorem shX11_odds_84 : cX11_odds.data.toList.drop 84 = sxX11_odds_84 := dSn 2 shX11_odds_82
theorem shX11_odds_87 : cX11_odds.data.toList.drop 87 = sxX11_odds_87 := dSn 3 shX11_odds_84
theorem shX11_odds_89 : cX11_odds.data.toList.drop 89 = sxX11_odds_89 := dSn 2 shX11_odds_87
theorem shX11_odds_91 : cX11_odds.data.toList.drop 91 = sxX11_odds_91 := dSn 2 shX11_odds_89
theorem shX11_odds_92 : cX11_odds.data.toList.drop 92 = sxX11_odds_92 := dSn 1 shX11_odds_91
theorem shX11_odds_95 : cX11_odds.data.toList.drop 95 = sxX11_odds_95 := dSn 3 shX11_odds_92
theorem shX11_odds_97 : cX11_odds.data.toList.drop 97 = sxX11_odds_97 := dSn 2 shX11_odds_95
theorem shX11_odds_99 : cX11_odds.data.toList.drop 99 = sxX11_odds_99 := dSn 2 shX11_odds_97
theorem shX11_odds_100 : cX11_odds.data.toList.drop 100 = sxX11_odds_100 := dSn 1 shX11_odds_99
theorem dX11_odds_0 : decode cX11_odds 0 = .ok (.iload 4, 2) := oc_21 shX11_odds_0
theorem dX11_odds_2 : decode cX11_odds 2 = .ok (.iconst 2, 1) := oc_5 shX11_odds_2
theorem dX11_odds_3 : decode cX11_odds 3 = .ok (.if_icmp .ne 6, 3) := oc_160 shX11_odds_3 sgw_0_6
theorem dX11_odds_9 : decode cX11_odds 9 = .ok (.lconst 0, 1) := oc_9 shX11_odds_9
theorem dX11_odds_10 : decode cX11_odds 10 = .ok (.lstore 5, 2) := oc_55 shX11_odds_10
theorem dX11_odds_12 : decode cX11_odds 12 = .ok (.iload_n 2, 1) := oc_28 shX11_odds_12
theorem dX11_odds_13 : decode cX11_odds 13 = .ok (.istore 7, 2) := oc_54 shX11_odds_13
theorem dX11_odds_15 : decode cX11_odds 15 = .ok (.iload 7, 2) := oc_21 shX11_odds_15
theorem dX11_odds_17 : decode cX11_odds 17 = .ok (.iload_n 1, 1) := oc_27 shX11_odds_17
theorem dX11_odds_18 : decode cX11_odds 18 = .ok (.if_icmp .gt 37, 3) := oc_163 shX11_odds_18 sgw_0_37
theorem dX11_odds_55 : decode cX11_odds 55 = .ok (.iload_n 3, 1) := oc_29 shX11_odds_55
theorem dX11_odds_56 : decode cX11_odds 56 = .ok (.iload_n 1, 1) := oc_27 shX11_odds_56
theorem dX11_odds_57 : decode cX11_odds 57 = .ok (.invokestatic 246, 3) := oc_184 shX11_odds_57
theorem dX11_odds_60 : decode cX11_odds 60 = .ok (.lstore 7, 2) := oc_55 shX11_odds_60
theorem dX11_odds_62 : decode cX11_odds 62 = .ok (.lload 5, 2) := oc_22 shX11_odds_62
theorem dX11_odds_64 : decode cX11_odds 64 = .ok (.lload 7, 2) := oc_22 shX11_odds_64
theorem dX11_odds_66 : decode cX11_odds 66 = .ok (.invokestatic 250, 3) := oc_184 shX11_odds_66
theorem dX11_odds_69 : decode cX11_odds 69 = .ok (.lstore 9, 2) := oc_55 shX11_odds_69
theorem dX11_odds_71 : decode cX11_odds 71 = .ok (.lload 9, 2) := oc_22 shX11_odds_71
theorem dX11_odds_73 : decode cX11_odds 73 = .ok (.lconst 0, 1) := oc_9 shX11_odds_73
theorem dX11_odds_74 : decode cX11_odds 74 = .ok (.lcmp, 1) := oc_148 shX11_odds_74
theorem dX11_odds_75 : decode cX11_odds 75 = .ok (.ifCond .ne 7, 3) := oc_154 shX11_odds_75 sgw_0_7
theorem dX11_odds_82 : decode cX11_odds 82 = .ok (.iload 4, 2) := oc_21 shX11_odds_82
theorem dX11_odds_84 : decode cX11_odds 84 = .ok (.ifCond .ne 11, 3) := oc_154 shX11_odds_84 sgw_0_11
theorem dX11_odds_95 : decode cX11_odds 95 = .ok (.lload 7, 2) := oc_22 shX11_odds_95
theorem dX11_odds_97 : decode cX11_odds 97 = .ok (.lload 9, 2) := oc_22 shX11_odds_97
theorem dX11_odds_99 : decode cX11_odds 99 = .ok (.ldiv, 1) := oc_109 shX11_odds_99
theorem dX11_odds_100 : decode cX11_odds 100 = .ok (.lreturn, 1) := oc_173 shX11_odds_100
theorem dX11_odds_87 : decode cX11_odds 87 = .ok (.lload 5, 2) := oc_22 shX11_odds_87
theorem dX11_odds_89 : decode cX11_odds 89 = .ok (.lload 9, 2) := oc_22 shX11_odds_89
theorem dX11_odds_91 : decode cX11_odds 91 = .ok (.ldiv, 1) := oc_109 shX11_odds_91
theorem dX11_odds_92 : decode cX11_odds 92 = .ok (.goto 8, 3) := oc_167 shX11_odds_92 sgw_0_8
theorem dX11_odds_78 : decode cX11_odds 78 = .ok (.ldc2_w 254, 3) := oc_20 shX11_odds_78
theorem dX11_odds_81 : decode cX11_odds 81 = .ok (.lreturn, 1) := oc_173 shX11_odds_81
theorem dX11_odds_21 : decode cX11_odds 21 = .ok (.iload 7, 2) := oc_21 shX11_odds_21
theorem dX11_odds_23 : decode cX11_odds 23 = .ok (.iload_n 0, 1) := oc_26 shX11_odds_23
theorem dX11_odds_24 : decode cX11_odds 24 = .ok (.if_icmp .gt 31, 3) := oc_163 shX11_odds_24 sgw_0_31
theorem dX11_odds_27 : decode cX11_odds 27 = .ok (.lload 5, 2) := oc_22 shX11_odds_27
theorem dX11_odds_29 : decode cX11_odds 29 = .ok (.iload_n 0, 1) := oc_26 shX11_odds_29
theorem dX11_odds_30 : decode cX11_odds 30 = .ok (.iload 7, 2) := oc_21 shX11_odds_30
theorem dX11_odds_32 : decode cX11_odds 32 = .ok (.invokestatic 246, 3) := oc_184 shX11_odds_32
theorem dX11_odds_35 : decode cX11_odds 35 = .ok (.iload_n 3, 1) := oc_29 shX11_odds_35
theorem dX11_odds_36 : decode cX11_odds 36 = .ok (.iload_n 0, 1) := oc_26 shX11_odds_36
theorem dX11_odds_37 : decode cX11_odds 37 = .ok (.isub, 1) := oc_100 shX11_odds_37
theorem dX11_odds_38 : decode cX11_odds 38 = .ok (.iload_n 1, 1) := oc_27 shX11_odds_38
theorem dX11_odds_39 : decode cX11_odds 39 = .ok (.iload 7, 2) := oc_21 shX11_odds_39
theorem dX11_odds_41 : decode cX11_odds 41 = .ok (.isub, 1) := oc_100 shX11_odds_41
theorem dX11_odds_42 : decode cX11_odds 42 = .ok (.invokestatic 246, 3) := oc_184 shX11_odds_42
theorem dX11_odds_45 : decode cX11_odds 45 = .ok (.lmul, 1) := oc_105 shX11_odds_45
theorem dX11_odds_46 : decode cX11_odds 46 = .ok (.ladd, 1) := oc_97 shX11_odds_46
theorem dX11_odds_47 : decode cX11_odds 47 = .ok (.lstore 5, 2) := oc_55 shX11_odds_47
theorem dX11_odds_49 : decode cX11_odds 49 = .ok (.iinc 7 1, 3) := oc_132 shX11_odds_49 sgb_1
theorem dX11_odds_52 : decode cX11_odds 52 = .ok (.goto (-37), 3) := oc_167 shX11_odds_52 sgw_255_219
theorem dX11_odds_6 : decode cX11_odds 6 = .ok (.iload_n 2, 1) := oc_28 shX11_odds_6
theorem dX11_odds_7 : decode cX11_odds 7 = .ok (.i2l, 1) := oc_133 shX11_odds_7
theorem dX11_odds_8 : decode cX11_odds 8 = .ok (.lreturn, 1) := oc_173 shX11_odds_8
noncomputable def sxX11_beyond_156 : List UInt8 := []
noncomputable def sxX11_beyond_155 : List UInt8 := 173 :: sxX11_beyond_156
noncomputable def sxX11_beyond_152 : List UInt8 := 184 :: 1 :: 0 :: sxX11_beyond_155
noncomputable def sxX11_beyond_151 : List UInt8 := 28 :: sxX11_beyond_152
noncomputable def sxX11_beyond_148 : List UInt8 := 182 :: 0 :: 84 :: sxX11_beyond_151
noncomputable def sxX11_beyond_145 : List UInt8 := 180 :: 0 :: 65 :: sxX11_beyond_148
noncomputable def sxX11_beyond_144 : List UInt8 := 42 :: sxX11_beyond_145
noncomputable def sxX11_beyond_142 : List UInt8 := 21 :: 5 :: sxX11_beyond_144
noncomputable def sxX11_beyond_140 : List UInt8 := 21 :: 4 :: sxX11_beyond_142
noncomputable def sxX11_beyond_139 : List UInt8 := 29 :: sxX11_beyond_140
noncomputable def sxX11_beyond_136 : List UInt8 := 167 :: 255 :: 154 :: sxX11_beyond_139
noncomputable def sxX11_beyond_133 : List UInt8 := 132 :: 6 :: 1 :: sxX11_beyond_136
noncomputable def sxX11_beyond_131 : List UInt8 := 54 :: 5 :: sxX11_beyond_133
noncomputable def sxX11_beyond_130 : List UInt8 := 96 :: sxX11_beyond_131
noncomputable def sxX11_beyond_129 : List UInt8 := 3 :: sxX11_beyond_130
noncomputable def sxX11_beyond_126 : List UInt8 := 167 :: 0 :: 4 :: sxX11_beyond_129
noncomputable def sxX11_beyond_125 : List UInt8 := 4 :: sxX11_beyond_126
noncomputable def sxX11_beyond_122 : List UInt8 := 158 :: 0 :: 7 :: sxX11_beyond_125
noncomputable def sxX11_beyond_119 : List UInt8 := 180 :: 0 :: 141 :: sxX11_beyond_122
noncomputable def sxX11_beyond_117 : List UInt8 := 25 :: 7 :: sxX11_beyond_119
noncomputable def sxX11_beyond_114 : List UInt8 := 153 :: 0 :: 15 :: sxX11_beyond_117
noncomputable def sxX11_beyond_112 : List UInt8 := 21 :: 8 :: sxX11_beyond_114
noncomputable def sxX11_beyond_110 : List UInt8 := 21 :: 5 :: sxX11_beyond_112
noncomputable def sxX11_beyond_108 : List UInt8 := 54 :: 4 :: sxX11_beyond_110
noncomputable def sxX11_beyond_107 : List UInt8 := 96 :: sxX11_beyond_108
noncomputable def sxX11_beyond_106 : List UInt8 := 3 :: sxX11_beyond_107
noncomputable def sxX11_beyond_103 : List UInt8 := 167 :: 0 :: 4 :: sxX11_beyond_106
noncomputable def sxX11_beyond_102 : List UInt8 := 4 :: sxX11_beyond_103
noncomputable def sxX11_beyond_99 : List UInt8 := 153 :: 0 :: 7 :: sxX11_beyond_102
noncomputable def sxX11_beyond_97 : List UInt8 := 21 :: 8 :: sxX11_beyond_99
noncomputable def sxX11_beyond_95 : List UInt8 := 21 :: 4 :: sxX11_beyond_97
noncomputable def sxX11_beyond_94 : List UInt8 := 62 :: sxX11_beyond_95
noncomputable def sxX11_beyond_93 : List UInt8 := 96 :: sxX11_beyond_94
noncomputable def sxX11_beyond_92 : List UInt8 := 3 :: sxX11_beyond_93
noncomputable def sxX11_beyond_89 : List UInt8 := 167 :: 0 :: 4 :: sxX11_beyond_92
noncomputable def sxX11_beyond_88 : List UInt8 := 4 :: sxX11_beyond_89
noncomputable def sxX11_beyond_85 : List UInt8 := 158 :: 0 :: 7 :: sxX11_beyond_88
noncomputable def sxX11_beyond_82 : List UInt8 := 180 :: 0 :: 141 :: sxX11_beyond_85
noncomputable def sxX11_beyond_80 : List UInt8 := 25 :: 7 :: sxX11_beyond_82
noncomputable def sxX11_beyond_79 : List UInt8 := 29 :: sxX11_beyond_80
noncomputable def sxX11_beyond_77 : List UInt8 := 54 :: 8 :: sxX11_beyond_79
noncomputable def sxX11_beyond_76 : List UInt8 := 3 :: sxX11_beyond_77
noncomputable def sxX11_beyond_73 : List UInt8 := 167 :: 0 :: 4 :: sxX11_beyond_76
noncomputable def sxX11_beyond_72 : List UInt8 := 4 :: sxX11_beyond_73
noncomputable def sxX11_beyond_69 : List UInt8 := 160 :: 0 :: 7 :: sxX11_beyond_72
noncomputable def sxX11_beyond_68 : List UInt8 := 27 :: sxX11_beyond_69
noncomputable def sxX11_beyond_67 : List UInt8 := 112 :: sxX11_beyond_68
noncomputable def sxX11_beyond_65 : List UInt8 := 16 :: 7 :: sxX11_beyond_67
noncomputable def sxX11_beyond_62 : List UInt8 := 180 :: 0 :: 196 :: sxX11_beyond_65
noncomputable def sxX11_beyond_60 : List UInt8 := 25 :: 7 :: sxX11_beyond_62
noncomputable def sxX11_beyond_58 : List UInt8 := 58 :: 7 :: sxX11_beyond_60
noncomputable def sxX11_beyond_55 : List UInt8 := 192 :: 0 :: 93 :: sxX11_beyond_58
noncomputable def sxX11_beyond_52 : List UInt8 := 182 :: 0 :: 87 :: sxX11_beyond_55
noncomputable def sxX11_beyond_50 : List UInt8 := 21 :: 6 :: sxX11_beyond_52
noncomputable def sxX11_beyond_47 : List UInt8 := 180 :: 0 :: 65 :: sxX11_beyond_50
noncomputable def sxX11_beyond_46 : List UInt8 := 42 :: sxX11_beyond_47
noncomputable def sxX11_beyond_43 : List UInt8 := 162 :: 0 :: 96 :: sxX11_beyond_46
noncomputable def sxX11_beyond_40 : List UInt8 := 182 :: 0 :: 84 :: sxX11_beyond_43
noncomputable def sxX11_beyond_37 : List UInt8 := 180 :: 0 :: 65 :: sxX11_beyond_40
noncomputable def sxX11_beyond_36 : List UInt8 := 42 :: sxX11_beyond_37
noncomputable def sxX11_beyond_34 : List UInt8 := 21 :: 6 :: sxX11_beyond_36
noncomputable def sxX11_beyond_32 : List UInt8 := 54 :: 6 :: sxX11_beyond_34
noncomputable def sxX11_beyond_31 : List UInt8 := 3 :: sxX11_beyond_32
noncomputable def sxX11_beyond_29 : List UInt8 := 54 :: 5 :: sxX11_beyond_31
noncomputable def sxX11_beyond_28 : List UInt8 := 3 :: sxX11_beyond_29
noncomputable def sxX11_beyond_26 : List UInt8 := 54 :: 4 :: sxX11_beyond_28
noncomputable def sxX11_beyond_25 : List UInt8 := 3 :: sxX11_beyond_26
noncomputable def sxX11_beyond_24 : List UInt8 := 62 :: sxX11_beyond_25
noncomputable def sxX11_beyond_23 : List UInt8 := 3 :: sxX11_beyond_24
noncomputable def sxX11_beyond_22 : List UInt8 := 173 :: sxX11_beyond_23
noncomputable def sxX11_beyond_19 : List UInt8 := 20 :: 0 :: 254 :: sxX11_beyond_22
noncomputable def sxX11_beyond_16 : List UInt8 := 154 :: 0 :: 7 :: sxX11_beyond_19
noncomputable def sxX11_beyond_13 : List UInt8 := 184 :: 0 :: 80 :: sxX11_beyond_16
noncomputable def sxX11_beyond_12 : List UInt8 := 5 :: sxX11_beyond_13
noncomputable def sxX11_beyond_11 : List UInt8 := 3 :: sxX11_beyond_12
noncomputable def sxX11_beyond_10 : List UInt8 := 28 :: sxX11_beyond_11
noncomputable def sxX11_beyond_7 : List UInt8 := 153 :: 0 :: 12 :: sxX11_beyond_10
noncomputable def sxX11_beyond_4 : List UInt8 := 184 :: 0 :: 80 :: sxX11_beyond_7
noncomputable def sxX11_beyond_2 : List UInt8 := 16 :: 6 :: sxX11_beyond_4
noncomputable def sxX11_beyond_1 : List UInt8 := 3 :: sxX11_beyond_2
noncomputable def sxX11_beyond_0 : List UInt8 := 27 :: sxX11_beyond_1
theorem shX11_beyond_0 : cX11_beyond.data.toList.drop 0 = sxX11_beyond_0 := rfl
theorem shX11_beyond_1 : cX11_beyond.data.toList.drop 1 = sxX11_beyond_1 := dSn 1 shX11_beyond_0
theorem shX11_beyond_2 : cX11_beyond.data.toList.drop 2 = sxX11_beyond_2 := dSn 1 shX11_beyond_1
theorem shX11_beyond_4 : cX11_beyond.data.toList.drop 4 = sxX11_beyond_4 := dSn 2 shX11_beyond_2
theorem shX11_beyond_7 : cX11_beyond.data.toList.drop 7 = sxX11_beyond_7 := dSn 3 shX11_beyond_4
theorem shX11_beyond_10 : cX11_beyond.data.toList.drop 10 = sxX11_beyond_10 := dSn 3 shX11_beyond_7
theorem shX11_beyond_11 : cX11_beyond.data.toList.drop 11 = sxX11_beyond_11 := dSn 1 shX11_beyond_10
theorem shX11_beyond_12 : cX11_beyond.data.toList.drop 12 = sxX11_beyond_12 := dSn 1 shX11_beyond_11
theorem shX11_beyond_13 : cX11_beyond.data.toList.drop 13 = sxX11_beyond_13 := dSn 1 shX11_beyond_12
theorem shX11_beyond_16 : cX11_beyond.data.toList.drop 16 = sxX11_beyond_16 := dSn 3 shX11_beyond_13
theorem shX11_beyond_19 : cX11_beyond.data.toList.drop 19 = sxX11_beyond_19 := dSn 3 shX11_beyond_16
theorem shX11_beyond_22 : cX11_beyond.data.toList.drop 22 = sxX11_beyond_22 := dSn 3 shX11_beyond_19
theorem shX11_beyond_23 : cX11_beyond.data.toList.drop 23 = sxX11_beyond_23 := dSn 1 shX11_beyond_22
theorem shX11_beyond_24 : cX11_beyond.data.toList.drop 24 = sxX11_beyond_24 := dSn 1 shX11_beyond_23
theorem shX11_beyond_25 : cX11_beyond.data.toList.drop 25 = sxX11_beyond_25 := dSn 1 shX11_beyond_24
theorem shX11_beyond_26 : cX11_beyond.data.toList.drop 26 = sxX11_beyond_26 := dSn 1 shX11_beyond_25
theorem shX11_beyond_28 : cX11_beyond.data.toList.drop 28 = sxX11_beyond_28 := dSn 2 shX11_beyond_26
theorem shX11_beyond_29 : cX11_beyond.data.toList.drop 29 = sxX11_beyond_29 := dSn 1 shX11_beyond_28
theorem shX11_beyond_31 : cX11_beyond.data.toList.drop 31 = sxX11_beyond_31 := dSn 2 shX11_beyond_29
theorem shX11_beyond_32 : cX11_beyond.data.toList.drop 32 = sxX11_beyond_32 := dSn 1 shX11_beyond_31
theorem shX11_beyond_34 : cX11_beyond.data.toList.drop 34 = sxX11_beyond_34 := dSn 2 shX11_beyond_32
theorem shX11_beyond_36 : cX11_beyond.data.toList.drop 36 = sxX11_beyond_36 := dSn 2 shX11_beyond_34
theorem shX11_beyond_37 : cX11_beyond.data.toList.drop 37 = sxX11_beyond_37 := dSn 1 shX11_beyond_36
theorem shX11_beyond_40 : cX11_beyond.data.toList.drop 40 = sxX11_beyond_40 := dSn 3 shX11_beyond_37
theorem shX11_beyond_43 : cX11_beyond.data.toList.drop 43 = sxX11_beyond_43 := dSn 3 shX11_beyond_40
theorem shX11_beyond_46 : cX11_beyond.data.toList.drop 46 = sxX11_beyond_46 := dSn 3 shX11_beyond_43
theorem shX11_beyond_47 : cX11_beyond.data.toList.drop 47 = sxX11_beyond_47 := dSn 1 shX11_beyond_46
theorem shX11_beyond_50 : cX11_beyond.data.toList.drop 50 = sxX11_beyond_50 := dSn 3 shX11_beyond_47
theorem shX11_beyond_52 : cX11_beyond.data.toList.drop 52 = sxX11_beyond_52 := dSn 2 shX11_beyond_50
theorem shX11_beyond_55 : cX11_beyond.data.toList.drop 55 = sxX11_beyond_55 := dSn 3 shX11_beyond_52
theorem shX11_beyond_58 : cX11_beyond.data.toList.drop 58 = sxX11_beyond_58 := dSn 3 shX11_beyond_55
theorem shX11_beyond_60 : cX11_beyond.data.toList.drop 60 = sxX11_beyond_60 := dSn 2 shX11_beyond_58
theorem shX11_beyond_62 : cX11_beyond.data.toList.drop 62 = sxX11_beyond_62 := dSn 2 shX11_beyond_60
theorem shX11_beyond_65 : cX11_beyond.data.toList.drop 65 = sxX11_beyond_65 := dSn 3 shX11_beyond_62
theorem shX11_beyond_67 : cX11_beyond.data.toList.drop 67 = sxX11_beyond_67 := dSn 2 shX11_beyond_65
theorem shX11_beyond_68 : cX11_beyond.data.toList.drop 68 = sxX11_beyond_68 := dSn 1 shX11_beyond_67
theorem shX11_beyond_69 : cX11_beyond.data.toList.drop 69 = sxX11_beyond_69 := dSn 1 shX11_beyond_68
theorem shX11_beyond_72 : cX11_beyond.data.toList.drop 72 = sxX11_beyond_72 := dSn 3 shX11_beyond_69
theorem shX11_beyond_73 : cX11_beyond.data.toList.drop 73 = sxX11_beyond_73 := dSn 1 shX11_beyond_72
theorem shX11_beyond_76 : cX11_beyond.data.toList.drop 76 = sxX11_beyond_76 := dSn 3 shX11_beyond_73
theorem shX11_beyond_77 : cX11_beyond.data.toList.drop 77 = sxX11_beyond_77 := dSn 1 shX11_beyond_76
theorem shX11_beyond_79 : cX11_beyond.data.toList.drop 79 = sxX11_beyond_79 := dSn 2 shX11_beyond_77
theorem shX11_beyond_80 : cX11_beyond.data.toList.drop 80 = sxX11_beyond_80 := dSn 1 shX11_beyond_79
theorem shX11_beyond_82 : cX11_beyond.data.toList.drop 82 = sxX11_beyond_82 := dSn 2 shX11_beyond_80
theorem shX11_beyond_85 : cX11_beyond.data.toList.drop 85 = sxX11_beyond_85 := dSn 3 shX11_beyond_82
theorem shX11_beyond_88 : cX11_beyond.data.toList.drop 88 = sxX11_beyond_88 := dSn 3 shX11_beyond_85
theorem shX11_beyond_89 : cX11_beyond.data.toList.drop 89 = sxX11_beyond_89 := dSn 1 shX11_beyond_88
theorem shX11_beyond_92 : cX11_beyond.data.toList.drop 92 = sxX11_beyond_92 := dSn 3 shX11_beyond_89
theorem shX11_beyond_93 : cX11_beyond.data.toList.drop 93 = sxX11_beyond_93 := dSn 1 shX11_beyond_92
theorem shX11_beyond_94 : cX11_beyond.data.toList.drop 94 = sxX11_beyond_94 := dSn 1 shX11_beyond_93
theorem shX11_beyond_95 : cX11_beyond.data.toList.drop 95 = sxX11_beyond_95 := dSn 1 shX11_beyond_94
theorem shX11_beyond_97 : cX11_beyond.data.toList.drop 97 = sxX11_beyond_97 := dSn 2 shX11_beyond_95
theorem shX11_beyond_99 : cX11_beyond.data.toList.drop 99 = sxX11_beyond_99 := dSn 2 shX11_beyond_97
theorem shX11_beyond_102 : cX11_beyond.data.toList.drop 102 = sxX11_beyond_102 := dSn 3 shX11_beyond_99
theorem shX11_beyond_103 : cX11_beyond.data.toList.drop 103 = sxX11_beyond_103 := dSn 1 shX11_beyond_102
theorem shX11_beyond_106 : cX11_beyond.data.toList.drop 106 = sxX11_beyond_106 := dSn 3 shX11_beyond_103
theorem shX11_beyond_107 : cX11_beyond.data.toList.drop 107 = sxX11_beyond_107 := dSn 1 shX11_beyond_106
theorem shX11_beyond_108 : cX11_beyond.data.toList.drop 108 = sxX11_beyond_108 := dSn 1 shX11_beyond_107
theorem shX11_beyond_110 : cX11_beyond.data.toList.drop 110 = sxX11_beyond_110 := dSn 2 shX11_beyond_108
theorem shX11_beyond_112 : cX11_beyond.data.toList.drop 112 = sxX11_beyond_112 := dSn 2 shX11_beyond_110
theorem shX11_beyond_114 : cX11_beyond.data.toList.drop 114 = sxX11_beyond_114 := dSn 2 shX11_beyond_112
theorem shX11_beyond_117 : cX11_beyond.data.toList.drop 117 = sxX11_beyond_117 := dSn 3 shX11_beyond_114
theorem shX11_beyond_119 : cX11_beyond.data.toList.drop 119 = sxX11_beyond_119 := dSn 2 shX11_beyond_117
theorem shX11_beyond_122 : cX11_beyond.data.toList.drop 122 = sxX11_beyond_122 := dSn 3 shX11_beyond_119
theorem shX11_beyond_125 : cX11_beyond.data.toList.drop 125 = sxX11_beyond_125 := dSn 3 shX11_beyond_122
theorem shX11_beyond_126 : cX11_beyond.data.toList.drop 126 = sxX11_beyond_126 := dSn 1 shX11_beyond_125
theorem shX11_beyond_129 : cX11_beyond.data.toList.drop 129 = sxX11_beyond_129 := dSn 3 shX11_beyond_126
theorem shX11_beyond_130 : cX11_beyond.data.toList.drop 130 = sxX11_beyond_130 := dSn 1 shX11_beyond_129
theorem shX11_beyond_131 : cX11_beyond.data.toList.drop 131 = sxX11_beyond_131 := dSn 1 shX11_beyond_130
theorem shX11_beyond_133 : cX11_beyond.data.toList.drop 133 = sxX11_beyond_133 := dSn 2 shX11_beyond_131
theorem shX11_beyond_136 : cX11_beyond.data.toList.drop 136 = sxX11_beyond_136 := dSn 3 shX11_beyond_133
theorem shX11_beyond_139 : cX11_beyond.data.toList.drop 139 = sxX11_beyond_139 := dSn 3 shX11_beyond_136
theorem shX11_beyond_140 : cX11_beyond.data.toList.drop 140 = sxX11_beyond_140 := dSn 1 shX11_beyond_139
theorem shX11_beyond_142 : cX11_beyond.data.toList.drop 142 = sxX11_beyond_142 := dSn 2 shX11_beyond_140
theorem shX11_beyond_144 : cX11_beyond.data.toList.drop 144 = sxX11_beyond_144 := dSn 2 shX11_beyond_142
theorem shX11_beyond_145 : cX11_beyond.data.toList.drop 145 = sxX11_beyond_145 := dSn 1 shX11_beyond_144
theorem shX11_beyond_148 : cX11_beyond.data.toList.drop 148 = sxX11_beyond_148 := dSn 3 shX11_beyond_145
theorem shX11_beyond_151 : cX11_beyond.data.toList.drop 151 = sxX11_beyond_151 := dSn 3 shX11_beyond_148
theorem shX11_beyond_152 : cX11_beyond.data.toList.drop 152 = sxX11_beyond_152 := dSn 1 shX11_beyond_151
theorem shX11_beyond_155 : cX11_beyond.data.toList.drop 155 = sxX11_beyond_155 := dSn 3 shX11_beyond_152
theorem dX11_beyond_0 : decode cX11_beyond 0 = .ok (.iload_n 1, 1) := oc_27 shX11_beyond_0
theorem dX11_beyond_1 : decode cX11_beyond 1 = .ok (.iconst 0, 1) := oc_3 shX11_beyond_1
theorem dX11_beyond_2 : decode cX11_beyond 2 = .ok (.bipush 6, 2) := oc_16 shX11_beyond_2 sgb_6
theorem dX11_beyond_4 : decode cX11_beyond 4 = .ok (.invokestatic 80, 3) := oc_184 shX11_beyond_4
theorem dX11_beyond_7 : decode cX11_beyond 7 = .ok (.ifCond .eq 12, 3) := oc_153 shX11_beyond_7 sgw_0_12
theorem dX11_beyond_10 : decode cX11_beyond 10 = .ok (.iload_n 2, 1) := oc_28 shX11_beyond_10
theorem dX11_beyond_11 : decode cX11_beyond 11 = .ok (.iconst 0, 1) := oc_3 shX11_beyond_11
theorem dX11_beyond_12 : decode cX11_beyond 12 = .ok (.iconst 2, 1) := oc_5 shX11_beyond_12
theorem dX11_beyond_13 : decode cX11_beyond 13 = .ok (.invokestatic 80, 3) := oc_184 shX11_beyond_13
theorem dX11_beyond_16 : decode cX11_beyond 16 = .ok (.ifCond .ne 7, 3) := oc_154 shX11_beyond_16 sgw_0_7
theorem dX11_beyond_23 : decode cX11_beyond 23 = .ok (.iconst 0, 1) := oc_3 shX11_beyond_23
theorem dX11_beyond_24 : decode cX11_beyond 24 = .ok (.istore_n 3, 1) := oc_62 shX11_beyond_24
theorem dX11_beyond_25 : decode cX11_beyond 25 = .ok (.iconst 0, 1) := oc_3 shX11_beyond_25
theorem dX11_beyond_26 : decode cX11_beyond 26 = .ok (.istore 4, 2) := oc_54 shX11_beyond_26
theorem dX11_beyond_28 : decode cX11_beyond 28 = .ok (.iconst 0, 1) := oc_3 shX11_beyond_28
theorem dX11_beyond_29 : decode cX11_beyond 29 = .ok (.istore 5, 2) := oc_54 shX11_beyond_29
theorem dX11_beyond_31 : decode cX11_beyond 31 = .ok (.iconst 0, 1) := oc_3 shX11_beyond_31
theorem dX11_beyond_32 : decode cX11_beyond 32 = .ok (.istore 6, 2) := oc_54 shX11_beyond_32
theorem dX11_beyond_34 : decode cX11_beyond 34 = .ok (.iload 6, 2) := oc_21 shX11_beyond_34
theorem dX11_beyond_36 : decode cX11_beyond 36 = .ok (.aload_n 0, 1) := oc_42 shX11_beyond_36
theorem dX11_beyond_37 : decode cX11_beyond 37 = .ok (.getfield 65, 3) := oc_180 shX11_beyond_37
theorem dX11_beyond_40 : decode cX11_beyond 40 = .ok (.invokevirtual 84, 3) := oc_182 shX11_beyond_40
theorem dX11_beyond_43 : decode cX11_beyond 43 = .ok (.if_icmp .ge 96, 3) := oc_162 shX11_beyond_43 sgw_0_96
theorem dX11_beyond_139 : decode cX11_beyond 139 = .ok (.iload_n 3, 1) := oc_29 shX11_beyond_139
theorem dX11_beyond_140 : decode cX11_beyond 140 = .ok (.iload 4, 2) := oc_21 shX11_beyond_140
theorem dX11_beyond_142 : decode cX11_beyond 142 = .ok (.iload 5, 2) := oc_21 shX11_beyond_142
theorem dX11_beyond_144 : decode cX11_beyond 144 = .ok (.aload_n 0, 1) := oc_42 shX11_beyond_144
theorem dX11_beyond_145 : decode cX11_beyond 145 = .ok (.getfield 65, 3) := oc_180 shX11_beyond_145
theorem dX11_beyond_148 : decode cX11_beyond 148 = .ok (.invokevirtual 84, 3) := oc_182 shX11_beyond_148
theorem dX11_beyond_151 : decode cX11_beyond 151 = .ok (.iload_n 2, 1) := oc_28 shX11_beyond_151
theorem dX11_beyond_152 : decode cX11_beyond 152 = .ok (.invokestatic 256, 3) := oc_184 shX11_beyond_152
theorem dX11_beyond_155 : decode cX11_beyond 155 = .ok (.lreturn, 1) := oc_173 shX11_beyond_155
theorem dX11_beyond_46 : decode cX11_beyond 46 = .ok (.aload_n 0, 1) := oc_42 shX11_beyond_46
theorem dX11_beyond_47 : decode cX11_beyond 47 = .ok (.getfield 65, 3) := oc_180 shX11_beyond_47
theorem dX11_beyond_50 : decode cX11_beyond 50 = .ok (.iload 6, 2) := oc_21 shX11_beyond_50
theorem dX11_beyond_52 : decode cX11_beyond 52 = .ok (.invokevirtual 87, 3) := oc_182 shX11_beyond_52
theorem dX11_beyond_55 : decode cX11_beyond 55 = .ok (.checkcast 93, 3) := oc_192 shX11_beyond_55
theorem dX11_beyond_58 : decode cX11_beyond 58 = .ok (.astore 7, 2) := oc_58 shX11_beyond_58
theorem dX11_beyond_60 : decode cX11_beyond 60 = .ok (.aload 7, 2) := oc_25 shX11_beyond_60
theorem dX11_beyond_62 : decode cX11_beyond 62 = .ok (.getfield 196, 3) := oc_180 shX11_beyond_62
theorem dX11_beyond_65 : decode cX11_beyond 65 = .ok (.bipush 7, 2) := oc_16 shX11_beyond_65 sgb_7
theorem dX11_beyond_67 : decode cX11_beyond 67 = .ok (.irem, 1) := oc_112 shX11_beyond_67
theorem dX11_beyond_68 : decode cX11_beyond 68 = .ok (.iload_n 1, 1) := oc_27 shX11_beyond_68
theorem dX11_beyond_69 : decode cX11_beyond 69 = .ok (.if_icmp .ne 7, 3) := oc_160 shX11_beyond_69 sgw_0_7
theorem dX11_beyond_76 : decode cX11_beyond 76 = .ok (.iconst 0, 1) := oc_3 shX11_beyond_76
theorem dX11_beyond_77 : decode cX11_beyond 77 = .ok (.istore 8, 2) := oc_54 shX11_beyond_77
theorem dX11_beyond_79 : decode cX11_beyond 79 = .ok (.iload_n 3, 1) := oc_29 shX11_beyond_79
theorem dX11_beyond_80 : decode cX11_beyond 80 = .ok (.aload 7, 2) := oc_25 shX11_beyond_80
theorem dX11_beyond_82 : decode cX11_beyond 82 = .ok (.getfield 141, 3) := oc_180 shX11_beyond_82
theorem dX11_beyond_85 : decode cX11_beyond 85 = .ok (.ifCond .le 7, 3) := oc_158 shX11_beyond_85 sgw_0_7
theorem dX11_beyond_92 : decode cX11_beyond 92 = .ok (.iconst 0, 1) := oc_3 shX11_beyond_92
theorem dX11_beyond_93 : decode cX11_beyond 93 = .ok (.iadd, 1) := oc_96 shX11_beyond_93
theorem dX11_beyond_94 : decode cX11_beyond 94 = .ok (.istore_n 3, 1) := oc_62 shX11_beyond_94
theorem dX11_beyond_95 : decode cX11_beyond 95 = .ok (.iload 4, 2) := oc_21 shX11_beyond_95
theorem dX11_beyond_97 : decode cX11_beyond 97 = .ok (.iload 8, 2) := oc_21 shX11_beyond_97
theorem dX11_beyond_99 : decode cX11_beyond 99 = .ok (.ifCond .eq 7, 3) := oc_153 shX11_beyond_99 sgw_0_7
theorem dX11_beyond_106 : decode cX11_beyond 106 = .ok (.iconst 0, 1) := oc_3 shX11_beyond_106
theorem dX11_beyond_107 : decode cX11_beyond 107 = .ok (.iadd, 1) := oc_96 shX11_beyond_107
theorem dX11_beyond_108 : decode cX11_beyond 108 = .ok (.istore 4, 2) := oc_54 shX11_beyond_108
theorem dX11_beyond_110 : decode cX11_beyond 110 = .ok (.iload 5, 2) := oc_21 shX11_beyond_110
theorem dX11_beyond_112 : decode cX11_beyond 112 = .ok (.iload 8, 2) := oc_21 shX11_beyond_112
theorem dX11_beyond_114 : decode cX11_beyond 114 = .ok (.ifCond .eq 15, 3) := oc_153 shX11_beyond_114 sgw_0_15
theorem dX11_beyond_129 : decode cX11_beyond 129 = .ok (.iconst 0, 1) := oc_3 shX11_beyond_129
theorem dX11_beyond_130 : decode cX11_beyond 130 = .ok (.iadd, 1) := oc_96 shX11_beyond_130
theorem dX11_beyond_131 : decode cX11_beyond 131 = .ok (.istore 5, 2) := oc_54 shX11_beyond_131
theorem dX11_beyond_133 : decode cX11_beyond 133 = .ok (.iinc 6 1, 3) := oc_132 shX11_beyond_133 sgb_1
theorem dX11_beyond_136 : decode cX11_beyond 136 = .ok (.goto (-102), 3) := oc_167 shX11_beyond_136 sgw_255_154
theorem dX11_beyond_88 : decode cX11_beyond 88 = .ok (.iconst 1, 1) := oc_4 shX11_beyond_88
theorem dX11_beyond_89 : decode cX11_beyond 89 = .ok (.goto 4, 3) := oc_167 shX11_beyond_89 sgw_0_4
theorem dX11_beyond_72 : decode cX11_beyond 72 = .ok (.iconst 1, 1) := oc_4 shX11_beyond_72
theorem dX11_beyond_73 : decode cX11_beyond 73 = .ok (.goto 4, 3) := oc_167 shX11_beyond_73 sgw_0_4
theorem dX11_beyond_102 : decode cX11_beyond 102 = .ok (.iconst 1, 1) := oc_4 shX11_beyond_102
theorem dX11_beyond_103 : decode cX11_beyond 103 = .ok (.goto 4, 3) := oc_167 shX11_beyond_103 sgw_0_4
theorem dX11_beyond_117 : decode cX11_beyond 117 = .ok (.aload 7, 2) := oc_25 shX11_beyond_117
theorem dX11_beyond_119 : decode cX11_beyond 119 = .ok (.getfield 141, 3) := oc_180 shX11_beyond_119
theorem dX11_beyond_122 : decode cX11_beyond 122 = .ok (.ifCond .le 7, 3) := oc_158 shX11_beyond_122 sgw_0_7
theorem dX11_beyond_125 : decode cX11_beyond 125 = .ok (.iconst 1, 1) := oc_4 shX11_beyond_125
theorem dX11_beyond_126 : decode cX11_beyond 126 = .ok (.goto 4, 3) := oc_167 shX11_beyond_126 sgw_0_4
theorem dX11_beyond_19 : decode cX11_beyond 19 = .ok (.ldc2_w 254, 3) := oc_20 shX11_beyond_19
theorem dX11_beyond_22 : decode cX11_beyond 22 = .ok (.lreturn, 1) := oc_173 shX11_beyond_22
noncomputable def sxX11_streets_169 : List UInt8 := []
noncomputable def sxX11_streets_168 : List UInt8 := 173 :: sxX11_streets_169
noncomputable def sxX11_streets_165 : List UInt8 := 184 :: 1 :: 0 :: sxX11_streets_168
noncomputable def sxX11_streets_164 : List UInt8 := 28 :: sxX11_streets_165
noncomputable def sxX11_streets_161 : List UInt8 := 182 :: 0 :: 84 :: sxX11_streets_164
noncomputable def sxX11_streets_158 : List UInt8 := 180 :: 0 :: 65 :: sxX11_streets_161
noncomputable def sxX11_streets_157 : List UInt8 := 42 :: sxX11_streets_158
noncomputable def sxX11_streets_155 : List UInt8 := 21 :: 5 :: sxX11_streets_157
noncomputable def sxX11_streets_153 : List UInt8 := 21 :: 4 :: sxX11_streets_155
noncomputable def sxX11_streets_152 : List UInt8 := 29 :: sxX11_streets_153
noncomputable def sxX11_streets_149 : List UInt8 := 167 :: 255 :: 141 :: sxX11_streets_152
noncomputable def sxX11_streets_146 : List UInt8 := 132 :: 6 :: 1 :: sxX11_streets_149
noncomputable def sxX11_streets_144 : List UInt8 := 54 :: 5 :: sxX11_streets_146
noncomputable def sxX11_streets_143 : List UInt8 := 96 :: sxX11_streets_144
noncomputable def sxX11_streets_142 : List UInt8 := 3 :: sxX11_streets_143
noncomputable def sxX11_streets_139 : List UInt8 := 167 :: 0 :: 4 :: sxX11_streets_142
noncomputable def sxX11_streets_138 : List UInt8 := 4 :: sxX11_streets_139
noncomputable def sxX11_streets_135 : List UInt8 := 158 :: 0 :: 7 :: sxX11_streets_138
noncomputable def sxX11_streets_132 : List UInt8 := 180 :: 0 :: 141 :: sxX11_streets_135
noncomputable def sxX11_streets_130 : List UInt8 := 25 :: 7 :: sxX11_streets_132
noncomputable def sxX11_streets_127 : List UInt8 := 153 :: 0 :: 15 :: sxX11_streets_130
noncomputable def sxX11_streets_125 : List UInt8 := 21 :: 9 :: sxX11_streets_127
noncomputable def sxX11_streets_123 : List UInt8 := 21 :: 5 :: sxX11_streets_125
noncomputable def sxX11_streets_121 : List UInt8 := 54 :: 4 :: sxX11_streets_123
noncomputable def sxX11_streets_120 : List UInt8 := 96 :: sxX11_streets_121
noncomputable def sxX11_streets_119 : List UInt8 := 3 :: sxX11_streets_120
noncomputable def sxX11_streets_116 : List UInt8 := 167 :: 0 :: 4 :: sxX11_streets_119
noncomputable def sxX11_streets_115 : List UInt8 := 4 :: sxX11_streets_116
noncomputable def sxX11_streets_112 : List UInt8 := 153 :: 0 :: 7 :: sxX11_streets_115
noncomputable def sxX11_streets_110 : List UInt8 := 21 :: 9 :: sxX11_streets_112
noncomputable def sxX11_streets_108 : List UInt8 := 21 :: 4 :: sxX11_streets_110
noncomputable def sxX11_streets_107 : List UInt8 := 62 :: sxX11_streets_108
noncomputable def sxX11_streets_106 : List UInt8 := 96 :: sxX11_streets_107
noncomputable def sxX11_streets_105 : List UInt8 := 3 :: sxX11_streets_106
noncomputable def sxX11_streets_102 : List UInt8 := 167 :: 0 :: 4 :: sxX11_streets_105
noncomputable def sxX11_streets_101 : List UInt8 := 4 :: sxX11_streets_102
noncomputable def sxX11_streets_98 : List UInt8 := 158 :: 0 :: 7 :: sxX11_streets_101
noncomputable def sxX11_streets_95 : List UInt8 := 180 :: 0 :: 141 :: sxX11_streets_98
noncomputable def sxX11_streets_93 : List UInt8 := 25 :: 7 :: sxX11_streets_95
noncomputable def sxX11_streets_92 : List UInt8 := 29 :: sxX11_streets_93
noncomputable def sxX11_streets_90 : List UInt8 := 54 :: 9 :: sxX11_streets_92
noncomputable def sxX11_streets_89 : List UInt8 := 3 :: sxX11_streets_90
noncomputable def sxX11_streets_86 : List UInt8 := 167 :: 0 :: 4 :: sxX11_streets_89
noncomputable def sxX11_streets_85 : List UInt8 := 4 :: sxX11_streets_86
noncomputable def sxX11_streets_82 : List UInt8 := 160 :: 0 :: 7 :: sxX11_streets_85
noncomputable def sxX11_streets_81 : List UInt8 := 27 :: sxX11_streets_82
noncomputable def sxX11_streets_78 : List UInt8 := 180 :: 1 :: 4 :: sxX11_streets_81
noncomputable def sxX11_streets_76 : List UInt8 := 25 :: 8 :: sxX11_streets_78
noncomputable def sxX11_streets_73 : List UInt8 := 198 :: 0 :: 16 :: sxX11_streets_76
noncomputable def sxX11_streets_71 : List UInt8 := 25 :: 8 :: sxX11_streets_73
noncomputable def sxX11_streets_69 : List UInt8 := 58 :: 8 :: sxX11_streets_71
noncomputable def sxX11_streets_66 : List UInt8 := 182 :: 0 :: 114 :: sxX11_streets_69
noncomputable def sxX11_streets_63 : List UInt8 := 180 :: 0 :: 211 :: sxX11_streets_66
noncomputable def sxX11_streets_61 : List UInt8 := 25 :: 7 :: sxX11_streets_63
noncomputable def sxX11_streets_60 : List UInt8 := 42 :: sxX11_streets_61
noncomputable def sxX11_streets_58 : List UInt8 := 58 :: 7 :: sxX11_streets_60
noncomputable def sxX11_streets_55 : List UInt8 := 192 :: 0 :: 93 :: sxX11_streets_58
noncomputable def sxX11_streets_52 : List UInt8 := 182 :: 0 :: 87 :: sxX11_streets_55
noncomputable def sxX11_streets_50 : List UInt8 := 21 :: 6 :: sxX11_streets_52
noncomputable def sxX11_streets_47 : List UInt8 := 180 :: 0 :: 65 :: sxX11_streets_50
noncomputable def sxX11_streets_46 : List UInt8 := 42 :: sxX11_streets_47
noncomputable def sxX11_streets_43 : List UInt8 := 162 :: 0 :: 109 :: sxX11_streets_46
noncomputable def sxX11_streets_40 : List UInt8 := 182 :: 0 :: 84 :: sxX11_streets_43
noncomputable def sxX11_streets_37 : List UInt8 := 180 :: 0 :: 65 :: sxX11_streets_40
noncomputable def sxX11_streets_36 : List UInt8 := 42 :: sxX11_streets_37
noncomputable def sxX11_streets_34 : List UInt8 := 21 :: 6 :: sxX11_streets_36
noncomputable def sxX11_streets_32 : List UInt8 := 54 :: 6 :: sxX11_streets_34
noncomputable def sxX11_streets_31 : List UInt8 := 3 :: sxX11_streets_32
noncomputable def sxX11_streets_29 : List UInt8 := 54 :: 5 :: sxX11_streets_31
noncomputable def sxX11_streets_28 : List UInt8 := 3 :: sxX11_streets_29
noncomputable def sxX11_streets_26 : List UInt8 := 54 :: 4 :: sxX11_streets_28
noncomputable def sxX11_streets_25 : List UInt8 := 3 :: sxX11_streets_26
noncomputable def sxX11_streets_24 : List UInt8 := 62 :: sxX11_streets_25
noncomputable def sxX11_streets_23 : List UInt8 := 3 :: sxX11_streets_24
noncomputable def sxX11_streets_22 : List UInt8 := 173 :: sxX11_streets_23
noncomputable def sxX11_streets_19 : List UInt8 := 20 :: 0 :: 254 :: sxX11_streets_22
noncomputable def sxX11_streets_16 : List UInt8 := 154 :: 0 :: 7 :: sxX11_streets_19
noncomputable def sxX11_streets_13 : List UInt8 := 184 :: 0 :: 80 :: sxX11_streets_16
noncomputable def sxX11_streets_12 : List UInt8 := 5 :: sxX11_streets_13
noncomputable def sxX11_streets_11 : List UInt8 := 3 :: sxX11_streets_12
noncomputable def sxX11_streets_10 : List UInt8 := 28 :: sxX11_streets_11
noncomputable def sxX11_streets_7 : List UInt8 := 153 :: 0 :: 12 :: sxX11_streets_10
noncomputable def sxX11_streets_4 : List UInt8 := 184 :: 0 :: 80 :: sxX11_streets_7
noncomputable def sxX11_streets_2 : List UInt8 := 16 :: 9 :: sxX11_streets_4
noncomputable def sxX11_streets_1 : List UInt8 := 3 :: sxX11_streets_2
noncomputable def sxX11_streets_0 : List UInt8 := 27 :: sxX11_streets_1
theorem shX11_streets_0 : cX11_streets.data.toList.drop 0 = sxX11_streets_0 := rfl
theorem shX11_streets_1 : cX11_streets.data.toList.drop 1 = sxX11_streets_1 := dSn 1 shX11_streets_0
theorem shX11_streets_2 : cX11_streets.data.toList.drop 2 = sxX11_streets_2 := dSn 1 shX11_streets_1
theorem shX11_streets_4 : cX11_streets.data.toList.drop 4 = sxX11_streets_4 := dSn 2 shX11_streets_2
theorem shX11_streets_7 : cX11_streets.data.toList.drop 7 = sxX11_streets_7 := dSn 3 shX11_streets_4
theorem shX11_streets_10 : cX11_streets.data.toList.drop 10 = sxX11_streets_10 := dSn 3 shX11_streets_7
theorem shX11_streets_11 : cX11_streets.data.toList.drop 11 = sxX11_streets_11 := dSn 1 shX11_streets_10
theorem shX11_streets_12 : cX11_streets.data.toList.drop 12 = sxX11_streets_12 := dSn 1 shX11_streets_11
theorem shX11_streets_13 : cX11_streets.data.toList.drop 13 = sxX11_streets_13 := dSn 1 shX11_streets_12
theorem shX11_streets_16 : cX11_streets.data.toList.drop 16 = sxX11_streets_16 := dSn 3 shX11_streets_13
theorem shX11_streets_19 : cX11_streets.data.toList.drop 19 = sxX11_streets_19 := dSn 3 shX11_streets_16
theorem shX11_streets_22 : cX11_streets.data.toList.drop 22 = sxX11_streets_22 := dSn 3 shX11_streets_19
theorem shX11_streets_23 : cX11_streets.data.toList.drop 23 = sxX11_streets_23 := dSn 1 shX11_streets_22
theorem shX11_streets_24 : cX11_streets.data.toList.drop 24 = sxX11_streets_24 := dSn 1 shX11_streets_23
theorem shX11_streets_25 : cX11_streets.data.toList.drop 25 = sxX11_streets_25 := dSn 1 shX11_streets_24
theorem shX11_streets_26 : cX11_streets.data.toList.drop 26 = sxX11_streets_26 := dSn 1 shX11_streets_25
theorem shX11_streets_28 : cX11_streets.data.toList.drop 28 = sxX11_streets_28 := dSn 2 shX11_streets_26
theorem shX11_streets_29 : cX11_streets.data.toList.drop 29 = sxX11_streets_29 := dSn 1 shX11_streets_28
theorem shX11_streets_31 : cX11_streets.data.toList.drop 31 = sxX11_streets_31 := dSn 2 shX11_streets_29
theorem shX11_streets_32 : cX11_streets.data.toList.drop 32 = sxX11_streets_32 := dSn 1 shX11_streets_31
theorem shX11_streets_34 : cX11_streets.data.toList.drop 34 = sxX11_streets_34 := dSn 2 shX11_streets_32
theorem shX11_streets_36 : cX11_streets.data.toList.drop 36 = sxX11_streets_36 := dSn 2 shX11_streets_34
theorem shX11_streets_37 : cX11_streets.data.toList.drop 37 = sxX11_streets_37 := dSn 1 shX11_streets_36
theorem shX11_streets_40 : cX11_streets.data.toList.drop 40 = sxX11_streets_40 := dSn 3 shX11_streets_37
theorem shX11_streets_43 : cX11_streets.data.toList.drop 43 = sxX11_streets_43 := dSn 3 shX11_streets_40
theorem shX11_streets_46 : cX11_streets.data.toList.drop 46 = sxX11_streets_46 := dSn 3 shX11_streets_43
theorem shX11_streets_47 : cX11_streets.data.toList.drop 47 = sxX11_streets_47 := dSn 1 shX11_streets_46
theorem shX11_streets_50 : cX11_streets.data.toList.drop 50 = sxX11_streets_50 := dSn 3 shX11_streets_47
theorem shX11_streets_52 : cX11_streets.data.toList.drop 52 = sxX11_streets_52 := dSn 2 shX11_streets_50
theorem shX11_streets_55 : cX11_streets.data.toList.drop 55 = sxX11_streets_55 := dSn 3 shX11_streets_52
theorem shX11_streets_58 : cX11_streets.data.toList.drop 58 = sxX11_streets_58 := dSn 3 shX11_streets_55
theorem shX11_streets_60 : cX11_streets.data.toList.drop 60 = sxX11_streets_60 := dSn 2 shX11_streets_58
theorem shX11_streets_61 : cX11_streets.data.toList.drop 61 = sxX11_streets_61 := dSn 1 shX11_streets_60
theorem shX11_streets_63 : cX11_streets.data.toList.drop 63 = sxX11_streets_63 := dSn 2 shX11_streets_61
theorem shX11_streets_66 : cX11_streets.data.toList.drop 66 = sxX11_streets_66 := dSn 3 shX11_streets_63
theorem shX11_streets_69 : cX11_streets.data.toList.drop 69 = sxX11_streets_69 := dSn 3 shX11_streets_66
theorem shX11_streets_71 : cX11_streets.data.toList.drop 71 = sxX11_streets_71 := dSn 2 shX11_streets_69
theorem shX11_streets_73 : cX11_streets.data.toList.drop 73 = sxX11_streets_73 := dSn 2 shX11_streets_71
theorem shX11_streets_76 : cX11_streets.data.toList.drop 76 = sxX11_streets_76 := dSn 3 shX11_streets_73
theorem shX11_streets_78 : cX11_streets.data.toList.drop 78 = sxX11_streets_78 := dSn 2 shX11_streets_76
theorem shX11_streets_81 : cX11_streets.data.toList.drop 81 = sxX11_streets_81 := dSn 3 shX11_streets_78
theorem shX11_streets_82 : cX11_streets.data.toList.drop 82 = sxX11_streets_82 := dSn 1 shX11_streets_81
theorem shX11_streets_85 : cX11_streets.data.toList.drop 85 = sxX11_streets_85 := dSn 3 shX11_streets_82
theorem shX11_streets_86 : cX11_streets.data.toList.drop 86 = sxX11_streets_86 := dSn 1 shX11_streets_85
theorem shX11_streets_89 : cX11_streets.data.toList.drop 89 = sxX11_streets_89 := dSn 3 shX11_streets_86
theorem shX11_streets_90 : cX11_streets.data.toList.drop 90 = sxX11_streets_90 := dSn 1 shX11_streets_89
theorem shX11_streets_92 : cX11_streets.data.toList.drop 92 = sxX11_streets_92 := dSn 2 shX11_streets_90
theorem shX11_streets_93 : cX11_streets.data.toList.drop 93 = sxX11_streets_93 := dSn 1 shX11_streets_92
theorem shX11_streets_95 : cX11_streets.data.toList.drop 95 = sxX11_streets_95 := dSn 2 shX11_streets_93
theorem shX11_streets_98 : cX11_streets.data.toList.drop 98 = sxX11_streets_98 := dSn 3 shX11_streets_95
theorem shX11_streets_101 : cX11_streets.data.toList.drop 101 = sxX11_streets_101 := dSn 3 shX11_streets_98
theorem shX11_streets_102 : cX11_streets.data.toList.drop 102 = sxX11_streets_102 := dSn 1 shX11_streets_101
theorem shX11_streets_105 : cX11_streets.data.toList.drop 105 = sxX11_streets_105 := dSn 3 shX11_streets_102
theorem shX11_streets_106 : cX11_streets.data.toList.drop 106 = sxX11_streets_106 := dSn 1 shX11_streets_105
theorem shX11_streets_107 : cX11_streets.data.toList.drop 107 = sxX11_streets_107 := dSn 1 shX11_streets_106
theorem shX11_streets_108 : cX11_streets.data.toList.drop 108 = sxX11_streets_108 := dSn 1 shX11_streets_107
theorem shX11_streets_110 : cX11_streets.data.toList.drop 110 = sxX11_streets_110 := dSn 2 shX11_streets_108
theorem shX11_streets_112 : cX11_streets.data.toList.drop 112 = sxX11_streets_112 := dSn 2 shX11_streets_110
theorem shX11_streets_115 : cX11_streets.data.toList.drop 115 = sxX11_streets_115 := dSn 3 shX11_streets_112
theorem shX11_streets_116 : cX11_streets.data.toList.drop 116 = sxX11_streets_116 := dSn 1 shX11_streets_115
theorem shX11_streets_119 : cX11_streets.data.toList.drop 119 = sxX11_streets_119 := dSn 3 shX11_streets_116
theorem shX11_streets_120 : cX11_streets.data.toList.drop 120 = sxX11_streets_120 := dSn 1 shX11_streets_119
theorem shX11_streets_121 : cX11_streets.data.toList.drop 121 = sxX11_streets_121 := dSn 1 shX11_streets_120
theorem shX11_streets_123 : cX11_streets.data.toList.drop 123 = sxX11_streets_123 := dSn 2 shX11_streets_121
theorem shX11_streets_125 : cX11_streets.data.toList.drop 125 = sxX11_streets_125 := dSn 2 shX11_streets_123
theorem shX11_streets_127 : cX11_streets.data.toList.drop 127 = sxX11_streets_127 := dSn 2 shX11_streets_125
theorem shX11_streets_130 : cX11_streets.data.toList.drop 130 = sxX11_streets_130 := dSn 3 shX11_streets_127
theorem shX11_streets_132 : cX11_streets.data.toList.drop 132 = sxX11_streets_132 := dSn 2 shX11_streets_130
theorem shX11_streets_135 : cX11_streets.data.toList.drop 135 = sxX11_streets_135 := dSn 3 shX11_streets_132
theorem shX11_streets_138 : cX11_streets.data.toList.drop 138 = sxX11_streets_138 := dSn 3 shX11_streets_135
theorem shX11_streets_139 : cX11_streets.data.toList.drop 139 = sxX11_streets_139 := dSn 1 shX11_streets_138
theorem shX11_streets_142 : cX11_streets.data.toList.drop 142 = sxX11_streets_142 := dSn 3 shX11_streets_139
theorem shX11_streets_143 : cX11_streets.data.toList.drop 143 = sxX11_streets_143 := dSn 1 shX11_streets_142
theorem shX11_streets_144 : cX11_streets.data.toList.drop 144 = sxX11_streets_144 := dSn 1 shX11_streets_143
theorem shX11_streets_146 : cX11_streets.data.toList.drop 146 = sxX11_streets_146 := dSn 2 shX11_streets_144
theorem shX11_streets_149 : cX11_streets.data.toList.drop 149 = sxX11_streets_149 := dSn 3 shX11_streets_146
theorem shX11_streets_152 : cX11_streets.data.toList.drop 152 = sxX11_streets_152 := dSn 3 shX11_streets_149
theorem shX11_streets_153 : cX11_streets.data.toList.drop 153 = sxX11_streets_153 := dSn 1 shX11_streets_152
theorem shX11_streets_155 : cX11_streets.data.toList.drop 155 = sxX11_streets_155 := dSn 2 shX11_streets_153
theorem shX11_streets_157 : cX11_streets.data.toList.drop 157 = sxX11_streets_157 := dSn 2 shX11_streets_155
theorem shX11_streets_158 : cX11_streets.data.toList.drop 158 = sxX11_streets_158 := dSn 1 shX11_streets_157
theorem shX11_streets_161 : cX11_streets.data.toList.drop 161 = sxX11_streets_161 := dSn 3 shX11_streets_158
theorem shX11_streets_164 : cX11_streets.data.toList.drop 164 = sxX11_streets_164 := dSn 3 shX11_streets_161
theorem shX11_streets_165 : cX11_streets.data.toList.drop 165 = sxX11_streets_165 := dSn 1 shX11_streets_164
theorem shX11_streets_168 : cX11_streets.data.toList.drop 168 = sxX11_streets_168 := dSn 3 shX11_streets_165
theorem dX11_streets_0 : decode cX11_streets 0 = .ok (.iload_n 1, 1) := oc_27 shX11_streets_0
theorem dX11_streets_1 : decode cX11_streets 1 = .ok (.iconst 0, 1) := oc_3 shX11_streets_1
theorem dX11_streets_2 : decode cX11_streets 2 = .ok (.bipush 9, 2) := oc_16 shX11_streets_2 sgb_9
theorem dX11_streets_4 : decode cX11_streets 4 = .ok (.invokestatic 80, 3) := oc_184 shX11_streets_4
theorem dX11_streets_7 : decode cX11_streets 7 = .ok (.ifCond .eq 12, 3) := oc_153 shX11_streets_7 sgw_0_12
theorem dX11_streets_10 : decode cX11_streets 10 = .ok (.iload_n 2, 1) := oc_28 shX11_streets_10
theorem dX11_streets_11 : decode cX11_streets 11 = .ok (.iconst 0, 1) := oc_3 shX11_streets_11
theorem dX11_streets_12 : decode cX11_streets 12 = .ok (.iconst 2, 1) := oc_5 shX11_streets_12
theorem dX11_streets_13 : decode cX11_streets 13 = .ok (.invokestatic 80, 3) := oc_184 shX11_streets_13
theorem dX11_streets_16 : decode cX11_streets 16 = .ok (.ifCond .ne 7, 3) := oc_154 shX11_streets_16 sgw_0_7
theorem dX11_streets_23 : decode cX11_streets 23 = .ok (.iconst 0, 1) := oc_3 shX11_streets_23
theorem dX11_streets_24 : decode cX11_streets 24 = .ok (.istore_n 3, 1) := oc_62 shX11_streets_24
theorem dX11_streets_25 : decode cX11_streets 25 = .ok (.iconst 0, 1) := oc_3 shX11_streets_25
theorem dX11_streets_26 : decode cX11_streets 26 = .ok (.istore 4, 2) := oc_54 shX11_streets_26
theorem dX11_streets_28 : decode cX11_streets 28 = .ok (.iconst 0, 1) := oc_3 shX11_streets_28
theorem dX11_streets_29 : decode cX11_streets 29 = .ok (.istore 5, 2) := oc_54 shX11_streets_29
theorem dX11_streets_31 : decode cX11_streets 31 = .ok (.iconst 0, 1) := oc_3 shX11_streets_31
theorem dX11_streets_32 : decode cX11_streets 32 = .ok (.istore 6, 2) := oc_54 shX11_streets_32
theorem dX11_streets_34 : decode cX11_streets 34 = .ok (.iload 6, 2) := oc_21 shX11_streets_34
theorem dX11_streets_36 : decode cX11_streets 36 = .ok (.aload_n 0, 1) := oc_42 shX11_streets_36
theorem dX11_streets_37 : decode cX11_streets 37 = .ok (.getfield 65, 3) := oc_180 shX11_streets_37
theorem dX11_streets_40 : decode cX11_streets 40 = .ok (.invokevirtual 84, 3) := oc_182 shX11_streets_40
theorem dX11_streets_43 : decode cX11_streets 43 = .ok (.if_icmp .ge 109, 3) := oc_162 shX11_streets_43 sgw_0_109
theorem dX11_streets_152 : decode cX11_streets 152 = .ok (.iload_n 3, 1) := oc_29 shX11_streets_152
theorem dX11_streets_153 : decode cX11_streets 153 = .ok (.iload 4, 2) := oc_21 shX11_streets_153
theorem dX11_streets_155 : decode cX11_streets 155 = .ok (.iload 5, 2) := oc_21 shX11_streets_155
theorem dX11_streets_157 : decode cX11_streets 157 = .ok (.aload_n 0, 1) := oc_42 shX11_streets_157
theorem dX11_streets_158 : decode cX11_streets 158 = .ok (.getfield 65, 3) := oc_180 shX11_streets_158
theorem dX11_streets_161 : decode cX11_streets 161 = .ok (.invokevirtual 84, 3) := oc_182 shX11_streets_161
theorem dX11_streets_164 : decode cX11_streets 164 = .ok (.iload_n 2, 1) := oc_28 shX11_streets_164
theorem dX11_streets_165 : decode cX11_streets 165 = .ok (.invokestatic 256, 3) := oc_184 shX11_streets_165
theorem dX11_streets_168 : decode cX11_streets 168 = .ok (.lreturn, 1) := oc_173 shX11_streets_168
theorem dX11_streets_46 : decode cX11_streets 46 = .ok (.aload_n 0, 1) := oc_42 shX11_streets_46
theorem dX11_streets_47 : decode cX11_streets 47 = .ok (.getfield 65, 3) := oc_180 shX11_streets_47
theorem dX11_streets_50 : decode cX11_streets 50 = .ok (.iload 6, 2) := oc_21 shX11_streets_50
theorem dX11_streets_52 : decode cX11_streets 52 = .ok (.invokevirtual 87, 3) := oc_182 shX11_streets_52
theorem dX11_streets_55 : decode cX11_streets 55 = .ok (.checkcast 93, 3) := oc_192 shX11_streets_55
theorem dX11_streets_58 : decode cX11_streets 58 = .ok (.astore 7, 2) := oc_58 shX11_streets_58
theorem dX11_streets_60 : decode cX11_streets 60 = .ok (.aload_n 0, 1) := oc_42 shX11_streets_60
theorem dX11_streets_61 : decode cX11_streets 61 = .ok (.aload 7, 2) := oc_25 shX11_streets_61
theorem dX11_streets_63 : decode cX11_streets 63 = .ok (.getfield 211, 3) := oc_180 shX11_streets_63
theorem dX11_streets_66 : decode cX11_streets 66 = .ok (.invokevirtual 114, 3) := oc_182 shX11_streets_66
theorem dX11_streets_69 : decode cX11_streets 69 = .ok (.astore 8, 2) := oc_58 shX11_streets_69
theorem dX11_streets_71 : decode cX11_streets 71 = .ok (.aload 8, 2) := oc_25 shX11_streets_71
theorem dX11_streets_73 : decode cX11_streets 73 = .ok (.ifnull 16, 3) := oc_198 shX11_streets_73 sgw_0_16
theorem dX11_streets_76 : decode cX11_streets 76 = .ok (.aload 8, 2) := oc_25 shX11_streets_76
theorem dX11_streets_78 : decode cX11_streets 78 = .ok (.getfield 260, 3) := oc_180 shX11_streets_78
theorem dX11_streets_81 : decode cX11_streets 81 = .ok (.iload_n 1, 1) := oc_27 shX11_streets_81
theorem dX11_streets_82 : decode cX11_streets 82 = .ok (.if_icmp .ne 7, 3) := oc_160 shX11_streets_82 sgw_0_7
theorem dX11_streets_89 : decode cX11_streets 89 = .ok (.iconst 0, 1) := oc_3 shX11_streets_89
theorem dX11_streets_90 : decode cX11_streets 90 = .ok (.istore 9, 2) := oc_54 shX11_streets_90
theorem dX11_streets_92 : decode cX11_streets 92 = .ok (.iload_n 3, 1) := oc_29 shX11_streets_92
theorem dX11_streets_93 : decode cX11_streets 93 = .ok (.aload 7, 2) := oc_25 shX11_streets_93
theorem dX11_streets_95 : decode cX11_streets 95 = .ok (.getfield 141, 3) := oc_180 shX11_streets_95
theorem dX11_streets_98 : decode cX11_streets 98 = .ok (.ifCond .le 7, 3) := oc_158 shX11_streets_98 sgw_0_7
theorem dX11_streets_105 : decode cX11_streets 105 = .ok (.iconst 0, 1) := oc_3 shX11_streets_105
theorem dX11_streets_106 : decode cX11_streets 106 = .ok (.iadd, 1) := oc_96 shX11_streets_106
theorem dX11_streets_107 : decode cX11_streets 107 = .ok (.istore_n 3, 1) := oc_62 shX11_streets_107
theorem dX11_streets_108 : decode cX11_streets 108 = .ok (.iload 4, 2) := oc_21 shX11_streets_108
theorem dX11_streets_110 : decode cX11_streets 110 = .ok (.iload 9, 2) := oc_21 shX11_streets_110
theorem dX11_streets_112 : decode cX11_streets 112 = .ok (.ifCond .eq 7, 3) := oc_153 shX11_streets_112 sgw_0_7
theorem dX11_streets_119 : decode cX11_streets 119 = .ok (.iconst 0, 1) := oc_3 shX11_streets_119
theorem dX11_streets_120 : decode cX11_streets 120 = .ok (.iadd, 1) := oc_96 shX11_streets_120
theorem dX11_streets_121 : decode cX11_streets 121 = .ok (.istore 4, 2) := oc_54 shX11_streets_121
theorem dX11_streets_123 : decode cX11_streets 123 = .ok (.iload 5, 2) := oc_21 shX11_streets_123
theorem dX11_streets_125 : decode cX11_streets 125 = .ok (.iload 9, 2) := oc_21 shX11_streets_125
theorem dX11_streets_127 : decode cX11_streets 127 = .ok (.ifCond .eq 15, 3) := oc_153 shX11_streets_127 sgw_0_15
theorem dX11_streets_142 : decode cX11_streets 142 = .ok (.iconst 0, 1) := oc_3 shX11_streets_142
theorem dX11_streets_143 : decode cX11_streets 143 = .ok (.iadd, 1) := oc_96 shX11_streets_143
theorem dX11_streets_144 : decode cX11_streets 144 = .ok (.istore 5, 2) := oc_54 shX11_streets_144
theorem dX11_streets_146 : decode cX11_streets 146 = .ok (.iinc 6 1, 3) := oc_132 shX11_streets_146 sgb_1
theorem dX11_streets_149 : decode cX11_streets 149 = .ok (.goto (-115), 3) := oc_167 shX11_streets_149 sgw_255_141
theorem dX11_streets_101 : decode cX11_streets 101 = .ok (.iconst 1, 1) := oc_4 shX11_streets_101
theorem dX11_streets_102 : decode cX11_streets 102 = .ok (.goto 4, 3) := oc_167 shX11_streets_102 sgw_0_4
theorem dX11_streets_85 : decode cX11_streets 85 = .ok (.iconst 1, 1) := oc_4 shX11_streets_85
theorem dX11_streets_86 : decode cX11_streets 86 = .ok (.goto 4, 3) := oc_167 shX11_streets_86 sgw_0_4
theorem dX11_streets_115 : decode cX11_streets 115 = .ok (.iconst 1, 1) := oc_4 shX11_streets_115
theorem dX11_streets_116 : decode cX11_streets 116 = .ok (.goto 4, 3) := oc_167 shX11_streets_116 sgw_0_4
theorem dX11_streets_130 : decode cX11_streets 130 = .ok (.aload 7, 2) := oc_25 shX11_streets_130
theorem dX11_streets_132 : decode cX11_streets 132 = .ok (.getfield 141, 3) := oc_180 shX11_streets_132
theorem dX11_streets_135 : decode cX11_streets 135 = .ok (.ifCond .le 7, 3) := oc_158 shX11_streets_135 sgw_0_7
theorem dX11_streets_138 : decode cX11_streets 138 = .ok (.iconst 1, 1) := oc_4 shX11_streets_138
theorem dX11_streets_139 : decode cX11_streets 139 = .ok (.goto 4, 3) := oc_167 shX11_streets_139 sgw_0_4
theorem dX11_streets_19 : decode cX11_streets 19 = .ok (.ldc2_w 254, 3) := oc_20 shX11_streets_19
theorem dX11_streets_22 : decode cX11_streets 22 = .ok (.lreturn, 1) := oc_173 shX11_streets_22
noncomputable def sxX11_cheat_168 : List UInt8 := []
noncomputable def sxX11_cheat_167 : List UInt8 := 173 :: sxX11_cheat_168
noncomputable def sxX11_cheat_164 : List UInt8 := 184 :: 1 :: 0 :: sxX11_cheat_167
noncomputable def sxX11_cheat_163 : List UInt8 := 29 :: sxX11_cheat_164
noncomputable def sxX11_cheat_160 : List UInt8 := 182 :: 0 :: 84 :: sxX11_cheat_163
noncomputable def sxX11_cheat_157 : List UInt8 := 180 :: 0 :: 65 :: sxX11_cheat_160
noncomputable def sxX11_cheat_156 : List UInt8 := 42 :: sxX11_cheat_157
noncomputable def sxX11_cheat_154 : List UInt8 := 21 :: 6 :: sxX11_cheat_156
noncomputable def sxX11_cheat_152 : List UInt8 := 21 :: 5 :: sxX11_cheat_154
noncomputable def sxX11_cheat_150 : List UInt8 := 21 :: 4 :: sxX11_cheat_152
noncomputable def sxX11_cheat_147 : List UInt8 := 167 :: 255 :: 153 :: sxX11_cheat_150
noncomputable def sxX11_cheat_144 : List UInt8 := 132 :: 7 :: 1 :: sxX11_cheat_147
noncomputable def sxX11_cheat_142 : List UInt8 := 54 :: 6 :: sxX11_cheat_144
noncomputable def sxX11_cheat_141 : List UInt8 := 96 :: sxX11_cheat_142
noncomputable def sxX11_cheat_140 : List UInt8 := 3 :: sxX11_cheat_141
noncomputable def sxX11_cheat_137 : List UInt8 := 167 :: 0 :: 4 :: sxX11_cheat_140
noncomputable def sxX11_cheat_136 : List UInt8 := 4 :: sxX11_cheat_137
noncomputable def sxX11_cheat_133 : List UInt8 := 153 :: 0 :: 7 :: sxX11_cheat_136
noncomputable def sxX11_cheat_131 : List UInt8 := 21 :: 9 :: sxX11_cheat_133
noncomputable def sxX11_cheat_128 : List UInt8 := 160 :: 0 :: 12 :: sxX11_cheat_131
noncomputable def sxX11_cheat_127 : List UInt8 := 27 :: sxX11_cheat_128
noncomputable def sxX11_cheat_124 : List UInt8 := 180 :: 0 :: 211 :: sxX11_cheat_127
noncomputable def sxX11_cheat_122 : List UInt8 := 25 :: 8 :: sxX11_cheat_124
noncomputable def sxX11_cheat_120 : List UInt8 := 21 :: 6 :: sxX11_cheat_122
noncomputable def sxX11_cheat_118 : List UInt8 := 54 :: 5 :: sxX11_cheat_120
noncomputable def sxX11_cheat_117 : List UInt8 := 96 :: sxX11_cheat_118
noncomputable def sxX11_cheat_116 : List UInt8 := 3 :: sxX11_cheat_117
noncomputable def sxX11_cheat_113 : List UInt8 := 167 :: 0 :: 4 :: sxX11_cheat_116
noncomputable def sxX11_cheat_112 : List UInt8 := 4 :: sxX11_cheat_113
noncomputable def sxX11_cheat_109 : List UInt8 := 160 :: 0 :: 7 :: sxX11_cheat_112
noncomputable def sxX11_cheat_108 : List UInt8 := 27 :: sxX11_cheat_109
noncomputable def sxX11_cheat_105 : List UInt8 := 180 :: 0 :: 211 :: sxX11_cheat_108
noncomputable def sxX11_cheat_103 : List UInt8 := 25 :: 8 :: sxX11_cheat_105
noncomputable def sxX11_cheat_101 : List UInt8 := 21 :: 5 :: sxX11_cheat_103
noncomputable def sxX11_cheat_99 : List UInt8 := 54 :: 4 :: sxX11_cheat_101
noncomputable def sxX11_cheat_98 : List UInt8 := 96 :: sxX11_cheat_99
noncomputable def sxX11_cheat_97 : List UInt8 := 3 :: sxX11_cheat_98
noncomputable def sxX11_cheat_94 : List UInt8 := 167 :: 0 :: 4 :: sxX11_cheat_97
noncomputable def sxX11_cheat_93 : List UInt8 := 4 :: sxX11_cheat_94
noncomputable def sxX11_cheat_90 : List UInt8 := 153 :: 0 :: 7 :: sxX11_cheat_93
noncomputable def sxX11_cheat_88 : List UInt8 := 21 :: 9 :: sxX11_cheat_90
noncomputable def sxX11_cheat_86 : List UInt8 := 21 :: 4 :: sxX11_cheat_88
noncomputable def sxX11_cheat_84 : List UInt8 := 54 :: 9 :: sxX11_cheat_86
noncomputable def sxX11_cheat_83 : List UInt8 := 3 :: sxX11_cheat_84
noncomputable def sxX11_cheat_80 : List UInt8 := 167 :: 0 :: 4 :: sxX11_cheat_83
noncomputable def sxX11_cheat_79 : List UInt8 := 4 :: sxX11_cheat_80
noncomputable def sxX11_cheat_76 : List UInt8 := 161 :: 0 :: 7 :: sxX11_cheat_79
noncomputable def sxX11_cheat_75 : List UInt8 := 28 :: sxX11_cheat_76
noncomputable def sxX11_cheat_72 : List UInt8 := 180 :: 0 :: 205 :: sxX11_cheat_75
noncomputable def sxX11_cheat_70 : List UInt8 := 25 :: 8 :: sxX11_cheat_72
noncomputable def sxX11_cheat_68 : List UInt8 := 58 :: 8 :: sxX11_cheat_70
noncomputable def sxX11_cheat_65 : List UInt8 := 192 :: 0 :: 93 :: sxX11_cheat_68
noncomputable def sxX11_cheat_62 : List UInt8 := 182 :: 0 :: 87 :: sxX11_cheat_65
noncomputable def sxX11_cheat_60 : List UInt8 := 21 :: 7 :: sxX11_cheat_62
noncomputable def sxX11_cheat_57 : List UInt8 := 180 :: 0 :: 65 :: sxX11_cheat_60
noncomputable def sxX11_cheat_56 : List UInt8 := 42 :: sxX11_cheat_57
noncomputable def sxX11_cheat_53 : List UInt8 := 162 :: 0 :: 97 :: sxX11_cheat_56
noncomputable def sxX11_cheat_50 : List UInt8 := 182 :: 0 :: 84 :: sxX11_cheat_53
noncomputable def sxX11_cheat_47 : List UInt8 := 180 :: 0 :: 65 :: sxX11_cheat_50
noncomputable def sxX11_cheat_46 : List UInt8 := 42 :: sxX11_cheat_47
noncomputable def sxX11_cheat_44 : List UInt8 := 21 :: 7 :: sxX11_cheat_46
noncomputable def sxX11_cheat_42 : List UInt8 := 54 :: 7 :: sxX11_cheat_44
noncomputable def sxX11_cheat_41 : List UInt8 := 3 :: sxX11_cheat_42
noncomputable def sxX11_cheat_39 : List UInt8 := 54 :: 6 :: sxX11_cheat_41
noncomputable def sxX11_cheat_38 : List UInt8 := 3 :: sxX11_cheat_39
noncomputable def sxX11_cheat_36 : List UInt8 := 54 :: 5 :: sxX11_cheat_38
noncomputable def sxX11_cheat_35 : List UInt8 := 3 :: sxX11_cheat_36
noncomputable def sxX11_cheat_33 : List UInt8 := 54 :: 4 :: sxX11_cheat_35
noncomputable def sxX11_cheat_32 : List UInt8 := 3 :: sxX11_cheat_33
noncomputable def sxX11_cheat_31 : List UInt8 := 173 :: sxX11_cheat_32
noncomputable def sxX11_cheat_28 : List UInt8 := 20 :: 0 :: 254 :: sxX11_cheat_31
noncomputable def sxX11_cheat_25 : List UInt8 := 154 :: 0 :: 7 :: sxX11_cheat_28
noncomputable def sxX11_cheat_22 : List UInt8 := 184 :: 0 :: 80 :: sxX11_cheat_25
noncomputable def sxX11_cheat_21 : List UInt8 := 5 :: sxX11_cheat_22
noncomputable def sxX11_cheat_20 : List UInt8 := 3 :: sxX11_cheat_21
noncomputable def sxX11_cheat_19 : List UInt8 := 29 :: sxX11_cheat_20
noncomputable def sxX11_cheat_16 : List UInt8 := 153 :: 0 :: 12 :: sxX11_cheat_19
noncomputable def sxX11_cheat_13 : List UInt8 := 184 :: 0 :: 80 :: sxX11_cheat_16
noncomputable def sxX11_cheat_10 : List UInt8 := 17 :: 3 :: 232 :: sxX11_cheat_13
noncomputable def sxX11_cheat_9 : List UInt8 := 3 :: sxX11_cheat_10
noncomputable def sxX11_cheat_8 : List UInt8 := 28 :: sxX11_cheat_9
noncomputable def sxX11_cheat_5 : List UInt8 := 198 :: 0 :: 23 :: sxX11_cheat_8
noncomputable def sxX11_cheat_2 : List UInt8 := 182 :: 0 :: 114 :: sxX11_cheat_5
noncomputable def sxX11_cheat_1 : List UInt8 := 27 :: sxX11_cheat_2
noncomputable def sxX11_cheat_0 : List UInt8 := 42 :: sxX11_cheat_1
theorem shX11_cheat_0 : cX11_cheat.data.toList.drop 0 = sxX11_cheat_0 := rfl
theorem shX11_cheat_1 : cX11_cheat.data.toList.drop 1 = sxX11_cheat_1 := dSn 1 shX11_cheat_0
theorem shX11_cheat_2 : cX11_cheat.data.toList.drop 2 = sxX11_cheat_2 := dSn 1 shX11_cheat_1
theorem shX11_cheat_5 : cX11_cheat.data.toList.drop 5 = sxX11_cheat_5 := dSn 3 shX11_cheat_2
theorem shX11_cheat_8 : cX11_cheat.data.toList.drop 8 = sxX11_cheat_8 := dSn 3 shX11_cheat_5
theorem shX11_cheat_9 : cX11_cheat.data.toList.drop 9 = sxX11_cheat_9 := dSn 1 shX11_cheat_8
theorem shX11_cheat_10 : cX11_cheat.data.toList.drop 10 = sxX11_cheat_10 := dSn 1 shX11_cheat_9
theorem shX11_cheat_13 : cX11_cheat.data.toList.drop 13 = sxX11_cheat_13 := dSn 3 shX11_cheat_10
theorem shX11_cheat_16 : cX11_cheat.data.toList.drop 16 = sxX11_cheat_16 := dSn 3 shX11_cheat_13
theorem shX11_cheat_19 : cX11_cheat.data.toList.drop 19 = sxX11_cheat_19 := dSn 3 shX11_cheat_16
theorem shX11_cheat_20 : cX11_cheat.data.toList.drop 20 = sxX11_cheat_20 := dSn 1 shX11_cheat_19
theorem shX11_cheat_21 : cX11_cheat.data.toList.drop 21 = sxX11_cheat_21 := dSn 1 shX11_cheat_20
theorem shX11_cheat_22 : cX11_cheat.data.toList.drop 22 = sxX11_cheat_22 := dSn 1 shX11_cheat_21
theorem shX11_cheat_25 : cX11_cheat.data.toList.drop 25 = sxX11_cheat_25 := dSn 3 shX11_cheat_22
theorem shX11_cheat_28 : cX11_cheat.data.toList.drop 28 = sxX11_cheat_28 := dSn 3 shX11_cheat_25
theorem shX11_cheat_31 : cX11_cheat.data.toList.drop 31 = sxX11_cheat_31 := dSn 3 shX11_cheat_28
theorem shX11_cheat_32 : cX11_cheat.data.toList.drop 32 = sxX11_cheat_32 := dSn 1 shX11_cheat_31
theorem shX11_cheat_33 : cX11_cheat.data.toList.drop 33 = sxX11_cheat_33 := dSn 1 shX11_cheat_32
theorem shX11_cheat_35 : cX11_cheat.data.toList.drop 35 = sxX11_cheat_35 := dSn 2 shX11_cheat_33
theorem shX11_cheat_36 : cX11_cheat.data.toList.drop 36 = sxX11_cheat_36 := dSn 1 shX11_cheat_35
theorem shX11_cheat_38 : cX11_cheat.data.toList.drop 38 = sxX11_cheat_38 := dSn 2 shX11_cheat_36
theorem shX11_cheat_39 : cX11_cheat.data.toList.drop 39 = sxX11_cheat_39 := dSn 1 shX11_cheat_38
theorem shX11_cheat_41 : cX11_cheat.data.toList.drop 41 = sxX11_cheat_41 := dSn 2 shX11_cheat_39
theorem shX11_cheat_42 : cX11_cheat.data.toList.drop 42 = sxX11_cheat_42 := dSn 1 shX11_cheat_41
theorem shX11_cheat_44 : cX11_cheat.data.toList.drop 44 = sxX11_cheat_44 := dSn 2 shX11_cheat_42
theorem shX11_cheat_46 : cX11_cheat.data.toList.drop 46 = sxX11_cheat_46 := dSn 2 shX11_cheat_44
theorem shX11_cheat_47 : cX11_cheat.data.toList.drop 47 = sxX11_cheat_47 := dSn 1 shX11_cheat_46
theorem shX11_cheat_50 : cX11_cheat.data.toList.drop 50 = sxX11_cheat_50 := dSn 3 shX11_cheat_47
theorem shX11_cheat_53 : cX11_cheat.data.toList.drop 53 = sxX11_cheat_53 := dSn 3 shX11_cheat_50
theorem shX11_cheat_56 : cX11_cheat.data.toList.drop 56 = sxX11_cheat_56 := dSn 3 shX11_cheat_53
theorem shX11_cheat_57 : cX11_cheat.data.toList.drop 57 = sxX11_cheat_57 := dSn 1 shX11_cheat_56
theorem shX11_cheat_60 : cX11_cheat.data.toList.drop 60 = sxX11_cheat_60 := dSn 3 shX11_cheat_57
theorem shX11_cheat_62 : cX11_cheat.data.toList.drop 62 = sxX11_cheat_62 := dSn 2 shX11_cheat_60
theorem shX11_cheat_65 : cX11_cheat.data.toList.drop 65 = sxX11_cheat_65 := dSn 3 shX11_cheat_62
theorem shX11_cheat_68 : cX11_cheat.data.toList.drop 68 = sxX11_cheat_68 := dSn 3 shX11_cheat_65
theorem shX11_cheat_70 : cX11_cheat.data.toList.drop 70 = sxX11_cheat_70 := dSn 2 shX11_cheat_68
theorem shX11_cheat_72 : cX11_cheat.data.toList.drop 72 = sxX11_cheat_72 := dSn 2 shX11_cheat_70
theorem shX11_cheat_75 : cX11_cheat.data.toList.drop 75 = sxX11_cheat_75 := dSn 3 shX11_cheat_72
theorem shX11_cheat_76 : cX11_cheat.data.toList.drop 76 = sxX11_cheat_76 := dSn 1 shX11_cheat_75
theorem shX11_cheat_79 : cX11_cheat.data.toList.drop 79 = sxX11_cheat_79 := dSn 3 shX11_cheat_76
theorem shX11_cheat_80 : cX11_cheat.data.toList.drop 80 = sxX11_cheat_80 := dSn 1 shX11_cheat_79
theorem shX11_cheat_83 : cX11_cheat.data.toList.drop 83 = sxX11_cheat_83 := dSn 3 shX11_cheat_80
theorem shX11_cheat_84 : cX11_cheat.data.toList.drop 84 = sxX11_cheat_84 := dSn 1 shX11_cheat_83
theorem shX11_cheat_86 : cX11_cheat.data.toList.drop 86 = sxX11_cheat_86 := dSn 2 shX11_cheat_84
theorem shX11_cheat_88 : cX11_cheat.data.toList.drop 88 = sxX11_cheat_88 := dSn 2 shX11_cheat_86
theorem shX11_cheat_90 : cX11_cheat.data.toList.drop 90 = sxX11_cheat_90 := dSn 2 shX11_cheat_88
theorem shX11_cheat_93 : cX11_cheat.data.toList.drop 93 = sxX11_cheat_93 := dSn 3 shX11_cheat_90
theorem shX11_cheat_94 : cX11_cheat.data.toList.drop 94 = sxX11_cheat_94 := dSn 1 shX11_cheat_93
theorem shX11_cheat_97 : cX11_cheat.data.toList.drop 97 = sxX11_cheat_97 := dSn 3 shX11_cheat_94
theorem shX11_cheat_98 : cX11_cheat.data.toList.drop 98 = sxX11_cheat_98 := dSn 1 shX11_cheat_97
theorem shX11_cheat_99 : cX11_cheat.data.toList.drop 99 = sxX11_cheat_99 := dSn 1 shX11_cheat_98
theorem shX11_cheat_101 : cX11_cheat.data.toList.drop 101 = sxX11_cheat_101 := dSn 2 shX11_cheat_99
theorem shX11_cheat_103 : cX11_cheat.data.toList.drop 103 = sxX11_cheat_103 := dSn 2 shX11_cheat_101
theorem shX11_cheat_105 : cX11_cheat.data.toList.drop 105 = sxX11_cheat_105 := dSn 2 shX11_cheat_103
theorem shX11_cheat_108 : cX11_cheat.data.toList.drop 108 = sxX11_cheat_108 := dSn 3 shX11_cheat_105
theorem shX11_cheat_109 : cX11_cheat.data.toList.drop 109 = sxX11_cheat_109 := dSn 1 shX11_cheat_108
theorem shX11_cheat_112 : cX11_cheat.data.toList.drop 112 = sxX11_cheat_112 := dSn 3 shX11_cheat_109
theorem shX11_cheat_113 : cX11_cheat.data.toList.drop 113 = sxX11_cheat_113 := dSn 1 shX11_cheat_112
theorem shX11_cheat_116 : cX11_cheat.data.toList.drop 116 = sxX11_cheat_116 := dSn 3 shX11_cheat_113
theorem shX11_cheat_117 : cX11_cheat.data.toList.drop 117 = sxX11_cheat_117 := dSn 1 shX11_cheat_116
theorem shX11_cheat_118 : cX11_cheat.data.toList.drop 118 = sxX11_cheat_118 := dSn 1 shX11_cheat_117
theorem shX11_cheat_120 : cX11_cheat.data.toList.drop 120 = sxX11_cheat_120 := dSn 2 shX11_cheat_118
theorem shX11_cheat_122 : cX11_cheat.data.toList.drop 122 = sxX11_cheat_122 := dSn 2 shX11_cheat_120
theorem shX11_cheat_124 : cX11_cheat.data.toList.drop 124 = sxX11_cheat_124 := dSn 2 shX11_cheat_122
theorem shX11_cheat_127 : cX11_cheat.data.toList.drop 127 = sxX11_cheat_127 := dSn 3 shX11_cheat_124
theorem shX11_cheat_128 : cX11_cheat.data.toList.drop 128 = sxX11_cheat_128 := dSn 1 shX11_cheat_127
theorem shX11_cheat_131 : cX11_cheat.data.toList.drop 131 = sxX11_cheat_131 := dSn 3 shX11_cheat_128
theorem shX11_cheat_133 : cX11_cheat.data.toList.drop 133 = sxX11_cheat_133 := dSn 2 shX11_cheat_131
theorem shX11_cheat_136 : cX11_cheat.data.toList.drop 136 = sxX11_cheat_136 := dSn 3 shX11_cheat_133
theorem shX11_cheat_137 : cX11_cheat.data.toList.drop 137 = sxX11_cheat_137 := dSn 1 shX11_cheat_136
theorem shX11_cheat_140 : cX11_cheat.data.toList.drop 140 = sxX11_cheat_140 := dSn 3 shX11_cheat_137
theorem shX11_cheat_141 : cX11_cheat.data.toList.drop 141 = sxX11_cheat_141 := dSn 1 shX11_cheat_140
theorem shX11_cheat_142 : cX11_cheat.data.toList.drop 142 = sxX11_cheat_142 := dSn 1 shX11_cheat_141
theorem shX11_cheat_144 : cX11_cheat.data.toList.drop 144 = sxX11_cheat_144 := dSn 2 shX11_cheat_142
theorem shX11_cheat_147 : cX11_cheat.data.toList.drop 147 = sxX11_cheat_147 := dSn 3 shX11_cheat_144
theorem shX11_cheat_150 : cX11_cheat.data.toList.drop 150 = sxX11_cheat_150 := dSn 3 shX11_cheat_147
theorem shX11_cheat_152 : cX11_cheat.data.toList.drop 152 = sxX11_cheat_152 := dSn 2 shX11_cheat_150
theorem shX11_cheat_154 : cX11_cheat.data.toList.drop 154 = sxX11_cheat_154 := dSn 2 shX11_cheat_152
theorem shX11_cheat_156 : cX11_cheat.data.toList.drop 156 = sxX11_cheat_156 := dSn 2 shX11_cheat_154
theorem shX11_cheat_157 : cX11_cheat.data.toList.drop 157 = sxX11_cheat_157 := dSn 1 shX11_cheat_156
theorem shX11_cheat_160 : cX11_cheat.data.toList.drop 160 = sxX11_cheat_160 := dSn 3 shX11_cheat_157
theorem shX11_cheat_163 : cX11_cheat.data.toList.drop 163 = sxX11_cheat_163 := dSn 3 shX11_cheat_160
theorem shX11_cheat_164 : cX11_cheat.data.toList.drop 164 = sxX11_cheat_164 := dSn 1 shX11_cheat_163
theorem shX11_cheat_167 : cX11_cheat.data.toList.drop 167 = sxX11_cheat_167 := dSn 3 shX11_cheat_164
theorem dX11_cheat_0 : decode cX11_cheat 0 = .ok (.aload_n 0, 1) := oc_42 shX11_cheat_0
theorem dX11_cheat_1 : decode cX11_cheat 1 = .ok (.iload_n 1, 1) := oc_27 shX11_cheat_1
theorem dX11_cheat_2 : decode cX11_cheat 2 = .ok (.invokevirtual 114, 3) := oc_182 shX11_cheat_2
theorem dX11_cheat_5 : decode cX11_cheat 5 = .ok (.ifnull 23, 3) := oc_198 shX11_cheat_5 sgw_0_23
theorem dX11_cheat_8 : decode cX11_cheat 8 = .ok (.iload_n 2, 1) := oc_28 shX11_cheat_8
theorem dX11_cheat_9 : decode cX11_cheat 9 = .ok (.iconst 0, 1) := oc_3 shX11_cheat_9
theorem dX11_cheat_10 : decode cX11_cheat 10 = .ok (.sipush 1000, 3) := oc_17 shX11_cheat_10 sgw_3_232
theorem dX11_cheat_13 : decode cX11_cheat 13 = .ok (.invokestatic 80, 3) := oc_184 shX11_cheat_13
theorem dX11_cheat_16 : decode cX11_cheat 16 = .ok (.ifCond .eq 12, 3) := oc_153 shX11_cheat_16 sgw_0_12
theorem dX11_cheat_19 : decode cX11_cheat 19 = .ok (.iload_n 3, 1) := oc_29 shX11_cheat_19
theorem dX11_cheat_20 : decode cX11_cheat 20 = .ok (.iconst 0, 1) := oc_3 shX11_cheat_20
theorem dX11_cheat_21 : decode cX11_cheat 21 = .ok (.iconst 2, 1) := oc_5 shX11_cheat_21
theorem dX11_cheat_22 : decode cX11_cheat 22 = .ok (.invokestatic 80, 3) := oc_184 shX11_cheat_22
theorem dX11_cheat_25 : decode cX11_cheat 25 = .ok (.ifCond .ne 7, 3) := oc_154 shX11_cheat_25 sgw_0_7
theorem dX11_cheat_32 : decode cX11_cheat 32 = .ok (.iconst 0, 1) := oc_3 shX11_cheat_32
theorem dX11_cheat_33 : decode cX11_cheat 33 = .ok (.istore 4, 2) := oc_54 shX11_cheat_33
theorem dX11_cheat_35 : decode cX11_cheat 35 = .ok (.iconst 0, 1) := oc_3 shX11_cheat_35
theorem dX11_cheat_36 : decode cX11_cheat 36 = .ok (.istore 5, 2) := oc_54 shX11_cheat_36
theorem dX11_cheat_38 : decode cX11_cheat 38 = .ok (.iconst 0, 1) := oc_3 shX11_cheat_38
theorem dX11_cheat_39 : decode cX11_cheat 39 = .ok (.istore 6, 2) := oc_54 shX11_cheat_39
theorem dX11_cheat_41 : decode cX11_cheat 41 = .ok (.iconst 0, 1) := oc_3 shX11_cheat_41
theorem dX11_cheat_42 : decode cX11_cheat 42 = .ok (.istore 7, 2) := oc_54 shX11_cheat_42
theorem dX11_cheat_44 : decode cX11_cheat 44 = .ok (.iload 7, 2) := oc_21 shX11_cheat_44
theorem dX11_cheat_46 : decode cX11_cheat 46 = .ok (.aload_n 0, 1) := oc_42 shX11_cheat_46
theorem dX11_cheat_47 : decode cX11_cheat 47 = .ok (.getfield 65, 3) := oc_180 shX11_cheat_47
theorem dX11_cheat_50 : decode cX11_cheat 50 = .ok (.invokevirtual 84, 3) := oc_182 shX11_cheat_50
theorem dX11_cheat_53 : decode cX11_cheat 53 = .ok (.if_icmp .ge 97, 3) := oc_162 shX11_cheat_53 sgw_0_97
theorem dX11_cheat_150 : decode cX11_cheat 150 = .ok (.iload 4, 2) := oc_21 shX11_cheat_150
theorem dX11_cheat_152 : decode cX11_cheat 152 = .ok (.iload 5, 2) := oc_21 shX11_cheat_152
theorem dX11_cheat_154 : decode cX11_cheat 154 = .ok (.iload 6, 2) := oc_21 shX11_cheat_154
theorem dX11_cheat_156 : decode cX11_cheat 156 = .ok (.aload_n 0, 1) := oc_42 shX11_cheat_156
theorem dX11_cheat_157 : decode cX11_cheat 157 = .ok (.getfield 65, 3) := oc_180 shX11_cheat_157
theorem dX11_cheat_160 : decode cX11_cheat 160 = .ok (.invokevirtual 84, 3) := oc_182 shX11_cheat_160
theorem dX11_cheat_163 : decode cX11_cheat 163 = .ok (.iload_n 3, 1) := oc_29 shX11_cheat_163
theorem dX11_cheat_164 : decode cX11_cheat 164 = .ok (.invokestatic 256, 3) := oc_184 shX11_cheat_164
theorem dX11_cheat_167 : decode cX11_cheat 167 = .ok (.lreturn, 1) := oc_173 shX11_cheat_167
theorem dX11_cheat_56 : decode cX11_cheat 56 = .ok (.aload_n 0, 1) := oc_42 shX11_cheat_56
theorem dX11_cheat_57 : decode cX11_cheat 57 = .ok (.getfield 65, 3) := oc_180 shX11_cheat_57
theorem dX11_cheat_60 : decode cX11_cheat 60 = .ok (.iload 7, 2) := oc_21 shX11_cheat_60
theorem dX11_cheat_62 : decode cX11_cheat 62 = .ok (.invokevirtual 87, 3) := oc_182 shX11_cheat_62
theorem dX11_cheat_65 : decode cX11_cheat 65 = .ok (.checkcast 93, 3) := oc_192 shX11_cheat_65
theorem dX11_cheat_68 : decode cX11_cheat 68 = .ok (.astore 8, 2) := oc_58 shX11_cheat_68
theorem dX11_cheat_70 : decode cX11_cheat 70 = .ok (.aload 8, 2) := oc_25 shX11_cheat_70
theorem dX11_cheat_72 : decode cX11_cheat 72 = .ok (.getfield 205, 3) := oc_180 shX11_cheat_72
theorem dX11_cheat_75 : decode cX11_cheat 75 = .ok (.iload_n 2, 1) := oc_28 shX11_cheat_75
theorem dX11_cheat_76 : decode cX11_cheat 76 = .ok (.if_icmp .lt 7, 3) := oc_161 shX11_cheat_76 sgw_0_7
theorem dX11_cheat_83 : decode cX11_cheat 83 = .ok (.iconst 0, 1) := oc_3 shX11_cheat_83
theorem dX11_cheat_84 : decode cX11_cheat 84 = .ok (.istore 9, 2) := oc_54 shX11_cheat_84
theorem dX11_cheat_86 : decode cX11_cheat 86 = .ok (.iload 4, 2) := oc_21 shX11_cheat_86
theorem dX11_cheat_88 : decode cX11_cheat 88 = .ok (.iload 9, 2) := oc_21 shX11_cheat_88
theorem dX11_cheat_90 : decode cX11_cheat 90 = .ok (.ifCond .eq 7, 3) := oc_153 shX11_cheat_90 sgw_0_7
theorem dX11_cheat_97 : decode cX11_cheat 97 = .ok (.iconst 0, 1) := oc_3 shX11_cheat_97
theorem dX11_cheat_98 : decode cX11_cheat 98 = .ok (.iadd, 1) := oc_96 shX11_cheat_98
theorem dX11_cheat_99 : decode cX11_cheat 99 = .ok (.istore 4, 2) := oc_54 shX11_cheat_99
theorem dX11_cheat_101 : decode cX11_cheat 101 = .ok (.iload 5, 2) := oc_21 shX11_cheat_101
theorem dX11_cheat_103 : decode cX11_cheat 103 = .ok (.aload 8, 2) := oc_25 shX11_cheat_103
theorem dX11_cheat_105 : decode cX11_cheat 105 = .ok (.getfield 211, 3) := oc_180 shX11_cheat_105
theorem dX11_cheat_108 : decode cX11_cheat 108 = .ok (.iload_n 1, 1) := oc_27 shX11_cheat_108
theorem dX11_cheat_109 : decode cX11_cheat 109 = .ok (.if_icmp .ne 7, 3) := oc_160 shX11_cheat_109 sgw_0_7
theorem dX11_cheat_116 : decode cX11_cheat 116 = .ok (.iconst 0, 1) := oc_3 shX11_cheat_116
theorem dX11_cheat_117 : decode cX11_cheat 117 = .ok (.iadd, 1) := oc_96 shX11_cheat_117
theorem dX11_cheat_118 : decode cX11_cheat 118 = .ok (.istore 5, 2) := oc_54 shX11_cheat_118
theorem dX11_cheat_120 : decode cX11_cheat 120 = .ok (.iload 6, 2) := oc_21 shX11_cheat_120
theorem dX11_cheat_122 : decode cX11_cheat 122 = .ok (.aload 8, 2) := oc_25 shX11_cheat_122
theorem dX11_cheat_124 : decode cX11_cheat 124 = .ok (.getfield 211, 3) := oc_180 shX11_cheat_124
theorem dX11_cheat_127 : decode cX11_cheat 127 = .ok (.iload_n 1, 1) := oc_27 shX11_cheat_127
theorem dX11_cheat_128 : decode cX11_cheat 128 = .ok (.if_icmp .ne 12, 3) := oc_160 shX11_cheat_128 sgw_0_12
theorem dX11_cheat_140 : decode cX11_cheat 140 = .ok (.iconst 0, 1) := oc_3 shX11_cheat_140
theorem dX11_cheat_141 : decode cX11_cheat 141 = .ok (.iadd, 1) := oc_96 shX11_cheat_141
theorem dX11_cheat_142 : decode cX11_cheat 142 = .ok (.istore 6, 2) := oc_54 shX11_cheat_142
theorem dX11_cheat_144 : decode cX11_cheat 144 = .ok (.iinc 7 1, 3) := oc_132 shX11_cheat_144 sgb_1
theorem dX11_cheat_147 : decode cX11_cheat 147 = .ok (.goto (-103), 3) := oc_167 shX11_cheat_147 sgw_255_153
theorem dX11_cheat_131 : decode cX11_cheat 131 = .ok (.iload 9, 2) := oc_21 shX11_cheat_131
theorem dX11_cheat_133 : decode cX11_cheat 133 = .ok (.ifCond .eq 7, 3) := oc_153 shX11_cheat_133 sgw_0_7
theorem dX11_cheat_112 : decode cX11_cheat 112 = .ok (.iconst 1, 1) := oc_4 shX11_cheat_112
theorem dX11_cheat_113 : decode cX11_cheat 113 = .ok (.goto 4, 3) := oc_167 shX11_cheat_113 sgw_0_4
theorem dX11_cheat_79 : decode cX11_cheat 79 = .ok (.iconst 1, 1) := oc_4 shX11_cheat_79
theorem dX11_cheat_80 : decode cX11_cheat 80 = .ok (.goto 4, 3) := oc_167 shX11_cheat_80 sgw_0_4
theorem dX11_cheat_93 : decode cX11_cheat 93 = .ok (.iconst 1, 1) := oc_4 shX11_cheat_93
theorem dX11_cheat_94 : decode cX11_cheat 94 = .ok (.goto 4, 3) := oc_167 shX11_cheat_94 sgw_0_4
theorem dX11_cheat_136 : decode cX11_cheat 136 = .ok (.iconst 1, 1) := oc_4 shX11_cheat_136
theorem dX11_cheat_137 : decode cX11_cheat 137 = .ok (.goto 4, 3) := oc_167 shX11_cheat_137 sgw_0_4
theorem dX11_cheat_28 : decode cX11_cheat 28 = .ok (.ldc2_w 254, 3) := oc_20 shX11_cheat_28
theorem dX11_cheat_31 : decode cX11_cheat 31 = .ok (.lreturn, 1) := oc_173 shX11_cheat_31
noncomputable def sxX11_worthOf_64 : List UInt8 := []
noncomputable def sxX11_worthOf_63 : List UInt8 := 172 :: sxX11_worthOf_64
noncomputable def sxX11_worthOf_62 : List UInt8 := 29 :: sxX11_worthOf_63
noncomputable def sxX11_worthOf_59 : List UInt8 := 167 :: 255 :: 202 :: sxX11_worthOf_62
noncomputable def sxX11_worthOf_56 : List UInt8 := 132 :: 4 :: 1 :: sxX11_worthOf_59
noncomputable def sxX11_worthOf_55 : List UInt8 := 62 :: sxX11_worthOf_56
noncomputable def sxX11_worthOf_54 : List UInt8 := 96 :: sxX11_worthOf_55
noncomputable def sxX11_worthOf_53 : List UInt8 := 3 :: sxX11_worthOf_54
noncomputable def sxX11_worthOf_50 : List UInt8 := 167 :: 0 :: 4 :: sxX11_worthOf_53
noncomputable def sxX11_worthOf_49 : List UInt8 := 104 :: sxX11_worthOf_50
noncomputable def sxX11_worthOf_48 : List UInt8 := 100 :: sxX11_worthOf_49
noncomputable def sxX11_worthOf_47 : List UInt8 := 27 :: sxX11_worthOf_48
noncomputable def sxX11_worthOf_46 : List UInt8 := 28 :: sxX11_worthOf_47
noncomputable def sxX11_worthOf_43 : List UInt8 := 180 :: 1 :: 203 :: sxX11_worthOf_46
noncomputable def sxX11_worthOf_41 : List UInt8 := 25 :: 5 :: sxX11_worthOf_43
noncomputable def sxX11_worthOf_38 : List UInt8 := 153 :: 0 :: 15 :: sxX11_worthOf_41
noncomputable def sxX11_worthOf_35 : List UInt8 := 182 :: 1 :: 200 :: sxX11_worthOf_38
noncomputable def sxX11_worthOf_34 : List UInt8 := 27 :: sxX11_worthOf_35
noncomputable def sxX11_worthOf_32 : List UInt8 := 25 :: 5 :: sxX11_worthOf_34
noncomputable def sxX11_worthOf_31 : List UInt8 := 29 :: sxX11_worthOf_32
noncomputable def sxX11_worthOf_29 : List UInt8 := 58 :: 5 :: sxX11_worthOf_31
noncomputable def sxX11_worthOf_26 : List UInt8 := 192 :: 0 :: 91 :: sxX11_worthOf_29
noncomputable def sxX11_worthOf_23 : List UInt8 := 182 :: 0 :: 87 :: sxX11_worthOf_26
noncomputable def sxX11_worthOf_21 : List UInt8 := 21 :: 4 :: sxX11_worthOf_23
noncomputable def sxX11_worthOf_18 : List UInt8 := 180 :: 0 :: 61 :: sxX11_worthOf_21
noncomputable def sxX11_worthOf_17 : List UInt8 := 42 :: sxX11_worthOf_18
noncomputable def sxX11_worthOf_14 : List UInt8 := 162 :: 0 :: 48 :: sxX11_worthOf_17
noncomputable def sxX11_worthOf_11 : List UInt8 := 182 :: 0 :: 84 :: sxX11_worthOf_14
noncomputable def sxX11_worthOf_8 : List UInt8 := 180 :: 0 :: 61 :: sxX11_worthOf_11
noncomputable def sxX11_worthOf_7 : List UInt8 := 42 :: sxX11_worthOf_8
noncomputable def sxX11_worthOf_5 : List UInt8 := 21 :: 4 :: sxX11_worthOf_7
noncomputable def sxX11_worthOf_3 : List UInt8 := 54 :: 4 :: sxX11_worthOf_5
noncomputable def sxX11_worthOf_2 : List UInt8 := 3 :: sxX11_worthOf_3
noncomputable def sxX11_worthOf_1 : List UInt8 := 62 :: sxX11_worthOf_2
noncomputable def sxX11_worthOf_0 : List UInt8 := 3 :: sxX11_worthOf_1
theorem shX11_worthOf_0 : cX11_worthOf.data.toList.drop 0 = sxX11_worthOf_0 := rfl
theorem shX11_worthOf_1 : cX11_worthOf.data.toList.drop 1 = sxX11_worthOf_1 := dSn 1 shX11_worthOf_0
theorem shX11_worthOf_2 : cX11_worthOf.data.toList.drop 2 = sxX11_worthOf_2 := dSn 1 shX11_worthOf_1
theorem shX11_worthOf_3 : cX11_worthOf.data.toList.drop 3 = sxX11_worthOf_3 := dSn 1 shX11_worthOf_2
theorem shX11_worthOf_5 : cX11_worthOf.data.toList.drop 5 = sxX11_worthOf_5 := dSn 2 shX11_worthOf_3
theorem shX11_worthOf_7 : cX11_worthOf.data.toList.drop 7 = sxX11_worthOf_7 := dSn 2 shX11_worthOf_5
theorem shX11_worthOf_8 : cX11_worthOf.data.toList.drop 8 = sxX11_worthOf_8 := dSn 1 shX11_worthOf_7
theorem shX11_worthOf_11 : cX11_worthOf.data.toList.drop 11 = sxX11_worthOf_11 := dSn 3 shX11_worthOf_8
theorem shX11_worthOf_14 : cX11_worthOf.data.toList.drop 14 = sxX11_worthOf_14 := dSn 3 shX11_worthOf_11
theorem shX11_worthOf_17 : cX11_worthOf.data.toList.drop 17 = sxX11_worthOf_17 := dSn 3 shX11_worthOf_14
theorem shX11_worthOf_18 : cX11_worthOf.data.toList.drop 18 = sxX11_worthOf_18 := dSn 1 shX11_worthOf_17
theorem shX11_worthOf_21 : cX11_worthOf.data.toList.drop 21 = sxX11_worthOf_21 := dSn 3 shX11_worthOf_18
theorem shX11_worthOf_23 : cX11_worthOf.data.toList.drop 23 = sxX11_worthOf_23 := dSn 2 shX11_worthOf_21
theorem shX11_worthOf_26 : cX11_worthOf.data.toList.drop 26 = sxX11_worthOf_26 := dSn 3 shX11_worthOf_23
theorem shX11_worthOf_29 : cX11_worthOf.data.toList.drop 29 = sxX11_worthOf_29 := dSn 3 shX11_worthOf_26
theorem shX11_worthOf_31 : cX11_worthOf.data.toList.drop 31 = sxX11_worthOf_31 := dSn 2 shX11_worthOf_29
theorem shX11_worthOf_32 : cX11_worthOf.data.toList.drop 32 = sxX11_worthOf_32 := dSn 1 shX11_worthOf_31
theorem shX11_worthOf_34 : cX11_worthOf.data.toList.drop 34 = sxX11_worthOf_34 := dSn 2 shX11_worthOf_32
theorem shX11_worthOf_35 : cX11_worthOf.data.toList.drop 35 = sxX11_worthOf_35 := dSn 1 shX11_worthOf_34
theorem shX11_worthOf_38 : cX11_worthOf.data.toList.drop 38 = sxX11_worthOf_38 := dSn 3 shX11_worthOf_35
theorem shX11_worthOf_41 : cX11_worthOf.data.toList.drop 41 = sxX11_worthOf_41 := dSn 3 shX11_worthOf_38
theorem shX11_worthOf_43 : cX11_worthOf.data.toList.drop 43 = sxX11_worthOf_43 := dSn 2 shX11_worthOf_41
theorem shX11_worthOf_46 : cX11_worthOf.data.toList.drop 46 = sxX11_worthOf_46 := dSn 3 shX11_worthOf_43
theorem shX11_worthOf_47 : cX11_worthOf.data.toList.drop 47 = sxX11_worthOf_47 := dSn 1 shX11_worthOf_46
theorem shX11_worthOf_48 : cX11_worthOf.data.toList.drop 48 = sxX11_worthOf_48 := dSn 1 shX11_worthOf_47
theorem shX11_worthOf_49 : cX11_worthOf.data.toList.drop 49 = sxX11_worthOf_49 := dSn 1 shX11_worthOf_48
theorem shX11_worthOf_50 : cX11_worthOf.data.toList.drop 50 = sxX11_worthOf_50 := dSn 1 shX11_worthOf_49
theorem shX11_worthOf_53 : cX11_worthOf.data.toList.drop 53 = sxX11_worthOf_53 := dSn 3 shX11_worthOf_50
theorem shX11_worthOf_54 : cX11_worthOf.data.toList.drop 54 = sxX11_worthOf_54 := dSn 1 shX11_worthOf_53
theorem shX11_worthOf_55 : cX11_worthOf.data.toList.drop 55 = sxX11_worthOf_55 := dSn 1 shX11_worthOf_54
theorem shX11_worthOf_56 : cX11_worthOf.data.toList.drop 56 = sxX11_worthOf_56 := dSn 1 shX11_worthOf_55
theorem shX11_worthOf_59 : cX11_worthOf.data.toList.drop 59 = sxX11_worthOf_59 := dSn 3 shX11_worthOf_56
theorem shX11_worthOf_62 : cX11_worthOf.data.toList.drop 62 = sxX11_worthOf_62 := dSn 3 shX11_worthOf_59
theorem shX11_worthOf_63 : cX11_worthOf.data.toList.drop 63 = sxX11_worthOf_63 := dSn 1 shX11_worthOf_62
theorem dX11_worthOf_0 : decode cX11_worthOf 0 = .ok (.iconst 0, 1) := oc_3 shX11_worthOf_0
theorem dX11_worthOf_1 : decode cX11_worthOf 1 = .ok (.istore_n 3, 1) := oc_62 shX11_worthOf_1
theorem dX11_worthOf_2 : decode cX11_worthOf 2 = .ok (.iconst 0, 1) := oc_3 shX11_worthOf_2
theorem dX11_worthOf_3 : decode cX11_worthOf 3 = .ok (.istore 4, 2) := oc_54 shX11_worthOf_3
theorem dX11_worthOf_5 : decode cX11_worthOf 5 = .ok (.iload 4, 2) := oc_21 shX11_worthOf_5
theorem dX11_worthOf_7 : decode cX11_worthOf 7 = .ok (.aload_n 0, 1) := oc_42 shX11_worthOf_7
theorem dX11_worthOf_8 : decode cX11_worthOf 8 = .ok (.getfield 61, 3) := oc_180 shX11_worthOf_8
theorem dX11_worthOf_11 : decode cX11_worthOf 11 = .ok (.invokevirtual 84, 3) := oc_182 shX11_worthOf_11
theorem dX11_worthOf_14 : decode cX11_worthOf 14 = .ok (.if_icmp .ge 48, 3) := oc_162 shX11_worthOf_14 sgw_0_48
theorem dX11_worthOf_62 : decode cX11_worthOf 62 = .ok (.iload_n 3, 1) := oc_29 shX11_worthOf_62
theorem dX11_worthOf_63 : decode cX11_worthOf 63 = .ok (.ireturn, 1) := oc_172 shX11_worthOf_63
theorem dX11_worthOf_17 : decode cX11_worthOf 17 = .ok (.aload_n 0, 1) := oc_42 shX11_worthOf_17
theorem dX11_worthOf_18 : decode cX11_worthOf 18 = .ok (.getfield 61, 3) := oc_180 shX11_worthOf_18
theorem dX11_worthOf_21 : decode cX11_worthOf 21 = .ok (.iload 4, 2) := oc_21 shX11_worthOf_21
theorem dX11_worthOf_23 : decode cX11_worthOf 23 = .ok (.invokevirtual 87, 3) := oc_182 shX11_worthOf_23
theorem dX11_worthOf_26 : decode cX11_worthOf 26 = .ok (.checkcast 91, 3) := oc_192 shX11_worthOf_26
theorem dX11_worthOf_29 : decode cX11_worthOf 29 = .ok (.astore 5, 2) := oc_58 shX11_worthOf_29
theorem dX11_worthOf_31 : decode cX11_worthOf 31 = .ok (.iload_n 3, 1) := oc_29 shX11_worthOf_31
theorem dX11_worthOf_32 : decode cX11_worthOf 32 = .ok (.aload 5, 2) := oc_25 shX11_worthOf_32
theorem dX11_worthOf_34 : decode cX11_worthOf 34 = .ok (.iload_n 1, 1) := oc_27 shX11_worthOf_34
theorem dX11_worthOf_35 : decode cX11_worthOf 35 = .ok (.invokevirtual 456, 3) := oc_182 shX11_worthOf_35
theorem dX11_worthOf_38 : decode cX11_worthOf 38 = .ok (.ifCond .eq 15, 3) := oc_153 shX11_worthOf_38 sgw_0_15
theorem dX11_worthOf_53 : decode cX11_worthOf 53 = .ok (.iconst 0, 1) := oc_3 shX11_worthOf_53
theorem dX11_worthOf_54 : decode cX11_worthOf 54 = .ok (.iadd, 1) := oc_96 shX11_worthOf_54
theorem dX11_worthOf_55 : decode cX11_worthOf 55 = .ok (.istore_n 3, 1) := oc_62 shX11_worthOf_55
theorem dX11_worthOf_56 : decode cX11_worthOf 56 = .ok (.iinc 4 1, 3) := oc_132 shX11_worthOf_56 sgb_1
theorem dX11_worthOf_59 : decode cX11_worthOf 59 = .ok (.goto (-54), 3) := oc_167 shX11_worthOf_59 sgw_255_202
theorem dX11_worthOf_41 : decode cX11_worthOf 41 = .ok (.aload 5, 2) := oc_25 shX11_worthOf_41
theorem dX11_worthOf_43 : decode cX11_worthOf 43 = .ok (.getfield 459, 3) := oc_180 shX11_worthOf_43
theorem dX11_worthOf_46 : decode cX11_worthOf 46 = .ok (.iload_n 2, 1) := oc_28 shX11_worthOf_46
theorem dX11_worthOf_47 : decode cX11_worthOf 47 = .ok (.iload_n 1, 1) := oc_27 shX11_worthOf_47
theorem dX11_worthOf_48 : decode cX11_worthOf 48 = .ok (.isub, 1) := oc_100 shX11_worthOf_48
theorem dX11_worthOf_49 : decode cX11_worthOf 49 = .ok (.imul, 1) := oc_104 shX11_worthOf_49
theorem dX11_worthOf_50 : decode cX11_worthOf 50 = .ok (.goto 4, 3) := oc_167 shX11_worthOf_50 sgw_0_4
noncomputable def sxX11_comers_51 : List UInt8 := []
noncomputable def sxX11_comers_50 : List UInt8 := 172 :: sxX11_comers_51
noncomputable def sxX11_comers_49 : List UInt8 := 28 :: sxX11_comers_50
noncomputable def sxX11_comers_46 : List UInt8 := 167 :: 255 :: 214 :: sxX11_comers_49
noncomputable def sxX11_comers_43 : List UInt8 := 132 :: 3 :: 1 :: sxX11_comers_46
noncomputable def sxX11_comers_42 : List UInt8 := 61 :: sxX11_comers_43
noncomputable def sxX11_comers_41 : List UInt8 := 128 :: sxX11_comers_42
noncomputable def sxX11_comers_40 : List UInt8 := 3 :: sxX11_comers_41
noncomputable def sxX11_comers_37 : List UInt8 := 167 :: 0 :: 4 :: sxX11_comers_40
noncomputable def sxX11_comers_36 : List UInt8 := 120 :: sxX11_comers_37
noncomputable def sxX11_comers_35 : List UInt8 := 29 :: sxX11_comers_36
noncomputable def sxX11_comers_34 : List UInt8 := 4 :: sxX11_comers_35
noncomputable def sxX11_comers_31 : List UInt8 := 153 :: 0 :: 9 :: sxX11_comers_34
noncomputable def sxX11_comers_28 : List UInt8 := 182 :: 1 :: 200 :: sxX11_comers_31
noncomputable def sxX11_comers_27 : List UInt8 := 27 :: sxX11_comers_28
noncomputable def sxX11_comers_24 : List UInt8 := 192 :: 0 :: 91 :: sxX11_comers_27
noncomputable def sxX11_comers_21 : List UInt8 := 182 :: 0 :: 87 :: sxX11_comers_24
noncomputable def sxX11_comers_20 : List UInt8 := 29 :: sxX11_comers_21
noncomputable def sxX11_comers_17 : List UInt8 := 180 :: 0 :: 61 :: sxX11_comers_20
noncomputable def sxX11_comers_16 : List UInt8 := 42 :: sxX11_comers_17
noncomputable def sxX11_comers_15 : List UInt8 := 28 :: sxX11_comers_16
noncomputable def sxX11_comers_12 : List UInt8 := 162 :: 0 :: 37 :: sxX11_comers_15
noncomputable def sxX11_comers_9 : List UInt8 := 182 :: 0 :: 84 :: sxX11_comers_12
noncomputable def sxX11_comers_6 : List UInt8 := 180 :: 0 :: 61 :: sxX11_comers_9
noncomputable def sxX11_comers_5 : List UInt8 := 42 :: sxX11_comers_6
noncomputable def sxX11_comers_4 : List UInt8 := 29 :: sxX11_comers_5
noncomputable def sxX11_comers_3 : List UInt8 := 62 :: sxX11_comers_4
noncomputable def sxX11_comers_2 : List UInt8 := 3 :: sxX11_comers_3
noncomputable def sxX11_comers_1 : List UInt8 := 61 :: sxX11_comers_2
noncomputable def sxX11_comers_0 : List UInt8 := 3 :: sxX11_comers_1
theorem shX11_comers_0 : cX11_comers.data.toList.drop 0 = sxX11_comers_0 := rfl
theorem shX11_comers_1 : cX11_comers.data.toList.drop 1 = sxX11_comers_1 := dSn 1 shX11_comers_0
theorem shX11_comers_2 : cX11_comers.data.toList.drop 2 = sxX11_comers_2 := dSn 1 shX11_comers_1
theorem shX11_comers_3 : cX11_comers.data.toList.drop 3 = sxX11_comers_3 := dSn 1 shX11_comers_2
theorem shX11_comers_4 : cX11_comers.data.toList.drop 4 = sxX11_comers_4 := dSn 1 shX11_comers_3
theorem shX11_comers_5 : cX11_comers.data.toList.drop 5 = sxX11_comers_5 := dSn 1 shX11_comers_4
theorem shX11_comers_6 : cX11_comers.data.toList.drop 6 = sxX11_comers_6 := dSn 1 shX11_comers_5
theorem shX11_comers_9 : cX11_comers.data.toList.drop 9 = sxX11_comers_9 := dSn 3 shX11_comers_6
theorem shX11_comers_12 : cX11_comers.data.toList.drop 12 = sxX11_comers_12 := dSn 3 shX11_comers_9
theorem shX11_comers_15 : cX11_comers.data.toList.drop 15 = sxX11_comers_15 := dSn 3 shX11_comers_12
theorem shX11_comers_16 : cX11_comers.data.toList.drop 16 = sxX11_comers_16 := dSn 1 shX11_comers_15
theorem shX11_comers_17 : cX11_comers.data.toList.drop 17 = sxX11_comers_17 := dSn 1 shX11_comers_16
theorem shX11_comers_20 : cX11_comers.data.toList.drop 20 = sxX11_comers_20 := dSn 3 shX11_comers_17
theorem shX11_comers_21 : cX11_comers.data.toList.drop 21 = sxX11_comers_21 := dSn 1 shX11_comers_20
theorem shX11_comers_24 : cX11_comers.data.toList.drop 24 = sxX11_comers_24 := dSn 3 shX11_comers_21
theorem shX11_comers_27 : cX11_comers.data.toList.drop 27 = sxX11_comers_27 := dSn 3 shX11_comers_24
theorem shX11_comers_28 : cX11_comers.data.toList.drop 28 = sxX11_comers_28 := dSn 1 shX11_comers_27
theorem shX11_comers_31 : cX11_comers.data.toList.drop 31 = sxX11_comers_31 := dSn 3 shX11_comers_28
theorem shX11_comers_34 : cX11_comers.data.toList.drop 34 = sxX11_comers_34 := dSn 3 shX11_comers_31
theorem shX11_comers_35 : cX11_comers.data.toList.drop 35 = sxX11_comers_35 := dSn 1 shX11_comers_34
theorem shX11_comers_36 : cX11_comers.data.toList.drop 36 = sxX11_comers_36 := dSn 1 shX11_comers_35
theorem shX11_comers_37 : cX11_comers.data.toList.drop 37 = sxX11_comers_37 := dSn 1 shX11_comers_36
theorem shX11_comers_40 : cX11_comers.data.toList.drop 40 = sxX11_comers_40 := dSn 3 shX11_comers_37
theorem shX11_comers_41 : cX11_comers.data.toList.drop 41 = sxX11_comers_41 := dSn 1 shX11_comers_40
theorem shX11_comers_42 : cX11_comers.data.toList.drop 42 = sxX11_comers_42 := dSn 1 shX11_comers_41
theorem shX11_comers_43 : cX11_comers.data.toList.drop 43 = sxX11_comers_43 := dSn 1 shX11_comers_42
theorem shX11_comers_46 : cX11_comers.data.toList.drop 46 = sxX11_comers_46 := dSn 3 shX11_comers_43
theorem shX11_comers_49 : cX11_comers.data.toList.drop 49 = sxX11_comers_49 := dSn 3 shX11_comers_46
theorem shX11_comers_50 : cX11_comers.data.toList.drop 50 = sxX11_comers_50 := dSn 1 shX11_comers_49
theorem dX11_comers_0 : decode cX11_comers 0 = .ok (.iconst 0, 1) := oc_3 shX11_comers_0
theorem dX11_comers_1 : decode cX11_comers 1 = .ok (.istore_n 2, 1) := oc_61 shX11_comers_1
theorem dX11_comers_2 : decode cX11_comers 2 = .ok (.iconst 0, 1) := oc_3 shX11_comers_2
theorem dX11_comers_3 : decode cX11_comers 3 = .ok (.istore_n 3, 1) := oc_62 shX11_comers_3
theorem dX11_comers_4 : decode cX11_comers 4 = .ok (.iload_n 3, 1) := oc_29 shX11_comers_4
theorem dX11_comers_5 : decode cX11_comers 5 = .ok (.aload_n 0, 1) := oc_42 shX11_comers_5
theorem dX11_comers_6 : decode cX11_comers 6 = .ok (.getfield 61, 3) := oc_180 shX11_comers_6
theorem dX11_comers_9 : decode cX11_comers 9 = .ok (.invokevirtual 84, 3) := oc_182 shX11_comers_9
theorem dX11_comers_12 : decode cX11_comers 12 = .ok (.if_icmp .ge 37, 3) := oc_162 shX11_comers_12 sgw_0_37
theorem dX11_comers_49 : decode cX11_comers 49 = .ok (.iload_n 2, 1) := oc_28 shX11_comers_49
theorem dX11_comers_50 : decode cX11_comers 50 = .ok (.ireturn, 1) := oc_172 shX11_comers_50
theorem dX11_comers_15 : decode cX11_comers 15 = .ok (.iload_n 2, 1) := oc_28 shX11_comers_15
theorem dX11_comers_16 : decode cX11_comers 16 = .ok (.aload_n 0, 1) := oc_42 shX11_comers_16
theorem dX11_comers_17 : decode cX11_comers 17 = .ok (.getfield 61, 3) := oc_180 shX11_comers_17
theorem dX11_comers_20 : decode cX11_comers 20 = .ok (.iload_n 3, 1) := oc_29 shX11_comers_20
theorem dX11_comers_21 : decode cX11_comers 21 = .ok (.invokevirtual 87, 3) := oc_182 shX11_comers_21
theorem dX11_comers_24 : decode cX11_comers 24 = .ok (.checkcast 91, 3) := oc_192 shX11_comers_24
theorem dX11_comers_27 : decode cX11_comers 27 = .ok (.iload_n 1, 1) := oc_27 shX11_comers_27
theorem dX11_comers_28 : decode cX11_comers 28 = .ok (.invokevirtual 456, 3) := oc_182 shX11_comers_28
theorem dX11_comers_31 : decode cX11_comers 31 = .ok (.ifCond .eq 9, 3) := oc_153 shX11_comers_31 sgw_0_9
theorem dX11_comers_40 : decode cX11_comers 40 = .ok (.iconst 0, 1) := oc_3 shX11_comers_40
theorem dX11_comers_41 : decode cX11_comers 41 = .ok (.ior, 1) := oc_128 shX11_comers_41
theorem dX11_comers_42 : decode cX11_comers 42 = .ok (.istore_n 2, 1) := oc_61 shX11_comers_42
theorem dX11_comers_43 : decode cX11_comers 43 = .ok (.iinc 3 1, 3) := oc_132 shX11_comers_43 sgb_1
theorem dX11_comers_46 : decode cX11_comers 46 = .ok (.goto (-42), 3) := oc_167 shX11_comers_46 sgw_255_214
theorem dX11_comers_34 : decode cX11_comers 34 = .ok (.iconst 1, 1) := oc_4 shX11_comers_34
theorem dX11_comers_35 : decode cX11_comers 35 = .ok (.iload_n 3, 1) := oc_29 shX11_comers_35
theorem dX11_comers_36 : decode cX11_comers 36 = .ok (.ishl, 1) := oc_120 shX11_comers_36
theorem dX11_comers_37 : decode cX11_comers 37 = .ok (.goto 4, 3) := oc_167 shX11_comers_37 sgw_0_4
noncomputable def sxX11_worth_35 : List UInt8 := []
noncomputable def sxX11_worth_34 : List UInt8 := 172 :: sxX11_worth_35
noncomputable def sxX11_worth_31 : List UInt8 := 19 :: 1 :: 207 :: sxX11_worth_34
noncomputable def sxX11_worth_28 : List UInt8 := 167 :: 0 :: 6 :: sxX11_worth_31
noncomputable def sxX11_worth_25 : List UInt8 := 182 :: 1 :: 204 :: sxX11_worth_28
noncomputable def sxX11_worth_24 : List UInt8 := 28 :: sxX11_worth_25
noncomputable def sxX11_worth_23 : List UInt8 := 27 :: sxX11_worth_24
noncomputable def sxX11_worth_22 : List UInt8 := 42 :: sxX11_worth_23
noncomputable def sxX11_worth_19 : List UInt8 := 153 :: 0 :: 12 :: sxX11_worth_22
noncomputable def sxX11_worth_16 : List UInt8 := 184 :: 0 :: 80 :: sxX11_worth_19
noncomputable def sxX11_worth_13 : List UInt8 := 17 :: 3 :: 232 :: sxX11_worth_16
noncomputable def sxX11_worth_12 : List UInt8 := 3 :: sxX11_worth_13
noncomputable def sxX11_worth_11 : List UInt8 := 28 :: sxX11_worth_12
noncomputable def sxX11_worth_8 : List UInt8 := 153 :: 0 :: 23 :: sxX11_worth_11
noncomputable def sxX11_worth_5 : List UInt8 := 184 :: 0 :: 80 :: sxX11_worth_8
noncomputable def sxX11_worth_2 : List UInt8 := 17 :: 0 :: 200 :: sxX11_worth_5
noncomputable def sxX11_worth_1 : List UInt8 := 3 :: sxX11_worth_2
noncomputable def sxX11_worth_0 : List UInt8 := 27 :: sxX11_worth_1
theorem shX11_worth_0 : cX11_worth.data.toList.drop 0 = sxX11_worth_0 := rfl
theorem shX11_worth_1 : cX11_worth.data.toList.drop 1 = sxX11_worth_1 := dSn 1 shX11_worth_0
theorem shX11_worth_2 : cX11_worth.data.toList.drop 2 = sxX11_worth_2 := dSn 1 shX11_worth_1
theorem shX11_worth_5 : cX11_worth.data.toList.drop 5 = sxX11_worth_5 := dSn 3 shX11_worth_2
theorem shX11_worth_8 : cX11_worth.data.toList.drop 8 = sxX11_worth_8 := dSn 3 shX11_worth_5
theorem shX11_worth_11 : cX11_worth.data.toList.drop 11 = sxX11_worth_11 := dSn 3 shX11_worth_8
theorem shX11_worth_12 : cX11_worth.data.toList.drop 12 = sxX11_worth_12 := dSn 1 shX11_worth_11
theorem shX11_worth_13 : cX11_worth.data.toList.drop 13 = sxX11_worth_13 := dSn 1 shX11_worth_12
theorem shX11_worth_16 : cX11_worth.data.toList.drop 16 = sxX11_worth_16 := dSn 3 shX11_worth_13
theorem shX11_worth_19 : cX11_worth.data.toList.drop 19 = sxX11_worth_19 := dSn 3 shX11_worth_16
theorem shX11_worth_22 : cX11_worth.data.toList.drop 22 = sxX11_worth_22 := dSn 3 shX11_worth_19
theorem shX11_worth_23 : cX11_worth.data.toList.drop 23 = sxX11_worth_23 := dSn 1 shX11_worth_22
theorem shX11_worth_24 : cX11_worth.data.toList.drop 24 = sxX11_worth_24 := dSn 1 shX11_worth_23
theorem shX11_worth_25 : cX11_worth.data.toList.drop 25 = sxX11_worth_25 := dSn 1 shX11_worth_24
theorem shX11_worth_28 : cX11_worth.data.toList.drop 28 = sxX11_worth_28 := dSn 3 shX11_worth_25
theorem shX11_worth_31 : cX11_worth.data.toList.drop 31 = sxX11_worth_31 := dSn 3 shX11_worth_28
theorem shX11_worth_34 : cX11_worth.data.toList.drop 34 = sxX11_worth_34 := dSn 3 shX11_worth_31
theorem dX11_worth_0 : decode cX11_worth 0 = .ok (.iload_n 1, 1) := oc_27 shX11_worth_0
theorem dX11_worth_1 : decode cX11_worth 1 = .ok (.iconst 0, 1) := oc_3 shX11_worth_1
theorem dX11_worth_2 : decode cX11_worth 2 = .ok (.sipush 200, 3) := oc_17 shX11_worth_2 sgw_0_200
theorem dX11_worth_5 : decode cX11_worth 5 = .ok (.invokestatic 80, 3) := oc_184 shX11_worth_5
theorem dX11_worth_8 : decode cX11_worth 8 = .ok (.ifCond .eq 23, 3) := oc_153 shX11_worth_8 sgw_0_23
theorem dX11_worth_11 : decode cX11_worth 11 = .ok (.iload_n 2, 1) := oc_28 shX11_worth_11
theorem dX11_worth_12 : decode cX11_worth 12 = .ok (.iconst 0, 1) := oc_3 shX11_worth_12
theorem dX11_worth_13 : decode cX11_worth 13 = .ok (.sipush 1000, 3) := oc_17 shX11_worth_13 sgw_3_232
theorem dX11_worth_16 : decode cX11_worth 16 = .ok (.invokestatic 80, 3) := oc_184 shX11_worth_16
theorem dX11_worth_19 : decode cX11_worth 19 = .ok (.ifCond .eq 12, 3) := oc_153 shX11_worth_19 sgw_0_12
theorem dX11_worth_22 : decode cX11_worth 22 = .ok (.aload_n 0, 1) := oc_42 shX11_worth_22
theorem dX11_worth_23 : decode cX11_worth 23 = .ok (.iload_n 1, 1) := oc_27 shX11_worth_23
theorem dX11_worth_24 : decode cX11_worth 24 = .ok (.iload_n 2, 1) := oc_28 shX11_worth_24
theorem dX11_worth_25 : decode cX11_worth 25 = .ok (.invokevirtual 460, 3) := oc_182 shX11_worth_25
theorem dX11_worth_28 : decode cX11_worth 28 = .ok (.goto 6, 3) := oc_167 shX11_worth_28 sgw_0_6
theorem dX11_worth_34 : decode cX11_worth 34 = .ok (.ireturn, 1) := oc_172 shX11_worth_34
theorem dX11_worth_31 : decode cX11_worth 31 = .ok (.ldc_w 463, 3) := oc_19 shX11_worth_31
noncomputable def sxX11_offer_96 : List UInt8 := []
noncomputable def sxX11_offer_95 : List UInt8 := 172 :: sxX11_offer_96
noncomputable def sxX11_offer_92 : List UInt8 := 182 :: 1 :: 208 :: sxX11_offer_95
noncomputable def sxX11_offer_91 : List UInt8 := 29 :: sxX11_offer_92
noncomputable def sxX11_offer_90 : List UInt8 := 42 :: sxX11_offer_91
noncomputable def sxX11_offer_87 : List UInt8 := 167 :: 0 :: 8 :: sxX11_offer_90
noncomputable def sxX11_offer_85 : List UInt8 := 21 :: 4 :: sxX11_offer_87
noncomputable def sxX11_offer_82 : List UInt8 := 160 :: 0 :: 8 :: sxX11_offer_85
noncomputable def sxX11_offer_81 : List UInt8 := 4 :: sxX11_offer_82
noncomputable def sxX11_offer_80 : List UInt8 := 28 :: sxX11_offer_81
noncomputable def sxX11_offer_77 : List UInt8 := 167 :: 0 :: 18 :: sxX11_offer_80
noncomputable def sxX11_offer_76 : List UInt8 := 29 :: sxX11_offer_77
noncomputable def sxX11_offer_73 : List UInt8 := 154 :: 0 :: 7 :: sxX11_offer_76
noncomputable def sxX11_offer_72 : List UInt8 := 28 :: sxX11_offer_73
noncomputable def sxX11_offer_69 : List UInt8 := 167 :: 255 :: 222 :: sxX11_offer_72
noncomputable def sxX11_offer_66 : List UInt8 := 132 :: 5 :: 1 :: sxX11_offer_69
noncomputable def sxX11_offer_64 : List UInt8 := 54 :: 4 :: sxX11_offer_66
noncomputable def sxX11_offer_62 : List UInt8 := 21 :: 6 :: sxX11_offer_64
noncomputable def sxX11_offer_61 : List UInt8 := 62 :: sxX11_offer_62
noncomputable def sxX11_offer_59 : List UInt8 := 21 :: 5 :: sxX11_offer_61
noncomputable def sxX11_offer_56 : List UInt8 := 164 :: 0 :: 10 :: sxX11_offer_59
noncomputable def sxX11_offer_54 : List UInt8 := 21 :: 4 :: sxX11_offer_56
noncomputable def sxX11_offer_52 : List UInt8 := 21 :: 6 :: sxX11_offer_54
noncomputable def sxX11_offer_50 : List UInt8 := 54 :: 6 :: sxX11_offer_52
noncomputable def sxX11_offer_47 : List UInt8 := 182 :: 1 :: 204 :: sxX11_offer_50
noncomputable def sxX11_offer_46 : List UInt8 := 27 :: sxX11_offer_47
noncomputable def sxX11_offer_44 : List UInt8 := 21 :: 5 :: sxX11_offer_46
noncomputable def sxX11_offer_43 : List UInt8 := 42 :: sxX11_offer_44
noncomputable def sxX11_offer_40 : List UInt8 := 163 :: 0 :: 32 :: sxX11_offer_43
noncomputable def sxX11_offer_37 : List UInt8 := 17 :: 0 :: 200 :: sxX11_offer_40
noncomputable def sxX11_offer_35 : List UInt8 := 21 :: 5 :: sxX11_offer_37
noncomputable def sxX11_offer_33 : List UInt8 := 54 :: 5 :: sxX11_offer_35
noncomputable def sxX11_offer_32 : List UInt8 := 4 :: sxX11_offer_33
noncomputable def sxX11_offer_30 : List UInt8 := 54 :: 4 :: sxX11_offer_32
noncomputable def sxX11_offer_27 : List UInt8 := 182 :: 1 :: 204 :: sxX11_offer_30
noncomputable def sxX11_offer_26 : List UInt8 := 27 :: sxX11_offer_27
noncomputable def sxX11_offer_25 : List UInt8 := 3 :: sxX11_offer_26
noncomputable def sxX11_offer_24 : List UInt8 := 42 :: sxX11_offer_25
noncomputable def sxX11_offer_23 : List UInt8 := 62 :: sxX11_offer_24
noncomputable def sxX11_offer_22 : List UInt8 := 3 :: sxX11_offer_23
noncomputable def sxX11_offer_21 : List UInt8 := 172 :: sxX11_offer_22
noncomputable def sxX11_offer_20 : List UInt8 := 2 :: sxX11_offer_21
noncomputable def sxX11_offer_17 : List UInt8 := 154 :: 0 :: 5 :: sxX11_offer_20
noncomputable def sxX11_offer_14 : List UInt8 := 184 :: 0 :: 80 :: sxX11_offer_17
noncomputable def sxX11_offer_13 : List UInt8 := 5 :: sxX11_offer_14
noncomputable def sxX11_offer_12 : List UInt8 := 3 :: sxX11_offer_13
noncomputable def sxX11_offer_11 : List UInt8 := 28 :: sxX11_offer_12
noncomputable def sxX11_offer_8 : List UInt8 := 153 :: 0 :: 12 :: sxX11_offer_11
noncomputable def sxX11_offer_5 : List UInt8 := 184 :: 0 :: 80 :: sxX11_offer_8
noncomputable def sxX11_offer_2 : List UInt8 := 17 :: 3 :: 232 :: sxX11_offer_5
noncomputable def sxX11_offer_1 : List UInt8 := 3 :: sxX11_offer_2
noncomputable def sxX11_offer_0 : List UInt8 := 27 :: sxX11_offer_1
theorem shX11_offer_0 : cX11_offer.data.toList.drop 0 = sxX11_offer_0 := rfl
theorem shX11_offer_1 : cX11_offer.data.toList.drop 1 = sxX11_offer_1 := dSn 1 shX11_offer_0
theorem shX11_offer_2 : cX11_offer.data.toList.drop 2 = sxX11_offer_2 := dSn 1 shX11_offer_1
theorem shX11_offer_5 : cX11_offer.data.toList.drop 5 = sxX11_offer_5 := dSn 3 shX11_offer_2
theorem shX11_offer_8 : cX11_offer.data.toList.drop 8 = sxX11_offer_8 := dSn 3 shX11_offer_5
theorem shX11_offer_11 : cX11_offer.data.toList.drop 11 = sxX11_offer_11 := dSn 3 shX11_offer_8
theorem shX11_offer_12 : cX11_offer.data.toList.drop 12 = sxX11_offer_12 := dSn 1 shX11_offer_11
theorem shX11_offer_13 : cX11_offer.data.toList.drop 13 = sxX11_offer_13 := dSn 1 shX11_offer_12
theorem shX11_offer_14 : cX11_offer.data.toList.drop 14 = sxX11_offer_14 := dSn 1 shX11_offer_13
theorem shX11_offer_17 : cX11_offer.data.toList.drop 17 = sxX11_offer_17 := dSn 3 shX11_offer_14
theorem shX11_offer_20 : cX11_offer.data.toList.drop 20 = sxX11_offer_20 := dSn 3 shX11_offer_17
theorem shX11_offer_21 : cX11_offer.data.toList.drop 21 = sxX11_offer_21 := dSn 1 shX11_offer_20
theorem shX11_offer_22 : cX11_offer.data.toList.drop 22 = sxX11_offer_22 := dSn 1 shX11_offer_21
theorem shX11_offer_23 : cX11_offer.data.toList.drop 23 = sxX11_offer_23 := dSn 1 shX11_offer_22
theorem shX11_offer_24 : cX11_offer.data.toList.drop 24 = sxX11_offer_24 := dSn 1 shX11_offer_23
theorem shX11_offer_25 : cX11_offer.data.toList.drop 25 = sxX11_offer_25 := dSn 1 shX11_offer_24
theorem shX11_offer_26 : cX11_offer.data.toList.drop 26 = sxX11_offer_26 := dSn 1 shX11_offer_25
theorem shX11_offer_27 : cX11_offer.data.toList.drop 27 = sxX11_offer_27 := dSn 1 shX11_offer_26
theorem shX11_offer_30 : cX11_offer.data.toList.drop 30 = sxX11_offer_30 := dSn 3 shX11_offer_27
theorem shX11_offer_32 : cX11_offer.data.toList.drop 32 = sxX11_offer_32 := dSn 2 shX11_offer_30
theorem shX11_offer_33 : cX11_offer.data.toList.drop 33 = sxX11_offer_33 := dSn 1 shX11_offer_32
theorem shX11_offer_35 : cX11_offer.data.toList.drop 35 = sxX11_offer_35 := dSn 2 shX11_offer_33
theorem shX11_offer_37 : cX11_offer.data.toList.drop 37 = sxX11_offer_37 := dSn 2 shX11_offer_35
theorem shX11_offer_40 : cX11_offer.data.toList.drop 40 = sxX11_offer_40 := dSn 3 shX11_offer_37
theorem shX11_offer_43 : cX11_offer.data.toList.drop 43 = sxX11_offer_43 := dSn 3 shX11_offer_40
theorem shX11_offer_44 : cX11_offer.data.toList.drop 44 = sxX11_offer_44 := dSn 1 shX11_offer_43
theorem shX11_offer_46 : cX11_offer.data.toList.drop 46 = sxX11_offer_46 := dSn 2 shX11_offer_44
theorem shX11_offer_47 : cX11_offer.data.toList.drop 47 = sxX11_offer_47 := dSn 1 shX11_offer_46
theorem shX11_offer_50 : cX11_offer.data.toList.drop 50 = sxX11_offer_50 := dSn 3 shX11_offer_47
theorem shX11_offer_52 : cX11_offer.data.toList.drop 52 = sxX11_offer_52 := dSn 2 shX11_offer_50
theorem shX11_offer_54 : cX11_offer.data.toList.drop 54 = sxX11_offer_54 := dSn 2 shX11_offer_52
theorem shX11_offer_56 : cX11_offer.data.toList.drop 56 = sxX11_offer_56 := dSn 2 shX11_offer_54
theorem shX11_offer_59 : cX11_offer.data.toList.drop 59 = sxX11_offer_59 := dSn 3 shX11_offer_56
theorem shX11_offer_61 : cX11_offer.data.toList.drop 61 = sxX11_offer_61 := dSn 2 shX11_offer_59
theorem shX11_offer_62 : cX11_offer.data.toList.drop 62 = sxX11_offer_62 := dSn 1 shX11_offer_61
theorem shX11_offer_64 : cX11_offer.data.toList.drop 64 = sxX11_offer_64 := dSn 2 shX11_offer_62
theorem shX11_offer_66 : cX11_offer.data.toList.drop 66 = sxX11_offer_66 := dSn 2 shX11_offer_64
theorem shX11_offer_69 : cX11_offer.data.toList.drop 69 = sxX11_offer_69 := dSn 3 shX11_offer_66
theorem shX11_offer_72 : cX11_offer.data.toList.drop 72 = sxX11_offer_72 := dSn 3 shX11_offer_69
theorem shX11_offer_73 : cX11_offer.data.toList.drop 73 = sxX11_offer_73 := dSn 1 shX11_offer_72
theorem shX11_offer_76 : cX11_offer.data.toList.drop 76 = sxX11_offer_76 := dSn 3 shX11_offer_73
theorem shX11_offer_77 : cX11_offer.data.toList.drop 77 = sxX11_offer_77 := dSn 1 shX11_offer_76
theorem shX11_offer_80 : cX11_offer.data.toList.drop 80 = sxX11_offer_80 := dSn 3 shX11_offer_77
theorem shX11_offer_81 : cX11_offer.data.toList.drop 81 = sxX11_offer_81 := dSn 1 shX11_offer_80
theorem shX11_offer_82 : cX11_offer.data.toList.drop 82 = sxX11_offer_82 := dSn 1 shX11_offer_81
theorem shX11_offer_85 : cX11_offer.data.toList.drop 85 = sxX11_offer_85 := dSn 3 shX11_offer_82
theorem shX11_offer_87 : cX11_offer.data.toList.drop 87 = sxX11_offer_87 := dSn 2 shX11_offer_85
theorem shX11_offer_90 : cX11_offer.data.toList.drop 90 = sxX11_offer_90 := dSn 3 shX11_offer_87
theorem shX11_offer_91 : cX11_offer.data.toList.drop 91 = sxX11_offer_91 := dSn 1 shX11_offer_90
theorem shX11_offer_92 : cX11_offer.data.toList.drop 92 = sxX11_offer_92 := dSn 1 shX11_offer_91
theorem shX11_offer_95 : cX11_offer.data.toList.drop 95 = sxX11_offer_95 := dSn 3 shX11_offer_92
theorem dX11_offer_0 : decode cX11_offer 0 = .ok (.iload_n 1, 1) := oc_27 shX11_offer_0
theorem dX11_offer_1 : decode cX11_offer 1 = .ok (.iconst 0, 1) := oc_3 shX11_offer_1
theorem dX11_offer_2 : decode cX11_offer 2 = .ok (.sipush 1000, 3) := oc_17 shX11_offer_2 sgw_3_232
theorem dX11_offer_5 : decode cX11_offer 5 = .ok (.invokestatic 80, 3) := oc_184 shX11_offer_5
theorem dX11_offer_8 : decode cX11_offer 8 = .ok (.ifCond .eq 12, 3) := oc_153 shX11_offer_8 sgw_0_12
theorem dX11_offer_11 : decode cX11_offer 11 = .ok (.iload_n 2, 1) := oc_28 shX11_offer_11
theorem dX11_offer_12 : decode cX11_offer 12 = .ok (.iconst 0, 1) := oc_3 shX11_offer_12
theorem dX11_offer_13 : decode cX11_offer 13 = .ok (.iconst 2, 1) := oc_5 shX11_offer_13
theorem dX11_offer_14 : decode cX11_offer 14 = .ok (.invokestatic 80, 3) := oc_184 shX11_offer_14
theorem dX11_offer_17 : decode cX11_offer 17 = .ok (.ifCond .ne 5, 3) := oc_154 shX11_offer_17 sgw_0_5
theorem dX11_offer_22 : decode cX11_offer 22 = .ok (.iconst 0, 1) := oc_3 shX11_offer_22
theorem dX11_offer_23 : decode cX11_offer 23 = .ok (.istore_n 3, 1) := oc_62 shX11_offer_23
theorem dX11_offer_24 : decode cX11_offer 24 = .ok (.aload_n 0, 1) := oc_42 shX11_offer_24
theorem dX11_offer_25 : decode cX11_offer 25 = .ok (.iconst 0, 1) := oc_3 shX11_offer_25
theorem dX11_offer_26 : decode cX11_offer 26 = .ok (.iload_n 1, 1) := oc_27 shX11_offer_26
theorem dX11_offer_27 : decode cX11_offer 27 = .ok (.invokevirtual 460, 3) := oc_182 shX11_offer_27
theorem dX11_offer_30 : decode cX11_offer 30 = .ok (.istore 4, 2) := oc_54 shX11_offer_30
theorem dX11_offer_32 : decode cX11_offer 32 = .ok (.iconst 1, 1) := oc_4 shX11_offer_32
theorem dX11_offer_33 : decode cX11_offer 33 = .ok (.istore 5, 2) := oc_54 shX11_offer_33
theorem dX11_offer_35 : decode cX11_offer 35 = .ok (.iload 5, 2) := oc_21 shX11_offer_35
theorem dX11_offer_37 : decode cX11_offer 37 = .ok (.sipush 200, 3) := oc_17 shX11_offer_37 sgw_0_200
theorem dX11_offer_40 : decode cX11_offer 40 = .ok (.if_icmp .gt 32, 3) := oc_163 shX11_offer_40 sgw_0_32
theorem dX11_offer_72 : decode cX11_offer 72 = .ok (.iload_n 2, 1) := oc_28 shX11_offer_72
theorem dX11_offer_73 : decode cX11_offer 73 = .ok (.ifCond .ne 7, 3) := oc_154 shX11_offer_73 sgw_0_7
theorem dX11_offer_80 : decode cX11_offer 80 = .ok (.iload_n 2, 1) := oc_28 shX11_offer_80
theorem dX11_offer_81 : decode cX11_offer 81 = .ok (.iconst 1, 1) := oc_4 shX11_offer_81
theorem dX11_offer_82 : decode cX11_offer 82 = .ok (.if_icmp .ne 8, 3) := oc_160 shX11_offer_82 sgw_0_8
theorem dX11_offer_90 : decode cX11_offer 90 = .ok (.aload_n 0, 1) := oc_42 shX11_offer_90
theorem dX11_offer_91 : decode cX11_offer 91 = .ok (.iload_n 3, 1) := oc_29 shX11_offer_91
theorem dX11_offer_92 : decode cX11_offer 92 = .ok (.invokevirtual 464, 3) := oc_182 shX11_offer_92
theorem dX11_offer_95 : decode cX11_offer 95 = .ok (.ireturn, 1) := oc_172 shX11_offer_95
theorem dX11_offer_85 : decode cX11_offer 85 = .ok (.iload 4, 2) := oc_21 shX11_offer_85
theorem dX11_offer_87 : decode cX11_offer 87 = .ok (.goto 8, 3) := oc_167 shX11_offer_87 sgw_0_8
theorem dX11_offer_76 : decode cX11_offer 76 = .ok (.iload_n 3, 1) := oc_29 shX11_offer_76
theorem dX11_offer_77 : decode cX11_offer 77 = .ok (.goto 18, 3) := oc_167 shX11_offer_77 sgw_0_18
theorem dX11_offer_43 : decode cX11_offer 43 = .ok (.aload_n 0, 1) := oc_42 shX11_offer_43
theorem dX11_offer_44 : decode cX11_offer 44 = .ok (.iload 5, 2) := oc_21 shX11_offer_44
theorem dX11_offer_46 : decode cX11_offer 46 = .ok (.iload_n 1, 1) := oc_27 shX11_offer_46
theorem dX11_offer_47 : decode cX11_offer 47 = .ok (.invokevirtual 460, 3) := oc_182 shX11_offer_47
theorem dX11_offer_50 : decode cX11_offer 50 = .ok (.istore 6, 2) := oc_54 shX11_offer_50
theorem dX11_offer_52 : decode cX11_offer 52 = .ok (.iload 6, 2) := oc_21 shX11_offer_52
theorem dX11_offer_54 : decode cX11_offer 54 = .ok (.iload 4, 2) := oc_21 shX11_offer_54
theorem dX11_offer_56 : decode cX11_offer 56 = .ok (.if_icmp .le 10, 3) := oc_164 shX11_offer_56 sgw_0_10
theorem dX11_offer_66 : decode cX11_offer 66 = .ok (.iinc 5 1, 3) := oc_132 shX11_offer_66 sgb_1
theorem dX11_offer_69 : decode cX11_offer 69 = .ok (.goto (-34), 3) := oc_167 shX11_offer_69 sgw_255_222
theorem dX11_offer_59 : decode cX11_offer 59 = .ok (.iload 5, 2) := oc_21 shX11_offer_59
theorem dX11_offer_61 : decode cX11_offer 61 = .ok (.istore_n 3, 1) := oc_62 shX11_offer_61
theorem dX11_offer_62 : decode cX11_offer 62 = .ok (.iload 6, 2) := oc_21 shX11_offer_62
theorem dX11_offer_64 : decode cX11_offer 64 = .ok (.istore 4, 2) := oc_54 shX11_offer_64
theorem dX11_offer_20 : decode cX11_offer 20 = .ok (.iconst (-1), 1) := oc_2 shX11_offer_20
theorem dX11_offer_21 : decode cX11_offer 21 = .ok (.ireturn, 1) := oc_172 shX11_offer_21
noncomputable def sxX11_isBeside_73 : List UInt8 := []
noncomputable def sxX11_isBeside_72 : List UInt8 := 172 :: sxX11_isBeside_73
noncomputable def sxX11_isBeside_71 : List UInt8 := 3 :: sxX11_isBeside_72
noncomputable def sxX11_isBeside_68 : List UInt8 := 167 :: 255 :: 191 :: sxX11_isBeside_71
noncomputable def sxX11_isBeside_65 : List UInt8 := 132 :: 4 :: 1 :: sxX11_isBeside_68
noncomputable def sxX11_isBeside_64 : List UInt8 := 172 :: sxX11_isBeside_65
noncomputable def sxX11_isBeside_63 : List UInt8 := 4 :: sxX11_isBeside_64
noncomputable def sxX11_isBeside_60 : List UInt8 := 163 :: 0 :: 5 :: sxX11_isBeside_63
noncomputable def sxX11_isBeside_59 : List UInt8 := 28 :: sxX11_isBeside_60
noncomputable def sxX11_isBeside_56 : List UInt8 := 184 :: 1 :: 43 :: sxX11_isBeside_59
noncomputable def sxX11_isBeside_53 : List UInt8 := 180 :: 1 :: 225 :: sxX11_isBeside_56
noncomputable def sxX11_isBeside_51 : List UInt8 := 25 :: 5 :: sxX11_isBeside_53
noncomputable def sxX11_isBeside_48 : List UInt8 := 180 :: 1 :: 224 :: sxX11_isBeside_51
noncomputable def sxX11_isBeside_46 : List UInt8 := 25 :: 5 :: sxX11_isBeside_48
noncomputable def sxX11_isBeside_43 : List UInt8 := 180 :: 1 :: 40 :: sxX11_isBeside_46
noncomputable def sxX11_isBeside_42 : List UInt8 := 43 :: sxX11_isBeside_43
noncomputable def sxX11_isBeside_39 : List UInt8 := 180 :: 1 :: 37 :: sxX11_isBeside_42
noncomputable def sxX11_isBeside_38 : List UInt8 := 43 :: sxX11_isBeside_39
noncomputable def sxX11_isBeside_35 : List UInt8 := 161 :: 0 :: 30 :: sxX11_isBeside_38
noncomputable def sxX11_isBeside_34 : List UInt8 := 29 :: sxX11_isBeside_35
noncomputable def sxX11_isBeside_31 : List UInt8 := 180 :: 1 :: 221 :: sxX11_isBeside_34
noncomputable def sxX11_isBeside_29 : List UInt8 := 25 :: 5 :: sxX11_isBeside_31
noncomputable def sxX11_isBeside_27 : List UInt8 := 58 :: 5 :: sxX11_isBeside_29
noncomputable def sxX11_isBeside_24 : List UInt8 := 192 :: 1 :: 217 :: sxX11_isBeside_27
noncomputable def sxX11_isBeside_21 : List UInt8 := 182 :: 0 :: 87 :: sxX11_isBeside_24
noncomputable def sxX11_isBeside_19 : List UInt8 := 21 :: 4 :: sxX11_isBeside_21
noncomputable def sxX11_isBeside_16 : List UInt8 := 180 :: 0 :: 74 :: sxX11_isBeside_19
noncomputable def sxX11_isBeside_15 : List UInt8 := 42 :: sxX11_isBeside_16
noncomputable def sxX11_isBeside_12 : List UInt8 := 162 :: 0 :: 59 :: sxX11_isBeside_15
noncomputable def sxX11_isBeside_9 : List UInt8 := 182 :: 0 :: 84 :: sxX11_isBeside_12
noncomputable def sxX11_isBeside_6 : List UInt8 := 180 :: 0 :: 74 :: sxX11_isBeside_9
noncomputable def sxX11_isBeside_5 : List UInt8 := 42 :: sxX11_isBeside_6
noncomputable def sxX11_isBeside_3 : List UInt8 := 21 :: 4 :: sxX11_isBeside_5
noncomputable def sxX11_isBeside_1 : List UInt8 := 54 :: 4 :: sxX11_isBeside_3
noncomputable def sxX11_isBeside_0 : List UInt8 := 3 :: sxX11_isBeside_1
theorem shX11_isBeside_0 : cX11_isBeside.data.toList.drop 0 = sxX11_isBeside_0 := rfl
theorem shX11_isBeside_1 : cX11_isBeside.data.toList.drop 1 = sxX11_isBeside_1 := dSn 1 shX11_isBeside_0
theorem shX11_isBeside_3 : cX11_isBeside.data.toList.drop 3 = sxX11_isBeside_3 := dSn 2 shX11_isBeside_1
theorem shX11_isBeside_5 : cX11_isBeside.data.toList.drop 5 = sxX11_isBeside_5 := dSn 2 shX11_isBeside_3
theorem shX11_isBeside_6 : cX11_isBeside.data.toList.drop 6 = sxX11_isBeside_6 := dSn 1 shX11_isBeside_5
theorem shX11_isBeside_9 : cX11_isBeside.data.toList.drop 9 = sxX11_isBeside_9 := dSn 3 shX11_isBeside_6
theorem shX11_isBeside_12 : cX11_isBeside.data.toList.drop 12 = sxX11_isBeside_12 := dSn 3 shX11_isBeside_9
theorem shX11_isBeside_15 : cX11_isBeside.data.toList.drop 15 = sxX11_isBeside_15 := dSn 3 shX11_isBeside_12
theorem shX11_isBeside_16 : cX11_isBeside.data.toList.drop 16 = sxX11_isBeside_16 := dSn 1 shX11_isBeside_15
theorem shX11_isBeside_19 : cX11_isBeside.data.toList.drop 19 = sxX11_isBeside_19 := dSn 3 shX11_isBeside_16
theorem shX11_isBeside_21 : cX11_isBeside.data.toList.drop 21 = sxX11_isBeside_21 := dSn 2 shX11_isBeside_19
theorem shX11_isBeside_24 : cX11_isBeside.data.toList.drop 24 = sxX11_isBeside_24 := dSn 3 shX11_isBeside_21
theorem shX11_isBeside_27 : cX11_isBeside.data.toList.drop 27 = sxX11_isBeside_27 := dSn 3 shX11_isBeside_24
theorem shX11_isBeside_29 : cX11_isBeside.data.toList.drop 29 = sxX11_isBeside_29 := dSn 2 shX11_isBeside_27
theorem shX11_isBeside_31 : cX11_isBeside.data.toList.drop 31 = sxX11_isBeside_31 := dSn 2 shX11_isBeside_29
theorem shX11_isBeside_34 : cX11_isBeside.data.toList.drop 34 = sxX11_isBeside_34 := dSn 3 shX11_isBeside_31
theorem shX11_isBeside_35 : cX11_isBeside.data.toList.drop 35 = sxX11_isBeside_35 := dSn 1 shX11_isBeside_34
theorem shX11_isBeside_38 : cX11_isBeside.data.toList.drop 38 = sxX11_isBeside_38 := dSn 3 shX11_isBeside_35
theorem shX11_isBeside_39 : cX11_isBeside.data.toList.drop 39 = sxX11_isBeside_39 := dSn 1 shX11_isBeside_38
theorem shX11_isBeside_42 : cX11_isBeside.data.toList.drop 42 = sxX11_isBeside_42 := dSn 3 shX11_isBeside_39
theorem shX11_isBeside_43 : cX11_isBeside.data.toList.drop 43 = sxX11_isBeside_43 := dSn 1 shX11_isBeside_42
theorem shX11_isBeside_46 : cX11_isBeside.data.toList.drop 46 = sxX11_isBeside_46 := dSn 3 shX11_isBeside_43
theorem shX11_isBeside_48 : cX11_isBeside.data.toList.drop 48 = sxX11_isBeside_48 := dSn 2 shX11_isBeside_46
theorem shX11_isBeside_51 : cX11_isBeside.data.toList.drop 51 = sxX11_isBeside_51 := dSn 3 shX11_isBeside_48
theorem shX11_isBeside_53 : cX11_isBeside.data.toList.drop 53 = sxX11_isBeside_53 := dSn 2 shX11_isBeside_51
theorem shX11_isBeside_56 : cX11_isBeside.data.toList.drop 56 = sxX11_isBeside_56 := dSn 3 shX11_isBeside_53
theorem shX11_isBeside_59 : cX11_isBeside.data.toList.drop 59 = sxX11_isBeside_59 := dSn 3 shX11_isBeside_56
theorem shX11_isBeside_60 : cX11_isBeside.data.toList.drop 60 = sxX11_isBeside_60 := dSn 1 shX11_isBeside_59
theorem shX11_isBeside_63 : cX11_isBeside.data.toList.drop 63 = sxX11_isBeside_63 := dSn 3 shX11_isBeside_60
theorem shX11_isBeside_64 : cX11_isBeside.data.toList.drop 64 = sxX11_isBeside_64 := dSn 1 shX11_isBeside_63
theorem shX11_isBeside_65 : cX11_isBeside.data.toList.drop 65 = sxX11_isBeside_65 := dSn 1 shX11_isBeside_64
theorem shX11_isBeside_68 : cX11_isBeside.data.toList.drop 68 = sxX11_isBeside_68 := dSn 3 shX11_isBeside_65
theorem shX11_isBeside_71 : cX11_isBeside.data.toList.drop 71 = sxX11_isBeside_71 := dSn 3 shX11_isBeside_68
theorem shX11_isBeside_72 : cX11_isBeside.data.toList.drop 72 = sxX11_isBeside_72 := dSn 1 shX11_isBeside_71
theorem dX11_isBeside_0 : decode cX11_isBeside 0 = .ok (.iconst 0, 1) := oc_3 shX11_isBeside_0
theorem dX11_isBeside_1 : decode cX11_isBeside 1 = .ok (.istore 4, 2) := oc_54 shX11_isBeside_1
theorem dX11_isBeside_3 : decode cX11_isBeside 3 = .ok (.iload 4, 2) := oc_21 shX11_isBeside_3
theorem dX11_isBeside_5 : decode cX11_isBeside 5 = .ok (.aload_n 0, 1) := oc_42 shX11_isBeside_5
theorem dX11_isBeside_6 : decode cX11_isBeside 6 = .ok (.getfield 74, 3) := oc_180 shX11_isBeside_6
theorem dX11_isBeside_9 : decode cX11_isBeside 9 = .ok (.invokevirtual 84, 3) := oc_182 shX11_isBeside_9
theorem dX11_isBeside_12 : decode cX11_isBeside 12 = .ok (.if_icmp .ge 59, 3) := oc_162 shX11_isBeside_12 sgw_0_59
theorem dX11_isBeside_71 : decode cX11_isBeside 71 = .ok (.iconst 0, 1) := oc_3 shX11_isBeside_71
theorem dX11_isBeside_72 : decode cX11_isBeside 72 = .ok (.ireturn, 1) := oc_172 shX11_isBeside_72
theorem dX11_isBeside_15 : decode cX11_isBeside 15 = .ok (.aload_n 0, 1) := oc_42 shX11_isBeside_15
theorem dX11_isBeside_16 : decode cX11_isBeside 16 = .ok (.getfield 74, 3) := oc_180 shX11_isBeside_16
theorem dX11_isBeside_19 : decode cX11_isBeside 19 = .ok (.iload 4, 2) := oc_21 shX11_isBeside_19
theorem dX11_isBeside_21 : decode cX11_isBeside 21 = .ok (.invokevirtual 87, 3) := oc_182 shX11_isBeside_21
theorem dX11_isBeside_24 : decode cX11_isBeside 24 = .ok (.checkcast 473, 3) := oc_192 shX11_isBeside_24
theorem dX11_isBeside_27 : decode cX11_isBeside 27 = .ok (.astore 5, 2) := oc_58 shX11_isBeside_27
theorem dX11_isBeside_29 : decode cX11_isBeside 29 = .ok (.aload 5, 2) := oc_25 shX11_isBeside_29
theorem dX11_isBeside_31 : decode cX11_isBeside 31 = .ok (.getfield 477, 3) := oc_180 shX11_isBeside_31
theorem dX11_isBeside_34 : decode cX11_isBeside 34 = .ok (.iload_n 3, 1) := oc_29 shX11_isBeside_34
theorem dX11_isBeside_35 : decode cX11_isBeside 35 = .ok (.if_icmp .lt 30, 3) := oc_161 shX11_isBeside_35 sgw_0_30
theorem dX11_isBeside_65 : decode cX11_isBeside 65 = .ok (.iinc 4 1, 3) := oc_132 shX11_isBeside_65 sgb_1
theorem dX11_isBeside_68 : decode cX11_isBeside 68 = .ok (.goto (-65), 3) := oc_167 shX11_isBeside_68 sgw_255_191
theorem dX11_isBeside_38 : decode cX11_isBeside 38 = .ok (.aload_n 1, 1) := oc_43 shX11_isBeside_38
theorem dX11_isBeside_39 : decode cX11_isBeside 39 = .ok (.getfield 293, 3) := oc_180 shX11_isBeside_39
theorem dX11_isBeside_42 : decode cX11_isBeside 42 = .ok (.aload_n 1, 1) := oc_43 shX11_isBeside_42
theorem dX11_isBeside_43 : decode cX11_isBeside 43 = .ok (.getfield 296, 3) := oc_180 shX11_isBeside_43
theorem dX11_isBeside_46 : decode cX11_isBeside 46 = .ok (.aload 5, 2) := oc_25 shX11_isBeside_46
theorem dX11_isBeside_48 : decode cX11_isBeside 48 = .ok (.getfield 480, 3) := oc_180 shX11_isBeside_48
theorem dX11_isBeside_51 : decode cX11_isBeside 51 = .ok (.aload 5, 2) := oc_25 shX11_isBeside_51
theorem dX11_isBeside_53 : decode cX11_isBeside 53 = .ok (.getfield 481, 3) := oc_180 shX11_isBeside_53
theorem dX11_isBeside_56 : decode cX11_isBeside 56 = .ok (.invokestatic 299, 3) := oc_184 shX11_isBeside_56
theorem dX11_isBeside_59 : decode cX11_isBeside 59 = .ok (.iload_n 2, 1) := oc_28 shX11_isBeside_59
theorem dX11_isBeside_60 : decode cX11_isBeside 60 = .ok (.if_icmp .gt 5, 3) := oc_163 shX11_isBeside_60 sgw_0_5
theorem dX11_isBeside_63 : decode cX11_isBeside 63 = .ok (.iconst 1, 1) := oc_4 shX11_isBeside_63
theorem dX11_isBeside_64 : decode cX11_isBeside 64 = .ok (.ireturn, 1) := oc_172 shX11_isBeside_64
noncomputable def sxX11_beside_93 : List UInt8 := []
noncomputable def sxX11_beside_92 : List UInt8 := 172 :: sxX11_beside_93
noncomputable def sxX11_beside_91 : List UInt8 := 29 :: sxX11_beside_92
noncomputable def sxX11_beside_88 : List UInt8 := 167 :: 255 :: 197 :: sxX11_beside_91
noncomputable def sxX11_beside_85 : List UInt8 := 132 :: 4 :: 1 :: sxX11_beside_88
noncomputable def sxX11_beside_84 : List UInt8 := 62 :: sxX11_beside_85
noncomputable def sxX11_beside_83 : List UInt8 := 128 :: sxX11_beside_84
noncomputable def sxX11_beside_82 : List UInt8 := 3 :: sxX11_beside_83
noncomputable def sxX11_beside_79 : List UInt8 := 167 :: 0 :: 4 :: sxX11_beside_82
noncomputable def sxX11_beside_78 : List UInt8 := 120 :: sxX11_beside_79
noncomputable def sxX11_beside_76 : List UInt8 := 21 :: 4 :: sxX11_beside_78
noncomputable def sxX11_beside_75 : List UInt8 := 4 :: sxX11_beside_76
noncomputable def sxX11_beside_72 : List UInt8 := 153 :: 0 :: 10 :: sxX11_beside_75
noncomputable def sxX11_beside_69 : List UInt8 := 182 :: 1 :: 226 :: sxX11_beside_72
noncomputable def sxX11_beside_68 : List UInt8 := 28 :: sxX11_beside_69
noncomputable def sxX11_beside_67 : List UInt8 := 27 :: sxX11_beside_68
noncomputable def sxX11_beside_65 : List UInt8 := 25 :: 5 :: sxX11_beside_67
noncomputable def sxX11_beside_64 : List UInt8 := 42 :: sxX11_beside_65
noncomputable def sxX11_beside_61 : List UInt8 := 154 :: 0 :: 21 :: sxX11_beside_64
noncomputable def sxX11_beside_58 : List UInt8 := 180 :: 1 :: 203 :: sxX11_beside_61
noncomputable def sxX11_beside_56 : List UInt8 := 25 :: 5 :: sxX11_beside_58
noncomputable def sxX11_beside_55 : List UInt8 := 29 :: sxX11_beside_56
noncomputable def sxX11_beside_53 : List UInt8 := 58 :: 5 :: sxX11_beside_55
noncomputable def sxX11_beside_50 : List UInt8 := 192 :: 0 :: 91 :: sxX11_beside_53
noncomputable def sxX11_beside_47 : List UInt8 := 182 :: 0 :: 87 :: sxX11_beside_50
noncomputable def sxX11_beside_45 : List UInt8 := 21 :: 4 :: sxX11_beside_47
noncomputable def sxX11_beside_42 : List UInt8 := 180 :: 0 :: 61 :: sxX11_beside_45
noncomputable def sxX11_beside_41 : List UInt8 := 42 :: sxX11_beside_42
noncomputable def sxX11_beside_38 : List UInt8 := 162 :: 0 :: 53 :: sxX11_beside_41
noncomputable def sxX11_beside_35 : List UInt8 := 182 :: 0 :: 84 :: sxX11_beside_38
noncomputable def sxX11_beside_32 : List UInt8 := 180 :: 0 :: 61 :: sxX11_beside_35
noncomputable def sxX11_beside_31 : List UInt8 := 42 :: sxX11_beside_32
noncomputable def sxX11_beside_29 : List UInt8 := 21 :: 4 :: sxX11_beside_31
noncomputable def sxX11_beside_27 : List UInt8 := 54 :: 4 :: sxX11_beside_29
noncomputable def sxX11_beside_26 : List UInt8 := 3 :: sxX11_beside_27
noncomputable def sxX11_beside_25 : List UInt8 := 62 :: sxX11_beside_26
noncomputable def sxX11_beside_24 : List UInt8 := 3 :: sxX11_beside_25
noncomputable def sxX11_beside_23 : List UInt8 := 172 :: sxX11_beside_24
noncomputable def sxX11_beside_22 : List UInt8 := 2 :: sxX11_beside_23
noncomputable def sxX11_beside_19 : List UInt8 := 154 :: 0 :: 5 :: sxX11_beside_22
noncomputable def sxX11_beside_16 : List UInt8 := 184 :: 0 :: 80 :: sxX11_beside_19
noncomputable def sxX11_beside_13 : List UInt8 := 17 :: 3 :: 232 :: sxX11_beside_16
noncomputable def sxX11_beside_12 : List UInt8 := 4 :: sxX11_beside_13
noncomputable def sxX11_beside_11 : List UInt8 := 28 :: sxX11_beside_12
noncomputable def sxX11_beside_8 : List UInt8 := 153 :: 0 :: 14 :: sxX11_beside_11
noncomputable def sxX11_beside_5 : List UInt8 := 184 :: 0 :: 80 :: sxX11_beside_8
noncomputable def sxX11_beside_2 : List UInt8 := 17 :: 0 :: 198 :: sxX11_beside_5
noncomputable def sxX11_beside_1 : List UInt8 := 3 :: sxX11_beside_2
noncomputable def sxX11_beside_0 : List UInt8 := 27 :: sxX11_beside_1
theorem shX11_beside_0 : cX11_beside.data.toList.drop 0 = sxX11_beside_0 := rfl
theorem shX11_beside_1 : cX11_beside.data.toList.drop 1 = sxX11_beside_1 := dSn 1 shX11_beside_0
theorem shX11_beside_2 : cX11_beside.data.toList.drop 2 = sxX11_beside_2 := dSn 1 shX11_beside_1
theorem shX11_beside_5 : cX11_beside.data.toList.drop 5 = sxX11_beside_5 := dSn 3 shX11_beside_2
theorem shX11_beside_8 : cX11_beside.data.toList.drop 8 = sxX11_beside_8 := dSn 3 shX11_beside_5
theorem shX11_beside_11 : cX11_beside.data.toList.drop 11 = sxX11_beside_11 := dSn 3 shX11_beside_8
theorem shX11_beside_12 : cX11_beside.data.toList.drop 12 = sxX11_beside_12 := dSn 1 shX11_beside_11
theorem shX11_beside_13 : cX11_beside.data.toList.drop 13 = sxX11_beside_13 := dSn 1 shX11_beside_12
theorem shX11_beside_16 : cX11_beside.data.toList.drop 16 = sxX11_beside_16 := dSn 3 shX11_beside_13
theorem shX11_beside_19 : cX11_beside.data.toList.drop 19 = sxX11_beside_19 := dSn 3 shX11_beside_16
theorem shX11_beside_22 : cX11_beside.data.toList.drop 22 = sxX11_beside_22 := dSn 3 shX11_beside_19
theorem shX11_beside_23 : cX11_beside.data.toList.drop 23 = sxX11_beside_23 := dSn 1 shX11_beside_22
theorem shX11_beside_24 : cX11_beside.data.toList.drop 24 = sxX11_beside_24 := dSn 1 shX11_beside_23
theorem shX11_beside_25 : cX11_beside.data.toList.drop 25 = sxX11_beside_25 := dSn 1 shX11_beside_24
theorem shX11_beside_26 : cX11_beside.data.toList.drop 26 = sxX11_beside_26 := dSn 1 shX11_beside_25
theorem shX11_beside_27 : cX11_beside.data.toList.drop 27 = sxX11_beside_27 := dSn 1 shX11_beside_26
theorem shX11_beside_29 : cX11_beside.data.toList.drop 29 = sxX11_beside_29 := dSn 2 shX11_beside_27
theorem shX11_beside_31 : cX11_beside.data.toList.drop 31 = sxX11_beside_31 := dSn 2 shX11_beside_29
theorem shX11_beside_32 : cX11_beside.data.toList.drop 32 = sxX11_beside_32 := dSn 1 shX11_beside_31
theorem shX11_beside_35 : cX11_beside.data.toList.drop 35 = sxX11_beside_35 := dSn 3 shX11_beside_32
theorem shX11_beside_38 : cX11_beside.data.toList.drop 38 = sxX11_beside_38 := dSn 3 shX11_beside_35
theorem shX11_beside_41 : cX11_beside.data.toList.drop 41 = sxX11_beside_41 := dSn 3 shX11_beside_38
theorem shX11_beside_42 : cX11_beside.data.toList.drop 42 = sxX11_beside_42 := dSn 1 shX11_beside_41
theorem shX11_beside_45 : cX11_beside.data.toList.drop 45 = sxX11_beside_45 := dSn 3 shX11_beside_42
theorem shX11_beside_47 : cX11_beside.data.toList.drop 47 = sxX11_beside_47 := dSn 2 shX11_beside_45
theorem shX11_beside_50 : cX11_beside.data.toList.drop 50 = sxX11_beside_50 := dSn 3 shX11_beside_47
theorem shX11_beside_53 : cX11_beside.data.toList.drop 53 = sxX11_beside_53 := dSn 3 shX11_beside_50
theorem shX11_beside_55 : cX11_beside.data.toList.drop 55 = sxX11_beside_55 := dSn 2 shX11_beside_53
theorem shX11_beside_56 : cX11_beside.data.toList.drop 56 = sxX11_beside_56 := dSn 1 shX11_beside_55
theorem shX11_beside_58 : cX11_beside.data.toList.drop 58 = sxX11_beside_58 := dSn 2 shX11_beside_56
theorem shX11_beside_61 : cX11_beside.data.toList.drop 61 = sxX11_beside_61 := dSn 3 shX11_beside_58
theorem shX11_beside_64 : cX11_beside.data.toList.drop 64 = sxX11_beside_64 := dSn 3 shX11_beside_61
theorem shX11_beside_65 : cX11_beside.data.toList.drop 65 = sxX11_beside_65 := dSn 1 shX11_beside_64
theorem shX11_beside_67 : cX11_beside.data.toList.drop 67 = sxX11_beside_67 := dSn 2 shX11_beside_65
theorem shX11_beside_68 : cX11_beside.data.toList.drop 68 = sxX11_beside_68 := dSn 1 shX11_beside_67
theorem shX11_beside_69 : cX11_beside.data.toList.drop 69 = sxX11_beside_69 := dSn 1 shX11_beside_68
theorem shX11_beside_72 : cX11_beside.data.toList.drop 72 = sxX11_beside_72 := dSn 3 shX11_beside_69
theorem shX11_beside_75 : cX11_beside.data.toList.drop 75 = sxX11_beside_75 := dSn 3 shX11_beside_72
theorem shX11_beside_76 : cX11_beside.data.toList.drop 76 = sxX11_beside_76 := dSn 1 shX11_beside_75
theorem shX11_beside_78 : cX11_beside.data.toList.drop 78 = sxX11_beside_78 := dSn 2 shX11_beside_76
theorem shX11_beside_79 : cX11_beside.data.toList.drop 79 = sxX11_beside_79 := dSn 1 shX11_beside_78
theorem shX11_beside_82 : cX11_beside.data.toList.drop 82 = sxX11_beside_82 := dSn 3 shX11_beside_79
theorem shX11_beside_83 : cX11_beside.data.toList.drop 83 = sxX11_beside_83 := dSn 1 shX11_beside_82
theorem shX11_beside_84 : cX11_beside.data.toList.drop 84 = sxX11_beside_84 := dSn 1 shX11_beside_83
theorem shX11_beside_85 : cX11_beside.data.toList.drop 85 = sxX11_beside_85 := dSn 1 shX11_beside_84
theorem shX11_beside_88 : cX11_beside.data.toList.drop 88 = sxX11_beside_88 := dSn 3 shX11_beside_85
theorem shX11_beside_91 : cX11_beside.data.toList.drop 91 = sxX11_beside_91 := dSn 3 shX11_beside_88
theorem shX11_beside_92 : cX11_beside.data.toList.drop 92 = sxX11_beside_92 := dSn 1 shX11_beside_91
theorem dX11_beside_0 : decode cX11_beside 0 = .ok (.iload_n 1, 1) := oc_27 shX11_beside_0
theorem dX11_beside_1 : decode cX11_beside 1 = .ok (.iconst 0, 1) := oc_3 shX11_beside_1
theorem dX11_beside_2 : decode cX11_beside 2 = .ok (.sipush 198, 3) := oc_17 shX11_beside_2 sgw_0_198
theorem dX11_beside_5 : decode cX11_beside 5 = .ok (.invokestatic 80, 3) := oc_184 shX11_beside_5
theorem dX11_beside_8 : decode cX11_beside 8 = .ok (.ifCond .eq 14, 3) := oc_153 shX11_beside_8 sgw_0_14
theorem dX11_beside_11 : decode cX11_beside 11 = .ok (.iload_n 2, 1) := oc_28 shX11_beside_11
theorem dX11_beside_12 : decode cX11_beside 12 = .ok (.iconst 1, 1) := oc_4 shX11_beside_12
theorem dX11_beside_13 : decode cX11_beside 13 = .ok (.sipush 1000, 3) := oc_17 shX11_beside_13 sgw_3_232
theorem dX11_beside_16 : decode cX11_beside 16 = .ok (.invokestatic 80, 3) := oc_184 shX11_beside_16
theorem dX11_beside_19 : decode cX11_beside 19 = .ok (.ifCond .ne 5, 3) := oc_154 shX11_beside_19 sgw_0_5
theorem dX11_beside_24 : decode cX11_beside 24 = .ok (.iconst 0, 1) := oc_3 shX11_beside_24
theorem dX11_beside_25 : decode cX11_beside 25 = .ok (.istore_n 3, 1) := oc_62 shX11_beside_25
theorem dX11_beside_26 : decode cX11_beside 26 = .ok (.iconst 0, 1) := oc_3 shX11_beside_26
theorem dX11_beside_27 : decode cX11_beside 27 = .ok (.istore 4, 2) := oc_54 shX11_beside_27
theorem dX11_beside_29 : decode cX11_beside 29 = .ok (.iload 4, 2) := oc_21 shX11_beside_29
theorem dX11_beside_31 : decode cX11_beside 31 = .ok (.aload_n 0, 1) := oc_42 shX11_beside_31
theorem dX11_beside_32 : decode cX11_beside 32 = .ok (.getfield 61, 3) := oc_180 shX11_beside_32
theorem dX11_beside_35 : decode cX11_beside 35 = .ok (.invokevirtual 84, 3) := oc_182 shX11_beside_35
theorem dX11_beside_38 : decode cX11_beside 38 = .ok (.if_icmp .ge 53, 3) := oc_162 shX11_beside_38 sgw_0_53
theorem dX11_beside_91 : decode cX11_beside 91 = .ok (.iload_n 3, 1) := oc_29 shX11_beside_91
theorem dX11_beside_92 : decode cX11_beside 92 = .ok (.ireturn, 1) := oc_172 shX11_beside_92
theorem dX11_beside_41 : decode cX11_beside 41 = .ok (.aload_n 0, 1) := oc_42 shX11_beside_41
theorem dX11_beside_42 : decode cX11_beside 42 = .ok (.getfield 61, 3) := oc_180 shX11_beside_42
theorem dX11_beside_45 : decode cX11_beside 45 = .ok (.iload 4, 2) := oc_21 shX11_beside_45
theorem dX11_beside_47 : decode cX11_beside 47 = .ok (.invokevirtual 87, 3) := oc_182 shX11_beside_47
theorem dX11_beside_50 : decode cX11_beside 50 = .ok (.checkcast 91, 3) := oc_192 shX11_beside_50
theorem dX11_beside_53 : decode cX11_beside 53 = .ok (.astore 5, 2) := oc_58 shX11_beside_53
theorem dX11_beside_55 : decode cX11_beside 55 = .ok (.iload_n 3, 1) := oc_29 shX11_beside_55
theorem dX11_beside_56 : decode cX11_beside 56 = .ok (.aload 5, 2) := oc_25 shX11_beside_56
theorem dX11_beside_58 : decode cX11_beside 58 = .ok (.getfield 459, 3) := oc_180 shX11_beside_58
theorem dX11_beside_61 : decode cX11_beside 61 = .ok (.ifCond .ne 21, 3) := oc_154 shX11_beside_61 sgw_0_21
theorem dX11_beside_82 : decode cX11_beside 82 = .ok (.iconst 0, 1) := oc_3 shX11_beside_82
theorem dX11_beside_83 : decode cX11_beside 83 = .ok (.ior, 1) := oc_128 shX11_beside_83
theorem dX11_beside_84 : decode cX11_beside 84 = .ok (.istore_n 3, 1) := oc_62 shX11_beside_84
theorem dX11_beside_85 : decode cX11_beside 85 = .ok (.iinc 4 1, 3) := oc_132 shX11_beside_85 sgb_1
theorem dX11_beside_88 : decode cX11_beside 88 = .ok (.goto (-59), 3) := oc_167 shX11_beside_88 sgw_255_197
theorem dX11_beside_64 : decode cX11_beside 64 = .ok (.aload_n 0, 1) := oc_42 shX11_beside_64
theorem dX11_beside_65 : decode cX11_beside 65 = .ok (.aload 5, 2) := oc_25 shX11_beside_65
theorem dX11_beside_67 : decode cX11_beside 67 = .ok (.iload_n 1, 1) := oc_27 shX11_beside_67
theorem dX11_beside_68 : decode cX11_beside 68 = .ok (.iload_n 2, 1) := oc_28 shX11_beside_68
theorem dX11_beside_69 : decode cX11_beside 69 = .ok (.invokevirtual 482, 3) := oc_182 shX11_beside_69
theorem dX11_beside_72 : decode cX11_beside 72 = .ok (.ifCond .eq 10, 3) := oc_153 shX11_beside_72 sgw_0_10
theorem dX11_beside_75 : decode cX11_beside 75 = .ok (.iconst 1, 1) := oc_4 shX11_beside_75
theorem dX11_beside_76 : decode cX11_beside 76 = .ok (.iload 4, 2) := oc_21 shX11_beside_76
theorem dX11_beside_78 : decode cX11_beside 78 = .ok (.ishl, 1) := oc_120 shX11_beside_78
theorem dX11_beside_79 : decode cX11_beside 79 = .ok (.goto 4, 3) := oc_167 shX11_beside_79 sgw_0_4
theorem dX11_beside_22 : decode cX11_beside 22 = .ok (.iconst (-1), 1) := oc_2 shX11_beside_22
theorem dX11_beside_23 : decode cX11_beside 23 = .ok (.ireturn, 1) := oc_172 shX11_beside_23
noncomputable def sxX11_late_90 : List UInt8 := []
noncomputable def sxX11_late_89 : List UInt8 := 172 :: sxX11_late_90
noncomputable def sxX11_late_88 : List UInt8 := 29 :: sxX11_late_89
noncomputable def sxX11_late_85 : List UInt8 := 167 :: 255 :: 197 :: sxX11_late_88
noncomputable def sxX11_late_82 : List UInt8 := 132 :: 4 :: 1 :: sxX11_late_85
noncomputable def sxX11_late_81 : List UInt8 := 62 :: sxX11_late_82
noncomputable def sxX11_late_80 : List UInt8 := 96 :: sxX11_late_81
noncomputable def sxX11_late_79 : List UInt8 := 3 :: sxX11_late_80
noncomputable def sxX11_late_76 : List UInt8 := 167 :: 0 :: 4 :: sxX11_late_79
noncomputable def sxX11_late_75 : List UInt8 := 4 :: sxX11_late_76
noncomputable def sxX11_late_72 : List UInt8 := 153 :: 0 :: 7 :: sxX11_late_75
noncomputable def sxX11_late_69 : List UInt8 := 182 :: 1 :: 233 :: sxX11_late_72
noncomputable def sxX11_late_68 : List UInt8 := 28 :: sxX11_late_69
noncomputable def sxX11_late_65 : List UInt8 := 180 :: 0 :: 196 :: sxX11_late_68
noncomputable def sxX11_late_63 : List UInt8 := 25 :: 5 :: sxX11_late_65
noncomputable def sxX11_late_62 : List UInt8 := 42 :: sxX11_late_63
noncomputable def sxX11_late_59 : List UInt8 := 160 :: 0 :: 20 :: sxX11_late_62
noncomputable def sxX11_late_58 : List UInt8 := 27 :: sxX11_late_59
noncomputable def sxX11_late_55 : List UInt8 := 180 :: 0 :: 211 :: sxX11_late_58
noncomputable def sxX11_late_53 : List UInt8 := 25 :: 5 :: sxX11_late_55
noncomputable def sxX11_late_52 : List UInt8 := 29 :: sxX11_late_53
noncomputable def sxX11_late_50 : List UInt8 := 58 :: 5 :: sxX11_late_52
noncomputable def sxX11_late_47 : List UInt8 := 192 :: 0 :: 93 :: sxX11_late_50
noncomputable def sxX11_late_44 : List UInt8 := 182 :: 0 :: 87 :: sxX11_late_47
noncomputable def sxX11_late_42 : List UInt8 := 21 :: 4 :: sxX11_late_44
noncomputable def sxX11_late_39 : List UInt8 := 180 :: 0 :: 65 :: sxX11_late_42
noncomputable def sxX11_late_38 : List UInt8 := 42 :: sxX11_late_39
noncomputable def sxX11_late_35 : List UInt8 := 162 :: 0 :: 53 :: sxX11_late_38
noncomputable def sxX11_late_32 : List UInt8 := 182 :: 0 :: 84 :: sxX11_late_35
noncomputable def sxX11_late_29 : List UInt8 := 180 :: 0 :: 65 :: sxX11_late_32
noncomputable def sxX11_late_28 : List UInt8 := 42 :: sxX11_late_29
noncomputable def sxX11_late_26 : List UInt8 := 21 :: 4 :: sxX11_late_28
noncomputable def sxX11_late_24 : List UInt8 := 54 :: 4 :: sxX11_late_26
noncomputable def sxX11_late_23 : List UInt8 := 3 :: sxX11_late_24
noncomputable def sxX11_late_22 : List UInt8 := 62 :: sxX11_late_23
noncomputable def sxX11_late_21 : List UInt8 := 3 :: sxX11_late_22
noncomputable def sxX11_late_20 : List UInt8 := 172 :: sxX11_late_21
noncomputable def sxX11_late_19 : List UInt8 := 2 :: sxX11_late_20
noncomputable def sxX11_late_16 : List UInt8 := 154 :: 0 :: 5 :: sxX11_late_19
noncomputable def sxX11_late_13 : List UInt8 := 184 :: 0 :: 80 :: sxX11_late_16
noncomputable def sxX11_late_11 : List UInt8 := 16 :: 41 :: sxX11_late_13
noncomputable def sxX11_late_9 : List UInt8 := 16 :: 216 :: sxX11_late_11
noncomputable def sxX11_late_8 : List UInt8 := 28 :: sxX11_late_9
noncomputable def sxX11_late_5 : List UInt8 := 198 :: 0 :: 14 :: sxX11_late_8
noncomputable def sxX11_late_2 : List UInt8 := 182 :: 0 :: 114 :: sxX11_late_5
noncomputable def sxX11_late_1 : List UInt8 := 27 :: sxX11_late_2
noncomputable def sxX11_late_0 : List UInt8 := 42 :: sxX11_late_1
theorem shX11_late_0 : cX11_late.data.toList.drop 0 = sxX11_late_0 := rfl
theorem shX11_late_1 : cX11_late.data.toList.drop 1 = sxX11_late_1 := dSn 1 shX11_late_0
theorem shX11_late_2 : cX11_late.data.toList.drop 2 = sxX11_late_2 := dSn 1 shX11_late_1
theorem shX11_late_5 : cX11_late.data.toList.drop 5 = sxX11_late_5 := dSn 3 shX11_late_2
theorem shX11_late_8 : cX11_late.data.toList.drop 8 = sxX11_late_8 := dSn 3 shX11_late_5
theorem shX11_late_9 : cX11_late.data.toList.drop 9 = sxX11_late_9 := dSn 1 shX11_late_8
theorem shX11_late_11 : cX11_late.data.toList.drop 11 = sxX11_late_11 := dSn 2 shX11_late_9
theorem shX11_late_13 : cX11_late.data.toList.drop 13 = sxX11_late_13 := dSn 2 shX11_late_11
theorem shX11_late_16 : cX11_late.data.toList.drop 16 = sxX11_late_16 := dSn 3 shX11_late_13
theorem shX11_late_19 : cX11_late.data.toList.drop 19 = sxX11_late_19 := dSn 3 shX11_late_16
theorem shX11_late_20 : cX11_late.data.toList.drop 20 = sxX11_late_20 := dSn 1 shX11_late_19
theorem shX11_late_21 : cX11_late.data.toList.drop 21 = sxX11_late_21 := dSn 1 shX11_late_20
theorem shX11_late_22 : cX11_late.data.toList.drop 22 = sxX11_late_22 := dSn 1 shX11_late_21
theorem shX11_late_23 : cX11_late.data.toList.drop 23 = sxX11_late_23 := dSn 1 shX11_late_22
theorem shX11_late_24 : cX11_late.data.toList.drop 24 = sxX11_late_24 := dSn 1 shX11_late_23
theorem shX11_late_26 : cX11_late.data.toList.drop 26 = sxX11_late_26 := dSn 2 shX11_late_24
theorem shX11_late_28 : cX11_late.data.toList.drop 28 = sxX11_late_28 := dSn 2 shX11_late_26
theorem shX11_late_29 : cX11_late.data.toList.drop 29 = sxX11_late_29 := dSn 1 shX11_late_28
theorem shX11_late_32 : cX11_late.data.toList.drop 32 = sxX11_late_32 := dSn 3 shX11_late_29
theorem shX11_late_35 : cX11_late.data.toList.drop 35 = sxX11_late_35 := dSn 3 shX11_late_32
theorem shX11_late_38 : cX11_late.data.toList.drop 38 = sxX11_late_38 := dSn 3 shX11_late_35
theorem shX11_late_39 : cX11_late.data.toList.drop 39 = sxX11_late_39 := dSn 1 shX11_late_38
theorem shX11_late_42 : cX11_late.data.toList.drop 42 = sxX11_late_42 := dSn 3 shX11_late_39
theorem shX11_late_44 : cX11_late.data.toList.drop 44 = sxX11_late_44 := dSn 2 shX11_late_42
theorem shX11_late_47 : cX11_late.data.toList.drop 47 = sxX11_late_47 := dSn 3 shX11_late_44
theorem shX11_late_50 : cX11_late.data.toList.drop 50 = sxX11_late_50 := dSn 3 shX11_late_47
theorem shX11_late_52 : cX11_late.data.toList.drop 52 = sxX11_late_52 := dSn 2 shX11_late_50
theorem shX11_late_53 : cX11_late.data.toList.drop 53 = sxX11_late_53 := dSn 1 shX11_late_52
theorem shX11_late_55 : cX11_late.data.toList.drop 55 = sxX11_late_55 := dSn 2 shX11_late_53
theorem shX11_late_58 : cX11_late.data.toList.drop 58 = sxX11_late_58 := dSn 3 shX11_late_55
theorem shX11_late_59 : cX11_late.data.toList.drop 59 = sxX11_late_59 := dSn 1 shX11_late_58
theorem shX11_late_62 : cX11_late.data.toList.drop 62 = sxX11_late_62 := dSn 3 shX11_late_59
theorem shX11_late_63 : cX11_late.data.toList.drop 63 = sxX11_late_63 := dSn 1 shX11_late_62
theorem shX11_late_65 : cX11_late.data.toList.drop 65 = sxX11_late_65 := dSn 2 shX11_late_63
theorem shX11_late_68 : cX11_late.data.toList.drop 68 = sxX11_late_68 := dSn 3 shX11_late_65
theorem shX11_late_69 : cX11_late.data.toList.drop 69 = sxX11_late_69 := dSn 1 shX11_late_68
theorem shX11_late_72 : cX11_late.data.toList.drop 72 = sxX11_late_72 := dSn 3 shX11_late_69
theorem shX11_late_75 : cX11_late.data.toList.drop 75 = sxX11_late_75 := dSn 3 shX11_late_72
theorem shX11_late_76 : cX11_late.data.toList.drop 76 = sxX11_late_76 := dSn 1 shX11_late_75
theorem shX11_late_79 : cX11_late.data.toList.drop 79 = sxX11_late_79 := dSn 3 shX11_late_76
theorem shX11_late_80 : cX11_late.data.toList.drop 80 = sxX11_late_80 := dSn 1 shX11_late_79
theorem shX11_late_81 : cX11_late.data.toList.drop 81 = sxX11_late_81 := dSn 1 shX11_late_80
theorem shX11_late_82 : cX11_late.data.toList.drop 82 = sxX11_late_82 := dSn 1 shX11_late_81
theorem shX11_late_85 : cX11_late.data.toList.drop 85 = sxX11_late_85 := dSn 3 shX11_late_82
theorem shX11_late_88 : cX11_late.data.toList.drop 88 = sxX11_late_88 := dSn 3 shX11_late_85
theorem shX11_late_89 : cX11_late.data.toList.drop 89 = sxX11_late_89 := dSn 1 shX11_late_88
theorem dX11_late_0 : decode cX11_late 0 = .ok (.aload_n 0, 1) := oc_42 shX11_late_0
theorem dX11_late_1 : decode cX11_late 1 = .ok (.iload_n 1, 1) := oc_27 shX11_late_1
theorem dX11_late_2 : decode cX11_late 2 = .ok (.invokevirtual 114, 3) := oc_182 shX11_late_2
theorem dX11_late_5 : decode cX11_late 5 = .ok (.ifnull 14, 3) := oc_198 shX11_late_5 sgw_0_14
theorem dX11_late_8 : decode cX11_late 8 = .ok (.iload_n 2, 1) := oc_28 shX11_late_8
theorem dX11_late_9 : decode cX11_late 9 = .ok (.bipush (-40), 2) := oc_16 shX11_late_9 sgb_216
theorem dX11_late_11 : decode cX11_late 11 = .ok (.bipush 41, 2) := oc_16 shX11_late_11 sgb_41
theorem dX11_late_13 : decode cX11_late 13 = .ok (.invokestatic 80, 3) := oc_184 shX11_late_13
theorem dX11_late_16 : decode cX11_late 16 = .ok (.ifCond .ne 5, 3) := oc_154 shX11_late_16 sgw_0_5
theorem dX11_late_21 : decode cX11_late 21 = .ok (.iconst 0, 1) := oc_3 shX11_late_21
theorem dX11_late_22 : decode cX11_late 22 = .ok (.istore_n 3, 1) := oc_62 shX11_late_22
theorem dX11_late_23 : decode cX11_late 23 = .ok (.iconst 0, 1) := oc_3 shX11_late_23
theorem dX11_late_24 : decode cX11_late 24 = .ok (.istore 4, 2) := oc_54 shX11_late_24
theorem dX11_late_26 : decode cX11_late 26 = .ok (.iload 4, 2) := oc_21 shX11_late_26
theorem dX11_late_28 : decode cX11_late 28 = .ok (.aload_n 0, 1) := oc_42 shX11_late_28
theorem dX11_late_29 : decode cX11_late 29 = .ok (.getfield 65, 3) := oc_180 shX11_late_29
theorem dX11_late_32 : decode cX11_late 32 = .ok (.invokevirtual 84, 3) := oc_182 shX11_late_32
theorem dX11_late_35 : decode cX11_late 35 = .ok (.if_icmp .ge 53, 3) := oc_162 shX11_late_35 sgw_0_53
theorem dX11_late_88 : decode cX11_late 88 = .ok (.iload_n 3, 1) := oc_29 shX11_late_88
theorem dX11_late_89 : decode cX11_late 89 = .ok (.ireturn, 1) := oc_172 shX11_late_89
theorem dX11_late_38 : decode cX11_late 38 = .ok (.aload_n 0, 1) := oc_42 shX11_late_38
theorem dX11_late_39 : decode cX11_late 39 = .ok (.getfield 65, 3) := oc_180 shX11_late_39
theorem dX11_late_42 : decode cX11_late 42 = .ok (.iload 4, 2) := oc_21 shX11_late_42
theorem dX11_late_44 : decode cX11_late 44 = .ok (.invokevirtual 87, 3) := oc_182 shX11_late_44
theorem dX11_late_47 : decode cX11_late 47 = .ok (.checkcast 93, 3) := oc_192 shX11_late_47
theorem dX11_late_50 : decode cX11_late 50 = .ok (.astore 5, 2) := oc_58 shX11_late_50
theorem dX11_late_52 : decode cX11_late 52 = .ok (.iload_n 3, 1) := oc_29 shX11_late_52
theorem dX11_late_53 : decode cX11_late 53 = .ok (.aload 5, 2) := oc_25 shX11_late_53
theorem dX11_late_55 : decode cX11_late 55 = .ok (.getfield 211, 3) := oc_180 shX11_late_55
theorem dX11_late_58 : decode cX11_late 58 = .ok (.iload_n 1, 1) := oc_27 shX11_late_58
theorem dX11_late_59 : decode cX11_late 59 = .ok (.if_icmp .ne 20, 3) := oc_160 shX11_late_59 sgw_0_20
theorem dX11_late_79 : decode cX11_late 79 = .ok (.iconst 0, 1) := oc_3 shX11_late_79
theorem dX11_late_80 : decode cX11_late 80 = .ok (.iadd, 1) := oc_96 shX11_late_80
theorem dX11_late_81 : decode cX11_late 81 = .ok (.istore_n 3, 1) := oc_62 shX11_late_81
theorem dX11_late_82 : decode cX11_late 82 = .ok (.iinc 4 1, 3) := oc_132 shX11_late_82 sgb_1
theorem dX11_late_85 : decode cX11_late 85 = .ok (.goto (-59), 3) := oc_167 shX11_late_85 sgw_255_197
theorem dX11_late_62 : decode cX11_late 62 = .ok (.aload_n 0, 1) := oc_42 shX11_late_62
theorem dX11_late_63 : decode cX11_late 63 = .ok (.aload 5, 2) := oc_25 shX11_late_63
theorem dX11_late_65 : decode cX11_late 65 = .ok (.getfield 196, 3) := oc_180 shX11_late_65
theorem dX11_late_68 : decode cX11_late 68 = .ok (.iload_n 2, 1) := oc_28 shX11_late_68
theorem dX11_late_69 : decode cX11_late 69 = .ok (.invokevirtual 489, 3) := oc_182 shX11_late_69
theorem dX11_late_72 : decode cX11_late 72 = .ok (.ifCond .eq 7, 3) := oc_153 shX11_late_72 sgw_0_7
theorem dX11_late_75 : decode cX11_late 75 = .ok (.iconst 1, 1) := oc_4 shX11_late_75
theorem dX11_late_76 : decode cX11_late 76 = .ok (.goto 4, 3) := oc_167 shX11_late_76 sgw_0_4
theorem dX11_late_19 : decode cX11_late 19 = .ok (.iconst (-1), 1) := oc_2 shX11_late_19
theorem dX11_late_20 : decode cX11_late 20 = .ok (.ireturn, 1) := oc_172 shX11_late_20
noncomputable def sxX2_shortOf_16 : List UInt8 := []
noncomputable def sxX2_shortOf_15 : List UInt8 := 172 :: sxX2_shortOf_16
noncomputable def sxX2_shortOf_12 : List UInt8 := 184 :: 0 :: 28 :: sxX2_shortOf_15
noncomputable def sxX2_shortOf_11 : List UInt8 := 100 :: sxX2_shortOf_12
noncomputable def sxX2_shortOf_10 : List UInt8 := 108 :: sxX2_shortOf_11
noncomputable def sxX2_shortOf_8 : List UInt8 := 16 :: 10 :: sxX2_shortOf_10
noncomputable def sxX2_shortOf_7 : List UInt8 := 27 :: sxX2_shortOf_8
noncomputable def sxX2_shortOf_6 : List UInt8 := 100 :: sxX2_shortOf_7
noncomputable def sxX2_shortOf_3 : List UInt8 := 180 :: 0 :: 16 :: sxX2_shortOf_6
noncomputable def sxX2_shortOf_2 : List UInt8 := 42 :: sxX2_shortOf_3
noncomputable def sxX2_shortOf_1 : List UInt8 := 27 :: sxX2_shortOf_2
noncomputable def sxX2_shortOf_0 : List UInt8 := 3 :: sxX2_shortOf_1
theorem shX2_shortOf_0 : cX2_shortOf.data.toList.drop 0 = sxX2_shortOf_0 := rfl
theorem shX2_shortOf_1 : cX2_shortOf.data.toList.drop 1 = sxX2_shortOf_1 := dSn 1 shX2_shortOf_0
theorem shX2_shortOf_2 : cX2_shortOf.data.toList.drop 2 = sxX2_shortOf_2 := dSn 1 shX2_shortOf_1
theorem shX2_shortOf_3 : cX2_shortOf.data.toList.drop 3 = sxX2_shortOf_3 := dSn 1 shX2_shortOf_2
theorem shX2_shortOf_6 : cX2_shortOf.data.toList.drop 6 = sxX2_shortOf_6 := dSn 3 shX2_shortOf_3
theorem shX2_shortOf_7 : cX2_shortOf.data.toList.drop 7 = sxX2_shortOf_7 := dSn 1 shX2_shortOf_6
theorem shX2_shortOf_8 : cX2_shortOf.data.toList.drop 8 = sxX2_shortOf_8 := dSn 1 shX2_shortOf_7
theorem shX2_shortOf_10 : cX2_shortOf.data.toList.drop 10 = sxX2_shortOf_10 := dSn 2 shX2_shortOf_8
theorem shX2_shortOf_11 : cX2_shortOf.data.toList.drop 11 = sxX2_shortOf_11 := dSn 1 shX2_shortOf_10
theorem shX2_shortOf_12 : cX2_shortOf.data.toList.drop 12 = sxX2_shortOf_12 := dSn 1 shX2_shortOf_11
theorem shX2_shortOf_15 : cX2_shortOf.data.toList.drop 15 = sxX2_shortOf_15 := dSn 3 shX2_shortOf_12
theorem dX2_shortOf_0 : decode cX2_shortOf 0 = .ok (.iconst 0, 1) := oc_3 shX2_shortOf_0
theorem dX2_shortOf_1 : decode cX2_shortOf 1 = .ok (.iload_n 1, 1) := oc_27 shX2_shortOf_1
theorem dX2_shortOf_2 : decode cX2_shortOf 2 = .ok (.aload_n 0, 1) := oc_42 shX2_shortOf_2
theorem dX2_shortOf_3 : decode cX2_shortOf 3 = .ok (.getfield 16, 3) := oc_180 shX2_shortOf_3
theorem dX2_shortOf_6 : decode cX2_shortOf 6 = .ok (.isub, 1) := oc_100 shX2_shortOf_6
theorem dX2_shortOf_7 : decode cX2_shortOf 7 = .ok (.iload_n 1, 1) := oc_27 shX2_shortOf_7
theorem dX2_shortOf_8 : decode cX2_shortOf 8 = .ok (.bipush 10, 2) := oc_16 shX2_shortOf_8 sgb_10
theorem dX2_shortOf_10 : decode cX2_shortOf 10 = .ok (.idiv, 1) := oc_108 shX2_shortOf_10
theorem dX2_shortOf_11 : decode cX2_shortOf 11 = .ok (.isub, 1) := oc_100 shX2_shortOf_11
theorem dX2_shortOf_12 : decode cX2_shortOf 12 = .ok (.invokestatic 28, 3) := oc_184 shX2_shortOf_12
theorem dX2_shortOf_15 : decode cX2_shortOf 15 = .ok (.ireturn, 1) := oc_172 shX2_shortOf_15
noncomputable def sxX11_feastedFill_60 : List UInt8 := []
noncomputable def sxX11_feastedFill_59 : List UInt8 := 172 :: sxX11_feastedFill_60
noncomputable def sxX11_feastedFill_56 : List UInt8 := 184 :: 0 :: 227 :: sxX11_feastedFill_59
noncomputable def sxX11_feastedFill_53 : List UInt8 := 180 :: 1 :: 239 :: sxX11_feastedFill_56
noncomputable def sxX11_feastedFill_52 : List UInt8 := 44 :: sxX11_feastedFill_53
noncomputable def sxX11_feastedFill_51 : List UInt8 := 29 :: sxX11_feastedFill_52
noncomputable def sxX11_feastedFill_48 : List UInt8 := 167 :: 255 :: 218 :: sxX11_feastedFill_51
noncomputable def sxX11_feastedFill_45 : List UInt8 := 132 :: 4 :: 1 :: sxX11_feastedFill_48
noncomputable def sxX11_feastedFill_44 : List UInt8 := 62 :: sxX11_feastedFill_45
noncomputable def sxX11_feastedFill_43 : List UInt8 := 96 :: sxX11_feastedFill_44
noncomputable def sxX11_feastedFill_42 : List UInt8 := 108 :: sxX11_feastedFill_43
noncomputable def sxX11_feastedFill_40 : List UInt8 := 16 :: 100 :: sxX11_feastedFill_42
noncomputable def sxX11_feastedFill_39 : List UInt8 := 104 :: sxX11_feastedFill_40
noncomputable def sxX11_feastedFill_38 : List UInt8 := 96 :: sxX11_feastedFill_39
noncomputable def sxX11_feastedFill_35 : List UInt8 := 184 :: 0 :: 192 :: sxX11_feastedFill_38
noncomputable def sxX11_feastedFill_33 : List UInt8 := 21 :: 4 :: sxX11_feastedFill_35
noncomputable def sxX11_feastedFill_30 : List UInt8 := 180 :: 1 :: 236 :: sxX11_feastedFill_33
noncomputable def sxX11_feastedFill_27 : List UInt8 := 180 :: 0 :: 47 :: sxX11_feastedFill_30
noncomputable def sxX11_feastedFill_26 : List UInt8 := 42 :: sxX11_feastedFill_27
noncomputable def sxX11_feastedFill_24 : List UInt8 := 16 :: 100 :: sxX11_feastedFill_26
noncomputable def sxX11_feastedFill_21 : List UInt8 := 180 :: 1 :: 203 :: sxX11_feastedFill_24
noncomputable def sxX11_feastedFill_20 : List UInt8 := 44 :: sxX11_feastedFill_21
noncomputable def sxX11_feastedFill_19 : List UInt8 := 29 :: sxX11_feastedFill_20
noncomputable def sxX11_feastedFill_16 : List UInt8 := 163 :: 0 :: 35 :: sxX11_feastedFill_19
noncomputable def sxX11_feastedFill_13 : List UInt8 := 180 :: 0 :: 196 :: sxX11_feastedFill_16
noncomputable def sxX11_feastedFill_12 : List UInt8 := 43 :: sxX11_feastedFill_13
noncomputable def sxX11_feastedFill_10 : List UInt8 := 21 :: 4 :: sxX11_feastedFill_12
noncomputable def sxX11_feastedFill_8 : List UInt8 := 54 :: 4 :: sxX11_feastedFill_10
noncomputable def sxX11_feastedFill_7 : List UInt8 := 96 :: sxX11_feastedFill_8
noncomputable def sxX11_feastedFill_6 : List UInt8 := 4 :: sxX11_feastedFill_7
noncomputable def sxX11_feastedFill_3 : List UInt8 := 180 :: 0 :: 128 :: sxX11_feastedFill_6
noncomputable def sxX11_feastedFill_2 : List UInt8 := 43 :: sxX11_feastedFill_3
noncomputable def sxX11_feastedFill_1 : List UInt8 := 62 :: sxX11_feastedFill_2
noncomputable def sxX11_feastedFill_0 : List UInt8 := 3 :: sxX11_feastedFill_1
theorem shX11_feastedFill_0 : cX11_feastedFill.data.toList.drop 0 = sxX11_feastedFill_0 := rfl
theorem shX11_feastedFill_1 : cX11_feastedFill.data.toList.drop 1 = sxX11_feastedFill_1 := dSn 1 shX11_feastedFill_0
theorem shX11_feastedFill_2 : cX11_feastedFill.data.toList.drop 2 = sxX11_feastedFill_2 := dSn 1 shX11_feastedFill_1
theorem shX11_feastedFill_3 : cX11_feastedFill.data.toList.drop 3 = sxX11_feastedFill_3 := dSn 1 shX11_feastedFill_2
theorem shX11_feastedFill_6 : cX11_feastedFill.data.toList.drop 6 = sxX11_feastedFill_6 := dSn 3 shX11_feastedFill_3
theorem shX11_feastedFill_7 : cX11_feastedFill.data.toList.drop 7 = sxX11_feastedFill_7 := dSn 1 shX11_feastedFill_6
theorem shX11_feastedFill_8 : cX11_feastedFill.data.toList.drop 8 = sxX11_feastedFill_8 := dSn 1 shX11_feastedFill_7
theorem shX11_feastedFill_10 : cX11_feastedFill.data.toList.drop 10 = sxX11_feastedFill_10 := dSn 2 shX11_feastedFill_8
theorem shX11_feastedFill_12 : cX11_feastedFill.data.toList.drop 12 = sxX11_feastedFill_12 := dSn 2 shX11_feastedFill_10
theorem shX11_feastedFill_13 : cX11_feastedFill.data.toList.drop 13 = sxX11_feastedFill_13 := dSn 1 shX11_feastedFill_12
theorem shX11_feastedFill_16 : cX11_feastedFill.data.toList.drop 16 = sxX11_feastedFill_16 := dSn 3 shX11_feastedFill_13
theorem shX11_feastedFill_19 : cX11_feastedFill.data.toList.drop 19 = sxX11_feastedFill_19 := dSn 3 shX11_feastedFill_16
theorem shX11_feastedFill_20 : cX11_feastedFill.data.toList.drop 20 = sxX11_feastedFill_20 := dSn 1 shX11_feastedFill_19
theorem shX11_feastedFill_21 : cX11_feastedFill.data.toList.drop 21 = sxX11_feastedFill_21 := dSn 1 shX11_feastedFill_20
theorem shX11_feastedFill_24 : cX11_feastedFill.data.toList.drop 24 = sxX11_feastedFill_24 := dSn 3 shX11_feastedFill_21
theorem shX11_feastedFill_26 : cX11_feastedFill.data.toList.drop 26 = sxX11_feastedFill_26 := dSn 2 shX11_feastedFill_24
theorem shX11_feastedFill_27 : cX11_feastedFill.data.toList.drop 27 = sxX11_feastedFill_27 := dSn 1 shX11_feastedFill_26
theorem shX11_feastedFill_30 : cX11_feastedFill.data.toList.drop 30 = sxX11_feastedFill_30 := dSn 3 shX11_feastedFill_27
theorem shX11_feastedFill_33 : cX11_feastedFill.data.toList.drop 33 = sxX11_feastedFill_33 := dSn 3 shX11_feastedFill_30
theorem shX11_feastedFill_35 : cX11_feastedFill.data.toList.drop 35 = sxX11_feastedFill_35 := dSn 2 shX11_feastedFill_33
theorem shX11_feastedFill_38 : cX11_feastedFill.data.toList.drop 38 = sxX11_feastedFill_38 := dSn 3 shX11_feastedFill_35
theorem shX11_feastedFill_39 : cX11_feastedFill.data.toList.drop 39 = sxX11_feastedFill_39 := dSn 1 shX11_feastedFill_38
theorem shX11_feastedFill_40 : cX11_feastedFill.data.toList.drop 40 = sxX11_feastedFill_40 := dSn 1 shX11_feastedFill_39
theorem shX11_feastedFill_42 : cX11_feastedFill.data.toList.drop 42 = sxX11_feastedFill_42 := dSn 2 shX11_feastedFill_40
theorem shX11_feastedFill_43 : cX11_feastedFill.data.toList.drop 43 = sxX11_feastedFill_43 := dSn 1 shX11_feastedFill_42
theorem shX11_feastedFill_44 : cX11_feastedFill.data.toList.drop 44 = sxX11_feastedFill_44 := dSn 1 shX11_feastedFill_43
theorem shX11_feastedFill_45 : cX11_feastedFill.data.toList.drop 45 = sxX11_feastedFill_45 := dSn 1 shX11_feastedFill_44
theorem shX11_feastedFill_48 : cX11_feastedFill.data.toList.drop 48 = sxX11_feastedFill_48 := dSn 3 shX11_feastedFill_45
theorem shX11_feastedFill_51 : cX11_feastedFill.data.toList.drop 51 = sxX11_feastedFill_51 := dSn 3 shX11_feastedFill_48
theorem shX11_feastedFill_52 : cX11_feastedFill.data.toList.drop 52 = sxX11_feastedFill_52 := dSn 1 shX11_feastedFill_51
theorem shX11_feastedFill_53 : cX11_feastedFill.data.toList.drop 53 = sxX11_feastedFill_53 := dSn 1 shX11_feastedFill_52
theorem shX11_feastedFill_56 : cX11_feastedFill.data.toList.drop 56 = sxX11_feastedFill_56 := dSn 3 shX11_feastedFill_53
theorem shX11_feastedFill_59 : cX11_feastedFill.data.toList.drop 59 = sxX11_feastedFill_59 := dSn 3 shX11_feastedFill_56
theorem dX11_feastedFill_0 : decode cX11_feastedFill 0 = .ok (.iconst 0, 1) := oc_3 shX11_feastedFill_0
theorem dX11_feastedFill_1 : decode cX11_feastedFill 1 = .ok (.istore_n 3, 1) := oc_62 shX11_feastedFill_1
theorem dX11_feastedFill_2 : decode cX11_feastedFill 2 = .ok (.aload_n 1, 1) := oc_43 shX11_feastedFill_2
theorem dX11_feastedFill_3 : decode cX11_feastedFill 3 = .ok (.getfield 128, 3) := oc_180 shX11_feastedFill_3
theorem dX11_feastedFill_6 : decode cX11_feastedFill 6 = .ok (.iconst 1, 1) := oc_4 shX11_feastedFill_6
theorem dX11_feastedFill_7 : decode cX11_feastedFill 7 = .ok (.iadd, 1) := oc_96 shX11_feastedFill_7
theorem dX11_feastedFill_8 : decode cX11_feastedFill 8 = .ok (.istore 4, 2) := oc_54 shX11_feastedFill_8
theorem dX11_feastedFill_10 : decode cX11_feastedFill 10 = .ok (.iload 4, 2) := oc_21 shX11_feastedFill_10
theorem dX11_feastedFill_12 : decode cX11_feastedFill 12 = .ok (.aload_n 1, 1) := oc_43 shX11_feastedFill_12
theorem dX11_feastedFill_13 : decode cX11_feastedFill 13 = .ok (.getfield 196, 3) := oc_180 shX11_feastedFill_13
theorem dX11_feastedFill_16 : decode cX11_feastedFill 16 = .ok (.if_icmp .gt 35, 3) := oc_163 shX11_feastedFill_16 sgw_0_35
theorem dX11_feastedFill_51 : decode cX11_feastedFill 51 = .ok (.iload_n 3, 1) := oc_29 shX11_feastedFill_51
theorem dX11_feastedFill_52 : decode cX11_feastedFill 52 = .ok (.aload_n 2, 1) := oc_44 shX11_feastedFill_52
theorem dX11_feastedFill_53 : decode cX11_feastedFill 53 = .ok (.getfield 495, 3) := oc_180 shX11_feastedFill_53
theorem dX11_feastedFill_56 : decode cX11_feastedFill 56 = .ok (.invokestatic 227, 3) := oc_184 shX11_feastedFill_56
theorem dX11_feastedFill_59 : decode cX11_feastedFill 59 = .ok (.ireturn, 1) := oc_172 shX11_feastedFill_59
theorem dX11_feastedFill_19 : decode cX11_feastedFill 19 = .ok (.iload_n 3, 1) := oc_29 shX11_feastedFill_19
theorem dX11_feastedFill_20 : decode cX11_feastedFill 20 = .ok (.aload_n 2, 1) := oc_44 shX11_feastedFill_20
theorem dX11_feastedFill_21 : decode cX11_feastedFill 21 = .ok (.getfield 459, 3) := oc_180 shX11_feastedFill_21
theorem dX11_feastedFill_24 : decode cX11_feastedFill 24 = .ok (.bipush 100, 2) := oc_16 shX11_feastedFill_24 sgb_100
theorem dX11_feastedFill_26 : decode cX11_feastedFill 26 = .ok (.aload_n 0, 1) := oc_42 shX11_feastedFill_26
theorem dX11_feastedFill_27 : decode cX11_feastedFill 27 = .ok (.getfield 47, 3) := oc_180 shX11_feastedFill_27
theorem dX11_feastedFill_30 : decode cX11_feastedFill 30 = .ok (.getfield 492, 3) := oc_180 shX11_feastedFill_30
theorem dX11_feastedFill_33 : decode cX11_feastedFill 33 = .ok (.iload 4, 2) := oc_21 shX11_feastedFill_33
theorem dX11_feastedFill_35 : decode cX11_feastedFill 35 = .ok (.invokestatic 192, 3) := oc_184 shX11_feastedFill_35
theorem dX11_feastedFill_38 : decode cX11_feastedFill 38 = .ok (.iadd, 1) := oc_96 shX11_feastedFill_38
theorem dX11_feastedFill_39 : decode cX11_feastedFill 39 = .ok (.imul, 1) := oc_104 shX11_feastedFill_39
theorem dX11_feastedFill_40 : decode cX11_feastedFill 40 = .ok (.bipush 100, 2) := oc_16 shX11_feastedFill_40 sgb_100
theorem dX11_feastedFill_42 : decode cX11_feastedFill 42 = .ok (.idiv, 1) := oc_108 shX11_feastedFill_42
theorem dX11_feastedFill_43 : decode cX11_feastedFill 43 = .ok (.iadd, 1) := oc_96 shX11_feastedFill_43
theorem dX11_feastedFill_44 : decode cX11_feastedFill 44 = .ok (.istore_n 3, 1) := oc_62 shX11_feastedFill_44
theorem dX11_feastedFill_45 : decode cX11_feastedFill 45 = .ok (.iinc 4 1, 3) := oc_132 shX11_feastedFill_45 sgb_1
theorem dX11_feastedFill_48 : decode cX11_feastedFill 48 = .ok (.goto (-38), 3) := oc_167 shX11_feastedFill_48 sgw_255_218
noncomputable def sxX11_feasted_69 : List UInt8 := []
noncomputable def sxX11_feasted_68 : List UInt8 := 172 :: sxX11_feasted_69
noncomputable def sxX11_feasted_65 : List UInt8 := 182 :: 0 :: 137 :: sxX11_feasted_68
noncomputable def sxX11_feasted_63 : List UInt8 := 21 :: 5 :: sxX11_feasted_65
noncomputable def sxX11_feasted_62 : List UInt8 := 45 :: sxX11_feasted_63
noncomputable def sxX11_feasted_59 : List UInt8 := 167 :: 0 :: 9 :: sxX11_feasted_62
noncomputable def sxX11_feasted_57 : List UInt8 := 21 :: 5 :: sxX11_feasted_59
noncomputable def sxX11_feasted_54 : List UInt8 := 154 :: 0 :: 8 :: sxX11_feasted_57
noncomputable def sxX11_feasted_53 : List UInt8 := 28 :: sxX11_feasted_54
noncomputable def sxX11_feasted_51 : List UInt8 := 54 :: 5 :: sxX11_feasted_53
noncomputable def sxX11_feasted_48 : List UInt8 := 182 :: 1 :: 242 :: sxX11_feasted_51
noncomputable def sxX11_feasted_46 : List UInt8 := 25 :: 4 :: sxX11_feasted_48
noncomputable def sxX11_feasted_45 : List UInt8 := 45 :: sxX11_feasted_46
noncomputable def sxX11_feasted_44 : List UInt8 := 42 :: sxX11_feasted_45
noncomputable def sxX11_feasted_43 : List UInt8 := 172 :: sxX11_feasted_44
noncomputable def sxX11_feasted_42 : List UInt8 := 2 :: sxX11_feasted_43
noncomputable def sxX11_feasted_39 : List UInt8 := 154 :: 0 :: 5 :: sxX11_feasted_42
noncomputable def sxX11_feasted_36 : List UInt8 := 184 :: 0 :: 80 :: sxX11_feasted_39
noncomputable def sxX11_feasted_35 : List UInt8 := 4 :: sxX11_feasted_36
noncomputable def sxX11_feasted_34 : List UInt8 := 3 :: sxX11_feasted_35
noncomputable def sxX11_feasted_33 : List UInt8 := 28 :: sxX11_feasted_34
noncomputable def sxX11_feasted_30 : List UInt8 := 198 :: 0 :: 12 :: sxX11_feasted_33
noncomputable def sxX11_feasted_28 : List UInt8 := 25 :: 4 :: sxX11_feasted_30
noncomputable def sxX11_feasted_25 : List UInt8 := 198 :: 0 :: 17 :: sxX11_feasted_28
noncomputable def sxX11_feasted_24 : List UInt8 := 45 :: sxX11_feasted_25
noncomputable def sxX11_feasted_22 : List UInt8 := 58 :: 4 :: sxX11_feasted_24
noncomputable def sxX11_feasted_19 : List UInt8 := 182 :: 0 :: 114 :: sxX11_feasted_22
noncomputable def sxX11_feasted_16 : List UInt8 := 180 :: 0 :: 211 :: sxX11_feasted_19
noncomputable def sxX11_feasted_15 : List UInt8 := 45 :: sxX11_feasted_16
noncomputable def sxX11_feasted_14 : List UInt8 := 42 :: sxX11_feasted_15
noncomputable def sxX11_feasted_11 : List UInt8 := 167 :: 0 :: 11 :: sxX11_feasted_14
noncomputable def sxX11_feasted_10 : List UInt8 := 1 :: sxX11_feasted_11
noncomputable def sxX11_feasted_7 : List UInt8 := 199 :: 0 :: 7 :: sxX11_feasted_10
noncomputable def sxX11_feasted_6 : List UInt8 := 45 :: sxX11_feasted_7
noncomputable def sxX11_feasted_5 : List UInt8 := 78 :: sxX11_feasted_6
noncomputable def sxX11_feasted_2 : List UInt8 := 182 :: 0 :: 148 :: sxX11_feasted_5
noncomputable def sxX11_feasted_1 : List UInt8 := 27 :: sxX11_feasted_2
noncomputable def sxX11_feasted_0 : List UInt8 := 42 :: sxX11_feasted_1
theorem shX11_feasted_0 : cX11_feasted.data.toList.drop 0 = sxX11_feasted_0 := rfl
theorem shX11_feasted_1 : cX11_feasted.data.toList.drop 1 = sxX11_feasted_1 := dSn 1 shX11_feasted_0
theorem shX11_feasted_2 : cX11_feasted.data.toList.drop 2 = sxX11_feasted_2 := dSn 1 shX11_feasted_1
theorem shX11_feasted_5 : cX11_feasted.data.toList.drop 5 = sxX11_feasted_5 := dSn 3 shX11_feasted_2
theorem shX11_feasted_6 : cX11_feasted.data.toList.drop 6 = sxX11_feasted_6 := dSn 1 shX11_feasted_5
theorem shX11_feasted_7 : cX11_feasted.data.toList.drop 7 = sxX11_feasted_7 := dSn 1 shX11_feasted_6
theorem shX11_feasted_10 : cX11_feasted.data.toList.drop 10 = sxX11_feasted_10 := dSn 3 shX11_feasted_7
theorem shX11_feasted_11 : cX11_feasted.data.toList.drop 11 = sxX11_feasted_11 := dSn 1 shX11_feasted_10
theorem shX11_feasted_14 : cX11_feasted.data.toList.drop 14 = sxX11_feasted_14 := dSn 3 shX11_feasted_11
theorem shX11_feasted_15 : cX11_feasted.data.toList.drop 15 = sxX11_feasted_15 := dSn 1 shX11_feasted_14
theorem shX11_feasted_16 : cX11_feasted.data.toList.drop 16 = sxX11_feasted_16 := dSn 1 shX11_feasted_15
theorem shX11_feasted_19 : cX11_feasted.data.toList.drop 19 = sxX11_feasted_19 := dSn 3 shX11_feasted_16
theorem shX11_feasted_22 : cX11_feasted.data.toList.drop 22 = sxX11_feasted_22 := dSn 3 shX11_feasted_19
theorem shX11_feasted_24 : cX11_feasted.data.toList.drop 24 = sxX11_feasted_24 := dSn 2 shX11_feasted_22
theorem shX11_feasted_25 : cX11_feasted.data.toList.drop 25 = sxX11_feasted_25 := dSn 1 shX11_feasted_24
theorem shX11_feasted_28 : cX11_feasted.data.toList.drop 28 = sxX11_feasted_28 := dSn 3 shX11_feasted_25
theorem shX11_feasted_30 : cX11_feasted.data.toList.drop 30 = sxX11_feasted_30 := dSn 2 shX11_feasted_28
theorem shX11_feasted_33 : cX11_feasted.data.toList.drop 33 = sxX11_feasted_33 := dSn 3 shX11_feasted_30
theorem shX11_feasted_34 : cX11_feasted.data.toList.drop 34 = sxX11_feasted_34 := dSn 1 shX11_feasted_33
theorem shX11_feasted_35 : cX11_feasted.data.toList.drop 35 = sxX11_feasted_35 := dSn 1 shX11_feasted_34
theorem shX11_feasted_36 : cX11_feasted.data.toList.drop 36 = sxX11_feasted_36 := dSn 1 shX11_feasted_35
theorem shX11_feasted_39 : cX11_feasted.data.toList.drop 39 = sxX11_feasted_39 := dSn 3 shX11_feasted_36
theorem shX11_feasted_42 : cX11_feasted.data.toList.drop 42 = sxX11_feasted_42 := dSn 3 shX11_feasted_39
theorem shX11_feasted_43 : cX11_feasted.data.toList.drop 43 = sxX11_feasted_43 := dSn 1 shX11_feasted_42
theorem shX11_feasted_44 : cX11_feasted.data.toList.drop 44 = sxX11_feasted_44 := dSn 1 shX11_feasted_43
theorem shX11_feasted_45 : cX11_feasted.data.toList.drop 45 = sxX11_feasted_45 := dSn 1 shX11_feasted_44
theorem shX11_feasted_46 : cX11_feasted.data.toList.drop 46 = sxX11_feasted_46 := dSn 1 shX11_feasted_45
theorem shX11_feasted_48 : cX11_feasted.data.toList.drop 48 = sxX11_feasted_48 := dSn 2 shX11_feasted_46
theorem shX11_feasted_51 : cX11_feasted.data.toList.drop 51 = sxX11_feasted_51 := dSn 3 shX11_feasted_48
theorem shX11_feasted_53 : cX11_feasted.data.toList.drop 53 = sxX11_feasted_53 := dSn 2 shX11_feasted_51
theorem shX11_feasted_54 : cX11_feasted.data.toList.drop 54 = sxX11_feasted_54 := dSn 1 shX11_feasted_53
theorem shX11_feasted_57 : cX11_feasted.data.toList.drop 57 = sxX11_feasted_57 := dSn 3 shX11_feasted_54
theorem shX11_feasted_59 : cX11_feasted.data.toList.drop 59 = sxX11_feasted_59 := dSn 2 shX11_feasted_57
theorem shX11_feasted_62 : cX11_feasted.data.toList.drop 62 = sxX11_feasted_62 := dSn 3 shX11_feasted_59
theorem shX11_feasted_63 : cX11_feasted.data.toList.drop 63 = sxX11_feasted_63 := dSn 1 shX11_feasted_62
theorem shX11_feasted_65 : cX11_feasted.data.toList.drop 65 = sxX11_feasted_65 := dSn 2 shX11_feasted_63
theorem shX11_feasted_68 : cX11_feasted.data.toList.drop 68 = sxX11_feasted_68 := dSn 3 shX11_feasted_65
theorem dX11_feasted_0 : decode cX11_feasted 0 = .ok (.aload_n 0, 1) := oc_42 shX11_feasted_0
theorem dX11_feasted_1 : decode cX11_feasted 1 = .ok (.iload_n 1, 1) := oc_27 shX11_feasted_1
theorem dX11_feasted_2 : decode cX11_feasted 2 = .ok (.invokevirtual 148, 3) := oc_182 shX11_feasted_2
theorem dX11_feasted_5 : decode cX11_feasted 5 = .ok (.astore_n 3, 1) := oc_78 shX11_feasted_5
theorem dX11_feasted_6 : decode cX11_feasted 6 = .ok (.aload_n 3, 1) := oc_45 shX11_feasted_6
theorem dX11_feasted_7 : decode cX11_feasted 7 = .ok (.ifnonnull 7, 3) := oc_199 shX11_feasted_7 sgw_0_7
theorem dX11_feasted_14 : decode cX11_feasted 14 = .ok (.aload_n 0, 1) := oc_42 shX11_feasted_14
theorem dX11_feasted_15 : decode cX11_feasted 15 = .ok (.aload_n 3, 1) := oc_45 shX11_feasted_15
theorem dX11_feasted_16 : decode cX11_feasted 16 = .ok (.getfield 211, 3) := oc_180 shX11_feasted_16
theorem dX11_feasted_19 : decode cX11_feasted 19 = .ok (.invokevirtual 114, 3) := oc_182 shX11_feasted_19
theorem dX11_feasted_22 : decode cX11_feasted 22 = .ok (.astore 4, 2) := oc_58 shX11_feasted_22
theorem dX11_feasted_24 : decode cX11_feasted 24 = .ok (.aload_n 3, 1) := oc_45 shX11_feasted_24
theorem dX11_feasted_25 : decode cX11_feasted 25 = .ok (.ifnull 17, 3) := oc_198 shX11_feasted_25 sgw_0_17
theorem dX11_feasted_28 : decode cX11_feasted 28 = .ok (.aload 4, 2) := oc_25 shX11_feasted_28
theorem dX11_feasted_30 : decode cX11_feasted 30 = .ok (.ifnull 12, 3) := oc_198 shX11_feasted_30 sgw_0_12
theorem dX11_feasted_33 : decode cX11_feasted 33 = .ok (.iload_n 2, 1) := oc_28 shX11_feasted_33
theorem dX11_feasted_34 : decode cX11_feasted 34 = .ok (.iconst 0, 1) := oc_3 shX11_feasted_34
theorem dX11_feasted_35 : decode cX11_feasted 35 = .ok (.iconst 1, 1) := oc_4 shX11_feasted_35
theorem dX11_feasted_36 : decode cX11_feasted 36 = .ok (.invokestatic 80, 3) := oc_184 shX11_feasted_36
theorem dX11_feasted_39 : decode cX11_feasted 39 = .ok (.ifCond .ne 5, 3) := oc_154 shX11_feasted_39 sgw_0_5
theorem dX11_feasted_44 : decode cX11_feasted 44 = .ok (.aload_n 0, 1) := oc_42 shX11_feasted_44
theorem dX11_feasted_45 : decode cX11_feasted 45 = .ok (.aload_n 3, 1) := oc_45 shX11_feasted_45
theorem dX11_feasted_46 : decode cX11_feasted 46 = .ok (.aload 4, 2) := oc_25 shX11_feasted_46
theorem dX11_feasted_48 : decode cX11_feasted 48 = .ok (.invokevirtual 498, 3) := oc_182 shX11_feasted_48
theorem dX11_feasted_51 : decode cX11_feasted 51 = .ok (.istore 5, 2) := oc_54 shX11_feasted_51
theorem dX11_feasted_53 : decode cX11_feasted 53 = .ok (.iload_n 2, 1) := oc_28 shX11_feasted_53
theorem dX11_feasted_54 : decode cX11_feasted 54 = .ok (.ifCond .ne 8, 3) := oc_154 shX11_feasted_54 sgw_0_8
theorem dX11_feasted_62 : decode cX11_feasted 62 = .ok (.aload_n 3, 1) := oc_45 shX11_feasted_62
theorem dX11_feasted_63 : decode cX11_feasted 63 = .ok (.iload 5, 2) := oc_21 shX11_feasted_63
theorem dX11_feasted_65 : decode cX11_feasted 65 = .ok (.invokevirtual 137, 3) := oc_182 shX11_feasted_65
theorem dX11_feasted_68 : decode cX11_feasted 68 = .ok (.ireturn, 1) := oc_172 shX11_feasted_68
theorem dX11_feasted_57 : decode cX11_feasted 57 = .ok (.iload 5, 2) := oc_21 shX11_feasted_57
theorem dX11_feasted_59 : decode cX11_feasted 59 = .ok (.goto 9, 3) := oc_167 shX11_feasted_59 sgw_0_9
theorem dX11_feasted_42 : decode cX11_feasted 42 = .ok (.iconst (-1), 1) := oc_2 shX11_feasted_42
theorem dX11_feasted_43 : decode cX11_feasted 43 = .ok (.ireturn, 1) := oc_172 shX11_feasted_43
theorem dX11_feasted_10 : decode cX11_feasted 10 = .ok (.aconst_null, 1) := oc_1 shX11_feasted_10
theorem dX11_feasted_11 : decode cX11_feasted 11 = .ok (.goto 11, 3) := oc_167 shX11_feasted_11 sgw_0_11
noncomputable def sxX11_moveBy_60 : List UInt8 := []
noncomputable def sxX11_moveBy_59 : List UInt8 := 176 :: sxX11_moveBy_60
noncomputable def sxX11_moveBy_58 : List UInt8 := 45 :: sxX11_moveBy_59
noncomputable def sxX11_moveBy_55 : List UInt8 := 167 :: 255 :: 206 :: sxX11_moveBy_58
noncomputable def sxX11_moveBy_52 : List UInt8 := 132 :: 4 :: 1 :: sxX11_moveBy_55
noncomputable def sxX11_moveBy_51 : List UInt8 := 78 :: sxX11_moveBy_52
noncomputable def sxX11_moveBy_49 : List UInt8 := 25 :: 5 :: sxX11_moveBy_51
noncomputable def sxX11_moveBy_46 : List UInt8 := 163 :: 0 :: 6 :: sxX11_moveBy_49
noncomputable def sxX11_moveBy_45 : List UInt8 := 28 :: sxX11_moveBy_46
noncomputable def sxX11_moveBy_42 : List UInt8 := 180 :: 1 :: 252 :: sxX11_moveBy_45
noncomputable def sxX11_moveBy_40 : List UInt8 := 25 :: 5 :: sxX11_moveBy_42
noncomputable def sxX11_moveBy_37 : List UInt8 := 160 :: 0 :: 15 :: sxX11_moveBy_40
noncomputable def sxX11_moveBy_36 : List UInt8 := 27 :: sxX11_moveBy_37
noncomputable def sxX11_moveBy_33 : List UInt8 := 180 :: 1 :: 251 :: sxX11_moveBy_36
noncomputable def sxX11_moveBy_31 : List UInt8 := 25 :: 5 :: sxX11_moveBy_33
noncomputable def sxX11_moveBy_29 : List UInt8 := 58 :: 5 :: sxX11_moveBy_31
noncomputable def sxX11_moveBy_26 : List UInt8 := 192 :: 1 :: 249 :: sxX11_moveBy_29
noncomputable def sxX11_moveBy_23 : List UInt8 := 182 :: 0 :: 87 :: sxX11_moveBy_26
noncomputable def sxX11_moveBy_21 : List UInt8 := 21 :: 4 :: sxX11_moveBy_23
noncomputable def sxX11_moveBy_18 : List UInt8 := 180 :: 0 :: 77 :: sxX11_moveBy_21
noncomputable def sxX11_moveBy_17 : List UInt8 := 42 :: sxX11_moveBy_18
noncomputable def sxX11_moveBy_14 : List UInt8 := 162 :: 0 :: 44 :: sxX11_moveBy_17
noncomputable def sxX11_moveBy_11 : List UInt8 := 182 :: 0 :: 84 :: sxX11_moveBy_14
noncomputable def sxX11_moveBy_8 : List UInt8 := 180 :: 0 :: 77 :: sxX11_moveBy_11
noncomputable def sxX11_moveBy_7 : List UInt8 := 42 :: sxX11_moveBy_8
noncomputable def sxX11_moveBy_5 : List UInt8 := 21 :: 4 :: sxX11_moveBy_7
noncomputable def sxX11_moveBy_3 : List UInt8 := 54 :: 4 :: sxX11_moveBy_5
noncomputable def sxX11_moveBy_2 : List UInt8 := 3 :: sxX11_moveBy_3
noncomputable def sxX11_moveBy_1 : List UInt8 := 78 :: sxX11_moveBy_2
noncomputable def sxX11_moveBy_0 : List UInt8 := 1 :: sxX11_moveBy_1
theorem shX11_moveBy_0 : cX11_moveBy.data.toList.drop 0 = sxX11_moveBy_0 := rfl
theorem shX11_moveBy_1 : cX11_moveBy.data.toList.drop 1 = sxX11_moveBy_1 := dSn 1 shX11_moveBy_0
theorem shX11_moveBy_2 : cX11_moveBy.data.toList.drop 2 = sxX11_moveBy_2 := dSn 1 shX11_moveBy_1
theorem shX11_moveBy_3 : cX11_moveBy.data.toList.drop 3 = sxX11_moveBy_3 := dSn 1 shX11_moveBy_2
theorem shX11_moveBy_5 : cX11_moveBy.data.toList.drop 5 = sxX11_moveBy_5 := dSn 2 shX11_moveBy_3
theorem shX11_moveBy_7 : cX11_moveBy.data.toList.drop 7 = sxX11_moveBy_7 := dSn 2 shX11_moveBy_5
theorem shX11_moveBy_8 : cX11_moveBy.data.toList.drop 8 = sxX11_moveBy_8 := dSn 1 shX11_moveBy_7
theorem shX11_moveBy_11 : cX11_moveBy.data.toList.drop 11 = sxX11_moveBy_11 := dSn 3 shX11_moveBy_8
theorem shX11_moveBy_14 : cX11_moveBy.data.toList.drop 14 = sxX11_moveBy_14 := dSn 3 shX11_moveBy_11
theorem shX11_moveBy_17 : cX11_moveBy.data.toList.drop 17 = sxX11_moveBy_17 := dSn 3 shX11_moveBy_14
theorem shX11_moveBy_18 : cX11_moveBy.data.toList.drop 18 = sxX11_moveBy_18 := dSn 1 shX11_moveBy_17
theorem shX11_moveBy_21 : cX11_moveBy.data.toList.drop 21 = sxX11_moveBy_21 := dSn 3 shX11_moveBy_18
theorem shX11_moveBy_23 : cX11_moveBy.data.toList.drop 23 = sxX11_moveBy_23 := dSn 2 shX11_moveBy_21
theorem shX11_moveBy_26 : cX11_moveBy.data.toList.drop 26 = sxX11_moveBy_26 := dSn 3 shX11_moveBy_23
theorem shX11_moveBy_29 : cX11_moveBy.data.toList.drop 29 = sxX11_moveBy_29 := dSn 3 shX11_moveBy_26
theorem shX11_moveBy_31 : cX11_moveBy.data.toList.drop 31 = sxX11_moveBy_31 := dSn 2 shX11_moveBy_29
theorem shX11_moveBy_33 : cX11_moveBy.data.toList.drop 33 = sxX11_moveBy_33 := dSn 2 shX11_moveBy_31
theorem shX11_moveBy_36 : cX11_moveBy.data.toList.drop 36 = sxX11_moveBy_36 := dSn 3 shX11_moveBy_33
theorem shX11_moveBy_37 : cX11_moveBy.data.toList.drop 37 = sxX11_moveBy_37 := dSn 1 shX11_moveBy_36
theorem shX11_moveBy_40 : cX11_moveBy.data.toList.drop 40 = sxX11_moveBy_40 := dSn 3 shX11_moveBy_37
theorem shX11_moveBy_42 : cX11_moveBy.data.toList.drop 42 = sxX11_moveBy_42 := dSn 2 shX11_moveBy_40
theorem shX11_moveBy_45 : cX11_moveBy.data.toList.drop 45 = sxX11_moveBy_45 := dSn 3 shX11_moveBy_42
theorem shX11_moveBy_46 : cX11_moveBy.data.toList.drop 46 = sxX11_moveBy_46 := dSn 1 shX11_moveBy_45
theorem shX11_moveBy_49 : cX11_moveBy.data.toList.drop 49 = sxX11_moveBy_49 := dSn 3 shX11_moveBy_46
theorem shX11_moveBy_51 : cX11_moveBy.data.toList.drop 51 = sxX11_moveBy_51 := dSn 2 shX11_moveBy_49
theorem shX11_moveBy_52 : cX11_moveBy.data.toList.drop 52 = sxX11_moveBy_52 := dSn 1 shX11_moveBy_51
theorem shX11_moveBy_55 : cX11_moveBy.data.toList.drop 55 = sxX11_moveBy_55 := dSn 3 shX11_moveBy_52
theorem shX11_moveBy_58 : cX11_moveBy.data.toList.drop 58 = sxX11_moveBy_58 := dSn 3 shX11_moveBy_55
theorem shX11_moveBy_59 : cX11_moveBy.data.toList.drop 59 = sxX11_moveBy_59 := dSn 1 shX11_moveBy_58
theorem dX11_moveBy_0 : decode cX11_moveBy 0 = .ok (.aconst_null, 1) := oc_1 shX11_moveBy_0
theorem dX11_moveBy_1 : decode cX11_moveBy 1 = .ok (.astore_n 3, 1) := oc_78 shX11_moveBy_1
theorem dX11_moveBy_2 : decode cX11_moveBy 2 = .ok (.iconst 0, 1) := oc_3 shX11_moveBy_2
theorem dX11_moveBy_3 : decode cX11_moveBy 3 = .ok (.istore 4, 2) := oc_54 shX11_moveBy_3
theorem dX11_moveBy_5 : decode cX11_moveBy 5 = .ok (.iload 4, 2) := oc_21 shX11_moveBy_5
theorem dX11_moveBy_7 : decode cX11_moveBy 7 = .ok (.aload_n 0, 1) := oc_42 shX11_moveBy_7
theorem dX11_moveBy_8 : decode cX11_moveBy 8 = .ok (.getfield 77, 3) := oc_180 shX11_moveBy_8
theorem dX11_moveBy_11 : decode cX11_moveBy 11 = .ok (.invokevirtual 84, 3) := oc_182 shX11_moveBy_11
theorem dX11_moveBy_14 : decode cX11_moveBy 14 = .ok (.if_icmp .ge 44, 3) := oc_162 shX11_moveBy_14 sgw_0_44
theorem dX11_moveBy_58 : decode cX11_moveBy 58 = .ok (.aload_n 3, 1) := oc_45 shX11_moveBy_58
theorem dX11_moveBy_59 : decode cX11_moveBy 59 = .ok (.areturn, 1) := oc_176 shX11_moveBy_59
theorem dX11_moveBy_17 : decode cX11_moveBy 17 = .ok (.aload_n 0, 1) := oc_42 shX11_moveBy_17
theorem dX11_moveBy_18 : decode cX11_moveBy 18 = .ok (.getfield 77, 3) := oc_180 shX11_moveBy_18
theorem dX11_moveBy_21 : decode cX11_moveBy 21 = .ok (.iload 4, 2) := oc_21 shX11_moveBy_21
theorem dX11_moveBy_23 : decode cX11_moveBy 23 = .ok (.invokevirtual 87, 3) := oc_182 shX11_moveBy_23
theorem dX11_moveBy_26 : decode cX11_moveBy 26 = .ok (.checkcast 505, 3) := oc_192 shX11_moveBy_26
theorem dX11_moveBy_29 : decode cX11_moveBy 29 = .ok (.astore 5, 2) := oc_58 shX11_moveBy_29
theorem dX11_moveBy_31 : decode cX11_moveBy 31 = .ok (.aload 5, 2) := oc_25 shX11_moveBy_31
theorem dX11_moveBy_33 : decode cX11_moveBy 33 = .ok (.getfield 507, 3) := oc_180 shX11_moveBy_33
theorem dX11_moveBy_36 : decode cX11_moveBy 36 = .ok (.iload_n 1, 1) := oc_27 shX11_moveBy_36
theorem dX11_moveBy_37 : decode cX11_moveBy 37 = .ok (.if_icmp .ne 15, 3) := oc_160 shX11_moveBy_37 sgw_0_15
theorem dX11_moveBy_52 : decode cX11_moveBy 52 = .ok (.iinc 4 1, 3) := oc_132 shX11_moveBy_52 sgb_1
theorem dX11_moveBy_55 : decode cX11_moveBy 55 = .ok (.goto (-50), 3) := oc_167 shX11_moveBy_55 sgw_255_206
theorem dX11_moveBy_40 : decode cX11_moveBy 40 = .ok (.aload 5, 2) := oc_25 shX11_moveBy_40
theorem dX11_moveBy_42 : decode cX11_moveBy 42 = .ok (.getfield 508, 3) := oc_180 shX11_moveBy_42
theorem dX11_moveBy_45 : decode cX11_moveBy 45 = .ok (.iload_n 2, 1) := oc_28 shX11_moveBy_45
theorem dX11_moveBy_46 : decode cX11_moveBy 46 = .ok (.if_icmp .gt 6, 3) := oc_163 shX11_moveBy_46 sgw_0_6
theorem dX11_moveBy_49 : decode cX11_moveBy 49 = .ok (.aload 5, 2) := oc_25 shX11_moveBy_49
theorem dX11_moveBy_51 : decode cX11_moveBy 51 = .ok (.astore_n 3, 1) := oc_78 shX11_moveBy_51
noncomputable def sxX11_stood_52 : List UInt8 := []
noncomputable def sxX11_stood_51 : List UInt8 := 172 :: sxX11_stood_52
noncomputable def sxX11_stood_48 : List UInt8 := 180 :: 2 :: 4 :: sxX11_stood_51
noncomputable def sxX11_stood_47 : List UInt8 := 45 :: sxX11_stood_48
noncomputable def sxX11_stood_44 : List UInt8 := 167 :: 0 :: 7 :: sxX11_stood_47
noncomputable def sxX11_stood_42 : List UInt8 := 16 :: 254 :: sxX11_stood_44
noncomputable def sxX11_stood_39 : List UInt8 := 160 :: 0 :: 8 :: sxX11_stood_42
noncomputable def sxX11_stood_38 : List UInt8 := 2 :: sxX11_stood_39
noncomputable def sxX11_stood_35 : List UInt8 := 180 :: 2 :: 4 :: sxX11_stood_38
noncomputable def sxX11_stood_34 : List UInt8 := 45 :: sxX11_stood_35
noncomputable def sxX11_stood_31 : List UInt8 := 198 :: 0 :: 11 :: sxX11_stood_34
noncomputable def sxX11_stood_30 : List UInt8 := 45 :: sxX11_stood_31
noncomputable def sxX11_stood_29 : List UInt8 := 78 :: sxX11_stood_30
noncomputable def sxX11_stood_26 : List UInt8 := 182 :: 1 :: 253 :: sxX11_stood_29
noncomputable def sxX11_stood_25 : List UInt8 := 28 :: sxX11_stood_26
noncomputable def sxX11_stood_24 : List UInt8 := 27 :: sxX11_stood_25
noncomputable def sxX11_stood_23 : List UInt8 := 42 :: sxX11_stood_24
noncomputable def sxX11_stood_22 : List UInt8 := 172 :: sxX11_stood_23
noncomputable def sxX11_stood_21 : List UInt8 := 2 :: sxX11_stood_22
noncomputable def sxX11_stood_18 : List UInt8 := 154 :: 0 :: 5 :: sxX11_stood_21
noncomputable def sxX11_stood_15 : List UInt8 := 184 :: 0 :: 99 :: sxX11_stood_18
noncomputable def sxX11_stood_14 : List UInt8 := 28 :: sxX11_stood_15
noncomputable def sxX11_stood_11 : List UInt8 := 153 :: 0 :: 10 :: sxX11_stood_14
noncomputable def sxX11_stood_8 : List UInt8 := 184 :: 0 :: 80 :: sxX11_stood_11
noncomputable def sxX11_stood_7 : List UInt8 := 100 :: sxX11_stood_8
noncomputable def sxX11_stood_6 : List UInt8 := 4 :: sxX11_stood_7
noncomputable def sxX11_stood_3 : List UInt8 := 180 :: 1 :: 246 :: sxX11_stood_6
noncomputable def sxX11_stood_2 : List UInt8 := 42 :: sxX11_stood_3
noncomputable def sxX11_stood_1 : List UInt8 := 3 :: sxX11_stood_2
noncomputable def sxX11_stood_0 : List UInt8 := 27 :: sxX11_stood_1
theorem shX11_stood_0 : cX11_stood.data.toList.drop 0 = sxX11_stood_0 := rfl
theorem shX11_stood_1 : cX11_stood.data.toList.drop 1 = sxX11_stood_1 := dSn 1 shX11_stood_0
theorem shX11_stood_2 : cX11_stood.data.toList.drop 2 = sxX11_stood_2 := dSn 1 shX11_stood_1
theorem shX11_stood_3 : cX11_stood.data.toList.drop 3 = sxX11_stood_3 := dSn 1 shX11_stood_2
theorem shX11_stood_6 : cX11_stood.data.toList.drop 6 = sxX11_stood_6 := dSn 3 shX11_stood_3
theorem shX11_stood_7 : cX11_stood.data.toList.drop 7 = sxX11_stood_7 := dSn 1 shX11_stood_6
theorem shX11_stood_8 : cX11_stood.data.toList.drop 8 = sxX11_stood_8 := dSn 1 shX11_stood_7
theorem shX11_stood_11 : cX11_stood.data.toList.drop 11 = sxX11_stood_11 := dSn 3 shX11_stood_8
theorem shX11_stood_14 : cX11_stood.data.toList.drop 14 = sxX11_stood_14 := dSn 3 shX11_stood_11
theorem shX11_stood_15 : cX11_stood.data.toList.drop 15 = sxX11_stood_15 := dSn 1 shX11_stood_14
theorem shX11_stood_18 : cX11_stood.data.toList.drop 18 = sxX11_stood_18 := dSn 3 shX11_stood_15
theorem shX11_stood_21 : cX11_stood.data.toList.drop 21 = sxX11_stood_21 := dSn 3 shX11_stood_18
theorem shX11_stood_22 : cX11_stood.data.toList.drop 22 = sxX11_stood_22 := dSn 1 shX11_stood_21
theorem shX11_stood_23 : cX11_stood.data.toList.drop 23 = sxX11_stood_23 := dSn 1 shX11_stood_22
theorem shX11_stood_24 : cX11_stood.data.toList.drop 24 = sxX11_stood_24 := dSn 1 shX11_stood_23
theorem shX11_stood_25 : cX11_stood.data.toList.drop 25 = sxX11_stood_25 := dSn 1 shX11_stood_24
theorem shX11_stood_26 : cX11_stood.data.toList.drop 26 = sxX11_stood_26 := dSn 1 shX11_stood_25
theorem shX11_stood_29 : cX11_stood.data.toList.drop 29 = sxX11_stood_29 := dSn 3 shX11_stood_26
theorem shX11_stood_30 : cX11_stood.data.toList.drop 30 = sxX11_stood_30 := dSn 1 shX11_stood_29
theorem shX11_stood_31 : cX11_stood.data.toList.drop 31 = sxX11_stood_31 := dSn 1 shX11_stood_30
theorem shX11_stood_34 : cX11_stood.data.toList.drop 34 = sxX11_stood_34 := dSn 3 shX11_stood_31
theorem shX11_stood_35 : cX11_stood.data.toList.drop 35 = sxX11_stood_35 := dSn 1 shX11_stood_34
theorem shX11_stood_38 : cX11_stood.data.toList.drop 38 = sxX11_stood_38 := dSn 3 shX11_stood_35
theorem shX11_stood_39 : cX11_stood.data.toList.drop 39 = sxX11_stood_39 := dSn 1 shX11_stood_38
theorem shX11_stood_42 : cX11_stood.data.toList.drop 42 = sxX11_stood_42 := dSn 3 shX11_stood_39
theorem shX11_stood_44 : cX11_stood.data.toList.drop 44 = sxX11_stood_44 := dSn 2 shX11_stood_42
theorem shX11_stood_47 : cX11_stood.data.toList.drop 47 = sxX11_stood_47 := dSn 3 shX11_stood_44
theorem shX11_stood_48 : cX11_stood.data.toList.drop 48 = sxX11_stood_48 := dSn 1 shX11_stood_47
theorem shX11_stood_51 : cX11_stood.data.toList.drop 51 = sxX11_stood_51 := dSn 3 shX11_stood_48
theorem dX11_stood_0 : decode cX11_stood 0 = .ok (.iload_n 1, 1) := oc_27 shX11_stood_0
theorem dX11_stood_1 : decode cX11_stood 1 = .ok (.iconst 0, 1) := oc_3 shX11_stood_1
theorem dX11_stood_2 : decode cX11_stood 2 = .ok (.aload_n 0, 1) := oc_42 shX11_stood_2
theorem dX11_stood_3 : decode cX11_stood 3 = .ok (.getfield 502, 3) := oc_180 shX11_stood_3
theorem dX11_stood_6 : decode cX11_stood 6 = .ok (.iconst 1, 1) := oc_4 shX11_stood_6
theorem dX11_stood_7 : decode cX11_stood 7 = .ok (.isub, 1) := oc_100 shX11_stood_7
theorem dX11_stood_8 : decode cX11_stood 8 = .ok (.invokestatic 80, 3) := oc_184 shX11_stood_8
theorem dX11_stood_11 : decode cX11_stood 11 = .ok (.ifCond .eq 10, 3) := oc_153 shX11_stood_11 sgw_0_10
theorem dX11_stood_14 : decode cX11_stood 14 = .ok (.iload_n 2, 1) := oc_28 shX11_stood_14
theorem dX11_stood_15 : decode cX11_stood 15 = .ok (.invokestatic 99, 3) := oc_184 shX11_stood_15
theorem dX11_stood_18 : decode cX11_stood 18 = .ok (.ifCond .ne 5, 3) := oc_154 shX11_stood_18 sgw_0_5
theorem dX11_stood_23 : decode cX11_stood 23 = .ok (.aload_n 0, 1) := oc_42 shX11_stood_23
theorem dX11_stood_24 : decode cX11_stood 24 = .ok (.iload_n 1, 1) := oc_27 shX11_stood_24
theorem dX11_stood_25 : decode cX11_stood 25 = .ok (.iload_n 2, 1) := oc_28 shX11_stood_25
theorem dX11_stood_26 : decode cX11_stood 26 = .ok (.invokevirtual 509, 3) := oc_182 shX11_stood_26
theorem dX11_stood_29 : decode cX11_stood 29 = .ok (.astore_n 3, 1) := oc_78 shX11_stood_29
theorem dX11_stood_30 : decode cX11_stood 30 = .ok (.aload_n 3, 1) := oc_45 shX11_stood_30
theorem dX11_stood_31 : decode cX11_stood 31 = .ok (.ifnull 11, 3) := oc_198 shX11_stood_31 sgw_0_11
theorem dX11_stood_34 : decode cX11_stood 34 = .ok (.aload_n 3, 1) := oc_45 shX11_stood_34
theorem dX11_stood_35 : decode cX11_stood 35 = .ok (.getfield 516, 3) := oc_180 shX11_stood_35
theorem dX11_stood_38 : decode cX11_stood 38 = .ok (.iconst (-1), 1) := oc_2 shX11_stood_38
theorem dX11_stood_39 : decode cX11_stood 39 = .ok (.if_icmp .ne 8, 3) := oc_160 shX11_stood_39 sgw_0_8
theorem dX11_stood_47 : decode cX11_stood 47 = .ok (.aload_n 3, 1) := oc_45 shX11_stood_47
theorem dX11_stood_48 : decode cX11_stood 48 = .ok (.getfield 516, 3) := oc_180 shX11_stood_48
theorem dX11_stood_51 : decode cX11_stood 51 = .ok (.ireturn, 1) := oc_172 shX11_stood_51
theorem dX11_stood_42 : decode cX11_stood 42 = .ok (.bipush (-2), 2) := oc_16 shX11_stood_42 sgb_254
theorem dX11_stood_44 : decode cX11_stood 44 = .ok (.goto 7, 3) := oc_167 shX11_stood_44 sgw_0_7
theorem dX11_stood_21 : decode cX11_stood 21 = .ok (.iconst (-1), 1) := oc_2 shX11_stood_21
theorem dX11_stood_22 : decode cX11_stood 22 = .ok (.ireturn, 1) := oc_172 shX11_stood_22
noncomputable def sxX11_stale_94 : List UInt8 := []
noncomputable def sxX11_stale_93 : List UInt8 := 172 :: sxX11_stale_94
noncomputable def sxX11_stale_92 : List UInt8 := 28 :: sxX11_stale_93
noncomputable def sxX11_stale_89 : List UInt8 := 167 :: 255 :: 184 :: sxX11_stale_92
noncomputable def sxX11_stale_86 : List UInt8 := 132 :: 3 :: 1 :: sxX11_stale_89
noncomputable def sxX11_stale_85 : List UInt8 := 61 :: sxX11_stale_86
noncomputable def sxX11_stale_84 : List UInt8 := 128 :: sxX11_stale_85
noncomputable def sxX11_stale_83 : List UInt8 := 3 :: sxX11_stale_84
noncomputable def sxX11_stale_80 : List UInt8 := 167 :: 0 :: 4 :: sxX11_stale_83
noncomputable def sxX11_stale_79 : List UInt8 := 120 :: sxX11_stale_80
noncomputable def sxX11_stale_78 : List UInt8 := 29 :: sxX11_stale_79
noncomputable def sxX11_stale_77 : List UInt8 := 4 :: sxX11_stale_78
noncomputable def sxX11_stale_74 : List UInt8 := 161 :: 0 :: 9 :: sxX11_stale_77
noncomputable def sxX11_stale_73 : List UInt8 := 27 :: sxX11_stale_74
noncomputable def sxX11_stale_72 : List UInt8 := 100 :: sxX11_stale_73
noncomputable def sxX11_stale_69 : List UInt8 := 180 :: 1 :: 252 :: sxX11_stale_72
noncomputable def sxX11_stale_67 : List UInt8 := 25 :: 4 :: sxX11_stale_69
noncomputable def sxX11_stale_64 : List UInt8 := 180 :: 0 :: 103 :: sxX11_stale_67
noncomputable def sxX11_stale_63 : List UInt8 := 42 :: sxX11_stale_64
noncomputable def sxX11_stale_60 : List UInt8 := 153 :: 0 :: 23 :: sxX11_stale_63
noncomputable def sxX11_stale_58 : List UInt8 := 21 :: 5 :: sxX11_stale_60
noncomputable def sxX11_stale_57 : List UInt8 := 28 :: sxX11_stale_58
noncomputable def sxX11_stale_55 : List UInt8 := 54 :: 5 :: sxX11_stale_57
noncomputable def sxX11_stale_54 : List UInt8 := 3 :: sxX11_stale_55
noncomputable def sxX11_stale_51 : List UInt8 := 167 :: 0 :: 4 :: sxX11_stale_54
noncomputable def sxX11_stale_50 : List UInt8 := 4 :: sxX11_stale_51
noncomputable def sxX11_stale_47 : List UInt8 := 159 :: 0 :: 7 :: sxX11_stale_50
noncomputable def sxX11_stale_46 : List UInt8 := 2 :: sxX11_stale_47
noncomputable def sxX11_stale_43 : List UInt8 := 180 :: 2 :: 4 :: sxX11_stale_46
noncomputable def sxX11_stale_41 : List UInt8 := 25 :: 4 :: sxX11_stale_43
noncomputable def sxX11_stale_38 : List UInt8 := 198 :: 0 :: 16 :: sxX11_stale_41
noncomputable def sxX11_stale_36 : List UInt8 := 25 :: 4 :: sxX11_stale_38
noncomputable def sxX11_stale_34 : List UInt8 := 58 :: 4 :: sxX11_stale_36
noncomputable def sxX11_stale_31 : List UInt8 := 182 :: 1 :: 253 :: sxX11_stale_34
noncomputable def sxX11_stale_28 : List UInt8 := 180 :: 0 :: 103 :: sxX11_stale_31
noncomputable def sxX11_stale_27 : List UInt8 := 42 :: sxX11_stale_28
noncomputable def sxX11_stale_26 : List UInt8 := 29 :: sxX11_stale_27
noncomputable def sxX11_stale_25 : List UInt8 := 42 :: sxX11_stale_26
noncomputable def sxX11_stale_22 : List UInt8 := 162 :: 0 :: 70 :: sxX11_stale_25
noncomputable def sxX11_stale_19 : List UInt8 := 180 :: 1 :: 246 :: sxX11_stale_22
noncomputable def sxX11_stale_18 : List UInt8 := 42 :: sxX11_stale_19
noncomputable def sxX11_stale_17 : List UInt8 := 29 :: sxX11_stale_18
noncomputable def sxX11_stale_16 : List UInt8 := 62 :: sxX11_stale_17
noncomputable def sxX11_stale_15 : List UInt8 := 3 :: sxX11_stale_16
noncomputable def sxX11_stale_14 : List UInt8 := 61 :: sxX11_stale_15
noncomputable def sxX11_stale_13 : List UInt8 := 3 :: sxX11_stale_14
noncomputable def sxX11_stale_12 : List UInt8 := 172 :: sxX11_stale_13
noncomputable def sxX11_stale_11 : List UInt8 := 2 :: sxX11_stale_12
noncomputable def sxX11_stale_8 : List UInt8 := 154 :: 0 :: 5 :: sxX11_stale_11
noncomputable def sxX11_stale_5 : List UInt8 := 184 :: 0 :: 80 :: sxX11_stale_8
noncomputable def sxX11_stale_2 : List UInt8 := 17 :: 1 :: 143 :: sxX11_stale_5
noncomputable def sxX11_stale_1 : List UInt8 := 3 :: sxX11_stale_2
noncomputable def sxX11_stale_0 : List UInt8 := 27 :: sxX11_stale_1
theorem shX11_stale_0 : cX11_stale.data.toList.drop 0 = sxX11_stale_0 := rfl
theorem shX11_stale_1 : cX11_stale.data.toList.drop 1 = sxX11_stale_1 := dSn 1 shX11_stale_0
theorem shX11_stale_2 : cX11_stale.data.toList.drop 2 = sxX11_stale_2 := dSn 1 shX11_stale_1
theorem shX11_stale_5 : cX11_stale.data.toList.drop 5 = sxX11_stale_5 := dSn 3 shX11_stale_2
theorem shX11_stale_8 : cX11_stale.data.toList.drop 8 = sxX11_stale_8 := dSn 3 shX11_stale_5
theorem shX11_stale_11 : cX11_stale.data.toList.drop 11 = sxX11_stale_11 := dSn 3 shX11_stale_8
theorem shX11_stale_12 : cX11_stale.data.toList.drop 12 = sxX11_stale_12 := dSn 1 shX11_stale_11
theorem shX11_stale_13 : cX11_stale.data.toList.drop 13 = sxX11_stale_13 := dSn 1 shX11_stale_12
theorem shX11_stale_14 : cX11_stale.data.toList.drop 14 = sxX11_stale_14 := dSn 1 shX11_stale_13
theorem shX11_stale_15 : cX11_stale.data.toList.drop 15 = sxX11_stale_15 := dSn 1 shX11_stale_14
theorem shX11_stale_16 : cX11_stale.data.toList.drop 16 = sxX11_stale_16 := dSn 1 shX11_stale_15
theorem shX11_stale_17 : cX11_stale.data.toList.drop 17 = sxX11_stale_17 := dSn 1 shX11_stale_16
theorem shX11_stale_18 : cX11_stale.data.toList.drop 18 = sxX11_stale_18 := dSn 1 shX11_stale_17
theorem shX11_stale_19 : cX11_stale.data.toList.drop 19 = sxX11_stale_19 := dSn 1 shX11_stale_18
theorem shX11_stale_22 : cX11_stale.data.toList.drop 22 = sxX11_stale_22 := dSn 3 shX11_stale_19
theorem shX11_stale_25 : cX11_stale.data.toList.drop 25 = sxX11_stale_25 := dSn 3 shX11_stale_22
theorem shX11_stale_26 : cX11_stale.data.toList.drop 26 = sxX11_stale_26 := dSn 1 shX11_stale_25
theorem shX11_stale_27 : cX11_stale.data.toList.drop 27 = sxX11_stale_27 := dSn 1 shX11_stale_26
theorem shX11_stale_28 : cX11_stale.data.toList.drop 28 = sxX11_stale_28 := dSn 1 shX11_stale_27
theorem shX11_stale_31 : cX11_stale.data.toList.drop 31 = sxX11_stale_31 := dSn 3 shX11_stale_28
theorem shX11_stale_34 : cX11_stale.data.toList.drop 34 = sxX11_stale_34 := dSn 3 shX11_stale_31
theorem shX11_stale_36 : cX11_stale.data.toList.drop 36 = sxX11_stale_36 := dSn 2 shX11_stale_34
theorem shX11_stale_38 : cX11_stale.data.toList.drop 38 = sxX11_stale_38 := dSn 2 shX11_stale_36
theorem shX11_stale_41 : cX11_stale.data.toList.drop 41 = sxX11_stale_41 := dSn 3 shX11_stale_38
theorem shX11_stale_43 : cX11_stale.data.toList.drop 43 = sxX11_stale_43 := dSn 2 shX11_stale_41
theorem shX11_stale_46 : cX11_stale.data.toList.drop 46 = sxX11_stale_46 := dSn 3 shX11_stale_43
theorem shX11_stale_47 : cX11_stale.data.toList.drop 47 = sxX11_stale_47 := dSn 1 shX11_stale_46
theorem shX11_stale_50 : cX11_stale.data.toList.drop 50 = sxX11_stale_50 := dSn 3 shX11_stale_47
theorem shX11_stale_51 : cX11_stale.data.toList.drop 51 = sxX11_stale_51 := dSn 1 shX11_stale_50
theorem shX11_stale_54 : cX11_stale.data.toList.drop 54 = sxX11_stale_54 := dSn 3 shX11_stale_51
theorem shX11_stale_55 : cX11_stale.data.toList.drop 55 = sxX11_stale_55 := dSn 1 shX11_stale_54
theorem shX11_stale_57 : cX11_stale.data.toList.drop 57 = sxX11_stale_57 := dSn 2 shX11_stale_55
theorem shX11_stale_58 : cX11_stale.data.toList.drop 58 = sxX11_stale_58 := dSn 1 shX11_stale_57
theorem shX11_stale_60 : cX11_stale.data.toList.drop 60 = sxX11_stale_60 := dSn 2 shX11_stale_58
theorem shX11_stale_63 : cX11_stale.data.toList.drop 63 = sxX11_stale_63 := dSn 3 shX11_stale_60
theorem shX11_stale_64 : cX11_stale.data.toList.drop 64 = sxX11_stale_64 := dSn 1 shX11_stale_63
theorem shX11_stale_67 : cX11_stale.data.toList.drop 67 = sxX11_stale_67 := dSn 3 shX11_stale_64
theorem shX11_stale_69 : cX11_stale.data.toList.drop 69 = sxX11_stale_69 := dSn 2 shX11_stale_67
theorem shX11_stale_72 : cX11_stale.data.toList.drop 72 = sxX11_stale_72 := dSn 3 shX11_stale_69
theorem shX11_stale_73 : cX11_stale.data.toList.drop 73 = sxX11_stale_73 := dSn 1 shX11_stale_72
theorem shX11_stale_74 : cX11_stale.data.toList.drop 74 = sxX11_stale_74 := dSn 1 shX11_stale_73
theorem shX11_stale_77 : cX11_stale.data.toList.drop 77 = sxX11_stale_77 := dSn 3 shX11_stale_74
theorem shX11_stale_78 : cX11_stale.data.toList.drop 78 = sxX11_stale_78 := dSn 1 shX11_stale_77
theorem shX11_stale_79 : cX11_stale.data.toList.drop 79 = sxX11_stale_79 := dSn 1 shX11_stale_78
theorem shX11_stale_80 : cX11_stale.data.toList.drop 80 = sxX11_stale_80 := dSn 1 shX11_stale_79
theorem shX11_stale_83 : cX11_stale.data.toList.drop 83 = sxX11_stale_83 := dSn 3 shX11_stale_80
theorem shX11_stale_84 : cX11_stale.data.toList.drop 84 = sxX11_stale_84 := dSn 1 shX11_stale_83
theorem shX11_stale_85 : cX11_stale.data.toList.drop 85 = sxX11_stale_85 := dSn 1 shX11_stale_84
theorem shX11_stale_86 : cX11_stale.data.toList.drop 86 = sxX11_stale_86 := dSn 1 shX11_stale_85
theorem shX11_stale_89 : cX11_stale.data.toList.drop 89 = sxX11_stale_89 := dSn 3 shX11_stale_86
theorem shX11_stale_92 : cX11_stale.data.toList.drop 92 = sxX11_stale_92 := dSn 3 shX11_stale_89
theorem shX11_stale_93 : cX11_stale.data.toList.drop 93 = sxX11_stale_93 := dSn 1 shX11_stale_92
theorem dX11_stale_0 : decode cX11_stale 0 = .ok (.iload_n 1, 1) := oc_27 shX11_stale_0
theorem dX11_stale_1 : decode cX11_stale 1 = .ok (.iconst 0, 1) := oc_3 shX11_stale_1
theorem dX11_stale_2 : decode cX11_stale 2 = .ok (.sipush 399, 3) := oc_17 shX11_stale_2 sgw_1_143
theorem dX11_stale_5 : decode cX11_stale 5 = .ok (.invokestatic 80, 3) := oc_184 shX11_stale_5
theorem dX11_stale_8 : decode cX11_stale 8 = .ok (.ifCond .ne 5, 3) := oc_154 shX11_stale_8 sgw_0_5
theorem dX11_stale_13 : decode cX11_stale 13 = .ok (.iconst 0, 1) := oc_3 shX11_stale_13
theorem dX11_stale_14 : decode cX11_stale 14 = .ok (.istore_n 2, 1) := oc_61 shX11_stale_14
theorem dX11_stale_15 : decode cX11_stale 15 = .ok (.iconst 0, 1) := oc_3 shX11_stale_15
theorem dX11_stale_16 : decode cX11_stale 16 = .ok (.istore_n 3, 1) := oc_62 shX11_stale_16
theorem dX11_stale_17 : decode cX11_stale 17 = .ok (.iload_n 3, 1) := oc_29 shX11_stale_17
theorem dX11_stale_18 : decode cX11_stale 18 = .ok (.aload_n 0, 1) := oc_42 shX11_stale_18
theorem dX11_stale_19 : decode cX11_stale 19 = .ok (.getfield 502, 3) := oc_180 shX11_stale_19
theorem dX11_stale_22 : decode cX11_stale 22 = .ok (.if_icmp .ge 70, 3) := oc_162 shX11_stale_22 sgw_0_70
theorem dX11_stale_92 : decode cX11_stale 92 = .ok (.iload_n 2, 1) := oc_28 shX11_stale_92
theorem dX11_stale_93 : decode cX11_stale 93 = .ok (.ireturn, 1) := oc_172 shX11_stale_93
theorem dX11_stale_25 : decode cX11_stale 25 = .ok (.aload_n 0, 1) := oc_42 shX11_stale_25
theorem dX11_stale_26 : decode cX11_stale 26 = .ok (.iload_n 3, 1) := oc_29 shX11_stale_26
theorem dX11_stale_27 : decode cX11_stale 27 = .ok (.aload_n 0, 1) := oc_42 shX11_stale_27
theorem dX11_stale_28 : decode cX11_stale 28 = .ok (.getfield 103, 3) := oc_180 shX11_stale_28
theorem dX11_stale_31 : decode cX11_stale 31 = .ok (.invokevirtual 509, 3) := oc_182 shX11_stale_31
theorem dX11_stale_34 : decode cX11_stale 34 = .ok (.astore 4, 2) := oc_58 shX11_stale_34
theorem dX11_stale_36 : decode cX11_stale 36 = .ok (.aload 4, 2) := oc_25 shX11_stale_36
theorem dX11_stale_38 : decode cX11_stale 38 = .ok (.ifnull 16, 3) := oc_198 shX11_stale_38 sgw_0_16
theorem dX11_stale_41 : decode cX11_stale 41 = .ok (.aload 4, 2) := oc_25 shX11_stale_41
theorem dX11_stale_43 : decode cX11_stale 43 = .ok (.getfield 516, 3) := oc_180 shX11_stale_43
theorem dX11_stale_46 : decode cX11_stale 46 = .ok (.iconst (-1), 1) := oc_2 shX11_stale_46
theorem dX11_stale_47 : decode cX11_stale 47 = .ok (.if_icmp .eq 7, 3) := oc_159 shX11_stale_47 sgw_0_7
theorem dX11_stale_54 : decode cX11_stale 54 = .ok (.iconst 0, 1) := oc_3 shX11_stale_54
theorem dX11_stale_55 : decode cX11_stale 55 = .ok (.istore 5, 2) := oc_54 shX11_stale_55
theorem dX11_stale_57 : decode cX11_stale 57 = .ok (.iload_n 2, 1) := oc_28 shX11_stale_57
theorem dX11_stale_58 : decode cX11_stale 58 = .ok (.iload 5, 2) := oc_21 shX11_stale_58
theorem dX11_stale_60 : decode cX11_stale 60 = .ok (.ifCond .eq 23, 3) := oc_153 shX11_stale_60 sgw_0_23
theorem dX11_stale_83 : decode cX11_stale 83 = .ok (.iconst 0, 1) := oc_3 shX11_stale_83
theorem dX11_stale_84 : decode cX11_stale 84 = .ok (.ior, 1) := oc_128 shX11_stale_84
theorem dX11_stale_85 : decode cX11_stale 85 = .ok (.istore_n 2, 1) := oc_61 shX11_stale_85
theorem dX11_stale_86 : decode cX11_stale 86 = .ok (.iinc 3 1, 3) := oc_132 shX11_stale_86 sgb_1
theorem dX11_stale_89 : decode cX11_stale 89 = .ok (.goto (-72), 3) := oc_167 shX11_stale_89 sgw_255_184
theorem dX11_stale_50 : decode cX11_stale 50 = .ok (.iconst 1, 1) := oc_4 shX11_stale_50
theorem dX11_stale_51 : decode cX11_stale 51 = .ok (.goto 4, 3) := oc_167 shX11_stale_51 sgw_0_4
theorem dX11_stale_63 : decode cX11_stale 63 = .ok (.aload_n 0, 1) := oc_42 shX11_stale_63
theorem dX11_stale_64 : decode cX11_stale 64 = .ok (.getfield 103, 3) := oc_180 shX11_stale_64
theorem dX11_stale_67 : decode cX11_stale 67 = .ok (.aload 4, 2) := oc_25 shX11_stale_67
theorem dX11_stale_69 : decode cX11_stale 69 = .ok (.getfield 508, 3) := oc_180 shX11_stale_69
theorem dX11_stale_72 : decode cX11_stale 72 = .ok (.isub, 1) := oc_100 shX11_stale_72
theorem dX11_stale_73 : decode cX11_stale 73 = .ok (.iload_n 1, 1) := oc_27 shX11_stale_73
theorem dX11_stale_74 : decode cX11_stale 74 = .ok (.if_icmp .lt 9, 3) := oc_161 shX11_stale_74 sgw_0_9
theorem dX11_stale_77 : decode cX11_stale 77 = .ok (.iconst 1, 1) := oc_4 shX11_stale_77
theorem dX11_stale_78 : decode cX11_stale 78 = .ok (.iload_n 3, 1) := oc_29 shX11_stale_78
theorem dX11_stale_79 : decode cX11_stale 79 = .ok (.ishl, 1) := oc_120 shX11_stale_79
theorem dX11_stale_80 : decode cX11_stale 80 = .ok (.goto 4, 3) := oc_167 shX11_stale_80 sgw_0_4
theorem dX11_stale_11 : decode cX11_stale 11 = .ok (.iconst (-1), 1) := oc_2 shX11_stale_11
theorem dX11_stale_12 : decode cX11_stale 12 = .ok (.ireturn, 1) := oc_172 shX11_stale_12
noncomputable def sxX11_stopsOf_67 : List UInt8 := []
noncomputable def sxX11_stopsOf_66 : List UInt8 := 172 :: sxX11_stopsOf_67
noncomputable def sxX11_stopsOf_65 : List UInt8 := 29 :: sxX11_stopsOf_66
noncomputable def sxX11_stopsOf_62 : List UInt8 := 167 :: 255 :: 210 :: sxX11_stopsOf_65
noncomputable def sxX11_stopsOf_59 : List UInt8 := 132 :: 5 :: 255 :: sxX11_stopsOf_62
noncomputable def sxX11_stopsOf_57 : List UInt8 := 54 :: 4 :: sxX11_stopsOf_59
noncomputable def sxX11_stopsOf_56 : List UInt8 := 108 :: sxX11_stopsOf_57
noncomputable def sxX11_stopsOf_53 : List UInt8 := 180 :: 1 :: 55 :: sxX11_stopsOf_56
noncomputable def sxX11_stopsOf_52 : List UInt8 := 42 :: sxX11_stopsOf_53
noncomputable def sxX11_stopsOf_50 : List UInt8 := 21 :: 4 :: sxX11_stopsOf_52
noncomputable def sxX11_stopsOf_49 : List UInt8 := 62 :: sxX11_stopsOf_50
noncomputable def sxX11_stopsOf_48 : List UInt8 := 128 :: sxX11_stopsOf_49
noncomputable def sxX11_stopsOf_47 : List UInt8 := 3 :: sxX11_stopsOf_48
noncomputable def sxX11_stopsOf_44 : List UInt8 := 167 :: 0 :: 4 :: sxX11_stopsOf_47
noncomputable def sxX11_stopsOf_43 : List UInt8 := 120 :: sxX11_stopsOf_44
noncomputable def sxX11_stopsOf_41 : List UInt8 := 21 :: 5 :: sxX11_stopsOf_43
noncomputable def sxX11_stopsOf_40 : List UInt8 := 4 :: sxX11_stopsOf_41
noncomputable def sxX11_stopsOf_37 : List UInt8 := 160 :: 0 :: 10 :: sxX11_stopsOf_40
noncomputable def sxX11_stopsOf_36 : List UInt8 := 28 :: sxX11_stopsOf_37
noncomputable def sxX11_stopsOf_35 : List UInt8 := 112 :: sxX11_stopsOf_36
noncomputable def sxX11_stopsOf_32 : List UInt8 := 180 :: 1 :: 55 :: sxX11_stopsOf_35
noncomputable def sxX11_stopsOf_31 : List UInt8 := 42 :: sxX11_stopsOf_32
noncomputable def sxX11_stopsOf_29 : List UInt8 := 21 :: 4 :: sxX11_stopsOf_31
noncomputable def sxX11_stopsOf_28 : List UInt8 := 29 :: sxX11_stopsOf_29
noncomputable def sxX11_stopsOf_25 : List UInt8 := 158 :: 0 :: 40 :: sxX11_stopsOf_28
noncomputable def sxX11_stopsOf_22 : List UInt8 := 180 :: 1 :: 55 :: sxX11_stopsOf_25
noncomputable def sxX11_stopsOf_21 : List UInt8 := 42 :: sxX11_stopsOf_22
noncomputable def sxX11_stopsOf_18 : List UInt8 := 155 :: 0 :: 47 :: sxX11_stopsOf_21
noncomputable def sxX11_stopsOf_16 : List UInt8 := 21 :: 5 :: sxX11_stopsOf_18
noncomputable def sxX11_stopsOf_14 : List UInt8 := 54 :: 5 :: sxX11_stopsOf_16
noncomputable def sxX11_stopsOf_13 : List UInt8 := 100 :: sxX11_stopsOf_14
noncomputable def sxX11_stopsOf_12 : List UInt8 := 4 :: sxX11_stopsOf_13
noncomputable def sxX11_stopsOf_9 : List UInt8 := 180 :: 1 :: 11 :: sxX11_stopsOf_12
noncomputable def sxX11_stopsOf_6 : List UInt8 := 180 :: 0 :: 54 :: sxX11_stopsOf_9
noncomputable def sxX11_stopsOf_5 : List UInt8 := 42 :: sxX11_stopsOf_6
noncomputable def sxX11_stopsOf_3 : List UInt8 := 54 :: 4 :: sxX11_stopsOf_5
noncomputable def sxX11_stopsOf_2 : List UInt8 := 27 :: sxX11_stopsOf_3
noncomputable def sxX11_stopsOf_1 : List UInt8 := 62 :: sxX11_stopsOf_2
noncomputable def sxX11_stopsOf_0 : List UInt8 := 3 :: sxX11_stopsOf_1
theorem shX11_stopsOf_0 : cX11_stopsOf.data.toList.drop 0 = sxX11_stopsOf_0 := rfl
theorem shX11_stopsOf_1 : cX11_stopsOf.data.toList.drop 1 = sxX11_stopsOf_1 := dSn 1 shX11_stopsOf_0
theorem shX11_stopsOf_2 : cX11_stopsOf.data.toList.drop 2 = sxX11_stopsOf_2 := dSn 1 shX11_stopsOf_1
theorem shX11_stopsOf_3 : cX11_stopsOf.data.toList.drop 3 = sxX11_stopsOf_3 := dSn 1 shX11_stopsOf_2
theorem shX11_stopsOf_5 : cX11_stopsOf.data.toList.drop 5 = sxX11_stopsOf_5 := dSn 2 shX11_stopsOf_3
theorem shX11_stopsOf_6 : cX11_stopsOf.data.toList.drop 6 = sxX11_stopsOf_6 := dSn 1 shX11_stopsOf_5
theorem shX11_stopsOf_9 : cX11_stopsOf.data.toList.drop 9 = sxX11_stopsOf_9 := dSn 3 shX11_stopsOf_6
theorem shX11_stopsOf_12 : cX11_stopsOf.data.toList.drop 12 = sxX11_stopsOf_12 := dSn 3 shX11_stopsOf_9
theorem shX11_stopsOf_13 : cX11_stopsOf.data.toList.drop 13 = sxX11_stopsOf_13 := dSn 1 shX11_stopsOf_12
theorem shX11_stopsOf_14 : cX11_stopsOf.data.toList.drop 14 = sxX11_stopsOf_14 := dSn 1 shX11_stopsOf_13
theorem shX11_stopsOf_16 : cX11_stopsOf.data.toList.drop 16 = sxX11_stopsOf_16 := dSn 2 shX11_stopsOf_14
theorem shX11_stopsOf_18 : cX11_stopsOf.data.toList.drop 18 = sxX11_stopsOf_18 := dSn 2 shX11_stopsOf_16
theorem shX11_stopsOf_21 : cX11_stopsOf.data.toList.drop 21 = sxX11_stopsOf_21 := dSn 3 shX11_stopsOf_18
theorem shX11_stopsOf_22 : cX11_stopsOf.data.toList.drop 22 = sxX11_stopsOf_22 := dSn 1 shX11_stopsOf_21
theorem shX11_stopsOf_25 : cX11_stopsOf.data.toList.drop 25 = sxX11_stopsOf_25 := dSn 3 shX11_stopsOf_22
theorem shX11_stopsOf_28 : cX11_stopsOf.data.toList.drop 28 = sxX11_stopsOf_28 := dSn 3 shX11_stopsOf_25
theorem shX11_stopsOf_29 : cX11_stopsOf.data.toList.drop 29 = sxX11_stopsOf_29 := dSn 1 shX11_stopsOf_28
theorem shX11_stopsOf_31 : cX11_stopsOf.data.toList.drop 31 = sxX11_stopsOf_31 := dSn 2 shX11_stopsOf_29
theorem shX11_stopsOf_32 : cX11_stopsOf.data.toList.drop 32 = sxX11_stopsOf_32 := dSn 1 shX11_stopsOf_31
theorem shX11_stopsOf_35 : cX11_stopsOf.data.toList.drop 35 = sxX11_stopsOf_35 := dSn 3 shX11_stopsOf_32
theorem shX11_stopsOf_36 : cX11_stopsOf.data.toList.drop 36 = sxX11_stopsOf_36 := dSn 1 shX11_stopsOf_35
theorem shX11_stopsOf_37 : cX11_stopsOf.data.toList.drop 37 = sxX11_stopsOf_37 := dSn 1 shX11_stopsOf_36
theorem shX11_stopsOf_40 : cX11_stopsOf.data.toList.drop 40 = sxX11_stopsOf_40 := dSn 3 shX11_stopsOf_37
theorem shX11_stopsOf_41 : cX11_stopsOf.data.toList.drop 41 = sxX11_stopsOf_41 := dSn 1 shX11_stopsOf_40
theorem shX11_stopsOf_43 : cX11_stopsOf.data.toList.drop 43 = sxX11_stopsOf_43 := dSn 2 shX11_stopsOf_41
theorem shX11_stopsOf_44 : cX11_stopsOf.data.toList.drop 44 = sxX11_stopsOf_44 := dSn 1 shX11_stopsOf_43
theorem shX11_stopsOf_47 : cX11_stopsOf.data.toList.drop 47 = sxX11_stopsOf_47 := dSn 3 shX11_stopsOf_44
theorem shX11_stopsOf_48 : cX11_stopsOf.data.toList.drop 48 = sxX11_stopsOf_48 := dSn 1 shX11_stopsOf_47
theorem shX11_stopsOf_49 : cX11_stopsOf.data.toList.drop 49 = sxX11_stopsOf_49 := dSn 1 shX11_stopsOf_48
theorem shX11_stopsOf_50 : cX11_stopsOf.data.toList.drop 50 = sxX11_stopsOf_50 := dSn 1 shX11_stopsOf_49
theorem shX11_stopsOf_52 : cX11_stopsOf.data.toList.drop 52 = sxX11_stopsOf_52 := dSn 2 shX11_stopsOf_50
theorem shX11_stopsOf_53 : cX11_stopsOf.data.toList.drop 53 = sxX11_stopsOf_53 := dSn 1 shX11_stopsOf_52
theorem shX11_stopsOf_56 : cX11_stopsOf.data.toList.drop 56 = sxX11_stopsOf_56 := dSn 3 shX11_stopsOf_53
theorem shX11_stopsOf_57 : cX11_stopsOf.data.toList.drop 57 = sxX11_stopsOf_57 := dSn 1 shX11_stopsOf_56
theorem shX11_stopsOf_59 : cX11_stopsOf.data.toList.drop 59 = sxX11_stopsOf_59 := dSn 2 shX11_stopsOf_57
theorem shX11_stopsOf_62 : cX11_stopsOf.data.toList.drop 62 = sxX11_stopsOf_62 := dSn 3 shX11_stopsOf_59
theorem shX11_stopsOf_65 : cX11_stopsOf.data.toList.drop 65 = sxX11_stopsOf_65 := dSn 3 shX11_stopsOf_62
theorem shX11_stopsOf_66 : cX11_stopsOf.data.toList.drop 66 = sxX11_stopsOf_66 := dSn 1 shX11_stopsOf_65
theorem dX11_stopsOf_0 : decode cX11_stopsOf 0 = .ok (.iconst 0, 1) := oc_3 shX11_stopsOf_0
theorem dX11_stopsOf_1 : decode cX11_stopsOf 1 = .ok (.istore_n 3, 1) := oc_62 shX11_stopsOf_1
theorem dX11_stopsOf_2 : decode cX11_stopsOf 2 = .ok (.iload_n 1, 1) := oc_27 shX11_stopsOf_2
theorem dX11_stopsOf_3 : decode cX11_stopsOf 3 = .ok (.istore 4, 2) := oc_54 shX11_stopsOf_3
theorem dX11_stopsOf_5 : decode cX11_stopsOf 5 = .ok (.aload_n 0, 1) := oc_42 shX11_stopsOf_5
theorem dX11_stopsOf_6 : decode cX11_stopsOf 6 = .ok (.getfield 54, 3) := oc_180 shX11_stopsOf_6
theorem dX11_stopsOf_9 : decode cX11_stopsOf 9 = .ok (.getfield 267, 3) := oc_180 shX11_stopsOf_9
theorem dX11_stopsOf_12 : decode cX11_stopsOf 12 = .ok (.iconst 1, 1) := oc_4 shX11_stopsOf_12
theorem dX11_stopsOf_13 : decode cX11_stopsOf 13 = .ok (.isub, 1) := oc_100 shX11_stopsOf_13
theorem dX11_stopsOf_14 : decode cX11_stopsOf 14 = .ok (.istore 5, 2) := oc_54 shX11_stopsOf_14
theorem dX11_stopsOf_16 : decode cX11_stopsOf 16 = .ok (.iload 5, 2) := oc_21 shX11_stopsOf_16
theorem dX11_stopsOf_18 : decode cX11_stopsOf 18 = .ok (.ifCond .lt 47, 3) := oc_155 shX11_stopsOf_18 sgw_0_47
theorem dX11_stopsOf_65 : decode cX11_stopsOf 65 = .ok (.iload_n 3, 1) := oc_29 shX11_stopsOf_65
theorem dX11_stopsOf_66 : decode cX11_stopsOf 66 = .ok (.ireturn, 1) := oc_172 shX11_stopsOf_66
theorem dX11_stopsOf_21 : decode cX11_stopsOf 21 = .ok (.aload_n 0, 1) := oc_42 shX11_stopsOf_21
theorem dX11_stopsOf_22 : decode cX11_stopsOf 22 = .ok (.getfield 311, 3) := oc_180 shX11_stopsOf_22
theorem dX11_stopsOf_25 : decode cX11_stopsOf 25 = .ok (.ifCond .le 40, 3) := oc_158 shX11_stopsOf_25 sgw_0_40
theorem dX11_stopsOf_28 : decode cX11_stopsOf 28 = .ok (.iload_n 3, 1) := oc_29 shX11_stopsOf_28
theorem dX11_stopsOf_29 : decode cX11_stopsOf 29 = .ok (.iload 4, 2) := oc_21 shX11_stopsOf_29
theorem dX11_stopsOf_31 : decode cX11_stopsOf 31 = .ok (.aload_n 0, 1) := oc_42 shX11_stopsOf_31
theorem dX11_stopsOf_32 : decode cX11_stopsOf 32 = .ok (.getfield 311, 3) := oc_180 shX11_stopsOf_32
theorem dX11_stopsOf_35 : decode cX11_stopsOf 35 = .ok (.irem, 1) := oc_112 shX11_stopsOf_35
theorem dX11_stopsOf_36 : decode cX11_stopsOf 36 = .ok (.iload_n 2, 1) := oc_28 shX11_stopsOf_36
theorem dX11_stopsOf_37 : decode cX11_stopsOf 37 = .ok (.if_icmp .ne 10, 3) := oc_160 shX11_stopsOf_37 sgw_0_10
theorem dX11_stopsOf_47 : decode cX11_stopsOf 47 = .ok (.iconst 0, 1) := oc_3 shX11_stopsOf_47
theorem dX11_stopsOf_48 : decode cX11_stopsOf 48 = .ok (.ior, 1) := oc_128 shX11_stopsOf_48
theorem dX11_stopsOf_49 : decode cX11_stopsOf 49 = .ok (.istore_n 3, 1) := oc_62 shX11_stopsOf_49
theorem dX11_stopsOf_50 : decode cX11_stopsOf 50 = .ok (.iload 4, 2) := oc_21 shX11_stopsOf_50
theorem dX11_stopsOf_52 : decode cX11_stopsOf 52 = .ok (.aload_n 0, 1) := oc_42 shX11_stopsOf_52
theorem dX11_stopsOf_53 : decode cX11_stopsOf 53 = .ok (.getfield 311, 3) := oc_180 shX11_stopsOf_53
theorem dX11_stopsOf_56 : decode cX11_stopsOf 56 = .ok (.idiv, 1) := oc_108 shX11_stopsOf_56
theorem dX11_stopsOf_57 : decode cX11_stopsOf 57 = .ok (.istore 4, 2) := oc_54 shX11_stopsOf_57
theorem dX11_stopsOf_59 : decode cX11_stopsOf 59 = .ok (.iinc 5 (-1), 3) := oc_132 shX11_stopsOf_59 sgb_255
theorem dX11_stopsOf_62 : decode cX11_stopsOf 62 = .ok (.goto (-46), 3) := oc_167 shX11_stopsOf_62 sgw_255_210
theorem dX11_stopsOf_40 : decode cX11_stopsOf 40 = .ok (.iconst 1, 1) := oc_4 shX11_stopsOf_40
theorem dX11_stopsOf_41 : decode cX11_stopsOf 41 = .ok (.iload 5, 2) := oc_21 shX11_stopsOf_41
theorem dX11_stopsOf_43 : decode cX11_stopsOf 43 = .ok (.ishl, 1) := oc_120 shX11_stopsOf_43
theorem dX11_stopsOf_44 : decode cX11_stopsOf 44 = .ok (.goto 4, 3) := oc_167 shX11_stopsOf_44 sgw_0_4
noncomputable def sxX11_lorryOf_63 : List UInt8 := []
noncomputable def sxX11_lorryOf_62 : List UInt8 := 172 :: sxX11_lorryOf_63
noncomputable def sxX11_lorryOf_61 : List UInt8 := 2 :: sxX11_lorryOf_62
noncomputable def sxX11_lorryOf_58 : List UInt8 := 167 :: 255 :: 211 :: sxX11_lorryOf_61
noncomputable def sxX11_lorryOf_55 : List UInt8 := 132 :: 4 :: 255 :: sxX11_lorryOf_58
noncomputable def sxX11_lorryOf_54 : List UInt8 := 62 :: sxX11_lorryOf_55
noncomputable def sxX11_lorryOf_53 : List UInt8 := 108 :: sxX11_lorryOf_54
noncomputable def sxX11_lorryOf_50 : List UInt8 := 180 :: 1 :: 55 :: sxX11_lorryOf_53
noncomputable def sxX11_lorryOf_49 : List UInt8 := 42 :: sxX11_lorryOf_50
noncomputable def sxX11_lorryOf_48 : List UInt8 := 29 :: sxX11_lorryOf_49
noncomputable def sxX11_lorryOf_47 : List UInt8 := 172 :: sxX11_lorryOf_48
noncomputable def sxX11_lorryOf_46 : List UInt8 := 112 :: sxX11_lorryOf_47
noncomputable def sxX11_lorryOf_43 : List UInt8 := 180 :: 1 :: 55 :: sxX11_lorryOf_46
noncomputable def sxX11_lorryOf_42 : List UInt8 := 42 :: sxX11_lorryOf_43
noncomputable def sxX11_lorryOf_41 : List UInt8 := 29 :: sxX11_lorryOf_42
noncomputable def sxX11_lorryOf_38 : List UInt8 := 160 :: 0 :: 10 :: sxX11_lorryOf_41
noncomputable def sxX11_lorryOf_37 : List UInt8 := 28 :: sxX11_lorryOf_38
noncomputable def sxX11_lorryOf_34 : List UInt8 := 184 :: 0 :: 192 :: sxX11_lorryOf_37
noncomputable def sxX11_lorryOf_32 : List UInt8 := 21 :: 4 :: sxX11_lorryOf_34
noncomputable def sxX11_lorryOf_29 : List UInt8 := 180 :: 1 :: 50 :: sxX11_lorryOf_32
noncomputable def sxX11_lorryOf_26 : List UInt8 := 180 :: 0 :: 54 :: sxX11_lorryOf_29
noncomputable def sxX11_lorryOf_25 : List UInt8 := 42 :: sxX11_lorryOf_26
noncomputable def sxX11_lorryOf_22 : List UInt8 := 158 :: 0 :: 39 :: sxX11_lorryOf_25
noncomputable def sxX11_lorryOf_19 : List UInt8 := 180 :: 1 :: 55 :: sxX11_lorryOf_22
noncomputable def sxX11_lorryOf_18 : List UInt8 := 42 :: sxX11_lorryOf_19
noncomputable def sxX11_lorryOf_15 : List UInt8 := 155 :: 0 :: 46 :: sxX11_lorryOf_18
noncomputable def sxX11_lorryOf_13 : List UInt8 := 21 :: 4 :: sxX11_lorryOf_15
noncomputable def sxX11_lorryOf_11 : List UInt8 := 54 :: 4 :: sxX11_lorryOf_13
noncomputable def sxX11_lorryOf_10 : List UInt8 := 100 :: sxX11_lorryOf_11
noncomputable def sxX11_lorryOf_9 : List UInt8 := 4 :: sxX11_lorryOf_10
noncomputable def sxX11_lorryOf_6 : List UInt8 := 180 :: 1 :: 11 :: sxX11_lorryOf_9
noncomputable def sxX11_lorryOf_3 : List UInt8 := 180 :: 0 :: 54 :: sxX11_lorryOf_6
noncomputable def sxX11_lorryOf_2 : List UInt8 := 42 :: sxX11_lorryOf_3
noncomputable def sxX11_lorryOf_1 : List UInt8 := 62 :: sxX11_lorryOf_2
noncomputable def sxX11_lorryOf_0 : List UInt8 := 27 :: sxX11_lorryOf_1
theorem shX11_lorryOf_0 : cX11_lorryOf.data.toList.drop 0 = sxX11_lorryOf_0 := rfl
theorem shX11_lorryOf_1 : cX11_lorryOf.data.toList.drop 1 = sxX11_lorryOf_1 := dSn 1 shX11_lorryOf_0
theorem shX11_lorryOf_2 : cX11_lorryOf.data.toList.drop 2 = sxX11_lorryOf_2 := dSn 1 shX11_lorryOf_1
theorem shX11_lorryOf_3 : cX11_lorryOf.data.toList.drop 3 = sxX11_lorryOf_3 := dSn 1 shX11_lorryOf_2
theorem shX11_lorryOf_6 : cX11_lorryOf.data.toList.drop 6 = sxX11_lorryOf_6 := dSn 3 shX11_lorryOf_3
theorem shX11_lorryOf_9 : cX11_lorryOf.data.toList.drop 9 = sxX11_lorryOf_9 := dSn 3 shX11_lorryOf_6
theorem shX11_lorryOf_10 : cX11_lorryOf.data.toList.drop 10 = sxX11_lorryOf_10 := dSn 1 shX11_lorryOf_9
theorem shX11_lorryOf_11 : cX11_lorryOf.data.toList.drop 11 = sxX11_lorryOf_11 := dSn 1 shX11_lorryOf_10
theorem shX11_lorryOf_13 : cX11_lorryOf.data.toList.drop 13 = sxX11_lorryOf_13 := dSn 2 shX11_lorryOf_11
theorem shX11_lorryOf_15 : cX11_lorryOf.data.toList.drop 15 = sxX11_lorryOf_15 := dSn 2 shX11_lorryOf_13
theorem shX11_lorryOf_18 : cX11_lorryOf.data.toList.drop 18 = sxX11_lorryOf_18 := dSn 3 shX11_lorryOf_15
theorem shX11_lorryOf_19 : cX11_lorryOf.data.toList.drop 19 = sxX11_lorryOf_19 := dSn 1 shX11_lorryOf_18
theorem shX11_lorryOf_22 : cX11_lorryOf.data.toList.drop 22 = sxX11_lorryOf_22 := dSn 3 shX11_lorryOf_19
theorem shX11_lorryOf_25 : cX11_lorryOf.data.toList.drop 25 = sxX11_lorryOf_25 := dSn 3 shX11_lorryOf_22
theorem shX11_lorryOf_26 : cX11_lorryOf.data.toList.drop 26 = sxX11_lorryOf_26 := dSn 1 shX11_lorryOf_25
theorem shX11_lorryOf_29 : cX11_lorryOf.data.toList.drop 29 = sxX11_lorryOf_29 := dSn 3 shX11_lorryOf_26
theorem shX11_lorryOf_32 : cX11_lorryOf.data.toList.drop 32 = sxX11_lorryOf_32 := dSn 3 shX11_lorryOf_29
theorem shX11_lorryOf_34 : cX11_lorryOf.data.toList.drop 34 = sxX11_lorryOf_34 := dSn 2 shX11_lorryOf_32
theorem shX11_lorryOf_37 : cX11_lorryOf.data.toList.drop 37 = sxX11_lorryOf_37 := dSn 3 shX11_lorryOf_34
theorem shX11_lorryOf_38 : cX11_lorryOf.data.toList.drop 38 = sxX11_lorryOf_38 := dSn 1 shX11_lorryOf_37
theorem shX11_lorryOf_41 : cX11_lorryOf.data.toList.drop 41 = sxX11_lorryOf_41 := dSn 3 shX11_lorryOf_38
theorem shX11_lorryOf_42 : cX11_lorryOf.data.toList.drop 42 = sxX11_lorryOf_42 := dSn 1 shX11_lorryOf_41
theorem shX11_lorryOf_43 : cX11_lorryOf.data.toList.drop 43 = sxX11_lorryOf_43 := dSn 1 shX11_lorryOf_42
theorem shX11_lorryOf_46 : cX11_lorryOf.data.toList.drop 46 = sxX11_lorryOf_46 := dSn 3 shX11_lorryOf_43
theorem shX11_lorryOf_47 : cX11_lorryOf.data.toList.drop 47 = sxX11_lorryOf_47 := dSn 1 shX11_lorryOf_46
theorem shX11_lorryOf_48 : cX11_lorryOf.data.toList.drop 48 = sxX11_lorryOf_48 := dSn 1 shX11_lorryOf_47
theorem shX11_lorryOf_49 : cX11_lorryOf.data.toList.drop 49 = sxX11_lorryOf_49 := dSn 1 shX11_lorryOf_48
theorem shX11_lorryOf_50 : cX11_lorryOf.data.toList.drop 50 = sxX11_lorryOf_50 := dSn 1 shX11_lorryOf_49
theorem shX11_lorryOf_53 : cX11_lorryOf.data.toList.drop 53 = sxX11_lorryOf_53 := dSn 3 shX11_lorryOf_50
theorem shX11_lorryOf_54 : cX11_lorryOf.data.toList.drop 54 = sxX11_lorryOf_54 := dSn 1 shX11_lorryOf_53
theorem shX11_lorryOf_55 : cX11_lorryOf.data.toList.drop 55 = sxX11_lorryOf_55 := dSn 1 shX11_lorryOf_54
theorem shX11_lorryOf_58 : cX11_lorryOf.data.toList.drop 58 = sxX11_lorryOf_58 := dSn 3 shX11_lorryOf_55
theorem shX11_lorryOf_61 : cX11_lorryOf.data.toList.drop 61 = sxX11_lorryOf_61 := dSn 3 shX11_lorryOf_58
theorem shX11_lorryOf_62 : cX11_lorryOf.data.toList.drop 62 = sxX11_lorryOf_62 := dSn 1 shX11_lorryOf_61
theorem dX11_lorryOf_0 : decode cX11_lorryOf 0 = .ok (.iload_n 1, 1) := oc_27 shX11_lorryOf_0
theorem dX11_lorryOf_1 : decode cX11_lorryOf 1 = .ok (.istore_n 3, 1) := oc_62 shX11_lorryOf_1
theorem dX11_lorryOf_2 : decode cX11_lorryOf 2 = .ok (.aload_n 0, 1) := oc_42 shX11_lorryOf_2
theorem dX11_lorryOf_3 : decode cX11_lorryOf 3 = .ok (.getfield 54, 3) := oc_180 shX11_lorryOf_3
theorem dX11_lorryOf_6 : decode cX11_lorryOf 6 = .ok (.getfield 267, 3) := oc_180 shX11_lorryOf_6
theorem dX11_lorryOf_9 : decode cX11_lorryOf 9 = .ok (.iconst 1, 1) := oc_4 shX11_lorryOf_9
theorem dX11_lorryOf_10 : decode cX11_lorryOf 10 = .ok (.isub, 1) := oc_100 shX11_lorryOf_10
theorem dX11_lorryOf_11 : decode cX11_lorryOf 11 = .ok (.istore 4, 2) := oc_54 shX11_lorryOf_11
theorem dX11_lorryOf_13 : decode cX11_lorryOf 13 = .ok (.iload 4, 2) := oc_21 shX11_lorryOf_13
theorem dX11_lorryOf_15 : decode cX11_lorryOf 15 = .ok (.ifCond .lt 46, 3) := oc_155 shX11_lorryOf_15 sgw_0_46
theorem dX11_lorryOf_61 : decode cX11_lorryOf 61 = .ok (.iconst (-1), 1) := oc_2 shX11_lorryOf_61
theorem dX11_lorryOf_62 : decode cX11_lorryOf 62 = .ok (.ireturn, 1) := oc_172 shX11_lorryOf_62
theorem dX11_lorryOf_18 : decode cX11_lorryOf 18 = .ok (.aload_n 0, 1) := oc_42 shX11_lorryOf_18
theorem dX11_lorryOf_19 : decode cX11_lorryOf 19 = .ok (.getfield 311, 3) := oc_180 shX11_lorryOf_19
theorem dX11_lorryOf_22 : decode cX11_lorryOf 22 = .ok (.ifCond .le 39, 3) := oc_158 shX11_lorryOf_22 sgw_0_39
theorem dX11_lorryOf_25 : decode cX11_lorryOf 25 = .ok (.aload_n 0, 1) := oc_42 shX11_lorryOf_25
theorem dX11_lorryOf_26 : decode cX11_lorryOf 26 = .ok (.getfield 54, 3) := oc_180 shX11_lorryOf_26
theorem dX11_lorryOf_29 : decode cX11_lorryOf 29 = .ok (.getfield 306, 3) := oc_180 shX11_lorryOf_29
theorem dX11_lorryOf_32 : decode cX11_lorryOf 32 = .ok (.iload 4, 2) := oc_21 shX11_lorryOf_32
theorem dX11_lorryOf_34 : decode cX11_lorryOf 34 = .ok (.invokestatic 192, 3) := oc_184 shX11_lorryOf_34
theorem dX11_lorryOf_37 : decode cX11_lorryOf 37 = .ok (.iload_n 2, 1) := oc_28 shX11_lorryOf_37
theorem dX11_lorryOf_38 : decode cX11_lorryOf 38 = .ok (.if_icmp .ne 10, 3) := oc_160 shX11_lorryOf_38 sgw_0_10
theorem dX11_lorryOf_48 : decode cX11_lorryOf 48 = .ok (.iload_n 3, 1) := oc_29 shX11_lorryOf_48
theorem dX11_lorryOf_49 : decode cX11_lorryOf 49 = .ok (.aload_n 0, 1) := oc_42 shX11_lorryOf_49
theorem dX11_lorryOf_50 : decode cX11_lorryOf 50 = .ok (.getfield 311, 3) := oc_180 shX11_lorryOf_50
theorem dX11_lorryOf_53 : decode cX11_lorryOf 53 = .ok (.idiv, 1) := oc_108 shX11_lorryOf_53
theorem dX11_lorryOf_54 : decode cX11_lorryOf 54 = .ok (.istore_n 3, 1) := oc_62 shX11_lorryOf_54
theorem dX11_lorryOf_55 : decode cX11_lorryOf 55 = .ok (.iinc 4 (-1), 3) := oc_132 shX11_lorryOf_55 sgb_255
theorem dX11_lorryOf_58 : decode cX11_lorryOf 58 = .ok (.goto (-45), 3) := oc_167 shX11_lorryOf_58 sgw_255_211
theorem dX11_lorryOf_41 : decode cX11_lorryOf 41 = .ok (.iload_n 3, 1) := oc_29 shX11_lorryOf_41
theorem dX11_lorryOf_42 : decode cX11_lorryOf 42 = .ok (.aload_n 0, 1) := oc_42 shX11_lorryOf_42
theorem dX11_lorryOf_43 : decode cX11_lorryOf 43 = .ok (.getfield 311, 3) := oc_180 shX11_lorryOf_43
theorem dX11_lorryOf_46 : decode cX11_lorryOf 46 = .ok (.irem, 1) := oc_112 shX11_lorryOf_46
theorem dX11_lorryOf_47 : decode cX11_lorryOf 47 = .ok (.ireturn, 1) := oc_172 shX11_lorryOf_47
noncomputable def sxX11_sharedLength_84 : List UInt8 := []
noncomputable def sxX11_sharedLength_83 : List UInt8 := 172 :: sxX11_sharedLength_84
noncomputable def sxX11_sharedLength_82 : List UInt8 := 29 :: sxX11_sharedLength_83
noncomputable def sxX11_sharedLength_79 : List UInt8 := 167 :: 255 :: 182 :: sxX11_sharedLength_82
noncomputable def sxX11_sharedLength_76 : List UInt8 := 132 :: 4 :: 1 :: sxX11_sharedLength_79
noncomputable def sxX11_sharedLength_75 : List UInt8 := 62 :: sxX11_sharedLength_76
noncomputable def sxX11_sharedLength_74 : List UInt8 := 96 :: sxX11_sharedLength_75
noncomputable def sxX11_sharedLength_71 : List UInt8 := 182 :: 1 :: 83 :: sxX11_sharedLength_74
noncomputable def sxX11_sharedLength_69 : List UInt8 := 21 :: 5 :: sxX11_sharedLength_71
noncomputable def sxX11_sharedLength_66 : List UInt8 := 180 :: 0 :: 54 :: sxX11_sharedLength_69
noncomputable def sxX11_sharedLength_65 : List UInt8 := 42 :: sxX11_sharedLength_66
noncomputable def sxX11_sharedLength_64 : List UInt8 := 29 :: sxX11_sharedLength_65
noncomputable def sxX11_sharedLength_63 : List UInt8 := 172 :: sxX11_sharedLength_64
noncomputable def sxX11_sharedLength_62 : List UInt8 := 2 :: sxX11_sharedLength_63
noncomputable def sxX11_sharedLength_59 : List UInt8 := 164 :: 0 :: 5 :: sxX11_sharedLength_62
noncomputable def sxX11_sharedLength_56 : List UInt8 := 184 :: 0 :: 192 :: sxX11_sharedLength_59
noncomputable def sxX11_sharedLength_54 : List UInt8 := 21 :: 4 :: sxX11_sharedLength_56
noncomputable def sxX11_sharedLength_51 : List UInt8 := 180 :: 1 :: 58 :: sxX11_sharedLength_54
noncomputable def sxX11_sharedLength_48 : List UInt8 := 180 :: 0 :: 47 :: sxX11_sharedLength_51
noncomputable def sxX11_sharedLength_47 : List UInt8 := 42 :: sxX11_sharedLength_48
noncomputable def sxX11_sharedLength_44 : List UInt8 := 182 :: 1 :: 80 :: sxX11_sharedLength_47
noncomputable def sxX11_sharedLength_42 : List UInt8 := 21 :: 5 :: sxX11_sharedLength_44
noncomputable def sxX11_sharedLength_39 : List UInt8 := 180 :: 0 :: 54 :: sxX11_sharedLength_42
noncomputable def sxX11_sharedLength_38 : List UInt8 := 42 :: sxX11_sharedLength_39
noncomputable def sxX11_sharedLength_35 : List UInt8 := 154 :: 0 :: 27 :: sxX11_sharedLength_38
noncomputable def sxX11_sharedLength_32 : List UInt8 := 182 :: 1 :: 61 :: sxX11_sharedLength_35
noncomputable def sxX11_sharedLength_31 : List UInt8 := 28 :: sxX11_sharedLength_32
noncomputable def sxX11_sharedLength_29 : List UInt8 := 21 :: 4 :: sxX11_sharedLength_31
noncomputable def sxX11_sharedLength_28 : List UInt8 := 42 :: sxX11_sharedLength_29
noncomputable def sxX11_sharedLength_25 : List UInt8 := 153 :: 0 :: 39 :: sxX11_sharedLength_28
noncomputable def sxX11_sharedLength_23 : List UInt8 := 21 :: 5 :: sxX11_sharedLength_25
noncomputable def sxX11_sharedLength_21 : List UInt8 := 54 :: 5 :: sxX11_sharedLength_23
noncomputable def sxX11_sharedLength_18 : List UInt8 := 182 :: 1 :: 77 :: sxX11_sharedLength_21
noncomputable def sxX11_sharedLength_16 : List UInt8 := 21 :: 4 :: sxX11_sharedLength_18
noncomputable def sxX11_sharedLength_15 : List UInt8 := 27 :: sxX11_sharedLength_16
noncomputable def sxX11_sharedLength_14 : List UInt8 := 42 :: sxX11_sharedLength_15
noncomputable def sxX11_sharedLength_11 : List UInt8 := 162 :: 0 :: 71 :: sxX11_sharedLength_14
noncomputable def sxX11_sharedLength_8 : List UInt8 := 180 :: 1 :: 55 :: sxX11_sharedLength_11
noncomputable def sxX11_sharedLength_7 : List UInt8 := 42 :: sxX11_sharedLength_8
noncomputable def sxX11_sharedLength_5 : List UInt8 := 21 :: 4 :: sxX11_sharedLength_7
noncomputable def sxX11_sharedLength_3 : List UInt8 := 54 :: 4 :: sxX11_sharedLength_5
noncomputable def sxX11_sharedLength_2 : List UInt8 := 3 :: sxX11_sharedLength_3
noncomputable def sxX11_sharedLength_1 : List UInt8 := 62 :: sxX11_sharedLength_2
noncomputable def sxX11_sharedLength_0 : List UInt8 := 3 :: sxX11_sharedLength_1
theorem shX11_sharedLength_0 : cX11_sharedLength.data.toList.drop 0 = sxX11_sharedLength_0 := rfl
theorem shX11_sharedLength_1 : cX11_sharedLength.data.toList.drop 1 = sxX11_sharedLength_1 := dSn 1 shX11_sharedLength_0
theorem shX11_sharedLength_2 : cX11_sharedLength.data.toList.drop 2 = sxX11_sharedLength_2 := dSn 1 shX11_sharedLength_1
theorem shX11_sharedLength_3 : cX11_sharedLength.data.toList.drop 3 = sxX11_sharedLength_3 := dSn 1 shX11_sharedLength_2
theorem shX11_sharedLength_5 : cX11_sharedLength.data.toList.drop 5 = sxX11_sharedLength_5 := dSn 2 shX11_sharedLength_3
theorem shX11_sharedLength_7 : cX11_sharedLength.data.toList.drop 7 = sxX11_sharedLength_7 := dSn 2 shX11_sharedLength_5
theorem shX11_sharedLength_8 : cX11_sharedLength.data.toList.drop 8 = sxX11_sharedLength_8 := dSn 1 shX11_sharedLength_7
theorem shX11_sharedLength_11 : cX11_sharedLength.data.toList.drop 11 = sxX11_sharedLength_11 := dSn 3 shX11_sharedLength_8
theorem shX11_sharedLength_14 : cX11_sharedLength.data.toList.drop 14 = sxX11_sharedLength_14 := dSn 3 shX11_sharedLength_11
theorem shX11_sharedLength_15 : cX11_sharedLength.data.toList.drop 15 = sxX11_sharedLength_15 := dSn 1 shX11_sharedLength_14
theorem shX11_sharedLength_16 : cX11_sharedLength.data.toList.drop 16 = sxX11_sharedLength_16 := dSn 1 shX11_sharedLength_15
theorem shX11_sharedLength_18 : cX11_sharedLength.data.toList.drop 18 = sxX11_sharedLength_18 := dSn 2 shX11_sharedLength_16
theorem shX11_sharedLength_21 : cX11_sharedLength.data.toList.drop 21 = sxX11_sharedLength_21 := dSn 3 shX11_sharedLength_18
theorem shX11_sharedLength_23 : cX11_sharedLength.data.toList.drop 23 = sxX11_sharedLength_23 := dSn 2 shX11_sharedLength_21
theorem shX11_sharedLength_25 : cX11_sharedLength.data.toList.drop 25 = sxX11_sharedLength_25 := dSn 2 shX11_sharedLength_23
theorem shX11_sharedLength_28 : cX11_sharedLength.data.toList.drop 28 = sxX11_sharedLength_28 := dSn 3 shX11_sharedLength_25
theorem shX11_sharedLength_29 : cX11_sharedLength.data.toList.drop 29 = sxX11_sharedLength_29 := dSn 1 shX11_sharedLength_28
theorem shX11_sharedLength_31 : cX11_sharedLength.data.toList.drop 31 = sxX11_sharedLength_31 := dSn 2 shX11_sharedLength_29
theorem shX11_sharedLength_32 : cX11_sharedLength.data.toList.drop 32 = sxX11_sharedLength_32 := dSn 1 shX11_sharedLength_31
theorem shX11_sharedLength_35 : cX11_sharedLength.data.toList.drop 35 = sxX11_sharedLength_35 := dSn 3 shX11_sharedLength_32
theorem shX11_sharedLength_38 : cX11_sharedLength.data.toList.drop 38 = sxX11_sharedLength_38 := dSn 3 shX11_sharedLength_35
theorem shX11_sharedLength_39 : cX11_sharedLength.data.toList.drop 39 = sxX11_sharedLength_39 := dSn 1 shX11_sharedLength_38
theorem shX11_sharedLength_42 : cX11_sharedLength.data.toList.drop 42 = sxX11_sharedLength_42 := dSn 3 shX11_sharedLength_39
theorem shX11_sharedLength_44 : cX11_sharedLength.data.toList.drop 44 = sxX11_sharedLength_44 := dSn 2 shX11_sharedLength_42
theorem shX11_sharedLength_47 : cX11_sharedLength.data.toList.drop 47 = sxX11_sharedLength_47 := dSn 3 shX11_sharedLength_44
theorem shX11_sharedLength_48 : cX11_sharedLength.data.toList.drop 48 = sxX11_sharedLength_48 := dSn 1 shX11_sharedLength_47
theorem shX11_sharedLength_51 : cX11_sharedLength.data.toList.drop 51 = sxX11_sharedLength_51 := dSn 3 shX11_sharedLength_48
theorem shX11_sharedLength_54 : cX11_sharedLength.data.toList.drop 54 = sxX11_sharedLength_54 := dSn 3 shX11_sharedLength_51
theorem shX11_sharedLength_56 : cX11_sharedLength.data.toList.drop 56 = sxX11_sharedLength_56 := dSn 2 shX11_sharedLength_54
theorem shX11_sharedLength_59 : cX11_sharedLength.data.toList.drop 59 = sxX11_sharedLength_59 := dSn 3 shX11_sharedLength_56
theorem shX11_sharedLength_62 : cX11_sharedLength.data.toList.drop 62 = sxX11_sharedLength_62 := dSn 3 shX11_sharedLength_59
theorem shX11_sharedLength_63 : cX11_sharedLength.data.toList.drop 63 = sxX11_sharedLength_63 := dSn 1 shX11_sharedLength_62
theorem shX11_sharedLength_64 : cX11_sharedLength.data.toList.drop 64 = sxX11_sharedLength_64 := dSn 1 shX11_sharedLength_63
theorem shX11_sharedLength_65 : cX11_sharedLength.data.toList.drop 65 = sxX11_sharedLength_65 := dSn 1 shX11_sharedLength_64
theorem shX11_sharedLength_66 : cX11_sharedLength.data.toList.drop 66 = sxX11_sharedLength_66 := dSn 1 shX11_sharedLength_65
theorem shX11_sharedLength_69 : cX11_sharedLength.data.toList.drop 69 = sxX11_sharedLength_69 := dSn 3 shX11_sharedLength_66
theorem shX11_sharedLength_71 : cX11_sharedLength.data.toList.drop 71 = sxX11_sharedLength_71 := dSn 2 shX11_sharedLength_69
theorem shX11_sharedLength_74 : cX11_sharedLength.data.toList.drop 74 = sxX11_sharedLength_74 := dSn 3 shX11_sharedLength_71
theorem shX11_sharedLength_75 : cX11_sharedLength.data.toList.drop 75 = sxX11_sharedLength_75 := dSn 1 shX11_sharedLength_74
theorem shX11_sharedLength_76 : cX11_sharedLength.data.toList.drop 76 = sxX11_sharedLength_76 := dSn 1 shX11_sharedLength_75
theorem shX11_sharedLength_79 : cX11_sharedLength.data.toList.drop 79 = sxX11_sharedLength_79 := dSn 3 shX11_sharedLength_76
theorem shX11_sharedLength_82 : cX11_sharedLength.data.toList.drop 82 = sxX11_sharedLength_82 := dSn 3 shX11_sharedLength_79
theorem shX11_sharedLength_83 : cX11_sharedLength.data.toList.drop 83 = sxX11_sharedLength_83 := dSn 1 shX11_sharedLength_82
theorem dX11_sharedLength_0 : decode cX11_sharedLength 0 = .ok (.iconst 0, 1) := oc_3 shX11_sharedLength_0
theorem dX11_sharedLength_1 : decode cX11_sharedLength 1 = .ok (.istore_n 3, 1) := oc_62 shX11_sharedLength_1
theorem dX11_sharedLength_2 : decode cX11_sharedLength 2 = .ok (.iconst 0, 1) := oc_3 shX11_sharedLength_2
theorem dX11_sharedLength_3 : decode cX11_sharedLength 3 = .ok (.istore 4, 2) := oc_54 shX11_sharedLength_3
theorem dX11_sharedLength_5 : decode cX11_sharedLength 5 = .ok (.iload 4, 2) := oc_21 shX11_sharedLength_5
theorem dX11_sharedLength_7 : decode cX11_sharedLength 7 = .ok (.aload_n 0, 1) := oc_42 shX11_sharedLength_7
theorem dX11_sharedLength_8 : decode cX11_sharedLength 8 = .ok (.getfield 311, 3) := oc_180 shX11_sharedLength_8
theorem dX11_sharedLength_11 : decode cX11_sharedLength 11 = .ok (.if_icmp .ge 71, 3) := oc_162 shX11_sharedLength_11 sgw_0_71
theorem dX11_sharedLength_82 : decode cX11_sharedLength 82 = .ok (.iload_n 3, 1) := oc_29 shX11_sharedLength_82
theorem dX11_sharedLength_83 : decode cX11_sharedLength 83 = .ok (.ireturn, 1) := oc_172 shX11_sharedLength_83
theorem dX11_sharedLength_14 : decode cX11_sharedLength 14 = .ok (.aload_n 0, 1) := oc_42 shX11_sharedLength_14
theorem dX11_sharedLength_15 : decode cX11_sharedLength 15 = .ok (.iload_n 1, 1) := oc_27 shX11_sharedLength_15
theorem dX11_sharedLength_16 : decode cX11_sharedLength 16 = .ok (.iload 4, 2) := oc_21 shX11_sharedLength_16
theorem dX11_sharedLength_18 : decode cX11_sharedLength 18 = .ok (.invokevirtual 333, 3) := oc_182 shX11_sharedLength_18
theorem dX11_sharedLength_21 : decode cX11_sharedLength 21 = .ok (.istore 5, 2) := oc_54 shX11_sharedLength_21
theorem dX11_sharedLength_23 : decode cX11_sharedLength 23 = .ok (.iload 5, 2) := oc_21 shX11_sharedLength_23
theorem dX11_sharedLength_25 : decode cX11_sharedLength 25 = .ok (.ifCond .eq 39, 3) := oc_153 shX11_sharedLength_25 sgw_0_39
theorem dX11_sharedLength_64 : decode cX11_sharedLength 64 = .ok (.iload_n 3, 1) := oc_29 shX11_sharedLength_64
theorem dX11_sharedLength_65 : decode cX11_sharedLength 65 = .ok (.aload_n 0, 1) := oc_42 shX11_sharedLength_65
theorem dX11_sharedLength_66 : decode cX11_sharedLength 66 = .ok (.getfield 54, 3) := oc_180 shX11_sharedLength_66
theorem dX11_sharedLength_69 : decode cX11_sharedLength 69 = .ok (.iload 5, 2) := oc_21 shX11_sharedLength_69
theorem dX11_sharedLength_71 : decode cX11_sharedLength 71 = .ok (.invokevirtual 339, 3) := oc_182 shX11_sharedLength_71
theorem dX11_sharedLength_74 : decode cX11_sharedLength 74 = .ok (.iadd, 1) := oc_96 shX11_sharedLength_74
theorem dX11_sharedLength_75 : decode cX11_sharedLength 75 = .ok (.istore_n 3, 1) := oc_62 shX11_sharedLength_75
theorem dX11_sharedLength_76 : decode cX11_sharedLength 76 = .ok (.iinc 4 1, 3) := oc_132 shX11_sharedLength_76 sgb_1
theorem dX11_sharedLength_79 : decode cX11_sharedLength 79 = .ok (.goto (-74), 3) := oc_167 shX11_sharedLength_79 sgw_255_182
theorem dX11_sharedLength_28 : decode cX11_sharedLength 28 = .ok (.aload_n 0, 1) := oc_42 shX11_sharedLength_28
theorem dX11_sharedLength_29 : decode cX11_sharedLength 29 = .ok (.iload 4, 2) := oc_21 shX11_sharedLength_29
theorem dX11_sharedLength_31 : decode cX11_sharedLength 31 = .ok (.iload_n 2, 1) := oc_28 shX11_sharedLength_31
theorem dX11_sharedLength_32 : decode cX11_sharedLength 32 = .ok (.invokevirtual 317, 3) := oc_182 shX11_sharedLength_32
theorem dX11_sharedLength_35 : decode cX11_sharedLength 35 = .ok (.ifCond .ne 27, 3) := oc_154 shX11_sharedLength_35 sgw_0_27
theorem dX11_sharedLength_62 : decode cX11_sharedLength 62 = .ok (.iconst (-1), 1) := oc_2 shX11_sharedLength_62
theorem dX11_sharedLength_63 : decode cX11_sharedLength 63 = .ok (.ireturn, 1) := oc_172 shX11_sharedLength_63
theorem dX11_sharedLength_38 : decode cX11_sharedLength 38 = .ok (.aload_n 0, 1) := oc_42 shX11_sharedLength_38
theorem dX11_sharedLength_39 : decode cX11_sharedLength 39 = .ok (.getfield 54, 3) := oc_180 shX11_sharedLength_39
theorem dX11_sharedLength_42 : decode cX11_sharedLength 42 = .ok (.iload 5, 2) := oc_21 shX11_sharedLength_42
theorem dX11_sharedLength_44 : decode cX11_sharedLength 44 = .ok (.invokevirtual 336, 3) := oc_182 shX11_sharedLength_44
theorem dX11_sharedLength_47 : decode cX11_sharedLength 47 = .ok (.aload_n 0, 1) := oc_42 shX11_sharedLength_47
theorem dX11_sharedLength_48 : decode cX11_sharedLength 48 = .ok (.getfield 47, 3) := oc_180 shX11_sharedLength_48
theorem dX11_sharedLength_51 : decode cX11_sharedLength 51 = .ok (.getfield 314, 3) := oc_180 shX11_sharedLength_51
theorem dX11_sharedLength_54 : decode cX11_sharedLength 54 = .ok (.iload 4, 2) := oc_21 shX11_sharedLength_54
theorem dX11_sharedLength_56 : decode cX11_sharedLength 56 = .ok (.invokestatic 192, 3) := oc_184 shX11_sharedLength_56
theorem dX11_sharedLength_59 : decode cX11_sharedLength 59 = .ok (.if_icmp .le 5, 3) := oc_164 shX11_sharedLength_59 sgw_0_5
noncomputable def sxX11_bestShares_84 : List UInt8 := []
noncomputable def sxX11_bestShares_83 : List UInt8 := 172 :: sxX11_bestShares_84
noncomputable def sxX11_bestShares_82 : List UInt8 := 29 :: sxX11_bestShares_83
noncomputable def sxX11_bestShares_79 : List UInt8 := 167 :: 255 :: 213 :: sxX11_bestShares_82
noncomputable def sxX11_bestShares_76 : List UInt8 := 132 :: 5 :: 1 :: sxX11_bestShares_79
noncomputable def sxX11_bestShares_74 : List UInt8 := 54 :: 4 :: sxX11_bestShares_76
noncomputable def sxX11_bestShares_72 : List UInt8 := 21 :: 6 :: sxX11_bestShares_74
noncomputable def sxX11_bestShares_71 : List UInt8 := 62 :: sxX11_bestShares_72
noncomputable def sxX11_bestShares_69 : List UInt8 := 21 :: 5 :: sxX11_bestShares_71
noncomputable def sxX11_bestShares_66 : List UInt8 := 162 :: 0 :: 10 :: sxX11_bestShares_69
noncomputable def sxX11_bestShares_64 : List UInt8 := 21 :: 4 :: sxX11_bestShares_66
noncomputable def sxX11_bestShares_62 : List UInt8 := 21 :: 6 :: sxX11_bestShares_64
noncomputable def sxX11_bestShares_59 : List UInt8 := 159 :: 0 :: 10 :: sxX11_bestShares_62
noncomputable def sxX11_bestShares_58 : List UInt8 := 2 :: sxX11_bestShares_59
noncomputable def sxX11_bestShares_57 : List UInt8 := 29 :: sxX11_bestShares_58
noncomputable def sxX11_bestShares_54 : List UInt8 := 159 :: 0 :: 22 :: sxX11_bestShares_57
noncomputable def sxX11_bestShares_53 : List UInt8 := 2 :: sxX11_bestShares_54
noncomputable def sxX11_bestShares_51 : List UInt8 := 21 :: 6 :: sxX11_bestShares_53
noncomputable def sxX11_bestShares_49 : List UInt8 := 54 :: 6 :: sxX11_bestShares_51
noncomputable def sxX11_bestShares_46 : List UInt8 := 182 :: 1 :: 71 :: sxX11_bestShares_49
noncomputable def sxX11_bestShares_45 : List UInt8 := 27 :: sxX11_bestShares_46
noncomputable def sxX11_bestShares_43 : List UInt8 := 21 :: 5 :: sxX11_bestShares_45
noncomputable def sxX11_bestShares_42 : List UInt8 := 42 :: sxX11_bestShares_43
noncomputable def sxX11_bestShares_39 : List UInt8 := 162 :: 0 :: 43 :: sxX11_bestShares_42
noncomputable def sxX11_bestShares_38 : List UInt8 := 28 :: sxX11_bestShares_39
noncomputable def sxX11_bestShares_36 : List UInt8 := 21 :: 5 :: sxX11_bestShares_38
noncomputable def sxX11_bestShares_34 : List UInt8 := 54 :: 5 :: sxX11_bestShares_36
noncomputable def sxX11_bestShares_33 : List UInt8 := 3 :: sxX11_bestShares_34
noncomputable def sxX11_bestShares_31 : List UInt8 := 54 :: 4 :: sxX11_bestShares_33
noncomputable def sxX11_bestShares_30 : List UInt8 := 3 :: sxX11_bestShares_31
noncomputable def sxX11_bestShares_29 : List UInt8 := 62 :: sxX11_bestShares_30
noncomputable def sxX11_bestShares_28 : List UInt8 := 2 :: sxX11_bestShares_29
noncomputable def sxX11_bestShares_25 : List UInt8 := 167 :: 255 :: 235 :: sxX11_bestShares_28
noncomputable def sxX11_bestShares_22 : List UInt8 := 132 :: 3 :: 1 :: sxX11_bestShares_25
noncomputable def sxX11_bestShares_21 : List UInt8 := 61 :: sxX11_bestShares_22
noncomputable def sxX11_bestShares_20 : List UInt8 := 104 :: sxX11_bestShares_21
noncomputable def sxX11_bestShares_17 : List UInt8 := 180 :: 1 :: 55 :: sxX11_bestShares_20
noncomputable def sxX11_bestShares_16 : List UInt8 := 42 :: sxX11_bestShares_17
noncomputable def sxX11_bestShares_15 : List UInt8 := 28 :: sxX11_bestShares_16
noncomputable def sxX11_bestShares_12 : List UInt8 := 162 :: 0 :: 16 :: sxX11_bestShares_15
noncomputable def sxX11_bestShares_9 : List UInt8 := 180 :: 1 :: 11 :: sxX11_bestShares_12
noncomputable def sxX11_bestShares_6 : List UInt8 := 180 :: 0 :: 54 :: sxX11_bestShares_9
noncomputable def sxX11_bestShares_5 : List UInt8 := 42 :: sxX11_bestShares_6
noncomputable def sxX11_bestShares_4 : List UInt8 := 29 :: sxX11_bestShares_5
noncomputable def sxX11_bestShares_3 : List UInt8 := 62 :: sxX11_bestShares_4
noncomputable def sxX11_bestShares_2 : List UInt8 := 3 :: sxX11_bestShares_3
noncomputable def sxX11_bestShares_1 : List UInt8 := 61 :: sxX11_bestShares_2
noncomputable def sxX11_bestShares_0 : List UInt8 := 4 :: sxX11_bestShares_1
theorem shX11_bestShares_0 : cX11_bestShares.data.toList.drop 0 = sxX11_bestShares_0 := rfl
theorem shX11_bestShares_1 : cX11_bestShares.data.toList.drop 1 = sxX11_bestShares_1 := dSn 1 shX11_bestShares_0
theorem shX11_bestShares_2 : cX11_bestShares.data.toList.drop 2 = sxX11_bestShares_2 := dSn 1 shX11_bestShares_1
theorem shX11_bestShares_3 : cX11_bestShares.data.toList.drop 3 = sxX11_bestShares_3 := dSn 1 shX11_bestShares_2
theorem shX11_bestShares_4 : cX11_bestShares.data.toList.drop 4 = sxX11_bestShares_4 := dSn 1 shX11_bestShares_3
theorem shX11_bestShares_5 : cX11_bestShares.data.toList.drop 5 = sxX11_bestShares_5 := dSn 1 shX11_bestShares_4
theorem shX11_bestShares_6 : cX11_bestShares.data.toList.drop 6 = sxX11_bestShares_6 := dSn 1 shX11_bestShares_5
theorem shX11_bestShares_9 : cX11_bestShares.data.toList.drop 9 = sxX11_bestShares_9 := dSn 3 shX11_bestShares_6
theorem shX11_bestShares_12 : cX11_bestShares.data.toList.drop 12 = sxX11_bestShares_12 := dSn 3 shX11_bestShares_9
theorem shX11_bestShares_15 : cX11_bestShares.data.toList.drop 15 = sxX11_bestShares_15 := dSn 3 shX11_bestShares_12
theorem shX11_bestShares_16 : cX11_bestShares.data.toList.drop 16 = sxX11_bestShares_16 := dSn 1 shX11_bestShares_15
theorem shX11_bestShares_17 : cX11_bestShares.data.toList.drop 17 = sxX11_bestShares_17 := dSn 1 shX11_bestShares_16
theorem shX11_bestShares_20 : cX11_bestShares.data.toList.drop 20 = sxX11_bestShares_20 := dSn 3 shX11_bestShares_17
theorem shX11_bestShares_21 : cX11_bestShares.data.toList.drop 21 = sxX11_bestShares_21 := dSn 1 shX11_bestShares_20
theorem shX11_bestShares_22 : cX11_bestShares.data.toList.drop 22 = sxX11_bestShares_22 := dSn 1 shX11_bestShares_21
theorem shX11_bestShares_25 : cX11_bestShares.data.toList.drop 25 = sxX11_bestShares_25 := dSn 3 shX11_bestShares_22
theorem shX11_bestShares_28 : cX11_bestShares.data.toList.drop 28 = sxX11_bestShares_28 := dSn 3 shX11_bestShares_25
theorem shX11_bestShares_29 : cX11_bestShares.data.toList.drop 29 = sxX11_bestShares_29 := dSn 1 shX11_bestShares_28
theorem shX11_bestShares_30 : cX11_bestShares.data.toList.drop 30 = sxX11_bestShares_30 := dSn 1 shX11_bestShares_29
theorem shX11_bestShares_31 : cX11_bestShares.data.toList.drop 31 = sxX11_bestShares_31 := dSn 1 shX11_bestShares_30
theorem shX11_bestShares_33 : cX11_bestShares.data.toList.drop 33 = sxX11_bestShares_33 := dSn 2 shX11_bestShares_31
theorem shX11_bestShares_34 : cX11_bestShares.data.toList.drop 34 = sxX11_bestShares_34 := dSn 1 shX11_bestShares_33
theorem shX11_bestShares_36 : cX11_bestShares.data.toList.drop 36 = sxX11_bestShares_36 := dSn 2 shX11_bestShares_34
theorem shX11_bestShares_38 : cX11_bestShares.data.toList.drop 38 = sxX11_bestShares_38 := dSn 2 shX11_bestShares_36
theorem shX11_bestShares_39 : cX11_bestShares.data.toList.drop 39 = sxX11_bestShares_39 := dSn 1 shX11_bestShares_38
theorem shX11_bestShares_42 : cX11_bestShares.data.toList.drop 42 = sxX11_bestShares_42 := dSn 3 shX11_bestShares_39
theorem shX11_bestShares_43 : cX11_bestShares.data.toList.drop 43 = sxX11_bestShares_43 := dSn 1 shX11_bestShares_42
theorem shX11_bestShares_45 : cX11_bestShares.data.toList.drop 45 = sxX11_bestShares_45 := dSn 2 shX11_bestShares_43
theorem shX11_bestShares_46 : cX11_bestShares.data.toList.drop 46 = sxX11_bestShares_46 := dSn 1 shX11_bestShares_45
theorem shX11_bestShares_49 : cX11_bestShares.data.toList.drop 49 = sxX11_bestShares_49 := dSn 3 shX11_bestShares_46
theorem shX11_bestShares_51 : cX11_bestShares.data.toList.drop 51 = sxX11_bestShares_51 := dSn 2 shX11_bestShares_49
theorem shX11_bestShares_53 : cX11_bestShares.data.toList.drop 53 = sxX11_bestShares_53 := dSn 2 shX11_bestShares_51
theorem shX11_bestShares_54 : cX11_bestShares.data.toList.drop 54 = sxX11_bestShares_54 := dSn 1 shX11_bestShares_53
theorem shX11_bestShares_57 : cX11_bestShares.data.toList.drop 57 = sxX11_bestShares_57 := dSn 3 shX11_bestShares_54
theorem shX11_bestShares_58 : cX11_bestShares.data.toList.drop 58 = sxX11_bestShares_58 := dSn 1 shX11_bestShares_57
theorem shX11_bestShares_59 : cX11_bestShares.data.toList.drop 59 = sxX11_bestShares_59 := dSn 1 shX11_bestShares_58
theorem shX11_bestShares_62 : cX11_bestShares.data.toList.drop 62 = sxX11_bestShares_62 := dSn 3 shX11_bestShares_59
theorem shX11_bestShares_64 : cX11_bestShares.data.toList.drop 64 = sxX11_bestShares_64 := dSn 2 shX11_bestShares_62
theorem shX11_bestShares_66 : cX11_bestShares.data.toList.drop 66 = sxX11_bestShares_66 := dSn 2 shX11_bestShares_64
theorem shX11_bestShares_69 : cX11_bestShares.data.toList.drop 69 = sxX11_bestShares_69 := dSn 3 shX11_bestShares_66
theorem shX11_bestShares_71 : cX11_bestShares.data.toList.drop 71 = sxX11_bestShares_71 := dSn 2 shX11_bestShares_69
theorem shX11_bestShares_72 : cX11_bestShares.data.toList.drop 72 = sxX11_bestShares_72 := dSn 1 shX11_bestShares_71
theorem shX11_bestShares_74 : cX11_bestShares.data.toList.drop 74 = sxX11_bestShares_74 := dSn 2 shX11_bestShares_72
theorem shX11_bestShares_76 : cX11_bestShares.data.toList.drop 76 = sxX11_bestShares_76 := dSn 2 shX11_bestShares_74
theorem shX11_bestShares_79 : cX11_bestShares.data.toList.drop 79 = sxX11_bestShares_79 := dSn 3 shX11_bestShares_76
theorem shX11_bestShares_82 : cX11_bestShares.data.toList.drop 82 = sxX11_bestShares_82 := dSn 3 shX11_bestShares_79
theorem shX11_bestShares_83 : cX11_bestShares.data.toList.drop 83 = sxX11_bestShares_83 := dSn 1 shX11_bestShares_82
theorem dX11_bestShares_0 : decode cX11_bestShares 0 = .ok (.iconst 1, 1) := oc_4 shX11_bestShares_0
theorem dX11_bestShares_1 : decode cX11_bestShares 1 = .ok (.istore_n 2, 1) := oc_61 shX11_bestShares_1
theorem dX11_bestShares_2 : decode cX11_bestShares 2 = .ok (.iconst 0, 1) := oc_3 shX11_bestShares_2
theorem dX11_bestShares_3 : decode cX11_bestShares 3 = .ok (.istore_n 3, 1) := oc_62 shX11_bestShares_3
theorem dX11_bestShares_4 : decode cX11_bestShares 4 = .ok (.iload_n 3, 1) := oc_29 shX11_bestShares_4
theorem dX11_bestShares_5 : decode cX11_bestShares 5 = .ok (.aload_n 0, 1) := oc_42 shX11_bestShares_5
theorem dX11_bestShares_6 : decode cX11_bestShares 6 = .ok (.getfield 54, 3) := oc_180 shX11_bestShares_6
theorem dX11_bestShares_9 : decode cX11_bestShares 9 = .ok (.getfield 267, 3) := oc_180 shX11_bestShares_9
theorem dX11_bestShares_12 : decode cX11_bestShares 12 = .ok (.if_icmp .ge 16, 3) := oc_162 shX11_bestShares_12 sgw_0_16
theorem dX11_bestShares_28 : decode cX11_bestShares 28 = .ok (.iconst (-1), 1) := oc_2 shX11_bestShares_28
theorem dX11_bestShares_29 : decode cX11_bestShares 29 = .ok (.istore_n 3, 1) := oc_62 shX11_bestShares_29
theorem dX11_bestShares_30 : decode cX11_bestShares 30 = .ok (.iconst 0, 1) := oc_3 shX11_bestShares_30
theorem dX11_bestShares_31 : decode cX11_bestShares 31 = .ok (.istore 4, 2) := oc_54 shX11_bestShares_31
theorem dX11_bestShares_33 : decode cX11_bestShares 33 = .ok (.iconst 0, 1) := oc_3 shX11_bestShares_33
theorem dX11_bestShares_34 : decode cX11_bestShares 34 = .ok (.istore 5, 2) := oc_54 shX11_bestShares_34
theorem dX11_bestShares_36 : decode cX11_bestShares 36 = .ok (.iload 5, 2) := oc_21 shX11_bestShares_36
theorem dX11_bestShares_38 : decode cX11_bestShares 38 = .ok (.iload_n 2, 1) := oc_28 shX11_bestShares_38
theorem dX11_bestShares_39 : decode cX11_bestShares 39 = .ok (.if_icmp .ge 43, 3) := oc_162 shX11_bestShares_39 sgw_0_43
theorem dX11_bestShares_82 : decode cX11_bestShares 82 = .ok (.iload_n 3, 1) := oc_29 shX11_bestShares_82
theorem dX11_bestShares_83 : decode cX11_bestShares 83 = .ok (.ireturn, 1) := oc_172 shX11_bestShares_83
theorem dX11_bestShares_42 : decode cX11_bestShares 42 = .ok (.aload_n 0, 1) := oc_42 shX11_bestShares_42
theorem dX11_bestShares_43 : decode cX11_bestShares 43 = .ok (.iload 5, 2) := oc_21 shX11_bestShares_43
theorem dX11_bestShares_45 : decode cX11_bestShares 45 = .ok (.iload_n 1, 1) := oc_27 shX11_bestShares_45
theorem dX11_bestShares_46 : decode cX11_bestShares 46 = .ok (.invokevirtual 327, 3) := oc_182 shX11_bestShares_46
theorem dX11_bestShares_49 : decode cX11_bestShares 49 = .ok (.istore 6, 2) := oc_54 shX11_bestShares_49
theorem dX11_bestShares_51 : decode cX11_bestShares 51 = .ok (.iload 6, 2) := oc_21 shX11_bestShares_51
theorem dX11_bestShares_53 : decode cX11_bestShares 53 = .ok (.iconst (-1), 1) := oc_2 shX11_bestShares_53
theorem dX11_bestShares_54 : decode cX11_bestShares 54 = .ok (.if_icmp .eq 22, 3) := oc_159 shX11_bestShares_54 sgw_0_22
theorem dX11_bestShares_76 : decode cX11_bestShares 76 = .ok (.iinc 5 1, 3) := oc_132 shX11_bestShares_76 sgb_1
theorem dX11_bestShares_79 : decode cX11_bestShares 79 = .ok (.goto (-43), 3) := oc_167 shX11_bestShares_79 sgw_255_213
theorem dX11_bestShares_57 : decode cX11_bestShares 57 = .ok (.iload_n 3, 1) := oc_29 shX11_bestShares_57
theorem dX11_bestShares_58 : decode cX11_bestShares 58 = .ok (.iconst (-1), 1) := oc_2 shX11_bestShares_58
theorem dX11_bestShares_59 : decode cX11_bestShares 59 = .ok (.if_icmp .eq 10, 3) := oc_159 shX11_bestShares_59 sgw_0_10
theorem dX11_bestShares_69 : decode cX11_bestShares 69 = .ok (.iload 5, 2) := oc_21 shX11_bestShares_69
theorem dX11_bestShares_71 : decode cX11_bestShares 71 = .ok (.istore_n 3, 1) := oc_62 shX11_bestShares_71
theorem dX11_bestShares_72 : decode cX11_bestShares 72 = .ok (.iload 6, 2) := oc_21 shX11_bestShares_72
theorem dX11_bestShares_74 : decode cX11_bestShares 74 = .ok (.istore 4, 2) := oc_54 shX11_bestShares_74
theorem dX11_bestShares_62 : decode cX11_bestShares 62 = .ok (.iload 6, 2) := oc_21 shX11_bestShares_62
theorem dX11_bestShares_64 : decode cX11_bestShares 64 = .ok (.iload 4, 2) := oc_21 shX11_bestShares_64
theorem dX11_bestShares_66 : decode cX11_bestShares 66 = .ok (.if_icmp .ge 10, 3) := oc_162 shX11_bestShares_66 sgw_0_10
theorem dX11_bestShares_15 : decode cX11_bestShares 15 = .ok (.iload_n 2, 1) := oc_28 shX11_bestShares_15
theorem dX11_bestShares_16 : decode cX11_bestShares 16 = .ok (.aload_n 0, 1) := oc_42 shX11_bestShares_16
theorem dX11_bestShares_17 : decode cX11_bestShares 17 = .ok (.getfield 311, 3) := oc_180 shX11_bestShares_17
theorem dX11_bestShares_20 : decode cX11_bestShares 20 = .ok (.imul, 1) := oc_104 shX11_bestShares_20
theorem dX11_bestShares_21 : decode cX11_bestShares 21 = .ok (.istore_n 2, 1) := oc_61 shX11_bestShares_21
theorem dX11_bestShares_22 : decode cX11_bestShares 22 = .ok (.iinc 3 1, 3) := oc_132 shX11_bestShares_22 sgb_1
theorem dX11_bestShares_25 : decode cX11_bestShares 25 = .ok (.goto (-21), 3) := oc_167 shX11_bestShares_25 sgw_255_235
noncomputable def sxX11_shared_106 : List UInt8 := []
noncomputable def sxX11_shared_105 : List UInt8 := 172 :: sxX11_shared_106
noncomputable def sxX11_shared_102 : List UInt8 := 182 :: 1 :: 74 :: sxX11_shared_105
noncomputable def sxX11_shared_101 : List UInt8 := 29 :: sxX11_shared_102
noncomputable def sxX11_shared_99 : List UInt8 := 21 :: 5 :: sxX11_shared_101
noncomputable def sxX11_shared_98 : List UInt8 := 42 :: sxX11_shared_99
noncomputable def sxX11_shared_95 : List UInt8 := 167 :: 0 :: 10 :: sxX11_shared_98
noncomputable def sxX11_shared_92 : List UInt8 := 182 :: 1 :: 71 :: sxX11_shared_95
noncomputable def sxX11_shared_91 : List UInt8 := 27 :: sxX11_shared_92
noncomputable def sxX11_shared_89 : List UInt8 := 21 :: 5 :: sxX11_shared_91
noncomputable def sxX11_shared_88 : List UInt8 := 42 :: sxX11_shared_89
noncomputable def sxX11_shared_85 : List UInt8 := 160 :: 0 :: 13 :: sxX11_shared_88
noncomputable def sxX11_shared_84 : List UInt8 := 2 :: sxX11_shared_85
noncomputable def sxX11_shared_83 : List UInt8 := 29 :: sxX11_shared_84
noncomputable def sxX11_shared_82 : List UInt8 := 172 :: sxX11_shared_83
noncomputable def sxX11_shared_80 : List UInt8 := 16 :: 254 :: sxX11_shared_82
noncomputable def sxX11_shared_77 : List UInt8 := 160 :: 0 :: 6 :: sxX11_shared_80
noncomputable def sxX11_shared_76 : List UInt8 := 2 :: sxX11_shared_77
noncomputable def sxX11_shared_74 : List UInt8 := 21 :: 5 :: sxX11_shared_76
noncomputable def sxX11_shared_72 : List UInt8 := 54 :: 5 :: sxX11_shared_74
noncomputable def sxX11_shared_69 : List UInt8 := 182 :: 1 :: 68 :: sxX11_shared_72
noncomputable def sxX11_shared_68 : List UInt8 := 27 :: sxX11_shared_69
noncomputable def sxX11_shared_67 : List UInt8 := 42 :: sxX11_shared_68
noncomputable def sxX11_shared_66 : List UInt8 := 172 :: sxX11_shared_67
noncomputable def sxX11_shared_64 : List UInt8 := 16 :: 254 :: sxX11_shared_66
noncomputable def sxX11_shared_61 : List UInt8 := 154 :: 0 :: 6 :: sxX11_shared_64
noncomputable def sxX11_shared_58 : List UInt8 := 182 :: 1 :: 23 :: sxX11_shared_61
noncomputable def sxX11_shared_56 : List UInt8 := 16 :: 6 :: sxX11_shared_58
noncomputable def sxX11_shared_55 : List UInt8 := 28 :: sxX11_shared_56
noncomputable def sxX11_shared_54 : List UInt8 := 27 :: sxX11_shared_55
noncomputable def sxX11_shared_53 : List UInt8 := 42 :: sxX11_shared_54
noncomputable def sxX11_shared_50 : List UInt8 := 153 :: 0 :: 14 :: sxX11_shared_53
noncomputable def sxX11_shared_47 : List UInt8 := 182 :: 1 :: 20 :: sxX11_shared_50
noncomputable def sxX11_shared_46 : List UInt8 := 27 :: sxX11_shared_47
noncomputable def sxX11_shared_45 : List UInt8 := 42 :: sxX11_shared_46
noncomputable def sxX11_shared_44 : List UInt8 := 172 :: sxX11_shared_45
noncomputable def sxX11_shared_43 : List UInt8 := 2 :: sxX11_shared_44
noncomputable def sxX11_shared_40 : List UInt8 := 154 :: 0 :: 5 :: sxX11_shared_43
noncomputable def sxX11_shared_38 : List UInt8 := 21 :: 4 :: sxX11_shared_40
noncomputable def sxX11_shared_35 : List UInt8 := 153 :: 0 :: 8 :: sxX11_shared_38
noncomputable def sxX11_shared_32 : List UInt8 := 184 :: 0 :: 80 :: sxX11_shared_35
noncomputable def sxX11_shared_29 : List UInt8 := 17 :: 1 :: 144 :: sxX11_shared_32
noncomputable def sxX11_shared_28 : List UInt8 := 4 :: sxX11_shared_29
noncomputable def sxX11_shared_27 : List UInt8 := 28 :: sxX11_shared_28
noncomputable def sxX11_shared_24 : List UInt8 := 153 :: 0 :: 19 :: sxX11_shared_27
noncomputable def sxX11_shared_21 : List UInt8 := 184 :: 0 :: 99 :: sxX11_shared_24
noncomputable def sxX11_shared_20 : List UInt8 := 27 :: sxX11_shared_21
noncomputable def sxX11_shared_18 : List UInt8 := 54 :: 4 :: sxX11_shared_20
noncomputable def sxX11_shared_17 : List UInt8 := 3 :: sxX11_shared_18
noncomputable def sxX11_shared_14 : List UInt8 := 167 :: 0 :: 4 :: sxX11_shared_17
noncomputable def sxX11_shared_13 : List UInt8 := 4 :: sxX11_shared_14
noncomputable def sxX11_shared_10 : List UInt8 := 198 :: 0 :: 7 :: sxX11_shared_13
noncomputable def sxX11_shared_7 : List UInt8 := 182 :: 0 :: 114 :: sxX11_shared_10
noncomputable def sxX11_shared_6 : List UInt8 := 29 :: sxX11_shared_7
noncomputable def sxX11_shared_5 : List UInt8 := 42 :: sxX11_shared_6
noncomputable def sxX11_shared_2 : List UInt8 := 159 :: 0 :: 11 :: sxX11_shared_5
noncomputable def sxX11_shared_1 : List UInt8 := 2 :: sxX11_shared_2
noncomputable def sxX11_shared_0 : List UInt8 := 29 :: sxX11_shared_1
theorem shX11_shared_0 : cX11_shared.data.toList.drop 0 = sxX11_shared_0 := rfl
theorem shX11_shared_1 : cX11_shared.data.toList.drop 1 = sxX11_shared_1 := dSn 1 shX11_shared_0
theorem shX11_shared_2 : cX11_shared.data.toList.drop 2 = sxX11_shared_2 := dSn 1 shX11_shared_1
theorem shX11_shared_5 : cX11_shared.data.toList.drop 5 = sxX11_shared_5 := dSn 3 shX11_shared_2
theorem shX11_shared_6 : cX11_shared.data.toList.drop 6 = sxX11_shared_6 := dSn 1 shX11_shared_5
theorem shX11_shared_7 : cX11_shared.data.toList.drop 7 = sxX11_shared_7 := dSn 1 shX11_shared_6
theorem shX11_shared_10 : cX11_shared.data.toList.drop 10 = sxX11_shared_10 := dSn 3 shX11_shared_7
theorem shX11_shared_13 : cX11_shared.data.toList.drop 13 = sxX11_shared_13 := dSn 3 shX11_shared_10
theorem shX11_shared_14 : cX11_shared.data.toList.drop 14 = sxX11_shared_14 := dSn 1 shX11_shared_13
theorem shX11_shared_17 : cX11_shared.data.toList.drop 17 = sxX11_shared_17 := dSn 3 shX11_shared_14
theorem shX11_shared_18 : cX11_shared.data.toList.drop 18 = sxX11_shared_18 := dSn 1 shX11_shared_17
theorem shX11_shared_20 : cX11_shared.data.toList.drop 20 = sxX11_shared_20 := dSn 2 shX11_shared_18
theorem shX11_shared_21 : cX11_shared.data.toList.drop 21 = sxX11_shared_21 := dSn 1 shX11_shared_20
theorem shX11_shared_24 : cX11_shared.data.toList.drop 24 = sxX11_shared_24 := dSn 3 shX11_shared_21
theorem shX11_shared_27 : cX11_shared.data.toList.drop 27 = sxX11_shared_27 := dSn 3 shX11_shared_24
theorem shX11_shared_28 : cX11_shared.data.toList.drop 28 = sxX11_shared_28 := dSn 1 shX11_shared_27
theorem shX11_shared_29 : cX11_shared.data.toList.drop 29 = sxX11_shared_29 := dSn 1 shX11_shared_28
theorem shX11_shared_32 : cX11_shared.data.toList.drop 32 = sxX11_shared_32 := dSn 3 shX11_shared_29
theorem shX11_shared_35 : cX11_shared.data.toList.drop 35 = sxX11_shared_35 := dSn 3 shX11_shared_32
theorem shX11_shared_38 : cX11_shared.data.toList.drop 38 = sxX11_shared_38 := dSn 3 shX11_shared_35
theorem shX11_shared_40 : cX11_shared.data.toList.drop 40 = sxX11_shared_40 := dSn 2 shX11_shared_38
theorem shX11_shared_43 : cX11_shared.data.toList.drop 43 = sxX11_shared_43 := dSn 3 shX11_shared_40
theorem shX11_shared_44 : cX11_shared.data.toList.drop 44 = sxX11_shared_44 := dSn 1 shX11_shared_43
theorem shX11_shared_45 : cX11_shared.data.toList.drop 45 = sxX11_shared_45 := dSn 1 shX11_shared_44
theorem shX11_shared_46 : cX11_shared.data.toList.drop 46 = sxX11_shared_46 := dSn 1 shX11_shared_45
theorem shX11_shared_47 : cX11_shared.data.toList.drop 47 = sxX11_shared_47 := dSn 1 shX11_shared_46
theorem shX11_shared_50 : cX11_shared.data.toList.drop 50 = sxX11_shared_50 := dSn 3 shX11_shared_47
theorem shX11_shared_53 : cX11_shared.data.toList.drop 53 = sxX11_shared_53 := dSn 3 shX11_shared_50
theorem shX11_shared_54 : cX11_shared.data.toList.drop 54 = sxX11_shared_54 := dSn 1 shX11_shared_53
theorem shX11_shared_55 : cX11_shared.data.toList.drop 55 = sxX11_shared_55 := dSn 1 shX11_shared_54
theorem shX11_shared_56 : cX11_shared.data.toList.drop 56 = sxX11_shared_56 := dSn 1 shX11_shared_55
theorem shX11_shared_58 : cX11_shared.data.toList.drop 58 = sxX11_shared_58 := dSn 2 shX11_shared_56
theorem shX11_shared_61 : cX11_shared.data.toList.drop 61 = sxX11_shared_61 := dSn 3 shX11_shared_58
theorem shX11_shared_64 : cX11_shared.data.toList.drop 64 = sxX11_shared_64 := dSn 3 shX11_shared_61
theorem shX11_shared_66 : cX11_shared.data.toList.drop 66 = sxX11_shared_66 := dSn 2 shX11_shared_64
theorem shX11_shared_67 : cX11_shared.data.toList.drop 67 = sxX11_shared_67 := dSn 1 shX11_shared_66
theorem shX11_shared_68 : cX11_shared.data.toList.drop 68 = sxX11_shared_68 := dSn 1 shX11_shared_67
theorem shX11_shared_69 : cX11_shared.data.toList.drop 69 = sxX11_shared_69 := dSn 1 shX11_shared_68
theorem shX11_shared_72 : cX11_shared.data.toList.drop 72 = sxX11_shared_72 := dSn 3 shX11_shared_69
theorem shX11_shared_74 : cX11_shared.data.toList.drop 74 = sxX11_shared_74 := dSn 2 shX11_shared_72
theorem shX11_shared_76 : cX11_shared.data.toList.drop 76 = sxX11_shared_76 := dSn 2 shX11_shared_74
theorem shX11_shared_77 : cX11_shared.data.toList.drop 77 = sxX11_shared_77 := dSn 1 shX11_shared_76
theorem shX11_shared_80 : cX11_shared.data.toList.drop 80 = sxX11_shared_80 := dSn 3 shX11_shared_77
theorem shX11_shared_82 : cX11_shared.data.toList.drop 82 = sxX11_shared_82 := dSn 2 shX11_shared_80
theorem shX11_shared_83 : cX11_shared.data.toList.drop 83 = sxX11_shared_83 := dSn 1 shX11_shared_82
theorem shX11_shared_84 : cX11_shared.data.toList.drop 84 = sxX11_shared_84 := dSn 1 shX11_shared_83
theorem shX11_shared_85 : cX11_shared.data.toList.drop 85 = sxX11_shared_85 := dSn 1 shX11_shared_84
theorem shX11_shared_88 : cX11_shared.data.toList.drop 88 = sxX11_shared_88 := dSn 3 shX11_shared_85
theorem shX11_shared_89 : cX11_shared.data.toList.drop 89 = sxX11_shared_89 := dSn 1 shX11_shared_88
theorem shX11_shared_91 : cX11_shared.data.toList.drop 91 = sxX11_shared_91 := dSn 2 shX11_shared_89
theorem shX11_shared_92 : cX11_shared.data.toList.drop 92 = sxX11_shared_92 := dSn 1 shX11_shared_91
theorem shX11_shared_95 : cX11_shared.data.toList.drop 95 = sxX11_shared_95 := dSn 3 shX11_shared_92
theorem shX11_shared_98 : cX11_shared.data.toList.drop 98 = sxX11_shared_98 := dSn 3 shX11_shared_95
theorem shX11_shared_99 : cX11_shared.data.toList.drop 99 = sxX11_shared_99 := dSn 1 shX11_shared_98
theorem shX11_shared_101 : cX11_shared.data.toList.drop 101 = sxX11_shared_101 := dSn 2 shX11_shared_99
theorem shX11_shared_102 : cX11_shared.data.toList.drop 102 = sxX11_shared_102 := dSn 1 shX11_shared_101
theorem shX11_shared_105 : cX11_shared.data.toList.drop 105 = sxX11_shared_105 := dSn 3 shX11_shared_102
theorem dX11_shared_0 : decode cX11_shared 0 = .ok (.iload_n 3, 1) := oc_29 shX11_shared_0
theorem dX11_shared_1 : decode cX11_shared 1 = .ok (.iconst (-1), 1) := oc_2 shX11_shared_1
theorem dX11_shared_2 : decode cX11_shared 2 = .ok (.if_icmp .eq 11, 3) := oc_159 shX11_shared_2 sgw_0_11
theorem dX11_shared_13 : decode cX11_shared 13 = .ok (.iconst 1, 1) := oc_4 shX11_shared_13
theorem dX11_shared_14 : decode cX11_shared 14 = .ok (.goto 4, 3) := oc_167 shX11_shared_14 sgw_0_4
theorem dX11_shared_18 : decode cX11_shared 18 = .ok (.istore 4, 2) := oc_54 shX11_shared_18
theorem dX11_shared_20 : decode cX11_shared 20 = .ok (.iload_n 1, 1) := oc_27 shX11_shared_20
theorem dX11_shared_21 : decode cX11_shared 21 = .ok (.invokestatic 99, 3) := oc_184 shX11_shared_21
theorem dX11_shared_24 : decode cX11_shared 24 = .ok (.ifCond .eq 19, 3) := oc_153 shX11_shared_24 sgw_0_19
theorem dX11_shared_27 : decode cX11_shared 27 = .ok (.iload_n 2, 1) := oc_28 shX11_shared_27
theorem dX11_shared_28 : decode cX11_shared 28 = .ok (.iconst 1, 1) := oc_4 shX11_shared_28
theorem dX11_shared_29 : decode cX11_shared 29 = .ok (.sipush 400, 3) := oc_17 shX11_shared_29 sgw_1_144
theorem dX11_shared_32 : decode cX11_shared 32 = .ok (.invokestatic 80, 3) := oc_184 shX11_shared_32
theorem dX11_shared_35 : decode cX11_shared 35 = .ok (.ifCond .eq 8, 3) := oc_153 shX11_shared_35 sgw_0_8
theorem dX11_shared_38 : decode cX11_shared 38 = .ok (.iload 4, 2) := oc_21 shX11_shared_38
theorem dX11_shared_40 : decode cX11_shared 40 = .ok (.ifCond .ne 5, 3) := oc_154 shX11_shared_40 sgw_0_5
theorem dX11_shared_45 : decode cX11_shared 45 = .ok (.aload_n 0, 1) := oc_42 shX11_shared_45
theorem dX11_shared_46 : decode cX11_shared 46 = .ok (.iload_n 1, 1) := oc_27 shX11_shared_46
theorem dX11_shared_47 : decode cX11_shared 47 = .ok (.invokevirtual 276, 3) := oc_182 shX11_shared_47
theorem dX11_shared_50 : decode cX11_shared 50 = .ok (.ifCond .eq 14, 3) := oc_153 shX11_shared_50 sgw_0_14
theorem dX11_shared_64 : decode cX11_shared 64 = .ok (.bipush (-2), 2) := oc_16 shX11_shared_64 sgb_254
theorem dX11_shared_66 : decode cX11_shared 66 = .ok (.ireturn, 1) := oc_172 shX11_shared_66
theorem dX11_shared_53 : decode cX11_shared 53 = .ok (.aload_n 0, 1) := oc_42 shX11_shared_53
theorem dX11_shared_54 : decode cX11_shared 54 = .ok (.iload_n 1, 1) := oc_27 shX11_shared_54
theorem dX11_shared_55 : decode cX11_shared 55 = .ok (.iload_n 2, 1) := oc_28 shX11_shared_55
theorem dX11_shared_56 : decode cX11_shared 56 = .ok (.bipush 6, 2) := oc_16 shX11_shared_56 sgb_6
theorem dX11_shared_58 : decode cX11_shared 58 = .ok (.invokevirtual 279, 3) := oc_182 shX11_shared_58
theorem dX11_shared_61 : decode cX11_shared 61 = .ok (.ifCond .ne 6, 3) := oc_154 shX11_shared_61 sgw_0_6
theorem dX11_shared_67 : decode cX11_shared 67 = .ok (.aload_n 0, 1) := oc_42 shX11_shared_67
theorem dX11_shared_68 : decode cX11_shared 68 = .ok (.iload_n 1, 1) := oc_27 shX11_shared_68
theorem dX11_shared_69 : decode cX11_shared 69 = .ok (.invokevirtual 324, 3) := oc_182 shX11_shared_69
theorem dX11_shared_72 : decode cX11_shared 72 = .ok (.istore 5, 2) := oc_54 shX11_shared_72
theorem dX11_shared_74 : decode cX11_shared 74 = .ok (.iload 5, 2) := oc_21 shX11_shared_74
theorem dX11_shared_76 : decode cX11_shared 76 = .ok (.iconst (-1), 1) := oc_2 shX11_shared_76
theorem dX11_shared_77 : decode cX11_shared 77 = .ok (.if_icmp .ne 6, 3) := oc_160 shX11_shared_77 sgw_0_6
theorem dX11_shared_83 : decode cX11_shared 83 = .ok (.iload_n 3, 1) := oc_29 shX11_shared_83
theorem dX11_shared_84 : decode cX11_shared 84 = .ok (.iconst (-1), 1) := oc_2 shX11_shared_84
theorem dX11_shared_85 : decode cX11_shared 85 = .ok (.if_icmp .ne 13, 3) := oc_160 shX11_shared_85 sgw_0_13
theorem dX11_shared_88 : decode cX11_shared 88 = .ok (.aload_n 0, 1) := oc_42 shX11_shared_88
theorem dX11_shared_89 : decode cX11_shared 89 = .ok (.iload 5, 2) := oc_21 shX11_shared_89
theorem dX11_shared_91 : decode cX11_shared 91 = .ok (.iload_n 1, 1) := oc_27 shX11_shared_91
theorem dX11_shared_92 : decode cX11_shared 92 = .ok (.invokevirtual 327, 3) := oc_182 shX11_shared_92
theorem dX11_shared_95 : decode cX11_shared 95 = .ok (.goto 10, 3) := oc_167 shX11_shared_95 sgw_0_10
theorem dX11_shared_105 : decode cX11_shared 105 = .ok (.ireturn, 1) := oc_172 shX11_shared_105
theorem dX11_shared_80 : decode cX11_shared 80 = .ok (.bipush (-2), 2) := oc_16 shX11_shared_80 sgb_254
theorem dX11_shared_82 : decode cX11_shared 82 = .ok (.ireturn, 1) := oc_172 shX11_shared_82
theorem dX11_shared_43 : decode cX11_shared 43 = .ok (.iconst (-1), 1) := oc_2 shX11_shared_43
theorem dX11_shared_44 : decode cX11_shared 44 = .ok (.ireturn, 1) := oc_172 shX11_shared_44
theorem dX11_shared_5 : decode cX11_shared 5 = .ok (.aload_n 0, 1) := oc_42 shX11_shared_5
theorem dX11_shared_6 : decode cX11_shared 6 = .ok (.iload_n 3, 1) := oc_29 shX11_shared_6
theorem dX11_shared_7 : decode cX11_shared 7 = .ok (.invokevirtual 114, 3) := oc_182 shX11_shared_7
theorem dX11_shared_10 : decode cX11_shared 10 = .ok (.ifnull 7, 3) := oc_198 shX11_shared_10 sgw_0_7
theorem dX11_shared_98 : decode cX11_shared 98 = .ok (.aload_n 0, 1) := oc_42 shX11_shared_98
theorem dX11_shared_99 : decode cX11_shared 99 = .ok (.iload 5, 2) := oc_21 shX11_shared_99
theorem dX11_shared_101 : decode cX11_shared 101 = .ok (.iload_n 3, 1) := oc_29 shX11_shared_101
theorem dX11_shared_102 : decode cX11_shared 102 = .ok (.invokevirtual 330, 3) := oc_182 shX11_shared_102
theorem dX11_shared_17 : decode cX11_shared 17 = .ok (.iconst 0, 1) := oc_3 shX11_shared_17
set_option maxRecDepth 100000 in
set_option maxHeartbeats 4000000 in
theorem q_Xchoose (l : Launch) (D : va_G) (cI cB cZ : ClassId) (n0 k0 : Nat) (hn : n0 ≤ 60) (hk : k0 ≤ 60) : Met l yX11_choose (CWS yX11_choose cX11_choose 6 (some .long)) (RM 1 0 0) (PBr [.int (nI n0), .int (nI k0)] D cI cB cZ []) (vp_Sl (fun _ => True)) 0 0 (fun _ => False) := by
  refine en_r rfl pn_RX11 (Nat.le_of_ble_eq_true rfl) (fun p e s m below meth c hx hb hml hown S hr hlocks hnm hP hK hS ls hl => ?_)
  have hl : lv_has ls 6 [(0, .int (nI n0)), (1, .int (nI k0))] := hl
  refine lv_iload_n hx hb dX11_choose_0 rfl (lvA1 hl) ?_
  have : (nI k0).toInt = ((k0 : Nat) : Int) := nI_toInt (by omega)
  refine lv_if_lt (tgt := 9) hx hb dX11_choose_1 rfl (fun c_1 => False.elim (by have tc_1 : ((nI k0).toInt : Int) < 0 := Int32.lt_iff_toInt_lt.mp c_1; omega)) (fun c_1 => ?_)
  have tc_1 : (0 : Int) ≤ (nI k0).toInt := Int32.le_iff_toInt_le.mp (Int32.not_lt.mp c_1)
  refine lv_iload_n hx hb dX11_choose_4 rfl (lvA1 hl) ?_
  refine lv_iload_n hx hb dX11_choose_5 rfl (lvA0 hl) ?_
  have : (nI n0).toInt = ((n0 : Nat) : Int) := nI_toInt (by omega)
  refine lv_icmp_le (tgt := 11) hx hb dX11_choose_6 rfl (fun c_2 => ?_) (fun c_2 => ?_)
  ·
    have tc_2 : ((nI k0).toInt : Int) ≤ (nI n0).toInt := Int32.le_iff_toInt_le.mp c_2
    refine lv_lconst (v := 1) hx hb dX11_choose_11 (by decide) ?_
    refine lv_lstore_n (lv' := [(2, .long 1), (0, .int (nI n0)), (1, .int (nI k0))]) hx hb dX11_choose_12 rfl hl (ltb rfl) rfl (fun ls hl => ?_)
    refine lv_iload_n hx hb dX11_choose_13 rfl (lvA2 hl) ?_
    refine lv_iload_n hx hb dX11_choose_14 rfl (lvA1 hl) ?_
    refine lv_iload_n hx hb dX11_choose_15 rfl (lvA2 hl) ?_
    refine lv_isub hx hb dX11_choose_16 ?_
    refine lv_topi (fun y_3 ey_3 => ?_)
    obtain rfl : y_3 = (nI (n0 - k0)) := ey_3.trans (nI_sub (by omega))
    refine va_mmin hx hb (by rw [hml]; exact hl.1.symm) hown (S.2.2.2.2 _ (wk4_3 7 rfl rfl)) (S.2.2.2.2 _ (wk2_13 10 rfl rfl)) (S.2.2.2.2 _ (wk1_0 3 rfl rfl)) (S.2.2.2.2 _ (wk2_13 11 rfl rfl)) (Nat.le_of_ble_eq_true rfl) (Nat.le_of_ble_eq_true rfl) (Nat.le_of_ble_eq_true rfl) (Nat.le_of_ble_eq_true rfl) dX11_choose_17 ?_
    refine lv_topi (fun y_4 ey_4 => ?_)
    obtain rfl : y_4 = (nI (min k0 (n0 - k0))) := ey_4.trans (minNI (by omega) (by omega))
    refine lv_istore (lv' := [(4, .int (nI (min k0 (n0 - k0)))), (2, .long 1), (0, .int (nI n0)), (1, .int (nI k0))]) hx hb dX11_choose_20 hl (ltb rfl) rfl (fun ls hl => ?_)
    refine lv_iconst (v := 0) hx hb dX11_choose_22 kic_0 ?_
    refine lv_istore (lv' := [(5, .int 0), (4, .int (nI (min k0 (n0 - k0)))), (2, .long 1), (0, .int (nI n0)), (1, .int (nI k0))]) hx hb dX11_choose_23 hl (ltb rfl) rfl (fun ls hl => ?_)
    have lp_25 : ∀ (n : Nat) (i25 : Nat) (x25_2 : Int64) , min k0 (n0 - k0) - i25 < n → (i25 ≤ min k0 (n0 - k0)) → ∀ ls : Array Slot, lv_has ls 6 [(5, .int (nI i25)), (4, .int (nI (min k0 (n0 - k0)))), (2, .long x25_2), (0, .int (nI n0)), (1, .int (nI k0))] → W p l e (RM 1 0 0) s m ([.int (nI n0), .int (nI k0)]).toArray below meth c s.heap [] 0 0 (MQ below (vp_Sl (fun _ => True)) ([.int (nI n0), .int (nI k0)]).toArray s 0 0 (fun _ => False)) (F0 m 25 ls []) := by
      intro n25
      induction n25 with
      | zero => intros; omega
      | succ n25 ih25 =>
        intro i25 x25_2 hmu25 hinv25 ls hl
        have hr25 := hinv25
        have ti25 : (nI i25).toInt = (i25 : Int) := nI_toInt (by omega)
        refine lv_iload hx hb dX11_choose_25 (lvA0 hl) ?_
        refine lv_iload hx hb dX11_choose_27 (lvA1 hl) ?_
        have : (nI (min k0 (n0 - k0))).toInt = (((min k0 (n0 - k0)) : Nat) : Int) := nI_toInt (by omega)
        refine lv_icmp_ge (tgt := 52) hx hb dX11_choose_29 rfl (fun c_5 => ?_) (fun c_5 => ?_)
        ·
          have tc_5 : ((nI (min k0 (n0 - k0))).toInt : Int) ≤ (nI i25).toInt := Int32.le_iff_toInt_le.mp c_5
          refine lv_lload_n hx hb dX11_choose_52 rfl (lvA2 hl) ?_
          exact W.lret (v := x25_2) hx hb hr (fun t ht hW => ⟨x25_2, rfl, trivial, ht⟩) (fun _ h => absurd h List.not_mem_nil) dX11_choose_53
        ·
          have tc_5 : ((nI i25).toInt : Int) < (nI (min k0 (n0 - k0))).toInt := Int32.lt_iff_toInt_lt.mp (Int32.not_le.mp c_5)
          refine lv_lload_n hx hb dX11_choose_32 rfl (lvA2 hl) ?_
          refine lv_iload_n hx hb dX11_choose_33 rfl (lvA3 hl) ?_
          refine lv_iload hx hb dX11_choose_34 (lvA0 hl) ?_
          refine lv_isub hx hb dX11_choose_36 ?_
          refine lv_topi (fun y_6 ey_6 => ?_)
          obtain rfl : y_6 = (nI (n0 - i25)) := ey_6.trans (nI_sub (by omega))
          refine lv_i2l (v := (lN (n0 - i25))) hx hb dX11_choose_37 (nI_l (by omega)) ?_
          refine lv_lmul hx hb dX11_choose_38 ?_
          refine lv_iload hx hb dX11_choose_39 (lvA0 hl) ?_
          refine lv_iconst (v := 1) hx hb dX11_choose_41 kic_1 ?_
          refine lv_iadd hx hb dX11_choose_42 ?_
          refine lv_topi (fun y_7 ey_7 => ?_)
          obtain rfl : y_7 = (nI (i25 + 1)) := ey_7.trans (nI_add i25 1)
          refine lv_i2l (v := (lN (i25 + 1))) hx hb dX11_choose_43 (nI_l (by omega)) ?_
          refine lv_ldiv hx hb dX11_choose_44 (lN_ne (by omega) (by omega)) ?_
          refine lv_lstore_n (lv' := [(2, .long ((x25_2 * (lN (n0 - i25))) / (lN (i25 + 1)))), (5, .int (nI i25)), (4, .int (nI (min k0 (n0 - k0)))), (0, .int (nI n0)), (1, .int (nI k0))]) hx hb dX11_choose_45 rfl hl (ltb rfl) rfl (fun ls hl => ?_)
          refine lv_iinc (v := (nI (i25 + 1))) (lv' := [(5, .int (nI (i25 + 1))), (2, .long ((x25_2 * (lN (n0 - i25))) / (lN (i25 + 1)))), (4, .int (nI (min k0 (n0 - k0)))), (0, .int (nI n0)), (1, .int (nI k0))]) hx hb dX11_choose_46 hl (k := 1) rfl (nI_1 _) (ltb rfl) rfl (fun ls hl => ?_)
          refine lv_goto (tgt := 25) hx hb dX11_choose_49 rfl ?_
          exact ih25 (i25 + 1) ((x25_2 * (lN (n0 - i25))) / (lN (i25 + 1))) (by omega) (by omega) ls (lv_sub hl [0, 2, 1, 3, 4] rfl)
    exact lp_25 _ 0 1 (Nat.lt_succ_self _) (by omega) ls (lv_sub hl [0, 1, 2, 3, 4] rfl)
  ·
    have tc_2 : ((nI n0).toInt : Int) < (nI k0).toInt := Int32.lt_iff_toInt_lt.mp (Int32.not_le.mp c_2)
    refine lv_lconst (v := 0) hx hb dX11_choose_9 (by decide) ?_
    exact W.lret (v := 0) hx hb hr (fun t ht hW => ⟨0, rfl, trivial, ht⟩) (fun _ h => absurd h List.not_mem_nil) dX11_choose_10
set_option maxRecDepth 100000 in
set_option maxHeartbeats 4000000 in
theorem q_Xdivisor (l : Launch) (D : va_G) (cI cB cZ : ClassId) (v0 v1 : Int64)  : Met l yX11_divisor (CWS yX11_divisor cX11_divisor 7 (some .long)) (RM 0 0 0) (PBr [.long v0, .long v1] D cI cB cZ []) (vp_Sl (fun _ => True)) 0 0 (fun _ => False) := by
  refine en_r rfl pn_RX11 (Nat.le_of_ble_eq_true rfl) (fun p e s m below meth c hx hb hml hown S hr hlocks hnm hP hK hS ls hl => ?_)
  have hl : lv_has ls 7 [(0, .long v0), (2, .long v1)] := hl
  refine lv_iconst (v := 0) hx hb dX11_divisor_0 kic_0 ?_
  refine lv_istore (lv' := [(4, .int 0), (0, .long v0), (2, .long v1)]) hx hb dX11_divisor_1 hl (ltb rfl) rfl (fun ls hl => ?_)
  have lp_3 : ∀ (n : Nat) (i3 : Nat) (x3_0 : Int64) (x3_2 : Int64) , 200 - i3 < n → (i3 ≤ 200) → ∀ ls : Array Slot, lv_has ls 7 [(4, .int (nI i3)), (0, .long x3_0), (2, .long x3_2)] → W p l e (RM 0 0 0) s m ([.long v0, .long v1]).toArray below meth c s.heap [] 0 0 (MQ below (vp_Sl (fun _ => True)) ([.long v0, .long v1]).toArray s 0 0 (fun _ => False)) (F0 m 3 ls []) := by
    intro n3
    induction n3 with
    | zero => intros; omega
    | succ n3 ih3 =>
      intro i3 x3_0 x3_2 hmu3 hinv3 ls hl
      have hr3 := hinv3
      have ti3 : (nI i3).toInt = (i3 : Int) := nI_toInt (by omega)
      refine lv_iload hx hb dX11_divisor_3 (lvA0 hl) ?_
      refine lv_sipush (v := 200) hx hb dX11_divisor_5 (by decide) ?_
      refine lv_icmp_ge (tgt := 33) hx hb dX11_divisor_8 rfl (fun c_1 => ?_) (fun c_1 => ?_)
      ·
        have tc_1 : (200 : Int) ≤ (nI i3).toInt := Int32.le_iff_toInt_le.mp c_1
        refine lv_lload_n hx hb dX11_divisor_33 rfl (lvA1 hl) ?_
        exact W.lret (v := x3_0) hx hb hr (fun t ht hW => ⟨x3_0, rfl, trivial, ht⟩) (fun _ h => absurd h List.not_mem_nil) dX11_divisor_34
      ·
        have tc_1 : ((nI i3).toInt : Int) < 200 := Int32.lt_iff_toInt_lt.mp (Int32.not_le.mp c_1)
        refine lv_lload_n hx hb dX11_divisor_11 rfl (lvA2 hl) ?_
        refine lv_lconst (v := 0) hx hb dX11_divisor_12 (by decide) ?_
        refine W.lcmp hx hb dX11_divisor_13 ?_
        refine lv_topi (fun y_2 ey_2 => ?_)
        have zy_2 : y_2 = 0 ↔ x3_2 = 0 := lcmp0 ey_2
        refine lv_if_eq (tgt := 33) hx hb dX11_divisor_14 rfl (fun c_3 => ?_) (fun c_3 => ?_)
        ·
          have tc_3 : (y_2.toInt : Int) = 0 := congrArg Int32.toInt c_3
          refine lv_lload_n hx hb dX11_divisor_33 rfl (lvA1 hl) ?_
          exact W.lret (v := x3_0) hx hb hr (fun t ht hW => ⟨x3_0, rfl, trivial, ht⟩) (fun _ h => absurd h List.not_mem_nil) dX11_divisor_34
        ·
          have tc_3 : (y_2.toInt : Int) ≠ 0 := fun q => c_3 (Int32.toInt_inj.mp q)
          refine lv_lload_n hx hb dX11_divisor_17 rfl (lvA1 hl) ?_
          refine lv_lload_n hx hb dX11_divisor_18 rfl (lvA2 hl) ?_
          refine lv_lrem hx hb dX11_divisor_19 (fun q => absurd (Iff.mpr (by assumption) q) (by assumption)) ?_
          refine lv_lstore (lv' := [(5, .long (x3_0 - x3_0 / x3_2 * x3_2)), (4, .int (nI i3)), (0, .long x3_0), (2, .long x3_2)]) hx hb dX11_divisor_20 hl (ltb rfl) rfl (fun ls hl => ?_)
          refine lv_lload_n hx hb dX11_divisor_22 rfl (lvA3 hl) ?_
          refine lv_lstore_n (lv' := [(0, .long x3_2), (5, .long (x3_0 - x3_0 / x3_2 * x3_2)), (4, .int (nI i3)), (2, .long x3_2)]) hx hb dX11_divisor_23 rfl hl (ltb rfl) rfl (fun ls hl => ?_)
          refine lv_lload hx hb dX11_divisor_24 (lvA1 hl) ?_
          refine lv_lstore_n (lv' := [(2, .long (x3_0 - x3_0 / x3_2 * x3_2)), (0, .long x3_2), (5, .long (x3_0 - x3_0 / x3_2 * x3_2)), (4, .int (nI i3))]) hx hb dX11_divisor_26 rfl hl (ltb rfl) rfl (fun ls hl => ?_)
          refine lv_iinc (v := (nI (i3 + 1))) (lv' := [(4, .int (nI (i3 + 1))), (2, .long (x3_0 - x3_0 / x3_2 * x3_2)), (0, .long x3_2), (5, .long (x3_0 - x3_0 / x3_2 * x3_2))]) hx hb dX11_divisor_27 hl (k := 3) rfl (nI_1 _) (ltb rfl) rfl (fun ls hl => ?_)
          refine lv_goto (tgt := 3) hx hb dX11_divisor_30 rfl ?_
          exact ih3 (i3 + 1) x3_2 (x3_0 - x3_0 / x3_2 * x3_2) (by omega) (by omega) ls (lv_sub hl [0, 2, 1] rfl)
  exact lp_3 _ 0 v0 v1 (Nat.lt_succ_self _) (by omega) ls (lv_sub hl [0, 1, 2] rfl)
set_option maxRecDepth 100000 in
set_option maxHeartbeats 4000000 in
theorem q_Xodds (l : Launch) (D : va_G) (cI cB cZ : ClassId) (a0 o0 b0 l0 : Nat) (v4 : Int32) (ha : a0 ≤ l0) (ho : o0 ≤ l0) (hl0 : l0 ≤ 60) (hb0 : b0 ≤ 60) : Met l yX11_odds (CWS yX11_odds cX11_odds 11 (some .long)) (RM 2 0 0) (PBr [.int (nI a0), .int (nI o0), .int (nI b0), .int (nI l0), .int v4] D cI cB cZ []) (vp_Sl (fun _ => True)) 0 0 (fun _ => False) := by
  refine en_r rfl pn_RX11 (Nat.le_of_ble_eq_true rfl) (fun p e s m below meth c hx hb hml hown S hr hlocks hnm hP hK hS ls hl => ?_)
  have hl : lv_has ls 11 [(0, .int (nI a0)), (1, .int (nI o0)), (2, .int (nI b0)), (3, .int (nI l0)), (4, .int v4)] := hl
  refine lv_iload hx hb dX11_odds_0 (lvA4 hl) ?_
  refine lv_iconst (v := 2) hx hb dX11_odds_2 kic_2 ?_
  refine lv_icmp_ne (tgt := 9) hx hb dX11_odds_3 rfl (fun c_1 => ?_) (fun c_1 => ?_)
  ·
    have tc_1 : (v4.toInt : Int) ≠ 2 := fun q => c_1 (Int32.toInt_inj.mp q)
    refine lv_lconst (v := 0) hx hb dX11_odds_9 (by decide) ?_
    refine lv_lstore (lv' := [(5, .long 0), (0, .int (nI a0)), (1, .int (nI o0)), (2, .int (nI b0)), (3, .int (nI l0)), (4, .int v4)]) hx hb dX11_odds_10 hl (ltb rfl) rfl (fun ls hl => ?_)
    refine lv_iload_n hx hb dX11_odds_12 rfl (lvA3 hl) ?_
    refine lv_istore (lv' := [(7, .int (nI b0)), (5, .long 0), (0, .int (nI a0)), (1, .int (nI o0)), (2, .int (nI b0)), (3, .int (nI l0)), (4, .int v4)]) hx hb dX11_odds_13 hl (ltb rfl) rfl (fun ls hl => ?_)
    have lp_15 : ∀ (n : Nat) (i15 : Nat) (x15_5 : Int64) , 61 - i15 < n → ((b0 ≤ i15 ∧ i15 ≤ 61)) → ∀ ls : Array Slot, lv_has ls 11 [(7, .int (nI i15)), (5, .long x15_5), (0, .int (nI a0)), (1, .int (nI o0)), (2, .int (nI b0)), (3, .int (nI l0)), (4, .int v4)] → W p l e (RM 2 0 0) s m ([.int (nI a0), .int (nI o0), .int (nI b0), .int (nI l0), .int v4]).toArray below meth c s.heap [] 0 0 (MQ below (vp_Sl (fun _ => True)) ([.int (nI a0), .int (nI o0), .int (nI b0), .int (nI l0), .int v4]).toArray s 0 0 (fun _ => False)) (F0 m 15 ls []) := by
      intro n15
      induction n15 with
      | zero => intros; omega
      | succ n15 ih15 =>
        intro i15 x15_5 hmu15 hinv15 ls hl
        have hr15 := hinv15
        have ti15 : (nI i15).toInt = (i15 : Int) := nI_toInt (by omega)
        refine lv_iload hx hb dX11_odds_15 (lvA0 hl) ?_
        refine lv_iload_n hx hb dX11_odds_17 rfl (lvA3 hl) ?_
        have : (nI o0).toInt = ((o0 : Nat) : Int) := nI_toInt (by omega)
        refine lv_icmp_gt (tgt := 55) hx hb dX11_odds_18 rfl (fun c_2 => ?_) (fun c_2 => ?_)
        ·
          have tc_2 : ((nI o0).toInt : Int) < (nI i15).toInt := Int32.lt_iff_toInt_lt.mp c_2
          refine lv_iload_n hx hb dX11_odds_55 rfl (lvA5 hl) ?_
          refine lv_iload_n hx hb dX11_odds_56 rfl (lvA3 hl) ?_
          refine vp_callSl (runS_r (As := [.int (nI l0), .int (nI o0)]) (rest := []) S (q_Xchoose l D cI cB cZ l0 o0 (by omega) (by omega)) kS_RX11_246 hK hP [] rfl ⟨Nat.le_of_ble_eq_true rfl, Nat.le_of_ble_eq_true rfl⟩ ⟨Nat.le_of_ble_eq_true rfl, Nat.le_of_ble_eq_true rfl⟩ rfl hl.1 rfl (Nat.le_of_ble_eq_true rfl) dX11_odds_57) (fun r_3 h_4 => ?_)
          refine lv_lstore (lv' := [(7, .long r_3), (5, .long x15_5), (0, .int (nI a0)), (1, .int (nI o0)), (2, .int (nI b0)), (3, .int (nI l0)), (4, .int v4)]) hx hb dX11_odds_60 hl (ltb rfl) rfl (fun ls hl => ?_)
          refine lv_lload hx hb dX11_odds_62 (lvA1 hl) ?_
          refine lv_lload hx hb dX11_odds_64 (lvA0 hl) ?_
          refine vp_callSl (runS_r (As := [.long x15_5, .long r_3]) (rest := []) S (q_Xdivisor l D cI cB cZ x15_5 r_3 ) kS_RX11_250 hK hP [] rfl ⟨Nat.le_of_ble_eq_true rfl, Nat.le_of_ble_eq_true rfl⟩ ⟨Nat.le_of_ble_eq_true rfl, Nat.le_of_ble_eq_true rfl⟩ rfl hl.1 rfl (Nat.le_of_ble_eq_true rfl) dX11_odds_66) (fun r_5 h_6 => ?_)
          refine lv_lstore (lv' := [(9, .long r_5), (7, .long r_3), (5, .long x15_5), (0, .int (nI a0)), (1, .int (nI o0)), (2, .int (nI b0)), (3, .int (nI l0)), (4, .int v4)]) hx hb dX11_odds_69 hl (ltb rfl) rfl (fun ls hl => ?_)
          refine lv_lload hx hb dX11_odds_71 (lvA0 hl) ?_
          refine lv_lconst (v := 0) hx hb dX11_odds_73 (by decide) ?_
          refine W.lcmp hx hb dX11_odds_74 ?_
          refine lv_topi (fun y_7 ey_7 => ?_)
          have zy_7 : y_7 = 0 ↔ r_5 = 0 := lcmp0 ey_7
          refine lv_if_ne (tgt := 82) hx hb dX11_odds_75 rfl (fun c_8 => ?_) (fun c_8 => ?_)
          ·
            have tc_8 : (y_7.toInt : Int) ≠ 0 := fun q => c_8 (Int32.toInt_inj.mp q)
            refine lv_iload hx hb dX11_odds_82 (lvA7 hl) ?_
            refine lv_if_ne (tgt := 95) hx hb dX11_odds_84 rfl (fun c_9 => ?_) (fun c_9 => ?_)
            ·
              have tc_9 : (v4.toInt : Int) ≠ 0 := fun q => c_9 (Int32.toInt_inj.mp q)
              refine lv_lload hx hb dX11_odds_95 (lvA1 hl) ?_
              refine lv_lload hx hb dX11_odds_97 (lvA0 hl) ?_
              refine lv_ldiv hx hb dX11_odds_99 (fun q => absurd (Iff.mpr (by assumption) q) (by assumption)) ?_
              exact W.lret (v := (r_3 / r_5)) hx hb hr (fun t ht hW => ⟨(r_3 / r_5), rfl, trivial, ht⟩) (fun _ h => absurd h List.not_mem_nil) dX11_odds_100
            ·
              have tc_9 : (v4.toInt : Int) = 0 := congrArg Int32.toInt c_9
              refine lv_lload hx hb dX11_odds_87 (lvA2 hl) ?_
              refine lv_lload hx hb dX11_odds_89 (lvA0 hl) ?_
              refine lv_ldiv hx hb dX11_odds_91 (fun q => absurd (Iff.mpr (by assumption) q) (by assumption)) ?_
              refine lv_goto (tgt := 100) hx hb dX11_odds_92 rfl ?_
              exact W.lret (v := (x15_5 / r_5)) hx hb hr (fun t ht hW => ⟨(x15_5 / r_5), rfl, trivial, ht⟩) (fun _ h => absurd h List.not_mem_nil) dX11_odds_100
          ·
            have tc_8 : (y_7.toInt : Int) = 0 := congrArg Int32.toInt c_8
            refine lv_ldc2 (v := (-1)) hx hb hown (S.2.2.2.2 _ (wk4_5 1 rfl rfl)) dX11_odds_78 ?_
            exact W.lret (v := (-1)) hx hb hr (fun t ht hW => ⟨(-1), rfl, trivial, ht⟩) (fun _ h => absurd h List.not_mem_nil) dX11_odds_81
        ·
          have tc_2 : ((nI i15).toInt : Int) ≤ (nI o0).toInt := Int32.le_iff_toInt_le.mp (Int32.not_lt.mp c_2)
          refine lv_iload hx hb dX11_odds_21 (lvA0 hl) ?_
          refine lv_iload_n hx hb dX11_odds_23 rfl (lvA2 hl) ?_
          have : (nI a0).toInt = ((a0 : Nat) : Int) := nI_toInt (by omega)
          refine lv_icmp_gt (tgt := 55) hx hb dX11_odds_24 rfl (fun c_10 => ?_) (fun c_10 => ?_)
          ·
            have tc_10 : ((nI a0).toInt : Int) < (nI i15).toInt := Int32.lt_iff_toInt_lt.mp c_10
            refine lv_iload_n hx hb dX11_odds_55 rfl (lvA5 hl) ?_
            refine lv_iload_n hx hb dX11_odds_56 rfl (lvA3 hl) ?_
            refine vp_callSl (runS_r (As := [.int (nI l0), .int (nI o0)]) (rest := []) S (q_Xchoose l D cI cB cZ l0 o0 (by omega) (by omega)) kS_RX11_246 hK hP [] rfl ⟨Nat.le_of_ble_eq_true rfl, Nat.le_of_ble_eq_true rfl⟩ ⟨Nat.le_of_ble_eq_true rfl, Nat.le_of_ble_eq_true rfl⟩ rfl hl.1 rfl (Nat.le_of_ble_eq_true rfl) dX11_odds_57) (fun r_11 h_12 => ?_)
            refine lv_lstore (lv' := [(7, .long r_11), (5, .long x15_5), (0, .int (nI a0)), (1, .int (nI o0)), (2, .int (nI b0)), (3, .int (nI l0)), (4, .int v4)]) hx hb dX11_odds_60 hl (ltb rfl) rfl (fun ls hl => ?_)
            refine lv_lload hx hb dX11_odds_62 (lvA1 hl) ?_
            refine lv_lload hx hb dX11_odds_64 (lvA0 hl) ?_
            refine vp_callSl (runS_r (As := [.long x15_5, .long r_11]) (rest := []) S (q_Xdivisor l D cI cB cZ x15_5 r_11 ) kS_RX11_250 hK hP [] rfl ⟨Nat.le_of_ble_eq_true rfl, Nat.le_of_ble_eq_true rfl⟩ ⟨Nat.le_of_ble_eq_true rfl, Nat.le_of_ble_eq_true rfl⟩ rfl hl.1 rfl (Nat.le_of_ble_eq_true rfl) dX11_odds_66) (fun r_13 h_14 => ?_)
            refine lv_lstore (lv' := [(9, .long r_13), (7, .long r_11), (5, .long x15_5), (0, .int (nI a0)), (1, .int (nI o0)), (2, .int (nI b0)), (3, .int (nI l0)), (4, .int v4)]) hx hb dX11_odds_69 hl (ltb rfl) rfl (fun ls hl => ?_)
            refine lv_lload hx hb dX11_odds_71 (lvA0 hl) ?_
            refine lv_lconst (v := 0) hx hb dX11_odds_73 (by decide) ?_
            refine W.lcmp hx hb dX11_odds_74 ?_
            refine lv_topi (fun y_15 ey_15 => ?_)
            have zy_15 : y_15 = 0 ↔ r_13 = 0 := lcmp0 ey_15
            refine lv_if_ne (tgt := 82) hx hb dX11_odds_75 rfl (fun c_16 => ?_) (fun c_16 => ?_)
            ·
              have tc_16 : (y_15.toInt : Int) ≠ 0 := fun q => c_16 (Int32.toInt_inj.mp q)
              refine lv_iload hx hb dX11_odds_82 (lvA7 hl) ?_
              refine lv_if_ne (tgt := 95) hx hb dX11_odds_84 rfl (fun c_17 => ?_) (fun c_17 => ?_)
              ·
                have tc_17 : (v4.toInt : Int) ≠ 0 := fun q => c_17 (Int32.toInt_inj.mp q)
                refine lv_lload hx hb dX11_odds_95 (lvA1 hl) ?_
                refine lv_lload hx hb dX11_odds_97 (lvA0 hl) ?_
                refine lv_ldiv hx hb dX11_odds_99 (fun q => absurd (Iff.mpr (by assumption) q) (by assumption)) ?_
                exact W.lret (v := (r_11 / r_13)) hx hb hr (fun t ht hW => ⟨(r_11 / r_13), rfl, trivial, ht⟩) (fun _ h => absurd h List.not_mem_nil) dX11_odds_100
              ·
                have tc_17 : (v4.toInt : Int) = 0 := congrArg Int32.toInt c_17
                refine lv_lload hx hb dX11_odds_87 (lvA2 hl) ?_
                refine lv_lload hx hb dX11_odds_89 (lvA0 hl) ?_
                refine lv_ldiv hx hb dX11_odds_91 (fun q => absurd (Iff.mpr (by assumption) q) (by assumption)) ?_
                refine lv_goto (tgt := 100) hx hb dX11_odds_92 rfl ?_
                exact W.lret (v := (x15_5 / r_13)) hx hb hr (fun t ht hW => ⟨(x15_5 / r_13), rfl, trivial, ht⟩) (fun _ h => absurd h List.not_mem_nil) dX11_odds_100
            ·
              have tc_16 : (y_15.toInt : Int) = 0 := congrArg Int32.toInt c_16
              refine lv_ldc2 (v := (-1)) hx hb hown (S.2.2.2.2 _ (wk4_5 1 rfl rfl)) dX11_odds_78 ?_
              exact W.lret (v := (-1)) hx hb hr (fun t ht hW => ⟨(-1), rfl, trivial, ht⟩) (fun _ h => absurd h List.not_mem_nil) dX11_odds_81
          ·
            have tc_10 : ((nI i15).toInt : Int) ≤ (nI a0).toInt := Int32.le_iff_toInt_le.mp (Int32.not_lt.mp c_10)
            refine lv_lload hx hb dX11_odds_27 (lvA1 hl) ?_
            refine lv_iload_n hx hb dX11_odds_29 rfl (lvA2 hl) ?_
            refine lv_iload hx hb dX11_odds_30 (lvA0 hl) ?_
            refine vp_callSl (runS_r (As := [.int (nI a0), .int (nI i15)]) (rest := [.long x15_5]) S (q_Xchoose l D cI cB cZ a0 i15 (by omega) (by omega)) kS_RX11_246 hK hP [] rfl ⟨Nat.le_of_ble_eq_true rfl, Nat.le_of_ble_eq_true rfl⟩ ⟨Nat.le_of_ble_eq_true rfl, Nat.le_of_ble_eq_true rfl⟩ rfl hl.1 rfl (Nat.le_of_ble_eq_true rfl) dX11_odds_32) (fun r_18 h_19 => ?_)
            refine lv_iload_n hx hb dX11_odds_35 rfl (lvA5 hl) ?_
            refine lv_iload_n hx hb dX11_odds_36 rfl (lvA2 hl) ?_
            refine lv_isub hx hb dX11_odds_37 ?_
            refine lv_topi (fun y_20 ey_20 => ?_)
            obtain rfl : y_20 = (nI (l0 - a0)) := ey_20.trans (nI_sub (by omega))
            refine lv_iload_n hx hb dX11_odds_38 rfl (lvA3 hl) ?_
            refine lv_iload hx hb dX11_odds_39 (lvA0 hl) ?_
            refine lv_isub hx hb dX11_odds_41 ?_
            refine lv_topi (fun y_21 ey_21 => ?_)
            obtain rfl : y_21 = (nI (o0 - i15)) := ey_21.trans (nI_sub (by omega))
            refine vp_callSl (runS_r (As := [.int (nI (l0 - a0)), .int (nI (o0 - i15))]) (rest := [.long r_18, .long x15_5]) S (q_Xchoose l D cI cB cZ (l0 - a0) (o0 - i15) (by omega) (by omega)) kS_RX11_246 hK hP [] rfl ⟨Nat.le_of_ble_eq_true rfl, Nat.le_of_ble_eq_true rfl⟩ ⟨Nat.le_of_ble_eq_true rfl, Nat.le_of_ble_eq_true rfl⟩ rfl hl.1 rfl (Nat.le_of_ble_eq_true rfl) dX11_odds_42) (fun r_22 h_23 => ?_)
            refine lv_lmul hx hb dX11_odds_45 ?_
            refine lv_ladd hx hb dX11_odds_46 ?_
            refine lv_lstore (lv' := [(5, .long (x15_5 + (r_18 * r_22))), (7, .int (nI i15)), (0, .int (nI a0)), (1, .int (nI o0)), (2, .int (nI b0)), (3, .int (nI l0)), (4, .int v4)]) hx hb dX11_odds_47 hl (ltb rfl) rfl (fun ls hl => ?_)
            refine lv_iinc (v := (nI (i15 + 1))) (lv' := [(7, .int (nI (i15 + 1))), (5, .long (x15_5 + (r_18 * r_22))), (0, .int (nI a0)), (1, .int (nI o0)), (2, .int (nI b0)), (3, .int (nI l0)), (4, .int v4)]) hx hb dX11_odds_49 hl (k := 1) rfl (nI_1 _) (ltb rfl) rfl (fun ls hl => ?_)
            refine lv_goto (tgt := 15) hx hb dX11_odds_52 rfl ?_
            exact ih15 (i15 + 1) (x15_5 + (r_18 * r_22)) (by omega) (by omega) ls (lv_sub hl [0, 1, 2, 3, 4, 5, 6] rfl)
    exact lp_15 _ b0 0 (Nat.lt_succ_self _) (by omega) ls (lv_sub hl [0, 1, 2, 3, 4, 5, 6] rfl)
  ·
    have tc_1 : (v4.toInt : Int) = 2 := congrArg Int32.toInt c_1
    refine lv_iload_n hx hb dX11_odds_6 rfl (lvA2 hl) ?_
    refine lv_i2l (v := (lN b0)) hx hb dX11_odds_7 (nI_l (by omega)) ?_
    exact W.lret (v := (lN b0)) hx hb hr (fun t ht hW => ⟨(lN b0), rfl, trivial, ht⟩) (fun _ h => absurd h List.not_mem_nil) dX11_odds_8
set_option maxRecDepth 100000 in
set_option maxHeartbeats 4000000 in
theorem q_Xbeyond (l : Launch) (D : va_G) (cI cB cZ : ClassId) (zz qq vv : Nat) (bt : Nat → Int32) (g : Nat → Nat) (ad : Nat → Nat → Nat) (cn : Nat → Nat) (In : Nat → Int32) (Fn : Nat → Nat → Int32) (v0 v1 : Int32) (hB : CBX cn) : Met l yX11_beyond (CWS yX11_beyond cX11_beyond 9 (some .long)) (RM 4 0 0) (PBrx [.ref (g 0), .int v0, .int v1] D cI cB cZ zz qq vv bt (wX cI (D.1 99) zz g ad cn In Fn)) (vp_Sl (fun _ => True)) 0 0 (fun _ => False) := by
  refine en_rx rfl pn_RX11 (Nat.le_of_ble_eq_true rfl) (fun p e s m below meth c hx hb hml hown S hr hlocks hnm hP hK hXS hS ls hl => ?_)
  have hl : lv_has ls 9 [(0, .ref (g 0)), (1, .int v0), (2, .int v1)] := hl
  have hb_cn : Hid (CBX cn) := hB
  replace hB : CBXh cn := hB
  refine lv_iload_n hx hb dX11_beyond_0 rfl (lvA1 hl) ?_
  refine lv_iconst (v := 0) hx hb dX11_beyond_1 kic_0 ?_
  refine lv_bipush (v := 6) hx hb dX11_beyond_2 kbc_6 ?_
  refine vp_callSi (runS_r (As := [.int v0, .int 0, .int 6]) (rest := []) S (q_l_within l D cI cB cZ v0 0 6) kS_RX11_80 hK hP [] rfl ⟨Nat.le_of_ble_eq_true rfl, Nat.le_of_ble_eq_true rfl⟩ ⟨Nat.le_of_ble_eq_true rfl, Nat.le_of_ble_eq_true rfl⟩ rfl hl.1 rfl (Nat.le_of_ble_eq_true rfl) dX11_beyond_4) (fun r_1 h_2 => ?_)
  rcases h_2 with ⟨rfl, h_2⟩ | ⟨rfl, h_2⟩
  ·
    have h_2 : 0 ≤ v0.toInt ∧ v0.toInt ≤ 6 := h_2
    refine lv_if_eq (tgt := 19) hx hb dX11_beyond_7 rfl (fun h => absurd h cq_eq_1_0) (fun _ => ?_)
    refine lv_iload_n hx hb dX11_beyond_10 rfl (lvA2 hl) ?_
    refine lv_iconst (v := 0) hx hb dX11_beyond_11 kic_0 ?_
    refine lv_iconst (v := 2) hx hb dX11_beyond_12 kic_2 ?_
    refine vp_callSi (runS_r (As := [.int v1, .int 0, .int 2]) (rest := []) S (q_l_within l D cI cB cZ v1 0 2) kS_RX11_80 hK hP [] rfl ⟨Nat.le_of_ble_eq_true rfl, Nat.le_of_ble_eq_true rfl⟩ ⟨Nat.le_of_ble_eq_true rfl, Nat.le_of_ble_eq_true rfl⟩ rfl hl.1 rfl (Nat.le_of_ble_eq_true rfl) dX11_beyond_13) (fun r_3 h_4 => ?_)
    rcases h_4 with ⟨rfl, h_4⟩ | ⟨rfl, h_4⟩
    ·
      have h_4 : 0 ≤ v1.toInt ∧ v1.toInt ≤ 2 := h_4
      refine lv_if_ne (tgt := 23) hx hb dX11_beyond_16 rfl (fun _ => ?_) (fun h => absurd h cq_eq_1_0)
      refine lv_iconst (v := 0) hx hb dX11_beyond_23 kic_0 ?_
      refine lv_istore_n (lv' := [(3, .int 0), (0, .ref (g 0)), (1, .int v0), (2, .int v1)]) hx hb dX11_beyond_24 rfl hl (ltb rfl) rfl (fun ls hl => ?_)
      refine lv_iconst (v := 0) hx hb dX11_beyond_25 kic_0 ?_
      refine lv_istore (lv' := [(4, .int 0), (3, .int 0), (0, .ref (g 0)), (1, .int v0), (2, .int v1)]) hx hb dX11_beyond_26 hl (ltb rfl) rfl (fun ls hl => ?_)
      refine lv_iconst (v := 0) hx hb dX11_beyond_28 kic_0 ?_
      refine lv_istore (lv' := [(5, .int 0), (4, .int 0), (3, .int 0), (0, .ref (g 0)), (1, .int v0), (2, .int v1)]) hx hb dX11_beyond_29 hl (ltb rfl) rfl (fun ls hl => ?_)
      refine lv_iconst (v := 0) hx hb dX11_beyond_31 kic_0 ?_
      refine lv_istore (lv' := [(6, .int 0), (5, .int 0), (4, .int 0), (3, .int 0), (0, .ref (g 0)), (1, .int v0), (2, .int v1)]) hx hb dX11_beyond_32 hl (ltb rfl) rfl (fun ls hl => ?_)
      have lp_34 : ∀ (n : Nat) (i34 : Nat) (n3 : Nat) (n4 : Nat) (n5 : Nat) , cn 11 - i34 < n → (i34 ≤ cn 11 ∧ (n3 ≤ i34 ∧ n4 ≤ i34 ∧ n5 ≤ i34)) → ∀ ls : Array Slot, lv_has ls 9 [(6, .int (nI i34)), (5, .int (nI n5)), (4, .int (nI n4)), (3, .int (nI n3)), (0, .ref (g 0)), (1, .int v0), (2, .int v1)] → W p l e (RM 4 0 0) s m ([.ref (g 0), .int v0, .int v1]).toArray below meth c s.heap [] 0 0 (MQ below (vp_Sl (fun _ => True)) ([.ref (g 0), .int v0, .int v1]).toArray s 0 0 (fun _ => False)) (F0 m 34 ls []) := by
        intro n34
        induction n34 with
        | zero => intros; (first | omega | (have zz0 := Hid.u hb_cn; omega))
        | succ n34 ih34 =>
          intro i34 n3 n4 n5 hmu34 hinv34 ls hl
          obtain ⟨hr34, hx34_0⟩ := hinv34
          have ti34 : (nI i34).toInt = (i34 : Int) := nI_toInt (by (first | omega | (have zz0 := Hid.u hb_cn; omega)))
          refine lv_iload hx hb dX11_beyond_34 (lvA0 hl) ?_
          refine lv_aload_n hx hb dX11_beyond_36 rfl (lvA4 hl) ?_
          refine gf_RX11_65 S hK hP 0 xo_0 (v := .ref (g 11)) rfl dX11_beyond_37 ?_
          refine vp_callSi (runV_r (As := []) (rest := [.int (nI i34)]) S (q_l_size l D cI cB cZ (g 11) (if (cn 11) = 0 then zz else ad 2 1) (In 11) (nI (cn 11))) kV_RX11_84 hK hP [25] (one_is xo_25) 25 xo_25 rfl rfl ⟨Nat.le_of_ble_eq_true rfl, Nat.le_of_ble_eq_true rfl⟩ ⟨Nat.le_of_ble_eq_true rfl, Nat.le_of_ble_eq_true rfl⟩ rfl hl.1 rfl (Nat.le_of_ble_eq_true rfl) dX11_beyond_40) (fun r_5 h_6 => ?_)
          subst h_6
          have : (nI (cn 11)).toInt = (((cn 11) : Nat) : Int) := nI_toInt (by (first | omega | (have zz0 := Hid.u hb_cn; omega)))
          refine lv_icmp_ge (tgt := 139) hx hb dX11_beyond_43 rfl (fun c_7 => ?_) (fun c_7 => ?_)
          ·
            have tc_7 : ((nI (cn 11)).toInt : Int) ≤ (nI i34).toInt := Int32.le_iff_toInt_le.mp c_7
            refine lv_iload_n hx hb dX11_beyond_139 rfl (lvA3 hl) ?_
            refine lv_iload hx hb dX11_beyond_140 (lvA2 hl) ?_
            refine lv_iload hx hb dX11_beyond_142 (lvA1 hl) ?_
            refine lv_aload_n hx hb dX11_beyond_144 rfl (lvA4 hl) ?_
            refine gf_RX11_65 S hK hP 0 xo_0 (v := .ref (g 11)) rfl dX11_beyond_145 ?_
            refine vp_callSi (runV_r (As := []) (rest := [.int (nI n5), .int (nI n4), .int (nI n3)]) S (q_l_size l D cI cB cZ (g 11) (if (cn 11) = 0 then zz else ad 2 1) (In 11) (nI (cn 11))) kV_RX11_84 hK hP [25] (one_is xo_25) 25 xo_25 rfl rfl ⟨Nat.le_of_ble_eq_true rfl, Nat.le_of_ble_eq_true rfl⟩ ⟨Nat.le_of_ble_eq_true rfl, Nat.le_of_ble_eq_true rfl⟩ rfl hl.1 rfl (Nat.le_of_ble_eq_true rfl) dX11_beyond_148) (fun r_8 h_9 => ?_)
            subst h_9
            refine lv_iload_n hx hb dX11_beyond_151 rfl (lvA6 hl) ?_
            refine vp_callSl (runS_r (As := [.int (nI n3), .int (nI n4), .int (nI n5), .int (nI (cn 11)), .int v1]) (rest := []) S (q_Xodds l D cI cB cZ n3 n4 n5 (cn 11) v1 (by (first | omega | (have zz0 := Hid.u hb_cn; omega))) (by (first | omega | (have zz0 := Hid.u hb_cn; omega))) (by (first | omega | (have zz0 := Hid.u hb_cn; omega))) (by (first | omega | (have zz0 := Hid.u hb_cn; omega)))) kS_RX11_256 hK hP [] rfl ⟨Nat.le_of_ble_eq_true rfl, Nat.le_of_ble_eq_true rfl⟩ ⟨Nat.le_of_ble_eq_true rfl, Nat.le_of_ble_eq_true rfl⟩ rfl hl.1 rfl (Nat.le_of_ble_eq_true rfl) dX11_beyond_152) (fun r_10 h_11 => ?_)
            exact W.lret (v := r_10) hx hb hr (fun t ht hW => ⟨r_10, rfl, trivial, ht⟩) (fun _ h => absurd h List.not_mem_nil) dX11_beyond_155
          ·
            have tc_7 : ((nI i34).toInt : Int) < (nI (cn 11)).toInt := Int32.lt_iff_toInt_lt.mp (Int32.not_le.mp c_7)
            refine lv_aload_n hx hb dX11_beyond_46 rfl (lvA4 hl) ?_
            refine gf_RX11_65 S hK hP 0 xo_0 (v := .ref (g 11)) rfl dX11_beyond_47 ?_
            refine lv_iload hx hb dX11_beyond_50 (lvA0 hl) ?_
            refine va_csq (runV_rx (As := [.int (nI i34)]) (rest := []) S (q_l_get l D cI cB cZ zz qq vv bt (g 11) (ad 2 1) (cn 21) (cn 11) i34 (ad 11 i34) (In 11) (fun i => if i < (cn 11) then some (ad 11 i) else none) (by (first | omega | (have zz0 := Hid.u hb_cn; omega))) (if_pos (by (first | omega | (have zz0 := Hid.u hb_cn; omega)))) (by (first | omega | (have zz0 := Hid.u hb_cn; omega))) (by (first | omega | (have zz0 := Hid.u hb_cn; omega)))) kV_RX11_87 hK hXS hS hP _ (two_is (xl_1 (by (first | omega | (have zz0 := Hid.u hb_cn; omega)))) (xf_14 (k := 0) (by (first | omega | (have zz0 := Hid.u hb_cn; omega))))) (va_recv hK.1 hP (ci := 0) rfl xo_25) ⟨Nat.le_of_ble_eq_true rfl, Nat.le_of_ble_eq_true rfl⟩ ⟨Nat.le_of_ble_eq_true rfl, Nat.le_of_ble_eq_true rfl⟩ rfl hl.1 rfl (Nat.le_of_ble_eq_true rfl) dX11_beyond_52) (fun r_12 h_13 => ?_)
            subst h_13
            have kf_1 : i34 < cn 11 := by (first | omega | (have zz0 := Hid.u hb_cn; omega))
            refine va_castS hx hb hown (S.2.2.2.2 _ (wk2_17 0 rfl rfl)) (xclass hK.1 (ci := 3) rfl) (va_recv hK.1 hP (ci := 3) rfl (xf_1 kf_1)) dX11_beyond_55 ?_
            refine lv_astore (lv' := [(7, .ref (ad 11 i34)), (6, .int (nI i34)), (5, .int (nI n5)), (4, .int (nI n4)), (3, .int (nI n3)), (0, .ref (g 0)), (1, .int v0), (2, .int v1)]) hx hb dX11_beyond_58 hl (ltb rfl) rfl (fun ls hl => ?_)
            refine lv_aload hx hb dX11_beyond_60 (lvA0 hl) ?_
            refine gf_RX11_196 S hK hP _ (xf_1 kf_1) (v := .int ((Fn 121) i34)) rfl dX11_beyond_62 ?_
            refine lv_bipush (v := 7) hx hb dX11_beyond_65 kbc_7 ?_
            refine lv_irem hx hb dX11_beyond_67 (by decide) ?_
            refine lv_iload_n hx hb dX11_beyond_68 rfl (lvA6 hl) ?_
            refine lv_icmp_ne (tgt := 76) hx hb dX11_beyond_69 rfl (fun c_14 => ?_) (fun c_14 => ?_)
            ·
              have tc_14 : ((((Fn 121) i34) - ((Fn 121) i34) / 7 * 7).toInt : Int) ≠ v0.toInt := fun q => c_14 (Int32.toInt_inj.mp q)
              refine lv_iconst (v := 0) hx hb dX11_beyond_76 kic_0 ?_
              refine lv_istore (lv' := [(8, .int 0), (7, .ref (ad 11 i34)), (6, .int (nI i34)), (5, .int (nI n5)), (4, .int (nI n4)), (3, .int (nI n3)), (0, .ref (g 0)), (1, .int v0), (2, .int v1)]) hx hb dX11_beyond_77 hl (ltb rfl) rfl (fun ls hl => ?_)
              refine lv_iload_n hx hb dX11_beyond_79 rfl (lvA5 hl) ?_
              refine lv_aload hx hb dX11_beyond_80 (lvA1 hl) ?_
              refine gf_RX11_141 S hK hP _ (xf_1 kf_1) (v := .int ((Fn 128) i34)) rfl dX11_beyond_82 ?_
              refine lv_if_le (tgt := 92) hx hb dX11_beyond_85 rfl (fun c_15 => ?_) (fun c_15 => ?_)
              ·
                have tc_15 : (((Fn 128) i34).toInt : Int) ≤ 0 := Int32.le_iff_toInt_le.mp c_15
                refine lv_iconst (v := 0) hx hb dX11_beyond_92 kic_0 ?_
                refine lv_iadd hx hb dX11_beyond_93 ?_
                refine lv_topi (fun y_16 ey_16 => ?_)
                obtain rfl : y_16 = (nI (n3 + 0)) := ey_16.trans (nI_add n3 0)
                refine lv_istore_n (lv' := [(3, .int (nI (n3 + 0))), (8, .int 0), (7, .ref (ad 11 i34)), (6, .int (nI i34)), (5, .int (nI n5)), (4, .int (nI n4)), (0, .ref (g 0)), (1, .int v0), (2, .int v1)]) hx hb dX11_beyond_94 rfl hl (ltb rfl) rfl (fun ls hl => ?_)
                refine lv_iload hx hb dX11_beyond_95 (lvA5 hl) ?_
                refine lv_iload hx hb dX11_beyond_97 (lvA1 hl) ?_
                refine lv_if_eq (tgt := 106) hx hb dX11_beyond_99 rfl (fun _ => ?_) (fun h => absurd h cq_eq_0_0)
                refine lv_iconst (v := 0) hx hb dX11_beyond_106 kic_0 ?_
                refine lv_iadd hx hb dX11_beyond_107 ?_
                refine lv_topi (fun y_17 ey_17 => ?_)
                obtain rfl : y_17 = (nI (n4 + 0)) := ey_17.trans (nI_add n4 0)
                refine lv_istore (lv' := [(4, .int (nI (n4 + 0))), (3, .int (nI (n3 + 0))), (8, .int 0), (7, .ref (ad 11 i34)), (6, .int (nI i34)), (5, .int (nI n5)), (0, .ref (g 0)), (1, .int v0), (2, .int v1)]) hx hb dX11_beyond_108 hl (ltb rfl) rfl (fun ls hl => ?_)
                refine lv_iload hx hb dX11_beyond_110 (lvA5 hl) ?_
                refine lv_iload hx hb dX11_beyond_112 (lvA2 hl) ?_
                refine lv_if_eq (tgt := 129) hx hb dX11_beyond_114 rfl (fun _ => ?_) (fun h => absurd h cq_eq_0_0)
                refine lv_iconst (v := 0) hx hb dX11_beyond_129 kic_0 ?_
                refine lv_iadd hx hb dX11_beyond_130 ?_
                refine lv_topi (fun y_18 ey_18 => ?_)
                obtain rfl : y_18 = (nI (n5 + 0)) := ey_18.trans (nI_add n5 0)
                refine lv_istore (lv' := [(5, .int (nI (n5 + 0))), (4, .int (nI (n4 + 0))), (3, .int (nI (n3 + 0))), (8, .int 0), (7, .ref (ad 11 i34)), (6, .int (nI i34)), (0, .ref (g 0)), (1, .int v0), (2, .int v1)]) hx hb dX11_beyond_131 hl (ltb rfl) rfl (fun ls hl => ?_)
                refine lv_iinc (v := (nI (i34 + 1))) (lv' := [(6, .int (nI (i34 + 1))), (5, .int (nI (n5 + 0))), (4, .int (nI (n4 + 0))), (3, .int (nI (n3 + 0))), (8, .int 0), (7, .ref (ad 11 i34)), (0, .ref (g 0)), (1, .int v0), (2, .int v1)]) hx hb dX11_beyond_133 hl (k := 5) rfl (nI_1 _) (ltb rfl) rfl (fun ls hl => ?_)
                refine lv_goto (tgt := 34) hx hb dX11_beyond_136 rfl ?_
                exact ih34 (i34 + 1) (n3 + 0) (n4 + 0) (n5 + 0) (by (first | omega | (have zz0 := Hid.u hb_cn; omega))) ⟨(by (first | omega | (have zz0 := Hid.u hb_cn; omega))), ⟨by (first | omega | (have zz0 := Hid.u hb_cn; omega)), by (first | omega | (have zz0 := Hid.u hb_cn; omega)), by (first | omega | (have zz0 := Hid.u hb_cn; omega))⟩⟩ ls (lv_sub hl [0, 1, 2, 3, 6, 7, 8] rfl)
              ·
                have tc_15 : (0 : Int) < ((Fn 128) i34).toInt := Int32.lt_iff_toInt_lt.mp (Int32.not_le.mp c_15)
                refine lv_iconst (v := 1) hx hb dX11_beyond_88 kic_1 ?_
                refine lv_goto (tgt := 93) hx hb dX11_beyond_89 rfl ?_
                refine lv_iadd hx hb dX11_beyond_93 ?_
                refine lv_topi (fun y_19 ey_19 => ?_)
                obtain rfl : y_19 = (nI (n3 + 1)) := ey_19.trans (nI_add n3 1)
                refine lv_istore_n (lv' := [(3, .int (nI (n3 + 1))), (8, .int 0), (7, .ref (ad 11 i34)), (6, .int (nI i34)), (5, .int (nI n5)), (4, .int (nI n4)), (0, .ref (g 0)), (1, .int v0), (2, .int v1)]) hx hb dX11_beyond_94 rfl hl (ltb rfl) rfl (fun ls hl => ?_)
                refine lv_iload hx hb dX11_beyond_95 (lvA5 hl) ?_
                refine lv_iload hx hb dX11_beyond_97 (lvA1 hl) ?_
                refine lv_if_eq (tgt := 106) hx hb dX11_beyond_99 rfl (fun _ => ?_) (fun h => absurd h cq_eq_0_0)
                refine lv_iconst (v := 0) hx hb dX11_beyond_106 kic_0 ?_
                refine lv_iadd hx hb dX11_beyond_107 ?_
                refine lv_topi (fun y_20 ey_20 => ?_)
                obtain rfl : y_20 = (nI (n4 + 0)) := ey_20.trans (nI_add n4 0)
                refine lv_istore (lv' := [(4, .int (nI (n4 + 0))), (3, .int (nI (n3 + 1))), (8, .int 0), (7, .ref (ad 11 i34)), (6, .int (nI i34)), (5, .int (nI n5)), (0, .ref (g 0)), (1, .int v0), (2, .int v1)]) hx hb dX11_beyond_108 hl (ltb rfl) rfl (fun ls hl => ?_)
                refine lv_iload hx hb dX11_beyond_110 (lvA5 hl) ?_
                refine lv_iload hx hb dX11_beyond_112 (lvA2 hl) ?_
                refine lv_if_eq (tgt := 129) hx hb dX11_beyond_114 rfl (fun _ => ?_) (fun h => absurd h cq_eq_0_0)
                refine lv_iconst (v := 0) hx hb dX11_beyond_129 kic_0 ?_
                refine lv_iadd hx hb dX11_beyond_130 ?_
                refine lv_topi (fun y_21 ey_21 => ?_)
                obtain rfl : y_21 = (nI (n5 + 0)) := ey_21.trans (nI_add n5 0)
                refine lv_istore (lv' := [(5, .int (nI (n5 + 0))), (4, .int (nI (n4 + 0))), (3, .int (nI (n3 + 1))), (8, .int 0), (7, .ref (ad 11 i34)), (6, .int (nI i34)), (0, .ref (g 0)), (1, .int v0), (2, .int v1)]) hx hb dX11_beyond_131 hl (ltb rfl) rfl (fun ls hl => ?_)
                refine lv_iinc (v := (nI (i34 + 1))) (lv' := [(6, .int (nI (i34 + 1))), (5, .int (nI (n5 + 0))), (4, .int (nI (n4 + 0))), (3, .int (nI (n3 + 1))), (8, .int 0), (7, .ref (ad 11 i34)), (0, .ref (g 0)), (1, .int v0), (2, .int v1)]) hx hb dX11_beyond_133 hl (k := 5) rfl (nI_1 _) (ltb rfl) rfl (fun ls hl => ?_)
                refine lv_goto (tgt := 34) hx hb dX11_beyond_136 rfl ?_
                exact ih34 (i34 + 1) (n3 + 1) (n4 + 0) (n5 + 0) (by (first | omega | (have zz0 := Hid.u hb_cn; omega))) ⟨(by (first | omega | (have zz0 := Hid.u hb_cn; omega))), ⟨by (first | omega | (have zz0 := Hid.u hb_cn; omega)), by (first | omega | (have zz0 := Hid.u hb_cn; omega)), by (first | omega | (have zz0 := Hid.u hb_cn; omega))⟩⟩ ls (lv_sub hl [0, 1, 2, 3, 6, 7, 8] rfl)
            ·
              have tc_14 : ((((Fn 121) i34) - ((Fn 121) i34) / 7 * 7).toInt : Int) = v0.toInt := congrArg Int32.toInt c_14
              refine lv_iconst (v := 1) hx hb dX11_beyond_72 kic_1 ?_
              refine lv_goto (tgt := 77) hx hb dX11_beyond_73 rfl ?_
              refine lv_istore (lv' := [(8, .int 1), (7, .ref (ad 11 i34)), (6, .int (nI i34)), (5, .int (nI n5)), (4, .int (nI n4)), (3, .int (nI n3)), (0, .ref (g 0)), (1, .int v0), (2, .int v1)]) hx hb dX11_beyond_77 hl (ltb rfl) rfl (fun ls hl => ?_)
              refine lv_iload_n hx hb dX11_beyond_79 rfl (lvA5 hl) ?_
              refine lv_aload hx hb dX11_beyond_80 (lvA1 hl) ?_
              refine gf_RX11_141 S hK hP _ (xf_1 kf_1) (v := .int ((Fn 128) i34)) rfl dX11_beyond_82 ?_
              refine lv_if_le (tgt := 92) hx hb dX11_beyond_85 rfl (fun c_22 => ?_) (fun c_22 => ?_)
              ·
                have tc_22 : (((Fn 128) i34).toInt : Int) ≤ 0 := Int32.le_iff_toInt_le.mp c_22
                refine lv_iconst (v := 0) hx hb dX11_beyond_92 kic_0 ?_
                refine lv_iadd hx hb dX11_beyond_93 ?_
                refine lv_topi (fun y_23 ey_23 => ?_)
                obtain rfl : y_23 = (nI (n3 + 0)) := ey_23.trans (nI_add n3 0)
                refine lv_istore_n (lv' := [(3, .int (nI (n3 + 0))), (8, .int 1), (7, .ref (ad 11 i34)), (6, .int (nI i34)), (5, .int (nI n5)), (4, .int (nI n4)), (0, .ref (g 0)), (1, .int v0), (2, .int v1)]) hx hb dX11_beyond_94 rfl hl (ltb rfl) rfl (fun ls hl => ?_)
                refine lv_iload hx hb dX11_beyond_95 (lvA5 hl) ?_
                refine lv_iload hx hb dX11_beyond_97 (lvA1 hl) ?_
                refine lv_if_eq (tgt := 106) hx hb dX11_beyond_99 rfl (fun h => absurd h cq_eq_1_0) (fun _ => ?_)
                refine lv_iconst (v := 1) hx hb dX11_beyond_102 kic_1 ?_
                refine lv_goto (tgt := 107) hx hb dX11_beyond_103 rfl ?_
                refine lv_iadd hx hb dX11_beyond_107 ?_
                refine lv_topi (fun y_24 ey_24 => ?_)
                obtain rfl : y_24 = (nI (n4 + 1)) := ey_24.trans (nI_add n4 1)
                refine lv_istore (lv' := [(4, .int (nI (n4 + 1))), (3, .int (nI (n3 + 0))), (8, .int 1), (7, .ref (ad 11 i34)), (6, .int (nI i34)), (5, .int (nI n5)), (0, .ref (g 0)), (1, .int v0), (2, .int v1)]) hx hb dX11_beyond_108 hl (ltb rfl) rfl (fun ls hl => ?_)
                refine lv_iload hx hb dX11_beyond_110 (lvA5 hl) ?_
                refine lv_iload hx hb dX11_beyond_112 (lvA2 hl) ?_
                refine lv_if_eq (tgt := 129) hx hb dX11_beyond_114 rfl (fun h => absurd h cq_eq_1_0) (fun _ => ?_)
                refine lv_aload hx hb dX11_beyond_117 (lvA3 hl) ?_
                refine gf_RX11_141 S hK hP _ (xf_1 kf_1) (v := .int ((Fn 128) i34)) rfl dX11_beyond_119 ?_
                refine lv_if_le (tgt := 129) hx hb dX11_beyond_122 rfl (fun c_25 => ?_) (fun c_25 => False.elim (by have tc_25 : (0 : Int) < ((Fn 128) i34).toInt := Int32.lt_iff_toInt_lt.mp (Int32.not_le.mp c_25); (first | omega | (have zz0 := Hid.u hb_cn; omega))))
                have tc_25 : (((Fn 128) i34).toInt : Int) ≤ 0 := Int32.le_iff_toInt_le.mp c_25
                refine lv_iconst (v := 0) hx hb dX11_beyond_129 kic_0 ?_
                refine lv_iadd hx hb dX11_beyond_130 ?_
                refine lv_topi (fun y_26 ey_26 => ?_)
                obtain rfl : y_26 = (nI (n5 + 0)) := ey_26.trans (nI_add n5 0)
                refine lv_istore (lv' := [(5, .int (nI (n5 + 0))), (4, .int (nI (n4 + 1))), (3, .int (nI (n3 + 0))), (8, .int 1), (7, .ref (ad 11 i34)), (6, .int (nI i34)), (0, .ref (g 0)), (1, .int v0), (2, .int v1)]) hx hb dX11_beyond_131 hl (ltb rfl) rfl (fun ls hl => ?_)
                refine lv_iinc (v := (nI (i34 + 1))) (lv' := [(6, .int (nI (i34 + 1))), (5, .int (nI (n5 + 0))), (4, .int (nI (n4 + 1))), (3, .int (nI (n3 + 0))), (8, .int 1), (7, .ref (ad 11 i34)), (0, .ref (g 0)), (1, .int v0), (2, .int v1)]) hx hb dX11_beyond_133 hl (k := 5) rfl (nI_1 _) (ltb rfl) rfl (fun ls hl => ?_)
                refine lv_goto (tgt := 34) hx hb dX11_beyond_136 rfl ?_
                exact ih34 (i34 + 1) (n3 + 0) (n4 + 1) (n5 + 0) (by (first | omega | (have zz0 := Hid.u hb_cn; omega))) ⟨(by (first | omega | (have zz0 := Hid.u hb_cn; omega))), ⟨by (first | omega | (have zz0 := Hid.u hb_cn; omega)), by (first | omega | (have zz0 := Hid.u hb_cn; omega)), by (first | omega | (have zz0 := Hid.u hb_cn; omega))⟩⟩ ls (lv_sub hl [0, 1, 2, 3, 6, 7, 8] rfl)
              ·
                have tc_22 : (0 : Int) < ((Fn 128) i34).toInt := Int32.lt_iff_toInt_lt.mp (Int32.not_le.mp c_22)
                refine lv_iconst (v := 1) hx hb dX11_beyond_88 kic_1 ?_
                refine lv_goto (tgt := 93) hx hb dX11_beyond_89 rfl ?_
                refine lv_iadd hx hb dX11_beyond_93 ?_
                refine lv_topi (fun y_27 ey_27 => ?_)
                obtain rfl : y_27 = (nI (n3 + 1)) := ey_27.trans (nI_add n3 1)
                refine lv_istore_n (lv' := [(3, .int (nI (n3 + 1))), (8, .int 1), (7, .ref (ad 11 i34)), (6, .int (nI i34)), (5, .int (nI n5)), (4, .int (nI n4)), (0, .ref (g 0)), (1, .int v0), (2, .int v1)]) hx hb dX11_beyond_94 rfl hl (ltb rfl) rfl (fun ls hl => ?_)
                refine lv_iload hx hb dX11_beyond_95 (lvA5 hl) ?_
                refine lv_iload hx hb dX11_beyond_97 (lvA1 hl) ?_
                refine lv_if_eq (tgt := 106) hx hb dX11_beyond_99 rfl (fun h => absurd h cq_eq_1_0) (fun _ => ?_)
                refine lv_iconst (v := 1) hx hb dX11_beyond_102 kic_1 ?_
                refine lv_goto (tgt := 107) hx hb dX11_beyond_103 rfl ?_
                refine lv_iadd hx hb dX11_beyond_107 ?_
                refine lv_topi (fun y_28 ey_28 => ?_)
                obtain rfl : y_28 = (nI (n4 + 1)) := ey_28.trans (nI_add n4 1)
                refine lv_istore (lv' := [(4, .int (nI (n4 + 1))), (3, .int (nI (n3 + 1))), (8, .int 1), (7, .ref (ad 11 i34)), (6, .int (nI i34)), (5, .int (nI n5)), (0, .ref (g 0)), (1, .int v0), (2, .int v1)]) hx hb dX11_beyond_108 hl (ltb rfl) rfl (fun ls hl => ?_)
                refine lv_iload hx hb dX11_beyond_110 (lvA5 hl) ?_
                refine lv_iload hx hb dX11_beyond_112 (lvA2 hl) ?_
                refine lv_if_eq (tgt := 129) hx hb dX11_beyond_114 rfl (fun h => absurd h cq_eq_1_0) (fun _ => ?_)
                refine lv_aload hx hb dX11_beyond_117 (lvA3 hl) ?_
                refine gf_RX11_141 S hK hP _ (xf_1 kf_1) (v := .int ((Fn 128) i34)) rfl dX11_beyond_119 ?_
                refine lv_if_le (tgt := 129) hx hb dX11_beyond_122 rfl (fun c_29 => False.elim (by have tc_29 : (((Fn 128) i34).toInt : Int) ≤ 0 := Int32.le_iff_toInt_le.mp c_29; (first | omega | (have zz0 := Hid.u hb_cn; omega)))) (fun c_29 => ?_)
                have tc_29 : (0 : Int) < ((Fn 128) i34).toInt := Int32.lt_iff_toInt_lt.mp (Int32.not_le.mp c_29)
                refine lv_iconst (v := 1) hx hb dX11_beyond_125 kic_1 ?_
                refine lv_goto (tgt := 130) hx hb dX11_beyond_126 rfl ?_
                refine lv_iadd hx hb dX11_beyond_130 ?_
                refine lv_topi (fun y_30 ey_30 => ?_)
                obtain rfl : y_30 = (nI (n5 + 1)) := ey_30.trans (nI_add n5 1)
                refine lv_istore (lv' := [(5, .int (nI (n5 + 1))), (4, .int (nI (n4 + 1))), (3, .int (nI (n3 + 1))), (8, .int 1), (7, .ref (ad 11 i34)), (6, .int (nI i34)), (0, .ref (g 0)), (1, .int v0), (2, .int v1)]) hx hb dX11_beyond_131 hl (ltb rfl) rfl (fun ls hl => ?_)
                refine lv_iinc (v := (nI (i34 + 1))) (lv' := [(6, .int (nI (i34 + 1))), (5, .int (nI (n5 + 1))), (4, .int (nI (n4 + 1))), (3, .int (nI (n3 + 1))), (8, .int 1), (7, .ref (ad 11 i34)), (0, .ref (g 0)), (1, .int v0), (2, .int v1)]) hx hb dX11_beyond_133 hl (k := 5) rfl (nI_1 _) (ltb rfl) rfl (fun ls hl => ?_)
                refine lv_goto (tgt := 34) hx hb dX11_beyond_136 rfl ?_
                exact ih34 (i34 + 1) (n3 + 1) (n4 + 1) (n5 + 1) (by (first | omega | (have zz0 := Hid.u hb_cn; omega))) ⟨(by (first | omega | (have zz0 := Hid.u hb_cn; omega))), ⟨by (first | omega | (have zz0 := Hid.u hb_cn; omega)), by (first | omega | (have zz0 := Hid.u hb_cn; omega)), by (first | omega | (have zz0 := Hid.u hb_cn; omega))⟩⟩ ls (lv_sub hl [0, 1, 2, 3, 6, 7, 8] rfl)
      exact lp_34 _ 0 0 0 0 (Nat.lt_succ_self _) ⟨(by (first | omega | (have zz0 := Hid.u hb_cn; omega))), ⟨Nat.le_refl _, Nat.le_refl _, Nat.le_refl _⟩⟩ ls (lv_sub hl [0, 1, 2, 3, 4, 5, 6] rfl)
    ·
      have h_4 : ¬ (0 ≤ v1.toInt ∧ v1.toInt ≤ 2) := h_4
      refine lv_if_ne (tgt := 23) hx hb dX11_beyond_16 rfl (fun h => absurd h cq_eq_0_0) (fun _ => ?_)
      refine lv_ldc2 (v := (-1)) hx hb hown (S.2.2.2.2 _ (wk4_5 1 rfl rfl)) dX11_beyond_19 ?_
      exact W.lret (v := (-1)) hx hb hr (fun t ht hW => ⟨(-1), rfl, trivial, ht⟩) (fun _ h => absurd h List.not_mem_nil) dX11_beyond_22
  ·
    have h_2 : ¬ (0 ≤ v0.toInt ∧ v0.toInt ≤ 6) := h_2
    refine lv_if_eq (tgt := 19) hx hb dX11_beyond_7 rfl (fun _ => ?_) (fun h => absurd h cq_eq_0_0)
    refine lv_ldc2 (v := (-1)) hx hb hown (S.2.2.2.2 _ (wk4_5 1 rfl rfl)) dX11_beyond_19 ?_
    exact W.lret (v := (-1)) hx hb hr (fun t ht hW => ⟨(-1), rfl, trivial, ht⟩) (fun _ h => absurd h List.not_mem_nil) dX11_beyond_22
set_option maxRecDepth 100000 in
set_option maxHeartbeats 4000000 in
theorem q_Xstreets (l : Launch) (D : va_G) (cI cB cZ : ClassId) (zz qq vv : Nat) (bt : Nat → Int32) (g : Nat → Nat) (ad : Nat → Nat → Nat) (cn : Nat → Nat) (In : Nat → Int32) (Fn : Nat → Nat → Int32) (v0 v1 : Int32) (hB : CBX cn) : Met l yX11_streets (CWS yX11_streets cX11_streets 10 (some .long)) (RM 4 0 0) (PBrx [.ref (g 0), .int v0, .int v1] D cI cB cZ zz qq vv bt (wX cI (D.1 99) zz g ad cn In Fn)) (vp_Sl (fun _ => True)) 0 0 (fun _ => False) := by
  refine en_rx rfl pn_RX11 (Nat.le_of_ble_eq_true rfl) (fun p e s m below meth c hx hb hml hown S hr hlocks hnm hP hK hXS hS ls hl => ?_)
  have hl : lv_has ls 10 [(0, .ref (g 0)), (1, .int v0), (2, .int v1)] := hl
  have hb_cn : Hid (CBX cn) := hB
  replace hB : CBXh cn := hB
  refine lv_iload_n hx hb dX11_streets_0 rfl (lvA1 hl) ?_
  refine lv_iconst (v := 0) hx hb dX11_streets_1 kic_0 ?_
  refine lv_bipush (v := 9) hx hb dX11_streets_2 kbc_9 ?_
  refine vp_callSi (runS_r (As := [.int v0, .int 0, .int 9]) (rest := []) S (q_l_within l D cI cB cZ v0 0 9) kS_RX11_80 hK hP [] rfl ⟨Nat.le_of_ble_eq_true rfl, Nat.le_of_ble_eq_true rfl⟩ ⟨Nat.le_of_ble_eq_true rfl, Nat.le_of_ble_eq_true rfl⟩ rfl hl.1 rfl (Nat.le_of_ble_eq_true rfl) dX11_streets_4) (fun r_1 h_2 => ?_)
  rcases h_2 with ⟨rfl, h_2⟩ | ⟨rfl, h_2⟩
  ·
    have h_2 : 0 ≤ v0.toInt ∧ v0.toInt ≤ 9 := h_2
    refine lv_if_eq (tgt := 19) hx hb dX11_streets_7 rfl (fun h => absurd h cq_eq_1_0) (fun _ => ?_)
    refine lv_iload_n hx hb dX11_streets_10 rfl (lvA2 hl) ?_
    refine lv_iconst (v := 0) hx hb dX11_streets_11 kic_0 ?_
    refine lv_iconst (v := 2) hx hb dX11_streets_12 kic_2 ?_
    refine vp_callSi (runS_r (As := [.int v1, .int 0, .int 2]) (rest := []) S (q_l_within l D cI cB cZ v1 0 2) kS_RX11_80 hK hP [] rfl ⟨Nat.le_of_ble_eq_true rfl, Nat.le_of_ble_eq_true rfl⟩ ⟨Nat.le_of_ble_eq_true rfl, Nat.le_of_ble_eq_true rfl⟩ rfl hl.1 rfl (Nat.le_of_ble_eq_true rfl) dX11_streets_13) (fun r_3 h_4 => ?_)
    rcases h_4 with ⟨rfl, h_4⟩ | ⟨rfl, h_4⟩
    ·
      have h_4 : 0 ≤ v1.toInt ∧ v1.toInt ≤ 2 := h_4
      refine lv_if_ne (tgt := 23) hx hb dX11_streets_16 rfl (fun _ => ?_) (fun h => absurd h cq_eq_1_0)
      refine lv_iconst (v := 0) hx hb dX11_streets_23 kic_0 ?_
      refine lv_istore_n (lv' := [(3, .int 0), (0, .ref (g 0)), (1, .int v0), (2, .int v1)]) hx hb dX11_streets_24 rfl hl (ltb rfl) rfl (fun ls hl => ?_)
      refine lv_iconst (v := 0) hx hb dX11_streets_25 kic_0 ?_
      refine lv_istore (lv' := [(4, .int 0), (3, .int 0), (0, .ref (g 0)), (1, .int v0), (2, .int v1)]) hx hb dX11_streets_26 hl (ltb rfl) rfl (fun ls hl => ?_)
      refine lv_iconst (v := 0) hx hb dX11_streets_28 kic_0 ?_
      refine lv_istore (lv' := [(5, .int 0), (4, .int 0), (3, .int 0), (0, .ref (g 0)), (1, .int v0), (2, .int v1)]) hx hb dX11_streets_29 hl (ltb rfl) rfl (fun ls hl => ?_)
      refine lv_iconst (v := 0) hx hb dX11_streets_31 kic_0 ?_
      refine lv_istore (lv' := [(6, .int 0), (5, .int 0), (4, .int 0), (3, .int 0), (0, .ref (g 0)), (1, .int v0), (2, .int v1)]) hx hb dX11_streets_32 hl (ltb rfl) rfl (fun ls hl => ?_)
      have lp_34 : ∀ (n : Nat) (i34 : Nat) (n3 : Nat) (n4 : Nat) (n5 : Nat) , cn 11 - i34 < n → (i34 ≤ cn 11 ∧ (n3 ≤ i34 ∧ n4 ≤ i34 ∧ n5 ≤ i34)) → ∀ ls : Array Slot, lv_has ls 10 [(6, .int (nI i34)), (5, .int (nI n5)), (4, .int (nI n4)), (3, .int (nI n3)), (0, .ref (g 0)), (1, .int v0), (2, .int v1)] → W p l e (RM 4 0 0) s m ([.ref (g 0), .int v0, .int v1]).toArray below meth c s.heap [] 0 0 (MQ below (vp_Sl (fun _ => True)) ([.ref (g 0), .int v0, .int v1]).toArray s 0 0 (fun _ => False)) (F0 m 34 ls []) := by
        intro n34
        induction n34 with
        | zero => intros; (first | omega | (have zz0 := Hid.u hb_cn; omega))
        | succ n34 ih34 =>
          intro i34 n3 n4 n5 hmu34 hinv34 ls hl
          obtain ⟨hr34, hx34_0⟩ := hinv34
          have ti34 : (nI i34).toInt = (i34 : Int) := nI_toInt (by (first | omega | (have zz0 := Hid.u hb_cn; omega)))
          refine lv_iload hx hb dX11_streets_34 (lvA0 hl) ?_
          refine lv_aload_n hx hb dX11_streets_36 rfl (lvA4 hl) ?_
          refine gf_RX11_65 S hK hP 0 xo_0 (v := .ref (g 11)) rfl dX11_streets_37 ?_
          refine vp_callSi (runV_r (As := []) (rest := [.int (nI i34)]) S (q_l_size l D cI cB cZ (g 11) (if (cn 11) = 0 then zz else ad 2 1) (In 11) (nI (cn 11))) kV_RX11_84 hK hP [25] (one_is xo_25) 25 xo_25 rfl rfl ⟨Nat.le_of_ble_eq_true rfl, Nat.le_of_ble_eq_true rfl⟩ ⟨Nat.le_of_ble_eq_true rfl, Nat.le_of_ble_eq_true rfl⟩ rfl hl.1 rfl (Nat.le_of_ble_eq_true rfl) dX11_streets_40) (fun r_5 h_6 => ?_)
          subst h_6
          have : (nI (cn 11)).toInt = (((cn 11) : Nat) : Int) := nI_toInt (by (first | omega | (have zz0 := Hid.u hb_cn; omega)))
          refine lv_icmp_ge (tgt := 152) hx hb dX11_streets_43 rfl (fun c_7 => ?_) (fun c_7 => ?_)
          ·
            have tc_7 : ((nI (cn 11)).toInt : Int) ≤ (nI i34).toInt := Int32.le_iff_toInt_le.mp c_7
            refine lv_iload_n hx hb dX11_streets_152 rfl (lvA3 hl) ?_
            refine lv_iload hx hb dX11_streets_153 (lvA2 hl) ?_
            refine lv_iload hx hb dX11_streets_155 (lvA1 hl) ?_
            refine lv_aload_n hx hb dX11_streets_157 rfl (lvA4 hl) ?_
            refine gf_RX11_65 S hK hP 0 xo_0 (v := .ref (g 11)) rfl dX11_streets_158 ?_
            refine vp_callSi (runV_r (As := []) (rest := [.int (nI n5), .int (nI n4), .int (nI n3)]) S (q_l_size l D cI cB cZ (g 11) (if (cn 11) = 0 then zz else ad 2 1) (In 11) (nI (cn 11))) kV_RX11_84 hK hP [25] (one_is xo_25) 25 xo_25 rfl rfl ⟨Nat.le_of_ble_eq_true rfl, Nat.le_of_ble_eq_true rfl⟩ ⟨Nat.le_of_ble_eq_true rfl, Nat.le_of_ble_eq_true rfl⟩ rfl hl.1 rfl (Nat.le_of_ble_eq_true rfl) dX11_streets_161) (fun r_8 h_9 => ?_)
            subst h_9
            refine lv_iload_n hx hb dX11_streets_164 rfl (lvA6 hl) ?_
            refine vp_callSl (runS_r (As := [.int (nI n3), .int (nI n4), .int (nI n5), .int (nI (cn 11)), .int v1]) (rest := []) S (q_Xodds l D cI cB cZ n3 n4 n5 (cn 11) v1 (by (first | omega | (have zz0 := Hid.u hb_cn; omega))) (by (first | omega | (have zz0 := Hid.u hb_cn; omega))) (by (first | omega | (have zz0 := Hid.u hb_cn; omega))) (by (first | omega | (have zz0 := Hid.u hb_cn; omega)))) kS_RX11_256 hK hP [] rfl ⟨Nat.le_of_ble_eq_true rfl, Nat.le_of_ble_eq_true rfl⟩ ⟨Nat.le_of_ble_eq_true rfl, Nat.le_of_ble_eq_true rfl⟩ rfl hl.1 rfl (Nat.le_of_ble_eq_true rfl) dX11_streets_165) (fun r_10 h_11 => ?_)
            exact W.lret (v := r_10) hx hb hr (fun t ht hW => ⟨r_10, rfl, trivial, ht⟩) (fun _ h => absurd h List.not_mem_nil) dX11_streets_168
          ·
            have tc_7 : ((nI i34).toInt : Int) < (nI (cn 11)).toInt := Int32.lt_iff_toInt_lt.mp (Int32.not_le.mp c_7)
            refine lv_aload_n hx hb dX11_streets_46 rfl (lvA4 hl) ?_
            refine gf_RX11_65 S hK hP 0 xo_0 (v := .ref (g 11)) rfl dX11_streets_47 ?_
            refine lv_iload hx hb dX11_streets_50 (lvA0 hl) ?_
            refine va_csq (runV_rx (As := [.int (nI i34)]) (rest := []) S (q_l_get l D cI cB cZ zz qq vv bt (g 11) (ad 2 1) (cn 21) (cn 11) i34 (ad 11 i34) (In 11) (fun i => if i < (cn 11) then some (ad 11 i) else none) (by (first | omega | (have zz0 := Hid.u hb_cn; omega))) (if_pos (by (first | omega | (have zz0 := Hid.u hb_cn; omega)))) (by (first | omega | (have zz0 := Hid.u hb_cn; omega))) (by (first | omega | (have zz0 := Hid.u hb_cn; omega)))) kV_RX11_87 hK hXS hS hP _ (two_is (xl_1 (by (first | omega | (have zz0 := Hid.u hb_cn; omega)))) (xf_14 (k := 0) (by (first | omega | (have zz0 := Hid.u hb_cn; omega))))) (va_recv hK.1 hP (ci := 0) rfl xo_25) ⟨Nat.le_of_ble_eq_true rfl, Nat.le_of_ble_eq_true rfl⟩ ⟨Nat.le_of_ble_eq_true rfl, Nat.le_of_ble_eq_true rfl⟩ rfl hl.1 rfl (Nat.le_of_ble_eq_true rfl) dX11_streets_52) (fun r_12 h_13 => ?_)
            subst h_13
            have kf_1 : i34 < cn 11 := by (first | omega | (have zz0 := Hid.u hb_cn; omega))
            refine va_castS hx hb hown (S.2.2.2.2 _ (wk2_17 0 rfl rfl)) (xclass hK.1 (ci := 3) rfl) (va_recv hK.1 hP (ci := 3) rfl (xf_1 kf_1)) dX11_streets_55 ?_
            refine lv_astore (lv' := [(7, .ref (ad 11 i34)), (6, .int (nI i34)), (5, .int (nI n5)), (4, .int (nI n4)), (3, .int (nI n3)), (0, .ref (g 0)), (1, .int v0), (2, .int v1)]) hx hb dX11_streets_58 hl (ltb rfl) rfl (fun ls hl => ?_)
            refine lv_aload_n hx hb dX11_streets_60 rfl (lvA5 hl) ?_
            refine lv_aload hx hb dX11_streets_61 (lvA0 hl) ?_
            refine gf_RX11_211 S hK hP _ (xf_1 kf_1) (v := .int ((Fn 120) i34)) rfl dX11_streets_63 ?_
            refine va_csq (runV_rxa (As := [.int ((Fn 120) i34)]) (rest := []) S (q_XkitchenAt l D cI cB cZ zz qq vv bt g ad cn In Fn ((Fn 120) i34) hB) kV_RX11_114 hK hXS hS hP 0 xo_0 rfl rfl ⟨Nat.le_of_ble_eq_true rfl, Nat.le_of_ble_eq_true rfl⟩ ⟨Nat.le_of_ble_eq_true rfl, Nat.le_of_ble_eq_true rfl⟩ rfl hl.1 rfl (Nat.le_of_ble_eq_true rfl) dX11_streets_66) (fun r_14 h_15 => ?_)
            rcases h_15 with ⟨mr_14, er_14, hr_14, rfl⟩ | ⟨hr_14, rfl⟩
            ·
              refine lv_astore (lv' := [(8, .ref (ad 10 mr_14)), (7, .ref (ad 11 i34)), (6, .int (nI i34)), (5, .int (nI n5)), (4, .int (nI n4)), (3, .int (nI n3)), (0, .ref (g 0)), (1, .int v0), (2, .int v1)]) hx hb dX11_streets_69 hl (ltb rfl) rfl (fun ls hl => ?_)
              refine lv_aload hx hb dX11_streets_71 (lvA0 hl) ?_
              refine lv_ifnull hx hb dX11_streets_73 ?_
              refine lv_aload hx hb dX11_streets_76 (lvA0 hl) ?_
              have kf_2 : mr_14 < cn 10 := by (first | omega | (have zz0 := Hid.u hb_cn; omega))
              refine gf_RX11_260 S hK hP _ (xf_0 kf_2) (v := .int ((Fn 109) mr_14)) rfl dX11_streets_78 ?_
              refine lv_iload_n hx hb dX11_streets_81 rfl (lvA7 hl) ?_
              refine lv_icmp_ne (tgt := 89) hx hb dX11_streets_82 rfl (fun c_16 => ?_) (fun c_16 => ?_)
              ·
                have tc_16 : (((Fn 109) mr_14).toInt : Int) ≠ v0.toInt := fun q => c_16 (Int32.toInt_inj.mp q)
                refine lv_iconst (v := 0) hx hb dX11_streets_89 kic_0 ?_
                refine lv_istore (lv' := [(9, .int 0), (8, .ref (ad 10 mr_14)), (7, .ref (ad 11 i34)), (6, .int (nI i34)), (5, .int (nI n5)), (4, .int (nI n4)), (3, .int (nI n3)), (0, .ref (g 0)), (1, .int v0), (2, .int v1)]) hx hb dX11_streets_90 hl (ltb rfl) rfl (fun ls hl => ?_)
                refine lv_iload_n hx hb dX11_streets_92 rfl (lvA6 hl) ?_
                refine lv_aload hx hb dX11_streets_93 (lvA2 hl) ?_
                refine gf_RX11_141 S hK hP _ (xf_1 kf_1) (v := .int ((Fn 128) i34)) rfl dX11_streets_95 ?_
                refine lv_if_le (tgt := 105) hx hb dX11_streets_98 rfl (fun c_17 => ?_) (fun c_17 => ?_)
                ·
                  have tc_17 : (((Fn 128) i34).toInt : Int) ≤ 0 := Int32.le_iff_toInt_le.mp c_17
                  refine lv_iconst (v := 0) hx hb dX11_streets_105 kic_0 ?_
                  refine lv_iadd hx hb dX11_streets_106 ?_
                  refine lv_topi (fun y_18 ey_18 => ?_)
                  obtain rfl : y_18 = (nI (n3 + 0)) := ey_18.trans (nI_add n3 0)
                  refine lv_istore_n (lv' := [(3, .int (nI (n3 + 0))), (9, .int 0), (8, .ref (ad 10 mr_14)), (7, .ref (ad 11 i34)), (6, .int (nI i34)), (5, .int (nI n5)), (4, .int (nI n4)), (0, .ref (g 0)), (1, .int v0), (2, .int v1)]) hx hb dX11_streets_107 rfl hl (ltb rfl) rfl (fun ls hl => ?_)
                  refine lv_iload hx hb dX11_streets_108 (lvA6 hl) ?_
                  refine lv_iload hx hb dX11_streets_110 (lvA1 hl) ?_
                  refine lv_if_eq (tgt := 119) hx hb dX11_streets_112 rfl (fun _ => ?_) (fun h => absurd h cq_eq_0_0)
                  refine lv_iconst (v := 0) hx hb dX11_streets_119 kic_0 ?_
                  refine lv_iadd hx hb dX11_streets_120 ?_
                  refine lv_topi (fun y_19 ey_19 => ?_)
                  obtain rfl : y_19 = (nI (n4 + 0)) := ey_19.trans (nI_add n4 0)
                  refine lv_istore (lv' := [(4, .int (nI (n4 + 0))), (3, .int (nI (n3 + 0))), (9, .int 0), (8, .ref (ad 10 mr_14)), (7, .ref (ad 11 i34)), (6, .int (nI i34)), (5, .int (nI n5)), (0, .ref (g 0)), (1, .int v0), (2, .int v1)]) hx hb dX11_streets_121 hl (ltb rfl) rfl (fun ls hl => ?_)
                  refine lv_iload hx hb dX11_streets_123 (lvA6 hl) ?_
                  refine lv_iload hx hb dX11_streets_125 (lvA2 hl) ?_
                  refine lv_if_eq (tgt := 142) hx hb dX11_streets_127 rfl (fun _ => ?_) (fun h => absurd h cq_eq_0_0)
                  refine lv_iconst (v := 0) hx hb dX11_streets_142 kic_0 ?_
                  refine lv_iadd hx hb dX11_streets_143 ?_
                  refine lv_topi (fun y_20 ey_20 => ?_)
                  obtain rfl : y_20 = (nI (n5 + 0)) := ey_20.trans (nI_add n5 0)
                  refine lv_istore (lv' := [(5, .int (nI (n5 + 0))), (4, .int (nI (n4 + 0))), (3, .int (nI (n3 + 0))), (9, .int 0), (8, .ref (ad 10 mr_14)), (7, .ref (ad 11 i34)), (6, .int (nI i34)), (0, .ref (g 0)), (1, .int v0), (2, .int v1)]) hx hb dX11_streets_144 hl (ltb rfl) rfl (fun ls hl => ?_)
                  refine lv_iinc (v := (nI (i34 + 1))) (lv' := [(6, .int (nI (i34 + 1))), (5, .int (nI (n5 + 0))), (4, .int (nI (n4 + 0))), (3, .int (nI (n3 + 0))), (9, .int 0), (8, .ref (ad 10 mr_14)), (7, .ref (ad 11 i34)), (0, .ref (g 0)), (1, .int v0), (2, .int v1)]) hx hb dX11_streets_146 hl (k := 6) rfl (nI_1 _) (ltb rfl) rfl (fun ls hl => ?_)
                  refine lv_goto (tgt := 34) hx hb dX11_streets_149 rfl ?_
                  exact ih34 (i34 + 1) (n3 + 0) (n4 + 0) (n5 + 0) (by (first | omega | (have zz0 := Hid.u hb_cn; omega))) ⟨(by (first | omega | (have zz0 := Hid.u hb_cn; omega))), ⟨by (first | omega | (have zz0 := Hid.u hb_cn; omega)), by (first | omega | (have zz0 := Hid.u hb_cn; omega)), by (first | omega | (have zz0 := Hid.u hb_cn; omega))⟩⟩ ls (lv_sub hl [0, 1, 2, 3, 7, 8, 9] rfl)
                ·
                  have tc_17 : (0 : Int) < ((Fn 128) i34).toInt := Int32.lt_iff_toInt_lt.mp (Int32.not_le.mp c_17)
                  refine lv_iconst (v := 1) hx hb dX11_streets_101 kic_1 ?_
                  refine lv_goto (tgt := 106) hx hb dX11_streets_102 rfl ?_
                  refine lv_iadd hx hb dX11_streets_106 ?_
                  refine lv_topi (fun y_21 ey_21 => ?_)
                  obtain rfl : y_21 = (nI (n3 + 1)) := ey_21.trans (nI_add n3 1)
                  refine lv_istore_n (lv' := [(3, .int (nI (n3 + 1))), (9, .int 0), (8, .ref (ad 10 mr_14)), (7, .ref (ad 11 i34)), (6, .int (nI i34)), (5, .int (nI n5)), (4, .int (nI n4)), (0, .ref (g 0)), (1, .int v0), (2, .int v1)]) hx hb dX11_streets_107 rfl hl (ltb rfl) rfl (fun ls hl => ?_)
                  refine lv_iload hx hb dX11_streets_108 (lvA6 hl) ?_
                  refine lv_iload hx hb dX11_streets_110 (lvA1 hl) ?_
                  refine lv_if_eq (tgt := 119) hx hb dX11_streets_112 rfl (fun _ => ?_) (fun h => absurd h cq_eq_0_0)
                  refine lv_iconst (v := 0) hx hb dX11_streets_119 kic_0 ?_
                  refine lv_iadd hx hb dX11_streets_120 ?_
                  refine lv_topi (fun y_22 ey_22 => ?_)
                  obtain rfl : y_22 = (nI (n4 + 0)) := ey_22.trans (nI_add n4 0)
                  refine lv_istore (lv' := [(4, .int (nI (n4 + 0))), (3, .int (nI (n3 + 1))), (9, .int 0), (8, .ref (ad 10 mr_14)), (7, .ref (ad 11 i34)), (6, .int (nI i34)), (5, .int (nI n5)), (0, .ref (g 0)), (1, .int v0), (2, .int v1)]) hx hb dX11_streets_121 hl (ltb rfl) rfl (fun ls hl => ?_)
                  refine lv_iload hx hb dX11_streets_123 (lvA6 hl) ?_
                  refine lv_iload hx hb dX11_streets_125 (lvA2 hl) ?_
                  refine lv_if_eq (tgt := 142) hx hb dX11_streets_127 rfl (fun _ => ?_) (fun h => absurd h cq_eq_0_0)
                  refine lv_iconst (v := 0) hx hb dX11_streets_142 kic_0 ?_
                  refine lv_iadd hx hb dX11_streets_143 ?_
                  refine lv_topi (fun y_23 ey_23 => ?_)
                  obtain rfl : y_23 = (nI (n5 + 0)) := ey_23.trans (nI_add n5 0)
                  refine lv_istore (lv' := [(5, .int (nI (n5 + 0))), (4, .int (nI (n4 + 0))), (3, .int (nI (n3 + 1))), (9, .int 0), (8, .ref (ad 10 mr_14)), (7, .ref (ad 11 i34)), (6, .int (nI i34)), (0, .ref (g 0)), (1, .int v0), (2, .int v1)]) hx hb dX11_streets_144 hl (ltb rfl) rfl (fun ls hl => ?_)
                  refine lv_iinc (v := (nI (i34 + 1))) (lv' := [(6, .int (nI (i34 + 1))), (5, .int (nI (n5 + 0))), (4, .int (nI (n4 + 0))), (3, .int (nI (n3 + 1))), (9, .int 0), (8, .ref (ad 10 mr_14)), (7, .ref (ad 11 i34)), (0, .ref (g 0)), (1, .int v0), (2, .int v1)]) hx hb dX11_streets_146 hl (k := 6) rfl (nI_1 _) (ltb rfl) rfl (fun ls hl => ?_)
                  refine lv_goto (tgt := 34) hx hb dX11_streets_149 rfl ?_
                  exact ih34 (i34 + 1) (n3 + 1) (n4 + 0) (n5 + 0) (by (first | omega | (have zz0 := Hid.u hb_cn; omega))) ⟨(by (first | omega | (have zz0 := Hid.u hb_cn; omega))), ⟨by (first | omega | (have zz0 := Hid.u hb_cn; omega)), by (first | omega | (have zz0 := Hid.u hb_cn; omega)), by (first | omega | (have zz0 := Hid.u hb_cn; omega))⟩⟩ ls (lv_sub hl [0, 1, 2, 3, 7, 8, 9] rfl)
              ·
                have tc_16 : (((Fn 109) mr_14).toInt : Int) = v0.toInt := congrArg Int32.toInt c_16
                refine lv_iconst (v := 1) hx hb dX11_streets_85 kic_1 ?_
                refine lv_goto (tgt := 90) hx hb dX11_streets_86 rfl ?_
                refine lv_istore (lv' := [(9, .int 1), (8, .ref (ad 10 mr_14)), (7, .ref (ad 11 i34)), (6, .int (nI i34)), (5, .int (nI n5)), (4, .int (nI n4)), (3, .int (nI n3)), (0, .ref (g 0)), (1, .int v0), (2, .int v1)]) hx hb dX11_streets_90 hl (ltb rfl) rfl (fun ls hl => ?_)
                refine lv_iload_n hx hb dX11_streets_92 rfl (lvA6 hl) ?_
                refine lv_aload hx hb dX11_streets_93 (lvA2 hl) ?_
                refine gf_RX11_141 S hK hP _ (xf_1 kf_1) (v := .int ((Fn 128) i34)) rfl dX11_streets_95 ?_
                refine lv_if_le (tgt := 105) hx hb dX11_streets_98 rfl (fun c_24 => ?_) (fun c_24 => ?_)
                ·
                  have tc_24 : (((Fn 128) i34).toInt : Int) ≤ 0 := Int32.le_iff_toInt_le.mp c_24
                  refine lv_iconst (v := 0) hx hb dX11_streets_105 kic_0 ?_
                  refine lv_iadd hx hb dX11_streets_106 ?_
                  refine lv_topi (fun y_25 ey_25 => ?_)
                  obtain rfl : y_25 = (nI (n3 + 0)) := ey_25.trans (nI_add n3 0)
                  refine lv_istore_n (lv' := [(3, .int (nI (n3 + 0))), (9, .int 1), (8, .ref (ad 10 mr_14)), (7, .ref (ad 11 i34)), (6, .int (nI i34)), (5, .int (nI n5)), (4, .int (nI n4)), (0, .ref (g 0)), (1, .int v0), (2, .int v1)]) hx hb dX11_streets_107 rfl hl (ltb rfl) rfl (fun ls hl => ?_)
                  refine lv_iload hx hb dX11_streets_108 (lvA6 hl) ?_
                  refine lv_iload hx hb dX11_streets_110 (lvA1 hl) ?_
                  refine lv_if_eq (tgt := 119) hx hb dX11_streets_112 rfl (fun h => absurd h cq_eq_1_0) (fun _ => ?_)
                  refine lv_iconst (v := 1) hx hb dX11_streets_115 kic_1 ?_
                  refine lv_goto (tgt := 120) hx hb dX11_streets_116 rfl ?_
                  refine lv_iadd hx hb dX11_streets_120 ?_
                  refine lv_topi (fun y_26 ey_26 => ?_)
                  obtain rfl : y_26 = (nI (n4 + 1)) := ey_26.trans (nI_add n4 1)
                  refine lv_istore (lv' := [(4, .int (nI (n4 + 1))), (3, .int (nI (n3 + 0))), (9, .int 1), (8, .ref (ad 10 mr_14)), (7, .ref (ad 11 i34)), (6, .int (nI i34)), (5, .int (nI n5)), (0, .ref (g 0)), (1, .int v0), (2, .int v1)]) hx hb dX11_streets_121 hl (ltb rfl) rfl (fun ls hl => ?_)
                  refine lv_iload hx hb dX11_streets_123 (lvA6 hl) ?_
                  refine lv_iload hx hb dX11_streets_125 (lvA2 hl) ?_
                  refine lv_if_eq (tgt := 142) hx hb dX11_streets_127 rfl (fun h => absurd h cq_eq_1_0) (fun _ => ?_)
                  refine lv_aload hx hb dX11_streets_130 (lvA4 hl) ?_
                  refine gf_RX11_141 S hK hP _ (xf_1 kf_1) (v := .int ((Fn 128) i34)) rfl dX11_streets_132 ?_
                  refine lv_if_le (tgt := 142) hx hb dX11_streets_135 rfl (fun c_27 => ?_) (fun c_27 => False.elim (by have tc_27 : (0 : Int) < ((Fn 128) i34).toInt := Int32.lt_iff_toInt_lt.mp (Int32.not_le.mp c_27); (first | omega | (have zz0 := Hid.u hb_cn; omega))))
                  have tc_27 : (((Fn 128) i34).toInt : Int) ≤ 0 := Int32.le_iff_toInt_le.mp c_27
                  refine lv_iconst (v := 0) hx hb dX11_streets_142 kic_0 ?_
                  refine lv_iadd hx hb dX11_streets_143 ?_
                  refine lv_topi (fun y_28 ey_28 => ?_)
                  obtain rfl : y_28 = (nI (n5 + 0)) := ey_28.trans (nI_add n5 0)
                  refine lv_istore (lv' := [(5, .int (nI (n5 + 0))), (4, .int (nI (n4 + 1))), (3, .int (nI (n3 + 0))), (9, .int 1), (8, .ref (ad 10 mr_14)), (7, .ref (ad 11 i34)), (6, .int (nI i34)), (0, .ref (g 0)), (1, .int v0), (2, .int v1)]) hx hb dX11_streets_144 hl (ltb rfl) rfl (fun ls hl => ?_)
                  refine lv_iinc (v := (nI (i34 + 1))) (lv' := [(6, .int (nI (i34 + 1))), (5, .int (nI (n5 + 0))), (4, .int (nI (n4 + 1))), (3, .int (nI (n3 + 0))), (9, .int 1), (8, .ref (ad 10 mr_14)), (7, .ref (ad 11 i34)), (0, .ref (g 0)), (1, .int v0), (2, .int v1)]) hx hb dX11_streets_146 hl (k := 6) rfl (nI_1 _) (ltb rfl) rfl (fun ls hl => ?_)
                  refine lv_goto (tgt := 34) hx hb dX11_streets_149 rfl ?_
                  exact ih34 (i34 + 1) (n3 + 0) (n4 + 1) (n5 + 0) (by (first | omega | (have zz0 := Hid.u hb_cn; omega))) ⟨(by (first | omega | (have zz0 := Hid.u hb_cn; omega))), ⟨by (first | omega | (have zz0 := Hid.u hb_cn; omega)), by (first | omega | (have zz0 := Hid.u hb_cn; omega)), by (first | omega | (have zz0 := Hid.u hb_cn; omega))⟩⟩ ls (lv_sub hl [0, 1, 2, 3, 7, 8, 9] rfl)
                ·
                  have tc_24 : (0 : Int) < ((Fn 128) i34).toInt := Int32.lt_iff_toInt_lt.mp (Int32.not_le.mp c_24)
                  refine lv_iconst (v := 1) hx hb dX11_streets_101 kic_1 ?_
                  refine lv_goto (tgt := 106) hx hb dX11_streets_102 rfl ?_
                  refine lv_iadd hx hb dX11_streets_106 ?_
                  refine lv_topi (fun y_29 ey_29 => ?_)
                  obtain rfl : y_29 = (nI (n3 + 1)) := ey_29.trans (nI_add n3 1)
                  refine lv_istore_n (lv' := [(3, .int (nI (n3 + 1))), (9, .int 1), (8, .ref (ad 10 mr_14)), (7, .ref (ad 11 i34)), (6, .int (nI i34)), (5, .int (nI n5)), (4, .int (nI n4)), (0, .ref (g 0)), (1, .int v0), (2, .int v1)]) hx hb dX11_streets_107 rfl hl (ltb rfl) rfl (fun ls hl => ?_)
                  refine lv_iload hx hb dX11_streets_108 (lvA6 hl) ?_
                  refine lv_iload hx hb dX11_streets_110 (lvA1 hl) ?_
                  refine lv_if_eq (tgt := 119) hx hb dX11_streets_112 rfl (fun h => absurd h cq_eq_1_0) (fun _ => ?_)
                  refine lv_iconst (v := 1) hx hb dX11_streets_115 kic_1 ?_
                  refine lv_goto (tgt := 120) hx hb dX11_streets_116 rfl ?_
                  refine lv_iadd hx hb dX11_streets_120 ?_
                  refine lv_topi (fun y_30 ey_30 => ?_)
                  obtain rfl : y_30 = (nI (n4 + 1)) := ey_30.trans (nI_add n4 1)
                  refine lv_istore (lv' := [(4, .int (nI (n4 + 1))), (3, .int (nI (n3 + 1))), (9, .int 1), (8, .ref (ad 10 mr_14)), (7, .ref (ad 11 i34)), (6, .int (nI i34)), (5, .int (nI n5)), (0, .ref (g 0)), (1, .int v0), (2, .int v1)]) hx hb dX11_streets_121 hl (ltb rfl) rfl (fun ls hl => ?_)
                  refine lv_iload hx hb dX11_streets_123 (lvA6 hl) ?_
                  refine lv_iload hx hb dX11_streets_125 (lvA2 hl) ?_
                  refine lv_if_eq (tgt := 142) hx hb dX11_streets_127 rfl (fun h => absurd h cq_eq_1_0) (fun _ => ?_)
                  refine lv_aload hx hb dX11_streets_130 (lvA4 hl) ?_
                  refine gf_RX11_141 S hK hP _ (xf_1 kf_1) (v := .int ((Fn 128) i34)) rfl dX11_streets_132 ?_
                  refine lv_if_le (tgt := 142) hx hb dX11_streets_135 rfl (fun c_31 => False.elim (by have tc_31 : (((Fn 128) i34).toInt : Int) ≤ 0 := Int32.le_iff_toInt_le.mp c_31; (first | omega | (have zz0 := Hid.u hb_cn; omega)))) (fun c_31 => ?_)
                  have tc_31 : (0 : Int) < ((Fn 128) i34).toInt := Int32.lt_iff_toInt_lt.mp (Int32.not_le.mp c_31)
                  refine lv_iconst (v := 1) hx hb dX11_streets_138 kic_1 ?_
                  refine lv_goto (tgt := 143) hx hb dX11_streets_139 rfl ?_
                  refine lv_iadd hx hb dX11_streets_143 ?_
                  refine lv_topi (fun y_32 ey_32 => ?_)
                  obtain rfl : y_32 = (nI (n5 + 1)) := ey_32.trans (nI_add n5 1)
                  refine lv_istore (lv' := [(5, .int (nI (n5 + 1))), (4, .int (nI (n4 + 1))), (3, .int (nI (n3 + 1))), (9, .int 1), (8, .ref (ad 10 mr_14)), (7, .ref (ad 11 i34)), (6, .int (nI i34)), (0, .ref (g 0)), (1, .int v0), (2, .int v1)]) hx hb dX11_streets_144 hl (ltb rfl) rfl (fun ls hl => ?_)
                  refine lv_iinc (v := (nI (i34 + 1))) (lv' := [(6, .int (nI (i34 + 1))), (5, .int (nI (n5 + 1))), (4, .int (nI (n4 + 1))), (3, .int (nI (n3 + 1))), (9, .int 1), (8, .ref (ad 10 mr_14)), (7, .ref (ad 11 i34)), (0, .ref (g 0)), (1, .int v0), (2, .int v1)]) hx hb dX11_streets_146 hl (k := 6) rfl (nI_1 _) (ltb rfl) rfl (fun ls hl => ?_)
                  refine lv_goto (tgt := 34) hx hb dX11_streets_149 rfl ?_
                  exact ih34 (i34 + 1) (n3 + 1) (n4 + 1) (n5 + 1) (by (first | omega | (have zz0 := Hid.u hb_cn; omega))) ⟨(by (first | omega | (have zz0 := Hid.u hb_cn; omega))), ⟨by (first | omega | (have zz0 := Hid.u hb_cn; omega)), by (first | omega | (have zz0 := Hid.u hb_cn; omega)), by (first | omega | (have zz0 := Hid.u hb_cn; omega))⟩⟩ ls (lv_sub hl [0, 1, 2, 3, 7, 8, 9] rfl)
            ·
              refine lv_astoreN (lv' := [(8, .null), (7, .ref (ad 11 i34)), (6, .int (nI i34)), (5, .int (nI n5)), (4, .int (nI n4)), (3, .int (nI n3)), (0, .ref (g 0)), (1, .int v0), (2, .int v1)]) hx hb dX11_streets_69 hl (ltb rfl) rfl (fun ls hl => ?_)
              refine lv_aloadN hx hb dX11_streets_71 (lvA0 hl) ?_
              refine lv_ifnullN (tgt := 89) hx hb dX11_streets_73 rfl ?_
              refine lv_iconst (v := 0) hx hb dX11_streets_89 kic_0 ?_
              refine lv_istore (lv' := [(9, .int 0), (8, .null), (7, .ref (ad 11 i34)), (6, .int (nI i34)), (5, .int (nI n5)), (4, .int (nI n4)), (3, .int (nI n3)), (0, .ref (g 0)), (1, .int v0), (2, .int v1)]) hx hb dX11_streets_90 hl (ltb rfl) rfl (fun ls hl => ?_)
              refine lv_iload_n hx hb dX11_streets_92 rfl (lvA6 hl) ?_
              refine lv_aload hx hb dX11_streets_93 (lvA2 hl) ?_
              refine gf_RX11_141 S hK hP _ (xf_1 kf_1) (v := .int ((Fn 128) i34)) rfl dX11_streets_95 ?_
              refine lv_if_le (tgt := 105) hx hb dX11_streets_98 rfl (fun c_33 => ?_) (fun c_33 => ?_)
              ·
                have tc_33 : (((Fn 128) i34).toInt : Int) ≤ 0 := Int32.le_iff_toInt_le.mp c_33
                refine lv_iconst (v := 0) hx hb dX11_streets_105 kic_0 ?_
                refine lv_iadd hx hb dX11_streets_106 ?_
                refine lv_topi (fun y_34 ey_34 => ?_)
                obtain rfl : y_34 = (nI (n3 + 0)) := ey_34.trans (nI_add n3 0)
                refine lv_istore_n (lv' := [(3, .int (nI (n3 + 0))), (9, .int 0), (8, .null), (7, .ref (ad 11 i34)), (6, .int (nI i34)), (5, .int (nI n5)), (4, .int (nI n4)), (0, .ref (g 0)), (1, .int v0), (2, .int v1)]) hx hb dX11_streets_107 rfl hl (ltb rfl) rfl (fun ls hl => ?_)
                refine lv_iload hx hb dX11_streets_108 (lvA6 hl) ?_
                refine lv_iload hx hb dX11_streets_110 (lvA1 hl) ?_
                refine lv_if_eq (tgt := 119) hx hb dX11_streets_112 rfl (fun _ => ?_) (fun h => absurd h cq_eq_0_0)
                refine lv_iconst (v := 0) hx hb dX11_streets_119 kic_0 ?_
                refine lv_iadd hx hb dX11_streets_120 ?_
                refine lv_topi (fun y_35 ey_35 => ?_)
                obtain rfl : y_35 = (nI (n4 + 0)) := ey_35.trans (nI_add n4 0)
                refine lv_istore (lv' := [(4, .int (nI (n4 + 0))), (3, .int (nI (n3 + 0))), (9, .int 0), (8, .null), (7, .ref (ad 11 i34)), (6, .int (nI i34)), (5, .int (nI n5)), (0, .ref (g 0)), (1, .int v0), (2, .int v1)]) hx hb dX11_streets_121 hl (ltb rfl) rfl (fun ls hl => ?_)
                refine lv_iload hx hb dX11_streets_123 (lvA6 hl) ?_
                refine lv_iload hx hb dX11_streets_125 (lvA2 hl) ?_
                refine lv_if_eq (tgt := 142) hx hb dX11_streets_127 rfl (fun _ => ?_) (fun h => absurd h cq_eq_0_0)
                refine lv_iconst (v := 0) hx hb dX11_streets_142 kic_0 ?_
                refine lv_iadd hx hb dX11_streets_143 ?_
                refine lv_topi (fun y_36 ey_36 => ?_)
                obtain rfl : y_36 = (nI (n5 + 0)) := ey_36.trans (nI_add n5 0)
                refine lv_istore (lv' := [(5, .int (nI (n5 + 0))), (4, .int (nI (n4 + 0))), (3, .int (nI (n3 + 0))), (9, .int 0), (8, .null), (7, .ref (ad 11 i34)), (6, .int (nI i34)), (0, .ref (g 0)), (1, .int v0), (2, .int v1)]) hx hb dX11_streets_144 hl (ltb rfl) rfl (fun ls hl => ?_)
                refine lv_iinc (v := (nI (i34 + 1))) (lv' := [(6, .int (nI (i34 + 1))), (5, .int (nI (n5 + 0))), (4, .int (nI (n4 + 0))), (3, .int (nI (n3 + 0))), (9, .int 0), (8, .null), (7, .ref (ad 11 i34)), (0, .ref (g 0)), (1, .int v0), (2, .int v1)]) hx hb dX11_streets_146 hl (k := 6) rfl (nI_1 _) (ltb rfl) rfl (fun ls hl => ?_)
                refine lv_goto (tgt := 34) hx hb dX11_streets_149 rfl ?_
                exact ih34 (i34 + 1) (n3 + 0) (n4 + 0) (n5 + 0) (by (first | omega | (have zz0 := Hid.u hb_cn; omega))) ⟨(by (first | omega | (have zz0 := Hid.u hb_cn; omega))), ⟨by (first | omega | (have zz0 := Hid.u hb_cn; omega)), by (first | omega | (have zz0 := Hid.u hb_cn; omega)), by (first | omega | (have zz0 := Hid.u hb_cn; omega))⟩⟩ ls (lv_sub hl [0, 1, 2, 3, 7, 8, 9] rfl)
              ·
                have tc_33 : (0 : Int) < ((Fn 128) i34).toInt := Int32.lt_iff_toInt_lt.mp (Int32.not_le.mp c_33)
                refine lv_iconst (v := 1) hx hb dX11_streets_101 kic_1 ?_
                refine lv_goto (tgt := 106) hx hb dX11_streets_102 rfl ?_
                refine lv_iadd hx hb dX11_streets_106 ?_
                refine lv_topi (fun y_37 ey_37 => ?_)
                obtain rfl : y_37 = (nI (n3 + 1)) := ey_37.trans (nI_add n3 1)
                refine lv_istore_n (lv' := [(3, .int (nI (n3 + 1))), (9, .int 0), (8, .null), (7, .ref (ad 11 i34)), (6, .int (nI i34)), (5, .int (nI n5)), (4, .int (nI n4)), (0, .ref (g 0)), (1, .int v0), (2, .int v1)]) hx hb dX11_streets_107 rfl hl (ltb rfl) rfl (fun ls hl => ?_)
                refine lv_iload hx hb dX11_streets_108 (lvA6 hl) ?_
                refine lv_iload hx hb dX11_streets_110 (lvA1 hl) ?_
                refine lv_if_eq (tgt := 119) hx hb dX11_streets_112 rfl (fun _ => ?_) (fun h => absurd h cq_eq_0_0)
                refine lv_iconst (v := 0) hx hb dX11_streets_119 kic_0 ?_
                refine lv_iadd hx hb dX11_streets_120 ?_
                refine lv_topi (fun y_38 ey_38 => ?_)
                obtain rfl : y_38 = (nI (n4 + 0)) := ey_38.trans (nI_add n4 0)
                refine lv_istore (lv' := [(4, .int (nI (n4 + 0))), (3, .int (nI (n3 + 1))), (9, .int 0), (8, .null), (7, .ref (ad 11 i34)), (6, .int (nI i34)), (5, .int (nI n5)), (0, .ref (g 0)), (1, .int v0), (2, .int v1)]) hx hb dX11_streets_121 hl (ltb rfl) rfl (fun ls hl => ?_)
                refine lv_iload hx hb dX11_streets_123 (lvA6 hl) ?_
                refine lv_iload hx hb dX11_streets_125 (lvA2 hl) ?_
                refine lv_if_eq (tgt := 142) hx hb dX11_streets_127 rfl (fun _ => ?_) (fun h => absurd h cq_eq_0_0)
                refine lv_iconst (v := 0) hx hb dX11_streets_142 kic_0 ?_
                refine lv_iadd hx hb dX11_streets_143 ?_
                refine lv_topi (fun y_39 ey_39 => ?_)
                obtain rfl : y_39 = (nI (n5 + 0)) := ey_39.trans (nI_add n5 0)
                refine lv_istore (lv' := [(5, .int (nI (n5 + 0))), (4, .int (nI (n4 + 0))), (3, .int (nI (n3 + 1))), (9, .int 0), (8, .null), (7, .ref (ad 11 i34)), (6, .int (nI i34)), (0, .ref (g 0)), (1, .int v0), (2, .int v1)]) hx hb dX11_streets_144 hl (ltb rfl) rfl (fun ls hl => ?_)
                refine lv_iinc (v := (nI (i34 + 1))) (lv' := [(6, .int (nI (i34 + 1))), (5, .int (nI (n5 + 0))), (4, .int (nI (n4 + 0))), (3, .int (nI (n3 + 1))), (9, .int 0), (8, .null), (7, .ref (ad 11 i34)), (0, .ref (g 0)), (1, .int v0), (2, .int v1)]) hx hb dX11_streets_146 hl (k := 6) rfl (nI_1 _) (ltb rfl) rfl (fun ls hl => ?_)
                refine lv_goto (tgt := 34) hx hb dX11_streets_149 rfl ?_
                exact ih34 (i34 + 1) (n3 + 1) (n4 + 0) (n5 + 0) (by (first | omega | (have zz0 := Hid.u hb_cn; omega))) ⟨(by (first | omega | (have zz0 := Hid.u hb_cn; omega))), ⟨by (first | omega | (have zz0 := Hid.u hb_cn; omega)), by (first | omega | (have zz0 := Hid.u hb_cn; omega)), by (first | omega | (have zz0 := Hid.u hb_cn; omega))⟩⟩ ls (lv_sub hl [0, 1, 2, 3, 7, 8, 9] rfl)
      exact lp_34 _ 0 0 0 0 (Nat.lt_succ_self _) ⟨(by (first | omega | (have zz0 := Hid.u hb_cn; omega))), ⟨Nat.le_refl _, Nat.le_refl _, Nat.le_refl _⟩⟩ ls (lv_sub hl [0, 1, 2, 3, 4, 5, 6] rfl)
    ·
      have h_4 : ¬ (0 ≤ v1.toInt ∧ v1.toInt ≤ 2) := h_4
      refine lv_if_ne (tgt := 23) hx hb dX11_streets_16 rfl (fun h => absurd h cq_eq_0_0) (fun _ => ?_)
      refine lv_ldc2 (v := (-1)) hx hb hown (S.2.2.2.2 _ (wk4_5 1 rfl rfl)) dX11_streets_19 ?_
      exact W.lret (v := (-1)) hx hb hr (fun t ht hW => ⟨(-1), rfl, trivial, ht⟩) (fun _ h => absurd h List.not_mem_nil) dX11_streets_22
  ·
    have h_2 : ¬ (0 ≤ v0.toInt ∧ v0.toInt ≤ 9) := h_2
    refine lv_if_eq (tgt := 19) hx hb dX11_streets_7 rfl (fun _ => ?_) (fun h => absurd h cq_eq_0_0)
    refine lv_ldc2 (v := (-1)) hx hb hown (S.2.2.2.2 _ (wk4_5 1 rfl rfl)) dX11_streets_19 ?_
    exact W.lret (v := (-1)) hx hb hr (fun t ht hW => ⟨(-1), rfl, trivial, ht⟩) (fun _ h => absurd h List.not_mem_nil) dX11_streets_22
set_option maxRecDepth 100000 in
set_option maxHeartbeats 4000000 in
theorem q_Xcheat (l : Launch) (D : va_G) (cI cB cZ : ClassId) (zz qq vv : Nat) (bt : Nat → Int32) (g : Nat → Nat) (ad : Nat → Nat → Nat) (cn : Nat → Nat) (In : Nat → Int32) (Fn : Nat → Nat → Int32) (v0 v1 v2 : Int32) (hB : CBX cn) : Met l yX11_cheat (CWS yX11_cheat cX11_cheat 10 (some .long)) (RM 4 0 0) (PBrx [.ref (g 0), .int v0, .int v1, .int v2] D cI cB cZ zz qq vv bt (wX cI (D.1 99) zz g ad cn In Fn)) (vp_Sl (fun _ => True)) 0 0 (fun _ => False) := by
  refine en_rx rfl pn_RX11 (Nat.le_of_ble_eq_true rfl) (fun p e s m below meth c hx hb hml hown S hr hlocks hnm hP hK hXS hS ls hl => ?_)
  have hl : lv_has ls 10 [(0, .ref (g 0)), (1, .int v0), (2, .int v1), (3, .int v2)] := hl
  have hb_cn : Hid (CBX cn) := hB
  replace hB : CBXh cn := hB
  refine lv_aload_n hx hb dX11_cheat_0 rfl (lvA0 hl) ?_
  refine lv_iload_n hx hb dX11_cheat_1 rfl (lvA1 hl) ?_
  refine va_csq (runV_rxa (As := [.int v0]) (rest := []) S (q_XkitchenAt l D cI cB cZ zz qq vv bt g ad cn In Fn v0 hB) kV_RX11_114 hK hXS hS hP 0 xo_0 rfl rfl ⟨Nat.le_of_ble_eq_true rfl, Nat.le_of_ble_eq_true rfl⟩ ⟨Nat.le_of_ble_eq_true rfl, Nat.le_of_ble_eq_true rfl⟩ rfl hl.1 rfl (Nat.le_of_ble_eq_true rfl) dX11_cheat_2) (fun r_1 h_2 => ?_)
  rcases h_2 with ⟨mr_1, er_1, hr_1, rfl⟩ | ⟨hr_1, rfl⟩
  ·
    refine lv_ifnull hx hb dX11_cheat_5 ?_
    refine lv_iload_n hx hb dX11_cheat_8 rfl (lvA2 hl) ?_
    refine lv_iconst (v := 0) hx hb dX11_cheat_9 kic_0 ?_
    refine lv_sipush (v := 1000) hx hb dX11_cheat_10 (by decide) ?_
    refine vp_callSi (runS_r (As := [.int v1, .int 0, .int 1000]) (rest := []) S (q_l_within l D cI cB cZ v1 0 1000) kS_RX11_80 hK hP [] rfl ⟨Nat.le_of_ble_eq_true rfl, Nat.le_of_ble_eq_true rfl⟩ ⟨Nat.le_of_ble_eq_true rfl, Nat.le_of_ble_eq_true rfl⟩ rfl hl.1 rfl (Nat.le_of_ble_eq_true rfl) dX11_cheat_13) (fun r_3 h_4 => ?_)
    rcases h_4 with ⟨rfl, h_4⟩ | ⟨rfl, h_4⟩
    ·
      have h_4 : 0 ≤ v1.toInt ∧ v1.toInt ≤ 1000 := h_4
      refine lv_if_eq (tgt := 28) hx hb dX11_cheat_16 rfl (fun h => absurd h cq_eq_1_0) (fun _ => ?_)
      refine lv_iload_n hx hb dX11_cheat_19 rfl (lvA3 hl) ?_
      refine lv_iconst (v := 0) hx hb dX11_cheat_20 kic_0 ?_
      refine lv_iconst (v := 2) hx hb dX11_cheat_21 kic_2 ?_
      refine vp_callSi (runS_r (As := [.int v2, .int 0, .int 2]) (rest := []) S (q_l_within l D cI cB cZ v2 0 2) kS_RX11_80 hK hP [] rfl ⟨Nat.le_of_ble_eq_true rfl, Nat.le_of_ble_eq_true rfl⟩ ⟨Nat.le_of_ble_eq_true rfl, Nat.le_of_ble_eq_true rfl⟩ rfl hl.1 rfl (Nat.le_of_ble_eq_true rfl) dX11_cheat_22) (fun r_5 h_6 => ?_)
      rcases h_6 with ⟨rfl, h_6⟩ | ⟨rfl, h_6⟩
      ·
        have h_6 : 0 ≤ v2.toInt ∧ v2.toInt ≤ 2 := h_6
        refine lv_if_ne (tgt := 32) hx hb dX11_cheat_25 rfl (fun _ => ?_) (fun h => absurd h cq_eq_1_0)
        refine lv_iconst (v := 0) hx hb dX11_cheat_32 kic_0 ?_
        refine lv_istore (lv' := [(4, .int 0), (0, .ref (g 0)), (1, .int v0), (2, .int v1), (3, .int v2)]) hx hb dX11_cheat_33 hl (ltb rfl) rfl (fun ls hl => ?_)
        refine lv_iconst (v := 0) hx hb dX11_cheat_35 kic_0 ?_
        refine lv_istore (lv' := [(5, .int 0), (4, .int 0), (0, .ref (g 0)), (1, .int v0), (2, .int v1), (3, .int v2)]) hx hb dX11_cheat_36 hl (ltb rfl) rfl (fun ls hl => ?_)
        refine lv_iconst (v := 0) hx hb dX11_cheat_38 kic_0 ?_
        refine lv_istore (lv' := [(6, .int 0), (5, .int 0), (4, .int 0), (0, .ref (g 0)), (1, .int v0), (2, .int v1), (3, .int v2)]) hx hb dX11_cheat_39 hl (ltb rfl) rfl (fun ls hl => ?_)
        refine lv_iconst (v := 0) hx hb dX11_cheat_41 kic_0 ?_
        refine lv_istore (lv' := [(7, .int 0), (6, .int 0), (5, .int 0), (4, .int 0), (0, .ref (g 0)), (1, .int v0), (2, .int v1), (3, .int v2)]) hx hb dX11_cheat_42 hl (ltb rfl) rfl (fun ls hl => ?_)
        have lp_44 : ∀ (n : Nat) (i44 : Nat) (n3 : Nat) (n4 : Nat) (n5 : Nat) , cn 11 - i44 < n → (i44 ≤ cn 11 ∧ (n3 ≤ i44 ∧ n4 ≤ i44 ∧ n5 ≤ i44)) → ∀ ls : Array Slot, lv_has ls 10 [(7, .int (nI i44)), (6, .int (nI n5)), (5, .int (nI n4)), (4, .int (nI n3)), (0, .ref (g 0)), (1, .int v0), (2, .int v1), (3, .int v2)] → W p l e (RM 4 0 0) s m ([.ref (g 0), .int v0, .int v1, .int v2]).toArray below meth c s.heap [] 0 0 (MQ below (vp_Sl (fun _ => True)) ([.ref (g 0), .int v0, .int v1, .int v2]).toArray s 0 0 (fun _ => False)) (F0 m 44 ls []) := by
          intro n44
          induction n44 with
          | zero => intros; (first | omega | (have zz0 := Hid.u hb_cn; omega))
          | succ n44 ih44 =>
            intro i44 n3 n4 n5 hmu44 hinv44 ls hl
            obtain ⟨hr44, hx44_0⟩ := hinv44
            have ti44 : (nI i44).toInt = (i44 : Int) := nI_toInt (by (first | omega | (have zz0 := Hid.u hb_cn; omega)))
            refine lv_iload hx hb dX11_cheat_44 (lvA0 hl) ?_
            refine lv_aload_n hx hb dX11_cheat_46 rfl (lvA4 hl) ?_
            refine gf_RX11_65 S hK hP 0 xo_0 (v := .ref (g 11)) rfl dX11_cheat_47 ?_
            refine vp_callSi (runV_r (As := []) (rest := [.int (nI i44)]) S (q_l_size l D cI cB cZ (g 11) (if (cn 11) = 0 then zz else ad 2 1) (In 11) (nI (cn 11))) kV_RX11_84 hK hP [25] (one_is xo_25) 25 xo_25 rfl rfl ⟨Nat.le_of_ble_eq_true rfl, Nat.le_of_ble_eq_true rfl⟩ ⟨Nat.le_of_ble_eq_true rfl, Nat.le_of_ble_eq_true rfl⟩ rfl hl.1 rfl (Nat.le_of_ble_eq_true rfl) dX11_cheat_50) (fun r_7 h_8 => ?_)
            subst h_8
            have : (nI (cn 11)).toInt = (((cn 11) : Nat) : Int) := nI_toInt (by (first | omega | (have zz0 := Hid.u hb_cn; omega)))
            refine lv_icmp_ge (tgt := 150) hx hb dX11_cheat_53 rfl (fun c_9 => ?_) (fun c_9 => ?_)
            ·
              have tc_9 : ((nI (cn 11)).toInt : Int) ≤ (nI i44).toInt := Int32.le_iff_toInt_le.mp c_9
              refine lv_iload hx hb dX11_cheat_150 (lvA3 hl) ?_
              refine lv_iload hx hb dX11_cheat_152 (lvA2 hl) ?_
              refine lv_iload hx hb dX11_cheat_154 (lvA1 hl) ?_
              refine lv_aload_n hx hb dX11_cheat_156 rfl (lvA4 hl) ?_
              refine gf_RX11_65 S hK hP 0 xo_0 (v := .ref (g 11)) rfl dX11_cheat_157 ?_
              refine vp_callSi (runV_r (As := []) (rest := [.int (nI n5), .int (nI n4), .int (nI n3)]) S (q_l_size l D cI cB cZ (g 11) (if (cn 11) = 0 then zz else ad 2 1) (In 11) (nI (cn 11))) kV_RX11_84 hK hP [25] (one_is xo_25) 25 xo_25 rfl rfl ⟨Nat.le_of_ble_eq_true rfl, Nat.le_of_ble_eq_true rfl⟩ ⟨Nat.le_of_ble_eq_true rfl, Nat.le_of_ble_eq_true rfl⟩ rfl hl.1 rfl (Nat.le_of_ble_eq_true rfl) dX11_cheat_160) (fun r_10 h_11 => ?_)
              subst h_11
              refine lv_iload_n hx hb dX11_cheat_163 rfl (lvA7 hl) ?_
              refine vp_callSl (runS_r (As := [.int (nI n3), .int (nI n4), .int (nI n5), .int (nI (cn 11)), .int v2]) (rest := []) S (q_Xodds l D cI cB cZ n3 n4 n5 (cn 11) v2 (by (first | omega | (have zz0 := Hid.u hb_cn; omega))) (by (first | omega | (have zz0 := Hid.u hb_cn; omega))) (by (first | omega | (have zz0 := Hid.u hb_cn; omega))) (by (first | omega | (have zz0 := Hid.u hb_cn; omega)))) kS_RX11_256 hK hP [] rfl ⟨Nat.le_of_ble_eq_true rfl, Nat.le_of_ble_eq_true rfl⟩ ⟨Nat.le_of_ble_eq_true rfl, Nat.le_of_ble_eq_true rfl⟩ rfl hl.1 rfl (Nat.le_of_ble_eq_true rfl) dX11_cheat_164) (fun r_12 h_13 => ?_)
              exact W.lret (v := r_12) hx hb hr (fun t ht hW => ⟨r_12, rfl, trivial, ht⟩) (fun _ h => absurd h List.not_mem_nil) dX11_cheat_167
            ·
              have tc_9 : ((nI i44).toInt : Int) < (nI (cn 11)).toInt := Int32.lt_iff_toInt_lt.mp (Int32.not_le.mp c_9)
              refine lv_aload_n hx hb dX11_cheat_56 rfl (lvA4 hl) ?_
              refine gf_RX11_65 S hK hP 0 xo_0 (v := .ref (g 11)) rfl dX11_cheat_57 ?_
              refine lv_iload hx hb dX11_cheat_60 (lvA0 hl) ?_
              refine va_csq (runV_rx (As := [.int (nI i44)]) (rest := []) S (q_l_get l D cI cB cZ zz qq vv bt (g 11) (ad 2 1) (cn 21) (cn 11) i44 (ad 11 i44) (In 11) (fun i => if i < (cn 11) then some (ad 11 i) else none) (by (first | omega | (have zz0 := Hid.u hb_cn; omega))) (if_pos (by (first | omega | (have zz0 := Hid.u hb_cn; omega)))) (by (first | omega | (have zz0 := Hid.u hb_cn; omega))) (by (first | omega | (have zz0 := Hid.u hb_cn; omega)))) kV_RX11_87 hK hXS hS hP _ (two_is (xl_1 (by (first | omega | (have zz0 := Hid.u hb_cn; omega)))) (xf_14 (k := 0) (by (first | omega | (have zz0 := Hid.u hb_cn; omega))))) (va_recv hK.1 hP (ci := 0) rfl xo_25) ⟨Nat.le_of_ble_eq_true rfl, Nat.le_of_ble_eq_true rfl⟩ ⟨Nat.le_of_ble_eq_true rfl, Nat.le_of_ble_eq_true rfl⟩ rfl hl.1 rfl (Nat.le_of_ble_eq_true rfl) dX11_cheat_62) (fun r_14 h_15 => ?_)
              subst h_15
              have kf_1 : i44 < cn 11 := by (first | omega | (have zz0 := Hid.u hb_cn; omega))
              refine va_castS hx hb hown (S.2.2.2.2 _ (wk2_17 0 rfl rfl)) (xclass hK.1 (ci := 3) rfl) (va_recv hK.1 hP (ci := 3) rfl (xf_1 kf_1)) dX11_cheat_65 ?_
              refine lv_astore (lv' := [(8, .ref (ad 11 i44)), (7, .int (nI i44)), (6, .int (nI n5)), (5, .int (nI n4)), (4, .int (nI n3)), (0, .ref (g 0)), (1, .int v0), (2, .int v1), (3, .int v2)]) hx hb dX11_cheat_68 hl (ltb rfl) rfl (fun ls hl => ?_)
              refine lv_aload hx hb dX11_cheat_70 (lvA0 hl) ?_
              refine gf_RX11_205 S hK hP _ (xf_1 kf_1) (v := .int ((Fn 123) i44)) rfl dX11_cheat_72 ?_
              refine lv_iload_n hx hb dX11_cheat_75 rfl (lvA7 hl) ?_
              refine lv_icmp_lt (tgt := 83) hx hb dX11_cheat_76 rfl (fun c_16 => ?_) (fun c_16 => ?_)
              ·
                have tc_16 : (((Fn 123) i44).toInt : Int) < v1.toInt := Int32.lt_iff_toInt_lt.mp c_16
                refine lv_iconst (v := 0) hx hb dX11_cheat_83 kic_0 ?_
                refine lv_istore (lv' := [(9, .int 0), (8, .ref (ad 11 i44)), (7, .int (nI i44)), (6, .int (nI n5)), (5, .int (nI n4)), (4, .int (nI n3)), (0, .ref (g 0)), (1, .int v0), (2, .int v1), (3, .int v2)]) hx hb dX11_cheat_84 hl (ltb rfl) rfl (fun ls hl => ?_)
                refine lv_iload hx hb dX11_cheat_86 (lvA5 hl) ?_
                refine lv_iload hx hb dX11_cheat_88 (lvA0 hl) ?_
                refine lv_if_eq (tgt := 97) hx hb dX11_cheat_90 rfl (fun _ => ?_) (fun h => absurd h cq_eq_0_0)
                refine lv_iconst (v := 0) hx hb dX11_cheat_97 kic_0 ?_
                refine lv_iadd hx hb dX11_cheat_98 ?_
                refine lv_topi (fun y_17 ey_17 => ?_)
                obtain rfl : y_17 = (nI (n3 + 0)) := ey_17.trans (nI_add n3 0)
                refine lv_istore (lv' := [(4, .int (nI (n3 + 0))), (9, .int 0), (8, .ref (ad 11 i44)), (7, .int (nI i44)), (6, .int (nI n5)), (5, .int (nI n4)), (0, .ref (g 0)), (1, .int v0), (2, .int v1), (3, .int v2)]) hx hb dX11_cheat_99 hl (ltb rfl) rfl (fun ls hl => ?_)
                refine lv_iload hx hb dX11_cheat_101 (lvA5 hl) ?_
                refine lv_aload hx hb dX11_cheat_103 (lvA2 hl) ?_
                refine gf_RX11_211 S hK hP _ (xf_1 kf_1) (v := .int ((Fn 120) i44)) rfl dX11_cheat_105 ?_
                refine lv_iload_n hx hb dX11_cheat_108 rfl (lvA7 hl) ?_
                refine lv_icmp_ne (tgt := 116) hx hb dX11_cheat_109 rfl (fun c_18 => ?_) (fun c_18 => ?_)
                ·
                  have tc_18 : (((Fn 120) i44).toInt : Int) ≠ v0.toInt := fun q => c_18 (Int32.toInt_inj.mp q)
                  refine lv_iconst (v := 0) hx hb dX11_cheat_116 kic_0 ?_
                  refine lv_iadd hx hb dX11_cheat_117 ?_
                  refine lv_topi (fun y_19 ey_19 => ?_)
                  obtain rfl : y_19 = (nI (n4 + 0)) := ey_19.trans (nI_add n4 0)
                  refine lv_istore (lv' := [(5, .int (nI (n4 + 0))), (4, .int (nI (n3 + 0))), (9, .int 0), (8, .ref (ad 11 i44)), (7, .int (nI i44)), (6, .int (nI n5)), (0, .ref (g 0)), (1, .int v0), (2, .int v1), (3, .int v2)]) hx hb dX11_cheat_118 hl (ltb rfl) rfl (fun ls hl => ?_)
                  refine lv_iload hx hb dX11_cheat_120 (lvA5 hl) ?_
                  refine lv_aload hx hb dX11_cheat_122 (lvA3 hl) ?_
                  refine gf_RX11_211 S hK hP _ (xf_1 kf_1) (v := .int ((Fn 120) i44)) rfl dX11_cheat_124 ?_
                  refine lv_iload_n hx hb dX11_cheat_127 rfl (lvA7 hl) ?_
                  refine lv_icmp_ne (tgt := 140) hx hb dX11_cheat_128 rfl (fun c_20 => ?_) (fun c_20 => ?_)
                  ·
                    have tc_20 : (((Fn 120) i44).toInt : Int) ≠ v0.toInt := fun q => c_20 (Int32.toInt_inj.mp q)
                    refine lv_iconst (v := 0) hx hb dX11_cheat_140 kic_0 ?_
                    refine lv_iadd hx hb dX11_cheat_141 ?_
                    refine lv_topi (fun y_21 ey_21 => ?_)
                    obtain rfl : y_21 = (nI (n5 + 0)) := ey_21.trans (nI_add n5 0)
                    refine lv_istore (lv' := [(6, .int (nI (n5 + 0))), (5, .int (nI (n4 + 0))), (4, .int (nI (n3 + 0))), (9, .int 0), (8, .ref (ad 11 i44)), (7, .int (nI i44)), (0, .ref (g 0)), (1, .int v0), (2, .int v1), (3, .int v2)]) hx hb dX11_cheat_142 hl (ltb rfl) rfl (fun ls hl => ?_)
                    refine lv_iinc (v := (nI (i44 + 1))) (lv' := [(7, .int (nI (i44 + 1))), (6, .int (nI (n5 + 0))), (5, .int (nI (n4 + 0))), (4, .int (nI (n3 + 0))), (9, .int 0), (8, .ref (ad 11 i44)), (0, .ref (g 0)), (1, .int v0), (2, .int v1), (3, .int v2)]) hx hb dX11_cheat_144 hl (k := 5) rfl (nI_1 _) (ltb rfl) rfl (fun ls hl => ?_)
                    refine lv_goto (tgt := 44) hx hb dX11_cheat_147 rfl ?_
                    exact ih44 (i44 + 1) (n3 + 0) (n4 + 0) (n5 + 0) (by (first | omega | (have zz0 := Hid.u hb_cn; omega))) ⟨(by (first | omega | (have zz0 := Hid.u hb_cn; omega))), ⟨by (first | omega | (have zz0 := Hid.u hb_cn; omega)), by (first | omega | (have zz0 := Hid.u hb_cn; omega)), by (first | omega | (have zz0 := Hid.u hb_cn; omega))⟩⟩ ls (lv_sub hl [0, 1, 2, 3, 6, 7, 8, 9] rfl)
                  ·
                    have tc_20 : (((Fn 120) i44).toInt : Int) = v0.toInt := congrArg Int32.toInt c_20
                    refine lv_iload hx hb dX11_cheat_131 (lvA2 hl) ?_
                    refine lv_if_eq (tgt := 140) hx hb dX11_cheat_133 rfl (fun _ => ?_) (fun h => absurd h cq_eq_0_0)
                    refine lv_iconst (v := 0) hx hb dX11_cheat_140 kic_0 ?_
                    refine lv_iadd hx hb dX11_cheat_141 ?_
                    refine lv_topi (fun y_22 ey_22 => ?_)
                    obtain rfl : y_22 = (nI (n5 + 0)) := ey_22.trans (nI_add n5 0)
                    refine lv_istore (lv' := [(6, .int (nI (n5 + 0))), (5, .int (nI (n4 + 0))), (4, .int (nI (n3 + 0))), (9, .int 0), (8, .ref (ad 11 i44)), (7, .int (nI i44)), (0, .ref (g 0)), (1, .int v0), (2, .int v1), (3, .int v2)]) hx hb dX11_cheat_142 hl (ltb rfl) rfl (fun ls hl => ?_)
                    refine lv_iinc (v := (nI (i44 + 1))) (lv' := [(7, .int (nI (i44 + 1))), (6, .int (nI (n5 + 0))), (5, .int (nI (n4 + 0))), (4, .int (nI (n3 + 0))), (9, .int 0), (8, .ref (ad 11 i44)), (0, .ref (g 0)), (1, .int v0), (2, .int v1), (3, .int v2)]) hx hb dX11_cheat_144 hl (k := 5) rfl (nI_1 _) (ltb rfl) rfl (fun ls hl => ?_)
                    refine lv_goto (tgt := 44) hx hb dX11_cheat_147 rfl ?_
                    exact ih44 (i44 + 1) (n3 + 0) (n4 + 0) (n5 + 0) (by (first | omega | (have zz0 := Hid.u hb_cn; omega))) ⟨(by (first | omega | (have zz0 := Hid.u hb_cn; omega))), ⟨by (first | omega | (have zz0 := Hid.u hb_cn; omega)), by (first | omega | (have zz0 := Hid.u hb_cn; omega)), by (first | omega | (have zz0 := Hid.u hb_cn; omega))⟩⟩ ls (lv_sub hl [0, 1, 2, 3, 6, 7, 8, 9] rfl)
                ·
                  have tc_18 : (((Fn 120) i44).toInt : Int) = v0.toInt := congrArg Int32.toInt c_18
                  refine lv_iconst (v := 1) hx hb dX11_cheat_112 kic_1 ?_
                  refine lv_goto (tgt := 117) hx hb dX11_cheat_113 rfl ?_
                  refine lv_iadd hx hb dX11_cheat_117 ?_
                  refine lv_topi (fun y_23 ey_23 => ?_)
                  obtain rfl : y_23 = (nI (n4 + 1)) := ey_23.trans (nI_add n4 1)
                  refine lv_istore (lv' := [(5, .int (nI (n4 + 1))), (4, .int (nI (n3 + 0))), (9, .int 0), (8, .ref (ad 11 i44)), (7, .int (nI i44)), (6, .int (nI n5)), (0, .ref (g 0)), (1, .int v0), (2, .int v1), (3, .int v2)]) hx hb dX11_cheat_118 hl (ltb rfl) rfl (fun ls hl => ?_)
                  refine lv_iload hx hb dX11_cheat_120 (lvA5 hl) ?_
                  refine lv_aload hx hb dX11_cheat_122 (lvA3 hl) ?_
                  refine gf_RX11_211 S hK hP _ (xf_1 kf_1) (v := .int ((Fn 120) i44)) rfl dX11_cheat_124 ?_
                  refine lv_iload_n hx hb dX11_cheat_127 rfl (lvA7 hl) ?_
                  refine lv_icmp_ne (tgt := 140) hx hb dX11_cheat_128 rfl (fun c_24 => ?_) (fun c_24 => ?_)
                  ·
                    have tc_24 : (((Fn 120) i44).toInt : Int) ≠ v0.toInt := fun q => c_24 (Int32.toInt_inj.mp q)
                    refine lv_iconst (v := 0) hx hb dX11_cheat_140 kic_0 ?_
                    refine lv_iadd hx hb dX11_cheat_141 ?_
                    refine lv_topi (fun y_25 ey_25 => ?_)
                    obtain rfl : y_25 = (nI (n5 + 0)) := ey_25.trans (nI_add n5 0)
                    refine lv_istore (lv' := [(6, .int (nI (n5 + 0))), (5, .int (nI (n4 + 1))), (4, .int (nI (n3 + 0))), (9, .int 0), (8, .ref (ad 11 i44)), (7, .int (nI i44)), (0, .ref (g 0)), (1, .int v0), (2, .int v1), (3, .int v2)]) hx hb dX11_cheat_142 hl (ltb rfl) rfl (fun ls hl => ?_)
                    refine lv_iinc (v := (nI (i44 + 1))) (lv' := [(7, .int (nI (i44 + 1))), (6, .int (nI (n5 + 0))), (5, .int (nI (n4 + 1))), (4, .int (nI (n3 + 0))), (9, .int 0), (8, .ref (ad 11 i44)), (0, .ref (g 0)), (1, .int v0), (2, .int v1), (3, .int v2)]) hx hb dX11_cheat_144 hl (k := 5) rfl (nI_1 _) (ltb rfl) rfl (fun ls hl => ?_)
                    refine lv_goto (tgt := 44) hx hb dX11_cheat_147 rfl ?_
                    exact ih44 (i44 + 1) (n3 + 0) (n4 + 1) (n5 + 0) (by (first | omega | (have zz0 := Hid.u hb_cn; omega))) ⟨(by (first | omega | (have zz0 := Hid.u hb_cn; omega))), ⟨by (first | omega | (have zz0 := Hid.u hb_cn; omega)), by (first | omega | (have zz0 := Hid.u hb_cn; omega)), by (first | omega | (have zz0 := Hid.u hb_cn; omega))⟩⟩ ls (lv_sub hl [0, 1, 2, 3, 6, 7, 8, 9] rfl)
                  ·
                    have tc_24 : (((Fn 120) i44).toInt : Int) = v0.toInt := congrArg Int32.toInt c_24
                    refine lv_iload hx hb dX11_cheat_131 (lvA2 hl) ?_
                    refine lv_if_eq (tgt := 140) hx hb dX11_cheat_133 rfl (fun _ => ?_) (fun h => absurd h cq_eq_0_0)
                    refine lv_iconst (v := 0) hx hb dX11_cheat_140 kic_0 ?_
                    refine lv_iadd hx hb dX11_cheat_141 ?_
                    refine lv_topi (fun y_26 ey_26 => ?_)
                    obtain rfl : y_26 = (nI (n5 + 0)) := ey_26.trans (nI_add n5 0)
                    refine lv_istore (lv' := [(6, .int (nI (n5 + 0))), (5, .int (nI (n4 + 1))), (4, .int (nI (n3 + 0))), (9, .int 0), (8, .ref (ad 11 i44)), (7, .int (nI i44)), (0, .ref (g 0)), (1, .int v0), (2, .int v1), (3, .int v2)]) hx hb dX11_cheat_142 hl (ltb rfl) rfl (fun ls hl => ?_)
                    refine lv_iinc (v := (nI (i44 + 1))) (lv' := [(7, .int (nI (i44 + 1))), (6, .int (nI (n5 + 0))), (5, .int (nI (n4 + 1))), (4, .int (nI (n3 + 0))), (9, .int 0), (8, .ref (ad 11 i44)), (0, .ref (g 0)), (1, .int v0), (2, .int v1), (3, .int v2)]) hx hb dX11_cheat_144 hl (k := 5) rfl (nI_1 _) (ltb rfl) rfl (fun ls hl => ?_)
                    refine lv_goto (tgt := 44) hx hb dX11_cheat_147 rfl ?_
                    exact ih44 (i44 + 1) (n3 + 0) (n4 + 1) (n5 + 0) (by (first | omega | (have zz0 := Hid.u hb_cn; omega))) ⟨(by (first | omega | (have zz0 := Hid.u hb_cn; omega))), ⟨by (first | omega | (have zz0 := Hid.u hb_cn; omega)), by (first | omega | (have zz0 := Hid.u hb_cn; omega)), by (first | omega | (have zz0 := Hid.u hb_cn; omega))⟩⟩ ls (lv_sub hl [0, 1, 2, 3, 6, 7, 8, 9] rfl)
              ·
                have tc_16 : (v1.toInt : Int) ≤ ((Fn 123) i44).toInt := Int32.le_iff_toInt_le.mp (Int32.not_lt.mp c_16)
                refine lv_iconst (v := 1) hx hb dX11_cheat_79 kic_1 ?_
                refine lv_goto (tgt := 84) hx hb dX11_cheat_80 rfl ?_
                refine lv_istore (lv' := [(9, .int 1), (8, .ref (ad 11 i44)), (7, .int (nI i44)), (6, .int (nI n5)), (5, .int (nI n4)), (4, .int (nI n3)), (0, .ref (g 0)), (1, .int v0), (2, .int v1), (3, .int v2)]) hx hb dX11_cheat_84 hl (ltb rfl) rfl (fun ls hl => ?_)
                refine lv_iload hx hb dX11_cheat_86 (lvA5 hl) ?_
                refine lv_iload hx hb dX11_cheat_88 (lvA0 hl) ?_
                refine lv_if_eq (tgt := 97) hx hb dX11_cheat_90 rfl (fun h => absurd h cq_eq_1_0) (fun _ => ?_)
                refine lv_iconst (v := 1) hx hb dX11_cheat_93 kic_1 ?_
                refine lv_goto (tgt := 98) hx hb dX11_cheat_94 rfl ?_
                refine lv_iadd hx hb dX11_cheat_98 ?_
                refine lv_topi (fun y_27 ey_27 => ?_)
                obtain rfl : y_27 = (nI (n3 + 1)) := ey_27.trans (nI_add n3 1)
                refine lv_istore (lv' := [(4, .int (nI (n3 + 1))), (9, .int 1), (8, .ref (ad 11 i44)), (7, .int (nI i44)), (6, .int (nI n5)), (5, .int (nI n4)), (0, .ref (g 0)), (1, .int v0), (2, .int v1), (3, .int v2)]) hx hb dX11_cheat_99 hl (ltb rfl) rfl (fun ls hl => ?_)
                refine lv_iload hx hb dX11_cheat_101 (lvA5 hl) ?_
                refine lv_aload hx hb dX11_cheat_103 (lvA2 hl) ?_
                refine gf_RX11_211 S hK hP _ (xf_1 kf_1) (v := .int ((Fn 120) i44)) rfl dX11_cheat_105 ?_
                refine lv_iload_n hx hb dX11_cheat_108 rfl (lvA7 hl) ?_
                refine lv_icmp_ne (tgt := 116) hx hb dX11_cheat_109 rfl (fun c_28 => ?_) (fun c_28 => ?_)
                ·
                  have tc_28 : (((Fn 120) i44).toInt : Int) ≠ v0.toInt := fun q => c_28 (Int32.toInt_inj.mp q)
                  refine lv_iconst (v := 0) hx hb dX11_cheat_116 kic_0 ?_
                  refine lv_iadd hx hb dX11_cheat_117 ?_
                  refine lv_topi (fun y_29 ey_29 => ?_)
                  obtain rfl : y_29 = (nI (n4 + 0)) := ey_29.trans (nI_add n4 0)
                  refine lv_istore (lv' := [(5, .int (nI (n4 + 0))), (4, .int (nI (n3 + 1))), (9, .int 1), (8, .ref (ad 11 i44)), (7, .int (nI i44)), (6, .int (nI n5)), (0, .ref (g 0)), (1, .int v0), (2, .int v1), (3, .int v2)]) hx hb dX11_cheat_118 hl (ltb rfl) rfl (fun ls hl => ?_)
                  refine lv_iload hx hb dX11_cheat_120 (lvA5 hl) ?_
                  refine lv_aload hx hb dX11_cheat_122 (lvA3 hl) ?_
                  refine gf_RX11_211 S hK hP _ (xf_1 kf_1) (v := .int ((Fn 120) i44)) rfl dX11_cheat_124 ?_
                  refine lv_iload_n hx hb dX11_cheat_127 rfl (lvA7 hl) ?_
                  refine lv_icmp_ne (tgt := 140) hx hb dX11_cheat_128 rfl (fun c_30 => ?_) (fun c_30 => ?_)
                  ·
                    have tc_30 : (((Fn 120) i44).toInt : Int) ≠ v0.toInt := fun q => c_30 (Int32.toInt_inj.mp q)
                    refine lv_iconst (v := 0) hx hb dX11_cheat_140 kic_0 ?_
                    refine lv_iadd hx hb dX11_cheat_141 ?_
                    refine lv_topi (fun y_31 ey_31 => ?_)
                    obtain rfl : y_31 = (nI (n5 + 0)) := ey_31.trans (nI_add n5 0)
                    refine lv_istore (lv' := [(6, .int (nI (n5 + 0))), (5, .int (nI (n4 + 0))), (4, .int (nI (n3 + 1))), (9, .int 1), (8, .ref (ad 11 i44)), (7, .int (nI i44)), (0, .ref (g 0)), (1, .int v0), (2, .int v1), (3, .int v2)]) hx hb dX11_cheat_142 hl (ltb rfl) rfl (fun ls hl => ?_)
                    refine lv_iinc (v := (nI (i44 + 1))) (lv' := [(7, .int (nI (i44 + 1))), (6, .int (nI (n5 + 0))), (5, .int (nI (n4 + 0))), (4, .int (nI (n3 + 1))), (9, .int 1), (8, .ref (ad 11 i44)), (0, .ref (g 0)), (1, .int v0), (2, .int v1), (3, .int v2)]) hx hb dX11_cheat_144 hl (k := 5) rfl (nI_1 _) (ltb rfl) rfl (fun ls hl => ?_)
                    refine lv_goto (tgt := 44) hx hb dX11_cheat_147 rfl ?_
                    exact ih44 (i44 + 1) (n3 + 1) (n4 + 0) (n5 + 0) (by (first | omega | (have zz0 := Hid.u hb_cn; omega))) ⟨(by (first | omega | (have zz0 := Hid.u hb_cn; omega))), ⟨by (first | omega | (have zz0 := Hid.u hb_cn; omega)), by (first | omega | (have zz0 := Hid.u hb_cn; omega)), by (first | omega | (have zz0 := Hid.u hb_cn; omega))⟩⟩ ls (lv_sub hl [0, 1, 2, 3, 6, 7, 8, 9] rfl)
                  ·
                    have tc_30 : (((Fn 120) i44).toInt : Int) = v0.toInt := congrArg Int32.toInt c_30
                    refine lv_iload hx hb dX11_cheat_131 (lvA2 hl) ?_
                    refine lv_if_eq (tgt := 140) hx hb dX11_cheat_133 rfl (fun h => absurd h cq_eq_1_0) (fun _ => ?_)
                    refine lv_iconst (v := 1) hx hb dX11_cheat_136 kic_1 ?_
                    refine lv_goto (tgt := 141) hx hb dX11_cheat_137 rfl ?_
                    refine lv_iadd hx hb dX11_cheat_141 ?_
                    refine lv_topi (fun y_32 ey_32 => ?_)
                    obtain rfl : y_32 = (nI (n5 + 1)) := ey_32.trans (nI_add n5 1)
                    refine lv_istore (lv' := [(6, .int (nI (n5 + 1))), (5, .int (nI (n4 + 0))), (4, .int (nI (n3 + 1))), (9, .int 1), (8, .ref (ad 11 i44)), (7, .int (nI i44)), (0, .ref (g 0)), (1, .int v0), (2, .int v1), (3, .int v2)]) hx hb dX11_cheat_142 hl (ltb rfl) rfl (fun ls hl => ?_)
                    refine lv_iinc (v := (nI (i44 + 1))) (lv' := [(7, .int (nI (i44 + 1))), (6, .int (nI (n5 + 1))), (5, .int (nI (n4 + 0))), (4, .int (nI (n3 + 1))), (9, .int 1), (8, .ref (ad 11 i44)), (0, .ref (g 0)), (1, .int v0), (2, .int v1), (3, .int v2)]) hx hb dX11_cheat_144 hl (k := 5) rfl (nI_1 _) (ltb rfl) rfl (fun ls hl => ?_)
                    refine lv_goto (tgt := 44) hx hb dX11_cheat_147 rfl ?_
                    exact ih44 (i44 + 1) (n3 + 1) (n4 + 0) (n5 + 1) (by (first | omega | (have zz0 := Hid.u hb_cn; omega))) ⟨(by (first | omega | (have zz0 := Hid.u hb_cn; omega))), ⟨by (first | omega | (have zz0 := Hid.u hb_cn; omega)), by (first | omega | (have zz0 := Hid.u hb_cn; omega)), by (first | omega | (have zz0 := Hid.u hb_cn; omega))⟩⟩ ls (lv_sub hl [0, 1, 2, 3, 6, 7, 8, 9] rfl)
                ·
                  have tc_28 : (((Fn 120) i44).toInt : Int) = v0.toInt := congrArg Int32.toInt c_28
                  refine lv_iconst (v := 1) hx hb dX11_cheat_112 kic_1 ?_
                  refine lv_goto (tgt := 117) hx hb dX11_cheat_113 rfl ?_
                  refine lv_iadd hx hb dX11_cheat_117 ?_
                  refine lv_topi (fun y_33 ey_33 => ?_)
                  obtain rfl : y_33 = (nI (n4 + 1)) := ey_33.trans (nI_add n4 1)
                  refine lv_istore (lv' := [(5, .int (nI (n4 + 1))), (4, .int (nI (n3 + 1))), (9, .int 1), (8, .ref (ad 11 i44)), (7, .int (nI i44)), (6, .int (nI n5)), (0, .ref (g 0)), (1, .int v0), (2, .int v1), (3, .int v2)]) hx hb dX11_cheat_118 hl (ltb rfl) rfl (fun ls hl => ?_)
                  refine lv_iload hx hb dX11_cheat_120 (lvA5 hl) ?_
                  refine lv_aload hx hb dX11_cheat_122 (lvA3 hl) ?_
                  refine gf_RX11_211 S hK hP _ (xf_1 kf_1) (v := .int ((Fn 120) i44)) rfl dX11_cheat_124 ?_
                  refine lv_iload_n hx hb dX11_cheat_127 rfl (lvA7 hl) ?_
                  refine lv_icmp_ne (tgt := 140) hx hb dX11_cheat_128 rfl (fun c_34 => ?_) (fun c_34 => ?_)
                  ·
                    have tc_34 : (((Fn 120) i44).toInt : Int) ≠ v0.toInt := fun q => c_34 (Int32.toInt_inj.mp q)
                    refine lv_iconst (v := 0) hx hb dX11_cheat_140 kic_0 ?_
                    refine lv_iadd hx hb dX11_cheat_141 ?_
                    refine lv_topi (fun y_35 ey_35 => ?_)
                    obtain rfl : y_35 = (nI (n5 + 0)) := ey_35.trans (nI_add n5 0)
                    refine lv_istore (lv' := [(6, .int (nI (n5 + 0))), (5, .int (nI (n4 + 1))), (4, .int (nI (n3 + 1))), (9, .int 1), (8, .ref (ad 11 i44)), (7, .int (nI i44)), (0, .ref (g 0)), (1, .int v0), (2, .int v1), (3, .int v2)]) hx hb dX11_cheat_142 hl (ltb rfl) rfl (fun ls hl => ?_)
                    refine lv_iinc (v := (nI (i44 + 1))) (lv' := [(7, .int (nI (i44 + 1))), (6, .int (nI (n5 + 0))), (5, .int (nI (n4 + 1))), (4, .int (nI (n3 + 1))), (9, .int 1), (8, .ref (ad 11 i44)), (0, .ref (g 0)), (1, .int v0), (2, .int v1), (3, .int v2)]) hx hb dX11_cheat_144 hl (k := 5) rfl (nI_1 _) (ltb rfl) rfl (fun ls hl => ?_)
                    refine lv_goto (tgt := 44) hx hb dX11_cheat_147 rfl ?_
                    exact ih44 (i44 + 1) (n3 + 1) (n4 + 1) (n5 + 0) (by (first | omega | (have zz0 := Hid.u hb_cn; omega))) ⟨(by (first | omega | (have zz0 := Hid.u hb_cn; omega))), ⟨by (first | omega | (have zz0 := Hid.u hb_cn; omega)), by (first | omega | (have zz0 := Hid.u hb_cn; omega)), by (first | omega | (have zz0 := Hid.u hb_cn; omega))⟩⟩ ls (lv_sub hl [0, 1, 2, 3, 6, 7, 8, 9] rfl)
                  ·
                    have tc_34 : (((Fn 120) i44).toInt : Int) = v0.toInt := congrArg Int32.toInt c_34
                    refine lv_iload hx hb dX11_cheat_131 (lvA2 hl) ?_
                    refine lv_if_eq (tgt := 140) hx hb dX11_cheat_133 rfl (fun h => absurd h cq_eq_1_0) (fun _ => ?_)
                    refine lv_iconst (v := 1) hx hb dX11_cheat_136 kic_1 ?_
                    refine lv_goto (tgt := 141) hx hb dX11_cheat_137 rfl ?_
                    refine lv_iadd hx hb dX11_cheat_141 ?_
                    refine lv_topi (fun y_36 ey_36 => ?_)
                    obtain rfl : y_36 = (nI (n5 + 1)) := ey_36.trans (nI_add n5 1)
                    refine lv_istore (lv' := [(6, .int (nI (n5 + 1))), (5, .int (nI (n4 + 1))), (4, .int (nI (n3 + 1))), (9, .int 1), (8, .ref (ad 11 i44)), (7, .int (nI i44)), (0, .ref (g 0)), (1, .int v0), (2, .int v1), (3, .int v2)]) hx hb dX11_cheat_142 hl (ltb rfl) rfl (fun ls hl => ?_)
                    refine lv_iinc (v := (nI (i44 + 1))) (lv' := [(7, .int (nI (i44 + 1))), (6, .int (nI (n5 + 1))), (5, .int (nI (n4 + 1))), (4, .int (nI (n3 + 1))), (9, .int 1), (8, .ref (ad 11 i44)), (0, .ref (g 0)), (1, .int v0), (2, .int v1), (3, .int v2)]) hx hb dX11_cheat_144 hl (k := 5) rfl (nI_1 _) (ltb rfl) rfl (fun ls hl => ?_)
                    refine lv_goto (tgt := 44) hx hb dX11_cheat_147 rfl ?_
                    exact ih44 (i44 + 1) (n3 + 1) (n4 + 1) (n5 + 1) (by (first | omega | (have zz0 := Hid.u hb_cn; omega))) ⟨(by (first | omega | (have zz0 := Hid.u hb_cn; omega))), ⟨by (first | omega | (have zz0 := Hid.u hb_cn; omega)), by (first | omega | (have zz0 := Hid.u hb_cn; omega)), by (first | omega | (have zz0 := Hid.u hb_cn; omega))⟩⟩ ls (lv_sub hl [0, 1, 2, 3, 6, 7, 8, 9] rfl)
        exact lp_44 _ 0 0 0 0 (Nat.lt_succ_self _) ⟨(by (first | omega | (have zz0 := Hid.u hb_cn; omega))), ⟨Nat.le_refl _, Nat.le_refl _, Nat.le_refl _⟩⟩ ls (lv_sub hl [0, 1, 2, 3, 4, 5, 6, 7] rfl)
      ·
        have h_6 : ¬ (0 ≤ v2.toInt ∧ v2.toInt ≤ 2) := h_6
        refine lv_if_ne (tgt := 32) hx hb dX11_cheat_25 rfl (fun h => absurd h cq_eq_0_0) (fun _ => ?_)
        refine lv_ldc2 (v := (-1)) hx hb hown (S.2.2.2.2 _ (wk4_5 1 rfl rfl)) dX11_cheat_28 ?_
        exact W.lret (v := (-1)) hx hb hr (fun t ht hW => ⟨(-1), rfl, trivial, ht⟩) (fun _ h => absurd h List.not_mem_nil) dX11_cheat_31
    ·
      have h_4 : ¬ (0 ≤ v1.toInt ∧ v1.toInt ≤ 1000) := h_4
      refine lv_if_eq (tgt := 28) hx hb dX11_cheat_16 rfl (fun _ => ?_) (fun h => absurd h cq_eq_0_0)
      refine lv_ldc2 (v := (-1)) hx hb hown (S.2.2.2.2 _ (wk4_5 1 rfl rfl)) dX11_cheat_28 ?_
      exact W.lret (v := (-1)) hx hb hr (fun t ht hW => ⟨(-1), rfl, trivial, ht⟩) (fun _ h => absurd h List.not_mem_nil) dX11_cheat_31
  ·
    refine lv_ifnullN (tgt := 28) hx hb dX11_cheat_5 rfl ?_
    refine lv_ldc2 (v := (-1)) hx hb hown (S.2.2.2.2 _ (wk4_5 1 rfl rfl)) dX11_cheat_28 ?_
    exact W.lret (v := (-1)) hx hb hr (fun t ht hW => ⟨(-1), rfl, trivial, ht⟩) (fun _ h => absurd h List.not_mem_nil) dX11_cheat_31
set_option maxRecDepth 100000 in
set_option maxHeartbeats 4000000 in
theorem q_XworthOf (l : Launch) (D : va_G) (cI cB cZ : ClassId) (zz qq vv : Nat) (bt : Nat → Int32) (g : Nat → Nat) (ad : Nat → Nat → Nat) (cn : Nat → Nat) (In : Nat → Int32) (Fn : Nat → Nat → Int32) (v0 v1 : Int32) (hB : CBX cn) : Met l yX11_worthOf (CWS yX11_worthOf cX11_worthOf 6 (some .int)) (RM 3 0 0) (PBrx [.ref (g 0), .int v0, .int v1] D cI cB cZ zz qq vv bt (wX cI (D.1 99) zz g ad cn In Fn)) (vp_Si (fun _ => True)) 0 0 (fun _ => False) := by
  refine en_rx rfl pn_RX11 (Nat.le_of_ble_eq_true rfl) (fun p e s m below meth c hx hb hml hown S hr hlocks hnm hP hK hXS hS ls hl => ?_)
  have hl : lv_has ls 6 [(0, .ref (g 0)), (1, .int v0), (2, .int v1)] := hl
  have hb_cn : Hid (CBX cn) := hB
  replace hB : CBXh cn := hB
  refine lv_iconst (v := 0) hx hb dX11_worthOf_0 kic_0 ?_
  refine lv_istore_n (lv' := [(3, .int 0), (0, .ref (g 0)), (1, .int v0), (2, .int v1)]) hx hb dX11_worthOf_1 rfl hl (ltb rfl) rfl (fun ls hl => ?_)
  refine lv_iconst (v := 0) hx hb dX11_worthOf_2 kic_0 ?_
  refine lv_istore (lv' := [(4, .int 0), (3, .int 0), (0, .ref (g 0)), (1, .int v0), (2, .int v1)]) hx hb dX11_worthOf_3 hl (ltb rfl) rfl (fun ls hl => ?_)
  have lp_5 : ∀ (n : Nat) (i5 : Nat) (x5_3 : Int32) , cn 10 - i5 < n → (i5 ≤ cn 10) → ∀ ls : Array Slot, lv_has ls 6 [(4, .int (nI i5)), (3, .int x5_3), (0, .ref (g 0)), (1, .int v0), (2, .int v1)] → W p l e (RM 3 0 0) s m ([.ref (g 0), .int v0, .int v1]).toArray below meth c s.heap [] 0 0 (MQ below (vp_Si (fun _ => True)) ([.ref (g 0), .int v0, .int v1]).toArray s 0 0 (fun _ => False)) (F0 m 5 ls []) := by
    intro n5
    induction n5 with
    | zero => intros; (first | omega | (have zz0 := Hid.u hb_cn; omega))
    | succ n5 ih5 =>
      intro i5 x5_3 hmu5 hinv5 ls hl
      have hr5 := hinv5
      have ti5 : (nI i5).toInt = (i5 : Int) := nI_toInt (by (first | omega | (have zz0 := Hid.u hb_cn; omega)))
      refine lv_iload hx hb dX11_worthOf_5 (lvA0 hl) ?_
      refine lv_aload_n hx hb dX11_worthOf_7 rfl (lvA2 hl) ?_
      refine gf_RX11_61 S hK hP 0 xo_0 (v := .ref (g 10)) rfl dX11_worthOf_8 ?_
      refine vp_callSi (runV_r (As := []) (rest := [.int (nI i5)]) S (q_l_size l D cI cB cZ (g 10) (if (cn 10) = 0 then zz else ad 2 0) (In 10) (nI (cn 10))) kV_RX11_84 hK hP [24] (one_is xo_24) 24 xo_24 rfl rfl ⟨Nat.le_of_ble_eq_true rfl, Nat.le_of_ble_eq_true rfl⟩ ⟨Nat.le_of_ble_eq_true rfl, Nat.le_of_ble_eq_true rfl⟩ rfl hl.1 rfl (Nat.le_of_ble_eq_true rfl) dX11_worthOf_11) (fun r_1 h_2 => ?_)
      subst h_2
      have : (nI (cn 10)).toInt = (((cn 10) : Nat) : Int) := nI_toInt (by (first | omega | (have zz0 := Hid.u hb_cn; omega)))
      refine lv_icmp_ge (tgt := 62) hx hb dX11_worthOf_14 rfl (fun c_3 => ?_) (fun c_3 => ?_)
      ·
        have tc_3 : ((nI (cn 10)).toInt : Int) ≤ (nI i5).toInt := Int32.le_iff_toInt_le.mp c_3
        refine lv_iload_n hx hb dX11_worthOf_62 rfl (lvA1 hl) ?_
        exact W.iret (v := x5_3) hx hb hr (fun t ht hW => ⟨x5_3, rfl, trivial, ht⟩) (fun _ h => absurd h List.not_mem_nil) dX11_worthOf_63
      ·
        have tc_3 : ((nI i5).toInt : Int) < (nI (cn 10)).toInt := Int32.lt_iff_toInt_lt.mp (Int32.not_le.mp c_3)
        refine lv_aload_n hx hb dX11_worthOf_17 rfl (lvA2 hl) ?_
        refine gf_RX11_61 S hK hP 0 xo_0 (v := .ref (g 10)) rfl dX11_worthOf_18 ?_
        refine lv_iload hx hb dX11_worthOf_21 (lvA0 hl) ?_
        refine va_csq (runV_rx (As := [.int (nI i5)]) (rest := []) S (q_l_get l D cI cB cZ zz qq vv bt (g 10) (ad 2 0) (cn 20) (cn 10) i5 (ad 10 i5) (In 10) (fun i => if i < (cn 10) then some (ad 10 i) else none) (by (first | omega | (have zz0 := Hid.u hb_cn; omega))) (if_pos (by (first | omega | (have zz0 := Hid.u hb_cn; omega)))) (by (first | omega | (have zz0 := Hid.u hb_cn; omega))) (by (first | omega | (have zz0 := Hid.u hb_cn; omega)))) kV_RX11_87 hK hXS hS hP _ (two_is (xl_0 (by (first | omega | (have zz0 := Hid.u hb_cn; omega)))) (xf_13 (k := 0) (by (first | omega | (have zz0 := Hid.u hb_cn; omega))))) (va_recv hK.1 hP (ci := 0) rfl xo_24) ⟨Nat.le_of_ble_eq_true rfl, Nat.le_of_ble_eq_true rfl⟩ ⟨Nat.le_of_ble_eq_true rfl, Nat.le_of_ble_eq_true rfl⟩ rfl hl.1 rfl (Nat.le_of_ble_eq_true rfl) dX11_worthOf_23) (fun r_4 h_5 => ?_)
        subst h_5
        have kf_1 : i5 < cn 10 := by (first | omega | (have zz0 := Hid.u hb_cn; omega))
        refine va_castS hx hb hown (S.2.2.2.2 _ (wk2_5 3 rfl rfl)) (xclass hK.1 (ci := 2) rfl) (va_recv hK.1 hP (ci := 2) rfl (xf_0 kf_1)) dX11_worthOf_26 ?_
        refine lv_astore (lv' := [(5, .ref (ad 10 i5)), (4, .int (nI i5)), (3, .int x5_3), (0, .ref (g 0)), (1, .int v0), (2, .int v1)]) hx hb dX11_worthOf_29 hl (ltb rfl) rfl (fun ls hl => ?_)
        refine lv_iload_n hx hb dX11_worthOf_31 rfl (lvA2 hl) ?_
        refine lv_aload hx hb dX11_worthOf_32 (lvA0 hl) ?_
        refine lv_iload_n hx hb dX11_worthOf_34 rfl (lvA4 hl) ?_
        refine vp_callSi (runV_rxa (As := [.int v0]) (rest := [.int x5_3]) S (q_XcomesFor l D cI cB cZ zz qq vv bt g ad cn In Fn i5 v0 hB (by (first | omega | (have zz0 := Hid.u hb_cn; omega)))) kV_RX11_456 hK hXS hS hP _ (xf_0 kf_1) rfl rfl ⟨Nat.le_of_ble_eq_true rfl, Nat.le_of_ble_eq_true rfl⟩ ⟨Nat.le_of_ble_eq_true rfl, Nat.le_of_ble_eq_true rfl⟩ rfl hl.1 rfl (Nat.le_of_ble_eq_true rfl) dX11_worthOf_35) (fun r_6 h_7 => ?_)
        rcases h_7 with rfl | rfl
        ·
          refine lv_if_eq (tgt := 53) hx hb dX11_worthOf_38 rfl (fun _ => ?_) (fun h => absurd h cq_eq_0_0)
          refine lv_iconst (v := 0) hx hb dX11_worthOf_53 kic_0 ?_
          refine lv_iadd hx hb dX11_worthOf_54 ?_
          refine lv_istore_n (lv' := [(3, .int (x5_3 + 0)), (5, .ref (ad 10 i5)), (4, .int (nI i5)), (0, .ref (g 0)), (1, .int v0), (2, .int v1)]) hx hb dX11_worthOf_55 rfl hl (ltb rfl) rfl (fun ls hl => ?_)
          refine lv_iinc (v := (nI (i5 + 1))) (lv' := [(4, .int (nI (i5 + 1))), (3, .int (x5_3 + 0)), (5, .ref (ad 10 i5)), (0, .ref (g 0)), (1, .int v0), (2, .int v1)]) hx hb dX11_worthOf_56 hl (k := 2) rfl (nI_1 _) (ltb rfl) rfl (fun ls hl => ?_)
          refine lv_goto (tgt := 5) hx hb dX11_worthOf_59 rfl ?_
          exact ih5 (i5 + 1) (x5_3 + 0) (by (first | omega | (have zz0 := Hid.u hb_cn; omega))) (by (first | omega | (have zz0 := Hid.u hb_cn; omega))) ls (lv_sub hl [0, 1, 3, 4, 5] rfl)
        ·
          refine lv_if_eq (tgt := 53) hx hb dX11_worthOf_38 rfl (fun h => absurd h cq_eq_1_0) (fun _ => ?_)
          refine lv_aload hx hb dX11_worthOf_41 (lvA0 hl) ?_
          refine gf_RX11_459 S hK hP _ (xf_0 kf_1) (v := .int ((Fn 102) i5)) rfl dX11_worthOf_43 ?_
          refine lv_iload_n hx hb dX11_worthOf_46 rfl (lvA5 hl) ?_
          refine lv_iload_n hx hb dX11_worthOf_47 rfl (lvA4 hl) ?_
          refine lv_isub hx hb dX11_worthOf_48 ?_
          refine lv_imul hx hb dX11_worthOf_49 ?_
          refine lv_goto (tgt := 54) hx hb dX11_worthOf_50 rfl ?_
          refine lv_iadd hx hb dX11_worthOf_54 ?_
          refine lv_istore_n (lv' := [(3, .int (x5_3 + (((Fn 102) i5) * (v1 - v0)))), (5, .ref (ad 10 i5)), (4, .int (nI i5)), (0, .ref (g 0)), (1, .int v0), (2, .int v1)]) hx hb dX11_worthOf_55 rfl hl (ltb rfl) rfl (fun ls hl => ?_)
          refine lv_iinc (v := (nI (i5 + 1))) (lv' := [(4, .int (nI (i5 + 1))), (3, .int (x5_3 + (((Fn 102) i5) * (v1 - v0)))), (5, .ref (ad 10 i5)), (0, .ref (g 0)), (1, .int v0), (2, .int v1)]) hx hb dX11_worthOf_56 hl (k := 2) rfl (nI_1 _) (ltb rfl) rfl (fun ls hl => ?_)
          refine lv_goto (tgt := 5) hx hb dX11_worthOf_59 rfl ?_
          exact ih5 (i5 + 1) (x5_3 + (((Fn 102) i5) * (v1 - v0))) (by (first | omega | (have zz0 := Hid.u hb_cn; omega))) (by (first | omega | (have zz0 := Hid.u hb_cn; omega))) ls (lv_sub hl [0, 1, 3, 4, 5] rfl)
  exact lp_5 _ 0 0 (Nat.lt_succ_self _) (by (first | omega | (have zz0 := Hid.u hb_cn; omega))) ls (lv_sub hl [0, 1, 2, 3, 4] rfl)
set_option maxRecDepth 100000 in
set_option maxHeartbeats 4000000 in
theorem q_Xcomers (l : Launch) (D : va_G) (cI cB cZ : ClassId) (zz qq vv : Nat) (bt : Nat → Int32) (g : Nat → Nat) (ad : Nat → Nat → Nat) (cn : Nat → Nat) (In : Nat → Int32) (Fn : Nat → Nat → Int32) (v0 : Int32) (hB : CBX cn) : Met l yX11_comers (CWS yX11_comers cX11_comers 4 (some .int)) (RM 3 0 0) (PBrx [.ref (g 0), .int v0] D cI cB cZ zz qq vv bt (wX cI (D.1 99) zz g ad cn In Fn)) (vp_Si (fun _ => True)) 0 0 (fun _ => False) := by
  refine en_rx rfl pn_RX11 (Nat.le_of_ble_eq_true rfl) (fun p e s m below meth c hx hb hml hown S hr hlocks hnm hP hK hXS hS ls hl => ?_)
  have hl : lv_has ls 4 [(0, .ref (g 0)), (1, .int v0)] := hl
  have hb_cn : Hid (CBX cn) := hB
  replace hB : CBXh cn := hB
  refine lv_iconst (v := 0) hx hb dX11_comers_0 kic_0 ?_
  refine lv_istore_n (lv' := [(2, .int 0), (0, .ref (g 0)), (1, .int v0)]) hx hb dX11_comers_1 rfl hl (ltb rfl) rfl (fun ls hl => ?_)
  refine lv_iconst (v := 0) hx hb dX11_comers_2 kic_0 ?_
  refine lv_istore_n (lv' := [(3, .int 0), (2, .int 0), (0, .ref (g 0)), (1, .int v0)]) hx hb dX11_comers_3 rfl hl (ltb rfl) rfl (fun ls hl => ?_)
  have lp_4 : ∀ (n : Nat) (i4 : Nat) (x4_2 : Int32) , cn 10 - i4 < n → (i4 ≤ cn 10) → ∀ ls : Array Slot, lv_has ls 4 [(3, .int (nI i4)), (2, .int x4_2), (0, .ref (g 0)), (1, .int v0)] → W p l e (RM 3 0 0) s m ([.ref (g 0), .int v0]).toArray below meth c s.heap [] 0 0 (MQ below (vp_Si (fun _ => True)) ([.ref (g 0), .int v0]).toArray s 0 0 (fun _ => False)) (F0 m 4 ls []) := by
    intro n4
    induction n4 with
    | zero => intros; (first | omega | (have zz0 := Hid.u hb_cn; omega))
    | succ n4 ih4 =>
      intro i4 x4_2 hmu4 hinv4 ls hl
      have hr4 := hinv4
      have ti4 : (nI i4).toInt = (i4 : Int) := nI_toInt (by (first | omega | (have zz0 := Hid.u hb_cn; omega)))
      refine lv_iload_n hx hb dX11_comers_4 rfl (lvA0 hl) ?_
      refine lv_aload_n hx hb dX11_comers_5 rfl (lvA2 hl) ?_
      refine gf_RX11_61 S hK hP 0 xo_0 (v := .ref (g 10)) rfl dX11_comers_6 ?_
      refine vp_callSi (runV_r (As := []) (rest := [.int (nI i4)]) S (q_l_size l D cI cB cZ (g 10) (if (cn 10) = 0 then zz else ad 2 0) (In 10) (nI (cn 10))) kV_RX11_84 hK hP [24] (one_is xo_24) 24 xo_24 rfl rfl ⟨Nat.le_of_ble_eq_true rfl, Nat.le_of_ble_eq_true rfl⟩ ⟨Nat.le_of_ble_eq_true rfl, Nat.le_of_ble_eq_true rfl⟩ rfl hl.1 rfl (Nat.le_of_ble_eq_true rfl) dX11_comers_9) (fun r_1 h_2 => ?_)
      subst h_2
      have : (nI (cn 10)).toInt = (((cn 10) : Nat) : Int) := nI_toInt (by (first | omega | (have zz0 := Hid.u hb_cn; omega)))
      refine lv_icmp_ge (tgt := 49) hx hb dX11_comers_12 rfl (fun c_3 => ?_) (fun c_3 => ?_)
      ·
        have tc_3 : ((nI (cn 10)).toInt : Int) ≤ (nI i4).toInt := Int32.le_iff_toInt_le.mp c_3
        refine lv_iload_n hx hb dX11_comers_49 rfl (lvA1 hl) ?_
        exact W.iret (v := x4_2) hx hb hr (fun t ht hW => ⟨x4_2, rfl, trivial, ht⟩) (fun _ h => absurd h List.not_mem_nil) dX11_comers_50
      ·
        have tc_3 : ((nI i4).toInt : Int) < (nI (cn 10)).toInt := Int32.lt_iff_toInt_lt.mp (Int32.not_le.mp c_3)
        refine lv_iload_n hx hb dX11_comers_15 rfl (lvA1 hl) ?_
        refine lv_aload_n hx hb dX11_comers_16 rfl (lvA2 hl) ?_
        refine gf_RX11_61 S hK hP 0 xo_0 (v := .ref (g 10)) rfl dX11_comers_17 ?_
        refine lv_iload_n hx hb dX11_comers_20 rfl (lvA0 hl) ?_
        refine va_csq (runV_rx (As := [.int (nI i4)]) (rest := [.int x4_2]) S (q_l_get l D cI cB cZ zz qq vv bt (g 10) (ad 2 0) (cn 20) (cn 10) i4 (ad 10 i4) (In 10) (fun i => if i < (cn 10) then some (ad 10 i) else none) (by (first | omega | (have zz0 := Hid.u hb_cn; omega))) (if_pos (by (first | omega | (have zz0 := Hid.u hb_cn; omega)))) (by (first | omega | (have zz0 := Hid.u hb_cn; omega))) (by (first | omega | (have zz0 := Hid.u hb_cn; omega)))) kV_RX11_87 hK hXS hS hP _ (two_is (xl_0 (by (first | omega | (have zz0 := Hid.u hb_cn; omega)))) (xf_13 (k := 0) (by (first | omega | (have zz0 := Hid.u hb_cn; omega))))) (va_recv hK.1 hP (ci := 0) rfl xo_24) ⟨Nat.le_of_ble_eq_true rfl, Nat.le_of_ble_eq_true rfl⟩ ⟨Nat.le_of_ble_eq_true rfl, Nat.le_of_ble_eq_true rfl⟩ rfl hl.1 rfl (Nat.le_of_ble_eq_true rfl) dX11_comers_21) (fun r_4 h_5 => ?_)
        subst h_5
        have kf_1 : i4 < cn 10 := by (first | omega | (have zz0 := Hid.u hb_cn; omega))
        refine va_castS hx hb hown (S.2.2.2.2 _ (wk2_5 3 rfl rfl)) (xclass hK.1 (ci := 2) rfl) (va_recv hK.1 hP (ci := 2) rfl (xf_0 kf_1)) dX11_comers_24 ?_
        refine lv_iload_n hx hb dX11_comers_27 rfl (lvA3 hl) ?_
        refine vp_callSi (runV_rxa (As := [.int v0]) (rest := [.int x4_2]) S (q_XcomesFor l D cI cB cZ zz qq vv bt g ad cn In Fn i4 v0 hB (by (first | omega | (have zz0 := Hid.u hb_cn; omega)))) kV_RX11_456 hK hXS hS hP _ (xf_0 kf_1) rfl rfl ⟨Nat.le_of_ble_eq_true rfl, Nat.le_of_ble_eq_true rfl⟩ ⟨Nat.le_of_ble_eq_true rfl, Nat.le_of_ble_eq_true rfl⟩ rfl hl.1 rfl (Nat.le_of_ble_eq_true rfl) dX11_comers_28) (fun r_6 h_7 => ?_)
        rcases h_7 with rfl | rfl
        ·
          refine lv_if_eq (tgt := 40) hx hb dX11_comers_31 rfl (fun _ => ?_) (fun h => absurd h cq_eq_0_0)
          refine lv_iconst (v := 0) hx hb dX11_comers_40 kic_0 ?_
          refine lv_ior hx hb dX11_comers_41 ?_
          refine lv_istore_n (lv' := [(2, .int (x4_2 ||| 0)), (3, .int (nI i4)), (0, .ref (g 0)), (1, .int v0)]) hx hb dX11_comers_42 rfl hl (ltb rfl) rfl (fun ls hl => ?_)
          refine lv_iinc (v := (nI (i4 + 1))) (lv' := [(3, .int (nI (i4 + 1))), (2, .int (x4_2 ||| 0)), (0, .ref (g 0)), (1, .int v0)]) hx hb dX11_comers_43 hl (k := 1) rfl (nI_1 _) (ltb rfl) rfl (fun ls hl => ?_)
          refine lv_goto (tgt := 4) hx hb dX11_comers_46 rfl ?_
          exact ih4 (i4 + 1) (x4_2 ||| 0) (by (first | omega | (have zz0 := Hid.u hb_cn; omega))) (by (first | omega | (have zz0 := Hid.u hb_cn; omega))) ls (lv_sub hl [0, 1, 2, 3] rfl)
        ·
          refine lv_if_eq (tgt := 40) hx hb dX11_comers_31 rfl (fun h => absurd h cq_eq_1_0) (fun _ => ?_)
          refine lv_iconst (v := 1) hx hb dX11_comers_34 kic_1 ?_
          refine lv_iload_n hx hb dX11_comers_35 rfl (lvA0 hl) ?_
          refine lv_ishl hx hb dX11_comers_36 ?_
          refine lv_goto (tgt := 41) hx hb dX11_comers_37 rfl ?_
          refine lv_ior hx hb dX11_comers_41 ?_
          refine lv_istore_n (lv' := [(2, .int (x4_2 ||| (1 <<< ((nI i4) &&& 31)))), (3, .int (nI i4)), (0, .ref (g 0)), (1, .int v0)]) hx hb dX11_comers_42 rfl hl (ltb rfl) rfl (fun ls hl => ?_)
          refine lv_iinc (v := (nI (i4 + 1))) (lv' := [(3, .int (nI (i4 + 1))), (2, .int (x4_2 ||| (1 <<< ((nI i4) &&& 31)))), (0, .ref (g 0)), (1, .int v0)]) hx hb dX11_comers_43 hl (k := 1) rfl (nI_1 _) (ltb rfl) rfl (fun ls hl => ?_)
          refine lv_goto (tgt := 4) hx hb dX11_comers_46 rfl ?_
          exact ih4 (i4 + 1) (x4_2 ||| (1 <<< ((nI i4) &&& 31))) (by (first | omega | (have zz0 := Hid.u hb_cn; omega))) (by (first | omega | (have zz0 := Hid.u hb_cn; omega))) ls (lv_sub hl [0, 1, 2, 3] rfl)
  exact lp_4 _ 0 0 (Nat.lt_succ_self _) (by (first | omega | (have zz0 := Hid.u hb_cn; omega))) ls (lv_sub hl [0, 1, 2, 3] rfl)
set_option maxRecDepth 100000 in
set_option maxHeartbeats 4000000 in
theorem q_Xworth (l : Launch) (D : va_G) (cI cB cZ : ClassId) (zz qq vv : Nat) (bt : Nat → Int32) (g : Nat → Nat) (ad : Nat → Nat → Nat) (cn : Nat → Nat) (In : Nat → Int32) (Fn : Nat → Nat → Int32) (v0 v1 : Int32) (hB : CBX cn) : Met l yX11_worth (CWS yX11_worth cX11_worth 3 (some .int)) (RM 4 0 0) (PBrx [.ref (g 0), .int v0, .int v1] D cI cB cZ zz qq vv bt (wX cI (D.1 99) zz g ad cn In Fn)) (vp_Si (fun _ => True)) 0 0 (fun _ => False) := by
  refine en_rx rfl pn_RX11 (Nat.le_of_ble_eq_true rfl) (fun p e s m below meth c hx hb hml hown S hr hlocks hnm hP hK hXS hS ls hl => ?_)
  have hl : lv_has ls 3 [(0, .ref (g 0)), (1, .int v0), (2, .int v1)] := hl
  have hb_cn : Hid (CBX cn) := hB
  replace hB : CBXh cn := hB
  refine lv_iload_n hx hb dX11_worth_0 rfl (lvA1 hl) ?_
  refine lv_iconst (v := 0) hx hb dX11_worth_1 kic_0 ?_
  refine lv_sipush (v := 200) hx hb dX11_worth_2 (by decide) ?_
  refine vp_callSi (runS_r (As := [.int v0, .int 0, .int 200]) (rest := []) S (q_l_within l D cI cB cZ v0 0 200) kS_RX11_80 hK hP [] rfl ⟨Nat.le_of_ble_eq_true rfl, Nat.le_of_ble_eq_true rfl⟩ ⟨Nat.le_of_ble_eq_true rfl, Nat.le_of_ble_eq_true rfl⟩ rfl hl.1 rfl (Nat.le_of_ble_eq_true rfl) dX11_worth_5) (fun r_1 h_2 => ?_)
  rcases h_2 with ⟨rfl, h_2⟩ | ⟨rfl, h_2⟩
  ·
    have h_2 : 0 ≤ v0.toInt ∧ v0.toInt ≤ 200 := h_2
    refine lv_if_eq (tgt := 31) hx hb dX11_worth_8 rfl (fun h => absurd h cq_eq_1_0) (fun _ => ?_)
    refine lv_iload_n hx hb dX11_worth_11 rfl (lvA2 hl) ?_
    refine lv_iconst (v := 0) hx hb dX11_worth_12 kic_0 ?_
    refine lv_sipush (v := 1000) hx hb dX11_worth_13 (by decide) ?_
    refine vp_callSi (runS_r (As := [.int v1, .int 0, .int 1000]) (rest := []) S (q_l_within l D cI cB cZ v1 0 1000) kS_RX11_80 hK hP [] rfl ⟨Nat.le_of_ble_eq_true rfl, Nat.le_of_ble_eq_true rfl⟩ ⟨Nat.le_of_ble_eq_true rfl, Nat.le_of_ble_eq_true rfl⟩ rfl hl.1 rfl (Nat.le_of_ble_eq_true rfl) dX11_worth_16) (fun r_3 h_4 => ?_)
    rcases h_4 with ⟨rfl, h_4⟩ | ⟨rfl, h_4⟩
    ·
      have h_4 : 0 ≤ v1.toInt ∧ v1.toInt ≤ 1000 := h_4
      refine lv_if_eq (tgt := 31) hx hb dX11_worth_19 rfl (fun h => absurd h cq_eq_1_0) (fun _ => ?_)
      refine lv_aload_n hx hb dX11_worth_22 rfl (lvA0 hl) ?_
      refine lv_iload_n hx hb dX11_worth_23 rfl (lvA1 hl) ?_
      refine lv_iload_n hx hb dX11_worth_24 rfl (lvA2 hl) ?_
      refine vp_callSi (runV_rxa (As := [.int v0, .int v1]) (rest := []) S (q_XworthOf l D cI cB cZ zz qq vv bt g ad cn In Fn v0 v1 hB) kV_RX11_460 hK hXS hS hP 0 xo_0 rfl rfl ⟨Nat.le_of_ble_eq_true rfl, Nat.le_of_ble_eq_true rfl⟩ ⟨Nat.le_of_ble_eq_true rfl, Nat.le_of_ble_eq_true rfl⟩ rfl hl.1 rfl (Nat.le_of_ble_eq_true rfl) dX11_worth_25) (fun r_5 h_6 => ?_)
      refine lv_goto (tgt := 34) hx hb dX11_worth_28 rfl ?_
      exact W.iret (v := r_5) hx hb hr (fun t ht hW => ⟨r_5, rfl, trivial, ht⟩) (fun _ h => absurd h List.not_mem_nil) dX11_worth_34
    ·
      have h_4 : ¬ (0 ≤ v1.toInt ∧ v1.toInt ≤ 1000) := h_4
      refine lv_if_eq (tgt := 31) hx hb dX11_worth_19 rfl (fun _ => ?_) (fun h => absurd h cq_eq_0_0)
      refine lv_ldcw (v := (-1000000)) hx hb hown (S.2.2.2.2 _ (wk5_15 4 rfl rfl)) dX11_worth_31 ?_
      exact W.iret (v := (-1000000)) hx hb hr (fun t ht hW => ⟨(-1000000), rfl, trivial, ht⟩) (fun _ h => absurd h List.not_mem_nil) dX11_worth_34
  ·
    have h_2 : ¬ (0 ≤ v0.toInt ∧ v0.toInt ≤ 200) := h_2
    refine lv_if_eq (tgt := 31) hx hb dX11_worth_8 rfl (fun _ => ?_) (fun h => absurd h cq_eq_0_0)
    refine lv_ldcw (v := (-1000000)) hx hb hown (S.2.2.2.2 _ (wk5_15 4 rfl rfl)) dX11_worth_31 ?_
    exact W.iret (v := (-1000000)) hx hb hr (fun t ht hW => ⟨(-1000000), rfl, trivial, ht⟩) (fun _ h => absurd h List.not_mem_nil) dX11_worth_34
set_option maxRecDepth 100000 in
set_option maxHeartbeats 4000000 in
theorem q_Xoffer (l : Launch) (D : va_G) (cI cB cZ : ClassId) (zz qq vv : Nat) (bt : Nat → Int32) (g : Nat → Nat) (ad : Nat → Nat → Nat) (cn : Nat → Nat) (In : Nat → Int32) (Fn : Nat → Nat → Int32) (v0 v1 : Int32) (hB : CBX cn) : Met l yX11_offer (CWS yX11_offer cX11_offer 7 (some .int)) (RM 4 0 0) (PBrx [.ref (g 0), .int v0, .int v1] D cI cB cZ zz qq vv bt (wX cI (D.1 99) zz g ad cn In Fn)) (vp_Si (fun _ => True)) 0 0 (fun _ => False) := by
  refine en_rx rfl pn_RX11 (Nat.le_of_ble_eq_true rfl) (fun p e s m below meth c hx hb hml hown S hr hlocks hnm hP hK hXS hS ls hl => ?_)
  have hl : lv_has ls 7 [(0, .ref (g 0)), (1, .int v0), (2, .int v1)] := hl
  have hb_cn : Hid (CBX cn) := hB
  replace hB : CBXh cn := hB
  refine lv_iload_n hx hb dX11_offer_0 rfl (lvA1 hl) ?_
  refine lv_iconst (v := 0) hx hb dX11_offer_1 kic_0 ?_
  refine lv_sipush (v := 1000) hx hb dX11_offer_2 (by decide) ?_
  refine vp_callSi (runS_r (As := [.int v0, .int 0, .int 1000]) (rest := []) S (q_l_within l D cI cB cZ v0 0 1000) kS_RX11_80 hK hP [] rfl ⟨Nat.le_of_ble_eq_true rfl, Nat.le_of_ble_eq_true rfl⟩ ⟨Nat.le_of_ble_eq_true rfl, Nat.le_of_ble_eq_true rfl⟩ rfl hl.1 rfl (Nat.le_of_ble_eq_true rfl) dX11_offer_5) (fun r_1 h_2 => ?_)
  rcases h_2 with ⟨rfl, h_2⟩ | ⟨rfl, h_2⟩
  ·
    have h_2 : 0 ≤ v0.toInt ∧ v0.toInt ≤ 1000 := h_2
    refine lv_if_eq (tgt := 20) hx hb dX11_offer_8 rfl (fun h => absurd h cq_eq_1_0) (fun _ => ?_)
    refine lv_iload_n hx hb dX11_offer_11 rfl (lvA2 hl) ?_
    refine lv_iconst (v := 0) hx hb dX11_offer_12 kic_0 ?_
    refine lv_iconst (v := 2) hx hb dX11_offer_13 kic_2 ?_
    refine vp_callSi (runS_r (As := [.int v1, .int 0, .int 2]) (rest := []) S (q_l_within l D cI cB cZ v1 0 2) kS_RX11_80 hK hP [] rfl ⟨Nat.le_of_ble_eq_true rfl, Nat.le_of_ble_eq_true rfl⟩ ⟨Nat.le_of_ble_eq_true rfl, Nat.le_of_ble_eq_true rfl⟩ rfl hl.1 rfl (Nat.le_of_ble_eq_true rfl) dX11_offer_14) (fun r_3 h_4 => ?_)
    rcases h_4 with ⟨rfl, h_4⟩ | ⟨rfl, h_4⟩
    ·
      have h_4 : 0 ≤ v1.toInt ∧ v1.toInt ≤ 2 := h_4
      refine lv_if_ne (tgt := 22) hx hb dX11_offer_17 rfl (fun _ => ?_) (fun h => absurd h cq_eq_1_0)
      refine lv_iconst (v := 0) hx hb dX11_offer_22 kic_0 ?_
      refine lv_istore_n (lv' := [(3, .int 0), (0, .ref (g 0)), (1, .int v0), (2, .int v1)]) hx hb dX11_offer_23 rfl hl (ltb rfl) rfl (fun ls hl => ?_)
      refine lv_aload_n hx hb dX11_offer_24 rfl (lvA1 hl) ?_
      refine lv_iconst (v := 0) hx hb dX11_offer_25 kic_0 ?_
      refine lv_iload_n hx hb dX11_offer_26 rfl (lvA2 hl) ?_
      refine vp_callSi (runV_rxa (As := [.int 0, .int v0]) (rest := []) S (q_XworthOf l D cI cB cZ zz qq vv bt g ad cn In Fn 0 v0 hB) kV_RX11_460 hK hXS hS hP 0 xo_0 rfl rfl ⟨Nat.le_of_ble_eq_true rfl, Nat.le_of_ble_eq_true rfl⟩ ⟨Nat.le_of_ble_eq_true rfl, Nat.le_of_ble_eq_true rfl⟩ rfl hl.1 rfl (Nat.le_of_ble_eq_true rfl) dX11_offer_27) (fun r_5 h_6 => ?_)
      refine lv_istore (lv' := [(4, .int r_5), (3, .int 0), (0, .ref (g 0)), (1, .int v0), (2, .int v1)]) hx hb dX11_offer_30 hl (ltb rfl) rfl (fun ls hl => ?_)
      refine lv_iconst (v := 1) hx hb dX11_offer_32 kic_1 ?_
      refine lv_istore (lv' := [(5, .int 1), (4, .int r_5), (3, .int 0), (0, .ref (g 0)), (1, .int v0), (2, .int v1)]) hx hb dX11_offer_33 hl (ltb rfl) rfl (fun ls hl => ?_)
      have lp_35 : ∀ (n : Nat) (i35 : Nat) (x35_3 : Int32) (x35_4 : Int32) , 201 - i35 < n → (i35 ≤ 201) → ∀ ls : Array Slot, lv_has ls 7 [(5, .int (nI i35)), (4, .int x35_4), (3, .int x35_3), (0, .ref (g 0)), (1, .int v0), (2, .int v1)] → W p l e (RM 4 0 0) s m ([.ref (g 0), .int v0, .int v1]).toArray below meth c s.heap [] 0 0 (MQ below (vp_Si (fun _ => True)) ([.ref (g 0), .int v0, .int v1]).toArray s 0 0 (fun _ => False)) (F0 m 35 ls []) := by
        intro n35
        induction n35 with
        | zero => intros; (first | omega | (have zz0 := Hid.u hb_cn; omega))
        | succ n35 ih35 =>
          intro i35 x35_3 x35_4 hmu35 hinv35 ls hl
          have hr35 := hinv35
          have ti35 : (nI i35).toInt = (i35 : Int) := nI_toInt (by (first | omega | (have zz0 := Hid.u hb_cn; omega)))
          refine lv_iload hx hb dX11_offer_35 (lvA0 hl) ?_
          refine lv_sipush (v := 200) hx hb dX11_offer_37 (by decide) ?_
          refine lv_icmp_gt (tgt := 72) hx hb dX11_offer_40 rfl (fun c_7 => ?_) (fun c_7 => ?_)
          ·
            have tc_7 : (200 : Int) < (nI i35).toInt := Int32.lt_iff_toInt_lt.mp c_7
            refine lv_iload_n hx hb dX11_offer_72 rfl (lvA5 hl) ?_
            refine lv_if_ne (tgt := 80) hx hb dX11_offer_73 rfl (fun c_8 => ?_) (fun c_8 => ?_)
            ·
              have tc_8 : (v1.toInt : Int) ≠ 0 := fun q => c_8 (Int32.toInt_inj.mp q)
              refine lv_iload_n hx hb dX11_offer_80 rfl (lvA5 hl) ?_
              refine lv_iconst (v := 1) hx hb dX11_offer_81 kic_1 ?_
              refine lv_icmp_ne (tgt := 90) hx hb dX11_offer_82 rfl (fun c_9 => ?_) (fun c_9 => ?_)
              ·
                have tc_9 : (v1.toInt : Int) ≠ 1 := fun q => c_9 (Int32.toInt_inj.mp q)
                refine lv_aload_n hx hb dX11_offer_90 rfl (lvA3 hl) ?_
                refine lv_iload_n hx hb dX11_offer_91 rfl (lvA2 hl) ?_
                refine vp_callSi (runV_rxa (As := [.int x35_3]) (rest := []) S (q_Xcomers l D cI cB cZ zz qq vv bt g ad cn In Fn x35_3 hB) kV_RX11_464 hK hXS hS hP 0 xo_0 rfl rfl ⟨Nat.le_of_ble_eq_true rfl, Nat.le_of_ble_eq_true rfl⟩ ⟨Nat.le_of_ble_eq_true rfl, Nat.le_of_ble_eq_true rfl⟩ rfl hl.1 rfl (Nat.le_of_ble_eq_true rfl) dX11_offer_92) (fun r_10 h_11 => ?_)
                exact W.iret (v := r_10) hx hb hr (fun t ht hW => ⟨r_10, rfl, trivial, ht⟩) (fun _ h => absurd h List.not_mem_nil) dX11_offer_95
              ·
                have tc_9 : (v1.toInt : Int) = 1 := congrArg Int32.toInt c_9
                refine lv_iload hx hb dX11_offer_85 (lvA1 hl) ?_
                refine lv_goto (tgt := 95) hx hb dX11_offer_87 rfl ?_
                exact W.iret (v := x35_4) hx hb hr (fun t ht hW => ⟨x35_4, rfl, trivial, ht⟩) (fun _ h => absurd h List.not_mem_nil) dX11_offer_95
            ·
              have tc_8 : (v1.toInt : Int) = 0 := congrArg Int32.toInt c_8
              refine lv_iload_n hx hb dX11_offer_76 rfl (lvA2 hl) ?_
              refine lv_goto (tgt := 95) hx hb dX11_offer_77 rfl ?_
              exact W.iret (v := x35_3) hx hb hr (fun t ht hW => ⟨x35_3, rfl, trivial, ht⟩) (fun _ h => absurd h List.not_mem_nil) dX11_offer_95
          ·
            have tc_7 : ((nI i35).toInt : Int) ≤ 200 := Int32.le_iff_toInt_le.mp (Int32.not_lt.mp c_7)
            refine lv_aload_n hx hb dX11_offer_43 rfl (lvA3 hl) ?_
            refine lv_iload hx hb dX11_offer_44 (lvA0 hl) ?_
            refine lv_iload_n hx hb dX11_offer_46 rfl (lvA4 hl) ?_
            refine vp_callSi (runV_rxa (As := [.int (nI i35), .int v0]) (rest := []) S (q_XworthOf l D cI cB cZ zz qq vv bt g ad cn In Fn (nI i35) v0 hB) kV_RX11_460 hK hXS hS hP 0 xo_0 rfl rfl ⟨Nat.le_of_ble_eq_true rfl, Nat.le_of_ble_eq_true rfl⟩ ⟨Nat.le_of_ble_eq_true rfl, Nat.le_of_ble_eq_true rfl⟩ rfl hl.1 rfl (Nat.le_of_ble_eq_true rfl) dX11_offer_47) (fun r_12 h_13 => ?_)
            refine lv_istore (lv' := [(6, .int r_12), (5, .int (nI i35)), (4, .int x35_4), (3, .int x35_3), (0, .ref (g 0)), (1, .int v0), (2, .int v1)]) hx hb dX11_offer_50 hl (ltb rfl) rfl (fun ls hl => ?_)
            refine lv_iload hx hb dX11_offer_52 (lvA0 hl) ?_
            refine lv_iload hx hb dX11_offer_54 (lvA2 hl) ?_
            refine lv_icmp_le (tgt := 66) hx hb dX11_offer_56 rfl (fun c_14 => ?_) (fun c_14 => ?_)
            ·
              have tc_14 : (r_12.toInt : Int) ≤ x35_4.toInt := Int32.le_iff_toInt_le.mp c_14
              refine lv_iinc (v := (nI (i35 + 1))) (lv' := [(5, .int (nI (i35 + 1))), (6, .int r_12), (4, .int x35_4), (3, .int x35_3), (0, .ref (g 0)), (1, .int v0), (2, .int v1)]) hx hb dX11_offer_66 hl (k := 1) rfl (nI_1 _) (ltb rfl) rfl (fun ls hl => ?_)
              refine lv_goto (tgt := 35) hx hb dX11_offer_69 rfl ?_
              exact ih35 (i35 + 1) x35_3 x35_4 (by (first | omega | (have zz0 := Hid.u hb_cn; omega))) (by (first | omega | (have zz0 := Hid.u hb_cn; omega))) ls (lv_sub hl [0, 2, 3, 4, 5, 6] rfl)
            ·
              have tc_14 : (x35_4.toInt : Int) < r_12.toInt := Int32.lt_iff_toInt_lt.mp (Int32.not_le.mp c_14)
              refine lv_iload hx hb dX11_offer_59 (lvA1 hl) ?_
              refine lv_istore_n (lv' := [(3, .int (nI i35)), (6, .int r_12), (5, .int (nI i35)), (4, .int x35_4), (0, .ref (g 0)), (1, .int v0), (2, .int v1)]) hx hb dX11_offer_61 rfl hl (ltb rfl) rfl (fun ls hl => ?_)
              refine lv_iload hx hb dX11_offer_62 (lvA1 hl) ?_
              refine lv_istore (lv' := [(4, .int r_12), (3, .int (nI i35)), (6, .int r_12), (5, .int (nI i35)), (0, .ref (g 0)), (1, .int v0), (2, .int v1)]) hx hb dX11_offer_64 hl (ltb rfl) rfl (fun ls hl => ?_)
              refine lv_iinc (v := (nI (i35 + 1))) (lv' := [(5, .int (nI (i35 + 1))), (4, .int r_12), (3, .int (nI i35)), (6, .int r_12), (0, .ref (g 0)), (1, .int v0), (2, .int v1)]) hx hb dX11_offer_66 hl (k := 3) rfl (nI_1 _) (ltb rfl) rfl (fun ls hl => ?_)
              refine lv_goto (tgt := 35) hx hb dX11_offer_69 rfl ?_
              exact ih35 (i35 + 1) (nI i35) r_12 (by (first | omega | (have zz0 := Hid.u hb_cn; omega))) (by (first | omega | (have zz0 := Hid.u hb_cn; omega))) ls (lv_sub hl [0, 1, 2, 4, 5, 6] rfl)
      exact lp_35 _ 1 0 r_5 (Nat.lt_succ_self _) (by (first | omega | (have zz0 := Hid.u hb_cn; omega))) ls (lv_sub hl [0, 1, 2, 3, 4, 5] rfl)
    ·
      have h_4 : ¬ (0 ≤ v1.toInt ∧ v1.toInt ≤ 2) := h_4
      refine lv_if_ne (tgt := 22) hx hb dX11_offer_17 rfl (fun h => absurd h cq_eq_0_0) (fun _ => ?_)
      refine lv_iconst (v := (-1)) hx hb dX11_offer_20 kic_m1 ?_
      exact W.iret (v := (-1)) hx hb hr (fun t ht hW => ⟨(-1), rfl, trivial, ht⟩) (fun _ h => absurd h List.not_mem_nil) dX11_offer_21
  ·
    have h_2 : ¬ (0 ≤ v0.toInt ∧ v0.toInt ≤ 1000) := h_2
    refine lv_if_eq (tgt := 20) hx hb dX11_offer_8 rfl (fun _ => ?_) (fun h => absurd h cq_eq_0_0)
    refine lv_iconst (v := (-1)) hx hb dX11_offer_20 kic_m1 ?_
    exact W.iret (v := (-1)) hx hb hr (fun t ht hW => ⟨(-1), rfl, trivial, ht⟩) (fun _ h => absurd h List.not_mem_nil) dX11_offer_21
set_option maxRecDepth 100000 in
set_option maxHeartbeats 4000000 in
theorem q_XisBeside (l : Launch) (D : va_G) (cI cB cZ : ClassId) (zz qq vv : Nat) (bt : Nat → Int32) (g : Nat → Nat) (ad : Nat → Nat → Nat) (cn : Nat → Nat) (In : Nat → Int32) (Fn : Nat → Nat → Int32) (k0 : Nat) (v1 v2 : Int32) (hB : CBX cn) (hk : k0 < cn 10) : Met l yX11_isBeside (CWS yX11_isBeside cX11_isBeside 6 (some .boolean)) (RM 3 0 0) (PBrx [.ref (g 0), .ref (ad 10 k0), .int v1, .int v2] D cI cB cZ zz qq vv bt (wX cI (D.1 99) zz g ad cn In Fn)) (vp_Si (fun r => r = 0 ∨ r = 1)) 0 0 (fun _ => False) := by
  refine en_rx rfl pn_RX11 (Nat.le_of_ble_eq_true rfl) (fun p e s m below meth c hx hb hml hown S hr hlocks hnm hP hK hXS hS ls hl => ?_)
  have hl : lv_has ls 6 [(0, .ref (g 0)), (1, .ref (ad 10 k0)), (2, .int v1), (3, .int v2)] := hl
  have hb_cn : Hid (CBX cn) := hB
  replace hB : CBXh cn := hB
  refine lv_iconst (v := 0) hx hb dX11_isBeside_0 kic_0 ?_
  refine lv_istore (lv' := [(4, .int 0), (0, .ref (g 0)), (1, .ref (ad 10 k0)), (2, .int v1), (3, .int v2)]) hx hb dX11_isBeside_1 hl (ltb rfl) rfl (fun ls hl => ?_)
  have lp_3 : ∀ (n : Nat) (i3 : Nat) , cn 14 - i3 < n → (i3 ≤ cn 14) → ∀ ls : Array Slot, lv_has ls 6 [(4, .int (nI i3)), (0, .ref (g 0)), (1, .ref (ad 10 k0)), (2, .int v1), (3, .int v2)] → W p l e (RM 3 0 0) s m ([.ref (g 0), .ref (ad 10 k0), .int v1, .int v2]).toArray below meth c s.heap [] 0 0 (MQ below (vp_Si (fun r => r = 0 ∨ r = 1)) ([.ref (g 0), .ref (ad 10 k0), .int v1, .int v2]).toArray s 0 0 (fun _ => False)) (F0 m 3 ls []) := by
    intro n3
    induction n3 with
    | zero => intros; (first | omega | (have zz0 := Hid.u hb_cn; omega))
    | succ n3 ih3 =>
      intro i3 hmu3 hinv3 ls hl
      have hr3 := hinv3
      have ti3 : (nI i3).toInt = (i3 : Int) := nI_toInt (by (first | omega | (have zz0 := Hid.u hb_cn; omega)))
      refine lv_iload hx hb dX11_isBeside_3 (lvA0 hl) ?_
      refine lv_aload_n hx hb dX11_isBeside_5 rfl (lvA1 hl) ?_
      refine gf_RX11_74 S hK hP 0 xo_0 (v := .ref (g 14)) rfl dX11_isBeside_6 ?_
      refine vp_callSi (runV_r (As := []) (rest := [.int (nI i3)]) S (q_l_size l D cI cB cZ (g 14) (if (cn 14) = 0 then zz else ad 2 4) (In 14) (nI (cn 14))) kV_RX11_84 hK hP [28] (one_is xo_28) 28 xo_28 rfl rfl ⟨Nat.le_of_ble_eq_true rfl, Nat.le_of_ble_eq_true rfl⟩ ⟨Nat.le_of_ble_eq_true rfl, Nat.le_of_ble_eq_true rfl⟩ rfl hl.1 rfl (Nat.le_of_ble_eq_true rfl) dX11_isBeside_9) (fun r_1 h_2 => ?_)
      subst h_2
      have : (nI (cn 14)).toInt = (((cn 14) : Nat) : Int) := nI_toInt (by (first | omega | (have zz0 := Hid.u hb_cn; omega)))
      refine lv_icmp_ge (tgt := 71) hx hb dX11_isBeside_12 rfl (fun c_3 => ?_) (fun c_3 => ?_)
      ·
        have tc_3 : ((nI (cn 14)).toInt : Int) ≤ (nI i3).toInt := Int32.le_iff_toInt_le.mp c_3
        refine lv_iconst (v := 0) hx hb dX11_isBeside_71 kic_0 ?_
        exact W.zret (v := 0) hx hb hr rfl (fun t ht hW => ⟨0, rfl, (Or.inl rfl), ht⟩) (fun _ h => absurd h List.not_mem_nil) dX11_isBeside_72
      ·
        have tc_3 : ((nI i3).toInt : Int) < (nI (cn 14)).toInt := Int32.lt_iff_toInt_lt.mp (Int32.not_le.mp c_3)
        refine lv_aload_n hx hb dX11_isBeside_15 rfl (lvA1 hl) ?_
        refine gf_RX11_74 S hK hP 0 xo_0 (v := .ref (g 14)) rfl dX11_isBeside_16 ?_
        refine lv_iload hx hb dX11_isBeside_19 (lvA0 hl) ?_
        refine va_csq (runV_rx (As := [.int (nI i3)]) (rest := []) S (q_l_get l D cI cB cZ zz qq vv bt (g 14) (ad 2 4) (cn 24) (cn 14) i3 (ad 14 i3) (In 14) (fun i => if i < (cn 14) then some (ad 14 i) else none) (by (first | omega | (have zz0 := Hid.u hb_cn; omega))) (if_pos (by (first | omega | (have zz0 := Hid.u hb_cn; omega)))) (by (first | omega | (have zz0 := Hid.u hb_cn; omega))) (by (first | omega | (have zz0 := Hid.u hb_cn; omega)))) kV_RX11_87 hK hXS hS hP _ (two_is (xl_4 (by (first | omega | (have zz0 := Hid.u hb_cn; omega)))) (xf_17 (k := 0) (by (first | omega | (have zz0 := Hid.u hb_cn; omega))))) (va_recv hK.1 hP (ci := 0) rfl xo_28) ⟨Nat.le_of_ble_eq_true rfl, Nat.le_of_ble_eq_true rfl⟩ ⟨Nat.le_of_ble_eq_true rfl, Nat.le_of_ble_eq_true rfl⟩ rfl hl.1 rfl (Nat.le_of_ble_eq_true rfl) dX11_isBeside_21) (fun r_4 h_5 => ?_)
        subst h_5
        have kf_1 : i3 < cn 14 := by (first | omega | (have zz0 := Hid.u hb_cn; omega))
        refine va_castS hx hb hown (S.2.2.2.2 _ (wk5_17 5 rfl rfl)) (xclass hK.1 (ci := 7) rfl) (va_recv hK.1 hP (ci := 7) rfl (xf_4 kf_1)) dX11_isBeside_24 ?_
        refine lv_astore (lv' := [(5, .ref (ad 14 i3)), (4, .int (nI i3)), (0, .ref (g 0)), (1, .ref (ad 10 k0)), (2, .int v1), (3, .int v2)]) hx hb dX11_isBeside_27 hl (ltb rfl) rfl (fun ls hl => ?_)
        refine lv_aload hx hb dX11_isBeside_29 (lvA0 hl) ?_
        refine gf_RX11_477 S hK hP _ (xf_4 kf_1) (v := .int ((Fn 172) i3)) rfl dX11_isBeside_31 ?_
        refine lv_iload_n hx hb dX11_isBeside_34 rfl (lvA5 hl) ?_
        refine lv_icmp_lt (tgt := 65) hx hb dX11_isBeside_35 rfl (fun c_6 => ?_) (fun c_6 => ?_)
        ·
          have tc_6 : (((Fn 172) i3).toInt : Int) < v2.toInt := Int32.lt_iff_toInt_lt.mp c_6
          refine lv_iinc (v := (nI (i3 + 1))) (lv' := [(4, .int (nI (i3 + 1))), (5, .ref (ad 14 i3)), (0, .ref (g 0)), (1, .ref (ad 10 k0)), (2, .int v1), (3, .int v2)]) hx hb dX11_isBeside_65 hl (k := 1) rfl (nI_1 _) (ltb rfl) rfl (fun ls hl => ?_)
          refine lv_goto (tgt := 3) hx hb dX11_isBeside_68 rfl ?_
          exact ih3 (i3 + 1) (by (first | omega | (have zz0 := Hid.u hb_cn; omega))) (by (first | omega | (have zz0 := Hid.u hb_cn; omega))) ls (lv_sub hl [0, 2, 3, 4, 5] rfl)
        ·
          have tc_6 : (v2.toInt : Int) ≤ ((Fn 172) i3).toInt := Int32.le_iff_toInt_le.mp (Int32.not_lt.mp c_6)
          refine lv_aload_n hx hb dX11_isBeside_38 rfl (lvA3 hl) ?_
          refine gf_RX11_293 S hK hP _ (xf_0 hk) (v := .int ((Fn 100) k0)) rfl dX11_isBeside_39 ?_
          refine lv_aload_n hx hb dX11_isBeside_42 rfl (lvA3 hl) ?_
          refine gf_RX11_296 S hK hP _ (xf_0 hk) (v := .int ((Fn 101) k0)) rfl dX11_isBeside_43 ?_
          refine lv_aload hx hb dX11_isBeside_46 (lvA0 hl) ?_
          refine gf_RX11_480 S hK hP _ (xf_4 kf_1) (v := .int ((Fn 170) i3)) rfl dX11_isBeside_48 ?_
          refine lv_aload hx hb dX11_isBeside_51 (lvA0 hl) ?_
          refine gf_RX11_481 S hK hP _ (xf_4 kf_1) (v := .int ((Fn 171) i3)) rfl dX11_isBeside_53 ?_
          refine vp_callSi (runS_r (As := [.int ((Fn 100) k0), .int ((Fn 101) k0), .int ((Fn 170) i3), .int ((Fn 171) i3)]) (rest := []) S (q_Xway l D cI cB cZ ((Fn 100) k0) ((Fn 101) k0) ((Fn 170) i3) ((Fn 171) i3) ) kS_RX11_299 hK hP [] rfl ⟨Nat.le_of_ble_eq_true rfl, Nat.le_of_ble_eq_true rfl⟩ ⟨Nat.le_of_ble_eq_true rfl, Nat.le_of_ble_eq_true rfl⟩ rfl hl.1 rfl (Nat.le_of_ble_eq_true rfl) dX11_isBeside_56) (fun r_7 h_8 => ?_)
          refine lv_iload_n hx hb dX11_isBeside_59 rfl (lvA4 hl) ?_
          refine lv_icmp_gt (tgt := 65) hx hb dX11_isBeside_60 rfl (fun c_9 => ?_) (fun c_9 => ?_)
          ·
            have tc_9 : (v1.toInt : Int) < r_7.toInt := Int32.lt_iff_toInt_lt.mp c_9
            refine lv_iinc (v := (nI (i3 + 1))) (lv' := [(4, .int (nI (i3 + 1))), (5, .ref (ad 14 i3)), (0, .ref (g 0)), (1, .ref (ad 10 k0)), (2, .int v1), (3, .int v2)]) hx hb dX11_isBeside_65 hl (k := 1) rfl (nI_1 _) (ltb rfl) rfl (fun ls hl => ?_)
            refine lv_goto (tgt := 3) hx hb dX11_isBeside_68 rfl ?_
            exact ih3 (i3 + 1) (by (first | omega | (have zz0 := Hid.u hb_cn; omega))) (by (first | omega | (have zz0 := Hid.u hb_cn; omega))) ls (lv_sub hl [0, 2, 3, 4, 5] rfl)
          ·
            have tc_9 : (r_7.toInt : Int) ≤ v1.toInt := Int32.le_iff_toInt_le.mp (Int32.not_lt.mp c_9)
            refine lv_iconst (v := 1) hx hb dX11_isBeside_63 kic_1 ?_
            exact W.zret (v := 1) hx hb hr rfl (fun t ht hW => ⟨1, rfl, (Or.inr rfl), ht⟩) (fun _ h => absurd h List.not_mem_nil) dX11_isBeside_64
  exact lp_3 _ 0 (Nat.lt_succ_self _) (by (first | omega | (have zz0 := Hid.u hb_cn; omega))) ls (lv_sub hl [0, 1, 2, 3, 4] rfl)
set_option maxRecDepth 100000 in
set_option maxHeartbeats 4000000 in
theorem q_Xbeside (l : Launch) (D : va_G) (cI cB cZ : ClassId) (zz qq vv : Nat) (bt : Nat → Int32) (g : Nat → Nat) (ad : Nat → Nat → Nat) (cn : Nat → Nat) (In : Nat → Int32) (Fn : Nat → Nat → Int32) (v0 v1 : Int32) (hB : CBX cn) : Met l yX11_beside (CWS yX11_beside cX11_beside 6 (some .int)) (RM 4 0 0) (PBrx [.ref (g 0), .int v0, .int v1] D cI cB cZ zz qq vv bt (wX cI (D.1 99) zz g ad cn In Fn)) (vp_Si (fun _ => True)) 0 0 (fun _ => False) := by
  refine en_rx rfl pn_RX11 (Nat.le_of_ble_eq_true rfl) (fun p e s m below meth c hx hb hml hown S hr hlocks hnm hP hK hXS hS ls hl => ?_)
  have hl : lv_has ls 6 [(0, .ref (g 0)), (1, .int v0), (2, .int v1)] := hl
  have hb_cn : Hid (CBX cn) := hB
  replace hB : CBXh cn := hB
  refine lv_iload_n hx hb dX11_beside_0 rfl (lvA1 hl) ?_
  refine lv_iconst (v := 0) hx hb dX11_beside_1 kic_0 ?_
  refine lv_sipush (v := 198) hx hb dX11_beside_2 (by decide) ?_
  refine vp_callSi (runS_r (As := [.int v0, .int 0, .int 198]) (rest := []) S (q_l_within l D cI cB cZ v0 0 198) kS_RX11_80 hK hP [] rfl ⟨Nat.le_of_ble_eq_true rfl, Nat.le_of_ble_eq_true rfl⟩ ⟨Nat.le_of_ble_eq_true rfl, Nat.le_of_ble_eq_true rfl⟩ rfl hl.1 rfl (Nat.le_of_ble_eq_true rfl) dX11_beside_5) (fun r_1 h_2 => ?_)
  rcases h_2 with ⟨rfl, h_2⟩ | ⟨rfl, h_2⟩
  ·
    have h_2 : 0 ≤ v0.toInt ∧ v0.toInt ≤ 198 := h_2
    refine lv_if_eq (tgt := 22) hx hb dX11_beside_8 rfl (fun h => absurd h cq_eq_1_0) (fun _ => ?_)
    refine lv_iload_n hx hb dX11_beside_11 rfl (lvA2 hl) ?_
    refine lv_iconst (v := 1) hx hb dX11_beside_12 kic_1 ?_
    refine lv_sipush (v := 1000) hx hb dX11_beside_13 (by decide) ?_
    refine vp_callSi (runS_r (As := [.int v1, .int 1, .int 1000]) (rest := []) S (q_l_within l D cI cB cZ v1 1 1000) kS_RX11_80 hK hP [] rfl ⟨Nat.le_of_ble_eq_true rfl, Nat.le_of_ble_eq_true rfl⟩ ⟨Nat.le_of_ble_eq_true rfl, Nat.le_of_ble_eq_true rfl⟩ rfl hl.1 rfl (Nat.le_of_ble_eq_true rfl) dX11_beside_16) (fun r_3 h_4 => ?_)
    rcases h_4 with ⟨rfl, h_4⟩ | ⟨rfl, h_4⟩
    ·
      have h_4 : 1 ≤ v1.toInt ∧ v1.toInt ≤ 1000 := h_4
      refine lv_if_ne (tgt := 24) hx hb dX11_beside_19 rfl (fun _ => ?_) (fun h => absurd h cq_eq_1_0)
      refine lv_iconst (v := 0) hx hb dX11_beside_24 kic_0 ?_
      refine lv_istore_n (lv' := [(3, .int 0), (0, .ref (g 0)), (1, .int v0), (2, .int v1)]) hx hb dX11_beside_25 rfl hl (ltb rfl) rfl (fun ls hl => ?_)
      refine lv_iconst (v := 0) hx hb dX11_beside_26 kic_0 ?_
      refine lv_istore (lv' := [(4, .int 0), (3, .int 0), (0, .ref (g 0)), (1, .int v0), (2, .int v1)]) hx hb dX11_beside_27 hl (ltb rfl) rfl (fun ls hl => ?_)
      have lp_29 : ∀ (n : Nat) (i29 : Nat) (x29_3 : Int32) , cn 10 - i29 < n → (i29 ≤ cn 10) → ∀ ls : Array Slot, lv_has ls 6 [(4, .int (nI i29)), (3, .int x29_3), (0, .ref (g 0)), (1, .int v0), (2, .int v1)] → W p l e (RM 4 0 0) s m ([.ref (g 0), .int v0, .int v1]).toArray below meth c s.heap [] 0 0 (MQ below (vp_Si (fun _ => True)) ([.ref (g 0), .int v0, .int v1]).toArray s 0 0 (fun _ => False)) (F0 m 29 ls []) := by
        intro n29
        induction n29 with
        | zero => intros; (first | omega | (have zz0 := Hid.u hb_cn; omega))
        | succ n29 ih29 =>
          intro i29 x29_3 hmu29 hinv29 ls hl
          have hr29 := hinv29
          have ti29 : (nI i29).toInt = (i29 : Int) := nI_toInt (by (first | omega | (have zz0 := Hid.u hb_cn; omega)))
          refine lv_iload hx hb dX11_beside_29 (lvA0 hl) ?_
          refine lv_aload_n hx hb dX11_beside_31 rfl (lvA2 hl) ?_
          refine gf_RX11_61 S hK hP 0 xo_0 (v := .ref (g 10)) rfl dX11_beside_32 ?_
          refine vp_callSi (runV_r (As := []) (rest := [.int (nI i29)]) S (q_l_size l D cI cB cZ (g 10) (if (cn 10) = 0 then zz else ad 2 0) (In 10) (nI (cn 10))) kV_RX11_84 hK hP [24] (one_is xo_24) 24 xo_24 rfl rfl ⟨Nat.le_of_ble_eq_true rfl, Nat.le_of_ble_eq_true rfl⟩ ⟨Nat.le_of_ble_eq_true rfl, Nat.le_of_ble_eq_true rfl⟩ rfl hl.1 rfl (Nat.le_of_ble_eq_true rfl) dX11_beside_35) (fun r_5 h_6 => ?_)
          subst h_6
          have : (nI (cn 10)).toInt = (((cn 10) : Nat) : Int) := nI_toInt (by (first | omega | (have zz0 := Hid.u hb_cn; omega)))
          refine lv_icmp_ge (tgt := 91) hx hb dX11_beside_38 rfl (fun c_7 => ?_) (fun c_7 => ?_)
          ·
            have tc_7 : ((nI (cn 10)).toInt : Int) ≤ (nI i29).toInt := Int32.le_iff_toInt_le.mp c_7
            refine lv_iload_n hx hb dX11_beside_91 rfl (lvA1 hl) ?_
            exact W.iret (v := x29_3) hx hb hr (fun t ht hW => ⟨x29_3, rfl, trivial, ht⟩) (fun _ h => absurd h List.not_mem_nil) dX11_beside_92
          ·
            have tc_7 : ((nI i29).toInt : Int) < (nI (cn 10)).toInt := Int32.lt_iff_toInt_lt.mp (Int32.not_le.mp c_7)
            refine lv_aload_n hx hb dX11_beside_41 rfl (lvA2 hl) ?_
            refine gf_RX11_61 S hK hP 0 xo_0 (v := .ref (g 10)) rfl dX11_beside_42 ?_
            refine lv_iload hx hb dX11_beside_45 (lvA0 hl) ?_
            refine va_csq (runV_rx (As := [.int (nI i29)]) (rest := []) S (q_l_get l D cI cB cZ zz qq vv bt (g 10) (ad 2 0) (cn 20) (cn 10) i29 (ad 10 i29) (In 10) (fun i => if i < (cn 10) then some (ad 10 i) else none) (by (first | omega | (have zz0 := Hid.u hb_cn; omega))) (if_pos (by (first | omega | (have zz0 := Hid.u hb_cn; omega)))) (by (first | omega | (have zz0 := Hid.u hb_cn; omega))) (by (first | omega | (have zz0 := Hid.u hb_cn; omega)))) kV_RX11_87 hK hXS hS hP _ (two_is (xl_0 (by (first | omega | (have zz0 := Hid.u hb_cn; omega)))) (xf_13 (k := 0) (by (first | omega | (have zz0 := Hid.u hb_cn; omega))))) (va_recv hK.1 hP (ci := 0) rfl xo_24) ⟨Nat.le_of_ble_eq_true rfl, Nat.le_of_ble_eq_true rfl⟩ ⟨Nat.le_of_ble_eq_true rfl, Nat.le_of_ble_eq_true rfl⟩ rfl hl.1 rfl (Nat.le_of_ble_eq_true rfl) dX11_beside_47) (fun r_8 h_9 => ?_)
            subst h_9
            have kf_1 : i29 < cn 10 := by (first | omega | (have zz0 := Hid.u hb_cn; omega))
            refine va_castS hx hb hown (S.2.2.2.2 _ (wk2_5 3 rfl rfl)) (xclass hK.1 (ci := 2) rfl) (va_recv hK.1 hP (ci := 2) rfl (xf_0 kf_1)) dX11_beside_50 ?_
            refine lv_astore (lv' := [(5, .ref (ad 10 i29)), (4, .int (nI i29)), (3, .int x29_3), (0, .ref (g 0)), (1, .int v0), (2, .int v1)]) hx hb dX11_beside_53 hl (ltb rfl) rfl (fun ls hl => ?_)
            refine lv_iload_n hx hb dX11_beside_55 rfl (lvA2 hl) ?_
            refine lv_aload hx hb dX11_beside_56 (lvA0 hl) ?_
            refine gf_RX11_459 S hK hP _ (xf_0 kf_1) (v := .int ((Fn 102) i29)) rfl dX11_beside_58 ?_
            refine lv_if_ne (tgt := 82) hx hb dX11_beside_61 rfl (fun c_10 => ?_) (fun c_10 => ?_)
            ·
              have tc_10 : (((Fn 102) i29).toInt : Int) ≠ 0 := fun q => c_10 (Int32.toInt_inj.mp q)
              refine lv_iconst (v := 0) hx hb dX11_beside_82 kic_0 ?_
              refine lv_ior hx hb dX11_beside_83 ?_
              refine lv_istore_n (lv' := [(3, .int (x29_3 ||| 0)), (5, .ref (ad 10 i29)), (4, .int (nI i29)), (0, .ref (g 0)), (1, .int v0), (2, .int v1)]) hx hb dX11_beside_84 rfl hl (ltb rfl) rfl (fun ls hl => ?_)
              refine lv_iinc (v := (nI (i29 + 1))) (lv' := [(4, .int (nI (i29 + 1))), (3, .int (x29_3 ||| 0)), (5, .ref (ad 10 i29)), (0, .ref (g 0)), (1, .int v0), (2, .int v1)]) hx hb dX11_beside_85 hl (k := 2) rfl (nI_1 _) (ltb rfl) rfl (fun ls hl => ?_)
              refine lv_goto (tgt := 29) hx hb dX11_beside_88 rfl ?_
              exact ih29 (i29 + 1) (x29_3 ||| 0) (by (first | omega | (have zz0 := Hid.u hb_cn; omega))) (by (first | omega | (have zz0 := Hid.u hb_cn; omega))) ls (lv_sub hl [0, 1, 3, 4, 5] rfl)
            ·
              have tc_10 : (((Fn 102) i29).toInt : Int) = 0 := congrArg Int32.toInt c_10
              refine lv_aload_n hx hb dX11_beside_64 rfl (lvA3 hl) ?_
              refine lv_aload hx hb dX11_beside_65 (lvA0 hl) ?_
              refine lv_iload_n hx hb dX11_beside_67 rfl (lvA4 hl) ?_
              refine lv_iload_n hx hb dX11_beside_68 rfl (lvA5 hl) ?_
              refine vp_callSi (runV_rxa (As := [.ref (ad 10 i29), .int v0, .int v1]) (rest := [.int x29_3]) S (q_XisBeside l D cI cB cZ zz qq vv bt g ad cn In Fn i29 v0 v1 hB (by (first | omega | (have zz0 := Hid.u hb_cn; omega)))) kV_RX11_482 hK hXS hS hP 0 xo_0 rfl rfl ⟨Nat.le_of_ble_eq_true rfl, Nat.le_of_ble_eq_true rfl⟩ ⟨Nat.le_of_ble_eq_true rfl, Nat.le_of_ble_eq_true rfl⟩ rfl hl.1 rfl (Nat.le_of_ble_eq_true rfl) dX11_beside_69) (fun r_11 h_12 => ?_)
              rcases h_12 with rfl | rfl
              ·
                refine lv_if_eq (tgt := 82) hx hb dX11_beside_72 rfl (fun _ => ?_) (fun h => absurd h cq_eq_0_0)
                refine lv_iconst (v := 0) hx hb dX11_beside_82 kic_0 ?_
                refine lv_ior hx hb dX11_beside_83 ?_
                refine lv_istore_n (lv' := [(3, .int (x29_3 ||| 0)), (5, .ref (ad 10 i29)), (4, .int (nI i29)), (0, .ref (g 0)), (1, .int v0), (2, .int v1)]) hx hb dX11_beside_84 rfl hl (ltb rfl) rfl (fun ls hl => ?_)
                refine lv_iinc (v := (nI (i29 + 1))) (lv' := [(4, .int (nI (i29 + 1))), (3, .int (x29_3 ||| 0)), (5, .ref (ad 10 i29)), (0, .ref (g 0)), (1, .int v0), (2, .int v1)]) hx hb dX11_beside_85 hl (k := 2) rfl (nI_1 _) (ltb rfl) rfl (fun ls hl => ?_)
                refine lv_goto (tgt := 29) hx hb dX11_beside_88 rfl ?_
                exact ih29 (i29 + 1) (x29_3 ||| 0) (by (first | omega | (have zz0 := Hid.u hb_cn; omega))) (by (first | omega | (have zz0 := Hid.u hb_cn; omega))) ls (lv_sub hl [0, 1, 3, 4, 5] rfl)
              ·
                refine lv_if_eq (tgt := 82) hx hb dX11_beside_72 rfl (fun h => absurd h cq_eq_1_0) (fun _ => ?_)
                refine lv_iconst (v := 1) hx hb dX11_beside_75 kic_1 ?_
                refine lv_iload hx hb dX11_beside_76 (lvA1 hl) ?_
                refine lv_ishl hx hb dX11_beside_78 ?_
                refine lv_goto (tgt := 83) hx hb dX11_beside_79 rfl ?_
                refine lv_ior hx hb dX11_beside_83 ?_
                refine lv_istore_n (lv' := [(3, .int (x29_3 ||| (1 <<< ((nI i29) &&& 31)))), (5, .ref (ad 10 i29)), (4, .int (nI i29)), (0, .ref (g 0)), (1, .int v0), (2, .int v1)]) hx hb dX11_beside_84 rfl hl (ltb rfl) rfl (fun ls hl => ?_)
                refine lv_iinc (v := (nI (i29 + 1))) (lv' := [(4, .int (nI (i29 + 1))), (3, .int (x29_3 ||| (1 <<< ((nI i29) &&& 31)))), (5, .ref (ad 10 i29)), (0, .ref (g 0)), (1, .int v0), (2, .int v1)]) hx hb dX11_beside_85 hl (k := 2) rfl (nI_1 _) (ltb rfl) rfl (fun ls hl => ?_)
                refine lv_goto (tgt := 29) hx hb dX11_beside_88 rfl ?_
                exact ih29 (i29 + 1) (x29_3 ||| (1 <<< ((nI i29) &&& 31))) (by (first | omega | (have zz0 := Hid.u hb_cn; omega))) (by (first | omega | (have zz0 := Hid.u hb_cn; omega))) ls (lv_sub hl [0, 1, 3, 4, 5] rfl)
      exact lp_29 _ 0 0 (Nat.lt_succ_self _) (by (first | omega | (have zz0 := Hid.u hb_cn; omega))) ls (lv_sub hl [0, 1, 2, 3, 4] rfl)
    ·
      have h_4 : ¬ (1 ≤ v1.toInt ∧ v1.toInt ≤ 1000) := h_4
      refine lv_if_ne (tgt := 24) hx hb dX11_beside_19 rfl (fun h => absurd h cq_eq_0_0) (fun _ => ?_)
      refine lv_iconst (v := (-1)) hx hb dX11_beside_22 kic_m1 ?_
      exact W.iret (v := (-1)) hx hb hr (fun t ht hW => ⟨(-1), rfl, trivial, ht⟩) (fun _ h => absurd h List.not_mem_nil) dX11_beside_23
  ·
    have h_2 : ¬ (0 ≤ v0.toInt ∧ v0.toInt ≤ 198) := h_2
    refine lv_if_eq (tgt := 22) hx hb dX11_beside_8 rfl (fun _ => ?_) (fun h => absurd h cq_eq_0_0)
    refine lv_iconst (v := (-1)) hx hb dX11_beside_22 kic_m1 ?_
    exact W.iret (v := (-1)) hx hb hr (fun t ht hW => ⟨(-1), rfl, trivial, ht⟩) (fun _ h => absurd h List.not_mem_nil) dX11_beside_23
set_option maxRecDepth 100000 in
set_option maxHeartbeats 4000000 in
theorem q_Xlate (l : Launch) (D : va_G) (cI cB cZ : ClassId) (zz qq vv : Nat) (bt : Nat → Int32) (g : Nat → Nat) (ad : Nat → Nat → Nat) (cn : Nat → Nat) (In : Nat → Int32) (Fn : Nat → Nat → Int32) (v0 v1 : Int32) (hB : CBX cn) : Met l yX11_late (CWS yX11_late cX11_late 6 (some .int)) (RM 4 0 0) (PBrx [.ref (g 0), .int v0, .int v1] D cI cB cZ zz qq vv bt (wX cI (D.1 99) zz g ad cn In Fn)) (vp_Si (fun _ => True)) 0 0 (fun _ => False) := by
  refine en_rx rfl pn_RX11 (Nat.le_of_ble_eq_true rfl) (fun p e s m below meth c hx hb hml hown S hr hlocks hnm hP hK hXS hS ls hl => ?_)
  have hl : lv_has ls 6 [(0, .ref (g 0)), (1, .int v0), (2, .int v1)] := hl
  have hb_cn : Hid (CBX cn) := hB
  replace hB : CBXh cn := hB
  refine lv_aload_n hx hb dX11_late_0 rfl (lvA0 hl) ?_
  refine lv_iload_n hx hb dX11_late_1 rfl (lvA1 hl) ?_
  refine va_csq (runV_rxa (As := [.int v0]) (rest := []) S (q_XkitchenAt l D cI cB cZ zz qq vv bt g ad cn In Fn v0 hB) kV_RX11_114 hK hXS hS hP 0 xo_0 rfl rfl ⟨Nat.le_of_ble_eq_true rfl, Nat.le_of_ble_eq_true rfl⟩ ⟨Nat.le_of_ble_eq_true rfl, Nat.le_of_ble_eq_true rfl⟩ rfl hl.1 rfl (Nat.le_of_ble_eq_true rfl) dX11_late_2) (fun r_1 h_2 => ?_)
  rcases h_2 with ⟨mr_1, er_1, hr_1, rfl⟩ | ⟨hr_1, rfl⟩
  ·
    refine lv_ifnull hx hb dX11_late_5 ?_
    refine lv_iload_n hx hb dX11_late_8 rfl (lvA2 hl) ?_
    refine lv_bipush (v := (-40)) hx hb dX11_late_9 kbc_m40 ?_
    refine lv_bipush (v := 41) hx hb dX11_late_11 kbc_41 ?_
    refine vp_callSi (runS_r (As := [.int v1, .int (-40), .int 41]) (rest := []) S (q_l_within l D cI cB cZ v1 (-40) 41) kS_RX11_80 hK hP [] rfl ⟨Nat.le_of_ble_eq_true rfl, Nat.le_of_ble_eq_true rfl⟩ ⟨Nat.le_of_ble_eq_true rfl, Nat.le_of_ble_eq_true rfl⟩ rfl hl.1 rfl (Nat.le_of_ble_eq_true rfl) dX11_late_13) (fun r_3 h_4 => ?_)
    rcases h_4 with ⟨rfl, h_4⟩ | ⟨rfl, h_4⟩
    ·
      have h_4 : (-40) ≤ v1.toInt ∧ v1.toInt ≤ 41 := h_4
      refine lv_if_ne (tgt := 21) hx hb dX11_late_16 rfl (fun _ => ?_) (fun h => absurd h cq_eq_1_0)
      refine lv_iconst (v := 0) hx hb dX11_late_21 kic_0 ?_
      refine lv_istore_n (lv' := [(3, .int 0), (0, .ref (g 0)), (1, .int v0), (2, .int v1)]) hx hb dX11_late_22 rfl hl (ltb rfl) rfl (fun ls hl => ?_)
      refine lv_iconst (v := 0) hx hb dX11_late_23 kic_0 ?_
      refine lv_istore (lv' := [(4, .int 0), (3, .int 0), (0, .ref (g 0)), (1, .int v0), (2, .int v1)]) hx hb dX11_late_24 hl (ltb rfl) rfl (fun ls hl => ?_)
      have lp_26 : ∀ (n : Nat) (i26 : Nat) (x26_3 : Int32) , cn 11 - i26 < n → (i26 ≤ cn 11) → ∀ ls : Array Slot, lv_has ls 6 [(4, .int (nI i26)), (3, .int x26_3), (0, .ref (g 0)), (1, .int v0), (2, .int v1)] → W p l e (RM 4 0 0) s m ([.ref (g 0), .int v0, .int v1]).toArray below meth c s.heap [] 0 0 (MQ below (vp_Si (fun _ => True)) ([.ref (g 0), .int v0, .int v1]).toArray s 0 0 (fun _ => False)) (F0 m 26 ls []) := by
        intro n26
        induction n26 with
        | zero => intros; (first | omega | (have zz0 := Hid.u hb_cn; omega))
        | succ n26 ih26 =>
          intro i26 x26_3 hmu26 hinv26 ls hl
          have hr26 := hinv26
          have ti26 : (nI i26).toInt = (i26 : Int) := nI_toInt (by (first | omega | (have zz0 := Hid.u hb_cn; omega)))
          refine lv_iload hx hb dX11_late_26 (lvA0 hl) ?_
          refine lv_aload_n hx hb dX11_late_28 rfl (lvA2 hl) ?_
          refine gf_RX11_65 S hK hP 0 xo_0 (v := .ref (g 11)) rfl dX11_late_29 ?_
          refine vp_callSi (runV_r (As := []) (rest := [.int (nI i26)]) S (q_l_size l D cI cB cZ (g 11) (if (cn 11) = 0 then zz else ad 2 1) (In 11) (nI (cn 11))) kV_RX11_84 hK hP [25] (one_is xo_25) 25 xo_25 rfl rfl ⟨Nat.le_of_ble_eq_true rfl, Nat.le_of_ble_eq_true rfl⟩ ⟨Nat.le_of_ble_eq_true rfl, Nat.le_of_ble_eq_true rfl⟩ rfl hl.1 rfl (Nat.le_of_ble_eq_true rfl) dX11_late_32) (fun r_5 h_6 => ?_)
          subst h_6
          have : (nI (cn 11)).toInt = (((cn 11) : Nat) : Int) := nI_toInt (by (first | omega | (have zz0 := Hid.u hb_cn; omega)))
          refine lv_icmp_ge (tgt := 88) hx hb dX11_late_35 rfl (fun c_7 => ?_) (fun c_7 => ?_)
          ·
            have tc_7 : ((nI (cn 11)).toInt : Int) ≤ (nI i26).toInt := Int32.le_iff_toInt_le.mp c_7
            refine lv_iload_n hx hb dX11_late_88 rfl (lvA1 hl) ?_
            exact W.iret (v := x26_3) hx hb hr (fun t ht hW => ⟨x26_3, rfl, trivial, ht⟩) (fun _ h => absurd h List.not_mem_nil) dX11_late_89
          ·
            have tc_7 : ((nI i26).toInt : Int) < (nI (cn 11)).toInt := Int32.lt_iff_toInt_lt.mp (Int32.not_le.mp c_7)
            refine lv_aload_n hx hb dX11_late_38 rfl (lvA2 hl) ?_
            refine gf_RX11_65 S hK hP 0 xo_0 (v := .ref (g 11)) rfl dX11_late_39 ?_
            refine lv_iload hx hb dX11_late_42 (lvA0 hl) ?_
            refine va_csq (runV_rx (As := [.int (nI i26)]) (rest := []) S (q_l_get l D cI cB cZ zz qq vv bt (g 11) (ad 2 1) (cn 21) (cn 11) i26 (ad 11 i26) (In 11) (fun i => if i < (cn 11) then some (ad 11 i) else none) (by (first | omega | (have zz0 := Hid.u hb_cn; omega))) (if_pos (by (first | omega | (have zz0 := Hid.u hb_cn; omega)))) (by (first | omega | (have zz0 := Hid.u hb_cn; omega))) (by (first | omega | (have zz0 := Hid.u hb_cn; omega)))) kV_RX11_87 hK hXS hS hP _ (two_is (xl_1 (by (first | omega | (have zz0 := Hid.u hb_cn; omega)))) (xf_14 (k := 0) (by (first | omega | (have zz0 := Hid.u hb_cn; omega))))) (va_recv hK.1 hP (ci := 0) rfl xo_25) ⟨Nat.le_of_ble_eq_true rfl, Nat.le_of_ble_eq_true rfl⟩ ⟨Nat.le_of_ble_eq_true rfl, Nat.le_of_ble_eq_true rfl⟩ rfl hl.1 rfl (Nat.le_of_ble_eq_true rfl) dX11_late_44) (fun r_8 h_9 => ?_)
            subst h_9
            have kf_1 : i26 < cn 11 := by (first | omega | (have zz0 := Hid.u hb_cn; omega))
            refine va_castS hx hb hown (S.2.2.2.2 _ (wk2_17 0 rfl rfl)) (xclass hK.1 (ci := 3) rfl) (va_recv hK.1 hP (ci := 3) rfl (xf_1 kf_1)) dX11_late_47 ?_
            refine lv_astore (lv' := [(5, .ref (ad 11 i26)), (4, .int (nI i26)), (3, .int x26_3), (0, .ref (g 0)), (1, .int v0), (2, .int v1)]) hx hb dX11_late_50 hl (ltb rfl) rfl (fun ls hl => ?_)
            refine lv_iload_n hx hb dX11_late_52 rfl (lvA2 hl) ?_
            refine lv_aload hx hb dX11_late_53 (lvA0 hl) ?_
            refine gf_RX11_211 S hK hP _ (xf_1 kf_1) (v := .int ((Fn 120) i26)) rfl dX11_late_55 ?_
            refine lv_iload_n hx hb dX11_late_58 rfl (lvA4 hl) ?_
            refine lv_icmp_ne (tgt := 79) hx hb dX11_late_59 rfl (fun c_10 => ?_) (fun c_10 => ?_)
            ·
              have tc_10 : (((Fn 120) i26).toInt : Int) ≠ v0.toInt := fun q => c_10 (Int32.toInt_inj.mp q)
              refine lv_iconst (v := 0) hx hb dX11_late_79 kic_0 ?_
              refine lv_iadd hx hb dX11_late_80 ?_
              refine lv_istore_n (lv' := [(3, .int (x26_3 + 0)), (5, .ref (ad 11 i26)), (4, .int (nI i26)), (0, .ref (g 0)), (1, .int v0), (2, .int v1)]) hx hb dX11_late_81 rfl hl (ltb rfl) rfl (fun ls hl => ?_)
              refine lv_iinc (v := (nI (i26 + 1))) (lv' := [(4, .int (nI (i26 + 1))), (3, .int (x26_3 + 0)), (5, .ref (ad 11 i26)), (0, .ref (g 0)), (1, .int v0), (2, .int v1)]) hx hb dX11_late_82 hl (k := 2) rfl (nI_1 _) (ltb rfl) rfl (fun ls hl => ?_)
              refine lv_goto (tgt := 26) hx hb dX11_late_85 rfl ?_
              exact ih26 (i26 + 1) (x26_3 + 0) (by (first | omega | (have zz0 := Hid.u hb_cn; omega))) (by (first | omega | (have zz0 := Hid.u hb_cn; omega))) ls (lv_sub hl [0, 1, 3, 4, 5] rfl)
            ·
              have tc_10 : (((Fn 120) i26).toInt : Int) = v0.toInt := congrArg Int32.toInt c_10
              refine lv_aload_n hx hb dX11_late_62 rfl (lvA3 hl) ?_
              refine lv_aload hx hb dX11_late_63 (lvA0 hl) ?_
              refine gf_RX11_196 S hK hP _ (xf_1 kf_1) (v := .int ((Fn 121) i26)) rfl dX11_late_65 ?_
              refine lv_iload_n hx hb dX11_late_68 rfl (lvA5 hl) ?_
              refine vp_callSi (runV_rxa (As := [.int ((Fn 121) i26), .int v1]) (rest := [.int x26_3]) S (q_Xsets l D cI cB cZ zz qq vv bt g ad cn In Fn ((Fn 121) i26) v1 hB) kV_RX11_489 hK hXS hS hP 0 xo_0 rfl rfl ⟨Nat.le_of_ble_eq_true rfl, Nat.le_of_ble_eq_true rfl⟩ ⟨Nat.le_of_ble_eq_true rfl, Nat.le_of_ble_eq_true rfl⟩ rfl hl.1 rfl (Nat.le_of_ble_eq_true rfl) dX11_late_69) (fun r_11 h_12 => ?_)
              refine lv_if_eq (tgt := 79) hx hb dX11_late_72 rfl (fun c_13 => ?_) (fun c_13 => ?_)
              ·
                have tc_13 : (r_11.toInt : Int) = 0 := congrArg Int32.toInt c_13
                refine lv_iconst (v := 0) hx hb dX11_late_79 kic_0 ?_
                refine lv_iadd hx hb dX11_late_80 ?_
                refine lv_istore_n (lv' := [(3, .int (x26_3 + 0)), (5, .ref (ad 11 i26)), (4, .int (nI i26)), (0, .ref (g 0)), (1, .int v0), (2, .int v1)]) hx hb dX11_late_81 rfl hl (ltb rfl) rfl (fun ls hl => ?_)
                refine lv_iinc (v := (nI (i26 + 1))) (lv' := [(4, .int (nI (i26 + 1))), (3, .int (x26_3 + 0)), (5, .ref (ad 11 i26)), (0, .ref (g 0)), (1, .int v0), (2, .int v1)]) hx hb dX11_late_82 hl (k := 2) rfl (nI_1 _) (ltb rfl) rfl (fun ls hl => ?_)
                refine lv_goto (tgt := 26) hx hb dX11_late_85 rfl ?_
                exact ih26 (i26 + 1) (x26_3 + 0) (by (first | omega | (have zz0 := Hid.u hb_cn; omega))) (by (first | omega | (have zz0 := Hid.u hb_cn; omega))) ls (lv_sub hl [0, 1, 3, 4, 5] rfl)
              ·
                have tc_13 : (r_11.toInt : Int) ≠ 0 := fun q => c_13 (Int32.toInt_inj.mp q)
                refine lv_iconst (v := 1) hx hb dX11_late_75 kic_1 ?_
                refine lv_goto (tgt := 80) hx hb dX11_late_76 rfl ?_
                refine lv_iadd hx hb dX11_late_80 ?_
                refine lv_istore_n (lv' := [(3, .int (x26_3 + 1)), (5, .ref (ad 11 i26)), (4, .int (nI i26)), (0, .ref (g 0)), (1, .int v0), (2, .int v1)]) hx hb dX11_late_81 rfl hl (ltb rfl) rfl (fun ls hl => ?_)
                refine lv_iinc (v := (nI (i26 + 1))) (lv' := [(4, .int (nI (i26 + 1))), (3, .int (x26_3 + 1)), (5, .ref (ad 11 i26)), (0, .ref (g 0)), (1, .int v0), (2, .int v1)]) hx hb dX11_late_82 hl (k := 2) rfl (nI_1 _) (ltb rfl) rfl (fun ls hl => ?_)
                refine lv_goto (tgt := 26) hx hb dX11_late_85 rfl ?_
                exact ih26 (i26 + 1) (x26_3 + 1) (by (first | omega | (have zz0 := Hid.u hb_cn; omega))) (by (first | omega | (have zz0 := Hid.u hb_cn; omega))) ls (lv_sub hl [0, 1, 3, 4, 5] rfl)
      exact lp_26 _ 0 0 (Nat.lt_succ_self _) (by (first | omega | (have zz0 := Hid.u hb_cn; omega))) ls (lv_sub hl [0, 1, 2, 3, 4] rfl)
    ·
      have h_4 : ¬ ((-40) ≤ v1.toInt ∧ v1.toInt ≤ 41) := h_4
      refine lv_if_ne (tgt := 21) hx hb dX11_late_16 rfl (fun h => absurd h cq_eq_0_0) (fun _ => ?_)
      refine lv_iconst (v := (-1)) hx hb dX11_late_19 kic_m1 ?_
      exact W.iret (v := (-1)) hx hb hr (fun t ht hW => ⟨(-1), rfl, trivial, ht⟩) (fun _ h => absurd h List.not_mem_nil) dX11_late_20
  ·
    refine lv_ifnullN (tgt := 19) hx hb dX11_late_5 rfl ?_
    refine lv_iconst (v := (-1)) hx hb dX11_late_19 kic_m1 ?_
    exact W.iret (v := (-1)) hx hb hr (fun t ht hW => ⟨(-1), rfl, trivial, ht⟩) (fun _ h => absurd h List.not_mem_nil) dX11_late_20
set_option maxRecDepth 100000 in
set_option maxHeartbeats 4000000 in
theorem q_XshortOf (l : Launch) (D : va_G) (cI cB cZ : ClassId) (zz qq vv : Nat) (bt : Nat → Int32) (g : Nat → Nat) (ad : Nat → Nat → Nat) (cn : Nat → Nat) (In : Nat → Int32) (Fn : Nat → Nat → Int32) (k0 : Nat) (v0 : Int32) (hB : CBX cn) (hk : k0 < cn 11) : Met l yX2_shortOf (CWS yX2_shortOf cX2_shortOf 2 (some .int)) (RM 1 0 0) (PBrx [.ref (ad 11 k0), .int v0] D cI cB cZ zz qq vv bt (wX cI (D.1 99) zz g ad cn In Fn)) (vp_Si (fun _ => True)) 0 0 (fun _ => False) := by
  refine en_rx rfl pn_RX2 (Nat.le_of_ble_eq_true rfl) (fun p e s m below meth c hx hb hml hown S hr hlocks hnm hP hK hXS hS ls hl => ?_)
  have hl : lv_has ls 2 [(0, .ref (ad 11 k0)), (1, .int v0)] := hl
  have hb_cn : Hid (CBX cn) := hB
  replace hB : CBXh cn := hB
  refine lv_iconst (v := 0) hx hb dX2_shortOf_0 kic_0 ?_
  refine lv_iload_n hx hb dX2_shortOf_1 rfl (lvA1 hl) ?_
  refine lv_aload_n hx hb dX2_shortOf_2 rfl (lvA0 hl) ?_
  refine gf_RX2_16 S hK hP _ (xf_1 hk) (v := .int ((Fn 122) k0)) rfl dX2_shortOf_3 ?_
  refine lv_isub hx hb dX2_shortOf_6 ?_
  refine lv_iload_n hx hb dX2_shortOf_7 rfl (lvA1 hl) ?_
  refine lv_bipush (v := 10) hx hb dX2_shortOf_8 kbc_10 ?_
  refine lv_idiv hx hb dX2_shortOf_10 (by decide) ?_
  refine lv_isub hx hb dX2_shortOf_11 ?_
  refine va_mmax hx hb (by rw [hml]; exact hl.1.symm) hown (S.2.2.2.2 _ (wk3_1 2 rfl rfl)) (S.2.2.2.2 _ (wk1_3 6 rfl rfl)) (S.2.2.2.2 _ (wk1_0 3 rfl rfl)) (S.2.2.2.2 _ (wk1_3 7 rfl rfl)) (Nat.le_of_ble_eq_true rfl) (Nat.le_of_ble_eq_true rfl) (Nat.le_of_ble_eq_true rfl) (Nat.le_of_ble_eq_true rfl) dX2_shortOf_12 ?_
  exact W.iret (v := (if 0 < ((v0 - ((Fn 122) k0)) - (v0 / 10)) then ((v0 - ((Fn 122) k0)) - (v0 / 10)) else 0)) hx hb hr (fun t ht hW => ⟨(if 0 < ((v0 - ((Fn 122) k0)) - (v0 / 10)) then ((v0 - ((Fn 122) k0)) - (v0 / 10)) else 0), rfl, trivial, ht⟩) (fun _ h => absurd h List.not_mem_nil) dX2_shortOf_15
set_option maxRecDepth 100000 in
set_option maxHeartbeats 4000000 in
theorem q_XfeastedFill (l : Launch) (D : va_G) (cI cB cZ : ClassId) (zz qq vv : Nat) (bt : Nat → Int32) (g : Nat → Nat) (ad : Nat → Nat → Nat) (cn : Nat → Nat) (In : Nat → Int32) (Fn : Nat → Nat → Int32) (k0 j0 a0 b0 : Nat) (hB : CBX cn) (hk : k0 < cn 11) (hj : j0 < cn 10) (ea : Fn 126 k0 = nI a0) (eb : Fn 121 k0 = nI b0) (ha : a0 ≤ 399) (hb0 : b0 ≤ 399) : Met l yX11_feastedFill (CWS yX11_feastedFill cX11_feastedFill 5 (some .int)) (RM 1 0 0) (PBrx [.ref (g 0), .ref (ad 11 k0), .ref (ad 10 j0)] D cI cB cZ zz qq vv bt (wX cI (D.1 99) zz g ad cn In Fn)) (vp_Si (fun _ => True)) 0 0 (fun _ => False) := by
  refine en_rx rfl pn_RX11 (Nat.le_of_ble_eq_true rfl) (fun p e s m below meth c hx hb hml hown S hr hlocks hnm hP hK hXS hS ls hl => ?_)
  have hl : lv_has ls 5 [(0, .ref (g 0)), (1, .ref (ad 11 k0)), (2, .ref (ad 10 j0))] := hl
  have hb_cn : Hid (CBX cn) := hB
  replace hB : CBXh cn := hB
  refine lv_iconst (v := 0) hx hb dX11_feastedFill_0 kic_0 ?_
  refine lv_istore_n (lv' := [(3, .int 0), (0, .ref (g 0)), (1, .ref (ad 11 k0)), (2, .ref (ad 10 j0))]) hx hb dX11_feastedFill_1 rfl hl (ltb rfl) rfl (fun ls hl => ?_)
  refine lv_aload_n hx hb dX11_feastedFill_2 rfl (lvA2 hl) ?_
  refine gf_RX11_128 S hK hP _ (xf_1 hk) (v := .int ((Fn 126) k0)) rfl dX11_feastedFill_3 ?_
  refine lv_topi (fun y_1 ey_1 => ?_)
  obtain rfl : y_1 = (nI a0) := ey_1.trans ea
  refine lv_iconst (v := 1) hx hb dX11_feastedFill_6 kic_1 ?_
  refine lv_iadd hx hb dX11_feastedFill_7 ?_
  refine lv_topi (fun y_2 ey_2 => ?_)
  obtain rfl : y_2 = (nI (a0 + 1)) := ey_2.trans (nI_add a0 1)
  refine lv_istore (lv' := [(4, .int (nI (a0 + 1))), (3, .int 0), (0, .ref (g 0)), (1, .ref (ad 11 k0)), (2, .ref (ad 10 j0))]) hx hb dX11_feastedFill_8 hl (ltb rfl) rfl (fun ls hl => ?_)
  have lp_10 : ∀ (n : Nat) (i10 : Nat) (x10_3 : Int32) , b0 + 1 - i10 < n → ((i10 ≤ 500)) → ∀ ls : Array Slot, lv_has ls 5 [(4, .int (nI i10)), (3, .int x10_3), (0, .ref (g 0)), (1, .ref (ad 11 k0)), (2, .ref (ad 10 j0))] → W p l e (RM 1 0 0) s m ([.ref (g 0), .ref (ad 11 k0), .ref (ad 10 j0)]).toArray below meth c s.heap [] 0 0 (MQ below (vp_Si (fun _ => True)) ([.ref (g 0), .ref (ad 11 k0), .ref (ad 10 j0)]).toArray s 0 0 (fun _ => False)) (F0 m 10 ls []) := by
    intro n10
    induction n10 with
    | zero => intros; (first | omega | (have zz0 := Hid.u hb_cn; omega))
    | succ n10 ih10 =>
      intro i10 x10_3 hmu10 hinv10 ls hl
      have hr10 := hinv10
      have ti10 : (nI i10).toInt = (i10 : Int) := nI_toInt (by (first | omega | (have zz0 := Hid.u hb_cn; omega)))
      refine lv_iload hx hb dX11_feastedFill_10 (lvA0 hl) ?_
      refine lv_aload_n hx hb dX11_feastedFill_12 rfl (lvA3 hl) ?_
      refine gf_RX11_196 S hK hP _ (xf_1 hk) (v := .int ((Fn 121) k0)) rfl dX11_feastedFill_13 ?_
      refine lv_topi (fun y_3 ey_3 => ?_)
      obtain rfl : y_3 = (nI b0) := ey_3.trans eb
      have : (nI b0).toInt = ((b0 : Nat) : Int) := nI_toInt (by (first | omega | (have zz0 := Hid.u hb_cn; omega)))
      refine lv_icmp_gt (tgt := 51) hx hb dX11_feastedFill_16 rfl (fun c_4 => ?_) (fun c_4 => ?_)
      ·
        have tc_4 : ((nI b0).toInt : Int) < (nI i10).toInt := Int32.lt_iff_toInt_lt.mp c_4
        refine lv_iload_n hx hb dX11_feastedFill_51 rfl (lvA1 hl) ?_
        refine lv_aload_n hx hb dX11_feastedFill_52 rfl (lvA4 hl) ?_
        refine gf_RX11_495 S hK hP _ (xf_0 hj) (v := .int ((Fn 103) j0)) rfl dX11_feastedFill_53 ?_
        refine va_mmin hx hb (by rw [hml]; exact hl.1.symm) hown (S.2.2.2.2 _ (wk4_3 7 rfl rfl)) (S.2.2.2.2 _ (wk2_13 10 rfl rfl)) (S.2.2.2.2 _ (wk1_0 3 rfl rfl)) (S.2.2.2.2 _ (wk2_13 11 rfl rfl)) (Nat.le_of_ble_eq_true rfl) (Nat.le_of_ble_eq_true rfl) (Nat.le_of_ble_eq_true rfl) (Nat.le_of_ble_eq_true rfl) dX11_feastedFill_56 ?_
        exact W.iret (v := (if ((Fn 103) j0) < x10_3 then ((Fn 103) j0) else x10_3)) hx hb hr (fun t ht hW => ⟨(if ((Fn 103) j0) < x10_3 then ((Fn 103) j0) else x10_3), rfl, trivial, ht⟩) (fun _ h => absurd h List.not_mem_nil) dX11_feastedFill_59
      ·
        have tc_4 : ((nI i10).toInt : Int) ≤ (nI b0).toInt := Int32.le_iff_toInt_le.mp (Int32.not_lt.mp c_4)
        refine lv_iload_n hx hb dX11_feastedFill_19 rfl (lvA1 hl) ?_
        refine lv_aload_n hx hb dX11_feastedFill_20 rfl (lvA4 hl) ?_
        refine gf_RX11_459 S hK hP _ (xf_0 hj) (v := .int ((Fn 102) j0)) rfl dX11_feastedFill_21 ?_
        refine lv_bipush (v := 100) hx hb dX11_feastedFill_24 kbc_100 ?_
        refine lv_aload_n hx hb dX11_feastedFill_26 rfl (lvA2 hl) ?_
        refine gf_RX11_47 S hK hP 0 xo_0 (v := .ref (g 8)) rfl dX11_feastedFill_27 ?_
        refine gf_RX11_492 S hK hP 6 xo_6 (v := .ref (g 23)) rfl dX11_feastedFill_30 ?_
        refine lv_iload hx hb dX11_feastedFill_33 (lvA0 hl) ?_
        refine vp_callSi (runS_r (As := [.ref (g 23), .int (nI i10)]) (rest := [.int 100, .int ((Fn 102) j0), .int x10_3]) S (q_l_at l D cI cB cZ (g 23) 400 (Fn 23) (nI i10) (by (first | omega | (have zz0 := Hid.u hb_cn; omega)))) kS_RX11_192 hK hP [10] (one_is xo_10) ⟨Nat.le_of_ble_eq_true rfl, Nat.le_of_ble_eq_true rfl⟩ ⟨Nat.le_of_ble_eq_true rfl, Nat.le_of_ble_eq_true rfl⟩ rfl hl.1 rfl (Nat.le_of_ble_eq_true rfl) dX11_feastedFill_35) (fun r_5 h_6 => ?_)
        subst h_6
        refine lv_iadd hx hb dX11_feastedFill_38 ?_
        refine lv_imul hx hb dX11_feastedFill_39 ?_
        refine lv_bipush (v := 100) hx hb dX11_feastedFill_40 kbc_100 ?_
        refine lv_idiv hx hb dX11_feastedFill_42 (by decide) ?_
        refine lv_iadd hx hb dX11_feastedFill_43 ?_
        refine lv_istore_n (lv' := [(3, .int (x10_3 + ((((Fn 102) j0) * (100 + (atM (Fn 23) 400 (nI i10)))) / 100))), (4, .int (nI i10)), (0, .ref (g 0)), (1, .ref (ad 11 k0)), (2, .ref (ad 10 j0))]) hx hb dX11_feastedFill_44 rfl hl (ltb rfl) rfl (fun ls hl => ?_)
        refine lv_iinc (v := (nI (i10 + 1))) (lv' := [(4, .int (nI (i10 + 1))), (3, .int (x10_3 + ((((Fn 102) j0) * (100 + (atM (Fn 23) 400 (nI i10)))) / 100))), (0, .ref (g 0)), (1, .ref (ad 11 k0)), (2, .ref (ad 10 j0))]) hx hb dX11_feastedFill_45 hl (k := 1) rfl (nI_1 _) (ltb rfl) rfl (fun ls hl => ?_)
        refine lv_goto (tgt := 10) hx hb dX11_feastedFill_48 rfl ?_
        exact ih10 (i10 + 1) (x10_3 + ((((Fn 102) j0) * (100 + (atM (Fn 23) 400 (nI i10)))) / 100)) (by (first | omega | (have zz0 := Hid.u hb_cn; omega))) (by (first | omega | (have zz0 := Hid.u hb_cn; omega))) ls (lv_sub hl [0, 1, 2, 3, 4] rfl)
  exact lp_10 _ (a0 + 1) 0 (Nat.lt_succ_self _) (by (first | omega | (have zz0 := Hid.u hb_cn; omega))) ls (lv_sub hl [0, 1, 2, 3, 4] rfl)
set_option maxRecDepth 100000 in
set_option maxHeartbeats 4000000 in
theorem q_Xfeasted (l : Launch) (D : va_G) (cI cB cZ : ClassId) (zz qq vv : Nat) (bt : Nat → Int32) (g : Nat → Nat) (ad : Nat → Nat → Nat) (cn : Nat → Nat) (In : Nat → Int32) (Fn : Nat → Nat → Int32) (v0 v1 : Int32) (hB : CBX cn) (hF : ∀ k : Nat, k < cn 11 → ∃ a b : Nat, a ≤ 399 ∧ b ≤ 399 ∧ Fn 126 k = nI a ∧ Fn 121 k = nI b) : Met l yX11_feasted (CWS yX11_feasted cX11_feasted 6 (some .int)) (RM 4 0 0) (PBrx [.ref (g 0), .int v0, .int v1] D cI cB cZ zz qq vv bt (wX cI (D.1 99) zz g ad cn In Fn)) (vp_Si (fun _ => True)) 0 0 (fun _ => False) := by
  refine en_rx rfl pn_RX11 (Nat.le_of_ble_eq_true rfl) (fun p e s m below meth c hx hb hml hown S hr hlocks hnm hP hK hXS hS ls hl => ?_)
  have hl : lv_has ls 6 [(0, .ref (g 0)), (1, .int v0), (2, .int v1)] := hl
  have hb_cn : Hid (CBX cn) := hB
  replace hB : CBXh cn := hB
  refine lv_aload_n hx hb dX11_feasted_0 rfl (lvA0 hl) ?_
  refine lv_iload_n hx hb dX11_feasted_1 rfl (lvA1 hl) ?_
  refine va_csq (runV_rxa (As := [.int v0]) (rest := []) S (q_XloadAt l D cI cB cZ zz qq vv bt g ad cn In Fn v0 hB) kV_RX11_148 hK hXS hS hP 0 xo_0 rfl rfl ⟨Nat.le_of_ble_eq_true rfl, Nat.le_of_ble_eq_true rfl⟩ ⟨Nat.le_of_ble_eq_true rfl, Nat.le_of_ble_eq_true rfl⟩ rfl hl.1 rfl (Nat.le_of_ble_eq_true rfl) dX11_feasted_2) (fun r_1 h_2 => ?_)
  rcases h_2 with ⟨mr_1, er_1, hr_1, rfl⟩ | ⟨hr_1, rfl⟩
  ·
    refine lv_astore_n (lv' := [(3, .ref (ad 11 mr_1)), (0, .ref (g 0)), (1, .int v0), (2, .int v1)]) hx hb dX11_feasted_5 rfl hl (ltb rfl) rfl (fun ls hl => ?_)
    refine lv_aload_n hx hb dX11_feasted_6 rfl (lvA0 hl) ?_
    refine lv_ifnonnull (tgt := 14) hx hb dX11_feasted_7 rfl ?_
    refine lv_aload_n hx hb dX11_feasted_14 rfl (lvA1 hl) ?_
    refine lv_aload_n hx hb dX11_feasted_15 rfl (lvA0 hl) ?_
    have kf_1 : mr_1 < cn 11 := by (first | omega | (have zz0 := Hid.u hb_cn; omega))
    refine gf_RX11_211 S hK hP _ (xf_1 kf_1) (v := .int ((Fn 120) mr_1)) rfl dX11_feasted_16 ?_
    refine va_csq (runV_rxa (As := [.int ((Fn 120) mr_1)]) (rest := []) S (q_XkitchenAt l D cI cB cZ zz qq vv bt g ad cn In Fn ((Fn 120) mr_1) hB) kV_RX11_114 hK hXS hS hP 0 xo_0 rfl rfl ⟨Nat.le_of_ble_eq_true rfl, Nat.le_of_ble_eq_true rfl⟩ ⟨Nat.le_of_ble_eq_true rfl, Nat.le_of_ble_eq_true rfl⟩ rfl hl.1 rfl (Nat.le_of_ble_eq_true rfl) dX11_feasted_19) (fun r_3 h_4 => ?_)
    rcases h_4 with ⟨mr_3, er_3, hr_3, rfl⟩ | ⟨hr_3, rfl⟩
    ·
      refine lv_astore (lv' := [(4, .ref (ad 10 mr_3)), (3, .ref (ad 11 mr_1)), (0, .ref (g 0)), (1, .int v0), (2, .int v1)]) hx hb dX11_feasted_22 hl (ltb rfl) rfl (fun ls hl => ?_)
      refine lv_aload_n hx hb dX11_feasted_24 rfl (lvA1 hl) ?_
      refine lv_ifnull hx hb dX11_feasted_25 ?_
      refine lv_aload hx hb dX11_feasted_28 (lvA0 hl) ?_
      refine lv_ifnull hx hb dX11_feasted_30 ?_
      refine lv_iload_n hx hb dX11_feasted_33 rfl (lvA4 hl) ?_
      refine lv_iconst (v := 0) hx hb dX11_feasted_34 kic_0 ?_
      refine lv_iconst (v := 1) hx hb dX11_feasted_35 kic_1 ?_
      refine vp_callSi (runS_r (As := [.int v1, .int 0, .int 1]) (rest := []) S (q_l_within l D cI cB cZ v1 0 1) kS_RX11_80 hK hP [] rfl ⟨Nat.le_of_ble_eq_true rfl, Nat.le_of_ble_eq_true rfl⟩ ⟨Nat.le_of_ble_eq_true rfl, Nat.le_of_ble_eq_true rfl⟩ rfl hl.1 rfl (Nat.le_of_ble_eq_true rfl) dX11_feasted_36) (fun r_5 h_6 => ?_)
      rcases h_6 with ⟨rfl, h_6⟩ | ⟨rfl, h_6⟩
      ·
        have h_6 : 0 ≤ v1.toInt ∧ v1.toInt ≤ 1 := h_6
        refine lv_if_ne (tgt := 44) hx hb dX11_feasted_39 rfl (fun _ => ?_) (fun h => absurd h cq_eq_1_0)
        obtain ⟨a9, b9, ha9, hb9, ea9, eb9⟩ := hF mr_1 (by (first | omega | (have zz0 := Hid.u hb_cn; omega)))
        refine lv_aload_n hx hb dX11_feasted_44 rfl (lvA2 hl) ?_
        refine lv_aload_n hx hb dX11_feasted_45 rfl (lvA1 hl) ?_
        refine lv_aload hx hb dX11_feasted_46 (lvA0 hl) ?_
        refine vp_callSi (runV_rxa (As := [.ref (ad 11 mr_1), .ref (ad 10 mr_3)]) (rest := []) S (q_XfeastedFill l D cI cB cZ zz qq vv bt g ad cn In Fn mr_1 mr_3 a9 b9 hB (by (first | omega | (have zz0 := Hid.u hb_cn; omega))) (by (first | omega | (have zz0 := Hid.u hb_cn; omega))) ea9 eb9 ha9 hb9) kV_RX11_498 hK hXS hS hP 0 xo_0 rfl rfl ⟨Nat.le_of_ble_eq_true rfl, Nat.le_of_ble_eq_true rfl⟩ ⟨Nat.le_of_ble_eq_true rfl, Nat.le_of_ble_eq_true rfl⟩ rfl hl.1 rfl (Nat.le_of_ble_eq_true rfl) dX11_feasted_48) (fun r_7 h_8 => ?_)
        refine lv_istore (lv' := [(5, .int r_7), (4, .ref (ad 10 mr_3)), (3, .ref (ad 11 mr_1)), (0, .ref (g 0)), (1, .int v0), (2, .int v1)]) hx hb dX11_feasted_51 hl (ltb rfl) rfl (fun ls hl => ?_)
        refine lv_iload_n hx hb dX11_feasted_53 rfl (lvA5 hl) ?_
        refine lv_if_ne (tgt := 62) hx hb dX11_feasted_54 rfl (fun c_9 => ?_) (fun c_9 => ?_)
        ·
          have tc_9 : (v1.toInt : Int) ≠ 0 := fun q => c_9 (Int32.toInt_inj.mp q)
          refine lv_aload_n hx hb dX11_feasted_62 rfl (lvA2 hl) ?_
          refine lv_iload hx hb dX11_feasted_63 (lvA0 hl) ?_
          refine vp_callSi (runV_rxa (As := [.int r_7]) (rest := []) S (q_XshortOf l D cI cB cZ zz qq vv bt g ad cn In Fn mr_1 r_7 hB (by (first | omega | (have zz0 := Hid.u hb_cn; omega)))) kV_RX11_137 hK hXS hS hP _ (xf_1 kf_1) rfl rfl ⟨Nat.le_of_ble_eq_true rfl, Nat.le_of_ble_eq_true rfl⟩ ⟨Nat.le_of_ble_eq_true rfl, Nat.le_of_ble_eq_true rfl⟩ rfl hl.1 rfl (Nat.le_of_ble_eq_true rfl) dX11_feasted_65) (fun r_10 h_11 => ?_)
          exact W.iret (v := r_10) hx hb hr (fun t ht hW => ⟨r_10, rfl, trivial, ht⟩) (fun _ h => absurd h List.not_mem_nil) dX11_feasted_68
        ·
          have tc_9 : (v1.toInt : Int) = 0 := congrArg Int32.toInt c_9
          refine lv_iload hx hb dX11_feasted_57 (lvA0 hl) ?_
          refine lv_goto (tgt := 68) hx hb dX11_feasted_59 rfl ?_
          exact W.iret (v := r_7) hx hb hr (fun t ht hW => ⟨r_7, rfl, trivial, ht⟩) (fun _ h => absurd h List.not_mem_nil) dX11_feasted_68
      ·
        have h_6 : ¬ (0 ≤ v1.toInt ∧ v1.toInt ≤ 1) := h_6
        refine lv_if_ne (tgt := 44) hx hb dX11_feasted_39 rfl (fun h => absurd h cq_eq_0_0) (fun _ => ?_)
        refine lv_iconst (v := (-1)) hx hb dX11_feasted_42 kic_m1 ?_
        exact W.iret (v := (-1)) hx hb hr (fun t ht hW => ⟨(-1), rfl, trivial, ht⟩) (fun _ h => absurd h List.not_mem_nil) dX11_feasted_43
    ·
      refine lv_astoreN (lv' := [(4, .null), (3, .ref (ad 11 mr_1)), (0, .ref (g 0)), (1, .int v0), (2, .int v1)]) hx hb dX11_feasted_22 hl (ltb rfl) rfl (fun ls hl => ?_)
      refine lv_aload_n hx hb dX11_feasted_24 rfl (lvA1 hl) ?_
      refine lv_ifnull hx hb dX11_feasted_25 ?_
      refine lv_aloadN hx hb dX11_feasted_28 (lvA0 hl) ?_
      refine lv_ifnullN (tgt := 42) hx hb dX11_feasted_30 rfl ?_
      refine lv_iconst (v := (-1)) hx hb dX11_feasted_42 kic_m1 ?_
      exact W.iret (v := (-1)) hx hb hr (fun t ht hW => ⟨(-1), rfl, trivial, ht⟩) (fun _ h => absurd h List.not_mem_nil) dX11_feasted_43
  ·
    refine lv_astore_nN (lv' := [(3, .null), (0, .ref (g 0)), (1, .int v0), (2, .int v1)]) hx hb dX11_feasted_5 rfl hl (ltb rfl) rfl (fun ls hl => ?_)
    refine lv_aload_nN hx hb dX11_feasted_6 rfl (lvA0 hl) ?_
    refine lv_ifnonnullN hx hb dX11_feasted_7 ?_
    refine lv_null hx hb dX11_feasted_10 ?_
    refine lv_goto (tgt := 22) hx hb dX11_feasted_11 rfl ?_
    refine lv_astoreN (lv' := [(4, .null), (3, .null), (0, .ref (g 0)), (1, .int v0), (2, .int v1)]) hx hb dX11_feasted_22 hl (ltb rfl) rfl (fun ls hl => ?_)
    refine lv_aload_nN hx hb dX11_feasted_24 rfl (lvA1 hl) ?_
    refine lv_ifnullN (tgt := 42) hx hb dX11_feasted_25 rfl ?_
    refine lv_iconst (v := (-1)) hx hb dX11_feasted_42 kic_m1 ?_
    exact W.iret (v := (-1)) hx hb hr (fun t ht hW => ⟨(-1), rfl, trivial, ht⟩) (fun _ h => absurd h List.not_mem_nil) dX11_feasted_43
set_option maxRecDepth 100000 in
set_option maxHeartbeats 4000000 in
theorem q_XmoveBy (l : Launch) (D : va_G) (cI cB cZ : ClassId) (zz qq vv : Nat) (bt : Nat → Int32) (g : Nat → Nat) (ad : Nat → Nat → Nat) (cn : Nat → Nat) (In : Nat → Int32) (Fn : Nat → Nat → Int32) (v0 v1 : Int32) (hB : CBX cn) : Met l yX11_moveBy (CWS yX11_moveBy cX11_moveBy 6 (some (.object "OilHome$Move"))) (RM 3 0 0) (PBrx [.ref (g 0), .int v0, .int v1] D cI cB cZ zz qq vv bt (wX cI (D.1 99) zz g ad cn In Fn)) (va_Sq (fun r => (∃ m : Nat, (0 : Int) = 0 ∧ m < cn 15 ∧ r = some (ad 15 m)) ∨ (True ∧ r = none))) 0 0 (fun _ => False) := by
  refine en_rx rfl pn_RX11 (Nat.le_of_ble_eq_true rfl) (fun p e s m below meth c hx hb hml hown S hr hlocks hnm hP hK hXS hS ls hl => ?_)
  have hl : lv_has ls 6 [(0, .ref (g 0)), (1, .int v0), (2, .int v1)] := hl
  have hb_cn : Hid (CBX cn) := hB
  replace hB : CBXh cn := hB
  refine lv_null hx hb dX11_moveBy_0 ?_
  refine lv_astore_nN (lv' := [(3, .null), (0, .ref (g 0)), (1, .int v0), (2, .int v1)]) hx hb dX11_moveBy_1 rfl hl (ltb rfl) rfl (fun ls hl => ?_)
  refine lv_iconst (v := 0) hx hb dX11_moveBy_2 kic_0 ?_
  refine lv_istore (lv' := [(4, .int 0), (3, .null), (0, .ref (g 0)), (1, .int v0), (2, .int v1)]) hx hb dX11_moveBy_3 hl (ltb rfl) rfl (fun ls hl => ?_)
  have lp_5 : ∀ (n : Nat) (i5 : Nat) (x5_3 : Option Nat) , cn 15 - i5 < n → (i5 ≤ cn 15 ∧ (x5_3 = none ∨ ∃ m : Nat, m < cn 15 ∧ x5_3 = some (ad 15 m))) → ∀ ls : Array Slot, lv_has ls 6 [(4, .int (nI i5)), (3, (va_rf x5_3)), (0, .ref (g 0)), (1, .int v0), (2, .int v1)] → W p l e (RM 3 0 0) s m ([.ref (g 0), .int v0, .int v1]).toArray below meth c s.heap [] 0 0 (MQ below (va_Sq (fun r => (∃ m : Nat, (0 : Int) = 0 ∧ m < cn 15 ∧ r = some (ad 15 m)) ∨ (True ∧ r = none))) ([.ref (g 0), .int v0, .int v1]).toArray s 0 0 (fun _ => False)) (F0 m 5 ls []) := by
    intro n5
    induction n5 with
    | zero => intros; (first | omega | (have zz0 := Hid.u hb_cn; omega))
    | succ n5 ih5 =>
      intro i5 x5_3 hmu5 hinv5 ls hl
      obtain ⟨hr5, hx5_0⟩ := hinv5
      have ti5 : (nI i5).toInt = (i5 : Int) := nI_toInt (by (first | omega | (have zz0 := Hid.u hb_cn; omega)))
      refine lv_iload hx hb dX11_moveBy_5 (lvA0 hl) ?_
      refine lv_aload_n hx hb dX11_moveBy_7 rfl (lvA2 hl) ?_
      refine gf_RX11_77 S hK hP 0 xo_0 (v := .ref (g 15)) rfl dX11_moveBy_8 ?_
      refine vp_callSi (runV_r (As := []) (rest := [.int (nI i5)]) S (q_l_size l D cI cB cZ (g 15) (if (cn 15) = 0 then zz else ad 2 5) (In 15) (nI (cn 15))) kV_RX11_84 hK hP [29] (one_is xo_29) 29 xo_29 rfl rfl ⟨Nat.le_of_ble_eq_true rfl, Nat.le_of_ble_eq_true rfl⟩ ⟨Nat.le_of_ble_eq_true rfl, Nat.le_of_ble_eq_true rfl⟩ rfl hl.1 rfl (Nat.le_of_ble_eq_true rfl) dX11_moveBy_11) (fun r_1 h_2 => ?_)
      subst h_2
      have : (nI (cn 15)).toInt = (((cn 15) : Nat) : Int) := nI_toInt (by (first | omega | (have zz0 := Hid.u hb_cn; omega)))
      refine lv_icmp_ge (tgt := 58) hx hb dX11_moveBy_14 rfl (fun c_3 => ?_) (fun c_3 => ?_)
      ·
        have tc_3 : ((nI (cn 15)).toInt : Int) ≤ (nI i5).toInt := Int32.le_iff_toInt_le.mp c_3
        rcases hx5_0 with rfl | ⟨m9, h9, rfl⟩
        ·
          have hl : lv_has ls 6 [(4, .int (nI i5)), (3, .null), (0, .ref (g 0)), (1, .int v0), (2, .int v1)] := hl
          refine lv_aload_nN hx hb dX11_moveBy_58 rfl (lvA1 hl) ?_
          exact W.aret (v := .null) hx hb hr (Or.inl ⟨_, rfl⟩) (Or.inl rfl) (fun t ht hW => ⟨none, rfl, (Or.inr ⟨trivial, rfl⟩), ht⟩) (fun _ h => absurd h List.not_mem_nil) dX11_moveBy_59
        ·
          have hl : lv_has ls 6 [(4, .int (nI i5)), (3, .ref (ad 15 m9)), (0, .ref (g 0)), (1, .int v0), (2, .int v1)] := hl
          refine lv_aload_n hx hb dX11_moveBy_58 rfl (lvA1 hl) ?_
          exact W.aret (v := .ref (ad 15 m9)) hx hb hr (Or.inl ⟨_, rfl⟩) (Or.inr ⟨_, rfl⟩) (fun t ht hW => ⟨some (ad 15 m9), rfl, (Or.inl ⟨m9, rfl, h9, rfl⟩), ht⟩) (fun _ h => absurd h List.not_mem_nil) dX11_moveBy_59
      ·
        have tc_3 : ((nI i5).toInt : Int) < (nI (cn 15)).toInt := Int32.lt_iff_toInt_lt.mp (Int32.not_le.mp c_3)
        refine lv_aload_n hx hb dX11_moveBy_17 rfl (lvA2 hl) ?_
        refine gf_RX11_77 S hK hP 0 xo_0 (v := .ref (g 15)) rfl dX11_moveBy_18 ?_
        refine lv_iload hx hb dX11_moveBy_21 (lvA0 hl) ?_
        refine va_csq (runV_rx (As := [.int (nI i5)]) (rest := []) S (q_l_get l D cI cB cZ zz qq vv bt (g 15) (ad 2 5) (cn 25) (cn 15) i5 (ad 15 i5) (In 15) (fun i => if i < (cn 15) then some (ad 15 i) else none) (by (first | omega | (have zz0 := Hid.u hb_cn; omega))) (if_pos (by (first | omega | (have zz0 := Hid.u hb_cn; omega)))) (by (first | omega | (have zz0 := Hid.u hb_cn; omega))) (by (first | omega | (have zz0 := Hid.u hb_cn; omega)))) kV_RX11_87 hK hXS hS hP _ (two_is (xl_5 (by (first | omega | (have zz0 := Hid.u hb_cn; omega)))) (xf_18 (k := 0) (by (first | omega | (have zz0 := Hid.u hb_cn; omega))))) (va_recv hK.1 hP (ci := 0) rfl xo_29) ⟨Nat.le_of_ble_eq_true rfl, Nat.le_of_ble_eq_true rfl⟩ ⟨Nat.le_of_ble_eq_true rfl, Nat.le_of_ble_eq_true rfl⟩ rfl hl.1 rfl (Nat.le_of_ble_eq_true rfl) dX11_moveBy_23) (fun r_4 h_5 => ?_)
        subst h_5
        have kf_1 : i5 < cn 15 := by (first | omega | (have zz0 := Hid.u hb_cn; omega))
        refine va_castS hx hb hown (S.2.2.2.2 _ (wk6_3 3 rfl rfl)) (xclass hK.1 (ci := 4) rfl) (va_recv hK.1 hP (ci := 4) rfl (xf_5 kf_1)) dX11_moveBy_26 ?_
        refine lv_astore (lv' := [(5, .ref (ad 15 i5)), (4, .int (nI i5)), (3, (va_rf x5_3)), (0, .ref (g 0)), (1, .int v0), (2, .int v1)]) hx hb dX11_moveBy_29 hl (ltb rfl) rfl (fun ls hl => ?_)
        refine lv_aload hx hb dX11_moveBy_31 (lvA0 hl) ?_
        refine gf_RX11_507 S hK hP _ (xf_5 kf_1) (v := .int ((Fn 180) i5)) rfl dX11_moveBy_33 ?_
        refine lv_iload_n hx hb dX11_moveBy_36 rfl (lvA4 hl) ?_
        refine lv_icmp_ne (tgt := 52) hx hb dX11_moveBy_37 rfl (fun c_6 => ?_) (fun c_6 => ?_)
        ·
          have tc_6 : (((Fn 180) i5).toInt : Int) ≠ v0.toInt := fun q => c_6 (Int32.toInt_inj.mp q)
          rcases hx5_0 with rfl | ⟨m9, h9, rfl⟩
          ·
            have hl : lv_has ls 6 [(5, .ref (ad 15 i5)), (4, .int (nI i5)), (3, .null), (0, .ref (g 0)), (1, .int v0), (2, .int v1)] := hl
            refine lv_iinc (v := (nI (i5 + 1))) (lv' := [(4, .int (nI (i5 + 1))), (5, .ref (ad 15 i5)), (3, .null), (0, .ref (g 0)), (1, .int v0), (2, .int v1)]) hx hb dX11_moveBy_52 hl (k := 1) rfl (nI_1 _) (ltb rfl) rfl (fun ls hl => ?_)
            refine lv_goto (tgt := 5) hx hb dX11_moveBy_55 rfl ?_
            exact ih5 (i5 + 1) none (by (first | omega | (have zz0 := Hid.u hb_cn; omega))) ⟨(by (first | omega | (have zz0 := Hid.u hb_cn; omega))), (Or.inl rfl)⟩ ls (lv_sub hl [0, 2, 3, 4, 5] rfl)
          ·
            have hl : lv_has ls 6 [(5, .ref (ad 15 i5)), (4, .int (nI i5)), (3, .ref (ad 15 m9)), (0, .ref (g 0)), (1, .int v0), (2, .int v1)] := hl
            refine lv_iinc (v := (nI (i5 + 1))) (lv' := [(4, .int (nI (i5 + 1))), (5, .ref (ad 15 i5)), (3, .ref (ad 15 m9)), (0, .ref (g 0)), (1, .int v0), (2, .int v1)]) hx hb dX11_moveBy_52 hl (k := 1) rfl (nI_1 _) (ltb rfl) rfl (fun ls hl => ?_)
            refine lv_goto (tgt := 5) hx hb dX11_moveBy_55 rfl ?_
            exact ih5 (i5 + 1) (some (ad 15 m9)) (by (first | omega | (have zz0 := Hid.u hb_cn; omega))) ⟨(by (first | omega | (have zz0 := Hid.u hb_cn; omega))), (Or.inr ⟨m9, h9, rfl⟩)⟩ ls (lv_sub hl [0, 2, 3, 4, 5] rfl)
        ·
          have tc_6 : (((Fn 180) i5).toInt : Int) = v0.toInt := congrArg Int32.toInt c_6
          refine lv_aload hx hb dX11_moveBy_40 (lvA0 hl) ?_
          refine gf_RX11_508 S hK hP _ (xf_5 kf_1) (v := .int ((Fn 182) i5)) rfl dX11_moveBy_42 ?_
          refine lv_iload_n hx hb dX11_moveBy_45 rfl (lvA5 hl) ?_
          refine lv_icmp_gt (tgt := 52) hx hb dX11_moveBy_46 rfl (fun c_7 => ?_) (fun c_7 => ?_)
          ·
            have tc_7 : (v1.toInt : Int) < ((Fn 182) i5).toInt := Int32.lt_iff_toInt_lt.mp c_7
            rcases hx5_0 with rfl | ⟨m9, h9, rfl⟩
            ·
              have hl : lv_has ls 6 [(5, .ref (ad 15 i5)), (4, .int (nI i5)), (3, .null), (0, .ref (g 0)), (1, .int v0), (2, .int v1)] := hl
              refine lv_iinc (v := (nI (i5 + 1))) (lv' := [(4, .int (nI (i5 + 1))), (5, .ref (ad 15 i5)), (3, .null), (0, .ref (g 0)), (1, .int v0), (2, .int v1)]) hx hb dX11_moveBy_52 hl (k := 1) rfl (nI_1 _) (ltb rfl) rfl (fun ls hl => ?_)
              refine lv_goto (tgt := 5) hx hb dX11_moveBy_55 rfl ?_
              exact ih5 (i5 + 1) none (by (first | omega | (have zz0 := Hid.u hb_cn; omega))) ⟨(by (first | omega | (have zz0 := Hid.u hb_cn; omega))), (Or.inl rfl)⟩ ls (lv_sub hl [0, 2, 3, 4, 5] rfl)
            ·
              have hl : lv_has ls 6 [(5, .ref (ad 15 i5)), (4, .int (nI i5)), (3, .ref (ad 15 m9)), (0, .ref (g 0)), (1, .int v0), (2, .int v1)] := hl
              refine lv_iinc (v := (nI (i5 + 1))) (lv' := [(4, .int (nI (i5 + 1))), (5, .ref (ad 15 i5)), (3, .ref (ad 15 m9)), (0, .ref (g 0)), (1, .int v0), (2, .int v1)]) hx hb dX11_moveBy_52 hl (k := 1) rfl (nI_1 _) (ltb rfl) rfl (fun ls hl => ?_)
              refine lv_goto (tgt := 5) hx hb dX11_moveBy_55 rfl ?_
              exact ih5 (i5 + 1) (some (ad 15 m9)) (by (first | omega | (have zz0 := Hid.u hb_cn; omega))) ⟨(by (first | omega | (have zz0 := Hid.u hb_cn; omega))), (Or.inr ⟨m9, h9, rfl⟩)⟩ ls (lv_sub hl [0, 2, 3, 4, 5] rfl)
          ·
            have tc_7 : (((Fn 182) i5).toInt : Int) ≤ v1.toInt := Int32.le_iff_toInt_le.mp (Int32.not_lt.mp c_7)
            refine lv_aload hx hb dX11_moveBy_49 (lvA0 hl) ?_
            refine lv_astore_n (lv' := [(3, .ref (ad 15 i5)), (5, .ref (ad 15 i5)), (4, .int (nI i5)), (0, .ref (g 0)), (1, .int v0), (2, .int v1)]) hx hb dX11_moveBy_51 rfl hl (ltb rfl) rfl (fun ls hl => ?_)
            refine lv_iinc (v := (nI (i5 + 1))) (lv' := [(4, .int (nI (i5 + 1))), (3, .ref (ad 15 i5)), (5, .ref (ad 15 i5)), (0, .ref (g 0)), (1, .int v0), (2, .int v1)]) hx hb dX11_moveBy_52 hl (k := 2) rfl (nI_1 _) (ltb rfl) rfl (fun ls hl => ?_)
            refine lv_goto (tgt := 5) hx hb dX11_moveBy_55 rfl ?_
            exact ih5 (i5 + 1) (some (ad 15 i5)) (by (first | omega | (have zz0 := Hid.u hb_cn; omega))) ⟨(by (first | omega | (have zz0 := Hid.u hb_cn; omega))), (Or.inr ⟨i5, by (first | omega | (have zz0 := Hid.u hb_cn; omega)), rfl⟩)⟩ ls (lv_sub hl [0, 1, 3, 4, 5] rfl)
  exact lp_5 _ 0 none (Nat.lt_succ_self _) ⟨(by (first | omega | (have zz0 := Hid.u hb_cn; omega))), (Or.inl rfl)⟩ ls (lv_sub hl [0, 1, 2, 3, 4] rfl)
set_option maxRecDepth 100000 in
set_option maxHeartbeats 4000000 in
theorem q_Xstood (l : Launch) (D : va_G) (cI cB cZ : ClassId) (zz qq vv : Nat) (bt : Nat → Int32) (g : Nat → Nat) (ad : Nat → Nat → Nat) (cn : Nat → Nat) (In : Nat → Int32) (Fn : Nat → Nat → Int32) (v0 v1 : Int32) (hB : CBX cn) : Met l yX11_stood (CWS yX11_stood cX11_stood 4 (some .int)) (RM 4 0 0) (PBrx [.ref (g 0), .int v0, .int v1] D cI cB cZ zz qq vv bt (wX cI (D.1 99) zz g ad cn In Fn)) (vp_Si (fun _ => True)) 0 0 (fun _ => False) := by
  refine en_rx rfl pn_RX11 (Nat.le_of_ble_eq_true rfl) (fun p e s m below meth c hx hb hml hown S hr hlocks hnm hP hK hXS hS ls hl => ?_)
  have hl : lv_has ls 4 [(0, .ref (g 0)), (1, .int v0), (2, .int v1)] := hl
  have hb_cn : Hid (CBX cn) := hB
  replace hB : CBXh cn := hB
  refine lv_iload_n hx hb dX11_stood_0 rfl (lvA1 hl) ?_
  refine lv_iconst (v := 0) hx hb dX11_stood_1 kic_0 ?_
  refine lv_aload_n hx hb dX11_stood_2 rfl (lvA0 hl) ?_
  refine gf_RX11_502 S hK hP 0 xo_0 (v := .int (nI (cn 2))) rfl dX11_stood_3 ?_
  refine lv_iconst (v := 1) hx hb dX11_stood_6 kic_1 ?_
  refine lv_isub hx hb dX11_stood_7 ?_
  refine vp_callSi (runS_r (As := [.int v0, .int 0, .int ((nI (cn 2)) - 1)]) (rest := []) S (q_l_within l D cI cB cZ v0 0 ((nI (cn 2)) - 1)) kS_RX11_80 hK hP [] rfl ⟨Nat.le_of_ble_eq_true rfl, Nat.le_of_ble_eq_true rfl⟩ ⟨Nat.le_of_ble_eq_true rfl, Nat.le_of_ble_eq_true rfl⟩ rfl hl.1 rfl (Nat.le_of_ble_eq_true rfl) dX11_stood_8) (fun r_1 h_2 => ?_)
  rcases h_2 with ⟨rfl, h_2⟩ | ⟨rfl, h_2⟩
  ·
    have h_2 : 0 ≤ v0.toInt ∧ v0.toInt ≤ ((nI (cn 2)) - 1).toInt := h_2
    refine lv_if_eq (tgt := 21) hx hb dX11_stood_11 rfl (fun h => absurd h cq_eq_1_0) (fun _ => ?_)
    refine lv_iload_n hx hb dX11_stood_14 rfl (lvA2 hl) ?_
    refine vp_callSi (runS_r (As := [.int v1]) (rest := []) S (q_l_isDay l D cI cB cZ v1) kS_RX11_99 hK hP [] rfl ⟨Nat.le_of_ble_eq_true rfl, Nat.le_of_ble_eq_true rfl⟩ ⟨Nat.le_of_ble_eq_true rfl, Nat.le_of_ble_eq_true rfl⟩ rfl hl.1 rfl (Nat.le_of_ble_eq_true rfl) dX11_stood_15) (fun r_3 h_4 => ?_)
    rcases h_4 with ⟨rfl, h_4⟩ | ⟨rfl, h_4⟩
    ·
      have h_4 : 0 ≤ v1.toInt ∧ v1.toInt ≤ 399 := h_4
      refine lv_if_ne (tgt := 23) hx hb dX11_stood_18 rfl (fun _ => ?_) (fun h => absurd h cq_eq_1_0)
      refine lv_aload_n hx hb dX11_stood_23 rfl (lvA0 hl) ?_
      refine lv_iload_n hx hb dX11_stood_24 rfl (lvA1 hl) ?_
      refine lv_iload_n hx hb dX11_stood_25 rfl (lvA2 hl) ?_
      refine va_csq (runV_rxa (As := [.int v0, .int v1]) (rest := []) S (q_XmoveBy l D cI cB cZ zz qq vv bt g ad cn In Fn v0 v1 hB) kV_RX11_509 hK hXS hS hP 0 xo_0 rfl rfl ⟨Nat.le_of_ble_eq_true rfl, Nat.le_of_ble_eq_true rfl⟩ ⟨Nat.le_of_ble_eq_true rfl, Nat.le_of_ble_eq_true rfl⟩ rfl hl.1 rfl (Nat.le_of_ble_eq_true rfl) dX11_stood_26) (fun r_5 h_6 => ?_)
      rcases h_6 with ⟨mr_5, er_5, hr_5, rfl⟩ | ⟨hr_5, rfl⟩
      ·
        refine lv_astore_n (lv' := [(3, .ref (ad 15 mr_5)), (0, .ref (g 0)), (1, .int v0), (2, .int v1)]) hx hb dX11_stood_29 rfl hl (ltb rfl) rfl (fun ls hl => ?_)
        refine lv_aload_n hx hb dX11_stood_30 rfl (lvA0 hl) ?_
        refine lv_ifnull hx hb dX11_stood_31 ?_
        refine lv_aload_n hx hb dX11_stood_34 rfl (lvA0 hl) ?_
        have kf_1 : mr_5 < cn 15 := by (first | omega | (have zz0 := Hid.u hb_cn; omega))
        refine gf_RX11_516 S hK hP _ (xf_5 kf_1) (v := .int ((Fn 181) mr_5)) rfl dX11_stood_35 ?_
        refine lv_iconst (v := (-1)) hx hb dX11_stood_38 kic_m1 ?_
        refine lv_icmp_ne (tgt := 47) hx hb dX11_stood_39 rfl (fun c_7 => ?_) (fun c_7 => ?_)
        ·
          have tc_7 : (((Fn 181) mr_5).toInt : Int) ≠ (-1) := fun q => c_7 (Int32.toInt_inj.mp q)
          refine lv_aload_n hx hb dX11_stood_47 rfl (lvA0 hl) ?_
          refine gf_RX11_516 S hK hP _ (xf_5 kf_1) (v := .int ((Fn 181) mr_5)) rfl dX11_stood_48 ?_
          exact W.iret (v := ((Fn 181) mr_5)) hx hb hr (fun t ht hW => ⟨((Fn 181) mr_5), rfl, trivial, ht⟩) (fun _ h => absurd h List.not_mem_nil) dX11_stood_51
        ·
          have tc_7 : (((Fn 181) mr_5).toInt : Int) = (-1) := congrArg Int32.toInt c_7
          refine lv_bipush (v := (-2)) hx hb dX11_stood_42 kbc_m2 ?_
          refine lv_goto (tgt := 51) hx hb dX11_stood_44 rfl ?_
          exact W.iret (v := (-2)) hx hb hr (fun t ht hW => ⟨(-2), rfl, trivial, ht⟩) (fun _ h => absurd h List.not_mem_nil) dX11_stood_51
      ·
        refine lv_astore_nN (lv' := [(3, .null), (0, .ref (g 0)), (1, .int v0), (2, .int v1)]) hx hb dX11_stood_29 rfl hl (ltb rfl) rfl (fun ls hl => ?_)
        refine lv_aload_nN hx hb dX11_stood_30 rfl (lvA0 hl) ?_
        refine lv_ifnullN (tgt := 42) hx hb dX11_stood_31 rfl ?_
        refine lv_bipush (v := (-2)) hx hb dX11_stood_42 kbc_m2 ?_
        refine lv_goto (tgt := 51) hx hb dX11_stood_44 rfl ?_
        exact W.iret (v := (-2)) hx hb hr (fun t ht hW => ⟨(-2), rfl, trivial, ht⟩) (fun _ h => absurd h List.not_mem_nil) dX11_stood_51
    ·
      have h_4 : ¬ (0 ≤ v1.toInt ∧ v1.toInt ≤ 399) := h_4
      refine lv_if_ne (tgt := 23) hx hb dX11_stood_18 rfl (fun h => absurd h cq_eq_0_0) (fun _ => ?_)
      refine lv_iconst (v := (-1)) hx hb dX11_stood_21 kic_m1 ?_
      exact W.iret (v := (-1)) hx hb hr (fun t ht hW => ⟨(-1), rfl, trivial, ht⟩) (fun _ h => absurd h List.not_mem_nil) dX11_stood_22
  ·
    have h_2 : ¬ (0 ≤ v0.toInt ∧ v0.toInt ≤ ((nI (cn 2)) - 1).toInt) := h_2
    refine lv_if_eq (tgt := 21) hx hb dX11_stood_11 rfl (fun _ => ?_) (fun h => absurd h cq_eq_0_0)
    refine lv_iconst (v := (-1)) hx hb dX11_stood_21 kic_m1 ?_
    exact W.iret (v := (-1)) hx hb hr (fun t ht hW => ⟨(-1), rfl, trivial, ht⟩) (fun _ h => absurd h List.not_mem_nil) dX11_stood_22
set_option maxRecDepth 100000 in
set_option maxHeartbeats 4000000 in
theorem q_Xstale (l : Launch) (D : va_G) (cI cB cZ : ClassId) (zz qq vv : Nat) (bt : Nat → Int32) (g : Nat → Nat) (ad : Nat → Nat → Nat) (cn : Nat → Nat) (In : Nat → Int32) (Fn : Nat → Nat → Int32) (v0 : Int32) (hB : CBX cn) : Met l yX11_stale (CWS yX11_stale cX11_stale 6 (some .int)) (RM 4 0 0) (PBrx [.ref (g 0), .int v0] D cI cB cZ zz qq vv bt (wX cI (D.1 99) zz g ad cn In Fn)) (vp_Si (fun _ => True)) 0 0 (fun _ => False) := by
  refine en_rx rfl pn_RX11 (Nat.le_of_ble_eq_true rfl) (fun p e s m below meth c hx hb hml hown S hr hlocks hnm hP hK hXS hS ls hl => ?_)
  have hl : lv_has ls 6 [(0, .ref (g 0)), (1, .int v0)] := hl
  have hb_cn : Hid (CBX cn) := hB
  replace hB : CBXh cn := hB
  refine lv_iload_n hx hb dX11_stale_0 rfl (lvA1 hl) ?_
  refine lv_iconst (v := 0) hx hb dX11_stale_1 kic_0 ?_
  refine lv_sipush (v := 399) hx hb dX11_stale_2 (by decide) ?_
  refine vp_callSi (runS_r (As := [.int v0, .int 0, .int 399]) (rest := []) S (q_l_within l D cI cB cZ v0 0 399) kS_RX11_80 hK hP [] rfl ⟨Nat.le_of_ble_eq_true rfl, Nat.le_of_ble_eq_true rfl⟩ ⟨Nat.le_of_ble_eq_true rfl, Nat.le_of_ble_eq_true rfl⟩ rfl hl.1 rfl (Nat.le_of_ble_eq_true rfl) dX11_stale_5) (fun r_1 h_2 => ?_)
  rcases h_2 with ⟨rfl, h_2⟩ | ⟨rfl, h_2⟩
  ·
    have h_2 : 0 ≤ v0.toInt ∧ v0.toInt ≤ 399 := h_2
    refine lv_if_ne (tgt := 13) hx hb dX11_stale_8 rfl (fun _ => ?_) (fun h => absurd h cq_eq_1_0)
    refine lv_iconst (v := 0) hx hb dX11_stale_13 kic_0 ?_
    refine lv_istore_n (lv' := [(2, .int 0), (0, .ref (g 0)), (1, .int v0)]) hx hb dX11_stale_14 rfl hl (ltb rfl) rfl (fun ls hl => ?_)
    refine lv_iconst (v := 0) hx hb dX11_stale_15 kic_0 ?_
    refine lv_istore_n (lv' := [(3, .int 0), (2, .int 0), (0, .ref (g 0)), (1, .int v0)]) hx hb dX11_stale_16 rfl hl (ltb rfl) rfl (fun ls hl => ?_)
    have lp_17 : ∀ (n : Nat) (i17 : Nat) (x17_2 : Int32) , cn 2 - i17 < n → (i17 ≤ cn 2) → ∀ ls : Array Slot, lv_has ls 6 [(3, .int (nI i17)), (2, .int x17_2), (0, .ref (g 0)), (1, .int v0)] → W p l e (RM 4 0 0) s m ([.ref (g 0), .int v0]).toArray below meth c s.heap [] 0 0 (MQ below (vp_Si (fun _ => True)) ([.ref (g 0), .int v0]).toArray s 0 0 (fun _ => False)) (F0 m 17 ls []) := by
      intro n17
      induction n17 with
      | zero => intros; (first | omega | (have zz0 := Hid.u hb_cn; omega))
      | succ n17 ih17 =>
        intro i17 x17_2 hmu17 hinv17 ls hl
        have hr17 := hinv17
        have ti17 : (nI i17).toInt = (i17 : Int) := nI_toInt (by (first | omega | (have zz0 := Hid.u hb_cn; omega)))
        refine lv_iload_n hx hb dX11_stale_17 rfl (lvA0 hl) ?_
        refine lv_aload_n hx hb dX11_stale_18 rfl (lvA2 hl) ?_
        refine gf_RX11_502 S hK hP 0 xo_0 (v := .int (nI (cn 2))) rfl dX11_stale_19 ?_
        have : (nI (cn 2)).toInt = (((cn 2) : Nat) : Int) := nI_toInt (by (first | omega | (have zz0 := Hid.u hb_cn; omega)))
        refine lv_icmp_ge (tgt := 92) hx hb dX11_stale_22 rfl (fun c_3 => ?_) (fun c_3 => ?_)
        ·
          have tc_3 : ((nI (cn 2)).toInt : Int) ≤ (nI i17).toInt := Int32.le_iff_toInt_le.mp c_3
          refine lv_iload_n hx hb dX11_stale_92 rfl (lvA1 hl) ?_
          exact W.iret (v := x17_2) hx hb hr (fun t ht hW => ⟨x17_2, rfl, trivial, ht⟩) (fun _ h => absurd h List.not_mem_nil) dX11_stale_93
        ·
          have tc_3 : ((nI i17).toInt : Int) < (nI (cn 2)).toInt := Int32.lt_iff_toInt_lt.mp (Int32.not_le.mp c_3)
          refine lv_aload_n hx hb dX11_stale_25 rfl (lvA2 hl) ?_
          refine lv_iload_n hx hb dX11_stale_26 rfl (lvA0 hl) ?_
          refine lv_aload_n hx hb dX11_stale_27 rfl (lvA2 hl) ?_
          refine gf_RX11_103 S hK hP 0 xo_0 (v := .int (nI (cn 0))) rfl dX11_stale_28 ?_
          refine va_csq (runV_rxa (As := [.int (nI i17), .int (nI (cn 0))]) (rest := []) S (q_XmoveBy l D cI cB cZ zz qq vv bt g ad cn In Fn (nI i17) (nI (cn 0)) hB) kV_RX11_509 hK hXS hS hP 0 xo_0 rfl rfl ⟨Nat.le_of_ble_eq_true rfl, Nat.le_of_ble_eq_true rfl⟩ ⟨Nat.le_of_ble_eq_true rfl, Nat.le_of_ble_eq_true rfl⟩ rfl hl.1 rfl (Nat.le_of_ble_eq_true rfl) dX11_stale_31) (fun r_4 h_5 => ?_)
          rcases h_5 with ⟨mr_4, er_4, hr_4, rfl⟩ | ⟨hr_4, rfl⟩
          ·
            refine lv_astore (lv' := [(4, .ref (ad 15 mr_4)), (3, .int (nI i17)), (2, .int x17_2), (0, .ref (g 0)), (1, .int v0)]) hx hb dX11_stale_34 hl (ltb rfl) rfl (fun ls hl => ?_)
            refine lv_aload hx hb dX11_stale_36 (lvA0 hl) ?_
            refine lv_ifnull hx hb dX11_stale_38 ?_
            refine lv_aload hx hb dX11_stale_41 (lvA0 hl) ?_
            have kf_1 : mr_4 < cn 15 := by (first | omega | (have zz0 := Hid.u hb_cn; omega))
            refine gf_RX11_516 S hK hP _ (xf_5 kf_1) (v := .int ((Fn 181) mr_4)) rfl dX11_stale_43 ?_
            refine lv_iconst (v := (-1)) hx hb dX11_stale_46 kic_m1 ?_
            refine lv_icmp_eq (tgt := 54) hx hb dX11_stale_47 rfl (fun c_6 => ?_) (fun c_6 => ?_)
            ·
              have tc_6 : (((Fn 181) mr_4).toInt : Int) = (-1) := congrArg Int32.toInt c_6
              refine lv_iconst (v := 0) hx hb dX11_stale_54 kic_0 ?_
              refine lv_istore (lv' := [(5, .int 0), (4, .ref (ad 15 mr_4)), (3, .int (nI i17)), (2, .int x17_2), (0, .ref (g 0)), (1, .int v0)]) hx hb dX11_stale_55 hl (ltb rfl) rfl (fun ls hl => ?_)
              refine lv_iload_n hx hb dX11_stale_57 rfl (lvA3 hl) ?_
              refine lv_iload hx hb dX11_stale_58 (lvA0 hl) ?_
              refine lv_if_eq (tgt := 83) hx hb dX11_stale_60 rfl (fun _ => ?_) (fun h => absurd h cq_eq_0_0)
              refine lv_iconst (v := 0) hx hb dX11_stale_83 kic_0 ?_
              refine lv_ior hx hb dX11_stale_84 ?_
              refine lv_istore_n (lv' := [(2, .int (x17_2 ||| 0)), (5, .int 0), (4, .ref (ad 15 mr_4)), (3, .int (nI i17)), (0, .ref (g 0)), (1, .int v0)]) hx hb dX11_stale_85 rfl hl (ltb rfl) rfl (fun ls hl => ?_)
              refine lv_iinc (v := (nI (i17 + 1))) (lv' := [(3, .int (nI (i17 + 1))), (2, .int (x17_2 ||| 0)), (5, .int 0), (4, .ref (ad 15 mr_4)), (0, .ref (g 0)), (1, .int v0)]) hx hb dX11_stale_86 hl (k := 3) rfl (nI_1 _) (ltb rfl) rfl (fun ls hl => ?_)
              refine lv_goto (tgt := 17) hx hb dX11_stale_89 rfl ?_
              exact ih17 (i17 + 1) (x17_2 ||| 0) (by (first | omega | (have zz0 := Hid.u hb_cn; omega))) (by (first | omega | (have zz0 := Hid.u hb_cn; omega))) ls (lv_sub hl [0, 1, 4, 5] rfl)
            ·
              have tc_6 : (((Fn 181) mr_4).toInt : Int) ≠ (-1) := fun q => c_6 (Int32.toInt_inj.mp q)
              refine lv_iconst (v := 1) hx hb dX11_stale_50 kic_1 ?_
              refine lv_goto (tgt := 55) hx hb dX11_stale_51 rfl ?_
              refine lv_istore (lv' := [(5, .int 1), (4, .ref (ad 15 mr_4)), (3, .int (nI i17)), (2, .int x17_2), (0, .ref (g 0)), (1, .int v0)]) hx hb dX11_stale_55 hl (ltb rfl) rfl (fun ls hl => ?_)
              refine lv_iload_n hx hb dX11_stale_57 rfl (lvA3 hl) ?_
              refine lv_iload hx hb dX11_stale_58 (lvA0 hl) ?_
              refine lv_if_eq (tgt := 83) hx hb dX11_stale_60 rfl (fun h => absurd h cq_eq_1_0) (fun _ => ?_)
              refine lv_aload_n hx hb dX11_stale_63 rfl (lvA4 hl) ?_
              refine gf_RX11_103 S hK hP 0 xo_0 (v := .int (nI (cn 0))) rfl dX11_stale_64 ?_
              refine lv_aload hx hb dX11_stale_67 (lvA1 hl) ?_
              refine gf_RX11_508 S hK hP _ (xf_5 kf_1) (v := .int ((Fn 182) mr_4)) rfl dX11_stale_69 ?_
              refine lv_isub hx hb dX11_stale_72 ?_
              refine lv_iload_n hx hb dX11_stale_73 rfl (lvA5 hl) ?_
              refine lv_icmp_lt (tgt := 83) hx hb dX11_stale_74 rfl (fun c_7 => ?_) (fun c_7 => ?_)
              ·
                have tc_7 : (((nI (cn 0)) - ((Fn 182) mr_4)).toInt : Int) < v0.toInt := Int32.lt_iff_toInt_lt.mp c_7
                refine lv_iconst (v := 0) hx hb dX11_stale_83 kic_0 ?_
                refine lv_ior hx hb dX11_stale_84 ?_
                refine lv_istore_n (lv' := [(2, .int (x17_2 ||| 0)), (5, .int 1), (4, .ref (ad 15 mr_4)), (3, .int (nI i17)), (0, .ref (g 0)), (1, .int v0)]) hx hb dX11_stale_85 rfl hl (ltb rfl) rfl (fun ls hl => ?_)
                refine lv_iinc (v := (nI (i17 + 1))) (lv' := [(3, .int (nI (i17 + 1))), (2, .int (x17_2 ||| 0)), (5, .int 1), (4, .ref (ad 15 mr_4)), (0, .ref (g 0)), (1, .int v0)]) hx hb dX11_stale_86 hl (k := 3) rfl (nI_1 _) (ltb rfl) rfl (fun ls hl => ?_)
                refine lv_goto (tgt := 17) hx hb dX11_stale_89 rfl ?_
                exact ih17 (i17 + 1) (x17_2 ||| 0) (by (first | omega | (have zz0 := Hid.u hb_cn; omega))) (by (first | omega | (have zz0 := Hid.u hb_cn; omega))) ls (lv_sub hl [0, 1, 4, 5] rfl)
              ·
                have tc_7 : (v0.toInt : Int) ≤ ((nI (cn 0)) - ((Fn 182) mr_4)).toInt := Int32.le_iff_toInt_le.mp (Int32.not_lt.mp c_7)
                refine lv_iconst (v := 1) hx hb dX11_stale_77 kic_1 ?_
                refine lv_iload_n hx hb dX11_stale_78 rfl (lvA2 hl) ?_
                refine lv_ishl hx hb dX11_stale_79 ?_
                refine lv_goto (tgt := 84) hx hb dX11_stale_80 rfl ?_
                refine lv_ior hx hb dX11_stale_84 ?_
                refine lv_istore_n (lv' := [(2, .int (x17_2 ||| (1 <<< ((nI i17) &&& 31)))), (5, .int 1), (4, .ref (ad 15 mr_4)), (3, .int (nI i17)), (0, .ref (g 0)), (1, .int v0)]) hx hb dX11_stale_85 rfl hl (ltb rfl) rfl (fun ls hl => ?_)
                refine lv_iinc (v := (nI (i17 + 1))) (lv' := [(3, .int (nI (i17 + 1))), (2, .int (x17_2 ||| (1 <<< ((nI i17) &&& 31)))), (5, .int 1), (4, .ref (ad 15 mr_4)), (0, .ref (g 0)), (1, .int v0)]) hx hb dX11_stale_86 hl (k := 3) rfl (nI_1 _) (ltb rfl) rfl (fun ls hl => ?_)
                refine lv_goto (tgt := 17) hx hb dX11_stale_89 rfl ?_
                exact ih17 (i17 + 1) (x17_2 ||| (1 <<< ((nI i17) &&& 31))) (by (first | omega | (have zz0 := Hid.u hb_cn; omega))) (by (first | omega | (have zz0 := Hid.u hb_cn; omega))) ls (lv_sub hl [0, 1, 4, 5] rfl)
          ·
            refine lv_astoreN (lv' := [(4, .null), (3, .int (nI i17)), (2, .int x17_2), (0, .ref (g 0)), (1, .int v0)]) hx hb dX11_stale_34 hl (ltb rfl) rfl (fun ls hl => ?_)
            refine lv_aloadN hx hb dX11_stale_36 (lvA0 hl) ?_
            refine lv_ifnullN (tgt := 54) hx hb dX11_stale_38 rfl ?_
            refine lv_iconst (v := 0) hx hb dX11_stale_54 kic_0 ?_
            refine lv_istore (lv' := [(5, .int 0), (4, .null), (3, .int (nI i17)), (2, .int x17_2), (0, .ref (g 0)), (1, .int v0)]) hx hb dX11_stale_55 hl (ltb rfl) rfl (fun ls hl => ?_)
            refine lv_iload_n hx hb dX11_stale_57 rfl (lvA3 hl) ?_
            refine lv_iload hx hb dX11_stale_58 (lvA0 hl) ?_
            refine lv_if_eq (tgt := 83) hx hb dX11_stale_60 rfl (fun _ => ?_) (fun h => absurd h cq_eq_0_0)
            refine lv_iconst (v := 0) hx hb dX11_stale_83 kic_0 ?_
            refine lv_ior hx hb dX11_stale_84 ?_
            refine lv_istore_n (lv' := [(2, .int (x17_2 ||| 0)), (5, .int 0), (4, .null), (3, .int (nI i17)), (0, .ref (g 0)), (1, .int v0)]) hx hb dX11_stale_85 rfl hl (ltb rfl) rfl (fun ls hl => ?_)
            refine lv_iinc (v := (nI (i17 + 1))) (lv' := [(3, .int (nI (i17 + 1))), (2, .int (x17_2 ||| 0)), (5, .int 0), (4, .null), (0, .ref (g 0)), (1, .int v0)]) hx hb dX11_stale_86 hl (k := 3) rfl (nI_1 _) (ltb rfl) rfl (fun ls hl => ?_)
            refine lv_goto (tgt := 17) hx hb dX11_stale_89 rfl ?_
            exact ih17 (i17 + 1) (x17_2 ||| 0) (by (first | omega | (have zz0 := Hid.u hb_cn; omega))) (by (first | omega | (have zz0 := Hid.u hb_cn; omega))) ls (lv_sub hl [0, 1, 4, 5] rfl)
    exact lp_17 _ 0 0 (Nat.lt_succ_self _) (by (first | omega | (have zz0 := Hid.u hb_cn; omega))) ls (lv_sub hl [0, 1, 2, 3] rfl)
  ·
    have h_2 : ¬ (0 ≤ v0.toInt ∧ v0.toInt ≤ 399) := h_2
    refine lv_if_ne (tgt := 13) hx hb dX11_stale_8 rfl (fun h => absurd h cq_eq_0_0) (fun _ => ?_)
    refine lv_iconst (v := (-1)) hx hb dX11_stale_11 kic_m1 ?_
    exact W.iret (v := (-1)) hx hb hr (fun t ht hW => ⟨(-1), rfl, trivial, ht⟩) (fun _ h => absurd h List.not_mem_nil) dX11_stale_12
set_option maxRecDepth 100000 in
set_option maxHeartbeats 4000000 in
theorem q_XstopsOf (l : Launch) (D : va_G) (cI cB cZ : ClassId) (zz qq vv : Nat) (bt : Nat → Int32) (g : Nat → Nat) (ad : Nat → Nat → Nat) (cn : Nat → Nat) (In : Nat → Int32) (Fn : Nat → Nat → Int32) (v0 v1 : Int32) (hB : CBX cn) : Met l yX11_stopsOf (CWS yX11_stopsOf cX11_stopsOf 6 (some .int)) (RM 0 0 0) (PBrx [.ref (g 0), .int v0, .int v1] D cI cB cZ zz qq vv bt (wX cI (D.1 99) zz g ad cn In Fn)) (vp_Si (fun _ => True)) 0 0 (fun _ => False) := by
  refine en_rx rfl pn_RX11 (Nat.le_of_ble_eq_true rfl) (fun p e s m below meth c hx hb hml hown S hr hlocks hnm hP hK hXS hS ls hl => ?_)
  have hl : lv_has ls 6 [(0, .ref (g 0)), (1, .int v0), (2, .int v1)] := hl
  have hb_cn : Hid (CBX cn) := hB
  replace hB : CBXh cn := hB
  refine lv_iconst (v := 0) hx hb dX11_stopsOf_0 kic_0 ?_
  refine lv_istore_n (lv' := [(3, .int 0), (0, .ref (g 0)), (1, .int v0), (2, .int v1)]) hx hb dX11_stopsOf_1 rfl hl (ltb rfl) rfl (fun ls hl => ?_)
  refine lv_iload_n hx hb dX11_stopsOf_2 rfl (lvA2 hl) ?_
  refine lv_istore (lv' := [(4, .int v0), (3, .int 0), (0, .ref (g 0)), (1, .int v0), (2, .int v1)]) hx hb dX11_stopsOf_3 hl (ltb rfl) rfl (fun ls hl => ?_)
  refine lv_aload_n hx hb dX11_stopsOf_5 rfl (lvA2 hl) ?_
  refine gf_RX11_54 S hK hP 0 xo_0 (v := .ref (g 9)) rfl dX11_stopsOf_6 ?_
  refine gf_RX11_267 S hK hP 17 xo_17 (v := .int (nI (cn 4))) rfl dX11_stopsOf_9 ?_
  refine lv_iconst (v := 1) hx hb dX11_stopsOf_12 kic_1 ?_
  refine lv_isub hx hb dX11_stopsOf_13 ?_
  refine lv_topi (fun y_1 ey_1 => ?_)
  obtain rfl : y_1 = (nI (cn 4) + (-1)) := ey_1.trans (Int32.sub_eq_add_neg ..)
  refine lv_istore (lv' := [(5, .int (nI (cn 4) + (-1))), (4, .int v0), (3, .int 0), (0, .ref (g 0)), (1, .int v0), (2, .int v1)]) hx hb dX11_stopsOf_14 hl (ltb rfl) rfl (fun ls hl => ?_)
  have lp_16 : ∀ (n : Nat) (x16_3 : Int32) (x16_4 : Int32) (k16 : Nat) , k16 < n → ((k16 ≤ cn 4)) → ∀ ls : Array Slot, lv_has ls 6 [(5, .int (nI k16 + (-1))), (4, .int x16_4), (3, .int x16_3), (0, .ref (g 0)), (1, .int v0), (2, .int v1)] → W p l e (RM 0 0 0) s m ([.ref (g 0), .int v0, .int v1]).toArray below meth c s.heap [] 0 0 (MQ below (vp_Si (fun _ => True)) ([.ref (g 0), .int v0, .int v1]).toArray s 0 0 (fun _ => False)) (F0 m 16 ls []) := by
    intro n16
    induction n16 with
    | zero => intros; (first | omega | (have zz0 := Hid.u hb_cn; omega))
    | succ n16 ih16 =>
      intro x16_3 x16_4 k16 hmu16 hinv16 ls hl
      have hx16_0 := hinv16
      rcases k16 with _ | j16
      ·
        rw [show nI 0 + (-1) = (-1 : Int32) by decide] at hl
        have hl : lv_has ls 6 [(5, .int (-1)), (4, .int x16_4), (3, .int x16_3), (0, .ref (g 0)), (1, .int v0), (2, .int v1)] := hl
        refine lv_iload hx hb dX11_stopsOf_16 (lvA0 hl) ?_
        refine lv_if_lt (tgt := 65) hx hb dX11_stopsOf_18 rfl (fun _ => ?_) (fun h => absurd h cq_lt_m1_0)
        refine lv_iload_n hx hb dX11_stopsOf_65 rfl (lvA2 hl) ?_
        exact W.iret (v := x16_3) hx hb hr (fun t ht hW => ⟨x16_3, rfl, trivial, ht⟩) (fun _ h => absurd h List.not_mem_nil) dX11_stopsOf_66
      ·
        rw [nI_m1] at hl
        have hl : lv_has ls 6 [(5, .int (nI j16)), (4, .int x16_4), (3, .int x16_3), (0, .ref (g 0)), (1, .int v0), (2, .int v1)] := hl
        refine lv_iload hx hb dX11_stopsOf_16 (lvA0 hl) ?_
        have : (nI j16).toInt = ((j16 : Nat) : Int) := nI_toInt (by (first | omega | (have zz0 := Hid.u hb_cn; omega)))
        refine lv_if_lt (tgt := 65) hx hb dX11_stopsOf_18 rfl (fun c_2 => False.elim (by have tc_2 : ((nI j16).toInt : Int) < 0 := Int32.lt_iff_toInt_lt.mp c_2; (first | omega | (have zz0 := Hid.u hb_cn; omega)))) (fun c_2 => ?_)
        have tc_2 : (0 : Int) ≤ (nI j16).toInt := Int32.le_iff_toInt_le.mp (Int32.not_lt.mp c_2)
        refine lv_aload_n hx hb dX11_stopsOf_21 rfl (lvA3 hl) ?_
        refine gf_RX11_311 S hK hP 0 xo_0 (v := .int (nI (cn 1))) rfl dX11_stopsOf_22 ?_
        have : (nI (cn 1)).toInt = (((cn 1) : Nat) : Int) := nI_toInt (by (first | omega | (have zz0 := Hid.u hb_cn; omega)))
        refine lv_if_le (tgt := 65) hx hb dX11_stopsOf_25 rfl (fun c_3 => ?_) (fun c_3 => ?_)
        ·
          have tc_3 : ((nI (cn 1)).toInt : Int) ≤ 0 := Int32.le_iff_toInt_le.mp c_3
          refine lv_iload_n hx hb dX11_stopsOf_65 rfl (lvA2 hl) ?_
          exact W.iret (v := x16_3) hx hb hr (fun t ht hW => ⟨x16_3, rfl, trivial, ht⟩) (fun _ h => absurd h List.not_mem_nil) dX11_stopsOf_66
        ·
          have tc_3 : (0 : Int) < (nI (cn 1)).toInt := Int32.lt_iff_toInt_lt.mp (Int32.not_le.mp c_3)
          refine lv_iload_n hx hb dX11_stopsOf_28 rfl (lvA2 hl) ?_
          refine lv_iload hx hb dX11_stopsOf_29 (lvA1 hl) ?_
          refine lv_aload_n hx hb dX11_stopsOf_31 rfl (lvA3 hl) ?_
          refine gf_RX11_311 S hK hP 0 xo_0 (v := .int (nI (cn 1))) rfl dX11_stopsOf_32 ?_
          refine lv_irem hx hb dX11_stopsOf_35 (nI_nz (by (first | omega | (have zz0 := Hid.u hb_cn; omega))) (by (first | omega | (have zz0 := Hid.u hb_cn; omega)))) ?_
          refine lv_iload_n hx hb dX11_stopsOf_36 rfl (lvA5 hl) ?_
          refine lv_icmp_ne (tgt := 47) hx hb dX11_stopsOf_37 rfl (fun c_4 => ?_) (fun c_4 => ?_)
          ·
            have tc_4 : ((x16_4 - x16_4 / (nI (cn 1)) * (nI (cn 1))).toInt : Int) ≠ v1.toInt := fun q => c_4 (Int32.toInt_inj.mp q)
            refine lv_iconst (v := 0) hx hb dX11_stopsOf_47 kic_0 ?_
            refine lv_ior hx hb dX11_stopsOf_48 ?_
            refine lv_istore_n (lv' := [(3, .int (x16_3 ||| 0)), (5, .int (nI j16)), (4, .int x16_4), (0, .ref (g 0)), (1, .int v0), (2, .int v1)]) hx hb dX11_stopsOf_49 rfl hl (ltb rfl) rfl (fun ls hl => ?_)
            refine lv_iload hx hb dX11_stopsOf_50 (lvA2 hl) ?_
            refine lv_aload_n hx hb dX11_stopsOf_52 rfl (lvA3 hl) ?_
            refine gf_RX11_311 S hK hP 0 xo_0 (v := .int (nI (cn 1))) rfl dX11_stopsOf_53 ?_
            refine lv_idiv hx hb dX11_stopsOf_56 (nI_nz (by (first | omega | (have zz0 := Hid.u hb_cn; omega))) (by (first | omega | (have zz0 := Hid.u hb_cn; omega)))) ?_
            refine lv_istore (lv' := [(4, .int (x16_4 / (nI (cn 1)))), (3, .int (x16_3 ||| 0)), (5, .int (nI j16)), (0, .ref (g 0)), (1, .int v0), (2, .int v1)]) hx hb dX11_stopsOf_57 hl (ltb rfl) rfl (fun ls hl => ?_)
            refine lv_iinc (v := ((nI j16) + (-1))) (lv' := [(5, .int ((nI j16) + (-1))), (4, .int (x16_4 / (nI (cn 1)))), (3, .int (x16_3 ||| 0)), (0, .ref (g 0)), (1, .int v0), (2, .int v1)]) hx hb dX11_stopsOf_59 hl (k := 2) rfl rfl (ltb rfl) rfl (fun ls hl => ?_)
            refine lv_goto (tgt := 16) hx hb dX11_stopsOf_62 rfl ?_
            exact ih16 (x16_3 ||| 0) (x16_4 / (nI (cn 1))) j16 (by (first | omega | (have zz0 := Hid.u hb_cn; omega))) (by (first | omega | (have zz0 := Hid.u hb_cn; omega))) ls (lv_sub hl [0, 1, 2, 3, 4, 5] rfl)
          ·
            have tc_4 : ((x16_4 - x16_4 / (nI (cn 1)) * (nI (cn 1))).toInt : Int) = v1.toInt := congrArg Int32.toInt c_4
            refine lv_iconst (v := 1) hx hb dX11_stopsOf_40 kic_1 ?_
            refine lv_iload hx hb dX11_stopsOf_41 (lvA0 hl) ?_
            refine lv_ishl hx hb dX11_stopsOf_43 ?_
            refine lv_goto (tgt := 48) hx hb dX11_stopsOf_44 rfl ?_
            refine lv_ior hx hb dX11_stopsOf_48 ?_
            refine lv_istore_n (lv' := [(3, .int (x16_3 ||| (1 <<< ((nI j16) &&& 31)))), (5, .int (nI j16)), (4, .int x16_4), (0, .ref (g 0)), (1, .int v0), (2, .int v1)]) hx hb dX11_stopsOf_49 rfl hl (ltb rfl) rfl (fun ls hl => ?_)
            refine lv_iload hx hb dX11_stopsOf_50 (lvA2 hl) ?_
            refine lv_aload_n hx hb dX11_stopsOf_52 rfl (lvA3 hl) ?_
            refine gf_RX11_311 S hK hP 0 xo_0 (v := .int (nI (cn 1))) rfl dX11_stopsOf_53 ?_
            refine lv_idiv hx hb dX11_stopsOf_56 (nI_nz (by (first | omega | (have zz0 := Hid.u hb_cn; omega))) (by (first | omega | (have zz0 := Hid.u hb_cn; omega)))) ?_
            refine lv_istore (lv' := [(4, .int (x16_4 / (nI (cn 1)))), (3, .int (x16_3 ||| (1 <<< ((nI j16) &&& 31)))), (5, .int (nI j16)), (0, .ref (g 0)), (1, .int v0), (2, .int v1)]) hx hb dX11_stopsOf_57 hl (ltb rfl) rfl (fun ls hl => ?_)
            refine lv_iinc (v := ((nI j16) + (-1))) (lv' := [(5, .int ((nI j16) + (-1))), (4, .int (x16_4 / (nI (cn 1)))), (3, .int (x16_3 ||| (1 <<< ((nI j16) &&& 31)))), (0, .ref (g 0)), (1, .int v0), (2, .int v1)]) hx hb dX11_stopsOf_59 hl (k := 2) rfl rfl (ltb rfl) rfl (fun ls hl => ?_)
            refine lv_goto (tgt := 16) hx hb dX11_stopsOf_62 rfl ?_
            exact ih16 (x16_3 ||| (1 <<< ((nI j16) &&& 31))) (x16_4 / (nI (cn 1))) j16 (by (first | omega | (have zz0 := Hid.u hb_cn; omega))) (by (first | omega | (have zz0 := Hid.u hb_cn; omega))) ls (lv_sub hl [0, 1, 2, 3, 4, 5] rfl)
  exact lp_16 _ 0 v0 (cn 4) (Nat.lt_succ_self _) (Nat.le_refl _) ls (lv_sub hl [0, 1, 2, 3, 4, 5] rfl)
set_option maxRecDepth 100000 in
set_option maxHeartbeats 4000000 in
theorem q_XlorryOf (l : Launch) (D : va_G) (cI cB cZ : ClassId) (zz qq vv : Nat) (bt : Nat → Int32) (g : Nat → Nat) (ad : Nat → Nat → Nat) (cn : Nat → Nat) (In : Nat → Int32) (Fn : Nat → Nat → Int32) (v0 v1 : Int32) (hB : CBX cn) : Met l yX11_lorryOf (CWS yX11_lorryOf cX11_lorryOf 5 (some .int)) (RM 1 0 0) (PBrx [.ref (g 0), .int v0, .int v1] D cI cB cZ zz qq vv bt (wX cI (D.1 99) zz g ad cn In Fn)) (vp_Si (fun _ => True)) 0 0 (fun _ => False) := by
  refine en_rx rfl pn_RX11 (Nat.le_of_ble_eq_true rfl) (fun p e s m below meth c hx hb hml hown S hr hlocks hnm hP hK hXS hS ls hl => ?_)
  have hl : lv_has ls 5 [(0, .ref (g 0)), (1, .int v0), (2, .int v1)] := hl
  have hb_cn : Hid (CBX cn) := hB
  replace hB : CBXh cn := hB
  refine lv_iload_n hx hb dX11_lorryOf_0 rfl (lvA1 hl) ?_
  refine lv_istore_n (lv' := [(3, .int v0), (0, .ref (g 0)), (1, .int v0), (2, .int v1)]) hx hb dX11_lorryOf_1 rfl hl (ltb rfl) rfl (fun ls hl => ?_)
  refine lv_aload_n hx hb dX11_lorryOf_2 rfl (lvA1 hl) ?_
  refine gf_RX11_54 S hK hP 0 xo_0 (v := .ref (g 9)) rfl dX11_lorryOf_3 ?_
  refine gf_RX11_267 S hK hP 17 xo_17 (v := .int (nI (cn 4))) rfl dX11_lorryOf_6 ?_
  refine lv_iconst (v := 1) hx hb dX11_lorryOf_9 kic_1 ?_
  refine lv_isub hx hb dX11_lorryOf_10 ?_
  refine lv_topi (fun y_1 ey_1 => ?_)
  obtain rfl : y_1 = (nI (cn 4) + (-1)) := ey_1.trans (Int32.sub_eq_add_neg ..)
  refine lv_istore (lv' := [(4, .int (nI (cn 4) + (-1))), (3, .int v0), (0, .ref (g 0)), (1, .int v0), (2, .int v1)]) hx hb dX11_lorryOf_11 hl (ltb rfl) rfl (fun ls hl => ?_)
  have lp_13 : ∀ (n : Nat) (x13_3 : Int32) (k13 : Nat) , k13 < n → ((k13 ≤ cn 4)) → ∀ ls : Array Slot, lv_has ls 5 [(4, .int (nI k13 + (-1))), (3, .int x13_3), (0, .ref (g 0)), (1, .int v0), (2, .int v1)] → W p l e (RM 1 0 0) s m ([.ref (g 0), .int v0, .int v1]).toArray below meth c s.heap [] 0 0 (MQ below (vp_Si (fun _ => True)) ([.ref (g 0), .int v0, .int v1]).toArray s 0 0 (fun _ => False)) (F0 m 13 ls []) := by
    intro n13
    induction n13 with
    | zero => intros; (first | omega | (have zz0 := Hid.u hb_cn; omega))
    | succ n13 ih13 =>
      intro x13_3 k13 hmu13 hinv13 ls hl
      have hx13_0 := hinv13
      rcases k13 with _ | j13
      ·
        rw [show nI 0 + (-1) = (-1 : Int32) by decide] at hl
        have hl : lv_has ls 5 [(4, .int (-1)), (3, .int x13_3), (0, .ref (g 0)), (1, .int v0), (2, .int v1)] := hl
        refine lv_iload hx hb dX11_lorryOf_13 (lvA0 hl) ?_
        refine lv_if_lt (tgt := 61) hx hb dX11_lorryOf_15 rfl (fun _ => ?_) (fun h => absurd h cq_lt_m1_0)
        refine lv_iconst (v := (-1)) hx hb dX11_lorryOf_61 kic_m1 ?_
        exact W.iret (v := (-1)) hx hb hr (fun t ht hW => ⟨(-1), rfl, trivial, ht⟩) (fun _ h => absurd h List.not_mem_nil) dX11_lorryOf_62
      ·
        rw [nI_m1] at hl
        have hl : lv_has ls 5 [(4, .int (nI j13)), (3, .int x13_3), (0, .ref (g 0)), (1, .int v0), (2, .int v1)] := hl
        refine lv_iload hx hb dX11_lorryOf_13 (lvA0 hl) ?_
        have : (nI j13).toInt = ((j13 : Nat) : Int) := nI_toInt (by (first | omega | (have zz0 := Hid.u hb_cn; omega)))
        refine lv_if_lt (tgt := 61) hx hb dX11_lorryOf_15 rfl (fun c_2 => False.elim (by have tc_2 : ((nI j13).toInt : Int) < 0 := Int32.lt_iff_toInt_lt.mp c_2; (first | omega | (have zz0 := Hid.u hb_cn; omega)))) (fun c_2 => ?_)
        have tc_2 : (0 : Int) ≤ (nI j13).toInt := Int32.le_iff_toInt_le.mp (Int32.not_lt.mp c_2)
        refine lv_aload_n hx hb dX11_lorryOf_18 rfl (lvA2 hl) ?_
        refine gf_RX11_311 S hK hP 0 xo_0 (v := .int (nI (cn 1))) rfl dX11_lorryOf_19 ?_
        have : (nI (cn 1)).toInt = (((cn 1) : Nat) : Int) := nI_toInt (by (first | omega | (have zz0 := Hid.u hb_cn; omega)))
        refine lv_if_le (tgt := 61) hx hb dX11_lorryOf_22 rfl (fun c_3 => ?_) (fun c_3 => ?_)
        ·
          have tc_3 : ((nI (cn 1)).toInt : Int) ≤ 0 := Int32.le_iff_toInt_le.mp c_3
          refine lv_iconst (v := (-1)) hx hb dX11_lorryOf_61 kic_m1 ?_
          exact W.iret (v := (-1)) hx hb hr (fun t ht hW => ⟨(-1), rfl, trivial, ht⟩) (fun _ h => absurd h List.not_mem_nil) dX11_lorryOf_62
        ·
          have tc_3 : (0 : Int) < (nI (cn 1)).toInt := Int32.lt_iff_toInt_lt.mp (Int32.not_le.mp c_3)
          refine lv_aload_n hx hb dX11_lorryOf_25 rfl (lvA2 hl) ?_
          refine gf_RX11_54 S hK hP 0 xo_0 (v := .ref (g 9)) rfl dX11_lorryOf_26 ?_
          refine gf_RX11_306 S hK hP 17 xo_17 (v := .ref (g 30)) rfl dX11_lorryOf_29 ?_
          refine lv_iload hx hb dX11_lorryOf_32 (lvA0 hl) ?_
          refine vp_callSi (runS_r (As := [.ref (g 30), .int (nI j13)]) (rest := []) S (q_l_at l D cI cB cZ (g 30) 8 (Fn 30) (nI j13) (by (first | omega | (have zz0 := Hid.u hb_cn; omega)))) kS_RX11_192 hK hP [18] (one_is xo_18) ⟨Nat.le_of_ble_eq_true rfl, Nat.le_of_ble_eq_true rfl⟩ ⟨Nat.le_of_ble_eq_true rfl, Nat.le_of_ble_eq_true rfl⟩ rfl hl.1 rfl (Nat.le_of_ble_eq_true rfl) dX11_lorryOf_34) (fun r_4 h_5 => ?_)
          subst h_5
          refine lv_iload_n hx hb dX11_lorryOf_37 rfl (lvA4 hl) ?_
          refine lv_icmp_ne (tgt := 48) hx hb dX11_lorryOf_38 rfl (fun c_6 => ?_) (fun c_6 => ?_)
          ·
            have tc_6 : ((atM (Fn 30) 8 (nI j13)).toInt : Int) ≠ v1.toInt := fun q => c_6 (Int32.toInt_inj.mp q)
            refine lv_iload_n hx hb dX11_lorryOf_48 rfl (lvA1 hl) ?_
            refine lv_aload_n hx hb dX11_lorryOf_49 rfl (lvA2 hl) ?_
            refine gf_RX11_311 S hK hP 0 xo_0 (v := .int (nI (cn 1))) rfl dX11_lorryOf_50 ?_
            refine lv_idiv hx hb dX11_lorryOf_53 (nI_nz (by (first | omega | (have zz0 := Hid.u hb_cn; omega))) (by (first | omega | (have zz0 := Hid.u hb_cn; omega)))) ?_
            refine lv_istore_n (lv' := [(3, .int (x13_3 / (nI (cn 1)))), (4, .int (nI j13)), (0, .ref (g 0)), (1, .int v0), (2, .int v1)]) hx hb dX11_lorryOf_54 rfl hl (ltb rfl) rfl (fun ls hl => ?_)
            refine lv_iinc (v := ((nI j13) + (-1))) (lv' := [(4, .int ((nI j13) + (-1))), (3, .int (x13_3 / (nI (cn 1)))), (0, .ref (g 0)), (1, .int v0), (2, .int v1)]) hx hb dX11_lorryOf_55 hl (k := 1) rfl rfl (ltb rfl) rfl (fun ls hl => ?_)
            refine lv_goto (tgt := 13) hx hb dX11_lorryOf_58 rfl ?_
            exact ih13 (x13_3 / (nI (cn 1))) j13 (by (first | omega | (have zz0 := Hid.u hb_cn; omega))) (by (first | omega | (have zz0 := Hid.u hb_cn; omega))) ls (lv_sub hl [0, 1, 2, 3, 4] rfl)
          ·
            have tc_6 : ((atM (Fn 30) 8 (nI j13)).toInt : Int) = v1.toInt := congrArg Int32.toInt c_6
            refine lv_iload_n hx hb dX11_lorryOf_41 rfl (lvA1 hl) ?_
            refine lv_aload_n hx hb dX11_lorryOf_42 rfl (lvA2 hl) ?_
            refine gf_RX11_311 S hK hP 0 xo_0 (v := .int (nI (cn 1))) rfl dX11_lorryOf_43 ?_
            refine lv_irem hx hb dX11_lorryOf_46 (nI_nz (by (first | omega | (have zz0 := Hid.u hb_cn; omega))) (by (first | omega | (have zz0 := Hid.u hb_cn; omega)))) ?_
            exact W.iret (v := (x13_3 - x13_3 / (nI (cn 1)) * (nI (cn 1)))) hx hb hr (fun t ht hW => ⟨(x13_3 - x13_3 / (nI (cn 1)) * (nI (cn 1))), rfl, trivial, ht⟩) (fun _ h => absurd h List.not_mem_nil) dX11_lorryOf_47
  exact lp_13 _ v0 (cn 4) (Nat.lt_succ_self _) (Nat.le_refl _) ls (lv_sub hl [0, 1, 2, 3, 4] rfl)
set_option maxRecDepth 100000 in
set_option maxHeartbeats 4000000 in
theorem q_XsharedLength (l : Launch) (D : va_G) (cI cB cZ : ClassId) (zz qq vv : Nat) (bt : Nat → Int32) (g : Nat → Nat) (ad : Nat → Nat → Nat) (cn : Nat → Nat) (In : Nat → Int32) (Fn : Nat → Nat → Int32) (v0 v1 : Int32) (hB : CBX cn) : Met l yX11_sharedLength (CWS yX11_sharedLength cX11_sharedLength 6 (some .int)) (RM 2 0 0) (PBrx [.ref (g 0), .int v0, .int v1] D cI cB cZ zz qq vv bt (wX cI (D.1 99) zz g ad cn In Fn)) (vp_Si (fun _ => True)) 0 0 (fun _ => False) := by
  refine en_rx rfl pn_RX11 (Nat.le_of_ble_eq_true rfl) (fun p e s m below meth c hx hb hml hown S hr hlocks hnm hP hK hXS hS ls hl => ?_)
  have hl : lv_has ls 6 [(0, .ref (g 0)), (1, .int v0), (2, .int v1)] := hl
  have hb_cn : Hid (CBX cn) := hB
  replace hB : CBXh cn := hB
  refine lv_iconst (v := 0) hx hb dX11_sharedLength_0 kic_0 ?_
  refine lv_istore_n (lv' := [(3, .int 0), (0, .ref (g 0)), (1, .int v0), (2, .int v1)]) hx hb dX11_sharedLength_1 rfl hl (ltb rfl) rfl (fun ls hl => ?_)
  refine lv_iconst (v := 0) hx hb dX11_sharedLength_2 kic_0 ?_
  refine lv_istore (lv' := [(4, .int 0), (3, .int 0), (0, .ref (g 0)), (1, .int v0), (2, .int v1)]) hx hb dX11_sharedLength_3 hl (ltb rfl) rfl (fun ls hl => ?_)
  have lp_5 : ∀ (n : Nat) (i5 : Nat) (x5_3 : Int32) , cn 1 - i5 < n → (i5 ≤ cn 1) → ∀ ls : Array Slot, lv_has ls 6 [(4, .int (nI i5)), (3, .int x5_3), (0, .ref (g 0)), (1, .int v0), (2, .int v1)] → W p l e (RM 2 0 0) s m ([.ref (g 0), .int v0, .int v1]).toArray below meth c s.heap [] 0 0 (MQ below (vp_Si (fun _ => True)) ([.ref (g 0), .int v0, .int v1]).toArray s 0 0 (fun _ => False)) (F0 m 5 ls []) := by
    intro n5
    induction n5 with
    | zero => intros; (first | omega | (have zz0 := Hid.u hb_cn; omega))
    | succ n5 ih5 =>
      intro i5 x5_3 hmu5 hinv5 ls hl
      have hr5 := hinv5
      have ti5 : (nI i5).toInt = (i5 : Int) := nI_toInt (by (first | omega | (have zz0 := Hid.u hb_cn; omega)))
      refine lv_iload hx hb dX11_sharedLength_5 (lvA0 hl) ?_
      refine lv_aload_n hx hb dX11_sharedLength_7 rfl (lvA2 hl) ?_
      refine gf_RX11_311 S hK hP 0 xo_0 (v := .int (nI (cn 1))) rfl dX11_sharedLength_8 ?_
      have : (nI (cn 1)).toInt = (((cn 1) : Nat) : Int) := nI_toInt (by (first | omega | (have zz0 := Hid.u hb_cn; omega)))
      refine lv_icmp_ge (tgt := 82) hx hb dX11_sharedLength_11 rfl (fun c_1 => ?_) (fun c_1 => ?_)
      ·
        have tc_1 : ((nI (cn 1)).toInt : Int) ≤ (nI i5).toInt := Int32.le_iff_toInt_le.mp c_1
        refine lv_iload_n hx hb dX11_sharedLength_82 rfl (lvA1 hl) ?_
        exact W.iret (v := x5_3) hx hb hr (fun t ht hW => ⟨x5_3, rfl, trivial, ht⟩) (fun _ h => absurd h List.not_mem_nil) dX11_sharedLength_83
      ·
        have tc_1 : ((nI i5).toInt : Int) < (nI (cn 1)).toInt := Int32.lt_iff_toInt_lt.mp (Int32.not_le.mp c_1)
        refine lv_aload_n hx hb dX11_sharedLength_14 rfl (lvA2 hl) ?_
        refine lv_iload_n hx hb dX11_sharedLength_15 rfl (lvA3 hl) ?_
        refine lv_iload hx hb dX11_sharedLength_16 (lvA0 hl) ?_
        refine vp_callSi (runV_rxa (As := [.int v0, .int (nI i5)]) (rest := []) S (q_XstopsOf l D cI cB cZ zz qq vv bt g ad cn In Fn v0 (nI i5) hB) kV_RX11_333 hK hXS hS hP 0 xo_0 rfl rfl ⟨Nat.le_of_ble_eq_true rfl, Nat.le_of_ble_eq_true rfl⟩ ⟨Nat.le_of_ble_eq_true rfl, Nat.le_of_ble_eq_true rfl⟩ rfl hl.1 rfl (Nat.le_of_ble_eq_true rfl) dX11_sharedLength_18) (fun r_2 h_3 => ?_)
        refine lv_istore (lv' := [(5, .int r_2), (4, .int (nI i5)), (3, .int x5_3), (0, .ref (g 0)), (1, .int v0), (2, .int v1)]) hx hb dX11_sharedLength_21 hl (ltb rfl) rfl (fun ls hl => ?_)
        refine lv_iload hx hb dX11_sharedLength_23 (lvA0 hl) ?_
        refine lv_if_eq (tgt := 64) hx hb dX11_sharedLength_25 rfl (fun c_4 => ?_) (fun c_4 => ?_)
        ·
          have tc_4 : (r_2.toInt : Int) = 0 := congrArg Int32.toInt c_4
          refine lv_iload_n hx hb dX11_sharedLength_64 rfl (lvA2 hl) ?_
          refine lv_aload_n hx hb dX11_sharedLength_65 rfl (lvA3 hl) ?_
          refine gf_RX11_54 S hK hP 0 xo_0 (v := .ref (g 9)) rfl dX11_sharedLength_66 ?_
          refine lv_iload hx hb dX11_sharedLength_69 (lvA0 hl) ?_
          refine vp_callSi (runV_rxa (As := [.int r_2]) (rest := [.int x5_3]) S (q_XlengthOf l D cI cB cZ zz qq vv bt g ad cn In Fn r_2 hB) kV_RX11_339 hK hXS hS hP 17 xo_17 rfl rfl ⟨Nat.le_of_ble_eq_true rfl, Nat.le_of_ble_eq_true rfl⟩ ⟨Nat.le_of_ble_eq_true rfl, Nat.le_of_ble_eq_true rfl⟩ rfl hl.1 rfl (Nat.le_of_ble_eq_true rfl) dX11_sharedLength_71) (fun r_5 h_6 => ?_)
          refine lv_iadd hx hb dX11_sharedLength_74 ?_
          refine lv_istore_n (lv' := [(3, .int (x5_3 + r_5)), (5, .int r_2), (4, .int (nI i5)), (0, .ref (g 0)), (1, .int v0), (2, .int v1)]) hx hb dX11_sharedLength_75 rfl hl (ltb rfl) rfl (fun ls hl => ?_)
          refine lv_iinc (v := (nI (i5 + 1))) (lv' := [(4, .int (nI (i5 + 1))), (3, .int (x5_3 + r_5)), (5, .int r_2), (0, .ref (g 0)), (1, .int v0), (2, .int v1)]) hx hb dX11_sharedLength_76 hl (k := 2) rfl (nI_1 _) (ltb rfl) rfl (fun ls hl => ?_)
          refine lv_goto (tgt := 5) hx hb dX11_sharedLength_79 rfl ?_
          exact ih5 (i5 + 1) (x5_3 + r_5) (by (first | omega | (have zz0 := Hid.u hb_cn; omega))) (by (first | omega | (have zz0 := Hid.u hb_cn; omega))) ls (lv_sub hl [0, 1, 3, 4, 5] rfl)
        ·
          have tc_4 : (r_2.toInt : Int) ≠ 0 := fun q => c_4 (Int32.toInt_inj.mp q)
          refine lv_aload_n hx hb dX11_sharedLength_28 rfl (lvA3 hl) ?_
          refine lv_iload hx hb dX11_sharedLength_29 (lvA1 hl) ?_
          refine lv_iload_n hx hb dX11_sharedLength_31 rfl (lvA5 hl) ?_
          refine vp_callSi (runV_rxa (As := [.int (nI i5), .int v1]) (rest := []) S (q_XisOff l D cI cB cZ zz qq vv bt g ad cn In Fn (nI i5) v1 hB) kV_RX11_317 hK hXS hS hP 0 xo_0 rfl rfl ⟨Nat.le_of_ble_eq_true rfl, Nat.le_of_ble_eq_true rfl⟩ ⟨Nat.le_of_ble_eq_true rfl, Nat.le_of_ble_eq_true rfl⟩ rfl hl.1 rfl (Nat.le_of_ble_eq_true rfl) dX11_sharedLength_32) (fun r_7 h_8 => ?_)
          refine lv_if_ne (tgt := 62) hx hb dX11_sharedLength_35 rfl (fun c_9 => ?_) (fun c_9 => ?_)
          ·
            have tc_9 : (r_7.toInt : Int) ≠ 0 := fun q => c_9 (Int32.toInt_inj.mp q)
            refine lv_iconst (v := (-1)) hx hb dX11_sharedLength_62 kic_m1 ?_
            exact W.iret (v := (-1)) hx hb hr (fun t ht hW => ⟨(-1), rfl, trivial, ht⟩) (fun _ h => absurd h List.not_mem_nil) dX11_sharedLength_63
          ·
            have tc_9 : (r_7.toInt : Int) = 0 := congrArg Int32.toInt c_9
            refine lv_aload_n hx hb dX11_sharedLength_38 rfl (lvA3 hl) ?_
            refine gf_RX11_54 S hK hP 0 xo_0 (v := .ref (g 9)) rfl dX11_sharedLength_39 ?_
            refine lv_iload hx hb dX11_sharedLength_42 (lvA0 hl) ?_
            refine vp_callSi (runV_rxa (As := [.int r_2]) (rest := []) S (q_XfillOf l D cI cB cZ zz qq vv bt g ad cn In Fn r_2 hB) kV_RX11_336 hK hXS hS hP 17 xo_17 rfl rfl ⟨Nat.le_of_ble_eq_true rfl, Nat.le_of_ble_eq_true rfl⟩ ⟨Nat.le_of_ble_eq_true rfl, Nat.le_of_ble_eq_true rfl⟩ rfl hl.1 rfl (Nat.le_of_ble_eq_true rfl) dX11_sharedLength_44) (fun r_10 h_11 => ?_)
            refine lv_aload_n hx hb dX11_sharedLength_47 rfl (lvA3 hl) ?_
            refine gf_RX11_47 S hK hP 0 xo_0 (v := .ref (g 8)) rfl dX11_sharedLength_48 ?_
            refine gf_RX11_314 S hK hP 6 xo_6 (v := .ref (g 27)) rfl dX11_sharedLength_51 ?_
            refine lv_iload hx hb dX11_sharedLength_54 (lvA1 hl) ?_
            refine vp_callSi (runS_r (As := [.ref (g 27), .int (nI i5)]) (rest := [.int r_10]) S (q_l_at l D cI cB cZ (g 27) 3 (Fn 27) (nI i5) (by (first | omega | (have zz0 := Hid.u hb_cn; omega)))) kS_RX11_192 hK hP [14] (one_is xo_14) ⟨Nat.le_of_ble_eq_true rfl, Nat.le_of_ble_eq_true rfl⟩ ⟨Nat.le_of_ble_eq_true rfl, Nat.le_of_ble_eq_true rfl⟩ rfl hl.1 rfl (Nat.le_of_ble_eq_true rfl) dX11_sharedLength_56) (fun r_12 h_13 => ?_)
            subst h_13
            refine lv_icmp_le (tgt := 64) hx hb dX11_sharedLength_59 rfl (fun c_14 => ?_) (fun c_14 => ?_)
            ·
              have tc_14 : (r_10.toInt : Int) ≤ (atM (Fn 27) 3 (nI i5)).toInt := Int32.le_iff_toInt_le.mp c_14
              refine lv_iload_n hx hb dX11_sharedLength_64 rfl (lvA2 hl) ?_
              refine lv_aload_n hx hb dX11_sharedLength_65 rfl (lvA3 hl) ?_
              refine gf_RX11_54 S hK hP 0 xo_0 (v := .ref (g 9)) rfl dX11_sharedLength_66 ?_
              refine lv_iload hx hb dX11_sharedLength_69 (lvA0 hl) ?_
              refine vp_callSi (runV_rxa (As := [.int r_2]) (rest := [.int x5_3]) S (q_XlengthOf l D cI cB cZ zz qq vv bt g ad cn In Fn r_2 hB) kV_RX11_339 hK hXS hS hP 17 xo_17 rfl rfl ⟨Nat.le_of_ble_eq_true rfl, Nat.le_of_ble_eq_true rfl⟩ ⟨Nat.le_of_ble_eq_true rfl, Nat.le_of_ble_eq_true rfl⟩ rfl hl.1 rfl (Nat.le_of_ble_eq_true rfl) dX11_sharedLength_71) (fun r_15 h_16 => ?_)
              refine lv_iadd hx hb dX11_sharedLength_74 ?_
              refine lv_istore_n (lv' := [(3, .int (x5_3 + r_15)), (5, .int r_2), (4, .int (nI i5)), (0, .ref (g 0)), (1, .int v0), (2, .int v1)]) hx hb dX11_sharedLength_75 rfl hl (ltb rfl) rfl (fun ls hl => ?_)
              refine lv_iinc (v := (nI (i5 + 1))) (lv' := [(4, .int (nI (i5 + 1))), (3, .int (x5_3 + r_15)), (5, .int r_2), (0, .ref (g 0)), (1, .int v0), (2, .int v1)]) hx hb dX11_sharedLength_76 hl (k := 2) rfl (nI_1 _) (ltb rfl) rfl (fun ls hl => ?_)
              refine lv_goto (tgt := 5) hx hb dX11_sharedLength_79 rfl ?_
              exact ih5 (i5 + 1) (x5_3 + r_15) (by (first | omega | (have zz0 := Hid.u hb_cn; omega))) (by (first | omega | (have zz0 := Hid.u hb_cn; omega))) ls (lv_sub hl [0, 1, 3, 4, 5] rfl)
            ·
              have tc_14 : ((atM (Fn 27) 3 (nI i5)).toInt : Int) < r_10.toInt := Int32.lt_iff_toInt_lt.mp (Int32.not_le.mp c_14)
              refine lv_iconst (v := (-1)) hx hb dX11_sharedLength_62 kic_m1 ?_
              exact W.iret (v := (-1)) hx hb hr (fun t ht hW => ⟨(-1), rfl, trivial, ht⟩) (fun _ h => absurd h List.not_mem_nil) dX11_sharedLength_63
  exact lp_5 _ 0 0 (Nat.lt_succ_self _) (by (first | omega | (have zz0 := Hid.u hb_cn; omega))) ls (lv_sub hl [0, 1, 2, 3, 4] rfl)
set_option maxRecDepth 100000 in
set_option maxHeartbeats 4000000 in
theorem q_XbestShares (l : Launch) (D : va_G) (cI cB cZ : ClassId) (zz qq vv : Nat) (bt : Nat → Int32) (g : Nat → Nat) (ad : Nat → Nat → Nat) (cn : Nat → Nat) (In : Nat → Int32) (Fn : Nat → Nat → Int32) (v0 : Int32) (hB : CBX cn) : Met l yX11_bestShares (CWS yX11_bestShares cX11_bestShares 7 (some .int)) (RM 3 0 0) (PBrx [.ref (g 0), .int v0] D cI cB cZ zz qq vv bt (wX cI (D.1 99) zz g ad cn In Fn)) (vp_Si (fun _ => True)) 0 0 (fun _ => False) := by
  refine en_rx rfl pn_RX11 (Nat.le_of_ble_eq_true rfl) (fun p e s m below meth c hx hb hml hown S hr hlocks hnm hP hK hXS hS ls hl => ?_)
  have hl : lv_has ls 7 [(0, .ref (g 0)), (1, .int v0)] := hl
  have hb_cn : Hid (CBX cn) := hB
  replace hB : CBXh cn := hB
  refine lv_iconst (v := 1) hx hb dX11_bestShares_0 kic_1 ?_
  refine lv_istore_n (lv' := [(2, .int 1), (0, .ref (g 0)), (1, .int v0)]) hx hb dX11_bestShares_1 rfl hl (ltb rfl) rfl (fun ls hl => ?_)
  refine lv_iconst (v := 0) hx hb dX11_bestShares_2 kic_0 ?_
  refine lv_istore_n (lv' := [(3, .int 0), (2, .int 1), (0, .ref (g 0)), (1, .int v0)]) hx hb dX11_bestShares_3 rfl hl (ltb rfl) rfl (fun ls hl => ?_)
  have lp_4 : ∀ (n : Nat) (i4 : Nat) (w4 : Nat) , cn 4 - i4 < n → (i4 ≤ cn 4 ∧ (w4 ≤ 3 ^ i4)) → ∀ ls : Array Slot, lv_has ls 7 [(3, .int (nI i4)), (2, .int (nI w4)), (0, .ref (g 0)), (1, .int v0)] → W p l e (RM 3 0 0) s m ([.ref (g 0), .int v0]).toArray below meth c s.heap [] 0 0 (MQ below (vp_Si (fun _ => True)) ([.ref (g 0), .int v0]).toArray s 0 0 (fun _ => False)) (F0 m 4 ls []) := by
    intro n4
    induction n4 with
    | zero => intros; (first | omega | (have zz0 := Hid.u hb_cn; omega))
    | succ n4 ih4 =>
      intro i4 w4 hmu4 hinv4 ls hl
      obtain ⟨hr4, hx4_0⟩ := hinv4
      have ti4 : (nI i4).toInt = (i4 : Int) := nI_toInt (by (first | omega | (have zz0 := Hid.u hb_cn; omega)))
      refine lv_iload_n hx hb dX11_bestShares_4 rfl (lvA0 hl) ?_
      refine lv_aload_n hx hb dX11_bestShares_5 rfl (lvA2 hl) ?_
      refine gf_RX11_54 S hK hP 0 xo_0 (v := .ref (g 9)) rfl dX11_bestShares_6 ?_
      refine gf_RX11_267 S hK hP 17 xo_17 (v := .int (nI (cn 4))) rfl dX11_bestShares_9 ?_
      have : (nI (cn 4)).toInt = (((cn 4) : Nat) : Int) := nI_toInt (by (first | omega | (have zz0 := Hid.u hb_cn; omega)))
      refine lv_icmp_ge (tgt := 28) hx hb dX11_bestShares_12 rfl (fun c_1 => ?_) (fun c_1 => ?_)
      ·
        have tc_1 : ((nI (cn 4)).toInt : Int) ≤ (nI i4).toInt := Int32.le_iff_toInt_le.mp c_1
        have hw3 : w4 ≤ 6561 := Nat.le_trans hx4_0 (show 3 ^ i4 ≤ 3 ^ 8 from Nat.pow_le_pow_right (by (first | omega | (have zz0 := Hid.u hb_cn; omega))) (by (first | omega | (have zz0 := Hid.u hb_cn; omega))))
        refine lv_iconst (v := (-1)) hx hb dX11_bestShares_28 kic_m1 ?_
        refine lv_istore_n (lv' := [(3, .int (-1)), (2, .int (nI w4)), (0, .ref (g 0)), (1, .int v0)]) hx hb dX11_bestShares_29 rfl hl (ltb rfl) rfl (fun ls hl => ?_)
        refine lv_iconst (v := 0) hx hb dX11_bestShares_30 kic_0 ?_
        refine lv_istore (lv' := [(4, .int 0), (3, .int (-1)), (2, .int (nI w4)), (0, .ref (g 0)), (1, .int v0)]) hx hb dX11_bestShares_31 hl (ltb rfl) rfl (fun ls hl => ?_)
        refine lv_iconst (v := 0) hx hb dX11_bestShares_33 kic_0 ?_
        refine lv_istore (lv' := [(5, .int 0), (4, .int 0), (3, .int (-1)), (2, .int (nI w4)), (0, .ref (g 0)), (1, .int v0)]) hx hb dX11_bestShares_34 hl (ltb rfl) rfl (fun ls hl => ?_)
        have lp_36 : ∀ (n : Nat) (i36 : Nat) (x36_3 : Int32) (x36_4 : Int32) , w4 - i36 < n → (i36 ≤ w4) → ∀ ls : Array Slot, lv_has ls 7 [(5, .int (nI i36)), (4, .int x36_4), (3, .int x36_3), (2, .int (nI w4)), (0, .ref (g 0)), (1, .int v0)] → W p l e (RM 3 0 0) s m ([.ref (g 0), .int v0]).toArray below meth c s.heap [] 0 0 (MQ below (vp_Si (fun _ => True)) ([.ref (g 0), .int v0]).toArray s 0 0 (fun _ => False)) (F0 m 36 ls []) := by
          intro n36
          induction n36 with
          | zero => intros; (first | omega | (have zz0 := Hid.u hb_cn; omega))
          | succ n36 ih36 =>
            intro i36 x36_3 x36_4 hmu36 hinv36 ls hl
            have hr36 := hinv36
            have ti36 : (nI i36).toInt = (i36 : Int) := nI_toInt (by (first | omega | (have zz0 := Hid.u hb_cn; omega)))
            refine lv_iload hx hb dX11_bestShares_36 (lvA0 hl) ?_
            refine lv_iload_n hx hb dX11_bestShares_38 rfl (lvA3 hl) ?_
            have : (nI w4).toInt = ((w4 : Nat) : Int) := nI_toInt (by (first | omega | (have zz0 := Hid.u hb_cn; omega)))
            refine lv_icmp_ge (tgt := 82) hx hb dX11_bestShares_39 rfl (fun c_2 => ?_) (fun c_2 => ?_)
            ·
              have tc_2 : ((nI w4).toInt : Int) ≤ (nI i36).toInt := Int32.le_iff_toInt_le.mp c_2
              refine lv_iload_n hx hb dX11_bestShares_82 rfl (lvA2 hl) ?_
              exact W.iret (v := x36_3) hx hb hr (fun t ht hW => ⟨x36_3, rfl, trivial, ht⟩) (fun _ h => absurd h List.not_mem_nil) dX11_bestShares_83
            ·
              have tc_2 : ((nI i36).toInt : Int) < (nI w4).toInt := Int32.lt_iff_toInt_lt.mp (Int32.not_le.mp c_2)
              refine lv_aload_n hx hb dX11_bestShares_42 rfl (lvA4 hl) ?_
              refine lv_iload hx hb dX11_bestShares_43 (lvA0 hl) ?_
              refine lv_iload_n hx hb dX11_bestShares_45 rfl (lvA5 hl) ?_
              refine vp_callSi (runV_rxa (As := [.int (nI i36), .int v0]) (rest := []) S (q_XsharedLength l D cI cB cZ zz qq vv bt g ad cn In Fn (nI i36) v0 hB) kV_RX11_327 hK hXS hS hP 0 xo_0 rfl rfl ⟨Nat.le_of_ble_eq_true rfl, Nat.le_of_ble_eq_true rfl⟩ ⟨Nat.le_of_ble_eq_true rfl, Nat.le_of_ble_eq_true rfl⟩ rfl hl.1 rfl (Nat.le_of_ble_eq_true rfl) dX11_bestShares_46) (fun r_3 h_4 => ?_)
              refine lv_istore (lv' := [(6, .int r_3), (5, .int (nI i36)), (4, .int x36_4), (3, .int x36_3), (2, .int (nI w4)), (0, .ref (g 0)), (1, .int v0)]) hx hb dX11_bestShares_49 hl (ltb rfl) rfl (fun ls hl => ?_)
              refine lv_iload hx hb dX11_bestShares_51 (lvA0 hl) ?_
              refine lv_iconst (v := (-1)) hx hb dX11_bestShares_53 kic_m1 ?_
              refine lv_icmp_eq (tgt := 76) hx hb dX11_bestShares_54 rfl (fun c_5 => ?_) (fun c_5 => ?_)
              ·
                have tc_5 : (r_3.toInt : Int) = (-1) := congrArg Int32.toInt c_5
                refine lv_iinc (v := (nI (i36 + 1))) (lv' := [(5, .int (nI (i36 + 1))), (6, .int r_3), (4, .int x36_4), (3, .int x36_3), (2, .int (nI w4)), (0, .ref (g 0)), (1, .int v0)]) hx hb dX11_bestShares_76 hl (k := 1) rfl (nI_1 _) (ltb rfl) rfl (fun ls hl => ?_)
                refine lv_goto (tgt := 36) hx hb dX11_bestShares_79 rfl ?_
                exact ih36 (i36 + 1) x36_3 x36_4 (by (first | omega | (have zz0 := Hid.u hb_cn; omega))) (by (first | omega | (have zz0 := Hid.u hb_cn; omega))) ls (lv_sub hl [0, 2, 3, 4, 5, 6] rfl)
              ·
                have tc_5 : (r_3.toInt : Int) ≠ (-1) := fun q => c_5 (Int32.toInt_inj.mp q)
                refine lv_iload_n hx hb dX11_bestShares_57 rfl (lvA3 hl) ?_
                refine lv_iconst (v := (-1)) hx hb dX11_bestShares_58 kic_m1 ?_
                refine lv_icmp_eq (tgt := 69) hx hb dX11_bestShares_59 rfl (fun c_6 => ?_) (fun c_6 => ?_)
                ·
                  have tc_6 : (x36_3.toInt : Int) = (-1) := congrArg Int32.toInt c_6
                  refine lv_iload hx hb dX11_bestShares_69 (lvA1 hl) ?_
                  refine lv_istore_n (lv' := [(3, .int (nI i36)), (6, .int r_3), (5, .int (nI i36)), (4, .int x36_4), (2, .int (nI w4)), (0, .ref (g 0)), (1, .int v0)]) hx hb dX11_bestShares_71 rfl hl (ltb rfl) rfl (fun ls hl => ?_)
                  refine lv_iload hx hb dX11_bestShares_72 (lvA1 hl) ?_
                  refine lv_istore (lv' := [(4, .int r_3), (3, .int (nI i36)), (6, .int r_3), (5, .int (nI i36)), (2, .int (nI w4)), (0, .ref (g 0)), (1, .int v0)]) hx hb dX11_bestShares_74 hl (ltb rfl) rfl (fun ls hl => ?_)
                  refine lv_iinc (v := (nI (i36 + 1))) (lv' := [(5, .int (nI (i36 + 1))), (4, .int r_3), (3, .int (nI i36)), (6, .int r_3), (2, .int (nI w4)), (0, .ref (g 0)), (1, .int v0)]) hx hb dX11_bestShares_76 hl (k := 3) rfl (nI_1 _) (ltb rfl) rfl (fun ls hl => ?_)
                  refine lv_goto (tgt := 36) hx hb dX11_bestShares_79 rfl ?_
                  exact ih36 (i36 + 1) (nI i36) r_3 (by (first | omega | (have zz0 := Hid.u hb_cn; omega))) (by (first | omega | (have zz0 := Hid.u hb_cn; omega))) ls (lv_sub hl [0, 1, 2, 4, 5, 6] rfl)
                ·
                  have tc_6 : (x36_3.toInt : Int) ≠ (-1) := fun q => c_6 (Int32.toInt_inj.mp q)
                  refine lv_iload hx hb dX11_bestShares_62 (lvA0 hl) ?_
                  refine lv_iload hx hb dX11_bestShares_64 (lvA2 hl) ?_
                  refine lv_icmp_ge (tgt := 76) hx hb dX11_bestShares_66 rfl (fun c_7 => ?_) (fun c_7 => ?_)
                  ·
                    have tc_7 : (x36_4.toInt : Int) ≤ r_3.toInt := Int32.le_iff_toInt_le.mp c_7
                    refine lv_iinc (v := (nI (i36 + 1))) (lv' := [(5, .int (nI (i36 + 1))), (6, .int r_3), (4, .int x36_4), (3, .int x36_3), (2, .int (nI w4)), (0, .ref (g 0)), (1, .int v0)]) hx hb dX11_bestShares_76 hl (k := 1) rfl (nI_1 _) (ltb rfl) rfl (fun ls hl => ?_)
                    refine lv_goto (tgt := 36) hx hb dX11_bestShares_79 rfl ?_
                    exact ih36 (i36 + 1) x36_3 x36_4 (by (first | omega | (have zz0 := Hid.u hb_cn; omega))) (by (first | omega | (have zz0 := Hid.u hb_cn; omega))) ls (lv_sub hl [0, 2, 3, 4, 5, 6] rfl)
                  ·
                    have tc_7 : (r_3.toInt : Int) < x36_4.toInt := Int32.lt_iff_toInt_lt.mp (Int32.not_le.mp c_7)
                    refine lv_iload hx hb dX11_bestShares_69 (lvA1 hl) ?_
                    refine lv_istore_n (lv' := [(3, .int (nI i36)), (6, .int r_3), (5, .int (nI i36)), (4, .int x36_4), (2, .int (nI w4)), (0, .ref (g 0)), (1, .int v0)]) hx hb dX11_bestShares_71 rfl hl (ltb rfl) rfl (fun ls hl => ?_)
                    refine lv_iload hx hb dX11_bestShares_72 (lvA1 hl) ?_
                    refine lv_istore (lv' := [(4, .int r_3), (3, .int (nI i36)), (6, .int r_3), (5, .int (nI i36)), (2, .int (nI w4)), (0, .ref (g 0)), (1, .int v0)]) hx hb dX11_bestShares_74 hl (ltb rfl) rfl (fun ls hl => ?_)
                    refine lv_iinc (v := (nI (i36 + 1))) (lv' := [(5, .int (nI (i36 + 1))), (4, .int r_3), (3, .int (nI i36)), (6, .int r_3), (2, .int (nI w4)), (0, .ref (g 0)), (1, .int v0)]) hx hb dX11_bestShares_76 hl (k := 3) rfl (nI_1 _) (ltb rfl) rfl (fun ls hl => ?_)
                    refine lv_goto (tgt := 36) hx hb dX11_bestShares_79 rfl ?_
                    exact ih36 (i36 + 1) (nI i36) r_3 (by (first | omega | (have zz0 := Hid.u hb_cn; omega))) (by (first | omega | (have zz0 := Hid.u hb_cn; omega))) ls (lv_sub hl [0, 1, 2, 4, 5, 6] rfl)
        exact lp_36 _ 0 (-1) 0 (Nat.lt_succ_self _) (by (first | omega | (have zz0 := Hid.u hb_cn; omega))) ls (lv_sub hl [0, 1, 2, 3, 4, 5] rfl)
      ·
        have tc_1 : ((nI i4).toInt : Int) < (nI (cn 4)).toInt := Int32.lt_iff_toInt_lt.mp (Int32.not_le.mp c_1)
        refine lv_iload_n hx hb dX11_bestShares_15 rfl (lvA1 hl) ?_
        refine lv_aload_n hx hb dX11_bestShares_16 rfl (lvA2 hl) ?_
        refine gf_RX11_311 S hK hP 0 xo_0 (v := .int (nI (cn 1))) rfl dX11_bestShares_17 ?_
        refine lv_imul hx hb dX11_bestShares_20 ?_
        refine lv_topi (fun y_8 ey_8 => ?_)
        obtain rfl : y_8 = (nI (w4 * (cn 1))) := ey_8.trans (pk_mul w4 (cn 1))
        refine lv_istore_n (lv' := [(2, .int (nI (w4 * (cn 1)))), (3, .int (nI i4)), (0, .ref (g 0)), (1, .int v0)]) hx hb dX11_bestShares_21 rfl hl (ltb rfl) rfl (fun ls hl => ?_)
        refine lv_iinc (v := (nI (i4 + 1))) (lv' := [(3, .int (nI (i4 + 1))), (2, .int (nI (w4 * (cn 1)))), (0, .ref (g 0)), (1, .int v0)]) hx hb dX11_bestShares_22 hl (k := 1) rfl (nI_1 _) (ltb rfl) rfl (fun ls hl => ?_)
        refine lv_goto (tgt := 4) hx hb dX11_bestShares_25 rfl ?_
        exact ih4 (i4 + 1) (w4 * (cn 1)) (by (first | omega | (have zz0 := Hid.u hb_cn; omega))) ⟨(by (first | omega | (have zz0 := Hid.u hb_cn; omega))), (w3m hx4_0 (by (first | omega | (have zz0 := Hid.u hb_cn; omega))))⟩ ls (lv_sub hl [0, 1, 2, 3] rfl)
  exact lp_4 _ 0 1 (Nat.lt_succ_self _) ⟨(by (first | omega | (have zz0 := Hid.u hb_cn; omega))), (Nat.le_refl _)⟩ ls (lv_sub hl [0, 1, 2, 3] rfl)
set_option maxRecDepth 100000 in
set_option maxHeartbeats 4000000 in
theorem q_Xshared (l : Launch) (D : va_G) (cI cB cZ : ClassId) (zz qq vv : Nat) (bt : Nat → Int32) (g : Nat → Nat) (ad : Nat → Nat → Nat) (cn : Nat → Nat) (In : Nat → Int32) (Fn : Nat → Nat → Int32) (v0 v1 v2 : Int32) (sz : Nat) (hB : CBX cn) : Met l yX11_shared (CWS yX11_shared cX11_shared 6 (some .int)) (RM 7 0 0) (PBx [.ref (g 0), .int v0, .int v1, .int v2] D cI cB cZ zz qq vv bt (wX cI (D.1 99) zz g ad cn In Fn) sz) (va_Qi (fun (r : Int32) (u : (Nat → Nat) × (Nat → Int32) × (Nat → Nat → Int32)) => (fun r c2 I2 F2 => Fr [4] [] [30, 31, 32, 33, 34, 35, 105] cn In Fn c2 I2 F2 ∧ CBX c2 ∧ (True)) r u.1 u.2.1 u.2.2) (fun (u : (Nat → Nat) × (Nat → Int32) × (Nat → Nat → Int32)) (t : State) => va_P D vwCl (wX cI (D.1 99) zz g ad u.1 u.2.1 u.2.2) t.heap ∧ va_D (va_A (wX cI (D.1 99) zz g ad cn In Fn) sz) (wX cI (D.1 99) zz g ad u.1 u.2.1 u.2.2)) (va_A (wX cI (D.1 99) zz g ad cn In Fn) sz)) 0 0 (va_A (wX cI (D.1 99) zz g ad cn In Fn) sz) := by
  refine en_x (fun A => (va_Qi (fun (r : Int32) (u : (Nat → Nat) × (Nat → Int32) × (Nat → Nat → Int32)) => (fun (r : Int32) (c2 : Nat → Nat) (I2 : Nat → Int32) (F2 : Nat → Nat → Int32) => Fr [4] [] [30, 31, 32, 33, 34, 35, 105] cn In Fn c2 I2 F2 ∧ CBX c2 ∧ (True)) r u.1 u.2.1 u.2.2) (fun (u : (Nat → Nat) × (Nat → Int32) × (Nat → Nat → Int32)) (t : State) => va_P D vwCl (wX cI (D.1 99) zz g ad u.1 u.2.1 u.2.2) t.heap ∧ va_D A (wX cI (D.1 99) zz g ad u.1 u.2.1 u.2.2)) A)) rfl rfl pn_RX11 (Nat.le_of_ble_eq_true rfl) (fun p e s m below meth c A hx hb hml hown S hr hlocks hnm hA hP hK hD hXS hS ls hl => ?_)
  have hl : lv_has ls 6 [(0, .ref (g 0)), (1, .int v0), (2, .int v1), (3, .int v2)] := hl
  have hb_cn : Hid (CBX cn) := hB
  replace hB : CBXh cn := hB
  refine lv_iload_n hx hb dX11_shared_0 rfl (lvA3 hl) ?_
  refine lv_iconst (v := (-1)) hx hb dX11_shared_1 kic_m1 ?_
  refine lv_icmp_eq (tgt := 13) hx hb dX11_shared_2 rfl (fun c_1 => ?_) (fun c_1 => ?_)
  ·
    have tc_1 : (v2.toInt : Int) = (-1) := congrArg Int32.toInt c_1
    refine lv_iconst (v := 1) hx hb dX11_shared_13 kic_1 ?_
    refine lv_goto (tgt := 18) hx hb dX11_shared_14 rfl ?_
    refine lv_istore (lv' := [(4, .int 1), (0, .ref (g 0)), (1, .int v0), (2, .int v1), (3, .int v2)]) hx hb dX11_shared_18 hl (ltb rfl) rfl (fun ls hl => ?_)
    refine lv_iload_n hx hb dX11_shared_20 rfl (lvA2 hl) ?_
    refine vp_callSi (runS_r (As := [.int v0]) (rest := []) S (q_l_isDay l D cI cB cZ v0) kS_RX11_99 hK hP [] rfl ⟨Nat.le_of_ble_eq_true rfl, Nat.le_of_ble_eq_true rfl⟩ ⟨Nat.le_of_ble_eq_true rfl, Nat.le_of_ble_eq_true rfl⟩ rfl hl.1 rfl (Nat.le_of_ble_eq_true rfl) dX11_shared_21) (fun r_2 h_3 => ?_)
    rcases h_3 with ⟨rfl, h_3⟩ | ⟨rfl, h_3⟩
    ·
      have h_3 : 0 ≤ v0.toInt ∧ v0.toInt ≤ 399 := h_3
      refine lv_if_eq (tgt := 43) hx hb dX11_shared_24 rfl (fun h => absurd h cq_eq_1_0) (fun _ => ?_)
      refine lv_iload_n hx hb dX11_shared_27 rfl (lvA3 hl) ?_
      refine lv_iconst (v := 1) hx hb dX11_shared_28 kic_1 ?_
      refine lv_sipush (v := 400) hx hb dX11_shared_29 (by decide) ?_
      refine vp_callSi (runS_r (As := [.int v1, .int 1, .int 400]) (rest := []) S (q_l_within l D cI cB cZ v1 1 400) kS_RX11_80 hK hP [] rfl ⟨Nat.le_of_ble_eq_true rfl, Nat.le_of_ble_eq_true rfl⟩ ⟨Nat.le_of_ble_eq_true rfl, Nat.le_of_ble_eq_true rfl⟩ rfl hl.1 rfl (Nat.le_of_ble_eq_true rfl) dX11_shared_32) (fun r_4 h_5 => ?_)
      rcases h_5 with ⟨rfl, h_5⟩ | ⟨rfl, h_5⟩
      ·
        have h_5 : 1 ≤ v1.toInt ∧ v1.toInt ≤ 400 := h_5
        refine lv_if_eq (tgt := 43) hx hb dX11_shared_35 rfl (fun h => absurd h cq_eq_1_0) (fun _ => ?_)
        refine lv_iload hx hb dX11_shared_38 (lvA0 hl) ?_
        refine lv_if_ne (tgt := 45) hx hb dX11_shared_40 rfl (fun _ => ?_) (fun h => absurd h cq_eq_1_0)
        refine lv_aload_n hx hb dX11_shared_45 rfl (lvA1 hl) ?_
        refine lv_iload_n hx hb dX11_shared_46 rfl (lvA2 hl) ?_
        have hFc := free_all hD hS hA
        refine va_calli (runV_xa (As := [.int v0]) (rest := []) S (q_XstartTrial l D cI cB cZ zz qq vv bt g ad cn In Fn v0 s.heap.size hB) kV_RX11_276 hK hXS hS hFc hP hD 0 xo_0 rfl rfl ⟨Nat.le_of_ble_eq_true rfl, Nat.le_of_ble_eq_true rfl⟩ ⟨Nat.le_of_ble_eq_true rfl, Nat.le_of_ble_eq_true rfl⟩ rfl hl.1 rfl (Nat.le_of_ble_eq_true rfl) dX11_shared_47) hS (fun q _ h => hFc q h) hFc (fun r_6 u t H1 locs ht hvm wh_7 hB1 hz1 hk1 hS => ?_)
        obtain ⟨cn7, In7, Fn7⟩ := u
        obtain ⟨hP1, hD1⟩ := hB1
        rw [ht] at hP1
        have hP : va_P D vwCl (wX cI (D.1 99) zz g ad cn7 In7 Fn7) H1 := hP1
        have hD : va_D A (wX cI (D.1 99) zz g ad cn7 In7 Fn7) := hD1.weaken (fun _ _ _ h => hFc _ h)
        generalize H1 = H at hP hS ⊢
        have vh_7 : (fun r c2 I2 F2 => Fr [] [] [105] cn In Fn c2 I2 F2 ∧ CBX c2 ∧ (True)) r_6 cn7 In7 Fn7 := wh_7
        obtain ⟨hfc7, hIn7, h_7⟩ := vh_7
        obtain rfl : cn = cn7 := (funext (fun k => hfc7.1 k List.not_mem_nil)).symm
        obtain rfl : In = In7 := (funext (fun k => hfc7.2.1 k List.not_mem_nil)).symm
        have hf7 : Fr [4] [] [30, 31, 32, 33, 34, 35, 105] cn In Fn cn In Fn7 := Fr.mo (Fr.tr (Fr.rf (cn := cn) (In := In) (Fn := Fn)) hfc7) (sbl rfl) (sbl rfl) (sbl rfl)
        replace hIn7 : CBXh cn := hIn7
        refine lv_if_eq (tgt := 64) hx hb dX11_shared_50 rfl (fun c_8 => ?_) (fun c_8 => ?_)
        ·
          have tc_8 : (r_6.toInt : Int) = 0 := congrArg Int32.toInt c_8
          refine lv_bipush (v := (-2)) hx hb dX11_shared_64 kbc_m2 ?_
          exact W.iret (v := (-2)) hx hb hr (fun t ht hW => ⟨⟨(-2), (cn, In, Fn7), rfl, ⟨(Fr.mo hf7 (sbl rfl) (sbl rfl) (sbl rfl)), hIn7, trivial⟩, by rw [ht]; exact hP, hD⟩, hS.F ht⟩) hS.2.2 dX11_shared_66
        ·
          have tc_8 : (r_6.toInt : Int) ≠ 0 := fun q => c_8 (Int32.toInt_inj.mp q)
          refine lv_aload_n hx hb dX11_shared_53 rfl (lvA1 hl) ?_
          refine lv_iload_n hx hb dX11_shared_54 rfl (lvA2 hl) ?_
          refine lv_iload_n hx hb dX11_shared_55 rfl (lvA3 hl) ?_
          refine lv_bipush (v := 6) hx hb dX11_shared_56 kbc_6 ?_
          have hFc := free_all hD hS hA
          refine va_calli (runV_xa (As := [.int v0, .int v1, .int 6]) (rest := []) S (q_XgatherStops l D cI cB cZ zz qq vv bt g ad cn In Fn7 v0 v1 6 H.size hIn7 (by decide)) kV_RX11_279 hK hXS hS hFc hP hD 0 xo_0 rfl rfl ⟨Nat.le_of_ble_eq_true rfl, Nat.le_of_ble_eq_true rfl⟩ ⟨Nat.le_of_ble_eq_true rfl, Nat.le_of_ble_eq_true rfl⟩ rfl hl.1 rfl (Nat.le_of_ble_eq_true rfl) dX11_shared_58) hS (fun q _ h => hFc q h) hFc (fun r_9 u t H1 locs ht hvm wh_10 hB1 hz1 hk1 hS => ?_)
          obtain ⟨cn10, In10, Fn10⟩ := u
          obtain ⟨hP1, hD1⟩ := hB1
          rw [ht] at hP1
          have hP : va_P D vwCl (wX cI (D.1 99) zz g ad cn10 In10 Fn10) H1 := hP1
          have hD : va_D A (wX cI (D.1 99) zz g ad cn10 In10 Fn10) := hD1.weaken (fun _ _ _ h => hFc _ h)
          generalize H1 = H at hP hS ⊢
          have vh_10 : (fun r c2 I2 F2 => Fr [4] [] [30, 31, 32, 33, 34, 35] cn In Fn7 c2 I2 F2 ∧ CBX c2 ∧ (True)) r_9 cn10 In10 Fn10 := wh_10
          obtain ⟨hfc10, hIn10, h_10⟩ := vh_10
          obtain rfl : In = In10 := (funext (fun k => hfc10.2.1 k List.not_mem_nil)).symm
          have hf10 : Fr [4] [] [30, 31, 32, 33, 34, 35, 105] cn In Fn cn10 In Fn10 := Fr.mo (Fr.tr hf7 hfc10) (sbl rfl) (sbl rfl) (sbl rfl)
          have hb_cn10 : Hid (CBX cn10) := hIn10
          replace hIn10 : CBXh cn10 := hIn10
          have : cn10 6 = (cn 6) := hfc10.1 6 (nml rfl)
          have : cn10 31 = (cn 31) := hfc10.1 31 (nml rfl)
          have : cn10 32 = (cn 32) := hfc10.1 32 (nml rfl)
          have hq_cn10 : Hid (cn10 0 = (cn 0) ∧ cn10 1 = (cn 1) ∧ cn10 2 = (cn 2) ∧ cn10 3 = (cn 3) ∧ cn10 5 = (cn 5) ∧ cn10 10 = (cn 10) ∧ cn10 11 = (cn 11) ∧ cn10 12 = (cn 12) ∧ cn10 13 = (cn 13) ∧ cn10 14 = (cn 14) ∧ cn10 15 = (cn 15) ∧ cn10 20 = (cn 20) ∧ cn10 21 = (cn 21) ∧ cn10 22 = (cn 22) ∧ cn10 23 = (cn 23) ∧ cn10 24 = (cn 24) ∧ cn10 25 = (cn 25)) := Hid.i (p := cn10 0 = (cn 0) ∧ cn10 1 = (cn 1) ∧ cn10 2 = (cn 2) ∧ cn10 3 = (cn 3) ∧ cn10 5 = (cn 5) ∧ cn10 10 = (cn 10) ∧ cn10 11 = (cn 11) ∧ cn10 12 = (cn 12) ∧ cn10 13 = (cn 13) ∧ cn10 14 = (cn 14) ∧ cn10 15 = (cn 15) ∧ cn10 20 = (cn 20) ∧ cn10 21 = (cn 21) ∧ cn10 22 = (cn 22) ∧ cn10 23 = (cn 23) ∧ cn10 24 = (cn 24) ∧ cn10 25 = (cn 25)) ⟨hfc10.1 0 (nml rfl), hfc10.1 1 (nml rfl), hfc10.1 2 (nml rfl), hfc10.1 3 (nml rfl), hfc10.1 5 (nml rfl), hfc10.1 10 (nml rfl), hfc10.1 11 (nml rfl), hfc10.1 12 (nml rfl), hfc10.1 13 (nml rfl), hfc10.1 14 (nml rfl), hfc10.1 15 (nml rfl), hfc10.1 20 (nml rfl), hfc10.1 21 (nml rfl), hfc10.1 22 (nml rfl), hfc10.1 23 (nml rfl), hfc10.1 24 (nml rfl), hfc10.1 25 (nml rfl)⟩
          refine lv_if_ne (tgt := 67) hx hb dX11_shared_61 rfl (fun c_11 => ?_) (fun c_11 => ?_)
          ·
            have tc_11 : (r_9.toInt : Int) ≠ 0 := fun q => c_11 (Int32.toInt_inj.mp q)
            refine lv_aload_n hx hb dX11_shared_67 rfl (lvA1 hl) ?_
            refine lv_iload_n hx hb dX11_shared_68 rfl (lvA2 hl) ?_
            refine vp_callSi (runV_rxa (As := [.int v0]) (rest := []) S (q_XbestShares l D cI cB cZ zz qq vv bt g ad cn10 In Fn10 v0 hIn10) kV_RX11_324 hK hXS hS hP 0 xo_0 rfl rfl ⟨Nat.le_of_ble_eq_true rfl, Nat.le_of_ble_eq_true rfl⟩ ⟨Nat.le_of_ble_eq_true rfl, Nat.le_of_ble_eq_true rfl⟩ rfl hl.1 rfl (Nat.le_of_ble_eq_true rfl) dX11_shared_69) (fun r_12 h_13 => ?_)
            refine lv_istore (lv' := [(5, .int r_12), (4, .int 1), (0, .ref (g 0)), (1, .int v0), (2, .int v1), (3, .int v2)]) hx hb dX11_shared_72 hl (ltb rfl) rfl (fun ls hl => ?_)
            refine lv_iload hx hb dX11_shared_74 (lvA0 hl) ?_
            refine lv_iconst (v := (-1)) hx hb dX11_shared_76 kic_m1 ?_
            refine lv_icmp_ne (tgt := 83) hx hb dX11_shared_77 rfl (fun c_14 => ?_) (fun c_14 => ?_)
            ·
              have tc_14 : (r_12.toInt : Int) ≠ (-1) := fun q => c_14 (Int32.toInt_inj.mp q)
              refine lv_iload_n hx hb dX11_shared_83 rfl (lvA5 hl) ?_
              refine lv_iconst (v := (-1)) hx hb dX11_shared_84 kic_m1 ?_
              refine lv_icmp_ne (tgt := 98) hx hb dX11_shared_85 rfl (fun c_15 => False.elim (by have tc_15 : (v2.toInt : Int) ≠ (-1) := fun q => c_15 (Int32.toInt_inj.mp q); (first | omega | (have zz0 := Hid.u hb_cn; have zz1 := Hid.u hb_cn10; have zz2 := Hid.u hq_cn10; omega)))) (fun c_15 => ?_)
              have tc_15 : (v2.toInt : Int) = (-1) := congrArg Int32.toInt c_15
              refine lv_aload_n hx hb dX11_shared_88 rfl (lvA2 hl) ?_
              refine lv_iload hx hb dX11_shared_89 (lvA0 hl) ?_
              refine lv_iload_n hx hb dX11_shared_91 rfl (lvA3 hl) ?_
              refine vp_callSi (runV_rxa (As := [.int r_12, .int v0]) (rest := []) S (q_XsharedLength l D cI cB cZ zz qq vv bt g ad cn10 In Fn10 r_12 v0 hIn10) kV_RX11_327 hK hXS hS hP 0 xo_0 rfl rfl ⟨Nat.le_of_ble_eq_true rfl, Nat.le_of_ble_eq_true rfl⟩ ⟨Nat.le_of_ble_eq_true rfl, Nat.le_of_ble_eq_true rfl⟩ rfl hl.1 rfl (Nat.le_of_ble_eq_true rfl) dX11_shared_92) (fun r_16 h_17 => ?_)
              refine lv_goto (tgt := 105) hx hb dX11_shared_95 rfl ?_
              exact W.iret (v := r_16) hx hb hr (fun t ht hW => ⟨⟨r_16, (cn10, In, Fn10), rfl, ⟨(Fr.mo hf10 (sbl rfl) (sbl rfl) (sbl rfl)), hIn10, trivial⟩, by rw [ht]; exact hP, hD⟩, hS.F ht⟩) hS.2.2 dX11_shared_105
            ·
              have tc_14 : (r_12.toInt : Int) = (-1) := congrArg Int32.toInt c_14
              refine lv_bipush (v := (-2)) hx hb dX11_shared_80 kbc_m2 ?_
              exact W.iret (v := (-2)) hx hb hr (fun t ht hW => ⟨⟨(-2), (cn10, In, Fn10), rfl, ⟨(Fr.mo hf10 (sbl rfl) (sbl rfl) (sbl rfl)), hIn10, trivial⟩, by rw [ht]; exact hP, hD⟩, hS.F ht⟩) hS.2.2 dX11_shared_82
          ·
            have tc_11 : (r_9.toInt : Int) = 0 := congrArg Int32.toInt c_11
            refine lv_bipush (v := (-2)) hx hb dX11_shared_64 kbc_m2 ?_
            exact W.iret (v := (-2)) hx hb hr (fun t ht hW => ⟨⟨(-2), (cn10, In, Fn10), rfl, ⟨(Fr.mo hf10 (sbl rfl) (sbl rfl) (sbl rfl)), hIn10, trivial⟩, by rw [ht]; exact hP, hD⟩, hS.F ht⟩) hS.2.2 dX11_shared_66
      ·
        have h_5 : ¬ (1 ≤ v1.toInt ∧ v1.toInt ≤ 400) := h_5
        refine lv_if_eq (tgt := 43) hx hb dX11_shared_35 rfl (fun _ => ?_) (fun h => absurd h cq_eq_0_0)
        refine lv_iconst (v := (-1)) hx hb dX11_shared_43 kic_m1 ?_
        exact W.iret (v := (-1)) hx hb hr (fun t ht hW => ⟨⟨(-1), (cn, In, Fn), rfl, ⟨(Fr.mo Fr.rf (sbl rfl) (sbl rfl) (sbl rfl)), hB, trivial⟩, by rw [ht]; exact hP, hD⟩, hS.F ht⟩) hS.2.2 dX11_shared_44
    ·
      have h_3 : ¬ (0 ≤ v0.toInt ∧ v0.toInt ≤ 399) := h_3
      refine lv_if_eq (tgt := 43) hx hb dX11_shared_24 rfl (fun _ => ?_) (fun h => absurd h cq_eq_0_0)
      refine lv_iconst (v := (-1)) hx hb dX11_shared_43 kic_m1 ?_
      exact W.iret (v := (-1)) hx hb hr (fun t ht hW => ⟨⟨(-1), (cn, In, Fn), rfl, ⟨(Fr.mo Fr.rf (sbl rfl) (sbl rfl) (sbl rfl)), hB, trivial⟩, by rw [ht]; exact hP, hD⟩, hS.F ht⟩) hS.2.2 dX11_shared_44
  ·
    have tc_1 : (v2.toInt : Int) ≠ (-1) := fun q => c_1 (Int32.toInt_inj.mp q)
    refine lv_aload_n hx hb dX11_shared_5 rfl (lvA0 hl) ?_
    refine lv_iload_n hx hb dX11_shared_6 rfl (lvA3 hl) ?_
    refine va_csq (runV_rxa (As := [.int v2]) (rest := []) S (q_XkitchenAt l D cI cB cZ zz qq vv bt g ad cn In Fn v2 hB) kV_RX11_114 hK hXS hS hP 0 xo_0 rfl rfl ⟨Nat.le_of_ble_eq_true rfl, Nat.le_of_ble_eq_true rfl⟩ ⟨Nat.le_of_ble_eq_true rfl, Nat.le_of_ble_eq_true rfl⟩ rfl hl.1 rfl (Nat.le_of_ble_eq_true rfl) dX11_shared_7) (fun r_18 h_19 => ?_)
    rcases h_19 with ⟨mr_18, er_18, hr_18, rfl⟩ | ⟨hr_18, rfl⟩
    ·
      refine lv_ifnull hx hb dX11_shared_10 ?_
      refine lv_iconst (v := 1) hx hb dX11_shared_13 kic_1 ?_
      refine lv_goto (tgt := 18) hx hb dX11_shared_14 rfl ?_
      refine lv_istore (lv' := [(4, .int 1), (0, .ref (g 0)), (1, .int v0), (2, .int v1), (3, .int v2)]) hx hb dX11_shared_18 hl (ltb rfl) rfl (fun ls hl => ?_)
      refine lv_iload_n hx hb dX11_shared_20 rfl (lvA2 hl) ?_
      refine vp_callSi (runS_r (As := [.int v0]) (rest := []) S (q_l_isDay l D cI cB cZ v0) kS_RX11_99 hK hP [] rfl ⟨Nat.le_of_ble_eq_true rfl, Nat.le_of_ble_eq_true rfl⟩ ⟨Nat.le_of_ble_eq_true rfl, Nat.le_of_ble_eq_true rfl⟩ rfl hl.1 rfl (Nat.le_of_ble_eq_true rfl) dX11_shared_21) (fun r_20 h_21 => ?_)
      rcases h_21 with ⟨rfl, h_21⟩ | ⟨rfl, h_21⟩
      ·
        have h_21 : 0 ≤ v0.toInt ∧ v0.toInt ≤ 399 := h_21
        refine lv_if_eq (tgt := 43) hx hb dX11_shared_24 rfl (fun h => absurd h cq_eq_1_0) (fun _ => ?_)
        refine lv_iload_n hx hb dX11_shared_27 rfl (lvA3 hl) ?_
        refine lv_iconst (v := 1) hx hb dX11_shared_28 kic_1 ?_
        refine lv_sipush (v := 400) hx hb dX11_shared_29 (by decide) ?_
        refine vp_callSi (runS_r (As := [.int v1, .int 1, .int 400]) (rest := []) S (q_l_within l D cI cB cZ v1 1 400) kS_RX11_80 hK hP [] rfl ⟨Nat.le_of_ble_eq_true rfl, Nat.le_of_ble_eq_true rfl⟩ ⟨Nat.le_of_ble_eq_true rfl, Nat.le_of_ble_eq_true rfl⟩ rfl hl.1 rfl (Nat.le_of_ble_eq_true rfl) dX11_shared_32) (fun r_22 h_23 => ?_)
        rcases h_23 with ⟨rfl, h_23⟩ | ⟨rfl, h_23⟩
        ·
          have h_23 : 1 ≤ v1.toInt ∧ v1.toInt ≤ 400 := h_23
          refine lv_if_eq (tgt := 43) hx hb dX11_shared_35 rfl (fun h => absurd h cq_eq_1_0) (fun _ => ?_)
          refine lv_iload hx hb dX11_shared_38 (lvA0 hl) ?_
          refine lv_if_ne (tgt := 45) hx hb dX11_shared_40 rfl (fun _ => ?_) (fun h => absurd h cq_eq_1_0)
          refine lv_aload_n hx hb dX11_shared_45 rfl (lvA1 hl) ?_
          refine lv_iload_n hx hb dX11_shared_46 rfl (lvA2 hl) ?_
          have hFc := free_all hD hS hA
          refine va_calli (runV_xa (As := [.int v0]) (rest := []) S (q_XstartTrial l D cI cB cZ zz qq vv bt g ad cn In Fn v0 s.heap.size hB) kV_RX11_276 hK hXS hS hFc hP hD 0 xo_0 rfl rfl ⟨Nat.le_of_ble_eq_true rfl, Nat.le_of_ble_eq_true rfl⟩ ⟨Nat.le_of_ble_eq_true rfl, Nat.le_of_ble_eq_true rfl⟩ rfl hl.1 rfl (Nat.le_of_ble_eq_true rfl) dX11_shared_47) hS (fun q _ h => hFc q h) hFc (fun r_24 u t H1 locs ht hvm wh_25 hB1 hz1 hk1 hS => ?_)
          obtain ⟨cn25, In25, Fn25⟩ := u
          obtain ⟨hP1, hD1⟩ := hB1
          rw [ht] at hP1
          have hP : va_P D vwCl (wX cI (D.1 99) zz g ad cn25 In25 Fn25) H1 := hP1
          have hD : va_D A (wX cI (D.1 99) zz g ad cn25 In25 Fn25) := hD1.weaken (fun _ _ _ h => hFc _ h)
          generalize H1 = H at hP hS ⊢
          have vh_25 : (fun r c2 I2 F2 => Fr [] [] [105] cn In Fn c2 I2 F2 ∧ CBX c2 ∧ (True)) r_24 cn25 In25 Fn25 := wh_25
          obtain ⟨hfc25, hIn25, h_25⟩ := vh_25
          obtain rfl : cn = cn25 := (funext (fun k => hfc25.1 k List.not_mem_nil)).symm
          obtain rfl : In = In25 := (funext (fun k => hfc25.2.1 k List.not_mem_nil)).symm
          have hf25 : Fr [4] [] [30, 31, 32, 33, 34, 35, 105] cn In Fn cn In Fn25 := Fr.mo (Fr.tr (Fr.rf (cn := cn) (In := In) (Fn := Fn)) hfc25) (sbl rfl) (sbl rfl) (sbl rfl)
          replace hIn25 : CBXh cn := hIn25
          refine lv_if_eq (tgt := 64) hx hb dX11_shared_50 rfl (fun c_26 => ?_) (fun c_26 => ?_)
          ·
            have tc_26 : (r_24.toInt : Int) = 0 := congrArg Int32.toInt c_26
            refine lv_bipush (v := (-2)) hx hb dX11_shared_64 kbc_m2 ?_
            exact W.iret (v := (-2)) hx hb hr (fun t ht hW => ⟨⟨(-2), (cn, In, Fn25), rfl, ⟨(Fr.mo hf25 (sbl rfl) (sbl rfl) (sbl rfl)), hIn25, trivial⟩, by rw [ht]; exact hP, hD⟩, hS.F ht⟩) hS.2.2 dX11_shared_66
          ·
            have tc_26 : (r_24.toInt : Int) ≠ 0 := fun q => c_26 (Int32.toInt_inj.mp q)
            refine lv_aload_n hx hb dX11_shared_53 rfl (lvA1 hl) ?_
            refine lv_iload_n hx hb dX11_shared_54 rfl (lvA2 hl) ?_
            refine lv_iload_n hx hb dX11_shared_55 rfl (lvA3 hl) ?_
            refine lv_bipush (v := 6) hx hb dX11_shared_56 kbc_6 ?_
            have hFc := free_all hD hS hA
            refine va_calli (runV_xa (As := [.int v0, .int v1, .int 6]) (rest := []) S (q_XgatherStops l D cI cB cZ zz qq vv bt g ad cn In Fn25 v0 v1 6 H.size hIn25 (by decide)) kV_RX11_279 hK hXS hS hFc hP hD 0 xo_0 rfl rfl ⟨Nat.le_of_ble_eq_true rfl, Nat.le_of_ble_eq_true rfl⟩ ⟨Nat.le_of_ble_eq_true rfl, Nat.le_of_ble_eq_true rfl⟩ rfl hl.1 rfl (Nat.le_of_ble_eq_true rfl) dX11_shared_58) hS (fun q _ h => hFc q h) hFc (fun r_27 u t H1 locs ht hvm wh_28 hB1 hz1 hk1 hS => ?_)
            obtain ⟨cn28, In28, Fn28⟩ := u
            obtain ⟨hP1, hD1⟩ := hB1
            rw [ht] at hP1
            have hP : va_P D vwCl (wX cI (D.1 99) zz g ad cn28 In28 Fn28) H1 := hP1
            have hD : va_D A (wX cI (D.1 99) zz g ad cn28 In28 Fn28) := hD1.weaken (fun _ _ _ h => hFc _ h)
            generalize H1 = H at hP hS ⊢
            have vh_28 : (fun r c2 I2 F2 => Fr [4] [] [30, 31, 32, 33, 34, 35] cn In Fn25 c2 I2 F2 ∧ CBX c2 ∧ (True)) r_27 cn28 In28 Fn28 := wh_28
            obtain ⟨hfc28, hIn28, h_28⟩ := vh_28
            obtain rfl : In = In28 := (funext (fun k => hfc28.2.1 k List.not_mem_nil)).symm
            have hf28 : Fr [4] [] [30, 31, 32, 33, 34, 35, 105] cn In Fn cn28 In Fn28 := Fr.mo (Fr.tr hf25 hfc28) (sbl rfl) (sbl rfl) (sbl rfl)
            have hb_cn28 : Hid (CBX cn28) := hIn28
            replace hIn28 : CBXh cn28 := hIn28
            have : cn28 6 = (cn 6) := hfc28.1 6 (nml rfl)
            have : cn28 31 = (cn 31) := hfc28.1 31 (nml rfl)
            have : cn28 32 = (cn 32) := hfc28.1 32 (nml rfl)
            have hq_cn28 : Hid (cn28 0 = (cn 0) ∧ cn28 1 = (cn 1) ∧ cn28 2 = (cn 2) ∧ cn28 3 = (cn 3) ∧ cn28 5 = (cn 5) ∧ cn28 10 = (cn 10) ∧ cn28 11 = (cn 11) ∧ cn28 12 = (cn 12) ∧ cn28 13 = (cn 13) ∧ cn28 14 = (cn 14) ∧ cn28 15 = (cn 15) ∧ cn28 20 = (cn 20) ∧ cn28 21 = (cn 21) ∧ cn28 22 = (cn 22) ∧ cn28 23 = (cn 23) ∧ cn28 24 = (cn 24) ∧ cn28 25 = (cn 25)) := Hid.i (p := cn28 0 = (cn 0) ∧ cn28 1 = (cn 1) ∧ cn28 2 = (cn 2) ∧ cn28 3 = (cn 3) ∧ cn28 5 = (cn 5) ∧ cn28 10 = (cn 10) ∧ cn28 11 = (cn 11) ∧ cn28 12 = (cn 12) ∧ cn28 13 = (cn 13) ∧ cn28 14 = (cn 14) ∧ cn28 15 = (cn 15) ∧ cn28 20 = (cn 20) ∧ cn28 21 = (cn 21) ∧ cn28 22 = (cn 22) ∧ cn28 23 = (cn 23) ∧ cn28 24 = (cn 24) ∧ cn28 25 = (cn 25)) ⟨hfc28.1 0 (nml rfl), hfc28.1 1 (nml rfl), hfc28.1 2 (nml rfl), hfc28.1 3 (nml rfl), hfc28.1 5 (nml rfl), hfc28.1 10 (nml rfl), hfc28.1 11 (nml rfl), hfc28.1 12 (nml rfl), hfc28.1 13 (nml rfl), hfc28.1 14 (nml rfl), hfc28.1 15 (nml rfl), hfc28.1 20 (nml rfl), hfc28.1 21 (nml rfl), hfc28.1 22 (nml rfl), hfc28.1 23 (nml rfl), hfc28.1 24 (nml rfl), hfc28.1 25 (nml rfl)⟩
            refine lv_if_ne (tgt := 67) hx hb dX11_shared_61 rfl (fun c_29 => ?_) (fun c_29 => ?_)
            ·
              have tc_29 : (r_27.toInt : Int) ≠ 0 := fun q => c_29 (Int32.toInt_inj.mp q)
              refine lv_aload_n hx hb dX11_shared_67 rfl (lvA1 hl) ?_
              refine lv_iload_n hx hb dX11_shared_68 rfl (lvA2 hl) ?_
              refine vp_callSi (runV_rxa (As := [.int v0]) (rest := []) S (q_XbestShares l D cI cB cZ zz qq vv bt g ad cn28 In Fn28 v0 hIn28) kV_RX11_324 hK hXS hS hP 0 xo_0 rfl rfl ⟨Nat.le_of_ble_eq_true rfl, Nat.le_of_ble_eq_true rfl⟩ ⟨Nat.le_of_ble_eq_true rfl, Nat.le_of_ble_eq_true rfl⟩ rfl hl.1 rfl (Nat.le_of_ble_eq_true rfl) dX11_shared_69) (fun r_30 h_31 => ?_)
              refine lv_istore (lv' := [(5, .int r_30), (4, .int 1), (0, .ref (g 0)), (1, .int v0), (2, .int v1), (3, .int v2)]) hx hb dX11_shared_72 hl (ltb rfl) rfl (fun ls hl => ?_)
              refine lv_iload hx hb dX11_shared_74 (lvA0 hl) ?_
              refine lv_iconst (v := (-1)) hx hb dX11_shared_76 kic_m1 ?_
              refine lv_icmp_ne (tgt := 83) hx hb dX11_shared_77 rfl (fun c_32 => ?_) (fun c_32 => ?_)
              ·
                have tc_32 : (r_30.toInt : Int) ≠ (-1) := fun q => c_32 (Int32.toInt_inj.mp q)
                refine lv_iload_n hx hb dX11_shared_83 rfl (lvA5 hl) ?_
                refine lv_iconst (v := (-1)) hx hb dX11_shared_84 kic_m1 ?_
                refine lv_icmp_ne (tgt := 98) hx hb dX11_shared_85 rfl (fun c_33 => ?_) (fun c_33 => ?_)
                ·
                  have tc_33 : (v2.toInt : Int) ≠ (-1) := fun q => c_33 (Int32.toInt_inj.mp q)
                  refine lv_aload_n hx hb dX11_shared_98 rfl (lvA2 hl) ?_
                  refine lv_iload hx hb dX11_shared_99 (lvA0 hl) ?_
                  refine lv_iload_n hx hb dX11_shared_101 rfl (lvA5 hl) ?_
                  refine vp_callSi (runV_rxa (As := [.int r_30, .int v2]) (rest := []) S (q_XlorryOf l D cI cB cZ zz qq vv bt g ad cn28 In Fn28 r_30 v2 hIn28) kV_RX11_330 hK hXS hS hP 0 xo_0 rfl rfl ⟨Nat.le_of_ble_eq_true rfl, Nat.le_of_ble_eq_true rfl⟩ ⟨Nat.le_of_ble_eq_true rfl, Nat.le_of_ble_eq_true rfl⟩ rfl hl.1 rfl (Nat.le_of_ble_eq_true rfl) dX11_shared_102) (fun r_34 h_35 => ?_)
                  exact W.iret (v := r_34) hx hb hr (fun t ht hW => ⟨⟨r_34, (cn28, In, Fn28), rfl, ⟨(Fr.mo hf28 (sbl rfl) (sbl rfl) (sbl rfl)), hIn28, trivial⟩, by rw [ht]; exact hP, hD⟩, hS.F ht⟩) hS.2.2 dX11_shared_105
                ·
                  have tc_33 : (v2.toInt : Int) = (-1) := congrArg Int32.toInt c_33
                  refine lv_aload_n hx hb dX11_shared_88 rfl (lvA2 hl) ?_
                  refine lv_iload hx hb dX11_shared_89 (lvA0 hl) ?_
                  refine lv_iload_n hx hb dX11_shared_91 rfl (lvA3 hl) ?_
                  refine vp_callSi (runV_rxa (As := [.int r_30, .int v0]) (rest := []) S (q_XsharedLength l D cI cB cZ zz qq vv bt g ad cn28 In Fn28 r_30 v0 hIn28) kV_RX11_327 hK hXS hS hP 0 xo_0 rfl rfl ⟨Nat.le_of_ble_eq_true rfl, Nat.le_of_ble_eq_true rfl⟩ ⟨Nat.le_of_ble_eq_true rfl, Nat.le_of_ble_eq_true rfl⟩ rfl hl.1 rfl (Nat.le_of_ble_eq_true rfl) dX11_shared_92) (fun r_36 h_37 => ?_)
                  refine lv_goto (tgt := 105) hx hb dX11_shared_95 rfl ?_
                  exact W.iret (v := r_36) hx hb hr (fun t ht hW => ⟨⟨r_36, (cn28, In, Fn28), rfl, ⟨(Fr.mo hf28 (sbl rfl) (sbl rfl) (sbl rfl)), hIn28, trivial⟩, by rw [ht]; exact hP, hD⟩, hS.F ht⟩) hS.2.2 dX11_shared_105
              ·
                have tc_32 : (r_30.toInt : Int) = (-1) := congrArg Int32.toInt c_32
                refine lv_bipush (v := (-2)) hx hb dX11_shared_80 kbc_m2 ?_
                exact W.iret (v := (-2)) hx hb hr (fun t ht hW => ⟨⟨(-2), (cn28, In, Fn28), rfl, ⟨(Fr.mo hf28 (sbl rfl) (sbl rfl) (sbl rfl)), hIn28, trivial⟩, by rw [ht]; exact hP, hD⟩, hS.F ht⟩) hS.2.2 dX11_shared_82
            ·
              have tc_29 : (r_27.toInt : Int) = 0 := congrArg Int32.toInt c_29
              refine lv_bipush (v := (-2)) hx hb dX11_shared_64 kbc_m2 ?_
              exact W.iret (v := (-2)) hx hb hr (fun t ht hW => ⟨⟨(-2), (cn28, In, Fn28), rfl, ⟨(Fr.mo hf28 (sbl rfl) (sbl rfl) (sbl rfl)), hIn28, trivial⟩, by rw [ht]; exact hP, hD⟩, hS.F ht⟩) hS.2.2 dX11_shared_66
        ·
          have h_23 : ¬ (1 ≤ v1.toInt ∧ v1.toInt ≤ 400) := h_23
          refine lv_if_eq (tgt := 43) hx hb dX11_shared_35 rfl (fun _ => ?_) (fun h => absurd h cq_eq_0_0)
          refine lv_iconst (v := (-1)) hx hb dX11_shared_43 kic_m1 ?_
          exact W.iret (v := (-1)) hx hb hr (fun t ht hW => ⟨⟨(-1), (cn, In, Fn), rfl, ⟨(Fr.mo Fr.rf (sbl rfl) (sbl rfl) (sbl rfl)), hB, trivial⟩, by rw [ht]; exact hP, hD⟩, hS.F ht⟩) hS.2.2 dX11_shared_44
      ·
        have h_21 : ¬ (0 ≤ v0.toInt ∧ v0.toInt ≤ 399) := h_21
        refine lv_if_eq (tgt := 43) hx hb dX11_shared_24 rfl (fun _ => ?_) (fun h => absurd h cq_eq_0_0)
        refine lv_iconst (v := (-1)) hx hb dX11_shared_43 kic_m1 ?_
        exact W.iret (v := (-1)) hx hb hr (fun t ht hW => ⟨⟨(-1), (cn, In, Fn), rfl, ⟨(Fr.mo Fr.rf (sbl rfl) (sbl rfl) (sbl rfl)), hB, trivial⟩, by rw [ht]; exact hP, hD⟩, hS.F ht⟩) hS.2.2 dX11_shared_44
    ·
      refine lv_ifnullN (tgt := 17) hx hb dX11_shared_10 rfl ?_
      refine lv_iconst (v := 0) hx hb dX11_shared_17 kic_0 ?_
      refine lv_istore (lv' := [(4, .int 0), (0, .ref (g 0)), (1, .int v0), (2, .int v1), (3, .int v2)]) hx hb dX11_shared_18 hl (ltb rfl) rfl (fun ls hl => ?_)
      refine lv_iload_n hx hb dX11_shared_20 rfl (lvA2 hl) ?_
      refine vp_callSi (runS_r (As := [.int v0]) (rest := []) S (q_l_isDay l D cI cB cZ v0) kS_RX11_99 hK hP [] rfl ⟨Nat.le_of_ble_eq_true rfl, Nat.le_of_ble_eq_true rfl⟩ ⟨Nat.le_of_ble_eq_true rfl, Nat.le_of_ble_eq_true rfl⟩ rfl hl.1 rfl (Nat.le_of_ble_eq_true rfl) dX11_shared_21) (fun r_38 h_39 => ?_)
      rcases h_39 with ⟨rfl, h_39⟩ | ⟨rfl, h_39⟩
      ·
        have h_39 : 0 ≤ v0.toInt ∧ v0.toInt ≤ 399 := h_39
        refine lv_if_eq (tgt := 43) hx hb dX11_shared_24 rfl (fun h => absurd h cq_eq_1_0) (fun _ => ?_)
        refine lv_iload_n hx hb dX11_shared_27 rfl (lvA3 hl) ?_
        refine lv_iconst (v := 1) hx hb dX11_shared_28 kic_1 ?_
        refine lv_sipush (v := 400) hx hb dX11_shared_29 (by decide) ?_
        refine vp_callSi (runS_r (As := [.int v1, .int 1, .int 400]) (rest := []) S (q_l_within l D cI cB cZ v1 1 400) kS_RX11_80 hK hP [] rfl ⟨Nat.le_of_ble_eq_true rfl, Nat.le_of_ble_eq_true rfl⟩ ⟨Nat.le_of_ble_eq_true rfl, Nat.le_of_ble_eq_true rfl⟩ rfl hl.1 rfl (Nat.le_of_ble_eq_true rfl) dX11_shared_32) (fun r_40 h_41 => ?_)
        rcases h_41 with ⟨rfl, h_41⟩ | ⟨rfl, h_41⟩
        ·
          have h_41 : 1 ≤ v1.toInt ∧ v1.toInt ≤ 400 := h_41
          refine lv_if_eq (tgt := 43) hx hb dX11_shared_35 rfl (fun h => absurd h cq_eq_1_0) (fun _ => ?_)
          refine lv_iload hx hb dX11_shared_38 (lvA0 hl) ?_
          refine lv_if_ne (tgt := 45) hx hb dX11_shared_40 rfl (fun h => absurd h cq_eq_0_0) (fun _ => ?_)
          refine lv_iconst (v := (-1)) hx hb dX11_shared_43 kic_m1 ?_
          exact W.iret (v := (-1)) hx hb hr (fun t ht hW => ⟨⟨(-1), (cn, In, Fn), rfl, ⟨(Fr.mo Fr.rf (sbl rfl) (sbl rfl) (sbl rfl)), hB, trivial⟩, by rw [ht]; exact hP, hD⟩, hS.F ht⟩) hS.2.2 dX11_shared_44
        ·
          have h_41 : ¬ (1 ≤ v1.toInt ∧ v1.toInt ≤ 400) := h_41
          refine lv_if_eq (tgt := 43) hx hb dX11_shared_35 rfl (fun _ => ?_) (fun h => absurd h cq_eq_0_0)
          refine lv_iconst (v := (-1)) hx hb dX11_shared_43 kic_m1 ?_
          exact W.iret (v := (-1)) hx hb hr (fun t ht hW => ⟨⟨(-1), (cn, In, Fn), rfl, ⟨(Fr.mo Fr.rf (sbl rfl) (sbl rfl) (sbl rfl)), hB, trivial⟩, by rw [ht]; exact hP, hD⟩, hS.F ht⟩) hS.2.2 dX11_shared_44
      ·
        have h_39 : ¬ (0 ≤ v0.toInt ∧ v0.toInt ≤ 399) := h_39
        refine lv_if_eq (tgt := 43) hx hb dX11_shared_24 rfl (fun _ => ?_) (fun h => absurd h cq_eq_0_0)
        refine lv_iconst (v := (-1)) hx hb dX11_shared_43 kic_m1 ?_
        exact W.iret (v := (-1)) hx hb hr (fun t ht hW => ⟨⟨(-1), (cn, In, Fn), rfl, ⟨(Fr.mo Fr.rf (sbl rfl) (sbl rfl) (sbl rfl)), hB, trivial⟩, by rw [ht]; exact hP, hD⟩, hS.F ht⟩) hS.2.2 dX11_shared_44
