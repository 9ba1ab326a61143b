theorem minNI {a b : Nat} (ha : a < 2 ^ 31) (hb : b < 2 ^ 31) : (if nI b < nI a then nI b else nI a) = nI (min a b) := by
  by_cases q : b < a
  · rw [if_pos (nI_lt q ha), Nat.min_eq_right (by omega)]
  · rw [if_neg (nI_nlt (by omega) hb), Nat.min_eq_left (by omega)]

set_option maxRecDepth 100000 in
theorem kS_RX11_246 : CalS RX11 246 yX11_choose cX11_choose 6 (some .long) 2 := ⟨⟨wk4_5 5 rfl rfl, wk4_5 6 rfl rfl, wk1_0 1 rfl rfl, wk4_5 7 rfl rfl⟩, ⟨nmh_0.1, nmh_0.2, pd_18⟩⟩
set_option maxRecDepth 100000 in
theorem kS_RX11_250 : CalS RX11 250 yX11_divisor cX11_divisor 7 (some .long) 2 := ⟨⟨wk4_5 8 rfl rfl, wk4_5 9 rfl rfl, wk1_0 1 rfl rfl, wk4_5 10 rfl rfl⟩, ⟨nmh_0.1, nmh_0.2, pd_45⟩⟩
set_option maxRecDepth 100000 in
theorem kS_RX11_256 : CalS RX11 256 yX11_odds cX11_odds 11 (some .long) 5 := ⟨⟨wk4_5 2 rfl rfl, wk4_5 3 rfl rfl, wk1_0 1 rfl rfl, wk4_5 4 rfl rfl⟩, ⟨nmh_0.1, nmh_0.2, pd_31⟩⟩
set_option maxRecDepth 100000 in
theorem gf_RX11_196 {p : Program} {l : Launch} {e : Env} {R : Room} {s : State} {m : MethodId} {args : Array Value} {below : List Frame} {meth : Method} {c : Code} {H : Heap} {locs : List Loc} {cells slots : Nat} {Q : State → Prop} {cc : ByteArray} {nL pc : Nat} {D : va_G} {cI cB cZ : ClassId} {ws : va_W} {rest : List Value} {ls : Array Slot} {a : Nat} {fs : List Value} {v : Value} (S : SF p m c cc nL s args RX11) (hK : KK D cI cB cZ s) (hP : va_P D vwCl ws H) (q0 : Nat) (he : ws[q0]? = some (a, .inr (3, fs))) (hv : fs[1]? = some v) (hdg : decode cc pc = .ok (.getfield 196, 3)) (kk : W p l e R s m args below meth c H locs cells slots Q (F0 m (pc + 3) ls (v :: rest))) : W p l e R s m args below meth c H locs cells slots Q (F0 m pc ls (.ref a :: rest)) :=
  va_get (C := RX2) (T := TX2) (N := 10) S.1 S.2.1 S.2.2.2.2 hin_RX2 S.2.2.2.1 hK.1 hP q0 he rfl 1 (by decide) (S.2.2.2.2 _ (wk2_17 9 rfl rfl)) (fun _ h9 => h9) hv hdg kk
set_option maxRecDepth 100000 in
theorem gf_RX11_211 {p : Program} {l : Launch} {e : Env} {R : Room} {s : State} {m : MethodId} {args : Array Value} {below : List Frame} {meth : Method} {c : Code} {H : Heap} {locs : List Loc} {cells slots : Nat} {Q : State → Prop} {cc : ByteArray} {nL pc : Nat} {D : va_G} {cI cB cZ : ClassId} {ws : va_W} {rest : List Value} {ls : Array Slot} {a : Nat} {fs : List Value} {v : Value} (S : SF p m c cc nL s args RX11) (hK : KK D cI cB cZ s) (hP : va_P D vwCl ws H) (q0 : Nat) (he : ws[q0]? = some (a, .inr (3, fs))) (hv : fs[0]? = some v) (hdg : decode cc pc = .ok (.getfield 211, 3)) (kk : W p l e R s m args below meth c H locs cells slots Q (F0 m (pc + 3) ls (v :: rest))) : W p l e R s m args below meth c H locs cells slots Q (F0 m pc ls (.ref a :: rest)) :=
  va_get (C := RX2) (T := TX2) (N := 10) S.1 S.2.1 S.2.2.2.2 hin_RX2 S.2.2.2.1 hK.1 hP q0 he rfl 0 (by decide) (S.2.2.2.2 _ (wk2_17 7 rfl rfl)) (fun _ h9 => h9) hv hdg kk
set_option maxRecDepth 100000 in
theorem gf_RX11_260 {p : Program} {l : Launch} {e : Env} {R : Room} {s : State} {m : MethodId} {args : Array Value} {below : List Frame} {meth : Method} {c : Code} {H : Heap} {locs : List Loc} {cells slots : Nat} {Q : State → Prop} {cc : ByteArray} {nL pc : Nat} {D : va_G} {cI cB cZ : ClassId} {ws : va_W} {rest : List Value} {ls : Array Slot} {a : Nat} {fs : List Value} {v : Value} (S : SF p m c cc nL s args RX11) (hK : KK D cI cB cZ s) (hP : va_P D vwCl ws H) (q0 : Nat) (he : ws[q0]? = some (a, .inr (2, fs))) (hv : fs[9]? = some v) (hdg : decode cc pc = .ok (.getfield 260, 3)) (kk : W p l e R s m args below meth c H locs cells slots Q (F0 m (pc + 3) ls (v :: rest))) : W p l e R s m args below meth c H locs cells slots Q (F0 m pc ls (.ref a :: rest)) :=
  va_get (C := RX1) (T := TX1) (N := 11) S.1 S.2.1 S.2.2.2.2 hin_RX1 S.2.2.2.1 hK.1 hP q0 he rfl 9 (by decide) (S.2.2.2.2 _ (wk2_7 4 rfl rfl)) (fun _ h9 => h9) hv hdg kk
set_option maxRecDepth 100000 in
theorem gf_RX11_205 {p : Program} {l : Launch} {e : Env} {R : Room} {s : State} {m : MethodId} {args : Array Value} {below : List Frame} {meth : Method} {c : Code} {H : Heap} {locs : List Loc} {cells slots : Nat} {Q : State → Prop} {cc : ByteArray} {nL pc : Nat} {D : va_G} {cI cB cZ : ClassId} {ws : va_W} {rest : List Value} {ls : Array Slot} {a : Nat} {fs : List Value} {v : Value} (S : SF p m c cc nL s args RX11) (hK : KK D cI cB cZ s) (hP : va_P D vwCl ws H) (q0 : Nat) (he : ws[q0]? = some (a, .inr (3, fs))) (hv : fs[3]? = some v) (hdg : decode cc pc = .ok (.getfield 205, 3)) (kk : W p l e R s m args below meth c H locs cells slots Q (F0 m (pc + 3) ls (v :: rest))) : W p l e R s m args below meth c H locs cells slots Q (F0 m pc ls (.ref a :: rest)) :=
  va_get (C := RX2) (T := TX2) (N := 10) S.1 S.2.1 S.2.2.2.2 hin_RX2 S.2.2.2.1 hK.1 hP q0 he rfl 3 (by decide) (S.2.2.2.2 _ (wk2_18 3 rfl rfl)) (fun _ h9 => h9) hv hdg kk
set_option maxRecDepth 100000 in
theorem kV_RX11_456 : CalV RX11 456 yX1_comesFor cX1_comesFor 2 (some .boolean) 1 := ⟨⟨wk5_15 0 rfl rfl, wk5_15 1 rfl rfl, wk5_15 2 rfl rfl, wk1_1 2 rfl rfl, wk5_15 3 rfl rfl⟩, ⟨nmh_2.1, nmh_2.2, pd_15⟩⟩
set_option maxRecDepth 100000 in
theorem gf_RX11_459 {p : Program} {l : Launch} {e : Env} {R : Room} {s : State} {m : MethodId} {args : Array Value} {below : List Frame} {meth : Method} {c : Code} {H : Heap} {locs : List Loc} {cells slots : Nat} {Q : State → Prop} {cc : ByteArray} {nL pc : Nat} {D : va_G} {cI cB cZ : ClassId} {ws : va_W} {rest : List Value} {ls : Array Slot} {a : Nat} {fs : List Value} {v : Value} (S : SF p m c cc nL s args RX11) (hK : KK D cI cB cZ s) (hP : va_P D vwCl ws H) (q0 : Nat) (he : ws[q0]? = some (a, .inr (2, fs))) (hv : fs[2]? = some v) (hdg : decode cc pc = .ok (.getfield 459, 3)) (kk : W p l e R s m args below meth c H locs cells slots Q (F0 m (pc + 3) ls (v :: rest))) : W p l e R s m args below meth c H locs cells slots Q (F0 m pc ls (.ref a :: rest)) :=
  va_get (C := RX1) (T := TX1) (N := 11) S.1 S.2.1 S.2.2.2.2 hin_RX1 S.2.2.2.1 hK.1 hP q0 he rfl 2 (by decide) (S.2.2.2.2 _ (wk2_6 6 rfl rfl)) (fun _ h9 => h9) hv hdg kk
set_option maxRecDepth 100000 in
theorem kV_RX11_460 : CalV RX11 460 yX11_worthOf cX11_worthOf 6 (some .int) 2 := ⟨⟨wk5_14 8 rfl rfl, wk5_14 10 rfl rfl, wT_sel 56 _ rfl rfl rfl, wk1_0 1 rfl rfl, wk5_14 11 rfl rfl⟩, ⟨nmh_0.1, nmh_0.2, pd_17⟩⟩
set_option maxRecDepth 100000 in
theorem kV_RX11_464 : CalV RX11 464 yX11_comers cX11_comers 4 (some .int) 1 := ⟨⟨wk5_15 9 rfl rfl, wk5_15 11 rfl rfl, wT_sel 57 _ rfl rfl rfl, wk1_0 1 rfl rfl, wk5_16 0 rfl rfl⟩, ⟨nmh_0.1, nmh_0.2, pd_8⟩⟩
set_option maxRecDepth 100000 in
theorem gf_RX11_74 {p : Program} {l : Launch} {e : Env} {R : Room} {s : State} {m : MethodId} {args : Array Value} {below : List Frame} {meth : Method} {c : Code} {H : Heap} {locs : List Loc} {cells slots : Nat} {Q : State → Prop} {cc : ByteArray} {nL pc : Nat} {D : va_G} {cI cB cZ : ClassId} {ws : va_W} {rest : List Value} {ls : Array Slot} {a : Nat} {fs : List Value} {v : Value} (S : SF p m c cc nL s args RX11) (hK : KK D cI cB cZ s) (hP : va_P D vwCl ws H) (q0 : Nat) (he : ws[q0]? = some (a, .inr (12, fs))) (hv : fs[14]? = some v) (hdg : decode cc pc = .ok (.getfield 74, 3)) (kk : W p l e R s m args below meth c H locs cells slots Q (F0 m (pc + 3) ls (v :: rest))) : W p l e R s m args below meth c H locs cells slots Q (F0 m pc ls (.ref a :: rest)) :=
  va_get (C := RX11) (T := TX11) (N := 16) S.1 S.2.1 S.2.2.2.2 hin_RX11 S.2.2.2.1 hK.1 hP q0 he rfl 14 (by decide) (S.2.2.2.2 _ (wk2_0 10 rfl rfl)) (fun _ h9 => h9) hv hdg kk
set_option maxRecDepth 100000 in
theorem hin_RX6 : ∀ w ∈ u_ws RX6 TX6 3, w ∈ wT := hin_all (C := RX6) (T := TX6) (n := 3) (hin_s (hin_s (hin_s (fun k hk => absurd hk (Nat.not_lt_zero k)) (wk5_18 4 rfl rfl)) (wk5_18 6 rfl rfl)) (wk5_18 8 rfl rfl))
set_option maxRecDepth 100000 in
theorem gf_RX11_477 {p : Program} {l : Launch} {e : Env} {R : Room} {s : State} {m : MethodId} {args : Array Value} {below : List Frame} {meth : Method} {c : Code} {H : Heap} {locs : List Loc} {cells slots : Nat} {Q : State → Prop} {cc : ByteArray} {nL pc : Nat} {D : va_G} {cI cB cZ : ClassId} {ws : va_W} {rest : List Value} {ls : Array Slot} {a : Nat} {fs : List Value} {v : Value} (S : SF p m c cc nL s args RX11) (hK : KK D cI cB cZ s) (hP : va_P D vwCl ws H) (q0 : Nat) (he : ws[q0]? = some (a, .inr (7, fs))) (hv : fs[2]? = some v) (hdg : decode cc pc = .ok (.getfield 477, 3)) (kk : W p l e R s m args below meth c H locs cells slots Q (F0 m (pc + 3) ls (v :: rest))) : W p l e R s m args below meth c H locs cells slots Q (F0 m pc ls (.ref a :: rest)) :=
  va_get (C := RX6) (T := TX6) (N := 3) S.1 S.2.1 S.2.2.2.2 hin_RX6 S.2.2.2.1 hK.1 hP q0 he rfl 2 (by decide) (S.2.2.2.2 _ (wk5_18 3 rfl rfl)) (fun _ h9 => h9) hv hdg kk
set_option maxRecDepth 100000 in
theorem gf_RX11_480 {p : Program} {l : Launch} {e : Env} {R : Room} {s : State} {m : MethodId} {args : Array Value} {below : List Frame} {meth : Method} {c : Code} {H : Heap} {locs : List Loc} {cells slots : Nat} {Q : State → Prop} {cc : ByteArray} {nL pc : Nat} {D : va_G} {cI cB cZ : ClassId} {ws : va_W} {rest : List Value} {ls : Array Slot} {a : Nat} {fs : List Value} {v : Value} (S : SF p m c cc nL s args RX11) (hK : KK D cI cB cZ s) (hP : va_P D vwCl ws H) (q0 : Nat) (he : ws[q0]? = some (a, .inr (7, fs))) (hv : fs[0]? = some v) (hdg : decode cc pc = .ok (.getfield 480, 3)) (kk : W p l e R s m args below meth c H locs cells slots Q (F0 m (pc + 3) ls (v :: rest))) : W p l e R s m args below meth c H locs cells slots Q (F0 m pc ls (.ref a :: rest)) :=
  va_get (C := RX6) (T := TX6) (N := 3) S.1 S.2.1 S.2.2.2.2 hin_RX6 S.2.2.2.1 hK.1 hP q0 he rfl 0 (by decide) (S.2.2.2.2 _ (wk5_18 0 rfl rfl)) (fun _ h9 => h9) hv hdg kk
set_option maxRecDepth 100000 in
theorem gf_RX11_481 {p : Program} {l : Launch} {e : Env} {R : Room} {s : State} {m : MethodId} {args : Array Value} {below : List Frame} {meth : Method} {c : Code} {H : Heap} {locs : List Loc} {cells slots : Nat} {Q : State → Prop} {cc : ByteArray} {nL pc : Nat} {D : va_G} {cI cB cZ : ClassId} {ws : va_W} {rest : List Value} {ls : Array Slot} {a : Nat} {fs : List Value} {v : Value} (S : SF p m c cc nL s args RX11) (hK : KK D cI cB cZ s) (hP : va_P D vwCl ws H) (q0 : Nat) (he : ws[q0]? = some (a, .inr (7, fs))) (hv : fs[1]? = some v) (hdg : decode cc pc = .ok (.getfield 481, 3)) (kk : W p l e R s m args below meth c H locs cells slots Q (F0 m (pc + 3) ls (v :: rest))) : W p l e R s m args below meth c H locs cells slots Q (F0 m pc ls (.ref a :: rest)) :=
  va_get (C := RX6) (T := TX6) (N := 3) S.1 S.2.1 S.2.2.2.2 hin_RX6 S.2.2.2.1 hK.1 hP q0 he rfl 1 (by decide) (S.2.2.2.2 _ (wk5_18 2 rfl rfl)) (fun _ h9 => h9) hv hdg kk
set_option maxRecDepth 100000 in
theorem kV_RX11_482 : CalV RX11 482 yX11_isBeside cX11_isBeside 6 (some .boolean) 3 := ⟨⟨wk5_19 7 rfl rfl, wk5_19 9 rfl rfl, wT_sel 59 _ rfl rfl rfl, wk1_0 1 rfl rfl, wk5_19 10 rfl rfl⟩, ⟨nmh_0.1, nmh_0.2, pd_50⟩⟩
set_option maxRecDepth 100000 in
theorem gf_RX2_16 {p : Program} {l : Launch} {e : Env} {R : Room} {s : State} {m : MethodId} {args : Array Value} {below : List Frame} {meth : Method} {c : Code} {H : Heap} {locs : List Loc} {cells slots : Nat} {Q : State → Prop} {cc : ByteArray} {nL pc : Nat} {D : va_G} {cI cB cZ : ClassId} {ws : va_W} {rest : List Value} {ls : Array Slot} {a : Nat} {fs : List Value} {v : Value} (S : SF p m c cc nL s args RX2) (hK : KK D cI cB cZ s) (hP : va_P D vwCl ws H) (q0 : Nat) (he : ws[q0]? = some (a, .inr (3, fs))) (hv : fs[2]? = some v) (hdg : decode cc pc = .ok (.getfield 16, 3)) (kk : W p l e R s m args below meth c H locs cells slots Q (F0 m (pc + 3) ls (v :: rest))) : W p l e R s m args below meth c H locs cells slots Q (F0 m pc ls (.ref a :: rest)) :=
  va_get (C := RX2) (T := TX2) (N := 10) S.1 S.2.1 S.2.2.2.2 hin_RX2 S.2.2.2.1 hK.1 hP q0 he rfl 2 (by decide) (S.2.2.2.2 _ (wk2_17 10 rfl rfl)) (fun _ h9 => h9) hv hdg kk
set_option maxRecDepth 100000 in
theorem gf_RX11_128 {p : Program} {l : Launch} {e : Env} {R : Room} {s : State} {m : MethodId} {args : Array Value} {below : List Frame} {meth : Method} {c : Code} {H : Heap} {locs : List Loc} {cells slots : Nat} {Q : State → Prop} {cc : ByteArray} {nL pc : Nat} {D : va_G} {cI cB cZ : ClassId} {ws : va_W} {rest : List Value} {ls : Array Slot} {a : Nat} {fs : List Value} {v : Value} (S : SF p m c cc nL s args RX11) (hK : KK D cI cB cZ s) (hP : va_P D vwCl ws H) (q0 : Nat) (he : ws[q0]? = some (a, .inr (3, fs))) (hv : fs[6]? = some v) (hdg : decode cc pc = .ok (.getfield 128, 3)) (kk : W p l e R s m args below meth c H locs cells slots Q (F0 m (pc + 3) ls (v :: rest))) : W p l e R s m args below meth c H locs cells slots Q (F0 m pc ls (.ref a :: rest)) :=
  va_get (C := RX2) (T := TX2) (N := 10) S.1 S.2.1 S.2.2.2.2 hin_RX2 S.2.2.2.1 hK.1 hP q0 he rfl 6 (by decide) (S.2.2.2.2 _ (wk2_18 9 rfl rfl)) (fun _ h9 => h9) hv hdg kk
set_option maxRecDepth 100000 in
theorem gf_RX11_495 {p : Program} {l : Launch} {e : Env} {R : Room} {s : State} {m : MethodId} {args : Array Value} {below : List Frame} {meth : Method} {c : Code} {H : Heap} {locs : List Loc} {cells slots : Nat} {Q : State → Prop} {cc : ByteArray} {nL pc : Nat} {D : va_G} {cI cB cZ : ClassId} {ws : va_W} {rest : List Value} {ls : Array Slot} {a : Nat} {fs : List Value} {v : Value} (S : SF p m c cc nL s args RX11) (hK : KK D cI cB cZ s) (hP : va_P D vwCl ws H) (q0 : Nat) (he : ws[q0]? = some (a, .inr (2, fs))) (hv : fs[3]? = some v) (hdg : decode cc pc = .ok (.getfield 495, 3)) (kk : W p l e R s m args below meth c H locs cells slots Q (F0 m (pc + 3) ls (v :: rest))) : W p l e R s m args below meth c H locs cells slots Q (F0 m pc ls (.ref a :: rest)) :=
  va_get (C := RX1) (T := TX1) (N := 11) S.1 S.2.1 S.2.2.2.2 hin_RX1 S.2.2.2.1 hK.1 hP q0 he rfl 3 (by decide) (S.2.2.2.2 _ (wk2_6 8 rfl rfl)) (fun _ h9 => h9) hv hdg kk
set_option maxRecDepth 100000 in
theorem kV_RX11_498 : CalV RX11 498 yX11_feastedFill cX11_feastedFill 5 (some .int) 2 := ⟨⟨wk6_1 11 rfl rfl, wk6_2 1 rfl rfl, wT_sel 61 _ rfl rfl rfl, wk1_0 1 rfl rfl, wk6_2 2 rfl rfl⟩, ⟨nmh_0.1, nmh_0.2, pd_54⟩⟩
set_option maxRecDepth 100000 in
theorem kV_RX11_137 : CalV RX11 137 yX2_shortOf cX2_shortOf 2 (some .int) 1 := ⟨⟨wk3_0 10 rfl rfl, wk3_0 11 rfl rfl, wk3_1 0 rfl rfl, wk1_1 7 rfl rfl, wk3_1 1 rfl rfl⟩, ⟨nmh_3.1, nmh_3.2, pd_8⟩⟩
set_option maxRecDepth 100000 in
theorem gf_RX11_77 {p : Program} {l : Launch} {e : Env} {R : Room} {s : State} {m : MethodId} {args : Array Value} {below : List Frame} {meth : Method} {c : Code} {H : Heap} {locs : List Loc} {cells slots : Nat} {Q : State → Prop} {cc : ByteArray} {nL pc : Nat} {D : va_G} {cI cB cZ : ClassId} {ws : va_W} {rest : List Value} {ls : Array Slot} {a : Nat} {fs : List Value} {v : Value} (S : SF p m c cc nL s args RX11) (hK : KK D cI cB cZ s) (hP : va_P D vwCl ws H) (q0 : Nat) (he : ws[q0]? = some (a, .inr (12, fs))) (hv : fs[15]? = some v) (hdg : decode cc pc = .ok (.getfield 77, 3)) (kk : W p l e R s m args below meth c H locs cells slots Q (F0 m (pc + 3) ls (v :: rest))) : W p l e R s m args below meth c H locs cells slots Q (F0 m pc ls (.ref a :: rest)) :=
  va_get (C := RX11) (T := TX11) (N := 16) S.1 S.2.1 S.2.2.2.2 hin_RX11 S.2.2.2.1 hK.1 hP q0 he rfl 15 (by decide) (S.2.2.2.2 _ (wk2_0 11 rfl rfl)) (fun _ h9 => h9) hv hdg kk
set_option maxRecDepth 100000 in
theorem hin_RX3 : ∀ w ∈ u_ws RX3 TX3 3, w ∈ wT := hin_all (C := RX3) (T := TX3) (n := 3) (hin_s (hin_s (hin_s (fun k hk => absurd hk (Nat.not_lt_zero k)) (wk6_4 3 rfl rfl)) (wk6_4 5 rfl rfl)) (wk6_4 7 rfl rfl))
set_option maxRecDepth 100000 in
theorem gf_RX11_507 {p : Program} {l : Launch} {e : Env} {R : Room} {s : State} {m : MethodId} {args : Array Value} {below : List Frame} {meth : Method} {c : Code} {H : Heap} {locs : List Loc} {cells slots : Nat} {Q : State → Prop} {cc : ByteArray} {nL pc : Nat} {D : va_G} {cI cB cZ : ClassId} {ws : va_W} {rest : List Value} {ls : Array Slot} {a : Nat} {fs : List Value} {v : Value} (S : SF p m c cc nL s args RX11) (hK : KK D cI cB cZ s) (hP : va_P D vwCl ws H) (q0 : Nat) (he : ws[q0]? = some (a, .inr (4, fs))) (hv : fs[0]? = some v) (hdg : decode cc pc = .ok (.getfield 507, 3)) (kk : W p l e R s m args below meth c H locs cells slots Q (F0 m (pc + 3) ls (v :: rest))) : W p l e R s m args below meth c H locs cells slots Q (F0 m pc ls (.ref a :: rest)) :=
  va_get (C := RX3) (T := TX3) (N := 3) S.1 S.2.1 S.2.2.2.2 hin_RX3 S.2.2.2.1 hK.1 hP q0 he rfl 0 (by decide) (S.2.2.2.2 _ (wk6_3 10 rfl rfl)) (fun _ h9 => h9) hv hdg kk
set_option maxRecDepth 100000 in
theorem gf_RX11_508 {p : Program} {l : Launch} {e : Env} {R : Room} {s : State} {m : MethodId} {args : Array Value} {below : List Frame} {meth : Method} {c : Code} {H : Heap} {locs : List Loc} {cells slots : Nat} {Q : State → Prop} {cc : ByteArray} {nL pc : Nat} {D : va_G} {cI cB cZ : ClassId} {ws : va_W} {rest : List Value} {ls : Array Slot} {a : Nat} {fs : List Value} {v : Value} (S : SF p m c cc nL s args RX11) (hK : KK D cI cB cZ s) (hP : va_P D vwCl ws H) (q0 : Nat) (he : ws[q0]? = some (a, .inr (4, fs))) (hv : fs[2]? = some v) (hdg : decode cc pc = .ok (.getfield 508, 3)) (kk : W p l e R s m args below meth c H locs cells slots Q (F0 m (pc + 3) ls (v :: rest))) : W p l e R s m args below meth c H locs cells slots Q (F0 m pc ls (.ref a :: rest)) :=
  va_get (C := RX3) (T := TX3) (N := 3) S.1 S.2.1 S.2.2.2.2 hin_RX3 S.2.2.2.1 hK.1 hP q0 he rfl 2 (by decide) (S.2.2.2.2 _ (wk6_4 2 rfl rfl)) (fun _ h9 => h9) hv hdg kk
set_option maxRecDepth 100000 in
theorem kV_RX11_509 : CalV RX11 509 yX11_moveBy cX11_moveBy 6 (some (.object "OilHome$Move")) 2 := ⟨⟨wk6_2 11 rfl rfl, wk6_3 1 rfl rfl, wT_sel 62 _ rfl rfl rfl, wk1_0 1 rfl rfl, wk6_3 2 rfl rfl⟩, ⟨nmh_0.1, nmh_0.2, pd_19⟩⟩
set_option maxRecDepth 100000 in
theorem gf_RX11_516 {p : Program} {l : Launch} {e : Env} {R : Room} {s : State} {m : MethodId} {args : Array Value} {below : List Frame} {meth : Method} {c : Code} {H : Heap} {locs : List Loc} {cells slots : Nat} {Q : State → Prop} {cc : ByteArray} {nL pc : Nat} {D : va_G} {cI cB cZ : ClassId} {ws : va_W} {rest : List Value} {ls : Array Slot} {a : Nat} {fs : List Value} {v : Value} (S : SF p m c cc nL s args RX11) (hK : KK D cI cB cZ s) (hP : va_P D vwCl ws H) (q0 : Nat) (he : ws[q0]? = some (a, .inr (4, fs))) (hv : fs[1]? = some v) (hdg : decode cc pc = .ok (.getfield 516, 3)) (kk : W p l e R s m args below meth c H locs cells slots Q (F0 m (pc + 3) ls (v :: rest))) : W p l e R s m args below meth c H locs cells slots Q (F0 m pc ls (.ref a :: rest)) :=
  va_get (C := RX3) (T := TX3) (N := 3) S.1 S.2.1 S.2.2.2.2 hin_RX3 S.2.2.2.1 hK.1 hP q0 he rfl 1 (by decide) (S.2.2.2.2 _ (wk6_4 0 rfl rfl)) (fun _ h9 => h9) hv hdg kk
set_option maxRecDepth 100000 in
theorem kV_RX11_333 : CalV RX11 333 yX11_stopsOf cX11_stopsOf 6 (some .int) 2 := ⟨⟨wk4_15 9 rfl rfl, wk4_15 11 rfl rfl, wT_sel 41 _ rfl rfl rfl, wk1_0 1 rfl rfl, wk4_16 0 rfl rfl⟩, ⟨nmh_0.1, nmh_0.2, pd_17⟩⟩
set_option maxRecDepth 100000 in
theorem kV_RX11_339 : CalV RX11 339 yX10_lengthOf cX10_lengthOf 2 (some .int) 1 := ⟨⟨wk4_16 5 rfl rfl, wk4_11 0 rfl rfl, wk4_11 1 rfl rfl, wk1_0 9 rfl rfl, wk4_11 2 rfl rfl⟩, ⟨nmh_11.1, nmh_11.2, pd_8⟩⟩
set_option maxRecDepth 100000 in
theorem kV_RX11_336 : CalV RX11 336 yX10_fillOf cX10_fillOf 4 (some .int) 1 := ⟨⟨wk4_16 1 rfl rfl, wk4_16 2 rfl rfl, wk4_16 3 rfl rfl, wk1_0 9 rfl rfl, wk4_16 4 rfl rfl⟩, ⟨nmh_11.1, nmh_11.2, pd_8⟩⟩
set_option maxRecDepth 100000 in
theorem kV_RX11_327 : CalV RX11 327 yX11_sharedLength cX11_sharedLength 6 (some .int) 2 := ⟨⟨wk4_15 5 rfl rfl, wk4_15 7 rfl rfl, wT_sel 40 _ rfl rfl rfl, wk1_0 1 rfl rfl, wk4_15 8 rfl rfl⟩, ⟨nmh_0.1, nmh_0.2, pd_17⟩⟩
set_option maxRecDepth 100000 in
theorem kV_RX11_324 : CalV RX11 324 yX11_bestShares cX11_bestShares 7 (some .int) 1 := ⟨⟨wk4_15 1 rfl rfl, wk4_15 3 rfl rfl, wT_sel 39 _ rfl rfl rfl, wk1_0 1 rfl rfl, wk4_15 4 rfl rfl⟩, ⟨nmh_0.1, nmh_0.2, pd_8⟩⟩
set_option maxRecDepth 100000 in
theorem kV_RX11_330 : CalV RX11 330 yX11_lorryOf cX11_lorryOf 5 (some .int) 2 := ⟨⟨wk4_16 6 rfl rfl, wk4_16 8 rfl rfl, wT_sel 42 _ rfl rfl rfl, wk1_0 1 rfl rfl, wk4_16 9 rfl rfl⟩, ⟨nmh_0.1, nmh_0.2, pd_17⟩⟩
noncomputable def sxX11_choose_54 : List UInt8 := []
noncomputable def sxX11_choose_49 : List UInt8 := 167 :: 255 :: 232 :: 32 :: 173 :: sxX11_choose_54
noncomputable def sxX11_choose_25 : List UInt8 := 21 :: 5 :: 21 :: 4 :: 162 :: 0 :: 23 :: 32 :: 26 :: 21 :: 5 :: 100 :: 133 :: 105 :: 21 :: 5 :: 4 :: 96 :: 133 :: 109 :: 65 :: 132 :: 5 :: 1 :: sxX11_choose_49
theorem shX11_choose_0 : cX11_choose.data.toList.drop 0 = 27 :: 155 :: 0 :: 8 :: 27 :: 26 :: 164 :: 0 :: 5 :: 9 :: 173 :: 10 :: 65 :: 27 :: 26 :: 27 :: 100 :: 184 :: 0 :: 227 :: 54 :: 4 :: 3 :: 54 :: 5 :: sxX11_choose_25 := rfl
theorem shX11_choose_25 : cX11_choose.data.toList.drop 25 = 21 :: 5 :: 21 :: 4 :: 162 :: 0 :: 23 :: 32 :: 26 :: 21 :: 5 :: 100 :: 133 :: 105 :: 21 :: 5 :: 4 :: 96 :: 133 :: 109 :: 65 :: 132 :: 5 :: 1 :: sxX11_choose_49 := aq_25 shX11_choose_0
theorem shX11_choose_49 : cX11_choose.data.toList.drop 49 = 167 :: 255 :: 232 :: 32 :: 173 :: sxX11_choose_54 := aq_24 shX11_choose_25
noncomputable def sxX11_divisor_35 : List UInt8 := []
noncomputable def sxX11_divisor_24 : List UInt8 := 22 :: 5 :: 65 :: 132 :: 4 :: 1 :: 167 :: 255 :: 229 :: 30 :: 173 :: sxX11_divisor_35
theorem shX11_divisor_0 : cX11_divisor.data.toList.drop 0 = 3 :: 54 :: 4 :: 21 :: 4 :: 17 :: 0 :: 200 :: 162 :: 0 :: 25 :: 32 :: 9 :: 148 :: 153 :: 0 :: 19 :: 30 :: 32 :: 113 :: 55 :: 5 :: 32 :: 63 :: sxX11_divisor_24 := rfl
theorem shX11_divisor_24 : cX11_divisor.data.toList.drop 24 = 22 :: 5 :: 65 :: 132 :: 4 :: 1 :: 167 :: 255 :: 229 :: 30 :: 173 :: sxX11_divisor_35 := aq_24 shX11_divisor_0
noncomputable def sxX11_odds_101 : List UInt8 := []
noncomputable def sxX11_odds_97 : List UInt8 := 22 :: 9 :: 109 :: 173 :: sxX11_odds_101
noncomputable def sxX11_odds_73 : List UInt8 := 9 :: 148 :: 154 :: 0 :: 7 :: 20 :: 0 :: 254 :: 173 :: 21 :: 4 :: 154 :: 0 :: 11 :: 22 :: 5 :: 22 :: 9 :: 109 :: 167 :: 0 :: 8 :: 22 :: 7 :: sxX11_odds_97
noncomputable def sxX11_odds_49 : List UInt8 := 132 :: 7 :: 1 :: 167 :: 255 :: 219 :: 29 :: 27 :: 184 :: 0 :: 246 :: 55 :: 7 :: 22 :: 5 :: 22 :: 7 :: 184 :: 0 :: 250 :: 55 :: 9 :: 22 :: 9 :: sxX11_odds_73
noncomputable def sxX11_odds_24 : List UInt8 := 163 :: 0 :: 31 :: 22 :: 5 :: 26 :: 21 :: 7 :: 184 :: 0 :: 246 :: 29 :: 26 :: 100 :: 27 :: 21 :: 7 :: 100 :: 184 :: 0 :: 246 :: 105 :: 97 :: 55 :: 5 :: sxX11_odds_49
theorem shX11_odds_0 : cX11_odds.data.toList.drop 0 = 21 :: 4 :: 5 :: 160 :: 0 :: 6 :: 28 :: 133 :: 173 :: 9 :: 55 :: 5 :: 28 :: 54 :: 7 :: 21 :: 7 :: 27 :: 163 :: 0 :: 37 :: 21 :: 7 :: 26 :: sxX11_odds_24 := rfl
theorem shX11_odds_24 : cX11_odds.data.toList.drop 24 = 163 :: 0 :: 31 :: 22 :: 5 :: 26 :: 21 :: 7 :: 184 :: 0 :: 246 :: 29 :: 26 :: 100 :: 27 :: 21 :: 7 :: 100 :: 184 :: 0 :: 246 :: 105 :: 97 :: 55 :: 5 :: sxX11_odds_49 := aq_24 shX11_odds_0
theorem shX11_odds_49 : cX11_odds.data.toList.drop 49 = 132 :: 7 :: 1 :: 167 :: 255 :: 219 :: 29 :: 27 :: 184 :: 0 :: 246 :: 55 :: 7 :: 22 :: 5 :: 22 :: 7 :: 184 :: 0 :: 250 :: 55 :: 9 :: 22 :: 9 :: sxX11_odds_73 := aq_25 shX11_odds_24
theorem shX11_odds_73 : cX11_odds.data.toList.drop 73 = 9 :: 148 :: 154 :: 0 :: 7 :: 20 :: 0 :: 254 :: 173 :: 21 :: 4 :: 154 :: 0 :: 11 :: 22 :: 5 :: 22 :: 9 :: 109 :: 167 :: 0 :: 8 :: 22 :: 7 :: sxX11_odds_97 := aq_24 shX11_odds_49
theorem shX11_odds_97 : cX11_odds.data.toList.drop 97 = 22 :: 9 :: 109 :: 173 :: sxX11_odds_101 := aq_24 shX11_odds_73
theorem dX11_odds_100 : decode cX11_odds 100 = .ok (.lreturn, 1) := oc_173 100 (aq_3 shX11_odds_97)
noncomputable def sxX11_beyond_156 : List UInt8 := []
noncomputable def sxX11_beyond_151 : List UInt8 := 28 :: 184 :: 1 :: 0 :: 173 :: sxX11_beyond_156
noncomputable def sxX11_beyond_126 : List UInt8 := 167 :: 0 :: 4 :: 3 :: 96 :: 54 :: 5 :: 132 :: 6 :: 1 :: 167 :: 255 :: 154 :: 29 :: 21 :: 4 :: 21 :: 5 :: 42 :: 180 :: 0 :: 65 :: 182 :: 0 :: 84 :: sxX11_beyond_151
noncomputable def sxX11_beyond_102 : List UInt8 := 4 :: 167 :: 0 :: 4 :: 3 :: 96 :: 54 :: 4 :: 21 :: 5 :: 21 :: 8 :: 153 :: 0 :: 15 :: 25 :: 7 :: 180 :: 0 :: 141 :: 158 :: 0 :: 7 :: 4 :: sxX11_beyond_126
noncomputable def sxX11_beyond_76 : List UInt8 := 3 :: 54 :: 8 :: 29 :: 25 :: 7 :: 180 :: 0 :: 141 :: 158 :: 0 :: 7 :: 4 :: 167 :: 0 :: 4 :: 3 :: 96 :: 62 :: 21 :: 4 :: 21 :: 8 :: 153 :: 0 :: 7 :: sxX11_beyond_102
noncomputable def sxX11_beyond_50 : List UInt8 := 21 :: 6 :: 182 :: 0 :: 87 :: 192 :: 0 :: 93 :: 58 :: 7 :: 25 :: 7 :: 180 :: 0 :: 196 :: 16 :: 7 :: 112 :: 27 :: 160 :: 0 :: 7 :: 4 :: 167 :: 0 :: 4 :: sxX11_beyond_76
noncomputable def sxX11_beyond_24 : List UInt8 := 62 :: 3 :: 54 :: 4 :: 3 :: 54 :: 5 :: 3 :: 54 :: 6 :: 21 :: 6 :: 42 :: 180 :: 0 :: 65 :: 182 :: 0 :: 84 :: 162 :: 0 :: 96 :: 42 :: 180 :: 0 :: 65 :: sxX11_beyond_50
theorem shX11_beyond_0 : cX11_beyond.data.toList.drop 0 = 27 :: 3 :: 16 :: 6 :: 184 :: 0 :: 80 :: 153 :: 0 :: 12 :: 28 :: 3 :: 5 :: 184 :: 0 :: 80 :: 154 :: 0 :: 7 :: 20 :: 0 :: 254 :: 173 :: 3 :: sxX11_beyond_24 := rfl
theorem shX11_beyond_24 : cX11_beyond.data.toList.drop 24 = 62 :: 3 :: 54 :: 4 :: 3 :: 54 :: 5 :: 3 :: 54 :: 6 :: 21 :: 6 :: 42 :: 180 :: 0 :: 65 :: 182 :: 0 :: 84 :: 162 :: 0 :: 96 :: 42 :: 180 :: 0 :: 65 :: sxX11_beyond_50 := aq_24 shX11_beyond_0
theorem shX11_beyond_50 : cX11_beyond.data.toList.drop 50 = 21 :: 6 :: 182 :: 0 :: 87 :: 192 :: 0 :: 93 :: 58 :: 7 :: 25 :: 7 :: 180 :: 0 :: 196 :: 16 :: 7 :: 112 :: 27 :: 160 :: 0 :: 7 :: 4 :: 167 :: 0 :: 4 :: sxX11_beyond_76 := aq_26 shX11_beyond_24
theorem shX11_beyond_76 : cX11_beyond.data.toList.drop 76 = 3 :: 54 :: 8 :: 29 :: 25 :: 7 :: 180 :: 0 :: 141 :: 158 :: 0 :: 7 :: 4 :: 167 :: 0 :: 4 :: 3 :: 96 :: 62 :: 21 :: 4 :: 21 :: 8 :: 153 :: 0 :: 7 :: sxX11_beyond_102 := aq_26 shX11_beyond_50
theorem shX11_beyond_102 : cX11_beyond.data.toList.drop 102 = 4 :: 167 :: 0 :: 4 :: 3 :: 96 :: 54 :: 4 :: 21 :: 5 :: 21 :: 8 :: 153 :: 0 :: 15 :: 25 :: 7 :: 180 :: 0 :: 141 :: 158 :: 0 :: 7 :: 4 :: sxX11_beyond_126 := aq_26 shX11_beyond_76
theorem shX11_beyond_126 : cX11_beyond.data.toList.drop 126 = 167 :: 0 :: 4 :: 3 :: 96 :: 54 :: 5 :: 132 :: 6 :: 1 :: 167 :: 255 :: 154 :: 29 :: 21 :: 4 :: 21 :: 5 :: 42 :: 180 :: 0 :: 65 :: 182 :: 0 :: 84 :: sxX11_beyond_151 := aq_24 shX11_beyond_102
theorem shX11_beyond_151 : cX11_beyond.data.toList.drop 151 = 28 :: 184 :: 1 :: 0 :: 173 :: sxX11_beyond_156 := aq_25 shX11_beyond_126
theorem dX11_beyond_93 : decode cX11_beyond 93 = .ok (.iadd, 1) := oc_96 93 (aq_17 shX11_beyond_76)
theorem dX11_beyond_94 : decode cX11_beyond 94 = .ok (.istore_n 3, 1) := oc_62 94 (aq_18 shX11_beyond_76)
theorem dX11_beyond_95 : decode cX11_beyond 95 = .ok (.iload 4, 2) := oc_21 95 (aq_19 shX11_beyond_76) ub_4
theorem dX11_beyond_97 : decode cX11_beyond 97 = .ok (.iload 8, 2) := oc_21 97 (aq_21 shX11_beyond_76) ub_8
theorem dX11_beyond_99 : decode cX11_beyond 99 = .ok (.ifCond .eq 7, 3) := oc_153 99 (aq_23 shX11_beyond_76) sgw_0_7
theorem dX11_beyond_107 : decode cX11_beyond 107 = .ok (.iadd, 1) := oc_96 107 (aq_5 shX11_beyond_102)
theorem dX11_beyond_108 : decode cX11_beyond 108 = .ok (.istore 4, 2) := oc_54 108 (aq_6 shX11_beyond_102) ub_4
theorem dX11_beyond_110 : decode cX11_beyond 110 = .ok (.iload 5, 2) := oc_21 110 (aq_8 shX11_beyond_102) ub_5
theorem dX11_beyond_112 : decode cX11_beyond 112 = .ok (.iload 8, 2) := oc_21 112 (aq_10 shX11_beyond_102) ub_8
theorem dX11_beyond_114 : decode cX11_beyond 114 = .ok (.ifCond .eq 15, 3) := oc_153 114 (aq_12 shX11_beyond_102) sgw_0_15
theorem dX11_beyond_130 : decode cX11_beyond 130 = .ok (.iadd, 1) := oc_96 130 (aq_4 shX11_beyond_126)
theorem dX11_beyond_131 : decode cX11_beyond 131 = .ok (.istore 5, 2) := oc_54 131 (aq_5 shX11_beyond_126) ub_5
theorem dX11_beyond_133 : decode cX11_beyond 133 = .ok (.iinc 6 1, 3) := oc_132 133 (aq_7 shX11_beyond_126) ub_6 sgb_1
theorem dX11_beyond_136 : decode cX11_beyond 136 = .ok (.goto (-102), 3) := oc_167 136 (aq_10 shX11_beyond_126) sgw_255_154
noncomputable def sxX11_streets_169 : List UInt8 := []
noncomputable def sxX11_streets_149 : List UInt8 := 167 :: 255 :: 141 :: 29 :: 21 :: 4 :: 21 :: 5 :: 42 :: 180 :: 0 :: 65 :: 182 :: 0 :: 84 :: 28 :: 184 :: 1 :: 0 :: 173 :: sxX11_streets_169
noncomputable def sxX11_streets_125 : List UInt8 := 21 :: 9 :: 153 :: 0 :: 15 :: 25 :: 7 :: 180 :: 0 :: 141 :: 158 :: 0 :: 7 :: 4 :: 167 :: 0 :: 4 :: 3 :: 96 :: 54 :: 5 :: 132 :: 6 :: 1 :: sxX11_streets_149
noncomputable def sxX11_streets_101 : List UInt8 := 4 :: 167 :: 0 :: 4 :: 3 :: 96 :: 62 :: 21 :: 4 :: 21 :: 9 :: 153 :: 0 :: 7 :: 4 :: 167 :: 0 :: 4 :: 3 :: 96 :: 54 :: 4 :: 21 :: 5 :: sxX11_streets_125
noncomputable def sxX11_streets_76 : List UInt8 := 25 :: 8 :: 180 :: 1 :: 4 :: 27 :: 160 :: 0 :: 7 :: 4 :: 167 :: 0 :: 4 :: 3 :: 54 :: 9 :: 29 :: 25 :: 7 :: 180 :: 0 :: 141 :: 158 :: 0 :: 7 :: sxX11_streets_101
noncomputable def sxX11_streets_50 : List UInt8 := 21 :: 6 :: 182 :: 0 :: 87 :: 192 :: 0 :: 93 :: 58 :: 7 :: 42 :: 25 :: 7 :: 180 :: 0 :: 211 :: 182 :: 0 :: 114 :: 58 :: 8 :: 25 :: 8 :: 198 :: 0 :: 16 :: sxX11_streets_76
noncomputable def sxX11_streets_24 : List UInt8 := 62 :: 3 :: 54 :: 4 :: 3 :: 54 :: 5 :: 3 :: 54 :: 6 :: 21 :: 6 :: 42 :: 180 :: 0 :: 65 :: 182 :: 0 :: 84 :: 162 :: 0 :: 109 :: 42 :: 180 :: 0 :: 65 :: sxX11_streets_50
theorem shX11_streets_0 : cX11_streets.data.toList.drop 0 = 27 :: 3 :: 16 :: 9 :: 184 :: 0 :: 80 :: 153 :: 0 :: 12 :: 28 :: 3 :: 5 :: 184 :: 0 :: 80 :: 154 :: 0 :: 7 :: 20 :: 0 :: 254 :: 173 :: 3 :: sxX11_streets_24 := rfl
theorem shX11_streets_24 : cX11_streets.data.toList.drop 24 = 62 :: 3 :: 54 :: 4 :: 3 :: 54 :: 5 :: 3 :: 54 :: 6 :: 21 :: 6 :: 42 :: 180 :: 0 :: 65 :: 182 :: 0 :: 84 :: 162 :: 0 :: 109 :: 42 :: 180 :: 0 :: 65 :: sxX11_streets_50 := aq_24 shX11_streets_0
theorem shX11_streets_50 : cX11_streets.data.toList.drop 50 = 21 :: 6 :: 182 :: 0 :: 87 :: 192 :: 0 :: 93 :: 58 :: 7 :: 42 :: 25 :: 7 :: 180 :: 0 :: 211 :: 182 :: 0 :: 114 :: 58 :: 8 :: 25 :: 8 :: 198 :: 0 :: 16 :: sxX11_streets_76 := aq_26 shX11_streets_24
theorem shX11_streets_76 : cX11_streets.data.toList.drop 76 = 25 :: 8 :: 180 :: 1 :: 4 :: 27 :: 160 :: 0 :: 7 :: 4 :: 167 :: 0 :: 4 :: 3 :: 54 :: 9 :: 29 :: 25 :: 7 :: 180 :: 0 :: 141 :: 158 :: 0 :: 7 :: sxX11_streets_101 := aq_26 shX11_streets_50
theorem shX11_streets_101 : cX11_streets.data.toList.drop 101 = 4 :: 167 :: 0 :: 4 :: 3 :: 96 :: 62 :: 21 :: 4 :: 21 :: 9 :: 153 :: 0 :: 7 :: 4 :: 167 :: 0 :: 4 :: 3 :: 96 :: 54 :: 4 :: 21 :: 5 :: sxX11_streets_125 := aq_25 shX11_streets_76
theorem shX11_streets_125 : cX11_streets.data.toList.drop 125 = 21 :: 9 :: 153 :: 0 :: 15 :: 25 :: 7 :: 180 :: 0 :: 141 :: 158 :: 0 :: 7 :: 4 :: 167 :: 0 :: 4 :: 3 :: 96 :: 54 :: 5 :: 132 :: 6 :: 1 :: sxX11_streets_149 := aq_24 shX11_streets_101
theorem shX11_streets_149 : cX11_streets.data.toList.drop 149 = 167 :: 255 :: 141 :: 29 :: 21 :: 4 :: 21 :: 5 :: 42 :: 180 :: 0 :: 65 :: 182 :: 0 :: 84 :: 28 :: 184 :: 1 :: 0 :: 173 :: sxX11_streets_169 := aq_24 shX11_streets_125
theorem dX11_streets_106 : decode cX11_streets 106 = .ok (.iadd, 1) := oc_96 106 (aq_5 shX11_streets_101)
theorem dX11_streets_107 : decode cX11_streets 107 = .ok (.istore_n 3, 1) := oc_62 107 (aq_6 shX11_streets_101)
theorem dX11_streets_108 : decode cX11_streets 108 = .ok (.iload 4, 2) := oc_21 108 (aq_7 shX11_streets_101) ub_4
theorem dX11_streets_110 : decode cX11_streets 110 = .ok (.iload 9, 2) := oc_21 110 (aq_9 shX11_streets_101) ub_9
theorem dX11_streets_112 : decode cX11_streets 112 = .ok (.ifCond .eq 7, 3) := oc_153 112 (aq_11 shX11_streets_101) sgw_0_7
theorem dX11_streets_119 : decode cX11_streets 119 = .ok (.iconst 0, 1) := oc_3 119 (aq_18 shX11_streets_101)
theorem dX11_streets_120 : decode cX11_streets 120 = .ok (.iadd, 1) := oc_96 120 (aq_19 shX11_streets_101)
theorem dX11_streets_121 : decode cX11_streets 121 = .ok (.istore 4, 2) := oc_54 121 (aq_20 shX11_streets_101) ub_4
theorem dX11_streets_123 : decode cX11_streets 123 = .ok (.iload 5, 2) := oc_21 123 (aq_22 shX11_streets_101) ub_5
theorem dX11_streets_125 : decode cX11_streets 125 = .ok (.iload 9, 2) := oc_21 125 shX11_streets_125 ub_9
theorem dX11_streets_127 : decode cX11_streets 127 = .ok (.ifCond .eq 15, 3) := oc_153 127 (aq_2 shX11_streets_125) sgw_0_15
theorem dX11_streets_142 : decode cX11_streets 142 = .ok (.iconst 0, 1) := oc_3 142 (aq_17 shX11_streets_125)
theorem dX11_streets_143 : decode cX11_streets 143 = .ok (.iadd, 1) := oc_96 143 (aq_18 shX11_streets_125)
theorem dX11_streets_144 : decode cX11_streets 144 = .ok (.istore 5, 2) := oc_54 144 (aq_19 shX11_streets_125) ub_5
theorem dX11_streets_146 : decode cX11_streets 146 = .ok (.iinc 6 1, 3) := oc_132 146 (aq_21 shX11_streets_125) ub_6 sgb_1
theorem dX11_streets_149 : decode cX11_streets 149 = .ok (.goto (-115), 3) := oc_167 149 shX11_streets_149 sgw_255_141
noncomputable def sxX11_cheat_168 : List UInt8 := []
noncomputable def sxX11_cheat_150 : List UInt8 := 21 :: 4 :: 21 :: 5 :: 21 :: 6 :: 42 :: 180 :: 0 :: 65 :: 182 :: 0 :: 84 :: 29 :: 184 :: 1 :: 0 :: 173 :: sxX11_cheat_168
noncomputable def sxX11_cheat_124 : List UInt8 := 180 :: 0 :: 211 :: 27 :: 160 :: 0 :: 12 :: 21 :: 9 :: 153 :: 0 :: 7 :: 4 :: 167 :: 0 :: 4 :: 3 :: 96 :: 54 :: 6 :: 132 :: 7 :: 1 :: 167 :: 255 :: 153 :: sxX11_cheat_150
noncomputable def sxX11_cheat_99 : List UInt8 := 54 :: 4 :: 21 :: 5 :: 25 :: 8 :: 180 :: 0 :: 211 :: 27 :: 160 :: 0 :: 7 :: 4 :: 167 :: 0 :: 4 :: 3 :: 96 :: 54 :: 5 :: 21 :: 6 :: 25 :: 8 :: sxX11_cheat_124
noncomputable def sxX11_cheat_75 : List UInt8 := 28 :: 161 :: 0 :: 7 :: 4 :: 167 :: 0 :: 4 :: 3 :: 54 :: 9 :: 21 :: 4 :: 21 :: 9 :: 153 :: 0 :: 7 :: 4 :: 167 :: 0 :: 4 :: 3 :: 96 :: sxX11_cheat_99
noncomputable def sxX11_cheat_50 : List UInt8 := 182 :: 0 :: 84 :: 162 :: 0 :: 97 :: 42 :: 180 :: 0 :: 65 :: 21 :: 7 :: 182 :: 0 :: 87 :: 192 :: 0 :: 93 :: 58 :: 8 :: 25 :: 8 :: 180 :: 0 :: 205 :: sxX11_cheat_75
noncomputable def sxX11_cheat_25 : List UInt8 := 154 :: 0 :: 7 :: 20 :: 0 :: 254 :: 173 :: 3 :: 54 :: 4 :: 3 :: 54 :: 5 :: 3 :: 54 :: 6 :: 3 :: 54 :: 7 :: 21 :: 7 :: 42 :: 180 :: 0 :: 65 :: sxX11_cheat_50
theorem shX11_cheat_0 : cX11_cheat.data.toList.drop 0 = 42 :: 27 :: 182 :: 0 :: 114 :: 198 :: 0 :: 23 :: 28 :: 3 :: 17 :: 3 :: 232 :: 184 :: 0 :: 80 :: 153 :: 0 :: 12 :: 29 :: 3 :: 5 :: 184 :: 0 :: 80 :: sxX11_cheat_25 := rfl
theorem shX11_cheat_25 : cX11_cheat.data.toList.drop 25 = 154 :: 0 :: 7 :: 20 :: 0 :: 254 :: 173 :: 3 :: 54 :: 4 :: 3 :: 54 :: 5 :: 3 :: 54 :: 6 :: 3 :: 54 :: 7 :: 21 :: 7 :: 42 :: 180 :: 0 :: 65 :: sxX11_cheat_50 := aq_25 shX11_cheat_0
theorem shX11_cheat_50 : cX11_cheat.data.toList.drop 50 = 182 :: 0 :: 84 :: 162 :: 0 :: 97 :: 42 :: 180 :: 0 :: 65 :: 21 :: 7 :: 182 :: 0 :: 87 :: 192 :: 0 :: 93 :: 58 :: 8 :: 25 :: 8 :: 180 :: 0 :: 205 :: sxX11_cheat_75 := aq_25 shX11_cheat_25
theorem shX11_cheat_75 : cX11_cheat.data.toList.drop 75 = 28 :: 161 :: 0 :: 7 :: 4 :: 167 :: 0 :: 4 :: 3 :: 54 :: 9 :: 21 :: 4 :: 21 :: 9 :: 153 :: 0 :: 7 :: 4 :: 167 :: 0 :: 4 :: 3 :: 96 :: sxX11_cheat_99 := aq_25 shX11_cheat_50
theorem shX11_cheat_99 : cX11_cheat.data.toList.drop 99 = 54 :: 4 :: 21 :: 5 :: 25 :: 8 :: 180 :: 0 :: 211 :: 27 :: 160 :: 0 :: 7 :: 4 :: 167 :: 0 :: 4 :: 3 :: 96 :: 54 :: 5 :: 21 :: 6 :: 25 :: 8 :: sxX11_cheat_124 := aq_24 shX11_cheat_75
theorem shX11_cheat_124 : cX11_cheat.data.toList.drop 124 = 180 :: 0 :: 211 :: 27 :: 160 :: 0 :: 12 :: 21 :: 9 :: 153 :: 0 :: 7 :: 4 :: 167 :: 0 :: 4 :: 3 :: 96 :: 54 :: 6 :: 132 :: 7 :: 1 :: 167 :: 255 :: 153 :: sxX11_cheat_150 := aq_25 shX11_cheat_99
theorem shX11_cheat_150 : cX11_cheat.data.toList.drop 150 = 21 :: 4 :: 21 :: 5 :: 21 :: 6 :: 42 :: 180 :: 0 :: 65 :: 182 :: 0 :: 84 :: 29 :: 184 :: 1 :: 0 :: 173 :: sxX11_cheat_168 := aq_26 shX11_cheat_124
theorem dX11_cheat_117 : decode cX11_cheat 117 = .ok (.iadd, 1) := oc_96 117 (aq_18 shX11_cheat_99)
theorem dX11_cheat_118 : decode cX11_cheat 118 = .ok (.istore 5, 2) := oc_54 118 (aq_19 shX11_cheat_99) ub_5
theorem dX11_cheat_120 : decode cX11_cheat 120 = .ok (.iload 6, 2) := oc_21 120 (aq_21 shX11_cheat_99) ub_6
theorem dX11_cheat_122 : decode cX11_cheat 122 = .ok (.aload 8, 2) := oc_25 122 (aq_23 shX11_cheat_99) ub_8
theorem dX11_cheat_124 : decode cX11_cheat 124 = .ok (.getfield 211, 3) := oc_180 124 shX11_cheat_124 uw_0_211
theorem dX11_cheat_127 : decode cX11_cheat 127 = .ok (.iload_n 1, 1) := oc_27 127 (aq_3 shX11_cheat_124)
theorem dX11_cheat_128 : decode cX11_cheat 128 = .ok (.if_icmp .ne 12, 3) := oc_160 128 (aq_4 shX11_cheat_124) sgw_0_12
theorem dX11_cheat_140 : decode cX11_cheat 140 = .ok (.iconst 0, 1) := oc_3 140 (aq_16 shX11_cheat_124)
theorem dX11_cheat_141 : decode cX11_cheat 141 = .ok (.iadd, 1) := oc_96 141 (aq_17 shX11_cheat_124)
theorem dX11_cheat_142 : decode cX11_cheat 142 = .ok (.istore 6, 2) := oc_54 142 (aq_18 shX11_cheat_124) ub_6
theorem dX11_cheat_144 : decode cX11_cheat 144 = .ok (.iinc 7 1, 3) := oc_132 144 (aq_20 shX11_cheat_124) ub_7 sgb_1
theorem dX11_cheat_147 : decode cX11_cheat 147 = .ok (.goto (-103), 3) := oc_167 147 (aq_23 shX11_cheat_124) sgw_255_153
theorem dX11_cheat_131 : decode cX11_cheat 131 = .ok (.iload 9, 2) := oc_21 131 (aq_7 shX11_cheat_124) ub_9
theorem dX11_cheat_133 : decode cX11_cheat 133 = .ok (.ifCond .eq 7, 3) := oc_153 133 (aq_9 shX11_cheat_124) sgw_0_7
noncomputable def sxX11_worthOf_64 : List UInt8 := []
noncomputable def sxX11_worthOf_50 : List UInt8 := 167 :: 0 :: 4 :: 3 :: 96 :: 62 :: 132 :: 4 :: 1 :: 167 :: 255 :: 202 :: 29 :: 172 :: sxX11_worthOf_64
noncomputable def sxX11_worthOf_26 : List UInt8 := 192 :: 0 :: 91 :: 58 :: 5 :: 29 :: 25 :: 5 :: 27 :: 182 :: 1 :: 200 :: 153 :: 0 :: 15 :: 25 :: 5 :: 180 :: 1 :: 203 :: 28 :: 27 :: 100 :: 104 :: sxX11_worthOf_50
theorem shX11_worthOf_0 : cX11_worthOf.data.toList.drop 0 = 3 :: 62 :: 3 :: 54 :: 4 :: 21 :: 4 :: 42 :: 180 :: 0 :: 61 :: 182 :: 0 :: 84 :: 162 :: 0 :: 48 :: 42 :: 180 :: 0 :: 61 :: 21 :: 4 :: 182 :: 0 :: 87 :: sxX11_worthOf_26 := rfl
theorem shX11_worthOf_26 : cX11_worthOf.data.toList.drop 26 = 192 :: 0 :: 91 :: 58 :: 5 :: 29 :: 25 :: 5 :: 27 :: 182 :: 1 :: 200 :: 153 :: 0 :: 15 :: 25 :: 5 :: 180 :: 1 :: 203 :: 28 :: 27 :: 100 :: 104 :: sxX11_worthOf_50 := aq_26 shX11_worthOf_0
theorem shX11_worthOf_50 : cX11_worthOf.data.toList.drop 50 = 167 :: 0 :: 4 :: 3 :: 96 :: 62 :: 132 :: 4 :: 1 :: 167 :: 255 :: 202 :: 29 :: 172 :: sxX11_worthOf_64 := aq_24 shX11_worthOf_26
noncomputable def sxX11_comers_51 : List UInt8 := []
noncomputable def sxX11_comers_49 : List UInt8 := 28 :: 172 :: sxX11_comers_51
noncomputable def sxX11_comers_24 : List UInt8 := 192 :: 0 :: 91 :: 27 :: 182 :: 1 :: 200 :: 153 :: 0 :: 9 :: 4 :: 29 :: 120 :: 167 :: 0 :: 4 :: 3 :: 128 :: 61 :: 132 :: 3 :: 1 :: 167 :: 255 :: 214 :: sxX11_comers_49
theorem shX11_comers_0 : cX11_comers.data.toList.drop 0 = 3 :: 61 :: 3 :: 62 :: 29 :: 42 :: 180 :: 0 :: 61 :: 182 :: 0 :: 84 :: 162 :: 0 :: 37 :: 28 :: 42 :: 180 :: 0 :: 61 :: 29 :: 182 :: 0 :: 87 :: sxX11_comers_24 := rfl
theorem shX11_comers_24 : cX11_comers.data.toList.drop 24 = 192 :: 0 :: 91 :: 27 :: 182 :: 1 :: 200 :: 153 :: 0 :: 9 :: 4 :: 29 :: 120 :: 167 :: 0 :: 4 :: 3 :: 128 :: 61 :: 132 :: 3 :: 1 :: 167 :: 255 :: 214 :: sxX11_comers_49 := aq_24 shX11_comers_0
theorem shX11_comers_49 : cX11_comers.data.toList.drop 49 = 28 :: 172 :: sxX11_comers_51 := aq_25 shX11_comers_24
noncomputable def sxX11_worth_35 : List UInt8 := []
noncomputable def sxX11_worth_24 : List UInt8 := 28 :: 182 :: 1 :: 204 :: 167 :: 0 :: 6 :: 19 :: 1 :: 207 :: 172 :: sxX11_worth_35
theorem shX11_worth_0 : cX11_worth.data.toList.drop 0 = 27 :: 3 :: 17 :: 0 :: 200 :: 184 :: 0 :: 80 :: 153 :: 0 :: 23 :: 28 :: 3 :: 17 :: 3 :: 232 :: 184 :: 0 :: 80 :: 153 :: 0 :: 12 :: 42 :: 27 :: sxX11_worth_24 := rfl
theorem shX11_worth_24 : cX11_worth.data.toList.drop 24 = 28 :: 182 :: 1 :: 204 :: 167 :: 0 :: 6 :: 19 :: 1 :: 207 :: 172 :: sxX11_worth_35 := aq_24 shX11_worth_0
noncomputable def sxX11_offer_96 : List UInt8 := []
noncomputable def sxX11_offer_76 : List UInt8 := 29 :: 167 :: 0 :: 18 :: 28 :: 4 :: 160 :: 0 :: 8 :: 21 :: 4 :: 167 :: 0 :: 8 :: 42 :: 29 :: 182 :: 1 :: 208 :: 172 :: sxX11_offer_96
noncomputable def sxX11_offer_50 : List UInt8 := 54 :: 6 :: 21 :: 6 :: 21 :: 4 :: 164 :: 0 :: 10 :: 21 :: 5 :: 62 :: 21 :: 6 :: 54 :: 4 :: 132 :: 5 :: 1 :: 167 :: 255 :: 222 :: 28 :: 154 :: 0 :: 7 :: sxX11_offer_76
noncomputable def sxX11_offer_24 : List UInt8 := 42 :: 3 :: 27 :: 182 :: 1 :: 204 :: 54 :: 4 :: 4 :: 54 :: 5 :: 21 :: 5 :: 17 :: 0 :: 200 :: 163 :: 0 :: 32 :: 42 :: 21 :: 5 :: 27 :: 182 :: 1 :: 204 :: sxX11_offer_50
theorem shX11_offer_0 : cX11_offer.data.toList.drop 0 = 27 :: 3 :: 17 :: 3 :: 232 :: 184 :: 0 :: 80 :: 153 :: 0 :: 12 :: 28 :: 3 :: 5 :: 184 :: 0 :: 80 :: 154 :: 0 :: 5 :: 2 :: 172 :: 3 :: 62 :: sxX11_offer_24 := rfl
theorem shX11_offer_24 : cX11_offer.data.toList.drop 24 = 42 :: 3 :: 27 :: 182 :: 1 :: 204 :: 54 :: 4 :: 4 :: 54 :: 5 :: 21 :: 5 :: 17 :: 0 :: 200 :: 163 :: 0 :: 32 :: 42 :: 21 :: 5 :: 27 :: 182 :: 1 :: 204 :: sxX11_offer_50 := aq_24 shX11_offer_0
theorem shX11_offer_50 : cX11_offer.data.toList.drop 50 = 54 :: 6 :: 21 :: 6 :: 21 :: 4 :: 164 :: 0 :: 10 :: 21 :: 5 :: 62 :: 21 :: 6 :: 54 :: 4 :: 132 :: 5 :: 1 :: 167 :: 255 :: 222 :: 28 :: 154 :: 0 :: 7 :: sxX11_offer_76 := aq_26 shX11_offer_24
theorem shX11_offer_76 : cX11_offer.data.toList.drop 76 = 29 :: 167 :: 0 :: 18 :: 28 :: 4 :: 160 :: 0 :: 8 :: 21 :: 4 :: 167 :: 0 :: 8 :: 42 :: 29 :: 182 :: 1 :: 208 :: 172 :: sxX11_offer_96 := aq_26 shX11_offer_50
noncomputable def sxX11_isBeside_73 : List UInt8 := []
noncomputable def sxX11_isBeside_72 : List UInt8 := 172 :: sxX11_isBeside_73
noncomputable def sxX11_isBeside_48 : List UInt8 := 180 :: 1 :: 224 :: 25 :: 5 :: 180 :: 1 :: 225 :: 184 :: 1 :: 43 :: 28 :: 163 :: 0 :: 5 :: 4 :: 172 :: 132 :: 4 :: 1 :: 167 :: 255 :: 191 :: 3 :: sxX11_isBeside_72
noncomputable def sxX11_isBeside_24 : List UInt8 := 192 :: 1 :: 217 :: 58 :: 5 :: 25 :: 5 :: 180 :: 1 :: 221 :: 29 :: 161 :: 0 :: 30 :: 43 :: 180 :: 1 :: 37 :: 43 :: 180 :: 1 :: 40 :: 25 :: 5 :: sxX11_isBeside_48
theorem shX11_isBeside_0 : cX11_isBeside.data.toList.drop 0 = 3 :: 54 :: 4 :: 21 :: 4 :: 42 :: 180 :: 0 :: 74 :: 182 :: 0 :: 84 :: 162 :: 0 :: 59 :: 42 :: 180 :: 0 :: 74 :: 21 :: 4 :: 182 :: 0 :: 87 :: sxX11_isBeside_24 := rfl
theorem shX11_isBeside_24 : cX11_isBeside.data.toList.drop 24 = 192 :: 1 :: 217 :: 58 :: 5 :: 25 :: 5 :: 180 :: 1 :: 221 :: 29 :: 161 :: 0 :: 30 :: 43 :: 180 :: 1 :: 37 :: 43 :: 180 :: 1 :: 40 :: 25 :: 5 :: sxX11_isBeside_48 := aq_24 shX11_isBeside_0
theorem shX11_isBeside_48 : cX11_isBeside.data.toList.drop 48 = 180 :: 1 :: 224 :: 25 :: 5 :: 180 :: 1 :: 225 :: 184 :: 1 :: 43 :: 28 :: 163 :: 0 :: 5 :: 4 :: 172 :: 132 :: 4 :: 1 :: 167 :: 255 :: 191 :: 3 :: sxX11_isBeside_72 := aq_24 shX11_isBeside_24
theorem shX11_isBeside_72 : cX11_isBeside.data.toList.drop 72 = 172 :: sxX11_isBeside_73 := aq_24 shX11_isBeside_48
noncomputable def sxX11_beside_93 : List UInt8 := []
noncomputable def sxX11_beside_75 : List UInt8 := 4 :: 21 :: 4 :: 120 :: 167 :: 0 :: 4 :: 3 :: 128 :: 62 :: 132 :: 4 :: 1 :: 167 :: 255 :: 197 :: 29 :: 172 :: sxX11_beside_93
noncomputable def sxX11_beside_50 : List UInt8 := 192 :: 0 :: 91 :: 58 :: 5 :: 29 :: 25 :: 5 :: 180 :: 1 :: 203 :: 154 :: 0 :: 21 :: 42 :: 25 :: 5 :: 27 :: 28 :: 182 :: 1 :: 226 :: 153 :: 0 :: 10 :: sxX11_beside_75
noncomputable def sxX11_beside_24 : List UInt8 := 3 :: 62 :: 3 :: 54 :: 4 :: 21 :: 4 :: 42 :: 180 :: 0 :: 61 :: 182 :: 0 :: 84 :: 162 :: 0 :: 53 :: 42 :: 180 :: 0 :: 61 :: 21 :: 4 :: 182 :: 0 :: 87 :: sxX11_beside_50
theorem shX11_beside_0 : cX11_beside.data.toList.drop 0 = 27 :: 3 :: 17 :: 0 :: 198 :: 184 :: 0 :: 80 :: 153 :: 0 :: 14 :: 28 :: 4 :: 17 :: 3 :: 232 :: 184 :: 0 :: 80 :: 154 :: 0 :: 5 :: 2 :: 172 :: sxX11_beside_24 := rfl
theorem shX11_beside_24 : cX11_beside.data.toList.drop 24 = 3 :: 62 :: 3 :: 54 :: 4 :: 21 :: 4 :: 42 :: 180 :: 0 :: 61 :: 182 :: 0 :: 84 :: 162 :: 0 :: 53 :: 42 :: 180 :: 0 :: 61 :: 21 :: 4 :: 182 :: 0 :: 87 :: sxX11_beside_50 := aq_24 shX11_beside_0
theorem shX11_beside_50 : cX11_beside.data.toList.drop 50 = 192 :: 0 :: 91 :: 58 :: 5 :: 29 :: 25 :: 5 :: 180 :: 1 :: 203 :: 154 :: 0 :: 21 :: 42 :: 25 :: 5 :: 27 :: 28 :: 182 :: 1 :: 226 :: 153 :: 0 :: 10 :: sxX11_beside_75 := aq_26 shX11_beside_24
theorem shX11_beside_75 : cX11_beside.data.toList.drop 75 = 4 :: 21 :: 4 :: 120 :: 167 :: 0 :: 4 :: 3 :: 128 :: 62 :: 132 :: 4 :: 1 :: 167 :: 255 :: 197 :: 29 :: 172 :: sxX11_beside_93 := aq_25 shX11_beside_50
noncomputable def sxX11_late_90 : List UInt8 := []
noncomputable def sxX11_late_75 : List UInt8 := 4 :: 167 :: 0 :: 4 :: 3 :: 96 :: 62 :: 132 :: 4 :: 1 :: 167 :: 255 :: 197 :: 29 :: 172 :: sxX11_late_90
noncomputable def sxX11_late_50 : List UInt8 := 58 :: 5 :: 29 :: 25 :: 5 :: 180 :: 0 :: 211 :: 27 :: 160 :: 0 :: 20 :: 42 :: 25 :: 5 :: 180 :: 0 :: 196 :: 28 :: 182 :: 1 :: 233 :: 153 :: 0 :: 7 :: sxX11_late_75
noncomputable def sxX11_late_24 : List UInt8 := 54 :: 4 :: 21 :: 4 :: 42 :: 180 :: 0 :: 65 :: 182 :: 0 :: 84 :: 162 :: 0 :: 53 :: 42 :: 180 :: 0 :: 65 :: 21 :: 4 :: 182 :: 0 :: 87 :: 192 :: 0 :: 93 :: sxX11_late_50
theorem shX11_late_0 : cX11_late.data.toList.drop 0 = 42 :: 27 :: 182 :: 0 :: 114 :: 198 :: 0 :: 14 :: 28 :: 16 :: 216 :: 16 :: 41 :: 184 :: 0 :: 80 :: 154 :: 0 :: 5 :: 2 :: 172 :: 3 :: 62 :: 3 :: sxX11_late_24 := rfl
theorem shX11_late_24 : cX11_late.data.toList.drop 24 = 54 :: 4 :: 21 :: 4 :: 42 :: 180 :: 0 :: 65 :: 182 :: 0 :: 84 :: 162 :: 0 :: 53 :: 42 :: 180 :: 0 :: 65 :: 21 :: 4 :: 182 :: 0 :: 87 :: 192 :: 0 :: 93 :: sxX11_late_50 := aq_24 shX11_late_0
theorem shX11_late_50 : cX11_late.data.toList.drop 50 = 58 :: 5 :: 29 :: 25 :: 5 :: 180 :: 0 :: 211 :: 27 :: 160 :: 0 :: 20 :: 42 :: 25 :: 5 :: 180 :: 0 :: 196 :: 28 :: 182 :: 1 :: 233 :: 153 :: 0 :: 7 :: sxX11_late_75 := aq_26 shX11_late_24
theorem shX11_late_75 : cX11_late.data.toList.drop 75 = 4 :: 167 :: 0 :: 4 :: 3 :: 96 :: 62 :: 132 :: 4 :: 1 :: 167 :: 255 :: 197 :: 29 :: 172 :: sxX11_late_90 := aq_25 shX11_late_50
noncomputable def sxX2_shortOf_16 : List UInt8 := []
theorem shX2_shortOf_0 : cX2_shortOf.data.toList.drop 0 = 3 :: 27 :: 42 :: 180 :: 0 :: 16 :: 100 :: 27 :: 16 :: 10 :: 108 :: 100 :: 184 :: 0 :: 28 :: 172 :: sxX2_shortOf_16 := rfl
noncomputable def sxX11_feastedFill_60 : List UInt8 := []
noncomputable def sxX11_feastedFill_48 : List UInt8 := 167 :: 255 :: 218 :: 29 :: 44 :: 180 :: 1 :: 239 :: 184 :: 0 :: 227 :: 172 :: sxX11_feastedFill_60
noncomputable def sxX11_feastedFill_24 : List UInt8 := 16 :: 100 :: 42 :: 180 :: 0 :: 47 :: 180 :: 1 :: 236 :: 21 :: 4 :: 184 :: 0 :: 192 :: 96 :: 104 :: 16 :: 100 :: 108 :: 96 :: 62 :: 132 :: 4 :: 1 :: sxX11_feastedFill_48
theorem shX11_feastedFill_0 : cX11_feastedFill.data.toList.drop 0 = 3 :: 62 :: 43 :: 180 :: 0 :: 128 :: 4 :: 96 :: 54 :: 4 :: 21 :: 4 :: 43 :: 180 :: 0 :: 196 :: 163 :: 0 :: 35 :: 29 :: 44 :: 180 :: 1 :: 203 :: sxX11_feastedFill_24 := rfl
theorem shX11_feastedFill_24 : cX11_feastedFill.data.toList.drop 24 = 16 :: 100 :: 42 :: 180 :: 0 :: 47 :: 180 :: 1 :: 236 :: 21 :: 4 :: 184 :: 0 :: 192 :: 96 :: 104 :: 16 :: 100 :: 108 :: 96 :: 62 :: 132 :: 4 :: 1 :: sxX11_feastedFill_48 := aq_24 shX11_feastedFill_0
theorem shX11_feastedFill_48 : cX11_feastedFill.data.toList.drop 48 = 167 :: 255 :: 218 :: 29 :: 44 :: 180 :: 1 :: 239 :: 184 :: 0 :: 227 :: 172 :: sxX11_feastedFill_60 := aq_24 shX11_feastedFill_24
noncomputable def sxX11_feasted_69 : List UInt8 := []
noncomputable def sxX11_feasted_48 : List UInt8 := 182 :: 1 :: 242 :: 54 :: 5 :: 28 :: 154 :: 0 :: 8 :: 21 :: 5 :: 167 :: 0 :: 9 :: 45 :: 21 :: 5 :: 182 :: 0 :: 137 :: 172 :: sxX11_feasted_69
noncomputable def sxX11_feasted_24 : List UInt8 := 45 :: 198 :: 0 :: 17 :: 25 :: 4 :: 198 :: 0 :: 12 :: 28 :: 3 :: 4 :: 184 :: 0 :: 80 :: 154 :: 0 :: 5 :: 2 :: 172 :: 42 :: 45 :: 25 :: 4 :: sxX11_feasted_48
theorem shX11_feasted_0 : cX11_feasted.data.toList.drop 0 = 42 :: 27 :: 182 :: 0 :: 148 :: 78 :: 45 :: 199 :: 0 :: 7 :: 1 :: 167 :: 0 :: 11 :: 42 :: 45 :: 180 :: 0 :: 211 :: 182 :: 0 :: 114 :: 58 :: 4 :: sxX11_feasted_24 := rfl
theorem shX11_feasted_24 : cX11_feasted.data.toList.drop 24 = 45 :: 198 :: 0 :: 17 :: 25 :: 4 :: 198 :: 0 :: 12 :: 28 :: 3 :: 4 :: 184 :: 0 :: 80 :: 154 :: 0 :: 5 :: 2 :: 172 :: 42 :: 45 :: 25 :: 4 :: sxX11_feasted_48 := aq_24 shX11_feasted_0
theorem shX11_feasted_48 : cX11_feasted.data.toList.drop 48 = 182 :: 1 :: 242 :: 54 :: 5 :: 28 :: 154 :: 0 :: 8 :: 21 :: 5 :: 167 :: 0 :: 9 :: 45 :: 21 :: 5 :: 182 :: 0 :: 137 :: 172 :: sxX11_feasted_69 := aq_24 shX11_feasted_24
noncomputable def sxX11_moveBy_60 : List UInt8 := []
noncomputable def sxX11_moveBy_51 : List UInt8 := 78 :: 132 :: 4 :: 1 :: 167 :: 255 :: 206 :: 45 :: 176 :: sxX11_moveBy_60
noncomputable def sxX11_moveBy_26 : List UInt8 := 192 :: 1 :: 249 :: 58 :: 5 :: 25 :: 5 :: 180 :: 1 :: 251 :: 27 :: 160 :: 0 :: 15 :: 25 :: 5 :: 180 :: 1 :: 252 :: 28 :: 163 :: 0 :: 6 :: 25 :: 5 :: sxX11_moveBy_51
theorem shX11_moveBy_0 : cX11_moveBy.data.toList.drop 0 = 1 :: 78 :: 3 :: 54 :: 4 :: 21 :: 4 :: 42 :: 180 :: 0 :: 77 :: 182 :: 0 :: 84 :: 162 :: 0 :: 44 :: 42 :: 180 :: 0 :: 77 :: 21 :: 4 :: 182 :: 0 :: 87 :: sxX11_moveBy_26 := rfl
theorem shX11_moveBy_26 : cX11_moveBy.data.toList.drop 26 = 192 :: 1 :: 249 :: 58 :: 5 :: 25 :: 5 :: 180 :: 1 :: 251 :: 27 :: 160 :: 0 :: 15 :: 25 :: 5 :: 180 :: 1 :: 252 :: 28 :: 163 :: 0 :: 6 :: 25 :: 5 :: sxX11_moveBy_51 := aq_26 shX11_moveBy_0
theorem shX11_moveBy_51 : cX11_moveBy.data.toList.drop 51 = 78 :: 132 :: 4 :: 1 :: 167 :: 255 :: 206 :: 45 :: 176 :: sxX11_moveBy_60 := aq_25 shX11_moveBy_26
theorem dX11_moveBy_52 : decode cX11_moveBy 52 = .ok (.iinc 4 1, 3) := oc_132 52 (aq_1 shX11_moveBy_51) ub_4 sgb_1
theorem dX11_moveBy_55 : decode cX11_moveBy 55 = .ok (.goto (-50), 3) := oc_167 55 (aq_4 shX11_moveBy_51) sgw_255_206
noncomputable def sxX11_stood_52 : List UInt8 := []
noncomputable def sxX11_stood_48 : List UInt8 := 180 :: 2 :: 4 :: 172 :: sxX11_stood_52
noncomputable def sxX11_stood_24 : List UInt8 := 27 :: 28 :: 182 :: 1 :: 253 :: 78 :: 45 :: 198 :: 0 :: 11 :: 45 :: 180 :: 2 :: 4 :: 2 :: 160 :: 0 :: 8 :: 16 :: 254 :: 167 :: 0 :: 7 :: 45 :: sxX11_stood_48
theorem shX11_stood_0 : cX11_stood.data.toList.drop 0 = 27 :: 3 :: 42 :: 180 :: 1 :: 246 :: 4 :: 100 :: 184 :: 0 :: 80 :: 153 :: 0 :: 10 :: 28 :: 184 :: 0 :: 99 :: 154 :: 0 :: 5 :: 2 :: 172 :: 42 :: sxX11_stood_24 := rfl
theorem shX11_stood_24 : cX11_stood.data.toList.drop 24 = 27 :: 28 :: 182 :: 1 :: 253 :: 78 :: 45 :: 198 :: 0 :: 11 :: 45 :: 180 :: 2 :: 4 :: 2 :: 160 :: 0 :: 8 :: 16 :: 254 :: 167 :: 0 :: 7 :: 45 :: sxX11_stood_48 := aq_24 shX11_stood_0
theorem shX11_stood_48 : cX11_stood.data.toList.drop 48 = 180 :: 2 :: 4 :: 172 :: sxX11_stood_52 := aq_24 shX11_stood_24
noncomputable def sxX11_stale_94 : List UInt8 := []
noncomputable def sxX11_stale_74 : List UInt8 := 161 :: 0 :: 9 :: 4 :: 29 :: 120 :: 167 :: 0 :: 4 :: 3 :: 128 :: 61 :: 132 :: 3 :: 1 :: 167 :: 255 :: 184 :: 28 :: 172 :: sxX11_stale_94
noncomputable def sxX11_stale_50 : List UInt8 := 4 :: 167 :: 0 :: 4 :: 3 :: 54 :: 5 :: 28 :: 21 :: 5 :: 153 :: 0 :: 23 :: 42 :: 180 :: 0 :: 103 :: 25 :: 4 :: 180 :: 1 :: 252 :: 100 :: 27 :: sxX11_stale_74
noncomputable def sxX11_stale_25 : List UInt8 := 42 :: 29 :: 42 :: 180 :: 0 :: 103 :: 182 :: 1 :: 253 :: 58 :: 4 :: 25 :: 4 :: 198 :: 0 :: 16 :: 25 :: 4 :: 180 :: 2 :: 4 :: 2 :: 159 :: 0 :: 7 :: sxX11_stale_50
theorem shX11_stale_0 : cX11_stale.data.toList.drop 0 = 27 :: 3 :: 17 :: 1 :: 143 :: 184 :: 0 :: 80 :: 154 :: 0 :: 5 :: 2 :: 172 :: 3 :: 61 :: 3 :: 62 :: 29 :: 42 :: 180 :: 1 :: 246 :: 162 :: 0 :: 70 :: sxX11_stale_25 := rfl
theorem shX11_stale_25 : cX11_stale.data.toList.drop 25 = 42 :: 29 :: 42 :: 180 :: 0 :: 103 :: 182 :: 1 :: 253 :: 58 :: 4 :: 25 :: 4 :: 198 :: 0 :: 16 :: 25 :: 4 :: 180 :: 2 :: 4 :: 2 :: 159 :: 0 :: 7 :: sxX11_stale_50 := aq_25 shX11_stale_0
theorem shX11_stale_50 : cX11_stale.data.toList.drop 50 = 4 :: 167 :: 0 :: 4 :: 3 :: 54 :: 5 :: 28 :: 21 :: 5 :: 153 :: 0 :: 23 :: 42 :: 180 :: 0 :: 103 :: 25 :: 4 :: 180 :: 1 :: 252 :: 100 :: 27 :: sxX11_stale_74 := aq_25 shX11_stale_25
theorem shX11_stale_74 : cX11_stale.data.toList.drop 74 = 161 :: 0 :: 9 :: 4 :: 29 :: 120 :: 167 :: 0 :: 4 :: 3 :: 128 :: 61 :: 132 :: 3 :: 1 :: 167 :: 255 :: 184 :: 28 :: 172 :: sxX11_stale_94 := aq_24 shX11_stale_50
theorem dX11_stale_84 : decode cX11_stale 84 = .ok (.ior, 1) := oc_128 84 (aq_10 shX11_stale_74)
theorem dX11_stale_85 : decode cX11_stale 85 = .ok (.istore_n 2, 1) := oc_61 85 (aq_11 shX11_stale_74)
theorem dX11_stale_86 : decode cX11_stale 86 = .ok (.iinc 3 1, 3) := oc_132 86 (aq_12 shX11_stale_74) ub_3 sgb_1
theorem dX11_stale_89 : decode cX11_stale 89 = .ok (.goto (-72), 3) := oc_167 89 (aq_15 shX11_stale_74) sgw_255_184
noncomputable def sxX11_stopsOf_67 : List UInt8 := []
noncomputable def sxX11_stopsOf_49 : List UInt8 := 62 :: 21 :: 4 :: 42 :: 180 :: 1 :: 55 :: 108 :: 54 :: 4 :: 132 :: 5 :: 255 :: 167 :: 255 :: 210 :: 29 :: 172 :: sxX11_stopsOf_67
noncomputable def sxX11_stopsOf_25 : List UInt8 := 158 :: 0 :: 40 :: 29 :: 21 :: 4 :: 42 :: 180 :: 1 :: 55 :: 112 :: 28 :: 160 :: 0 :: 10 :: 4 :: 21 :: 5 :: 120 :: 167 :: 0 :: 4 :: 3 :: 128 :: sxX11_stopsOf_49
theorem shX11_stopsOf_0 : cX11_stopsOf.data.toList.drop 0 = 3 :: 62 :: 27 :: 54 :: 4 :: 42 :: 180 :: 0 :: 54 :: 180 :: 1 :: 11 :: 4 :: 100 :: 54 :: 5 :: 21 :: 5 :: 155 :: 0 :: 47 :: 42 :: 180 :: 1 :: 55 :: sxX11_stopsOf_25 := rfl
theorem shX11_stopsOf_25 : cX11_stopsOf.data.toList.drop 25 = 158 :: 0 :: 40 :: 29 :: 21 :: 4 :: 42 :: 180 :: 1 :: 55 :: 112 :: 28 :: 160 :: 0 :: 10 :: 4 :: 21 :: 5 :: 120 :: 167 :: 0 :: 4 :: 3 :: 128 :: sxX11_stopsOf_49 := aq_25 shX11_stopsOf_0
theorem shX11_stopsOf_49 : cX11_stopsOf.data.toList.drop 49 = 62 :: 21 :: 4 :: 42 :: 180 :: 1 :: 55 :: 108 :: 54 :: 4 :: 132 :: 5 :: 255 :: 167 :: 255 :: 210 :: 29 :: 172 :: sxX11_stopsOf_67 := aq_24 shX11_stopsOf_25
noncomputable def sxX11_lorryOf_63 : List UInt8 := []
noncomputable def sxX11_lorryOf_49 : List UInt8 := 42 :: 180 :: 1 :: 55 :: 108 :: 62 :: 132 :: 4 :: 255 :: 167 :: 255 :: 211 :: 2 :: 172 :: sxX11_lorryOf_63
noncomputable def sxX11_lorryOf_25 : List UInt8 := 42 :: 180 :: 0 :: 54 :: 180 :: 1 :: 50 :: 21 :: 4 :: 184 :: 0 :: 192 :: 28 :: 160 :: 0 :: 10 :: 29 :: 42 :: 180 :: 1 :: 55 :: 112 :: 172 :: 29 :: sxX11_lorryOf_49
theorem shX11_lorryOf_0 : cX11_lorryOf.data.toList.drop 0 = 27 :: 62 :: 42 :: 180 :: 0 :: 54 :: 180 :: 1 :: 11 :: 4 :: 100 :: 54 :: 4 :: 21 :: 4 :: 155 :: 0 :: 46 :: 42 :: 180 :: 1 :: 55 :: 158 :: 0 :: 39 :: sxX11_lorryOf_25 := rfl
theorem shX11_lorryOf_25 : cX11_lorryOf.data.toList.drop 25 = 42 :: 180 :: 0 :: 54 :: 180 :: 1 :: 50 :: 21 :: 4 :: 184 :: 0 :: 192 :: 28 :: 160 :: 0 :: 10 :: 29 :: 42 :: 180 :: 1 :: 55 :: 112 :: 172 :: 29 :: sxX11_lorryOf_49 := aq_25 shX11_lorryOf_0
theorem shX11_lorryOf_49 : cX11_lorryOf.data.toList.drop 49 = 42 :: 180 :: 1 :: 55 :: 108 :: 62 :: 132 :: 4 :: 255 :: 167 :: 255 :: 211 :: 2 :: 172 :: sxX11_lorryOf_63 := aq_24 shX11_lorryOf_25
noncomputable def sxX11_sharedLength_84 : List UInt8 := []
noncomputable def sxX11_sharedLength_75 : List UInt8 := 62 :: 132 :: 4 :: 1 :: 167 :: 255 :: 182 :: 29 :: 172 :: sxX11_sharedLength_84
noncomputable def sxX11_sharedLength_51 : List UInt8 := 180 :: 1 :: 58 :: 21 :: 4 :: 184 :: 0 :: 192 :: 164 :: 0 :: 5 :: 2 :: 172 :: 29 :: 42 :: 180 :: 0 :: 54 :: 21 :: 5 :: 182 :: 1 :: 83 :: 96 :: sxX11_sharedLength_75
noncomputable def sxX11_sharedLength_25 : List UInt8 := 153 :: 0 :: 39 :: 42 :: 21 :: 4 :: 28 :: 182 :: 1 :: 61 :: 154 :: 0 :: 27 :: 42 :: 180 :: 0 :: 54 :: 21 :: 5 :: 182 :: 1 :: 80 :: 42 :: 180 :: 0 :: 47 :: sxX11_sharedLength_51
theorem shX11_sharedLength_0 : cX11_sharedLength.data.toList.drop 0 = 3 :: 62 :: 3 :: 54 :: 4 :: 21 :: 4 :: 42 :: 180 :: 1 :: 55 :: 162 :: 0 :: 71 :: 42 :: 27 :: 21 :: 4 :: 182 :: 1 :: 77 :: 54 :: 5 :: 21 :: 5 :: sxX11_sharedLength_25 := rfl
theorem shX11_sharedLength_25 : cX11_sharedLength.data.toList.drop 25 = 153 :: 0 :: 39 :: 42 :: 21 :: 4 :: 28 :: 182 :: 1 :: 61 :: 154 :: 0 :: 27 :: 42 :: 180 :: 0 :: 54 :: 21 :: 5 :: 182 :: 1 :: 80 :: 42 :: 180 :: 0 :: 47 :: sxX11_sharedLength_51 := aq_25 shX11_sharedLength_0
theorem shX11_sharedLength_51 : cX11_sharedLength.data.toList.drop 51 = 180 :: 1 :: 58 :: 21 :: 4 :: 184 :: 0 :: 192 :: 164 :: 0 :: 5 :: 2 :: 172 :: 29 :: 42 :: 180 :: 0 :: 54 :: 21 :: 5 :: 182 :: 1 :: 83 :: 96 :: sxX11_sharedLength_75 := aq_26 shX11_sharedLength_25
theorem shX11_sharedLength_75 : cX11_sharedLength.data.toList.drop 75 = 62 :: 132 :: 4 :: 1 :: 167 :: 255 :: 182 :: 29 :: 172 :: sxX11_sharedLength_84 := aq_24 shX11_sharedLength_51
noncomputable def sxX11_bestShares_84 : List UInt8 := []
noncomputable def sxX11_bestShares_74 : List UInt8 := 54 :: 4 :: 132 :: 5 :: 1 :: 167 :: 255 :: 213 :: 29 :: 172 :: sxX11_bestShares_84
noncomputable def sxX11_bestShares_49 : List UInt8 := 54 :: 6 :: 21 :: 6 :: 2 :: 159 :: 0 :: 22 :: 29 :: 2 :: 159 :: 0 :: 10 :: 21 :: 6 :: 21 :: 4 :: 162 :: 0 :: 10 :: 21 :: 5 :: 62 :: 21 :: 6 :: sxX11_bestShares_74
noncomputable def sxX11_bestShares_25 : List UInt8 := 167 :: 255 :: 235 :: 2 :: 62 :: 3 :: 54 :: 4 :: 3 :: 54 :: 5 :: 21 :: 5 :: 28 :: 162 :: 0 :: 43 :: 42 :: 21 :: 5 :: 27 :: 182 :: 1 :: 71 :: sxX11_bestShares_49
theorem shX11_bestShares_0 : cX11_bestShares.data.toList.drop 0 = 4 :: 61 :: 3 :: 62 :: 29 :: 42 :: 180 :: 0 :: 54 :: 180 :: 1 :: 11 :: 162 :: 0 :: 16 :: 28 :: 42 :: 180 :: 1 :: 55 :: 104 :: 61 :: 132 :: 3 :: 1 :: sxX11_bestShares_25 := rfl
theorem shX11_bestShares_25 : cX11_bestShares.data.toList.drop 25 = 167 :: 255 :: 235 :: 2 :: 62 :: 3 :: 54 :: 4 :: 3 :: 54 :: 5 :: 21 :: 5 :: 28 :: 162 :: 0 :: 43 :: 42 :: 21 :: 5 :: 27 :: 182 :: 1 :: 71 :: sxX11_bestShares_49 := aq_25 shX11_bestShares_0
theorem shX11_bestShares_49 : cX11_bestShares.data.toList.drop 49 = 54 :: 6 :: 21 :: 6 :: 2 :: 159 :: 0 :: 22 :: 29 :: 2 :: 159 :: 0 :: 10 :: 21 :: 6 :: 21 :: 4 :: 162 :: 0 :: 10 :: 21 :: 5 :: 62 :: 21 :: 6 :: sxX11_bestShares_74 := aq_24 shX11_bestShares_25
theorem shX11_bestShares_74 : cX11_bestShares.data.toList.drop 74 = 54 :: 4 :: 132 :: 5 :: 1 :: 167 :: 255 :: 213 :: 29 :: 172 :: sxX11_bestShares_84 := aq_25 shX11_bestShares_49
theorem dX11_bestShares_76 : decode cX11_bestShares 76 = .ok (.iinc 5 1, 3) := oc_132 76 (aq_2 shX11_bestShares_74) ub_5 sgb_1
theorem dX11_bestShares_79 : decode cX11_bestShares 79 = .ok (.goto (-43), 3) := oc_167 79 (aq_5 shX11_bestShares_74) sgw_255_213
noncomputable def sxX11_shared_106 : List UInt8 := []
noncomputable def sxX11_shared_98 : List UInt8 := 42 :: 21 :: 5 :: 29 :: 182 :: 1 :: 74 :: 172 :: sxX11_shared_106
noncomputable def sxX11_shared_74 : List UInt8 := 21 :: 5 :: 2 :: 160 :: 0 :: 6 :: 16 :: 254 :: 172 :: 29 :: 2 :: 160 :: 0 :: 13 :: 42 :: 21 :: 5 :: 27 :: 182 :: 1 :: 71 :: 167 :: 0 :: 10 :: sxX11_shared_98
noncomputable def sxX11_shared_50 : List UInt8 := 153 :: 0 :: 14 :: 42 :: 27 :: 28 :: 16 :: 6 :: 182 :: 1 :: 23 :: 154 :: 0 :: 6 :: 16 :: 254 :: 172 :: 42 :: 27 :: 182 :: 1 :: 68 :: 54 :: 5 :: sxX11_shared_74
noncomputable def sxX11_shared_24 : List UInt8 := 153 :: 0 :: 19 :: 28 :: 4 :: 17 :: 1 :: 144 :: 184 :: 0 :: 80 :: 153 :: 0 :: 8 :: 21 :: 4 :: 154 :: 0 :: 5 :: 2 :: 172 :: 42 :: 27 :: 182 :: 1 :: 20 :: sxX11_shared_50
theorem shX11_shared_0 : cX11_shared.data.toList.drop 0 = 29 :: 2 :: 159 :: 0 :: 11 :: 42 :: 29 :: 182 :: 0 :: 114 :: 198 :: 0 :: 7 :: 4 :: 167 :: 0 :: 4 :: 3 :: 54 :: 4 :: 27 :: 184 :: 0 :: 99 :: sxX11_shared_24 := rfl
theorem shX11_shared_24 : cX11_shared.data.toList.drop 24 = 153 :: 0 :: 19 :: 28 :: 4 :: 17 :: 1 :: 144 :: 184 :: 0 :: 80 :: 153 :: 0 :: 8 :: 21 :: 4 :: 154 :: 0 :: 5 :: 2 :: 172 :: 42 :: 27 :: 182 :: 1 :: 20 :: sxX11_shared_50 := aq_24 shX11_shared_0
theorem shX11_shared_50 : cX11_shared.data.toList.drop 50 = 153 :: 0 :: 14 :: 42 :: 27 :: 28 :: 16 :: 6 :: 182 :: 1 :: 23 :: 154 :: 0 :: 6 :: 16 :: 254 :: 172 :: 42 :: 27 :: 182 :: 1 :: 68 :: 54 :: 5 :: sxX11_shared_74 := aq_26 shX11_shared_24
theorem shX11_shared_74 : cX11_shared.data.toList.drop 74 = 21 :: 5 :: 2 :: 160 :: 0 :: 6 :: 16 :: 254 :: 172 :: 29 :: 2 :: 160 :: 0 :: 13 :: 42 :: 21 :: 5 :: 27 :: 182 :: 1 :: 71 :: 167 :: 0 :: 10 :: sxX11_shared_98 := aq_24 shX11_shared_50
theorem shX11_shared_98 : cX11_shared.data.toList.drop 98 = 42 :: 21 :: 5 :: 29 :: 182 :: 1 :: 74 :: 172 :: sxX11_shared_106 := aq_24 shX11_shared_74
theorem dX11_shared_24 : decode cX11_shared 24 = .ok (.ifCond .eq 19, 3) := oc_153 24 shX11_shared_24 sgw_0_19
theorem dX11_shared_35 : decode cX11_shared 35 = .ok (.ifCond .eq 8, 3) := oc_153 35 (aq_11 shX11_shared_24) sgw_0_8
theorem dX11_shared_64 : decode cX11_shared 64 = .ok (.bipush (-2), 2) := oc_16 64 (aq_14 shX11_shared_50) sgb_254
theorem dX11_shared_66 : decode cX11_shared 66 = .ok (.ireturn, 1) := oc_172 66 (aq_16 shX11_shared_50)
theorem dX11_shared_43 : decode cX11_shared 43 = .ok (.iconst (-1), 1) := oc_2 43 (aq_19 shX11_shared_24)
theorem dX11_shared_44 : decode cX11_shared 44 = .ok (.ireturn, 1) := oc_172 44 (aq_20 shX11_shared_24)
set_option maxRecDepth 100000 in
set_option maxHeartbeats 4000000 in
theorem q_Xchoose (l : Launch) (D : va_G) (cI cB cZ : ClassId) (n0 k0 : Nat) (hn : n0 ≤ 60) (hk : k0 ≤ 60) : Met l yX11_choose (CWS yX11_choose cX11_choose 6 (some .long)) (RM 1 0 0) (PBr [.int (nI n0), .int (nI k0)] D cI cB cZ []) (vp_Sl (fun _ => True)) 0 0 (fun _ => False) := by
  refine en_r rfl pn_RX11 (Nat.le_of_ble_eq_true rfl) (fun p e s m below meth c hx hb hml hown S hr hlocks hnm hP hK hS ls hl => ?_)
  have hl : lv_has ls 6 [(0, .int (nI n0)), (1, .int (nI k0))] := hl
  refine lv_iload_n hx hb (oc_27 0 shX11_choose_0) rfl (lvA1 hl) ?_
  have : (nI k0).toInt = ((k0 : Nat) : Int) := nI_toInt (by omega)
  refine lv_if_lt (tgt := 9) hx hb (oc_155 1 (aq_1 shX11_choose_0) sgw_0_8) rfl (fun c_1 => False.elim (by have tc_1 : ((nI k0).toInt : Int) < 0 := Int32.lt_iff_toInt_lt.mp c_1; omega)) (fun c_1 => ?_)
  have tc_1 : (0 : Int) ≤ (nI k0).toInt := Int32.le_iff_toInt_le.mp (Int32.not_lt.mp c_1)
  refine lv_iload_n hx hb (oc_27 4 (aq_4 shX11_choose_0)) rfl (lvA1 hl) ?_
  refine lv_iload_n hx hb (oc_26 5 (aq_5 shX11_choose_0)) rfl (lvA0 hl) ?_
  have : (nI n0).toInt = ((n0 : Nat) : Int) := nI_toInt (by omega)
  refine lv_icmp_le (tgt := 11) hx hb (oc_164 6 (aq_6 shX11_choose_0) sgw_0_5) rfl (fun c_2 => ?_) (fun c_2 => ?_)
  ·
    have tc_2 : ((nI k0).toInt : Int) ≤ (nI n0).toInt := Int32.le_iff_toInt_le.mp c_2
    refine lv_lconst (v := 1) hx hb (oc_10 11 (aq_11 shX11_choose_0)) (by decide) ?_
    refine lv_lstore_n (lv' := [(2, .long 1), (0, .int (nI n0)), (1, .int (nI k0))]) hx hb (oc_65 12 (aq_12 shX11_choose_0)) rfl hl (ltb rfl) rfl (fun ls hl => ?_)
    refine lv_iload_n hx hb (oc_27 13 (aq_13 shX11_choose_0)) rfl (lvA2 hl) ?_
    refine lv_iload_n hx hb (oc_26 14 (aq_14 shX11_choose_0)) rfl (lvA1 hl) ?_
    refine lv_iload_n hx hb (oc_27 15 (aq_15 shX11_choose_0)) rfl (lvA2 hl) ?_
    refine lv_isub hx hb (oc_100 16 (aq_16 shX11_choose_0)) ?_
    refine lv_topi (fun y_3 ey_3 => ?_)
    obtain rfl : y_3 = (nI (n0 - k0)) := ey_3.trans (nI_sub (by omega))
    refine va_mmin hx hb (by rw [hml]; exact hl.1.symm) hown (S.2.2.2.2 _ (wk4_3 7 rfl rfl)) (S.2.2.2.2 _ (wk2_13 10 rfl rfl)) (S.2.2.2.2 _ (wk1_0 3 rfl rfl)) (S.2.2.2.2 _ (wk2_13 11 rfl rfl)) (Nat.le_of_ble_eq_true rfl) (Nat.le_of_ble_eq_true rfl) (Nat.le_of_ble_eq_true rfl) (Nat.le_of_ble_eq_true rfl) (oc_184 17 (aq_17 shX11_choose_0) uw_0_227) ?_
    refine lv_topi (fun y_4 ey_4 => ?_)
    obtain rfl : y_4 = (nI (min k0 (n0 - k0))) := ey_4.trans (minNI (by omega) (by omega))
    refine lv_istore (lv' := [(4, .int (nI (min k0 (n0 - k0)))), (2, .long 1), (0, .int (nI n0)), (1, .int (nI k0))]) hx hb (oc_54 20 (aq_20 shX11_choose_0) ub_4) hl (ltb rfl) rfl (fun ls hl => ?_)
    refine lv_iconst (v := 0) hx hb (oc_3 22 (aq_22 shX11_choose_0)) kic_0 ?_
    refine lv_istore (lv' := [(5, .int 0), (4, .int (nI (min k0 (n0 - k0)))), (2, .long 1), (0, .int (nI n0)), (1, .int (nI k0))]) hx hb (oc_54 23 (aq_23 shX11_choose_0) ub_5) hl (ltb rfl) rfl (fun ls hl => ?_)
    have lp_25 : ∀ (n : Nat) (i25 : Nat) (x25_2 : Int64) , min k0 (n0 - k0) - i25 < n → (i25 ≤ min k0 (n0 - k0)) → ∀ ls : Array Slot, lv_has ls 6 [(5, .int (nI i25)), (4, .int (nI (min k0 (n0 - k0)))), (2, .long x25_2), (0, .int (nI n0)), (1, .int (nI k0))] → W p l e (RM 1 0 0) s m ([.int (nI n0), .int (nI k0)]).toArray below meth c s.heap [] 0 0 (MQ below (vp_Sl (fun _ => True)) ([.int (nI n0), .int (nI k0)]).toArray s 0 0 (fun _ => False)) (F0 m 25 ls []) := by
      intro n25
      induction n25 with
      | zero => intros; omega
      | succ n25 ih25 =>
        intro i25 x25_2 hmu25 hinv25 ls hl
        have hr25 := hinv25
        have ti25 : (nI i25).toInt = (i25 : Int) := nI_toInt (by omega)
        refine lv_iload hx hb (oc_21 25 shX11_choose_25 ub_5) (lvA0 hl) ?_
        refine lv_iload hx hb (oc_21 27 (aq_2 shX11_choose_25) ub_4) (lvA1 hl) ?_
        have : (nI (min k0 (n0 - k0))).toInt = (((min k0 (n0 - k0)) : Nat) : Int) := nI_toInt (by omega)
        refine lv_icmp_ge (tgt := 52) hx hb (oc_162 29 (aq_4 shX11_choose_25) sgw_0_23) rfl (fun c_5 => ?_) (fun c_5 => ?_)
        ·
          have tc_5 : ((nI (min k0 (n0 - k0))).toInt : Int) ≤ (nI i25).toInt := Int32.le_iff_toInt_le.mp c_5
          refine lv_lload_n hx hb (oc_32 52 (aq_3 shX11_choose_49)) rfl (lvA2 hl) ?_
          exact W.lret (v := x25_2) hx hb hr (fun t ht hW => ⟨x25_2, rfl, trivial, ht⟩) (fun _ h => absurd h List.not_mem_nil) (oc_173 53 (aq_4 shX11_choose_49))
        ·
          have tc_5 : ((nI i25).toInt : Int) < (nI (min k0 (n0 - k0))).toInt := Int32.lt_iff_toInt_lt.mp (Int32.not_le.mp c_5)
          refine lv_lload_n hx hb (oc_32 32 (aq_7 shX11_choose_25)) rfl (lvA2 hl) ?_
          refine lv_iload_n hx hb (oc_26 33 (aq_8 shX11_choose_25)) rfl (lvA3 hl) ?_
          refine lv_iload hx hb (oc_21 34 (aq_9 shX11_choose_25) ub_5) (lvA0 hl) ?_
          refine lv_isub hx hb (oc_100 36 (aq_11 shX11_choose_25)) ?_
          refine lv_topi (fun y_6 ey_6 => ?_)
          obtain rfl : y_6 = (nI (n0 - i25)) := ey_6.trans (nI_sub (by omega))
          refine lv_i2l (v := (lN (n0 - i25))) hx hb (oc_133 37 (aq_12 shX11_choose_25)) (nI_l (by omega)) ?_
          refine lv_lmul hx hb (oc_105 38 (aq_13 shX11_choose_25)) ?_
          refine lv_iload hx hb (oc_21 39 (aq_14 shX11_choose_25) ub_5) (lvA0 hl) ?_
          refine lv_iconst (v := 1) hx hb (oc_4 41 (aq_16 shX11_choose_25)) kic_1 ?_
          refine lv_iadd hx hb (oc_96 42 (aq_17 shX11_choose_25)) ?_
          refine lv_topi (fun y_7 ey_7 => ?_)
          obtain rfl : y_7 = (nI (i25 + 1)) := ey_7.trans (nI_add i25 1)
          refine lv_i2l (v := (lN (i25 + 1))) hx hb (oc_133 43 (aq_18 shX11_choose_25)) (nI_l (by omega)) ?_
          refine lv_ldiv hx hb (oc_109 44 (aq_19 shX11_choose_25)) (lN_ne (by omega) (by omega)) ?_
          refine lv_lstore_n (lv' := [(2, .long ((x25_2 * (lN (n0 - i25))) / (lN (i25 + 1)))), (5, .int (nI i25)), (4, .int (nI (min k0 (n0 - k0)))), (0, .int (nI n0)), (1, .int (nI k0))]) hx hb (oc_65 45 (aq_20 shX11_choose_25)) rfl hl (ltb rfl) rfl (fun ls hl => ?_)
          refine lv_iinc (v := (nI (i25 + 1))) (lv' := [(5, .int (nI (i25 + 1))), (2, .long ((x25_2 * (lN (n0 - i25))) / (lN (i25 + 1)))), (4, .int (nI (min k0 (n0 - k0)))), (0, .int (nI n0)), (1, .int (nI k0))]) hx hb (oc_132 46 (aq_21 shX11_choose_25) ub_5 sgb_1) hl (k := 1) rfl (nI_1 _) (ltb rfl) rfl (fun ls hl => ?_)
          refine lv_goto (tgt := 25) hx hb (oc_167 49 shX11_choose_49 sgw_255_232) rfl ?_
          exact ih25 (i25 + 1) ((x25_2 * (lN (n0 - i25))) / (lN (i25 + 1))) (by omega) (by omega) ls (lv_sub hl [0, 2, 1, 3, 4] rfl)
    exact lp_25 _ 0 1 (Nat.lt_succ_self _) (by omega) ls (lv_sub hl [0, 1, 2, 3, 4] rfl)
  ·
    have tc_2 : ((nI n0).toInt : Int) < (nI k0).toInt := Int32.lt_iff_toInt_lt.mp (Int32.not_le.mp c_2)
    refine lv_lconst (v := 0) hx hb (oc_9 9 (aq_9 shX11_choose_0)) (by decide) ?_
    exact W.lret (v := 0) hx hb hr (fun t ht hW => ⟨0, rfl, trivial, ht⟩) (fun _ h => absurd h List.not_mem_nil) (oc_173 10 (aq_10 shX11_choose_0))
set_option maxRecDepth 100000 in
set_option maxHeartbeats 4000000 in
theorem q_Xdivisor (l : Launch) (D : va_G) (cI cB cZ : ClassId) (v0 v1 : Int64)  : Met l yX11_divisor (CWS yX11_divisor cX11_divisor 7 (some .long)) (RM 0 0 0) (PBr [.long v0, .long v1] D cI cB cZ []) (vp_Sl (fun _ => True)) 0 0 (fun _ => False) := by
  refine en_r rfl pn_RX11 (Nat.le_of_ble_eq_true rfl) (fun p e s m below meth c hx hb hml hown S hr hlocks hnm hP hK hS ls hl => ?_)
  have hl : lv_has ls 7 [(0, .long v0), (2, .long v1)] := hl
  refine lv_iconst (v := 0) hx hb (oc_3 0 shX11_divisor_0) kic_0 ?_
  refine lv_istore (lv' := [(4, .int 0), (0, .long v0), (2, .long v1)]) hx hb (oc_54 1 (aq_1 shX11_divisor_0) ub_4) hl (ltb rfl) rfl (fun ls hl => ?_)
  have lp_3 : ∀ (n : Nat) (i3 : Nat) (x3_0 : Int64) (x3_2 : Int64) , 200 - i3 < n → (i3 ≤ 200) → ∀ ls : Array Slot, lv_has ls 7 [(4, .int (nI i3)), (0, .long x3_0), (2, .long x3_2)] → W p l e (RM 0 0 0) s m ([.long v0, .long v1]).toArray below meth c s.heap [] 0 0 (MQ below (vp_Sl (fun _ => True)) ([.long v0, .long v1]).toArray s 0 0 (fun _ => False)) (F0 m 3 ls []) := by
    intro n3
    induction n3 with
    | zero => intros; omega
    | succ n3 ih3 =>
      intro i3 x3_0 x3_2 hmu3 hinv3 ls hl
      have hr3 := hinv3
      have ti3 : (nI i3).toInt = (i3 : Int) := nI_toInt (by omega)
      refine lv_iload hx hb (oc_21 3 (aq_3 shX11_divisor_0) ub_4) (lvA0 hl) ?_
      refine lv_sipush (v := 200) hx hb (oc_17 5 (aq_5 shX11_divisor_0) sgw_0_200) (by decide) ?_
      refine lv_icmp_ge (tgt := 33) hx hb (oc_162 8 (aq_8 shX11_divisor_0) sgw_0_25) rfl (fun c_1 => ?_) (fun c_1 => ?_)
      ·
        have tc_1 : (200 : Int) ≤ (nI i3).toInt := Int32.le_iff_toInt_le.mp c_1
        refine lv_lload_n hx hb (oc_30 33 (aq_9 shX11_divisor_24)) rfl (lvA1 hl) ?_
        exact W.lret (v := x3_0) hx hb hr (fun t ht hW => ⟨x3_0, rfl, trivial, ht⟩) (fun _ h => absurd h List.not_mem_nil) (oc_173 34 (aq_10 shX11_divisor_24))
      ·
        have tc_1 : ((nI i3).toInt : Int) < 200 := Int32.lt_iff_toInt_lt.mp (Int32.not_le.mp c_1)
        refine lv_lload_n hx hb (oc_32 11 (aq_11 shX11_divisor_0)) rfl (lvA2 hl) ?_
        refine lv_lconst (v := 0) hx hb (oc_9 12 (aq_12 shX11_divisor_0)) (by decide) ?_
        refine W.lcmp hx hb (oc_148 13 (aq_13 shX11_divisor_0)) ?_
        refine lv_topi (fun y_2 ey_2 => ?_)
        have zy_2 : y_2 = 0 ↔ x3_2 = 0 := lcmp0 ey_2
        refine lv_if_eq (tgt := 33) hx hb (oc_153 14 (aq_14 shX11_divisor_0) sgw_0_19) rfl (fun c_3 => ?_) (fun c_3 => ?_)
        ·
          have tc_3 : (y_2.toInt : Int) = 0 := congrArg Int32.toInt c_3
          refine lv_lload_n hx hb (oc_30 33 (aq_9 shX11_divisor_24)) rfl (lvA1 hl) ?_
          exact W.lret (v := x3_0) hx hb hr (fun t ht hW => ⟨x3_0, rfl, trivial, ht⟩) (fun _ h => absurd h List.not_mem_nil) (oc_173 34 (aq_10 shX11_divisor_24))
        ·
          have tc_3 : (y_2.toInt : Int) ≠ 0 := fun q => c_3 (Int32.toInt_inj.mp q)
          refine lv_lload_n hx hb (oc_30 17 (aq_17 shX11_divisor_0)) rfl (lvA1 hl) ?_
          refine lv_lload_n hx hb (oc_32 18 (aq_18 shX11_divisor_0)) rfl (lvA2 hl) ?_
          refine lv_lrem hx hb (oc_113 19 (aq_19 shX11_divisor_0)) (fun q => absurd (Iff.mpr (by assumption) q) (by assumption)) ?_
          refine lv_lstore (lv' := [(5, .long (x3_0 - x3_0 / x3_2 * x3_2)), (4, .int (nI i3)), (0, .long x3_0), (2, .long x3_2)]) hx hb (oc_55 20 (aq_20 shX11_divisor_0) ub_5) hl (ltb rfl) rfl (fun ls hl => ?_)
          refine lv_lload_n hx hb (oc_32 22 (aq_22 shX11_divisor_0)) rfl (lvA3 hl) ?_
          refine lv_lstore_n (lv' := [(0, .long x3_2), (5, .long (x3_0 - x3_0 / x3_2 * x3_2)), (4, .int (nI i3)), (2, .long x3_2)]) hx hb (oc_63 23 (aq_23 shX11_divisor_0)) rfl hl (ltb rfl) rfl (fun ls hl => ?_)
          refine lv_lload hx hb (oc_22 24 shX11_divisor_24 ub_5) (lvA1 hl) ?_
          refine lv_lstore_n (lv' := [(2, .long (x3_0 - x3_0 / x3_2 * x3_2)), (0, .long x3_2), (5, .long (x3_0 - x3_0 / x3_2 * x3_2)), (4, .int (nI i3))]) hx hb (oc_65 26 (aq_2 shX11_divisor_24)) rfl hl (ltb rfl) rfl (fun ls hl => ?_)
          refine lv_iinc (v := (nI (i3 + 1))) (lv' := [(4, .int (nI (i3 + 1))), (2, .long (x3_0 - x3_0 / x3_2 * x3_2)), (0, .long x3_2), (5, .long (x3_0 - x3_0 / x3_2 * x3_2))]) hx hb (oc_132 27 (aq_3 shX11_divisor_24) ub_4 sgb_1) hl (k := 3) rfl (nI_1 _) (ltb rfl) rfl (fun ls hl => ?_)
          refine lv_goto (tgt := 3) hx hb (oc_167 30 (aq_6 shX11_divisor_24) sgw_255_229) rfl ?_
          exact ih3 (i3 + 1) x3_2 (x3_0 - x3_0 / x3_2 * x3_2) (by omega) (by omega) ls (lv_sub hl [0, 2, 1] rfl)
  exact lp_3 _ 0 v0 v1 (Nat.lt_succ_self _) (by omega) ls (lv_sub hl [0, 1, 2] rfl)
set_option maxRecDepth 100000 in
set_option maxHeartbeats 4000000 in
theorem q_Xodds (l : Launch) (D : va_G) (cI cB cZ : ClassId) (a0 o0 b0 l0 : Nat) (v4 : Int32) (ha : a0 ≤ l0) (ho : o0 ≤ l0) (hl0 : l0 ≤ 60) (hb0 : b0 ≤ 60) : Met l yX11_odds (CWS yX11_odds cX11_odds 11 (some .long)) (RM 2 0 0) (PBr [.int (nI a0), .int (nI o0), .int (nI b0), .int (nI l0), .int v4] D cI cB cZ []) (vp_Sl (fun _ => True)) 0 0 (fun _ => False) := by
  refine en_r rfl pn_RX11 (Nat.le_of_ble_eq_true rfl) (fun p e s m below meth c hx hb hml hown S hr hlocks hnm hP hK hS ls hl => ?_)
  have hl : lv_has ls 11 [(0, .int (nI a0)), (1, .int (nI o0)), (2, .int (nI b0)), (3, .int (nI l0)), (4, .int v4)] := hl
  refine lv_iload hx hb (oc_21 0 shX11_odds_0 ub_4) (lvA4 hl) ?_
  refine lv_iconst (v := 2) hx hb (oc_5 2 (aq_2 shX11_odds_0)) kic_2 ?_
  refine lv_icmp_ne (tgt := 9) hx hb (oc_160 3 (aq_3 shX11_odds_0) sgw_0_6) rfl (fun c_1 => ?_) (fun c_1 => ?_)
  ·
    have tc_1 : (v4.toInt : Int) ≠ 2 := fun q => c_1 (Int32.toInt_inj.mp q)
    refine lv_lconst (v := 0) hx hb (oc_9 9 (aq_9 shX11_odds_0)) (by decide) ?_
    refine lv_lstore (lv' := [(5, .long 0), (0, .int (nI a0)), (1, .int (nI o0)), (2, .int (nI b0)), (3, .int (nI l0)), (4, .int v4)]) hx hb (oc_55 10 (aq_10 shX11_odds_0) ub_5) hl (ltb rfl) rfl (fun ls hl => ?_)
    refine lv_iload_n hx hb (oc_28 12 (aq_12 shX11_odds_0)) rfl (lvA3 hl) ?_
    refine lv_istore (lv' := [(7, .int (nI b0)), (5, .long 0), (0, .int (nI a0)), (1, .int (nI o0)), (2, .int (nI b0)), (3, .int (nI l0)), (4, .int v4)]) hx hb (oc_54 13 (aq_13 shX11_odds_0) ub_7) hl (ltb rfl) rfl (fun ls hl => ?_)
    have lp_15 : ∀ (n : Nat) (i15 : Nat) (x15_5 : Int64) , 61 - i15 < n → ((b0 ≤ i15 ∧ i15 ≤ 61)) → ∀ ls : Array Slot, lv_has ls 11 [(7, .int (nI i15)), (5, .long x15_5), (0, .int (nI a0)), (1, .int (nI o0)), (2, .int (nI b0)), (3, .int (nI l0)), (4, .int v4)] → W p l e (RM 2 0 0) s m ([.int (nI a0), .int (nI o0), .int (nI b0), .int (nI l0), .int v4]).toArray below meth c s.heap [] 0 0 (MQ below (vp_Sl (fun _ => True)) ([.int (nI a0), .int (nI o0), .int (nI b0), .int (nI l0), .int v4]).toArray s 0 0 (fun _ => False)) (F0 m 15 ls []) := by
      intro n15
      induction n15 with
      | zero => intros; omega
      | succ n15 ih15 =>
        intro i15 x15_5 hmu15 hinv15 ls hl
        have hr15 := hinv15
        have ti15 : (nI i15).toInt = (i15 : Int) := nI_toInt (by omega)
        refine lv_iload hx hb (oc_21 15 (aq_15 shX11_odds_0) ub_7) (lvA0 hl) ?_
        refine lv_iload_n hx hb (oc_27 17 (aq_17 shX11_odds_0)) rfl (lvA3 hl) ?_
        have : (nI o0).toInt = ((o0 : Nat) : Int) := nI_toInt (by omega)
        refine lv_icmp_gt (tgt := 55) hx hb (oc_163 18 (aq_18 shX11_odds_0) sgw_0_37) rfl (fun c_2 => ?_) (fun c_2 => ?_)
        ·
          have tc_2 : ((nI o0).toInt : Int) < (nI i15).toInt := Int32.lt_iff_toInt_lt.mp c_2
          refine lv_iload_n hx hb (oc_29 55 (aq_6 shX11_odds_49)) rfl (lvA5 hl) ?_
          refine lv_iload_n hx hb (oc_27 56 (aq_7 shX11_odds_49)) rfl (lvA3 hl) ?_
          refine vp_callSl (runS_r (As := [.int (nI l0), .int (nI o0)]) (rest := []) S (q_Xchoose l D cI cB cZ l0 o0 (by omega) (by omega)) kS_RX11_246 hK hP [] rfl ⟨Nat.le_of_ble_eq_true rfl, Nat.le_of_ble_eq_true rfl⟩ ⟨Nat.le_of_ble_eq_true rfl, Nat.le_of_ble_eq_true rfl⟩ rfl hl.1 rfl (Nat.le_of_ble_eq_true rfl) (oc_184 57 (aq_8 shX11_odds_49) uw_0_246)) (fun r_3 h_4 => ?_)
          refine lv_lstore (lv' := [(7, .long r_3), (5, .long x15_5), (0, .int (nI a0)), (1, .int (nI o0)), (2, .int (nI b0)), (3, .int (nI l0)), (4, .int v4)]) hx hb (oc_55 60 (aq_11 shX11_odds_49) ub_7) hl (ltb rfl) rfl (fun ls hl => ?_)
          refine lv_lload hx hb (oc_22 62 (aq_13 shX11_odds_49) ub_5) (lvA1 hl) ?_
          refine lv_lload hx hb (oc_22 64 (aq_15 shX11_odds_49) ub_7) (lvA0 hl) ?_
          refine vp_callSl (runS_r (As := [.long x15_5, .long r_3]) (rest := []) S (q_Xdivisor l D cI cB cZ x15_5 r_3 ) kS_RX11_250 hK hP [] rfl ⟨Nat.le_of_ble_eq_true rfl, Nat.le_of_ble_eq_true rfl⟩ ⟨Nat.le_of_ble_eq_true rfl, Nat.le_of_ble_eq_true rfl⟩ rfl hl.1 rfl (Nat.le_of_ble_eq_true rfl) (oc_184 66 (aq_17 shX11_odds_49) uw_0_250)) (fun r_5 h_6 => ?_)
          refine lv_lstore (lv' := [(9, .long r_5), (7, .long r_3), (5, .long x15_5), (0, .int (nI a0)), (1, .int (nI o0)), (2, .int (nI b0)), (3, .int (nI l0)), (4, .int v4)]) hx hb (oc_55 69 (aq_20 shX11_odds_49) ub_9) hl (ltb rfl) rfl (fun ls hl => ?_)
          refine lv_lload hx hb (oc_22 71 (aq_22 shX11_odds_49) ub_9) (lvA0 hl) ?_
          refine lv_lconst (v := 0) hx hb (oc_9 73 shX11_odds_73) (by decide) ?_
          refine W.lcmp hx hb (oc_148 74 (aq_1 shX11_odds_73)) ?_
          refine lv_topi (fun y_7 ey_7 => ?_)
          have zy_7 : y_7 = 0 ↔ r_5 = 0 := lcmp0 ey_7
          refine lv_if_ne (tgt := 82) hx hb (oc_154 75 (aq_2 shX11_odds_73) sgw_0_7) rfl (fun c_8 => ?_) (fun c_8 => ?_)
          ·
            have tc_8 : (y_7.toInt : Int) ≠ 0 := fun q => c_8 (Int32.toInt_inj.mp q)
            refine lv_iload hx hb (oc_21 82 (aq_9 shX11_odds_73) ub_4) (lvA7 hl) ?_
            refine lv_if_ne (tgt := 95) hx hb (oc_154 84 (aq_11 shX11_odds_73) sgw_0_11) rfl (fun c_9 => ?_) (fun c_9 => ?_)
            ·
              have tc_9 : (v4.toInt : Int) ≠ 0 := fun q => c_9 (Int32.toInt_inj.mp q)
              refine lv_lload hx hb (oc_22 95 (aq_22 shX11_odds_73) ub_7) (lvA1 hl) ?_
              refine lv_lload hx hb (oc_22 97 shX11_odds_97 ub_9) (lvA0 hl) ?_
              refine lv_ldiv hx hb (oc_109 99 (aq_2 shX11_odds_97)) (fun q => absurd (Iff.mpr (by assumption) q) (by assumption)) ?_
              exact W.lret (v := (r_3 / r_5)) hx hb hr (fun t ht hW => ⟨(r_3 / r_5), rfl, trivial, ht⟩) (fun _ h => absurd h List.not_mem_nil) dX11_odds_100
            ·
              have tc_9 : (v4.toInt : Int) = 0 := congrArg Int32.toInt c_9
              refine lv_lload hx hb (oc_22 87 (aq_14 shX11_odds_73) ub_5) (lvA2 hl) ?_
              refine lv_lload hx hb (oc_22 89 (aq_16 shX11_odds_73) ub_9) (lvA0 hl) ?_
              refine lv_ldiv hx hb (oc_109 91 (aq_18 shX11_odds_73)) (fun q => absurd (Iff.mpr (by assumption) q) (by assumption)) ?_
              refine lv_goto (tgt := 100) hx hb (oc_167 92 (aq_19 shX11_odds_73) sgw_0_8) rfl ?_
              exact W.lret (v := (x15_5 / r_5)) hx hb hr (fun t ht hW => ⟨(x15_5 / r_5), rfl, trivial, ht⟩) (fun _ h => absurd h List.not_mem_nil) dX11_odds_100
          ·
            have tc_8 : (y_7.toInt : Int) = 0 := congrArg Int32.toInt c_8
            refine lv_ldc2 (v := (-1)) hx hb hown (S.2.2.2.2 _ (wk4_5 1 rfl rfl)) (oc_20 78 (aq_5 shX11_odds_73) uw_0_254) ?_
            exact W.lret (v := (-1)) hx hb hr (fun t ht hW => ⟨(-1), rfl, trivial, ht⟩) (fun _ h => absurd h List.not_mem_nil) (oc_173 81 (aq_8 shX11_odds_73))
        ·
          have tc_2 : ((nI i15).toInt : Int) ≤ (nI o0).toInt := Int32.le_iff_toInt_le.mp (Int32.not_lt.mp c_2)
          refine lv_iload hx hb (oc_21 21 (aq_21 shX11_odds_0) ub_7) (lvA0 hl) ?_
          refine lv_iload_n hx hb (oc_26 23 (aq_23 shX11_odds_0)) rfl (lvA2 hl) ?_
          have : (nI a0).toInt = ((a0 : Nat) : Int) := nI_toInt (by omega)
          refine lv_icmp_gt (tgt := 55) hx hb (oc_163 24 shX11_odds_24 sgw_0_31) rfl (fun c_10 => ?_) (fun c_10 => ?_)
          ·
            have tc_10 : ((nI a0).toInt : Int) < (nI i15).toInt := Int32.lt_iff_toInt_lt.mp c_10
            refine lv_iload_n hx hb (oc_29 55 (aq_6 shX11_odds_49)) rfl (lvA5 hl) ?_
            refine lv_iload_n hx hb (oc_27 56 (aq_7 shX11_odds_49)) rfl (lvA3 hl) ?_
            refine vp_callSl (runS_r (As := [.int (nI l0), .int (nI o0)]) (rest := []) S (q_Xchoose l D cI cB cZ l0 o0 (by omega) (by omega)) kS_RX11_246 hK hP [] rfl ⟨Nat.le_of_ble_eq_true rfl, Nat.le_of_ble_eq_true rfl⟩ ⟨Nat.le_of_ble_eq_true rfl, Nat.le_of_ble_eq_true rfl⟩ rfl hl.1 rfl (Nat.le_of_ble_eq_true rfl) (oc_184 57 (aq_8 shX11_odds_49) uw_0_246)) (fun r_11 h_12 => ?_)
            refine lv_lstore (lv' := [(7, .long r_11), (5, .long x15_5), (0, .int (nI a0)), (1, .int (nI o0)), (2, .int (nI b0)), (3, .int (nI l0)), (4, .int v4)]) hx hb (oc_55 60 (aq_11 shX11_odds_49) ub_7) hl (ltb rfl) rfl (fun ls hl => ?_)
            refine lv_lload hx hb (oc_22 62 (aq_13 shX11_odds_49) ub_5) (lvA1 hl) ?_
            refine lv_lload hx hb (oc_22 64 (aq_15 shX11_odds_49) ub_7) (lvA0 hl) ?_
            refine vp_callSl (runS_r (As := [.long x15_5, .long r_11]) (rest := []) S (q_Xdivisor l D cI cB cZ x15_5 r_11 ) kS_RX11_250 hK hP [] rfl ⟨Nat.le_of_ble_eq_true rfl, Nat.le_of_ble_eq_true rfl⟩ ⟨Nat.le_of_ble_eq_true rfl, Nat.le_of_ble_eq_true rfl⟩ rfl hl.1 rfl (Nat.le_of_ble_eq_true rfl) (oc_184 66 (aq_17 shX11_odds_49) uw_0_250)) (fun r_13 h_14 => ?_)
            refine lv_lstore (lv' := [(9, .long r_13), (7, .long r_11), (5, .long x15_5), (0, .int (nI a0)), (1, .int (nI o0)), (2, .int (nI b0)), (3, .int (nI l0)), (4, .int v4)]) hx hb (oc_55 69 (aq_20 shX11_odds_49) ub_9) hl (ltb rfl) rfl (fun ls hl => ?_)
            refine lv_lload hx hb (oc_22 71 (aq_22 shX11_odds_49) ub_9) (lvA0 hl) ?_
            refine lv_lconst (v := 0) hx hb (oc_9 73 shX11_odds_73) (by decide) ?_
            refine W.lcmp hx hb (oc_148 74 (aq_1 shX11_odds_73)) ?_
            refine lv_topi (fun y_15 ey_15 => ?_)
            have zy_15 : y_15 = 0 ↔ r_13 = 0 := lcmp0 ey_15
            refine lv_if_ne (tgt := 82) hx hb (oc_154 75 (aq_2 shX11_odds_73) sgw_0_7) rfl (fun c_16 => ?_) (fun c_16 => ?_)
            ·
              have tc_16 : (y_15.toInt : Int) ≠ 0 := fun q => c_16 (Int32.toInt_inj.mp q)
              refine lv_iload hx hb (oc_21 82 (aq_9 shX11_odds_73) ub_4) (lvA7 hl) ?_
              refine lv_if_ne (tgt := 95) hx hb (oc_154 84 (aq_11 shX11_odds_73) sgw_0_11) rfl (fun c_17 => ?_) (fun c_17 => ?_)
              ·
                have tc_17 : (v4.toInt : Int) ≠ 0 := fun q => c_17 (Int32.toInt_inj.mp q)
                refine lv_lload hx hb (oc_22 95 (aq_22 shX11_odds_73) ub_7) (lvA1 hl) ?_
                refine lv_lload hx hb (oc_22 97 shX11_odds_97 ub_9) (lvA0 hl) ?_
                refine lv_ldiv hx hb (oc_109 99 (aq_2 shX11_odds_97)) (fun q => absurd (Iff.mpr (by assumption) q) (by assumption)) ?_
                exact W.lret (v := (r_11 / r_13)) hx hb hr (fun t ht hW => ⟨(r_11 / r_13), rfl, trivial, ht⟩) (fun _ h => absurd h List.not_mem_nil) dX11_odds_100
              ·
                have tc_17 : (v4.toInt : Int) = 0 := congrArg Int32.toInt c_17
                refine lv_lload hx hb (oc_22 87 (aq_14 shX11_odds_73) ub_5) (lvA2 hl) ?_
                refine lv_lload hx hb (oc_22 89 (aq_16 shX11_odds_73) ub_9) (lvA0 hl) ?_
                refine lv_ldiv hx hb (oc_109 91 (aq_18 shX11_odds_73)) (fun q => absurd (Iff.mpr (by assumption) q) (by assumption)) ?_
                refine lv_goto (tgt := 100) hx hb (oc_167 92 (aq_19 shX11_odds_73) sgw_0_8) rfl ?_
                exact W.lret (v := (x15_5 / r_13)) hx hb hr (fun t ht hW => ⟨(x15_5 / r_13), rfl, trivial, ht⟩) (fun _ h => absurd h List.not_mem_nil) dX11_odds_100
            ·
              have tc_16 : (y_15.toInt : Int) = 0 := congrArg Int32.toInt c_16
              refine lv_ldc2 (v := (-1)) hx hb hown (S.2.2.2.2 _ (wk4_5 1 rfl rfl)) (oc_20 78 (aq_5 shX11_odds_73) uw_0_254) ?_
              exact W.lret (v := (-1)) hx hb hr (fun t ht hW => ⟨(-1), rfl, trivial, ht⟩) (fun _ h => absurd h List.not_mem_nil) (oc_173 81 (aq_8 shX11_odds_73))
          ·
            have tc_10 : ((nI i15).toInt : Int) ≤ (nI a0).toInt := Int32.le_iff_toInt_le.mp (Int32.not_lt.mp c_10)
            refine lv_lload hx hb (oc_22 27 (aq_3 shX11_odds_24) ub_5) (lvA1 hl) ?_
            refine lv_iload_n hx hb (oc_26 29 (aq_5 shX11_odds_24)) rfl (lvA2 hl) ?_
            refine lv_iload hx hb (oc_21 30 (aq_6 shX11_odds_24) ub_7) (lvA0 hl) ?_
            refine vp_callSl (runS_r (As := [.int (nI a0), .int (nI i15)]) (rest := [.long x15_5]) S (q_Xchoose l D cI cB cZ a0 i15 (by omega) (by omega)) kS_RX11_246 hK hP [] rfl ⟨Nat.le_of_ble_eq_true rfl, Nat.le_of_ble_eq_true rfl⟩ ⟨Nat.le_of_ble_eq_true rfl, Nat.le_of_ble_eq_true rfl⟩ rfl hl.1 rfl (Nat.le_of_ble_eq_true rfl) (oc_184 32 (aq_8 shX11_odds_24) uw_0_246)) (fun r_18 h_19 => ?_)
            refine lv_iload_n hx hb (oc_29 35 (aq_11 shX11_odds_24)) rfl (lvA5 hl) ?_
            refine lv_iload_n hx hb (oc_26 36 (aq_12 shX11_odds_24)) rfl (lvA2 hl) ?_
            refine lv_isub hx hb (oc_100 37 (aq_13 shX11_odds_24)) ?_
            refine lv_topi (fun y_20 ey_20 => ?_)
            obtain rfl : y_20 = (nI (l0 - a0)) := ey_20.trans (nI_sub (by omega))
            refine lv_iload_n hx hb (oc_27 38 (aq_14 shX11_odds_24)) rfl (lvA3 hl) ?_
            refine lv_iload hx hb (oc_21 39 (aq_15 shX11_odds_24) ub_7) (lvA0 hl) ?_
            refine lv_isub hx hb (oc_100 41 (aq_17 shX11_odds_24)) ?_
            refine lv_topi (fun y_21 ey_21 => ?_)
            obtain rfl : y_21 = (nI (o0 - i15)) := ey_21.trans (nI_sub (by omega))
            refine vp_callSl (runS_r (As := [.int (nI (l0 - a0)), .int (nI (o0 - i15))]) (rest := [.long r_18, .long x15_5]) S (q_Xchoose l D cI cB cZ (l0 - a0) (o0 - i15) (by omega) (by omega)) kS_RX11_246 hK hP [] rfl ⟨Nat.le_of_ble_eq_true rfl, Nat.le_of_ble_eq_true rfl⟩ ⟨Nat.le_of_ble_eq_true rfl, Nat.le_of_ble_eq_true rfl⟩ rfl hl.1 rfl (Nat.le_of_ble_eq_true rfl) (oc_184 42 (aq_18 shX11_odds_24) uw_0_246)) (fun r_22 h_23 => ?_)
            refine lv_lmul hx hb (oc_105 45 (aq_21 shX11_odds_24)) ?_
            refine lv_ladd hx hb (oc_97 46 (aq_22 shX11_odds_24)) ?_
            refine lv_lstore (lv' := [(5, .long (x15_5 + (r_18 * r_22))), (7, .int (nI i15)), (0, .int (nI a0)), (1, .int (nI o0)), (2, .int (nI b0)), (3, .int (nI l0)), (4, .int v4)]) hx hb (oc_55 47 (aq_23 shX11_odds_24) ub_5) hl (ltb rfl) rfl (fun ls hl => ?_)
            refine lv_iinc (v := (nI (i15 + 1))) (lv' := [(7, .int (nI (i15 + 1))), (5, .long (x15_5 + (r_18 * r_22))), (0, .int (nI a0)), (1, .int (nI o0)), (2, .int (nI b0)), (3, .int (nI l0)), (4, .int v4)]) hx hb (oc_132 49 shX11_odds_49 ub_7 sgb_1) hl (k := 1) rfl (nI_1 _) (ltb rfl) rfl (fun ls hl => ?_)
            refine lv_goto (tgt := 15) hx hb (oc_167 52 (aq_3 shX11_odds_49) sgw_255_219) rfl ?_
            exact ih15 (i15 + 1) (x15_5 + (r_18 * r_22)) (by omega) (by omega) ls (lv_sub hl [0, 1, 2, 3, 4, 5, 6] rfl)
    exact lp_15 _ b0 0 (Nat.lt_succ_self _) (by omega) ls (lv_sub hl [0, 1, 2, 3, 4, 5, 6] rfl)
  ·
    have tc_1 : (v4.toInt : Int) = 2 := congrArg Int32.toInt c_1
    refine lv_iload_n hx hb (oc_28 6 (aq_6 shX11_odds_0)) rfl (lvA2 hl) ?_
    refine lv_i2l (v := (lN b0)) hx hb (oc_133 7 (aq_7 shX11_odds_0)) (nI_l (by omega)) ?_
    exact W.lret (v := (lN b0)) hx hb hr (fun t ht hW => ⟨(lN b0), rfl, trivial, ht⟩) (fun _ h => absurd h List.not_mem_nil) (oc_173 8 (aq_8 shX11_odds_0))
set_option maxRecDepth 100000 in
set_option maxHeartbeats 4000000 in
theorem q_Xbeyond (l : Launch) (D : va_G) (cI cB cZ : ClassId) (zz qq vv : Nat) (bt : Nat → Int32) (g : Nat → Nat) (ad : Nat → Nat → Nat) (cn : Nat → Nat) (In : Nat → Int32) (Fn : Nat → Nat → Int32) (v0 v1 : Int32) (hB : CBX cn) : Met l yX11_beyond (CWS yX11_beyond cX11_beyond 9 (some .long)) (RM 4 0 0) (PBrx [.ref (g 0), .int v0, .int v1] D cI cB cZ zz qq vv bt (wX cI (D.1 99) zz g ad cn In Fn)) (vp_Sl (fun _ => True)) 0 0 (fun _ => False) := by
  refine en_rx rfl pn_RX11 (Nat.le_of_ble_eq_true rfl) (fun p e s m below meth c hx hb hml hown S hr hlocks hnm hP hK hXS hS ls hl => ?_)
  have hl : lv_has ls 9 [(0, .ref (g 0)), (1, .int v0), (2, .int v1)] := hl
  have hb_cn : Hid (CBX cn) := hB
  replace hB : CBXh cn := hB
  refine lv_iload_n hx hb (oc_27 0 shX11_beyond_0) rfl (lvA1 hl) ?_
  refine lv_iconst (v := 0) hx hb (oc_3 1 (aq_1 shX11_beyond_0)) kic_0 ?_
  refine lv_bipush (v := 6) hx hb (oc_16 2 (aq_2 shX11_beyond_0) sgb_6) kbc_6 ?_
  refine vp_callSi (runS_r (As := [.int v0, .int 0, .int 6]) (rest := []) S (q_l_within l D cI cB cZ v0 0 6) kS_RX11_80 hK hP [] rfl ⟨Nat.le_of_ble_eq_true rfl, Nat.le_of_ble_eq_true rfl⟩ ⟨Nat.le_of_ble_eq_true rfl, Nat.le_of_ble_eq_true rfl⟩ rfl hl.1 rfl (Nat.le_of_ble_eq_true rfl) (oc_184 4 (aq_4 shX11_beyond_0) uw_0_80)) (fun r_1 h_2 => ?_)
  rcases h_2 with ⟨rfl, h_2⟩ | ⟨rfl, h_2⟩
  ·
    have h_2 : 0 ≤ v0.toInt ∧ v0.toInt ≤ 6 := h_2
    refine lv_if_eq (tgt := 19) hx hb (oc_153 7 (aq_7 shX11_beyond_0) sgw_0_12) rfl (fun h => absurd h cq_eq_1_0) (fun _ => ?_)
    refine lv_iload_n hx hb (oc_28 10 (aq_10 shX11_beyond_0)) rfl (lvA2 hl) ?_
    refine lv_iconst (v := 0) hx hb (oc_3 11 (aq_11 shX11_beyond_0)) kic_0 ?_
    refine lv_iconst (v := 2) hx hb (oc_5 12 (aq_12 shX11_beyond_0)) kic_2 ?_
    refine vp_callSi (runS_r (As := [.int v1, .int 0, .int 2]) (rest := []) S (q_l_within l D cI cB cZ v1 0 2) kS_RX11_80 hK hP [] rfl ⟨Nat.le_of_ble_eq_true rfl, Nat.le_of_ble_eq_true rfl⟩ ⟨Nat.le_of_ble_eq_true rfl, Nat.le_of_ble_eq_true rfl⟩ rfl hl.1 rfl (Nat.le_of_ble_eq_true rfl) (oc_184 13 (aq_13 shX11_beyond_0) uw_0_80)) (fun r_3 h_4 => ?_)
    rcases h_4 with ⟨rfl, h_4⟩ | ⟨rfl, h_4⟩
    ·
      have h_4 : 0 ≤ v1.toInt ∧ v1.toInt ≤ 2 := h_4
      refine lv_if_ne (tgt := 23) hx hb (oc_154 16 (aq_16 shX11_beyond_0) sgw_0_7) rfl (fun _ => ?_) (fun h => absurd h cq_eq_1_0)
      refine lv_iconst (v := 0) hx hb (oc_3 23 (aq_23 shX11_beyond_0)) kic_0 ?_
      refine lv_istore_n (lv' := [(3, .int 0), (0, .ref (g 0)), (1, .int v0), (2, .int v1)]) hx hb (oc_62 24 shX11_beyond_24) rfl hl (ltb rfl) rfl (fun ls hl => ?_)
      refine lv_iconst (v := 0) hx hb (oc_3 25 (aq_1 shX11_beyond_24)) kic_0 ?_
      refine lv_istore (lv' := [(4, .int 0), (3, .int 0), (0, .ref (g 0)), (1, .int v0), (2, .int v1)]) hx hb (oc_54 26 (aq_2 shX11_beyond_24) ub_4) hl (ltb rfl) rfl (fun ls hl => ?_)
      refine lv_iconst (v := 0) hx hb (oc_3 28 (aq_4 shX11_beyond_24)) kic_0 ?_
      refine lv_istore (lv' := [(5, .int 0), (4, .int 0), (3, .int 0), (0, .ref (g 0)), (1, .int v0), (2, .int v1)]) hx hb (oc_54 29 (aq_5 shX11_beyond_24) ub_5) hl (ltb rfl) rfl (fun ls hl => ?_)
      refine lv_iconst (v := 0) hx hb (oc_3 31 (aq_7 shX11_beyond_24)) kic_0 ?_
      refine lv_istore (lv' := [(6, .int 0), (5, .int 0), (4, .int 0), (3, .int 0), (0, .ref (g 0)), (1, .int v0), (2, .int v1)]) hx hb (oc_54 32 (aq_8 shX11_beyond_24) ub_6) hl (ltb rfl) rfl (fun ls hl => ?_)
      have lp_34 : ∀ (n : Nat) (i34 : Nat) (n3 : Nat) (n4 : Nat) (n5 : Nat) , cn 11 - i34 < n → (i34 ≤ cn 11 ∧ (n3 ≤ i34 ∧ n4 ≤ i34 ∧ n5 ≤ i34)) → ∀ ls : Array Slot, lv_has ls 9 [(6, .int (nI i34)), (5, .int (nI n5)), (4, .int (nI n4)), (3, .int (nI n3)), (0, .ref (g 0)), (1, .int v0), (2, .int v1)] → W p l e (RM 4 0 0) s m ([.ref (g 0), .int v0, .int v1]).toArray below meth c s.heap [] 0 0 (MQ below (vp_Sl (fun _ => True)) ([.ref (g 0), .int v0, .int v1]).toArray s 0 0 (fun _ => False)) (F0 m 34 ls []) := by
        intro n34
        induction n34 with
        | zero => intros; (first | omega | (have zz0 := Hid.u hb_cn; omega))
        | succ n34 ih34 =>
          intro i34 n3 n4 n5 hmu34 hinv34 ls hl
          obtain ⟨hr34, hx34_0⟩ := hinv34
          have ti34 : (nI i34).toInt = (i34 : Int) := nI_toInt (by (first | omega | (have zz0 := Hid.u hb_cn; omega)))
          refine lv_iload hx hb (oc_21 34 (aq_10 shX11_beyond_24) ub_6) (lvA0 hl) ?_
          refine lv_aload_n hx hb (oc_42 36 (aq_12 shX11_beyond_24)) rfl (lvA4 hl) ?_
          refine gf_RX11_65 S hK hP 0 xo_0 (v := .ref (g 11)) rfl (oc_180 37 (aq_13 shX11_beyond_24) uw_0_65) ?_
          refine vp_callSi (runV_r (As := []) (rest := [.int (nI i34)]) S (q_l_size l D cI cB cZ (g 11) (if (cn 11) = 0 then zz else ad 2 1) (In 11) (nI (cn 11))) kV_RX11_84 hK hP [25] (one_is xo_25) 25 xo_25 rfl rfl ⟨Nat.le_of_ble_eq_true rfl, Nat.le_of_ble_eq_true rfl⟩ ⟨Nat.le_of_ble_eq_true rfl, Nat.le_of_ble_eq_true rfl⟩ rfl hl.1 rfl (Nat.le_of_ble_eq_true rfl) (oc_182 40 (aq_16 shX11_beyond_24) uw_0_84)) (fun r_5 h_6 => ?_)
          subst h_6
          have : (nI (cn 11)).toInt = (((cn 11) : Nat) : Int) := nI_toInt (by (first | omega | (have zz0 := Hid.u hb_cn; omega)))
          refine lv_icmp_ge (tgt := 139) hx hb (oc_162 43 (aq_19 shX11_beyond_24) sgw_0_96) rfl (fun c_7 => ?_) (fun c_7 => ?_)
          ·
            have tc_7 : ((nI (cn 11)).toInt : Int) ≤ (nI i34).toInt := Int32.le_iff_toInt_le.mp c_7
            refine lv_iload_n hx hb (oc_29 139 (aq_13 shX11_beyond_126)) rfl (lvA3 hl) ?_
            refine lv_iload hx hb (oc_21 140 (aq_14 shX11_beyond_126) ub_4) (lvA2 hl) ?_
            refine lv_iload hx hb (oc_21 142 (aq_16 shX11_beyond_126) ub_5) (lvA1 hl) ?_
            refine lv_aload_n hx hb (oc_42 144 (aq_18 shX11_beyond_126)) rfl (lvA4 hl) ?_
            refine gf_RX11_65 S hK hP 0 xo_0 (v := .ref (g 11)) rfl (oc_180 145 (aq_19 shX11_beyond_126) uw_0_65) ?_
            refine vp_callSi (runV_r (As := []) (rest := [.int (nI n5), .int (nI n4), .int (nI n3)]) S (q_l_size l D cI cB cZ (g 11) (if (cn 11) = 0 then zz else ad 2 1) (In 11) (nI (cn 11))) kV_RX11_84 hK hP [25] (one_is xo_25) 25 xo_25 rfl rfl ⟨Nat.le_of_ble_eq_true rfl, Nat.le_of_ble_eq_true rfl⟩ ⟨Nat.le_of_ble_eq_true rfl, Nat.le_of_ble_eq_true rfl⟩ rfl hl.1 rfl (Nat.le_of_ble_eq_true rfl) (oc_182 148 (aq_22 shX11_beyond_126) uw_0_84)) (fun r_8 h_9 => ?_)
            subst h_9
            refine lv_iload_n hx hb (oc_28 151 shX11_beyond_151) rfl (lvA6 hl) ?_
            refine vp_callSl (runS_r (As := [.int (nI n3), .int (nI n4), .int (nI n5), .int (nI (cn 11)), .int v1]) (rest := []) S (q_Xodds l D cI cB cZ n3 n4 n5 (cn 11) v1 (by (first | omega | (have zz0 := Hid.u hb_cn; omega))) (by (first | omega | (have zz0 := Hid.u hb_cn; omega))) (by (first | omega | (have zz0 := Hid.u hb_cn; omega))) (by (first | omega | (have zz0 := Hid.u hb_cn; omega)))) kS_RX11_256 hK hP [] rfl ⟨Nat.le_of_ble_eq_true rfl, Nat.le_of_ble_eq_true rfl⟩ ⟨Nat.le_of_ble_eq_true rfl, Nat.le_of_ble_eq_true rfl⟩ rfl hl.1 rfl (Nat.le_of_ble_eq_true rfl) (oc_184 152 (aq_1 shX11_beyond_151) uw_1_0)) (fun r_10 h_11 => ?_)
            exact W.lret (v := r_10) hx hb hr (fun t ht hW => ⟨r_10, rfl, trivial, ht⟩) (fun _ h => absurd h List.not_mem_nil) (oc_173 155 (aq_4 shX11_beyond_151))
          ·
            have tc_7 : ((nI i34).toInt : Int) < (nI (cn 11)).toInt := Int32.lt_iff_toInt_lt.mp (Int32.not_le.mp c_7)
            refine lv_aload_n hx hb (oc_42 46 (aq_22 shX11_beyond_24)) rfl (lvA4 hl) ?_
            refine gf_RX11_65 S hK hP 0 xo_0 (v := .ref (g 11)) rfl (oc_180 47 (aq_23 shX11_beyond_24) uw_0_65) ?_
            refine lv_iload hx hb (oc_21 50 shX11_beyond_50 ub_6) (lvA0 hl) ?_
            refine va_csq (runV_rx (As := [.int (nI i34)]) (rest := []) S (q_l_get l D cI cB cZ zz qq vv bt (g 11) (ad 2 1) (cn 21) (cn 11) i34 (ad 11 i34) (In 11) (fun i => if i < (cn 11) then some (ad 11 i) else none) (by (first | omega | (have zz0 := Hid.u hb_cn; omega))) (if_pos (by (first | omega | (have zz0 := Hid.u hb_cn; omega)))) (by (first | omega | (have zz0 := Hid.u hb_cn; omega))) (by (first | omega | (have zz0 := Hid.u hb_cn; omega)))) kV_RX11_87 hK hXS hS hP _ (two_is (xl_1 (by (first | omega | (have zz0 := Hid.u hb_cn; omega)))) (xf_14 (k := 0) (by (first | omega | (have zz0 := Hid.u hb_cn; omega))))) (va_recv hK.1 hP (ci := 0) rfl xo_25) ⟨Nat.le_of_ble_eq_true rfl, Nat.le_of_ble_eq_true rfl⟩ ⟨Nat.le_of_ble_eq_true rfl, Nat.le_of_ble_eq_true rfl⟩ rfl hl.1 rfl (Nat.le_of_ble_eq_true rfl) (oc_182 52 (aq_2 shX11_beyond_50) uw_0_87)) (fun r_12 h_13 => ?_)
            subst h_13
            have kf_1 : i34 < cn 11 := by (first | omega | (have zz0 := Hid.u hb_cn; omega))
            refine va_castS hx hb hown (S.2.2.2.2 _ (wk2_17 0 rfl rfl)) (xclass hK.1 (ci := 3) rfl) (va_recv hK.1 hP (ci := 3) rfl (xf_1 kf_1)) (oc_192 55 (aq_5 shX11_beyond_50) uw_0_93) ?_
            refine lv_astore (lv' := [(7, .ref (ad 11 i34)), (6, .int (nI i34)), (5, .int (nI n5)), (4, .int (nI n4)), (3, .int (nI n3)), (0, .ref (g 0)), (1, .int v0), (2, .int v1)]) hx hb (oc_58 58 (aq_8 shX11_beyond_50) ub_7) hl (ltb rfl) rfl (fun ls hl => ?_)
            refine lv_aload hx hb (oc_25 60 (aq_10 shX11_beyond_50) ub_7) (lvA0 hl) ?_
            refine gf_RX11_196 S hK hP _ (xf_1 kf_1) (v := .int ((Fn 121) i34)) rfl (oc_180 62 (aq_12 shX11_beyond_50) uw_0_196) ?_
            refine lv_bipush (v := 7) hx hb (oc_16 65 (aq_15 shX11_beyond_50) sgb_7) kbc_7 ?_
            refine lv_irem hx hb (oc_112 67 (aq_17 shX11_beyond_50)) (by decide) ?_
            refine lv_iload_n hx hb (oc_27 68 (aq_18 shX11_beyond_50)) rfl (lvA6 hl) ?_
            refine lv_icmp_ne (tgt := 76) hx hb (oc_160 69 (aq_19 shX11_beyond_50) sgw_0_7) rfl (fun c_14 => ?_) (fun c_14 => ?_)
            ·
              have tc_14 : ((((Fn 121) i34) - ((Fn 121) i34) / 7 * 7).toInt : Int) ≠ v0.toInt := fun q => c_14 (Int32.toInt_inj.mp q)
              refine lv_iconst (v := 0) hx hb (oc_3 76 shX11_beyond_76) kic_0 ?_
              refine lv_istore (lv' := [(8, .int 0), (7, .ref (ad 11 i34)), (6, .int (nI i34)), (5, .int (nI n5)), (4, .int (nI n4)), (3, .int (nI n3)), (0, .ref (g 0)), (1, .int v0), (2, .int v1)]) hx hb (oc_54 77 (aq_1 shX11_beyond_76) ub_8) hl (ltb rfl) rfl (fun ls hl => ?_)
              refine lv_iload_n hx hb (oc_29 79 (aq_3 shX11_beyond_76)) rfl (lvA5 hl) ?_
              refine lv_aload hx hb (oc_25 80 (aq_4 shX11_beyond_76) ub_7) (lvA1 hl) ?_
              refine gf_RX11_141 S hK hP _ (xf_1 kf_1) (v := .int ((Fn 128) i34)) rfl (oc_180 82 (aq_6 shX11_beyond_76) uw_0_141) ?_
              refine lv_if_le (tgt := 92) hx hb (oc_158 85 (aq_9 shX11_beyond_76) sgw_0_7) rfl (fun c_15 => ?_) (fun c_15 => ?_)
              ·
                have tc_15 : (((Fn 128) i34).toInt : Int) ≤ 0 := Int32.le_iff_toInt_le.mp c_15
                refine lv_iconst (v := 0) hx hb (oc_3 92 (aq_16 shX11_beyond_76)) kic_0 ?_
                refine lv_iadd hx hb dX11_beyond_93 ?_
                refine lv_topi (fun y_16 ey_16 => ?_)
                obtain rfl : y_16 = (nI (n3 + 0)) := ey_16.trans (nI_add n3 0)
                refine lv_istore_n (lv' := [(3, .int (nI (n3 + 0))), (8, .int 0), (7, .ref (ad 11 i34)), (6, .int (nI i34)), (5, .int (nI n5)), (4, .int (nI n4)), (0, .ref (g 0)), (1, .int v0), (2, .int v1)]) hx hb dX11_beyond_94 rfl hl (ltb rfl) rfl (fun ls hl => ?_)
                refine lv_iload hx hb dX11_beyond_95 (lvA5 hl) ?_
                refine lv_iload hx hb dX11_beyond_97 (lvA1 hl) ?_
                refine lv_if_eq (tgt := 106) hx hb dX11_beyond_99 rfl (fun _ => ?_) (fun h => absurd h cq_eq_0_0)
                refine lv_iconst (v := 0) hx hb (oc_3 106 (aq_4 shX11_beyond_102)) kic_0 ?_
                refine lv_iadd hx hb dX11_beyond_107 ?_
                refine lv_topi (fun y_17 ey_17 => ?_)
                obtain rfl : y_17 = (nI (n4 + 0)) := ey_17.trans (nI_add n4 0)
                refine lv_istore (lv' := [(4, .int (nI (n4 + 0))), (3, .int (nI (n3 + 0))), (8, .int 0), (7, .ref (ad 11 i34)), (6, .int (nI i34)), (5, .int (nI n5)), (0, .ref (g 0)), (1, .int v0), (2, .int v1)]) hx hb dX11_beyond_108 hl (ltb rfl) rfl (fun ls hl => ?_)
                refine lv_iload hx hb dX11_beyond_110 (lvA5 hl) ?_
                refine lv_iload hx hb dX11_beyond_112 (lvA2 hl) ?_
                refine lv_if_eq (tgt := 129) hx hb dX11_beyond_114 rfl (fun _ => ?_) (fun h => absurd h cq_eq_0_0)
                refine lv_iconst (v := 0) hx hb (oc_3 129 (aq_3 shX11_beyond_126)) kic_0 ?_
                refine lv_iadd hx hb dX11_beyond_130 ?_
                refine lv_topi (fun y_18 ey_18 => ?_)
                obtain rfl : y_18 = (nI (n5 + 0)) := ey_18.trans (nI_add n5 0)
                refine lv_istore (lv' := [(5, .int (nI (n5 + 0))), (4, .int (nI (n4 + 0))), (3, .int (nI (n3 + 0))), (8, .int 0), (7, .ref (ad 11 i34)), (6, .int (nI i34)), (0, .ref (g 0)), (1, .int v0), (2, .int v1)]) hx hb dX11_beyond_131 hl (ltb rfl) rfl (fun ls hl => ?_)
                refine lv_iinc (v := (nI (i34 + 1))) (lv' := [(6, .int (nI (i34 + 1))), (5, .int (nI (n5 + 0))), (4, .int (nI (n4 + 0))), (3, .int (nI (n3 + 0))), (8, .int 0), (7, .ref (ad 11 i34)), (0, .ref (g 0)), (1, .int v0), (2, .int v1)]) hx hb dX11_beyond_133 hl (k := 5) rfl (nI_1 _) (ltb rfl) rfl (fun ls hl => ?_)
                refine lv_goto (tgt := 34) hx hb dX11_beyond_136 rfl ?_
                exact ih34 (i34 + 1) (n3 + 0) (n4 + 0) (n5 + 0) (by (first | omega | (have zz0 := Hid.u hb_cn; omega))) ⟨(by (first | omega | (have zz0 := Hid.u hb_cn; omega))), ⟨by (first | omega | (have zz0 := Hid.u hb_cn; omega)), by (first | omega | (have zz0 := Hid.u hb_cn; omega)), by (first | omega | (have zz0 := Hid.u hb_cn; omega))⟩⟩ ls (lv_sub hl [0, 1, 2, 3, 6, 7, 8] rfl)
              ·
                have tc_15 : (0 : Int) < ((Fn 128) i34).toInt := Int32.lt_iff_toInt_lt.mp (Int32.not_le.mp c_15)
                refine lv_iconst (v := 1) hx hb (oc_4 88 (aq_12 shX11_beyond_76)) kic_1 ?_
                refine lv_goto (tgt := 93) hx hb (oc_167 89 (aq_13 shX11_beyond_76) sgw_0_4) rfl ?_
                refine lv_iadd hx hb dX11_beyond_93 ?_
                refine lv_topi (fun y_19 ey_19 => ?_)
                obtain rfl : y_19 = (nI (n3 + 1)) := ey_19.trans (nI_add n3 1)
                refine lv_istore_n (lv' := [(3, .int (nI (n3 + 1))), (8, .int 0), (7, .ref (ad 11 i34)), (6, .int (nI i34)), (5, .int (nI n5)), (4, .int (nI n4)), (0, .ref (g 0)), (1, .int v0), (2, .int v1)]) hx hb dX11_beyond_94 rfl hl (ltb rfl) rfl (fun ls hl => ?_)
                refine lv_iload hx hb dX11_beyond_95 (lvA5 hl) ?_
                refine lv_iload hx hb dX11_beyond_97 (lvA1 hl) ?_
                refine lv_if_eq (tgt := 106) hx hb dX11_beyond_99 rfl (fun _ => ?_) (fun h => absurd h cq_eq_0_0)
                refine lv_iconst (v := 0) hx hb (oc_3 106 (aq_4 shX11_beyond_102)) kic_0 ?_
                refine lv_iadd hx hb dX11_beyond_107 ?_
                refine lv_topi (fun y_20 ey_20 => ?_)
                obtain rfl : y_20 = (nI (n4 + 0)) := ey_20.trans (nI_add n4 0)
                refine lv_istore (lv' := [(4, .int (nI (n4 + 0))), (3, .int (nI (n3 + 1))), (8, .int 0), (7, .ref (ad 11 i34)), (6, .int (nI i34)), (5, .int (nI n5)), (0, .ref (g 0)), (1, .int v0), (2, .int v1)]) hx hb dX11_beyond_108 hl (ltb rfl) rfl (fun ls hl => ?_)
                refine lv_iload hx hb dX11_beyond_110 (lvA5 hl) ?_
                refine lv_iload hx hb dX11_beyond_112 (lvA2 hl) ?_
                refine lv_if_eq (tgt := 129) hx hb dX11_beyond_114 rfl (fun _ => ?_) (fun h => absurd h cq_eq_0_0)
                refine lv_iconst (v := 0) hx hb (oc_3 129 (aq_3 shX11_beyond_126)) kic_0 ?_
                refine lv_iadd hx hb dX11_beyond_130 ?_
                refine lv_topi (fun y_21 ey_21 => ?_)
                obtain rfl : y_21 = (nI (n5 + 0)) := ey_21.trans (nI_add n5 0)
                refine lv_istore (lv' := [(5, .int (nI (n5 + 0))), (4, .int (nI (n4 + 0))), (3, .int (nI (n3 + 1))), (8, .int 0), (7, .ref (ad 11 i34)), (6, .int (nI i34)), (0, .ref (g 0)), (1, .int v0), (2, .int v1)]) hx hb dX11_beyond_131 hl (ltb rfl) rfl (fun ls hl => ?_)
                refine lv_iinc (v := (nI (i34 + 1))) (lv' := [(6, .int (nI (i34 + 1))), (5, .int (nI (n5 + 0))), (4, .int (nI (n4 + 0))), (3, .int (nI (n3 + 1))), (8, .int 0), (7, .ref (ad 11 i34)), (0, .ref (g 0)), (1, .int v0), (2, .int v1)]) hx hb dX11_beyond_133 hl (k := 5) rfl (nI_1 _) (ltb rfl) rfl (fun ls hl => ?_)
                refine lv_goto (tgt := 34) hx hb dX11_beyond_136 rfl ?_
                exact ih34 (i34 + 1) (n3 + 1) (n4 + 0) (n5 + 0) (by (first | omega | (have zz0 := Hid.u hb_cn; omega))) ⟨(by (first | omega | (have zz0 := Hid.u hb_cn; omega))), ⟨by (first | omega | (have zz0 := Hid.u hb_cn; omega)), by (first | omega | (have zz0 := Hid.u hb_cn; omega)), by (first | omega | (have zz0 := Hid.u hb_cn; omega))⟩⟩ ls (lv_sub hl [0, 1, 2, 3, 6, 7, 8] rfl)
            ·
              have tc_14 : ((((Fn 121) i34) - ((Fn 121) i34) / 7 * 7).toInt : Int) = v0.toInt := congrArg Int32.toInt c_14
              refine lv_iconst (v := 1) hx hb (oc_4 72 (aq_22 shX11_beyond_50)) kic_1 ?_
              refine lv_goto (tgt := 77) hx hb (oc_167 73 (aq_23 shX11_beyond_50) sgw_0_4) rfl ?_
              refine lv_istore (lv' := [(8, .int 1), (7, .ref (ad 11 i34)), (6, .int (nI i34)), (5, .int (nI n5)), (4, .int (nI n4)), (3, .int (nI n3)), (0, .ref (g 0)), (1, .int v0), (2, .int v1)]) hx hb (oc_54 77 (aq_1 shX11_beyond_76) ub_8) hl (ltb rfl) rfl (fun ls hl => ?_)
              refine lv_iload_n hx hb (oc_29 79 (aq_3 shX11_beyond_76)) rfl (lvA5 hl) ?_
              refine lv_aload hx hb (oc_25 80 (aq_4 shX11_beyond_76) ub_7) (lvA1 hl) ?_
              refine gf_RX11_141 S hK hP _ (xf_1 kf_1) (v := .int ((Fn 128) i34)) rfl (oc_180 82 (aq_6 shX11_beyond_76) uw_0_141) ?_
              refine lv_if_le (tgt := 92) hx hb (oc_158 85 (aq_9 shX11_beyond_76) sgw_0_7) rfl (fun c_22 => ?_) (fun c_22 => ?_)
              ·
                have tc_22 : (((Fn 128) i34).toInt : Int) ≤ 0 := Int32.le_iff_toInt_le.mp c_22
                refine lv_iconst (v := 0) hx hb (oc_3 92 (aq_16 shX11_beyond_76)) kic_0 ?_
                refine lv_iadd hx hb dX11_beyond_93 ?_
                refine lv_topi (fun y_23 ey_23 => ?_)
                obtain rfl : y_23 = (nI (n3 + 0)) := ey_23.trans (nI_add n3 0)
                refine lv_istore_n (lv' := [(3, .int (nI (n3 + 0))), (8, .int 1), (7, .ref (ad 11 i34)), (6, .int (nI i34)), (5, .int (nI n5)), (4, .int (nI n4)), (0, .ref (g 0)), (1, .int v0), (2, .int v1)]) hx hb dX11_beyond_94 rfl hl (ltb rfl) rfl (fun ls hl => ?_)
                refine lv_iload hx hb dX11_beyond_95 (lvA5 hl) ?_
                refine lv_iload hx hb dX11_beyond_97 (lvA1 hl) ?_
                refine lv_if_eq (tgt := 106) hx hb dX11_beyond_99 rfl (fun h => absurd h cq_eq_1_0) (fun _ => ?_)
                refine lv_iconst (v := 1) hx hb (oc_4 102 shX11_beyond_102) kic_1 ?_
                refine lv_goto (tgt := 107) hx hb (oc_167 103 (aq_1 shX11_beyond_102) sgw_0_4) rfl ?_
                refine lv_iadd hx hb dX11_beyond_107 ?_
                refine lv_topi (fun y_24 ey_24 => ?_)
                obtain rfl : y_24 = (nI (n4 + 1)) := ey_24.trans (nI_add n4 1)
                refine lv_istore (lv' := [(4, .int (nI (n4 + 1))), (3, .int (nI (n3 + 0))), (8, .int 1), (7, .ref (ad 11 i34)), (6, .int (nI i34)), (5, .int (nI n5)), (0, .ref (g 0)), (1, .int v0), (2, .int v1)]) hx hb dX11_beyond_108 hl (ltb rfl) rfl (fun ls hl => ?_)
                refine lv_iload hx hb dX11_beyond_110 (lvA5 hl) ?_
                refine lv_iload hx hb dX11_beyond_112 (lvA2 hl) ?_
                refine lv_if_eq (tgt := 129) hx hb dX11_beyond_114 rfl (fun h => absurd h cq_eq_1_0) (fun _ => ?_)
                refine lv_aload hx hb (oc_25 117 (aq_15 shX11_beyond_102) ub_7) (lvA3 hl) ?_
                refine gf_RX11_141 S hK hP _ (xf_1 kf_1) (v := .int ((Fn 128) i34)) rfl (oc_180 119 (aq_17 shX11_beyond_102) uw_0_141) ?_
                refine lv_if_le (tgt := 129) hx hb (oc_158 122 (aq_20 shX11_beyond_102) sgw_0_7) rfl (fun c_25 => ?_) (fun c_25 => False.elim (by have tc_25 : (0 : Int) < ((Fn 128) i34).toInt := Int32.lt_iff_toInt_lt.mp (Int32.not_le.mp c_25); (first | omega | (have zz0 := Hid.u hb_cn; omega))))
                have tc_25 : (((Fn 128) i34).toInt : Int) ≤ 0 := Int32.le_iff_toInt_le.mp c_25
                refine lv_iconst (v := 0) hx hb (oc_3 129 (aq_3 shX11_beyond_126)) kic_0 ?_
                refine lv_iadd hx hb dX11_beyond_130 ?_
                refine lv_topi (fun y_26 ey_26 => ?_)
                obtain rfl : y_26 = (nI (n5 + 0)) := ey_26.trans (nI_add n5 0)
                refine lv_istore (lv' := [(5, .int (nI (n5 + 0))), (4, .int (nI (n4 + 1))), (3, .int (nI (n3 + 0))), (8, .int 1), (7, .ref (ad 11 i34)), (6, .int (nI i34)), (0, .ref (g 0)), (1, .int v0), (2, .int v1)]) hx hb dX11_beyond_131 hl (ltb rfl) rfl (fun ls hl => ?_)
                refine lv_iinc (v := (nI (i34 + 1))) (lv' := [(6, .int (nI (i34 + 1))), (5, .int (nI (n5 + 0))), (4, .int (nI (n4 + 1))), (3, .int (nI (n3 + 0))), (8, .int 1), (7, .ref (ad 11 i34)), (0, .ref (g 0)), (1, .int v0), (2, .int v1)]) hx hb dX11_beyond_133 hl (k := 5) rfl (nI_1 _) (ltb rfl) rfl (fun ls hl => ?_)
                refine lv_goto (tgt := 34) hx hb dX11_beyond_136 rfl ?_
                exact ih34 (i34 + 1) (n3 + 0) (n4 + 1) (n5 + 0) (by (first | omega | (have zz0 := Hid.u hb_cn; omega))) ⟨(by (first | omega | (have zz0 := Hid.u hb_cn; omega))), ⟨by (first | omega | (have zz0 := Hid.u hb_cn; omega)), by (first | omega | (have zz0 := Hid.u hb_cn; omega)), by (first | omega | (have zz0 := Hid.u hb_cn; omega))⟩⟩ ls (lv_sub hl [0, 1, 2, 3, 6, 7, 8] rfl)
              ·
                have tc_22 : (0 : Int) < ((Fn 128) i34).toInt := Int32.lt_iff_toInt_lt.mp (Int32.not_le.mp c_22)
                refine lv_iconst (v := 1) hx hb (oc_4 88 (aq_12 shX11_beyond_76)) kic_1 ?_
                refine lv_goto (tgt := 93) hx hb (oc_167 89 (aq_13 shX11_beyond_76) sgw_0_4) rfl ?_
                refine lv_iadd hx hb dX11_beyond_93 ?_
                refine lv_topi (fun y_27 ey_27 => ?_)
                obtain rfl : y_27 = (nI (n3 + 1)) := ey_27.trans (nI_add n3 1)
                refine lv_istore_n (lv' := [(3, .int (nI (n3 + 1))), (8, .int 1), (7, .ref (ad 11 i34)), (6, .int (nI i34)), (5, .int (nI n5)), (4, .int (nI n4)), (0, .ref (g 0)), (1, .int v0), (2, .int v1)]) hx hb dX11_beyond_94 rfl hl (ltb rfl) rfl (fun ls hl => ?_)
                refine lv_iload hx hb dX11_beyond_95 (lvA5 hl) ?_
                refine lv_iload hx hb dX11_beyond_97 (lvA1 hl) ?_
                refine lv_if_eq (tgt := 106) hx hb dX11_beyond_99 rfl (fun h => absurd h cq_eq_1_0) (fun _ => ?_)
                refine lv_iconst (v := 1) hx hb (oc_4 102 shX11_beyond_102) kic_1 ?_
                refine lv_goto (tgt := 107) hx hb (oc_167 103 (aq_1 shX11_beyond_102) sgw_0_4) rfl ?_
                refine lv_iadd hx hb dX11_beyond_107 ?_
                refine lv_topi (fun y_28 ey_28 => ?_)
                obtain rfl : y_28 = (nI (n4 + 1)) := ey_28.trans (nI_add n4 1)
                refine lv_istore (lv' := [(4, .int (nI (n4 + 1))), (3, .int (nI (n3 + 1))), (8, .int 1), (7, .ref (ad 11 i34)), (6, .int (nI i34)), (5, .int (nI n5)), (0, .ref (g 0)), (1, .int v0), (2, .int v1)]) hx hb dX11_beyond_108 hl (ltb rfl) rfl (fun ls hl => ?_)
                refine lv_iload hx hb dX11_beyond_110 (lvA5 hl) ?_
                refine lv_iload hx hb dX11_beyond_112 (lvA2 hl) ?_
                refine lv_if_eq (tgt := 129) hx hb dX11_beyond_114 rfl (fun h => absurd h cq_eq_1_0) (fun _ => ?_)
                refine lv_aload hx hb (oc_25 117 (aq_15 shX11_beyond_102) ub_7) (lvA3 hl) ?_
                refine gf_RX11_141 S hK hP _ (xf_1 kf_1) (v := .int ((Fn 128) i34)) rfl (oc_180 119 (aq_17 shX11_beyond_102) uw_0_141) ?_
                refine lv_if_le (tgt := 129) hx hb (oc_158 122 (aq_20 shX11_beyond_102) sgw_0_7) rfl (fun c_29 => False.elim (by have tc_29 : (((Fn 128) i34).toInt : Int) ≤ 0 := Int32.le_iff_toInt_le.mp c_29; (first | omega | (have zz0 := Hid.u hb_cn; omega)))) (fun c_29 => ?_)
                have tc_29 : (0 : Int) < ((Fn 128) i34).toInt := Int32.lt_iff_toInt_lt.mp (Int32.not_le.mp c_29)
                refine lv_iconst (v := 1) hx hb (oc_4 125 (aq_23 shX11_beyond_102)) kic_1 ?_
                refine lv_goto (tgt := 130) hx hb (oc_167 126 shX11_beyond_126 sgw_0_4) rfl ?_
                refine lv_iadd hx hb dX11_beyond_130 ?_
                refine lv_topi (fun y_30 ey_30 => ?_)
                obtain rfl : y_30 = (nI (n5 + 1)) := ey_30.trans (nI_add n5 1)
                refine lv_istore (lv' := [(5, .int (nI (n5 + 1))), (4, .int (nI (n4 + 1))), (3, .int (nI (n3 + 1))), (8, .int 1), (7, .ref (ad 11 i34)), (6, .int (nI i34)), (0, .ref (g 0)), (1, .int v0), (2, .int v1)]) hx hb dX11_beyond_131 hl (ltb rfl) rfl (fun ls hl => ?_)
                refine lv_iinc (v := (nI (i34 + 1))) (lv' := [(6, .int (nI (i34 + 1))), (5, .int (nI (n5 + 1))), (4, .int (nI (n4 + 1))), (3, .int (nI (n3 + 1))), (8, .int 1), (7, .ref (ad 11 i34)), (0, .ref (g 0)), (1, .int v0), (2, .int v1)]) hx hb dX11_beyond_133 hl (k := 5) rfl (nI_1 _) (ltb rfl) rfl (fun ls hl => ?_)
                refine lv_goto (tgt := 34) hx hb dX11_beyond_136 rfl ?_
                exact ih34 (i34 + 1) (n3 + 1) (n4 + 1) (n5 + 1) (by (first | omega | (have zz0 := Hid.u hb_cn; omega))) ⟨(by (first | omega | (have zz0 := Hid.u hb_cn; omega))), ⟨by (first | omega | (have zz0 := Hid.u hb_cn; omega)), by (first | omega | (have zz0 := Hid.u hb_cn; omega)), by (first | omega | (have zz0 := Hid.u hb_cn; omega))⟩⟩ ls (lv_sub hl [0, 1, 2, 3, 6, 7, 8] rfl)
      exact lp_34 _ 0 0 0 0 (Nat.lt_succ_self _) ⟨(by (first | omega | (have zz0 := Hid.u hb_cn; omega))), ⟨Nat.le_refl _, Nat.le_refl _, Nat.le_refl _⟩⟩ ls (lv_sub hl [0, 1, 2, 3, 4, 5, 6] rfl)
    ·
      have h_4 : ¬ (0 ≤ v1.toInt ∧ v1.toInt ≤ 2) := h_4
      refine lv_if_ne (tgt := 23) hx hb (oc_154 16 (aq_16 shX11_beyond_0) sgw_0_7) rfl (fun h => absurd h cq_eq_0_0) (fun _ => ?_)
      refine lv_ldc2 (v := (-1)) hx hb hown (S.2.2.2.2 _ (wk4_5 1 rfl rfl)) (oc_20 19 (aq_19 shX11_beyond_0) uw_0_254) ?_
      exact W.lret (v := (-1)) hx hb hr (fun t ht hW => ⟨(-1), rfl, trivial, ht⟩) (fun _ h => absurd h List.not_mem_nil) (oc_173 22 (aq_22 shX11_beyond_0))
  ·
    have h_2 : ¬ (0 ≤ v0.toInt ∧ v0.toInt ≤ 6) := h_2
    refine lv_if_eq (tgt := 19) hx hb (oc_153 7 (aq_7 shX11_beyond_0) sgw_0_12) rfl (fun _ => ?_) (fun h => absurd h cq_eq_0_0)
    refine lv_ldc2 (v := (-1)) hx hb hown (S.2.2.2.2 _ (wk4_5 1 rfl rfl)) (oc_20 19 (aq_19 shX11_beyond_0) uw_0_254) ?_
    exact W.lret (v := (-1)) hx hb hr (fun t ht hW => ⟨(-1), rfl, trivial, ht⟩) (fun _ h => absurd h List.not_mem_nil) (oc_173 22 (aq_22 shX11_beyond_0))
set_option maxRecDepth 100000 in
set_option maxHeartbeats 4000000 in
theorem q_Xstreets (l : Launch) (D : va_G) (cI cB cZ : ClassId) (zz qq vv : Nat) (bt : Nat → Int32) (g : Nat → Nat) (ad : Nat → Nat → Nat) (cn : Nat → Nat) (In : Nat → Int32) (Fn : Nat → Nat → Int32) (v0 v1 : Int32) (hB : CBX cn) : Met l yX11_streets (CWS yX11_streets cX11_streets 10 (some .long)) (RM 4 0 0) (PBrx [.ref (g 0), .int v0, .int v1] D cI cB cZ zz qq vv bt (wX cI (D.1 99) zz g ad cn In Fn)) (vp_Sl (fun _ => True)) 0 0 (fun _ => False) := by
  refine en_rx rfl pn_RX11 (Nat.le_of_ble_eq_true rfl) (fun p e s m below meth c hx hb hml hown S hr hlocks hnm hP hK hXS hS ls hl => ?_)
  have hl : lv_has ls 10 [(0, .ref (g 0)), (1, .int v0), (2, .int v1)] := hl
  have hb_cn : Hid (CBX cn) := hB
  replace hB : CBXh cn := hB
  refine lv_iload_n hx hb (oc_27 0 shX11_streets_0) rfl (lvA1 hl) ?_
  refine lv_iconst (v := 0) hx hb (oc_3 1 (aq_1 shX11_streets_0)) kic_0 ?_
  refine lv_bipush (v := 9) hx hb (oc_16 2 (aq_2 shX11_streets_0) sgb_9) kbc_9 ?_
  refine vp_callSi (runS_r (As := [.int v0, .int 0, .int 9]) (rest := []) S (q_l_within l D cI cB cZ v0 0 9) kS_RX11_80 hK hP [] rfl ⟨Nat.le_of_ble_eq_true rfl, Nat.le_of_ble_eq_true rfl⟩ ⟨Nat.le_of_ble_eq_true rfl, Nat.le_of_ble_eq_true rfl⟩ rfl hl.1 rfl (Nat.le_of_ble_eq_true rfl) (oc_184 4 (aq_4 shX11_streets_0) uw_0_80)) (fun r_1 h_2 => ?_)
  rcases h_2 with ⟨rfl, h_2⟩ | ⟨rfl, h_2⟩
  ·
    have h_2 : 0 ≤ v0.toInt ∧ v0.toInt ≤ 9 := h_2
    refine lv_if_eq (tgt := 19) hx hb (oc_153 7 (aq_7 shX11_streets_0) sgw_0_12) rfl (fun h => absurd h cq_eq_1_0) (fun _ => ?_)
    refine lv_iload_n hx hb (oc_28 10 (aq_10 shX11_streets_0)) rfl (lvA2 hl) ?_
    refine lv_iconst (v := 0) hx hb (oc_3 11 (aq_11 shX11_streets_0)) kic_0 ?_
    refine lv_iconst (v := 2) hx hb (oc_5 12 (aq_12 shX11_streets_0)) kic_2 ?_
    refine vp_callSi (runS_r (As := [.int v1, .int 0, .int 2]) (rest := []) S (q_l_within l D cI cB cZ v1 0 2) kS_RX11_80 hK hP [] rfl ⟨Nat.le_of_ble_eq_true rfl, Nat.le_of_ble_eq_true rfl⟩ ⟨Nat.le_of_ble_eq_true rfl, Nat.le_of_ble_eq_true rfl⟩ rfl hl.1 rfl (Nat.le_of_ble_eq_true rfl) (oc_184 13 (aq_13 shX11_streets_0) uw_0_80)) (fun r_3 h_4 => ?_)
    rcases h_4 with ⟨rfl, h_4⟩ | ⟨rfl, h_4⟩
    ·
      have h_4 : 0 ≤ v1.toInt ∧ v1.toInt ≤ 2 := h_4
      refine lv_if_ne (tgt := 23) hx hb (oc_154 16 (aq_16 shX11_streets_0) sgw_0_7) rfl (fun _ => ?_) (fun h => absurd h cq_eq_1_0)
      refine lv_iconst (v := 0) hx hb (oc_3 23 (aq_23 shX11_streets_0)) kic_0 ?_
      refine lv_istore_n (lv' := [(3, .int 0), (0, .ref (g 0)), (1, .int v0), (2, .int v1)]) hx hb (oc_62 24 shX11_streets_24) rfl hl (ltb rfl) rfl (fun ls hl => ?_)
      refine lv_iconst (v := 0) hx hb (oc_3 25 (aq_1 shX11_streets_24)) kic_0 ?_
      refine lv_istore (lv' := [(4, .int 0), (3, .int 0), (0, .ref (g 0)), (1, .int v0), (2, .int v1)]) hx hb (oc_54 26 (aq_2 shX11_streets_24) ub_4) hl (ltb rfl) rfl (fun ls hl => ?_)
      refine lv_iconst (v := 0) hx hb (oc_3 28 (aq_4 shX11_streets_24)) kic_0 ?_
      refine lv_istore (lv' := [(5, .int 0), (4, .int 0), (3, .int 0), (0, .ref (g 0)), (1, .int v0), (2, .int v1)]) hx hb (oc_54 29 (aq_5 shX11_streets_24) ub_5) hl (ltb rfl) rfl (fun ls hl => ?_)
      refine lv_iconst (v := 0) hx hb (oc_3 31 (aq_7 shX11_streets_24)) kic_0 ?_
      refine lv_istore (lv' := [(6, .int 0), (5, .int 0), (4, .int 0), (3, .int 0), (0, .ref (g 0)), (1, .int v0), (2, .int v1)]) hx hb (oc_54 32 (aq_8 shX11_streets_24) ub_6) hl (ltb rfl) rfl (fun ls hl => ?_)
      have lp_34 : ∀ (n : Nat) (i34 : Nat) (n3 : Nat) (n4 : Nat) (n5 : Nat) , cn 11 - i34 < n → (i34 ≤ cn 11 ∧ (n3 ≤ i34 ∧ n4 ≤ i34 ∧ n5 ≤ i34)) → ∀ ls : Array Slot, lv_has ls 10 [(6, .int (nI i34)), (5, .int (nI n5)), (4, .int (nI n4)), (3, .int (nI n3)), (0, .ref (g 0)), (1, .int v0), (2, .int v1)] → W p l e (RM 4 0 0) s m ([.ref (g 0), .int v0, .int v1]).toArray below meth c s.heap [] 0 0 (MQ below (vp_Sl (fun _ => True)) ([.ref (g 0), .int v0, .int v1]).toArray s 0 0 (fun _ => False)) (F0 m 34 ls []) := by
        intro n34
        induction n34 with
        | zero => intros; (first | omega | (have zz0 := Hid.u hb_cn; omega))
        | succ n34 ih34 =>
          intro i34 n3 n4 n5 hmu34 hinv34 ls hl
          obtain ⟨hr34, hx34_0⟩ := hinv34
          have ti34 : (nI i34).toInt = (i34 : Int) := nI_toInt (by (first | omega | (have zz0 := Hid.u hb_cn; omega)))
          refine lv_iload hx hb (oc_21 34 (aq_10 shX11_streets_24) ub_6) (lvA0 hl) ?_
          refine lv_aload_n hx hb (oc_42 36 (aq_12 shX11_streets_24)) rfl (lvA4 hl) ?_
          refine gf_RX11_65 S hK hP 0 xo_0 (v := .ref (g 11)) rfl (oc_180 37 (aq_13 shX11_streets_24) uw_0_65) ?_
          refine vp_callSi (runV_r (As := []) (rest := [.int (nI i34)]) S (q_l_size l D cI cB cZ (g 11) (if (cn 11) = 0 then zz else ad 2 1) (In 11) (nI (cn 11))) kV_RX11_84 hK hP [25] (one_is xo_25) 25 xo_25 rfl rfl ⟨Nat.le_of_ble_eq_true rfl, Nat.le_of_ble_eq_true rfl⟩ ⟨Nat.le_of_ble_eq_true rfl, Nat.le_of_ble_eq_true rfl⟩ rfl hl.1 rfl (Nat.le_of_ble_eq_true rfl) (oc_182 40 (aq_16 shX11_streets_24) uw_0_84)) (fun r_5 h_6 => ?_)
          subst h_6
          have : (nI (cn 11)).toInt = (((cn 11) : Nat) : Int) := nI_toInt (by (first | omega | (have zz0 := Hid.u hb_cn; omega)))
          refine lv_icmp_ge (tgt := 152) hx hb (oc_162 43 (aq_19 shX11_streets_24) sgw_0_109) rfl (fun c_7 => ?_) (fun c_7 => ?_)
          ·
            have tc_7 : ((nI (cn 11)).toInt : Int) ≤ (nI i34).toInt := Int32.le_iff_toInt_le.mp c_7
            refine lv_iload_n hx hb (oc_29 152 (aq_3 shX11_streets_149)) rfl (lvA3 hl) ?_
            refine lv_iload hx hb (oc_21 153 (aq_4 shX11_streets_149) ub_4) (lvA2 hl) ?_
            refine lv_iload hx hb (oc_21 155 (aq_6 shX11_streets_149) ub_5) (lvA1 hl) ?_
            refine lv_aload_n hx hb (oc_42 157 (aq_8 shX11_streets_149)) rfl (lvA4 hl) ?_
            refine gf_RX11_65 S hK hP 0 xo_0 (v := .ref (g 11)) rfl (oc_180 158 (aq_9 shX11_streets_149) uw_0_65) ?_
            refine vp_callSi (runV_r (As := []) (rest := [.int (nI n5), .int (nI n4), .int (nI n3)]) S (q_l_size l D cI cB cZ (g 11) (if (cn 11) = 0 then zz else ad 2 1) (In 11) (nI (cn 11))) kV_RX11_84 hK hP [25] (one_is xo_25) 25 xo_25 rfl rfl ⟨Nat.le_of_ble_eq_true rfl, Nat.le_of_ble_eq_true rfl⟩ ⟨Nat.le_of_ble_eq_true rfl, Nat.le_of_ble_eq_true rfl⟩ rfl hl.1 rfl (Nat.le_of_ble_eq_true rfl) (oc_182 161 (aq_12 shX11_streets_149) uw_0_84)) (fun r_8 h_9 => ?_)
            subst h_9
            refine lv_iload_n hx hb (oc_28 164 (aq_15 shX11_streets_149)) rfl (lvA6 hl) ?_
            refine vp_callSl (runS_r (As := [.int (nI n3), .int (nI n4), .int (nI n5), .int (nI (cn 11)), .int v1]) (rest := []) S (q_Xodds l D cI cB cZ n3 n4 n5 (cn 11) v1 (by (first | omega | (have zz0 := Hid.u hb_cn; omega))) (by (first | omega | (have zz0 := Hid.u hb_cn; omega))) (by (first | omega | (have zz0 := Hid.u hb_cn; omega))) (by (first | omega | (have zz0 := Hid.u hb_cn; omega)))) kS_RX11_256 hK hP [] rfl ⟨Nat.le_of_ble_eq_true rfl, Nat.le_of_ble_eq_true rfl⟩ ⟨Nat.le_of_ble_eq_true rfl, Nat.le_of_ble_eq_true rfl⟩ rfl hl.1 rfl (Nat.le_of_ble_eq_true rfl) (oc_184 165 (aq_16 shX11_streets_149) uw_1_0)) (fun r_10 h_11 => ?_)
            exact W.lret (v := r_10) hx hb hr (fun t ht hW => ⟨r_10, rfl, trivial, ht⟩) (fun _ h => absurd h List.not_mem_nil) (oc_173 168 (aq_19 shX11_streets_149))
          ·
            have tc_7 : ((nI i34).toInt : Int) < (nI (cn 11)).toInt := Int32.lt_iff_toInt_lt.mp (Int32.not_le.mp c_7)
            refine lv_aload_n hx hb (oc_42 46 (aq_22 shX11_streets_24)) rfl (lvA4 hl) ?_
            refine gf_RX11_65 S hK hP 0 xo_0 (v := .ref (g 11)) rfl (oc_180 47 (aq_23 shX11_streets_24) uw_0_65) ?_
            refine lv_iload hx hb (oc_21 50 shX11_streets_50 ub_6) (lvA0 hl) ?_
            refine va_csq (runV_rx (As := [.int (nI i34)]) (rest := []) S (q_l_get l D cI cB cZ zz qq vv bt (g 11) (ad 2 1) (cn 21) (cn 11) i34 (ad 11 i34) (In 11) (fun i => if i < (cn 11) then some (ad 11 i) else none) (by (first | omega | (have zz0 := Hid.u hb_cn; omega))) (if_pos (by (first | omega | (have zz0 := Hid.u hb_cn; omega)))) (by (first | omega | (have zz0 := Hid.u hb_cn; omega))) (by (first | omega | (have zz0 := Hid.u hb_cn; omega)))) kV_RX11_87 hK hXS hS hP _ (two_is (xl_1 (by (first | omega | (have zz0 := Hid.u hb_cn; omega)))) (xf_14 (k := 0) (by (first | omega | (have zz0 := Hid.u hb_cn; omega))))) (va_recv hK.1 hP (ci := 0) rfl xo_25) ⟨Nat.le_of_ble_eq_true rfl, Nat.le_of_ble_eq_true rfl⟩ ⟨Nat.le_of_ble_eq_true rfl, Nat.le_of_ble_eq_true rfl⟩ rfl hl.1 rfl (Nat.le_of_ble_eq_true rfl) (oc_182 52 (aq_2 shX11_streets_50) uw_0_87)) (fun r_12 h_13 => ?_)
            subst h_13
            have kf_1 : i34 < cn 11 := by (first | omega | (have zz0 := Hid.u hb_cn; omega))
            refine va_castS hx hb hown (S.2.2.2.2 _ (wk2_17 0 rfl rfl)) (xclass hK.1 (ci := 3) rfl) (va_recv hK.1 hP (ci := 3) rfl (xf_1 kf_1)) (oc_192 55 (aq_5 shX11_streets_50) uw_0_93) ?_
            refine lv_astore (lv' := [(7, .ref (ad 11 i34)), (6, .int (nI i34)), (5, .int (nI n5)), (4, .int (nI n4)), (3, .int (nI n3)), (0, .ref (g 0)), (1, .int v0), (2, .int v1)]) hx hb (oc_58 58 (aq_8 shX11_streets_50) ub_7) hl (ltb rfl) rfl (fun ls hl => ?_)
            refine lv_aload_n hx hb (oc_42 60 (aq_10 shX11_streets_50)) rfl (lvA5 hl) ?_
            refine lv_aload hx hb (oc_25 61 (aq_11 shX11_streets_50) ub_7) (lvA0 hl) ?_
            refine gf_RX11_211 S hK hP _ (xf_1 kf_1) (v := .int ((Fn 120) i34)) rfl (oc_180 63 (aq_13 shX11_streets_50) uw_0_211) ?_
            refine va_csq (runV_rxa (As := [.int ((Fn 120) i34)]) (rest := []) S (q_XkitchenAt l D cI cB cZ zz qq vv bt g ad cn In Fn ((Fn 120) i34) hB) kV_RX11_114 hK hXS hS hP 0 xo_0 rfl rfl ⟨Nat.le_of_ble_eq_true rfl, Nat.le_of_ble_eq_true rfl⟩ ⟨Nat.le_of_ble_eq_true rfl, Nat.le_of_ble_eq_true rfl⟩ rfl hl.1 rfl (Nat.le_of_ble_eq_true rfl) (oc_182 66 (aq_16 shX11_streets_50) uw_0_114)) (fun r_14 h_15 => ?_)
            rcases h_15 with ⟨mr_14, er_14, hr_14, rfl⟩ | ⟨hr_14, rfl⟩
            ·
              refine lv_astore (lv' := [(8, .ref (ad 10 mr_14)), (7, .ref (ad 11 i34)), (6, .int (nI i34)), (5, .int (nI n5)), (4, .int (nI n4)), (3, .int (nI n3)), (0, .ref (g 0)), (1, .int v0), (2, .int v1)]) hx hb (oc_58 69 (aq_19 shX11_streets_50) ub_8) hl (ltb rfl) rfl (fun ls hl => ?_)
              refine lv_aload hx hb (oc_25 71 (aq_21 shX11_streets_50) ub_8) (lvA0 hl) ?_
              refine lv_ifnull hx hb (oc_198 73 (aq_23 shX11_streets_50) sgw_0_16) ?_
              refine lv_aload hx hb (oc_25 76 shX11_streets_76 ub_8) (lvA0 hl) ?_
              have kf_2 : mr_14 < cn 10 := by (first | omega | (have zz0 := Hid.u hb_cn; omega))
              refine gf_RX11_260 S hK hP _ (xf_0 kf_2) (v := .int ((Fn 109) mr_14)) rfl (oc_180 78 (aq_2 shX11_streets_76) uw_1_4) ?_
              refine lv_iload_n hx hb (oc_27 81 (aq_5 shX11_streets_76)) rfl (lvA7 hl) ?_
              refine lv_icmp_ne (tgt := 89) hx hb (oc_160 82 (aq_6 shX11_streets_76) sgw_0_7) rfl (fun c_16 => ?_) (fun c_16 => ?_)
              ·
                have tc_16 : (((Fn 109) mr_14).toInt : Int) ≠ v0.toInt := fun q => c_16 (Int32.toInt_inj.mp q)
                refine lv_iconst (v := 0) hx hb (oc_3 89 (aq_13 shX11_streets_76)) kic_0 ?_
                refine lv_istore (lv' := [(9, .int 0), (8, .ref (ad 10 mr_14)), (7, .ref (ad 11 i34)), (6, .int (nI i34)), (5, .int (nI n5)), (4, .int (nI n4)), (3, .int (nI n3)), (0, .ref (g 0)), (1, .int v0), (2, .int v1)]) hx hb (oc_54 90 (aq_14 shX11_streets_76) ub_9) hl (ltb rfl) rfl (fun ls hl => ?_)
                refine lv_iload_n hx hb (oc_29 92 (aq_16 shX11_streets_76)) rfl (lvA6 hl) ?_
                refine lv_aload hx hb (oc_25 93 (aq_17 shX11_streets_76) ub_7) (lvA2 hl) ?_
                refine gf_RX11_141 S hK hP _ (xf_1 kf_1) (v := .int ((Fn 128) i34)) rfl (oc_180 95 (aq_19 shX11_streets_76) uw_0_141) ?_
                refine lv_if_le (tgt := 105) hx hb (oc_158 98 (aq_22 shX11_streets_76) sgw_0_7) rfl (fun c_17 => ?_) (fun c_17 => ?_)
                ·
                  have tc_17 : (((Fn 128) i34).toInt : Int) ≤ 0 := Int32.le_iff_toInt_le.mp c_17
                  refine lv_iconst (v := 0) hx hb (oc_3 105 (aq_4 shX11_streets_101)) kic_0 ?_
                  refine lv_iadd hx hb dX11_streets_106 ?_
                  refine lv_topi (fun y_18 ey_18 => ?_)
                  obtain rfl : y_18 = (nI (n3 + 0)) := ey_18.trans (nI_add n3 0)
                  refine lv_istore_n (lv' := [(3, .int (nI (n3 + 0))), (9, .int 0), (8, .ref (ad 10 mr_14)), (7, .ref (ad 11 i34)), (6, .int (nI i34)), (5, .int (nI n5)), (4, .int (nI n4)), (0, .ref (g 0)), (1, .int v0), (2, .int v1)]) hx hb dX11_streets_107 rfl hl (ltb rfl) rfl (fun ls hl => ?_)
                  refine lv_iload hx hb dX11_streets_108 (lvA6 hl) ?_
                  refine lv_iload hx hb dX11_streets_110 (lvA1 hl) ?_
                  refine lv_if_eq (tgt := 119) hx hb dX11_streets_112 rfl (fun _ => ?_) (fun h => absurd h cq_eq_0_0)
                  refine lv_iconst (v := 0) hx hb dX11_streets_119 kic_0 ?_
                  refine lv_iadd hx hb dX11_streets_120 ?_
                  refine lv_topi (fun y_19 ey_19 => ?_)
                  obtain rfl : y_19 = (nI (n4 + 0)) := ey_19.trans (nI_add n4 0)
                  refine lv_istore (lv' := [(4, .int (nI (n4 + 0))), (3, .int (nI (n3 + 0))), (9, .int 0), (8, .ref (ad 10 mr_14)), (7, .ref (ad 11 i34)), (6, .int (nI i34)), (5, .int (nI n5)), (0, .ref (g 0)), (1, .int v0), (2, .int v1)]) hx hb dX11_streets_121 hl (ltb rfl) rfl (fun ls hl => ?_)
                  refine lv_iload hx hb dX11_streets_123 (lvA6 hl) ?_
                  refine lv_iload hx hb dX11_streets_125 (lvA2 hl) ?_
                  refine lv_if_eq (tgt := 142) hx hb dX11_streets_127 rfl (fun _ => ?_) (fun h => absurd h cq_eq_0_0)
                  refine lv_iconst (v := 0) hx hb dX11_streets_142 kic_0 ?_
                  refine lv_iadd hx hb dX11_streets_143 ?_
                  refine lv_topi (fun y_20 ey_20 => ?_)
                  obtain rfl : y_20 = (nI (n5 + 0)) := ey_20.trans (nI_add n5 0)
                  refine lv_istore (lv' := [(5, .int (nI (n5 + 0))), (4, .int (nI (n4 + 0))), (3, .int (nI (n3 + 0))), (9, .int 0), (8, .ref (ad 10 mr_14)), (7, .ref (ad 11 i34)), (6, .int (nI i34)), (0, .ref (g 0)), (1, .int v0), (2, .int v1)]) hx hb dX11_streets_144 hl (ltb rfl) rfl (fun ls hl => ?_)
                  refine lv_iinc (v := (nI (i34 + 1))) (lv' := [(6, .int (nI (i34 + 1))), (5, .int (nI (n5 + 0))), (4, .int (nI (n4 + 0))), (3, .int (nI (n3 + 0))), (9, .int 0), (8, .ref (ad 10 mr_14)), (7, .ref (ad 11 i34)), (0, .ref (g 0)), (1, .int v0), (2, .int v1)]) hx hb dX11_streets_146 hl (k := 6) rfl (nI_1 _) (ltb rfl) rfl (fun ls hl => ?_)
                  refine lv_goto (tgt := 34) hx hb dX11_streets_149 rfl ?_
                  exact ih34 (i34 + 1) (n3 + 0) (n4 + 0) (n5 + 0) (by (first | omega | (have zz0 := Hid.u hb_cn; omega))) ⟨(by (first | omega | (have zz0 := Hid.u hb_cn; omega))), ⟨by (first | omega | (have zz0 := Hid.u hb_cn; omega)), by (first | omega | (have zz0 := Hid.u hb_cn; omega)), by (first | omega | (have zz0 := Hid.u hb_cn; omega))⟩⟩ ls (lv_sub hl [0, 1, 2, 3, 7, 8, 9] rfl)
                ·
                  have tc_17 : (0 : Int) < ((Fn 128) i34).toInt := Int32.lt_iff_toInt_lt.mp (Int32.not_le.mp c_17)
                  refine lv_iconst (v := 1) hx hb (oc_4 101 shX11_streets_101) kic_1 ?_
                  refine lv_goto (tgt := 106) hx hb (oc_167 102 (aq_1 shX11_streets_101) sgw_0_4) rfl ?_
                  refine lv_iadd hx hb dX11_streets_106 ?_
                  refine lv_topi (fun y_21 ey_21 => ?_)
                  obtain rfl : y_21 = (nI (n3 + 1)) := ey_21.trans (nI_add n3 1)
                  refine lv_istore_n (lv' := [(3, .int (nI (n3 + 1))), (9, .int 0), (8, .ref (ad 10 mr_14)), (7, .ref (ad 11 i34)), (6, .int (nI i34)), (5, .int (nI n5)), (4, .int (nI n4)), (0, .ref (g 0)), (1, .int v0), (2, .int v1)]) hx hb dX11_streets_107 rfl hl (ltb rfl) rfl (fun ls hl => ?_)
                  refine lv_iload hx hb dX11_streets_108 (lvA6 hl) ?_
                  refine lv_iload hx hb dX11_streets_110 (lvA1 hl) ?_
                  refine lv_if_eq (tgt := 119) hx hb dX11_streets_112 rfl (fun _ => ?_) (fun h => absurd h cq_eq_0_0)
                  refine lv_iconst (v := 0) hx hb dX11_streets_119 kic_0 ?_
                  refine lv_iadd hx hb dX11_streets_120 ?_
                  refine lv_topi (fun y_22 ey_22 => ?_)
                  obtain rfl : y_22 = (nI (n4 + 0)) := ey_22.trans (nI_add n4 0)
                  refine lv_istore (lv' := [(4, .int (nI (n4 + 0))), (3, .int (nI (n3 + 1))), (9, .int 0), (8, .ref (ad 10 mr_14)), (7, .ref (ad 11 i34)), (6, .int (nI i34)), (5, .int (nI n5)), (0, .ref (g 0)), (1, .int v0), (2, .int v1)]) hx hb dX11_streets_121 hl (ltb rfl) rfl (fun ls hl => ?_)
                  refine lv_iload hx hb dX11_streets_123 (lvA6 hl) ?_
                  refine lv_iload hx hb dX11_streets_125 (lvA2 hl) ?_
                  refine lv_if_eq (tgt := 142) hx hb dX11_streets_127 rfl (fun _ => ?_) (fun h => absurd h cq_eq_0_0)
                  refine lv_iconst (v := 0) hx hb dX11_streets_142 kic_0 ?_
                  refine lv_iadd hx hb dX11_streets_143 ?_
                  refine lv_topi (fun y_23 ey_23 => ?_)
                  obtain rfl : y_23 = (nI (n5 + 0)) := ey_23.trans (nI_add n5 0)
                  refine lv_istore (lv' := [(5, .int (nI (n5 + 0))), (4, .int (nI (n4 + 0))), (3, .int (nI (n3 + 1))), (9, .int 0), (8, .ref (ad 10 mr_14)), (7, .ref (ad 11 i34)), (6, .int (nI i34)), (0, .ref (g 0)), (1, .int v0), (2, .int v1)]) hx hb dX11_streets_144 hl (ltb rfl) rfl (fun ls hl => ?_)
                  refine lv_iinc (v := (nI (i34 + 1))) (lv' := [(6, .int (nI (i34 + 1))), (5, .int (nI (n5 + 0))), (4, .int (nI (n4 + 0))), (3, .int (nI (n3 + 1))), (9, .int 0), (8, .ref (ad 10 mr_14)), (7, .ref (ad 11 i34)), (0, .ref (g 0)), (1, .int v0), (2, .int v1)]) hx hb dX11_streets_146 hl (k := 6) rfl (nI_1 _) (ltb rfl) rfl (fun ls hl => ?_)
                  refine lv_goto (tgt := 34) hx hb dX11_streets_149 rfl ?_
                  exact ih34 (i34 + 1) (n3 + 1) (n4 + 0) (n5 + 0) (by (first | omega | (have zz0 := Hid.u hb_cn; omega))) ⟨(by (first | omega | (have zz0 := Hid.u hb_cn; omega))), ⟨by (first | omega | (have zz0 := Hid.u hb_cn; omega)), by (first | omega | (have zz0 := Hid.u hb_cn; omega)), by (first | omega | (have zz0 := Hid.u hb_cn; omega))⟩⟩ ls (lv_sub hl [0, 1, 2, 3, 7, 8, 9] rfl)
              ·
                have tc_16 : (((Fn 109) mr_14).toInt : Int) = v0.toInt := congrArg Int32.toInt c_16
                refine lv_iconst (v := 1) hx hb (oc_4 85 (aq_9 shX11_streets_76)) kic_1 ?_
                refine lv_goto (tgt := 90) hx hb (oc_167 86 (aq_10 shX11_streets_76) sgw_0_4) rfl ?_
                refine lv_istore (lv' := [(9, .int 1), (8, .ref (ad 10 mr_14)), (7, .ref (ad 11 i34)), (6, .int (nI i34)), (5, .int (nI n5)), (4, .int (nI n4)), (3, .int (nI n3)), (0, .ref (g 0)), (1, .int v0), (2, .int v1)]) hx hb (oc_54 90 (aq_14 shX11_streets_76) ub_9) hl (ltb rfl) rfl (fun ls hl => ?_)
                refine lv_iload_n hx hb (oc_29 92 (aq_16 shX11_streets_76)) rfl (lvA6 hl) ?_
                refine lv_aload hx hb (oc_25 93 (aq_17 shX11_streets_76) ub_7) (lvA2 hl) ?_
                refine gf_RX11_141 S hK hP _ (xf_1 kf_1) (v := .int ((Fn 128) i34)) rfl (oc_180 95 (aq_19 shX11_streets_76) uw_0_141) ?_
                refine lv_if_le (tgt := 105) hx hb (oc_158 98 (aq_22 shX11_streets_76) sgw_0_7) rfl (fun c_24 => ?_) (fun c_24 => ?_)
                ·
                  have tc_24 : (((Fn 128) i34).toInt : Int) ≤ 0 := Int32.le_iff_toInt_le.mp c_24
                  refine lv_iconst (v := 0) hx hb (oc_3 105 (aq_4 shX11_streets_101)) kic_0 ?_
                  refine lv_iadd hx hb dX11_streets_106 ?_
                  refine lv_topi (fun y_25 ey_25 => ?_)
                  obtain rfl : y_25 = (nI (n3 + 0)) := ey_25.trans (nI_add n3 0)
                  refine lv_istore_n (lv' := [(3, .int (nI (n3 + 0))), (9, .int 1), (8, .ref (ad 10 mr_14)), (7, .ref (ad 11 i34)), (6, .int (nI i34)), (5, .int (nI n5)), (4, .int (nI n4)), (0, .ref (g 0)), (1, .int v0), (2, .int v1)]) hx hb dX11_streets_107 rfl hl (ltb rfl) rfl (fun ls hl => ?_)
                  refine lv_iload hx hb dX11_streets_108 (lvA6 hl) ?_
                  refine lv_iload hx hb dX11_streets_110 (lvA1 hl) ?_
                  refine lv_if_eq (tgt := 119) hx hb dX11_streets_112 rfl (fun h => absurd h cq_eq_1_0) (fun _ => ?_)
                  refine lv_iconst (v := 1) hx hb (oc_4 115 (aq_14 shX11_streets_101)) kic_1 ?_
                  refine lv_goto (tgt := 120) hx hb (oc_167 116 (aq_15 shX11_streets_101) sgw_0_4) rfl ?_
                  refine lv_iadd hx hb dX11_streets_120 ?_
                  refine lv_topi (fun y_26 ey_26 => ?_)
                  obtain rfl : y_26 = (nI (n4 + 1)) := ey_26.trans (nI_add n4 1)
                  refine lv_istore (lv' := [(4, .int (nI (n4 + 1))), (3, .int (nI (n3 + 0))), (9, .int 1), (8, .ref (ad 10 mr_14)), (7, .ref (ad 11 i34)), (6, .int (nI i34)), (5, .int (nI n5)), (0, .ref (g 0)), (1, .int v0), (2, .int v1)]) hx hb dX11_streets_121 hl (ltb rfl) rfl (fun ls hl => ?_)
                  refine lv_iload hx hb dX11_streets_123 (lvA6 hl) ?_
                  refine lv_iload hx hb dX11_streets_125 (lvA2 hl) ?_
                  refine lv_if_eq (tgt := 142) hx hb dX11_streets_127 rfl (fun h => absurd h cq_eq_1_0) (fun _ => ?_)
                  refine lv_aload hx hb (oc_25 130 (aq_5 shX11_streets_125) ub_7) (lvA4 hl) ?_
                  refine gf_RX11_141 S hK hP _ (xf_1 kf_1) (v := .int ((Fn 128) i34)) rfl (oc_180 132 (aq_7 shX11_streets_125) uw_0_141) ?_
                  refine lv_if_le (tgt := 142) hx hb (oc_158 135 (aq_10 shX11_streets_125) sgw_0_7) rfl (fun c_27 => ?_) (fun c_27 => False.elim (by have tc_27 : (0 : Int) < ((Fn 128) i34).toInt := Int32.lt_iff_toInt_lt.mp (Int32.not_le.mp c_27); (first | omega | (have zz0 := Hid.u hb_cn; omega))))
                  have tc_27 : (((Fn 128) i34).toInt : Int) ≤ 0 := Int32.le_iff_toInt_le.mp c_27
                  refine lv_iconst (v := 0) hx hb dX11_streets_142 kic_0 ?_
                  refine lv_iadd hx hb dX11_streets_143 ?_
                  refine lv_topi (fun y_28 ey_28 => ?_)
                  obtain rfl : y_28 = (nI (n5 + 0)) := ey_28.trans (nI_add n5 0)
                  refine lv_istore (lv' := [(5, .int (nI (n5 + 0))), (4, .int (nI (n4 + 1))), (3, .int (nI (n3 + 0))), (9, .int 1), (8, .ref (ad 10 mr_14)), (7, .ref (ad 11 i34)), (6, .int (nI i34)), (0, .ref (g 0)), (1, .int v0), (2, .int v1)]) hx hb dX11_streets_144 hl (ltb rfl) rfl (fun ls hl => ?_)
                  refine lv_iinc (v := (nI (i34 + 1))) (lv' := [(6, .int (nI (i34 + 1))), (5, .int (nI (n5 + 0))), (4, .int (nI (n4 + 1))), (3, .int (nI (n3 + 0))), (9, .int 1), (8, .ref (ad 10 mr_14)), (7, .ref (ad 11 i34)), (0, .ref (g 0)), (1, .int v0), (2, .int v1)]) hx hb dX11_streets_146 hl (k := 6) rfl (nI_1 _) (ltb rfl) rfl (fun ls hl => ?_)
                  refine lv_goto (tgt := 34) hx hb dX11_streets_149 rfl ?_
                  exact ih34 (i34 + 1) (n3 + 0) (n4 + 1) (n5 + 0) (by (first | omega | (have zz0 := Hid.u hb_cn; omega))) ⟨(by (first | omega | (have zz0 := Hid.u hb_cn; omega))), ⟨by (first | omega | (have zz0 := Hid.u hb_cn; omega)), by (first | omega | (have zz0 := Hid.u hb_cn; omega)), by (first | omega | (have zz0 := Hid.u hb_cn; omega))⟩⟩ ls (lv_sub hl [0, 1, 2, 3, 7, 8, 9] rfl)
                ·
                  have tc_24 : (0 : Int) < ((Fn 128) i34).toInt := Int32.lt_iff_toInt_lt.mp (Int32.not_le.mp c_24)
                  refine lv_iconst (v := 1) hx hb (oc_4 101 shX11_streets_101) kic_1 ?_
                  refine lv_goto (tgt := 106) hx hb (oc_167 102 (aq_1 shX11_streets_101) sgw_0_4) rfl ?_
                  refine lv_iadd hx hb dX11_streets_106 ?_
                  refine lv_topi (fun y_29 ey_29 => ?_)
                  obtain rfl : y_29 = (nI (n3 + 1)) := ey_29.trans (nI_add n3 1)
                  refine lv_istore_n (lv' := [(3, .int (nI (n3 + 1))), (9, .int 1), (8, .ref (ad 10 mr_14)), (7, .ref (ad 11 i34)), (6, .int (nI i34)), (5, .int (nI n5)), (4, .int (nI n4)), (0, .ref (g 0)), (1, .int v0), (2, .int v1)]) hx hb dX11_streets_107 rfl hl (ltb rfl) rfl (fun ls hl => ?_)
                  refine lv_iload hx hb dX11_streets_108 (lvA6 hl) ?_
                  refine lv_iload hx hb dX11_streets_110 (lvA1 hl) ?_
                  refine lv_if_eq (tgt := 119) hx hb dX11_streets_112 rfl (fun h => absurd h cq_eq_1_0) (fun _ => ?_)
                  refine lv_iconst (v := 1) hx hb (oc_4 115 (aq_14 shX11_streets_101)) kic_1 ?_
                  refine lv_goto (tgt := 120) hx hb (oc_167 116 (aq_15 shX11_streets_101) sgw_0_4) rfl ?_
                  refine lv_iadd hx hb dX11_streets_120 ?_
                  refine lv_topi (fun y_30 ey_30 => ?_)
                  obtain rfl : y_30 = (nI (n4 + 1)) := ey_30.trans (nI_add n4 1)
                  refine lv_istore (lv' := [(4, .int (nI (n4 + 1))), (3, .int (nI (n3 + 1))), (9, .int 1), (8, .ref (ad 10 mr_14)), (7, .ref (ad 11 i34)), (6, .int (nI i34)), (5, .int (nI n5)), (0, .ref (g 0)), (1, .int v0), (2, .int v1)]) hx hb dX11_streets_121 hl (ltb rfl) rfl (fun ls hl => ?_)
                  refine lv_iload hx hb dX11_streets_123 (lvA6 hl) ?_
                  refine lv_iload hx hb dX11_streets_125 (lvA2 hl) ?_
                  refine lv_if_eq (tgt := 142) hx hb dX11_streets_127 rfl (fun h => absurd h cq_eq_1_0) (fun _ => ?_)
                  refine lv_aload hx hb (oc_25 130 (aq_5 shX11_streets_125) ub_7) (lvA4 hl) ?_
                  refine gf_RX11_141 S hK hP _ (xf_1 kf_1) (v := .int ((Fn 128) i34)) rfl (oc_180 132 (aq_7 shX11_streets_125) uw_0_141) ?_
                  refine lv_if_le (tgt := 142) hx hb (oc_158 135 (aq_10 shX11_streets_125) sgw_0_7) rfl (fun c_31 => False.elim (by have tc_31 : (((Fn 128) i34).toInt : Int) ≤ 0 := Int32.le_iff_toInt_le.mp c_31; (first | omega | (have zz0 := Hid.u hb_cn; omega)))) (fun c_31 => ?_)
                  have tc_31 : (0 : Int) < ((Fn 128) i34).toInt := Int32.lt_iff_toInt_lt.mp (Int32.not_le.mp c_31)
                  refine lv_iconst (v := 1) hx hb (oc_4 138 (aq_13 shX11_streets_125)) kic_1 ?_
                  refine lv_goto (tgt := 143) hx hb (oc_167 139 (aq_14 shX11_streets_125) sgw_0_4) rfl ?_
                  refine lv_iadd hx hb dX11_streets_143 ?_
                  refine lv_topi (fun y_32 ey_32 => ?_)
                  obtain rfl : y_32 = (nI (n5 + 1)) := ey_32.trans (nI_add n5 1)
                  refine lv_istore (lv' := [(5, .int (nI (n5 + 1))), (4, .int (nI (n4 + 1))), (3, .int (nI (n3 + 1))), (9, .int 1), (8, .ref (ad 10 mr_14)), (7, .ref (ad 11 i34)), (6, .int (nI i34)), (0, .ref (g 0)), (1, .int v0), (2, .int v1)]) hx hb dX11_streets_144 hl (ltb rfl) rfl (fun ls hl => ?_)
                  refine lv_iinc (v := (nI (i34 + 1))) (lv' := [(6, .int (nI (i34 + 1))), (5, .int (nI (n5 + 1))), (4, .int (nI (n4 + 1))), (3, .int (nI (n3 + 1))), (9, .int 1), (8, .ref (ad 10 mr_14)), (7, .ref (ad 11 i34)), (0, .ref (g 0)), (1, .int v0), (2, .int v1)]) hx hb dX11_streets_146 hl (k := 6) rfl (nI_1 _) (ltb rfl) rfl (fun ls hl => ?_)
                  refine lv_goto (tgt := 34) hx hb dX11_streets_149 rfl ?_
                  exact ih34 (i34 + 1) (n3 + 1) (n4 + 1) (n5 + 1) (by (first | omega | (have zz0 := Hid.u hb_cn; omega))) ⟨(by (first | omega | (have zz0 := Hid.u hb_cn; omega))), ⟨by (first | omega | (have zz0 := Hid.u hb_cn; omega)), by (first | omega | (have zz0 := Hid.u hb_cn; omega)), by (first | omega | (have zz0 := Hid.u hb_cn; omega))⟩⟩ ls (lv_sub hl [0, 1, 2, 3, 7, 8, 9] rfl)
            ·
              refine lv_astoreN (lv' := [(8, .null), (7, .ref (ad 11 i34)), (6, .int (nI i34)), (5, .int (nI n5)), (4, .int (nI n4)), (3, .int (nI n3)), (0, .ref (g 0)), (1, .int v0), (2, .int v1)]) hx hb (oc_58 69 (aq_19 shX11_streets_50) ub_8) hl (ltb rfl) rfl (fun ls hl => ?_)
              refine lv_aloadN hx hb (oc_25 71 (aq_21 shX11_streets_50) ub_8) (lvA0 hl) ?_
              refine lv_ifnullN (tgt := 89) hx hb (oc_198 73 (aq_23 shX11_streets_50) sgw_0_16) rfl ?_
              refine lv_iconst (v := 0) hx hb (oc_3 89 (aq_13 shX11_streets_76)) kic_0 ?_
              refine lv_istore (lv' := [(9, .int 0), (8, .null), (7, .ref (ad 11 i34)), (6, .int (nI i34)), (5, .int (nI n5)), (4, .int (nI n4)), (3, .int (nI n3)), (0, .ref (g 0)), (1, .int v0), (2, .int v1)]) hx hb (oc_54 90 (aq_14 shX11_streets_76) ub_9) hl (ltb rfl) rfl (fun ls hl => ?_)
              refine lv_iload_n hx hb (oc_29 92 (aq_16 shX11_streets_76)) rfl (lvA6 hl) ?_
              refine lv_aload hx hb (oc_25 93 (aq_17 shX11_streets_76) ub_7) (lvA2 hl) ?_
              refine gf_RX11_141 S hK hP _ (xf_1 kf_1) (v := .int ((Fn 128) i34)) rfl (oc_180 95 (aq_19 shX11_streets_76) uw_0_141) ?_
              refine lv_if_le (tgt := 105) hx hb (oc_158 98 (aq_22 shX11_streets_76) sgw_0_7) rfl (fun c_33 => ?_) (fun c_33 => ?_)
              ·
                have tc_33 : (((Fn 128) i34).toInt : Int) ≤ 0 := Int32.le_iff_toInt_le.mp c_33
                refine lv_iconst (v := 0) hx hb (oc_3 105 (aq_4 shX11_streets_101)) kic_0 ?_
                refine lv_iadd hx hb dX11_streets_106 ?_
                refine lv_topi (fun y_34 ey_34 => ?_)
                obtain rfl : y_34 = (nI (n3 + 0)) := ey_34.trans (nI_add n3 0)
                refine lv_istore_n (lv' := [(3, .int (nI (n3 + 0))), (9, .int 0), (8, .null), (7, .ref (ad 11 i34)), (6, .int (nI i34)), (5, .int (nI n5)), (4, .int (nI n4)), (0, .ref (g 0)), (1, .int v0), (2, .int v1)]) hx hb dX11_streets_107 rfl hl (ltb rfl) rfl (fun ls hl => ?_)
                refine lv_iload hx hb dX11_streets_108 (lvA6 hl) ?_
                refine lv_iload hx hb dX11_streets_110 (lvA1 hl) ?_
                refine lv_if_eq (tgt := 119) hx hb dX11_streets_112 rfl (fun _ => ?_) (fun h => absurd h cq_eq_0_0)
                refine lv_iconst (v := 0) hx hb dX11_streets_119 kic_0 ?_
                refine lv_iadd hx hb dX11_streets_120 ?_
                refine lv_topi (fun y_35 ey_35 => ?_)
                obtain rfl : y_35 = (nI (n4 + 0)) := ey_35.trans (nI_add n4 0)
                refine lv_istore (lv' := [(4, .int (nI (n4 + 0))), (3, .int (nI (n3 + 0))), (9, .int 0), (8, .null), (7, .ref (ad 11 i34)), (6, .int (nI i34)), (5, .int (nI n5)), (0, .ref (g 0)), (1, .int v0), (2, .int v1)]) hx hb dX11_streets_121 hl (ltb rfl) rfl (fun ls hl => ?_)
                refine lv_iload hx hb dX11_streets_123 (lvA6 hl) ?_
                refine lv_iload hx hb dX11_streets_125 (lvA2 hl) ?_
                refine lv_if_eq (tgt := 142) hx hb dX11_streets_127 rfl (fun _ => ?_) (fun h => absurd h cq_eq_0_0)
                refine lv_iconst (v := 0) hx hb dX11_streets_142 kic_0 ?_
                refine lv_iadd hx hb dX11_streets_143 ?_
                refine lv_topi (fun y_36 ey_36 => ?_)
                obtain rfl : y_36 = (nI (n5 + 0)) := ey_36.trans (nI_add n5 0)
                refine lv_istore (lv' := [(5, .int (nI (n5 + 0))), (4, .int (nI (n4 + 0))), (3, .int (nI (n3 + 0))), (9, .int 0), (8, .null), (7, .ref (ad 11 i34)), (6, .int (nI i34)), (0, .ref (g 0)), (1, .int v0), (2, .int v1)]) hx hb dX11_streets_144 hl (ltb rfl) rfl (fun ls hl => ?_)
                refine lv_iinc (v := (nI (i34 + 1))) (lv' := [(6, .int (nI (i34 + 1))), (5, .int (nI (n5 + 0))), (4, .int (nI (n4 + 0))), (3, .int (nI (n3 + 0))), (9, .int 0), (8, .null), (7, .ref (ad 11 i34)), (0, .ref (g 0)), (1, .int v0), (2, .int v1)]) hx hb dX11_streets_146 hl (k := 6) rfl (nI_1 _) (ltb rfl) rfl (fun ls hl => ?_)
                refine lv_goto (tgt := 34) hx hb dX11_streets_149 rfl ?_
                exact ih34 (i34 + 1) (n3 + 0) (n4 + 0) (n5 + 0) (by (first | omega | (have zz0 := Hid.u hb_cn; omega))) ⟨(by (first | omega | (have zz0 := Hid.u hb_cn; omega))), ⟨by (first | omega | (have zz0 := Hid.u hb_cn; omega)), by (first | omega | (have zz0 := Hid.u hb_cn; omega)), by (first | omega | (have zz0 := Hid.u hb_cn; omega))⟩⟩ ls (lv_sub hl [0, 1, 2, 3, 7, 8, 9] rfl)
              ·
                have tc_33 : (0 : Int) < ((Fn 128) i34).toInt := Int32.lt_iff_toInt_lt.mp (Int32.not_le.mp c_33)
                refine lv_iconst (v := 1) hx hb (oc_4 101 shX11_streets_101) kic_1 ?_
                refine lv_goto (tgt := 106) hx hb (oc_167 102 (aq_1 shX11_streets_101) sgw_0_4) rfl ?_
                refine lv_iadd hx hb dX11_streets_106 ?_
                refine lv_topi (fun y_37 ey_37 => ?_)
                obtain rfl : y_37 = (nI (n3 + 1)) := ey_37.trans (nI_add n3 1)
                refine lv_istore_n (lv' := [(3, .int (nI (n3 + 1))), (9, .int 0), (8, .null), (7, .ref (ad 11 i34)), (6, .int (nI i34)), (5, .int (nI n5)), (4, .int (nI n4)), (0, .ref (g 0)), (1, .int v0), (2, .int v1)]) hx hb dX11_streets_107 rfl hl (ltb rfl) rfl (fun ls hl => ?_)
                refine lv_iload hx hb dX11_streets_108 (lvA6 hl) ?_
                refine lv_iload hx hb dX11_streets_110 (lvA1 hl) ?_
                refine lv_if_eq (tgt := 119) hx hb dX11_streets_112 rfl (fun _ => ?_) (fun h => absurd h cq_eq_0_0)
                refine lv_iconst (v := 0) hx hb dX11_streets_119 kic_0 ?_
                refine lv_iadd hx hb dX11_streets_120 ?_
                refine lv_topi (fun y_38 ey_38 => ?_)
                obtain rfl : y_38 = (nI (n4 + 0)) := ey_38.trans (nI_add n4 0)
                refine lv_istore (lv' := [(4, .int (nI (n4 + 0))), (3, .int (nI (n3 + 1))), (9, .int 0), (8, .null), (7, .ref (ad 11 i34)), (6, .int (nI i34)), (5, .int (nI n5)), (0, .ref (g 0)), (1, .int v0), (2, .int v1)]) hx hb dX11_streets_121 hl (ltb rfl) rfl (fun ls hl => ?_)
                refine lv_iload hx hb dX11_streets_123 (lvA6 hl) ?_
                refine lv_iload hx hb dX11_streets_125 (lvA2 hl) ?_
                refine lv_if_eq (tgt := 142) hx hb dX11_streets_127 rfl (fun _ => ?_) (fun h => absurd h cq_eq_0_0)
                refine lv_iconst (v := 0) hx hb dX11_streets_142 kic_0 ?_
                refine lv_iadd hx hb dX11_streets_143 ?_
                refine lv_topi (fun y_39 ey_39 => ?_)
                obtain rfl : y_39 = (nI (n5 + 0)) := ey_39.trans (nI_add n5 0)
                refine lv_istore (lv' := [(5, .int (nI (n5 + 0))), (4, .int (nI (n4 + 0))), (3, .int (nI (n3 + 1))), (9, .int 0), (8, .null), (7, .ref (ad 11 i34)), (6, .int (nI i34)), (0, .ref (g 0)), (1, .int v0), (2, .int v1)]) hx hb dX11_streets_144 hl (ltb rfl) rfl (fun ls hl => ?_)
                refine lv_iinc (v := (nI (i34 + 1))) (lv' := [(6, .int (nI (i34 + 1))), (5, .int (nI (n5 + 0))), (4, .int (nI (n4 + 0))), (3, .int (nI (n3 + 1))), (9, .int 0), (8, .null), (7, .ref (ad 11 i34)), (0, .ref (g 0)), (1, .int v0), (2, .int v1)]) hx hb dX11_streets_146 hl (k := 6) rfl (nI_1 _) (ltb rfl) rfl (fun ls hl => ?_)
                refine lv_goto (tgt := 34) hx hb dX11_streets_149 rfl ?_
                exact ih34 (i34 + 1) (n3 + 1) (n4 + 0) (n5 + 0) (by (first | omega | (have zz0 := Hid.u hb_cn; omega))) ⟨(by (first | omega | (have zz0 := Hid.u hb_cn; omega))), ⟨by (first | omega | (have zz0 := Hid.u hb_cn; omega)), by (first | omega | (have zz0 := Hid.u hb_cn; omega)), by (first | omega | (have zz0 := Hid.u hb_cn; omega))⟩⟩ ls (lv_sub hl [0, 1, 2, 3, 7, 8, 9] rfl)
      exact lp_34 _ 0 0 0 0 (Nat.lt_succ_self _) ⟨(by (first | omega | (have zz0 := Hid.u hb_cn; omega))), ⟨Nat.le_refl _, Nat.le_refl _, Nat.le_refl _⟩⟩ ls (lv_sub hl [0, 1, 2, 3, 4, 5, 6] rfl)
    ·
      have h_4 : ¬ (0 ≤ v1.toInt ∧ v1.toInt ≤ 2) := h_4
      refine lv_if_ne (tgt := 23) hx hb (oc_154 16 (aq_16 shX11_streets_0) sgw_0_7) rfl (fun h => absurd h cq_eq_0_0) (fun _ => ?_)
      refine lv_ldc2 (v := (-1)) hx hb hown (S.2.2.2.2 _ (wk4_5 1 rfl rfl)) (oc_20 19 (aq_19 shX11_streets_0) uw_0_254) ?_
      exact W.lret (v := (-1)) hx hb hr (fun t ht hW => ⟨(-1), rfl, trivial, ht⟩) (fun _ h => absurd h List.not_mem_nil) (oc_173 22 (aq_22 shX11_streets_0))
  ·
    have h_2 : ¬ (0 ≤ v0.toInt ∧ v0.toInt ≤ 9) := h_2
    refine lv_if_eq (tgt := 19) hx hb (oc_153 7 (aq_7 shX11_streets_0) sgw_0_12) rfl (fun _ => ?_) (fun h => absurd h cq_eq_0_0)
    refine lv_ldc2 (v := (-1)) hx hb hown (S.2.2.2.2 _ (wk4_5 1 rfl rfl)) (oc_20 19 (aq_19 shX11_streets_0) uw_0_254) ?_
    exact W.lret (v := (-1)) hx hb hr (fun t ht hW => ⟨(-1), rfl, trivial, ht⟩) (fun _ h => absurd h List.not_mem_nil) (oc_173 22 (aq_22 shX11_streets_0))
set_option maxRecDepth 100000 in
set_option maxHeartbeats 4000000 in
theorem q_Xcheat (l : Launch) (D : va_G) (cI cB cZ : ClassId) (zz qq vv : Nat) (bt : Nat → Int32) (g : Nat → Nat) (ad : Nat → Nat → Nat) (cn : Nat → Nat) (In : Nat → Int32) (Fn : Nat → Nat → Int32) (v0 v1 v2 : Int32) (hB : CBX cn) : Met l yX11_cheat (CWS yX11_cheat cX11_cheat 10 (some .long)) (RM 4 0 0) (PBrx [.ref (g 0), .int v0, .int v1, .int v2] D cI cB cZ zz qq vv bt (wX cI (D.1 99) zz g ad cn In Fn)) (vp_Sl (fun _ => True)) 0 0 (fun _ => False) := by
  refine en_rx rfl pn_RX11 (Nat.le_of_ble_eq_true rfl) (fun p e s m below meth c hx hb hml hown S hr hlocks hnm hP hK hXS hS ls hl => ?_)
  have hl : lv_has ls 10 [(0, .ref (g 0)), (1, .int v0), (2, .int v1), (3, .int v2)] := hl
  have hb_cn : Hid (CBX cn) := hB
  replace hB : CBXh cn := hB
  refine lv_aload_n hx hb (oc_42 0 shX11_cheat_0) rfl (lvA0 hl) ?_
  refine lv_iload_n hx hb (oc_27 1 (aq_1 shX11_cheat_0)) rfl (lvA1 hl) ?_
  refine va_csq (runV_rxa (As := [.int v0]) (rest := []) S (q_XkitchenAt l D cI cB cZ zz qq vv bt g ad cn In Fn v0 hB) kV_RX11_114 hK hXS hS hP 0 xo_0 rfl rfl ⟨Nat.le_of_ble_eq_true rfl, Nat.le_of_ble_eq_true rfl⟩ ⟨Nat.le_of_ble_eq_true rfl, Nat.le_of_ble_eq_true rfl⟩ rfl hl.1 rfl (Nat.le_of_ble_eq_true rfl) (oc_182 2 (aq_2 shX11_cheat_0) uw_0_114)) (fun r_1 h_2 => ?_)
  rcases h_2 with ⟨mr_1, er_1, hr_1, rfl⟩ | ⟨hr_1, rfl⟩
  ·
    refine lv_ifnull hx hb (oc_198 5 (aq_5 shX11_cheat_0) sgw_0_23) ?_
    refine lv_iload_n hx hb (oc_28 8 (aq_8 shX11_cheat_0)) rfl (lvA2 hl) ?_
    refine lv_iconst (v := 0) hx hb (oc_3 9 (aq_9 shX11_cheat_0)) kic_0 ?_
    refine lv_sipush (v := 1000) hx hb (oc_17 10 (aq_10 shX11_cheat_0) sgw_3_232) (by decide) ?_
    refine vp_callSi (runS_r (As := [.int v1, .int 0, .int 1000]) (rest := []) S (q_l_within l D cI cB cZ v1 0 1000) kS_RX11_80 hK hP [] rfl ⟨Nat.le_of_ble_eq_true rfl, Nat.le_of_ble_eq_true rfl⟩ ⟨Nat.le_of_ble_eq_true rfl, Nat.le_of_ble_eq_true rfl⟩ rfl hl.1 rfl (Nat.le_of_ble_eq_true rfl) (oc_184 13 (aq_13 shX11_cheat_0) uw_0_80)) (fun r_3 h_4 => ?_)
    rcases h_4 with ⟨rfl, h_4⟩ | ⟨rfl, h_4⟩
    ·
      have h_4 : 0 ≤ v1.toInt ∧ v1.toInt ≤ 1000 := h_4
      refine lv_if_eq (tgt := 28) hx hb (oc_153 16 (aq_16 shX11_cheat_0) sgw_0_12) rfl (fun h => absurd h cq_eq_1_0) (fun _ => ?_)
      refine lv_iload_n hx hb (oc_29 19 (aq_19 shX11_cheat_0)) rfl (lvA3 hl) ?_
      refine lv_iconst (v := 0) hx hb (oc_3 20 (aq_20 shX11_cheat_0)) kic_0 ?_
      refine lv_iconst (v := 2) hx hb (oc_5 21 (aq_21 shX11_cheat_0)) kic_2 ?_
      refine vp_callSi (runS_r (As := [.int v2, .int 0, .int 2]) (rest := []) S (q_l_within l D cI cB cZ v2 0 2) kS_RX11_80 hK hP [] rfl ⟨Nat.le_of_ble_eq_true rfl, Nat.le_of_ble_eq_true rfl⟩ ⟨Nat.le_of_ble_eq_true rfl, Nat.le_of_ble_eq_true rfl⟩ rfl hl.1 rfl (Nat.le_of_ble_eq_true rfl) (oc_184 22 (aq_22 shX11_cheat_0) uw_0_80)) (fun r_5 h_6 => ?_)
      rcases h_6 with ⟨rfl, h_6⟩ | ⟨rfl, h_6⟩
      ·
        have h_6 : 0 ≤ v2.toInt ∧ v2.toInt ≤ 2 := h_6
        refine lv_if_ne (tgt := 32) hx hb (oc_154 25 shX11_cheat_25 sgw_0_7) rfl (fun _ => ?_) (fun h => absurd h cq_eq_1_0)
        refine lv_iconst (v := 0) hx hb (oc_3 32 (aq_7 shX11_cheat_25)) kic_0 ?_
        refine lv_istore (lv' := [(4, .int 0), (0, .ref (g 0)), (1, .int v0), (2, .int v1), (3, .int v2)]) hx hb (oc_54 33 (aq_8 shX11_cheat_25) ub_4) hl (ltb rfl) rfl (fun ls hl => ?_)
        refine lv_iconst (v := 0) hx hb (oc_3 35 (aq_10 shX11_cheat_25)) kic_0 ?_
        refine lv_istore (lv' := [(5, .int 0), (4, .int 0), (0, .ref (g 0)), (1, .int v0), (2, .int v1), (3, .int v2)]) hx hb (oc_54 36 (aq_11 shX11_cheat_25) ub_5) hl (ltb rfl) rfl (fun ls hl => ?_)
        refine lv_iconst (v := 0) hx hb (oc_3 38 (aq_13 shX11_cheat_25)) kic_0 ?_
        refine lv_istore (lv' := [(6, .int 0), (5, .int 0), (4, .int 0), (0, .ref (g 0)), (1, .int v0), (2, .int v1), (3, .int v2)]) hx hb (oc_54 39 (aq_14 shX11_cheat_25) ub_6) hl (ltb rfl) rfl (fun ls hl => ?_)
        refine lv_iconst (v := 0) hx hb (oc_3 41 (aq_16 shX11_cheat_25)) kic_0 ?_
        refine lv_istore (lv' := [(7, .int 0), (6, .int 0), (5, .int 0), (4, .int 0), (0, .ref (g 0)), (1, .int v0), (2, .int v1), (3, .int v2)]) hx hb (oc_54 42 (aq_17 shX11_cheat_25) ub_7) hl (ltb rfl) rfl (fun ls hl => ?_)
        have lp_44 : ∀ (n : Nat) (i44 : Nat) (n3 : Nat) (n4 : Nat) (n5 : Nat) , cn 11 - i44 < n → (i44 ≤ cn 11 ∧ (n3 ≤ i44 ∧ n4 ≤ i44 ∧ n5 ≤ i44)) → ∀ ls : Array Slot, lv_has ls 10 [(7, .int (nI i44)), (6, .int (nI n5)), (5, .int (nI n4)), (4, .int (nI n3)), (0, .ref (g 0)), (1, .int v0), (2, .int v1), (3, .int v2)] → W p l e (RM 4 0 0) s m ([.ref (g 0), .int v0, .int v1, .int v2]).toArray below meth c s.heap [] 0 0 (MQ below (vp_Sl (fun _ => True)) ([.ref (g 0), .int v0, .int v1, .int v2]).toArray s 0 0 (fun _ => False)) (F0 m 44 ls []) := by
          intro n44
          induction n44 with
          | zero => intros; (first | omega | (have zz0 := Hid.u hb_cn; omega))
          | succ n44 ih44 =>
            intro i44 n3 n4 n5 hmu44 hinv44 ls hl
            obtain ⟨hr44, hx44_0⟩ := hinv44
            have ti44 : (nI i44).toInt = (i44 : Int) := nI_toInt (by (first | omega | (have zz0 := Hid.u hb_cn; omega)))
            refine lv_iload hx hb (oc_21 44 (aq_19 shX11_cheat_25) ub_7) (lvA0 hl) ?_
            refine lv_aload_n hx hb (oc_42 46 (aq_21 shX11_cheat_25)) rfl (lvA4 hl) ?_
            refine gf_RX11_65 S hK hP 0 xo_0 (v := .ref (g 11)) rfl (oc_180 47 (aq_22 shX11_cheat_25) uw_0_65) ?_
            refine vp_callSi (runV_r (As := []) (rest := [.int (nI i44)]) S (q_l_size l D cI cB cZ (g 11) (if (cn 11) = 0 then zz else ad 2 1) (In 11) (nI (cn 11))) kV_RX11_84 hK hP [25] (one_is xo_25) 25 xo_25 rfl rfl ⟨Nat.le_of_ble_eq_true rfl, Nat.le_of_ble_eq_true rfl⟩ ⟨Nat.le_of_ble_eq_true rfl, Nat.le_of_ble_eq_true rfl⟩ rfl hl.1 rfl (Nat.le_of_ble_eq_true rfl) (oc_182 50 shX11_cheat_50 uw_0_84)) (fun r_7 h_8 => ?_)
            subst h_8
            have : (nI (cn 11)).toInt = (((cn 11) : Nat) : Int) := nI_toInt (by (first | omega | (have zz0 := Hid.u hb_cn; omega)))
            refine lv_icmp_ge (tgt := 150) hx hb (oc_162 53 (aq_3 shX11_cheat_50) sgw_0_97) rfl (fun c_9 => ?_) (fun c_9 => ?_)
            ·
              have tc_9 : ((nI (cn 11)).toInt : Int) ≤ (nI i44).toInt := Int32.le_iff_toInt_le.mp c_9
              refine lv_iload hx hb (oc_21 150 shX11_cheat_150 ub_4) (lvA3 hl) ?_
              refine lv_iload hx hb (oc_21 152 (aq_2 shX11_cheat_150) ub_5) (lvA2 hl) ?_
              refine lv_iload hx hb (oc_21 154 (aq_4 shX11_cheat_150) ub_6) (lvA1 hl) ?_
              refine lv_aload_n hx hb (oc_42 156 (aq_6 shX11_cheat_150)) rfl (lvA4 hl) ?_
              refine gf_RX11_65 S hK hP 0 xo_0 (v := .ref (g 11)) rfl (oc_180 157 (aq_7 shX11_cheat_150) uw_0_65) ?_
              refine vp_callSi (runV_r (As := []) (rest := [.int (nI n5), .int (nI n4), .int (nI n3)]) S (q_l_size l D cI cB cZ (g 11) (if (cn 11) = 0 then zz else ad 2 1) (In 11) (nI (cn 11))) kV_RX11_84 hK hP [25] (one_is xo_25) 25 xo_25 rfl rfl ⟨Nat.le_of_ble_eq_true rfl, Nat.le_of_ble_eq_true rfl⟩ ⟨Nat.le_of_ble_eq_true rfl, Nat.le_of_ble_eq_true rfl⟩ rfl hl.1 rfl (Nat.le_of_ble_eq_true rfl) (oc_182 160 (aq_10 shX11_cheat_150) uw_0_84)) (fun r_10 h_11 => ?_)
              subst h_11
              refine lv_iload_n hx hb (oc_29 163 (aq_13 shX11_cheat_150)) rfl (lvA7 hl) ?_
              refine vp_callSl (runS_r (As := [.int (nI n3), .int (nI n4), .int (nI n5), .int (nI (cn 11)), .int v2]) (rest := []) S (q_Xodds l D cI cB cZ n3 n4 n5 (cn 11) v2 (by (first | omega | (have zz0 := Hid.u hb_cn; omega))) (by (first | omega | (have zz0 := Hid.u hb_cn; omega))) (by (first | omega | (have zz0 := Hid.u hb_cn; omega))) (by (first | omega | (have zz0 := Hid.u hb_cn; omega)))) kS_RX11_256 hK hP [] rfl ⟨Nat.le_of_ble_eq_true rfl, Nat.le_of_ble_eq_true rfl⟩ ⟨Nat.le_of_ble_eq_true rfl, Nat.le_of_ble_eq_true rfl⟩ rfl hl.1 rfl (Nat.le_of_ble_eq_true rfl) (oc_184 164 (aq_14 shX11_cheat_150) uw_1_0)) (fun r_12 h_13 => ?_)
              exact W.lret (v := r_12) hx hb hr (fun t ht hW => ⟨r_12, rfl, trivial, ht⟩) (fun _ h => absurd h List.not_mem_nil) (oc_173 167 (aq_17 shX11_cheat_150))
            ·
              have tc_9 : ((nI i44).toInt : Int) < (nI (cn 11)).toInt := Int32.lt_iff_toInt_lt.mp (Int32.not_le.mp c_9)
              refine lv_aload_n hx hb (oc_42 56 (aq_6 shX11_cheat_50)) rfl (lvA4 hl) ?_
              refine gf_RX11_65 S hK hP 0 xo_0 (v := .ref (g 11)) rfl (oc_180 57 (aq_7 shX11_cheat_50) uw_0_65) ?_
              refine lv_iload hx hb (oc_21 60 (aq_10 shX11_cheat_50) ub_7) (lvA0 hl) ?_
              refine va_csq (runV_rx (As := [.int (nI i44)]) (rest := []) S (q_l_get l D cI cB cZ zz qq vv bt (g 11) (ad 2 1) (cn 21) (cn 11) i44 (ad 11 i44) (In 11) (fun i => if i < (cn 11) then some (ad 11 i) else none) (by (first | omega | (have zz0 := Hid.u hb_cn; omega))) (if_pos (by (first | omega | (have zz0 := Hid.u hb_cn; omega)))) (by (first | omega | (have zz0 := Hid.u hb_cn; omega))) (by (first | omega | (have zz0 := Hid.u hb_cn; omega)))) kV_RX11_87 hK hXS hS hP _ (two_is (xl_1 (by (first | omega | (have zz0 := Hid.u hb_cn; omega)))) (xf_14 (k := 0) (by (first | omega | (have zz0 := Hid.u hb_cn; omega))))) (va_recv hK.1 hP (ci := 0) rfl xo_25) ⟨Nat.le_of_ble_eq_true rfl, Nat.le_of_ble_eq_true rfl⟩ ⟨Nat.le_of_ble_eq_true rfl, Nat.le_of_ble_eq_true rfl⟩ rfl hl.1 rfl (Nat.le_of_ble_eq_true rfl) (oc_182 62 (aq_12 shX11_cheat_50) uw_0_87)) (fun r_14 h_15 => ?_)
              subst h_15
              have kf_1 : i44 < cn 11 := by (first | omega | (have zz0 := Hid.u hb_cn; omega))
              refine va_castS hx hb hown (S.2.2.2.2 _ (wk2_17 0 rfl rfl)) (xclass hK.1 (ci := 3) rfl) (va_recv hK.1 hP (ci := 3) rfl (xf_1 kf_1)) (oc_192 65 (aq_15 shX11_cheat_50) uw_0_93) ?_
              refine lv_astore (lv' := [(8, .ref (ad 11 i44)), (7, .int (nI i44)), (6, .int (nI n5)), (5, .int (nI n4)), (4, .int (nI n3)), (0, .ref (g 0)), (1, .int v0), (2, .int v1), (3, .int v2)]) hx hb (oc_58 68 (aq_18 shX11_cheat_50) ub_8) hl (ltb rfl) rfl (fun ls hl => ?_)
              refine lv_aload hx hb (oc_25 70 (aq_20 shX11_cheat_50) ub_8) (lvA0 hl) ?_
              refine gf_RX11_205 S hK hP _ (xf_1 kf_1) (v := .int ((Fn 123) i44)) rfl (oc_180 72 (aq_22 shX11_cheat_50) uw_0_205) ?_
              refine lv_iload_n hx hb (oc_28 75 shX11_cheat_75) rfl (lvA7 hl) ?_
              refine lv_icmp_lt (tgt := 83) hx hb (oc_161 76 (aq_1 shX11_cheat_75) sgw_0_7) rfl (fun c_16 => ?_) (fun c_16 => ?_)
              ·
                have tc_16 : (((Fn 123) i44).toInt : Int) < v1.toInt := Int32.lt_iff_toInt_lt.mp c_16
                refine lv_iconst (v := 0) hx hb (oc_3 83 (aq_8 shX11_cheat_75)) kic_0 ?_
                refine lv_istore (lv' := [(9, .int 0), (8, .ref (ad 11 i44)), (7, .int (nI i44)), (6, .int (nI n5)), (5, .int (nI n4)), (4, .int (nI n3)), (0, .ref (g 0)), (1, .int v0), (2, .int v1), (3, .int v2)]) hx hb (oc_54 84 (aq_9 shX11_cheat_75) ub_9) hl (ltb rfl) rfl (fun ls hl => ?_)
                refine lv_iload hx hb (oc_21 86 (aq_11 shX11_cheat_75) ub_4) (lvA5 hl) ?_
                refine lv_iload hx hb (oc_21 88 (aq_13 shX11_cheat_75) ub_9) (lvA0 hl) ?_
                refine lv_if_eq (tgt := 97) hx hb (oc_153 90 (aq_15 shX11_cheat_75) sgw_0_7) rfl (fun _ => ?_) (fun h => absurd h cq_eq_0_0)
                refine lv_iconst (v := 0) hx hb (oc_3 97 (aq_22 shX11_cheat_75)) kic_0 ?_
                refine lv_iadd hx hb (oc_96 98 (aq_23 shX11_cheat_75)) ?_
                refine lv_topi (fun y_17 ey_17 => ?_)
                obtain rfl : y_17 = (nI (n3 + 0)) := ey_17.trans (nI_add n3 0)
                refine lv_istore (lv' := [(4, .int (nI (n3 + 0))), (9, .int 0), (8, .ref (ad 11 i44)), (7, .int (nI i44)), (6, .int (nI n5)), (5, .int (nI n4)), (0, .ref (g 0)), (1, .int v0), (2, .int v1), (3, .int v2)]) hx hb (oc_54 99 shX11_cheat_99 ub_4) hl (ltb rfl) rfl (fun ls hl => ?_)
                refine lv_iload hx hb (oc_21 101 (aq_2 shX11_cheat_99) ub_5) (lvA5 hl) ?_
                refine lv_aload hx hb (oc_25 103 (aq_4 shX11_cheat_99) ub_8) (lvA2 hl) ?_
                refine gf_RX11_211 S hK hP _ (xf_1 kf_1) (v := .int ((Fn 120) i44)) rfl (oc_180 105 (aq_6 shX11_cheat_99) uw_0_211) ?_
                refine lv_iload_n hx hb (oc_27 108 (aq_9 shX11_cheat_99)) rfl (lvA7 hl) ?_
                refine lv_icmp_ne (tgt := 116) hx hb (oc_160 109 (aq_10 shX11_cheat_99) sgw_0_7) rfl (fun c_18 => ?_) (fun c_18 => ?_)
                ·
                  have tc_18 : (((Fn 120) i44).toInt : Int) ≠ v0.toInt := fun q => c_18 (Int32.toInt_inj.mp q)
                  refine lv_iconst (v := 0) hx hb (oc_3 116 (aq_17 shX11_cheat_99)) kic_0 ?_
                  refine lv_iadd hx hb dX11_cheat_117 ?_
                  refine lv_topi (fun y_19 ey_19 => ?_)
                  obtain rfl : y_19 = (nI (n4 + 0)) := ey_19.trans (nI_add n4 0)
                  refine lv_istore (lv' := [(5, .int (nI (n4 + 0))), (4, .int (nI (n3 + 0))), (9, .int 0), (8, .ref (ad 11 i44)), (7, .int (nI i44)), (6, .int (nI n5)), (0, .ref (g 0)), (1, .int v0), (2, .int v1), (3, .int v2)]) hx hb dX11_cheat_118 hl (ltb rfl) rfl (fun ls hl => ?_)
                  refine lv_iload hx hb dX11_cheat_120 (lvA5 hl) ?_
                  refine lv_aload hx hb dX11_cheat_122 (lvA3 hl) ?_
                  refine gf_RX11_211 S hK hP _ (xf_1 kf_1) (v := .int ((Fn 120) i44)) rfl dX11_cheat_124 ?_
                  refine lv_iload_n hx hb dX11_cheat_127 rfl (lvA7 hl) ?_
                  refine lv_icmp_ne (tgt := 140) hx hb dX11_cheat_128 rfl (fun c_20 => ?_) (fun c_20 => ?_)
                  ·
                    have tc_20 : (((Fn 120) i44).toInt : Int) ≠ v0.toInt := fun q => c_20 (Int32.toInt_inj.mp q)
                    refine lv_iconst (v := 0) hx hb dX11_cheat_140 kic_0 ?_
                    refine lv_iadd hx hb dX11_cheat_141 ?_
                    refine lv_topi (fun y_21 ey_21 => ?_)
                    obtain rfl : y_21 = (nI (n5 + 0)) := ey_21.trans (nI_add n5 0)
                    refine lv_istore (lv' := [(6, .int (nI (n5 + 0))), (5, .int (nI (n4 + 0))), (4, .int (nI (n3 + 0))), (9, .int 0), (8, .ref (ad 11 i44)), (7, .int (nI i44)), (0, .ref (g 0)), (1, .int v0), (2, .int v1), (3, .int v2)]) hx hb dX11_cheat_142 hl (ltb rfl) rfl (fun ls hl => ?_)
                    refine lv_iinc (v := (nI (i44 + 1))) (lv' := [(7, .int (nI (i44 + 1))), (6, .int (nI (n5 + 0))), (5, .int (nI (n4 + 0))), (4, .int (nI (n3 + 0))), (9, .int 0), (8, .ref (ad 11 i44)), (0, .ref (g 0)), (1, .int v0), (2, .int v1), (3, .int v2)]) hx hb dX11_cheat_144 hl (k := 5) rfl (nI_1 _) (ltb rfl) rfl (fun ls hl => ?_)
                    refine lv_goto (tgt := 44) hx hb dX11_cheat_147 rfl ?_
                    exact ih44 (i44 + 1) (n3 + 0) (n4 + 0) (n5 + 0) (by (first | omega | (have zz0 := Hid.u hb_cn; omega))) ⟨(by (first | omega | (have zz0 := Hid.u hb_cn; omega))), ⟨by (first | omega | (have zz0 := Hid.u hb_cn; omega)), by (first | omega | (have zz0 := Hid.u hb_cn; omega)), by (first | omega | (have zz0 := Hid.u hb_cn; omega))⟩⟩ ls (lv_sub hl [0, 1, 2, 3, 6, 7, 8, 9] rfl)
                  ·
                    have tc_20 : (((Fn 120) i44).toInt : Int) = v0.toInt := congrArg Int32.toInt c_20
                    refine lv_iload hx hb dX11_cheat_131 (lvA2 hl) ?_
                    refine lv_if_eq (tgt := 140) hx hb dX11_cheat_133 rfl (fun _ => ?_) (fun h => absurd h cq_eq_0_0)
                    refine lv_iconst (v := 0) hx hb dX11_cheat_140 kic_0 ?_
                    refine lv_iadd hx hb dX11_cheat_141 ?_
                    refine lv_topi (fun y_22 ey_22 => ?_)
                    obtain rfl : y_22 = (nI (n5 + 0)) := ey_22.trans (nI_add n5 0)
                    refine lv_istore (lv' := [(6, .int (nI (n5 + 0))), (5, .int (nI (n4 + 0))), (4, .int (nI (n3 + 0))), (9, .int 0), (8, .ref (ad 11 i44)), (7, .int (nI i44)), (0, .ref (g 0)), (1, .int v0), (2, .int v1), (3, .int v2)]) hx hb dX11_cheat_142 hl (ltb rfl) rfl (fun ls hl => ?_)
                    refine lv_iinc (v := (nI (i44 + 1))) (lv' := [(7, .int (nI (i44 + 1))), (6, .int (nI (n5 + 0))), (5, .int (nI (n4 + 0))), (4, .int (nI (n3 + 0))), (9, .int 0), (8, .ref (ad 11 i44)), (0, .ref (g 0)), (1, .int v0), (2, .int v1), (3, .int v2)]) hx hb dX11_cheat_144 hl (k := 5) rfl (nI_1 _) (ltb rfl) rfl (fun ls hl => ?_)
                    refine lv_goto (tgt := 44) hx hb dX11_cheat_147 rfl ?_
                    exact ih44 (i44 + 1) (n3 + 0) (n4 + 0) (n5 + 0) (by (first | omega | (have zz0 := Hid.u hb_cn; omega))) ⟨(by (first | omega | (have zz0 := Hid.u hb_cn; omega))), ⟨by (first | omega | (have zz0 := Hid.u hb_cn; omega)), by (first | omega | (have zz0 := Hid.u hb_cn; omega)), by (first | omega | (have zz0 := Hid.u hb_cn; omega))⟩⟩ ls (lv_sub hl [0, 1, 2, 3, 6, 7, 8, 9] rfl)
                ·
                  have tc_18 : (((Fn 120) i44).toInt : Int) = v0.toInt := congrArg Int32.toInt c_18
                  refine lv_iconst (v := 1) hx hb (oc_4 112 (aq_13 shX11_cheat_99)) kic_1 ?_
                  refine lv_goto (tgt := 117) hx hb (oc_167 113 (aq_14 shX11_cheat_99) sgw_0_4) rfl ?_
                  refine lv_iadd hx hb dX11_cheat_117 ?_
                  refine lv_topi (fun y_23 ey_23 => ?_)
                  obtain rfl : y_23 = (nI (n4 + 1)) := ey_23.trans (nI_add n4 1)
                  refine lv_istore (lv' := [(5, .int (nI (n4 + 1))), (4, .int (nI (n3 + 0))), (9, .int 0), (8, .ref (ad 11 i44)), (7, .int (nI i44)), (6, .int (nI n5)), (0, .ref (g 0)), (1, .int v0), (2, .int v1), (3, .int v2)]) hx hb dX11_cheat_118 hl (ltb rfl) rfl (fun ls hl => ?_)
                  refine lv_iload hx hb dX11_cheat_120 (lvA5 hl) ?_
                  refine lv_aload hx hb dX11_cheat_122 (lvA3 hl) ?_
                  refine gf_RX11_211 S hK hP _ (xf_1 kf_1) (v := .int ((Fn 120) i44)) rfl dX11_cheat_124 ?_
                  refine lv_iload_n hx hb dX11_cheat_127 rfl (lvA7 hl) ?_
                  refine lv_icmp_ne (tgt := 140) hx hb dX11_cheat_128 rfl (fun c_24 => ?_) (fun c_24 => ?_)
                  ·
                    have tc_24 : (((Fn 120) i44).toInt : Int) ≠ v0.toInt := fun q => c_24 (Int32.toInt_inj.mp q)
                    refine lv_iconst (v := 0) hx hb dX11_cheat_140 kic_0 ?_
                    refine lv_iadd hx hb dX11_cheat_141 ?_
                    refine lv_topi (fun y_25 ey_25 => ?_)
                    obtain rfl : y_25 = (nI (n5 + 0)) := ey_25.trans (nI_add n5 0)
                    refine lv_istore (lv' := [(6, .int (nI (n5 + 0))), (5, .int (nI (n4 + 1))), (4, .int (nI (n3 + 0))), (9, .int 0), (8, .ref (ad 11 i44)), (7, .int (nI i44)), (0, .ref (g 0)), (1, .int v0), (2, .int v1), (3, .int v2)]) hx hb dX11_cheat_142 hl (ltb rfl) rfl (fun ls hl => ?_)
                    refine lv_iinc (v := (nI (i44 + 1))) (lv' := [(7, .int (nI (i44 + 1))), (6, .int (nI (n5 + 0))), (5, .int (nI (n4 + 1))), (4, .int (nI (n3 + 0))), (9, .int 0), (8, .ref (ad 11 i44)), (0, .ref (g 0)), (1, .int v0), (2, .int v1), (3, .int v2)]) hx hb dX11_cheat_144 hl (k := 5) rfl (nI_1 _) (ltb rfl) rfl (fun ls hl => ?_)
                    refine lv_goto (tgt := 44) hx hb dX11_cheat_147 rfl ?_
                    exact ih44 (i44 + 1) (n3 + 0) (n4 + 1) (n5 + 0) (by (first | omega | (have zz0 := Hid.u hb_cn; omega))) ⟨(by (first | omega | (have zz0 := Hid.u hb_cn; omega))), ⟨by (first | omega | (have zz0 := Hid.u hb_cn; omega)), by (first | omega | (have zz0 := Hid.u hb_cn; omega)), by (first | omega | (have zz0 := Hid.u hb_cn; omega))⟩⟩ ls (lv_sub hl [0, 1, 2, 3, 6, 7, 8, 9] rfl)
                  ·
                    have tc_24 : (((Fn 120) i44).toInt : Int) = v0.toInt := congrArg Int32.toInt c_24
                    refine lv_iload hx hb dX11_cheat_131 (lvA2 hl) ?_
                    refine lv_if_eq (tgt := 140) hx hb dX11_cheat_133 rfl (fun _ => ?_) (fun h => absurd h cq_eq_0_0)
                    refine lv_iconst (v := 0) hx hb dX11_cheat_140 kic_0 ?_
                    refine lv_iadd hx hb dX11_cheat_141 ?_
                    refine lv_topi (fun y_26 ey_26 => ?_)
                    obtain rfl : y_26 = (nI (n5 + 0)) := ey_26.trans (nI_add n5 0)
                    refine lv_istore (lv' := [(6, .int (nI (n5 + 0))), (5, .int (nI (n4 + 1))), (4, .int (nI (n3 + 0))), (9, .int 0), (8, .ref (ad 11 i44)), (7, .int (nI i44)), (0, .ref (g 0)), (1, .int v0), (2, .int v1), (3, .int v2)]) hx hb dX11_cheat_142 hl (ltb rfl) rfl (fun ls hl => ?_)
                    refine lv_iinc (v := (nI (i44 + 1))) (lv' := [(7, .int (nI (i44 + 1))), (6, .int (nI (n5 + 0))), (5, .int (nI (n4 + 1))), (4, .int (nI (n3 + 0))), (9, .int 0), (8, .ref (ad 11 i44)), (0, .ref (g 0)), (1, .int v0), (2, .int v1), (3, .int v2)]) hx hb dX11_cheat_144 hl (k := 5) rfl (nI_1 _) (ltb rfl) rfl (fun ls hl => ?_)
                    refine lv_goto (tgt := 44) hx hb dX11_cheat_147 rfl ?_
                    exact ih44 (i44 + 1) (n3 + 0) (n4 + 1) (n5 + 0) (by (first | omega | (have zz0 := Hid.u hb_cn; omega))) ⟨(by (first | omega | (have zz0 := Hid.u hb_cn; omega))), ⟨by (first | omega | (have zz0 := Hid.u hb_cn; omega)), by (first | omega | (have zz0 := Hid.u hb_cn; omega)), by (first | omega | (have zz0 := Hid.u hb_cn; omega))⟩⟩ ls (lv_sub hl [0, 1, 2, 3, 6, 7, 8, 9] rfl)
              ·
                have tc_16 : (v1.toInt : Int) ≤ ((Fn 123) i44).toInt := Int32.le_iff_toInt_le.mp (Int32.not_lt.mp c_16)
                refine lv_iconst (v := 1) hx hb (oc_4 79 (aq_4 shX11_cheat_75)) kic_1 ?_
                refine lv_goto (tgt := 84) hx hb (oc_167 80 (aq_5 shX11_cheat_75) sgw_0_4) rfl ?_
                refine lv_istore (lv' := [(9, .int 1), (8, .ref (ad 11 i44)), (7, .int (nI i44)), (6, .int (nI n5)), (5, .int (nI n4)), (4, .int (nI n3)), (0, .ref (g 0)), (1, .int v0), (2, .int v1), (3, .int v2)]) hx hb (oc_54 84 (aq_9 shX11_cheat_75) ub_9) hl (ltb rfl) rfl (fun ls hl => ?_)
                refine lv_iload hx hb (oc_21 86 (aq_11 shX11_cheat_75) ub_4) (lvA5 hl) ?_
                refine lv_iload hx hb (oc_21 88 (aq_13 shX11_cheat_75) ub_9) (lvA0 hl) ?_
                refine lv_if_eq (tgt := 97) hx hb (oc_153 90 (aq_15 shX11_cheat_75) sgw_0_7) rfl (fun h => absurd h cq_eq_1_0) (fun _ => ?_)
                refine lv_iconst (v := 1) hx hb (oc_4 93 (aq_18 shX11_cheat_75)) kic_1 ?_
                refine lv_goto (tgt := 98) hx hb (oc_167 94 (aq_19 shX11_cheat_75) sgw_0_4) rfl ?_
                refine lv_iadd hx hb (oc_96 98 (aq_23 shX11_cheat_75)) ?_
                refine lv_topi (fun y_27 ey_27 => ?_)
                obtain rfl : y_27 = (nI (n3 + 1)) := ey_27.trans (nI_add n3 1)
                refine lv_istore (lv' := [(4, .int (nI (n3 + 1))), (9, .int 1), (8, .ref (ad 11 i44)), (7, .int (nI i44)), (6, .int (nI n5)), (5, .int (nI n4)), (0, .ref (g 0)), (1, .int v0), (2, .int v1), (3, .int v2)]) hx hb (oc_54 99 shX11_cheat_99 ub_4) hl (ltb rfl) rfl (fun ls hl => ?_)
                refine lv_iload hx hb (oc_21 101 (aq_2 shX11_cheat_99) ub_5) (lvA5 hl) ?_
                refine lv_aload hx hb (oc_25 103 (aq_4 shX11_cheat_99) ub_8) (lvA2 hl) ?_
                refine gf_RX11_211 S hK hP _ (xf_1 kf_1) (v := .int ((Fn 120) i44)) rfl (oc_180 105 (aq_6 shX11_cheat_99) uw_0_211) ?_
                refine lv_iload_n hx hb (oc_27 108 (aq_9 shX11_cheat_99)) rfl (lvA7 hl) ?_
                refine lv_icmp_ne (tgt := 116) hx hb (oc_160 109 (aq_10 shX11_cheat_99) sgw_0_7) rfl (fun c_28 => ?_) (fun c_28 => ?_)
                ·
                  have tc_28 : (((Fn 120) i44).toInt : Int) ≠ v0.toInt := fun q => c_28 (Int32.toInt_inj.mp q)
                  refine lv_iconst (v := 0) hx hb (oc_3 116 (aq_17 shX11_cheat_99)) kic_0 ?_
                  refine lv_iadd hx hb dX11_cheat_117 ?_
                  refine lv_topi (fun y_29 ey_29 => ?_)
                  obtain rfl : y_29 = (nI (n4 + 0)) := ey_29.trans (nI_add n4 0)
                  refine lv_istore (lv' := [(5, .int (nI (n4 + 0))), (4, .int (nI (n3 + 1))), (9, .int 1), (8, .ref (ad 11 i44)), (7, .int (nI i44)), (6, .int (nI n5)), (0, .ref (g 0)), (1, .int v0), (2, .int v1), (3, .int v2)]) hx hb dX11_cheat_118 hl (ltb rfl) rfl (fun ls hl => ?_)
                  refine lv_iload hx hb dX11_cheat_120 (lvA5 hl) ?_
                  refine lv_aload hx hb dX11_cheat_122 (lvA3 hl) ?_
                  refine gf_RX11_211 S hK hP _ (xf_1 kf_1) (v := .int ((Fn 120) i44)) rfl dX11_cheat_124 ?_
                  refine lv_iload_n hx hb dX11_cheat_127 rfl (lvA7 hl) ?_
                  refine lv_icmp_ne (tgt := 140) hx hb dX11_cheat_128 rfl (fun c_30 => ?_) (fun c_30 => ?_)
                  ·
                    have tc_30 : (((Fn 120) i44).toInt : Int) ≠ v0.toInt := fun q => c_30 (Int32.toInt_inj.mp q)
                    refine lv_iconst (v := 0) hx hb dX11_cheat_140 kic_0 ?_
                    refine lv_iadd hx hb dX11_cheat_141 ?_
                    refine lv_topi (fun y_31 ey_31 => ?_)
                    obtain rfl : y_31 = (nI (n5 + 0)) := ey_31.trans (nI_add n5 0)
                    refine lv_istore (lv' := [(6, .int (nI (n5 + 0))), (5, .int (nI (n4 + 0))), (4, .int (nI (n3 + 1))), (9, .int 1), (8, .ref (ad 11 i44)), (7, .int (nI i44)), (0, .ref (g 0)), (1, .int v0), (2, .int v1), (3, .int v2)]) hx hb dX11_cheat_142 hl (ltb rfl) rfl (fun ls hl => ?_)
                    refine lv_iinc (v := (nI (i44 + 1))) (lv' := [(7, .int (nI (i44 + 1))), (6, .int (nI (n5 + 0))), (5, .int (nI (n4 + 0))), (4, .int (nI (n3 + 1))), (9, .int 1), (8, .ref (ad 11 i44)), (0, .ref (g 0)), (1, .int v0), (2, .int v1), (3, .int v2)]) hx hb dX11_cheat_144 hl (k := 5) rfl (nI_1 _) (ltb rfl) rfl (fun ls hl => ?_)
                    refine lv_goto (tgt := 44) hx hb dX11_cheat_147 rfl ?_
                    exact ih44 (i44 + 1) (n3 + 1) (n4 + 0) (n5 + 0) (by (first | omega | (have zz0 := Hid.u hb_cn; omega))) ⟨(by (first | omega | (have zz0 := Hid.u hb_cn; omega))), ⟨by (first | omega | (have zz0 := Hid.u hb_cn; omega)), by (first | omega | (have zz0 := Hid.u hb_cn; omega)), by (first | omega | (have zz0 := Hid.u hb_cn; omega))⟩⟩ ls (lv_sub hl [0, 1, 2, 3, 6, 7, 8, 9] rfl)
                  ·
                    have tc_30 : (((Fn 120) i44).toInt : Int) = v0.toInt := congrArg Int32.toInt c_30
                    refine lv_iload hx hb dX11_cheat_131 (lvA2 hl) ?_
                    refine lv_if_eq (tgt := 140) hx hb dX11_cheat_133 rfl (fun h => absurd h cq_eq_1_0) (fun _ => ?_)
                    refine lv_iconst (v := 1) hx hb (oc_4 136 (aq_12 shX11_cheat_124)) kic_1 ?_
                    refine lv_goto (tgt := 141) hx hb (oc_167 137 (aq_13 shX11_cheat_124) sgw_0_4) rfl ?_
                    refine lv_iadd hx hb dX11_cheat_141 ?_
                    refine lv_topi (fun y_32 ey_32 => ?_)
                    obtain rfl : y_32 = (nI (n5 + 1)) := ey_32.trans (nI_add n5 1)
                    refine lv_istore (lv' := [(6, .int (nI (n5 + 1))), (5, .int (nI (n4 + 0))), (4, .int (nI (n3 + 1))), (9, .int 1), (8, .ref (ad 11 i44)), (7, .int (nI i44)), (0, .ref (g 0)), (1, .int v0), (2, .int v1), (3, .int v2)]) hx hb dX11_cheat_142 hl (ltb rfl) rfl (fun ls hl => ?_)
                    refine lv_iinc (v := (nI (i44 + 1))) (lv' := [(7, .int (nI (i44 + 1))), (6, .int (nI (n5 + 1))), (5, .int (nI (n4 + 0))), (4, .int (nI (n3 + 1))), (9, .int 1), (8, .ref (ad 11 i44)), (0, .ref (g 0)), (1, .int v0), (2, .int v1), (3, .int v2)]) hx hb dX11_cheat_144 hl (k := 5) rfl (nI_1 _) (ltb rfl) rfl (fun ls hl => ?_)
                    refine lv_goto (tgt := 44) hx hb dX11_cheat_147 rfl ?_
                    exact ih44 (i44 + 1) (n3 + 1) (n4 + 0) (n5 + 1) (by (first | omega | (have zz0 := Hid.u hb_cn; omega))) ⟨(by (first | omega | (have zz0 := Hid.u hb_cn; omega))), ⟨by (first | omega | (have zz0 := Hid.u hb_cn; omega)), by (first | omega | (have zz0 := Hid.u hb_cn; omega)), by (first | omega | (have zz0 := Hid.u hb_cn; omega))⟩⟩ ls (lv_sub hl [0, 1, 2, 3, 6, 7, 8, 9] rfl)
                ·
                  have tc_28 : (((Fn 120) i44).toInt : Int) = v0.toInt := congrArg Int32.toInt c_28
                  refine lv_iconst (v := 1) hx hb (oc_4 112 (aq_13 shX11_cheat_99)) kic_1 ?_
                  refine lv_goto (tgt := 117) hx hb (oc_167 113 (aq_14 shX11_cheat_99) sgw_0_4) rfl ?_
                  refine lv_iadd hx hb dX11_cheat_117 ?_
                  refine lv_topi (fun y_33 ey_33 => ?_)
                  obtain rfl : y_33 = (nI (n4 + 1)) := ey_33.trans (nI_add n4 1)
                  refine lv_istore (lv' := [(5, .int (nI (n4 + 1))), (4, .int (nI (n3 + 1))), (9, .int 1), (8, .ref (ad 11 i44)), (7, .int (nI i44)), (6, .int (nI n5)), (0, .ref (g 0)), (1, .int v0), (2, .int v1), (3, .int v2)]) hx hb dX11_cheat_118 hl (ltb rfl) rfl (fun ls hl => ?_)
                  refine lv_iload hx hb dX11_cheat_120 (lvA5 hl) ?_
                  refine lv_aload hx hb dX11_cheat_122 (lvA3 hl) ?_
                  refine gf_RX11_211 S hK hP _ (xf_1 kf_1) (v := .int ((Fn 120) i44)) rfl dX11_cheat_124 ?_
                  refine lv_iload_n hx hb dX11_cheat_127 rfl (lvA7 hl) ?_
                  refine lv_icmp_ne (tgt := 140) hx hb dX11_cheat_128 rfl (fun c_34 => ?_) (fun c_34 => ?_)
                  ·
                    have tc_34 : (((Fn 120) i44).toInt : Int) ≠ v0.toInt := fun q => c_34 (Int32.toInt_inj.mp q)
                    refine lv_iconst (v := 0) hx hb dX11_cheat_140 kic_0 ?_
                    refine lv_iadd hx hb dX11_cheat_141 ?_
                    refine lv_topi (fun y_35 ey_35 => ?_)
                    obtain rfl : y_35 = (nI (n5 + 0)) := ey_35.trans (nI_add n5 0)
                    refine lv_istore (lv' := [(6, .int (nI (n5 + 0))), (5, .int (nI (n4 + 1))), (4, .int (nI (n3 + 1))), (9, .int 1), (8, .ref (ad 11 i44)), (7, .int (nI i44)), (0, .ref (g 0)), (1, .int v0), (2, .int v1), (3, .int v2)]) hx hb dX11_cheat_142 hl (ltb rfl) rfl (fun ls hl => ?_)
                    refine lv_iinc (v := (nI (i44 + 1))) (lv' := [(7, .int (nI (i44 + 1))), (6, .int (nI (n5 + 0))), (5, .int (nI (n4 + 1))), (4, .int (nI (n3 + 1))), (9, .int 1), (8, .ref (ad 11 i44)), (0, .ref (g 0)), (1, .int v0), (2, .int v1), (3, .int v2)]) hx hb dX11_cheat_144 hl (k := 5) rfl (nI_1 _) (ltb rfl) rfl (fun ls hl => ?_)
                    refine lv_goto (tgt := 44) hx hb dX11_cheat_147 rfl ?_
                    exact ih44 (i44 + 1) (n3 + 1) (n4 + 1) (n5 + 0) (by (first | omega | (have zz0 := Hid.u hb_cn; omega))) ⟨(by (first | omega | (have zz0 := Hid.u hb_cn; omega))), ⟨by (first | omega | (have zz0 := Hid.u hb_cn; omega)), by (first | omega | (have zz0 := Hid.u hb_cn; omega)), by (first | omega | (have zz0 := Hid.u hb_cn; omega))⟩⟩ ls (lv_sub hl [0, 1, 2, 3, 6, 7, 8, 9] rfl)
                  ·
                    have tc_34 : (((Fn 120) i44).toInt : Int) = v0.toInt := congrArg Int32.toInt c_34
                    refine lv_iload hx hb dX11_cheat_131 (lvA2 hl) ?_
                    refine lv_if_eq (tgt := 140) hx hb dX11_cheat_133 rfl (fun h => absurd h cq_eq_1_0) (fun _ => ?_)
                    refine lv_iconst (v := 1) hx hb (oc_4 136 (aq_12 shX11_cheat_124)) kic_1 ?_
                    refine lv_goto (tgt := 141) hx hb (oc_167 137 (aq_13 shX11_cheat_124) sgw_0_4) rfl ?_
                    refine lv_iadd hx hb dX11_cheat_141 ?_
                    refine lv_topi (fun y_36 ey_36 => ?_)
                    obtain rfl : y_36 = (nI (n5 + 1)) := ey_36.trans (nI_add n5 1)
                    refine lv_istore (lv' := [(6, .int (nI (n5 + 1))), (5, .int (nI (n4 + 1))), (4, .int (nI (n3 + 1))), (9, .int 1), (8, .ref (ad 11 i44)), (7, .int (nI i44)), (0, .ref (g 0)), (1, .int v0), (2, .int v1), (3, .int v2)]) hx hb dX11_cheat_142 hl (ltb rfl) rfl (fun ls hl => ?_)
                    refine lv_iinc (v := (nI (i44 + 1))) (lv' := [(7, .int (nI (i44 + 1))), (6, .int (nI (n5 + 1))), (5, .int (nI (n4 + 1))), (4, .int (nI (n3 + 1))), (9, .int 1), (8, .ref (ad 11 i44)), (0, .ref (g 0)), (1, .int v0), (2, .int v1), (3, .int v2)]) hx hb dX11_cheat_144 hl (k := 5) rfl (nI_1 _) (ltb rfl) rfl (fun ls hl => ?_)
                    refine lv_goto (tgt := 44) hx hb dX11_cheat_147 rfl ?_
                    exact ih44 (i44 + 1) (n3 + 1) (n4 + 1) (n5 + 1) (by (first | omega | (have zz0 := Hid.u hb_cn; omega))) ⟨(by (first | omega | (have zz0 := Hid.u hb_cn; omega))), ⟨by (first | omega | (have zz0 := Hid.u hb_cn; omega)), by (first | omega | (have zz0 := Hid.u hb_cn; omega)), by (first | omega | (have zz0 := Hid.u hb_cn; omega))⟩⟩ ls (lv_sub hl [0, 1, 2, 3, 6, 7, 8, 9] rfl)
        exact lp_44 _ 0 0 0 0 (Nat.lt_succ_self _) ⟨(by (first | omega | (have zz0 := Hid.u hb_cn; omega))), ⟨Nat.le_refl _, Nat.le_refl _, Nat.le_refl _⟩⟩ ls (lv_sub hl [0, 1, 2, 3, 4, 5, 6, 7] rfl)
      ·
        have h_6 : ¬ (0 ≤ v2.toInt ∧ v2.toInt ≤ 2) := h_6
        refine lv_if_ne (tgt := 32) hx hb (oc_154 25 shX11_cheat_25 sgw_0_7) rfl (fun h => absurd h cq_eq_0_0) (fun _ => ?_)
        refine lv_ldc2 (v := (-1)) hx hb hown (S.2.2.2.2 _ (wk4_5 1 rfl rfl)) (oc_20 28 (aq_3 shX11_cheat_25) uw_0_254) ?_
        exact W.lret (v := (-1)) hx hb hr (fun t ht hW => ⟨(-1), rfl, trivial, ht⟩) (fun _ h => absurd h List.not_mem_nil) (oc_173 31 (aq_6 shX11_cheat_25))
    ·
      have h_4 : ¬ (0 ≤ v1.toInt ∧ v1.toInt ≤ 1000) := h_4
      refine lv_if_eq (tgt := 28) hx hb (oc_153 16 (aq_16 shX11_cheat_0) sgw_0_12) rfl (fun _ => ?_) (fun h => absurd h cq_eq_0_0)
      refine lv_ldc2 (v := (-1)) hx hb hown (S.2.2.2.2 _ (wk4_5 1 rfl rfl)) (oc_20 28 (aq_3 shX11_cheat_25) uw_0_254) ?_
      exact W.lret (v := (-1)) hx hb hr (fun t ht hW => ⟨(-1), rfl, trivial, ht⟩) (fun _ h => absurd h List.not_mem_nil) (oc_173 31 (aq_6 shX11_cheat_25))
  ·
    refine lv_ifnullN (tgt := 28) hx hb (oc_198 5 (aq_5 shX11_cheat_0) sgw_0_23) rfl ?_
    refine lv_ldc2 (v := (-1)) hx hb hown (S.2.2.2.2 _ (wk4_5 1 rfl rfl)) (oc_20 28 (aq_3 shX11_cheat_25) uw_0_254) ?_
    exact W.lret (v := (-1)) hx hb hr (fun t ht hW => ⟨(-1), rfl, trivial, ht⟩) (fun _ h => absurd h List.not_mem_nil) (oc_173 31 (aq_6 shX11_cheat_25))
set_option maxRecDepth 100000 in
set_option maxHeartbeats 4000000 in
theorem q_XworthOf (l : Launch) (D : va_G) (cI cB cZ : ClassId) (zz qq vv : Nat) (bt : Nat → Int32) (g : Nat → Nat) (ad : Nat → Nat → Nat) (cn : Nat → Nat) (In : Nat → Int32) (Fn : Nat → Nat → Int32) (v0 v1 : Int32) (hB : CBX cn) : Met l yX11_worthOf (CWS yX11_worthOf cX11_worthOf 6 (some .int)) (RM 3 0 0) (PBrx [.ref (g 0), .int v0, .int v1] D cI cB cZ zz qq vv bt (wX cI (D.1 99) zz g ad cn In Fn)) (vp_Si (fun _ => True)) 0 0 (fun _ => False) := by
  refine en_rx rfl pn_RX11 (Nat.le_of_ble_eq_true rfl) (fun p e s m below meth c hx hb hml hown S hr hlocks hnm hP hK hXS hS ls hl => ?_)
  have hl : lv_has ls 6 [(0, .ref (g 0)), (1, .int v0), (2, .int v1)] := hl
  have hb_cn : Hid (CBX cn) := hB
  replace hB : CBXh cn := hB
  refine lv_iconst (v := 0) hx hb (oc_3 0 shX11_worthOf_0) kic_0 ?_
  refine lv_istore_n (lv' := [(3, .int 0), (0, .ref (g 0)), (1, .int v0), (2, .int v1)]) hx hb (oc_62 1 (aq_1 shX11_worthOf_0)) rfl hl (ltb rfl) rfl (fun ls hl => ?_)
  refine lv_iconst (v := 0) hx hb (oc_3 2 (aq_2 shX11_worthOf_0)) kic_0 ?_
  refine lv_istore (lv' := [(4, .int 0), (3, .int 0), (0, .ref (g 0)), (1, .int v0), (2, .int v1)]) hx hb (oc_54 3 (aq_3 shX11_worthOf_0) ub_4) hl (ltb rfl) rfl (fun ls hl => ?_)
  have lp_5 : ∀ (n : Nat) (i5 : Nat) (x5_3 : Int32) , cn 10 - i5 < n → (i5 ≤ cn 10) → ∀ ls : Array Slot, lv_has ls 6 [(4, .int (nI i5)), (3, .int x5_3), (0, .ref (g 0)), (1, .int v0), (2, .int v1)] → W p l e (RM 3 0 0) s m ([.ref (g 0), .int v0, .int v1]).toArray below meth c s.heap [] 0 0 (MQ below (vp_Si (fun _ => True)) ([.ref (g 0), .int v0, .int v1]).toArray s 0 0 (fun _ => False)) (F0 m 5 ls []) := by
    intro n5
    induction n5 with
    | zero => intros; (first | omega | (have zz0 := Hid.u hb_cn; omega))
    | succ n5 ih5 =>
      intro i5 x5_3 hmu5 hinv5 ls hl
      have hr5 := hinv5
      have ti5 : (nI i5).toInt = (i5 : Int) := nI_toInt (by (first | omega | (have zz0 := Hid.u hb_cn; omega)))
      refine lv_iload hx hb (oc_21 5 (aq_5 shX11_worthOf_0) ub_4) (lvA0 hl) ?_
      refine lv_aload_n hx hb (oc_42 7 (aq_7 shX11_worthOf_0)) rfl (lvA2 hl) ?_
      refine gf_RX11_61 S hK hP 0 xo_0 (v := .ref (g 10)) rfl (oc_180 8 (aq_8 shX11_worthOf_0) uw_0_61) ?_
      refine vp_callSi (runV_r (As := []) (rest := [.int (nI i5)]) S (q_l_size l D cI cB cZ (g 10) (if (cn 10) = 0 then zz else ad 2 0) (In 10) (nI (cn 10))) kV_RX11_84 hK hP [24] (one_is xo_24) 24 xo_24 rfl rfl ⟨Nat.le_of_ble_eq_true rfl, Nat.le_of_ble_eq_true rfl⟩ ⟨Nat.le_of_ble_eq_true rfl, Nat.le_of_ble_eq_true rfl⟩ rfl hl.1 rfl (Nat.le_of_ble_eq_true rfl) (oc_182 11 (aq_11 shX11_worthOf_0) uw_0_84)) (fun r_1 h_2 => ?_)
      subst h_2
      have : (nI (cn 10)).toInt = (((cn 10) : Nat) : Int) := nI_toInt (by (first | omega | (have zz0 := Hid.u hb_cn; omega)))
      refine lv_icmp_ge (tgt := 62) hx hb (oc_162 14 (aq_14 shX11_worthOf_0) sgw_0_48) rfl (fun c_3 => ?_) (fun c_3 => ?_)
      ·
        have tc_3 : ((nI (cn 10)).toInt : Int) ≤ (nI i5).toInt := Int32.le_iff_toInt_le.mp c_3
        refine lv_iload_n hx hb (oc_29 62 (aq_12 shX11_worthOf_50)) rfl (lvA1 hl) ?_
        exact W.iret (v := x5_3) hx hb hr (fun t ht hW => ⟨x5_3, rfl, trivial, ht⟩) (fun _ h => absurd h List.not_mem_nil) (oc_172 63 (aq_13 shX11_worthOf_50))
      ·
        have tc_3 : ((nI i5).toInt : Int) < (nI (cn 10)).toInt := Int32.lt_iff_toInt_lt.mp (Int32.not_le.mp c_3)
        refine lv_aload_n hx hb (oc_42 17 (aq_17 shX11_worthOf_0)) rfl (lvA2 hl) ?_
        refine gf_RX11_61 S hK hP 0 xo_0 (v := .ref (g 10)) rfl (oc_180 18 (aq_18 shX11_worthOf_0) uw_0_61) ?_
        refine lv_iload hx hb (oc_21 21 (aq_21 shX11_worthOf_0) ub_4) (lvA0 hl) ?_
        refine va_csq (runV_rx (As := [.int (nI i5)]) (rest := []) S (q_l_get l D cI cB cZ zz qq vv bt (g 10) (ad 2 0) (cn 20) (cn 10) i5 (ad 10 i5) (In 10) (fun i => if i < (cn 10) then some (ad 10 i) else none) (by (first | omega | (have zz0 := Hid.u hb_cn; omega))) (if_pos (by (first | omega | (have zz0 := Hid.u hb_cn; omega)))) (by (first | omega | (have zz0 := Hid.u hb_cn; omega))) (by (first | omega | (have zz0 := Hid.u hb_cn; omega)))) kV_RX11_87 hK hXS hS hP _ (two_is (xl_0 (by (first | omega | (have zz0 := Hid.u hb_cn; omega)))) (xf_13 (k := 0) (by (first | omega | (have zz0 := Hid.u hb_cn; omega))))) (va_recv hK.1 hP (ci := 0) rfl xo_24) ⟨Nat.le_of_ble_eq_true rfl, Nat.le_of_ble_eq_true rfl⟩ ⟨Nat.le_of_ble_eq_true rfl, Nat.le_of_ble_eq_true rfl⟩ rfl hl.1 rfl (Nat.le_of_ble_eq_true rfl) (oc_182 23 (aq_23 shX11_worthOf_0) uw_0_87)) (fun r_4 h_5 => ?_)
        subst h_5
        have kf_1 : i5 < cn 10 := by (first | omega | (have zz0 := Hid.u hb_cn; omega))
        refine va_castS hx hb hown (S.2.2.2.2 _ (wk2_5 3 rfl rfl)) (xclass hK.1 (ci := 2) rfl) (va_recv hK.1 hP (ci := 2) rfl (xf_0 kf_1)) (oc_192 26 shX11_worthOf_26 uw_0_91) ?_
        refine lv_astore (lv' := [(5, .ref (ad 10 i5)), (4, .int (nI i5)), (3, .int x5_3), (0, .ref (g 0)), (1, .int v0), (2, .int v1)]) hx hb (oc_58 29 (aq_3 shX11_worthOf_26) ub_5) hl (ltb rfl) rfl (fun ls hl => ?_)
        refine lv_iload_n hx hb (oc_29 31 (aq_5 shX11_worthOf_26)) rfl (lvA2 hl) ?_
        refine lv_aload hx hb (oc_25 32 (aq_6 shX11_worthOf_26) ub_5) (lvA0 hl) ?_
        refine lv_iload_n hx hb (oc_27 34 (aq_8 shX11_worthOf_26)) rfl (lvA4 hl) ?_
        refine vp_callSi (runV_rxa (As := [.int v0]) (rest := [.int x5_3]) S (q_XcomesFor l D cI cB cZ zz qq vv bt g ad cn In Fn i5 v0 hB (by (first | omega | (have zz0 := Hid.u hb_cn; omega)))) kV_RX11_456 hK hXS hS hP _ (xf_0 kf_1) rfl rfl ⟨Nat.le_of_ble_eq_true rfl, Nat.le_of_ble_eq_true rfl⟩ ⟨Nat.le_of_ble_eq_true rfl, Nat.le_of_ble_eq_true rfl⟩ rfl hl.1 rfl (Nat.le_of_ble_eq_true rfl) (oc_182 35 (aq_9 shX11_worthOf_26) uw_1_200)) (fun r_6 h_7 => ?_)
        rcases h_7 with rfl | rfl
        ·
          refine lv_if_eq (tgt := 53) hx hb (oc_153 38 (aq_12 shX11_worthOf_26) sgw_0_15) rfl (fun _ => ?_) (fun h => absurd h cq_eq_0_0)
          refine lv_iconst (v := 0) hx hb (oc_3 53 (aq_3 shX11_worthOf_50)) kic_0 ?_
          refine lv_iadd hx hb (oc_96 54 (aq_4 shX11_worthOf_50)) ?_
          refine lv_istore_n (lv' := [(3, .int (x5_3 + 0)), (5, .ref (ad 10 i5)), (4, .int (nI i5)), (0, .ref (g 0)), (1, .int v0), (2, .int v1)]) hx hb (oc_62 55 (aq_5 shX11_worthOf_50)) rfl hl (ltb rfl) rfl (fun ls hl => ?_)
          refine lv_iinc (v := (nI (i5 + 1))) (lv' := [(4, .int (nI (i5 + 1))), (3, .int (x5_3 + 0)), (5, .ref (ad 10 i5)), (0, .ref (g 0)), (1, .int v0), (2, .int v1)]) hx hb (oc_132 56 (aq_6 shX11_worthOf_50) ub_4 sgb_1) hl (k := 2) rfl (nI_1 _) (ltb rfl) rfl (fun ls hl => ?_)
          refine lv_goto (tgt := 5) hx hb (oc_167 59 (aq_9 shX11_worthOf_50) sgw_255_202) rfl ?_
          exact ih5 (i5 + 1) (x5_3 + 0) (by (first | omega | (have zz0 := Hid.u hb_cn; omega))) (by (first | omega | (have zz0 := Hid.u hb_cn; omega))) ls (lv_sub hl [0, 1, 3, 4, 5] rfl)
        ·
          refine lv_if_eq (tgt := 53) hx hb (oc_153 38 (aq_12 shX11_worthOf_26) sgw_0_15) rfl (fun h => absurd h cq_eq_1_0) (fun _ => ?_)
          refine lv_aload hx hb (oc_25 41 (aq_15 shX11_worthOf_26) ub_5) (lvA0 hl) ?_
          refine gf_RX11_459 S hK hP _ (xf_0 kf_1) (v := .int ((Fn 102) i5)) rfl (oc_180 43 (aq_17 shX11_worthOf_26) uw_1_203) ?_
          refine lv_iload_n hx hb (oc_28 46 (aq_20 shX11_worthOf_26)) rfl (lvA5 hl) ?_
          refine lv_iload_n hx hb (oc_27 47 (aq_21 shX11_worthOf_26)) rfl (lvA4 hl) ?_
          refine lv_isub hx hb (oc_100 48 (aq_22 shX11_worthOf_26)) ?_
          refine lv_imul hx hb (oc_104 49 (aq_23 shX11_worthOf_26)) ?_
          refine lv_goto (tgt := 54) hx hb (oc_167 50 shX11_worthOf_50 sgw_0_4) rfl ?_
          refine lv_iadd hx hb (oc_96 54 (aq_4 shX11_worthOf_50)) ?_
          refine lv_istore_n (lv' := [(3, .int (x5_3 + (((Fn 102) i5) * (v1 - v0)))), (5, .ref (ad 10 i5)), (4, .int (nI i5)), (0, .ref (g 0)), (1, .int v0), (2, .int v1)]) hx hb (oc_62 55 (aq_5 shX11_worthOf_50)) rfl hl (ltb rfl) rfl (fun ls hl => ?_)
          refine lv_iinc (v := (nI (i5 + 1))) (lv' := [(4, .int (nI (i5 + 1))), (3, .int (x5_3 + (((Fn 102) i5) * (v1 - v0)))), (5, .ref (ad 10 i5)), (0, .ref (g 0)), (1, .int v0), (2, .int v1)]) hx hb (oc_132 56 (aq_6 shX11_worthOf_50) ub_4 sgb_1) hl (k := 2) rfl (nI_1 _) (ltb rfl) rfl (fun ls hl => ?_)
          refine lv_goto (tgt := 5) hx hb (oc_167 59 (aq_9 shX11_worthOf_50) sgw_255_202) rfl ?_
          exact ih5 (i5 + 1) (x5_3 + (((Fn 102) i5) * (v1 - v0))) (by (first | omega | (have zz0 := Hid.u hb_cn; omega))) (by (first | omega | (have zz0 := Hid.u hb_cn; omega))) ls (lv_sub hl [0, 1, 3, 4, 5] rfl)
  exact lp_5 _ 0 0 (Nat.lt_succ_self _) (by (first | omega | (have zz0 := Hid.u hb_cn; omega))) ls (lv_sub hl [0, 1, 2, 3, 4] rfl)
set_option maxRecDepth 100000 in
set_option maxHeartbeats 4000000 in
theorem q_Xcomers (l : Launch) (D : va_G) (cI cB cZ : ClassId) (zz qq vv : Nat) (bt : Nat → Int32) (g : Nat → Nat) (ad : Nat → Nat → Nat) (cn : Nat → Nat) (In : Nat → Int32) (Fn : Nat → Nat → Int32) (v0 : Int32) (hB : CBX cn) : Met l yX11_comers (CWS yX11_comers cX11_comers 4 (some .int)) (RM 3 0 0) (PBrx [.ref (g 0), .int v0] D cI cB cZ zz qq vv bt (wX cI (D.1 99) zz g ad cn In Fn)) (vp_Si (fun _ => True)) 0 0 (fun _ => False) := by
  refine en_rx rfl pn_RX11 (Nat.le_of_ble_eq_true rfl) (fun p e s m below meth c hx hb hml hown S hr hlocks hnm hP hK hXS hS ls hl => ?_)
  have hl : lv_has ls 4 [(0, .ref (g 0)), (1, .int v0)] := hl
  have hb_cn : Hid (CBX cn) := hB
  replace hB : CBXh cn := hB
  refine lv_iconst (v := 0) hx hb (oc_3 0 shX11_comers_0) kic_0 ?_
  refine lv_istore_n (lv' := [(2, .int 0), (0, .ref (g 0)), (1, .int v0)]) hx hb (oc_61 1 (aq_1 shX11_comers_0)) rfl hl (ltb rfl) rfl (fun ls hl => ?_)
  refine lv_iconst (v := 0) hx hb (oc_3 2 (aq_2 shX11_comers_0)) kic_0 ?_
  refine lv_istore_n (lv' := [(3, .int 0), (2, .int 0), (0, .ref (g 0)), (1, .int v0)]) hx hb (oc_62 3 (aq_3 shX11_comers_0)) rfl hl (ltb rfl) rfl (fun ls hl => ?_)
  have lp_4 : ∀ (n : Nat) (i4 : Nat) (x4_2 : Int32) , cn 10 - i4 < n → (i4 ≤ cn 10) → ∀ ls : Array Slot, lv_has ls 4 [(3, .int (nI i4)), (2, .int x4_2), (0, .ref (g 0)), (1, .int v0)] → W p l e (RM 3 0 0) s m ([.ref (g 0), .int v0]).toArray below meth c s.heap [] 0 0 (MQ below (vp_Si (fun _ => True)) ([.ref (g 0), .int v0]).toArray s 0 0 (fun _ => False)) (F0 m 4 ls []) := by
    intro n4
    induction n4 with
    | zero => intros; (first | omega | (have zz0 := Hid.u hb_cn; omega))
    | succ n4 ih4 =>
      intro i4 x4_2 hmu4 hinv4 ls hl
      have hr4 := hinv4
      have ti4 : (nI i4).toInt = (i4 : Int) := nI_toInt (by (first | omega | (have zz0 := Hid.u hb_cn; omega)))
      refine lv_iload_n hx hb (oc_29 4 (aq_4 shX11_comers_0)) rfl (lvA0 hl) ?_
      refine lv_aload_n hx hb (oc_42 5 (aq_5 shX11_comers_0)) rfl (lvA2 hl) ?_
      refine gf_RX11_61 S hK hP 0 xo_0 (v := .ref (g 10)) rfl (oc_180 6 (aq_6 shX11_comers_0) uw_0_61) ?_
      refine vp_callSi (runV_r (As := []) (rest := [.int (nI i4)]) S (q_l_size l D cI cB cZ (g 10) (if (cn 10) = 0 then zz else ad 2 0) (In 10) (nI (cn 10))) kV_RX11_84 hK hP [24] (one_is xo_24) 24 xo_24 rfl rfl ⟨Nat.le_of_ble_eq_true rfl, Nat.le_of_ble_eq_true rfl⟩ ⟨Nat.le_of_ble_eq_true rfl, Nat.le_of_ble_eq_true rfl⟩ rfl hl.1 rfl (Nat.le_of_ble_eq_true rfl) (oc_182 9 (aq_9 shX11_comers_0) uw_0_84)) (fun r_1 h_2 => ?_)
      subst h_2
      have : (nI (cn 10)).toInt = (((cn 10) : Nat) : Int) := nI_toInt (by (first | omega | (have zz0 := Hid.u hb_cn; omega)))
      refine lv_icmp_ge (tgt := 49) hx hb (oc_162 12 (aq_12 shX11_comers_0) sgw_0_37) rfl (fun c_3 => ?_) (fun c_3 => ?_)
      ·
        have tc_3 : ((nI (cn 10)).toInt : Int) ≤ (nI i4).toInt := Int32.le_iff_toInt_le.mp c_3
        refine lv_iload_n hx hb (oc_28 49 shX11_comers_49) rfl (lvA1 hl) ?_
        exact W.iret (v := x4_2) hx hb hr (fun t ht hW => ⟨x4_2, rfl, trivial, ht⟩) (fun _ h => absurd h List.not_mem_nil) (oc_172 50 (aq_1 shX11_comers_49))
      ·
        have tc_3 : ((nI i4).toInt : Int) < (nI (cn 10)).toInt := Int32.lt_iff_toInt_lt.mp (Int32.not_le.mp c_3)
        refine lv_iload_n hx hb (oc_28 15 (aq_15 shX11_comers_0)) rfl (lvA1 hl) ?_
        refine lv_aload_n hx hb (oc_42 16 (aq_16 shX11_comers_0)) rfl (lvA2 hl) ?_
        refine gf_RX11_61 S hK hP 0 xo_0 (v := .ref (g 10)) rfl (oc_180 17 (aq_17 shX11_comers_0) uw_0_61) ?_
        refine lv_iload_n hx hb (oc_29 20 (aq_20 shX11_comers_0)) rfl (lvA0 hl) ?_
        refine va_csq (runV_rx (As := [.int (nI i4)]) (rest := [.int x4_2]) S (q_l_get l D cI cB cZ zz qq vv bt (g 10) (ad 2 0) (cn 20) (cn 10) i4 (ad 10 i4) (In 10) (fun i => if i < (cn 10) then some (ad 10 i) else none) (by (first | omega | (have zz0 := Hid.u hb_cn; omega))) (if_pos (by (first | omega | (have zz0 := Hid.u hb_cn; omega)))) (by (first | omega | (have zz0 := Hid.u hb_cn; omega))) (by (first | omega | (have zz0 := Hid.u hb_cn; omega)))) kV_RX11_87 hK hXS hS hP _ (two_is (xl_0 (by (first | omega | (have zz0 := Hid.u hb_cn; omega)))) (xf_13 (k := 0) (by (first | omega | (have zz0 := Hid.u hb_cn; omega))))) (va_recv hK.1 hP (ci := 0) rfl xo_24) ⟨Nat.le_of_ble_eq_true rfl, Nat.le_of_ble_eq_true rfl⟩ ⟨Nat.le_of_ble_eq_true rfl, Nat.le_of_ble_eq_true rfl⟩ rfl hl.1 rfl (Nat.le_of_ble_eq_true rfl) (oc_182 21 (aq_21 shX11_comers_0) uw_0_87)) (fun r_4 h_5 => ?_)
        subst h_5
        have kf_1 : i4 < cn 10 := by (first | omega | (have zz0 := Hid.u hb_cn; omega))
        refine va_castS hx hb hown (S.2.2.2.2 _ (wk2_5 3 rfl rfl)) (xclass hK.1 (ci := 2) rfl) (va_recv hK.1 hP (ci := 2) rfl (xf_0 kf_1)) (oc_192 24 shX11_comers_24 uw_0_91) ?_
        refine lv_iload_n hx hb (oc_27 27 (aq_3 shX11_comers_24)) rfl (lvA3 hl) ?_
        refine vp_callSi (runV_rxa (As := [.int v0]) (rest := [.int x4_2]) S (q_XcomesFor l D cI cB cZ zz qq vv bt g ad cn In Fn i4 v0 hB (by (first | omega | (have zz0 := Hid.u hb_cn; omega)))) kV_RX11_456 hK hXS hS hP _ (xf_0 kf_1) rfl rfl ⟨Nat.le_of_ble_eq_true rfl, Nat.le_of_ble_eq_true rfl⟩ ⟨Nat.le_of_ble_eq_true rfl, Nat.le_of_ble_eq_true rfl⟩ rfl hl.1 rfl (Nat.le_of_ble_eq_true rfl) (oc_182 28 (aq_4 shX11_comers_24) uw_1_200)) (fun r_6 h_7 => ?_)
        rcases h_7 with rfl | rfl
        ·
          refine lv_if_eq (tgt := 40) hx hb (oc_153 31 (aq_7 shX11_comers_24) sgw_0_9) rfl (fun _ => ?_) (fun h => absurd h cq_eq_0_0)
          refine lv_iconst (v := 0) hx hb (oc_3 40 (aq_16 shX11_comers_24)) kic_0 ?_
          refine lv_ior hx hb (oc_128 41 (aq_17 shX11_comers_24)) ?_
          refine lv_istore_n (lv' := [(2, .int (x4_2 ||| 0)), (3, .int (nI i4)), (0, .ref (g 0)), (1, .int v0)]) hx hb (oc_61 42 (aq_18 shX11_comers_24)) rfl hl (ltb rfl) rfl (fun ls hl => ?_)
          refine lv_iinc (v := (nI (i4 + 1))) (lv' := [(3, .int (nI (i4 + 1))), (2, .int (x4_2 ||| 0)), (0, .ref (g 0)), (1, .int v0)]) hx hb (oc_132 43 (aq_19 shX11_comers_24) ub_3 sgb_1) hl (k := 1) rfl (nI_1 _) (ltb rfl) rfl (fun ls hl => ?_)
          refine lv_goto (tgt := 4) hx hb (oc_167 46 (aq_22 shX11_comers_24) sgw_255_214) rfl ?_
          exact ih4 (i4 + 1) (x4_2 ||| 0) (by (first | omega | (have zz0 := Hid.u hb_cn; omega))) (by (first | omega | (have zz0 := Hid.u hb_cn; omega))) ls (lv_sub hl [0, 1, 2, 3] rfl)
        ·
          refine lv_if_eq (tgt := 40) hx hb (oc_153 31 (aq_7 shX11_comers_24) sgw_0_9) rfl (fun h => absurd h cq_eq_1_0) (fun _ => ?_)
          refine lv_iconst (v := 1) hx hb (oc_4 34 (aq_10 shX11_comers_24)) kic_1 ?_
          refine lv_iload_n hx hb (oc_29 35 (aq_11 shX11_comers_24)) rfl (lvA0 hl) ?_
          refine lv_ishl hx hb (oc_120 36 (aq_12 shX11_comers_24)) ?_
          refine lv_goto (tgt := 41) hx hb (oc_167 37 (aq_13 shX11_comers_24) sgw_0_4) rfl ?_
          refine lv_ior hx hb (oc_128 41 (aq_17 shX11_comers_24)) ?_
          refine lv_istore_n (lv' := [(2, .int (x4_2 ||| (1 <<< ((nI i4) &&& 31)))), (3, .int (nI i4)), (0, .ref (g 0)), (1, .int v0)]) hx hb (oc_61 42 (aq_18 shX11_comers_24)) rfl hl (ltb rfl) rfl (fun ls hl => ?_)
          refine lv_iinc (v := (nI (i4 + 1))) (lv' := [(3, .int (nI (i4 + 1))), (2, .int (x4_2 ||| (1 <<< ((nI i4) &&& 31)))), (0, .ref (g 0)), (1, .int v0)]) hx hb (oc_132 43 (aq_19 shX11_comers_24) ub_3 sgb_1) hl (k := 1) rfl (nI_1 _) (ltb rfl) rfl (fun ls hl => ?_)
          refine lv_goto (tgt := 4) hx hb (oc_167 46 (aq_22 shX11_comers_24) sgw_255_214) rfl ?_
          exact ih4 (i4 + 1) (x4_2 ||| (1 <<< ((nI i4) &&& 31))) (by (first | omega | (have zz0 := Hid.u hb_cn; omega))) (by (first | omega | (have zz0 := Hid.u hb_cn; omega))) ls (lv_sub hl [0, 1, 2, 3] rfl)
  exact lp_4 _ 0 0 (Nat.lt_succ_self _) (by (first | omega | (have zz0 := Hid.u hb_cn; omega))) ls (lv_sub hl [0, 1, 2, 3] rfl)
set_option maxRecDepth 100000 in
set_option maxHeartbeats 4000000 in
theorem q_Xworth (l : Launch) (D : va_G) (cI cB cZ : ClassId) (zz qq vv : Nat) (bt : Nat → Int32) (g : Nat → Nat) (ad : Nat → Nat → Nat) (cn : Nat → Nat) (In : Nat → Int32) (Fn : Nat → Nat → Int32) (v0 v1 : Int32) (hB : CBX cn) : Met l yX11_worth (CWS yX11_worth cX11_worth 3 (some .int)) (RM 4 0 0) (PBrx [.ref (g 0), .int v0, .int v1] D cI cB cZ zz qq vv bt (wX cI (D.1 99) zz g ad cn In Fn)) (vp_Si (fun _ => True)) 0 0 (fun _ => False) := by
  refine en_rx rfl pn_RX11 (Nat.le_of_ble_eq_true rfl) (fun p e s m below meth c hx hb hml hown S hr hlocks hnm hP hK hXS hS ls hl => ?_)
  have hl : lv_has ls 3 [(0, .ref (g 0)), (1, .int v0), (2, .int v1)] := hl
  have hb_cn : Hid (CBX cn) := hB
  replace hB : CBXh cn := hB
  refine lv_iload_n hx hb (oc_27 0 shX11_worth_0) rfl (lvA1 hl) ?_
  refine lv_iconst (v := 0) hx hb (oc_3 1 (aq_1 shX11_worth_0)) kic_0 ?_
  refine lv_sipush (v := 200) hx hb (oc_17 2 (aq_2 shX11_worth_0) sgw_0_200) (by decide) ?_
  refine vp_callSi (runS_r (As := [.int v0, .int 0, .int 200]) (rest := []) S (q_l_within l D cI cB cZ v0 0 200) kS_RX11_80 hK hP [] rfl ⟨Nat.le_of_ble_eq_true rfl, Nat.le_of_ble_eq_true rfl⟩ ⟨Nat.le_of_ble_eq_true rfl, Nat.le_of_ble_eq_true rfl⟩ rfl hl.1 rfl (Nat.le_of_ble_eq_true rfl) (oc_184 5 (aq_5 shX11_worth_0) uw_0_80)) (fun r_1 h_2 => ?_)
  rcases h_2 with ⟨rfl, h_2⟩ | ⟨rfl, h_2⟩
  ·
    have h_2 : 0 ≤ v0.toInt ∧ v0.toInt ≤ 200 := h_2
    refine lv_if_eq (tgt := 31) hx hb (oc_153 8 (aq_8 shX11_worth_0) sgw_0_23) rfl (fun h => absurd h cq_eq_1_0) (fun _ => ?_)
    refine lv_iload_n hx hb (oc_28 11 (aq_11 shX11_worth_0)) rfl (lvA2 hl) ?_
    refine lv_iconst (v := 0) hx hb (oc_3 12 (aq_12 shX11_worth_0)) kic_0 ?_
    refine lv_sipush (v := 1000) hx hb (oc_17 13 (aq_13 shX11_worth_0) sgw_3_232) (by decide) ?_
    refine vp_callSi (runS_r (As := [.int v1, .int 0, .int 1000]) (rest := []) S (q_l_within l D cI cB cZ v1 0 1000) kS_RX11_80 hK hP [] rfl ⟨Nat.le_of_ble_eq_true rfl, Nat.le_of_ble_eq_true rfl⟩ ⟨Nat.le_of_ble_eq_true rfl, Nat.le_of_ble_eq_true rfl⟩ rfl hl.1 rfl (Nat.le_of_ble_eq_true rfl) (oc_184 16 (aq_16 shX11_worth_0) uw_0_80)) (fun r_3 h_4 => ?_)
    rcases h_4 with ⟨rfl, h_4⟩ | ⟨rfl, h_4⟩
    ·
      have h_4 : 0 ≤ v1.toInt ∧ v1.toInt ≤ 1000 := h_4
      refine lv_if_eq (tgt := 31) hx hb (oc_153 19 (aq_19 shX11_worth_0) sgw_0_12) rfl (fun h => absurd h cq_eq_1_0) (fun _ => ?_)
      refine lv_aload_n hx hb (oc_42 22 (aq_22 shX11_worth_0)) rfl (lvA0 hl) ?_
      refine lv_iload_n hx hb (oc_27 23 (aq_23 shX11_worth_0)) rfl (lvA1 hl) ?_
      refine lv_iload_n hx hb (oc_28 24 shX11_worth_24) rfl (lvA2 hl) ?_
      refine vp_callSi (runV_rxa (As := [.int v0, .int v1]) (rest := []) S (q_XworthOf l D cI cB cZ zz qq vv bt g ad cn In Fn v0 v1 hB) kV_RX11_460 hK hXS hS hP 0 xo_0 rfl rfl ⟨Nat.le_of_ble_eq_true rfl, Nat.le_of_ble_eq_true rfl⟩ ⟨Nat.le_of_ble_eq_true rfl, Nat.le_of_ble_eq_true rfl⟩ rfl hl.1 rfl (Nat.le_of_ble_eq_true rfl) (oc_182 25 (aq_1 shX11_worth_24) uw_1_204)) (fun r_5 h_6 => ?_)
      refine lv_goto (tgt := 34) hx hb (oc_167 28 (aq_4 shX11_worth_24) sgw_0_6) rfl ?_
      exact W.iret (v := r_5) hx hb hr (fun t ht hW => ⟨r_5, rfl, trivial, ht⟩) (fun _ h => absurd h List.not_mem_nil) (oc_172 34 (aq_10 shX11_worth_24))
    ·
      have h_4 : ¬ (0 ≤ v1.toInt ∧ v1.toInt ≤ 1000) := h_4
      refine lv_if_eq (tgt := 31) hx hb (oc_153 19 (aq_19 shX11_worth_0) sgw_0_12) rfl (fun _ => ?_) (fun h => absurd h cq_eq_0_0)
      refine lv_ldcw (v := (-1000000)) hx hb hown (S.2.2.2.2 _ (wk5_15 4 rfl rfl)) (oc_19 31 (aq_7 shX11_worth_24) uw_1_207) ?_
      exact W.iret (v := (-1000000)) hx hb hr (fun t ht hW => ⟨(-1000000), rfl, trivial, ht⟩) (fun _ h => absurd h List.not_mem_nil) (oc_172 34 (aq_10 shX11_worth_24))
  ·
    have h_2 : ¬ (0 ≤ v0.toInt ∧ v0.toInt ≤ 200) := h_2
    refine lv_if_eq (tgt := 31) hx hb (oc_153 8 (aq_8 shX11_worth_0) sgw_0_23) rfl (fun _ => ?_) (fun h => absurd h cq_eq_0_0)
    refine lv_ldcw (v := (-1000000)) hx hb hown (S.2.2.2.2 _ (wk5_15 4 rfl rfl)) (oc_19 31 (aq_7 shX11_worth_24) uw_1_207) ?_
    exact W.iret (v := (-1000000)) hx hb hr (fun t ht hW => ⟨(-1000000), rfl, trivial, ht⟩) (fun _ h => absurd h List.not_mem_nil) (oc_172 34 (aq_10 shX11_worth_24))
set_option maxRecDepth 100000 in
set_option maxHeartbeats 4000000 in
theorem q_Xoffer (l : Launch) (D : va_G) (cI cB cZ : ClassId) (zz qq vv : Nat) (bt : Nat → Int32) (g : Nat → Nat) (ad : Nat → Nat → Nat) (cn : Nat → Nat) (In : Nat → Int32) (Fn : Nat → Nat → Int32) (v0 v1 : Int32) (hB : CBX cn) : Met l yX11_offer (CWS yX11_offer cX11_offer 7 (some .int)) (RM 4 0 0) (PBrx [.ref (g 0), .int v0, .int v1] D cI cB cZ zz qq vv bt (wX cI (D.1 99) zz g ad cn In Fn)) (vp_Si (fun _ => True)) 0 0 (fun _ => False) := by
  refine en_rx rfl pn_RX11 (Nat.le_of_ble_eq_true rfl) (fun p e s m below meth c hx hb hml hown S hr hlocks hnm hP hK hXS hS ls hl => ?_)
  have hl : lv_has ls 7 [(0, .ref (g 0)), (1, .int v0), (2, .int v1)] := hl
  have hb_cn : Hid (CBX cn) := hB
  replace hB : CBXh cn := hB
  refine lv_iload_n hx hb (oc_27 0 shX11_offer_0) rfl (lvA1 hl) ?_
  refine lv_iconst (v := 0) hx hb (oc_3 1 (aq_1 shX11_offer_0)) kic_0 ?_
  refine lv_sipush (v := 1000) hx hb (oc_17 2 (aq_2 shX11_offer_0) sgw_3_232) (by decide) ?_
  refine vp_callSi (runS_r (As := [.int v0, .int 0, .int 1000]) (rest := []) S (q_l_within l D cI cB cZ v0 0 1000) kS_RX11_80 hK hP [] rfl ⟨Nat.le_of_ble_eq_true rfl, Nat.le_of_ble_eq_true rfl⟩ ⟨Nat.le_of_ble_eq_true rfl, Nat.le_of_ble_eq_true rfl⟩ rfl hl.1 rfl (Nat.le_of_ble_eq_true rfl) (oc_184 5 (aq_5 shX11_offer_0) uw_0_80)) (fun r_1 h_2 => ?_)
  rcases h_2 with ⟨rfl, h_2⟩ | ⟨rfl, h_2⟩
  ·
    have h_2 : 0 ≤ v0.toInt ∧ v0.toInt ≤ 1000 := h_2
    refine lv_if_eq (tgt := 20) hx hb (oc_153 8 (aq_8 shX11_offer_0) sgw_0_12) rfl (fun h => absurd h cq_eq_1_0) (fun _ => ?_)
    refine lv_iload_n hx hb (oc_28 11 (aq_11 shX11_offer_0)) rfl (lvA2 hl) ?_
    refine lv_iconst (v := 0) hx hb (oc_3 12 (aq_12 shX11_offer_0)) kic_0 ?_
    refine lv_iconst (v := 2) hx hb (oc_5 13 (aq_13 shX11_offer_0)) kic_2 ?_
    refine vp_callSi (runS_r (As := [.int v1, .int 0, .int 2]) (rest := []) S (q_l_within l D cI cB cZ v1 0 2) kS_RX11_80 hK hP [] rfl ⟨Nat.le_of_ble_eq_true rfl, Nat.le_of_ble_eq_true rfl⟩ ⟨Nat.le_of_ble_eq_true rfl, Nat.le_of_ble_eq_true rfl⟩ rfl hl.1 rfl (Nat.le_of_ble_eq_true rfl) (oc_184 14 (aq_14 shX11_offer_0) uw_0_80)) (fun r_3 h_4 => ?_)
    rcases h_4 with ⟨rfl, h_4⟩ | ⟨rfl, h_4⟩
    ·
      have h_4 : 0 ≤ v1.toInt ∧ v1.toInt ≤ 2 := h_4
      refine lv_if_ne (tgt := 22) hx hb (oc_154 17 (aq_17 shX11_offer_0) sgw_0_5) rfl (fun _ => ?_) (fun h => absurd h cq_eq_1_0)
      refine lv_iconst (v := 0) hx hb (oc_3 22 (aq_22 shX11_offer_0)) kic_0 ?_
      refine lv_istore_n (lv' := [(3, .int 0), (0, .ref (g 0)), (1, .int v0), (2, .int v1)]) hx hb (oc_62 23 (aq_23 shX11_offer_0)) rfl hl (ltb rfl) rfl (fun ls hl => ?_)
      refine lv_aload_n hx hb (oc_42 24 shX11_offer_24) rfl (lvA1 hl) ?_
      refine lv_iconst (v := 0) hx hb (oc_3 25 (aq_1 shX11_offer_24)) kic_0 ?_
      refine lv_iload_n hx hb (oc_27 26 (aq_2 shX11_offer_24)) rfl (lvA2 hl) ?_
      refine vp_callSi (runV_rxa (As := [.int 0, .int v0]) (rest := []) S (q_XworthOf l D cI cB cZ zz qq vv bt g ad cn In Fn 0 v0 hB) kV_RX11_460 hK hXS hS hP 0 xo_0 rfl rfl ⟨Nat.le_of_ble_eq_true rfl, Nat.le_of_ble_eq_true rfl⟩ ⟨Nat.le_of_ble_eq_true rfl, Nat.le_of_ble_eq_true rfl⟩ rfl hl.1 rfl (Nat.le_of_ble_eq_true rfl) (oc_182 27 (aq_3 shX11_offer_24) uw_1_204)) (fun r_5 h_6 => ?_)
      refine lv_istore (lv' := [(4, .int r_5), (3, .int 0), (0, .ref (g 0)), (1, .int v0), (2, .int v1)]) hx hb (oc_54 30 (aq_6 shX11_offer_24) ub_4) hl (ltb rfl) rfl (fun ls hl => ?_)
      refine lv_iconst (v := 1) hx hb (oc_4 32 (aq_8 shX11_offer_24)) kic_1 ?_
      refine lv_istore (lv' := [(5, .int 1), (4, .int r_5), (3, .int 0), (0, .ref (g 0)), (1, .int v0), (2, .int v1)]) hx hb (oc_54 33 (aq_9 shX11_offer_24) ub_5) hl (ltb rfl) rfl (fun ls hl => ?_)
      have lp_35 : ∀ (n : Nat) (i35 : Nat) (x35_3 : Int32) (x35_4 : Int32) , 201 - i35 < n → (i35 ≤ 201) → ∀ ls : Array Slot, lv_has ls 7 [(5, .int (nI i35)), (4, .int x35_4), (3, .int x35_3), (0, .ref (g 0)), (1, .int v0), (2, .int v1)] → W p l e (RM 4 0 0) s m ([.ref (g 0), .int v0, .int v1]).toArray below meth c s.heap [] 0 0 (MQ below (vp_Si (fun _ => True)) ([.ref (g 0), .int v0, .int v1]).toArray s 0 0 (fun _ => False)) (F0 m 35 ls []) := by
        intro n35
        induction n35 with
        | zero => intros; (first | omega | (have zz0 := Hid.u hb_cn; omega))
        | succ n35 ih35 =>
          intro i35 x35_3 x35_4 hmu35 hinv35 ls hl
          have hr35 := hinv35
          have ti35 : (nI i35).toInt = (i35 : Int) := nI_toInt (by (first | omega | (have zz0 := Hid.u hb_cn; omega)))
          refine lv_iload hx hb (oc_21 35 (aq_11 shX11_offer_24) ub_5) (lvA0 hl) ?_
          refine lv_sipush (v := 200) hx hb (oc_17 37 (aq_13 shX11_offer_24) sgw_0_200) (by decide) ?_
          refine lv_icmp_gt (tgt := 72) hx hb (oc_163 40 (aq_16 shX11_offer_24) sgw_0_32) rfl (fun c_7 => ?_) (fun c_7 => ?_)
          ·
            have tc_7 : (200 : Int) < (nI i35).toInt := Int32.lt_iff_toInt_lt.mp c_7
            refine lv_iload_n hx hb (oc_28 72 (aq_22 shX11_offer_50)) rfl (lvA5 hl) ?_
            refine lv_if_ne (tgt := 80) hx hb (oc_154 73 (aq_23 shX11_offer_50) sgw_0_7) rfl (fun c_8 => ?_) (fun c_8 => ?_)
            ·
              have tc_8 : (v1.toInt : Int) ≠ 0 := fun q => c_8 (Int32.toInt_inj.mp q)
              refine lv_iload_n hx hb (oc_28 80 (aq_4 shX11_offer_76)) rfl (lvA5 hl) ?_
              refine lv_iconst (v := 1) hx hb (oc_4 81 (aq_5 shX11_offer_76)) kic_1 ?_
              refine lv_icmp_ne (tgt := 90) hx hb (oc_160 82 (aq_6 shX11_offer_76) sgw_0_8) rfl (fun c_9 => ?_) (fun c_9 => ?_)
              ·
                have tc_9 : (v1.toInt : Int) ≠ 1 := fun q => c_9 (Int32.toInt_inj.mp q)
                refine lv_aload_n hx hb (oc_42 90 (aq_14 shX11_offer_76)) rfl (lvA3 hl) ?_
                refine lv_iload_n hx hb (oc_29 91 (aq_15 shX11_offer_76)) rfl (lvA2 hl) ?_
                refine vp_callSi (runV_rxa (As := [.int x35_3]) (rest := []) S (q_Xcomers l D cI cB cZ zz qq vv bt g ad cn In Fn x35_3 hB) kV_RX11_464 hK hXS hS hP 0 xo_0 rfl rfl ⟨Nat.le_of_ble_eq_true rfl, Nat.le_of_ble_eq_true rfl⟩ ⟨Nat.le_of_ble_eq_true rfl, Nat.le_of_ble_eq_true rfl⟩ rfl hl.1 rfl (Nat.le_of_ble_eq_true rfl) (oc_182 92 (aq_16 shX11_offer_76) uw_1_208)) (fun r_10 h_11 => ?_)
                exact W.iret (v := r_10) hx hb hr (fun t ht hW => ⟨r_10, rfl, trivial, ht⟩) (fun _ h => absurd h List.not_mem_nil) (oc_172 95 (aq_19 shX11_offer_76))
              ·
                have tc_9 : (v1.toInt : Int) = 1 := congrArg Int32.toInt c_9
                refine lv_iload hx hb (oc_21 85 (aq_9 shX11_offer_76) ub_4) (lvA1 hl) ?_
                refine lv_goto (tgt := 95) hx hb (oc_167 87 (aq_11 shX11_offer_76) sgw_0_8) rfl ?_
                exact W.iret (v := x35_4) hx hb hr (fun t ht hW => ⟨x35_4, rfl, trivial, ht⟩) (fun _ h => absurd h List.not_mem_nil) (oc_172 95 (aq_19 shX11_offer_76))
            ·
              have tc_8 : (v1.toInt : Int) = 0 := congrArg Int32.toInt c_8
              refine lv_iload_n hx hb (oc_29 76 shX11_offer_76) rfl (lvA2 hl) ?_
              refine lv_goto (tgt := 95) hx hb (oc_167 77 (aq_1 shX11_offer_76) sgw_0_18) rfl ?_
              exact W.iret (v := x35_3) hx hb hr (fun t ht hW => ⟨x35_3, rfl, trivial, ht⟩) (fun _ h => absurd h List.not_mem_nil) (oc_172 95 (aq_19 shX11_offer_76))
          ·
            have tc_7 : ((nI i35).toInt : Int) ≤ 200 := Int32.le_iff_toInt_le.mp (Int32.not_lt.mp c_7)
            refine lv_aload_n hx hb (oc_42 43 (aq_19 shX11_offer_24)) rfl (lvA3 hl) ?_
            refine lv_iload hx hb (oc_21 44 (aq_20 shX11_offer_24) ub_5) (lvA0 hl) ?_
            refine lv_iload_n hx hb (oc_27 46 (aq_22 shX11_offer_24)) rfl (lvA4 hl) ?_
            refine vp_callSi (runV_rxa (As := [.int (nI i35), .int v0]) (rest := []) S (q_XworthOf l D cI cB cZ zz qq vv bt g ad cn In Fn (nI i35) v0 hB) kV_RX11_460 hK hXS hS hP 0 xo_0 rfl rfl ⟨Nat.le_of_ble_eq_true rfl, Nat.le_of_ble_eq_true rfl⟩ ⟨Nat.le_of_ble_eq_true rfl, Nat.le_of_ble_eq_true rfl⟩ rfl hl.1 rfl (Nat.le_of_ble_eq_true rfl) (oc_182 47 (aq_23 shX11_offer_24) uw_1_204)) (fun r_12 h_13 => ?_)
            refine lv_istore (lv' := [(6, .int r_12), (5, .int (nI i35)), (4, .int x35_4), (3, .int x35_3), (0, .ref (g 0)), (1, .int v0), (2, .int v1)]) hx hb (oc_54 50 shX11_offer_50 ub_6) hl (ltb rfl) rfl (fun ls hl => ?_)
            refine lv_iload hx hb (oc_21 52 (aq_2 shX11_offer_50) ub_6) (lvA0 hl) ?_
            refine lv_iload hx hb (oc_21 54 (aq_4 shX11_offer_50) ub_4) (lvA2 hl) ?_
            refine lv_icmp_le (tgt := 66) hx hb (oc_164 56 (aq_6 shX11_offer_50) sgw_0_10) rfl (fun c_14 => ?_) (fun c_14 => ?_)
            ·
              have tc_14 : (r_12.toInt : Int) ≤ x35_4.toInt := Int32.le_iff_toInt_le.mp c_14
              refine lv_iinc (v := (nI (i35 + 1))) (lv' := [(5, .int (nI (i35 + 1))), (6, .int r_12), (4, .int x35_4), (3, .int x35_3), (0, .ref (g 0)), (1, .int v0), (2, .int v1)]) hx hb (oc_132 66 (aq_16 shX11_offer_50) ub_5 sgb_1) hl (k := 1) rfl (nI_1 _) (ltb rfl) rfl (fun ls hl => ?_)
              refine lv_goto (tgt := 35) hx hb (oc_167 69 (aq_19 shX11_offer_50) sgw_255_222) rfl ?_
              exact ih35 (i35 + 1) x35_3 x35_4 (by (first | omega | (have zz0 := Hid.u hb_cn; omega))) (by (first | omega | (have zz0 := Hid.u hb_cn; omega))) ls (lv_sub hl [0, 2, 3, 4, 5, 6] rfl)
            ·
              have tc_14 : (x35_4.toInt : Int) < r_12.toInt := Int32.lt_iff_toInt_lt.mp (Int32.not_le.mp c_14)
              refine lv_iload hx hb (oc_21 59 (aq_9 shX11_offer_50) ub_5) (lvA1 hl) ?_
              refine lv_istore_n (lv' := [(3, .int (nI i35)), (6, .int r_12), (5, .int (nI i35)), (4, .int x35_4), (0, .ref (g 0)), (1, .int v0), (2, .int v1)]) hx hb (oc_62 61 (aq_11 shX11_offer_50)) rfl hl (ltb rfl) rfl (fun ls hl => ?_)
              refine lv_iload hx hb (oc_21 62 (aq_12 shX11_offer_50) ub_6) (lvA1 hl) ?_
              refine lv_istore (lv' := [(4, .int r_12), (3, .int (nI i35)), (6, .int r_12), (5, .int (nI i35)), (0, .ref (g 0)), (1, .int v0), (2, .int v1)]) hx hb (oc_54 64 (aq_14 shX11_offer_50) ub_4) hl (ltb rfl) rfl (fun ls hl => ?_)
              refine lv_iinc (v := (nI (i35 + 1))) (lv' := [(5, .int (nI (i35 + 1))), (4, .int r_12), (3, .int (nI i35)), (6, .int r_12), (0, .ref (g 0)), (1, .int v0), (2, .int v1)]) hx hb (oc_132 66 (aq_16 shX11_offer_50) ub_5 sgb_1) hl (k := 3) rfl (nI_1 _) (ltb rfl) rfl (fun ls hl => ?_)
              refine lv_goto (tgt := 35) hx hb (oc_167 69 (aq_19 shX11_offer_50) sgw_255_222) rfl ?_
              exact ih35 (i35 + 1) (nI i35) r_12 (by (first | omega | (have zz0 := Hid.u hb_cn; omega))) (by (first | omega | (have zz0 := Hid.u hb_cn; omega))) ls (lv_sub hl [0, 1, 2, 4, 5, 6] rfl)
      exact lp_35 _ 1 0 r_5 (Nat.lt_succ_self _) (by (first | omega | (have zz0 := Hid.u hb_cn; omega))) ls (lv_sub hl [0, 1, 2, 3, 4, 5] rfl)
    ·
      have h_4 : ¬ (0 ≤ v1.toInt ∧ v1.toInt ≤ 2) := h_4
      refine lv_if_ne (tgt := 22) hx hb (oc_154 17 (aq_17 shX11_offer_0) sgw_0_5) rfl (fun h => absurd h cq_eq_0_0) (fun _ => ?_)
      refine lv_iconst (v := (-1)) hx hb (oc_2 20 (aq_20 shX11_offer_0)) kic_m1 ?_
      exact W.iret (v := (-1)) hx hb hr (fun t ht hW => ⟨(-1), rfl, trivial, ht⟩) (fun _ h => absurd h List.not_mem_nil) (oc_172 21 (aq_21 shX11_offer_0))
  ·
    have h_2 : ¬ (0 ≤ v0.toInt ∧ v0.toInt ≤ 1000) := h_2
    refine lv_if_eq (tgt := 20) hx hb (oc_153 8 (aq_8 shX11_offer_0) sgw_0_12) rfl (fun _ => ?_) (fun h => absurd h cq_eq_0_0)
    refine lv_iconst (v := (-1)) hx hb (oc_2 20 (aq_20 shX11_offer_0)) kic_m1 ?_
    exact W.iret (v := (-1)) hx hb hr (fun t ht hW => ⟨(-1), rfl, trivial, ht⟩) (fun _ h => absurd h List.not_mem_nil) (oc_172 21 (aq_21 shX11_offer_0))
set_option maxRecDepth 100000 in
set_option maxHeartbeats 4000000 in
theorem q_XisBeside (l : Launch) (D : va_G) (cI cB cZ : ClassId) (zz qq vv : Nat) (bt : Nat → Int32) (g : Nat → Nat) (ad : Nat → Nat → Nat) (cn : Nat → Nat) (In : Nat → Int32) (Fn : Nat → Nat → Int32) (k0 : Nat) (v1 v2 : Int32) (hB : CBX cn) (hk : k0 < cn 10) : Met l yX11_isBeside (CWS yX11_isBeside cX11_isBeside 6 (some .boolean)) (RM 3 0 0) (PBrx [.ref (g 0), .ref (ad 10 k0), .int v1, .int v2] D cI cB cZ zz qq vv bt (wX cI (D.1 99) zz g ad cn In Fn)) (vp_Si (fun r => r = 0 ∨ r = 1)) 0 0 (fun _ => False) := by
  refine en_rx rfl pn_RX11 (Nat.le_of_ble_eq_true rfl) (fun p e s m below meth c hx hb hml hown S hr hlocks hnm hP hK hXS hS ls hl => ?_)
  have hl : lv_has ls 6 [(0, .ref (g 0)), (1, .ref (ad 10 k0)), (2, .int v1), (3, .int v2)] := hl
  have hb_cn : Hid (CBX cn) := hB
  replace hB : CBXh cn := hB
  refine lv_iconst (v := 0) hx hb (oc_3 0 shX11_isBeside_0) kic_0 ?_
  refine lv_istore (lv' := [(4, .int 0), (0, .ref (g 0)), (1, .ref (ad 10 k0)), (2, .int v1), (3, .int v2)]) hx hb (oc_54 1 (aq_1 shX11_isBeside_0) ub_4) hl (ltb rfl) rfl (fun ls hl => ?_)
  have lp_3 : ∀ (n : Nat) (i3 : Nat) , cn 14 - i3 < n → (i3 ≤ cn 14) → ∀ ls : Array Slot, lv_has ls 6 [(4, .int (nI i3)), (0, .ref (g 0)), (1, .ref (ad 10 k0)), (2, .int v1), (3, .int v2)] → W p l e (RM 3 0 0) s m ([.ref (g 0), .ref (ad 10 k0), .int v1, .int v2]).toArray below meth c s.heap [] 0 0 (MQ below (vp_Si (fun r => r = 0 ∨ r = 1)) ([.ref (g 0), .ref (ad 10 k0), .int v1, .int v2]).toArray s 0 0 (fun _ => False)) (F0 m 3 ls []) := by
    intro n3
    induction n3 with
    | zero => intros; (first | omega | (have zz0 := Hid.u hb_cn; omega))
    | succ n3 ih3 =>
      intro i3 hmu3 hinv3 ls hl
      have hr3 := hinv3
      have ti3 : (nI i3).toInt = (i3 : Int) := nI_toInt (by (first | omega | (have zz0 := Hid.u hb_cn; omega)))
      refine lv_iload hx hb (oc_21 3 (aq_3 shX11_isBeside_0) ub_4) (lvA0 hl) ?_
      refine lv_aload_n hx hb (oc_42 5 (aq_5 shX11_isBeside_0)) rfl (lvA1 hl) ?_
      refine gf_RX11_74 S hK hP 0 xo_0 (v := .ref (g 14)) rfl (oc_180 6 (aq_6 shX11_isBeside_0) uw_0_74) ?_
      refine vp_callSi (runV_r (As := []) (rest := [.int (nI i3)]) S (q_l_size l D cI cB cZ (g 14) (if (cn 14) = 0 then zz else ad 2 4) (In 14) (nI (cn 14))) kV_RX11_84 hK hP [28] (one_is xo_28) 28 xo_28 rfl rfl ⟨Nat.le_of_ble_eq_true rfl, Nat.le_of_ble_eq_true rfl⟩ ⟨Nat.le_of_ble_eq_true rfl, Nat.le_of_ble_eq_true rfl⟩ rfl hl.1 rfl (Nat.le_of_ble_eq_true rfl) (oc_182 9 (aq_9 shX11_isBeside_0) uw_0_84)) (fun r_1 h_2 => ?_)
      subst h_2
      have : (nI (cn 14)).toInt = (((cn 14) : Nat) : Int) := nI_toInt (by (first | omega | (have zz0 := Hid.u hb_cn; omega)))
      refine lv_icmp_ge (tgt := 71) hx hb (oc_162 12 (aq_12 shX11_isBeside_0) sgw_0_59) rfl (fun c_3 => ?_) (fun c_3 => ?_)
      ·
        have tc_3 : ((nI (cn 14)).toInt : Int) ≤ (nI i3).toInt := Int32.le_iff_toInt_le.mp c_3
        refine lv_iconst (v := 0) hx hb (oc_3 71 (aq_23 shX11_isBeside_48)) kic_0 ?_
        exact W.zret (v := 0) hx hb hr rfl (fun t ht hW => ⟨0, rfl, (Or.inl rfl), ht⟩) (fun _ h => absurd h List.not_mem_nil) (oc_172 72 shX11_isBeside_72)
      ·
        have tc_3 : ((nI i3).toInt : Int) < (nI (cn 14)).toInt := Int32.lt_iff_toInt_lt.mp (Int32.not_le.mp c_3)
        refine lv_aload_n hx hb (oc_42 15 (aq_15 shX11_isBeside_0)) rfl (lvA1 hl) ?_
        refine gf_RX11_74 S hK hP 0 xo_0 (v := .ref (g 14)) rfl (oc_180 16 (aq_16 shX11_isBeside_0) uw_0_74) ?_
        refine lv_iload hx hb (oc_21 19 (aq_19 shX11_isBeside_0) ub_4) (lvA0 hl) ?_
        refine va_csq (runV_rx (As := [.int (nI i3)]) (rest := []) S (q_l_get l D cI cB cZ zz qq vv bt (g 14) (ad 2 4) (cn 24) (cn 14) i3 (ad 14 i3) (In 14) (fun i => if i < (cn 14) then some (ad 14 i) else none) (by (first | omega | (have zz0 := Hid.u hb_cn; omega))) (if_pos (by (first | omega | (have zz0 := Hid.u hb_cn; omega)))) (by (first | omega | (have zz0 := Hid.u hb_cn; omega))) (by (first | omega | (have zz0 := Hid.u hb_cn; omega)))) kV_RX11_87 hK hXS hS hP _ (two_is (xl_4 (by (first | omega | (have zz0 := Hid.u hb_cn; omega)))) (xf_17 (k := 0) (by (first | omega | (have zz0 := Hid.u hb_cn; omega))))) (va_recv hK.1 hP (ci := 0) rfl xo_28) ⟨Nat.le_of_ble_eq_true rfl, Nat.le_of_ble_eq_true rfl⟩ ⟨Nat.le_of_ble_eq_true rfl, Nat.le_of_ble_eq_true rfl⟩ rfl hl.1 rfl (Nat.le_of_ble_eq_true rfl) (oc_182 21 (aq_21 shX11_isBeside_0) uw_0_87)) (fun r_4 h_5 => ?_)
        subst h_5
        have kf_1 : i3 < cn 14 := by (first | omega | (have zz0 := Hid.u hb_cn; omega))
        refine va_castS hx hb hown (S.2.2.2.2 _ (wk5_17 5 rfl rfl)) (xclass hK.1 (ci := 7) rfl) (va_recv hK.1 hP (ci := 7) rfl (xf_4 kf_1)) (oc_192 24 shX11_isBeside_24 uw_1_217) ?_
        refine lv_astore (lv' := [(5, .ref (ad 14 i3)), (4, .int (nI i3)), (0, .ref (g 0)), (1, .ref (ad 10 k0)), (2, .int v1), (3, .int v2)]) hx hb (oc_58 27 (aq_3 shX11_isBeside_24) ub_5) hl (ltb rfl) rfl (fun ls hl => ?_)
        refine lv_aload hx hb (oc_25 29 (aq_5 shX11_isBeside_24) ub_5) (lvA0 hl) ?_
        refine gf_RX11_477 S hK hP _ (xf_4 kf_1) (v := .int ((Fn 172) i3)) rfl (oc_180 31 (aq_7 shX11_isBeside_24) uw_1_221) ?_
        refine lv_iload_n hx hb (oc_29 34 (aq_10 shX11_isBeside_24)) rfl (lvA5 hl) ?_
        refine lv_icmp_lt (tgt := 65) hx hb (oc_161 35 (aq_11 shX11_isBeside_24) sgw_0_30) rfl (fun c_6 => ?_) (fun c_6 => ?_)
        ·
          have tc_6 : (((Fn 172) i3).toInt : Int) < v2.toInt := Int32.lt_iff_toInt_lt.mp c_6
          refine lv_iinc (v := (nI (i3 + 1))) (lv' := [(4, .int (nI (i3 + 1))), (5, .ref (ad 14 i3)), (0, .ref (g 0)), (1, .ref (ad 10 k0)), (2, .int v1), (3, .int v2)]) hx hb (oc_132 65 (aq_17 shX11_isBeside_48) ub_4 sgb_1) hl (k := 1) rfl (nI_1 _) (ltb rfl) rfl (fun ls hl => ?_)
          refine lv_goto (tgt := 3) hx hb (oc_167 68 (aq_20 shX11_isBeside_48) sgw_255_191) rfl ?_
          exact ih3 (i3 + 1) (by (first | omega | (have zz0 := Hid.u hb_cn; omega))) (by (first | omega | (have zz0 := Hid.u hb_cn; omega))) ls (lv_sub hl [0, 2, 3, 4, 5] rfl)
        ·
          have tc_6 : (v2.toInt : Int) ≤ ((Fn 172) i3).toInt := Int32.le_iff_toInt_le.mp (Int32.not_lt.mp c_6)
          refine lv_aload_n hx hb (oc_43 38 (aq_14 shX11_isBeside_24)) rfl (lvA3 hl) ?_
          refine gf_RX11_293 S hK hP _ (xf_0 hk) (v := .int ((Fn 100) k0)) rfl (oc_180 39 (aq_15 shX11_isBeside_24) uw_1_37) ?_
          refine lv_aload_n hx hb (oc_43 42 (aq_18 shX11_isBeside_24)) rfl (lvA3 hl) ?_
          refine gf_RX11_296 S hK hP _ (xf_0 hk) (v := .int ((Fn 101) k0)) rfl (oc_180 43 (aq_19 shX11_isBeside_24) uw_1_40) ?_
          refine lv_aload hx hb (oc_25 46 (aq_22 shX11_isBeside_24) ub_5) (lvA0 hl) ?_
          refine gf_RX11_480 S hK hP _ (xf_4 kf_1) (v := .int ((Fn 170) i3)) rfl (oc_180 48 shX11_isBeside_48 uw_1_224) ?_
          refine lv_aload hx hb (oc_25 51 (aq_3 shX11_isBeside_48) ub_5) (lvA0 hl) ?_
          refine gf_RX11_481 S hK hP _ (xf_4 kf_1) (v := .int ((Fn 171) i3)) rfl (oc_180 53 (aq_5 shX11_isBeside_48) uw_1_225) ?_
          refine vp_callSi (runS_r (As := [.int ((Fn 100) k0), .int ((Fn 101) k0), .int ((Fn 170) i3), .int ((Fn 171) i3)]) (rest := []) S (q_Xway l D cI cB cZ ((Fn 100) k0) ((Fn 101) k0) ((Fn 170) i3) ((Fn 171) i3) ) kS_RX11_299 hK hP [] rfl ⟨Nat.le_of_ble_eq_true rfl, Nat.le_of_ble_eq_true rfl⟩ ⟨Nat.le_of_ble_eq_true rfl, Nat.le_of_ble_eq_true rfl⟩ rfl hl.1 rfl (Nat.le_of_ble_eq_true rfl) (oc_184 56 (aq_8 shX11_isBeside_48) uw_1_43)) (fun r_7 h_8 => ?_)
          refine lv_iload_n hx hb (oc_28 59 (aq_11 shX11_isBeside_48)) rfl (lvA4 hl) ?_
          refine lv_icmp_gt (tgt := 65) hx hb (oc_163 60 (aq_12 shX11_isBeside_48) sgw_0_5) rfl (fun c_9 => ?_) (fun c_9 => ?_)
          ·
            have tc_9 : (v1.toInt : Int) < r_7.toInt := Int32.lt_iff_toInt_lt.mp c_9
            refine lv_iinc (v := (nI (i3 + 1))) (lv' := [(4, .int (nI (i3 + 1))), (5, .ref (ad 14 i3)), (0, .ref (g 0)), (1, .ref (ad 10 k0)), (2, .int v1), (3, .int v2)]) hx hb (oc_132 65 (aq_17 shX11_isBeside_48) ub_4 sgb_1) hl (k := 1) rfl (nI_1 _) (ltb rfl) rfl (fun ls hl => ?_)
            refine lv_goto (tgt := 3) hx hb (oc_167 68 (aq_20 shX11_isBeside_48) sgw_255_191) rfl ?_
            exact ih3 (i3 + 1) (by (first | omega | (have zz0 := Hid.u hb_cn; omega))) (by (first | omega | (have zz0 := Hid.u hb_cn; omega))) ls (lv_sub hl [0, 2, 3, 4, 5] rfl)
          ·
            have tc_9 : (r_7.toInt : Int) ≤ v1.toInt := Int32.le_iff_toInt_le.mp (Int32.not_lt.mp c_9)
            refine lv_iconst (v := 1) hx hb (oc_4 63 (aq_15 shX11_isBeside_48)) kic_1 ?_
            exact W.zret (v := 1) hx hb hr rfl (fun t ht hW => ⟨1, rfl, (Or.inr rfl), ht⟩) (fun _ h => absurd h List.not_mem_nil) (oc_172 64 (aq_16 shX11_isBeside_48))
  exact lp_3 _ 0 (Nat.lt_succ_self _) (by (first | omega | (have zz0 := Hid.u hb_cn; omega))) ls (lv_sub hl [0, 1, 2, 3, 4] rfl)
set_option maxRecDepth 100000 in
set_option maxHeartbeats 4000000 in
theorem q_Xbeside (l : Launch) (D : va_G) (cI cB cZ : ClassId) (zz qq vv : Nat) (bt : Nat → Int32) (g : Nat → Nat) (ad : Nat → Nat → Nat) (cn : Nat → Nat) (In : Nat → Int32) (Fn : Nat → Nat → Int32) (v0 v1 : Int32) (hB : CBX cn) : Met l yX11_beside (CWS yX11_beside cX11_beside 6 (some .int)) (RM 4 0 0) (PBrx [.ref (g 0), .int v0, .int v1] D cI cB cZ zz qq vv bt (wX cI (D.1 99) zz g ad cn In Fn)) (vp_Si (fun _ => True)) 0 0 (fun _ => False) := by
  refine en_rx rfl pn_RX11 (Nat.le_of_ble_eq_true rfl) (fun p e s m below meth c hx hb hml hown S hr hlocks hnm hP hK hXS hS ls hl => ?_)
  have hl : lv_has ls 6 [(0, .ref (g 0)), (1, .int v0), (2, .int v1)] := hl
  have hb_cn : Hid (CBX cn) := hB
  replace hB : CBXh cn := hB
  refine lv_iload_n hx hb (oc_27 0 shX11_beside_0) rfl (lvA1 hl) ?_
  refine lv_iconst (v := 0) hx hb (oc_3 1 (aq_1 shX11_beside_0)) kic_0 ?_
  refine lv_sipush (v := 198) hx hb (oc_17 2 (aq_2 shX11_beside_0) sgw_0_198) (by decide) ?_
  refine vp_callSi (runS_r (As := [.int v0, .int 0, .int 198]) (rest := []) S (q_l_within l D cI cB cZ v0 0 198) kS_RX11_80 hK hP [] rfl ⟨Nat.le_of_ble_eq_true rfl, Nat.le_of_ble_eq_true rfl⟩ ⟨Nat.le_of_ble_eq_true rfl, Nat.le_of_ble_eq_true rfl⟩ rfl hl.1 rfl (Nat.le_of_ble_eq_true rfl) (oc_184 5 (aq_5 shX11_beside_0) uw_0_80)) (fun r_1 h_2 => ?_)
  rcases h_2 with ⟨rfl, h_2⟩ | ⟨rfl, h_2⟩
  ·
    have h_2 : 0 ≤ v0.toInt ∧ v0.toInt ≤ 198 := h_2
    refine lv_if_eq (tgt := 22) hx hb (oc_153 8 (aq_8 shX11_beside_0) sgw_0_14) rfl (fun h => absurd h cq_eq_1_0) (fun _ => ?_)
    refine lv_iload_n hx hb (oc_28 11 (aq_11 shX11_beside_0)) rfl (lvA2 hl) ?_
    refine lv_iconst (v := 1) hx hb (oc_4 12 (aq_12 shX11_beside_0)) kic_1 ?_
    refine lv_sipush (v := 1000) hx hb (oc_17 13 (aq_13 shX11_beside_0) sgw_3_232) (by decide) ?_
    refine vp_callSi (runS_r (As := [.int v1, .int 1, .int 1000]) (rest := []) S (q_l_within l D cI cB cZ v1 1 1000) kS_RX11_80 hK hP [] rfl ⟨Nat.le_of_ble_eq_true rfl, Nat.le_of_ble_eq_true rfl⟩ ⟨Nat.le_of_ble_eq_true rfl, Nat.le_of_ble_eq_true rfl⟩ rfl hl.1 rfl (Nat.le_of_ble_eq_true rfl) (oc_184 16 (aq_16 shX11_beside_0) uw_0_80)) (fun r_3 h_4 => ?_)
    rcases h_4 with ⟨rfl, h_4⟩ | ⟨rfl, h_4⟩
    ·
      have h_4 : 1 ≤ v1.toInt ∧ v1.toInt ≤ 1000 := h_4
      refine lv_if_ne (tgt := 24) hx hb (oc_154 19 (aq_19 shX11_beside_0) sgw_0_5) rfl (fun _ => ?_) (fun h => absurd h cq_eq_1_0)
      refine lv_iconst (v := 0) hx hb (oc_3 24 shX11_beside_24) kic_0 ?_
      refine lv_istore_n (lv' := [(3, .int 0), (0, .ref (g 0)), (1, .int v0), (2, .int v1)]) hx hb (oc_62 25 (aq_1 shX11_beside_24)) rfl hl (ltb rfl) rfl (fun ls hl => ?_)
      refine lv_iconst (v := 0) hx hb (oc_3 26 (aq_2 shX11_beside_24)) kic_0 ?_
      refine lv_istore (lv' := [(4, .int 0), (3, .int 0), (0, .ref (g 0)), (1, .int v0), (2, .int v1)]) hx hb (oc_54 27 (aq_3 shX11_beside_24) ub_4) hl (ltb rfl) rfl (fun ls hl => ?_)
      have lp_29 : ∀ (n : Nat) (i29 : Nat) (x29_3 : Int32) , cn 10 - i29 < n → (i29 ≤ cn 10) → ∀ ls : Array Slot, lv_has ls 6 [(4, .int (nI i29)), (3, .int x29_3), (0, .ref (g 0)), (1, .int v0), (2, .int v1)] → W p l e (RM 4 0 0) s m ([.ref (g 0), .int v0, .int v1]).toArray below meth c s.heap [] 0 0 (MQ below (vp_Si (fun _ => True)) ([.ref (g 0), .int v0, .int v1]).toArray s 0 0 (fun _ => False)) (F0 m 29 ls []) := by
        intro n29
        induction n29 with
        | zero => intros; (first | omega | (have zz0 := Hid.u hb_cn; omega))
        | succ n29 ih29 =>
          intro i29 x29_3 hmu29 hinv29 ls hl
          have hr29 := hinv29
          have ti29 : (nI i29).toInt = (i29 : Int) := nI_toInt (by (first | omega | (have zz0 := Hid.u hb_cn; omega)))
          refine lv_iload hx hb (oc_21 29 (aq_5 shX11_beside_24) ub_4) (lvA0 hl) ?_
          refine lv_aload_n hx hb (oc_42 31 (aq_7 shX11_beside_24)) rfl (lvA2 hl) ?_
          refine gf_RX11_61 S hK hP 0 xo_0 (v := .ref (g 10)) rfl (oc_180 32 (aq_8 shX11_beside_24) uw_0_61) ?_
          refine vp_callSi (runV_r (As := []) (rest := [.int (nI i29)]) S (q_l_size l D cI cB cZ (g 10) (if (cn 10) = 0 then zz else ad 2 0) (In 10) (nI (cn 10))) kV_RX11_84 hK hP [24] (one_is xo_24) 24 xo_24 rfl rfl ⟨Nat.le_of_ble_eq_true rfl, Nat.le_of_ble_eq_true rfl⟩ ⟨Nat.le_of_ble_eq_true rfl, Nat.le_of_ble_eq_true rfl⟩ rfl hl.1 rfl (Nat.le_of_ble_eq_true rfl) (oc_182 35 (aq_11 shX11_beside_24) uw_0_84)) (fun r_5 h_6 => ?_)
          subst h_6
          have : (nI (cn 10)).toInt = (((cn 10) : Nat) : Int) := nI_toInt (by (first | omega | (have zz0 := Hid.u hb_cn; omega)))
          refine lv_icmp_ge (tgt := 91) hx hb (oc_162 38 (aq_14 shX11_beside_24) sgw_0_53) rfl (fun c_7 => ?_) (fun c_7 => ?_)
          ·
            have tc_7 : ((nI (cn 10)).toInt : Int) ≤ (nI i29).toInt := Int32.le_iff_toInt_le.mp c_7
            refine lv_iload_n hx hb (oc_29 91 (aq_16 shX11_beside_75)) rfl (lvA1 hl) ?_
            exact W.iret (v := x29_3) hx hb hr (fun t ht hW => ⟨x29_3, rfl, trivial, ht⟩) (fun _ h => absurd h List.not_mem_nil) (oc_172 92 (aq_17 shX11_beside_75))
          ·
            have tc_7 : ((nI i29).toInt : Int) < (nI (cn 10)).toInt := Int32.lt_iff_toInt_lt.mp (Int32.not_le.mp c_7)
            refine lv_aload_n hx hb (oc_42 41 (aq_17 shX11_beside_24)) rfl (lvA2 hl) ?_
            refine gf_RX11_61 S hK hP 0 xo_0 (v := .ref (g 10)) rfl (oc_180 42 (aq_18 shX11_beside_24) uw_0_61) ?_
            refine lv_iload hx hb (oc_21 45 (aq_21 shX11_beside_24) ub_4) (lvA0 hl) ?_
            refine va_csq (runV_rx (As := [.int (nI i29)]) (rest := []) S (q_l_get l D cI cB cZ zz qq vv bt (g 10) (ad 2 0) (cn 20) (cn 10) i29 (ad 10 i29) (In 10) (fun i => if i < (cn 10) then some (ad 10 i) else none) (by (first | omega | (have zz0 := Hid.u hb_cn; omega))) (if_pos (by (first | omega | (have zz0 := Hid.u hb_cn; omega)))) (by (first | omega | (have zz0 := Hid.u hb_cn; omega))) (by (first | omega | (have zz0 := Hid.u hb_cn; omega)))) kV_RX11_87 hK hXS hS hP _ (two_is (xl_0 (by (first | omega | (have zz0 := Hid.u hb_cn; omega)))) (xf_13 (k := 0) (by (first | omega | (have zz0 := Hid.u hb_cn; omega))))) (va_recv hK.1 hP (ci := 0) rfl xo_24) ⟨Nat.le_of_ble_eq_true rfl, Nat.le_of_ble_eq_true rfl⟩ ⟨Nat.le_of_ble_eq_true rfl, Nat.le_of_ble_eq_true rfl⟩ rfl hl.1 rfl (Nat.le_of_ble_eq_true rfl) (oc_182 47 (aq_23 shX11_beside_24) uw_0_87)) (fun r_8 h_9 => ?_)
            subst h_9
            have kf_1 : i29 < cn 10 := by (first | omega | (have zz0 := Hid.u hb_cn; omega))
            refine va_castS hx hb hown (S.2.2.2.2 _ (wk2_5 3 rfl rfl)) (xclass hK.1 (ci := 2) rfl) (va_recv hK.1 hP (ci := 2) rfl (xf_0 kf_1)) (oc_192 50 shX11_beside_50 uw_0_91) ?_
            refine lv_astore (lv' := [(5, .ref (ad 10 i29)), (4, .int (nI i29)), (3, .int x29_3), (0, .ref (g 0)), (1, .int v0), (2, .int v1)]) hx hb (oc_58 53 (aq_3 shX11_beside_50) ub_5) hl (ltb rfl) rfl (fun ls hl => ?_)
            refine lv_iload_n hx hb (oc_29 55 (aq_5 shX11_beside_50)) rfl (lvA2 hl) ?_
            refine lv_aload hx hb (oc_25 56 (aq_6 shX11_beside_50) ub_5) (lvA0 hl) ?_
            refine gf_RX11_459 S hK hP _ (xf_0 kf_1) (v := .int ((Fn 102) i29)) rfl (oc_180 58 (aq_8 shX11_beside_50) uw_1_203) ?_
            refine lv_if_ne (tgt := 82) hx hb (oc_154 61 (aq_11 shX11_beside_50) sgw_0_21) rfl (fun c_10 => ?_) (fun c_10 => ?_)
            ·
              have tc_10 : (((Fn 102) i29).toInt : Int) ≠ 0 := fun q => c_10 (Int32.toInt_inj.mp q)
              refine lv_iconst (v := 0) hx hb (oc_3 82 (aq_7 shX11_beside_75)) kic_0 ?_
              refine lv_ior hx hb (oc_128 83 (aq_8 shX11_beside_75)) ?_
              refine lv_istore_n (lv' := [(3, .int (x29_3 ||| 0)), (5, .ref (ad 10 i29)), (4, .int (nI i29)), (0, .ref (g 0)), (1, .int v0), (2, .int v1)]) hx hb (oc_62 84 (aq_9 shX11_beside_75)) rfl hl (ltb rfl) rfl (fun ls hl => ?_)
              refine lv_iinc (v := (nI (i29 + 1))) (lv' := [(4, .int (nI (i29 + 1))), (3, .int (x29_3 ||| 0)), (5, .ref (ad 10 i29)), (0, .ref (g 0)), (1, .int v0), (2, .int v1)]) hx hb (oc_132 85 (aq_10 shX11_beside_75) ub_4 sgb_1) hl (k := 2) rfl (nI_1 _) (ltb rfl) rfl (fun ls hl => ?_)
              refine lv_goto (tgt := 29) hx hb (oc_167 88 (aq_13 shX11_beside_75) sgw_255_197) rfl ?_
              exact ih29 (i29 + 1) (x29_3 ||| 0) (by (first | omega | (have zz0 := Hid.u hb_cn; omega))) (by (first | omega | (have zz0 := Hid.u hb_cn; omega))) ls (lv_sub hl [0, 1, 3, 4, 5] rfl)
            ·
              have tc_10 : (((Fn 102) i29).toInt : Int) = 0 := congrArg Int32.toInt c_10
              refine lv_aload_n hx hb (oc_42 64 (aq_14 shX11_beside_50)) rfl (lvA3 hl) ?_
              refine lv_aload hx hb (oc_25 65 (aq_15 shX11_beside_50) ub_5) (lvA0 hl) ?_
              refine lv_iload_n hx hb (oc_27 67 (aq_17 shX11_beside_50)) rfl (lvA4 hl) ?_
              refine lv_iload_n hx hb (oc_28 68 (aq_18 shX11_beside_50)) rfl (lvA5 hl) ?_
              refine vp_callSi (runV_rxa (As := [.ref (ad 10 i29), .int v0, .int v1]) (rest := [.int x29_3]) S (q_XisBeside l D cI cB cZ zz qq vv bt g ad cn In Fn i29 v0 v1 hB (by (first | omega | (have zz0 := Hid.u hb_cn; omega)))) kV_RX11_482 hK hXS hS hP 0 xo_0 rfl rfl ⟨Nat.le_of_ble_eq_true rfl, Nat.le_of_ble_eq_true rfl⟩ ⟨Nat.le_of_ble_eq_true rfl, Nat.le_of_ble_eq_true rfl⟩ rfl hl.1 rfl (Nat.le_of_ble_eq_true rfl) (oc_182 69 (aq_19 shX11_beside_50) uw_1_226)) (fun r_11 h_12 => ?_)
              rcases h_12 with rfl | rfl
              ·
                refine lv_if_eq (tgt := 82) hx hb (oc_153 72 (aq_22 shX11_beside_50) sgw_0_10) rfl (fun _ => ?_) (fun h => absurd h cq_eq_0_0)
                refine lv_iconst (v := 0) hx hb (oc_3 82 (aq_7 shX11_beside_75)) kic_0 ?_
                refine lv_ior hx hb (oc_128 83 (aq_8 shX11_beside_75)) ?_
                refine lv_istore_n (lv' := [(3, .int (x29_3 ||| 0)), (5, .ref (ad 10 i29)), (4, .int (nI i29)), (0, .ref (g 0)), (1, .int v0), (2, .int v1)]) hx hb (oc_62 84 (aq_9 shX11_beside_75)) rfl hl (ltb rfl) rfl (fun ls hl => ?_)
                refine lv_iinc (v := (nI (i29 + 1))) (lv' := [(4, .int (nI (i29 + 1))), (3, .int (x29_3 ||| 0)), (5, .ref (ad 10 i29)), (0, .ref (g 0)), (1, .int v0), (2, .int v1)]) hx hb (oc_132 85 (aq_10 shX11_beside_75) ub_4 sgb_1) hl (k := 2) rfl (nI_1 _) (ltb rfl) rfl (fun ls hl => ?_)
                refine lv_goto (tgt := 29) hx hb (oc_167 88 (aq_13 shX11_beside_75) sgw_255_197) rfl ?_
                exact ih29 (i29 + 1) (x29_3 ||| 0) (by (first | omega | (have zz0 := Hid.u hb_cn; omega))) (by (first | omega | (have zz0 := Hid.u hb_cn; omega))) ls (lv_sub hl [0, 1, 3, 4, 5] rfl)
              ·
                refine lv_if_eq (tgt := 82) hx hb (oc_153 72 (aq_22 shX11_beside_50) sgw_0_10) rfl (fun h => absurd h cq_eq_1_0) (fun _ => ?_)
                refine lv_iconst (v := 1) hx hb (oc_4 75 shX11_beside_75) kic_1 ?_
                refine lv_iload hx hb (oc_21 76 (aq_1 shX11_beside_75) ub_4) (lvA1 hl) ?_
                refine lv_ishl hx hb (oc_120 78 (aq_3 shX11_beside_75)) ?_
                refine lv_goto (tgt := 83) hx hb (oc_167 79 (aq_4 shX11_beside_75) sgw_0_4) rfl ?_
                refine lv_ior hx hb (oc_128 83 (aq_8 shX11_beside_75)) ?_
                refine lv_istore_n (lv' := [(3, .int (x29_3 ||| (1 <<< ((nI i29) &&& 31)))), (5, .ref (ad 10 i29)), (4, .int (nI i29)), (0, .ref (g 0)), (1, .int v0), (2, .int v1)]) hx hb (oc_62 84 (aq_9 shX11_beside_75)) rfl hl (ltb rfl) rfl (fun ls hl => ?_)
                refine lv_iinc (v := (nI (i29 + 1))) (lv' := [(4, .int (nI (i29 + 1))), (3, .int (x29_3 ||| (1 <<< ((nI i29) &&& 31)))), (5, .ref (ad 10 i29)), (0, .ref (g 0)), (1, .int v0), (2, .int v1)]) hx hb (oc_132 85 (aq_10 shX11_beside_75) ub_4 sgb_1) hl (k := 2) rfl (nI_1 _) (ltb rfl) rfl (fun ls hl => ?_)
                refine lv_goto (tgt := 29) hx hb (oc_167 88 (aq_13 shX11_beside_75) sgw_255_197) rfl ?_
                exact ih29 (i29 + 1) (x29_3 ||| (1 <<< ((nI i29) &&& 31))) (by (first | omega | (have zz0 := Hid.u hb_cn; omega))) (by (first | omega | (have zz0 := Hid.u hb_cn; omega))) ls (lv_sub hl [0, 1, 3, 4, 5] rfl)
      exact lp_29 _ 0 0 (Nat.lt_succ_self _) (by (first | omega | (have zz0 := Hid.u hb_cn; omega))) ls (lv_sub hl [0, 1, 2, 3, 4] rfl)
    ·
      have h_4 : ¬ (1 ≤ v1.toInt ∧ v1.toInt ≤ 1000) := h_4
      refine lv_if_ne (tgt := 24) hx hb (oc_154 19 (aq_19 shX11_beside_0) sgw_0_5) rfl (fun h => absurd h cq_eq_0_0) (fun _ => ?_)
      refine lv_iconst (v := (-1)) hx hb (oc_2 22 (aq_22 shX11_beside_0)) kic_m1 ?_
      exact W.iret (v := (-1)) hx hb hr (fun t ht hW => ⟨(-1), rfl, trivial, ht⟩) (fun _ h => absurd h List.not_mem_nil) (oc_172 23 (aq_23 shX11_beside_0))
  ·
    have h_2 : ¬ (0 ≤ v0.toInt ∧ v0.toInt ≤ 198) := h_2
    refine lv_if_eq (tgt := 22) hx hb (oc_153 8 (aq_8 shX11_beside_0) sgw_0_14) rfl (fun _ => ?_) (fun h => absurd h cq_eq_0_0)
    refine lv_iconst (v := (-1)) hx hb (oc_2 22 (aq_22 shX11_beside_0)) kic_m1 ?_
    exact W.iret (v := (-1)) hx hb hr (fun t ht hW => ⟨(-1), rfl, trivial, ht⟩) (fun _ h => absurd h List.not_mem_nil) (oc_172 23 (aq_23 shX11_beside_0))
set_option maxRecDepth 100000 in
set_option maxHeartbeats 4000000 in
theorem q_Xlate (l : Launch) (D : va_G) (cI cB cZ : ClassId) (zz qq vv : Nat) (bt : Nat → Int32) (g : Nat → Nat) (ad : Nat → Nat → Nat) (cn : Nat → Nat) (In : Nat → Int32) (Fn : Nat → Nat → Int32) (v0 v1 : Int32) (hB : CBX cn) : Met l yX11_late (CWS yX11_late cX11_late 6 (some .int)) (RM 4 0 0) (PBrx [.ref (g 0), .int v0, .int v1] D cI cB cZ zz qq vv bt (wX cI (D.1 99) zz g ad cn In Fn)) (vp_Si (fun _ => True)) 0 0 (fun _ => False) := by
  refine en_rx rfl pn_RX11 (Nat.le_of_ble_eq_true rfl) (fun p e s m below meth c hx hb hml hown S hr hlocks hnm hP hK hXS hS ls hl => ?_)
  have hl : lv_has ls 6 [(0, .ref (g 0)), (1, .int v0), (2, .int v1)] := hl
  have hb_cn : Hid (CBX cn) := hB
  replace hB : CBXh cn := hB
  refine lv_aload_n hx hb (oc_42 0 shX11_late_0) rfl (lvA0 hl) ?_
  refine lv_iload_n hx hb (oc_27 1 (aq_1 shX11_late_0)) rfl (lvA1 hl) ?_
  refine va_csq (runV_rxa (As := [.int v0]) (rest := []) S (q_XkitchenAt l D cI cB cZ zz qq vv bt g ad cn In Fn v0 hB) kV_RX11_114 hK hXS hS hP 0 xo_0 rfl rfl ⟨Nat.le_of_ble_eq_true rfl, Nat.le_of_ble_eq_true rfl⟩ ⟨Nat.le_of_ble_eq_true rfl, Nat.le_of_ble_eq_true rfl⟩ rfl hl.1 rfl (Nat.le_of_ble_eq_true rfl) (oc_182 2 (aq_2 shX11_late_0) uw_0_114)) (fun r_1 h_2 => ?_)
  rcases h_2 with ⟨mr_1, er_1, hr_1, rfl⟩ | ⟨hr_1, rfl⟩
  ·
    refine lv_ifnull hx hb (oc_198 5 (aq_5 shX11_late_0) sgw_0_14) ?_
    refine lv_iload_n hx hb (oc_28 8 (aq_8 shX11_late_0)) rfl (lvA2 hl) ?_
    refine lv_bipush (v := (-40)) hx hb (oc_16 9 (aq_9 shX11_late_0) sgb_216) kbc_m40 ?_
    refine lv_bipush (v := 41) hx hb (oc_16 11 (aq_11 shX11_late_0) sgb_41) kbc_41 ?_
    refine vp_callSi (runS_r (As := [.int v1, .int (-40), .int 41]) (rest := []) S (q_l_within l D cI cB cZ v1 (-40) 41) kS_RX11_80 hK hP [] rfl ⟨Nat.le_of_ble_eq_true rfl, Nat.le_of_ble_eq_true rfl⟩ ⟨Nat.le_of_ble_eq_true rfl, Nat.le_of_ble_eq_true rfl⟩ rfl hl.1 rfl (Nat.le_of_ble_eq_true rfl) (oc_184 13 (aq_13 shX11_late_0) uw_0_80)) (fun r_3 h_4 => ?_)
    rcases h_4 with ⟨rfl, h_4⟩ | ⟨rfl, h_4⟩
    ·
      have h_4 : (-40) ≤ v1.toInt ∧ v1.toInt ≤ 41 := h_4
      refine lv_if_ne (tgt := 21) hx hb (oc_154 16 (aq_16 shX11_late_0) sgw_0_5) rfl (fun _ => ?_) (fun h => absurd h cq_eq_1_0)
      refine lv_iconst (v := 0) hx hb (oc_3 21 (aq_21 shX11_late_0)) kic_0 ?_
      refine lv_istore_n (lv' := [(3, .int 0), (0, .ref (g 0)), (1, .int v0), (2, .int v1)]) hx hb (oc_62 22 (aq_22 shX11_late_0)) rfl hl (ltb rfl) rfl (fun ls hl => ?_)
      refine lv_iconst (v := 0) hx hb (oc_3 23 (aq_23 shX11_late_0)) kic_0 ?_
      refine lv_istore (lv' := [(4, .int 0), (3, .int 0), (0, .ref (g 0)), (1, .int v0), (2, .int v1)]) hx hb (oc_54 24 shX11_late_24 ub_4) hl (ltb rfl) rfl (fun ls hl => ?_)
      have lp_26 : ∀ (n : Nat) (i26 : Nat) (x26_3 : Int32) , cn 11 - i26 < n → (i26 ≤ cn 11) → ∀ ls : Array Slot, lv_has ls 6 [(4, .int (nI i26)), (3, .int x26_3), (0, .ref (g 0)), (1, .int v0), (2, .int v1)] → W p l e (RM 4 0 0) s m ([.ref (g 0), .int v0, .int v1]).toArray below meth c s.heap [] 0 0 (MQ below (vp_Si (fun _ => True)) ([.ref (g 0), .int v0, .int v1]).toArray s 0 0 (fun _ => False)) (F0 m 26 ls []) := by
        intro n26
        induction n26 with
        | zero => intros; (first | omega | (have zz0 := Hid.u hb_cn; omega))
        | succ n26 ih26 =>
          intro i26 x26_3 hmu26 hinv26 ls hl
          have hr26 := hinv26
          have ti26 : (nI i26).toInt = (i26 : Int) := nI_toInt (by (first | omega | (have zz0 := Hid.u hb_cn; omega)))
          refine lv_iload hx hb (oc_21 26 (aq_2 shX11_late_24) ub_4) (lvA0 hl) ?_
          refine lv_aload_n hx hb (oc_42 28 (aq_4 shX11_late_24)) rfl (lvA2 hl) ?_
          refine gf_RX11_65 S hK hP 0 xo_0 (v := .ref (g 11)) rfl (oc_180 29 (aq_5 shX11_late_24) uw_0_65) ?_
          refine vp_callSi (runV_r (As := []) (rest := [.int (nI i26)]) S (q_l_size l D cI cB cZ (g 11) (if (cn 11) = 0 then zz else ad 2 1) (In 11) (nI (cn 11))) kV_RX11_84 hK hP [25] (one_is xo_25) 25 xo_25 rfl rfl ⟨Nat.le_of_ble_eq_true rfl, Nat.le_of_ble_eq_true rfl⟩ ⟨Nat.le_of_ble_eq_true rfl, Nat.le_of_ble_eq_true rfl⟩ rfl hl.1 rfl (Nat.le_of_ble_eq_true rfl) (oc_182 32 (aq_8 shX11_late_24) uw_0_84)) (fun r_5 h_6 => ?_)
          subst h_6
          have : (nI (cn 11)).toInt = (((cn 11) : Nat) : Int) := nI_toInt (by (first | omega | (have zz0 := Hid.u hb_cn; omega)))
          refine lv_icmp_ge (tgt := 88) hx hb (oc_162 35 (aq_11 shX11_late_24) sgw_0_53) rfl (fun c_7 => ?_) (fun c_7 => ?_)
          ·
            have tc_7 : ((nI (cn 11)).toInt : Int) ≤ (nI i26).toInt := Int32.le_iff_toInt_le.mp c_7
            refine lv_iload_n hx hb (oc_29 88 (aq_13 shX11_late_75)) rfl (lvA1 hl) ?_
            exact W.iret (v := x26_3) hx hb hr (fun t ht hW => ⟨x26_3, rfl, trivial, ht⟩) (fun _ h => absurd h List.not_mem_nil) (oc_172 89 (aq_14 shX11_late_75))
          ·
            have tc_7 : ((nI i26).toInt : Int) < (nI (cn 11)).toInt := Int32.lt_iff_toInt_lt.mp (Int32.not_le.mp c_7)
            refine lv_aload_n hx hb (oc_42 38 (aq_14 shX11_late_24)) rfl (lvA2 hl) ?_
            refine gf_RX11_65 S hK hP 0 xo_0 (v := .ref (g 11)) rfl (oc_180 39 (aq_15 shX11_late_24) uw_0_65) ?_
            refine lv_iload hx hb (oc_21 42 (aq_18 shX11_late_24) ub_4) (lvA0 hl) ?_
            refine va_csq (runV_rx (As := [.int (nI i26)]) (rest := []) S (q_l_get l D cI cB cZ zz qq vv bt (g 11) (ad 2 1) (cn 21) (cn 11) i26 (ad 11 i26) (In 11) (fun i => if i < (cn 11) then some (ad 11 i) else none) (by (first | omega | (have zz0 := Hid.u hb_cn; omega))) (if_pos (by (first | omega | (have zz0 := Hid.u hb_cn; omega)))) (by (first | omega | (have zz0 := Hid.u hb_cn; omega))) (by (first | omega | (have zz0 := Hid.u hb_cn; omega)))) kV_RX11_87 hK hXS hS hP _ (two_is (xl_1 (by (first | omega | (have zz0 := Hid.u hb_cn; omega)))) (xf_14 (k := 0) (by (first | omega | (have zz0 := Hid.u hb_cn; omega))))) (va_recv hK.1 hP (ci := 0) rfl xo_25) ⟨Nat.le_of_ble_eq_true rfl, Nat.le_of_ble_eq_true rfl⟩ ⟨Nat.le_of_ble_eq_true rfl, Nat.le_of_ble_eq_true rfl⟩ rfl hl.1 rfl (Nat.le_of_ble_eq_true rfl) (oc_182 44 (aq_20 shX11_late_24) uw_0_87)) (fun r_8 h_9 => ?_)
            subst h_9
            have kf_1 : i26 < cn 11 := by (first | omega | (have zz0 := Hid.u hb_cn; omega))
            refine va_castS hx hb hown (S.2.2.2.2 _ (wk2_17 0 rfl rfl)) (xclass hK.1 (ci := 3) rfl) (va_recv hK.1 hP (ci := 3) rfl (xf_1 kf_1)) (oc_192 47 (aq_23 shX11_late_24) uw_0_93) ?_
            refine lv_astore (lv' := [(5, .ref (ad 11 i26)), (4, .int (nI i26)), (3, .int x26_3), (0, .ref (g 0)), (1, .int v0), (2, .int v1)]) hx hb (oc_58 50 shX11_late_50 ub_5) hl (ltb rfl) rfl (fun ls hl => ?_)
            refine lv_iload_n hx hb (oc_29 52 (aq_2 shX11_late_50)) rfl (lvA2 hl) ?_
            refine lv_aload hx hb (oc_25 53 (aq_3 shX11_late_50) ub_5) (lvA0 hl) ?_
            refine gf_RX11_211 S hK hP _ (xf_1 kf_1) (v := .int ((Fn 120) i26)) rfl (oc_180 55 (aq_5 shX11_late_50) uw_0_211) ?_
            refine lv_iload_n hx hb (oc_27 58 (aq_8 shX11_late_50)) rfl (lvA4 hl) ?_
            refine lv_icmp_ne (tgt := 79) hx hb (oc_160 59 (aq_9 shX11_late_50) sgw_0_20) rfl (fun c_10 => ?_) (fun c_10 => ?_)
            ·
              have tc_10 : (((Fn 120) i26).toInt : Int) ≠ v0.toInt := fun q => c_10 (Int32.toInt_inj.mp q)
              refine lv_iconst (v := 0) hx hb (oc_3 79 (aq_4 shX11_late_75)) kic_0 ?_
              refine lv_iadd hx hb (oc_96 80 (aq_5 shX11_late_75)) ?_
              refine lv_istore_n (lv' := [(3, .int (x26_3 + 0)), (5, .ref (ad 11 i26)), (4, .int (nI i26)), (0, .ref (g 0)), (1, .int v0), (2, .int v1)]) hx hb (oc_62 81 (aq_6 shX11_late_75)) rfl hl (ltb rfl) rfl (fun ls hl => ?_)
              refine lv_iinc (v := (nI (i26 + 1))) (lv' := [(4, .int (nI (i26 + 1))), (3, .int (x26_3 + 0)), (5, .ref (ad 11 i26)), (0, .ref (g 0)), (1, .int v0), (2, .int v1)]) hx hb (oc_132 82 (aq_7 shX11_late_75) ub_4 sgb_1) hl (k := 2) rfl (nI_1 _) (ltb rfl) rfl (fun ls hl => ?_)
              refine lv_goto (tgt := 26) hx hb (oc_167 85 (aq_10 shX11_late_75) sgw_255_197) rfl ?_
              exact ih26 (i26 + 1) (x26_3 + 0) (by (first | omega | (have zz0 := Hid.u hb_cn; omega))) (by (first | omega | (have zz0 := Hid.u hb_cn; omega))) ls (lv_sub hl [0, 1, 3, 4, 5] rfl)
            ·
              have tc_10 : (((Fn 120) i26).toInt : Int) = v0.toInt := congrArg Int32.toInt c_10
              refine lv_aload_n hx hb (oc_42 62 (aq_12 shX11_late_50)) rfl (lvA3 hl) ?_
              refine lv_aload hx hb (oc_25 63 (aq_13 shX11_late_50) ub_5) (lvA0 hl) ?_
              refine gf_RX11_196 S hK hP _ (xf_1 kf_1) (v := .int ((Fn 121) i26)) rfl (oc_180 65 (aq_15 shX11_late_50) uw_0_196) ?_
              refine lv_iload_n hx hb (oc_28 68 (aq_18 shX11_late_50)) rfl (lvA5 hl) ?_
              refine vp_callSi (runV_rxa (As := [.int ((Fn 121) i26), .int v1]) (rest := [.int x26_3]) S (q_Xsets l D cI cB cZ zz qq vv bt g ad cn In Fn ((Fn 121) i26) v1 hB) kV_RX11_489 hK hXS hS hP 0 xo_0 rfl rfl ⟨Nat.le_of_ble_eq_true rfl, Nat.le_of_ble_eq_true rfl⟩ ⟨Nat.le_of_ble_eq_true rfl, Nat.le_of_ble_eq_true rfl⟩ rfl hl.1 rfl (Nat.le_of_ble_eq_true rfl) (oc_182 69 (aq_19 shX11_late_50) uw_1_233)) (fun r_11 h_12 => ?_)
              refine lv_if_eq (tgt := 79) hx hb (oc_153 72 (aq_22 shX11_late_50) sgw_0_7) rfl (fun c_13 => ?_) (fun c_13 => ?_)
              ·
                have tc_13 : (r_11.toInt : Int) = 0 := congrArg Int32.toInt c_13
                refine lv_iconst (v := 0) hx hb (oc_3 79 (aq_4 shX11_late_75)) kic_0 ?_
                refine lv_iadd hx hb (oc_96 80 (aq_5 shX11_late_75)) ?_
                refine lv_istore_n (lv' := [(3, .int (x26_3 + 0)), (5, .ref (ad 11 i26)), (4, .int (nI i26)), (0, .ref (g 0)), (1, .int v0), (2, .int v1)]) hx hb (oc_62 81 (aq_6 shX11_late_75)) rfl hl (ltb rfl) rfl (fun ls hl => ?_)
                refine lv_iinc (v := (nI (i26 + 1))) (lv' := [(4, .int (nI (i26 + 1))), (3, .int (x26_3 + 0)), (5, .ref (ad 11 i26)), (0, .ref (g 0)), (1, .int v0), (2, .int v1)]) hx hb (oc_132 82 (aq_7 shX11_late_75) ub_4 sgb_1) hl (k := 2) rfl (nI_1 _) (ltb rfl) rfl (fun ls hl => ?_)
                refine lv_goto (tgt := 26) hx hb (oc_167 85 (aq_10 shX11_late_75) sgw_255_197) rfl ?_
                exact ih26 (i26 + 1) (x26_3 + 0) (by (first | omega | (have zz0 := Hid.u hb_cn; omega))) (by (first | omega | (have zz0 := Hid.u hb_cn; omega))) ls (lv_sub hl [0, 1, 3, 4, 5] rfl)
              ·
                have tc_13 : (r_11.toInt : Int) ≠ 0 := fun q => c_13 (Int32.toInt_inj.mp q)
                refine lv_iconst (v := 1) hx hb (oc_4 75 shX11_late_75) kic_1 ?_
                refine lv_goto (tgt := 80) hx hb (oc_167 76 (aq_1 shX11_late_75) sgw_0_4) rfl ?_
                refine lv_iadd hx hb (oc_96 80 (aq_5 shX11_late_75)) ?_
                refine lv_istore_n (lv' := [(3, .int (x26_3 + 1)), (5, .ref (ad 11 i26)), (4, .int (nI i26)), (0, .ref (g 0)), (1, .int v0), (2, .int v1)]) hx hb (oc_62 81 (aq_6 shX11_late_75)) rfl hl (ltb rfl) rfl (fun ls hl => ?_)
                refine lv_iinc (v := (nI (i26 + 1))) (lv' := [(4, .int (nI (i26 + 1))), (3, .int (x26_3 + 1)), (5, .ref (ad 11 i26)), (0, .ref (g 0)), (1, .int v0), (2, .int v1)]) hx hb (oc_132 82 (aq_7 shX11_late_75) ub_4 sgb_1) hl (k := 2) rfl (nI_1 _) (ltb rfl) rfl (fun ls hl => ?_)
                refine lv_goto (tgt := 26) hx hb (oc_167 85 (aq_10 shX11_late_75) sgw_255_197) rfl ?_
                exact ih26 (i26 + 1) (x26_3 + 1) (by (first | omega | (have zz0 := Hid.u hb_cn; omega))) (by (first | omega | (have zz0 := Hid.u hb_cn; omega))) ls (lv_sub hl [0, 1, 3, 4, 5] rfl)
      exact lp_26 _ 0 0 (Nat.lt_succ_self _) (by (first | omega | (have zz0 := Hid.u hb_cn; omega))) ls (lv_sub hl [0, 1, 2, 3, 4] rfl)
    ·
      have h_4 : ¬ ((-40) ≤ v1.toInt ∧ v1.toInt ≤ 41) := h_4
      refine lv_if_ne (tgt := 21) hx hb (oc_154 16 (aq_16 shX11_late_0) sgw_0_5) rfl (fun h => absurd h cq_eq_0_0) (fun _ => ?_)
      refine lv_iconst (v := (-1)) hx hb (oc_2 19 (aq_19 shX11_late_0)) kic_m1 ?_
      exact W.iret (v := (-1)) hx hb hr (fun t ht hW => ⟨(-1), rfl, trivial, ht⟩) (fun _ h => absurd h List.not_mem_nil) (oc_172 20 (aq_20 shX11_late_0))
  ·
    refine lv_ifnullN (tgt := 19) hx hb (oc_198 5 (aq_5 shX11_late_0) sgw_0_14) rfl ?_
    refine lv_iconst (v := (-1)) hx hb (oc_2 19 (aq_19 shX11_late_0)) kic_m1 ?_
    exact W.iret (v := (-1)) hx hb hr (fun t ht hW => ⟨(-1), rfl, trivial, ht⟩) (fun _ h => absurd h List.not_mem_nil) (oc_172 20 (aq_20 shX11_late_0))
set_option maxRecDepth 100000 in
set_option maxHeartbeats 4000000 in
theorem q_XshortOf (l : Launch) (D : va_G) (cI cB cZ : ClassId) (zz qq vv : Nat) (bt : Nat → Int32) (g : Nat → Nat) (ad : Nat → Nat → Nat) (cn : Nat → Nat) (In : Nat → Int32) (Fn : Nat → Nat → Int32) (k0 : Nat) (v0 : Int32) (hB : CBX cn) (hk : k0 < cn 11) : Met l yX2_shortOf (CWS yX2_shortOf cX2_shortOf 2 (some .int)) (RM 1 0 0) (PBrx [.ref (ad 11 k0), .int v0] D cI cB cZ zz qq vv bt (wX cI (D.1 99) zz g ad cn In Fn)) (vp_Si (fun _ => True)) 0 0 (fun _ => False) := by
  refine en_rx rfl pn_RX2 (Nat.le_of_ble_eq_true rfl) (fun p e s m below meth c hx hb hml hown S hr hlocks hnm hP hK hXS hS ls hl => ?_)
  have hl : lv_has ls 2 [(0, .ref (ad 11 k0)), (1, .int v0)] := hl
  have hb_cn : Hid (CBX cn) := hB
  replace hB : CBXh cn := hB
  refine lv_iconst (v := 0) hx hb (oc_3 0 shX2_shortOf_0) kic_0 ?_
  refine lv_iload_n hx hb (oc_27 1 (aq_1 shX2_shortOf_0)) rfl (lvA1 hl) ?_
  refine lv_aload_n hx hb (oc_42 2 (aq_2 shX2_shortOf_0)) rfl (lvA0 hl) ?_
  refine gf_RX2_16 S hK hP _ (xf_1 hk) (v := .int ((Fn 122) k0)) rfl (oc_180 3 (aq_3 shX2_shortOf_0) uw_0_16) ?_
  refine lv_isub hx hb (oc_100 6 (aq_6 shX2_shortOf_0)) ?_
  refine lv_iload_n hx hb (oc_27 7 (aq_7 shX2_shortOf_0)) rfl (lvA1 hl) ?_
  refine lv_bipush (v := 10) hx hb (oc_16 8 (aq_8 shX2_shortOf_0) sgb_10) kbc_10 ?_
  refine lv_idiv hx hb (oc_108 10 (aq_10 shX2_shortOf_0)) (by decide) ?_
  refine lv_isub hx hb (oc_100 11 (aq_11 shX2_shortOf_0)) ?_
  refine va_mmax hx hb (by rw [hml]; exact hl.1.symm) hown (S.2.2.2.2 _ (wk3_1 2 rfl rfl)) (S.2.2.2.2 _ (wk1_3 6 rfl rfl)) (S.2.2.2.2 _ (wk1_0 3 rfl rfl)) (S.2.2.2.2 _ (wk1_3 7 rfl rfl)) (Nat.le_of_ble_eq_true rfl) (Nat.le_of_ble_eq_true rfl) (Nat.le_of_ble_eq_true rfl) (Nat.le_of_ble_eq_true rfl) (oc_184 12 (aq_12 shX2_shortOf_0) uw_0_28) ?_
  exact W.iret (v := (if 0 < ((v0 - ((Fn 122) k0)) - (v0 / 10)) then ((v0 - ((Fn 122) k0)) - (v0 / 10)) else 0)) hx hb hr (fun t ht hW => ⟨(if 0 < ((v0 - ((Fn 122) k0)) - (v0 / 10)) then ((v0 - ((Fn 122) k0)) - (v0 / 10)) else 0), rfl, trivial, ht⟩) (fun _ h => absurd h List.not_mem_nil) (oc_172 15 (aq_15 shX2_shortOf_0))
set_option maxRecDepth 100000 in
set_option maxHeartbeats 4000000 in
theorem q_XfeastedFill (l : Launch) (D : va_G) (cI cB cZ : ClassId) (zz qq vv : Nat) (bt : Nat → Int32) (g : Nat → Nat) (ad : Nat → Nat → Nat) (cn : Nat → Nat) (In : Nat → Int32) (Fn : Nat → Nat → Int32) (k0 j0 a0 b0 : Nat) (hB : CBX cn) (hk : k0 < cn 11) (hj : j0 < cn 10) (ea : Fn 126 k0 = nI a0) (eb : Fn 121 k0 = nI b0) (ha : a0 ≤ 399) (hb0 : b0 ≤ 399) : Met l yX11_feastedFill (CWS yX11_feastedFill cX11_feastedFill 5 (some .int)) (RM 1 0 0) (PBrx [.ref (g 0), .ref (ad 11 k0), .ref (ad 10 j0)] D cI cB cZ zz qq vv bt (wX cI (D.1 99) zz g ad cn In Fn)) (vp_Si (fun _ => True)) 0 0 (fun _ => False) := by
  refine en_rx rfl pn_RX11 (Nat.le_of_ble_eq_true rfl) (fun p e s m below meth c hx hb hml hown S hr hlocks hnm hP hK hXS hS ls hl => ?_)
  have hl : lv_has ls 5 [(0, .ref (g 0)), (1, .ref (ad 11 k0)), (2, .ref (ad 10 j0))] := hl
  have hb_cn : Hid (CBX cn) := hB
  replace hB : CBXh cn := hB
  refine lv_iconst (v := 0) hx hb (oc_3 0 shX11_feastedFill_0) kic_0 ?_
  refine lv_istore_n (lv' := [(3, .int 0), (0, .ref (g 0)), (1, .ref (ad 11 k0)), (2, .ref (ad 10 j0))]) hx hb (oc_62 1 (aq_1 shX11_feastedFill_0)) rfl hl (ltb rfl) rfl (fun ls hl => ?_)
  refine lv_aload_n hx hb (oc_43 2 (aq_2 shX11_feastedFill_0)) rfl (lvA2 hl) ?_
  refine gf_RX11_128 S hK hP _ (xf_1 hk) (v := .int ((Fn 126) k0)) rfl (oc_180 3 (aq_3 shX11_feastedFill_0) uw_0_128) ?_
  refine lv_topi (fun y_1 ey_1 => ?_)
  obtain rfl : y_1 = (nI a0) := ey_1.trans ea
  refine lv_iconst (v := 1) hx hb (oc_4 6 (aq_6 shX11_feastedFill_0)) kic_1 ?_
  refine lv_iadd hx hb (oc_96 7 (aq_7 shX11_feastedFill_0)) ?_
  refine lv_topi (fun y_2 ey_2 => ?_)
  obtain rfl : y_2 = (nI (a0 + 1)) := ey_2.trans (nI_add a0 1)
  refine lv_istore (lv' := [(4, .int (nI (a0 + 1))), (3, .int 0), (0, .ref (g 0)), (1, .ref (ad 11 k0)), (2, .ref (ad 10 j0))]) hx hb (oc_54 8 (aq_8 shX11_feastedFill_0) ub_4) hl (ltb rfl) rfl (fun ls hl => ?_)
  have lp_10 : ∀ (n : Nat) (i10 : Nat) (x10_3 : Int32) , b0 + 1 - i10 < n → ((i10 ≤ 500)) → ∀ ls : Array Slot, lv_has ls 5 [(4, .int (nI i10)), (3, .int x10_3), (0, .ref (g 0)), (1, .ref (ad 11 k0)), (2, .ref (ad 10 j0))] → W p l e (RM 1 0 0) s m ([.ref (g 0), .ref (ad 11 k0), .ref (ad 10 j0)]).toArray below meth c s.heap [] 0 0 (MQ below (vp_Si (fun _ => True)) ([.ref (g 0), .ref (ad 11 k0), .ref (ad 10 j0)]).toArray s 0 0 (fun _ => False)) (F0 m 10 ls []) := by
    intro n10
    induction n10 with
    | zero => intros; (first | omega | (have zz0 := Hid.u hb_cn; omega))
    | succ n10 ih10 =>
      intro i10 x10_3 hmu10 hinv10 ls hl
      have hr10 := hinv10
      have ti10 : (nI i10).toInt = (i10 : Int) := nI_toInt (by (first | omega | (have zz0 := Hid.u hb_cn; omega)))
      refine lv_iload hx hb (oc_21 10 (aq_10 shX11_feastedFill_0) ub_4) (lvA0 hl) ?_
      refine lv_aload_n hx hb (oc_43 12 (aq_12 shX11_feastedFill_0)) rfl (lvA3 hl) ?_
      refine gf_RX11_196 S hK hP _ (xf_1 hk) (v := .int ((Fn 121) k0)) rfl (oc_180 13 (aq_13 shX11_feastedFill_0) uw_0_196) ?_
      refine lv_topi (fun y_3 ey_3 => ?_)
      obtain rfl : y_3 = (nI b0) := ey_3.trans eb
      have : (nI b0).toInt = ((b0 : Nat) : Int) := nI_toInt (by (first | omega | (have zz0 := Hid.u hb_cn; omega)))
      refine lv_icmp_gt (tgt := 51) hx hb (oc_163 16 (aq_16 shX11_feastedFill_0) sgw_0_35) rfl (fun c_4 => ?_) (fun c_4 => ?_)
      ·
        have tc_4 : ((nI b0).toInt : Int) < (nI i10).toInt := Int32.lt_iff_toInt_lt.mp c_4
        refine lv_iload_n hx hb (oc_29 51 (aq_3 shX11_feastedFill_48)) rfl (lvA1 hl) ?_
        refine lv_aload_n hx hb (oc_44 52 (aq_4 shX11_feastedFill_48)) rfl (lvA4 hl) ?_
        refine gf_RX11_495 S hK hP _ (xf_0 hj) (v := .int ((Fn 103) j0)) rfl (oc_180 53 (aq_5 shX11_feastedFill_48) uw_1_239) ?_
        refine va_mmin hx hb (by rw [hml]; exact hl.1.symm) hown (S.2.2.2.2 _ (wk4_3 7 rfl rfl)) (S.2.2.2.2 _ (wk2_13 10 rfl rfl)) (S.2.2.2.2 _ (wk1_0 3 rfl rfl)) (S.2.2.2.2 _ (wk2_13 11 rfl rfl)) (Nat.le_of_ble_eq_true rfl) (Nat.le_of_ble_eq_true rfl) (Nat.le_of_ble_eq_true rfl) (Nat.le_of_ble_eq_true rfl) (oc_184 56 (aq_8 shX11_feastedFill_48) uw_0_227) ?_
        exact W.iret (v := (if ((Fn 103) j0) < x10_3 then ((Fn 103) j0) else x10_3)) hx hb hr (fun t ht hW => ⟨(if ((Fn 103) j0) < x10_3 then ((Fn 103) j0) else x10_3), rfl, trivial, ht⟩) (fun _ h => absurd h List.not_mem_nil) (oc_172 59 (aq_11 shX11_feastedFill_48))
      ·
        have tc_4 : ((nI i10).toInt : Int) ≤ (nI b0).toInt := Int32.le_iff_toInt_le.mp (Int32.not_lt.mp c_4)
        refine lv_iload_n hx hb (oc_29 19 (aq_19 shX11_feastedFill_0)) rfl (lvA1 hl) ?_
        refine lv_aload_n hx hb (oc_44 20 (aq_20 shX11_feastedFill_0)) rfl (lvA4 hl) ?_
        refine gf_RX11_459 S hK hP _ (xf_0 hj) (v := .int ((Fn 102) j0)) rfl (oc_180 21 (aq_21 shX11_feastedFill_0) uw_1_203) ?_
        refine lv_bipush (v := 100) hx hb (oc_16 24 shX11_feastedFill_24 sgb_100) kbc_100 ?_
        refine lv_aload_n hx hb (oc_42 26 (aq_2 shX11_feastedFill_24)) rfl (lvA2 hl) ?_
        refine gf_RX11_47 S hK hP 0 xo_0 (v := .ref (g 8)) rfl (oc_180 27 (aq_3 shX11_feastedFill_24) uw_0_47) ?_
        refine gf_RX11_492 S hK hP 6 xo_6 (v := .ref (g 23)) rfl (oc_180 30 (aq_6 shX11_feastedFill_24) uw_1_236) ?_
        refine lv_iload hx hb (oc_21 33 (aq_9 shX11_feastedFill_24) ub_4) (lvA0 hl) ?_
        refine vp_callSi (runS_r (As := [.ref (g 23), .int (nI i10)]) (rest := [.int 100, .int ((Fn 102) j0), .int x10_3]) S (q_l_at l D cI cB cZ (g 23) 400 (Fn 23) (nI i10) (by (first | omega | (have zz0 := Hid.u hb_cn; omega)))) kS_RX11_192 hK hP [10] (one_is xo_10) ⟨Nat.le_of_ble_eq_true rfl, Nat.le_of_ble_eq_true rfl⟩ ⟨Nat.le_of_ble_eq_true rfl, Nat.le_of_ble_eq_true rfl⟩ rfl hl.1 rfl (Nat.le_of_ble_eq_true rfl) (oc_184 35 (aq_11 shX11_feastedFill_24) uw_0_192)) (fun r_5 h_6 => ?_)
        subst h_6
        refine lv_iadd hx hb (oc_96 38 (aq_14 shX11_feastedFill_24)) ?_
        refine lv_imul hx hb (oc_104 39 (aq_15 shX11_feastedFill_24)) ?_
        refine lv_bipush (v := 100) hx hb (oc_16 40 (aq_16 shX11_feastedFill_24) sgb_100) kbc_100 ?_
        refine lv_idiv hx hb (oc_108 42 (aq_18 shX11_feastedFill_24)) (by decide) ?_
        refine lv_iadd hx hb (oc_96 43 (aq_19 shX11_feastedFill_24)) ?_
        refine lv_istore_n (lv' := [(3, .int (x10_3 + ((((Fn 102) j0) * (100 + (atM (Fn 23) 400 (nI i10)))) / 100))), (4, .int (nI i10)), (0, .ref (g 0)), (1, .ref (ad 11 k0)), (2, .ref (ad 10 j0))]) hx hb (oc_62 44 (aq_20 shX11_feastedFill_24)) rfl hl (ltb rfl) rfl (fun ls hl => ?_)
        refine lv_iinc (v := (nI (i10 + 1))) (lv' := [(4, .int (nI (i10 + 1))), (3, .int (x10_3 + ((((Fn 102) j0) * (100 + (atM (Fn 23) 400 (nI i10)))) / 100))), (0, .ref (g 0)), (1, .ref (ad 11 k0)), (2, .ref (ad 10 j0))]) hx hb (oc_132 45 (aq_21 shX11_feastedFill_24) ub_4 sgb_1) hl (k := 1) rfl (nI_1 _) (ltb rfl) rfl (fun ls hl => ?_)
        refine lv_goto (tgt := 10) hx hb (oc_167 48 shX11_feastedFill_48 sgw_255_218) rfl ?_
        exact ih10 (i10 + 1) (x10_3 + ((((Fn 102) j0) * (100 + (atM (Fn 23) 400 (nI i10)))) / 100)) (by (first | omega | (have zz0 := Hid.u hb_cn; omega))) (by (first | omega | (have zz0 := Hid.u hb_cn; omega))) ls (lv_sub hl [0, 1, 2, 3, 4] rfl)
  exact lp_10 _ (a0 + 1) 0 (Nat.lt_succ_self _) (by (first | omega | (have zz0 := Hid.u hb_cn; omega))) ls (lv_sub hl [0, 1, 2, 3, 4] rfl)
set_option maxRecDepth 100000 in
set_option maxHeartbeats 4000000 in
theorem q_Xfeasted (l : Launch) (D : va_G) (cI cB cZ : ClassId) (zz qq vv : Nat) (bt : Nat → Int32) (g : Nat → Nat) (ad : Nat → Nat → Nat) (cn : Nat → Nat) (In : Nat → Int32) (Fn : Nat → Nat → Int32) (v0 v1 : Int32) (hB : CBX cn) (hF : ∀ k : Nat, k < cn 11 → ∃ a b : Nat, a ≤ 399 ∧ b ≤ 399 ∧ Fn 126 k = nI a ∧ Fn 121 k = nI b) : Met l yX11_feasted (CWS yX11_feasted cX11_feasted 6 (some .int)) (RM 4 0 0) (PBrx [.ref (g 0), .int v0, .int v1] D cI cB cZ zz qq vv bt (wX cI (D.1 99) zz g ad cn In Fn)) (vp_Si (fun _ => True)) 0 0 (fun _ => False) := by
  refine en_rx rfl pn_RX11 (Nat.le_of_ble_eq_true rfl) (fun p e s m below meth c hx hb hml hown S hr hlocks hnm hP hK hXS hS ls hl => ?_)
  have hl : lv_has ls 6 [(0, .ref (g 0)), (1, .int v0), (2, .int v1)] := hl
  have hb_cn : Hid (CBX cn) := hB
  replace hB : CBXh cn := hB
  refine lv_aload_n hx hb (oc_42 0 shX11_feasted_0) rfl (lvA0 hl) ?_
  refine lv_iload_n hx hb (oc_27 1 (aq_1 shX11_feasted_0)) rfl (lvA1 hl) ?_
  refine va_csq (runV_rxa (As := [.int v0]) (rest := []) S (q_XloadAt l D cI cB cZ zz qq vv bt g ad cn In Fn v0 hB) kV_RX11_148 hK hXS hS hP 0 xo_0 rfl rfl ⟨Nat.le_of_ble_eq_true rfl, Nat.le_of_ble_eq_true rfl⟩ ⟨Nat.le_of_ble_eq_true rfl, Nat.le_of_ble_eq_true rfl⟩ rfl hl.1 rfl (Nat.le_of_ble_eq_true rfl) (oc_182 2 (aq_2 shX11_feasted_0) uw_0_148)) (fun r_1 h_2 => ?_)
  rcases h_2 with ⟨mr_1, er_1, hr_1, rfl⟩ | ⟨hr_1, rfl⟩
  ·
    refine lv_astore_n (lv' := [(3, .ref (ad 11 mr_1)), (0, .ref (g 0)), (1, .int v0), (2, .int v1)]) hx hb (oc_78 5 (aq_5 shX11_feasted_0)) rfl hl (ltb rfl) rfl (fun ls hl => ?_)
    refine lv_aload_n hx hb (oc_45 6 (aq_6 shX11_feasted_0)) rfl (lvA0 hl) ?_
    refine lv_ifnonnull (tgt := 14) hx hb (oc_199 7 (aq_7 shX11_feasted_0) sgw_0_7) rfl ?_
    refine lv_aload_n hx hb (oc_42 14 (aq_14 shX11_feasted_0)) rfl (lvA1 hl) ?_
    refine lv_aload_n hx hb (oc_45 15 (aq_15 shX11_feasted_0)) rfl (lvA0 hl) ?_
    have kf_1 : mr_1 < cn 11 := by (first | omega | (have zz0 := Hid.u hb_cn; omega))
    refine gf_RX11_211 S hK hP _ (xf_1 kf_1) (v := .int ((Fn 120) mr_1)) rfl (oc_180 16 (aq_16 shX11_feasted_0) uw_0_211) ?_
    refine va_csq (runV_rxa (As := [.int ((Fn 120) mr_1)]) (rest := []) S (q_XkitchenAt l D cI cB cZ zz qq vv bt g ad cn In Fn ((Fn 120) mr_1) hB) kV_RX11_114 hK hXS hS hP 0 xo_0 rfl rfl ⟨Nat.le_of_ble_eq_true rfl, Nat.le_of_ble_eq_true rfl⟩ ⟨Nat.le_of_ble_eq_true rfl, Nat.le_of_ble_eq_true rfl⟩ rfl hl.1 rfl (Nat.le_of_ble_eq_true rfl) (oc_182 19 (aq_19 shX11_feasted_0) uw_0_114)) (fun r_3 h_4 => ?_)
    rcases h_4 with ⟨mr_3, er_3, hr_3, rfl⟩ | ⟨hr_3, rfl⟩
    ·
      refine lv_astore (lv' := [(4, .ref (ad 10 mr_3)), (3, .ref (ad 11 mr_1)), (0, .ref (g 0)), (1, .int v0), (2, .int v1)]) hx hb (oc_58 22 (aq_22 shX11_feasted_0) ub_4) hl (ltb rfl) rfl (fun ls hl => ?_)
      refine lv_aload_n hx hb (oc_45 24 shX11_feasted_24) rfl (lvA1 hl) ?_
      refine lv_ifnull hx hb (oc_198 25 (aq_1 shX11_feasted_24) sgw_0_17) ?_
      refine lv_aload hx hb (oc_25 28 (aq_4 shX11_feasted_24) ub_4) (lvA0 hl) ?_
      refine lv_ifnull hx hb (oc_198 30 (aq_6 shX11_feasted_24) sgw_0_12) ?_
      refine lv_iload_n hx hb (oc_28 33 (aq_9 shX11_feasted_24)) rfl (lvA4 hl) ?_
      refine lv_iconst (v := 0) hx hb (oc_3 34 (aq_10 shX11_feasted_24)) kic_0 ?_
      refine lv_iconst (v := 1) hx hb (oc_4 35 (aq_11 shX11_feasted_24)) kic_1 ?_
      refine vp_callSi (runS_r (As := [.int v1, .int 0, .int 1]) (rest := []) S (q_l_within l D cI cB cZ v1 0 1) kS_RX11_80 hK hP [] rfl ⟨Nat.le_of_ble_eq_true rfl, Nat.le_of_ble_eq_true rfl⟩ ⟨Nat.le_of_ble_eq_true rfl, Nat.le_of_ble_eq_true rfl⟩ rfl hl.1 rfl (Nat.le_of_ble_eq_true rfl) (oc_184 36 (aq_12 shX11_feasted_24) uw_0_80)) (fun r_5 h_6 => ?_)
      rcases h_6 with ⟨rfl, h_6⟩ | ⟨rfl, h_6⟩
      ·
        have h_6 : 0 ≤ v1.toInt ∧ v1.toInt ≤ 1 := h_6
        refine lv_if_ne (tgt := 44) hx hb (oc_154 39 (aq_15 shX11_feasted_24) sgw_0_5) rfl (fun _ => ?_) (fun h => absurd h cq_eq_1_0)
        obtain ⟨a9, b9, ha9, hb9, ea9, eb9⟩ := hF mr_1 (by (first | omega | (have zz0 := Hid.u hb_cn; omega)))
        refine lv_aload_n hx hb (oc_42 44 (aq_20 shX11_feasted_24)) rfl (lvA2 hl) ?_
        refine lv_aload_n hx hb (oc_45 45 (aq_21 shX11_feasted_24)) rfl (lvA1 hl) ?_
        refine lv_aload hx hb (oc_25 46 (aq_22 shX11_feasted_24) ub_4) (lvA0 hl) ?_
        refine vp_callSi (runV_rxa (As := [.ref (ad 11 mr_1), .ref (ad 10 mr_3)]) (rest := []) S (q_XfeastedFill l D cI cB cZ zz qq vv bt g ad cn In Fn mr_1 mr_3 a9 b9 hB (by (first | omega | (have zz0 := Hid.u hb_cn; omega))) (by (first | omega | (have zz0 := Hid.u hb_cn; omega))) ea9 eb9 ha9 hb9) kV_RX11_498 hK hXS hS hP 0 xo_0 rfl rfl ⟨Nat.le_of_ble_eq_true rfl, Nat.le_of_ble_eq_true rfl⟩ ⟨Nat.le_of_ble_eq_true rfl, Nat.le_of_ble_eq_true rfl⟩ rfl hl.1 rfl (Nat.le_of_ble_eq_true rfl) (oc_182 48 shX11_feasted_48 uw_1_242)) (fun r_7 h_8 => ?_)
        refine lv_istore (lv' := [(5, .int r_7), (4, .ref (ad 10 mr_3)), (3, .ref (ad 11 mr_1)), (0, .ref (g 0)), (1, .int v0), (2, .int v1)]) hx hb (oc_54 51 (aq_3 shX11_feasted_48) ub_5) hl (ltb rfl) rfl (fun ls hl => ?_)
        refine lv_iload_n hx hb (oc_28 53 (aq_5 shX11_feasted_48)) rfl (lvA5 hl) ?_
        refine lv_if_ne (tgt := 62) hx hb (oc_154 54 (aq_6 shX11_feasted_48) sgw_0_8) rfl (fun c_9 => ?_) (fun c_9 => ?_)
        ·
          have tc_9 : (v1.toInt : Int) ≠ 0 := fun q => c_9 (Int32.toInt_inj.mp q)
          refine lv_aload_n hx hb (oc_45 62 (aq_14 shX11_feasted_48)) rfl (lvA2 hl) ?_
          refine lv_iload hx hb (oc_21 63 (aq_15 shX11_feasted_48) ub_5) (lvA0 hl) ?_
          refine vp_callSi (runV_rxa (As := [.int r_7]) (rest := []) S (q_XshortOf l D cI cB cZ zz qq vv bt g ad cn In Fn mr_1 r_7 hB (by (first | omega | (have zz0 := Hid.u hb_cn; omega)))) kV_RX11_137 hK hXS hS hP _ (xf_1 kf_1) rfl rfl ⟨Nat.le_of_ble_eq_true rfl, Nat.le_of_ble_eq_true rfl⟩ ⟨Nat.le_of_ble_eq_true rfl, Nat.le_of_ble_eq_true rfl⟩ rfl hl.1 rfl (Nat.le_of_ble_eq_true rfl) (oc_182 65 (aq_17 shX11_feasted_48) uw_0_137)) (fun r_10 h_11 => ?_)
          exact W.iret (v := r_10) hx hb hr (fun t ht hW => ⟨r_10, rfl, trivial, ht⟩) (fun _ h => absurd h List.not_mem_nil) (oc_172 68 (aq_20 shX11_feasted_48))
        ·
          have tc_9 : (v1.toInt : Int) = 0 := congrArg Int32.toInt c_9
          refine lv_iload hx hb (oc_21 57 (aq_9 shX11_feasted_48) ub_5) (lvA0 hl) ?_
          refine lv_goto (tgt := 68) hx hb (oc_167 59 (aq_11 shX11_feasted_48) sgw_0_9) rfl ?_
          exact W.iret (v := r_7) hx hb hr (fun t ht hW => ⟨r_7, rfl, trivial, ht⟩) (fun _ h => absurd h List.not_mem_nil) (oc_172 68 (aq_20 shX11_feasted_48))
      ·
        have h_6 : ¬ (0 ≤ v1.toInt ∧ v1.toInt ≤ 1) := h_6
        refine lv_if_ne (tgt := 44) hx hb (oc_154 39 (aq_15 shX11_feasted_24) sgw_0_5) rfl (fun h => absurd h cq_eq_0_0) (fun _ => ?_)
        refine lv_iconst (v := (-1)) hx hb (oc_2 42 (aq_18 shX11_feasted_24)) kic_m1 ?_
        exact W.iret (v := (-1)) hx hb hr (fun t ht hW => ⟨(-1), rfl, trivial, ht⟩) (fun _ h => absurd h List.not_mem_nil) (oc_172 43 (aq_19 shX11_feasted_24))
    ·
      refine lv_astoreN (lv' := [(4, .null), (3, .ref (ad 11 mr_1)), (0, .ref (g 0)), (1, .int v0), (2, .int v1)]) hx hb (oc_58 22 (aq_22 shX11_feasted_0) ub_4) hl (ltb rfl) rfl (fun ls hl => ?_)
      refine lv_aload_n hx hb (oc_45 24 shX11_feasted_24) rfl (lvA1 hl) ?_
      refine lv_ifnull hx hb (oc_198 25 (aq_1 shX11_feasted_24) sgw_0_17) ?_
      refine lv_aloadN hx hb (oc_25 28 (aq_4 shX11_feasted_24) ub_4) (lvA0 hl) ?_
      refine lv_ifnullN (tgt := 42) hx hb (oc_198 30 (aq_6 shX11_feasted_24) sgw_0_12) rfl ?_
      refine lv_iconst (v := (-1)) hx hb (oc_2 42 (aq_18 shX11_feasted_24)) kic_m1 ?_
      exact W.iret (v := (-1)) hx hb hr (fun t ht hW => ⟨(-1), rfl, trivial, ht⟩) (fun _ h => absurd h List.not_mem_nil) (oc_172 43 (aq_19 shX11_feasted_24))
  ·
    refine lv_astore_nN (lv' := [(3, .null), (0, .ref (g 0)), (1, .int v0), (2, .int v1)]) hx hb (oc_78 5 (aq_5 shX11_feasted_0)) rfl hl (ltb rfl) rfl (fun ls hl => ?_)
    refine lv_aload_nN hx hb (oc_45 6 (aq_6 shX11_feasted_0)) rfl (lvA0 hl) ?_
    refine lv_ifnonnullN hx hb (oc_199 7 (aq_7 shX11_feasted_0) sgw_0_7) ?_
    refine lv_null hx hb (oc_1 10 (aq_10 shX11_feasted_0)) ?_
    refine lv_goto (tgt := 22) hx hb (oc_167 11 (aq_11 shX11_feasted_0) sgw_0_11) rfl ?_
    refine lv_astoreN (lv' := [(4, .null), (3, .null), (0, .ref (g 0)), (1, .int v0), (2, .int v1)]) hx hb (oc_58 22 (aq_22 shX11_feasted_0) ub_4) hl (ltb rfl) rfl (fun ls hl => ?_)
    refine lv_aload_nN hx hb (oc_45 24 shX11_feasted_24) rfl (lvA1 hl) ?_
    refine lv_ifnullN (tgt := 42) hx hb (oc_198 25 (aq_1 shX11_feasted_24) sgw_0_17) rfl ?_
    refine lv_iconst (v := (-1)) hx hb (oc_2 42 (aq_18 shX11_feasted_24)) kic_m1 ?_
    exact W.iret (v := (-1)) hx hb hr (fun t ht hW => ⟨(-1), rfl, trivial, ht⟩) (fun _ h => absurd h List.not_mem_nil) (oc_172 43 (aq_19 shX11_feasted_24))
set_option maxRecDepth 100000 in
set_option maxHeartbeats 4000000 in
theorem q_XmoveBy (l : Launch) (D : va_G) (cI cB cZ : ClassId) (zz qq vv : Nat) (bt : Nat → Int32) (g : Nat → Nat) (ad : Nat → Nat → Nat) (cn : Nat → Nat) (In : Nat → Int32) (Fn : Nat → Nat → Int32) (v0 v1 : Int32) (hB : CBX cn) : Met l yX11_moveBy (CWS yX11_moveBy cX11_moveBy 6 (some (.object "OilHome$Move"))) (RM 3 0 0) (PBrx [.ref (g 0), .int v0, .int v1] D cI cB cZ zz qq vv bt (wX cI (D.1 99) zz g ad cn In Fn)) (va_Sq (fun r => (∃ m : Nat, (0 : Int) = 0 ∧ m < cn 15 ∧ r = some (ad 15 m)) ∨ (True ∧ r = none))) 0 0 (fun _ => False) := by
  refine en_rx rfl pn_RX11 (Nat.le_of_ble_eq_true rfl) (fun p e s m below meth c hx hb hml hown S hr hlocks hnm hP hK hXS hS ls hl => ?_)
  have hl : lv_has ls 6 [(0, .ref (g 0)), (1, .int v0), (2, .int v1)] := hl
  have hb_cn : Hid (CBX cn) := hB
  replace hB : CBXh cn := hB
  refine lv_null hx hb (oc_1 0 shX11_moveBy_0) ?_
  refine lv_astore_nN (lv' := [(3, .null), (0, .ref (g 0)), (1, .int v0), (2, .int v1)]) hx hb (oc_78 1 (aq_1 shX11_moveBy_0)) rfl hl (ltb rfl) rfl (fun ls hl => ?_)
  refine lv_iconst (v := 0) hx hb (oc_3 2 (aq_2 shX11_moveBy_0)) kic_0 ?_
  refine lv_istore (lv' := [(4, .int 0), (3, .null), (0, .ref (g 0)), (1, .int v0), (2, .int v1)]) hx hb (oc_54 3 (aq_3 shX11_moveBy_0) ub_4) hl (ltb rfl) rfl (fun ls hl => ?_)
  have lp_5 : ∀ (n : Nat) (i5 : Nat) (x5_3 : Option Nat) , cn 15 - i5 < n → (i5 ≤ cn 15 ∧ (x5_3 = none ∨ ∃ m : Nat, m < cn 15 ∧ x5_3 = some (ad 15 m))) → ∀ ls : Array Slot, lv_has ls 6 [(4, .int (nI i5)), (3, (va_rf x5_3)), (0, .ref (g 0)), (1, .int v0), (2, .int v1)] → W p l e (RM 3 0 0) s m ([.ref (g 0), .int v0, .int v1]).toArray below meth c s.heap [] 0 0 (MQ below (va_Sq (fun r => (∃ m : Nat, (0 : Int) = 0 ∧ m < cn 15 ∧ r = some (ad 15 m)) ∨ (True ∧ r = none))) ([.ref (g 0), .int v0, .int v1]).toArray s 0 0 (fun _ => False)) (F0 m 5 ls []) := by
    intro n5
    induction n5 with
    | zero => intros; (first | omega | (have zz0 := Hid.u hb_cn; omega))
    | succ n5 ih5 =>
      intro i5 x5_3 hmu5 hinv5 ls hl
      obtain ⟨hr5, hx5_0⟩ := hinv5
      have ti5 : (nI i5).toInt = (i5 : Int) := nI_toInt (by (first | omega | (have zz0 := Hid.u hb_cn; omega)))
      refine lv_iload hx hb (oc_21 5 (aq_5 shX11_moveBy_0) ub_4) (lvA0 hl) ?_
      refine lv_aload_n hx hb (oc_42 7 (aq_7 shX11_moveBy_0)) rfl (lvA2 hl) ?_
      refine gf_RX11_77 S hK hP 0 xo_0 (v := .ref (g 15)) rfl (oc_180 8 (aq_8 shX11_moveBy_0) uw_0_77) ?_
      refine vp_callSi (runV_r (As := []) (rest := [.int (nI i5)]) S (q_l_size l D cI cB cZ (g 15) (if (cn 15) = 0 then zz else ad 2 5) (In 15) (nI (cn 15))) kV_RX11_84 hK hP [29] (one_is xo_29) 29 xo_29 rfl rfl ⟨Nat.le_of_ble_eq_true rfl, Nat.le_of_ble_eq_true rfl⟩ ⟨Nat.le_of_ble_eq_true rfl, Nat.le_of_ble_eq_true rfl⟩ rfl hl.1 rfl (Nat.le_of_ble_eq_true rfl) (oc_182 11 (aq_11 shX11_moveBy_0) uw_0_84)) (fun r_1 h_2 => ?_)
      subst h_2
      have : (nI (cn 15)).toInt = (((cn 15) : Nat) : Int) := nI_toInt (by (first | omega | (have zz0 := Hid.u hb_cn; omega)))
      refine lv_icmp_ge (tgt := 58) hx hb (oc_162 14 (aq_14 shX11_moveBy_0) sgw_0_44) rfl (fun c_3 => ?_) (fun c_3 => ?_)
      ·
        have tc_3 : ((nI (cn 15)).toInt : Int) ≤ (nI i5).toInt := Int32.le_iff_toInt_le.mp c_3
        rcases hx5_0 with rfl | ⟨m9, h9, rfl⟩
        ·
          have hl : lv_has ls 6 [(4, .int (nI i5)), (3, .null), (0, .ref (g 0)), (1, .int v0), (2, .int v1)] := hl
          refine lv_aload_nN hx hb (oc_45 58 (aq_7 shX11_moveBy_51)) rfl (lvA1 hl) ?_
          exact W.aret (v := .null) hx hb hr (Or.inl ⟨_, rfl⟩) (Or.inl rfl) (fun t ht hW => ⟨none, rfl, (Or.inr ⟨trivial, rfl⟩), ht⟩) (fun _ h => absurd h List.not_mem_nil) (oc_176 59 (aq_8 shX11_moveBy_51))
        ·
          have hl : lv_has ls 6 [(4, .int (nI i5)), (3, .ref (ad 15 m9)), (0, .ref (g 0)), (1, .int v0), (2, .int v1)] := hl
          refine lv_aload_n hx hb (oc_45 58 (aq_7 shX11_moveBy_51)) rfl (lvA1 hl) ?_
          exact W.aret (v := .ref (ad 15 m9)) hx hb hr (Or.inl ⟨_, rfl⟩) (Or.inr ⟨_, rfl⟩) (fun t ht hW => ⟨some (ad 15 m9), rfl, (Or.inl ⟨m9, rfl, h9, rfl⟩), ht⟩) (fun _ h => absurd h List.not_mem_nil) (oc_176 59 (aq_8 shX11_moveBy_51))
      ·
        have tc_3 : ((nI i5).toInt : Int) < (nI (cn 15)).toInt := Int32.lt_iff_toInt_lt.mp (Int32.not_le.mp c_3)
        refine lv_aload_n hx hb (oc_42 17 (aq_17 shX11_moveBy_0)) rfl (lvA2 hl) ?_
        refine gf_RX11_77 S hK hP 0 xo_0 (v := .ref (g 15)) rfl (oc_180 18 (aq_18 shX11_moveBy_0) uw_0_77) ?_
        refine lv_iload hx hb (oc_21 21 (aq_21 shX11_moveBy_0) ub_4) (lvA0 hl) ?_
        refine va_csq (runV_rx (As := [.int (nI i5)]) (rest := []) S (q_l_get l D cI cB cZ zz qq vv bt (g 15) (ad 2 5) (cn 25) (cn 15) i5 (ad 15 i5) (In 15) (fun i => if i < (cn 15) then some (ad 15 i) else none) (by (first | omega | (have zz0 := Hid.u hb_cn; omega))) (if_pos (by (first | omega | (have zz0 := Hid.u hb_cn; omega)))) (by (first | omega | (have zz0 := Hid.u hb_cn; omega))) (by (first | omega | (have zz0 := Hid.u hb_cn; omega)))) kV_RX11_87 hK hXS hS hP _ (two_is (xl_5 (by (first | omega | (have zz0 := Hid.u hb_cn; omega)))) (xf_18 (k := 0) (by (first | omega | (have zz0 := Hid.u hb_cn; omega))))) (va_recv hK.1 hP (ci := 0) rfl xo_29) ⟨Nat.le_of_ble_eq_true rfl, Nat.le_of_ble_eq_true rfl⟩ ⟨Nat.le_of_ble_eq_true rfl, Nat.le_of_ble_eq_true rfl⟩ rfl hl.1 rfl (Nat.le_of_ble_eq_true rfl) (oc_182 23 (aq_23 shX11_moveBy_0) uw_0_87)) (fun r_4 h_5 => ?_)
        subst h_5
        have kf_1 : i5 < cn 15 := by (first | omega | (have zz0 := Hid.u hb_cn; omega))
        refine va_castS hx hb hown (S.2.2.2.2 _ (wk6_3 3 rfl rfl)) (xclass hK.1 (ci := 4) rfl) (va_recv hK.1 hP (ci := 4) rfl (xf_5 kf_1)) (oc_192 26 shX11_moveBy_26 uw_1_249) ?_
        refine lv_astore (lv' := [(5, .ref (ad 15 i5)), (4, .int (nI i5)), (3, (va_rf x5_3)), (0, .ref (g 0)), (1, .int v0), (2, .int v1)]) hx hb (oc_58 29 (aq_3 shX11_moveBy_26) ub_5) hl (ltb rfl) rfl (fun ls hl => ?_)
        refine lv_aload hx hb (oc_25 31 (aq_5 shX11_moveBy_26) ub_5) (lvA0 hl) ?_
        refine gf_RX11_507 S hK hP _ (xf_5 kf_1) (v := .int ((Fn 180) i5)) rfl (oc_180 33 (aq_7 shX11_moveBy_26) uw_1_251) ?_
        refine lv_iload_n hx hb (oc_27 36 (aq_10 shX11_moveBy_26)) rfl (lvA4 hl) ?_
        refine lv_icmp_ne (tgt := 52) hx hb (oc_160 37 (aq_11 shX11_moveBy_26) sgw_0_15) rfl (fun c_6 => ?_) (fun c_6 => ?_)
        ·
          have tc_6 : (((Fn 180) i5).toInt : Int) ≠ v0.toInt := fun q => c_6 (Int32.toInt_inj.mp q)
          rcases hx5_0 with rfl | ⟨m9, h9, rfl⟩
          ·
            have hl : lv_has ls 6 [(5, .ref (ad 15 i5)), (4, .int (nI i5)), (3, .null), (0, .ref (g 0)), (1, .int v0), (2, .int v1)] := hl
            refine lv_iinc (v := (nI (i5 + 1))) (lv' := [(4, .int (nI (i5 + 1))), (5, .ref (ad 15 i5)), (3, .null), (0, .ref (g 0)), (1, .int v0), (2, .int v1)]) hx hb dX11_moveBy_52 hl (k := 1) rfl (nI_1 _) (ltb rfl) rfl (fun ls hl => ?_)
            refine lv_goto (tgt := 5) hx hb dX11_moveBy_55 rfl ?_
            exact ih5 (i5 + 1) none (by (first | omega | (have zz0 := Hid.u hb_cn; omega))) ⟨(by (first | omega | (have zz0 := Hid.u hb_cn; omega))), (Or.inl rfl)⟩ ls (lv_sub hl [0, 2, 3, 4, 5] rfl)
          ·
            have hl : lv_has ls 6 [(5, .ref (ad 15 i5)), (4, .int (nI i5)), (3, .ref (ad 15 m9)), (0, .ref (g 0)), (1, .int v0), (2, .int v1)] := hl
            refine lv_iinc (v := (nI (i5 + 1))) (lv' := [(4, .int (nI (i5 + 1))), (5, .ref (ad 15 i5)), (3, .ref (ad 15 m9)), (0, .ref (g 0)), (1, .int v0), (2, .int v1)]) hx hb dX11_moveBy_52 hl (k := 1) rfl (nI_1 _) (ltb rfl) rfl (fun ls hl => ?_)
            refine lv_goto (tgt := 5) hx hb dX11_moveBy_55 rfl ?_
            exact ih5 (i5 + 1) (some (ad 15 m9)) (by (first | omega | (have zz0 := Hid.u hb_cn; omega))) ⟨(by (first | omega | (have zz0 := Hid.u hb_cn; omega))), (Or.inr ⟨m9, h9, rfl⟩)⟩ ls (lv_sub hl [0, 2, 3, 4, 5] rfl)
        ·
          have tc_6 : (((Fn 180) i5).toInt : Int) = v0.toInt := congrArg Int32.toInt c_6
          refine lv_aload hx hb (oc_25 40 (aq_14 shX11_moveBy_26) ub_5) (lvA0 hl) ?_
          refine gf_RX11_508 S hK hP _ (xf_5 kf_1) (v := .int ((Fn 182) i5)) rfl (oc_180 42 (aq_16 shX11_moveBy_26) uw_1_252) ?_
          refine lv_iload_n hx hb (oc_28 45 (aq_19 shX11_moveBy_26)) rfl (lvA5 hl) ?_
          refine lv_icmp_gt (tgt := 52) hx hb (oc_163 46 (aq_20 shX11_moveBy_26) sgw_0_6) rfl (fun c_7 => ?_) (fun c_7 => ?_)
          ·
            have tc_7 : (v1.toInt : Int) < ((Fn 182) i5).toInt := Int32.lt_iff_toInt_lt.mp c_7
            rcases hx5_0 with rfl | ⟨m9, h9, rfl⟩
            ·
              have hl : lv_has ls 6 [(5, .ref (ad 15 i5)), (4, .int (nI i5)), (3, .null), (0, .ref (g 0)), (1, .int v0), (2, .int v1)] := hl
              refine lv_iinc (v := (nI (i5 + 1))) (lv' := [(4, .int (nI (i5 + 1))), (5, .ref (ad 15 i5)), (3, .null), (0, .ref (g 0)), (1, .int v0), (2, .int v1)]) hx hb dX11_moveBy_52 hl (k := 1) rfl (nI_1 _) (ltb rfl) rfl (fun ls hl => ?_)
              refine lv_goto (tgt := 5) hx hb dX11_moveBy_55 rfl ?_
              exact ih5 (i5 + 1) none (by (first | omega | (have zz0 := Hid.u hb_cn; omega))) ⟨(by (first | omega | (have zz0 := Hid.u hb_cn; omega))), (Or.inl rfl)⟩ ls (lv_sub hl [0, 2, 3, 4, 5] rfl)
            ·
              have hl : lv_has ls 6 [(5, .ref (ad 15 i5)), (4, .int (nI i5)), (3, .ref (ad 15 m9)), (0, .ref (g 0)), (1, .int v0), (2, .int v1)] := hl
              refine lv_iinc (v := (nI (i5 + 1))) (lv' := [(4, .int (nI (i5 + 1))), (5, .ref (ad 15 i5)), (3, .ref (ad 15 m9)), (0, .ref (g 0)), (1, .int v0), (2, .int v1)]) hx hb dX11_moveBy_52 hl (k := 1) rfl (nI_1 _) (ltb rfl) rfl (fun ls hl => ?_)
              refine lv_goto (tgt := 5) hx hb dX11_moveBy_55 rfl ?_
              exact ih5 (i5 + 1) (some (ad 15 m9)) (by (first | omega | (have zz0 := Hid.u hb_cn; omega))) ⟨(by (first | omega | (have zz0 := Hid.u hb_cn; omega))), (Or.inr ⟨m9, h9, rfl⟩)⟩ ls (lv_sub hl [0, 2, 3, 4, 5] rfl)
          ·
            have tc_7 : (((Fn 182) i5).toInt : Int) ≤ v1.toInt := Int32.le_iff_toInt_le.mp (Int32.not_lt.mp c_7)
            refine lv_aload hx hb (oc_25 49 (aq_23 shX11_moveBy_26) ub_5) (lvA0 hl) ?_
            refine lv_astore_n (lv' := [(3, .ref (ad 15 i5)), (5, .ref (ad 15 i5)), (4, .int (nI i5)), (0, .ref (g 0)), (1, .int v0), (2, .int v1)]) hx hb (oc_78 51 shX11_moveBy_51) rfl hl (ltb rfl) rfl (fun ls hl => ?_)
            refine lv_iinc (v := (nI (i5 + 1))) (lv' := [(4, .int (nI (i5 + 1))), (3, .ref (ad 15 i5)), (5, .ref (ad 15 i5)), (0, .ref (g 0)), (1, .int v0), (2, .int v1)]) hx hb dX11_moveBy_52 hl (k := 2) rfl (nI_1 _) (ltb rfl) rfl (fun ls hl => ?_)
            refine lv_goto (tgt := 5) hx hb dX11_moveBy_55 rfl ?_
            exact ih5 (i5 + 1) (some (ad 15 i5)) (by (first | omega | (have zz0 := Hid.u hb_cn; omega))) ⟨(by (first | omega | (have zz0 := Hid.u hb_cn; omega))), (Or.inr ⟨i5, by (first | omega | (have zz0 := Hid.u hb_cn; omega)), rfl⟩)⟩ ls (lv_sub hl [0, 1, 3, 4, 5] rfl)
  exact lp_5 _ 0 none (Nat.lt_succ_self _) ⟨(by (first | omega | (have zz0 := Hid.u hb_cn; omega))), (Or.inl rfl)⟩ ls (lv_sub hl [0, 1, 2, 3, 4] rfl)
set_option maxRecDepth 100000 in
set_option maxHeartbeats 4000000 in
theorem q_Xstood (l : Launch) (D : va_G) (cI cB cZ : ClassId) (zz qq vv : Nat) (bt : Nat → Int32) (g : Nat → Nat) (ad : Nat → Nat → Nat) (cn : Nat → Nat) (In : Nat → Int32) (Fn : Nat → Nat → Int32) (v0 v1 : Int32) (hB : CBX cn) : Met l yX11_stood (CWS yX11_stood cX11_stood 4 (some .int)) (RM 4 0 0) (PBrx [.ref (g 0), .int v0, .int v1] D cI cB cZ zz qq vv bt (wX cI (D.1 99) zz g ad cn In Fn)) (vp_Si (fun _ => True)) 0 0 (fun _ => False) := by
  refine en_rx rfl pn_RX11 (Nat.le_of_ble_eq_true rfl) (fun p e s m below meth c hx hb hml hown S hr hlocks hnm hP hK hXS hS ls hl => ?_)
  have hl : lv_has ls 4 [(0, .ref (g 0)), (1, .int v0), (2, .int v1)] := hl
  have hb_cn : Hid (CBX cn) := hB
  replace hB : CBXh cn := hB
  refine lv_iload_n hx hb (oc_27 0 shX11_stood_0) rfl (lvA1 hl) ?_
  refine lv_iconst (v := 0) hx hb (oc_3 1 (aq_1 shX11_stood_0)) kic_0 ?_
  refine lv_aload_n hx hb (oc_42 2 (aq_2 shX11_stood_0)) rfl (lvA0 hl) ?_
  refine gf_RX11_502 S hK hP 0 xo_0 (v := .int (nI (cn 2))) rfl (oc_180 3 (aq_3 shX11_stood_0) uw_1_246) ?_
  refine lv_iconst (v := 1) hx hb (oc_4 6 (aq_6 shX11_stood_0)) kic_1 ?_
  refine lv_isub hx hb (oc_100 7 (aq_7 shX11_stood_0)) ?_
  refine vp_callSi (runS_r (As := [.int v0, .int 0, .int ((nI (cn 2)) - 1)]) (rest := []) S (q_l_within l D cI cB cZ v0 0 ((nI (cn 2)) - 1)) kS_RX11_80 hK hP [] rfl ⟨Nat.le_of_ble_eq_true rfl, Nat.le_of_ble_eq_true rfl⟩ ⟨Nat.le_of_ble_eq_true rfl, Nat.le_of_ble_eq_true rfl⟩ rfl hl.1 rfl (Nat.le_of_ble_eq_true rfl) (oc_184 8 (aq_8 shX11_stood_0) uw_0_80)) (fun r_1 h_2 => ?_)
  rcases h_2 with ⟨rfl, h_2⟩ | ⟨rfl, h_2⟩
  ·
    have h_2 : 0 ≤ v0.toInt ∧ v0.toInt ≤ ((nI (cn 2)) - 1).toInt := h_2
    refine lv_if_eq (tgt := 21) hx hb (oc_153 11 (aq_11 shX11_stood_0) sgw_0_10) rfl (fun h => absurd h cq_eq_1_0) (fun _ => ?_)
    refine lv_iload_n hx hb (oc_28 14 (aq_14 shX11_stood_0)) rfl (lvA2 hl) ?_
    refine vp_callSi (runS_r (As := [.int v1]) (rest := []) S (q_l_isDay l D cI cB cZ v1) kS_RX11_99 hK hP [] rfl ⟨Nat.le_of_ble_eq_true rfl, Nat.le_of_ble_eq_true rfl⟩ ⟨Nat.le_of_ble_eq_true rfl, Nat.le_of_ble_eq_true rfl⟩ rfl hl.1 rfl (Nat.le_of_ble_eq_true rfl) (oc_184 15 (aq_15 shX11_stood_0) uw_0_99)) (fun r_3 h_4 => ?_)
    rcases h_4 with ⟨rfl, h_4⟩ | ⟨rfl, h_4⟩
    ·
      have h_4 : 0 ≤ v1.toInt ∧ v1.toInt ≤ 399 := h_4
      refine lv_if_ne (tgt := 23) hx hb (oc_154 18 (aq_18 shX11_stood_0) sgw_0_5) rfl (fun _ => ?_) (fun h => absurd h cq_eq_1_0)
      refine lv_aload_n hx hb (oc_42 23 (aq_23 shX11_stood_0)) rfl (lvA0 hl) ?_
      refine lv_iload_n hx hb (oc_27 24 shX11_stood_24) rfl (lvA1 hl) ?_
      refine lv_iload_n hx hb (oc_28 25 (aq_1 shX11_stood_24)) rfl (lvA2 hl) ?_
      refine va_csq (runV_rxa (As := [.int v0, .int v1]) (rest := []) S (q_XmoveBy l D cI cB cZ zz qq vv bt g ad cn In Fn v0 v1 hB) kV_RX11_509 hK hXS hS hP 0 xo_0 rfl rfl ⟨Nat.le_of_ble_eq_true rfl, Nat.le_of_ble_eq_true rfl⟩ ⟨Nat.le_of_ble_eq_true rfl, Nat.le_of_ble_eq_true rfl⟩ rfl hl.1 rfl (Nat.le_of_ble_eq_true rfl) (oc_182 26 (aq_2 shX11_stood_24) uw_1_253)) (fun r_5 h_6 => ?_)
      rcases h_6 with ⟨mr_5, er_5, hr_5, rfl⟩ | ⟨hr_5, rfl⟩
      ·
        refine lv_astore_n (lv' := [(3, .ref (ad 15 mr_5)), (0, .ref (g 0)), (1, .int v0), (2, .int v1)]) hx hb (oc_78 29 (aq_5 shX11_stood_24)) rfl hl (ltb rfl) rfl (fun ls hl => ?_)
        refine lv_aload_n hx hb (oc_45 30 (aq_6 shX11_stood_24)) rfl (lvA0 hl) ?_
        refine lv_ifnull hx hb (oc_198 31 (aq_7 shX11_stood_24) sgw_0_11) ?_
        refine lv_aload_n hx hb (oc_45 34 (aq_10 shX11_stood_24)) rfl (lvA0 hl) ?_
        have kf_1 : mr_5 < cn 15 := by (first | omega | (have zz0 := Hid.u hb_cn; omega))
        refine gf_RX11_516 S hK hP _ (xf_5 kf_1) (v := .int ((Fn 181) mr_5)) rfl (oc_180 35 (aq_11 shX11_stood_24) uw_2_4) ?_
        refine lv_iconst (v := (-1)) hx hb (oc_2 38 (aq_14 shX11_stood_24)) kic_m1 ?_
        refine lv_icmp_ne (tgt := 47) hx hb (oc_160 39 (aq_15 shX11_stood_24) sgw_0_8) rfl (fun c_7 => ?_) (fun c_7 => ?_)
        ·
          have tc_7 : (((Fn 181) mr_5).toInt : Int) ≠ (-1) := fun q => c_7 (Int32.toInt_inj.mp q)
          refine lv_aload_n hx hb (oc_45 47 (aq_23 shX11_stood_24)) rfl (lvA0 hl) ?_
          refine gf_RX11_516 S hK hP _ (xf_5 kf_1) (v := .int ((Fn 181) mr_5)) rfl (oc_180 48 shX11_stood_48 uw_2_4) ?_
          exact W.iret (v := ((Fn 181) mr_5)) hx hb hr (fun t ht hW => ⟨((Fn 181) mr_5), rfl, trivial, ht⟩) (fun _ h => absurd h List.not_mem_nil) (oc_172 51 (aq_3 shX11_stood_48))
        ·
          have tc_7 : (((Fn 181) mr_5).toInt : Int) = (-1) := congrArg Int32.toInt c_7
          refine lv_bipush (v := (-2)) hx hb (oc_16 42 (aq_18 shX11_stood_24) sgb_254) kbc_m2 ?_
          refine lv_goto (tgt := 51) hx hb (oc_167 44 (aq_20 shX11_stood_24) sgw_0_7) rfl ?_
          exact W.iret (v := (-2)) hx hb hr (fun t ht hW => ⟨(-2), rfl, trivial, ht⟩) (fun _ h => absurd h List.not_mem_nil) (oc_172 51 (aq_3 shX11_stood_48))
      ·
        refine lv_astore_nN (lv' := [(3, .null), (0, .ref (g 0)), (1, .int v0), (2, .int v1)]) hx hb (oc_78 29 (aq_5 shX11_stood_24)) rfl hl (ltb rfl) rfl (fun ls hl => ?_)
        refine lv_aload_nN hx hb (oc_45 30 (aq_6 shX11_stood_24)) rfl (lvA0 hl) ?_
        refine lv_ifnullN (tgt := 42) hx hb (oc_198 31 (aq_7 shX11_stood_24) sgw_0_11) rfl ?_
        refine lv_bipush (v := (-2)) hx hb (oc_16 42 (aq_18 shX11_stood_24) sgb_254) kbc_m2 ?_
        refine lv_goto (tgt := 51) hx hb (oc_167 44 (aq_20 shX11_stood_24) sgw_0_7) rfl ?_
        exact W.iret (v := (-2)) hx hb hr (fun t ht hW => ⟨(-2), rfl, trivial, ht⟩) (fun _ h => absurd h List.not_mem_nil) (oc_172 51 (aq_3 shX11_stood_48))
    ·
      have h_4 : ¬ (0 ≤ v1.toInt ∧ v1.toInt ≤ 399) := h_4
      refine lv_if_ne (tgt := 23) hx hb (oc_154 18 (aq_18 shX11_stood_0) sgw_0_5) rfl (fun h => absurd h cq_eq_0_0) (fun _ => ?_)
      refine lv_iconst (v := (-1)) hx hb (oc_2 21 (aq_21 shX11_stood_0)) kic_m1 ?_
      exact W.iret (v := (-1)) hx hb hr (fun t ht hW => ⟨(-1), rfl, trivial, ht⟩) (fun _ h => absurd h List.not_mem_nil) (oc_172 22 (aq_22 shX11_stood_0))
  ·
    have h_2 : ¬ (0 ≤ v0.toInt ∧ v0.toInt ≤ ((nI (cn 2)) - 1).toInt) := h_2
    refine lv_if_eq (tgt := 21) hx hb (oc_153 11 (aq_11 shX11_stood_0) sgw_0_10) rfl (fun _ => ?_) (fun h => absurd h cq_eq_0_0)
    refine lv_iconst (v := (-1)) hx hb (oc_2 21 (aq_21 shX11_stood_0)) kic_m1 ?_
    exact W.iret (v := (-1)) hx hb hr (fun t ht hW => ⟨(-1), rfl, trivial, ht⟩) (fun _ h => absurd h List.not_mem_nil) (oc_172 22 (aq_22 shX11_stood_0))
set_option maxRecDepth 100000 in
set_option maxHeartbeats 4000000 in
theorem q_Xstale (l : Launch) (D : va_G) (cI cB cZ : ClassId) (zz qq vv : Nat) (bt : Nat → Int32) (g : Nat → Nat) (ad : Nat → Nat → Nat) (cn : Nat → Nat) (In : Nat → Int32) (Fn : Nat → Nat → Int32) (v0 : Int32) (hB : CBX cn) : Met l yX11_stale (CWS yX11_stale cX11_stale 6 (some .int)) (RM 4 0 0) (PBrx [.ref (g 0), .int v0] D cI cB cZ zz qq vv bt (wX cI (D.1 99) zz g ad cn In Fn)) (vp_Si (fun _ => True)) 0 0 (fun _ => False) := by
  refine en_rx rfl pn_RX11 (Nat.le_of_ble_eq_true rfl) (fun p e s m below meth c hx hb hml hown S hr hlocks hnm hP hK hXS hS ls hl => ?_)
  have hl : lv_has ls 6 [(0, .ref (g 0)), (1, .int v0)] := hl
  have hb_cn : Hid (CBX cn) := hB
  replace hB : CBXh cn := hB
  refine lv_iload_n hx hb (oc_27 0 shX11_stale_0) rfl (lvA1 hl) ?_
  refine lv_iconst (v := 0) hx hb (oc_3 1 (aq_1 shX11_stale_0)) kic_0 ?_
  refine lv_sipush (v := 399) hx hb (oc_17 2 (aq_2 shX11_stale_0) sgw_1_143) (by decide) ?_
  refine vp_callSi (runS_r (As := [.int v0, .int 0, .int 399]) (rest := []) S (q_l_within l D cI cB cZ v0 0 399) kS_RX11_80 hK hP [] rfl ⟨Nat.le_of_ble_eq_true rfl, Nat.le_of_ble_eq_true rfl⟩ ⟨Nat.le_of_ble_eq_true rfl, Nat.le_of_ble_eq_true rfl⟩ rfl hl.1 rfl (Nat.le_of_ble_eq_true rfl) (oc_184 5 (aq_5 shX11_stale_0) uw_0_80)) (fun r_1 h_2 => ?_)
  rcases h_2 with ⟨rfl, h_2⟩ | ⟨rfl, h_2⟩
  ·
    have h_2 : 0 ≤ v0.toInt ∧ v0.toInt ≤ 399 := h_2
    refine lv_if_ne (tgt := 13) hx hb (oc_154 8 (aq_8 shX11_stale_0) sgw_0_5) rfl (fun _ => ?_) (fun h => absurd h cq_eq_1_0)
    refine lv_iconst (v := 0) hx hb (oc_3 13 (aq_13 shX11_stale_0)) kic_0 ?_
    refine lv_istore_n (lv' := [(2, .int 0), (0, .ref (g 0)), (1, .int v0)]) hx hb (oc_61 14 (aq_14 shX11_stale_0)) rfl hl (ltb rfl) rfl (fun ls hl => ?_)
    refine lv_iconst (v := 0) hx hb (oc_3 15 (aq_15 shX11_stale_0)) kic_0 ?_
    refine lv_istore_n (lv' := [(3, .int 0), (2, .int 0), (0, .ref (g 0)), (1, .int v0)]) hx hb (oc_62 16 (aq_16 shX11_stale_0)) rfl hl (ltb rfl) rfl (fun ls hl => ?_)
    have lp_17 : ∀ (n : Nat) (i17 : Nat) (x17_2 : Int32) , cn 2 - i17 < n → (i17 ≤ cn 2) → ∀ ls : Array Slot, lv_has ls 6 [(3, .int (nI i17)), (2, .int x17_2), (0, .ref (g 0)), (1, .int v0)] → W p l e (RM 4 0 0) s m ([.ref (g 0), .int v0]).toArray below meth c s.heap [] 0 0 (MQ below (vp_Si (fun _ => True)) ([.ref (g 0), .int v0]).toArray s 0 0 (fun _ => False)) (F0 m 17 ls []) := by
      intro n17
      induction n17 with
      | zero => intros; (first | omega | (have zz0 := Hid.u hb_cn; omega))
      | succ n17 ih17 =>
        intro i17 x17_2 hmu17 hinv17 ls hl
        have hr17 := hinv17
        have ti17 : (nI i17).toInt = (i17 : Int) := nI_toInt (by (first | omega | (have zz0 := Hid.u hb_cn; omega)))
        refine lv_iload_n hx hb (oc_29 17 (aq_17 shX11_stale_0)) rfl (lvA0 hl) ?_
        refine lv_aload_n hx hb (oc_42 18 (aq_18 shX11_stale_0)) rfl (lvA2 hl) ?_
        refine gf_RX11_502 S hK hP 0 xo_0 (v := .int (nI (cn 2))) rfl (oc_180 19 (aq_19 shX11_stale_0) uw_1_246) ?_
        have : (nI (cn 2)).toInt = (((cn 2) : Nat) : Int) := nI_toInt (by (first | omega | (have zz0 := Hid.u hb_cn; omega)))
        refine lv_icmp_ge (tgt := 92) hx hb (oc_162 22 (aq_22 shX11_stale_0) sgw_0_70) rfl (fun c_3 => ?_) (fun c_3 => ?_)
        ·
          have tc_3 : ((nI (cn 2)).toInt : Int) ≤ (nI i17).toInt := Int32.le_iff_toInt_le.mp c_3
          refine lv_iload_n hx hb (oc_28 92 (aq_18 shX11_stale_74)) rfl (lvA1 hl) ?_
          exact W.iret (v := x17_2) hx hb hr (fun t ht hW => ⟨x17_2, rfl, trivial, ht⟩) (fun _ h => absurd h List.not_mem_nil) (oc_172 93 (aq_19 shX11_stale_74))
        ·
          have tc_3 : ((nI i17).toInt : Int) < (nI (cn 2)).toInt := Int32.lt_iff_toInt_lt.mp (Int32.not_le.mp c_3)
          refine lv_aload_n hx hb (oc_42 25 shX11_stale_25) rfl (lvA2 hl) ?_
          refine lv_iload_n hx hb (oc_29 26 (aq_1 shX11_stale_25)) rfl (lvA0 hl) ?_
          refine lv_aload_n hx hb (oc_42 27 (aq_2 shX11_stale_25)) rfl (lvA2 hl) ?_
          refine gf_RX11_103 S hK hP 0 xo_0 (v := .int (nI (cn 0))) rfl (oc_180 28 (aq_3 shX11_stale_25) uw_0_103) ?_
          refine va_csq (runV_rxa (As := [.int (nI i17), .int (nI (cn 0))]) (rest := []) S (q_XmoveBy l D cI cB cZ zz qq vv bt g ad cn In Fn (nI i17) (nI (cn 0)) hB) kV_RX11_509 hK hXS hS hP 0 xo_0 rfl rfl ⟨Nat.le_of_ble_eq_true rfl, Nat.le_of_ble_eq_true rfl⟩ ⟨Nat.le_of_ble_eq_true rfl, Nat.le_of_ble_eq_true rfl⟩ rfl hl.1 rfl (Nat.le_of_ble_eq_true rfl) (oc_182 31 (aq_6 shX11_stale_25) uw_1_253)) (fun r_4 h_5 => ?_)
          rcases h_5 with ⟨mr_4, er_4, hr_4, rfl⟩ | ⟨hr_4, rfl⟩
          ·
            refine lv_astore (lv' := [(4, .ref (ad 15 mr_4)), (3, .int (nI i17)), (2, .int x17_2), (0, .ref (g 0)), (1, .int v0)]) hx hb (oc_58 34 (aq_9 shX11_stale_25) ub_4) hl (ltb rfl) rfl (fun ls hl => ?_)
            refine lv_aload hx hb (oc_25 36 (aq_11 shX11_stale_25) ub_4) (lvA0 hl) ?_
            refine lv_ifnull hx hb (oc_198 38 (aq_13 shX11_stale_25) sgw_0_16) ?_
            refine lv_aload hx hb (oc_25 41 (aq_16 shX11_stale_25) ub_4) (lvA0 hl) ?_
            have kf_1 : mr_4 < cn 15 := by (first | omega | (have zz0 := Hid.u hb_cn; omega))
            refine gf_RX11_516 S hK hP _ (xf_5 kf_1) (v := .int ((Fn 181) mr_4)) rfl (oc_180 43 (aq_18 shX11_stale_25) uw_2_4) ?_
            refine lv_iconst (v := (-1)) hx hb (oc_2 46 (aq_21 shX11_stale_25)) kic_m1 ?_
            refine lv_icmp_eq (tgt := 54) hx hb (oc_159 47 (aq_22 shX11_stale_25) sgw_0_7) rfl (fun c_6 => ?_) (fun c_6 => ?_)
            ·
              have tc_6 : (((Fn 181) mr_4).toInt : Int) = (-1) := congrArg Int32.toInt c_6
              refine lv_iconst (v := 0) hx hb (oc_3 54 (aq_4 shX11_stale_50)) kic_0 ?_
              refine lv_istore (lv' := [(5, .int 0), (4, .ref (ad 15 mr_4)), (3, .int (nI i17)), (2, .int x17_2), (0, .ref (g 0)), (1, .int v0)]) hx hb (oc_54 55 (aq_5 shX11_stale_50) ub_5) hl (ltb rfl) rfl (fun ls hl => ?_)
              refine lv_iload_n hx hb (oc_28 57 (aq_7 shX11_stale_50)) rfl (lvA3 hl) ?_
              refine lv_iload hx hb (oc_21 58 (aq_8 shX11_stale_50) ub_5) (lvA0 hl) ?_
              refine lv_if_eq (tgt := 83) hx hb (oc_153 60 (aq_10 shX11_stale_50) sgw_0_23) rfl (fun _ => ?_) (fun h => absurd h cq_eq_0_0)
              refine lv_iconst (v := 0) hx hb (oc_3 83 (aq_9 shX11_stale_74)) kic_0 ?_
              refine lv_ior hx hb dX11_stale_84 ?_
              refine lv_istore_n (lv' := [(2, .int (x17_2 ||| 0)), (5, .int 0), (4, .ref (ad 15 mr_4)), (3, .int (nI i17)), (0, .ref (g 0)), (1, .int v0)]) hx hb dX11_stale_85 rfl hl (ltb rfl) rfl (fun ls hl => ?_)
              refine lv_iinc (v := (nI (i17 + 1))) (lv' := [(3, .int (nI (i17 + 1))), (2, .int (x17_2 ||| 0)), (5, .int 0), (4, .ref (ad 15 mr_4)), (0, .ref (g 0)), (1, .int v0)]) hx hb dX11_stale_86 hl (k := 3) rfl (nI_1 _) (ltb rfl) rfl (fun ls hl => ?_)
              refine lv_goto (tgt := 17) hx hb dX11_stale_89 rfl ?_
              exact ih17 (i17 + 1) (x17_2 ||| 0) (by (first | omega | (have zz0 := Hid.u hb_cn; omega))) (by (first | omega | (have zz0 := Hid.u hb_cn; omega))) ls (lv_sub hl [0, 1, 4, 5] rfl)
            ·
              have tc_6 : (((Fn 181) mr_4).toInt : Int) ≠ (-1) := fun q => c_6 (Int32.toInt_inj.mp q)
              refine lv_iconst (v := 1) hx hb (oc_4 50 shX11_stale_50) kic_1 ?_
              refine lv_goto (tgt := 55) hx hb (oc_167 51 (aq_1 shX11_stale_50) sgw_0_4) rfl ?_
              refine lv_istore (lv' := [(5, .int 1), (4, .ref (ad 15 mr_4)), (3, .int (nI i17)), (2, .int x17_2), (0, .ref (g 0)), (1, .int v0)]) hx hb (oc_54 55 (aq_5 shX11_stale_50) ub_5) hl (ltb rfl) rfl (fun ls hl => ?_)
              refine lv_iload_n hx hb (oc_28 57 (aq_7 shX11_stale_50)) rfl (lvA3 hl) ?_
              refine lv_iload hx hb (oc_21 58 (aq_8 shX11_stale_50) ub_5) (lvA0 hl) ?_
              refine lv_if_eq (tgt := 83) hx hb (oc_153 60 (aq_10 shX11_stale_50) sgw_0_23) rfl (fun h => absurd h cq_eq_1_0) (fun _ => ?_)
              refine lv_aload_n hx hb (oc_42 63 (aq_13 shX11_stale_50)) rfl (lvA4 hl) ?_
              refine gf_RX11_103 S hK hP 0 xo_0 (v := .int (nI (cn 0))) rfl (oc_180 64 (aq_14 shX11_stale_50) uw_0_103) ?_
              refine lv_aload hx hb (oc_25 67 (aq_17 shX11_stale_50) ub_4) (lvA1 hl) ?_
              refine gf_RX11_508 S hK hP _ (xf_5 kf_1) (v := .int ((Fn 182) mr_4)) rfl (oc_180 69 (aq_19 shX11_stale_50) uw_1_252) ?_
              refine lv_isub hx hb (oc_100 72 (aq_22 shX11_stale_50)) ?_
              refine lv_iload_n hx hb (oc_27 73 (aq_23 shX11_stale_50)) rfl (lvA5 hl) ?_
              refine lv_icmp_lt (tgt := 83) hx hb (oc_161 74 shX11_stale_74 sgw_0_9) rfl (fun c_7 => ?_) (fun c_7 => ?_)
              ·
                have tc_7 : (((nI (cn 0)) - ((Fn 182) mr_4)).toInt : Int) < v0.toInt := Int32.lt_iff_toInt_lt.mp c_7
                refine lv_iconst (v := 0) hx hb (oc_3 83 (aq_9 shX11_stale_74)) kic_0 ?_
                refine lv_ior hx hb dX11_stale_84 ?_
                refine lv_istore_n (lv' := [(2, .int (x17_2 ||| 0)), (5, .int 1), (4, .ref (ad 15 mr_4)), (3, .int (nI i17)), (0, .ref (g 0)), (1, .int v0)]) hx hb dX11_stale_85 rfl hl (ltb rfl) rfl (fun ls hl => ?_)
                refine lv_iinc (v := (nI (i17 + 1))) (lv' := [(3, .int (nI (i17 + 1))), (2, .int (x17_2 ||| 0)), (5, .int 1), (4, .ref (ad 15 mr_4)), (0, .ref (g 0)), (1, .int v0)]) hx hb dX11_stale_86 hl (k := 3) rfl (nI_1 _) (ltb rfl) rfl (fun ls hl => ?_)
                refine lv_goto (tgt := 17) hx hb dX11_stale_89 rfl ?_
                exact ih17 (i17 + 1) (x17_2 ||| 0) (by (first | omega | (have zz0 := Hid.u hb_cn; omega))) (by (first | omega | (have zz0 := Hid.u hb_cn; omega))) ls (lv_sub hl [0, 1, 4, 5] rfl)
              ·
                have tc_7 : (v0.toInt : Int) ≤ ((nI (cn 0)) - ((Fn 182) mr_4)).toInt := Int32.le_iff_toInt_le.mp (Int32.not_lt.mp c_7)
                refine lv_iconst (v := 1) hx hb (oc_4 77 (aq_3 shX11_stale_74)) kic_1 ?_
                refine lv_iload_n hx hb (oc_29 78 (aq_4 shX11_stale_74)) rfl (lvA2 hl) ?_
                refine lv_ishl hx hb (oc_120 79 (aq_5 shX11_stale_74)) ?_
                refine lv_goto (tgt := 84) hx hb (oc_167 80 (aq_6 shX11_stale_74) sgw_0_4) rfl ?_
                refine lv_ior hx hb dX11_stale_84 ?_
                refine lv_istore_n (lv' := [(2, .int (x17_2 ||| (1 <<< ((nI i17) &&& 31)))), (5, .int 1), (4, .ref (ad 15 mr_4)), (3, .int (nI i17)), (0, .ref (g 0)), (1, .int v0)]) hx hb dX11_stale_85 rfl hl (ltb rfl) rfl (fun ls hl => ?_)
                refine lv_iinc (v := (nI (i17 + 1))) (lv' := [(3, .int (nI (i17 + 1))), (2, .int (x17_2 ||| (1 <<< ((nI i17) &&& 31)))), (5, .int 1), (4, .ref (ad 15 mr_4)), (0, .ref (g 0)), (1, .int v0)]) hx hb dX11_stale_86 hl (k := 3) rfl (nI_1 _) (ltb rfl) rfl (fun ls hl => ?_)
                refine lv_goto (tgt := 17) hx hb dX11_stale_89 rfl ?_
                exact ih17 (i17 + 1) (x17_2 ||| (1 <<< ((nI i17) &&& 31))) (by (first | omega | (have zz0 := Hid.u hb_cn; omega))) (by (first | omega | (have zz0 := Hid.u hb_cn; omega))) ls (lv_sub hl [0, 1, 4, 5] rfl)
          ·
            refine lv_astoreN (lv' := [(4, .null), (3, .int (nI i17)), (2, .int x17_2), (0, .ref (g 0)), (1, .int v0)]) hx hb (oc_58 34 (aq_9 shX11_stale_25) ub_4) hl (ltb rfl) rfl (fun ls hl => ?_)
            refine lv_aloadN hx hb (oc_25 36 (aq_11 shX11_stale_25) ub_4) (lvA0 hl) ?_
            refine lv_ifnullN (tgt := 54) hx hb (oc_198 38 (aq_13 shX11_stale_25) sgw_0_16) rfl ?_
            refine lv_iconst (v := 0) hx hb (oc_3 54 (aq_4 shX11_stale_50)) kic_0 ?_
            refine lv_istore (lv' := [(5, .int 0), (4, .null), (3, .int (nI i17)), (2, .int x17_2), (0, .ref (g 0)), (1, .int v0)]) hx hb (oc_54 55 (aq_5 shX11_stale_50) ub_5) hl (ltb rfl) rfl (fun ls hl => ?_)
            refine lv_iload_n hx hb (oc_28 57 (aq_7 shX11_stale_50)) rfl (lvA3 hl) ?_
            refine lv_iload hx hb (oc_21 58 (aq_8 shX11_stale_50) ub_5) (lvA0 hl) ?_
            refine lv_if_eq (tgt := 83) hx hb (oc_153 60 (aq_10 shX11_stale_50) sgw_0_23) rfl (fun _ => ?_) (fun h => absurd h cq_eq_0_0)
            refine lv_iconst (v := 0) hx hb (oc_3 83 (aq_9 shX11_stale_74)) kic_0 ?_
            refine lv_ior hx hb dX11_stale_84 ?_
            refine lv_istore_n (lv' := [(2, .int (x17_2 ||| 0)), (5, .int 0), (4, .null), (3, .int (nI i17)), (0, .ref (g 0)), (1, .int v0)]) hx hb dX11_stale_85 rfl hl (ltb rfl) rfl (fun ls hl => ?_)
            refine lv_iinc (v := (nI (i17 + 1))) (lv' := [(3, .int (nI (i17 + 1))), (2, .int (x17_2 ||| 0)), (5, .int 0), (4, .null), (0, .ref (g 0)), (1, .int v0)]) hx hb dX11_stale_86 hl (k := 3) rfl (nI_1 _) (ltb rfl) rfl (fun ls hl => ?_)
            refine lv_goto (tgt := 17) hx hb dX11_stale_89 rfl ?_
            exact ih17 (i17 + 1) (x17_2 ||| 0) (by (first | omega | (have zz0 := Hid.u hb_cn; omega))) (by (first | omega | (have zz0 := Hid.u hb_cn; omega))) ls (lv_sub hl [0, 1, 4, 5] rfl)
    exact lp_17 _ 0 0 (Nat.lt_succ_self _) (by (first | omega | (have zz0 := Hid.u hb_cn; omega))) ls (lv_sub hl [0, 1, 2, 3] rfl)
  ·
    have h_2 : ¬ (0 ≤ v0.toInt ∧ v0.toInt ≤ 399) := h_2
    refine lv_if_ne (tgt := 13) hx hb (oc_154 8 (aq_8 shX11_stale_0) sgw_0_5) rfl (fun h => absurd h cq_eq_0_0) (fun _ => ?_)
    refine lv_iconst (v := (-1)) hx hb (oc_2 11 (aq_11 shX11_stale_0)) kic_m1 ?_
    exact W.iret (v := (-1)) hx hb hr (fun t ht hW => ⟨(-1), rfl, trivial, ht⟩) (fun _ h => absurd h List.not_mem_nil) (oc_172 12 (aq_12 shX11_stale_0))
set_option maxRecDepth 100000 in
set_option maxHeartbeats 4000000 in
theorem q_XstopsOf (l : Launch) (D : va_G) (cI cB cZ : ClassId) (zz qq vv : Nat) (bt : Nat → Int32) (g : Nat → Nat) (ad : Nat → Nat → Nat) (cn : Nat → Nat) (In : Nat → Int32) (Fn : Nat → Nat → Int32) (v0 v1 : Int32) (hB : CBX cn) : Met l yX11_stopsOf (CWS yX11_stopsOf cX11_stopsOf 6 (some .int)) (RM 0 0 0) (PBrx [.ref (g 0), .int v0, .int v1] D cI cB cZ zz qq vv bt (wX cI (D.1 99) zz g ad cn In Fn)) (vp_Si (fun _ => True)) 0 0 (fun _ => False) := by
  refine en_rx rfl pn_RX11 (Nat.le_of_ble_eq_true rfl) (fun p e s m below meth c hx hb hml hown S hr hlocks hnm hP hK hXS hS ls hl => ?_)
  have hl : lv_has ls 6 [(0, .ref (g 0)), (1, .int v0), (2, .int v1)] := hl
  have hb_cn : Hid (CBX cn) := hB
  replace hB : CBXh cn := hB
  refine lv_iconst (v := 0) hx hb (oc_3 0 shX11_stopsOf_0) kic_0 ?_
  refine lv_istore_n (lv' := [(3, .int 0), (0, .ref (g 0)), (1, .int v0), (2, .int v1)]) hx hb (oc_62 1 (aq_1 shX11_stopsOf_0)) rfl hl (ltb rfl) rfl (fun ls hl => ?_)
  refine lv_iload_n hx hb (oc_27 2 (aq_2 shX11_stopsOf_0)) rfl (lvA2 hl) ?_
  refine lv_istore (lv' := [(4, .int v0), (3, .int 0), (0, .ref (g 0)), (1, .int v0), (2, .int v1)]) hx hb (oc_54 3 (aq_3 shX11_stopsOf_0) ub_4) hl (ltb rfl) rfl (fun ls hl => ?_)
  refine lv_aload_n hx hb (oc_42 5 (aq_5 shX11_stopsOf_0)) rfl (lvA2 hl) ?_
  refine gf_RX11_54 S hK hP 0 xo_0 (v := .ref (g 9)) rfl (oc_180 6 (aq_6 shX11_stopsOf_0) uw_0_54) ?_
  refine gf_RX11_267 S hK hP 17 xo_17 (v := .int (nI (cn 4))) rfl (oc_180 9 (aq_9 shX11_stopsOf_0) uw_1_11) ?_
  refine lv_iconst (v := 1) hx hb (oc_4 12 (aq_12 shX11_stopsOf_0)) kic_1 ?_
  refine lv_isub hx hb (oc_100 13 (aq_13 shX11_stopsOf_0)) ?_
  refine lv_topi (fun y_1 ey_1 => ?_)
  obtain rfl : y_1 = (nI (cn 4) + (-1)) := ey_1.trans (Int32.sub_eq_add_neg ..)
  refine lv_istore (lv' := [(5, .int (nI (cn 4) + (-1))), (4, .int v0), (3, .int 0), (0, .ref (g 0)), (1, .int v0), (2, .int v1)]) hx hb (oc_54 14 (aq_14 shX11_stopsOf_0) ub_5) hl (ltb rfl) rfl (fun ls hl => ?_)
  have lp_16 : ∀ (n : Nat) (x16_3 : Int32) (x16_4 : Int32) (k16 : Nat) , k16 < n → ((k16 ≤ cn 4)) → ∀ ls : Array Slot, lv_has ls 6 [(5, .int (nI k16 + (-1))), (4, .int x16_4), (3, .int x16_3), (0, .ref (g 0)), (1, .int v0), (2, .int v1)] → W p l e (RM 0 0 0) s m ([.ref (g 0), .int v0, .int v1]).toArray below meth c s.heap [] 0 0 (MQ below (vp_Si (fun _ => True)) ([.ref (g 0), .int v0, .int v1]).toArray s 0 0 (fun _ => False)) (F0 m 16 ls []) := by
    intro n16
    induction n16 with
    | zero => intros; (first | omega | (have zz0 := Hid.u hb_cn; omega))
    | succ n16 ih16 =>
      intro x16_3 x16_4 k16 hmu16 hinv16 ls hl
      have hx16_0 := hinv16
      rcases k16 with _ | j16
      ·
        rw [show nI 0 + (-1) = (-1 : Int32) by decide] at hl
        have hl : lv_has ls 6 [(5, .int (-1)), (4, .int x16_4), (3, .int x16_3), (0, .ref (g 0)), (1, .int v0), (2, .int v1)] := hl
        refine lv_iload hx hb (oc_21 16 (aq_16 shX11_stopsOf_0) ub_5) (lvA0 hl) ?_
        refine lv_if_lt (tgt := 65) hx hb (oc_155 18 (aq_18 shX11_stopsOf_0) sgw_0_47) rfl (fun _ => ?_) (fun h => absurd h cq_lt_m1_0)
        refine lv_iload_n hx hb (oc_29 65 (aq_16 shX11_stopsOf_49)) rfl (lvA2 hl) ?_
        exact W.iret (v := x16_3) hx hb hr (fun t ht hW => ⟨x16_3, rfl, trivial, ht⟩) (fun _ h => absurd h List.not_mem_nil) (oc_172 66 (aq_17 shX11_stopsOf_49))
      ·
        rw [nI_m1] at hl
        have hl : lv_has ls 6 [(5, .int (nI j16)), (4, .int x16_4), (3, .int x16_3), (0, .ref (g 0)), (1, .int v0), (2, .int v1)] := hl
        refine lv_iload hx hb (oc_21 16 (aq_16 shX11_stopsOf_0) ub_5) (lvA0 hl) ?_
        have : (nI j16).toInt = ((j16 : Nat) : Int) := nI_toInt (by (first | omega | (have zz0 := Hid.u hb_cn; omega)))
        refine lv_if_lt (tgt := 65) hx hb (oc_155 18 (aq_18 shX11_stopsOf_0) sgw_0_47) rfl (fun c_2 => False.elim (by have tc_2 : ((nI j16).toInt : Int) < 0 := Int32.lt_iff_toInt_lt.mp c_2; (first | omega | (have zz0 := Hid.u hb_cn; omega)))) (fun c_2 => ?_)
        have tc_2 : (0 : Int) ≤ (nI j16).toInt := Int32.le_iff_toInt_le.mp (Int32.not_lt.mp c_2)
        refine lv_aload_n hx hb (oc_42 21 (aq_21 shX11_stopsOf_0)) rfl (lvA3 hl) ?_
        refine gf_RX11_311 S hK hP 0 xo_0 (v := .int (nI (cn 1))) rfl (oc_180 22 (aq_22 shX11_stopsOf_0) uw_1_55) ?_
        have : (nI (cn 1)).toInt = (((cn 1) : Nat) : Int) := nI_toInt (by (first | omega | (have zz0 := Hid.u hb_cn; omega)))
        refine lv_if_le (tgt := 65) hx hb (oc_158 25 shX11_stopsOf_25 sgw_0_40) rfl (fun c_3 => ?_) (fun c_3 => ?_)
        ·
          have tc_3 : ((nI (cn 1)).toInt : Int) ≤ 0 := Int32.le_iff_toInt_le.mp c_3
          refine lv_iload_n hx hb (oc_29 65 (aq_16 shX11_stopsOf_49)) rfl (lvA2 hl) ?_
          exact W.iret (v := x16_3) hx hb hr (fun t ht hW => ⟨x16_3, rfl, trivial, ht⟩) (fun _ h => absurd h List.not_mem_nil) (oc_172 66 (aq_17 shX11_stopsOf_49))
        ·
          have tc_3 : (0 : Int) < (nI (cn 1)).toInt := Int32.lt_iff_toInt_lt.mp (Int32.not_le.mp c_3)
          refine lv_iload_n hx hb (oc_29 28 (aq_3 shX11_stopsOf_25)) rfl (lvA2 hl) ?_
          refine lv_iload hx hb (oc_21 29 (aq_4 shX11_stopsOf_25) ub_4) (lvA1 hl) ?_
          refine lv_aload_n hx hb (oc_42 31 (aq_6 shX11_stopsOf_25)) rfl (lvA3 hl) ?_
          refine gf_RX11_311 S hK hP 0 xo_0 (v := .int (nI (cn 1))) rfl (oc_180 32 (aq_7 shX11_stopsOf_25) uw_1_55) ?_
          refine lv_irem hx hb (oc_112 35 (aq_10 shX11_stopsOf_25)) (nI_nz (by (first | omega | (have zz0 := Hid.u hb_cn; omega))) (by (first | omega | (have zz0 := Hid.u hb_cn; omega)))) ?_
          refine lv_iload_n hx hb (oc_28 36 (aq_11 shX11_stopsOf_25)) rfl (lvA5 hl) ?_
          refine lv_icmp_ne (tgt := 47) hx hb (oc_160 37 (aq_12 shX11_stopsOf_25) sgw_0_10) rfl (fun c_4 => ?_) (fun c_4 => ?_)
          ·
            have tc_4 : ((x16_4 - x16_4 / (nI (cn 1)) * (nI (cn 1))).toInt : Int) ≠ v1.toInt := fun q => c_4 (Int32.toInt_inj.mp q)
            refine lv_iconst (v := 0) hx hb (oc_3 47 (aq_22 shX11_stopsOf_25)) kic_0 ?_
            refine lv_ior hx hb (oc_128 48 (aq_23 shX11_stopsOf_25)) ?_
            refine lv_istore_n (lv' := [(3, .int (x16_3 ||| 0)), (5, .int (nI j16)), (4, .int x16_4), (0, .ref (g 0)), (1, .int v0), (2, .int v1)]) hx hb (oc_62 49 shX11_stopsOf_49) rfl hl (ltb rfl) rfl (fun ls hl => ?_)
            refine lv_iload hx hb (oc_21 50 (aq_1 shX11_stopsOf_49) ub_4) (lvA2 hl) ?_
            refine lv_aload_n hx hb (oc_42 52 (aq_3 shX11_stopsOf_49)) rfl (lvA3 hl) ?_
            refine gf_RX11_311 S hK hP 0 xo_0 (v := .int (nI (cn 1))) rfl (oc_180 53 (aq_4 shX11_stopsOf_49) uw_1_55) ?_
            refine lv_idiv hx hb (oc_108 56 (aq_7 shX11_stopsOf_49)) (nI_nz (by (first | omega | (have zz0 := Hid.u hb_cn; omega))) (by (first | omega | (have zz0 := Hid.u hb_cn; omega)))) ?_
            refine lv_istore (lv' := [(4, .int (x16_4 / (nI (cn 1)))), (3, .int (x16_3 ||| 0)), (5, .int (nI j16)), (0, .ref (g 0)), (1, .int v0), (2, .int v1)]) hx hb (oc_54 57 (aq_8 shX11_stopsOf_49) ub_4) hl (ltb rfl) rfl (fun ls hl => ?_)
            refine lv_iinc (v := ((nI j16) + (-1))) (lv' := [(5, .int ((nI j16) + (-1))), (4, .int (x16_4 / (nI (cn 1)))), (3, .int (x16_3 ||| 0)), (0, .ref (g 0)), (1, .int v0), (2, .int v1)]) hx hb (oc_132 59 (aq_10 shX11_stopsOf_49) ub_5 sgb_255) hl (k := 2) rfl rfl (ltb rfl) rfl (fun ls hl => ?_)
            refine lv_goto (tgt := 16) hx hb (oc_167 62 (aq_13 shX11_stopsOf_49) sgw_255_210) rfl ?_
            exact ih16 (x16_3 ||| 0) (x16_4 / (nI (cn 1))) j16 (by (first | omega | (have zz0 := Hid.u hb_cn; omega))) (by (first | omega | (have zz0 := Hid.u hb_cn; omega))) ls (lv_sub hl [0, 1, 2, 3, 4, 5] rfl)
          ·
            have tc_4 : ((x16_4 - x16_4 / (nI (cn 1)) * (nI (cn 1))).toInt : Int) = v1.toInt := congrArg Int32.toInt c_4
            refine lv_iconst (v := 1) hx hb (oc_4 40 (aq_15 shX11_stopsOf_25)) kic_1 ?_
            refine lv_iload hx hb (oc_21 41 (aq_16 shX11_stopsOf_25) ub_5) (lvA0 hl) ?_
            refine lv_ishl hx hb (oc_120 43 (aq_18 shX11_stopsOf_25)) ?_
            refine lv_goto (tgt := 48) hx hb (oc_167 44 (aq_19 shX11_stopsOf_25) sgw_0_4) rfl ?_
            refine lv_ior hx hb (oc_128 48 (aq_23 shX11_stopsOf_25)) ?_
            refine lv_istore_n (lv' := [(3, .int (x16_3 ||| (1 <<< ((nI j16) &&& 31)))), (5, .int (nI j16)), (4, .int x16_4), (0, .ref (g 0)), (1, .int v0), (2, .int v1)]) hx hb (oc_62 49 shX11_stopsOf_49) rfl hl (ltb rfl) rfl (fun ls hl => ?_)
            refine lv_iload hx hb (oc_21 50 (aq_1 shX11_stopsOf_49) ub_4) (lvA2 hl) ?_
            refine lv_aload_n hx hb (oc_42 52 (aq_3 shX11_stopsOf_49)) rfl (lvA3 hl) ?_
            refine gf_RX11_311 S hK hP 0 xo_0 (v := .int (nI (cn 1))) rfl (oc_180 53 (aq_4 shX11_stopsOf_49) uw_1_55) ?_
            refine lv_idiv hx hb (oc_108 56 (aq_7 shX11_stopsOf_49)) (nI_nz (by (first | omega | (have zz0 := Hid.u hb_cn; omega))) (by (first | omega | (have zz0 := Hid.u hb_cn; omega)))) ?_
            refine lv_istore (lv' := [(4, .int (x16_4 / (nI (cn 1)))), (3, .int (x16_3 ||| (1 <<< ((nI j16) &&& 31)))), (5, .int (nI j16)), (0, .ref (g 0)), (1, .int v0), (2, .int v1)]) hx hb (oc_54 57 (aq_8 shX11_stopsOf_49) ub_4) hl (ltb rfl) rfl (fun ls hl => ?_)
            refine lv_iinc (v := ((nI j16) + (-1))) (lv' := [(5, .int ((nI j16) + (-1))), (4, .int (x16_4 / (nI (cn 1)))), (3, .int (x16_3 ||| (1 <<< ((nI j16) &&& 31)))), (0, .ref (g 0)), (1, .int v0), (2, .int v1)]) hx hb (oc_132 59 (aq_10 shX11_stopsOf_49) ub_5 sgb_255) hl (k := 2) rfl rfl (ltb rfl) rfl (fun ls hl => ?_)
            refine lv_goto (tgt := 16) hx hb (oc_167 62 (aq_13 shX11_stopsOf_49) sgw_255_210) rfl ?_
            exact ih16 (x16_3 ||| (1 <<< ((nI j16) &&& 31))) (x16_4 / (nI (cn 1))) j16 (by (first | omega | (have zz0 := Hid.u hb_cn; omega))) (by (first | omega | (have zz0 := Hid.u hb_cn; omega))) ls (lv_sub hl [0, 1, 2, 3, 4, 5] rfl)
  exact lp_16 _ 0 v0 (cn 4) (Nat.lt_succ_self _) (Nat.le_refl _) ls (lv_sub hl [0, 1, 2, 3, 4, 5] rfl)
set_option maxRecDepth 100000 in
set_option maxHeartbeats 4000000 in
theorem q_XlorryOf (l : Launch) (D : va_G) (cI cB cZ : ClassId) (zz qq vv : Nat) (bt : Nat → Int32) (g : Nat → Nat) (ad : Nat → Nat → Nat) (cn : Nat → Nat) (In : Nat → Int32) (Fn : Nat → Nat → Int32) (v0 v1 : Int32) (hB : CBX cn) : Met l yX11_lorryOf (CWS yX11_lorryOf cX11_lorryOf 5 (some .int)) (RM 1 0 0) (PBrx [.ref (g 0), .int v0, .int v1] D cI cB cZ zz qq vv bt (wX cI (D.1 99) zz g ad cn In Fn)) (vp_Si (fun _ => True)) 0 0 (fun _ => False) := by
  refine en_rx rfl pn_RX11 (Nat.le_of_ble_eq_true rfl) (fun p e s m below meth c hx hb hml hown S hr hlocks hnm hP hK hXS hS ls hl => ?_)
  have hl : lv_has ls 5 [(0, .ref (g 0)), (1, .int v0), (2, .int v1)] := hl
  have hb_cn : Hid (CBX cn) := hB
  replace hB : CBXh cn := hB
  refine lv_iload_n hx hb (oc_27 0 shX11_lorryOf_0) rfl (lvA1 hl) ?_
  refine lv_istore_n (lv' := [(3, .int v0), (0, .ref (g 0)), (1, .int v0), (2, .int v1)]) hx hb (oc_62 1 (aq_1 shX11_lorryOf_0)) rfl hl (ltb rfl) rfl (fun ls hl => ?_)
  refine lv_aload_n hx hb (oc_42 2 (aq_2 shX11_lorryOf_0)) rfl (lvA1 hl) ?_
  refine gf_RX11_54 S hK hP 0 xo_0 (v := .ref (g 9)) rfl (oc_180 3 (aq_3 shX11_lorryOf_0) uw_0_54) ?_
  refine gf_RX11_267 S hK hP 17 xo_17 (v := .int (nI (cn 4))) rfl (oc_180 6 (aq_6 shX11_lorryOf_0) uw_1_11) ?_
  refine lv_iconst (v := 1) hx hb (oc_4 9 (aq_9 shX11_lorryOf_0)) kic_1 ?_
  refine lv_isub hx hb (oc_100 10 (aq_10 shX11_lorryOf_0)) ?_
  refine lv_topi (fun y_1 ey_1 => ?_)
  obtain rfl : y_1 = (nI (cn 4) + (-1)) := ey_1.trans (Int32.sub_eq_add_neg ..)
  refine lv_istore (lv' := [(4, .int (nI (cn 4) + (-1))), (3, .int v0), (0, .ref (g 0)), (1, .int v0), (2, .int v1)]) hx hb (oc_54 11 (aq_11 shX11_lorryOf_0) ub_4) hl (ltb rfl) rfl (fun ls hl => ?_)
  have lp_13 : ∀ (n : Nat) (x13_3 : Int32) (k13 : Nat) , k13 < n → ((k13 ≤ cn 4)) → ∀ ls : Array Slot, lv_has ls 5 [(4, .int (nI k13 + (-1))), (3, .int x13_3), (0, .ref (g 0)), (1, .int v0), (2, .int v1)] → W p l e (RM 1 0 0) s m ([.ref (g 0), .int v0, .int v1]).toArray below meth c s.heap [] 0 0 (MQ below (vp_Si (fun _ => True)) ([.ref (g 0), .int v0, .int v1]).toArray s 0 0 (fun _ => False)) (F0 m 13 ls []) := by
    intro n13
    induction n13 with
    | zero => intros; (first | omega | (have zz0 := Hid.u hb_cn; omega))
    | succ n13 ih13 =>
      intro x13_3 k13 hmu13 hinv13 ls hl
      have hx13_0 := hinv13
      rcases k13 with _ | j13
      ·
        rw [show nI 0 + (-1) = (-1 : Int32) by decide] at hl
        have hl : lv_has ls 5 [(4, .int (-1)), (3, .int x13_3), (0, .ref (g 0)), (1, .int v0), (2, .int v1)] := hl
        refine lv_iload hx hb (oc_21 13 (aq_13 shX11_lorryOf_0) ub_4) (lvA0 hl) ?_
        refine lv_if_lt (tgt := 61) hx hb (oc_155 15 (aq_15 shX11_lorryOf_0) sgw_0_46) rfl (fun _ => ?_) (fun h => absurd h cq_lt_m1_0)
        refine lv_iconst (v := (-1)) hx hb (oc_2 61 (aq_12 shX11_lorryOf_49)) kic_m1 ?_
        exact W.iret (v := (-1)) hx hb hr (fun t ht hW => ⟨(-1), rfl, trivial, ht⟩) (fun _ h => absurd h List.not_mem_nil) (oc_172 62 (aq_13 shX11_lorryOf_49))
      ·
        rw [nI_m1] at hl
        have hl : lv_has ls 5 [(4, .int (nI j13)), (3, .int x13_3), (0, .ref (g 0)), (1, .int v0), (2, .int v1)] := hl
        refine lv_iload hx hb (oc_21 13 (aq_13 shX11_lorryOf_0) ub_4) (lvA0 hl) ?_
        have : (nI j13).toInt = ((j13 : Nat) : Int) := nI_toInt (by (first | omega | (have zz0 := Hid.u hb_cn; omega)))
        refine lv_if_lt (tgt := 61) hx hb (oc_155 15 (aq_15 shX11_lorryOf_0) sgw_0_46) rfl (fun c_2 => False.elim (by have tc_2 : ((nI j13).toInt : Int) < 0 := Int32.lt_iff_toInt_lt.mp c_2; (first | omega | (have zz0 := Hid.u hb_cn; omega)))) (fun c_2 => ?_)
        have tc_2 : (0 : Int) ≤ (nI j13).toInt := Int32.le_iff_toInt_le.mp (Int32.not_lt.mp c_2)
        refine lv_aload_n hx hb (oc_42 18 (aq_18 shX11_lorryOf_0)) rfl (lvA2 hl) ?_
        refine gf_RX11_311 S hK hP 0 xo_0 (v := .int (nI (cn 1))) rfl (oc_180 19 (aq_19 shX11_lorryOf_0) uw_1_55) ?_
        have : (nI (cn 1)).toInt = (((cn 1) : Nat) : Int) := nI_toInt (by (first | omega | (have zz0 := Hid.u hb_cn; omega)))
        refine lv_if_le (tgt := 61) hx hb (oc_158 22 (aq_22 shX11_lorryOf_0) sgw_0_39) rfl (fun c_3 => ?_) (fun c_3 => ?_)
        ·
          have tc_3 : ((nI (cn 1)).toInt : Int) ≤ 0 := Int32.le_iff_toInt_le.mp c_3
          refine lv_iconst (v := (-1)) hx hb (oc_2 61 (aq_12 shX11_lorryOf_49)) kic_m1 ?_
          exact W.iret (v := (-1)) hx hb hr (fun t ht hW => ⟨(-1), rfl, trivial, ht⟩) (fun _ h => absurd h List.not_mem_nil) (oc_172 62 (aq_13 shX11_lorryOf_49))
        ·
          have tc_3 : (0 : Int) < (nI (cn 1)).toInt := Int32.lt_iff_toInt_lt.mp (Int32.not_le.mp c_3)
          refine lv_aload_n hx hb (oc_42 25 shX11_lorryOf_25) rfl (lvA2 hl) ?_
          refine gf_RX11_54 S hK hP 0 xo_0 (v := .ref (g 9)) rfl (oc_180 26 (aq_1 shX11_lorryOf_25) uw_0_54) ?_
          refine gf_RX11_306 S hK hP 17 xo_17 (v := .ref (g 30)) rfl (oc_180 29 (aq_4 shX11_lorryOf_25) uw_1_50) ?_
          refine lv_iload hx hb (oc_21 32 (aq_7 shX11_lorryOf_25) ub_4) (lvA0 hl) ?_
          refine vp_callSi (runS_r (As := [.ref (g 30), .int (nI j13)]) (rest := []) S (q_l_at l D cI cB cZ (g 30) 8 (Fn 30) (nI j13) (by (first | omega | (have zz0 := Hid.u hb_cn; omega)))) kS_RX11_192 hK hP [18] (one_is xo_18) ⟨Nat.le_of_ble_eq_true rfl, Nat.le_of_ble_eq_true rfl⟩ ⟨Nat.le_of_ble_eq_true rfl, Nat.le_of_ble_eq_true rfl⟩ rfl hl.1 rfl (Nat.le_of_ble_eq_true rfl) (oc_184 34 (aq_9 shX11_lorryOf_25) uw_0_192)) (fun r_4 h_5 => ?_)
          subst h_5
          refine lv_iload_n hx hb (oc_28 37 (aq_12 shX11_lorryOf_25)) rfl (lvA4 hl) ?_
          refine lv_icmp_ne (tgt := 48) hx hb (oc_160 38 (aq_13 shX11_lorryOf_25) sgw_0_10) rfl (fun c_6 => ?_) (fun c_6 => ?_)
          ·
            have tc_6 : ((atM (Fn 30) 8 (nI j13)).toInt : Int) ≠ v1.toInt := fun q => c_6 (Int32.toInt_inj.mp q)
            refine lv_iload_n hx hb (oc_29 48 (aq_23 shX11_lorryOf_25)) rfl (lvA1 hl) ?_
            refine lv_aload_n hx hb (oc_42 49 shX11_lorryOf_49) rfl (lvA2 hl) ?_
            refine gf_RX11_311 S hK hP 0 xo_0 (v := .int (nI (cn 1))) rfl (oc_180 50 (aq_1 shX11_lorryOf_49) uw_1_55) ?_
            refine lv_idiv hx hb (oc_108 53 (aq_4 shX11_lorryOf_49)) (nI_nz (by (first | omega | (have zz0 := Hid.u hb_cn; omega))) (by (first | omega | (have zz0 := Hid.u hb_cn; omega)))) ?_
            refine lv_istore_n (lv' := [(3, .int (x13_3 / (nI (cn 1)))), (4, .int (nI j13)), (0, .ref (g 0)), (1, .int v0), (2, .int v1)]) hx hb (oc_62 54 (aq_5 shX11_lorryOf_49)) rfl hl (ltb rfl) rfl (fun ls hl => ?_)
            refine lv_iinc (v := ((nI j13) + (-1))) (lv' := [(4, .int ((nI j13) + (-1))), (3, .int (x13_3 / (nI (cn 1)))), (0, .ref (g 0)), (1, .int v0), (2, .int v1)]) hx hb (oc_132 55 (aq_6 shX11_lorryOf_49) ub_4 sgb_255) hl (k := 1) rfl rfl (ltb rfl) rfl (fun ls hl => ?_)
            refine lv_goto (tgt := 13) hx hb (oc_167 58 (aq_9 shX11_lorryOf_49) sgw_255_211) rfl ?_
            exact ih13 (x13_3 / (nI (cn 1))) j13 (by (first | omega | (have zz0 := Hid.u hb_cn; omega))) (by (first | omega | (have zz0 := Hid.u hb_cn; omega))) ls (lv_sub hl [0, 1, 2, 3, 4] rfl)
          ·
            have tc_6 : ((atM (Fn 30) 8 (nI j13)).toInt : Int) = v1.toInt := congrArg Int32.toInt c_6
            refine lv_iload_n hx hb (oc_29 41 (aq_16 shX11_lorryOf_25)) rfl (lvA1 hl) ?_
            refine lv_aload_n hx hb (oc_42 42 (aq_17 shX11_lorryOf_25)) rfl (lvA2 hl) ?_
            refine gf_RX11_311 S hK hP 0 xo_0 (v := .int (nI (cn 1))) rfl (oc_180 43 (aq_18 shX11_lorryOf_25) uw_1_55) ?_
            refine lv_irem hx hb (oc_112 46 (aq_21 shX11_lorryOf_25)) (nI_nz (by (first | omega | (have zz0 := Hid.u hb_cn; omega))) (by (first | omega | (have zz0 := Hid.u hb_cn; omega)))) ?_
            exact W.iret (v := (x13_3 - x13_3 / (nI (cn 1)) * (nI (cn 1)))) hx hb hr (fun t ht hW => ⟨(x13_3 - x13_3 / (nI (cn 1)) * (nI (cn 1))), rfl, trivial, ht⟩) (fun _ h => absurd h List.not_mem_nil) (oc_172 47 (aq_22 shX11_lorryOf_25))
  exact lp_13 _ v0 (cn 4) (Nat.lt_succ_self _) (Nat.le_refl _) ls (lv_sub hl [0, 1, 2, 3, 4] rfl)
set_option maxRecDepth 100000 in
set_option maxHeartbeats 4000000 in
theorem q_XsharedLength (l : Launch) (D : va_G) (cI cB cZ : ClassId) (zz qq vv : Nat) (bt : Nat → Int32) (g : Nat → Nat) (ad : Nat → Nat → Nat) (cn : Nat → Nat) (In : Nat → Int32) (Fn : Nat → Nat → Int32) (v0 v1 : Int32) (hB : CBX cn) : Met l yX11_sharedLength (CWS yX11_sharedLength cX11_sharedLength 6 (some .int)) (RM 2 0 0) (PBrx [.ref (g 0), .int v0, .int v1] D cI cB cZ zz qq vv bt (wX cI (D.1 99) zz g ad cn In Fn)) (vp_Si (fun _ => True)) 0 0 (fun _ => False) := by
  refine en_rx rfl pn_RX11 (Nat.le_of_ble_eq_true rfl) (fun p e s m below meth c hx hb hml hown S hr hlocks hnm hP hK hXS hS ls hl => ?_)
  have hl : lv_has ls 6 [(0, .ref (g 0)), (1, .int v0), (2, .int v1)] := hl
  have hb_cn : Hid (CBX cn) := hB
  replace hB : CBXh cn := hB
  refine lv_iconst (v := 0) hx hb (oc_3 0 shX11_sharedLength_0) kic_0 ?_
  refine lv_istore_n (lv' := [(3, .int 0), (0, .ref (g 0)), (1, .int v0), (2, .int v1)]) hx hb (oc_62 1 (aq_1 shX11_sharedLength_0)) rfl hl (ltb rfl) rfl (fun ls hl => ?_)
  refine lv_iconst (v := 0) hx hb (oc_3 2 (aq_2 shX11_sharedLength_0)) kic_0 ?_
  refine lv_istore (lv' := [(4, .int 0), (3, .int 0), (0, .ref (g 0)), (1, .int v0), (2, .int v1)]) hx hb (oc_54 3 (aq_3 shX11_sharedLength_0) ub_4) hl (ltb rfl) rfl (fun ls hl => ?_)
  have lp_5 : ∀ (n : Nat) (i5 : Nat) (x5_3 : Int32) , cn 1 - i5 < n → (i5 ≤ cn 1) → ∀ ls : Array Slot, lv_has ls 6 [(4, .int (nI i5)), (3, .int x5_3), (0, .ref (g 0)), (1, .int v0), (2, .int v1)] → W p l e (RM 2 0 0) s m ([.ref (g 0), .int v0, .int v1]).toArray below meth c s.heap [] 0 0 (MQ below (vp_Si (fun _ => True)) ([.ref (g 0), .int v0, .int v1]).toArray s 0 0 (fun _ => False)) (F0 m 5 ls []) := by
    intro n5
    induction n5 with
    | zero => intros; (first | omega | (have zz0 := Hid.u hb_cn; omega))
    | succ n5 ih5 =>
      intro i5 x5_3 hmu5 hinv5 ls hl
      have hr5 := hinv5
      have ti5 : (nI i5).toInt = (i5 : Int) := nI_toInt (by (first | omega | (have zz0 := Hid.u hb_cn; omega)))
      refine lv_iload hx hb (oc_21 5 (aq_5 shX11_sharedLength_0) ub_4) (lvA0 hl) ?_
      refine lv_aload_n hx hb (oc_42 7 (aq_7 shX11_sharedLength_0)) rfl (lvA2 hl) ?_
      refine gf_RX11_311 S hK hP 0 xo_0 (v := .int (nI (cn 1))) rfl (oc_180 8 (aq_8 shX11_sharedLength_0) uw_1_55) ?_
      have : (nI (cn 1)).toInt = (((cn 1) : Nat) : Int) := nI_toInt (by (first | omega | (have zz0 := Hid.u hb_cn; omega)))
      refine lv_icmp_ge (tgt := 82) hx hb (oc_162 11 (aq_11 shX11_sharedLength_0) sgw_0_71) rfl (fun c_1 => ?_) (fun c_1 => ?_)
      ·
        have tc_1 : ((nI (cn 1)).toInt : Int) ≤ (nI i5).toInt := Int32.le_iff_toInt_le.mp c_1
        refine lv_iload_n hx hb (oc_29 82 (aq_7 shX11_sharedLength_75)) rfl (lvA1 hl) ?_
        exact W.iret (v := x5_3) hx hb hr (fun t ht hW => ⟨x5_3, rfl, trivial, ht⟩) (fun _ h => absurd h List.not_mem_nil) (oc_172 83 (aq_8 shX11_sharedLength_75))
      ·
        have tc_1 : ((nI i5).toInt : Int) < (nI (cn 1)).toInt := Int32.lt_iff_toInt_lt.mp (Int32.not_le.mp c_1)
        refine lv_aload_n hx hb (oc_42 14 (aq_14 shX11_sharedLength_0)) rfl (lvA2 hl) ?_
        refine lv_iload_n hx hb (oc_27 15 (aq_15 shX11_sharedLength_0)) rfl (lvA3 hl) ?_
        refine lv_iload hx hb (oc_21 16 (aq_16 shX11_sharedLength_0) ub_4) (lvA0 hl) ?_
        refine vp_callSi (runV_rxa (As := [.int v0, .int (nI i5)]) (rest := []) S (q_XstopsOf l D cI cB cZ zz qq vv bt g ad cn In Fn v0 (nI i5) hB) kV_RX11_333 hK hXS hS hP 0 xo_0 rfl rfl ⟨Nat.le_of_ble_eq_true rfl, Nat.le_of_ble_eq_true rfl⟩ ⟨Nat.le_of_ble_eq_true rfl, Nat.le_of_ble_eq_true rfl⟩ rfl hl.1 rfl (Nat.le_of_ble_eq_true rfl) (oc_182 18 (aq_18 shX11_sharedLength_0) uw_1_77)) (fun r_2 h_3 => ?_)
        refine lv_istore (lv' := [(5, .int r_2), (4, .int (nI i5)), (3, .int x5_3), (0, .ref (g 0)), (1, .int v0), (2, .int v1)]) hx hb (oc_54 21 (aq_21 shX11_sharedLength_0) ub_5) hl (ltb rfl) rfl (fun ls hl => ?_)
        refine lv_iload hx hb (oc_21 23 (aq_23 shX11_sharedLength_0) ub_5) (lvA0 hl) ?_
        refine lv_if_eq (tgt := 64) hx hb (oc_153 25 shX11_sharedLength_25 sgw_0_39) rfl (fun c_4 => ?_) (fun c_4 => ?_)
        ·
          have tc_4 : (r_2.toInt : Int) = 0 := congrArg Int32.toInt c_4
          refine lv_iload_n hx hb (oc_29 64 (aq_13 shX11_sharedLength_51)) rfl (lvA2 hl) ?_
          refine lv_aload_n hx hb (oc_42 65 (aq_14 shX11_sharedLength_51)) rfl (lvA3 hl) ?_
          refine gf_RX11_54 S hK hP 0 xo_0 (v := .ref (g 9)) rfl (oc_180 66 (aq_15 shX11_sharedLength_51) uw_0_54) ?_
          refine lv_iload hx hb (oc_21 69 (aq_18 shX11_sharedLength_51) ub_5) (lvA0 hl) ?_
          refine vp_callSi (runV_rxa (As := [.int r_2]) (rest := [.int x5_3]) S (q_XlengthOf l D cI cB cZ zz qq vv bt g ad cn In Fn r_2 hB) kV_RX11_339 hK hXS hS hP 17 xo_17 rfl rfl ⟨Nat.le_of_ble_eq_true rfl, Nat.le_of_ble_eq_true rfl⟩ ⟨Nat.le_of_ble_eq_true rfl, Nat.le_of_ble_eq_true rfl⟩ rfl hl.1 rfl (Nat.le_of_ble_eq_true rfl) (oc_182 71 (aq_20 shX11_sharedLength_51) uw_1_83)) (fun r_5 h_6 => ?_)
          refine lv_iadd hx hb (oc_96 74 (aq_23 shX11_sharedLength_51)) ?_
          refine lv_istore_n (lv' := [(3, .int (x5_3 + r_5)), (5, .int r_2), (4, .int (nI i5)), (0, .ref (g 0)), (1, .int v0), (2, .int v1)]) hx hb (oc_62 75 shX11_sharedLength_75) rfl hl (ltb rfl) rfl (fun ls hl => ?_)
          refine lv_iinc (v := (nI (i5 + 1))) (lv' := [(4, .int (nI (i5 + 1))), (3, .int (x5_3 + r_5)), (5, .int r_2), (0, .ref (g 0)), (1, .int v0), (2, .int v1)]) hx hb (oc_132 76 (aq_1 shX11_sharedLength_75) ub_4 sgb_1) hl (k := 2) rfl (nI_1 _) (ltb rfl) rfl (fun ls hl => ?_)
          refine lv_goto (tgt := 5) hx hb (oc_167 79 (aq_4 shX11_sharedLength_75) sgw_255_182) rfl ?_
          exact ih5 (i5 + 1) (x5_3 + r_5) (by (first | omega | (have zz0 := Hid.u hb_cn; omega))) (by (first | omega | (have zz0 := Hid.u hb_cn; omega))) ls (lv_sub hl [0, 1, 3, 4, 5] rfl)
        ·
          have tc_4 : (r_2.toInt : Int) ≠ 0 := fun q => c_4 (Int32.toInt_inj.mp q)
          refine lv_aload_n hx hb (oc_42 28 (aq_3 shX11_sharedLength_25)) rfl (lvA3 hl) ?_
          refine lv_iload hx hb (oc_21 29 (aq_4 shX11_sharedLength_25) ub_4) (lvA1 hl) ?_
          refine lv_iload_n hx hb (oc_28 31 (aq_6 shX11_sharedLength_25)) rfl (lvA5 hl) ?_
          refine vp_callSi (runV_rxa (As := [.int (nI i5), .int v1]) (rest := []) S (q_XisOff l D cI cB cZ zz qq vv bt g ad cn In Fn (nI i5) v1 hB) kV_RX11_317 hK hXS hS hP 0 xo_0 rfl rfl ⟨Nat.le_of_ble_eq_true rfl, Nat.le_of_ble_eq_true rfl⟩ ⟨Nat.le_of_ble_eq_true rfl, Nat.le_of_ble_eq_true rfl⟩ rfl hl.1 rfl (Nat.le_of_ble_eq_true rfl) (oc_182 32 (aq_7 shX11_sharedLength_25) uw_1_61)) (fun r_7 h_8 => ?_)
          refine lv_if_ne (tgt := 62) hx hb (oc_154 35 (aq_10 shX11_sharedLength_25) sgw_0_27) rfl (fun c_9 => ?_) (fun c_9 => ?_)
          ·
            have tc_9 : (r_7.toInt : Int) ≠ 0 := fun q => c_9 (Int32.toInt_inj.mp q)
            refine lv_iconst (v := (-1)) hx hb (oc_2 62 (aq_11 shX11_sharedLength_51)) kic_m1 ?_
            exact W.iret (v := (-1)) hx hb hr (fun t ht hW => ⟨(-1), rfl, trivial, ht⟩) (fun _ h => absurd h List.not_mem_nil) (oc_172 63 (aq_12 shX11_sharedLength_51))
          ·
            have tc_9 : (r_7.toInt : Int) = 0 := congrArg Int32.toInt c_9
            refine lv_aload_n hx hb (oc_42 38 (aq_13 shX11_sharedLength_25)) rfl (lvA3 hl) ?_
            refine gf_RX11_54 S hK hP 0 xo_0 (v := .ref (g 9)) rfl (oc_180 39 (aq_14 shX11_sharedLength_25) uw_0_54) ?_
            refine lv_iload hx hb (oc_21 42 (aq_17 shX11_sharedLength_25) ub_5) (lvA0 hl) ?_
            refine vp_callSi (runV_rxa (As := [.int r_2]) (rest := []) S (q_XfillOf l D cI cB cZ zz qq vv bt g ad cn In Fn r_2 hB) kV_RX11_336 hK hXS hS hP 17 xo_17 rfl rfl ⟨Nat.le_of_ble_eq_true rfl, Nat.le_of_ble_eq_true rfl⟩ ⟨Nat.le_of_ble_eq_true rfl, Nat.le_of_ble_eq_true rfl⟩ rfl hl.1 rfl (Nat.le_of_ble_eq_true rfl) (oc_182 44 (aq_19 shX11_sharedLength_25) uw_1_80)) (fun r_10 h_11 => ?_)
            refine lv_aload_n hx hb (oc_42 47 (aq_22 shX11_sharedLength_25)) rfl (lvA3 hl) ?_
            refine gf_RX11_47 S hK hP 0 xo_0 (v := .ref (g 8)) rfl (oc_180 48 (aq_23 shX11_sharedLength_25) uw_0_47) ?_
            refine gf_RX11_314 S hK hP 6 xo_6 (v := .ref (g 27)) rfl (oc_180 51 shX11_sharedLength_51 uw_1_58) ?_
            refine lv_iload hx hb (oc_21 54 (aq_3 shX11_sharedLength_51) ub_4) (lvA1 hl) ?_
            refine vp_callSi (runS_r (As := [.ref (g 27), .int (nI i5)]) (rest := [.int r_10]) S (q_l_at l D cI cB cZ (g 27) 3 (Fn 27) (nI i5) (by (first | omega | (have zz0 := Hid.u hb_cn; omega)))) kS_RX11_192 hK hP [14] (one_is xo_14) ⟨Nat.le_of_ble_eq_true rfl, Nat.le_of_ble_eq_true rfl⟩ ⟨Nat.le_of_ble_eq_true rfl, Nat.le_of_ble_eq_true rfl⟩ rfl hl.1 rfl (Nat.le_of_ble_eq_true rfl) (oc_184 56 (aq_5 shX11_sharedLength_51) uw_0_192)) (fun r_12 h_13 => ?_)
            subst h_13
            refine lv_icmp_le (tgt := 64) hx hb (oc_164 59 (aq_8 shX11_sharedLength_51) sgw_0_5) rfl (fun c_14 => ?_) (fun c_14 => ?_)
            ·
              have tc_14 : (r_10.toInt : Int) ≤ (atM (Fn 27) 3 (nI i5)).toInt := Int32.le_iff_toInt_le.mp c_14
              refine lv_iload_n hx hb (oc_29 64 (aq_13 shX11_sharedLength_51)) rfl (lvA2 hl) ?_
              refine lv_aload_n hx hb (oc_42 65 (aq_14 shX11_sharedLength_51)) rfl (lvA3 hl) ?_
              refine gf_RX11_54 S hK hP 0 xo_0 (v := .ref (g 9)) rfl (oc_180 66 (aq_15 shX11_sharedLength_51) uw_0_54) ?_
              refine lv_iload hx hb (oc_21 69 (aq_18 shX11_sharedLength_51) ub_5) (lvA0 hl) ?_
              refine vp_callSi (runV_rxa (As := [.int r_2]) (rest := [.int x5_3]) S (q_XlengthOf l D cI cB cZ zz qq vv bt g ad cn In Fn r_2 hB) kV_RX11_339 hK hXS hS hP 17 xo_17 rfl rfl ⟨Nat.le_of_ble_eq_true rfl, Nat.le_of_ble_eq_true rfl⟩ ⟨Nat.le_of_ble_eq_true rfl, Nat.le_of_ble_eq_true rfl⟩ rfl hl.1 rfl (Nat.le_of_ble_eq_true rfl) (oc_182 71 (aq_20 shX11_sharedLength_51) uw_1_83)) (fun r_15 h_16 => ?_)
              refine lv_iadd hx hb (oc_96 74 (aq_23 shX11_sharedLength_51)) ?_
              refine lv_istore_n (lv' := [(3, .int (x5_3 + r_15)), (5, .int r_2), (4, .int (nI i5)), (0, .ref (g 0)), (1, .int v0), (2, .int v1)]) hx hb (oc_62 75 shX11_sharedLength_75) rfl hl (ltb rfl) rfl (fun ls hl => ?_)
              refine lv_iinc (v := (nI (i5 + 1))) (lv' := [(4, .int (nI (i5 + 1))), (3, .int (x5_3 + r_15)), (5, .int r_2), (0, .ref (g 0)), (1, .int v0), (2, .int v1)]) hx hb (oc_132 76 (aq_1 shX11_sharedLength_75) ub_4 sgb_1) hl (k := 2) rfl (nI_1 _) (ltb rfl) rfl (fun ls hl => ?_)
              refine lv_goto (tgt := 5) hx hb (oc_167 79 (aq_4 shX11_sharedLength_75) sgw_255_182) rfl ?_
              exact ih5 (i5 + 1) (x5_3 + r_15) (by (first | omega | (have zz0 := Hid.u hb_cn; omega))) (by (first | omega | (have zz0 := Hid.u hb_cn; omega))) ls (lv_sub hl [0, 1, 3, 4, 5] rfl)
            ·
              have tc_14 : ((atM (Fn 27) 3 (nI i5)).toInt : Int) < r_10.toInt := Int32.lt_iff_toInt_lt.mp (Int32.not_le.mp c_14)
              refine lv_iconst (v := (-1)) hx hb (oc_2 62 (aq_11 shX11_sharedLength_51)) kic_m1 ?_
              exact W.iret (v := (-1)) hx hb hr (fun t ht hW => ⟨(-1), rfl, trivial, ht⟩) (fun _ h => absurd h List.not_mem_nil) (oc_172 63 (aq_12 shX11_sharedLength_51))
  exact lp_5 _ 0 0 (Nat.lt_succ_self _) (by (first | omega | (have zz0 := Hid.u hb_cn; omega))) ls (lv_sub hl [0, 1, 2, 3, 4] rfl)
set_option maxRecDepth 100000 in
set_option maxHeartbeats 4000000 in
theorem q_XbestShares (l : Launch) (D : va_G) (cI cB cZ : ClassId) (zz qq vv : Nat) (bt : Nat → Int32) (g : Nat → Nat) (ad : Nat → Nat → Nat) (cn : Nat → Nat) (In : Nat → Int32) (Fn : Nat → Nat → Int32) (v0 : Int32) (hB : CBX cn) : Met l yX11_bestShares (CWS yX11_bestShares cX11_bestShares 7 (some .int)) (RM 3 0 0) (PBrx [.ref (g 0), .int v0] D cI cB cZ zz qq vv bt (wX cI (D.1 99) zz g ad cn In Fn)) (vp_Si (fun _ => True)) 0 0 (fun _ => False) := by
  refine en_rx rfl pn_RX11 (Nat.le_of_ble_eq_true rfl) (fun p e s m below meth c hx hb hml hown S hr hlocks hnm hP hK hXS hS ls hl => ?_)
  have hl : lv_has ls 7 [(0, .ref (g 0)), (1, .int v0)] := hl
  have hb_cn : Hid (CBX cn) := hB
  replace hB : CBXh cn := hB
  refine lv_iconst (v := 1) hx hb (oc_4 0 shX11_bestShares_0) kic_1 ?_
  refine lv_istore_n (lv' := [(2, .int 1), (0, .ref (g 0)), (1, .int v0)]) hx hb (oc_61 1 (aq_1 shX11_bestShares_0)) rfl hl (ltb rfl) rfl (fun ls hl => ?_)
  refine lv_iconst (v := 0) hx hb (oc_3 2 (aq_2 shX11_bestShares_0)) kic_0 ?_
  refine lv_istore_n (lv' := [(3, .int 0), (2, .int 1), (0, .ref (g 0)), (1, .int v0)]) hx hb (oc_62 3 (aq_3 shX11_bestShares_0)) rfl hl (ltb rfl) rfl (fun ls hl => ?_)
  have lp_4 : ∀ (n : Nat) (i4 : Nat) (w4 : Nat) , cn 4 - i4 < n → (i4 ≤ cn 4 ∧ (w4 ≤ 3 ^ i4)) → ∀ ls : Array Slot, lv_has ls 7 [(3, .int (nI i4)), (2, .int (nI w4)), (0, .ref (g 0)), (1, .int v0)] → W p l e (RM 3 0 0) s m ([.ref (g 0), .int v0]).toArray below meth c s.heap [] 0 0 (MQ below (vp_Si (fun _ => True)) ([.ref (g 0), .int v0]).toArray s 0 0 (fun _ => False)) (F0 m 4 ls []) := by
    intro n4
    induction n4 with
    | zero => intros; (first | omega | (have zz0 := Hid.u hb_cn; omega))
    | succ n4 ih4 =>
      intro i4 w4 hmu4 hinv4 ls hl
      obtain ⟨hr4, hx4_0⟩ := hinv4
      have ti4 : (nI i4).toInt = (i4 : Int) := nI_toInt (by (first | omega | (have zz0 := Hid.u hb_cn; omega)))
      refine lv_iload_n hx hb (oc_29 4 (aq_4 shX11_bestShares_0)) rfl (lvA0 hl) ?_
      refine lv_aload_n hx hb (oc_42 5 (aq_5 shX11_bestShares_0)) rfl (lvA2 hl) ?_
      refine gf_RX11_54 S hK hP 0 xo_0 (v := .ref (g 9)) rfl (oc_180 6 (aq_6 shX11_bestShares_0) uw_0_54) ?_
      refine gf_RX11_267 S hK hP 17 xo_17 (v := .int (nI (cn 4))) rfl (oc_180 9 (aq_9 shX11_bestShares_0) uw_1_11) ?_
      have : (nI (cn 4)).toInt = (((cn 4) : Nat) : Int) := nI_toInt (by (first | omega | (have zz0 := Hid.u hb_cn; omega)))
      refine lv_icmp_ge (tgt := 28) hx hb (oc_162 12 (aq_12 shX11_bestShares_0) sgw_0_16) rfl (fun c_1 => ?_) (fun c_1 => ?_)
      ·
        have tc_1 : ((nI (cn 4)).toInt : Int) ≤ (nI i4).toInt := Int32.le_iff_toInt_le.mp c_1
        have hw3 : w4 ≤ 6561 := Nat.le_trans hx4_0 (show 3 ^ i4 ≤ 3 ^ 8 from Nat.pow_le_pow_right (by (first | omega | (have zz0 := Hid.u hb_cn; omega))) (by (first | omega | (have zz0 := Hid.u hb_cn; omega))))
        refine lv_iconst (v := (-1)) hx hb (oc_2 28 (aq_3 shX11_bestShares_25)) kic_m1 ?_
        refine lv_istore_n (lv' := [(3, .int (-1)), (2, .int (nI w4)), (0, .ref (g 0)), (1, .int v0)]) hx hb (oc_62 29 (aq_4 shX11_bestShares_25)) rfl hl (ltb rfl) rfl (fun ls hl => ?_)
        refine lv_iconst (v := 0) hx hb (oc_3 30 (aq_5 shX11_bestShares_25)) kic_0 ?_
        refine lv_istore (lv' := [(4, .int 0), (3, .int (-1)), (2, .int (nI w4)), (0, .ref (g 0)), (1, .int v0)]) hx hb (oc_54 31 (aq_6 shX11_bestShares_25) ub_4) hl (ltb rfl) rfl (fun ls hl => ?_)
        refine lv_iconst (v := 0) hx hb (oc_3 33 (aq_8 shX11_bestShares_25)) kic_0 ?_
        refine lv_istore (lv' := [(5, .int 0), (4, .int 0), (3, .int (-1)), (2, .int (nI w4)), (0, .ref (g 0)), (1, .int v0)]) hx hb (oc_54 34 (aq_9 shX11_bestShares_25) ub_5) hl (ltb rfl) rfl (fun ls hl => ?_)
        have lp_36 : ∀ (n : Nat) (i36 : Nat) (x36_3 : Int32) (x36_4 : Int32) , w4 - i36 < n → (i36 ≤ w4) → ∀ ls : Array Slot, lv_has ls 7 [(5, .int (nI i36)), (4, .int x36_4), (3, .int x36_3), (2, .int (nI w4)), (0, .ref (g 0)), (1, .int v0)] → W p l e (RM 3 0 0) s m ([.ref (g 0), .int v0]).toArray below meth c s.heap [] 0 0 (MQ below (vp_Si (fun _ => True)) ([.ref (g 0), .int v0]).toArray s 0 0 (fun _ => False)) (F0 m 36 ls []) := by
          intro n36
          induction n36 with
          | zero => intros; (first | omega | (have zz0 := Hid.u hb_cn; omega))
          | succ n36 ih36 =>
            intro i36 x36_3 x36_4 hmu36 hinv36 ls hl
            have hr36 := hinv36
            have ti36 : (nI i36).toInt = (i36 : Int) := nI_toInt (by (first | omega | (have zz0 := Hid.u hb_cn; omega)))
            refine lv_iload hx hb (oc_21 36 (aq_11 shX11_bestShares_25) ub_5) (lvA0 hl) ?_
            refine lv_iload_n hx hb (oc_28 38 (aq_13 shX11_bestShares_25)) rfl (lvA3 hl) ?_
            have : (nI w4).toInt = ((w4 : Nat) : Int) := nI_toInt (by (first | omega | (have zz0 := Hid.u hb_cn; omega)))
            refine lv_icmp_ge (tgt := 82) hx hb (oc_162 39 (aq_14 shX11_bestShares_25) sgw_0_43) rfl (fun c_2 => ?_) (fun c_2 => ?_)
            ·
              have tc_2 : ((nI w4).toInt : Int) ≤ (nI i36).toInt := Int32.le_iff_toInt_le.mp c_2
              refine lv_iload_n hx hb (oc_29 82 (aq_8 shX11_bestShares_74)) rfl (lvA2 hl) ?_
              exact W.iret (v := x36_3) hx hb hr (fun t ht hW => ⟨x36_3, rfl, trivial, ht⟩) (fun _ h => absurd h List.not_mem_nil) (oc_172 83 (aq_9 shX11_bestShares_74))
            ·
              have tc_2 : ((nI i36).toInt : Int) < (nI w4).toInt := Int32.lt_iff_toInt_lt.mp (Int32.not_le.mp c_2)
              refine lv_aload_n hx hb (oc_42 42 (aq_17 shX11_bestShares_25)) rfl (lvA4 hl) ?_
              refine lv_iload hx hb (oc_21 43 (aq_18 shX11_bestShares_25) ub_5) (lvA0 hl) ?_
              refine lv_iload_n hx hb (oc_27 45 (aq_20 shX11_bestShares_25)) rfl (lvA5 hl) ?_
              refine vp_callSi (runV_rxa (As := [.int (nI i36), .int v0]) (rest := []) S (q_XsharedLength l D cI cB cZ zz qq vv bt g ad cn In Fn (nI i36) v0 hB) kV_RX11_327 hK hXS hS hP 0 xo_0 rfl rfl ⟨Nat.le_of_ble_eq_true rfl, Nat.le_of_ble_eq_true rfl⟩ ⟨Nat.le_of_ble_eq_true rfl, Nat.le_of_ble_eq_true rfl⟩ rfl hl.1 rfl (Nat.le_of_ble_eq_true rfl) (oc_182 46 (aq_21 shX11_bestShares_25) uw_1_71)) (fun r_3 h_4 => ?_)
              refine lv_istore (lv' := [(6, .int r_3), (5, .int (nI i36)), (4, .int x36_4), (3, .int x36_3), (2, .int (nI w4)), (0, .ref (g 0)), (1, .int v0)]) hx hb (oc_54 49 shX11_bestShares_49 ub_6) hl (ltb rfl) rfl (fun ls hl => ?_)
              refine lv_iload hx hb (oc_21 51 (aq_2 shX11_bestShares_49) ub_6) (lvA0 hl) ?_
              refine lv_iconst (v := (-1)) hx hb (oc_2 53 (aq_4 shX11_bestShares_49)) kic_m1 ?_
              refine lv_icmp_eq (tgt := 76) hx hb (oc_159 54 (aq_5 shX11_bestShares_49) sgw_0_22) rfl (fun c_5 => ?_) (fun c_5 => ?_)
              ·
                have tc_5 : (r_3.toInt : Int) = (-1) := congrArg Int32.toInt c_5
                refine lv_iinc (v := (nI (i36 + 1))) (lv' := [(5, .int (nI (i36 + 1))), (6, .int r_3), (4, .int x36_4), (3, .int x36_3), (2, .int (nI w4)), (0, .ref (g 0)), (1, .int v0)]) hx hb dX11_bestShares_76 hl (k := 1) rfl (nI_1 _) (ltb rfl) rfl (fun ls hl => ?_)
                refine lv_goto (tgt := 36) hx hb dX11_bestShares_79 rfl ?_
                exact ih36 (i36 + 1) x36_3 x36_4 (by (first | omega | (have zz0 := Hid.u hb_cn; omega))) (by (first | omega | (have zz0 := Hid.u hb_cn; omega))) ls (lv_sub hl [0, 2, 3, 4, 5, 6] rfl)
              ·
                have tc_5 : (r_3.toInt : Int) ≠ (-1) := fun q => c_5 (Int32.toInt_inj.mp q)
                refine lv_iload_n hx hb (oc_29 57 (aq_8 shX11_bestShares_49)) rfl (lvA3 hl) ?_
                refine lv_iconst (v := (-1)) hx hb (oc_2 58 (aq_9 shX11_bestShares_49)) kic_m1 ?_
                refine lv_icmp_eq (tgt := 69) hx hb (oc_159 59 (aq_10 shX11_bestShares_49) sgw_0_10) rfl (fun c_6 => ?_) (fun c_6 => ?_)
                ·
                  have tc_6 : (x36_3.toInt : Int) = (-1) := congrArg Int32.toInt c_6
                  refine lv_iload hx hb (oc_21 69 (aq_20 shX11_bestShares_49) ub_5) (lvA1 hl) ?_
                  refine lv_istore_n (lv' := [(3, .int (nI i36)), (6, .int r_3), (5, .int (nI i36)), (4, .int x36_4), (2, .int (nI w4)), (0, .ref (g 0)), (1, .int v0)]) hx hb (oc_62 71 (aq_22 shX11_bestShares_49)) rfl hl (ltb rfl) rfl (fun ls hl => ?_)
                  refine lv_iload hx hb (oc_21 72 (aq_23 shX11_bestShares_49) ub_6) (lvA1 hl) ?_
                  refine lv_istore (lv' := [(4, .int r_3), (3, .int (nI i36)), (6, .int r_3), (5, .int (nI i36)), (2, .int (nI w4)), (0, .ref (g 0)), (1, .int v0)]) hx hb (oc_54 74 shX11_bestShares_74 ub_4) hl (ltb rfl) rfl (fun ls hl => ?_)
                  refine lv_iinc (v := (nI (i36 + 1))) (lv' := [(5, .int (nI (i36 + 1))), (4, .int r_3), (3, .int (nI i36)), (6, .int r_3), (2, .int (nI w4)), (0, .ref (g 0)), (1, .int v0)]) hx hb dX11_bestShares_76 hl (k := 3) rfl (nI_1 _) (ltb rfl) rfl (fun ls hl => ?_)
                  refine lv_goto (tgt := 36) hx hb dX11_bestShares_79 rfl ?_
                  exact ih36 (i36 + 1) (nI i36) r_3 (by (first | omega | (have zz0 := Hid.u hb_cn; omega))) (by (first | omega | (have zz0 := Hid.u hb_cn; omega))) ls (lv_sub hl [0, 1, 2, 4, 5, 6] rfl)
                ·
                  have tc_6 : (x36_3.toInt : Int) ≠ (-1) := fun q => c_6 (Int32.toInt_inj.mp q)
                  refine lv_iload hx hb (oc_21 62 (aq_13 shX11_bestShares_49) ub_6) (lvA0 hl) ?_
                  refine lv_iload hx hb (oc_21 64 (aq_15 shX11_bestShares_49) ub_4) (lvA2 hl) ?_
                  refine lv_icmp_ge (tgt := 76) hx hb (oc_162 66 (aq_17 shX11_bestShares_49) sgw_0_10) rfl (fun c_7 => ?_) (fun c_7 => ?_)
                  ·
                    have tc_7 : (x36_4.toInt : Int) ≤ r_3.toInt := Int32.le_iff_toInt_le.mp c_7
                    refine lv_iinc (v := (nI (i36 + 1))) (lv' := [(5, .int (nI (i36 + 1))), (6, .int r_3), (4, .int x36_4), (3, .int x36_3), (2, .int (nI w4)), (0, .ref (g 0)), (1, .int v0)]) hx hb dX11_bestShares_76 hl (k := 1) rfl (nI_1 _) (ltb rfl) rfl (fun ls hl => ?_)
                    refine lv_goto (tgt := 36) hx hb dX11_bestShares_79 rfl ?_
                    exact ih36 (i36 + 1) x36_3 x36_4 (by (first | omega | (have zz0 := Hid.u hb_cn; omega))) (by (first | omega | (have zz0 := Hid.u hb_cn; omega))) ls (lv_sub hl [0, 2, 3, 4, 5, 6] rfl)
                  ·
                    have tc_7 : (r_3.toInt : Int) < x36_4.toInt := Int32.lt_iff_toInt_lt.mp (Int32.not_le.mp c_7)
                    refine lv_iload hx hb (oc_21 69 (aq_20 shX11_bestShares_49) ub_5) (lvA1 hl) ?_
                    refine lv_istore_n (lv' := [(3, .int (nI i36)), (6, .int r_3), (5, .int (nI i36)), (4, .int x36_4), (2, .int (nI w4)), (0, .ref (g 0)), (1, .int v0)]) hx hb (oc_62 71 (aq_22 shX11_bestShares_49)) rfl hl (ltb rfl) rfl (fun ls hl => ?_)
                    refine lv_iload hx hb (oc_21 72 (aq_23 shX11_bestShares_49) ub_6) (lvA1 hl) ?_
                    refine lv_istore (lv' := [(4, .int r_3), (3, .int (nI i36)), (6, .int r_3), (5, .int (nI i36)), (2, .int (nI w4)), (0, .ref (g 0)), (1, .int v0)]) hx hb (oc_54 74 shX11_bestShares_74 ub_4) hl (ltb rfl) rfl (fun ls hl => ?_)
                    refine lv_iinc (v := (nI (i36 + 1))) (lv' := [(5, .int (nI (i36 + 1))), (4, .int r_3), (3, .int (nI i36)), (6, .int r_3), (2, .int (nI w4)), (0, .ref (g 0)), (1, .int v0)]) hx hb dX11_bestShares_76 hl (k := 3) rfl (nI_1 _) (ltb rfl) rfl (fun ls hl => ?_)
                    refine lv_goto (tgt := 36) hx hb dX11_bestShares_79 rfl ?_
                    exact ih36 (i36 + 1) (nI i36) r_3 (by (first | omega | (have zz0 := Hid.u hb_cn; omega))) (by (first | omega | (have zz0 := Hid.u hb_cn; omega))) ls (lv_sub hl [0, 1, 2, 4, 5, 6] rfl)
        exact lp_36 _ 0 (-1) 0 (Nat.lt_succ_self _) (by (first | omega | (have zz0 := Hid.u hb_cn; omega))) ls (lv_sub hl [0, 1, 2, 3, 4, 5] rfl)
      ·
        have tc_1 : ((nI i4).toInt : Int) < (nI (cn 4)).toInt := Int32.lt_iff_toInt_lt.mp (Int32.not_le.mp c_1)
        refine lv_iload_n hx hb (oc_28 15 (aq_15 shX11_bestShares_0)) rfl (lvA1 hl) ?_
        refine lv_aload_n hx hb (oc_42 16 (aq_16 shX11_bestShares_0)) rfl (lvA2 hl) ?_
        refine gf_RX11_311 S hK hP 0 xo_0 (v := .int (nI (cn 1))) rfl (oc_180 17 (aq_17 shX11_bestShares_0) uw_1_55) ?_
        refine lv_imul hx hb (oc_104 20 (aq_20 shX11_bestShares_0)) ?_
        refine lv_topi (fun y_8 ey_8 => ?_)
        obtain rfl : y_8 = (nI (w4 * (cn 1))) := ey_8.trans (pk_mul w4 (cn 1))
        refine lv_istore_n (lv' := [(2, .int (nI (w4 * (cn 1)))), (3, .int (nI i4)), (0, .ref (g 0)), (1, .int v0)]) hx hb (oc_61 21 (aq_21 shX11_bestShares_0)) rfl hl (ltb rfl) rfl (fun ls hl => ?_)
        refine lv_iinc (v := (nI (i4 + 1))) (lv' := [(3, .int (nI (i4 + 1))), (2, .int (nI (w4 * (cn 1)))), (0, .ref (g 0)), (1, .int v0)]) hx hb (oc_132 22 (aq_22 shX11_bestShares_0) ub_3 sgb_1) hl (k := 1) rfl (nI_1 _) (ltb rfl) rfl (fun ls hl => ?_)
        refine lv_goto (tgt := 4) hx hb (oc_167 25 shX11_bestShares_25 sgw_255_235) rfl ?_
        exact ih4 (i4 + 1) (w4 * (cn 1)) (by (first | omega | (have zz0 := Hid.u hb_cn; omega))) ⟨(by (first | omega | (have zz0 := Hid.u hb_cn; omega))), (w3m hx4_0 (by (first | omega | (have zz0 := Hid.u hb_cn; omega))))⟩ ls (lv_sub hl [0, 1, 2, 3] rfl)
  exact lp_4 _ 0 1 (Nat.lt_succ_self _) ⟨(by (first | omega | (have zz0 := Hid.u hb_cn; omega))), (Nat.le_refl _)⟩ ls (lv_sub hl [0, 1, 2, 3] rfl)
set_option maxRecDepth 100000 in
set_option maxHeartbeats 4000000 in
theorem q_Xshared (l : Launch) (D : va_G) (cI cB cZ : ClassId) (zz qq vv : Nat) (bt : Nat → Int32) (g : Nat → Nat) (ad : Nat → Nat → Nat) (cn : Nat → Nat) (In : Nat → Int32) (Fn : Nat → Nat → Int32) (v0 v1 v2 : Int32) (sz : Nat) (hB : CBX cn) : Met l yX11_shared (CWS yX11_shared cX11_shared 6 (some .int)) (RM 7 0 0) (PBx [.ref (g 0), .int v0, .int v1, .int v2] D cI cB cZ zz qq vv bt (wX cI (D.1 99) zz g ad cn In Fn) sz) (va_Qi (fun (r : Int32) (u : (Nat → Nat) × (Nat → Int32) × (Nat → Nat → Int32)) => (fun r c2 I2 F2 => Fr [4] [] [30, 31, 32, 33, 34, 35, 105] cn In Fn c2 I2 F2 ∧ CBX c2 ∧ (True)) r u.1 u.2.1 u.2.2) (fun (u : (Nat → Nat) × (Nat → Int32) × (Nat → Nat → Int32)) (t : State) => va_P D vwCl (wX cI (D.1 99) zz g ad u.1 u.2.1 u.2.2) t.heap ∧ va_D (va_A (wX cI (D.1 99) zz g ad cn In Fn) sz) (wX cI (D.1 99) zz g ad u.1 u.2.1 u.2.2)) (va_A (wX cI (D.1 99) zz g ad cn In Fn) sz)) 0 0 (va_A (wX cI (D.1 99) zz g ad cn In Fn) sz) := by
  refine en_x (fun A => (va_Qi (fun (r : Int32) (u : (Nat → Nat) × (Nat → Int32) × (Nat → Nat → Int32)) => (fun (r : Int32) (c2 : Nat → Nat) (I2 : Nat → Int32) (F2 : Nat → Nat → Int32) => Fr [4] [] [30, 31, 32, 33, 34, 35, 105] cn In Fn c2 I2 F2 ∧ CBX c2 ∧ (True)) r u.1 u.2.1 u.2.2) (fun (u : (Nat → Nat) × (Nat → Int32) × (Nat → Nat → Int32)) (t : State) => va_P D vwCl (wX cI (D.1 99) zz g ad u.1 u.2.1 u.2.2) t.heap ∧ va_D A (wX cI (D.1 99) zz g ad u.1 u.2.1 u.2.2)) A)) rfl rfl pn_RX11 (Nat.le_of_ble_eq_true rfl) (fun p e s m below meth c A hx hb hml hown S hr hlocks hnm hA hP hK hD hXS hS ls hl => ?_)
  have hl : lv_has ls 6 [(0, .ref (g 0)), (1, .int v0), (2, .int v1), (3, .int v2)] := hl
  have hb_cn : Hid (CBX cn) := hB
  replace hB : CBXh cn := hB
  refine lv_iload_n hx hb (oc_29 0 shX11_shared_0) rfl (lvA3 hl) ?_
  refine lv_iconst (v := (-1)) hx hb (oc_2 1 (aq_1 shX11_shared_0)) kic_m1 ?_
  refine lv_icmp_eq (tgt := 13) hx hb (oc_159 2 (aq_2 shX11_shared_0) sgw_0_11) rfl (fun c_1 => ?_) (fun c_1 => ?_)
  ·
    have tc_1 : (v2.toInt : Int) = (-1) := congrArg Int32.toInt c_1
    refine lv_iconst (v := 1) hx hb (oc_4 13 (aq_13 shX11_shared_0)) kic_1 ?_
    refine lv_goto (tgt := 18) hx hb (oc_167 14 (aq_14 shX11_shared_0) sgw_0_4) rfl ?_
    refine lv_istore (lv' := [(4, .int 1), (0, .ref (g 0)), (1, .int v0), (2, .int v1), (3, .int v2)]) hx hb (oc_54 18 (aq_18 shX11_shared_0) ub_4) hl (ltb rfl) rfl (fun ls hl => ?_)
    refine lv_iload_n hx hb (oc_27 20 (aq_20 shX11_shared_0)) rfl (lvA2 hl) ?_
    refine vp_callSi (runS_r (As := [.int v0]) (rest := []) S (q_l_isDay l D cI cB cZ v0) kS_RX11_99 hK hP [] rfl ⟨Nat.le_of_ble_eq_true rfl, Nat.le_of_ble_eq_true rfl⟩ ⟨Nat.le_of_ble_eq_true rfl, Nat.le_of_ble_eq_true rfl⟩ rfl hl.1 rfl (Nat.le_of_ble_eq_true rfl) (oc_184 21 (aq_21 shX11_shared_0) uw_0_99)) (fun r_2 h_3 => ?_)
    rcases h_3 with ⟨rfl, h_3⟩ | ⟨rfl, h_3⟩
    ·
      have h_3 : 0 ≤ v0.toInt ∧ v0.toInt ≤ 399 := h_3
      refine lv_if_eq (tgt := 43) hx hb dX11_shared_24 rfl (fun h => absurd h cq_eq_1_0) (fun _ => ?_)
      refine lv_iload_n hx hb (oc_28 27 (aq_3 shX11_shared_24)) rfl (lvA3 hl) ?_
      refine lv_iconst (v := 1) hx hb (oc_4 28 (aq_4 shX11_shared_24)) kic_1 ?_
      refine lv_sipush (v := 400) hx hb (oc_17 29 (aq_5 shX11_shared_24) sgw_1_144) (by decide) ?_
      refine vp_callSi (runS_r (As := [.int v1, .int 1, .int 400]) (rest := []) S (q_l_within l D cI cB cZ v1 1 400) kS_RX11_80 hK hP [] rfl ⟨Nat.le_of_ble_eq_true rfl, Nat.le_of_ble_eq_true rfl⟩ ⟨Nat.le_of_ble_eq_true rfl, Nat.le_of_ble_eq_true rfl⟩ rfl hl.1 rfl (Nat.le_of_ble_eq_true rfl) (oc_184 32 (aq_8 shX11_shared_24) uw_0_80)) (fun r_4 h_5 => ?_)
      rcases h_5 with ⟨rfl, h_5⟩ | ⟨rfl, h_5⟩
      ·
        have h_5 : 1 ≤ v1.toInt ∧ v1.toInt ≤ 400 := h_5
        refine lv_if_eq (tgt := 43) hx hb dX11_shared_35 rfl (fun h => absurd h cq_eq_1_0) (fun _ => ?_)
        refine lv_iload hx hb (oc_21 38 (aq_14 shX11_shared_24) ub_4) (lvA0 hl) ?_
        refine lv_if_ne (tgt := 45) hx hb (oc_154 40 (aq_16 shX11_shared_24) sgw_0_5) rfl (fun _ => ?_) (fun h => absurd h cq_eq_1_0)
        refine lv_aload_n hx hb (oc_42 45 (aq_21 shX11_shared_24)) rfl (lvA1 hl) ?_
        refine lv_iload_n hx hb (oc_27 46 (aq_22 shX11_shared_24)) rfl (lvA2 hl) ?_
        have hFc := free_all hD hS hA
        refine va_calli (runV_xa (As := [.int v0]) (rest := []) S (q_XstartTrial l D cI cB cZ zz qq vv bt g ad cn In Fn v0 s.heap.size hB) kV_RX11_276 hK hXS hS hFc hP hD 0 xo_0 rfl rfl ⟨Nat.le_of_ble_eq_true rfl, Nat.le_of_ble_eq_true rfl⟩ ⟨Nat.le_of_ble_eq_true rfl, Nat.le_of_ble_eq_true rfl⟩ rfl hl.1 rfl (Nat.le_of_ble_eq_true rfl) (oc_182 47 (aq_23 shX11_shared_24) uw_1_20)) hS (fun q _ h => hFc q h) hFc (fun r_6 u t H1 locs ht hvm wh_7 hB1 hz1 hk1 hS => ?_)
        obtain ⟨cn7, In7, Fn7⟩ := u
        obtain ⟨hP1, hD1⟩ := hB1
        rw [ht] at hP1
        have hP : va_P D vwCl (wX cI (D.1 99) zz g ad cn7 In7 Fn7) H1 := hP1
        have hD : va_D A (wX cI (D.1 99) zz g ad cn7 In7 Fn7) := hD1.weaken (fun _ _ _ h => hFc _ h)
        generalize H1 = H at hP hS ⊢
        have vh_7 : (fun r c2 I2 F2 => Fr [] [] [105] cn In Fn c2 I2 F2 ∧ CBX c2 ∧ (True)) r_6 cn7 In7 Fn7 := wh_7
        obtain ⟨hfc7, hIn7, h_7⟩ := vh_7
        obtain rfl : cn = cn7 := (funext (fun k => hfc7.1 k List.not_mem_nil)).symm
        obtain rfl : In = In7 := (funext (fun k => hfc7.2.1 k List.not_mem_nil)).symm
        have hf7 : Fr [4] [] [30, 31, 32, 33, 34, 35, 105] cn In Fn cn In Fn7 := Fr.mo (Fr.tr (Fr.rf (cn := cn) (In := In) (Fn := Fn)) hfc7) (sbl rfl) (sbl rfl) (sbl rfl)
        replace hIn7 : CBXh cn := hIn7
        refine lv_if_eq (tgt := 64) hx hb (oc_153 50 shX11_shared_50 sgw_0_14) rfl (fun c_8 => ?_) (fun c_8 => ?_)
        ·
          have tc_8 : (r_6.toInt : Int) = 0 := congrArg Int32.toInt c_8
          refine lv_bipush (v := (-2)) hx hb dX11_shared_64 kbc_m2 ?_
          exact W.iret (v := (-2)) hx hb hr (fun t ht hW => ⟨⟨(-2), (cn, In, Fn7), rfl, ⟨(Fr.mo hf7 (sbl rfl) (sbl rfl) (sbl rfl)), hIn7, trivial⟩, by rw [ht]; exact hP, hD⟩, hS.F ht⟩) hS.2.2 dX11_shared_66
        ·
          have tc_8 : (r_6.toInt : Int) ≠ 0 := fun q => c_8 (Int32.toInt_inj.mp q)
          refine lv_aload_n hx hb (oc_42 53 (aq_3 shX11_shared_50)) rfl (lvA1 hl) ?_
          refine lv_iload_n hx hb (oc_27 54 (aq_4 shX11_shared_50)) rfl (lvA2 hl) ?_
          refine lv_iload_n hx hb (oc_28 55 (aq_5 shX11_shared_50)) rfl (lvA3 hl) ?_
          refine lv_bipush (v := 6) hx hb (oc_16 56 (aq_6 shX11_shared_50) sgb_6) kbc_6 ?_
          have hFc := free_all hD hS hA
          refine va_calli (runV_xa (As := [.int v0, .int v1, .int 6]) (rest := []) S (q_XgatherStops l D cI cB cZ zz qq vv bt g ad cn In Fn7 v0 v1 6 H.size hIn7 (by decide)) kV_RX11_279 hK hXS hS hFc hP hD 0 xo_0 rfl rfl ⟨Nat.le_of_ble_eq_true rfl, Nat.le_of_ble_eq_true rfl⟩ ⟨Nat.le_of_ble_eq_true rfl, Nat.le_of_ble_eq_true rfl⟩ rfl hl.1 rfl (Nat.le_of_ble_eq_true rfl) (oc_182 58 (aq_8 shX11_shared_50) uw_1_23)) hS (fun q _ h => hFc q h) hFc (fun r_9 u t H1 locs ht hvm wh_10 hB1 hz1 hk1 hS => ?_)
          obtain ⟨cn10, In10, Fn10⟩ := u
          obtain ⟨hP1, hD1⟩ := hB1
          rw [ht] at hP1
          have hP : va_P D vwCl (wX cI (D.1 99) zz g ad cn10 In10 Fn10) H1 := hP1
          have hD : va_D A (wX cI (D.1 99) zz g ad cn10 In10 Fn10) := hD1.weaken (fun _ _ _ h => hFc _ h)
          generalize H1 = H at hP hS ⊢
          have vh_10 : (fun r c2 I2 F2 => Fr [4] [] [30, 31, 32, 33, 34, 35] cn In Fn7 c2 I2 F2 ∧ CBX c2 ∧ (True)) r_9 cn10 In10 Fn10 := wh_10
          obtain ⟨hfc10, hIn10, h_10⟩ := vh_10
          obtain rfl : In = In10 := (funext (fun k => hfc10.2.1 k List.not_mem_nil)).symm
          have hf10 : Fr [4] [] [30, 31, 32, 33, 34, 35, 105] cn In Fn cn10 In Fn10 := Fr.mo (Fr.tr hf7 hfc10) (sbl rfl) (sbl rfl) (sbl rfl)
          have hb_cn10 : Hid (CBX cn10) := hIn10
          replace hIn10 : CBXh cn10 := hIn10
          have : cn10 6 = (cn 6) := hfc10.1 6 (nml rfl)
          have : cn10 31 = (cn 31) := hfc10.1 31 (nml rfl)
          have : cn10 32 = (cn 32) := hfc10.1 32 (nml rfl)
          have hq_cn10 : Hid (cn10 0 = (cn 0) ∧ cn10 1 = (cn 1) ∧ cn10 2 = (cn 2) ∧ cn10 3 = (cn 3) ∧ cn10 5 = (cn 5) ∧ cn10 10 = (cn 10) ∧ cn10 11 = (cn 11) ∧ cn10 12 = (cn 12) ∧ cn10 13 = (cn 13) ∧ cn10 14 = (cn 14) ∧ cn10 15 = (cn 15) ∧ cn10 20 = (cn 20) ∧ cn10 21 = (cn 21) ∧ cn10 22 = (cn 22) ∧ cn10 23 = (cn 23) ∧ cn10 24 = (cn 24) ∧ cn10 25 = (cn 25)) := Hid.i (p := cn10 0 = (cn 0) ∧ cn10 1 = (cn 1) ∧ cn10 2 = (cn 2) ∧ cn10 3 = (cn 3) ∧ cn10 5 = (cn 5) ∧ cn10 10 = (cn 10) ∧ cn10 11 = (cn 11) ∧ cn10 12 = (cn 12) ∧ cn10 13 = (cn 13) ∧ cn10 14 = (cn 14) ∧ cn10 15 = (cn 15) ∧ cn10 20 = (cn 20) ∧ cn10 21 = (cn 21) ∧ cn10 22 = (cn 22) ∧ cn10 23 = (cn 23) ∧ cn10 24 = (cn 24) ∧ cn10 25 = (cn 25)) ⟨hfc10.1 0 (nml rfl), hfc10.1 1 (nml rfl), hfc10.1 2 (nml rfl), hfc10.1 3 (nml rfl), hfc10.1 5 (nml rfl), hfc10.1 10 (nml rfl), hfc10.1 11 (nml rfl), hfc10.1 12 (nml rfl), hfc10.1 13 (nml rfl), hfc10.1 14 (nml rfl), hfc10.1 15 (nml rfl), hfc10.1 20 (nml rfl), hfc10.1 21 (nml rfl), hfc10.1 22 (nml rfl), hfc10.1 23 (nml rfl), hfc10.1 24 (nml rfl), hfc10.1 25 (nml rfl)⟩
          refine lv_if_ne (tgt := 67) hx hb (oc_154 61 (aq_11 shX11_shared_50) sgw_0_6) rfl (fun c_11 => ?_) (fun c_11 => ?_)
          ·
            have tc_11 : (r_9.toInt : Int) ≠ 0 := fun q => c_11 (Int32.toInt_inj.mp q)
            refine lv_aload_n hx hb (oc_42 67 (aq_17 shX11_shared_50)) rfl (lvA1 hl) ?_
            refine lv_iload_n hx hb (oc_27 68 (aq_18 shX11_shared_50)) rfl (lvA2 hl) ?_
            refine vp_callSi (runV_rxa (As := [.int v0]) (rest := []) S (q_XbestShares l D cI cB cZ zz qq vv bt g ad cn10 In Fn10 v0 hIn10) kV_RX11_324 hK hXS hS hP 0 xo_0 rfl rfl ⟨Nat.le_of_ble_eq_true rfl, Nat.le_of_ble_eq_true rfl⟩ ⟨Nat.le_of_ble_eq_true rfl, Nat.le_of_ble_eq_true rfl⟩ rfl hl.1 rfl (Nat.le_of_ble_eq_true rfl) (oc_182 69 (aq_19 shX11_shared_50) uw_1_68)) (fun r_12 h_13 => ?_)
            refine lv_istore (lv' := [(5, .int r_12), (4, .int 1), (0, .ref (g 0)), (1, .int v0), (2, .int v1), (3, .int v2)]) hx hb (oc_54 72 (aq_22 shX11_shared_50) ub_5) hl (ltb rfl) rfl (fun ls hl => ?_)
            refine lv_iload hx hb (oc_21 74 shX11_shared_74 ub_5) (lvA0 hl) ?_
            refine lv_iconst (v := (-1)) hx hb (oc_2 76 (aq_2 shX11_shared_74)) kic_m1 ?_
            refine lv_icmp_ne (tgt := 83) hx hb (oc_160 77 (aq_3 shX11_shared_74) sgw_0_6) rfl (fun c_14 => ?_) (fun c_14 => ?_)
            ·
              have tc_14 : (r_12.toInt : Int) ≠ (-1) := fun q => c_14 (Int32.toInt_inj.mp q)
              refine lv_iload_n hx hb (oc_29 83 (aq_9 shX11_shared_74)) rfl (lvA5 hl) ?_
              refine lv_iconst (v := (-1)) hx hb (oc_2 84 (aq_10 shX11_shared_74)) kic_m1 ?_
              refine lv_icmp_ne (tgt := 98) hx hb (oc_160 85 (aq_11 shX11_shared_74) sgw_0_13) rfl (fun c_15 => False.elim (by have tc_15 : (v2.toInt : Int) ≠ (-1) := fun q => c_15 (Int32.toInt_inj.mp q); (first | omega | (have zz0 := Hid.u hb_cn; have zz1 := Hid.u hb_cn10; have zz2 := Hid.u hq_cn10; omega)))) (fun c_15 => ?_)
              have tc_15 : (v2.toInt : Int) = (-1) := congrArg Int32.toInt c_15
              refine lv_aload_n hx hb (oc_42 88 (aq_14 shX11_shared_74)) rfl (lvA2 hl) ?_
              refine lv_iload hx hb (oc_21 89 (aq_15 shX11_shared_74) ub_5) (lvA0 hl) ?_
              refine lv_iload_n hx hb (oc_27 91 (aq_17 shX11_shared_74)) rfl (lvA3 hl) ?_
              refine vp_callSi (runV_rxa (As := [.int r_12, .int v0]) (rest := []) S (q_XsharedLength l D cI cB cZ zz qq vv bt g ad cn10 In Fn10 r_12 v0 hIn10) kV_RX11_327 hK hXS hS hP 0 xo_0 rfl rfl ⟨Nat.le_of_ble_eq_true rfl, Nat.le_of_ble_eq_true rfl⟩ ⟨Nat.le_of_ble_eq_true rfl, Nat.le_of_ble_eq_true rfl⟩ rfl hl.1 rfl (Nat.le_of_ble_eq_true rfl) (oc_182 92 (aq_18 shX11_shared_74) uw_1_71)) (fun r_16 h_17 => ?_)
              refine lv_goto (tgt := 105) hx hb (oc_167 95 (aq_21 shX11_shared_74) sgw_0_10) rfl ?_
              exact W.iret (v := r_16) hx hb hr (fun t ht hW => ⟨⟨r_16, (cn10, In, Fn10), rfl, ⟨(Fr.mo hf10 (sbl rfl) (sbl rfl) (sbl rfl)), hIn10, trivial⟩, by rw [ht]; exact hP, hD⟩, hS.F ht⟩) hS.2.2 (oc_172 105 (aq_7 shX11_shared_98))
            ·
              have tc_14 : (r_12.toInt : Int) = (-1) := congrArg Int32.toInt c_14
              refine lv_bipush (v := (-2)) hx hb (oc_16 80 (aq_6 shX11_shared_74) sgb_254) kbc_m2 ?_
              exact W.iret (v := (-2)) hx hb hr (fun t ht hW => ⟨⟨(-2), (cn10, In, Fn10), rfl, ⟨(Fr.mo hf10 (sbl rfl) (sbl rfl) (sbl rfl)), hIn10, trivial⟩, by rw [ht]; exact hP, hD⟩, hS.F ht⟩) hS.2.2 (oc_172 82 (aq_8 shX11_shared_74))
          ·
            have tc_11 : (r_9.toInt : Int) = 0 := congrArg Int32.toInt c_11
            refine lv_bipush (v := (-2)) hx hb dX11_shared_64 kbc_m2 ?_
            exact W.iret (v := (-2)) hx hb hr (fun t ht hW => ⟨⟨(-2), (cn10, In, Fn10), rfl, ⟨(Fr.mo hf10 (sbl rfl) (sbl rfl) (sbl rfl)), hIn10, trivial⟩, by rw [ht]; exact hP, hD⟩, hS.F ht⟩) hS.2.2 dX11_shared_66
      ·
        have h_5 : ¬ (1 ≤ v1.toInt ∧ v1.toInt ≤ 400) := h_5
        refine lv_if_eq (tgt := 43) hx hb dX11_shared_35 rfl (fun _ => ?_) (fun h => absurd h cq_eq_0_0)
        refine lv_iconst (v := (-1)) hx hb dX11_shared_43 kic_m1 ?_
        exact W.iret (v := (-1)) hx hb hr (fun t ht hW => ⟨⟨(-1), (cn, In, Fn), rfl, ⟨(Fr.mo Fr.rf (sbl rfl) (sbl rfl) (sbl rfl)), hB, trivial⟩, by rw [ht]; exact hP, hD⟩, hS.F ht⟩) hS.2.2 dX11_shared_44
    ·
      have h_3 : ¬ (0 ≤ v0.toInt ∧ v0.toInt ≤ 399) := h_3
      refine lv_if_eq (tgt := 43) hx hb dX11_shared_24 rfl (fun _ => ?_) (fun h => absurd h cq_eq_0_0)
      refine lv_iconst (v := (-1)) hx hb dX11_shared_43 kic_m1 ?_
      exact W.iret (v := (-1)) hx hb hr (fun t ht hW => ⟨⟨(-1), (cn, In, Fn), rfl, ⟨(Fr.mo Fr.rf (sbl rfl) (sbl rfl) (sbl rfl)), hB, trivial⟩, by rw [ht]; exact hP, hD⟩, hS.F ht⟩) hS.2.2 dX11_shared_44
  ·
    have tc_1 : (v2.toInt : Int) ≠ (-1) := fun q => c_1 (Int32.toInt_inj.mp q)
    refine lv_aload_n hx hb (oc_42 5 (aq_5 shX11_shared_0)) rfl (lvA0 hl) ?_
    refine lv_iload_n hx hb (oc_29 6 (aq_6 shX11_shared_0)) rfl (lvA3 hl) ?_
    refine va_csq (runV_rxa (As := [.int v2]) (rest := []) S (q_XkitchenAt l D cI cB cZ zz qq vv bt g ad cn In Fn v2 hB) kV_RX11_114 hK hXS hS hP 0 xo_0 rfl rfl ⟨Nat.le_of_ble_eq_true rfl, Nat.le_of_ble_eq_true rfl⟩ ⟨Nat.le_of_ble_eq_true rfl, Nat.le_of_ble_eq_true rfl⟩ rfl hl.1 rfl (Nat.le_of_ble_eq_true rfl) (oc_182 7 (aq_7 shX11_shared_0) uw_0_114)) (fun r_18 h_19 => ?_)
    rcases h_19 with ⟨mr_18, er_18, hr_18, rfl⟩ | ⟨hr_18, rfl⟩
    ·
      refine lv_ifnull hx hb (oc_198 10 (aq_10 shX11_shared_0) sgw_0_7) ?_
      refine lv_iconst (v := 1) hx hb (oc_4 13 (aq_13 shX11_shared_0)) kic_1 ?_
      refine lv_goto (tgt := 18) hx hb (oc_167 14 (aq_14 shX11_shared_0) sgw_0_4) rfl ?_
      refine lv_istore (lv' := [(4, .int 1), (0, .ref (g 0)), (1, .int v0), (2, .int v1), (3, .int v2)]) hx hb (oc_54 18 (aq_18 shX11_shared_0) ub_4) hl (ltb rfl) rfl (fun ls hl => ?_)
      refine lv_iload_n hx hb (oc_27 20 (aq_20 shX11_shared_0)) rfl (lvA2 hl) ?_
      refine vp_callSi (runS_r (As := [.int v0]) (rest := []) S (q_l_isDay l D cI cB cZ v0) kS_RX11_99 hK hP [] rfl ⟨Nat.le_of_ble_eq_true rfl, Nat.le_of_ble_eq_true rfl⟩ ⟨Nat.le_of_ble_eq_true rfl, Nat.le_of_ble_eq_true rfl⟩ rfl hl.1 rfl (Nat.le_of_ble_eq_true rfl) (oc_184 21 (aq_21 shX11_shared_0) uw_0_99)) (fun r_20 h_21 => ?_)
      rcases h_21 with ⟨rfl, h_21⟩ | ⟨rfl, h_21⟩
      ·
        have h_21 : 0 ≤ v0.toInt ∧ v0.toInt ≤ 399 := h_21
        refine lv_if_eq (tgt := 43) hx hb dX11_shared_24 rfl (fun h => absurd h cq_eq_1_0) (fun _ => ?_)
        refine lv_iload_n hx hb (oc_28 27 (aq_3 shX11_shared_24)) rfl (lvA3 hl) ?_
        refine lv_iconst (v := 1) hx hb (oc_4 28 (aq_4 shX11_shared_24)) kic_1 ?_
        refine lv_sipush (v := 400) hx hb (oc_17 29 (aq_5 shX11_shared_24) sgw_1_144) (by decide) ?_
        refine vp_callSi (runS_r (As := [.int v1, .int 1, .int 400]) (rest := []) S (q_l_within l D cI cB cZ v1 1 400) kS_RX11_80 hK hP [] rfl ⟨Nat.le_of_ble_eq_true rfl, Nat.le_of_ble_eq_true rfl⟩ ⟨Nat.le_of_ble_eq_true rfl, Nat.le_of_ble_eq_true rfl⟩ rfl hl.1 rfl (Nat.le_of_ble_eq_true rfl) (oc_184 32 (aq_8 shX11_shared_24) uw_0_80)) (fun r_22 h_23 => ?_)
        rcases h_23 with ⟨rfl, h_23⟩ | ⟨rfl, h_23⟩
        ·
          have h_23 : 1 ≤ v1.toInt ∧ v1.toInt ≤ 400 := h_23
          refine lv_if_eq (tgt := 43) hx hb dX11_shared_35 rfl (fun h => absurd h cq_eq_1_0) (fun _ => ?_)
          refine lv_iload hx hb (oc_21 38 (aq_14 shX11_shared_24) ub_4) (lvA0 hl) ?_
          refine lv_if_ne (tgt := 45) hx hb (oc_154 40 (aq_16 shX11_shared_24) sgw_0_5) rfl (fun _ => ?_) (fun h => absurd h cq_eq_1_0)
          refine lv_aload_n hx hb (oc_42 45 (aq_21 shX11_shared_24)) rfl (lvA1 hl) ?_
          refine lv_iload_n hx hb (oc_27 46 (aq_22 shX11_shared_24)) rfl (lvA2 hl) ?_
          have hFc := free_all hD hS hA
          refine va_calli (runV_xa (As := [.int v0]) (rest := []) S (q_XstartTrial l D cI cB cZ zz qq vv bt g ad cn In Fn v0 s.heap.size hB) kV_RX11_276 hK hXS hS hFc hP hD 0 xo_0 rfl rfl ⟨Nat.le_of_ble_eq_true rfl, Nat.le_of_ble_eq_true rfl⟩ ⟨Nat.le_of_ble_eq_true rfl, Nat.le_of_ble_eq_true rfl⟩ rfl hl.1 rfl (Nat.le_of_ble_eq_true rfl) (oc_182 47 (aq_23 shX11_shared_24) uw_1_20)) hS (fun q _ h => hFc q h) hFc (fun r_24 u t H1 locs ht hvm wh_25 hB1 hz1 hk1 hS => ?_)
          obtain ⟨cn25, In25, Fn25⟩ := u
          obtain ⟨hP1, hD1⟩ := hB1
          rw [ht] at hP1
          have hP : va_P D vwCl (wX cI (D.1 99) zz g ad cn25 In25 Fn25) H1 := hP1
          have hD : va_D A (wX cI (D.1 99) zz g ad cn25 In25 Fn25) := hD1.weaken (fun _ _ _ h => hFc _ h)
          generalize H1 = H at hP hS ⊢
          have vh_25 : (fun r c2 I2 F2 => Fr [] [] [105] cn In Fn c2 I2 F2 ∧ CBX c2 ∧ (True)) r_24 cn25 In25 Fn25 := wh_25
          obtain ⟨hfc25, hIn25, h_25⟩ := vh_25
          obtain rfl : cn = cn25 := (funext (fun k => hfc25.1 k List.not_mem_nil)).symm
          obtain rfl : In = In25 := (funext (fun k => hfc25.2.1 k List.not_mem_nil)).symm
          have hf25 : Fr [4] [] [30, 31, 32, 33, 34, 35, 105] cn In Fn cn In Fn25 := Fr.mo (Fr.tr (Fr.rf (cn := cn) (In := In) (Fn := Fn)) hfc25) (sbl rfl) (sbl rfl) (sbl rfl)
          replace hIn25 : CBXh cn := hIn25
          refine lv_if_eq (tgt := 64) hx hb (oc_153 50 shX11_shared_50 sgw_0_14) rfl (fun c_26 => ?_) (fun c_26 => ?_)
          ·
            have tc_26 : (r_24.toInt : Int) = 0 := congrArg Int32.toInt c_26
            refine lv_bipush (v := (-2)) hx hb dX11_shared_64 kbc_m2 ?_
            exact W.iret (v := (-2)) hx hb hr (fun t ht hW => ⟨⟨(-2), (cn, In, Fn25), rfl, ⟨(Fr.mo hf25 (sbl rfl) (sbl rfl) (sbl rfl)), hIn25, trivial⟩, by rw [ht]; exact hP, hD⟩, hS.F ht⟩) hS.2.2 dX11_shared_66
          ·
            have tc_26 : (r_24.toInt : Int) ≠ 0 := fun q => c_26 (Int32.toInt_inj.mp q)
            refine lv_aload_n hx hb (oc_42 53 (aq_3 shX11_shared_50)) rfl (lvA1 hl) ?_
            refine lv_iload_n hx hb (oc_27 54 (aq_4 shX11_shared_50)) rfl (lvA2 hl) ?_
            refine lv_iload_n hx hb (oc_28 55 (aq_5 shX11_shared_50)) rfl (lvA3 hl) ?_
            refine lv_bipush (v := 6) hx hb (oc_16 56 (aq_6 shX11_shared_50) sgb_6) kbc_6 ?_
            have hFc := free_all hD hS hA
            refine va_calli (runV_xa (As := [.int v0, .int v1, .int 6]) (rest := []) S (q_XgatherStops l D cI cB cZ zz qq vv bt g ad cn In Fn25 v0 v1 6 H.size hIn25 (by decide)) kV_RX11_279 hK hXS hS hFc hP hD 0 xo_0 rfl rfl ⟨Nat.le_of_ble_eq_true rfl, Nat.le_of_ble_eq_true rfl⟩ ⟨Nat.le_of_ble_eq_true rfl, Nat.le_of_ble_eq_true rfl⟩ rfl hl.1 rfl (Nat.le_of_ble_eq_true rfl) (oc_182 58 (aq_8 shX11_shared_50) uw_1_23)) hS (fun q _ h => hFc q h) hFc (fun r_27 u t H1 locs ht hvm wh_28 hB1 hz1 hk1 hS => ?_)
            obtain ⟨cn28, In28, Fn28⟩ := u
            obtain ⟨hP1, hD1⟩ := hB1
            rw [ht] at hP1
            have hP : va_P D vwCl (wX cI (D.1 99) zz g ad cn28 In28 Fn28) H1 := hP1
            have hD : va_D A (wX cI (D.1 99) zz g ad cn28 In28 Fn28) := hD1.weaken (fun _ _ _ h => hFc _ h)
            generalize H1 = H at hP hS ⊢
            have vh_28 : (fun r c2 I2 F2 => Fr [4] [] [30, 31, 32, 33, 34, 35] cn In Fn25 c2 I2 F2 ∧ CBX c2 ∧ (True)) r_27 cn28 In28 Fn28 := wh_28
            obtain ⟨hfc28, hIn28, h_28⟩ := vh_28
            obtain rfl : In = In28 := (funext (fun k => hfc28.2.1 k List.not_mem_nil)).symm
            have hf28 : Fr [4] [] [30, 31, 32, 33, 34, 35, 105] cn In Fn cn28 In Fn28 := Fr.mo (Fr.tr hf25 hfc28) (sbl rfl) (sbl rfl) (sbl rfl)
            have hb_cn28 : Hid (CBX cn28) := hIn28
            replace hIn28 : CBXh cn28 := hIn28
            have : cn28 6 = (cn 6) := hfc28.1 6 (nml rfl)
            have : cn28 31 = (cn 31) := hfc28.1 31 (nml rfl)
            have : cn28 32 = (cn 32) := hfc28.1 32 (nml rfl)
            have hq_cn28 : Hid (cn28 0 = (cn 0) ∧ cn28 1 = (cn 1) ∧ cn28 2 = (cn 2) ∧ cn28 3 = (cn 3) ∧ cn28 5 = (cn 5) ∧ cn28 10 = (cn 10) ∧ cn28 11 = (cn 11) ∧ cn28 12 = (cn 12) ∧ cn28 13 = (cn 13) ∧ cn28 14 = (cn 14) ∧ cn28 15 = (cn 15) ∧ cn28 20 = (cn 20) ∧ cn28 21 = (cn 21) ∧ cn28 22 = (cn 22) ∧ cn28 23 = (cn 23) ∧ cn28 24 = (cn 24) ∧ cn28 25 = (cn 25)) := Hid.i (p := cn28 0 = (cn 0) ∧ cn28 1 = (cn 1) ∧ cn28 2 = (cn 2) ∧ cn28 3 = (cn 3) ∧ cn28 5 = (cn 5) ∧ cn28 10 = (cn 10) ∧ cn28 11 = (cn 11) ∧ cn28 12 = (cn 12) ∧ cn28 13 = (cn 13) ∧ cn28 14 = (cn 14) ∧ cn28 15 = (cn 15) ∧ cn28 20 = (cn 20) ∧ cn28 21 = (cn 21) ∧ cn28 22 = (cn 22) ∧ cn28 23 = (cn 23) ∧ cn28 24 = (cn 24) ∧ cn28 25 = (cn 25)) ⟨hfc28.1 0 (nml rfl), hfc28.1 1 (nml rfl), hfc28.1 2 (nml rfl), hfc28.1 3 (nml rfl), hfc28.1 5 (nml rfl), hfc28.1 10 (nml rfl), hfc28.1 11 (nml rfl), hfc28.1 12 (nml rfl), hfc28.1 13 (nml rfl), hfc28.1 14 (nml rfl), hfc28.1 15 (nml rfl), hfc28.1 20 (nml rfl), hfc28.1 21 (nml rfl), hfc28.1 22 (nml rfl), hfc28.1 23 (nml rfl), hfc28.1 24 (nml rfl), hfc28.1 25 (nml rfl)⟩
            refine lv_if_ne (tgt := 67) hx hb (oc_154 61 (aq_11 shX11_shared_50) sgw_0_6) rfl (fun c_29 => ?_) (fun c_29 => ?_)
            ·
              have tc_29 : (r_27.toInt : Int) ≠ 0 := fun q => c_29 (Int32.toInt_inj.mp q)
              refine lv_aload_n hx hb (oc_42 67 (aq_17 shX11_shared_50)) rfl (lvA1 hl) ?_
              refine lv_iload_n hx hb (oc_27 68 (aq_18 shX11_shared_50)) rfl (lvA2 hl) ?_
              refine vp_callSi (runV_rxa (As := [.int v0]) (rest := []) S (q_XbestShares l D cI cB cZ zz qq vv bt g ad cn28 In Fn28 v0 hIn28) kV_RX11_324 hK hXS hS hP 0 xo_0 rfl rfl ⟨Nat.le_of_ble_eq_true rfl, Nat.le_of_ble_eq_true rfl⟩ ⟨Nat.le_of_ble_eq_true rfl, Nat.le_of_ble_eq_true rfl⟩ rfl hl.1 rfl (Nat.le_of_ble_eq_true rfl) (oc_182 69 (aq_19 shX11_shared_50) uw_1_68)) (fun r_30 h_31 => ?_)
              refine lv_istore (lv' := [(5, .int r_30), (4, .int 1), (0, .ref (g 0)), (1, .int v0), (2, .int v1), (3, .int v2)]) hx hb (oc_54 72 (aq_22 shX11_shared_50) ub_5) hl (ltb rfl) rfl (fun ls hl => ?_)
              refine lv_iload hx hb (oc_21 74 shX11_shared_74 ub_5) (lvA0 hl) ?_
              refine lv_iconst (v := (-1)) hx hb (oc_2 76 (aq_2 shX11_shared_74)) kic_m1 ?_
              refine lv_icmp_ne (tgt := 83) hx hb (oc_160 77 (aq_3 shX11_shared_74) sgw_0_6) rfl (fun c_32 => ?_) (fun c_32 => ?_)
              ·
                have tc_32 : (r_30.toInt : Int) ≠ (-1) := fun q => c_32 (Int32.toInt_inj.mp q)
                refine lv_iload_n hx hb (oc_29 83 (aq_9 shX11_shared_74)) rfl (lvA5 hl) ?_
                refine lv_iconst (v := (-1)) hx hb (oc_2 84 (aq_10 shX11_shared_74)) kic_m1 ?_
                refine lv_icmp_ne (tgt := 98) hx hb (oc_160 85 (aq_11 shX11_shared_74) sgw_0_13) rfl (fun c_33 => ?_) (fun c_33 => ?_)
                ·
                  have tc_33 : (v2.toInt : Int) ≠ (-1) := fun q => c_33 (Int32.toInt_inj.mp q)
                  refine lv_aload_n hx hb (oc_42 98 shX11_shared_98) rfl (lvA2 hl) ?_
                  refine lv_iload hx hb (oc_21 99 (aq_1 shX11_shared_98) ub_5) (lvA0 hl) ?_
                  refine lv_iload_n hx hb (oc_29 101 (aq_3 shX11_shared_98)) rfl (lvA5 hl) ?_
                  refine vp_callSi (runV_rxa (As := [.int r_30, .int v2]) (rest := []) S (q_XlorryOf l D cI cB cZ zz qq vv bt g ad cn28 In Fn28 r_30 v2 hIn28) kV_RX11_330 hK hXS hS hP 0 xo_0 rfl rfl ⟨Nat.le_of_ble_eq_true rfl, Nat.le_of_ble_eq_true rfl⟩ ⟨Nat.le_of_ble_eq_true rfl, Nat.le_of_ble_eq_true rfl⟩ rfl hl.1 rfl (Nat.le_of_ble_eq_true rfl) (oc_182 102 (aq_4 shX11_shared_98) uw_1_74)) (fun r_34 h_35 => ?_)
                  exact W.iret (v := r_34) hx hb hr (fun t ht hW => ⟨⟨r_34, (cn28, In, Fn28), rfl, ⟨(Fr.mo hf28 (sbl rfl) (sbl rfl) (sbl rfl)), hIn28, trivial⟩, by rw [ht]; exact hP, hD⟩, hS.F ht⟩) hS.2.2 (oc_172 105 (aq_7 shX11_shared_98))
                ·
                  have tc_33 : (v2.toInt : Int) = (-1) := congrArg Int32.toInt c_33
                  refine lv_aload_n hx hb (oc_42 88 (aq_14 shX11_shared_74)) rfl (lvA2 hl) ?_
                  refine lv_iload hx hb (oc_21 89 (aq_15 shX11_shared_74) ub_5) (lvA0 hl) ?_
                  refine lv_iload_n hx hb (oc_27 91 (aq_17 shX11_shared_74)) rfl (lvA3 hl) ?_
                  refine vp_callSi (runV_rxa (As := [.int r_30, .int v0]) (rest := []) S (q_XsharedLength l D cI cB cZ zz qq vv bt g ad cn28 In Fn28 r_30 v0 hIn28) kV_RX11_327 hK hXS hS hP 0 xo_0 rfl rfl ⟨Nat.le_of_ble_eq_true rfl, Nat.le_of_ble_eq_true rfl⟩ ⟨Nat.le_of_ble_eq_true rfl, Nat.le_of_ble_eq_true rfl⟩ rfl hl.1 rfl (Nat.le_of_ble_eq_true rfl) (oc_182 92 (aq_18 shX11_shared_74) uw_1_71)) (fun r_36 h_37 => ?_)
                  refine lv_goto (tgt := 105) hx hb (oc_167 95 (aq_21 shX11_shared_74) sgw_0_10) rfl ?_
                  exact W.iret (v := r_36) hx hb hr (fun t ht hW => ⟨⟨r_36, (cn28, In, Fn28), rfl, ⟨(Fr.mo hf28 (sbl rfl) (sbl rfl) (sbl rfl)), hIn28, trivial⟩, by rw [ht]; exact hP, hD⟩, hS.F ht⟩) hS.2.2 (oc_172 105 (aq_7 shX11_shared_98))
              ·
                have tc_32 : (r_30.toInt : Int) = (-1) := congrArg Int32.toInt c_32
                refine lv_bipush (v := (-2)) hx hb (oc_16 80 (aq_6 shX11_shared_74) sgb_254) kbc_m2 ?_
                exact W.iret (v := (-2)) hx hb hr (fun t ht hW => ⟨⟨(-2), (cn28, In, Fn28), rfl, ⟨(Fr.mo hf28 (sbl rfl) (sbl rfl) (sbl rfl)), hIn28, trivial⟩, by rw [ht]; exact hP, hD⟩, hS.F ht⟩) hS.2.2 (oc_172 82 (aq_8 shX11_shared_74))
            ·
              have tc_29 : (r_27.toInt : Int) = 0 := congrArg Int32.toInt c_29
              refine lv_bipush (v := (-2)) hx hb dX11_shared_64 kbc_m2 ?_
              exact W.iret (v := (-2)) hx hb hr (fun t ht hW => ⟨⟨(-2), (cn28, In, Fn28), rfl, ⟨(Fr.mo hf28 (sbl rfl) (sbl rfl) (sbl rfl)), hIn28, trivial⟩, by rw [ht]; exact hP, hD⟩, hS.F ht⟩) hS.2.2 dX11_shared_66
        ·
          have h_23 : ¬ (1 ≤ v1.toInt ∧ v1.toInt ≤ 400) := h_23
          refine lv_if_eq (tgt := 43) hx hb dX11_shared_35 rfl (fun _ => ?_) (fun h => absurd h cq_eq_0_0)
          refine lv_iconst (v := (-1)) hx hb dX11_shared_43 kic_m1 ?_
          exact W.iret (v := (-1)) hx hb hr (fun t ht hW => ⟨⟨(-1), (cn, In, Fn), rfl, ⟨(Fr.mo Fr.rf (sbl rfl) (sbl rfl) (sbl rfl)), hB, trivial⟩, by rw [ht]; exact hP, hD⟩, hS.F ht⟩) hS.2.2 dX11_shared_44
      ·
        have h_21 : ¬ (0 ≤ v0.toInt ∧ v0.toInt ≤ 399) := h_21
        refine lv_if_eq (tgt := 43) hx hb dX11_shared_24 rfl (fun _ => ?_) (fun h => absurd h cq_eq_0_0)
        refine lv_iconst (v := (-1)) hx hb dX11_shared_43 kic_m1 ?_
        exact W.iret (v := (-1)) hx hb hr (fun t ht hW => ⟨⟨(-1), (cn, In, Fn), rfl, ⟨(Fr.mo Fr.rf (sbl rfl) (sbl rfl) (sbl rfl)), hB, trivial⟩, by rw [ht]; exact hP, hD⟩, hS.F ht⟩) hS.2.2 dX11_shared_44
    ·
      refine lv_ifnullN (tgt := 17) hx hb (oc_198 10 (aq_10 shX11_shared_0) sgw_0_7) rfl ?_
      refine lv_iconst (v := 0) hx hb (oc_3 17 (aq_17 shX11_shared_0)) kic_0 ?_
      refine lv_istore (lv' := [(4, .int 0), (0, .ref (g 0)), (1, .int v0), (2, .int v1), (3, .int v2)]) hx hb (oc_54 18 (aq_18 shX11_shared_0) ub_4) hl (ltb rfl) rfl (fun ls hl => ?_)
      refine lv_iload_n hx hb (oc_27 20 (aq_20 shX11_shared_0)) rfl (lvA2 hl) ?_
      refine vp_callSi (runS_r (As := [.int v0]) (rest := []) S (q_l_isDay l D cI cB cZ v0) kS_RX11_99 hK hP [] rfl ⟨Nat.le_of_ble_eq_true rfl, Nat.le_of_ble_eq_true rfl⟩ ⟨Nat.le_of_ble_eq_true rfl, Nat.le_of_ble_eq_true rfl⟩ rfl hl.1 rfl (Nat.le_of_ble_eq_true rfl) (oc_184 21 (aq_21 shX11_shared_0) uw_0_99)) (fun r_38 h_39 => ?_)
      rcases h_39 with ⟨rfl, h_39⟩ | ⟨rfl, h_39⟩
      ·
        have h_39 : 0 ≤ v0.toInt ∧ v0.toInt ≤ 399 := h_39
        refine lv_if_eq (tgt := 43) hx hb dX11_shared_24 rfl (fun h => absurd h cq_eq_1_0) (fun _ => ?_)
        refine lv_iload_n hx hb (oc_28 27 (aq_3 shX11_shared_24)) rfl (lvA3 hl) ?_
        refine lv_iconst (v := 1) hx hb (oc_4 28 (aq_4 shX11_shared_24)) kic_1 ?_
        refine lv_sipush (v := 400) hx hb (oc_17 29 (aq_5 shX11_shared_24) sgw_1_144) (by decide) ?_
        refine vp_callSi (runS_r (As := [.int v1, .int 1, .int 400]) (rest := []) S (q_l_within l D cI cB cZ v1 1 400) kS_RX11_80 hK hP [] rfl ⟨Nat.le_of_ble_eq_true rfl, Nat.le_of_ble_eq_true rfl⟩ ⟨Nat.le_of_ble_eq_true rfl, Nat.le_of_ble_eq_true rfl⟩ rfl hl.1 rfl (Nat.le_of_ble_eq_true rfl) (oc_184 32 (aq_8 shX11_shared_24) uw_0_80)) (fun r_40 h_41 => ?_)
        rcases h_41 with ⟨rfl, h_41⟩ | ⟨rfl, h_41⟩
        ·
          have h_41 : 1 ≤ v1.toInt ∧ v1.toInt ≤ 400 := h_41
          refine lv_if_eq (tgt := 43) hx hb dX11_shared_35 rfl (fun h => absurd h cq_eq_1_0) (fun _ => ?_)
          refine lv_iload hx hb (oc_21 38 (aq_14 shX11_shared_24) ub_4) (lvA0 hl) ?_
          refine lv_if_ne (tgt := 45) hx hb (oc_154 40 (aq_16 shX11_shared_24) sgw_0_5) rfl (fun h => absurd h cq_eq_0_0) (fun _ => ?_)
          refine lv_iconst (v := (-1)) hx hb dX11_shared_43 kic_m1 ?_
          exact W.iret (v := (-1)) hx hb hr (fun t ht hW => ⟨⟨(-1), (cn, In, Fn), rfl, ⟨(Fr.mo Fr.rf (sbl rfl) (sbl rfl) (sbl rfl)), hB, trivial⟩, by rw [ht]; exact hP, hD⟩, hS.F ht⟩) hS.2.2 dX11_shared_44
        ·
          have h_41 : ¬ (1 ≤ v1.toInt ∧ v1.toInt ≤ 400) := h_41
          refine lv_if_eq (tgt := 43) hx hb dX11_shared_35 rfl (fun _ => ?_) (fun h => absurd h cq_eq_0_0)
          refine lv_iconst (v := (-1)) hx hb dX11_shared_43 kic_m1 ?_
          exact W.iret (v := (-1)) hx hb hr (fun t ht hW => ⟨⟨(-1), (cn, In, Fn), rfl, ⟨(Fr.mo Fr.rf (sbl rfl) (sbl rfl) (sbl rfl)), hB, trivial⟩, by rw [ht]; exact hP, hD⟩, hS.F ht⟩) hS.2.2 dX11_shared_44
      ·
        have h_39 : ¬ (0 ≤ v0.toInt ∧ v0.toInt ≤ 399) := h_39
        refine lv_if_eq (tgt := 43) hx hb dX11_shared_24 rfl (fun _ => ?_) (fun h => absurd h cq_eq_0_0)
        refine lv_iconst (v := (-1)) hx hb dX11_shared_43 kic_m1 ?_
        exact W.iret (v := (-1)) hx hb hr (fun t ht hW => ⟨⟨(-1), (cn, In, Fn), rfl, ⟨(Fr.mo Fr.rf (sbl rfl) (sbl rfl) (sbl rfl)), hB, trivial⟩, by rw [ht]; exact hP, hD⟩, hS.F ht⟩) hS.2.2 dX11_shared_44
