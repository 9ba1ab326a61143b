theorem i32n (x : Int32) : x.toInt.toNat < 2147483648 := by
  have := Int32.toInt_lt x
  omega
theorem dec_toInt {x : Int32} (h : 1 ≤ x.toInt) : (x - 1).toInt = x.toInt - 1 := by
  have b := Int32.toInt_lt x
  rw [Int32.toInt_sub]
  exact Int.bmod_eq_of_le (by show -(2 ^ 31 : Int) ≤ x.toInt - 1; omega) (by show x.toInt - 1 < (2 ^ 31 : Int); omega)
theorem inc_toInt {x y : Int32} (h : x.toInt < y.toInt) : (x + 1).toInt = x.toInt + 1 := by
  have a := Int32.toInt_lt y
  have b := Int32.le_toInt x
  rw [Int32.toInt_add]
  exact Int.bmod_eq_of_le (by show -(2 ^ 31 : Int) ≤ x.toInt + 1; omega) (by show x.toInt + 1 < (2 ^ 31 : Int); omega)

set_option maxRecDepth 100000 in
theorem kV_RJ0_335 : CalV RJ0 335 yJ0_coder_7d493 cJ0_coder_7d493 1 (some .byte) 0 := ⟨⟨wk1_10 2 rfl rfl, wk1_10 3 rfl rfl, wk1_10 4 rfl rfl, wk1_0 6 rfl rfl, wk1_10 5 rfl rfl⟩, ⟨nmh_16.1, nmh_16.2, pd_0⟩⟩
set_option maxRecDepth 100000 in
theorem kS_RJ1_88 : CalS RJ1 88 yJ1_canEncode_9a6ad cJ1_canEncode_9a6ad 1 (some .boolean) 1 := ⟨⟨wk3_8 9 rfl rfl, wk3_8 10 rfl rfl, wk1_1 8 rfl rfl, wk3_8 11 rfl rfl⟩, ⟨nmh_17.1, nmh_17.2, pd_15⟩⟩
theorem cq_lt_0_11 : ¬¬((0 : Int32) < 11) := by decide
set_option maxRecDepth 100000 in
theorem kS_RJ1_95 : CalS RJ1 95 yJ1_indexOfChar_4cfef cJ1_indexOfChar_4cfef 6 (some .int) 4 := ⟨⟨wk3_9 2 rfl rfl, wk3_9 3 rfl rfl, wk1_1 8 rfl rfl, wk3_9 4 rfl rfl⟩, ⟨nmh_17.1, nmh_17.2, pd_64⟩⟩
set_option maxRecDepth 100000 in
theorem kV_RJ0_492 : CalV RJ0 492 yJ0_isLatin1_aae02 cJ0_isLatin1_aae02 1 (some .boolean) 0 := ⟨⟨wk3_8 1 rfl rfl, wk3_8 2 rfl rfl, wk3_8 3 rfl rfl, wk1_0 6 rfl rfl, wk3_8 4 rfl rfl⟩, ⟨nmh_16.1, nmh_16.2, pd_3⟩⟩
set_option maxRecDepth 100000 in
theorem kV_RJ0_505 : CalV RJ0 505 yJ0_length_8abf5 cJ0_length_8abf5 1 (some .int) 0 := ⟨⟨wk3_8 5 rfl rfl, wk1_9 11 rfl rfl, wk1_10 0 rfl rfl, wk1_0 6 rfl rfl, wk1_10 1 rfl rfl⟩, ⟨nmh_16.1, nmh_16.2, pd_1⟩⟩
set_option maxRecDepth 100000 in
theorem kS_RJ0_637 : CalS RJ0 637 yJ1_indexOf_4cfef cJ1_indexOf_4cfef 4 (some .int) 4 := ⟨⟨wk3_8 6 rfl rfl, wk3_8 7 rfl rfl, wk1_1 8 rfl rfl, wk3_8 8 rfl rfl⟩, ⟨nmh_17.1, nmh_17.2, pd_64⟩⟩
set_option maxRecDepth 100000 in
theorem kV_RJ0_633 : CalV RJ0 633 yJ0_indexOf_7cf53 cJ0_indexOf_7cf53 3 (some .int) 2 := ⟨⟨wk3_7 9 rfl rfl, wk3_7 10 rfl rfl, wk3_7 11 rfl rfl, wk1_0 6 rfl rfl, wk3_8 0 rfl rfl⟩, ⟨nmh_16.1, nmh_16.2, pd_17⟩⟩
set_option maxRecDepth 100000 in
theorem gf_RX9_55 {p : Program} {l : Launch} {e : Env} {R : Room} {s : State} {m : MethodId} {args : Array Value} {below : List Frame} {meth : Method} {c : Code} {H : Heap} {locs : List Loc} {cells slots : Nat} {Q : State → Prop} {cc : ByteArray} {nL pc : Nat} {D : va_G} {cI cB cZ : ClassId} {ws : va_W} {rest : List Value} {ls : Array Slot} {a : Nat} {fs : List Value} {v : Value} (S : SF p m c cc nL s args RX9) (hK : KK D cI cB cZ s) (hP : va_P D vwCl ws H) (q0 : Nat) (he : ws[q0]? = some (a, .inr (10, fs))) (hv : fs[6]? = some v) (hdg : decode cc pc = .ok (.getfield 55, 3)) (kk : W p l e R s m args below meth c H locs cells slots Q (F0 m (pc + 3) ls (v :: rest))) : W p l e R s m args below meth c H locs cells slots Q (F0 m pc ls (.ref a :: rest)) :=
  va_get (C := RX9) (T := TX9) (N := 9) S.1 S.2.1 S.2.2.2.2 hin_RX9 S.2.2.2.1 hK.1 hP q0 he rfl 6 (by decide) (S.2.2.2.2 _ (wk1_4 2 rfl rfl)) (fun _ h9 => h9) hv hdg kk
set_option maxRecDepth 100000 in
theorem gf_RX9_30 {p : Program} {l : Launch} {e : Env} {R : Room} {s : State} {m : MethodId} {args : Array Value} {below : List Frame} {meth : Method} {c : Code} {H : Heap} {locs : List Loc} {cells slots : Nat} {Q : State → Prop} {cc : ByteArray} {nL pc : Nat} {D : va_G} {cI cB cZ : ClassId} {ws : va_W} {rest : List Value} {ls : Array Slot} {a : Nat} {fs : List Value} {v : Value} (S : SF p m c cc nL s args RX9) (hK : KK D cI cB cZ s) (hP : va_P D vwCl ws H) (q0 : Nat) (he : ws[q0]? = some (a, .inr (10, fs))) (hv : fs[4]? = some v) (hdg : decode cc pc = .ok (.getfield 30, 3)) (kk : W p l e R s m args below meth c H locs cells slots Q (F0 m (pc + 3) ls (v :: rest))) : W p l e R s m args below meth c H locs cells slots Q (F0 m pc ls (.ref a :: rest)) :=
  va_get (C := RX9) (T := TX9) (N := 9) S.1 S.2.1 S.2.2.2.2 hin_RX9 S.2.2.2.1 hK.1 hP q0 he rfl 4 (by decide) (S.2.2.2.2 _ (wk1_4 0 rfl rfl)) (fun _ h9 => h9) hv hdg kk
set_option maxRecDepth 100000 in
theorem pf_RX9_55 {p : Program} {l : Launch} {e : Env} {R : Room} {s : State} {m : MethodId} {args : Array Value} {below : List Frame} {meth : Method} {c : Code} {H : Heap} {locs : List Loc} {cells slots : Nat} {Q : State → Prop} {cc : ByteArray} {nL pc : Nat} {D : va_G} {cI cB cZ : ClassId} {ws : va_W} {rest : List Value} {ls : Array Slot} {a : Nat} {fs : List Value} {v : Value} {A : Nat → Prop} {H0 : Heap} (S : SF p m c cc nL s args RX9) (hK : KK D cI cB cZ s) (hP : va_P D vwCl ws H) (hD : va_D A ws) (hS : va_S A H0 H locs) (q0 : Nat) (he : ws[q0]? = some (a, .inr (10, fs))) (hl : 6 < fs.length) (hn : narrow (tyX9 6) v = v) (hfit : fits (tyX9 6) v = true) (hdg : decode cc pc = .ok (.putfield 55, 3)) (kk : ∀ (H1 : Heap) (locs1 : List Loc), va_P D vwCl (ws.set q0 (a, .inr (10, fs.set 6 v))) H1 → va_D A (ws.set q0 (a, .inr (10, fs.set 6 v))) → va_S A H0 H1 locs1 → W p l e R s m args below meth c H1 locs1 cells slots Q (F0 m (pc + 3) ls rest)) : W p l e R s m args below meth c H locs cells slots Q (F0 m pc ls (v :: .ref a :: rest)) :=
  va_put (C := RX9) (T := TX9) (N := 9) S.1 S.2.1 S.2.2.2.2 hin_RX9 tyX9 tyX9_ok nmX9 S.2.2.2.1 hK.1 hP hD hS q0 he rfl 6 (by decide) (S.2.2.2.2 _ (wk1_4 2 rfl rfl)) (fun _ h9 => h9) rfl (tyX9_ok 6 (by decide)) hn hfit hl hdg kk
set_option maxRecDepth 100000 in
theorem kV_RX9_67 : CalV RX9 67 yX9_pop cX9_pop 1 (some .int) 0 := ⟨⟨wk4_1 10 rfl rfl, wk4_2 0 rfl rfl, wT_sel 25 _ rfl rfl rfl, wk1_0 2 rfl rfl, wk4_2 1 rfl rfl⟩, ⟨nmh_10.1, nmh_10.2, pd_1⟩⟩
set_option maxRecDepth 100000 in
theorem kV_RX9_63 : CalV RX9 63 yX9_push cX9_push 2 none 1 := ⟨⟨wk4_1 6 rfl rfl, wk4_1 8 rfl rfl, wT_sel 24 _ rfl rfl rfl, wk1_0 2 rfl rfl, wk4_1 9 rfl rfl⟩, ⟨nmh_10.1, nmh_10.2, pd_14⟩⟩
set_option maxRecDepth 100000 in
theorem pf_RX9_58 {p : Program} {l : Launch} {e : Env} {R : Room} {s : State} {m : MethodId} {args : Array Value} {below : List Frame} {meth : Method} {c : Code} {H : Heap} {locs : List Loc} {cells slots : Nat} {Q : State → Prop} {cc : ByteArray} {nL pc : Nat} {D : va_G} {cI cB cZ : ClassId} {ws : va_W} {rest : List Value} {ls : Array Slot} {a : Nat} {fs : List Value} {v : Value} {A : Nat → Prop} {H0 : Heap} (S : SF p m c cc nL s args RX9) (hK : KK D cI cB cZ s) (hP : va_P D vwCl ws H) (hD : va_D A ws) (hS : va_S A H0 H locs) (q0 : Nat) (he : ws[q0]? = some (a, .inr (10, fs))) (hl : 7 < fs.length) (hn : narrow (tyX9 7) v = v) (hfit : fits (tyX9 7) v = true) (hdg : decode cc pc = .ok (.putfield 58, 3)) (kk : ∀ (H1 : Heap) (locs1 : List Loc), va_P D vwCl (ws.set q0 (a, .inr (10, fs.set 7 v))) H1 → va_D A (ws.set q0 (a, .inr (10, fs.set 7 v))) → va_S A H0 H1 locs1 → W p l e R s m args below meth c H1 locs1 cells slots Q (F0 m (pc + 3) ls rest)) : W p l e R s m args below meth c H locs cells slots Q (F0 m pc ls (v :: .ref a :: rest)) :=
  va_put (C := RX9) (T := TX9) (N := 9) S.1 S.2.1 S.2.2.2.2 hin_RX9 tyX9 tyX9_ok nmX9 S.2.2.2.1 hK.1 hP hD hS q0 he rfl 7 (by decide) (S.2.2.2.2 _ (wk1_4 3 rfl rfl)) (fun _ h9 => h9) rfl (tyX9_ok 7 (by decide)) hn hfit hl hdg kk
set_option maxRecDepth 100000 in
theorem kV_RX9_79 : CalV RX9 79 yX9_divide cX9_divide 4 (some .int) 3 := ⟨⟨wk4_2 10 rfl rfl, wk4_3 0 rfl rfl, wT_sel 28 _ rfl rfl rfl, wk1_0 2 rfl rfl, wk4_3 1 rfl rfl⟩, ⟨nmh_10.1, nmh_10.2, pd_22⟩⟩
set_option maxRecDepth 100000 in
theorem gf_RX9_58 {p : Program} {l : Launch} {e : Env} {R : Room} {s : State} {m : MethodId} {args : Array Value} {below : List Frame} {meth : Method} {c : Code} {H : Heap} {locs : List Loc} {cells slots : Nat} {Q : State → Prop} {cc : ByteArray} {nL pc : Nat} {D : va_G} {cI cB cZ : ClassId} {ws : va_W} {rest : List Value} {ls : Array Slot} {a : Nat} {fs : List Value} {v : Value} (S : SF p m c cc nL s args RX9) (hK : KK D cI cB cZ s) (hP : va_P D vwCl ws H) (q0 : Nat) (he : ws[q0]? = some (a, .inr (10, fs))) (hv : fs[7]? = some v) (hdg : decode cc pc = .ok (.getfield 58, 3)) (kk : W p l e R s m args below meth c H locs cells slots Q (F0 m (pc + 3) ls (v :: rest))) : W p l e R s m args below meth c H locs cells slots Q (F0 m pc ls (.ref a :: rest)) :=
  va_get (C := RX9) (T := TX9) (N := 9) S.1 S.2.1 S.2.2.2.2 hin_RX9 S.2.2.2.1 hK.1 hP q0 he rfl 7 (by decide) (S.2.2.2.2 _ (wk1_4 3 rfl rfl)) (fun _ h9 => h9) hv hdg kk
set_option maxRecDepth 100000 in
theorem gf_RX9_17 {p : Program} {l : Launch} {e : Env} {R : Room} {s : State} {m : MethodId} {args : Array Value} {below : List Frame} {meth : Method} {c : Code} {H : Heap} {locs : List Loc} {cells slots : Nat} {Q : State → Prop} {cc : ByteArray} {nL pc : Nat} {D : va_G} {cI cB cZ : ClassId} {ws : va_W} {rest : List Value} {ls : Array Slot} {a : Nat} {fs : List Value} {v : Value} (S : SF p m c cc nL s args RX9) (hK : KK D cI cB cZ s) (hP : va_P D vwCl ws H) (q0 : Nat) (he : ws[q0]? = some (a, .inr (10, fs))) (hv : fs[0]? = some v) (hdg : decode cc pc = .ok (.getfield 17, 3)) (kk : W p l e R s m args below meth c H locs cells slots Q (F0 m (pc + 3) ls (v :: rest))) : W p l e R s m args below meth c H locs cells slots Q (F0 m pc ls (.ref a :: rest)) :=
  va_get (C := RX9) (T := TX9) (N := 9) S.1 S.2.1 S.2.2.2.2 hin_RX9 S.2.2.2.1 hK.1 hP q0 he rfl 0 (by decide) (S.2.2.2.2 _ (wk1_3 8 rfl rfl)) (fun _ h9 => h9) hv hdg kk
set_option maxRecDepth 100000 in
theorem kS_RX9_37 : CalS RX9 37 yX7_at cX7_at 2 (some .int) 2 := ⟨⟨wk3_17 1 rfl rfl, wk3_1 8 rfl rfl, wk1_0 7 rfl rfl, wk3_1 9 rfl rfl⟩, ⟨nmh_8.1, nmh_8.2, pd_67⟩⟩
set_option maxRecDepth 100000 in
theorem kV_RX9_75 : CalV RX9 75 yX9_reckon cX9_reckon 4 (some .int) 3 := ⟨⟨wk4_2 6 rfl rfl, wk4_2 8 rfl rfl, wT_sel 27 _ rfl rfl rfl, wk1_0 2 rfl rfl, wk4_2 9 rfl rfl⟩, ⟨nmh_10.1, nmh_10.2, pd_22⟩⟩
set_option maxRecDepth 100000 in
theorem kV_RX9_71 : CalV RX9 71 yX9_decided cX9_decided 3 (some .boolean) 1 := ⟨⟨wk4_2 2 rfl rfl, wk4_2 4 rfl rfl, wT_sel 26 _ rfl rfl rfl, wk1_0 2 rfl rfl, wk4_2 5 rfl rfl⟩, ⟨nmh_10.1, nmh_10.2, pd_15⟩⟩
set_option maxRecDepth 100000 in
theorem gf_RX9_48 {p : Program} {l : Launch} {e : Env} {R : Room} {s : State} {m : MethodId} {args : Array Value} {below : List Frame} {meth : Method} {c : Code} {H : Heap} {locs : List Loc} {cells slots : Nat} {Q : State → Prop} {cc : ByteArray} {nL pc : Nat} {D : va_G} {cI cB cZ : ClassId} {ws : va_W} {rest : List Value} {ls : Array Slot} {a : Nat} {fs : List Value} {v : Value} (S : SF p m c cc nL s args RX9) (hK : KK D cI cB cZ s) (hP : va_P D vwCl ws H) (q0 : Nat) (he : ws[q0]? = some (a, .inr (10, fs))) (hv : fs[8]? = some v) (hdg : decode cc pc = .ok (.getfield 48, 3)) (kk : W p l e R s m args below meth c H locs cells slots Q (F0 m (pc + 3) ls (v :: rest))) : W p l e R s m args below meth c H locs cells slots Q (F0 m pc ls (.ref a :: rest)) :=
  va_get (C := RX9) (T := TX9) (N := 9) S.1 S.2.1 S.2.2.2.2 hin_RX9 S.2.2.2.1 hK.1 hP q0 he rfl 8 (by decide) (S.2.2.2.2 _ (wk1_4 4 rfl rfl)) (fun _ h9 => h9) hv hdg kk
set_option maxRecDepth 100000 in
theorem gf_RX9_24 {p : Program} {l : Launch} {e : Env} {R : Room} {s : State} {m : MethodId} {args : Array Value} {below : List Frame} {meth : Method} {c : Code} {H : Heap} {locs : List Loc} {cells slots : Nat} {Q : State → Prop} {cc : ByteArray} {nL pc : Nat} {D : va_G} {cI cB cZ : ClassId} {ws : va_W} {rest : List Value} {ls : Array Slot} {a : Nat} {fs : List Value} {v : Value} (S : SF p m c cc nL s args RX9) (hK : KK D cI cB cZ s) (hP : va_P D vwCl ws H) (q0 : Nat) (he : ws[q0]? = some (a, .inr (10, fs))) (hv : fs[2]? = some v) (hdg : decode cc pc = .ok (.getfield 24, 3)) (kk : W p l e R s m args below meth c H locs cells slots Q (F0 m (pc + 3) ls (v :: rest))) : W p l e R s m args below meth c H locs cells slots Q (F0 m pc ls (.ref a :: rest)) :=
  va_get (C := RX9) (T := TX9) (N := 9) S.1 S.2.1 S.2.2.2.2 hin_RX9 S.2.2.2.1 hK.1 hP q0 he rfl 2 (by decide) (S.2.2.2.2 _ (wk1_3 10 rfl rfl)) (fun _ h9 => h9) hv hdg kk
set_option maxRecDepth 100000 in
theorem gf_RX9_27 {p : Program} {l : Launch} {e : Env} {R : Room} {s : State} {m : MethodId} {args : Array Value} {below : List Frame} {meth : Method} {c : Code} {H : Heap} {locs : List Loc} {cells slots : Nat} {Q : State → Prop} {cc : ByteArray} {nL pc : Nat} {D : va_G} {cI cB cZ : ClassId} {ws : va_W} {rest : List Value} {ls : Array Slot} {a : Nat} {fs : List Value} {v : Value} (S : SF p m c cc nL s args RX9) (hK : KK D cI cB cZ s) (hP : va_P D vwCl ws H) (q0 : Nat) (he : ws[q0]? = some (a, .inr (10, fs))) (hv : fs[3]? = some v) (hdg : decode cc pc = .ok (.getfield 27, 3)) (kk : W p l e R s m args below meth c H locs cells slots Q (F0 m (pc + 3) ls (v :: rest))) : W p l e R s m args below meth c H locs cells slots Q (F0 m pc ls (.ref a :: rest)) :=
  va_get (C := RX9) (T := TX9) (N := 9) S.1 S.2.1 S.2.2.2.2 hin_RX9 S.2.2.2.1 hK.1 hP q0 he rfl 3 (by decide) (S.2.2.2.2 _ (wk1_3 11 rfl rfl)) (fun _ h9 => h9) hv hdg kk
set_option maxRecDepth 100000 in
theorem kV_RX9_51 : CalV RX9 51 yX9_run cX9_run 9 (some .int) 3 := ⟨⟨wk4_1 1 rfl rfl, wk4_1 3 rfl rfl, wT_sel 23 _ rfl rfl rfl, wk1_0 2 rfl rfl, wk4_1 4 rfl rfl⟩, ⟨nmh_10.1, nmh_10.2, pd_40⟩⟩
set_option maxRecDepth 100000 in
theorem gf_RX9_21 {p : Program} {l : Launch} {e : Env} {R : Room} {s : State} {m : MethodId} {args : Array Value} {below : List Frame} {meth : Method} {c : Code} {H : Heap} {locs : List Loc} {cells slots : Nat} {Q : State → Prop} {cc : ByteArray} {nL pc : Nat} {D : va_G} {cI cB cZ : ClassId} {ws : va_W} {rest : List Value} {ls : Array Slot} {a : Nat} {fs : List Value} {v : Value} (S : SF p m c cc nL s args RX9) (hK : KK D cI cB cZ s) (hP : va_P D vwCl ws H) (q0 : Nat) (he : ws[q0]? = some (a, .inr (10, fs))) (hv : fs[1]? = some v) (hdg : decode cc pc = .ok (.getfield 21, 3)) (kk : W p l e R s m args below meth c H locs cells slots Q (F0 m (pc + 3) ls (v :: rest))) : W p l e R s m args below meth c H locs cells slots Q (F0 m pc ls (.ref a :: rest)) :=
  va_get (C := RX9) (T := TX9) (N := 9) S.1 S.2.1 S.2.2.2.2 hin_RX9 S.2.2.2.1 hK.1 hP q0 he rfl 1 (by decide) (S.2.2.2.2 _ (wk1_3 9 rfl rfl)) (fun _ h9 => h9) hv hdg kk
set_option maxRecDepth 100000 in
theorem gf_RX11_40 {p : Program} {l : Launch} {e : Env} {R : Room} {s : State} {m : MethodId} {args : Array Value} {below : List Frame} {meth : Method} {c : Code} {H : Heap} {locs : List Loc} {cells slots : Nat} {Q : State → Prop} {cc : ByteArray} {nL pc : Nat} {D : va_G} {cI cB cZ : ClassId} {ws : va_W} {rest : List Value} {ls : Array Slot} {a : Nat} {fs : List Value} {v : Value} (S : SF p m c cc nL s args RX11) (hK : KK D cI cB cZ s) (hP : va_P D vwCl ws H) (q0 : Nat) (he : ws[q0]? = some (a, .inr (12, fs))) (hv : fs[7]? = some v) (hdg : decode cc pc = .ok (.getfield 40, 3)) (kk : W p l e R s m args below meth c H locs cells slots Q (F0 m (pc + 3) ls (v :: rest))) : W p l e R s m args below meth c H locs cells slots Q (F0 m pc ls (.ref a :: rest)) :=
  va_get (C := RX11) (T := TX11) (N := 16) S.1 S.2.1 S.2.2.2.2 hin_RX11 S.2.2.2.1 hK.1 hP q0 he rfl 7 (by decide) (S.2.2.2.2 _ (wk2_0 3 rfl rfl)) (fun _ h9 => h9) hv hdg kk
set_option maxRecDepth 100000 in
theorem kV_RX11_181 : CalV RX11 181 yJ0_indexOf_0f7a4 cJ0_indexOf_0f7a4 2 (some .int) 1 := ⟨⟨wk4_0 6 rfl rfl, wk3_7 6 rfl rfl, wk3_7 7 rfl rfl, wk1_0 6 rfl rfl, wk3_7 8 rfl rfl⟩, ⟨nmh_16.1, nmh_16.2, pd_8⟩⟩
set_option maxRecDepth 100000 in
theorem kV_RX11_188 : CalV RX11 188 yX11_letter cX11_letter 3 none 2 := ⟨⟨wk4_0 2 rfl rfl, wk4_0 4 rfl rfl, wT_sel 22 _ rfl rfl rfl, wk1_0 1 rfl rfl, wk4_0 5 rfl rfl⟩, ⟨nmh_0.1, nmh_0.2, pd_6⟩⟩
set_option maxRecDepth 100000 in
theorem kV_RX11_199 : CalV RX11 199 yX11_lettersOfDay cX11_lettersOfDay 2 none 1 := ⟨⟨wk3_19 10 rfl rfl, wk4_0 0 rfl rfl, wT_sel 21 _ rfl rfl rfl, wk1_0 1 rfl rfl, wk4_0 1 rfl rfl⟩, ⟨nmh_0.1, nmh_0.2, pd_14⟩⟩
set_option maxRecDepth 100000 in
theorem gf_RX11_208 {p : Program} {l : Launch} {e : Env} {R : Room} {s : State} {m : MethodId} {args : Array Value} {below : List Frame} {meth : Method} {c : Code} {H : Heap} {locs : List Loc} {cells slots : Nat} {Q : State → Prop} {cc : ByteArray} {nL pc : Nat} {D : va_G} {cI cB cZ : ClassId} {ws : va_W} {rest : List Value} {ls : Array Slot} {a : Nat} {fs : List Value} {v : Value} (S : SF p m c cc nL s args RX11) (hK : KK D cI cB cZ s) (hP : va_P D vwCl ws H) (q0 : Nat) (he : ws[q0]? = some (a, .inr (3, fs))) (hv : fs[4]? = some v) (hdg : decode cc pc = .ok (.getfield 208, 3)) (kk : W p l e R s m args below meth c H locs cells slots Q (F0 m (pc + 3) ls (v :: rest))) : W p l e R s m args below meth c H locs cells slots Q (F0 m pc ls (.ref a :: rest)) :=
  va_get (C := RX2) (T := TX2) (N := 10) S.1 S.2.1 S.2.2.2.2 hin_RX2 S.2.2.2.1 hK.1 hP q0 he rfl 4 (by decide) (S.2.2.2.2 _ (wk2_18 6 rfl rfl)) (fun _ h9 => h9) hv hdg kk
set_option maxRecDepth 100000 in
theorem gf_RX11_134 {p : Program} {l : Launch} {e : Env} {R : Room} {s : State} {m : MethodId} {args : Array Value} {below : List Frame} {meth : Method} {c : Code} {H : Heap} {locs : List Loc} {cells slots : Nat} {Q : State → Prop} {cc : ByteArray} {nL pc : Nat} {D : va_G} {cI cB cZ : ClassId} {ws : va_W} {rest : List Value} {ls : Array Slot} {a : Nat} {fs : List Value} {v : Value} (S : SF p m c cc nL s args RX11) (hK : KK D cI cB cZ s) (hP : va_P D vwCl ws H) (q0 : Nat) (he : ws[q0]? = some (a, .inr (3, fs))) (hv : fs[7]? = some v) (hdg : decode cc pc = .ok (.getfield 134, 3)) (kk : W p l e R s m args below meth c H locs cells slots Q (F0 m (pc + 3) ls (v :: rest))) : W p l e R s m args below meth c H locs cells slots Q (F0 m pc ls (.ref a :: rest)) :=
  va_get (C := RX2) (T := TX2) (N := 10) S.1 S.2.1 S.2.2.2.2 hin_RX2 S.2.2.2.1 hK.1 hP q0 he rfl 7 (by decide) (S.2.2.2.2 _ (wk2_18 10 rfl rfl)) (fun _ h9 => h9) hv hdg kk
set_option maxRecDepth 100000 in
theorem kV_RX11_214 : CalV RX11 214 yX11_lettersOfLoad cX11_lettersOfLoad 2 none 1 := ⟨⟨wk3_19 6 rfl rfl, wk3_19 8 rfl rfl, wT_sel 20 _ rfl rfl rfl, wk1_0 1 rfl rfl, wk3_19 9 rfl rfl⟩, ⟨nmh_0.1, nmh_0.2, pd_51⟩⟩
set_option maxRecDepth 100000 in
theorem kV_RX11_218 : CalV RX11 218 yX9_firstThat cX9_firstThat 5 (some .int) 2 := ⟨⟨wk4_0 9 rfl rfl, wk4_0 10 rfl rfl, wk4_0 11 rfl rfl, wk1_0 2 rfl rfl, wk4_1 0 rfl rfl⟩, ⟨nmh_10.1, nmh_10.2, pd_61⟩⟩
set_option maxRecDepth 100000 in
theorem kV_RX11_223 : CalV RX11 223 yX9_sum cX9_sum 3 (some .int) 2 := ⟨⟨wk4_3 3 rfl rfl, wk4_3 4 rfl rfl, wk4_3 5 rfl rfl, wk1_0 2 rfl rfl, wk4_3 6 rfl rfl⟩, ⟨nmh_10.1, nmh_10.2, pd_44⟩⟩
set_option maxRecDepth 100000 in
theorem kV_RX11_238 : CalV RX11 238 yX11_penceBy cX11_penceBy 4 (some .int) 2 := ⟨⟨wk3_19 2 rfl rfl, wk3_19 4 rfl rfl, wT_sel 19 _ rfl rfl rfl, wk1_0 1 rfl rfl, wk3_19 5 rfl rfl⟩, ⟨nmh_0.1, nmh_0.2, pd_56⟩⟩
set_option maxRecDepth 100000 in
theorem kV_RX11_242 : CalV RX11 242 yX11_penceTogether cX11_penceTogether 7 (some .int) 3 := ⟨⟨wk4_4 1 rfl rfl, wk4_4 3 rfl rfl, wT_sel 29 _ rfl rfl rfl, wk1_0 1 rfl rfl, wk4_4 4 rfl rfl⟩, ⟨nmh_0.1, nmh_0.2, pd_36⟩⟩
noncomputable def sxJ0_coder_7d493_15 : List UInt8 := []
noncomputable def sxJ0_coder_7d493_14 : List UInt8 := 172 :: sxJ0_coder_7d493_15
noncomputable def sxJ0_coder_7d493_13 : List UInt8 := 4 :: sxJ0_coder_7d493_14
noncomputable def sxJ0_coder_7d493_10 : List UInt8 := 167 :: 0 :: 4 :: sxJ0_coder_7d493_13
noncomputable def sxJ0_coder_7d493_7 : List UInt8 := 180 :: 0 :: 15 :: sxJ0_coder_7d493_10
noncomputable def sxJ0_coder_7d493_6 : List UInt8 := 42 :: sxJ0_coder_7d493_7
noncomputable def sxJ0_coder_7d493_3 : List UInt8 := 153 :: 0 :: 10 :: sxJ0_coder_7d493_6
noncomputable def sxJ0_coder_7d493_0 : List UInt8 := 178 :: 0 :: 38 :: sxJ0_coder_7d493_3
theorem shJ0_coder_7d493_0 : cJ0_coder_7d493.data.toList.drop 0 = sxJ0_coder_7d493_0 := rfl
theorem shJ0_coder_7d493_3 : cJ0_coder_7d493.data.toList.drop 3 = sxJ0_coder_7d493_3 := dSn 3 shJ0_coder_7d493_0
theorem shJ0_coder_7d493_6 : cJ0_coder_7d493.data.toList.drop 6 = sxJ0_coder_7d493_6 := dSn 3 shJ0_coder_7d493_3
theorem shJ0_coder_7d493_7 : cJ0_coder_7d493.data.toList.drop 7 = sxJ0_coder_7d493_7 := dSn 1 shJ0_coder_7d493_6
theorem shJ0_coder_7d493_10 : cJ0_coder_7d493.data.toList.drop 10 = sxJ0_coder_7d493_10 := dSn 3 shJ0_coder_7d493_7
theorem shJ0_coder_7d493_13 : cJ0_coder_7d493.data.toList.drop 13 = sxJ0_coder_7d493_13 := dSn 3 shJ0_coder_7d493_10
theorem shJ0_coder_7d493_14 : cJ0_coder_7d493.data.toList.drop 14 = sxJ0_coder_7d493_14 := dSn 1 shJ0_coder_7d493_13
theorem dJ0_coder_7d493_0 : decode cJ0_coder_7d493 0 = .ok (.getstatic 38, 3) := oc_178 shJ0_coder_7d493_0
theorem dJ0_coder_7d493_3 : decode cJ0_coder_7d493 3 = .ok (.ifCond .eq 10, 3) := oc_153 shJ0_coder_7d493_3 sgw_0_10
theorem dJ0_coder_7d493_6 : decode cJ0_coder_7d493 6 = .ok (.aload_n 0, 1) := oc_42 shJ0_coder_7d493_6
theorem dJ0_coder_7d493_7 : decode cJ0_coder_7d493 7 = .ok (.getfield 15, 3) := oc_180 shJ0_coder_7d493_7
theorem dJ0_coder_7d493_10 : decode cJ0_coder_7d493 10 = .ok (.goto 4, 3) := oc_167 shJ0_coder_7d493_10 sgw_0_4
theorem dJ0_coder_7d493_14 : decode cJ0_coder_7d493 14 = .ok (.ireturn, 1) := oc_172 shJ0_coder_7d493_14
noncomputable def sxJ0_isLatin1_aae02_19 : List UInt8 := []
noncomputable def sxJ0_isLatin1_aae02_18 : List UInt8 := 172 :: sxJ0_isLatin1_aae02_19
noncomputable def sxJ0_isLatin1_aae02_17 : List UInt8 := 3 :: sxJ0_isLatin1_aae02_18
noncomputable def sxJ0_isLatin1_aae02_14 : List UInt8 := 167 :: 0 :: 4 :: sxJ0_isLatin1_aae02_17
noncomputable def sxJ0_isLatin1_aae02_13 : List UInt8 := 4 :: sxJ0_isLatin1_aae02_14
noncomputable def sxJ0_isLatin1_aae02_10 : List UInt8 := 154 :: 0 :: 7 :: sxJ0_isLatin1_aae02_13
noncomputable def sxJ0_isLatin1_aae02_7 : List UInt8 := 180 :: 0 :: 15 :: sxJ0_isLatin1_aae02_10
noncomputable def sxJ0_isLatin1_aae02_6 : List UInt8 := 42 :: sxJ0_isLatin1_aae02_7
noncomputable def sxJ0_isLatin1_aae02_3 : List UInt8 := 153 :: 0 :: 14 :: sxJ0_isLatin1_aae02_6
noncomputable def sxJ0_isLatin1_aae02_0 : List UInt8 := 178 :: 0 :: 38 :: sxJ0_isLatin1_aae02_3
theorem shJ0_isLatin1_aae02_0 : cJ0_isLatin1_aae02.data.toList.drop 0 = sxJ0_isLatin1_aae02_0 := rfl
theorem shJ0_isLatin1_aae02_3 : cJ0_isLatin1_aae02.data.toList.drop 3 = sxJ0_isLatin1_aae02_3 := dSn 3 shJ0_isLatin1_aae02_0
theorem shJ0_isLatin1_aae02_6 : cJ0_isLatin1_aae02.data.toList.drop 6 = sxJ0_isLatin1_aae02_6 := dSn 3 shJ0_isLatin1_aae02_3
theorem shJ0_isLatin1_aae02_7 : cJ0_isLatin1_aae02.data.toList.drop 7 = sxJ0_isLatin1_aae02_7 := dSn 1 shJ0_isLatin1_aae02_6
theorem shJ0_isLatin1_aae02_10 : cJ0_isLatin1_aae02.data.toList.drop 10 = sxJ0_isLatin1_aae02_10 := dSn 3 shJ0_isLatin1_aae02_7
theorem shJ0_isLatin1_aae02_13 : cJ0_isLatin1_aae02.data.toList.drop 13 = sxJ0_isLatin1_aae02_13 := dSn 3 shJ0_isLatin1_aae02_10
theorem shJ0_isLatin1_aae02_14 : cJ0_isLatin1_aae02.data.toList.drop 14 = sxJ0_isLatin1_aae02_14 := dSn 1 shJ0_isLatin1_aae02_13
theorem shJ0_isLatin1_aae02_17 : cJ0_isLatin1_aae02.data.toList.drop 17 = sxJ0_isLatin1_aae02_17 := dSn 3 shJ0_isLatin1_aae02_14
theorem shJ0_isLatin1_aae02_18 : cJ0_isLatin1_aae02.data.toList.drop 18 = sxJ0_isLatin1_aae02_18 := dSn 1 shJ0_isLatin1_aae02_17
theorem dJ0_isLatin1_aae02_0 : decode cJ0_isLatin1_aae02 0 = .ok (.getstatic 38, 3) := oc_178 shJ0_isLatin1_aae02_0
theorem dJ0_isLatin1_aae02_3 : decode cJ0_isLatin1_aae02 3 = .ok (.ifCond .eq 14, 3) := oc_153 shJ0_isLatin1_aae02_3 sgw_0_14
theorem dJ0_isLatin1_aae02_6 : decode cJ0_isLatin1_aae02 6 = .ok (.aload_n 0, 1) := oc_42 shJ0_isLatin1_aae02_6
theorem dJ0_isLatin1_aae02_7 : decode cJ0_isLatin1_aae02 7 = .ok (.getfield 15, 3) := oc_180 shJ0_isLatin1_aae02_7
theorem dJ0_isLatin1_aae02_10 : decode cJ0_isLatin1_aae02 10 = .ok (.ifCond .ne 7, 3) := oc_154 shJ0_isLatin1_aae02_10 sgw_0_7
theorem dJ0_isLatin1_aae02_13 : decode cJ0_isLatin1_aae02 13 = .ok (.iconst 1, 1) := oc_4 shJ0_isLatin1_aae02_13
theorem dJ0_isLatin1_aae02_14 : decode cJ0_isLatin1_aae02 14 = .ok (.goto 4, 3) := oc_167 shJ0_isLatin1_aae02_14 sgw_0_4
theorem dJ0_isLatin1_aae02_18 : decode cJ0_isLatin1_aae02 18 = .ok (.ireturn, 1) := oc_172 shJ0_isLatin1_aae02_18
noncomputable def sxJ0_length_8abf5_11 : List UInt8 := []
noncomputable def sxJ0_length_8abf5_10 : List UInt8 := 172 :: sxJ0_length_8abf5_11
noncomputable def sxJ0_length_8abf5_9 : List UInt8 := 122 :: sxJ0_length_8abf5_10
noncomputable def sxJ0_length_8abf5_6 : List UInt8 := 182 :: 1 :: 79 :: sxJ0_length_8abf5_9
noncomputable def sxJ0_length_8abf5_5 : List UInt8 := 42 :: sxJ0_length_8abf5_6
noncomputable def sxJ0_length_8abf5_4 : List UInt8 := 190 :: sxJ0_length_8abf5_5
noncomputable def sxJ0_length_8abf5_1 : List UInt8 := 180 :: 0 :: 9 :: sxJ0_length_8abf5_4
noncomputable def sxJ0_length_8abf5_0 : List UInt8 := 42 :: sxJ0_length_8abf5_1
theorem shJ0_length_8abf5_0 : cJ0_length_8abf5.data.toList.drop 0 = sxJ0_length_8abf5_0 := rfl
theorem shJ0_length_8abf5_1 : cJ0_length_8abf5.data.toList.drop 1 = sxJ0_length_8abf5_1 := dSn 1 shJ0_length_8abf5_0
theorem shJ0_length_8abf5_4 : cJ0_length_8abf5.data.toList.drop 4 = sxJ0_length_8abf5_4 := dSn 3 shJ0_length_8abf5_1
theorem shJ0_length_8abf5_5 : cJ0_length_8abf5.data.toList.drop 5 = sxJ0_length_8abf5_5 := dSn 1 shJ0_length_8abf5_4
theorem shJ0_length_8abf5_6 : cJ0_length_8abf5.data.toList.drop 6 = sxJ0_length_8abf5_6 := dSn 1 shJ0_length_8abf5_5
theorem shJ0_length_8abf5_9 : cJ0_length_8abf5.data.toList.drop 9 = sxJ0_length_8abf5_9 := dSn 3 shJ0_length_8abf5_6
theorem shJ0_length_8abf5_10 : cJ0_length_8abf5.data.toList.drop 10 = sxJ0_length_8abf5_10 := dSn 1 shJ0_length_8abf5_9
theorem dJ0_length_8abf5_0 : decode cJ0_length_8abf5 0 = .ok (.aload_n 0, 1) := oc_42 shJ0_length_8abf5_0
theorem dJ0_length_8abf5_1 : decode cJ0_length_8abf5 1 = .ok (.getfield 9, 3) := oc_180 shJ0_length_8abf5_1
theorem dJ0_length_8abf5_4 : decode cJ0_length_8abf5 4 = .ok (.arraylength, 1) := oc_190 shJ0_length_8abf5_4
theorem dJ0_length_8abf5_5 : decode cJ0_length_8abf5 5 = .ok (.aload_n 0, 1) := oc_42 shJ0_length_8abf5_5
theorem dJ0_length_8abf5_6 : decode cJ0_length_8abf5 6 = .ok (.invokevirtual 335, 3) := oc_182 shJ0_length_8abf5_6
theorem dJ0_length_8abf5_9 : decode cJ0_length_8abf5 9 = .ok (.ishr, 1) := oc_122 shJ0_length_8abf5_9
theorem dJ0_length_8abf5_10 : decode cJ0_length_8abf5 10 = .ok (.ireturn, 1) := oc_172 shJ0_length_8abf5_10
noncomputable def sxJ1_canEncode_9a6ad_17 : List UInt8 := []
noncomputable def sxJ1_canEncode_9a6ad_16 : List UInt8 := 172 :: sxJ1_canEncode_9a6ad_17
noncomputable def sxJ1_canEncode_9a6ad_15 : List UInt8 := 3 :: sxJ1_canEncode_9a6ad_16
noncomputable def sxJ1_canEncode_9a6ad_12 : List UInt8 := 167 :: 0 :: 4 :: sxJ1_canEncode_9a6ad_15
noncomputable def sxJ1_canEncode_9a6ad_11 : List UInt8 := 4 :: sxJ1_canEncode_9a6ad_12
noncomputable def sxJ1_canEncode_9a6ad_8 : List UInt8 := 163 :: 0 :: 7 :: sxJ1_canEncode_9a6ad_11
noncomputable def sxJ1_canEncode_9a6ad_5 : List UInt8 := 17 :: 0 :: 255 :: sxJ1_canEncode_9a6ad_8
noncomputable def sxJ1_canEncode_9a6ad_4 : List UInt8 := 26 :: sxJ1_canEncode_9a6ad_5
noncomputable def sxJ1_canEncode_9a6ad_1 : List UInt8 := 155 :: 0 :: 14 :: sxJ1_canEncode_9a6ad_4
noncomputable def sxJ1_canEncode_9a6ad_0 : List UInt8 := 26 :: sxJ1_canEncode_9a6ad_1
theorem shJ1_canEncode_9a6ad_0 : cJ1_canEncode_9a6ad.data.toList.drop 0 = sxJ1_canEncode_9a6ad_0 := rfl
theorem shJ1_canEncode_9a6ad_1 : cJ1_canEncode_9a6ad.data.toList.drop 1 = sxJ1_canEncode_9a6ad_1 := dSn 1 shJ1_canEncode_9a6ad_0
theorem shJ1_canEncode_9a6ad_4 : cJ1_canEncode_9a6ad.data.toList.drop 4 = sxJ1_canEncode_9a6ad_4 := dSn 3 shJ1_canEncode_9a6ad_1
theorem shJ1_canEncode_9a6ad_5 : cJ1_canEncode_9a6ad.data.toList.drop 5 = sxJ1_canEncode_9a6ad_5 := dSn 1 shJ1_canEncode_9a6ad_4
theorem shJ1_canEncode_9a6ad_8 : cJ1_canEncode_9a6ad.data.toList.drop 8 = sxJ1_canEncode_9a6ad_8 := dSn 3 shJ1_canEncode_9a6ad_5
theorem shJ1_canEncode_9a6ad_11 : cJ1_canEncode_9a6ad.data.toList.drop 11 = sxJ1_canEncode_9a6ad_11 := dSn 3 shJ1_canEncode_9a6ad_8
theorem shJ1_canEncode_9a6ad_12 : cJ1_canEncode_9a6ad.data.toList.drop 12 = sxJ1_canEncode_9a6ad_12 := dSn 1 shJ1_canEncode_9a6ad_11
theorem shJ1_canEncode_9a6ad_15 : cJ1_canEncode_9a6ad.data.toList.drop 15 = sxJ1_canEncode_9a6ad_15 := dSn 3 shJ1_canEncode_9a6ad_12
theorem shJ1_canEncode_9a6ad_16 : cJ1_canEncode_9a6ad.data.toList.drop 16 = sxJ1_canEncode_9a6ad_16 := dSn 1 shJ1_canEncode_9a6ad_15
theorem dJ1_canEncode_9a6ad_0 : decode cJ1_canEncode_9a6ad 0 = .ok (.iload_n 0, 1) := oc_26 shJ1_canEncode_9a6ad_0
theorem dJ1_canEncode_9a6ad_1 : decode cJ1_canEncode_9a6ad 1 = .ok (.ifCond .lt 14, 3) := oc_155 shJ1_canEncode_9a6ad_1 sgw_0_14
theorem dJ1_canEncode_9a6ad_15 : decode cJ1_canEncode_9a6ad 15 = .ok (.iconst 0, 1) := oc_3 shJ1_canEncode_9a6ad_15
theorem dJ1_canEncode_9a6ad_16 : decode cJ1_canEncode_9a6ad 16 = .ok (.ireturn, 1) := oc_172 shJ1_canEncode_9a6ad_16
theorem dJ1_canEncode_9a6ad_4 : decode cJ1_canEncode_9a6ad 4 = .ok (.iload_n 0, 1) := oc_26 shJ1_canEncode_9a6ad_4
theorem dJ1_canEncode_9a6ad_5 : decode cJ1_canEncode_9a6ad 5 = .ok (.sipush 255, 3) := oc_17 shJ1_canEncode_9a6ad_5 sgw_0_255
theorem dJ1_canEncode_9a6ad_8 : decode cJ1_canEncode_9a6ad 8 = .ok (.if_icmp .gt 7, 3) := oc_163 shJ1_canEncode_9a6ad_8 sgw_0_7
theorem dJ1_canEncode_9a6ad_11 : decode cJ1_canEncode_9a6ad 11 = .ok (.iconst 1, 1) := oc_4 shJ1_canEncode_9a6ad_11
theorem dJ1_canEncode_9a6ad_12 : decode cJ1_canEncode_9a6ad 12 = .ok (.goto 4, 3) := oc_167 shJ1_canEncode_9a6ad_12 sgw_0_4
noncomputable def sxJ1_indexOfChar_4cfef_33 : List UInt8 := []
noncomputable def sxJ1_indexOfChar_4cfef_32 : List UInt8 := 172 :: sxJ1_indexOfChar_4cfef_33
noncomputable def sxJ1_indexOfChar_4cfef_31 : List UInt8 := 2 :: sxJ1_indexOfChar_4cfef_32
noncomputable def sxJ1_indexOfChar_4cfef_28 : List UInt8 := 167 :: 255 :: 235 :: sxJ1_indexOfChar_4cfef_31
noncomputable def sxJ1_indexOfChar_4cfef_25 : List UInt8 := 132 :: 5 :: 1 :: sxJ1_indexOfChar_4cfef_28
noncomputable def sxJ1_indexOfChar_4cfef_24 : List UInt8 := 172 :: sxJ1_indexOfChar_4cfef_25
noncomputable def sxJ1_indexOfChar_4cfef_22 : List UInt8 := 21 :: 5 :: sxJ1_indexOfChar_4cfef_24
noncomputable def sxJ1_indexOfChar_4cfef_19 : List UInt8 := 160 :: 0 :: 6 :: sxJ1_indexOfChar_4cfef_22
noncomputable def sxJ1_indexOfChar_4cfef_17 : List UInt8 := 21 :: 4 :: sxJ1_indexOfChar_4cfef_19
noncomputable def sxJ1_indexOfChar_4cfef_16 : List UInt8 := 51 :: sxJ1_indexOfChar_4cfef_17
noncomputable def sxJ1_indexOfChar_4cfef_14 : List UInt8 := 21 :: 5 :: sxJ1_indexOfChar_4cfef_16
noncomputable def sxJ1_indexOfChar_4cfef_13 : List UInt8 := 42 :: sxJ1_indexOfChar_4cfef_14
noncomputable def sxJ1_indexOfChar_4cfef_10 : List UInt8 := 162 :: 0 :: 21 :: sxJ1_indexOfChar_4cfef_13
noncomputable def sxJ1_indexOfChar_4cfef_9 : List UInt8 := 29 :: sxJ1_indexOfChar_4cfef_10
noncomputable def sxJ1_indexOfChar_4cfef_7 : List UInt8 := 21 :: 5 :: sxJ1_indexOfChar_4cfef_9
noncomputable def sxJ1_indexOfChar_4cfef_5 : List UInt8 := 54 :: 5 :: sxJ1_indexOfChar_4cfef_7
noncomputable def sxJ1_indexOfChar_4cfef_4 : List UInt8 := 28 :: sxJ1_indexOfChar_4cfef_5
noncomputable def sxJ1_indexOfChar_4cfef_2 : List UInt8 := 54 :: 4 :: sxJ1_indexOfChar_4cfef_4
noncomputable def sxJ1_indexOfChar_4cfef_1 : List UInt8 := 145 :: sxJ1_indexOfChar_4cfef_2
noncomputable def sxJ1_indexOfChar_4cfef_0 : List UInt8 := 27 :: sxJ1_indexOfChar_4cfef_1
theorem shJ1_indexOfChar_4cfef_0 : cJ1_indexOfChar_4cfef.data.toList.drop 0 = sxJ1_indexOfChar_4cfef_0 := rfl
theorem shJ1_indexOfChar_4cfef_1 : cJ1_indexOfChar_4cfef.data.toList.drop 1 = sxJ1_indexOfChar_4cfef_1 := dSn 1 shJ1_indexOfChar_4cfef_0
theorem shJ1_indexOfChar_4cfef_2 : cJ1_indexOfChar_4cfef.data.toList.drop 2 = sxJ1_indexOfChar_4cfef_2 := dSn 1 shJ1_indexOfChar_4cfef_1
theorem shJ1_indexOfChar_4cfef_4 : cJ1_indexOfChar_4cfef.data.toList.drop 4 = sxJ1_indexOfChar_4cfef_4 := dSn 2 shJ1_indexOfChar_4cfef_2
theorem shJ1_indexOfChar_4cfef_5 : cJ1_indexOfChar_4cfef.data.toList.drop 5 = sxJ1_indexOfChar_4cfef_5 := dSn 1 shJ1_indexOfChar_4cfef_4
theorem shJ1_indexOfChar_4cfef_7 : cJ1_indexOfChar_4cfef.data.toList.drop 7 = sxJ1_indexOfChar_4cfef_7 := dSn 2 shJ1_indexOfChar_4cfef_5
theorem shJ1_indexOfChar_4cfef_9 : cJ1_indexOfChar_4cfef.data.toList.drop 9 = sxJ1_indexOfChar_4cfef_9 := dSn 2 shJ1_indexOfChar_4cfef_7
theorem shJ1_indexOfChar_4cfef_10 : cJ1_indexOfChar_4cfef.data.toList.drop 10 = sxJ1_indexOfChar_4cfef_10 := dSn 1 shJ1_indexOfChar_4cfef_9
theorem shJ1_indexOfChar_4cfef_13 : cJ1_indexOfChar_4cfef.data.toList.drop 13 = sxJ1_indexOfChar_4cfef_13 := dSn 3 shJ1_indexOfChar_4cfef_10
theorem shJ1_indexOfChar_4cfef_14 : cJ1_indexOfChar_4cfef.data.toList.drop 14 = sxJ1_indexOfChar_4cfef_14 := dSn 1 shJ1_indexOfChar_4cfef_13
theorem shJ1_indexOfChar_4cfef_16 : cJ1_indexOfChar_4cfef.data.toList.drop 16 = sxJ1_indexOfChar_4cfef_16 := dSn 2 shJ1_indexOfChar_4cfef_14
theorem shJ1_indexOfChar_4cfef_17 : cJ1_indexOfChar_4cfef.data.toList.drop 17 = sxJ1_indexOfChar_4cfef_17 := dSn 1 shJ1_indexOfChar_4cfef_16
theorem shJ1_indexOfChar_4cfef_19 : cJ1_indexOfChar_4cfef.data.toList.drop 19 = sxJ1_indexOfChar_4cfef_19 := dSn 2 shJ1_indexOfChar_4cfef_17
theorem shJ1_indexOfChar_4cfef_22 : cJ1_indexOfChar_4cfef.data.toList.drop 22 = sxJ1_indexOfChar_4cfef_22 := dSn 3 shJ1_indexOfChar_4cfef_19
theorem shJ1_indexOfChar_4cfef_24 : cJ1_indexOfChar_4cfef.data.toList.drop 24 = sxJ1_indexOfChar_4cfef_24 := dSn 2 shJ1_indexOfChar_4cfef_22
theorem shJ1_indexOfChar_4cfef_25 : cJ1_indexOfChar_4cfef.data.toList.drop 25 = sxJ1_indexOfChar_4cfef_25 := dSn 1 shJ1_indexOfChar_4cfef_24
theorem shJ1_indexOfChar_4cfef_28 : cJ1_indexOfChar_4cfef.data.toList.drop 28 = sxJ1_indexOfChar_4cfef_28 := dSn 3 shJ1_indexOfChar_4cfef_25
theorem shJ1_indexOfChar_4cfef_31 : cJ1_indexOfChar_4cfef.data.toList.drop 31 = sxJ1_indexOfChar_4cfef_31 := dSn 3 shJ1_indexOfChar_4cfef_28
theorem shJ1_indexOfChar_4cfef_32 : cJ1_indexOfChar_4cfef.data.toList.drop 32 = sxJ1_indexOfChar_4cfef_32 := dSn 1 shJ1_indexOfChar_4cfef_31
theorem dJ1_indexOfChar_4cfef_0 : decode cJ1_indexOfChar_4cfef 0 = .ok (.iload_n 1, 1) := oc_27 shJ1_indexOfChar_4cfef_0
theorem dJ1_indexOfChar_4cfef_1 : decode cJ1_indexOfChar_4cfef 1 = .ok (.i2b, 1) := oc_145 shJ1_indexOfChar_4cfef_1
theorem dJ1_indexOfChar_4cfef_2 : decode cJ1_indexOfChar_4cfef 2 = .ok (.istore 4, 2) := oc_54 shJ1_indexOfChar_4cfef_2
theorem dJ1_indexOfChar_4cfef_4 : decode cJ1_indexOfChar_4cfef 4 = .ok (.iload_n 2, 1) := oc_28 shJ1_indexOfChar_4cfef_4
theorem dJ1_indexOfChar_4cfef_5 : decode cJ1_indexOfChar_4cfef 5 = .ok (.istore 5, 2) := oc_54 shJ1_indexOfChar_4cfef_5
theorem dJ1_indexOfChar_4cfef_7 : decode cJ1_indexOfChar_4cfef 7 = .ok (.iload 5, 2) := oc_21 shJ1_indexOfChar_4cfef_7
theorem dJ1_indexOfChar_4cfef_9 : decode cJ1_indexOfChar_4cfef 9 = .ok (.iload_n 3, 1) := oc_29 shJ1_indexOfChar_4cfef_9
theorem dJ1_indexOfChar_4cfef_10 : decode cJ1_indexOfChar_4cfef 10 = .ok (.if_icmp .ge 21, 3) := oc_162 shJ1_indexOfChar_4cfef_10 sgw_0_21
theorem dJ1_indexOfChar_4cfef_31 : decode cJ1_indexOfChar_4cfef 31 = .ok (.iconst (-1), 1) := oc_2 shJ1_indexOfChar_4cfef_31
theorem dJ1_indexOfChar_4cfef_32 : decode cJ1_indexOfChar_4cfef 32 = .ok (.ireturn, 1) := oc_172 shJ1_indexOfChar_4cfef_32
theorem dJ1_indexOfChar_4cfef_13 : decode cJ1_indexOfChar_4cfef 13 = .ok (.aload_n 0, 1) := oc_42 shJ1_indexOfChar_4cfef_13
theorem dJ1_indexOfChar_4cfef_14 : decode cJ1_indexOfChar_4cfef 14 = .ok (.iload 5, 2) := oc_21 shJ1_indexOfChar_4cfef_14
theorem dJ1_indexOfChar_4cfef_16 : decode cJ1_indexOfChar_4cfef 16 = .ok (.baload, 1) := oc_51 shJ1_indexOfChar_4cfef_16
theorem dJ1_indexOfChar_4cfef_17 : decode cJ1_indexOfChar_4cfef 17 = .ok (.iload 4, 2) := oc_21 shJ1_indexOfChar_4cfef_17
theorem dJ1_indexOfChar_4cfef_19 : decode cJ1_indexOfChar_4cfef 19 = .ok (.if_icmp .ne 6, 3) := oc_160 shJ1_indexOfChar_4cfef_19 sgw_0_6
theorem dJ1_indexOfChar_4cfef_25 : decode cJ1_indexOfChar_4cfef 25 = .ok (.iinc 5 1, 3) := oc_132 shJ1_indexOfChar_4cfef_25 sgb_1
theorem dJ1_indexOfChar_4cfef_28 : decode cJ1_indexOfChar_4cfef 28 = .ok (.goto (-21), 3) := oc_167 shJ1_indexOfChar_4cfef_28 sgw_255_235
theorem dJ1_indexOfChar_4cfef_22 : decode cJ1_indexOfChar_4cfef 22 = .ok (.iload 5, 2) := oc_21 shJ1_indexOfChar_4cfef_22
theorem dJ1_indexOfChar_4cfef_24 : decode cJ1_indexOfChar_4cfef 24 = .ok (.ireturn, 1) := oc_172 shJ1_indexOfChar_4cfef_24
noncomputable def sxJ1_indexOf_4cfef_37 : List UInt8 := []
noncomputable def sxJ1_indexOf_4cfef_36 : List UInt8 := 172 :: sxJ1_indexOf_4cfef_37
noncomputable def sxJ1_indexOf_4cfef_33 : List UInt8 := 184 :: 0 :: 95 :: sxJ1_indexOf_4cfef_36
noncomputable def sxJ1_indexOf_4cfef_32 : List UInt8 := 29 :: sxJ1_indexOf_4cfef_33
noncomputable def sxJ1_indexOf_4cfef_31 : List UInt8 := 28 :: sxJ1_indexOf_4cfef_32
noncomputable def sxJ1_indexOf_4cfef_30 : List UInt8 := 27 :: sxJ1_indexOf_4cfef_31
noncomputable def sxJ1_indexOf_4cfef_29 : List UInt8 := 42 :: sxJ1_indexOf_4cfef_30
noncomputable def sxJ1_indexOf_4cfef_28 : List UInt8 := 172 :: sxJ1_indexOf_4cfef_29
noncomputable def sxJ1_indexOf_4cfef_27 : List UInt8 := 2 :: sxJ1_indexOf_4cfef_28
noncomputable def sxJ1_indexOf_4cfef_24 : List UInt8 := 161 :: 0 :: 5 :: sxJ1_indexOf_4cfef_27
noncomputable def sxJ1_indexOf_4cfef_23 : List UInt8 := 29 :: sxJ1_indexOf_4cfef_24
noncomputable def sxJ1_indexOf_4cfef_22 : List UInt8 := 28 :: sxJ1_indexOf_4cfef_23
noncomputable def sxJ1_indexOf_4cfef_21 : List UInt8 := 62 :: sxJ1_indexOf_4cfef_22
noncomputable def sxJ1_indexOf_4cfef_18 : List UInt8 := 184 :: 0 :: 38 :: sxJ1_indexOf_4cfef_21
noncomputable def sxJ1_indexOf_4cfef_17 : List UInt8 := 190 :: sxJ1_indexOf_4cfef_18
noncomputable def sxJ1_indexOf_4cfef_16 : List UInt8 := 42 :: sxJ1_indexOf_4cfef_17
noncomputable def sxJ1_indexOf_4cfef_15 : List UInt8 := 29 :: sxJ1_indexOf_4cfef_16
noncomputable def sxJ1_indexOf_4cfef_14 : List UInt8 := 61 :: sxJ1_indexOf_4cfef_15
noncomputable def sxJ1_indexOf_4cfef_11 : List UInt8 := 184 :: 0 :: 92 :: sxJ1_indexOf_4cfef_14
noncomputable def sxJ1_indexOf_4cfef_10 : List UInt8 := 3 :: sxJ1_indexOf_4cfef_11
noncomputable def sxJ1_indexOf_4cfef_9 : List UInt8 := 28 :: sxJ1_indexOf_4cfef_10
noncomputable def sxJ1_indexOf_4cfef_8 : List UInt8 := 172 :: sxJ1_indexOf_4cfef_9
noncomputable def sxJ1_indexOf_4cfef_7 : List UInt8 := 2 :: sxJ1_indexOf_4cfef_8
noncomputable def sxJ1_indexOf_4cfef_4 : List UInt8 := 154 :: 0 :: 5 :: sxJ1_indexOf_4cfef_7
noncomputable def sxJ1_indexOf_4cfef_1 : List UInt8 := 184 :: 0 :: 88 :: sxJ1_indexOf_4cfef_4
noncomputable def sxJ1_indexOf_4cfef_0 : List UInt8 := 27 :: sxJ1_indexOf_4cfef_1
theorem shJ1_indexOf_4cfef_0 : cJ1_indexOf_4cfef.data.toList.drop 0 = sxJ1_indexOf_4cfef_0 := rfl
theorem shJ1_indexOf_4cfef_1 : cJ1_indexOf_4cfef.data.toList.drop 1 = sxJ1_indexOf_4cfef_1 := dSn 1 shJ1_indexOf_4cfef_0
theorem shJ1_indexOf_4cfef_4 : cJ1_indexOf_4cfef.data.toList.drop 4 = sxJ1_indexOf_4cfef_4 := dSn 3 shJ1_indexOf_4cfef_1
theorem shJ1_indexOf_4cfef_7 : cJ1_indexOf_4cfef.data.toList.drop 7 = sxJ1_indexOf_4cfef_7 := dSn 3 shJ1_indexOf_4cfef_4
theorem shJ1_indexOf_4cfef_8 : cJ1_indexOf_4cfef.data.toList.drop 8 = sxJ1_indexOf_4cfef_8 := dSn 1 shJ1_indexOf_4cfef_7
theorem shJ1_indexOf_4cfef_9 : cJ1_indexOf_4cfef.data.toList.drop 9 = sxJ1_indexOf_4cfef_9 := dSn 1 shJ1_indexOf_4cfef_8
theorem shJ1_indexOf_4cfef_10 : cJ1_indexOf_4cfef.data.toList.drop 10 = sxJ1_indexOf_4cfef_10 := dSn 1 shJ1_indexOf_4cfef_9
theorem shJ1_indexOf_4cfef_11 : cJ1_indexOf_4cfef.data.toList.drop 11 = sxJ1_indexOf_4cfef_11 := dSn 1 shJ1_indexOf_4cfef_10
theorem shJ1_indexOf_4cfef_14 : cJ1_indexOf_4cfef.data.toList.drop 14 = sxJ1_indexOf_4cfef_14 := dSn 3 shJ1_indexOf_4cfef_11
theorem shJ1_indexOf_4cfef_15 : cJ1_indexOf_4cfef.data.toList.drop 15 = sxJ1_indexOf_4cfef_15 := dSn 1 shJ1_indexOf_4cfef_14
theorem shJ1_indexOf_4cfef_16 : cJ1_indexOf_4cfef.data.toList.drop 16 = sxJ1_indexOf_4cfef_16 := dSn 1 shJ1_indexOf_4cfef_15
theorem shJ1_indexOf_4cfef_17 : cJ1_indexOf_4cfef.data.toList.drop 17 = sxJ1_indexOf_4cfef_17 := dSn 1 shJ1_indexOf_4cfef_16
theorem shJ1_indexOf_4cfef_18 : cJ1_indexOf_4cfef.data.toList.drop 18 = sxJ1_indexOf_4cfef_18 := dSn 1 shJ1_indexOf_4cfef_17
theorem shJ1_indexOf_4cfef_21 : cJ1_indexOf_4cfef.data.toList.drop 21 = sxJ1_indexOf_4cfef_21 := dSn 3 shJ1_indexOf_4cfef_18
theorem shJ1_indexOf_4cfef_22 : cJ1_indexOf_4cfef.data.toList.drop 22 = sxJ1_indexOf_4cfef_22 := dSn 1 shJ1_indexOf_4cfef_21
theorem shJ1_indexOf_4cfef_23 : cJ1_indexOf_4cfef.data.toList.drop 23 = sxJ1_indexOf_4cfef_23 := dSn 1 shJ1_indexOf_4cfef_22
theorem shJ1_indexOf_4cfef_24 : cJ1_indexOf_4cfef.data.toList.drop 24 = sxJ1_indexOf_4cfef_24 := dSn 1 shJ1_indexOf_4cfef_23
theorem shJ1_indexOf_4cfef_27 : cJ1_indexOf_4cfef.data.toList.drop 27 = sxJ1_indexOf_4cfef_27 := dSn 3 shJ1_indexOf_4cfef_24
theorem shJ1_indexOf_4cfef_28 : cJ1_indexOf_4cfef.data.toList.drop 28 = sxJ1_indexOf_4cfef_28 := dSn 1 shJ1_indexOf_4cfef_27
theorem shJ1_indexOf_4cfef_29 : cJ1_indexOf_4cfef.data.toList.drop 29 = sxJ1_indexOf_4cfef_29 := dSn 1 shJ1_indexOf_4cfef_28
theorem shJ1_indexOf_4cfef_30 : cJ1_indexOf_4cfef.data.toList.drop 30 = sxJ1_indexOf_4cfef_30 := dSn 1 shJ1_indexOf_4cfef_29
theorem shJ1_indexOf_4cfef_31 : cJ1_indexOf_4cfef.data.toList.drop 31 = sxJ1_indexOf_4cfef_31 := dSn 1 shJ1_indexOf_4cfef_30
theorem shJ1_indexOf_4cfef_32 : cJ1_indexOf_4cfef.data.toList.drop 32 = sxJ1_indexOf_4cfef_32 := dSn 1 shJ1_indexOf_4cfef_31
theorem shJ1_indexOf_4cfef_33 : cJ1_indexOf_4cfef.data.toList.drop 33 = sxJ1_indexOf_4cfef_33 := dSn 1 shJ1_indexOf_4cfef_32
theorem shJ1_indexOf_4cfef_36 : cJ1_indexOf_4cfef.data.toList.drop 36 = sxJ1_indexOf_4cfef_36 := dSn 3 shJ1_indexOf_4cfef_33
theorem dJ1_indexOf_4cfef_0 : decode cJ1_indexOf_4cfef 0 = .ok (.iload_n 1, 1) := oc_27 shJ1_indexOf_4cfef_0
theorem dJ1_indexOf_4cfef_1 : decode cJ1_indexOf_4cfef 1 = .ok (.invokestatic 88, 3) := oc_184 shJ1_indexOf_4cfef_1
theorem dJ1_indexOf_4cfef_4 : decode cJ1_indexOf_4cfef 4 = .ok (.ifCond .ne 5, 3) := oc_154 shJ1_indexOf_4cfef_4 sgw_0_5
theorem dJ1_indexOf_4cfef_9 : decode cJ1_indexOf_4cfef 9 = .ok (.iload_n 2, 1) := oc_28 shJ1_indexOf_4cfef_9
theorem dJ1_indexOf_4cfef_10 : decode cJ1_indexOf_4cfef 10 = .ok (.iconst 0, 1) := oc_3 shJ1_indexOf_4cfef_10
theorem dJ1_indexOf_4cfef_11 : decode cJ1_indexOf_4cfef 11 = .ok (.invokestatic 92, 3) := oc_184 shJ1_indexOf_4cfef_11
theorem dJ1_indexOf_4cfef_14 : decode cJ1_indexOf_4cfef 14 = .ok (.istore_n 2, 1) := oc_61 shJ1_indexOf_4cfef_14
theorem dJ1_indexOf_4cfef_15 : decode cJ1_indexOf_4cfef 15 = .ok (.iload_n 3, 1) := oc_29 shJ1_indexOf_4cfef_15
theorem dJ1_indexOf_4cfef_16 : decode cJ1_indexOf_4cfef 16 = .ok (.aload_n 0, 1) := oc_42 shJ1_indexOf_4cfef_16
theorem dJ1_indexOf_4cfef_17 : decode cJ1_indexOf_4cfef 17 = .ok (.arraylength, 1) := oc_190 shJ1_indexOf_4cfef_17
theorem dJ1_indexOf_4cfef_18 : decode cJ1_indexOf_4cfef 18 = .ok (.invokestatic 38, 3) := oc_184 shJ1_indexOf_4cfef_18
theorem dJ1_indexOf_4cfef_21 : decode cJ1_indexOf_4cfef 21 = .ok (.istore_n 3, 1) := oc_62 shJ1_indexOf_4cfef_21
theorem dJ1_indexOf_4cfef_22 : decode cJ1_indexOf_4cfef 22 = .ok (.iload_n 2, 1) := oc_28 shJ1_indexOf_4cfef_22
theorem dJ1_indexOf_4cfef_23 : decode cJ1_indexOf_4cfef 23 = .ok (.iload_n 3, 1) := oc_29 shJ1_indexOf_4cfef_23
theorem dJ1_indexOf_4cfef_24 : decode cJ1_indexOf_4cfef 24 = .ok (.if_icmp .lt 5, 3) := oc_161 shJ1_indexOf_4cfef_24 sgw_0_5
theorem dJ1_indexOf_4cfef_29 : decode cJ1_indexOf_4cfef 29 = .ok (.aload_n 0, 1) := oc_42 shJ1_indexOf_4cfef_29
theorem dJ1_indexOf_4cfef_30 : decode cJ1_indexOf_4cfef 30 = .ok (.iload_n 1, 1) := oc_27 shJ1_indexOf_4cfef_30
theorem dJ1_indexOf_4cfef_31 : decode cJ1_indexOf_4cfef 31 = .ok (.iload_n 2, 1) := oc_28 shJ1_indexOf_4cfef_31
theorem dJ1_indexOf_4cfef_32 : decode cJ1_indexOf_4cfef 32 = .ok (.iload_n 3, 1) := oc_29 shJ1_indexOf_4cfef_32
theorem dJ1_indexOf_4cfef_33 : decode cJ1_indexOf_4cfef 33 = .ok (.invokestatic 95, 3) := oc_184 shJ1_indexOf_4cfef_33
theorem dJ1_indexOf_4cfef_36 : decode cJ1_indexOf_4cfef 36 = .ok (.ireturn, 1) := oc_172 shJ1_indexOf_4cfef_36
theorem dJ1_indexOf_4cfef_7 : decode cJ1_indexOf_4cfef 7 = .ok (.iconst (-1), 1) := oc_2 shJ1_indexOf_4cfef_7
theorem dJ1_indexOf_4cfef_8 : decode cJ1_indexOf_4cfef 8 = .ok (.ireturn, 1) := oc_172 shJ1_indexOf_4cfef_8
noncomputable def sxJ0_indexOf_7cf53_37 : List UInt8 := []
noncomputable def sxJ0_indexOf_7cf53_36 : List UInt8 := 172 :: sxJ0_indexOf_7cf53_37
noncomputable def sxJ0_indexOf_7cf53_33 : List UInt8 := 184 :: 2 :: 128 :: sxJ0_indexOf_7cf53_36
noncomputable def sxJ0_indexOf_7cf53_30 : List UInt8 := 182 :: 1 :: 249 :: sxJ0_indexOf_7cf53_33
noncomputable def sxJ0_indexOf_7cf53_29 : List UInt8 := 42 :: sxJ0_indexOf_7cf53_30
noncomputable def sxJ0_indexOf_7cf53_28 : List UInt8 := 28 :: sxJ0_indexOf_7cf53_29
noncomputable def sxJ0_indexOf_7cf53_27 : List UInt8 := 27 :: sxJ0_indexOf_7cf53_28
noncomputable def sxJ0_indexOf_7cf53_24 : List UInt8 := 180 :: 0 :: 9 :: sxJ0_indexOf_7cf53_27
noncomputable def sxJ0_indexOf_7cf53_23 : List UInt8 := 42 :: sxJ0_indexOf_7cf53_24
noncomputable def sxJ0_indexOf_7cf53_20 : List UInt8 := 167 :: 0 :: 16 :: sxJ0_indexOf_7cf53_23
noncomputable def sxJ0_indexOf_7cf53_17 : List UInt8 := 184 :: 2 :: 125 :: sxJ0_indexOf_7cf53_20
noncomputable def sxJ0_indexOf_7cf53_14 : List UInt8 := 182 :: 1 :: 249 :: sxJ0_indexOf_7cf53_17
noncomputable def sxJ0_indexOf_7cf53_13 : List UInt8 := 42 :: sxJ0_indexOf_7cf53_14
noncomputable def sxJ0_indexOf_7cf53_12 : List UInt8 := 28 :: sxJ0_indexOf_7cf53_13
noncomputable def sxJ0_indexOf_7cf53_11 : List UInt8 := 27 :: sxJ0_indexOf_7cf53_12
noncomputable def sxJ0_indexOf_7cf53_8 : List UInt8 := 180 :: 0 :: 9 :: sxJ0_indexOf_7cf53_11
noncomputable def sxJ0_indexOf_7cf53_7 : List UInt8 := 42 :: sxJ0_indexOf_7cf53_8
noncomputable def sxJ0_indexOf_7cf53_4 : List UInt8 := 153 :: 0 :: 19 :: sxJ0_indexOf_7cf53_7
noncomputable def sxJ0_indexOf_7cf53_1 : List UInt8 := 182 :: 1 :: 236 :: sxJ0_indexOf_7cf53_4
noncomputable def sxJ0_indexOf_7cf53_0 : List UInt8 := 42 :: sxJ0_indexOf_7cf53_1
theorem shJ0_indexOf_7cf53_0 : cJ0_indexOf_7cf53.data.toList.drop 0 = sxJ0_indexOf_7cf53_0 := rfl
theorem shJ0_indexOf_7cf53_1 : cJ0_indexOf_7cf53.data.toList.drop 1 = sxJ0_indexOf_7cf53_1 := dSn 1 shJ0_indexOf_7cf53_0
theorem shJ0_indexOf_7cf53_4 : cJ0_indexOf_7cf53.data.toList.drop 4 = sxJ0_indexOf_7cf53_4 := dSn 3 shJ0_indexOf_7cf53_1
theorem shJ0_indexOf_7cf53_7 : cJ0_indexOf_7cf53.data.toList.drop 7 = sxJ0_indexOf_7cf53_7 := dSn 3 shJ0_indexOf_7cf53_4
theorem shJ0_indexOf_7cf53_8 : cJ0_indexOf_7cf53.data.toList.drop 8 = sxJ0_indexOf_7cf53_8 := dSn 1 shJ0_indexOf_7cf53_7
theorem shJ0_indexOf_7cf53_11 : cJ0_indexOf_7cf53.data.toList.drop 11 = sxJ0_indexOf_7cf53_11 := dSn 3 shJ0_indexOf_7cf53_8
theorem shJ0_indexOf_7cf53_12 : cJ0_indexOf_7cf53.data.toList.drop 12 = sxJ0_indexOf_7cf53_12 := dSn 1 shJ0_indexOf_7cf53_11
theorem shJ0_indexOf_7cf53_13 : cJ0_indexOf_7cf53.data.toList.drop 13 = sxJ0_indexOf_7cf53_13 := dSn 1 shJ0_indexOf_7cf53_12
theorem shJ0_indexOf_7cf53_14 : cJ0_indexOf_7cf53.data.toList.drop 14 = sxJ0_indexOf_7cf53_14 := dSn 1 shJ0_indexOf_7cf53_13
theorem shJ0_indexOf_7cf53_17 : cJ0_indexOf_7cf53.data.toList.drop 17 = sxJ0_indexOf_7cf53_17 := dSn 3 shJ0_indexOf_7cf53_14
theorem shJ0_indexOf_7cf53_20 : cJ0_indexOf_7cf53.data.toList.drop 20 = sxJ0_indexOf_7cf53_20 := dSn 3 shJ0_indexOf_7cf53_17
theorem shJ0_indexOf_7cf53_23 : cJ0_indexOf_7cf53.data.toList.drop 23 = sxJ0_indexOf_7cf53_23 := dSn 3 shJ0_indexOf_7cf53_20
theorem shJ0_indexOf_7cf53_24 : cJ0_indexOf_7cf53.data.toList.drop 24 = sxJ0_indexOf_7cf53_24 := dSn 1 shJ0_indexOf_7cf53_23
theorem shJ0_indexOf_7cf53_27 : cJ0_indexOf_7cf53.data.toList.drop 27 = sxJ0_indexOf_7cf53_27 := dSn 3 shJ0_indexOf_7cf53_24
theorem shJ0_indexOf_7cf53_28 : cJ0_indexOf_7cf53.data.toList.drop 28 = sxJ0_indexOf_7cf53_28 := dSn 1 shJ0_indexOf_7cf53_27
theorem shJ0_indexOf_7cf53_29 : cJ0_indexOf_7cf53.data.toList.drop 29 = sxJ0_indexOf_7cf53_29 := dSn 1 shJ0_indexOf_7cf53_28
theorem shJ0_indexOf_7cf53_30 : cJ0_indexOf_7cf53.data.toList.drop 30 = sxJ0_indexOf_7cf53_30 := dSn 1 shJ0_indexOf_7cf53_29
theorem shJ0_indexOf_7cf53_33 : cJ0_indexOf_7cf53.data.toList.drop 33 = sxJ0_indexOf_7cf53_33 := dSn 3 shJ0_indexOf_7cf53_30
theorem shJ0_indexOf_7cf53_36 : cJ0_indexOf_7cf53.data.toList.drop 36 = sxJ0_indexOf_7cf53_36 := dSn 3 shJ0_indexOf_7cf53_33
theorem dJ0_indexOf_7cf53_0 : decode cJ0_indexOf_7cf53 0 = .ok (.aload_n 0, 1) := oc_42 shJ0_indexOf_7cf53_0
theorem dJ0_indexOf_7cf53_1 : decode cJ0_indexOf_7cf53 1 = .ok (.invokevirtual 492, 3) := oc_182 shJ0_indexOf_7cf53_1
theorem dJ0_indexOf_7cf53_4 : decode cJ0_indexOf_7cf53 4 = .ok (.ifCond .eq 19, 3) := oc_153 shJ0_indexOf_7cf53_4 sgw_0_19
theorem dJ0_indexOf_7cf53_7 : decode cJ0_indexOf_7cf53 7 = .ok (.aload_n 0, 1) := oc_42 shJ0_indexOf_7cf53_7
theorem dJ0_indexOf_7cf53_8 : decode cJ0_indexOf_7cf53 8 = .ok (.getfield 9, 3) := oc_180 shJ0_indexOf_7cf53_8
theorem dJ0_indexOf_7cf53_11 : decode cJ0_indexOf_7cf53 11 = .ok (.iload_n 1, 1) := oc_27 shJ0_indexOf_7cf53_11
theorem dJ0_indexOf_7cf53_12 : decode cJ0_indexOf_7cf53 12 = .ok (.iload_n 2, 1) := oc_28 shJ0_indexOf_7cf53_12
theorem dJ0_indexOf_7cf53_13 : decode cJ0_indexOf_7cf53 13 = .ok (.aload_n 0, 1) := oc_42 shJ0_indexOf_7cf53_13
theorem dJ0_indexOf_7cf53_14 : decode cJ0_indexOf_7cf53 14 = .ok (.invokevirtual 505, 3) := oc_182 shJ0_indexOf_7cf53_14
theorem dJ0_indexOf_7cf53_17 : decode cJ0_indexOf_7cf53 17 = .ok (.invokestatic 637, 3) := oc_184 shJ0_indexOf_7cf53_17
theorem dJ0_indexOf_7cf53_20 : decode cJ0_indexOf_7cf53 20 = .ok (.goto 16, 3) := oc_167 shJ0_indexOf_7cf53_20 sgw_0_16
theorem dJ0_indexOf_7cf53_36 : decode cJ0_indexOf_7cf53 36 = .ok (.ireturn, 1) := oc_172 shJ0_indexOf_7cf53_36
noncomputable def sxJ0_indexOf_0f7a4_7 : List UInt8 := []
noncomputable def sxJ0_indexOf_0f7a4_6 : List UInt8 := 172 :: sxJ0_indexOf_0f7a4_7
noncomputable def sxJ0_indexOf_0f7a4_3 : List UInt8 := 182 :: 2 :: 121 :: sxJ0_indexOf_0f7a4_6
noncomputable def sxJ0_indexOf_0f7a4_2 : List UInt8 := 3 :: sxJ0_indexOf_0f7a4_3
noncomputable def sxJ0_indexOf_0f7a4_1 : List UInt8 := 27 :: sxJ0_indexOf_0f7a4_2
noncomputable def sxJ0_indexOf_0f7a4_0 : List UInt8 := 42 :: sxJ0_indexOf_0f7a4_1
theorem shJ0_indexOf_0f7a4_0 : cJ0_indexOf_0f7a4.data.toList.drop 0 = sxJ0_indexOf_0f7a4_0 := rfl
theorem shJ0_indexOf_0f7a4_1 : cJ0_indexOf_0f7a4.data.toList.drop 1 = sxJ0_indexOf_0f7a4_1 := dSn 1 shJ0_indexOf_0f7a4_0
theorem shJ0_indexOf_0f7a4_2 : cJ0_indexOf_0f7a4.data.toList.drop 2 = sxJ0_indexOf_0f7a4_2 := dSn 1 shJ0_indexOf_0f7a4_1
theorem shJ0_indexOf_0f7a4_3 : cJ0_indexOf_0f7a4.data.toList.drop 3 = sxJ0_indexOf_0f7a4_3 := dSn 1 shJ0_indexOf_0f7a4_2
theorem shJ0_indexOf_0f7a4_6 : cJ0_indexOf_0f7a4.data.toList.drop 6 = sxJ0_indexOf_0f7a4_6 := dSn 3 shJ0_indexOf_0f7a4_3
theorem dJ0_indexOf_0f7a4_0 : decode cJ0_indexOf_0f7a4 0 = .ok (.aload_n 0, 1) := oc_42 shJ0_indexOf_0f7a4_0
theorem dJ0_indexOf_0f7a4_1 : decode cJ0_indexOf_0f7a4 1 = .ok (.iload_n 1, 1) := oc_27 shJ0_indexOf_0f7a4_1
theorem dJ0_indexOf_0f7a4_2 : decode cJ0_indexOf_0f7a4 2 = .ok (.iconst 0, 1) := oc_3 shJ0_indexOf_0f7a4_2
theorem dJ0_indexOf_0f7a4_3 : decode cJ0_indexOf_0f7a4 3 = .ok (.invokevirtual 633, 3) := oc_182 shJ0_indexOf_0f7a4_3
theorem dJ0_indexOf_0f7a4_6 : decode cJ0_indexOf_0f7a4 6 = .ok (.ireturn, 1) := oc_172 shJ0_indexOf_0f7a4_6
noncomputable def sxX9_push_40 : List UInt8 := []
noncomputable def sxX9_push_39 : List UInt8 := 177 :: sxX9_push_40
noncomputable def sxX9_push_36 : List UInt8 := 181 :: 0 :: 55 :: sxX9_push_39
noncomputable def sxX9_push_35 : List UInt8 := 96 :: sxX9_push_36
noncomputable def sxX9_push_34 : List UInt8 := 4 :: sxX9_push_35
noncomputable def sxX9_push_31 : List UInt8 := 180 :: 0 :: 55 :: sxX9_push_34
noncomputable def sxX9_push_30 : List UInt8 := 89 :: sxX9_push_31
noncomputable def sxX9_push_29 : List UInt8 := 42 :: sxX9_push_30
noncomputable def sxX9_push_28 : List UInt8 := 79 :: sxX9_push_29
noncomputable def sxX9_push_27 : List UInt8 := 27 :: sxX9_push_28
noncomputable def sxX9_push_24 : List UInt8 := 180 :: 0 :: 55 :: sxX9_push_27
noncomputable def sxX9_push_23 : List UInt8 := 42 :: sxX9_push_24
noncomputable def sxX9_push_20 : List UInt8 := 180 :: 0 :: 30 :: sxX9_push_23
noncomputable def sxX9_push_19 : List UInt8 := 42 :: sxX9_push_20
noncomputable def sxX9_push_16 : List UInt8 := 162 :: 0 :: 23 :: sxX9_push_19
noncomputable def sxX9_push_15 : List UInt8 := 190 :: sxX9_push_16
noncomputable def sxX9_push_12 : List UInt8 := 180 :: 0 :: 30 :: sxX9_push_15
noncomputable def sxX9_push_11 : List UInt8 := 42 :: sxX9_push_12
noncomputable def sxX9_push_8 : List UInt8 := 180 :: 0 :: 55 :: sxX9_push_11
noncomputable def sxX9_push_7 : List UInt8 := 42 :: sxX9_push_8
noncomputable def sxX9_push_4 : List UInt8 := 155 :: 0 :: 35 :: sxX9_push_7
noncomputable def sxX9_push_1 : List UInt8 := 180 :: 0 :: 55 :: sxX9_push_4
noncomputable def sxX9_push_0 : List UInt8 := 42 :: sxX9_push_1
theorem shX9_push_0 : cX9_push.data.toList.drop 0 = sxX9_push_0 := rfl
theorem shX9_push_1 : cX9_push.data.toList.drop 1 = sxX9_push_1 := dSn 1 shX9_push_0
theorem shX9_push_4 : cX9_push.data.toList.drop 4 = sxX9_push_4 := dSn 3 shX9_push_1
theorem shX9_push_7 : cX9_push.data.toList.drop 7 = sxX9_push_7 := dSn 3 shX9_push_4
theorem shX9_push_8 : cX9_push.data.toList.drop 8 = sxX9_push_8 := dSn 1 shX9_push_7
theorem shX9_push_11 : cX9_push.data.toList.drop 11 = sxX9_push_11 := dSn 3 shX9_push_8
theorem shX9_push_12 : cX9_push.data.toList.drop 12 = sxX9_push_12 := dSn 1 shX9_push_11
theorem shX9_push_15 : cX9_push.data.toList.drop 15 = sxX9_push_15 := dSn 3 shX9_push_12
theorem shX9_push_16 : cX9_push.data.toList.drop 16 = sxX9_push_16 := dSn 1 shX9_push_15
theorem shX9_push_19 : cX9_push.data.toList.drop 19 = sxX9_push_19 := dSn 3 shX9_push_16
theorem shX9_push_20 : cX9_push.data.toList.drop 20 = sxX9_push_20 := dSn 1 shX9_push_19
theorem shX9_push_23 : cX9_push.data.toList.drop 23 = sxX9_push_23 := dSn 3 shX9_push_20
theorem shX9_push_24 : cX9_push.data.toList.drop 24 = sxX9_push_24 := dSn 1 shX9_push_23
theorem shX9_push_27 : cX9_push.data.toList.drop 27 = sxX9_push_27 := dSn 3 shX9_push_24
theorem shX9_push_28 : cX9_push.data.toList.drop 28 = sxX9_push_28 := dSn 1 shX9_push_27
theorem shX9_push_29 : cX9_push.data.toList.drop 29 = sxX9_push_29 := dSn 1 shX9_push_28
theorem shX9_push_30 : cX9_push.data.toList.drop 30 = sxX9_push_30 := dSn 1 shX9_push_29
theorem shX9_push_31 : cX9_push.data.toList.drop 31 = sxX9_push_31 := dSn 1 shX9_push_30
theorem shX9_push_34 : cX9_push.data.toList.drop 34 = sxX9_push_34 := dSn 3 shX9_push_31
theorem shX9_push_35 : cX9_push.data.toList.drop 35 = sxX9_push_35 := dSn 1 shX9_push_34
theorem shX9_push_36 : cX9_push.data.toList.drop 36 = sxX9_push_36 := dSn 1 shX9_push_35
theorem shX9_push_39 : cX9_push.data.toList.drop 39 = sxX9_push_39 := dSn 3 shX9_push_36
theorem dX9_push_0 : decode cX9_push 0 = .ok (.aload_n 0, 1) := oc_42 shX9_push_0
theorem dX9_push_1 : decode cX9_push 1 = .ok (.getfield 55, 3) := oc_180 shX9_push_1
theorem dX9_push_4 : decode cX9_push 4 = .ok (.ifCond .lt 35, 3) := oc_155 shX9_push_4 sgw_0_35
theorem dX9_push_39 : decode cX9_push 39 = .ok (.return_, 1) := oc_177 shX9_push_39
theorem dX9_push_7 : decode cX9_push 7 = .ok (.aload_n 0, 1) := oc_42 shX9_push_7
theorem dX9_push_8 : decode cX9_push 8 = .ok (.getfield 55, 3) := oc_180 shX9_push_8
theorem dX9_push_11 : decode cX9_push 11 = .ok (.aload_n 0, 1) := oc_42 shX9_push_11
theorem dX9_push_12 : decode cX9_push 12 = .ok (.getfield 30, 3) := oc_180 shX9_push_12
theorem dX9_push_15 : decode cX9_push 15 = .ok (.arraylength, 1) := oc_190 shX9_push_15
theorem dX9_push_16 : decode cX9_push 16 = .ok (.if_icmp .ge 23, 3) := oc_162 shX9_push_16 sgw_0_23
theorem dX9_push_19 : decode cX9_push 19 = .ok (.aload_n 0, 1) := oc_42 shX9_push_19
theorem dX9_push_20 : decode cX9_push 20 = .ok (.getfield 30, 3) := oc_180 shX9_push_20
theorem dX9_push_23 : decode cX9_push 23 = .ok (.aload_n 0, 1) := oc_42 shX9_push_23
theorem dX9_push_24 : decode cX9_push 24 = .ok (.getfield 55, 3) := oc_180 shX9_push_24
theorem dX9_push_27 : decode cX9_push 27 = .ok (.iload_n 1, 1) := oc_27 shX9_push_27
theorem dX9_push_28 : decode cX9_push 28 = .ok (.iastore, 1) := oc_79 shX9_push_28
theorem dX9_push_29 : decode cX9_push 29 = .ok (.aload_n 0, 1) := oc_42 shX9_push_29
theorem dX9_push_30 : decode cX9_push 30 = .ok (.dup, 1) := oc_89 shX9_push_30
theorem dX9_push_31 : decode cX9_push 31 = .ok (.getfield 55, 3) := oc_180 shX9_push_31
theorem dX9_push_34 : decode cX9_push 34 = .ok (.iconst 1, 1) := oc_4 shX9_push_34
theorem dX9_push_35 : decode cX9_push 35 = .ok (.iadd, 1) := oc_96 shX9_push_35
theorem dX9_push_36 : decode cX9_push 36 = .ok (.putfield 55, 3) := oc_181 shX9_push_36
noncomputable def sxX9_pop_41 : List UInt8 := []
noncomputable def sxX9_pop_40 : List UInt8 := 172 :: sxX9_pop_41
noncomputable def sxX9_pop_39 : List UInt8 := 46 :: sxX9_pop_40
noncomputable def sxX9_pop_36 : List UInt8 := 180 :: 0 :: 55 :: sxX9_pop_39
noncomputable def sxX9_pop_35 : List UInt8 := 42 :: sxX9_pop_36
noncomputable def sxX9_pop_32 : List UInt8 := 180 :: 0 :: 30 :: sxX9_pop_35
noncomputable def sxX9_pop_31 : List UInt8 := 42 :: sxX9_pop_32
noncomputable def sxX9_pop_28 : List UInt8 := 181 :: 0 :: 55 :: sxX9_pop_31
noncomputable def sxX9_pop_27 : List UInt8 := 100 :: sxX9_pop_28
noncomputable def sxX9_pop_26 : List UInt8 := 4 :: sxX9_pop_27
noncomputable def sxX9_pop_23 : List UInt8 := 180 :: 0 :: 55 :: sxX9_pop_26
noncomputable def sxX9_pop_22 : List UInt8 := 89 :: sxX9_pop_23
noncomputable def sxX9_pop_21 : List UInt8 := 42 :: sxX9_pop_22
noncomputable def sxX9_pop_20 : List UInt8 := 172 :: sxX9_pop_21
noncomputable def sxX9_pop_19 : List UInt8 := 3 :: sxX9_pop_20
noncomputable def sxX9_pop_16 : List UInt8 := 164 :: 0 :: 5 :: sxX9_pop_19
noncomputable def sxX9_pop_15 : List UInt8 := 190 :: sxX9_pop_16
noncomputable def sxX9_pop_12 : List UInt8 := 180 :: 0 :: 30 :: sxX9_pop_15
noncomputable def sxX9_pop_11 : List UInt8 := 42 :: sxX9_pop_12
noncomputable def sxX9_pop_8 : List UInt8 := 180 :: 0 :: 55 :: sxX9_pop_11
noncomputable def sxX9_pop_7 : List UInt8 := 42 :: sxX9_pop_8
noncomputable def sxX9_pop_4 : List UInt8 := 158 :: 0 :: 15 :: sxX9_pop_7
noncomputable def sxX9_pop_1 : List UInt8 := 180 :: 0 :: 55 :: sxX9_pop_4
noncomputable def sxX9_pop_0 : List UInt8 := 42 :: sxX9_pop_1
theorem shX9_pop_0 : cX9_pop.data.toList.drop 0 = sxX9_pop_0 := rfl
theorem shX9_pop_1 : cX9_pop.data.toList.drop 1 = sxX9_pop_1 := dSn 1 shX9_pop_0
theorem shX9_pop_4 : cX9_pop.data.toList.drop 4 = sxX9_pop_4 := dSn 3 shX9_pop_1
theorem shX9_pop_7 : cX9_pop.data.toList.drop 7 = sxX9_pop_7 := dSn 3 shX9_pop_4
theorem shX9_pop_8 : cX9_pop.data.toList.drop 8 = sxX9_pop_8 := dSn 1 shX9_pop_7
theorem shX9_pop_11 : cX9_pop.data.toList.drop 11 = sxX9_pop_11 := dSn 3 shX9_pop_8
theorem shX9_pop_12 : cX9_pop.data.toList.drop 12 = sxX9_pop_12 := dSn 1 shX9_pop_11
theorem shX9_pop_15 : cX9_pop.data.toList.drop 15 = sxX9_pop_15 := dSn 3 shX9_pop_12
theorem shX9_pop_16 : cX9_pop.data.toList.drop 16 = sxX9_pop_16 := dSn 1 shX9_pop_15
theorem shX9_pop_19 : cX9_pop.data.toList.drop 19 = sxX9_pop_19 := dSn 3 shX9_pop_16
theorem shX9_pop_20 : cX9_pop.data.toList.drop 20 = sxX9_pop_20 := dSn 1 shX9_pop_19
theorem shX9_pop_21 : cX9_pop.data.toList.drop 21 = sxX9_pop_21 := dSn 1 shX9_pop_20
theorem shX9_pop_22 : cX9_pop.data.toList.drop 22 = sxX9_pop_22 := dSn 1 shX9_pop_21
theorem shX9_pop_23 : cX9_pop.data.toList.drop 23 = sxX9_pop_23 := dSn 1 shX9_pop_22
theorem shX9_pop_26 : cX9_pop.data.toList.drop 26 = sxX9_pop_26 := dSn 3 shX9_pop_23
theorem shX9_pop_27 : cX9_pop.data.toList.drop 27 = sxX9_pop_27 := dSn 1 shX9_pop_26
theorem shX9_pop_28 : cX9_pop.data.toList.drop 28 = sxX9_pop_28 := dSn 1 shX9_pop_27
theorem shX9_pop_31 : cX9_pop.data.toList.drop 31 = sxX9_pop_31 := dSn 3 shX9_pop_28
theorem shX9_pop_32 : cX9_pop.data.toList.drop 32 = sxX9_pop_32 := dSn 1 shX9_pop_31
theorem shX9_pop_35 : cX9_pop.data.toList.drop 35 = sxX9_pop_35 := dSn 3 shX9_pop_32
theorem shX9_pop_36 : cX9_pop.data.toList.drop 36 = sxX9_pop_36 := dSn 1 shX9_pop_35
theorem shX9_pop_39 : cX9_pop.data.toList.drop 39 = sxX9_pop_39 := dSn 3 shX9_pop_36
theorem shX9_pop_40 : cX9_pop.data.toList.drop 40 = sxX9_pop_40 := dSn 1 shX9_pop_39
theorem dX9_pop_0 : decode cX9_pop 0 = .ok (.aload_n 0, 1) := oc_42 shX9_pop_0
theorem dX9_pop_1 : decode cX9_pop 1 = .ok (.getfield 55, 3) := oc_180 shX9_pop_1
theorem dX9_pop_4 : decode cX9_pop 4 = .ok (.ifCond .le 15, 3) := oc_158 shX9_pop_4 sgw_0_15
theorem dX9_pop_19 : decode cX9_pop 19 = .ok (.iconst 0, 1) := oc_3 shX9_pop_19
theorem dX9_pop_20 : decode cX9_pop 20 = .ok (.ireturn, 1) := oc_172 shX9_pop_20
theorem dX9_pop_7 : decode cX9_pop 7 = .ok (.aload_n 0, 1) := oc_42 shX9_pop_7
theorem dX9_pop_8 : decode cX9_pop 8 = .ok (.getfield 55, 3) := oc_180 shX9_pop_8
theorem dX9_pop_11 : decode cX9_pop 11 = .ok (.aload_n 0, 1) := oc_42 shX9_pop_11
theorem dX9_pop_12 : decode cX9_pop 12 = .ok (.getfield 30, 3) := oc_180 shX9_pop_12
theorem dX9_pop_15 : decode cX9_pop 15 = .ok (.arraylength, 1) := oc_190 shX9_pop_15
theorem dX9_pop_16 : decode cX9_pop 16 = .ok (.if_icmp .le 5, 3) := oc_164 shX9_pop_16 sgw_0_5
theorem dX9_pop_21 : decode cX9_pop 21 = .ok (.aload_n 0, 1) := oc_42 shX9_pop_21
theorem dX9_pop_22 : decode cX9_pop 22 = .ok (.dup, 1) := oc_89 shX9_pop_22
theorem dX9_pop_23 : decode cX9_pop 23 = .ok (.getfield 55, 3) := oc_180 shX9_pop_23
theorem dX9_pop_26 : decode cX9_pop 26 = .ok (.iconst 1, 1) := oc_4 shX9_pop_26
theorem dX9_pop_27 : decode cX9_pop 27 = .ok (.isub, 1) := oc_100 shX9_pop_27
theorem dX9_pop_28 : decode cX9_pop 28 = .ok (.putfield 55, 3) := oc_181 shX9_pop_28
theorem dX9_pop_31 : decode cX9_pop 31 = .ok (.aload_n 0, 1) := oc_42 shX9_pop_31
theorem dX9_pop_32 : decode cX9_pop 32 = .ok (.getfield 30, 3) := oc_180 shX9_pop_32
theorem dX9_pop_35 : decode cX9_pop 35 = .ok (.aload_n 0, 1) := oc_42 shX9_pop_35
theorem dX9_pop_36 : decode cX9_pop 36 = .ok (.getfield 55, 3) := oc_180 shX9_pop_36
theorem dX9_pop_39 : decode cX9_pop 39 = .ok (.iaload, 1) := oc_46 shX9_pop_39
theorem dX9_pop_40 : decode cX9_pop 40 = .ok (.ireturn, 1) := oc_172 shX9_pop_40
noncomputable def sxX9_decided_19 : List UInt8 := []
noncomputable def sxX9_decided_18 : List UInt8 := 172 :: sxX9_decided_19
noncomputable def sxX9_decided_17 : List UInt8 := 4 :: sxX9_decided_18
noncomputable def sxX9_decided_14 : List UInt8 := 182 :: 0 :: 63 :: sxX9_decided_17
noncomputable def sxX9_decided_13 : List UInt8 := 28 :: sxX9_decided_14
noncomputable def sxX9_decided_12 : List UInt8 := 42 :: sxX9_decided_13
noncomputable def sxX9_decided_11 : List UInt8 := 172 :: sxX9_decided_12
noncomputable def sxX9_decided_10 : List UInt8 := 3 :: sxX9_decided_11
noncomputable def sxX9_decided_7 : List UInt8 := 159 :: 0 :: 5 :: sxX9_decided_10
noncomputable def sxX9_decided_6 : List UInt8 := 27 :: sxX9_decided_7
noncomputable def sxX9_decided_5 : List UInt8 := 28 :: sxX9_decided_6
noncomputable def sxX9_decided_4 : List UInt8 := 61 :: sxX9_decided_5
noncomputable def sxX9_decided_1 : List UInt8 := 182 :: 0 :: 67 :: sxX9_decided_4
noncomputable def sxX9_decided_0 : List UInt8 := 42 :: sxX9_decided_1
theorem shX9_decided_0 : cX9_decided.data.toList.drop 0 = sxX9_decided_0 := rfl
theorem shX9_decided_1 : cX9_decided.data.toList.drop 1 = sxX9_decided_1 := dSn 1 shX9_decided_0
theorem shX9_decided_4 : cX9_decided.data.toList.drop 4 = sxX9_decided_4 := dSn 3 shX9_decided_1
theorem shX9_decided_5 : cX9_decided.data.toList.drop 5 = sxX9_decided_5 := dSn 1 shX9_decided_4
theorem shX9_decided_6 : cX9_decided.data.toList.drop 6 = sxX9_decided_6 := dSn 1 shX9_decided_5
theorem shX9_decided_7 : cX9_decided.data.toList.drop 7 = sxX9_decided_7 := dSn 1 shX9_decided_6
theorem shX9_decided_10 : cX9_decided.data.toList.drop 10 = sxX9_decided_10 := dSn 3 shX9_decided_7
theorem shX9_decided_11 : cX9_decided.data.toList.drop 11 = sxX9_decided_11 := dSn 1 shX9_decided_10
theorem shX9_decided_12 : cX9_decided.data.toList.drop 12 = sxX9_decided_12 := dSn 1 shX9_decided_11
theorem shX9_decided_13 : cX9_decided.data.toList.drop 13 = sxX9_decided_13 := dSn 1 shX9_decided_12
theorem shX9_decided_14 : cX9_decided.data.toList.drop 14 = sxX9_decided_14 := dSn 1 shX9_decided_13
theorem shX9_decided_17 : cX9_decided.data.toList.drop 17 = sxX9_decided_17 := dSn 3 shX9_decided_14
theorem shX9_decided_18 : cX9_decided.data.toList.drop 18 = sxX9_decided_18 := dSn 1 shX9_decided_17
theorem dX9_decided_0 : decode cX9_decided 0 = .ok (.aload_n 0, 1) := oc_42 shX9_decided_0
theorem dX9_decided_1 : decode cX9_decided 1 = .ok (.invokevirtual 67, 3) := oc_182 shX9_decided_1
theorem dX9_decided_4 : decode cX9_decided 4 = .ok (.istore_n 2, 1) := oc_61 shX9_decided_4
theorem dX9_decided_5 : decode cX9_decided 5 = .ok (.iload_n 2, 1) := oc_28 shX9_decided_5
theorem dX9_decided_6 : decode cX9_decided 6 = .ok (.iload_n 1, 1) := oc_27 shX9_decided_6
theorem dX9_decided_7 : decode cX9_decided 7 = .ok (.if_icmp .eq 5, 3) := oc_159 shX9_decided_7 sgw_0_5
theorem dX9_decided_12 : decode cX9_decided 12 = .ok (.aload_n 0, 1) := oc_42 shX9_decided_12
theorem dX9_decided_13 : decode cX9_decided 13 = .ok (.iload_n 2, 1) := oc_28 shX9_decided_13
theorem dX9_decided_14 : decode cX9_decided 14 = .ok (.invokevirtual 63, 3) := oc_182 shX9_decided_14
theorem dX9_decided_17 : decode cX9_decided 17 = .ok (.iconst 1, 1) := oc_4 shX9_decided_17
theorem dX9_decided_18 : decode cX9_decided 18 = .ok (.ireturn, 1) := oc_172 shX9_decided_18
theorem dX9_decided_10 : decode cX9_decided 10 = .ok (.iconst 0, 1) := oc_3 shX9_decided_10
theorem dX9_decided_11 : decode cX9_decided 11 = .ok (.ireturn, 1) := oc_172 shX9_decided_11
noncomputable def sxX9_divide_27 : List UInt8 := []
noncomputable def sxX9_divide_26 : List UInt8 := 172 :: sxX9_divide_27
noncomputable def sxX9_divide_25 : List UInt8 := 112 :: sxX9_divide_26
noncomputable def sxX9_divide_24 : List UInt8 := 29 :: sxX9_divide_25
noncomputable def sxX9_divide_23 : List UInt8 := 28 :: sxX9_divide_24
noncomputable def sxX9_divide_20 : List UInt8 := 167 :: 0 :: 6 :: sxX9_divide_23
noncomputable def sxX9_divide_19 : List UInt8 := 108 :: sxX9_divide_20
noncomputable def sxX9_divide_18 : List UInt8 := 29 :: sxX9_divide_19
noncomputable def sxX9_divide_17 : List UInt8 := 28 :: sxX9_divide_18
noncomputable def sxX9_divide_14 : List UInt8 := 160 :: 0 :: 9 :: sxX9_divide_17
noncomputable def sxX9_divide_12 : List UInt8 := 16 :: 6 :: sxX9_divide_14
noncomputable def sxX9_divide_11 : List UInt8 := 27 :: sxX9_divide_12
noncomputable def sxX9_divide_10 : List UInt8 := 172 :: sxX9_divide_11
noncomputable def sxX9_divide_9 : List UInt8 := 3 :: sxX9_divide_10
noncomputable def sxX9_divide_6 : List UInt8 := 181 :: 0 :: 58 :: sxX9_divide_9
noncomputable def sxX9_divide_5 : List UInt8 := 4 :: sxX9_divide_6
noncomputable def sxX9_divide_4 : List UInt8 := 42 :: sxX9_divide_5
noncomputable def sxX9_divide_1 : List UInt8 := 154 :: 0 :: 10 :: sxX9_divide_4
noncomputable def sxX9_divide_0 : List UInt8 := 29 :: sxX9_divide_1
theorem shX9_divide_0 : cX9_divide.data.toList.drop 0 = sxX9_divide_0 := rfl
theorem shX9_divide_1 : cX9_divide.data.toList.drop 1 = sxX9_divide_1 := dSn 1 shX9_divide_0
theorem shX9_divide_4 : cX9_divide.data.toList.drop 4 = sxX9_divide_4 := dSn 3 shX9_divide_1
theorem shX9_divide_5 : cX9_divide.data.toList.drop 5 = sxX9_divide_5 := dSn 1 shX9_divide_4
theorem shX9_divide_6 : cX9_divide.data.toList.drop 6 = sxX9_divide_6 := dSn 1 shX9_divide_5
theorem shX9_divide_9 : cX9_divide.data.toList.drop 9 = sxX9_divide_9 := dSn 3 shX9_divide_6
theorem shX9_divide_10 : cX9_divide.data.toList.drop 10 = sxX9_divide_10 := dSn 1 shX9_divide_9
theorem shX9_divide_11 : cX9_divide.data.toList.drop 11 = sxX9_divide_11 := dSn 1 shX9_divide_10
theorem shX9_divide_12 : cX9_divide.data.toList.drop 12 = sxX9_divide_12 := dSn 1 shX9_divide_11
theorem shX9_divide_14 : cX9_divide.data.toList.drop 14 = sxX9_divide_14 := dSn 2 shX9_divide_12
theorem shX9_divide_17 : cX9_divide.data.toList.drop 17 = sxX9_divide_17 := dSn 3 shX9_divide_14
theorem shX9_divide_18 : cX9_divide.data.toList.drop 18 = sxX9_divide_18 := dSn 1 shX9_divide_17
theorem shX9_divide_19 : cX9_divide.data.toList.drop 19 = sxX9_divide_19 := dSn 1 shX9_divide_18
theorem shX9_divide_20 : cX9_divide.data.toList.drop 20 = sxX9_divide_20 := dSn 1 shX9_divide_19
theorem shX9_divide_23 : cX9_divide.data.toList.drop 23 = sxX9_divide_23 := dSn 3 shX9_divide_20
theorem shX9_divide_24 : cX9_divide.data.toList.drop 24 = sxX9_divide_24 := dSn 1 shX9_divide_23
theorem shX9_divide_25 : cX9_divide.data.toList.drop 25 = sxX9_divide_25 := dSn 1 shX9_divide_24
theorem shX9_divide_26 : cX9_divide.data.toList.drop 26 = sxX9_divide_26 := dSn 1 shX9_divide_25
theorem dX9_divide_0 : decode cX9_divide 0 = .ok (.iload_n 3, 1) := oc_29 shX9_divide_0
theorem dX9_divide_1 : decode cX9_divide 1 = .ok (.ifCond .ne 10, 3) := oc_154 shX9_divide_1 sgw_0_10
theorem dX9_divide_11 : decode cX9_divide 11 = .ok (.iload_n 1, 1) := oc_27 shX9_divide_11
theorem dX9_divide_12 : decode cX9_divide 12 = .ok (.bipush 6, 2) := oc_16 shX9_divide_12 sgb_6
theorem dX9_divide_14 : decode cX9_divide 14 = .ok (.if_icmp .ne 9, 3) := oc_160 shX9_divide_14 sgw_0_9
theorem dX9_divide_23 : decode cX9_divide 23 = .ok (.iload_n 2, 1) := oc_28 shX9_divide_23
theorem dX9_divide_24 : decode cX9_divide 24 = .ok (.iload_n 3, 1) := oc_29 shX9_divide_24
theorem dX9_divide_25 : decode cX9_divide 25 = .ok (.irem, 1) := oc_112 shX9_divide_25
theorem dX9_divide_26 : decode cX9_divide 26 = .ok (.ireturn, 1) := oc_172 shX9_divide_26
theorem dX9_divide_17 : decode cX9_divide 17 = .ok (.iload_n 2, 1) := oc_28 shX9_divide_17
theorem dX9_divide_18 : decode cX9_divide 18 = .ok (.iload_n 3, 1) := oc_29 shX9_divide_18
theorem dX9_divide_19 : decode cX9_divide 19 = .ok (.idiv, 1) := oc_108 shX9_divide_19
theorem dX9_divide_20 : decode cX9_divide 20 = .ok (.goto 6, 3) := oc_167 shX9_divide_20 sgw_0_6
theorem dX9_divide_4 : decode cX9_divide 4 = .ok (.aload_n 0, 1) := oc_42 shX9_divide_4
theorem dX9_divide_5 : decode cX9_divide 5 = .ok (.iconst 1, 1) := oc_4 shX9_divide_5
theorem dX9_divide_6 : decode cX9_divide 6 = .ok (.putfield 58, 3) := oc_181 shX9_divide_6
theorem dX9_divide_9 : decode cX9_divide 9 = .ok (.iconst 0, 1) := oc_3 shX9_divide_9
theorem dX9_divide_10 : decode cX9_divide 10 = .ok (.ireturn, 1) := oc_172 shX9_divide_10
noncomputable def sxX9_reckon_101 : List UInt8 := []
noncomputable def sxX9_reckon_100 : List UInt8 := 172 :: sxX9_reckon_101
noncomputable def sxX9_reckon_97 : List UInt8 := 182 :: 0 :: 79 :: sxX9_reckon_100
noncomputable def sxX9_reckon_96 : List UInt8 := 29 :: sxX9_reckon_97
noncomputable def sxX9_reckon_95 : List UInt8 := 28 :: sxX9_reckon_96
noncomputable def sxX9_reckon_94 : List UInt8 := 27 :: sxX9_reckon_95
noncomputable def sxX9_reckon_93 : List UInt8 := 42 :: sxX9_reckon_94
noncomputable def sxX9_reckon_92 : List UInt8 := 172 :: sxX9_reckon_93
noncomputable def sxX9_reckon_91 : List UInt8 := 3 :: sxX9_reckon_92
noncomputable def sxX9_reckon_88 : List UInt8 := 167 :: 0 :: 4 :: sxX9_reckon_91
noncomputable def sxX9_reckon_87 : List UInt8 := 4 :: sxX9_reckon_88
noncomputable def sxX9_reckon_84 : List UInt8 := 160 :: 0 :: 7 :: sxX9_reckon_87
noncomputable def sxX9_reckon_83 : List UInt8 := 29 :: sxX9_reckon_84
noncomputable def sxX9_reckon_82 : List UInt8 := 28 :: sxX9_reckon_83
noncomputable def sxX9_reckon_81 : List UInt8 := 172 :: sxX9_reckon_82
noncomputable def sxX9_reckon_80 : List UInt8 := 3 :: sxX9_reckon_81
noncomputable def sxX9_reckon_77 : List UInt8 := 167 :: 0 :: 4 :: sxX9_reckon_80
noncomputable def sxX9_reckon_76 : List UInt8 := 4 :: sxX9_reckon_77
noncomputable def sxX9_reckon_73 : List UInt8 := 164 :: 0 :: 7 :: sxX9_reckon_76
noncomputable def sxX9_reckon_72 : List UInt8 := 29 :: sxX9_reckon_73
noncomputable def sxX9_reckon_71 : List UInt8 := 28 :: sxX9_reckon_72
noncomputable def sxX9_reckon_70 : List UInt8 := 172 :: sxX9_reckon_71
noncomputable def sxX9_reckon_69 : List UInt8 := 3 :: sxX9_reckon_70
noncomputable def sxX9_reckon_66 : List UInt8 := 167 :: 0 :: 4 :: sxX9_reckon_69
noncomputable def sxX9_reckon_65 : List UInt8 := 4 :: sxX9_reckon_66
noncomputable def sxX9_reckon_62 : List UInt8 := 162 :: 0 :: 7 :: sxX9_reckon_65
noncomputable def sxX9_reckon_61 : List UInt8 := 29 :: sxX9_reckon_62
noncomputable def sxX9_reckon_60 : List UInt8 := 28 :: sxX9_reckon_61
noncomputable def sxX9_reckon_59 : List UInt8 := 172 :: sxX9_reckon_60
noncomputable def sxX9_reckon_58 : List UInt8 := 104 :: sxX9_reckon_59
noncomputable def sxX9_reckon_57 : List UInt8 := 29 :: sxX9_reckon_58
noncomputable def sxX9_reckon_56 : List UInt8 := 28 :: sxX9_reckon_57
noncomputable def sxX9_reckon_55 : List UInt8 := 172 :: sxX9_reckon_56
noncomputable def sxX9_reckon_54 : List UInt8 := 100 :: sxX9_reckon_55
noncomputable def sxX9_reckon_53 : List UInt8 := 29 :: sxX9_reckon_54
noncomputable def sxX9_reckon_52 : List UInt8 := 28 :: sxX9_reckon_53
noncomputable def sxX9_reckon_51 : List UInt8 := 172 :: sxX9_reckon_52
noncomputable def sxX9_reckon_50 : List UInt8 := 96 :: sxX9_reckon_51
noncomputable def sxX9_reckon_49 : List UInt8 := 29 :: sxX9_reckon_50
noncomputable def sxX9_reckon_48 : List UInt8 := 28 :: sxX9_reckon_49
noncomputable def sxX9_reckon_1 : List UInt8 := 170 :: 0 :: 0 :: 0 :: 0 :: 0 :: 92 :: 0 :: 0 :: 0 :: 3 :: 0 :: 0 :: 0 :: 10 :: 0 :: 0 :: 0 :: 47 :: 0 :: 0 :: 0 :: 51 :: 0 :: 0 :: 0 :: 55 :: 0 :: 0 :: 0 :: 92 :: 0 :: 0 :: 0 :: 92 :: 0 :: 0 :: 0 :: 59 :: 0 :: 0 :: 0 :: 70 :: 0 :: 0 :: 0 :: 81 :: sxX9_reckon_48
noncomputable def sxX9_reckon_0 : List UInt8 := 27 :: sxX9_reckon_1
theorem shX9_reckon_0 : cX9_reckon.data.toList.drop 0 = sxX9_reckon_0 := rfl
theorem shX9_reckon_1 : cX9_reckon.data.toList.drop 1 = sxX9_reckon_1 := dSn 1 shX9_reckon_0
theorem shX9_reckon_48 : cX9_reckon.data.toList.drop 48 = sxX9_reckon_48 := dSn 47 shX9_reckon_1
theorem shX9_reckon_49 : cX9_reckon.data.toList.drop 49 = sxX9_reckon_49 := dSn 1 shX9_reckon_48
theorem shX9_reckon_50 : cX9_reckon.data.toList.drop 50 = sxX9_reckon_50 := dSn 1 shX9_reckon_49
theorem shX9_reckon_51 : cX9_reckon.data.toList.drop 51 = sxX9_reckon_51 := dSn 1 shX9_reckon_50
theorem shX9_reckon_52 : cX9_reckon.data.toList.drop 52 = sxX9_reckon_52 := dSn 1 shX9_reckon_51
theorem shX9_reckon_53 : cX9_reckon.data.toList.drop 53 = sxX9_reckon_53 := dSn 1 shX9_reckon_52
theorem shX9_reckon_54 : cX9_reckon.data.toList.drop 54 = sxX9_reckon_54 := dSn 1 shX9_reckon_53
theorem shX9_reckon_55 : cX9_reckon.data.toList.drop 55 = sxX9_reckon_55 := dSn 1 shX9_reckon_54
theorem shX9_reckon_56 : cX9_reckon.data.toList.drop 56 = sxX9_reckon_56 := dSn 1 shX9_reckon_55
theorem shX9_reckon_57 : cX9_reckon.data.toList.drop 57 = sxX9_reckon_57 := dSn 1 shX9_reckon_56
theorem shX9_reckon_58 : cX9_reckon.data.toList.drop 58 = sxX9_reckon_58 := dSn 1 shX9_reckon_57
theorem shX9_reckon_59 : cX9_reckon.data.toList.drop 59 = sxX9_reckon_59 := dSn 1 shX9_reckon_58
theorem shX9_reckon_60 : cX9_reckon.data.toList.drop 60 = sxX9_reckon_60 := dSn 1 shX9_reckon_59
theorem shX9_reckon_61 : cX9_reckon.data.toList.drop 61 = sxX9_reckon_61 := dSn 1 shX9_reckon_60
theorem shX9_reckon_62 : cX9_reckon.data.toList.drop 62 = sxX9_reckon_62 := dSn 1 shX9_reckon_61
theorem shX9_reckon_65 : cX9_reckon.data.toList.drop 65 = sxX9_reckon_65 := dSn 3 shX9_reckon_62
theorem shX9_reckon_66 : cX9_reckon.data.toList.drop 66 = sxX9_reckon_66 := dSn 1 shX9_reckon_65
theorem shX9_reckon_69 : cX9_reckon.data.toList.drop 69 = sxX9_reckon_69 := dSn 3 shX9_reckon_66
theorem shX9_reckon_70 : cX9_reckon.data.toList.drop 70 = sxX9_reckon_70 := dSn 1 shX9_reckon_69
theorem shX9_reckon_71 : cX9_reckon.data.toList.drop 71 = sxX9_reckon_71 := dSn 1 shX9_reckon_70
theorem shX9_reckon_72 : cX9_reckon.data.toList.drop 72 = sxX9_reckon_72 := dSn 1 shX9_reckon_71
theorem shX9_reckon_73 : cX9_reckon.data.toList.drop 73 = sxX9_reckon_73 := dSn 1 shX9_reckon_72
theorem shX9_reckon_76 : cX9_reckon.data.toList.drop 76 = sxX9_reckon_76 := dSn 3 shX9_reckon_73
theorem shX9_reckon_77 : cX9_reckon.data.toList.drop 77 = sxX9_reckon_77 := dSn 1 shX9_reckon_76
theorem shX9_reckon_80 : cX9_reckon.data.toList.drop 80 = sxX9_reckon_80 := dSn 3 shX9_reckon_77
theorem shX9_reckon_81 : cX9_reckon.data.toList.drop 81 = sxX9_reckon_81 := dSn 1 shX9_reckon_80
theorem shX9_reckon_82 : cX9_reckon.data.toList.drop 82 = sxX9_reckon_82 := dSn 1 shX9_reckon_81
theorem shX9_reckon_83 : cX9_reckon.data.toList.drop 83 = sxX9_reckon_83 := dSn 1 shX9_reckon_82
theorem shX9_reckon_84 : cX9_reckon.data.toList.drop 84 = sxX9_reckon_84 := dSn 1 shX9_reckon_83
theorem shX9_reckon_87 : cX9_reckon.data.toList.drop 87 = sxX9_reckon_87 := dSn 3 shX9_reckon_84
theorem shX9_reckon_88 : cX9_reckon.data.toList.drop 88 = sxX9_reckon_88 := dSn 1 shX9_reckon_87
theorem shX9_reckon_91 : cX9_reckon.data.toList.drop 91 = sxX9_reckon_91 := dSn 3 shX9_reckon_88
theorem shX9_reckon_92 : cX9_reckon.data.toList.drop 92 = sxX9_reckon_92 := dSn 1 shX9_reckon_91
theorem shX9_reckon_93 : cX9_reckon.data.toList.drop 93 = sxX9_reckon_93 := dSn 1 shX9_reckon_92
theorem shX9_reckon_94 : cX9_reckon.data.toList.drop 94 = sxX9_reckon_94 := dSn 1 shX9_reckon_93
theorem shX9_reckon_95 : cX9_reckon.data.toList.drop 95 = sxX9_reckon_95 := dSn 1 shX9_reckon_94
theorem shX9_reckon_96 : cX9_reckon.data.toList.drop 96 = sxX9_reckon_96 := dSn 1 shX9_reckon_95
theorem shX9_reckon_97 : cX9_reckon.data.toList.drop 97 = sxX9_reckon_97 := dSn 1 shX9_reckon_96
theorem shX9_reckon_100 : cX9_reckon.data.toList.drop 100 = sxX9_reckon_100 := dSn 3 shX9_reckon_97
theorem dX9_reckon_0 : decode cX9_reckon 0 = .ok (.iload_n 1, 1) := oc_27 shX9_reckon_0
theorem dX9_reckon_1 : decode cX9_reckon 1 = .ok (.tableswitch 92 3 10 #[47, 51, 55, 92, 92, 59, 70, 81], 47) := by decide +kernel
theorem dX9_reckon_93 : decode cX9_reckon 93 = .ok (.aload_n 0, 1) := oc_42 shX9_reckon_93
theorem dX9_reckon_94 : decode cX9_reckon 94 = .ok (.iload_n 1, 1) := oc_27 shX9_reckon_94
theorem dX9_reckon_95 : decode cX9_reckon 95 = .ok (.iload_n 2, 1) := oc_28 shX9_reckon_95
theorem dX9_reckon_96 : decode cX9_reckon 96 = .ok (.iload_n 3, 1) := oc_29 shX9_reckon_96
theorem dX9_reckon_97 : decode cX9_reckon 97 = .ok (.invokevirtual 79, 3) := oc_182 shX9_reckon_97
theorem dX9_reckon_100 : decode cX9_reckon 100 = .ok (.ireturn, 1) := oc_172 shX9_reckon_100
theorem dX9_reckon_48 : decode cX9_reckon 48 = .ok (.iload_n 2, 1) := oc_28 shX9_reckon_48
theorem dX9_reckon_49 : decode cX9_reckon 49 = .ok (.iload_n 3, 1) := oc_29 shX9_reckon_49
theorem dX9_reckon_50 : decode cX9_reckon 50 = .ok (.iadd, 1) := oc_96 shX9_reckon_50
theorem dX9_reckon_51 : decode cX9_reckon 51 = .ok (.ireturn, 1) := oc_172 shX9_reckon_51
theorem dX9_reckon_52 : decode cX9_reckon 52 = .ok (.iload_n 2, 1) := oc_28 shX9_reckon_52
theorem dX9_reckon_53 : decode cX9_reckon 53 = .ok (.iload_n 3, 1) := oc_29 shX9_reckon_53
theorem dX9_reckon_54 : decode cX9_reckon 54 = .ok (.isub, 1) := oc_100 shX9_reckon_54
theorem dX9_reckon_55 : decode cX9_reckon 55 = .ok (.ireturn, 1) := oc_172 shX9_reckon_55
theorem dX9_reckon_56 : decode cX9_reckon 56 = .ok (.iload_n 2, 1) := oc_28 shX9_reckon_56
theorem dX9_reckon_57 : decode cX9_reckon 57 = .ok (.iload_n 3, 1) := oc_29 shX9_reckon_57
theorem dX9_reckon_58 : decode cX9_reckon 58 = .ok (.imul, 1) := oc_104 shX9_reckon_58
theorem dX9_reckon_59 : decode cX9_reckon 59 = .ok (.ireturn, 1) := oc_172 shX9_reckon_59
theorem dX9_reckon_60 : decode cX9_reckon 60 = .ok (.iload_n 2, 1) := oc_28 shX9_reckon_60
theorem dX9_reckon_61 : decode cX9_reckon 61 = .ok (.iload_n 3, 1) := oc_29 shX9_reckon_61
theorem dX9_reckon_62 : decode cX9_reckon 62 = .ok (.if_icmp .ge 7, 3) := oc_162 shX9_reckon_62 sgw_0_7
theorem dX9_reckon_69 : decode cX9_reckon 69 = .ok (.iconst 0, 1) := oc_3 shX9_reckon_69
theorem dX9_reckon_70 : decode cX9_reckon 70 = .ok (.ireturn, 1) := oc_172 shX9_reckon_70
theorem dX9_reckon_65 : decode cX9_reckon 65 = .ok (.iconst 1, 1) := oc_4 shX9_reckon_65
theorem dX9_reckon_66 : decode cX9_reckon 66 = .ok (.goto 4, 3) := oc_167 shX9_reckon_66 sgw_0_4
theorem dX9_reckon_71 : decode cX9_reckon 71 = .ok (.iload_n 2, 1) := oc_28 shX9_reckon_71
theorem dX9_reckon_72 : decode cX9_reckon 72 = .ok (.iload_n 3, 1) := oc_29 shX9_reckon_72
theorem dX9_reckon_73 : decode cX9_reckon 73 = .ok (.if_icmp .le 7, 3) := oc_164 shX9_reckon_73 sgw_0_7
theorem dX9_reckon_80 : decode cX9_reckon 80 = .ok (.iconst 0, 1) := oc_3 shX9_reckon_80
theorem dX9_reckon_81 : decode cX9_reckon 81 = .ok (.ireturn, 1) := oc_172 shX9_reckon_81
theorem dX9_reckon_76 : decode cX9_reckon 76 = .ok (.iconst 1, 1) := oc_4 shX9_reckon_76
theorem dX9_reckon_77 : decode cX9_reckon 77 = .ok (.goto 4, 3) := oc_167 shX9_reckon_77 sgw_0_4
theorem dX9_reckon_82 : decode cX9_reckon 82 = .ok (.iload_n 2, 1) := oc_28 shX9_reckon_82
theorem dX9_reckon_83 : decode cX9_reckon 83 = .ok (.iload_n 3, 1) := oc_29 shX9_reckon_83
theorem dX9_reckon_84 : decode cX9_reckon 84 = .ok (.if_icmp .ne 7, 3) := oc_160 shX9_reckon_84 sgw_0_7
theorem dX9_reckon_91 : decode cX9_reckon 91 = .ok (.iconst 0, 1) := oc_3 shX9_reckon_91
theorem dX9_reckon_92 : decode cX9_reckon 92 = .ok (.ireturn, 1) := oc_172 shX9_reckon_92
theorem dX9_reckon_87 : decode cX9_reckon 87 = .ok (.iconst 1, 1) := oc_4 shX9_reckon_87
theorem dX9_reckon_88 : decode cX9_reckon 88 = .ok (.goto 4, 3) := oc_167 shX9_reckon_88 sgw_0_4
noncomputable def sxX9_run_254 : List UInt8 := []
noncomputable def sxX9_run_253 : List UInt8 := 172 :: sxX9_run_254
noncomputable def sxX9_run_251 : List UInt8 := 21 :: 5 :: sxX9_run_253
noncomputable def sxX9_run_248 : List UInt8 := 167 :: 0 :: 5 :: sxX9_run_251
noncomputable def sxX9_run_247 : List UInt8 := 3 :: sxX9_run_248
noncomputable def sxX9_run_244 : List UInt8 := 153 :: 0 :: 7 :: sxX9_run_247
noncomputable def sxX9_run_241 : List UInt8 := 180 :: 0 :: 58 :: sxX9_run_244
noncomputable def sxX9_run_240 : List UInt8 := 42 :: sxX9_run_241
noncomputable def sxX9_run_238 : List UInt8 := 54 :: 5 :: sxX9_run_240
noncomputable def sxX9_run_235 : List UInt8 := 182 :: 0 :: 67 :: sxX9_run_238
noncomputable def sxX9_run_234 : List UInt8 := 42 :: sxX9_run_235
noncomputable def sxX9_run_231 : List UInt8 := 167 :: 255 :: 41 :: sxX9_run_234
noncomputable def sxX9_run_228 : List UInt8 := 132 :: 5 :: 1 :: sxX9_run_231
noncomputable def sxX9_run_225 : List UInt8 := 182 :: 0 :: 63 :: sxX9_run_228
noncomputable def sxX9_run_222 : List UInt8 := 182 :: 0 :: 75 :: sxX9_run_225
noncomputable def sxX9_run_220 : List UInt8 := 21 :: 8 :: sxX9_run_222
noncomputable def sxX9_run_217 : List UInt8 := 182 :: 0 :: 67 :: sxX9_run_220
noncomputable def sxX9_run_216 : List UInt8 := 42 :: sxX9_run_217
noncomputable def sxX9_run_215 : List UInt8 := 122 :: sxX9_run_216
noncomputable def sxX9_run_213 : List UInt8 := 16 :: 20 :: sxX9_run_215
noncomputable def sxX9_run_211 : List UInt8 := 21 :: 6 :: sxX9_run_213
noncomputable def sxX9_run_210 : List UInt8 := 42 :: sxX9_run_211
noncomputable def sxX9_run_209 : List UInt8 := 42 :: sxX9_run_210
noncomputable def sxX9_run_207 : List UInt8 := 54 :: 8 :: sxX9_run_209
noncomputable def sxX9_run_204 : List UInt8 := 182 :: 0 :: 67 :: sxX9_run_207
noncomputable def sxX9_run_203 : List UInt8 := 42 :: sxX9_run_204
noncomputable def sxX9_run_200 : List UInt8 := 167 :: 0 :: 28 :: sxX9_run_203
noncomputable def sxX9_run_198 : List UInt8 := 54 :: 4 :: sxX9_run_200
noncomputable def sxX9_run_196 : List UInt8 := 21 :: 4 :: sxX9_run_198
noncomputable def sxX9_run_193 : List UInt8 := 167 :: 0 :: 5 :: sxX9_run_196
noncomputable def sxX9_run_191 : List UInt8 := 21 :: 7 :: sxX9_run_193
noncomputable def sxX9_run_188 : List UInt8 := 153 :: 0 :: 8 :: sxX9_run_191
noncomputable def sxX9_run_185 : List UInt8 := 182 :: 0 :: 71 :: sxX9_run_188
noncomputable def sxX9_run_184 : List UInt8 := 4 :: sxX9_run_185
noncomputable def sxX9_run_183 : List UInt8 := 42 :: sxX9_run_184
noncomputable def sxX9_run_180 : List UInt8 := 167 :: 0 :: 48 :: sxX9_run_183
noncomputable def sxX9_run_178 : List UInt8 := 54 :: 4 :: sxX9_run_180
noncomputable def sxX9_run_176 : List UInt8 := 21 :: 4 :: sxX9_run_178
noncomputable def sxX9_run_173 : List UInt8 := 167 :: 0 :: 5 :: sxX9_run_176
noncomputable def sxX9_run_171 : List UInt8 := 21 :: 7 :: sxX9_run_173
noncomputable def sxX9_run_168 : List UInt8 := 153 :: 0 :: 8 :: sxX9_run_171
noncomputable def sxX9_run_165 : List UInt8 := 182 :: 0 :: 71 :: sxX9_run_168
noncomputable def sxX9_run_164 : List UInt8 := 3 :: sxX9_run_165
noncomputable def sxX9_run_163 : List UInt8 := 42 :: sxX9_run_164
noncomputable def sxX9_run_160 : List UInt8 := 167 :: 0 :: 68 :: sxX9_run_163
noncomputable def sxX9_run_157 : List UInt8 := 182 :: 0 :: 63 :: sxX9_run_160
noncomputable def sxX9_run_156 : List UInt8 := 100 :: sxX9_run_157
noncomputable def sxX9_run_153 : List UInt8 := 182 :: 0 :: 67 :: sxX9_run_156
noncomputable def sxX9_run_152 : List UInt8 := 42 :: sxX9_run_153
noncomputable def sxX9_run_151 : List UInt8 := 4 :: sxX9_run_152
noncomputable def sxX9_run_150 : List UInt8 := 42 :: sxX9_run_151
noncomputable def sxX9_run_147 : List UInt8 := 167 :: 0 :: 81 :: sxX9_run_150
noncomputable def sxX9_run_144 : List UInt8 := 182 :: 0 :: 63 :: sxX9_run_147
noncomputable def sxX9_run_141 : List UInt8 := 184 :: 0 :: 37 :: sxX9_run_144
noncomputable def sxX9_run_139 : List UInt8 := 21 :: 7 :: sxX9_run_141
noncomputable def sxX9_run_138 : List UInt8 := 45 :: sxX9_run_139
noncomputable def sxX9_run_137 : List UInt8 := 42 :: sxX9_run_138
noncomputable def sxX9_run_134 : List UInt8 := 167 :: 0 :: 94 :: sxX9_run_137
noncomputable def sxX9_run_131 : List UInt8 := 182 :: 0 :: 63 :: sxX9_run_134
noncomputable def sxX9_run_129 : List UInt8 := 21 :: 7 :: sxX9_run_131
noncomputable def sxX9_run_128 : List UInt8 := 42 :: sxX9_run_129
noncomputable def sxX9_run_62 : List UInt8 := 170 :: 0 :: 0 :: 0 :: 0 :: 141 :: 0 :: 0 :: 0 :: 1 :: 0 :: 0 :: 0 :: 13 :: 0 :: 0 :: 0 :: 66 :: 0 :: 0 :: 0 :: 75 :: 0 :: 0 :: 0 :: 141 :: 0 :: 0 :: 0 :: 141 :: 0 :: 0 :: 0 :: 141 :: 0 :: 0 :: 0 :: 141 :: 0 :: 0 :: 0 :: 141 :: 0 :: 0 :: 0 :: 141 :: 0 :: 0 :: 0 :: 141 :: 0 :: 0 :: 0 :: 141 :: 0 :: 0 :: 0 :: 88 :: 0 :: 0 :: 0 :: 101 :: 0 :: 0 :: 0 :: 121 :: sxX9_run_128
noncomputable def sxX9_run_61 : List UInt8 := 122 :: sxX9_run_62
noncomputable def sxX9_run_59 : List UInt8 := 16 :: 20 :: sxX9_run_61
noncomputable def sxX9_run_57 : List UInt8 := 21 :: 6 :: sxX9_run_59
noncomputable def sxX9_run_55 : List UInt8 := 54 :: 7 :: sxX9_run_57
noncomputable def sxX9_run_54 : List UInt8 := 126 :: sxX9_run_55
noncomputable def sxX9_run_52 : List UInt8 := 18 :: 62 :: sxX9_run_54
noncomputable def sxX9_run_50 : List UInt8 := 21 :: 6 :: sxX9_run_52
noncomputable def sxX9_run_48 : List UInt8 := 54 :: 6 :: sxX9_run_50
noncomputable def sxX9_run_45 : List UInt8 := 184 :: 0 :: 37 :: sxX9_run_48
noncomputable def sxX9_run_43 : List UInt8 := 21 :: 5 :: sxX9_run_45
noncomputable def sxX9_run_40 : List UInt8 := 180 :: 0 :: 17 :: sxX9_run_43
noncomputable def sxX9_run_39 : List UInt8 := 42 :: sxX9_run_40
noncomputable def sxX9_run_36 : List UInt8 := 167 :: 0 :: 192 :: sxX9_run_39
noncomputable def sxX9_run_33 : List UInt8 := 162 :: 0 :: 6 :: sxX9_run_36
noncomputable def sxX9_run_31 : List UInt8 := 21 :: 4 :: sxX9_run_33
noncomputable def sxX9_run_29 : List UInt8 := 21 :: 5 :: sxX9_run_31
noncomputable def sxX9_run_26 : List UInt8 := 154 :: 0 :: 208 :: sxX9_run_29
noncomputable def sxX9_run_23 : List UInt8 := 180 :: 0 :: 58 :: sxX9_run_26
noncomputable def sxX9_run_22 : List UInt8 := 42 :: sxX9_run_23
noncomputable def sxX9_run_19 : List UInt8 := 162 :: 0 :: 215 :: sxX9_run_22
noncomputable def sxX9_run_18 : List UInt8 := 28 :: sxX9_run_19
noncomputable def sxX9_run_16 : List UInt8 := 21 :: 5 :: sxX9_run_18
noncomputable def sxX9_run_14 : List UInt8 := 54 :: 5 :: sxX9_run_16
noncomputable def sxX9_run_13 : List UInt8 := 27 :: sxX9_run_14
noncomputable def sxX9_run_11 : List UInt8 := 54 :: 4 :: sxX9_run_13
noncomputable def sxX9_run_10 : List UInt8 := 27 :: sxX9_run_11
noncomputable def sxX9_run_7 : List UInt8 := 181 :: 0 :: 58 :: sxX9_run_10
noncomputable def sxX9_run_6 : List UInt8 := 3 :: sxX9_run_7
noncomputable def sxX9_run_5 : List UInt8 := 42 :: sxX9_run_6
noncomputable def sxX9_run_2 : List UInt8 := 181 :: 0 :: 55 :: sxX9_run_5
noncomputable def sxX9_run_1 : List UInt8 := 3 :: sxX9_run_2
noncomputable def sxX9_run_0 : List UInt8 := 42 :: sxX9_run_1
theorem shX9_run_0 : cX9_run.data.toList.drop 0 = sxX9_run_0 := rfl
theorem shX9_run_1 : cX9_run.data.toList.drop 1 = sxX9_run_1 := dSn 1 shX9_run_0
theorem shX9_run_2 : cX9_run.data.toList.drop 2 = sxX9_run_2 := dSn 1 shX9_run_1
theorem shX9_run_5 : cX9_run.data.toList.drop 5 = sxX9_run_5 := dSn 3 shX9_run_2
theorem shX9_run_6 : cX9_run.data.toList.drop 6 = sxX9_run_6 := dSn 1 shX9_run_5
theorem shX9_run_7 : cX9_run.data.toList.drop 7 = sxX9_run_7 := dSn 1 shX9_run_6
theorem shX9_run_10 : cX9_run.data.toList.drop 10 = sxX9_run_10 := dSn 3 shX9_run_7
theorem shX9_run_11 : cX9_run.data.toList.drop 11 = sxX9_run_11 := dSn 1 shX9_run_10
theorem shX9_run_13 : cX9_run.data.toList.drop 13 = sxX9_run_13 := dSn 2 shX9_run_11
theorem shX9_run_14 : cX9_run.data.toList.drop 14 = sxX9_run_14 := dSn 1 shX9_run_13
theorem shX9_run_16 : cX9_run.data.toList.drop 16 = sxX9_run_16 := dSn 2 shX9_run_14
theorem shX9_run_18 : cX9_run.data.toList.drop 18 = sxX9_run_18 := dSn 2 shX9_run_16
theorem shX9_run_19 : cX9_run.data.toList.drop 19 = sxX9_run_19 := dSn 1 shX9_run_18
theorem shX9_run_22 : cX9_run.data.toList.drop 22 = sxX9_run_22 := dSn 3 shX9_run_19
theorem shX9_run_23 : cX9_run.data.toList.drop 23 = sxX9_run_23 := dSn 1 shX9_run_22
theorem shX9_run_26 : cX9_run.data.toList.drop 26 = sxX9_run_26 := dSn 3 shX9_run_23
theorem shX9_run_29 : cX9_run.data.toList.drop 29 = sxX9_run_29 := dSn 3 shX9_run_26
theorem shX9_run_31 : cX9_run.data.toList.drop 31 = sxX9_run_31 := dSn 2 shX9_run_29
theorem shX9_run_33 : cX9_run.data.toList.drop 33 = sxX9_run_33 := dSn 2 shX9_run_31
theorem shX9_run_36 : cX9_run.data.toList.drop 36 = sxX9_run_36 := dSn 3 shX9_run_33
theorem shX9_run_39 : cX9_run.data.toList.drop 39 = sxX9_run_39 := dSn 3 shX9_run_36
theorem shX9_run_40 : cX9_run.data.toList.drop 40 = sxX9_run_40 := dSn 1 shX9_run_39
theorem shX9_run_43 : cX9_run.data.toList.drop 43 = sxX9_run_43 := dSn 3 shX9_run_40
theorem shX9_run_45 : cX9_run.data.toList.drop 45 = sxX9_run_45 := dSn 2 shX9_run_43
theorem shX9_run_48 : cX9_run.data.toList.drop 48 = sxX9_run_48 := dSn 3 shX9_run_45
theorem shX9_run_50 : cX9_run.data.toList.drop 50 = sxX9_run_50 := dSn 2 shX9_run_48
theorem shX9_run_52 : cX9_run.data.toList.drop 52 = sxX9_run_52 := dSn 2 shX9_run_50
theorem shX9_run_54 : cX9_run.data.toList.drop 54 = sxX9_run_54 := dSn 2 shX9_run_52
theorem shX9_run_55 : cX9_run.data.toList.drop 55 = sxX9_run_55 := dSn 1 shX9_run_54
theorem shX9_run_57 : cX9_run.data.toList.drop 57 = sxX9_run_57 := dSn 2 shX9_run_55
theorem shX9_run_59 : cX9_run.data.toList.drop 59 = sxX9_run_59 := dSn 2 shX9_run_57
theorem shX9_run_61 : cX9_run.data.toList.drop 61 = sxX9_run_61 := dSn 2 shX9_run_59
theorem shX9_run_62 : cX9_run.data.toList.drop 62 = sxX9_run_62 := dSn 1 shX9_run_61
theorem shX9_run_128 : cX9_run.data.toList.drop 128 = sxX9_run_128 := dSn 66 shX9_run_62
theorem shX9_run_129 : cX9_run.data.toList.drop 129 = sxX9_run_129 := dSn 1 shX9_run_128
theorem shX9_run_131 : cX9_run.data.toList.drop 131 = sxX9_run_131 := dSn 2 shX9_run_129
theorem shX9_run_134 : cX9_run.data.toList.drop 134 = sxX9_run_134 := dSn 3 shX9_run_131
theorem shX9_run_137 : cX9_run.data.toList.drop 137 = sxX9_run_137 := dSn 3 shX9_run_134
theorem shX9_run_138 : cX9_run.data.toList.drop 138 = sxX9_run_138 := dSn 1 shX9_run_137
theorem shX9_run_139 : cX9_run.data.toList.drop 139 = sxX9_run_139 := dSn 1 shX9_run_138
theorem shX9_run_141 : cX9_run.data.toList.drop 141 = sxX9_run_141 := dSn 2 shX9_run_139
theorem shX9_run_144 : cX9_run.data.toList.drop 144 = sxX9_run_144 := dSn 3 shX9_run_141
theorem shX9_run_147 : cX9_run.data.toList.drop 147 = sxX9_run_147 := dSn 3 shX9_run_144
theorem shX9_run_150 : cX9_run.data.toList.drop 150 = sxX9_run_150 := dSn 3 shX9_run_147
theorem shX9_run_151 : cX9_run.data.toList.drop 151 = sxX9_run_151 := dSn 1 shX9_run_150
theorem shX9_run_152 : cX9_run.data.toList.drop 152 = sxX9_run_152 := dSn 1 shX9_run_151
theorem shX9_run_153 : cX9_run.data.toList.drop 153 = sxX9_run_153 := dSn 1 shX9_run_152
theorem shX9_run_156 : cX9_run.data.toList.drop 156 = sxX9_run_156 := dSn 3 shX9_run_153
theorem shX9_run_157 : cX9_run.data.toList.drop 157 = sxX9_run_157 := dSn 1 shX9_run_156
theorem shX9_run_160 : cX9_run.data.toList.drop 160 = sxX9_run_160 := dSn 3 shX9_run_157
theorem shX9_run_163 : cX9_run.data.toList.drop 163 = sxX9_run_163 := dSn 3 shX9_run_160
theorem shX9_run_164 : cX9_run.data.toList.drop 164 = sxX9_run_164 := dSn 1 shX9_run_163
theorem shX9_run_165 : cX9_run.data.toList.drop 165 = sxX9_run_165 := dSn 1 shX9_run_164
theorem shX9_run_168 : cX9_run.data.toList.drop 168 = sxX9_run_168 := dSn 3 shX9_run_165
theorem shX9_run_171 : cX9_run.data.toList.drop 171 = sxX9_run_171 := dSn 3 shX9_run_168
theorem shX9_run_173 : cX9_run.data.toList.drop 173 = sxX9_run_173 := dSn 2 shX9_run_171
theorem shX9_run_176 : cX9_run.data.toList.drop 176 = sxX9_run_176 := dSn 3 shX9_run_173
theorem shX9_run_178 : cX9_run.data.toList.drop 178 = sxX9_run_178 := dSn 2 shX9_run_176
theorem shX9_run_180 : cX9_run.data.toList.drop 180 = sxX9_run_180 := dSn 2 shX9_run_178
theorem shX9_run_183 : cX9_run.data.toList.drop 183 = sxX9_run_183 := dSn 3 shX9_run_180
theorem shX9_run_184 : cX9_run.data.toList.drop 184 = sxX9_run_184 := dSn 1 shX9_run_183
theorem shX9_run_185 : cX9_run.data.toList.drop 185 = sxX9_run_185 := dSn 1 shX9_run_184
theorem shX9_run_188 : cX9_run.data.toList.drop 188 = sxX9_run_188 := dSn 3 shX9_run_185
theorem shX9_run_191 : cX9_run.data.toList.drop 191 = sxX9_run_191 := dSn 3 shX9_run_188
theorem shX9_run_193 : cX9_run.data.toList.drop 193 = sxX9_run_193 := dSn 2 shX9_run_191
theorem shX9_run_196 : cX9_run.data.toList.drop 196 = sxX9_run_196 := dSn 3 shX9_run_193
theorem shX9_run_198 : cX9_run.data.toList.drop 198 = sxX9_run_198 := dSn 2 shX9_run_196
theorem shX9_run_200 : cX9_run.data.toList.drop 200 = sxX9_run_200 := dSn 2 shX9_run_198
theorem shX9_run_203 : cX9_run.data.toList.drop 203 = sxX9_run_203 := dSn 3 shX9_run_200
theorem shX9_run_204 : cX9_run.data.toList.drop 204 = sxX9_run_204 := dSn 1 shX9_run_203
theorem shX9_run_207 : cX9_run.data.toList.drop 207 = sxX9_run_207 := dSn 3 shX9_run_204
theorem shX9_run_209 : cX9_run.data.toList.drop 209 = sxX9_run_209 := dSn 2 shX9_run_207
theorem shX9_run_210 : cX9_run.data.toList.drop 210 = sxX9_run_210 := dSn 1 shX9_run_209
theorem shX9_run_211 : cX9_run.data.toList.drop 211 = sxX9_run_211 := dSn 1 shX9_run_210
theorem shX9_run_213 : cX9_run.data.toList.drop 213 = sxX9_run_213 := dSn 2 shX9_run_211
theorem shX9_run_215 : cX9_run.data.toList.drop 215 = sxX9_run_215 := dSn 2 shX9_run_213
theorem shX9_run_216 : cX9_run.data.toList.drop 216 = sxX9_run_216 := dSn 1 shX9_run_215
theorem shX9_run_217 : cX9_run.data.toList.drop 217 = sxX9_run_217 := dSn 1 shX9_run_216
theorem shX9_run_220 : cX9_run.data.toList.drop 220 = sxX9_run_220 := dSn 3 shX9_run_217
theorem shX9_run_222 : cX9_run.data.toList.drop 222 = sxX9_run_222 := dSn 2 shX9_run_220
theorem shX9_run_225 : cX9_run.data.toList.drop 225 = sxX9_run_225 := dSn 3 shX9_run_222
theorem shX9_run_228 : cX9_run.data.toList.drop 228 = sxX9_run_228 := dSn 3 shX9_run_225
theorem shX9_run_231 : cX9_run.data.toList.drop 231 = sxX9_run_231 := dSn 3 shX9_run_228
theorem shX9_run_234 : cX9_run.data.toList.drop 234 = sxX9_run_234 := dSn 3 shX9_run_231
theorem shX9_run_235 : cX9_run.data.toList.drop 235 = sxX9_run_235 := dSn 1 shX9_run_234
theorem shX9_run_238 : cX9_run.data.toList.drop 238 = sxX9_run_238 := dSn 3 shX9_run_235
theorem shX9_run_240 : cX9_run.data.toList.drop 240 = sxX9_run_240 := dSn 2 shX9_run_238
theorem shX9_run_241 : cX9_run.data.toList.drop 241 = sxX9_run_241 := dSn 1 shX9_run_240
theorem shX9_run_244 : cX9_run.data.toList.drop 244 = sxX9_run_244 := dSn 3 shX9_run_241
theorem shX9_run_247 : cX9_run.data.toList.drop 247 = sxX9_run_247 := dSn 3 shX9_run_244
theorem shX9_run_248 : cX9_run.data.toList.drop 248 = sxX9_run_248 := dSn 1 shX9_run_247
theorem shX9_run_251 : cX9_run.data.toList.drop 251 = sxX9_run_251 := dSn 3 shX9_run_248
theorem shX9_run_253 : cX9_run.data.toList.drop 253 = sxX9_run_253 := dSn 2 shX9_run_251
theorem dX9_run_0 : decode cX9_run 0 = .ok (.aload_n 0, 1) := oc_42 shX9_run_0
theorem dX9_run_1 : decode cX9_run 1 = .ok (.iconst 0, 1) := oc_3 shX9_run_1
theorem dX9_run_2 : decode cX9_run 2 = .ok (.putfield 55, 3) := oc_181 shX9_run_2
theorem dX9_run_5 : decode cX9_run 5 = .ok (.aload_n 0, 1) := oc_42 shX9_run_5
theorem dX9_run_6 : decode cX9_run 6 = .ok (.iconst 0, 1) := oc_3 shX9_run_6
theorem dX9_run_7 : decode cX9_run 7 = .ok (.putfield 58, 3) := oc_181 shX9_run_7
theorem dX9_run_10 : decode cX9_run 10 = .ok (.iload_n 1, 1) := oc_27 shX9_run_10
theorem dX9_run_11 : decode cX9_run 11 = .ok (.istore 4, 2) := oc_54 shX9_run_11
theorem dX9_run_13 : decode cX9_run 13 = .ok (.iload_n 1, 1) := oc_27 shX9_run_13
theorem dX9_run_14 : decode cX9_run 14 = .ok (.istore 5, 2) := oc_54 shX9_run_14
theorem dX9_run_16 : decode cX9_run 16 = .ok (.iload 5, 2) := oc_21 shX9_run_16
theorem dX9_run_18 : decode cX9_run 18 = .ok (.iload_n 2, 1) := oc_28 shX9_run_18
theorem dX9_run_19 : decode cX9_run 19 = .ok (.if_icmp .ge 215, 3) := oc_162 shX9_run_19 sgw_0_215
theorem dX9_run_234 : decode cX9_run 234 = .ok (.aload_n 0, 1) := oc_42 shX9_run_234
theorem dX9_run_235 : decode cX9_run 235 = .ok (.invokevirtual 67, 3) := oc_182 shX9_run_235
theorem dX9_run_238 : decode cX9_run 238 = .ok (.istore 5, 2) := oc_54 shX9_run_238
theorem dX9_run_240 : decode cX9_run 240 = .ok (.aload_n 0, 1) := oc_42 shX9_run_240
theorem dX9_run_241 : decode cX9_run 241 = .ok (.getfield 58, 3) := oc_180 shX9_run_241
theorem dX9_run_244 : decode cX9_run 244 = .ok (.ifCond .eq 7, 3) := oc_153 shX9_run_244 sgw_0_7
theorem dX9_run_251 : decode cX9_run 251 = .ok (.iload 5, 2) := oc_21 shX9_run_251
theorem dX9_run_253 : decode cX9_run 253 = .ok (.ireturn, 1) := oc_172 shX9_run_253
theorem dX9_run_247 : decode cX9_run 247 = .ok (.iconst 0, 1) := oc_3 shX9_run_247
theorem dX9_run_248 : decode cX9_run 248 = .ok (.goto 5, 3) := oc_167 shX9_run_248 sgw_0_5
theorem dX9_run_22 : decode cX9_run 22 = .ok (.aload_n 0, 1) := oc_42 shX9_run_22
theorem dX9_run_23 : decode cX9_run 23 = .ok (.getfield 58, 3) := oc_180 shX9_run_23
theorem dX9_run_26 : decode cX9_run 26 = .ok (.ifCond .ne 208, 3) := oc_154 shX9_run_26 sgw_0_208
theorem dX9_run_29 : decode cX9_run 29 = .ok (.iload 5, 2) := oc_21 shX9_run_29
theorem dX9_run_31 : decode cX9_run 31 = .ok (.iload 4, 2) := oc_21 shX9_run_31
theorem dX9_run_33 : decode cX9_run 33 = .ok (.if_icmp .ge 6, 3) := oc_162 shX9_run_33 sgw_0_6
theorem dX9_run_39 : decode cX9_run 39 = .ok (.aload_n 0, 1) := oc_42 shX9_run_39
theorem dX9_run_40 : decode cX9_run 40 = .ok (.getfield 17, 3) := oc_180 shX9_run_40
theorem dX9_run_43 : decode cX9_run 43 = .ok (.iload 5, 2) := oc_21 shX9_run_43
theorem dX9_run_45 : decode cX9_run 45 = .ok (.invokestatic 37, 3) := oc_184 shX9_run_45
theorem dX9_run_48 : decode cX9_run 48 = .ok (.istore 6, 2) := oc_54 shX9_run_48
theorem dX9_run_50 : decode cX9_run 50 = .ok (.iload 6, 2) := oc_21 shX9_run_50
theorem dX9_run_52 : decode cX9_run 52 = .ok (.ldc 62, 2) := oc_18 shX9_run_52
theorem dX9_run_54 : decode cX9_run 54 = .ok (.iand, 1) := oc_126 shX9_run_54
theorem dX9_run_55 : decode cX9_run 55 = .ok (.istore 7, 2) := oc_54 shX9_run_55
theorem dX9_run_57 : decode cX9_run 57 = .ok (.iload 6, 2) := oc_21 shX9_run_57
theorem dX9_run_59 : decode cX9_run 59 = .ok (.bipush 20, 2) := oc_16 shX9_run_59 sgb_20
theorem dX9_run_61 : decode cX9_run 61 = .ok (.ishr, 1) := oc_122 shX9_run_61
theorem dX9_run_62 : decode cX9_run 62 = .ok (.tableswitch 141 1 13 #[66, 75, 141, 141, 141, 141, 141, 141, 141, 141, 88, 101, 121], 66) := by decide +kernel
theorem dX9_run_203 : decode cX9_run 203 = .ok (.aload_n 0, 1) := oc_42 shX9_run_203
theorem dX9_run_204 : decode cX9_run 204 = .ok (.invokevirtual 67, 3) := oc_182 shX9_run_204
theorem dX9_run_207 : decode cX9_run 207 = .ok (.istore 8, 2) := oc_54 shX9_run_207
theorem dX9_run_209 : decode cX9_run 209 = .ok (.aload_n 0, 1) := oc_42 shX9_run_209
theorem dX9_run_210 : decode cX9_run 210 = .ok (.aload_n 0, 1) := oc_42 shX9_run_210
theorem dX9_run_211 : decode cX9_run 211 = .ok (.iload 6, 2) := oc_21 shX9_run_211
theorem dX9_run_213 : decode cX9_run 213 = .ok (.bipush 20, 2) := oc_16 shX9_run_213 sgb_20
theorem dX9_run_215 : decode cX9_run 215 = .ok (.ishr, 1) := oc_122 shX9_run_215
theorem dX9_run_216 : decode cX9_run 216 = .ok (.aload_n 0, 1) := oc_42 shX9_run_216
theorem dX9_run_217 : decode cX9_run 217 = .ok (.invokevirtual 67, 3) := oc_182 shX9_run_217
theorem dX9_run_220 : decode cX9_run 220 = .ok (.iload 8, 2) := oc_21 shX9_run_220
theorem dX9_run_222 : decode cX9_run 222 = .ok (.invokevirtual 75, 3) := oc_182 shX9_run_222
theorem dX9_run_225 : decode cX9_run 225 = .ok (.invokevirtual 63, 3) := oc_182 shX9_run_225
theorem dX9_run_228 : decode cX9_run 228 = .ok (.iinc 5 1, 3) := oc_132 shX9_run_228 sgb_1
theorem dX9_run_231 : decode cX9_run 231 = .ok (.goto (-215), 3) := oc_167 shX9_run_231 sgw_255_41
theorem dX9_run_128 : decode cX9_run 128 = .ok (.aload_n 0, 1) := oc_42 shX9_run_128
theorem dX9_run_129 : decode cX9_run 129 = .ok (.iload 7, 2) := oc_21 shX9_run_129
theorem dX9_run_131 : decode cX9_run 131 = .ok (.invokevirtual 63, 3) := oc_182 shX9_run_131
theorem dX9_run_134 : decode cX9_run 134 = .ok (.goto 94, 3) := oc_167 shX9_run_134 sgw_0_94
theorem dX9_run_137 : decode cX9_run 137 = .ok (.aload_n 0, 1) := oc_42 shX9_run_137
theorem dX9_run_138 : decode cX9_run 138 = .ok (.aload_n 3, 1) := oc_45 shX9_run_138
theorem dX9_run_139 : decode cX9_run 139 = .ok (.iload 7, 2) := oc_21 shX9_run_139
theorem dX9_run_141 : decode cX9_run 141 = .ok (.invokestatic 37, 3) := oc_184 shX9_run_141
theorem dX9_run_144 : decode cX9_run 144 = .ok (.invokevirtual 63, 3) := oc_182 shX9_run_144
theorem dX9_run_147 : decode cX9_run 147 = .ok (.goto 81, 3) := oc_167 shX9_run_147 sgw_0_81
theorem dX9_run_150 : decode cX9_run 150 = .ok (.aload_n 0, 1) := oc_42 shX9_run_150
theorem dX9_run_151 : decode cX9_run 151 = .ok (.iconst 1, 1) := oc_4 shX9_run_151
theorem dX9_run_152 : decode cX9_run 152 = .ok (.aload_n 0, 1) := oc_42 shX9_run_152
theorem dX9_run_153 : decode cX9_run 153 = .ok (.invokevirtual 67, 3) := oc_182 shX9_run_153
theorem dX9_run_156 : decode cX9_run 156 = .ok (.isub, 1) := oc_100 shX9_run_156
theorem dX9_run_157 : decode cX9_run 157 = .ok (.invokevirtual 63, 3) := oc_182 shX9_run_157
theorem dX9_run_160 : decode cX9_run 160 = .ok (.goto 68, 3) := oc_167 shX9_run_160 sgw_0_68
theorem dX9_run_163 : decode cX9_run 163 = .ok (.aload_n 0, 1) := oc_42 shX9_run_163
theorem dX9_run_164 : decode cX9_run 164 = .ok (.iconst 0, 1) := oc_3 shX9_run_164
theorem dX9_run_165 : decode cX9_run 165 = .ok (.invokevirtual 71, 3) := oc_182 shX9_run_165
theorem dX9_run_168 : decode cX9_run 168 = .ok (.ifCond .eq 8, 3) := oc_153 shX9_run_168 sgw_0_8
theorem dX9_run_176 : decode cX9_run 176 = .ok (.iload 4, 2) := oc_21 shX9_run_176
theorem dX9_run_178 : decode cX9_run 178 = .ok (.istore 4, 2) := oc_54 shX9_run_178
theorem dX9_run_180 : decode cX9_run 180 = .ok (.goto 48, 3) := oc_167 shX9_run_180 sgw_0_48
theorem dX9_run_171 : decode cX9_run 171 = .ok (.iload 7, 2) := oc_21 shX9_run_171
theorem dX9_run_173 : decode cX9_run 173 = .ok (.goto 5, 3) := oc_167 shX9_run_173 sgw_0_5
theorem dX9_run_183 : decode cX9_run 183 = .ok (.aload_n 0, 1) := oc_42 shX9_run_183
theorem dX9_run_184 : decode cX9_run 184 = .ok (.iconst 1, 1) := oc_4 shX9_run_184
theorem dX9_run_185 : decode cX9_run 185 = .ok (.invokevirtual 71, 3) := oc_182 shX9_run_185
theorem dX9_run_188 : decode cX9_run 188 = .ok (.ifCond .eq 8, 3) := oc_153 shX9_run_188 sgw_0_8
theorem dX9_run_196 : decode cX9_run 196 = .ok (.iload 4, 2) := oc_21 shX9_run_196
theorem dX9_run_198 : decode cX9_run 198 = .ok (.istore 4, 2) := oc_54 shX9_run_198
theorem dX9_run_200 : decode cX9_run 200 = .ok (.goto 28, 3) := oc_167 shX9_run_200 sgw_0_28
theorem dX9_run_191 : decode cX9_run 191 = .ok (.iload 7, 2) := oc_21 shX9_run_191
theorem dX9_run_193 : decode cX9_run 193 = .ok (.goto 5, 3) := oc_167 shX9_run_193 sgw_0_5
theorem dX9_run_36 : decode cX9_run 36 = .ok (.goto 192, 3) := oc_167 shX9_run_36 sgw_0_192
noncomputable def sxX9_firstThat_57 : List UInt8 := []
noncomputable def sxX9_firstThat_56 : List UInt8 := 172 :: sxX9_firstThat_57
noncomputable def sxX9_firstThat_55 : List UInt8 := 2 :: sxX9_firstThat_56
noncomputable def sxX9_firstThat_52 : List UInt8 := 167 :: 255 :: 206 :: sxX9_firstThat_55
noncomputable def sxX9_firstThat_49 : List UInt8 := 132 :: 3 :: 1 :: sxX9_firstThat_52
noncomputable def sxX9_firstThat_48 : List UInt8 := 172 :: sxX9_firstThat_49
noncomputable def sxX9_firstThat_47 : List UInt8 := 29 :: sxX9_firstThat_48
noncomputable def sxX9_firstThat_44 : List UInt8 := 160 :: 0 :: 5 :: sxX9_firstThat_47
noncomputable def sxX9_firstThat_43 : List UInt8 := 27 :: sxX9_firstThat_44
noncomputable def sxX9_firstThat_42 : List UInt8 := 3 :: sxX9_firstThat_43
noncomputable def sxX9_firstThat_39 : List UInt8 := 167 :: 0 :: 4 :: sxX9_firstThat_42
noncomputable def sxX9_firstThat_38 : List UInt8 := 4 :: sxX9_firstThat_39
noncomputable def sxX9_firstThat_35 : List UInt8 := 153 :: 0 :: 7 :: sxX9_firstThat_38
noncomputable def sxX9_firstThat_32 : List UInt8 := 182 :: 0 :: 51 :: sxX9_firstThat_35
noncomputable def sxX9_firstThat_31 : List UInt8 := 44 :: sxX9_firstThat_32
noncomputable def sxX9_firstThat_28 : List UInt8 := 184 :: 0 :: 37 :: sxX9_firstThat_31
noncomputable def sxX9_firstThat_27 : List UInt8 := 29 :: sxX9_firstThat_28
noncomputable def sxX9_firstThat_24 : List UInt8 := 180 :: 0 :: 27 :: sxX9_firstThat_27
noncomputable def sxX9_firstThat_23 : List UInt8 := 42 :: sxX9_firstThat_24
noncomputable def sxX9_firstThat_21 : List UInt8 := 21 :: 4 :: sxX9_firstThat_23
noncomputable def sxX9_firstThat_20 : List UInt8 := 42 :: sxX9_firstThat_21
noncomputable def sxX9_firstThat_18 : List UInt8 := 54 :: 4 :: sxX9_firstThat_20
noncomputable def sxX9_firstThat_15 : List UInt8 := 184 :: 0 :: 37 :: sxX9_firstThat_18
noncomputable def sxX9_firstThat_14 : List UInt8 := 29 :: sxX9_firstThat_15
noncomputable def sxX9_firstThat_11 : List UInt8 := 180 :: 0 :: 24 :: sxX9_firstThat_14
noncomputable def sxX9_firstThat_10 : List UInt8 := 42 :: sxX9_firstThat_11
noncomputable def sxX9_firstThat_7 : List UInt8 := 162 :: 0 :: 48 :: sxX9_firstThat_10
noncomputable def sxX9_firstThat_4 : List UInt8 := 180 :: 0 :: 48 :: sxX9_firstThat_7
noncomputable def sxX9_firstThat_3 : List UInt8 := 42 :: sxX9_firstThat_4
noncomputable def sxX9_firstThat_2 : List UInt8 := 29 :: sxX9_firstThat_3
noncomputable def sxX9_firstThat_1 : List UInt8 := 62 :: sxX9_firstThat_2
noncomputable def sxX9_firstThat_0 : List UInt8 := 3 :: sxX9_firstThat_1
theorem shX9_firstThat_0 : cX9_firstThat.data.toList.drop 0 = sxX9_firstThat_0 := rfl
theorem shX9_firstThat_1 : cX9_firstThat.data.toList.drop 1 = sxX9_firstThat_1 := dSn 1 shX9_firstThat_0
theorem shX9_firstThat_2 : cX9_firstThat.data.toList.drop 2 = sxX9_firstThat_2 := dSn 1 shX9_firstThat_1
theorem shX9_firstThat_3 : cX9_firstThat.data.toList.drop 3 = sxX9_firstThat_3 := dSn 1 shX9_firstThat_2
theorem shX9_firstThat_4 : cX9_firstThat.data.toList.drop 4 = sxX9_firstThat_4 := dSn 1 shX9_firstThat_3
theorem shX9_firstThat_7 : cX9_firstThat.data.toList.drop 7 = sxX9_firstThat_7 := dSn 3 shX9_firstThat_4
theorem shX9_firstThat_10 : cX9_firstThat.data.toList.drop 10 = sxX9_firstThat_10 := dSn 3 shX9_firstThat_7
theorem shX9_firstThat_11 : cX9_firstThat.data.toList.drop 11 = sxX9_firstThat_11 := dSn 1 shX9_firstThat_10
theorem shX9_firstThat_14 : cX9_firstThat.data.toList.drop 14 = sxX9_firstThat_14 := dSn 3 shX9_firstThat_11
theorem shX9_firstThat_15 : cX9_firstThat.data.toList.drop 15 = sxX9_firstThat_15 := dSn 1 shX9_firstThat_14
theorem shX9_firstThat_18 : cX9_firstThat.data.toList.drop 18 = sxX9_firstThat_18 := dSn 3 shX9_firstThat_15
theorem shX9_firstThat_20 : cX9_firstThat.data.toList.drop 20 = sxX9_firstThat_20 := dSn 2 shX9_firstThat_18
theorem shX9_firstThat_21 : cX9_firstThat.data.toList.drop 21 = sxX9_firstThat_21 := dSn 1 shX9_firstThat_20
theorem shX9_firstThat_23 : cX9_firstThat.data.toList.drop 23 = sxX9_firstThat_23 := dSn 2 shX9_firstThat_21
theorem shX9_firstThat_24 : cX9_firstThat.data.toList.drop 24 = sxX9_firstThat_24 := dSn 1 shX9_firstThat_23
theorem shX9_firstThat_27 : cX9_firstThat.data.toList.drop 27 = sxX9_firstThat_27 := dSn 3 shX9_firstThat_24
theorem shX9_firstThat_28 : cX9_firstThat.data.toList.drop 28 = sxX9_firstThat_28 := dSn 1 shX9_firstThat_27
theorem shX9_firstThat_31 : cX9_firstThat.data.toList.drop 31 = sxX9_firstThat_31 := dSn 3 shX9_firstThat_28
theorem shX9_firstThat_32 : cX9_firstThat.data.toList.drop 32 = sxX9_firstThat_32 := dSn 1 shX9_firstThat_31
theorem shX9_firstThat_35 : cX9_firstThat.data.toList.drop 35 = sxX9_firstThat_35 := dSn 3 shX9_firstThat_32
theorem shX9_firstThat_38 : cX9_firstThat.data.toList.drop 38 = sxX9_firstThat_38 := dSn 3 shX9_firstThat_35
theorem shX9_firstThat_39 : cX9_firstThat.data.toList.drop 39 = sxX9_firstThat_39 := dSn 1 shX9_firstThat_38
theorem shX9_firstThat_42 : cX9_firstThat.data.toList.drop 42 = sxX9_firstThat_42 := dSn 3 shX9_firstThat_39
theorem shX9_firstThat_43 : cX9_firstThat.data.toList.drop 43 = sxX9_firstThat_43 := dSn 1 shX9_firstThat_42
theorem shX9_firstThat_44 : cX9_firstThat.data.toList.drop 44 = sxX9_firstThat_44 := dSn 1 shX9_firstThat_43
theorem shX9_firstThat_47 : cX9_firstThat.data.toList.drop 47 = sxX9_firstThat_47 := dSn 3 shX9_firstThat_44
theorem shX9_firstThat_48 : cX9_firstThat.data.toList.drop 48 = sxX9_firstThat_48 := dSn 1 shX9_firstThat_47
theorem shX9_firstThat_49 : cX9_firstThat.data.toList.drop 49 = sxX9_firstThat_49 := dSn 1 shX9_firstThat_48
theorem shX9_firstThat_52 : cX9_firstThat.data.toList.drop 52 = sxX9_firstThat_52 := dSn 3 shX9_firstThat_49
theorem shX9_firstThat_55 : cX9_firstThat.data.toList.drop 55 = sxX9_firstThat_55 := dSn 3 shX9_firstThat_52
theorem shX9_firstThat_56 : cX9_firstThat.data.toList.drop 56 = sxX9_firstThat_56 := dSn 1 shX9_firstThat_55
theorem dX9_firstThat_0 : decode cX9_firstThat 0 = .ok (.iconst 0, 1) := oc_3 shX9_firstThat_0
theorem dX9_firstThat_1 : decode cX9_firstThat 1 = .ok (.istore_n 3, 1) := oc_62 shX9_firstThat_1
theorem dX9_firstThat_2 : decode cX9_firstThat 2 = .ok (.iload_n 3, 1) := oc_29 shX9_firstThat_2
theorem dX9_firstThat_3 : decode cX9_firstThat 3 = .ok (.aload_n 0, 1) := oc_42 shX9_firstThat_3
theorem dX9_firstThat_4 : decode cX9_firstThat 4 = .ok (.getfield 48, 3) := oc_180 shX9_firstThat_4
theorem dX9_firstThat_7 : decode cX9_firstThat 7 = .ok (.if_icmp .ge 48, 3) := oc_162 shX9_firstThat_7 sgw_0_48
theorem dX9_firstThat_55 : decode cX9_firstThat 55 = .ok (.iconst (-1), 1) := oc_2 shX9_firstThat_55
theorem dX9_firstThat_56 : decode cX9_firstThat 56 = .ok (.ireturn, 1) := oc_172 shX9_firstThat_56
theorem dX9_firstThat_10 : decode cX9_firstThat 10 = .ok (.aload_n 0, 1) := oc_42 shX9_firstThat_10
theorem dX9_firstThat_11 : decode cX9_firstThat 11 = .ok (.getfield 24, 3) := oc_180 shX9_firstThat_11
theorem dX9_firstThat_14 : decode cX9_firstThat 14 = .ok (.iload_n 3, 1) := oc_29 shX9_firstThat_14
theorem dX9_firstThat_15 : decode cX9_firstThat 15 = .ok (.invokestatic 37, 3) := oc_184 shX9_firstThat_15
theorem dX9_firstThat_18 : decode cX9_firstThat 18 = .ok (.istore 4, 2) := oc_54 shX9_firstThat_18
theorem dX9_firstThat_20 : decode cX9_firstThat 20 = .ok (.aload_n 0, 1) := oc_42 shX9_firstThat_20
theorem dX9_firstThat_21 : decode cX9_firstThat 21 = .ok (.iload 4, 2) := oc_21 shX9_firstThat_21
theorem dX9_firstThat_23 : decode cX9_firstThat 23 = .ok (.aload_n 0, 1) := oc_42 shX9_firstThat_23
theorem dX9_firstThat_24 : decode cX9_firstThat 24 = .ok (.getfield 27, 3) := oc_180 shX9_firstThat_24
theorem dX9_firstThat_27 : decode cX9_firstThat 27 = .ok (.iload_n 3, 1) := oc_29 shX9_firstThat_27
theorem dX9_firstThat_28 : decode cX9_firstThat 28 = .ok (.invokestatic 37, 3) := oc_184 shX9_firstThat_28
theorem dX9_firstThat_31 : decode cX9_firstThat 31 = .ok (.aload_n 2, 1) := oc_44 shX9_firstThat_31
theorem dX9_firstThat_32 : decode cX9_firstThat 32 = .ok (.invokevirtual 51, 3) := oc_182 shX9_firstThat_32
theorem dX9_firstThat_35 : decode cX9_firstThat 35 = .ok (.ifCond .eq 7, 3) := oc_153 shX9_firstThat_35 sgw_0_7
theorem dX9_firstThat_42 : decode cX9_firstThat 42 = .ok (.iconst 0, 1) := oc_3 shX9_firstThat_42
theorem dX9_firstThat_43 : decode cX9_firstThat 43 = .ok (.iload_n 1, 1) := oc_27 shX9_firstThat_43
theorem dX9_firstThat_44 : decode cX9_firstThat 44 = .ok (.if_icmp .ne 5, 3) := oc_160 shX9_firstThat_44 sgw_0_5
theorem dX9_firstThat_49 : decode cX9_firstThat 49 = .ok (.iinc 3 1, 3) := oc_132 shX9_firstThat_49 sgb_1
theorem dX9_firstThat_52 : decode cX9_firstThat 52 = .ok (.goto (-50), 3) := oc_167 shX9_firstThat_52 sgw_255_206
theorem dX9_firstThat_47 : decode cX9_firstThat 47 = .ok (.iload_n 3, 1) := oc_29 shX9_firstThat_47
theorem dX9_firstThat_48 : decode cX9_firstThat 48 = .ok (.ireturn, 1) := oc_172 shX9_firstThat_48
theorem dX9_firstThat_38 : decode cX9_firstThat 38 = .ok (.iconst 1, 1) := oc_4 shX9_firstThat_38
theorem dX9_firstThat_39 : decode cX9_firstThat 39 = .ok (.goto 4, 3) := oc_167 shX9_firstThat_39 sgw_0_4
noncomputable def sxX9_sum_22 : List UInt8 := []
noncomputable def sxX9_sum_21 : List UInt8 := 172 :: sxX9_sum_22
noncomputable def sxX9_sum_18 : List UInt8 := 182 :: 0 :: 51 :: sxX9_sum_21
noncomputable def sxX9_sum_17 : List UInt8 := 44 :: sxX9_sum_18
noncomputable def sxX9_sum_14 : List UInt8 := 184 :: 0 :: 37 :: sxX9_sum_17
noncomputable def sxX9_sum_13 : List UInt8 := 27 :: sxX9_sum_14
noncomputable def sxX9_sum_10 : List UInt8 := 180 :: 0 :: 24 :: sxX9_sum_13
noncomputable def sxX9_sum_9 : List UInt8 := 42 :: sxX9_sum_10
noncomputable def sxX9_sum_6 : List UInt8 := 184 :: 0 :: 37 :: sxX9_sum_9
noncomputable def sxX9_sum_5 : List UInt8 := 27 :: sxX9_sum_6
noncomputable def sxX9_sum_2 : List UInt8 := 180 :: 0 :: 21 :: sxX9_sum_5
noncomputable def sxX9_sum_1 : List UInt8 := 42 :: sxX9_sum_2
noncomputable def sxX9_sum_0 : List UInt8 := 42 :: sxX9_sum_1
theorem shX9_sum_0 : cX9_sum.data.toList.drop 0 = sxX9_sum_0 := rfl
theorem shX9_sum_1 : cX9_sum.data.toList.drop 1 = sxX9_sum_1 := dSn 1 shX9_sum_0
theorem shX9_sum_2 : cX9_sum.data.toList.drop 2 = sxX9_sum_2 := dSn 1 shX9_sum_1
theorem shX9_sum_5 : cX9_sum.data.toList.drop 5 = sxX9_sum_5 := dSn 3 shX9_sum_2
theorem shX9_sum_6 : cX9_sum.data.toList.drop 6 = sxX9_sum_6 := dSn 1 shX9_sum_5
theorem shX9_sum_9 : cX9_sum.data.toList.drop 9 = sxX9_sum_9 := dSn 3 shX9_sum_6
theorem shX9_sum_10 : cX9_sum.data.toList.drop 10 = sxX9_sum_10 := dSn 1 shX9_sum_9
theorem shX9_sum_13 : cX9_sum.data.toList.drop 13 = sxX9_sum_13 := dSn 3 shX9_sum_10
theorem shX9_sum_14 : cX9_sum.data.toList.drop 14 = sxX9_sum_14 := dSn 1 shX9_sum_13
theorem shX9_sum_17 : cX9_sum.data.toList.drop 17 = sxX9_sum_17 := dSn 3 shX9_sum_14
theorem shX9_sum_18 : cX9_sum.data.toList.drop 18 = sxX9_sum_18 := dSn 1 shX9_sum_17
theorem shX9_sum_21 : cX9_sum.data.toList.drop 21 = sxX9_sum_21 := dSn 3 shX9_sum_18
theorem dX9_sum_0 : decode cX9_sum 0 = .ok (.aload_n 0, 1) := oc_42 shX9_sum_0
theorem dX9_sum_1 : decode cX9_sum 1 = .ok (.aload_n 0, 1) := oc_42 shX9_sum_1
theorem dX9_sum_2 : decode cX9_sum 2 = .ok (.getfield 21, 3) := oc_180 shX9_sum_2
theorem dX9_sum_5 : decode cX9_sum 5 = .ok (.iload_n 1, 1) := oc_27 shX9_sum_5
theorem dX9_sum_6 : decode cX9_sum 6 = .ok (.invokestatic 37, 3) := oc_184 shX9_sum_6
theorem dX9_sum_9 : decode cX9_sum 9 = .ok (.aload_n 0, 1) := oc_42 shX9_sum_9
theorem dX9_sum_10 : decode cX9_sum 10 = .ok (.getfield 24, 3) := oc_180 shX9_sum_10
theorem dX9_sum_13 : decode cX9_sum 13 = .ok (.iload_n 1, 1) := oc_27 shX9_sum_13
theorem dX9_sum_14 : decode cX9_sum 14 = .ok (.invokestatic 37, 3) := oc_184 shX9_sum_14
theorem dX9_sum_17 : decode cX9_sum 17 = .ok (.aload_n 2, 1) := oc_44 shX9_sum_17
theorem dX9_sum_18 : decode cX9_sum 18 = .ok (.invokevirtual 51, 3) := oc_182 shX9_sum_18
theorem dX9_sum_21 : decode cX9_sum 21 = .ok (.ireturn, 1) := oc_172 shX9_sum_21
noncomputable def sxX11_letter_15 : List UInt8 := []
noncomputable def sxX11_letter_14 : List UInt8 := 177 :: sxX11_letter_15
noncomputable def sxX11_letter_11 : List UInt8 := 184 :: 0 :: 184 :: sxX11_letter_14
noncomputable def sxX11_letter_10 : List UInt8 := 28 :: sxX11_letter_11
noncomputable def sxX11_letter_7 : List UInt8 := 182 :: 0 :: 181 :: sxX11_letter_10
noncomputable def sxX11_letter_6 : List UInt8 := 27 :: sxX11_letter_7
noncomputable def sxX11_letter_4 : List UInt8 := 18 :: 32 :: sxX11_letter_6
noncomputable def sxX11_letter_1 : List UInt8 := 180 :: 0 :: 40 :: sxX11_letter_4
noncomputable def sxX11_letter_0 : List UInt8 := 42 :: sxX11_letter_1
theorem shX11_letter_0 : cX11_letter.data.toList.drop 0 = sxX11_letter_0 := rfl
theorem shX11_letter_1 : cX11_letter.data.toList.drop 1 = sxX11_letter_1 := dSn 1 shX11_letter_0
theorem shX11_letter_4 : cX11_letter.data.toList.drop 4 = sxX11_letter_4 := dSn 3 shX11_letter_1
theorem shX11_letter_6 : cX11_letter.data.toList.drop 6 = sxX11_letter_6 := dSn 2 shX11_letter_4
theorem shX11_letter_7 : cX11_letter.data.toList.drop 7 = sxX11_letter_7 := dSn 1 shX11_letter_6
theorem shX11_letter_10 : cX11_letter.data.toList.drop 10 = sxX11_letter_10 := dSn 3 shX11_letter_7
theorem shX11_letter_11 : cX11_letter.data.toList.drop 11 = sxX11_letter_11 := dSn 1 shX11_letter_10
theorem shX11_letter_14 : cX11_letter.data.toList.drop 14 = sxX11_letter_14 := dSn 3 shX11_letter_11
theorem dX11_letter_0 : decode cX11_letter 0 = .ok (.aload_n 0, 1) := oc_42 shX11_letter_0
theorem dX11_letter_1 : decode cX11_letter 1 = .ok (.getfield 40, 3) := oc_180 shX11_letter_1
theorem dX11_letter_4 : decode cX11_letter 4 = .ok (.ldc 32, 2) := oc_18 shX11_letter_4
theorem dX11_letter_6 : decode cX11_letter 6 = .ok (.iload_n 1, 1) := oc_27 shX11_letter_6
theorem dX11_letter_7 : decode cX11_letter 7 = .ok (.invokevirtual 181, 3) := oc_182 shX11_letter_7
theorem dX11_letter_10 : decode cX11_letter 10 = .ok (.iload_n 2, 1) := oc_28 shX11_letter_10
theorem dX11_letter_11 : decode cX11_letter 11 = .ok (.invokestatic 184, 3) := oc_184 shX11_letter_11
theorem dX11_letter_14 : decode cX11_letter 14 = .ok (.return_, 1) := oc_177 shX11_letter_14
noncomputable def sxX11_lettersOfDay_48 : List UInt8 := []
noncomputable def sxX11_lettersOfDay_47 : List UInt8 := 177 :: sxX11_lettersOfDay_48
noncomputable def sxX11_lettersOfDay_44 : List UInt8 := 182 :: 0 :: 188 :: sxX11_lettersOfDay_47
noncomputable def sxX11_lettersOfDay_41 : List UInt8 := 184 :: 0 :: 192 :: sxX11_lettersOfDay_44
noncomputable def sxX11_lettersOfDay_40 : List UInt8 := 108 :: sxX11_lettersOfDay_41
noncomputable def sxX11_lettersOfDay_38 : List UInt8 := 16 :: 7 :: sxX11_lettersOfDay_40
noncomputable def sxX11_lettersOfDay_37 : List UInt8 := 27 :: sxX11_lettersOfDay_38
noncomputable def sxX11_lettersOfDay_34 : List UInt8 := 180 :: 0 :: 174 :: sxX11_lettersOfDay_37
noncomputable def sxX11_lettersOfDay_31 : List UInt8 := 180 :: 0 :: 47 :: sxX11_lettersOfDay_34
noncomputable def sxX11_lettersOfDay_30 : List UInt8 := 42 :: sxX11_lettersOfDay_31
noncomputable def sxX11_lettersOfDay_28 : List UInt8 := 16 :: 111 :: sxX11_lettersOfDay_30
noncomputable def sxX11_lettersOfDay_27 : List UInt8 := 42 :: sxX11_lettersOfDay_28
noncomputable def sxX11_lettersOfDay_24 : List UInt8 := 182 :: 0 :: 188 :: sxX11_lettersOfDay_27
noncomputable def sxX11_lettersOfDay_23 : List UInt8 := 112 :: sxX11_lettersOfDay_24
noncomputable def sxX11_lettersOfDay_21 : List UInt8 := 16 :: 7 :: sxX11_lettersOfDay_23
noncomputable def sxX11_lettersOfDay_20 : List UInt8 := 27 :: sxX11_lettersOfDay_21
noncomputable def sxX11_lettersOfDay_18 : List UInt8 := 16 :: 103 :: sxX11_lettersOfDay_20
noncomputable def sxX11_lettersOfDay_17 : List UInt8 := 42 :: sxX11_lettersOfDay_18
noncomputable def sxX11_lettersOfDay_14 : List UInt8 := 182 :: 0 :: 188 :: sxX11_lettersOfDay_17
noncomputable def sxX11_lettersOfDay_13 : List UInt8 := 108 :: sxX11_lettersOfDay_14
noncomputable def sxX11_lettersOfDay_11 : List UInt8 := 16 :: 7 :: sxX11_lettersOfDay_13
noncomputable def sxX11_lettersOfDay_10 : List UInt8 := 27 :: sxX11_lettersOfDay_11
noncomputable def sxX11_lettersOfDay_8 : List UInt8 := 16 :: 119 :: sxX11_lettersOfDay_10
noncomputable def sxX11_lettersOfDay_7 : List UInt8 := 42 :: sxX11_lettersOfDay_8
noncomputable def sxX11_lettersOfDay_4 : List UInt8 := 182 :: 0 :: 188 :: sxX11_lettersOfDay_7
noncomputable def sxX11_lettersOfDay_3 : List UInt8 := 27 :: sxX11_lettersOfDay_4
noncomputable def sxX11_lettersOfDay_1 : List UInt8 := 16 :: 100 :: sxX11_lettersOfDay_3
noncomputable def sxX11_lettersOfDay_0 : List UInt8 := 42 :: sxX11_lettersOfDay_1
theorem shX11_lettersOfDay_0 : cX11_lettersOfDay.data.toList.drop 0 = sxX11_lettersOfDay_0 := rfl
theorem shX11_lettersOfDay_1 : cX11_lettersOfDay.data.toList.drop 1 = sxX11_lettersOfDay_1 := dSn 1 shX11_lettersOfDay_0
theorem shX11_lettersOfDay_3 : cX11_lettersOfDay.data.toList.drop 3 = sxX11_lettersOfDay_3 := dSn 2 shX11_lettersOfDay_1
theorem shX11_lettersOfDay_4 : cX11_lettersOfDay.data.toList.drop 4 = sxX11_lettersOfDay_4 := dSn 1 shX11_lettersOfDay_3
theorem shX11_lettersOfDay_7 : cX11_lettersOfDay.data.toList.drop 7 = sxX11_lettersOfDay_7 := dSn 3 shX11_lettersOfDay_4
theorem shX11_lettersOfDay_8 : cX11_lettersOfDay.data.toList.drop 8 = sxX11_lettersOfDay_8 := dSn 1 shX11_lettersOfDay_7
theorem shX11_lettersOfDay_10 : cX11_lettersOfDay.data.toList.drop 10 = sxX11_lettersOfDay_10 := dSn 2 shX11_lettersOfDay_8
theorem shX11_lettersOfDay_11 : cX11_lettersOfDay.data.toList.drop 11 = sxX11_lettersOfDay_11 := dSn 1 shX11_lettersOfDay_10
theorem shX11_lettersOfDay_13 : cX11_lettersOfDay.data.toList.drop 13 = sxX11_lettersOfDay_13 := dSn 2 shX11_lettersOfDay_11
theorem shX11_lettersOfDay_14 : cX11_lettersOfDay.data.toList.drop 14 = sxX11_lettersOfDay_14 := dSn 1 shX11_lettersOfDay_13
theorem shX11_lettersOfDay_17 : cX11_lettersOfDay.data.toList.drop 17 = sxX11_lettersOfDay_17 := dSn 3 shX11_lettersOfDay_14
theorem shX11_lettersOfDay_18 : cX11_lettersOfDay.data.toList.drop 18 = sxX11_lettersOfDay_18 := dSn 1 shX11_lettersOfDay_17
theorem shX11_lettersOfDay_20 : cX11_lettersOfDay.data.toList.drop 20 = sxX11_lettersOfDay_20 := dSn 2 shX11_lettersOfDay_18
theorem shX11_lettersOfDay_21 : cX11_lettersOfDay.data.toList.drop 21 = sxX11_lettersOfDay_21 := dSn 1 shX11_lettersOfDay_20
theorem shX11_lettersOfDay_23 : cX11_lettersOfDay.data.toList.drop 23 = sxX11_lettersOfDay_23 := dSn 2 shX11_lettersOfDay_21
theorem shX11_lettersOfDay_24 : cX11_lettersOfDay.data.toList.drop 24 = sxX11_lettersOfDay_24 := dSn 1 shX11_lettersOfDay_23
theorem shX11_lettersOfDay_27 : cX11_lettersOfDay.data.toList.drop 27 = sxX11_lettersOfDay_27 := dSn 3 shX11_lettersOfDay_24
theorem shX11_lettersOfDay_28 : cX11_lettersOfDay.data.toList.drop 28 = sxX11_lettersOfDay_28 := dSn 1 shX11_lettersOfDay_27
theorem shX11_lettersOfDay_30 : cX11_lettersOfDay.data.toList.drop 30 = sxX11_lettersOfDay_30 := dSn 2 shX11_lettersOfDay_28
theorem shX11_lettersOfDay_31 : cX11_lettersOfDay.data.toList.drop 31 = sxX11_lettersOfDay_31 := dSn 1 shX11_lettersOfDay_30
theorem shX11_lettersOfDay_34 : cX11_lettersOfDay.data.toList.drop 34 = sxX11_lettersOfDay_34 := dSn 3 shX11_lettersOfDay_31
theorem shX11_lettersOfDay_37 : cX11_lettersOfDay.data.toList.drop 37 = sxX11_lettersOfDay_37 := dSn 3 shX11_lettersOfDay_34
theorem shX11_lettersOfDay_38 : cX11_lettersOfDay.data.toList.drop 38 = sxX11_lettersOfDay_38 := dSn 1 shX11_lettersOfDay_37
theorem shX11_lettersOfDay_40 : cX11_lettersOfDay.data.toList.drop 40 = sxX11_lettersOfDay_40 := dSn 2 shX11_lettersOfDay_38
theorem shX11_lettersOfDay_41 : cX11_lettersOfDay.data.toList.drop 41 = sxX11_lettersOfDay_41 := dSn 1 shX11_lettersOfDay_40
theorem shX11_lettersOfDay_44 : cX11_lettersOfDay.data.toList.drop 44 = sxX11_lettersOfDay_44 := dSn 3 shX11_lettersOfDay_41
theorem shX11_lettersOfDay_47 : cX11_lettersOfDay.data.toList.drop 47 = sxX11_lettersOfDay_47 := dSn 3 shX11_lettersOfDay_44
theorem dX11_lettersOfDay_0 : decode cX11_lettersOfDay 0 = .ok (.aload_n 0, 1) := oc_42 shX11_lettersOfDay_0
theorem dX11_lettersOfDay_1 : decode cX11_lettersOfDay 1 = .ok (.bipush 100, 2) := oc_16 shX11_lettersOfDay_1 sgb_100
theorem dX11_lettersOfDay_3 : decode cX11_lettersOfDay 3 = .ok (.iload_n 1, 1) := oc_27 shX11_lettersOfDay_3
theorem dX11_lettersOfDay_4 : decode cX11_lettersOfDay 4 = .ok (.invokevirtual 188, 3) := oc_182 shX11_lettersOfDay_4
theorem dX11_lettersOfDay_7 : decode cX11_lettersOfDay 7 = .ok (.aload_n 0, 1) := oc_42 shX11_lettersOfDay_7
theorem dX11_lettersOfDay_8 : decode cX11_lettersOfDay 8 = .ok (.bipush 119, 2) := oc_16 shX11_lettersOfDay_8 sgb_119
theorem dX11_lettersOfDay_10 : decode cX11_lettersOfDay 10 = .ok (.iload_n 1, 1) := oc_27 shX11_lettersOfDay_10
theorem dX11_lettersOfDay_11 : decode cX11_lettersOfDay 11 = .ok (.bipush 7, 2) := oc_16 shX11_lettersOfDay_11 sgb_7
theorem dX11_lettersOfDay_13 : decode cX11_lettersOfDay 13 = .ok (.idiv, 1) := oc_108 shX11_lettersOfDay_13
theorem dX11_lettersOfDay_14 : decode cX11_lettersOfDay 14 = .ok (.invokevirtual 188, 3) := oc_182 shX11_lettersOfDay_14
theorem dX11_lettersOfDay_17 : decode cX11_lettersOfDay 17 = .ok (.aload_n 0, 1) := oc_42 shX11_lettersOfDay_17
theorem dX11_lettersOfDay_18 : decode cX11_lettersOfDay 18 = .ok (.bipush 103, 2) := oc_16 shX11_lettersOfDay_18 sgb_103
theorem dX11_lettersOfDay_20 : decode cX11_lettersOfDay 20 = .ok (.iload_n 1, 1) := oc_27 shX11_lettersOfDay_20
theorem dX11_lettersOfDay_21 : decode cX11_lettersOfDay 21 = .ok (.bipush 7, 2) := oc_16 shX11_lettersOfDay_21 sgb_7
theorem dX11_lettersOfDay_23 : decode cX11_lettersOfDay 23 = .ok (.irem, 1) := oc_112 shX11_lettersOfDay_23
theorem dX11_lettersOfDay_24 : decode cX11_lettersOfDay 24 = .ok (.invokevirtual 188, 3) := oc_182 shX11_lettersOfDay_24
theorem dX11_lettersOfDay_27 : decode cX11_lettersOfDay 27 = .ok (.aload_n 0, 1) := oc_42 shX11_lettersOfDay_27
theorem dX11_lettersOfDay_28 : decode cX11_lettersOfDay 28 = .ok (.bipush 111, 2) := oc_16 shX11_lettersOfDay_28 sgb_111
theorem dX11_lettersOfDay_30 : decode cX11_lettersOfDay 30 = .ok (.aload_n 0, 1) := oc_42 shX11_lettersOfDay_30
theorem dX11_lettersOfDay_31 : decode cX11_lettersOfDay 31 = .ok (.getfield 47, 3) := oc_180 shX11_lettersOfDay_31
theorem dX11_lettersOfDay_34 : decode cX11_lettersOfDay 34 = .ok (.getfield 174, 3) := oc_180 shX11_lettersOfDay_34
theorem dX11_lettersOfDay_37 : decode cX11_lettersOfDay 37 = .ok (.iload_n 1, 1) := oc_27 shX11_lettersOfDay_37
theorem dX11_lettersOfDay_38 : decode cX11_lettersOfDay 38 = .ok (.bipush 7, 2) := oc_16 shX11_lettersOfDay_38 sgb_7
theorem dX11_lettersOfDay_40 : decode cX11_lettersOfDay 40 = .ok (.idiv, 1) := oc_108 shX11_lettersOfDay_40
theorem dX11_lettersOfDay_41 : decode cX11_lettersOfDay 41 = .ok (.invokestatic 192, 3) := oc_184 shX11_lettersOfDay_41
theorem dX11_lettersOfDay_44 : decode cX11_lettersOfDay 44 = .ok (.invokevirtual 188, 3) := oc_182 shX11_lettersOfDay_44
theorem dX11_lettersOfDay_47 : decode cX11_lettersOfDay 47 = .ok (.return_, 1) := oc_177 shX11_lettersOfDay_47
noncomputable def sxX11_lettersOfLoad_76 : List UInt8 := []
noncomputable def sxX11_lettersOfLoad_75 : List UInt8 := 177 :: sxX11_lettersOfLoad_76
noncomputable def sxX11_lettersOfLoad_72 : List UInt8 := 182 :: 0 :: 188 :: sxX11_lettersOfLoad_75
noncomputable def sxX11_lettersOfLoad_71 : List UInt8 := 3 :: sxX11_lettersOfLoad_72
noncomputable def sxX11_lettersOfLoad_69 : List UInt8 := 16 :: 110 :: sxX11_lettersOfLoad_71
noncomputable def sxX11_lettersOfLoad_68 : List UInt8 := 42 :: sxX11_lettersOfLoad_69
noncomputable def sxX11_lettersOfLoad_65 : List UInt8 := 182 :: 0 :: 188 :: sxX11_lettersOfLoad_68
noncomputable def sxX11_lettersOfLoad_62 : List UInt8 := 180 :: 0 :: 134 :: sxX11_lettersOfLoad_65
noncomputable def sxX11_lettersOfLoad_61 : List UInt8 := 43 :: sxX11_lettersOfLoad_62
noncomputable def sxX11_lettersOfLoad_59 : List UInt8 := 16 :: 115 :: sxX11_lettersOfLoad_61
noncomputable def sxX11_lettersOfLoad_58 : List UInt8 := 42 :: sxX11_lettersOfLoad_59
noncomputable def sxX11_lettersOfLoad_55 : List UInt8 := 182 :: 0 :: 188 :: sxX11_lettersOfLoad_58
noncomputable def sxX11_lettersOfLoad_52 : List UInt8 := 180 :: 0 :: 141 :: sxX11_lettersOfLoad_55
noncomputable def sxX11_lettersOfLoad_51 : List UInt8 := 43 :: sxX11_lettersOfLoad_52
noncomputable def sxX11_lettersOfLoad_49 : List UInt8 := 16 :: 109 :: sxX11_lettersOfLoad_51
noncomputable def sxX11_lettersOfLoad_48 : List UInt8 := 42 :: sxX11_lettersOfLoad_49
noncomputable def sxX11_lettersOfLoad_45 : List UInt8 := 182 :: 0 :: 188 :: sxX11_lettersOfLoad_48
noncomputable def sxX11_lettersOfLoad_42 : List UInt8 := 180 :: 0 :: 211 :: sxX11_lettersOfLoad_45
noncomputable def sxX11_lettersOfLoad_41 : List UInt8 := 43 :: sxX11_lettersOfLoad_42
noncomputable def sxX11_lettersOfLoad_39 : List UInt8 := 16 :: 107 :: sxX11_lettersOfLoad_41
noncomputable def sxX11_lettersOfLoad_38 : List UInt8 := 42 :: sxX11_lettersOfLoad_39
noncomputable def sxX11_lettersOfLoad_35 : List UInt8 := 182 :: 0 :: 188 :: sxX11_lettersOfLoad_38
noncomputable def sxX11_lettersOfLoad_32 : List UInt8 := 180 :: 0 :: 208 :: sxX11_lettersOfLoad_35
noncomputable def sxX11_lettersOfLoad_31 : List UInt8 := 43 :: sxX11_lettersOfLoad_32
noncomputable def sxX11_lettersOfLoad_29 : List UInt8 := 16 :: 97 :: sxX11_lettersOfLoad_31
noncomputable def sxX11_lettersOfLoad_28 : List UInt8 := 42 :: sxX11_lettersOfLoad_29
noncomputable def sxX11_lettersOfLoad_25 : List UInt8 := 182 :: 0 :: 188 :: sxX11_lettersOfLoad_28
noncomputable def sxX11_lettersOfLoad_22 : List UInt8 := 180 :: 0 :: 205 :: sxX11_lettersOfLoad_25
noncomputable def sxX11_lettersOfLoad_21 : List UInt8 := 43 :: sxX11_lettersOfLoad_22
noncomputable def sxX11_lettersOfLoad_19 : List UInt8 := 16 :: 102 :: sxX11_lettersOfLoad_21
noncomputable def sxX11_lettersOfLoad_18 : List UInt8 := 42 :: sxX11_lettersOfLoad_19
noncomputable def sxX11_lettersOfLoad_15 : List UInt8 := 182 :: 0 :: 188 :: sxX11_lettersOfLoad_18
noncomputable def sxX11_lettersOfLoad_12 : List UInt8 := 180 :: 0 :: 202 :: sxX11_lettersOfLoad_15
noncomputable def sxX11_lettersOfLoad_11 : List UInt8 := 43 :: sxX11_lettersOfLoad_12
noncomputable def sxX11_lettersOfLoad_9 : List UInt8 := 16 :: 113 :: sxX11_lettersOfLoad_11
noncomputable def sxX11_lettersOfLoad_8 : List UInt8 := 42 :: sxX11_lettersOfLoad_9
noncomputable def sxX11_lettersOfLoad_5 : List UInt8 := 182 :: 0 :: 199 :: sxX11_lettersOfLoad_8
noncomputable def sxX11_lettersOfLoad_2 : List UInt8 := 180 :: 0 :: 196 :: sxX11_lettersOfLoad_5
noncomputable def sxX11_lettersOfLoad_1 : List UInt8 := 43 :: sxX11_lettersOfLoad_2
noncomputable def sxX11_lettersOfLoad_0 : List UInt8 := 42 :: sxX11_lettersOfLoad_1
theorem shX11_lettersOfLoad_0 : cX11_lettersOfLoad.data.toList.drop 0 = sxX11_lettersOfLoad_0 := rfl
theorem shX11_lettersOfLoad_1 : cX11_lettersOfLoad.data.toList.drop 1 = sxX11_lettersOfLoad_1 := dSn 1 shX11_lettersOfLoad_0
theorem shX11_lettersOfLoad_2 : cX11_lettersOfLoad.data.toList.drop 2 = sxX11_lettersOfLoad_2 := dSn 1 shX11_lettersOfLoad_1
theorem shX11_lettersOfLoad_5 : cX11_lettersOfLoad.data.toList.drop 5 = sxX11_lettersOfLoad_5 := dSn 3 shX11_lettersOfLoad_2
theorem shX11_lettersOfLoad_8 : cX11_lettersOfLoad.data.toList.drop 8 = sxX11_lettersOfLoad_8 := dSn 3 shX11_lettersOfLoad_5
theorem shX11_lettersOfLoad_9 : cX11_lettersOfLoad.data.toList.drop 9 = sxX11_lettersOfLoad_9 := dSn 1 shX11_lettersOfLoad_8
theorem shX11_lettersOfLoad_11 : cX11_lettersOfLoad.data.toList.drop 11 = sxX11_lettersOfLoad_11 := dSn 2 shX11_lettersOfLoad_9
theorem shX11_lettersOfLoad_12 : cX11_lettersOfLoad.data.toList.drop 12 = sxX11_lettersOfLoad_12 := dSn 1 shX11_lettersOfLoad_11
theorem shX11_lettersOfLoad_15 : cX11_lettersOfLoad.data.toList.drop 15 = sxX11_lettersOfLoad_15 := dSn 3 shX11_lettersOfLoad_12
theorem shX11_lettersOfLoad_18 : cX11_lettersOfLoad.data.toList.drop 18 = sxX11_lettersOfLoad_18 := dSn 3 shX11_lettersOfLoad_15
theorem shX11_lettersOfLoad_19 : cX11_lettersOfLoad.data.toList.drop 19 = sxX11_lettersOfLoad_19 := dSn 1 shX11_lettersOfLoad_18
theorem shX11_lettersOfLoad_21 : cX11_lettersOfLoad.data.toList.drop 21 = sxX11_lettersOfLoad_21 := dSn 2 shX11_lettersOfLoad_19
theorem shX11_lettersOfLoad_22 : cX11_lettersOfLoad.data.toList.drop 22 = sxX11_lettersOfLoad_22 := dSn 1 shX11_lettersOfLoad_21
theorem shX11_lettersOfLoad_25 : cX11_lettersOfLoad.data.toList.drop 25 = sxX11_lettersOfLoad_25 := dSn 3 shX11_lettersOfLoad_22
theorem shX11_lettersOfLoad_28 : cX11_lettersOfLoad.data.toList.drop 28 = sxX11_lettersOfLoad_28 := dSn 3 shX11_lettersOfLoad_25
theorem shX11_lettersOfLoad_29 : cX11_lettersOfLoad.data.toList.drop 29 = sxX11_lettersOfLoad_29 := dSn 1 shX11_lettersOfLoad_28
theorem shX11_lettersOfLoad_31 : cX11_lettersOfLoad.data.toList.drop 31 = sxX11_lettersOfLoad_31 := dSn 2 shX11_lettersOfLoad_29
theorem shX11_lettersOfLoad_32 : cX11_lettersOfLoad.data.toList.drop 32 = sxX11_lettersOfLoad_32 := dSn 1 shX11_lettersOfLoad_31
theorem shX11_lettersOfLoad_35 : cX11_lettersOfLoad.data.toList.drop 35 = sxX11_lettersOfLoad_35 := dSn 3 shX11_lettersOfLoad_32
theorem shX11_lettersOfLoad_38 : cX11_lettersOfLoad.data.toList.drop 38 = sxX11_lettersOfLoad_38 := dSn 3 shX11_lettersOfLoad_35
theorem shX11_lettersOfLoad_39 : cX11_lettersOfLoad.data.toList.drop 39 = sxX11_lettersOfLoad_39 := dSn 1 shX11_lettersOfLoad_38
theorem shX11_lettersOfLoad_41 : cX11_lettersOfLoad.data.toList.drop 41 = sxX11_lettersOfLoad_41 := dSn 2 shX11_lettersOfLoad_39
theorem shX11_lettersOfLoad_42 : cX11_lettersOfLoad.data.toList.drop 42 = sxX11_lettersOfLoad_42 := dSn 1 shX11_lettersOfLoad_41
theorem shX11_lettersOfLoad_45 : cX11_lettersOfLoad.data.toList.drop 45 = sxX11_lettersOfLoad_45 := dSn 3 shX11_lettersOfLoad_42
theorem shX11_lettersOfLoad_48 : cX11_lettersOfLoad.data.toList.drop 48 = sxX11_lettersOfLoad_48 := dSn 3 shX11_lettersOfLoad_45
theorem shX11_lettersOfLoad_49 : cX11_lettersOfLoad.data.toList.drop 49 = sxX11_lettersOfLoad_49 := dSn 1 shX11_lettersOfLoad_48
theorem shX11_lettersOfLoad_51 : cX11_lettersOfLoad.data.toList.drop 51 = sxX11_lettersOfLoad_51 := dSn 2 shX11_lettersOfLoad_49
theorem shX11_lettersOfLoad_52 : cX11_lettersOfLoad.data.toList.drop 52 = sxX11_lettersOfLoad_52 := dSn 1 shX11_lettersOfLoad_51
theorem shX11_lettersOfLoad_55 : cX11_lettersOfLoad.data.toList.drop 55 = sxX11_lettersOfLoad_55 := dSn 3 shX11_lettersOfLoad_52
theorem shX11_lettersOfLoad_58 : cX11_lettersOfLoad.data.toList.drop 58 = sxX11_lettersOfLoad_58 := dSn 3 shX11_lettersOfLoad_55
theorem shX11_lettersOfLoad_59 : cX11_lettersOfLoad.data.toList.drop 59 = sxX11_lettersOfLoad_59 := dSn 1 shX11_lettersOfLoad_58
theorem shX11_lettersOfLoad_61 : cX11_lettersOfLoad.data.toList.drop 61 = sxX11_lettersOfLoad_61 := dSn 2 shX11_lettersOfLoad_59
theorem shX11_lettersOfLoad_62 : cX11_lettersOfLoad.data.toList.drop 62 = sxX11_lettersOfLoad_62 := dSn 1 shX11_lettersOfLoad_61
theorem shX11_lettersOfLoad_65 : cX11_lettersOfLoad.data.toList.drop 65 = sxX11_lettersOfLoad_65 := dSn 3 shX11_lettersOfLoad_62
theorem shX11_lettersOfLoad_68 : cX11_lettersOfLoad.data.toList.drop 68 = sxX11_lettersOfLoad_68 := dSn 3 shX11_lettersOfLoad_65
theorem shX11_lettersOfLoad_69 : cX11_lettersOfLoad.data.toList.drop 69 = sxX11_lettersOfLoad_69 := dSn 1 shX11_lettersOfLoad_68
theorem shX11_lettersOfLoad_71 : cX11_lettersOfLoad.data.toList.drop 71 = sxX11_lettersOfLoad_71 := dSn 2 shX11_lettersOfLoad_69
theorem shX11_lettersOfLoad_72 : cX11_lettersOfLoad.data.toList.drop 72 = sxX11_lettersOfLoad_72 := dSn 1 shX11_lettersOfLoad_71
theorem shX11_lettersOfLoad_75 : cX11_lettersOfLoad.data.toList.drop 75 = sxX11_lettersOfLoad_75 := dSn 3 shX11_lettersOfLoad_72
theorem dX11_lettersOfLoad_0 : decode cX11_lettersOfLoad 0 = .ok (.aload_n 0, 1) := oc_42 shX11_lettersOfLoad_0
theorem dX11_lettersOfLoad_1 : decode cX11_lettersOfLoad 1 = .ok (.aload_n 1, 1) := oc_43 shX11_lettersOfLoad_1
theorem dX11_lettersOfLoad_2 : decode cX11_lettersOfLoad 2 = .ok (.getfield 196, 3) := oc_180 shX11_lettersOfLoad_2
theorem dX11_lettersOfLoad_5 : decode cX11_lettersOfLoad 5 = .ok (.invokevirtual 199, 3) := oc_182 shX11_lettersOfLoad_5
theorem dX11_lettersOfLoad_8 : decode cX11_lettersOfLoad 8 = .ok (.aload_n 0, 1) := oc_42 shX11_lettersOfLoad_8
theorem dX11_lettersOfLoad_9 : decode cX11_lettersOfLoad 9 = .ok (.bipush 113, 2) := oc_16 shX11_lettersOfLoad_9 sgb_113
theorem dX11_lettersOfLoad_11 : decode cX11_lettersOfLoad 11 = .ok (.aload_n 1, 1) := oc_43 shX11_lettersOfLoad_11
theorem dX11_lettersOfLoad_12 : decode cX11_lettersOfLoad 12 = .ok (.getfield 202, 3) := oc_180 shX11_lettersOfLoad_12
theorem dX11_lettersOfLoad_15 : decode cX11_lettersOfLoad 15 = .ok (.invokevirtual 188, 3) := oc_182 shX11_lettersOfLoad_15
theorem dX11_lettersOfLoad_18 : decode cX11_lettersOfLoad 18 = .ok (.aload_n 0, 1) := oc_42 shX11_lettersOfLoad_18
theorem dX11_lettersOfLoad_19 : decode cX11_lettersOfLoad 19 = .ok (.bipush 102, 2) := oc_16 shX11_lettersOfLoad_19 sgb_102
theorem dX11_lettersOfLoad_21 : decode cX11_lettersOfLoad 21 = .ok (.aload_n 1, 1) := oc_43 shX11_lettersOfLoad_21
theorem dX11_lettersOfLoad_22 : decode cX11_lettersOfLoad 22 = .ok (.getfield 205, 3) := oc_180 shX11_lettersOfLoad_22
theorem dX11_lettersOfLoad_25 : decode cX11_lettersOfLoad 25 = .ok (.invokevirtual 188, 3) := oc_182 shX11_lettersOfLoad_25
theorem dX11_lettersOfLoad_28 : decode cX11_lettersOfLoad 28 = .ok (.aload_n 0, 1) := oc_42 shX11_lettersOfLoad_28
theorem dX11_lettersOfLoad_29 : decode cX11_lettersOfLoad 29 = .ok (.bipush 97, 2) := oc_16 shX11_lettersOfLoad_29 sgb_97
theorem dX11_lettersOfLoad_31 : decode cX11_lettersOfLoad 31 = .ok (.aload_n 1, 1) := oc_43 shX11_lettersOfLoad_31
theorem dX11_lettersOfLoad_32 : decode cX11_lettersOfLoad 32 = .ok (.getfield 208, 3) := oc_180 shX11_lettersOfLoad_32
theorem dX11_lettersOfLoad_35 : decode cX11_lettersOfLoad 35 = .ok (.invokevirtual 188, 3) := oc_182 shX11_lettersOfLoad_35
theorem dX11_lettersOfLoad_38 : decode cX11_lettersOfLoad 38 = .ok (.aload_n 0, 1) := oc_42 shX11_lettersOfLoad_38
theorem dX11_lettersOfLoad_39 : decode cX11_lettersOfLoad 39 = .ok (.bipush 107, 2) := oc_16 shX11_lettersOfLoad_39 sgb_107
theorem dX11_lettersOfLoad_41 : decode cX11_lettersOfLoad 41 = .ok (.aload_n 1, 1) := oc_43 shX11_lettersOfLoad_41
theorem dX11_lettersOfLoad_42 : decode cX11_lettersOfLoad 42 = .ok (.getfield 211, 3) := oc_180 shX11_lettersOfLoad_42
theorem dX11_lettersOfLoad_45 : decode cX11_lettersOfLoad 45 = .ok (.invokevirtual 188, 3) := oc_182 shX11_lettersOfLoad_45
theorem dX11_lettersOfLoad_48 : decode cX11_lettersOfLoad 48 = .ok (.aload_n 0, 1) := oc_42 shX11_lettersOfLoad_48
theorem dX11_lettersOfLoad_49 : decode cX11_lettersOfLoad 49 = .ok (.bipush 109, 2) := oc_16 shX11_lettersOfLoad_49 sgb_109
theorem dX11_lettersOfLoad_51 : decode cX11_lettersOfLoad 51 = .ok (.aload_n 1, 1) := oc_43 shX11_lettersOfLoad_51
theorem dX11_lettersOfLoad_52 : decode cX11_lettersOfLoad 52 = .ok (.getfield 141, 3) := oc_180 shX11_lettersOfLoad_52
theorem dX11_lettersOfLoad_55 : decode cX11_lettersOfLoad 55 = .ok (.invokevirtual 188, 3) := oc_182 shX11_lettersOfLoad_55
theorem dX11_lettersOfLoad_58 : decode cX11_lettersOfLoad 58 = .ok (.aload_n 0, 1) := oc_42 shX11_lettersOfLoad_58
theorem dX11_lettersOfLoad_59 : decode cX11_lettersOfLoad 59 = .ok (.bipush 115, 2) := oc_16 shX11_lettersOfLoad_59 sgb_115
theorem dX11_lettersOfLoad_61 : decode cX11_lettersOfLoad 61 = .ok (.aload_n 1, 1) := oc_43 shX11_lettersOfLoad_61
theorem dX11_lettersOfLoad_62 : decode cX11_lettersOfLoad 62 = .ok (.getfield 134, 3) := oc_180 shX11_lettersOfLoad_62
theorem dX11_lettersOfLoad_65 : decode cX11_lettersOfLoad 65 = .ok (.invokevirtual 188, 3) := oc_182 shX11_lettersOfLoad_65
theorem dX11_lettersOfLoad_68 : decode cX11_lettersOfLoad 68 = .ok (.aload_n 0, 1) := oc_42 shX11_lettersOfLoad_68
theorem dX11_lettersOfLoad_69 : decode cX11_lettersOfLoad 69 = .ok (.bipush 110, 2) := oc_16 shX11_lettersOfLoad_69 sgb_110
theorem dX11_lettersOfLoad_71 : decode cX11_lettersOfLoad 71 = .ok (.iconst 0, 1) := oc_3 shX11_lettersOfLoad_71
theorem dX11_lettersOfLoad_72 : decode cX11_lettersOfLoad 72 = .ok (.invokevirtual 188, 3) := oc_182 shX11_lettersOfLoad_72
theorem dX11_lettersOfLoad_75 : decode cX11_lettersOfLoad 75 = .ok (.return_, 1) := oc_177 shX11_lettersOfLoad_75
noncomputable def sxX11_lettersOfLaw_30 : List UInt8 := []
noncomputable def sxX11_lettersOfLaw_29 : List UInt8 := 177 :: sxX11_lettersOfLaw_30
noncomputable def sxX11_lettersOfLaw_26 : List UInt8 := 182 :: 0 :: 188 :: sxX11_lettersOfLaw_29
noncomputable def sxX11_lettersOfLaw_25 : List UInt8 := 3 :: sxX11_lettersOfLaw_26
noncomputable def sxX11_lettersOfLaw_23 : List UInt8 := 16 :: 115 :: sxX11_lettersOfLaw_25
noncomputable def sxX11_lettersOfLaw_22 : List UInt8 := 42 :: sxX11_lettersOfLaw_23
noncomputable def sxX11_lettersOfLaw_19 : List UInt8 := 182 :: 0 :: 188 :: sxX11_lettersOfLaw_22
noncomputable def sxX11_lettersOfLaw_18 : List UInt8 := 3 :: sxX11_lettersOfLaw_19
noncomputable def sxX11_lettersOfLaw_16 : List UInt8 := 16 :: 109 :: sxX11_lettersOfLaw_18
noncomputable def sxX11_lettersOfLaw_15 : List UInt8 := 42 :: sxX11_lettersOfLaw_16
noncomputable def sxX11_lettersOfLaw_12 : List UInt8 := 182 :: 0 :: 188 :: sxX11_lettersOfLaw_15
noncomputable def sxX11_lettersOfLaw_11 : List UInt8 := 3 :: sxX11_lettersOfLaw_12
noncomputable def sxX11_lettersOfLaw_9 : List UInt8 := 16 :: 107 :: sxX11_lettersOfLaw_11
noncomputable def sxX11_lettersOfLaw_8 : List UInt8 := 42 :: sxX11_lettersOfLaw_9
noncomputable def sxX11_lettersOfLaw_5 : List UInt8 := 182 :: 0 :: 199 :: sxX11_lettersOfLaw_8
noncomputable def sxX11_lettersOfLaw_2 : List UInt8 := 180 :: 0 :: 103 :: sxX11_lettersOfLaw_5
noncomputable def sxX11_lettersOfLaw_1 : List UInt8 := 42 :: sxX11_lettersOfLaw_2
noncomputable def sxX11_lettersOfLaw_0 : List UInt8 := 42 :: sxX11_lettersOfLaw_1
theorem shX11_lettersOfLaw_0 : cX11_lettersOfLaw.data.toList.drop 0 = sxX11_lettersOfLaw_0 := rfl
theorem shX11_lettersOfLaw_1 : cX11_lettersOfLaw.data.toList.drop 1 = sxX11_lettersOfLaw_1 := dSn 1 shX11_lettersOfLaw_0
theorem shX11_lettersOfLaw_2 : cX11_lettersOfLaw.data.toList.drop 2 = sxX11_lettersOfLaw_2 := dSn 1 shX11_lettersOfLaw_1
theorem shX11_lettersOfLaw_5 : cX11_lettersOfLaw.data.toList.drop 5 = sxX11_lettersOfLaw_5 := dSn 3 shX11_lettersOfLaw_2
theorem shX11_lettersOfLaw_8 : cX11_lettersOfLaw.data.toList.drop 8 = sxX11_lettersOfLaw_8 := dSn 3 shX11_lettersOfLaw_5
theorem shX11_lettersOfLaw_9 : cX11_lettersOfLaw.data.toList.drop 9 = sxX11_lettersOfLaw_9 := dSn 1 shX11_lettersOfLaw_8
theorem shX11_lettersOfLaw_11 : cX11_lettersOfLaw.data.toList.drop 11 = sxX11_lettersOfLaw_11 := dSn 2 shX11_lettersOfLaw_9
theorem shX11_lettersOfLaw_12 : cX11_lettersOfLaw.data.toList.drop 12 = sxX11_lettersOfLaw_12 := dSn 1 shX11_lettersOfLaw_11
theorem shX11_lettersOfLaw_15 : cX11_lettersOfLaw.data.toList.drop 15 = sxX11_lettersOfLaw_15 := dSn 3 shX11_lettersOfLaw_12
theorem shX11_lettersOfLaw_16 : cX11_lettersOfLaw.data.toList.drop 16 = sxX11_lettersOfLaw_16 := dSn 1 shX11_lettersOfLaw_15
theorem shX11_lettersOfLaw_18 : cX11_lettersOfLaw.data.toList.drop 18 = sxX11_lettersOfLaw_18 := dSn 2 shX11_lettersOfLaw_16
theorem shX11_lettersOfLaw_19 : cX11_lettersOfLaw.data.toList.drop 19 = sxX11_lettersOfLaw_19 := dSn 1 shX11_lettersOfLaw_18
theorem shX11_lettersOfLaw_22 : cX11_lettersOfLaw.data.toList.drop 22 = sxX11_lettersOfLaw_22 := dSn 3 shX11_lettersOfLaw_19
theorem shX11_lettersOfLaw_23 : cX11_lettersOfLaw.data.toList.drop 23 = sxX11_lettersOfLaw_23 := dSn 1 shX11_lettersOfLaw_22
theorem shX11_lettersOfLaw_25 : cX11_lettersOfLaw.data.toList.drop 25 = sxX11_lettersOfLaw_25 := dSn 2 shX11_lettersOfLaw_23
theorem shX11_lettersOfLaw_26 : cX11_lettersOfLaw.data.toList.drop 26 = sxX11_lettersOfLaw_26 := dSn 1 shX11_lettersOfLaw_25
theorem shX11_lettersOfLaw_29 : cX11_lettersOfLaw.data.toList.drop 29 = sxX11_lettersOfLaw_29 := dSn 3 shX11_lettersOfLaw_26
theorem dX11_lettersOfLaw_0 : decode cX11_lettersOfLaw 0 = .ok (.aload_n 0, 1) := oc_42 shX11_lettersOfLaw_0
theorem dX11_lettersOfLaw_1 : decode cX11_lettersOfLaw 1 = .ok (.aload_n 0, 1) := oc_42 shX11_lettersOfLaw_1
theorem dX11_lettersOfLaw_2 : decode cX11_lettersOfLaw 2 = .ok (.getfield 103, 3) := oc_180 shX11_lettersOfLaw_2
theorem dX11_lettersOfLaw_5 : decode cX11_lettersOfLaw 5 = .ok (.invokevirtual 199, 3) := oc_182 shX11_lettersOfLaw_5
theorem dX11_lettersOfLaw_8 : decode cX11_lettersOfLaw 8 = .ok (.aload_n 0, 1) := oc_42 shX11_lettersOfLaw_8
theorem dX11_lettersOfLaw_9 : decode cX11_lettersOfLaw 9 = .ok (.bipush 107, 2) := oc_16 shX11_lettersOfLaw_9 sgb_107
theorem dX11_lettersOfLaw_11 : decode cX11_lettersOfLaw 11 = .ok (.iconst 0, 1) := oc_3 shX11_lettersOfLaw_11
theorem dX11_lettersOfLaw_12 : decode cX11_lettersOfLaw 12 = .ok (.invokevirtual 188, 3) := oc_182 shX11_lettersOfLaw_12
theorem dX11_lettersOfLaw_15 : decode cX11_lettersOfLaw 15 = .ok (.aload_n 0, 1) := oc_42 shX11_lettersOfLaw_15
theorem dX11_lettersOfLaw_16 : decode cX11_lettersOfLaw 16 = .ok (.bipush 109, 2) := oc_16 shX11_lettersOfLaw_16 sgb_109
theorem dX11_lettersOfLaw_18 : decode cX11_lettersOfLaw 18 = .ok (.iconst 0, 1) := oc_3 shX11_lettersOfLaw_18
theorem dX11_lettersOfLaw_19 : decode cX11_lettersOfLaw 19 = .ok (.invokevirtual 188, 3) := oc_182 shX11_lettersOfLaw_19
theorem dX11_lettersOfLaw_22 : decode cX11_lettersOfLaw 22 = .ok (.aload_n 0, 1) := oc_42 shX11_lettersOfLaw_22
theorem dX11_lettersOfLaw_23 : decode cX11_lettersOfLaw 23 = .ok (.bipush 115, 2) := oc_16 shX11_lettersOfLaw_23 sgb_115
theorem dX11_lettersOfLaw_25 : decode cX11_lettersOfLaw 25 = .ok (.iconst 0, 1) := oc_3 shX11_lettersOfLaw_25
theorem dX11_lettersOfLaw_26 : decode cX11_lettersOfLaw 26 = .ok (.invokevirtual 188, 3) := oc_182 shX11_lettersOfLaw_26
theorem dX11_lettersOfLaw_29 : decode cX11_lettersOfLaw 29 = .ok (.return_, 1) := oc_177 shX11_lettersOfLaw_29
noncomputable def sxX11_penceBy_43 : List UInt8 := []
noncomputable def sxX11_penceBy_42 : List UInt8 := 172 :: sxX11_penceBy_43
noncomputable def sxX11_penceBy_39 : List UInt8 := 184 :: 0 :: 232 :: sxX11_penceBy_42
noncomputable def sxX11_penceBy_36 : List UInt8 := 184 :: 0 :: 227 :: sxX11_penceBy_39
noncomputable def sxX11_penceBy_33 : List UInt8 := 182 :: 0 :: 223 :: sxX11_penceBy_36
noncomputable def sxX11_penceBy_30 : List UInt8 := 180 :: 0 :: 40 :: sxX11_penceBy_33
noncomputable def sxX11_penceBy_29 : List UInt8 := 42 :: sxX11_penceBy_30
noncomputable def sxX11_penceBy_28 : List UInt8 := 29 :: sxX11_penceBy_29
noncomputable def sxX11_penceBy_27 : List UInt8 := 43 :: sxX11_penceBy_28
noncomputable def sxX11_penceBy_25 : List UInt8 := 18 :: 222 :: sxX11_penceBy_27
noncomputable def sxX11_penceBy_24 : List UInt8 := 3 :: sxX11_penceBy_25
noncomputable def sxX11_penceBy_21 : List UInt8 := 167 :: 0 :: 21 :: sxX11_penceBy_24
noncomputable def sxX11_penceBy_20 : List UInt8 := 3 :: sxX11_penceBy_21
noncomputable def sxX11_penceBy_17 : List UInt8 := 160 :: 0 :: 7 :: sxX11_penceBy_20
noncomputable def sxX11_penceBy_16 : List UInt8 := 2 :: sxX11_penceBy_17
noncomputable def sxX11_penceBy_15 : List UInt8 := 29 :: sxX11_penceBy_16
noncomputable def sxX11_penceBy_14 : List UInt8 := 62 :: sxX11_penceBy_15
noncomputable def sxX11_penceBy_11 : List UInt8 := 182 :: 0 :: 218 :: sxX11_penceBy_14
noncomputable def sxX11_penceBy_8 : List UInt8 := 180 :: 0 :: 40 :: sxX11_penceBy_11
noncomputable def sxX11_penceBy_7 : List UInt8 := 42 :: sxX11_penceBy_8
noncomputable def sxX11_penceBy_6 : List UInt8 := 4 :: sxX11_penceBy_7
noncomputable def sxX11_penceBy_5 : List UInt8 := 43 :: sxX11_penceBy_6
noncomputable def sxX11_penceBy_2 : List UInt8 := 182 :: 0 :: 214 :: sxX11_penceBy_5
noncomputable def sxX11_penceBy_1 : List UInt8 := 44 :: sxX11_penceBy_2
noncomputable def sxX11_penceBy_0 : List UInt8 := 42 :: sxX11_penceBy_1
theorem shX11_penceBy_0 : cX11_penceBy.data.toList.drop 0 = sxX11_penceBy_0 := rfl
theorem shX11_penceBy_1 : cX11_penceBy.data.toList.drop 1 = sxX11_penceBy_1 := dSn 1 shX11_penceBy_0
theorem shX11_penceBy_2 : cX11_penceBy.data.toList.drop 2 = sxX11_penceBy_2 := dSn 1 shX11_penceBy_1
theorem shX11_penceBy_5 : cX11_penceBy.data.toList.drop 5 = sxX11_penceBy_5 := dSn 3 shX11_penceBy_2
theorem shX11_penceBy_6 : cX11_penceBy.data.toList.drop 6 = sxX11_penceBy_6 := dSn 1 shX11_penceBy_5
theorem shX11_penceBy_7 : cX11_penceBy.data.toList.drop 7 = sxX11_penceBy_7 := dSn 1 shX11_penceBy_6
theorem shX11_penceBy_8 : cX11_penceBy.data.toList.drop 8 = sxX11_penceBy_8 := dSn 1 shX11_penceBy_7
theorem shX11_penceBy_11 : cX11_penceBy.data.toList.drop 11 = sxX11_penceBy_11 := dSn 3 shX11_penceBy_8
theorem shX11_penceBy_14 : cX11_penceBy.data.toList.drop 14 = sxX11_penceBy_14 := dSn 3 shX11_penceBy_11
theorem shX11_penceBy_15 : cX11_penceBy.data.toList.drop 15 = sxX11_penceBy_15 := dSn 1 shX11_penceBy_14
theorem shX11_penceBy_16 : cX11_penceBy.data.toList.drop 16 = sxX11_penceBy_16 := dSn 1 shX11_penceBy_15
theorem shX11_penceBy_17 : cX11_penceBy.data.toList.drop 17 = sxX11_penceBy_17 := dSn 1 shX11_penceBy_16
theorem shX11_penceBy_20 : cX11_penceBy.data.toList.drop 20 = sxX11_penceBy_20 := dSn 3 shX11_penceBy_17
theorem shX11_penceBy_21 : cX11_penceBy.data.toList.drop 21 = sxX11_penceBy_21 := dSn 1 shX11_penceBy_20
theorem shX11_penceBy_24 : cX11_penceBy.data.toList.drop 24 = sxX11_penceBy_24 := dSn 3 shX11_penceBy_21
theorem shX11_penceBy_25 : cX11_penceBy.data.toList.drop 25 = sxX11_penceBy_25 := dSn 1 shX11_penceBy_24
theorem shX11_penceBy_27 : cX11_penceBy.data.toList.drop 27 = sxX11_penceBy_27 := dSn 2 shX11_penceBy_25
theorem shX11_penceBy_28 : cX11_penceBy.data.toList.drop 28 = sxX11_penceBy_28 := dSn 1 shX11_penceBy_27
theorem shX11_penceBy_29 : cX11_penceBy.data.toList.drop 29 = sxX11_penceBy_29 := dSn 1 shX11_penceBy_28
theorem shX11_penceBy_30 : cX11_penceBy.data.toList.drop 30 = sxX11_penceBy_30 := dSn 1 shX11_penceBy_29
theorem shX11_penceBy_33 : cX11_penceBy.data.toList.drop 33 = sxX11_penceBy_33 := dSn 3 shX11_penceBy_30
theorem shX11_penceBy_36 : cX11_penceBy.data.toList.drop 36 = sxX11_penceBy_36 := dSn 3 shX11_penceBy_33
theorem shX11_penceBy_39 : cX11_penceBy.data.toList.drop 39 = sxX11_penceBy_39 := dSn 3 shX11_penceBy_36
theorem shX11_penceBy_42 : cX11_penceBy.data.toList.drop 42 = sxX11_penceBy_42 := dSn 3 shX11_penceBy_39
theorem dX11_penceBy_0 : decode cX11_penceBy 0 = .ok (.aload_n 0, 1) := oc_42 shX11_penceBy_0
theorem dX11_penceBy_1 : decode cX11_penceBy 1 = .ok (.aload_n 2, 1) := oc_44 shX11_penceBy_1
theorem dX11_penceBy_2 : decode cX11_penceBy 2 = .ok (.invokevirtual 214, 3) := oc_182 shX11_penceBy_2
theorem dX11_penceBy_5 : decode cX11_penceBy 5 = .ok (.aload_n 1, 1) := oc_43 shX11_penceBy_5
theorem dX11_penceBy_6 : decode cX11_penceBy 6 = .ok (.iconst 1, 1) := oc_4 shX11_penceBy_6
theorem dX11_penceBy_7 : decode cX11_penceBy 7 = .ok (.aload_n 0, 1) := oc_42 shX11_penceBy_7
theorem dX11_penceBy_8 : decode cX11_penceBy 8 = .ok (.getfield 40, 3) := oc_180 shX11_penceBy_8
theorem dX11_penceBy_11 : decode cX11_penceBy 11 = .ok (.invokevirtual 218, 3) := oc_182 shX11_penceBy_11
theorem dX11_penceBy_14 : decode cX11_penceBy 14 = .ok (.istore_n 3, 1) := oc_62 shX11_penceBy_14
theorem dX11_penceBy_15 : decode cX11_penceBy 15 = .ok (.iload_n 3, 1) := oc_29 shX11_penceBy_15
theorem dX11_penceBy_16 : decode cX11_penceBy 16 = .ok (.iconst (-1), 1) := oc_2 shX11_penceBy_16
theorem dX11_penceBy_17 : decode cX11_penceBy 17 = .ok (.if_icmp .ne 7, 3) := oc_160 shX11_penceBy_17 sgw_0_7
theorem dX11_penceBy_24 : decode cX11_penceBy 24 = .ok (.iconst 0, 1) := oc_3 shX11_penceBy_24
theorem dX11_penceBy_25 : decode cX11_penceBy 25 = .ok (.ldc 222, 2) := oc_18 shX11_penceBy_25
theorem dX11_penceBy_27 : decode cX11_penceBy 27 = .ok (.aload_n 1, 1) := oc_43 shX11_penceBy_27
theorem dX11_penceBy_28 : decode cX11_penceBy 28 = .ok (.iload_n 3, 1) := oc_29 shX11_penceBy_28
theorem dX11_penceBy_29 : decode cX11_penceBy 29 = .ok (.aload_n 0, 1) := oc_42 shX11_penceBy_29
theorem dX11_penceBy_30 : decode cX11_penceBy 30 = .ok (.getfield 40, 3) := oc_180 shX11_penceBy_30
theorem dX11_penceBy_33 : decode cX11_penceBy 33 = .ok (.invokevirtual 223, 3) := oc_182 shX11_penceBy_33
theorem dX11_penceBy_36 : decode cX11_penceBy 36 = .ok (.invokestatic 227, 3) := oc_184 shX11_penceBy_36
theorem dX11_penceBy_39 : decode cX11_penceBy 39 = .ok (.invokestatic 232, 3) := oc_184 shX11_penceBy_39
theorem dX11_penceBy_42 : decode cX11_penceBy 42 = .ok (.ireturn, 1) := oc_172 shX11_penceBy_42
theorem dX11_penceBy_20 : decode cX11_penceBy 20 = .ok (.iconst 0, 1) := oc_3 shX11_penceBy_20
theorem dX11_penceBy_21 : decode cX11_penceBy 21 = .ok (.goto 21, 3) := oc_167 shX11_penceBy_21 sgw_0_21
noncomputable def sxX11_penceTogether_71 : List UInt8 := []
noncomputable def sxX11_penceTogether_70 : List UInt8 := 172 :: sxX11_penceTogether_71
noncomputable def sxX11_penceTogether_68 : List UInt8 := 21 :: 4 :: sxX11_penceTogether_70
noncomputable def sxX11_penceTogether_65 : List UInt8 := 167 :: 255 :: 197 :: sxX11_penceTogether_68
noncomputable def sxX11_penceTogether_62 : List UInt8 := 132 :: 5 :: 1 :: sxX11_penceTogether_65
noncomputable def sxX11_penceTogether_60 : List UInt8 := 54 :: 4 :: sxX11_penceTogether_62
noncomputable def sxX11_penceTogether_59 : List UInt8 := 96 :: sxX11_penceTogether_60
noncomputable def sxX11_penceTogether_56 : List UInt8 := 182 :: 0 :: 238 :: sxX11_penceTogether_59
noncomputable def sxX11_penceTogether_54 : List UInt8 := 25 :: 6 :: sxX11_penceTogether_56
noncomputable def sxX11_penceTogether_53 : List UInt8 := 45 :: sxX11_penceTogether_54
noncomputable def sxX11_penceTogether_52 : List UInt8 := 42 :: sxX11_penceTogether_53
noncomputable def sxX11_penceTogether_50 : List UInt8 := 21 :: 4 :: sxX11_penceTogether_52
noncomputable def sxX11_penceTogether_47 : List UInt8 := 163 :: 0 :: 15 :: sxX11_penceTogether_50
noncomputable def sxX11_penceTogether_46 : List UInt8 := 28 :: sxX11_penceTogether_47
noncomputable def sxX11_penceTogether_43 : List UInt8 := 180 :: 0 :: 235 :: sxX11_penceTogether_46
noncomputable def sxX11_penceTogether_41 : List UInt8 := 25 :: 6 :: sxX11_penceTogether_43
noncomputable def sxX11_penceTogether_38 : List UInt8 := 160 :: 0 :: 24 :: sxX11_penceTogether_41
noncomputable def sxX11_penceTogether_37 : List UInt8 := 27 :: sxX11_penceTogether_38
noncomputable def sxX11_penceTogether_34 : List UInt8 := 180 :: 0 :: 211 :: sxX11_penceTogether_37
noncomputable def sxX11_penceTogether_32 : List UInt8 := 25 :: 6 :: sxX11_penceTogether_34
noncomputable def sxX11_penceTogether_30 : List UInt8 := 58 :: 6 :: sxX11_penceTogether_32
noncomputable def sxX11_penceTogether_27 : List UInt8 := 192 :: 0 :: 93 :: sxX11_penceTogether_30
noncomputable def sxX11_penceTogether_24 : List UInt8 := 182 :: 0 :: 87 :: sxX11_penceTogether_27
noncomputable def sxX11_penceTogether_22 : List UInt8 := 21 :: 5 :: sxX11_penceTogether_24
noncomputable def sxX11_penceTogether_19 : List UInt8 := 180 :: 0 :: 65 :: sxX11_penceTogether_22
noncomputable def sxX11_penceTogether_18 : List UInt8 := 42 :: sxX11_penceTogether_19
noncomputable def sxX11_penceTogether_15 : List UInt8 := 162 :: 0 :: 53 :: sxX11_penceTogether_18
noncomputable def sxX11_penceTogether_12 : List UInt8 := 182 :: 0 :: 84 :: sxX11_penceTogether_15
noncomputable def sxX11_penceTogether_9 : List UInt8 := 180 :: 0 :: 65 :: sxX11_penceTogether_12
noncomputable def sxX11_penceTogether_8 : List UInt8 := 42 :: sxX11_penceTogether_9
noncomputable def sxX11_penceTogether_6 : List UInt8 := 21 :: 5 :: sxX11_penceTogether_8
noncomputable def sxX11_penceTogether_4 : List UInt8 := 54 :: 5 :: sxX11_penceTogether_6
noncomputable def sxX11_penceTogether_3 : List UInt8 := 3 :: sxX11_penceTogether_4
noncomputable def sxX11_penceTogether_1 : List UInt8 := 54 :: 4 :: sxX11_penceTogether_3
noncomputable def sxX11_penceTogether_0 : List UInt8 := 3 :: sxX11_penceTogether_1
theorem shX11_penceTogether_0 : cX11_penceTogether.data.toList.drop 0 = sxX11_penceTogether_0 := rfl
theorem shX11_penceTogether_1 : cX11_penceTogether.data.toList.drop 1 = sxX11_penceTogether_1 := dSn 1 shX11_penceTogether_0
theorem shX11_penceTogether_3 : cX11_penceTogether.data.toList.drop 3 = sxX11_penceTogether_3 := dSn 2 shX11_penceTogether_1
theorem shX11_penceTogether_4 : cX11_penceTogether.data.toList.drop 4 = sxX11_penceTogether_4 := dSn 1 shX11_penceTogether_3
theorem shX11_penceTogether_6 : cX11_penceTogether.data.toList.drop 6 = sxX11_penceTogether_6 := dSn 2 shX11_penceTogether_4
theorem shX11_penceTogether_8 : cX11_penceTogether.data.toList.drop 8 = sxX11_penceTogether_8 := dSn 2 shX11_penceTogether_6
theorem shX11_penceTogether_9 : cX11_penceTogether.data.toList.drop 9 = sxX11_penceTogether_9 := dSn 1 shX11_penceTogether_8
theorem shX11_penceTogether_12 : cX11_penceTogether.data.toList.drop 12 = sxX11_penceTogether_12 := dSn 3 shX11_penceTogether_9
theorem shX11_penceTogether_15 : cX11_penceTogether.data.toList.drop 15 = sxX11_penceTogether_15 := dSn 3 shX11_penceTogether_12
theorem shX11_penceTogether_18 : cX11_penceTogether.data.toList.drop 18 = sxX11_penceTogether_18 := dSn 3 shX11_penceTogether_15
theorem shX11_penceTogether_19 : cX11_penceTogether.data.toList.drop 19 = sxX11_penceTogether_19 := dSn 1 shX11_penceTogether_18
theorem shX11_penceTogether_22 : cX11_penceTogether.data.toList.drop 22 = sxX11_penceTogether_22 := dSn 3 shX11_penceTogether_19
theorem shX11_penceTogether_24 : cX11_penceTogether.data.toList.drop 24 = sxX11_penceTogether_24 := dSn 2 shX11_penceTogether_22
theorem shX11_penceTogether_27 : cX11_penceTogether.data.toList.drop 27 = sxX11_penceTogether_27 := dSn 3 shX11_penceTogether_24
theorem shX11_penceTogether_30 : cX11_penceTogether.data.toList.drop 30 = sxX11_penceTogether_30 := dSn 3 shX11_penceTogether_27
theorem shX11_penceTogether_32 : cX11_penceTogether.data.toList.drop 32 = sxX11_penceTogether_32 := dSn 2 shX11_penceTogether_30
theorem shX11_penceTogether_34 : cX11_penceTogether.data.toList.drop 34 = sxX11_penceTogether_34 := dSn 2 shX11_penceTogether_32
theorem shX11_penceTogether_37 : cX11_penceTogether.data.toList.drop 37 = sxX11_penceTogether_37 := dSn 3 shX11_penceTogether_34
theorem shX11_penceTogether_38 : cX11_penceTogether.data.toList.drop 38 = sxX11_penceTogether_38 := dSn 1 shX11_penceTogether_37
theorem shX11_penceTogether_41 : cX11_penceTogether.data.toList.drop 41 = sxX11_penceTogether_41 := dSn 3 shX11_penceTogether_38
theorem shX11_penceTogether_43 : cX11_penceTogether.data.toList.drop 43 = sxX11_penceTogether_43 := dSn 2 shX11_penceTogether_41
theorem shX11_penceTogether_46 : cX11_penceTogether.data.toList.drop 46 = sxX11_penceTogether_46 := dSn 3 shX11_penceTogether_43
theorem shX11_penceTogether_47 : cX11_penceTogether.data.toList.drop 47 = sxX11_penceTogether_47 := dSn 1 shX11_penceTogether_46
theorem shX11_penceTogether_50 : cX11_penceTogether.data.toList.drop 50 = sxX11_penceTogether_50 := dSn 3 shX11_penceTogether_47
theorem shX11_penceTogether_52 : cX11_penceTogether.data.toList.drop 52 = sxX11_penceTogether_52 := dSn 2 shX11_penceTogether_50
theorem shX11_penceTogether_53 : cX11_penceTogether.data.toList.drop 53 = sxX11_penceTogether_53 := dSn 1 shX11_penceTogether_52
theorem shX11_penceTogether_54 : cX11_penceTogether.data.toList.drop 54 = sxX11_penceTogether_54 := dSn 1 shX11_penceTogether_53
theorem shX11_penceTogether_56 : cX11_penceTogether.data.toList.drop 56 = sxX11_penceTogether_56 := dSn 2 shX11_penceTogether_54
theorem shX11_penceTogether_59 : cX11_penceTogether.data.toList.drop 59 = sxX11_penceTogether_59 := dSn 3 shX11_penceTogether_56
theorem shX11_penceTogether_60 : cX11_penceTogether.data.toList.drop 60 = sxX11_penceTogether_60 := dSn 1 shX11_penceTogether_59
theorem shX11_penceTogether_62 : cX11_penceTogether.data.toList.drop 62 = sxX11_penceTogether_62 := dSn 2 shX11_penceTogether_60
theorem shX11_penceTogether_65 : cX11_penceTogether.data.toList.drop 65 = sxX11_penceTogether_65 := dSn 3 shX11_penceTogether_62
theorem shX11_penceTogether_68 : cX11_penceTogether.data.toList.drop 68 = sxX11_penceTogether_68 := dSn 3 shX11_penceTogether_65
theorem shX11_penceTogether_70 : cX11_penceTogether.data.toList.drop 70 = sxX11_penceTogether_70 := dSn 2 shX11_penceTogether_68
theorem dX11_penceTogether_0 : decode cX11_penceTogether 0 = .ok (.iconst 0, 1) := oc_3 shX11_penceTogether_0
theorem dX11_penceTogether_1 : decode cX11_penceTogether 1 = .ok (.istore 4, 2) := oc_54 shX11_penceTogether_1
theorem dX11_penceTogether_3 : decode cX11_penceTogether 3 = .ok (.iconst 0, 1) := oc_3 shX11_penceTogether_3
theorem dX11_penceTogether_4 : decode cX11_penceTogether 4 = .ok (.istore 5, 2) := oc_54 shX11_penceTogether_4
theorem dX11_penceTogether_6 : decode cX11_penceTogether 6 = .ok (.iload 5, 2) := oc_21 shX11_penceTogether_6
theorem dX11_penceTogether_8 : decode cX11_penceTogether 8 = .ok (.aload_n 0, 1) := oc_42 shX11_penceTogether_8
theorem dX11_penceTogether_9 : decode cX11_penceTogether 9 = .ok (.getfield 65, 3) := oc_180 shX11_penceTogether_9
theorem dX11_penceTogether_12 : decode cX11_penceTogether 12 = .ok (.invokevirtual 84, 3) := oc_182 shX11_penceTogether_12
theorem dX11_penceTogether_15 : decode cX11_penceTogether 15 = .ok (.if_icmp .ge 53, 3) := oc_162 shX11_penceTogether_15 sgw_0_53
theorem dX11_penceTogether_68 : decode cX11_penceTogether 68 = .ok (.iload 4, 2) := oc_21 shX11_penceTogether_68
theorem dX11_penceTogether_70 : decode cX11_penceTogether 70 = .ok (.ireturn, 1) := oc_172 shX11_penceTogether_70
theorem dX11_penceTogether_18 : decode cX11_penceTogether 18 = .ok (.aload_n 0, 1) := oc_42 shX11_penceTogether_18
theorem dX11_penceTogether_19 : decode cX11_penceTogether 19 = .ok (.getfield 65, 3) := oc_180 shX11_penceTogether_19
theorem dX11_penceTogether_22 : decode cX11_penceTogether 22 = .ok (.iload 5, 2) := oc_21 shX11_penceTogether_22
theorem dX11_penceTogether_24 : decode cX11_penceTogether 24 = .ok (.invokevirtual 87, 3) := oc_182 shX11_penceTogether_24
theorem dX11_penceTogether_27 : decode cX11_penceTogether 27 = .ok (.checkcast 93, 3) := oc_192 shX11_penceTogether_27
theorem dX11_penceTogether_30 : decode cX11_penceTogether 30 = .ok (.astore 6, 2) := oc_58 shX11_penceTogether_30
theorem dX11_penceTogether_32 : decode cX11_penceTogether 32 = .ok (.aload 6, 2) := oc_25 shX11_penceTogether_32
theorem dX11_penceTogether_34 : decode cX11_penceTogether 34 = .ok (.getfield 211, 3) := oc_180 shX11_penceTogether_34
theorem dX11_penceTogether_37 : decode cX11_penceTogether 37 = .ok (.iload_n 1, 1) := oc_27 shX11_penceTogether_37
theorem dX11_penceTogether_38 : decode cX11_penceTogether 38 = .ok (.if_icmp .ne 24, 3) := oc_160 shX11_penceTogether_38 sgw_0_24
theorem dX11_penceTogether_62 : decode cX11_penceTogether 62 = .ok (.iinc 5 1, 3) := oc_132 shX11_penceTogether_62 sgb_1
theorem dX11_penceTogether_65 : decode cX11_penceTogether 65 = .ok (.goto (-59), 3) := oc_167 shX11_penceTogether_65 sgw_255_197
theorem dX11_penceTogether_41 : decode cX11_penceTogether 41 = .ok (.aload 6, 2) := oc_25 shX11_penceTogether_41
theorem dX11_penceTogether_43 : decode cX11_penceTogether 43 = .ok (.getfield 235, 3) := oc_180 shX11_penceTogether_43
theorem dX11_penceTogether_46 : decode cX11_penceTogether 46 = .ok (.iload_n 2, 1) := oc_28 shX11_penceTogether_46
theorem dX11_penceTogether_47 : decode cX11_penceTogether 47 = .ok (.if_icmp .gt 15, 3) := oc_163 shX11_penceTogether_47 sgw_0_15
theorem dX11_penceTogether_50 : decode cX11_penceTogether 50 = .ok (.iload 4, 2) := oc_21 shX11_penceTogether_50
theorem dX11_penceTogether_52 : decode cX11_penceTogether 52 = .ok (.aload_n 0, 1) := oc_42 shX11_penceTogether_52
theorem dX11_penceTogether_53 : decode cX11_penceTogether 53 = .ok (.aload_n 3, 1) := oc_45 shX11_penceTogether_53
theorem dX11_penceTogether_54 : decode cX11_penceTogether 54 = .ok (.aload 6, 2) := oc_25 shX11_penceTogether_54
theorem dX11_penceTogether_56 : decode cX11_penceTogether 56 = .ok (.invokevirtual 238, 3) := oc_182 shX11_penceTogether_56
theorem dX11_penceTogether_59 : decode cX11_penceTogether 59 = .ok (.iadd, 1) := oc_96 shX11_penceTogether_59
theorem dX11_penceTogether_60 : decode cX11_penceTogether 60 = .ok (.istore 4, 2) := oc_54 shX11_penceTogether_60
noncomputable def sxX11_pence_45 : List UInt8 := []
noncomputable def sxX11_pence_44 : List UInt8 := 172 :: sxX11_pence_45
noncomputable def sxX11_pence_41 : List UInt8 := 182 :: 0 :: 238 :: sxX11_pence_44
noncomputable def sxX11_pence_40 : List UInt8 := 44 :: sxX11_pence_41
noncomputable def sxX11_pence_37 : List UInt8 := 180 :: 0 :: 168 :: sxX11_pence_40
noncomputable def sxX11_pence_36 : List UInt8 := 45 :: sxX11_pence_37
noncomputable def sxX11_pence_35 : List UInt8 := 42 :: sxX11_pence_36
noncomputable def sxX11_pence_32 : List UInt8 := 167 :: 0 :: 12 :: sxX11_pence_35
noncomputable def sxX11_pence_31 : List UInt8 := 2 :: sxX11_pence_32
noncomputable def sxX11_pence_28 : List UInt8 := 199 :: 0 :: 7 :: sxX11_pence_31
noncomputable def sxX11_pence_27 : List UInt8 := 45 :: sxX11_pence_28
noncomputable def sxX11_pence_24 : List UInt8 := 198 :: 0 :: 7 :: sxX11_pence_27
noncomputable def sxX11_pence_23 : List UInt8 := 44 :: sxX11_pence_24
noncomputable def sxX11_pence_22 : List UInt8 := 78 :: sxX11_pence_23
noncomputable def sxX11_pence_19 : List UInt8 := 182 :: 0 :: 114 :: sxX11_pence_22
noncomputable def sxX11_pence_16 : List UInt8 := 180 :: 0 :: 211 :: sxX11_pence_19
noncomputable def sxX11_pence_15 : List UInt8 := 44 :: sxX11_pence_16
noncomputable def sxX11_pence_14 : List UInt8 := 42 :: sxX11_pence_15
noncomputable def sxX11_pence_11 : List UInt8 := 167 :: 0 :: 11 :: sxX11_pence_14
noncomputable def sxX11_pence_10 : List UInt8 := 1 :: sxX11_pence_11
noncomputable def sxX11_pence_7 : List UInt8 := 199 :: 0 :: 7 :: sxX11_pence_10
noncomputable def sxX11_pence_6 : List UInt8 := 44 :: sxX11_pence_7
noncomputable def sxX11_pence_5 : List UInt8 := 77 :: sxX11_pence_6
noncomputable def sxX11_pence_2 : List UInt8 := 182 :: 0 :: 148 :: sxX11_pence_5
noncomputable def sxX11_pence_1 : List UInt8 := 27 :: sxX11_pence_2
noncomputable def sxX11_pence_0 : List UInt8 := 42 :: sxX11_pence_1
theorem shX11_pence_0 : cX11_pence.data.toList.drop 0 = sxX11_pence_0 := rfl
theorem shX11_pence_1 : cX11_pence.data.toList.drop 1 = sxX11_pence_1 := dSn 1 shX11_pence_0
theorem shX11_pence_2 : cX11_pence.data.toList.drop 2 = sxX11_pence_2 := dSn 1 shX11_pence_1
theorem shX11_pence_5 : cX11_pence.data.toList.drop 5 = sxX11_pence_5 := dSn 3 shX11_pence_2
theorem shX11_pence_6 : cX11_pence.data.toList.drop 6 = sxX11_pence_6 := dSn 1 shX11_pence_5
theorem shX11_pence_7 : cX11_pence.data.toList.drop 7 = sxX11_pence_7 := dSn 1 shX11_pence_6
theorem shX11_pence_10 : cX11_pence.data.toList.drop 10 = sxX11_pence_10 := dSn 3 shX11_pence_7
theorem shX11_pence_11 : cX11_pence.data.toList.drop 11 = sxX11_pence_11 := dSn 1 shX11_pence_10
theorem shX11_pence_14 : cX11_pence.data.toList.drop 14 = sxX11_pence_14 := dSn 3 shX11_pence_11
theorem shX11_pence_15 : cX11_pence.data.toList.drop 15 = sxX11_pence_15 := dSn 1 shX11_pence_14
theorem shX11_pence_16 : cX11_pence.data.toList.drop 16 = sxX11_pence_16 := dSn 1 shX11_pence_15
theorem shX11_pence_19 : cX11_pence.data.toList.drop 19 = sxX11_pence_19 := dSn 3 shX11_pence_16
theorem shX11_pence_22 : cX11_pence.data.toList.drop 22 = sxX11_pence_22 := dSn 3 shX11_pence_19
theorem shX11_pence_23 : cX11_pence.data.toList.drop 23 = sxX11_pence_23 := dSn 1 shX11_pence_22
theorem shX11_pence_24 : cX11_pence.data.toList.drop 24 = sxX11_pence_24 := dSn 1 shX11_pence_23
theorem shX11_pence_27 : cX11_pence.data.toList.drop 27 = sxX11_pence_27 := dSn 3 shX11_pence_24
theorem shX11_pence_28 : cX11_pence.data.toList.drop 28 = sxX11_pence_28 := dSn 1 shX11_pence_27
theorem shX11_pence_31 : cX11_pence.data.toList.drop 31 = sxX11_pence_31 := dSn 3 shX11_pence_28
theorem shX11_pence_32 : cX11_pence.data.toList.drop 32 = sxX11_pence_32 := dSn 1 shX11_pence_31
theorem shX11_pence_35 : cX11_pence.data.toList.drop 35 = sxX11_pence_35 := dSn 3 shX11_pence_32
theorem shX11_pence_36 : cX11_pence.data.toList.drop 36 = sxX11_pence_36 := dSn 1 shX11_pence_35
theorem shX11_pence_37 : cX11_pence.data.toList.drop 37 = sxX11_pence_37 := dSn 1 shX11_pence_36
theorem shX11_pence_40 : cX11_pence.data.toList.drop 40 = sxX11_pence_40 := dSn 3 shX11_pence_37
theorem shX11_pence_41 : cX11_pence.data.toList.drop 41 = sxX11_pence_41 := dSn 1 shX11_pence_40
theorem shX11_pence_44 : cX11_pence.data.toList.drop 44 = sxX11_pence_44 := dSn 3 shX11_pence_41
theorem dX11_pence_0 : decode cX11_pence 0 = .ok (.aload_n 0, 1) := oc_42 shX11_pence_0
theorem dX11_pence_1 : decode cX11_pence 1 = .ok (.iload_n 1, 1) := oc_27 shX11_pence_1
theorem dX11_pence_2 : decode cX11_pence 2 = .ok (.invokevirtual 148, 3) := oc_182 shX11_pence_2
theorem dX11_pence_5 : decode cX11_pence 5 = .ok (.astore_n 2, 1) := oc_77 shX11_pence_5
theorem dX11_pence_6 : decode cX11_pence 6 = .ok (.aload_n 2, 1) := oc_44 shX11_pence_6
theorem dX11_pence_7 : decode cX11_pence 7 = .ok (.ifnonnull 7, 3) := oc_199 shX11_pence_7 sgw_0_7
theorem dX11_pence_14 : decode cX11_pence 14 = .ok (.aload_n 0, 1) := oc_42 shX11_pence_14
theorem dX11_pence_15 : decode cX11_pence 15 = .ok (.aload_n 2, 1) := oc_44 shX11_pence_15
theorem dX11_pence_16 : decode cX11_pence 16 = .ok (.getfield 211, 3) := oc_180 shX11_pence_16
theorem dX11_pence_19 : decode cX11_pence 19 = .ok (.invokevirtual 114, 3) := oc_182 shX11_pence_19
theorem dX11_pence_22 : decode cX11_pence 22 = .ok (.astore_n 3, 1) := oc_78 shX11_pence_22
theorem dX11_pence_23 : decode cX11_pence 23 = .ok (.aload_n 2, 1) := oc_44 shX11_pence_23
theorem dX11_pence_24 : decode cX11_pence 24 = .ok (.ifnull 7, 3) := oc_198 shX11_pence_24 sgw_0_7
theorem dX11_pence_27 : decode cX11_pence 27 = .ok (.aload_n 3, 1) := oc_45 shX11_pence_27
theorem dX11_pence_28 : decode cX11_pence 28 = .ok (.ifnonnull 7, 3) := oc_199 shX11_pence_28 sgw_0_7
theorem dX11_pence_35 : decode cX11_pence 35 = .ok (.aload_n 0, 1) := oc_42 shX11_pence_35
theorem dX11_pence_36 : decode cX11_pence 36 = .ok (.aload_n 3, 1) := oc_45 shX11_pence_36
theorem dX11_pence_37 : decode cX11_pence 37 = .ok (.getfield 168, 3) := oc_180 shX11_pence_37
theorem dX11_pence_40 : decode cX11_pence 40 = .ok (.aload_n 2, 1) := oc_44 shX11_pence_40
theorem dX11_pence_41 : decode cX11_pence 41 = .ok (.invokevirtual 238, 3) := oc_182 shX11_pence_41
theorem dX11_pence_44 : decode cX11_pence 44 = .ok (.ireturn, 1) := oc_172 shX11_pence_44
theorem dX11_pence_31 : decode cX11_pence 31 = .ok (.iconst (-1), 1) := oc_2 shX11_pence_31
theorem dX11_pence_32 : decode cX11_pence 32 = .ok (.goto 12, 3) := oc_167 shX11_pence_32 sgw_0_12
theorem dX11_pence_10 : decode cX11_pence 10 = .ok (.aconst_null, 1) := oc_1 shX11_pence_10
theorem dX11_pence_11 : decode cX11_pence 11 = .ok (.goto 11, 3) := oc_167 shX11_pence_11 sgw_0_11
noncomputable def sxX11_paid_32 : List UInt8 := []
noncomputable def sxX11_paid_31 : List UInt8 := 172 :: sxX11_paid_32
noncomputable def sxX11_paid_28 : List UInt8 := 182 :: 0 :: 242 :: sxX11_paid_31
noncomputable def sxX11_paid_25 : List UInt8 := 180 :: 0 :: 168 :: sxX11_paid_28
noncomputable def sxX11_paid_24 : List UInt8 := 45 :: sxX11_paid_25
noncomputable def sxX11_paid_23 : List UInt8 := 28 :: sxX11_paid_24
noncomputable def sxX11_paid_22 : List UInt8 := 27 :: sxX11_paid_23
noncomputable def sxX11_paid_21 : List UInt8 := 42 :: sxX11_paid_22
noncomputable def sxX11_paid_18 : List UInt8 := 167 :: 0 :: 13 :: sxX11_paid_21
noncomputable def sxX11_paid_17 : List UInt8 := 2 :: sxX11_paid_18
noncomputable def sxX11_paid_14 : List UInt8 := 154 :: 0 :: 7 :: sxX11_paid_17
noncomputable def sxX11_paid_11 : List UInt8 := 184 :: 0 :: 99 :: sxX11_paid_14
noncomputable def sxX11_paid_10 : List UInt8 := 28 :: sxX11_paid_11
noncomputable def sxX11_paid_7 : List UInt8 := 198 :: 0 :: 10 :: sxX11_paid_10
noncomputable def sxX11_paid_6 : List UInt8 := 45 :: sxX11_paid_7
noncomputable def sxX11_paid_5 : List UInt8 := 78 :: sxX11_paid_6
noncomputable def sxX11_paid_2 : List UInt8 := 182 :: 0 :: 114 :: sxX11_paid_5
noncomputable def sxX11_paid_1 : List UInt8 := 27 :: sxX11_paid_2
noncomputable def sxX11_paid_0 : List UInt8 := 42 :: sxX11_paid_1
theorem shX11_paid_0 : cX11_paid.data.toList.drop 0 = sxX11_paid_0 := rfl
theorem shX11_paid_1 : cX11_paid.data.toList.drop 1 = sxX11_paid_1 := dSn 1 shX11_paid_0
theorem shX11_paid_2 : cX11_paid.data.toList.drop 2 = sxX11_paid_2 := dSn 1 shX11_paid_1
theorem shX11_paid_5 : cX11_paid.data.toList.drop 5 = sxX11_paid_5 := dSn 3 shX11_paid_2
theorem shX11_paid_6 : cX11_paid.data.toList.drop 6 = sxX11_paid_6 := dSn 1 shX11_paid_5
theorem shX11_paid_7 : cX11_paid.data.toList.drop 7 = sxX11_paid_7 := dSn 1 shX11_paid_6
theorem shX11_paid_10 : cX11_paid.data.toList.drop 10 = sxX11_paid_10 := dSn 3 shX11_paid_7
theorem shX11_paid_11 : cX11_paid.data.toList.drop 11 = sxX11_paid_11 := dSn 1 shX11_paid_10
theorem shX11_paid_14 : cX11_paid.data.toList.drop 14 = sxX11_paid_14 := dSn 3 shX11_paid_11
theorem shX11_paid_17 : cX11_paid.data.toList.drop 17 = sxX11_paid_17 := dSn 3 shX11_paid_14
theorem shX11_paid_18 : cX11_paid.data.toList.drop 18 = sxX11_paid_18 := dSn 1 shX11_paid_17
theorem shX11_paid_21 : cX11_paid.data.toList.drop 21 = sxX11_paid_21 := dSn 3 shX11_paid_18
theorem shX11_paid_22 : cX11_paid.data.toList.drop 22 = sxX11_paid_22 := dSn 1 shX11_paid_21
theorem shX11_paid_23 : cX11_paid.data.toList.drop 23 = sxX11_paid_23 := dSn 1 shX11_paid_22
theorem shX11_paid_24 : cX11_paid.data.toList.drop 24 = sxX11_paid_24 := dSn 1 shX11_paid_23
theorem shX11_paid_25 : cX11_paid.data.toList.drop 25 = sxX11_paid_25 := dSn 1 shX11_paid_24
theorem shX11_paid_28 : cX11_paid.data.toList.drop 28 = sxX11_paid_28 := dSn 3 shX11_paid_25
theorem shX11_paid_31 : cX11_paid.data.toList.drop 31 = sxX11_paid_31 := dSn 3 shX11_paid_28
theorem dX11_paid_0 : decode cX11_paid 0 = .ok (.aload_n 0, 1) := oc_42 shX11_paid_0
theorem dX11_paid_1 : decode cX11_paid 1 = .ok (.iload_n 1, 1) := oc_27 shX11_paid_1
theorem dX11_paid_2 : decode cX11_paid 2 = .ok (.invokevirtual 114, 3) := oc_182 shX11_paid_2
theorem dX11_paid_5 : decode cX11_paid 5 = .ok (.astore_n 3, 1) := oc_78 shX11_paid_5
theorem dX11_paid_6 : decode cX11_paid 6 = .ok (.aload_n 3, 1) := oc_45 shX11_paid_6
theorem dX11_paid_7 : decode cX11_paid 7 = .ok (.ifnull 10, 3) := oc_198 shX11_paid_7 sgw_0_10
theorem dX11_paid_10 : decode cX11_paid 10 = .ok (.iload_n 2, 1) := oc_28 shX11_paid_10
theorem dX11_paid_11 : decode cX11_paid 11 = .ok (.invokestatic 99, 3) := oc_184 shX11_paid_11
theorem dX11_paid_14 : decode cX11_paid 14 = .ok (.ifCond .ne 7, 3) := oc_154 shX11_paid_14 sgw_0_7
theorem dX11_paid_21 : decode cX11_paid 21 = .ok (.aload_n 0, 1) := oc_42 shX11_paid_21
theorem dX11_paid_22 : decode cX11_paid 22 = .ok (.iload_n 1, 1) := oc_27 shX11_paid_22
theorem dX11_paid_23 : decode cX11_paid 23 = .ok (.iload_n 2, 1) := oc_28 shX11_paid_23
theorem dX11_paid_24 : decode cX11_paid 24 = .ok (.aload_n 3, 1) := oc_45 shX11_paid_24
theorem dX11_paid_25 : decode cX11_paid 25 = .ok (.getfield 168, 3) := oc_180 shX11_paid_25
theorem dX11_paid_28 : decode cX11_paid 28 = .ok (.invokevirtual 242, 3) := oc_182 shX11_paid_28
theorem dX11_paid_31 : decode cX11_paid 31 = .ok (.ireturn, 1) := oc_172 shX11_paid_31
theorem dX11_paid_17 : decode cX11_paid 17 = .ok (.iconst (-1), 1) := oc_2 shX11_paid_17
theorem dX11_paid_18 : decode cX11_paid 18 = .ok (.goto 13, 3) := oc_167 shX11_paid_18 sgw_0_13
noncomputable def sxX11_asIf_35 : List UInt8 := []
noncomputable def sxX11_asIf_34 : List UInt8 := 172 :: sxX11_asIf_35
noncomputable def sxX11_asIf_31 : List UInt8 := 182 :: 0 :: 242 :: sxX11_asIf_34
noncomputable def sxX11_asIf_28 : List UInt8 := 180 :: 0 :: 168 :: sxX11_asIf_31
noncomputable def sxX11_asIf_27 : List UInt8 := 45 :: sxX11_asIf_28
noncomputable def sxX11_asIf_24 : List UInt8 := 17 :: 1 :: 143 :: sxX11_asIf_27
noncomputable def sxX11_asIf_23 : List UInt8 := 27 :: sxX11_asIf_24
noncomputable def sxX11_asIf_22 : List UInt8 := 42 :: sxX11_asIf_23
noncomputable def sxX11_asIf_19 : List UInt8 := 167 :: 0 :: 15 :: sxX11_asIf_22
noncomputable def sxX11_asIf_18 : List UInt8 := 2 :: sxX11_asIf_19
noncomputable def sxX11_asIf_15 : List UInt8 := 199 :: 0 :: 7 :: sxX11_asIf_18
noncomputable def sxX11_asIf_14 : List UInt8 := 45 :: sxX11_asIf_15
noncomputable def sxX11_asIf_11 : List UInt8 := 198 :: 0 :: 7 :: sxX11_asIf_14
noncomputable def sxX11_asIf_8 : List UInt8 := 182 :: 0 :: 114 :: sxX11_asIf_11
noncomputable def sxX11_asIf_7 : List UInt8 := 27 :: sxX11_asIf_8
noncomputable def sxX11_asIf_6 : List UInt8 := 42 :: sxX11_asIf_7
noncomputable def sxX11_asIf_5 : List UInt8 := 78 :: sxX11_asIf_6
noncomputable def sxX11_asIf_2 : List UInt8 := 182 :: 0 :: 114 :: sxX11_asIf_5
noncomputable def sxX11_asIf_1 : List UInt8 := 28 :: sxX11_asIf_2
noncomputable def sxX11_asIf_0 : List UInt8 := 42 :: sxX11_asIf_1
theorem shX11_asIf_0 : cX11_asIf.data.toList.drop 0 = sxX11_asIf_0 := rfl
theorem shX11_asIf_1 : cX11_asIf.data.toList.drop 1 = sxX11_asIf_1 := dSn 1 shX11_asIf_0
theorem shX11_asIf_2 : cX11_asIf.data.toList.drop 2 = sxX11_asIf_2 := dSn 1 shX11_asIf_1
theorem shX11_asIf_5 : cX11_asIf.data.toList.drop 5 = sxX11_asIf_5 := dSn 3 shX11_asIf_2
theorem shX11_asIf_6 : cX11_asIf.data.toList.drop 6 = sxX11_asIf_6 := dSn 1 shX11_asIf_5
theorem shX11_asIf_7 : cX11_asIf.data.toList.drop 7 = sxX11_asIf_7 := dSn 1 shX11_asIf_6
theorem shX11_asIf_8 : cX11_asIf.data.toList.drop 8 = sxX11_asIf_8 := dSn 1 shX11_asIf_7
theorem shX11_asIf_11 : cX11_asIf.data.toList.drop 11 = sxX11_asIf_11 := dSn 3 shX11_asIf_8
theorem shX11_asIf_14 : cX11_asIf.data.toList.drop 14 = sxX11_asIf_14 := dSn 3 shX11_asIf_11
theorem shX11_asIf_15 : cX11_asIf.data.toList.drop 15 = sxX11_asIf_15 := dSn 1 shX11_asIf_14
theorem shX11_asIf_18 : cX11_asIf.data.toList.drop 18 = sxX11_asIf_18 := dSn 3 shX11_asIf_15
theorem shX11_asIf_19 : cX11_asIf.data.toList.drop 19 = sxX11_asIf_19 := dSn 1 shX11_asIf_18
theorem shX11_asIf_22 : cX11_asIf.data.toList.drop 22 = sxX11_asIf_22 := dSn 3 shX11_asIf_19
theorem shX11_asIf_23 : cX11_asIf.data.toList.drop 23 = sxX11_asIf_23 := dSn 1 shX11_asIf_22
theorem shX11_asIf_24 : cX11_asIf.data.toList.drop 24 = sxX11_asIf_24 := dSn 1 shX11_asIf_23
theorem shX11_asIf_27 : cX11_asIf.data.toList.drop 27 = sxX11_asIf_27 := dSn 3 shX11_asIf_24
theorem shX11_asIf_28 : cX11_asIf.data.toList.drop 28 = sxX11_asIf_28 := dSn 1 shX11_asIf_27
theorem shX11_asIf_31 : cX11_asIf.data.toList.drop 31 = sxX11_asIf_31 := dSn 3 shX11_asIf_28
theorem shX11_asIf_34 : cX11_asIf.data.toList.drop 34 = sxX11_asIf_34 := dSn 3 shX11_asIf_31
theorem dX11_asIf_0 : decode cX11_asIf 0 = .ok (.aload_n 0, 1) := oc_42 shX11_asIf_0
theorem dX11_asIf_1 : decode cX11_asIf 1 = .ok (.iload_n 2, 1) := oc_28 shX11_asIf_1
theorem dX11_asIf_2 : decode cX11_asIf 2 = .ok (.invokevirtual 114, 3) := oc_182 shX11_asIf_2
theorem dX11_asIf_5 : decode cX11_asIf 5 = .ok (.astore_n 3, 1) := oc_78 shX11_asIf_5
theorem dX11_asIf_6 : decode cX11_asIf 6 = .ok (.aload_n 0, 1) := oc_42 shX11_asIf_6
theorem dX11_asIf_7 : decode cX11_asIf 7 = .ok (.iload_n 1, 1) := oc_27 shX11_asIf_7
theorem dX11_asIf_8 : decode cX11_asIf 8 = .ok (.invokevirtual 114, 3) := oc_182 shX11_asIf_8
theorem dX11_asIf_11 : decode cX11_asIf 11 = .ok (.ifnull 7, 3) := oc_198 shX11_asIf_11 sgw_0_7
theorem dX11_asIf_14 : decode cX11_asIf 14 = .ok (.aload_n 3, 1) := oc_45 shX11_asIf_14
theorem dX11_asIf_15 : decode cX11_asIf 15 = .ok (.ifnonnull 7, 3) := oc_199 shX11_asIf_15 sgw_0_7
theorem dX11_asIf_22 : decode cX11_asIf 22 = .ok (.aload_n 0, 1) := oc_42 shX11_asIf_22
theorem dX11_asIf_23 : decode cX11_asIf 23 = .ok (.iload_n 1, 1) := oc_27 shX11_asIf_23
theorem dX11_asIf_24 : decode cX11_asIf 24 = .ok (.sipush 399, 3) := oc_17 shX11_asIf_24 sgw_1_143
theorem dX11_asIf_27 : decode cX11_asIf 27 = .ok (.aload_n 3, 1) := oc_45 shX11_asIf_27
theorem dX11_asIf_28 : decode cX11_asIf 28 = .ok (.getfield 168, 3) := oc_180 shX11_asIf_28
theorem dX11_asIf_31 : decode cX11_asIf 31 = .ok (.invokevirtual 242, 3) := oc_182 shX11_asIf_31
theorem dX11_asIf_34 : decode cX11_asIf 34 = .ok (.ireturn, 1) := oc_172 shX11_asIf_34
theorem dX11_asIf_18 : decode cX11_asIf 18 = .ok (.iconst (-1), 1) := oc_2 shX11_asIf_18
theorem dX11_asIf_19 : decode cX11_asIf 19 = .ok (.goto 15, 3) := oc_167 shX11_asIf_19 sgw_0_15
set_option maxRecDepth 100000 in
set_option maxHeartbeats 4000000 in
theorem q_s_coder (l : Launch) (D : va_G) (cI cB cZ : ClassId) (zz qq vv : Nat) (bt : Nat → Int32)  : Met l yJ0_coder_7d493 (CWS yJ0_coder_7d493 cJ0_coder_7d493 1 (some .byte)) (RM 0 0 0) (PBrx [.ref qq] D cI cB cZ zz qq vv bt []) (vp_Si (fun r => r = 0)) 0 0 (fun _ => False) := by
  refine en_rx rfl pn_RJ0 (Nat.le_of_ble_eq_true rfl) (fun p e s m below meth c hx hb hml hown S hr hlocks hnm hP hK hXS hS ls hl => ?_)
  have hP : va_P D vwCl [] s.heap := hP
  have hl : lv_has ls 1 [(0, .ref qq)] := hl
  refine va_gets hx hb hXS.1 hS hown (S.2.2.2.2 _ (wk1_10 6 rfl rfl)) (fun _ h9 => h9) dJ0_coder_7d493_0 ?_
  refine lv_if_eq (tgt := 13) hx hb dJ0_coder_7d493_3 rfl (fun h => absurd h cq_eq_1_0) (fun _ => ?_)
  refine lv_aload_n hx hb dJ0_coder_7d493_6 rfl (lvA0 hl) ?_
  refine vk_getf hx hb hXS.2.2.2.2.1 hS hown (S.2.2.2.2 _ (wk9_13 5 rfl rfl)) (fun _ h9 => h9) dJ0_coder_7d493_7 ?_
  refine lv_goto (tgt := 14) hx hb dJ0_coder_7d493_10 rfl ?_
  exact W.zret (v := 0) hx hb hr rfl (fun t ht hW => ⟨0, rfl, rfl, ht⟩) (fun _ h => absurd h List.not_mem_nil) dJ0_coder_7d493_14
set_option maxRecDepth 100000 in
set_option maxHeartbeats 4000000 in
theorem q_s_isLatin1 (l : Launch) (D : va_G) (cI cB cZ : ClassId) (zz qq vv : Nat) (bt : Nat → Int32)  : Met l yJ0_isLatin1_aae02 (CWS yJ0_isLatin1_aae02 cJ0_isLatin1_aae02 1 (some .boolean)) (RM 0 0 0) (PBrx [.ref qq] D cI cB cZ zz qq vv bt []) (vp_Si (fun r => r = 1)) 0 0 (fun _ => False) := by
  refine en_rx rfl pn_RJ0 (Nat.le_of_ble_eq_true rfl) (fun p e s m below meth c hx hb hml hown S hr hlocks hnm hP hK hXS hS ls hl => ?_)
  have hP : va_P D vwCl [] s.heap := hP
  have hl : lv_has ls 1 [(0, .ref qq)] := hl
  refine va_gets hx hb hXS.1 hS hown (S.2.2.2.2 _ (wk1_10 6 rfl rfl)) (fun _ h9 => h9) dJ0_isLatin1_aae02_0 ?_
  refine lv_if_eq (tgt := 17) hx hb dJ0_isLatin1_aae02_3 rfl (fun h => absurd h cq_eq_1_0) (fun _ => ?_)
  refine lv_aload_n hx hb dJ0_isLatin1_aae02_6 rfl (lvA0 hl) ?_
  refine vk_getf hx hb hXS.2.2.2.2.1 hS hown (S.2.2.2.2 _ (wk9_13 5 rfl rfl)) (fun _ h9 => h9) dJ0_isLatin1_aae02_7 ?_
  refine lv_if_ne (tgt := 17) hx hb dJ0_isLatin1_aae02_10 rfl (fun h => absurd h cq_eq_0_0) (fun _ => ?_)
  refine lv_iconst (v := 1) hx hb dJ0_isLatin1_aae02_13 kic_1 ?_
  refine lv_goto (tgt := 18) hx hb dJ0_isLatin1_aae02_14 rfl ?_
  exact W.zret (v := 1) hx hb hr rfl (fun t ht hW => ⟨1, rfl, rfl, ht⟩) (fun _ h => absurd h List.not_mem_nil) dJ0_isLatin1_aae02_18
set_option maxRecDepth 100000 in
set_option maxHeartbeats 4000000 in
theorem q_s_strLen (l : Launch) (D : va_G) (cI cB cZ : ClassId) (zz qq vv : Nat) (bt : Nat → Int32)  : Met l yJ0_length_8abf5 (CWS yJ0_length_8abf5 cJ0_length_8abf5 1 (some .int)) (RM 1 0 0) (PBrx [.ref qq] D cI cB cZ zz qq vv bt []) (vp_Si (fun r => r = 11)) 0 0 (fun _ => False) := by
  refine en_rx rfl pn_RJ0 (Nat.le_of_ble_eq_true rfl) (fun p e s m below meth c hx hb hml hown S hr hlocks hnm hP hK hXS hS ls hl => ?_)
  have hP : va_P D vwCl [] s.heap := hP
  have hl : lv_has ls 1 [(0, .ref qq)] := hl
  refine lv_aload_n hx hb dJ0_length_8abf5_0 rfl (lvA0 hl) ?_
  refine vk_getf hx hb hXS.2.2.2.2.2.1 hS hown (S.2.2.2.2 _ (wk9_13 4 rfl rfl)) (fun _ h9 => h9) dJ0_length_8abf5_1 ?_
  refine va_tlen hx hb hXS.2.2.2.2.2.2.1 hS (v := 11) rfl dJ0_length_8abf5_4 ?_
  refine lv_aload_n hx hb dJ0_length_8abf5_5 rfl (lvA0 hl) ?_
  refine vp_callSi (runV_rx (As := []) (rest := [.int 11]) S (q_s_coder l D cI cB cZ zz qq vv bt ) kV_RJ0_335 hK hXS hS hP [] rfl (va_Orecv hXS.2.2.2.1 hS) ⟨Nat.le_of_ble_eq_true rfl, Nat.le_of_ble_eq_true rfl⟩ ⟨Nat.le_of_ble_eq_true rfl, Nat.le_of_ble_eq_true rfl⟩ rfl hl.1 rfl (Nat.le_of_ble_eq_true rfl) dJ0_length_8abf5_6) (fun r_1 h_2 => ?_)
  subst h_2
  refine lv_ishr hx hb dJ0_length_8abf5_9 ?_
  refine lv_topi (fun y_3 ey_3 => ?_)
  obtain rfl : y_3 = 11 := ey_3.trans (by decide)
  exact W.iret (v := 11) hx hb hr (fun t ht hW => ⟨11, rfl, rfl, ht⟩) (fun _ h => absurd h List.not_mem_nil) dJ0_length_8abf5_10
set_option maxRecDepth 100000 in
set_option maxHeartbeats 4000000 in
theorem q_s_canEncode (l : Launch) (D : va_G) (cI cB cZ : ClassId) (v0 : Int32) : Met l yJ1_canEncode_9a6ad (CWS yJ1_canEncode_9a6ad cJ1_canEncode_9a6ad 1 (some .boolean)) (RM 0 0 0) (PBr [.int v0] D cI cB cZ []) (vp_Si (fun r => (r = 1 ∧ (0 ≤ v0.toInt ∧ v0.toInt ≤ 255)) ∨ (r = 0 ∧ ¬ (0 ≤ v0.toInt ∧ v0.toInt ≤ 255)))) 0 0 (fun _ => False) := by
  refine en_r rfl pn_RJ1 (Nat.le_of_ble_eq_true rfl) (fun p e s m below meth c hx hb hml hown S hr hlocks hnm hP hK hS ls hl => ?_)
  have hP : va_P D vwCl [] s.heap := hP
  have hl : lv_has ls 1 [(0, .int v0)] := hl
  refine lv_iload_n hx hb dJ1_canEncode_9a6ad_0 rfl (lvA0 hl) ?_
  refine lv_if_lt (tgt := 15) hx hb dJ1_canEncode_9a6ad_1 rfl (fun c_1 => ?_) (fun c_1 => ?_)
  ·
    have tc_1 : (v0.toInt : Int) < 0 := Int32.lt_iff_toInt_lt.mp c_1
    refine lv_iconst (v := 0) hx hb dJ1_canEncode_9a6ad_15 kic_0 ?_
    exact W.zret (v := 0) hx hb hr rfl (fun t ht hW => ⟨0, rfl, (Or.inr ⟨rfl, by omega⟩), ht⟩) (fun _ h => absurd h List.not_mem_nil) dJ1_canEncode_9a6ad_16
  ·
    have tc_1 : (0 : Int) ≤ v0.toInt := Int32.le_iff_toInt_le.mp (Int32.not_lt.mp c_1)
    refine lv_iload_n hx hb dJ1_canEncode_9a6ad_4 rfl (lvA0 hl) ?_
    refine lv_sipush (v := 255) hx hb dJ1_canEncode_9a6ad_5 (by decide) ?_
    refine lv_icmp_gt (tgt := 15) hx hb dJ1_canEncode_9a6ad_8 rfl (fun c_2 => ?_) (fun c_2 => ?_)
    ·
      have tc_2 : (255 : Int) < v0.toInt := Int32.lt_iff_toInt_lt.mp c_2
      refine lv_iconst (v := 0) hx hb dJ1_canEncode_9a6ad_15 kic_0 ?_
      exact W.zret (v := 0) hx hb hr rfl (fun t ht hW => ⟨0, rfl, (Or.inr ⟨rfl, by omega⟩), ht⟩) (fun _ h => absurd h List.not_mem_nil) dJ1_canEncode_9a6ad_16
    ·
      have tc_2 : (v0.toInt : Int) ≤ 255 := Int32.le_iff_toInt_le.mp (Int32.not_lt.mp c_2)
      refine lv_iconst (v := 1) hx hb dJ1_canEncode_9a6ad_11 kic_1 ?_
      refine lv_goto (tgt := 16) hx hb dJ1_canEncode_9a6ad_12 rfl ?_
      exact W.zret (v := 1) hx hb hr rfl (fun t ht hW => ⟨1, rfl, (Or.inl ⟨rfl, by omega⟩), ht⟩) (fun _ h => absurd h List.not_mem_nil) dJ1_canEncode_9a6ad_16
set_option maxRecDepth 100000 in
set_option maxHeartbeats 4000000 in
theorem q_s_indexOfChar (l : Launch) (D : va_G) (cI cB cZ : ClassId) (zz qq vv : Nat) (bt : Nat → Int32) (v0 : Int32) : Met l yJ1_indexOfChar_4cfef (CWS yJ1_indexOfChar_4cfef cJ1_indexOfChar_4cfef 6 (some .int)) (RM 0 0 0) (PBrx [.ref vv, .int v0, .int 0, .int 11] D cI cB cZ zz qq vv bt []) (vp_Si (fun _ => True)) 0 0 (fun _ => False) := by
  refine en_rx rfl pn_RJ1 (Nat.le_of_ble_eq_true rfl) (fun p e s m below meth c hx hb hml hown S hr hlocks hnm hP hK hXS hS ls hl => ?_)
  have hP : va_P D vwCl [] s.heap := hP
  have hl : lv_has ls 6 [(0, .ref vv), (1, .int v0), (2, .int 0), (3, .int 11)] := hl
  refine lv_iload_n hx hb dJ1_indexOfChar_4cfef_0 rfl (lvA1 hl) ?_
  refine lv_i2b (v := v0.toInt8.toInt32) hx hb dJ1_indexOfChar_4cfef_1 rfl ?_
  refine lv_istore (lv' := [(4, .int v0.toInt8.toInt32), (0, .ref vv), (1, .int v0), (2, .int 0), (3, .int 11)]) hx hb dJ1_indexOfChar_4cfef_2 hl (ltb rfl) rfl (fun ls hl => ?_)
  refine lv_iload_n hx hb dJ1_indexOfChar_4cfef_4 rfl (lvA3 hl) ?_
  refine lv_istore (lv' := [(5, .int 0), (4, .int v0.toInt8.toInt32), (0, .ref vv), (1, .int v0), (2, .int 0), (3, .int 11)]) hx hb dJ1_indexOfChar_4cfef_5 hl (ltb rfl) rfl (fun ls hl => ?_)
  have lp_7 : ∀ (n i : Nat), 11 + 1 ≤ i + n → i ≤ 11 → ∀ ls : Array Slot, lv_has ls 6 [(5, .int (nI i)), (4, .int v0.toInt8.toInt32), (0, .ref vv), (1, .int v0), (2, .int 0), (3, .int 11)] → W p l e (RM 0 0 0) s m ([.ref vv, .int v0, .int 0, .int 11]).toArray below meth c s.heap [] 0 0 (MQ below (vp_Si (fun _ => True)) ([.ref vv, .int v0, .int 0, .int 11]).toArray s 0 0 (fun _ => False)) (F0 m 7 ls []) := by
    intro n
    induction n with
    | zero => intro i h1 h2; exact absurd h1 (by omega)
    | succ n ih =>
      intro i hn1 hi ls hl
      have ti : (nI i).toInt = (i : Int) := nI_toInt (by omega)
      refine lv_iload hx hb dJ1_indexOfChar_4cfef_7 (lvA0 hl) ?_
      refine lv_iload_n hx hb dJ1_indexOfChar_4cfef_9 rfl (lvA5 hl) ?_
      refine lv_icmp_ge (tgt := 31) hx hb dJ1_indexOfChar_4cfef_10 rfl (fun c_1 => ?_) (fun c_1 => ?_)
      ·
        have tc_1 : (11 : Int) ≤ (nI i).toInt := Int32.le_iff_toInt_le.mp c_1
        refine lv_iconst (v := (-1)) hx hb dJ1_indexOfChar_4cfef_31 kic_m1 ?_
        exact W.iret (v := (-1)) hx hb hr (fun t ht hW => ⟨(-1), rfl, trivial, ht⟩) (fun _ h => absurd h List.not_mem_nil) dJ1_indexOfChar_4cfef_32
      ·
        have tc_1 : ((nI i).toInt : Int) < 11 := Int32.lt_iff_toInt_lt.mp (Int32.not_le.mp c_1)
        refine lv_aload_n hx hb dJ1_indexOfChar_4cfef_13 rfl (lvA2 hl) ?_
        refine lv_iload hx hb dJ1_indexOfChar_4cfef_14 (lvA0 hl) ?_
        refine va_tb hx hb hXS.2.2.2.2.2.2.1 hS (vp_in_iff.mpr ⟨by omega, by omega⟩) rfl dJ1_indexOfChar_4cfef_16 ?_
        refine lv_iload hx hb dJ1_indexOfChar_4cfef_17 (lvA1 hl) ?_
        refine lv_icmp_ne (tgt := 25) hx hb dJ1_indexOfChar_4cfef_19 rfl (fun c_2 => ?_) (fun c_2 => ?_)
        ·
          have tc_2 : ((bt (nI i).toNatClampNeg).toInt : Int) ≠ v0.toInt8.toInt32.toInt := fun q => c_2 (Int32.toInt_inj.mp q)
          refine lv_iinc (v := (nI (i + 1))) (lv' := [(5, .int (nI (i + 1))), (4, .int v0.toInt8.toInt32), (0, .ref vv), (1, .int v0), (2, .int 0), (3, .int 11)]) hx hb dJ1_indexOfChar_4cfef_25 hl (k := 0) rfl (nI_1 _) (ltb rfl) rfl (fun ls hl => ?_)
          refine lv_goto (tgt := 7) hx hb dJ1_indexOfChar_4cfef_28 rfl ?_
          exact ih (i + 1) (by omega) (by omega) ls (lv_sub hl [0, 1, 2, 3, 4, 5] rfl)
        ·
          have tc_2 : ((bt (nI i).toNatClampNeg).toInt : Int) = v0.toInt8.toInt32.toInt := congrArg Int32.toInt c_2
          refine lv_iload hx hb dJ1_indexOfChar_4cfef_22 (lvA0 hl) ?_
          exact W.iret (v := (nI i)) hx hb hr (fun t ht hW => ⟨(nI i), rfl, trivial, ht⟩) (fun _ h => absurd h List.not_mem_nil) dJ1_indexOfChar_4cfef_24
  exact lp_7 (11 + 1) 0 (by omega) (by omega) ls (lv_sub hl [0, 1, 2, 3, 4, 5] rfl)
set_option maxRecDepth 100000 in
set_option maxHeartbeats 4000000 in
theorem q_s_lat1Index (l : Launch) (D : va_G) (cI cB cZ : ClassId) (zz qq vv : Nat) (bt : Nat → Int32) (v0 : Int32) : Met l yJ1_indexOf_4cfef (CWS yJ1_indexOf_4cfef cJ1_indexOf_4cfef 4 (some .int)) (RM 1 0 0) (PBrx [.ref vv, .int v0, .int 0, .int 11] D cI cB cZ zz qq vv bt []) (vp_Si (fun _ => True)) 0 0 (fun _ => False) := by
  refine en_rx rfl pn_RJ1 (Nat.le_of_ble_eq_true rfl) (fun p e s m below meth c hx hb hml hown S hr hlocks hnm hP hK hXS hS ls hl => ?_)
  have hP : va_P D vwCl [] s.heap := hP
  have hl : lv_has ls 4 [(0, .ref vv), (1, .int v0), (2, .int 0), (3, .int 11)] := hl
  refine lv_iload_n hx hb dJ1_indexOf_4cfef_0 rfl (lvA1 hl) ?_
  refine vp_callSi (runS_r (As := [.int v0]) (rest := []) S (q_s_canEncode l D cI cB cZ v0) kS_RJ1_88 hK hP [] rfl ⟨Nat.le_of_ble_eq_true rfl, Nat.le_of_ble_eq_true rfl⟩ ⟨Nat.le_of_ble_eq_true rfl, Nat.le_of_ble_eq_true rfl⟩ rfl hl.1 rfl (Nat.le_of_ble_eq_true rfl) dJ1_indexOf_4cfef_1) (fun r_1 h_2 => ?_)
  rcases h_2 with ⟨rfl, h_2⟩ | ⟨rfl, h_2⟩
  ·
    have h_2 : 0 ≤ v0.toInt ∧ v0.toInt ≤ 255 := h_2
    refine lv_if_ne (tgt := 9) hx hb dJ1_indexOf_4cfef_4 rfl (fun _ => ?_) (fun h => absurd h cq_eq_1_0)
    refine lv_iload_n hx hb dJ1_indexOf_4cfef_9 rfl (lvA2 hl) ?_
    refine lv_iconst (v := 0) hx hb dJ1_indexOf_4cfef_10 kic_0 ?_
    refine va_mmax hx hb (by rw [hml]; exact hl.1.symm) hown (S.2.2.2.2 _ (wk3_9 0 rfl rfl)) (S.2.2.2.2 _ (wk1_3 6 rfl rfl)) (S.2.2.2.2 _ (wk1_0 3 rfl rfl)) (S.2.2.2.2 _ (wk1_3 7 rfl rfl)) (Nat.le_of_ble_eq_true rfl) (Nat.le_of_ble_eq_true rfl) (Nat.le_of_ble_eq_true rfl) (Nat.le_of_ble_eq_true rfl) dJ1_indexOf_4cfef_11 ?_
    refine lv_topi (fun y_3 ey_3 => ?_)
    obtain rfl : y_3 = 0 := ey_3.trans (by decide)
    refine lv_istore_n (lv' := [(2, .int 0), (0, .ref vv), (1, .int v0), (3, .int 11)]) hx hb dJ1_indexOf_4cfef_14 rfl hl (ltb rfl) rfl (fun ls hl => ?_)
    refine lv_iload_n hx hb dJ1_indexOf_4cfef_15 rfl (lvA3 hl) ?_
    refine lv_aload_n hx hb dJ1_indexOf_4cfef_16 rfl (lvA1 hl) ?_
    refine va_tlen hx hb hXS.2.2.2.2.2.2.1 hS (v := 11) rfl dJ1_indexOf_4cfef_17 ?_
    refine va_mmin hx hb (by rw [hml]; exact hl.1.symm) hown (S.2.2.2.2 _ (wk3_9 1 rfl rfl)) (S.2.2.2.2 _ (wk2_13 10 rfl rfl)) (S.2.2.2.2 _ (wk1_0 3 rfl rfl)) (S.2.2.2.2 _ (wk2_13 11 rfl rfl)) (Nat.le_of_ble_eq_true rfl) (Nat.le_of_ble_eq_true rfl) (Nat.le_of_ble_eq_true rfl) (Nat.le_of_ble_eq_true rfl) dJ1_indexOf_4cfef_18 ?_
    refine lv_topi (fun y_4 ey_4 => ?_)
    obtain rfl : y_4 = 11 := ey_4.trans (by decide)
    refine lv_istore_n (lv' := [(3, .int 11), (2, .int 0), (0, .ref vv), (1, .int v0)]) hx hb dJ1_indexOf_4cfef_21 rfl hl (ltb rfl) rfl (fun ls hl => ?_)
    refine lv_iload_n hx hb dJ1_indexOf_4cfef_22 rfl (lvA1 hl) ?_
    refine lv_iload_n hx hb dJ1_indexOf_4cfef_23 rfl (lvA0 hl) ?_
    refine lv_icmp_lt (tgt := 29) hx hb dJ1_indexOf_4cfef_24 rfl (fun _ => ?_) (fun h => absurd h cq_lt_0_11)
    refine lv_aload_n hx hb dJ1_indexOf_4cfef_29 rfl (lvA2 hl) ?_
    refine lv_iload_n hx hb dJ1_indexOf_4cfef_30 rfl (lvA3 hl) ?_
    refine lv_iload_n hx hb dJ1_indexOf_4cfef_31 rfl (lvA1 hl) ?_
    refine lv_iload_n hx hb dJ1_indexOf_4cfef_32 rfl (lvA0 hl) ?_
    refine vp_callSi (runS_rx (As := [.ref vv, .int v0, .int 0, .int 11]) (rest := []) S (q_s_indexOfChar l D cI cB cZ zz qq vv bt v0) kS_RJ1_95 hK hXS hS hP [] rfl ⟨Nat.le_of_ble_eq_true rfl, Nat.le_of_ble_eq_true rfl⟩ ⟨Nat.le_of_ble_eq_true rfl, Nat.le_of_ble_eq_true rfl⟩ rfl hl.1 rfl (Nat.le_of_ble_eq_true rfl) dJ1_indexOf_4cfef_33) (fun r_5 h_6 => ?_)
    exact W.iret (v := r_5) hx hb hr (fun t ht hW => ⟨r_5, rfl, trivial, ht⟩) (fun _ h => absurd h List.not_mem_nil) dJ1_indexOf_4cfef_36
  ·
    have h_2 : ¬ (0 ≤ v0.toInt ∧ v0.toInt ≤ 255) := h_2
    refine lv_if_ne (tgt := 9) hx hb dJ1_indexOf_4cfef_4 rfl (fun h => absurd h cq_eq_0_0) (fun _ => ?_)
    refine lv_iconst (v := (-1)) hx hb dJ1_indexOf_4cfef_7 kic_m1 ?_
    exact W.iret (v := (-1)) hx hb hr (fun t ht hW => ⟨(-1), rfl, trivial, ht⟩) (fun _ h => absurd h List.not_mem_nil) dJ1_indexOf_4cfef_8
set_option maxRecDepth 100000 in
set_option maxHeartbeats 4000000 in
theorem q_s_strIndex2 (l : Launch) (D : va_G) (cI cB cZ : ClassId) (zz qq vv : Nat) (bt : Nat → Int32) (v0 : Int32) : Met l yJ0_indexOf_7cf53 (CWS yJ0_indexOf_7cf53 cJ0_indexOf_7cf53 3 (some .int)) (RM 2 0 0) (PBrx [.ref qq, .int v0, .int 0] D cI cB cZ zz qq vv bt []) (vp_Si (fun _ => True)) 0 0 (fun _ => False) := by
  refine en_rx rfl pn_RJ0 (Nat.le_of_ble_eq_true rfl) (fun p e s m below meth c hx hb hml hown S hr hlocks hnm hP hK hXS hS ls hl => ?_)
  have hP : va_P D vwCl [] s.heap := hP
  have hl : lv_has ls 3 [(0, .ref qq), (1, .int v0), (2, .int 0)] := hl
  refine lv_aload_n hx hb dJ0_indexOf_7cf53_0 rfl (lvA0 hl) ?_
  refine vp_callSi (runV_rx (As := []) (rest := []) S (q_s_isLatin1 l D cI cB cZ zz qq vv bt ) kV_RJ0_492 hK hXS hS hP [] rfl (va_Orecv hXS.2.2.2.1 hS) ⟨Nat.le_of_ble_eq_true rfl, Nat.le_of_ble_eq_true rfl⟩ ⟨Nat.le_of_ble_eq_true rfl, Nat.le_of_ble_eq_true rfl⟩ rfl hl.1 rfl (Nat.le_of_ble_eq_true rfl) dJ0_indexOf_7cf53_1) (fun r_1 h_2 => ?_)
  subst h_2
  refine lv_if_eq (tgt := 23) hx hb dJ0_indexOf_7cf53_4 rfl (fun h => absurd h cq_eq_1_0) (fun _ => ?_)
  refine lv_aload_n hx hb dJ0_indexOf_7cf53_7 rfl (lvA0 hl) ?_
  refine vk_getf hx hb hXS.2.2.2.2.2.1 hS hown (S.2.2.2.2 _ (wk9_13 4 rfl rfl)) (fun _ h9 => h9) dJ0_indexOf_7cf53_8 ?_
  refine lv_iload_n hx hb dJ0_indexOf_7cf53_11 rfl (lvA1 hl) ?_
  refine lv_iload_n hx hb dJ0_indexOf_7cf53_12 rfl (lvA2 hl) ?_
  refine lv_aload_n hx hb dJ0_indexOf_7cf53_13 rfl (lvA0 hl) ?_
  refine vp_callSi (runV_rx (As := []) (rest := [.int 0, .int v0, .ref vv]) S (q_s_strLen l D cI cB cZ zz qq vv bt ) kV_RJ0_505 hK hXS hS hP [] rfl (va_Orecv hXS.2.2.2.1 hS) ⟨Nat.le_of_ble_eq_true rfl, Nat.le_of_ble_eq_true rfl⟩ ⟨Nat.le_of_ble_eq_true rfl, Nat.le_of_ble_eq_true rfl⟩ rfl hl.1 rfl (Nat.le_of_ble_eq_true rfl) dJ0_indexOf_7cf53_14) (fun r_3 h_4 => ?_)
  subst h_4
  refine vp_callSi (runS_rx (As := [.ref vv, .int v0, .int 0, .int 11]) (rest := []) S (q_s_lat1Index l D cI cB cZ zz qq vv bt v0) kS_RJ0_637 hK hXS hS hP [] rfl ⟨Nat.le_of_ble_eq_true rfl, Nat.le_of_ble_eq_true rfl⟩ ⟨Nat.le_of_ble_eq_true rfl, Nat.le_of_ble_eq_true rfl⟩ rfl hl.1 rfl (Nat.le_of_ble_eq_true rfl) dJ0_indexOf_7cf53_17) (fun r_5 h_6 => ?_)
  refine lv_goto (tgt := 36) hx hb dJ0_indexOf_7cf53_20 rfl ?_
  exact W.iret (v := r_5) hx hb hr (fun t ht hW => ⟨r_5, rfl, trivial, ht⟩) (fun _ h => absurd h List.not_mem_nil) dJ0_indexOf_7cf53_36
set_option maxRecDepth 100000 in
set_option maxHeartbeats 4000000 in
theorem q_s_strIndex (l : Launch) (D : va_G) (cI cB cZ : ClassId) (zz qq vv : Nat) (bt : Nat → Int32) (v0 : Int32) : Met l yJ0_indexOf_0f7a4 (CWS yJ0_indexOf_0f7a4 cJ0_indexOf_0f7a4 2 (some .int)) (RM 3 0 0) (PBrx [.ref qq, .int v0] D cI cB cZ zz qq vv bt []) (vp_Si (fun _ => True)) 0 0 (fun _ => False) := by
  refine en_rx rfl pn_RJ0 (Nat.le_of_ble_eq_true rfl) (fun p e s m below meth c hx hb hml hown S hr hlocks hnm hP hK hXS hS ls hl => ?_)
  have hP : va_P D vwCl [] s.heap := hP
  have hl : lv_has ls 2 [(0, .ref qq), (1, .int v0)] := hl
  refine lv_aload_n hx hb dJ0_indexOf_0f7a4_0 rfl (lvA0 hl) ?_
  refine lv_iload_n hx hb dJ0_indexOf_0f7a4_1 rfl (lvA1 hl) ?_
  refine lv_iconst (v := 0) hx hb dJ0_indexOf_0f7a4_2 kic_0 ?_
  refine vp_callSi (runV_rx (As := [.int v0, .int 0]) (rest := []) S (q_s_strIndex2 l D cI cB cZ zz qq vv bt v0) kV_RJ0_633 hK hXS hS hP [] rfl (va_Orecv hXS.2.2.2.1 hS) ⟨Nat.le_of_ble_eq_true rfl, Nat.le_of_ble_eq_true rfl⟩ ⟨Nat.le_of_ble_eq_true rfl, Nat.le_of_ble_eq_true rfl⟩ rfl hl.1 rfl (Nat.le_of_ble_eq_true rfl) dJ0_indexOf_0f7a4_3) (fun r_1 h_2 => ?_)
  exact W.iret (v := r_1) hx hb hr (fun t ht hW => ⟨r_1, rfl, trivial, ht⟩) (fun _ h => absurd h List.not_mem_nil) dJ0_indexOf_0f7a4_6
set_option maxRecDepth 100000 in
set_option maxHeartbeats 4000000 in
theorem q_Xpush (l : Launch) (D : va_G) (cI cB cZ : ClassId) (zz qq vv : Nat) (bt : Nat → Int32) (g : Nat → Nat) (ad : Nat → Nat → Nat) (cn : Nat → Nat) (In : Nat → Int32) (Fn : Nat → Nat → Int32) (k0 : Nat) (v0 : Int32) (sz : Nat) (hB : CBX cn) (hk : k0 < cn 6) : Met l yX9_push (CWS yX9_push cX9_push 2 none) (RM 0 0 0) (PBx [.ref (ad 5 k0), .int v0] D cI cB cZ zz qq vv bt (wX cI (D.1 99) zz g ad cn In Fn) sz) (va_Qv (fun (u : (Nat → Nat) × (Nat → Int32) × (Nat → Nat → Int32)) => (fun c2 I2 F2 => Fr [] [] [196, 305] cn In Fn c2 I2 F2 ∧ CBX c2 ∧ (True)) u.1 u.2.1 u.2.2) (fun (u : (Nat → Nat) × (Nat → Int32) × (Nat → Nat → Int32)) (t : State) => va_P D vwCl (wX cI (D.1 99) zz g ad u.1 u.2.1 u.2.2) t.heap ∧ va_D (va_A (wX cI (D.1 99) zz g ad cn In Fn) sz) (wX cI (D.1 99) zz g ad u.1 u.2.1 u.2.2)) (va_A (wX cI (D.1 99) zz g ad cn In Fn) sz)) 0 0 (va_A (wX cI (D.1 99) zz g ad cn In Fn) sz) := by
  refine en_x (fun A => (va_Qv (fun (u : (Nat → Nat) × (Nat → Int32) × (Nat → Nat → Int32)) => (fun (c2 : Nat → Nat) (I2 : Nat → Int32) (F2 : Nat → Nat → Int32) => Fr [] [] [196, 305] cn In Fn c2 I2 F2 ∧ CBX c2 ∧ (True)) u.1 u.2.1 u.2.2) (fun (u : (Nat → Nat) × (Nat → Int32) × (Nat → Nat → Int32)) (t : State) => va_P D vwCl (wX cI (D.1 99) zz g ad u.1 u.2.1 u.2.2) t.heap ∧ va_D A (wX cI (D.1 99) zz g ad u.1 u.2.1 u.2.2)) A)) rfl rfl pn_RX9 (Nat.le_of_ble_eq_true rfl) (fun p e s m below meth c A hx hb hml hown S hr hlocks hnm hA hP hK hD hXS hS ls hl => ?_)
  have hl : lv_has ls 2 [(0, .ref (ad 5 k0)), (1, .int v0)] := hl
  have hb_cn : Hid (CBX cn) := hB
  replace hB : CBXh cn := hB
  refine lv_aload_n hx hb dX9_push_0 rfl (lvA0 hl) ?_
  refine gf_RX9_55 S hK hP _ (xf_7 hk) (v := .int ((Fn 196) k0)) rfl dX9_push_1 ?_
  refine lv_if_lt (tgt := 39) hx hb dX9_push_4 rfl (fun c_1 => ?_) (fun c_1 => ?_)
  ·
    have tc_1 : (((Fn 196) k0).toInt : Int) < 0 := Int32.lt_iff_toInt_lt.mp c_1
    exact W.vret hx hb hr (fun t ht hW => ⟨⟨(cn, In, Fn), rfl, ⟨(Fr.mo Fr.rf (sbl rfl) (sbl rfl) (sbl rfl)), hB, trivial⟩, by rw [ht]; exact hP, hD⟩, hS.F ht⟩) hS.2.2 dX9_push_39
  ·
    have tc_1 : (0 : Int) ≤ ((Fn 196) k0).toInt := Int32.le_iff_toInt_le.mp (Int32.not_lt.mp c_1)
    refine lv_aload_n hx hb dX9_push_7 rfl (lvA0 hl) ?_
    refine gf_RX9_55 S hK hP _ (xf_7 hk) (v := .int ((Fn 196) k0)) rfl dX9_push_8 ?_
    refine lv_aload_n hx hb dX9_push_11 rfl (lvA0 hl) ?_
    refine gf_RX9_30 S hK hP _ (xf_7 hk) (v := .ref (ad 64 k0)) rfl dX9_push_12 ?_
    refine va_alen hx hb hK.1 hP _ 0 (xf_12 hk) rfl (v := 32) rfl dX9_push_15 ?_
    refine lv_icmp_ge (tgt := 39) hx hb dX9_push_16 rfl (fun c_2 => ?_) (fun c_2 => ?_)
    ·
      have tc_2 : (32 : Int) ≤ ((Fn 196) k0).toInt := Int32.le_iff_toInt_le.mp c_2
      exact W.vret hx hb hr (fun t ht hW => ⟨⟨(cn, In, Fn), rfl, ⟨(Fr.mo Fr.rf (sbl rfl) (sbl rfl) (sbl rfl)), hB, trivial⟩, by rw [ht]; exact hP, hD⟩, hS.F ht⟩) hS.2.2 dX9_push_39
    ·
      have tc_2 : (((Fn 196) k0).toInt : Int) < 32 := Int32.lt_iff_toInt_lt.mp (Int32.not_le.mp c_2)
      refine lv_aload_n hx hb dX9_push_19 rfl (lvA0 hl) ?_
      refine gf_RX9_30 S hK hP _ (xf_7 hk) (v := .ref (ad 64 k0)) rfl dX9_push_20 ?_
      refine lv_aload_n hx hb dX9_push_23 rfl (lvA0 hl) ?_
      refine gf_RX9_55 S hK hP _ (xf_7 hk) (v := .int ((Fn 196) k0)) rfl dX9_push_24 ?_
      refine lv_iload_n hx hb dX9_push_27 rfl (lvA1 hl) ?_
      refine va_iast hx hb hK.1 hP hD hS _ 0 (xf_12 hk) rfl (vp_in_iff.mpr ⟨by (first | omega | (have zz0 := Hid.u hb_cn; omega)), by (first | omega | (have zz0 := Hid.u hb_cn; omega))⟩) dX9_push_28 (fun H locs hP hD hS => ?_)
      have hP : va_P D vwCl (wX cI (D.1 99) zz g ad cn In (va_up Fn 305 (flat (Fn 305) 32 k0 (upd (gA (Fn 305) 32 k0) ((Fn 196) k0).toNatClampNeg v0)))) H := va_P_eq (xsg_12 hk (upd_z (by (first | omega | (have zz0 := Hid.u hb_cn; omega))) gA_z)) hP
      have hD : va_D A (wX cI (D.1 99) zz g ad cn In (va_up Fn 305 (flat (Fn 305) 32 k0 (upd (gA (Fn 305) 32 k0) ((Fn 196) k0).toNatClampNeg v0)))) := va_D_eq (xsg_12 hk (upd_z (by (first | omega | (have zz0 := Hid.u hb_cn; omega))) gA_z)) hD
      refine lv_aload_n hx hb dX9_push_29 rfl (lvA0 hl) ?_
      refine lv_dup hx hb dX9_push_30 rfl ?_
      refine gf_RX9_55 S hK hP _ (xf_7 hk) (v := .int ((Fn 196) k0)) rfl dX9_push_31 ?_
      refine lv_iconst (v := 1) hx hb dX9_push_34 kic_1 ?_
      refine lv_iadd hx hb dX9_push_35 ?_
      refine pf_RX9_55 S hK hP hD hS _ (xf_7 hk) (v := .int (((Fn 196) k0) + 1)) (Nat.le_of_ble_eq_true rfl) rfl rfl dX9_push_36 (fun H locs hP hD hS => ?_)
      have hP : va_P D vwCl (wX cI (D.1 99) zz g ad cn In (va_up (va_up Fn 305 (flat (Fn 305) 32 k0 (upd (gA (Fn 305) 32 k0) ((Fn 196) k0).toNatClampNeg v0))) 196 (upd (Fn 196) k0 (((Fn 196) k0) + 1)))) H := va_P_eq (xs_196 (by (first | omega | (have zz0 := Hid.u hb_cn; omega)))) hP
      have hD : va_D A (wX cI (D.1 99) zz g ad cn In (va_up (va_up Fn 305 (flat (Fn 305) 32 k0 (upd (gA (Fn 305) 32 k0) ((Fn 196) k0).toNatClampNeg v0))) 196 (upd (Fn 196) k0 (((Fn 196) k0) + 1)))) := va_D_eq (xs_196 (by (first | omega | (have zz0 := Hid.u hb_cn; omega)))) hD
      exact W.vret hx hb hr (fun t ht hW => ⟨⟨(cn, In, (va_up (va_up Fn 305 (flat (Fn 305) 32 k0 (upd (gA (Fn 305) 32 k0) ((Fn 196) k0).toNatClampNeg v0))) 196 (upd (Fn 196) k0 (((Fn 196) k0) + 1)))), rfl, ⟨(Fr.mo (Fr.f 196 (Fr.f 305 Fr.rf)) (sbl rfl) (sbl rfl) (sbl rfl)), hB, trivial⟩, by rw [ht]; exact hP, hD⟩, hS.F ht⟩) hS.2.2 dX9_push_39
set_option maxRecDepth 100000 in
set_option maxHeartbeats 4000000 in
theorem q_Xpop (l : Launch) (D : va_G) (cI cB cZ : ClassId) (zz qq vv : Nat) (bt : Nat → Int32) (g : Nat → Nat) (ad : Nat → Nat → Nat) (cn : Nat → Nat) (In : Nat → Int32) (Fn : Nat → Nat → Int32) (k0 : Nat) (sz : Nat) (hB : CBX cn) (hk : k0 < cn 6) : Met l yX9_pop (CWS yX9_pop cX9_pop 1 (some .int)) (RM 0 0 0) (PBx [.ref (ad 5 k0)] D cI cB cZ zz qq vv bt (wX cI (D.1 99) zz g ad cn In Fn) sz) (va_Qi (fun (r : Int32) (u : (Nat → Nat) × (Nat → Int32) × (Nat → Nat → Int32)) => (fun r c2 I2 F2 => Fr [] [] [196] cn In Fn c2 I2 F2 ∧ CBX c2 ∧ (True)) r u.1 u.2.1 u.2.2) (fun (u : (Nat → Nat) × (Nat → Int32) × (Nat → Nat → Int32)) (t : State) => va_P D vwCl (wX cI (D.1 99) zz g ad u.1 u.2.1 u.2.2) t.heap ∧ va_D (va_A (wX cI (D.1 99) zz g ad cn In Fn) sz) (wX cI (D.1 99) zz g ad u.1 u.2.1 u.2.2)) (va_A (wX cI (D.1 99) zz g ad cn In Fn) sz)) 0 0 (va_A (wX cI (D.1 99) zz g ad cn In Fn) sz) := by
  refine en_x (fun A => (va_Qi (fun (r : Int32) (u : (Nat → Nat) × (Nat → Int32) × (Nat → Nat → Int32)) => (fun (r : Int32) (c2 : Nat → Nat) (I2 : Nat → Int32) (F2 : Nat → Nat → Int32) => Fr [] [] [196] cn In Fn c2 I2 F2 ∧ CBX c2 ∧ (True)) r u.1 u.2.1 u.2.2) (fun (u : (Nat → Nat) × (Nat → Int32) × (Nat → Nat → Int32)) (t : State) => va_P D vwCl (wX cI (D.1 99) zz g ad u.1 u.2.1 u.2.2) t.heap ∧ va_D A (wX cI (D.1 99) zz g ad u.1 u.2.1 u.2.2)) A)) rfl rfl pn_RX9 (Nat.le_of_ble_eq_true rfl) (fun p e s m below meth c A hx hb hml hown S hr hlocks hnm hA hP hK hD hXS hS ls hl => ?_)
  have hl : lv_has ls 1 [(0, .ref (ad 5 k0))] := hl
  have hb_cn : Hid (CBX cn) := hB
  replace hB : CBXh cn := hB
  refine lv_aload_n hx hb dX9_pop_0 rfl (lvA0 hl) ?_
  refine gf_RX9_55 S hK hP _ (xf_7 hk) (v := .int ((Fn 196) k0)) rfl dX9_pop_1 ?_
  refine lv_if_le (tgt := 19) hx hb dX9_pop_4 rfl (fun c_1 => ?_) (fun c_1 => ?_)
  ·
    have tc_1 : (((Fn 196) k0).toInt : Int) ≤ 0 := Int32.le_iff_toInt_le.mp c_1
    refine lv_iconst (v := 0) hx hb dX9_pop_19 kic_0 ?_
    exact W.iret (v := 0) hx hb hr (fun t ht hW => ⟨⟨0, (cn, In, Fn), rfl, ⟨(Fr.mo Fr.rf (sbl rfl) (sbl rfl) (sbl rfl)), hB, trivial⟩, by rw [ht]; exact hP, hD⟩, hS.F ht⟩) hS.2.2 dX9_pop_20
  ·
    have tc_1 : (0 : Int) < ((Fn 196) k0).toInt := Int32.lt_iff_toInt_lt.mp (Int32.not_le.mp c_1)
    refine lv_aload_n hx hb dX9_pop_7 rfl (lvA0 hl) ?_
    refine gf_RX9_55 S hK hP _ (xf_7 hk) (v := .int ((Fn 196) k0)) rfl dX9_pop_8 ?_
    refine lv_aload_n hx hb dX9_pop_11 rfl (lvA0 hl) ?_
    refine gf_RX9_30 S hK hP _ (xf_7 hk) (v := .ref (ad 64 k0)) rfl dX9_pop_12 ?_
    refine va_alen hx hb hK.1 hP _ 0 (xf_12 hk) rfl (v := 32) rfl dX9_pop_15 ?_
    refine lv_icmp_le (tgt := 21) hx hb dX9_pop_16 rfl (fun c_2 => ?_) (fun c_2 => ?_)
    ·
      have tc_2 : (((Fn 196) k0).toInt : Int) ≤ 32 := Int32.le_iff_toInt_le.mp c_2
      refine lv_aload_n hx hb dX9_pop_21 rfl (lvA0 hl) ?_
      refine lv_dup hx hb dX9_pop_22 rfl ?_
      refine gf_RX9_55 S hK hP _ (xf_7 hk) (v := .int ((Fn 196) k0)) rfl dX9_pop_23 ?_
      refine lv_iconst (v := 1) hx hb dX9_pop_26 kic_1 ?_
      refine lv_isub hx hb dX9_pop_27 ?_
      refine pf_RX9_55 S hK hP hD hS _ (xf_7 hk) (v := .int (((Fn 196) k0) - 1)) (Nat.le_of_ble_eq_true rfl) rfl rfl dX9_pop_28 (fun H locs hP hD hS => ?_)
      have hP : va_P D vwCl (wX cI (D.1 99) zz g ad cn In (va_up Fn 196 (upd (Fn 196) k0 (((Fn 196) k0) - 1)))) H := va_P_eq (xs_196 (by (first | omega | (have zz0 := Hid.u hb_cn; omega)))) hP
      have hD : va_D A (wX cI (D.1 99) zz g ad cn In (va_up Fn 196 (upd (Fn 196) k0 (((Fn 196) k0) - 1)))) := va_D_eq (xs_196 (by (first | omega | (have zz0 := Hid.u hb_cn; omega)))) hD
      refine lv_aload_n hx hb dX9_pop_31 rfl (lvA0 hl) ?_
      refine gf_RX9_30 S hK hP _ (xf_7 hk) (v := .ref (ad 64 k0)) rfl dX9_pop_32 ?_
      refine lv_aload_n hx hb dX9_pop_35 rfl (lvA0 hl) ?_
      refine gf_RX9_55 S hK hP _ (xf_7 hk) (v := .int ((upd (Fn 196) k0 (((Fn 196) k0) - 1)) k0)) rfl dX9_pop_36 ?_
      refine lv_topi (fun y_3 ey_3 => ?_)
      obtain rfl : y_3 = ((Fn 196 k0) - 1) := ey_3.trans (upd_self _ _ _)
      have hs1 := dec_toInt (x := Fn 196 k0) (by (first | omega | (have zz0 := Hid.u hb_cn; omega)))
      refine va_iald hx hb hK.1 hP _ 0 (xf_12 hk) rfl (vp_in_iff.mpr ⟨by (first | omega | (have zz0 := Hid.u hb_cn; omega)), by (first | omega | (have zz0 := Hid.u hb_cn; omega))⟩) dX9_pop_39 ?_
      refine lv_topi (fun y_4 ey_4 => ?_)
      obtain rfl : y_4 = ((gA (Fn 305) 32 k0) (((Fn 196 k0) - 1).toNatClampNeg)) := ey_4.trans (congrArg (gA (Fn 305) 32 k0) rfl)
      exact W.iret (v := ((gA (Fn 305) 32 k0) (((Fn 196 k0) - 1).toNatClampNeg))) hx hb hr (fun t ht hW => ⟨⟨((gA (Fn 305) 32 k0) (((Fn 196 k0) - 1).toNatClampNeg)), (cn, In, (va_up Fn 196 (upd (Fn 196) k0 (((Fn 196) k0) - 1)))), rfl, ⟨(Fr.mo (Fr.f 196 Fr.rf) (sbl rfl) (sbl rfl) (sbl rfl)), hB, trivial⟩, by rw [ht]; exact hP, hD⟩, hS.F ht⟩) hS.2.2 dX9_pop_40
    ·
      have tc_2 : (32 : Int) < ((Fn 196) k0).toInt := Int32.lt_iff_toInt_lt.mp (Int32.not_le.mp c_2)
      refine lv_iconst (v := 0) hx hb dX9_pop_19 kic_0 ?_
      exact W.iret (v := 0) hx hb hr (fun t ht hW => ⟨⟨0, (cn, In, Fn), rfl, ⟨(Fr.mo Fr.rf (sbl rfl) (sbl rfl) (sbl rfl)), hB, trivial⟩, by rw [ht]; exact hP, hD⟩, hS.F ht⟩) hS.2.2 dX9_pop_20
set_option maxRecDepth 100000 in
set_option maxHeartbeats 4000000 in
theorem q_Xdecided (l : Launch) (D : va_G) (cI cB cZ : ClassId) (zz qq vv : Nat) (bt : Nat → Int32) (g : Nat → Nat) (ad : Nat → Nat → Nat) (cn : Nat → Nat) (In : Nat → Int32) (Fn : Nat → Nat → Int32) (k0 : Nat) (v0 : Int32) (sz : Nat) (hB : CBX cn) (hk : k0 < cn 6) : Met l yX9_decided (CWS yX9_decided cX9_decided 3 (some .boolean)) (RM 1 0 0) (PBx [.ref (ad 5 k0), .int v0] D cI cB cZ zz qq vv bt (wX cI (D.1 99) zz g ad cn In Fn) sz) (va_Qi (fun (r : Int32) (u : (Nat → Nat) × (Nat → Int32) × (Nat → Nat → Int32)) => (fun r c2 I2 F2 => Fr [] [] [196, 305] cn In Fn c2 I2 F2 ∧ CBX c2 ∧ (r = 0 ∨ r = 1)) r u.1 u.2.1 u.2.2) (fun (u : (Nat → Nat) × (Nat → Int32) × (Nat → Nat → Int32)) (t : State) => va_P D vwCl (wX cI (D.1 99) zz g ad u.1 u.2.1 u.2.2) t.heap ∧ va_D (va_A (wX cI (D.1 99) zz g ad cn In Fn) sz) (wX cI (D.1 99) zz g ad u.1 u.2.1 u.2.2)) (va_A (wX cI (D.1 99) zz g ad cn In Fn) sz)) 0 0 (va_A (wX cI (D.1 99) zz g ad cn In Fn) sz) := by
  refine en_x (fun A => (va_Qi (fun (r : Int32) (u : (Nat → Nat) × (Nat → Int32) × (Nat → Nat → Int32)) => (fun (r : Int32) (c2 : Nat → Nat) (I2 : Nat → Int32) (F2 : Nat → Nat → Int32) => Fr [] [] [196, 305] cn In Fn c2 I2 F2 ∧ CBX c2 ∧ (r = 0 ∨ r = 1)) r u.1 u.2.1 u.2.2) (fun (u : (Nat → Nat) × (Nat → Int32) × (Nat → Nat → Int32)) (t : State) => va_P D vwCl (wX cI (D.1 99) zz g ad u.1 u.2.1 u.2.2) t.heap ∧ va_D A (wX cI (D.1 99) zz g ad u.1 u.2.1 u.2.2)) A)) rfl rfl pn_RX9 (Nat.le_of_ble_eq_true rfl) (fun p e s m below meth c A hx hb hml hown S hr hlocks hnm hA hP hK hD hXS hS ls hl => ?_)
  have hl : lv_has ls 3 [(0, .ref (ad 5 k0)), (1, .int v0)] := hl
  have hb_cn : Hid (CBX cn) := hB
  replace hB : CBXh cn := hB
  refine lv_aload_n hx hb dX9_decided_0 rfl (lvA0 hl) ?_
  have hFc := free_all hD hS hA
  refine va_calli (runV_xa (As := []) (rest := []) S (q_Xpop l D cI cB cZ zz qq vv bt g ad cn In Fn k0 s.heap.size hB (by (first | omega | (have zz0 := Hid.u hb_cn; omega)))) kV_RX9_67 hK hXS hS hFc hP hD _ (xf_7 hk) rfl rfl ⟨Nat.le_of_ble_eq_true rfl, Nat.le_of_ble_eq_true rfl⟩ ⟨Nat.le_of_ble_eq_true rfl, Nat.le_of_ble_eq_true rfl⟩ rfl hl.1 rfl (Nat.le_of_ble_eq_true rfl) dX9_decided_1) hS (fun q _ h => hFc q h) hFc (fun r_1 u t H1 locs ht hvm wh_2 hB1 hz1 hk1 hS => ?_)
  obtain ⟨cn2, In2, Fn2⟩ := u
  obtain ⟨hP1, hD1⟩ := hB1
  rw [ht] at hP1
  have hP : va_P D vwCl (wX cI (D.1 99) zz g ad cn2 In2 Fn2) H1 := hP1
  have hD : va_D A (wX cI (D.1 99) zz g ad cn2 In2 Fn2) := hD1.weaken (fun _ _ _ h => hFc _ h)
  generalize H1 = H at hP hS ⊢
  have vh_2 : (fun r c2 I2 F2 => Fr [] [] [196] cn In Fn c2 I2 F2 ∧ CBX c2 ∧ (True)) r_1 cn2 In2 Fn2 := wh_2
  obtain ⟨hfc2, hIn2, h_2⟩ := vh_2
  obtain rfl : cn = cn2 := (funext (fun k => hfc2.1 k List.not_mem_nil)).symm
  obtain rfl : In = In2 := (funext (fun k => hfc2.2.1 k List.not_mem_nil)).symm
  have hf2 : Fr [] [] [196, 305] cn In Fn cn In Fn2 := Fr.mo (Fr.tr (Fr.rf (cn := cn) (In := In) (Fn := Fn)) hfc2) (sbl rfl) (sbl rfl) (sbl rfl)
  replace hIn2 : CBXh cn := hIn2
  refine lv_istore_n (lv' := [(2, .int r_1), (0, .ref (ad 5 k0)), (1, .int v0)]) hx hb dX9_decided_4 rfl hl (ltb rfl) rfl (fun ls hl => ?_)
  refine lv_iload_n hx hb dX9_decided_5 rfl (lvA0 hl) ?_
  refine lv_iload_n hx hb dX9_decided_6 rfl (lvA2 hl) ?_
  refine lv_icmp_eq (tgt := 12) hx hb dX9_decided_7 rfl (fun c_3 => ?_) (fun c_3 => ?_)
  ·
    have tc_3 : (r_1.toInt : Int) = v0.toInt := congrArg Int32.toInt c_3
    refine lv_aload_n hx hb dX9_decided_12 rfl (lvA1 hl) ?_
    refine lv_iload_n hx hb dX9_decided_13 rfl (lvA0 hl) ?_
    have hFc := free_all hD hS hA
    refine va_callv (runV_xa (As := [.int r_1]) (rest := []) S (q_Xpush l D cI cB cZ zz qq vv bt g ad cn In Fn2 k0 r_1 H.size hIn2 (by (first | omega | (have zz0 := Hid.u hb_cn; omega)))) kV_RX9_63 hK hXS hS hFc hP hD _ (xf_7 hk) rfl rfl ⟨Nat.le_of_ble_eq_true rfl, Nat.le_of_ble_eq_true rfl⟩ ⟨Nat.le_of_ble_eq_true rfl, Nat.le_of_ble_eq_true rfl⟩ rfl hl.1 rfl (Nat.le_of_ble_eq_true rfl) dX9_decided_14) hS (fun q _ h => hFc q h) hFc (fun u t H1 locs ht hvm wh_5 hB1 hz1 hk1 hS => ?_)
    obtain ⟨cn5, In5, Fn5⟩ := u
    obtain ⟨hP1, hD1⟩ := hB1
    rw [ht] at hP1
    have hP : va_P D vwCl (wX cI (D.1 99) zz g ad cn5 In5 Fn5) H1 := hP1
    have hD : va_D A (wX cI (D.1 99) zz g ad cn5 In5 Fn5) := hD1.weaken (fun _ _ _ h => hFc _ h)
    generalize H1 = H at hP hS ⊢
    have vh_5 : (fun c2 I2 F2 => Fr [] [] [196, 305] cn In Fn2 c2 I2 F2 ∧ CBX c2 ∧ (True)) cn5 In5 Fn5 := wh_5
    obtain ⟨hfc5, hIn5, h_5⟩ := vh_5
    obtain rfl : cn = cn5 := (funext (fun k => hfc5.1 k List.not_mem_nil)).symm
    obtain rfl : In = In5 := (funext (fun k => hfc5.2.1 k List.not_mem_nil)).symm
    have hf5 : Fr [] [] [196, 305] cn In Fn cn In Fn5 := Fr.mo (Fr.tr hf2 hfc5) (sbl rfl) (sbl rfl) (sbl rfl)
    replace hIn5 : CBXh cn := hIn5
    refine lv_iconst (v := 1) hx hb dX9_decided_17 kic_1 ?_
    exact W.zret (v := 1) hx hb hr rfl (fun t ht hW => ⟨⟨1, (cn, In, Fn5), rfl, ⟨(Fr.mo hf5 (sbl rfl) (sbl rfl) (sbl rfl)), hIn5, (by show 1 = 0 ∨ 1 = 1; exact Or.inr rfl)⟩, by rw [ht]; exact hP, hD⟩, hS.F ht⟩) hS.2.2 dX9_decided_18
  ·
    have tc_3 : (r_1.toInt : Int) ≠ v0.toInt := fun q => c_3 (Int32.toInt_inj.mp q)
    refine lv_iconst (v := 0) hx hb dX9_decided_10 kic_0 ?_
    exact W.zret (v := 0) hx hb hr rfl (fun t ht hW => ⟨⟨0, (cn, In, Fn2), rfl, ⟨(Fr.mo hf2 (sbl rfl) (sbl rfl) (sbl rfl)), hIn2, (by show 0 = 0 ∨ 0 = 1; exact Or.inl rfl)⟩, by rw [ht]; exact hP, hD⟩, hS.F ht⟩) hS.2.2 dX9_decided_11
set_option maxRecDepth 100000 in
set_option maxHeartbeats 4000000 in
theorem q_Xdivide (l : Launch) (D : va_G) (cI cB cZ : ClassId) (zz qq vv : Nat) (bt : Nat → Int32) (g : Nat → Nat) (ad : Nat → Nat → Nat) (cn : Nat → Nat) (In : Nat → Int32) (Fn : Nat → Nat → Int32) (k0 : Nat) (v0 v1 v2 : Int32) (sz : Nat) (hB : CBX cn) (hk : k0 < cn 6) : Met l yX9_divide (CWS yX9_divide cX9_divide 4 (some .int)) (RM 0 0 0) (PBx [.ref (ad 5 k0), .int v0, .int v1, .int v2] D cI cB cZ zz qq vv bt (wX cI (D.1 99) zz g ad cn In Fn) sz) (va_Qi (fun (r : Int32) (u : (Nat → Nat) × (Nat → Int32) × (Nat → Nat → Int32)) => (fun r c2 I2 F2 => Fr [] [] [197] cn In Fn c2 I2 F2 ∧ CBX c2 ∧ (True)) r u.1 u.2.1 u.2.2) (fun (u : (Nat → Nat) × (Nat → Int32) × (Nat → Nat → Int32)) (t : State) => va_P D vwCl (wX cI (D.1 99) zz g ad u.1 u.2.1 u.2.2) t.heap ∧ va_D (va_A (wX cI (D.1 99) zz g ad cn In Fn) sz) (wX cI (D.1 99) zz g ad u.1 u.2.1 u.2.2)) (va_A (wX cI (D.1 99) zz g ad cn In Fn) sz)) 0 0 (va_A (wX cI (D.1 99) zz g ad cn In Fn) sz) := by
  refine en_x (fun A => (va_Qi (fun (r : Int32) (u : (Nat → Nat) × (Nat → Int32) × (Nat → Nat → Int32)) => (fun (r : Int32) (c2 : Nat → Nat) (I2 : Nat → Int32) (F2 : Nat → Nat → Int32) => Fr [] [] [197] cn In Fn c2 I2 F2 ∧ CBX c2 ∧ (True)) r u.1 u.2.1 u.2.2) (fun (u : (Nat → Nat) × (Nat → Int32) × (Nat → Nat → Int32)) (t : State) => va_P D vwCl (wX cI (D.1 99) zz g ad u.1 u.2.1 u.2.2) t.heap ∧ va_D A (wX cI (D.1 99) zz g ad u.1 u.2.1 u.2.2)) A)) rfl rfl pn_RX9 (Nat.le_of_ble_eq_true rfl) (fun p e s m below meth c A hx hb hml hown S hr hlocks hnm hA hP hK hD hXS hS ls hl => ?_)
  have hl : lv_has ls 4 [(0, .ref (ad 5 k0)), (1, .int v0), (2, .int v1), (3, .int v2)] := hl
  have hb_cn : Hid (CBX cn) := hB
  replace hB : CBXh cn := hB
  refine lv_iload_n hx hb dX9_divide_0 rfl (lvA3 hl) ?_
  refine lv_if_ne (tgt := 11) hx hb dX9_divide_1 rfl (fun c_1 => ?_) (fun c_1 => ?_)
  ·
    have tc_1 : (v2.toInt : Int) ≠ 0 := fun q => c_1 (Int32.toInt_inj.mp q)
    refine lv_iload_n hx hb dX9_divide_11 rfl (lvA1 hl) ?_
    refine lv_bipush (v := 6) hx hb dX9_divide_12 kbc_6 ?_
    refine lv_icmp_ne (tgt := 23) hx hb dX9_divide_14 rfl (fun c_2 => ?_) (fun c_2 => ?_)
    ·
      have tc_2 : (v0.toInt : Int) ≠ 6 := fun q => c_2 (Int32.toInt_inj.mp q)
      refine lv_iload_n hx hb dX9_divide_23 rfl (lvA2 hl) ?_
      refine lv_iload_n hx hb dX9_divide_24 rfl (lvA3 hl) ?_
      refine lv_irem hx hb dX9_divide_25 (by assumption) ?_
      exact W.iret (v := (v1 - v1 / v2 * v2)) hx hb hr (fun t ht hW => ⟨⟨(v1 - v1 / v2 * v2), (cn, In, Fn), rfl, ⟨(Fr.mo Fr.rf (sbl rfl) (sbl rfl) (sbl rfl)), hB, trivial⟩, by rw [ht]; exact hP, hD⟩, hS.F ht⟩) hS.2.2 dX9_divide_26
    ·
      have tc_2 : (v0.toInt : Int) = 6 := congrArg Int32.toInt c_2
      refine lv_iload_n hx hb dX9_divide_17 rfl (lvA2 hl) ?_
      refine lv_iload_n hx hb dX9_divide_18 rfl (lvA3 hl) ?_
      refine lv_idiv hx hb dX9_divide_19 (by assumption) ?_
      refine lv_goto (tgt := 26) hx hb dX9_divide_20 rfl ?_
      exact W.iret (v := (v1 / v2)) hx hb hr (fun t ht hW => ⟨⟨(v1 / v2), (cn, In, Fn), rfl, ⟨(Fr.mo Fr.rf (sbl rfl) (sbl rfl) (sbl rfl)), hB, trivial⟩, by rw [ht]; exact hP, hD⟩, hS.F ht⟩) hS.2.2 dX9_divide_26
  ·
    have tc_1 : (v2.toInt : Int) = 0 := congrArg Int32.toInt c_1
    refine lv_aload_n hx hb dX9_divide_4 rfl (lvA0 hl) ?_
    refine lv_iconst (v := 1) hx hb dX9_divide_5 kic_1 ?_
    refine pf_RX9_58 S hK hP hD hS _ (xf_7 hk) (v := .int 1) (Nat.le_of_ble_eq_true rfl) rfl rfl dX9_divide_6 (fun H locs hP hD hS => ?_)
    have hP : va_P D vwCl (wX cI (D.1 99) zz g ad cn In (va_up Fn 197 (upd (Fn 197) k0 1))) H := va_P_eq (xs_197 (by (first | omega | (have zz0 := Hid.u hb_cn; omega)))) hP
    have hD : va_D A (wX cI (D.1 99) zz g ad cn In (va_up Fn 197 (upd (Fn 197) k0 1))) := va_D_eq (xs_197 (by (first | omega | (have zz0 := Hid.u hb_cn; omega)))) hD
    refine lv_iconst (v := 0) hx hb dX9_divide_9 kic_0 ?_
    exact W.iret (v := 0) hx hb hr (fun t ht hW => ⟨⟨0, (cn, In, (va_up Fn 197 (upd (Fn 197) k0 1))), rfl, ⟨(Fr.mo (Fr.f 197 Fr.rf) (sbl rfl) (sbl rfl) (sbl rfl)), hB, trivial⟩, by rw [ht]; exact hP, hD⟩, hS.F ht⟩) hS.2.2 dX9_divide_10
set_option maxRecDepth 100000 in
set_option maxHeartbeats 4000000 in
theorem q_Xreckon (l : Launch) (D : va_G) (cI cB cZ : ClassId) (zz qq vv : Nat) (bt : Nat → Int32) (g : Nat → Nat) (ad : Nat → Nat → Nat) (cn : Nat → Nat) (In : Nat → Int32) (Fn : Nat → Nat → Int32) (k0 : Nat) (v0 v1 v2 : Int32) (sz : Nat) (hB : CBX cn) (hk : k0 < cn 6) : Met l yX9_reckon (CWS yX9_reckon cX9_reckon 4 (some .int)) (RM 1 0 0) (PBx [.ref (ad 5 k0), .int v0, .int v1, .int v2] D cI cB cZ zz qq vv bt (wX cI (D.1 99) zz g ad cn In Fn) sz) (va_Qi (fun (r : Int32) (u : (Nat → Nat) × (Nat → Int32) × (Nat → Nat → Int32)) => (fun r c2 I2 F2 => Fr [] [] [197] cn In Fn c2 I2 F2 ∧ CBX c2 ∧ (True)) r u.1 u.2.1 u.2.2) (fun (u : (Nat → Nat) × (Nat → Int32) × (Nat → Nat → Int32)) (t : State) => va_P D vwCl (wX cI (D.1 99) zz g ad u.1 u.2.1 u.2.2) t.heap ∧ va_D (va_A (wX cI (D.1 99) zz g ad cn In Fn) sz) (wX cI (D.1 99) zz g ad u.1 u.2.1 u.2.2)) (va_A (wX cI (D.1 99) zz g ad cn In Fn) sz)) 0 0 (va_A (wX cI (D.1 99) zz g ad cn In Fn) sz) := by
  refine en_x (fun A => (va_Qi (fun (r : Int32) (u : (Nat → Nat) × (Nat → Int32) × (Nat → Nat → Int32)) => (fun (r : Int32) (c2 : Nat → Nat) (I2 : Nat → Int32) (F2 : Nat → Nat → Int32) => Fr [] [] [197] cn In Fn c2 I2 F2 ∧ CBX c2 ∧ (True)) r u.1 u.2.1 u.2.2) (fun (u : (Nat → Nat) × (Nat → Int32) × (Nat → Nat → Int32)) (t : State) => va_P D vwCl (wX cI (D.1 99) zz g ad u.1 u.2.1 u.2.2) t.heap ∧ va_D A (wX cI (D.1 99) zz g ad u.1 u.2.1 u.2.2)) A)) rfl rfl pn_RX9 (Nat.le_of_ble_eq_true rfl) (fun p e s m below meth c A hx hb hml hown S hr hlocks hnm hA hP hK hD hXS hS ls hl => ?_)
  have hl : lv_has ls 4 [(0, .ref (ad 5 k0)), (1, .int v0), (2, .int v1), (3, .int v2)] := hl
  have hb_cn : Hid (CBX cn) := hB
  replace hB : CBXh cn := hB
  refine lv_iload_n hx hb dX9_reckon_0 rfl (lvA1 hl) ?_
  rcases (by (first | omega | (have zz0 := Hid.u hb_cn; omega)) : v0.toInt < 3 ∨ 10 < v0.toInt ∨ v0.toInt = 3 ∨ v0.toInt = 4 ∨ v0.toInt = 5 ∨ v0.toInt = 6 ∨ v0.toInt = 7 ∨ v0.toInt = 8 ∨ v0.toInt = 9 ∨ v0.toInt = 10) with c_1 | c_1 | c_1 | c_1 | c_1 | c_1 | c_1 | c_1 | c_1 | c_1
  ·
    refine lv_tableOut (tgt := 93) hx hb dX9_reckon_1 (Or.inl c_1) (by decide) ?_
    refine lv_aload_n hx hb dX9_reckon_93 rfl (lvA0 hl) ?_
    refine lv_iload_n hx hb dX9_reckon_94 rfl (lvA1 hl) ?_
    refine lv_iload_n hx hb dX9_reckon_95 rfl (lvA2 hl) ?_
    refine lv_iload_n hx hb dX9_reckon_96 rfl (lvA3 hl) ?_
    have hFc := free_all hD hS hA
    refine va_calli (runV_xa (As := [.int v0, .int v1, .int v2]) (rest := []) S (q_Xdivide l D cI cB cZ zz qq vv bt g ad cn In Fn k0 v0 v1 v2 s.heap.size hB (by (first | omega | (have zz0 := Hid.u hb_cn; omega)))) kV_RX9_79 hK hXS hS hFc hP hD _ (xf_7 hk) rfl rfl ⟨Nat.le_of_ble_eq_true rfl, Nat.le_of_ble_eq_true rfl⟩ ⟨Nat.le_of_ble_eq_true rfl, Nat.le_of_ble_eq_true rfl⟩ rfl hl.1 rfl (Nat.le_of_ble_eq_true rfl) dX9_reckon_97) hS (fun q _ h => hFc q h) hFc (fun r_2 u t H1 locs ht hvm wh_3 hB1 hz1 hk1 hS => ?_)
    obtain ⟨cn3, In3, Fn3⟩ := u
    obtain ⟨hP1, hD1⟩ := hB1
    rw [ht] at hP1
    have hP : va_P D vwCl (wX cI (D.1 99) zz g ad cn3 In3 Fn3) H1 := hP1
    have hD : va_D A (wX cI (D.1 99) zz g ad cn3 In3 Fn3) := hD1.weaken (fun _ _ _ h => hFc _ h)
    generalize H1 = H at hP hS ⊢
    have vh_3 : (fun r c2 I2 F2 => Fr [] [] [197] cn In Fn c2 I2 F2 ∧ CBX c2 ∧ (True)) r_2 cn3 In3 Fn3 := wh_3
    obtain ⟨hfc3, hIn3, h_3⟩ := vh_3
    obtain rfl : cn = cn3 := (funext (fun k => hfc3.1 k List.not_mem_nil)).symm
    obtain rfl : In = In3 := (funext (fun k => hfc3.2.1 k List.not_mem_nil)).symm
    have hf3 : Fr [] [] [197] cn In Fn cn In Fn3 := Fr.mo (Fr.tr (Fr.rf (cn := cn) (In := In) (Fn := Fn)) hfc3) (sbl rfl) (sbl rfl) (sbl rfl)
    replace hIn3 : CBXh cn := hIn3
    exact W.iret (v := r_2) hx hb hr (fun t ht hW => ⟨⟨r_2, (cn, In, Fn3), rfl, ⟨(Fr.mo hf3 (sbl rfl) (sbl rfl) (sbl rfl)), hIn3, trivial⟩, by rw [ht]; exact hP, hD⟩, hS.F ht⟩) hS.2.2 dX9_reckon_100
  ·
    refine lv_tableOut (tgt := 93) hx hb dX9_reckon_1 (Or.inr c_1) (by decide) ?_
    refine lv_aload_n hx hb dX9_reckon_93 rfl (lvA0 hl) ?_
    refine lv_iload_n hx hb dX9_reckon_94 rfl (lvA1 hl) ?_
    refine lv_iload_n hx hb dX9_reckon_95 rfl (lvA2 hl) ?_
    refine lv_iload_n hx hb dX9_reckon_96 rfl (lvA3 hl) ?_
    have hFc := free_all hD hS hA
    refine va_calli (runV_xa (As := [.int v0, .int v1, .int v2]) (rest := []) S (q_Xdivide l D cI cB cZ zz qq vv bt g ad cn In Fn k0 v0 v1 v2 s.heap.size hB (by (first | omega | (have zz0 := Hid.u hb_cn; omega)))) kV_RX9_79 hK hXS hS hFc hP hD _ (xf_7 hk) rfl rfl ⟨Nat.le_of_ble_eq_true rfl, Nat.le_of_ble_eq_true rfl⟩ ⟨Nat.le_of_ble_eq_true rfl, Nat.le_of_ble_eq_true rfl⟩ rfl hl.1 rfl (Nat.le_of_ble_eq_true rfl) dX9_reckon_97) hS (fun q _ h => hFc q h) hFc (fun r_4 u t H1 locs ht hvm wh_5 hB1 hz1 hk1 hS => ?_)
    obtain ⟨cn5, In5, Fn5⟩ := u
    obtain ⟨hP1, hD1⟩ := hB1
    rw [ht] at hP1
    have hP : va_P D vwCl (wX cI (D.1 99) zz g ad cn5 In5 Fn5) H1 := hP1
    have hD : va_D A (wX cI (D.1 99) zz g ad cn5 In5 Fn5) := hD1.weaken (fun _ _ _ h => hFc _ h)
    generalize H1 = H at hP hS ⊢
    have vh_5 : (fun r c2 I2 F2 => Fr [] [] [197] cn In Fn c2 I2 F2 ∧ CBX c2 ∧ (True)) r_4 cn5 In5 Fn5 := wh_5
    obtain ⟨hfc5, hIn5, h_5⟩ := vh_5
    obtain rfl : cn = cn5 := (funext (fun k => hfc5.1 k List.not_mem_nil)).symm
    obtain rfl : In = In5 := (funext (fun k => hfc5.2.1 k List.not_mem_nil)).symm
    have hf5 : Fr [] [] [197] cn In Fn cn In Fn5 := Fr.mo (Fr.tr (Fr.rf (cn := cn) (In := In) (Fn := Fn)) hfc5) (sbl rfl) (sbl rfl) (sbl rfl)
    replace hIn5 : CBXh cn := hIn5
    exact W.iret (v := r_4) hx hb hr (fun t ht hW => ⟨⟨r_4, (cn, In, Fn5), rfl, ⟨(Fr.mo hf5 (sbl rfl) (sbl rfl) (sbl rfl)), hIn5, trivial⟩, by rw [ht]; exact hP, hD⟩, hS.F ht⟩) hS.2.2 dX9_reckon_100
  ·
    refine lv_tableIn (tgt := 48) (off := 47) hx hb dX9_reckon_1 (by (first | omega | (have zz0 := Hid.u hb_cn; omega))) (by (first | omega | (have zz0 := Hid.u hb_cn; omega))) (by rw [c_1]; rfl) (by decide) ?_
    refine lv_iload_n hx hb dX9_reckon_48 rfl (lvA2 hl) ?_
    refine lv_iload_n hx hb dX9_reckon_49 rfl (lvA3 hl) ?_
    refine lv_iadd hx hb dX9_reckon_50 ?_
    exact W.iret (v := (v1 + v2)) hx hb hr (fun t ht hW => ⟨⟨(v1 + v2), (cn, In, Fn), rfl, ⟨(Fr.mo Fr.rf (sbl rfl) (sbl rfl) (sbl rfl)), hB, trivial⟩, by rw [ht]; exact hP, hD⟩, hS.F ht⟩) hS.2.2 dX9_reckon_51
  ·
    refine lv_tableIn (tgt := 52) (off := 51) hx hb dX9_reckon_1 (by (first | omega | (have zz0 := Hid.u hb_cn; omega))) (by (first | omega | (have zz0 := Hid.u hb_cn; omega))) (by rw [c_1]; rfl) (by decide) ?_
    refine lv_iload_n hx hb dX9_reckon_52 rfl (lvA2 hl) ?_
    refine lv_iload_n hx hb dX9_reckon_53 rfl (lvA3 hl) ?_
    refine lv_isub hx hb dX9_reckon_54 ?_
    exact W.iret (v := (v1 - v2)) hx hb hr (fun t ht hW => ⟨⟨(v1 - v2), (cn, In, Fn), rfl, ⟨(Fr.mo Fr.rf (sbl rfl) (sbl rfl) (sbl rfl)), hB, trivial⟩, by rw [ht]; exact hP, hD⟩, hS.F ht⟩) hS.2.2 dX9_reckon_55
  ·
    refine lv_tableIn (tgt := 56) (off := 55) hx hb dX9_reckon_1 (by (first | omega | (have zz0 := Hid.u hb_cn; omega))) (by (first | omega | (have zz0 := Hid.u hb_cn; omega))) (by rw [c_1]; rfl) (by decide) ?_
    refine lv_iload_n hx hb dX9_reckon_56 rfl (lvA2 hl) ?_
    refine lv_iload_n hx hb dX9_reckon_57 rfl (lvA3 hl) ?_
    refine lv_imul hx hb dX9_reckon_58 ?_
    exact W.iret (v := (v1 * v2)) hx hb hr (fun t ht hW => ⟨⟨(v1 * v2), (cn, In, Fn), rfl, ⟨(Fr.mo Fr.rf (sbl rfl) (sbl rfl) (sbl rfl)), hB, trivial⟩, by rw [ht]; exact hP, hD⟩, hS.F ht⟩) hS.2.2 dX9_reckon_59
  ·
    refine lv_tableIn (tgt := 93) (off := 92) hx hb dX9_reckon_1 (by (first | omega | (have zz0 := Hid.u hb_cn; omega))) (by (first | omega | (have zz0 := Hid.u hb_cn; omega))) (by rw [c_1]; rfl) (by decide) ?_
    refine lv_aload_n hx hb dX9_reckon_93 rfl (lvA0 hl) ?_
    refine lv_iload_n hx hb dX9_reckon_94 rfl (lvA1 hl) ?_
    refine lv_iload_n hx hb dX9_reckon_95 rfl (lvA2 hl) ?_
    refine lv_iload_n hx hb dX9_reckon_96 rfl (lvA3 hl) ?_
    have hFc := free_all hD hS hA
    refine va_calli (runV_xa (As := [.int v0, .int v1, .int v2]) (rest := []) S (q_Xdivide l D cI cB cZ zz qq vv bt g ad cn In Fn k0 v0 v1 v2 s.heap.size hB (by (first | omega | (have zz0 := Hid.u hb_cn; omega)))) kV_RX9_79 hK hXS hS hFc hP hD _ (xf_7 hk) rfl rfl ⟨Nat.le_of_ble_eq_true rfl, Nat.le_of_ble_eq_true rfl⟩ ⟨Nat.le_of_ble_eq_true rfl, Nat.le_of_ble_eq_true rfl⟩ rfl hl.1 rfl (Nat.le_of_ble_eq_true rfl) dX9_reckon_97) hS (fun q _ h => hFc q h) hFc (fun r_6 u t H1 locs ht hvm wh_7 hB1 hz1 hk1 hS => ?_)
    obtain ⟨cn7, In7, Fn7⟩ := u
    obtain ⟨hP1, hD1⟩ := hB1
    rw [ht] at hP1
    have hP : va_P D vwCl (wX cI (D.1 99) zz g ad cn7 In7 Fn7) H1 := hP1
    have hD : va_D A (wX cI (D.1 99) zz g ad cn7 In7 Fn7) := hD1.weaken (fun _ _ _ h => hFc _ h)
    generalize H1 = H at hP hS ⊢
    have vh_7 : (fun r c2 I2 F2 => Fr [] [] [197] cn In Fn c2 I2 F2 ∧ CBX c2 ∧ (True)) r_6 cn7 In7 Fn7 := wh_7
    obtain ⟨hfc7, hIn7, h_7⟩ := vh_7
    obtain rfl : cn = cn7 := (funext (fun k => hfc7.1 k List.not_mem_nil)).symm
    obtain rfl : In = In7 := (funext (fun k => hfc7.2.1 k List.not_mem_nil)).symm
    have hf7 : Fr [] [] [197] cn In Fn cn In Fn7 := Fr.mo (Fr.tr (Fr.rf (cn := cn) (In := In) (Fn := Fn)) hfc7) (sbl rfl) (sbl rfl) (sbl rfl)
    replace hIn7 : CBXh cn := hIn7
    exact W.iret (v := r_6) hx hb hr (fun t ht hW => ⟨⟨r_6, (cn, In, Fn7), rfl, ⟨(Fr.mo hf7 (sbl rfl) (sbl rfl) (sbl rfl)), hIn7, trivial⟩, by rw [ht]; exact hP, hD⟩, hS.F ht⟩) hS.2.2 dX9_reckon_100
  ·
    refine lv_tableIn (tgt := 93) (off := 92) hx hb dX9_reckon_1 (by (first | omega | (have zz0 := Hid.u hb_cn; omega))) (by (first | omega | (have zz0 := Hid.u hb_cn; omega))) (by rw [c_1]; rfl) (by decide) ?_
    refine lv_aload_n hx hb dX9_reckon_93 rfl (lvA0 hl) ?_
    refine lv_iload_n hx hb dX9_reckon_94 rfl (lvA1 hl) ?_
    refine lv_iload_n hx hb dX9_reckon_95 rfl (lvA2 hl) ?_
    refine lv_iload_n hx hb dX9_reckon_96 rfl (lvA3 hl) ?_
    have hFc := free_all hD hS hA
    refine va_calli (runV_xa (As := [.int v0, .int v1, .int v2]) (rest := []) S (q_Xdivide l D cI cB cZ zz qq vv bt g ad cn In Fn k0 v0 v1 v2 s.heap.size hB (by (first | omega | (have zz0 := Hid.u hb_cn; omega)))) kV_RX9_79 hK hXS hS hFc hP hD _ (xf_7 hk) rfl rfl ⟨Nat.le_of_ble_eq_true rfl, Nat.le_of_ble_eq_true rfl⟩ ⟨Nat.le_of_ble_eq_true rfl, Nat.le_of_ble_eq_true rfl⟩ rfl hl.1 rfl (Nat.le_of_ble_eq_true rfl) dX9_reckon_97) hS (fun q _ h => hFc q h) hFc (fun r_8 u t H1 locs ht hvm wh_9 hB1 hz1 hk1 hS => ?_)
    obtain ⟨cn9, In9, Fn9⟩ := u
    obtain ⟨hP1, hD1⟩ := hB1
    rw [ht] at hP1
    have hP : va_P D vwCl (wX cI (D.1 99) zz g ad cn9 In9 Fn9) H1 := hP1
    have hD : va_D A (wX cI (D.1 99) zz g ad cn9 In9 Fn9) := hD1.weaken (fun _ _ _ h => hFc _ h)
    generalize H1 = H at hP hS ⊢
    have vh_9 : (fun r c2 I2 F2 => Fr [] [] [197] cn In Fn c2 I2 F2 ∧ CBX c2 ∧ (True)) r_8 cn9 In9 Fn9 := wh_9
    obtain ⟨hfc9, hIn9, h_9⟩ := vh_9
    obtain rfl : cn = cn9 := (funext (fun k => hfc9.1 k List.not_mem_nil)).symm
    obtain rfl : In = In9 := (funext (fun k => hfc9.2.1 k List.not_mem_nil)).symm
    have hf9 : Fr [] [] [197] cn In Fn cn In Fn9 := Fr.mo (Fr.tr (Fr.rf (cn := cn) (In := In) (Fn := Fn)) hfc9) (sbl rfl) (sbl rfl) (sbl rfl)
    replace hIn9 : CBXh cn := hIn9
    exact W.iret (v := r_8) hx hb hr (fun t ht hW => ⟨⟨r_8, (cn, In, Fn9), rfl, ⟨(Fr.mo hf9 (sbl rfl) (sbl rfl) (sbl rfl)), hIn9, trivial⟩, by rw [ht]; exact hP, hD⟩, hS.F ht⟩) hS.2.2 dX9_reckon_100
  ·
    refine lv_tableIn (tgt := 60) (off := 59) hx hb dX9_reckon_1 (by (first | omega | (have zz0 := Hid.u hb_cn; omega))) (by (first | omega | (have zz0 := Hid.u hb_cn; omega))) (by rw [c_1]; rfl) (by decide) ?_
    refine lv_iload_n hx hb dX9_reckon_60 rfl (lvA2 hl) ?_
    refine lv_iload_n hx hb dX9_reckon_61 rfl (lvA3 hl) ?_
    refine lv_icmp_ge (tgt := 69) hx hb dX9_reckon_62 rfl (fun c_10 => ?_) (fun c_10 => ?_)
    ·
      have tc_10 : (v2.toInt : Int) ≤ v1.toInt := Int32.le_iff_toInt_le.mp c_10
      refine lv_iconst (v := 0) hx hb dX9_reckon_69 kic_0 ?_
      exact W.iret (v := 0) hx hb hr (fun t ht hW => ⟨⟨0, (cn, In, Fn), rfl, ⟨(Fr.mo Fr.rf (sbl rfl) (sbl rfl) (sbl rfl)), hB, trivial⟩, by rw [ht]; exact hP, hD⟩, hS.F ht⟩) hS.2.2 dX9_reckon_70
    ·
      have tc_10 : (v1.toInt : Int) < v2.toInt := Int32.lt_iff_toInt_lt.mp (Int32.not_le.mp c_10)
      refine lv_iconst (v := 1) hx hb dX9_reckon_65 kic_1 ?_
      refine lv_goto (tgt := 70) hx hb dX9_reckon_66 rfl ?_
      exact W.iret (v := 1) hx hb hr (fun t ht hW => ⟨⟨1, (cn, In, Fn), rfl, ⟨(Fr.mo Fr.rf (sbl rfl) (sbl rfl) (sbl rfl)), hB, trivial⟩, by rw [ht]; exact hP, hD⟩, hS.F ht⟩) hS.2.2 dX9_reckon_70
  ·
    refine lv_tableIn (tgt := 71) (off := 70) hx hb dX9_reckon_1 (by (first | omega | (have zz0 := Hid.u hb_cn; omega))) (by (first | omega | (have zz0 := Hid.u hb_cn; omega))) (by rw [c_1]; rfl) (by decide) ?_
    refine lv_iload_n hx hb dX9_reckon_71 rfl (lvA2 hl) ?_
    refine lv_iload_n hx hb dX9_reckon_72 rfl (lvA3 hl) ?_
    refine lv_icmp_le (tgt := 80) hx hb dX9_reckon_73 rfl (fun c_11 => ?_) (fun c_11 => ?_)
    ·
      have tc_11 : (v1.toInt : Int) ≤ v2.toInt := Int32.le_iff_toInt_le.mp c_11
      refine lv_iconst (v := 0) hx hb dX9_reckon_80 kic_0 ?_
      exact W.iret (v := 0) hx hb hr (fun t ht hW => ⟨⟨0, (cn, In, Fn), rfl, ⟨(Fr.mo Fr.rf (sbl rfl) (sbl rfl) (sbl rfl)), hB, trivial⟩, by rw [ht]; exact hP, hD⟩, hS.F ht⟩) hS.2.2 dX9_reckon_81
    ·
      have tc_11 : (v2.toInt : Int) < v1.toInt := Int32.lt_iff_toInt_lt.mp (Int32.not_le.mp c_11)
      refine lv_iconst (v := 1) hx hb dX9_reckon_76 kic_1 ?_
      refine lv_goto (tgt := 81) hx hb dX9_reckon_77 rfl ?_
      exact W.iret (v := 1) hx hb hr (fun t ht hW => ⟨⟨1, (cn, In, Fn), rfl, ⟨(Fr.mo Fr.rf (sbl rfl) (sbl rfl) (sbl rfl)), hB, trivial⟩, by rw [ht]; exact hP, hD⟩, hS.F ht⟩) hS.2.2 dX9_reckon_81
  ·
    refine lv_tableIn (tgt := 82) (off := 81) hx hb dX9_reckon_1 (by (first | omega | (have zz0 := Hid.u hb_cn; omega))) (by (first | omega | (have zz0 := Hid.u hb_cn; omega))) (by rw [c_1]; rfl) (by decide) ?_
    refine lv_iload_n hx hb dX9_reckon_82 rfl (lvA2 hl) ?_
    refine lv_iload_n hx hb dX9_reckon_83 rfl (lvA3 hl) ?_
    refine lv_icmp_ne (tgt := 91) hx hb dX9_reckon_84 rfl (fun c_12 => ?_) (fun c_12 => ?_)
    ·
      have tc_12 : (v1.toInt : Int) ≠ v2.toInt := fun q => c_12 (Int32.toInt_inj.mp q)
      refine lv_iconst (v := 0) hx hb dX9_reckon_91 kic_0 ?_
      exact W.iret (v := 0) hx hb hr (fun t ht hW => ⟨⟨0, (cn, In, Fn), rfl, ⟨(Fr.mo Fr.rf (sbl rfl) (sbl rfl) (sbl rfl)), hB, trivial⟩, by rw [ht]; exact hP, hD⟩, hS.F ht⟩) hS.2.2 dX9_reckon_92
    ·
      have tc_12 : (v1.toInt : Int) = v2.toInt := congrArg Int32.toInt c_12
      refine lv_iconst (v := 1) hx hb dX9_reckon_87 kic_1 ?_
      refine lv_goto (tgt := 92) hx hb dX9_reckon_88 rfl ?_
      exact W.iret (v := 1) hx hb hr (fun t ht hW => ⟨⟨1, (cn, In, Fn), rfl, ⟨(Fr.mo Fr.rf (sbl rfl) (sbl rfl) (sbl rfl)), hB, trivial⟩, by rw [ht]; exact hP, hD⟩, hS.F ht⟩) hS.2.2 dX9_reckon_92
set_option maxRecDepth 100000 in
set_option maxHeartbeats 4000000 in
theorem q_Xrun (l : Launch) (D : va_G) (cI cB cZ : ClassId) (zz qq vv : Nat) (bt : Nat → Int32) (g : Nat → Nat) (ad : Nat → Nat → Nat) (cn : Nat → Nat) (In : Nat → Int32) (Fn : Nat → Nat → Int32) (k0 : Nat) (v0 v1 : Int32) (sz : Nat) (hB : CBX cn) (hk : k0 < cn 6) : Met l yX9_run (CWS yX9_run cX9_run 9 (some .int)) (RM 2 0 0) (PBx [.ref (ad 5 k0), .int v0, .int v1, .ref (g 7)] D cI cB cZ zz qq vv bt (wX cI (D.1 99) zz g ad cn In Fn) sz) (va_Qi (fun (r : Int32) (u : (Nat → Nat) × (Nat → Int32) × (Nat → Nat → Int32)) => (fun r c2 I2 F2 => Fr [] [] [196, 197, 305] cn In Fn c2 I2 F2 ∧ CBX c2 ∧ (True)) r u.1 u.2.1 u.2.2) (fun (u : (Nat → Nat) × (Nat → Int32) × (Nat → Nat → Int32)) (t : State) => va_P D vwCl (wX cI (D.1 99) zz g ad u.1 u.2.1 u.2.2) t.heap ∧ va_D (va_A (wX cI (D.1 99) zz g ad cn In Fn) sz) (wX cI (D.1 99) zz g ad u.1 u.2.1 u.2.2)) (va_A (wX cI (D.1 99) zz g ad cn In Fn) sz)) 0 0 (va_A (wX cI (D.1 99) zz g ad cn In Fn) sz) := by
  refine en_x (fun A => (va_Qi (fun (r : Int32) (u : (Nat → Nat) × (Nat → Int32) × (Nat → Nat → Int32)) => (fun (r : Int32) (c2 : Nat → Nat) (I2 : Nat → Int32) (F2 : Nat → Nat → Int32) => Fr [] [] [196, 197, 305] cn In Fn c2 I2 F2 ∧ CBX c2 ∧ (True)) r u.1 u.2.1 u.2.2) (fun (u : (Nat → Nat) × (Nat → Int32) × (Nat → Nat → Int32)) (t : State) => va_P D vwCl (wX cI (D.1 99) zz g ad u.1 u.2.1 u.2.2) t.heap ∧ va_D A (wX cI (D.1 99) zz g ad u.1 u.2.1 u.2.2)) A)) rfl rfl pn_RX9 (Nat.le_of_ble_eq_true rfl) (fun p e s m below meth c A hx hb hml hown S hr hlocks hnm hA hP hK hD hXS hS ls hl => ?_)
  have hl : lv_has ls 9 [(0, .ref (ad 5 k0)), (1, .int v0), (2, .int v1), (3, .ref (g 7))] := hl
  have hb_cn : Hid (CBX cn) := hB
  replace hB : CBXh cn := hB
  refine lv_aload_n hx hb dX9_run_0 rfl (lvA0 hl) ?_
  refine lv_iconst (v := 0) hx hb dX9_run_1 kic_0 ?_
  refine pf_RX9_55 S hK hP hD hS _ (xf_7 hk) (v := .int 0) (Nat.le_of_ble_eq_true rfl) rfl rfl dX9_run_2 (fun H locs hP hD hS => ?_)
  have hP : va_P D vwCl (wX cI (D.1 99) zz g ad cn In (va_up Fn 196 (upd (Fn 196) k0 0))) H := va_P_eq (xs_196 (by (first | omega | (have zz0 := Hid.u hb_cn; omega)))) hP
  have hD : va_D A (wX cI (D.1 99) zz g ad cn In (va_up Fn 196 (upd (Fn 196) k0 0))) := va_D_eq (xs_196 (by (first | omega | (have zz0 := Hid.u hb_cn; omega)))) hD
  refine lv_aload_n hx hb dX9_run_5 rfl (lvA0 hl) ?_
  refine lv_iconst (v := 0) hx hb dX9_run_6 kic_0 ?_
  refine pf_RX9_58 S hK hP hD hS _ (xf_7 hk) (v := .int 0) (Nat.le_of_ble_eq_true rfl) rfl rfl dX9_run_7 (fun H locs hP hD hS => ?_)
  have hP : va_P D vwCl (wX cI (D.1 99) zz g ad cn In (va_up (va_up Fn 196 (upd (Fn 196) k0 0)) 197 (upd (Fn 197) k0 0))) H := va_P_eq (xs_197 (by (first | omega | (have zz0 := Hid.u hb_cn; omega)))) hP
  have hD : va_D A (wX cI (D.1 99) zz g ad cn In (va_up (va_up Fn 196 (upd (Fn 196) k0 0)) 197 (upd (Fn 197) k0 0))) := va_D_eq (xs_197 (by (first | omega | (have zz0 := Hid.u hb_cn; omega)))) hD
  refine lv_iload_n hx hb dX9_run_10 rfl (lvA1 hl) ?_
  refine lv_istore (lv' := [(4, .int v0), (0, .ref (ad 5 k0)), (1, .int v0), (2, .int v1), (3, .ref (g 7))]) hx hb dX9_run_11 hl (ltb rfl) rfl (fun ls hl => ?_)
  refine lv_iload_n hx hb dX9_run_13 rfl (lvA2 hl) ?_
  refine lv_istore (lv' := [(5, .int v0), (4, .int v0), (0, .ref (ad 5 k0)), (1, .int v0), (2, .int v1), (3, .ref (g 7))]) hx hb dX9_run_14 hl (ltb rfl) rfl (fun ls hl => ?_)
  have lp_16 : ∀ (n : Nat) (x16_4 : Int32) (x16_5 : Int32) (F16 : Nat → Nat → Int32) (H : Heap) (locs : List Loc) , (v1.toInt - x16_5.toInt).toNat < n → (Fr [] [] [196, 197, 305] cn In Fn cn In F16 ∧ CBX cn) → va_P D vwCl (wX cI (D.1 99) zz g ad cn In F16) H → va_D A (wX cI (D.1 99) zz g ad cn In F16) → va_S A s.heap H locs → ∀ ls : Array Slot, lv_has ls 9 [(5, .int x16_5), (4, .int x16_4), (0, .ref (ad 5 k0)), (1, .int v0), (2, .int v1), (3, .ref (g 7))] → W p l e (RM 2 0 0) s m ([.ref (ad 5 k0), .int v0, .int v1, .ref (g 7)]).toArray below meth c H locs 0 0 (MQ below (va_Qi (fun (r : Int32) (u : (Nat → Nat) × (Nat → Int32) × (Nat → Nat → Int32)) => (fun r c2 I2 F2 => Fr [] [] [196, 197, 305] cn In Fn c2 I2 F2 ∧ CBX c2 ∧ (True)) r u.1 u.2.1 u.2.2) (fun (u : (Nat → Nat) × (Nat → Int32) × (Nat → Nat → Int32)) (t : State) => va_P D vwCl (wX cI (D.1 99) zz g ad u.1 u.2.1 u.2.2) t.heap ∧ va_D A (wX cI (D.1 99) zz g ad u.1 u.2.1 u.2.2)) A) ([.ref (ad 5 k0), .int v0, .int v1, .ref (g 7)]).toArray s 0 0 A) (F0 m 16 ls []) := by
    intro n16
    induction n16 with
    | zero => intros; (first | omega | (have zz0 := Hid.u hb_cn; omega))
    | succ n16 ih16 =>
      intro x16_4 x16_5 F16 H locs hmu16 hinv16 hP hD hS ls hl
      obtain ⟨hfr16, hI16⟩ := hinv16
      replace hI16 : CBXh cn := hI16
      refine lv_iload hx hb dX9_run_16 (lvA0 hl) ?_
      refine lv_iload_n hx hb dX9_run_18 rfl (lvA4 hl) ?_
      refine lv_icmp_ge (tgt := 234) hx hb dX9_run_19 rfl (fun c_1 => ?_) (fun c_1 => ?_)
      ·
        have tc_1 : (v1.toInt : Int) ≤ x16_5.toInt := Int32.le_iff_toInt_le.mp c_1
        refine lv_aload_n hx hb dX9_run_234 rfl (lvA2 hl) ?_
        have hFc := free_all hD hS hA
        refine va_calli (runV_xa (As := []) (rest := []) S (q_Xpop l D cI cB cZ zz qq vv bt g ad cn In F16 k0 H.size hI16 (by (first | omega | (have zz0 := Hid.u hb_cn; omega)))) kV_RX9_67 hK hXS hS hFc hP hD _ (xf_7 hk) rfl rfl ⟨Nat.le_of_ble_eq_true rfl, Nat.le_of_ble_eq_true rfl⟩ ⟨Nat.le_of_ble_eq_true rfl, Nat.le_of_ble_eq_true rfl⟩ rfl hl.1 rfl (Nat.le_of_ble_eq_true rfl) dX9_run_235) hS (fun q _ h => hFc q h) hFc (fun r_2 u t H1 locs ht hvm wh_3 hB1 hz1 hk1 hS => ?_)
        obtain ⟨cn3, In3, Fn3⟩ := u
        obtain ⟨hP1, hD1⟩ := hB1
        rw [ht] at hP1
        have hP : va_P D vwCl (wX cI (D.1 99) zz g ad cn3 In3 Fn3) H1 := hP1
        have hD : va_D A (wX cI (D.1 99) zz g ad cn3 In3 Fn3) := hD1.weaken (fun _ _ _ h => hFc _ h)
        generalize H1 = H at hP hS ⊢
        have vh_3 : (fun r c2 I2 F2 => Fr [] [] [196] cn In F16 c2 I2 F2 ∧ CBX c2 ∧ (True)) r_2 cn3 In3 Fn3 := wh_3
        obtain ⟨hfc3, hIn3, h_3⟩ := vh_3
        obtain rfl : cn = cn3 := (funext (fun k => hfc3.1 k List.not_mem_nil)).symm
        obtain rfl : In = In3 := (funext (fun k => hfc3.2.1 k List.not_mem_nil)).symm
        have hf3 : Fr [] [] [196, 197, 305] cn In Fn cn In Fn3 := Fr.mo (Fr.tr hfr16 hfc3) (sbl rfl) (sbl rfl) (sbl rfl)
        replace hIn3 : CBXh cn := hIn3
        refine lv_istore (lv' := [(5, .int r_2), (4, .int x16_4), (0, .ref (ad 5 k0)), (1, .int v0), (2, .int v1), (3, .ref (g 7))]) hx hb dX9_run_238 hl (ltb rfl) rfl (fun ls hl => ?_)
        refine lv_aload_n hx hb dX9_run_240 rfl (lvA2 hl) ?_
        refine gf_RX9_58 S hK hP _ (xf_7 hk) (v := .int ((Fn3 197) k0)) rfl dX9_run_241 ?_
        refine lv_if_eq (tgt := 251) hx hb dX9_run_244 rfl (fun c_4 => ?_) (fun c_4 => ?_)
        ·
          have tc_4 : (((Fn3 197) k0).toInt : Int) = 0 := congrArg Int32.toInt c_4
          refine lv_iload hx hb dX9_run_251 (lvA0 hl) ?_
          exact W.iret (v := r_2) hx hb hr (fun t ht hW => ⟨⟨r_2, (cn, In, Fn3), rfl, ⟨(Fr.mo hf3 (sbl rfl) (sbl rfl) (sbl rfl)), hIn3, trivial⟩, by rw [ht]; exact hP, hD⟩, hS.F ht⟩) hS.2.2 dX9_run_253
        ·
          have tc_4 : (((Fn3 197) k0).toInt : Int) ≠ 0 := fun q => c_4 (Int32.toInt_inj.mp q)
          refine lv_iconst (v := 0) hx hb dX9_run_247 kic_0 ?_
          refine lv_goto (tgt := 253) hx hb dX9_run_248 rfl ?_
          exact W.iret (v := 0) hx hb hr (fun t ht hW => ⟨⟨0, (cn, In, Fn3), rfl, ⟨(Fr.mo hf3 (sbl rfl) (sbl rfl) (sbl rfl)), hIn3, trivial⟩, by rw [ht]; exact hP, hD⟩, hS.F ht⟩) hS.2.2 dX9_run_253
      ·
        have tc_1 : (x16_5.toInt : Int) < v1.toInt := Int32.lt_iff_toInt_lt.mp (Int32.not_le.mp c_1)
        refine lv_aload_n hx hb dX9_run_22 rfl (lvA2 hl) ?_
        refine gf_RX9_58 S hK hP _ (xf_7 hk) (v := .int ((F16 197) k0)) rfl dX9_run_23 ?_
        refine lv_if_ne (tgt := 234) hx hb dX9_run_26 rfl (fun c_5 => ?_) (fun c_5 => ?_)
        ·
          have tc_5 : (((F16 197) k0).toInt : Int) ≠ 0 := fun q => c_5 (Int32.toInt_inj.mp q)
          refine lv_aload_n hx hb dX9_run_234 rfl (lvA2 hl) ?_
          have hFc := free_all hD hS hA
          refine va_calli (runV_xa (As := []) (rest := []) S (q_Xpop l D cI cB cZ zz qq vv bt g ad cn In F16 k0 H.size hI16 (by (first | omega | (have zz0 := Hid.u hb_cn; omega)))) kV_RX9_67 hK hXS hS hFc hP hD _ (xf_7 hk) rfl rfl ⟨Nat.le_of_ble_eq_true rfl, Nat.le_of_ble_eq_true rfl⟩ ⟨Nat.le_of_ble_eq_true rfl, Nat.le_of_ble_eq_true rfl⟩ rfl hl.1 rfl (Nat.le_of_ble_eq_true rfl) dX9_run_235) hS (fun q _ h => hFc q h) hFc (fun r_6 u t H1 locs ht hvm wh_7 hB1 hz1 hk1 hS => ?_)
          obtain ⟨cn7, In7, Fn7⟩ := u
          obtain ⟨hP1, hD1⟩ := hB1
          rw [ht] at hP1
          have hP : va_P D vwCl (wX cI (D.1 99) zz g ad cn7 In7 Fn7) H1 := hP1
          have hD : va_D A (wX cI (D.1 99) zz g ad cn7 In7 Fn7) := hD1.weaken (fun _ _ _ h => hFc _ h)
          generalize H1 = H at hP hS ⊢
          have vh_7 : (fun r c2 I2 F2 => Fr [] [] [196] cn In F16 c2 I2 F2 ∧ CBX c2 ∧ (True)) r_6 cn7 In7 Fn7 := wh_7
          obtain ⟨hfc7, hIn7, h_7⟩ := vh_7
          obtain rfl : cn = cn7 := (funext (fun k => hfc7.1 k List.not_mem_nil)).symm
          obtain rfl : In = In7 := (funext (fun k => hfc7.2.1 k List.not_mem_nil)).symm
          have hf7 : Fr [] [] [196, 197, 305] cn In Fn cn In Fn7 := Fr.mo (Fr.tr hfr16 hfc7) (sbl rfl) (sbl rfl) (sbl rfl)
          replace hIn7 : CBXh cn := hIn7
          refine lv_istore (lv' := [(5, .int r_6), (4, .int x16_4), (0, .ref (ad 5 k0)), (1, .int v0), (2, .int v1), (3, .ref (g 7))]) hx hb dX9_run_238 hl (ltb rfl) rfl (fun ls hl => ?_)
          refine lv_aload_n hx hb dX9_run_240 rfl (lvA2 hl) ?_
          refine gf_RX9_58 S hK hP _ (xf_7 hk) (v := .int ((Fn7 197) k0)) rfl dX9_run_241 ?_
          refine lv_if_eq (tgt := 251) hx hb dX9_run_244 rfl (fun c_8 => ?_) (fun c_8 => ?_)
          ·
            have tc_8 : (((Fn7 197) k0).toInt : Int) = 0 := congrArg Int32.toInt c_8
            refine lv_iload hx hb dX9_run_251 (lvA0 hl) ?_
            exact W.iret (v := r_6) hx hb hr (fun t ht hW => ⟨⟨r_6, (cn, In, Fn7), rfl, ⟨(Fr.mo hf7 (sbl rfl) (sbl rfl) (sbl rfl)), hIn7, trivial⟩, by rw [ht]; exact hP, hD⟩, hS.F ht⟩) hS.2.2 dX9_run_253
          ·
            have tc_8 : (((Fn7 197) k0).toInt : Int) ≠ 0 := fun q => c_8 (Int32.toInt_inj.mp q)
            refine lv_iconst (v := 0) hx hb dX9_run_247 kic_0 ?_
            refine lv_goto (tgt := 253) hx hb dX9_run_248 rfl ?_
            exact W.iret (v := 0) hx hb hr (fun t ht hW => ⟨⟨0, (cn, In, Fn7), rfl, ⟨(Fr.mo hf7 (sbl rfl) (sbl rfl) (sbl rfl)), hIn7, trivial⟩, by rw [ht]; exact hP, hD⟩, hS.F ht⟩) hS.2.2 dX9_run_253
        ·
          have tc_5 : (((F16 197) k0).toInt : Int) = 0 := congrArg Int32.toInt c_5
          refine lv_iload hx hb dX9_run_29 (lvA0 hl) ?_
          refine lv_iload hx hb dX9_run_31 (lvA1 hl) ?_
          refine lv_icmp_ge (tgt := 39) hx hb dX9_run_33 rfl (fun c_9 => ?_) (fun c_9 => ?_)
          ·
            have tc_9 : (x16_4.toInt : Int) ≤ x16_5.toInt := Int32.le_iff_toInt_le.mp c_9
            refine lv_aload_n hx hb dX9_run_39 rfl (lvA2 hl) ?_
            refine gf_RX9_17 S hK hP _ (xf_7 hk) (v := .ref (ad 60 k0)) rfl dX9_run_40 ?_
            refine lv_iload hx hb dX9_run_43 (lvA0 hl) ?_
            refine vp_callSi (runS_r (As := [.ref (ad 60 k0), .int x16_5]) (rest := []) S (q_l_at l D cI cB cZ (ad 60 k0) (((F16 199) k0).toInt.toNat) (gA (F16 301) 200 k0) x16_5 (i32n _)) kS_RX9_37 hK hP _ (one_is (xf_8 hk)) ⟨Nat.le_of_ble_eq_true rfl, Nat.le_of_ble_eq_true rfl⟩ ⟨Nat.le_of_ble_eq_true rfl, Nat.le_of_ble_eq_true rfl⟩ rfl hl.1 rfl (Nat.le_of_ble_eq_true rfl) dX9_run_45) (fun r_10 h_11 => ?_)
            subst h_11
            refine lv_istore (lv' := [(6, .int (atM (gA (F16 301) 200 k0) (((F16 199) k0).toInt.toNat) x16_5)), (5, .int x16_5), (4, .int x16_4), (0, .ref (ad 5 k0)), (1, .int v0), (2, .int v1), (3, .ref (g 7))]) hx hb dX9_run_48 hl (ltb rfl) rfl (fun ls hl => ?_)
            refine lv_iload hx hb dX9_run_50 (lvA0 hl) ?_
            refine lv_ldc (v := 1048575) hx hb hown (S.2.2.2.2 _ (wk4_1 5 rfl rfl)) dX9_run_52 ?_
            refine lv_iand hx hb dX9_run_54 ?_
            refine lv_istore (lv' := [(7, .int ((atM (gA (F16 301) 200 k0) (((F16 199) k0).toInt.toNat) x16_5) &&& 1048575)), (6, .int (atM (gA (F16 301) 200 k0) (((F16 199) k0).toInt.toNat) x16_5)), (5, .int x16_5), (4, .int x16_4), (0, .ref (ad 5 k0)), (1, .int v0), (2, .int v1), (3, .ref (g 7))]) hx hb dX9_run_55 hl (ltb rfl) rfl (fun ls hl => ?_)
            refine lv_iload hx hb dX9_run_57 (lvA1 hl) ?_
            refine lv_bipush (v := 20) hx hb dX9_run_59 kbc_20 ?_
            refine lv_ishr hx hb dX9_run_61 ?_
            rcases (by (first | omega | (have zz0 := Hid.u hb_cn; omega)) : ((atM (gA (F16 301) 200 k0) (((F16 199) k0).toInt.toNat) x16_5) >>> (20 &&& 31)).toInt < 1 ∨ 13 < ((atM (gA (F16 301) 200 k0) (((F16 199) k0).toInt.toNat) x16_5) >>> (20 &&& 31)).toInt ∨ ((atM (gA (F16 301) 200 k0) (((F16 199) k0).toInt.toNat) x16_5) >>> (20 &&& 31)).toInt = 1 ∨ ((atM (gA (F16 301) 200 k0) (((F16 199) k0).toInt.toNat) x16_5) >>> (20 &&& 31)).toInt = 2 ∨ ((atM (gA (F16 301) 200 k0) (((F16 199) k0).toInt.toNat) x16_5) >>> (20 &&& 31)).toInt = 3 ∨ ((atM (gA (F16 301) 200 k0) (((F16 199) k0).toInt.toNat) x16_5) >>> (20 &&& 31)).toInt = 4 ∨ ((atM (gA (F16 301) 200 k0) (((F16 199) k0).toInt.toNat) x16_5) >>> (20 &&& 31)).toInt = 5 ∨ ((atM (gA (F16 301) 200 k0) (((F16 199) k0).toInt.toNat) x16_5) >>> (20 &&& 31)).toInt = 6 ∨ ((atM (gA (F16 301) 200 k0) (((F16 199) k0).toInt.toNat) x16_5) >>> (20 &&& 31)).toInt = 7 ∨ ((atM (gA (F16 301) 200 k0) (((F16 199) k0).toInt.toNat) x16_5) >>> (20 &&& 31)).toInt = 8 ∨ ((atM (gA (F16 301) 200 k0) (((F16 199) k0).toInt.toNat) x16_5) >>> (20 &&& 31)).toInt = 9 ∨ ((atM (gA (F16 301) 200 k0) (((F16 199) k0).toInt.toNat) x16_5) >>> (20 &&& 31)).toInt = 10 ∨ ((atM (gA (F16 301) 200 k0) (((F16 199) k0).toInt.toNat) x16_5) >>> (20 &&& 31)).toInt = 11 ∨ ((atM (gA (F16 301) 200 k0) (((F16 199) k0).toInt.toNat) x16_5) >>> (20 &&& 31)).toInt = 12 ∨ ((atM (gA (F16 301) 200 k0) (((F16 199) k0).toInt.toNat) x16_5) >>> (20 &&& 31)).toInt = 13) with c_12 | c_12 | c_12 | c_12 | c_12 | c_12 | c_12 | c_12 | c_12 | c_12 | c_12 | c_12 | c_12 | c_12 | c_12
            ·
              refine lv_tableOut (tgt := 203) hx hb dX9_run_62 (Or.inl c_12) (by decide) ?_
              refine lv_aload_n hx hb dX9_run_203 rfl (lvA4 hl) ?_
              have hFc := free_all hD hS hA
              refine va_calli (runV_xa (As := []) (rest := []) S (q_Xpop l D cI cB cZ zz qq vv bt g ad cn In F16 k0 H.size hI16 (by (first | omega | (have zz0 := Hid.u hb_cn; omega)))) kV_RX9_67 hK hXS hS hFc hP hD _ (xf_7 hk) rfl rfl ⟨Nat.le_of_ble_eq_true rfl, Nat.le_of_ble_eq_true rfl⟩ ⟨Nat.le_of_ble_eq_true rfl, Nat.le_of_ble_eq_true rfl⟩ rfl hl.1 rfl (Nat.le_of_ble_eq_true rfl) dX9_run_204) hS (fun q _ h => hFc q h) hFc (fun r_13 u t H1 locs ht hvm wh_14 hB1 hz1 hk1 hS => ?_)
              obtain ⟨cn14, In14, Fn14⟩ := u
              obtain ⟨hP1, hD1⟩ := hB1
              rw [ht] at hP1
              have hP : va_P D vwCl (wX cI (D.1 99) zz g ad cn14 In14 Fn14) H1 := hP1
              have hD : va_D A (wX cI (D.1 99) zz g ad cn14 In14 Fn14) := hD1.weaken (fun _ _ _ h => hFc _ h)
              generalize H1 = H at hP hS ⊢
              have vh_14 : (fun r c2 I2 F2 => Fr [] [] [196] cn In F16 c2 I2 F2 ∧ CBX c2 ∧ (True)) r_13 cn14 In14 Fn14 := wh_14
              obtain ⟨hfc14, hIn14, h_14⟩ := vh_14
              obtain rfl : cn = cn14 := (funext (fun k => hfc14.1 k List.not_mem_nil)).symm
              obtain rfl : In = In14 := (funext (fun k => hfc14.2.1 k List.not_mem_nil)).symm
              have hf14 : Fr [] [] [196, 197, 305] cn In Fn cn In Fn14 := Fr.mo (Fr.tr hfr16 hfc14) (sbl rfl) (sbl rfl) (sbl rfl)
              replace hIn14 : CBXh cn := hIn14
              refine lv_istore (lv' := [(8, .int r_13), (7, .int ((atM (gA (F16 301) 200 k0) (((F16 199) k0).toInt.toNat) x16_5) &&& 1048575)), (6, .int (atM (gA (F16 301) 200 k0) (((F16 199) k0).toInt.toNat) x16_5)), (5, .int x16_5), (4, .int x16_4), (0, .ref (ad 5 k0)), (1, .int v0), (2, .int v1), (3, .ref (g 7))]) hx hb dX9_run_207 hl (ltb rfl) rfl (fun ls hl => ?_)
              refine lv_aload_n hx hb dX9_run_209 rfl (lvA5 hl) ?_
              refine lv_aload_n hx hb dX9_run_210 rfl (lvA5 hl) ?_
              refine lv_iload hx hb dX9_run_211 (lvA2 hl) ?_
              refine lv_bipush (v := 20) hx hb dX9_run_213 kbc_20 ?_
              refine lv_ishr hx hb dX9_run_215 ?_
              refine lv_aload_n hx hb dX9_run_216 rfl (lvA5 hl) ?_
              have hFc := free_all hD hS hA
              refine va_calli (runV_xa (As := []) (rest := [.int ((atM (gA (F16 301) 200 k0) (((F16 199) k0).toInt.toNat) x16_5) >>> (20 &&& 31)), .ref (ad 5 k0), .ref (ad 5 k0)]) S (q_Xpop l D cI cB cZ zz qq vv bt g ad cn In Fn14 k0 H.size hIn14 (by (first | omega | (have zz0 := Hid.u hb_cn; omega)))) kV_RX9_67 hK hXS hS hFc hP hD _ (xf_7 hk) rfl rfl ⟨Nat.le_of_ble_eq_true rfl, Nat.le_of_ble_eq_true rfl⟩ ⟨Nat.le_of_ble_eq_true rfl, Nat.le_of_ble_eq_true rfl⟩ rfl hl.1 rfl (Nat.le_of_ble_eq_true rfl) dX9_run_217) hS (fun q _ h => hFc q h) hFc (fun r_15 u t H1 locs ht hvm wh_16 hB1 hz1 hk1 hS => ?_)
              obtain ⟨cn16, In16, Fn16⟩ := u
              obtain ⟨hP1, hD1⟩ := hB1
              rw [ht] at hP1
              have hP : va_P D vwCl (wX cI (D.1 99) zz g ad cn16 In16 Fn16) H1 := hP1
              have hD : va_D A (wX cI (D.1 99) zz g ad cn16 In16 Fn16) := hD1.weaken (fun _ _ _ h => hFc _ h)
              generalize H1 = H at hP hS ⊢
              have vh_16 : (fun r c2 I2 F2 => Fr [] [] [196] cn In Fn14 c2 I2 F2 ∧ CBX c2 ∧ (True)) r_15 cn16 In16 Fn16 := wh_16
              obtain ⟨hfc16, hIn16, h_16⟩ := vh_16
              obtain rfl : cn = cn16 := (funext (fun k => hfc16.1 k List.not_mem_nil)).symm
              obtain rfl : In = In16 := (funext (fun k => hfc16.2.1 k List.not_mem_nil)).symm
              have hf16 : Fr [] [] [196, 197, 305] cn In Fn cn In Fn16 := Fr.mo (Fr.tr hf14 hfc16) (sbl rfl) (sbl rfl) (sbl rfl)
              replace hIn16 : CBXh cn := hIn16
              refine lv_iload hx hb dX9_run_220 (lvA0 hl) ?_
              have hFc := free_all hD hS hA
              refine va_calli (runV_xa (As := [.int ((atM (gA (F16 301) 200 k0) (((F16 199) k0).toInt.toNat) x16_5) >>> (20 &&& 31)), .int r_15, .int r_13]) (rest := [.ref (ad 5 k0)]) S (q_Xreckon l D cI cB cZ zz qq vv bt g ad cn In Fn16 k0 ((atM (gA (F16 301) 200 k0) (((F16 199) k0).toInt.toNat) x16_5) >>> (20 &&& 31)) r_15 r_13 H.size hIn16 (by (first | omega | (have zz0 := Hid.u hb_cn; omega)))) kV_RX9_75 hK hXS hS hFc hP hD _ (xf_7 hk) rfl rfl ⟨Nat.le_of_ble_eq_true rfl, Nat.le_of_ble_eq_true rfl⟩ ⟨Nat.le_of_ble_eq_true rfl, Nat.le_of_ble_eq_true rfl⟩ rfl hl.1 rfl (Nat.le_of_ble_eq_true rfl) dX9_run_222) hS (fun q _ h => hFc q h) hFc (fun r_17 u t H1 locs ht hvm wh_18 hB1 hz1 hk1 hS => ?_)
              obtain ⟨cn18, In18, Fn18⟩ := u
              obtain ⟨hP1, hD1⟩ := hB1
              rw [ht] at hP1
              have hP : va_P D vwCl (wX cI (D.1 99) zz g ad cn18 In18 Fn18) H1 := hP1
              have hD : va_D A (wX cI (D.1 99) zz g ad cn18 In18 Fn18) := hD1.weaken (fun _ _ _ h => hFc _ h)
              generalize H1 = H at hP hS ⊢
              have vh_18 : (fun r c2 I2 F2 => Fr [] [] [197] cn In Fn16 c2 I2 F2 ∧ CBX c2 ∧ (True)) r_17 cn18 In18 Fn18 := wh_18
              obtain ⟨hfc18, hIn18, h_18⟩ := vh_18
              obtain rfl : cn = cn18 := (funext (fun k => hfc18.1 k List.not_mem_nil)).symm
              obtain rfl : In = In18 := (funext (fun k => hfc18.2.1 k List.not_mem_nil)).symm
              have hf18 : Fr [] [] [196, 197, 305] cn In Fn cn In Fn18 := Fr.mo (Fr.tr hf16 hfc18) (sbl rfl) (sbl rfl) (sbl rfl)
              replace hIn18 : CBXh cn := hIn18
              have hFc := free_all hD hS hA
              refine va_callv (runV_xa (As := [.int r_17]) (rest := []) S (q_Xpush l D cI cB cZ zz qq vv bt g ad cn In Fn18 k0 r_17 H.size hIn18 (by (first | omega | (have zz0 := Hid.u hb_cn; omega)))) kV_RX9_63 hK hXS hS hFc hP hD _ (xf_7 hk) rfl rfl ⟨Nat.le_of_ble_eq_true rfl, Nat.le_of_ble_eq_true rfl⟩ ⟨Nat.le_of_ble_eq_true rfl, Nat.le_of_ble_eq_true rfl⟩ rfl hl.1 rfl (Nat.le_of_ble_eq_true rfl) dX9_run_225) hS (fun q _ h => hFc q h) hFc (fun u t H1 locs ht hvm wh_20 hB1 hz1 hk1 hS => ?_)
              obtain ⟨cn20, In20, Fn20⟩ := u
              obtain ⟨hP1, hD1⟩ := hB1
              rw [ht] at hP1
              have hP : va_P D vwCl (wX cI (D.1 99) zz g ad cn20 In20 Fn20) H1 := hP1
              have hD : va_D A (wX cI (D.1 99) zz g ad cn20 In20 Fn20) := hD1.weaken (fun _ _ _ h => hFc _ h)
              generalize H1 = H at hP hS ⊢
              have vh_20 : (fun c2 I2 F2 => Fr [] [] [196, 305] cn In Fn18 c2 I2 F2 ∧ CBX c2 ∧ (True)) cn20 In20 Fn20 := wh_20
              obtain ⟨hfc20, hIn20, h_20⟩ := vh_20
              obtain rfl : cn = cn20 := (funext (fun k => hfc20.1 k List.not_mem_nil)).symm
              obtain rfl : In = In20 := (funext (fun k => hfc20.2.1 k List.not_mem_nil)).symm
              have hf20 : Fr [] [] [196, 197, 305] cn In Fn cn In Fn20 := Fr.mo (Fr.tr hf18 hfc20) (sbl rfl) (sbl rfl) (sbl rfl)
              replace hIn20 : CBXh cn := hIn20
              have hinc := inc_toInt (x := x16_5) (y := v1) (by (first | omega | (have zz0 := Hid.u hb_cn; omega)))
              refine lv_iinc (v := (x16_5 + 1)) (lv' := [(5, .int (x16_5 + 1)), (8, .int r_13), (7, .int ((atM (gA (F16 301) 200 k0) (((F16 199) k0).toInt.toNat) x16_5) &&& 1048575)), (6, .int (atM (gA (F16 301) 200 k0) (((F16 199) k0).toInt.toNat) x16_5)), (4, .int x16_4), (0, .ref (ad 5 k0)), (1, .int v0), (2, .int v1), (3, .ref (g 7))]) hx hb dX9_run_228 hl (k := 3) rfl rfl (ltb rfl) rfl (fun ls hl => ?_)
              refine lv_goto (tgt := 16) hx hb dX9_run_231 rfl ?_
              exact ih16 x16_4 (x16_5 + 1) Fn20 _ _ (by (first | omega | (have zz0 := Hid.u hb_cn; omega))) ⟨(Fr.mo hf20 (sbl rfl) (sbl rfl) (sbl rfl)), hIn20⟩ hP hD hS ls (lv_sub hl [0, 4, 5, 6, 7, 8] rfl)
            ·
              refine lv_tableOut (tgt := 203) hx hb dX9_run_62 (Or.inr c_12) (by decide) ?_
              refine lv_aload_n hx hb dX9_run_203 rfl (lvA4 hl) ?_
              have hFc := free_all hD hS hA
              refine va_calli (runV_xa (As := []) (rest := []) S (q_Xpop l D cI cB cZ zz qq vv bt g ad cn In F16 k0 H.size hI16 (by (first | omega | (have zz0 := Hid.u hb_cn; omega)))) kV_RX9_67 hK hXS hS hFc hP hD _ (xf_7 hk) rfl rfl ⟨Nat.le_of_ble_eq_true rfl, Nat.le_of_ble_eq_true rfl⟩ ⟨Nat.le_of_ble_eq_true rfl, Nat.le_of_ble_eq_true rfl⟩ rfl hl.1 rfl (Nat.le_of_ble_eq_true rfl) dX9_run_204) hS (fun q _ h => hFc q h) hFc (fun r_21 u t H1 locs ht hvm wh_22 hB1 hz1 hk1 hS => ?_)
              obtain ⟨cn22, In22, Fn22⟩ := u
              obtain ⟨hP1, hD1⟩ := hB1
              rw [ht] at hP1
              have hP : va_P D vwCl (wX cI (D.1 99) zz g ad cn22 In22 Fn22) H1 := hP1
              have hD : va_D A (wX cI (D.1 99) zz g ad cn22 In22 Fn22) := hD1.weaken (fun _ _ _ h => hFc _ h)
              generalize H1 = H at hP hS ⊢
              have vh_22 : (fun r c2 I2 F2 => Fr [] [] [196] cn In F16 c2 I2 F2 ∧ CBX c2 ∧ (True)) r_21 cn22 In22 Fn22 := wh_22
              obtain ⟨hfc22, hIn22, h_22⟩ := vh_22
              obtain rfl : cn = cn22 := (funext (fun k => hfc22.1 k List.not_mem_nil)).symm
              obtain rfl : In = In22 := (funext (fun k => hfc22.2.1 k List.not_mem_nil)).symm
              have hf22 : Fr [] [] [196, 197, 305] cn In Fn cn In Fn22 := Fr.mo (Fr.tr hfr16 hfc22) (sbl rfl) (sbl rfl) (sbl rfl)
              replace hIn22 : CBXh cn := hIn22
              refine lv_istore (lv' := [(8, .int r_21), (7, .int ((atM (gA (F16 301) 200 k0) (((F16 199) k0).toInt.toNat) x16_5) &&& 1048575)), (6, .int (atM (gA (F16 301) 200 k0) (((F16 199) k0).toInt.toNat) x16_5)), (5, .int x16_5), (4, .int x16_4), (0, .ref (ad 5 k0)), (1, .int v0), (2, .int v1), (3, .ref (g 7))]) hx hb dX9_run_207 hl (ltb rfl) rfl (fun ls hl => ?_)
              refine lv_aload_n hx hb dX9_run_209 rfl (lvA5 hl) ?_
              refine lv_aload_n hx hb dX9_run_210 rfl (lvA5 hl) ?_
              refine lv_iload hx hb dX9_run_211 (lvA2 hl) ?_
              refine lv_bipush (v := 20) hx hb dX9_run_213 kbc_20 ?_
              refine lv_ishr hx hb dX9_run_215 ?_
              refine lv_aload_n hx hb dX9_run_216 rfl (lvA5 hl) ?_
              have hFc := free_all hD hS hA
              refine va_calli (runV_xa (As := []) (rest := [.int ((atM (gA (F16 301) 200 k0) (((F16 199) k0).toInt.toNat) x16_5) >>> (20 &&& 31)), .ref (ad 5 k0), .ref (ad 5 k0)]) S (q_Xpop l D cI cB cZ zz qq vv bt g ad cn In Fn22 k0 H.size hIn22 (by (first | omega | (have zz0 := Hid.u hb_cn; omega)))) kV_RX9_67 hK hXS hS hFc hP hD _ (xf_7 hk) rfl rfl ⟨Nat.le_of_ble_eq_true rfl, Nat.le_of_ble_eq_true rfl⟩ ⟨Nat.le_of_ble_eq_true rfl, Nat.le_of_ble_eq_true rfl⟩ rfl hl.1 rfl (Nat.le_of_ble_eq_true rfl) dX9_run_217) hS (fun q _ h => hFc q h) hFc (fun r_23 u t H1 locs ht hvm wh_24 hB1 hz1 hk1 hS => ?_)
              obtain ⟨cn24, In24, Fn24⟩ := u
              obtain ⟨hP1, hD1⟩ := hB1
              rw [ht] at hP1
              have hP : va_P D vwCl (wX cI (D.1 99) zz g ad cn24 In24 Fn24) H1 := hP1
              have hD : va_D A (wX cI (D.1 99) zz g ad cn24 In24 Fn24) := hD1.weaken (fun _ _ _ h => hFc _ h)
              generalize H1 = H at hP hS ⊢
              have vh_24 : (fun r c2 I2 F2 => Fr [] [] [196] cn In Fn22 c2 I2 F2 ∧ CBX c2 ∧ (True)) r_23 cn24 In24 Fn24 := wh_24
              obtain ⟨hfc24, hIn24, h_24⟩ := vh_24
              obtain rfl : cn = cn24 := (funext (fun k => hfc24.1 k List.not_mem_nil)).symm
              obtain rfl : In = In24 := (funext (fun k => hfc24.2.1 k List.not_mem_nil)).symm
              have hf24 : Fr [] [] [196, 197, 305] cn In Fn cn In Fn24 := Fr.mo (Fr.tr hf22 hfc24) (sbl rfl) (sbl rfl) (sbl rfl)
              replace hIn24 : CBXh cn := hIn24
              refine lv_iload hx hb dX9_run_220 (lvA0 hl) ?_
              have hFc := free_all hD hS hA
              refine va_calli (runV_xa (As := [.int ((atM (gA (F16 301) 200 k0) (((F16 199) k0).toInt.toNat) x16_5) >>> (20 &&& 31)), .int r_23, .int r_21]) (rest := [.ref (ad 5 k0)]) S (q_Xreckon l D cI cB cZ zz qq vv bt g ad cn In Fn24 k0 ((atM (gA (F16 301) 200 k0) (((F16 199) k0).toInt.toNat) x16_5) >>> (20 &&& 31)) r_23 r_21 H.size hIn24 (by (first | omega | (have zz0 := Hid.u hb_cn; omega)))) kV_RX9_75 hK hXS hS hFc hP hD _ (xf_7 hk) rfl rfl ⟨Nat.le_of_ble_eq_true rfl, Nat.le_of_ble_eq_true rfl⟩ ⟨Nat.le_of_ble_eq_true rfl, Nat.le_of_ble_eq_true rfl⟩ rfl hl.1 rfl (Nat.le_of_ble_eq_true rfl) dX9_run_222) hS (fun q _ h => hFc q h) hFc (fun r_25 u t H1 locs ht hvm wh_26 hB1 hz1 hk1 hS => ?_)
              obtain ⟨cn26, In26, Fn26⟩ := u
              obtain ⟨hP1, hD1⟩ := hB1
              rw [ht] at hP1
              have hP : va_P D vwCl (wX cI (D.1 99) zz g ad cn26 In26 Fn26) H1 := hP1
              have hD : va_D A (wX cI (D.1 99) zz g ad cn26 In26 Fn26) := hD1.weaken (fun _ _ _ h => hFc _ h)
              generalize H1 = H at hP hS ⊢
              have vh_26 : (fun r c2 I2 F2 => Fr [] [] [197] cn In Fn24 c2 I2 F2 ∧ CBX c2 ∧ (True)) r_25 cn26 In26 Fn26 := wh_26
              obtain ⟨hfc26, hIn26, h_26⟩ := vh_26
              obtain rfl : cn = cn26 := (funext (fun k => hfc26.1 k List.not_mem_nil)).symm
              obtain rfl : In = In26 := (funext (fun k => hfc26.2.1 k List.not_mem_nil)).symm
              have hf26 : Fr [] [] [196, 197, 305] cn In Fn cn In Fn26 := Fr.mo (Fr.tr hf24 hfc26) (sbl rfl) (sbl rfl) (sbl rfl)
              replace hIn26 : CBXh cn := hIn26
              have hFc := free_all hD hS hA
              refine va_callv (runV_xa (As := [.int r_25]) (rest := []) S (q_Xpush l D cI cB cZ zz qq vv bt g ad cn In Fn26 k0 r_25 H.size hIn26 (by (first | omega | (have zz0 := Hid.u hb_cn; omega)))) kV_RX9_63 hK hXS hS hFc hP hD _ (xf_7 hk) rfl rfl ⟨Nat.le_of_ble_eq_true rfl, Nat.le_of_ble_eq_true rfl⟩ ⟨Nat.le_of_ble_eq_true rfl, Nat.le_of_ble_eq_true rfl⟩ rfl hl.1 rfl (Nat.le_of_ble_eq_true rfl) dX9_run_225) hS (fun q _ h => hFc q h) hFc (fun u t H1 locs ht hvm wh_28 hB1 hz1 hk1 hS => ?_)
              obtain ⟨cn28, In28, Fn28⟩ := u
              obtain ⟨hP1, hD1⟩ := hB1
              rw [ht] at hP1
              have hP : va_P D vwCl (wX cI (D.1 99) zz g ad cn28 In28 Fn28) H1 := hP1
              have hD : va_D A (wX cI (D.1 99) zz g ad cn28 In28 Fn28) := hD1.weaken (fun _ _ _ h => hFc _ h)
              generalize H1 = H at hP hS ⊢
              have vh_28 : (fun c2 I2 F2 => Fr [] [] [196, 305] cn In Fn26 c2 I2 F2 ∧ CBX c2 ∧ (True)) cn28 In28 Fn28 := wh_28
              obtain ⟨hfc28, hIn28, h_28⟩ := vh_28
              obtain rfl : cn = cn28 := (funext (fun k => hfc28.1 k List.not_mem_nil)).symm
              obtain rfl : In = In28 := (funext (fun k => hfc28.2.1 k List.not_mem_nil)).symm
              have hf28 : Fr [] [] [196, 197, 305] cn In Fn cn In Fn28 := Fr.mo (Fr.tr hf26 hfc28) (sbl rfl) (sbl rfl) (sbl rfl)
              replace hIn28 : CBXh cn := hIn28
              have hinc := inc_toInt (x := x16_5) (y := v1) (by (first | omega | (have zz0 := Hid.u hb_cn; omega)))
              refine lv_iinc (v := (x16_5 + 1)) (lv' := [(5, .int (x16_5 + 1)), (8, .int r_21), (7, .int ((atM (gA (F16 301) 200 k0) (((F16 199) k0).toInt.toNat) x16_5) &&& 1048575)), (6, .int (atM (gA (F16 301) 200 k0) (((F16 199) k0).toInt.toNat) x16_5)), (4, .int x16_4), (0, .ref (ad 5 k0)), (1, .int v0), (2, .int v1), (3, .ref (g 7))]) hx hb dX9_run_228 hl (k := 3) rfl rfl (ltb rfl) rfl (fun ls hl => ?_)
              refine lv_goto (tgt := 16) hx hb dX9_run_231 rfl ?_
              exact ih16 x16_4 (x16_5 + 1) Fn28 _ _ (by (first | omega | (have zz0 := Hid.u hb_cn; omega))) ⟨(Fr.mo hf28 (sbl rfl) (sbl rfl) (sbl rfl)), hIn28⟩ hP hD hS ls (lv_sub hl [0, 4, 5, 6, 7, 8] rfl)
            ·
              refine lv_tableIn (tgt := 128) (off := 66) hx hb dX9_run_62 (by (first | omega | (have zz0 := Hid.u hb_cn; omega))) (by (first | omega | (have zz0 := Hid.u hb_cn; omega))) (by rw [c_12]; rfl) (by decide) ?_
              refine lv_aload_n hx hb dX9_run_128 rfl (lvA4 hl) ?_
              refine lv_iload hx hb dX9_run_129 (lvA0 hl) ?_
              have hFc := free_all hD hS hA
              refine va_callv (runV_xa (As := [.int ((atM (gA (F16 301) 200 k0) (((F16 199) k0).toInt.toNat) x16_5) &&& 1048575)]) (rest := []) S (q_Xpush l D cI cB cZ zz qq vv bt g ad cn In F16 k0 ((atM (gA (F16 301) 200 k0) (((F16 199) k0).toInt.toNat) x16_5) &&& 1048575) H.size hI16 (by (first | omega | (have zz0 := Hid.u hb_cn; omega)))) kV_RX9_63 hK hXS hS hFc hP hD _ (xf_7 hk) rfl rfl ⟨Nat.le_of_ble_eq_true rfl, Nat.le_of_ble_eq_true rfl⟩ ⟨Nat.le_of_ble_eq_true rfl, Nat.le_of_ble_eq_true rfl⟩ rfl hl.1 rfl (Nat.le_of_ble_eq_true rfl) dX9_run_131) hS (fun q _ h => hFc q h) hFc (fun u t H1 locs ht hvm wh_30 hB1 hz1 hk1 hS => ?_)
              obtain ⟨cn30, In30, Fn30⟩ := u
              obtain ⟨hP1, hD1⟩ := hB1
              rw [ht] at hP1
              have hP : va_P D vwCl (wX cI (D.1 99) zz g ad cn30 In30 Fn30) H1 := hP1
              have hD : va_D A (wX cI (D.1 99) zz g ad cn30 In30 Fn30) := hD1.weaken (fun _ _ _ h => hFc _ h)
              generalize H1 = H at hP hS ⊢
              have vh_30 : (fun c2 I2 F2 => Fr [] [] [196, 305] cn In F16 c2 I2 F2 ∧ CBX c2 ∧ (True)) cn30 In30 Fn30 := wh_30
              obtain ⟨hfc30, hIn30, h_30⟩ := vh_30
              obtain rfl : cn = cn30 := (funext (fun k => hfc30.1 k List.not_mem_nil)).symm
              obtain rfl : In = In30 := (funext (fun k => hfc30.2.1 k List.not_mem_nil)).symm
              have hf30 : Fr [] [] [196, 197, 305] cn In Fn cn In Fn30 := Fr.mo (Fr.tr hfr16 hfc30) (sbl rfl) (sbl rfl) (sbl rfl)
              replace hIn30 : CBXh cn := hIn30
              refine lv_goto (tgt := 228) hx hb dX9_run_134 rfl ?_
              have hinc := inc_toInt (x := x16_5) (y := v1) (by (first | omega | (have zz0 := Hid.u hb_cn; omega)))
              refine lv_iinc (v := (x16_5 + 1)) (lv' := [(5, .int (x16_5 + 1)), (7, .int ((atM (gA (F16 301) 200 k0) (((F16 199) k0).toInt.toNat) x16_5) &&& 1048575)), (6, .int (atM (gA (F16 301) 200 k0) (((F16 199) k0).toInt.toNat) x16_5)), (4, .int x16_4), (0, .ref (ad 5 k0)), (1, .int v0), (2, .int v1), (3, .ref (g 7))]) hx hb dX9_run_228 hl (k := 2) rfl rfl (ltb rfl) rfl (fun ls hl => ?_)
              refine lv_goto (tgt := 16) hx hb dX9_run_231 rfl ?_
              exact ih16 x16_4 (x16_5 + 1) Fn30 _ _ (by (first | omega | (have zz0 := Hid.u hb_cn; omega))) ⟨(Fr.mo hf30 (sbl rfl) (sbl rfl) (sbl rfl)), hIn30⟩ hP hD hS ls (lv_sub hl [0, 3, 4, 5, 6, 7] rfl)
            ·
              refine lv_tableIn (tgt := 137) (off := 75) hx hb dX9_run_62 (by (first | omega | (have zz0 := Hid.u hb_cn; omega))) (by (first | omega | (have zz0 := Hid.u hb_cn; omega))) (by rw [c_12]; rfl) (by decide) ?_
              refine lv_aload_n hx hb dX9_run_137 rfl (lvA4 hl) ?_
              refine lv_aload_n hx hb dX9_run_138 rfl (lvA7 hl) ?_
              refine lv_iload hx hb dX9_run_139 (lvA0 hl) ?_
              refine vp_callSi (runS_r (As := [.ref (g 7), .int ((atM (gA (F16 301) 200 k0) (((F16 199) k0).toInt.toNat) x16_5) &&& 1048575)]) (rest := [.ref (ad 5 k0)]) S (q_l_at l D cI cB cZ (g 7) 11 (F16 7) ((atM (gA (F16 301) 200 k0) (((F16 199) k0).toInt.toNat) x16_5) &&& 1048575) (by (first | omega | (have zz0 := Hid.u hb_cn; omega)))) kS_RX9_37 hK hP [5] (one_is xo_5) ⟨Nat.le_of_ble_eq_true rfl, Nat.le_of_ble_eq_true rfl⟩ ⟨Nat.le_of_ble_eq_true rfl, Nat.le_of_ble_eq_true rfl⟩ rfl hl.1 rfl (Nat.le_of_ble_eq_true rfl) dX9_run_141) (fun r_31 h_32 => ?_)
              subst h_32
              have hFc := free_all hD hS hA
              refine va_callv (runV_xa (As := [.int (atM (F16 7) 11 ((atM (gA (F16 301) 200 k0) (((F16 199) k0).toInt.toNat) x16_5) &&& 1048575))]) (rest := []) S (q_Xpush l D cI cB cZ zz qq vv bt g ad cn In F16 k0 (atM (F16 7) 11 ((atM (gA (F16 301) 200 k0) (((F16 199) k0).toInt.toNat) x16_5) &&& 1048575)) H.size hI16 (by (first | omega | (have zz0 := Hid.u hb_cn; omega)))) kV_RX9_63 hK hXS hS hFc hP hD _ (xf_7 hk) rfl rfl ⟨Nat.le_of_ble_eq_true rfl, Nat.le_of_ble_eq_true rfl⟩ ⟨Nat.le_of_ble_eq_true rfl, Nat.le_of_ble_eq_true rfl⟩ rfl hl.1 rfl (Nat.le_of_ble_eq_true rfl) dX9_run_144) hS (fun q _ h => hFc q h) hFc (fun u t H1 locs ht hvm wh_34 hB1 hz1 hk1 hS => ?_)
              obtain ⟨cn34, In34, Fn34⟩ := u
              obtain ⟨hP1, hD1⟩ := hB1
              rw [ht] at hP1
              have hP : va_P D vwCl (wX cI (D.1 99) zz g ad cn34 In34 Fn34) H1 := hP1
              have hD : va_D A (wX cI (D.1 99) zz g ad cn34 In34 Fn34) := hD1.weaken (fun _ _ _ h => hFc _ h)
              generalize H1 = H at hP hS ⊢
              have vh_34 : (fun c2 I2 F2 => Fr [] [] [196, 305] cn In F16 c2 I2 F2 ∧ CBX c2 ∧ (True)) cn34 In34 Fn34 := wh_34
              obtain ⟨hfc34, hIn34, h_34⟩ := vh_34
              obtain rfl : cn = cn34 := (funext (fun k => hfc34.1 k List.not_mem_nil)).symm
              obtain rfl : In = In34 := (funext (fun k => hfc34.2.1 k List.not_mem_nil)).symm
              have hf34 : Fr [] [] [196, 197, 305] cn In Fn cn In Fn34 := Fr.mo (Fr.tr hfr16 hfc34) (sbl rfl) (sbl rfl) (sbl rfl)
              replace hIn34 : CBXh cn := hIn34
              refine lv_goto (tgt := 228) hx hb dX9_run_147 rfl ?_
              have hinc := inc_toInt (x := x16_5) (y := v1) (by (first | omega | (have zz0 := Hid.u hb_cn; omega)))
              refine lv_iinc (v := (x16_5 + 1)) (lv' := [(5, .int (x16_5 + 1)), (7, .int ((atM (gA (F16 301) 200 k0) (((F16 199) k0).toInt.toNat) x16_5) &&& 1048575)), (6, .int (atM (gA (F16 301) 200 k0) (((F16 199) k0).toInt.toNat) x16_5)), (4, .int x16_4), (0, .ref (ad 5 k0)), (1, .int v0), (2, .int v1), (3, .ref (g 7))]) hx hb dX9_run_228 hl (k := 2) rfl rfl (ltb rfl) rfl (fun ls hl => ?_)
              refine lv_goto (tgt := 16) hx hb dX9_run_231 rfl ?_
              exact ih16 x16_4 (x16_5 + 1) Fn34 _ _ (by (first | omega | (have zz0 := Hid.u hb_cn; omega))) ⟨(Fr.mo hf34 (sbl rfl) (sbl rfl) (sbl rfl)), hIn34⟩ hP hD hS ls (lv_sub hl [0, 3, 4, 5, 6, 7] rfl)
            ·
              refine lv_tableIn (tgt := 203) (off := 141) hx hb dX9_run_62 (by (first | omega | (have zz0 := Hid.u hb_cn; omega))) (by (first | omega | (have zz0 := Hid.u hb_cn; omega))) (by rw [c_12]; rfl) (by decide) ?_
              refine lv_aload_n hx hb dX9_run_203 rfl (lvA4 hl) ?_
              have hFc := free_all hD hS hA
              refine va_calli (runV_xa (As := []) (rest := []) S (q_Xpop l D cI cB cZ zz qq vv bt g ad cn In F16 k0 H.size hI16 (by (first | omega | (have zz0 := Hid.u hb_cn; omega)))) kV_RX9_67 hK hXS hS hFc hP hD _ (xf_7 hk) rfl rfl ⟨Nat.le_of_ble_eq_true rfl, Nat.le_of_ble_eq_true rfl⟩ ⟨Nat.le_of_ble_eq_true rfl, Nat.le_of_ble_eq_true rfl⟩ rfl hl.1 rfl (Nat.le_of_ble_eq_true rfl) dX9_run_204) hS (fun q _ h => hFc q h) hFc (fun r_35 u t H1 locs ht hvm wh_36 hB1 hz1 hk1 hS => ?_)
              obtain ⟨cn36, In36, Fn36⟩ := u
              obtain ⟨hP1, hD1⟩ := hB1
              rw [ht] at hP1
              have hP : va_P D vwCl (wX cI (D.1 99) zz g ad cn36 In36 Fn36) H1 := hP1
              have hD : va_D A (wX cI (D.1 99) zz g ad cn36 In36 Fn36) := hD1.weaken (fun _ _ _ h => hFc _ h)
              generalize H1 = H at hP hS ⊢
              have vh_36 : (fun r c2 I2 F2 => Fr [] [] [196] cn In F16 c2 I2 F2 ∧ CBX c2 ∧ (True)) r_35 cn36 In36 Fn36 := wh_36
              obtain ⟨hfc36, hIn36, h_36⟩ := vh_36
              obtain rfl : cn = cn36 := (funext (fun k => hfc36.1 k List.not_mem_nil)).symm
              obtain rfl : In = In36 := (funext (fun k => hfc36.2.1 k List.not_mem_nil)).symm
              have hf36 : Fr [] [] [196, 197, 305] cn In Fn cn In Fn36 := Fr.mo (Fr.tr hfr16 hfc36) (sbl rfl) (sbl rfl) (sbl rfl)
              replace hIn36 : CBXh cn := hIn36
              refine lv_istore (lv' := [(8, .int r_35), (7, .int ((atM (gA (F16 301) 200 k0) (((F16 199) k0).toInt.toNat) x16_5) &&& 1048575)), (6, .int (atM (gA (F16 301) 200 k0) (((F16 199) k0).toInt.toNat) x16_5)), (5, .int x16_5), (4, .int x16_4), (0, .ref (ad 5 k0)), (1, .int v0), (2, .int v1), (3, .ref (g 7))]) hx hb dX9_run_207 hl (ltb rfl) rfl (fun ls hl => ?_)
              refine lv_aload_n hx hb dX9_run_209 rfl (lvA5 hl) ?_
              refine lv_aload_n hx hb dX9_run_210 rfl (lvA5 hl) ?_
              refine lv_iload hx hb dX9_run_211 (lvA2 hl) ?_
              refine lv_bipush (v := 20) hx hb dX9_run_213 kbc_20 ?_
              refine lv_ishr hx hb dX9_run_215 ?_
              refine lv_aload_n hx hb dX9_run_216 rfl (lvA5 hl) ?_
              have hFc := free_all hD hS hA
              refine va_calli (runV_xa (As := []) (rest := [.int ((atM (gA (F16 301) 200 k0) (((F16 199) k0).toInt.toNat) x16_5) >>> (20 &&& 31)), .ref (ad 5 k0), .ref (ad 5 k0)]) S (q_Xpop l D cI cB cZ zz qq vv bt g ad cn In Fn36 k0 H.size hIn36 (by (first | omega | (have zz0 := Hid.u hb_cn; omega)))) kV_RX9_67 hK hXS hS hFc hP hD _ (xf_7 hk) rfl rfl ⟨Nat.le_of_ble_eq_true rfl, Nat.le_of_ble_eq_true rfl⟩ ⟨Nat.le_of_ble_eq_true rfl, Nat.le_of_ble_eq_true rfl⟩ rfl hl.1 rfl (Nat.le_of_ble_eq_true rfl) dX9_run_217) hS (fun q _ h => hFc q h) hFc (fun r_37 u t H1 locs ht hvm wh_38 hB1 hz1 hk1 hS => ?_)
              obtain ⟨cn38, In38, Fn38⟩ := u
              obtain ⟨hP1, hD1⟩ := hB1
              rw [ht] at hP1
              have hP : va_P D vwCl (wX cI (D.1 99) zz g ad cn38 In38 Fn38) H1 := hP1
              have hD : va_D A (wX cI (D.1 99) zz g ad cn38 In38 Fn38) := hD1.weaken (fun _ _ _ h => hFc _ h)
              generalize H1 = H at hP hS ⊢
              have vh_38 : (fun r c2 I2 F2 => Fr [] [] [196] cn In Fn36 c2 I2 F2 ∧ CBX c2 ∧ (True)) r_37 cn38 In38 Fn38 := wh_38
              obtain ⟨hfc38, hIn38, h_38⟩ := vh_38
              obtain rfl : cn = cn38 := (funext (fun k => hfc38.1 k List.not_mem_nil)).symm
              obtain rfl : In = In38 := (funext (fun k => hfc38.2.1 k List.not_mem_nil)).symm
              have hf38 : Fr [] [] [196, 197, 305] cn In Fn cn In Fn38 := Fr.mo (Fr.tr hf36 hfc38) (sbl rfl) (sbl rfl) (sbl rfl)
              replace hIn38 : CBXh cn := hIn38
              refine lv_iload hx hb dX9_run_220 (lvA0 hl) ?_
              have hFc := free_all hD hS hA
              refine va_calli (runV_xa (As := [.int ((atM (gA (F16 301) 200 k0) (((F16 199) k0).toInt.toNat) x16_5) >>> (20 &&& 31)), .int r_37, .int r_35]) (rest := [.ref (ad 5 k0)]) S (q_Xreckon l D cI cB cZ zz qq vv bt g ad cn In Fn38 k0 ((atM (gA (F16 301) 200 k0) (((F16 199) k0).toInt.toNat) x16_5) >>> (20 &&& 31)) r_37 r_35 H.size hIn38 (by (first | omega | (have zz0 := Hid.u hb_cn; omega)))) kV_RX9_75 hK hXS hS hFc hP hD _ (xf_7 hk) rfl rfl ⟨Nat.le_of_ble_eq_true rfl, Nat.le_of_ble_eq_true rfl⟩ ⟨Nat.le_of_ble_eq_true rfl, Nat.le_of_ble_eq_true rfl⟩ rfl hl.1 rfl (Nat.le_of_ble_eq_true rfl) dX9_run_222) hS (fun q _ h => hFc q h) hFc (fun r_39 u t H1 locs ht hvm wh_40 hB1 hz1 hk1 hS => ?_)
              obtain ⟨cn40, In40, Fn40⟩ := u
              obtain ⟨hP1, hD1⟩ := hB1
              rw [ht] at hP1
              have hP : va_P D vwCl (wX cI (D.1 99) zz g ad cn40 In40 Fn40) H1 := hP1
              have hD : va_D A (wX cI (D.1 99) zz g ad cn40 In40 Fn40) := hD1.weaken (fun _ _ _ h => hFc _ h)
              generalize H1 = H at hP hS ⊢
              have vh_40 : (fun r c2 I2 F2 => Fr [] [] [197] cn In Fn38 c2 I2 F2 ∧ CBX c2 ∧ (True)) r_39 cn40 In40 Fn40 := wh_40
              obtain ⟨hfc40, hIn40, h_40⟩ := vh_40
              obtain rfl : cn = cn40 := (funext (fun k => hfc40.1 k List.not_mem_nil)).symm
              obtain rfl : In = In40 := (funext (fun k => hfc40.2.1 k List.not_mem_nil)).symm
              have hf40 : Fr [] [] [196, 197, 305] cn In Fn cn In Fn40 := Fr.mo (Fr.tr hf38 hfc40) (sbl rfl) (sbl rfl) (sbl rfl)
              replace hIn40 : CBXh cn := hIn40
              have hFc := free_all hD hS hA
              refine va_callv (runV_xa (As := [.int r_39]) (rest := []) S (q_Xpush l D cI cB cZ zz qq vv bt g ad cn In Fn40 k0 r_39 H.size hIn40 (by (first | omega | (have zz0 := Hid.u hb_cn; omega)))) kV_RX9_63 hK hXS hS hFc hP hD _ (xf_7 hk) rfl rfl ⟨Nat.le_of_ble_eq_true rfl, Nat.le_of_ble_eq_true rfl⟩ ⟨Nat.le_of_ble_eq_true rfl, Nat.le_of_ble_eq_true rfl⟩ rfl hl.1 rfl (Nat.le_of_ble_eq_true rfl) dX9_run_225) hS (fun q _ h => hFc q h) hFc (fun u t H1 locs ht hvm wh_42 hB1 hz1 hk1 hS => ?_)
              obtain ⟨cn42, In42, Fn42⟩ := u
              obtain ⟨hP1, hD1⟩ := hB1
              rw [ht] at hP1
              have hP : va_P D vwCl (wX cI (D.1 99) zz g ad cn42 In42 Fn42) H1 := hP1
              have hD : va_D A (wX cI (D.1 99) zz g ad cn42 In42 Fn42) := hD1.weaken (fun _ _ _ h => hFc _ h)
              generalize H1 = H at hP hS ⊢
              have vh_42 : (fun c2 I2 F2 => Fr [] [] [196, 305] cn In Fn40 c2 I2 F2 ∧ CBX c2 ∧ (True)) cn42 In42 Fn42 := wh_42
              obtain ⟨hfc42, hIn42, h_42⟩ := vh_42
              obtain rfl : cn = cn42 := (funext (fun k => hfc42.1 k List.not_mem_nil)).symm
              obtain rfl : In = In42 := (funext (fun k => hfc42.2.1 k List.not_mem_nil)).symm
              have hf42 : Fr [] [] [196, 197, 305] cn In Fn cn In Fn42 := Fr.mo (Fr.tr hf40 hfc42) (sbl rfl) (sbl rfl) (sbl rfl)
              replace hIn42 : CBXh cn := hIn42
              have hinc := inc_toInt (x := x16_5) (y := v1) (by (first | omega | (have zz0 := Hid.u hb_cn; omega)))
              refine lv_iinc (v := (x16_5 + 1)) (lv' := [(5, .int (x16_5 + 1)), (8, .int r_35), (7, .int ((atM (gA (F16 301) 200 k0) (((F16 199) k0).toInt.toNat) x16_5) &&& 1048575)), (6, .int (atM (gA (F16 301) 200 k0) (((F16 199) k0).toInt.toNat) x16_5)), (4, .int x16_4), (0, .ref (ad 5 k0)), (1, .int v0), (2, .int v1), (3, .ref (g 7))]) hx hb dX9_run_228 hl (k := 3) rfl rfl (ltb rfl) rfl (fun ls hl => ?_)
              refine lv_goto (tgt := 16) hx hb dX9_run_231 rfl ?_
              exact ih16 x16_4 (x16_5 + 1) Fn42 _ _ (by (first | omega | (have zz0 := Hid.u hb_cn; omega))) ⟨(Fr.mo hf42 (sbl rfl) (sbl rfl) (sbl rfl)), hIn42⟩ hP hD hS ls (lv_sub hl [0, 4, 5, 6, 7, 8] rfl)
            ·
              refine lv_tableIn (tgt := 203) (off := 141) hx hb dX9_run_62 (by (first | omega | (have zz0 := Hid.u hb_cn; omega))) (by (first | omega | (have zz0 := Hid.u hb_cn; omega))) (by rw [c_12]; rfl) (by decide) ?_
              refine lv_aload_n hx hb dX9_run_203 rfl (lvA4 hl) ?_
              have hFc := free_all hD hS hA
              refine va_calli (runV_xa (As := []) (rest := []) S (q_Xpop l D cI cB cZ zz qq vv bt g ad cn In F16 k0 H.size hI16 (by (first | omega | (have zz0 := Hid.u hb_cn; omega)))) kV_RX9_67 hK hXS hS hFc hP hD _ (xf_7 hk) rfl rfl ⟨Nat.le_of_ble_eq_true rfl, Nat.le_of_ble_eq_true rfl⟩ ⟨Nat.le_of_ble_eq_true rfl, Nat.le_of_ble_eq_true rfl⟩ rfl hl.1 rfl (Nat.le_of_ble_eq_true rfl) dX9_run_204) hS (fun q _ h => hFc q h) hFc (fun r_43 u t H1 locs ht hvm wh_44 hB1 hz1 hk1 hS => ?_)
              obtain ⟨cn44, In44, Fn44⟩ := u
              obtain ⟨hP1, hD1⟩ := hB1
              rw [ht] at hP1
              have hP : va_P D vwCl (wX cI (D.1 99) zz g ad cn44 In44 Fn44) H1 := hP1
              have hD : va_D A (wX cI (D.1 99) zz g ad cn44 In44 Fn44) := hD1.weaken (fun _ _ _ h => hFc _ h)
              generalize H1 = H at hP hS ⊢
              have vh_44 : (fun r c2 I2 F2 => Fr [] [] [196] cn In F16 c2 I2 F2 ∧ CBX c2 ∧ (True)) r_43 cn44 In44 Fn44 := wh_44
              obtain ⟨hfc44, hIn44, h_44⟩ := vh_44
              obtain rfl : cn = cn44 := (funext (fun k => hfc44.1 k List.not_mem_nil)).symm
              obtain rfl : In = In44 := (funext (fun k => hfc44.2.1 k List.not_mem_nil)).symm
              have hf44 : Fr [] [] [196, 197, 305] cn In Fn cn In Fn44 := Fr.mo (Fr.tr hfr16 hfc44) (sbl rfl) (sbl rfl) (sbl rfl)
              replace hIn44 : CBXh cn := hIn44
              refine lv_istore (lv' := [(8, .int r_43), (7, .int ((atM (gA (F16 301) 200 k0) (((F16 199) k0).toInt.toNat) x16_5) &&& 1048575)), (6, .int (atM (gA (F16 301) 200 k0) (((F16 199) k0).toInt.toNat) x16_5)), (5, .int x16_5), (4, .int x16_4), (0, .ref (ad 5 k0)), (1, .int v0), (2, .int v1), (3, .ref (g 7))]) hx hb dX9_run_207 hl (ltb rfl) rfl (fun ls hl => ?_)
              refine lv_aload_n hx hb dX9_run_209 rfl (lvA5 hl) ?_
              refine lv_aload_n hx hb dX9_run_210 rfl (lvA5 hl) ?_
              refine lv_iload hx hb dX9_run_211 (lvA2 hl) ?_
              refine lv_bipush (v := 20) hx hb dX9_run_213 kbc_20 ?_
              refine lv_ishr hx hb dX9_run_215 ?_
              refine lv_aload_n hx hb dX9_run_216 rfl (lvA5 hl) ?_
              have hFc := free_all hD hS hA
              refine va_calli (runV_xa (As := []) (rest := [.int ((atM (gA (F16 301) 200 k0) (((F16 199) k0).toInt.toNat) x16_5) >>> (20 &&& 31)), .ref (ad 5 k0), .ref (ad 5 k0)]) S (q_Xpop l D cI cB cZ zz qq vv bt g ad cn In Fn44 k0 H.size hIn44 (by (first | omega | (have zz0 := Hid.u hb_cn; omega)))) kV_RX9_67 hK hXS hS hFc hP hD _ (xf_7 hk) rfl rfl ⟨Nat.le_of_ble_eq_true rfl, Nat.le_of_ble_eq_true rfl⟩ ⟨Nat.le_of_ble_eq_true rfl, Nat.le_of_ble_eq_true rfl⟩ rfl hl.1 rfl (Nat.le_of_ble_eq_true rfl) dX9_run_217) hS (fun q _ h => hFc q h) hFc (fun r_45 u t H1 locs ht hvm wh_46 hB1 hz1 hk1 hS => ?_)
              obtain ⟨cn46, In46, Fn46⟩ := u
              obtain ⟨hP1, hD1⟩ := hB1
              rw [ht] at hP1
              have hP : va_P D vwCl (wX cI (D.1 99) zz g ad cn46 In46 Fn46) H1 := hP1
              have hD : va_D A (wX cI (D.1 99) zz g ad cn46 In46 Fn46) := hD1.weaken (fun _ _ _ h => hFc _ h)
              generalize H1 = H at hP hS ⊢
              have vh_46 : (fun r c2 I2 F2 => Fr [] [] [196] cn In Fn44 c2 I2 F2 ∧ CBX c2 ∧ (True)) r_45 cn46 In46 Fn46 := wh_46
              obtain ⟨hfc46, hIn46, h_46⟩ := vh_46
              obtain rfl : cn = cn46 := (funext (fun k => hfc46.1 k List.not_mem_nil)).symm
              obtain rfl : In = In46 := (funext (fun k => hfc46.2.1 k List.not_mem_nil)).symm
              have hf46 : Fr [] [] [196, 197, 305] cn In Fn cn In Fn46 := Fr.mo (Fr.tr hf44 hfc46) (sbl rfl) (sbl rfl) (sbl rfl)
              replace hIn46 : CBXh cn := hIn46
              refine lv_iload hx hb dX9_run_220 (lvA0 hl) ?_
              have hFc := free_all hD hS hA
              refine va_calli (runV_xa (As := [.int ((atM (gA (F16 301) 200 k0) (((F16 199) k0).toInt.toNat) x16_5) >>> (20 &&& 31)), .int r_45, .int r_43]) (rest := [.ref (ad 5 k0)]) S (q_Xreckon l D cI cB cZ zz qq vv bt g ad cn In Fn46 k0 ((atM (gA (F16 301) 200 k0) (((F16 199) k0).toInt.toNat) x16_5) >>> (20 &&& 31)) r_45 r_43 H.size hIn46 (by (first | omega | (have zz0 := Hid.u hb_cn; omega)))) kV_RX9_75 hK hXS hS hFc hP hD _ (xf_7 hk) rfl rfl ⟨Nat.le_of_ble_eq_true rfl, Nat.le_of_ble_eq_true rfl⟩ ⟨Nat.le_of_ble_eq_true rfl, Nat.le_of_ble_eq_true rfl⟩ rfl hl.1 rfl (Nat.le_of_ble_eq_true rfl) dX9_run_222) hS (fun q _ h => hFc q h) hFc (fun r_47 u t H1 locs ht hvm wh_48 hB1 hz1 hk1 hS => ?_)
              obtain ⟨cn48, In48, Fn48⟩ := u
              obtain ⟨hP1, hD1⟩ := hB1
              rw [ht] at hP1
              have hP : va_P D vwCl (wX cI (D.1 99) zz g ad cn48 In48 Fn48) H1 := hP1
              have hD : va_D A (wX cI (D.1 99) zz g ad cn48 In48 Fn48) := hD1.weaken (fun _ _ _ h => hFc _ h)
              generalize H1 = H at hP hS ⊢
              have vh_48 : (fun r c2 I2 F2 => Fr [] [] [197] cn In Fn46 c2 I2 F2 ∧ CBX c2 ∧ (True)) r_47 cn48 In48 Fn48 := wh_48
              obtain ⟨hfc48, hIn48, h_48⟩ := vh_48
              obtain rfl : cn = cn48 := (funext (fun k => hfc48.1 k List.not_mem_nil)).symm
              obtain rfl : In = In48 := (funext (fun k => hfc48.2.1 k List.not_mem_nil)).symm
              have hf48 : Fr [] [] [196, 197, 305] cn In Fn cn In Fn48 := Fr.mo (Fr.tr hf46 hfc48) (sbl rfl) (sbl rfl) (sbl rfl)
              replace hIn48 : CBXh cn := hIn48
              have hFc := free_all hD hS hA
              refine va_callv (runV_xa (As := [.int r_47]) (rest := []) S (q_Xpush l D cI cB cZ zz qq vv bt g ad cn In Fn48 k0 r_47 H.size hIn48 (by (first | omega | (have zz0 := Hid.u hb_cn; omega)))) kV_RX9_63 hK hXS hS hFc hP hD _ (xf_7 hk) rfl rfl ⟨Nat.le_of_ble_eq_true rfl, Nat.le_of_ble_eq_true rfl⟩ ⟨Nat.le_of_ble_eq_true rfl, Nat.le_of_ble_eq_true rfl⟩ rfl hl.1 rfl (Nat.le_of_ble_eq_true rfl) dX9_run_225) hS (fun q _ h => hFc q h) hFc (fun u t H1 locs ht hvm wh_50 hB1 hz1 hk1 hS => ?_)
              obtain ⟨cn50, In50, Fn50⟩ := u
              obtain ⟨hP1, hD1⟩ := hB1
              rw [ht] at hP1
              have hP : va_P D vwCl (wX cI (D.1 99) zz g ad cn50 In50 Fn50) H1 := hP1
              have hD : va_D A (wX cI (D.1 99) zz g ad cn50 In50 Fn50) := hD1.weaken (fun _ _ _ h => hFc _ h)
              generalize H1 = H at hP hS ⊢
              have vh_50 : (fun c2 I2 F2 => Fr [] [] [196, 305] cn In Fn48 c2 I2 F2 ∧ CBX c2 ∧ (True)) cn50 In50 Fn50 := wh_50
              obtain ⟨hfc50, hIn50, h_50⟩ := vh_50
              obtain rfl : cn = cn50 := (funext (fun k => hfc50.1 k List.not_mem_nil)).symm
              obtain rfl : In = In50 := (funext (fun k => hfc50.2.1 k List.not_mem_nil)).symm
              have hf50 : Fr [] [] [196, 197, 305] cn In Fn cn In Fn50 := Fr.mo (Fr.tr hf48 hfc50) (sbl rfl) (sbl rfl) (sbl rfl)
              replace hIn50 : CBXh cn := hIn50
              have hinc := inc_toInt (x := x16_5) (y := v1) (by (first | omega | (have zz0 := Hid.u hb_cn; omega)))
              refine lv_iinc (v := (x16_5 + 1)) (lv' := [(5, .int (x16_5 + 1)), (8, .int r_43), (7, .int ((atM (gA (F16 301) 200 k0) (((F16 199) k0).toInt.toNat) x16_5) &&& 1048575)), (6, .int (atM (gA (F16 301) 200 k0) (((F16 199) k0).toInt.toNat) x16_5)), (4, .int x16_4), (0, .ref (ad 5 k0)), (1, .int v0), (2, .int v1), (3, .ref (g 7))]) hx hb dX9_run_228 hl (k := 3) rfl rfl (ltb rfl) rfl (fun ls hl => ?_)
              refine lv_goto (tgt := 16) hx hb dX9_run_231 rfl ?_
              exact ih16 x16_4 (x16_5 + 1) Fn50 _ _ (by (first | omega | (have zz0 := Hid.u hb_cn; omega))) ⟨(Fr.mo hf50 (sbl rfl) (sbl rfl) (sbl rfl)), hIn50⟩ hP hD hS ls (lv_sub hl [0, 4, 5, 6, 7, 8] rfl)
            ·
              refine lv_tableIn (tgt := 203) (off := 141) hx hb dX9_run_62 (by (first | omega | (have zz0 := Hid.u hb_cn; omega))) (by (first | omega | (have zz0 := Hid.u hb_cn; omega))) (by rw [c_12]; rfl) (by decide) ?_
              refine lv_aload_n hx hb dX9_run_203 rfl (lvA4 hl) ?_
              have hFc := free_all hD hS hA
              refine va_calli (runV_xa (As := []) (rest := []) S (q_Xpop l D cI cB cZ zz qq vv bt g ad cn In F16 k0 H.size hI16 (by (first | omega | (have zz0 := Hid.u hb_cn; omega)))) kV_RX9_67 hK hXS hS hFc hP hD _ (xf_7 hk) rfl rfl ⟨Nat.le_of_ble_eq_true rfl, Nat.le_of_ble_eq_true rfl⟩ ⟨Nat.le_of_ble_eq_true rfl, Nat.le_of_ble_eq_true rfl⟩ rfl hl.1 rfl (Nat.le_of_ble_eq_true rfl) dX9_run_204) hS (fun q _ h => hFc q h) hFc (fun r_51 u t H1 locs ht hvm wh_52 hB1 hz1 hk1 hS => ?_)
              obtain ⟨cn52, In52, Fn52⟩ := u
              obtain ⟨hP1, hD1⟩ := hB1
              rw [ht] at hP1
              have hP : va_P D vwCl (wX cI (D.1 99) zz g ad cn52 In52 Fn52) H1 := hP1
              have hD : va_D A (wX cI (D.1 99) zz g ad cn52 In52 Fn52) := hD1.weaken (fun _ _ _ h => hFc _ h)
              generalize H1 = H at hP hS ⊢
              have vh_52 : (fun r c2 I2 F2 => Fr [] [] [196] cn In F16 c2 I2 F2 ∧ CBX c2 ∧ (True)) r_51 cn52 In52 Fn52 := wh_52
              obtain ⟨hfc52, hIn52, h_52⟩ := vh_52
              obtain rfl : cn = cn52 := (funext (fun k => hfc52.1 k List.not_mem_nil)).symm
              obtain rfl : In = In52 := (funext (fun k => hfc52.2.1 k List.not_mem_nil)).symm
              have hf52 : Fr [] [] [196, 197, 305] cn In Fn cn In Fn52 := Fr.mo (Fr.tr hfr16 hfc52) (sbl rfl) (sbl rfl) (sbl rfl)
              replace hIn52 : CBXh cn := hIn52
              refine lv_istore (lv' := [(8, .int r_51), (7, .int ((atM (gA (F16 301) 200 k0) (((F16 199) k0).toInt.toNat) x16_5) &&& 1048575)), (6, .int (atM (gA (F16 301) 200 k0) (((F16 199) k0).toInt.toNat) x16_5)), (5, .int x16_5), (4, .int x16_4), (0, .ref (ad 5 k0)), (1, .int v0), (2, .int v1), (3, .ref (g 7))]) hx hb dX9_run_207 hl (ltb rfl) rfl (fun ls hl => ?_)
              refine lv_aload_n hx hb dX9_run_209 rfl (lvA5 hl) ?_
              refine lv_aload_n hx hb dX9_run_210 rfl (lvA5 hl) ?_
              refine lv_iload hx hb dX9_run_211 (lvA2 hl) ?_
              refine lv_bipush (v := 20) hx hb dX9_run_213 kbc_20 ?_
              refine lv_ishr hx hb dX9_run_215 ?_
              refine lv_aload_n hx hb dX9_run_216 rfl (lvA5 hl) ?_
              have hFc := free_all hD hS hA
              refine va_calli (runV_xa (As := []) (rest := [.int ((atM (gA (F16 301) 200 k0) (((F16 199) k0).toInt.toNat) x16_5) >>> (20 &&& 31)), .ref (ad 5 k0), .ref (ad 5 k0)]) S (q_Xpop l D cI cB cZ zz qq vv bt g ad cn In Fn52 k0 H.size hIn52 (by (first | omega | (have zz0 := Hid.u hb_cn; omega)))) kV_RX9_67 hK hXS hS hFc hP hD _ (xf_7 hk) rfl rfl ⟨Nat.le_of_ble_eq_true rfl, Nat.le_of_ble_eq_true rfl⟩ ⟨Nat.le_of_ble_eq_true rfl, Nat.le_of_ble_eq_true rfl⟩ rfl hl.1 rfl (Nat.le_of_ble_eq_true rfl) dX9_run_217) hS (fun q _ h => hFc q h) hFc (fun r_53 u t H1 locs ht hvm wh_54 hB1 hz1 hk1 hS => ?_)
              obtain ⟨cn54, In54, Fn54⟩ := u
              obtain ⟨hP1, hD1⟩ := hB1
              rw [ht] at hP1
              have hP : va_P D vwCl (wX cI (D.1 99) zz g ad cn54 In54 Fn54) H1 := hP1
              have hD : va_D A (wX cI (D.1 99) zz g ad cn54 In54 Fn54) := hD1.weaken (fun _ _ _ h => hFc _ h)
              generalize H1 = H at hP hS ⊢
              have vh_54 : (fun r c2 I2 F2 => Fr [] [] [196] cn In Fn52 c2 I2 F2 ∧ CBX c2 ∧ (True)) r_53 cn54 In54 Fn54 := wh_54
              obtain ⟨hfc54, hIn54, h_54⟩ := vh_54
              obtain rfl : cn = cn54 := (funext (fun k => hfc54.1 k List.not_mem_nil)).symm
              obtain rfl : In = In54 := (funext (fun k => hfc54.2.1 k List.not_mem_nil)).symm
              have hf54 : Fr [] [] [196, 197, 305] cn In Fn cn In Fn54 := Fr.mo (Fr.tr hf52 hfc54) (sbl rfl) (sbl rfl) (sbl rfl)
              replace hIn54 : CBXh cn := hIn54
              refine lv_iload hx hb dX9_run_220 (lvA0 hl) ?_
              have hFc := free_all hD hS hA
              refine va_calli (runV_xa (As := [.int ((atM (gA (F16 301) 200 k0) (((F16 199) k0).toInt.toNat) x16_5) >>> (20 &&& 31)), .int r_53, .int r_51]) (rest := [.ref (ad 5 k0)]) S (q_Xreckon l D cI cB cZ zz qq vv bt g ad cn In Fn54 k0 ((atM (gA (F16 301) 200 k0) (((F16 199) k0).toInt.toNat) x16_5) >>> (20 &&& 31)) r_53 r_51 H.size hIn54 (by (first | omega | (have zz0 := Hid.u hb_cn; omega)))) kV_RX9_75 hK hXS hS hFc hP hD _ (xf_7 hk) rfl rfl ⟨Nat.le_of_ble_eq_true rfl, Nat.le_of_ble_eq_true rfl⟩ ⟨Nat.le_of_ble_eq_true rfl, Nat.le_of_ble_eq_true rfl⟩ rfl hl.1 rfl (Nat.le_of_ble_eq_true rfl) dX9_run_222) hS (fun q _ h => hFc q h) hFc (fun r_55 u t H1 locs ht hvm wh_56 hB1 hz1 hk1 hS => ?_)
              obtain ⟨cn56, In56, Fn56⟩ := u
              obtain ⟨hP1, hD1⟩ := hB1
              rw [ht] at hP1
              have hP : va_P D vwCl (wX cI (D.1 99) zz g ad cn56 In56 Fn56) H1 := hP1
              have hD : va_D A (wX cI (D.1 99) zz g ad cn56 In56 Fn56) := hD1.weaken (fun _ _ _ h => hFc _ h)
              generalize H1 = H at hP hS ⊢
              have vh_56 : (fun r c2 I2 F2 => Fr [] [] [197] cn In Fn54 c2 I2 F2 ∧ CBX c2 ∧ (True)) r_55 cn56 In56 Fn56 := wh_56
              obtain ⟨hfc56, hIn56, h_56⟩ := vh_56
              obtain rfl : cn = cn56 := (funext (fun k => hfc56.1 k List.not_mem_nil)).symm
              obtain rfl : In = In56 := (funext (fun k => hfc56.2.1 k List.not_mem_nil)).symm
              have hf56 : Fr [] [] [196, 197, 305] cn In Fn cn In Fn56 := Fr.mo (Fr.tr hf54 hfc56) (sbl rfl) (sbl rfl) (sbl rfl)
              replace hIn56 : CBXh cn := hIn56
              have hFc := free_all hD hS hA
              refine va_callv (runV_xa (As := [.int r_55]) (rest := []) S (q_Xpush l D cI cB cZ zz qq vv bt g ad cn In Fn56 k0 r_55 H.size hIn56 (by (first | omega | (have zz0 := Hid.u hb_cn; omega)))) kV_RX9_63 hK hXS hS hFc hP hD _ (xf_7 hk) rfl rfl ⟨Nat.le_of_ble_eq_true rfl, Nat.le_of_ble_eq_true rfl⟩ ⟨Nat.le_of_ble_eq_true rfl, Nat.le_of_ble_eq_true rfl⟩ rfl hl.1 rfl (Nat.le_of_ble_eq_true rfl) dX9_run_225) hS (fun q _ h => hFc q h) hFc (fun u t H1 locs ht hvm wh_58 hB1 hz1 hk1 hS => ?_)
              obtain ⟨cn58, In58, Fn58⟩ := u
              obtain ⟨hP1, hD1⟩ := hB1
              rw [ht] at hP1
              have hP : va_P D vwCl (wX cI (D.1 99) zz g ad cn58 In58 Fn58) H1 := hP1
              have hD : va_D A (wX cI (D.1 99) zz g ad cn58 In58 Fn58) := hD1.weaken (fun _ _ _ h => hFc _ h)
              generalize H1 = H at hP hS ⊢
              have vh_58 : (fun c2 I2 F2 => Fr [] [] [196, 305] cn In Fn56 c2 I2 F2 ∧ CBX c2 ∧ (True)) cn58 In58 Fn58 := wh_58
              obtain ⟨hfc58, hIn58, h_58⟩ := vh_58
              obtain rfl : cn = cn58 := (funext (fun k => hfc58.1 k List.not_mem_nil)).symm
              obtain rfl : In = In58 := (funext (fun k => hfc58.2.1 k List.not_mem_nil)).symm
              have hf58 : Fr [] [] [196, 197, 305] cn In Fn cn In Fn58 := Fr.mo (Fr.tr hf56 hfc58) (sbl rfl) (sbl rfl) (sbl rfl)
              replace hIn58 : CBXh cn := hIn58
              have hinc := inc_toInt (x := x16_5) (y := v1) (by (first | omega | (have zz0 := Hid.u hb_cn; omega)))
              refine lv_iinc (v := (x16_5 + 1)) (lv' := [(5, .int (x16_5 + 1)), (8, .int r_51), (7, .int ((atM (gA (F16 301) 200 k0) (((F16 199) k0).toInt.toNat) x16_5) &&& 1048575)), (6, .int (atM (gA (F16 301) 200 k0) (((F16 199) k0).toInt.toNat) x16_5)), (4, .int x16_4), (0, .ref (ad 5 k0)), (1, .int v0), (2, .int v1), (3, .ref (g 7))]) hx hb dX9_run_228 hl (k := 3) rfl rfl (ltb rfl) rfl (fun ls hl => ?_)
              refine lv_goto (tgt := 16) hx hb dX9_run_231 rfl ?_
              exact ih16 x16_4 (x16_5 + 1) Fn58 _ _ (by (first | omega | (have zz0 := Hid.u hb_cn; omega))) ⟨(Fr.mo hf58 (sbl rfl) (sbl rfl) (sbl rfl)), hIn58⟩ hP hD hS ls (lv_sub hl [0, 4, 5, 6, 7, 8] rfl)
            ·
              refine lv_tableIn (tgt := 203) (off := 141) hx hb dX9_run_62 (by (first | omega | (have zz0 := Hid.u hb_cn; omega))) (by (first | omega | (have zz0 := Hid.u hb_cn; omega))) (by rw [c_12]; rfl) (by decide) ?_
              refine lv_aload_n hx hb dX9_run_203 rfl (lvA4 hl) ?_
              have hFc := free_all hD hS hA
              refine va_calli (runV_xa (As := []) (rest := []) S (q_Xpop l D cI cB cZ zz qq vv bt g ad cn In F16 k0 H.size hI16 (by (first | omega | (have zz0 := Hid.u hb_cn; omega)))) kV_RX9_67 hK hXS hS hFc hP hD _ (xf_7 hk) rfl rfl ⟨Nat.le_of_ble_eq_true rfl, Nat.le_of_ble_eq_true rfl⟩ ⟨Nat.le_of_ble_eq_true rfl, Nat.le_of_ble_eq_true rfl⟩ rfl hl.1 rfl (Nat.le_of_ble_eq_true rfl) dX9_run_204) hS (fun q _ h => hFc q h) hFc (fun r_59 u t H1 locs ht hvm wh_60 hB1 hz1 hk1 hS => ?_)
              obtain ⟨cn60, In60, Fn60⟩ := u
              obtain ⟨hP1, hD1⟩ := hB1
              rw [ht] at hP1
              have hP : va_P D vwCl (wX cI (D.1 99) zz g ad cn60 In60 Fn60) H1 := hP1
              have hD : va_D A (wX cI (D.1 99) zz g ad cn60 In60 Fn60) := hD1.weaken (fun _ _ _ h => hFc _ h)
              generalize H1 = H at hP hS ⊢
              have vh_60 : (fun r c2 I2 F2 => Fr [] [] [196] cn In F16 c2 I2 F2 ∧ CBX c2 ∧ (True)) r_59 cn60 In60 Fn60 := wh_60
              obtain ⟨hfc60, hIn60, h_60⟩ := vh_60
              obtain rfl : cn = cn60 := (funext (fun k => hfc60.1 k List.not_mem_nil)).symm
              obtain rfl : In = In60 := (funext (fun k => hfc60.2.1 k List.not_mem_nil)).symm
              have hf60 : Fr [] [] [196, 197, 305] cn In Fn cn In Fn60 := Fr.mo (Fr.tr hfr16 hfc60) (sbl rfl) (sbl rfl) (sbl rfl)
              replace hIn60 : CBXh cn := hIn60
              refine lv_istore (lv' := [(8, .int r_59), (7, .int ((atM (gA (F16 301) 200 k0) (((F16 199) k0).toInt.toNat) x16_5) &&& 1048575)), (6, .int (atM (gA (F16 301) 200 k0) (((F16 199) k0).toInt.toNat) x16_5)), (5, .int x16_5), (4, .int x16_4), (0, .ref (ad 5 k0)), (1, .int v0), (2, .int v1), (3, .ref (g 7))]) hx hb dX9_run_207 hl (ltb rfl) rfl (fun ls hl => ?_)
              refine lv_aload_n hx hb dX9_run_209 rfl (lvA5 hl) ?_
              refine lv_aload_n hx hb dX9_run_210 rfl (lvA5 hl) ?_
              refine lv_iload hx hb dX9_run_211 (lvA2 hl) ?_
              refine lv_bipush (v := 20) hx hb dX9_run_213 kbc_20 ?_
              refine lv_ishr hx hb dX9_run_215 ?_
              refine lv_aload_n hx hb dX9_run_216 rfl (lvA5 hl) ?_
              have hFc := free_all hD hS hA
              refine va_calli (runV_xa (As := []) (rest := [.int ((atM (gA (F16 301) 200 k0) (((F16 199) k0).toInt.toNat) x16_5) >>> (20 &&& 31)), .ref (ad 5 k0), .ref (ad 5 k0)]) S (q_Xpop l D cI cB cZ zz qq vv bt g ad cn In Fn60 k0 H.size hIn60 (by (first | omega | (have zz0 := Hid.u hb_cn; omega)))) kV_RX9_67 hK hXS hS hFc hP hD _ (xf_7 hk) rfl rfl ⟨Nat.le_of_ble_eq_true rfl, Nat.le_of_ble_eq_true rfl⟩ ⟨Nat.le_of_ble_eq_true rfl, Nat.le_of_ble_eq_true rfl⟩ rfl hl.1 rfl (Nat.le_of_ble_eq_true rfl) dX9_run_217) hS (fun q _ h => hFc q h) hFc (fun r_61 u t H1 locs ht hvm wh_62 hB1 hz1 hk1 hS => ?_)
              obtain ⟨cn62, In62, Fn62⟩ := u
              obtain ⟨hP1, hD1⟩ := hB1
              rw [ht] at hP1
              have hP : va_P D vwCl (wX cI (D.1 99) zz g ad cn62 In62 Fn62) H1 := hP1
              have hD : va_D A (wX cI (D.1 99) zz g ad cn62 In62 Fn62) := hD1.weaken (fun _ _ _ h => hFc _ h)
              generalize H1 = H at hP hS ⊢
              have vh_62 : (fun r c2 I2 F2 => Fr [] [] [196] cn In Fn60 c2 I2 F2 ∧ CBX c2 ∧ (True)) r_61 cn62 In62 Fn62 := wh_62
              obtain ⟨hfc62, hIn62, h_62⟩ := vh_62
              obtain rfl : cn = cn62 := (funext (fun k => hfc62.1 k List.not_mem_nil)).symm
              obtain rfl : In = In62 := (funext (fun k => hfc62.2.1 k List.not_mem_nil)).symm
              have hf62 : Fr [] [] [196, 197, 305] cn In Fn cn In Fn62 := Fr.mo (Fr.tr hf60 hfc62) (sbl rfl) (sbl rfl) (sbl rfl)
              replace hIn62 : CBXh cn := hIn62
              refine lv_iload hx hb dX9_run_220 (lvA0 hl) ?_
              have hFc := free_all hD hS hA
              refine va_calli (runV_xa (As := [.int ((atM (gA (F16 301) 200 k0) (((F16 199) k0).toInt.toNat) x16_5) >>> (20 &&& 31)), .int r_61, .int r_59]) (rest := [.ref (ad 5 k0)]) S (q_Xreckon l D cI cB cZ zz qq vv bt g ad cn In Fn62 k0 ((atM (gA (F16 301) 200 k0) (((F16 199) k0).toInt.toNat) x16_5) >>> (20 &&& 31)) r_61 r_59 H.size hIn62 (by (first | omega | (have zz0 := Hid.u hb_cn; omega)))) kV_RX9_75 hK hXS hS hFc hP hD _ (xf_7 hk) rfl rfl ⟨Nat.le_of_ble_eq_true rfl, Nat.le_of_ble_eq_true rfl⟩ ⟨Nat.le_of_ble_eq_true rfl, Nat.le_of_ble_eq_true rfl⟩ rfl hl.1 rfl (Nat.le_of_ble_eq_true rfl) dX9_run_222) hS (fun q _ h => hFc q h) hFc (fun r_63 u t H1 locs ht hvm wh_64 hB1 hz1 hk1 hS => ?_)
              obtain ⟨cn64, In64, Fn64⟩ := u
              obtain ⟨hP1, hD1⟩ := hB1
              rw [ht] at hP1
              have hP : va_P D vwCl (wX cI (D.1 99) zz g ad cn64 In64 Fn64) H1 := hP1
              have hD : va_D A (wX cI (D.1 99) zz g ad cn64 In64 Fn64) := hD1.weaken (fun _ _ _ h => hFc _ h)
              generalize H1 = H at hP hS ⊢
              have vh_64 : (fun r c2 I2 F2 => Fr [] [] [197] cn In Fn62 c2 I2 F2 ∧ CBX c2 ∧ (True)) r_63 cn64 In64 Fn64 := wh_64
              obtain ⟨hfc64, hIn64, h_64⟩ := vh_64
              obtain rfl : cn = cn64 := (funext (fun k => hfc64.1 k List.not_mem_nil)).symm
              obtain rfl : In = In64 := (funext (fun k => hfc64.2.1 k List.not_mem_nil)).symm
              have hf64 : Fr [] [] [196, 197, 305] cn In Fn cn In Fn64 := Fr.mo (Fr.tr hf62 hfc64) (sbl rfl) (sbl rfl) (sbl rfl)
              replace hIn64 : CBXh cn := hIn64
              have hFc := free_all hD hS hA
              refine va_callv (runV_xa (As := [.int r_63]) (rest := []) S (q_Xpush l D cI cB cZ zz qq vv bt g ad cn In Fn64 k0 r_63 H.size hIn64 (by (first | omega | (have zz0 := Hid.u hb_cn; omega)))) kV_RX9_63 hK hXS hS hFc hP hD _ (xf_7 hk) rfl rfl ⟨Nat.le_of_ble_eq_true rfl, Nat.le_of_ble_eq_true rfl⟩ ⟨Nat.le_of_ble_eq_true rfl, Nat.le_of_ble_eq_true rfl⟩ rfl hl.1 rfl (Nat.le_of_ble_eq_true rfl) dX9_run_225) hS (fun q _ h => hFc q h) hFc (fun u t H1 locs ht hvm wh_66 hB1 hz1 hk1 hS => ?_)
              obtain ⟨cn66, In66, Fn66⟩ := u
              obtain ⟨hP1, hD1⟩ := hB1
              rw [ht] at hP1
              have hP : va_P D vwCl (wX cI (D.1 99) zz g ad cn66 In66 Fn66) H1 := hP1
              have hD : va_D A (wX cI (D.1 99) zz g ad cn66 In66 Fn66) := hD1.weaken (fun _ _ _ h => hFc _ h)
              generalize H1 = H at hP hS ⊢
              have vh_66 : (fun c2 I2 F2 => Fr [] [] [196, 305] cn In Fn64 c2 I2 F2 ∧ CBX c2 ∧ (True)) cn66 In66 Fn66 := wh_66
              obtain ⟨hfc66, hIn66, h_66⟩ := vh_66
              obtain rfl : cn = cn66 := (funext (fun k => hfc66.1 k List.not_mem_nil)).symm
              obtain rfl : In = In66 := (funext (fun k => hfc66.2.1 k List.not_mem_nil)).symm
              have hf66 : Fr [] [] [196, 197, 305] cn In Fn cn In Fn66 := Fr.mo (Fr.tr hf64 hfc66) (sbl rfl) (sbl rfl) (sbl rfl)
              replace hIn66 : CBXh cn := hIn66
              have hinc := inc_toInt (x := x16_5) (y := v1) (by (first | omega | (have zz0 := Hid.u hb_cn; omega)))
              refine lv_iinc (v := (x16_5 + 1)) (lv' := [(5, .int (x16_5 + 1)), (8, .int r_59), (7, .int ((atM (gA (F16 301) 200 k0) (((F16 199) k0).toInt.toNat) x16_5) &&& 1048575)), (6, .int (atM (gA (F16 301) 200 k0) (((F16 199) k0).toInt.toNat) x16_5)), (4, .int x16_4), (0, .ref (ad 5 k0)), (1, .int v0), (2, .int v1), (3, .ref (g 7))]) hx hb dX9_run_228 hl (k := 3) rfl rfl (ltb rfl) rfl (fun ls hl => ?_)
              refine lv_goto (tgt := 16) hx hb dX9_run_231 rfl ?_
              exact ih16 x16_4 (x16_5 + 1) Fn66 _ _ (by (first | omega | (have zz0 := Hid.u hb_cn; omega))) ⟨(Fr.mo hf66 (sbl rfl) (sbl rfl) (sbl rfl)), hIn66⟩ hP hD hS ls (lv_sub hl [0, 4, 5, 6, 7, 8] rfl)
            ·
              refine lv_tableIn (tgt := 203) (off := 141) hx hb dX9_run_62 (by (first | omega | (have zz0 := Hid.u hb_cn; omega))) (by (first | omega | (have zz0 := Hid.u hb_cn; omega))) (by rw [c_12]; rfl) (by decide) ?_
              refine lv_aload_n hx hb dX9_run_203 rfl (lvA4 hl) ?_
              have hFc := free_all hD hS hA
              refine va_calli (runV_xa (As := []) (rest := []) S (q_Xpop l D cI cB cZ zz qq vv bt g ad cn In F16 k0 H.size hI16 (by (first | omega | (have zz0 := Hid.u hb_cn; omega)))) kV_RX9_67 hK hXS hS hFc hP hD _ (xf_7 hk) rfl rfl ⟨Nat.le_of_ble_eq_true rfl, Nat.le_of_ble_eq_true rfl⟩ ⟨Nat.le_of_ble_eq_true rfl, Nat.le_of_ble_eq_true rfl⟩ rfl hl.1 rfl (Nat.le_of_ble_eq_true rfl) dX9_run_204) hS (fun q _ h => hFc q h) hFc (fun r_67 u t H1 locs ht hvm wh_68 hB1 hz1 hk1 hS => ?_)
              obtain ⟨cn68, In68, Fn68⟩ := u
              obtain ⟨hP1, hD1⟩ := hB1
              rw [ht] at hP1
              have hP : va_P D vwCl (wX cI (D.1 99) zz g ad cn68 In68 Fn68) H1 := hP1
              have hD : va_D A (wX cI (D.1 99) zz g ad cn68 In68 Fn68) := hD1.weaken (fun _ _ _ h => hFc _ h)
              generalize H1 = H at hP hS ⊢
              have vh_68 : (fun r c2 I2 F2 => Fr [] [] [196] cn In F16 c2 I2 F2 ∧ CBX c2 ∧ (True)) r_67 cn68 In68 Fn68 := wh_68
              obtain ⟨hfc68, hIn68, h_68⟩ := vh_68
              obtain rfl : cn = cn68 := (funext (fun k => hfc68.1 k List.not_mem_nil)).symm
              obtain rfl : In = In68 := (funext (fun k => hfc68.2.1 k List.not_mem_nil)).symm
              have hf68 : Fr [] [] [196, 197, 305] cn In Fn cn In Fn68 := Fr.mo (Fr.tr hfr16 hfc68) (sbl rfl) (sbl rfl) (sbl rfl)
              replace hIn68 : CBXh cn := hIn68
              refine lv_istore (lv' := [(8, .int r_67), (7, .int ((atM (gA (F16 301) 200 k0) (((F16 199) k0).toInt.toNat) x16_5) &&& 1048575)), (6, .int (atM (gA (F16 301) 200 k0) (((F16 199) k0).toInt.toNat) x16_5)), (5, .int x16_5), (4, .int x16_4), (0, .ref (ad 5 k0)), (1, .int v0), (2, .int v1), (3, .ref (g 7))]) hx hb dX9_run_207 hl (ltb rfl) rfl (fun ls hl => ?_)
              refine lv_aload_n hx hb dX9_run_209 rfl (lvA5 hl) ?_
              refine lv_aload_n hx hb dX9_run_210 rfl (lvA5 hl) ?_
              refine lv_iload hx hb dX9_run_211 (lvA2 hl) ?_
              refine lv_bipush (v := 20) hx hb dX9_run_213 kbc_20 ?_
              refine lv_ishr hx hb dX9_run_215 ?_
              refine lv_aload_n hx hb dX9_run_216 rfl (lvA5 hl) ?_
              have hFc := free_all hD hS hA
              refine va_calli (runV_xa (As := []) (rest := [.int ((atM (gA (F16 301) 200 k0) (((F16 199) k0).toInt.toNat) x16_5) >>> (20 &&& 31)), .ref (ad 5 k0), .ref (ad 5 k0)]) S (q_Xpop l D cI cB cZ zz qq vv bt g ad cn In Fn68 k0 H.size hIn68 (by (first | omega | (have zz0 := Hid.u hb_cn; omega)))) kV_RX9_67 hK hXS hS hFc hP hD _ (xf_7 hk) rfl rfl ⟨Nat.le_of_ble_eq_true rfl, Nat.le_of_ble_eq_true rfl⟩ ⟨Nat.le_of_ble_eq_true rfl, Nat.le_of_ble_eq_true rfl⟩ rfl hl.1 rfl (Nat.le_of_ble_eq_true rfl) dX9_run_217) hS (fun q _ h => hFc q h) hFc (fun r_69 u t H1 locs ht hvm wh_70 hB1 hz1 hk1 hS => ?_)
              obtain ⟨cn70, In70, Fn70⟩ := u
              obtain ⟨hP1, hD1⟩ := hB1
              rw [ht] at hP1
              have hP : va_P D vwCl (wX cI (D.1 99) zz g ad cn70 In70 Fn70) H1 := hP1
              have hD : va_D A (wX cI (D.1 99) zz g ad cn70 In70 Fn70) := hD1.weaken (fun _ _ _ h => hFc _ h)
              generalize H1 = H at hP hS ⊢
              have vh_70 : (fun r c2 I2 F2 => Fr [] [] [196] cn In Fn68 c2 I2 F2 ∧ CBX c2 ∧ (True)) r_69 cn70 In70 Fn70 := wh_70
              obtain ⟨hfc70, hIn70, h_70⟩ := vh_70
              obtain rfl : cn = cn70 := (funext (fun k => hfc70.1 k List.not_mem_nil)).symm
              obtain rfl : In = In70 := (funext (fun k => hfc70.2.1 k List.not_mem_nil)).symm
              have hf70 : Fr [] [] [196, 197, 305] cn In Fn cn In Fn70 := Fr.mo (Fr.tr hf68 hfc70) (sbl rfl) (sbl rfl) (sbl rfl)
              replace hIn70 : CBXh cn := hIn70
              refine lv_iload hx hb dX9_run_220 (lvA0 hl) ?_
              have hFc := free_all hD hS hA
              refine va_calli (runV_xa (As := [.int ((atM (gA (F16 301) 200 k0) (((F16 199) k0).toInt.toNat) x16_5) >>> (20 &&& 31)), .int r_69, .int r_67]) (rest := [.ref (ad 5 k0)]) S (q_Xreckon l D cI cB cZ zz qq vv bt g ad cn In Fn70 k0 ((atM (gA (F16 301) 200 k0) (((F16 199) k0).toInt.toNat) x16_5) >>> (20 &&& 31)) r_69 r_67 H.size hIn70 (by (first | omega | (have zz0 := Hid.u hb_cn; omega)))) kV_RX9_75 hK hXS hS hFc hP hD _ (xf_7 hk) rfl rfl ⟨Nat.le_of_ble_eq_true rfl, Nat.le_of_ble_eq_true rfl⟩ ⟨Nat.le_of_ble_eq_true rfl, Nat.le_of_ble_eq_true rfl⟩ rfl hl.1 rfl (Nat.le_of_ble_eq_true rfl) dX9_run_222) hS (fun q _ h => hFc q h) hFc (fun r_71 u t H1 locs ht hvm wh_72 hB1 hz1 hk1 hS => ?_)
              obtain ⟨cn72, In72, Fn72⟩ := u
              obtain ⟨hP1, hD1⟩ := hB1
              rw [ht] at hP1
              have hP : va_P D vwCl (wX cI (D.1 99) zz g ad cn72 In72 Fn72) H1 := hP1
              have hD : va_D A (wX cI (D.1 99) zz g ad cn72 In72 Fn72) := hD1.weaken (fun _ _ _ h => hFc _ h)
              generalize H1 = H at hP hS ⊢
              have vh_72 : (fun r c2 I2 F2 => Fr [] [] [197] cn In Fn70 c2 I2 F2 ∧ CBX c2 ∧ (True)) r_71 cn72 In72 Fn72 := wh_72
              obtain ⟨hfc72, hIn72, h_72⟩ := vh_72
              obtain rfl : cn = cn72 := (funext (fun k => hfc72.1 k List.not_mem_nil)).symm
              obtain rfl : In = In72 := (funext (fun k => hfc72.2.1 k List.not_mem_nil)).symm
              have hf72 : Fr [] [] [196, 197, 305] cn In Fn cn In Fn72 := Fr.mo (Fr.tr hf70 hfc72) (sbl rfl) (sbl rfl) (sbl rfl)
              replace hIn72 : CBXh cn := hIn72
              have hFc := free_all hD hS hA
              refine va_callv (runV_xa (As := [.int r_71]) (rest := []) S (q_Xpush l D cI cB cZ zz qq vv bt g ad cn In Fn72 k0 r_71 H.size hIn72 (by (first | omega | (have zz0 := Hid.u hb_cn; omega)))) kV_RX9_63 hK hXS hS hFc hP hD _ (xf_7 hk) rfl rfl ⟨Nat.le_of_ble_eq_true rfl, Nat.le_of_ble_eq_true rfl⟩ ⟨Nat.le_of_ble_eq_true rfl, Nat.le_of_ble_eq_true rfl⟩ rfl hl.1 rfl (Nat.le_of_ble_eq_true rfl) dX9_run_225) hS (fun q _ h => hFc q h) hFc (fun u t H1 locs ht hvm wh_74 hB1 hz1 hk1 hS => ?_)
              obtain ⟨cn74, In74, Fn74⟩ := u
              obtain ⟨hP1, hD1⟩ := hB1
              rw [ht] at hP1
              have hP : va_P D vwCl (wX cI (D.1 99) zz g ad cn74 In74 Fn74) H1 := hP1
              have hD : va_D A (wX cI (D.1 99) zz g ad cn74 In74 Fn74) := hD1.weaken (fun _ _ _ h => hFc _ h)
              generalize H1 = H at hP hS ⊢
              have vh_74 : (fun c2 I2 F2 => Fr [] [] [196, 305] cn In Fn72 c2 I2 F2 ∧ CBX c2 ∧ (True)) cn74 In74 Fn74 := wh_74
              obtain ⟨hfc74, hIn74, h_74⟩ := vh_74
              obtain rfl : cn = cn74 := (funext (fun k => hfc74.1 k List.not_mem_nil)).symm
              obtain rfl : In = In74 := (funext (fun k => hfc74.2.1 k List.not_mem_nil)).symm
              have hf74 : Fr [] [] [196, 197, 305] cn In Fn cn In Fn74 := Fr.mo (Fr.tr hf72 hfc74) (sbl rfl) (sbl rfl) (sbl rfl)
              replace hIn74 : CBXh cn := hIn74
              have hinc := inc_toInt (x := x16_5) (y := v1) (by (first | omega | (have zz0 := Hid.u hb_cn; omega)))
              refine lv_iinc (v := (x16_5 + 1)) (lv' := [(5, .int (x16_5 + 1)), (8, .int r_67), (7, .int ((atM (gA (F16 301) 200 k0) (((F16 199) k0).toInt.toNat) x16_5) &&& 1048575)), (6, .int (atM (gA (F16 301) 200 k0) (((F16 199) k0).toInt.toNat) x16_5)), (4, .int x16_4), (0, .ref (ad 5 k0)), (1, .int v0), (2, .int v1), (3, .ref (g 7))]) hx hb dX9_run_228 hl (k := 3) rfl rfl (ltb rfl) rfl (fun ls hl => ?_)
              refine lv_goto (tgt := 16) hx hb dX9_run_231 rfl ?_
              exact ih16 x16_4 (x16_5 + 1) Fn74 _ _ (by (first | omega | (have zz0 := Hid.u hb_cn; omega))) ⟨(Fr.mo hf74 (sbl rfl) (sbl rfl) (sbl rfl)), hIn74⟩ hP hD hS ls (lv_sub hl [0, 4, 5, 6, 7, 8] rfl)
            ·
              refine lv_tableIn (tgt := 203) (off := 141) hx hb dX9_run_62 (by (first | omega | (have zz0 := Hid.u hb_cn; omega))) (by (first | omega | (have zz0 := Hid.u hb_cn; omega))) (by rw [c_12]; rfl) (by decide) ?_
              refine lv_aload_n hx hb dX9_run_203 rfl (lvA4 hl) ?_
              have hFc := free_all hD hS hA
              refine va_calli (runV_xa (As := []) (rest := []) S (q_Xpop l D cI cB cZ zz qq vv bt g ad cn In F16 k0 H.size hI16 (by (first | omega | (have zz0 := Hid.u hb_cn; omega)))) kV_RX9_67 hK hXS hS hFc hP hD _ (xf_7 hk) rfl rfl ⟨Nat.le_of_ble_eq_true rfl, Nat.le_of_ble_eq_true rfl⟩ ⟨Nat.le_of_ble_eq_true rfl, Nat.le_of_ble_eq_true rfl⟩ rfl hl.1 rfl (Nat.le_of_ble_eq_true rfl) dX9_run_204) hS (fun q _ h => hFc q h) hFc (fun r_75 u t H1 locs ht hvm wh_76 hB1 hz1 hk1 hS => ?_)
              obtain ⟨cn76, In76, Fn76⟩ := u
              obtain ⟨hP1, hD1⟩ := hB1
              rw [ht] at hP1
              have hP : va_P D vwCl (wX cI (D.1 99) zz g ad cn76 In76 Fn76) H1 := hP1
              have hD : va_D A (wX cI (D.1 99) zz g ad cn76 In76 Fn76) := hD1.weaken (fun _ _ _ h => hFc _ h)
              generalize H1 = H at hP hS ⊢
              have vh_76 : (fun r c2 I2 F2 => Fr [] [] [196] cn In F16 c2 I2 F2 ∧ CBX c2 ∧ (True)) r_75 cn76 In76 Fn76 := wh_76
              obtain ⟨hfc76, hIn76, h_76⟩ := vh_76
              obtain rfl : cn = cn76 := (funext (fun k => hfc76.1 k List.not_mem_nil)).symm
              obtain rfl : In = In76 := (funext (fun k => hfc76.2.1 k List.not_mem_nil)).symm
              have hf76 : Fr [] [] [196, 197, 305] cn In Fn cn In Fn76 := Fr.mo (Fr.tr hfr16 hfc76) (sbl rfl) (sbl rfl) (sbl rfl)
              replace hIn76 : CBXh cn := hIn76
              refine lv_istore (lv' := [(8, .int r_75), (7, .int ((atM (gA (F16 301) 200 k0) (((F16 199) k0).toInt.toNat) x16_5) &&& 1048575)), (6, .int (atM (gA (F16 301) 200 k0) (((F16 199) k0).toInt.toNat) x16_5)), (5, .int x16_5), (4, .int x16_4), (0, .ref (ad 5 k0)), (1, .int v0), (2, .int v1), (3, .ref (g 7))]) hx hb dX9_run_207 hl (ltb rfl) rfl (fun ls hl => ?_)
              refine lv_aload_n hx hb dX9_run_209 rfl (lvA5 hl) ?_
              refine lv_aload_n hx hb dX9_run_210 rfl (lvA5 hl) ?_
              refine lv_iload hx hb dX9_run_211 (lvA2 hl) ?_
              refine lv_bipush (v := 20) hx hb dX9_run_213 kbc_20 ?_
              refine lv_ishr hx hb dX9_run_215 ?_
              refine lv_aload_n hx hb dX9_run_216 rfl (lvA5 hl) ?_
              have hFc := free_all hD hS hA
              refine va_calli (runV_xa (As := []) (rest := [.int ((atM (gA (F16 301) 200 k0) (((F16 199) k0).toInt.toNat) x16_5) >>> (20 &&& 31)), .ref (ad 5 k0), .ref (ad 5 k0)]) S (q_Xpop l D cI cB cZ zz qq vv bt g ad cn In Fn76 k0 H.size hIn76 (by (first | omega | (have zz0 := Hid.u hb_cn; omega)))) kV_RX9_67 hK hXS hS hFc hP hD _ (xf_7 hk) rfl rfl ⟨Nat.le_of_ble_eq_true rfl, Nat.le_of_ble_eq_true rfl⟩ ⟨Nat.le_of_ble_eq_true rfl, Nat.le_of_ble_eq_true rfl⟩ rfl hl.1 rfl (Nat.le_of_ble_eq_true rfl) dX9_run_217) hS (fun q _ h => hFc q h) hFc (fun r_77 u t H1 locs ht hvm wh_78 hB1 hz1 hk1 hS => ?_)
              obtain ⟨cn78, In78, Fn78⟩ := u
              obtain ⟨hP1, hD1⟩ := hB1
              rw [ht] at hP1
              have hP : va_P D vwCl (wX cI (D.1 99) zz g ad cn78 In78 Fn78) H1 := hP1
              have hD : va_D A (wX cI (D.1 99) zz g ad cn78 In78 Fn78) := hD1.weaken (fun _ _ _ h => hFc _ h)
              generalize H1 = H at hP hS ⊢
              have vh_78 : (fun r c2 I2 F2 => Fr [] [] [196] cn In Fn76 c2 I2 F2 ∧ CBX c2 ∧ (True)) r_77 cn78 In78 Fn78 := wh_78
              obtain ⟨hfc78, hIn78, h_78⟩ := vh_78
              obtain rfl : cn = cn78 := (funext (fun k => hfc78.1 k List.not_mem_nil)).symm
              obtain rfl : In = In78 := (funext (fun k => hfc78.2.1 k List.not_mem_nil)).symm
              have hf78 : Fr [] [] [196, 197, 305] cn In Fn cn In Fn78 := Fr.mo (Fr.tr hf76 hfc78) (sbl rfl) (sbl rfl) (sbl rfl)
              replace hIn78 : CBXh cn := hIn78
              refine lv_iload hx hb dX9_run_220 (lvA0 hl) ?_
              have hFc := free_all hD hS hA
              refine va_calli (runV_xa (As := [.int ((atM (gA (F16 301) 200 k0) (((F16 199) k0).toInt.toNat) x16_5) >>> (20 &&& 31)), .int r_77, .int r_75]) (rest := [.ref (ad 5 k0)]) S (q_Xreckon l D cI cB cZ zz qq vv bt g ad cn In Fn78 k0 ((atM (gA (F16 301) 200 k0) (((F16 199) k0).toInt.toNat) x16_5) >>> (20 &&& 31)) r_77 r_75 H.size hIn78 (by (first | omega | (have zz0 := Hid.u hb_cn; omega)))) kV_RX9_75 hK hXS hS hFc hP hD _ (xf_7 hk) rfl rfl ⟨Nat.le_of_ble_eq_true rfl, Nat.le_of_ble_eq_true rfl⟩ ⟨Nat.le_of_ble_eq_true rfl, Nat.le_of_ble_eq_true rfl⟩ rfl hl.1 rfl (Nat.le_of_ble_eq_true rfl) dX9_run_222) hS (fun q _ h => hFc q h) hFc (fun r_79 u t H1 locs ht hvm wh_80 hB1 hz1 hk1 hS => ?_)
              obtain ⟨cn80, In80, Fn80⟩ := u
              obtain ⟨hP1, hD1⟩ := hB1
              rw [ht] at hP1
              have hP : va_P D vwCl (wX cI (D.1 99) zz g ad cn80 In80 Fn80) H1 := hP1
              have hD : va_D A (wX cI (D.1 99) zz g ad cn80 In80 Fn80) := hD1.weaken (fun _ _ _ h => hFc _ h)
              generalize H1 = H at hP hS ⊢
              have vh_80 : (fun r c2 I2 F2 => Fr [] [] [197] cn In Fn78 c2 I2 F2 ∧ CBX c2 ∧ (True)) r_79 cn80 In80 Fn80 := wh_80
              obtain ⟨hfc80, hIn80, h_80⟩ := vh_80
              obtain rfl : cn = cn80 := (funext (fun k => hfc80.1 k List.not_mem_nil)).symm
              obtain rfl : In = In80 := (funext (fun k => hfc80.2.1 k List.not_mem_nil)).symm
              have hf80 : Fr [] [] [196, 197, 305] cn In Fn cn In Fn80 := Fr.mo (Fr.tr hf78 hfc80) (sbl rfl) (sbl rfl) (sbl rfl)
              replace hIn80 : CBXh cn := hIn80
              have hFc := free_all hD hS hA
              refine va_callv (runV_xa (As := [.int r_79]) (rest := []) S (q_Xpush l D cI cB cZ zz qq vv bt g ad cn In Fn80 k0 r_79 H.size hIn80 (by (first | omega | (have zz0 := Hid.u hb_cn; omega)))) kV_RX9_63 hK hXS hS hFc hP hD _ (xf_7 hk) rfl rfl ⟨Nat.le_of_ble_eq_true rfl, Nat.le_of_ble_eq_true rfl⟩ ⟨Nat.le_of_ble_eq_true rfl, Nat.le_of_ble_eq_true rfl⟩ rfl hl.1 rfl (Nat.le_of_ble_eq_true rfl) dX9_run_225) hS (fun q _ h => hFc q h) hFc (fun u t H1 locs ht hvm wh_82 hB1 hz1 hk1 hS => ?_)
              obtain ⟨cn82, In82, Fn82⟩ := u
              obtain ⟨hP1, hD1⟩ := hB1
              rw [ht] at hP1
              have hP : va_P D vwCl (wX cI (D.1 99) zz g ad cn82 In82 Fn82) H1 := hP1
              have hD : va_D A (wX cI (D.1 99) zz g ad cn82 In82 Fn82) := hD1.weaken (fun _ _ _ h => hFc _ h)
              generalize H1 = H at hP hS ⊢
              have vh_82 : (fun c2 I2 F2 => Fr [] [] [196, 305] cn In Fn80 c2 I2 F2 ∧ CBX c2 ∧ (True)) cn82 In82 Fn82 := wh_82
              obtain ⟨hfc82, hIn82, h_82⟩ := vh_82
              obtain rfl : cn = cn82 := (funext (fun k => hfc82.1 k List.not_mem_nil)).symm
              obtain rfl : In = In82 := (funext (fun k => hfc82.2.1 k List.not_mem_nil)).symm
              have hf82 : Fr [] [] [196, 197, 305] cn In Fn cn In Fn82 := Fr.mo (Fr.tr hf80 hfc82) (sbl rfl) (sbl rfl) (sbl rfl)
              replace hIn82 : CBXh cn := hIn82
              have hinc := inc_toInt (x := x16_5) (y := v1) (by (first | omega | (have zz0 := Hid.u hb_cn; omega)))
              refine lv_iinc (v := (x16_5 + 1)) (lv' := [(5, .int (x16_5 + 1)), (8, .int r_75), (7, .int ((atM (gA (F16 301) 200 k0) (((F16 199) k0).toInt.toNat) x16_5) &&& 1048575)), (6, .int (atM (gA (F16 301) 200 k0) (((F16 199) k0).toInt.toNat) x16_5)), (4, .int x16_4), (0, .ref (ad 5 k0)), (1, .int v0), (2, .int v1), (3, .ref (g 7))]) hx hb dX9_run_228 hl (k := 3) rfl rfl (ltb rfl) rfl (fun ls hl => ?_)
              refine lv_goto (tgt := 16) hx hb dX9_run_231 rfl ?_
              exact ih16 x16_4 (x16_5 + 1) Fn82 _ _ (by (first | omega | (have zz0 := Hid.u hb_cn; omega))) ⟨(Fr.mo hf82 (sbl rfl) (sbl rfl) (sbl rfl)), hIn82⟩ hP hD hS ls (lv_sub hl [0, 4, 5, 6, 7, 8] rfl)
            ·
              refine lv_tableIn (tgt := 203) (off := 141) hx hb dX9_run_62 (by (first | omega | (have zz0 := Hid.u hb_cn; omega))) (by (first | omega | (have zz0 := Hid.u hb_cn; omega))) (by rw [c_12]; rfl) (by decide) ?_
              refine lv_aload_n hx hb dX9_run_203 rfl (lvA4 hl) ?_
              have hFc := free_all hD hS hA
              refine va_calli (runV_xa (As := []) (rest := []) S (q_Xpop l D cI cB cZ zz qq vv bt g ad cn In F16 k0 H.size hI16 (by (first | omega | (have zz0 := Hid.u hb_cn; omega)))) kV_RX9_67 hK hXS hS hFc hP hD _ (xf_7 hk) rfl rfl ⟨Nat.le_of_ble_eq_true rfl, Nat.le_of_ble_eq_true rfl⟩ ⟨Nat.le_of_ble_eq_true rfl, Nat.le_of_ble_eq_true rfl⟩ rfl hl.1 rfl (Nat.le_of_ble_eq_true rfl) dX9_run_204) hS (fun q _ h => hFc q h) hFc (fun r_83 u t H1 locs ht hvm wh_84 hB1 hz1 hk1 hS => ?_)
              obtain ⟨cn84, In84, Fn84⟩ := u
              obtain ⟨hP1, hD1⟩ := hB1
              rw [ht] at hP1
              have hP : va_P D vwCl (wX cI (D.1 99) zz g ad cn84 In84 Fn84) H1 := hP1
              have hD : va_D A (wX cI (D.1 99) zz g ad cn84 In84 Fn84) := hD1.weaken (fun _ _ _ h => hFc _ h)
              generalize H1 = H at hP hS ⊢
              have vh_84 : (fun r c2 I2 F2 => Fr [] [] [196] cn In F16 c2 I2 F2 ∧ CBX c2 ∧ (True)) r_83 cn84 In84 Fn84 := wh_84
              obtain ⟨hfc84, hIn84, h_84⟩ := vh_84
              obtain rfl : cn = cn84 := (funext (fun k => hfc84.1 k List.not_mem_nil)).symm
              obtain rfl : In = In84 := (funext (fun k => hfc84.2.1 k List.not_mem_nil)).symm
              have hf84 : Fr [] [] [196, 197, 305] cn In Fn cn In Fn84 := Fr.mo (Fr.tr hfr16 hfc84) (sbl rfl) (sbl rfl) (sbl rfl)
              replace hIn84 : CBXh cn := hIn84
              refine lv_istore (lv' := [(8, .int r_83), (7, .int ((atM (gA (F16 301) 200 k0) (((F16 199) k0).toInt.toNat) x16_5) &&& 1048575)), (6, .int (atM (gA (F16 301) 200 k0) (((F16 199) k0).toInt.toNat) x16_5)), (5, .int x16_5), (4, .int x16_4), (0, .ref (ad 5 k0)), (1, .int v0), (2, .int v1), (3, .ref (g 7))]) hx hb dX9_run_207 hl (ltb rfl) rfl (fun ls hl => ?_)
              refine lv_aload_n hx hb dX9_run_209 rfl (lvA5 hl) ?_
              refine lv_aload_n hx hb dX9_run_210 rfl (lvA5 hl) ?_
              refine lv_iload hx hb dX9_run_211 (lvA2 hl) ?_
              refine lv_bipush (v := 20) hx hb dX9_run_213 kbc_20 ?_
              refine lv_ishr hx hb dX9_run_215 ?_
              refine lv_aload_n hx hb dX9_run_216 rfl (lvA5 hl) ?_
              have hFc := free_all hD hS hA
              refine va_calli (runV_xa (As := []) (rest := [.int ((atM (gA (F16 301) 200 k0) (((F16 199) k0).toInt.toNat) x16_5) >>> (20 &&& 31)), .ref (ad 5 k0), .ref (ad 5 k0)]) S (q_Xpop l D cI cB cZ zz qq vv bt g ad cn In Fn84 k0 H.size hIn84 (by (first | omega | (have zz0 := Hid.u hb_cn; omega)))) kV_RX9_67 hK hXS hS hFc hP hD _ (xf_7 hk) rfl rfl ⟨Nat.le_of_ble_eq_true rfl, Nat.le_of_ble_eq_true rfl⟩ ⟨Nat.le_of_ble_eq_true rfl, Nat.le_of_ble_eq_true rfl⟩ rfl hl.1 rfl (Nat.le_of_ble_eq_true rfl) dX9_run_217) hS (fun q _ h => hFc q h) hFc (fun r_85 u t H1 locs ht hvm wh_86 hB1 hz1 hk1 hS => ?_)
              obtain ⟨cn86, In86, Fn86⟩ := u
              obtain ⟨hP1, hD1⟩ := hB1
              rw [ht] at hP1
              have hP : va_P D vwCl (wX cI (D.1 99) zz g ad cn86 In86 Fn86) H1 := hP1
              have hD : va_D A (wX cI (D.1 99) zz g ad cn86 In86 Fn86) := hD1.weaken (fun _ _ _ h => hFc _ h)
              generalize H1 = H at hP hS ⊢
              have vh_86 : (fun r c2 I2 F2 => Fr [] [] [196] cn In Fn84 c2 I2 F2 ∧ CBX c2 ∧ (True)) r_85 cn86 In86 Fn86 := wh_86
              obtain ⟨hfc86, hIn86, h_86⟩ := vh_86
              obtain rfl : cn = cn86 := (funext (fun k => hfc86.1 k List.not_mem_nil)).symm
              obtain rfl : In = In86 := (funext (fun k => hfc86.2.1 k List.not_mem_nil)).symm
              have hf86 : Fr [] [] [196, 197, 305] cn In Fn cn In Fn86 := Fr.mo (Fr.tr hf84 hfc86) (sbl rfl) (sbl rfl) (sbl rfl)
              replace hIn86 : CBXh cn := hIn86
              refine lv_iload hx hb dX9_run_220 (lvA0 hl) ?_
              have hFc := free_all hD hS hA
              refine va_calli (runV_xa (As := [.int ((atM (gA (F16 301) 200 k0) (((F16 199) k0).toInt.toNat) x16_5) >>> (20 &&& 31)), .int r_85, .int r_83]) (rest := [.ref (ad 5 k0)]) S (q_Xreckon l D cI cB cZ zz qq vv bt g ad cn In Fn86 k0 ((atM (gA (F16 301) 200 k0) (((F16 199) k0).toInt.toNat) x16_5) >>> (20 &&& 31)) r_85 r_83 H.size hIn86 (by (first | omega | (have zz0 := Hid.u hb_cn; omega)))) kV_RX9_75 hK hXS hS hFc hP hD _ (xf_7 hk) rfl rfl ⟨Nat.le_of_ble_eq_true rfl, Nat.le_of_ble_eq_true rfl⟩ ⟨Nat.le_of_ble_eq_true rfl, Nat.le_of_ble_eq_true rfl⟩ rfl hl.1 rfl (Nat.le_of_ble_eq_true rfl) dX9_run_222) hS (fun q _ h => hFc q h) hFc (fun r_87 u t H1 locs ht hvm wh_88 hB1 hz1 hk1 hS => ?_)
              obtain ⟨cn88, In88, Fn88⟩ := u
              obtain ⟨hP1, hD1⟩ := hB1
              rw [ht] at hP1
              have hP : va_P D vwCl (wX cI (D.1 99) zz g ad cn88 In88 Fn88) H1 := hP1
              have hD : va_D A (wX cI (D.1 99) zz g ad cn88 In88 Fn88) := hD1.weaken (fun _ _ _ h => hFc _ h)
              generalize H1 = H at hP hS ⊢
              have vh_88 : (fun r c2 I2 F2 => Fr [] [] [197] cn In Fn86 c2 I2 F2 ∧ CBX c2 ∧ (True)) r_87 cn88 In88 Fn88 := wh_88
              obtain ⟨hfc88, hIn88, h_88⟩ := vh_88
              obtain rfl : cn = cn88 := (funext (fun k => hfc88.1 k List.not_mem_nil)).symm
              obtain rfl : In = In88 := (funext (fun k => hfc88.2.1 k List.not_mem_nil)).symm
              have hf88 : Fr [] [] [196, 197, 305] cn In Fn cn In Fn88 := Fr.mo (Fr.tr hf86 hfc88) (sbl rfl) (sbl rfl) (sbl rfl)
              replace hIn88 : CBXh cn := hIn88
              have hFc := free_all hD hS hA
              refine va_callv (runV_xa (As := [.int r_87]) (rest := []) S (q_Xpush l D cI cB cZ zz qq vv bt g ad cn In Fn88 k0 r_87 H.size hIn88 (by (first | omega | (have zz0 := Hid.u hb_cn; omega)))) kV_RX9_63 hK hXS hS hFc hP hD _ (xf_7 hk) rfl rfl ⟨Nat.le_of_ble_eq_true rfl, Nat.le_of_ble_eq_true rfl⟩ ⟨Nat.le_of_ble_eq_true rfl, Nat.le_of_ble_eq_true rfl⟩ rfl hl.1 rfl (Nat.le_of_ble_eq_true rfl) dX9_run_225) hS (fun q _ h => hFc q h) hFc (fun u t H1 locs ht hvm wh_90 hB1 hz1 hk1 hS => ?_)
              obtain ⟨cn90, In90, Fn90⟩ := u
              obtain ⟨hP1, hD1⟩ := hB1
              rw [ht] at hP1
              have hP : va_P D vwCl (wX cI (D.1 99) zz g ad cn90 In90 Fn90) H1 := hP1
              have hD : va_D A (wX cI (D.1 99) zz g ad cn90 In90 Fn90) := hD1.weaken (fun _ _ _ h => hFc _ h)
              generalize H1 = H at hP hS ⊢
              have vh_90 : (fun c2 I2 F2 => Fr [] [] [196, 305] cn In Fn88 c2 I2 F2 ∧ CBX c2 ∧ (True)) cn90 In90 Fn90 := wh_90
              obtain ⟨hfc90, hIn90, h_90⟩ := vh_90
              obtain rfl : cn = cn90 := (funext (fun k => hfc90.1 k List.not_mem_nil)).symm
              obtain rfl : In = In90 := (funext (fun k => hfc90.2.1 k List.not_mem_nil)).symm
              have hf90 : Fr [] [] [196, 197, 305] cn In Fn cn In Fn90 := Fr.mo (Fr.tr hf88 hfc90) (sbl rfl) (sbl rfl) (sbl rfl)
              replace hIn90 : CBXh cn := hIn90
              have hinc := inc_toInt (x := x16_5) (y := v1) (by (first | omega | (have zz0 := Hid.u hb_cn; omega)))
              refine lv_iinc (v := (x16_5 + 1)) (lv' := [(5, .int (x16_5 + 1)), (8, .int r_83), (7, .int ((atM (gA (F16 301) 200 k0) (((F16 199) k0).toInt.toNat) x16_5) &&& 1048575)), (6, .int (atM (gA (F16 301) 200 k0) (((F16 199) k0).toInt.toNat) x16_5)), (4, .int x16_4), (0, .ref (ad 5 k0)), (1, .int v0), (2, .int v1), (3, .ref (g 7))]) hx hb dX9_run_228 hl (k := 3) rfl rfl (ltb rfl) rfl (fun ls hl => ?_)
              refine lv_goto (tgt := 16) hx hb dX9_run_231 rfl ?_
              exact ih16 x16_4 (x16_5 + 1) Fn90 _ _ (by (first | omega | (have zz0 := Hid.u hb_cn; omega))) ⟨(Fr.mo hf90 (sbl rfl) (sbl rfl) (sbl rfl)), hIn90⟩ hP hD hS ls (lv_sub hl [0, 4, 5, 6, 7, 8] rfl)
            ·
              refine lv_tableIn (tgt := 203) (off := 141) hx hb dX9_run_62 (by (first | omega | (have zz0 := Hid.u hb_cn; omega))) (by (first | omega | (have zz0 := Hid.u hb_cn; omega))) (by rw [c_12]; rfl) (by decide) ?_
              refine lv_aload_n hx hb dX9_run_203 rfl (lvA4 hl) ?_
              have hFc := free_all hD hS hA
              refine va_calli (runV_xa (As := []) (rest := []) S (q_Xpop l D cI cB cZ zz qq vv bt g ad cn In F16 k0 H.size hI16 (by (first | omega | (have zz0 := Hid.u hb_cn; omega)))) kV_RX9_67 hK hXS hS hFc hP hD _ (xf_7 hk) rfl rfl ⟨Nat.le_of_ble_eq_true rfl, Nat.le_of_ble_eq_true rfl⟩ ⟨Nat.le_of_ble_eq_true rfl, Nat.le_of_ble_eq_true rfl⟩ rfl hl.1 rfl (Nat.le_of_ble_eq_true rfl) dX9_run_204) hS (fun q _ h => hFc q h) hFc (fun r_91 u t H1 locs ht hvm wh_92 hB1 hz1 hk1 hS => ?_)
              obtain ⟨cn92, In92, Fn92⟩ := u
              obtain ⟨hP1, hD1⟩ := hB1
              rw [ht] at hP1
              have hP : va_P D vwCl (wX cI (D.1 99) zz g ad cn92 In92 Fn92) H1 := hP1
              have hD : va_D A (wX cI (D.1 99) zz g ad cn92 In92 Fn92) := hD1.weaken (fun _ _ _ h => hFc _ h)
              generalize H1 = H at hP hS ⊢
              have vh_92 : (fun r c2 I2 F2 => Fr [] [] [196] cn In F16 c2 I2 F2 ∧ CBX c2 ∧ (True)) r_91 cn92 In92 Fn92 := wh_92
              obtain ⟨hfc92, hIn92, h_92⟩ := vh_92
              obtain rfl : cn = cn92 := (funext (fun k => hfc92.1 k List.not_mem_nil)).symm
              obtain rfl : In = In92 := (funext (fun k => hfc92.2.1 k List.not_mem_nil)).symm
              have hf92 : Fr [] [] [196, 197, 305] cn In Fn cn In Fn92 := Fr.mo (Fr.tr hfr16 hfc92) (sbl rfl) (sbl rfl) (sbl rfl)
              replace hIn92 : CBXh cn := hIn92
              refine lv_istore (lv' := [(8, .int r_91), (7, .int ((atM (gA (F16 301) 200 k0) (((F16 199) k0).toInt.toNat) x16_5) &&& 1048575)), (6, .int (atM (gA (F16 301) 200 k0) (((F16 199) k0).toInt.toNat) x16_5)), (5, .int x16_5), (4, .int x16_4), (0, .ref (ad 5 k0)), (1, .int v0), (2, .int v1), (3, .ref (g 7))]) hx hb dX9_run_207 hl (ltb rfl) rfl (fun ls hl => ?_)
              refine lv_aload_n hx hb dX9_run_209 rfl (lvA5 hl) ?_
              refine lv_aload_n hx hb dX9_run_210 rfl (lvA5 hl) ?_
              refine lv_iload hx hb dX9_run_211 (lvA2 hl) ?_
              refine lv_bipush (v := 20) hx hb dX9_run_213 kbc_20 ?_
              refine lv_ishr hx hb dX9_run_215 ?_
              refine lv_aload_n hx hb dX9_run_216 rfl (lvA5 hl) ?_
              have hFc := free_all hD hS hA
              refine va_calli (runV_xa (As := []) (rest := [.int ((atM (gA (F16 301) 200 k0) (((F16 199) k0).toInt.toNat) x16_5) >>> (20 &&& 31)), .ref (ad 5 k0), .ref (ad 5 k0)]) S (q_Xpop l D cI cB cZ zz qq vv bt g ad cn In Fn92 k0 H.size hIn92 (by (first | omega | (have zz0 := Hid.u hb_cn; omega)))) kV_RX9_67 hK hXS hS hFc hP hD _ (xf_7 hk) rfl rfl ⟨Nat.le_of_ble_eq_true rfl, Nat.le_of_ble_eq_true rfl⟩ ⟨Nat.le_of_ble_eq_true rfl, Nat.le_of_ble_eq_true rfl⟩ rfl hl.1 rfl (Nat.le_of_ble_eq_true rfl) dX9_run_217) hS (fun q _ h => hFc q h) hFc (fun r_93 u t H1 locs ht hvm wh_94 hB1 hz1 hk1 hS => ?_)
              obtain ⟨cn94, In94, Fn94⟩ := u
              obtain ⟨hP1, hD1⟩ := hB1
              rw [ht] at hP1
              have hP : va_P D vwCl (wX cI (D.1 99) zz g ad cn94 In94 Fn94) H1 := hP1
              have hD : va_D A (wX cI (D.1 99) zz g ad cn94 In94 Fn94) := hD1.weaken (fun _ _ _ h => hFc _ h)
              generalize H1 = H at hP hS ⊢
              have vh_94 : (fun r c2 I2 F2 => Fr [] [] [196] cn In Fn92 c2 I2 F2 ∧ CBX c2 ∧ (True)) r_93 cn94 In94 Fn94 := wh_94
              obtain ⟨hfc94, hIn94, h_94⟩ := vh_94
              obtain rfl : cn = cn94 := (funext (fun k => hfc94.1 k List.not_mem_nil)).symm
              obtain rfl : In = In94 := (funext (fun k => hfc94.2.1 k List.not_mem_nil)).symm
              have hf94 : Fr [] [] [196, 197, 305] cn In Fn cn In Fn94 := Fr.mo (Fr.tr hf92 hfc94) (sbl rfl) (sbl rfl) (sbl rfl)
              replace hIn94 : CBXh cn := hIn94
              refine lv_iload hx hb dX9_run_220 (lvA0 hl) ?_
              have hFc := free_all hD hS hA
              refine va_calli (runV_xa (As := [.int ((atM (gA (F16 301) 200 k0) (((F16 199) k0).toInt.toNat) x16_5) >>> (20 &&& 31)), .int r_93, .int r_91]) (rest := [.ref (ad 5 k0)]) S (q_Xreckon l D cI cB cZ zz qq vv bt g ad cn In Fn94 k0 ((atM (gA (F16 301) 200 k0) (((F16 199) k0).toInt.toNat) x16_5) >>> (20 &&& 31)) r_93 r_91 H.size hIn94 (by (first | omega | (have zz0 := Hid.u hb_cn; omega)))) kV_RX9_75 hK hXS hS hFc hP hD _ (xf_7 hk) rfl rfl ⟨Nat.le_of_ble_eq_true rfl, Nat.le_of_ble_eq_true rfl⟩ ⟨Nat.le_of_ble_eq_true rfl, Nat.le_of_ble_eq_true rfl⟩ rfl hl.1 rfl (Nat.le_of_ble_eq_true rfl) dX9_run_222) hS (fun q _ h => hFc q h) hFc (fun r_95 u t H1 locs ht hvm wh_96 hB1 hz1 hk1 hS => ?_)
              obtain ⟨cn96, In96, Fn96⟩ := u
              obtain ⟨hP1, hD1⟩ := hB1
              rw [ht] at hP1
              have hP : va_P D vwCl (wX cI (D.1 99) zz g ad cn96 In96 Fn96) H1 := hP1
              have hD : va_D A (wX cI (D.1 99) zz g ad cn96 In96 Fn96) := hD1.weaken (fun _ _ _ h => hFc _ h)
              generalize H1 = H at hP hS ⊢
              have vh_96 : (fun r c2 I2 F2 => Fr [] [] [197] cn In Fn94 c2 I2 F2 ∧ CBX c2 ∧ (True)) r_95 cn96 In96 Fn96 := wh_96
              obtain ⟨hfc96, hIn96, h_96⟩ := vh_96
              obtain rfl : cn = cn96 := (funext (fun k => hfc96.1 k List.not_mem_nil)).symm
              obtain rfl : In = In96 := (funext (fun k => hfc96.2.1 k List.not_mem_nil)).symm
              have hf96 : Fr [] [] [196, 197, 305] cn In Fn cn In Fn96 := Fr.mo (Fr.tr hf94 hfc96) (sbl rfl) (sbl rfl) (sbl rfl)
              replace hIn96 : CBXh cn := hIn96
              have hFc := free_all hD hS hA
              refine va_callv (runV_xa (As := [.int r_95]) (rest := []) S (q_Xpush l D cI cB cZ zz qq vv bt g ad cn In Fn96 k0 r_95 H.size hIn96 (by (first | omega | (have zz0 := Hid.u hb_cn; omega)))) kV_RX9_63 hK hXS hS hFc hP hD _ (xf_7 hk) rfl rfl ⟨Nat.le_of_ble_eq_true rfl, Nat.le_of_ble_eq_true rfl⟩ ⟨Nat.le_of_ble_eq_true rfl, Nat.le_of_ble_eq_true rfl⟩ rfl hl.1 rfl (Nat.le_of_ble_eq_true rfl) dX9_run_225) hS (fun q _ h => hFc q h) hFc (fun u t H1 locs ht hvm wh_98 hB1 hz1 hk1 hS => ?_)
              obtain ⟨cn98, In98, Fn98⟩ := u
              obtain ⟨hP1, hD1⟩ := hB1
              rw [ht] at hP1
              have hP : va_P D vwCl (wX cI (D.1 99) zz g ad cn98 In98 Fn98) H1 := hP1
              have hD : va_D A (wX cI (D.1 99) zz g ad cn98 In98 Fn98) := hD1.weaken (fun _ _ _ h => hFc _ h)
              generalize H1 = H at hP hS ⊢
              have vh_98 : (fun c2 I2 F2 => Fr [] [] [196, 305] cn In Fn96 c2 I2 F2 ∧ CBX c2 ∧ (True)) cn98 In98 Fn98 := wh_98
              obtain ⟨hfc98, hIn98, h_98⟩ := vh_98
              obtain rfl : cn = cn98 := (funext (fun k => hfc98.1 k List.not_mem_nil)).symm
              obtain rfl : In = In98 := (funext (fun k => hfc98.2.1 k List.not_mem_nil)).symm
              have hf98 : Fr [] [] [196, 197, 305] cn In Fn cn In Fn98 := Fr.mo (Fr.tr hf96 hfc98) (sbl rfl) (sbl rfl) (sbl rfl)
              replace hIn98 : CBXh cn := hIn98
              have hinc := inc_toInt (x := x16_5) (y := v1) (by (first | omega | (have zz0 := Hid.u hb_cn; omega)))
              refine lv_iinc (v := (x16_5 + 1)) (lv' := [(5, .int (x16_5 + 1)), (8, .int r_91), (7, .int ((atM (gA (F16 301) 200 k0) (((F16 199) k0).toInt.toNat) x16_5) &&& 1048575)), (6, .int (atM (gA (F16 301) 200 k0) (((F16 199) k0).toInt.toNat) x16_5)), (4, .int x16_4), (0, .ref (ad 5 k0)), (1, .int v0), (2, .int v1), (3, .ref (g 7))]) hx hb dX9_run_228 hl (k := 3) rfl rfl (ltb rfl) rfl (fun ls hl => ?_)
              refine lv_goto (tgt := 16) hx hb dX9_run_231 rfl ?_
              exact ih16 x16_4 (x16_5 + 1) Fn98 _ _ (by (first | omega | (have zz0 := Hid.u hb_cn; omega))) ⟨(Fr.mo hf98 (sbl rfl) (sbl rfl) (sbl rfl)), hIn98⟩ hP hD hS ls (lv_sub hl [0, 4, 5, 6, 7, 8] rfl)
            ·
              refine lv_tableIn (tgt := 150) (off := 88) hx hb dX9_run_62 (by (first | omega | (have zz0 := Hid.u hb_cn; omega))) (by (first | omega | (have zz0 := Hid.u hb_cn; omega))) (by rw [c_12]; rfl) (by decide) ?_
              refine lv_aload_n hx hb dX9_run_150 rfl (lvA4 hl) ?_
              refine lv_iconst (v := 1) hx hb dX9_run_151 kic_1 ?_
              refine lv_aload_n hx hb dX9_run_152 rfl (lvA4 hl) ?_
              have hFc := free_all hD hS hA
              refine va_calli (runV_xa (As := []) (rest := [.int 1, .ref (ad 5 k0)]) S (q_Xpop l D cI cB cZ zz qq vv bt g ad cn In F16 k0 H.size hI16 (by (first | omega | (have zz0 := Hid.u hb_cn; omega)))) kV_RX9_67 hK hXS hS hFc hP hD _ (xf_7 hk) rfl rfl ⟨Nat.le_of_ble_eq_true rfl, Nat.le_of_ble_eq_true rfl⟩ ⟨Nat.le_of_ble_eq_true rfl, Nat.le_of_ble_eq_true rfl⟩ rfl hl.1 rfl (Nat.le_of_ble_eq_true rfl) dX9_run_153) hS (fun q _ h => hFc q h) hFc (fun r_99 u t H1 locs ht hvm wh_100 hB1 hz1 hk1 hS => ?_)
              obtain ⟨cn100, In100, Fn100⟩ := u
              obtain ⟨hP1, hD1⟩ := hB1
              rw [ht] at hP1
              have hP : va_P D vwCl (wX cI (D.1 99) zz g ad cn100 In100 Fn100) H1 := hP1
              have hD : va_D A (wX cI (D.1 99) zz g ad cn100 In100 Fn100) := hD1.weaken (fun _ _ _ h => hFc _ h)
              generalize H1 = H at hP hS ⊢
              have vh_100 : (fun r c2 I2 F2 => Fr [] [] [196] cn In F16 c2 I2 F2 ∧ CBX c2 ∧ (True)) r_99 cn100 In100 Fn100 := wh_100
              obtain ⟨hfc100, hIn100, h_100⟩ := vh_100
              obtain rfl : cn = cn100 := (funext (fun k => hfc100.1 k List.not_mem_nil)).symm
              obtain rfl : In = In100 := (funext (fun k => hfc100.2.1 k List.not_mem_nil)).symm
              have hf100 : Fr [] [] [196, 197, 305] cn In Fn cn In Fn100 := Fr.mo (Fr.tr hfr16 hfc100) (sbl rfl) (sbl rfl) (sbl rfl)
              replace hIn100 : CBXh cn := hIn100
              refine lv_isub hx hb dX9_run_156 ?_
              have hFc := free_all hD hS hA
              refine va_callv (runV_xa (As := [.int (1 - r_99)]) (rest := []) S (q_Xpush l D cI cB cZ zz qq vv bt g ad cn In Fn100 k0 (1 - r_99) H.size hIn100 (by (first | omega | (have zz0 := Hid.u hb_cn; omega)))) kV_RX9_63 hK hXS hS hFc hP hD _ (xf_7 hk) rfl rfl ⟨Nat.le_of_ble_eq_true rfl, Nat.le_of_ble_eq_true rfl⟩ ⟨Nat.le_of_ble_eq_true rfl, Nat.le_of_ble_eq_true rfl⟩ rfl hl.1 rfl (Nat.le_of_ble_eq_true rfl) dX9_run_157) hS (fun q _ h => hFc q h) hFc (fun u t H1 locs ht hvm wh_102 hB1 hz1 hk1 hS => ?_)
              obtain ⟨cn102, In102, Fn102⟩ := u
              obtain ⟨hP1, hD1⟩ := hB1
              rw [ht] at hP1
              have hP : va_P D vwCl (wX cI (D.1 99) zz g ad cn102 In102 Fn102) H1 := hP1
              have hD : va_D A (wX cI (D.1 99) zz g ad cn102 In102 Fn102) := hD1.weaken (fun _ _ _ h => hFc _ h)
              generalize H1 = H at hP hS ⊢
              have vh_102 : (fun c2 I2 F2 => Fr [] [] [196, 305] cn In Fn100 c2 I2 F2 ∧ CBX c2 ∧ (True)) cn102 In102 Fn102 := wh_102
              obtain ⟨hfc102, hIn102, h_102⟩ := vh_102
              obtain rfl : cn = cn102 := (funext (fun k => hfc102.1 k List.not_mem_nil)).symm
              obtain rfl : In = In102 := (funext (fun k => hfc102.2.1 k List.not_mem_nil)).symm
              have hf102 : Fr [] [] [196, 197, 305] cn In Fn cn In Fn102 := Fr.mo (Fr.tr hf100 hfc102) (sbl rfl) (sbl rfl) (sbl rfl)
              replace hIn102 : CBXh cn := hIn102
              refine lv_goto (tgt := 228) hx hb dX9_run_160 rfl ?_
              have hinc := inc_toInt (x := x16_5) (y := v1) (by (first | omega | (have zz0 := Hid.u hb_cn; omega)))
              refine lv_iinc (v := (x16_5 + 1)) (lv' := [(5, .int (x16_5 + 1)), (7, .int ((atM (gA (F16 301) 200 k0) (((F16 199) k0).toInt.toNat) x16_5) &&& 1048575)), (6, .int (atM (gA (F16 301) 200 k0) (((F16 199) k0).toInt.toNat) x16_5)), (4, .int x16_4), (0, .ref (ad 5 k0)), (1, .int v0), (2, .int v1), (3, .ref (g 7))]) hx hb dX9_run_228 hl (k := 2) rfl rfl (ltb rfl) rfl (fun ls hl => ?_)
              refine lv_goto (tgt := 16) hx hb dX9_run_231 rfl ?_
              exact ih16 x16_4 (x16_5 + 1) Fn102 _ _ (by (first | omega | (have zz0 := Hid.u hb_cn; omega))) ⟨(Fr.mo hf102 (sbl rfl) (sbl rfl) (sbl rfl)), hIn102⟩ hP hD hS ls (lv_sub hl [0, 3, 4, 5, 6, 7] rfl)
            ·
              refine lv_tableIn (tgt := 163) (off := 101) hx hb dX9_run_62 (by (first | omega | (have zz0 := Hid.u hb_cn; omega))) (by (first | omega | (have zz0 := Hid.u hb_cn; omega))) (by rw [c_12]; rfl) (by decide) ?_
              refine lv_aload_n hx hb dX9_run_163 rfl (lvA4 hl) ?_
              refine lv_iconst (v := 0) hx hb dX9_run_164 kic_0 ?_
              have hFc := free_all hD hS hA
              refine va_calli (runV_xa (As := [.int 0]) (rest := []) S (q_Xdecided l D cI cB cZ zz qq vv bt g ad cn In F16 k0 0 H.size hI16 (by (first | omega | (have zz0 := Hid.u hb_cn; omega)))) kV_RX9_71 hK hXS hS hFc hP hD _ (xf_7 hk) rfl rfl ⟨Nat.le_of_ble_eq_true rfl, Nat.le_of_ble_eq_true rfl⟩ ⟨Nat.le_of_ble_eq_true rfl, Nat.le_of_ble_eq_true rfl⟩ rfl hl.1 rfl (Nat.le_of_ble_eq_true rfl) dX9_run_165) hS (fun q _ h => hFc q h) hFc (fun r_103 u t H1 locs ht hvm wh_104 hB1 hz1 hk1 hS => ?_)
              obtain ⟨cn104, In104, Fn104⟩ := u
              obtain ⟨hP1, hD1⟩ := hB1
              rw [ht] at hP1
              have hP : va_P D vwCl (wX cI (D.1 99) zz g ad cn104 In104 Fn104) H1 := hP1
              have hD : va_D A (wX cI (D.1 99) zz g ad cn104 In104 Fn104) := hD1.weaken (fun _ _ _ h => hFc _ h)
              generalize H1 = H at hP hS ⊢
              have vh_104 : (fun r c2 I2 F2 => Fr [] [] [196, 305] cn In F16 c2 I2 F2 ∧ CBX c2 ∧ (r = 0 ∨ r = 1)) r_103 cn104 In104 Fn104 := wh_104
              obtain ⟨hfc104, hIn104, h_104⟩ := vh_104
              obtain rfl : cn = cn104 := (funext (fun k => hfc104.1 k List.not_mem_nil)).symm
              obtain rfl : In = In104 := (funext (fun k => hfc104.2.1 k List.not_mem_nil)).symm
              have hf104 : Fr [] [] [196, 197, 305] cn In Fn cn In Fn104 := Fr.mo (Fr.tr hfr16 hfc104) (sbl rfl) (sbl rfl) (sbl rfl)
              replace hIn104 : CBXh cn := hIn104
              rcases h_104 with rfl | rfl
              ·
                refine lv_if_eq (tgt := 176) hx hb dX9_run_168 rfl (fun _ => ?_) (fun h => absurd h cq_eq_0_0)
                refine lv_iload hx hb dX9_run_176 (lvA3 hl) ?_
                refine lv_istore (lv' := [(4, .int x16_4), (7, .int ((atM (gA (F16 301) 200 k0) (((F16 199) k0).toInt.toNat) x16_5) &&& 1048575)), (6, .int (atM (gA (F16 301) 200 k0) (((F16 199) k0).toInt.toNat) x16_5)), (5, .int x16_5), (0, .ref (ad 5 k0)), (1, .int v0), (2, .int v1), (3, .ref (g 7))]) hx hb dX9_run_178 hl (ltb rfl) rfl (fun ls hl => ?_)
                refine lv_goto (tgt := 228) hx hb dX9_run_180 rfl ?_
                have hinc := inc_toInt (x := x16_5) (y := v1) (by (first | omega | (have zz0 := Hid.u hb_cn; omega)))
                refine lv_iinc (v := (x16_5 + 1)) (lv' := [(5, .int (x16_5 + 1)), (4, .int x16_4), (7, .int ((atM (gA (F16 301) 200 k0) (((F16 199) k0).toInt.toNat) x16_5) &&& 1048575)), (6, .int (atM (gA (F16 301) 200 k0) (((F16 199) k0).toInt.toNat) x16_5)), (0, .ref (ad 5 k0)), (1, .int v0), (2, .int v1), (3, .ref (g 7))]) hx hb dX9_run_228 hl (k := 3) rfl rfl (ltb rfl) rfl (fun ls hl => ?_)
                refine lv_goto (tgt := 16) hx hb dX9_run_231 rfl ?_
                exact ih16 x16_4 (x16_5 + 1) Fn104 _ _ (by (first | omega | (have zz0 := Hid.u hb_cn; omega))) ⟨(Fr.mo hf104 (sbl rfl) (sbl rfl) (sbl rfl)), hIn104⟩ hP hD hS ls (lv_sub hl [0, 1, 4, 5, 6, 7] rfl)
              ·
                refine lv_if_eq (tgt := 176) hx hb dX9_run_168 rfl (fun h => absurd h cq_eq_1_0) (fun _ => ?_)
                refine lv_iload hx hb dX9_run_171 (lvA0 hl) ?_
                refine lv_goto (tgt := 178) hx hb dX9_run_173 rfl ?_
                refine lv_istore (lv' := [(4, .int ((atM (gA (F16 301) 200 k0) (((F16 199) k0).toInt.toNat) x16_5) &&& 1048575)), (7, .int ((atM (gA (F16 301) 200 k0) (((F16 199) k0).toInt.toNat) x16_5) &&& 1048575)), (6, .int (atM (gA (F16 301) 200 k0) (((F16 199) k0).toInt.toNat) x16_5)), (5, .int x16_5), (0, .ref (ad 5 k0)), (1, .int v0), (2, .int v1), (3, .ref (g 7))]) hx hb dX9_run_178 hl (ltb rfl) rfl (fun ls hl => ?_)
                refine lv_goto (tgt := 228) hx hb dX9_run_180 rfl ?_
                have hinc := inc_toInt (x := x16_5) (y := v1) (by (first | omega | (have zz0 := Hid.u hb_cn; omega)))
                refine lv_iinc (v := (x16_5 + 1)) (lv' := [(5, .int (x16_5 + 1)), (4, .int ((atM (gA (F16 301) 200 k0) (((F16 199) k0).toInt.toNat) x16_5) &&& 1048575)), (7, .int ((atM (gA (F16 301) 200 k0) (((F16 199) k0).toInt.toNat) x16_5) &&& 1048575)), (6, .int (atM (gA (F16 301) 200 k0) (((F16 199) k0).toInt.toNat) x16_5)), (0, .ref (ad 5 k0)), (1, .int v0), (2, .int v1), (3, .ref (g 7))]) hx hb dX9_run_228 hl (k := 3) rfl rfl (ltb rfl) rfl (fun ls hl => ?_)
                refine lv_goto (tgt := 16) hx hb dX9_run_231 rfl ?_
                exact ih16 ((atM (gA (F16 301) 200 k0) (((F16 199) k0).toInt.toNat) x16_5) &&& 1048575) (x16_5 + 1) Fn104 _ _ (by (first | omega | (have zz0 := Hid.u hb_cn; omega))) ⟨(Fr.mo hf104 (sbl rfl) (sbl rfl) (sbl rfl)), hIn104⟩ hP hD hS ls (lv_sub hl [0, 1, 4, 5, 6, 7] rfl)
            ·
              refine lv_tableIn (tgt := 183) (off := 121) hx hb dX9_run_62 (by (first | omega | (have zz0 := Hid.u hb_cn; omega))) (by (first | omega | (have zz0 := Hid.u hb_cn; omega))) (by rw [c_12]; rfl) (by decide) ?_
              refine lv_aload_n hx hb dX9_run_183 rfl (lvA4 hl) ?_
              refine lv_iconst (v := 1) hx hb dX9_run_184 kic_1 ?_
              have hFc := free_all hD hS hA
              refine va_calli (runV_xa (As := [.int 1]) (rest := []) S (q_Xdecided l D cI cB cZ zz qq vv bt g ad cn In F16 k0 1 H.size hI16 (by (first | omega | (have zz0 := Hid.u hb_cn; omega)))) kV_RX9_71 hK hXS hS hFc hP hD _ (xf_7 hk) rfl rfl ⟨Nat.le_of_ble_eq_true rfl, Nat.le_of_ble_eq_true rfl⟩ ⟨Nat.le_of_ble_eq_true rfl, Nat.le_of_ble_eq_true rfl⟩ rfl hl.1 rfl (Nat.le_of_ble_eq_true rfl) dX9_run_185) hS (fun q _ h => hFc q h) hFc (fun r_105 u t H1 locs ht hvm wh_106 hB1 hz1 hk1 hS => ?_)
              obtain ⟨cn106, In106, Fn106⟩ := u
              obtain ⟨hP1, hD1⟩ := hB1
              rw [ht] at hP1
              have hP : va_P D vwCl (wX cI (D.1 99) zz g ad cn106 In106 Fn106) H1 := hP1
              have hD : va_D A (wX cI (D.1 99) zz g ad cn106 In106 Fn106) := hD1.weaken (fun _ _ _ h => hFc _ h)
              generalize H1 = H at hP hS ⊢
              have vh_106 : (fun r c2 I2 F2 => Fr [] [] [196, 305] cn In F16 c2 I2 F2 ∧ CBX c2 ∧ (r = 0 ∨ r = 1)) r_105 cn106 In106 Fn106 := wh_106
              obtain ⟨hfc106, hIn106, h_106⟩ := vh_106
              obtain rfl : cn = cn106 := (funext (fun k => hfc106.1 k List.not_mem_nil)).symm
              obtain rfl : In = In106 := (funext (fun k => hfc106.2.1 k List.not_mem_nil)).symm
              have hf106 : Fr [] [] [196, 197, 305] cn In Fn cn In Fn106 := Fr.mo (Fr.tr hfr16 hfc106) (sbl rfl) (sbl rfl) (sbl rfl)
              replace hIn106 : CBXh cn := hIn106
              rcases h_106 with rfl | rfl
              ·
                refine lv_if_eq (tgt := 196) hx hb dX9_run_188 rfl (fun _ => ?_) (fun h => absurd h cq_eq_0_0)
                refine lv_iload hx hb dX9_run_196 (lvA3 hl) ?_
                refine lv_istore (lv' := [(4, .int x16_4), (7, .int ((atM (gA (F16 301) 200 k0) (((F16 199) k0).toInt.toNat) x16_5) &&& 1048575)), (6, .int (atM (gA (F16 301) 200 k0) (((F16 199) k0).toInt.toNat) x16_5)), (5, .int x16_5), (0, .ref (ad 5 k0)), (1, .int v0), (2, .int v1), (3, .ref (g 7))]) hx hb dX9_run_198 hl (ltb rfl) rfl (fun ls hl => ?_)
                refine lv_goto (tgt := 228) hx hb dX9_run_200 rfl ?_
                have hinc := inc_toInt (x := x16_5) (y := v1) (by (first | omega | (have zz0 := Hid.u hb_cn; omega)))
                refine lv_iinc (v := (x16_5 + 1)) (lv' := [(5, .int (x16_5 + 1)), (4, .int x16_4), (7, .int ((atM (gA (F16 301) 200 k0) (((F16 199) k0).toInt.toNat) x16_5) &&& 1048575)), (6, .int (atM (gA (F16 301) 200 k0) (((F16 199) k0).toInt.toNat) x16_5)), (0, .ref (ad 5 k0)), (1, .int v0), (2, .int v1), (3, .ref (g 7))]) hx hb dX9_run_228 hl (k := 3) rfl rfl (ltb rfl) rfl (fun ls hl => ?_)
                refine lv_goto (tgt := 16) hx hb dX9_run_231 rfl ?_
                exact ih16 x16_4 (x16_5 + 1) Fn106 _ _ (by (first | omega | (have zz0 := Hid.u hb_cn; omega))) ⟨(Fr.mo hf106 (sbl rfl) (sbl rfl) (sbl rfl)), hIn106⟩ hP hD hS ls (lv_sub hl [0, 1, 4, 5, 6, 7] rfl)
              ·
                refine lv_if_eq (tgt := 196) hx hb dX9_run_188 rfl (fun h => absurd h cq_eq_1_0) (fun _ => ?_)
                refine lv_iload hx hb dX9_run_191 (lvA0 hl) ?_
                refine lv_goto (tgt := 198) hx hb dX9_run_193 rfl ?_
                refine lv_istore (lv' := [(4, .int ((atM (gA (F16 301) 200 k0) (((F16 199) k0).toInt.toNat) x16_5) &&& 1048575)), (7, .int ((atM (gA (F16 301) 200 k0) (((F16 199) k0).toInt.toNat) x16_5) &&& 1048575)), (6, .int (atM (gA (F16 301) 200 k0) (((F16 199) k0).toInt.toNat) x16_5)), (5, .int x16_5), (0, .ref (ad 5 k0)), (1, .int v0), (2, .int v1), (3, .ref (g 7))]) hx hb dX9_run_198 hl (ltb rfl) rfl (fun ls hl => ?_)
                refine lv_goto (tgt := 228) hx hb dX9_run_200 rfl ?_
                have hinc := inc_toInt (x := x16_5) (y := v1) (by (first | omega | (have zz0 := Hid.u hb_cn; omega)))
                refine lv_iinc (v := (x16_5 + 1)) (lv' := [(5, .int (x16_5 + 1)), (4, .int ((atM (gA (F16 301) 200 k0) (((F16 199) k0).toInt.toNat) x16_5) &&& 1048575)), (7, .int ((atM (gA (F16 301) 200 k0) (((F16 199) k0).toInt.toNat) x16_5) &&& 1048575)), (6, .int (atM (gA (F16 301) 200 k0) (((F16 199) k0).toInt.toNat) x16_5)), (0, .ref (ad 5 k0)), (1, .int v0), (2, .int v1), (3, .ref (g 7))]) hx hb dX9_run_228 hl (k := 3) rfl rfl (ltb rfl) rfl (fun ls hl => ?_)
                refine lv_goto (tgt := 16) hx hb dX9_run_231 rfl ?_
                exact ih16 ((atM (gA (F16 301) 200 k0) (((F16 199) k0).toInt.toNat) x16_5) &&& 1048575) (x16_5 + 1) Fn106 _ _ (by (first | omega | (have zz0 := Hid.u hb_cn; omega))) ⟨(Fr.mo hf106 (sbl rfl) (sbl rfl) (sbl rfl)), hIn106⟩ hP hD hS ls (lv_sub hl [0, 1, 4, 5, 6, 7] rfl)
          ·
            have tc_9 : (x16_5.toInt : Int) < x16_4.toInt := Int32.lt_iff_toInt_lt.mp (Int32.not_le.mp c_9)
            refine lv_goto (tgt := 228) hx hb dX9_run_36 rfl ?_
            have hinc := inc_toInt (x := x16_5) (y := v1) (by (first | omega | (have zz0 := Hid.u hb_cn; omega)))
            refine lv_iinc (v := (x16_5 + 1)) (lv' := [(5, .int (x16_5 + 1)), (4, .int x16_4), (0, .ref (ad 5 k0)), (1, .int v0), (2, .int v1), (3, .ref (g 7))]) hx hb dX9_run_228 hl (k := 0) rfl rfl (ltb rfl) rfl (fun ls hl => ?_)
            refine lv_goto (tgt := 16) hx hb dX9_run_231 rfl ?_
            exact ih16 x16_4 (x16_5 + 1) F16 _ _ (by (first | omega | (have zz0 := Hid.u hb_cn; omega))) ⟨(Fr.mo hfr16 (sbl rfl) (sbl rfl) (sbl rfl)), hI16⟩ hP hD hS ls (lv_sub hl [0, 1, 2, 3, 4, 5] rfl)
  exact lp_16 _ v0 v0 (va_up (va_up Fn 196 (upd (Fn 196) k0 0)) 197 (upd (Fn 197) k0 0)) _ _ (Nat.lt_succ_self _) ⟨(Fr.mo (Fr.f 197 (Fr.f 196 Fr.rf)) (sbl rfl) (sbl rfl) (sbl rfl)), hB⟩ hP hD hS ls (lv_sub hl [0, 1, 2, 3, 4, 5] rfl)
set_option maxRecDepth 100000 in
set_option maxHeartbeats 4000000 in
theorem q_XfirstThat (l : Launch) (D : va_G) (cI cB cZ : ClassId) (zz qq vv : Nat) (bt : Nat → Int32) (g : Nat → Nat) (ad : Nat → Nat → Nat) (cn : Nat → Nat) (In : Nat → Int32) (Fn : Nat → Nat → Int32) (k0 n0 : Nat) (v0 : Int32) (sz : Nat) (hB : CBX cn) (hk : k0 < cn 6) (es : Fn 198 k0 = nI n0) (hn : n0 ≤ 12) : Met l yX9_firstThat (CWS yX9_firstThat cX9_firstThat 5 (some .int)) (RM 3 0 0) (PBx [.ref (ad 5 k0), .int v0, .ref (g 7)] D cI cB cZ zz qq vv bt (wX cI (D.1 99) zz g ad cn In Fn) sz) (va_Qi (fun (r : Int32) (u : (Nat → Nat) × (Nat → Int32) × (Nat → Nat → Int32)) => (fun r c2 I2 F2 => Fr [] [] [196, 197, 305] cn In Fn c2 I2 F2 ∧ CBX c2 ∧ (True)) r u.1 u.2.1 u.2.2) (fun (u : (Nat → Nat) × (Nat → Int32) × (Nat → Nat → Int32)) (t : State) => va_P D vwCl (wX cI (D.1 99) zz g ad u.1 u.2.1 u.2.2) t.heap ∧ va_D (va_A (wX cI (D.1 99) zz g ad cn In Fn) sz) (wX cI (D.1 99) zz g ad u.1 u.2.1 u.2.2)) (va_A (wX cI (D.1 99) zz g ad cn In Fn) sz)) 0 0 (va_A (wX cI (D.1 99) zz g ad cn In Fn) sz) := by
  refine en_x (fun A => (va_Qi (fun (r : Int32) (u : (Nat → Nat) × (Nat → Int32) × (Nat → Nat → Int32)) => (fun (r : Int32) (c2 : Nat → Nat) (I2 : Nat → Int32) (F2 : Nat → Nat → Int32) => Fr [] [] [196, 197, 305] cn In Fn c2 I2 F2 ∧ CBX c2 ∧ (True)) r u.1 u.2.1 u.2.2) (fun (u : (Nat → Nat) × (Nat → Int32) × (Nat → Nat → Int32)) (t : State) => va_P D vwCl (wX cI (D.1 99) zz g ad u.1 u.2.1 u.2.2) t.heap ∧ va_D A (wX cI (D.1 99) zz g ad u.1 u.2.1 u.2.2)) A)) rfl rfl pn_RX9 (Nat.le_of_ble_eq_true rfl) (fun p e s m below meth c A hx hb hml hown S hr hlocks hnm hA hP hK hD hXS hS ls hl => ?_)
  have hl : lv_has ls 5 [(0, .ref (ad 5 k0)), (1, .int v0), (2, .ref (g 7))] := hl
  have hb_cn : Hid (CBX cn) := hB
  replace hB : CBXh cn := hB
  refine lv_iconst (v := 0) hx hb dX9_firstThat_0 kic_0 ?_
  refine lv_istore_n (lv' := [(3, .int 0), (0, .ref (ad 5 k0)), (1, .int v0), (2, .ref (g 7))]) hx hb dX9_firstThat_1 rfl hl (ltb rfl) rfl (fun ls hl => ?_)
  have lp_2 : ∀ (n : Nat) (i2 : Nat) (Fw : Nat → Nat → Int32) (H : Heap) (locs : List Loc) , n0 - i2 < n → (i2 ≤ n0 ∧ Fr [] [] [196, 197, 305] cn In Fn cn In Fw ∧ CBX cn) → va_P D vwCl (wX cI (D.1 99) zz g ad cn In Fw) H → va_D A (wX cI (D.1 99) zz g ad cn In Fw) → va_S A s.heap H locs → ∀ ls : Array Slot, lv_has ls 5 [(3, .int (nI i2)), (0, .ref (ad 5 k0)), (1, .int v0), (2, .ref (g 7))] → W p l e (RM 3 0 0) s m ([.ref (ad 5 k0), .int v0, .ref (g 7)]).toArray below meth c H locs 0 0 (MQ below (va_Qi (fun (r : Int32) (u : (Nat → Nat) × (Nat → Int32) × (Nat → Nat → Int32)) => (fun r c2 I2 F2 => Fr [] [] [196, 197, 305] cn In Fn c2 I2 F2 ∧ CBX c2 ∧ (True)) r u.1 u.2.1 u.2.2) (fun (u : (Nat → Nat) × (Nat → Int32) × (Nat → Nat → Int32)) (t : State) => va_P D vwCl (wX cI (D.1 99) zz g ad u.1 u.2.1 u.2.2) t.heap ∧ va_D A (wX cI (D.1 99) zz g ad u.1 u.2.1 u.2.2)) A) ([.ref (ad 5 k0), .int v0, .ref (g 7)]).toArray s 0 0 A) (F0 m 2 ls []) := by
    intro n2
    induction n2 with
    | zero => intros; (first | omega | (have zz0 := Hid.u hb_cn; omega))
    | succ n2 ih2 =>
      intro i2 Fw H locs hmu2 hinv2 hP hD hS ls hl
      obtain ⟨hr2, hfr2, hI2⟩ := hinv2
      have ti2 : (nI i2).toInt = (i2 : Int) := nI_toInt (by (first | omega | (have zz0 := Hid.u hb_cn; omega)))
      replace hI2 : CBXh cn := hI2
      refine lv_iload_n hx hb dX9_firstThat_2 rfl (lvA0 hl) ?_
      refine lv_aload_n hx hb dX9_firstThat_3 rfl (lvA1 hl) ?_
      refine gf_RX9_48 S hK hP _ (xf_7 hk) (v := .int ((Fw 198) k0)) rfl dX9_firstThat_4 ?_
      refine lv_topi (fun y_1 ey_1 => ?_)
      obtain rfl : y_1 = (nI n0) := ey_1.trans ((congrFun (hfr2.2.2 198 (nml rfl)) k0).trans es)
      have : (nI n0).toInt = ((n0 : Nat) : Int) := nI_toInt (by (first | omega | (have zz0 := Hid.u hb_cn; omega)))
      refine lv_icmp_ge (tgt := 55) hx hb dX9_firstThat_7 rfl (fun c_2 => ?_) (fun c_2 => ?_)
      ·
        have tc_2 : ((nI n0).toInt : Int) ≤ (nI i2).toInt := Int32.le_iff_toInt_le.mp c_2
        refine lv_iconst (v := (-1)) hx hb dX9_firstThat_55 kic_m1 ?_
        exact W.iret (v := (-1)) hx hb hr (fun t ht hW => ⟨⟨(-1), (cn, In, Fw), rfl, ⟨(Fr.mo hfr2 (sbl rfl) (sbl rfl) (sbl rfl)), hI2, trivial⟩, by rw [ht]; exact hP, hD⟩, hS.F ht⟩) hS.2.2 dX9_firstThat_56
      ·
        have tc_2 : ((nI i2).toInt : Int) < (nI n0).toInt := Int32.lt_iff_toInt_lt.mp (Int32.not_le.mp c_2)
        refine lv_aload_n hx hb dX9_firstThat_10 rfl (lvA1 hl) ?_
        refine gf_RX9_24 S hK hP _ (xf_7 hk) (v := .ref (ad 62 k0)) rfl dX9_firstThat_11 ?_
        refine lv_iload_n hx hb dX9_firstThat_14 rfl (lvA0 hl) ?_
        refine vp_callSi (runS_r (As := [.ref (ad 62 k0), .int (nI i2)]) (rest := []) S (q_l_at l D cI cB cZ (ad 62 k0) 12 (gA (Fw 303) 12 k0) (nI i2) (by (first | omega | (have zz0 := Hid.u hb_cn; omega)))) kS_RX9_37 hK hP _ (one_is (xf_10 hk)) ⟨Nat.le_of_ble_eq_true rfl, Nat.le_of_ble_eq_true rfl⟩ ⟨Nat.le_of_ble_eq_true rfl, Nat.le_of_ble_eq_true rfl⟩ rfl hl.1 rfl (Nat.le_of_ble_eq_true rfl) dX9_firstThat_15) (fun r_3 h_4 => ?_)
        subst h_4
        refine lv_istore (lv' := [(4, .int (atM (gA (Fw 303) 12 k0) 12 (nI i2))), (3, .int (nI i2)), (0, .ref (ad 5 k0)), (1, .int v0), (2, .ref (g 7))]) hx hb dX9_firstThat_18 hl (ltb rfl) rfl (fun ls hl => ?_)
        refine lv_aload_n hx hb dX9_firstThat_20 rfl (lvA2 hl) ?_
        refine lv_iload hx hb dX9_firstThat_21 (lvA0 hl) ?_
        refine lv_aload_n hx hb dX9_firstThat_23 rfl (lvA2 hl) ?_
        refine gf_RX9_27 S hK hP _ (xf_7 hk) (v := .ref (ad 63 k0)) rfl dX9_firstThat_24 ?_
        refine lv_iload_n hx hb dX9_firstThat_27 rfl (lvA1 hl) ?_
        refine vp_callSi (runS_r (As := [.ref (ad 63 k0), .int (nI i2)]) (rest := [.int (atM (gA (Fw 303) 12 k0) 12 (nI i2)), .ref (ad 5 k0)]) S (q_l_at l D cI cB cZ (ad 63 k0) 12 (gA (Fw 304) 12 k0) (nI i2) (by (first | omega | (have zz0 := Hid.u hb_cn; omega)))) kS_RX9_37 hK hP _ (one_is (xf_11 hk)) ⟨Nat.le_of_ble_eq_true rfl, Nat.le_of_ble_eq_true rfl⟩ ⟨Nat.le_of_ble_eq_true rfl, Nat.le_of_ble_eq_true rfl⟩ rfl hl.1 rfl (Nat.le_of_ble_eq_true rfl) dX9_firstThat_28) (fun r_5 h_6 => ?_)
        subst h_6
        refine lv_aload_n hx hb dX9_firstThat_31 rfl (lvA4 hl) ?_
        have hFc := free_all hD hS hA
        refine va_calli (runV_xa (As := [.int (atM (gA (Fw 303) 12 k0) 12 (nI i2)), .int (atM (gA (Fw 304) 12 k0) 12 (nI i2)), .ref (g 7)]) (rest := []) S (q_Xrun l D cI cB cZ zz qq vv bt g ad cn In Fw k0 (atM (gA (Fw 303) 12 k0) 12 (nI i2)) (atM (gA (Fw 304) 12 k0) 12 (nI i2)) H.size hI2 (by (first | omega | (have zz0 := Hid.u hb_cn; omega)))) kV_RX9_51 hK hXS hS hFc hP hD _ (xf_7 hk) rfl rfl ⟨Nat.le_of_ble_eq_true rfl, Nat.le_of_ble_eq_true rfl⟩ ⟨Nat.le_of_ble_eq_true rfl, Nat.le_of_ble_eq_true rfl⟩ rfl hl.1 rfl (Nat.le_of_ble_eq_true rfl) dX9_firstThat_32) hS (fun q _ h => hFc q h) hFc (fun r_7 u t H1 locs ht hvm wh_8 hB1 hz1 hk1 hS => ?_)
        obtain ⟨cn8, In8, Fn8⟩ := u
        obtain ⟨hP1, hD1⟩ := hB1
        rw [ht] at hP1
        have hP : va_P D vwCl (wX cI (D.1 99) zz g ad cn8 In8 Fn8) H1 := hP1
        have hD : va_D A (wX cI (D.1 99) zz g ad cn8 In8 Fn8) := hD1.weaken (fun _ _ _ h => hFc _ h)
        generalize H1 = H at hP hS ⊢
        have vh_8 : (fun r c2 I2 F2 => Fr [] [] [196, 197, 305] cn In Fw c2 I2 F2 ∧ CBX c2 ∧ (True)) r_7 cn8 In8 Fn8 := wh_8
        obtain ⟨hfc8, hIn8, h_8⟩ := vh_8
        obtain rfl : cn = cn8 := (funext (fun k => hfc8.1 k List.not_mem_nil)).symm
        obtain rfl : In = In8 := (funext (fun k => hfc8.2.1 k List.not_mem_nil)).symm
        have hf8 : Fr [] [] [196, 197, 305] cn In Fn cn In Fn8 := Fr.mo (Fr.tr hfr2 hfc8) (sbl rfl) (sbl rfl) (sbl rfl)
        replace hIn8 : CBXh cn := hIn8
        refine lv_if_eq (tgt := 42) hx hb dX9_firstThat_35 rfl (fun c_9 => ?_) (fun c_9 => ?_)
        ·
          have tc_9 : (r_7.toInt : Int) = 0 := congrArg Int32.toInt c_9
          refine lv_iconst (v := 0) hx hb dX9_firstThat_42 kic_0 ?_
          refine lv_iload_n hx hb dX9_firstThat_43 rfl (lvA3 hl) ?_
          refine lv_icmp_ne (tgt := 49) hx hb dX9_firstThat_44 rfl (fun c_10 => ?_) (fun c_10 => ?_)
          ·
            have tc_10 : (0 : Int) ≠ v0.toInt := fun q => c_10 (Int32.toInt_inj.mp q)
            refine lv_iinc (v := (nI (i2 + 1))) (lv' := [(3, .int (nI (i2 + 1))), (4, .int (atM (gA (Fw 303) 12 k0) 12 (nI i2))), (0, .ref (ad 5 k0)), (1, .int v0), (2, .ref (g 7))]) hx hb dX9_firstThat_49 hl (k := 1) rfl (nI_1 _) (ltb rfl) rfl (fun ls hl => ?_)
            refine lv_goto (tgt := 2) hx hb dX9_firstThat_52 rfl ?_
            exact ih2 (i2 + 1) Fn8 _ _ (by (first | omega | (have zz0 := Hid.u hb_cn; omega))) ⟨(by (first | omega | (have zz0 := Hid.u hb_cn; omega))), (Fr.mo hf8 (sbl rfl) (sbl rfl) (sbl rfl)), hIn8⟩ hP hD hS ls (lv_sub hl [0, 2, 3, 4] rfl)
          ·
            have tc_10 : (0 : Int) = v0.toInt := congrArg Int32.toInt c_10
            refine lv_iload_n hx hb dX9_firstThat_47 rfl (lvA1 hl) ?_
            exact W.iret (v := (nI i2)) hx hb hr (fun t ht hW => ⟨⟨(nI i2), (cn, In, Fn8), rfl, ⟨(Fr.mo hf8 (sbl rfl) (sbl rfl) (sbl rfl)), hIn8, trivial⟩, by rw [ht]; exact hP, hD⟩, hS.F ht⟩) hS.2.2 dX9_firstThat_48
        ·
          have tc_9 : (r_7.toInt : Int) ≠ 0 := fun q => c_9 (Int32.toInt_inj.mp q)
          refine lv_iconst (v := 1) hx hb dX9_firstThat_38 kic_1 ?_
          refine lv_goto (tgt := 43) hx hb dX9_firstThat_39 rfl ?_
          refine lv_iload_n hx hb dX9_firstThat_43 rfl (lvA3 hl) ?_
          refine lv_icmp_ne (tgt := 49) hx hb dX9_firstThat_44 rfl (fun c_11 => ?_) (fun c_11 => ?_)
          ·
            have tc_11 : (1 : Int) ≠ v0.toInt := fun q => c_11 (Int32.toInt_inj.mp q)
            refine lv_iinc (v := (nI (i2 + 1))) (lv' := [(3, .int (nI (i2 + 1))), (4, .int (atM (gA (Fw 303) 12 k0) 12 (nI i2))), (0, .ref (ad 5 k0)), (1, .int v0), (2, .ref (g 7))]) hx hb dX9_firstThat_49 hl (k := 1) rfl (nI_1 _) (ltb rfl) rfl (fun ls hl => ?_)
            refine lv_goto (tgt := 2) hx hb dX9_firstThat_52 rfl ?_
            exact ih2 (i2 + 1) Fn8 _ _ (by (first | omega | (have zz0 := Hid.u hb_cn; omega))) ⟨(by (first | omega | (have zz0 := Hid.u hb_cn; omega))), (Fr.mo hf8 (sbl rfl) (sbl rfl) (sbl rfl)), hIn8⟩ hP hD hS ls (lv_sub hl [0, 2, 3, 4] rfl)
          ·
            have tc_11 : (1 : Int) = v0.toInt := congrArg Int32.toInt c_11
            refine lv_iload_n hx hb dX9_firstThat_47 rfl (lvA1 hl) ?_
            exact W.iret (v := (nI i2)) hx hb hr (fun t ht hW => ⟨⟨(nI i2), (cn, In, Fn8), rfl, ⟨(Fr.mo hf8 (sbl rfl) (sbl rfl) (sbl rfl)), hIn8, trivial⟩, by rw [ht]; exact hP, hD⟩, hS.F ht⟩) hS.2.2 dX9_firstThat_48
  exact lp_2 _ 0 Fn _ _ (Nat.lt_succ_self _) ⟨(by (first | omega | (have zz0 := Hid.u hb_cn; omega))), (Fr.mo Fr.rf (sbl rfl) (sbl rfl) (sbl rfl)), hB⟩ hP hD hS ls (lv_sub hl [0, 1, 2, 3] rfl)
set_option maxRecDepth 100000 in
set_option maxHeartbeats 4000000 in
theorem q_Xtsum (l : Launch) (D : va_G) (cI cB cZ : ClassId) (zz qq vv : Nat) (bt : Nat → Int32) (g : Nat → Nat) (ad : Nat → Nat → Nat) (cn : Nat → Nat) (In : Nat → Int32) (Fn : Nat → Nat → Int32) (k0 : Nat) (v0 : Int32) (sz : Nat) (hB : CBX cn) (hk : k0 < cn 6) : Met l yX9_sum (CWS yX9_sum cX9_sum 3 (some .int)) (RM 3 0 0) (PBx [.ref (ad 5 k0), .int v0, .ref (g 7)] D cI cB cZ zz qq vv bt (wX cI (D.1 99) zz g ad cn In Fn) sz) (va_Qi (fun (r : Int32) (u : (Nat → Nat) × (Nat → Int32) × (Nat → Nat → Int32)) => (fun r c2 I2 F2 => Fr [] [] [196, 197, 305] cn In Fn c2 I2 F2 ∧ CBX c2 ∧ (True)) r u.1 u.2.1 u.2.2) (fun (u : (Nat → Nat) × (Nat → Int32) × (Nat → Nat → Int32)) (t : State) => va_P D vwCl (wX cI (D.1 99) zz g ad u.1 u.2.1 u.2.2) t.heap ∧ va_D (va_A (wX cI (D.1 99) zz g ad cn In Fn) sz) (wX cI (D.1 99) zz g ad u.1 u.2.1 u.2.2)) (va_A (wX cI (D.1 99) zz g ad cn In Fn) sz)) 0 0 (va_A (wX cI (D.1 99) zz g ad cn In Fn) sz) := by
  refine en_x (fun A => (va_Qi (fun (r : Int32) (u : (Nat → Nat) × (Nat → Int32) × (Nat → Nat → Int32)) => (fun (r : Int32) (c2 : Nat → Nat) (I2 : Nat → Int32) (F2 : Nat → Nat → Int32) => Fr [] [] [196, 197, 305] cn In Fn c2 I2 F2 ∧ CBX c2 ∧ (True)) r u.1 u.2.1 u.2.2) (fun (u : (Nat → Nat) × (Nat → Int32) × (Nat → Nat → Int32)) (t : State) => va_P D vwCl (wX cI (D.1 99) zz g ad u.1 u.2.1 u.2.2) t.heap ∧ va_D A (wX cI (D.1 99) zz g ad u.1 u.2.1 u.2.2)) A)) rfl rfl pn_RX9 (Nat.le_of_ble_eq_true rfl) (fun p e s m below meth c A hx hb hml hown S hr hlocks hnm hA hP hK hD hXS hS ls hl => ?_)
  have hl : lv_has ls 3 [(0, .ref (ad 5 k0)), (1, .int v0), (2, .ref (g 7))] := hl
  have hb_cn : Hid (CBX cn) := hB
  replace hB : CBXh cn := hB
  refine lv_aload_n hx hb dX9_sum_0 rfl (lvA0 hl) ?_
  refine lv_aload_n hx hb dX9_sum_1 rfl (lvA0 hl) ?_
  refine gf_RX9_21 S hK hP _ (xf_7 hk) (v := .ref (ad 61 k0)) rfl dX9_sum_2 ?_
  refine lv_iload_n hx hb dX9_sum_5 rfl (lvA1 hl) ?_
  refine vp_callSi (runS_r (As := [.ref (ad 61 k0), .int v0]) (rest := [.ref (ad 5 k0)]) S (q_l_at l D cI cB cZ (ad 61 k0) 12 (gA (Fn 302) 12 k0) v0 (by (first | omega | (have zz0 := Hid.u hb_cn; omega)))) kS_RX9_37 hK hP _ (one_is (xf_9 hk)) ⟨Nat.le_of_ble_eq_true rfl, Nat.le_of_ble_eq_true rfl⟩ ⟨Nat.le_of_ble_eq_true rfl, Nat.le_of_ble_eq_true rfl⟩ rfl hl.1 rfl (Nat.le_of_ble_eq_true rfl) dX9_sum_6) (fun r_1 h_2 => ?_)
  subst h_2
  refine lv_aload_n hx hb dX9_sum_9 rfl (lvA0 hl) ?_
  refine gf_RX9_24 S hK hP _ (xf_7 hk) (v := .ref (ad 62 k0)) rfl dX9_sum_10 ?_
  refine lv_iload_n hx hb dX9_sum_13 rfl (lvA1 hl) ?_
  refine vp_callSi (runS_r (As := [.ref (ad 62 k0), .int v0]) (rest := [.int (atM (gA (Fn 302) 12 k0) 12 v0), .ref (ad 5 k0)]) S (q_l_at l D cI cB cZ (ad 62 k0) 12 (gA (Fn 303) 12 k0) v0 (by (first | omega | (have zz0 := Hid.u hb_cn; omega)))) kS_RX9_37 hK hP _ (one_is (xf_10 hk)) ⟨Nat.le_of_ble_eq_true rfl, Nat.le_of_ble_eq_true rfl⟩ ⟨Nat.le_of_ble_eq_true rfl, Nat.le_of_ble_eq_true rfl⟩ rfl hl.1 rfl (Nat.le_of_ble_eq_true rfl) dX9_sum_14) (fun r_3 h_4 => ?_)
  subst h_4
  refine lv_aload_n hx hb dX9_sum_17 rfl (lvA2 hl) ?_
  have hFc := free_all hD hS hA
  refine va_calli (runV_xa (As := [.int (atM (gA (Fn 302) 12 k0) 12 v0), .int (atM (gA (Fn 303) 12 k0) 12 v0), .ref (g 7)]) (rest := []) S (q_Xrun l D cI cB cZ zz qq vv bt g ad cn In Fn k0 (atM (gA (Fn 302) 12 k0) 12 v0) (atM (gA (Fn 303) 12 k0) 12 v0) s.heap.size hB (by (first | omega | (have zz0 := Hid.u hb_cn; omega)))) kV_RX9_51 hK hXS hS hFc hP hD _ (xf_7 hk) rfl rfl ⟨Nat.le_of_ble_eq_true rfl, Nat.le_of_ble_eq_true rfl⟩ ⟨Nat.le_of_ble_eq_true rfl, Nat.le_of_ble_eq_true rfl⟩ rfl hl.1 rfl (Nat.le_of_ble_eq_true rfl) dX9_sum_18) hS (fun q _ h => hFc q h) hFc (fun r_5 u t H1 locs ht hvm wh_6 hB1 hz1 hk1 hS => ?_)
  obtain ⟨cn6, In6, Fn6⟩ := u
  obtain ⟨hP1, hD1⟩ := hB1
  rw [ht] at hP1
  have hP : va_P D vwCl (wX cI (D.1 99) zz g ad cn6 In6 Fn6) H1 := hP1
  have hD : va_D A (wX cI (D.1 99) zz g ad cn6 In6 Fn6) := hD1.weaken (fun _ _ _ h => hFc _ h)
  generalize H1 = H at hP hS ⊢
  have vh_6 : (fun r c2 I2 F2 => Fr [] [] [196, 197, 305] cn In Fn c2 I2 F2 ∧ CBX c2 ∧ (True)) r_5 cn6 In6 Fn6 := wh_6
  obtain ⟨hfc6, hIn6, h_6⟩ := vh_6
  obtain rfl : cn = cn6 := (funext (fun k => hfc6.1 k List.not_mem_nil)).symm
  obtain rfl : In = In6 := (funext (fun k => hfc6.2.1 k List.not_mem_nil)).symm
  have hf6 : Fr [] [] [196, 197, 305] cn In Fn cn In Fn6 := Fr.mo (Fr.tr (Fr.rf (cn := cn) (In := In) (Fn := Fn)) hfc6) (sbl rfl) (sbl rfl) (sbl rfl)
  replace hIn6 : CBXh cn := hIn6
  exact W.iret (v := r_5) hx hb hr (fun t ht hW => ⟨⟨r_5, (cn, In, Fn6), rfl, ⟨(Fr.mo hf6 (sbl rfl) (sbl rfl) (sbl rfl)), hIn6, trivial⟩, by rw [ht]; exact hP, hD⟩, hS.F ht⟩) hS.2.2 dX9_sum_21
set_option maxRecDepth 100000 in
set_option maxHeartbeats 4000000 in
theorem q_Xletter (l : Launch) (D : va_G) (cI cB cZ : ClassId) (zz qq vv : Nat) (bt : Nat → Int32) (g : Nat → Nat) (ad : Nat → Nat → Nat) (cn : Nat → Nat) (In : Nat → Int32) (Fn : Nat → Nat → Int32) (v0 v1 : Int32) (sz : Nat) (hB : CBX cn) : Met l yX11_letter (CWS yX11_letter cX11_letter 3 none) (RM 4 0 0) (PBx [.ref (g 0), .int v0, .int v1] D cI cB cZ zz qq vv bt (wX cI (D.1 99) zz g ad cn In Fn) sz) (va_Qv (fun (u : (Nat → Nat) × (Nat → Int32) × (Nat → Nat → Int32)) => (fun c2 I2 F2 => Fr [] [] [7] cn In Fn c2 I2 F2 ∧ CBX c2 ∧ (True)) u.1 u.2.1 u.2.2) (fun (u : (Nat → Nat) × (Nat → Int32) × (Nat → Nat → Int32)) (t : State) => va_P D vwCl (wX cI (D.1 99) zz g ad u.1 u.2.1 u.2.2) t.heap ∧ va_D (va_A (wX cI (D.1 99) zz g ad cn In Fn) sz) (wX cI (D.1 99) zz g ad u.1 u.2.1 u.2.2)) (va_A (wX cI (D.1 99) zz g ad cn In Fn) sz)) 0 0 (va_A (wX cI (D.1 99) zz g ad cn In Fn) sz) := by
  refine en_x (fun A => (va_Qv (fun (u : (Nat → Nat) × (Nat → Int32) × (Nat → Nat → Int32)) => (fun (c2 : Nat → Nat) (I2 : Nat → Int32) (F2 : Nat → Nat → Int32) => Fr [] [] [7] cn In Fn c2 I2 F2 ∧ CBX c2 ∧ (True)) u.1 u.2.1 u.2.2) (fun (u : (Nat → Nat) × (Nat → Int32) × (Nat → Nat → Int32)) (t : State) => va_P D vwCl (wX cI (D.1 99) zz g ad u.1 u.2.1 u.2.2) t.heap ∧ va_D A (wX cI (D.1 99) zz g ad u.1 u.2.1 u.2.2)) A)) rfl rfl pn_RX11 (Nat.le_of_ble_eq_true rfl) (fun p e s m below meth c A hx hb hml hown S hr hlocks hnm hA hP hK hD hXS hS ls hl => ?_)
  have hl : lv_has ls 3 [(0, .ref (g 0)), (1, .int v0), (2, .int v1)] := hl
  have hb_cn : Hid (CBX cn) := hB
  replace hB : CBXh cn := hB
  refine lv_aload_n hx hb dX11_letter_0 rfl (lvA0 hl) ?_
  refine gf_RX11_40 S hK hP 0 xo_0 (v := .ref (g 7)) rfl dX11_letter_1 ?_
  refine va_ldcS hx hb hown hXS.2.2.2.2.2.2.2.1.1 dX11_letter_4 ?_
  refine lv_iload_n hx hb dX11_letter_6 rfl (lvA1 hl) ?_
  refine vp_callSi (runV_rx (As := [.int v0]) (rest := [.ref (g 7)]) S (q_s_strIndex l D cI cB cZ zz qq vv bt v0) kV_RX11_181 hK hXS hS hP [] rfl (va_Orecv hXS.2.2.2.1 hS) ⟨Nat.le_of_ble_eq_true rfl, Nat.le_of_ble_eq_true rfl⟩ ⟨Nat.le_of_ble_eq_true rfl, Nat.le_of_ble_eq_true rfl⟩ rfl hl.1 rfl (Nat.le_of_ble_eq_true rfl) dX11_letter_7) (fun r_1 h_2 => ?_)
  refine lv_iload_n hx hb dX11_letter_10 rfl (lvA2 hl) ?_
  have hFc := va_free (wc := [((g 7), .inl (cI, 11, .inl (Fn 7)))]) hD hS hA [5] (one_im xo_5)
  refine va_callv (runS_w (As := [.ref (g 7), .int r_1, .int v1]) (rest := []) S (q_l_put l D cI cB cZ (g 7) 11 (Fn 7) r_1 v1 s.heap.size (by (first | omega | (have zz0 := Hid.u hb_cn; omega)))) kS_RX11_184 hK hP hD [5] (one_is xo_5) (one_im xo_5) rfl ⟨Nat.le_of_ble_eq_true rfl, Nat.le_of_ble_eq_true rfl⟩ ⟨Nat.le_of_ble_eq_true rfl, Nat.le_of_ble_eq_true rfl⟩ rfl hl.1 rfl (Nat.le_of_ble_eq_true rfl) dX11_letter_11) hS (fun q _ h => hFc q h) hFc (fun u_5 t H1 locs ht hvm h_4 hB1 hz1 hk1 hS => ?_)
  obtain ⟨hP1, hD1⟩ := hB1
  rw [ht] at hP1
  obtain ⟨hP, hD⟩ := wset1 hP hD xo_5 hk1 hP1
  obtain rfl : u_5 = (putM (Fn 7) 11 r_1 v1) := h_4
  generalize H1 = H at hP hS ⊢
  have hP : va_P D vwCl (wX cI (D.1 99) zz g ad cn In (va_up Fn 7 (putM (Fn 7) 11 r_1 v1))) H := va_P_eq xsa_5 hP
  have hD : va_D A (wX cI (D.1 99) zz g ad cn In (va_up Fn 7 (putM (Fn 7) 11 r_1 v1))) := va_D_eq xsa_5 hD
  exact W.vret hx hb hr (fun t ht hW => ⟨⟨(cn, In, (va_up Fn 7 (putM (Fn 7) 11 r_1 v1))), rfl, ⟨(Fr.mo (Fr.f 7 Fr.rf) (sbl rfl) (sbl rfl) (sbl rfl)), hB, trivial⟩, by rw [ht]; exact hP, hD⟩, hS.F ht⟩) hS.2.2 dX11_letter_14
set_option maxRecDepth 100000 in
set_option maxHeartbeats 4000000 in
theorem q_XlettersOfDay (l : Launch) (D : va_G) (cI cB cZ : ClassId) (zz qq vv : Nat) (bt : Nat → Int32) (g : Nat → Nat) (ad : Nat → Nat → Nat) (cn : Nat → Nat) (In : Nat → Int32) (Fn : Nat → Nat → Int32) (v0 : Int32) (sz : Nat) (hB : CBX cn) : Met l yX11_lettersOfDay (CWS yX11_lettersOfDay cX11_lettersOfDay 2 none) (RM 5 0 0) (PBx [.ref (g 0), .int v0] D cI cB cZ zz qq vv bt (wX cI (D.1 99) zz g ad cn In Fn) sz) (va_Qv (fun (u : (Nat → Nat) × (Nat → Int32) × (Nat → Nat → Int32)) => (fun c2 I2 F2 => Fr [] [] [7] cn In Fn c2 I2 F2 ∧ CBX c2 ∧ (True)) u.1 u.2.1 u.2.2) (fun (u : (Nat → Nat) × (Nat → Int32) × (Nat → Nat → Int32)) (t : State) => va_P D vwCl (wX cI (D.1 99) zz g ad u.1 u.2.1 u.2.2) t.heap ∧ va_D (va_A (wX cI (D.1 99) zz g ad cn In Fn) sz) (wX cI (D.1 99) zz g ad u.1 u.2.1 u.2.2)) (va_A (wX cI (D.1 99) zz g ad cn In Fn) sz)) 0 0 (va_A (wX cI (D.1 99) zz g ad cn In Fn) sz) := by
  refine en_x (fun A => (va_Qv (fun (u : (Nat → Nat) × (Nat → Int32) × (Nat → Nat → Int32)) => (fun (c2 : Nat → Nat) (I2 : Nat → Int32) (F2 : Nat → Nat → Int32) => Fr [] [] [7] cn In Fn c2 I2 F2 ∧ CBX c2 ∧ (True)) u.1 u.2.1 u.2.2) (fun (u : (Nat → Nat) × (Nat → Int32) × (Nat → Nat → Int32)) (t : State) => va_P D vwCl (wX cI (D.1 99) zz g ad u.1 u.2.1 u.2.2) t.heap ∧ va_D A (wX cI (D.1 99) zz g ad u.1 u.2.1 u.2.2)) A)) rfl rfl pn_RX11 (Nat.le_of_ble_eq_true rfl) (fun p e s m below meth c A hx hb hml hown S hr hlocks hnm hA hP hK hD hXS hS ls hl => ?_)
  have hl : lv_has ls 2 [(0, .ref (g 0)), (1, .int v0)] := hl
  have hb_cn : Hid (CBX cn) := hB
  replace hB : CBXh cn := hB
  refine lv_aload_n hx hb dX11_lettersOfDay_0 rfl (lvA0 hl) ?_
  refine lv_bipush (v := 100) hx hb dX11_lettersOfDay_1 kbc_100 ?_
  refine lv_iload_n hx hb dX11_lettersOfDay_3 rfl (lvA1 hl) ?_
  have hFc := free_all hD hS hA
  refine va_callv (runV_xa (As := [.int 100, .int v0]) (rest := []) S (q_Xletter l D cI cB cZ zz qq vv bt g ad cn In Fn 100 v0 s.heap.size hB) kV_RX11_188 hK hXS hS hFc hP hD 0 xo_0 rfl rfl ⟨Nat.le_of_ble_eq_true rfl, Nat.le_of_ble_eq_true rfl⟩ ⟨Nat.le_of_ble_eq_true rfl, Nat.le_of_ble_eq_true rfl⟩ rfl hl.1 rfl (Nat.le_of_ble_eq_true rfl) dX11_lettersOfDay_4) hS (fun q _ h => hFc q h) hFc (fun u t H1 locs ht hvm wh_2 hB1 hz1 hk1 hS => ?_)
  obtain ⟨cn2, In2, Fn2⟩ := u
  obtain ⟨hP1, hD1⟩ := hB1
  rw [ht] at hP1
  have hP : va_P D vwCl (wX cI (D.1 99) zz g ad cn2 In2 Fn2) H1 := hP1
  have hD : va_D A (wX cI (D.1 99) zz g ad cn2 In2 Fn2) := hD1.weaken (fun _ _ _ h => hFc _ h)
  generalize H1 = H at hP hS ⊢
  have vh_2 : (fun c2 I2 F2 => Fr [] [] [7] cn In Fn c2 I2 F2 ∧ CBX c2 ∧ (True)) cn2 In2 Fn2 := wh_2
  obtain ⟨hfc2, hIn2, h_2⟩ := vh_2
  obtain rfl : cn = cn2 := (funext (fun k => hfc2.1 k List.not_mem_nil)).symm
  obtain rfl : In = In2 := (funext (fun k => hfc2.2.1 k List.not_mem_nil)).symm
  have hf2 : Fr [] [] [7] cn In Fn cn In Fn2 := Fr.mo (Fr.tr (Fr.rf (cn := cn) (In := In) (Fn := Fn)) hfc2) (sbl rfl) (sbl rfl) (sbl rfl)
  replace hIn2 : CBXh cn := hIn2
  refine lv_aload_n hx hb dX11_lettersOfDay_7 rfl (lvA0 hl) ?_
  refine lv_bipush (v := 119) hx hb dX11_lettersOfDay_8 kbc_119 ?_
  refine lv_iload_n hx hb dX11_lettersOfDay_10 rfl (lvA1 hl) ?_
  refine lv_bipush (v := 7) hx hb dX11_lettersOfDay_11 kbc_7 ?_
  refine lv_idiv hx hb dX11_lettersOfDay_13 (by decide) ?_
  have hFc := free_all hD hS hA
  refine va_callv (runV_xa (As := [.int 119, .int (v0 / 7)]) (rest := []) S (q_Xletter l D cI cB cZ zz qq vv bt g ad cn In Fn2 119 (v0 / 7) H.size hIn2) kV_RX11_188 hK hXS hS hFc hP hD 0 xo_0 rfl rfl ⟨Nat.le_of_ble_eq_true rfl, Nat.le_of_ble_eq_true rfl⟩ ⟨Nat.le_of_ble_eq_true rfl, Nat.le_of_ble_eq_true rfl⟩ rfl hl.1 rfl (Nat.le_of_ble_eq_true rfl) dX11_lettersOfDay_14) hS (fun q _ h => hFc q h) hFc (fun u t H1 locs ht hvm wh_4 hB1 hz1 hk1 hS => ?_)
  obtain ⟨cn4, In4, Fn4⟩ := u
  obtain ⟨hP1, hD1⟩ := hB1
  rw [ht] at hP1
  have hP : va_P D vwCl (wX cI (D.1 99) zz g ad cn4 In4 Fn4) H1 := hP1
  have hD : va_D A (wX cI (D.1 99) zz g ad cn4 In4 Fn4) := hD1.weaken (fun _ _ _ h => hFc _ h)
  generalize H1 = H at hP hS ⊢
  have vh_4 : (fun c2 I2 F2 => Fr [] [] [7] cn In Fn2 c2 I2 F2 ∧ CBX c2 ∧ (True)) cn4 In4 Fn4 := wh_4
  obtain ⟨hfc4, hIn4, h_4⟩ := vh_4
  obtain rfl : cn = cn4 := (funext (fun k => hfc4.1 k List.not_mem_nil)).symm
  obtain rfl : In = In4 := (funext (fun k => hfc4.2.1 k List.not_mem_nil)).symm
  have hf4 : Fr [] [] [7] cn In Fn cn In Fn4 := Fr.mo (Fr.tr hf2 hfc4) (sbl rfl) (sbl rfl) (sbl rfl)
  replace hIn4 : CBXh cn := hIn4
  refine lv_aload_n hx hb dX11_lettersOfDay_17 rfl (lvA0 hl) ?_
  refine lv_bipush (v := 103) hx hb dX11_lettersOfDay_18 kbc_103 ?_
  refine lv_iload_n hx hb dX11_lettersOfDay_20 rfl (lvA1 hl) ?_
  refine lv_bipush (v := 7) hx hb dX11_lettersOfDay_21 kbc_7 ?_
  refine lv_irem hx hb dX11_lettersOfDay_23 (by decide) ?_
  have hFc := free_all hD hS hA
  refine va_callv (runV_xa (As := [.int 103, .int (v0 - v0 / 7 * 7)]) (rest := []) S (q_Xletter l D cI cB cZ zz qq vv bt g ad cn In Fn4 103 (v0 - v0 / 7 * 7) H.size hIn4) kV_RX11_188 hK hXS hS hFc hP hD 0 xo_0 rfl rfl ⟨Nat.le_of_ble_eq_true rfl, Nat.le_of_ble_eq_true rfl⟩ ⟨Nat.le_of_ble_eq_true rfl, Nat.le_of_ble_eq_true rfl⟩ rfl hl.1 rfl (Nat.le_of_ble_eq_true rfl) dX11_lettersOfDay_24) hS (fun q _ h => hFc q h) hFc (fun u t H1 locs ht hvm wh_6 hB1 hz1 hk1 hS => ?_)
  obtain ⟨cn6, In6, Fn6⟩ := u
  obtain ⟨hP1, hD1⟩ := hB1
  rw [ht] at hP1
  have hP : va_P D vwCl (wX cI (D.1 99) zz g ad cn6 In6 Fn6) H1 := hP1
  have hD : va_D A (wX cI (D.1 99) zz g ad cn6 In6 Fn6) := hD1.weaken (fun _ _ _ h => hFc _ h)
  generalize H1 = H at hP hS ⊢
  have vh_6 : (fun c2 I2 F2 => Fr [] [] [7] cn In Fn4 c2 I2 F2 ∧ CBX c2 ∧ (True)) cn6 In6 Fn6 := wh_6
  obtain ⟨hfc6, hIn6, h_6⟩ := vh_6
  obtain rfl : cn = cn6 := (funext (fun k => hfc6.1 k List.not_mem_nil)).symm
  obtain rfl : In = In6 := (funext (fun k => hfc6.2.1 k List.not_mem_nil)).symm
  have hf6 : Fr [] [] [7] cn In Fn cn In Fn6 := Fr.mo (Fr.tr hf4 hfc6) (sbl rfl) (sbl rfl) (sbl rfl)
  replace hIn6 : CBXh cn := hIn6
  refine lv_aload_n hx hb dX11_lettersOfDay_27 rfl (lvA0 hl) ?_
  refine lv_bipush (v := 111) hx hb dX11_lettersOfDay_28 kbc_111 ?_
  refine lv_aload_n hx hb dX11_lettersOfDay_30 rfl (lvA0 hl) ?_
  refine gf_RX11_47 S hK hP 0 xo_0 (v := .ref (g 8)) rfl dX11_lettersOfDay_31 ?_
  refine gf_RX11_174 S hK hP 6 xo_6 (v := .ref (g 20)) rfl dX11_lettersOfDay_34 ?_
  refine lv_iload_n hx hb dX11_lettersOfDay_37 rfl (lvA1 hl) ?_
  refine lv_bipush (v := 7) hx hb dX11_lettersOfDay_38 kbc_7 ?_
  refine lv_idiv hx hb dX11_lettersOfDay_40 (by decide) ?_
  refine vp_callSi (runS_r (As := [.ref (g 20), .int (v0 / 7)]) (rest := [.int 111, .ref (g 0)]) S (q_l_at l D cI cB cZ (g 20) 58 (Fn6 20) (v0 / 7) (by (first | omega | (have zz0 := Hid.u hb_cn; omega)))) kS_RX11_192 hK hP [7] (one_is xo_7) ⟨Nat.le_of_ble_eq_true rfl, Nat.le_of_ble_eq_true rfl⟩ ⟨Nat.le_of_ble_eq_true rfl, Nat.le_of_ble_eq_true rfl⟩ rfl hl.1 rfl (Nat.le_of_ble_eq_true rfl) dX11_lettersOfDay_41) (fun r_7 h_8 => ?_)
  subst h_8
  have hFc := free_all hD hS hA
  refine va_callv (runV_xa (As := [.int 111, .int (atM (Fn6 20) 58 (v0 / 7))]) (rest := []) S (q_Xletter l D cI cB cZ zz qq vv bt g ad cn In Fn6 111 (atM (Fn6 20) 58 (v0 / 7)) H.size hIn6) kV_RX11_188 hK hXS hS hFc hP hD 0 xo_0 rfl rfl ⟨Nat.le_of_ble_eq_true rfl, Nat.le_of_ble_eq_true rfl⟩ ⟨Nat.le_of_ble_eq_true rfl, Nat.le_of_ble_eq_true rfl⟩ rfl hl.1 rfl (Nat.le_of_ble_eq_true rfl) dX11_lettersOfDay_44) hS (fun q _ h => hFc q h) hFc (fun u t H1 locs ht hvm wh_10 hB1 hz1 hk1 hS => ?_)
  obtain ⟨cn10, In10, Fn10⟩ := u
  obtain ⟨hP1, hD1⟩ := hB1
  rw [ht] at hP1
  have hP : va_P D vwCl (wX cI (D.1 99) zz g ad cn10 In10 Fn10) H1 := hP1
  have hD : va_D A (wX cI (D.1 99) zz g ad cn10 In10 Fn10) := hD1.weaken (fun _ _ _ h => hFc _ h)
  generalize H1 = H at hP hS ⊢
  have vh_10 : (fun c2 I2 F2 => Fr [] [] [7] cn In Fn6 c2 I2 F2 ∧ CBX c2 ∧ (True)) cn10 In10 Fn10 := wh_10
  obtain ⟨hfc10, hIn10, h_10⟩ := vh_10
  obtain rfl : cn = cn10 := (funext (fun k => hfc10.1 k List.not_mem_nil)).symm
  obtain rfl : In = In10 := (funext (fun k => hfc10.2.1 k List.not_mem_nil)).symm
  have hf10 : Fr [] [] [7] cn In Fn cn In Fn10 := Fr.mo (Fr.tr hf6 hfc10) (sbl rfl) (sbl rfl) (sbl rfl)
  replace hIn10 : CBXh cn := hIn10
  exact W.vret hx hb hr (fun t ht hW => ⟨⟨(cn, In, Fn10), rfl, ⟨(Fr.mo hf10 (sbl rfl) (sbl rfl) (sbl rfl)), hIn10, trivial⟩, by rw [ht]; exact hP, hD⟩, hS.F ht⟩) hS.2.2 dX11_lettersOfDay_47
set_option maxRecDepth 100000 in
set_option maxHeartbeats 4000000 in
theorem q_XlettersOfLoad (l : Launch) (D : va_G) (cI cB cZ : ClassId) (zz qq vv : Nat) (bt : Nat → Int32) (g : Nat → Nat) (ad : Nat → Nat → Nat) (cn : Nat → Nat) (In : Nat → Int32) (Fn : Nat → Nat → Int32) (k0 : Nat) (sz : Nat) (hB : CBX cn) (hk : k0 < cn 11) : Met l yX11_lettersOfLoad (CWS yX11_lettersOfLoad cX11_lettersOfLoad 2 none) (RM 6 0 0) (PBx [.ref (g 0), .ref (ad 11 k0)] D cI cB cZ zz qq vv bt (wX cI (D.1 99) zz g ad cn In Fn) sz) (va_Qv (fun (u : (Nat → Nat) × (Nat → Int32) × (Nat → Nat → Int32)) => (fun c2 I2 F2 => Fr [] [] [7] cn In Fn c2 I2 F2 ∧ CBX c2 ∧ (True)) u.1 u.2.1 u.2.2) (fun (u : (Nat → Nat) × (Nat → Int32) × (Nat → Nat → Int32)) (t : State) => va_P D vwCl (wX cI (D.1 99) zz g ad u.1 u.2.1 u.2.2) t.heap ∧ va_D (va_A (wX cI (D.1 99) zz g ad cn In Fn) sz) (wX cI (D.1 99) zz g ad u.1 u.2.1 u.2.2)) (va_A (wX cI (D.1 99) zz g ad cn In Fn) sz)) 0 0 (va_A (wX cI (D.1 99) zz g ad cn In Fn) sz) := by
  refine en_x (fun A => (va_Qv (fun (u : (Nat → Nat) × (Nat → Int32) × (Nat → Nat → Int32)) => (fun (c2 : Nat → Nat) (I2 : Nat → Int32) (F2 : Nat → Nat → Int32) => Fr [] [] [7] cn In Fn c2 I2 F2 ∧ CBX c2 ∧ (True)) u.1 u.2.1 u.2.2) (fun (u : (Nat → Nat) × (Nat → Int32) × (Nat → Nat → Int32)) (t : State) => va_P D vwCl (wX cI (D.1 99) zz g ad u.1 u.2.1 u.2.2) t.heap ∧ va_D A (wX cI (D.1 99) zz g ad u.1 u.2.1 u.2.2)) A)) rfl rfl pn_RX11 (Nat.le_of_ble_eq_true rfl) (fun p e s m below meth c A hx hb hml hown S hr hlocks hnm hA hP hK hD hXS hS ls hl => ?_)
  have hl : lv_has ls 2 [(0, .ref (g 0)), (1, .ref (ad 11 k0))] := hl
  have hb_cn : Hid (CBX cn) := hB
  replace hB : CBXh cn := hB
  refine lv_aload_n hx hb dX11_lettersOfLoad_0 rfl (lvA0 hl) ?_
  refine lv_aload_n hx hb dX11_lettersOfLoad_1 rfl (lvA1 hl) ?_
  refine gf_RX11_196 S hK hP _ (xf_1 hk) (v := .int ((Fn 121) k0)) rfl dX11_lettersOfLoad_2 ?_
  have hFc := free_all hD hS hA
  refine va_callv (runV_xa (As := [.int ((Fn 121) k0)]) (rest := []) S (q_XlettersOfDay l D cI cB cZ zz qq vv bt g ad cn In Fn ((Fn 121) k0) s.heap.size hB) kV_RX11_199 hK hXS hS hFc hP hD 0 xo_0 rfl rfl ⟨Nat.le_of_ble_eq_true rfl, Nat.le_of_ble_eq_true rfl⟩ ⟨Nat.le_of_ble_eq_true rfl, Nat.le_of_ble_eq_true rfl⟩ rfl hl.1 rfl (Nat.le_of_ble_eq_true rfl) dX11_lettersOfLoad_5) hS (fun q _ h => hFc q h) hFc (fun u t H1 locs ht hvm wh_2 hB1 hz1 hk1 hS => ?_)
  obtain ⟨cn2, In2, Fn2⟩ := u
  obtain ⟨hP1, hD1⟩ := hB1
  rw [ht] at hP1
  have hP : va_P D vwCl (wX cI (D.1 99) zz g ad cn2 In2 Fn2) H1 := hP1
  have hD : va_D A (wX cI (D.1 99) zz g ad cn2 In2 Fn2) := hD1.weaken (fun _ _ _ h => hFc _ h)
  generalize H1 = H at hP hS ⊢
  have vh_2 : (fun c2 I2 F2 => Fr [] [] [7] cn In Fn c2 I2 F2 ∧ CBX c2 ∧ (True)) cn2 In2 Fn2 := wh_2
  obtain ⟨hfc2, hIn2, h_2⟩ := vh_2
  obtain rfl : cn = cn2 := (funext (fun k => hfc2.1 k List.not_mem_nil)).symm
  obtain rfl : In = In2 := (funext (fun k => hfc2.2.1 k List.not_mem_nil)).symm
  have hf2 : Fr [] [] [7] cn In Fn cn In Fn2 := Fr.mo (Fr.tr (Fr.rf (cn := cn) (In := In) (Fn := Fn)) hfc2) (sbl rfl) (sbl rfl) (sbl rfl)
  replace hIn2 : CBXh cn := hIn2
  refine lv_aload_n hx hb dX11_lettersOfLoad_8 rfl (lvA0 hl) ?_
  refine lv_bipush (v := 113) hx hb dX11_lettersOfLoad_9 kbc_113 ?_
  refine lv_aload_n hx hb dX11_lettersOfLoad_11 rfl (lvA1 hl) ?_
  refine gf_RX11_202 S hK hP _ (xf_1 hk) (v := .int ((Fn2 122) k0)) rfl dX11_lettersOfLoad_12 ?_
  have hFc := free_all hD hS hA
  refine va_callv (runV_xa (As := [.int 113, .int ((Fn2 122) k0)]) (rest := []) S (q_Xletter l D cI cB cZ zz qq vv bt g ad cn In Fn2 113 ((Fn2 122) k0) H.size hIn2) kV_RX11_188 hK hXS hS hFc hP hD 0 xo_0 rfl rfl ⟨Nat.le_of_ble_eq_true rfl, Nat.le_of_ble_eq_true rfl⟩ ⟨Nat.le_of_ble_eq_true rfl, Nat.le_of_ble_eq_true rfl⟩ rfl hl.1 rfl (Nat.le_of_ble_eq_true rfl) dX11_lettersOfLoad_15) hS (fun q _ h => hFc q h) hFc (fun u t H1 locs ht hvm wh_4 hB1 hz1 hk1 hS => ?_)
  obtain ⟨cn4, In4, Fn4⟩ := u
  obtain ⟨hP1, hD1⟩ := hB1
  rw [ht] at hP1
  have hP : va_P D vwCl (wX cI (D.1 99) zz g ad cn4 In4 Fn4) H1 := hP1
  have hD : va_D A (wX cI (D.1 99) zz g ad cn4 In4 Fn4) := hD1.weaken (fun _ _ _ h => hFc _ h)
  generalize H1 = H at hP hS ⊢
  have vh_4 : (fun c2 I2 F2 => Fr [] [] [7] cn In Fn2 c2 I2 F2 ∧ CBX c2 ∧ (True)) cn4 In4 Fn4 := wh_4
  obtain ⟨hfc4, hIn4, h_4⟩ := vh_4
  obtain rfl : cn = cn4 := (funext (fun k => hfc4.1 k List.not_mem_nil)).symm
  obtain rfl : In = In4 := (funext (fun k => hfc4.2.1 k List.not_mem_nil)).symm
  have hf4 : Fr [] [] [7] cn In Fn cn In Fn4 := Fr.mo (Fr.tr hf2 hfc4) (sbl rfl) (sbl rfl) (sbl rfl)
  replace hIn4 : CBXh cn := hIn4
  refine lv_aload_n hx hb dX11_lettersOfLoad_18 rfl (lvA0 hl) ?_
  refine lv_bipush (v := 102) hx hb dX11_lettersOfLoad_19 kbc_102 ?_
  refine lv_aload_n hx hb dX11_lettersOfLoad_21 rfl (lvA1 hl) ?_
  refine gf_RX11_205 S hK hP _ (xf_1 hk) (v := .int ((Fn4 123) k0)) rfl dX11_lettersOfLoad_22 ?_
  have hFc := free_all hD hS hA
  refine va_callv (runV_xa (As := [.int 102, .int ((Fn4 123) k0)]) (rest := []) S (q_Xletter l D cI cB cZ zz qq vv bt g ad cn In Fn4 102 ((Fn4 123) k0) H.size hIn4) kV_RX11_188 hK hXS hS hFc hP hD 0 xo_0 rfl rfl ⟨Nat.le_of_ble_eq_true rfl, Nat.le_of_ble_eq_true rfl⟩ ⟨Nat.le_of_ble_eq_true rfl, Nat.le_of_ble_eq_true rfl⟩ rfl hl.1 rfl (Nat.le_of_ble_eq_true rfl) dX11_lettersOfLoad_25) hS (fun q _ h => hFc q h) hFc (fun u t H1 locs ht hvm wh_6 hB1 hz1 hk1 hS => ?_)
  obtain ⟨cn6, In6, Fn6⟩ := u
  obtain ⟨hP1, hD1⟩ := hB1
  rw [ht] at hP1
  have hP : va_P D vwCl (wX cI (D.1 99) zz g ad cn6 In6 Fn6) H1 := hP1
  have hD : va_D A (wX cI (D.1 99) zz g ad cn6 In6 Fn6) := hD1.weaken (fun _ _ _ h => hFc _ h)
  generalize H1 = H at hP hS ⊢
  have vh_6 : (fun c2 I2 F2 => Fr [] [] [7] cn In Fn4 c2 I2 F2 ∧ CBX c2 ∧ (True)) cn6 In6 Fn6 := wh_6
  obtain ⟨hfc6, hIn6, h_6⟩ := vh_6
  obtain rfl : cn = cn6 := (funext (fun k => hfc6.1 k List.not_mem_nil)).symm
  obtain rfl : In = In6 := (funext (fun k => hfc6.2.1 k List.not_mem_nil)).symm
  have hf6 : Fr [] [] [7] cn In Fn cn In Fn6 := Fr.mo (Fr.tr hf4 hfc6) (sbl rfl) (sbl rfl) (sbl rfl)
  replace hIn6 : CBXh cn := hIn6
  refine lv_aload_n hx hb dX11_lettersOfLoad_28 rfl (lvA0 hl) ?_
  refine lv_bipush (v := 97) hx hb dX11_lettersOfLoad_29 kbc_97 ?_
  refine lv_aload_n hx hb dX11_lettersOfLoad_31 rfl (lvA1 hl) ?_
  refine gf_RX11_208 S hK hP _ (xf_1 hk) (v := .int ((Fn6 124) k0)) rfl dX11_lettersOfLoad_32 ?_
  have hFc := free_all hD hS hA
  refine va_callv (runV_xa (As := [.int 97, .int ((Fn6 124) k0)]) (rest := []) S (q_Xletter l D cI cB cZ zz qq vv bt g ad cn In Fn6 97 ((Fn6 124) k0) H.size hIn6) kV_RX11_188 hK hXS hS hFc hP hD 0 xo_0 rfl rfl ⟨Nat.le_of_ble_eq_true rfl, Nat.le_of_ble_eq_true rfl⟩ ⟨Nat.le_of_ble_eq_true rfl, Nat.le_of_ble_eq_true rfl⟩ rfl hl.1 rfl (Nat.le_of_ble_eq_true rfl) dX11_lettersOfLoad_35) hS (fun q _ h => hFc q h) hFc (fun u t H1 locs ht hvm wh_8 hB1 hz1 hk1 hS => ?_)
  obtain ⟨cn8, In8, Fn8⟩ := u
  obtain ⟨hP1, hD1⟩ := hB1
  rw [ht] at hP1
  have hP : va_P D vwCl (wX cI (D.1 99) zz g ad cn8 In8 Fn8) H1 := hP1
  have hD : va_D A (wX cI (D.1 99) zz g ad cn8 In8 Fn8) := hD1.weaken (fun _ _ _ h => hFc _ h)
  generalize H1 = H at hP hS ⊢
  have vh_8 : (fun c2 I2 F2 => Fr [] [] [7] cn In Fn6 c2 I2 F2 ∧ CBX c2 ∧ (True)) cn8 In8 Fn8 := wh_8
  obtain ⟨hfc8, hIn8, h_8⟩ := vh_8
  obtain rfl : cn = cn8 := (funext (fun k => hfc8.1 k List.not_mem_nil)).symm
  obtain rfl : In = In8 := (funext (fun k => hfc8.2.1 k List.not_mem_nil)).symm
  have hf8 : Fr [] [] [7] cn In Fn cn In Fn8 := Fr.mo (Fr.tr hf6 hfc8) (sbl rfl) (sbl rfl) (sbl rfl)
  replace hIn8 : CBXh cn := hIn8
  refine lv_aload_n hx hb dX11_lettersOfLoad_38 rfl (lvA0 hl) ?_
  refine lv_bipush (v := 107) hx hb dX11_lettersOfLoad_39 kbc_107 ?_
  refine lv_aload_n hx hb dX11_lettersOfLoad_41 rfl (lvA1 hl) ?_
  refine gf_RX11_211 S hK hP _ (xf_1 hk) (v := .int ((Fn8 120) k0)) rfl dX11_lettersOfLoad_42 ?_
  have hFc := free_all hD hS hA
  refine va_callv (runV_xa (As := [.int 107, .int ((Fn8 120) k0)]) (rest := []) S (q_Xletter l D cI cB cZ zz qq vv bt g ad cn In Fn8 107 ((Fn8 120) k0) H.size hIn8) kV_RX11_188 hK hXS hS hFc hP hD 0 xo_0 rfl rfl ⟨Nat.le_of_ble_eq_true rfl, Nat.le_of_ble_eq_true rfl⟩ ⟨Nat.le_of_ble_eq_true rfl, Nat.le_of_ble_eq_true rfl⟩ rfl hl.1 rfl (Nat.le_of_ble_eq_true rfl) dX11_lettersOfLoad_45) hS (fun q _ h => hFc q h) hFc (fun u t H1 locs ht hvm wh_10 hB1 hz1 hk1 hS => ?_)
  obtain ⟨cn10, In10, Fn10⟩ := u
  obtain ⟨hP1, hD1⟩ := hB1
  rw [ht] at hP1
  have hP : va_P D vwCl (wX cI (D.1 99) zz g ad cn10 In10 Fn10) H1 := hP1
  have hD : va_D A (wX cI (D.1 99) zz g ad cn10 In10 Fn10) := hD1.weaken (fun _ _ _ h => hFc _ h)
  generalize H1 = H at hP hS ⊢
  have vh_10 : (fun c2 I2 F2 => Fr [] [] [7] cn In Fn8 c2 I2 F2 ∧ CBX c2 ∧ (True)) cn10 In10 Fn10 := wh_10
  obtain ⟨hfc10, hIn10, h_10⟩ := vh_10
  obtain rfl : cn = cn10 := (funext (fun k => hfc10.1 k List.not_mem_nil)).symm
  obtain rfl : In = In10 := (funext (fun k => hfc10.2.1 k List.not_mem_nil)).symm
  have hf10 : Fr [] [] [7] cn In Fn cn In Fn10 := Fr.mo (Fr.tr hf8 hfc10) (sbl rfl) (sbl rfl) (sbl rfl)
  replace hIn10 : CBXh cn := hIn10
  refine lv_aload_n hx hb dX11_lettersOfLoad_48 rfl (lvA0 hl) ?_
  refine lv_bipush (v := 109) hx hb dX11_lettersOfLoad_49 kbc_109 ?_
  refine lv_aload_n hx hb dX11_lettersOfLoad_51 rfl (lvA1 hl) ?_
  refine gf_RX11_141 S hK hP _ (xf_1 hk) (v := .int ((Fn10 128) k0)) rfl dX11_lettersOfLoad_52 ?_
  have hFc := free_all hD hS hA
  refine va_callv (runV_xa (As := [.int 109, .int ((Fn10 128) k0)]) (rest := []) S (q_Xletter l D cI cB cZ zz qq vv bt g ad cn In Fn10 109 ((Fn10 128) k0) H.size hIn10) kV_RX11_188 hK hXS hS hFc hP hD 0 xo_0 rfl rfl ⟨Nat.le_of_ble_eq_true rfl, Nat.le_of_ble_eq_true rfl⟩ ⟨Nat.le_of_ble_eq_true rfl, Nat.le_of_ble_eq_true rfl⟩ rfl hl.1 rfl (Nat.le_of_ble_eq_true rfl) dX11_lettersOfLoad_55) hS (fun q _ h => hFc q h) hFc (fun u t H1 locs ht hvm wh_12 hB1 hz1 hk1 hS => ?_)
  obtain ⟨cn12, In12, Fn12⟩ := u
  obtain ⟨hP1, hD1⟩ := hB1
  rw [ht] at hP1
  have hP : va_P D vwCl (wX cI (D.1 99) zz g ad cn12 In12 Fn12) H1 := hP1
  have hD : va_D A (wX cI (D.1 99) zz g ad cn12 In12 Fn12) := hD1.weaken (fun _ _ _ h => hFc _ h)
  generalize H1 = H at hP hS ⊢
  have vh_12 : (fun c2 I2 F2 => Fr [] [] [7] cn In Fn10 c2 I2 F2 ∧ CBX c2 ∧ (True)) cn12 In12 Fn12 := wh_12
  obtain ⟨hfc12, hIn12, h_12⟩ := vh_12
  obtain rfl : cn = cn12 := (funext (fun k => hfc12.1 k List.not_mem_nil)).symm
  obtain rfl : In = In12 := (funext (fun k => hfc12.2.1 k List.not_mem_nil)).symm
  have hf12 : Fr [] [] [7] cn In Fn cn In Fn12 := Fr.mo (Fr.tr hf10 hfc12) (sbl rfl) (sbl rfl) (sbl rfl)
  replace hIn12 : CBXh cn := hIn12
  refine lv_aload_n hx hb dX11_lettersOfLoad_58 rfl (lvA0 hl) ?_
  refine lv_bipush (v := 115) hx hb dX11_lettersOfLoad_59 kbc_115 ?_
  refine lv_aload_n hx hb dX11_lettersOfLoad_61 rfl (lvA1 hl) ?_
  refine gf_RX11_134 S hK hP _ (xf_1 hk) (v := .int ((Fn12 127) k0)) rfl dX11_lettersOfLoad_62 ?_
  have hFc := free_all hD hS hA
  refine va_callv (runV_xa (As := [.int 115, .int ((Fn12 127) k0)]) (rest := []) S (q_Xletter l D cI cB cZ zz qq vv bt g ad cn In Fn12 115 ((Fn12 127) k0) H.size hIn12) kV_RX11_188 hK hXS hS hFc hP hD 0 xo_0 rfl rfl ⟨Nat.le_of_ble_eq_true rfl, Nat.le_of_ble_eq_true rfl⟩ ⟨Nat.le_of_ble_eq_true rfl, Nat.le_of_ble_eq_true rfl⟩ rfl hl.1 rfl (Nat.le_of_ble_eq_true rfl) dX11_lettersOfLoad_65) hS (fun q _ h => hFc q h) hFc (fun u t H1 locs ht hvm wh_14 hB1 hz1 hk1 hS => ?_)
  obtain ⟨cn14, In14, Fn14⟩ := u
  obtain ⟨hP1, hD1⟩ := hB1
  rw [ht] at hP1
  have hP : va_P D vwCl (wX cI (D.1 99) zz g ad cn14 In14 Fn14) H1 := hP1
  have hD : va_D A (wX cI (D.1 99) zz g ad cn14 In14 Fn14) := hD1.weaken (fun _ _ _ h => hFc _ h)
  generalize H1 = H at hP hS ⊢
  have vh_14 : (fun c2 I2 F2 => Fr [] [] [7] cn In Fn12 c2 I2 F2 ∧ CBX c2 ∧ (True)) cn14 In14 Fn14 := wh_14
  obtain ⟨hfc14, hIn14, h_14⟩ := vh_14
  obtain rfl : cn = cn14 := (funext (fun k => hfc14.1 k List.not_mem_nil)).symm
  obtain rfl : In = In14 := (funext (fun k => hfc14.2.1 k List.not_mem_nil)).symm
  have hf14 : Fr [] [] [7] cn In Fn cn In Fn14 := Fr.mo (Fr.tr hf12 hfc14) (sbl rfl) (sbl rfl) (sbl rfl)
  replace hIn14 : CBXh cn := hIn14
  refine lv_aload_n hx hb dX11_lettersOfLoad_68 rfl (lvA0 hl) ?_
  refine lv_bipush (v := 110) hx hb dX11_lettersOfLoad_69 kbc_110 ?_
  refine lv_iconst (v := 0) hx hb dX11_lettersOfLoad_71 kic_0 ?_
  have hFc := free_all hD hS hA
  refine va_callv (runV_xa (As := [.int 110, .int 0]) (rest := []) S (q_Xletter l D cI cB cZ zz qq vv bt g ad cn In Fn14 110 0 H.size hIn14) kV_RX11_188 hK hXS hS hFc hP hD 0 xo_0 rfl rfl ⟨Nat.le_of_ble_eq_true rfl, Nat.le_of_ble_eq_true rfl⟩ ⟨Nat.le_of_ble_eq_true rfl, Nat.le_of_ble_eq_true rfl⟩ rfl hl.1 rfl (Nat.le_of_ble_eq_true rfl) dX11_lettersOfLoad_72) hS (fun q _ h => hFc q h) hFc (fun u t H1 locs ht hvm wh_16 hB1 hz1 hk1 hS => ?_)
  obtain ⟨cn16, In16, Fn16⟩ := u
  obtain ⟨hP1, hD1⟩ := hB1
  rw [ht] at hP1
  have hP : va_P D vwCl (wX cI (D.1 99) zz g ad cn16 In16 Fn16) H1 := hP1
  have hD : va_D A (wX cI (D.1 99) zz g ad cn16 In16 Fn16) := hD1.weaken (fun _ _ _ h => hFc _ h)
  generalize H1 = H at hP hS ⊢
  have vh_16 : (fun c2 I2 F2 => Fr [] [] [7] cn In Fn14 c2 I2 F2 ∧ CBX c2 ∧ (True)) cn16 In16 Fn16 := wh_16
  obtain ⟨hfc16, hIn16, h_16⟩ := vh_16
  obtain rfl : cn = cn16 := (funext (fun k => hfc16.1 k List.not_mem_nil)).symm
  obtain rfl : In = In16 := (funext (fun k => hfc16.2.1 k List.not_mem_nil)).symm
  have hf16 : Fr [] [] [7] cn In Fn cn In Fn16 := Fr.mo (Fr.tr hf14 hfc16) (sbl rfl) (sbl rfl) (sbl rfl)
  replace hIn16 : CBXh cn := hIn16
  exact W.vret hx hb hr (fun t ht hW => ⟨⟨(cn, In, Fn16), rfl, ⟨(Fr.mo hf16 (sbl rfl) (sbl rfl) (sbl rfl)), hIn16, trivial⟩, by rw [ht]; exact hP, hD⟩, hS.F ht⟩) hS.2.2 dX11_lettersOfLoad_75
set_option maxRecDepth 100000 in
set_option maxHeartbeats 4000000 in
theorem q_XlettersOfLaw (l : Launch) (D : va_G) (cI cB cZ : ClassId) (zz qq vv : Nat) (bt : Nat → Int32) (g : Nat → Nat) (ad : Nat → Nat → Nat) (cn : Nat → Nat) (In : Nat → Int32) (Fn : Nat → Nat → Int32)  (sz : Nat) (hB : CBX cn) : Met l yX11_lettersOfLaw (CWS yX11_lettersOfLaw cX11_lettersOfLaw 1 none) (RM 6 0 0) (PBx [.ref (g 0)] D cI cB cZ zz qq vv bt (wX cI (D.1 99) zz g ad cn In Fn) sz) (va_Qv (fun (u : (Nat → Nat) × (Nat → Int32) × (Nat → Nat → Int32)) => (fun c2 I2 F2 => Fr [] [] [7] cn In Fn c2 I2 F2 ∧ CBX c2 ∧ (True)) u.1 u.2.1 u.2.2) (fun (u : (Nat → Nat) × (Nat → Int32) × (Nat → Nat → Int32)) (t : State) => va_P D vwCl (wX cI (D.1 99) zz g ad u.1 u.2.1 u.2.2) t.heap ∧ va_D (va_A (wX cI (D.1 99) zz g ad cn In Fn) sz) (wX cI (D.1 99) zz g ad u.1 u.2.1 u.2.2)) (va_A (wX cI (D.1 99) zz g ad cn In Fn) sz)) 0 0 (va_A (wX cI (D.1 99) zz g ad cn In Fn) sz) := by
  refine en_x (fun A => (va_Qv (fun (u : (Nat → Nat) × (Nat → Int32) × (Nat → Nat → Int32)) => (fun (c2 : Nat → Nat) (I2 : Nat → Int32) (F2 : Nat → Nat → Int32) => Fr [] [] [7] cn In Fn c2 I2 F2 ∧ CBX c2 ∧ (True)) u.1 u.2.1 u.2.2) (fun (u : (Nat → Nat) × (Nat → Int32) × (Nat → Nat → Int32)) (t : State) => va_P D vwCl (wX cI (D.1 99) zz g ad u.1 u.2.1 u.2.2) t.heap ∧ va_D A (wX cI (D.1 99) zz g ad u.1 u.2.1 u.2.2)) A)) rfl rfl pn_RX11 (Nat.le_of_ble_eq_true rfl) (fun p e s m below meth c A hx hb hml hown S hr hlocks hnm hA hP hK hD hXS hS ls hl => ?_)
  have hl : lv_has ls 1 [(0, .ref (g 0))] := hl
  have hb_cn : Hid (CBX cn) := hB
  replace hB : CBXh cn := hB
  refine lv_aload_n hx hb dX11_lettersOfLaw_0 rfl (lvA0 hl) ?_
  refine lv_aload_n hx hb dX11_lettersOfLaw_1 rfl (lvA0 hl) ?_
  refine gf_RX11_103 S hK hP 0 xo_0 (v := .int (nI (cn 0))) rfl dX11_lettersOfLaw_2 ?_
  have hFc := free_all hD hS hA
  refine va_callv (runV_xa (As := [.int (nI (cn 0))]) (rest := []) S (q_XlettersOfDay l D cI cB cZ zz qq vv bt g ad cn In Fn (nI (cn 0)) s.heap.size hB) kV_RX11_199 hK hXS hS hFc hP hD 0 xo_0 rfl rfl ⟨Nat.le_of_ble_eq_true rfl, Nat.le_of_ble_eq_true rfl⟩ ⟨Nat.le_of_ble_eq_true rfl, Nat.le_of_ble_eq_true rfl⟩ rfl hl.1 rfl (Nat.le_of_ble_eq_true rfl) dX11_lettersOfLaw_5) hS (fun q _ h => hFc q h) hFc (fun u t H1 locs ht hvm wh_2 hB1 hz1 hk1 hS => ?_)
  obtain ⟨cn2, In2, Fn2⟩ := u
  obtain ⟨hP1, hD1⟩ := hB1
  rw [ht] at hP1
  have hP : va_P D vwCl (wX cI (D.1 99) zz g ad cn2 In2 Fn2) H1 := hP1
  have hD : va_D A (wX cI (D.1 99) zz g ad cn2 In2 Fn2) := hD1.weaken (fun _ _ _ h => hFc _ h)
  generalize H1 = H at hP hS ⊢
  have vh_2 : (fun c2 I2 F2 => Fr [] [] [7] cn In Fn c2 I2 F2 ∧ CBX c2 ∧ (True)) cn2 In2 Fn2 := wh_2
  obtain ⟨hfc2, hIn2, h_2⟩ := vh_2
  obtain rfl : cn = cn2 := (funext (fun k => hfc2.1 k List.not_mem_nil)).symm
  obtain rfl : In = In2 := (funext (fun k => hfc2.2.1 k List.not_mem_nil)).symm
  have hf2 : Fr [] [] [7] cn In Fn cn In Fn2 := Fr.mo (Fr.tr (Fr.rf (cn := cn) (In := In) (Fn := Fn)) hfc2) (sbl rfl) (sbl rfl) (sbl rfl)
  replace hIn2 : CBXh cn := hIn2
  refine lv_aload_n hx hb dX11_lettersOfLaw_8 rfl (lvA0 hl) ?_
  refine lv_bipush (v := 107) hx hb dX11_lettersOfLaw_9 kbc_107 ?_
  refine lv_iconst (v := 0) hx hb dX11_lettersOfLaw_11 kic_0 ?_
  have hFc := free_all hD hS hA
  refine va_callv (runV_xa (As := [.int 107, .int 0]) (rest := []) S (q_Xletter l D cI cB cZ zz qq vv bt g ad cn In Fn2 107 0 H.size hIn2) kV_RX11_188 hK hXS hS hFc hP hD 0 xo_0 rfl rfl ⟨Nat.le_of_ble_eq_true rfl, Nat.le_of_ble_eq_true rfl⟩ ⟨Nat.le_of_ble_eq_true rfl, Nat.le_of_ble_eq_true rfl⟩ rfl hl.1 rfl (Nat.le_of_ble_eq_true rfl) dX11_lettersOfLaw_12) hS (fun q _ h => hFc q h) hFc (fun u t H1 locs ht hvm wh_4 hB1 hz1 hk1 hS => ?_)
  obtain ⟨cn4, In4, Fn4⟩ := u
  obtain ⟨hP1, hD1⟩ := hB1
  rw [ht] at hP1
  have hP : va_P D vwCl (wX cI (D.1 99) zz g ad cn4 In4 Fn4) H1 := hP1
  have hD : va_D A (wX cI (D.1 99) zz g ad cn4 In4 Fn4) := hD1.weaken (fun _ _ _ h => hFc _ h)
  generalize H1 = H at hP hS ⊢
  have vh_4 : (fun c2 I2 F2 => Fr [] [] [7] cn In Fn2 c2 I2 F2 ∧ CBX c2 ∧ (True)) cn4 In4 Fn4 := wh_4
  obtain ⟨hfc4, hIn4, h_4⟩ := vh_4
  obtain rfl : cn = cn4 := (funext (fun k => hfc4.1 k List.not_mem_nil)).symm
  obtain rfl : In = In4 := (funext (fun k => hfc4.2.1 k List.not_mem_nil)).symm
  have hf4 : Fr [] [] [7] cn In Fn cn In Fn4 := Fr.mo (Fr.tr hf2 hfc4) (sbl rfl) (sbl rfl) (sbl rfl)
  replace hIn4 : CBXh cn := hIn4
  refine lv_aload_n hx hb dX11_lettersOfLaw_15 rfl (lvA0 hl) ?_
  refine lv_bipush (v := 109) hx hb dX11_lettersOfLaw_16 kbc_109 ?_
  refine lv_iconst (v := 0) hx hb dX11_lettersOfLaw_18 kic_0 ?_
  have hFc := free_all hD hS hA
  refine va_callv (runV_xa (As := [.int 109, .int 0]) (rest := []) S (q_Xletter l D cI cB cZ zz qq vv bt g ad cn In Fn4 109 0 H.size hIn4) kV_RX11_188 hK hXS hS hFc hP hD 0 xo_0 rfl rfl ⟨Nat.le_of_ble_eq_true rfl, Nat.le_of_ble_eq_true rfl⟩ ⟨Nat.le_of_ble_eq_true rfl, Nat.le_of_ble_eq_true rfl⟩ rfl hl.1 rfl (Nat.le_of_ble_eq_true rfl) dX11_lettersOfLaw_19) hS (fun q _ h => hFc q h) hFc (fun u t H1 locs ht hvm wh_6 hB1 hz1 hk1 hS => ?_)
  obtain ⟨cn6, In6, Fn6⟩ := u
  obtain ⟨hP1, hD1⟩ := hB1
  rw [ht] at hP1
  have hP : va_P D vwCl (wX cI (D.1 99) zz g ad cn6 In6 Fn6) H1 := hP1
  have hD : va_D A (wX cI (D.1 99) zz g ad cn6 In6 Fn6) := hD1.weaken (fun _ _ _ h => hFc _ h)
  generalize H1 = H at hP hS ⊢
  have vh_6 : (fun c2 I2 F2 => Fr [] [] [7] cn In Fn4 c2 I2 F2 ∧ CBX c2 ∧ (True)) cn6 In6 Fn6 := wh_6
  obtain ⟨hfc6, hIn6, h_6⟩ := vh_6
  obtain rfl : cn = cn6 := (funext (fun k => hfc6.1 k List.not_mem_nil)).symm
  obtain rfl : In = In6 := (funext (fun k => hfc6.2.1 k List.not_mem_nil)).symm
  have hf6 : Fr [] [] [7] cn In Fn cn In Fn6 := Fr.mo (Fr.tr hf4 hfc6) (sbl rfl) (sbl rfl) (sbl rfl)
  replace hIn6 : CBXh cn := hIn6
  refine lv_aload_n hx hb dX11_lettersOfLaw_22 rfl (lvA0 hl) ?_
  refine lv_bipush (v := 115) hx hb dX11_lettersOfLaw_23 kbc_115 ?_
  refine lv_iconst (v := 0) hx hb dX11_lettersOfLaw_25 kic_0 ?_
  have hFc := free_all hD hS hA
  refine va_callv (runV_xa (As := [.int 115, .int 0]) (rest := []) S (q_Xletter l D cI cB cZ zz qq vv bt g ad cn In Fn6 115 0 H.size hIn6) kV_RX11_188 hK hXS hS hFc hP hD 0 xo_0 rfl rfl ⟨Nat.le_of_ble_eq_true rfl, Nat.le_of_ble_eq_true rfl⟩ ⟨Nat.le_of_ble_eq_true rfl, Nat.le_of_ble_eq_true rfl⟩ rfl hl.1 rfl (Nat.le_of_ble_eq_true rfl) dX11_lettersOfLaw_26) hS (fun q _ h => hFc q h) hFc (fun u t H1 locs ht hvm wh_8 hB1 hz1 hk1 hS => ?_)
  obtain ⟨cn8, In8, Fn8⟩ := u
  obtain ⟨hP1, hD1⟩ := hB1
  rw [ht] at hP1
  have hP : va_P D vwCl (wX cI (D.1 99) zz g ad cn8 In8 Fn8) H1 := hP1
  have hD : va_D A (wX cI (D.1 99) zz g ad cn8 In8 Fn8) := hD1.weaken (fun _ _ _ h => hFc _ h)
  generalize H1 = H at hP hS ⊢
  have vh_8 : (fun c2 I2 F2 => Fr [] [] [7] cn In Fn6 c2 I2 F2 ∧ CBX c2 ∧ (True)) cn8 In8 Fn8 := wh_8
  obtain ⟨hfc8, hIn8, h_8⟩ := vh_8
  obtain rfl : cn = cn8 := (funext (fun k => hfc8.1 k List.not_mem_nil)).symm
  obtain rfl : In = In8 := (funext (fun k => hfc8.2.1 k List.not_mem_nil)).symm
  have hf8 : Fr [] [] [7] cn In Fn cn In Fn8 := Fr.mo (Fr.tr hf6 hfc8) (sbl rfl) (sbl rfl) (sbl rfl)
  replace hIn8 : CBXh cn := hIn8
  exact W.vret hx hb hr (fun t ht hW => ⟨⟨(cn, In, Fn8), rfl, ⟨(Fr.mo hf8 (sbl rfl) (sbl rfl) (sbl rfl)), hIn8, trivial⟩, by rw [ht]; exact hP, hD⟩, hS.F ht⟩) hS.2.2 dX11_lettersOfLaw_29
set_option maxRecDepth 100000 in
set_option maxHeartbeats 4000000 in
theorem q_XpenceBy (l : Launch) (D : va_G) (cI cB cZ : ClassId) (zz qq vv : Nat) (bt : Nat → Int32) (g : Nat → Nat) (ad : Nat → Nat → Nat) (cn : Nat → Nat) (In : Nat → Int32) (Fn : Nat → Nat → Int32) (j0 k0 n0 : Nat) (sz : Nat) (hB : CBX cn) (hj : j0 < cn 6) (hk : k0 < cn 11) (es : Fn 198 j0 = nI n0) (hn : n0 ≤ 12) : Met l yX11_penceBy (CWS yX11_penceBy cX11_penceBy 4 (some .int)) (RM 7 0 0) (PBx [.ref (g 0), .ref (ad 5 j0), .ref (ad 11 k0)] D cI cB cZ zz qq vv bt (wX cI (D.1 99) zz g ad cn In Fn) sz) (va_Qi (fun (r : Int32) (u : (Nat → Nat) × (Nat → Int32) × (Nat → Nat → Int32)) => (fun r c2 I2 F2 => Fr [] [] [7, 196, 197, 305] cn In Fn c2 I2 F2 ∧ CBX c2 ∧ (True)) r u.1 u.2.1 u.2.2) (fun (u : (Nat → Nat) × (Nat → Int32) × (Nat → Nat → Int32)) (t : State) => va_P D vwCl (wX cI (D.1 99) zz g ad u.1 u.2.1 u.2.2) t.heap ∧ va_D (va_A (wX cI (D.1 99) zz g ad cn In Fn) sz) (wX cI (D.1 99) zz g ad u.1 u.2.1 u.2.2)) (va_A (wX cI (D.1 99) zz g ad cn In Fn) sz)) 0 0 (va_A (wX cI (D.1 99) zz g ad cn In Fn) sz) := by
  refine en_x (fun A => (va_Qi (fun (r : Int32) (u : (Nat → Nat) × (Nat → Int32) × (Nat → Nat → Int32)) => (fun (r : Int32) (c2 : Nat → Nat) (I2 : Nat → Int32) (F2 : Nat → Nat → Int32) => Fr [] [] [7, 196, 197, 305] cn In Fn c2 I2 F2 ∧ CBX c2 ∧ (True)) r u.1 u.2.1 u.2.2) (fun (u : (Nat → Nat) × (Nat → Int32) × (Nat → Nat → Int32)) (t : State) => va_P D vwCl (wX cI (D.1 99) zz g ad u.1 u.2.1 u.2.2) t.heap ∧ va_D A (wX cI (D.1 99) zz g ad u.1 u.2.1 u.2.2)) A)) rfl rfl pn_RX11 (Nat.le_of_ble_eq_true rfl) (fun p e s m below meth c A hx hb hml hown S hr hlocks hnm hA hP hK hD hXS hS ls hl => ?_)
  have hl : lv_has ls 4 [(0, .ref (g 0)), (1, .ref (ad 5 j0)), (2, .ref (ad 11 k0))] := hl
  have hb_cn : Hid (CBX cn) := hB
  replace hB : CBXh cn := hB
  refine lv_aload_n hx hb dX11_penceBy_0 rfl (lvA0 hl) ?_
  refine lv_aload_n hx hb dX11_penceBy_1 rfl (lvA2 hl) ?_
  have hFc := free_all hD hS hA
  refine va_callv (runV_xa (As := [.ref (ad 11 k0)]) (rest := []) S (q_XlettersOfLoad l D cI cB cZ zz qq vv bt g ad cn In Fn k0 s.heap.size hB (by (first | omega | (have zz0 := Hid.u hb_cn; omega)))) kV_RX11_214 hK hXS hS hFc hP hD 0 xo_0 rfl rfl ⟨Nat.le_of_ble_eq_true rfl, Nat.le_of_ble_eq_true rfl⟩ ⟨Nat.le_of_ble_eq_true rfl, Nat.le_of_ble_eq_true rfl⟩ rfl hl.1 rfl (Nat.le_of_ble_eq_true rfl) dX11_penceBy_2) hS (fun q _ h => hFc q h) hFc (fun u t H1 locs ht hvm wh_2 hB1 hz1 hk1 hS => ?_)
  obtain ⟨cn2, In2, Fn2⟩ := u
  obtain ⟨hP1, hD1⟩ := hB1
  rw [ht] at hP1
  have hP : va_P D vwCl (wX cI (D.1 99) zz g ad cn2 In2 Fn2) H1 := hP1
  have hD : va_D A (wX cI (D.1 99) zz g ad cn2 In2 Fn2) := hD1.weaken (fun _ _ _ h => hFc _ h)
  generalize H1 = H at hP hS ⊢
  have vh_2 : (fun c2 I2 F2 => Fr [] [] [7] cn In Fn c2 I2 F2 ∧ CBX c2 ∧ (True)) cn2 In2 Fn2 := wh_2
  obtain ⟨hfc2, hIn2, h_2⟩ := vh_2
  obtain rfl : cn = cn2 := (funext (fun k => hfc2.1 k List.not_mem_nil)).symm
  obtain rfl : In = In2 := (funext (fun k => hfc2.2.1 k List.not_mem_nil)).symm
  have hf2 : Fr [] [] [7, 196, 197, 305] cn In Fn cn In Fn2 := Fr.mo (Fr.tr (Fr.rf (cn := cn) (In := In) (Fn := Fn)) hfc2) (sbl rfl) (sbl rfl) (sbl rfl)
  replace hIn2 : CBXh cn := hIn2
  refine lv_aload_n hx hb dX11_penceBy_5 rfl (lvA1 hl) ?_
  refine lv_iconst (v := 1) hx hb dX11_penceBy_6 kic_1 ?_
  refine lv_aload_n hx hb dX11_penceBy_7 rfl (lvA0 hl) ?_
  refine gf_RX11_40 S hK hP 0 xo_0 (v := .ref (g 7)) rfl dX11_penceBy_8 ?_
  have hFc := free_all hD hS hA
  refine va_calli (runV_xa (As := [.int 1, .ref (g 7)]) (rest := []) S (q_XfirstThat l D cI cB cZ zz qq vv bt g ad cn In Fn2 j0 n0 1 H.size hIn2 hj ((congrFun (hf2.2.2 198 (nml rfl)) j0).trans es) hn) kV_RX11_218 hK hXS hS hFc hP hD _ (xf_7 hj) rfl rfl ⟨Nat.le_of_ble_eq_true rfl, Nat.le_of_ble_eq_true rfl⟩ ⟨Nat.le_of_ble_eq_true rfl, Nat.le_of_ble_eq_true rfl⟩ rfl hl.1 rfl (Nat.le_of_ble_eq_true rfl) dX11_penceBy_11) hS (fun q _ h => hFc q h) hFc (fun r_3 u t H1 locs ht hvm wh_4 hB1 hz1 hk1 hS => ?_)
  obtain ⟨cn4, In4, Fn4⟩ := u
  obtain ⟨hP1, hD1⟩ := hB1
  rw [ht] at hP1
  have hP : va_P D vwCl (wX cI (D.1 99) zz g ad cn4 In4 Fn4) H1 := hP1
  have hD : va_D A (wX cI (D.1 99) zz g ad cn4 In4 Fn4) := hD1.weaken (fun _ _ _ h => hFc _ h)
  generalize H1 = H at hP hS ⊢
  have vh_4 : (fun r c2 I2 F2 => Fr [] [] [196, 197, 305] cn In Fn2 c2 I2 F2 ∧ CBX c2 ∧ (True)) r_3 cn4 In4 Fn4 := wh_4
  obtain ⟨hfc4, hIn4, h_4⟩ := vh_4
  obtain rfl : cn = cn4 := (funext (fun k => hfc4.1 k List.not_mem_nil)).symm
  obtain rfl : In = In4 := (funext (fun k => hfc4.2.1 k List.not_mem_nil)).symm
  have hf4 : Fr [] [] [7, 196, 197, 305] cn In Fn cn In Fn4 := Fr.mo (Fr.tr hf2 hfc4) (sbl rfl) (sbl rfl) (sbl rfl)
  replace hIn4 : CBXh cn := hIn4
  refine lv_istore_n (lv' := [(3, .int r_3), (0, .ref (g 0)), (1, .ref (ad 5 j0)), (2, .ref (ad 11 k0))]) hx hb dX11_penceBy_14 rfl hl (ltb rfl) rfl (fun ls hl => ?_)
  refine lv_iload_n hx hb dX11_penceBy_15 rfl (lvA0 hl) ?_
  refine lv_iconst (v := (-1)) hx hb dX11_penceBy_16 kic_m1 ?_
  refine lv_icmp_ne (tgt := 24) hx hb dX11_penceBy_17 rfl (fun c_5 => ?_) (fun c_5 => ?_)
  ·
    have tc_5 : (r_3.toInt : Int) ≠ (-1) := fun q => c_5 (Int32.toInt_inj.mp q)
    refine lv_iconst (v := 0) hx hb dX11_penceBy_24 kic_0 ?_
    refine lv_ldc (v := 100000) hx hb hown (S.2.2.2.2 _ (wk4_3 2 rfl rfl)) dX11_penceBy_25 ?_
    refine lv_aload_n hx hb dX11_penceBy_27 rfl (lvA2 hl) ?_
    refine lv_iload_n hx hb dX11_penceBy_28 rfl (lvA0 hl) ?_
    refine lv_aload_n hx hb dX11_penceBy_29 rfl (lvA1 hl) ?_
    refine gf_RX11_40 S hK hP 0 xo_0 (v := .ref (g 7)) rfl dX11_penceBy_30 ?_
    have hFc := free_all hD hS hA
    refine va_calli (runV_xa (As := [.int r_3, .ref (g 7)]) (rest := [.int 100000, .int 0]) S (q_Xtsum l D cI cB cZ zz qq vv bt g ad cn In Fn4 j0 r_3 H.size hIn4 (by (first | omega | (have zz0 := Hid.u hb_cn; omega)))) kV_RX11_223 hK hXS hS hFc hP hD _ (xf_7 hj) rfl rfl ⟨Nat.le_of_ble_eq_true rfl, Nat.le_of_ble_eq_true rfl⟩ ⟨Nat.le_of_ble_eq_true rfl, Nat.le_of_ble_eq_true rfl⟩ rfl hl.1 rfl (Nat.le_of_ble_eq_true rfl) dX11_penceBy_33) hS (fun q _ h => hFc q h) hFc (fun r_6 u t H1 locs ht hvm wh_7 hB1 hz1 hk1 hS => ?_)
    obtain ⟨cn7, In7, Fn7⟩ := u
    obtain ⟨hP1, hD1⟩ := hB1
    rw [ht] at hP1
    have hP : va_P D vwCl (wX cI (D.1 99) zz g ad cn7 In7 Fn7) H1 := hP1
    have hD : va_D A (wX cI (D.1 99) zz g ad cn7 In7 Fn7) := hD1.weaken (fun _ _ _ h => hFc _ h)
    generalize H1 = H at hP hS ⊢
    have vh_7 : (fun r c2 I2 F2 => Fr [] [] [196, 197, 305] cn In Fn4 c2 I2 F2 ∧ CBX c2 ∧ (True)) r_6 cn7 In7 Fn7 := wh_7
    obtain ⟨hfc7, hIn7, h_7⟩ := vh_7
    obtain rfl : cn = cn7 := (funext (fun k => hfc7.1 k List.not_mem_nil)).symm
    obtain rfl : In = In7 := (funext (fun k => hfc7.2.1 k List.not_mem_nil)).symm
    have hf7 : Fr [] [] [7, 196, 197, 305] cn In Fn cn In Fn7 := Fr.mo (Fr.tr hf4 hfc7) (sbl rfl) (sbl rfl) (sbl rfl)
    replace hIn7 : CBXh cn := hIn7
    refine va_mmin hx hb (by rw [hml]; exact hl.1.symm) hown (S.2.2.2.2 _ (wk4_3 7 rfl rfl)) (S.2.2.2.2 _ (wk2_13 10 rfl rfl)) (S.2.2.2.2 _ (wk1_0 3 rfl rfl)) (S.2.2.2.2 _ (wk2_13 11 rfl rfl)) (Nat.le_of_ble_eq_true rfl) (Nat.le_of_ble_eq_true rfl) (Nat.le_of_ble_eq_true rfl) (Nat.le_of_ble_eq_true rfl) dX11_penceBy_36 ?_
    refine va_mmax hx hb (by rw [hml]; exact hl.1.symm) hown (S.2.2.2.2 _ (wk4_3 8 rfl rfl)) (S.2.2.2.2 _ (wk1_3 6 rfl rfl)) (S.2.2.2.2 _ (wk1_0 3 rfl rfl)) (S.2.2.2.2 _ (wk1_3 7 rfl rfl)) (Nat.le_of_ble_eq_true rfl) (Nat.le_of_ble_eq_true rfl) (Nat.le_of_ble_eq_true rfl) (Nat.le_of_ble_eq_true rfl) dX11_penceBy_39 ?_
    exact W.iret (v := (if 0 < (if r_6 < 100000 then r_6 else 100000) then (if r_6 < 100000 then r_6 else 100000) else 0)) hx hb hr (fun t ht hW => ⟨⟨(if 0 < (if r_6 < 100000 then r_6 else 100000) then (if r_6 < 100000 then r_6 else 100000) else 0), (cn, In, Fn7), rfl, ⟨(Fr.mo hf7 (sbl rfl) (sbl rfl) (sbl rfl)), hIn7, trivial⟩, by rw [ht]; exact hP, hD⟩, hS.F ht⟩) hS.2.2 dX11_penceBy_42
  ·
    have tc_5 : (r_3.toInt : Int) = (-1) := congrArg Int32.toInt c_5
    refine lv_iconst (v := 0) hx hb dX11_penceBy_20 kic_0 ?_
    refine lv_goto (tgt := 42) hx hb dX11_penceBy_21 rfl ?_
    exact W.iret (v := 0) hx hb hr (fun t ht hW => ⟨⟨0, (cn, In, Fn4), rfl, ⟨(Fr.mo hf4 (sbl rfl) (sbl rfl) (sbl rfl)), hIn4, trivial⟩, by rw [ht]; exact hP, hD⟩, hS.F ht⟩) hS.2.2 dX11_penceBy_42
set_option maxRecDepth 100000 in
set_option maxHeartbeats 4000000 in
theorem q_XpenceTogether (l : Launch) (D : va_G) (cI cB cZ : ClassId) (zz qq vv : Nat) (bt : Nat → Int32) (g : Nat → Nat) (ad : Nat → Nat → Nat) (cn : Nat → Nat) (In : Nat → Int32) (Fn : Nat → Nat → Int32) (j0 n0 : Nat) (v0 v1 : Int32) (sz : Nat) (hB : CBX cn) (hj : j0 < cn 6) (es : Fn 198 j0 = nI n0) (hn : n0 ≤ 12) : Met l yX11_penceTogether (CWS yX11_penceTogether cX11_penceTogether 7 (some .int)) (RM 8 0 0) (PBx [.ref (g 0), .int v0, .int v1, .ref (ad 5 j0)] D cI cB cZ zz qq vv bt (wX cI (D.1 99) zz g ad cn In Fn) sz) (va_Qi (fun (r : Int32) (u : (Nat → Nat) × (Nat → Int32) × (Nat → Nat → Int32)) => (fun r c2 I2 F2 => Fr [] [] [7, 196, 197, 305] cn In Fn c2 I2 F2 ∧ CBX c2 ∧ (True)) r u.1 u.2.1 u.2.2) (fun (u : (Nat → Nat) × (Nat → Int32) × (Nat → Nat → Int32)) (t : State) => va_P D vwCl (wX cI (D.1 99) zz g ad u.1 u.2.1 u.2.2) t.heap ∧ va_D (va_A (wX cI (D.1 99) zz g ad cn In Fn) sz) (wX cI (D.1 99) zz g ad u.1 u.2.1 u.2.2)) (va_A (wX cI (D.1 99) zz g ad cn In Fn) sz)) 0 0 (va_A (wX cI (D.1 99) zz g ad cn In Fn) sz) := by
  refine en_x (fun A => (va_Qi (fun (r : Int32) (u : (Nat → Nat) × (Nat → Int32) × (Nat → Nat → Int32)) => (fun (r : Int32) (c2 : Nat → Nat) (I2 : Nat → Int32) (F2 : Nat → Nat → Int32) => Fr [] [] [7, 196, 197, 305] cn In Fn c2 I2 F2 ∧ CBX c2 ∧ (True)) r u.1 u.2.1 u.2.2) (fun (u : (Nat → Nat) × (Nat → Int32) × (Nat → Nat → Int32)) (t : State) => va_P D vwCl (wX cI (D.1 99) zz g ad u.1 u.2.1 u.2.2) t.heap ∧ va_D A (wX cI (D.1 99) zz g ad u.1 u.2.1 u.2.2)) A)) rfl rfl pn_RX11 (Nat.le_of_ble_eq_true rfl) (fun p e s m below meth c A hx hb hml hown S hr hlocks hnm hA hP hK hD hXS hS ls hl => ?_)
  have hl : lv_has ls 7 [(0, .ref (g 0)), (1, .int v0), (2, .int v1), (3, .ref (ad 5 j0))] := hl
  have hb_cn : Hid (CBX cn) := hB
  replace hB : CBXh cn := hB
  refine lv_iconst (v := 0) hx hb dX11_penceTogether_0 kic_0 ?_
  refine lv_istore (lv' := [(4, .int 0), (0, .ref (g 0)), (1, .int v0), (2, .int v1), (3, .ref (ad 5 j0))]) hx hb dX11_penceTogether_1 hl (ltb rfl) rfl (fun ls hl => ?_)
  refine lv_iconst (v := 0) hx hb dX11_penceTogether_3 kic_0 ?_
  refine lv_istore (lv' := [(5, .int 0), (4, .int 0), (0, .ref (g 0)), (1, .int v0), (2, .int v1), (3, .ref (ad 5 j0))]) hx hb dX11_penceTogether_4 hl (ltb rfl) rfl (fun ls hl => ?_)
  have lp_6 : ∀ (n : Nat) (i6 : Nat) (x6_4 : Int32) (F6 : Nat → Nat → Int32) (H : Heap) (locs : List Loc) , cn 11 - i6 < n → (i6 ≤ cn 11 ∧ Fr [] [] [7, 196, 197, 305] cn In Fn cn In F6 ∧ CBX cn) → va_P D vwCl (wX cI (D.1 99) zz g ad cn In F6) H → va_D A (wX cI (D.1 99) zz g ad cn In F6) → va_S A s.heap H locs → ∀ ls : Array Slot, lv_has ls 7 [(5, .int (nI i6)), (4, .int x6_4), (0, .ref (g 0)), (1, .int v0), (2, .int v1), (3, .ref (ad 5 j0))] → W p l e (RM 8 0 0) s m ([.ref (g 0), .int v0, .int v1, .ref (ad 5 j0)]).toArray below meth c H locs 0 0 (MQ below (va_Qi (fun (r : Int32) (u : (Nat → Nat) × (Nat → Int32) × (Nat → Nat → Int32)) => (fun r c2 I2 F2 => Fr [] [] [7, 196, 197, 305] cn In Fn c2 I2 F2 ∧ CBX c2 ∧ (True)) r u.1 u.2.1 u.2.2) (fun (u : (Nat → Nat) × (Nat → Int32) × (Nat → Nat → Int32)) (t : State) => va_P D vwCl (wX cI (D.1 99) zz g ad u.1 u.2.1 u.2.2) t.heap ∧ va_D A (wX cI (D.1 99) zz g ad u.1 u.2.1 u.2.2)) A) ([.ref (g 0), .int v0, .int v1, .ref (ad 5 j0)]).toArray s 0 0 A) (F0 m 6 ls []) := by
    intro n6
    induction n6 with
    | zero => intros; (first | omega | (have zz0 := Hid.u hb_cn; omega))
    | succ n6 ih6 =>
      intro i6 x6_4 F6 H locs hmu6 hinv6 hP hD hS ls hl
      obtain ⟨hr6, hfr6, hI6⟩ := hinv6
      have ti6 : (nI i6).toInt = (i6 : Int) := nI_toInt (by (first | omega | (have zz0 := Hid.u hb_cn; omega)))
      replace hI6 : CBXh cn := hI6
      refine lv_iload hx hb dX11_penceTogether_6 (lvA0 hl) ?_
      refine lv_aload_n hx hb dX11_penceTogether_8 rfl (lvA2 hl) ?_
      refine gf_RX11_65 S hK hP 0 xo_0 (v := .ref (g 11)) rfl dX11_penceTogether_9 ?_
      refine vp_callSi (runV_r (As := []) (rest := [.int (nI i6)]) S (q_l_size l D cI cB cZ (g 11) (if (cn 11) = 0 then zz else ad 2 1) (In 11) (nI (cn 11))) kV_RX11_84 hK hP [25] (one_is xo_25) 25 xo_25 rfl rfl ⟨Nat.le_of_ble_eq_true rfl, Nat.le_of_ble_eq_true rfl⟩ ⟨Nat.le_of_ble_eq_true rfl, Nat.le_of_ble_eq_true rfl⟩ rfl hl.1 rfl (Nat.le_of_ble_eq_true rfl) dX11_penceTogether_12) (fun r_1 h_2 => ?_)
      subst h_2
      have : (nI (cn 11)).toInt = (((cn 11) : Nat) : Int) := nI_toInt (by (first | omega | (have zz0 := Hid.u hb_cn; omega)))
      refine lv_icmp_ge (tgt := 68) hx hb dX11_penceTogether_15 rfl (fun c_3 => ?_) (fun c_3 => ?_)
      ·
        have tc_3 : ((nI (cn 11)).toInt : Int) ≤ (nI i6).toInt := Int32.le_iff_toInt_le.mp c_3
        refine lv_iload hx hb dX11_penceTogether_68 (lvA1 hl) ?_
        exact W.iret (v := x6_4) hx hb hr (fun t ht hW => ⟨⟨x6_4, (cn, In, F6), rfl, ⟨(Fr.mo hfr6 (sbl rfl) (sbl rfl) (sbl rfl)), hI6, trivial⟩, by rw [ht]; exact hP, hD⟩, hS.F ht⟩) hS.2.2 dX11_penceTogether_70
      ·
        have tc_3 : ((nI i6).toInt : Int) < (nI (cn 11)).toInt := Int32.lt_iff_toInt_lt.mp (Int32.not_le.mp c_3)
        refine lv_aload_n hx hb dX11_penceTogether_18 rfl (lvA2 hl) ?_
        refine gf_RX11_65 S hK hP 0 xo_0 (v := .ref (g 11)) rfl dX11_penceTogether_19 ?_
        refine lv_iload hx hb dX11_penceTogether_22 (lvA0 hl) ?_
        refine va_csq (runV_rx (As := [.int (nI i6)]) (rest := []) S (q_l_get l D cI cB cZ zz qq vv bt (g 11) (ad 2 1) (cn 21) (cn 11) i6 (ad 11 i6) (In 11) (fun i => if i < (cn 11) then some (ad 11 i) else none) (by (first | omega | (have zz0 := Hid.u hb_cn; omega))) (if_pos (by (first | omega | (have zz0 := Hid.u hb_cn; omega)))) (by (first | omega | (have zz0 := Hid.u hb_cn; omega))) (by (first | omega | (have zz0 := Hid.u hb_cn; omega)))) kV_RX11_87 hK hXS hS hP _ (two_is (xl_1 (by (first | omega | (have zz0 := Hid.u hb_cn; omega)))) (xf_14 (k := 0) (by (first | omega | (have zz0 := Hid.u hb_cn; omega))))) (va_recv hK.1 hP (ci := 0) rfl xo_25) ⟨Nat.le_of_ble_eq_true rfl, Nat.le_of_ble_eq_true rfl⟩ ⟨Nat.le_of_ble_eq_true rfl, Nat.le_of_ble_eq_true rfl⟩ rfl hl.1 rfl (Nat.le_of_ble_eq_true rfl) dX11_penceTogether_24) (fun r_4 h_5 => ?_)
        subst h_5
        have kf_1 : i6 < cn 11 := by (first | omega | (have zz0 := Hid.u hb_cn; omega))
        refine va_castS hx hb hown (S.2.2.2.2 _ (wk2_17 0 rfl rfl)) (xclass hK.1 (ci := 3) rfl) (va_recv hK.1 hP (ci := 3) rfl (xf_1 kf_1)) dX11_penceTogether_27 ?_
        refine lv_astore (lv' := [(6, .ref (ad 11 i6)), (5, .int (nI i6)), (4, .int x6_4), (0, .ref (g 0)), (1, .int v0), (2, .int v1), (3, .ref (ad 5 j0))]) hx hb dX11_penceTogether_30 hl (ltb rfl) rfl (fun ls hl => ?_)
        refine lv_aload hx hb dX11_penceTogether_32 (lvA0 hl) ?_
        refine gf_RX11_211 S hK hP _ (xf_1 kf_1) (v := .int ((F6 120) i6)) rfl dX11_penceTogether_34 ?_
        refine lv_iload_n hx hb dX11_penceTogether_37 rfl (lvA4 hl) ?_
        refine lv_icmp_ne (tgt := 62) hx hb dX11_penceTogether_38 rfl (fun c_6 => ?_) (fun c_6 => ?_)
        ·
          have tc_6 : (((F6 120) i6).toInt : Int) ≠ v0.toInt := fun q => c_6 (Int32.toInt_inj.mp q)
          refine lv_iinc (v := (nI (i6 + 1))) (lv' := [(5, .int (nI (i6 + 1))), (6, .ref (ad 11 i6)), (4, .int x6_4), (0, .ref (g 0)), (1, .int v0), (2, .int v1), (3, .ref (ad 5 j0))]) hx hb dX11_penceTogether_62 hl (k := 1) rfl (nI_1 _) (ltb rfl) rfl (fun ls hl => ?_)
          refine lv_goto (tgt := 6) hx hb dX11_penceTogether_65 rfl ?_
          exact ih6 (i6 + 1) x6_4 F6 _ _ (by (first | omega | (have zz0 := Hid.u hb_cn; omega))) ⟨(by (first | omega | (have zz0 := Hid.u hb_cn; omega))), (Fr.mo hfr6 (sbl rfl) (sbl rfl) (sbl rfl)), hI6⟩ hP hD hS ls (lv_sub hl [0, 2, 3, 4, 5, 6] rfl)
        ·
          have tc_6 : (((F6 120) i6).toInt : Int) = v0.toInt := congrArg Int32.toInt c_6
          refine lv_aload hx hb dX11_penceTogether_41 (lvA0 hl) ?_
          refine gf_RX11_235 S hK hP _ (xf_1 kf_1) (v := .int ((F6 125) i6)) rfl dX11_penceTogether_43 ?_
          refine lv_iload_n hx hb dX11_penceTogether_46 rfl (lvA5 hl) ?_
          refine lv_icmp_gt (tgt := 62) hx hb dX11_penceTogether_47 rfl (fun c_7 => ?_) (fun c_7 => ?_)
          ·
            have tc_7 : (v1.toInt : Int) < ((F6 125) i6).toInt := Int32.lt_iff_toInt_lt.mp c_7
            refine lv_iinc (v := (nI (i6 + 1))) (lv' := [(5, .int (nI (i6 + 1))), (6, .ref (ad 11 i6)), (4, .int x6_4), (0, .ref (g 0)), (1, .int v0), (2, .int v1), (3, .ref (ad 5 j0))]) hx hb dX11_penceTogether_62 hl (k := 1) rfl (nI_1 _) (ltb rfl) rfl (fun ls hl => ?_)
            refine lv_goto (tgt := 6) hx hb dX11_penceTogether_65 rfl ?_
            exact ih6 (i6 + 1) x6_4 F6 _ _ (by (first | omega | (have zz0 := Hid.u hb_cn; omega))) ⟨(by (first | omega | (have zz0 := Hid.u hb_cn; omega))), (Fr.mo hfr6 (sbl rfl) (sbl rfl) (sbl rfl)), hI6⟩ hP hD hS ls (lv_sub hl [0, 2, 3, 4, 5, 6] rfl)
          ·
            have tc_7 : (((F6 125) i6).toInt : Int) ≤ v1.toInt := Int32.le_iff_toInt_le.mp (Int32.not_lt.mp c_7)
            refine lv_iload hx hb dX11_penceTogether_50 (lvA2 hl) ?_
            refine lv_aload_n hx hb dX11_penceTogether_52 rfl (lvA3 hl) ?_
            refine lv_aload_n hx hb dX11_penceTogether_53 rfl (lvA6 hl) ?_
            refine lv_aload hx hb dX11_penceTogether_54 (lvA0 hl) ?_
            have hFc := free_all hD hS hA
            refine va_calli (runV_xa (As := [.ref (ad 5 j0), .ref (ad 11 i6)]) (rest := [.int x6_4]) S (q_XpenceBy l D cI cB cZ zz qq vv bt g ad cn In F6 j0 i6 n0 H.size hI6 hj (by (first | omega | (have zz0 := Hid.u hb_cn; omega))) ((congrFun (hfr6.2.2 198 (nml rfl)) j0).trans es) hn) kV_RX11_238 hK hXS hS hFc hP hD 0 xo_0 rfl rfl ⟨Nat.le_of_ble_eq_true rfl, Nat.le_of_ble_eq_true rfl⟩ ⟨Nat.le_of_ble_eq_true rfl, Nat.le_of_ble_eq_true rfl⟩ rfl hl.1 rfl (Nat.le_of_ble_eq_true rfl) dX11_penceTogether_56) hS (fun q _ h => hFc q h) hFc (fun r_8 u t H1 locs ht hvm wh_9 hB1 hz1 hk1 hS => ?_)
            obtain ⟨cn9, In9, Fn9⟩ := u
            obtain ⟨hP1, hD1⟩ := hB1
            rw [ht] at hP1
            have hP : va_P D vwCl (wX cI (D.1 99) zz g ad cn9 In9 Fn9) H1 := hP1
            have hD : va_D A (wX cI (D.1 99) zz g ad cn9 In9 Fn9) := hD1.weaken (fun _ _ _ h => hFc _ h)
            generalize H1 = H at hP hS ⊢
            have vh_9 : (fun r c2 I2 F2 => Fr [] [] [7, 196, 197, 305] cn In F6 c2 I2 F2 ∧ CBX c2 ∧ (True)) r_8 cn9 In9 Fn9 := wh_9
            obtain ⟨hfc9, hIn9, h_9⟩ := vh_9
            obtain rfl : cn = cn9 := (funext (fun k => hfc9.1 k List.not_mem_nil)).symm
            obtain rfl : In = In9 := (funext (fun k => hfc9.2.1 k List.not_mem_nil)).symm
            have hf9 : Fr [] [] [7, 196, 197, 305] cn In Fn cn In Fn9 := Fr.mo (Fr.tr hfr6 hfc9) (sbl rfl) (sbl rfl) (sbl rfl)
            replace hIn9 : CBXh cn := hIn9
            refine lv_iadd hx hb dX11_penceTogether_59 ?_
            refine lv_istore (lv' := [(4, .int (x6_4 + r_8)), (6, .ref (ad 11 i6)), (5, .int (nI i6)), (0, .ref (g 0)), (1, .int v0), (2, .int v1), (3, .ref (ad 5 j0))]) hx hb dX11_penceTogether_60 hl (ltb rfl) rfl (fun ls hl => ?_)
            refine lv_iinc (v := (nI (i6 + 1))) (lv' := [(5, .int (nI (i6 + 1))), (4, .int (x6_4 + r_8)), (6, .ref (ad 11 i6)), (0, .ref (g 0)), (1, .int v0), (2, .int v1), (3, .ref (ad 5 j0))]) hx hb dX11_penceTogether_62 hl (k := 2) rfl (nI_1 _) (ltb rfl) rfl (fun ls hl => ?_)
            refine lv_goto (tgt := 6) hx hb dX11_penceTogether_65 rfl ?_
            exact ih6 (i6 + 1) (x6_4 + r_8) Fn9 _ _ (by (first | omega | (have zz0 := Hid.u hb_cn; omega))) ⟨(by (first | omega | (have zz0 := Hid.u hb_cn; omega))), (Fr.mo hf9 (sbl rfl) (sbl rfl) (sbl rfl)), hIn9⟩ hP hD hS ls (lv_sub hl [0, 1, 3, 4, 5, 6] rfl)
  exact lp_6 _ 0 0 Fn _ _ (Nat.lt_succ_self _) ⟨(by (first | omega | (have zz0 := Hid.u hb_cn; omega))), (Fr.mo Fr.rf (sbl rfl) (sbl rfl) (sbl rfl)), hB⟩ hP hD hS ls (lv_sub hl [0, 1, 2, 3, 4, 5] rfl)
set_option maxRecDepth 100000 in
set_option maxHeartbeats 4000000 in
theorem q_Xpence (l : Launch) (D : va_G) (cI cB cZ : ClassId) (zz qq vv : Nat) (bt : Nat → Int32) (g : Nat → Nat) (ad : Nat → Nat → Nat) (cn : Nat → Nat) (In : Nat → Int32) (Fn : Nat → Nat → Int32) (v0 : Int32) (sz : Nat) (hB : CBX cn) (hT : (∀ k : Nat, k < cn 10 → ad 3 k < cn 6) ∧ ad 4 0 < cn 6 ∧ ad 4 1 < cn 6) (hC : ∀ k : Nat, k < cn 6 → ∃ n : Nat, n ≤ 12 ∧ Fn 198 k = nI n) : Met l yX11_pence (CWS yX11_pence cX11_pence 4 (some .int)) (RM 8 0 0) (PBx [.ref (g 0), .int v0] D cI cB cZ zz qq vv bt (wX cI (D.1 99) zz g ad cn In Fn) sz) (va_Qi (fun (r : Int32) (u : (Nat → Nat) × (Nat → Int32) × (Nat → Nat → Int32)) => (fun r c2 I2 F2 => Fr [] [] [7, 196, 197, 305] cn In Fn c2 I2 F2 ∧ CBX c2 ∧ (True)) r u.1 u.2.1 u.2.2) (fun (u : (Nat → Nat) × (Nat → Int32) × (Nat → Nat → Int32)) (t : State) => va_P D vwCl (wX cI (D.1 99) zz g ad u.1 u.2.1 u.2.2) t.heap ∧ va_D (va_A (wX cI (D.1 99) zz g ad cn In Fn) sz) (wX cI (D.1 99) zz g ad u.1 u.2.1 u.2.2)) (va_A (wX cI (D.1 99) zz g ad cn In Fn) sz)) 0 0 (va_A (wX cI (D.1 99) zz g ad cn In Fn) sz) := by
  refine en_x (fun A => (va_Qi (fun (r : Int32) (u : (Nat → Nat) × (Nat → Int32) × (Nat → Nat → Int32)) => (fun (r : Int32) (c2 : Nat → Nat) (I2 : Nat → Int32) (F2 : Nat → Nat → Int32) => Fr [] [] [7, 196, 197, 305] cn In Fn c2 I2 F2 ∧ CBX c2 ∧ (True)) r u.1 u.2.1 u.2.2) (fun (u : (Nat → Nat) × (Nat → Int32) × (Nat → Nat → Int32)) (t : State) => va_P D vwCl (wX cI (D.1 99) zz g ad u.1 u.2.1 u.2.2) t.heap ∧ va_D A (wX cI (D.1 99) zz g ad u.1 u.2.1 u.2.2)) A)) rfl rfl pn_RX11 (Nat.le_of_ble_eq_true rfl) (fun p e s m below meth c A hx hb hml hown S hr hlocks hnm hA hP hK hD hXS hS ls hl => ?_)
  have hl : lv_has ls 4 [(0, .ref (g 0)), (1, .int v0)] := hl
  have hb_cn : Hid (CBX cn) := hB
  replace hB : CBXh cn := hB
  refine lv_aload_n hx hb dX11_pence_0 rfl (lvA0 hl) ?_
  refine lv_iload_n hx hb dX11_pence_1 rfl (lvA1 hl) ?_
  refine va_csq (runV_rxa (As := [.int v0]) (rest := []) S (q_XloadAt l D cI cB cZ zz qq vv bt g ad cn In Fn v0 hB) kV_RX11_148 hK hXS hS hP 0 xo_0 rfl rfl ⟨Nat.le_of_ble_eq_true rfl, Nat.le_of_ble_eq_true rfl⟩ ⟨Nat.le_of_ble_eq_true rfl, Nat.le_of_ble_eq_true rfl⟩ rfl hl.1 rfl (Nat.le_of_ble_eq_true rfl) dX11_pence_2) (fun r_1 h_2 => ?_)
  rcases h_2 with ⟨mr_1, er_1, hr_1, rfl⟩ | ⟨hr_1, rfl⟩
  ·
    refine lv_astore_n (lv' := [(2, .ref (ad 11 mr_1)), (0, .ref (g 0)), (1, .int v0)]) hx hb dX11_pence_5 rfl hl (ltb rfl) rfl (fun ls hl => ?_)
    refine lv_aload_n hx hb dX11_pence_6 rfl (lvA0 hl) ?_
    refine lv_ifnonnull (tgt := 14) hx hb dX11_pence_7 rfl ?_
    refine lv_aload_n hx hb dX11_pence_14 rfl (lvA1 hl) ?_
    refine lv_aload_n hx hb dX11_pence_15 rfl (lvA0 hl) ?_
    have kf_1 : mr_1 < cn 11 := by (first | omega | (have zz0 := Hid.u hb_cn; omega))
    refine gf_RX11_211 S hK hP _ (xf_1 kf_1) (v := .int ((Fn 120) mr_1)) rfl dX11_pence_16 ?_
    refine va_csq (runV_rxa (As := [.int ((Fn 120) mr_1)]) (rest := []) S (q_XkitchenAt l D cI cB cZ zz qq vv bt g ad cn In Fn ((Fn 120) mr_1) hB) kV_RX11_114 hK hXS hS hP 0 xo_0 rfl rfl ⟨Nat.le_of_ble_eq_true rfl, Nat.le_of_ble_eq_true rfl⟩ ⟨Nat.le_of_ble_eq_true rfl, Nat.le_of_ble_eq_true rfl⟩ rfl hl.1 rfl (Nat.le_of_ble_eq_true rfl) dX11_pence_19) (fun r_3 h_4 => ?_)
    rcases h_4 with ⟨mr_3, er_3, hr_3, rfl⟩ | ⟨hr_3, rfl⟩
    ·
      refine lv_astore_n (lv' := [(3, .ref (ad 10 mr_3)), (2, .ref (ad 11 mr_1)), (0, .ref (g 0)), (1, .int v0)]) hx hb dX11_pence_22 rfl hl (ltb rfl) rfl (fun ls hl => ?_)
      refine lv_aload_n hx hb dX11_pence_23 rfl (lvA1 hl) ?_
      refine lv_ifnull hx hb dX11_pence_24 ?_
      refine lv_aload_n hx hb dX11_pence_27 rfl (lvA0 hl) ?_
      refine lv_ifnonnull (tgt := 35) hx hb dX11_pence_28 rfl ?_
      obtain ⟨n9, hn9, en9⟩ := hC (ad 3 mr_3) (hT.1 mr_3 (by (first | omega | (have zz0 := Hid.u hb_cn; omega))))
      refine lv_aload_n hx hb dX11_pence_35 rfl (lvA2 hl) ?_
      refine lv_aload_n hx hb dX11_pence_36 rfl (lvA0 hl) ?_
      have kf_2 : mr_3 < cn 10 := by (first | omega | (have zz0 := Hid.u hb_cn; omega))
      refine gf_RX11_168 S hK hP _ (xf_0 kf_2) (v := .ref (ad 5 (ad 3 mr_3))) rfl dX11_pence_37 ?_
      refine lv_aload_n hx hb dX11_pence_40 rfl (lvA1 hl) ?_
      have hFc := free_all hD hS hA
      refine va_calli (runV_xa (As := [.ref (ad 5 (ad 3 mr_3)), .ref (ad 11 mr_1)]) (rest := []) S (q_XpenceBy l D cI cB cZ zz qq vv bt g ad cn In Fn (ad 3 mr_3) mr_1 n9 s.heap.size hB (hT.1 mr_3 (by (first | omega | (have zz0 := Hid.u hb_cn; omega)))) (by (first | omega | (have zz0 := Hid.u hb_cn; omega))) en9 hn9) kV_RX11_238 hK hXS hS hFc hP hD 0 xo_0 rfl rfl ⟨Nat.le_of_ble_eq_true rfl, Nat.le_of_ble_eq_true rfl⟩ ⟨Nat.le_of_ble_eq_true rfl, Nat.le_of_ble_eq_true rfl⟩ rfl hl.1 rfl (Nat.le_of_ble_eq_true rfl) dX11_pence_41) hS (fun q _ h => hFc q h) hFc (fun r_5 u t H1 locs ht hvm wh_6 hB1 hz1 hk1 hS => ?_)
      obtain ⟨cn6, In6, Fn6⟩ := u
      obtain ⟨hP1, hD1⟩ := hB1
      rw [ht] at hP1
      have hP : va_P D vwCl (wX cI (D.1 99) zz g ad cn6 In6 Fn6) H1 := hP1
      have hD : va_D A (wX cI (D.1 99) zz g ad cn6 In6 Fn6) := hD1.weaken (fun _ _ _ h => hFc _ h)
      generalize H1 = H at hP hS ⊢
      have vh_6 : (fun r c2 I2 F2 => Fr [] [] [7, 196, 197, 305] cn In Fn c2 I2 F2 ∧ CBX c2 ∧ (True)) r_5 cn6 In6 Fn6 := wh_6
      obtain ⟨hfc6, hIn6, h_6⟩ := vh_6
      obtain rfl : cn = cn6 := (funext (fun k => hfc6.1 k List.not_mem_nil)).symm
      obtain rfl : In = In6 := (funext (fun k => hfc6.2.1 k List.not_mem_nil)).symm
      have hf6 : Fr [] [] [7, 196, 197, 305] cn In Fn cn In Fn6 := Fr.mo (Fr.tr (Fr.rf (cn := cn) (In := In) (Fn := Fn)) hfc6) (sbl rfl) (sbl rfl) (sbl rfl)
      replace hIn6 : CBXh cn := hIn6
      exact W.iret (v := r_5) hx hb hr (fun t ht hW => ⟨⟨r_5, (cn, In, Fn6), rfl, ⟨(Fr.mo hf6 (sbl rfl) (sbl rfl) (sbl rfl)), hIn6, trivial⟩, by rw [ht]; exact hP, hD⟩, hS.F ht⟩) hS.2.2 dX11_pence_44
    ·
      refine lv_astore_nN (lv' := [(3, .null), (2, .ref (ad 11 mr_1)), (0, .ref (g 0)), (1, .int v0)]) hx hb dX11_pence_22 rfl hl (ltb rfl) rfl (fun ls hl => ?_)
      refine lv_aload_n hx hb dX11_pence_23 rfl (lvA1 hl) ?_
      refine lv_ifnull hx hb dX11_pence_24 ?_
      refine lv_aload_nN hx hb dX11_pence_27 rfl (lvA0 hl) ?_
      refine lv_ifnonnullN hx hb dX11_pence_28 ?_
      refine lv_iconst (v := (-1)) hx hb dX11_pence_31 kic_m1 ?_
      refine lv_goto (tgt := 44) hx hb dX11_pence_32 rfl ?_
      exact W.iret (v := (-1)) hx hb hr (fun t ht hW => ⟨⟨(-1), (cn, In, Fn), rfl, ⟨(Fr.mo Fr.rf (sbl rfl) (sbl rfl) (sbl rfl)), hB, trivial⟩, by rw [ht]; exact hP, hD⟩, hS.F ht⟩) hS.2.2 dX11_pence_44
  ·
    refine lv_astore_nN (lv' := [(2, .null), (0, .ref (g 0)), (1, .int v0)]) hx hb dX11_pence_5 rfl hl (ltb rfl) rfl (fun ls hl => ?_)
    refine lv_aload_nN hx hb dX11_pence_6 rfl (lvA0 hl) ?_
    refine lv_ifnonnullN hx hb dX11_pence_7 ?_
    refine lv_null hx hb dX11_pence_10 ?_
    refine lv_goto (tgt := 22) hx hb dX11_pence_11 rfl ?_
    refine lv_astore_nN (lv' := [(3, .null), (2, .null), (0, .ref (g 0)), (1, .int v0)]) hx hb dX11_pence_22 rfl hl (ltb rfl) rfl (fun ls hl => ?_)
    refine lv_aload_nN hx hb dX11_pence_23 rfl (lvA1 hl) ?_
    refine lv_ifnullN (tgt := 31) hx hb dX11_pence_24 rfl ?_
    refine lv_iconst (v := (-1)) hx hb dX11_pence_31 kic_m1 ?_
    refine lv_goto (tgt := 44) hx hb dX11_pence_32 rfl ?_
    exact W.iret (v := (-1)) hx hb hr (fun t ht hW => ⟨⟨(-1), (cn, In, Fn), rfl, ⟨(Fr.mo Fr.rf (sbl rfl) (sbl rfl) (sbl rfl)), hB, trivial⟩, by rw [ht]; exact hP, hD⟩, hS.F ht⟩) hS.2.2 dX11_pence_44
set_option maxRecDepth 100000 in
set_option maxHeartbeats 4000000 in
theorem q_Xpaid (l : Launch) (D : va_G) (cI cB cZ : ClassId) (zz qq vv : Nat) (bt : Nat → Int32) (g : Nat → Nat) (ad : Nat → Nat → Nat) (cn : Nat → Nat) (In : Nat → Int32) (Fn : Nat → Nat → Int32) (v0 v1 : Int32) (sz : Nat) (hB : CBX cn) (hT : (∀ k : Nat, k < cn 10 → ad 3 k < cn 6) ∧ ad 4 0 < cn 6 ∧ ad 4 1 < cn 6) (hC : ∀ k : Nat, k < cn 6 → ∃ n : Nat, n ≤ 12 ∧ Fn 198 k = nI n) : Met l yX11_paid (CWS yX11_paid cX11_paid 4 (some .int)) (RM 9 0 0) (PBx [.ref (g 0), .int v0, .int v1] D cI cB cZ zz qq vv bt (wX cI (D.1 99) zz g ad cn In Fn) sz) (va_Qi (fun (r : Int32) (u : (Nat → Nat) × (Nat → Int32) × (Nat → Nat → Int32)) => (fun r c2 I2 F2 => Fr [] [] [7, 196, 197, 305] cn In Fn c2 I2 F2 ∧ CBX c2 ∧ (True)) r u.1 u.2.1 u.2.2) (fun (u : (Nat → Nat) × (Nat → Int32) × (Nat → Nat → Int32)) (t : State) => va_P D vwCl (wX cI (D.1 99) zz g ad u.1 u.2.1 u.2.2) t.heap ∧ va_D (va_A (wX cI (D.1 99) zz g ad cn In Fn) sz) (wX cI (D.1 99) zz g ad u.1 u.2.1 u.2.2)) (va_A (wX cI (D.1 99) zz g ad cn In Fn) sz)) 0 0 (va_A (wX cI (D.1 99) zz g ad cn In Fn) sz) := by
  refine en_x (fun A => (va_Qi (fun (r : Int32) (u : (Nat → Nat) × (Nat → Int32) × (Nat → Nat → Int32)) => (fun (r : Int32) (c2 : Nat → Nat) (I2 : Nat → Int32) (F2 : Nat → Nat → Int32) => Fr [] [] [7, 196, 197, 305] cn In Fn c2 I2 F2 ∧ CBX c2 ∧ (True)) r u.1 u.2.1 u.2.2) (fun (u : (Nat → Nat) × (Nat → Int32) × (Nat → Nat → Int32)) (t : State) => va_P D vwCl (wX cI (D.1 99) zz g ad u.1 u.2.1 u.2.2) t.heap ∧ va_D A (wX cI (D.1 99) zz g ad u.1 u.2.1 u.2.2)) A)) rfl rfl pn_RX11 (Nat.le_of_ble_eq_true rfl) (fun p e s m below meth c A hx hb hml hown S hr hlocks hnm hA hP hK hD hXS hS ls hl => ?_)
  have hl : lv_has ls 4 [(0, .ref (g 0)), (1, .int v0), (2, .int v1)] := hl
  have hb_cn : Hid (CBX cn) := hB
  replace hB : CBXh cn := hB
  refine lv_aload_n hx hb dX11_paid_0 rfl (lvA0 hl) ?_
  refine lv_iload_n hx hb dX11_paid_1 rfl (lvA1 hl) ?_
  refine va_csq (runV_rxa (As := [.int v0]) (rest := []) S (q_XkitchenAt l D cI cB cZ zz qq vv bt g ad cn In Fn v0 hB) kV_RX11_114 hK hXS hS hP 0 xo_0 rfl rfl ⟨Nat.le_of_ble_eq_true rfl, Nat.le_of_ble_eq_true rfl⟩ ⟨Nat.le_of_ble_eq_true rfl, Nat.le_of_ble_eq_true rfl⟩ rfl hl.1 rfl (Nat.le_of_ble_eq_true rfl) dX11_paid_2) (fun r_1 h_2 => ?_)
  rcases h_2 with ⟨mr_1, er_1, hr_1, rfl⟩ | ⟨hr_1, rfl⟩
  ·
    refine lv_astore_n (lv' := [(3, .ref (ad 10 mr_1)), (0, .ref (g 0)), (1, .int v0), (2, .int v1)]) hx hb dX11_paid_5 rfl hl (ltb rfl) rfl (fun ls hl => ?_)
    refine lv_aload_n hx hb dX11_paid_6 rfl (lvA0 hl) ?_
    refine lv_ifnull hx hb dX11_paid_7 ?_
    refine lv_iload_n hx hb dX11_paid_10 rfl (lvA3 hl) ?_
    refine vp_callSi (runS_r (As := [.int v1]) (rest := []) S (q_l_isDay l D cI cB cZ v1) kS_RX11_99 hK hP [] rfl ⟨Nat.le_of_ble_eq_true rfl, Nat.le_of_ble_eq_true rfl⟩ ⟨Nat.le_of_ble_eq_true rfl, Nat.le_of_ble_eq_true rfl⟩ rfl hl.1 rfl (Nat.le_of_ble_eq_true rfl) dX11_paid_11) (fun r_3 h_4 => ?_)
    rcases h_4 with ⟨rfl, h_4⟩ | ⟨rfl, h_4⟩
    ·
      have h_4 : 0 ≤ v1.toInt ∧ v1.toInt ≤ 399 := h_4
      refine lv_if_ne (tgt := 21) hx hb dX11_paid_14 rfl (fun _ => ?_) (fun h => absurd h cq_eq_1_0)
      obtain ⟨n9, hn9, en9⟩ := hC (ad 3 mr_1) (hT.1 mr_1 (by (first | omega | (have zz0 := Hid.u hb_cn; omega))))
      refine lv_aload_n hx hb dX11_paid_21 rfl (lvA1 hl) ?_
      refine lv_iload_n hx hb dX11_paid_22 rfl (lvA2 hl) ?_
      refine lv_iload_n hx hb dX11_paid_23 rfl (lvA3 hl) ?_
      refine lv_aload_n hx hb dX11_paid_24 rfl (lvA0 hl) ?_
      have kf_1 : mr_1 < cn 10 := by (first | omega | (have zz0 := Hid.u hb_cn; omega))
      refine gf_RX11_168 S hK hP _ (xf_0 kf_1) (v := .ref (ad 5 (ad 3 mr_1))) rfl dX11_paid_25 ?_
      have hFc := free_all hD hS hA
      refine va_calli (runV_xa (As := [.int v0, .int v1, .ref (ad 5 (ad 3 mr_1))]) (rest := []) S (q_XpenceTogether l D cI cB cZ zz qq vv bt g ad cn In Fn (ad 3 mr_1) n9 v0 v1 s.heap.size hB (hT.1 mr_1 (by (first | omega | (have zz0 := Hid.u hb_cn; omega)))) en9 hn9) kV_RX11_242 hK hXS hS hFc hP hD 0 xo_0 rfl rfl ⟨Nat.le_of_ble_eq_true rfl, Nat.le_of_ble_eq_true rfl⟩ ⟨Nat.le_of_ble_eq_true rfl, Nat.le_of_ble_eq_true rfl⟩ rfl hl.1 rfl (Nat.le_of_ble_eq_true rfl) dX11_paid_28) hS (fun q _ h => hFc q h) hFc (fun r_5 u t H1 locs ht hvm wh_6 hB1 hz1 hk1 hS => ?_)
      obtain ⟨cn6, In6, Fn6⟩ := u
      obtain ⟨hP1, hD1⟩ := hB1
      rw [ht] at hP1
      have hP : va_P D vwCl (wX cI (D.1 99) zz g ad cn6 In6 Fn6) H1 := hP1
      have hD : va_D A (wX cI (D.1 99) zz g ad cn6 In6 Fn6) := hD1.weaken (fun _ _ _ h => hFc _ h)
      generalize H1 = H at hP hS ⊢
      have vh_6 : (fun r c2 I2 F2 => Fr [] [] [7, 196, 197, 305] cn In Fn c2 I2 F2 ∧ CBX c2 ∧ (True)) r_5 cn6 In6 Fn6 := wh_6
      obtain ⟨hfc6, hIn6, h_6⟩ := vh_6
      obtain rfl : cn = cn6 := (funext (fun k => hfc6.1 k List.not_mem_nil)).symm
      obtain rfl : In = In6 := (funext (fun k => hfc6.2.1 k List.not_mem_nil)).symm
      have hf6 : Fr [] [] [7, 196, 197, 305] cn In Fn cn In Fn6 := Fr.mo (Fr.tr (Fr.rf (cn := cn) (In := In) (Fn := Fn)) hfc6) (sbl rfl) (sbl rfl) (sbl rfl)
      replace hIn6 : CBXh cn := hIn6
      exact W.iret (v := r_5) hx hb hr (fun t ht hW => ⟨⟨r_5, (cn, In, Fn6), rfl, ⟨(Fr.mo hf6 (sbl rfl) (sbl rfl) (sbl rfl)), hIn6, trivial⟩, by rw [ht]; exact hP, hD⟩, hS.F ht⟩) hS.2.2 dX11_paid_31
    ·
      have h_4 : ¬ (0 ≤ v1.toInt ∧ v1.toInt ≤ 399) := h_4
      refine lv_if_ne (tgt := 21) hx hb dX11_paid_14 rfl (fun h => absurd h cq_eq_0_0) (fun _ => ?_)
      refine lv_iconst (v := (-1)) hx hb dX11_paid_17 kic_m1 ?_
      refine lv_goto (tgt := 31) hx hb dX11_paid_18 rfl ?_
      exact W.iret (v := (-1)) hx hb hr (fun t ht hW => ⟨⟨(-1), (cn, In, Fn), rfl, ⟨(Fr.mo Fr.rf (sbl rfl) (sbl rfl) (sbl rfl)), hB, trivial⟩, by rw [ht]; exact hP, hD⟩, hS.F ht⟩) hS.2.2 dX11_paid_31
  ·
    refine lv_astore_nN (lv' := [(3, .null), (0, .ref (g 0)), (1, .int v0), (2, .int v1)]) hx hb dX11_paid_5 rfl hl (ltb rfl) rfl (fun ls hl => ?_)
    refine lv_aload_nN hx hb dX11_paid_6 rfl (lvA0 hl) ?_
    refine lv_ifnullN (tgt := 17) hx hb dX11_paid_7 rfl ?_
    refine lv_iconst (v := (-1)) hx hb dX11_paid_17 kic_m1 ?_
    refine lv_goto (tgt := 31) hx hb dX11_paid_18 rfl ?_
    exact W.iret (v := (-1)) hx hb hr (fun t ht hW => ⟨⟨(-1), (cn, In, Fn), rfl, ⟨(Fr.mo Fr.rf (sbl rfl) (sbl rfl) (sbl rfl)), hB, trivial⟩, by rw [ht]; exact hP, hD⟩, hS.F ht⟩) hS.2.2 dX11_paid_31
set_option maxRecDepth 100000 in
set_option maxHeartbeats 4000000 in
theorem q_XasIf (l : Launch) (D : va_G) (cI cB cZ : ClassId) (zz qq vv : Nat) (bt : Nat → Int32) (g : Nat → Nat) (ad : Nat → Nat → Nat) (cn : Nat → Nat) (In : Nat → Int32) (Fn : Nat → Nat → Int32) (v0 v1 : Int32) (sz : Nat) (hB : CBX cn) (hT : (∀ k : Nat, k < cn 10 → ad 3 k < cn 6) ∧ ad 4 0 < cn 6 ∧ ad 4 1 < cn 6) (hC : ∀ k : Nat, k < cn 6 → ∃ n : Nat, n ≤ 12 ∧ Fn 198 k = nI n) : Met l yX11_asIf (CWS yX11_asIf cX11_asIf 4 (some .int)) (RM 9 0 0) (PBx [.ref (g 0), .int v0, .int v1] D cI cB cZ zz qq vv bt (wX cI (D.1 99) zz g ad cn In Fn) sz) (va_Qi (fun (r : Int32) (u : (Nat → Nat) × (Nat → Int32) × (Nat → Nat → Int32)) => (fun r c2 I2 F2 => Fr [] [] [7, 196, 197, 305] cn In Fn c2 I2 F2 ∧ CBX c2 ∧ (True)) r u.1 u.2.1 u.2.2) (fun (u : (Nat → Nat) × (Nat → Int32) × (Nat → Nat → Int32)) (t : State) => va_P D vwCl (wX cI (D.1 99) zz g ad u.1 u.2.1 u.2.2) t.heap ∧ va_D (va_A (wX cI (D.1 99) zz g ad cn In Fn) sz) (wX cI (D.1 99) zz g ad u.1 u.2.1 u.2.2)) (va_A (wX cI (D.1 99) zz g ad cn In Fn) sz)) 0 0 (va_A (wX cI (D.1 99) zz g ad cn In Fn) sz) := by
  refine en_x (fun A => (va_Qi (fun (r : Int32) (u : (Nat → Nat) × (Nat → Int32) × (Nat → Nat → Int32)) => (fun (r : Int32) (c2 : Nat → Nat) (I2 : Nat → Int32) (F2 : Nat → Nat → Int32) => Fr [] [] [7, 196, 197, 305] cn In Fn c2 I2 F2 ∧ CBX c2 ∧ (True)) r u.1 u.2.1 u.2.2) (fun (u : (Nat → Nat) × (Nat → Int32) × (Nat → Nat → Int32)) (t : State) => va_P D vwCl (wX cI (D.1 99) zz g ad u.1 u.2.1 u.2.2) t.heap ∧ va_D A (wX cI (D.1 99) zz g ad u.1 u.2.1 u.2.2)) A)) rfl rfl pn_RX11 (Nat.le_of_ble_eq_true rfl) (fun p e s m below meth c A hx hb hml hown S hr hlocks hnm hA hP hK hD hXS hS ls hl => ?_)
  have hl : lv_has ls 4 [(0, .ref (g 0)), (1, .int v0), (2, .int v1)] := hl
  have hb_cn : Hid (CBX cn) := hB
  replace hB : CBXh cn := hB
  refine lv_aload_n hx hb dX11_asIf_0 rfl (lvA0 hl) ?_
  refine lv_iload_n hx hb dX11_asIf_1 rfl (lvA2 hl) ?_
  refine va_csq (runV_rxa (As := [.int v1]) (rest := []) S (q_XkitchenAt l D cI cB cZ zz qq vv bt g ad cn In Fn v1 hB) kV_RX11_114 hK hXS hS hP 0 xo_0 rfl rfl ⟨Nat.le_of_ble_eq_true rfl, Nat.le_of_ble_eq_true rfl⟩ ⟨Nat.le_of_ble_eq_true rfl, Nat.le_of_ble_eq_true rfl⟩ rfl hl.1 rfl (Nat.le_of_ble_eq_true rfl) dX11_asIf_2) (fun r_1 h_2 => ?_)
  rcases h_2 with ⟨mr_1, er_1, hr_1, rfl⟩ | ⟨hr_1, rfl⟩
  ·
    refine lv_astore_n (lv' := [(3, .ref (ad 10 mr_1)), (0, .ref (g 0)), (1, .int v0), (2, .int v1)]) hx hb dX11_asIf_5 rfl hl (ltb rfl) rfl (fun ls hl => ?_)
    refine lv_aload_n hx hb dX11_asIf_6 rfl (lvA1 hl) ?_
    refine lv_iload_n hx hb dX11_asIf_7 rfl (lvA2 hl) ?_
    refine va_csq (runV_rxa (As := [.int v0]) (rest := []) S (q_XkitchenAt l D cI cB cZ zz qq vv bt g ad cn In Fn v0 hB) kV_RX11_114 hK hXS hS hP 0 xo_0 rfl rfl ⟨Nat.le_of_ble_eq_true rfl, Nat.le_of_ble_eq_true rfl⟩ ⟨Nat.le_of_ble_eq_true rfl, Nat.le_of_ble_eq_true rfl⟩ rfl hl.1 rfl (Nat.le_of_ble_eq_true rfl) dX11_asIf_8) (fun r_3 h_4 => ?_)
    rcases h_4 with ⟨mr_3, er_3, hr_3, rfl⟩ | ⟨hr_3, rfl⟩
    ·
      refine lv_ifnull hx hb dX11_asIf_11 ?_
      refine lv_aload_n hx hb dX11_asIf_14 rfl (lvA0 hl) ?_
      refine lv_ifnonnull (tgt := 22) hx hb dX11_asIf_15 rfl ?_
      obtain ⟨n9, hn9, en9⟩ := hC (ad 3 mr_1) (hT.1 mr_1 (by (first | omega | (have zz0 := Hid.u hb_cn; omega))))
      refine lv_aload_n hx hb dX11_asIf_22 rfl (lvA1 hl) ?_
      refine lv_iload_n hx hb dX11_asIf_23 rfl (lvA2 hl) ?_
      refine lv_sipush (v := 399) hx hb dX11_asIf_24 (by decide) ?_
      refine lv_aload_n hx hb dX11_asIf_27 rfl (lvA0 hl) ?_
      have kf_1 : mr_1 < cn 10 := by (first | omega | (have zz0 := Hid.u hb_cn; omega))
      refine gf_RX11_168 S hK hP _ (xf_0 kf_1) (v := .ref (ad 5 (ad 3 mr_1))) rfl dX11_asIf_28 ?_
      have hFc := free_all hD hS hA
      refine va_calli (runV_xa (As := [.int v0, .int 399, .ref (ad 5 (ad 3 mr_1))]) (rest := []) S (q_XpenceTogether l D cI cB cZ zz qq vv bt g ad cn In Fn (ad 3 mr_1) n9 v0 399 s.heap.size hB (hT.1 mr_1 (by (first | omega | (have zz0 := Hid.u hb_cn; omega)))) en9 hn9) kV_RX11_242 hK hXS hS hFc hP hD 0 xo_0 rfl rfl ⟨Nat.le_of_ble_eq_true rfl, Nat.le_of_ble_eq_true rfl⟩ ⟨Nat.le_of_ble_eq_true rfl, Nat.le_of_ble_eq_true rfl⟩ rfl hl.1 rfl (Nat.le_of_ble_eq_true rfl) dX11_asIf_31) hS (fun q _ h => hFc q h) hFc (fun r_5 u t H1 locs ht hvm wh_6 hB1 hz1 hk1 hS => ?_)
      obtain ⟨cn6, In6, Fn6⟩ := u
      obtain ⟨hP1, hD1⟩ := hB1
      rw [ht] at hP1
      have hP : va_P D vwCl (wX cI (D.1 99) zz g ad cn6 In6 Fn6) H1 := hP1
      have hD : va_D A (wX cI (D.1 99) zz g ad cn6 In6 Fn6) := hD1.weaken (fun _ _ _ h => hFc _ h)
      generalize H1 = H at hP hS ⊢
      have vh_6 : (fun r c2 I2 F2 => Fr [] [] [7, 196, 197, 305] cn In Fn c2 I2 F2 ∧ CBX c2 ∧ (True)) r_5 cn6 In6 Fn6 := wh_6
      obtain ⟨hfc6, hIn6, h_6⟩ := vh_6
      obtain rfl : cn = cn6 := (funext (fun k => hfc6.1 k List.not_mem_nil)).symm
      obtain rfl : In = In6 := (funext (fun k => hfc6.2.1 k List.not_mem_nil)).symm
      have hf6 : Fr [] [] [7, 196, 197, 305] cn In Fn cn In Fn6 := Fr.mo (Fr.tr (Fr.rf (cn := cn) (In := In) (Fn := Fn)) hfc6) (sbl rfl) (sbl rfl) (sbl rfl)
      replace hIn6 : CBXh cn := hIn6
      exact W.iret (v := r_5) hx hb hr (fun t ht hW => ⟨⟨r_5, (cn, In, Fn6), rfl, ⟨(Fr.mo hf6 (sbl rfl) (sbl rfl) (sbl rfl)), hIn6, trivial⟩, by rw [ht]; exact hP, hD⟩, hS.F ht⟩) hS.2.2 dX11_asIf_34
    ·
      refine lv_ifnullN (tgt := 18) hx hb dX11_asIf_11 rfl ?_
      refine lv_iconst (v := (-1)) hx hb dX11_asIf_18 kic_m1 ?_
      refine lv_goto (tgt := 34) hx hb dX11_asIf_19 rfl ?_
      exact W.iret (v := (-1)) hx hb hr (fun t ht hW => ⟨⟨(-1), (cn, In, Fn), rfl, ⟨(Fr.mo Fr.rf (sbl rfl) (sbl rfl) (sbl rfl)), hB, trivial⟩, by rw [ht]; exact hP, hD⟩, hS.F ht⟩) hS.2.2 dX11_asIf_34
  ·
    refine lv_astore_nN (lv' := [(3, .null), (0, .ref (g 0)), (1, .int v0), (2, .int v1)]) hx hb dX11_asIf_5 rfl hl (ltb rfl) rfl (fun ls hl => ?_)
    refine lv_aload_n hx hb dX11_asIf_6 rfl (lvA1 hl) ?_
    refine lv_iload_n hx hb dX11_asIf_7 rfl (lvA2 hl) ?_
    refine va_csq (runV_rxa (As := [.int v0]) (rest := []) S (q_XkitchenAt l D cI cB cZ zz qq vv bt g ad cn In Fn v0 hB) kV_RX11_114 hK hXS hS hP 0 xo_0 rfl rfl ⟨Nat.le_of_ble_eq_true rfl, Nat.le_of_ble_eq_true rfl⟩ ⟨Nat.le_of_ble_eq_true rfl, Nat.le_of_ble_eq_true rfl⟩ rfl hl.1 rfl (Nat.le_of_ble_eq_true rfl) dX11_asIf_8) (fun r_7 h_8 => ?_)
    rcases h_8 with ⟨mr_7, er_7, hr_7, rfl⟩ | ⟨hr_7, rfl⟩
    ·
      refine lv_ifnull hx hb dX11_asIf_11 ?_
      refine lv_aload_nN hx hb dX11_asIf_14 rfl (lvA0 hl) ?_
      refine lv_ifnonnullN hx hb dX11_asIf_15 ?_
      refine lv_iconst (v := (-1)) hx hb dX11_asIf_18 kic_m1 ?_
      refine lv_goto (tgt := 34) hx hb dX11_asIf_19 rfl ?_
      exact W.iret (v := (-1)) hx hb hr (fun t ht hW => ⟨⟨(-1), (cn, In, Fn), rfl, ⟨(Fr.mo Fr.rf (sbl rfl) (sbl rfl) (sbl rfl)), hB, trivial⟩, by rw [ht]; exact hP, hD⟩, hS.F ht⟩) hS.2.2 dX11_asIf_34
    ·
      refine lv_ifnullN (tgt := 18) hx hb dX11_asIf_11 rfl ?_
      refine lv_iconst (v := (-1)) hx hb dX11_asIf_18 kic_m1 ?_
      refine lv_goto (tgt := 34) hx hb dX11_asIf_19 rfl ?_
      exact W.iret (v := (-1)) hx hb hr (fun t ht hW => ⟨⟨(-1), (cn, In, Fn), rfl, ⟨(Fr.mo Fr.rf (sbl rfl) (sbl rfl) (sbl rfl)), hB, trivial⟩, by rw [ht]; exact hP, hD⟩, hS.F ht⟩) hS.2.2 dX11_asIf_34
