theorem i32n (x : Int32) : x.toInt.toNat < 2147483648 := by
  have := Int32.toInt_lt x
  omega
theorem dec_toInt {x : Int32} (h : 1 ≤ x.toInt) : (x - 1).toInt = x.toInt - 1 := by
  have b := Int32.toInt_lt x
  rw [Int32.toInt_sub]
  exact Int.bmod_eq_of_le (by show -(2 ^ 31 : Int) ≤ x.toInt - 1; omega) (by show x.toInt - 1 < (2 ^ 31 : Int); omega)
theorem inc_toInt {x y : Int32} (h : x.toInt < y.toInt) : (x + 1).toInt = x.toInt + 1 := by
  have a := Int32.toInt_lt y
  have b := Int32.le_toInt x
  rw [Int32.toInt_add]
  exact Int.bmod_eq_of_le (by show -(2 ^ 31 : Int) ≤ x.toInt + 1; omega) (by show x.toInt + 1 < (2 ^ 31 : Int); omega)

set_option maxRecDepth 100000 in
theorem kV_RJ0_335 : CalV RJ0 335 yJ0_coder_7d493 cJ0_coder_7d493 1 (some .byte) 0 := ⟨⟨wk1_10 2 rfl rfl, wk1_10 3 rfl rfl, wk1_10 4 rfl rfl, wk1_0 6 rfl rfl, wk1_10 5 rfl rfl⟩, ⟨nmh_16.1, nmh_16.2, pd_0⟩⟩
set_option maxRecDepth 100000 in
theorem kS_RJ1_88 : CalS RJ1 88 yJ1_canEncode_9a6ad cJ1_canEncode_9a6ad 1 (some .boolean) 1 := ⟨⟨wk3_8 9 rfl rfl, wk3_8 10 rfl rfl, wk1_1 8 rfl rfl, wk3_8 11 rfl rfl⟩, ⟨nmh_17.1, nmh_17.2, pd_15⟩⟩
theorem cq_lt_0_11 : ¬¬((0 : Int32) < 11) := by decide
set_option maxRecDepth 100000 in
theorem kS_RJ1_95 : CalS RJ1 95 yJ1_indexOfChar_4cfef cJ1_indexOfChar_4cfef 6 (some .int) 4 := ⟨⟨wk3_9 2 rfl rfl, wk3_9 3 rfl rfl, wk1_1 8 rfl rfl, wk3_9 4 rfl rfl⟩, ⟨nmh_17.1, nmh_17.2, pd_64⟩⟩
set_option maxRecDepth 100000 in
theorem kV_RJ0_492 : CalV RJ0 492 yJ0_isLatin1_aae02 cJ0_isLatin1_aae02 1 (some .boolean) 0 := ⟨⟨wk3_8 1 rfl rfl, wk3_8 2 rfl rfl, wk3_8 3 rfl rfl, wk1_0 6 rfl rfl, wk3_8 4 rfl rfl⟩, ⟨nmh_16.1, nmh_16.2, pd_3⟩⟩
set_option maxRecDepth 100000 in
theorem kV_RJ0_505 : CalV RJ0 505 yJ0_length_8abf5 cJ0_length_8abf5 1 (some .int) 0 := ⟨⟨wk3_8 5 rfl rfl, wk1_9 11 rfl rfl, wk1_10 0 rfl rfl, wk1_0 6 rfl rfl, wk1_10 1 rfl rfl⟩, ⟨nmh_16.1, nmh_16.2, pd_1⟩⟩
set_option maxRecDepth 100000 in
theorem kS_RJ0_637 : CalS RJ0 637 yJ1_indexOf_4cfef cJ1_indexOf_4cfef 4 (some .int) 4 := ⟨⟨wk3_8 6 rfl rfl, wk3_8 7 rfl rfl, wk1_1 8 rfl rfl, wk3_8 8 rfl rfl⟩, ⟨nmh_17.1, nmh_17.2, pd_64⟩⟩
set_option maxRecDepth 100000 in
theorem kV_RJ0_633 : CalV RJ0 633 yJ0_indexOf_7cf53 cJ0_indexOf_7cf53 3 (some .int) 2 := ⟨⟨wk3_7 9 rfl rfl, wk3_7 10 rfl rfl, wk3_7 11 rfl rfl, wk1_0 6 rfl rfl, wk3_8 0 rfl rfl⟩, ⟨nmh_16.1, nmh_16.2, pd_17⟩⟩
set_option maxRecDepth 100000 in
theorem gf_RX9_55 {p : Program} {l : Launch} {e : Env} {R : Room} {s : State} {m : MethodId} {args : Array Value} {below : List Frame} {meth : Method} {c : Code} {H : Heap} {locs : List Loc} {cells slots : Nat} {Q : State → Prop} {cc : ByteArray} {nL pc : Nat} {D : va_G} {cI cB cZ : ClassId} {ws : va_W} {rest : List Value} {ls : Array Slot} {a : Nat} {fs : List Value} {v : Value} (S : SF p m c cc nL s args RX9) (hK : KK D cI cB cZ s) (hP : va_P D vwCl ws H) (q0 : Nat) (he : ws[q0]? = some (a, .inr (10, fs))) (hv : fs[6]? = some v) (hdg : decode cc pc = .ok (.getfield 55, 3)) (kk : W p l e R s m args below meth c H locs cells slots Q (F0 m (pc + 3) ls (v :: rest))) : W p l e R s m args below meth c H locs cells slots Q (F0 m pc ls (.ref a :: rest)) :=
  va_get (C := RX9) (T := TX9) (N := 9) S.1 S.2.1 S.2.2.2.2 hin_RX9 S.2.2.2.1 hK.1 hP q0 he rfl 6 (by decide) (S.2.2.2.2 _ (wk1_4 2 rfl rfl)) (fun _ h9 => h9) hv hdg kk
set_option maxRecDepth 100000 in
theorem gf_RX9_30 {p : Program} {l : Launch} {e : Env} {R : Room} {s : State} {m : MethodId} {args : Array Value} {below : List Frame} {meth : Method} {c : Code} {H : Heap} {locs : List Loc} {cells slots : Nat} {Q : State → Prop} {cc : ByteArray} {nL pc : Nat} {D : va_G} {cI cB cZ : ClassId} {ws : va_W} {rest : List Value} {ls : Array Slot} {a : Nat} {fs : List Value} {v : Value} (S : SF p m c cc nL s args RX9) (hK : KK D cI cB cZ s) (hP : va_P D vwCl ws H) (q0 : Nat) (he : ws[q0]? = some (a, .inr (10, fs))) (hv : fs[4]? = some v) (hdg : decode cc pc = .ok (.getfield 30, 3)) (kk : W p l e R s m args below meth c H locs cells slots Q (F0 m (pc + 3) ls (v :: rest))) : W p l e R s m args below meth c H locs cells slots Q (F0 m pc ls (.ref a :: rest)) :=
  va_get (C := RX9) (T := TX9) (N := 9) S.1 S.2.1 S.2.2.2.2 hin_RX9 S.2.2.2.1 hK.1 hP q0 he rfl 4 (by decide) (S.2.2.2.2 _ (wk1_4 0 rfl rfl)) (fun _ h9 => h9) hv hdg kk
set_option maxRecDepth 100000 in
theorem pf_RX9_55 {p : Program} {l : Launch} {e : Env} {R : Room} {s : State} {m : MethodId} {args : Array Value} {below : List Frame} {meth : Method} {c : Code} {H : Heap} {locs : List Loc} {cells slots : Nat} {Q : State → Prop} {cc : ByteArray} {nL pc : Nat} {D : va_G} {cI cB cZ : ClassId} {ws : va_W} {rest : List Value} {ls : Array Slot} {a : Nat} {fs : List Value} {v : Value} {A : Nat → Prop} {H0 : Heap} (S : SF p m c cc nL s args RX9) (hK : KK D cI cB cZ s) (hP : va_P D vwCl ws H) (hD : va_D A ws) (hS : va_S A H0 H locs) (q0 : Nat) (he : ws[q0]? = some (a, .inr (10, fs))) (hl : 6 < fs.length) (hn : narrow (tyX9 6) v = v) (hfit : fits (tyX9 6) v = true) (hdg : decode cc pc = .ok (.putfield 55, 3)) (kk : ∀ (H1 : Heap) (locs1 : List Loc), va_P D vwCl (ws.set q0 (a, .inr (10, fs.set 6 v))) H1 → va_D A (ws.set q0 (a, .inr (10, fs.set 6 v))) → va_S A H0 H1 locs1 → W p l e R s m args below meth c H1 locs1 cells slots Q (F0 m (pc + 3) ls rest)) : W p l e R s m args below meth c H locs cells slots Q (F0 m pc ls (v :: .ref a :: rest)) :=
  va_put (C := RX9) (T := TX9) (N := 9) S.1 S.2.1 S.2.2.2.2 hin_RX9 tyX9 tyX9_ok nmX9 S.2.2.2.1 hK.1 hP hD hS q0 he rfl 6 (by decide) (S.2.2.2.2 _ (wk1_4 2 rfl rfl)) (fun _ h9 => h9) rfl (tyX9_ok 6 (by decide)) hn hfit hl hdg kk
set_option maxRecDepth 100000 in
theorem kV_RX9_67 : CalV RX9 67 yX9_pop cX9_pop 1 (some .int) 0 := ⟨⟨wk4_1 10 rfl rfl, wk4_2 0 rfl rfl, wT_sel 25 _ rfl rfl rfl, wk1_0 2 rfl rfl, wk4_2 1 rfl rfl⟩, ⟨nmh_10.1, nmh_10.2, pd_1⟩⟩
set_option maxRecDepth 100000 in
theorem kV_RX9_63 : CalV RX9 63 yX9_push cX9_push 2 none 1 := ⟨⟨wk4_1 6 rfl rfl, wk4_1 8 rfl rfl, wT_sel 24 _ rfl rfl rfl, wk1_0 2 rfl rfl, wk4_1 9 rfl rfl⟩, ⟨nmh_10.1, nmh_10.2, pd_14⟩⟩
set_option maxRecDepth 100000 in
theorem pf_RX9_58 {p : Program} {l : Launch} {e : Env} {R : Room} {s : State} {m : MethodId} {args : Array Value} {below : List Frame} {meth : Method} {c : Code} {H : Heap} {locs : List Loc} {cells slots : Nat} {Q : State → Prop} {cc : ByteArray} {nL pc : Nat} {D : va_G} {cI cB cZ : ClassId} {ws : va_W} {rest : List Value} {ls : Array Slot} {a : Nat} {fs : List Value} {v : Value} {A : Nat → Prop} {H0 : Heap} (S : SF p m c cc nL s args RX9) (hK : KK D cI cB cZ s) (hP : va_P D vwCl ws H) (hD : va_D A ws) (hS : va_S A H0 H locs) (q0 : Nat) (he : ws[q0]? = some (a, .inr (10, fs))) (hl : 7 < fs.length) (hn : narrow (tyX9 7) v = v) (hfit : fits (tyX9 7) v = true) (hdg : decode cc pc = .ok (.putfield 58, 3)) (kk : ∀ (H1 : Heap) (locs1 : List Loc), va_P D vwCl (ws.set q0 (a, .inr (10, fs.set 7 v))) H1 → va_D A (ws.set q0 (a, .inr (10, fs.set 7 v))) → va_S A H0 H1 locs1 → W p l e R s m args below meth c H1 locs1 cells slots Q (F0 m (pc + 3) ls rest)) : W p l e R s m args below meth c H locs cells slots Q (F0 m pc ls (v :: .ref a :: rest)) :=
  va_put (C := RX9) (T := TX9) (N := 9) S.1 S.2.1 S.2.2.2.2 hin_RX9 tyX9 tyX9_ok nmX9 S.2.2.2.1 hK.1 hP hD hS q0 he rfl 7 (by decide) (S.2.2.2.2 _ (wk1_4 3 rfl rfl)) (fun _ h9 => h9) rfl (tyX9_ok 7 (by decide)) hn hfit hl hdg kk
set_option maxRecDepth 100000 in
theorem kV_RX9_79 : CalV RX9 79 yX9_divide cX9_divide 4 (some .int) 3 := ⟨⟨wk4_2 10 rfl rfl, wk4_3 0 rfl rfl, wT_sel 28 _ rfl rfl rfl, wk1_0 2 rfl rfl, wk4_3 1 rfl rfl⟩, ⟨nmh_10.1, nmh_10.2, pd_22⟩⟩
set_option maxRecDepth 100000 in
theorem gf_RX9_58 {p : Program} {l : Launch} {e : Env} {R : Room} {s : State} {m : MethodId} {args : Array Value} {below : List Frame} {meth : Method} {c : Code} {H : Heap} {locs : List Loc} {cells slots : Nat} {Q : State → Prop} {cc : ByteArray} {nL pc : Nat} {D : va_G} {cI cB cZ : ClassId} {ws : va_W} {rest : List Value} {ls : Array Slot} {a : Nat} {fs : List Value} {v : Value} (S : SF p m c cc nL s args RX9) (hK : KK D cI cB cZ s) (hP : va_P D vwCl ws H) (q0 : Nat) (he : ws[q0]? = some (a, .inr (10, fs))) (hv : fs[7]? = some v) (hdg : decode cc pc = .ok (.getfield 58, 3)) (kk : W p l e R s m args below meth c H locs cells slots Q (F0 m (pc + 3) ls (v :: rest))) : W p l e R s m args below meth c H locs cells slots Q (F0 m pc ls (.ref a :: rest)) :=
  va_get (C := RX9) (T := TX9) (N := 9) S.1 S.2.1 S.2.2.2.2 hin_RX9 S.2.2.2.1 hK.1 hP q0 he rfl 7 (by decide) (S.2.2.2.2 _ (wk1_4 3 rfl rfl)) (fun _ h9 => h9) hv hdg kk
set_option maxRecDepth 100000 in
theorem gf_RX9_17 {p : Program} {l : Launch} {e : Env} {R : Room} {s : State} {m : MethodId} {args : Array Value} {below : List Frame} {meth : Method} {c : Code} {H : Heap} {locs : List Loc} {cells slots : Nat} {Q : State → Prop} {cc : ByteArray} {nL pc : Nat} {D : va_G} {cI cB cZ : ClassId} {ws : va_W} {rest : List Value} {ls : Array Slot} {a : Nat} {fs : List Value} {v : Value} (S : SF p m c cc nL s args RX9) (hK : KK D cI cB cZ s) (hP : va_P D vwCl ws H) (q0 : Nat) (he : ws[q0]? = some (a, .inr (10, fs))) (hv : fs[0]? = some v) (hdg : decode cc pc = .ok (.getfield 17, 3)) (kk : W p l e R s m args below meth c H locs cells slots Q (F0 m (pc + 3) ls (v :: rest))) : W p l e R s m args below meth c H locs cells slots Q (F0 m pc ls (.ref a :: rest)) :=
  va_get (C := RX9) (T := TX9) (N := 9) S.1 S.2.1 S.2.2.2.2 hin_RX9 S.2.2.2.1 hK.1 hP q0 he rfl 0 (by decide) (S.2.2.2.2 _ (wk1_3 8 rfl rfl)) (fun _ h9 => h9) hv hdg kk
set_option maxRecDepth 100000 in
theorem kS_RX9_37 : CalS RX9 37 yX7_at cX7_at 2 (some .int) 2 := ⟨⟨wk3_17 1 rfl rfl, wk3_1 8 rfl rfl, wk1_0 7 rfl rfl, wk3_1 9 rfl rfl⟩, ⟨nmh_8.1, nmh_8.2, pd_67⟩⟩
set_option maxRecDepth 100000 in
theorem kV_RX9_75 : CalV RX9 75 yX9_reckon cX9_reckon 4 (some .int) 3 := ⟨⟨wk4_2 6 rfl rfl, wk4_2 8 rfl rfl, wT_sel 27 _ rfl rfl rfl, wk1_0 2 rfl rfl, wk4_2 9 rfl rfl⟩, ⟨nmh_10.1, nmh_10.2, pd_22⟩⟩
set_option maxRecDepth 100000 in
theorem kV_RX9_71 : CalV RX9 71 yX9_decided cX9_decided 3 (some .boolean) 1 := ⟨⟨wk4_2 2 rfl rfl, wk4_2 4 rfl rfl, wT_sel 26 _ rfl rfl rfl, wk1_0 2 rfl rfl, wk4_2 5 rfl rfl⟩, ⟨nmh_10.1, nmh_10.2, pd_15⟩⟩
set_option maxRecDepth 100000 in
theorem gf_RX9_48 {p : Program} {l : Launch} {e : Env} {R : Room} {s : State} {m : MethodId} {args : Array Value} {below : List Frame} {meth : Method} {c : Code} {H : Heap} {locs : List Loc} {cells slots : Nat} {Q : State → Prop} {cc : ByteArray} {nL pc : Nat} {D : va_G} {cI cB cZ : ClassId} {ws : va_W} {rest : List Value} {ls : Array Slot} {a : Nat} {fs : List Value} {v : Value} (S : SF p m c cc nL s args RX9) (hK : KK D cI cB cZ s) (hP : va_P D vwCl ws H) (q0 : Nat) (he : ws[q0]? = some (a, .inr (10, fs))) (hv : fs[8]? = some v) (hdg : decode cc pc = .ok (.getfield 48, 3)) (kk : W p l e R s m args below meth c H locs cells slots Q (F0 m (pc + 3) ls (v :: rest))) : W p l e R s m args below meth c H locs cells slots Q (F0 m pc ls (.ref a :: rest)) :=
  va_get (C := RX9) (T := TX9) (N := 9) S.1 S.2.1 S.2.2.2.2 hin_RX9 S.2.2.2.1 hK.1 hP q0 he rfl 8 (by decide) (S.2.2.2.2 _ (wk1_4 4 rfl rfl)) (fun _ h9 => h9) hv hdg kk
set_option maxRecDepth 100000 in
theorem gf_RX9_24 {p : Program} {l : Launch} {e : Env} {R : Room} {s : State} {m : MethodId} {args : Array Value} {below : List Frame} {meth : Method} {c : Code} {H : Heap} {locs : List Loc} {cells slots : Nat} {Q : State → Prop} {cc : ByteArray} {nL pc : Nat} {D : va_G} {cI cB cZ : ClassId} {ws : va_W} {rest : List Value} {ls : Array Slot} {a : Nat} {fs : List Value} {v : Value} (S : SF p m c cc nL s args RX9) (hK : KK D cI cB cZ s) (hP : va_P D vwCl ws H) (q0 : Nat) (he : ws[q0]? = some (a, .inr (10, fs))) (hv : fs[2]? = some v) (hdg : decode cc pc = .ok (.getfield 24, 3)) (kk : W p l e R s m args below meth c H locs cells slots Q (F0 m (pc + 3) ls (v :: rest))) : W p l e R s m args below meth c H locs cells slots Q (F0 m pc ls (.ref a :: rest)) :=
  va_get (C := RX9) (T := TX9) (N := 9) S.1 S.2.1 S.2.2.2.2 hin_RX9 S.2.2.2.1 hK.1 hP q0 he rfl 2 (by decide) (S.2.2.2.2 _ (wk1_3 10 rfl rfl)) (fun _ h9 => h9) hv hdg kk
set_option maxRecDepth 100000 in
theorem gf_RX9_27 {p : Program} {l : Launch} {e : Env} {R : Room} {s : State} {m : MethodId} {args : Array Value} {below : List Frame} {meth : Method} {c : Code} {H : Heap} {locs : List Loc} {cells slots : Nat} {Q : State → Prop} {cc : ByteArray} {nL pc : Nat} {D : va_G} {cI cB cZ : ClassId} {ws : va_W} {rest : List Value} {ls : Array Slot} {a : Nat} {fs : List Value} {v : Value} (S : SF p m c cc nL s args RX9) (hK : KK D cI cB cZ s) (hP : va_P D vwCl ws H) (q0 : Nat) (he : ws[q0]? = some (a, .inr (10, fs))) (hv : fs[3]? = some v) (hdg : decode cc pc = .ok (.getfield 27, 3)) (kk : W p l e R s m args below meth c H locs cells slots Q (F0 m (pc + 3) ls (v :: rest))) : W p l e R s m args below meth c H locs cells slots Q (F0 m pc ls (.ref a :: rest)) :=
  va_get (C := RX9) (T := TX9) (N := 9) S.1 S.2.1 S.2.2.2.2 hin_RX9 S.2.2.2.1 hK.1 hP q0 he rfl 3 (by decide) (S.2.2.2.2 _ (wk1_3 11 rfl rfl)) (fun _ h9 => h9) hv hdg kk
set_option maxRecDepth 100000 in
theorem kV_RX9_51 : CalV RX9 51 yX9_run cX9_run 9 (some .int) 3 := ⟨⟨wk4_1 1 rfl rfl, wk4_1 3 rfl rfl, wT_sel 23 _ rfl rfl rfl, wk1_0 2 rfl rfl, wk4_1 4 rfl rfl⟩, ⟨nmh_10.1, nmh_10.2, pd_40⟩⟩
set_option maxRecDepth 100000 in
theorem gf_RX9_21 {p : Program} {l : Launch} {e : Env} {R : Room} {s : State} {m : MethodId} {args : Array Value} {below : List Frame} {meth : Method} {c : Code} {H : Heap} {locs : List Loc} {cells slots : Nat} {Q : State → Prop} {cc : ByteArray} {nL pc : Nat} {D : va_G} {cI cB cZ : ClassId} {ws : va_W} {rest : List Value} {ls : Array Slot} {a : Nat} {fs : List Value} {v : Value} (S : SF p m c cc nL s args RX9) (hK : KK D cI cB cZ s) (hP : va_P D vwCl ws H) (q0 : Nat) (he : ws[q0]? = some (a, .inr (10, fs))) (hv : fs[1]? = some v) (hdg : decode cc pc = .ok (.getfield 21, 3)) (kk : W p l e R s m args below meth c H locs cells slots Q (F0 m (pc + 3) ls (v :: rest))) : W p l e R s m args below meth c H locs cells slots Q (F0 m pc ls (.ref a :: rest)) :=
  va_get (C := RX9) (T := TX9) (N := 9) S.1 S.2.1 S.2.2.2.2 hin_RX9 S.2.2.2.1 hK.1 hP q0 he rfl 1 (by decide) (S.2.2.2.2 _ (wk1_3 9 rfl rfl)) (fun _ h9 => h9) hv hdg kk
set_option maxRecDepth 100000 in
theorem gf_RX11_40 {p : Program} {l : Launch} {e : Env} {R : Room} {s : State} {m : MethodId} {args : Array Value} {below : List Frame} {meth : Method} {c : Code} {H : Heap} {locs : List Loc} {cells slots : Nat} {Q : State → Prop} {cc : ByteArray} {nL pc : Nat} {D : va_G} {cI cB cZ : ClassId} {ws : va_W} {rest : List Value} {ls : Array Slot} {a : Nat} {fs : List Value} {v : Value} (S : SF p m c cc nL s args RX11) (hK : KK D cI cB cZ s) (hP : va_P D vwCl ws H) (q0 : Nat) (he : ws[q0]? = some (a, .inr (12, fs))) (hv : fs[7]? = some v) (hdg : decode cc pc = .ok (.getfield 40, 3)) (kk : W p l e R s m args below meth c H locs cells slots Q (F0 m (pc + 3) ls (v :: rest))) : W p l e R s m args below meth c H locs cells slots Q (F0 m pc ls (.ref a :: rest)) :=
  va_get (C := RX11) (T := TX11) (N := 16) S.1 S.2.1 S.2.2.2.2 hin_RX11 S.2.2.2.1 hK.1 hP q0 he rfl 7 (by decide) (S.2.2.2.2 _ (wk2_0 3 rfl rfl)) (fun _ h9 => h9) hv hdg kk
set_option maxRecDepth 100000 in
theorem kV_RX11_181 : CalV RX11 181 yJ0_indexOf_0f7a4 cJ0_indexOf_0f7a4 2 (some .int) 1 := ⟨⟨wk4_0 6 rfl rfl, wk3_7 6 rfl rfl, wk3_7 7 rfl rfl, wk1_0 6 rfl rfl, wk3_7 8 rfl rfl⟩, ⟨nmh_16.1, nmh_16.2, pd_8⟩⟩
set_option maxRecDepth 100000 in
theorem kV_RX11_188 : CalV RX11 188 yX11_letter cX11_letter 3 none 2 := ⟨⟨wk4_0 2 rfl rfl, wk4_0 4 rfl rfl, wT_sel 22 _ rfl rfl rfl, wk1_0 1 rfl rfl, wk4_0 5 rfl rfl⟩, ⟨nmh_0.1, nmh_0.2, pd_6⟩⟩
set_option maxRecDepth 100000 in
theorem kV_RX11_199 : CalV RX11 199 yX11_lettersOfDay cX11_lettersOfDay 2 none 1 := ⟨⟨wk3_19 10 rfl rfl, wk4_0 0 rfl rfl, wT_sel 21 _ rfl rfl rfl, wk1_0 1 rfl rfl, wk4_0 1 rfl rfl⟩, ⟨nmh_0.1, nmh_0.2, pd_14⟩⟩
set_option maxRecDepth 100000 in
theorem gf_RX11_208 {p : Program} {l : Launch} {e : Env} {R : Room} {s : State} {m : MethodId} {args : Array Value} {below : List Frame} {meth : Method} {c : Code} {H : Heap} {locs : List Loc} {cells slots : Nat} {Q : State → Prop} {cc : ByteArray} {nL pc : Nat} {D : va_G} {cI cB cZ : ClassId} {ws : va_W} {rest : List Value} {ls : Array Slot} {a : Nat} {fs : List Value} {v : Value} (S : SF p m c cc nL s args RX11) (hK : KK D cI cB cZ s) (hP : va_P D vwCl ws H) (q0 : Nat) (he : ws[q0]? = some (a, .inr (3, fs))) (hv : fs[4]? = some v) (hdg : decode cc pc = .ok (.getfield 208, 3)) (kk : W p l e R s m args below meth c H locs cells slots Q (F0 m (pc + 3) ls (v :: rest))) : W p l e R s m args below meth c H locs cells slots Q (F0 m pc ls (.ref a :: rest)) :=
  va_get (C := RX2) (T := TX2) (N := 10) S.1 S.2.1 S.2.2.2.2 hin_RX2 S.2.2.2.1 hK.1 hP q0 he rfl 4 (by decide) (S.2.2.2.2 _ (wk2_18 6 rfl rfl)) (fun _ h9 => h9) hv hdg kk
set_option maxRecDepth 100000 in
theorem gf_RX11_134 {p : Program} {l : Launch} {e : Env} {R : Room} {s : State} {m : MethodId} {args : Array Value} {below : List Frame} {meth : Method} {c : Code} {H : Heap} {locs : List Loc} {cells slots : Nat} {Q : State → Prop} {cc : ByteArray} {nL pc : Nat} {D : va_G} {cI cB cZ : ClassId} {ws : va_W} {rest : List Value} {ls : Array Slot} {a : Nat} {fs : List Value} {v : Value} (S : SF p m c cc nL s args RX11) (hK : KK D cI cB cZ s) (hP : va_P D vwCl ws H) (q0 : Nat) (he : ws[q0]? = some (a, .inr (3, fs))) (hv : fs[7]? = some v) (hdg : decode cc pc = .ok (.getfield 134, 3)) (kk : W p l e R s m args below meth c H locs cells slots Q (F0 m (pc + 3) ls (v :: rest))) : W p l e R s m args below meth c H locs cells slots Q (F0 m pc ls (.ref a :: rest)) :=
  va_get (C := RX2) (T := TX2) (N := 10) S.1 S.2.1 S.2.2.2.2 hin_RX2 S.2.2.2.1 hK.1 hP q0 he rfl 7 (by decide) (S.2.2.2.2 _ (wk2_18 10 rfl rfl)) (fun _ h9 => h9) hv hdg kk
set_option maxRecDepth 100000 in
theorem kV_RX11_214 : CalV RX11 214 yX11_lettersOfLoad cX11_lettersOfLoad 2 none 1 := ⟨⟨wk3_19 6 rfl rfl, wk3_19 8 rfl rfl, wT_sel 20 _ rfl rfl rfl, wk1_0 1 rfl rfl, wk3_19 9 rfl rfl⟩, ⟨nmh_0.1, nmh_0.2, pd_51⟩⟩
set_option maxRecDepth 100000 in
theorem kV_RX11_218 : CalV RX11 218 yX9_firstThat cX9_firstThat 5 (some .int) 2 := ⟨⟨wk4_0 9 rfl rfl, wk4_0 10 rfl rfl, wk4_0 11 rfl rfl, wk1_0 2 rfl rfl, wk4_1 0 rfl rfl⟩, ⟨nmh_10.1, nmh_10.2, pd_61⟩⟩
set_option maxRecDepth 100000 in
theorem kV_RX11_223 : CalV RX11 223 yX9_sum cX9_sum 3 (some .int) 2 := ⟨⟨wk4_3 3 rfl rfl, wk4_3 4 rfl rfl, wk4_3 5 rfl rfl, wk1_0 2 rfl rfl, wk4_3 6 rfl rfl⟩, ⟨nmh_10.1, nmh_10.2, pd_44⟩⟩
set_option maxRecDepth 100000 in
theorem kV_RX11_238 : CalV RX11 238 yX11_penceBy cX11_penceBy 4 (some .int) 2 := ⟨⟨wk3_19 2 rfl rfl, wk3_19 4 rfl rfl, wT_sel 19 _ rfl rfl rfl, wk1_0 1 rfl rfl, wk3_19 5 rfl rfl⟩, ⟨nmh_0.1, nmh_0.2, pd_56⟩⟩
set_option maxRecDepth 100000 in
theorem kV_RX11_242 : CalV RX11 242 yX11_penceTogether cX11_penceTogether 7 (some .int) 3 := ⟨⟨wk4_4 1 rfl rfl, wk4_4 3 rfl rfl, wT_sel 29 _ rfl rfl rfl, wk1_0 1 rfl rfl, wk4_4 4 rfl rfl⟩, ⟨nmh_0.1, nmh_0.2, pd_36⟩⟩
noncomputable def sxJ0_coder_7d493_15 : List UInt8 := []
theorem shJ0_coder_7d493_0 : cJ0_coder_7d493.data.toList.drop 0 = 178 :: 0 :: 38 :: 153 :: 0 :: 10 :: 42 :: 180 :: 0 :: 15 :: 167 :: 0 :: 4 :: 4 :: 172 :: sxJ0_coder_7d493_15 := rfl
noncomputable def sxJ0_isLatin1_aae02_19 : List UInt8 := []
theorem shJ0_isLatin1_aae02_0 : cJ0_isLatin1_aae02.data.toList.drop 0 = 178 :: 0 :: 38 :: 153 :: 0 :: 14 :: 42 :: 180 :: 0 :: 15 :: 154 :: 0 :: 7 :: 4 :: 167 :: 0 :: 4 :: 3 :: 172 :: sxJ0_isLatin1_aae02_19 := rfl
noncomputable def sxJ0_length_8abf5_11 : List UInt8 := []
theorem shJ0_length_8abf5_0 : cJ0_length_8abf5.data.toList.drop 0 = 42 :: 180 :: 0 :: 9 :: 190 :: 42 :: 182 :: 1 :: 79 :: 122 :: 172 :: sxJ0_length_8abf5_11 := rfl
noncomputable def sxJ1_canEncode_9a6ad_17 : List UInt8 := []
theorem shJ1_canEncode_9a6ad_0 : cJ1_canEncode_9a6ad.data.toList.drop 0 = 26 :: 155 :: 0 :: 14 :: 26 :: 17 :: 0 :: 255 :: 163 :: 0 :: 7 :: 4 :: 167 :: 0 :: 4 :: 3 :: 172 :: sxJ1_canEncode_9a6ad_17 := rfl
noncomputable def sxJ1_indexOfChar_4cfef_33 : List UInt8 := []
noncomputable def sxJ1_indexOfChar_4cfef_24 : List UInt8 := 172 :: 132 :: 5 :: 1 :: 167 :: 255 :: 235 :: 2 :: 172 :: sxJ1_indexOfChar_4cfef_33
theorem shJ1_indexOfChar_4cfef_0 : cJ1_indexOfChar_4cfef.data.toList.drop 0 = 27 :: 145 :: 54 :: 4 :: 28 :: 54 :: 5 :: 21 :: 5 :: 29 :: 162 :: 0 :: 21 :: 42 :: 21 :: 5 :: 51 :: 21 :: 4 :: 160 :: 0 :: 6 :: 21 :: 5 :: sxJ1_indexOfChar_4cfef_24 := rfl
theorem shJ1_indexOfChar_4cfef_24 : cJ1_indexOfChar_4cfef.data.toList.drop 24 = 172 :: 132 :: 5 :: 1 :: 167 :: 255 :: 235 :: 2 :: 172 :: sxJ1_indexOfChar_4cfef_33 := aq_24 shJ1_indexOfChar_4cfef_0
noncomputable def sxJ1_indexOf_4cfef_37 : List UInt8 := []
noncomputable def sxJ1_indexOf_4cfef_24 : List UInt8 := 161 :: 0 :: 5 :: 2 :: 172 :: 42 :: 27 :: 28 :: 29 :: 184 :: 0 :: 95 :: 172 :: sxJ1_indexOf_4cfef_37
theorem shJ1_indexOf_4cfef_0 : cJ1_indexOf_4cfef.data.toList.drop 0 = 27 :: 184 :: 0 :: 88 :: 154 :: 0 :: 5 :: 2 :: 172 :: 28 :: 3 :: 184 :: 0 :: 92 :: 61 :: 29 :: 42 :: 190 :: 184 :: 0 :: 38 :: 62 :: 28 :: 29 :: sxJ1_indexOf_4cfef_24 := rfl
theorem shJ1_indexOf_4cfef_24 : cJ1_indexOf_4cfef.data.toList.drop 24 = 161 :: 0 :: 5 :: 2 :: 172 :: 42 :: 27 :: 28 :: 29 :: 184 :: 0 :: 95 :: 172 :: sxJ1_indexOf_4cfef_37 := aq_24 shJ1_indexOf_4cfef_0
noncomputable def sxJ0_indexOf_7cf53_37 : List UInt8 := []
noncomputable def sxJ0_indexOf_7cf53_24 : List UInt8 := 180 :: 0 :: 9 :: 27 :: 28 :: 42 :: 182 :: 1 :: 249 :: 184 :: 2 :: 128 :: 172 :: sxJ0_indexOf_7cf53_37
theorem shJ0_indexOf_7cf53_0 : cJ0_indexOf_7cf53.data.toList.drop 0 = 42 :: 182 :: 1 :: 236 :: 153 :: 0 :: 19 :: 42 :: 180 :: 0 :: 9 :: 27 :: 28 :: 42 :: 182 :: 1 :: 249 :: 184 :: 2 :: 125 :: 167 :: 0 :: 16 :: 42 :: sxJ0_indexOf_7cf53_24 := rfl
theorem shJ0_indexOf_7cf53_24 : cJ0_indexOf_7cf53.data.toList.drop 24 = 180 :: 0 :: 9 :: 27 :: 28 :: 42 :: 182 :: 1 :: 249 :: 184 :: 2 :: 128 :: 172 :: sxJ0_indexOf_7cf53_37 := aq_24 shJ0_indexOf_7cf53_0
noncomputable def sxJ0_indexOf_0f7a4_7 : List UInt8 := []
theorem shJ0_indexOf_0f7a4_0 : cJ0_indexOf_0f7a4.data.toList.drop 0 = 42 :: 27 :: 3 :: 182 :: 2 :: 121 :: 172 :: sxJ0_indexOf_0f7a4_7 := rfl
noncomputable def sxX9_push_40 : List UInt8 := []
noncomputable def sxX9_push_24 : List UInt8 := 180 :: 0 :: 55 :: 27 :: 79 :: 42 :: 89 :: 180 :: 0 :: 55 :: 4 :: 96 :: 181 :: 0 :: 55 :: 177 :: sxX9_push_40
theorem shX9_push_0 : cX9_push.data.toList.drop 0 = 42 :: 180 :: 0 :: 55 :: 155 :: 0 :: 35 :: 42 :: 180 :: 0 :: 55 :: 42 :: 180 :: 0 :: 30 :: 190 :: 162 :: 0 :: 23 :: 42 :: 180 :: 0 :: 30 :: 42 :: sxX9_push_24 := rfl
theorem shX9_push_24 : cX9_push.data.toList.drop 24 = 180 :: 0 :: 55 :: 27 :: 79 :: 42 :: 89 :: 180 :: 0 :: 55 :: 4 :: 96 :: 181 :: 0 :: 55 :: 177 :: sxX9_push_40 := aq_24 shX9_push_0
noncomputable def sxX9_pop_41 : List UInt8 := []
noncomputable def sxX9_pop_26 : List UInt8 := 4 :: 100 :: 181 :: 0 :: 55 :: 42 :: 180 :: 0 :: 30 :: 42 :: 180 :: 0 :: 55 :: 46 :: 172 :: sxX9_pop_41
theorem shX9_pop_0 : cX9_pop.data.toList.drop 0 = 42 :: 180 :: 0 :: 55 :: 158 :: 0 :: 15 :: 42 :: 180 :: 0 :: 55 :: 42 :: 180 :: 0 :: 30 :: 190 :: 164 :: 0 :: 5 :: 3 :: 172 :: 42 :: 89 :: 180 :: 0 :: 55 :: sxX9_pop_26 := rfl
theorem shX9_pop_26 : cX9_pop.data.toList.drop 26 = 4 :: 100 :: 181 :: 0 :: 55 :: 42 :: 180 :: 0 :: 30 :: 42 :: 180 :: 0 :: 55 :: 46 :: 172 :: sxX9_pop_41 := aq_26 shX9_pop_0
noncomputable def sxX9_decided_19 : List UInt8 := []
theorem shX9_decided_0 : cX9_decided.data.toList.drop 0 = 42 :: 182 :: 0 :: 67 :: 61 :: 28 :: 27 :: 159 :: 0 :: 5 :: 3 :: 172 :: 42 :: 28 :: 182 :: 0 :: 63 :: 4 :: 172 :: sxX9_decided_19 := rfl
noncomputable def sxX9_divide_27 : List UInt8 := []
noncomputable def sxX9_divide_24 : List UInt8 := 29 :: 112 :: 172 :: sxX9_divide_27
theorem shX9_divide_0 : cX9_divide.data.toList.drop 0 = 29 :: 154 :: 0 :: 10 :: 42 :: 4 :: 181 :: 0 :: 58 :: 3 :: 172 :: 27 :: 16 :: 6 :: 160 :: 0 :: 9 :: 28 :: 29 :: 108 :: 167 :: 0 :: 6 :: 28 :: sxX9_divide_24 := rfl
theorem shX9_divide_24 : cX9_divide.data.toList.drop 24 = 29 :: 112 :: 172 :: sxX9_divide_27 := aq_24 shX9_divide_0
noncomputable def sxX9_reckon_101 : List UInt8 := []
noncomputable def sxX9_reckon_96 : List UInt8 := 29 :: 182 :: 0 :: 79 :: 172 :: sxX9_reckon_101
noncomputable def sxX9_reckon_72 : List UInt8 := 29 :: 164 :: 0 :: 7 :: 4 :: 167 :: 0 :: 4 :: 3 :: 172 :: 28 :: 29 :: 160 :: 0 :: 7 :: 4 :: 167 :: 0 :: 4 :: 3 :: 172 :: 42 :: 27 :: 28 :: sxX9_reckon_96
noncomputable def sxX9_reckon_48 : List UInt8 := 28 :: 29 :: 96 :: 172 :: 28 :: 29 :: 100 :: 172 :: 28 :: 29 :: 104 :: 172 :: 28 :: 29 :: 162 :: 0 :: 7 :: 4 :: 167 :: 0 :: 4 :: 3 :: 172 :: 28 :: sxX9_reckon_72
theorem shX9_reckon_0 : cX9_reckon.data.toList.drop 0 = 27 :: 170 :: 0 :: 0 :: 0 :: 0 :: 0 :: 92 :: 0 :: 0 :: 0 :: 3 :: 0 :: 0 :: 0 :: 10 :: 0 :: 0 :: 0 :: 47 :: 0 :: 0 :: 0 :: 51 :: 0 :: 0 :: 0 :: 55 :: 0 :: 0 :: 0 :: 92 :: 0 :: 0 :: 0 :: 92 :: 0 :: 0 :: 0 :: 59 :: 0 :: 0 :: 0 :: 70 :: 0 :: 0 :: 0 :: 81 :: sxX9_reckon_48 := rfl
theorem shX9_reckon_48 : cX9_reckon.data.toList.drop 48 = 28 :: 29 :: 96 :: 172 :: 28 :: 29 :: 100 :: 172 :: 28 :: 29 :: 104 :: 172 :: 28 :: 29 :: 162 :: 0 :: 7 :: 4 :: 167 :: 0 :: 4 :: 3 :: 172 :: 28 :: sxX9_reckon_72 := dSn 48 shX9_reckon_0
theorem shX9_reckon_72 : cX9_reckon.data.toList.drop 72 = 29 :: 164 :: 0 :: 7 :: 4 :: 167 :: 0 :: 4 :: 3 :: 172 :: 28 :: 29 :: 160 :: 0 :: 7 :: 4 :: 167 :: 0 :: 4 :: 3 :: 172 :: 42 :: 27 :: 28 :: sxX9_reckon_96 := aq_24 shX9_reckon_48
theorem shX9_reckon_96 : cX9_reckon.data.toList.drop 96 = 29 :: 182 :: 0 :: 79 :: 172 :: sxX9_reckon_101 := aq_24 shX9_reckon_72
theorem dX9_reckon_1 : decode cX9_reckon 1 = .ok (.tableswitch 92 3 10 #[47, 51, 55, 92, 92, 59, 70, 81], 47) := by decide +kernel
theorem dX9_reckon_93 : decode cX9_reckon 93 = .ok (.aload_n 0, 1) := oc_42 93 (aq_21 shX9_reckon_72)
theorem dX9_reckon_94 : decode cX9_reckon 94 = .ok (.iload_n 1, 1) := oc_27 94 (aq_22 shX9_reckon_72)
theorem dX9_reckon_95 : decode cX9_reckon 95 = .ok (.iload_n 2, 1) := oc_28 95 (aq_23 shX9_reckon_72)
theorem dX9_reckon_96 : decode cX9_reckon 96 = .ok (.iload_n 3, 1) := oc_29 96 shX9_reckon_96
theorem dX9_reckon_97 : decode cX9_reckon 97 = .ok (.invokevirtual 79, 3) := oc_182 97 (aq_1 shX9_reckon_96) uw_0_79
theorem dX9_reckon_100 : decode cX9_reckon 100 = .ok (.ireturn, 1) := oc_172 100 (aq_4 shX9_reckon_96)
noncomputable def sxX9_run_254 : List UInt8 := []
noncomputable def sxX9_run_251 : List UInt8 := 21 :: 5 :: 172 :: sxX9_run_254
noncomputable def sxX9_run_225 : List UInt8 := 182 :: 0 :: 63 :: 132 :: 5 :: 1 :: 167 :: 255 :: 41 :: 42 :: 182 :: 0 :: 67 :: 54 :: 5 :: 42 :: 180 :: 0 :: 58 :: 153 :: 0 :: 7 :: 3 :: 167 :: 0 :: 5 :: sxX9_run_251
noncomputable def sxX9_run_200 : List UInt8 := 167 :: 0 :: 28 :: 42 :: 182 :: 0 :: 67 :: 54 :: 8 :: 42 :: 42 :: 21 :: 6 :: 16 :: 20 :: 122 :: 42 :: 182 :: 0 :: 67 :: 21 :: 8 :: 182 :: 0 :: 75 :: sxX9_run_225
noncomputable def sxX9_run_176 : List UInt8 := 21 :: 4 :: 54 :: 4 :: 167 :: 0 :: 48 :: 42 :: 4 :: 182 :: 0 :: 71 :: 153 :: 0 :: 8 :: 21 :: 7 :: 167 :: 0 :: 5 :: 21 :: 4 :: 54 :: 4 :: sxX9_run_200
noncomputable def sxX9_run_152 : List UInt8 := 42 :: 182 :: 0 :: 67 :: 100 :: 182 :: 0 :: 63 :: 167 :: 0 :: 68 :: 42 :: 3 :: 182 :: 0 :: 71 :: 153 :: 0 :: 8 :: 21 :: 7 :: 167 :: 0 :: 5 :: sxX9_run_176
noncomputable def sxX9_run_128 : List UInt8 := 42 :: 21 :: 7 :: 182 :: 0 :: 63 :: 167 :: 0 :: 94 :: 42 :: 45 :: 21 :: 7 :: 184 :: 0 :: 37 :: 182 :: 0 :: 63 :: 167 :: 0 :: 81 :: 42 :: 4 :: sxX9_run_152
noncomputable def sxX9_run_50 : List UInt8 := 21 :: 6 :: 18 :: 62 :: 126 :: 54 :: 7 :: 21 :: 6 :: 16 :: 20 :: 122 :: 170 :: 0 :: 0 :: 0 :: 0 :: 141 :: 0 :: 0 :: 0 :: 1 :: 0 :: 0 :: 0 :: 13 :: 0 :: 0 :: 0 :: 66 :: 0 :: 0 :: 0 :: 75 :: 0 :: 0 :: 0 :: 141 :: 0 :: 0 :: 0 :: 141 :: 0 :: 0 :: 0 :: 141 :: 0 :: 0 :: 0 :: 141 :: 0 :: 0 :: 0 :: 141 :: 0 :: 0 :: 0 :: 141 :: 0 :: 0 :: 0 :: 141 :: 0 :: 0 :: 0 :: 141 :: 0 :: 0 :: 0 :: 88 :: 0 :: 0 :: 0 :: 101 :: 0 :: 0 :: 0 :: 121 :: sxX9_run_128
noncomputable def sxX9_run_26 : List UInt8 := 154 :: 0 :: 208 :: 21 :: 5 :: 21 :: 4 :: 162 :: 0 :: 6 :: 167 :: 0 :: 192 :: 42 :: 180 :: 0 :: 17 :: 21 :: 5 :: 184 :: 0 :: 37 :: 54 :: 6 :: sxX9_run_50
theorem shX9_run_0 : cX9_run.data.toList.drop 0 = 42 :: 3 :: 181 :: 0 :: 55 :: 42 :: 3 :: 181 :: 0 :: 58 :: 27 :: 54 :: 4 :: 27 :: 54 :: 5 :: 21 :: 5 :: 28 :: 162 :: 0 :: 215 :: 42 :: 180 :: 0 :: 58 :: sxX9_run_26 := rfl
theorem shX9_run_26 : cX9_run.data.toList.drop 26 = 154 :: 0 :: 208 :: 21 :: 5 :: 21 :: 4 :: 162 :: 0 :: 6 :: 167 :: 0 :: 192 :: 42 :: 180 :: 0 :: 17 :: 21 :: 5 :: 184 :: 0 :: 37 :: 54 :: 6 :: sxX9_run_50 := aq_26 shX9_run_0
theorem shX9_run_50 : cX9_run.data.toList.drop 50 = 21 :: 6 :: 18 :: 62 :: 126 :: 54 :: 7 :: 21 :: 6 :: 16 :: 20 :: 122 :: 170 :: 0 :: 0 :: 0 :: 0 :: 141 :: 0 :: 0 :: 0 :: 1 :: 0 :: 0 :: 0 :: 13 :: 0 :: 0 :: 0 :: 66 :: 0 :: 0 :: 0 :: 75 :: 0 :: 0 :: 0 :: 141 :: 0 :: 0 :: 0 :: 141 :: 0 :: 0 :: 0 :: 141 :: 0 :: 0 :: 0 :: 141 :: 0 :: 0 :: 0 :: 141 :: 0 :: 0 :: 0 :: 141 :: 0 :: 0 :: 0 :: 141 :: 0 :: 0 :: 0 :: 141 :: 0 :: 0 :: 0 :: 88 :: 0 :: 0 :: 0 :: 101 :: 0 :: 0 :: 0 :: 121 :: sxX9_run_128 := aq_24 shX9_run_26
theorem shX9_run_128 : cX9_run.data.toList.drop 128 = 42 :: 21 :: 7 :: 182 :: 0 :: 63 :: 167 :: 0 :: 94 :: 42 :: 45 :: 21 :: 7 :: 184 :: 0 :: 37 :: 182 :: 0 :: 63 :: 167 :: 0 :: 81 :: 42 :: 4 :: sxX9_run_152 := dSn 78 shX9_run_50
theorem shX9_run_152 : cX9_run.data.toList.drop 152 = 42 :: 182 :: 0 :: 67 :: 100 :: 182 :: 0 :: 63 :: 167 :: 0 :: 68 :: 42 :: 3 :: 182 :: 0 :: 71 :: 153 :: 0 :: 8 :: 21 :: 7 :: 167 :: 0 :: 5 :: sxX9_run_176 := aq_24 shX9_run_128
theorem shX9_run_176 : cX9_run.data.toList.drop 176 = 21 :: 4 :: 54 :: 4 :: 167 :: 0 :: 48 :: 42 :: 4 :: 182 :: 0 :: 71 :: 153 :: 0 :: 8 :: 21 :: 7 :: 167 :: 0 :: 5 :: 21 :: 4 :: 54 :: 4 :: sxX9_run_200 := aq_24 shX9_run_152
theorem shX9_run_200 : cX9_run.data.toList.drop 200 = 167 :: 0 :: 28 :: 42 :: 182 :: 0 :: 67 :: 54 :: 8 :: 42 :: 42 :: 21 :: 6 :: 16 :: 20 :: 122 :: 42 :: 182 :: 0 :: 67 :: 21 :: 8 :: 182 :: 0 :: 75 :: sxX9_run_225 := aq_24 shX9_run_176
theorem shX9_run_225 : cX9_run.data.toList.drop 225 = 182 :: 0 :: 63 :: 132 :: 5 :: 1 :: 167 :: 255 :: 41 :: 42 :: 182 :: 0 :: 67 :: 54 :: 5 :: 42 :: 180 :: 0 :: 58 :: 153 :: 0 :: 7 :: 3 :: 167 :: 0 :: 5 :: sxX9_run_251 := aq_25 shX9_run_200
theorem shX9_run_251 : cX9_run.data.toList.drop 251 = 21 :: 5 :: 172 :: sxX9_run_254 := aq_26 shX9_run_225
theorem dX9_run_253 : decode cX9_run 253 = .ok (.ireturn, 1) := oc_172 253 (aq_2 shX9_run_251)
theorem dX9_run_62 : decode cX9_run 62 = .ok (.tableswitch 141 1 13 #[66, 75, 141, 141, 141, 141, 141, 141, 141, 141, 88, 101, 121], 66) := by decide +kernel
theorem dX9_run_203 : decode cX9_run 203 = .ok (.aload_n 0, 1) := oc_42 203 (aq_3 shX9_run_200)
theorem dX9_run_204 : decode cX9_run 204 = .ok (.invokevirtual 67, 3) := oc_182 204 (aq_4 shX9_run_200) uw_0_67
theorem dX9_run_207 : decode cX9_run 207 = .ok (.istore 8, 2) := oc_54 207 (aq_7 shX9_run_200) ub_8
theorem dX9_run_209 : decode cX9_run 209 = .ok (.aload_n 0, 1) := oc_42 209 (aq_9 shX9_run_200)
theorem dX9_run_210 : decode cX9_run 210 = .ok (.aload_n 0, 1) := oc_42 210 (aq_10 shX9_run_200)
theorem dX9_run_211 : decode cX9_run 211 = .ok (.iload 6, 2) := oc_21 211 (aq_11 shX9_run_200) ub_6
theorem dX9_run_213 : decode cX9_run 213 = .ok (.bipush 20, 2) := oc_16 213 (aq_13 shX9_run_200) sgb_20
theorem dX9_run_215 : decode cX9_run 215 = .ok (.ishr, 1) := oc_122 215 (aq_15 shX9_run_200)
theorem dX9_run_216 : decode cX9_run 216 = .ok (.aload_n 0, 1) := oc_42 216 (aq_16 shX9_run_200)
theorem dX9_run_217 : decode cX9_run 217 = .ok (.invokevirtual 67, 3) := oc_182 217 (aq_17 shX9_run_200) uw_0_67
theorem dX9_run_220 : decode cX9_run 220 = .ok (.iload 8, 2) := oc_21 220 (aq_20 shX9_run_200) ub_8
theorem dX9_run_222 : decode cX9_run 222 = .ok (.invokevirtual 75, 3) := oc_182 222 (aq_22 shX9_run_200) uw_0_75
theorem dX9_run_225 : decode cX9_run 225 = .ok (.invokevirtual 63, 3) := oc_182 225 shX9_run_225 uw_0_63
theorem dX9_run_228 : decode cX9_run 228 = .ok (.iinc 5 1, 3) := oc_132 228 (aq_3 shX9_run_225) ub_5 sgb_1
theorem dX9_run_231 : decode cX9_run 231 = .ok (.goto (-215), 3) := oc_167 231 (aq_6 shX9_run_225) sgw_255_41
noncomputable def sxX9_firstThat_57 : List UInt8 := []
noncomputable def sxX9_firstThat_48 : List UInt8 := 172 :: 132 :: 3 :: 1 :: 167 :: 255 :: 206 :: 2 :: 172 :: sxX9_firstThat_57
noncomputable def sxX9_firstThat_24 : List UInt8 := 180 :: 0 :: 27 :: 29 :: 184 :: 0 :: 37 :: 44 :: 182 :: 0 :: 51 :: 153 :: 0 :: 7 :: 4 :: 167 :: 0 :: 4 :: 3 :: 27 :: 160 :: 0 :: 5 :: 29 :: sxX9_firstThat_48
theorem shX9_firstThat_0 : cX9_firstThat.data.toList.drop 0 = 3 :: 62 :: 29 :: 42 :: 180 :: 0 :: 48 :: 162 :: 0 :: 48 :: 42 :: 180 :: 0 :: 24 :: 29 :: 184 :: 0 :: 37 :: 54 :: 4 :: 42 :: 21 :: 4 :: 42 :: sxX9_firstThat_24 := rfl
theorem shX9_firstThat_24 : cX9_firstThat.data.toList.drop 24 = 180 :: 0 :: 27 :: 29 :: 184 :: 0 :: 37 :: 44 :: 182 :: 0 :: 51 :: 153 :: 0 :: 7 :: 4 :: 167 :: 0 :: 4 :: 3 :: 27 :: 160 :: 0 :: 5 :: 29 :: sxX9_firstThat_48 := aq_24 shX9_firstThat_0
theorem shX9_firstThat_48 : cX9_firstThat.data.toList.drop 48 = 172 :: 132 :: 3 :: 1 :: 167 :: 255 :: 206 :: 2 :: 172 :: sxX9_firstThat_57 := aq_24 shX9_firstThat_24
noncomputable def sxX9_sum_22 : List UInt8 := []
theorem shX9_sum_0 : cX9_sum.data.toList.drop 0 = 42 :: 42 :: 180 :: 0 :: 21 :: 27 :: 184 :: 0 :: 37 :: 42 :: 180 :: 0 :: 24 :: 27 :: 184 :: 0 :: 37 :: 44 :: 182 :: 0 :: 51 :: 172 :: sxX9_sum_22 := rfl
noncomputable def sxX11_letter_15 : List UInt8 := []
theorem shX11_letter_0 : cX11_letter.data.toList.drop 0 = 42 :: 180 :: 0 :: 40 :: 18 :: 32 :: 27 :: 182 :: 0 :: 181 :: 28 :: 184 :: 0 :: 184 :: 177 :: sxX11_letter_15 := rfl
noncomputable def sxX11_lettersOfDay_48 : List UInt8 := []
noncomputable def sxX11_lettersOfDay_24 : List UInt8 := 182 :: 0 :: 188 :: 42 :: 16 :: 111 :: 42 :: 180 :: 0 :: 47 :: 180 :: 0 :: 174 :: 27 :: 16 :: 7 :: 108 :: 184 :: 0 :: 192 :: 182 :: 0 :: 188 :: 177 :: sxX11_lettersOfDay_48
theorem shX11_lettersOfDay_0 : cX11_lettersOfDay.data.toList.drop 0 = 42 :: 16 :: 100 :: 27 :: 182 :: 0 :: 188 :: 42 :: 16 :: 119 :: 27 :: 16 :: 7 :: 108 :: 182 :: 0 :: 188 :: 42 :: 16 :: 103 :: 27 :: 16 :: 7 :: 112 :: sxX11_lettersOfDay_24 := rfl
theorem shX11_lettersOfDay_24 : cX11_lettersOfDay.data.toList.drop 24 = 182 :: 0 :: 188 :: 42 :: 16 :: 111 :: 42 :: 180 :: 0 :: 47 :: 180 :: 0 :: 174 :: 27 :: 16 :: 7 :: 108 :: 184 :: 0 :: 192 :: 182 :: 0 :: 188 :: 177 :: sxX11_lettersOfDay_48 := aq_24 shX11_lettersOfDay_0
noncomputable def sxX11_lettersOfLoad_76 : List UInt8 := []
noncomputable def sxX11_lettersOfLoad_75 : List UInt8 := 177 :: sxX11_lettersOfLoad_76
noncomputable def sxX11_lettersOfLoad_49 : List UInt8 := 16 :: 109 :: 43 :: 180 :: 0 :: 141 :: 182 :: 0 :: 188 :: 42 :: 16 :: 115 :: 43 :: 180 :: 0 :: 134 :: 182 :: 0 :: 188 :: 42 :: 16 :: 110 :: 3 :: 182 :: 0 :: 188 :: sxX11_lettersOfLoad_75
noncomputable def sxX11_lettersOfLoad_25 : List UInt8 := 182 :: 0 :: 188 :: 42 :: 16 :: 97 :: 43 :: 180 :: 0 :: 208 :: 182 :: 0 :: 188 :: 42 :: 16 :: 107 :: 43 :: 180 :: 0 :: 211 :: 182 :: 0 :: 188 :: 42 :: sxX11_lettersOfLoad_49
theorem shX11_lettersOfLoad_0 : cX11_lettersOfLoad.data.toList.drop 0 = 42 :: 43 :: 180 :: 0 :: 196 :: 182 :: 0 :: 199 :: 42 :: 16 :: 113 :: 43 :: 180 :: 0 :: 202 :: 182 :: 0 :: 188 :: 42 :: 16 :: 102 :: 43 :: 180 :: 0 :: 205 :: sxX11_lettersOfLoad_25 := rfl
theorem shX11_lettersOfLoad_25 : cX11_lettersOfLoad.data.toList.drop 25 = 182 :: 0 :: 188 :: 42 :: 16 :: 97 :: 43 :: 180 :: 0 :: 208 :: 182 :: 0 :: 188 :: 42 :: 16 :: 107 :: 43 :: 180 :: 0 :: 211 :: 182 :: 0 :: 188 :: 42 :: sxX11_lettersOfLoad_49 := aq_25 shX11_lettersOfLoad_0
theorem shX11_lettersOfLoad_49 : cX11_lettersOfLoad.data.toList.drop 49 = 16 :: 109 :: 43 :: 180 :: 0 :: 141 :: 182 :: 0 :: 188 :: 42 :: 16 :: 115 :: 43 :: 180 :: 0 :: 134 :: 182 :: 0 :: 188 :: 42 :: 16 :: 110 :: 3 :: 182 :: 0 :: 188 :: sxX11_lettersOfLoad_75 := aq_24 shX11_lettersOfLoad_25
theorem shX11_lettersOfLoad_75 : cX11_lettersOfLoad.data.toList.drop 75 = 177 :: sxX11_lettersOfLoad_76 := aq_26 shX11_lettersOfLoad_49
noncomputable def sxX11_lettersOfLaw_30 : List UInt8 := []
noncomputable def sxX11_lettersOfLaw_25 : List UInt8 := 3 :: 182 :: 0 :: 188 :: 177 :: sxX11_lettersOfLaw_30
theorem shX11_lettersOfLaw_0 : cX11_lettersOfLaw.data.toList.drop 0 = 42 :: 42 :: 180 :: 0 :: 103 :: 182 :: 0 :: 199 :: 42 :: 16 :: 107 :: 3 :: 182 :: 0 :: 188 :: 42 :: 16 :: 109 :: 3 :: 182 :: 0 :: 188 :: 42 :: 16 :: 115 :: sxX11_lettersOfLaw_25 := rfl
theorem shX11_lettersOfLaw_25 : cX11_lettersOfLaw.data.toList.drop 25 = 3 :: 182 :: 0 :: 188 :: 177 :: sxX11_lettersOfLaw_30 := aq_25 shX11_lettersOfLaw_0
noncomputable def sxX11_penceBy_43 : List UInt8 := []
noncomputable def sxX11_penceBy_24 : List UInt8 := 3 :: 18 :: 222 :: 43 :: 29 :: 42 :: 180 :: 0 :: 40 :: 182 :: 0 :: 223 :: 184 :: 0 :: 227 :: 184 :: 0 :: 232 :: 172 :: sxX11_penceBy_43
theorem shX11_penceBy_0 : cX11_penceBy.data.toList.drop 0 = 42 :: 44 :: 182 :: 0 :: 214 :: 43 :: 4 :: 42 :: 180 :: 0 :: 40 :: 182 :: 0 :: 218 :: 62 :: 29 :: 2 :: 160 :: 0 :: 7 :: 3 :: 167 :: 0 :: 21 :: sxX11_penceBy_24 := rfl
theorem shX11_penceBy_24 : cX11_penceBy.data.toList.drop 24 = 3 :: 18 :: 222 :: 43 :: 29 :: 42 :: 180 :: 0 :: 40 :: 182 :: 0 :: 223 :: 184 :: 0 :: 227 :: 184 :: 0 :: 232 :: 172 :: sxX11_penceBy_43 := aq_24 shX11_penceBy_0
noncomputable def sxX11_penceTogether_71 : List UInt8 := []
noncomputable def sxX11_penceTogether_50 : List UInt8 := 21 :: 4 :: 42 :: 45 :: 25 :: 6 :: 182 :: 0 :: 238 :: 96 :: 54 :: 4 :: 132 :: 5 :: 1 :: 167 :: 255 :: 197 :: 21 :: 4 :: 172 :: sxX11_penceTogether_71
noncomputable def sxX11_penceTogether_24 : List UInt8 := 182 :: 0 :: 87 :: 192 :: 0 :: 93 :: 58 :: 6 :: 25 :: 6 :: 180 :: 0 :: 211 :: 27 :: 160 :: 0 :: 24 :: 25 :: 6 :: 180 :: 0 :: 235 :: 28 :: 163 :: 0 :: 15 :: sxX11_penceTogether_50
theorem shX11_penceTogether_0 : cX11_penceTogether.data.toList.drop 0 = 3 :: 54 :: 4 :: 3 :: 54 :: 5 :: 21 :: 5 :: 42 :: 180 :: 0 :: 65 :: 182 :: 0 :: 84 :: 162 :: 0 :: 53 :: 42 :: 180 :: 0 :: 65 :: 21 :: 5 :: sxX11_penceTogether_24 := rfl
theorem shX11_penceTogether_24 : cX11_penceTogether.data.toList.drop 24 = 182 :: 0 :: 87 :: 192 :: 0 :: 93 :: 58 :: 6 :: 25 :: 6 :: 180 :: 0 :: 211 :: 27 :: 160 :: 0 :: 24 :: 25 :: 6 :: 180 :: 0 :: 235 :: 28 :: 163 :: 0 :: 15 :: sxX11_penceTogether_50 := aq_24 shX11_penceTogether_0
theorem shX11_penceTogether_50 : cX11_penceTogether.data.toList.drop 50 = 21 :: 4 :: 42 :: 45 :: 25 :: 6 :: 182 :: 0 :: 238 :: 96 :: 54 :: 4 :: 132 :: 5 :: 1 :: 167 :: 255 :: 197 :: 21 :: 4 :: 172 :: sxX11_penceTogether_71 := aq_26 shX11_penceTogether_24
noncomputable def sxX11_pence_45 : List UInt8 := []
noncomputable def sxX11_pence_24 : List UInt8 := 198 :: 0 :: 7 :: 45 :: 199 :: 0 :: 7 :: 2 :: 167 :: 0 :: 12 :: 42 :: 45 :: 180 :: 0 :: 168 :: 44 :: 182 :: 0 :: 238 :: 172 :: sxX11_pence_45
theorem shX11_pence_0 : cX11_pence.data.toList.drop 0 = 42 :: 27 :: 182 :: 0 :: 148 :: 77 :: 44 :: 199 :: 0 :: 7 :: 1 :: 167 :: 0 :: 11 :: 42 :: 44 :: 180 :: 0 :: 211 :: 182 :: 0 :: 114 :: 78 :: 44 :: sxX11_pence_24 := rfl
theorem shX11_pence_24 : cX11_pence.data.toList.drop 24 = 198 :: 0 :: 7 :: 45 :: 199 :: 0 :: 7 :: 2 :: 167 :: 0 :: 12 :: 42 :: 45 :: 180 :: 0 :: 168 :: 44 :: 182 :: 0 :: 238 :: 172 :: sxX11_pence_45 := aq_24 shX11_pence_0
noncomputable def sxX11_paid_32 : List UInt8 := []
noncomputable def sxX11_paid_24 : List UInt8 := 45 :: 180 :: 0 :: 168 :: 182 :: 0 :: 242 :: 172 :: sxX11_paid_32
theorem shX11_paid_0 : cX11_paid.data.toList.drop 0 = 42 :: 27 :: 182 :: 0 :: 114 :: 78 :: 45 :: 198 :: 0 :: 10 :: 28 :: 184 :: 0 :: 99 :: 154 :: 0 :: 7 :: 2 :: 167 :: 0 :: 13 :: 42 :: 27 :: 28 :: sxX11_paid_24 := rfl
theorem shX11_paid_24 : cX11_paid.data.toList.drop 24 = 45 :: 180 :: 0 :: 168 :: 182 :: 0 :: 242 :: 172 :: sxX11_paid_32 := aq_24 shX11_paid_0
noncomputable def sxX11_asIf_35 : List UInt8 := []
noncomputable def sxX11_asIf_24 : List UInt8 := 17 :: 1 :: 143 :: 45 :: 180 :: 0 :: 168 :: 182 :: 0 :: 242 :: 172 :: sxX11_asIf_35
theorem shX11_asIf_0 : cX11_asIf.data.toList.drop 0 = 42 :: 28 :: 182 :: 0 :: 114 :: 78 :: 42 :: 27 :: 182 :: 0 :: 114 :: 198 :: 0 :: 7 :: 45 :: 199 :: 0 :: 7 :: 2 :: 167 :: 0 :: 15 :: 42 :: 27 :: sxX11_asIf_24 := rfl
theorem shX11_asIf_24 : cX11_asIf.data.toList.drop 24 = 17 :: 1 :: 143 :: 45 :: 180 :: 0 :: 168 :: 182 :: 0 :: 242 :: 172 :: sxX11_asIf_35 := aq_24 shX11_asIf_0
theorem dX11_asIf_11 : decode cX11_asIf 11 = .ok (.ifnull 7, 3) := oc_198 11 (aq_11 shX11_asIf_0) sgw_0_7
theorem dX11_asIf_34 : decode cX11_asIf 34 = .ok (.ireturn, 1) := oc_172 34 (aq_10 shX11_asIf_24)
set_option maxRecDepth 100000 in
set_option maxHeartbeats 4000000 in
theorem q_s_coder (l : Launch) (D : va_G) (cI cB cZ : ClassId) (zz qq vv : Nat) (bt : Nat → Int32)  : Met l yJ0_coder_7d493 (CWS yJ0_coder_7d493 cJ0_coder_7d493 1 (some .byte)) (RM 0 0 0) (PBrx [.ref qq] D cI cB cZ zz qq vv bt []) (vp_Si (fun r => r = 0)) 0 0 (fun _ => False) := by
  refine en_rx rfl pn_RJ0 (Nat.le_of_ble_eq_true rfl) (fun p e s m below meth c hx hb hml hown S hr hlocks hnm hP hK hXS hS ls hl => ?_)
  have hP : va_P D vwCl [] s.heap := hP
  have hl : lv_has ls 1 [(0, .ref qq)] := hl
  refine va_gets hx hb hXS.1 hS hown (S.2.2.2.2 _ (wk1_10 6 rfl rfl)) (fun _ h9 => h9) (oc_178 0 shJ0_coder_7d493_0 uw_0_38) ?_
  refine lv_if_eq (tgt := 13) hx hb (oc_153 3 (aq_3 shJ0_coder_7d493_0) sgw_0_10) rfl (fun h => absurd h cq_eq_1_0) (fun _ => ?_)
  refine lv_aload_n hx hb (oc_42 6 (aq_6 shJ0_coder_7d493_0)) rfl (lvA0 hl) ?_
  refine vk_getf hx hb hXS.2.2.2.2.1 hS hown (S.2.2.2.2 _ (wk9_13 5 rfl rfl)) (fun _ h9 => h9) (oc_180 7 (aq_7 shJ0_coder_7d493_0) uw_0_15) ?_
  refine lv_goto (tgt := 14) hx hb (oc_167 10 (aq_10 shJ0_coder_7d493_0) sgw_0_4) rfl ?_
  exact W.zret (v := 0) hx hb hr rfl (fun t ht hW => ⟨0, rfl, rfl, ht⟩) (fun _ h => absurd h List.not_mem_nil) (oc_172 14 (aq_14 shJ0_coder_7d493_0))
set_option maxRecDepth 100000 in
set_option maxHeartbeats 4000000 in
theorem q_s_isLatin1 (l : Launch) (D : va_G) (cI cB cZ : ClassId) (zz qq vv : Nat) (bt : Nat → Int32)  : Met l yJ0_isLatin1_aae02 (CWS yJ0_isLatin1_aae02 cJ0_isLatin1_aae02 1 (some .boolean)) (RM 0 0 0) (PBrx [.ref qq] D cI cB cZ zz qq vv bt []) (vp_Si (fun r => r = 1)) 0 0 (fun _ => False) := by
  refine en_rx rfl pn_RJ0 (Nat.le_of_ble_eq_true rfl) (fun p e s m below meth c hx hb hml hown S hr hlocks hnm hP hK hXS hS ls hl => ?_)
  have hP : va_P D vwCl [] s.heap := hP
  have hl : lv_has ls 1 [(0, .ref qq)] := hl
  refine va_gets hx hb hXS.1 hS hown (S.2.2.2.2 _ (wk1_10 6 rfl rfl)) (fun _ h9 => h9) (oc_178 0 shJ0_isLatin1_aae02_0 uw_0_38) ?_
  refine lv_if_eq (tgt := 17) hx hb (oc_153 3 (aq_3 shJ0_isLatin1_aae02_0) sgw_0_14) rfl (fun h => absurd h cq_eq_1_0) (fun _ => ?_)
  refine lv_aload_n hx hb (oc_42 6 (aq_6 shJ0_isLatin1_aae02_0)) rfl (lvA0 hl) ?_
  refine vk_getf hx hb hXS.2.2.2.2.1 hS hown (S.2.2.2.2 _ (wk9_13 5 rfl rfl)) (fun _ h9 => h9) (oc_180 7 (aq_7 shJ0_isLatin1_aae02_0) uw_0_15) ?_
  refine lv_if_ne (tgt := 17) hx hb (oc_154 10 (aq_10 shJ0_isLatin1_aae02_0) sgw_0_7) rfl (fun h => absurd h cq_eq_0_0) (fun _ => ?_)
  refine lv_iconst (v := 1) hx hb (oc_4 13 (aq_13 shJ0_isLatin1_aae02_0)) kic_1 ?_
  refine lv_goto (tgt := 18) hx hb (oc_167 14 (aq_14 shJ0_isLatin1_aae02_0) sgw_0_4) rfl ?_
  exact W.zret (v := 1) hx hb hr rfl (fun t ht hW => ⟨1, rfl, rfl, ht⟩) (fun _ h => absurd h List.not_mem_nil) (oc_172 18 (aq_18 shJ0_isLatin1_aae02_0))
set_option maxRecDepth 100000 in
set_option maxHeartbeats 4000000 in
theorem q_s_strLen (l : Launch) (D : va_G) (cI cB cZ : ClassId) (zz qq vv : Nat) (bt : Nat → Int32)  : Met l yJ0_length_8abf5 (CWS yJ0_length_8abf5 cJ0_length_8abf5 1 (some .int)) (RM 1 0 0) (PBrx [.ref qq] D cI cB cZ zz qq vv bt []) (vp_Si (fun r => r = 11)) 0 0 (fun _ => False) := by
  refine en_rx rfl pn_RJ0 (Nat.le_of_ble_eq_true rfl) (fun p e s m below meth c hx hb hml hown S hr hlocks hnm hP hK hXS hS ls hl => ?_)
  have hP : va_P D vwCl [] s.heap := hP
  have hl : lv_has ls 1 [(0, .ref qq)] := hl
  refine lv_aload_n hx hb (oc_42 0 shJ0_length_8abf5_0) rfl (lvA0 hl) ?_
  refine vk_getf hx hb hXS.2.2.2.2.2.1 hS hown (S.2.2.2.2 _ (wk9_13 4 rfl rfl)) (fun _ h9 => h9) (oc_180 1 (aq_1 shJ0_length_8abf5_0) uw_0_9) ?_
  refine va_tlen hx hb hXS.2.2.2.2.2.2.1 hS (v := 11) rfl (oc_190 4 (aq_4 shJ0_length_8abf5_0)) ?_
  refine lv_aload_n hx hb (oc_42 5 (aq_5 shJ0_length_8abf5_0)) rfl (lvA0 hl) ?_
  refine vp_callSi (runV_rx (As := []) (rest := [.int 11]) S (q_s_coder l D cI cB cZ zz qq vv bt ) kV_RJ0_335 hK hXS hS hP [] rfl (va_Orecv hXS.2.2.2.1 hS) ⟨Nat.le_of_ble_eq_true rfl, Nat.le_of_ble_eq_true rfl⟩ ⟨Nat.le_of_ble_eq_true rfl, Nat.le_of_ble_eq_true rfl⟩ rfl hl.1 rfl (Nat.le_of_ble_eq_true rfl) (oc_182 6 (aq_6 shJ0_length_8abf5_0) uw_1_79)) (fun r_1 h_2 => ?_)
  subst h_2
  refine lv_ishr hx hb (oc_122 9 (aq_9 shJ0_length_8abf5_0)) ?_
  refine lv_topi (fun y_3 ey_3 => ?_)
  obtain rfl : y_3 = 11 := ey_3.trans (by decide)
  exact W.iret (v := 11) hx hb hr (fun t ht hW => ⟨11, rfl, rfl, ht⟩) (fun _ h => absurd h List.not_mem_nil) (oc_172 10 (aq_10 shJ0_length_8abf5_0))
set_option maxRecDepth 100000 in
set_option maxHeartbeats 4000000 in
theorem q_s_canEncode (l : Launch) (D : va_G) (cI cB cZ : ClassId) (v0 : Int32) : Met l yJ1_canEncode_9a6ad (CWS yJ1_canEncode_9a6ad cJ1_canEncode_9a6ad 1 (some .boolean)) (RM 0 0 0) (PBr [.int v0] D cI cB cZ []) (vp_Si (fun r => (r = 1 ∧ (0 ≤ v0.toInt ∧ v0.toInt ≤ 255)) ∨ (r = 0 ∧ ¬ (0 ≤ v0.toInt ∧ v0.toInt ≤ 255)))) 0 0 (fun _ => False) := by
  refine en_r rfl pn_RJ1 (Nat.le_of_ble_eq_true rfl) (fun p e s m below meth c hx hb hml hown S hr hlocks hnm hP hK hS ls hl => ?_)
  have hP : va_P D vwCl [] s.heap := hP
  have hl : lv_has ls 1 [(0, .int v0)] := hl
  refine lv_iload_n hx hb (oc_26 0 shJ1_canEncode_9a6ad_0) rfl (lvA0 hl) ?_
  refine lv_if_lt (tgt := 15) hx hb (oc_155 1 (aq_1 shJ1_canEncode_9a6ad_0) sgw_0_14) rfl (fun c_1 => ?_) (fun c_1 => ?_)
  ·
    have tc_1 : (v0.toInt : Int) < 0 := Int32.lt_iff_toInt_lt.mp c_1
    refine lv_iconst (v := 0) hx hb (oc_3 15 (aq_15 shJ1_canEncode_9a6ad_0)) kic_0 ?_
    exact W.zret (v := 0) hx hb hr rfl (fun t ht hW => ⟨0, rfl, (Or.inr ⟨rfl, by omega⟩), ht⟩) (fun _ h => absurd h List.not_mem_nil) (oc_172 16 (aq_16 shJ1_canEncode_9a6ad_0))
  ·
    have tc_1 : (0 : Int) ≤ v0.toInt := Int32.le_iff_toInt_le.mp (Int32.not_lt.mp c_1)
    refine lv_iload_n hx hb (oc_26 4 (aq_4 shJ1_canEncode_9a6ad_0)) rfl (lvA0 hl) ?_
    refine lv_sipush (v := 255) hx hb (oc_17 5 (aq_5 shJ1_canEncode_9a6ad_0) sgw_0_255) (by decide) ?_
    refine lv_icmp_gt (tgt := 15) hx hb (oc_163 8 (aq_8 shJ1_canEncode_9a6ad_0) sgw_0_7) rfl (fun c_2 => ?_) (fun c_2 => ?_)
    ·
      have tc_2 : (255 : Int) < v0.toInt := Int32.lt_iff_toInt_lt.mp c_2
      refine lv_iconst (v := 0) hx hb (oc_3 15 (aq_15 shJ1_canEncode_9a6ad_0)) kic_0 ?_
      exact W.zret (v := 0) hx hb hr rfl (fun t ht hW => ⟨0, rfl, (Or.inr ⟨rfl, by omega⟩), ht⟩) (fun _ h => absurd h List.not_mem_nil) (oc_172 16 (aq_16 shJ1_canEncode_9a6ad_0))
    ·
      have tc_2 : (v0.toInt : Int) ≤ 255 := Int32.le_iff_toInt_le.mp (Int32.not_lt.mp c_2)
      refine lv_iconst (v := 1) hx hb (oc_4 11 (aq_11 shJ1_canEncode_9a6ad_0)) kic_1 ?_
      refine lv_goto (tgt := 16) hx hb (oc_167 12 (aq_12 shJ1_canEncode_9a6ad_0) sgw_0_4) rfl ?_
      exact W.zret (v := 1) hx hb hr rfl (fun t ht hW => ⟨1, rfl, (Or.inl ⟨rfl, by omega⟩), ht⟩) (fun _ h => absurd h List.not_mem_nil) (oc_172 16 (aq_16 shJ1_canEncode_9a6ad_0))
set_option maxRecDepth 100000 in
set_option maxHeartbeats 4000000 in
theorem q_s_indexOfChar (l : Launch) (D : va_G) (cI cB cZ : ClassId) (zz qq vv : Nat) (bt : Nat → Int32) (v0 : Int32) : Met l yJ1_indexOfChar_4cfef (CWS yJ1_indexOfChar_4cfef cJ1_indexOfChar_4cfef 6 (some .int)) (RM 0 0 0) (PBrx [.ref vv, .int v0, .int 0, .int 11] D cI cB cZ zz qq vv bt []) (vp_Si (fun _ => True)) 0 0 (fun _ => False) := by
  refine en_rx rfl pn_RJ1 (Nat.le_of_ble_eq_true rfl) (fun p e s m below meth c hx hb hml hown S hr hlocks hnm hP hK hXS hS ls hl => ?_)
  have hP : va_P D vwCl [] s.heap := hP
  have hl : lv_has ls 6 [(0, .ref vv), (1, .int v0), (2, .int 0), (3, .int 11)] := hl
  refine lv_iload_n hx hb (oc_27 0 shJ1_indexOfChar_4cfef_0) rfl (lvA1 hl) ?_
  refine lv_i2b (v := v0.toInt8.toInt32) hx hb (oc_145 1 (aq_1 shJ1_indexOfChar_4cfef_0)) rfl ?_
  refine lv_istore (lv' := [(4, .int v0.toInt8.toInt32), (0, .ref vv), (1, .int v0), (2, .int 0), (3, .int 11)]) hx hb (oc_54 2 (aq_2 shJ1_indexOfChar_4cfef_0) ub_4) hl (ltb rfl) rfl (fun ls hl => ?_)
  refine lv_iload_n hx hb (oc_28 4 (aq_4 shJ1_indexOfChar_4cfef_0)) rfl (lvA3 hl) ?_
  refine lv_istore (lv' := [(5, .int 0), (4, .int v0.toInt8.toInt32), (0, .ref vv), (1, .int v0), (2, .int 0), (3, .int 11)]) hx hb (oc_54 5 (aq_5 shJ1_indexOfChar_4cfef_0) ub_5) hl (ltb rfl) rfl (fun ls hl => ?_)
  have lp_7 : ∀ (n i : Nat), 11 + 1 ≤ i + n → i ≤ 11 → ∀ ls : Array Slot, lv_has ls 6 [(5, .int (nI i)), (4, .int v0.toInt8.toInt32), (0, .ref vv), (1, .int v0), (2, .int 0), (3, .int 11)] → W p l e (RM 0 0 0) s m ([.ref vv, .int v0, .int 0, .int 11]).toArray below meth c s.heap [] 0 0 (MQ below (vp_Si (fun _ => True)) ([.ref vv, .int v0, .int 0, .int 11]).toArray s 0 0 (fun _ => False)) (F0 m 7 ls []) := by
    intro n
    induction n with
    | zero => intro i h1 h2; exact absurd h1 (by omega)
    | succ n ih =>
      intro i hn1 hi ls hl
      have ti : (nI i).toInt = (i : Int) := nI_toInt (by omega)
      refine lv_iload hx hb (oc_21 7 (aq_7 shJ1_indexOfChar_4cfef_0) ub_5) (lvA0 hl) ?_
      refine lv_iload_n hx hb (oc_29 9 (aq_9 shJ1_indexOfChar_4cfef_0)) rfl (lvA5 hl) ?_
      refine lv_icmp_ge (tgt := 31) hx hb (oc_162 10 (aq_10 shJ1_indexOfChar_4cfef_0) sgw_0_21) rfl (fun c_1 => ?_) (fun c_1 => ?_)
      ·
        have tc_1 : (11 : Int) ≤ (nI i).toInt := Int32.le_iff_toInt_le.mp c_1
        refine lv_iconst (v := (-1)) hx hb (oc_2 31 (aq_7 shJ1_indexOfChar_4cfef_24)) kic_m1 ?_
        exact W.iret (v := (-1)) hx hb hr (fun t ht hW => ⟨(-1), rfl, trivial, ht⟩) (fun _ h => absurd h List.not_mem_nil) (oc_172 32 (aq_8 shJ1_indexOfChar_4cfef_24))
      ·
        have tc_1 : ((nI i).toInt : Int) < 11 := Int32.lt_iff_toInt_lt.mp (Int32.not_le.mp c_1)
        refine lv_aload_n hx hb (oc_42 13 (aq_13 shJ1_indexOfChar_4cfef_0)) rfl (lvA2 hl) ?_
        refine lv_iload hx hb (oc_21 14 (aq_14 shJ1_indexOfChar_4cfef_0) ub_5) (lvA0 hl) ?_
        refine va_tb hx hb hXS.2.2.2.2.2.2.1 hS (vp_in_iff.mpr ⟨by omega, by omega⟩) rfl (oc_51 16 (aq_16 shJ1_indexOfChar_4cfef_0)) ?_
        refine lv_iload hx hb (oc_21 17 (aq_17 shJ1_indexOfChar_4cfef_0) ub_4) (lvA1 hl) ?_
        refine lv_icmp_ne (tgt := 25) hx hb (oc_160 19 (aq_19 shJ1_indexOfChar_4cfef_0) sgw_0_6) rfl (fun c_2 => ?_) (fun c_2 => ?_)
        ·
          have tc_2 : ((bt (nI i).toNatClampNeg).toInt : Int) ≠ v0.toInt8.toInt32.toInt := fun q => c_2 (Int32.toInt_inj.mp q)
          refine lv_iinc (v := (nI (i + 1))) (lv' := [(5, .int (nI (i + 1))), (4, .int v0.toInt8.toInt32), (0, .ref vv), (1, .int v0), (2, .int 0), (3, .int 11)]) hx hb (oc_132 25 (aq_1 shJ1_indexOfChar_4cfef_24) ub_5 sgb_1) hl (k := 0) rfl (nI_1 _) (ltb rfl) rfl (fun ls hl => ?_)
          refine lv_goto (tgt := 7) hx hb (oc_167 28 (aq_4 shJ1_indexOfChar_4cfef_24) sgw_255_235) rfl ?_
          exact ih (i + 1) (by omega) (by omega) ls (lv_sub hl [0, 1, 2, 3, 4, 5] rfl)
        ·
          have tc_2 : ((bt (nI i).toNatClampNeg).toInt : Int) = v0.toInt8.toInt32.toInt := congrArg Int32.toInt c_2
          refine lv_iload hx hb (oc_21 22 (aq_22 shJ1_indexOfChar_4cfef_0) ub_5) (lvA0 hl) ?_
          exact W.iret (v := (nI i)) hx hb hr (fun t ht hW => ⟨(nI i), rfl, trivial, ht⟩) (fun _ h => absurd h List.not_mem_nil) (oc_172 24 shJ1_indexOfChar_4cfef_24)
  exact lp_7 (11 + 1) 0 (by omega) (by omega) ls (lv_sub hl [0, 1, 2, 3, 4, 5] rfl)
set_option maxRecDepth 100000 in
set_option maxHeartbeats 4000000 in
theorem q_s_lat1Index (l : Launch) (D : va_G) (cI cB cZ : ClassId) (zz qq vv : Nat) (bt : Nat → Int32) (v0 : Int32) : Met l yJ1_indexOf_4cfef (CWS yJ1_indexOf_4cfef cJ1_indexOf_4cfef 4 (some .int)) (RM 1 0 0) (PBrx [.ref vv, .int v0, .int 0, .int 11] D cI cB cZ zz qq vv bt []) (vp_Si (fun _ => True)) 0 0 (fun _ => False) := by
  refine en_rx rfl pn_RJ1 (Nat.le_of_ble_eq_true rfl) (fun p e s m below meth c hx hb hml hown S hr hlocks hnm hP hK hXS hS ls hl => ?_)
  have hP : va_P D vwCl [] s.heap := hP
  have hl : lv_has ls 4 [(0, .ref vv), (1, .int v0), (2, .int 0), (3, .int 11)] := hl
  refine lv_iload_n hx hb (oc_27 0 shJ1_indexOf_4cfef_0) rfl (lvA1 hl) ?_
  refine vp_callSi (runS_r (As := [.int v0]) (rest := []) S (q_s_canEncode l D cI cB cZ v0) kS_RJ1_88 hK hP [] rfl ⟨Nat.le_of_ble_eq_true rfl, Nat.le_of_ble_eq_true rfl⟩ ⟨Nat.le_of_ble_eq_true rfl, Nat.le_of_ble_eq_true rfl⟩ rfl hl.1 rfl (Nat.le_of_ble_eq_true rfl) (oc_184 1 (aq_1 shJ1_indexOf_4cfef_0) uw_0_88)) (fun r_1 h_2 => ?_)
  rcases h_2 with ⟨rfl, h_2⟩ | ⟨rfl, h_2⟩
  ·
    have h_2 : 0 ≤ v0.toInt ∧ v0.toInt ≤ 255 := h_2
    refine lv_if_ne (tgt := 9) hx hb (oc_154 4 (aq_4 shJ1_indexOf_4cfef_0) sgw_0_5) rfl (fun _ => ?_) (fun h => absurd h cq_eq_1_0)
    refine lv_iload_n hx hb (oc_28 9 (aq_9 shJ1_indexOf_4cfef_0)) rfl (lvA2 hl) ?_
    refine lv_iconst (v := 0) hx hb (oc_3 10 (aq_10 shJ1_indexOf_4cfef_0)) kic_0 ?_
    refine va_mmax hx hb (by rw [hml]; exact hl.1.symm) hown (S.2.2.2.2 _ (wk3_9 0 rfl rfl)) (S.2.2.2.2 _ (wk1_3 6 rfl rfl)) (S.2.2.2.2 _ (wk1_0 3 rfl rfl)) (S.2.2.2.2 _ (wk1_3 7 rfl rfl)) (Nat.le_of_ble_eq_true rfl) (Nat.le_of_ble_eq_true rfl) (Nat.le_of_ble_eq_true rfl) (Nat.le_of_ble_eq_true rfl) (oc_184 11 (aq_11 shJ1_indexOf_4cfef_0) uw_0_92) ?_
    refine lv_topi (fun y_3 ey_3 => ?_)
    obtain rfl : y_3 = 0 := ey_3.trans (by decide)
    refine lv_istore_n (lv' := [(2, .int 0), (0, .ref vv), (1, .int v0), (3, .int 11)]) hx hb (oc_61 14 (aq_14 shJ1_indexOf_4cfef_0)) rfl hl (ltb rfl) rfl (fun ls hl => ?_)
    refine lv_iload_n hx hb (oc_29 15 (aq_15 shJ1_indexOf_4cfef_0)) rfl (lvA3 hl) ?_
    refine lv_aload_n hx hb (oc_42 16 (aq_16 shJ1_indexOf_4cfef_0)) rfl (lvA1 hl) ?_
    refine va_tlen hx hb hXS.2.2.2.2.2.2.1 hS (v := 11) rfl (oc_190 17 (aq_17 shJ1_indexOf_4cfef_0)) ?_
    refine va_mmin hx hb (by rw [hml]; exact hl.1.symm) hown (S.2.2.2.2 _ (wk3_9 1 rfl rfl)) (S.2.2.2.2 _ (wk2_13 10 rfl rfl)) (S.2.2.2.2 _ (wk1_0 3 rfl rfl)) (S.2.2.2.2 _ (wk2_13 11 rfl rfl)) (Nat.le_of_ble_eq_true rfl) (Nat.le_of_ble_eq_true rfl) (Nat.le_of_ble_eq_true rfl) (Nat.le_of_ble_eq_true rfl) (oc_184 18 (aq_18 shJ1_indexOf_4cfef_0) uw_0_38) ?_
    refine lv_topi (fun y_4 ey_4 => ?_)
    obtain rfl : y_4 = 11 := ey_4.trans (by decide)
    refine lv_istore_n (lv' := [(3, .int 11), (2, .int 0), (0, .ref vv), (1, .int v0)]) hx hb (oc_62 21 (aq_21 shJ1_indexOf_4cfef_0)) rfl hl (ltb rfl) rfl (fun ls hl => ?_)
    refine lv_iload_n hx hb (oc_28 22 (aq_22 shJ1_indexOf_4cfef_0)) rfl (lvA1 hl) ?_
    refine lv_iload_n hx hb (oc_29 23 (aq_23 shJ1_indexOf_4cfef_0)) rfl (lvA0 hl) ?_
    refine lv_icmp_lt (tgt := 29) hx hb (oc_161 24 shJ1_indexOf_4cfef_24 sgw_0_5) rfl (fun _ => ?_) (fun h => absurd h cq_lt_0_11)
    refine lv_aload_n hx hb (oc_42 29 (aq_5 shJ1_indexOf_4cfef_24)) rfl (lvA2 hl) ?_
    refine lv_iload_n hx hb (oc_27 30 (aq_6 shJ1_indexOf_4cfef_24)) rfl (lvA3 hl) ?_
    refine lv_iload_n hx hb (oc_28 31 (aq_7 shJ1_indexOf_4cfef_24)) rfl (lvA1 hl) ?_
    refine lv_iload_n hx hb (oc_29 32 (aq_8 shJ1_indexOf_4cfef_24)) rfl (lvA0 hl) ?_
    refine vp_callSi (runS_rx (As := [.ref vv, .int v0, .int 0, .int 11]) (rest := []) S (q_s_indexOfChar l D cI cB cZ zz qq vv bt v0) kS_RJ1_95 hK hXS hS hP [] rfl ⟨Nat.le_of_ble_eq_true rfl, Nat.le_of_ble_eq_true rfl⟩ ⟨Nat.le_of_ble_eq_true rfl, Nat.le_of_ble_eq_true rfl⟩ rfl hl.1 rfl (Nat.le_of_ble_eq_true rfl) (oc_184 33 (aq_9 shJ1_indexOf_4cfef_24) uw_0_95)) (fun r_5 h_6 => ?_)
    exact W.iret (v := r_5) hx hb hr (fun t ht hW => ⟨r_5, rfl, trivial, ht⟩) (fun _ h => absurd h List.not_mem_nil) (oc_172 36 (aq_12 shJ1_indexOf_4cfef_24))
  ·
    have h_2 : ¬ (0 ≤ v0.toInt ∧ v0.toInt ≤ 255) := h_2
    refine lv_if_ne (tgt := 9) hx hb (oc_154 4 (aq_4 shJ1_indexOf_4cfef_0) sgw_0_5) rfl (fun h => absurd h cq_eq_0_0) (fun _ => ?_)
    refine lv_iconst (v := (-1)) hx hb (oc_2 7 (aq_7 shJ1_indexOf_4cfef_0)) kic_m1 ?_
    exact W.iret (v := (-1)) hx hb hr (fun t ht hW => ⟨(-1), rfl, trivial, ht⟩) (fun _ h => absurd h List.not_mem_nil) (oc_172 8 (aq_8 shJ1_indexOf_4cfef_0))
set_option maxRecDepth 100000 in
set_option maxHeartbeats 4000000 in
theorem q_s_strIndex2 (l : Launch) (D : va_G) (cI cB cZ : ClassId) (zz qq vv : Nat) (bt : Nat → Int32) (v0 : Int32) : Met l yJ0_indexOf_7cf53 (CWS yJ0_indexOf_7cf53 cJ0_indexOf_7cf53 3 (some .int)) (RM 2 0 0) (PBrx [.ref qq, .int v0, .int 0] D cI cB cZ zz qq vv bt []) (vp_Si (fun _ => True)) 0 0 (fun _ => False) := by
  refine en_rx rfl pn_RJ0 (Nat.le_of_ble_eq_true rfl) (fun p e s m below meth c hx hb hml hown S hr hlocks hnm hP hK hXS hS ls hl => ?_)
  have hP : va_P D vwCl [] s.heap := hP
  have hl : lv_has ls 3 [(0, .ref qq), (1, .int v0), (2, .int 0)] := hl
  refine lv_aload_n hx hb (oc_42 0 shJ0_indexOf_7cf53_0) rfl (lvA0 hl) ?_
  refine vp_callSi (runV_rx (As := []) (rest := []) S (q_s_isLatin1 l D cI cB cZ zz qq vv bt ) kV_RJ0_492 hK hXS hS hP [] rfl (va_Orecv hXS.2.2.2.1 hS) ⟨Nat.le_of_ble_eq_true rfl, Nat.le_of_ble_eq_true rfl⟩ ⟨Nat.le_of_ble_eq_true rfl, Nat.le_of_ble_eq_true rfl⟩ rfl hl.1 rfl (Nat.le_of_ble_eq_true rfl) (oc_182 1 (aq_1 shJ0_indexOf_7cf53_0) uw_1_236)) (fun r_1 h_2 => ?_)
  subst h_2
  refine lv_if_eq (tgt := 23) hx hb (oc_153 4 (aq_4 shJ0_indexOf_7cf53_0) sgw_0_19) rfl (fun h => absurd h cq_eq_1_0) (fun _ => ?_)
  refine lv_aload_n hx hb (oc_42 7 (aq_7 shJ0_indexOf_7cf53_0)) rfl (lvA0 hl) ?_
  refine vk_getf hx hb hXS.2.2.2.2.2.1 hS hown (S.2.2.2.2 _ (wk9_13 4 rfl rfl)) (fun _ h9 => h9) (oc_180 8 (aq_8 shJ0_indexOf_7cf53_0) uw_0_9) ?_
  refine lv_iload_n hx hb (oc_27 11 (aq_11 shJ0_indexOf_7cf53_0)) rfl (lvA1 hl) ?_
  refine lv_iload_n hx hb (oc_28 12 (aq_12 shJ0_indexOf_7cf53_0)) rfl (lvA2 hl) ?_
  refine lv_aload_n hx hb (oc_42 13 (aq_13 shJ0_indexOf_7cf53_0)) rfl (lvA0 hl) ?_
  refine vp_callSi (runV_rx (As := []) (rest := [.int 0, .int v0, .ref vv]) S (q_s_strLen l D cI cB cZ zz qq vv bt ) kV_RJ0_505 hK hXS hS hP [] rfl (va_Orecv hXS.2.2.2.1 hS) ⟨Nat.le_of_ble_eq_true rfl, Nat.le_of_ble_eq_true rfl⟩ ⟨Nat.le_of_ble_eq_true rfl, Nat.le_of_ble_eq_true rfl⟩ rfl hl.1 rfl (Nat.le_of_ble_eq_true rfl) (oc_182 14 (aq_14 shJ0_indexOf_7cf53_0) uw_1_249)) (fun r_3 h_4 => ?_)
  subst h_4
  refine vp_callSi (runS_rx (As := [.ref vv, .int v0, .int 0, .int 11]) (rest := []) S (q_s_lat1Index l D cI cB cZ zz qq vv bt v0) kS_RJ0_637 hK hXS hS hP [] rfl ⟨Nat.le_of_ble_eq_true rfl, Nat.le_of_ble_eq_true rfl⟩ ⟨Nat.le_of_ble_eq_true rfl, Nat.le_of_ble_eq_true rfl⟩ rfl hl.1 rfl (Nat.le_of_ble_eq_true rfl) (oc_184 17 (aq_17 shJ0_indexOf_7cf53_0) uw_2_125)) (fun r_5 h_6 => ?_)
  refine lv_goto (tgt := 36) hx hb (oc_167 20 (aq_20 shJ0_indexOf_7cf53_0) sgw_0_16) rfl ?_
  exact W.iret (v := r_5) hx hb hr (fun t ht hW => ⟨r_5, rfl, trivial, ht⟩) (fun _ h => absurd h List.not_mem_nil) (oc_172 36 (aq_12 shJ0_indexOf_7cf53_24))
set_option maxRecDepth 100000 in
set_option maxHeartbeats 4000000 in
theorem q_s_strIndex (l : Launch) (D : va_G) (cI cB cZ : ClassId) (zz qq vv : Nat) (bt : Nat → Int32) (v0 : Int32) : Met l yJ0_indexOf_0f7a4 (CWS yJ0_indexOf_0f7a4 cJ0_indexOf_0f7a4 2 (some .int)) (RM 3 0 0) (PBrx [.ref qq, .int v0] D cI cB cZ zz qq vv bt []) (vp_Si (fun _ => True)) 0 0 (fun _ => False) := by
  refine en_rx rfl pn_RJ0 (Nat.le_of_ble_eq_true rfl) (fun p e s m below meth c hx hb hml hown S hr hlocks hnm hP hK hXS hS ls hl => ?_)
  have hP : va_P D vwCl [] s.heap := hP
  have hl : lv_has ls 2 [(0, .ref qq), (1, .int v0)] := hl
  refine lv_aload_n hx hb (oc_42 0 shJ0_indexOf_0f7a4_0) rfl (lvA0 hl) ?_
  refine lv_iload_n hx hb (oc_27 1 (aq_1 shJ0_indexOf_0f7a4_0)) rfl (lvA1 hl) ?_
  refine lv_iconst (v := 0) hx hb (oc_3 2 (aq_2 shJ0_indexOf_0f7a4_0)) kic_0 ?_
  refine vp_callSi (runV_rx (As := [.int v0, .int 0]) (rest := []) S (q_s_strIndex2 l D cI cB cZ zz qq vv bt v0) kV_RJ0_633 hK hXS hS hP [] rfl (va_Orecv hXS.2.2.2.1 hS) ⟨Nat.le_of_ble_eq_true rfl, Nat.le_of_ble_eq_true rfl⟩ ⟨Nat.le_of_ble_eq_true rfl, Nat.le_of_ble_eq_true rfl⟩ rfl hl.1 rfl (Nat.le_of_ble_eq_true rfl) (oc_182 3 (aq_3 shJ0_indexOf_0f7a4_0) uw_2_121)) (fun r_1 h_2 => ?_)
  exact W.iret (v := r_1) hx hb hr (fun t ht hW => ⟨r_1, rfl, trivial, ht⟩) (fun _ h => absurd h List.not_mem_nil) (oc_172 6 (aq_6 shJ0_indexOf_0f7a4_0))
set_option maxRecDepth 100000 in
set_option maxHeartbeats 4000000 in
theorem q_Xpush (l : Launch) (D : va_G) (cI cB cZ : ClassId) (zz qq vv : Nat) (bt : Nat → Int32) (g : Nat → Nat) (ad : Nat → Nat → Nat) (cn : Nat → Nat) (In : Nat → Int32) (Fn : Nat → Nat → Int32) (k0 : Nat) (v0 : Int32) (sz : Nat) (hB : CBX cn) (hk : k0 < cn 6) : Met l yX9_push (CWS yX9_push cX9_push 2 none) (RM 0 0 0) (PBx [.ref (ad 5 k0), .int v0] D cI cB cZ zz qq vv bt (wX cI (D.1 99) zz g ad cn In Fn) sz) (va_Qv (fun (u : (Nat → Nat) × (Nat → Int32) × (Nat → Nat → Int32)) => (fun c2 I2 F2 => Fr [] [] [196, 305] cn In Fn c2 I2 F2 ∧ CBX c2 ∧ (True)) u.1 u.2.1 u.2.2) (fun (u : (Nat → Nat) × (Nat → Int32) × (Nat → Nat → Int32)) (t : State) => va_P D vwCl (wX cI (D.1 99) zz g ad u.1 u.2.1 u.2.2) t.heap ∧ va_D (va_A (wX cI (D.1 99) zz g ad cn In Fn) sz) (wX cI (D.1 99) zz g ad u.1 u.2.1 u.2.2)) (va_A (wX cI (D.1 99) zz g ad cn In Fn) sz)) 0 0 (va_A (wX cI (D.1 99) zz g ad cn In Fn) sz) := by
  refine en_x (fun A => (va_Qv (fun (u : (Nat → Nat) × (Nat → Int32) × (Nat → Nat → Int32)) => (fun (c2 : Nat → Nat) (I2 : Nat → Int32) (F2 : Nat → Nat → Int32) => Fr [] [] [196, 305] cn In Fn c2 I2 F2 ∧ CBX c2 ∧ (True)) u.1 u.2.1 u.2.2) (fun (u : (Nat → Nat) × (Nat → Int32) × (Nat → Nat → Int32)) (t : State) => va_P D vwCl (wX cI (D.1 99) zz g ad u.1 u.2.1 u.2.2) t.heap ∧ va_D A (wX cI (D.1 99) zz g ad u.1 u.2.1 u.2.2)) A)) rfl rfl pn_RX9 (Nat.le_of_ble_eq_true rfl) (fun p e s m below meth c A hx hb hml hown S hr hlocks hnm hA hP hK hD hXS hS ls hl => ?_)
  have hl : lv_has ls 2 [(0, .ref (ad 5 k0)), (1, .int v0)] := hl
  have hb_cn : Hid (CBX cn) := hB
  replace hB : CBXh cn := hB
  refine lv_aload_n hx hb (oc_42 0 shX9_push_0) rfl (lvA0 hl) ?_
  refine gf_RX9_55 S hK hP _ (xf_7 hk) (v := .int ((Fn 196) k0)) rfl (oc_180 1 (aq_1 shX9_push_0) uw_0_55) ?_
  refine lv_if_lt (tgt := 39) hx hb (oc_155 4 (aq_4 shX9_push_0) sgw_0_35) rfl (fun c_1 => ?_) (fun c_1 => ?_)
  ·
    have tc_1 : (((Fn 196) k0).toInt : Int) < 0 := Int32.lt_iff_toInt_lt.mp c_1
    exact W.vret hx hb hr (fun t ht hW => ⟨⟨(cn, In, Fn), rfl, ⟨(Fr.mo Fr.rf (sbl rfl) (sbl rfl) (sbl rfl)), hB, trivial⟩, by rw [ht]; exact hP, hD⟩, hS.F ht⟩) hS.2.2 (oc_177 39 (aq_15 shX9_push_24))
  ·
    have tc_1 : (0 : Int) ≤ ((Fn 196) k0).toInt := Int32.le_iff_toInt_le.mp (Int32.not_lt.mp c_1)
    refine lv_aload_n hx hb (oc_42 7 (aq_7 shX9_push_0)) rfl (lvA0 hl) ?_
    refine gf_RX9_55 S hK hP _ (xf_7 hk) (v := .int ((Fn 196) k0)) rfl (oc_180 8 (aq_8 shX9_push_0) uw_0_55) ?_
    refine lv_aload_n hx hb (oc_42 11 (aq_11 shX9_push_0)) rfl (lvA0 hl) ?_
    refine gf_RX9_30 S hK hP _ (xf_7 hk) (v := .ref (ad 64 k0)) rfl (oc_180 12 (aq_12 shX9_push_0) uw_0_30) ?_
    refine va_alen hx hb hK.1 hP _ 0 (xf_12 hk) rfl (v := 32) rfl (oc_190 15 (aq_15 shX9_push_0)) ?_
    refine lv_icmp_ge (tgt := 39) hx hb (oc_162 16 (aq_16 shX9_push_0) sgw_0_23) rfl (fun c_2 => ?_) (fun c_2 => ?_)
    ·
      have tc_2 : (32 : Int) ≤ ((Fn 196) k0).toInt := Int32.le_iff_toInt_le.mp c_2
      exact W.vret hx hb hr (fun t ht hW => ⟨⟨(cn, In, Fn), rfl, ⟨(Fr.mo Fr.rf (sbl rfl) (sbl rfl) (sbl rfl)), hB, trivial⟩, by rw [ht]; exact hP, hD⟩, hS.F ht⟩) hS.2.2 (oc_177 39 (aq_15 shX9_push_24))
    ·
      have tc_2 : (((Fn 196) k0).toInt : Int) < 32 := Int32.lt_iff_toInt_lt.mp (Int32.not_le.mp c_2)
      refine lv_aload_n hx hb (oc_42 19 (aq_19 shX9_push_0)) rfl (lvA0 hl) ?_
      refine gf_RX9_30 S hK hP _ (xf_7 hk) (v := .ref (ad 64 k0)) rfl (oc_180 20 (aq_20 shX9_push_0) uw_0_30) ?_
      refine lv_aload_n hx hb (oc_42 23 (aq_23 shX9_push_0)) rfl (lvA0 hl) ?_
      refine gf_RX9_55 S hK hP _ (xf_7 hk) (v := .int ((Fn 196) k0)) rfl (oc_180 24 shX9_push_24 uw_0_55) ?_
      refine lv_iload_n hx hb (oc_27 27 (aq_3 shX9_push_24)) rfl (lvA1 hl) ?_
      refine va_iast hx hb hK.1 hP hD hS _ 0 (xf_12 hk) rfl (vp_in_iff.mpr ⟨by (first | omega | (have zz0 := Hid.u hb_cn; omega)), by (first | omega | (have zz0 := Hid.u hb_cn; omega))⟩) (oc_79 28 (aq_4 shX9_push_24)) (fun H locs hP hD hS => ?_)
      have hP : va_P D vwCl (wX cI (D.1 99) zz g ad cn In (va_up Fn 305 (flat (Fn 305) 32 k0 (upd (gA (Fn 305) 32 k0) ((Fn 196) k0).toNatClampNeg v0)))) H := va_P_eq (xsg_12 hk (upd_z (by (first | omega | (have zz0 := Hid.u hb_cn; omega))) gA_z)) hP
      have hD : va_D A (wX cI (D.1 99) zz g ad cn In (va_up Fn 305 (flat (Fn 305) 32 k0 (upd (gA (Fn 305) 32 k0) ((Fn 196) k0).toNatClampNeg v0)))) := va_D_eq (xsg_12 hk (upd_z (by (first | omega | (have zz0 := Hid.u hb_cn; omega))) gA_z)) hD
      refine lv_aload_n hx hb (oc_42 29 (aq_5 shX9_push_24)) rfl (lvA0 hl) ?_
      refine lv_dup hx hb (oc_89 30 (aq_6 shX9_push_24)) rfl ?_
      refine gf_RX9_55 S hK hP _ (xf_7 hk) (v := .int ((Fn 196) k0)) rfl (oc_180 31 (aq_7 shX9_push_24) uw_0_55) ?_
      refine lv_iconst (v := 1) hx hb (oc_4 34 (aq_10 shX9_push_24)) kic_1 ?_
      refine lv_iadd hx hb (oc_96 35 (aq_11 shX9_push_24)) ?_
      refine pf_RX9_55 S hK hP hD hS _ (xf_7 hk) (v := .int (((Fn 196) k0) + 1)) (Nat.le_of_ble_eq_true rfl) rfl rfl (oc_181 36 (aq_12 shX9_push_24) uw_0_55) (fun H locs hP hD hS => ?_)
      have hP : va_P D vwCl (wX cI (D.1 99) zz g ad cn In (va_up (va_up Fn 305 (flat (Fn 305) 32 k0 (upd (gA (Fn 305) 32 k0) ((Fn 196) k0).toNatClampNeg v0))) 196 (upd (Fn 196) k0 (((Fn 196) k0) + 1)))) H := va_P_eq (xs_196 (by (first | omega | (have zz0 := Hid.u hb_cn; omega)))) hP
      have hD : va_D A (wX cI (D.1 99) zz g ad cn In (va_up (va_up Fn 305 (flat (Fn 305) 32 k0 (upd (gA (Fn 305) 32 k0) ((Fn 196) k0).toNatClampNeg v0))) 196 (upd (Fn 196) k0 (((Fn 196) k0) + 1)))) := va_D_eq (xs_196 (by (first | omega | (have zz0 := Hid.u hb_cn; omega)))) hD
      exact W.vret hx hb hr (fun t ht hW => ⟨⟨(cn, In, (va_up (va_up Fn 305 (flat (Fn 305) 32 k0 (upd (gA (Fn 305) 32 k0) ((Fn 196) k0).toNatClampNeg v0))) 196 (upd (Fn 196) k0 (((Fn 196) k0) + 1)))), rfl, ⟨(Fr.mo (Fr.f 196 (Fr.f 305 Fr.rf)) (sbl rfl) (sbl rfl) (sbl rfl)), hB, trivial⟩, by rw [ht]; exact hP, hD⟩, hS.F ht⟩) hS.2.2 (oc_177 39 (aq_15 shX9_push_24))
set_option maxRecDepth 100000 in
set_option maxHeartbeats 4000000 in
theorem q_Xpop (l : Launch) (D : va_G) (cI cB cZ : ClassId) (zz qq vv : Nat) (bt : Nat → Int32) (g : Nat → Nat) (ad : Nat → Nat → Nat) (cn : Nat → Nat) (In : Nat → Int32) (Fn : Nat → Nat → Int32) (k0 : Nat) (sz : Nat) (hB : CBX cn) (hk : k0 < cn 6) : Met l yX9_pop (CWS yX9_pop cX9_pop 1 (some .int)) (RM 0 0 0) (PBx [.ref (ad 5 k0)] D cI cB cZ zz qq vv bt (wX cI (D.1 99) zz g ad cn In Fn) sz) (va_Qi (fun (r : Int32) (u : (Nat → Nat) × (Nat → Int32) × (Nat → Nat → Int32)) => (fun r c2 I2 F2 => Fr [] [] [196] cn In Fn c2 I2 F2 ∧ CBX c2 ∧ (True)) r u.1 u.2.1 u.2.2) (fun (u : (Nat → Nat) × (Nat → Int32) × (Nat → Nat → Int32)) (t : State) => va_P D vwCl (wX cI (D.1 99) zz g ad u.1 u.2.1 u.2.2) t.heap ∧ va_D (va_A (wX cI (D.1 99) zz g ad cn In Fn) sz) (wX cI (D.1 99) zz g ad u.1 u.2.1 u.2.2)) (va_A (wX cI (D.1 99) zz g ad cn In Fn) sz)) 0 0 (va_A (wX cI (D.1 99) zz g ad cn In Fn) sz) := by
  refine en_x (fun A => (va_Qi (fun (r : Int32) (u : (Nat → Nat) × (Nat → Int32) × (Nat → Nat → Int32)) => (fun (r : Int32) (c2 : Nat → Nat) (I2 : Nat → Int32) (F2 : Nat → Nat → Int32) => Fr [] [] [196] cn In Fn c2 I2 F2 ∧ CBX c2 ∧ (True)) r u.1 u.2.1 u.2.2) (fun (u : (Nat → Nat) × (Nat → Int32) × (Nat → Nat → Int32)) (t : State) => va_P D vwCl (wX cI (D.1 99) zz g ad u.1 u.2.1 u.2.2) t.heap ∧ va_D A (wX cI (D.1 99) zz g ad u.1 u.2.1 u.2.2)) A)) rfl rfl pn_RX9 (Nat.le_of_ble_eq_true rfl) (fun p e s m below meth c A hx hb hml hown S hr hlocks hnm hA hP hK hD hXS hS ls hl => ?_)
  have hl : lv_has ls 1 [(0, .ref (ad 5 k0))] := hl
  have hb_cn : Hid (CBX cn) := hB
  replace hB : CBXh cn := hB
  refine lv_aload_n hx hb (oc_42 0 shX9_pop_0) rfl (lvA0 hl) ?_
  refine gf_RX9_55 S hK hP _ (xf_7 hk) (v := .int ((Fn 196) k0)) rfl (oc_180 1 (aq_1 shX9_pop_0) uw_0_55) ?_
  refine lv_if_le (tgt := 19) hx hb (oc_158 4 (aq_4 shX9_pop_0) sgw_0_15) rfl (fun c_1 => ?_) (fun c_1 => ?_)
  ·
    have tc_1 : (((Fn 196) k0).toInt : Int) ≤ 0 := Int32.le_iff_toInt_le.mp c_1
    refine lv_iconst (v := 0) hx hb (oc_3 19 (aq_19 shX9_pop_0)) kic_0 ?_
    exact W.iret (v := 0) hx hb hr (fun t ht hW => ⟨⟨0, (cn, In, Fn), rfl, ⟨(Fr.mo Fr.rf (sbl rfl) (sbl rfl) (sbl rfl)), hB, trivial⟩, by rw [ht]; exact hP, hD⟩, hS.F ht⟩) hS.2.2 (oc_172 20 (aq_20 shX9_pop_0))
  ·
    have tc_1 : (0 : Int) < ((Fn 196) k0).toInt := Int32.lt_iff_toInt_lt.mp (Int32.not_le.mp c_1)
    refine lv_aload_n hx hb (oc_42 7 (aq_7 shX9_pop_0)) rfl (lvA0 hl) ?_
    refine gf_RX9_55 S hK hP _ (xf_7 hk) (v := .int ((Fn 196) k0)) rfl (oc_180 8 (aq_8 shX9_pop_0) uw_0_55) ?_
    refine lv_aload_n hx hb (oc_42 11 (aq_11 shX9_pop_0)) rfl (lvA0 hl) ?_
    refine gf_RX9_30 S hK hP _ (xf_7 hk) (v := .ref (ad 64 k0)) rfl (oc_180 12 (aq_12 shX9_pop_0) uw_0_30) ?_
    refine va_alen hx hb hK.1 hP _ 0 (xf_12 hk) rfl (v := 32) rfl (oc_190 15 (aq_15 shX9_pop_0)) ?_
    refine lv_icmp_le (tgt := 21) hx hb (oc_164 16 (aq_16 shX9_pop_0) sgw_0_5) rfl (fun c_2 => ?_) (fun c_2 => ?_)
    ·
      have tc_2 : (((Fn 196) k0).toInt : Int) ≤ 32 := Int32.le_iff_toInt_le.mp c_2
      refine lv_aload_n hx hb (oc_42 21 (aq_21 shX9_pop_0)) rfl (lvA0 hl) ?_
      refine lv_dup hx hb (oc_89 22 (aq_22 shX9_pop_0)) rfl ?_
      refine gf_RX9_55 S hK hP _ (xf_7 hk) (v := .int ((Fn 196) k0)) rfl (oc_180 23 (aq_23 shX9_pop_0) uw_0_55) ?_
      refine lv_iconst (v := 1) hx hb (oc_4 26 shX9_pop_26) kic_1 ?_
      refine lv_isub hx hb (oc_100 27 (aq_1 shX9_pop_26)) ?_
      refine pf_RX9_55 S hK hP hD hS _ (xf_7 hk) (v := .int (((Fn 196) k0) - 1)) (Nat.le_of_ble_eq_true rfl) rfl rfl (oc_181 28 (aq_2 shX9_pop_26) uw_0_55) (fun H locs hP hD hS => ?_)
      have hP : va_P D vwCl (wX cI (D.1 99) zz g ad cn In (va_up Fn 196 (upd (Fn 196) k0 (((Fn 196) k0) - 1)))) H := va_P_eq (xs_196 (by (first | omega | (have zz0 := Hid.u hb_cn; omega)))) hP
      have hD : va_D A (wX cI (D.1 99) zz g ad cn In (va_up Fn 196 (upd (Fn 196) k0 (((Fn 196) k0) - 1)))) := va_D_eq (xs_196 (by (first | omega | (have zz0 := Hid.u hb_cn; omega)))) hD
      refine lv_aload_n hx hb (oc_42 31 (aq_5 shX9_pop_26)) rfl (lvA0 hl) ?_
      refine gf_RX9_30 S hK hP _ (xf_7 hk) (v := .ref (ad 64 k0)) rfl (oc_180 32 (aq_6 shX9_pop_26) uw_0_30) ?_
      refine lv_aload_n hx hb (oc_42 35 (aq_9 shX9_pop_26)) rfl (lvA0 hl) ?_
      refine gf_RX9_55 S hK hP _ (xf_7 hk) (v := .int ((upd (Fn 196) k0 (((Fn 196) k0) - 1)) k0)) rfl (oc_180 36 (aq_10 shX9_pop_26) uw_0_55) ?_
      refine lv_topi (fun y_3 ey_3 => ?_)
      obtain rfl : y_3 = ((Fn 196 k0) - 1) := ey_3.trans (upd_self _ _ _)
      have hs1 := dec_toInt (x := Fn 196 k0) (by (first | omega | (have zz0 := Hid.u hb_cn; omega)))
      refine va_iald hx hb hK.1 hP _ 0 (xf_12 hk) rfl (vp_in_iff.mpr ⟨by (first | omega | (have zz0 := Hid.u hb_cn; omega)), by (first | omega | (have zz0 := Hid.u hb_cn; omega))⟩) (oc_46 39 (aq_13 shX9_pop_26)) ?_
      refine lv_topi (fun y_4 ey_4 => ?_)
      obtain rfl : y_4 = ((gA (Fn 305) 32 k0) (((Fn 196 k0) - 1).toNatClampNeg)) := ey_4.trans (congrArg (gA (Fn 305) 32 k0) rfl)
      exact W.iret (v := ((gA (Fn 305) 32 k0) (((Fn 196 k0) - 1).toNatClampNeg))) hx hb hr (fun t ht hW => ⟨⟨((gA (Fn 305) 32 k0) (((Fn 196 k0) - 1).toNatClampNeg)), (cn, In, (va_up Fn 196 (upd (Fn 196) k0 (((Fn 196) k0) - 1)))), rfl, ⟨(Fr.mo (Fr.f 196 Fr.rf) (sbl rfl) (sbl rfl) (sbl rfl)), hB, trivial⟩, by rw [ht]; exact hP, hD⟩, hS.F ht⟩) hS.2.2 (oc_172 40 (aq_14 shX9_pop_26))
    ·
      have tc_2 : (32 : Int) < ((Fn 196) k0).toInt := Int32.lt_iff_toInt_lt.mp (Int32.not_le.mp c_2)
      refine lv_iconst (v := 0) hx hb (oc_3 19 (aq_19 shX9_pop_0)) kic_0 ?_
      exact W.iret (v := 0) hx hb hr (fun t ht hW => ⟨⟨0, (cn, In, Fn), rfl, ⟨(Fr.mo Fr.rf (sbl rfl) (sbl rfl) (sbl rfl)), hB, trivial⟩, by rw [ht]; exact hP, hD⟩, hS.F ht⟩) hS.2.2 (oc_172 20 (aq_20 shX9_pop_0))
set_option maxRecDepth 100000 in
set_option maxHeartbeats 4000000 in
theorem q_Xdecided (l : Launch) (D : va_G) (cI cB cZ : ClassId) (zz qq vv : Nat) (bt : Nat → Int32) (g : Nat → Nat) (ad : Nat → Nat → Nat) (cn : Nat → Nat) (In : Nat → Int32) (Fn : Nat → Nat → Int32) (k0 : Nat) (v0 : Int32) (sz : Nat) (hB : CBX cn) (hk : k0 < cn 6) : Met l yX9_decided (CWS yX9_decided cX9_decided 3 (some .boolean)) (RM 1 0 0) (PBx [.ref (ad 5 k0), .int v0] D cI cB cZ zz qq vv bt (wX cI (D.1 99) zz g ad cn In Fn) sz) (va_Qi (fun (r : Int32) (u : (Nat → Nat) × (Nat → Int32) × (Nat → Nat → Int32)) => (fun r c2 I2 F2 => Fr [] [] [196, 305] cn In Fn c2 I2 F2 ∧ CBX c2 ∧ (r = 0 ∨ r = 1)) r u.1 u.2.1 u.2.2) (fun (u : (Nat → Nat) × (Nat → Int32) × (Nat → Nat → Int32)) (t : State) => va_P D vwCl (wX cI (D.1 99) zz g ad u.1 u.2.1 u.2.2) t.heap ∧ va_D (va_A (wX cI (D.1 99) zz g ad cn In Fn) sz) (wX cI (D.1 99) zz g ad u.1 u.2.1 u.2.2)) (va_A (wX cI (D.1 99) zz g ad cn In Fn) sz)) 0 0 (va_A (wX cI (D.1 99) zz g ad cn In Fn) sz) := by
  refine en_x (fun A => (va_Qi (fun (r : Int32) (u : (Nat → Nat) × (Nat → Int32) × (Nat → Nat → Int32)) => (fun (r : Int32) (c2 : Nat → Nat) (I2 : Nat → Int32) (F2 : Nat → Nat → Int32) => Fr [] [] [196, 305] cn In Fn c2 I2 F2 ∧ CBX c2 ∧ (r = 0 ∨ r = 1)) r u.1 u.2.1 u.2.2) (fun (u : (Nat → Nat) × (Nat → Int32) × (Nat → Nat → Int32)) (t : State) => va_P D vwCl (wX cI (D.1 99) zz g ad u.1 u.2.1 u.2.2) t.heap ∧ va_D A (wX cI (D.1 99) zz g ad u.1 u.2.1 u.2.2)) A)) rfl rfl pn_RX9 (Nat.le_of_ble_eq_true rfl) (fun p e s m below meth c A hx hb hml hown S hr hlocks hnm hA hP hK hD hXS hS ls hl => ?_)
  have hl : lv_has ls 3 [(0, .ref (ad 5 k0)), (1, .int v0)] := hl
  have hb_cn : Hid (CBX cn) := hB
  replace hB : CBXh cn := hB
  refine lv_aload_n hx hb (oc_42 0 shX9_decided_0) rfl (lvA0 hl) ?_
  have hFc := free_all hD hS hA
  refine va_calli (runV_xa (As := []) (rest := []) S (q_Xpop l D cI cB cZ zz qq vv bt g ad cn In Fn k0 s.heap.size hB (by (first | omega | (have zz0 := Hid.u hb_cn; omega)))) kV_RX9_67 hK hXS hS hFc hP hD _ (xf_7 hk) rfl rfl ⟨Nat.le_of_ble_eq_true rfl, Nat.le_of_ble_eq_true rfl⟩ ⟨Nat.le_of_ble_eq_true rfl, Nat.le_of_ble_eq_true rfl⟩ rfl hl.1 rfl (Nat.le_of_ble_eq_true rfl) (oc_182 1 (aq_1 shX9_decided_0) uw_0_67)) hS (fun q _ h => hFc q h) hFc (fun r_1 u t H1 locs ht hvm wh_2 hB1 hz1 hk1 hS => ?_)
  obtain ⟨cn2, In2, Fn2⟩ := u
  obtain ⟨hP1, hD1⟩ := hB1
  rw [ht] at hP1
  have hP : va_P D vwCl (wX cI (D.1 99) zz g ad cn2 In2 Fn2) H1 := hP1
  have hD : va_D A (wX cI (D.1 99) zz g ad cn2 In2 Fn2) := hD1.weaken (fun _ _ _ h => hFc _ h)
  generalize H1 = H at hP hS ⊢
  have vh_2 : (fun r c2 I2 F2 => Fr [] [] [196] cn In Fn c2 I2 F2 ∧ CBX c2 ∧ (True)) r_1 cn2 In2 Fn2 := wh_2
  obtain ⟨hfc2, hIn2, h_2⟩ := vh_2
  obtain rfl : cn = cn2 := (funext (fun k => hfc2.1 k List.not_mem_nil)).symm
  obtain rfl : In = In2 := (funext (fun k => hfc2.2.1 k List.not_mem_nil)).symm
  have hf2 : Fr [] [] [196, 305] cn In Fn cn In Fn2 := Fr.mo (Fr.tr (Fr.rf (cn := cn) (In := In) (Fn := Fn)) hfc2) (sbl rfl) (sbl rfl) (sbl rfl)
  replace hIn2 : CBXh cn := hIn2
  refine lv_istore_n (lv' := [(2, .int r_1), (0, .ref (ad 5 k0)), (1, .int v0)]) hx hb (oc_61 4 (aq_4 shX9_decided_0)) rfl hl (ltb rfl) rfl (fun ls hl => ?_)
  refine lv_iload_n hx hb (oc_28 5 (aq_5 shX9_decided_0)) rfl (lvA0 hl) ?_
  refine lv_iload_n hx hb (oc_27 6 (aq_6 shX9_decided_0)) rfl (lvA2 hl) ?_
  refine lv_icmp_eq (tgt := 12) hx hb (oc_159 7 (aq_7 shX9_decided_0) sgw_0_5) rfl (fun c_3 => ?_) (fun c_3 => ?_)
  ·
    have tc_3 : (r_1.toInt : Int) = v0.toInt := congrArg Int32.toInt c_3
    refine lv_aload_n hx hb (oc_42 12 (aq_12 shX9_decided_0)) rfl (lvA1 hl) ?_
    refine lv_iload_n hx hb (oc_28 13 (aq_13 shX9_decided_0)) rfl (lvA0 hl) ?_
    have hFc := free_all hD hS hA
    refine va_callv (runV_xa (As := [.int r_1]) (rest := []) S (q_Xpush l D cI cB cZ zz qq vv bt g ad cn In Fn2 k0 r_1 H.size hIn2 (by (first | omega | (have zz0 := Hid.u hb_cn; omega)))) kV_RX9_63 hK hXS hS hFc hP hD _ (xf_7 hk) rfl rfl ⟨Nat.le_of_ble_eq_true rfl, Nat.le_of_ble_eq_true rfl⟩ ⟨Nat.le_of_ble_eq_true rfl, Nat.le_of_ble_eq_true rfl⟩ rfl hl.1 rfl (Nat.le_of_ble_eq_true rfl) (oc_182 14 (aq_14 shX9_decided_0) uw_0_63)) hS (fun q _ h => hFc q h) hFc (fun u t H1 locs ht hvm wh_5 hB1 hz1 hk1 hS => ?_)
    obtain ⟨cn5, In5, Fn5⟩ := u
    obtain ⟨hP1, hD1⟩ := hB1
    rw [ht] at hP1
    have hP : va_P D vwCl (wX cI (D.1 99) zz g ad cn5 In5 Fn5) H1 := hP1
    have hD : va_D A (wX cI (D.1 99) zz g ad cn5 In5 Fn5) := hD1.weaken (fun _ _ _ h => hFc _ h)
    generalize H1 = H at hP hS ⊢
    have vh_5 : (fun c2 I2 F2 => Fr [] [] [196, 305] cn In Fn2 c2 I2 F2 ∧ CBX c2 ∧ (True)) cn5 In5 Fn5 := wh_5
    obtain ⟨hfc5, hIn5, h_5⟩ := vh_5
    obtain rfl : cn = cn5 := (funext (fun k => hfc5.1 k List.not_mem_nil)).symm
    obtain rfl : In = In5 := (funext (fun k => hfc5.2.1 k List.not_mem_nil)).symm
    have hf5 : Fr [] [] [196, 305] cn In Fn cn In Fn5 := Fr.mo (Fr.tr hf2 hfc5) (sbl rfl) (sbl rfl) (sbl rfl)
    replace hIn5 : CBXh cn := hIn5
    refine lv_iconst (v := 1) hx hb (oc_4 17 (aq_17 shX9_decided_0)) kic_1 ?_
    exact W.zret (v := 1) hx hb hr rfl (fun t ht hW => ⟨⟨1, (cn, In, Fn5), rfl, ⟨(Fr.mo hf5 (sbl rfl) (sbl rfl) (sbl rfl)), hIn5, (by show 1 = 0 ∨ 1 = 1; exact Or.inr rfl)⟩, by rw [ht]; exact hP, hD⟩, hS.F ht⟩) hS.2.2 (oc_172 18 (aq_18 shX9_decided_0))
  ·
    have tc_3 : (r_1.toInt : Int) ≠ v0.toInt := fun q => c_3 (Int32.toInt_inj.mp q)
    refine lv_iconst (v := 0) hx hb (oc_3 10 (aq_10 shX9_decided_0)) kic_0 ?_
    exact W.zret (v := 0) hx hb hr rfl (fun t ht hW => ⟨⟨0, (cn, In, Fn2), rfl, ⟨(Fr.mo hf2 (sbl rfl) (sbl rfl) (sbl rfl)), hIn2, (by show 0 = 0 ∨ 0 = 1; exact Or.inl rfl)⟩, by rw [ht]; exact hP, hD⟩, hS.F ht⟩) hS.2.2 (oc_172 11 (aq_11 shX9_decided_0))
set_option maxRecDepth 100000 in
set_option maxHeartbeats 4000000 in
theorem q_Xdivide (l : Launch) (D : va_G) (cI cB cZ : ClassId) (zz qq vv : Nat) (bt : Nat → Int32) (g : Nat → Nat) (ad : Nat → Nat → Nat) (cn : Nat → Nat) (In : Nat → Int32) (Fn : Nat → Nat → Int32) (k0 : Nat) (v0 v1 v2 : Int32) (sz : Nat) (hB : CBX cn) (hk : k0 < cn 6) : Met l yX9_divide (CWS yX9_divide cX9_divide 4 (some .int)) (RM 0 0 0) (PBx [.ref (ad 5 k0), .int v0, .int v1, .int v2] D cI cB cZ zz qq vv bt (wX cI (D.1 99) zz g ad cn In Fn) sz) (va_Qi (fun (r : Int32) (u : (Nat → Nat) × (Nat → Int32) × (Nat → Nat → Int32)) => (fun r c2 I2 F2 => Fr [] [] [197] cn In Fn c2 I2 F2 ∧ CBX c2 ∧ (True)) r u.1 u.2.1 u.2.2) (fun (u : (Nat → Nat) × (Nat → Int32) × (Nat → Nat → Int32)) (t : State) => va_P D vwCl (wX cI (D.1 99) zz g ad u.1 u.2.1 u.2.2) t.heap ∧ va_D (va_A (wX cI (D.1 99) zz g ad cn In Fn) sz) (wX cI (D.1 99) zz g ad u.1 u.2.1 u.2.2)) (va_A (wX cI (D.1 99) zz g ad cn In Fn) sz)) 0 0 (va_A (wX cI (D.1 99) zz g ad cn In Fn) sz) := by
  refine en_x (fun A => (va_Qi (fun (r : Int32) (u : (Nat → Nat) × (Nat → Int32) × (Nat → Nat → Int32)) => (fun (r : Int32) (c2 : Nat → Nat) (I2 : Nat → Int32) (F2 : Nat → Nat → Int32) => Fr [] [] [197] cn In Fn c2 I2 F2 ∧ CBX c2 ∧ (True)) r u.1 u.2.1 u.2.2) (fun (u : (Nat → Nat) × (Nat → Int32) × (Nat → Nat → Int32)) (t : State) => va_P D vwCl (wX cI (D.1 99) zz g ad u.1 u.2.1 u.2.2) t.heap ∧ va_D A (wX cI (D.1 99) zz g ad u.1 u.2.1 u.2.2)) A)) rfl rfl pn_RX9 (Nat.le_of_ble_eq_true rfl) (fun p e s m below meth c A hx hb hml hown S hr hlocks hnm hA hP hK hD hXS hS ls hl => ?_)
  have hl : lv_has ls 4 [(0, .ref (ad 5 k0)), (1, .int v0), (2, .int v1), (3, .int v2)] := hl
  have hb_cn : Hid (CBX cn) := hB
  replace hB : CBXh cn := hB
  refine lv_iload_n hx hb (oc_29 0 shX9_divide_0) rfl (lvA3 hl) ?_
  refine lv_if_ne (tgt := 11) hx hb (oc_154 1 (aq_1 shX9_divide_0) sgw_0_10) rfl (fun c_1 => ?_) (fun c_1 => ?_)
  ·
    have tc_1 : (v2.toInt : Int) ≠ 0 := fun q => c_1 (Int32.toInt_inj.mp q)
    refine lv_iload_n hx hb (oc_27 11 (aq_11 shX9_divide_0)) rfl (lvA1 hl) ?_
    refine lv_bipush (v := 6) hx hb (oc_16 12 (aq_12 shX9_divide_0) sgb_6) kbc_6 ?_
    refine lv_icmp_ne (tgt := 23) hx hb (oc_160 14 (aq_14 shX9_divide_0) sgw_0_9) rfl (fun c_2 => ?_) (fun c_2 => ?_)
    ·
      have tc_2 : (v0.toInt : Int) ≠ 6 := fun q => c_2 (Int32.toInt_inj.mp q)
      refine lv_iload_n hx hb (oc_28 23 (aq_23 shX9_divide_0)) rfl (lvA2 hl) ?_
      refine lv_iload_n hx hb (oc_29 24 shX9_divide_24) rfl (lvA3 hl) ?_
      refine lv_irem hx hb (oc_112 25 (aq_1 shX9_divide_24)) (by assumption) ?_
      exact W.iret (v := (v1 - v1 / v2 * v2)) hx hb hr (fun t ht hW => ⟨⟨(v1 - v1 / v2 * v2), (cn, In, Fn), rfl, ⟨(Fr.mo Fr.rf (sbl rfl) (sbl rfl) (sbl rfl)), hB, trivial⟩, by rw [ht]; exact hP, hD⟩, hS.F ht⟩) hS.2.2 (oc_172 26 (aq_2 shX9_divide_24))
    ·
      have tc_2 : (v0.toInt : Int) = 6 := congrArg Int32.toInt c_2
      refine lv_iload_n hx hb (oc_28 17 (aq_17 shX9_divide_0)) rfl (lvA2 hl) ?_
      refine lv_iload_n hx hb (oc_29 18 (aq_18 shX9_divide_0)) rfl (lvA3 hl) ?_
      refine lv_idiv hx hb (oc_108 19 (aq_19 shX9_divide_0)) (by assumption) ?_
      refine lv_goto (tgt := 26) hx hb (oc_167 20 (aq_20 shX9_divide_0) sgw_0_6) rfl ?_
      exact W.iret (v := (v1 / v2)) hx hb hr (fun t ht hW => ⟨⟨(v1 / v2), (cn, In, Fn), rfl, ⟨(Fr.mo Fr.rf (sbl rfl) (sbl rfl) (sbl rfl)), hB, trivial⟩, by rw [ht]; exact hP, hD⟩, hS.F ht⟩) hS.2.2 (oc_172 26 (aq_2 shX9_divide_24))
  ·
    have tc_1 : (v2.toInt : Int) = 0 := congrArg Int32.toInt c_1
    refine lv_aload_n hx hb (oc_42 4 (aq_4 shX9_divide_0)) rfl (lvA0 hl) ?_
    refine lv_iconst (v := 1) hx hb (oc_4 5 (aq_5 shX9_divide_0)) kic_1 ?_
    refine pf_RX9_58 S hK hP hD hS _ (xf_7 hk) (v := .int 1) (Nat.le_of_ble_eq_true rfl) rfl rfl (oc_181 6 (aq_6 shX9_divide_0) uw_0_58) (fun H locs hP hD hS => ?_)
    have hP : va_P D vwCl (wX cI (D.1 99) zz g ad cn In (va_up Fn 197 (upd (Fn 197) k0 1))) H := va_P_eq (xs_197 (by (first | omega | (have zz0 := Hid.u hb_cn; omega)))) hP
    have hD : va_D A (wX cI (D.1 99) zz g ad cn In (va_up Fn 197 (upd (Fn 197) k0 1))) := va_D_eq (xs_197 (by (first | omega | (have zz0 := Hid.u hb_cn; omega)))) hD
    refine lv_iconst (v := 0) hx hb (oc_3 9 (aq_9 shX9_divide_0)) kic_0 ?_
    exact W.iret (v := 0) hx hb hr (fun t ht hW => ⟨⟨0, (cn, In, (va_up Fn 197 (upd (Fn 197) k0 1))), rfl, ⟨(Fr.mo (Fr.f 197 Fr.rf) (sbl rfl) (sbl rfl) (sbl rfl)), hB, trivial⟩, by rw [ht]; exact hP, hD⟩, hS.F ht⟩) hS.2.2 (oc_172 10 (aq_10 shX9_divide_0))
set_option maxRecDepth 100000 in
set_option maxHeartbeats 4000000 in
theorem q_Xreckon (l : Launch) (D : va_G) (cI cB cZ : ClassId) (zz qq vv : Nat) (bt : Nat → Int32) (g : Nat → Nat) (ad : Nat → Nat → Nat) (cn : Nat → Nat) (In : Nat → Int32) (Fn : Nat → Nat → Int32) (k0 : Nat) (v0 v1 v2 : Int32) (sz : Nat) (hB : CBX cn) (hk : k0 < cn 6) : Met l yX9_reckon (CWS yX9_reckon cX9_reckon 4 (some .int)) (RM 1 0 0) (PBx [.ref (ad 5 k0), .int v0, .int v1, .int v2] D cI cB cZ zz qq vv bt (wX cI (D.1 99) zz g ad cn In Fn) sz) (va_Qi (fun (r : Int32) (u : (Nat → Nat) × (Nat → Int32) × (Nat → Nat → Int32)) => (fun r c2 I2 F2 => Fr [] [] [197] cn In Fn c2 I2 F2 ∧ CBX c2 ∧ (True)) r u.1 u.2.1 u.2.2) (fun (u : (Nat → Nat) × (Nat → Int32) × (Nat → Nat → Int32)) (t : State) => va_P D vwCl (wX cI (D.1 99) zz g ad u.1 u.2.1 u.2.2) t.heap ∧ va_D (va_A (wX cI (D.1 99) zz g ad cn In Fn) sz) (wX cI (D.1 99) zz g ad u.1 u.2.1 u.2.2)) (va_A (wX cI (D.1 99) zz g ad cn In Fn) sz)) 0 0 (va_A (wX cI (D.1 99) zz g ad cn In Fn) sz) := by
  refine en_x (fun A => (va_Qi (fun (r : Int32) (u : (Nat → Nat) × (Nat → Int32) × (Nat → Nat → Int32)) => (fun (r : Int32) (c2 : Nat → Nat) (I2 : Nat → Int32) (F2 : Nat → Nat → Int32) => Fr [] [] [197] cn In Fn c2 I2 F2 ∧ CBX c2 ∧ (True)) r u.1 u.2.1 u.2.2) (fun (u : (Nat → Nat) × (Nat → Int32) × (Nat → Nat → Int32)) (t : State) => va_P D vwCl (wX cI (D.1 99) zz g ad u.1 u.2.1 u.2.2) t.heap ∧ va_D A (wX cI (D.1 99) zz g ad u.1 u.2.1 u.2.2)) A)) rfl rfl pn_RX9 (Nat.le_of_ble_eq_true rfl) (fun p e s m below meth c A hx hb hml hown S hr hlocks hnm hA hP hK hD hXS hS ls hl => ?_)
  have hl : lv_has ls 4 [(0, .ref (ad 5 k0)), (1, .int v0), (2, .int v1), (3, .int v2)] := hl
  have hb_cn : Hid (CBX cn) := hB
  replace hB : CBXh cn := hB
  refine lv_iload_n hx hb (oc_27 0 shX9_reckon_0) rfl (lvA1 hl) ?_
  rcases (by (first | omega | (have zz0 := Hid.u hb_cn; omega)) : v0.toInt < 3 ∨ 10 < v0.toInt ∨ v0.toInt = 3 ∨ v0.toInt = 4 ∨ v0.toInt = 5 ∨ v0.toInt = 6 ∨ v0.toInt = 7 ∨ v0.toInt = 8 ∨ v0.toInt = 9 ∨ v0.toInt = 10) with c_1 | c_1 | c_1 | c_1 | c_1 | c_1 | c_1 | c_1 | c_1 | c_1
  ·
    refine lv_tableOut (tgt := 93) hx hb dX9_reckon_1 (Or.inl c_1) (by decide) ?_
    refine lv_aload_n hx hb dX9_reckon_93 rfl (lvA0 hl) ?_
    refine lv_iload_n hx hb dX9_reckon_94 rfl (lvA1 hl) ?_
    refine lv_iload_n hx hb dX9_reckon_95 rfl (lvA2 hl) ?_
    refine lv_iload_n hx hb dX9_reckon_96 rfl (lvA3 hl) ?_
    have hFc := free_all hD hS hA
    refine va_calli (runV_xa (As := [.int v0, .int v1, .int v2]) (rest := []) S (q_Xdivide l D cI cB cZ zz qq vv bt g ad cn In Fn k0 v0 v1 v2 s.heap.size hB (by (first | omega | (have zz0 := Hid.u hb_cn; omega)))) kV_RX9_79 hK hXS hS hFc hP hD _ (xf_7 hk) rfl rfl ⟨Nat.le_of_ble_eq_true rfl, Nat.le_of_ble_eq_true rfl⟩ ⟨Nat.le_of_ble_eq_true rfl, Nat.le_of_ble_eq_true rfl⟩ rfl hl.1 rfl (Nat.le_of_ble_eq_true rfl) dX9_reckon_97) hS (fun q _ h => hFc q h) hFc (fun r_2 u t H1 locs ht hvm wh_3 hB1 hz1 hk1 hS => ?_)
    obtain ⟨cn3, In3, Fn3⟩ := u
    obtain ⟨hP1, hD1⟩ := hB1
    rw [ht] at hP1
    have hP : va_P D vwCl (wX cI (D.1 99) zz g ad cn3 In3 Fn3) H1 := hP1
    have hD : va_D A (wX cI (D.1 99) zz g ad cn3 In3 Fn3) := hD1.weaken (fun _ _ _ h => hFc _ h)
    generalize H1 = H at hP hS ⊢
    have vh_3 : (fun r c2 I2 F2 => Fr [] [] [197] cn In Fn c2 I2 F2 ∧ CBX c2 ∧ (True)) r_2 cn3 In3 Fn3 := wh_3
    obtain ⟨hfc3, hIn3, h_3⟩ := vh_3
    obtain rfl : cn = cn3 := (funext (fun k => hfc3.1 k List.not_mem_nil)).symm
    obtain rfl : In = In3 := (funext (fun k => hfc3.2.1 k List.not_mem_nil)).symm
    have hf3 : Fr [] [] [197] cn In Fn cn In Fn3 := Fr.mo (Fr.tr (Fr.rf (cn := cn) (In := In) (Fn := Fn)) hfc3) (sbl rfl) (sbl rfl) (sbl rfl)
    replace hIn3 : CBXh cn := hIn3
    exact W.iret (v := r_2) hx hb hr (fun t ht hW => ⟨⟨r_2, (cn, In, Fn3), rfl, ⟨(Fr.mo hf3 (sbl rfl) (sbl rfl) (sbl rfl)), hIn3, trivial⟩, by rw [ht]; exact hP, hD⟩, hS.F ht⟩) hS.2.2 dX9_reckon_100
  ·
    refine lv_tableOut (tgt := 93) hx hb dX9_reckon_1 (Or.inr c_1) (by decide) ?_
    refine lv_aload_n hx hb dX9_reckon_93 rfl (lvA0 hl) ?_
    refine lv_iload_n hx hb dX9_reckon_94 rfl (lvA1 hl) ?_
    refine lv_iload_n hx hb dX9_reckon_95 rfl (lvA2 hl) ?_
    refine lv_iload_n hx hb dX9_reckon_96 rfl (lvA3 hl) ?_
    have hFc := free_all hD hS hA
    refine va_calli (runV_xa (As := [.int v0, .int v1, .int v2]) (rest := []) S (q_Xdivide l D cI cB cZ zz qq vv bt g ad cn In Fn k0 v0 v1 v2 s.heap.size hB (by (first | omega | (have zz0 := Hid.u hb_cn; omega)))) kV_RX9_79 hK hXS hS hFc hP hD _ (xf_7 hk) rfl rfl ⟨Nat.le_of_ble_eq_true rfl, Nat.le_of_ble_eq_true rfl⟩ ⟨Nat.le_of_ble_eq_true rfl, Nat.le_of_ble_eq_true rfl⟩ rfl hl.1 rfl (Nat.le_of_ble_eq_true rfl) dX9_reckon_97) hS (fun q _ h => hFc q h) hFc (fun r_4 u t H1 locs ht hvm wh_5 hB1 hz1 hk1 hS => ?_)
    obtain ⟨cn5, In5, Fn5⟩ := u
    obtain ⟨hP1, hD1⟩ := hB1
    rw [ht] at hP1
    have hP : va_P D vwCl (wX cI (D.1 99) zz g ad cn5 In5 Fn5) H1 := hP1
    have hD : va_D A (wX cI (D.1 99) zz g ad cn5 In5 Fn5) := hD1.weaken (fun _ _ _ h => hFc _ h)
    generalize H1 = H at hP hS ⊢
    have vh_5 : (fun r c2 I2 F2 => Fr [] [] [197] cn In Fn c2 I2 F2 ∧ CBX c2 ∧ (True)) r_4 cn5 In5 Fn5 := wh_5
    obtain ⟨hfc5, hIn5, h_5⟩ := vh_5
    obtain rfl : cn = cn5 := (funext (fun k => hfc5.1 k List.not_mem_nil)).symm
    obtain rfl : In = In5 := (funext (fun k => hfc5.2.1 k List.not_mem_nil)).symm
    have hf5 : Fr [] [] [197] cn In Fn cn In Fn5 := Fr.mo (Fr.tr (Fr.rf (cn := cn) (In := In) (Fn := Fn)) hfc5) (sbl rfl) (sbl rfl) (sbl rfl)
    replace hIn5 : CBXh cn := hIn5
    exact W.iret (v := r_4) hx hb hr (fun t ht hW => ⟨⟨r_4, (cn, In, Fn5), rfl, ⟨(Fr.mo hf5 (sbl rfl) (sbl rfl) (sbl rfl)), hIn5, trivial⟩, by rw [ht]; exact hP, hD⟩, hS.F ht⟩) hS.2.2 dX9_reckon_100
  ·
    refine lv_tableIn (tgt := 48) (off := 47) hx hb dX9_reckon_1 (by (first | omega | (have zz0 := Hid.u hb_cn; omega))) (by (first | omega | (have zz0 := Hid.u hb_cn; omega))) (by rw [c_1]; rfl) (by decide) ?_
    refine lv_iload_n hx hb (oc_28 48 shX9_reckon_48) rfl (lvA2 hl) ?_
    refine lv_iload_n hx hb (oc_29 49 (aq_1 shX9_reckon_48)) rfl (lvA3 hl) ?_
    refine lv_iadd hx hb (oc_96 50 (aq_2 shX9_reckon_48)) ?_
    exact W.iret (v := (v1 + v2)) hx hb hr (fun t ht hW => ⟨⟨(v1 + v2), (cn, In, Fn), rfl, ⟨(Fr.mo Fr.rf (sbl rfl) (sbl rfl) (sbl rfl)), hB, trivial⟩, by rw [ht]; exact hP, hD⟩, hS.F ht⟩) hS.2.2 (oc_172 51 (aq_3 shX9_reckon_48))
  ·
    refine lv_tableIn (tgt := 52) (off := 51) hx hb dX9_reckon_1 (by (first | omega | (have zz0 := Hid.u hb_cn; omega))) (by (first | omega | (have zz0 := Hid.u hb_cn; omega))) (by rw [c_1]; rfl) (by decide) ?_
    refine lv_iload_n hx hb (oc_28 52 (aq_4 shX9_reckon_48)) rfl (lvA2 hl) ?_
    refine lv_iload_n hx hb (oc_29 53 (aq_5 shX9_reckon_48)) rfl (lvA3 hl) ?_
    refine lv_isub hx hb (oc_100 54 (aq_6 shX9_reckon_48)) ?_
    exact W.iret (v := (v1 - v2)) hx hb hr (fun t ht hW => ⟨⟨(v1 - v2), (cn, In, Fn), rfl, ⟨(Fr.mo Fr.rf (sbl rfl) (sbl rfl) (sbl rfl)), hB, trivial⟩, by rw [ht]; exact hP, hD⟩, hS.F ht⟩) hS.2.2 (oc_172 55 (aq_7 shX9_reckon_48))
  ·
    refine lv_tableIn (tgt := 56) (off := 55) hx hb dX9_reckon_1 (by (first | omega | (have zz0 := Hid.u hb_cn; omega))) (by (first | omega | (have zz0 := Hid.u hb_cn; omega))) (by rw [c_1]; rfl) (by decide) ?_
    refine lv_iload_n hx hb (oc_28 56 (aq_8 shX9_reckon_48)) rfl (lvA2 hl) ?_
    refine lv_iload_n hx hb (oc_29 57 (aq_9 shX9_reckon_48)) rfl (lvA3 hl) ?_
    refine lv_imul hx hb (oc_104 58 (aq_10 shX9_reckon_48)) ?_
    exact W.iret (v := (v1 * v2)) hx hb hr (fun t ht hW => ⟨⟨(v1 * v2), (cn, In, Fn), rfl, ⟨(Fr.mo Fr.rf (sbl rfl) (sbl rfl) (sbl rfl)), hB, trivial⟩, by rw [ht]; exact hP, hD⟩, hS.F ht⟩) hS.2.2 (oc_172 59 (aq_11 shX9_reckon_48))
  ·
    refine lv_tableIn (tgt := 93) (off := 92) hx hb dX9_reckon_1 (by (first | omega | (have zz0 := Hid.u hb_cn; omega))) (by (first | omega | (have zz0 := Hid.u hb_cn; omega))) (by rw [c_1]; rfl) (by decide) ?_
    refine lv_aload_n hx hb dX9_reckon_93 rfl (lvA0 hl) ?_
    refine lv_iload_n hx hb dX9_reckon_94 rfl (lvA1 hl) ?_
    refine lv_iload_n hx hb dX9_reckon_95 rfl (lvA2 hl) ?_
    refine lv_iload_n hx hb dX9_reckon_96 rfl (lvA3 hl) ?_
    have hFc := free_all hD hS hA
    refine va_calli (runV_xa (As := [.int v0, .int v1, .int v2]) (rest := []) S (q_Xdivide l D cI cB cZ zz qq vv bt g ad cn In Fn k0 v0 v1 v2 s.heap.size hB (by (first | omega | (have zz0 := Hid.u hb_cn; omega)))) kV_RX9_79 hK hXS hS hFc hP hD _ (xf_7 hk) rfl rfl ⟨Nat.le_of_ble_eq_true rfl, Nat.le_of_ble_eq_true rfl⟩ ⟨Nat.le_of_ble_eq_true rfl, Nat.le_of_ble_eq_true rfl⟩ rfl hl.1 rfl (Nat.le_of_ble_eq_true rfl) dX9_reckon_97) hS (fun q _ h => hFc q h) hFc (fun r_6 u t H1 locs ht hvm wh_7 hB1 hz1 hk1 hS => ?_)
    obtain ⟨cn7, In7, Fn7⟩ := u
    obtain ⟨hP1, hD1⟩ := hB1
    rw [ht] at hP1
    have hP : va_P D vwCl (wX cI (D.1 99) zz g ad cn7 In7 Fn7) H1 := hP1
    have hD : va_D A (wX cI (D.1 99) zz g ad cn7 In7 Fn7) := hD1.weaken (fun _ _ _ h => hFc _ h)
    generalize H1 = H at hP hS ⊢
    have vh_7 : (fun r c2 I2 F2 => Fr [] [] [197] cn In Fn c2 I2 F2 ∧ CBX c2 ∧ (True)) r_6 cn7 In7 Fn7 := wh_7
    obtain ⟨hfc7, hIn7, h_7⟩ := vh_7
    obtain rfl : cn = cn7 := (funext (fun k => hfc7.1 k List.not_mem_nil)).symm
    obtain rfl : In = In7 := (funext (fun k => hfc7.2.1 k List.not_mem_nil)).symm
    have hf7 : Fr [] [] [197] cn In Fn cn In Fn7 := Fr.mo (Fr.tr (Fr.rf (cn := cn) (In := In) (Fn := Fn)) hfc7) (sbl rfl) (sbl rfl) (sbl rfl)
    replace hIn7 : CBXh cn := hIn7
    exact W.iret (v := r_6) hx hb hr (fun t ht hW => ⟨⟨r_6, (cn, In, Fn7), rfl, ⟨(Fr.mo hf7 (sbl rfl) (sbl rfl) (sbl rfl)), hIn7, trivial⟩, by rw [ht]; exact hP, hD⟩, hS.F ht⟩) hS.2.2 dX9_reckon_100
  ·
    refine lv_tableIn (tgt := 93) (off := 92) hx hb dX9_reckon_1 (by (first | omega | (have zz0 := Hid.u hb_cn; omega))) (by (first | omega | (have zz0 := Hid.u hb_cn; omega))) (by rw [c_1]; rfl) (by decide) ?_
    refine lv_aload_n hx hb dX9_reckon_93 rfl (lvA0 hl) ?_
    refine lv_iload_n hx hb dX9_reckon_94 rfl (lvA1 hl) ?_
    refine lv_iload_n hx hb dX9_reckon_95 rfl (lvA2 hl) ?_
    refine lv_iload_n hx hb dX9_reckon_96 rfl (lvA3 hl) ?_
    have hFc := free_all hD hS hA
    refine va_calli (runV_xa (As := [.int v0, .int v1, .int v2]) (rest := []) S (q_Xdivide l D cI cB cZ zz qq vv bt g ad cn In Fn k0 v0 v1 v2 s.heap.size hB (by (first | omega | (have zz0 := Hid.u hb_cn; omega)))) kV_RX9_79 hK hXS hS hFc hP hD _ (xf_7 hk) rfl rfl ⟨Nat.le_of_ble_eq_true rfl, Nat.le_of_ble_eq_true rfl⟩ ⟨Nat.le_of_ble_eq_true rfl, Nat.le_of_ble_eq_true rfl⟩ rfl hl.1 rfl (Nat.le_of_ble_eq_true rfl) dX9_reckon_97) hS (fun q _ h => hFc q h) hFc (fun r_8 u t H1 locs ht hvm wh_9 hB1 hz1 hk1 hS => ?_)
    obtain ⟨cn9, In9, Fn9⟩ := u
    obtain ⟨hP1, hD1⟩ := hB1
    rw [ht] at hP1
    have hP : va_P D vwCl (wX cI (D.1 99) zz g ad cn9 In9 Fn9) H1 := hP1
    have hD : va_D A (wX cI (D.1 99) zz g ad cn9 In9 Fn9) := hD1.weaken (fun _ _ _ h => hFc _ h)
    generalize H1 = H at hP hS ⊢
    have vh_9 : (fun r c2 I2 F2 => Fr [] [] [197] cn In Fn c2 I2 F2 ∧ CBX c2 ∧ (True)) r_8 cn9 In9 Fn9 := wh_9
    obtain ⟨hfc9, hIn9, h_9⟩ := vh_9
    obtain rfl : cn = cn9 := (funext (fun k => hfc9.1 k List.not_mem_nil)).symm
    obtain rfl : In = In9 := (funext (fun k => hfc9.2.1 k List.not_mem_nil)).symm
    have hf9 : Fr [] [] [197] cn In Fn cn In Fn9 := Fr.mo (Fr.tr (Fr.rf (cn := cn) (In := In) (Fn := Fn)) hfc9) (sbl rfl) (sbl rfl) (sbl rfl)
    replace hIn9 : CBXh cn := hIn9
    exact W.iret (v := r_8) hx hb hr (fun t ht hW => ⟨⟨r_8, (cn, In, Fn9), rfl, ⟨(Fr.mo hf9 (sbl rfl) (sbl rfl) (sbl rfl)), hIn9, trivial⟩, by rw [ht]; exact hP, hD⟩, hS.F ht⟩) hS.2.2 dX9_reckon_100
  ·
    refine lv_tableIn (tgt := 60) (off := 59) hx hb dX9_reckon_1 (by (first | omega | (have zz0 := Hid.u hb_cn; omega))) (by (first | omega | (have zz0 := Hid.u hb_cn; omega))) (by rw [c_1]; rfl) (by decide) ?_
    refine lv_iload_n hx hb (oc_28 60 (aq_12 shX9_reckon_48)) rfl (lvA2 hl) ?_
    refine lv_iload_n hx hb (oc_29 61 (aq_13 shX9_reckon_48)) rfl (lvA3 hl) ?_
    refine lv_icmp_ge (tgt := 69) hx hb (oc_162 62 (aq_14 shX9_reckon_48) sgw_0_7) rfl (fun c_10 => ?_) (fun c_10 => ?_)
    ·
      have tc_10 : (v2.toInt : Int) ≤ v1.toInt := Int32.le_iff_toInt_le.mp c_10
      refine lv_iconst (v := 0) hx hb (oc_3 69 (aq_21 shX9_reckon_48)) kic_0 ?_
      exact W.iret (v := 0) hx hb hr (fun t ht hW => ⟨⟨0, (cn, In, Fn), rfl, ⟨(Fr.mo Fr.rf (sbl rfl) (sbl rfl) (sbl rfl)), hB, trivial⟩, by rw [ht]; exact hP, hD⟩, hS.F ht⟩) hS.2.2 (oc_172 70 (aq_22 shX9_reckon_48))
    ·
      have tc_10 : (v1.toInt : Int) < v2.toInt := Int32.lt_iff_toInt_lt.mp (Int32.not_le.mp c_10)
      refine lv_iconst (v := 1) hx hb (oc_4 65 (aq_17 shX9_reckon_48)) kic_1 ?_
      refine lv_goto (tgt := 70) hx hb (oc_167 66 (aq_18 shX9_reckon_48) sgw_0_4) rfl ?_
      exact W.iret (v := 1) hx hb hr (fun t ht hW => ⟨⟨1, (cn, In, Fn), rfl, ⟨(Fr.mo Fr.rf (sbl rfl) (sbl rfl) (sbl rfl)), hB, trivial⟩, by rw [ht]; exact hP, hD⟩, hS.F ht⟩) hS.2.2 (oc_172 70 (aq_22 shX9_reckon_48))
  ·
    refine lv_tableIn (tgt := 71) (off := 70) hx hb dX9_reckon_1 (by (first | omega | (have zz0 := Hid.u hb_cn; omega))) (by (first | omega | (have zz0 := Hid.u hb_cn; omega))) (by rw [c_1]; rfl) (by decide) ?_
    refine lv_iload_n hx hb (oc_28 71 (aq_23 shX9_reckon_48)) rfl (lvA2 hl) ?_
    refine lv_iload_n hx hb (oc_29 72 shX9_reckon_72) rfl (lvA3 hl) ?_
    refine lv_icmp_le (tgt := 80) hx hb (oc_164 73 (aq_1 shX9_reckon_72) sgw_0_7) rfl (fun c_11 => ?_) (fun c_11 => ?_)
    ·
      have tc_11 : (v1.toInt : Int) ≤ v2.toInt := Int32.le_iff_toInt_le.mp c_11
      refine lv_iconst (v := 0) hx hb (oc_3 80 (aq_8 shX9_reckon_72)) kic_0 ?_
      exact W.iret (v := 0) hx hb hr (fun t ht hW => ⟨⟨0, (cn, In, Fn), rfl, ⟨(Fr.mo Fr.rf (sbl rfl) (sbl rfl) (sbl rfl)), hB, trivial⟩, by rw [ht]; exact hP, hD⟩, hS.F ht⟩) hS.2.2 (oc_172 81 (aq_9 shX9_reckon_72))
    ·
      have tc_11 : (v2.toInt : Int) < v1.toInt := Int32.lt_iff_toInt_lt.mp (Int32.not_le.mp c_11)
      refine lv_iconst (v := 1) hx hb (oc_4 76 (aq_4 shX9_reckon_72)) kic_1 ?_
      refine lv_goto (tgt := 81) hx hb (oc_167 77 (aq_5 shX9_reckon_72) sgw_0_4) rfl ?_
      exact W.iret (v := 1) hx hb hr (fun t ht hW => ⟨⟨1, (cn, In, Fn), rfl, ⟨(Fr.mo Fr.rf (sbl rfl) (sbl rfl) (sbl rfl)), hB, trivial⟩, by rw [ht]; exact hP, hD⟩, hS.F ht⟩) hS.2.2 (oc_172 81 (aq_9 shX9_reckon_72))
  ·
    refine lv_tableIn (tgt := 82) (off := 81) hx hb dX9_reckon_1 (by (first | omega | (have zz0 := Hid.u hb_cn; omega))) (by (first | omega | (have zz0 := Hid.u hb_cn; omega))) (by rw [c_1]; rfl) (by decide) ?_
    refine lv_iload_n hx hb (oc_28 82 (aq_10 shX9_reckon_72)) rfl (lvA2 hl) ?_
    refine lv_iload_n hx hb (oc_29 83 (aq_11 shX9_reckon_72)) rfl (lvA3 hl) ?_
    refine lv_icmp_ne (tgt := 91) hx hb (oc_160 84 (aq_12 shX9_reckon_72) sgw_0_7) rfl (fun c_12 => ?_) (fun c_12 => ?_)
    ·
      have tc_12 : (v1.toInt : Int) ≠ v2.toInt := fun q => c_12 (Int32.toInt_inj.mp q)
      refine lv_iconst (v := 0) hx hb (oc_3 91 (aq_19 shX9_reckon_72)) kic_0 ?_
      exact W.iret (v := 0) hx hb hr (fun t ht hW => ⟨⟨0, (cn, In, Fn), rfl, ⟨(Fr.mo Fr.rf (sbl rfl) (sbl rfl) (sbl rfl)), hB, trivial⟩, by rw [ht]; exact hP, hD⟩, hS.F ht⟩) hS.2.2 (oc_172 92 (aq_20 shX9_reckon_72))
    ·
      have tc_12 : (v1.toInt : Int) = v2.toInt := congrArg Int32.toInt c_12
      refine lv_iconst (v := 1) hx hb (oc_4 87 (aq_15 shX9_reckon_72)) kic_1 ?_
      refine lv_goto (tgt := 92) hx hb (oc_167 88 (aq_16 shX9_reckon_72) sgw_0_4) rfl ?_
      exact W.iret (v := 1) hx hb hr (fun t ht hW => ⟨⟨1, (cn, In, Fn), rfl, ⟨(Fr.mo Fr.rf (sbl rfl) (sbl rfl) (sbl rfl)), hB, trivial⟩, by rw [ht]; exact hP, hD⟩, hS.F ht⟩) hS.2.2 (oc_172 92 (aq_20 shX9_reckon_72))
set_option maxRecDepth 100000 in
set_option maxHeartbeats 4000000 in
theorem q_Xrun (l : Launch) (D : va_G) (cI cB cZ : ClassId) (zz qq vv : Nat) (bt : Nat → Int32) (g : Nat → Nat) (ad : Nat → Nat → Nat) (cn : Nat → Nat) (In : Nat → Int32) (Fn : Nat → Nat → Int32) (k0 : Nat) (v0 v1 : Int32) (sz : Nat) (hB : CBX cn) (hk : k0 < cn 6) : Met l yX9_run (CWS yX9_run cX9_run 9 (some .int)) (RM 2 0 0) (PBx [.ref (ad 5 k0), .int v0, .int v1, .ref (g 7)] D cI cB cZ zz qq vv bt (wX cI (D.1 99) zz g ad cn In Fn) sz) (va_Qi (fun (r : Int32) (u : (Nat → Nat) × (Nat → Int32) × (Nat → Nat → Int32)) => (fun r c2 I2 F2 => Fr [] [] [196, 197, 305] cn In Fn c2 I2 F2 ∧ CBX c2 ∧ (True)) r u.1 u.2.1 u.2.2) (fun (u : (Nat → Nat) × (Nat → Int32) × (Nat → Nat → Int32)) (t : State) => va_P D vwCl (wX cI (D.1 99) zz g ad u.1 u.2.1 u.2.2) t.heap ∧ va_D (va_A (wX cI (D.1 99) zz g ad cn In Fn) sz) (wX cI (D.1 99) zz g ad u.1 u.2.1 u.2.2)) (va_A (wX cI (D.1 99) zz g ad cn In Fn) sz)) 0 0 (va_A (wX cI (D.1 99) zz g ad cn In Fn) sz) := by
  refine en_x (fun A => (va_Qi (fun (r : Int32) (u : (Nat → Nat) × (Nat → Int32) × (Nat → Nat → Int32)) => (fun (r : Int32) (c2 : Nat → Nat) (I2 : Nat → Int32) (F2 : Nat → Nat → Int32) => Fr [] [] [196, 197, 305] cn In Fn c2 I2 F2 ∧ CBX c2 ∧ (True)) r u.1 u.2.1 u.2.2) (fun (u : (Nat → Nat) × (Nat → Int32) × (Nat → Nat → Int32)) (t : State) => va_P D vwCl (wX cI (D.1 99) zz g ad u.1 u.2.1 u.2.2) t.heap ∧ va_D A (wX cI (D.1 99) zz g ad u.1 u.2.1 u.2.2)) A)) rfl rfl pn_RX9 (Nat.le_of_ble_eq_true rfl) (fun p e s m below meth c A hx hb hml hown S hr hlocks hnm hA hP hK hD hXS hS ls hl => ?_)
  have hl : lv_has ls 9 [(0, .ref (ad 5 k0)), (1, .int v0), (2, .int v1), (3, .ref (g 7))] := hl
  have hb_cn : Hid (CBX cn) := hB
  replace hB : CBXh cn := hB
  refine lv_aload_n hx hb (oc_42 0 shX9_run_0) rfl (lvA0 hl) ?_
  refine lv_iconst (v := 0) hx hb (oc_3 1 (aq_1 shX9_run_0)) kic_0 ?_
  refine pf_RX9_55 S hK hP hD hS _ (xf_7 hk) (v := .int 0) (Nat.le_of_ble_eq_true rfl) rfl rfl (oc_181 2 (aq_2 shX9_run_0) uw_0_55) (fun H locs hP hD hS => ?_)
  have hP : va_P D vwCl (wX cI (D.1 99) zz g ad cn In (va_up Fn 196 (upd (Fn 196) k0 0))) H := va_P_eq (xs_196 (by (first | omega | (have zz0 := Hid.u hb_cn; omega)))) hP
  have hD : va_D A (wX cI (D.1 99) zz g ad cn In (va_up Fn 196 (upd (Fn 196) k0 0))) := va_D_eq (xs_196 (by (first | omega | (have zz0 := Hid.u hb_cn; omega)))) hD
  refine lv_aload_n hx hb (oc_42 5 (aq_5 shX9_run_0)) rfl (lvA0 hl) ?_
  refine lv_iconst (v := 0) hx hb (oc_3 6 (aq_6 shX9_run_0)) kic_0 ?_
  refine pf_RX9_58 S hK hP hD hS _ (xf_7 hk) (v := .int 0) (Nat.le_of_ble_eq_true rfl) rfl rfl (oc_181 7 (aq_7 shX9_run_0) uw_0_58) (fun H locs hP hD hS => ?_)
  have hP : va_P D vwCl (wX cI (D.1 99) zz g ad cn In (va_up (va_up Fn 196 (upd (Fn 196) k0 0)) 197 (upd (Fn 197) k0 0))) H := va_P_eq (xs_197 (by (first | omega | (have zz0 := Hid.u hb_cn; omega)))) hP
  have hD : va_D A (wX cI (D.1 99) zz g ad cn In (va_up (va_up Fn 196 (upd (Fn 196) k0 0)) 197 (upd (Fn 197) k0 0))) := va_D_eq (xs_197 (by (first | omega | (have zz0 := Hid.u hb_cn; omega)))) hD
  refine lv_iload_n hx hb (oc_27 10 (aq_10 shX9_run_0)) rfl (lvA1 hl) ?_
  refine lv_istore (lv' := [(4, .int v0), (0, .ref (ad 5 k0)), (1, .int v0), (2, .int v1), (3, .ref (g 7))]) hx hb (oc_54 11 (aq_11 shX9_run_0) ub_4) hl (ltb rfl) rfl (fun ls hl => ?_)
  refine lv_iload_n hx hb (oc_27 13 (aq_13 shX9_run_0)) rfl (lvA2 hl) ?_
  refine lv_istore (lv' := [(5, .int v0), (4, .int v0), (0, .ref (ad 5 k0)), (1, .int v0), (2, .int v1), (3, .ref (g 7))]) hx hb (oc_54 14 (aq_14 shX9_run_0) ub_5) hl (ltb rfl) rfl (fun ls hl => ?_)
  have lp_16 : ∀ (n : Nat) (x16_4 : Int32) (x16_5 : Int32) (F16 : Nat → Nat → Int32) (H : Heap) (locs : List Loc) , (v1.toInt - x16_5.toInt).toNat < n → (Fr [] [] [196, 197, 305] cn In Fn cn In F16 ∧ CBX cn) → va_P D vwCl (wX cI (D.1 99) zz g ad cn In F16) H → va_D A (wX cI (D.1 99) zz g ad cn In F16) → va_S A s.heap H locs → ∀ ls : Array Slot, lv_has ls 9 [(5, .int x16_5), (4, .int x16_4), (0, .ref (ad 5 k0)), (1, .int v0), (2, .int v1), (3, .ref (g 7))] → W p l e (RM 2 0 0) s m ([.ref (ad 5 k0), .int v0, .int v1, .ref (g 7)]).toArray below meth c H locs 0 0 (MQ below (va_Qi (fun (r : Int32) (u : (Nat → Nat) × (Nat → Int32) × (Nat → Nat → Int32)) => (fun r c2 I2 F2 => Fr [] [] [196, 197, 305] cn In Fn c2 I2 F2 ∧ CBX c2 ∧ (True)) r u.1 u.2.1 u.2.2) (fun (u : (Nat → Nat) × (Nat → Int32) × (Nat → Nat → Int32)) (t : State) => va_P D vwCl (wX cI (D.1 99) zz g ad u.1 u.2.1 u.2.2) t.heap ∧ va_D A (wX cI (D.1 99) zz g ad u.1 u.2.1 u.2.2)) A) ([.ref (ad 5 k0), .int v0, .int v1, .ref (g 7)]).toArray s 0 0 A) (F0 m 16 ls []) := by
    intro n16
    induction n16 with
    | zero => intros; (first | omega | (have zz0 := Hid.u hb_cn; omega))
    | succ n16 ih16 =>
      intro x16_4 x16_5 F16 H locs hmu16 hinv16 hP hD hS ls hl
      obtain ⟨hfr16, hI16⟩ := hinv16
      replace hI16 : CBXh cn := hI16
      refine lv_iload hx hb (oc_21 16 (aq_16 shX9_run_0) ub_5) (lvA0 hl) ?_
      refine lv_iload_n hx hb (oc_28 18 (aq_18 shX9_run_0)) rfl (lvA4 hl) ?_
      refine lv_icmp_ge (tgt := 234) hx hb (oc_162 19 (aq_19 shX9_run_0) sgw_0_215) rfl (fun c_1 => ?_) (fun c_1 => ?_)
      ·
        have tc_1 : (v1.toInt : Int) ≤ x16_5.toInt := Int32.le_iff_toInt_le.mp c_1
        refine lv_aload_n hx hb (oc_42 234 (aq_9 shX9_run_225)) rfl (lvA2 hl) ?_
        have hFc := free_all hD hS hA
        refine va_calli (runV_xa (As := []) (rest := []) S (q_Xpop l D cI cB cZ zz qq vv bt g ad cn In F16 k0 H.size hI16 (by (first | omega | (have zz0 := Hid.u hb_cn; omega)))) kV_RX9_67 hK hXS hS hFc hP hD _ (xf_7 hk) rfl rfl ⟨Nat.le_of_ble_eq_true rfl, Nat.le_of_ble_eq_true rfl⟩ ⟨Nat.le_of_ble_eq_true rfl, Nat.le_of_ble_eq_true rfl⟩ rfl hl.1 rfl (Nat.le_of_ble_eq_true rfl) (oc_182 235 (aq_10 shX9_run_225) uw_0_67)) hS (fun q _ h => hFc q h) hFc (fun r_2 u t H1 locs ht hvm wh_3 hB1 hz1 hk1 hS => ?_)
        obtain ⟨cn3, In3, Fn3⟩ := u
        obtain ⟨hP1, hD1⟩ := hB1
        rw [ht] at hP1
        have hP : va_P D vwCl (wX cI (D.1 99) zz g ad cn3 In3 Fn3) H1 := hP1
        have hD : va_D A (wX cI (D.1 99) zz g ad cn3 In3 Fn3) := hD1.weaken (fun _ _ _ h => hFc _ h)
        generalize H1 = H at hP hS ⊢
        have vh_3 : (fun r c2 I2 F2 => Fr [] [] [196] cn In F16 c2 I2 F2 ∧ CBX c2 ∧ (True)) r_2 cn3 In3 Fn3 := wh_3
        obtain ⟨hfc3, hIn3, h_3⟩ := vh_3
        obtain rfl : cn = cn3 := (funext (fun k => hfc3.1 k List.not_mem_nil)).symm
        obtain rfl : In = In3 := (funext (fun k => hfc3.2.1 k List.not_mem_nil)).symm
        have hf3 : Fr [] [] [196, 197, 305] cn In Fn cn In Fn3 := Fr.mo (Fr.tr hfr16 hfc3) (sbl rfl) (sbl rfl) (sbl rfl)
        replace hIn3 : CBXh cn := hIn3
        refine lv_istore (lv' := [(5, .int r_2), (4, .int x16_4), (0, .ref (ad 5 k0)), (1, .int v0), (2, .int v1), (3, .ref (g 7))]) hx hb (oc_54 238 (aq_13 shX9_run_225) ub_5) hl (ltb rfl) rfl (fun ls hl => ?_)
        refine lv_aload_n hx hb (oc_42 240 (aq_15 shX9_run_225)) rfl (lvA2 hl) ?_
        refine gf_RX9_58 S hK hP _ (xf_7 hk) (v := .int ((Fn3 197) k0)) rfl (oc_180 241 (aq_16 shX9_run_225) uw_0_58) ?_
        refine lv_if_eq (tgt := 251) hx hb (oc_153 244 (aq_19 shX9_run_225) sgw_0_7) rfl (fun c_4 => ?_) (fun c_4 => ?_)
        ·
          have tc_4 : (((Fn3 197) k0).toInt : Int) = 0 := congrArg Int32.toInt c_4
          refine lv_iload hx hb (oc_21 251 shX9_run_251 ub_5) (lvA0 hl) ?_
          exact W.iret (v := r_2) hx hb hr (fun t ht hW => ⟨⟨r_2, (cn, In, Fn3), rfl, ⟨(Fr.mo hf3 (sbl rfl) (sbl rfl) (sbl rfl)), hIn3, trivial⟩, by rw [ht]; exact hP, hD⟩, hS.F ht⟩) hS.2.2 dX9_run_253
        ·
          have tc_4 : (((Fn3 197) k0).toInt : Int) ≠ 0 := fun q => c_4 (Int32.toInt_inj.mp q)
          refine lv_iconst (v := 0) hx hb (oc_3 247 (aq_22 shX9_run_225)) kic_0 ?_
          refine lv_goto (tgt := 253) hx hb (oc_167 248 (aq_23 shX9_run_225) sgw_0_5) rfl ?_
          exact W.iret (v := 0) hx hb hr (fun t ht hW => ⟨⟨0, (cn, In, Fn3), rfl, ⟨(Fr.mo hf3 (sbl rfl) (sbl rfl) (sbl rfl)), hIn3, trivial⟩, by rw [ht]; exact hP, hD⟩, hS.F ht⟩) hS.2.2 dX9_run_253
      ·
        have tc_1 : (x16_5.toInt : Int) < v1.toInt := Int32.lt_iff_toInt_lt.mp (Int32.not_le.mp c_1)
        refine lv_aload_n hx hb (oc_42 22 (aq_22 shX9_run_0)) rfl (lvA2 hl) ?_
        refine gf_RX9_58 S hK hP _ (xf_7 hk) (v := .int ((F16 197) k0)) rfl (oc_180 23 (aq_23 shX9_run_0) uw_0_58) ?_
        refine lv_if_ne (tgt := 234) hx hb (oc_154 26 shX9_run_26 sgw_0_208) rfl (fun c_5 => ?_) (fun c_5 => ?_)
        ·
          have tc_5 : (((F16 197) k0).toInt : Int) ≠ 0 := fun q => c_5 (Int32.toInt_inj.mp q)
          refine lv_aload_n hx hb (oc_42 234 (aq_9 shX9_run_225)) rfl (lvA2 hl) ?_
          have hFc := free_all hD hS hA
          refine va_calli (runV_xa (As := []) (rest := []) S (q_Xpop l D cI cB cZ zz qq vv bt g ad cn In F16 k0 H.size hI16 (by (first | omega | (have zz0 := Hid.u hb_cn; omega)))) kV_RX9_67 hK hXS hS hFc hP hD _ (xf_7 hk) rfl rfl ⟨Nat.le_of_ble_eq_true rfl, Nat.le_of_ble_eq_true rfl⟩ ⟨Nat.le_of_ble_eq_true rfl, Nat.le_of_ble_eq_true rfl⟩ rfl hl.1 rfl (Nat.le_of_ble_eq_true rfl) (oc_182 235 (aq_10 shX9_run_225) uw_0_67)) hS (fun q _ h => hFc q h) hFc (fun r_6 u t H1 locs ht hvm wh_7 hB1 hz1 hk1 hS => ?_)
          obtain ⟨cn7, In7, Fn7⟩ := u
          obtain ⟨hP1, hD1⟩ := hB1
          rw [ht] at hP1
          have hP : va_P D vwCl (wX cI (D.1 99) zz g ad cn7 In7 Fn7) H1 := hP1
          have hD : va_D A (wX cI (D.1 99) zz g ad cn7 In7 Fn7) := hD1.weaken (fun _ _ _ h => hFc _ h)
          generalize H1 = H at hP hS ⊢
          have vh_7 : (fun r c2 I2 F2 => Fr [] [] [196] cn In F16 c2 I2 F2 ∧ CBX c2 ∧ (True)) r_6 cn7 In7 Fn7 := wh_7
          obtain ⟨hfc7, hIn7, h_7⟩ := vh_7
          obtain rfl : cn = cn7 := (funext (fun k => hfc7.1 k List.not_mem_nil)).symm
          obtain rfl : In = In7 := (funext (fun k => hfc7.2.1 k List.not_mem_nil)).symm
          have hf7 : Fr [] [] [196, 197, 305] cn In Fn cn In Fn7 := Fr.mo (Fr.tr hfr16 hfc7) (sbl rfl) (sbl rfl) (sbl rfl)
          replace hIn7 : CBXh cn := hIn7
          refine lv_istore (lv' := [(5, .int r_6), (4, .int x16_4), (0, .ref (ad 5 k0)), (1, .int v0), (2, .int v1), (3, .ref (g 7))]) hx hb (oc_54 238 (aq_13 shX9_run_225) ub_5) hl (ltb rfl) rfl (fun ls hl => ?_)
          refine lv_aload_n hx hb (oc_42 240 (aq_15 shX9_run_225)) rfl (lvA2 hl) ?_
          refine gf_RX9_58 S hK hP _ (xf_7 hk) (v := .int ((Fn7 197) k0)) rfl (oc_180 241 (aq_16 shX9_run_225) uw_0_58) ?_
          refine lv_if_eq (tgt := 251) hx hb (oc_153 244 (aq_19 shX9_run_225) sgw_0_7) rfl (fun c_8 => ?_) (fun c_8 => ?_)
          ·
            have tc_8 : (((Fn7 197) k0).toInt : Int) = 0 := congrArg Int32.toInt c_8
            refine lv_iload hx hb (oc_21 251 shX9_run_251 ub_5) (lvA0 hl) ?_
            exact W.iret (v := r_6) hx hb hr (fun t ht hW => ⟨⟨r_6, (cn, In, Fn7), rfl, ⟨(Fr.mo hf7 (sbl rfl) (sbl rfl) (sbl rfl)), hIn7, trivial⟩, by rw [ht]; exact hP, hD⟩, hS.F ht⟩) hS.2.2 dX9_run_253
          ·
            have tc_8 : (((Fn7 197) k0).toInt : Int) ≠ 0 := fun q => c_8 (Int32.toInt_inj.mp q)
            refine lv_iconst (v := 0) hx hb (oc_3 247 (aq_22 shX9_run_225)) kic_0 ?_
            refine lv_goto (tgt := 253) hx hb (oc_167 248 (aq_23 shX9_run_225) sgw_0_5) rfl ?_
            exact W.iret (v := 0) hx hb hr (fun t ht hW => ⟨⟨0, (cn, In, Fn7), rfl, ⟨(Fr.mo hf7 (sbl rfl) (sbl rfl) (sbl rfl)), hIn7, trivial⟩, by rw [ht]; exact hP, hD⟩, hS.F ht⟩) hS.2.2 dX9_run_253
        ·
          have tc_5 : (((F16 197) k0).toInt : Int) = 0 := congrArg Int32.toInt c_5
          refine lv_iload hx hb (oc_21 29 (aq_3 shX9_run_26) ub_5) (lvA0 hl) ?_
          refine lv_iload hx hb (oc_21 31 (aq_5 shX9_run_26) ub_4) (lvA1 hl) ?_
          refine lv_icmp_ge (tgt := 39) hx hb (oc_162 33 (aq_7 shX9_run_26) sgw_0_6) rfl (fun c_9 => ?_) (fun c_9 => ?_)
          ·
            have tc_9 : (x16_4.toInt : Int) ≤ x16_5.toInt := Int32.le_iff_toInt_le.mp c_9
            refine lv_aload_n hx hb (oc_42 39 (aq_13 shX9_run_26)) rfl (lvA2 hl) ?_
            refine gf_RX9_17 S hK hP _ (xf_7 hk) (v := .ref (ad 60 k0)) rfl (oc_180 40 (aq_14 shX9_run_26) uw_0_17) ?_
            refine lv_iload hx hb (oc_21 43 (aq_17 shX9_run_26) ub_5) (lvA0 hl) ?_
            refine vp_callSi (runS_r (As := [.ref (ad 60 k0), .int x16_5]) (rest := []) S (q_l_at l D cI cB cZ (ad 60 k0) (((F16 199) k0).toInt.toNat) (gA (F16 301) 200 k0) x16_5 (i32n _)) kS_RX9_37 hK hP _ (one_is (xf_8 hk)) ⟨Nat.le_of_ble_eq_true rfl, Nat.le_of_ble_eq_true rfl⟩ ⟨Nat.le_of_ble_eq_true rfl, Nat.le_of_ble_eq_true rfl⟩ rfl hl.1 rfl (Nat.le_of_ble_eq_true rfl) (oc_184 45 (aq_19 shX9_run_26) uw_0_37)) (fun r_10 h_11 => ?_)
            subst h_11
            refine lv_istore (lv' := [(6, .int (atM (gA (F16 301) 200 k0) (((F16 199) k0).toInt.toNat) x16_5)), (5, .int x16_5), (4, .int x16_4), (0, .ref (ad 5 k0)), (1, .int v0), (2, .int v1), (3, .ref (g 7))]) hx hb (oc_54 48 (aq_22 shX9_run_26) ub_6) hl (ltb rfl) rfl (fun ls hl => ?_)
            refine lv_iload hx hb (oc_21 50 shX9_run_50 ub_6) (lvA0 hl) ?_
            refine lv_ldc (v := 1048575) hx hb hown (S.2.2.2.2 _ (wk4_1 5 rfl rfl)) (oc_18 52 (aq_2 shX9_run_50) ub_62) ?_
            refine lv_iand hx hb (oc_126 54 (aq_4 shX9_run_50)) ?_
            refine lv_istore (lv' := [(7, .int ((atM (gA (F16 301) 200 k0) (((F16 199) k0).toInt.toNat) x16_5) &&& 1048575)), (6, .int (atM (gA (F16 301) 200 k0) (((F16 199) k0).toInt.toNat) x16_5)), (5, .int x16_5), (4, .int x16_4), (0, .ref (ad 5 k0)), (1, .int v0), (2, .int v1), (3, .ref (g 7))]) hx hb (oc_54 55 (aq_5 shX9_run_50) ub_7) hl (ltb rfl) rfl (fun ls hl => ?_)
            refine lv_iload hx hb (oc_21 57 (aq_7 shX9_run_50) ub_6) (lvA1 hl) ?_
            refine lv_bipush (v := 20) hx hb (oc_16 59 (aq_9 shX9_run_50) sgb_20) kbc_20 ?_
            refine lv_ishr hx hb (oc_122 61 (aq_11 shX9_run_50)) ?_
            rcases (by (first | omega | (have zz0 := Hid.u hb_cn; omega)) : ((atM (gA (F16 301) 200 k0) (((F16 199) k0).toInt.toNat) x16_5) >>> (20 &&& 31)).toInt < 1 ∨ 13 < ((atM (gA (F16 301) 200 k0) (((F16 199) k0).toInt.toNat) x16_5) >>> (20 &&& 31)).toInt ∨ ((atM (gA (F16 301) 200 k0) (((F16 199) k0).toInt.toNat) x16_5) >>> (20 &&& 31)).toInt = 1 ∨ ((atM (gA (F16 301) 200 k0) (((F16 199) k0).toInt.toNat) x16_5) >>> (20 &&& 31)).toInt = 2 ∨ ((atM (gA (F16 301) 200 k0) (((F16 199) k0).toInt.toNat) x16_5) >>> (20 &&& 31)).toInt = 3 ∨ ((atM (gA (F16 301) 200 k0) (((F16 199) k0).toInt.toNat) x16_5) >>> (20 &&& 31)).toInt = 4 ∨ ((atM (gA (F16 301) 200 k0) (((F16 199) k0).toInt.toNat) x16_5) >>> (20 &&& 31)).toInt = 5 ∨ ((atM (gA (F16 301) 200 k0) (((F16 199) k0).toInt.toNat) x16_5) >>> (20 &&& 31)).toInt = 6 ∨ ((atM (gA (F16 301) 200 k0) (((F16 199) k0).toInt.toNat) x16_5) >>> (20 &&& 31)).toInt = 7 ∨ ((atM (gA (F16 301) 200 k0) (((F16 199) k0).toInt.toNat) x16_5) >>> (20 &&& 31)).toInt = 8 ∨ ((atM (gA (F16 301) 200 k0) (((F16 199) k0).toInt.toNat) x16_5) >>> (20 &&& 31)).toInt = 9 ∨ ((atM (gA (F16 301) 200 k0) (((F16 199) k0).toInt.toNat) x16_5) >>> (20 &&& 31)).toInt = 10 ∨ ((atM (gA (F16 301) 200 k0) (((F16 199) k0).toInt.toNat) x16_5) >>> (20 &&& 31)).toInt = 11 ∨ ((atM (gA (F16 301) 200 k0) (((F16 199) k0).toInt.toNat) x16_5) >>> (20 &&& 31)).toInt = 12 ∨ ((atM (gA (F16 301) 200 k0) (((F16 199) k0).toInt.toNat) x16_5) >>> (20 &&& 31)).toInt = 13) with c_12 | c_12 | c_12 | c_12 | c_12 | c_12 | c_12 | c_12 | c_12 | c_12 | c_12 | c_12 | c_12 | c_12 | c_12
            ·
              refine lv_tableOut (tgt := 203) hx hb dX9_run_62 (Or.inl c_12) (by decide) ?_
              refine lv_aload_n hx hb dX9_run_203 rfl (lvA4 hl) ?_
              have hFc := free_all hD hS hA
              refine va_calli (runV_xa (As := []) (rest := []) S (q_Xpop l D cI cB cZ zz qq vv bt g ad cn In F16 k0 H.size hI16 (by (first | omega | (have zz0 := Hid.u hb_cn; omega)))) kV_RX9_67 hK hXS hS hFc hP hD _ (xf_7 hk) rfl rfl ⟨Nat.le_of_ble_eq_true rfl, Nat.le_of_ble_eq_true rfl⟩ ⟨Nat.le_of_ble_eq_true rfl, Nat.le_of_ble_eq_true rfl⟩ rfl hl.1 rfl (Nat.le_of_ble_eq_true rfl) dX9_run_204) hS (fun q _ h => hFc q h) hFc (fun r_13 u t H1 locs ht hvm wh_14 hB1 hz1 hk1 hS => ?_)
              obtain ⟨cn14, In14, Fn14⟩ := u
              obtain ⟨hP1, hD1⟩ := hB1
              rw [ht] at hP1
              have hP : va_P D vwCl (wX cI (D.1 99) zz g ad cn14 In14 Fn14) H1 := hP1
              have hD : va_D A (wX cI (D.1 99) zz g ad cn14 In14 Fn14) := hD1.weaken (fun _ _ _ h => hFc _ h)
              generalize H1 = H at hP hS ⊢
              have vh_14 : (fun r c2 I2 F2 => Fr [] [] [196] cn In F16 c2 I2 F2 ∧ CBX c2 ∧ (True)) r_13 cn14 In14 Fn14 := wh_14
              obtain ⟨hfc14, hIn14, h_14⟩ := vh_14
              obtain rfl : cn = cn14 := (funext (fun k => hfc14.1 k List.not_mem_nil)).symm
              obtain rfl : In = In14 := (funext (fun k => hfc14.2.1 k List.not_mem_nil)).symm
              have hf14 : Fr [] [] [196, 197, 305] cn In Fn cn In Fn14 := Fr.mo (Fr.tr hfr16 hfc14) (sbl rfl) (sbl rfl) (sbl rfl)
              replace hIn14 : CBXh cn := hIn14
              refine lv_istore (lv' := [(8, .int r_13), (7, .int ((atM (gA (F16 301) 200 k0) (((F16 199) k0).toInt.toNat) x16_5) &&& 1048575)), (6, .int (atM (gA (F16 301) 200 k0) (((F16 199) k0).toInt.toNat) x16_5)), (5, .int x16_5), (4, .int x16_4), (0, .ref (ad 5 k0)), (1, .int v0), (2, .int v1), (3, .ref (g 7))]) hx hb dX9_run_207 hl (ltb rfl) rfl (fun ls hl => ?_)
              refine lv_aload_n hx hb dX9_run_209 rfl (lvA5 hl) ?_
              refine lv_aload_n hx hb dX9_run_210 rfl (lvA5 hl) ?_
              refine lv_iload hx hb dX9_run_211 (lvA2 hl) ?_
              refine lv_bipush (v := 20) hx hb dX9_run_213 kbc_20 ?_
              refine lv_ishr hx hb dX9_run_215 ?_
              refine lv_aload_n hx hb dX9_run_216 rfl (lvA5 hl) ?_
              have hFc := free_all hD hS hA
              refine va_calli (runV_xa (As := []) (rest := [.int ((atM (gA (F16 301) 200 k0) (((F16 199) k0).toInt.toNat) x16_5) >>> (20 &&& 31)), .ref (ad 5 k0), .ref (ad 5 k0)]) S (q_Xpop l D cI cB cZ zz qq vv bt g ad cn In Fn14 k0 H.size hIn14 (by (first | omega | (have zz0 := Hid.u hb_cn; omega)))) kV_RX9_67 hK hXS hS hFc hP hD _ (xf_7 hk) rfl rfl ⟨Nat.le_of_ble_eq_true rfl, Nat.le_of_ble_eq_true rfl⟩ ⟨Nat.le_of_ble_eq_true rfl, Nat.le_of_ble_eq_true rfl⟩ rfl hl.1 rfl (Nat.le_of_ble_eq_true rfl) dX9_run_217) hS (fun q _ h => hFc q h) hFc (fun r_15 u t H1 locs ht hvm wh_16 hB1 hz1 hk1 hS => ?_)
              obtain ⟨cn16, In16, Fn16⟩ := u
              obtain ⟨hP1, hD1⟩ := hB1
              rw [ht] at hP1
              have hP : va_P D vwCl (wX cI (D.1 99) zz g ad cn16 In16 Fn16) H1 := hP1
              have hD : va_D A (wX cI (D.1 99) zz g ad cn16 In16 Fn16) := hD1.weaken (fun _ _ _ h => hFc _ h)
              generalize H1 = H at hP hS ⊢
              have vh_16 : (fun r c2 I2 F2 => Fr [] [] [196] cn In Fn14 c2 I2 F2 ∧ CBX c2 ∧ (True)) r_15 cn16 In16 Fn16 := wh_16
              obtain ⟨hfc16, hIn16, h_16⟩ := vh_16
              obtain rfl : cn = cn16 := (funext (fun k => hfc16.1 k List.not_mem_nil)).symm
              obtain rfl : In = In16 := (funext (fun k => hfc16.2.1 k List.not_mem_nil)).symm
              have hf16 : Fr [] [] [196, 197, 305] cn In Fn cn In Fn16 := Fr.mo (Fr.tr hf14 hfc16) (sbl rfl) (sbl rfl) (sbl rfl)
              replace hIn16 : CBXh cn := hIn16
              refine lv_iload hx hb dX9_run_220 (lvA0 hl) ?_
              have hFc := free_all hD hS hA
              refine va_calli (runV_xa (As := [.int ((atM (gA (F16 301) 200 k0) (((F16 199) k0).toInt.toNat) x16_5) >>> (20 &&& 31)), .int r_15, .int r_13]) (rest := [.ref (ad 5 k0)]) S (q_Xreckon l D cI cB cZ zz qq vv bt g ad cn In Fn16 k0 ((atM (gA (F16 301) 200 k0) (((F16 199) k0).toInt.toNat) x16_5) >>> (20 &&& 31)) r_15 r_13 H.size hIn16 (by (first | omega | (have zz0 := Hid.u hb_cn; omega)))) kV_RX9_75 hK hXS hS hFc hP hD _ (xf_7 hk) rfl rfl ⟨Nat.le_of_ble_eq_true rfl, Nat.le_of_ble_eq_true rfl⟩ ⟨Nat.le_of_ble_eq_true rfl, Nat.le_of_ble_eq_true rfl⟩ rfl hl.1 rfl (Nat.le_of_ble_eq_true rfl) dX9_run_222) hS (fun q _ h => hFc q h) hFc (fun r_17 u t H1 locs ht hvm wh_18 hB1 hz1 hk1 hS => ?_)
              obtain ⟨cn18, In18, Fn18⟩ := u
              obtain ⟨hP1, hD1⟩ := hB1
              rw [ht] at hP1
              have hP : va_P D vwCl (wX cI (D.1 99) zz g ad cn18 In18 Fn18) H1 := hP1
              have hD : va_D A (wX cI (D.1 99) zz g ad cn18 In18 Fn18) := hD1.weaken (fun _ _ _ h => hFc _ h)
              generalize H1 = H at hP hS ⊢
              have vh_18 : (fun r c2 I2 F2 => Fr [] [] [197] cn In Fn16 c2 I2 F2 ∧ CBX c2 ∧ (True)) r_17 cn18 In18 Fn18 := wh_18
              obtain ⟨hfc18, hIn18, h_18⟩ := vh_18
              obtain rfl : cn = cn18 := (funext (fun k => hfc18.1 k List.not_mem_nil)).symm
              obtain rfl : In = In18 := (funext (fun k => hfc18.2.1 k List.not_mem_nil)).symm
              have hf18 : Fr [] [] [196, 197, 305] cn In Fn cn In Fn18 := Fr.mo (Fr.tr hf16 hfc18) (sbl rfl) (sbl rfl) (sbl rfl)
              replace hIn18 : CBXh cn := hIn18
              have hFc := free_all hD hS hA
              refine va_callv (runV_xa (As := [.int r_17]) (rest := []) S (q_Xpush l D cI cB cZ zz qq vv bt g ad cn In Fn18 k0 r_17 H.size hIn18 (by (first | omega | (have zz0 := Hid.u hb_cn; omega)))) kV_RX9_63 hK hXS hS hFc hP hD _ (xf_7 hk) rfl rfl ⟨Nat.le_of_ble_eq_true rfl, Nat.le_of_ble_eq_true rfl⟩ ⟨Nat.le_of_ble_eq_true rfl, Nat.le_of_ble_eq_true rfl⟩ rfl hl.1 rfl (Nat.le_of_ble_eq_true rfl) dX9_run_225) hS (fun q _ h => hFc q h) hFc (fun u t H1 locs ht hvm wh_20 hB1 hz1 hk1 hS => ?_)
              obtain ⟨cn20, In20, Fn20⟩ := u
              obtain ⟨hP1, hD1⟩ := hB1
              rw [ht] at hP1
              have hP : va_P D vwCl (wX cI (D.1 99) zz g ad cn20 In20 Fn20) H1 := hP1
              have hD : va_D A (wX cI (D.1 99) zz g ad cn20 In20 Fn20) := hD1.weaken (fun _ _ _ h => hFc _ h)
              generalize H1 = H at hP hS ⊢
              have vh_20 : (fun c2 I2 F2 => Fr [] [] [196, 305] cn In Fn18 c2 I2 F2 ∧ CBX c2 ∧ (True)) cn20 In20 Fn20 := wh_20
              obtain ⟨hfc20, hIn20, h_20⟩ := vh_20
              obtain rfl : cn = cn20 := (funext (fun k => hfc20.1 k List.not_mem_nil)).symm
              obtain rfl : In = In20 := (funext (fun k => hfc20.2.1 k List.not_mem_nil)).symm
              have hf20 : Fr [] [] [196, 197, 305] cn In Fn cn In Fn20 := Fr.mo (Fr.tr hf18 hfc20) (sbl rfl) (sbl rfl) (sbl rfl)
              replace hIn20 : CBXh cn := hIn20
              have hinc := inc_toInt (x := x16_5) (y := v1) (by (first | omega | (have zz0 := Hid.u hb_cn; omega)))
              refine lv_iinc (v := (x16_5 + 1)) (lv' := [(5, .int (x16_5 + 1)), (8, .int r_13), (7, .int ((atM (gA (F16 301) 200 k0) (((F16 199) k0).toInt.toNat) x16_5) &&& 1048575)), (6, .int (atM (gA (F16 301) 200 k0) (((F16 199) k0).toInt.toNat) x16_5)), (4, .int x16_4), (0, .ref (ad 5 k0)), (1, .int v0), (2, .int v1), (3, .ref (g 7))]) hx hb dX9_run_228 hl (k := 3) rfl rfl (ltb rfl) rfl (fun ls hl => ?_)
              refine lv_goto (tgt := 16) hx hb dX9_run_231 rfl ?_
              exact ih16 x16_4 (x16_5 + 1) Fn20 _ _ (by (first | omega | (have zz0 := Hid.u hb_cn; omega))) ⟨(Fr.mo hf20 (sbl rfl) (sbl rfl) (sbl rfl)), hIn20⟩ hP hD hS ls (lv_sub hl [0, 4, 5, 6, 7, 8] rfl)
            ·
              refine lv_tableOut (tgt := 203) hx hb dX9_run_62 (Or.inr c_12) (by decide) ?_
              refine lv_aload_n hx hb dX9_run_203 rfl (lvA4 hl) ?_
              have hFc := free_all hD hS hA
              refine va_calli (runV_xa (As := []) (rest := []) S (q_Xpop l D cI cB cZ zz qq vv bt g ad cn In F16 k0 H.size hI16 (by (first | omega | (have zz0 := Hid.u hb_cn; omega)))) kV_RX9_67 hK hXS hS hFc hP hD _ (xf_7 hk) rfl rfl ⟨Nat.le_of_ble_eq_true rfl, Nat.le_of_ble_eq_true rfl⟩ ⟨Nat.le_of_ble_eq_true rfl, Nat.le_of_ble_eq_true rfl⟩ rfl hl.1 rfl (Nat.le_of_ble_eq_true rfl) dX9_run_204) hS (fun q _ h => hFc q h) hFc (fun r_21 u t H1 locs ht hvm wh_22 hB1 hz1 hk1 hS => ?_)
              obtain ⟨cn22, In22, Fn22⟩ := u
              obtain ⟨hP1, hD1⟩ := hB1
              rw [ht] at hP1
              have hP : va_P D vwCl (wX cI (D.1 99) zz g ad cn22 In22 Fn22) H1 := hP1
              have hD : va_D A (wX cI (D.1 99) zz g ad cn22 In22 Fn22) := hD1.weaken (fun _ _ _ h => hFc _ h)
              generalize H1 = H at hP hS ⊢
              have vh_22 : (fun r c2 I2 F2 => Fr [] [] [196] cn In F16 c2 I2 F2 ∧ CBX c2 ∧ (True)) r_21 cn22 In22 Fn22 := wh_22
              obtain ⟨hfc22, hIn22, h_22⟩ := vh_22
              obtain rfl : cn = cn22 := (funext (fun k => hfc22.1 k List.not_mem_nil)).symm
              obtain rfl : In = In22 := (funext (fun k => hfc22.2.1 k List.not_mem_nil)).symm
              have hf22 : Fr [] [] [196, 197, 305] cn In Fn cn In Fn22 := Fr.mo (Fr.tr hfr16 hfc22) (sbl rfl) (sbl rfl) (sbl rfl)
              replace hIn22 : CBXh cn := hIn22
              refine lv_istore (lv' := [(8, .int r_21), (7, .int ((atM (gA (F16 301) 200 k0) (((F16 199) k0).toInt.toNat) x16_5) &&& 1048575)), (6, .int (atM (gA (F16 301) 200 k0) (((F16 199) k0).toInt.toNat) x16_5)), (5, .int x16_5), (4, .int x16_4), (0, .ref (ad 5 k0)), (1, .int v0), (2, .int v1), (3, .ref (g 7))]) hx hb dX9_run_207 hl (ltb rfl) rfl (fun ls hl => ?_)
              refine lv_aload_n hx hb dX9_run_209 rfl (lvA5 hl) ?_
              refine lv_aload_n hx hb dX9_run_210 rfl (lvA5 hl) ?_
              refine lv_iload hx hb dX9_run_211 (lvA2 hl) ?_
              refine lv_bipush (v := 20) hx hb dX9_run_213 kbc_20 ?_
              refine lv_ishr hx hb dX9_run_215 ?_
              refine lv_aload_n hx hb dX9_run_216 rfl (lvA5 hl) ?_
              have hFc := free_all hD hS hA
              refine va_calli (runV_xa (As := []) (rest := [.int ((atM (gA (F16 301) 200 k0) (((F16 199) k0).toInt.toNat) x16_5) >>> (20 &&& 31)), .ref (ad 5 k0), .ref (ad 5 k0)]) S (q_Xpop l D cI cB cZ zz qq vv bt g ad cn In Fn22 k0 H.size hIn22 (by (first | omega | (have zz0 := Hid.u hb_cn; omega)))) kV_RX9_67 hK hXS hS hFc hP hD _ (xf_7 hk) rfl rfl ⟨Nat.le_of_ble_eq_true rfl, Nat.le_of_ble_eq_true rfl⟩ ⟨Nat.le_of_ble_eq_true rfl, Nat.le_of_ble_eq_true rfl⟩ rfl hl.1 rfl (Nat.le_of_ble_eq_true rfl) dX9_run_217) hS (fun q _ h => hFc q h) hFc (fun r_23 u t H1 locs ht hvm wh_24 hB1 hz1 hk1 hS => ?_)
              obtain ⟨cn24, In24, Fn24⟩ := u
              obtain ⟨hP1, hD1⟩ := hB1
              rw [ht] at hP1
              have hP : va_P D vwCl (wX cI (D.1 99) zz g ad cn24 In24 Fn24) H1 := hP1
              have hD : va_D A (wX cI (D.1 99) zz g ad cn24 In24 Fn24) := hD1.weaken (fun _ _ _ h => hFc _ h)
              generalize H1 = H at hP hS ⊢
              have vh_24 : (fun r c2 I2 F2 => Fr [] [] [196] cn In Fn22 c2 I2 F2 ∧ CBX c2 ∧ (True)) r_23 cn24 In24 Fn24 := wh_24
              obtain ⟨hfc24, hIn24, h_24⟩ := vh_24
              obtain rfl : cn = cn24 := (funext (fun k => hfc24.1 k List.not_mem_nil)).symm
              obtain rfl : In = In24 := (funext (fun k => hfc24.2.1 k List.not_mem_nil)).symm
              have hf24 : Fr [] [] [196, 197, 305] cn In Fn cn In Fn24 := Fr.mo (Fr.tr hf22 hfc24) (sbl rfl) (sbl rfl) (sbl rfl)
              replace hIn24 : CBXh cn := hIn24
              refine lv_iload hx hb dX9_run_220 (lvA0 hl) ?_
              have hFc := free_all hD hS hA
              refine va_calli (runV_xa (As := [.int ((atM (gA (F16 301) 200 k0) (((F16 199) k0).toInt.toNat) x16_5) >>> (20 &&& 31)), .int r_23, .int r_21]) (rest := [.ref (ad 5 k0)]) S (q_Xreckon l D cI cB cZ zz qq vv bt g ad cn In Fn24 k0 ((atM (gA (F16 301) 200 k0) (((F16 199) k0).toInt.toNat) x16_5) >>> (20 &&& 31)) r_23 r_21 H.size hIn24 (by (first | omega | (have zz0 := Hid.u hb_cn; omega)))) kV_RX9_75 hK hXS hS hFc hP hD _ (xf_7 hk) rfl rfl ⟨Nat.le_of_ble_eq_true rfl, Nat.le_of_ble_eq_true rfl⟩ ⟨Nat.le_of_ble_eq_true rfl, Nat.le_of_ble_eq_true rfl⟩ rfl hl.1 rfl (Nat.le_of_ble_eq_true rfl) dX9_run_222) hS (fun q _ h => hFc q h) hFc (fun r_25 u t H1 locs ht hvm wh_26 hB1 hz1 hk1 hS => ?_)
              obtain ⟨cn26, In26, Fn26⟩ := u
              obtain ⟨hP1, hD1⟩ := hB1
              rw [ht] at hP1
              have hP : va_P D vwCl (wX cI (D.1 99) zz g ad cn26 In26 Fn26) H1 := hP1
              have hD : va_D A (wX cI (D.1 99) zz g ad cn26 In26 Fn26) := hD1.weaken (fun _ _ _ h => hFc _ h)
              generalize H1 = H at hP hS ⊢
              have vh_26 : (fun r c2 I2 F2 => Fr [] [] [197] cn In Fn24 c2 I2 F2 ∧ CBX c2 ∧ (True)) r_25 cn26 In26 Fn26 := wh_26
              obtain ⟨hfc26, hIn26, h_26⟩ := vh_26
              obtain rfl : cn = cn26 := (funext (fun k => hfc26.1 k List.not_mem_nil)).symm
              obtain rfl : In = In26 := (funext (fun k => hfc26.2.1 k List.not_mem_nil)).symm
              have hf26 : Fr [] [] [196, 197, 305] cn In Fn cn In Fn26 := Fr.mo (Fr.tr hf24 hfc26) (sbl rfl) (sbl rfl) (sbl rfl)
              replace hIn26 : CBXh cn := hIn26
              have hFc := free_all hD hS hA
              refine va_callv (runV_xa (As := [.int r_25]) (rest := []) S (q_Xpush l D cI cB cZ zz qq vv bt g ad cn In Fn26 k0 r_25 H.size hIn26 (by (first | omega | (have zz0 := Hid.u hb_cn; omega)))) kV_RX9_63 hK hXS hS hFc hP hD _ (xf_7 hk) rfl rfl ⟨Nat.le_of_ble_eq_true rfl, Nat.le_of_ble_eq_true rfl⟩ ⟨Nat.le_of_ble_eq_true rfl, Nat.le_of_ble_eq_true rfl⟩ rfl hl.1 rfl (Nat.le_of_ble_eq_true rfl) dX9_run_225) hS (fun q _ h => hFc q h) hFc (fun u t H1 locs ht hvm wh_28 hB1 hz1 hk1 hS => ?_)
              obtain ⟨cn28, In28, Fn28⟩ := u
              obtain ⟨hP1, hD1⟩ := hB1
              rw [ht] at hP1
              have hP : va_P D vwCl (wX cI (D.1 99) zz g ad cn28 In28 Fn28) H1 := hP1
              have hD : va_D A (wX cI (D.1 99) zz g ad cn28 In28 Fn28) := hD1.weaken (fun _ _ _ h => hFc _ h)
              generalize H1 = H at hP hS ⊢
              have vh_28 : (fun c2 I2 F2 => Fr [] [] [196, 305] cn In Fn26 c2 I2 F2 ∧ CBX c2 ∧ (True)) cn28 In28 Fn28 := wh_28
              obtain ⟨hfc28, hIn28, h_28⟩ := vh_28
              obtain rfl : cn = cn28 := (funext (fun k => hfc28.1 k List.not_mem_nil)).symm
              obtain rfl : In = In28 := (funext (fun k => hfc28.2.1 k List.not_mem_nil)).symm
              have hf28 : Fr [] [] [196, 197, 305] cn In Fn cn In Fn28 := Fr.mo (Fr.tr hf26 hfc28) (sbl rfl) (sbl rfl) (sbl rfl)
              replace hIn28 : CBXh cn := hIn28
              have hinc := inc_toInt (x := x16_5) (y := v1) (by (first | omega | (have zz0 := Hid.u hb_cn; omega)))
              refine lv_iinc (v := (x16_5 + 1)) (lv' := [(5, .int (x16_5 + 1)), (8, .int r_21), (7, .int ((atM (gA (F16 301) 200 k0) (((F16 199) k0).toInt.toNat) x16_5) &&& 1048575)), (6, .int (atM (gA (F16 301) 200 k0) (((F16 199) k0).toInt.toNat) x16_5)), (4, .int x16_4), (0, .ref (ad 5 k0)), (1, .int v0), (2, .int v1), (3, .ref (g 7))]) hx hb dX9_run_228 hl (k := 3) rfl rfl (ltb rfl) rfl (fun ls hl => ?_)
              refine lv_goto (tgt := 16) hx hb dX9_run_231 rfl ?_
              exact ih16 x16_4 (x16_5 + 1) Fn28 _ _ (by (first | omega | (have zz0 := Hid.u hb_cn; omega))) ⟨(Fr.mo hf28 (sbl rfl) (sbl rfl) (sbl rfl)), hIn28⟩ hP hD hS ls (lv_sub hl [0, 4, 5, 6, 7, 8] rfl)
            ·
              refine lv_tableIn (tgt := 128) (off := 66) hx hb dX9_run_62 (by (first | omega | (have zz0 := Hid.u hb_cn; omega))) (by (first | omega | (have zz0 := Hid.u hb_cn; omega))) (by rw [c_12]; rfl) (by decide) ?_
              refine lv_aload_n hx hb (oc_42 128 shX9_run_128) rfl (lvA4 hl) ?_
              refine lv_iload hx hb (oc_21 129 (aq_1 shX9_run_128) ub_7) (lvA0 hl) ?_
              have hFc := free_all hD hS hA
              refine va_callv (runV_xa (As := [.int ((atM (gA (F16 301) 200 k0) (((F16 199) k0).toInt.toNat) x16_5) &&& 1048575)]) (rest := []) S (q_Xpush l D cI cB cZ zz qq vv bt g ad cn In F16 k0 ((atM (gA (F16 301) 200 k0) (((F16 199) k0).toInt.toNat) x16_5) &&& 1048575) H.size hI16 (by (first | omega | (have zz0 := Hid.u hb_cn; omega)))) kV_RX9_63 hK hXS hS hFc hP hD _ (xf_7 hk) rfl rfl ⟨Nat.le_of_ble_eq_true rfl, Nat.le_of_ble_eq_true rfl⟩ ⟨Nat.le_of_ble_eq_true rfl, Nat.le_of_ble_eq_true rfl⟩ rfl hl.1 rfl (Nat.le_of_ble_eq_true rfl) (oc_182 131 (aq_3 shX9_run_128) uw_0_63)) hS (fun q _ h => hFc q h) hFc (fun u t H1 locs ht hvm wh_30 hB1 hz1 hk1 hS => ?_)
              obtain ⟨cn30, In30, Fn30⟩ := u
              obtain ⟨hP1, hD1⟩ := hB1
              rw [ht] at hP1
              have hP : va_P D vwCl (wX cI (D.1 99) zz g ad cn30 In30 Fn30) H1 := hP1
              have hD : va_D A (wX cI (D.1 99) zz g ad cn30 In30 Fn30) := hD1.weaken (fun _ _ _ h => hFc _ h)
              generalize H1 = H at hP hS ⊢
              have vh_30 : (fun c2 I2 F2 => Fr [] [] [196, 305] cn In F16 c2 I2 F2 ∧ CBX c2 ∧ (True)) cn30 In30 Fn30 := wh_30
              obtain ⟨hfc30, hIn30, h_30⟩ := vh_30
              obtain rfl : cn = cn30 := (funext (fun k => hfc30.1 k List.not_mem_nil)).symm
              obtain rfl : In = In30 := (funext (fun k => hfc30.2.1 k List.not_mem_nil)).symm
              have hf30 : Fr [] [] [196, 197, 305] cn In Fn cn In Fn30 := Fr.mo (Fr.tr hfr16 hfc30) (sbl rfl) (sbl rfl) (sbl rfl)
              replace hIn30 : CBXh cn := hIn30
              refine lv_goto (tgt := 228) hx hb (oc_167 134 (aq_6 shX9_run_128) sgw_0_94) rfl ?_
              have hinc := inc_toInt (x := x16_5) (y := v1) (by (first | omega | (have zz0 := Hid.u hb_cn; omega)))
              refine lv_iinc (v := (x16_5 + 1)) (lv' := [(5, .int (x16_5 + 1)), (7, .int ((atM (gA (F16 301) 200 k0) (((F16 199) k0).toInt.toNat) x16_5) &&& 1048575)), (6, .int (atM (gA (F16 301) 200 k0) (((F16 199) k0).toInt.toNat) x16_5)), (4, .int x16_4), (0, .ref (ad 5 k0)), (1, .int v0), (2, .int v1), (3, .ref (g 7))]) hx hb dX9_run_228 hl (k := 2) rfl rfl (ltb rfl) rfl (fun ls hl => ?_)
              refine lv_goto (tgt := 16) hx hb dX9_run_231 rfl ?_
              exact ih16 x16_4 (x16_5 + 1) Fn30 _ _ (by (first | omega | (have zz0 := Hid.u hb_cn; omega))) ⟨(Fr.mo hf30 (sbl rfl) (sbl rfl) (sbl rfl)), hIn30⟩ hP hD hS ls (lv_sub hl [0, 3, 4, 5, 6, 7] rfl)
            ·
              refine lv_tableIn (tgt := 137) (off := 75) hx hb dX9_run_62 (by (first | omega | (have zz0 := Hid.u hb_cn; omega))) (by (first | omega | (have zz0 := Hid.u hb_cn; omega))) (by rw [c_12]; rfl) (by decide) ?_
              refine lv_aload_n hx hb (oc_42 137 (aq_9 shX9_run_128)) rfl (lvA4 hl) ?_
              refine lv_aload_n hx hb (oc_45 138 (aq_10 shX9_run_128)) rfl (lvA7 hl) ?_
              refine lv_iload hx hb (oc_21 139 (aq_11 shX9_run_128) ub_7) (lvA0 hl) ?_
              refine vp_callSi (runS_r (As := [.ref (g 7), .int ((atM (gA (F16 301) 200 k0) (((F16 199) k0).toInt.toNat) x16_5) &&& 1048575)]) (rest := [.ref (ad 5 k0)]) S (q_l_at l D cI cB cZ (g 7) 11 (F16 7) ((atM (gA (F16 301) 200 k0) (((F16 199) k0).toInt.toNat) x16_5) &&& 1048575) (by (first | omega | (have zz0 := Hid.u hb_cn; omega)))) kS_RX9_37 hK hP [5] (one_is xo_5) ⟨Nat.le_of_ble_eq_true rfl, Nat.le_of_ble_eq_true rfl⟩ ⟨Nat.le_of_ble_eq_true rfl, Nat.le_of_ble_eq_true rfl⟩ rfl hl.1 rfl (Nat.le_of_ble_eq_true rfl) (oc_184 141 (aq_13 shX9_run_128) uw_0_37)) (fun r_31 h_32 => ?_)
              subst h_32
              have hFc := free_all hD hS hA
              refine va_callv (runV_xa (As := [.int (atM (F16 7) 11 ((atM (gA (F16 301) 200 k0) (((F16 199) k0).toInt.toNat) x16_5) &&& 1048575))]) (rest := []) S (q_Xpush l D cI cB cZ zz qq vv bt g ad cn In F16 k0 (atM (F16 7) 11 ((atM (gA (F16 301) 200 k0) (((F16 199) k0).toInt.toNat) x16_5) &&& 1048575)) H.size hI16 (by (first | omega | (have zz0 := Hid.u hb_cn; omega)))) kV_RX9_63 hK hXS hS hFc hP hD _ (xf_7 hk) rfl rfl ⟨Nat.le_of_ble_eq_true rfl, Nat.le_of_ble_eq_true rfl⟩ ⟨Nat.le_of_ble_eq_true rfl, Nat.le_of_ble_eq_true rfl⟩ rfl hl.1 rfl (Nat.le_of_ble_eq_true rfl) (oc_182 144 (aq_16 shX9_run_128) uw_0_63)) hS (fun q _ h => hFc q h) hFc (fun u t H1 locs ht hvm wh_34 hB1 hz1 hk1 hS => ?_)
              obtain ⟨cn34, In34, Fn34⟩ := u
              obtain ⟨hP1, hD1⟩ := hB1
              rw [ht] at hP1
              have hP : va_P D vwCl (wX cI (D.1 99) zz g ad cn34 In34 Fn34) H1 := hP1
              have hD : va_D A (wX cI (D.1 99) zz g ad cn34 In34 Fn34) := hD1.weaken (fun _ _ _ h => hFc _ h)
              generalize H1 = H at hP hS ⊢
              have vh_34 : (fun c2 I2 F2 => Fr [] [] [196, 305] cn In F16 c2 I2 F2 ∧ CBX c2 ∧ (True)) cn34 In34 Fn34 := wh_34
              obtain ⟨hfc34, hIn34, h_34⟩ := vh_34
              obtain rfl : cn = cn34 := (funext (fun k => hfc34.1 k List.not_mem_nil)).symm
              obtain rfl : In = In34 := (funext (fun k => hfc34.2.1 k List.not_mem_nil)).symm
              have hf34 : Fr [] [] [196, 197, 305] cn In Fn cn In Fn34 := Fr.mo (Fr.tr hfr16 hfc34) (sbl rfl) (sbl rfl) (sbl rfl)
              replace hIn34 : CBXh cn := hIn34
              refine lv_goto (tgt := 228) hx hb (oc_167 147 (aq_19 shX9_run_128) sgw_0_81) rfl ?_
              have hinc := inc_toInt (x := x16_5) (y := v1) (by (first | omega | (have zz0 := Hid.u hb_cn; omega)))
              refine lv_iinc (v := (x16_5 + 1)) (lv' := [(5, .int (x16_5 + 1)), (7, .int ((atM (gA (F16 301) 200 k0) (((F16 199) k0).toInt.toNat) x16_5) &&& 1048575)), (6, .int (atM (gA (F16 301) 200 k0) (((F16 199) k0).toInt.toNat) x16_5)), (4, .int x16_4), (0, .ref (ad 5 k0)), (1, .int v0), (2, .int v1), (3, .ref (g 7))]) hx hb dX9_run_228 hl (k := 2) rfl rfl (ltb rfl) rfl (fun ls hl => ?_)
              refine lv_goto (tgt := 16) hx hb dX9_run_231 rfl ?_
              exact ih16 x16_4 (x16_5 + 1) Fn34 _ _ (by (first | omega | (have zz0 := Hid.u hb_cn; omega))) ⟨(Fr.mo hf34 (sbl rfl) (sbl rfl) (sbl rfl)), hIn34⟩ hP hD hS ls (lv_sub hl [0, 3, 4, 5, 6, 7] rfl)
            ·
              refine lv_tableIn (tgt := 203) (off := 141) hx hb dX9_run_62 (by (first | omega | (have zz0 := Hid.u hb_cn; omega))) (by (first | omega | (have zz0 := Hid.u hb_cn; omega))) (by rw [c_12]; rfl) (by decide) ?_
              refine lv_aload_n hx hb dX9_run_203 rfl (lvA4 hl) ?_
              have hFc := free_all hD hS hA
              refine va_calli (runV_xa (As := []) (rest := []) S (q_Xpop l D cI cB cZ zz qq vv bt g ad cn In F16 k0 H.size hI16 (by (first | omega | (have zz0 := Hid.u hb_cn; omega)))) kV_RX9_67 hK hXS hS hFc hP hD _ (xf_7 hk) rfl rfl ⟨Nat.le_of_ble_eq_true rfl, Nat.le_of_ble_eq_true rfl⟩ ⟨Nat.le_of_ble_eq_true rfl, Nat.le_of_ble_eq_true rfl⟩ rfl hl.1 rfl (Nat.le_of_ble_eq_true rfl) dX9_run_204) hS (fun q _ h => hFc q h) hFc (fun r_35 u t H1 locs ht hvm wh_36 hB1 hz1 hk1 hS => ?_)
              obtain ⟨cn36, In36, Fn36⟩ := u
              obtain ⟨hP1, hD1⟩ := hB1
              rw [ht] at hP1
              have hP : va_P D vwCl (wX cI (D.1 99) zz g ad cn36 In36 Fn36) H1 := hP1
              have hD : va_D A (wX cI (D.1 99) zz g ad cn36 In36 Fn36) := hD1.weaken (fun _ _ _ h => hFc _ h)
              generalize H1 = H at hP hS ⊢
              have vh_36 : (fun r c2 I2 F2 => Fr [] [] [196] cn In F16 c2 I2 F2 ∧ CBX c2 ∧ (True)) r_35 cn36 In36 Fn36 := wh_36
              obtain ⟨hfc36, hIn36, h_36⟩ := vh_36
              obtain rfl : cn = cn36 := (funext (fun k => hfc36.1 k List.not_mem_nil)).symm
              obtain rfl : In = In36 := (funext (fun k => hfc36.2.1 k List.not_mem_nil)).symm
              have hf36 : Fr [] [] [196, 197, 305] cn In Fn cn In Fn36 := Fr.mo (Fr.tr hfr16 hfc36) (sbl rfl) (sbl rfl) (sbl rfl)
              replace hIn36 : CBXh cn := hIn36
              refine lv_istore (lv' := [(8, .int r_35), (7, .int ((atM (gA (F16 301) 200 k0) (((F16 199) k0).toInt.toNat) x16_5) &&& 1048575)), (6, .int (atM (gA (F16 301) 200 k0) (((F16 199) k0).toInt.toNat) x16_5)), (5, .int x16_5), (4, .int x16_4), (0, .ref (ad 5 k0)), (1, .int v0), (2, .int v1), (3, .ref (g 7))]) hx hb dX9_run_207 hl (ltb rfl) rfl (fun ls hl => ?_)
              refine lv_aload_n hx hb dX9_run_209 rfl (lvA5 hl) ?_
              refine lv_aload_n hx hb dX9_run_210 rfl (lvA5 hl) ?_
              refine lv_iload hx hb dX9_run_211 (lvA2 hl) ?_
              refine lv_bipush (v := 20) hx hb dX9_run_213 kbc_20 ?_
              refine lv_ishr hx hb dX9_run_215 ?_
              refine lv_aload_n hx hb dX9_run_216 rfl (lvA5 hl) ?_
              have hFc := free_all hD hS hA
              refine va_calli (runV_xa (As := []) (rest := [.int ((atM (gA (F16 301) 200 k0) (((F16 199) k0).toInt.toNat) x16_5) >>> (20 &&& 31)), .ref (ad 5 k0), .ref (ad 5 k0)]) S (q_Xpop l D cI cB cZ zz qq vv bt g ad cn In Fn36 k0 H.size hIn36 (by (first | omega | (have zz0 := Hid.u hb_cn; omega)))) kV_RX9_67 hK hXS hS hFc hP hD _ (xf_7 hk) rfl rfl ⟨Nat.le_of_ble_eq_true rfl, Nat.le_of_ble_eq_true rfl⟩ ⟨Nat.le_of_ble_eq_true rfl, Nat.le_of_ble_eq_true rfl⟩ rfl hl.1 rfl (Nat.le_of_ble_eq_true rfl) dX9_run_217) hS (fun q _ h => hFc q h) hFc (fun r_37 u t H1 locs ht hvm wh_38 hB1 hz1 hk1 hS => ?_)
              obtain ⟨cn38, In38, Fn38⟩ := u
              obtain ⟨hP1, hD1⟩ := hB1
              rw [ht] at hP1
              have hP : va_P D vwCl (wX cI (D.1 99) zz g ad cn38 In38 Fn38) H1 := hP1
              have hD : va_D A (wX cI (D.1 99) zz g ad cn38 In38 Fn38) := hD1.weaken (fun _ _ _ h => hFc _ h)
              generalize H1 = H at hP hS ⊢
              have vh_38 : (fun r c2 I2 F2 => Fr [] [] [196] cn In Fn36 c2 I2 F2 ∧ CBX c2 ∧ (True)) r_37 cn38 In38 Fn38 := wh_38
              obtain ⟨hfc38, hIn38, h_38⟩ := vh_38
              obtain rfl : cn = cn38 := (funext (fun k => hfc38.1 k List.not_mem_nil)).symm
              obtain rfl : In = In38 := (funext (fun k => hfc38.2.1 k List.not_mem_nil)).symm
              have hf38 : Fr [] [] [196, 197, 305] cn In Fn cn In Fn38 := Fr.mo (Fr.tr hf36 hfc38) (sbl rfl) (sbl rfl) (sbl rfl)
              replace hIn38 : CBXh cn := hIn38
              refine lv_iload hx hb dX9_run_220 (lvA0 hl) ?_
              have hFc := free_all hD hS hA
              refine va_calli (runV_xa (As := [.int ((atM (gA (F16 301) 200 k0) (((F16 199) k0).toInt.toNat) x16_5) >>> (20 &&& 31)), .int r_37, .int r_35]) (rest := [.ref (ad 5 k0)]) S (q_Xreckon l D cI cB cZ zz qq vv bt g ad cn In Fn38 k0 ((atM (gA (F16 301) 200 k0) (((F16 199) k0).toInt.toNat) x16_5) >>> (20 &&& 31)) r_37 r_35 H.size hIn38 (by (first | omega | (have zz0 := Hid.u hb_cn; omega)))) kV_RX9_75 hK hXS hS hFc hP hD _ (xf_7 hk) rfl rfl ⟨Nat.le_of_ble_eq_true rfl, Nat.le_of_ble_eq_true rfl⟩ ⟨Nat.le_of_ble_eq_true rfl, Nat.le_of_ble_eq_true rfl⟩ rfl hl.1 rfl (Nat.le_of_ble_eq_true rfl) dX9_run_222) hS (fun q _ h => hFc q h) hFc (fun r_39 u t H1 locs ht hvm wh_40 hB1 hz1 hk1 hS => ?_)
              obtain ⟨cn40, In40, Fn40⟩ := u
              obtain ⟨hP1, hD1⟩ := hB1
              rw [ht] at hP1
              have hP : va_P D vwCl (wX cI (D.1 99) zz g ad cn40 In40 Fn40) H1 := hP1
              have hD : va_D A (wX cI (D.1 99) zz g ad cn40 In40 Fn40) := hD1.weaken (fun _ _ _ h => hFc _ h)
              generalize H1 = H at hP hS ⊢
              have vh_40 : (fun r c2 I2 F2 => Fr [] [] [197] cn In Fn38 c2 I2 F2 ∧ CBX c2 ∧ (True)) r_39 cn40 In40 Fn40 := wh_40
              obtain ⟨hfc40, hIn40, h_40⟩ := vh_40
              obtain rfl : cn = cn40 := (funext (fun k => hfc40.1 k List.not_mem_nil)).symm
              obtain rfl : In = In40 := (funext (fun k => hfc40.2.1 k List.not_mem_nil)).symm
              have hf40 : Fr [] [] [196, 197, 305] cn In Fn cn In Fn40 := Fr.mo (Fr.tr hf38 hfc40) (sbl rfl) (sbl rfl) (sbl rfl)
              replace hIn40 : CBXh cn := hIn40
              have hFc := free_all hD hS hA
              refine va_callv (runV_xa (As := [.int r_39]) (rest := []) S (q_Xpush l D cI cB cZ zz qq vv bt g ad cn In Fn40 k0 r_39 H.size hIn40 (by (first | omega | (have zz0 := Hid.u hb_cn; omega)))) kV_RX9_63 hK hXS hS hFc hP hD _ (xf_7 hk) rfl rfl ⟨Nat.le_of_ble_eq_true rfl, Nat.le_of_ble_eq_true rfl⟩ ⟨Nat.le_of_ble_eq_true rfl, Nat.le_of_ble_eq_true rfl⟩ rfl hl.1 rfl (Nat.le_of_ble_eq_true rfl) dX9_run_225) hS (fun q _ h => hFc q h) hFc (fun u t H1 locs ht hvm wh_42 hB1 hz1 hk1 hS => ?_)
              obtain ⟨cn42, In42, Fn42⟩ := u
              obtain ⟨hP1, hD1⟩ := hB1
              rw [ht] at hP1
              have hP : va_P D vwCl (wX cI (D.1 99) zz g ad cn42 In42 Fn42) H1 := hP1
              have hD : va_D A (wX cI (D.1 99) zz g ad cn42 In42 Fn42) := hD1.weaken (fun _ _ _ h => hFc _ h)
              generalize H1 = H at hP hS ⊢
              have vh_42 : (fun c2 I2 F2 => Fr [] [] [196, 305] cn In Fn40 c2 I2 F2 ∧ CBX c2 ∧ (True)) cn42 In42 Fn42 := wh_42
              obtain ⟨hfc42, hIn42, h_42⟩ := vh_42
              obtain rfl : cn = cn42 := (funext (fun k => hfc42.1 k List.not_mem_nil)).symm
              obtain rfl : In = In42 := (funext (fun k => hfc42.2.1 k List.not_mem_nil)).symm
              have hf42 : Fr [] [] [196, 197, 305] cn In Fn cn In Fn42 := Fr.mo (Fr.tr hf40 hfc42) (sbl rfl) (sbl rfl) (sbl rfl)
              replace hIn42 : CBXh cn := hIn42
              have hinc := inc_toInt (x := x16_5) (y := v1) (by (first | omega | (have zz0 := Hid.u hb_cn; omega)))
              refine lv_iinc (v := (x16_5 + 1)) (lv' := [(5, .int (x16_5 + 1)), (8, .int r_35), (7, .int ((atM (gA (F16 301) 200 k0) (((F16 199) k0).toInt.toNat) x16_5) &&& 1048575)), (6, .int (atM (gA (F16 301) 200 k0) (((F16 199) k0).toInt.toNat) x16_5)), (4, .int x16_4), (0, .ref (ad 5 k0)), (1, .int v0), (2, .int v1), (3, .ref (g 7))]) hx hb dX9_run_228 hl (k := 3) rfl rfl (ltb rfl) rfl (fun ls hl => ?_)
              refine lv_goto (tgt := 16) hx hb dX9_run_231 rfl ?_
              exact ih16 x16_4 (x16_5 + 1) Fn42 _ _ (by (first | omega | (have zz0 := Hid.u hb_cn; omega))) ⟨(Fr.mo hf42 (sbl rfl) (sbl rfl) (sbl rfl)), hIn42⟩ hP hD hS ls (lv_sub hl [0, 4, 5, 6, 7, 8] rfl)
            ·
              refine lv_tableIn (tgt := 203) (off := 141) hx hb dX9_run_62 (by (first | omega | (have zz0 := Hid.u hb_cn; omega))) (by (first | omega | (have zz0 := Hid.u hb_cn; omega))) (by rw [c_12]; rfl) (by decide) ?_
              refine lv_aload_n hx hb dX9_run_203 rfl (lvA4 hl) ?_
              have hFc := free_all hD hS hA
              refine va_calli (runV_xa (As := []) (rest := []) S (q_Xpop l D cI cB cZ zz qq vv bt g ad cn In F16 k0 H.size hI16 (by (first | omega | (have zz0 := Hid.u hb_cn; omega)))) kV_RX9_67 hK hXS hS hFc hP hD _ (xf_7 hk) rfl rfl ⟨Nat.le_of_ble_eq_true rfl, Nat.le_of_ble_eq_true rfl⟩ ⟨Nat.le_of_ble_eq_true rfl, Nat.le_of_ble_eq_true rfl⟩ rfl hl.1 rfl (Nat.le_of_ble_eq_true rfl) dX9_run_204) hS (fun q _ h => hFc q h) hFc (fun r_43 u t H1 locs ht hvm wh_44 hB1 hz1 hk1 hS => ?_)
              obtain ⟨cn44, In44, Fn44⟩ := u
              obtain ⟨hP1, hD1⟩ := hB1
              rw [ht] at hP1
              have hP : va_P D vwCl (wX cI (D.1 99) zz g ad cn44 In44 Fn44) H1 := hP1
              have hD : va_D A (wX cI (D.1 99) zz g ad cn44 In44 Fn44) := hD1.weaken (fun _ _ _ h => hFc _ h)
              generalize H1 = H at hP hS ⊢
              have vh_44 : (fun r c2 I2 F2 => Fr [] [] [196] cn In F16 c2 I2 F2 ∧ CBX c2 ∧ (True)) r_43 cn44 In44 Fn44 := wh_44
              obtain ⟨hfc44, hIn44, h_44⟩ := vh_44
              obtain rfl : cn = cn44 := (funext (fun k => hfc44.1 k List.not_mem_nil)).symm
              obtain rfl : In = In44 := (funext (fun k => hfc44.2.1 k List.not_mem_nil)).symm
              have hf44 : Fr [] [] [196, 197, 305] cn In Fn cn In Fn44 := Fr.mo (Fr.tr hfr16 hfc44) (sbl rfl) (sbl rfl) (sbl rfl)
              replace hIn44 : CBXh cn := hIn44
              refine lv_istore (lv' := [(8, .int r_43), (7, .int ((atM (gA (F16 301) 200 k0) (((F16 199) k0).toInt.toNat) x16_5) &&& 1048575)), (6, .int (atM (gA (F16 301) 200 k0) (((F16 199) k0).toInt.toNat) x16_5)), (5, .int x16_5), (4, .int x16_4), (0, .ref (ad 5 k0)), (1, .int v0), (2, .int v1), (3, .ref (g 7))]) hx hb dX9_run_207 hl (ltb rfl) rfl (fun ls hl => ?_)
              refine lv_aload_n hx hb dX9_run_209 rfl (lvA5 hl) ?_
              refine lv_aload_n hx hb dX9_run_210 rfl (lvA5 hl) ?_
              refine lv_iload hx hb dX9_run_211 (lvA2 hl) ?_
              refine lv_bipush (v := 20) hx hb dX9_run_213 kbc_20 ?_
              refine lv_ishr hx hb dX9_run_215 ?_
              refine lv_aload_n hx hb dX9_run_216 rfl (lvA5 hl) ?_
              have hFc := free_all hD hS hA
              refine va_calli (runV_xa (As := []) (rest := [.int ((atM (gA (F16 301) 200 k0) (((F16 199) k0).toInt.toNat) x16_5) >>> (20 &&& 31)), .ref (ad 5 k0), .ref (ad 5 k0)]) S (q_Xpop l D cI cB cZ zz qq vv bt g ad cn In Fn44 k0 H.size hIn44 (by (first | omega | (have zz0 := Hid.u hb_cn; omega)))) kV_RX9_67 hK hXS hS hFc hP hD _ (xf_7 hk) rfl rfl ⟨Nat.le_of_ble_eq_true rfl, Nat.le_of_ble_eq_true rfl⟩ ⟨Nat.le_of_ble_eq_true rfl, Nat.le_of_ble_eq_true rfl⟩ rfl hl.1 rfl (Nat.le_of_ble_eq_true rfl) dX9_run_217) hS (fun q _ h => hFc q h) hFc (fun r_45 u t H1 locs ht hvm wh_46 hB1 hz1 hk1 hS => ?_)
              obtain ⟨cn46, In46, Fn46⟩ := u
              obtain ⟨hP1, hD1⟩ := hB1
              rw [ht] at hP1
              have hP : va_P D vwCl (wX cI (D.1 99) zz g ad cn46 In46 Fn46) H1 := hP1
              have hD : va_D A (wX cI (D.1 99) zz g ad cn46 In46 Fn46) := hD1.weaken (fun _ _ _ h => hFc _ h)
              generalize H1 = H at hP hS ⊢
              have vh_46 : (fun r c2 I2 F2 => Fr [] [] [196] cn In Fn44 c2 I2 F2 ∧ CBX c2 ∧ (True)) r_45 cn46 In46 Fn46 := wh_46
              obtain ⟨hfc46, hIn46, h_46⟩ := vh_46
              obtain rfl : cn = cn46 := (funext (fun k => hfc46.1 k List.not_mem_nil)).symm
              obtain rfl : In = In46 := (funext (fun k => hfc46.2.1 k List.not_mem_nil)).symm
              have hf46 : Fr [] [] [196, 197, 305] cn In Fn cn In Fn46 := Fr.mo (Fr.tr hf44 hfc46) (sbl rfl) (sbl rfl) (sbl rfl)
              replace hIn46 : CBXh cn := hIn46
              refine lv_iload hx hb dX9_run_220 (lvA0 hl) ?_
              have hFc := free_all hD hS hA
              refine va_calli (runV_xa (As := [.int ((atM (gA (F16 301) 200 k0) (((F16 199) k0).toInt.toNat) x16_5) >>> (20 &&& 31)), .int r_45, .int r_43]) (rest := [.ref (ad 5 k0)]) S (q_Xreckon l D cI cB cZ zz qq vv bt g ad cn In Fn46 k0 ((atM (gA (F16 301) 200 k0) (((F16 199) k0).toInt.toNat) x16_5) >>> (20 &&& 31)) r_45 r_43 H.size hIn46 (by (first | omega | (have zz0 := Hid.u hb_cn; omega)))) kV_RX9_75 hK hXS hS hFc hP hD _ (xf_7 hk) rfl rfl ⟨Nat.le_of_ble_eq_true rfl, Nat.le_of_ble_eq_true rfl⟩ ⟨Nat.le_of_ble_eq_true rfl, Nat.le_of_ble_eq_true rfl⟩ rfl hl.1 rfl (Nat.le_of_ble_eq_true rfl) dX9_run_222) hS (fun q _ h => hFc q h) hFc (fun r_47 u t H1 locs ht hvm wh_48 hB1 hz1 hk1 hS => ?_)
              obtain ⟨cn48, In48, Fn48⟩ := u
              obtain ⟨hP1, hD1⟩ := hB1
              rw [ht] at hP1
              have hP : va_P D vwCl (wX cI (D.1 99) zz g ad cn48 In48 Fn48) H1 := hP1
              have hD : va_D A (wX cI (D.1 99) zz g ad cn48 In48 Fn48) := hD1.weaken (fun _ _ _ h => hFc _ h)
              generalize H1 = H at hP hS ⊢
              have vh_48 : (fun r c2 I2 F2 => Fr [] [] [197] cn In Fn46 c2 I2 F2 ∧ CBX c2 ∧ (True)) r_47 cn48 In48 Fn48 := wh_48
              obtain ⟨hfc48, hIn48, h_48⟩ := vh_48
              obtain rfl : cn = cn48 := (funext (fun k => hfc48.1 k List.not_mem_nil)).symm
              obtain rfl : In = In48 := (funext (fun k => hfc48.2.1 k List.not_mem_nil)).symm
              have hf48 : Fr [] [] [196, 197, 305] cn In Fn cn In Fn48 := Fr.mo (Fr.tr hf46 hfc48) (sbl rfl) (sbl rfl) (sbl rfl)
              replace hIn48 : CBXh cn := hIn48
              have hFc := free_all hD hS hA
              refine va_callv (runV_xa (As := [.int r_47]) (rest := []) S (q_Xpush l D cI cB cZ zz qq vv bt g ad cn In Fn48 k0 r_47 H.size hIn48 (by (first | omega | (have zz0 := Hid.u hb_cn; omega)))) kV_RX9_63 hK hXS hS hFc hP hD _ (xf_7 hk) rfl rfl ⟨Nat.le_of_ble_eq_true rfl, Nat.le_of_ble_eq_true rfl⟩ ⟨Nat.le_of_ble_eq_true rfl, Nat.le_of_ble_eq_true rfl⟩ rfl hl.1 rfl (Nat.le_of_ble_eq_true rfl) dX9_run_225) hS (fun q _ h => hFc q h) hFc (fun u t H1 locs ht hvm wh_50 hB1 hz1 hk1 hS => ?_)
              obtain ⟨cn50, In50, Fn50⟩ := u
              obtain ⟨hP1, hD1⟩ := hB1
              rw [ht] at hP1
              have hP : va_P D vwCl (wX cI (D.1 99) zz g ad cn50 In50 Fn50) H1 := hP1
              have hD : va_D A (wX cI (D.1 99) zz g ad cn50 In50 Fn50) := hD1.weaken (fun _ _ _ h => hFc _ h)
              generalize H1 = H at hP hS ⊢
              have vh_50 : (fun c2 I2 F2 => Fr [] [] [196, 305] cn In Fn48 c2 I2 F2 ∧ CBX c2 ∧ (True)) cn50 In50 Fn50 := wh_50
              obtain ⟨hfc50, hIn50, h_50⟩ := vh_50
              obtain rfl : cn = cn50 := (funext (fun k => hfc50.1 k List.not_mem_nil)).symm
              obtain rfl : In = In50 := (funext (fun k => hfc50.2.1 k List.not_mem_nil)).symm
              have hf50 : Fr [] [] [196, 197, 305] cn In Fn cn In Fn50 := Fr.mo (Fr.tr hf48 hfc50) (sbl rfl) (sbl rfl) (sbl rfl)
              replace hIn50 : CBXh cn := hIn50
              have hinc := inc_toInt (x := x16_5) (y := v1) (by (first | omega | (have zz0 := Hid.u hb_cn; omega)))
              refine lv_iinc (v := (x16_5 + 1)) (lv' := [(5, .int (x16_5 + 1)), (8, .int r_43), (7, .int ((atM (gA (F16 301) 200 k0) (((F16 199) k0).toInt.toNat) x16_5) &&& 1048575)), (6, .int (atM (gA (F16 301) 200 k0) (((F16 199) k0).toInt.toNat) x16_5)), (4, .int x16_4), (0, .ref (ad 5 k0)), (1, .int v0), (2, .int v1), (3, .ref (g 7))]) hx hb dX9_run_228 hl (k := 3) rfl rfl (ltb rfl) rfl (fun ls hl => ?_)
              refine lv_goto (tgt := 16) hx hb dX9_run_231 rfl ?_
              exact ih16 x16_4 (x16_5 + 1) Fn50 _ _ (by (first | omega | (have zz0 := Hid.u hb_cn; omega))) ⟨(Fr.mo hf50 (sbl rfl) (sbl rfl) (sbl rfl)), hIn50⟩ hP hD hS ls (lv_sub hl [0, 4, 5, 6, 7, 8] rfl)
            ·
              refine lv_tableIn (tgt := 203) (off := 141) hx hb dX9_run_62 (by (first | omega | (have zz0 := Hid.u hb_cn; omega))) (by (first | omega | (have zz0 := Hid.u hb_cn; omega))) (by rw [c_12]; rfl) (by decide) ?_
              refine lv_aload_n hx hb dX9_run_203 rfl (lvA4 hl) ?_
              have hFc := free_all hD hS hA
              refine va_calli (runV_xa (As := []) (rest := []) S (q_Xpop l D cI cB cZ zz qq vv bt g ad cn In F16 k0 H.size hI16 (by (first | omega | (have zz0 := Hid.u hb_cn; omega)))) kV_RX9_67 hK hXS hS hFc hP hD _ (xf_7 hk) rfl rfl ⟨Nat.le_of_ble_eq_true rfl, Nat.le_of_ble_eq_true rfl⟩ ⟨Nat.le_of_ble_eq_true rfl, Nat.le_of_ble_eq_true rfl⟩ rfl hl.1 rfl (Nat.le_of_ble_eq_true rfl) dX9_run_204) hS (fun q _ h => hFc q h) hFc (fun r_51 u t H1 locs ht hvm wh_52 hB1 hz1 hk1 hS => ?_)
              obtain ⟨cn52, In52, Fn52⟩ := u
              obtain ⟨hP1, hD1⟩ := hB1
              rw [ht] at hP1
              have hP : va_P D vwCl (wX cI (D.1 99) zz g ad cn52 In52 Fn52) H1 := hP1
              have hD : va_D A (wX cI (D.1 99) zz g ad cn52 In52 Fn52) := hD1.weaken (fun _ _ _ h => hFc _ h)
              generalize H1 = H at hP hS ⊢
              have vh_52 : (fun r c2 I2 F2 => Fr [] [] [196] cn In F16 c2 I2 F2 ∧ CBX c2 ∧ (True)) r_51 cn52 In52 Fn52 := wh_52
              obtain ⟨hfc52, hIn52, h_52⟩ := vh_52
              obtain rfl : cn = cn52 := (funext (fun k => hfc52.1 k List.not_mem_nil)).symm
              obtain rfl : In = In52 := (funext (fun k => hfc52.2.1 k List.not_mem_nil)).symm
              have hf52 : Fr [] [] [196, 197, 305] cn In Fn cn In Fn52 := Fr.mo (Fr.tr hfr16 hfc52) (sbl rfl) (sbl rfl) (sbl rfl)
              replace hIn52 : CBXh cn := hIn52
              refine lv_istore (lv' := [(8, .int r_51), (7, .int ((atM (gA (F16 301) 200 k0) (((F16 199) k0).toInt.toNat) x16_5) &&& 1048575)), (6, .int (atM (gA (F16 301) 200 k0) (((F16 199) k0).toInt.toNat) x16_5)), (5, .int x16_5), (4, .int x16_4), (0, .ref (ad 5 k0)), (1, .int v0), (2, .int v1), (3, .ref (g 7))]) hx hb dX9_run_207 hl (ltb rfl) rfl (fun ls hl => ?_)
              refine lv_aload_n hx hb dX9_run_209 rfl (lvA5 hl) ?_
              refine lv_aload_n hx hb dX9_run_210 rfl (lvA5 hl) ?_
              refine lv_iload hx hb dX9_run_211 (lvA2 hl) ?_
              refine lv_bipush (v := 20) hx hb dX9_run_213 kbc_20 ?_
              refine lv_ishr hx hb dX9_run_215 ?_
              refine lv_aload_n hx hb dX9_run_216 rfl (lvA5 hl) ?_
              have hFc := free_all hD hS hA
              refine va_calli (runV_xa (As := []) (rest := [.int ((atM (gA (F16 301) 200 k0) (((F16 199) k0).toInt.toNat) x16_5) >>> (20 &&& 31)), .ref (ad 5 k0), .ref (ad 5 k0)]) S (q_Xpop l D cI cB cZ zz qq vv bt g ad cn In Fn52 k0 H.size hIn52 (by (first | omega | (have zz0 := Hid.u hb_cn; omega)))) kV_RX9_67 hK hXS hS hFc hP hD _ (xf_7 hk) rfl rfl ⟨Nat.le_of_ble_eq_true rfl, Nat.le_of_ble_eq_true rfl⟩ ⟨Nat.le_of_ble_eq_true rfl, Nat.le_of_ble_eq_true rfl⟩ rfl hl.1 rfl (Nat.le_of_ble_eq_true rfl) dX9_run_217) hS (fun q _ h => hFc q h) hFc (fun r_53 u t H1 locs ht hvm wh_54 hB1 hz1 hk1 hS => ?_)
              obtain ⟨cn54, In54, Fn54⟩ := u
              obtain ⟨hP1, hD1⟩ := hB1
              rw [ht] at hP1
              have hP : va_P D vwCl (wX cI (D.1 99) zz g ad cn54 In54 Fn54) H1 := hP1
              have hD : va_D A (wX cI (D.1 99) zz g ad cn54 In54 Fn54) := hD1.weaken (fun _ _ _ h => hFc _ h)
              generalize H1 = H at hP hS ⊢
              have vh_54 : (fun r c2 I2 F2 => Fr [] [] [196] cn In Fn52 c2 I2 F2 ∧ CBX c2 ∧ (True)) r_53 cn54 In54 Fn54 := wh_54
              obtain ⟨hfc54, hIn54, h_54⟩ := vh_54
              obtain rfl : cn = cn54 := (funext (fun k => hfc54.1 k List.not_mem_nil)).symm
              obtain rfl : In = In54 := (funext (fun k => hfc54.2.1 k List.not_mem_nil)).symm
              have hf54 : Fr [] [] [196, 197, 305] cn In Fn cn In Fn54 := Fr.mo (Fr.tr hf52 hfc54) (sbl rfl) (sbl rfl) (sbl rfl)
              replace hIn54 : CBXh cn := hIn54
              refine lv_iload hx hb dX9_run_220 (lvA0 hl) ?_
              have hFc := free_all hD hS hA
              refine va_calli (runV_xa (As := [.int ((atM (gA (F16 301) 200 k0) (((F16 199) k0).toInt.toNat) x16_5) >>> (20 &&& 31)), .int r_53, .int r_51]) (rest := [.ref (ad 5 k0)]) S (q_Xreckon l D cI cB cZ zz qq vv bt g ad cn In Fn54 k0 ((atM (gA (F16 301) 200 k0) (((F16 199) k0).toInt.toNat) x16_5) >>> (20 &&& 31)) r_53 r_51 H.size hIn54 (by (first | omega | (have zz0 := Hid.u hb_cn; omega)))) kV_RX9_75 hK hXS hS hFc hP hD _ (xf_7 hk) rfl rfl ⟨Nat.le_of_ble_eq_true rfl, Nat.le_of_ble_eq_true rfl⟩ ⟨Nat.le_of_ble_eq_true rfl, Nat.le_of_ble_eq_true rfl⟩ rfl hl.1 rfl (Nat.le_of_ble_eq_true rfl) dX9_run_222) hS (fun q _ h => hFc q h) hFc (fun r_55 u t H1 locs ht hvm wh_56 hB1 hz1 hk1 hS => ?_)
              obtain ⟨cn56, In56, Fn56⟩ := u
              obtain ⟨hP1, hD1⟩ := hB1
              rw [ht] at hP1
              have hP : va_P D vwCl (wX cI (D.1 99) zz g ad cn56 In56 Fn56) H1 := hP1
              have hD : va_D A (wX cI (D.1 99) zz g ad cn56 In56 Fn56) := hD1.weaken (fun _ _ _ h => hFc _ h)
              generalize H1 = H at hP hS ⊢
              have vh_56 : (fun r c2 I2 F2 => Fr [] [] [197] cn In Fn54 c2 I2 F2 ∧ CBX c2 ∧ (True)) r_55 cn56 In56 Fn56 := wh_56
              obtain ⟨hfc56, hIn56, h_56⟩ := vh_56
              obtain rfl : cn = cn56 := (funext (fun k => hfc56.1 k List.not_mem_nil)).symm
              obtain rfl : In = In56 := (funext (fun k => hfc56.2.1 k List.not_mem_nil)).symm
              have hf56 : Fr [] [] [196, 197, 305] cn In Fn cn In Fn56 := Fr.mo (Fr.tr hf54 hfc56) (sbl rfl) (sbl rfl) (sbl rfl)
              replace hIn56 : CBXh cn := hIn56
              have hFc := free_all hD hS hA
              refine va_callv (runV_xa (As := [.int r_55]) (rest := []) S (q_Xpush l D cI cB cZ zz qq vv bt g ad cn In Fn56 k0 r_55 H.size hIn56 (by (first | omega | (have zz0 := Hid.u hb_cn; omega)))) kV_RX9_63 hK hXS hS hFc hP hD _ (xf_7 hk) rfl rfl ⟨Nat.le_of_ble_eq_true rfl, Nat.le_of_ble_eq_true rfl⟩ ⟨Nat.le_of_ble_eq_true rfl, Nat.le_of_ble_eq_true rfl⟩ rfl hl.1 rfl (Nat.le_of_ble_eq_true rfl) dX9_run_225) hS (fun q _ h => hFc q h) hFc (fun u t H1 locs ht hvm wh_58 hB1 hz1 hk1 hS => ?_)
              obtain ⟨cn58, In58, Fn58⟩ := u
              obtain ⟨hP1, hD1⟩ := hB1
              rw [ht] at hP1
              have hP : va_P D vwCl (wX cI (D.1 99) zz g ad cn58 In58 Fn58) H1 := hP1
              have hD : va_D A (wX cI (D.1 99) zz g ad cn58 In58 Fn58) := hD1.weaken (fun _ _ _ h => hFc _ h)
              generalize H1 = H at hP hS ⊢
              have vh_58 : (fun c2 I2 F2 => Fr [] [] [196, 305] cn In Fn56 c2 I2 F2 ∧ CBX c2 ∧ (True)) cn58 In58 Fn58 := wh_58
              obtain ⟨hfc58, hIn58, h_58⟩ := vh_58
              obtain rfl : cn = cn58 := (funext (fun k => hfc58.1 k List.not_mem_nil)).symm
              obtain rfl : In = In58 := (funext (fun k => hfc58.2.1 k List.not_mem_nil)).symm
              have hf58 : Fr [] [] [196, 197, 305] cn In Fn cn In Fn58 := Fr.mo (Fr.tr hf56 hfc58) (sbl rfl) (sbl rfl) (sbl rfl)
              replace hIn58 : CBXh cn := hIn58
              have hinc := inc_toInt (x := x16_5) (y := v1) (by (first | omega | (have zz0 := Hid.u hb_cn; omega)))
              refine lv_iinc (v := (x16_5 + 1)) (lv' := [(5, .int (x16_5 + 1)), (8, .int r_51), (7, .int ((atM (gA (F16 301) 200 k0) (((F16 199) k0).toInt.toNat) x16_5) &&& 1048575)), (6, .int (atM (gA (F16 301) 200 k0) (((F16 199) k0).toInt.toNat) x16_5)), (4, .int x16_4), (0, .ref (ad 5 k0)), (1, .int v0), (2, .int v1), (3, .ref (g 7))]) hx hb dX9_run_228 hl (k := 3) rfl rfl (ltb rfl) rfl (fun ls hl => ?_)
              refine lv_goto (tgt := 16) hx hb dX9_run_231 rfl ?_
              exact ih16 x16_4 (x16_5 + 1) Fn58 _ _ (by (first | omega | (have zz0 := Hid.u hb_cn; omega))) ⟨(Fr.mo hf58 (sbl rfl) (sbl rfl) (sbl rfl)), hIn58⟩ hP hD hS ls (lv_sub hl [0, 4, 5, 6, 7, 8] rfl)
            ·
              refine lv_tableIn (tgt := 203) (off := 141) hx hb dX9_run_62 (by (first | omega | (have zz0 := Hid.u hb_cn; omega))) (by (first | omega | (have zz0 := Hid.u hb_cn; omega))) (by rw [c_12]; rfl) (by decide) ?_
              refine lv_aload_n hx hb dX9_run_203 rfl (lvA4 hl) ?_
              have hFc := free_all hD hS hA
              refine va_calli (runV_xa (As := []) (rest := []) S (q_Xpop l D cI cB cZ zz qq vv bt g ad cn In F16 k0 H.size hI16 (by (first | omega | (have zz0 := Hid.u hb_cn; omega)))) kV_RX9_67 hK hXS hS hFc hP hD _ (xf_7 hk) rfl rfl ⟨Nat.le_of_ble_eq_true rfl, Nat.le_of_ble_eq_true rfl⟩ ⟨Nat.le_of_ble_eq_true rfl, Nat.le_of_ble_eq_true rfl⟩ rfl hl.1 rfl (Nat.le_of_ble_eq_true rfl) dX9_run_204) hS (fun q _ h => hFc q h) hFc (fun r_59 u t H1 locs ht hvm wh_60 hB1 hz1 hk1 hS => ?_)
              obtain ⟨cn60, In60, Fn60⟩ := u
              obtain ⟨hP1, hD1⟩ := hB1
              rw [ht] at hP1
              have hP : va_P D vwCl (wX cI (D.1 99) zz g ad cn60 In60 Fn60) H1 := hP1
              have hD : va_D A (wX cI (D.1 99) zz g ad cn60 In60 Fn60) := hD1.weaken (fun _ _ _ h => hFc _ h)
              generalize H1 = H at hP hS ⊢
              have vh_60 : (fun r c2 I2 F2 => Fr [] [] [196] cn In F16 c2 I2 F2 ∧ CBX c2 ∧ (True)) r_59 cn60 In60 Fn60 := wh_60
              obtain ⟨hfc60, hIn60, h_60⟩ := vh_60
              obtain rfl : cn = cn60 := (funext (fun k => hfc60.1 k List.not_mem_nil)).symm
              obtain rfl : In = In60 := (funext (fun k => hfc60.2.1 k List.not_mem_nil)).symm
              have hf60 : Fr [] [] [196, 197, 305] cn In Fn cn In Fn60 := Fr.mo (Fr.tr hfr16 hfc60) (sbl rfl) (sbl rfl) (sbl rfl)
              replace hIn60 : CBXh cn := hIn60
              refine lv_istore (lv' := [(8, .int r_59), (7, .int ((atM (gA (F16 301) 200 k0) (((F16 199) k0).toInt.toNat) x16_5) &&& 1048575)), (6, .int (atM (gA (F16 301) 200 k0) (((F16 199) k0).toInt.toNat) x16_5)), (5, .int x16_5), (4, .int x16_4), (0, .ref (ad 5 k0)), (1, .int v0), (2, .int v1), (3, .ref (g 7))]) hx hb dX9_run_207 hl (ltb rfl) rfl (fun ls hl => ?_)
              refine lv_aload_n hx hb dX9_run_209 rfl (lvA5 hl) ?_
              refine lv_aload_n hx hb dX9_run_210 rfl (lvA5 hl) ?_
              refine lv_iload hx hb dX9_run_211 (lvA2 hl) ?_
              refine lv_bipush (v := 20) hx hb dX9_run_213 kbc_20 ?_
              refine lv_ishr hx hb dX9_run_215 ?_
              refine lv_aload_n hx hb dX9_run_216 rfl (lvA5 hl) ?_
              have hFc := free_all hD hS hA
              refine va_calli (runV_xa (As := []) (rest := [.int ((atM (gA (F16 301) 200 k0) (((F16 199) k0).toInt.toNat) x16_5) >>> (20 &&& 31)), .ref (ad 5 k0), .ref (ad 5 k0)]) S (q_Xpop l D cI cB cZ zz qq vv bt g ad cn In Fn60 k0 H.size hIn60 (by (first | omega | (have zz0 := Hid.u hb_cn; omega)))) kV_RX9_67 hK hXS hS hFc hP hD _ (xf_7 hk) rfl rfl ⟨Nat.le_of_ble_eq_true rfl, Nat.le_of_ble_eq_true rfl⟩ ⟨Nat.le_of_ble_eq_true rfl, Nat.le_of_ble_eq_true rfl⟩ rfl hl.1 rfl (Nat.le_of_ble_eq_true rfl) dX9_run_217) hS (fun q _ h => hFc q h) hFc (fun r_61 u t H1 locs ht hvm wh_62 hB1 hz1 hk1 hS => ?_)
              obtain ⟨cn62, In62, Fn62⟩ := u
              obtain ⟨hP1, hD1⟩ := hB1
              rw [ht] at hP1
              have hP : va_P D vwCl (wX cI (D.1 99) zz g ad cn62 In62 Fn62) H1 := hP1
              have hD : va_D A (wX cI (D.1 99) zz g ad cn62 In62 Fn62) := hD1.weaken (fun _ _ _ h => hFc _ h)
              generalize H1 = H at hP hS ⊢
              have vh_62 : (fun r c2 I2 F2 => Fr [] [] [196] cn In Fn60 c2 I2 F2 ∧ CBX c2 ∧ (True)) r_61 cn62 In62 Fn62 := wh_62
              obtain ⟨hfc62, hIn62, h_62⟩ := vh_62
              obtain rfl : cn = cn62 := (funext (fun k => hfc62.1 k List.not_mem_nil)).symm
              obtain rfl : In = In62 := (funext (fun k => hfc62.2.1 k List.not_mem_nil)).symm
              have hf62 : Fr [] [] [196, 197, 305] cn In Fn cn In Fn62 := Fr.mo (Fr.tr hf60 hfc62) (sbl rfl) (sbl rfl) (sbl rfl)
              replace hIn62 : CBXh cn := hIn62
              refine lv_iload hx hb dX9_run_220 (lvA0 hl) ?_
              have hFc := free_all hD hS hA
              refine va_calli (runV_xa (As := [.int ((atM (gA (F16 301) 200 k0) (((F16 199) k0).toInt.toNat) x16_5) >>> (20 &&& 31)), .int r_61, .int r_59]) (rest := [.ref (ad 5 k0)]) S (q_Xreckon l D cI cB cZ zz qq vv bt g ad cn In Fn62 k0 ((atM (gA (F16 301) 200 k0) (((F16 199) k0).toInt.toNat) x16_5) >>> (20 &&& 31)) r_61 r_59 H.size hIn62 (by (first | omega | (have zz0 := Hid.u hb_cn; omega)))) kV_RX9_75 hK hXS hS hFc hP hD _ (xf_7 hk) rfl rfl ⟨Nat.le_of_ble_eq_true rfl, Nat.le_of_ble_eq_true rfl⟩ ⟨Nat.le_of_ble_eq_true rfl, Nat.le_of_ble_eq_true rfl⟩ rfl hl.1 rfl (Nat.le_of_ble_eq_true rfl) dX9_run_222) hS (fun q _ h => hFc q h) hFc (fun r_63 u t H1 locs ht hvm wh_64 hB1 hz1 hk1 hS => ?_)
              obtain ⟨cn64, In64, Fn64⟩ := u
              obtain ⟨hP1, hD1⟩ := hB1
              rw [ht] at hP1
              have hP : va_P D vwCl (wX cI (D.1 99) zz g ad cn64 In64 Fn64) H1 := hP1
              have hD : va_D A (wX cI (D.1 99) zz g ad cn64 In64 Fn64) := hD1.weaken (fun _ _ _ h => hFc _ h)
              generalize H1 = H at hP hS ⊢
              have vh_64 : (fun r c2 I2 F2 => Fr [] [] [197] cn In Fn62 c2 I2 F2 ∧ CBX c2 ∧ (True)) r_63 cn64 In64 Fn64 := wh_64
              obtain ⟨hfc64, hIn64, h_64⟩ := vh_64
              obtain rfl : cn = cn64 := (funext (fun k => hfc64.1 k List.not_mem_nil)).symm
              obtain rfl : In = In64 := (funext (fun k => hfc64.2.1 k List.not_mem_nil)).symm
              have hf64 : Fr [] [] [196, 197, 305] cn In Fn cn In Fn64 := Fr.mo (Fr.tr hf62 hfc64) (sbl rfl) (sbl rfl) (sbl rfl)
              replace hIn64 : CBXh cn := hIn64
              have hFc := free_all hD hS hA
              refine va_callv (runV_xa (As := [.int r_63]) (rest := []) S (q_Xpush l D cI cB cZ zz qq vv bt g ad cn In Fn64 k0 r_63 H.size hIn64 (by (first | omega | (have zz0 := Hid.u hb_cn; omega)))) kV_RX9_63 hK hXS hS hFc hP hD _ (xf_7 hk) rfl rfl ⟨Nat.le_of_ble_eq_true rfl, Nat.le_of_ble_eq_true rfl⟩ ⟨Nat.le_of_ble_eq_true rfl, Nat.le_of_ble_eq_true rfl⟩ rfl hl.1 rfl (Nat.le_of_ble_eq_true rfl) dX9_run_225) hS (fun q _ h => hFc q h) hFc (fun u t H1 locs ht hvm wh_66 hB1 hz1 hk1 hS => ?_)
              obtain ⟨cn66, In66, Fn66⟩ := u
              obtain ⟨hP1, hD1⟩ := hB1
              rw [ht] at hP1
              have hP : va_P D vwCl (wX cI (D.1 99) zz g ad cn66 In66 Fn66) H1 := hP1
              have hD : va_D A (wX cI (D.1 99) zz g ad cn66 In66 Fn66) := hD1.weaken (fun _ _ _ h => hFc _ h)
              generalize H1 = H at hP hS ⊢
              have vh_66 : (fun c2 I2 F2 => Fr [] [] [196, 305] cn In Fn64 c2 I2 F2 ∧ CBX c2 ∧ (True)) cn66 In66 Fn66 := wh_66
              obtain ⟨hfc66, hIn66, h_66⟩ := vh_66
              obtain rfl : cn = cn66 := (funext (fun k => hfc66.1 k List.not_mem_nil)).symm
              obtain rfl : In = In66 := (funext (fun k => hfc66.2.1 k List.not_mem_nil)).symm
              have hf66 : Fr [] [] [196, 197, 305] cn In Fn cn In Fn66 := Fr.mo (Fr.tr hf64 hfc66) (sbl rfl) (sbl rfl) (sbl rfl)
              replace hIn66 : CBXh cn := hIn66
              have hinc := inc_toInt (x := x16_5) (y := v1) (by (first | omega | (have zz0 := Hid.u hb_cn; omega)))
              refine lv_iinc (v := (x16_5 + 1)) (lv' := [(5, .int (x16_5 + 1)), (8, .int r_59), (7, .int ((atM (gA (F16 301) 200 k0) (((F16 199) k0).toInt.toNat) x16_5) &&& 1048575)), (6, .int (atM (gA (F16 301) 200 k0) (((F16 199) k0).toInt.toNat) x16_5)), (4, .int x16_4), (0, .ref (ad 5 k0)), (1, .int v0), (2, .int v1), (3, .ref (g 7))]) hx hb dX9_run_228 hl (k := 3) rfl rfl (ltb rfl) rfl (fun ls hl => ?_)
              refine lv_goto (tgt := 16) hx hb dX9_run_231 rfl ?_
              exact ih16 x16_4 (x16_5 + 1) Fn66 _ _ (by (first | omega | (have zz0 := Hid.u hb_cn; omega))) ⟨(Fr.mo hf66 (sbl rfl) (sbl rfl) (sbl rfl)), hIn66⟩ hP hD hS ls (lv_sub hl [0, 4, 5, 6, 7, 8] rfl)
            ·
              refine lv_tableIn (tgt := 203) (off := 141) hx hb dX9_run_62 (by (first | omega | (have zz0 := Hid.u hb_cn; omega))) (by (first | omega | (have zz0 := Hid.u hb_cn; omega))) (by rw [c_12]; rfl) (by decide) ?_
              refine lv_aload_n hx hb dX9_run_203 rfl (lvA4 hl) ?_
              have hFc := free_all hD hS hA
              refine va_calli (runV_xa (As := []) (rest := []) S (q_Xpop l D cI cB cZ zz qq vv bt g ad cn In F16 k0 H.size hI16 (by (first | omega | (have zz0 := Hid.u hb_cn; omega)))) kV_RX9_67 hK hXS hS hFc hP hD _ (xf_7 hk) rfl rfl ⟨Nat.le_of_ble_eq_true rfl, Nat.le_of_ble_eq_true rfl⟩ ⟨Nat.le_of_ble_eq_true rfl, Nat.le_of_ble_eq_true rfl⟩ rfl hl.1 rfl (Nat.le_of_ble_eq_true rfl) dX9_run_204) hS (fun q _ h => hFc q h) hFc (fun r_67 u t H1 locs ht hvm wh_68 hB1 hz1 hk1 hS => ?_)
              obtain ⟨cn68, In68, Fn68⟩ := u
              obtain ⟨hP1, hD1⟩ := hB1
              rw [ht] at hP1
              have hP : va_P D vwCl (wX cI (D.1 99) zz g ad cn68 In68 Fn68) H1 := hP1
              have hD : va_D A (wX cI (D.1 99) zz g ad cn68 In68 Fn68) := hD1.weaken (fun _ _ _ h => hFc _ h)
              generalize H1 = H at hP hS ⊢
              have vh_68 : (fun r c2 I2 F2 => Fr [] [] [196] cn In F16 c2 I2 F2 ∧ CBX c2 ∧ (True)) r_67 cn68 In68 Fn68 := wh_68
              obtain ⟨hfc68, hIn68, h_68⟩ := vh_68
              obtain rfl : cn = cn68 := (funext (fun k => hfc68.1 k List.not_mem_nil)).symm
              obtain rfl : In = In68 := (funext (fun k => hfc68.2.1 k List.not_mem_nil)).symm
              have hf68 : Fr [] [] [196, 197, 305] cn In Fn cn In Fn68 := Fr.mo (Fr.tr hfr16 hfc68) (sbl rfl) (sbl rfl) (sbl rfl)
              replace hIn68 : CBXh cn := hIn68
              refine lv_istore (lv' := [(8, .int r_67), (7, .int ((atM (gA (F16 301) 200 k0) (((F16 199) k0).toInt.toNat) x16_5) &&& 1048575)), (6, .int (atM (gA (F16 301) 200 k0) (((F16 199) k0).toInt.toNat) x16_5)), (5, .int x16_5), (4, .int x16_4), (0, .ref (ad 5 k0)), (1, .int v0), (2, .int v1), (3, .ref (g 7))]) hx hb dX9_run_207 hl (ltb rfl) rfl (fun ls hl => ?_)
              refine lv_aload_n hx hb dX9_run_209 rfl (lvA5 hl) ?_
              refine lv_aload_n hx hb dX9_run_210 rfl (lvA5 hl) ?_
              refine lv_iload hx hb dX9_run_211 (lvA2 hl) ?_
              refine lv_bipush (v := 20) hx hb dX9_run_213 kbc_20 ?_
              refine lv_ishr hx hb dX9_run_215 ?_
              refine lv_aload_n hx hb dX9_run_216 rfl (lvA5 hl) ?_
              have hFc := free_all hD hS hA
              refine va_calli (runV_xa (As := []) (rest := [.int ((atM (gA (F16 301) 200 k0) (((F16 199) k0).toInt.toNat) x16_5) >>> (20 &&& 31)), .ref (ad 5 k0), .ref (ad 5 k0)]) S (q_Xpop l D cI cB cZ zz qq vv bt g ad cn In Fn68 k0 H.size hIn68 (by (first | omega | (have zz0 := Hid.u hb_cn; omega)))) kV_RX9_67 hK hXS hS hFc hP hD _ (xf_7 hk) rfl rfl ⟨Nat.le_of_ble_eq_true rfl, Nat.le_of_ble_eq_true rfl⟩ ⟨Nat.le_of_ble_eq_true rfl, Nat.le_of_ble_eq_true rfl⟩ rfl hl.1 rfl (Nat.le_of_ble_eq_true rfl) dX9_run_217) hS (fun q _ h => hFc q h) hFc (fun r_69 u t H1 locs ht hvm wh_70 hB1 hz1 hk1 hS => ?_)
              obtain ⟨cn70, In70, Fn70⟩ := u
              obtain ⟨hP1, hD1⟩ := hB1
              rw [ht] at hP1
              have hP : va_P D vwCl (wX cI (D.1 99) zz g ad cn70 In70 Fn70) H1 := hP1
              have hD : va_D A (wX cI (D.1 99) zz g ad cn70 In70 Fn70) := hD1.weaken (fun _ _ _ h => hFc _ h)
              generalize H1 = H at hP hS ⊢
              have vh_70 : (fun r c2 I2 F2 => Fr [] [] [196] cn In Fn68 c2 I2 F2 ∧ CBX c2 ∧ (True)) r_69 cn70 In70 Fn70 := wh_70
              obtain ⟨hfc70, hIn70, h_70⟩ := vh_70
              obtain rfl : cn = cn70 := (funext (fun k => hfc70.1 k List.not_mem_nil)).symm
              obtain rfl : In = In70 := (funext (fun k => hfc70.2.1 k List.not_mem_nil)).symm
              have hf70 : Fr [] [] [196, 197, 305] cn In Fn cn In Fn70 := Fr.mo (Fr.tr hf68 hfc70) (sbl rfl) (sbl rfl) (sbl rfl)
              replace hIn70 : CBXh cn := hIn70
              refine lv_iload hx hb dX9_run_220 (lvA0 hl) ?_
              have hFc := free_all hD hS hA
              refine va_calli (runV_xa (As := [.int ((atM (gA (F16 301) 200 k0) (((F16 199) k0).toInt.toNat) x16_5) >>> (20 &&& 31)), .int r_69, .int r_67]) (rest := [.ref (ad 5 k0)]) S (q_Xreckon l D cI cB cZ zz qq vv bt g ad cn In Fn70 k0 ((atM (gA (F16 301) 200 k0) (((F16 199) k0).toInt.toNat) x16_5) >>> (20 &&& 31)) r_69 r_67 H.size hIn70 (by (first | omega | (have zz0 := Hid.u hb_cn; omega)))) kV_RX9_75 hK hXS hS hFc hP hD _ (xf_7 hk) rfl rfl ⟨Nat.le_of_ble_eq_true rfl, Nat.le_of_ble_eq_true rfl⟩ ⟨Nat.le_of_ble_eq_true rfl, Nat.le_of_ble_eq_true rfl⟩ rfl hl.1 rfl (Nat.le_of_ble_eq_true rfl) dX9_run_222) hS (fun q _ h => hFc q h) hFc (fun r_71 u t H1 locs ht hvm wh_72 hB1 hz1 hk1 hS => ?_)
              obtain ⟨cn72, In72, Fn72⟩ := u
              obtain ⟨hP1, hD1⟩ := hB1
              rw [ht] at hP1
              have hP : va_P D vwCl (wX cI (D.1 99) zz g ad cn72 In72 Fn72) H1 := hP1
              have hD : va_D A (wX cI (D.1 99) zz g ad cn72 In72 Fn72) := hD1.weaken (fun _ _ _ h => hFc _ h)
              generalize H1 = H at hP hS ⊢
              have vh_72 : (fun r c2 I2 F2 => Fr [] [] [197] cn In Fn70 c2 I2 F2 ∧ CBX c2 ∧ (True)) r_71 cn72 In72 Fn72 := wh_72
              obtain ⟨hfc72, hIn72, h_72⟩ := vh_72
              obtain rfl : cn = cn72 := (funext (fun k => hfc72.1 k List.not_mem_nil)).symm
              obtain rfl : In = In72 := (funext (fun k => hfc72.2.1 k List.not_mem_nil)).symm
              have hf72 : Fr [] [] [196, 197, 305] cn In Fn cn In Fn72 := Fr.mo (Fr.tr hf70 hfc72) (sbl rfl) (sbl rfl) (sbl rfl)
              replace hIn72 : CBXh cn := hIn72
              have hFc := free_all hD hS hA
              refine va_callv (runV_xa (As := [.int r_71]) (rest := []) S (q_Xpush l D cI cB cZ zz qq vv bt g ad cn In Fn72 k0 r_71 H.size hIn72 (by (first | omega | (have zz0 := Hid.u hb_cn; omega)))) kV_RX9_63 hK hXS hS hFc hP hD _ (xf_7 hk) rfl rfl ⟨Nat.le_of_ble_eq_true rfl, Nat.le_of_ble_eq_true rfl⟩ ⟨Nat.le_of_ble_eq_true rfl, Nat.le_of_ble_eq_true rfl⟩ rfl hl.1 rfl (Nat.le_of_ble_eq_true rfl) dX9_run_225) hS (fun q _ h => hFc q h) hFc (fun u t H1 locs ht hvm wh_74 hB1 hz1 hk1 hS => ?_)
              obtain ⟨cn74, In74, Fn74⟩ := u
              obtain ⟨hP1, hD1⟩ := hB1
              rw [ht] at hP1
              have hP : va_P D vwCl (wX cI (D.1 99) zz g ad cn74 In74 Fn74) H1 := hP1
              have hD : va_D A (wX cI (D.1 99) zz g ad cn74 In74 Fn74) := hD1.weaken (fun _ _ _ h => hFc _ h)
              generalize H1 = H at hP hS ⊢
              have vh_74 : (fun c2 I2 F2 => Fr [] [] [196, 305] cn In Fn72 c2 I2 F2 ∧ CBX c2 ∧ (True)) cn74 In74 Fn74 := wh_74
              obtain ⟨hfc74, hIn74, h_74⟩ := vh_74
              obtain rfl : cn = cn74 := (funext (fun k => hfc74.1 k List.not_mem_nil)).symm
              obtain rfl : In = In74 := (funext (fun k => hfc74.2.1 k List.not_mem_nil)).symm
              have hf74 : Fr [] [] [196, 197, 305] cn In Fn cn In Fn74 := Fr.mo (Fr.tr hf72 hfc74) (sbl rfl) (sbl rfl) (sbl rfl)
              replace hIn74 : CBXh cn := hIn74
              have hinc := inc_toInt (x := x16_5) (y := v1) (by (first | omega | (have zz0 := Hid.u hb_cn; omega)))
              refine lv_iinc (v := (x16_5 + 1)) (lv' := [(5, .int (x16_5 + 1)), (8, .int r_67), (7, .int ((atM (gA (F16 301) 200 k0) (((F16 199) k0).toInt.toNat) x16_5) &&& 1048575)), (6, .int (atM (gA (F16 301) 200 k0) (((F16 199) k0).toInt.toNat) x16_5)), (4, .int x16_4), (0, .ref (ad 5 k0)), (1, .int v0), (2, .int v1), (3, .ref (g 7))]) hx hb dX9_run_228 hl (k := 3) rfl rfl (ltb rfl) rfl (fun ls hl => ?_)
              refine lv_goto (tgt := 16) hx hb dX9_run_231 rfl ?_
              exact ih16 x16_4 (x16_5 + 1) Fn74 _ _ (by (first | omega | (have zz0 := Hid.u hb_cn; omega))) ⟨(Fr.mo hf74 (sbl rfl) (sbl rfl) (sbl rfl)), hIn74⟩ hP hD hS ls (lv_sub hl [0, 4, 5, 6, 7, 8] rfl)
            ·
              refine lv_tableIn (tgt := 203) (off := 141) hx hb dX9_run_62 (by (first | omega | (have zz0 := Hid.u hb_cn; omega))) (by (first | omega | (have zz0 := Hid.u hb_cn; omega))) (by rw [c_12]; rfl) (by decide) ?_
              refine lv_aload_n hx hb dX9_run_203 rfl (lvA4 hl) ?_
              have hFc := free_all hD hS hA
              refine va_calli (runV_xa (As := []) (rest := []) S (q_Xpop l D cI cB cZ zz qq vv bt g ad cn In F16 k0 H.size hI16 (by (first | omega | (have zz0 := Hid.u hb_cn; omega)))) kV_RX9_67 hK hXS hS hFc hP hD _ (xf_7 hk) rfl rfl ⟨Nat.le_of_ble_eq_true rfl, Nat.le_of_ble_eq_true rfl⟩ ⟨Nat.le_of_ble_eq_true rfl, Nat.le_of_ble_eq_true rfl⟩ rfl hl.1 rfl (Nat.le_of_ble_eq_true rfl) dX9_run_204) hS (fun q _ h => hFc q h) hFc (fun r_75 u t H1 locs ht hvm wh_76 hB1 hz1 hk1 hS => ?_)
              obtain ⟨cn76, In76, Fn76⟩ := u
              obtain ⟨hP1, hD1⟩ := hB1
              rw [ht] at hP1
              have hP : va_P D vwCl (wX cI (D.1 99) zz g ad cn76 In76 Fn76) H1 := hP1
              have hD : va_D A (wX cI (D.1 99) zz g ad cn76 In76 Fn76) := hD1.weaken (fun _ _ _ h => hFc _ h)
              generalize H1 = H at hP hS ⊢
              have vh_76 : (fun r c2 I2 F2 => Fr [] [] [196] cn In F16 c2 I2 F2 ∧ CBX c2 ∧ (True)) r_75 cn76 In76 Fn76 := wh_76
              obtain ⟨hfc76, hIn76, h_76⟩ := vh_76
              obtain rfl : cn = cn76 := (funext (fun k => hfc76.1 k List.not_mem_nil)).symm
              obtain rfl : In = In76 := (funext (fun k => hfc76.2.1 k List.not_mem_nil)).symm
              have hf76 : Fr [] [] [196, 197, 305] cn In Fn cn In Fn76 := Fr.mo (Fr.tr hfr16 hfc76) (sbl rfl) (sbl rfl) (sbl rfl)
              replace hIn76 : CBXh cn := hIn76
              refine lv_istore (lv' := [(8, .int r_75), (7, .int ((atM (gA (F16 301) 200 k0) (((F16 199) k0).toInt.toNat) x16_5) &&& 1048575)), (6, .int (atM (gA (F16 301) 200 k0) (((F16 199) k0).toInt.toNat) x16_5)), (5, .int x16_5), (4, .int x16_4), (0, .ref (ad 5 k0)), (1, .int v0), (2, .int v1), (3, .ref (g 7))]) hx hb dX9_run_207 hl (ltb rfl) rfl (fun ls hl => ?_)
              refine lv_aload_n hx hb dX9_run_209 rfl (lvA5 hl) ?_
              refine lv_aload_n hx hb dX9_run_210 rfl (lvA5 hl) ?_
              refine lv_iload hx hb dX9_run_211 (lvA2 hl) ?_
              refine lv_bipush (v := 20) hx hb dX9_run_213 kbc_20 ?_
              refine lv_ishr hx hb dX9_run_215 ?_
              refine lv_aload_n hx hb dX9_run_216 rfl (lvA5 hl) ?_
              have hFc := free_all hD hS hA
              refine va_calli (runV_xa (As := []) (rest := [.int ((atM (gA (F16 301) 200 k0) (((F16 199) k0).toInt.toNat) x16_5) >>> (20 &&& 31)), .ref (ad 5 k0), .ref (ad 5 k0)]) S (q_Xpop l D cI cB cZ zz qq vv bt g ad cn In Fn76 k0 H.size hIn76 (by (first | omega | (have zz0 := Hid.u hb_cn; omega)))) kV_RX9_67 hK hXS hS hFc hP hD _ (xf_7 hk) rfl rfl ⟨Nat.le_of_ble_eq_true rfl, Nat.le_of_ble_eq_true rfl⟩ ⟨Nat.le_of_ble_eq_true rfl, Nat.le_of_ble_eq_true rfl⟩ rfl hl.1 rfl (Nat.le_of_ble_eq_true rfl) dX9_run_217) hS (fun q _ h => hFc q h) hFc (fun r_77 u t H1 locs ht hvm wh_78 hB1 hz1 hk1 hS => ?_)
              obtain ⟨cn78, In78, Fn78⟩ := u
              obtain ⟨hP1, hD1⟩ := hB1
              rw [ht] at hP1
              have hP : va_P D vwCl (wX cI (D.1 99) zz g ad cn78 In78 Fn78) H1 := hP1
              have hD : va_D A (wX cI (D.1 99) zz g ad cn78 In78 Fn78) := hD1.weaken (fun _ _ _ h => hFc _ h)
              generalize H1 = H at hP hS ⊢
              have vh_78 : (fun r c2 I2 F2 => Fr [] [] [196] cn In Fn76 c2 I2 F2 ∧ CBX c2 ∧ (True)) r_77 cn78 In78 Fn78 := wh_78
              obtain ⟨hfc78, hIn78, h_78⟩ := vh_78
              obtain rfl : cn = cn78 := (funext (fun k => hfc78.1 k List.not_mem_nil)).symm
              obtain rfl : In = In78 := (funext (fun k => hfc78.2.1 k List.not_mem_nil)).symm
              have hf78 : Fr [] [] [196, 197, 305] cn In Fn cn In Fn78 := Fr.mo (Fr.tr hf76 hfc78) (sbl rfl) (sbl rfl) (sbl rfl)
              replace hIn78 : CBXh cn := hIn78
              refine lv_iload hx hb dX9_run_220 (lvA0 hl) ?_
              have hFc := free_all hD hS hA
              refine va_calli (runV_xa (As := [.int ((atM (gA (F16 301) 200 k0) (((F16 199) k0).toInt.toNat) x16_5) >>> (20 &&& 31)), .int r_77, .int r_75]) (rest := [.ref (ad 5 k0)]) S (q_Xreckon l D cI cB cZ zz qq vv bt g ad cn In Fn78 k0 ((atM (gA (F16 301) 200 k0) (((F16 199) k0).toInt.toNat) x16_5) >>> (20 &&& 31)) r_77 r_75 H.size hIn78 (by (first | omega | (have zz0 := Hid.u hb_cn; omega)))) kV_RX9_75 hK hXS hS hFc hP hD _ (xf_7 hk) rfl rfl ⟨Nat.le_of_ble_eq_true rfl, Nat.le_of_ble_eq_true rfl⟩ ⟨Nat.le_of_ble_eq_true rfl, Nat.le_of_ble_eq_true rfl⟩ rfl hl.1 rfl (Nat.le_of_ble_eq_true rfl) dX9_run_222) hS (fun q _ h => hFc q h) hFc (fun r_79 u t H1 locs ht hvm wh_80 hB1 hz1 hk1 hS => ?_)
              obtain ⟨cn80, In80, Fn80⟩ := u
              obtain ⟨hP1, hD1⟩ := hB1
              rw [ht] at hP1
              have hP : va_P D vwCl (wX cI (D.1 99) zz g ad cn80 In80 Fn80) H1 := hP1
              have hD : va_D A (wX cI (D.1 99) zz g ad cn80 In80 Fn80) := hD1.weaken (fun _ _ _ h => hFc _ h)
              generalize H1 = H at hP hS ⊢
              have vh_80 : (fun r c2 I2 F2 => Fr [] [] [197] cn In Fn78 c2 I2 F2 ∧ CBX c2 ∧ (True)) r_79 cn80 In80 Fn80 := wh_80
              obtain ⟨hfc80, hIn80, h_80⟩ := vh_80
              obtain rfl : cn = cn80 := (funext (fun k => hfc80.1 k List.not_mem_nil)).symm
              obtain rfl : In = In80 := (funext (fun k => hfc80.2.1 k List.not_mem_nil)).symm
              have hf80 : Fr [] [] [196, 197, 305] cn In Fn cn In Fn80 := Fr.mo (Fr.tr hf78 hfc80) (sbl rfl) (sbl rfl) (sbl rfl)
              replace hIn80 : CBXh cn := hIn80
              have hFc := free_all hD hS hA
              refine va_callv (runV_xa (As := [.int r_79]) (rest := []) S (q_Xpush l D cI cB cZ zz qq vv bt g ad cn In Fn80 k0 r_79 H.size hIn80 (by (first | omega | (have zz0 := Hid.u hb_cn; omega)))) kV_RX9_63 hK hXS hS hFc hP hD _ (xf_7 hk) rfl rfl ⟨Nat.le_of_ble_eq_true rfl, Nat.le_of_ble_eq_true rfl⟩ ⟨Nat.le_of_ble_eq_true rfl, Nat.le_of_ble_eq_true rfl⟩ rfl hl.1 rfl (Nat.le_of_ble_eq_true rfl) dX9_run_225) hS (fun q _ h => hFc q h) hFc (fun u t H1 locs ht hvm wh_82 hB1 hz1 hk1 hS => ?_)
              obtain ⟨cn82, In82, Fn82⟩ := u
              obtain ⟨hP1, hD1⟩ := hB1
              rw [ht] at hP1
              have hP : va_P D vwCl (wX cI (D.1 99) zz g ad cn82 In82 Fn82) H1 := hP1
              have hD : va_D A (wX cI (D.1 99) zz g ad cn82 In82 Fn82) := hD1.weaken (fun _ _ _ h => hFc _ h)
              generalize H1 = H at hP hS ⊢
              have vh_82 : (fun c2 I2 F2 => Fr [] [] [196, 305] cn In Fn80 c2 I2 F2 ∧ CBX c2 ∧ (True)) cn82 In82 Fn82 := wh_82
              obtain ⟨hfc82, hIn82, h_82⟩ := vh_82
              obtain rfl : cn = cn82 := (funext (fun k => hfc82.1 k List.not_mem_nil)).symm
              obtain rfl : In = In82 := (funext (fun k => hfc82.2.1 k List.not_mem_nil)).symm
              have hf82 : Fr [] [] [196, 197, 305] cn In Fn cn In Fn82 := Fr.mo (Fr.tr hf80 hfc82) (sbl rfl) (sbl rfl) (sbl rfl)
              replace hIn82 : CBXh cn := hIn82
              have hinc := inc_toInt (x := x16_5) (y := v1) (by (first | omega | (have zz0 := Hid.u hb_cn; omega)))
              refine lv_iinc (v := (x16_5 + 1)) (lv' := [(5, .int (x16_5 + 1)), (8, .int r_75), (7, .int ((atM (gA (F16 301) 200 k0) (((F16 199) k0).toInt.toNat) x16_5) &&& 1048575)), (6, .int (atM (gA (F16 301) 200 k0) (((F16 199) k0).toInt.toNat) x16_5)), (4, .int x16_4), (0, .ref (ad 5 k0)), (1, .int v0), (2, .int v1), (3, .ref (g 7))]) hx hb dX9_run_228 hl (k := 3) rfl rfl (ltb rfl) rfl (fun ls hl => ?_)
              refine lv_goto (tgt := 16) hx hb dX9_run_231 rfl ?_
              exact ih16 x16_4 (x16_5 + 1) Fn82 _ _ (by (first | omega | (have zz0 := Hid.u hb_cn; omega))) ⟨(Fr.mo hf82 (sbl rfl) (sbl rfl) (sbl rfl)), hIn82⟩ hP hD hS ls (lv_sub hl [0, 4, 5, 6, 7, 8] rfl)
            ·
              refine lv_tableIn (tgt := 203) (off := 141) hx hb dX9_run_62 (by (first | omega | (have zz0 := Hid.u hb_cn; omega))) (by (first | omega | (have zz0 := Hid.u hb_cn; omega))) (by rw [c_12]; rfl) (by decide) ?_
              refine lv_aload_n hx hb dX9_run_203 rfl (lvA4 hl) ?_
              have hFc := free_all hD hS hA
              refine va_calli (runV_xa (As := []) (rest := []) S (q_Xpop l D cI cB cZ zz qq vv bt g ad cn In F16 k0 H.size hI16 (by (first | omega | (have zz0 := Hid.u hb_cn; omega)))) kV_RX9_67 hK hXS hS hFc hP hD _ (xf_7 hk) rfl rfl ⟨Nat.le_of_ble_eq_true rfl, Nat.le_of_ble_eq_true rfl⟩ ⟨Nat.le_of_ble_eq_true rfl, Nat.le_of_ble_eq_true rfl⟩ rfl hl.1 rfl (Nat.le_of_ble_eq_true rfl) dX9_run_204) hS (fun q _ h => hFc q h) hFc (fun r_83 u t H1 locs ht hvm wh_84 hB1 hz1 hk1 hS => ?_)
              obtain ⟨cn84, In84, Fn84⟩ := u
              obtain ⟨hP1, hD1⟩ := hB1
              rw [ht] at hP1
              have hP : va_P D vwCl (wX cI (D.1 99) zz g ad cn84 In84 Fn84) H1 := hP1
              have hD : va_D A (wX cI (D.1 99) zz g ad cn84 In84 Fn84) := hD1.weaken (fun _ _ _ h => hFc _ h)
              generalize H1 = H at hP hS ⊢
              have vh_84 : (fun r c2 I2 F2 => Fr [] [] [196] cn In F16 c2 I2 F2 ∧ CBX c2 ∧ (True)) r_83 cn84 In84 Fn84 := wh_84
              obtain ⟨hfc84, hIn84, h_84⟩ := vh_84
              obtain rfl : cn = cn84 := (funext (fun k => hfc84.1 k List.not_mem_nil)).symm
              obtain rfl : In = In84 := (funext (fun k => hfc84.2.1 k List.not_mem_nil)).symm
              have hf84 : Fr [] [] [196, 197, 305] cn In Fn cn In Fn84 := Fr.mo (Fr.tr hfr16 hfc84) (sbl rfl) (sbl rfl) (sbl rfl)
              replace hIn84 : CBXh cn := hIn84
              refine lv_istore (lv' := [(8, .int r_83), (7, .int ((atM (gA (F16 301) 200 k0) (((F16 199) k0).toInt.toNat) x16_5) &&& 1048575)), (6, .int (atM (gA (F16 301) 200 k0) (((F16 199) k0).toInt.toNat) x16_5)), (5, .int x16_5), (4, .int x16_4), (0, .ref (ad 5 k0)), (1, .int v0), (2, .int v1), (3, .ref (g 7))]) hx hb dX9_run_207 hl (ltb rfl) rfl (fun ls hl => ?_)
              refine lv_aload_n hx hb dX9_run_209 rfl (lvA5 hl) ?_
              refine lv_aload_n hx hb dX9_run_210 rfl (lvA5 hl) ?_
              refine lv_iload hx hb dX9_run_211 (lvA2 hl) ?_
              refine lv_bipush (v := 20) hx hb dX9_run_213 kbc_20 ?_
              refine lv_ishr hx hb dX9_run_215 ?_
              refine lv_aload_n hx hb dX9_run_216 rfl (lvA5 hl) ?_
              have hFc := free_all hD hS hA
              refine va_calli (runV_xa (As := []) (rest := [.int ((atM (gA (F16 301) 200 k0) (((F16 199) k0).toInt.toNat) x16_5) >>> (20 &&& 31)), .ref (ad 5 k0), .ref (ad 5 k0)]) S (q_Xpop l D cI cB cZ zz qq vv bt g ad cn In Fn84 k0 H.size hIn84 (by (first | omega | (have zz0 := Hid.u hb_cn; omega)))) kV_RX9_67 hK hXS hS hFc hP hD _ (xf_7 hk) rfl rfl ⟨Nat.le_of_ble_eq_true rfl, Nat.le_of_ble_eq_true rfl⟩ ⟨Nat.le_of_ble_eq_true rfl, Nat.le_of_ble_eq_true rfl⟩ rfl hl.1 rfl (Nat.le_of_ble_eq_true rfl) dX9_run_217) hS (fun q _ h => hFc q h) hFc (fun r_85 u t H1 locs ht hvm wh_86 hB1 hz1 hk1 hS => ?_)
              obtain ⟨cn86, In86, Fn86⟩ := u
              obtain ⟨hP1, hD1⟩ := hB1
              rw [ht] at hP1
              have hP : va_P D vwCl (wX cI (D.1 99) zz g ad cn86 In86 Fn86) H1 := hP1
              have hD : va_D A (wX cI (D.1 99) zz g ad cn86 In86 Fn86) := hD1.weaken (fun _ _ _ h => hFc _ h)
              generalize H1 = H at hP hS ⊢
              have vh_86 : (fun r c2 I2 F2 => Fr [] [] [196] cn In Fn84 c2 I2 F2 ∧ CBX c2 ∧ (True)) r_85 cn86 In86 Fn86 := wh_86
              obtain ⟨hfc86, hIn86, h_86⟩ := vh_86
              obtain rfl : cn = cn86 := (funext (fun k => hfc86.1 k List.not_mem_nil)).symm
              obtain rfl : In = In86 := (funext (fun k => hfc86.2.1 k List.not_mem_nil)).symm
              have hf86 : Fr [] [] [196, 197, 305] cn In Fn cn In Fn86 := Fr.mo (Fr.tr hf84 hfc86) (sbl rfl) (sbl rfl) (sbl rfl)
              replace hIn86 : CBXh cn := hIn86
              refine lv_iload hx hb dX9_run_220 (lvA0 hl) ?_
              have hFc := free_all hD hS hA
              refine va_calli (runV_xa (As := [.int ((atM (gA (F16 301) 200 k0) (((F16 199) k0).toInt.toNat) x16_5) >>> (20 &&& 31)), .int r_85, .int r_83]) (rest := [.ref (ad 5 k0)]) S (q_Xreckon l D cI cB cZ zz qq vv bt g ad cn In Fn86 k0 ((atM (gA (F16 301) 200 k0) (((F16 199) k0).toInt.toNat) x16_5) >>> (20 &&& 31)) r_85 r_83 H.size hIn86 (by (first | omega | (have zz0 := Hid.u hb_cn; omega)))) kV_RX9_75 hK hXS hS hFc hP hD _ (xf_7 hk) rfl rfl ⟨Nat.le_of_ble_eq_true rfl, Nat.le_of_ble_eq_true rfl⟩ ⟨Nat.le_of_ble_eq_true rfl, Nat.le_of_ble_eq_true rfl⟩ rfl hl.1 rfl (Nat.le_of_ble_eq_true rfl) dX9_run_222) hS (fun q _ h => hFc q h) hFc (fun r_87 u t H1 locs ht hvm wh_88 hB1 hz1 hk1 hS => ?_)
              obtain ⟨cn88, In88, Fn88⟩ := u
              obtain ⟨hP1, hD1⟩ := hB1
              rw [ht] at hP1
              have hP : va_P D vwCl (wX cI (D.1 99) zz g ad cn88 In88 Fn88) H1 := hP1
              have hD : va_D A (wX cI (D.1 99) zz g ad cn88 In88 Fn88) := hD1.weaken (fun _ _ _ h => hFc _ h)
              generalize H1 = H at hP hS ⊢
              have vh_88 : (fun r c2 I2 F2 => Fr [] [] [197] cn In Fn86 c2 I2 F2 ∧ CBX c2 ∧ (True)) r_87 cn88 In88 Fn88 := wh_88
              obtain ⟨hfc88, hIn88, h_88⟩ := vh_88
              obtain rfl : cn = cn88 := (funext (fun k => hfc88.1 k List.not_mem_nil)).symm
              obtain rfl : In = In88 := (funext (fun k => hfc88.2.1 k List.not_mem_nil)).symm
              have hf88 : Fr [] [] [196, 197, 305] cn In Fn cn In Fn88 := Fr.mo (Fr.tr hf86 hfc88) (sbl rfl) (sbl rfl) (sbl rfl)
              replace hIn88 : CBXh cn := hIn88
              have hFc := free_all hD hS hA
              refine va_callv (runV_xa (As := [.int r_87]) (rest := []) S (q_Xpush l D cI cB cZ zz qq vv bt g ad cn In Fn88 k0 r_87 H.size hIn88 (by (first | omega | (have zz0 := Hid.u hb_cn; omega)))) kV_RX9_63 hK hXS hS hFc hP hD _ (xf_7 hk) rfl rfl ⟨Nat.le_of_ble_eq_true rfl, Nat.le_of_ble_eq_true rfl⟩ ⟨Nat.le_of_ble_eq_true rfl, Nat.le_of_ble_eq_true rfl⟩ rfl hl.1 rfl (Nat.le_of_ble_eq_true rfl) dX9_run_225) hS (fun q _ h => hFc q h) hFc (fun u t H1 locs ht hvm wh_90 hB1 hz1 hk1 hS => ?_)
              obtain ⟨cn90, In90, Fn90⟩ := u
              obtain ⟨hP1, hD1⟩ := hB1
              rw [ht] at hP1
              have hP : va_P D vwCl (wX cI (D.1 99) zz g ad cn90 In90 Fn90) H1 := hP1
              have hD : va_D A (wX cI (D.1 99) zz g ad cn90 In90 Fn90) := hD1.weaken (fun _ _ _ h => hFc _ h)
              generalize H1 = H at hP hS ⊢
              have vh_90 : (fun c2 I2 F2 => Fr [] [] [196, 305] cn In Fn88 c2 I2 F2 ∧ CBX c2 ∧ (True)) cn90 In90 Fn90 := wh_90
              obtain ⟨hfc90, hIn90, h_90⟩ := vh_90
              obtain rfl : cn = cn90 := (funext (fun k => hfc90.1 k List.not_mem_nil)).symm
              obtain rfl : In = In90 := (funext (fun k => hfc90.2.1 k List.not_mem_nil)).symm
              have hf90 : Fr [] [] [196, 197, 305] cn In Fn cn In Fn90 := Fr.mo (Fr.tr hf88 hfc90) (sbl rfl) (sbl rfl) (sbl rfl)
              replace hIn90 : CBXh cn := hIn90
              have hinc := inc_toInt (x := x16_5) (y := v1) (by (first | omega | (have zz0 := Hid.u hb_cn; omega)))
              refine lv_iinc (v := (x16_5 + 1)) (lv' := [(5, .int (x16_5 + 1)), (8, .int r_83), (7, .int ((atM (gA (F16 301) 200 k0) (((F16 199) k0).toInt.toNat) x16_5) &&& 1048575)), (6, .int (atM (gA (F16 301) 200 k0) (((F16 199) k0).toInt.toNat) x16_5)), (4, .int x16_4), (0, .ref (ad 5 k0)), (1, .int v0), (2, .int v1), (3, .ref (g 7))]) hx hb dX9_run_228 hl (k := 3) rfl rfl (ltb rfl) rfl (fun ls hl => ?_)
              refine lv_goto (tgt := 16) hx hb dX9_run_231 rfl ?_
              exact ih16 x16_4 (x16_5 + 1) Fn90 _ _ (by (first | omega | (have zz0 := Hid.u hb_cn; omega))) ⟨(Fr.mo hf90 (sbl rfl) (sbl rfl) (sbl rfl)), hIn90⟩ hP hD hS ls (lv_sub hl [0, 4, 5, 6, 7, 8] rfl)
            ·
              refine lv_tableIn (tgt := 203) (off := 141) hx hb dX9_run_62 (by (first | omega | (have zz0 := Hid.u hb_cn; omega))) (by (first | omega | (have zz0 := Hid.u hb_cn; omega))) (by rw [c_12]; rfl) (by decide) ?_
              refine lv_aload_n hx hb dX9_run_203 rfl (lvA4 hl) ?_
              have hFc := free_all hD hS hA
              refine va_calli (runV_xa (As := []) (rest := []) S (q_Xpop l D cI cB cZ zz qq vv bt g ad cn In F16 k0 H.size hI16 (by (first | omega | (have zz0 := Hid.u hb_cn; omega)))) kV_RX9_67 hK hXS hS hFc hP hD _ (xf_7 hk) rfl rfl ⟨Nat.le_of_ble_eq_true rfl, Nat.le_of_ble_eq_true rfl⟩ ⟨Nat.le_of_ble_eq_true rfl, Nat.le_of_ble_eq_true rfl⟩ rfl hl.1 rfl (Nat.le_of_ble_eq_true rfl) dX9_run_204) hS (fun q _ h => hFc q h) hFc (fun r_91 u t H1 locs ht hvm wh_92 hB1 hz1 hk1 hS => ?_)
              obtain ⟨cn92, In92, Fn92⟩ := u
              obtain ⟨hP1, hD1⟩ := hB1
              rw [ht] at hP1
              have hP : va_P D vwCl (wX cI (D.1 99) zz g ad cn92 In92 Fn92) H1 := hP1
              have hD : va_D A (wX cI (D.1 99) zz g ad cn92 In92 Fn92) := hD1.weaken (fun _ _ _ h => hFc _ h)
              generalize H1 = H at hP hS ⊢
              have vh_92 : (fun r c2 I2 F2 => Fr [] [] [196] cn In F16 c2 I2 F2 ∧ CBX c2 ∧ (True)) r_91 cn92 In92 Fn92 := wh_92
              obtain ⟨hfc92, hIn92, h_92⟩ := vh_92
              obtain rfl : cn = cn92 := (funext (fun k => hfc92.1 k List.not_mem_nil)).symm
              obtain rfl : In = In92 := (funext (fun k => hfc92.2.1 k List.not_mem_nil)).symm
              have hf92 : Fr [] [] [196, 197, 305] cn In Fn cn In Fn92 := Fr.mo (Fr.tr hfr16 hfc92) (sbl rfl) (sbl rfl) (sbl rfl)
              replace hIn92 : CBXh cn := hIn92
              refine lv_istore (lv' := [(8, .int r_91), (7, .int ((atM (gA (F16 301) 200 k0) (((F16 199) k0).toInt.toNat) x16_5) &&& 1048575)), (6, .int (atM (gA (F16 301) 200 k0) (((F16 199) k0).toInt.toNat) x16_5)), (5, .int x16_5), (4, .int x16_4), (0, .ref (ad 5 k0)), (1, .int v0), (2, .int v1), (3, .ref (g 7))]) hx hb dX9_run_207 hl (ltb rfl) rfl (fun ls hl => ?_)
              refine lv_aload_n hx hb dX9_run_209 rfl (lvA5 hl) ?_
              refine lv_aload_n hx hb dX9_run_210 rfl (lvA5 hl) ?_
              refine lv_iload hx hb dX9_run_211 (lvA2 hl) ?_
              refine lv_bipush (v := 20) hx hb dX9_run_213 kbc_20 ?_
              refine lv_ishr hx hb dX9_run_215 ?_
              refine lv_aload_n hx hb dX9_run_216 rfl (lvA5 hl) ?_
              have hFc := free_all hD hS hA
              refine va_calli (runV_xa (As := []) (rest := [.int ((atM (gA (F16 301) 200 k0) (((F16 199) k0).toInt.toNat) x16_5) >>> (20 &&& 31)), .ref (ad 5 k0), .ref (ad 5 k0)]) S (q_Xpop l D cI cB cZ zz qq vv bt g ad cn In Fn92 k0 H.size hIn92 (by (first | omega | (have zz0 := Hid.u hb_cn; omega)))) kV_RX9_67 hK hXS hS hFc hP hD _ (xf_7 hk) rfl rfl ⟨Nat.le_of_ble_eq_true rfl, Nat.le_of_ble_eq_true rfl⟩ ⟨Nat.le_of_ble_eq_true rfl, Nat.le_of_ble_eq_true rfl⟩ rfl hl.1 rfl (Nat.le_of_ble_eq_true rfl) dX9_run_217) hS (fun q _ h => hFc q h) hFc (fun r_93 u t H1 locs ht hvm wh_94 hB1 hz1 hk1 hS => ?_)
              obtain ⟨cn94, In94, Fn94⟩ := u
              obtain ⟨hP1, hD1⟩ := hB1
              rw [ht] at hP1
              have hP : va_P D vwCl (wX cI (D.1 99) zz g ad cn94 In94 Fn94) H1 := hP1
              have hD : va_D A (wX cI (D.1 99) zz g ad cn94 In94 Fn94) := hD1.weaken (fun _ _ _ h => hFc _ h)
              generalize H1 = H at hP hS ⊢
              have vh_94 : (fun r c2 I2 F2 => Fr [] [] [196] cn In Fn92 c2 I2 F2 ∧ CBX c2 ∧ (True)) r_93 cn94 In94 Fn94 := wh_94
              obtain ⟨hfc94, hIn94, h_94⟩ := vh_94
              obtain rfl : cn = cn94 := (funext (fun k => hfc94.1 k List.not_mem_nil)).symm
              obtain rfl : In = In94 := (funext (fun k => hfc94.2.1 k List.not_mem_nil)).symm
              have hf94 : Fr [] [] [196, 197, 305] cn In Fn cn In Fn94 := Fr.mo (Fr.tr hf92 hfc94) (sbl rfl) (sbl rfl) (sbl rfl)
              replace hIn94 : CBXh cn := hIn94
              refine lv_iload hx hb dX9_run_220 (lvA0 hl) ?_
              have hFc := free_all hD hS hA
              refine va_calli (runV_xa (As := [.int ((atM (gA (F16 301) 200 k0) (((F16 199) k0).toInt.toNat) x16_5) >>> (20 &&& 31)), .int r_93, .int r_91]) (rest := [.ref (ad 5 k0)]) S (q_Xreckon l D cI cB cZ zz qq vv bt g ad cn In Fn94 k0 ((atM (gA (F16 301) 200 k0) (((F16 199) k0).toInt.toNat) x16_5) >>> (20 &&& 31)) r_93 r_91 H.size hIn94 (by (first | omega | (have zz0 := Hid.u hb_cn; omega)))) kV_RX9_75 hK hXS hS hFc hP hD _ (xf_7 hk) rfl rfl ⟨Nat.le_of_ble_eq_true rfl, Nat.le_of_ble_eq_true rfl⟩ ⟨Nat.le_of_ble_eq_true rfl, Nat.le_of_ble_eq_true rfl⟩ rfl hl.1 rfl (Nat.le_of_ble_eq_true rfl) dX9_run_222) hS (fun q _ h => hFc q h) hFc (fun r_95 u t H1 locs ht hvm wh_96 hB1 hz1 hk1 hS => ?_)
              obtain ⟨cn96, In96, Fn96⟩ := u
              obtain ⟨hP1, hD1⟩ := hB1
              rw [ht] at hP1
              have hP : va_P D vwCl (wX cI (D.1 99) zz g ad cn96 In96 Fn96) H1 := hP1
              have hD : va_D A (wX cI (D.1 99) zz g ad cn96 In96 Fn96) := hD1.weaken (fun _ _ _ h => hFc _ h)
              generalize H1 = H at hP hS ⊢
              have vh_96 : (fun r c2 I2 F2 => Fr [] [] [197] cn In Fn94 c2 I2 F2 ∧ CBX c2 ∧ (True)) r_95 cn96 In96 Fn96 := wh_96
              obtain ⟨hfc96, hIn96, h_96⟩ := vh_96
              obtain rfl : cn = cn96 := (funext (fun k => hfc96.1 k List.not_mem_nil)).symm
              obtain rfl : In = In96 := (funext (fun k => hfc96.2.1 k List.not_mem_nil)).symm
              have hf96 : Fr [] [] [196, 197, 305] cn In Fn cn In Fn96 := Fr.mo (Fr.tr hf94 hfc96) (sbl rfl) (sbl rfl) (sbl rfl)
              replace hIn96 : CBXh cn := hIn96
              have hFc := free_all hD hS hA
              refine va_callv (runV_xa (As := [.int r_95]) (rest := []) S (q_Xpush l D cI cB cZ zz qq vv bt g ad cn In Fn96 k0 r_95 H.size hIn96 (by (first | omega | (have zz0 := Hid.u hb_cn; omega)))) kV_RX9_63 hK hXS hS hFc hP hD _ (xf_7 hk) rfl rfl ⟨Nat.le_of_ble_eq_true rfl, Nat.le_of_ble_eq_true rfl⟩ ⟨Nat.le_of_ble_eq_true rfl, Nat.le_of_ble_eq_true rfl⟩ rfl hl.1 rfl (Nat.le_of_ble_eq_true rfl) dX9_run_225) hS (fun q _ h => hFc q h) hFc (fun u t H1 locs ht hvm wh_98 hB1 hz1 hk1 hS => ?_)
              obtain ⟨cn98, In98, Fn98⟩ := u
              obtain ⟨hP1, hD1⟩ := hB1
              rw [ht] at hP1
              have hP : va_P D vwCl (wX cI (D.1 99) zz g ad cn98 In98 Fn98) H1 := hP1
              have hD : va_D A (wX cI (D.1 99) zz g ad cn98 In98 Fn98) := hD1.weaken (fun _ _ _ h => hFc _ h)
              generalize H1 = H at hP hS ⊢
              have vh_98 : (fun c2 I2 F2 => Fr [] [] [196, 305] cn In Fn96 c2 I2 F2 ∧ CBX c2 ∧ (True)) cn98 In98 Fn98 := wh_98
              obtain ⟨hfc98, hIn98, h_98⟩ := vh_98
              obtain rfl : cn = cn98 := (funext (fun k => hfc98.1 k List.not_mem_nil)).symm
              obtain rfl : In = In98 := (funext (fun k => hfc98.2.1 k List.not_mem_nil)).symm
              have hf98 : Fr [] [] [196, 197, 305] cn In Fn cn In Fn98 := Fr.mo (Fr.tr hf96 hfc98) (sbl rfl) (sbl rfl) (sbl rfl)
              replace hIn98 : CBXh cn := hIn98
              have hinc := inc_toInt (x := x16_5) (y := v1) (by (first | omega | (have zz0 := Hid.u hb_cn; omega)))
              refine lv_iinc (v := (x16_5 + 1)) (lv' := [(5, .int (x16_5 + 1)), (8, .int r_91), (7, .int ((atM (gA (F16 301) 200 k0) (((F16 199) k0).toInt.toNat) x16_5) &&& 1048575)), (6, .int (atM (gA (F16 301) 200 k0) (((F16 199) k0).toInt.toNat) x16_5)), (4, .int x16_4), (0, .ref (ad 5 k0)), (1, .int v0), (2, .int v1), (3, .ref (g 7))]) hx hb dX9_run_228 hl (k := 3) rfl rfl (ltb rfl) rfl (fun ls hl => ?_)
              refine lv_goto (tgt := 16) hx hb dX9_run_231 rfl ?_
              exact ih16 x16_4 (x16_5 + 1) Fn98 _ _ (by (first | omega | (have zz0 := Hid.u hb_cn; omega))) ⟨(Fr.mo hf98 (sbl rfl) (sbl rfl) (sbl rfl)), hIn98⟩ hP hD hS ls (lv_sub hl [0, 4, 5, 6, 7, 8] rfl)
            ·
              refine lv_tableIn (tgt := 150) (off := 88) hx hb dX9_run_62 (by (first | omega | (have zz0 := Hid.u hb_cn; omega))) (by (first | omega | (have zz0 := Hid.u hb_cn; omega))) (by rw [c_12]; rfl) (by decide) ?_
              refine lv_aload_n hx hb (oc_42 150 (aq_22 shX9_run_128)) rfl (lvA4 hl) ?_
              refine lv_iconst (v := 1) hx hb (oc_4 151 (aq_23 shX9_run_128)) kic_1 ?_
              refine lv_aload_n hx hb (oc_42 152 shX9_run_152) rfl (lvA4 hl) ?_
              have hFc := free_all hD hS hA
              refine va_calli (runV_xa (As := []) (rest := [.int 1, .ref (ad 5 k0)]) S (q_Xpop l D cI cB cZ zz qq vv bt g ad cn In F16 k0 H.size hI16 (by (first | omega | (have zz0 := Hid.u hb_cn; omega)))) kV_RX9_67 hK hXS hS hFc hP hD _ (xf_7 hk) rfl rfl ⟨Nat.le_of_ble_eq_true rfl, Nat.le_of_ble_eq_true rfl⟩ ⟨Nat.le_of_ble_eq_true rfl, Nat.le_of_ble_eq_true rfl⟩ rfl hl.1 rfl (Nat.le_of_ble_eq_true rfl) (oc_182 153 (aq_1 shX9_run_152) uw_0_67)) hS (fun q _ h => hFc q h) hFc (fun r_99 u t H1 locs ht hvm wh_100 hB1 hz1 hk1 hS => ?_)
              obtain ⟨cn100, In100, Fn100⟩ := u
              obtain ⟨hP1, hD1⟩ := hB1
              rw [ht] at hP1
              have hP : va_P D vwCl (wX cI (D.1 99) zz g ad cn100 In100 Fn100) H1 := hP1
              have hD : va_D A (wX cI (D.1 99) zz g ad cn100 In100 Fn100) := hD1.weaken (fun _ _ _ h => hFc _ h)
              generalize H1 = H at hP hS ⊢
              have vh_100 : (fun r c2 I2 F2 => Fr [] [] [196] cn In F16 c2 I2 F2 ∧ CBX c2 ∧ (True)) r_99 cn100 In100 Fn100 := wh_100
              obtain ⟨hfc100, hIn100, h_100⟩ := vh_100
              obtain rfl : cn = cn100 := (funext (fun k => hfc100.1 k List.not_mem_nil)).symm
              obtain rfl : In = In100 := (funext (fun k => hfc100.2.1 k List.not_mem_nil)).symm
              have hf100 : Fr [] [] [196, 197, 305] cn In Fn cn In Fn100 := Fr.mo (Fr.tr hfr16 hfc100) (sbl rfl) (sbl rfl) (sbl rfl)
              replace hIn100 : CBXh cn := hIn100
              refine lv_isub hx hb (oc_100 156 (aq_4 shX9_run_152)) ?_
              have hFc := free_all hD hS hA
              refine va_callv (runV_xa (As := [.int (1 - r_99)]) (rest := []) S (q_Xpush l D cI cB cZ zz qq vv bt g ad cn In Fn100 k0 (1 - r_99) H.size hIn100 (by (first | omega | (have zz0 := Hid.u hb_cn; omega)))) kV_RX9_63 hK hXS hS hFc hP hD _ (xf_7 hk) rfl rfl ⟨Nat.le_of_ble_eq_true rfl, Nat.le_of_ble_eq_true rfl⟩ ⟨Nat.le_of_ble_eq_true rfl, Nat.le_of_ble_eq_true rfl⟩ rfl hl.1 rfl (Nat.le_of_ble_eq_true rfl) (oc_182 157 (aq_5 shX9_run_152) uw_0_63)) hS (fun q _ h => hFc q h) hFc (fun u t H1 locs ht hvm wh_102 hB1 hz1 hk1 hS => ?_)
              obtain ⟨cn102, In102, Fn102⟩ := u
              obtain ⟨hP1, hD1⟩ := hB1
              rw [ht] at hP1
              have hP : va_P D vwCl (wX cI (D.1 99) zz g ad cn102 In102 Fn102) H1 := hP1
              have hD : va_D A (wX cI (D.1 99) zz g ad cn102 In102 Fn102) := hD1.weaken (fun _ _ _ h => hFc _ h)
              generalize H1 = H at hP hS ⊢
              have vh_102 : (fun c2 I2 F2 => Fr [] [] [196, 305] cn In Fn100 c2 I2 F2 ∧ CBX c2 ∧ (True)) cn102 In102 Fn102 := wh_102
              obtain ⟨hfc102, hIn102, h_102⟩ := vh_102
              obtain rfl : cn = cn102 := (funext (fun k => hfc102.1 k List.not_mem_nil)).symm
              obtain rfl : In = In102 := (funext (fun k => hfc102.2.1 k List.not_mem_nil)).symm
              have hf102 : Fr [] [] [196, 197, 305] cn In Fn cn In Fn102 := Fr.mo (Fr.tr hf100 hfc102) (sbl rfl) (sbl rfl) (sbl rfl)
              replace hIn102 : CBXh cn := hIn102
              refine lv_goto (tgt := 228) hx hb (oc_167 160 (aq_8 shX9_run_152) sgw_0_68) rfl ?_
              have hinc := inc_toInt (x := x16_5) (y := v1) (by (first | omega | (have zz0 := Hid.u hb_cn; omega)))
              refine lv_iinc (v := (x16_5 + 1)) (lv' := [(5, .int (x16_5 + 1)), (7, .int ((atM (gA (F16 301) 200 k0) (((F16 199) k0).toInt.toNat) x16_5) &&& 1048575)), (6, .int (atM (gA (F16 301) 200 k0) (((F16 199) k0).toInt.toNat) x16_5)), (4, .int x16_4), (0, .ref (ad 5 k0)), (1, .int v0), (2, .int v1), (3, .ref (g 7))]) hx hb dX9_run_228 hl (k := 2) rfl rfl (ltb rfl) rfl (fun ls hl => ?_)
              refine lv_goto (tgt := 16) hx hb dX9_run_231 rfl ?_
              exact ih16 x16_4 (x16_5 + 1) Fn102 _ _ (by (first | omega | (have zz0 := Hid.u hb_cn; omega))) ⟨(Fr.mo hf102 (sbl rfl) (sbl rfl) (sbl rfl)), hIn102⟩ hP hD hS ls (lv_sub hl [0, 3, 4, 5, 6, 7] rfl)
            ·
              refine lv_tableIn (tgt := 163) (off := 101) hx hb dX9_run_62 (by (first | omega | (have zz0 := Hid.u hb_cn; omega))) (by (first | omega | (have zz0 := Hid.u hb_cn; omega))) (by rw [c_12]; rfl) (by decide) ?_
              refine lv_aload_n hx hb (oc_42 163 (aq_11 shX9_run_152)) rfl (lvA4 hl) ?_
              refine lv_iconst (v := 0) hx hb (oc_3 164 (aq_12 shX9_run_152)) kic_0 ?_
              have hFc := free_all hD hS hA
              refine va_calli (runV_xa (As := [.int 0]) (rest := []) S (q_Xdecided l D cI cB cZ zz qq vv bt g ad cn In F16 k0 0 H.size hI16 (by (first | omega | (have zz0 := Hid.u hb_cn; omega)))) kV_RX9_71 hK hXS hS hFc hP hD _ (xf_7 hk) rfl rfl ⟨Nat.le_of_ble_eq_true rfl, Nat.le_of_ble_eq_true rfl⟩ ⟨Nat.le_of_ble_eq_true rfl, Nat.le_of_ble_eq_true rfl⟩ rfl hl.1 rfl (Nat.le_of_ble_eq_true rfl) (oc_182 165 (aq_13 shX9_run_152) uw_0_71)) hS (fun q _ h => hFc q h) hFc (fun r_103 u t H1 locs ht hvm wh_104 hB1 hz1 hk1 hS => ?_)
              obtain ⟨cn104, In104, Fn104⟩ := u
              obtain ⟨hP1, hD1⟩ := hB1
              rw [ht] at hP1
              have hP : va_P D vwCl (wX cI (D.1 99) zz g ad cn104 In104 Fn104) H1 := hP1
              have hD : va_D A (wX cI (D.1 99) zz g ad cn104 In104 Fn104) := hD1.weaken (fun _ _ _ h => hFc _ h)
              generalize H1 = H at hP hS ⊢
              have vh_104 : (fun r c2 I2 F2 => Fr [] [] [196, 305] cn In F16 c2 I2 F2 ∧ CBX c2 ∧ (r = 0 ∨ r = 1)) r_103 cn104 In104 Fn104 := wh_104
              obtain ⟨hfc104, hIn104, h_104⟩ := vh_104
              obtain rfl : cn = cn104 := (funext (fun k => hfc104.1 k List.not_mem_nil)).symm
              obtain rfl : In = In104 := (funext (fun k => hfc104.2.1 k List.not_mem_nil)).symm
              have hf104 : Fr [] [] [196, 197, 305] cn In Fn cn In Fn104 := Fr.mo (Fr.tr hfr16 hfc104) (sbl rfl) (sbl rfl) (sbl rfl)
              replace hIn104 : CBXh cn := hIn104
              rcases h_104 with rfl | rfl
              ·
                refine lv_if_eq (tgt := 176) hx hb (oc_153 168 (aq_16 shX9_run_152) sgw_0_8) rfl (fun _ => ?_) (fun h => absurd h cq_eq_0_0)
                refine lv_iload hx hb (oc_21 176 shX9_run_176 ub_4) (lvA3 hl) ?_
                refine lv_istore (lv' := [(4, .int x16_4), (7, .int ((atM (gA (F16 301) 200 k0) (((F16 199) k0).toInt.toNat) x16_5) &&& 1048575)), (6, .int (atM (gA (F16 301) 200 k0) (((F16 199) k0).toInt.toNat) x16_5)), (5, .int x16_5), (0, .ref (ad 5 k0)), (1, .int v0), (2, .int v1), (3, .ref (g 7))]) hx hb (oc_54 178 (aq_2 shX9_run_176) ub_4) hl (ltb rfl) rfl (fun ls hl => ?_)
                refine lv_goto (tgt := 228) hx hb (oc_167 180 (aq_4 shX9_run_176) sgw_0_48) rfl ?_
                have hinc := inc_toInt (x := x16_5) (y := v1) (by (first | omega | (have zz0 := Hid.u hb_cn; omega)))
                refine lv_iinc (v := (x16_5 + 1)) (lv' := [(5, .int (x16_5 + 1)), (4, .int x16_4), (7, .int ((atM (gA (F16 301) 200 k0) (((F16 199) k0).toInt.toNat) x16_5) &&& 1048575)), (6, .int (atM (gA (F16 301) 200 k0) (((F16 199) k0).toInt.toNat) x16_5)), (0, .ref (ad 5 k0)), (1, .int v0), (2, .int v1), (3, .ref (g 7))]) hx hb dX9_run_228 hl (k := 3) rfl rfl (ltb rfl) rfl (fun ls hl => ?_)
                refine lv_goto (tgt := 16) hx hb dX9_run_231 rfl ?_
                exact ih16 x16_4 (x16_5 + 1) Fn104 _ _ (by (first | omega | (have zz0 := Hid.u hb_cn; omega))) ⟨(Fr.mo hf104 (sbl rfl) (sbl rfl) (sbl rfl)), hIn104⟩ hP hD hS ls (lv_sub hl [0, 1, 4, 5, 6, 7] rfl)
              ·
                refine lv_if_eq (tgt := 176) hx hb (oc_153 168 (aq_16 shX9_run_152) sgw_0_8) rfl (fun h => absurd h cq_eq_1_0) (fun _ => ?_)
                refine lv_iload hx hb (oc_21 171 (aq_19 shX9_run_152) ub_7) (lvA0 hl) ?_
                refine lv_goto (tgt := 178) hx hb (oc_167 173 (aq_21 shX9_run_152) sgw_0_5) rfl ?_
                refine lv_istore (lv' := [(4, .int ((atM (gA (F16 301) 200 k0) (((F16 199) k0).toInt.toNat) x16_5) &&& 1048575)), (7, .int ((atM (gA (F16 301) 200 k0) (((F16 199) k0).toInt.toNat) x16_5) &&& 1048575)), (6, .int (atM (gA (F16 301) 200 k0) (((F16 199) k0).toInt.toNat) x16_5)), (5, .int x16_5), (0, .ref (ad 5 k0)), (1, .int v0), (2, .int v1), (3, .ref (g 7))]) hx hb (oc_54 178 (aq_2 shX9_run_176) ub_4) hl (ltb rfl) rfl (fun ls hl => ?_)
                refine lv_goto (tgt := 228) hx hb (oc_167 180 (aq_4 shX9_run_176) sgw_0_48) rfl ?_
                have hinc := inc_toInt (x := x16_5) (y := v1) (by (first | omega | (have zz0 := Hid.u hb_cn; omega)))
                refine lv_iinc (v := (x16_5 + 1)) (lv' := [(5, .int (x16_5 + 1)), (4, .int ((atM (gA (F16 301) 200 k0) (((F16 199) k0).toInt.toNat) x16_5) &&& 1048575)), (7, .int ((atM (gA (F16 301) 200 k0) (((F16 199) k0).toInt.toNat) x16_5) &&& 1048575)), (6, .int (atM (gA (F16 301) 200 k0) (((F16 199) k0).toInt.toNat) x16_5)), (0, .ref (ad 5 k0)), (1, .int v0), (2, .int v1), (3, .ref (g 7))]) hx hb dX9_run_228 hl (k := 3) rfl rfl (ltb rfl) rfl (fun ls hl => ?_)
                refine lv_goto (tgt := 16) hx hb dX9_run_231 rfl ?_
                exact ih16 ((atM (gA (F16 301) 200 k0) (((F16 199) k0).toInt.toNat) x16_5) &&& 1048575) (x16_5 + 1) Fn104 _ _ (by (first | omega | (have zz0 := Hid.u hb_cn; omega))) ⟨(Fr.mo hf104 (sbl rfl) (sbl rfl) (sbl rfl)), hIn104⟩ hP hD hS ls (lv_sub hl [0, 1, 4, 5, 6, 7] rfl)
            ·
              refine lv_tableIn (tgt := 183) (off := 121) hx hb dX9_run_62 (by (first | omega | (have zz0 := Hid.u hb_cn; omega))) (by (first | omega | (have zz0 := Hid.u hb_cn; omega))) (by rw [c_12]; rfl) (by decide) ?_
              refine lv_aload_n hx hb (oc_42 183 (aq_7 shX9_run_176)) rfl (lvA4 hl) ?_
              refine lv_iconst (v := 1) hx hb (oc_4 184 (aq_8 shX9_run_176)) kic_1 ?_
              have hFc := free_all hD hS hA
              refine va_calli (runV_xa (As := [.int 1]) (rest := []) S (q_Xdecided l D cI cB cZ zz qq vv bt g ad cn In F16 k0 1 H.size hI16 (by (first | omega | (have zz0 := Hid.u hb_cn; omega)))) kV_RX9_71 hK hXS hS hFc hP hD _ (xf_7 hk) rfl rfl ⟨Nat.le_of_ble_eq_true rfl, Nat.le_of_ble_eq_true rfl⟩ ⟨Nat.le_of_ble_eq_true rfl, Nat.le_of_ble_eq_true rfl⟩ rfl hl.1 rfl (Nat.le_of_ble_eq_true rfl) (oc_182 185 (aq_9 shX9_run_176) uw_0_71)) hS (fun q _ h => hFc q h) hFc (fun r_105 u t H1 locs ht hvm wh_106 hB1 hz1 hk1 hS => ?_)
              obtain ⟨cn106, In106, Fn106⟩ := u
              obtain ⟨hP1, hD1⟩ := hB1
              rw [ht] at hP1
              have hP : va_P D vwCl (wX cI (D.1 99) zz g ad cn106 In106 Fn106) H1 := hP1
              have hD : va_D A (wX cI (D.1 99) zz g ad cn106 In106 Fn106) := hD1.weaken (fun _ _ _ h => hFc _ h)
              generalize H1 = H at hP hS ⊢
              have vh_106 : (fun r c2 I2 F2 => Fr [] [] [196, 305] cn In F16 c2 I2 F2 ∧ CBX c2 ∧ (r = 0 ∨ r = 1)) r_105 cn106 In106 Fn106 := wh_106
              obtain ⟨hfc106, hIn106, h_106⟩ := vh_106
              obtain rfl : cn = cn106 := (funext (fun k => hfc106.1 k List.not_mem_nil)).symm
              obtain rfl : In = In106 := (funext (fun k => hfc106.2.1 k List.not_mem_nil)).symm
              have hf106 : Fr [] [] [196, 197, 305] cn In Fn cn In Fn106 := Fr.mo (Fr.tr hfr16 hfc106) (sbl rfl) (sbl rfl) (sbl rfl)
              replace hIn106 : CBXh cn := hIn106
              rcases h_106 with rfl | rfl
              ·
                refine lv_if_eq (tgt := 196) hx hb (oc_153 188 (aq_12 shX9_run_176) sgw_0_8) rfl (fun _ => ?_) (fun h => absurd h cq_eq_0_0)
                refine lv_iload hx hb (oc_21 196 (aq_20 shX9_run_176) ub_4) (lvA3 hl) ?_
                refine lv_istore (lv' := [(4, .int x16_4), (7, .int ((atM (gA (F16 301) 200 k0) (((F16 199) k0).toInt.toNat) x16_5) &&& 1048575)), (6, .int (atM (gA (F16 301) 200 k0) (((F16 199) k0).toInt.toNat) x16_5)), (5, .int x16_5), (0, .ref (ad 5 k0)), (1, .int v0), (2, .int v1), (3, .ref (g 7))]) hx hb (oc_54 198 (aq_22 shX9_run_176) ub_4) hl (ltb rfl) rfl (fun ls hl => ?_)
                refine lv_goto (tgt := 228) hx hb (oc_167 200 shX9_run_200 sgw_0_28) rfl ?_
                have hinc := inc_toInt (x := x16_5) (y := v1) (by (first | omega | (have zz0 := Hid.u hb_cn; omega)))
                refine lv_iinc (v := (x16_5 + 1)) (lv' := [(5, .int (x16_5 + 1)), (4, .int x16_4), (7, .int ((atM (gA (F16 301) 200 k0) (((F16 199) k0).toInt.toNat) x16_5) &&& 1048575)), (6, .int (atM (gA (F16 301) 200 k0) (((F16 199) k0).toInt.toNat) x16_5)), (0, .ref (ad 5 k0)), (1, .int v0), (2, .int v1), (3, .ref (g 7))]) hx hb dX9_run_228 hl (k := 3) rfl rfl (ltb rfl) rfl (fun ls hl => ?_)
                refine lv_goto (tgt := 16) hx hb dX9_run_231 rfl ?_
                exact ih16 x16_4 (x16_5 + 1) Fn106 _ _ (by (first | omega | (have zz0 := Hid.u hb_cn; omega))) ⟨(Fr.mo hf106 (sbl rfl) (sbl rfl) (sbl rfl)), hIn106⟩ hP hD hS ls (lv_sub hl [0, 1, 4, 5, 6, 7] rfl)
              ·
                refine lv_if_eq (tgt := 196) hx hb (oc_153 188 (aq_12 shX9_run_176) sgw_0_8) rfl (fun h => absurd h cq_eq_1_0) (fun _ => ?_)
                refine lv_iload hx hb (oc_21 191 (aq_15 shX9_run_176) ub_7) (lvA0 hl) ?_
                refine lv_goto (tgt := 198) hx hb (oc_167 193 (aq_17 shX9_run_176) sgw_0_5) rfl ?_
                refine lv_istore (lv' := [(4, .int ((atM (gA (F16 301) 200 k0) (((F16 199) k0).toInt.toNat) x16_5) &&& 1048575)), (7, .int ((atM (gA (F16 301) 200 k0) (((F16 199) k0).toInt.toNat) x16_5) &&& 1048575)), (6, .int (atM (gA (F16 301) 200 k0) (((F16 199) k0).toInt.toNat) x16_5)), (5, .int x16_5), (0, .ref (ad 5 k0)), (1, .int v0), (2, .int v1), (3, .ref (g 7))]) hx hb (oc_54 198 (aq_22 shX9_run_176) ub_4) hl (ltb rfl) rfl (fun ls hl => ?_)
                refine lv_goto (tgt := 228) hx hb (oc_167 200 shX9_run_200 sgw_0_28) rfl ?_
                have hinc := inc_toInt (x := x16_5) (y := v1) (by (first | omega | (have zz0 := Hid.u hb_cn; omega)))
                refine lv_iinc (v := (x16_5 + 1)) (lv' := [(5, .int (x16_5 + 1)), (4, .int ((atM (gA (F16 301) 200 k0) (((F16 199) k0).toInt.toNat) x16_5) &&& 1048575)), (7, .int ((atM (gA (F16 301) 200 k0) (((F16 199) k0).toInt.toNat) x16_5) &&& 1048575)), (6, .int (atM (gA (F16 301) 200 k0) (((F16 199) k0).toInt.toNat) x16_5)), (0, .ref (ad 5 k0)), (1, .int v0), (2, .int v1), (3, .ref (g 7))]) hx hb dX9_run_228 hl (k := 3) rfl rfl (ltb rfl) rfl (fun ls hl => ?_)
                refine lv_goto (tgt := 16) hx hb dX9_run_231 rfl ?_
                exact ih16 ((atM (gA (F16 301) 200 k0) (((F16 199) k0).toInt.toNat) x16_5) &&& 1048575) (x16_5 + 1) Fn106 _ _ (by (first | omega | (have zz0 := Hid.u hb_cn; omega))) ⟨(Fr.mo hf106 (sbl rfl) (sbl rfl) (sbl rfl)), hIn106⟩ hP hD hS ls (lv_sub hl [0, 1, 4, 5, 6, 7] rfl)
          ·
            have tc_9 : (x16_5.toInt : Int) < x16_4.toInt := Int32.lt_iff_toInt_lt.mp (Int32.not_le.mp c_9)
            refine lv_goto (tgt := 228) hx hb (oc_167 36 (aq_10 shX9_run_26) sgw_0_192) rfl ?_
            have hinc := inc_toInt (x := x16_5) (y := v1) (by (first | omega | (have zz0 := Hid.u hb_cn; omega)))
            refine lv_iinc (v := (x16_5 + 1)) (lv' := [(5, .int (x16_5 + 1)), (4, .int x16_4), (0, .ref (ad 5 k0)), (1, .int v0), (2, .int v1), (3, .ref (g 7))]) hx hb dX9_run_228 hl (k := 0) rfl rfl (ltb rfl) rfl (fun ls hl => ?_)
            refine lv_goto (tgt := 16) hx hb dX9_run_231 rfl ?_
            exact ih16 x16_4 (x16_5 + 1) F16 _ _ (by (first | omega | (have zz0 := Hid.u hb_cn; omega))) ⟨(Fr.mo hfr16 (sbl rfl) (sbl rfl) (sbl rfl)), hI16⟩ hP hD hS ls (lv_sub hl [0, 1, 2, 3, 4, 5] rfl)
  exact lp_16 _ v0 v0 (va_up (va_up Fn 196 (upd (Fn 196) k0 0)) 197 (upd (Fn 197) k0 0)) _ _ (Nat.lt_succ_self _) ⟨(Fr.mo (Fr.f 197 (Fr.f 196 Fr.rf)) (sbl rfl) (sbl rfl) (sbl rfl)), hB⟩ hP hD hS ls (lv_sub hl [0, 1, 2, 3, 4, 5] rfl)
set_option maxRecDepth 100000 in
set_option maxHeartbeats 4000000 in
theorem q_XfirstThat (l : Launch) (D : va_G) (cI cB cZ : ClassId) (zz qq vv : Nat) (bt : Nat → Int32) (g : Nat → Nat) (ad : Nat → Nat → Nat) (cn : Nat → Nat) (In : Nat → Int32) (Fn : Nat → Nat → Int32) (k0 n0 : Nat) (v0 : Int32) (sz : Nat) (hB : CBX cn) (hk : k0 < cn 6) (es : Fn 198 k0 = nI n0) (hn : n0 ≤ 12) : Met l yX9_firstThat (CWS yX9_firstThat cX9_firstThat 5 (some .int)) (RM 3 0 0) (PBx [.ref (ad 5 k0), .int v0, .ref (g 7)] D cI cB cZ zz qq vv bt (wX cI (D.1 99) zz g ad cn In Fn) sz) (va_Qi (fun (r : Int32) (u : (Nat → Nat) × (Nat → Int32) × (Nat → Nat → Int32)) => (fun r c2 I2 F2 => Fr [] [] [196, 197, 305] cn In Fn c2 I2 F2 ∧ CBX c2 ∧ (True)) r u.1 u.2.1 u.2.2) (fun (u : (Nat → Nat) × (Nat → Int32) × (Nat → Nat → Int32)) (t : State) => va_P D vwCl (wX cI (D.1 99) zz g ad u.1 u.2.1 u.2.2) t.heap ∧ va_D (va_A (wX cI (D.1 99) zz g ad cn In Fn) sz) (wX cI (D.1 99) zz g ad u.1 u.2.1 u.2.2)) (va_A (wX cI (D.1 99) zz g ad cn In Fn) sz)) 0 0 (va_A (wX cI (D.1 99) zz g ad cn In Fn) sz) := by
  refine en_x (fun A => (va_Qi (fun (r : Int32) (u : (Nat → Nat) × (Nat → Int32) × (Nat → Nat → Int32)) => (fun (r : Int32) (c2 : Nat → Nat) (I2 : Nat → Int32) (F2 : Nat → Nat → Int32) => Fr [] [] [196, 197, 305] cn In Fn c2 I2 F2 ∧ CBX c2 ∧ (True)) r u.1 u.2.1 u.2.2) (fun (u : (Nat → Nat) × (Nat → Int32) × (Nat → Nat → Int32)) (t : State) => va_P D vwCl (wX cI (D.1 99) zz g ad u.1 u.2.1 u.2.2) t.heap ∧ va_D A (wX cI (D.1 99) zz g ad u.1 u.2.1 u.2.2)) A)) rfl rfl pn_RX9 (Nat.le_of_ble_eq_true rfl) (fun p e s m below meth c A hx hb hml hown S hr hlocks hnm hA hP hK hD hXS hS ls hl => ?_)
  have hl : lv_has ls 5 [(0, .ref (ad 5 k0)), (1, .int v0), (2, .ref (g 7))] := hl
  have hb_cn : Hid (CBX cn) := hB
  replace hB : CBXh cn := hB
  refine lv_iconst (v := 0) hx hb (oc_3 0 shX9_firstThat_0) kic_0 ?_
  refine lv_istore_n (lv' := [(3, .int 0), (0, .ref (ad 5 k0)), (1, .int v0), (2, .ref (g 7))]) hx hb (oc_62 1 (aq_1 shX9_firstThat_0)) rfl hl (ltb rfl) rfl (fun ls hl => ?_)
  have lp_2 : ∀ (n : Nat) (i2 : Nat) (Fw : Nat → Nat → Int32) (H : Heap) (locs : List Loc) , n0 - i2 < n → (i2 ≤ n0 ∧ Fr [] [] [196, 197, 305] cn In Fn cn In Fw ∧ CBX cn) → va_P D vwCl (wX cI (D.1 99) zz g ad cn In Fw) H → va_D A (wX cI (D.1 99) zz g ad cn In Fw) → va_S A s.heap H locs → ∀ ls : Array Slot, lv_has ls 5 [(3, .int (nI i2)), (0, .ref (ad 5 k0)), (1, .int v0), (2, .ref (g 7))] → W p l e (RM 3 0 0) s m ([.ref (ad 5 k0), .int v0, .ref (g 7)]).toArray below meth c H locs 0 0 (MQ below (va_Qi (fun (r : Int32) (u : (Nat → Nat) × (Nat → Int32) × (Nat → Nat → Int32)) => (fun r c2 I2 F2 => Fr [] [] [196, 197, 305] cn In Fn c2 I2 F2 ∧ CBX c2 ∧ (True)) r u.1 u.2.1 u.2.2) (fun (u : (Nat → Nat) × (Nat → Int32) × (Nat → Nat → Int32)) (t : State) => va_P D vwCl (wX cI (D.1 99) zz g ad u.1 u.2.1 u.2.2) t.heap ∧ va_D A (wX cI (D.1 99) zz g ad u.1 u.2.1 u.2.2)) A) ([.ref (ad 5 k0), .int v0, .ref (g 7)]).toArray s 0 0 A) (F0 m 2 ls []) := by
    intro n2
    induction n2 with
    | zero => intros; (first | omega | (have zz0 := Hid.u hb_cn; omega))
    | succ n2 ih2 =>
      intro i2 Fw H locs hmu2 hinv2 hP hD hS ls hl
      obtain ⟨hr2, hfr2, hI2⟩ := hinv2
      have ti2 : (nI i2).toInt = (i2 : Int) := nI_toInt (by (first | omega | (have zz0 := Hid.u hb_cn; omega)))
      replace hI2 : CBXh cn := hI2
      refine lv_iload_n hx hb (oc_29 2 (aq_2 shX9_firstThat_0)) rfl (lvA0 hl) ?_
      refine lv_aload_n hx hb (oc_42 3 (aq_3 shX9_firstThat_0)) rfl (lvA1 hl) ?_
      refine gf_RX9_48 S hK hP _ (xf_7 hk) (v := .int ((Fw 198) k0)) rfl (oc_180 4 (aq_4 shX9_firstThat_0) uw_0_48) ?_
      refine lv_topi (fun y_1 ey_1 => ?_)
      obtain rfl : y_1 = (nI n0) := ey_1.trans ((congrFun (hfr2.2.2 198 (nml rfl)) k0).trans es)
      have : (nI n0).toInt = ((n0 : Nat) : Int) := nI_toInt (by (first | omega | (have zz0 := Hid.u hb_cn; omega)))
      refine lv_icmp_ge (tgt := 55) hx hb (oc_162 7 (aq_7 shX9_firstThat_0) sgw_0_48) rfl (fun c_2 => ?_) (fun c_2 => ?_)
      ·
        have tc_2 : ((nI n0).toInt : Int) ≤ (nI i2).toInt := Int32.le_iff_toInt_le.mp c_2
        refine lv_iconst (v := (-1)) hx hb (oc_2 55 (aq_7 shX9_firstThat_48)) kic_m1 ?_
        exact W.iret (v := (-1)) hx hb hr (fun t ht hW => ⟨⟨(-1), (cn, In, Fw), rfl, ⟨(Fr.mo hfr2 (sbl rfl) (sbl rfl) (sbl rfl)), hI2, trivial⟩, by rw [ht]; exact hP, hD⟩, hS.F ht⟩) hS.2.2 (oc_172 56 (aq_8 shX9_firstThat_48))
      ·
        have tc_2 : ((nI i2).toInt : Int) < (nI n0).toInt := Int32.lt_iff_toInt_lt.mp (Int32.not_le.mp c_2)
        refine lv_aload_n hx hb (oc_42 10 (aq_10 shX9_firstThat_0)) rfl (lvA1 hl) ?_
        refine gf_RX9_24 S hK hP _ (xf_7 hk) (v := .ref (ad 62 k0)) rfl (oc_180 11 (aq_11 shX9_firstThat_0) uw_0_24) ?_
        refine lv_iload_n hx hb (oc_29 14 (aq_14 shX9_firstThat_0)) rfl (lvA0 hl) ?_
        refine vp_callSi (runS_r (As := [.ref (ad 62 k0), .int (nI i2)]) (rest := []) S (q_l_at l D cI cB cZ (ad 62 k0) 12 (gA (Fw 303) 12 k0) (nI i2) (by (first | omega | (have zz0 := Hid.u hb_cn; omega)))) kS_RX9_37 hK hP _ (one_is (xf_10 hk)) ⟨Nat.le_of_ble_eq_true rfl, Nat.le_of_ble_eq_true rfl⟩ ⟨Nat.le_of_ble_eq_true rfl, Nat.le_of_ble_eq_true rfl⟩ rfl hl.1 rfl (Nat.le_of_ble_eq_true rfl) (oc_184 15 (aq_15 shX9_firstThat_0) uw_0_37)) (fun r_3 h_4 => ?_)
        subst h_4
        refine lv_istore (lv' := [(4, .int (atM (gA (Fw 303) 12 k0) 12 (nI i2))), (3, .int (nI i2)), (0, .ref (ad 5 k0)), (1, .int v0), (2, .ref (g 7))]) hx hb (oc_54 18 (aq_18 shX9_firstThat_0) ub_4) hl (ltb rfl) rfl (fun ls hl => ?_)
        refine lv_aload_n hx hb (oc_42 20 (aq_20 shX9_firstThat_0)) rfl (lvA2 hl) ?_
        refine lv_iload hx hb (oc_21 21 (aq_21 shX9_firstThat_0) ub_4) (lvA0 hl) ?_
        refine lv_aload_n hx hb (oc_42 23 (aq_23 shX9_firstThat_0)) rfl (lvA2 hl) ?_
        refine gf_RX9_27 S hK hP _ (xf_7 hk) (v := .ref (ad 63 k0)) rfl (oc_180 24 shX9_firstThat_24 uw_0_27) ?_
        refine lv_iload_n hx hb (oc_29 27 (aq_3 shX9_firstThat_24)) rfl (lvA1 hl) ?_
        refine vp_callSi (runS_r (As := [.ref (ad 63 k0), .int (nI i2)]) (rest := [.int (atM (gA (Fw 303) 12 k0) 12 (nI i2)), .ref (ad 5 k0)]) S (q_l_at l D cI cB cZ (ad 63 k0) 12 (gA (Fw 304) 12 k0) (nI i2) (by (first | omega | (have zz0 := Hid.u hb_cn; omega)))) kS_RX9_37 hK hP _ (one_is (xf_11 hk)) ⟨Nat.le_of_ble_eq_true rfl, Nat.le_of_ble_eq_true rfl⟩ ⟨Nat.le_of_ble_eq_true rfl, Nat.le_of_ble_eq_true rfl⟩ rfl hl.1 rfl (Nat.le_of_ble_eq_true rfl) (oc_184 28 (aq_4 shX9_firstThat_24) uw_0_37)) (fun r_5 h_6 => ?_)
        subst h_6
        refine lv_aload_n hx hb (oc_44 31 (aq_7 shX9_firstThat_24)) rfl (lvA4 hl) ?_
        have hFc := free_all hD hS hA
        refine va_calli (runV_xa (As := [.int (atM (gA (Fw 303) 12 k0) 12 (nI i2)), .int (atM (gA (Fw 304) 12 k0) 12 (nI i2)), .ref (g 7)]) (rest := []) S (q_Xrun l D cI cB cZ zz qq vv bt g ad cn In Fw k0 (atM (gA (Fw 303) 12 k0) 12 (nI i2)) (atM (gA (Fw 304) 12 k0) 12 (nI i2)) H.size hI2 (by (first | omega | (have zz0 := Hid.u hb_cn; omega)))) kV_RX9_51 hK hXS hS hFc hP hD _ (xf_7 hk) rfl rfl ⟨Nat.le_of_ble_eq_true rfl, Nat.le_of_ble_eq_true rfl⟩ ⟨Nat.le_of_ble_eq_true rfl, Nat.le_of_ble_eq_true rfl⟩ rfl hl.1 rfl (Nat.le_of_ble_eq_true rfl) (oc_182 32 (aq_8 shX9_firstThat_24) uw_0_51)) hS (fun q _ h => hFc q h) hFc (fun r_7 u t H1 locs ht hvm wh_8 hB1 hz1 hk1 hS => ?_)
        obtain ⟨cn8, In8, Fn8⟩ := u
        obtain ⟨hP1, hD1⟩ := hB1
        rw [ht] at hP1
        have hP : va_P D vwCl (wX cI (D.1 99) zz g ad cn8 In8 Fn8) H1 := hP1
        have hD : va_D A (wX cI (D.1 99) zz g ad cn8 In8 Fn8) := hD1.weaken (fun _ _ _ h => hFc _ h)
        generalize H1 = H at hP hS ⊢
        have vh_8 : (fun r c2 I2 F2 => Fr [] [] [196, 197, 305] cn In Fw c2 I2 F2 ∧ CBX c2 ∧ (True)) r_7 cn8 In8 Fn8 := wh_8
        obtain ⟨hfc8, hIn8, h_8⟩ := vh_8
        obtain rfl : cn = cn8 := (funext (fun k => hfc8.1 k List.not_mem_nil)).symm
        obtain rfl : In = In8 := (funext (fun k => hfc8.2.1 k List.not_mem_nil)).symm
        have hf8 : Fr [] [] [196, 197, 305] cn In Fn cn In Fn8 := Fr.mo (Fr.tr hfr2 hfc8) (sbl rfl) (sbl rfl) (sbl rfl)
        replace hIn8 : CBXh cn := hIn8
        refine lv_if_eq (tgt := 42) hx hb (oc_153 35 (aq_11 shX9_firstThat_24) sgw_0_7) rfl (fun c_9 => ?_) (fun c_9 => ?_)
        ·
          have tc_9 : (r_7.toInt : Int) = 0 := congrArg Int32.toInt c_9
          refine lv_iconst (v := 0) hx hb (oc_3 42 (aq_18 shX9_firstThat_24)) kic_0 ?_
          refine lv_iload_n hx hb (oc_27 43 (aq_19 shX9_firstThat_24)) rfl (lvA3 hl) ?_
          refine lv_icmp_ne (tgt := 49) hx hb (oc_160 44 (aq_20 shX9_firstThat_24) sgw_0_5) rfl (fun c_10 => ?_) (fun c_10 => ?_)
          ·
            have tc_10 : (0 : Int) ≠ v0.toInt := fun q => c_10 (Int32.toInt_inj.mp q)
            refine lv_iinc (v := (nI (i2 + 1))) (lv' := [(3, .int (nI (i2 + 1))), (4, .int (atM (gA (Fw 303) 12 k0) 12 (nI i2))), (0, .ref (ad 5 k0)), (1, .int v0), (2, .ref (g 7))]) hx hb (oc_132 49 (aq_1 shX9_firstThat_48) ub_3 sgb_1) hl (k := 1) rfl (nI_1 _) (ltb rfl) rfl (fun ls hl => ?_)
            refine lv_goto (tgt := 2) hx hb (oc_167 52 (aq_4 shX9_firstThat_48) sgw_255_206) rfl ?_
            exact ih2 (i2 + 1) Fn8 _ _ (by (first | omega | (have zz0 := Hid.u hb_cn; omega))) ⟨(by (first | omega | (have zz0 := Hid.u hb_cn; omega))), (Fr.mo hf8 (sbl rfl) (sbl rfl) (sbl rfl)), hIn8⟩ hP hD hS ls (lv_sub hl [0, 2, 3, 4] rfl)
          ·
            have tc_10 : (0 : Int) = v0.toInt := congrArg Int32.toInt c_10
            refine lv_iload_n hx hb (oc_29 47 (aq_23 shX9_firstThat_24)) rfl (lvA1 hl) ?_
            exact W.iret (v := (nI i2)) hx hb hr (fun t ht hW => ⟨⟨(nI i2), (cn, In, Fn8), rfl, ⟨(Fr.mo hf8 (sbl rfl) (sbl rfl) (sbl rfl)), hIn8, trivial⟩, by rw [ht]; exact hP, hD⟩, hS.F ht⟩) hS.2.2 (oc_172 48 shX9_firstThat_48)
        ·
          have tc_9 : (r_7.toInt : Int) ≠ 0 := fun q => c_9 (Int32.toInt_inj.mp q)
          refine lv_iconst (v := 1) hx hb (oc_4 38 (aq_14 shX9_firstThat_24)) kic_1 ?_
          refine lv_goto (tgt := 43) hx hb (oc_167 39 (aq_15 shX9_firstThat_24) sgw_0_4) rfl ?_
          refine lv_iload_n hx hb (oc_27 43 (aq_19 shX9_firstThat_24)) rfl (lvA3 hl) ?_
          refine lv_icmp_ne (tgt := 49) hx hb (oc_160 44 (aq_20 shX9_firstThat_24) sgw_0_5) rfl (fun c_11 => ?_) (fun c_11 => ?_)
          ·
            have tc_11 : (1 : Int) ≠ v0.toInt := fun q => c_11 (Int32.toInt_inj.mp q)
            refine lv_iinc (v := (nI (i2 + 1))) (lv' := [(3, .int (nI (i2 + 1))), (4, .int (atM (gA (Fw 303) 12 k0) 12 (nI i2))), (0, .ref (ad 5 k0)), (1, .int v0), (2, .ref (g 7))]) hx hb (oc_132 49 (aq_1 shX9_firstThat_48) ub_3 sgb_1) hl (k := 1) rfl (nI_1 _) (ltb rfl) rfl (fun ls hl => ?_)
            refine lv_goto (tgt := 2) hx hb (oc_167 52 (aq_4 shX9_firstThat_48) sgw_255_206) rfl ?_
            exact ih2 (i2 + 1) Fn8 _ _ (by (first | omega | (have zz0 := Hid.u hb_cn; omega))) ⟨(by (first | omega | (have zz0 := Hid.u hb_cn; omega))), (Fr.mo hf8 (sbl rfl) (sbl rfl) (sbl rfl)), hIn8⟩ hP hD hS ls (lv_sub hl [0, 2, 3, 4] rfl)
          ·
            have tc_11 : (1 : Int) = v0.toInt := congrArg Int32.toInt c_11
            refine lv_iload_n hx hb (oc_29 47 (aq_23 shX9_firstThat_24)) rfl (lvA1 hl) ?_
            exact W.iret (v := (nI i2)) hx hb hr (fun t ht hW => ⟨⟨(nI i2), (cn, In, Fn8), rfl, ⟨(Fr.mo hf8 (sbl rfl) (sbl rfl) (sbl rfl)), hIn8, trivial⟩, by rw [ht]; exact hP, hD⟩, hS.F ht⟩) hS.2.2 (oc_172 48 shX9_firstThat_48)
  exact lp_2 _ 0 Fn _ _ (Nat.lt_succ_self _) ⟨(by (first | omega | (have zz0 := Hid.u hb_cn; omega))), (Fr.mo Fr.rf (sbl rfl) (sbl rfl) (sbl rfl)), hB⟩ hP hD hS ls (lv_sub hl [0, 1, 2, 3] rfl)
set_option maxRecDepth 100000 in
set_option maxHeartbeats 4000000 in
theorem q_Xtsum (l : Launch) (D : va_G) (cI cB cZ : ClassId) (zz qq vv : Nat) (bt : Nat → Int32) (g : Nat → Nat) (ad : Nat → Nat → Nat) (cn : Nat → Nat) (In : Nat → Int32) (Fn : Nat → Nat → Int32) (k0 : Nat) (v0 : Int32) (sz : Nat) (hB : CBX cn) (hk : k0 < cn 6) : Met l yX9_sum (CWS yX9_sum cX9_sum 3 (some .int)) (RM 3 0 0) (PBx [.ref (ad 5 k0), .int v0, .ref (g 7)] D cI cB cZ zz qq vv bt (wX cI (D.1 99) zz g ad cn In Fn) sz) (va_Qi (fun (r : Int32) (u : (Nat → Nat) × (Nat → Int32) × (Nat → Nat → Int32)) => (fun r c2 I2 F2 => Fr [] [] [196, 197, 305] cn In Fn c2 I2 F2 ∧ CBX c2 ∧ (True)) r u.1 u.2.1 u.2.2) (fun (u : (Nat → Nat) × (Nat → Int32) × (Nat → Nat → Int32)) (t : State) => va_P D vwCl (wX cI (D.1 99) zz g ad u.1 u.2.1 u.2.2) t.heap ∧ va_D (va_A (wX cI (D.1 99) zz g ad cn In Fn) sz) (wX cI (D.1 99) zz g ad u.1 u.2.1 u.2.2)) (va_A (wX cI (D.1 99) zz g ad cn In Fn) sz)) 0 0 (va_A (wX cI (D.1 99) zz g ad cn In Fn) sz) := by
  refine en_x (fun A => (va_Qi (fun (r : Int32) (u : (Nat → Nat) × (Nat → Int32) × (Nat → Nat → Int32)) => (fun (r : Int32) (c2 : Nat → Nat) (I2 : Nat → Int32) (F2 : Nat → Nat → Int32) => Fr [] [] [196, 197, 305] cn In Fn c2 I2 F2 ∧ CBX c2 ∧ (True)) r u.1 u.2.1 u.2.2) (fun (u : (Nat → Nat) × (Nat → Int32) × (Nat → Nat → Int32)) (t : State) => va_P D vwCl (wX cI (D.1 99) zz g ad u.1 u.2.1 u.2.2) t.heap ∧ va_D A (wX cI (D.1 99) zz g ad u.1 u.2.1 u.2.2)) A)) rfl rfl pn_RX9 (Nat.le_of_ble_eq_true rfl) (fun p e s m below meth c A hx hb hml hown S hr hlocks hnm hA hP hK hD hXS hS ls hl => ?_)
  have hl : lv_has ls 3 [(0, .ref (ad 5 k0)), (1, .int v0), (2, .ref (g 7))] := hl
  have hb_cn : Hid (CBX cn) := hB
  replace hB : CBXh cn := hB
  refine lv_aload_n hx hb (oc_42 0 shX9_sum_0) rfl (lvA0 hl) ?_
  refine lv_aload_n hx hb (oc_42 1 (aq_1 shX9_sum_0)) rfl (lvA0 hl) ?_
  refine gf_RX9_21 S hK hP _ (xf_7 hk) (v := .ref (ad 61 k0)) rfl (oc_180 2 (aq_2 shX9_sum_0) uw_0_21) ?_
  refine lv_iload_n hx hb (oc_27 5 (aq_5 shX9_sum_0)) rfl (lvA1 hl) ?_
  refine vp_callSi (runS_r (As := [.ref (ad 61 k0), .int v0]) (rest := [.ref (ad 5 k0)]) S (q_l_at l D cI cB cZ (ad 61 k0) 12 (gA (Fn 302) 12 k0) v0 (by (first | omega | (have zz0 := Hid.u hb_cn; omega)))) kS_RX9_37 hK hP _ (one_is (xf_9 hk)) ⟨Nat.le_of_ble_eq_true rfl, Nat.le_of_ble_eq_true rfl⟩ ⟨Nat.le_of_ble_eq_true rfl, Nat.le_of_ble_eq_true rfl⟩ rfl hl.1 rfl (Nat.le_of_ble_eq_true rfl) (oc_184 6 (aq_6 shX9_sum_0) uw_0_37)) (fun r_1 h_2 => ?_)
  subst h_2
  refine lv_aload_n hx hb (oc_42 9 (aq_9 shX9_sum_0)) rfl (lvA0 hl) ?_
  refine gf_RX9_24 S hK hP _ (xf_7 hk) (v := .ref (ad 62 k0)) rfl (oc_180 10 (aq_10 shX9_sum_0) uw_0_24) ?_
  refine lv_iload_n hx hb (oc_27 13 (aq_13 shX9_sum_0)) rfl (lvA1 hl) ?_
  refine vp_callSi (runS_r (As := [.ref (ad 62 k0), .int v0]) (rest := [.int (atM (gA (Fn 302) 12 k0) 12 v0), .ref (ad 5 k0)]) S (q_l_at l D cI cB cZ (ad 62 k0) 12 (gA (Fn 303) 12 k0) v0 (by (first | omega | (have zz0 := Hid.u hb_cn; omega)))) kS_RX9_37 hK hP _ (one_is (xf_10 hk)) ⟨Nat.le_of_ble_eq_true rfl, Nat.le_of_ble_eq_true rfl⟩ ⟨Nat.le_of_ble_eq_true rfl, Nat.le_of_ble_eq_true rfl⟩ rfl hl.1 rfl (Nat.le_of_ble_eq_true rfl) (oc_184 14 (aq_14 shX9_sum_0) uw_0_37)) (fun r_3 h_4 => ?_)
  subst h_4
  refine lv_aload_n hx hb (oc_44 17 (aq_17 shX9_sum_0)) rfl (lvA2 hl) ?_
  have hFc := free_all hD hS hA
  refine va_calli (runV_xa (As := [.int (atM (gA (Fn 302) 12 k0) 12 v0), .int (atM (gA (Fn 303) 12 k0) 12 v0), .ref (g 7)]) (rest := []) S (q_Xrun l D cI cB cZ zz qq vv bt g ad cn In Fn k0 (atM (gA (Fn 302) 12 k0) 12 v0) (atM (gA (Fn 303) 12 k0) 12 v0) s.heap.size hB (by (first | omega | (have zz0 := Hid.u hb_cn; omega)))) kV_RX9_51 hK hXS hS hFc hP hD _ (xf_7 hk) rfl rfl ⟨Nat.le_of_ble_eq_true rfl, Nat.le_of_ble_eq_true rfl⟩ ⟨Nat.le_of_ble_eq_true rfl, Nat.le_of_ble_eq_true rfl⟩ rfl hl.1 rfl (Nat.le_of_ble_eq_true rfl) (oc_182 18 (aq_18 shX9_sum_0) uw_0_51)) hS (fun q _ h => hFc q h) hFc (fun r_5 u t H1 locs ht hvm wh_6 hB1 hz1 hk1 hS => ?_)
  obtain ⟨cn6, In6, Fn6⟩ := u
  obtain ⟨hP1, hD1⟩ := hB1
  rw [ht] at hP1
  have hP : va_P D vwCl (wX cI (D.1 99) zz g ad cn6 In6 Fn6) H1 := hP1
  have hD : va_D A (wX cI (D.1 99) zz g ad cn6 In6 Fn6) := hD1.weaken (fun _ _ _ h => hFc _ h)
  generalize H1 = H at hP hS ⊢
  have vh_6 : (fun r c2 I2 F2 => Fr [] [] [196, 197, 305] cn In Fn c2 I2 F2 ∧ CBX c2 ∧ (True)) r_5 cn6 In6 Fn6 := wh_6
  obtain ⟨hfc6, hIn6, h_6⟩ := vh_6
  obtain rfl : cn = cn6 := (funext (fun k => hfc6.1 k List.not_mem_nil)).symm
  obtain rfl : In = In6 := (funext (fun k => hfc6.2.1 k List.not_mem_nil)).symm
  have hf6 : Fr [] [] [196, 197, 305] cn In Fn cn In Fn6 := Fr.mo (Fr.tr (Fr.rf (cn := cn) (In := In) (Fn := Fn)) hfc6) (sbl rfl) (sbl rfl) (sbl rfl)
  replace hIn6 : CBXh cn := hIn6
  exact W.iret (v := r_5) hx hb hr (fun t ht hW => ⟨⟨r_5, (cn, In, Fn6), rfl, ⟨(Fr.mo hf6 (sbl rfl) (sbl rfl) (sbl rfl)), hIn6, trivial⟩, by rw [ht]; exact hP, hD⟩, hS.F ht⟩) hS.2.2 (oc_172 21 (aq_21 shX9_sum_0))
set_option maxRecDepth 100000 in
set_option maxHeartbeats 4000000 in
theorem q_Xletter (l : Launch) (D : va_G) (cI cB cZ : ClassId) (zz qq vv : Nat) (bt : Nat → Int32) (g : Nat → Nat) (ad : Nat → Nat → Nat) (cn : Nat → Nat) (In : Nat → Int32) (Fn : Nat → Nat → Int32) (v0 v1 : Int32) (sz : Nat) (hB : CBX cn) : Met l yX11_letter (CWS yX11_letter cX11_letter 3 none) (RM 4 0 0) (PBx [.ref (g 0), .int v0, .int v1] D cI cB cZ zz qq vv bt (wX cI (D.1 99) zz g ad cn In Fn) sz) (va_Qv (fun (u : (Nat → Nat) × (Nat → Int32) × (Nat → Nat → Int32)) => (fun c2 I2 F2 => Fr [] [] [7] cn In Fn c2 I2 F2 ∧ CBX c2 ∧ (True)) u.1 u.2.1 u.2.2) (fun (u : (Nat → Nat) × (Nat → Int32) × (Nat → Nat → Int32)) (t : State) => va_P D vwCl (wX cI (D.1 99) zz g ad u.1 u.2.1 u.2.2) t.heap ∧ va_D (va_A (wX cI (D.1 99) zz g ad cn In Fn) sz) (wX cI (D.1 99) zz g ad u.1 u.2.1 u.2.2)) (va_A (wX cI (D.1 99) zz g ad cn In Fn) sz)) 0 0 (va_A (wX cI (D.1 99) zz g ad cn In Fn) sz) := by
  refine en_x (fun A => (va_Qv (fun (u : (Nat → Nat) × (Nat → Int32) × (Nat → Nat → Int32)) => (fun (c2 : Nat → Nat) (I2 : Nat → Int32) (F2 : Nat → Nat → Int32) => Fr [] [] [7] cn In Fn c2 I2 F2 ∧ CBX c2 ∧ (True)) u.1 u.2.1 u.2.2) (fun (u : (Nat → Nat) × (Nat → Int32) × (Nat → Nat → Int32)) (t : State) => va_P D vwCl (wX cI (D.1 99) zz g ad u.1 u.2.1 u.2.2) t.heap ∧ va_D A (wX cI (D.1 99) zz g ad u.1 u.2.1 u.2.2)) A)) rfl rfl pn_RX11 (Nat.le_of_ble_eq_true rfl) (fun p e s m below meth c A hx hb hml hown S hr hlocks hnm hA hP hK hD hXS hS ls hl => ?_)
  have hl : lv_has ls 3 [(0, .ref (g 0)), (1, .int v0), (2, .int v1)] := hl
  have hb_cn : Hid (CBX cn) := hB
  replace hB : CBXh cn := hB
  refine lv_aload_n hx hb (oc_42 0 shX11_letter_0) rfl (lvA0 hl) ?_
  refine gf_RX11_40 S hK hP 0 xo_0 (v := .ref (g 7)) rfl (oc_180 1 (aq_1 shX11_letter_0) uw_0_40) ?_
  refine va_ldcS hx hb hown hXS.2.2.2.2.2.2.2.1.1 (oc_18 4 (aq_4 shX11_letter_0) ub_32) ?_
  refine lv_iload_n hx hb (oc_27 6 (aq_6 shX11_letter_0)) rfl (lvA1 hl) ?_
  refine vp_callSi (runV_rx (As := [.int v0]) (rest := [.ref (g 7)]) S (q_s_strIndex l D cI cB cZ zz qq vv bt v0) kV_RX11_181 hK hXS hS hP [] rfl (va_Orecv hXS.2.2.2.1 hS) ⟨Nat.le_of_ble_eq_true rfl, Nat.le_of_ble_eq_true rfl⟩ ⟨Nat.le_of_ble_eq_true rfl, Nat.le_of_ble_eq_true rfl⟩ rfl hl.1 rfl (Nat.le_of_ble_eq_true rfl) (oc_182 7 (aq_7 shX11_letter_0) uw_0_181)) (fun r_1 h_2 => ?_)
  refine lv_iload_n hx hb (oc_28 10 (aq_10 shX11_letter_0)) rfl (lvA2 hl) ?_
  have hFc := va_free (wc := [((g 7), .inl (cI, 11, .inl (Fn 7)))]) hD hS hA [5] (one_im xo_5)
  refine va_callv (runS_w (As := [.ref (g 7), .int r_1, .int v1]) (rest := []) S (q_l_put l D cI cB cZ (g 7) 11 (Fn 7) r_1 v1 s.heap.size (by (first | omega | (have zz0 := Hid.u hb_cn; omega)))) kS_RX11_184 hK hP hD [5] (one_is xo_5) (one_im xo_5) rfl ⟨Nat.le_of_ble_eq_true rfl, Nat.le_of_ble_eq_true rfl⟩ ⟨Nat.le_of_ble_eq_true rfl, Nat.le_of_ble_eq_true rfl⟩ rfl hl.1 rfl (Nat.le_of_ble_eq_true rfl) (oc_184 11 (aq_11 shX11_letter_0) uw_0_184)) hS (fun q _ h => hFc q h) hFc (fun u_5 t H1 locs ht hvm h_4 hB1 hz1 hk1 hS => ?_)
  obtain ⟨hP1, hD1⟩ := hB1
  rw [ht] at hP1
  obtain ⟨hP, hD⟩ := wset1 hP hD xo_5 hk1 hP1
  obtain rfl : u_5 = (putM (Fn 7) 11 r_1 v1) := h_4
  generalize H1 = H at hP hS ⊢
  have hP : va_P D vwCl (wX cI (D.1 99) zz g ad cn In (va_up Fn 7 (putM (Fn 7) 11 r_1 v1))) H := va_P_eq xsa_5 hP
  have hD : va_D A (wX cI (D.1 99) zz g ad cn In (va_up Fn 7 (putM (Fn 7) 11 r_1 v1))) := va_D_eq xsa_5 hD
  exact W.vret hx hb hr (fun t ht hW => ⟨⟨(cn, In, (va_up Fn 7 (putM (Fn 7) 11 r_1 v1))), rfl, ⟨(Fr.mo (Fr.f 7 Fr.rf) (sbl rfl) (sbl rfl) (sbl rfl)), hB, trivial⟩, by rw [ht]; exact hP, hD⟩, hS.F ht⟩) hS.2.2 (oc_177 14 (aq_14 shX11_letter_0))
set_option maxRecDepth 100000 in
set_option maxHeartbeats 4000000 in
theorem q_XlettersOfDay (l : Launch) (D : va_G) (cI cB cZ : ClassId) (zz qq vv : Nat) (bt : Nat → Int32) (g : Nat → Nat) (ad : Nat → Nat → Nat) (cn : Nat → Nat) (In : Nat → Int32) (Fn : Nat → Nat → Int32) (v0 : Int32) (sz : Nat) (hB : CBX cn) : Met l yX11_lettersOfDay (CWS yX11_lettersOfDay cX11_lettersOfDay 2 none) (RM 5 0 0) (PBx [.ref (g 0), .int v0] D cI cB cZ zz qq vv bt (wX cI (D.1 99) zz g ad cn In Fn) sz) (va_Qv (fun (u : (Nat → Nat) × (Nat → Int32) × (Nat → Nat → Int32)) => (fun c2 I2 F2 => Fr [] [] [7] cn In Fn c2 I2 F2 ∧ CBX c2 ∧ (True)) u.1 u.2.1 u.2.2) (fun (u : (Nat → Nat) × (Nat → Int32) × (Nat → Nat → Int32)) (t : State) => va_P D vwCl (wX cI (D.1 99) zz g ad u.1 u.2.1 u.2.2) t.heap ∧ va_D (va_A (wX cI (D.1 99) zz g ad cn In Fn) sz) (wX cI (D.1 99) zz g ad u.1 u.2.1 u.2.2)) (va_A (wX cI (D.1 99) zz g ad cn In Fn) sz)) 0 0 (va_A (wX cI (D.1 99) zz g ad cn In Fn) sz) := by
  refine en_x (fun A => (va_Qv (fun (u : (Nat → Nat) × (Nat → Int32) × (Nat → Nat → Int32)) => (fun (c2 : Nat → Nat) (I2 : Nat → Int32) (F2 : Nat → Nat → Int32) => Fr [] [] [7] cn In Fn c2 I2 F2 ∧ CBX c2 ∧ (True)) u.1 u.2.1 u.2.2) (fun (u : (Nat → Nat) × (Nat → Int32) × (Nat → Nat → Int32)) (t : State) => va_P D vwCl (wX cI (D.1 99) zz g ad u.1 u.2.1 u.2.2) t.heap ∧ va_D A (wX cI (D.1 99) zz g ad u.1 u.2.1 u.2.2)) A)) rfl rfl pn_RX11 (Nat.le_of_ble_eq_true rfl) (fun p e s m below meth c A hx hb hml hown S hr hlocks hnm hA hP hK hD hXS hS ls hl => ?_)
  have hl : lv_has ls 2 [(0, .ref (g 0)), (1, .int v0)] := hl
  have hb_cn : Hid (CBX cn) := hB
  replace hB : CBXh cn := hB
  refine lv_aload_n hx hb (oc_42 0 shX11_lettersOfDay_0) rfl (lvA0 hl) ?_
  refine lv_bipush (v := 100) hx hb (oc_16 1 (aq_1 shX11_lettersOfDay_0) sgb_100) kbc_100 ?_
  refine lv_iload_n hx hb (oc_27 3 (aq_3 shX11_lettersOfDay_0)) rfl (lvA1 hl) ?_
  have hFc := free_all hD hS hA
  refine va_callv (runV_xa (As := [.int 100, .int v0]) (rest := []) S (q_Xletter l D cI cB cZ zz qq vv bt g ad cn In Fn 100 v0 s.heap.size hB) kV_RX11_188 hK hXS hS hFc hP hD 0 xo_0 rfl rfl ⟨Nat.le_of_ble_eq_true rfl, Nat.le_of_ble_eq_true rfl⟩ ⟨Nat.le_of_ble_eq_true rfl, Nat.le_of_ble_eq_true rfl⟩ rfl hl.1 rfl (Nat.le_of_ble_eq_true rfl) (oc_182 4 (aq_4 shX11_lettersOfDay_0) uw_0_188)) hS (fun q _ h => hFc q h) hFc (fun u t H1 locs ht hvm wh_2 hB1 hz1 hk1 hS => ?_)
  obtain ⟨cn2, In2, Fn2⟩ := u
  obtain ⟨hP1, hD1⟩ := hB1
  rw [ht] at hP1
  have hP : va_P D vwCl (wX cI (D.1 99) zz g ad cn2 In2 Fn2) H1 := hP1
  have hD : va_D A (wX cI (D.1 99) zz g ad cn2 In2 Fn2) := hD1.weaken (fun _ _ _ h => hFc _ h)
  generalize H1 = H at hP hS ⊢
  have vh_2 : (fun c2 I2 F2 => Fr [] [] [7] cn In Fn c2 I2 F2 ∧ CBX c2 ∧ (True)) cn2 In2 Fn2 := wh_2
  obtain ⟨hfc2, hIn2, h_2⟩ := vh_2
  obtain rfl : cn = cn2 := (funext (fun k => hfc2.1 k List.not_mem_nil)).symm
  obtain rfl : In = In2 := (funext (fun k => hfc2.2.1 k List.not_mem_nil)).symm
  have hf2 : Fr [] [] [7] cn In Fn cn In Fn2 := Fr.mo (Fr.tr (Fr.rf (cn := cn) (In := In) (Fn := Fn)) hfc2) (sbl rfl) (sbl rfl) (sbl rfl)
  replace hIn2 : CBXh cn := hIn2
  refine lv_aload_n hx hb (oc_42 7 (aq_7 shX11_lettersOfDay_0)) rfl (lvA0 hl) ?_
  refine lv_bipush (v := 119) hx hb (oc_16 8 (aq_8 shX11_lettersOfDay_0) sgb_119) kbc_119 ?_
  refine lv_iload_n hx hb (oc_27 10 (aq_10 shX11_lettersOfDay_0)) rfl (lvA1 hl) ?_
  refine lv_bipush (v := 7) hx hb (oc_16 11 (aq_11 shX11_lettersOfDay_0) sgb_7) kbc_7 ?_
  refine lv_idiv hx hb (oc_108 13 (aq_13 shX11_lettersOfDay_0)) (by decide) ?_
  have hFc := free_all hD hS hA
  refine va_callv (runV_xa (As := [.int 119, .int (v0 / 7)]) (rest := []) S (q_Xletter l D cI cB cZ zz qq vv bt g ad cn In Fn2 119 (v0 / 7) H.size hIn2) kV_RX11_188 hK hXS hS hFc hP hD 0 xo_0 rfl rfl ⟨Nat.le_of_ble_eq_true rfl, Nat.le_of_ble_eq_true rfl⟩ ⟨Nat.le_of_ble_eq_true rfl, Nat.le_of_ble_eq_true rfl⟩ rfl hl.1 rfl (Nat.le_of_ble_eq_true rfl) (oc_182 14 (aq_14 shX11_lettersOfDay_0) uw_0_188)) hS (fun q _ h => hFc q h) hFc (fun u t H1 locs ht hvm wh_4 hB1 hz1 hk1 hS => ?_)
  obtain ⟨cn4, In4, Fn4⟩ := u
  obtain ⟨hP1, hD1⟩ := hB1
  rw [ht] at hP1
  have hP : va_P D vwCl (wX cI (D.1 99) zz g ad cn4 In4 Fn4) H1 := hP1
  have hD : va_D A (wX cI (D.1 99) zz g ad cn4 In4 Fn4) := hD1.weaken (fun _ _ _ h => hFc _ h)
  generalize H1 = H at hP hS ⊢
  have vh_4 : (fun c2 I2 F2 => Fr [] [] [7] cn In Fn2 c2 I2 F2 ∧ CBX c2 ∧ (True)) cn4 In4 Fn4 := wh_4
  obtain ⟨hfc4, hIn4, h_4⟩ := vh_4
  obtain rfl : cn = cn4 := (funext (fun k => hfc4.1 k List.not_mem_nil)).symm
  obtain rfl : In = In4 := (funext (fun k => hfc4.2.1 k List.not_mem_nil)).symm
  have hf4 : Fr [] [] [7] cn In Fn cn In Fn4 := Fr.mo (Fr.tr hf2 hfc4) (sbl rfl) (sbl rfl) (sbl rfl)
  replace hIn4 : CBXh cn := hIn4
  refine lv_aload_n hx hb (oc_42 17 (aq_17 shX11_lettersOfDay_0)) rfl (lvA0 hl) ?_
  refine lv_bipush (v := 103) hx hb (oc_16 18 (aq_18 shX11_lettersOfDay_0) sgb_103) kbc_103 ?_
  refine lv_iload_n hx hb (oc_27 20 (aq_20 shX11_lettersOfDay_0)) rfl (lvA1 hl) ?_
  refine lv_bipush (v := 7) hx hb (oc_16 21 (aq_21 shX11_lettersOfDay_0) sgb_7) kbc_7 ?_
  refine lv_irem hx hb (oc_112 23 (aq_23 shX11_lettersOfDay_0)) (by decide) ?_
  have hFc := free_all hD hS hA
  refine va_callv (runV_xa (As := [.int 103, .int (v0 - v0 / 7 * 7)]) (rest := []) S (q_Xletter l D cI cB cZ zz qq vv bt g ad cn In Fn4 103 (v0 - v0 / 7 * 7) H.size hIn4) kV_RX11_188 hK hXS hS hFc hP hD 0 xo_0 rfl rfl ⟨Nat.le_of_ble_eq_true rfl, Nat.le_of_ble_eq_true rfl⟩ ⟨Nat.le_of_ble_eq_true rfl, Nat.le_of_ble_eq_true rfl⟩ rfl hl.1 rfl (Nat.le_of_ble_eq_true rfl) (oc_182 24 shX11_lettersOfDay_24 uw_0_188)) hS (fun q _ h => hFc q h) hFc (fun u t H1 locs ht hvm wh_6 hB1 hz1 hk1 hS => ?_)
  obtain ⟨cn6, In6, Fn6⟩ := u
  obtain ⟨hP1, hD1⟩ := hB1
  rw [ht] at hP1
  have hP : va_P D vwCl (wX cI (D.1 99) zz g ad cn6 In6 Fn6) H1 := hP1
  have hD : va_D A (wX cI (D.1 99) zz g ad cn6 In6 Fn6) := hD1.weaken (fun _ _ _ h => hFc _ h)
  generalize H1 = H at hP hS ⊢
  have vh_6 : (fun c2 I2 F2 => Fr [] [] [7] cn In Fn4 c2 I2 F2 ∧ CBX c2 ∧ (True)) cn6 In6 Fn6 := wh_6
  obtain ⟨hfc6, hIn6, h_6⟩ := vh_6
  obtain rfl : cn = cn6 := (funext (fun k => hfc6.1 k List.not_mem_nil)).symm
  obtain rfl : In = In6 := (funext (fun k => hfc6.2.1 k List.not_mem_nil)).symm
  have hf6 : Fr [] [] [7] cn In Fn cn In Fn6 := Fr.mo (Fr.tr hf4 hfc6) (sbl rfl) (sbl rfl) (sbl rfl)
  replace hIn6 : CBXh cn := hIn6
  refine lv_aload_n hx hb (oc_42 27 (aq_3 shX11_lettersOfDay_24)) rfl (lvA0 hl) ?_
  refine lv_bipush (v := 111) hx hb (oc_16 28 (aq_4 shX11_lettersOfDay_24) sgb_111) kbc_111 ?_
  refine lv_aload_n hx hb (oc_42 30 (aq_6 shX11_lettersOfDay_24)) rfl (lvA0 hl) ?_
  refine gf_RX11_47 S hK hP 0 xo_0 (v := .ref (g 8)) rfl (oc_180 31 (aq_7 shX11_lettersOfDay_24) uw_0_47) ?_
  refine gf_RX11_174 S hK hP 6 xo_6 (v := .ref (g 20)) rfl (oc_180 34 (aq_10 shX11_lettersOfDay_24) uw_0_174) ?_
  refine lv_iload_n hx hb (oc_27 37 (aq_13 shX11_lettersOfDay_24)) rfl (lvA1 hl) ?_
  refine lv_bipush (v := 7) hx hb (oc_16 38 (aq_14 shX11_lettersOfDay_24) sgb_7) kbc_7 ?_
  refine lv_idiv hx hb (oc_108 40 (aq_16 shX11_lettersOfDay_24)) (by decide) ?_
  refine vp_callSi (runS_r (As := [.ref (g 20), .int (v0 / 7)]) (rest := [.int 111, .ref (g 0)]) S (q_l_at l D cI cB cZ (g 20) 58 (Fn6 20) (v0 / 7) (by (first | omega | (have zz0 := Hid.u hb_cn; omega)))) kS_RX11_192 hK hP [7] (one_is xo_7) ⟨Nat.le_of_ble_eq_true rfl, Nat.le_of_ble_eq_true rfl⟩ ⟨Nat.le_of_ble_eq_true rfl, Nat.le_of_ble_eq_true rfl⟩ rfl hl.1 rfl (Nat.le_of_ble_eq_true rfl) (oc_184 41 (aq_17 shX11_lettersOfDay_24) uw_0_192)) (fun r_7 h_8 => ?_)
  subst h_8
  have hFc := free_all hD hS hA
  refine va_callv (runV_xa (As := [.int 111, .int (atM (Fn6 20) 58 (v0 / 7))]) (rest := []) S (q_Xletter l D cI cB cZ zz qq vv bt g ad cn In Fn6 111 (atM (Fn6 20) 58 (v0 / 7)) H.size hIn6) kV_RX11_188 hK hXS hS hFc hP hD 0 xo_0 rfl rfl ⟨Nat.le_of_ble_eq_true rfl, Nat.le_of_ble_eq_true rfl⟩ ⟨Nat.le_of_ble_eq_true rfl, Nat.le_of_ble_eq_true rfl⟩ rfl hl.1 rfl (Nat.le_of_ble_eq_true rfl) (oc_182 44 (aq_20 shX11_lettersOfDay_24) uw_0_188)) hS (fun q _ h => hFc q h) hFc (fun u t H1 locs ht hvm wh_10 hB1 hz1 hk1 hS => ?_)
  obtain ⟨cn10, In10, Fn10⟩ := u
  obtain ⟨hP1, hD1⟩ := hB1
  rw [ht] at hP1
  have hP : va_P D vwCl (wX cI (D.1 99) zz g ad cn10 In10 Fn10) H1 := hP1
  have hD : va_D A (wX cI (D.1 99) zz g ad cn10 In10 Fn10) := hD1.weaken (fun _ _ _ h => hFc _ h)
  generalize H1 = H at hP hS ⊢
  have vh_10 : (fun c2 I2 F2 => Fr [] [] [7] cn In Fn6 c2 I2 F2 ∧ CBX c2 ∧ (True)) cn10 In10 Fn10 := wh_10
  obtain ⟨hfc10, hIn10, h_10⟩ := vh_10
  obtain rfl : cn = cn10 := (funext (fun k => hfc10.1 k List.not_mem_nil)).symm
  obtain rfl : In = In10 := (funext (fun k => hfc10.2.1 k List.not_mem_nil)).symm
  have hf10 : Fr [] [] [7] cn In Fn cn In Fn10 := Fr.mo (Fr.tr hf6 hfc10) (sbl rfl) (sbl rfl) (sbl rfl)
  replace hIn10 : CBXh cn := hIn10
  exact W.vret hx hb hr (fun t ht hW => ⟨⟨(cn, In, Fn10), rfl, ⟨(Fr.mo hf10 (sbl rfl) (sbl rfl) (sbl rfl)), hIn10, trivial⟩, by rw [ht]; exact hP, hD⟩, hS.F ht⟩) hS.2.2 (oc_177 47 (aq_23 shX11_lettersOfDay_24))
set_option maxRecDepth 100000 in
set_option maxHeartbeats 4000000 in
theorem q_XlettersOfLoad (l : Launch) (D : va_G) (cI cB cZ : ClassId) (zz qq vv : Nat) (bt : Nat → Int32) (g : Nat → Nat) (ad : Nat → Nat → Nat) (cn : Nat → Nat) (In : Nat → Int32) (Fn : Nat → Nat → Int32) (k0 : Nat) (sz : Nat) (hB : CBX cn) (hk : k0 < cn 11) : Met l yX11_lettersOfLoad (CWS yX11_lettersOfLoad cX11_lettersOfLoad 2 none) (RM 6 0 0) (PBx [.ref (g 0), .ref (ad 11 k0)] D cI cB cZ zz qq vv bt (wX cI (D.1 99) zz g ad cn In Fn) sz) (va_Qv (fun (u : (Nat → Nat) × (Nat → Int32) × (Nat → Nat → Int32)) => (fun c2 I2 F2 => Fr [] [] [7] cn In Fn c2 I2 F2 ∧ CBX c2 ∧ (True)) u.1 u.2.1 u.2.2) (fun (u : (Nat → Nat) × (Nat → Int32) × (Nat → Nat → Int32)) (t : State) => va_P D vwCl (wX cI (D.1 99) zz g ad u.1 u.2.1 u.2.2) t.heap ∧ va_D (va_A (wX cI (D.1 99) zz g ad cn In Fn) sz) (wX cI (D.1 99) zz g ad u.1 u.2.1 u.2.2)) (va_A (wX cI (D.1 99) zz g ad cn In Fn) sz)) 0 0 (va_A (wX cI (D.1 99) zz g ad cn In Fn) sz) := by
  refine en_x (fun A => (va_Qv (fun (u : (Nat → Nat) × (Nat → Int32) × (Nat → Nat → Int32)) => (fun (c2 : Nat → Nat) (I2 : Nat → Int32) (F2 : Nat → Nat → Int32) => Fr [] [] [7] cn In Fn c2 I2 F2 ∧ CBX c2 ∧ (True)) u.1 u.2.1 u.2.2) (fun (u : (Nat → Nat) × (Nat → Int32) × (Nat → Nat → Int32)) (t : State) => va_P D vwCl (wX cI (D.1 99) zz g ad u.1 u.2.1 u.2.2) t.heap ∧ va_D A (wX cI (D.1 99) zz g ad u.1 u.2.1 u.2.2)) A)) rfl rfl pn_RX11 (Nat.le_of_ble_eq_true rfl) (fun p e s m below meth c A hx hb hml hown S hr hlocks hnm hA hP hK hD hXS hS ls hl => ?_)
  have hl : lv_has ls 2 [(0, .ref (g 0)), (1, .ref (ad 11 k0))] := hl
  have hb_cn : Hid (CBX cn) := hB
  replace hB : CBXh cn := hB
  refine lv_aload_n hx hb (oc_42 0 shX11_lettersOfLoad_0) rfl (lvA0 hl) ?_
  refine lv_aload_n hx hb (oc_43 1 (aq_1 shX11_lettersOfLoad_0)) rfl (lvA1 hl) ?_
  refine gf_RX11_196 S hK hP _ (xf_1 hk) (v := .int ((Fn 121) k0)) rfl (oc_180 2 (aq_2 shX11_lettersOfLoad_0) uw_0_196) ?_
  have hFc := free_all hD hS hA
  refine va_callv (runV_xa (As := [.int ((Fn 121) k0)]) (rest := []) S (q_XlettersOfDay l D cI cB cZ zz qq vv bt g ad cn In Fn ((Fn 121) k0) s.heap.size hB) kV_RX11_199 hK hXS hS hFc hP hD 0 xo_0 rfl rfl ⟨Nat.le_of_ble_eq_true rfl, Nat.le_of_ble_eq_true rfl⟩ ⟨Nat.le_of_ble_eq_true rfl, Nat.le_of_ble_eq_true rfl⟩ rfl hl.1 rfl (Nat.le_of_ble_eq_true rfl) (oc_182 5 (aq_5 shX11_lettersOfLoad_0) uw_0_199)) hS (fun q _ h => hFc q h) hFc (fun u t H1 locs ht hvm wh_2 hB1 hz1 hk1 hS => ?_)
  obtain ⟨cn2, In2, Fn2⟩ := u
  obtain ⟨hP1, hD1⟩ := hB1
  rw [ht] at hP1
  have hP : va_P D vwCl (wX cI (D.1 99) zz g ad cn2 In2 Fn2) H1 := hP1
  have hD : va_D A (wX cI (D.1 99) zz g ad cn2 In2 Fn2) := hD1.weaken (fun _ _ _ h => hFc _ h)
  generalize H1 = H at hP hS ⊢
  have vh_2 : (fun c2 I2 F2 => Fr [] [] [7] cn In Fn c2 I2 F2 ∧ CBX c2 ∧ (True)) cn2 In2 Fn2 := wh_2
  obtain ⟨hfc2, hIn2, h_2⟩ := vh_2
  obtain rfl : cn = cn2 := (funext (fun k => hfc2.1 k List.not_mem_nil)).symm
  obtain rfl : In = In2 := (funext (fun k => hfc2.2.1 k List.not_mem_nil)).symm
  have hf2 : Fr [] [] [7] cn In Fn cn In Fn2 := Fr.mo (Fr.tr (Fr.rf (cn := cn) (In := In) (Fn := Fn)) hfc2) (sbl rfl) (sbl rfl) (sbl rfl)
  replace hIn2 : CBXh cn := hIn2
  refine lv_aload_n hx hb (oc_42 8 (aq_8 shX11_lettersOfLoad_0)) rfl (lvA0 hl) ?_
  refine lv_bipush (v := 113) hx hb (oc_16 9 (aq_9 shX11_lettersOfLoad_0) sgb_113) kbc_113 ?_
  refine lv_aload_n hx hb (oc_43 11 (aq_11 shX11_lettersOfLoad_0)) rfl (lvA1 hl) ?_
  refine gf_RX11_202 S hK hP _ (xf_1 hk) (v := .int ((Fn2 122) k0)) rfl (oc_180 12 (aq_12 shX11_lettersOfLoad_0) uw_0_202) ?_
  have hFc := free_all hD hS hA
  refine va_callv (runV_xa (As := [.int 113, .int ((Fn2 122) k0)]) (rest := []) S (q_Xletter l D cI cB cZ zz qq vv bt g ad cn In Fn2 113 ((Fn2 122) k0) H.size hIn2) kV_RX11_188 hK hXS hS hFc hP hD 0 xo_0 rfl rfl ⟨Nat.le_of_ble_eq_true rfl, Nat.le_of_ble_eq_true rfl⟩ ⟨Nat.le_of_ble_eq_true rfl, Nat.le_of_ble_eq_true rfl⟩ rfl hl.1 rfl (Nat.le_of_ble_eq_true rfl) (oc_182 15 (aq_15 shX11_lettersOfLoad_0) uw_0_188)) hS (fun q _ h => hFc q h) hFc (fun u t H1 locs ht hvm wh_4 hB1 hz1 hk1 hS => ?_)
  obtain ⟨cn4, In4, Fn4⟩ := u
  obtain ⟨hP1, hD1⟩ := hB1
  rw [ht] at hP1
  have hP : va_P D vwCl (wX cI (D.1 99) zz g ad cn4 In4 Fn4) H1 := hP1
  have hD : va_D A (wX cI (D.1 99) zz g ad cn4 In4 Fn4) := hD1.weaken (fun _ _ _ h => hFc _ h)
  generalize H1 = H at hP hS ⊢
  have vh_4 : (fun c2 I2 F2 => Fr [] [] [7] cn In Fn2 c2 I2 F2 ∧ CBX c2 ∧ (True)) cn4 In4 Fn4 := wh_4
  obtain ⟨hfc4, hIn4, h_4⟩ := vh_4
  obtain rfl : cn = cn4 := (funext (fun k => hfc4.1 k List.not_mem_nil)).symm
  obtain rfl : In = In4 := (funext (fun k => hfc4.2.1 k List.not_mem_nil)).symm
  have hf4 : Fr [] [] [7] cn In Fn cn In Fn4 := Fr.mo (Fr.tr hf2 hfc4) (sbl rfl) (sbl rfl) (sbl rfl)
  replace hIn4 : CBXh cn := hIn4
  refine lv_aload_n hx hb (oc_42 18 (aq_18 shX11_lettersOfLoad_0)) rfl (lvA0 hl) ?_
  refine lv_bipush (v := 102) hx hb (oc_16 19 (aq_19 shX11_lettersOfLoad_0) sgb_102) kbc_102 ?_
  refine lv_aload_n hx hb (oc_43 21 (aq_21 shX11_lettersOfLoad_0)) rfl (lvA1 hl) ?_
  refine gf_RX11_205 S hK hP _ (xf_1 hk) (v := .int ((Fn4 123) k0)) rfl (oc_180 22 (aq_22 shX11_lettersOfLoad_0) uw_0_205) ?_
  have hFc := free_all hD hS hA
  refine va_callv (runV_xa (As := [.int 102, .int ((Fn4 123) k0)]) (rest := []) S (q_Xletter l D cI cB cZ zz qq vv bt g ad cn In Fn4 102 ((Fn4 123) k0) H.size hIn4) kV_RX11_188 hK hXS hS hFc hP hD 0 xo_0 rfl rfl ⟨Nat.le_of_ble_eq_true rfl, Nat.le_of_ble_eq_true rfl⟩ ⟨Nat.le_of_ble_eq_true rfl, Nat.le_of_ble_eq_true rfl⟩ rfl hl.1 rfl (Nat.le_of_ble_eq_true rfl) (oc_182 25 shX11_lettersOfLoad_25 uw_0_188)) hS (fun q _ h => hFc q h) hFc (fun u t H1 locs ht hvm wh_6 hB1 hz1 hk1 hS => ?_)
  obtain ⟨cn6, In6, Fn6⟩ := u
  obtain ⟨hP1, hD1⟩ := hB1
  rw [ht] at hP1
  have hP : va_P D vwCl (wX cI (D.1 99) zz g ad cn6 In6 Fn6) H1 := hP1
  have hD : va_D A (wX cI (D.1 99) zz g ad cn6 In6 Fn6) := hD1.weaken (fun _ _ _ h => hFc _ h)
  generalize H1 = H at hP hS ⊢
  have vh_6 : (fun c2 I2 F2 => Fr [] [] [7] cn In Fn4 c2 I2 F2 ∧ CBX c2 ∧ (True)) cn6 In6 Fn6 := wh_6
  obtain ⟨hfc6, hIn6, h_6⟩ := vh_6
  obtain rfl : cn = cn6 := (funext (fun k => hfc6.1 k List.not_mem_nil)).symm
  obtain rfl : In = In6 := (funext (fun k => hfc6.2.1 k List.not_mem_nil)).symm
  have hf6 : Fr [] [] [7] cn In Fn cn In Fn6 := Fr.mo (Fr.tr hf4 hfc6) (sbl rfl) (sbl rfl) (sbl rfl)
  replace hIn6 : CBXh cn := hIn6
  refine lv_aload_n hx hb (oc_42 28 (aq_3 shX11_lettersOfLoad_25)) rfl (lvA0 hl) ?_
  refine lv_bipush (v := 97) hx hb (oc_16 29 (aq_4 shX11_lettersOfLoad_25) sgb_97) kbc_97 ?_
  refine lv_aload_n hx hb (oc_43 31 (aq_6 shX11_lettersOfLoad_25)) rfl (lvA1 hl) ?_
  refine gf_RX11_208 S hK hP _ (xf_1 hk) (v := .int ((Fn6 124) k0)) rfl (oc_180 32 (aq_7 shX11_lettersOfLoad_25) uw_0_208) ?_
  have hFc := free_all hD hS hA
  refine va_callv (runV_xa (As := [.int 97, .int ((Fn6 124) k0)]) (rest := []) S (q_Xletter l D cI cB cZ zz qq vv bt g ad cn In Fn6 97 ((Fn6 124) k0) H.size hIn6) kV_RX11_188 hK hXS hS hFc hP hD 0 xo_0 rfl rfl ⟨Nat.le_of_ble_eq_true rfl, Nat.le_of_ble_eq_true rfl⟩ ⟨Nat.le_of_ble_eq_true rfl, Nat.le_of_ble_eq_true rfl⟩ rfl hl.1 rfl (Nat.le_of_ble_eq_true rfl) (oc_182 35 (aq_10 shX11_lettersOfLoad_25) uw_0_188)) hS (fun q _ h => hFc q h) hFc (fun u t H1 locs ht hvm wh_8 hB1 hz1 hk1 hS => ?_)
  obtain ⟨cn8, In8, Fn8⟩ := u
  obtain ⟨hP1, hD1⟩ := hB1
  rw [ht] at hP1
  have hP : va_P D vwCl (wX cI (D.1 99) zz g ad cn8 In8 Fn8) H1 := hP1
  have hD : va_D A (wX cI (D.1 99) zz g ad cn8 In8 Fn8) := hD1.weaken (fun _ _ _ h => hFc _ h)
  generalize H1 = H at hP hS ⊢
  have vh_8 : (fun c2 I2 F2 => Fr [] [] [7] cn In Fn6 c2 I2 F2 ∧ CBX c2 ∧ (True)) cn8 In8 Fn8 := wh_8
  obtain ⟨hfc8, hIn8, h_8⟩ := vh_8
  obtain rfl : cn = cn8 := (funext (fun k => hfc8.1 k List.not_mem_nil)).symm
  obtain rfl : In = In8 := (funext (fun k => hfc8.2.1 k List.not_mem_nil)).symm
  have hf8 : Fr [] [] [7] cn In Fn cn In Fn8 := Fr.mo (Fr.tr hf6 hfc8) (sbl rfl) (sbl rfl) (sbl rfl)
  replace hIn8 : CBXh cn := hIn8
  refine lv_aload_n hx hb (oc_42 38 (aq_13 shX11_lettersOfLoad_25)) rfl (lvA0 hl) ?_
  refine lv_bipush (v := 107) hx hb (oc_16 39 (aq_14 shX11_lettersOfLoad_25) sgb_107) kbc_107 ?_
  refine lv_aload_n hx hb (oc_43 41 (aq_16 shX11_lettersOfLoad_25)) rfl (lvA1 hl) ?_
  refine gf_RX11_211 S hK hP _ (xf_1 hk) (v := .int ((Fn8 120) k0)) rfl (oc_180 42 (aq_17 shX11_lettersOfLoad_25) uw_0_211) ?_
  have hFc := free_all hD hS hA
  refine va_callv (runV_xa (As := [.int 107, .int ((Fn8 120) k0)]) (rest := []) S (q_Xletter l D cI cB cZ zz qq vv bt g ad cn In Fn8 107 ((Fn8 120) k0) H.size hIn8) kV_RX11_188 hK hXS hS hFc hP hD 0 xo_0 rfl rfl ⟨Nat.le_of_ble_eq_true rfl, Nat.le_of_ble_eq_true rfl⟩ ⟨Nat.le_of_ble_eq_true rfl, Nat.le_of_ble_eq_true rfl⟩ rfl hl.1 rfl (Nat.le_of_ble_eq_true rfl) (oc_182 45 (aq_20 shX11_lettersOfLoad_25) uw_0_188)) hS (fun q _ h => hFc q h) hFc (fun u t H1 locs ht hvm wh_10 hB1 hz1 hk1 hS => ?_)
  obtain ⟨cn10, In10, Fn10⟩ := u
  obtain ⟨hP1, hD1⟩ := hB1
  rw [ht] at hP1
  have hP : va_P D vwCl (wX cI (D.1 99) zz g ad cn10 In10 Fn10) H1 := hP1
  have hD : va_D A (wX cI (D.1 99) zz g ad cn10 In10 Fn10) := hD1.weaken (fun _ _ _ h => hFc _ h)
  generalize H1 = H at hP hS ⊢
  have vh_10 : (fun c2 I2 F2 => Fr [] [] [7] cn In Fn8 c2 I2 F2 ∧ CBX c2 ∧ (True)) cn10 In10 Fn10 := wh_10
  obtain ⟨hfc10, hIn10, h_10⟩ := vh_10
  obtain rfl : cn = cn10 := (funext (fun k => hfc10.1 k List.not_mem_nil)).symm
  obtain rfl : In = In10 := (funext (fun k => hfc10.2.1 k List.not_mem_nil)).symm
  have hf10 : Fr [] [] [7] cn In Fn cn In Fn10 := Fr.mo (Fr.tr hf8 hfc10) (sbl rfl) (sbl rfl) (sbl rfl)
  replace hIn10 : CBXh cn := hIn10
  refine lv_aload_n hx hb (oc_42 48 (aq_23 shX11_lettersOfLoad_25)) rfl (lvA0 hl) ?_
  refine lv_bipush (v := 109) hx hb (oc_16 49 shX11_lettersOfLoad_49 sgb_109) kbc_109 ?_
  refine lv_aload_n hx hb (oc_43 51 (aq_2 shX11_lettersOfLoad_49)) rfl (lvA1 hl) ?_
  refine gf_RX11_141 S hK hP _ (xf_1 hk) (v := .int ((Fn10 128) k0)) rfl (oc_180 52 (aq_3 shX11_lettersOfLoad_49) uw_0_141) ?_
  have hFc := free_all hD hS hA
  refine va_callv (runV_xa (As := [.int 109, .int ((Fn10 128) k0)]) (rest := []) S (q_Xletter l D cI cB cZ zz qq vv bt g ad cn In Fn10 109 ((Fn10 128) k0) H.size hIn10) kV_RX11_188 hK hXS hS hFc hP hD 0 xo_0 rfl rfl ⟨Nat.le_of_ble_eq_true rfl, Nat.le_of_ble_eq_true rfl⟩ ⟨Nat.le_of_ble_eq_true rfl, Nat.le_of_ble_eq_true rfl⟩ rfl hl.1 rfl (Nat.le_of_ble_eq_true rfl) (oc_182 55 (aq_6 shX11_lettersOfLoad_49) uw_0_188)) hS (fun q _ h => hFc q h) hFc (fun u t H1 locs ht hvm wh_12 hB1 hz1 hk1 hS => ?_)
  obtain ⟨cn12, In12, Fn12⟩ := u
  obtain ⟨hP1, hD1⟩ := hB1
  rw [ht] at hP1
  have hP : va_P D vwCl (wX cI (D.1 99) zz g ad cn12 In12 Fn12) H1 := hP1
  have hD : va_D A (wX cI (D.1 99) zz g ad cn12 In12 Fn12) := hD1.weaken (fun _ _ _ h => hFc _ h)
  generalize H1 = H at hP hS ⊢
  have vh_12 : (fun c2 I2 F2 => Fr [] [] [7] cn In Fn10 c2 I2 F2 ∧ CBX c2 ∧ (True)) cn12 In12 Fn12 := wh_12
  obtain ⟨hfc12, hIn12, h_12⟩ := vh_12
  obtain rfl : cn = cn12 := (funext (fun k => hfc12.1 k List.not_mem_nil)).symm
  obtain rfl : In = In12 := (funext (fun k => hfc12.2.1 k List.not_mem_nil)).symm
  have hf12 : Fr [] [] [7] cn In Fn cn In Fn12 := Fr.mo (Fr.tr hf10 hfc12) (sbl rfl) (sbl rfl) (sbl rfl)
  replace hIn12 : CBXh cn := hIn12
  refine lv_aload_n hx hb (oc_42 58 (aq_9 shX11_lettersOfLoad_49)) rfl (lvA0 hl) ?_
  refine lv_bipush (v := 115) hx hb (oc_16 59 (aq_10 shX11_lettersOfLoad_49) sgb_115) kbc_115 ?_
  refine lv_aload_n hx hb (oc_43 61 (aq_12 shX11_lettersOfLoad_49)) rfl (lvA1 hl) ?_
  refine gf_RX11_134 S hK hP _ (xf_1 hk) (v := .int ((Fn12 127) k0)) rfl (oc_180 62 (aq_13 shX11_lettersOfLoad_49) uw_0_134) ?_
  have hFc := free_all hD hS hA
  refine va_callv (runV_xa (As := [.int 115, .int ((Fn12 127) k0)]) (rest := []) S (q_Xletter l D cI cB cZ zz qq vv bt g ad cn In Fn12 115 ((Fn12 127) k0) H.size hIn12) kV_RX11_188 hK hXS hS hFc hP hD 0 xo_0 rfl rfl ⟨Nat.le_of_ble_eq_true rfl, Nat.le_of_ble_eq_true rfl⟩ ⟨Nat.le_of_ble_eq_true rfl, Nat.le_of_ble_eq_true rfl⟩ rfl hl.1 rfl (Nat.le_of_ble_eq_true rfl) (oc_182 65 (aq_16 shX11_lettersOfLoad_49) uw_0_188)) hS (fun q _ h => hFc q h) hFc (fun u t H1 locs ht hvm wh_14 hB1 hz1 hk1 hS => ?_)
  obtain ⟨cn14, In14, Fn14⟩ := u
  obtain ⟨hP1, hD1⟩ := hB1
  rw [ht] at hP1
  have hP : va_P D vwCl (wX cI (D.1 99) zz g ad cn14 In14 Fn14) H1 := hP1
  have hD : va_D A (wX cI (D.1 99) zz g ad cn14 In14 Fn14) := hD1.weaken (fun _ _ _ h => hFc _ h)
  generalize H1 = H at hP hS ⊢
  have vh_14 : (fun c2 I2 F2 => Fr [] [] [7] cn In Fn12 c2 I2 F2 ∧ CBX c2 ∧ (True)) cn14 In14 Fn14 := wh_14
  obtain ⟨hfc14, hIn14, h_14⟩ := vh_14
  obtain rfl : cn = cn14 := (funext (fun k => hfc14.1 k List.not_mem_nil)).symm
  obtain rfl : In = In14 := (funext (fun k => hfc14.2.1 k List.not_mem_nil)).symm
  have hf14 : Fr [] [] [7] cn In Fn cn In Fn14 := Fr.mo (Fr.tr hf12 hfc14) (sbl rfl) (sbl rfl) (sbl rfl)
  replace hIn14 : CBXh cn := hIn14
  refine lv_aload_n hx hb (oc_42 68 (aq_19 shX11_lettersOfLoad_49)) rfl (lvA0 hl) ?_
  refine lv_bipush (v := 110) hx hb (oc_16 69 (aq_20 shX11_lettersOfLoad_49) sgb_110) kbc_110 ?_
  refine lv_iconst (v := 0) hx hb (oc_3 71 (aq_22 shX11_lettersOfLoad_49)) kic_0 ?_
  have hFc := free_all hD hS hA
  refine va_callv (runV_xa (As := [.int 110, .int 0]) (rest := []) S (q_Xletter l D cI cB cZ zz qq vv bt g ad cn In Fn14 110 0 H.size hIn14) kV_RX11_188 hK hXS hS hFc hP hD 0 xo_0 rfl rfl ⟨Nat.le_of_ble_eq_true rfl, Nat.le_of_ble_eq_true rfl⟩ ⟨Nat.le_of_ble_eq_true rfl, Nat.le_of_ble_eq_true rfl⟩ rfl hl.1 rfl (Nat.le_of_ble_eq_true rfl) (oc_182 72 (aq_23 shX11_lettersOfLoad_49) uw_0_188)) hS (fun q _ h => hFc q h) hFc (fun u t H1 locs ht hvm wh_16 hB1 hz1 hk1 hS => ?_)
  obtain ⟨cn16, In16, Fn16⟩ := u
  obtain ⟨hP1, hD1⟩ := hB1
  rw [ht] at hP1
  have hP : va_P D vwCl (wX cI (D.1 99) zz g ad cn16 In16 Fn16) H1 := hP1
  have hD : va_D A (wX cI (D.1 99) zz g ad cn16 In16 Fn16) := hD1.weaken (fun _ _ _ h => hFc _ h)
  generalize H1 = H at hP hS ⊢
  have vh_16 : (fun c2 I2 F2 => Fr [] [] [7] cn In Fn14 c2 I2 F2 ∧ CBX c2 ∧ (True)) cn16 In16 Fn16 := wh_16
  obtain ⟨hfc16, hIn16, h_16⟩ := vh_16
  obtain rfl : cn = cn16 := (funext (fun k => hfc16.1 k List.not_mem_nil)).symm
  obtain rfl : In = In16 := (funext (fun k => hfc16.2.1 k List.not_mem_nil)).symm
  have hf16 : Fr [] [] [7] cn In Fn cn In Fn16 := Fr.mo (Fr.tr hf14 hfc16) (sbl rfl) (sbl rfl) (sbl rfl)
  replace hIn16 : CBXh cn := hIn16
  exact W.vret hx hb hr (fun t ht hW => ⟨⟨(cn, In, Fn16), rfl, ⟨(Fr.mo hf16 (sbl rfl) (sbl rfl) (sbl rfl)), hIn16, trivial⟩, by rw [ht]; exact hP, hD⟩, hS.F ht⟩) hS.2.2 (oc_177 75 shX11_lettersOfLoad_75)
set_option maxRecDepth 100000 in
set_option maxHeartbeats 4000000 in
theorem q_XlettersOfLaw (l : Launch) (D : va_G) (cI cB cZ : ClassId) (zz qq vv : Nat) (bt : Nat → Int32) (g : Nat → Nat) (ad : Nat → Nat → Nat) (cn : Nat → Nat) (In : Nat → Int32) (Fn : Nat → Nat → Int32)  (sz : Nat) (hB : CBX cn) : Met l yX11_lettersOfLaw (CWS yX11_lettersOfLaw cX11_lettersOfLaw 1 none) (RM 6 0 0) (PBx [.ref (g 0)] D cI cB cZ zz qq vv bt (wX cI (D.1 99) zz g ad cn In Fn) sz) (va_Qv (fun (u : (Nat → Nat) × (Nat → Int32) × (Nat → Nat → Int32)) => (fun c2 I2 F2 => Fr [] [] [7] cn In Fn c2 I2 F2 ∧ CBX c2 ∧ (True)) u.1 u.2.1 u.2.2) (fun (u : (Nat → Nat) × (Nat → Int32) × (Nat → Nat → Int32)) (t : State) => va_P D vwCl (wX cI (D.1 99) zz g ad u.1 u.2.1 u.2.2) t.heap ∧ va_D (va_A (wX cI (D.1 99) zz g ad cn In Fn) sz) (wX cI (D.1 99) zz g ad u.1 u.2.1 u.2.2)) (va_A (wX cI (D.1 99) zz g ad cn In Fn) sz)) 0 0 (va_A (wX cI (D.1 99) zz g ad cn In Fn) sz) := by
  refine en_x (fun A => (va_Qv (fun (u : (Nat → Nat) × (Nat → Int32) × (Nat → Nat → Int32)) => (fun (c2 : Nat → Nat) (I2 : Nat → Int32) (F2 : Nat → Nat → Int32) => Fr [] [] [7] cn In Fn c2 I2 F2 ∧ CBX c2 ∧ (True)) u.1 u.2.1 u.2.2) (fun (u : (Nat → Nat) × (Nat → Int32) × (Nat → Nat → Int32)) (t : State) => va_P D vwCl (wX cI (D.1 99) zz g ad u.1 u.2.1 u.2.2) t.heap ∧ va_D A (wX cI (D.1 99) zz g ad u.1 u.2.1 u.2.2)) A)) rfl rfl pn_RX11 (Nat.le_of_ble_eq_true rfl) (fun p e s m below meth c A hx hb hml hown S hr hlocks hnm hA hP hK hD hXS hS ls hl => ?_)
  have hl : lv_has ls 1 [(0, .ref (g 0))] := hl
  have hb_cn : Hid (CBX cn) := hB
  replace hB : CBXh cn := hB
  refine lv_aload_n hx hb (oc_42 0 shX11_lettersOfLaw_0) rfl (lvA0 hl) ?_
  refine lv_aload_n hx hb (oc_42 1 (aq_1 shX11_lettersOfLaw_0)) rfl (lvA0 hl) ?_
  refine gf_RX11_103 S hK hP 0 xo_0 (v := .int (nI (cn 0))) rfl (oc_180 2 (aq_2 shX11_lettersOfLaw_0) uw_0_103) ?_
  have hFc := free_all hD hS hA
  refine va_callv (runV_xa (As := [.int (nI (cn 0))]) (rest := []) S (q_XlettersOfDay l D cI cB cZ zz qq vv bt g ad cn In Fn (nI (cn 0)) s.heap.size hB) kV_RX11_199 hK hXS hS hFc hP hD 0 xo_0 rfl rfl ⟨Nat.le_of_ble_eq_true rfl, Nat.le_of_ble_eq_true rfl⟩ ⟨Nat.le_of_ble_eq_true rfl, Nat.le_of_ble_eq_true rfl⟩ rfl hl.1 rfl (Nat.le_of_ble_eq_true rfl) (oc_182 5 (aq_5 shX11_lettersOfLaw_0) uw_0_199)) hS (fun q _ h => hFc q h) hFc (fun u t H1 locs ht hvm wh_2 hB1 hz1 hk1 hS => ?_)
  obtain ⟨cn2, In2, Fn2⟩ := u
  obtain ⟨hP1, hD1⟩ := hB1
  rw [ht] at hP1
  have hP : va_P D vwCl (wX cI (D.1 99) zz g ad cn2 In2 Fn2) H1 := hP1
  have hD : va_D A (wX cI (D.1 99) zz g ad cn2 In2 Fn2) := hD1.weaken (fun _ _ _ h => hFc _ h)
  generalize H1 = H at hP hS ⊢
  have vh_2 : (fun c2 I2 F2 => Fr [] [] [7] cn In Fn c2 I2 F2 ∧ CBX c2 ∧ (True)) cn2 In2 Fn2 := wh_2
  obtain ⟨hfc2, hIn2, h_2⟩ := vh_2
  obtain rfl : cn = cn2 := (funext (fun k => hfc2.1 k List.not_mem_nil)).symm
  obtain rfl : In = In2 := (funext (fun k => hfc2.2.1 k List.not_mem_nil)).symm
  have hf2 : Fr [] [] [7] cn In Fn cn In Fn2 := Fr.mo (Fr.tr (Fr.rf (cn := cn) (In := In) (Fn := Fn)) hfc2) (sbl rfl) (sbl rfl) (sbl rfl)
  replace hIn2 : CBXh cn := hIn2
  refine lv_aload_n hx hb (oc_42 8 (aq_8 shX11_lettersOfLaw_0)) rfl (lvA0 hl) ?_
  refine lv_bipush (v := 107) hx hb (oc_16 9 (aq_9 shX11_lettersOfLaw_0) sgb_107) kbc_107 ?_
  refine lv_iconst (v := 0) hx hb (oc_3 11 (aq_11 shX11_lettersOfLaw_0)) kic_0 ?_
  have hFc := free_all hD hS hA
  refine va_callv (runV_xa (As := [.int 107, .int 0]) (rest := []) S (q_Xletter l D cI cB cZ zz qq vv bt g ad cn In Fn2 107 0 H.size hIn2) kV_RX11_188 hK hXS hS hFc hP hD 0 xo_0 rfl rfl ⟨Nat.le_of_ble_eq_true rfl, Nat.le_of_ble_eq_true rfl⟩ ⟨Nat.le_of_ble_eq_true rfl, Nat.le_of_ble_eq_true rfl⟩ rfl hl.1 rfl (Nat.le_of_ble_eq_true rfl) (oc_182 12 (aq_12 shX11_lettersOfLaw_0) uw_0_188)) hS (fun q _ h => hFc q h) hFc (fun u t H1 locs ht hvm wh_4 hB1 hz1 hk1 hS => ?_)
  obtain ⟨cn4, In4, Fn4⟩ := u
  obtain ⟨hP1, hD1⟩ := hB1
  rw [ht] at hP1
  have hP : va_P D vwCl (wX cI (D.1 99) zz g ad cn4 In4 Fn4) H1 := hP1
  have hD : va_D A (wX cI (D.1 99) zz g ad cn4 In4 Fn4) := hD1.weaken (fun _ _ _ h => hFc _ h)
  generalize H1 = H at hP hS ⊢
  have vh_4 : (fun c2 I2 F2 => Fr [] [] [7] cn In Fn2 c2 I2 F2 ∧ CBX c2 ∧ (True)) cn4 In4 Fn4 := wh_4
  obtain ⟨hfc4, hIn4, h_4⟩ := vh_4
  obtain rfl : cn = cn4 := (funext (fun k => hfc4.1 k List.not_mem_nil)).symm
  obtain rfl : In = In4 := (funext (fun k => hfc4.2.1 k List.not_mem_nil)).symm
  have hf4 : Fr [] [] [7] cn In Fn cn In Fn4 := Fr.mo (Fr.tr hf2 hfc4) (sbl rfl) (sbl rfl) (sbl rfl)
  replace hIn4 : CBXh cn := hIn4
  refine lv_aload_n hx hb (oc_42 15 (aq_15 shX11_lettersOfLaw_0)) rfl (lvA0 hl) ?_
  refine lv_bipush (v := 109) hx hb (oc_16 16 (aq_16 shX11_lettersOfLaw_0) sgb_109) kbc_109 ?_
  refine lv_iconst (v := 0) hx hb (oc_3 18 (aq_18 shX11_lettersOfLaw_0)) kic_0 ?_
  have hFc := free_all hD hS hA
  refine va_callv (runV_xa (As := [.int 109, .int 0]) (rest := []) S (q_Xletter l D cI cB cZ zz qq vv bt g ad cn In Fn4 109 0 H.size hIn4) kV_RX11_188 hK hXS hS hFc hP hD 0 xo_0 rfl rfl ⟨Nat.le_of_ble_eq_true rfl, Nat.le_of_ble_eq_true rfl⟩ ⟨Nat.le_of_ble_eq_true rfl, Nat.le_of_ble_eq_true rfl⟩ rfl hl.1 rfl (Nat.le_of_ble_eq_true rfl) (oc_182 19 (aq_19 shX11_lettersOfLaw_0) uw_0_188)) hS (fun q _ h => hFc q h) hFc (fun u t H1 locs ht hvm wh_6 hB1 hz1 hk1 hS => ?_)
  obtain ⟨cn6, In6, Fn6⟩ := u
  obtain ⟨hP1, hD1⟩ := hB1
  rw [ht] at hP1
  have hP : va_P D vwCl (wX cI (D.1 99) zz g ad cn6 In6 Fn6) H1 := hP1
  have hD : va_D A (wX cI (D.1 99) zz g ad cn6 In6 Fn6) := hD1.weaken (fun _ _ _ h => hFc _ h)
  generalize H1 = H at hP hS ⊢
  have vh_6 : (fun c2 I2 F2 => Fr [] [] [7] cn In Fn4 c2 I2 F2 ∧ CBX c2 ∧ (True)) cn6 In6 Fn6 := wh_6
  obtain ⟨hfc6, hIn6, h_6⟩ := vh_6
  obtain rfl : cn = cn6 := (funext (fun k => hfc6.1 k List.not_mem_nil)).symm
  obtain rfl : In = In6 := (funext (fun k => hfc6.2.1 k List.not_mem_nil)).symm
  have hf6 : Fr [] [] [7] cn In Fn cn In Fn6 := Fr.mo (Fr.tr hf4 hfc6) (sbl rfl) (sbl rfl) (sbl rfl)
  replace hIn6 : CBXh cn := hIn6
  refine lv_aload_n hx hb (oc_42 22 (aq_22 shX11_lettersOfLaw_0)) rfl (lvA0 hl) ?_
  refine lv_bipush (v := 115) hx hb (oc_16 23 (aq_23 shX11_lettersOfLaw_0) sgb_115) kbc_115 ?_
  refine lv_iconst (v := 0) hx hb (oc_3 25 shX11_lettersOfLaw_25) kic_0 ?_
  have hFc := free_all hD hS hA
  refine va_callv (runV_xa (As := [.int 115, .int 0]) (rest := []) S (q_Xletter l D cI cB cZ zz qq vv bt g ad cn In Fn6 115 0 H.size hIn6) kV_RX11_188 hK hXS hS hFc hP hD 0 xo_0 rfl rfl ⟨Nat.le_of_ble_eq_true rfl, Nat.le_of_ble_eq_true rfl⟩ ⟨Nat.le_of_ble_eq_true rfl, Nat.le_of_ble_eq_true rfl⟩ rfl hl.1 rfl (Nat.le_of_ble_eq_true rfl) (oc_182 26 (aq_1 shX11_lettersOfLaw_25) uw_0_188)) hS (fun q _ h => hFc q h) hFc (fun u t H1 locs ht hvm wh_8 hB1 hz1 hk1 hS => ?_)
  obtain ⟨cn8, In8, Fn8⟩ := u
  obtain ⟨hP1, hD1⟩ := hB1
  rw [ht] at hP1
  have hP : va_P D vwCl (wX cI (D.1 99) zz g ad cn8 In8 Fn8) H1 := hP1
  have hD : va_D A (wX cI (D.1 99) zz g ad cn8 In8 Fn8) := hD1.weaken (fun _ _ _ h => hFc _ h)
  generalize H1 = H at hP hS ⊢
  have vh_8 : (fun c2 I2 F2 => Fr [] [] [7] cn In Fn6 c2 I2 F2 ∧ CBX c2 ∧ (True)) cn8 In8 Fn8 := wh_8
  obtain ⟨hfc8, hIn8, h_8⟩ := vh_8
  obtain rfl : cn = cn8 := (funext (fun k => hfc8.1 k List.not_mem_nil)).symm
  obtain rfl : In = In8 := (funext (fun k => hfc8.2.1 k List.not_mem_nil)).symm
  have hf8 : Fr [] [] [7] cn In Fn cn In Fn8 := Fr.mo (Fr.tr hf6 hfc8) (sbl rfl) (sbl rfl) (sbl rfl)
  replace hIn8 : CBXh cn := hIn8
  exact W.vret hx hb hr (fun t ht hW => ⟨⟨(cn, In, Fn8), rfl, ⟨(Fr.mo hf8 (sbl rfl) (sbl rfl) (sbl rfl)), hIn8, trivial⟩, by rw [ht]; exact hP, hD⟩, hS.F ht⟩) hS.2.2 (oc_177 29 (aq_4 shX11_lettersOfLaw_25))
set_option maxRecDepth 100000 in
set_option maxHeartbeats 4000000 in
theorem q_XpenceBy (l : Launch) (D : va_G) (cI cB cZ : ClassId) (zz qq vv : Nat) (bt : Nat → Int32) (g : Nat → Nat) (ad : Nat → Nat → Nat) (cn : Nat → Nat) (In : Nat → Int32) (Fn : Nat → Nat → Int32) (j0 k0 n0 : Nat) (sz : Nat) (hB : CBX cn) (hj : j0 < cn 6) (hk : k0 < cn 11) (es : Fn 198 j0 = nI n0) (hn : n0 ≤ 12) : Met l yX11_penceBy (CWS yX11_penceBy cX11_penceBy 4 (some .int)) (RM 7 0 0) (PBx [.ref (g 0), .ref (ad 5 j0), .ref (ad 11 k0)] D cI cB cZ zz qq vv bt (wX cI (D.1 99) zz g ad cn In Fn) sz) (va_Qi (fun (r : Int32) (u : (Nat → Nat) × (Nat → Int32) × (Nat → Nat → Int32)) => (fun r c2 I2 F2 => Fr [] [] [7, 196, 197, 305] cn In Fn c2 I2 F2 ∧ CBX c2 ∧ (True)) r u.1 u.2.1 u.2.2) (fun (u : (Nat → Nat) × (Nat → Int32) × (Nat → Nat → Int32)) (t : State) => va_P D vwCl (wX cI (D.1 99) zz g ad u.1 u.2.1 u.2.2) t.heap ∧ va_D (va_A (wX cI (D.1 99) zz g ad cn In Fn) sz) (wX cI (D.1 99) zz g ad u.1 u.2.1 u.2.2)) (va_A (wX cI (D.1 99) zz g ad cn In Fn) sz)) 0 0 (va_A (wX cI (D.1 99) zz g ad cn In Fn) sz) := by
  refine en_x (fun A => (va_Qi (fun (r : Int32) (u : (Nat → Nat) × (Nat → Int32) × (Nat → Nat → Int32)) => (fun (r : Int32) (c2 : Nat → Nat) (I2 : Nat → Int32) (F2 : Nat → Nat → Int32) => Fr [] [] [7, 196, 197, 305] cn In Fn c2 I2 F2 ∧ CBX c2 ∧ (True)) r u.1 u.2.1 u.2.2) (fun (u : (Nat → Nat) × (Nat → Int32) × (Nat → Nat → Int32)) (t : State) => va_P D vwCl (wX cI (D.1 99) zz g ad u.1 u.2.1 u.2.2) t.heap ∧ va_D A (wX cI (D.1 99) zz g ad u.1 u.2.1 u.2.2)) A)) rfl rfl pn_RX11 (Nat.le_of_ble_eq_true rfl) (fun p e s m below meth c A hx hb hml hown S hr hlocks hnm hA hP hK hD hXS hS ls hl => ?_)
  have hl : lv_has ls 4 [(0, .ref (g 0)), (1, .ref (ad 5 j0)), (2, .ref (ad 11 k0))] := hl
  have hb_cn : Hid (CBX cn) := hB
  replace hB : CBXh cn := hB
  refine lv_aload_n hx hb (oc_42 0 shX11_penceBy_0) rfl (lvA0 hl) ?_
  refine lv_aload_n hx hb (oc_44 1 (aq_1 shX11_penceBy_0)) rfl (lvA2 hl) ?_
  have hFc := free_all hD hS hA
  refine va_callv (runV_xa (As := [.ref (ad 11 k0)]) (rest := []) S (q_XlettersOfLoad l D cI cB cZ zz qq vv bt g ad cn In Fn k0 s.heap.size hB (by (first | omega | (have zz0 := Hid.u hb_cn; omega)))) kV_RX11_214 hK hXS hS hFc hP hD 0 xo_0 rfl rfl ⟨Nat.le_of_ble_eq_true rfl, Nat.le_of_ble_eq_true rfl⟩ ⟨Nat.le_of_ble_eq_true rfl, Nat.le_of_ble_eq_true rfl⟩ rfl hl.1 rfl (Nat.le_of_ble_eq_true rfl) (oc_182 2 (aq_2 shX11_penceBy_0) uw_0_214)) hS (fun q _ h => hFc q h) hFc (fun u t H1 locs ht hvm wh_2 hB1 hz1 hk1 hS => ?_)
  obtain ⟨cn2, In2, Fn2⟩ := u
  obtain ⟨hP1, hD1⟩ := hB1
  rw [ht] at hP1
  have hP : va_P D vwCl (wX cI (D.1 99) zz g ad cn2 In2 Fn2) H1 := hP1
  have hD : va_D A (wX cI (D.1 99) zz g ad cn2 In2 Fn2) := hD1.weaken (fun _ _ _ h => hFc _ h)
  generalize H1 = H at hP hS ⊢
  have vh_2 : (fun c2 I2 F2 => Fr [] [] [7] cn In Fn c2 I2 F2 ∧ CBX c2 ∧ (True)) cn2 In2 Fn2 := wh_2
  obtain ⟨hfc2, hIn2, h_2⟩ := vh_2
  obtain rfl : cn = cn2 := (funext (fun k => hfc2.1 k List.not_mem_nil)).symm
  obtain rfl : In = In2 := (funext (fun k => hfc2.2.1 k List.not_mem_nil)).symm
  have hf2 : Fr [] [] [7, 196, 197, 305] cn In Fn cn In Fn2 := Fr.mo (Fr.tr (Fr.rf (cn := cn) (In := In) (Fn := Fn)) hfc2) (sbl rfl) (sbl rfl) (sbl rfl)
  replace hIn2 : CBXh cn := hIn2
  refine lv_aload_n hx hb (oc_43 5 (aq_5 shX11_penceBy_0)) rfl (lvA1 hl) ?_
  refine lv_iconst (v := 1) hx hb (oc_4 6 (aq_6 shX11_penceBy_0)) kic_1 ?_
  refine lv_aload_n hx hb (oc_42 7 (aq_7 shX11_penceBy_0)) rfl (lvA0 hl) ?_
  refine gf_RX11_40 S hK hP 0 xo_0 (v := .ref (g 7)) rfl (oc_180 8 (aq_8 shX11_penceBy_0) uw_0_40) ?_
  have hFc := free_all hD hS hA
  refine va_calli (runV_xa (As := [.int 1, .ref (g 7)]) (rest := []) S (q_XfirstThat l D cI cB cZ zz qq vv bt g ad cn In Fn2 j0 n0 1 H.size hIn2 hj ((congrFun (hf2.2.2 198 (nml rfl)) j0).trans es) hn) kV_RX11_218 hK hXS hS hFc hP hD _ (xf_7 hj) rfl rfl ⟨Nat.le_of_ble_eq_true rfl, Nat.le_of_ble_eq_true rfl⟩ ⟨Nat.le_of_ble_eq_true rfl, Nat.le_of_ble_eq_true rfl⟩ rfl hl.1 rfl (Nat.le_of_ble_eq_true rfl) (oc_182 11 (aq_11 shX11_penceBy_0) uw_0_218)) hS (fun q _ h => hFc q h) hFc (fun r_3 u t H1 locs ht hvm wh_4 hB1 hz1 hk1 hS => ?_)
  obtain ⟨cn4, In4, Fn4⟩ := u
  obtain ⟨hP1, hD1⟩ := hB1
  rw [ht] at hP1
  have hP : va_P D vwCl (wX cI (D.1 99) zz g ad cn4 In4 Fn4) H1 := hP1
  have hD : va_D A (wX cI (D.1 99) zz g ad cn4 In4 Fn4) := hD1.weaken (fun _ _ _ h => hFc _ h)
  generalize H1 = H at hP hS ⊢
  have vh_4 : (fun r c2 I2 F2 => Fr [] [] [196, 197, 305] cn In Fn2 c2 I2 F2 ∧ CBX c2 ∧ (True)) r_3 cn4 In4 Fn4 := wh_4
  obtain ⟨hfc4, hIn4, h_4⟩ := vh_4
  obtain rfl : cn = cn4 := (funext (fun k => hfc4.1 k List.not_mem_nil)).symm
  obtain rfl : In = In4 := (funext (fun k => hfc4.2.1 k List.not_mem_nil)).symm
  have hf4 : Fr [] [] [7, 196, 197, 305] cn In Fn cn In Fn4 := Fr.mo (Fr.tr hf2 hfc4) (sbl rfl) (sbl rfl) (sbl rfl)
  replace hIn4 : CBXh cn := hIn4
  refine lv_istore_n (lv' := [(3, .int r_3), (0, .ref (g 0)), (1, .ref (ad 5 j0)), (2, .ref (ad 11 k0))]) hx hb (oc_62 14 (aq_14 shX11_penceBy_0)) rfl hl (ltb rfl) rfl (fun ls hl => ?_)
  refine lv_iload_n hx hb (oc_29 15 (aq_15 shX11_penceBy_0)) rfl (lvA0 hl) ?_
  refine lv_iconst (v := (-1)) hx hb (oc_2 16 (aq_16 shX11_penceBy_0)) kic_m1 ?_
  refine lv_icmp_ne (tgt := 24) hx hb (oc_160 17 (aq_17 shX11_penceBy_0) sgw_0_7) rfl (fun c_5 => ?_) (fun c_5 => ?_)
  ·
    have tc_5 : (r_3.toInt : Int) ≠ (-1) := fun q => c_5 (Int32.toInt_inj.mp q)
    refine lv_iconst (v := 0) hx hb (oc_3 24 shX11_penceBy_24) kic_0 ?_
    refine lv_ldc (v := 100000) hx hb hown (S.2.2.2.2 _ (wk4_3 2 rfl rfl)) (oc_18 25 (aq_1 shX11_penceBy_24) ub_222) ?_
    refine lv_aload_n hx hb (oc_43 27 (aq_3 shX11_penceBy_24)) rfl (lvA2 hl) ?_
    refine lv_iload_n hx hb (oc_29 28 (aq_4 shX11_penceBy_24)) rfl (lvA0 hl) ?_
    refine lv_aload_n hx hb (oc_42 29 (aq_5 shX11_penceBy_24)) rfl (lvA1 hl) ?_
    refine gf_RX11_40 S hK hP 0 xo_0 (v := .ref (g 7)) rfl (oc_180 30 (aq_6 shX11_penceBy_24) uw_0_40) ?_
    have hFc := free_all hD hS hA
    refine va_calli (runV_xa (As := [.int r_3, .ref (g 7)]) (rest := [.int 100000, .int 0]) S (q_Xtsum l D cI cB cZ zz qq vv bt g ad cn In Fn4 j0 r_3 H.size hIn4 (by (first | omega | (have zz0 := Hid.u hb_cn; omega)))) kV_RX11_223 hK hXS hS hFc hP hD _ (xf_7 hj) rfl rfl ⟨Nat.le_of_ble_eq_true rfl, Nat.le_of_ble_eq_true rfl⟩ ⟨Nat.le_of_ble_eq_true rfl, Nat.le_of_ble_eq_true rfl⟩ rfl hl.1 rfl (Nat.le_of_ble_eq_true rfl) (oc_182 33 (aq_9 shX11_penceBy_24) uw_0_223)) hS (fun q _ h => hFc q h) hFc (fun r_6 u t H1 locs ht hvm wh_7 hB1 hz1 hk1 hS => ?_)
    obtain ⟨cn7, In7, Fn7⟩ := u
    obtain ⟨hP1, hD1⟩ := hB1
    rw [ht] at hP1
    have hP : va_P D vwCl (wX cI (D.1 99) zz g ad cn7 In7 Fn7) H1 := hP1
    have hD : va_D A (wX cI (D.1 99) zz g ad cn7 In7 Fn7) := hD1.weaken (fun _ _ _ h => hFc _ h)
    generalize H1 = H at hP hS ⊢
    have vh_7 : (fun r c2 I2 F2 => Fr [] [] [196, 197, 305] cn In Fn4 c2 I2 F2 ∧ CBX c2 ∧ (True)) r_6 cn7 In7 Fn7 := wh_7
    obtain ⟨hfc7, hIn7, h_7⟩ := vh_7
    obtain rfl : cn = cn7 := (funext (fun k => hfc7.1 k List.not_mem_nil)).symm
    obtain rfl : In = In7 := (funext (fun k => hfc7.2.1 k List.not_mem_nil)).symm
    have hf7 : Fr [] [] [7, 196, 197, 305] cn In Fn cn In Fn7 := Fr.mo (Fr.tr hf4 hfc7) (sbl rfl) (sbl rfl) (sbl rfl)
    replace hIn7 : CBXh cn := hIn7
    refine va_mmin hx hb (by rw [hml]; exact hl.1.symm) hown (S.2.2.2.2 _ (wk4_3 7 rfl rfl)) (S.2.2.2.2 _ (wk2_13 10 rfl rfl)) (S.2.2.2.2 _ (wk1_0 3 rfl rfl)) (S.2.2.2.2 _ (wk2_13 11 rfl rfl)) (Nat.le_of_ble_eq_true rfl) (Nat.le_of_ble_eq_true rfl) (Nat.le_of_ble_eq_true rfl) (Nat.le_of_ble_eq_true rfl) (oc_184 36 (aq_12 shX11_penceBy_24) uw_0_227) ?_
    refine va_mmax hx hb (by rw [hml]; exact hl.1.symm) hown (S.2.2.2.2 _ (wk4_3 8 rfl rfl)) (S.2.2.2.2 _ (wk1_3 6 rfl rfl)) (S.2.2.2.2 _ (wk1_0 3 rfl rfl)) (S.2.2.2.2 _ (wk1_3 7 rfl rfl)) (Nat.le_of_ble_eq_true rfl) (Nat.le_of_ble_eq_true rfl) (Nat.le_of_ble_eq_true rfl) (Nat.le_of_ble_eq_true rfl) (oc_184 39 (aq_15 shX11_penceBy_24) uw_0_232) ?_
    exact W.iret (v := (if 0 < (if r_6 < 100000 then r_6 else 100000) then (if r_6 < 100000 then r_6 else 100000) else 0)) hx hb hr (fun t ht hW => ⟨⟨(if 0 < (if r_6 < 100000 then r_6 else 100000) then (if r_6 < 100000 then r_6 else 100000) else 0), (cn, In, Fn7), rfl, ⟨(Fr.mo hf7 (sbl rfl) (sbl rfl) (sbl rfl)), hIn7, trivial⟩, by rw [ht]; exact hP, hD⟩, hS.F ht⟩) hS.2.2 (oc_172 42 (aq_18 shX11_penceBy_24))
  ·
    have tc_5 : (r_3.toInt : Int) = (-1) := congrArg Int32.toInt c_5
    refine lv_iconst (v := 0) hx hb (oc_3 20 (aq_20 shX11_penceBy_0)) kic_0 ?_
    refine lv_goto (tgt := 42) hx hb (oc_167 21 (aq_21 shX11_penceBy_0) sgw_0_21) rfl ?_
    exact W.iret (v := 0) hx hb hr (fun t ht hW => ⟨⟨0, (cn, In, Fn4), rfl, ⟨(Fr.mo hf4 (sbl rfl) (sbl rfl) (sbl rfl)), hIn4, trivial⟩, by rw [ht]; exact hP, hD⟩, hS.F ht⟩) hS.2.2 (oc_172 42 (aq_18 shX11_penceBy_24))
set_option maxRecDepth 100000 in
set_option maxHeartbeats 4000000 in
theorem q_XpenceTogether (l : Launch) (D : va_G) (cI cB cZ : ClassId) (zz qq vv : Nat) (bt : Nat → Int32) (g : Nat → Nat) (ad : Nat → Nat → Nat) (cn : Nat → Nat) (In : Nat → Int32) (Fn : Nat → Nat → Int32) (j0 n0 : Nat) (v0 v1 : Int32) (sz : Nat) (hB : CBX cn) (hj : j0 < cn 6) (es : Fn 198 j0 = nI n0) (hn : n0 ≤ 12) : Met l yX11_penceTogether (CWS yX11_penceTogether cX11_penceTogether 7 (some .int)) (RM 8 0 0) (PBx [.ref (g 0), .int v0, .int v1, .ref (ad 5 j0)] D cI cB cZ zz qq vv bt (wX cI (D.1 99) zz g ad cn In Fn) sz) (va_Qi (fun (r : Int32) (u : (Nat → Nat) × (Nat → Int32) × (Nat → Nat → Int32)) => (fun r c2 I2 F2 => Fr [] [] [7, 196, 197, 305] cn In Fn c2 I2 F2 ∧ CBX c2 ∧ (True)) r u.1 u.2.1 u.2.2) (fun (u : (Nat → Nat) × (Nat → Int32) × (Nat → Nat → Int32)) (t : State) => va_P D vwCl (wX cI (D.1 99) zz g ad u.1 u.2.1 u.2.2) t.heap ∧ va_D (va_A (wX cI (D.1 99) zz g ad cn In Fn) sz) (wX cI (D.1 99) zz g ad u.1 u.2.1 u.2.2)) (va_A (wX cI (D.1 99) zz g ad cn In Fn) sz)) 0 0 (va_A (wX cI (D.1 99) zz g ad cn In Fn) sz) := by
  refine en_x (fun A => (va_Qi (fun (r : Int32) (u : (Nat → Nat) × (Nat → Int32) × (Nat → Nat → Int32)) => (fun (r : Int32) (c2 : Nat → Nat) (I2 : Nat → Int32) (F2 : Nat → Nat → Int32) => Fr [] [] [7, 196, 197, 305] cn In Fn c2 I2 F2 ∧ CBX c2 ∧ (True)) r u.1 u.2.1 u.2.2) (fun (u : (Nat → Nat) × (Nat → Int32) × (Nat → Nat → Int32)) (t : State) => va_P D vwCl (wX cI (D.1 99) zz g ad u.1 u.2.1 u.2.2) t.heap ∧ va_D A (wX cI (D.1 99) zz g ad u.1 u.2.1 u.2.2)) A)) rfl rfl pn_RX11 (Nat.le_of_ble_eq_true rfl) (fun p e s m below meth c A hx hb hml hown S hr hlocks hnm hA hP hK hD hXS hS ls hl => ?_)
  have hl : lv_has ls 7 [(0, .ref (g 0)), (1, .int v0), (2, .int v1), (3, .ref (ad 5 j0))] := hl
  have hb_cn : Hid (CBX cn) := hB
  replace hB : CBXh cn := hB
  refine lv_iconst (v := 0) hx hb (oc_3 0 shX11_penceTogether_0) kic_0 ?_
  refine lv_istore (lv' := [(4, .int 0), (0, .ref (g 0)), (1, .int v0), (2, .int v1), (3, .ref (ad 5 j0))]) hx hb (oc_54 1 (aq_1 shX11_penceTogether_0) ub_4) hl (ltb rfl) rfl (fun ls hl => ?_)
  refine lv_iconst (v := 0) hx hb (oc_3 3 (aq_3 shX11_penceTogether_0)) kic_0 ?_
  refine lv_istore (lv' := [(5, .int 0), (4, .int 0), (0, .ref (g 0)), (1, .int v0), (2, .int v1), (3, .ref (ad 5 j0))]) hx hb (oc_54 4 (aq_4 shX11_penceTogether_0) ub_5) hl (ltb rfl) rfl (fun ls hl => ?_)
  have lp_6 : ∀ (n : Nat) (i6 : Nat) (x6_4 : Int32) (F6 : Nat → Nat → Int32) (H : Heap) (locs : List Loc) , cn 11 - i6 < n → (i6 ≤ cn 11 ∧ Fr [] [] [7, 196, 197, 305] cn In Fn cn In F6 ∧ CBX cn) → va_P D vwCl (wX cI (D.1 99) zz g ad cn In F6) H → va_D A (wX cI (D.1 99) zz g ad cn In F6) → va_S A s.heap H locs → ∀ ls : Array Slot, lv_has ls 7 [(5, .int (nI i6)), (4, .int x6_4), (0, .ref (g 0)), (1, .int v0), (2, .int v1), (3, .ref (ad 5 j0))] → W p l e (RM 8 0 0) s m ([.ref (g 0), .int v0, .int v1, .ref (ad 5 j0)]).toArray below meth c H locs 0 0 (MQ below (va_Qi (fun (r : Int32) (u : (Nat → Nat) × (Nat → Int32) × (Nat → Nat → Int32)) => (fun r c2 I2 F2 => Fr [] [] [7, 196, 197, 305] cn In Fn c2 I2 F2 ∧ CBX c2 ∧ (True)) r u.1 u.2.1 u.2.2) (fun (u : (Nat → Nat) × (Nat → Int32) × (Nat → Nat → Int32)) (t : State) => va_P D vwCl (wX cI (D.1 99) zz g ad u.1 u.2.1 u.2.2) t.heap ∧ va_D A (wX cI (D.1 99) zz g ad u.1 u.2.1 u.2.2)) A) ([.ref (g 0), .int v0, .int v1, .ref (ad 5 j0)]).toArray s 0 0 A) (F0 m 6 ls []) := by
    intro n6
    induction n6 with
    | zero => intros; (first | omega | (have zz0 := Hid.u hb_cn; omega))
    | succ n6 ih6 =>
      intro i6 x6_4 F6 H locs hmu6 hinv6 hP hD hS ls hl
      obtain ⟨hr6, hfr6, hI6⟩ := hinv6
      have ti6 : (nI i6).toInt = (i6 : Int) := nI_toInt (by (first | omega | (have zz0 := Hid.u hb_cn; omega)))
      replace hI6 : CBXh cn := hI6
      refine lv_iload hx hb (oc_21 6 (aq_6 shX11_penceTogether_0) ub_5) (lvA0 hl) ?_
      refine lv_aload_n hx hb (oc_42 8 (aq_8 shX11_penceTogether_0)) rfl (lvA2 hl) ?_
      refine gf_RX11_65 S hK hP 0 xo_0 (v := .ref (g 11)) rfl (oc_180 9 (aq_9 shX11_penceTogether_0) uw_0_65) ?_
      refine vp_callSi (runV_r (As := []) (rest := [.int (nI i6)]) S (q_l_size l D cI cB cZ (g 11) (if (cn 11) = 0 then zz else ad 2 1) (In 11) (nI (cn 11))) kV_RX11_84 hK hP [25] (one_is xo_25) 25 xo_25 rfl rfl ⟨Nat.le_of_ble_eq_true rfl, Nat.le_of_ble_eq_true rfl⟩ ⟨Nat.le_of_ble_eq_true rfl, Nat.le_of_ble_eq_true rfl⟩ rfl hl.1 rfl (Nat.le_of_ble_eq_true rfl) (oc_182 12 (aq_12 shX11_penceTogether_0) uw_0_84)) (fun r_1 h_2 => ?_)
      subst h_2
      have : (nI (cn 11)).toInt = (((cn 11) : Nat) : Int) := nI_toInt (by (first | omega | (have zz0 := Hid.u hb_cn; omega)))
      refine lv_icmp_ge (tgt := 68) hx hb (oc_162 15 (aq_15 shX11_penceTogether_0) sgw_0_53) rfl (fun c_3 => ?_) (fun c_3 => ?_)
      ·
        have tc_3 : ((nI (cn 11)).toInt : Int) ≤ (nI i6).toInt := Int32.le_iff_toInt_le.mp c_3
        refine lv_iload hx hb (oc_21 68 (aq_18 shX11_penceTogether_50) ub_4) (lvA1 hl) ?_
        exact W.iret (v := x6_4) hx hb hr (fun t ht hW => ⟨⟨x6_4, (cn, In, F6), rfl, ⟨(Fr.mo hfr6 (sbl rfl) (sbl rfl) (sbl rfl)), hI6, trivial⟩, by rw [ht]; exact hP, hD⟩, hS.F ht⟩) hS.2.2 (oc_172 70 (aq_20 shX11_penceTogether_50))
      ·
        have tc_3 : ((nI i6).toInt : Int) < (nI (cn 11)).toInt := Int32.lt_iff_toInt_lt.mp (Int32.not_le.mp c_3)
        refine lv_aload_n hx hb (oc_42 18 (aq_18 shX11_penceTogether_0)) rfl (lvA2 hl) ?_
        refine gf_RX11_65 S hK hP 0 xo_0 (v := .ref (g 11)) rfl (oc_180 19 (aq_19 shX11_penceTogether_0) uw_0_65) ?_
        refine lv_iload hx hb (oc_21 22 (aq_22 shX11_penceTogether_0) ub_5) (lvA0 hl) ?_
        refine va_csq (runV_rx (As := [.int (nI i6)]) (rest := []) S (q_l_get l D cI cB cZ zz qq vv bt (g 11) (ad 2 1) (cn 21) (cn 11) i6 (ad 11 i6) (In 11) (fun i => if i < (cn 11) then some (ad 11 i) else none) (by (first | omega | (have zz0 := Hid.u hb_cn; omega))) (if_pos (by (first | omega | (have zz0 := Hid.u hb_cn; omega)))) (by (first | omega | (have zz0 := Hid.u hb_cn; omega))) (by (first | omega | (have zz0 := Hid.u hb_cn; omega)))) kV_RX11_87 hK hXS hS hP _ (two_is (xl_1 (by (first | omega | (have zz0 := Hid.u hb_cn; omega)))) (xf_14 (k := 0) (by (first | omega | (have zz0 := Hid.u hb_cn; omega))))) (va_recv hK.1 hP (ci := 0) rfl xo_25) ⟨Nat.le_of_ble_eq_true rfl, Nat.le_of_ble_eq_true rfl⟩ ⟨Nat.le_of_ble_eq_true rfl, Nat.le_of_ble_eq_true rfl⟩ rfl hl.1 rfl (Nat.le_of_ble_eq_true rfl) (oc_182 24 shX11_penceTogether_24 uw_0_87)) (fun r_4 h_5 => ?_)
        subst h_5
        have kf_1 : i6 < cn 11 := by (first | omega | (have zz0 := Hid.u hb_cn; omega))
        refine va_castS hx hb hown (S.2.2.2.2 _ (wk2_17 0 rfl rfl)) (xclass hK.1 (ci := 3) rfl) (va_recv hK.1 hP (ci := 3) rfl (xf_1 kf_1)) (oc_192 27 (aq_3 shX11_penceTogether_24) uw_0_93) ?_
        refine lv_astore (lv' := [(6, .ref (ad 11 i6)), (5, .int (nI i6)), (4, .int x6_4), (0, .ref (g 0)), (1, .int v0), (2, .int v1), (3, .ref (ad 5 j0))]) hx hb (oc_58 30 (aq_6 shX11_penceTogether_24) ub_6) hl (ltb rfl) rfl (fun ls hl => ?_)
        refine lv_aload hx hb (oc_25 32 (aq_8 shX11_penceTogether_24) ub_6) (lvA0 hl) ?_
        refine gf_RX11_211 S hK hP _ (xf_1 kf_1) (v := .int ((F6 120) i6)) rfl (oc_180 34 (aq_10 shX11_penceTogether_24) uw_0_211) ?_
        refine lv_iload_n hx hb (oc_27 37 (aq_13 shX11_penceTogether_24)) rfl (lvA4 hl) ?_
        refine lv_icmp_ne (tgt := 62) hx hb (oc_160 38 (aq_14 shX11_penceTogether_24) sgw_0_24) rfl (fun c_6 => ?_) (fun c_6 => ?_)
        ·
          have tc_6 : (((F6 120) i6).toInt : Int) ≠ v0.toInt := fun q => c_6 (Int32.toInt_inj.mp q)
          refine lv_iinc (v := (nI (i6 + 1))) (lv' := [(5, .int (nI (i6 + 1))), (6, .ref (ad 11 i6)), (4, .int x6_4), (0, .ref (g 0)), (1, .int v0), (2, .int v1), (3, .ref (ad 5 j0))]) hx hb (oc_132 62 (aq_12 shX11_penceTogether_50) ub_5 sgb_1) hl (k := 1) rfl (nI_1 _) (ltb rfl) rfl (fun ls hl => ?_)
          refine lv_goto (tgt := 6) hx hb (oc_167 65 (aq_15 shX11_penceTogether_50) sgw_255_197) rfl ?_
          exact ih6 (i6 + 1) x6_4 F6 _ _ (by (first | omega | (have zz0 := Hid.u hb_cn; omega))) ⟨(by (first | omega | (have zz0 := Hid.u hb_cn; omega))), (Fr.mo hfr6 (sbl rfl) (sbl rfl) (sbl rfl)), hI6⟩ hP hD hS ls (lv_sub hl [0, 2, 3, 4, 5, 6] rfl)
        ·
          have tc_6 : (((F6 120) i6).toInt : Int) = v0.toInt := congrArg Int32.toInt c_6
          refine lv_aload hx hb (oc_25 41 (aq_17 shX11_penceTogether_24) ub_6) (lvA0 hl) ?_
          refine gf_RX11_235 S hK hP _ (xf_1 kf_1) (v := .int ((F6 125) i6)) rfl (oc_180 43 (aq_19 shX11_penceTogether_24) uw_0_235) ?_
          refine lv_iload_n hx hb (oc_28 46 (aq_22 shX11_penceTogether_24)) rfl (lvA5 hl) ?_
          refine lv_icmp_gt (tgt := 62) hx hb (oc_163 47 (aq_23 shX11_penceTogether_24) sgw_0_15) rfl (fun c_7 => ?_) (fun c_7 => ?_)
          ·
            have tc_7 : (v1.toInt : Int) < ((F6 125) i6).toInt := Int32.lt_iff_toInt_lt.mp c_7
            refine lv_iinc (v := (nI (i6 + 1))) (lv' := [(5, .int (nI (i6 + 1))), (6, .ref (ad 11 i6)), (4, .int x6_4), (0, .ref (g 0)), (1, .int v0), (2, .int v1), (3, .ref (ad 5 j0))]) hx hb (oc_132 62 (aq_12 shX11_penceTogether_50) ub_5 sgb_1) hl (k := 1) rfl (nI_1 _) (ltb rfl) rfl (fun ls hl => ?_)
            refine lv_goto (tgt := 6) hx hb (oc_167 65 (aq_15 shX11_penceTogether_50) sgw_255_197) rfl ?_
            exact ih6 (i6 + 1) x6_4 F6 _ _ (by (first | omega | (have zz0 := Hid.u hb_cn; omega))) ⟨(by (first | omega | (have zz0 := Hid.u hb_cn; omega))), (Fr.mo hfr6 (sbl rfl) (sbl rfl) (sbl rfl)), hI6⟩ hP hD hS ls (lv_sub hl [0, 2, 3, 4, 5, 6] rfl)
          ·
            have tc_7 : (((F6 125) i6).toInt : Int) ≤ v1.toInt := Int32.le_iff_toInt_le.mp (Int32.not_lt.mp c_7)
            refine lv_iload hx hb (oc_21 50 shX11_penceTogether_50 ub_4) (lvA2 hl) ?_
            refine lv_aload_n hx hb (oc_42 52 (aq_2 shX11_penceTogether_50)) rfl (lvA3 hl) ?_
            refine lv_aload_n hx hb (oc_45 53 (aq_3 shX11_penceTogether_50)) rfl (lvA6 hl) ?_
            refine lv_aload hx hb (oc_25 54 (aq_4 shX11_penceTogether_50) ub_6) (lvA0 hl) ?_
            have hFc := free_all hD hS hA
            refine va_calli (runV_xa (As := [.ref (ad 5 j0), .ref (ad 11 i6)]) (rest := [.int x6_4]) S (q_XpenceBy l D cI cB cZ zz qq vv bt g ad cn In F6 j0 i6 n0 H.size hI6 hj (by (first | omega | (have zz0 := Hid.u hb_cn; omega))) ((congrFun (hfr6.2.2 198 (nml rfl)) j0).trans es) hn) kV_RX11_238 hK hXS hS hFc hP hD 0 xo_0 rfl rfl ⟨Nat.le_of_ble_eq_true rfl, Nat.le_of_ble_eq_true rfl⟩ ⟨Nat.le_of_ble_eq_true rfl, Nat.le_of_ble_eq_true rfl⟩ rfl hl.1 rfl (Nat.le_of_ble_eq_true rfl) (oc_182 56 (aq_6 shX11_penceTogether_50) uw_0_238)) hS (fun q _ h => hFc q h) hFc (fun r_8 u t H1 locs ht hvm wh_9 hB1 hz1 hk1 hS => ?_)
            obtain ⟨cn9, In9, Fn9⟩ := u
            obtain ⟨hP1, hD1⟩ := hB1
            rw [ht] at hP1
            have hP : va_P D vwCl (wX cI (D.1 99) zz g ad cn9 In9 Fn9) H1 := hP1
            have hD : va_D A (wX cI (D.1 99) zz g ad cn9 In9 Fn9) := hD1.weaken (fun _ _ _ h => hFc _ h)
            generalize H1 = H at hP hS ⊢
            have vh_9 : (fun r c2 I2 F2 => Fr [] [] [7, 196, 197, 305] cn In F6 c2 I2 F2 ∧ CBX c2 ∧ (True)) r_8 cn9 In9 Fn9 := wh_9
            obtain ⟨hfc9, hIn9, h_9⟩ := vh_9
            obtain rfl : cn = cn9 := (funext (fun k => hfc9.1 k List.not_mem_nil)).symm
            obtain rfl : In = In9 := (funext (fun k => hfc9.2.1 k List.not_mem_nil)).symm
            have hf9 : Fr [] [] [7, 196, 197, 305] cn In Fn cn In Fn9 := Fr.mo (Fr.tr hfr6 hfc9) (sbl rfl) (sbl rfl) (sbl rfl)
            replace hIn9 : CBXh cn := hIn9
            refine lv_iadd hx hb (oc_96 59 (aq_9 shX11_penceTogether_50)) ?_
            refine lv_istore (lv' := [(4, .int (x6_4 + r_8)), (6, .ref (ad 11 i6)), (5, .int (nI i6)), (0, .ref (g 0)), (1, .int v0), (2, .int v1), (3, .ref (ad 5 j0))]) hx hb (oc_54 60 (aq_10 shX11_penceTogether_50) ub_4) hl (ltb rfl) rfl (fun ls hl => ?_)
            refine lv_iinc (v := (nI (i6 + 1))) (lv' := [(5, .int (nI (i6 + 1))), (4, .int (x6_4 + r_8)), (6, .ref (ad 11 i6)), (0, .ref (g 0)), (1, .int v0), (2, .int v1), (3, .ref (ad 5 j0))]) hx hb (oc_132 62 (aq_12 shX11_penceTogether_50) ub_5 sgb_1) hl (k := 2) rfl (nI_1 _) (ltb rfl) rfl (fun ls hl => ?_)
            refine lv_goto (tgt := 6) hx hb (oc_167 65 (aq_15 shX11_penceTogether_50) sgw_255_197) rfl ?_
            exact ih6 (i6 + 1) (x6_4 + r_8) Fn9 _ _ (by (first | omega | (have zz0 := Hid.u hb_cn; omega))) ⟨(by (first | omega | (have zz0 := Hid.u hb_cn; omega))), (Fr.mo hf9 (sbl rfl) (sbl rfl) (sbl rfl)), hIn9⟩ hP hD hS ls (lv_sub hl [0, 1, 3, 4, 5, 6] rfl)
  exact lp_6 _ 0 0 Fn _ _ (Nat.lt_succ_self _) ⟨(by (first | omega | (have zz0 := Hid.u hb_cn; omega))), (Fr.mo Fr.rf (sbl rfl) (sbl rfl) (sbl rfl)), hB⟩ hP hD hS ls (lv_sub hl [0, 1, 2, 3, 4, 5] rfl)
set_option maxRecDepth 100000 in
set_option maxHeartbeats 4000000 in
theorem q_Xpence (l : Launch) (D : va_G) (cI cB cZ : ClassId) (zz qq vv : Nat) (bt : Nat → Int32) (g : Nat → Nat) (ad : Nat → Nat → Nat) (cn : Nat → Nat) (In : Nat → Int32) (Fn : Nat → Nat → Int32) (v0 : Int32) (sz : Nat) (hB : CBX cn) (hT : (∀ k : Nat, k < cn 10 → ad 3 k < cn 6) ∧ ad 4 0 < cn 6 ∧ ad 4 1 < cn 6) (hC : ∀ k : Nat, k < cn 6 → ∃ n : Nat, n ≤ 12 ∧ Fn 198 k = nI n) : Met l yX11_pence (CWS yX11_pence cX11_pence 4 (some .int)) (RM 8 0 0) (PBx [.ref (g 0), .int v0] D cI cB cZ zz qq vv bt (wX cI (D.1 99) zz g ad cn In Fn) sz) (va_Qi (fun (r : Int32) (u : (Nat → Nat) × (Nat → Int32) × (Nat → Nat → Int32)) => (fun r c2 I2 F2 => Fr [] [] [7, 196, 197, 305] cn In Fn c2 I2 F2 ∧ CBX c2 ∧ (True)) r u.1 u.2.1 u.2.2) (fun (u : (Nat → Nat) × (Nat → Int32) × (Nat → Nat → Int32)) (t : State) => va_P D vwCl (wX cI (D.1 99) zz g ad u.1 u.2.1 u.2.2) t.heap ∧ va_D (va_A (wX cI (D.1 99) zz g ad cn In Fn) sz) (wX cI (D.1 99) zz g ad u.1 u.2.1 u.2.2)) (va_A (wX cI (D.1 99) zz g ad cn In Fn) sz)) 0 0 (va_A (wX cI (D.1 99) zz g ad cn In Fn) sz) := by
  refine en_x (fun A => (va_Qi (fun (r : Int32) (u : (Nat → Nat) × (Nat → Int32) × (Nat → Nat → Int32)) => (fun (r : Int32) (c2 : Nat → Nat) (I2 : Nat → Int32) (F2 : Nat → Nat → Int32) => Fr [] [] [7, 196, 197, 305] cn In Fn c2 I2 F2 ∧ CBX c2 ∧ (True)) r u.1 u.2.1 u.2.2) (fun (u : (Nat → Nat) × (Nat → Int32) × (Nat → Nat → Int32)) (t : State) => va_P D vwCl (wX cI (D.1 99) zz g ad u.1 u.2.1 u.2.2) t.heap ∧ va_D A (wX cI (D.1 99) zz g ad u.1 u.2.1 u.2.2)) A)) rfl rfl pn_RX11 (Nat.le_of_ble_eq_true rfl) (fun p e s m below meth c A hx hb hml hown S hr hlocks hnm hA hP hK hD hXS hS ls hl => ?_)
  have hl : lv_has ls 4 [(0, .ref (g 0)), (1, .int v0)] := hl
  have hb_cn : Hid (CBX cn) := hB
  replace hB : CBXh cn := hB
  refine lv_aload_n hx hb (oc_42 0 shX11_pence_0) rfl (lvA0 hl) ?_
  refine lv_iload_n hx hb (oc_27 1 (aq_1 shX11_pence_0)) rfl (lvA1 hl) ?_
  refine va_csq (runV_rxa (As := [.int v0]) (rest := []) S (q_XloadAt l D cI cB cZ zz qq vv bt g ad cn In Fn v0 hB) kV_RX11_148 hK hXS hS hP 0 xo_0 rfl rfl ⟨Nat.le_of_ble_eq_true rfl, Nat.le_of_ble_eq_true rfl⟩ ⟨Nat.le_of_ble_eq_true rfl, Nat.le_of_ble_eq_true rfl⟩ rfl hl.1 rfl (Nat.le_of_ble_eq_true rfl) (oc_182 2 (aq_2 shX11_pence_0) uw_0_148)) (fun r_1 h_2 => ?_)
  rcases h_2 with ⟨mr_1, er_1, hr_1, rfl⟩ | ⟨hr_1, rfl⟩
  ·
    refine lv_astore_n (lv' := [(2, .ref (ad 11 mr_1)), (0, .ref (g 0)), (1, .int v0)]) hx hb (oc_77 5 (aq_5 shX11_pence_0)) rfl hl (ltb rfl) rfl (fun ls hl => ?_)
    refine lv_aload_n hx hb (oc_44 6 (aq_6 shX11_pence_0)) rfl (lvA0 hl) ?_
    refine lv_ifnonnull (tgt := 14) hx hb (oc_199 7 (aq_7 shX11_pence_0) sgw_0_7) rfl ?_
    refine lv_aload_n hx hb (oc_42 14 (aq_14 shX11_pence_0)) rfl (lvA1 hl) ?_
    refine lv_aload_n hx hb (oc_44 15 (aq_15 shX11_pence_0)) rfl (lvA0 hl) ?_
    have kf_1 : mr_1 < cn 11 := by (first | omega | (have zz0 := Hid.u hb_cn; omega))
    refine gf_RX11_211 S hK hP _ (xf_1 kf_1) (v := .int ((Fn 120) mr_1)) rfl (oc_180 16 (aq_16 shX11_pence_0) uw_0_211) ?_
    refine va_csq (runV_rxa (As := [.int ((Fn 120) mr_1)]) (rest := []) S (q_XkitchenAt l D cI cB cZ zz qq vv bt g ad cn In Fn ((Fn 120) mr_1) hB) kV_RX11_114 hK hXS hS hP 0 xo_0 rfl rfl ⟨Nat.le_of_ble_eq_true rfl, Nat.le_of_ble_eq_true rfl⟩ ⟨Nat.le_of_ble_eq_true rfl, Nat.le_of_ble_eq_true rfl⟩ rfl hl.1 rfl (Nat.le_of_ble_eq_true rfl) (oc_182 19 (aq_19 shX11_pence_0) uw_0_114)) (fun r_3 h_4 => ?_)
    rcases h_4 with ⟨mr_3, er_3, hr_3, rfl⟩ | ⟨hr_3, rfl⟩
    ·
      refine lv_astore_n (lv' := [(3, .ref (ad 10 mr_3)), (2, .ref (ad 11 mr_1)), (0, .ref (g 0)), (1, .int v0)]) hx hb (oc_78 22 (aq_22 shX11_pence_0)) rfl hl (ltb rfl) rfl (fun ls hl => ?_)
      refine lv_aload_n hx hb (oc_44 23 (aq_23 shX11_pence_0)) rfl (lvA1 hl) ?_
      refine lv_ifnull hx hb (oc_198 24 shX11_pence_24 sgw_0_7) ?_
      refine lv_aload_n hx hb (oc_45 27 (aq_3 shX11_pence_24)) rfl (lvA0 hl) ?_
      refine lv_ifnonnull (tgt := 35) hx hb (oc_199 28 (aq_4 shX11_pence_24) sgw_0_7) rfl ?_
      obtain ⟨n9, hn9, en9⟩ := hC (ad 3 mr_3) (hT.1 mr_3 (by (first | omega | (have zz0 := Hid.u hb_cn; omega))))
      refine lv_aload_n hx hb (oc_42 35 (aq_11 shX11_pence_24)) rfl (lvA2 hl) ?_
      refine lv_aload_n hx hb (oc_45 36 (aq_12 shX11_pence_24)) rfl (lvA0 hl) ?_
      have kf_2 : mr_3 < cn 10 := by (first | omega | (have zz0 := Hid.u hb_cn; omega))
      refine gf_RX11_168 S hK hP _ (xf_0 kf_2) (v := .ref (ad 5 (ad 3 mr_3))) rfl (oc_180 37 (aq_13 shX11_pence_24) uw_0_168) ?_
      refine lv_aload_n hx hb (oc_44 40 (aq_16 shX11_pence_24)) rfl (lvA1 hl) ?_
      have hFc := free_all hD hS hA
      refine va_calli (runV_xa (As := [.ref (ad 5 (ad 3 mr_3)), .ref (ad 11 mr_1)]) (rest := []) S (q_XpenceBy l D cI cB cZ zz qq vv bt g ad cn In Fn (ad 3 mr_3) mr_1 n9 s.heap.size hB (hT.1 mr_3 (by (first | omega | (have zz0 := Hid.u hb_cn; omega)))) (by (first | omega | (have zz0 := Hid.u hb_cn; omega))) en9 hn9) kV_RX11_238 hK hXS hS hFc hP hD 0 xo_0 rfl rfl ⟨Nat.le_of_ble_eq_true rfl, Nat.le_of_ble_eq_true rfl⟩ ⟨Nat.le_of_ble_eq_true rfl, Nat.le_of_ble_eq_true rfl⟩ rfl hl.1 rfl (Nat.le_of_ble_eq_true rfl) (oc_182 41 (aq_17 shX11_pence_24) uw_0_238)) hS (fun q _ h => hFc q h) hFc (fun r_5 u t H1 locs ht hvm wh_6 hB1 hz1 hk1 hS => ?_)
      obtain ⟨cn6, In6, Fn6⟩ := u
      obtain ⟨hP1, hD1⟩ := hB1
      rw [ht] at hP1
      have hP : va_P D vwCl (wX cI (D.1 99) zz g ad cn6 In6 Fn6) H1 := hP1
      have hD : va_D A (wX cI (D.1 99) zz g ad cn6 In6 Fn6) := hD1.weaken (fun _ _ _ h => hFc _ h)
      generalize H1 = H at hP hS ⊢
      have vh_6 : (fun r c2 I2 F2 => Fr [] [] [7, 196, 197, 305] cn In Fn c2 I2 F2 ∧ CBX c2 ∧ (True)) r_5 cn6 In6 Fn6 := wh_6
      obtain ⟨hfc6, hIn6, h_6⟩ := vh_6
      obtain rfl : cn = cn6 := (funext (fun k => hfc6.1 k List.not_mem_nil)).symm
      obtain rfl : In = In6 := (funext (fun k => hfc6.2.1 k List.not_mem_nil)).symm
      have hf6 : Fr [] [] [7, 196, 197, 305] cn In Fn cn In Fn6 := Fr.mo (Fr.tr (Fr.rf (cn := cn) (In := In) (Fn := Fn)) hfc6) (sbl rfl) (sbl rfl) (sbl rfl)
      replace hIn6 : CBXh cn := hIn6
      exact W.iret (v := r_5) hx hb hr (fun t ht hW => ⟨⟨r_5, (cn, In, Fn6), rfl, ⟨(Fr.mo hf6 (sbl rfl) (sbl rfl) (sbl rfl)), hIn6, trivial⟩, by rw [ht]; exact hP, hD⟩, hS.F ht⟩) hS.2.2 (oc_172 44 (aq_20 shX11_pence_24))
    ·
      refine lv_astore_nN (lv' := [(3, .null), (2, .ref (ad 11 mr_1)), (0, .ref (g 0)), (1, .int v0)]) hx hb (oc_78 22 (aq_22 shX11_pence_0)) rfl hl (ltb rfl) rfl (fun ls hl => ?_)
      refine lv_aload_n hx hb (oc_44 23 (aq_23 shX11_pence_0)) rfl (lvA1 hl) ?_
      refine lv_ifnull hx hb (oc_198 24 shX11_pence_24 sgw_0_7) ?_
      refine lv_aload_nN hx hb (oc_45 27 (aq_3 shX11_pence_24)) rfl (lvA0 hl) ?_
      refine lv_ifnonnullN hx hb (oc_199 28 (aq_4 shX11_pence_24) sgw_0_7) ?_
      refine lv_iconst (v := (-1)) hx hb (oc_2 31 (aq_7 shX11_pence_24)) kic_m1 ?_
      refine lv_goto (tgt := 44) hx hb (oc_167 32 (aq_8 shX11_pence_24) sgw_0_12) rfl ?_
      exact W.iret (v := (-1)) hx hb hr (fun t ht hW => ⟨⟨(-1), (cn, In, Fn), rfl, ⟨(Fr.mo Fr.rf (sbl rfl) (sbl rfl) (sbl rfl)), hB, trivial⟩, by rw [ht]; exact hP, hD⟩, hS.F ht⟩) hS.2.2 (oc_172 44 (aq_20 shX11_pence_24))
  ·
    refine lv_astore_nN (lv' := [(2, .null), (0, .ref (g 0)), (1, .int v0)]) hx hb (oc_77 5 (aq_5 shX11_pence_0)) rfl hl (ltb rfl) rfl (fun ls hl => ?_)
    refine lv_aload_nN hx hb (oc_44 6 (aq_6 shX11_pence_0)) rfl (lvA0 hl) ?_
    refine lv_ifnonnullN hx hb (oc_199 7 (aq_7 shX11_pence_0) sgw_0_7) ?_
    refine lv_null hx hb (oc_1 10 (aq_10 shX11_pence_0)) ?_
    refine lv_goto (tgt := 22) hx hb (oc_167 11 (aq_11 shX11_pence_0) sgw_0_11) rfl ?_
    refine lv_astore_nN (lv' := [(3, .null), (2, .null), (0, .ref (g 0)), (1, .int v0)]) hx hb (oc_78 22 (aq_22 shX11_pence_0)) rfl hl (ltb rfl) rfl (fun ls hl => ?_)
    refine lv_aload_nN hx hb (oc_44 23 (aq_23 shX11_pence_0)) rfl (lvA1 hl) ?_
    refine lv_ifnullN (tgt := 31) hx hb (oc_198 24 shX11_pence_24 sgw_0_7) rfl ?_
    refine lv_iconst (v := (-1)) hx hb (oc_2 31 (aq_7 shX11_pence_24)) kic_m1 ?_
    refine lv_goto (tgt := 44) hx hb (oc_167 32 (aq_8 shX11_pence_24) sgw_0_12) rfl ?_
    exact W.iret (v := (-1)) hx hb hr (fun t ht hW => ⟨⟨(-1), (cn, In, Fn), rfl, ⟨(Fr.mo Fr.rf (sbl rfl) (sbl rfl) (sbl rfl)), hB, trivial⟩, by rw [ht]; exact hP, hD⟩, hS.F ht⟩) hS.2.2 (oc_172 44 (aq_20 shX11_pence_24))
set_option maxRecDepth 100000 in
set_option maxHeartbeats 4000000 in
theorem q_Xpaid (l : Launch) (D : va_G) (cI cB cZ : ClassId) (zz qq vv : Nat) (bt : Nat → Int32) (g : Nat → Nat) (ad : Nat → Nat → Nat) (cn : Nat → Nat) (In : Nat → Int32) (Fn : Nat → Nat → Int32) (v0 v1 : Int32) (sz : Nat) (hB : CBX cn) (hT : (∀ k : Nat, k < cn 10 → ad 3 k < cn 6) ∧ ad 4 0 < cn 6 ∧ ad 4 1 < cn 6) (hC : ∀ k : Nat, k < cn 6 → ∃ n : Nat, n ≤ 12 ∧ Fn 198 k = nI n) : Met l yX11_paid (CWS yX11_paid cX11_paid 4 (some .int)) (RM 9 0 0) (PBx [.ref (g 0), .int v0, .int v1] D cI cB cZ zz qq vv bt (wX cI (D.1 99) zz g ad cn In Fn) sz) (va_Qi (fun (r : Int32) (u : (Nat → Nat) × (Nat → Int32) × (Nat → Nat → Int32)) => (fun r c2 I2 F2 => Fr [] [] [7, 196, 197, 305] cn In Fn c2 I2 F2 ∧ CBX c2 ∧ (True)) r u.1 u.2.1 u.2.2) (fun (u : (Nat → Nat) × (Nat → Int32) × (Nat → Nat → Int32)) (t : State) => va_P D vwCl (wX cI (D.1 99) zz g ad u.1 u.2.1 u.2.2) t.heap ∧ va_D (va_A (wX cI (D.1 99) zz g ad cn In Fn) sz) (wX cI (D.1 99) zz g ad u.1 u.2.1 u.2.2)) (va_A (wX cI (D.1 99) zz g ad cn In Fn) sz)) 0 0 (va_A (wX cI (D.1 99) zz g ad cn In Fn) sz) := by
  refine en_x (fun A => (va_Qi (fun (r : Int32) (u : (Nat → Nat) × (Nat → Int32) × (Nat → Nat → Int32)) => (fun (r : Int32) (c2 : Nat → Nat) (I2 : Nat → Int32) (F2 : Nat → Nat → Int32) => Fr [] [] [7, 196, 197, 305] cn In Fn c2 I2 F2 ∧ CBX c2 ∧ (True)) r u.1 u.2.1 u.2.2) (fun (u : (Nat → Nat) × (Nat → Int32) × (Nat → Nat → Int32)) (t : State) => va_P D vwCl (wX cI (D.1 99) zz g ad u.1 u.2.1 u.2.2) t.heap ∧ va_D A (wX cI (D.1 99) zz g ad u.1 u.2.1 u.2.2)) A)) rfl rfl pn_RX11 (Nat.le_of_ble_eq_true rfl) (fun p e s m below meth c A hx hb hml hown S hr hlocks hnm hA hP hK hD hXS hS ls hl => ?_)
  have hl : lv_has ls 4 [(0, .ref (g 0)), (1, .int v0), (2, .int v1)] := hl
  have hb_cn : Hid (CBX cn) := hB
  replace hB : CBXh cn := hB
  refine lv_aload_n hx hb (oc_42 0 shX11_paid_0) rfl (lvA0 hl) ?_
  refine lv_iload_n hx hb (oc_27 1 (aq_1 shX11_paid_0)) rfl (lvA1 hl) ?_
  refine va_csq (runV_rxa (As := [.int v0]) (rest := []) S (q_XkitchenAt l D cI cB cZ zz qq vv bt g ad cn In Fn v0 hB) kV_RX11_114 hK hXS hS hP 0 xo_0 rfl rfl ⟨Nat.le_of_ble_eq_true rfl, Nat.le_of_ble_eq_true rfl⟩ ⟨Nat.le_of_ble_eq_true rfl, Nat.le_of_ble_eq_true rfl⟩ rfl hl.1 rfl (Nat.le_of_ble_eq_true rfl) (oc_182 2 (aq_2 shX11_paid_0) uw_0_114)) (fun r_1 h_2 => ?_)
  rcases h_2 with ⟨mr_1, er_1, hr_1, rfl⟩ | ⟨hr_1, rfl⟩
  ·
    refine lv_astore_n (lv' := [(3, .ref (ad 10 mr_1)), (0, .ref (g 0)), (1, .int v0), (2, .int v1)]) hx hb (oc_78 5 (aq_5 shX11_paid_0)) rfl hl (ltb rfl) rfl (fun ls hl => ?_)
    refine lv_aload_n hx hb (oc_45 6 (aq_6 shX11_paid_0)) rfl (lvA0 hl) ?_
    refine lv_ifnull hx hb (oc_198 7 (aq_7 shX11_paid_0) sgw_0_10) ?_
    refine lv_iload_n hx hb (oc_28 10 (aq_10 shX11_paid_0)) rfl (lvA3 hl) ?_
    refine vp_callSi (runS_r (As := [.int v1]) (rest := []) S (q_l_isDay l D cI cB cZ v1) kS_RX11_99 hK hP [] rfl ⟨Nat.le_of_ble_eq_true rfl, Nat.le_of_ble_eq_true rfl⟩ ⟨Nat.le_of_ble_eq_true rfl, Nat.le_of_ble_eq_true rfl⟩ rfl hl.1 rfl (Nat.le_of_ble_eq_true rfl) (oc_184 11 (aq_11 shX11_paid_0) uw_0_99)) (fun r_3 h_4 => ?_)
    rcases h_4 with ⟨rfl, h_4⟩ | ⟨rfl, h_4⟩
    ·
      have h_4 : 0 ≤ v1.toInt ∧ v1.toInt ≤ 399 := h_4
      refine lv_if_ne (tgt := 21) hx hb (oc_154 14 (aq_14 shX11_paid_0) sgw_0_7) rfl (fun _ => ?_) (fun h => absurd h cq_eq_1_0)
      obtain ⟨n9, hn9, en9⟩ := hC (ad 3 mr_1) (hT.1 mr_1 (by (first | omega | (have zz0 := Hid.u hb_cn; omega))))
      refine lv_aload_n hx hb (oc_42 21 (aq_21 shX11_paid_0)) rfl (lvA1 hl) ?_
      refine lv_iload_n hx hb (oc_27 22 (aq_22 shX11_paid_0)) rfl (lvA2 hl) ?_
      refine lv_iload_n hx hb (oc_28 23 (aq_23 shX11_paid_0)) rfl (lvA3 hl) ?_
      refine lv_aload_n hx hb (oc_45 24 shX11_paid_24) rfl (lvA0 hl) ?_
      have kf_1 : mr_1 < cn 10 := by (first | omega | (have zz0 := Hid.u hb_cn; omega))
      refine gf_RX11_168 S hK hP _ (xf_0 kf_1) (v := .ref (ad 5 (ad 3 mr_1))) rfl (oc_180 25 (aq_1 shX11_paid_24) uw_0_168) ?_
      have hFc := free_all hD hS hA
      refine va_calli (runV_xa (As := [.int v0, .int v1, .ref (ad 5 (ad 3 mr_1))]) (rest := []) S (q_XpenceTogether l D cI cB cZ zz qq vv bt g ad cn In Fn (ad 3 mr_1) n9 v0 v1 s.heap.size hB (hT.1 mr_1 (by (first | omega | (have zz0 := Hid.u hb_cn; omega)))) en9 hn9) kV_RX11_242 hK hXS hS hFc hP hD 0 xo_0 rfl rfl ⟨Nat.le_of_ble_eq_true rfl, Nat.le_of_ble_eq_true rfl⟩ ⟨Nat.le_of_ble_eq_true rfl, Nat.le_of_ble_eq_true rfl⟩ rfl hl.1 rfl (Nat.le_of_ble_eq_true rfl) (oc_182 28 (aq_4 shX11_paid_24) uw_0_242)) hS (fun q _ h => hFc q h) hFc (fun r_5 u t H1 locs ht hvm wh_6 hB1 hz1 hk1 hS => ?_)
      obtain ⟨cn6, In6, Fn6⟩ := u
      obtain ⟨hP1, hD1⟩ := hB1
      rw [ht] at hP1
      have hP : va_P D vwCl (wX cI (D.1 99) zz g ad cn6 In6 Fn6) H1 := hP1
      have hD : va_D A (wX cI (D.1 99) zz g ad cn6 In6 Fn6) := hD1.weaken (fun _ _ _ h => hFc _ h)
      generalize H1 = H at hP hS ⊢
      have vh_6 : (fun r c2 I2 F2 => Fr [] [] [7, 196, 197, 305] cn In Fn c2 I2 F2 ∧ CBX c2 ∧ (True)) r_5 cn6 In6 Fn6 := wh_6
      obtain ⟨hfc6, hIn6, h_6⟩ := vh_6
      obtain rfl : cn = cn6 := (funext (fun k => hfc6.1 k List.not_mem_nil)).symm
      obtain rfl : In = In6 := (funext (fun k => hfc6.2.1 k List.not_mem_nil)).symm
      have hf6 : Fr [] [] [7, 196, 197, 305] cn In Fn cn In Fn6 := Fr.mo (Fr.tr (Fr.rf (cn := cn) (In := In) (Fn := Fn)) hfc6) (sbl rfl) (sbl rfl) (sbl rfl)
      replace hIn6 : CBXh cn := hIn6
      exact W.iret (v := r_5) hx hb hr (fun t ht hW => ⟨⟨r_5, (cn, In, Fn6), rfl, ⟨(Fr.mo hf6 (sbl rfl) (sbl rfl) (sbl rfl)), hIn6, trivial⟩, by rw [ht]; exact hP, hD⟩, hS.F ht⟩) hS.2.2 (oc_172 31 (aq_7 shX11_paid_24))
    ·
      have h_4 : ¬ (0 ≤ v1.toInt ∧ v1.toInt ≤ 399) := h_4
      refine lv_if_ne (tgt := 21) hx hb (oc_154 14 (aq_14 shX11_paid_0) sgw_0_7) rfl (fun h => absurd h cq_eq_0_0) (fun _ => ?_)
      refine lv_iconst (v := (-1)) hx hb (oc_2 17 (aq_17 shX11_paid_0)) kic_m1 ?_
      refine lv_goto (tgt := 31) hx hb (oc_167 18 (aq_18 shX11_paid_0) sgw_0_13) rfl ?_
      exact W.iret (v := (-1)) hx hb hr (fun t ht hW => ⟨⟨(-1), (cn, In, Fn), rfl, ⟨(Fr.mo Fr.rf (sbl rfl) (sbl rfl) (sbl rfl)), hB, trivial⟩, by rw [ht]; exact hP, hD⟩, hS.F ht⟩) hS.2.2 (oc_172 31 (aq_7 shX11_paid_24))
  ·
    refine lv_astore_nN (lv' := [(3, .null), (0, .ref (g 0)), (1, .int v0), (2, .int v1)]) hx hb (oc_78 5 (aq_5 shX11_paid_0)) rfl hl (ltb rfl) rfl (fun ls hl => ?_)
    refine lv_aload_nN hx hb (oc_45 6 (aq_6 shX11_paid_0)) rfl (lvA0 hl) ?_
    refine lv_ifnullN (tgt := 17) hx hb (oc_198 7 (aq_7 shX11_paid_0) sgw_0_10) rfl ?_
    refine lv_iconst (v := (-1)) hx hb (oc_2 17 (aq_17 shX11_paid_0)) kic_m1 ?_
    refine lv_goto (tgt := 31) hx hb (oc_167 18 (aq_18 shX11_paid_0) sgw_0_13) rfl ?_
    exact W.iret (v := (-1)) hx hb hr (fun t ht hW => ⟨⟨(-1), (cn, In, Fn), rfl, ⟨(Fr.mo Fr.rf (sbl rfl) (sbl rfl) (sbl rfl)), hB, trivial⟩, by rw [ht]; exact hP, hD⟩, hS.F ht⟩) hS.2.2 (oc_172 31 (aq_7 shX11_paid_24))
set_option maxRecDepth 100000 in
set_option maxHeartbeats 4000000 in
theorem q_XasIf (l : Launch) (D : va_G) (cI cB cZ : ClassId) (zz qq vv : Nat) (bt : Nat → Int32) (g : Nat → Nat) (ad : Nat → Nat → Nat) (cn : Nat → Nat) (In : Nat → Int32) (Fn : Nat → Nat → Int32) (v0 v1 : Int32) (sz : Nat) (hB : CBX cn) (hT : (∀ k : Nat, k < cn 10 → ad 3 k < cn 6) ∧ ad 4 0 < cn 6 ∧ ad 4 1 < cn 6) (hC : ∀ k : Nat, k < cn 6 → ∃ n : Nat, n ≤ 12 ∧ Fn 198 k = nI n) : Met l yX11_asIf (CWS yX11_asIf cX11_asIf 4 (some .int)) (RM 9 0 0) (PBx [.ref (g 0), .int v0, .int v1] D cI cB cZ zz qq vv bt (wX cI (D.1 99) zz g ad cn In Fn) sz) (va_Qi (fun (r : Int32) (u : (Nat → Nat) × (Nat → Int32) × (Nat → Nat → Int32)) => (fun r c2 I2 F2 => Fr [] [] [7, 196, 197, 305] cn In Fn c2 I2 F2 ∧ CBX c2 ∧ (True)) r u.1 u.2.1 u.2.2) (fun (u : (Nat → Nat) × (Nat → Int32) × (Nat → Nat → Int32)) (t : State) => va_P D vwCl (wX cI (D.1 99) zz g ad u.1 u.2.1 u.2.2) t.heap ∧ va_D (va_A (wX cI (D.1 99) zz g ad cn In Fn) sz) (wX cI (D.1 99) zz g ad u.1 u.2.1 u.2.2)) (va_A (wX cI (D.1 99) zz g ad cn In Fn) sz)) 0 0 (va_A (wX cI (D.1 99) zz g ad cn In Fn) sz) := by
  refine en_x (fun A => (va_Qi (fun (r : Int32) (u : (Nat → Nat) × (Nat → Int32) × (Nat → Nat → Int32)) => (fun (r : Int32) (c2 : Nat → Nat) (I2 : Nat → Int32) (F2 : Nat → Nat → Int32) => Fr [] [] [7, 196, 197, 305] cn In Fn c2 I2 F2 ∧ CBX c2 ∧ (True)) r u.1 u.2.1 u.2.2) (fun (u : (Nat → Nat) × (Nat → Int32) × (Nat → Nat → Int32)) (t : State) => va_P D vwCl (wX cI (D.1 99) zz g ad u.1 u.2.1 u.2.2) t.heap ∧ va_D A (wX cI (D.1 99) zz g ad u.1 u.2.1 u.2.2)) A)) rfl rfl pn_RX11 (Nat.le_of_ble_eq_true rfl) (fun p e s m below meth c A hx hb hml hown S hr hlocks hnm hA hP hK hD hXS hS ls hl => ?_)
  have hl : lv_has ls 4 [(0, .ref (g 0)), (1, .int v0), (2, .int v1)] := hl
  have hb_cn : Hid (CBX cn) := hB
  replace hB : CBXh cn := hB
  refine lv_aload_n hx hb (oc_42 0 shX11_asIf_0) rfl (lvA0 hl) ?_
  refine lv_iload_n hx hb (oc_28 1 (aq_1 shX11_asIf_0)) rfl (lvA2 hl) ?_
  refine va_csq (runV_rxa (As := [.int v1]) (rest := []) S (q_XkitchenAt l D cI cB cZ zz qq vv bt g ad cn In Fn v1 hB) kV_RX11_114 hK hXS hS hP 0 xo_0 rfl rfl ⟨Nat.le_of_ble_eq_true rfl, Nat.le_of_ble_eq_true rfl⟩ ⟨Nat.le_of_ble_eq_true rfl, Nat.le_of_ble_eq_true rfl⟩ rfl hl.1 rfl (Nat.le_of_ble_eq_true rfl) (oc_182 2 (aq_2 shX11_asIf_0) uw_0_114)) (fun r_1 h_2 => ?_)
  rcases h_2 with ⟨mr_1, er_1, hr_1, rfl⟩ | ⟨hr_1, rfl⟩
  ·
    refine lv_astore_n (lv' := [(3, .ref (ad 10 mr_1)), (0, .ref (g 0)), (1, .int v0), (2, .int v1)]) hx hb (oc_78 5 (aq_5 shX11_asIf_0)) rfl hl (ltb rfl) rfl (fun ls hl => ?_)
    refine lv_aload_n hx hb (oc_42 6 (aq_6 shX11_asIf_0)) rfl (lvA1 hl) ?_
    refine lv_iload_n hx hb (oc_27 7 (aq_7 shX11_asIf_0)) rfl (lvA2 hl) ?_
    refine va_csq (runV_rxa (As := [.int v0]) (rest := []) S (q_XkitchenAt l D cI cB cZ zz qq vv bt g ad cn In Fn v0 hB) kV_RX11_114 hK hXS hS hP 0 xo_0 rfl rfl ⟨Nat.le_of_ble_eq_true rfl, Nat.le_of_ble_eq_true rfl⟩ ⟨Nat.le_of_ble_eq_true rfl, Nat.le_of_ble_eq_true rfl⟩ rfl hl.1 rfl (Nat.le_of_ble_eq_true rfl) (oc_182 8 (aq_8 shX11_asIf_0) uw_0_114)) (fun r_3 h_4 => ?_)
    rcases h_4 with ⟨mr_3, er_3, hr_3, rfl⟩ | ⟨hr_3, rfl⟩
    ·
      refine lv_ifnull hx hb dX11_asIf_11 ?_
      refine lv_aload_n hx hb (oc_45 14 (aq_14 shX11_asIf_0)) rfl (lvA0 hl) ?_
      refine lv_ifnonnull (tgt := 22) hx hb (oc_199 15 (aq_15 shX11_asIf_0) sgw_0_7) rfl ?_
      obtain ⟨n9, hn9, en9⟩ := hC (ad 3 mr_1) (hT.1 mr_1 (by (first | omega | (have zz0 := Hid.u hb_cn; omega))))
      refine lv_aload_n hx hb (oc_42 22 (aq_22 shX11_asIf_0)) rfl (lvA1 hl) ?_
      refine lv_iload_n hx hb (oc_27 23 (aq_23 shX11_asIf_0)) rfl (lvA2 hl) ?_
      refine lv_sipush (v := 399) hx hb (oc_17 24 shX11_asIf_24 sgw_1_143) (by decide) ?_
      refine lv_aload_n hx hb (oc_45 27 (aq_3 shX11_asIf_24)) rfl (lvA0 hl) ?_
      have kf_1 : mr_1 < cn 10 := by (first | omega | (have zz0 := Hid.u hb_cn; omega))
      refine gf_RX11_168 S hK hP _ (xf_0 kf_1) (v := .ref (ad 5 (ad 3 mr_1))) rfl (oc_180 28 (aq_4 shX11_asIf_24) uw_0_168) ?_
      have hFc := free_all hD hS hA
      refine va_calli (runV_xa (As := [.int v0, .int 399, .ref (ad 5 (ad 3 mr_1))]) (rest := []) S (q_XpenceTogether l D cI cB cZ zz qq vv bt g ad cn In Fn (ad 3 mr_1) n9 v0 399 s.heap.size hB (hT.1 mr_1 (by (first | omega | (have zz0 := Hid.u hb_cn; omega)))) en9 hn9) kV_RX11_242 hK hXS hS hFc hP hD 0 xo_0 rfl rfl ⟨Nat.le_of_ble_eq_true rfl, Nat.le_of_ble_eq_true rfl⟩ ⟨Nat.le_of_ble_eq_true rfl, Nat.le_of_ble_eq_true rfl⟩ rfl hl.1 rfl (Nat.le_of_ble_eq_true rfl) (oc_182 31 (aq_7 shX11_asIf_24) uw_0_242)) hS (fun q _ h => hFc q h) hFc (fun r_5 u t H1 locs ht hvm wh_6 hB1 hz1 hk1 hS => ?_)
      obtain ⟨cn6, In6, Fn6⟩ := u
      obtain ⟨hP1, hD1⟩ := hB1
      rw [ht] at hP1
      have hP : va_P D vwCl (wX cI (D.1 99) zz g ad cn6 In6 Fn6) H1 := hP1
      have hD : va_D A (wX cI (D.1 99) zz g ad cn6 In6 Fn6) := hD1.weaken (fun _ _ _ h => hFc _ h)
      generalize H1 = H at hP hS ⊢
      have vh_6 : (fun r c2 I2 F2 => Fr [] [] [7, 196, 197, 305] cn In Fn c2 I2 F2 ∧ CBX c2 ∧ (True)) r_5 cn6 In6 Fn6 := wh_6
      obtain ⟨hfc6, hIn6, h_6⟩ := vh_6
      obtain rfl : cn = cn6 := (funext (fun k => hfc6.1 k List.not_mem_nil)).symm
      obtain rfl : In = In6 := (funext (fun k => hfc6.2.1 k List.not_mem_nil)).symm
      have hf6 : Fr [] [] [7, 196, 197, 305] cn In Fn cn In Fn6 := Fr.mo (Fr.tr (Fr.rf (cn := cn) (In := In) (Fn := Fn)) hfc6) (sbl rfl) (sbl rfl) (sbl rfl)
      replace hIn6 : CBXh cn := hIn6
      exact W.iret (v := r_5) hx hb hr (fun t ht hW => ⟨⟨r_5, (cn, In, Fn6), rfl, ⟨(Fr.mo hf6 (sbl rfl) (sbl rfl) (sbl rfl)), hIn6, trivial⟩, by rw [ht]; exact hP, hD⟩, hS.F ht⟩) hS.2.2 dX11_asIf_34
    ·
      refine lv_ifnullN (tgt := 18) hx hb dX11_asIf_11 rfl ?_
      refine lv_iconst (v := (-1)) hx hb (oc_2 18 (aq_18 shX11_asIf_0)) kic_m1 ?_
      refine lv_goto (tgt := 34) hx hb (oc_167 19 (aq_19 shX11_asIf_0) sgw_0_15) rfl ?_
      exact W.iret (v := (-1)) hx hb hr (fun t ht hW => ⟨⟨(-1), (cn, In, Fn), rfl, ⟨(Fr.mo Fr.rf (sbl rfl) (sbl rfl) (sbl rfl)), hB, trivial⟩, by rw [ht]; exact hP, hD⟩, hS.F ht⟩) hS.2.2 dX11_asIf_34
  ·
    refine lv_astore_nN (lv' := [(3, .null), (0, .ref (g 0)), (1, .int v0), (2, .int v1)]) hx hb (oc_78 5 (aq_5 shX11_asIf_0)) rfl hl (ltb rfl) rfl (fun ls hl => ?_)
    refine lv_aload_n hx hb (oc_42 6 (aq_6 shX11_asIf_0)) rfl (lvA1 hl) ?_
    refine lv_iload_n hx hb (oc_27 7 (aq_7 shX11_asIf_0)) rfl (lvA2 hl) ?_
    refine va_csq (runV_rxa (As := [.int v0]) (rest := []) S (q_XkitchenAt l D cI cB cZ zz qq vv bt g ad cn In Fn v0 hB) kV_RX11_114 hK hXS hS hP 0 xo_0 rfl rfl ⟨Nat.le_of_ble_eq_true rfl, Nat.le_of_ble_eq_true rfl⟩ ⟨Nat.le_of_ble_eq_true rfl, Nat.le_of_ble_eq_true rfl⟩ rfl hl.1 rfl (Nat.le_of_ble_eq_true rfl) (oc_182 8 (aq_8 shX11_asIf_0) uw_0_114)) (fun r_7 h_8 => ?_)
    rcases h_8 with ⟨mr_7, er_7, hr_7, rfl⟩ | ⟨hr_7, rfl⟩
    ·
      refine lv_ifnull hx hb dX11_asIf_11 ?_
      refine lv_aload_nN hx hb (oc_45 14 (aq_14 shX11_asIf_0)) rfl (lvA0 hl) ?_
      refine lv_ifnonnullN hx hb (oc_199 15 (aq_15 shX11_asIf_0) sgw_0_7) ?_
      refine lv_iconst (v := (-1)) hx hb (oc_2 18 (aq_18 shX11_asIf_0)) kic_m1 ?_
      refine lv_goto (tgt := 34) hx hb (oc_167 19 (aq_19 shX11_asIf_0) sgw_0_15) rfl ?_
      exact W.iret (v := (-1)) hx hb hr (fun t ht hW => ⟨⟨(-1), (cn, In, Fn), rfl, ⟨(Fr.mo Fr.rf (sbl rfl) (sbl rfl) (sbl rfl)), hB, trivial⟩, by rw [ht]; exact hP, hD⟩, hS.F ht⟩) hS.2.2 dX11_asIf_34
    ·
      refine lv_ifnullN (tgt := 18) hx hb dX11_asIf_11 rfl ?_
      refine lv_iconst (v := (-1)) hx hb (oc_2 18 (aq_18 shX11_asIf_0)) kic_m1 ?_
      refine lv_goto (tgt := 34) hx hb (oc_167 19 (aq_19 shX11_asIf_0) sgw_0_15) rfl ?_
      exact W.iret (v := (-1)) hx hb hr (fun t ht hW => ⟨⟨(-1), (cn, In, Fn), rfl, ⟨(Fr.mo Fr.rf (sbl rfl) (sbl rfl) (sbl rfl)), hB, trivial⟩, by rw [ht]; exact hP, hD⟩, hS.F ht⟩) hS.2.2 dX11_asIf_34
