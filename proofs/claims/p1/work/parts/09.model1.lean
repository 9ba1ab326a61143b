/-- the reference's fields, taped (18) told apart -/
def oMt (g : Nat → Nat) (t : Int32) : List Value := [.int 0, .int 0, .int 0, .ref (g 3), .ref (g 4), .ref (g 5), .ref (g 6), .ref (g 7), .ref (g 8), .ref (g 9), .ref (g 10), .ref (g 11), .ref (g 12), .ref (g 13), .ref (g 14), .ref (g 15), .ref (g 16), .ref (g 17), .int t, .int 0, .int 0, .int 0, .int 0, .int 0, .int 0, .int 0, .int 0, .ref (g 27), .ref (g 28), .ref (g 29), .ref (g 30), .ref (g 31), .ref (g 32), .ref (g 33), .ref (g 34), .ref (g 35), .ref (g 36), .ref (g 37), .ref (g 38), .ref (g 39), .ref (g 40), .ref (g 41), .ref (g 42), .ref (g 43), .int 0, .int 0, .int 0, .ref (g 47), .ref (g 48), .ref (g 49), .ref (g 50), .ref (g 51), .ref (g 52), .ref (g 53), .int 0, .int 0, .int 0, .int 0, .int 0, .ref (g 59), .ref (g 60), .ref (g 61), .int 0, .int 0, .ref (g 64), .ref (g 65), .ref (g 66), .ref (g 67), .ref (g 68), .ref (g 69), .ref (g 70), .int 0, .int 0, .int 0, .ref (g 74), .int 0, .ref (g 76), .ref (g 77), .ref (g 78), .ref (g 79), .ref (g 80), .ref (g 81), .ref (g 82), .int 0, .ref (g 84), .ref (g 85), .ref (g 86), .ref (g 87), .ref (g 88), .ref (g 89), .ref (g 90)]
def oM (g : Nat → Nat) : List Value := oMt g 0
theorem idx58b {x y : Int32} (hx : 0 ≤ x.toInt ∧ x.toInt ≤ 3) (hy : 0 ≤ y.toInt ∧ y.toInt ≤ 57) : ((58 * x) + y).toInt = x.toInt * 58 + y.toInt := by
  rw [Int32.mul_comm]; exact idx58 hx hy
theorem rem24 {a b : Nat} (h : a + b < 2 ^ 31) : (nI a + nI b) - (nI a + nI b) / 24 * 24 = nI ((a + b) % 24) := by
  rw [nI_add]; exact pk_rem (d := 24) h (by decide) (by decide)
theorem sh_amt : ∀ i : Nat, i < 32 → ((nI i &&& 31).toBitVec.smod 32).toNat = i := by decide
theorem bitq {n i : Nat} (hn : n < 2 ^ 31) (hi : i < 32) : (nI n >>> (nI i &&& 31)) &&& 1 = nI (n / 2 ^ i % 2) := by
  rw [pk_shrN hn _ i (sh_amt i hi)]
  exact pk_andN (n := n / 2 ^ i) (Nat.lt_of_le_of_lt (Nat.div_le_self _ _) (by omega)) 1 (by decide)
theorem bit_step {n i : Nat} (h : n % 2 ^ i = 0) (q : n / 2 ^ i % 2 = 0) : n % 2 ^ (i + 1) = 0 := by
  rw [Nat.pow_succ, Nat.mod_mul, h, q]; rfl
theorem bit_dead {n i : Nat} (h : n % 2 ^ i = 0) (h1 : 1 ≤ n) (h2 : n < 1048576) (hi : 20 ≤ i) (hi2 : i ≤ 20) : False := by
  obtain rfl : i = 20 := by omega
  have e : n % 2 ^ 20 = n := Nat.mod_eq_of_lt (by omega)
  omega

set_option maxRecDepth 100000 in
theorem hin_RX12 : ∀ w ∈ u_ws RX12 TX12 91, w ∈ wT := by decide +kernel
set_option maxRecDepth 100000 in
theorem gf_RX12_204 {p : Program} {l : Launch} {e : Env} {R : Room} {s : State} {m : MethodId} {args : Array Value} {below : List Frame} {meth : Method} {c : Code} {H : Heap} {locs : List Loc} {cells slots : Nat} {Q : State → Prop} {cc : ByteArray} {nL pc : Nat} {D : va_G} {cI cB cZ : ClassId} {ws : va_W} {rest : List Value} {ls : Array Slot} {a : Nat} {fs : List Value} {v : Value} (S : SF p m c cc nL s args RX12) (hK : KK D cI cB cZ s) (hP : va_P D vwCl ws H) (q0 : Nat) (he : ws[q0]? = some (a, .inr (13, fs))) (hv : fs[1]? = some v) (hdg : decode cc pc = .ok (.getfield 204, 3)) (kk : W p l e R s m args below meth c H locs cells slots Q (F0 m (pc + 3) ls (v :: rest))) : W p l e R s m args below meth c H locs cells slots Q (F0 m pc ls (.ref a :: rest)) :=
  va_get (C := RX12) (T := TX12) (N := 91) S.1 S.2.1 S.2.2.2.2 hin_RX12 S.2.2.2.1 hK.1 hP q0 he rfl 1 (by decide) (S.2.2.2.2 _ (wT_tab 1314 rfl rfl)) (fun _ h9 => h9) hv hdg kk
set_option maxRecDepth 100000 in
theorem gf_RX12_208 {p : Program} {l : Launch} {e : Env} {R : Room} {s : State} {m : MethodId} {args : Array Value} {below : List Frame} {meth : Method} {c : Code} {H : Heap} {locs : List Loc} {cells slots : Nat} {Q : State → Prop} {cc : ByteArray} {nL pc : Nat} {D : va_G} {cI cB cZ : ClassId} {ws : va_W} {rest : List Value} {ls : Array Slot} {a : Nat} {fs : List Value} {v : Value} (S : SF p m c cc nL s args RX12) (hK : KK D cI cB cZ s) (hP : va_P D vwCl ws H) (q0 : Nat) (he : ws[q0]? = some (a, .inr (13, fs))) (hv : fs[2]? = some v) (hdg : decode cc pc = .ok (.getfield 208, 3)) (kk : W p l e R s m args below meth c H locs cells slots Q (F0 m (pc + 3) ls (v :: rest))) : W p l e R s m args below meth c H locs cells slots Q (F0 m pc ls (.ref a :: rest)) :=
  va_get (C := RX12) (T := TX12) (N := 91) S.1 S.2.1 S.2.2.2.2 hin_RX12 S.2.2.2.1 hK.1 hP q0 he rfl 2 (by decide) (S.2.2.2.2 _ (wT_tab 1315 rfl rfl)) (fun _ h9 => h9) hv hdg kk
set_option maxRecDepth 100000 in
theorem gf_RX12_435 {p : Program} {l : Launch} {e : Env} {R : Room} {s : State} {m : MethodId} {args : Array Value} {below : List Frame} {meth : Method} {c : Code} {H : Heap} {locs : List Loc} {cells slots : Nat} {Q : State → Prop} {cc : ByteArray} {nL pc : Nat} {D : va_G} {cI cB cZ : ClassId} {ws : va_W} {rest : List Value} {ls : Array Slot} {a : Nat} {fs : List Value} {v : Value} (S : SF p m c cc nL s args RX12) (hK : KK D cI cB cZ s) (hP : va_P D vwCl ws H) (q0 : Nat) (he : ws[q0]? = some (a, .inr (13, fs))) (hv : fs[62]? = some v) (hdg : decode cc pc = .ok (.getfield 435, 3)) (kk : W p l e R s m args below meth c H locs cells slots Q (F0 m (pc + 3) ls (v :: rest))) : W p l e R s m args below meth c H locs cells slots Q (F0 m pc ls (.ref a :: rest)) :=
  va_get (C := RX12) (T := TX12) (N := 91) S.1 S.2.1 S.2.2.2.2 hin_RX12 S.2.2.2.1 hK.1 hP q0 he rfl 62 (by decide) (S.2.2.2.2 _ (wT_tab 1375 rfl rfl)) (fun _ h9 => h9) hv hdg kk
set_option maxRecDepth 100000 in
theorem gf_RX12_447 {p : Program} {l : Launch} {e : Env} {R : Room} {s : State} {m : MethodId} {args : Array Value} {below : List Frame} {meth : Method} {c : Code} {H : Heap} {locs : List Loc} {cells slots : Nat} {Q : State → Prop} {cc : ByteArray} {nL pc : Nat} {D : va_G} {cI cB cZ : ClassId} {ws : va_W} {rest : List Value} {ls : Array Slot} {a : Nat} {fs : List Value} {v : Value} (S : SF p m c cc nL s args RX12) (hK : KK D cI cB cZ s) (hP : va_P D vwCl ws H) (q0 : Nat) (he : ws[q0]? = some (a, .inr (13, fs))) (hv : fs[63]? = some v) (hdg : decode cc pc = .ok (.getfield 447, 3)) (kk : W p l e R s m args below meth c H locs cells slots Q (F0 m (pc + 3) ls (v :: rest))) : W p l e R s m args below meth c H locs cells slots Q (F0 m pc ls (.ref a :: rest)) :=
  va_get (C := RX12) (T := TX12) (N := 91) S.1 S.2.1 S.2.2.2.2 hin_RX12 S.2.2.2.1 hK.1 hP q0 he rfl 63 (by decide) (S.2.2.2.2 _ (wT_tab 1376 rfl rfl)) (fun _ h9 => h9) hv hdg kk
set_option maxRecDepth 100000 in
theorem gf_RX12_407 {p : Program} {l : Launch} {e : Env} {R : Room} {s : State} {m : MethodId} {args : Array Value} {below : List Frame} {meth : Method} {c : Code} {H : Heap} {locs : List Loc} {cells slots : Nat} {Q : State → Prop} {cc : ByteArray} {nL pc : Nat} {D : va_G} {cI cB cZ : ClassId} {ws : va_W} {rest : List Value} {ls : Array Slot} {a : Nat} {fs : List Value} {v : Value} (S : SF p m c cc nL s args RX12) (hK : KK D cI cB cZ s) (hP : va_P D vwCl ws H) (q0 : Nat) (he : ws[q0]? = some (a, .inr (13, fs))) (hv : fs[57]? = some v) (hdg : decode cc pc = .ok (.getfield 407, 3)) (kk : W p l e R s m args below meth c H locs cells slots Q (F0 m (pc + 3) ls (v :: rest))) : W p l e R s m args below meth c H locs cells slots Q (F0 m pc ls (.ref a :: rest)) :=
  va_get (C := RX12) (T := TX12) (N := 91) S.1 S.2.1 S.2.2.2.2 hin_RX12 S.2.2.2.1 hK.1 hP q0 he rfl 57 (by decide) (S.2.2.2.2 _ (wT_tab 1370 rfl rfl)) (fun _ h9 => h9) hv hdg kk
set_option maxRecDepth 100000 in
theorem kV_RX12_335 : CalV RX12 335 yX12_isLoad cX12_isLoad 2 (some .boolean) 1 := ⟨⟨wT_tab 1722 rfl rfl, wT_tab 1724 rfl rfl, wT_sel 89 _ rfl rfl rfl, wT_tab 13 rfl rfl, wT_tab 1725 rfl rfl⟩, ⟨by decide, by decide, by decide +kernel⟩⟩
set_option maxRecDepth 100000 in
theorem kS_RX12_344 : CalS RX12 344 yX12_choose cX12_choose 5 (some .long) 2 := ⟨⟨wT_tab 1766 rfl rfl, wT_tab 1767 rfl rfl, wT_tab 13 rfl rfl, wT_tab 1768 rfl rfl⟩, ⟨by decide, by decide, by decide +kernel⟩⟩
set_option maxRecDepth 100000 in
theorem gf_RX12_211 {p : Program} {l : Launch} {e : Env} {R : Room} {s : State} {m : MethodId} {args : Array Value} {below : List Frame} {meth : Method} {c : Code} {H : Heap} {locs : List Loc} {cells slots : Nat} {Q : State → Prop} {cc : ByteArray} {nL pc : Nat} {D : va_G} {cI cB cZ : ClassId} {ws : va_W} {rest : List Value} {ls : Array Slot} {a : Nat} {fs : List Value} {v : Value} (S : SF p m c cc nL s args RX12) (hK : KK D cI cB cZ s) (hP : va_P D vwCl ws H) (q0 : Nat) (he : ws[q0]? = some (a, .inr (13, fs))) (hv : fs[0]? = some v) (hdg : decode cc pc = .ok (.getfield 211, 3)) (kk : W p l e R s m args below meth c H locs cells slots Q (F0 m (pc + 3) ls (v :: rest))) : W p l e R s m args below meth c H locs cells slots Q (F0 m pc ls (.ref a :: rest)) :=
  va_get (C := RX12) (T := TX12) (N := 91) S.1 S.2.1 S.2.2.2.2 hin_RX12 S.2.2.2.1 hK.1 hP q0 he rfl 0 (by decide) (S.2.2.2.2 _ (wT_tab 1313 rfl rfl)) (fun _ h9 => h9) hv hdg kk
set_option maxRecDepth 100000 in
theorem kS_RX12_214 : CalS RX12 214 yX12_in cX12_in 3 (some .boolean) 3 := ⟨⟨wT_tab 1592 rfl rfl, wT_tab 1593 rfl rfl, wT_tab 13 rfl rfl, wT_tab 1594 rfl rfl⟩, ⟨by decide, by decide, by decide +kernel⟩⟩
set_option maxRecDepth 100000 in
theorem pf_RX12_211 {p : Program} {l : Launch} {e : Env} {R : Room} {s : State} {m : MethodId} {args : Array Value} {below : List Frame} {meth : Method} {c : Code} {H : Heap} {locs : List Loc} {cells slots : Nat} {Q : State → Prop} {cc : ByteArray} {nL pc : Nat} {D : va_G} {cI cB cZ : ClassId} {ws : va_W} {rest : List Value} {ls : Array Slot} {a : Nat} {fs : List Value} {v : Value} {A : Nat → Prop} {H0 : Heap} (S : SF p m c cc nL s args RX12) (hK : KK D cI cB cZ s) (hP : va_P D vwCl ws H) (hD : va_D A ws) (hS : va_S A H0 H locs) (q0 : Nat) (he : ws[q0]? = some (a, .inr (13, fs))) (hl : 0 < fs.length) (hn : narrow (tyX12 0) v = v) (hfit : fits (tyX12 0) v = true) (hdg : decode cc pc = .ok (.putfield 211, 3)) (kk : ∀ (H1 : Heap) (locs1 : List Loc), va_P D vwCl (ws.set q0 (a, .inr (13, fs.set 0 v))) H1 → va_D A (ws.set q0 (a, .inr (13, fs.set 0 v))) → va_S A H0 H1 locs1 → W p l e R s m args below meth c H1 locs1 cells slots Q (F0 m (pc + 3) ls rest)) : W p l e R s m args below meth c H locs cells slots Q (F0 m pc ls (v :: .ref a :: rest)) :=
  va_put (C := RX12) (T := TX12) (N := 91) S.1 S.2.1 S.2.2.2.2 hin_RX12 tyX12 tyX12_ok nmX12 S.2.2.2.1 hK.1 hP hD hS q0 he rfl 0 (by decide) (S.2.2.2.2 _ (wT_tab 1313 rfl rfl)) (fun _ h9 => h9) rfl (tyX12_ok 0 (by decide)) hn hfit hl hdg kk
set_option maxRecDepth 100000 in
theorem gf_RX12_7 {p : Program} {l : Launch} {e : Env} {R : Room} {s : State} {m : MethodId} {args : Array Value} {below : List Frame} {meth : Method} {c : Code} {H : Heap} {locs : List Loc} {cells slots : Nat} {Q : State → Prop} {cc : ByteArray} {nL pc : Nat} {D : va_G} {cI cB cZ : ClassId} {ws : va_W} {rest : List Value} {ls : Array Slot} {a : Nat} {fs : List Value} {v : Value} (S : SF p m c cc nL s args RX12) (hK : KK D cI cB cZ s) (hP : va_P D vwCl ws H) (q0 : Nat) (he : ws[q0]? = some (a, .inr (13, fs))) (hv : fs[3]? = some v) (hdg : decode cc pc = .ok (.getfield 7, 3)) (kk : W p l e R s m args below meth c H locs cells slots Q (F0 m (pc + 3) ls (v :: rest))) : W p l e R s m args below meth c H locs cells slots Q (F0 m pc ls (.ref a :: rest)) :=
  va_get (C := RX12) (T := TX12) (N := 91) S.1 S.2.1 S.2.2.2.2 hin_RX12 S.2.2.2.1 hK.1 hP q0 he rfl 3 (by decide) (S.2.2.2.2 _ (wT_tab 1316 rfl rfl)) (fun _ h9 => h9) hv hdg kk
set_option maxRecDepth 100000 in
theorem gf_RX12_13 {p : Program} {l : Launch} {e : Env} {R : Room} {s : State} {m : MethodId} {args : Array Value} {below : List Frame} {meth : Method} {c : Code} {H : Heap} {locs : List Loc} {cells slots : Nat} {Q : State → Prop} {cc : ByteArray} {nL pc : Nat} {D : va_G} {cI cB cZ : ClassId} {ws : va_W} {rest : List Value} {ls : Array Slot} {a : Nat} {fs : List Value} {v : Value} (S : SF p m c cc nL s args RX12) (hK : KK D cI cB cZ s) (hP : va_P D vwCl ws H) (q0 : Nat) (he : ws[q0]? = some (a, .inr (13, fs))) (hv : fs[4]? = some v) (hdg : decode cc pc = .ok (.getfield 13, 3)) (kk : W p l e R s m args below meth c H locs cells slots Q (F0 m (pc + 3) ls (v :: rest))) : W p l e R s m args below meth c H locs cells slots Q (F0 m pc ls (.ref a :: rest)) :=
  va_get (C := RX12) (T := TX12) (N := 91) S.1 S.2.1 S.2.2.2.2 hin_RX12 S.2.2.2.1 hK.1 hP q0 he rfl 4 (by decide) (S.2.2.2.2 _ (wT_tab 1317 rfl rfl)) (fun _ h9 => h9) hv hdg kk
set_option maxRecDepth 100000 in
theorem gf_RX12_16 {p : Program} {l : Launch} {e : Env} {R : Room} {s : State} {m : MethodId} {args : Array Value} {below : List Frame} {meth : Method} {c : Code} {H : Heap} {locs : List Loc} {cells slots : Nat} {Q : State → Prop} {cc : ByteArray} {nL pc : Nat} {D : va_G} {cI cB cZ : ClassId} {ws : va_W} {rest : List Value} {ls : Array Slot} {a : Nat} {fs : List Value} {v : Value} (S : SF p m c cc nL s args RX12) (hK : KK D cI cB cZ s) (hP : va_P D vwCl ws H) (q0 : Nat) (he : ws[q0]? = some (a, .inr (13, fs))) (hv : fs[5]? = some v) (hdg : decode cc pc = .ok (.getfield 16, 3)) (kk : W p l e R s m args below meth c H locs cells slots Q (F0 m (pc + 3) ls (v :: rest))) : W p l e R s m args below meth c H locs cells slots Q (F0 m pc ls (.ref a :: rest)) :=
  va_get (C := RX12) (T := TX12) (N := 91) S.1 S.2.1 S.2.2.2.2 hin_RX12 S.2.2.2.1 hK.1 hP q0 he rfl 5 (by decide) (S.2.2.2.2 _ (wT_tab 1318 rfl rfl)) (fun _ h9 => h9) hv hdg kk
set_option maxRecDepth 100000 in
theorem gf_RX12_19 {p : Program} {l : Launch} {e : Env} {R : Room} {s : State} {m : MethodId} {args : Array Value} {below : List Frame} {meth : Method} {c : Code} {H : Heap} {locs : List Loc} {cells slots : Nat} {Q : State → Prop} {cc : ByteArray} {nL pc : Nat} {D : va_G} {cI cB cZ : ClassId} {ws : va_W} {rest : List Value} {ls : Array Slot} {a : Nat} {fs : List Value} {v : Value} (S : SF p m c cc nL s args RX12) (hK : KK D cI cB cZ s) (hP : va_P D vwCl ws H) (q0 : Nat) (he : ws[q0]? = some (a, .inr (13, fs))) (hv : fs[6]? = some v) (hdg : decode cc pc = .ok (.getfield 19, 3)) (kk : W p l e R s m args below meth c H locs cells slots Q (F0 m (pc + 3) ls (v :: rest))) : W p l e R s m args below meth c H locs cells slots Q (F0 m pc ls (.ref a :: rest)) :=
  va_get (C := RX12) (T := TX12) (N := 91) S.1 S.2.1 S.2.2.2.2 hin_RX12 S.2.2.2.1 hK.1 hP q0 he rfl 6 (by decide) (S.2.2.2.2 _ (wT_tab 1319 rfl rfl)) (fun _ h9 => h9) hv hdg kk
set_option maxRecDepth 100000 in
theorem pf_RX12_204 {p : Program} {l : Launch} {e : Env} {R : Room} {s : State} {m : MethodId} {args : Array Value} {below : List Frame} {meth : Method} {c : Code} {H : Heap} {locs : List Loc} {cells slots : Nat} {Q : State → Prop} {cc : ByteArray} {nL pc : Nat} {D : va_G} {cI cB cZ : ClassId} {ws : va_W} {rest : List Value} {ls : Array Slot} {a : Nat} {fs : List Value} {v : Value} {A : Nat → Prop} {H0 : Heap} (S : SF p m c cc nL s args RX12) (hK : KK D cI cB cZ s) (hP : va_P D vwCl ws H) (hD : va_D A ws) (hS : va_S A H0 H locs) (q0 : Nat) (he : ws[q0]? = some (a, .inr (13, fs))) (hl : 1 < fs.length) (hn : narrow (tyX12 1) v = v) (hfit : fits (tyX12 1) v = true) (hdg : decode cc pc = .ok (.putfield 204, 3)) (kk : ∀ (H1 : Heap) (locs1 : List Loc), va_P D vwCl (ws.set q0 (a, .inr (13, fs.set 1 v))) H1 → va_D A (ws.set q0 (a, .inr (13, fs.set 1 v))) → va_S A H0 H1 locs1 → W p l e R s m args below meth c H1 locs1 cells slots Q (F0 m (pc + 3) ls rest)) : W p l e R s m args below meth c H locs cells slots Q (F0 m pc ls (v :: .ref a :: rest)) :=
  va_put (C := RX12) (T := TX12) (N := 91) S.1 S.2.1 S.2.2.2.2 hin_RX12 tyX12 tyX12_ok nmX12 S.2.2.2.1 hK.1 hP hD hS q0 he rfl 1 (by decide) (S.2.2.2.2 _ (wT_tab 1314 rfl rfl)) (fun _ h9 => h9) rfl (tyX12_ok 1 (by decide)) hn hfit hl hdg kk
set_option maxRecDepth 100000 in
theorem kV_RX12_218 : CalV RX12 218 yX12_isKitchen cX12_isKitchen 2 (some .boolean) 1 := ⟨⟨wT_tab 1603 rfl rfl, wT_tab 1605 rfl rfl, wT_sel 67 _ rfl rfl rfl, wT_tab 13 rfl rfl, wT_tab 1606 rfl rfl⟩, ⟨by decide, by decide, by decide +kernel⟩⟩
set_option maxRecDepth 100000 in
theorem kV_RX12_450 : CalV RX12 450 yX12_isBatch cX12_isBatch 2 (some .boolean) 1 := ⟨⟨wT_tab 1901 rfl rfl, wT_tab 1903 rfl rfl, wT_sel 108 _ rfl rfl rfl, wT_tab 13 rfl rfl, wT_tab 1904 rfl rfl⟩, ⟨by decide, by decide, by decide +kernel⟩⟩
set_option maxRecDepth 100000 in
theorem kV_RX12_459 : CalV RX12 459 yX12_isProof cX12_isProof 2 (some .boolean) 1 := ⟨⟨wT_tab 1941 rfl rfl, wT_tab 1943 rfl rfl, wT_sel 112 _ rfl rfl rfl, wT_tab 13 rfl rfl, wT_tab 1944 rfl rfl⟩, ⟨by decide, by decide, by decide +kernel⟩⟩
set_option maxRecDepth 100000 in
theorem gf_RX12_478 {p : Program} {l : Launch} {e : Env} {R : Room} {s : State} {m : MethodId} {args : Array Value} {below : List Frame} {meth : Method} {c : Code} {H : Heap} {locs : List Loc} {cells slots : Nat} {Q : State → Prop} {cc : ByteArray} {nL pc : Nat} {D : va_G} {cI cB cZ : ClassId} {ws : va_W} {rest : List Value} {ls : Array Slot} {a : Nat} {fs : List Value} {v : Value} (S : SF p m c cc nL s args RX12) (hK : KK D cI cB cZ s) (hP : va_P D vwCl ws H) (q0 : Nat) (he : ws[q0]? = some (a, .inr (13, fs))) (hv : fs[83]? = some v) (hdg : decode cc pc = .ok (.getfield 478, 3)) (kk : W p l e R s m args below meth c H locs cells slots Q (F0 m (pc + 3) ls (v :: rest))) : W p l e R s m args below meth c H locs cells slots Q (F0 m pc ls (.ref a :: rest)) :=
  va_get (C := RX12) (T := TX12) (N := 91) S.1 S.2.1 S.2.2.2.2 hin_RX12 S.2.2.2.1 hK.1 hP q0 he rfl 83 (by decide) (S.2.2.2.2 _ (wT_tab 1396 rfl rfl)) (fun _ h9 => h9) hv hdg kk
set_option maxRecDepth 100000 in
theorem kV_RX12_413 : CalV RX12 413 yX12_isDrum cX12_isDrum 2 (some .boolean) 1 := ⟨⟨wT_tab 1857 rfl rfl, wT_tab 1859 rfl rfl, wT_sel 103 _ rfl rfl rfl, wT_tab 13 rfl rfl, wT_tab 1860 rfl rfl⟩, ⟨by decide, by decide, by decide +kernel⟩⟩
set_option maxRecDepth 100000 in
theorem gf_RX12_226 {p : Program} {l : Launch} {e : Env} {R : Room} {s : State} {m : MethodId} {args : Array Value} {below : List Frame} {meth : Method} {c : Code} {H : Heap} {locs : List Loc} {cells slots : Nat} {Q : State → Prop} {cc : ByteArray} {nL pc : Nat} {D : va_G} {cI cB cZ : ClassId} {ws : va_W} {rest : List Value} {ls : Array Slot} {a : Nat} {fs : List Value} {v : Value} (S : SF p m c cc nL s args RX12) (hK : KK D cI cB cZ s) (hP : va_P D vwCl ws H) (q0 : Nat) (he : ws[q0]? = some (a, .inr (13, fs))) (hv : fs[18]? = some v) (hdg : decode cc pc = .ok (.getfield 226, 3)) (kk : W p l e R s m args below meth c H locs cells slots Q (F0 m (pc + 3) ls (v :: rest))) : W p l e R s m args below meth c H locs cells slots Q (F0 m pc ls (.ref a :: rest)) :=
  va_get (C := RX12) (T := TX12) (N := 91) S.1 S.2.1 S.2.2.2.2 hin_RX12 S.2.2.2.1 hK.1 hP q0 he rfl 18 (by decide) (S.2.2.2.2 _ (wT_tab 1331 rfl rfl)) (fun _ h9 => h9) hv hdg kk
set_option maxRecDepth 100000 in
theorem gf_RX12_386 {p : Program} {l : Launch} {e : Env} {R : Room} {s : State} {m : MethodId} {args : Array Value} {below : List Frame} {meth : Method} {c : Code} {H : Heap} {locs : List Loc} {cells slots : Nat} {Q : State → Prop} {cc : ByteArray} {nL pc : Nat} {D : va_G} {cI cB cZ : ClassId} {ws : va_W} {rest : List Value} {ls : Array Slot} {a : Nat} {fs : List Value} {v : Value} (S : SF p m c cc nL s args RX12) (hK : KK D cI cB cZ s) (hP : va_P D vwCl ws H) (q0 : Nat) (he : ws[q0]? = some (a, .inr (13, fs))) (hv : fs[46]? = some v) (hdg : decode cc pc = .ok (.getfield 386, 3)) (kk : W p l e R s m args below meth c H locs cells slots Q (F0 m (pc + 3) ls (v :: rest))) : W p l e R s m args below meth c H locs cells slots Q (F0 m pc ls (.ref a :: rest)) :=
  va_get (C := RX12) (T := TX12) (N := 91) S.1 S.2.1 S.2.2.2.2 hin_RX12 S.2.2.2.1 hK.1 hP q0 he rfl 46 (by decide) (S.2.2.2.2 _ (wT_tab 1359 rfl rfl)) (fun _ h9 => h9) hv hdg kk
theorem dX12_in_0 : decode cX12_in 0 = .ok (.iload_n 0, 1) := by decide +kernel
theorem dX12_in_1 : decode cX12_in 1 = .ok (.iload_n 1, 1) := by decide +kernel
theorem dX12_in_2 : decode cX12_in 2 = .ok (.if_icmp .lt 12, 3) := by decide +kernel
theorem dX12_in_14 : decode cX12_in 14 = .ok (.iconst 0, 1) := by decide +kernel
theorem dX12_in_15 : decode cX12_in 15 = .ok (.ireturn, 1) := by decide +kernel
theorem dX12_in_5 : decode cX12_in 5 = .ok (.iload_n 0, 1) := by decide +kernel
theorem dX12_in_6 : decode cX12_in 6 = .ok (.iload_n 2, 1) := by decide +kernel
theorem dX12_in_7 : decode cX12_in 7 = .ok (.if_icmp .gt 7, 3) := by decide +kernel
theorem dX12_in_10 : decode cX12_in 10 = .ok (.iconst 1, 1) := by decide +kernel
theorem dX12_in_11 : decode cX12_in 11 = .ok (.goto 4, 3) := by decide +kernel
theorem dX12_isDay_0 : decode cX12_isDay 0 = .ok (.iload_n 0, 1) := by decide +kernel
theorem dX12_isDay_1 : decode cX12_isDay 1 = .ok (.ifCond .lt 14, 3) := by decide +kernel
theorem dX12_isDay_15 : decode cX12_isDay 15 = .ok (.iconst 0, 1) := by decide +kernel
theorem dX12_isDay_16 : decode cX12_isDay 16 = .ok (.ireturn, 1) := by decide +kernel
theorem dX12_isDay_4 : decode cX12_isDay 4 = .ok (.iload_n 0, 1) := by decide +kernel
theorem dX12_isDay_5 : decode cX12_isDay 5 = .ok (.sipush 399, 3) := by decide +kernel
theorem dX12_isDay_8 : decode cX12_isDay 8 = .ok (.if_icmp .gt 7, 3) := by decide +kernel
theorem dX12_isDay_11 : decode cX12_isDay 11 = .ok (.iconst 1, 1) := by decide +kernel
theorem dX12_isDay_12 : decode cX12_isDay 12 = .ok (.goto 4, 3) := by decide +kernel
theorem dX12_isKitchen_0 : decode cX12_isKitchen 0 = .ok (.iload_n 1, 1) := by decide +kernel
theorem dX12_isKitchen_1 : decode cX12_isKitchen 1 = .ok (.ifCond .lt 15, 3) := by decide +kernel
theorem dX12_isKitchen_16 : decode cX12_isKitchen 16 = .ok (.iconst 0, 1) := by decide +kernel
theorem dX12_isKitchen_17 : decode cX12_isKitchen 17 = .ok (.ireturn, 1) := by decide +kernel
theorem dX12_isKitchen_4 : decode cX12_isKitchen 4 = .ok (.iload_n 1, 1) := by decide +kernel
theorem dX12_isKitchen_5 : decode cX12_isKitchen 5 = .ok (.aload_n 0, 1) := by decide +kernel
theorem dX12_isKitchen_6 : decode cX12_isKitchen 6 = .ok (.getfield 204, 3) := by decide +kernel
theorem dX12_isKitchen_9 : decode cX12_isKitchen 9 = .ok (.if_icmp .ge 7, 3) := by decide +kernel
theorem dX12_isLoad_0 : decode cX12_isLoad 0 = .ok (.iload_n 1, 1) := by decide +kernel
theorem dX12_isLoad_1 : decode cX12_isLoad 1 = .ok (.ifCond .lt 15, 3) := by decide +kernel
theorem dX12_isLoad_16 : decode cX12_isLoad 16 = .ok (.iconst 0, 1) := by decide +kernel
theorem dX12_isLoad_17 : decode cX12_isLoad 17 = .ok (.ireturn, 1) := by decide +kernel
theorem dX12_isLoad_4 : decode cX12_isLoad 4 = .ok (.iload_n 1, 1) := by decide +kernel
theorem dX12_isLoad_5 : decode cX12_isLoad 5 = .ok (.aload_n 0, 1) := by decide +kernel
theorem dX12_isLoad_6 : decode cX12_isLoad 6 = .ok (.getfield 208, 3) := by decide +kernel
theorem dX12_isLoad_9 : decode cX12_isLoad 9 = .ok (.if_icmp .ge 7, 3) := by decide +kernel
theorem dX12_isBatch_0 : decode cX12_isBatch 0 = .ok (.iload_n 1, 1) := by decide +kernel
theorem dX12_isBatch_1 : decode cX12_isBatch 1 = .ok (.ifCond .lt 15, 3) := by decide +kernel
theorem dX12_isBatch_16 : decode cX12_isBatch 16 = .ok (.iconst 0, 1) := by decide +kernel
theorem dX12_isBatch_17 : decode cX12_isBatch 17 = .ok (.ireturn, 1) := by decide +kernel
theorem dX12_isBatch_4 : decode cX12_isBatch 4 = .ok (.iload_n 1, 1) := by decide +kernel
theorem dX12_isBatch_5 : decode cX12_isBatch 5 = .ok (.aload_n 0, 1) := by decide +kernel
theorem dX12_isBatch_6 : decode cX12_isBatch 6 = .ok (.getfield 435, 3) := by decide +kernel
theorem dX12_isBatch_9 : decode cX12_isBatch 9 = .ok (.if_icmp .ge 7, 3) := by decide +kernel
theorem dX12_isProof_0 : decode cX12_isProof 0 = .ok (.iload_n 1, 1) := by decide +kernel
theorem dX12_isProof_1 : decode cX12_isProof 1 = .ok (.ifCond .lt 15, 3) := by decide +kernel
theorem dX12_isProof_16 : decode cX12_isProof 16 = .ok (.iconst 0, 1) := by decide +kernel
theorem dX12_isProof_17 : decode cX12_isProof 17 = .ok (.ireturn, 1) := by decide +kernel
theorem dX12_isProof_4 : decode cX12_isProof 4 = .ok (.iload_n 1, 1) := by decide +kernel
theorem dX12_isProof_5 : decode cX12_isProof 5 = .ok (.aload_n 0, 1) := by decide +kernel
theorem dX12_isProof_6 : decode cX12_isProof 6 = .ok (.getfield 447, 3) := by decide +kernel
theorem dX12_isProof_9 : decode cX12_isProof 9 = .ok (.if_icmp .ge 7, 3) := by decide +kernel
theorem dX12_isDrum_0 : decode cX12_isDrum 0 = .ok (.iload_n 1, 1) := by decide +kernel
theorem dX12_isDrum_1 : decode cX12_isDrum 1 = .ok (.ifCond .lt 15, 3) := by decide +kernel
theorem dX12_isDrum_16 : decode cX12_isDrum 16 = .ok (.iconst 0, 1) := by decide +kernel
theorem dX12_isDrum_17 : decode cX12_isDrum 17 = .ok (.ireturn, 1) := by decide +kernel
theorem dX12_isDrum_4 : decode cX12_isDrum 4 = .ok (.iload_n 1, 1) := by decide +kernel
theorem dX12_isDrum_5 : decode cX12_isDrum 5 = .ok (.aload_n 0, 1) := by decide +kernel
theorem dX12_isDrum_6 : decode cX12_isDrum 6 = .ok (.getfield 407, 3) := by decide +kernel
theorem dX12_isDrum_9 : decode cX12_isDrum 9 = .ok (.if_icmp .ge 7, 3) := by decide +kernel
theorem dX12_isFree_0 : decode cX12_isFree 0 = .ok (.aload_n 0, 1) := by decide +kernel
theorem dX12_isFree_1 : decode cX12_isFree 1 = .ok (.iload_n 1, 1) := by decide +kernel
theorem dX12_isFree_2 : decode cX12_isFree 2 = .ok (.invokevirtual 335, 3) := by decide +kernel
theorem dX12_isFree_5 : decode cX12_isFree 5 = .ok (.ifCond .eq 30, 3) := by decide +kernel
theorem dX12_isFree_35 : decode cX12_isFree 35 = .ok (.iconst 0, 1) := by decide +kernel
theorem dX12_isFree_36 : decode cX12_isFree 36 = .ok (.ireturn, 1) := by decide +kernel
theorem dX12_choose_0 : decode cX12_choose 0 = .ok (.iload_n 1, 1) := by decide +kernel
theorem dX12_choose_1 : decode cX12_choose 1 = .ok (.ifCond .lt 8, 3) := by decide +kernel
theorem dX12_choose_4 : decode cX12_choose 4 = .ok (.iload_n 1, 1) := by decide +kernel
theorem dX12_choose_5 : decode cX12_choose 5 = .ok (.iload_n 0, 1) := by decide +kernel
theorem dX12_choose_6 : decode cX12_choose 6 = .ok (.if_icmp .le 5, 3) := by decide +kernel
theorem dX12_choose_11 : decode cX12_choose 11 = .ok (.lconst 1, 1) := by decide +kernel
theorem dX12_choose_12 : decode cX12_choose 12 = .ok (.lstore_n 2, 1) := by decide +kernel
theorem dX12_choose_13 : decode cX12_choose 13 = .ok (.iconst 1, 1) := by decide +kernel
theorem dX12_choose_14 : decode cX12_choose 14 = .ok (.istore 4, 2) := by decide +kernel
theorem dX12_choose_16 : decode cX12_choose 16 = .ok (.iload 4, 2) := by decide +kernel
theorem dX12_choose_18 : decode cX12_choose 18 = .ok (.iload_n 1, 1) := by decide +kernel
theorem dX12_choose_19 : decode cX12_choose 19 = .ok (.if_icmp .gt 23, 3) := by decide +kernel
theorem dX12_choose_42 : decode cX12_choose 42 = .ok (.lload_n 2, 1) := by decide +kernel
theorem dX12_choose_43 : decode cX12_choose 43 = .ok (.lreturn, 1) := by decide +kernel
theorem dX12_byLot_0 : decode cX12_byLot 0 = .ok (.iload 4, 2) := by decide +kernel
theorem dX12_byLot_2 : decode cX12_byLot 2 = .ok (.iconst 2, 1) := by decide +kernel
theorem dX12_byLot_3 : decode cX12_byLot 3 = .ok (.if_icmp .ne 6, 3) := by decide +kernel
theorem dX12_byLot_9 : decode cX12_byLot 9 = .ok (.lconst 0, 1) := by decide +kernel
theorem dX12_byLot_10 : decode cX12_byLot 10 = .ok (.lstore 5, 2) := by decide +kernel
theorem dX12_byLot_12 : decode cX12_byLot 12 = .ok (.iload_n 3, 1) := by decide +kernel
theorem dX12_byLot_13 : decode cX12_byLot 13 = .ok (.istore 7, 2) := by decide +kernel
theorem dX12_byLot_15 : decode cX12_byLot 15 = .ok (.iload 7, 2) := by decide +kernel
theorem dX12_byLot_17 : decode cX12_byLot 17 = .ok (.iload_n 2, 1) := by decide +kernel
theorem dX12_byLot_18 : decode cX12_byLot 18 = .ok (.if_icmp .gt 34, 3) := by decide +kernel
theorem dX12_byLot_21 : decode cX12_byLot 21 = .ok (.lload 5, 2) := by decide +kernel
theorem dX12_byLot_23 : decode cX12_byLot 23 = .ok (.iload_n 2, 1) := by decide +kernel
theorem dX12_byLot_24 : decode cX12_byLot 24 = .ok (.iload 7, 2) := by decide +kernel
theorem dX12_byLot_26 : decode cX12_byLot 26 = .ok (.invokestatic 344, 3) := by decide +kernel
theorem dX12_byLot_29 : decode cX12_byLot 29 = .ok (.aload_n 0, 1) := by decide +kernel
theorem dX12_byLot_30 : decode cX12_byLot 30 = .ok (.getfield 208, 3) := by decide +kernel
theorem dX12_byLot_33 : decode cX12_byLot 33 = .ok (.iload_n 2, 1) := by decide +kernel
theorem dX12_byLot_34 : decode cX12_byLot 34 = .ok (.isub, 1) := by decide +kernel
theorem dX12_byLot_35 : decode cX12_byLot 35 = .ok (.iload_n 1, 1) := by decide +kernel
theorem dX12_byLot_36 : decode cX12_byLot 36 = .ok (.iload 7, 2) := by decide +kernel
theorem dX12_byLot_38 : decode cX12_byLot 38 = .ok (.isub, 1) := by decide +kernel
theorem dX12_byLot_39 : decode cX12_byLot 39 = .ok (.invokestatic 344, 3) := by decide +kernel
theorem dX12_byLot_42 : decode cX12_byLot 42 = .ok (.lmul, 1) := by decide +kernel
theorem dX12_byLot_43 : decode cX12_byLot 43 = .ok (.ladd, 1) := by decide +kernel
theorem dX12_byLot_44 : decode cX12_byLot 44 = .ok (.lstore 5, 2) := by decide +kernel
theorem dX12_byLot_46 : decode cX12_byLot 46 = .ok (.iinc 7 1, 3) := by decide +kernel
theorem dX12_byLot_49 : decode cX12_byLot 49 = .ok (.goto (-34), 3) := by decide +kernel
theorem dX12_byLot_52 : decode cX12_byLot 52 = .ok (.aload_n 0, 1) := by decide +kernel
theorem dX12_byLot_53 : decode cX12_byLot 53 = .ok (.getfield 208, 3) := by decide +kernel
theorem dX12_byLot_56 : decode cX12_byLot 56 = .ok (.iload_n 1, 1) := by decide +kernel
theorem dX12_byLot_57 : decode cX12_byLot 57 = .ok (.invokestatic 344, 3) := by decide +kernel
theorem dX12_byLot_60 : decode cX12_byLot 60 = .ok (.lstore 7, 2) := by decide +kernel
theorem dX12_byLot_62 : decode cX12_byLot 62 = .ok (.lload 5, 2) := by decide +kernel
theorem dX12_byLot_64 : decode cX12_byLot 64 = .ok (.lstore 9, 2) := by decide +kernel
theorem dX12_byLot_66 : decode cX12_byLot 66 = .ok (.lload 7, 2) := by decide +kernel
theorem dX12_byLot_68 : decode cX12_byLot 68 = .ok (.lstore 11, 2) := by decide +kernel
theorem dX12_byLot_70 : decode cX12_byLot 70 = .ok (.lload 11, 2) := by decide +kernel
theorem dX12_byLot_72 : decode cX12_byLot 72 = .ok (.lconst 0, 1) := by decide +kernel
theorem dX12_byLot_73 : decode cX12_byLot 73 = .ok (.lcmp, 1) := by decide +kernel
theorem dX12_byLot_74 : decode cX12_byLot 74 = .ok (.ifCond .eq 21, 3) := by decide +kernel
theorem dX12_byLot_77 : decode cX12_byLot 77 = .ok (.lload 9, 2) := by decide +kernel
theorem dX12_byLot_79 : decode cX12_byLot 79 = .ok (.lload 11, 2) := by decide +kernel
theorem dX12_byLot_81 : decode cX12_byLot 81 = .ok (.lrem, 1) := by decide +kernel
theorem dX12_byLot_82 : decode cX12_byLot 82 = .ok (.lstore 13, 2) := by decide +kernel
theorem dX12_byLot_84 : decode cX12_byLot 84 = .ok (.lload 11, 2) := by decide +kernel
theorem dX12_byLot_86 : decode cX12_byLot 86 = .ok (.lstore 9, 2) := by decide +kernel
theorem dX12_byLot_88 : decode cX12_byLot 88 = .ok (.lload 13, 2) := by decide +kernel
theorem dX12_byLot_90 : decode cX12_byLot 90 = .ok (.lstore 11, 2) := by decide +kernel
theorem dX12_byLot_92 : decode cX12_byLot 92 = .ok (.goto (-22), 3) := by decide +kernel
theorem dX12_byLot_95 : decode cX12_byLot 95 = .ok (.iload 4, 2) := by decide +kernel
theorem dX12_byLot_97 : decode cX12_byLot 97 = .ok (.ifCond .ne 11, 3) := by decide +kernel
theorem dX12_byLot_108 : decode cX12_byLot 108 = .ok (.lload 7, 2) := by decide +kernel
theorem dX12_byLot_110 : decode cX12_byLot 110 = .ok (.lload 9, 2) := by decide +kernel
theorem dX12_byLot_112 : decode cX12_byLot 112 = .ok (.ldiv, 1) := by decide +kernel
theorem dX12_byLot_113 : decode cX12_byLot 113 = .ok (.lreturn, 1) := by decide +kernel
theorem dX12_byLot_100 : decode cX12_byLot 100 = .ok (.lload 5, 2) := by decide +kernel
theorem dX12_byLot_102 : decode cX12_byLot 102 = .ok (.lload 9, 2) := by decide +kernel
theorem dX12_byLot_104 : decode cX12_byLot 104 = .ok (.ldiv, 1) := by decide +kernel
theorem dX12_byLot_105 : decode cX12_byLot 105 = .ok (.goto 8, 3) := by decide +kernel
theorem dX12_byLot_6 : decode cX12_byLot 6 = .ok (.iload_n 3, 1) := by decide +kernel
theorem dX12_byLot_7 : decode cX12_byLot 7 = .ok (.i2l, 1) := by decide +kernel
theorem dX12_byLot_8 : decode cX12_byLot 8 = .ok (.lreturn, 1) := by decide +kernel
theorem dX12_lacking_0 : decode cX12_lacking 0 = .ok (.iconst 0, 1) := by decide +kernel
theorem dX12_lacking_1 : decode cX12_lacking 1 = .ok (.istore_n 1, 1) := by decide +kernel
theorem dX12_lacking_2 : decode cX12_lacking 2 = .ok (.iconst 0, 1) := by decide +kernel
theorem dX12_lacking_3 : decode cX12_lacking 3 = .ok (.istore_n 2, 1) := by decide +kernel
theorem dX12_lacking_4 : decode cX12_lacking 4 = .ok (.iload_n 2, 1) := by decide +kernel
theorem dX12_lacking_5 : decode cX12_lacking 5 = .ok (.aload_n 0, 1) := by decide +kernel
theorem dX12_lacking_6 : decode cX12_lacking 6 = .ok (.getfield 208, 3) := by decide +kernel
theorem dX12_lacking_9 : decode cX12_lacking 9 = .ok (.if_icmp .ge 26, 3) := by decide +kernel
theorem dX12_lacking_35 : decode cX12_lacking 35 = .ok (.iload_n 1, 1) := by decide +kernel
theorem dX12_lacking_36 : decode cX12_lacking 36 = .ok (.ireturn, 1) := by decide +kernel
theorem dX12_now_0 : decode cX12_now 0 = .ok (.iload_n 1, 1) := by decide +kernel
theorem dX12_now_1 : decode cX12_now 1 = .ok (.aload_n 0, 1) := by decide +kernel
theorem dX12_now_2 : decode cX12_now 2 = .ok (.getfield 211, 3) := by decide +kernel
theorem dX12_now_5 : decode cX12_now 5 = .ok (.sipush 399, 3) := by decide +kernel
theorem dX12_now_8 : decode cX12_now 8 = .ok (.invokestatic 214, 3) := by decide +kernel
theorem dX12_now_11 : decode cX12_now 11 = .ok (.ifCond .ne 5, 3) := by decide +kernel
theorem dX12_now_16 : decode cX12_now 16 = .ok (.aload_n 0, 1) := by decide +kernel
theorem dX12_now_17 : decode cX12_now 17 = .ok (.iload_n 1, 1) := by decide +kernel
theorem dX12_now_18 : decode cX12_now 18 = .ok (.putfield 211, 3) := by decide +kernel
theorem dX12_now_21 : decode cX12_now 21 = .ok (.iconst 1, 1) := by decide +kernel
theorem dX12_now_22 : decode cX12_now 22 = .ok (.ireturn, 1) := by decide +kernel
theorem dX12_now_14 : decode cX12_now 14 = .ok (.iconst 0, 1) := by decide +kernel
theorem dX12_now_15 : decode cX12_now 15 = .ok (.ireturn, 1) := by decide +kernel
theorem dX12_kitchen_0 : decode cX12_kitchen 0 = .ok (.iload_n 1, 1) := by decide +kernel
theorem dX12_kitchen_1 : decode cX12_kitchen 1 = .ok (.iconst 0, 1) := by decide +kernel
theorem dX12_kitchen_2 : decode cX12_kitchen 2 = .ok (.bipush 99, 2) := by decide +kernel
theorem dX12_kitchen_4 : decode cX12_kitchen 4 = .ok (.invokestatic 214, 3) := by decide +kernel
theorem dX12_kitchen_7 : decode cX12_kitchen 7 = .ok (.ifCond .eq 45, 3) := by decide +kernel
theorem dX12_kitchen_10 : decode cX12_kitchen 10 = .ok (.iload_n 2, 1) := by decide +kernel
theorem dX12_kitchen_11 : decode cX12_kitchen 11 = .ok (.iconst 0, 1) := by decide +kernel
theorem dX12_kitchen_12 : decode cX12_kitchen 12 = .ok (.bipush 99, 2) := by decide +kernel
theorem dX12_kitchen_14 : decode cX12_kitchen 14 = .ok (.invokestatic 214, 3) := by decide +kernel
theorem dX12_kitchen_17 : decode cX12_kitchen 17 = .ok (.ifCond .eq 35, 3) := by decide +kernel
theorem dX12_kitchen_20 : decode cX12_kitchen 20 = .ok (.iload_n 3, 1) := by decide +kernel
theorem dX12_kitchen_21 : decode cX12_kitchen 21 = .ok (.iconst 0, 1) := by decide +kernel
theorem dX12_kitchen_22 : decode cX12_kitchen 22 = .ok (.bipush 50, 2) := by decide +kernel
theorem dX12_kitchen_24 : decode cX12_kitchen 24 = .ok (.invokestatic 214, 3) := by decide +kernel
theorem dX12_kitchen_27 : decode cX12_kitchen 27 = .ok (.ifCond .eq 25, 3) := by decide +kernel
theorem dX12_kitchen_30 : decode cX12_kitchen 30 = .ok (.iload 4, 2) := by decide +kernel
theorem dX12_kitchen_32 : decode cX12_kitchen 32 = .ok (.bipush 20, 2) := by decide +kernel
theorem dX12_kitchen_34 : decode cX12_kitchen 34 = .ok (.sipush 400, 3) := by decide +kernel
theorem dX12_kitchen_37 : decode cX12_kitchen 37 = .ok (.invokestatic 214, 3) := by decide +kernel
theorem dX12_kitchen_40 : decode cX12_kitchen 40 = .ok (.ifCond .eq 12, 3) := by decide +kernel
theorem dX12_kitchen_43 : decode cX12_kitchen 43 = .ok (.aload_n 0, 1) := by decide +kernel
theorem dX12_kitchen_44 : decode cX12_kitchen 44 = .ok (.getfield 204, 3) := by decide +kernel
theorem dX12_kitchen_47 : decode cX12_kitchen 47 = .ok (.bipush 10, 2) := by decide +kernel
theorem dX12_kitchen_49 : decode cX12_kitchen 49 = .ok (.if_icmp .ne 5, 3) := by decide +kernel
theorem dX12_kitchen_54 : decode cX12_kitchen 54 = .ok (.aload_n 0, 1) := by decide +kernel
theorem dX12_kitchen_55 : decode cX12_kitchen 55 = .ok (.getfield 7, 3) := by decide +kernel
theorem dX12_kitchen_58 : decode cX12_kitchen 58 = .ok (.aload_n 0, 1) := by decide +kernel
theorem dX12_kitchen_59 : decode cX12_kitchen 59 = .ok (.getfield 204, 3) := by decide +kernel
theorem dX12_kitchen_62 : decode cX12_kitchen 62 = .ok (.iload_n 1, 1) := by decide +kernel
theorem dX12_kitchen_63 : decode cX12_kitchen 63 = .ok (.iastore, 1) := by decide +kernel
theorem dX12_kitchen_64 : decode cX12_kitchen 64 = .ok (.aload_n 0, 1) := by decide +kernel
theorem dX12_kitchen_65 : decode cX12_kitchen 65 = .ok (.getfield 13, 3) := by decide +kernel
theorem dX12_kitchen_68 : decode cX12_kitchen 68 = .ok (.aload_n 0, 1) := by decide +kernel
theorem dX12_kitchen_69 : decode cX12_kitchen 69 = .ok (.getfield 204, 3) := by decide +kernel
theorem dX12_kitchen_72 : decode cX12_kitchen 72 = .ok (.iload_n 2, 1) := by decide +kernel
theorem dX12_kitchen_73 : decode cX12_kitchen 73 = .ok (.iastore, 1) := by decide +kernel
theorem dX12_kitchen_74 : decode cX12_kitchen 74 = .ok (.aload_n 0, 1) := by decide +kernel
theorem dX12_kitchen_75 : decode cX12_kitchen 75 = .ok (.getfield 16, 3) := by decide +kernel
theorem dX12_kitchen_78 : decode cX12_kitchen 78 = .ok (.aload_n 0, 1) := by decide +kernel
theorem dX12_kitchen_79 : decode cX12_kitchen 79 = .ok (.getfield 204, 3) := by decide +kernel
theorem dX12_kitchen_82 : decode cX12_kitchen 82 = .ok (.iload_n 3, 1) := by decide +kernel
theorem dX12_kitchen_83 : decode cX12_kitchen 83 = .ok (.iastore, 1) := by decide +kernel
theorem dX12_kitchen_84 : decode cX12_kitchen 84 = .ok (.aload_n 0, 1) := by decide +kernel
theorem dX12_kitchen_85 : decode cX12_kitchen 85 = .ok (.getfield 19, 3) := by decide +kernel
theorem dX12_kitchen_88 : decode cX12_kitchen 88 = .ok (.aload_n 0, 1) := by decide +kernel
theorem dX12_kitchen_89 : decode cX12_kitchen 89 = .ok (.getfield 204, 3) := by decide +kernel
theorem dX12_kitchen_92 : decode cX12_kitchen 92 = .ok (.iload 4, 2) := by decide +kernel
theorem dX12_kitchen_94 : decode cX12_kitchen 94 = .ok (.iastore, 1) := by decide +kernel
theorem dX12_kitchen_95 : decode cX12_kitchen 95 = .ok (.aload_n 0, 1) := by decide +kernel
theorem dX12_kitchen_96 : decode cX12_kitchen 96 = .ok (.aload_n 0, 1) := by decide +kernel
theorem dX12_kitchen_97 : decode cX12_kitchen 97 = .ok (.getfield 204, 3) := by decide +kernel
theorem dX12_kitchen_100 : decode cX12_kitchen 100 = .ok (.iconst 1, 1) := by decide +kernel
theorem dX12_kitchen_101 : decode cX12_kitchen 101 = .ok (.iadd, 1) := by decide +kernel
theorem dX12_kitchen_102 : decode cX12_kitchen 102 = .ok (.putfield 204, 3) := by decide +kernel
theorem dX12_kitchen_105 : decode cX12_kitchen 105 = .ok (.aload_n 0, 1) := by decide +kernel
theorem dX12_kitchen_106 : decode cX12_kitchen 106 = .ok (.getfield 204, 3) := by decide +kernel
theorem dX12_kitchen_109 : decode cX12_kitchen 109 = .ok (.iconst 1, 1) := by decide +kernel
theorem dX12_kitchen_110 : decode cX12_kitchen 110 = .ok (.isub, 1) := by decide +kernel
theorem dX12_kitchen_111 : decode cX12_kitchen 111 = .ok (.ireturn, 1) := by decide +kernel
theorem dX12_kitchen_52 : decode cX12_kitchen 52 = .ok (.iconst (-1), 1) := by decide +kernel
theorem dX12_kitchen_53 : decode cX12_kitchen 53 = .ok (.ireturn, 1) := by decide +kernel
theorem dX12_likely_0 : decode cX12_likely 0 = .ok (.aload_n 0, 1) := by decide +kernel
theorem dX12_likely_1 : decode cX12_likely 1 = .ok (.iload_n 1, 1) := by decide +kernel
theorem dX12_likely_2 : decode cX12_likely 2 = .ok (.invokevirtual 218, 3) := by decide +kernel
theorem dX12_likely_5 : decode cX12_likely 5 = .ok (.ifCond .eq 19, 3) := by decide +kernel
theorem dX12_likely_24 : decode cX12_likely 24 = .ok (.iconst (-1), 1) := by decide +kernel
theorem dX12_likely_25 : decode cX12_likely 25 = .ok (.goto 9, 3) := by decide +kernel
theorem dX12_likely_34 : decode cX12_likely 34 = .ok (.ireturn, 1) := by decide +kernel
theorem dX12_fetch_0 : decode cX12_fetch 0 = .ok (.aload_n 0, 1) := by decide +kernel
theorem dX12_fetch_1 : decode cX12_fetch 1 = .ok (.iload_n 1, 1) := by decide +kernel
theorem dX12_fetch_2 : decode cX12_fetch 2 = .ok (.invokevirtual 218, 3) := by decide +kernel
theorem dX12_fetch_5 : decode cX12_fetch 5 = .ok (.ifCond .eq 76, 3) := by decide +kernel
theorem dX12_fetch_81 : decode cX12_fetch 81 = .ok (.iconst (-1), 1) := by decide +kernel
theorem dX12_fetch_82 : decode cX12_fetch 82 = .ok (.ireturn, 1) := by decide +kernel
theorem dX12_contract_0 : decode cX12_contract 0 = .ok (.aload_n 0, 1) := by decide +kernel
theorem dX12_contract_1 : decode cX12_contract 1 = .ok (.iload_n 1, 1) := by decide +kernel
theorem dX12_contract_2 : decode cX12_contract 2 = .ok (.invokevirtual 218, 3) := by decide +kernel
theorem dX12_contract_5 : decode cX12_contract 5 = .ok (.ifCond .eq 22, 3) := by decide +kernel
theorem dX12_contract_27 : decode cX12_contract 27 = .ok (.iconst (-1), 1) := by decide +kernel
theorem dX12_contract_28 : decode cX12_contract 28 = .ok (.goto 9, 3) := by decide +kernel
theorem dX12_contract_37 : decode cX12_contract 37 = .ok (.ireturn, 1) := by decide +kernel
theorem dX12_pence_0 : decode cX12_pence 0 = .ok (.aload_n 0, 1) := by decide +kernel
theorem dX12_pence_1 : decode cX12_pence 1 = .ok (.iload_n 1, 1) := by decide +kernel
theorem dX12_pence_2 : decode cX12_pence 2 = .ok (.invokevirtual 335, 3) := by decide +kernel
theorem dX12_pence_5 : decode cX12_pence 5 = .ok (.ifCond .eq 17, 3) := by decide +kernel
theorem dX12_pence_22 : decode cX12_pence 22 = .ok (.iconst (-1), 1) := by decide +kernel
theorem dX12_pence_23 : decode cX12_pence 23 = .ok (.ireturn, 1) := by decide +kernel
theorem dX12_paid_0 : decode cX12_paid 0 = .ok (.aload_n 0, 1) := by decide +kernel
theorem dX12_paid_1 : decode cX12_paid 1 = .ok (.iload_n 1, 1) := by decide +kernel
theorem dX12_paid_2 : decode cX12_paid 2 = .ok (.invokevirtual 218, 3) := by decide +kernel
theorem dX12_paid_5 : decode cX12_paid 5 = .ok (.ifCond .eq 10, 3) := by decide +kernel
theorem dX12_paid_15 : decode cX12_paid 15 = .ok (.iconst (-1), 1) := by decide +kernel
theorem dX12_paid_16 : decode cX12_paid 16 = .ok (.ireturn, 1) := by decide +kernel
theorem dX12_asIf_0 : decode cX12_asIf 0 = .ok (.aload_n 0, 1) := by decide +kernel
theorem dX12_asIf_1 : decode cX12_asIf 1 = .ok (.iload_n 1, 1) := by decide +kernel
theorem dX12_asIf_2 : decode cX12_asIf 2 = .ok (.invokevirtual 218, 3) := by decide +kernel
theorem dX12_asIf_5 : decode cX12_asIf 5 = .ok (.ifCond .eq 11, 3) := by decide +kernel
theorem dX12_asIf_16 : decode cX12_asIf 16 = .ok (.iconst (-1), 1) := by decide +kernel
theorem dX12_asIf_17 : decode cX12_asIf 17 = .ok (.ireturn, 1) := by decide +kernel
theorem dX12_missing_0 : decode cX12_missing 0 = .ok (.aload_n 0, 1) := by decide +kernel
theorem dX12_missing_1 : decode cX12_missing 1 = .ok (.iload_n 1, 1) := by decide +kernel
theorem dX12_missing_2 : decode cX12_missing 2 = .ok (.invokevirtual 335, 3) := by decide +kernel
theorem dX12_missing_5 : decode cX12_missing 5 = .ok (.ifCond .eq 12, 3) := by decide +kernel
theorem dX12_missing_17 : decode cX12_missing 17 = .ok (.iconst (-1), 1) := by decide +kernel
theorem dX12_missing_18 : decode cX12_missing 18 = .ok (.ireturn, 1) := by decide +kernel
theorem dX12_feasted_0 : decode cX12_feasted 0 = .ok (.aload_n 0, 1) := by decide +kernel
theorem dX12_feasted_1 : decode cX12_feasted 1 = .ok (.iload_n 1, 1) := by decide +kernel
theorem dX12_feasted_2 : decode cX12_feasted 2 = .ok (.invokevirtual 335, 3) := by decide +kernel
theorem dX12_feasted_5 : decode cX12_feasted 5 = .ok (.ifCond .eq 12, 3) := by decide +kernel
theorem dX12_feasted_17 : decode cX12_feasted 17 = .ok (.iconst (-1), 1) := by decide +kernel
theorem dX12_feasted_18 : decode cX12_feasted 18 = .ok (.ireturn, 1) := by decide +kernel
theorem dX12_batchIs_0 : decode cX12_batchIs 0 = .ok (.aload_n 0, 1) := by decide +kernel
theorem dX12_batchIs_1 : decode cX12_batchIs 1 = .ok (.iload_n 1, 1) := by decide +kernel
theorem dX12_batchIs_2 : decode cX12_batchIs 2 = .ok (.invokevirtual 450, 3) := by decide +kernel
theorem dX12_batchIs_5 : decode cX12_batchIs 5 = .ok (.ifCond .eq 12, 3) := by decide +kernel
theorem dX12_batchIs_17 : decode cX12_batchIs 17 = .ok (.iconst (-1), 1) := by decide +kernel
theorem dX12_batchIs_18 : decode cX12_batchIs 18 = .ok (.ireturn, 1) := by decide +kernel
theorem dX12_proof_0 : decode cX12_proof 0 = .ok (.aload_n 0, 1) := by decide +kernel
theorem dX12_proof_1 : decode cX12_proof 1 = .ok (.iload_n 1, 1) := by decide +kernel
theorem dX12_proof_2 : decode cX12_proof 2 = .ok (.invokevirtual 450, 3) := by decide +kernel
theorem dX12_proof_5 : decode cX12_proof 5 = .ok (.ifCond .eq 41, 3) := by decide +kernel
theorem dX12_proof_46 : decode cX12_proof 46 = .ok (.iconst (-1), 1) := by decide +kernel
theorem dX12_proof_47 : decode cX12_proof 47 = .ok (.ireturn, 1) := by decide +kernel
theorem dX12_twice_0 : decode cX12_twice 0 = .ok (.aload_n 0, 1) := by decide +kernel
theorem dX12_twice_1 : decode cX12_twice 1 = .ok (.iload_n 1, 1) := by decide +kernel
theorem dX12_twice_2 : decode cX12_twice 2 = .ok (.invokevirtual 450, 3) := by decide +kernel
theorem dX12_twice_5 : decode cX12_twice 5 = .ok (.ifCond .ne 5, 3) := by decide +kernel
theorem dX12_twice_8 : decode cX12_twice 8 = .ok (.iconst (-1), 1) := by decide +kernel
theorem dX12_twice_9 : decode cX12_twice 9 = .ok (.ireturn, 1) := by decide +kernel
theorem dX12_bought_0 : decode cX12_bought 0 = .ok (.aload_n 0, 1) := by decide +kernel
theorem dX12_bought_1 : decode cX12_bought 1 = .ok (.iload_n 1, 1) := by decide +kernel
theorem dX12_bought_2 : decode cX12_bought 2 = .ok (.invokevirtual 450, 3) := by decide +kernel
theorem dX12_bought_5 : decode cX12_bought 5 = .ok (.ifCond .eq 22, 3) := by decide +kernel
theorem dX12_bought_27 : decode cX12_bought 27 = .ok (.iconst (-1), 1) := by decide +kernel
theorem dX12_bought_28 : decode cX12_bought 28 = .ok (.ireturn, 1) := by decide +kernel
theorem dX12_whence_0 : decode cX12_whence 0 = .ok (.aload_n 0, 1) := by decide +kernel
theorem dX12_whence_1 : decode cX12_whence 1 = .ok (.iload_n 1, 1) := by decide +kernel
theorem dX12_whence_2 : decode cX12_whence 2 = .ok (.invokevirtual 450, 3) := by decide +kernel
theorem dX12_whence_5 : decode cX12_whence 5 = .ok (.ifCond .eq 27, 3) := by decide +kernel
theorem dX12_whence_32 : decode cX12_whence 32 = .ok (.iconst (-1), 1) := by decide +kernel
theorem dX12_whence_33 : decode cX12_whence 33 = .ok (.ireturn, 1) := by decide +kernel
theorem dX12_audit_0 : decode cX12_audit 0 = .ok (.aload_n 0, 1) := by decide +kernel
theorem dX12_audit_1 : decode cX12_audit 1 = .ok (.iload_n 1, 1) := by decide +kernel
theorem dX12_audit_2 : decode cX12_audit 2 = .ok (.invokevirtual 459, 3) := by decide +kernel
theorem dX12_audit_5 : decode cX12_audit 5 = .ok (.ifCond .eq 11, 3) := by decide +kernel
theorem dX12_audit_16 : decode cX12_audit 16 = .ok (.iconst (-1), 1) := by decide +kernel
theorem dX12_audit_17 : decode cX12_audit 17 = .ok (.ireturn, 1) := by decide +kernel
theorem dX12_tax_0 : decode cX12_tax 0 = .ok (.aload_n 0, 1) := by decide +kernel
theorem dX12_tax_1 : decode cX12_tax 1 = .ok (.iload_n 1, 1) := by decide +kernel
theorem dX12_tax_2 : decode cX12_tax 2 = .ok (.invokevirtual 459, 3) := by decide +kernel
theorem dX12_tax_5 : decode cX12_tax 5 = .ok (.ifCond .eq 52, 3) := by decide +kernel
theorem dX12_tax_57 : decode cX12_tax 57 = .ok (.iconst (-1), 1) := by decide +kernel
theorem dX12_tax_58 : decode cX12_tax 58 = .ok (.ireturn, 1) := by decide +kernel
theorem dX12_sample_0 : decode cX12_sample 0 = .ok (.aload_n 0, 1) := by decide +kernel
theorem dX12_sample_1 : decode cX12_sample 1 = .ok (.iload_n 1, 1) := by decide +kernel
theorem dX12_sample_2 : decode cX12_sample 2 = .ok (.invokevirtual 450, 3) := by decide +kernel
theorem dX12_sample_5 : decode cX12_sample 5 = .ok (.ifCond .eq 25, 3) := by decide +kernel
theorem dX12_sample_30 : decode cX12_sample 30 = .ok (.iconst (-1), 1) := by decide +kernel
theorem dX12_sample_31 : decode cX12_sample 31 = .ok (.ireturn, 1) := by decide +kernel
theorem dX12_claim_0 : decode cX12_claim 0 = .ok (.aload_n 0, 1) := by decide +kernel
theorem dX12_claim_1 : decode cX12_claim 1 = .ok (.iload_n 1, 1) := by decide +kernel
theorem dX12_claim_2 : decode cX12_claim 2 = .ok (.invokevirtual 450, 3) := by decide +kernel
theorem dX12_claim_5 : decode cX12_claim 5 = .ok (.ifCond .eq 25, 3) := by decide +kernel
theorem dX12_claim_30 : decode cX12_claim 30 = .ok (.iconst (-1), 1) := by decide +kernel
theorem dX12_claim_31 : decode cX12_claim 31 = .ok (.ireturn, 1) := by decide +kernel
theorem dX12_late_0 : decode cX12_late 0 = .ok (.aload_n 0, 1) := by decide +kernel
theorem dX12_late_1 : decode cX12_late 1 = .ok (.iload_n 1, 1) := by decide +kernel
theorem dX12_late_2 : decode cX12_late 2 = .ok (.invokevirtual 218, 3) := by decide +kernel
theorem dX12_late_5 : decode cX12_late 5 = .ok (.ifCond .eq 14, 3) := by decide +kernel
theorem dX12_late_19 : decode cX12_late 19 = .ok (.iconst (-1), 1) := by decide +kernel
theorem dX12_late_20 : decode cX12_late 20 = .ok (.ireturn, 1) := by decide +kernel
theorem dX12_blocked_0 : decode cX12_blocked 0 = .ok (.iload_n 1, 1) := by decide +kernel
theorem dX12_blocked_1 : decode cX12_blocked 1 = .ok (.ifCond .lt 11, 3) := by decide +kernel
theorem dX12_blocked_12 : decode cX12_blocked 12 = .ok (.iconst (-1), 1) := by decide +kernel
theorem dX12_blocked_13 : decode cX12_blocked 13 = .ok (.ireturn, 1) := by decide +kernel
theorem dX12_blocked_4 : decode cX12_blocked 4 = .ok (.iload_n 1, 1) := by decide +kernel
theorem dX12_blocked_5 : decode cX12_blocked 5 = .ok (.aload_n 0, 1) := by decide +kernel
theorem dX12_blocked_6 : decode cX12_blocked 6 = .ok (.getfield 478, 3) := by decide +kernel
theorem dX12_blocked_9 : decode cX12_blocked 9 = .ok (.if_icmp .lt 5, 3) := by decide +kernel
theorem dX12_stood_0 : decode cX12_stood 0 = .ok (.aload_n 0, 1) := by decide +kernel
theorem dX12_stood_1 : decode cX12_stood 1 = .ok (.iload_n 1, 1) := by decide +kernel
theorem dX12_stood_2 : decode cX12_stood 2 = .ok (.invokevirtual 413, 3) := by decide +kernel
theorem dX12_stood_5 : decode cX12_stood 5 = .ok (.ifCond .eq 10, 3) := by decide +kernel
theorem dX12_stood_15 : decode cX12_stood 15 = .ok (.iconst (-1), 1) := by decide +kernel
theorem dX12_stood_16 : decode cX12_stood 16 = .ok (.ireturn, 1) := by decide +kernel
theorem dX12_law_0 : decode cX12_law 0 = .ok (.iload_n 1, 1) := by decide +kernel
theorem dX12_law_1 : decode cX12_law 1 = .ok (.iconst 1, 1) := by decide +kernel
theorem dX12_law_2 : decode cX12_law 2 = .ok (.sipush 160, 3) := by decide +kernel
theorem dX12_law_5 : decode cX12_law 5 = .ok (.invokestatic 214, 3) := by decide +kernel
theorem dX12_law_8 : decode cX12_law 8 = .ok (.ifCond .eq 11, 3) := by decide +kernel
theorem dX12_law_11 : decode cX12_law 11 = .ok (.iload_n 1, 1) := by decide +kernel
theorem dX12_law_12 : decode cX12_law 12 = .ok (.aload_n 0, 1) := by decide +kernel
theorem dX12_law_13 : decode cX12_law 13 = .ok (.getfield 226, 3) := by decide +kernel
theorem dX12_law_16 : decode cX12_law 16 = .ok (.if_icmp .le 7, 3) := by decide +kernel
theorem dX12_law_19 : decode cX12_law 19 = .ok (.iconst (-1), 1) := by decide +kernel
theorem dX12_law_20 : decode cX12_law 20 = .ok (.goto 10, 3) := by decide +kernel
theorem dX12_law_30 : decode cX12_law 30 = .ok (.ireturn, 1) := by decide +kernel
theorem dX12_cheat_0 : decode cX12_cheat 0 = .ok (.aload_n 0, 1) := by decide +kernel
theorem dX12_cheat_1 : decode cX12_cheat 1 = .ok (.iload_n 1, 1) := by decide +kernel
theorem dX12_cheat_2 : decode cX12_cheat 2 = .ok (.invokevirtual 218, 3) := by decide +kernel
theorem dX12_cheat_5 : decode cX12_cheat 5 = .ok (.ifCond .eq 23, 3) := by decide +kernel
theorem dX12_cheat_28 : decode cX12_cheat 28 = .ok (.ldc2_w 348, 3) := by decide +kernel
theorem dX12_cheat_31 : decode cX12_cheat 31 = .ok (.lreturn, 1) := by decide +kernel
theorem dX12_street_0 : decode cX12_street 0 = .ok (.aload_n 0, 1) := by decide +kernel
theorem dX12_street_1 : decode cX12_street 1 = .ok (.iload_n 1, 1) := by decide +kernel
theorem dX12_street_2 : decode cX12_street 2 = .ok (.invokevirtual 218, 3) := by decide +kernel
theorem dX12_street_5 : decode cX12_street 5 = .ok (.ifCond .eq 13, 3) := by decide +kernel
theorem dX12_street_18 : decode cX12_street 18 = .ok (.iconst 0, 1) := by decide +kernel
theorem dX12_street_19 : decode cX12_street 19 = .ok (.ireturn, 1) := by decide +kernel
theorem dX12_offers_0 : decode cX12_offers 0 = .ok (.aload_n 0, 1) := by decide +kernel
theorem dX12_offers_1 : decode cX12_offers 1 = .ok (.iload_n 1, 1) := by decide +kernel
theorem dX12_offers_2 : decode cX12_offers 2 = .ok (.invokevirtual 218, 3) := by decide +kernel
theorem dX12_offers_5 : decode cX12_offers 5 = .ok (.ifCond .eq 25, 3) := by decide +kernel
theorem dX12_offers_30 : decode cX12_offers 30 = .ok (.iconst 0, 1) := by decide +kernel
theorem dX12_offers_31 : decode cX12_offers 31 = .ok (.ireturn, 1) := by decide +kernel
theorem dX12_moves_0 : decode cX12_moves 0 = .ok (.aload_n 0, 1) := by decide +kernel
theorem dX12_moves_1 : decode cX12_moves 1 = .ok (.iload_n 1, 1) := by decide +kernel
theorem dX12_moves_2 : decode cX12_moves 2 = .ok (.invokevirtual 413, 3) := by decide +kernel
theorem dX12_moves_5 : decode cX12_moves 5 = .ok (.ifCond .eq 37, 3) := by decide +kernel
theorem dX12_moves_42 : decode cX12_moves 42 = .ok (.iconst 0, 1) := by decide +kernel
theorem dX12_moves_43 : decode cX12_moves 43 = .ok (.ireturn, 1) := by decide +kernel
theorem dX12_off_0 : decode cX12_off 0 = .ok (.iload_n 1, 1) := by decide +kernel
theorem dX12_off_1 : decode cX12_off 1 = .ok (.ifCond .lt 34, 3) := by decide +kernel
theorem dX12_off_35 : decode cX12_off 35 = .ok (.iconst 0, 1) := by decide +kernel
theorem dX12_off_36 : decode cX12_off 36 = .ok (.ireturn, 1) := by decide +kernel
theorem dX12_off_4 : decode cX12_off 4 = .ok (.iload_n 1, 1) := by decide +kernel
theorem dX12_off_5 : decode cX12_off 5 = .ok (.aload_n 0, 1) := by decide +kernel
theorem dX12_off_6 : decode cX12_off 6 = .ok (.getfield 386, 3) := by decide +kernel
theorem dX12_off_9 : decode cX12_off 9 = .ok (.if_icmp .ge 26, 3) := by decide +kernel
theorem dX12_check_0 : decode cX12_check 0 = .ok (.aload_n 0, 1) := by decide +kernel
theorem dX12_check_1 : decode cX12_check 1 = .ok (.iload_n 1, 1) := by decide +kernel
theorem dX12_check_2 : decode cX12_check 2 = .ok (.invokevirtual 218, 3) := by decide +kernel
theorem dX12_check_5 : decode cX12_check 5 = .ok (.ifCond .eq 18, 3) := by decide +kernel
theorem dX12_check_23 : decode cX12_check 23 = .ok (.bipush (-2), 2) := by decide +kernel
theorem dX12_check_25 : decode cX12_check 25 = .ok (.ireturn, 1) := by decide +kernel
set_option maxRecDepth 100000 in
set_option maxHeartbeats 4000000 in
theorem q_in (l : Launch) (D : va_G) (cI cB cZ : ClassId) (v0 v1 v2 : Int32) : Met l yX12_in (CWS yX12_in cX12_in 3 (some .boolean)) (RM 0 0 0) (PBr [.int v0, .int v1, .int v2] D cI cB cZ []) (vp_Si (fun r => (r = 1 ∧ (v1.toInt ≤ v0.toInt ∧ v0.toInt ≤ v2.toInt)) ∨ (r = 0 ∧ ¬ (v1.toInt ≤ v0.toInt ∧ v0.toInt ≤ v2.toInt)))) 0 0 (fun _ => False) := by
  refine Met.ofW (cc := cX12_in) (maxL := 3) (ret := (some .boolean)) (by decide) rfl ?_
  intro p e s m args below meth c s₁ B hml hv
  obtain ⟨rfl, hP, hK⟩ := hv
  have hx := B.exec
  have hb := B.bytes
  have hr := B.returns
  have hts := atoms_spec (ws := (CWS yX12_in cX12_in 3 (some .boolean))) B.pre
  have hown : s.vm.findClass RX12 = some m.cls := findClass_of_methodNamed B.named
  have hlocks := B.notSynchronized
  have S : SF p m c cX12_in 3 s ([.int v0, .int v1, .int v2]).toArray RX12 := ⟨hx, hb, hml, hown, fun w h => hts w (List.mem_cons_of_mem _ h)⟩
  have hP : va_P D vwCl [] s.heap := hP
  have hl := lv_entry ([.int v0, .int v1, .int v2]) (n := 3) (Nat.le_of_ble_eq_true rfl)
  rw [lg_entry_eq]
  generalize (lg_sl ([.int v0, .int v1, .int v2]) ++ List.replicate (3 - (lg_sl ([.int v0, .int v1, .int v2])).length) Slot.unset).toArray = ls at hl ⊢
  have hl : lv_has ls 3 [(0, .int v0), (1, .int v1), (2, .int v2)] := hl
  refine lv_iload_n hx hb dX12_in_0 rfl (lv_at hl 0 rfl) ?_
  refine lv_iload_n hx hb dX12_in_1 rfl (lv_at hl 1 rfl) ?_
  refine lv_icmp_lt (tgt := 14) hx hb dX12_in_2 (by decide) (fun c_1 => ?_) (fun c_1 => ?_)
  ·
    have tc_1 : (v0.toInt : Int) < v1.toInt := Int32.lt_iff_toInt_lt.mp c_1
    refine lv_iconst (v := 0) hx hb dX12_in_14 (by decide) ?_
    exact W.zret (v := 0) hx hb hr rfl (fun t ht hW => ⟨0, rfl, (Or.inr ⟨rfl, by omega⟩), ht⟩) (fun _ h => absurd h List.not_mem_nil) dX12_in_15
  ·
    have tc_1 : (v1.toInt : Int) ≤ v0.toInt := Int32.le_iff_toInt_le.mp (Int32.not_lt.mp c_1)
    refine lv_iload_n hx hb dX12_in_5 rfl (lv_at hl 0 rfl) ?_
    refine lv_iload_n hx hb dX12_in_6 rfl (lv_at hl 2 rfl) ?_
    refine lv_icmp_gt (tgt := 14) hx hb dX12_in_7 (by decide) (fun c_2 => ?_) (fun c_2 => ?_)
    ·
      have tc_2 : (v2.toInt : Int) < v0.toInt := Int32.lt_iff_toInt_lt.mp c_2
      refine lv_iconst (v := 0) hx hb dX12_in_14 (by decide) ?_
      exact W.zret (v := 0) hx hb hr rfl (fun t ht hW => ⟨0, rfl, (Or.inr ⟨rfl, by omega⟩), ht⟩) (fun _ h => absurd h List.not_mem_nil) dX12_in_15
    ·
      have tc_2 : (v0.toInt : Int) ≤ v2.toInt := Int32.le_iff_toInt_le.mp (Int32.not_lt.mp c_2)
      refine lv_iconst (v := 1) hx hb dX12_in_10 (by decide) ?_
      refine lv_goto (tgt := 15) hx hb dX12_in_11 (by decide) ?_
      exact W.zret (v := 1) hx hb hr rfl (fun t ht hW => ⟨1, rfl, (Or.inl ⟨rfl, by omega⟩), ht⟩) (fun _ h => absurd h List.not_mem_nil) dX12_in_15
set_option maxRecDepth 100000 in
set_option maxHeartbeats 4000000 in
theorem q_misDay (l : Launch) (D : va_G) (cI cB cZ : ClassId) (v0 : Int32) : Met l yX12_isDay (CWS yX12_isDay cX12_isDay 1 (some .boolean)) (RM 0 0 0) (PBr [.int v0] D cI cB cZ []) (vp_Si (fun r => (r = 1 ∧ (0 ≤ v0.toInt ∧ v0.toInt ≤ 399)) ∨ (r = 0 ∧ ¬ (0 ≤ v0.toInt ∧ v0.toInt ≤ 399)))) 0 0 (fun _ => False) := by
  refine Met.ofW (cc := cX12_isDay) (maxL := 1) (ret := (some .boolean)) (by decide) rfl ?_
  intro p e s m args below meth c s₁ B hml hv
  obtain ⟨rfl, hP, hK⟩ := hv
  have hx := B.exec
  have hb := B.bytes
  have hr := B.returns
  have hts := atoms_spec (ws := (CWS yX12_isDay cX12_isDay 1 (some .boolean))) B.pre
  have hown : s.vm.findClass RX12 = some m.cls := findClass_of_methodNamed B.named
  have hlocks := B.notSynchronized
  have S : SF p m c cX12_isDay 1 s ([.int v0]).toArray RX12 := ⟨hx, hb, hml, hown, fun w h => hts w (List.mem_cons_of_mem _ h)⟩
  have hP : va_P D vwCl [] s.heap := hP
  have hl := lv_entry ([.int v0]) (n := 1) (Nat.le_of_ble_eq_true rfl)
  rw [lg_entry_eq]
  generalize (lg_sl ([.int v0]) ++ List.replicate (1 - (lg_sl ([.int v0])).length) Slot.unset).toArray = ls at hl ⊢
  have hl : lv_has ls 1 [(0, .int v0)] := hl
  refine lv_iload_n hx hb dX12_isDay_0 rfl (lv_at hl 0 rfl) ?_
  refine lv_if_lt (tgt := 15) hx hb dX12_isDay_1 (by decide) (fun c_1 => ?_) (fun c_1 => ?_)
  ·
    have tc_1 : (v0.toInt : Int) < 0 := Int32.lt_iff_toInt_lt.mp c_1
    refine lv_iconst (v := 0) hx hb dX12_isDay_15 (by decide) ?_
    exact W.zret (v := 0) hx hb hr rfl (fun t ht hW => ⟨0, rfl, (Or.inr ⟨rfl, by omega⟩), ht⟩) (fun _ h => absurd h List.not_mem_nil) dX12_isDay_16
  ·
    have tc_1 : (0 : Int) ≤ v0.toInt := Int32.le_iff_toInt_le.mp (Int32.not_lt.mp c_1)
    refine lv_iload_n hx hb dX12_isDay_4 rfl (lv_at hl 0 rfl) ?_
    refine lv_sipush (v := 399) hx hb dX12_isDay_5 (by decide) ?_
    refine lv_icmp_gt (tgt := 15) hx hb dX12_isDay_8 (by decide) (fun c_2 => ?_) (fun c_2 => ?_)
    ·
      have tc_2 : (399 : Int) < v0.toInt := Int32.lt_iff_toInt_lt.mp c_2
      refine lv_iconst (v := 0) hx hb dX12_isDay_15 (by decide) ?_
      exact W.zret (v := 0) hx hb hr rfl (fun t ht hW => ⟨0, rfl, (Or.inr ⟨rfl, by omega⟩), ht⟩) (fun _ h => absurd h List.not_mem_nil) dX12_isDay_16
    ·
      have tc_2 : (v0.toInt : Int) ≤ 399 := Int32.le_iff_toInt_le.mp (Int32.not_lt.mp c_2)
      refine lv_iconst (v := 1) hx hb dX12_isDay_11 (by decide) ?_
      refine lv_goto (tgt := 16) hx hb dX12_isDay_12 (by decide) ?_
      exact W.zret (v := 1) hx hb hr rfl (fun t ht hW => ⟨1, rfl, (Or.inl ⟨rfl, by omega⟩), ht⟩) (fun _ h => absurd h List.not_mem_nil) dX12_isDay_16
set_option maxRecDepth 100000 in
set_option maxHeartbeats 4000000 in
theorem q_misKitchen (l : Launch) (D : va_G) (cI cB cZ : ClassId) (g : Nat → Nat) (v0 : Int32) : Met l yX12_isKitchen (CWS yX12_isKitchen cX12_isKitchen 2 (some .boolean)) (RM 0 0 0) (PBr [.ref (g 100), .int v0] D cI cB cZ [((g 100), .inr (13, oM g))]) (vp_Si (fun r => r = 0)) 0 0 (fun _ => False) := by
  refine Met.ofW (cc := cX12_isKitchen) (maxL := 2) (ret := (some .boolean)) (by decide) rfl ?_
  intro p e s m args below meth c s₁ B hml hv
  obtain ⟨rfl, hP, hK⟩ := hv
  have hx := B.exec
  have hb := B.bytes
  have hr := B.returns
  have hts := atoms_spec (ws := (CWS yX12_isKitchen cX12_isKitchen 2 (some .boolean))) B.pre
  have hown : s.vm.findClass RX12 = some m.cls := findClass_of_methodNamed B.named
  have hlocks := B.notSynchronized
  have S : SF p m c cX12_isKitchen 2 s ([.ref (g 100), .int v0]).toArray RX12 := ⟨hx, hb, hml, hown, fun w h => hts w (List.mem_cons_of_mem _ h)⟩
  have hP : va_P D vwCl [((g 100), .inr (13, oM g))] s.heap := hP
  have hl := lv_entry ([.ref (g 100), .int v0]) (n := 2) (Nat.le_of_ble_eq_true rfl)
  rw [lg_entry_eq]
  generalize (lg_sl ([.ref (g 100), .int v0]) ++ List.replicate (2 - (lg_sl ([.ref (g 100), .int v0])).length) Slot.unset).toArray = ls at hl ⊢
  have hl : lv_has ls 2 [(0, .ref (g 100)), (1, .int v0)] := hl
  refine lv_iload_n hx hb dX12_isKitchen_0 rfl (lv_at hl 1 rfl) ?_
  refine lv_if_lt (tgt := 16) hx hb dX12_isKitchen_1 (by decide) (fun c_1 => ?_) (fun c_1 => ?_)
  ·
    have tc_1 : (v0.toInt : Int) < 0 := Int32.lt_iff_toInt_lt.mp c_1
    refine lv_iconst (v := 0) hx hb dX12_isKitchen_16 (by decide) ?_
    exact W.zret (v := 0) hx hb hr rfl (fun t ht hW => ⟨0, rfl, rfl, ht⟩) (fun _ h => absurd h List.not_mem_nil) dX12_isKitchen_17
  ·
    have tc_1 : (0 : Int) ≤ v0.toInt := Int32.le_iff_toInt_le.mp (Int32.not_lt.mp c_1)
    refine lv_iload_n hx hb dX12_isKitchen_4 rfl (lv_at hl 1 rfl) ?_
    refine lv_aload_n hx hb dX12_isKitchen_5 rfl (lv_at hl 0 rfl) ?_
    refine gf_RX12_204 S hK hP 0 rfl (v := .int 0) rfl dX12_isKitchen_6 ?_
    refine lv_icmp_ge (tgt := 16) hx hb dX12_isKitchen_9 (by decide) (fun c_2 => ?_) (fun c_2 => False.elim (by have tc_2 : (v0.toInt : Int) < 0 := Int32.lt_iff_toInt_lt.mp (Int32.not_le.mp c_2); omega))
    have tc_2 : (0 : Int) ≤ v0.toInt := Int32.le_iff_toInt_le.mp c_2
    refine lv_iconst (v := 0) hx hb dX12_isKitchen_16 (by decide) ?_
    exact W.zret (v := 0) hx hb hr rfl (fun t ht hW => ⟨0, rfl, rfl, ht⟩) (fun _ h => absurd h List.not_mem_nil) dX12_isKitchen_17
set_option maxRecDepth 100000 in
set_option maxHeartbeats 4000000 in
theorem q_misLoad (l : Launch) (D : va_G) (cI cB cZ : ClassId) (g : Nat → Nat) (v0 : Int32) : Met l yX12_isLoad (CWS yX12_isLoad cX12_isLoad 2 (some .boolean)) (RM 0 0 0) (PBr [.ref (g 100), .int v0] D cI cB cZ [((g 100), .inr (13, oM g))]) (vp_Si (fun r => r = 0)) 0 0 (fun _ => False) := by
  refine Met.ofW (cc := cX12_isLoad) (maxL := 2) (ret := (some .boolean)) (by decide) rfl ?_
  intro p e s m args below meth c s₁ B hml hv
  obtain ⟨rfl, hP, hK⟩ := hv
  have hx := B.exec
  have hb := B.bytes
  have hr := B.returns
  have hts := atoms_spec (ws := (CWS yX12_isLoad cX12_isLoad 2 (some .boolean))) B.pre
  have hown : s.vm.findClass RX12 = some m.cls := findClass_of_methodNamed B.named
  have hlocks := B.notSynchronized
  have S : SF p m c cX12_isLoad 2 s ([.ref (g 100), .int v0]).toArray RX12 := ⟨hx, hb, hml, hown, fun w h => hts w (List.mem_cons_of_mem _ h)⟩
  have hP : va_P D vwCl [((g 100), .inr (13, oM g))] s.heap := hP
  have hl := lv_entry ([.ref (g 100), .int v0]) (n := 2) (Nat.le_of_ble_eq_true rfl)
  rw [lg_entry_eq]
  generalize (lg_sl ([.ref (g 100), .int v0]) ++ List.replicate (2 - (lg_sl ([.ref (g 100), .int v0])).length) Slot.unset).toArray = ls at hl ⊢
  have hl : lv_has ls 2 [(0, .ref (g 100)), (1, .int v0)] := hl
  refine lv_iload_n hx hb dX12_isLoad_0 rfl (lv_at hl 1 rfl) ?_
  refine lv_if_lt (tgt := 16) hx hb dX12_isLoad_1 (by decide) (fun c_1 => ?_) (fun c_1 => ?_)
  ·
    have tc_1 : (v0.toInt : Int) < 0 := Int32.lt_iff_toInt_lt.mp c_1
    refine lv_iconst (v := 0) hx hb dX12_isLoad_16 (by decide) ?_
    exact W.zret (v := 0) hx hb hr rfl (fun t ht hW => ⟨0, rfl, rfl, ht⟩) (fun _ h => absurd h List.not_mem_nil) dX12_isLoad_17
  ·
    have tc_1 : (0 : Int) ≤ v0.toInt := Int32.le_iff_toInt_le.mp (Int32.not_lt.mp c_1)
    refine lv_iload_n hx hb dX12_isLoad_4 rfl (lv_at hl 1 rfl) ?_
    refine lv_aload_n hx hb dX12_isLoad_5 rfl (lv_at hl 0 rfl) ?_
    refine gf_RX12_208 S hK hP 0 rfl (v := .int 0) rfl dX12_isLoad_6 ?_
    refine lv_icmp_ge (tgt := 16) hx hb dX12_isLoad_9 (by decide) (fun c_2 => ?_) (fun c_2 => False.elim (by have tc_2 : (v0.toInt : Int) < 0 := Int32.lt_iff_toInt_lt.mp (Int32.not_le.mp c_2); omega))
    have tc_2 : (0 : Int) ≤ v0.toInt := Int32.le_iff_toInt_le.mp c_2
    refine lv_iconst (v := 0) hx hb dX12_isLoad_16 (by decide) ?_
    exact W.zret (v := 0) hx hb hr rfl (fun t ht hW => ⟨0, rfl, rfl, ht⟩) (fun _ h => absurd h List.not_mem_nil) dX12_isLoad_17
set_option maxRecDepth 100000 in
set_option maxHeartbeats 4000000 in
theorem q_misBatch (l : Launch) (D : va_G) (cI cB cZ : ClassId) (g : Nat → Nat) (v0 : Int32) : Met l yX12_isBatch (CWS yX12_isBatch cX12_isBatch 2 (some .boolean)) (RM 0 0 0) (PBr [.ref (g 100), .int v0] D cI cB cZ [((g 100), .inr (13, oM g))]) (vp_Si (fun r => r = 0)) 0 0 (fun _ => False) := by
  refine Met.ofW (cc := cX12_isBatch) (maxL := 2) (ret := (some .boolean)) (by decide) rfl ?_
  intro p e s m args below meth c s₁ B hml hv
  obtain ⟨rfl, hP, hK⟩ := hv
  have hx := B.exec
  have hb := B.bytes
  have hr := B.returns
  have hts := atoms_spec (ws := (CWS yX12_isBatch cX12_isBatch 2 (some .boolean))) B.pre
  have hown : s.vm.findClass RX12 = some m.cls := findClass_of_methodNamed B.named
  have hlocks := B.notSynchronized
  have S : SF p m c cX12_isBatch 2 s ([.ref (g 100), .int v0]).toArray RX12 := ⟨hx, hb, hml, hown, fun w h => hts w (List.mem_cons_of_mem _ h)⟩
  have hP : va_P D vwCl [((g 100), .inr (13, oM g))] s.heap := hP
  have hl := lv_entry ([.ref (g 100), .int v0]) (n := 2) (Nat.le_of_ble_eq_true rfl)
  rw [lg_entry_eq]
  generalize (lg_sl ([.ref (g 100), .int v0]) ++ List.replicate (2 - (lg_sl ([.ref (g 100), .int v0])).length) Slot.unset).toArray = ls at hl ⊢
  have hl : lv_has ls 2 [(0, .ref (g 100)), (1, .int v0)] := hl
  refine lv_iload_n hx hb dX12_isBatch_0 rfl (lv_at hl 1 rfl) ?_
  refine lv_if_lt (tgt := 16) hx hb dX12_isBatch_1 (by decide) (fun c_1 => ?_) (fun c_1 => ?_)
  ·
    have tc_1 : (v0.toInt : Int) < 0 := Int32.lt_iff_toInt_lt.mp c_1
    refine lv_iconst (v := 0) hx hb dX12_isBatch_16 (by decide) ?_
    exact W.zret (v := 0) hx hb hr rfl (fun t ht hW => ⟨0, rfl, rfl, ht⟩) (fun _ h => absurd h List.not_mem_nil) dX12_isBatch_17
  ·
    have tc_1 : (0 : Int) ≤ v0.toInt := Int32.le_iff_toInt_le.mp (Int32.not_lt.mp c_1)
    refine lv_iload_n hx hb dX12_isBatch_4 rfl (lv_at hl 1 rfl) ?_
    refine lv_aload_n hx hb dX12_isBatch_5 rfl (lv_at hl 0 rfl) ?_
    refine gf_RX12_435 S hK hP 0 rfl (v := .int 0) rfl dX12_isBatch_6 ?_
    refine lv_icmp_ge (tgt := 16) hx hb dX12_isBatch_9 (by decide) (fun c_2 => ?_) (fun c_2 => False.elim (by have tc_2 : (v0.toInt : Int) < 0 := Int32.lt_iff_toInt_lt.mp (Int32.not_le.mp c_2); omega))
    have tc_2 : (0 : Int) ≤ v0.toInt := Int32.le_iff_toInt_le.mp c_2
    refine lv_iconst (v := 0) hx hb dX12_isBatch_16 (by decide) ?_
    exact W.zret (v := 0) hx hb hr rfl (fun t ht hW => ⟨0, rfl, rfl, ht⟩) (fun _ h => absurd h List.not_mem_nil) dX12_isBatch_17
set_option maxRecDepth 100000 in
set_option maxHeartbeats 4000000 in
theorem q_misProof (l : Launch) (D : va_G) (cI cB cZ : ClassId) (g : Nat → Nat) (v0 : Int32) : Met l yX12_isProof (CWS yX12_isProof cX12_isProof 2 (some .boolean)) (RM 0 0 0) (PBr [.ref (g 100), .int v0] D cI cB cZ [((g 100), .inr (13, oM g))]) (vp_Si (fun r => r = 0)) 0 0 (fun _ => False) := by
  refine Met.ofW (cc := cX12_isProof) (maxL := 2) (ret := (some .boolean)) (by decide) rfl ?_
  intro p e s m args below meth c s₁ B hml hv
  obtain ⟨rfl, hP, hK⟩ := hv
  have hx := B.exec
  have hb := B.bytes
  have hr := B.returns
  have hts := atoms_spec (ws := (CWS yX12_isProof cX12_isProof 2 (some .boolean))) B.pre
  have hown : s.vm.findClass RX12 = some m.cls := findClass_of_methodNamed B.named
  have hlocks := B.notSynchronized
  have S : SF p m c cX12_isProof 2 s ([.ref (g 100), .int v0]).toArray RX12 := ⟨hx, hb, hml, hown, fun w h => hts w (List.mem_cons_of_mem _ h)⟩
  have hP : va_P D vwCl [((g 100), .inr (13, oM g))] s.heap := hP
  have hl := lv_entry ([.ref (g 100), .int v0]) (n := 2) (Nat.le_of_ble_eq_true rfl)
  rw [lg_entry_eq]
  generalize (lg_sl ([.ref (g 100), .int v0]) ++ List.replicate (2 - (lg_sl ([.ref (g 100), .int v0])).length) Slot.unset).toArray = ls at hl ⊢
  have hl : lv_has ls 2 [(0, .ref (g 100)), (1, .int v0)] := hl
  refine lv_iload_n hx hb dX12_isProof_0 rfl (lv_at hl 1 rfl) ?_
  refine lv_if_lt (tgt := 16) hx hb dX12_isProof_1 (by decide) (fun c_1 => ?_) (fun c_1 => ?_)
  ·
    have tc_1 : (v0.toInt : Int) < 0 := Int32.lt_iff_toInt_lt.mp c_1
    refine lv_iconst (v := 0) hx hb dX12_isProof_16 (by decide) ?_
    exact W.zret (v := 0) hx hb hr rfl (fun t ht hW => ⟨0, rfl, rfl, ht⟩) (fun _ h => absurd h List.not_mem_nil) dX12_isProof_17
  ·
    have tc_1 : (0 : Int) ≤ v0.toInt := Int32.le_iff_toInt_le.mp (Int32.not_lt.mp c_1)
    refine lv_iload_n hx hb dX12_isProof_4 rfl (lv_at hl 1 rfl) ?_
    refine lv_aload_n hx hb dX12_isProof_5 rfl (lv_at hl 0 rfl) ?_
    refine gf_RX12_447 S hK hP 0 rfl (v := .int 0) rfl dX12_isProof_6 ?_
    refine lv_icmp_ge (tgt := 16) hx hb dX12_isProof_9 (by decide) (fun c_2 => ?_) (fun c_2 => False.elim (by have tc_2 : (v0.toInt : Int) < 0 := Int32.lt_iff_toInt_lt.mp (Int32.not_le.mp c_2); omega))
    have tc_2 : (0 : Int) ≤ v0.toInt := Int32.le_iff_toInt_le.mp c_2
    refine lv_iconst (v := 0) hx hb dX12_isProof_16 (by decide) ?_
    exact W.zret (v := 0) hx hb hr rfl (fun t ht hW => ⟨0, rfl, rfl, ht⟩) (fun _ h => absurd h List.not_mem_nil) dX12_isProof_17
set_option maxRecDepth 100000 in
set_option maxHeartbeats 4000000 in
theorem q_misDrum (l : Launch) (D : va_G) (cI cB cZ : ClassId) (g : Nat → Nat) (v0 : Int32) : Met l yX12_isDrum (CWS yX12_isDrum cX12_isDrum 2 (some .boolean)) (RM 0 0 0) (PBr [.ref (g 100), .int v0] D cI cB cZ [((g 100), .inr (13, oM g))]) (vp_Si (fun r => r = 0)) 0 0 (fun _ => False) := by
  refine Met.ofW (cc := cX12_isDrum) (maxL := 2) (ret := (some .boolean)) (by decide) rfl ?_
  intro p e s m args below meth c s₁ B hml hv
  obtain ⟨rfl, hP, hK⟩ := hv
  have hx := B.exec
  have hb := B.bytes
  have hr := B.returns
  have hts := atoms_spec (ws := (CWS yX12_isDrum cX12_isDrum 2 (some .boolean))) B.pre
  have hown : s.vm.findClass RX12 = some m.cls := findClass_of_methodNamed B.named
  have hlocks := B.notSynchronized
  have S : SF p m c cX12_isDrum 2 s ([.ref (g 100), .int v0]).toArray RX12 := ⟨hx, hb, hml, hown, fun w h => hts w (List.mem_cons_of_mem _ h)⟩
  have hP : va_P D vwCl [((g 100), .inr (13, oM g))] s.heap := hP
  have hl := lv_entry ([.ref (g 100), .int v0]) (n := 2) (Nat.le_of_ble_eq_true rfl)
  rw [lg_entry_eq]
  generalize (lg_sl ([.ref (g 100), .int v0]) ++ List.replicate (2 - (lg_sl ([.ref (g 100), .int v0])).length) Slot.unset).toArray = ls at hl ⊢
  have hl : lv_has ls 2 [(0, .ref (g 100)), (1, .int v0)] := hl
  refine lv_iload_n hx hb dX12_isDrum_0 rfl (lv_at hl 1 rfl) ?_
  refine lv_if_lt (tgt := 16) hx hb dX12_isDrum_1 (by decide) (fun c_1 => ?_) (fun c_1 => ?_)
  ·
    have tc_1 : (v0.toInt : Int) < 0 := Int32.lt_iff_toInt_lt.mp c_1
    refine lv_iconst (v := 0) hx hb dX12_isDrum_16 (by decide) ?_
    exact W.zret (v := 0) hx hb hr rfl (fun t ht hW => ⟨0, rfl, rfl, ht⟩) (fun _ h => absurd h List.not_mem_nil) dX12_isDrum_17
  ·
    have tc_1 : (0 : Int) ≤ v0.toInt := Int32.le_iff_toInt_le.mp (Int32.not_lt.mp c_1)
    refine lv_iload_n hx hb dX12_isDrum_4 rfl (lv_at hl 1 rfl) ?_
    refine lv_aload_n hx hb dX12_isDrum_5 rfl (lv_at hl 0 rfl) ?_
    refine gf_RX12_407 S hK hP 0 rfl (v := .int 0) rfl dX12_isDrum_6 ?_
    refine lv_icmp_ge (tgt := 16) hx hb dX12_isDrum_9 (by decide) (fun c_2 => ?_) (fun c_2 => False.elim (by have tc_2 : (v0.toInt : Int) < 0 := Int32.lt_iff_toInt_lt.mp (Int32.not_le.mp c_2); omega))
    have tc_2 : (0 : Int) ≤ v0.toInt := Int32.le_iff_toInt_le.mp c_2
    refine lv_iconst (v := 0) hx hb dX12_isDrum_16 (by decide) ?_
    exact W.zret (v := 0) hx hb hr rfl (fun t ht hW => ⟨0, rfl, rfl, ht⟩) (fun _ h => absurd h List.not_mem_nil) dX12_isDrum_17
set_option maxRecDepth 100000 in
set_option maxHeartbeats 4000000 in
theorem q_misFree (l : Launch) (D : va_G) (cI cB cZ : ClassId) (g : Nat → Nat) (v0 : Int32) : Met l yX12_isFree (CWS yX12_isFree cX12_isFree 2 (some .boolean)) (RM 1 0 0) (PBr [.ref (g 100), .int v0] D cI cB cZ [((g 100), .inr (13, oM g))]) (vp_Si (fun r => r = 0)) 0 0 (fun _ => False) := by
  refine Met.ofW (cc := cX12_isFree) (maxL := 2) (ret := (some .boolean)) (by decide) rfl ?_
  intro p e s m args below meth c s₁ B hml hv
  obtain ⟨rfl, hP, hK⟩ := hv
  have hx := B.exec
  have hb := B.bytes
  have hr := B.returns
  have hts := atoms_spec (ws := (CWS yX12_isFree cX12_isFree 2 (some .boolean))) B.pre
  have hown : s.vm.findClass RX12 = some m.cls := findClass_of_methodNamed B.named
  have hlocks := B.notSynchronized
  have S : SF p m c cX12_isFree 2 s ([.ref (g 100), .int v0]).toArray RX12 := ⟨hx, hb, hml, hown, fun w h => hts w (List.mem_cons_of_mem _ h)⟩
  have hP : va_P D vwCl [((g 100), .inr (13, oM g))] s.heap := hP
  have hl := lv_entry ([.ref (g 100), .int v0]) (n := 2) (Nat.le_of_ble_eq_true rfl)
  rw [lg_entry_eq]
  generalize (lg_sl ([.ref (g 100), .int v0]) ++ List.replicate (2 - (lg_sl ([.ref (g 100), .int v0])).length) Slot.unset).toArray = ls at hl ⊢
  have hl : lv_has ls 2 [(0, .ref (g 100)), (1, .int v0)] := hl
  refine lv_aload_n hx hb dX12_isFree_0 rfl (lv_at hl 0 rfl) ?_
  refine lv_iload_n hx hb dX12_isFree_1 rfl (lv_at hl 1 rfl) ?_
  refine vp_callSi (runV_r (As := [.int v0]) (rest := []) S (q_misLoad l D cI cB cZ g v0) kV_RX12_335 hK hP [0] rfl 0 rfl rfl rfl ⟨Nat.le_of_ble_eq_true rfl, Nat.le_of_ble_eq_true rfl⟩ ⟨Nat.le_of_ble_eq_true rfl, Nat.le_of_ble_eq_true rfl⟩ rfl hl.1 rfl (Nat.le_of_ble_eq_true rfl) dX12_isFree_2) (fun r_1 h_2 => ?_)
  subst h_2
  refine lv_if_eq (tgt := 35) hx hb dX12_isFree_5 (by decide) (fun _ => ?_) (fun h => absurd h (by decide))
  refine lv_iconst (v := 0) hx hb dX12_isFree_35 (by decide) ?_
  exact W.zret (v := 0) hx hb hr rfl (fun t ht hW => ⟨0, rfl, rfl, ht⟩) (fun _ h => absurd h List.not_mem_nil) dX12_isFree_36
set_option maxRecDepth 100000 in
set_option maxHeartbeats 4000000 in
theorem q_mchoose (l : Launch) (D : va_G) (cI cB cZ : ClassId)  : Met l yX12_choose (CWS yX12_choose cX12_choose 5 (some .long)) (RM 0 0 0) (PBr [.int 0, .int 0] D cI cB cZ []) (vp_Sl (fun r => r = 1)) 0 0 (fun _ => False) := by
  refine Met.ofW (cc := cX12_choose) (maxL := 5) (ret := (some .long)) (by decide) rfl ?_
  intro p e s m args below meth c s₁ B hml hv
  obtain ⟨rfl, hP, hK⟩ := hv
  have hx := B.exec
  have hb := B.bytes
  have hr := B.returns
  have hts := atoms_spec (ws := (CWS yX12_choose cX12_choose 5 (some .long))) B.pre
  have hown : s.vm.findClass RX12 = some m.cls := findClass_of_methodNamed B.named
  have hlocks := B.notSynchronized
  have S : SF p m c cX12_choose 5 s ([.int 0, .int 0]).toArray RX12 := ⟨hx, hb, hml, hown, fun w h => hts w (List.mem_cons_of_mem _ h)⟩
  have hP : va_P D vwCl [] s.heap := hP
  have hl := lv_entry ([.int 0, .int 0]) (n := 5) (Nat.le_of_ble_eq_true rfl)
  rw [lg_entry_eq]
  generalize (lg_sl ([.int 0, .int 0]) ++ List.replicate (5 - (lg_sl ([.int 0, .int 0])).length) Slot.unset).toArray = ls at hl ⊢
  have hl : lv_has ls 5 [(0, .int 0), (1, .int 0)] := hl
  refine lv_iload_n hx hb dX12_choose_0 rfl (lv_at hl 1 rfl) ?_
  refine lv_if_lt (tgt := 9) hx hb dX12_choose_1 (by decide) (fun h => absurd h (by decide)) (fun _ => ?_)
  refine lv_iload_n hx hb dX12_choose_4 rfl (lv_at hl 1 rfl) ?_
  refine lv_iload_n hx hb dX12_choose_5 rfl (lv_at hl 0 rfl) ?_
  refine lv_icmp_le (tgt := 11) hx hb dX12_choose_6 (by decide) (fun _ => ?_) (fun h => absurd h (by decide))
  refine lv_lconst (v := 1) hx hb dX12_choose_11 (by decide) ?_
  refine lv_lstore_n (lv' := [(2, .long 1), (0, .int 0), (1, .int 0)]) hx hb dX12_choose_12 rfl hl (by decide) rfl (fun ls hl => ?_)
  refine lv_iconst (v := 1) hx hb dX12_choose_13 (by decide) ?_
  refine lv_istore (lv' := [(4, .int 1), (2, .long 1), (0, .int 0), (1, .int 0)]) hx hb dX12_choose_14 hl (by decide) rfl (fun ls hl => ?_)
  refine lv_iload hx hb dX12_choose_16 (lv_at hl 0 rfl) ?_
  refine lv_iload_n hx hb dX12_choose_18 rfl (lv_at hl 3 rfl) ?_
  refine lv_icmp_gt (tgt := 42) hx hb dX12_choose_19 (by decide) (fun _ => ?_) (fun h => absurd h (by decide))
  refine lv_lload_n hx hb dX12_choose_42 rfl (lv_at hl 1 rfl) ?_
  exact W.lret (v := 1) hx hb hr (fun t ht hW => ⟨1, rfl, rfl, ht⟩) (fun _ h => absurd h List.not_mem_nil) dX12_choose_43
set_option maxRecDepth 100000 in
set_option maxHeartbeats 4000000 in
theorem q_mbyLot (l : Launch) (D : va_G) (cI cB cZ : ClassId) (g : Nat → Nat) (v4 : Int32) : Met l yX12_byLot (CWS yX12_byLot cX12_byLot 15 (some .long)) (RM 1 0 0) (PBr [.ref (g 100), .int 0, .int 0, .int 0, .int v4] D cI cB cZ [((g 100), .inr (13, oM g))]) (vp_Sl (fun r => r = (if v4.toInt = 2 then (0 : Int64) else 1))) 0 0 (fun _ => False) := by
  refine Met.ofW (cc := cX12_byLot) (maxL := 15) (ret := (some .long)) (by decide) rfl ?_
  intro p e s m args below meth c s₁ B hml hv
  obtain ⟨rfl, hP, hK⟩ := hv
  have hx := B.exec
  have hb := B.bytes
  have hr := B.returns
  have hts := atoms_spec (ws := (CWS yX12_byLot cX12_byLot 15 (some .long))) B.pre
  have hown : s.vm.findClass RX12 = some m.cls := findClass_of_methodNamed B.named
  have hlocks := B.notSynchronized
  have S : SF p m c cX12_byLot 15 s ([.ref (g 100), .int 0, .int 0, .int 0, .int v4]).toArray RX12 := ⟨hx, hb, hml, hown, fun w h => hts w (List.mem_cons_of_mem _ h)⟩
  have hP : va_P D vwCl [((g 100), .inr (13, oM g))] s.heap := hP
  have hl := lv_entry ([.ref (g 100), .int 0, .int 0, .int 0, .int v4]) (n := 15) (Nat.le_of_ble_eq_true rfl)
  rw [lg_entry_eq]
  generalize (lg_sl ([.ref (g 100), .int 0, .int 0, .int 0, .int v4]) ++ List.replicate (15 - (lg_sl ([.ref (g 100), .int 0, .int 0, .int 0, .int v4])).length) Slot.unset).toArray = ls at hl ⊢
  have hl : lv_has ls 15 [(0, .ref (g 100)), (1, .int 0), (2, .int 0), (3, .int 0), (4, .int v4)] := hl
  refine lv_iload hx hb dX12_byLot_0 (lv_at hl 4 rfl) ?_
  refine lv_iconst (v := 2) hx hb dX12_byLot_2 (by decide) ?_
  refine lv_icmp_ne (tgt := 9) hx hb dX12_byLot_3 (by decide) (fun c_1 => ?_) (fun c_1 => ?_)
  ·
    have tc_1 : (v4.toInt : Int) ≠ 2 := fun q => c_1 (Int32.toInt_inj.mp q)
    refine lv_lconst (v := 0) hx hb dX12_byLot_9 (by decide) ?_
    refine lv_lstore (lv' := [(5, .long 0), (0, .ref (g 100)), (1, .int 0), (2, .int 0), (3, .int 0), (4, .int v4)]) hx hb dX12_byLot_10 hl (by decide) rfl (fun ls hl => ?_)
    refine lv_iload_n hx hb dX12_byLot_12 rfl (lv_at hl 4 rfl) ?_
    refine lv_istore (lv' := [(7, .int 0), (5, .long 0), (0, .ref (g 100)), (1, .int 0), (2, .int 0), (3, .int 0), (4, .int v4)]) hx hb dX12_byLot_13 hl (by decide) rfl (fun ls hl => ?_)
    refine lv_iload hx hb dX12_byLot_15 (lv_at hl 0 rfl) ?_
    refine lv_iload_n hx hb dX12_byLot_17 rfl (lv_at hl 4 rfl) ?_
    refine lv_icmp_gt (tgt := 52) hx hb dX12_byLot_18 (by decide) (fun h => absurd h (by decide)) (fun _ => ?_)
    refine lv_lload hx hb dX12_byLot_21 (lv_at hl 1 rfl) ?_
    refine lv_iload_n hx hb dX12_byLot_23 rfl (lv_at hl 4 rfl) ?_
    refine lv_iload hx hb dX12_byLot_24 (lv_at hl 0 rfl) ?_
    refine vp_callSl (runS_r (As := [.int 0, .int 0]) (rest := [.long 0]) S (q_mchoose l D cI cB cZ ) kS_RX12_344 hK hP [] rfl ⟨Nat.le_of_ble_eq_true rfl, Nat.le_of_ble_eq_true rfl⟩ ⟨Nat.le_of_ble_eq_true rfl, Nat.le_of_ble_eq_true rfl⟩ rfl hl.1 rfl (Nat.le_of_ble_eq_true rfl) dX12_byLot_26) (fun r_2 h_3 => ?_)
    subst h_3
    refine lv_aload_n hx hb dX12_byLot_29 rfl (lv_at hl 2 rfl) ?_
    refine gf_RX12_208 S hK hP 0 rfl (v := .int 0) rfl dX12_byLot_30 ?_
    refine lv_iload_n hx hb dX12_byLot_33 rfl (lv_at hl 4 rfl) ?_
    refine lv_isub hx hb dX12_byLot_34 ?_
    refine lv_topi (fun y_4 ey_4 => ?_)
    obtain rfl : y_4 = 0 := ey_4.trans (by decide)
    refine lv_iload_n hx hb dX12_byLot_35 rfl (lv_at hl 3 rfl) ?_
    refine lv_iload hx hb dX12_byLot_36 (lv_at hl 0 rfl) ?_
    refine lv_isub hx hb dX12_byLot_38 ?_
    refine lv_topi (fun y_5 ey_5 => ?_)
    obtain rfl : y_5 = 0 := ey_5.trans (by decide)
    refine vp_callSl (runS_r (As := [.int 0, .int 0]) (rest := [.long 1, .long 0]) S (q_mchoose l D cI cB cZ ) kS_RX12_344 hK hP [] rfl ⟨Nat.le_of_ble_eq_true rfl, Nat.le_of_ble_eq_true rfl⟩ ⟨Nat.le_of_ble_eq_true rfl, Nat.le_of_ble_eq_true rfl⟩ rfl hl.1 rfl (Nat.le_of_ble_eq_true rfl) dX12_byLot_39) (fun r_6 h_7 => ?_)
    subst h_7
    refine lv_lmul hx hb dX12_byLot_42 ?_
    refine lv_topl (fun y_8 ey_8 => ?_)
    obtain rfl : y_8 = 1 := ey_8.trans (by decide)
    refine lv_ladd hx hb dX12_byLot_43 ?_
    refine lv_topl (fun y_9 ey_9 => ?_)
    obtain rfl : y_9 = 1 := ey_9.trans (by decide)
    refine lv_lstore (lv' := [(5, .long 1), (7, .int 0), (0, .ref (g 100)), (1, .int 0), (2, .int 0), (3, .int 0), (4, .int v4)]) hx hb dX12_byLot_44 hl (by decide) rfl (fun ls hl => ?_)
    refine lv_iinc (v := 1) (lv' := [(7, .int 1), (5, .long 1), (0, .ref (g 100)), (1, .int 0), (2, .int 0), (3, .int 0), (4, .int v4)]) hx hb dX12_byLot_46 hl (k := 1) rfl (by decide) (by decide) rfl (fun ls hl => ?_)
    refine lv_goto (tgt := 15) hx hb dX12_byLot_49 (by decide) ?_
    refine lv_iload hx hb dX12_byLot_15 (lv_at hl 0 rfl) ?_
    refine lv_iload_n hx hb dX12_byLot_17 rfl (lv_at hl 4 rfl) ?_
    refine lv_icmp_gt (tgt := 52) hx hb dX12_byLot_18 (by decide) (fun _ => ?_) (fun h => absurd h (by decide))
    refine lv_aload_n hx hb dX12_byLot_52 rfl (lv_at hl 2 rfl) ?_
    refine gf_RX12_208 S hK hP 0 rfl (v := .int 0) rfl dX12_byLot_53 ?_
    refine lv_iload_n hx hb dX12_byLot_56 rfl (lv_at hl 3 rfl) ?_
    refine vp_callSl (runS_r (As := [.int 0, .int 0]) (rest := []) S (q_mchoose l D cI cB cZ ) kS_RX12_344 hK hP [] rfl ⟨Nat.le_of_ble_eq_true rfl, Nat.le_of_ble_eq_true rfl⟩ ⟨Nat.le_of_ble_eq_true rfl, Nat.le_of_ble_eq_true rfl⟩ rfl hl.1 rfl (Nat.le_of_ble_eq_true rfl) dX12_byLot_57) (fun r_10 h_11 => ?_)
    subst h_11
    refine lv_lstore (lv' := [(7, .long 1), (5, .long 1), (0, .ref (g 100)), (1, .int 0), (2, .int 0), (3, .int 0), (4, .int v4)]) hx hb dX12_byLot_60 hl (by decide) rfl (fun ls hl => ?_)
    refine lv_lload hx hb dX12_byLot_62 (lv_at hl 1 rfl) ?_
    refine lv_lstore (lv' := [(9, .long 1), (7, .long 1), (5, .long 1), (0, .ref (g 100)), (1, .int 0), (2, .int 0), (3, .int 0), (4, .int v4)]) hx hb dX12_byLot_64 hl (by decide) rfl (fun ls hl => ?_)
    refine lv_lload hx hb dX12_byLot_66 (lv_at hl 1 rfl) ?_
    refine lv_lstore (lv' := [(11, .long 1), (9, .long 1), (7, .long 1), (5, .long 1), (0, .ref (g 100)), (1, .int 0), (2, .int 0), (3, .int 0), (4, .int v4)]) hx hb dX12_byLot_68 hl (by decide) rfl (fun ls hl => ?_)
    refine lv_lload hx hb dX12_byLot_70 (lv_at hl 0 rfl) ?_
    refine lv_lconst (v := 0) hx hb dX12_byLot_72 (by decide) ?_
    refine W.lcmp hx hb dX12_byLot_73 ?_
    refine lv_topi (fun y_12 ey_12 => ?_)
    obtain rfl : y_12 = 1 := ey_12.trans (by decide)
    refine lv_if_eq (tgt := 95) hx hb dX12_byLot_74 (by decide) (fun h => absurd h (by decide)) (fun _ => ?_)
    refine lv_lload hx hb dX12_byLot_77 (lv_at hl 1 rfl) ?_
    refine lv_lload hx hb dX12_byLot_79 (lv_at hl 0 rfl) ?_
    refine lv_lrem hx hb dX12_byLot_81 (by decide) ?_
    refine lv_topl (fun y_13 ey_13 => ?_)
    obtain rfl : y_13 = 0 := ey_13.trans (by decide)
    refine lv_lstore (lv' := [(13, .long 0), (11, .long 1), (9, .long 1), (7, .long 1), (5, .long 1), (0, .ref (g 100)), (1, .int 0), (2, .int 0), (3, .int 0), (4, .int v4)]) hx hb dX12_byLot_82 hl (by decide) rfl (fun ls hl => ?_)
    refine lv_lload hx hb dX12_byLot_84 (lv_at hl 1 rfl) ?_
    refine lv_lstore (lv' := [(9, .long 1), (13, .long 0), (11, .long 1), (7, .long 1), (5, .long 1), (0, .ref (g 100)), (1, .int 0), (2, .int 0), (3, .int 0), (4, .int v4)]) hx hb dX12_byLot_86 hl (by decide) rfl (fun ls hl => ?_)
    refine lv_lload hx hb dX12_byLot_88 (lv_at hl 1 rfl) ?_
    refine lv_lstore (lv' := [(11, .long 0), (9, .long 1), (13, .long 0), (7, .long 1), (5, .long 1), (0, .ref (g 100)), (1, .int 0), (2, .int 0), (3, .int 0), (4, .int v4)]) hx hb dX12_byLot_90 hl (by decide) rfl (fun ls hl => ?_)
    refine lv_goto (tgt := 70) hx hb dX12_byLot_92 (by decide) ?_
    refine lv_lload hx hb dX12_byLot_70 (lv_at hl 0 rfl) ?_
    refine lv_lconst (v := 0) hx hb dX12_byLot_72 (by decide) ?_
    refine W.lcmp hx hb dX12_byLot_73 ?_
    refine lv_topi (fun y_14 ey_14 => ?_)
    obtain rfl : y_14 = 0 := ey_14.trans (by decide)
    refine lv_if_eq (tgt := 95) hx hb dX12_byLot_74 (by decide) (fun _ => ?_) (fun h => absurd h (by decide))
    refine lv_iload hx hb dX12_byLot_95 (lv_at hl 9 rfl) ?_
    refine lv_if_ne (tgt := 108) hx hb dX12_byLot_97 (by decide) (fun c_15 => ?_) (fun c_15 => ?_)
    ·
      have tc_15 : (v4.toInt : Int) ≠ 0 := fun q => c_15 (Int32.toInt_inj.mp q)
      refine lv_lload hx hb dX12_byLot_108 (lv_at hl 3 rfl) ?_
      refine lv_lload hx hb dX12_byLot_110 (lv_at hl 1 rfl) ?_
      refine lv_ldiv hx hb dX12_byLot_112 (by decide) ?_
      refine lv_topl (fun y_16 ey_16 => ?_)
      obtain rfl : y_16 = 1 := ey_16.trans (by decide)
      exact W.lret (v := 1) hx hb hr (fun t ht hW => ⟨1, rfl, (if_neg (by omega)).symm, ht⟩) (fun _ h => absurd h List.not_mem_nil) dX12_byLot_113
    ·
      have tc_15 : (v4.toInt : Int) = 0 := congrArg Int32.toInt c_15
      refine lv_lload hx hb dX12_byLot_100 (lv_at hl 4 rfl) ?_
      refine lv_lload hx hb dX12_byLot_102 (lv_at hl 1 rfl) ?_
      refine lv_ldiv hx hb dX12_byLot_104 (by decide) ?_
      refine lv_topl (fun y_17 ey_17 => ?_)
      obtain rfl : y_17 = 1 := ey_17.trans (by decide)
      refine lv_goto (tgt := 113) hx hb dX12_byLot_105 (by decide) ?_
      exact W.lret (v := 1) hx hb hr (fun t ht hW => ⟨1, rfl, (if_neg (by omega)).symm, ht⟩) (fun _ h => absurd h List.not_mem_nil) dX12_byLot_113
  ·
    have tc_1 : (v4.toInt : Int) = 2 := congrArg Int32.toInt c_1
    refine lv_iload_n hx hb dX12_byLot_6 rfl (lv_at hl 3 rfl) ?_
    refine lv_i2l (v := 0) hx hb dX12_byLot_7 (by decide) ?_
    exact W.lret (v := 0) hx hb hr (fun t ht hW => ⟨0, rfl, (if_pos (by omega)).symm, ht⟩) (fun _ h => absurd h List.not_mem_nil) dX12_byLot_8
set_option maxRecDepth 100000 in
set_option maxHeartbeats 4000000 in
theorem q_mlacking (l : Launch) (D : va_G) (cI cB cZ : ClassId) (g : Nat → Nat) : Met l yX12_lacking (CWS yX12_lacking cX12_lacking 3 (some .int)) (RM 0 0 0) (PBr [.ref (g 100)] D cI cB cZ [((g 100), .inr (13, oM g))]) (vp_Si (fun r => r = 0)) 0 0 (fun _ => False) := by
  refine Met.ofW (cc := cX12_lacking) (maxL := 3) (ret := (some .int)) (by decide) rfl ?_
  intro p e s m args below meth c s₁ B hml hv
  obtain ⟨rfl, hP, hK⟩ := hv
  have hx := B.exec
  have hb := B.bytes
  have hr := B.returns
  have hts := atoms_spec (ws := (CWS yX12_lacking cX12_lacking 3 (some .int))) B.pre
  have hown : s.vm.findClass RX12 = some m.cls := findClass_of_methodNamed B.named
  have hlocks := B.notSynchronized
  have S : SF p m c cX12_lacking 3 s ([.ref (g 100)]).toArray RX12 := ⟨hx, hb, hml, hown, fun w h => hts w (List.mem_cons_of_mem _ h)⟩
  have hP : va_P D vwCl [((g 100), .inr (13, oM g))] s.heap := hP
  have hl := lv_entry ([.ref (g 100)]) (n := 3) (Nat.le_of_ble_eq_true rfl)
  rw [lg_entry_eq]
  generalize (lg_sl ([.ref (g 100)]) ++ List.replicate (3 - (lg_sl ([.ref (g 100)])).length) Slot.unset).toArray = ls at hl ⊢
  have hl : lv_has ls 3 [(0, .ref (g 100))] := hl
  refine lv_iconst (v := 0) hx hb dX12_lacking_0 (by decide) ?_
  refine lv_istore_n (lv' := [(1, .int 0), (0, .ref (g 100))]) hx hb dX12_lacking_1 rfl hl (by decide) rfl (fun ls hl => ?_)
  refine lv_iconst (v := 0) hx hb dX12_lacking_2 (by decide) ?_
  refine lv_istore_n (lv' := [(2, .int 0), (1, .int 0), (0, .ref (g 100))]) hx hb dX12_lacking_3 rfl hl (by decide) rfl (fun ls hl => ?_)
  refine lv_iload_n hx hb dX12_lacking_4 rfl (lv_at hl 0 rfl) ?_
  refine lv_aload_n hx hb dX12_lacking_5 rfl (lv_at hl 2 rfl) ?_
  refine gf_RX12_208 S hK hP 0 rfl (v := .int 0) rfl dX12_lacking_6 ?_
  refine lv_icmp_ge (tgt := 35) hx hb dX12_lacking_9 (by decide) (fun _ => ?_) (fun h => absurd h (by decide))
  refine lv_iload_n hx hb dX12_lacking_35 rfl (lv_at hl 1 rfl) ?_
  exact W.iret (v := 0) hx hb hr (fun t ht hW => ⟨0, rfl, rfl, ht⟩) (fun _ h => absurd h List.not_mem_nil) dX12_lacking_36
set_option maxRecDepth 100000 in
set_option maxHeartbeats 4000000 in
theorem q_M_now (l : Launch) (D : va_G) (cI cB cZ : ClassId) (g : Nat → Nat) (v0 : Int32) (sz : Nat) : Met l yX12_now (CWS yX12_now cX12_now 2 (some .boolean)) (RM 3 0 0) (PBw [.ref (g 100), .int v0] D cI cB cZ [((g 100), .inr (13, oM g))] sz) (va_Qi (fun (r : Int32) (_ : Unit) => r = (if 0 ≤ v0.toInt ∧ v0.toInt ≤ 399 then (1 : Int32) else 0)) (fun (_ : Unit) (_ : State) => True) (va_A [((g 100), .inr (13, oM g))] sz)) 0 0 (va_A [((g 100), .inr (13, oM g))] sz) := by
  refine Met.ofW (cc := cX12_now) (maxL := 2) (ret := (some .boolean)) (by decide) rfl ?_
  intro p e s m args below meth c s₁ B hml hv
  obtain ⟨rfl, hsz, hP, hK, hD0⟩ := hv
  have hx := B.exec
  have hb := B.bytes
  have hr := B.returns
  have hts := atoms_spec (ws := (CWS yX12_now cX12_now 2 (some .boolean))) B.pre
  have hown : s.vm.findClass RX12 = some m.cls := findClass_of_methodNamed B.named
  have hlocks := B.notSynchronized
  have S : SF p m c cX12_now 2 s ([.ref (g 100), .int v0]).toArray RX12 := ⟨hx, hb, hml, hown, fun w h => hts w (List.mem_cons_of_mem _ h)⟩
  subst hsz
  have hD := hD0.self (sz := s.heap.size)
  generalize hAe : va_A [((g 100), .inr (13, oM g))] s.heap.size = A at hD ⊢
  have hA : ∀ q : Nat, s.heap.size ≤ q → A q := fun q h => by rw [← hAe]; exact Or.inr h
  have hS : va_S A s.heap s.heap [] := va_S.rf
  have hP : va_P D vwCl [((g 100), .inr (13, oM g))] s.heap := hP
  have hD : va_D A [((g 100), .inr (13, oM g))] := hD
  have hl := lv_entry ([.ref (g 100), .int v0]) (n := 2) (Nat.le_of_ble_eq_true rfl)
  rw [lg_entry_eq]
  generalize (lg_sl ([.ref (g 100), .int v0]) ++ List.replicate (2 - (lg_sl ([.ref (g 100), .int v0])).length) Slot.unset).toArray = ls at hl ⊢
  have hl : lv_has ls 2 [(0, .ref (g 100)), (1, .int v0)] := hl
  refine lv_iload_n hx hb dX12_now_0 rfl (lv_at hl 1 rfl) ?_
  refine lv_aload_n hx hb dX12_now_1 rfl (lv_at hl 0 rfl) ?_
  refine gf_RX12_211 S hK hP 0 rfl (v := .int 0) rfl dX12_now_2 ?_
  refine lv_sipush (v := 399) hx hb dX12_now_5 (by decide) ?_
  refine vp_callSi (runS_r (As := [.int v0, .int 0, .int 399]) (rest := []) S (q_in l D cI cB cZ v0 0 399) kS_RX12_214 hK hP [] rfl ⟨Nat.le_of_ble_eq_true rfl, Nat.le_of_ble_eq_true rfl⟩ ⟨Nat.le_of_ble_eq_true rfl, Nat.le_of_ble_eq_true rfl⟩ rfl hl.1 rfl (Nat.le_of_ble_eq_true rfl) dX12_now_8) (fun r_1 h_2 => ?_)
  rcases h_2 with ⟨rfl, h_2⟩ | ⟨rfl, h_2⟩
  ·
    have h_2 : 0 ≤ v0.toInt ∧ v0.toInt ≤ 399 := h_2
    refine lv_if_ne (tgt := 16) hx hb dX12_now_11 (by decide) (fun _ => ?_) (fun h => absurd h (by decide))
    refine lv_aload_n hx hb dX12_now_16 rfl (lv_at hl 0 rfl) ?_
    refine lv_iload_n hx hb dX12_now_17 rfl (lv_at hl 1 rfl) ?_
    refine pf_RX12_211 S hK hP hD hS 0 rfl (v := .int v0) (Nat.le_of_ble_eq_true rfl) rfl rfl dX12_now_18 (fun H locs hP hD hS => ?_)
    have hP : va_P D vwCl [((g 100), .inr (13, [.int v0, .int 0, .int 0, .ref (g 3), .ref (g 4), .ref (g 5), .ref (g 6), .ref (g 7), .ref (g 8), .ref (g 9), .ref (g 10), .ref (g 11), .ref (g 12), .ref (g 13), .ref (g 14), .ref (g 15), .ref (g 16), .ref (g 17), .int 0, .int 0, .int 0, .int 0, .int 0, .int 0, .int 0, .int 0, .int 0, .ref (g 27), .ref (g 28), .ref (g 29), .ref (g 30), .ref (g 31), .ref (g 32), .ref (g 33), .ref (g 34), .ref (g 35), .ref (g 36), .ref (g 37), .ref (g 38), .ref (g 39), .ref (g 40), .ref (g 41), .ref (g 42), .ref (g 43), .int 0, .int 0, .int 0, .ref (g 47), .ref (g 48), .ref (g 49), .ref (g 50), .ref (g 51), .ref (g 52), .ref (g 53), .int 0, .int 0, .int 0, .int 0, .int 0, .ref (g 59), .ref (g 60), .ref (g 61), .int 0, .int 0, .ref (g 64), .ref (g 65), .ref (g 66), .ref (g 67), .ref (g 68), .ref (g 69), .ref (g 70), .int 0, .int 0, .int 0, .ref (g 74), .int 0, .ref (g 76), .ref (g 77), .ref (g 78), .ref (g 79), .ref (g 80), .ref (g 81), .ref (g 82), .int 0, .ref (g 84), .ref (g 85), .ref (g 86), .ref (g 87), .ref (g 88), .ref (g 89), .ref (g 90)]))] H := hP
    have hD : va_D A [((g 100), .inr (13, [.int v0, .int 0, .int 0, .ref (g 3), .ref (g 4), .ref (g 5), .ref (g 6), .ref (g 7), .ref (g 8), .ref (g 9), .ref (g 10), .ref (g 11), .ref (g 12), .ref (g 13), .ref (g 14), .ref (g 15), .ref (g 16), .ref (g 17), .int 0, .int 0, .int 0, .int 0, .int 0, .int 0, .int 0, .int 0, .int 0, .ref (g 27), .ref (g 28), .ref (g 29), .ref (g 30), .ref (g 31), .ref (g 32), .ref (g 33), .ref (g 34), .ref (g 35), .ref (g 36), .ref (g 37), .ref (g 38), .ref (g 39), .ref (g 40), .ref (g 41), .ref (g 42), .ref (g 43), .int 0, .int 0, .int 0, .ref (g 47), .ref (g 48), .ref (g 49), .ref (g 50), .ref (g 51), .ref (g 52), .ref (g 53), .int 0, .int 0, .int 0, .int 0, .int 0, .ref (g 59), .ref (g 60), .ref (g 61), .int 0, .int 0, .ref (g 64), .ref (g 65), .ref (g 66), .ref (g 67), .ref (g 68), .ref (g 69), .ref (g 70), .int 0, .int 0, .int 0, .ref (g 74), .int 0, .ref (g 76), .ref (g 77), .ref (g 78), .ref (g 79), .ref (g 80), .ref (g 81), .ref (g 82), .int 0, .ref (g 84), .ref (g 85), .ref (g 86), .ref (g 87), .ref (g 88), .ref (g 89), .ref (g 90)]))] := hD
    refine lv_iconst (v := 1) hx hb dX12_now_21 (by decide) ?_
    exact W.zret (v := 1) hx hb hr rfl (fun t ht hW => ⟨⟨1, (), rfl, (if_pos (by omega)).symm, trivial⟩, hS.F ht⟩) hS.2.2 dX12_now_22
  ·
    have h_2 : ¬ (0 ≤ v0.toInt ∧ v0.toInt ≤ 399) := h_2
    refine lv_if_ne (tgt := 16) hx hb dX12_now_11 (by decide) (fun h => absurd h (by decide)) (fun _ => ?_)
    refine lv_iconst (v := 0) hx hb dX12_now_14 (by decide) ?_
    exact W.zret (v := 0) hx hb hr rfl (fun t ht hW => ⟨⟨0, (), rfl, (if_neg (by omega)).symm, trivial⟩, hS.F ht⟩) hS.2.2 dX12_now_15
set_option maxRecDepth 100000 in
set_option maxHeartbeats 4000000 in
theorem q_M_kitchen (l : Launch) (D : va_G) (cI cB cZ : ClassId) (g : Nat → Nat) (v0 v1 v2 v3 : Int32) (sz : Nat) : Met l yX12_kitchen (CWS yX12_kitchen cX12_kitchen 5 (some .int)) (RM 3 0 0) (PBw [.ref (g 100), .int v0, .int v1, .int v2, .int v3] D cI cB cZ [((g 100), .inr (13, oM g)), ((g 3), .inl (cI, 10, .inl (fun _ => 0))), ((g 4), .inl (cI, 10, .inl (fun _ => 0))), ((g 5), .inl (cI, 10, .inl (fun _ => 0))), ((g 6), .inl (cI, 10, .inl (fun _ => 0)))] sz) (va_Qi (fun (r : Int32) (_ : Unit) => r = (if (0 ≤ v0.toInt ∧ v0.toInt ≤ 99) ∧ (0 ≤ v1.toInt ∧ v1.toInt ≤ 99) ∧ (0 ≤ v2.toInt ∧ v2.toInt ≤ 50) ∧ 20 ≤ v3.toInt ∧ v3.toInt ≤ 400 then (0 : Int32) else -1)) (fun (_ : Unit) (_ : State) => True) (va_A [((g 100), .inr (13, oM g)), ((g 3), .inl (cI, 10, .inl (fun _ => 0))), ((g 4), .inl (cI, 10, .inl (fun _ => 0))), ((g 5), .inl (cI, 10, .inl (fun _ => 0))), ((g 6), .inl (cI, 10, .inl (fun _ => 0)))] sz)) 0 0 (va_A [((g 100), .inr (13, oM g)), ((g 3), .inl (cI, 10, .inl (fun _ => 0))), ((g 4), .inl (cI, 10, .inl (fun _ => 0))), ((g 5), .inl (cI, 10, .inl (fun _ => 0))), ((g 6), .inl (cI, 10, .inl (fun _ => 0)))] sz) := by
  refine Met.ofW (cc := cX12_kitchen) (maxL := 5) (ret := (some .int)) (by decide) rfl ?_
  intro p e s m args below meth c s₁ B hml hv
  obtain ⟨rfl, hsz, hP, hK, hD0⟩ := hv
  have hx := B.exec
  have hb := B.bytes
  have hr := B.returns
  have hts := atoms_spec (ws := (CWS yX12_kitchen cX12_kitchen 5 (some .int))) B.pre
  have hown : s.vm.findClass RX12 = some m.cls := findClass_of_methodNamed B.named
  have hlocks := B.notSynchronized
  have S : SF p m c cX12_kitchen 5 s ([.ref (g 100), .int v0, .int v1, .int v2, .int v3]).toArray RX12 := ⟨hx, hb, hml, hown, fun w h => hts w (List.mem_cons_of_mem _ h)⟩
  subst hsz
  have hD := hD0.self (sz := s.heap.size)
  generalize hAe : va_A [((g 100), .inr (13, oM g)), ((g 3), .inl (cI, 10, .inl (fun _ => 0))), ((g 4), .inl (cI, 10, .inl (fun _ => 0))), ((g 5), .inl (cI, 10, .inl (fun _ => 0))), ((g 6), .inl (cI, 10, .inl (fun _ => 0)))] s.heap.size = A at hD ⊢
  have hA : ∀ q : Nat, s.heap.size ≤ q → A q := fun q h => by rw [← hAe]; exact Or.inr h
  have hS : va_S A s.heap s.heap [] := va_S.rf
  have hP : va_P D vwCl [((g 100), .inr (13, oM g)), ((g 3), .inl (cI, 10, .inl (fun _ => 0))), ((g 4), .inl (cI, 10, .inl (fun _ => 0))), ((g 5), .inl (cI, 10, .inl (fun _ => 0))), ((g 6), .inl (cI, 10, .inl (fun _ => 0)))] s.heap := hP
  have hD : va_D A [((g 100), .inr (13, oM g)), ((g 3), .inl (cI, 10, .inl (fun _ => 0))), ((g 4), .inl (cI, 10, .inl (fun _ => 0))), ((g 5), .inl (cI, 10, .inl (fun _ => 0))), ((g 6), .inl (cI, 10, .inl (fun _ => 0)))] := hD
  have hl := lv_entry ([.ref (g 100), .int v0, .int v1, .int v2, .int v3]) (n := 5) (Nat.le_of_ble_eq_true rfl)
  rw [lg_entry_eq]
  generalize (lg_sl ([.ref (g 100), .int v0, .int v1, .int v2, .int v3]) ++ List.replicate (5 - (lg_sl ([.ref (g 100), .int v0, .int v1, .int v2, .int v3])).length) Slot.unset).toArray = ls at hl ⊢
  have hl : lv_has ls 5 [(0, .ref (g 100)), (1, .int v0), (2, .int v1), (3, .int v2), (4, .int v3)] := hl
  refine lv_iload_n hx hb dX12_kitchen_0 rfl (lv_at hl 1 rfl) ?_
  refine lv_iconst (v := 0) hx hb dX12_kitchen_1 (by decide) ?_
  refine lv_bipush (v := 99) hx hb dX12_kitchen_2 (by decide) ?_
  refine vp_callSi (runS_r (As := [.int v0, .int 0, .int 99]) (rest := []) S (q_in l D cI cB cZ v0 0 99) kS_RX12_214 hK hP [] rfl ⟨Nat.le_of_ble_eq_true rfl, Nat.le_of_ble_eq_true rfl⟩ ⟨Nat.le_of_ble_eq_true rfl, Nat.le_of_ble_eq_true rfl⟩ rfl hl.1 rfl (Nat.le_of_ble_eq_true rfl) dX12_kitchen_4) (fun r_1 h_2 => ?_)
  rcases h_2 with ⟨rfl, h_2⟩ | ⟨rfl, h_2⟩
  ·
    have h_2 : 0 ≤ v0.toInt ∧ v0.toInt ≤ 99 := h_2
    refine lv_if_eq (tgt := 52) hx hb dX12_kitchen_7 (by decide) (fun h => absurd h (by decide)) (fun _ => ?_)
    refine lv_iload_n hx hb dX12_kitchen_10 rfl (lv_at hl 2 rfl) ?_
    refine lv_iconst (v := 0) hx hb dX12_kitchen_11 (by decide) ?_
    refine lv_bipush (v := 99) hx hb dX12_kitchen_12 (by decide) ?_
    refine vp_callSi (runS_r (As := [.int v1, .int 0, .int 99]) (rest := []) S (q_in l D cI cB cZ v1 0 99) kS_RX12_214 hK hP [] rfl ⟨Nat.le_of_ble_eq_true rfl, Nat.le_of_ble_eq_true rfl⟩ ⟨Nat.le_of_ble_eq_true rfl, Nat.le_of_ble_eq_true rfl⟩ rfl hl.1 rfl (Nat.le_of_ble_eq_true rfl) dX12_kitchen_14) (fun r_3 h_4 => ?_)
    rcases h_4 with ⟨rfl, h_4⟩ | ⟨rfl, h_4⟩
    ·
      have h_4 : 0 ≤ v1.toInt ∧ v1.toInt ≤ 99 := h_4
      refine lv_if_eq (tgt := 52) hx hb dX12_kitchen_17 (by decide) (fun h => absurd h (by decide)) (fun _ => ?_)
      refine lv_iload_n hx hb dX12_kitchen_20 rfl (lv_at hl 3 rfl) ?_
      refine lv_iconst (v := 0) hx hb dX12_kitchen_21 (by decide) ?_
      refine lv_bipush (v := 50) hx hb dX12_kitchen_22 (by decide) ?_
      refine vp_callSi (runS_r (As := [.int v2, .int 0, .int 50]) (rest := []) S (q_in l D cI cB cZ v2 0 50) kS_RX12_214 hK hP [] rfl ⟨Nat.le_of_ble_eq_true rfl, Nat.le_of_ble_eq_true rfl⟩ ⟨Nat.le_of_ble_eq_true rfl, Nat.le_of_ble_eq_true rfl⟩ rfl hl.1 rfl (Nat.le_of_ble_eq_true rfl) dX12_kitchen_24) (fun r_5 h_6 => ?_)
      rcases h_6 with ⟨rfl, h_6⟩ | ⟨rfl, h_6⟩
      ·
        have h_6 : 0 ≤ v2.toInt ∧ v2.toInt ≤ 50 := h_6
        refine lv_if_eq (tgt := 52) hx hb dX12_kitchen_27 (by decide) (fun h => absurd h (by decide)) (fun _ => ?_)
        refine lv_iload hx hb dX12_kitchen_30 (lv_at hl 4 rfl) ?_
        refine lv_bipush (v := 20) hx hb dX12_kitchen_32 (by decide) ?_
        refine lv_sipush (v := 400) hx hb dX12_kitchen_34 (by decide) ?_
        refine vp_callSi (runS_r (As := [.int v3, .int 20, .int 400]) (rest := []) S (q_in l D cI cB cZ v3 20 400) kS_RX12_214 hK hP [] rfl ⟨Nat.le_of_ble_eq_true rfl, Nat.le_of_ble_eq_true rfl⟩ ⟨Nat.le_of_ble_eq_true rfl, Nat.le_of_ble_eq_true rfl⟩ rfl hl.1 rfl (Nat.le_of_ble_eq_true rfl) dX12_kitchen_37) (fun r_7 h_8 => ?_)
        rcases h_8 with ⟨rfl, h_8⟩ | ⟨rfl, h_8⟩
        ·
          have h_8 : 20 ≤ v3.toInt ∧ v3.toInt ≤ 400 := h_8
          refine lv_if_eq (tgt := 52) hx hb dX12_kitchen_40 (by decide) (fun h => absurd h (by decide)) (fun _ => ?_)
          refine lv_aload_n hx hb dX12_kitchen_43 rfl (lv_at hl 0 rfl) ?_
          refine gf_RX12_204 S hK hP 0 rfl (v := .int 0) rfl dX12_kitchen_44 ?_
          refine lv_bipush (v := 10) hx hb dX12_kitchen_47 (by decide) ?_
          refine lv_icmp_ne (tgt := 54) hx hb dX12_kitchen_49 (by decide) (fun _ => ?_) (fun h => absurd h (by decide))
          refine lv_aload_n hx hb dX12_kitchen_54 rfl (lv_at hl 0 rfl) ?_
          refine gf_RX12_7 S hK hP 0 rfl (v := .ref (g 3)) rfl dX12_kitchen_55 ?_
          refine lv_aload_n hx hb dX12_kitchen_58 rfl (lv_at hl 0 rfl) ?_
          refine gf_RX12_204 S hK hP 0 rfl (v := .int 0) rfl dX12_kitchen_59 ?_
          refine lv_iload_n hx hb dX12_kitchen_62 rfl (lv_at hl 1 rfl) ?_
          refine va_iast hx hb hK.1 hP hD hS 1 0 rfl rfl (by unfold vp_in; decide) dX12_kitchen_63 (fun H locs hP hD hS => ?_)
          have hP : va_P D vwCl [((g 100), .inr (13, oM g)), ((g 3), .inl (cI, 10, .inl (upd (fun _ => 0) (0 : Int32).toNatClampNeg v0))), ((g 4), .inl (cI, 10, .inl (fun _ => 0))), ((g 5), .inl (cI, 10, .inl (fun _ => 0))), ((g 6), .inl (cI, 10, .inl (fun _ => 0)))] H := hP
          have hD : va_D A [((g 100), .inr (13, oM g)), ((g 3), .inl (cI, 10, .inl (upd (fun _ => 0) (0 : Int32).toNatClampNeg v0))), ((g 4), .inl (cI, 10, .inl (fun _ => 0))), ((g 5), .inl (cI, 10, .inl (fun _ => 0))), ((g 6), .inl (cI, 10, .inl (fun _ => 0)))] := hD
          refine lv_aload_n hx hb dX12_kitchen_64 rfl (lv_at hl 0 rfl) ?_
          refine gf_RX12_13 S hK hP 0 rfl (v := .ref (g 4)) rfl dX12_kitchen_65 ?_
          refine lv_aload_n hx hb dX12_kitchen_68 rfl (lv_at hl 0 rfl) ?_
          refine gf_RX12_204 S hK hP 0 rfl (v := .int 0) rfl dX12_kitchen_69 ?_
          refine lv_iload_n hx hb dX12_kitchen_72 rfl (lv_at hl 2 rfl) ?_
          refine va_iast hx hb hK.1 hP hD hS 2 0 rfl rfl (by unfold vp_in; decide) dX12_kitchen_73 (fun H locs hP hD hS => ?_)
          have hP : va_P D vwCl [((g 100), .inr (13, oM g)), ((g 3), .inl (cI, 10, .inl (upd (fun _ => 0) (0 : Int32).toNatClampNeg v0))), ((g 4), .inl (cI, 10, .inl (upd (fun _ => 0) (0 : Int32).toNatClampNeg v1))), ((g 5), .inl (cI, 10, .inl (fun _ => 0))), ((g 6), .inl (cI, 10, .inl (fun _ => 0)))] H := hP
          have hD : va_D A [((g 100), .inr (13, oM g)), ((g 3), .inl (cI, 10, .inl (upd (fun _ => 0) (0 : Int32).toNatClampNeg v0))), ((g 4), .inl (cI, 10, .inl (upd (fun _ => 0) (0 : Int32).toNatClampNeg v1))), ((g 5), .inl (cI, 10, .inl (fun _ => 0))), ((g 6), .inl (cI, 10, .inl (fun _ => 0)))] := hD
          refine lv_aload_n hx hb dX12_kitchen_74 rfl (lv_at hl 0 rfl) ?_
          refine gf_RX12_16 S hK hP 0 rfl (v := .ref (g 5)) rfl dX12_kitchen_75 ?_
          refine lv_aload_n hx hb dX12_kitchen_78 rfl (lv_at hl 0 rfl) ?_
          refine gf_RX12_204 S hK hP 0 rfl (v := .int 0) rfl dX12_kitchen_79 ?_
          refine lv_iload_n hx hb dX12_kitchen_82 rfl (lv_at hl 3 rfl) ?_
          refine va_iast hx hb hK.1 hP hD hS 3 0 rfl rfl (by unfold vp_in; decide) dX12_kitchen_83 (fun H locs hP hD hS => ?_)
          have hP : va_P D vwCl [((g 100), .inr (13, oM g)), ((g 3), .inl (cI, 10, .inl (upd (fun _ => 0) (0 : Int32).toNatClampNeg v0))), ((g 4), .inl (cI, 10, .inl (upd (fun _ => 0) (0 : Int32).toNatClampNeg v1))), ((g 5), .inl (cI, 10, .inl (upd (fun _ => 0) (0 : Int32).toNatClampNeg v2))), ((g 6), .inl (cI, 10, .inl (fun _ => 0)))] H := hP
          have hD : va_D A [((g 100), .inr (13, oM g)), ((g 3), .inl (cI, 10, .inl (upd (fun _ => 0) (0 : Int32).toNatClampNeg v0))), ((g 4), .inl (cI, 10, .inl (upd (fun _ => 0) (0 : Int32).toNatClampNeg v1))), ((g 5), .inl (cI, 10, .inl (upd (fun _ => 0) (0 : Int32).toNatClampNeg v2))), ((g 6), .inl (cI, 10, .inl (fun _ => 0)))] := hD
          refine lv_aload_n hx hb dX12_kitchen_84 rfl (lv_at hl 0 rfl) ?_
          refine gf_RX12_19 S hK hP 0 rfl (v := .ref (g 6)) rfl dX12_kitchen_85 ?_
          refine lv_aload_n hx hb dX12_kitchen_88 rfl (lv_at hl 0 rfl) ?_
          refine gf_RX12_204 S hK hP 0 rfl (v := .int 0) rfl dX12_kitchen_89 ?_
          refine lv_iload hx hb dX12_kitchen_92 (lv_at hl 4 rfl) ?_
          refine va_iast hx hb hK.1 hP hD hS 4 0 rfl rfl (by unfold vp_in; decide) dX12_kitchen_94 (fun H locs hP hD hS => ?_)
          have hP : va_P D vwCl [((g 100), .inr (13, oM g)), ((g 3), .inl (cI, 10, .inl (upd (fun _ => 0) (0 : Int32).toNatClampNeg v0))), ((g 4), .inl (cI, 10, .inl (upd (fun _ => 0) (0 : Int32).toNatClampNeg v1))), ((g 5), .inl (cI, 10, .inl (upd (fun _ => 0) (0 : Int32).toNatClampNeg v2))), ((g 6), .inl (cI, 10, .inl (upd (fun _ => 0) (0 : Int32).toNatClampNeg v3)))] H := hP
          have hD : va_D A [((g 100), .inr (13, oM g)), ((g 3), .inl (cI, 10, .inl (upd (fun _ => 0) (0 : Int32).toNatClampNeg v0))), ((g 4), .inl (cI, 10, .inl (upd (fun _ => 0) (0 : Int32).toNatClampNeg v1))), ((g 5), .inl (cI, 10, .inl (upd (fun _ => 0) (0 : Int32).toNatClampNeg v2))), ((g 6), .inl (cI, 10, .inl (upd (fun _ => 0) (0 : Int32).toNatClampNeg v3)))] := hD
          refine lv_aload_n hx hb dX12_kitchen_95 rfl (lv_at hl 0 rfl) ?_
          refine lv_aload_n hx hb dX12_kitchen_96 rfl (lv_at hl 0 rfl) ?_
          refine gf_RX12_204 S hK hP 0 rfl (v := .int 0) rfl dX12_kitchen_97 ?_
          refine lv_iconst (v := 1) hx hb dX12_kitchen_100 (by decide) ?_
          refine lv_iadd hx hb dX12_kitchen_101 ?_
          refine lv_topi (fun y_9 ey_9 => ?_)
          obtain rfl : y_9 = 1 := ey_9.trans (by decide)
          refine pf_RX12_204 S hK hP hD hS 0 rfl (v := .int 1) (Nat.le_of_ble_eq_true rfl) rfl rfl dX12_kitchen_102 (fun H locs hP hD hS => ?_)
          have hP : va_P D vwCl [((g 100), .inr (13, [.int 0, .int 1, .int 0, .ref (g 3), .ref (g 4), .ref (g 5), .ref (g 6), .ref (g 7), .ref (g 8), .ref (g 9), .ref (g 10), .ref (g 11), .ref (g 12), .ref (g 13), .ref (g 14), .ref (g 15), .ref (g 16), .ref (g 17), .int 0, .int 0, .int 0, .int 0, .int 0, .int 0, .int 0, .int 0, .int 0, .ref (g 27), .ref (g 28), .ref (g 29), .ref (g 30), .ref (g 31), .ref (g 32), .ref (g 33), .ref (g 34), .ref (g 35), .ref (g 36), .ref (g 37), .ref (g 38), .ref (g 39), .ref (g 40), .ref (g 41), .ref (g 42), .ref (g 43), .int 0, .int 0, .int 0, .ref (g 47), .ref (g 48), .ref (g 49), .ref (g 50), .ref (g 51), .ref (g 52), .ref (g 53), .int 0, .int 0, .int 0, .int 0, .int 0, .ref (g 59), .ref (g 60), .ref (g 61), .int 0, .int 0, .ref (g 64), .ref (g 65), .ref (g 66), .ref (g 67), .ref (g 68), .ref (g 69), .ref (g 70), .int 0, .int 0, .int 0, .ref (g 74), .int 0, .ref (g 76), .ref (g 77), .ref (g 78), .ref (g 79), .ref (g 80), .ref (g 81), .ref (g 82), .int 0, .ref (g 84), .ref (g 85), .ref (g 86), .ref (g 87), .ref (g 88), .ref (g 89), .ref (g 90)])), ((g 3), .inl (cI, 10, .inl (upd (fun _ => 0) (0 : Int32).toNatClampNeg v0))), ((g 4), .inl (cI, 10, .inl (upd (fun _ => 0) (0 : Int32).toNatClampNeg v1))), ((g 5), .inl (cI, 10, .inl (upd (fun _ => 0) (0 : Int32).toNatClampNeg v2))), ((g 6), .inl (cI, 10, .inl (upd (fun _ => 0) (0 : Int32).toNatClampNeg v3)))] H := hP
          have hD : va_D A [((g 100), .inr (13, [.int 0, .int 1, .int 0, .ref (g 3), .ref (g 4), .ref (g 5), .ref (g 6), .ref (g 7), .ref (g 8), .ref (g 9), .ref (g 10), .ref (g 11), .ref (g 12), .ref (g 13), .ref (g 14), .ref (g 15), .ref (g 16), .ref (g 17), .int 0, .int 0, .int 0, .int 0, .int 0, .int 0, .int 0, .int 0, .int 0, .ref (g 27), .ref (g 28), .ref (g 29), .ref (g 30), .ref (g 31), .ref (g 32), .ref (g 33), .ref (g 34), .ref (g 35), .ref (g 36), .ref (g 37), .ref (g 38), .ref (g 39), .ref (g 40), .ref (g 41), .ref (g 42), .ref (g 43), .int 0, .int 0, .int 0, .ref (g 47), .ref (g 48), .ref (g 49), .ref (g 50), .ref (g 51), .ref (g 52), .ref (g 53), .int 0, .int 0, .int 0, .int 0, .int 0, .ref (g 59), .ref (g 60), .ref (g 61), .int 0, .int 0, .ref (g 64), .ref (g 65), .ref (g 66), .ref (g 67), .ref (g 68), .ref (g 69), .ref (g 70), .int 0, .int 0, .int 0, .ref (g 74), .int 0, .ref (g 76), .ref (g 77), .ref (g 78), .ref (g 79), .ref (g 80), .ref (g 81), .ref (g 82), .int 0, .ref (g 84), .ref (g 85), .ref (g 86), .ref (g 87), .ref (g 88), .ref (g 89), .ref (g 90)])), ((g 3), .inl (cI, 10, .inl (upd (fun _ => 0) (0 : Int32).toNatClampNeg v0))), ((g 4), .inl (cI, 10, .inl (upd (fun _ => 0) (0 : Int32).toNatClampNeg v1))), ((g 5), .inl (cI, 10, .inl (upd (fun _ => 0) (0 : Int32).toNatClampNeg v2))), ((g 6), .inl (cI, 10, .inl (upd (fun _ => 0) (0 : Int32).toNatClampNeg v3)))] := hD
          refine lv_aload_n hx hb dX12_kitchen_105 rfl (lv_at hl 0 rfl) ?_
          refine gf_RX12_204 S hK hP 0 rfl (v := .int 1) rfl dX12_kitchen_106 ?_
          refine lv_iconst (v := 1) hx hb dX12_kitchen_109 (by decide) ?_
          refine lv_isub hx hb dX12_kitchen_110 ?_
          refine lv_topi (fun y_10 ey_10 => ?_)
          obtain rfl : y_10 = 0 := ey_10.trans (by decide)
          exact W.iret (v := 0) hx hb hr (fun t ht hW => ⟨⟨0, (), rfl, (if_pos (by omega)).symm, trivial⟩, hS.F ht⟩) hS.2.2 dX12_kitchen_111
        ·
          have h_8 : ¬ (20 ≤ v3.toInt ∧ v3.toInt ≤ 400) := h_8
          refine lv_if_eq (tgt := 52) hx hb dX12_kitchen_40 (by decide) (fun _ => ?_) (fun h => absurd h (by decide))
          refine lv_iconst (v := (-1)) hx hb dX12_kitchen_52 (by decide) ?_
          exact W.iret (v := (-1)) hx hb hr (fun t ht hW => ⟨⟨(-1), (), rfl, (if_neg (by omega)).symm, trivial⟩, hS.F ht⟩) hS.2.2 dX12_kitchen_53
      ·
        have h_6 : ¬ (0 ≤ v2.toInt ∧ v2.toInt ≤ 50) := h_6
        refine lv_if_eq (tgt := 52) hx hb dX12_kitchen_27 (by decide) (fun _ => ?_) (fun h => absurd h (by decide))
        refine lv_iconst (v := (-1)) hx hb dX12_kitchen_52 (by decide) ?_
        exact W.iret (v := (-1)) hx hb hr (fun t ht hW => ⟨⟨(-1), (), rfl, (if_neg (by omega)).symm, trivial⟩, hS.F ht⟩) hS.2.2 dX12_kitchen_53
    ·
      have h_4 : ¬ (0 ≤ v1.toInt ∧ v1.toInt ≤ 99) := h_4
      refine lv_if_eq (tgt := 52) hx hb dX12_kitchen_17 (by decide) (fun _ => ?_) (fun h => absurd h (by decide))
      refine lv_iconst (v := (-1)) hx hb dX12_kitchen_52 (by decide) ?_
      exact W.iret (v := (-1)) hx hb hr (fun t ht hW => ⟨⟨(-1), (), rfl, (if_neg (by omega)).symm, trivial⟩, hS.F ht⟩) hS.2.2 dX12_kitchen_53
  ·
    have h_2 : ¬ (0 ≤ v0.toInt ∧ v0.toInt ≤ 99) := h_2
    refine lv_if_eq (tgt := 52) hx hb dX12_kitchen_7 (by decide) (fun _ => ?_) (fun h => absurd h (by decide))
    refine lv_iconst (v := (-1)) hx hb dX12_kitchen_52 (by decide) ?_
    exact W.iret (v := (-1)) hx hb hr (fun t ht hW => ⟨⟨(-1), (), rfl, (if_neg (by omega)).symm, trivial⟩, hS.F ht⟩) hS.2.2 dX12_kitchen_53
set_option maxRecDepth 100000 in
set_option maxHeartbeats 4000000 in
theorem q_M_likely (l : Launch) (D : va_G) (cI cB cZ : ClassId) (g : Nat → Nat) (v0 v1 : Int32) : Met l yX12_likely (CWS yX12_likely cX12_likely 3 (some .int)) (RM 3 0 0) (PBr [.ref (g 100), .int v0, .int v1] D cI cB cZ [((g 100), .inr (13, oM g))]) (vp_Si (fun r => r = -1)) 0 0 (fun _ => False) := by
  refine Met.ofW (cc := cX12_likely) (maxL := 3) (ret := (some .int)) (by decide) rfl ?_
  intro p e s m args below meth c s₁ B hml hv
  obtain ⟨rfl, hP, hK⟩ := hv
  have hx := B.exec
  have hb := B.bytes
  have hr := B.returns
  have hts := atoms_spec (ws := (CWS yX12_likely cX12_likely 3 (some .int))) B.pre
  have hown : s.vm.findClass RX12 = some m.cls := findClass_of_methodNamed B.named
  have hlocks := B.notSynchronized
  have S : SF p m c cX12_likely 3 s ([.ref (g 100), .int v0, .int v1]).toArray RX12 := ⟨hx, hb, hml, hown, fun w h => hts w (List.mem_cons_of_mem _ h)⟩
  have hP : va_P D vwCl [((g 100), .inr (13, oM g))] s.heap := hP
  have hl := lv_entry ([.ref (g 100), .int v0, .int v1]) (n := 3) (Nat.le_of_ble_eq_true rfl)
  rw [lg_entry_eq]
  generalize (lg_sl ([.ref (g 100), .int v0, .int v1]) ++ List.replicate (3 - (lg_sl ([.ref (g 100), .int v0, .int v1])).length) Slot.unset).toArray = ls at hl ⊢
  have hl : lv_has ls 3 [(0, .ref (g 100)), (1, .int v0), (2, .int v1)] := hl
  refine lv_aload_n hx hb dX12_likely_0 rfl (lv_at hl 0 rfl) ?_
  refine lv_iload_n hx hb dX12_likely_1 rfl (lv_at hl 1 rfl) ?_
  refine vp_callSi (runV_r (As := [.int v0]) (rest := []) S (q_misKitchen l D cI cB cZ g v0) kV_RX12_218 hK hP [0] rfl 0 rfl rfl rfl ⟨Nat.le_of_ble_eq_true rfl, Nat.le_of_ble_eq_true rfl⟩ ⟨Nat.le_of_ble_eq_true rfl, Nat.le_of_ble_eq_true rfl⟩ rfl hl.1 rfl (Nat.le_of_ble_eq_true rfl) dX12_likely_2) (fun r_1 h_2 => ?_)
  subst h_2
  refine lv_if_eq (tgt := 24) hx hb dX12_likely_5 (by decide) (fun _ => ?_) (fun h => absurd h (by decide))
  refine lv_iconst (v := (-1)) hx hb dX12_likely_24 (by decide) ?_
  refine lv_goto (tgt := 34) hx hb dX12_likely_25 (by decide) ?_
  exact W.iret (v := (-1)) hx hb hr (fun t ht hW => ⟨(-1), rfl, rfl, ht⟩) (fun _ h => absurd h List.not_mem_nil) dX12_likely_34
set_option maxRecDepth 100000 in
set_option maxHeartbeats 4000000 in
theorem q_M_fetch (l : Launch) (D : va_G) (cI cB cZ : ClassId) (g : Nat → Nat) (v0 v1 v2 v3 v4 v5 : Int32) : Met l yX12_fetch (CWS yX12_fetch cX12_fetch 9 (some .int)) (RM 3 0 0) (PBr [.ref (g 100), .int v0, .int v1, .int v2, .int v3, .int v4, .int v5] D cI cB cZ [((g 100), .inr (13, oM g))]) (vp_Si (fun r => r = -1)) 0 0 (fun _ => False) := by
  refine Met.ofW (cc := cX12_fetch) (maxL := 9) (ret := (some .int)) (by decide) rfl ?_
  intro p e s m args below meth c s₁ B hml hv
  obtain ⟨rfl, hP, hK⟩ := hv
  have hx := B.exec
  have hb := B.bytes
  have hr := B.returns
  have hts := atoms_spec (ws := (CWS yX12_fetch cX12_fetch 9 (some .int))) B.pre
  have hown : s.vm.findClass RX12 = some m.cls := findClass_of_methodNamed B.named
  have hlocks := B.notSynchronized
  have S : SF p m c cX12_fetch 9 s ([.ref (g 100), .int v0, .int v1, .int v2, .int v3, .int v4, .int v5]).toArray RX12 := ⟨hx, hb, hml, hown, fun w h => hts w (List.mem_cons_of_mem _ h)⟩
  have hP : va_P D vwCl [((g 100), .inr (13, oM g))] s.heap := hP
  have hl := lv_entry ([.ref (g 100), .int v0, .int v1, .int v2, .int v3, .int v4, .int v5]) (n := 9) (Nat.le_of_ble_eq_true rfl)
  rw [lg_entry_eq]
  generalize (lg_sl ([.ref (g 100), .int v0, .int v1, .int v2, .int v3, .int v4, .int v5]) ++ List.replicate (9 - (lg_sl ([.ref (g 100), .int v0, .int v1, .int v2, .int v3, .int v4, .int v5])).length) Slot.unset).toArray = ls at hl ⊢
  have hl : lv_has ls 9 [(0, .ref (g 100)), (1, .int v0), (2, .int v1), (3, .int v2), (4, .int v3), (5, .int v4), (6, .int v5)] := hl
  refine lv_aload_n hx hb dX12_fetch_0 rfl (lv_at hl 0 rfl) ?_
  refine lv_iload_n hx hb dX12_fetch_1 rfl (lv_at hl 1 rfl) ?_
  refine vp_callSi (runV_r (As := [.int v0]) (rest := []) S (q_misKitchen l D cI cB cZ g v0) kV_RX12_218 hK hP [0] rfl 0 rfl rfl rfl ⟨Nat.le_of_ble_eq_true rfl, Nat.le_of_ble_eq_true rfl⟩ ⟨Nat.le_of_ble_eq_true rfl, Nat.le_of_ble_eq_true rfl⟩ rfl hl.1 rfl (Nat.le_of_ble_eq_true rfl) dX12_fetch_2) (fun r_1 h_2 => ?_)
  subst h_2
  refine lv_if_eq (tgt := 81) hx hb dX12_fetch_5 (by decide) (fun _ => ?_) (fun h => absurd h (by decide))
  refine lv_iconst (v := (-1)) hx hb dX12_fetch_81 (by decide) ?_
  exact W.iret (v := (-1)) hx hb hr (fun t ht hW => ⟨(-1), rfl, rfl, ht⟩) (fun _ h => absurd h List.not_mem_nil) dX12_fetch_82
set_option maxRecDepth 100000 in
set_option maxHeartbeats 4000000 in
theorem q_M_contract (l : Launch) (D : va_G) (cI cB cZ : ClassId) (g : Nat → Nat) (v0 v1 : Int32) : Met l yX12_contract (CWS yX12_contract cX12_contract 3 (some .int)) (RM 3 0 0) (PBr [.ref (g 100), .int v0, .int v1] D cI cB cZ [((g 100), .inr (13, oM g))]) (vp_Si (fun r => r = -1)) 0 0 (fun _ => False) := by
  refine Met.ofW (cc := cX12_contract) (maxL := 3) (ret := (some .int)) (by decide) rfl ?_
  intro p e s m args below meth c s₁ B hml hv
  obtain ⟨rfl, hP, hK⟩ := hv
  have hx := B.exec
  have hb := B.bytes
  have hr := B.returns
  have hts := atoms_spec (ws := (CWS yX12_contract cX12_contract 3 (some .int))) B.pre
  have hown : s.vm.findClass RX12 = some m.cls := findClass_of_methodNamed B.named
  have hlocks := B.notSynchronized
  have S : SF p m c cX12_contract 3 s ([.ref (g 100), .int v0, .int v1]).toArray RX12 := ⟨hx, hb, hml, hown, fun w h => hts w (List.mem_cons_of_mem _ h)⟩
  have hP : va_P D vwCl [((g 100), .inr (13, oM g))] s.heap := hP
  have hl := lv_entry ([.ref (g 100), .int v0, .int v1]) (n := 3) (Nat.le_of_ble_eq_true rfl)
  rw [lg_entry_eq]
  generalize (lg_sl ([.ref (g 100), .int v0, .int v1]) ++ List.replicate (3 - (lg_sl ([.ref (g 100), .int v0, .int v1])).length) Slot.unset).toArray = ls at hl ⊢
  have hl : lv_has ls 3 [(0, .ref (g 100)), (1, .int v0), (2, .int v1)] := hl
  refine lv_aload_n hx hb dX12_contract_0 rfl (lv_at hl 0 rfl) ?_
  refine lv_iload_n hx hb dX12_contract_1 rfl (lv_at hl 1 rfl) ?_
  refine vp_callSi (runV_r (As := [.int v0]) (rest := []) S (q_misKitchen l D cI cB cZ g v0) kV_RX12_218 hK hP [0] rfl 0 rfl rfl rfl ⟨Nat.le_of_ble_eq_true rfl, Nat.le_of_ble_eq_true rfl⟩ ⟨Nat.le_of_ble_eq_true rfl, Nat.le_of_ble_eq_true rfl⟩ rfl hl.1 rfl (Nat.le_of_ble_eq_true rfl) dX12_contract_2) (fun r_1 h_2 => ?_)
  subst h_2
  refine lv_if_eq (tgt := 27) hx hb dX12_contract_5 (by decide) (fun _ => ?_) (fun h => absurd h (by decide))
  refine lv_iconst (v := (-1)) hx hb dX12_contract_27 (by decide) ?_
  refine lv_goto (tgt := 37) hx hb dX12_contract_28 (by decide) ?_
  exact W.iret (v := (-1)) hx hb hr (fun t ht hW => ⟨(-1), rfl, rfl, ht⟩) (fun _ h => absurd h List.not_mem_nil) dX12_contract_37
set_option maxRecDepth 100000 in
set_option maxHeartbeats 4000000 in
theorem q_M_pence (l : Launch) (D : va_G) (cI cB cZ : ClassId) (g : Nat → Nat) (v0 : Int32) : Met l yX12_pence (CWS yX12_pence cX12_pence 2 (some .int)) (RM 3 0 0) (PBr [.ref (g 100), .int v0] D cI cB cZ [((g 100), .inr (13, oM g))]) (vp_Si (fun r => r = -1)) 0 0 (fun _ => False) := by
  refine Met.ofW (cc := cX12_pence) (maxL := 2) (ret := (some .int)) (by decide) rfl ?_
  intro p e s m args below meth c s₁ B hml hv
  obtain ⟨rfl, hP, hK⟩ := hv
  have hx := B.exec
  have hb := B.bytes
  have hr := B.returns
  have hts := atoms_spec (ws := (CWS yX12_pence cX12_pence 2 (some .int))) B.pre
  have hown : s.vm.findClass RX12 = some m.cls := findClass_of_methodNamed B.named
  have hlocks := B.notSynchronized
  have S : SF p m c cX12_pence 2 s ([.ref (g 100), .int v0]).toArray RX12 := ⟨hx, hb, hml, hown, fun w h => hts w (List.mem_cons_of_mem _ h)⟩
  have hP : va_P D vwCl [((g 100), .inr (13, oM g))] s.heap := hP
  have hl := lv_entry ([.ref (g 100), .int v0]) (n := 2) (Nat.le_of_ble_eq_true rfl)
  rw [lg_entry_eq]
  generalize (lg_sl ([.ref (g 100), .int v0]) ++ List.replicate (2 - (lg_sl ([.ref (g 100), .int v0])).length) Slot.unset).toArray = ls at hl ⊢
  have hl : lv_has ls 2 [(0, .ref (g 100)), (1, .int v0)] := hl
  refine lv_aload_n hx hb dX12_pence_0 rfl (lv_at hl 0 rfl) ?_
  refine lv_iload_n hx hb dX12_pence_1 rfl (lv_at hl 1 rfl) ?_
  refine vp_callSi (runV_r (As := [.int v0]) (rest := []) S (q_misLoad l D cI cB cZ g v0) kV_RX12_335 hK hP [0] rfl 0 rfl rfl rfl ⟨Nat.le_of_ble_eq_true rfl, Nat.le_of_ble_eq_true rfl⟩ ⟨Nat.le_of_ble_eq_true rfl, Nat.le_of_ble_eq_true rfl⟩ rfl hl.1 rfl (Nat.le_of_ble_eq_true rfl) dX12_pence_2) (fun r_1 h_2 => ?_)
  subst h_2
  refine lv_if_eq (tgt := 22) hx hb dX12_pence_5 (by decide) (fun _ => ?_) (fun h => absurd h (by decide))
  refine lv_iconst (v := (-1)) hx hb dX12_pence_22 (by decide) ?_
  exact W.iret (v := (-1)) hx hb hr (fun t ht hW => ⟨(-1), rfl, rfl, ht⟩) (fun _ h => absurd h List.not_mem_nil) dX12_pence_23
set_option maxRecDepth 100000 in
set_option maxHeartbeats 4000000 in
theorem q_M_paid (l : Launch) (D : va_G) (cI cB cZ : ClassId) (g : Nat → Nat) (v0 v1 : Int32) : Met l yX12_paid (CWS yX12_paid cX12_paid 5 (some .int)) (RM 3 0 0) (PBr [.ref (g 100), .int v0, .int v1] D cI cB cZ [((g 100), .inr (13, oM g))]) (vp_Si (fun r => r = -1)) 0 0 (fun _ => False) := by
  refine Met.ofW (cc := cX12_paid) (maxL := 5) (ret := (some .int)) (by decide) rfl ?_
  intro p e s m args below meth c s₁ B hml hv
  obtain ⟨rfl, hP, hK⟩ := hv
  have hx := B.exec
  have hb := B.bytes
  have hr := B.returns
  have hts := atoms_spec (ws := (CWS yX12_paid cX12_paid 5 (some .int))) B.pre
  have hown : s.vm.findClass RX12 = some m.cls := findClass_of_methodNamed B.named
  have hlocks := B.notSynchronized
  have S : SF p m c cX12_paid 5 s ([.ref (g 100), .int v0, .int v1]).toArray RX12 := ⟨hx, hb, hml, hown, fun w h => hts w (List.mem_cons_of_mem _ h)⟩
  have hP : va_P D vwCl [((g 100), .inr (13, oM g))] s.heap := hP
  have hl := lv_entry ([.ref (g 100), .int v0, .int v1]) (n := 5) (Nat.le_of_ble_eq_true rfl)
  rw [lg_entry_eq]
  generalize (lg_sl ([.ref (g 100), .int v0, .int v1]) ++ List.replicate (5 - (lg_sl ([.ref (g 100), .int v0, .int v1])).length) Slot.unset).toArray = ls at hl ⊢
  have hl : lv_has ls 5 [(0, .ref (g 100)), (1, .int v0), (2, .int v1)] := hl
  refine lv_aload_n hx hb dX12_paid_0 rfl (lv_at hl 0 rfl) ?_
  refine lv_iload_n hx hb dX12_paid_1 rfl (lv_at hl 1 rfl) ?_
  refine vp_callSi (runV_r (As := [.int v0]) (rest := []) S (q_misKitchen l D cI cB cZ g v0) kV_RX12_218 hK hP [0] rfl 0 rfl rfl rfl ⟨Nat.le_of_ble_eq_true rfl, Nat.le_of_ble_eq_true rfl⟩ ⟨Nat.le_of_ble_eq_true rfl, Nat.le_of_ble_eq_true rfl⟩ rfl hl.1 rfl (Nat.le_of_ble_eq_true rfl) dX12_paid_2) (fun r_1 h_2 => ?_)
  subst h_2
  refine lv_if_eq (tgt := 15) hx hb dX12_paid_5 (by decide) (fun _ => ?_) (fun h => absurd h (by decide))
  refine lv_iconst (v := (-1)) hx hb dX12_paid_15 (by decide) ?_
  exact W.iret (v := (-1)) hx hb hr (fun t ht hW => ⟨(-1), rfl, rfl, ht⟩) (fun _ h => absurd h List.not_mem_nil) dX12_paid_16
set_option maxRecDepth 100000 in
set_option maxHeartbeats 4000000 in
theorem q_M_asIf (l : Launch) (D : va_G) (cI cB cZ : ClassId) (g : Nat → Nat) (v0 v1 : Int32) : Met l yX12_asIf (CWS yX12_asIf cX12_asIf 5 (some .int)) (RM 3 0 0) (PBr [.ref (g 100), .int v0, .int v1] D cI cB cZ [((g 100), .inr (13, oM g))]) (vp_Si (fun r => r = -1)) 0 0 (fun _ => False) := by
  refine Met.ofW (cc := cX12_asIf) (maxL := 5) (ret := (some .int)) (by decide) rfl ?_
  intro p e s m args below meth c s₁ B hml hv
  obtain ⟨rfl, hP, hK⟩ := hv
  have hx := B.exec
  have hb := B.bytes
  have hr := B.returns
  have hts := atoms_spec (ws := (CWS yX12_asIf cX12_asIf 5 (some .int))) B.pre
  have hown : s.vm.findClass RX12 = some m.cls := findClass_of_methodNamed B.named
  have hlocks := B.notSynchronized
  have S : SF p m c cX12_asIf 5 s ([.ref (g 100), .int v0, .int v1]).toArray RX12 := ⟨hx, hb, hml, hown, fun w h => hts w (List.mem_cons_of_mem _ h)⟩
  have hP : va_P D vwCl [((g 100), .inr (13, oM g))] s.heap := hP
  have hl := lv_entry ([.ref (g 100), .int v0, .int v1]) (n := 5) (Nat.le_of_ble_eq_true rfl)
  rw [lg_entry_eq]
  generalize (lg_sl ([.ref (g 100), .int v0, .int v1]) ++ List.replicate (5 - (lg_sl ([.ref (g 100), .int v0, .int v1])).length) Slot.unset).toArray = ls at hl ⊢
  have hl : lv_has ls 5 [(0, .ref (g 100)), (1, .int v0), (2, .int v1)] := hl
  refine lv_aload_n hx hb dX12_asIf_0 rfl (lv_at hl 0 rfl) ?_
  refine lv_iload_n hx hb dX12_asIf_1 rfl (lv_at hl 1 rfl) ?_
  refine vp_callSi (runV_r (As := [.int v0]) (rest := []) S (q_misKitchen l D cI cB cZ g v0) kV_RX12_218 hK hP [0] rfl 0 rfl rfl rfl ⟨Nat.le_of_ble_eq_true rfl, Nat.le_of_ble_eq_true rfl⟩ ⟨Nat.le_of_ble_eq_true rfl, Nat.le_of_ble_eq_true rfl⟩ rfl hl.1 rfl (Nat.le_of_ble_eq_true rfl) dX12_asIf_2) (fun r_1 h_2 => ?_)
  subst h_2
  refine lv_if_eq (tgt := 16) hx hb dX12_asIf_5 (by decide) (fun _ => ?_) (fun h => absurd h (by decide))
  refine lv_iconst (v := (-1)) hx hb dX12_asIf_16 (by decide) ?_
  exact W.iret (v := (-1)) hx hb hr (fun t ht hW => ⟨(-1), rfl, rfl, ht⟩) (fun _ h => absurd h List.not_mem_nil) dX12_asIf_17
set_option maxRecDepth 100000 in
set_option maxHeartbeats 4000000 in
theorem q_M_missing (l : Launch) (D : va_G) (cI cB cZ : ClassId) (g : Nat → Nat) (v0 : Int32) : Met l yX12_missing (CWS yX12_missing cX12_missing 2 (some .int)) (RM 3 0 0) (PBr [.ref (g 100), .int v0] D cI cB cZ [((g 100), .inr (13, oM g))]) (vp_Si (fun r => r = -1)) 0 0 (fun _ => False) := by
  refine Met.ofW (cc := cX12_missing) (maxL := 2) (ret := (some .int)) (by decide) rfl ?_
  intro p e s m args below meth c s₁ B hml hv
  obtain ⟨rfl, hP, hK⟩ := hv
  have hx := B.exec
  have hb := B.bytes
  have hr := B.returns
  have hts := atoms_spec (ws := (CWS yX12_missing cX12_missing 2 (some .int))) B.pre
  have hown : s.vm.findClass RX12 = some m.cls := findClass_of_methodNamed B.named
  have hlocks := B.notSynchronized
  have S : SF p m c cX12_missing 2 s ([.ref (g 100), .int v0]).toArray RX12 := ⟨hx, hb, hml, hown, fun w h => hts w (List.mem_cons_of_mem _ h)⟩
  have hP : va_P D vwCl [((g 100), .inr (13, oM g))] s.heap := hP
  have hl := lv_entry ([.ref (g 100), .int v0]) (n := 2) (Nat.le_of_ble_eq_true rfl)
  rw [lg_entry_eq]
  generalize (lg_sl ([.ref (g 100), .int v0]) ++ List.replicate (2 - (lg_sl ([.ref (g 100), .int v0])).length) Slot.unset).toArray = ls at hl ⊢
  have hl : lv_has ls 2 [(0, .ref (g 100)), (1, .int v0)] := hl
  refine lv_aload_n hx hb dX12_missing_0 rfl (lv_at hl 0 rfl) ?_
  refine lv_iload_n hx hb dX12_missing_1 rfl (lv_at hl 1 rfl) ?_
  refine vp_callSi (runV_r (As := [.int v0]) (rest := []) S (q_misLoad l D cI cB cZ g v0) kV_RX12_335 hK hP [0] rfl 0 rfl rfl rfl ⟨Nat.le_of_ble_eq_true rfl, Nat.le_of_ble_eq_true rfl⟩ ⟨Nat.le_of_ble_eq_true rfl, Nat.le_of_ble_eq_true rfl⟩ rfl hl.1 rfl (Nat.le_of_ble_eq_true rfl) dX12_missing_2) (fun r_1 h_2 => ?_)
  subst h_2
  refine lv_if_eq (tgt := 17) hx hb dX12_missing_5 (by decide) (fun _ => ?_) (fun h => absurd h (by decide))
  refine lv_iconst (v := (-1)) hx hb dX12_missing_17 (by decide) ?_
  exact W.iret (v := (-1)) hx hb hr (fun t ht hW => ⟨(-1), rfl, rfl, ht⟩) (fun _ h => absurd h List.not_mem_nil) dX12_missing_18
set_option maxRecDepth 100000 in
set_option maxHeartbeats 4000000 in
theorem q_M_feasted (l : Launch) (D : va_G) (cI cB cZ : ClassId) (g : Nat → Nat) (v0 v1 : Int32) : Met l yX12_feasted (CWS yX12_feasted cX12_feasted 5 (some .int)) (RM 3 0 0) (PBr [.ref (g 100), .int v0, .int v1] D cI cB cZ [((g 100), .inr (13, oM g))]) (vp_Si (fun r => r = -1)) 0 0 (fun _ => False) := by
  refine Met.ofW (cc := cX12_feasted) (maxL := 5) (ret := (some .int)) (by decide) rfl ?_
  intro p e s m args below meth c s₁ B hml hv
  obtain ⟨rfl, hP, hK⟩ := hv
  have hx := B.exec
  have hb := B.bytes
  have hr := B.returns
  have hts := atoms_spec (ws := (CWS yX12_feasted cX12_feasted 5 (some .int))) B.pre
  have hown : s.vm.findClass RX12 = some m.cls := findClass_of_methodNamed B.named
  have hlocks := B.notSynchronized
  have S : SF p m c cX12_feasted 5 s ([.ref (g 100), .int v0, .int v1]).toArray RX12 := ⟨hx, hb, hml, hown, fun w h => hts w (List.mem_cons_of_mem _ h)⟩
  have hP : va_P D vwCl [((g 100), .inr (13, oM g))] s.heap := hP
  have hl := lv_entry ([.ref (g 100), .int v0, .int v1]) (n := 5) (Nat.le_of_ble_eq_true rfl)
  rw [lg_entry_eq]
  generalize (lg_sl ([.ref (g 100), .int v0, .int v1]) ++ List.replicate (5 - (lg_sl ([.ref (g 100), .int v0, .int v1])).length) Slot.unset).toArray = ls at hl ⊢
  have hl : lv_has ls 5 [(0, .ref (g 100)), (1, .int v0), (2, .int v1)] := hl
  refine lv_aload_n hx hb dX12_feasted_0 rfl (lv_at hl 0 rfl) ?_
  refine lv_iload_n hx hb dX12_feasted_1 rfl (lv_at hl 1 rfl) ?_
  refine vp_callSi (runV_r (As := [.int v0]) (rest := []) S (q_misLoad l D cI cB cZ g v0) kV_RX12_335 hK hP [0] rfl 0 rfl rfl rfl ⟨Nat.le_of_ble_eq_true rfl, Nat.le_of_ble_eq_true rfl⟩ ⟨Nat.le_of_ble_eq_true rfl, Nat.le_of_ble_eq_true rfl⟩ rfl hl.1 rfl (Nat.le_of_ble_eq_true rfl) dX12_feasted_2) (fun r_1 h_2 => ?_)
  subst h_2
  refine lv_if_eq (tgt := 17) hx hb dX12_feasted_5 (by decide) (fun _ => ?_) (fun h => absurd h (by decide))
  refine lv_iconst (v := (-1)) hx hb dX12_feasted_17 (by decide) ?_
  exact W.iret (v := (-1)) hx hb hr (fun t ht hW => ⟨(-1), rfl, rfl, ht⟩) (fun _ h => absurd h List.not_mem_nil) dX12_feasted_18
set_option maxRecDepth 100000 in
set_option maxHeartbeats 4000000 in
theorem q_M_batchIs (l : Launch) (D : va_G) (cI cB cZ : ClassId) (g : Nat → Nat) (v0 v1 : Int32) : Met l yX12_batchIs (CWS yX12_batchIs cX12_batchIs 3 (some .int)) (RM 3 0 0) (PBr [.ref (g 100), .int v0, .int v1] D cI cB cZ [((g 100), .inr (13, oM g))]) (vp_Si (fun r => r = -1)) 0 0 (fun _ => False) := by
  refine Met.ofW (cc := cX12_batchIs) (maxL := 3) (ret := (some .int)) (by decide) rfl ?_
  intro p e s m args below meth c s₁ B hml hv
  obtain ⟨rfl, hP, hK⟩ := hv
  have hx := B.exec
  have hb := B.bytes
  have hr := B.returns
  have hts := atoms_spec (ws := (CWS yX12_batchIs cX12_batchIs 3 (some .int))) B.pre
  have hown : s.vm.findClass RX12 = some m.cls := findClass_of_methodNamed B.named
  have hlocks := B.notSynchronized
  have S : SF p m c cX12_batchIs 3 s ([.ref (g 100), .int v0, .int v1]).toArray RX12 := ⟨hx, hb, hml, hown, fun w h => hts w (List.mem_cons_of_mem _ h)⟩
  have hP : va_P D vwCl [((g 100), .inr (13, oM g))] s.heap := hP
  have hl := lv_entry ([.ref (g 100), .int v0, .int v1]) (n := 3) (Nat.le_of_ble_eq_true rfl)
  rw [lg_entry_eq]
  generalize (lg_sl ([.ref (g 100), .int v0, .int v1]) ++ List.replicate (3 - (lg_sl ([.ref (g 100), .int v0, .int v1])).length) Slot.unset).toArray = ls at hl ⊢
  have hl : lv_has ls 3 [(0, .ref (g 100)), (1, .int v0), (2, .int v1)] := hl
  refine lv_aload_n hx hb dX12_batchIs_0 rfl (lv_at hl 0 rfl) ?_
  refine lv_iload_n hx hb dX12_batchIs_1 rfl (lv_at hl 1 rfl) ?_
  refine vp_callSi (runV_r (As := [.int v0]) (rest := []) S (q_misBatch l D cI cB cZ g v0) kV_RX12_450 hK hP [0] rfl 0 rfl rfl rfl ⟨Nat.le_of_ble_eq_true rfl, Nat.le_of_ble_eq_true rfl⟩ ⟨Nat.le_of_ble_eq_true rfl, Nat.le_of_ble_eq_true rfl⟩ rfl hl.1 rfl (Nat.le_of_ble_eq_true rfl) dX12_batchIs_2) (fun r_1 h_2 => ?_)
  subst h_2
  refine lv_if_eq (tgt := 17) hx hb dX12_batchIs_5 (by decide) (fun _ => ?_) (fun h => absurd h (by decide))
  refine lv_iconst (v := (-1)) hx hb dX12_batchIs_17 (by decide) ?_
  exact W.iret (v := (-1)) hx hb hr (fun t ht hW => ⟨(-1), rfl, rfl, ht⟩) (fun _ h => absurd h List.not_mem_nil) dX12_batchIs_18
set_option maxRecDepth 100000 in
set_option maxHeartbeats 4000000 in
theorem q_M_proof (l : Launch) (D : va_G) (cI cB cZ : ClassId) (g : Nat → Nat) (v0 v1 v2 v3 : Int32) : Met l yX12_proof (CWS yX12_proof cX12_proof 5 (some .int)) (RM 3 0 0) (PBr [.ref (g 100), .int v0, .int v1, .int v2, .int v3] D cI cB cZ [((g 100), .inr (13, oM g))]) (vp_Si (fun r => r = -1)) 0 0 (fun _ => False) := by
  refine Met.ofW (cc := cX12_proof) (maxL := 5) (ret := (some .int)) (by decide) rfl ?_
  intro p e s m args below meth c s₁ B hml hv
  obtain ⟨rfl, hP, hK⟩ := hv
  have hx := B.exec
  have hb := B.bytes
  have hr := B.returns
  have hts := atoms_spec (ws := (CWS yX12_proof cX12_proof 5 (some .int))) B.pre
  have hown : s.vm.findClass RX12 = some m.cls := findClass_of_methodNamed B.named
  have hlocks := B.notSynchronized
  have S : SF p m c cX12_proof 5 s ([.ref (g 100), .int v0, .int v1, .int v2, .int v3]).toArray RX12 := ⟨hx, hb, hml, hown, fun w h => hts w (List.mem_cons_of_mem _ h)⟩
  have hP : va_P D vwCl [((g 100), .inr (13, oM g))] s.heap := hP
  have hl := lv_entry ([.ref (g 100), .int v0, .int v1, .int v2, .int v3]) (n := 5) (Nat.le_of_ble_eq_true rfl)
  rw [lg_entry_eq]
  generalize (lg_sl ([.ref (g 100), .int v0, .int v1, .int v2, .int v3]) ++ List.replicate (5 - (lg_sl ([.ref (g 100), .int v0, .int v1, .int v2, .int v3])).length) Slot.unset).toArray = ls at hl ⊢
  have hl : lv_has ls 5 [(0, .ref (g 100)), (1, .int v0), (2, .int v1), (3, .int v2), (4, .int v3)] := hl
  refine lv_aload_n hx hb dX12_proof_0 rfl (lv_at hl 0 rfl) ?_
  refine lv_iload_n hx hb dX12_proof_1 rfl (lv_at hl 1 rfl) ?_
  refine vp_callSi (runV_r (As := [.int v0]) (rest := []) S (q_misBatch l D cI cB cZ g v0) kV_RX12_450 hK hP [0] rfl 0 rfl rfl rfl ⟨Nat.le_of_ble_eq_true rfl, Nat.le_of_ble_eq_true rfl⟩ ⟨Nat.le_of_ble_eq_true rfl, Nat.le_of_ble_eq_true rfl⟩ rfl hl.1 rfl (Nat.le_of_ble_eq_true rfl) dX12_proof_2) (fun r_1 h_2 => ?_)
  subst h_2
  refine lv_if_eq (tgt := 46) hx hb dX12_proof_5 (by decide) (fun _ => ?_) (fun h => absurd h (by decide))
  refine lv_iconst (v := (-1)) hx hb dX12_proof_46 (by decide) ?_
  exact W.iret (v := (-1)) hx hb hr (fun t ht hW => ⟨(-1), rfl, rfl, ht⟩) (fun _ h => absurd h List.not_mem_nil) dX12_proof_47
set_option maxRecDepth 100000 in
set_option maxHeartbeats 4000000 in
theorem q_M_twice (l : Launch) (D : va_G) (cI cB cZ : ClassId) (g : Nat → Nat) (v0 : Int32) : Met l yX12_twice (CWS yX12_twice cX12_twice 4 (some .int)) (RM 3 0 0) (PBr [.ref (g 100), .int v0] D cI cB cZ [((g 100), .inr (13, oM g))]) (vp_Si (fun r => r = -1)) 0 0 (fun _ => False) := by
  refine Met.ofW (cc := cX12_twice) (maxL := 4) (ret := (some .int)) (by decide) rfl ?_
  intro p e s m args below meth c s₁ B hml hv
  obtain ⟨rfl, hP, hK⟩ := hv
  have hx := B.exec
  have hb := B.bytes
  have hr := B.returns
  have hts := atoms_spec (ws := (CWS yX12_twice cX12_twice 4 (some .int))) B.pre
  have hown : s.vm.findClass RX12 = some m.cls := findClass_of_methodNamed B.named
  have hlocks := B.notSynchronized
  have S : SF p m c cX12_twice 4 s ([.ref (g 100), .int v0]).toArray RX12 := ⟨hx, hb, hml, hown, fun w h => hts w (List.mem_cons_of_mem _ h)⟩
  have hP : va_P D vwCl [((g 100), .inr (13, oM g))] s.heap := hP
  have hl := lv_entry ([.ref (g 100), .int v0]) (n := 4) (Nat.le_of_ble_eq_true rfl)
  rw [lg_entry_eq]
  generalize (lg_sl ([.ref (g 100), .int v0]) ++ List.replicate (4 - (lg_sl ([.ref (g 100), .int v0])).length) Slot.unset).toArray = ls at hl ⊢
  have hl : lv_has ls 4 [(0, .ref (g 100)), (1, .int v0)] := hl
  refine lv_aload_n hx hb dX12_twice_0 rfl (lv_at hl 0 rfl) ?_
  refine lv_iload_n hx hb dX12_twice_1 rfl (lv_at hl 1 rfl) ?_
  refine vp_callSi (runV_r (As := [.int v0]) (rest := []) S (q_misBatch l D cI cB cZ g v0) kV_RX12_450 hK hP [0] rfl 0 rfl rfl rfl ⟨Nat.le_of_ble_eq_true rfl, Nat.le_of_ble_eq_true rfl⟩ ⟨Nat.le_of_ble_eq_true rfl, Nat.le_of_ble_eq_true rfl⟩ rfl hl.1 rfl (Nat.le_of_ble_eq_true rfl) dX12_twice_2) (fun r_1 h_2 => ?_)
  subst h_2
  refine lv_if_ne (tgt := 10) hx hb dX12_twice_5 (by decide) (fun h => absurd h (by decide)) (fun _ => ?_)
  refine lv_iconst (v := (-1)) hx hb dX12_twice_8 (by decide) ?_
  exact W.iret (v := (-1)) hx hb hr (fun t ht hW => ⟨(-1), rfl, rfl, ht⟩) (fun _ h => absurd h List.not_mem_nil) dX12_twice_9
set_option maxRecDepth 100000 in
set_option maxHeartbeats 4000000 in
theorem q_M_bought (l : Launch) (D : va_G) (cI cB cZ : ClassId) (g : Nat → Nat) (v0 v1 : Int32) : Met l yX12_bought (CWS yX12_bought cX12_bought 3 (some .int)) (RM 3 0 0) (PBr [.ref (g 100), .int v0, .int v1] D cI cB cZ [((g 100), .inr (13, oM g))]) (vp_Si (fun r => r = -1)) 0 0 (fun _ => False) := by
  refine Met.ofW (cc := cX12_bought) (maxL := 3) (ret := (some .int)) (by decide) rfl ?_
  intro p e s m args below meth c s₁ B hml hv
  obtain ⟨rfl, hP, hK⟩ := hv
  have hx := B.exec
  have hb := B.bytes
  have hr := B.returns
  have hts := atoms_spec (ws := (CWS yX12_bought cX12_bought 3 (some .int))) B.pre
  have hown : s.vm.findClass RX12 = some m.cls := findClass_of_methodNamed B.named
  have hlocks := B.notSynchronized
  have S : SF p m c cX12_bought 3 s ([.ref (g 100), .int v0, .int v1]).toArray RX12 := ⟨hx, hb, hml, hown, fun w h => hts w (List.mem_cons_of_mem _ h)⟩
  have hP : va_P D vwCl [((g 100), .inr (13, oM g))] s.heap := hP
  have hl := lv_entry ([.ref (g 100), .int v0, .int v1]) (n := 3) (Nat.le_of_ble_eq_true rfl)
  rw [lg_entry_eq]
  generalize (lg_sl ([.ref (g 100), .int v0, .int v1]) ++ List.replicate (3 - (lg_sl ([.ref (g 100), .int v0, .int v1])).length) Slot.unset).toArray = ls at hl ⊢
  have hl : lv_has ls 3 [(0, .ref (g 100)), (1, .int v0), (2, .int v1)] := hl
  refine lv_aload_n hx hb dX12_bought_0 rfl (lv_at hl 0 rfl) ?_
  refine lv_iload_n hx hb dX12_bought_1 rfl (lv_at hl 1 rfl) ?_
  refine vp_callSi (runV_r (As := [.int v0]) (rest := []) S (q_misBatch l D cI cB cZ g v0) kV_RX12_450 hK hP [0] rfl 0 rfl rfl rfl ⟨Nat.le_of_ble_eq_true rfl, Nat.le_of_ble_eq_true rfl⟩ ⟨Nat.le_of_ble_eq_true rfl, Nat.le_of_ble_eq_true rfl⟩ rfl hl.1 rfl (Nat.le_of_ble_eq_true rfl) dX12_bought_2) (fun r_1 h_2 => ?_)
  subst h_2
  refine lv_if_eq (tgt := 27) hx hb dX12_bought_5 (by decide) (fun _ => ?_) (fun h => absurd h (by decide))
  refine lv_iconst (v := (-1)) hx hb dX12_bought_27 (by decide) ?_
  exact W.iret (v := (-1)) hx hb hr (fun t ht hW => ⟨(-1), rfl, rfl, ht⟩) (fun _ h => absurd h List.not_mem_nil) dX12_bought_28
set_option maxRecDepth 100000 in
set_option maxHeartbeats 4000000 in
theorem q_M_whence (l : Launch) (D : va_G) (cI cB cZ : ClassId) (g : Nat → Nat) (v0 v1 : Int32) : Met l yX12_whence (CWS yX12_whence cX12_whence 3 (some .int)) (RM 3 0 0) (PBr [.ref (g 100), .int v0, .int v1] D cI cB cZ [((g 100), .inr (13, oM g))]) (vp_Si (fun r => r = -1)) 0 0 (fun _ => False) := by
  refine Met.ofW (cc := cX12_whence) (maxL := 3) (ret := (some .int)) (by decide) rfl ?_
  intro p e s m args below meth c s₁ B hml hv
  obtain ⟨rfl, hP, hK⟩ := hv
  have hx := B.exec
  have hb := B.bytes
  have hr := B.returns
  have hts := atoms_spec (ws := (CWS yX12_whence cX12_whence 3 (some .int))) B.pre
  have hown : s.vm.findClass RX12 = some m.cls := findClass_of_methodNamed B.named
  have hlocks := B.notSynchronized
  have S : SF p m c cX12_whence 3 s ([.ref (g 100), .int v0, .int v1]).toArray RX12 := ⟨hx, hb, hml, hown, fun w h => hts w (List.mem_cons_of_mem _ h)⟩
  have hP : va_P D vwCl [((g 100), .inr (13, oM g))] s.heap := hP
  have hl := lv_entry ([.ref (g 100), .int v0, .int v1]) (n := 3) (Nat.le_of_ble_eq_true rfl)
  rw [lg_entry_eq]
  generalize (lg_sl ([.ref (g 100), .int v0, .int v1]) ++ List.replicate (3 - (lg_sl ([.ref (g 100), .int v0, .int v1])).length) Slot.unset).toArray = ls at hl ⊢
  have hl : lv_has ls 3 [(0, .ref (g 100)), (1, .int v0), (2, .int v1)] := hl
  refine lv_aload_n hx hb dX12_whence_0 rfl (lv_at hl 0 rfl) ?_
  refine lv_iload_n hx hb dX12_whence_1 rfl (lv_at hl 1 rfl) ?_
  refine vp_callSi (runV_r (As := [.int v0]) (rest := []) S (q_misBatch l D cI cB cZ g v0) kV_RX12_450 hK hP [0] rfl 0 rfl rfl rfl ⟨Nat.le_of_ble_eq_true rfl, Nat.le_of_ble_eq_true rfl⟩ ⟨Nat.le_of_ble_eq_true rfl, Nat.le_of_ble_eq_true rfl⟩ rfl hl.1 rfl (Nat.le_of_ble_eq_true rfl) dX12_whence_2) (fun r_1 h_2 => ?_)
  subst h_2
  refine lv_if_eq (tgt := 32) hx hb dX12_whence_5 (by decide) (fun _ => ?_) (fun h => absurd h (by decide))
  refine lv_iconst (v := (-1)) hx hb dX12_whence_32 (by decide) ?_
  exact W.iret (v := (-1)) hx hb hr (fun t ht hW => ⟨(-1), rfl, rfl, ht⟩) (fun _ h => absurd h List.not_mem_nil) dX12_whence_33
set_option maxRecDepth 100000 in
set_option maxHeartbeats 4000000 in
theorem q_M_audit (l : Launch) (D : va_G) (cI cB cZ : ClassId) (g : Nat → Nat) (v0 v1 : Int32) : Met l yX12_audit (CWS yX12_audit cX12_audit 5 (some .int)) (RM 3 0 0) (PBr [.ref (g 100), .int v0, .int v1] D cI cB cZ [((g 100), .inr (13, oM g))]) (vp_Si (fun r => r = -1)) 0 0 (fun _ => False) := by
  refine Met.ofW (cc := cX12_audit) (maxL := 5) (ret := (some .int)) (by decide) rfl ?_
  intro p e s m args below meth c s₁ B hml hv
  obtain ⟨rfl, hP, hK⟩ := hv
  have hx := B.exec
  have hb := B.bytes
  have hr := B.returns
  have hts := atoms_spec (ws := (CWS yX12_audit cX12_audit 5 (some .int))) B.pre
  have hown : s.vm.findClass RX12 = some m.cls := findClass_of_methodNamed B.named
  have hlocks := B.notSynchronized
  have S : SF p m c cX12_audit 5 s ([.ref (g 100), .int v0, .int v1]).toArray RX12 := ⟨hx, hb, hml, hown, fun w h => hts w (List.mem_cons_of_mem _ h)⟩
  have hP : va_P D vwCl [((g 100), .inr (13, oM g))] s.heap := hP
  have hl := lv_entry ([.ref (g 100), .int v0, .int v1]) (n := 5) (Nat.le_of_ble_eq_true rfl)
  rw [lg_entry_eq]
  generalize (lg_sl ([.ref (g 100), .int v0, .int v1]) ++ List.replicate (5 - (lg_sl ([.ref (g 100), .int v0, .int v1])).length) Slot.unset).toArray = ls at hl ⊢
  have hl : lv_has ls 5 [(0, .ref (g 100)), (1, .int v0), (2, .int v1)] := hl
  refine lv_aload_n hx hb dX12_audit_0 rfl (lv_at hl 0 rfl) ?_
  refine lv_iload_n hx hb dX12_audit_1 rfl (lv_at hl 1 rfl) ?_
  refine vp_callSi (runV_r (As := [.int v0]) (rest := []) S (q_misProof l D cI cB cZ g v0) kV_RX12_459 hK hP [0] rfl 0 rfl rfl rfl ⟨Nat.le_of_ble_eq_true rfl, Nat.le_of_ble_eq_true rfl⟩ ⟨Nat.le_of_ble_eq_true rfl, Nat.le_of_ble_eq_true rfl⟩ rfl hl.1 rfl (Nat.le_of_ble_eq_true rfl) dX12_audit_2) (fun r_1 h_2 => ?_)
  subst h_2
  refine lv_if_eq (tgt := 16) hx hb dX12_audit_5 (by decide) (fun _ => ?_) (fun h => absurd h (by decide))
  refine lv_iconst (v := (-1)) hx hb dX12_audit_16 (by decide) ?_
  exact W.iret (v := (-1)) hx hb hr (fun t ht hW => ⟨(-1), rfl, rfl, ht⟩) (fun _ h => absurd h List.not_mem_nil) dX12_audit_17
set_option maxRecDepth 100000 in
set_option maxHeartbeats 4000000 in
theorem q_M_tax (l : Launch) (D : va_G) (cI cB cZ : ClassId) (g : Nat → Nat) (v0 : Int32) : Met l yX12_tax (CWS yX12_tax cX12_tax 2 (some .int)) (RM 3 0 0) (PBr [.ref (g 100), .int v0] D cI cB cZ [((g 100), .inr (13, oM g))]) (vp_Si (fun r => r = -1)) 0 0 (fun _ => False) := by
  refine Met.ofW (cc := cX12_tax) (maxL := 2) (ret := (some .int)) (by decide) rfl ?_
  intro p e s m args below meth c s₁ B hml hv
  obtain ⟨rfl, hP, hK⟩ := hv
  have hx := B.exec
  have hb := B.bytes
  have hr := B.returns
  have hts := atoms_spec (ws := (CWS yX12_tax cX12_tax 2 (some .int))) B.pre
  have hown : s.vm.findClass RX12 = some m.cls := findClass_of_methodNamed B.named
  have hlocks := B.notSynchronized
  have S : SF p m c cX12_tax 2 s ([.ref (g 100), .int v0]).toArray RX12 := ⟨hx, hb, hml, hown, fun w h => hts w (List.mem_cons_of_mem _ h)⟩
  have hP : va_P D vwCl [((g 100), .inr (13, oM g))] s.heap := hP
  have hl := lv_entry ([.ref (g 100), .int v0]) (n := 2) (Nat.le_of_ble_eq_true rfl)
  rw [lg_entry_eq]
  generalize (lg_sl ([.ref (g 100), .int v0]) ++ List.replicate (2 - (lg_sl ([.ref (g 100), .int v0])).length) Slot.unset).toArray = ls at hl ⊢
  have hl : lv_has ls 2 [(0, .ref (g 100)), (1, .int v0)] := hl
  refine lv_aload_n hx hb dX12_tax_0 rfl (lv_at hl 0 rfl) ?_
  refine lv_iload_n hx hb dX12_tax_1 rfl (lv_at hl 1 rfl) ?_
  refine vp_callSi (runV_r (As := [.int v0]) (rest := []) S (q_misProof l D cI cB cZ g v0) kV_RX12_459 hK hP [0] rfl 0 rfl rfl rfl ⟨Nat.le_of_ble_eq_true rfl, Nat.le_of_ble_eq_true rfl⟩ ⟨Nat.le_of_ble_eq_true rfl, Nat.le_of_ble_eq_true rfl⟩ rfl hl.1 rfl (Nat.le_of_ble_eq_true rfl) dX12_tax_2) (fun r_1 h_2 => ?_)
  subst h_2
  refine lv_if_eq (tgt := 57) hx hb dX12_tax_5 (by decide) (fun _ => ?_) (fun h => absurd h (by decide))
  refine lv_iconst (v := (-1)) hx hb dX12_tax_57 (by decide) ?_
  exact W.iret (v := (-1)) hx hb hr (fun t ht hW => ⟨(-1), rfl, rfl, ht⟩) (fun _ h => absurd h List.not_mem_nil) dX12_tax_58
set_option maxRecDepth 100000 in
set_option maxHeartbeats 4000000 in
theorem q_M_sample (l : Launch) (D : va_G) (cI cB cZ : ClassId) (g : Nat → Nat) (v0 v1 : Int32) : Met l yX12_sample (CWS yX12_sample cX12_sample 3 (some .int)) (RM 3 0 0) (PBr [.ref (g 100), .int v0, .int v1] D cI cB cZ [((g 100), .inr (13, oM g))]) (vp_Si (fun r => r = -1)) 0 0 (fun _ => False) := by
  refine Met.ofW (cc := cX12_sample) (maxL := 3) (ret := (some .int)) (by decide) rfl ?_
  intro p e s m args below meth c s₁ B hml hv
  obtain ⟨rfl, hP, hK⟩ := hv
  have hx := B.exec
  have hb := B.bytes
  have hr := B.returns
  have hts := atoms_spec (ws := (CWS yX12_sample cX12_sample 3 (some .int))) B.pre
  have hown : s.vm.findClass RX12 = some m.cls := findClass_of_methodNamed B.named
  have hlocks := B.notSynchronized
  have S : SF p m c cX12_sample 3 s ([.ref (g 100), .int v0, .int v1]).toArray RX12 := ⟨hx, hb, hml, hown, fun w h => hts w (List.mem_cons_of_mem _ h)⟩
  have hP : va_P D vwCl [((g 100), .inr (13, oM g))] s.heap := hP
  have hl := lv_entry ([.ref (g 100), .int v0, .int v1]) (n := 3) (Nat.le_of_ble_eq_true rfl)
  rw [lg_entry_eq]
  generalize (lg_sl ([.ref (g 100), .int v0, .int v1]) ++ List.replicate (3 - (lg_sl ([.ref (g 100), .int v0, .int v1])).length) Slot.unset).toArray = ls at hl ⊢
  have hl : lv_has ls 3 [(0, .ref (g 100)), (1, .int v0), (2, .int v1)] := hl
  refine lv_aload_n hx hb dX12_sample_0 rfl (lv_at hl 0 rfl) ?_
  refine lv_iload_n hx hb dX12_sample_1 rfl (lv_at hl 1 rfl) ?_
  refine vp_callSi (runV_r (As := [.int v0]) (rest := []) S (q_misBatch l D cI cB cZ g v0) kV_RX12_450 hK hP [0] rfl 0 rfl rfl rfl ⟨Nat.le_of_ble_eq_true rfl, Nat.le_of_ble_eq_true rfl⟩ ⟨Nat.le_of_ble_eq_true rfl, Nat.le_of_ble_eq_true rfl⟩ rfl hl.1 rfl (Nat.le_of_ble_eq_true rfl) dX12_sample_2) (fun r_1 h_2 => ?_)
  subst h_2
  refine lv_if_eq (tgt := 30) hx hb dX12_sample_5 (by decide) (fun _ => ?_) (fun h => absurd h (by decide))
  refine lv_iconst (v := (-1)) hx hb dX12_sample_30 (by decide) ?_
  exact W.iret (v := (-1)) hx hb hr (fun t ht hW => ⟨(-1), rfl, rfl, ht⟩) (fun _ h => absurd h List.not_mem_nil) dX12_sample_31
set_option maxRecDepth 100000 in
set_option maxHeartbeats 4000000 in
theorem q_M_claim (l : Launch) (D : va_G) (cI cB cZ : ClassId) (g : Nat → Nat) (v0 v1 v2 : Int32) : Met l yX12_claim (CWS yX12_claim cX12_claim 6 (some .int)) (RM 3 0 0) (PBr [.ref (g 100), .int v0, .int v1, .int v2] D cI cB cZ [((g 100), .inr (13, oM g))]) (vp_Si (fun r => r = -1)) 0 0 (fun _ => False) := by
  refine Met.ofW (cc := cX12_claim) (maxL := 6) (ret := (some .int)) (by decide) rfl ?_
  intro p e s m args below meth c s₁ B hml hv
  obtain ⟨rfl, hP, hK⟩ := hv
  have hx := B.exec
  have hb := B.bytes
  have hr := B.returns
  have hts := atoms_spec (ws := (CWS yX12_claim cX12_claim 6 (some .int))) B.pre
  have hown : s.vm.findClass RX12 = some m.cls := findClass_of_methodNamed B.named
  have hlocks := B.notSynchronized
  have S : SF p m c cX12_claim 6 s ([.ref (g 100), .int v0, .int v1, .int v2]).toArray RX12 := ⟨hx, hb, hml, hown, fun w h => hts w (List.mem_cons_of_mem _ h)⟩
  have hP : va_P D vwCl [((g 100), .inr (13, oM g))] s.heap := hP
  have hl := lv_entry ([.ref (g 100), .int v0, .int v1, .int v2]) (n := 6) (Nat.le_of_ble_eq_true rfl)
  rw [lg_entry_eq]
  generalize (lg_sl ([.ref (g 100), .int v0, .int v1, .int v2]) ++ List.replicate (6 - (lg_sl ([.ref (g 100), .int v0, .int v1, .int v2])).length) Slot.unset).toArray = ls at hl ⊢
  have hl : lv_has ls 6 [(0, .ref (g 100)), (1, .int v0), (2, .int v1), (3, .int v2)] := hl
  refine lv_aload_n hx hb dX12_claim_0 rfl (lv_at hl 0 rfl) ?_
  refine lv_iload_n hx hb dX12_claim_1 rfl (lv_at hl 1 rfl) ?_
  refine vp_callSi (runV_r (As := [.int v0]) (rest := []) S (q_misBatch l D cI cB cZ g v0) kV_RX12_450 hK hP [0] rfl 0 rfl rfl rfl ⟨Nat.le_of_ble_eq_true rfl, Nat.le_of_ble_eq_true rfl⟩ ⟨Nat.le_of_ble_eq_true rfl, Nat.le_of_ble_eq_true rfl⟩ rfl hl.1 rfl (Nat.le_of_ble_eq_true rfl) dX12_claim_2) (fun r_1 h_2 => ?_)
  subst h_2
  refine lv_if_eq (tgt := 30) hx hb dX12_claim_5 (by decide) (fun _ => ?_) (fun h => absurd h (by decide))
  refine lv_iconst (v := (-1)) hx hb dX12_claim_30 (by decide) ?_
  exact W.iret (v := (-1)) hx hb hr (fun t ht hW => ⟨(-1), rfl, rfl, ht⟩) (fun _ h => absurd h List.not_mem_nil) dX12_claim_31
set_option maxRecDepth 100000 in
set_option maxHeartbeats 4000000 in
theorem q_M_late (l : Launch) (D : va_G) (cI cB cZ : ClassId) (g : Nat → Nat) (v0 v1 : Int32) : Met l yX12_late (CWS yX12_late cX12_late 5 (some .int)) (RM 3 0 0) (PBr [.ref (g 100), .int v0, .int v1] D cI cB cZ [((g 100), .inr (13, oM g))]) (vp_Si (fun r => r = -1)) 0 0 (fun _ => False) := by
  refine Met.ofW (cc := cX12_late) (maxL := 5) (ret := (some .int)) (by decide) rfl ?_
  intro p e s m args below meth c s₁ B hml hv
  obtain ⟨rfl, hP, hK⟩ := hv
  have hx := B.exec
  have hb := B.bytes
  have hr := B.returns
  have hts := atoms_spec (ws := (CWS yX12_late cX12_late 5 (some .int))) B.pre
  have hown : s.vm.findClass RX12 = some m.cls := findClass_of_methodNamed B.named
  have hlocks := B.notSynchronized
  have S : SF p m c cX12_late 5 s ([.ref (g 100), .int v0, .int v1]).toArray RX12 := ⟨hx, hb, hml, hown, fun w h => hts w (List.mem_cons_of_mem _ h)⟩
  have hP : va_P D vwCl [((g 100), .inr (13, oM g))] s.heap := hP
  have hl := lv_entry ([.ref (g 100), .int v0, .int v1]) (n := 5) (Nat.le_of_ble_eq_true rfl)
  rw [lg_entry_eq]
  generalize (lg_sl ([.ref (g 100), .int v0, .int v1]) ++ List.replicate (5 - (lg_sl ([.ref (g 100), .int v0, .int v1])).length) Slot.unset).toArray = ls at hl ⊢
  have hl : lv_has ls 5 [(0, .ref (g 100)), (1, .int v0), (2, .int v1)] := hl
  refine lv_aload_n hx hb dX12_late_0 rfl (lv_at hl 0 rfl) ?_
  refine lv_iload_n hx hb dX12_late_1 rfl (lv_at hl 1 rfl) ?_
  refine vp_callSi (runV_r (As := [.int v0]) (rest := []) S (q_misKitchen l D cI cB cZ g v0) kV_RX12_218 hK hP [0] rfl 0 rfl rfl rfl ⟨Nat.le_of_ble_eq_true rfl, Nat.le_of_ble_eq_true rfl⟩ ⟨Nat.le_of_ble_eq_true rfl, Nat.le_of_ble_eq_true rfl⟩ rfl hl.1 rfl (Nat.le_of_ble_eq_true rfl) dX12_late_2) (fun r_1 h_2 => ?_)
  subst h_2
  refine lv_if_eq (tgt := 19) hx hb dX12_late_5 (by decide) (fun _ => ?_) (fun h => absurd h (by decide))
  refine lv_iconst (v := (-1)) hx hb dX12_late_19 (by decide) ?_
  exact W.iret (v := (-1)) hx hb hr (fun t ht hW => ⟨(-1), rfl, rfl, ht⟩) (fun _ h => absurd h List.not_mem_nil) dX12_late_20
set_option maxRecDepth 100000 in
set_option maxHeartbeats 4000000 in
theorem q_M_blocked (l : Launch) (D : va_G) (cI cB cZ : ClassId) (g : Nat → Nat) (v0 : Int32) : Met l yX12_blocked (CWS yX12_blocked cX12_blocked 2 (some .int)) (RM 3 0 0) (PBr [.ref (g 100), .int v0] D cI cB cZ [((g 100), .inr (13, oM g))]) (vp_Si (fun r => r = -1)) 0 0 (fun _ => False) := by
  refine Met.ofW (cc := cX12_blocked) (maxL := 2) (ret := (some .int)) (by decide) rfl ?_
  intro p e s m args below meth c s₁ B hml hv
  obtain ⟨rfl, hP, hK⟩ := hv
  have hx := B.exec
  have hb := B.bytes
  have hr := B.returns
  have hts := atoms_spec (ws := (CWS yX12_blocked cX12_blocked 2 (some .int))) B.pre
  have hown : s.vm.findClass RX12 = some m.cls := findClass_of_methodNamed B.named
  have hlocks := B.notSynchronized
  have S : SF p m c cX12_blocked 2 s ([.ref (g 100), .int v0]).toArray RX12 := ⟨hx, hb, hml, hown, fun w h => hts w (List.mem_cons_of_mem _ h)⟩
  have hP : va_P D vwCl [((g 100), .inr (13, oM g))] s.heap := hP
  have hl := lv_entry ([.ref (g 100), .int v0]) (n := 2) (Nat.le_of_ble_eq_true rfl)
  rw [lg_entry_eq]
  generalize (lg_sl ([.ref (g 100), .int v0]) ++ List.replicate (2 - (lg_sl ([.ref (g 100), .int v0])).length) Slot.unset).toArray = ls at hl ⊢
  have hl : lv_has ls 2 [(0, .ref (g 100)), (1, .int v0)] := hl
  refine lv_iload_n hx hb dX12_blocked_0 rfl (lv_at hl 1 rfl) ?_
  refine lv_if_lt (tgt := 12) hx hb dX12_blocked_1 (by decide) (fun c_1 => ?_) (fun c_1 => ?_)
  ·
    have tc_1 : (v0.toInt : Int) < 0 := Int32.lt_iff_toInt_lt.mp c_1
    refine lv_iconst (v := (-1)) hx hb dX12_blocked_12 (by decide) ?_
    exact W.iret (v := (-1)) hx hb hr (fun t ht hW => ⟨(-1), rfl, rfl, ht⟩) (fun _ h => absurd h List.not_mem_nil) dX12_blocked_13
  ·
    have tc_1 : (0 : Int) ≤ v0.toInt := Int32.le_iff_toInt_le.mp (Int32.not_lt.mp c_1)
    refine lv_iload_n hx hb dX12_blocked_4 rfl (lv_at hl 1 rfl) ?_
    refine lv_aload_n hx hb dX12_blocked_5 rfl (lv_at hl 0 rfl) ?_
    refine gf_RX12_478 S hK hP 0 rfl (v := .int 0) rfl dX12_blocked_6 ?_
    refine lv_icmp_lt (tgt := 14) hx hb dX12_blocked_9 (by decide) (fun c_2 => False.elim (by have tc_2 : (v0.toInt : Int) < 0 := Int32.lt_iff_toInt_lt.mp c_2; omega)) (fun c_2 => ?_)
    have tc_2 : (0 : Int) ≤ v0.toInt := Int32.le_iff_toInt_le.mp (Int32.not_lt.mp c_2)
    refine lv_iconst (v := (-1)) hx hb dX12_blocked_12 (by decide) ?_
    exact W.iret (v := (-1)) hx hb hr (fun t ht hW => ⟨(-1), rfl, rfl, ht⟩) (fun _ h => absurd h List.not_mem_nil) dX12_blocked_13
set_option maxRecDepth 100000 in
set_option maxHeartbeats 4000000 in
theorem q_M_stood (l : Launch) (D : va_G) (cI cB cZ : ClassId) (g : Nat → Nat) (v0 v1 : Int32) : Met l yX12_stood (CWS yX12_stood cX12_stood 4 (some .int)) (RM 3 0 0) (PBr [.ref (g 100), .int v0, .int v1] D cI cB cZ [((g 100), .inr (13, oM g))]) (vp_Si (fun r => r = -1)) 0 0 (fun _ => False) := by
  refine Met.ofW (cc := cX12_stood) (maxL := 4) (ret := (some .int)) (by decide) rfl ?_
  intro p e s m args below meth c s₁ B hml hv
  obtain ⟨rfl, hP, hK⟩ := hv
  have hx := B.exec
  have hb := B.bytes
  have hr := B.returns
  have hts := atoms_spec (ws := (CWS yX12_stood cX12_stood 4 (some .int))) B.pre
  have hown : s.vm.findClass RX12 = some m.cls := findClass_of_methodNamed B.named
  have hlocks := B.notSynchronized
  have S : SF p m c cX12_stood 4 s ([.ref (g 100), .int v0, .int v1]).toArray RX12 := ⟨hx, hb, hml, hown, fun w h => hts w (List.mem_cons_of_mem _ h)⟩
  have hP : va_P D vwCl [((g 100), .inr (13, oM g))] s.heap := hP
  have hl := lv_entry ([.ref (g 100), .int v0, .int v1]) (n := 4) (Nat.le_of_ble_eq_true rfl)
  rw [lg_entry_eq]
  generalize (lg_sl ([.ref (g 100), .int v0, .int v1]) ++ List.replicate (4 - (lg_sl ([.ref (g 100), .int v0, .int v1])).length) Slot.unset).toArray = ls at hl ⊢
  have hl : lv_has ls 4 [(0, .ref (g 100)), (1, .int v0), (2, .int v1)] := hl
  refine lv_aload_n hx hb dX12_stood_0 rfl (lv_at hl 0 rfl) ?_
  refine lv_iload_n hx hb dX12_stood_1 rfl (lv_at hl 1 rfl) ?_
  refine vp_callSi (runV_r (As := [.int v0]) (rest := []) S (q_misDrum l D cI cB cZ g v0) kV_RX12_413 hK hP [0] rfl 0 rfl rfl rfl ⟨Nat.le_of_ble_eq_true rfl, Nat.le_of_ble_eq_true rfl⟩ ⟨Nat.le_of_ble_eq_true rfl, Nat.le_of_ble_eq_true rfl⟩ rfl hl.1 rfl (Nat.le_of_ble_eq_true rfl) dX12_stood_2) (fun r_1 h_2 => ?_)
  subst h_2
  refine lv_if_eq (tgt := 15) hx hb dX12_stood_5 (by decide) (fun _ => ?_) (fun h => absurd h (by decide))
  refine lv_iconst (v := (-1)) hx hb dX12_stood_15 (by decide) ?_
  exact W.iret (v := (-1)) hx hb hr (fun t ht hW => ⟨(-1), rfl, rfl, ht⟩) (fun _ h => absurd h List.not_mem_nil) dX12_stood_16
set_option maxRecDepth 100000 in
set_option maxHeartbeats 4000000 in
theorem q_M_law (l : Launch) (D : va_G) (cI cB cZ : ClassId) (g : Nat → Nat) (v0 : Int32) : Met l yX12_law (CWS yX12_law cX12_law 2 (some .int)) (RM 3 0 0) (PBr [.ref (g 100), .int v0] D cI cB cZ [((g 100), .inr (13, oM g))]) (vp_Si (fun r => r = -1)) 0 0 (fun _ => False) := by
  refine Met.ofW (cc := cX12_law) (maxL := 2) (ret := (some .int)) (by decide) rfl ?_
  intro p e s m args below meth c s₁ B hml hv
  obtain ⟨rfl, hP, hK⟩ := hv
  have hx := B.exec
  have hb := B.bytes
  have hr := B.returns
  have hts := atoms_spec (ws := (CWS yX12_law cX12_law 2 (some .int))) B.pre
  have hown : s.vm.findClass RX12 = some m.cls := findClass_of_methodNamed B.named
  have hlocks := B.notSynchronized
  have S : SF p m c cX12_law 2 s ([.ref (g 100), .int v0]).toArray RX12 := ⟨hx, hb, hml, hown, fun w h => hts w (List.mem_cons_of_mem _ h)⟩
  have hP : va_P D vwCl [((g 100), .inr (13, oM g))] s.heap := hP
  have hl := lv_entry ([.ref (g 100), .int v0]) (n := 2) (Nat.le_of_ble_eq_true rfl)
  rw [lg_entry_eq]
  generalize (lg_sl ([.ref (g 100), .int v0]) ++ List.replicate (2 - (lg_sl ([.ref (g 100), .int v0])).length) Slot.unset).toArray = ls at hl ⊢
  have hl : lv_has ls 2 [(0, .ref (g 100)), (1, .int v0)] := hl
  refine lv_iload_n hx hb dX12_law_0 rfl (lv_at hl 1 rfl) ?_
  refine lv_iconst (v := 1) hx hb dX12_law_1 (by decide) ?_
  refine lv_sipush (v := 160) hx hb dX12_law_2 (by decide) ?_
  refine vp_callSi (runS_r (As := [.int v0, .int 1, .int 160]) (rest := []) S (q_in l D cI cB cZ v0 1 160) kS_RX12_214 hK hP [] rfl ⟨Nat.le_of_ble_eq_true rfl, Nat.le_of_ble_eq_true rfl⟩ ⟨Nat.le_of_ble_eq_true rfl, Nat.le_of_ble_eq_true rfl⟩ rfl hl.1 rfl (Nat.le_of_ble_eq_true rfl) dX12_law_5) (fun r_1 h_2 => ?_)
  rcases h_2 with ⟨rfl, h_2⟩ | ⟨rfl, h_2⟩
  ·
    have h_2 : 1 ≤ v0.toInt ∧ v0.toInt ≤ 160 := h_2
    refine lv_if_eq (tgt := 19) hx hb dX12_law_8 (by decide) (fun h => absurd h (by decide)) (fun _ => ?_)
    refine lv_iload_n hx hb dX12_law_11 rfl (lv_at hl 1 rfl) ?_
    refine lv_aload_n hx hb dX12_law_12 rfl (lv_at hl 0 rfl) ?_
    refine gf_RX12_226 S hK hP 0 rfl (v := .int 0) rfl dX12_law_13 ?_
    refine lv_icmp_le (tgt := 23) hx hb dX12_law_16 (by decide) (fun c_3 => False.elim (by have tc_3 : (v0.toInt : Int) ≤ 0 := Int32.le_iff_toInt_le.mp c_3; omega)) (fun c_3 => ?_)
    have tc_3 : (0 : Int) < v0.toInt := Int32.lt_iff_toInt_lt.mp (Int32.not_le.mp c_3)
    refine lv_iconst (v := (-1)) hx hb dX12_law_19 (by decide) ?_
    refine lv_goto (tgt := 30) hx hb dX12_law_20 (by decide) ?_
    exact W.iret (v := (-1)) hx hb hr (fun t ht hW => ⟨(-1), rfl, rfl, ht⟩) (fun _ h => absurd h List.not_mem_nil) dX12_law_30
  ·
    have h_2 : ¬ (1 ≤ v0.toInt ∧ v0.toInt ≤ 160) := h_2
    refine lv_if_eq (tgt := 19) hx hb dX12_law_8 (by decide) (fun _ => ?_) (fun h => absurd h (by decide))
    refine lv_iconst (v := (-1)) hx hb dX12_law_19 (by decide) ?_
    refine lv_goto (tgt := 30) hx hb dX12_law_20 (by decide) ?_
    exact W.iret (v := (-1)) hx hb hr (fun t ht hW => ⟨(-1), rfl, rfl, ht⟩) (fun _ h => absurd h List.not_mem_nil) dX12_law_30
set_option maxRecDepth 100000 in
set_option maxHeartbeats 4000000 in
theorem q_M_cheat (l : Launch) (D : va_G) (cI cB cZ : ClassId) (g : Nat → Nat) (v0 v1 v2 : Int32) : Met l yX12_cheat (CWS yX12_cheat cX12_cheat 9 (some .long)) (RM 3 0 0) (PBr [.ref (g 100), .int v0, .int v1, .int v2] D cI cB cZ [((g 100), .inr (13, oM g))]) (vp_Sl (fun r => r = -1)) 0 0 (fun _ => False) := by
  refine Met.ofW (cc := cX12_cheat) (maxL := 9) (ret := (some .long)) (by decide) rfl ?_
  intro p e s m args below meth c s₁ B hml hv
  obtain ⟨rfl, hP, hK⟩ := hv
  have hx := B.exec
  have hb := B.bytes
  have hr := B.returns
  have hts := atoms_spec (ws := (CWS yX12_cheat cX12_cheat 9 (some .long))) B.pre
  have hown : s.vm.findClass RX12 = some m.cls := findClass_of_methodNamed B.named
  have hlocks := B.notSynchronized
  have S : SF p m c cX12_cheat 9 s ([.ref (g 100), .int v0, .int v1, .int v2]).toArray RX12 := ⟨hx, hb, hml, hown, fun w h => hts w (List.mem_cons_of_mem _ h)⟩
  have hP : va_P D vwCl [((g 100), .inr (13, oM g))] s.heap := hP
  have hl := lv_entry ([.ref (g 100), .int v0, .int v1, .int v2]) (n := 9) (Nat.le_of_ble_eq_true rfl)
  rw [lg_entry_eq]
  generalize (lg_sl ([.ref (g 100), .int v0, .int v1, .int v2]) ++ List.replicate (9 - (lg_sl ([.ref (g 100), .int v0, .int v1, .int v2])).length) Slot.unset).toArray = ls at hl ⊢
  have hl : lv_has ls 9 [(0, .ref (g 100)), (1, .int v0), (2, .int v1), (3, .int v2)] := hl
  refine lv_aload_n hx hb dX12_cheat_0 rfl (lv_at hl 0 rfl) ?_
  refine lv_iload_n hx hb dX12_cheat_1 rfl (lv_at hl 1 rfl) ?_
  refine vp_callSi (runV_r (As := [.int v0]) (rest := []) S (q_misKitchen l D cI cB cZ g v0) kV_RX12_218 hK hP [0] rfl 0 rfl rfl rfl ⟨Nat.le_of_ble_eq_true rfl, Nat.le_of_ble_eq_true rfl⟩ ⟨Nat.le_of_ble_eq_true rfl, Nat.le_of_ble_eq_true rfl⟩ rfl hl.1 rfl (Nat.le_of_ble_eq_true rfl) dX12_cheat_2) (fun r_1 h_2 => ?_)
  subst h_2
  refine lv_if_eq (tgt := 28) hx hb dX12_cheat_5 (by decide) (fun _ => ?_) (fun h => absurd h (by decide))
  refine lv_ldc2 (v := (-1)) hx hb hown (S.2.2.2.2 _ (wT_tab 1757 rfl rfl)) dX12_cheat_28 ?_
  exact W.lret (v := (-1)) hx hb hr (fun t ht hW => ⟨(-1), rfl, rfl, ht⟩) (fun _ h => absurd h List.not_mem_nil) dX12_cheat_31
set_option maxRecDepth 100000 in
set_option maxHeartbeats 4000000 in
theorem q_M_street (l : Launch) (D : va_G) (cI cB cZ : ClassId) (g : Nat → Nat) (v0 v1 : Int32) : Met l yX12_street (CWS yX12_street cX12_street 3 (some .boolean)) (RM 3 0 0) (PBr [.ref (g 100), .int v0, .int v1] D cI cB cZ [((g 100), .inr (13, oM g))]) (vp_Si (fun r => r = 0)) 0 0 (fun _ => False) := by
  refine Met.ofW (cc := cX12_street) (maxL := 3) (ret := (some .boolean)) (by decide) rfl ?_
  intro p e s m args below meth c s₁ B hml hv
  obtain ⟨rfl, hP, hK⟩ := hv
  have hx := B.exec
  have hb := B.bytes
  have hr := B.returns
  have hts := atoms_spec (ws := (CWS yX12_street cX12_street 3 (some .boolean))) B.pre
  have hown : s.vm.findClass RX12 = some m.cls := findClass_of_methodNamed B.named
  have hlocks := B.notSynchronized
  have S : SF p m c cX12_street 3 s ([.ref (g 100), .int v0, .int v1]).toArray RX12 := ⟨hx, hb, hml, hown, fun w h => hts w (List.mem_cons_of_mem _ h)⟩
  have hP : va_P D vwCl [((g 100), .inr (13, oM g))] s.heap := hP
  have hl := lv_entry ([.ref (g 100), .int v0, .int v1]) (n := 3) (Nat.le_of_ble_eq_true rfl)
  rw [lg_entry_eq]
  generalize (lg_sl ([.ref (g 100), .int v0, .int v1]) ++ List.replicate (3 - (lg_sl ([.ref (g 100), .int v0, .int v1])).length) Slot.unset).toArray = ls at hl ⊢
  have hl : lv_has ls 3 [(0, .ref (g 100)), (1, .int v0), (2, .int v1)] := hl
  refine lv_aload_n hx hb dX12_street_0 rfl (lv_at hl 0 rfl) ?_
  refine lv_iload_n hx hb dX12_street_1 rfl (lv_at hl 1 rfl) ?_
  refine vp_callSi (runV_r (As := [.int v0]) (rest := []) S (q_misKitchen l D cI cB cZ g v0) kV_RX12_218 hK hP [0] rfl 0 rfl rfl rfl ⟨Nat.le_of_ble_eq_true rfl, Nat.le_of_ble_eq_true rfl⟩ ⟨Nat.le_of_ble_eq_true rfl, Nat.le_of_ble_eq_true rfl⟩ rfl hl.1 rfl (Nat.le_of_ble_eq_true rfl) dX12_street_2) (fun r_1 h_2 => ?_)
  subst h_2
  refine lv_if_eq (tgt := 18) hx hb dX12_street_5 (by decide) (fun _ => ?_) (fun h => absurd h (by decide))
  refine lv_iconst (v := 0) hx hb dX12_street_18 (by decide) ?_
  exact W.zret (v := 0) hx hb hr rfl (fun t ht hW => ⟨0, rfl, rfl, ht⟩) (fun _ h => absurd h List.not_mem_nil) dX12_street_19
set_option maxRecDepth 100000 in
set_option maxHeartbeats 4000000 in
theorem q_M_offers (l : Launch) (D : va_G) (cI cB cZ : ClassId) (g : Nat → Nat) (v0 v1 v2 : Int32) : Met l yX12_offers (CWS yX12_offers cX12_offers 4 (some .boolean)) (RM 3 0 0) (PBr [.ref (g 100), .int v0, .int v1, .int v2] D cI cB cZ [((g 100), .inr (13, oM g))]) (vp_Si (fun r => r = 0)) 0 0 (fun _ => False) := by
  refine Met.ofW (cc := cX12_offers) (maxL := 4) (ret := (some .boolean)) (by decide) rfl ?_
  intro p e s m args below meth c s₁ B hml hv
  obtain ⟨rfl, hP, hK⟩ := hv
  have hx := B.exec
  have hb := B.bytes
  have hr := B.returns
  have hts := atoms_spec (ws := (CWS yX12_offers cX12_offers 4 (some .boolean))) B.pre
  have hown : s.vm.findClass RX12 = some m.cls := findClass_of_methodNamed B.named
  have hlocks := B.notSynchronized
  have S : SF p m c cX12_offers 4 s ([.ref (g 100), .int v0, .int v1, .int v2]).toArray RX12 := ⟨hx, hb, hml, hown, fun w h => hts w (List.mem_cons_of_mem _ h)⟩
  have hP : va_P D vwCl [((g 100), .inr (13, oM g))] s.heap := hP
  have hl := lv_entry ([.ref (g 100), .int v0, .int v1, .int v2]) (n := 4) (Nat.le_of_ble_eq_true rfl)
  rw [lg_entry_eq]
  generalize (lg_sl ([.ref (g 100), .int v0, .int v1, .int v2]) ++ List.replicate (4 - (lg_sl ([.ref (g 100), .int v0, .int v1, .int v2])).length) Slot.unset).toArray = ls at hl ⊢
  have hl : lv_has ls 4 [(0, .ref (g 100)), (1, .int v0), (2, .int v1), (3, .int v2)] := hl
  refine lv_aload_n hx hb dX12_offers_0 rfl (lv_at hl 0 rfl) ?_
  refine lv_iload_n hx hb dX12_offers_1 rfl (lv_at hl 1 rfl) ?_
  refine vp_callSi (runV_r (As := [.int v0]) (rest := []) S (q_misKitchen l D cI cB cZ g v0) kV_RX12_218 hK hP [0] rfl 0 rfl rfl rfl ⟨Nat.le_of_ble_eq_true rfl, Nat.le_of_ble_eq_true rfl⟩ ⟨Nat.le_of_ble_eq_true rfl, Nat.le_of_ble_eq_true rfl⟩ rfl hl.1 rfl (Nat.le_of_ble_eq_true rfl) dX12_offers_2) (fun r_1 h_2 => ?_)
  subst h_2
  refine lv_if_eq (tgt := 30) hx hb dX12_offers_5 (by decide) (fun _ => ?_) (fun h => absurd h (by decide))
  refine lv_iconst (v := 0) hx hb dX12_offers_30 (by decide) ?_
  exact W.zret (v := 0) hx hb hr rfl (fun t ht hW => ⟨0, rfl, rfl, ht⟩) (fun _ h => absurd h List.not_mem_nil) dX12_offers_31
set_option maxRecDepth 100000 in
set_option maxHeartbeats 4000000 in
theorem q_M_moves (l : Launch) (D : va_G) (cI cB cZ : ClassId) (g : Nat → Nat) (v0 v1 v2 : Int32) : Met l yX12_moves (CWS yX12_moves cX12_moves 5 (some .boolean)) (RM 3 0 0) (PBr [.ref (g 100), .int v0, .int v1, .int v2] D cI cB cZ [((g 100), .inr (13, oM g))]) (vp_Si (fun r => r = 0)) 0 0 (fun _ => False) := by
  refine Met.ofW (cc := cX12_moves) (maxL := 5) (ret := (some .boolean)) (by decide) rfl ?_
  intro p e s m args below meth c s₁ B hml hv
  obtain ⟨rfl, hP, hK⟩ := hv
  have hx := B.exec
  have hb := B.bytes
  have hr := B.returns
  have hts := atoms_spec (ws := (CWS yX12_moves cX12_moves 5 (some .boolean))) B.pre
  have hown : s.vm.findClass RX12 = some m.cls := findClass_of_methodNamed B.named
  have hlocks := B.notSynchronized
  have S : SF p m c cX12_moves 5 s ([.ref (g 100), .int v0, .int v1, .int v2]).toArray RX12 := ⟨hx, hb, hml, hown, fun w h => hts w (List.mem_cons_of_mem _ h)⟩
  have hP : va_P D vwCl [((g 100), .inr (13, oM g))] s.heap := hP
  have hl := lv_entry ([.ref (g 100), .int v0, .int v1, .int v2]) (n := 5) (Nat.le_of_ble_eq_true rfl)
  rw [lg_entry_eq]
  generalize (lg_sl ([.ref (g 100), .int v0, .int v1, .int v2]) ++ List.replicate (5 - (lg_sl ([.ref (g 100), .int v0, .int v1, .int v2])).length) Slot.unset).toArray = ls at hl ⊢
  have hl : lv_has ls 5 [(0, .ref (g 100)), (1, .int v0), (2, .int v1), (3, .int v2)] := hl
  refine lv_aload_n hx hb dX12_moves_0 rfl (lv_at hl 0 rfl) ?_
  refine lv_iload_n hx hb dX12_moves_1 rfl (lv_at hl 1 rfl) ?_
  refine vp_callSi (runV_r (As := [.int v0]) (rest := []) S (q_misDrum l D cI cB cZ g v0) kV_RX12_413 hK hP [0] rfl 0 rfl rfl rfl ⟨Nat.le_of_ble_eq_true rfl, Nat.le_of_ble_eq_true rfl⟩ ⟨Nat.le_of_ble_eq_true rfl, Nat.le_of_ble_eq_true rfl⟩ rfl hl.1 rfl (Nat.le_of_ble_eq_true rfl) dX12_moves_2) (fun r_1 h_2 => ?_)
  subst h_2
  refine lv_if_eq (tgt := 42) hx hb dX12_moves_5 (by decide) (fun _ => ?_) (fun h => absurd h (by decide))
  refine lv_iconst (v := 0) hx hb dX12_moves_42 (by decide) ?_
  exact W.zret (v := 0) hx hb hr rfl (fun t ht hW => ⟨0, rfl, rfl, ht⟩) (fun _ h => absurd h List.not_mem_nil) dX12_moves_43
set_option maxRecDepth 100000 in
set_option maxHeartbeats 4000000 in
theorem q_M_off (l : Launch) (D : va_G) (cI cB cZ : ClassId) (g : Nat → Nat) (v0 v1 v2 : Int32) : Met l yX12_off (CWS yX12_off cX12_off 4 (some .boolean)) (RM 3 0 0) (PBr [.ref (g 100), .int v0, .int v1, .int v2] D cI cB cZ [((g 100), .inr (13, oM g))]) (vp_Si (fun r => r = 0)) 0 0 (fun _ => False) := by
  refine Met.ofW (cc := cX12_off) (maxL := 4) (ret := (some .boolean)) (by decide) rfl ?_
  intro p e s m args below meth c s₁ B hml hv
  obtain ⟨rfl, hP, hK⟩ := hv
  have hx := B.exec
  have hb := B.bytes
  have hr := B.returns
  have hts := atoms_spec (ws := (CWS yX12_off cX12_off 4 (some .boolean))) B.pre
  have hown : s.vm.findClass RX12 = some m.cls := findClass_of_methodNamed B.named
  have hlocks := B.notSynchronized
  have S : SF p m c cX12_off 4 s ([.ref (g 100), .int v0, .int v1, .int v2]).toArray RX12 := ⟨hx, hb, hml, hown, fun w h => hts w (List.mem_cons_of_mem _ h)⟩
  have hP : va_P D vwCl [((g 100), .inr (13, oM g))] s.heap := hP
  have hl := lv_entry ([.ref (g 100), .int v0, .int v1, .int v2]) (n := 4) (Nat.le_of_ble_eq_true rfl)
  rw [lg_entry_eq]
  generalize (lg_sl ([.ref (g 100), .int v0, .int v1, .int v2]) ++ List.replicate (4 - (lg_sl ([.ref (g 100), .int v0, .int v1, .int v2])).length) Slot.unset).toArray = ls at hl ⊢
  have hl : lv_has ls 4 [(0, .ref (g 100)), (1, .int v0), (2, .int v1), (3, .int v2)] := hl
  refine lv_iload_n hx hb dX12_off_0 rfl (lv_at hl 1 rfl) ?_
  refine lv_if_lt (tgt := 35) hx hb dX12_off_1 (by decide) (fun c_1 => ?_) (fun c_1 => ?_)
  ·
    have tc_1 : (v0.toInt : Int) < 0 := Int32.lt_iff_toInt_lt.mp c_1
    refine lv_iconst (v := 0) hx hb dX12_off_35 (by decide) ?_
    exact W.zret (v := 0) hx hb hr rfl (fun t ht hW => ⟨0, rfl, rfl, ht⟩) (fun _ h => absurd h List.not_mem_nil) dX12_off_36
  ·
    have tc_1 : (0 : Int) ≤ v0.toInt := Int32.le_iff_toInt_le.mp (Int32.not_lt.mp c_1)
    refine lv_iload_n hx hb dX12_off_4 rfl (lv_at hl 1 rfl) ?_
    refine lv_aload_n hx hb dX12_off_5 rfl (lv_at hl 0 rfl) ?_
    refine gf_RX12_386 S hK hP 0 rfl (v := .int 0) rfl dX12_off_6 ?_
    refine lv_icmp_ge (tgt := 35) hx hb dX12_off_9 (by decide) (fun c_2 => ?_) (fun c_2 => False.elim (by have tc_2 : (v0.toInt : Int) < 0 := Int32.lt_iff_toInt_lt.mp (Int32.not_le.mp c_2); omega))
    have tc_2 : (0 : Int) ≤ v0.toInt := Int32.le_iff_toInt_le.mp c_2
    refine lv_iconst (v := 0) hx hb dX12_off_35 (by decide) ?_
    exact W.zret (v := 0) hx hb hr rfl (fun t ht hW => ⟨0, rfl, rfl, ht⟩) (fun _ h => absurd h List.not_mem_nil) dX12_off_36
set_option maxRecDepth 100000 in
set_option maxHeartbeats 4000000 in
theorem q_M_check (l : Launch) (D : va_G) (cI cB cZ : ClassId) (g : Nat → Nat) (v0 v1 : Int32) : Met l yX12_check (CWS yX12_check cX12_check 5 (some .int)) (RM 3 0 0) (PBr [.ref (g 100), .int v0, .int v1] D cI cB cZ [((g 100), .inr (13, oM g))]) (vp_Si (fun r => r = -2)) 0 0 (fun _ => False) := by
  refine Met.ofW (cc := cX12_check) (maxL := 5) (ret := (some .int)) (by decide) rfl ?_
  intro p e s m args below meth c s₁ B hml hv
  obtain ⟨rfl, hP, hK⟩ := hv
  have hx := B.exec
  have hb := B.bytes
  have hr := B.returns
  have hts := atoms_spec (ws := (CWS yX12_check cX12_check 5 (some .int))) B.pre
  have hown : s.vm.findClass RX12 = some m.cls := findClass_of_methodNamed B.named
  have hlocks := B.notSynchronized
  have S : SF p m c cX12_check 5 s ([.ref (g 100), .int v0, .int v1]).toArray RX12 := ⟨hx, hb, hml, hown, fun w h => hts w (List.mem_cons_of_mem _ h)⟩
  have hP : va_P D vwCl [((g 100), .inr (13, oM g))] s.heap := hP
  have hl := lv_entry ([.ref (g 100), .int v0, .int v1]) (n := 5) (Nat.le_of_ble_eq_true rfl)
  rw [lg_entry_eq]
  generalize (lg_sl ([.ref (g 100), .int v0, .int v1]) ++ List.replicate (5 - (lg_sl ([.ref (g 100), .int v0, .int v1])).length) Slot.unset).toArray = ls at hl ⊢
  have hl : lv_has ls 5 [(0, .ref (g 100)), (1, .int v0), (2, .int v1)] := hl
  refine lv_aload_n hx hb dX12_check_0 rfl (lv_at hl 0 rfl) ?_
  refine lv_iload_n hx hb dX12_check_1 rfl (lv_at hl 1 rfl) ?_
  refine vp_callSi (runV_r (As := [.int v0]) (rest := []) S (q_misKitchen l D cI cB cZ g v0) kV_RX12_218 hK hP [0] rfl 0 rfl rfl rfl ⟨Nat.le_of_ble_eq_true rfl, Nat.le_of_ble_eq_true rfl⟩ ⟨Nat.le_of_ble_eq_true rfl, Nat.le_of_ble_eq_true rfl⟩ rfl hl.1 rfl (Nat.le_of_ble_eq_true rfl) dX12_check_2) (fun r_1 h_2 => ?_)
  subst h_2
  refine lv_if_eq (tgt := 23) hx hb dX12_check_5 (by decide) (fun _ => ?_) (fun h => absurd h (by decide))
  refine lv_bipush (v := (-2)) hx hb dX12_check_23 (by decide) ?_
  exact W.iret (v := (-2)) hx hb hr (fun t ht hW => ⟨(-2), rfl, rfl, ht⟩) (fun _ h => absurd h List.not_mem_nil) dX12_check_25
