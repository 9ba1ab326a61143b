def dgF (i : Nat) : Nat → Int32 := fun j => if j < i then 15 else 0
theorem dgF_0 : dgF 0 = fun _ => 0 := by funext j; simp [dgF]
theorem dgF_s (i : Nat) : upd (dgF i) i 15 = dgF (i + 1) := by
  funext j
  unfold upd dgF
  by_cases q : j = i
  · subst q; rw [if_pos rfl, if_pos (by omega)]
  · rw [if_neg q]
    by_cases z : j < i
    · rw [if_pos z, if_pos (by omega)]
    · rw [if_neg z, if_neg (by omega)]
def adS (u : Nat → Nat) : Nat → Nat → Nat := fun i k => if i = 4 then (if k = 2 then u 41 else k) else if i = 5 then u (50 + k) else if i = 6 then u 41 else u (70 + 2 * (i - 60) + k)
def cnS : Nat → Nat := fun k => if k = 6 then 2 else 0
def FnS : Nat → Nat → Int32 := fun j => if j = 22 then dgF 400 else fun _ => 0
theorem gA0 {st k : Nat} : gA (fun _ => 0) st k = fun _ => 0 := by
  funext i; unfold gA; split <;> rfl
set_option maxRecDepth 100000 in
set_option maxHeartbeats 4000000 in
theorem wX_start {cI QA : ClassId} {zz : Nat} {D : va_G} (hQ : QA = D.1 99) (u : Nat → Nat) : ([((u 0), .inr (12, [.int 0, .int 0, .int 0, .int 0, .ref (u 50), .ref (u 5), .ref (u 6), .ref (u 7), .ref (u 8), .ref (u 9), .ref (u 10), .ref (u 11), .ref (u 12), .ref (u 13), .ref (u 14), .ref (u 15)])), ((u 5), .inr (9, [.ref (u 40), .int 0])), ((u 40), .inl (cI, 200, .inl (fun _ => 0))), ((u 6), .inr (6, [.ref (u 41), .ref (u 51), .int 0, .int 0, .int 0, .int 0])), ((u 41), .inl (cI, 0, .inl (fun _ => 0))), ((u 7), .inl (cI, 11, .inl (fun _ => 0))), ((u 8), .inr (8, [.ref (u 20), .ref (u 21), .ref (u 22), .ref (u 23), .ref (u 24), .ref (u 25), .ref (u 26), .ref (u 27), .ref (u 28), .ref (u 29)])), ((u 20), .inl (cI, 58, .inl (fun _ => 0))), ((u 21), .inl (cI, 24, .inl (fun _ => 0))), ((u 22), .inl (cI, 400, .inl (dgF 400))), ((u 23), .inl (cI, 400, .inl (fun _ => 0))), ((u 24), .inl (cI, 10, .inl (fun _ => 0))), ((u 25), .inl (cI, 10, .inl (fun _ => 0))), ((u 26), .inl (cI, 232, .inl (fun _ => 0))), ((u 27), .inl (cI, 3, .inl (fun _ => 0))), ((u 28), .inl (cI, 1200, .inl (fun _ => 0))), ((u 29), .inl (cI, 400, .inl (fun _ => 0))), ((u 9), .inr (11, [.ref (u 30), .ref (u 31), .ref (u 32), .ref (u 33), .ref (u 34), .ref (u 35), .int 0])), ((u 30), .inl (cI, 8, .inl (fun _ => 0))), ((u 31), .inl (cI, 8, .inl (fun _ => 0))), ((u 32), .inl (cI, 8, .inl (fun _ => 0))), ((u 33), .inl (cI, 8, .inl (fun _ => 0))), ((u 34), .inl (cI, 2048, .inl (fun _ => 0))), ((u 35), .inl (cI, 256, .inl (fun _ => 0))), ((u 10), .inr (0, [.int 0, .ref zz, .int 0])), ((u 11), .inr (0, [.int 0, .ref zz, .int 0])), ((u 12), .inr (0, [.int 0, .ref zz, .int 0])), ((u 13), .inr (0, [.int 0, .ref zz, .int 0])), ((u 14), .inr (0, [.int 0, .ref zz, .int 0])), ((u 15), .inr (0, [.int 0, .ref zz, .int 0])), ((u 50), .inr (10, [.ref (u 70), .ref (u 72), .ref (u 74), .ref (u 76), .ref (u 78), .int 0, .int 0, .int 0, .int 0])), ((u 51), .inr (10, [.ref (u 71), .ref (u 73), .ref (u 75), .ref (u 77), .ref (u 79), .int 0, .int 0, .int 0, .int 0])), ((u 70), .inl (cI, 0, .inl (fun _ => 0))), ((u 71), .inl (cI, 0, .inl (fun _ => 0))), ((u 72), .inl (cI, 12, .inl (fun _ => 0))), ((u 73), .inl (cI, 12, .inl (fun _ => 0))), ((u 74), .inl (cI, 12, .inl (fun _ => 0))), ((u 75), .inl (cI, 12, .inl (fun _ => 0))), ((u 76), .inl (cI, 12, .inl (fun _ => 0))), ((u 77), .inl (cI, 12, .inl (fun _ => 0))), ((u 78), .inl (cI, 32, .inl (fun _ => 0))), ((u 79), .inl (cI, 32, .inl (fun _ => 0)))] : va_W) = wX cI (D.1 99) zz u (adS u) cnS (fun _ => 0) FnS := by
  have h : wX cI (D.1 99) zz u (adS u) cnS (fun _ => 0) FnS = ([((u 0), .inr (12, [.int 0, .int 0, .int 0, .int 0, .ref (u 50), .ref (u 5), .ref (u 6), .ref (u 7), .ref (u 8), .ref (u 9), .ref (u 10), .ref (u 11), .ref (u 12), .ref (u 13), .ref (u 14), .ref (u 15)])), ((u 5), .inr (9, [.ref (u 40), .int 0])), ((u 40), .inl (cI, 200, .inl (fun _ => 0))), ((u 6), .inr (6, [.ref (u 41), .ref (u 51), .int 0, .int 0, .int 0, .int 0])), ((u 41), .inl (cI, 0, .inl (fun _ => 0))), ((u 7), .inl (cI, 11, .inl (fun _ => 0))), ((u 8), .inr (8, [.ref (u 20), .ref (u 21), .ref (u 22), .ref (u 23), .ref (u 24), .ref (u 25), .ref (u 26), .ref (u 27), .ref (u 28), .ref (u 29)])), ((u 20), .inl (cI, 58, .inl (fun _ => 0))), ((u 21), .inl (cI, 24, .inl (fun _ => 0))), ((u 22), .inl (cI, 400, .inl (dgF 400))), ((u 23), .inl (cI, 400, .inl (fun _ => 0))), ((u 24), .inl (cI, 10, .inl (fun _ => 0))), ((u 25), .inl (cI, 10, .inl (fun _ => 0))), ((u 26), .inl (cI, 232, .inl (fun _ => 0))), ((u 27), .inl (cI, 3, .inl (fun _ => 0))), ((u 28), .inl (cI, 1200, .inl (fun _ => 0))), ((u 29), .inl (cI, 400, .inl (fun _ => 0))), ((u 9), .inr (11, [.ref (u 30), .ref (u 31), .ref (u 32), .ref (u 33), .ref (u 34), .ref (u 35), .int 0])), ((u 30), .inl (cI, 8, .inl (fun _ => 0))), ((u 31), .inl (cI, 8, .inl (fun _ => 0))), ((u 32), .inl (cI, 8, .inl (fun _ => 0))), ((u 33), .inl (cI, 8, .inl (fun _ => 0))), ((u 34), .inl (cI, 2048, .inl (fun _ => 0))), ((u 35), .inl (cI, 256, .inl (fun _ => 0))), ((u 10), .inr (0, [.int 0, .ref zz, .int 0])), ((u 11), .inr (0, [.int 0, .ref zz, .int 0])), ((u 12), .inr (0, [.int 0, .ref zz, .int 0])), ((u 13), .inr (0, [.int 0, .ref zz, .int 0])), ((u 14), .inr (0, [.int 0, .ref zz, .int 0])), ((u 15), .inr (0, [.int 0, .ref zz, .int 0])), ((u 50), .inr (10, [.ref (u 70), .ref (u 72), .ref (u 74), .ref (u 76), .ref (u 78), .int 0, .int 0, .int 0, .int 0])), ((u 51), .inr (10, [.ref (u 71), .ref (u 73), .ref (u 75), .ref (u 77), .ref (u 79), .int 0, .int 0, .int 0, .int 0])), ((u 70), .inl (cI, 0, .inl (gA (fun _ => 0) 200 0))), ((u 71), .inl (cI, 0, .inl (gA (fun _ => 0) 200 1))), ((u 72), .inl (cI, 12, .inl (gA (fun _ => 0) 12 0))), ((u 73), .inl (cI, 12, .inl (gA (fun _ => 0) 12 1))), ((u 74), .inl (cI, 12, .inl (gA (fun _ => 0) 12 0))), ((u 75), .inl (cI, 12, .inl (gA (fun _ => 0) 12 1))), ((u 76), .inl (cI, 12, .inl (gA (fun _ => 0) 12 0))), ((u 77), .inl (cI, 12, .inl (gA (fun _ => 0) 12 1))), ((u 78), .inl (cI, 32, .inl (gA (fun _ => 0) 32 0))), ((u 79), .inl (cI, 32, .inl (gA (fun _ => 0) 32 1)))] : va_W) := rfl
  rw [h]
  simp only [gA0]
def FnMS : Nat → Nat → Int32 := fun j => if j = 90 then dgF 400 else fun _ => 0
set_option maxRecDepth 100000 in
set_option maxHeartbeats 4000000 in
theorem wM_start {cI cB cZ : ClassId} (u : Nat → Nat) : ([((u 100), .inr (13, [.int 0, .int 0, .int 0, .ref (u 3), .ref (u 4), .ref (u 5), .ref (u 6), .ref (u 7), .ref (u 8), .ref (u 9), .ref (u 10), .ref (u 11), .ref (u 12), .ref (u 13), .ref (u 14), .ref (u 15), .ref (u 16), .ref (u 17), .int 0, .int 0, .int 0, .int 0, .int 0, .int 0, .int 0, .int 0, .int 0, .ref (u 27), .ref (u 28), .ref (u 29), .ref (u 30), .ref (u 31), .ref (u 32), .ref (u 33), .ref (u 34), .ref (u 35), .ref (u 36), .ref (u 37), .ref (u 38), .ref (u 39), .ref (u 40), .ref (u 41), .ref (u 42), .ref (u 43), .int 0, .int 0, .int 0, .ref (u 47), .ref (u 48), .ref (u 49), .ref (u 50), .ref (u 51), .ref (u 52), .ref (u 53), .int 0, .int 0, .int 0, .int 0, .int 0, .ref (u 59), .ref (u 60), .ref (u 61), .int 0, .int 0, .ref (u 64), .ref (u 65), .ref (u 66), .ref (u 67), .ref (u 68), .ref (u 69), .ref (u 70), .int 0, .int 0, .int 0, .ref (u 74), .int 0, .ref (u 76), .ref (u 77), .ref (u 78), .ref (u 79), .ref (u 80), .ref (u 81), .ref (u 82), .int 0, .ref (u 84), .ref (u 85), .ref (u 86), .ref (u 87), .ref (u 88), .ref (u 89), .ref (u 90)])), ((u 3), .inl (cI, 10, .inl (fun _ => 0))), ((u 4), .inl (cI, 10, .inl (fun _ => 0))), ((u 5), .inl (cI, 10, .inl (fun _ => 0))), ((u 6), .inl (cI, 10, .inl (fun _ => 0))), ((u 7), .inl (cI, 10, .inl (fun _ => 0))), ((u 8), .inl (cI, 60, .inl (fun _ => 0))), ((u 9), .inl (cI, 60, .inl (fun _ => 0))), ((u 10), .inl (cI, 60, .inl (fun _ => 0))), ((u 11), .inl (cI, 60, .inl (fun _ => 0))), ((u 12), .inl (cI, 60, .inl (fun _ => 0))), ((u 13), .inl (cI, 60, .inl (fun _ => 0))), ((u 14), .inl (cI, 60, .inl (fun _ => 0))), ((u 15), .inl (cI, 60, .inl (fun _ => 0))), ((u 16), .inl (cI, 60, .inl (fun _ => 0))), ((u 17), .inl (cB, 200, .inl (fun _ => 0))), ((u 27), .inl (cI, 180, .inl (fun _ => 0))), ((u 28), .inl (cI, 180, .inl (fun _ => 0))), ((u 29), .inl (cI, 12, .inl (fun _ => 0))), ((u 30), .inl (cI, 12, .inl (fun _ => 0))), ((u 31), .inl (cI, 12, .inl (fun _ => 0))), ((u 32), .inl (cI, 1980, .inl (fun _ => 0))), ((u 33), .inl (cI, 11, .inl (fun _ => 0))), ((u 34), .inl (cI, 132, .inl (fun _ => 0))), ((u 35), .inl (cI, 132, .inl (fun _ => 0))), ((u 36), .inl (cI, 132, .inl (fun _ => 0))), ((u 37), .inl (cI, 180, .inl (fun _ => 0))), ((u 38), .inl (cI, 11, .inl (fun _ => 0))), ((u 39), .inl (cI, 58, .inl (fun _ => 0))), ((u 40), .inl (cI, 10, .inl (fun _ => 0))), ((u 41), .inl (cI, 400, .inl (fun _ => 0))), ((u 42), .inl (cI, 10, .inl (fun _ => 0))), ((u 43), .inl (cI, 2048, .inl (fun _ => 0))), ((u 47), .inl (cI, 3, .inl (fun _ => 0))), ((u 48), .inl (cI, 3, .inl (fun _ => 0))), ((u 49), .inl (cI, 3, .inl (fun _ => 0))), ((u 50), .inl (cI, 6, .inl (fun _ => 0))), ((u 51), .inl (cI, 6, .inl (fun _ => 0))), ((u 52), .inl (cI, 10, .inl (fun _ => 0))), ((u 53), .inl (cZ, 1200, .inl (fun _ => 0))), ((u 59), .inl (cI, 60, .inl (fun _ => 0))), ((u 60), .inl (cI, 60, .inl (fun _ => 0))), ((u 61), .inl (cI, 60, .inl (fun _ => 0))), ((u 64), .inl (cI, 10, .inl (fun _ => 0))), ((u 65), .inl (cI, 10, .inl (fun _ => 0))), ((u 66), .inl (cI, 40, .inl (fun _ => 0))), ((u 67), .inl (cI, 40, .inl (fun _ => 0))), ((u 68), .inl (cI, 40, .inl (fun _ => 0))), ((u 69), .inl (cI, 40, .inl (fun _ => 0))), ((u 70), .inl (cI, 40, .inl (fun _ => 0))), ((u 74), .inl (cI, 12, .inl (fun _ => 0))), ((u 76), .inl (cI, 10, .inl (fun _ => 0))), ((u 77), .inl (cI, 232, .inl (fun _ => 0))), ((u 78), .inl (cI, 10, .inl (fun _ => 0))), ((u 79), .inl (cI, 10, .inl (fun _ => 0))), ((u 80), .inl (cI, 120, .inl (fun _ => 0))), ((u 81), .inl (cI, 40, .inl (fun _ => 0))), ((u 82), .inl (cI, 40, .inl (fun _ => 0))), ((u 84), .inl (cI, 10, .inl (fun _ => 0))), ((u 85), .inl (cI, 10, .inl (fun _ => 0))), ((u 86), .inl (cI, 24, .inl (fun _ => 0))), ((u 87), .inl (cI, 10, .inl (fun _ => 0))), ((u 88), .inl (cI, 10, .inl (fun _ => 0))), ((u 89), .inl (cI, 10, .inl (fun _ => 0))), ((u 90), .inl (cI, 400, .inl (dgF 400)))] : va_W) = wM cI cB cZ u (fun _ => 0) (fun _ => 0) FnMS := rfl

set_option maxRecDepth 100000 in
theorem pf_RX8_9 {p : Program} {l : Launch} {e : Env} {R : Room} {s : State} {m : MethodId} {args : Array Value} {below : List Frame} {meth : Method} {c : Code} {H : Heap} {locs : List Loc} {cells slots : Nat} {Q : State → Prop} {cc : ByteArray} {nL pc : Nat} {D : va_G} {cI cB cZ : ClassId} {ws : va_W} {rest : List Value} {ls : Array Slot} {a : Nat} {fs : List Value} {v : Value} {A : Nat → Prop} {H0 : Heap} (S : SF p m c cc nL s args RX8) (hin : meth.name = "<init>") (hK : KK D cI cB cZ s) (hP : va_P D vwCl ws H) (hD : va_D A ws) (hS : va_S A H0 H locs) (q0 : Nat) (he : ws[q0]? = some (a, .inr (9, fs))) (hl : 0 < fs.length) (hn : narrow (tyX8 0) v = v) (hfit : fits (tyX8 0) v = true) (hdg : decode cc pc = .ok (.putfield 9, 3)) (kk : ∀ (H1 : Heap) (locs1 : List Loc), va_P D vwCl (ws.set q0 (a, .inr (9, fs.set 0 v))) H1 → va_D A (ws.set q0 (a, .inr (9, fs.set 0 v))) → va_S A H0 H1 locs1 → W p l e R s m args below meth c H1 locs1 cells slots Q (F0 m (pc + 3) ls rest)) : W p l e R s m args below meth c H locs cells slots Q (F0 m pc ls (v :: .ref a :: rest)) :=
  va_putF (C := RX8) (T := TX8) (N := 2) S.1 S.2.1 S.2.2.2.2 hin_RX8 tyX8 tyX8_ok nmX8 S.2.2.2.1 hK.1 hP hD hS q0 he rfl 0 (by decide) (S.2.2.2.2 _ (wT_t1 81 rfl rfl)) (fun _ h9 => h9) rfl hin rfl (tyX8_ok 0 (by decide)) hn hfit hl hdg kk
set_option maxRecDepth 100000 in
theorem pf_RX7_9 {p : Program} {l : Launch} {e : Env} {R : Room} {s : State} {m : MethodId} {args : Array Value} {below : List Frame} {meth : Method} {c : Code} {H : Heap} {locs : List Loc} {cells slots : Nat} {Q : State → Prop} {cc : ByteArray} {nL pc : Nat} {D : va_G} {cI cB cZ : ClassId} {ws : va_W} {rest : List Value} {ls : Array Slot} {a : Nat} {fs : List Value} {v : Value} {A : Nat → Prop} {H0 : Heap} (S : SF p m c cc nL s args RX7) (hin : meth.name = "<init>") (hK : KK D cI cB cZ s) (hP : va_P D vwCl ws H) (hD : va_D A ws) (hS : va_S A H0 H locs) (q0 : Nat) (he : ws[q0]? = some (a, .inr (8, fs))) (hl : 0 < fs.length) (hn : narrow (tyX7 0) v = v) (hfit : fits (tyX7 0) v = true) (hdg : decode cc pc = .ok (.putfield 9, 3)) (kk : ∀ (H1 : Heap) (locs1 : List Loc), va_P D vwCl (ws.set q0 (a, .inr (8, fs.set 0 v))) H1 → va_D A (ws.set q0 (a, .inr (8, fs.set 0 v))) → va_S A H0 H1 locs1 → W p l e R s m args below meth c H1 locs1 cells slots Q (F0 m (pc + 3) ls rest)) : W p l e R s m args below meth c H locs cells slots Q (F0 m pc ls (v :: .ref a :: rest)) :=
  va_putF (C := RX7) (T := TX7) (N := 10) S.1 S.2.1 S.2.2.2.2 hin_RX7 tyX7 tyX7_ok nmX7 S.2.2.2.1 hK.1 hP hD hS q0 he rfl 0 (by decide) (S.2.2.2.2 _ (wT_t1 137 rfl rfl)) (fun _ h9 => h9) rfl hin rfl (tyX7_ok 0 (by decide)) hn hfit hl hdg kk
set_option maxRecDepth 100000 in
theorem pf_RX7_15 {p : Program} {l : Launch} {e : Env} {R : Room} {s : State} {m : MethodId} {args : Array Value} {below : List Frame} {meth : Method} {c : Code} {H : Heap} {locs : List Loc} {cells slots : Nat} {Q : State → Prop} {cc : ByteArray} {nL pc : Nat} {D : va_G} {cI cB cZ : ClassId} {ws : va_W} {rest : List Value} {ls : Array Slot} {a : Nat} {fs : List Value} {v : Value} {A : Nat → Prop} {H0 : Heap} (S : SF p m c cc nL s args RX7) (hin : meth.name = "<init>") (hK : KK D cI cB cZ s) (hP : va_P D vwCl ws H) (hD : va_D A ws) (hS : va_S A H0 H locs) (q0 : Nat) (he : ws[q0]? = some (a, .inr (8, fs))) (hl : 1 < fs.length) (hn : narrow (tyX7 1) v = v) (hfit : fits (tyX7 1) v = true) (hdg : decode cc pc = .ok (.putfield 15, 3)) (kk : ∀ (H1 : Heap) (locs1 : List Loc), va_P D vwCl (ws.set q0 (a, .inr (8, fs.set 1 v))) H1 → va_D A (ws.set q0 (a, .inr (8, fs.set 1 v))) → va_S A H0 H1 locs1 → W p l e R s m args below meth c H1 locs1 cells slots Q (F0 m (pc + 3) ls rest)) : W p l e R s m args below meth c H locs cells slots Q (F0 m pc ls (v :: .ref a :: rest)) :=
  va_putF (C := RX7) (T := TX7) (N := 10) S.1 S.2.1 S.2.2.2.2 hin_RX7 tyX7 tyX7_ok nmX7 S.2.2.2.1 hK.1 hP hD hS q0 he rfl 1 (by decide) (S.2.2.2.2 _ (wT_t1 139 rfl rfl)) (fun _ h9 => h9) rfl hin rfl (tyX7_ok 1 (by decide)) hn hfit hl hdg kk
set_option maxRecDepth 100000 in
theorem pf_RX7_18 {p : Program} {l : Launch} {e : Env} {R : Room} {s : State} {m : MethodId} {args : Array Value} {below : List Frame} {meth : Method} {c : Code} {H : Heap} {locs : List Loc} {cells slots : Nat} {Q : State → Prop} {cc : ByteArray} {nL pc : Nat} {D : va_G} {cI cB cZ : ClassId} {ws : va_W} {rest : List Value} {ls : Array Slot} {a : Nat} {fs : List Value} {v : Value} {A : Nat → Prop} {H0 : Heap} (S : SF p m c cc nL s args RX7) (hin : meth.name = "<init>") (hK : KK D cI cB cZ s) (hP : va_P D vwCl ws H) (hD : va_D A ws) (hS : va_S A H0 H locs) (q0 : Nat) (he : ws[q0]? = some (a, .inr (8, fs))) (hl : 2 < fs.length) (hn : narrow (tyX7 2) v = v) (hfit : fits (tyX7 2) v = true) (hdg : decode cc pc = .ok (.putfield 18, 3)) (kk : ∀ (H1 : Heap) (locs1 : List Loc), va_P D vwCl (ws.set q0 (a, .inr (8, fs.set 2 v))) H1 → va_D A (ws.set q0 (a, .inr (8, fs.set 2 v))) → va_S A H0 H1 locs1 → W p l e R s m args below meth c H1 locs1 cells slots Q (F0 m (pc + 3) ls rest)) : W p l e R s m args below meth c H locs cells slots Q (F0 m pc ls (v :: .ref a :: rest)) :=
  va_putF (C := RX7) (T := TX7) (N := 10) S.1 S.2.1 S.2.2.2.2 hin_RX7 tyX7 tyX7_ok nmX7 S.2.2.2.1 hK.1 hP hD hS q0 he rfl 2 (by decide) (S.2.2.2.2 _ (wT_t1 141 rfl rfl)) (fun _ h9 => h9) rfl hin rfl (tyX7_ok 2 (by decide)) hn hfit hl hdg kk
set_option maxRecDepth 100000 in
theorem gf_RX7_18 {p : Program} {l : Launch} {e : Env} {R : Room} {s : State} {m : MethodId} {args : Array Value} {below : List Frame} {meth : Method} {c : Code} {H : Heap} {locs : List Loc} {cells slots : Nat} {Q : State → Prop} {cc : ByteArray} {nL pc : Nat} {D : va_G} {cI cB cZ : ClassId} {ws : va_W} {rest : List Value} {ls : Array Slot} {a : Nat} {fs : List Value} {v : Value} (S : SF p m c cc nL s args RX7) (hK : KK D cI cB cZ s) (hP : va_P D vwCl ws H) (q0 : Nat) (he : ws[q0]? = some (a, .inr (8, fs))) (hv : fs[2]? = some v) (hdg : decode cc pc = .ok (.getfield 18, 3)) (kk : W p l e R s m args below meth c H locs cells slots Q (F0 m (pc + 3) ls (v :: rest))) : W p l e R s m args below meth c H locs cells slots Q (F0 m pc ls (.ref a :: rest)) :=
  va_get (C := RX7) (T := TX7) (N := 10) S.1 S.2.1 S.2.2.2.2 hin_RX7 S.2.2.2.1 hK.1 hP q0 he rfl 2 (by decide) (S.2.2.2.2 _ (wT_t1 141 rfl rfl)) (fun _ h9 => h9) hv hdg kk
set_option maxRecDepth 100000 in
theorem kS_RX7_21 : CalS RX7 21 yJ7_fill_53178 cJ7_fill_53178 4 none 2 := ⟨⟨wT_t1 134 rfl rfl, wT_t1 135 rfl rfl, wT_t1 8 rfl rfl, wT_t1 136 rfl rfl⟩, ⟨by decide, by decide, by decide +kernel⟩⟩
set_option maxRecDepth 100000 in
theorem pf_RX7_27 {p : Program} {l : Launch} {e : Env} {R : Room} {s : State} {m : MethodId} {args : Array Value} {below : List Frame} {meth : Method} {c : Code} {H : Heap} {locs : List Loc} {cells slots : Nat} {Q : State → Prop} {cc : ByteArray} {nL pc : Nat} {D : va_G} {cI cB cZ : ClassId} {ws : va_W} {rest : List Value} {ls : Array Slot} {a : Nat} {fs : List Value} {v : Value} {A : Nat → Prop} {H0 : Heap} (S : SF p m c cc nL s args RX7) (hin : meth.name = "<init>") (hK : KK D cI cB cZ s) (hP : va_P D vwCl ws H) (hD : va_D A ws) (hS : va_S A H0 H locs) (q0 : Nat) (he : ws[q0]? = some (a, .inr (8, fs))) (hl : 3 < fs.length) (hn : narrow (tyX7 3) v = v) (hfit : fits (tyX7 3) v = true) (hdg : decode cc pc = .ok (.putfield 27, 3)) (kk : ∀ (H1 : Heap) (locs1 : List Loc), va_P D vwCl (ws.set q0 (a, .inr (8, fs.set 3 v))) H1 → va_D A (ws.set q0 (a, .inr (8, fs.set 3 v))) → va_S A H0 H1 locs1 → W p l e R s m args below meth c H1 locs1 cells slots Q (F0 m (pc + 3) ls rest)) : W p l e R s m args below meth c H locs cells slots Q (F0 m pc ls (v :: .ref a :: rest)) :=
  va_putF (C := RX7) (T := TX7) (N := 10) S.1 S.2.1 S.2.2.2.2 hin_RX7 tyX7 tyX7_ok nmX7 S.2.2.2.1 hK.1 hP hD hS q0 he rfl 3 (by decide) (S.2.2.2.2 _ (wT_t1 143 rfl rfl)) (fun _ h9 => h9) rfl hin rfl (tyX7_ok 3 (by decide)) hn hfit hl hdg kk
set_option maxRecDepth 100000 in
theorem pf_RX7_30 {p : Program} {l : Launch} {e : Env} {R : Room} {s : State} {m : MethodId} {args : Array Value} {below : List Frame} {meth : Method} {c : Code} {H : Heap} {locs : List Loc} {cells slots : Nat} {Q : State → Prop} {cc : ByteArray} {nL pc : Nat} {D : va_G} {cI cB cZ : ClassId} {ws : va_W} {rest : List Value} {ls : Array Slot} {a : Nat} {fs : List Value} {v : Value} {A : Nat → Prop} {H0 : Heap} (S : SF p m c cc nL s args RX7) (hin : meth.name = "<init>") (hK : KK D cI cB cZ s) (hP : va_P D vwCl ws H) (hD : va_D A ws) (hS : va_S A H0 H locs) (q0 : Nat) (he : ws[q0]? = some (a, .inr (8, fs))) (hl : 4 < fs.length) (hn : narrow (tyX7 4) v = v) (hfit : fits (tyX7 4) v = true) (hdg : decode cc pc = .ok (.putfield 30, 3)) (kk : ∀ (H1 : Heap) (locs1 : List Loc), va_P D vwCl (ws.set q0 (a, .inr (8, fs.set 4 v))) H1 → va_D A (ws.set q0 (a, .inr (8, fs.set 4 v))) → va_S A H0 H1 locs1 → W p l e R s m args below meth c H1 locs1 cells slots Q (F0 m (pc + 3) ls rest)) : W p l e R s m args below meth c H locs cells slots Q (F0 m pc ls (v :: .ref a :: rest)) :=
  va_putF (C := RX7) (T := TX7) (N := 10) S.1 S.2.1 S.2.2.2.2 hin_RX7 tyX7 tyX7_ok nmX7 S.2.2.2.1 hK.1 hP hD hS q0 he rfl 4 (by decide) (S.2.2.2.2 _ (wT_t1 145 rfl rfl)) (fun _ h9 => h9) rfl hin rfl (tyX7_ok 4 (by decide)) hn hfit hl hdg kk
set_option maxRecDepth 100000 in
theorem pf_RX7_33 {p : Program} {l : Launch} {e : Env} {R : Room} {s : State} {m : MethodId} {args : Array Value} {below : List Frame} {meth : Method} {c : Code} {H : Heap} {locs : List Loc} {cells slots : Nat} {Q : State → Prop} {cc : ByteArray} {nL pc : Nat} {D : va_G} {cI cB cZ : ClassId} {ws : va_W} {rest : List Value} {ls : Array Slot} {a : Nat} {fs : List Value} {v : Value} {A : Nat → Prop} {H0 : Heap} (S : SF p m c cc nL s args RX7) (hin : meth.name = "<init>") (hK : KK D cI cB cZ s) (hP : va_P D vwCl ws H) (hD : va_D A ws) (hS : va_S A H0 H locs) (q0 : Nat) (he : ws[q0]? = some (a, .inr (8, fs))) (hl : 5 < fs.length) (hn : narrow (tyX7 5) v = v) (hfit : fits (tyX7 5) v = true) (hdg : decode cc pc = .ok (.putfield 33, 3)) (kk : ∀ (H1 : Heap) (locs1 : List Loc), va_P D vwCl (ws.set q0 (a, .inr (8, fs.set 5 v))) H1 → va_D A (ws.set q0 (a, .inr (8, fs.set 5 v))) → va_S A H0 H1 locs1 → W p l e R s m args below meth c H1 locs1 cells slots Q (F0 m (pc + 3) ls rest)) : W p l e R s m args below meth c H locs cells slots Q (F0 m pc ls (v :: .ref a :: rest)) :=
  va_putF (C := RX7) (T := TX7) (N := 10) S.1 S.2.1 S.2.2.2.2 hin_RX7 tyX7 tyX7_ok nmX7 S.2.2.2.1 hK.1 hP hD hS q0 he rfl 5 (by decide) (S.2.2.2.2 _ (wT_t1 147 rfl rfl)) (fun _ h9 => h9) rfl hin rfl (tyX7_ok 5 (by decide)) hn hfit hl hdg kk
set_option maxRecDepth 100000 in
theorem pf_RX7_36 {p : Program} {l : Launch} {e : Env} {R : Room} {s : State} {m : MethodId} {args : Array Value} {below : List Frame} {meth : Method} {c : Code} {H : Heap} {locs : List Loc} {cells slots : Nat} {Q : State → Prop} {cc : ByteArray} {nL pc : Nat} {D : va_G} {cI cB cZ : ClassId} {ws : va_W} {rest : List Value} {ls : Array Slot} {a : Nat} {fs : List Value} {v : Value} {A : Nat → Prop} {H0 : Heap} (S : SF p m c cc nL s args RX7) (hin : meth.name = "<init>") (hK : KK D cI cB cZ s) (hP : va_P D vwCl ws H) (hD : va_D A ws) (hS : va_S A H0 H locs) (q0 : Nat) (he : ws[q0]? = some (a, .inr (8, fs))) (hl : 6 < fs.length) (hn : narrow (tyX7 6) v = v) (hfit : fits (tyX7 6) v = true) (hdg : decode cc pc = .ok (.putfield 36, 3)) (kk : ∀ (H1 : Heap) (locs1 : List Loc), va_P D vwCl (ws.set q0 (a, .inr (8, fs.set 6 v))) H1 → va_D A (ws.set q0 (a, .inr (8, fs.set 6 v))) → va_S A H0 H1 locs1 → W p l e R s m args below meth c H1 locs1 cells slots Q (F0 m (pc + 3) ls rest)) : W p l e R s m args below meth c H locs cells slots Q (F0 m pc ls (v :: .ref a :: rest)) :=
  va_putF (C := RX7) (T := TX7) (N := 10) S.1 S.2.1 S.2.2.2.2 hin_RX7 tyX7 tyX7_ok nmX7 S.2.2.2.1 hK.1 hP hD hS q0 he rfl 6 (by decide) (S.2.2.2.2 _ (wT_t1 149 rfl rfl)) (fun _ h9 => h9) rfl hin rfl (tyX7_ok 6 (by decide)) hn hfit hl hdg kk
set_option maxRecDepth 100000 in
theorem pf_RX7_39 {p : Program} {l : Launch} {e : Env} {R : Room} {s : State} {m : MethodId} {args : Array Value} {below : List Frame} {meth : Method} {c : Code} {H : Heap} {locs : List Loc} {cells slots : Nat} {Q : State → Prop} {cc : ByteArray} {nL pc : Nat} {D : va_G} {cI cB cZ : ClassId} {ws : va_W} {rest : List Value} {ls : Array Slot} {a : Nat} {fs : List Value} {v : Value} {A : Nat → Prop} {H0 : Heap} (S : SF p m c cc nL s args RX7) (hin : meth.name = "<init>") (hK : KK D cI cB cZ s) (hP : va_P D vwCl ws H) (hD : va_D A ws) (hS : va_S A H0 H locs) (q0 : Nat) (he : ws[q0]? = some (a, .inr (8, fs))) (hl : 7 < fs.length) (hn : narrow (tyX7 7) v = v) (hfit : fits (tyX7 7) v = true) (hdg : decode cc pc = .ok (.putfield 39, 3)) (kk : ∀ (H1 : Heap) (locs1 : List Loc), va_P D vwCl (ws.set q0 (a, .inr (8, fs.set 7 v))) H1 → va_D A (ws.set q0 (a, .inr (8, fs.set 7 v))) → va_S A H0 H1 locs1 → W p l e R s m args below meth c H1 locs1 cells slots Q (F0 m (pc + 3) ls rest)) : W p l e R s m args below meth c H locs cells slots Q (F0 m pc ls (v :: .ref a :: rest)) :=
  va_putF (C := RX7) (T := TX7) (N := 10) S.1 S.2.1 S.2.2.2.2 hin_RX7 tyX7 tyX7_ok nmX7 S.2.2.2.1 hK.1 hP hD hS q0 he rfl 7 (by decide) (S.2.2.2.2 _ (wT_t1 151 rfl rfl)) (fun _ h9 => h9) rfl hin rfl (tyX7_ok 7 (by decide)) hn hfit hl hdg kk
set_option maxRecDepth 100000 in
theorem pf_RX7_42 {p : Program} {l : Launch} {e : Env} {R : Room} {s : State} {m : MethodId} {args : Array Value} {below : List Frame} {meth : Method} {c : Code} {H : Heap} {locs : List Loc} {cells slots : Nat} {Q : State → Prop} {cc : ByteArray} {nL pc : Nat} {D : va_G} {cI cB cZ : ClassId} {ws : va_W} {rest : List Value} {ls : Array Slot} {a : Nat} {fs : List Value} {v : Value} {A : Nat → Prop} {H0 : Heap} (S : SF p m c cc nL s args RX7) (hin : meth.name = "<init>") (hK : KK D cI cB cZ s) (hP : va_P D vwCl ws H) (hD : va_D A ws) (hS : va_S A H0 H locs) (q0 : Nat) (he : ws[q0]? = some (a, .inr (8, fs))) (hl : 8 < fs.length) (hn : narrow (tyX7 8) v = v) (hfit : fits (tyX7 8) v = true) (hdg : decode cc pc = .ok (.putfield 42, 3)) (kk : ∀ (H1 : Heap) (locs1 : List Loc), va_P D vwCl (ws.set q0 (a, .inr (8, fs.set 8 v))) H1 → va_D A (ws.set q0 (a, .inr (8, fs.set 8 v))) → va_S A H0 H1 locs1 → W p l e R s m args below meth c H1 locs1 cells slots Q (F0 m (pc + 3) ls rest)) : W p l e R s m args below meth c H locs cells slots Q (F0 m pc ls (v :: .ref a :: rest)) :=
  va_putF (C := RX7) (T := TX7) (N := 10) S.1 S.2.1 S.2.2.2.2 hin_RX7 tyX7 tyX7_ok nmX7 S.2.2.2.1 hK.1 hP hD hS q0 he rfl 8 (by decide) (S.2.2.2.2 _ (wT_t1 153 rfl rfl)) (fun _ h9 => h9) rfl hin rfl (tyX7_ok 8 (by decide)) hn hfit hl hdg kk
set_option maxRecDepth 100000 in
theorem pf_RX7_45 {p : Program} {l : Launch} {e : Env} {R : Room} {s : State} {m : MethodId} {args : Array Value} {below : List Frame} {meth : Method} {c : Code} {H : Heap} {locs : List Loc} {cells slots : Nat} {Q : State → Prop} {cc : ByteArray} {nL pc : Nat} {D : va_G} {cI cB cZ : ClassId} {ws : va_W} {rest : List Value} {ls : Array Slot} {a : Nat} {fs : List Value} {v : Value} {A : Nat → Prop} {H0 : Heap} (S : SF p m c cc nL s args RX7) (hin : meth.name = "<init>") (hK : KK D cI cB cZ s) (hP : va_P D vwCl ws H) (hD : va_D A ws) (hS : va_S A H0 H locs) (q0 : Nat) (he : ws[q0]? = some (a, .inr (8, fs))) (hl : 9 < fs.length) (hn : narrow (tyX7 9) v = v) (hfit : fits (tyX7 9) v = true) (hdg : decode cc pc = .ok (.putfield 45, 3)) (kk : ∀ (H1 : Heap) (locs1 : List Loc), va_P D vwCl (ws.set q0 (a, .inr (8, fs.set 9 v))) H1 → va_D A (ws.set q0 (a, .inr (8, fs.set 9 v))) → va_S A H0 H1 locs1 → W p l e R s m args below meth c H1 locs1 cells slots Q (F0 m (pc + 3) ls rest)) : W p l e R s m args below meth c H locs cells slots Q (F0 m pc ls (v :: .ref a :: rest)) :=
  va_putF (C := RX7) (T := TX7) (N := 10) S.1 S.2.1 S.2.2.2.2 hin_RX7 tyX7 tyX7_ok nmX7 S.2.2.2.1 hK.1 hP hD hS q0 he rfl 9 (by decide) (S.2.2.2.2 _ (wT_t1 155 rfl rfl)) (fun _ h9 => h9) rfl hin rfl (tyX7_ok 9 (by decide)) hn hfit hl hdg kk
set_option maxRecDepth 100000 in
theorem pf_RX10_9 {p : Program} {l : Launch} {e : Env} {R : Room} {s : State} {m : MethodId} {args : Array Value} {below : List Frame} {meth : Method} {c : Code} {H : Heap} {locs : List Loc} {cells slots : Nat} {Q : State → Prop} {cc : ByteArray} {nL pc : Nat} {D : va_G} {cI cB cZ : ClassId} {ws : va_W} {rest : List Value} {ls : Array Slot} {a : Nat} {fs : List Value} {v : Value} {A : Nat → Prop} {H0 : Heap} (S : SF p m c cc nL s args RX10) (hin : meth.name = "<init>") (hK : KK D cI cB cZ s) (hP : va_P D vwCl ws H) (hD : va_D A ws) (hS : va_S A H0 H locs) (q0 : Nat) (he : ws[q0]? = some (a, .inr (11, fs))) (hl : 0 < fs.length) (hn : narrow (tyX10 0) v = v) (hfit : fits (tyX10 0) v = true) (hdg : decode cc pc = .ok (.putfield 9, 3)) (kk : ∀ (H1 : Heap) (locs1 : List Loc), va_P D vwCl (ws.set q0 (a, .inr (11, fs.set 0 v))) H1 → va_D A (ws.set q0 (a, .inr (11, fs.set 0 v))) → va_S A H0 H1 locs1 → W p l e R s m args below meth c H1 locs1 cells slots Q (F0 m (pc + 3) ls rest)) : W p l e R s m args below meth c H locs cells slots Q (F0 m pc ls (v :: .ref a :: rest)) :=
  va_putF (C := RX10) (T := TX10) (N := 7) S.1 S.2.1 S.2.2.2.2 hin_RX10 tyX10 tyX10_ok nmX10 S.2.2.2.1 hK.1 hP hD hS q0 he rfl 0 (by decide) (S.2.2.2.2 _ (wT_t1 185 rfl rfl)) (fun _ h9 => h9) rfl hin rfl (tyX10_ok 0 (by decide)) hn hfit hl hdg kk
set_option maxRecDepth 100000 in
theorem pf_RX10_15 {p : Program} {l : Launch} {e : Env} {R : Room} {s : State} {m : MethodId} {args : Array Value} {below : List Frame} {meth : Method} {c : Code} {H : Heap} {locs : List Loc} {cells slots : Nat} {Q : State → Prop} {cc : ByteArray} {nL pc : Nat} {D : va_G} {cI cB cZ : ClassId} {ws : va_W} {rest : List Value} {ls : Array Slot} {a : Nat} {fs : List Value} {v : Value} {A : Nat → Prop} {H0 : Heap} (S : SF p m c cc nL s args RX10) (hin : meth.name = "<init>") (hK : KK D cI cB cZ s) (hP : va_P D vwCl ws H) (hD : va_D A ws) (hS : va_S A H0 H locs) (q0 : Nat) (he : ws[q0]? = some (a, .inr (11, fs))) (hl : 1 < fs.length) (hn : narrow (tyX10 1) v = v) (hfit : fits (tyX10 1) v = true) (hdg : decode cc pc = .ok (.putfield 15, 3)) (kk : ∀ (H1 : Heap) (locs1 : List Loc), va_P D vwCl (ws.set q0 (a, .inr (11, fs.set 1 v))) H1 → va_D A (ws.set q0 (a, .inr (11, fs.set 1 v))) → va_S A H0 H1 locs1 → W p l e R s m args below meth c H1 locs1 cells slots Q (F0 m (pc + 3) ls rest)) : W p l e R s m args below meth c H locs cells slots Q (F0 m pc ls (v :: .ref a :: rest)) :=
  va_putF (C := RX10) (T := TX10) (N := 7) S.1 S.2.1 S.2.2.2.2 hin_RX10 tyX10 tyX10_ok nmX10 S.2.2.2.1 hK.1 hP hD hS q0 he rfl 1 (by decide) (S.2.2.2.2 _ (wT_t1 187 rfl rfl)) (fun _ h9 => h9) rfl hin rfl (tyX10_ok 1 (by decide)) hn hfit hl hdg kk
set_option maxRecDepth 100000 in
theorem pf_RX10_18 {p : Program} {l : Launch} {e : Env} {R : Room} {s : State} {m : MethodId} {args : Array Value} {below : List Frame} {meth : Method} {c : Code} {H : Heap} {locs : List Loc} {cells slots : Nat} {Q : State → Prop} {cc : ByteArray} {nL pc : Nat} {D : va_G} {cI cB cZ : ClassId} {ws : va_W} {rest : List Value} {ls : Array Slot} {a : Nat} {fs : List Value} {v : Value} {A : Nat → Prop} {H0 : Heap} (S : SF p m c cc nL s args RX10) (hin : meth.name = "<init>") (hK : KK D cI cB cZ s) (hP : va_P D vwCl ws H) (hD : va_D A ws) (hS : va_S A H0 H locs) (q0 : Nat) (he : ws[q0]? = some (a, .inr (11, fs))) (hl : 2 < fs.length) (hn : narrow (tyX10 2) v = v) (hfit : fits (tyX10 2) v = true) (hdg : decode cc pc = .ok (.putfield 18, 3)) (kk : ∀ (H1 : Heap) (locs1 : List Loc), va_P D vwCl (ws.set q0 (a, .inr (11, fs.set 2 v))) H1 → va_D A (ws.set q0 (a, .inr (11, fs.set 2 v))) → va_S A H0 H1 locs1 → W p l e R s m args below meth c H1 locs1 cells slots Q (F0 m (pc + 3) ls rest)) : W p l e R s m args below meth c H locs cells slots Q (F0 m pc ls (v :: .ref a :: rest)) :=
  va_putF (C := RX10) (T := TX10) (N := 7) S.1 S.2.1 S.2.2.2.2 hin_RX10 tyX10 tyX10_ok nmX10 S.2.2.2.1 hK.1 hP hD hS q0 he rfl 2 (by decide) (S.2.2.2.2 _ (wT_t1 189 rfl rfl)) (fun _ h9 => h9) rfl hin rfl (tyX10_ok 2 (by decide)) hn hfit hl hdg kk
set_option maxRecDepth 100000 in
theorem pf_RX10_21 {p : Program} {l : Launch} {e : Env} {R : Room} {s : State} {m : MethodId} {args : Array Value} {below : List Frame} {meth : Method} {c : Code} {H : Heap} {locs : List Loc} {cells slots : Nat} {Q : State → Prop} {cc : ByteArray} {nL pc : Nat} {D : va_G} {cI cB cZ : ClassId} {ws : va_W} {rest : List Value} {ls : Array Slot} {a : Nat} {fs : List Value} {v : Value} {A : Nat → Prop} {H0 : Heap} (S : SF p m c cc nL s args RX10) (hin : meth.name = "<init>") (hK : KK D cI cB cZ s) (hP : va_P D vwCl ws H) (hD : va_D A ws) (hS : va_S A H0 H locs) (q0 : Nat) (he : ws[q0]? = some (a, .inr (11, fs))) (hl : 3 < fs.length) (hn : narrow (tyX10 3) v = v) (hfit : fits (tyX10 3) v = true) (hdg : decode cc pc = .ok (.putfield 21, 3)) (kk : ∀ (H1 : Heap) (locs1 : List Loc), va_P D vwCl (ws.set q0 (a, .inr (11, fs.set 3 v))) H1 → va_D A (ws.set q0 (a, .inr (11, fs.set 3 v))) → va_S A H0 H1 locs1 → W p l e R s m args below meth c H1 locs1 cells slots Q (F0 m (pc + 3) ls rest)) : W p l e R s m args below meth c H locs cells slots Q (F0 m pc ls (v :: .ref a :: rest)) :=
  va_putF (C := RX10) (T := TX10) (N := 7) S.1 S.2.1 S.2.2.2.2 hin_RX10 tyX10 tyX10_ok nmX10 S.2.2.2.1 hK.1 hP hD hS q0 he rfl 3 (by decide) (S.2.2.2.2 _ (wT_t1 190 rfl rfl)) (fun _ h9 => h9) rfl hin rfl (tyX10_ok 3 (by decide)) hn hfit hl hdg kk
set_option maxRecDepth 100000 in
theorem pf_RX10_24 {p : Program} {l : Launch} {e : Env} {R : Room} {s : State} {m : MethodId} {args : Array Value} {below : List Frame} {meth : Method} {c : Code} {H : Heap} {locs : List Loc} {cells slots : Nat} {Q : State → Prop} {cc : ByteArray} {nL pc : Nat} {D : va_G} {cI cB cZ : ClassId} {ws : va_W} {rest : List Value} {ls : Array Slot} {a : Nat} {fs : List Value} {v : Value} {A : Nat → Prop} {H0 : Heap} (S : SF p m c cc nL s args RX10) (hin : meth.name = "<init>") (hK : KK D cI cB cZ s) (hP : va_P D vwCl ws H) (hD : va_D A ws) (hS : va_S A H0 H locs) (q0 : Nat) (he : ws[q0]? = some (a, .inr (11, fs))) (hl : 4 < fs.length) (hn : narrow (tyX10 4) v = v) (hfit : fits (tyX10 4) v = true) (hdg : decode cc pc = .ok (.putfield 24, 3)) (kk : ∀ (H1 : Heap) (locs1 : List Loc), va_P D vwCl (ws.set q0 (a, .inr (11, fs.set 4 v))) H1 → va_D A (ws.set q0 (a, .inr (11, fs.set 4 v))) → va_S A H0 H1 locs1 → W p l e R s m args below meth c H1 locs1 cells slots Q (F0 m (pc + 3) ls rest)) : W p l e R s m args below meth c H locs cells slots Q (F0 m pc ls (v :: .ref a :: rest)) :=
  va_putF (C := RX10) (T := TX10) (N := 7) S.1 S.2.1 S.2.2.2.2 hin_RX10 tyX10 tyX10_ok nmX10 S.2.2.2.1 hK.1 hP hD hS q0 he rfl 4 (by decide) (S.2.2.2.2 _ (wT_t1 191 rfl rfl)) (fun _ h9 => h9) rfl hin rfl (tyX10_ok 4 (by decide)) hn hfit hl hdg kk
set_option maxRecDepth 100000 in
theorem pf_RX10_27 {p : Program} {l : Launch} {e : Env} {R : Room} {s : State} {m : MethodId} {args : Array Value} {below : List Frame} {meth : Method} {c : Code} {H : Heap} {locs : List Loc} {cells slots : Nat} {Q : State → Prop} {cc : ByteArray} {nL pc : Nat} {D : va_G} {cI cB cZ : ClassId} {ws : va_W} {rest : List Value} {ls : Array Slot} {a : Nat} {fs : List Value} {v : Value} {A : Nat → Prop} {H0 : Heap} (S : SF p m c cc nL s args RX10) (hin : meth.name = "<init>") (hK : KK D cI cB cZ s) (hP : va_P D vwCl ws H) (hD : va_D A ws) (hS : va_S A H0 H locs) (q0 : Nat) (he : ws[q0]? = some (a, .inr (11, fs))) (hl : 5 < fs.length) (hn : narrow (tyX10 5) v = v) (hfit : fits (tyX10 5) v = true) (hdg : decode cc pc = .ok (.putfield 27, 3)) (kk : ∀ (H1 : Heap) (locs1 : List Loc), va_P D vwCl (ws.set q0 (a, .inr (11, fs.set 5 v))) H1 → va_D A (ws.set q0 (a, .inr (11, fs.set 5 v))) → va_S A H0 H1 locs1 → W p l e R s m args below meth c H1 locs1 cells slots Q (F0 m (pc + 3) ls rest)) : W p l e R s m args below meth c H locs cells slots Q (F0 m pc ls (v :: .ref a :: rest)) :=
  va_putF (C := RX10) (T := TX10) (N := 7) S.1 S.2.1 S.2.2.2.2 hin_RX10 tyX10 tyX10_ok nmX10 S.2.2.2.1 hK.1 hP hD hS q0 he rfl 5 (by decide) (S.2.2.2.2 _ (wT_t1 192 rfl rfl)) (fun _ h9 => h9) rfl hin rfl (tyX10_ok 5 (by decide)) hn hfit hl hdg kk
set_option maxRecDepth 100000 in
theorem kI_RJxc12de_1 : CalI RJxc12de 1 yJxa1e45_init_da8c8 cJxa1e45_init_da8c8 1 0 := ⟨⟨wT_t1 218 rfl rfl, wT_t1 219 rfl rfl, wT_t1 10 rfl rfl, wT_t1 220 rfl rfl⟩, rfl, ⟨by decide, by decide, by decide +kernel⟩⟩
set_option maxRecDepth 100000 in
theorem pf_RJxc12de_7 {p : Program} {l : Launch} {e : Env} {R : Room} {s : State} {m : MethodId} {args : Array Value} {below : List Frame} {meth : Method} {c : Code} {H : Heap} {locs : List Loc} {cells slots : Nat} {Q : State → Prop} {cc : ByteArray} {nL pc : Nat} {D : va_G} {cI cB cZ : ClassId} {ws : va_W} {rest : List Value} {ls : Array Slot} {a : Nat} {fs : List Value} {v : Value} {A : Nat → Prop} {H0 : Heap} (S : SF p m c cc nL s args RJxc12de) (hK : KK D cI cB cZ s) (hP : va_P D vwCl ws H) (hD : va_D A ws) (hS : va_S A H0 H locs) (q0 : Nat) (he : ws[q0]? = some (a, .inr (0, fs))) (hl : 0 < fs.length) (hn : narrow (tyJx4a65c 0) v = v) (hfit : fits (tyJx4a65c 0) v = true) (hdg : decode cc pc = .ok (.putfield 7, 3)) (kk : ∀ (H1 : Heap) (locs1 : List Loc), va_P D vwCl (ws.set q0 (a, .inr (0, fs.set 0 v))) H1 → va_D A (ws.set q0 (a, .inr (0, fs.set 0 v))) → va_S A H0 H1 locs1 → W p l e R s m args below meth c H1 locs1 cells slots Q (F0 m (pc + 3) ls rest)) : W p l e R s m args below meth c H locs cells slots Q (F0 m pc ls (v :: .ref a :: rest)) :=
  va_put (C := RJx4a65c) (T := TJx4a65c) (N := 3) S.1 S.2.1 S.2.2.2.2 hin_RJx4a65c tyJx4a65c tyJx4a65c_ok nmJx4a65c S.2.2.2.1 hK.1 hP hD hS q0 he rfl 0 (by decide) (S.2.2.2.2 _ (wT_t1 226 rfl rfl)) (fun _ h9 => h9) rfl (tyJx4a65c_ok 0 (by decide)) hn hfit hl hdg kk
set_option maxRecDepth 100000 in
theorem kI_RJx4a65c_1 : CalI RJx4a65c 1 yJxc12de_init_da8c8 cJxc12de_init_da8c8 1 0 := ⟨⟨wT_t1 215 rfl rfl, wT_t1 216 rfl rfl, wT_t1 11 rfl rfl, wT_t1 217 rfl rfl⟩, rfl, ⟨by decide, by decide, by decide +kernel⟩⟩
set_option maxRecDepth 100000 in
theorem kI_RX11_9 : CalI RX11 9 yX9_init cX9_init 2 1 := ⟨⟨wT_t1 37 rfl rfl, wT_t1 38 rfl rfl, wT_t1 2 rfl rfl, wT_t1 39 rfl rfl⟩, rfl, ⟨by decide, by decide, by decide +kernel⟩⟩
set_option maxRecDepth 100000 in
theorem pf_RX11_21 {p : Program} {l : Launch} {e : Env} {R : Room} {s : State} {m : MethodId} {args : Array Value} {below : List Frame} {meth : Method} {c : Code} {H : Heap} {locs : List Loc} {cells slots : Nat} {Q : State → Prop} {cc : ByteArray} {nL pc : Nat} {D : va_G} {cI cB cZ : ClassId} {ws : va_W} {rest : List Value} {ls : Array Slot} {a : Nat} {fs : List Value} {v : Value} {A : Nat → Prop} {H0 : Heap} (S : SF p m c cc nL s args RX11) (hin : meth.name = "<init>") (hK : KK D cI cB cZ s) (hP : va_P D vwCl ws H) (hD : va_D A ws) (hS : va_S A H0 H locs) (q0 : Nat) (he : ws[q0]? = some (a, .inr (12, fs))) (hl : 5 < fs.length) (hn : narrow (tyX11 5) v = v) (hfit : fits (tyX11 5) v = true) (hdg : decode cc pc = .ok (.putfield 21, 3)) (kk : ∀ (H1 : Heap) (locs1 : List Loc), va_P D vwCl (ws.set q0 (a, .inr (12, fs.set 5 v))) H1 → va_D A (ws.set q0 (a, .inr (12, fs.set 5 v))) → va_S A H0 H1 locs1 → W p l e R s m args below meth c H1 locs1 cells slots Q (F0 m (pc + 3) ls rest)) : W p l e R s m args below meth c H locs cells slots Q (F0 m pc ls (v :: .ref a :: rest)) :=
  va_putF (C := RX11) (T := TX11) (N := 16) S.1 S.2.1 S.2.2.2.2 hin_RX11 tyX11 tyX11_ok nmX11 S.2.2.2.1 hK.1 hP hD hS q0 he rfl 5 (by decide) (S.2.2.2.2 _ (wT_t2 1 rfl rfl)) (fun _ h9 => h9) rfl hin rfl (tyX11_ok 5 (by decide)) hn hfit hl hdg kk
set_option maxRecDepth 100000 in
theorem kI_RX11_27 : CalI RX11 27 yX5_init cX5_init 1 0 := ⟨⟨wT_t1 91 rfl rfl, wT_t1 92 rfl rfl, wT_t1 5 rfl rfl, wT_t1 93 rfl rfl⟩, rfl, ⟨by decide, by decide, by decide +kernel⟩⟩
set_option maxRecDepth 100000 in
theorem pf_RX11_28 {p : Program} {l : Launch} {e : Env} {R : Room} {s : State} {m : MethodId} {args : Array Value} {below : List Frame} {meth : Method} {c : Code} {H : Heap} {locs : List Loc} {cells slots : Nat} {Q : State → Prop} {cc : ByteArray} {nL pc : Nat} {D : va_G} {cI cB cZ : ClassId} {ws : va_W} {rest : List Value} {ls : Array Slot} {a : Nat} {fs : List Value} {v : Value} {A : Nat → Prop} {H0 : Heap} (S : SF p m c cc nL s args RX11) (hin : meth.name = "<init>") (hK : KK D cI cB cZ s) (hP : va_P D vwCl ws H) (hD : va_D A ws) (hS : va_S A H0 H locs) (q0 : Nat) (he : ws[q0]? = some (a, .inr (12, fs))) (hl : 6 < fs.length) (hn : narrow (tyX11 6) v = v) (hfit : fits (tyX11 6) v = true) (hdg : decode cc pc = .ok (.putfield 28, 3)) (kk : ∀ (H1 : Heap) (locs1 : List Loc), va_P D vwCl (ws.set q0 (a, .inr (12, fs.set 6 v))) H1 → va_D A (ws.set q0 (a, .inr (12, fs.set 6 v))) → va_S A H0 H1 locs1 → W p l e R s m args below meth c H1 locs1 cells slots Q (F0 m (pc + 3) ls rest)) : W p l e R s m args below meth c H locs cells slots Q (F0 m pc ls (v :: .ref a :: rest)) :=
  va_putF (C := RX11) (T := TX11) (N := 16) S.1 S.2.1 S.2.2.2.2 hin_RX11 tyX11 tyX11_ok nmX11 S.2.2.2.1 hK.1 hP hD hS q0 he rfl 6 (by decide) (S.2.2.2.2 _ (wT_t2 2 rfl rfl)) (fun _ h9 => h9) rfl hin rfl (tyX11_ok 6 (by decide)) hn hfit hl hdg kk
set_option maxRecDepth 100000 in
theorem kV_RX11_34 : CalV RX11 34 yJ0_length_8abf5 cJ0_length_8abf5 1 (some .int) 0 := ⟨⟨wT_t1 118 rfl rfl, wT_t1 119 rfl rfl, wT_t1 120 rfl rfl, wT_t1 6 rfl rfl, wT_t1 121 rfl rfl⟩, ⟨by decide, by decide, by decide +kernel⟩⟩
set_option maxRecDepth 100000 in
theorem pf_RX11_40 {p : Program} {l : Launch} {e : Env} {R : Room} {s : State} {m : MethodId} {args : Array Value} {below : List Frame} {meth : Method} {c : Code} {H : Heap} {locs : List Loc} {cells slots : Nat} {Q : State → Prop} {cc : ByteArray} {nL pc : Nat} {D : va_G} {cI cB cZ : ClassId} {ws : va_W} {rest : List Value} {ls : Array Slot} {a : Nat} {fs : List Value} {v : Value} {A : Nat → Prop} {H0 : Heap} (S : SF p m c cc nL s args RX11) (hin : meth.name = "<init>") (hK : KK D cI cB cZ s) (hP : va_P D vwCl ws H) (hD : va_D A ws) (hS : va_S A H0 H locs) (q0 : Nat) (he : ws[q0]? = some (a, .inr (12, fs))) (hl : 7 < fs.length) (hn : narrow (tyX11 7) v = v) (hfit : fits (tyX11 7) v = true) (hdg : decode cc pc = .ok (.putfield 40, 3)) (kk : ∀ (H1 : Heap) (locs1 : List Loc), va_P D vwCl (ws.set q0 (a, .inr (12, fs.set 7 v))) H1 → va_D A (ws.set q0 (a, .inr (12, fs.set 7 v))) → va_S A H0 H1 locs1 → W p l e R s m args below meth c H1 locs1 cells slots Q (F0 m (pc + 3) ls rest)) : W p l e R s m args below meth c H locs cells slots Q (F0 m pc ls (v :: .ref a :: rest)) :=
  va_putF (C := RX11) (T := TX11) (N := 16) S.1 S.2.1 S.2.2.2.2 hin_RX11 tyX11 tyX11_ok nmX11 S.2.2.2.1 hK.1 hP hD hS q0 he rfl 7 (by decide) (S.2.2.2.2 _ (wT_t2 3 rfl rfl)) (fun _ h9 => h9) rfl hin rfl (tyX11_ok 7 (by decide)) hn hfit hl hdg kk
set_option maxRecDepth 100000 in
theorem kI_RX11_46 : CalI RX11 46 yX7_init cX7_init 1 0 := ⟨⟨wT_t1 130 rfl rfl, wT_t1 131 rfl rfl, wT_t1 7 rfl rfl, wT_t1 132 rfl rfl⟩, rfl, ⟨by decide, by decide, by decide +kernel⟩⟩
set_option maxRecDepth 100000 in
theorem pf_RX11_47 {p : Program} {l : Launch} {e : Env} {R : Room} {s : State} {m : MethodId} {args : Array Value} {below : List Frame} {meth : Method} {c : Code} {H : Heap} {locs : List Loc} {cells slots : Nat} {Q : State → Prop} {cc : ByteArray} {nL pc : Nat} {D : va_G} {cI cB cZ : ClassId} {ws : va_W} {rest : List Value} {ls : Array Slot} {a : Nat} {fs : List Value} {v : Value} {A : Nat → Prop} {H0 : Heap} (S : SF p m c cc nL s args RX11) (hin : meth.name = "<init>") (hK : KK D cI cB cZ s) (hP : va_P D vwCl ws H) (hD : va_D A ws) (hS : va_S A H0 H locs) (q0 : Nat) (he : ws[q0]? = some (a, .inr (12, fs))) (hl : 8 < fs.length) (hn : narrow (tyX11 8) v = v) (hfit : fits (tyX11 8) v = true) (hdg : decode cc pc = .ok (.putfield 47, 3)) (kk : ∀ (H1 : Heap) (locs1 : List Loc), va_P D vwCl (ws.set q0 (a, .inr (12, fs.set 8 v))) H1 → va_D A (ws.set q0 (a, .inr (12, fs.set 8 v))) → va_S A H0 H1 locs1 → W p l e R s m args below meth c H1 locs1 cells slots Q (F0 m (pc + 3) ls rest)) : W p l e R s m args below meth c H locs cells slots Q (F0 m pc ls (v :: .ref a :: rest)) :=
  va_putF (C := RX11) (T := TX11) (N := 16) S.1 S.2.1 S.2.2.2.2 hin_RX11 tyX11 tyX11_ok nmX11 S.2.2.2.1 hK.1 hP hD hS q0 he rfl 8 (by decide) (S.2.2.2.2 _ (wT_t2 4 rfl rfl)) (fun _ h9 => h9) rfl hin rfl (tyX11_ok 8 (by decide)) hn hfit hl hdg kk
set_option maxRecDepth 100000 in
theorem pf_RX11_54 {p : Program} {l : Launch} {e : Env} {R : Room} {s : State} {m : MethodId} {args : Array Value} {below : List Frame} {meth : Method} {c : Code} {H : Heap} {locs : List Loc} {cells slots : Nat} {Q : State → Prop} {cc : ByteArray} {nL pc : Nat} {D : va_G} {cI cB cZ : ClassId} {ws : va_W} {rest : List Value} {ls : Array Slot} {a : Nat} {fs : List Value} {v : Value} {A : Nat → Prop} {H0 : Heap} (S : SF p m c cc nL s args RX11) (hin : meth.name = "<init>") (hK : KK D cI cB cZ s) (hP : va_P D vwCl ws H) (hD : va_D A ws) (hS : va_S A H0 H locs) (q0 : Nat) (he : ws[q0]? = some (a, .inr (12, fs))) (hl : 9 < fs.length) (hn : narrow (tyX11 9) v = v) (hfit : fits (tyX11 9) v = true) (hdg : decode cc pc = .ok (.putfield 54, 3)) (kk : ∀ (H1 : Heap) (locs1 : List Loc), va_P D vwCl (ws.set q0 (a, .inr (12, fs.set 9 v))) H1 → va_D A (ws.set q0 (a, .inr (12, fs.set 9 v))) → va_S A H0 H1 locs1 → W p l e R s m args below meth c H1 locs1 cells slots Q (F0 m (pc + 3) ls rest)) : W p l e R s m args below meth c H locs cells slots Q (F0 m pc ls (v :: .ref a :: rest)) :=
  va_putF (C := RX11) (T := TX11) (N := 16) S.1 S.2.1 S.2.2.2.2 hin_RX11 tyX11 tyX11_ok nmX11 S.2.2.2.1 hK.1 hP hD hS q0 he rfl 9 (by decide) (S.2.2.2.2 _ (wT_t2 5 rfl rfl)) (fun _ h9 => h9) rfl hin rfl (tyX11_ok 9 (by decide)) hn hfit hl hdg kk
set_option maxRecDepth 100000 in
theorem kI_RX11_60 : CalI RX11 60 yJx4a65c_init_da8c8 cJx4a65c_init_da8c8 1 0 := ⟨⟨wT_t1 212 rfl rfl, wT_t1 213 rfl rfl, wT_t1 12 rfl rfl, wT_t1 214 rfl rfl⟩, rfl, ⟨by decide, by decide, by decide +kernel⟩⟩
set_option maxRecDepth 100000 in
theorem pf_RX11_61 {p : Program} {l : Launch} {e : Env} {R : Room} {s : State} {m : MethodId} {args : Array Value} {below : List Frame} {meth : Method} {c : Code} {H : Heap} {locs : List Loc} {cells slots : Nat} {Q : State → Prop} {cc : ByteArray} {nL pc : Nat} {D : va_G} {cI cB cZ : ClassId} {ws : va_W} {rest : List Value} {ls : Array Slot} {a : Nat} {fs : List Value} {v : Value} {A : Nat → Prop} {H0 : Heap} (S : SF p m c cc nL s args RX11) (hin : meth.name = "<init>") (hK : KK D cI cB cZ s) (hP : va_P D vwCl ws H) (hD : va_D A ws) (hS : va_S A H0 H locs) (q0 : Nat) (he : ws[q0]? = some (a, .inr (12, fs))) (hl : 10 < fs.length) (hn : narrow (tyX11 10) v = v) (hfit : fits (tyX11 10) v = true) (hdg : decode cc pc = .ok (.putfield 61, 3)) (kk : ∀ (H1 : Heap) (locs1 : List Loc), va_P D vwCl (ws.set q0 (a, .inr (12, fs.set 10 v))) H1 → va_D A (ws.set q0 (a, .inr (12, fs.set 10 v))) → va_S A H0 H1 locs1 → W p l e R s m args below meth c H1 locs1 cells slots Q (F0 m (pc + 3) ls rest)) : W p l e R s m args below meth c H locs cells slots Q (F0 m pc ls (v :: .ref a :: rest)) :=
  va_putF (C := RX11) (T := TX11) (N := 16) S.1 S.2.1 S.2.2.2.2 hin_RX11 tyX11 tyX11_ok nmX11 S.2.2.2.1 hK.1 hP hD hS q0 he rfl 10 (by decide) (S.2.2.2.2 _ (wT_t2 6 rfl rfl)) (fun _ h9 => h9) rfl hin rfl (tyX11_ok 10 (by decide)) hn hfit hl hdg kk
set_option maxRecDepth 100000 in
theorem pf_RX11_65 {p : Program} {l : Launch} {e : Env} {R : Room} {s : State} {m : MethodId} {args : Array Value} {below : List Frame} {meth : Method} {c : Code} {H : Heap} {locs : List Loc} {cells slots : Nat} {Q : State → Prop} {cc : ByteArray} {nL pc : Nat} {D : va_G} {cI cB cZ : ClassId} {ws : va_W} {rest : List Value} {ls : Array Slot} {a : Nat} {fs : List Value} {v : Value} {A : Nat → Prop} {H0 : Heap} (S : SF p m c cc nL s args RX11) (hin : meth.name = "<init>") (hK : KK D cI cB cZ s) (hP : va_P D vwCl ws H) (hD : va_D A ws) (hS : va_S A H0 H locs) (q0 : Nat) (he : ws[q0]? = some (a, .inr (12, fs))) (hl : 11 < fs.length) (hn : narrow (tyX11 11) v = v) (hfit : fits (tyX11 11) v = true) (hdg : decode cc pc = .ok (.putfield 65, 3)) (kk : ∀ (H1 : Heap) (locs1 : List Loc), va_P D vwCl (ws.set q0 (a, .inr (12, fs.set 11 v))) H1 → va_D A (ws.set q0 (a, .inr (12, fs.set 11 v))) → va_S A H0 H1 locs1 → W p l e R s m args below meth c H1 locs1 cells slots Q (F0 m (pc + 3) ls rest)) : W p l e R s m args below meth c H locs cells slots Q (F0 m pc ls (v :: .ref a :: rest)) :=
  va_putF (C := RX11) (T := TX11) (N := 16) S.1 S.2.1 S.2.2.2.2 hin_RX11 tyX11 tyX11_ok nmX11 S.2.2.2.1 hK.1 hP hD hS q0 he rfl 11 (by decide) (S.2.2.2.2 _ (wT_t2 7 rfl rfl)) (fun _ h9 => h9) rfl hin rfl (tyX11_ok 11 (by decide)) hn hfit hl hdg kk
set_option maxRecDepth 100000 in
theorem pf_RX11_68 {p : Program} {l : Launch} {e : Env} {R : Room} {s : State} {m : MethodId} {args : Array Value} {below : List Frame} {meth : Method} {c : Code} {H : Heap} {locs : List Loc} {cells slots : Nat} {Q : State → Prop} {cc : ByteArray} {nL pc : Nat} {D : va_G} {cI cB cZ : ClassId} {ws : va_W} {rest : List Value} {ls : Array Slot} {a : Nat} {fs : List Value} {v : Value} {A : Nat → Prop} {H0 : Heap} (S : SF p m c cc nL s args RX11) (hin : meth.name = "<init>") (hK : KK D cI cB cZ s) (hP : va_P D vwCl ws H) (hD : va_D A ws) (hS : va_S A H0 H locs) (q0 : Nat) (he : ws[q0]? = some (a, .inr (12, fs))) (hl : 12 < fs.length) (hn : narrow (tyX11 12) v = v) (hfit : fits (tyX11 12) v = true) (hdg : decode cc pc = .ok (.putfield 68, 3)) (kk : ∀ (H1 : Heap) (locs1 : List Loc), va_P D vwCl (ws.set q0 (a, .inr (12, fs.set 12 v))) H1 → va_D A (ws.set q0 (a, .inr (12, fs.set 12 v))) → va_S A H0 H1 locs1 → W p l e R s m args below meth c H1 locs1 cells slots Q (F0 m (pc + 3) ls rest)) : W p l e R s m args below meth c H locs cells slots Q (F0 m pc ls (v :: .ref a :: rest)) :=
  va_putF (C := RX11) (T := TX11) (N := 16) S.1 S.2.1 S.2.2.2.2 hin_RX11 tyX11 tyX11_ok nmX11 S.2.2.2.1 hK.1 hP hD hS q0 he rfl 12 (by decide) (S.2.2.2.2 _ (wT_t2 8 rfl rfl)) (fun _ h9 => h9) rfl hin rfl (tyX11_ok 12 (by decide)) hn hfit hl hdg kk
set_option maxRecDepth 100000 in
theorem pf_RX11_71 {p : Program} {l : Launch} {e : Env} {R : Room} {s : State} {m : MethodId} {args : Array Value} {below : List Frame} {meth : Method} {c : Code} {H : Heap} {locs : List Loc} {cells slots : Nat} {Q : State → Prop} {cc : ByteArray} {nL pc : Nat} {D : va_G} {cI cB cZ : ClassId} {ws : va_W} {rest : List Value} {ls : Array Slot} {a : Nat} {fs : List Value} {v : Value} {A : Nat → Prop} {H0 : Heap} (S : SF p m c cc nL s args RX11) (hin : meth.name = "<init>") (hK : KK D cI cB cZ s) (hP : va_P D vwCl ws H) (hD : va_D A ws) (hS : va_S A H0 H locs) (q0 : Nat) (he : ws[q0]? = some (a, .inr (12, fs))) (hl : 13 < fs.length) (hn : narrow (tyX11 13) v = v) (hfit : fits (tyX11 13) v = true) (hdg : decode cc pc = .ok (.putfield 71, 3)) (kk : ∀ (H1 : Heap) (locs1 : List Loc), va_P D vwCl (ws.set q0 (a, .inr (12, fs.set 13 v))) H1 → va_D A (ws.set q0 (a, .inr (12, fs.set 13 v))) → va_S A H0 H1 locs1 → W p l e R s m args below meth c H1 locs1 cells slots Q (F0 m (pc + 3) ls rest)) : W p l e R s m args below meth c H locs cells slots Q (F0 m pc ls (v :: .ref a :: rest)) :=
  va_putF (C := RX11) (T := TX11) (N := 16) S.1 S.2.1 S.2.2.2.2 hin_RX11 tyX11 tyX11_ok nmX11 S.2.2.2.1 hK.1 hP hD hS q0 he rfl 13 (by decide) (S.2.2.2.2 _ (wT_t2 9 rfl rfl)) (fun _ h9 => h9) rfl hin rfl (tyX11_ok 13 (by decide)) hn hfit hl hdg kk
set_option maxRecDepth 100000 in
theorem pf_RX11_74 {p : Program} {l : Launch} {e : Env} {R : Room} {s : State} {m : MethodId} {args : Array Value} {below : List Frame} {meth : Method} {c : Code} {H : Heap} {locs : List Loc} {cells slots : Nat} {Q : State → Prop} {cc : ByteArray} {nL pc : Nat} {D : va_G} {cI cB cZ : ClassId} {ws : va_W} {rest : List Value} {ls : Array Slot} {a : Nat} {fs : List Value} {v : Value} {A : Nat → Prop} {H0 : Heap} (S : SF p m c cc nL s args RX11) (hin : meth.name = "<init>") (hK : KK D cI cB cZ s) (hP : va_P D vwCl ws H) (hD : va_D A ws) (hS : va_S A H0 H locs) (q0 : Nat) (he : ws[q0]? = some (a, .inr (12, fs))) (hl : 14 < fs.length) (hn : narrow (tyX11 14) v = v) (hfit : fits (tyX11 14) v = true) (hdg : decode cc pc = .ok (.putfield 74, 3)) (kk : ∀ (H1 : Heap) (locs1 : List Loc), va_P D vwCl (ws.set q0 (a, .inr (12, fs.set 14 v))) H1 → va_D A (ws.set q0 (a, .inr (12, fs.set 14 v))) → va_S A H0 H1 locs1 → W p l e R s m args below meth c H1 locs1 cells slots Q (F0 m (pc + 3) ls rest)) : W p l e R s m args below meth c H locs cells slots Q (F0 m pc ls (v :: .ref a :: rest)) :=
  va_putF (C := RX11) (T := TX11) (N := 16) S.1 S.2.1 S.2.2.2.2 hin_RX11 tyX11 tyX11_ok nmX11 S.2.2.2.1 hK.1 hP hD hS q0 he rfl 14 (by decide) (S.2.2.2.2 _ (wT_t2 10 rfl rfl)) (fun _ h9 => h9) rfl hin rfl (tyX11_ok 14 (by decide)) hn hfit hl hdg kk
set_option maxRecDepth 100000 in
theorem pf_RX11_77 {p : Program} {l : Launch} {e : Env} {R : Room} {s : State} {m : MethodId} {args : Array Value} {below : List Frame} {meth : Method} {c : Code} {H : Heap} {locs : List Loc} {cells slots : Nat} {Q : State → Prop} {cc : ByteArray} {nL pc : Nat} {D : va_G} {cI cB cZ : ClassId} {ws : va_W} {rest : List Value} {ls : Array Slot} {a : Nat} {fs : List Value} {v : Value} {A : Nat → Prop} {H0 : Heap} (S : SF p m c cc nL s args RX11) (hin : meth.name = "<init>") (hK : KK D cI cB cZ s) (hP : va_P D vwCl ws H) (hD : va_D A ws) (hS : va_S A H0 H locs) (q0 : Nat) (he : ws[q0]? = some (a, .inr (12, fs))) (hl : 15 < fs.length) (hn : narrow (tyX11 15) v = v) (hfit : fits (tyX11 15) v = true) (hdg : decode cc pc = .ok (.putfield 77, 3)) (kk : ∀ (H1 : Heap) (locs1 : List Loc), va_P D vwCl (ws.set q0 (a, .inr (12, fs.set 15 v))) H1 → va_D A (ws.set q0 (a, .inr (12, fs.set 15 v))) → va_S A H0 H1 locs1 → W p l e R s m args below meth c H1 locs1 cells slots Q (F0 m (pc + 3) ls rest)) : W p l e R s m args below meth c H locs cells slots Q (F0 m pc ls (v :: .ref a :: rest)) :=
  va_putF (C := RX11) (T := TX11) (N := 16) S.1 S.2.1 S.2.2.2.2 hin_RX11 tyX11 tyX11_ok nmX11 S.2.2.2.1 hK.1 hP hD hS q0 he rfl 15 (by decide) (S.2.2.2.2 _ (wT_t2 11 rfl rfl)) (fun _ h9 => h9) rfl hin rfl (tyX11_ok 15 (by decide)) hn hfit hl hdg kk
set_option maxRecDepth 100000 in
theorem pf_RX12_7 {p : Program} {l : Launch} {e : Env} {R : Room} {s : State} {m : MethodId} {args : Array Value} {below : List Frame} {meth : Method} {c : Code} {H : Heap} {locs : List Loc} {cells slots : Nat} {Q : State → Prop} {cc : ByteArray} {nL pc : Nat} {D : va_G} {cI cB cZ : ClassId} {ws : va_W} {rest : List Value} {ls : Array Slot} {a : Nat} {fs : List Value} {v : Value} {A : Nat → Prop} {H0 : Heap} (S : SF p m c cc nL s args RX12) (hin : meth.name = "<init>") (hK : KK D cI cB cZ s) (hP : va_P D vwCl ws H) (hD : va_D A ws) (hS : va_S A H0 H locs) (q0 : Nat) (he : ws[q0]? = some (a, .inr (13, fs))) (hl : 3 < fs.length) (hn : narrow (tyX12 3) v = v) (hfit : fits (tyX12 3) v = true) (hdg : decode cc pc = .ok (.putfield 7, 3)) (kk : ∀ (H1 : Heap) (locs1 : List Loc), va_P D vwCl (ws.set q0 (a, .inr (13, fs.set 3 v))) H1 → va_D A (ws.set q0 (a, .inr (13, fs.set 3 v))) → va_S A H0 H1 locs1 → W p l e R s m args below meth c H1 locs1 cells slots Q (F0 m (pc + 3) ls rest)) : W p l e R s m args below meth c H locs cells slots Q (F0 m pc ls (v :: .ref a :: rest)) :=
  va_putF (C := RX12) (T := TX12) (N := 91) S.1 S.2.1 S.2.2.2.2 hin_RX12 tyX12 tyX12_ok nmX12 S.2.2.2.1 hK.1 hP hD hS q0 he rfl 3 (by decide) (S.2.2.2.2 _ (wT_t6 116 rfl rfl)) (fun _ h9 => h9) rfl hin rfl (tyX12_ok 3 (by decide)) hn hfit hl hdg kk
set_option maxRecDepth 100000 in
theorem pf_RX12_13 {p : Program} {l : Launch} {e : Env} {R : Room} {s : State} {m : MethodId} {args : Array Value} {below : List Frame} {meth : Method} {c : Code} {H : Heap} {locs : List Loc} {cells slots : Nat} {Q : State → Prop} {cc : ByteArray} {nL pc : Nat} {D : va_G} {cI cB cZ : ClassId} {ws : va_W} {rest : List Value} {ls : Array Slot} {a : Nat} {fs : List Value} {v : Value} {A : Nat → Prop} {H0 : Heap} (S : SF p m c cc nL s args RX12) (hin : meth.name = "<init>") (hK : KK D cI cB cZ s) (hP : va_P D vwCl ws H) (hD : va_D A ws) (hS : va_S A H0 H locs) (q0 : Nat) (he : ws[q0]? = some (a, .inr (13, fs))) (hl : 4 < fs.length) (hn : narrow (tyX12 4) v = v) (hfit : fits (tyX12 4) v = true) (hdg : decode cc pc = .ok (.putfield 13, 3)) (kk : ∀ (H1 : Heap) (locs1 : List Loc), va_P D vwCl (ws.set q0 (a, .inr (13, fs.set 4 v))) H1 → va_D A (ws.set q0 (a, .inr (13, fs.set 4 v))) → va_S A H0 H1 locs1 → W p l e R s m args below meth c H1 locs1 cells slots Q (F0 m (pc + 3) ls rest)) : W p l e R s m args below meth c H locs cells slots Q (F0 m pc ls (v :: .ref a :: rest)) :=
  va_putF (C := RX12) (T := TX12) (N := 91) S.1 S.2.1 S.2.2.2.2 hin_RX12 tyX12 tyX12_ok nmX12 S.2.2.2.1 hK.1 hP hD hS q0 he rfl 4 (by decide) (S.2.2.2.2 _ (wT_t6 117 rfl rfl)) (fun _ h9 => h9) rfl hin rfl (tyX12_ok 4 (by decide)) hn hfit hl hdg kk
set_option maxRecDepth 100000 in
theorem pf_RX12_16 {p : Program} {l : Launch} {e : Env} {R : Room} {s : State} {m : MethodId} {args : Array Value} {below : List Frame} {meth : Method} {c : Code} {H : Heap} {locs : List Loc} {cells slots : Nat} {Q : State → Prop} {cc : ByteArray} {nL pc : Nat} {D : va_G} {cI cB cZ : ClassId} {ws : va_W} {rest : List Value} {ls : Array Slot} {a : Nat} {fs : List Value} {v : Value} {A : Nat → Prop} {H0 : Heap} (S : SF p m c cc nL s args RX12) (hin : meth.name = "<init>") (hK : KK D cI cB cZ s) (hP : va_P D vwCl ws H) (hD : va_D A ws) (hS : va_S A H0 H locs) (q0 : Nat) (he : ws[q0]? = some (a, .inr (13, fs))) (hl : 5 < fs.length) (hn : narrow (tyX12 5) v = v) (hfit : fits (tyX12 5) v = true) (hdg : decode cc pc = .ok (.putfield 16, 3)) (kk : ∀ (H1 : Heap) (locs1 : List Loc), va_P D vwCl (ws.set q0 (a, .inr (13, fs.set 5 v))) H1 → va_D A (ws.set q0 (a, .inr (13, fs.set 5 v))) → va_S A H0 H1 locs1 → W p l e R s m args below meth c H1 locs1 cells slots Q (F0 m (pc + 3) ls rest)) : W p l e R s m args below meth c H locs cells slots Q (F0 m pc ls (v :: .ref a :: rest)) :=
  va_putF (C := RX12) (T := TX12) (N := 91) S.1 S.2.1 S.2.2.2.2 hin_RX12 tyX12 tyX12_ok nmX12 S.2.2.2.1 hK.1 hP hD hS q0 he rfl 5 (by decide) (S.2.2.2.2 _ (wT_t6 118 rfl rfl)) (fun _ h9 => h9) rfl hin rfl (tyX12_ok 5 (by decide)) hn hfit hl hdg kk
set_option maxRecDepth 100000 in
theorem pf_RX12_19 {p : Program} {l : Launch} {e : Env} {R : Room} {s : State} {m : MethodId} {args : Array Value} {below : List Frame} {meth : Method} {c : Code} {H : Heap} {locs : List Loc} {cells slots : Nat} {Q : State → Prop} {cc : ByteArray} {nL pc : Nat} {D : va_G} {cI cB cZ : ClassId} {ws : va_W} {rest : List Value} {ls : Array Slot} {a : Nat} {fs : List Value} {v : Value} {A : Nat → Prop} {H0 : Heap} (S : SF p m c cc nL s args RX12) (hin : meth.name = "<init>") (hK : KK D cI cB cZ s) (hP : va_P D vwCl ws H) (hD : va_D A ws) (hS : va_S A H0 H locs) (q0 : Nat) (he : ws[q0]? = some (a, .inr (13, fs))) (hl : 6 < fs.length) (hn : narrow (tyX12 6) v = v) (hfit : fits (tyX12 6) v = true) (hdg : decode cc pc = .ok (.putfield 19, 3)) (kk : ∀ (H1 : Heap) (locs1 : List Loc), va_P D vwCl (ws.set q0 (a, .inr (13, fs.set 6 v))) H1 → va_D A (ws.set q0 (a, .inr (13, fs.set 6 v))) → va_S A H0 H1 locs1 → W p l e R s m args below meth c H1 locs1 cells slots Q (F0 m (pc + 3) ls rest)) : W p l e R s m args below meth c H locs cells slots Q (F0 m pc ls (v :: .ref a :: rest)) :=
  va_putF (C := RX12) (T := TX12) (N := 91) S.1 S.2.1 S.2.2.2.2 hin_RX12 tyX12 tyX12_ok nmX12 S.2.2.2.1 hK.1 hP hD hS q0 he rfl 6 (by decide) (S.2.2.2.2 _ (wT_t6 119 rfl rfl)) (fun _ h9 => h9) rfl hin rfl (tyX12_ok 6 (by decide)) hn hfit hl hdg kk
set_option maxRecDepth 100000 in
theorem pf_RX12_22 {p : Program} {l : Launch} {e : Env} {R : Room} {s : State} {m : MethodId} {args : Array Value} {below : List Frame} {meth : Method} {c : Code} {H : Heap} {locs : List Loc} {cells slots : Nat} {Q : State → Prop} {cc : ByteArray} {nL pc : Nat} {D : va_G} {cI cB cZ : ClassId} {ws : va_W} {rest : List Value} {ls : Array Slot} {a : Nat} {fs : List Value} {v : Value} {A : Nat → Prop} {H0 : Heap} (S : SF p m c cc nL s args RX12) (hin : meth.name = "<init>") (hK : KK D cI cB cZ s) (hP : va_P D vwCl ws H) (hD : va_D A ws) (hS : va_S A H0 H locs) (q0 : Nat) (he : ws[q0]? = some (a, .inr (13, fs))) (hl : 7 < fs.length) (hn : narrow (tyX12 7) v = v) (hfit : fits (tyX12 7) v = true) (hdg : decode cc pc = .ok (.putfield 22, 3)) (kk : ∀ (H1 : Heap) (locs1 : List Loc), va_P D vwCl (ws.set q0 (a, .inr (13, fs.set 7 v))) H1 → va_D A (ws.set q0 (a, .inr (13, fs.set 7 v))) → va_S A H0 H1 locs1 → W p l e R s m args below meth c H1 locs1 cells slots Q (F0 m (pc + 3) ls rest)) : W p l e R s m args below meth c H locs cells slots Q (F0 m pc ls (v :: .ref a :: rest)) :=
  va_putF (C := RX12) (T := TX12) (N := 91) S.1 S.2.1 S.2.2.2.2 hin_RX12 tyX12 tyX12_ok nmX12 S.2.2.2.1 hK.1 hP hD hS q0 he rfl 7 (by decide) (S.2.2.2.2 _ (wT_t6 120 rfl rfl)) (fun _ h9 => h9) rfl hin rfl (tyX12_ok 7 (by decide)) hn hfit hl hdg kk
set_option maxRecDepth 100000 in
theorem pf_RX12_25 {p : Program} {l : Launch} {e : Env} {R : Room} {s : State} {m : MethodId} {args : Array Value} {below : List Frame} {meth : Method} {c : Code} {H : Heap} {locs : List Loc} {cells slots : Nat} {Q : State → Prop} {cc : ByteArray} {nL pc : Nat} {D : va_G} {cI cB cZ : ClassId} {ws : va_W} {rest : List Value} {ls : Array Slot} {a : Nat} {fs : List Value} {v : Value} {A : Nat → Prop} {H0 : Heap} (S : SF p m c cc nL s args RX12) (hin : meth.name = "<init>") (hK : KK D cI cB cZ s) (hP : va_P D vwCl ws H) (hD : va_D A ws) (hS : va_S A H0 H locs) (q0 : Nat) (he : ws[q0]? = some (a, .inr (13, fs))) (hl : 8 < fs.length) (hn : narrow (tyX12 8) v = v) (hfit : fits (tyX12 8) v = true) (hdg : decode cc pc = .ok (.putfield 25, 3)) (kk : ∀ (H1 : Heap) (locs1 : List Loc), va_P D vwCl (ws.set q0 (a, .inr (13, fs.set 8 v))) H1 → va_D A (ws.set q0 (a, .inr (13, fs.set 8 v))) → va_S A H0 H1 locs1 → W p l e R s m args below meth c H1 locs1 cells slots Q (F0 m (pc + 3) ls rest)) : W p l e R s m args below meth c H locs cells slots Q (F0 m pc ls (v :: .ref a :: rest)) :=
  va_putF (C := RX12) (T := TX12) (N := 91) S.1 S.2.1 S.2.2.2.2 hin_RX12 tyX12 tyX12_ok nmX12 S.2.2.2.1 hK.1 hP hD hS q0 he rfl 8 (by decide) (S.2.2.2.2 _ (wT_t6 121 rfl rfl)) (fun _ h9 => h9) rfl hin rfl (tyX12_ok 8 (by decide)) hn hfit hl hdg kk
set_option maxRecDepth 100000 in
theorem pf_RX12_28 {p : Program} {l : Launch} {e : Env} {R : Room} {s : State} {m : MethodId} {args : Array Value} {below : List Frame} {meth : Method} {c : Code} {H : Heap} {locs : List Loc} {cells slots : Nat} {Q : State → Prop} {cc : ByteArray} {nL pc : Nat} {D : va_G} {cI cB cZ : ClassId} {ws : va_W} {rest : List Value} {ls : Array Slot} {a : Nat} {fs : List Value} {v : Value} {A : Nat → Prop} {H0 : Heap} (S : SF p m c cc nL s args RX12) (hin : meth.name = "<init>") (hK : KK D cI cB cZ s) (hP : va_P D vwCl ws H) (hD : va_D A ws) (hS : va_S A H0 H locs) (q0 : Nat) (he : ws[q0]? = some (a, .inr (13, fs))) (hl : 9 < fs.length) (hn : narrow (tyX12 9) v = v) (hfit : fits (tyX12 9) v = true) (hdg : decode cc pc = .ok (.putfield 28, 3)) (kk : ∀ (H1 : Heap) (locs1 : List Loc), va_P D vwCl (ws.set q0 (a, .inr (13, fs.set 9 v))) H1 → va_D A (ws.set q0 (a, .inr (13, fs.set 9 v))) → va_S A H0 H1 locs1 → W p l e R s m args below meth c H1 locs1 cells slots Q (F0 m (pc + 3) ls rest)) : W p l e R s m args below meth c H locs cells slots Q (F0 m pc ls (v :: .ref a :: rest)) :=
  va_putF (C := RX12) (T := TX12) (N := 91) S.1 S.2.1 S.2.2.2.2 hin_RX12 tyX12 tyX12_ok nmX12 S.2.2.2.1 hK.1 hP hD hS q0 he rfl 9 (by decide) (S.2.2.2.2 _ (wT_t6 122 rfl rfl)) (fun _ h9 => h9) rfl hin rfl (tyX12_ok 9 (by decide)) hn hfit hl hdg kk
set_option maxRecDepth 100000 in
theorem pf_RX12_31 {p : Program} {l : Launch} {e : Env} {R : Room} {s : State} {m : MethodId} {args : Array Value} {below : List Frame} {meth : Method} {c : Code} {H : Heap} {locs : List Loc} {cells slots : Nat} {Q : State → Prop} {cc : ByteArray} {nL pc : Nat} {D : va_G} {cI cB cZ : ClassId} {ws : va_W} {rest : List Value} {ls : Array Slot} {a : Nat} {fs : List Value} {v : Value} {A : Nat → Prop} {H0 : Heap} (S : SF p m c cc nL s args RX12) (hin : meth.name = "<init>") (hK : KK D cI cB cZ s) (hP : va_P D vwCl ws H) (hD : va_D A ws) (hS : va_S A H0 H locs) (q0 : Nat) (he : ws[q0]? = some (a, .inr (13, fs))) (hl : 10 < fs.length) (hn : narrow (tyX12 10) v = v) (hfit : fits (tyX12 10) v = true) (hdg : decode cc pc = .ok (.putfield 31, 3)) (kk : ∀ (H1 : Heap) (locs1 : List Loc), va_P D vwCl (ws.set q0 (a, .inr (13, fs.set 10 v))) H1 → va_D A (ws.set q0 (a, .inr (13, fs.set 10 v))) → va_S A H0 H1 locs1 → W p l e R s m args below meth c H1 locs1 cells slots Q (F0 m (pc + 3) ls rest)) : W p l e R s m args below meth c H locs cells slots Q (F0 m pc ls (v :: .ref a :: rest)) :=
  va_putF (C := RX12) (T := TX12) (N := 91) S.1 S.2.1 S.2.2.2.2 hin_RX12 tyX12 tyX12_ok nmX12 S.2.2.2.1 hK.1 hP hD hS q0 he rfl 10 (by decide) (S.2.2.2.2 _ (wT_t6 123 rfl rfl)) (fun _ h9 => h9) rfl hin rfl (tyX12_ok 10 (by decide)) hn hfit hl hdg kk
set_option maxRecDepth 100000 in
theorem pf_RX12_34 {p : Program} {l : Launch} {e : Env} {R : Room} {s : State} {m : MethodId} {args : Array Value} {below : List Frame} {meth : Method} {c : Code} {H : Heap} {locs : List Loc} {cells slots : Nat} {Q : State → Prop} {cc : ByteArray} {nL pc : Nat} {D : va_G} {cI cB cZ : ClassId} {ws : va_W} {rest : List Value} {ls : Array Slot} {a : Nat} {fs : List Value} {v : Value} {A : Nat → Prop} {H0 : Heap} (S : SF p m c cc nL s args RX12) (hin : meth.name = "<init>") (hK : KK D cI cB cZ s) (hP : va_P D vwCl ws H) (hD : va_D A ws) (hS : va_S A H0 H locs) (q0 : Nat) (he : ws[q0]? = some (a, .inr (13, fs))) (hl : 11 < fs.length) (hn : narrow (tyX12 11) v = v) (hfit : fits (tyX12 11) v = true) (hdg : decode cc pc = .ok (.putfield 34, 3)) (kk : ∀ (H1 : Heap) (locs1 : List Loc), va_P D vwCl (ws.set q0 (a, .inr (13, fs.set 11 v))) H1 → va_D A (ws.set q0 (a, .inr (13, fs.set 11 v))) → va_S A H0 H1 locs1 → W p l e R s m args below meth c H1 locs1 cells slots Q (F0 m (pc + 3) ls rest)) : W p l e R s m args below meth c H locs cells slots Q (F0 m pc ls (v :: .ref a :: rest)) :=
  va_putF (C := RX12) (T := TX12) (N := 91) S.1 S.2.1 S.2.2.2.2 hin_RX12 tyX12 tyX12_ok nmX12 S.2.2.2.1 hK.1 hP hD hS q0 he rfl 11 (by decide) (S.2.2.2.2 _ (wT_t6 124 rfl rfl)) (fun _ h9 => h9) rfl hin rfl (tyX12_ok 11 (by decide)) hn hfit hl hdg kk
set_option maxRecDepth 100000 in
theorem pf_RX12_37 {p : Program} {l : Launch} {e : Env} {R : Room} {s : State} {m : MethodId} {args : Array Value} {below : List Frame} {meth : Method} {c : Code} {H : Heap} {locs : List Loc} {cells slots : Nat} {Q : State → Prop} {cc : ByteArray} {nL pc : Nat} {D : va_G} {cI cB cZ : ClassId} {ws : va_W} {rest : List Value} {ls : Array Slot} {a : Nat} {fs : List Value} {v : Value} {A : Nat → Prop} {H0 : Heap} (S : SF p m c cc nL s args RX12) (hin : meth.name = "<init>") (hK : KK D cI cB cZ s) (hP : va_P D vwCl ws H) (hD : va_D A ws) (hS : va_S A H0 H locs) (q0 : Nat) (he : ws[q0]? = some (a, .inr (13, fs))) (hl : 12 < fs.length) (hn : narrow (tyX12 12) v = v) (hfit : fits (tyX12 12) v = true) (hdg : decode cc pc = .ok (.putfield 37, 3)) (kk : ∀ (H1 : Heap) (locs1 : List Loc), va_P D vwCl (ws.set q0 (a, .inr (13, fs.set 12 v))) H1 → va_D A (ws.set q0 (a, .inr (13, fs.set 12 v))) → va_S A H0 H1 locs1 → W p l e R s m args below meth c H1 locs1 cells slots Q (F0 m (pc + 3) ls rest)) : W p l e R s m args below meth c H locs cells slots Q (F0 m pc ls (v :: .ref a :: rest)) :=
  va_putF (C := RX12) (T := TX12) (N := 91) S.1 S.2.1 S.2.2.2.2 hin_RX12 tyX12 tyX12_ok nmX12 S.2.2.2.1 hK.1 hP hD hS q0 he rfl 12 (by decide) (S.2.2.2.2 _ (wT_t6 125 rfl rfl)) (fun _ h9 => h9) rfl hin rfl (tyX12_ok 12 (by decide)) hn hfit hl hdg kk
set_option maxRecDepth 100000 in
theorem pf_RX12_40 {p : Program} {l : Launch} {e : Env} {R : Room} {s : State} {m : MethodId} {args : Array Value} {below : List Frame} {meth : Method} {c : Code} {H : Heap} {locs : List Loc} {cells slots : Nat} {Q : State → Prop} {cc : ByteArray} {nL pc : Nat} {D : va_G} {cI cB cZ : ClassId} {ws : va_W} {rest : List Value} {ls : Array Slot} {a : Nat} {fs : List Value} {v : Value} {A : Nat → Prop} {H0 : Heap} (S : SF p m c cc nL s args RX12) (hin : meth.name = "<init>") (hK : KK D cI cB cZ s) (hP : va_P D vwCl ws H) (hD : va_D A ws) (hS : va_S A H0 H locs) (q0 : Nat) (he : ws[q0]? = some (a, .inr (13, fs))) (hl : 13 < fs.length) (hn : narrow (tyX12 13) v = v) (hfit : fits (tyX12 13) v = true) (hdg : decode cc pc = .ok (.putfield 40, 3)) (kk : ∀ (H1 : Heap) (locs1 : List Loc), va_P D vwCl (ws.set q0 (a, .inr (13, fs.set 13 v))) H1 → va_D A (ws.set q0 (a, .inr (13, fs.set 13 v))) → va_S A H0 H1 locs1 → W p l e R s m args below meth c H1 locs1 cells slots Q (F0 m (pc + 3) ls rest)) : W p l e R s m args below meth c H locs cells slots Q (F0 m pc ls (v :: .ref a :: rest)) :=
  va_putF (C := RX12) (T := TX12) (N := 91) S.1 S.2.1 S.2.2.2.2 hin_RX12 tyX12 tyX12_ok nmX12 S.2.2.2.1 hK.1 hP hD hS q0 he rfl 13 (by decide) (S.2.2.2.2 _ (wT_t6 126 rfl rfl)) (fun _ h9 => h9) rfl hin rfl (tyX12_ok 13 (by decide)) hn hfit hl hdg kk
set_option maxRecDepth 100000 in
theorem pf_RX12_43 {p : Program} {l : Launch} {e : Env} {R : Room} {s : State} {m : MethodId} {args : Array Value} {below : List Frame} {meth : Method} {c : Code} {H : Heap} {locs : List Loc} {cells slots : Nat} {Q : State → Prop} {cc : ByteArray} {nL pc : Nat} {D : va_G} {cI cB cZ : ClassId} {ws : va_W} {rest : List Value} {ls : Array Slot} {a : Nat} {fs : List Value} {v : Value} {A : Nat → Prop} {H0 : Heap} (S : SF p m c cc nL s args RX12) (hin : meth.name = "<init>") (hK : KK D cI cB cZ s) (hP : va_P D vwCl ws H) (hD : va_D A ws) (hS : va_S A H0 H locs) (q0 : Nat) (he : ws[q0]? = some (a, .inr (13, fs))) (hl : 14 < fs.length) (hn : narrow (tyX12 14) v = v) (hfit : fits (tyX12 14) v = true) (hdg : decode cc pc = .ok (.putfield 43, 3)) (kk : ∀ (H1 : Heap) (locs1 : List Loc), va_P D vwCl (ws.set q0 (a, .inr (13, fs.set 14 v))) H1 → va_D A (ws.set q0 (a, .inr (13, fs.set 14 v))) → va_S A H0 H1 locs1 → W p l e R s m args below meth c H1 locs1 cells slots Q (F0 m (pc + 3) ls rest)) : W p l e R s m args below meth c H locs cells slots Q (F0 m pc ls (v :: .ref a :: rest)) :=
  va_putF (C := RX12) (T := TX12) (N := 91) S.1 S.2.1 S.2.2.2.2 hin_RX12 tyX12 tyX12_ok nmX12 S.2.2.2.1 hK.1 hP hD hS q0 he rfl 14 (by decide) (S.2.2.2.2 _ (wT_t6 127 rfl rfl)) (fun _ h9 => h9) rfl hin rfl (tyX12_ok 14 (by decide)) hn hfit hl hdg kk
set_option maxRecDepth 100000 in
theorem pf_RX12_46 {p : Program} {l : Launch} {e : Env} {R : Room} {s : State} {m : MethodId} {args : Array Value} {below : List Frame} {meth : Method} {c : Code} {H : Heap} {locs : List Loc} {cells slots : Nat} {Q : State → Prop} {cc : ByteArray} {nL pc : Nat} {D : va_G} {cI cB cZ : ClassId} {ws : va_W} {rest : List Value} {ls : Array Slot} {a : Nat} {fs : List Value} {v : Value} {A : Nat → Prop} {H0 : Heap} (S : SF p m c cc nL s args RX12) (hin : meth.name = "<init>") (hK : KK D cI cB cZ s) (hP : va_P D vwCl ws H) (hD : va_D A ws) (hS : va_S A H0 H locs) (q0 : Nat) (he : ws[q0]? = some (a, .inr (13, fs))) (hl : 15 < fs.length) (hn : narrow (tyX12 15) v = v) (hfit : fits (tyX12 15) v = true) (hdg : decode cc pc = .ok (.putfield 46, 3)) (kk : ∀ (H1 : Heap) (locs1 : List Loc), va_P D vwCl (ws.set q0 (a, .inr (13, fs.set 15 v))) H1 → va_D A (ws.set q0 (a, .inr (13, fs.set 15 v))) → va_S A H0 H1 locs1 → W p l e R s m args below meth c H1 locs1 cells slots Q (F0 m (pc + 3) ls rest)) : W p l e R s m args below meth c H locs cells slots Q (F0 m pc ls (v :: .ref a :: rest)) :=
  va_putF (C := RX12) (T := TX12) (N := 91) S.1 S.2.1 S.2.2.2.2 hin_RX12 tyX12 tyX12_ok nmX12 S.2.2.2.1 hK.1 hP hD hS q0 he rfl 15 (by decide) (S.2.2.2.2 _ (wT_t6 128 rfl rfl)) (fun _ h9 => h9) rfl hin rfl (tyX12_ok 15 (by decide)) hn hfit hl hdg kk
set_option maxRecDepth 100000 in
theorem pf_RX12_49 {p : Program} {l : Launch} {e : Env} {R : Room} {s : State} {m : MethodId} {args : Array Value} {below : List Frame} {meth : Method} {c : Code} {H : Heap} {locs : List Loc} {cells slots : Nat} {Q : State → Prop} {cc : ByteArray} {nL pc : Nat} {D : va_G} {cI cB cZ : ClassId} {ws : va_W} {rest : List Value} {ls : Array Slot} {a : Nat} {fs : List Value} {v : Value} {A : Nat → Prop} {H0 : Heap} (S : SF p m c cc nL s args RX12) (hin : meth.name = "<init>") (hK : KK D cI cB cZ s) (hP : va_P D vwCl ws H) (hD : va_D A ws) (hS : va_S A H0 H locs) (q0 : Nat) (he : ws[q0]? = some (a, .inr (13, fs))) (hl : 16 < fs.length) (hn : narrow (tyX12 16) v = v) (hfit : fits (tyX12 16) v = true) (hdg : decode cc pc = .ok (.putfield 49, 3)) (kk : ∀ (H1 : Heap) (locs1 : List Loc), va_P D vwCl (ws.set q0 (a, .inr (13, fs.set 16 v))) H1 → va_D A (ws.set q0 (a, .inr (13, fs.set 16 v))) → va_S A H0 H1 locs1 → W p l e R s m args below meth c H1 locs1 cells slots Q (F0 m (pc + 3) ls rest)) : W p l e R s m args below meth c H locs cells slots Q (F0 m pc ls (v :: .ref a :: rest)) :=
  va_putF (C := RX12) (T := TX12) (N := 91) S.1 S.2.1 S.2.2.2.2 hin_RX12 tyX12 tyX12_ok nmX12 S.2.2.2.1 hK.1 hP hD hS q0 he rfl 16 (by decide) (S.2.2.2.2 _ (wT_t6 129 rfl rfl)) (fun _ h9 => h9) rfl hin rfl (tyX12_ok 16 (by decide)) hn hfit hl hdg kk
set_option maxRecDepth 100000 in
theorem pf_RX12_52 {p : Program} {l : Launch} {e : Env} {R : Room} {s : State} {m : MethodId} {args : Array Value} {below : List Frame} {meth : Method} {c : Code} {H : Heap} {locs : List Loc} {cells slots : Nat} {Q : State → Prop} {cc : ByteArray} {nL pc : Nat} {D : va_G} {cI cB cZ : ClassId} {ws : va_W} {rest : List Value} {ls : Array Slot} {a : Nat} {fs : List Value} {v : Value} {A : Nat → Prop} {H0 : Heap} (S : SF p m c cc nL s args RX12) (hin : meth.name = "<init>") (hK : KK D cI cB cZ s) (hP : va_P D vwCl ws H) (hD : va_D A ws) (hS : va_S A H0 H locs) (q0 : Nat) (he : ws[q0]? = some (a, .inr (13, fs))) (hl : 17 < fs.length) (hn : narrow (tyX12 17) v = v) (hfit : fits (tyX12 17) v = true) (hdg : decode cc pc = .ok (.putfield 52, 3)) (kk : ∀ (H1 : Heap) (locs1 : List Loc), va_P D vwCl (ws.set q0 (a, .inr (13, fs.set 17 v))) H1 → va_D A (ws.set q0 (a, .inr (13, fs.set 17 v))) → va_S A H0 H1 locs1 → W p l e R s m args below meth c H1 locs1 cells slots Q (F0 m (pc + 3) ls rest)) : W p l e R s m args below meth c H locs cells slots Q (F0 m pc ls (v :: .ref a :: rest)) :=
  va_putF (C := RX12) (T := TX12) (N := 91) S.1 S.2.1 S.2.2.2.2 hin_RX12 tyX12 tyX12_ok nmX12 S.2.2.2.1 hK.1 hP hD hS q0 he rfl 17 (by decide) (S.2.2.2.2 _ (wT_t6 130 rfl rfl)) (fun _ h9 => h9) rfl hin rfl (tyX12_ok 17 (by decide)) hn hfit hl hdg kk
set_option maxRecDepth 100000 in
theorem pf_RX12_56 {p : Program} {l : Launch} {e : Env} {R : Room} {s : State} {m : MethodId} {args : Array Value} {below : List Frame} {meth : Method} {c : Code} {H : Heap} {locs : List Loc} {cells slots : Nat} {Q : State → Prop} {cc : ByteArray} {nL pc : Nat} {D : va_G} {cI cB cZ : ClassId} {ws : va_W} {rest : List Value} {ls : Array Slot} {a : Nat} {fs : List Value} {v : Value} {A : Nat → Prop} {H0 : Heap} (S : SF p m c cc nL s args RX12) (hin : meth.name = "<init>") (hK : KK D cI cB cZ s) (hP : va_P D vwCl ws H) (hD : va_D A ws) (hS : va_S A H0 H locs) (q0 : Nat) (he : ws[q0]? = some (a, .inr (13, fs))) (hl : 27 < fs.length) (hn : narrow (tyX12 27) v = v) (hfit : fits (tyX12 27) v = true) (hdg : decode cc pc = .ok (.putfield 56, 3)) (kk : ∀ (H1 : Heap) (locs1 : List Loc), va_P D vwCl (ws.set q0 (a, .inr (13, fs.set 27 v))) H1 → va_D A (ws.set q0 (a, .inr (13, fs.set 27 v))) → va_S A H0 H1 locs1 → W p l e R s m args below meth c H1 locs1 cells slots Q (F0 m (pc + 3) ls rest)) : W p l e R s m args below meth c H locs cells slots Q (F0 m pc ls (v :: .ref a :: rest)) :=
  va_putF (C := RX12) (T := TX12) (N := 91) S.1 S.2.1 S.2.2.2.2 hin_RX12 tyX12 tyX12_ok nmX12 S.2.2.2.1 hK.1 hP hD hS q0 he rfl 27 (by decide) (S.2.2.2.2 _ (wT_t6 140 rfl rfl)) (fun _ h9 => h9) rfl hin rfl (tyX12_ok 27 (by decide)) hn hfit hl hdg kk
set_option maxRecDepth 100000 in
theorem pf_RX12_59 {p : Program} {l : Launch} {e : Env} {R : Room} {s : State} {m : MethodId} {args : Array Value} {below : List Frame} {meth : Method} {c : Code} {H : Heap} {locs : List Loc} {cells slots : Nat} {Q : State → Prop} {cc : ByteArray} {nL pc : Nat} {D : va_G} {cI cB cZ : ClassId} {ws : va_W} {rest : List Value} {ls : Array Slot} {a : Nat} {fs : List Value} {v : Value} {A : Nat → Prop} {H0 : Heap} (S : SF p m c cc nL s args RX12) (hin : meth.name = "<init>") (hK : KK D cI cB cZ s) (hP : va_P D vwCl ws H) (hD : va_D A ws) (hS : va_S A H0 H locs) (q0 : Nat) (he : ws[q0]? = some (a, .inr (13, fs))) (hl : 28 < fs.length) (hn : narrow (tyX12 28) v = v) (hfit : fits (tyX12 28) v = true) (hdg : decode cc pc = .ok (.putfield 59, 3)) (kk : ∀ (H1 : Heap) (locs1 : List Loc), va_P D vwCl (ws.set q0 (a, .inr (13, fs.set 28 v))) H1 → va_D A (ws.set q0 (a, .inr (13, fs.set 28 v))) → va_S A H0 H1 locs1 → W p l e R s m args below meth c H1 locs1 cells slots Q (F0 m (pc + 3) ls rest)) : W p l e R s m args below meth c H locs cells slots Q (F0 m pc ls (v :: .ref a :: rest)) :=
  va_putF (C := RX12) (T := TX12) (N := 91) S.1 S.2.1 S.2.2.2.2 hin_RX12 tyX12 tyX12_ok nmX12 S.2.2.2.1 hK.1 hP hD hS q0 he rfl 28 (by decide) (S.2.2.2.2 _ (wT_t6 141 rfl rfl)) (fun _ h9 => h9) rfl hin rfl (tyX12_ok 28 (by decide)) hn hfit hl hdg kk
set_option maxRecDepth 100000 in
theorem pf_RX12_62 {p : Program} {l : Launch} {e : Env} {R : Room} {s : State} {m : MethodId} {args : Array Value} {below : List Frame} {meth : Method} {c : Code} {H : Heap} {locs : List Loc} {cells slots : Nat} {Q : State → Prop} {cc : ByteArray} {nL pc : Nat} {D : va_G} {cI cB cZ : ClassId} {ws : va_W} {rest : List Value} {ls : Array Slot} {a : Nat} {fs : List Value} {v : Value} {A : Nat → Prop} {H0 : Heap} (S : SF p m c cc nL s args RX12) (hin : meth.name = "<init>") (hK : KK D cI cB cZ s) (hP : va_P D vwCl ws H) (hD : va_D A ws) (hS : va_S A H0 H locs) (q0 : Nat) (he : ws[q0]? = some (a, .inr (13, fs))) (hl : 29 < fs.length) (hn : narrow (tyX12 29) v = v) (hfit : fits (tyX12 29) v = true) (hdg : decode cc pc = .ok (.putfield 62, 3)) (kk : ∀ (H1 : Heap) (locs1 : List Loc), va_P D vwCl (ws.set q0 (a, .inr (13, fs.set 29 v))) H1 → va_D A (ws.set q0 (a, .inr (13, fs.set 29 v))) → va_S A H0 H1 locs1 → W p l e R s m args below meth c H1 locs1 cells slots Q (F0 m (pc + 3) ls rest)) : W p l e R s m args below meth c H locs cells slots Q (F0 m pc ls (v :: .ref a :: rest)) :=
  va_putF (C := RX12) (T := TX12) (N := 91) S.1 S.2.1 S.2.2.2.2 hin_RX12 tyX12 tyX12_ok nmX12 S.2.2.2.1 hK.1 hP hD hS q0 he rfl 29 (by decide) (S.2.2.2.2 _ (wT_t6 142 rfl rfl)) (fun _ h9 => h9) rfl hin rfl (tyX12_ok 29 (by decide)) hn hfit hl hdg kk
set_option maxRecDepth 100000 in
theorem pf_RX12_65 {p : Program} {l : Launch} {e : Env} {R : Room} {s : State} {m : MethodId} {args : Array Value} {below : List Frame} {meth : Method} {c : Code} {H : Heap} {locs : List Loc} {cells slots : Nat} {Q : State → Prop} {cc : ByteArray} {nL pc : Nat} {D : va_G} {cI cB cZ : ClassId} {ws : va_W} {rest : List Value} {ls : Array Slot} {a : Nat} {fs : List Value} {v : Value} {A : Nat → Prop} {H0 : Heap} (S : SF p m c cc nL s args RX12) (hin : meth.name = "<init>") (hK : KK D cI cB cZ s) (hP : va_P D vwCl ws H) (hD : va_D A ws) (hS : va_S A H0 H locs) (q0 : Nat) (he : ws[q0]? = some (a, .inr (13, fs))) (hl : 30 < fs.length) (hn : narrow (tyX12 30) v = v) (hfit : fits (tyX12 30) v = true) (hdg : decode cc pc = .ok (.putfield 65, 3)) (kk : ∀ (H1 : Heap) (locs1 : List Loc), va_P D vwCl (ws.set q0 (a, .inr (13, fs.set 30 v))) H1 → va_D A (ws.set q0 (a, .inr (13, fs.set 30 v))) → va_S A H0 H1 locs1 → W p l e R s m args below meth c H1 locs1 cells slots Q (F0 m (pc + 3) ls rest)) : W p l e R s m args below meth c H locs cells slots Q (F0 m pc ls (v :: .ref a :: rest)) :=
  va_putF (C := RX12) (T := TX12) (N := 91) S.1 S.2.1 S.2.2.2.2 hin_RX12 tyX12 tyX12_ok nmX12 S.2.2.2.1 hK.1 hP hD hS q0 he rfl 30 (by decide) (S.2.2.2.2 _ (wT_t6 143 rfl rfl)) (fun _ h9 => h9) rfl hin rfl (tyX12_ok 30 (by decide)) hn hfit hl hdg kk
set_option maxRecDepth 100000 in
theorem pf_RX12_68 {p : Program} {l : Launch} {e : Env} {R : Room} {s : State} {m : MethodId} {args : Array Value} {below : List Frame} {meth : Method} {c : Code} {H : Heap} {locs : List Loc} {cells slots : Nat} {Q : State → Prop} {cc : ByteArray} {nL pc : Nat} {D : va_G} {cI cB cZ : ClassId} {ws : va_W} {rest : List Value} {ls : Array Slot} {a : Nat} {fs : List Value} {v : Value} {A : Nat → Prop} {H0 : Heap} (S : SF p m c cc nL s args RX12) (hin : meth.name = "<init>") (hK : KK D cI cB cZ s) (hP : va_P D vwCl ws H) (hD : va_D A ws) (hS : va_S A H0 H locs) (q0 : Nat) (he : ws[q0]? = some (a, .inr (13, fs))) (hl : 31 < fs.length) (hn : narrow (tyX12 31) v = v) (hfit : fits (tyX12 31) v = true) (hdg : decode cc pc = .ok (.putfield 68, 3)) (kk : ∀ (H1 : Heap) (locs1 : List Loc), va_P D vwCl (ws.set q0 (a, .inr (13, fs.set 31 v))) H1 → va_D A (ws.set q0 (a, .inr (13, fs.set 31 v))) → va_S A H0 H1 locs1 → W p l e R s m args below meth c H1 locs1 cells slots Q (F0 m (pc + 3) ls rest)) : W p l e R s m args below meth c H locs cells slots Q (F0 m pc ls (v :: .ref a :: rest)) :=
  va_putF (C := RX12) (T := TX12) (N := 91) S.1 S.2.1 S.2.2.2.2 hin_RX12 tyX12 tyX12_ok nmX12 S.2.2.2.1 hK.1 hP hD hS q0 he rfl 31 (by decide) (S.2.2.2.2 _ (wT_t6 144 rfl rfl)) (fun _ h9 => h9) rfl hin rfl (tyX12_ok 31 (by decide)) hn hfit hl hdg kk
set_option maxRecDepth 100000 in
theorem pf_RX12_71 {p : Program} {l : Launch} {e : Env} {R : Room} {s : State} {m : MethodId} {args : Array Value} {below : List Frame} {meth : Method} {c : Code} {H : Heap} {locs : List Loc} {cells slots : Nat} {Q : State → Prop} {cc : ByteArray} {nL pc : Nat} {D : va_G} {cI cB cZ : ClassId} {ws : va_W} {rest : List Value} {ls : Array Slot} {a : Nat} {fs : List Value} {v : Value} {A : Nat → Prop} {H0 : Heap} (S : SF p m c cc nL s args RX12) (hin : meth.name = "<init>") (hK : KK D cI cB cZ s) (hP : va_P D vwCl ws H) (hD : va_D A ws) (hS : va_S A H0 H locs) (q0 : Nat) (he : ws[q0]? = some (a, .inr (13, fs))) (hl : 32 < fs.length) (hn : narrow (tyX12 32) v = v) (hfit : fits (tyX12 32) v = true) (hdg : decode cc pc = .ok (.putfield 71, 3)) (kk : ∀ (H1 : Heap) (locs1 : List Loc), va_P D vwCl (ws.set q0 (a, .inr (13, fs.set 32 v))) H1 → va_D A (ws.set q0 (a, .inr (13, fs.set 32 v))) → va_S A H0 H1 locs1 → W p l e R s m args below meth c H1 locs1 cells slots Q (F0 m (pc + 3) ls rest)) : W p l e R s m args below meth c H locs cells slots Q (F0 m pc ls (v :: .ref a :: rest)) :=
  va_putF (C := RX12) (T := TX12) (N := 91) S.1 S.2.1 S.2.2.2.2 hin_RX12 tyX12 tyX12_ok nmX12 S.2.2.2.1 hK.1 hP hD hS q0 he rfl 32 (by decide) (S.2.2.2.2 _ (wT_t6 145 rfl rfl)) (fun _ h9 => h9) rfl hin rfl (tyX12_ok 32 (by decide)) hn hfit hl hdg kk
set_option maxRecDepth 100000 in
theorem pf_RX12_74 {p : Program} {l : Launch} {e : Env} {R : Room} {s : State} {m : MethodId} {args : Array Value} {below : List Frame} {meth : Method} {c : Code} {H : Heap} {locs : List Loc} {cells slots : Nat} {Q : State → Prop} {cc : ByteArray} {nL pc : Nat} {D : va_G} {cI cB cZ : ClassId} {ws : va_W} {rest : List Value} {ls : Array Slot} {a : Nat} {fs : List Value} {v : Value} {A : Nat → Prop} {H0 : Heap} (S : SF p m c cc nL s args RX12) (hin : meth.name = "<init>") (hK : KK D cI cB cZ s) (hP : va_P D vwCl ws H) (hD : va_D A ws) (hS : va_S A H0 H locs) (q0 : Nat) (he : ws[q0]? = some (a, .inr (13, fs))) (hl : 33 < fs.length) (hn : narrow (tyX12 33) v = v) (hfit : fits (tyX12 33) v = true) (hdg : decode cc pc = .ok (.putfield 74, 3)) (kk : ∀ (H1 : Heap) (locs1 : List Loc), va_P D vwCl (ws.set q0 (a, .inr (13, fs.set 33 v))) H1 → va_D A (ws.set q0 (a, .inr (13, fs.set 33 v))) → va_S A H0 H1 locs1 → W p l e R s m args below meth c H1 locs1 cells slots Q (F0 m (pc + 3) ls rest)) : W p l e R s m args below meth c H locs cells slots Q (F0 m pc ls (v :: .ref a :: rest)) :=
  va_putF (C := RX12) (T := TX12) (N := 91) S.1 S.2.1 S.2.2.2.2 hin_RX12 tyX12 tyX12_ok nmX12 S.2.2.2.1 hK.1 hP hD hS q0 he rfl 33 (by decide) (S.2.2.2.2 _ (wT_t6 146 rfl rfl)) (fun _ h9 => h9) rfl hin rfl (tyX12_ok 33 (by decide)) hn hfit hl hdg kk
set_option maxRecDepth 100000 in
theorem pf_RX12_77 {p : Program} {l : Launch} {e : Env} {R : Room} {s : State} {m : MethodId} {args : Array Value} {below : List Frame} {meth : Method} {c : Code} {H : Heap} {locs : List Loc} {cells slots : Nat} {Q : State → Prop} {cc : ByteArray} {nL pc : Nat} {D : va_G} {cI cB cZ : ClassId} {ws : va_W} {rest : List Value} {ls : Array Slot} {a : Nat} {fs : List Value} {v : Value} {A : Nat → Prop} {H0 : Heap} (S : SF p m c cc nL s args RX12) (hin : meth.name = "<init>") (hK : KK D cI cB cZ s) (hP : va_P D vwCl ws H) (hD : va_D A ws) (hS : va_S A H0 H locs) (q0 : Nat) (he : ws[q0]? = some (a, .inr (13, fs))) (hl : 34 < fs.length) (hn : narrow (tyX12 34) v = v) (hfit : fits (tyX12 34) v = true) (hdg : decode cc pc = .ok (.putfield 77, 3)) (kk : ∀ (H1 : Heap) (locs1 : List Loc), va_P D vwCl (ws.set q0 (a, .inr (13, fs.set 34 v))) H1 → va_D A (ws.set q0 (a, .inr (13, fs.set 34 v))) → va_S A H0 H1 locs1 → W p l e R s m args below meth c H1 locs1 cells slots Q (F0 m (pc + 3) ls rest)) : W p l e R s m args below meth c H locs cells slots Q (F0 m pc ls (v :: .ref a :: rest)) :=
  va_putF (C := RX12) (T := TX12) (N := 91) S.1 S.2.1 S.2.2.2.2 hin_RX12 tyX12 tyX12_ok nmX12 S.2.2.2.1 hK.1 hP hD hS q0 he rfl 34 (by decide) (S.2.2.2.2 _ (wT_t6 147 rfl rfl)) (fun _ h9 => h9) rfl hin rfl (tyX12_ok 34 (by decide)) hn hfit hl hdg kk
set_option maxRecDepth 100000 in
theorem pf_RX12_80 {p : Program} {l : Launch} {e : Env} {R : Room} {s : State} {m : MethodId} {args : Array Value} {below : List Frame} {meth : Method} {c : Code} {H : Heap} {locs : List Loc} {cells slots : Nat} {Q : State → Prop} {cc : ByteArray} {nL pc : Nat} {D : va_G} {cI cB cZ : ClassId} {ws : va_W} {rest : List Value} {ls : Array Slot} {a : Nat} {fs : List Value} {v : Value} {A : Nat → Prop} {H0 : Heap} (S : SF p m c cc nL s args RX12) (hin : meth.name = "<init>") (hK : KK D cI cB cZ s) (hP : va_P D vwCl ws H) (hD : va_D A ws) (hS : va_S A H0 H locs) (q0 : Nat) (he : ws[q0]? = some (a, .inr (13, fs))) (hl : 35 < fs.length) (hn : narrow (tyX12 35) v = v) (hfit : fits (tyX12 35) v = true) (hdg : decode cc pc = .ok (.putfield 80, 3)) (kk : ∀ (H1 : Heap) (locs1 : List Loc), va_P D vwCl (ws.set q0 (a, .inr (13, fs.set 35 v))) H1 → va_D A (ws.set q0 (a, .inr (13, fs.set 35 v))) → va_S A H0 H1 locs1 → W p l e R s m args below meth c H1 locs1 cells slots Q (F0 m (pc + 3) ls rest)) : W p l e R s m args below meth c H locs cells slots Q (F0 m pc ls (v :: .ref a :: rest)) :=
  va_putF (C := RX12) (T := TX12) (N := 91) S.1 S.2.1 S.2.2.2.2 hin_RX12 tyX12 tyX12_ok nmX12 S.2.2.2.1 hK.1 hP hD hS q0 he rfl 35 (by decide) (S.2.2.2.2 _ (wT_t6 148 rfl rfl)) (fun _ h9 => h9) rfl hin rfl (tyX12_ok 35 (by decide)) hn hfit hl hdg kk
set_option maxRecDepth 100000 in
theorem pf_RX12_83 {p : Program} {l : Launch} {e : Env} {R : Room} {s : State} {m : MethodId} {args : Array Value} {below : List Frame} {meth : Method} {c : Code} {H : Heap} {locs : List Loc} {cells slots : Nat} {Q : State → Prop} {cc : ByteArray} {nL pc : Nat} {D : va_G} {cI cB cZ : ClassId} {ws : va_W} {rest : List Value} {ls : Array Slot} {a : Nat} {fs : List Value} {v : Value} {A : Nat → Prop} {H0 : Heap} (S : SF p m c cc nL s args RX12) (hin : meth.name = "<init>") (hK : KK D cI cB cZ s) (hP : va_P D vwCl ws H) (hD : va_D A ws) (hS : va_S A H0 H locs) (q0 : Nat) (he : ws[q0]? = some (a, .inr (13, fs))) (hl : 36 < fs.length) (hn : narrow (tyX12 36) v = v) (hfit : fits (tyX12 36) v = true) (hdg : decode cc pc = .ok (.putfield 83, 3)) (kk : ∀ (H1 : Heap) (locs1 : List Loc), va_P D vwCl (ws.set q0 (a, .inr (13, fs.set 36 v))) H1 → va_D A (ws.set q0 (a, .inr (13, fs.set 36 v))) → va_S A H0 H1 locs1 → W p l e R s m args below meth c H1 locs1 cells slots Q (F0 m (pc + 3) ls rest)) : W p l e R s m args below meth c H locs cells slots Q (F0 m pc ls (v :: .ref a :: rest)) :=
  va_putF (C := RX12) (T := TX12) (N := 91) S.1 S.2.1 S.2.2.2.2 hin_RX12 tyX12 tyX12_ok nmX12 S.2.2.2.1 hK.1 hP hD hS q0 he rfl 36 (by decide) (S.2.2.2.2 _ (wT_t6 149 rfl rfl)) (fun _ h9 => h9) rfl hin rfl (tyX12_ok 36 (by decide)) hn hfit hl hdg kk
set_option maxRecDepth 100000 in
theorem pf_RX12_86 {p : Program} {l : Launch} {e : Env} {R : Room} {s : State} {m : MethodId} {args : Array Value} {below : List Frame} {meth : Method} {c : Code} {H : Heap} {locs : List Loc} {cells slots : Nat} {Q : State → Prop} {cc : ByteArray} {nL pc : Nat} {D : va_G} {cI cB cZ : ClassId} {ws : va_W} {rest : List Value} {ls : Array Slot} {a : Nat} {fs : List Value} {v : Value} {A : Nat → Prop} {H0 : Heap} (S : SF p m c cc nL s args RX12) (hin : meth.name = "<init>") (hK : KK D cI cB cZ s) (hP : va_P D vwCl ws H) (hD : va_D A ws) (hS : va_S A H0 H locs) (q0 : Nat) (he : ws[q0]? = some (a, .inr (13, fs))) (hl : 37 < fs.length) (hn : narrow (tyX12 37) v = v) (hfit : fits (tyX12 37) v = true) (hdg : decode cc pc = .ok (.putfield 86, 3)) (kk : ∀ (H1 : Heap) (locs1 : List Loc), va_P D vwCl (ws.set q0 (a, .inr (13, fs.set 37 v))) H1 → va_D A (ws.set q0 (a, .inr (13, fs.set 37 v))) → va_S A H0 H1 locs1 → W p l e R s m args below meth c H1 locs1 cells slots Q (F0 m (pc + 3) ls rest)) : W p l e R s m args below meth c H locs cells slots Q (F0 m pc ls (v :: .ref a :: rest)) :=
  va_putF (C := RX12) (T := TX12) (N := 91) S.1 S.2.1 S.2.2.2.2 hin_RX12 tyX12 tyX12_ok nmX12 S.2.2.2.1 hK.1 hP hD hS q0 he rfl 37 (by decide) (S.2.2.2.2 _ (wT_t6 150 rfl rfl)) (fun _ h9 => h9) rfl hin rfl (tyX12_ok 37 (by decide)) hn hfit hl hdg kk
set_option maxRecDepth 100000 in
theorem pf_RX12_89 {p : Program} {l : Launch} {e : Env} {R : Room} {s : State} {m : MethodId} {args : Array Value} {below : List Frame} {meth : Method} {c : Code} {H : Heap} {locs : List Loc} {cells slots : Nat} {Q : State → Prop} {cc : ByteArray} {nL pc : Nat} {D : va_G} {cI cB cZ : ClassId} {ws : va_W} {rest : List Value} {ls : Array Slot} {a : Nat} {fs : List Value} {v : Value} {A : Nat → Prop} {H0 : Heap} (S : SF p m c cc nL s args RX12) (hin : meth.name = "<init>") (hK : KK D cI cB cZ s) (hP : va_P D vwCl ws H) (hD : va_D A ws) (hS : va_S A H0 H locs) (q0 : Nat) (he : ws[q0]? = some (a, .inr (13, fs))) (hl : 38 < fs.length) (hn : narrow (tyX12 38) v = v) (hfit : fits (tyX12 38) v = true) (hdg : decode cc pc = .ok (.putfield 89, 3)) (kk : ∀ (H1 : Heap) (locs1 : List Loc), va_P D vwCl (ws.set q0 (a, .inr (13, fs.set 38 v))) H1 → va_D A (ws.set q0 (a, .inr (13, fs.set 38 v))) → va_S A H0 H1 locs1 → W p l e R s m args below meth c H1 locs1 cells slots Q (F0 m (pc + 3) ls rest)) : W p l e R s m args below meth c H locs cells slots Q (F0 m pc ls (v :: .ref a :: rest)) :=
  va_putF (C := RX12) (T := TX12) (N := 91) S.1 S.2.1 S.2.2.2.2 hin_RX12 tyX12 tyX12_ok nmX12 S.2.2.2.1 hK.1 hP hD hS q0 he rfl 38 (by decide) (S.2.2.2.2 _ (wT_t6 151 rfl rfl)) (fun _ h9 => h9) rfl hin rfl (tyX12_ok 38 (by decide)) hn hfit hl hdg kk
set_option maxRecDepth 100000 in
theorem pf_RX12_92 {p : Program} {l : Launch} {e : Env} {R : Room} {s : State} {m : MethodId} {args : Array Value} {below : List Frame} {meth : Method} {c : Code} {H : Heap} {locs : List Loc} {cells slots : Nat} {Q : State → Prop} {cc : ByteArray} {nL pc : Nat} {D : va_G} {cI cB cZ : ClassId} {ws : va_W} {rest : List Value} {ls : Array Slot} {a : Nat} {fs : List Value} {v : Value} {A : Nat → Prop} {H0 : Heap} (S : SF p m c cc nL s args RX12) (hin : meth.name = "<init>") (hK : KK D cI cB cZ s) (hP : va_P D vwCl ws H) (hD : va_D A ws) (hS : va_S A H0 H locs) (q0 : Nat) (he : ws[q0]? = some (a, .inr (13, fs))) (hl : 39 < fs.length) (hn : narrow (tyX12 39) v = v) (hfit : fits (tyX12 39) v = true) (hdg : decode cc pc = .ok (.putfield 92, 3)) (kk : ∀ (H1 : Heap) (locs1 : List Loc), va_P D vwCl (ws.set q0 (a, .inr (13, fs.set 39 v))) H1 → va_D A (ws.set q0 (a, .inr (13, fs.set 39 v))) → va_S A H0 H1 locs1 → W p l e R s m args below meth c H1 locs1 cells slots Q (F0 m (pc + 3) ls rest)) : W p l e R s m args below meth c H locs cells slots Q (F0 m pc ls (v :: .ref a :: rest)) :=
  va_putF (C := RX12) (T := TX12) (N := 91) S.1 S.2.1 S.2.2.2.2 hin_RX12 tyX12 tyX12_ok nmX12 S.2.2.2.1 hK.1 hP hD hS q0 he rfl 39 (by decide) (S.2.2.2.2 _ (wT_t6 152 rfl rfl)) (fun _ h9 => h9) rfl hin rfl (tyX12_ok 39 (by decide)) hn hfit hl hdg kk
set_option maxRecDepth 100000 in
theorem pf_RX12_95 {p : Program} {l : Launch} {e : Env} {R : Room} {s : State} {m : MethodId} {args : Array Value} {below : List Frame} {meth : Method} {c : Code} {H : Heap} {locs : List Loc} {cells slots : Nat} {Q : State → Prop} {cc : ByteArray} {nL pc : Nat} {D : va_G} {cI cB cZ : ClassId} {ws : va_W} {rest : List Value} {ls : Array Slot} {a : Nat} {fs : List Value} {v : Value} {A : Nat → Prop} {H0 : Heap} (S : SF p m c cc nL s args RX12) (hin : meth.name = "<init>") (hK : KK D cI cB cZ s) (hP : va_P D vwCl ws H) (hD : va_D A ws) (hS : va_S A H0 H locs) (q0 : Nat) (he : ws[q0]? = some (a, .inr (13, fs))) (hl : 40 < fs.length) (hn : narrow (tyX12 40) v = v) (hfit : fits (tyX12 40) v = true) (hdg : decode cc pc = .ok (.putfield 95, 3)) (kk : ∀ (H1 : Heap) (locs1 : List Loc), va_P D vwCl (ws.set q0 (a, .inr (13, fs.set 40 v))) H1 → va_D A (ws.set q0 (a, .inr (13, fs.set 40 v))) → va_S A H0 H1 locs1 → W p l e R s m args below meth c H1 locs1 cells slots Q (F0 m (pc + 3) ls rest)) : W p l e R s m args below meth c H locs cells slots Q (F0 m pc ls (v :: .ref a :: rest)) :=
  va_putF (C := RX12) (T := TX12) (N := 91) S.1 S.2.1 S.2.2.2.2 hin_RX12 tyX12 tyX12_ok nmX12 S.2.2.2.1 hK.1 hP hD hS q0 he rfl 40 (by decide) (S.2.2.2.2 _ (wT_t6 153 rfl rfl)) (fun _ h9 => h9) rfl hin rfl (tyX12_ok 40 (by decide)) hn hfit hl hdg kk
set_option maxRecDepth 100000 in
theorem pf_RX12_98 {p : Program} {l : Launch} {e : Env} {R : Room} {s : State} {m : MethodId} {args : Array Value} {below : List Frame} {meth : Method} {c : Code} {H : Heap} {locs : List Loc} {cells slots : Nat} {Q : State → Prop} {cc : ByteArray} {nL pc : Nat} {D : va_G} {cI cB cZ : ClassId} {ws : va_W} {rest : List Value} {ls : Array Slot} {a : Nat} {fs : List Value} {v : Value} {A : Nat → Prop} {H0 : Heap} (S : SF p m c cc nL s args RX12) (hin : meth.name = "<init>") (hK : KK D cI cB cZ s) (hP : va_P D vwCl ws H) (hD : va_D A ws) (hS : va_S A H0 H locs) (q0 : Nat) (he : ws[q0]? = some (a, .inr (13, fs))) (hl : 41 < fs.length) (hn : narrow (tyX12 41) v = v) (hfit : fits (tyX12 41) v = true) (hdg : decode cc pc = .ok (.putfield 98, 3)) (kk : ∀ (H1 : Heap) (locs1 : List Loc), va_P D vwCl (ws.set q0 (a, .inr (13, fs.set 41 v))) H1 → va_D A (ws.set q0 (a, .inr (13, fs.set 41 v))) → va_S A H0 H1 locs1 → W p l e R s m args below meth c H1 locs1 cells slots Q (F0 m (pc + 3) ls rest)) : W p l e R s m args below meth c H locs cells slots Q (F0 m pc ls (v :: .ref a :: rest)) :=
  va_putF (C := RX12) (T := TX12) (N := 91) S.1 S.2.1 S.2.2.2.2 hin_RX12 tyX12 tyX12_ok nmX12 S.2.2.2.1 hK.1 hP hD hS q0 he rfl 41 (by decide) (S.2.2.2.2 _ (wT_t6 154 rfl rfl)) (fun _ h9 => h9) rfl hin rfl (tyX12_ok 41 (by decide)) hn hfit hl hdg kk
set_option maxRecDepth 100000 in
theorem pf_RX12_101 {p : Program} {l : Launch} {e : Env} {R : Room} {s : State} {m : MethodId} {args : Array Value} {below : List Frame} {meth : Method} {c : Code} {H : Heap} {locs : List Loc} {cells slots : Nat} {Q : State → Prop} {cc : ByteArray} {nL pc : Nat} {D : va_G} {cI cB cZ : ClassId} {ws : va_W} {rest : List Value} {ls : Array Slot} {a : Nat} {fs : List Value} {v : Value} {A : Nat → Prop} {H0 : Heap} (S : SF p m c cc nL s args RX12) (hin : meth.name = "<init>") (hK : KK D cI cB cZ s) (hP : va_P D vwCl ws H) (hD : va_D A ws) (hS : va_S A H0 H locs) (q0 : Nat) (he : ws[q0]? = some (a, .inr (13, fs))) (hl : 42 < fs.length) (hn : narrow (tyX12 42) v = v) (hfit : fits (tyX12 42) v = true) (hdg : decode cc pc = .ok (.putfield 101, 3)) (kk : ∀ (H1 : Heap) (locs1 : List Loc), va_P D vwCl (ws.set q0 (a, .inr (13, fs.set 42 v))) H1 → va_D A (ws.set q0 (a, .inr (13, fs.set 42 v))) → va_S A H0 H1 locs1 → W p l e R s m args below meth c H1 locs1 cells slots Q (F0 m (pc + 3) ls rest)) : W p l e R s m args below meth c H locs cells slots Q (F0 m pc ls (v :: .ref a :: rest)) :=
  va_putF (C := RX12) (T := TX12) (N := 91) S.1 S.2.1 S.2.2.2.2 hin_RX12 tyX12 tyX12_ok nmX12 S.2.2.2.1 hK.1 hP hD hS q0 he rfl 42 (by decide) (S.2.2.2.2 _ (wT_t6 155 rfl rfl)) (fun _ h9 => h9) rfl hin rfl (tyX12_ok 42 (by decide)) hn hfit hl hdg kk
set_option maxRecDepth 100000 in
theorem pf_RX12_104 {p : Program} {l : Launch} {e : Env} {R : Room} {s : State} {m : MethodId} {args : Array Value} {below : List Frame} {meth : Method} {c : Code} {H : Heap} {locs : List Loc} {cells slots : Nat} {Q : State → Prop} {cc : ByteArray} {nL pc : Nat} {D : va_G} {cI cB cZ : ClassId} {ws : va_W} {rest : List Value} {ls : Array Slot} {a : Nat} {fs : List Value} {v : Value} {A : Nat → Prop} {H0 : Heap} (S : SF p m c cc nL s args RX12) (hin : meth.name = "<init>") (hK : KK D cI cB cZ s) (hP : va_P D vwCl ws H) (hD : va_D A ws) (hS : va_S A H0 H locs) (q0 : Nat) (he : ws[q0]? = some (a, .inr (13, fs))) (hl : 43 < fs.length) (hn : narrow (tyX12 43) v = v) (hfit : fits (tyX12 43) v = true) (hdg : decode cc pc = .ok (.putfield 104, 3)) (kk : ∀ (H1 : Heap) (locs1 : List Loc), va_P D vwCl (ws.set q0 (a, .inr (13, fs.set 43 v))) H1 → va_D A (ws.set q0 (a, .inr (13, fs.set 43 v))) → va_S A H0 H1 locs1 → W p l e R s m args below meth c H1 locs1 cells slots Q (F0 m (pc + 3) ls rest)) : W p l e R s m args below meth c H locs cells slots Q (F0 m pc ls (v :: .ref a :: rest)) :=
  va_putF (C := RX12) (T := TX12) (N := 91) S.1 S.2.1 S.2.2.2.2 hin_RX12 tyX12 tyX12_ok nmX12 S.2.2.2.1 hK.1 hP hD hS q0 he rfl 43 (by decide) (S.2.2.2.2 _ (wT_t6 156 rfl rfl)) (fun _ h9 => h9) rfl hin rfl (tyX12_ok 43 (by decide)) hn hfit hl hdg kk
set_option maxRecDepth 100000 in
theorem pf_RX12_107 {p : Program} {l : Launch} {e : Env} {R : Room} {s : State} {m : MethodId} {args : Array Value} {below : List Frame} {meth : Method} {c : Code} {H : Heap} {locs : List Loc} {cells slots : Nat} {Q : State → Prop} {cc : ByteArray} {nL pc : Nat} {D : va_G} {cI cB cZ : ClassId} {ws : va_W} {rest : List Value} {ls : Array Slot} {a : Nat} {fs : List Value} {v : Value} {A : Nat → Prop} {H0 : Heap} (S : SF p m c cc nL s args RX12) (hin : meth.name = "<init>") (hK : KK D cI cB cZ s) (hP : va_P D vwCl ws H) (hD : va_D A ws) (hS : va_S A H0 H locs) (q0 : Nat) (he : ws[q0]? = some (a, .inr (13, fs))) (hl : 47 < fs.length) (hn : narrow (tyX12 47) v = v) (hfit : fits (tyX12 47) v = true) (hdg : decode cc pc = .ok (.putfield 107, 3)) (kk : ∀ (H1 : Heap) (locs1 : List Loc), va_P D vwCl (ws.set q0 (a, .inr (13, fs.set 47 v))) H1 → va_D A (ws.set q0 (a, .inr (13, fs.set 47 v))) → va_S A H0 H1 locs1 → W p l e R s m args below meth c H1 locs1 cells slots Q (F0 m (pc + 3) ls rest)) : W p l e R s m args below meth c H locs cells slots Q (F0 m pc ls (v :: .ref a :: rest)) :=
  va_putF (C := RX12) (T := TX12) (N := 91) S.1 S.2.1 S.2.2.2.2 hin_RX12 tyX12 tyX12_ok nmX12 S.2.2.2.1 hK.1 hP hD hS q0 he rfl 47 (by decide) (S.2.2.2.2 _ (wT_t6 160 rfl rfl)) (fun _ h9 => h9) rfl hin rfl (tyX12_ok 47 (by decide)) hn hfit hl hdg kk
set_option maxRecDepth 100000 in
theorem pf_RX12_110 {p : Program} {l : Launch} {e : Env} {R : Room} {s : State} {m : MethodId} {args : Array Value} {below : List Frame} {meth : Method} {c : Code} {H : Heap} {locs : List Loc} {cells slots : Nat} {Q : State → Prop} {cc : ByteArray} {nL pc : Nat} {D : va_G} {cI cB cZ : ClassId} {ws : va_W} {rest : List Value} {ls : Array Slot} {a : Nat} {fs : List Value} {v : Value} {A : Nat → Prop} {H0 : Heap} (S : SF p m c cc nL s args RX12) (hin : meth.name = "<init>") (hK : KK D cI cB cZ s) (hP : va_P D vwCl ws H) (hD : va_D A ws) (hS : va_S A H0 H locs) (q0 : Nat) (he : ws[q0]? = some (a, .inr (13, fs))) (hl : 48 < fs.length) (hn : narrow (tyX12 48) v = v) (hfit : fits (tyX12 48) v = true) (hdg : decode cc pc = .ok (.putfield 110, 3)) (kk : ∀ (H1 : Heap) (locs1 : List Loc), va_P D vwCl (ws.set q0 (a, .inr (13, fs.set 48 v))) H1 → va_D A (ws.set q0 (a, .inr (13, fs.set 48 v))) → va_S A H0 H1 locs1 → W p l e R s m args below meth c H1 locs1 cells slots Q (F0 m (pc + 3) ls rest)) : W p l e R s m args below meth c H locs cells slots Q (F0 m pc ls (v :: .ref a :: rest)) :=
  va_putF (C := RX12) (T := TX12) (N := 91) S.1 S.2.1 S.2.2.2.2 hin_RX12 tyX12 tyX12_ok nmX12 S.2.2.2.1 hK.1 hP hD hS q0 he rfl 48 (by decide) (S.2.2.2.2 _ (wT_t6 161 rfl rfl)) (fun _ h9 => h9) rfl hin rfl (tyX12_ok 48 (by decide)) hn hfit hl hdg kk
set_option maxRecDepth 100000 in
theorem pf_RX12_113 {p : Program} {l : Launch} {e : Env} {R : Room} {s : State} {m : MethodId} {args : Array Value} {below : List Frame} {meth : Method} {c : Code} {H : Heap} {locs : List Loc} {cells slots : Nat} {Q : State → Prop} {cc : ByteArray} {nL pc : Nat} {D : va_G} {cI cB cZ : ClassId} {ws : va_W} {rest : List Value} {ls : Array Slot} {a : Nat} {fs : List Value} {v : Value} {A : Nat → Prop} {H0 : Heap} (S : SF p m c cc nL s args RX12) (hin : meth.name = "<init>") (hK : KK D cI cB cZ s) (hP : va_P D vwCl ws H) (hD : va_D A ws) (hS : va_S A H0 H locs) (q0 : Nat) (he : ws[q0]? = some (a, .inr (13, fs))) (hl : 49 < fs.length) (hn : narrow (tyX12 49) v = v) (hfit : fits (tyX12 49) v = true) (hdg : decode cc pc = .ok (.putfield 113, 3)) (kk : ∀ (H1 : Heap) (locs1 : List Loc), va_P D vwCl (ws.set q0 (a, .inr (13, fs.set 49 v))) H1 → va_D A (ws.set q0 (a, .inr (13, fs.set 49 v))) → va_S A H0 H1 locs1 → W p l e R s m args below meth c H1 locs1 cells slots Q (F0 m (pc + 3) ls rest)) : W p l e R s m args below meth c H locs cells slots Q (F0 m pc ls (v :: .ref a :: rest)) :=
  va_putF (C := RX12) (T := TX12) (N := 91) S.1 S.2.1 S.2.2.2.2 hin_RX12 tyX12 tyX12_ok nmX12 S.2.2.2.1 hK.1 hP hD hS q0 he rfl 49 (by decide) (S.2.2.2.2 _ (wT_t6 162 rfl rfl)) (fun _ h9 => h9) rfl hin rfl (tyX12_ok 49 (by decide)) hn hfit hl hdg kk
set_option maxRecDepth 100000 in
theorem pf_RX12_116 {p : Program} {l : Launch} {e : Env} {R : Room} {s : State} {m : MethodId} {args : Array Value} {below : List Frame} {meth : Method} {c : Code} {H : Heap} {locs : List Loc} {cells slots : Nat} {Q : State → Prop} {cc : ByteArray} {nL pc : Nat} {D : va_G} {cI cB cZ : ClassId} {ws : va_W} {rest : List Value} {ls : Array Slot} {a : Nat} {fs : List Value} {v : Value} {A : Nat → Prop} {H0 : Heap} (S : SF p m c cc nL s args RX12) (hin : meth.name = "<init>") (hK : KK D cI cB cZ s) (hP : va_P D vwCl ws H) (hD : va_D A ws) (hS : va_S A H0 H locs) (q0 : Nat) (he : ws[q0]? = some (a, .inr (13, fs))) (hl : 50 < fs.length) (hn : narrow (tyX12 50) v = v) (hfit : fits (tyX12 50) v = true) (hdg : decode cc pc = .ok (.putfield 116, 3)) (kk : ∀ (H1 : Heap) (locs1 : List Loc), va_P D vwCl (ws.set q0 (a, .inr (13, fs.set 50 v))) H1 → va_D A (ws.set q0 (a, .inr (13, fs.set 50 v))) → va_S A H0 H1 locs1 → W p l e R s m args below meth c H1 locs1 cells slots Q (F0 m (pc + 3) ls rest)) : W p l e R s m args below meth c H locs cells slots Q (F0 m pc ls (v :: .ref a :: rest)) :=
  va_putF (C := RX12) (T := TX12) (N := 91) S.1 S.2.1 S.2.2.2.2 hin_RX12 tyX12 tyX12_ok nmX12 S.2.2.2.1 hK.1 hP hD hS q0 he rfl 50 (by decide) (S.2.2.2.2 _ (wT_t6 163 rfl rfl)) (fun _ h9 => h9) rfl hin rfl (tyX12_ok 50 (by decide)) hn hfit hl hdg kk
set_option maxRecDepth 100000 in
theorem pf_RX12_119 {p : Program} {l : Launch} {e : Env} {R : Room} {s : State} {m : MethodId} {args : Array Value} {below : List Frame} {meth : Method} {c : Code} {H : Heap} {locs : List Loc} {cells slots : Nat} {Q : State → Prop} {cc : ByteArray} {nL pc : Nat} {D : va_G} {cI cB cZ : ClassId} {ws : va_W} {rest : List Value} {ls : Array Slot} {a : Nat} {fs : List Value} {v : Value} {A : Nat → Prop} {H0 : Heap} (S : SF p m c cc nL s args RX12) (hin : meth.name = "<init>") (hK : KK D cI cB cZ s) (hP : va_P D vwCl ws H) (hD : va_D A ws) (hS : va_S A H0 H locs) (q0 : Nat) (he : ws[q0]? = some (a, .inr (13, fs))) (hl : 51 < fs.length) (hn : narrow (tyX12 51) v = v) (hfit : fits (tyX12 51) v = true) (hdg : decode cc pc = .ok (.putfield 119, 3)) (kk : ∀ (H1 : Heap) (locs1 : List Loc), va_P D vwCl (ws.set q0 (a, .inr (13, fs.set 51 v))) H1 → va_D A (ws.set q0 (a, .inr (13, fs.set 51 v))) → va_S A H0 H1 locs1 → W p l e R s m args below meth c H1 locs1 cells slots Q (F0 m (pc + 3) ls rest)) : W p l e R s m args below meth c H locs cells slots Q (F0 m pc ls (v :: .ref a :: rest)) :=
  va_putF (C := RX12) (T := TX12) (N := 91) S.1 S.2.1 S.2.2.2.2 hin_RX12 tyX12 tyX12_ok nmX12 S.2.2.2.1 hK.1 hP hD hS q0 he rfl 51 (by decide) (S.2.2.2.2 _ (wT_t6 164 rfl rfl)) (fun _ h9 => h9) rfl hin rfl (tyX12_ok 51 (by decide)) hn hfit hl hdg kk
set_option maxRecDepth 100000 in
theorem pf_RX12_122 {p : Program} {l : Launch} {e : Env} {R : Room} {s : State} {m : MethodId} {args : Array Value} {below : List Frame} {meth : Method} {c : Code} {H : Heap} {locs : List Loc} {cells slots : Nat} {Q : State → Prop} {cc : ByteArray} {nL pc : Nat} {D : va_G} {cI cB cZ : ClassId} {ws : va_W} {rest : List Value} {ls : Array Slot} {a : Nat} {fs : List Value} {v : Value} {A : Nat → Prop} {H0 : Heap} (S : SF p m c cc nL s args RX12) (hin : meth.name = "<init>") (hK : KK D cI cB cZ s) (hP : va_P D vwCl ws H) (hD : va_D A ws) (hS : va_S A H0 H locs) (q0 : Nat) (he : ws[q0]? = some (a, .inr (13, fs))) (hl : 52 < fs.length) (hn : narrow (tyX12 52) v = v) (hfit : fits (tyX12 52) v = true) (hdg : decode cc pc = .ok (.putfield 122, 3)) (kk : ∀ (H1 : Heap) (locs1 : List Loc), va_P D vwCl (ws.set q0 (a, .inr (13, fs.set 52 v))) H1 → va_D A (ws.set q0 (a, .inr (13, fs.set 52 v))) → va_S A H0 H1 locs1 → W p l e R s m args below meth c H1 locs1 cells slots Q (F0 m (pc + 3) ls rest)) : W p l e R s m args below meth c H locs cells slots Q (F0 m pc ls (v :: .ref a :: rest)) :=
  va_putF (C := RX12) (T := TX12) (N := 91) S.1 S.2.1 S.2.2.2.2 hin_RX12 tyX12 tyX12_ok nmX12 S.2.2.2.1 hK.1 hP hD hS q0 he rfl 52 (by decide) (S.2.2.2.2 _ (wT_t6 165 rfl rfl)) (fun _ h9 => h9) rfl hin rfl (tyX12_ok 52 (by decide)) hn hfit hl hdg kk
set_option maxRecDepth 100000 in
theorem pf_RX12_125 {p : Program} {l : Launch} {e : Env} {R : Room} {s : State} {m : MethodId} {args : Array Value} {below : List Frame} {meth : Method} {c : Code} {H : Heap} {locs : List Loc} {cells slots : Nat} {Q : State → Prop} {cc : ByteArray} {nL pc : Nat} {D : va_G} {cI cB cZ : ClassId} {ws : va_W} {rest : List Value} {ls : Array Slot} {a : Nat} {fs : List Value} {v : Value} {A : Nat → Prop} {H0 : Heap} (S : SF p m c cc nL s args RX12) (hin : meth.name = "<init>") (hK : KK D cI cB cZ s) (hP : va_P D vwCl ws H) (hD : va_D A ws) (hS : va_S A H0 H locs) (q0 : Nat) (he : ws[q0]? = some (a, .inr (13, fs))) (hl : 53 < fs.length) (hn : narrow (tyX12 53) v = v) (hfit : fits (tyX12 53) v = true) (hdg : decode cc pc = .ok (.putfield 125, 3)) (kk : ∀ (H1 : Heap) (locs1 : List Loc), va_P D vwCl (ws.set q0 (a, .inr (13, fs.set 53 v))) H1 → va_D A (ws.set q0 (a, .inr (13, fs.set 53 v))) → va_S A H0 H1 locs1 → W p l e R s m args below meth c H1 locs1 cells slots Q (F0 m (pc + 3) ls rest)) : W p l e R s m args below meth c H locs cells slots Q (F0 m pc ls (v :: .ref a :: rest)) :=
  va_putF (C := RX12) (T := TX12) (N := 91) S.1 S.2.1 S.2.2.2.2 hin_RX12 tyX12 tyX12_ok nmX12 S.2.2.2.1 hK.1 hP hD hS q0 he rfl 53 (by decide) (S.2.2.2.2 _ (wT_t6 166 rfl rfl)) (fun _ h9 => h9) rfl hin rfl (tyX12_ok 53 (by decide)) hn hfit hl hdg kk
set_option maxRecDepth 100000 in
theorem pf_RX12_129 {p : Program} {l : Launch} {e : Env} {R : Room} {s : State} {m : MethodId} {args : Array Value} {below : List Frame} {meth : Method} {c : Code} {H : Heap} {locs : List Loc} {cells slots : Nat} {Q : State → Prop} {cc : ByteArray} {nL pc : Nat} {D : va_G} {cI cB cZ : ClassId} {ws : va_W} {rest : List Value} {ls : Array Slot} {a : Nat} {fs : List Value} {v : Value} {A : Nat → Prop} {H0 : Heap} (S : SF p m c cc nL s args RX12) (hin : meth.name = "<init>") (hK : KK D cI cB cZ s) (hP : va_P D vwCl ws H) (hD : va_D A ws) (hS : va_S A H0 H locs) (q0 : Nat) (he : ws[q0]? = some (a, .inr (13, fs))) (hl : 59 < fs.length) (hn : narrow (tyX12 59) v = v) (hfit : fits (tyX12 59) v = true) (hdg : decode cc pc = .ok (.putfield 129, 3)) (kk : ∀ (H1 : Heap) (locs1 : List Loc), va_P D vwCl (ws.set q0 (a, .inr (13, fs.set 59 v))) H1 → va_D A (ws.set q0 (a, .inr (13, fs.set 59 v))) → va_S A H0 H1 locs1 → W p l e R s m args below meth c H1 locs1 cells slots Q (F0 m (pc + 3) ls rest)) : W p l e R s m args below meth c H locs cells slots Q (F0 m pc ls (v :: .ref a :: rest)) :=
  va_putF (C := RX12) (T := TX12) (N := 91) S.1 S.2.1 S.2.2.2.2 hin_RX12 tyX12 tyX12_ok nmX12 S.2.2.2.1 hK.1 hP hD hS q0 he rfl 59 (by decide) (S.2.2.2.2 _ (wT_t6 172 rfl rfl)) (fun _ h9 => h9) rfl hin rfl (tyX12_ok 59 (by decide)) hn hfit hl hdg kk
set_option maxRecDepth 100000 in
theorem pf_RX12_132 {p : Program} {l : Launch} {e : Env} {R : Room} {s : State} {m : MethodId} {args : Array Value} {below : List Frame} {meth : Method} {c : Code} {H : Heap} {locs : List Loc} {cells slots : Nat} {Q : State → Prop} {cc : ByteArray} {nL pc : Nat} {D : va_G} {cI cB cZ : ClassId} {ws : va_W} {rest : List Value} {ls : Array Slot} {a : Nat} {fs : List Value} {v : Value} {A : Nat → Prop} {H0 : Heap} (S : SF p m c cc nL s args RX12) (hin : meth.name = "<init>") (hK : KK D cI cB cZ s) (hP : va_P D vwCl ws H) (hD : va_D A ws) (hS : va_S A H0 H locs) (q0 : Nat) (he : ws[q0]? = some (a, .inr (13, fs))) (hl : 60 < fs.length) (hn : narrow (tyX12 60) v = v) (hfit : fits (tyX12 60) v = true) (hdg : decode cc pc = .ok (.putfield 132, 3)) (kk : ∀ (H1 : Heap) (locs1 : List Loc), va_P D vwCl (ws.set q0 (a, .inr (13, fs.set 60 v))) H1 → va_D A (ws.set q0 (a, .inr (13, fs.set 60 v))) → va_S A H0 H1 locs1 → W p l e R s m args below meth c H1 locs1 cells slots Q (F0 m (pc + 3) ls rest)) : W p l e R s m args below meth c H locs cells slots Q (F0 m pc ls (v :: .ref a :: rest)) :=
  va_putF (C := RX12) (T := TX12) (N := 91) S.1 S.2.1 S.2.2.2.2 hin_RX12 tyX12 tyX12_ok nmX12 S.2.2.2.1 hK.1 hP hD hS q0 he rfl 60 (by decide) (S.2.2.2.2 _ (wT_t6 173 rfl rfl)) (fun _ h9 => h9) rfl hin rfl (tyX12_ok 60 (by decide)) hn hfit hl hdg kk
set_option maxRecDepth 100000 in
theorem pf_RX12_135 {p : Program} {l : Launch} {e : Env} {R : Room} {s : State} {m : MethodId} {args : Array Value} {below : List Frame} {meth : Method} {c : Code} {H : Heap} {locs : List Loc} {cells slots : Nat} {Q : State → Prop} {cc : ByteArray} {nL pc : Nat} {D : va_G} {cI cB cZ : ClassId} {ws : va_W} {rest : List Value} {ls : Array Slot} {a : Nat} {fs : List Value} {v : Value} {A : Nat → Prop} {H0 : Heap} (S : SF p m c cc nL s args RX12) (hin : meth.name = "<init>") (hK : KK D cI cB cZ s) (hP : va_P D vwCl ws H) (hD : va_D A ws) (hS : va_S A H0 H locs) (q0 : Nat) (he : ws[q0]? = some (a, .inr (13, fs))) (hl : 61 < fs.length) (hn : narrow (tyX12 61) v = v) (hfit : fits (tyX12 61) v = true) (hdg : decode cc pc = .ok (.putfield 135, 3)) (kk : ∀ (H1 : Heap) (locs1 : List Loc), va_P D vwCl (ws.set q0 (a, .inr (13, fs.set 61 v))) H1 → va_D A (ws.set q0 (a, .inr (13, fs.set 61 v))) → va_S A H0 H1 locs1 → W p l e R s m args below meth c H1 locs1 cells slots Q (F0 m (pc + 3) ls rest)) : W p l e R s m args below meth c H locs cells slots Q (F0 m pc ls (v :: .ref a :: rest)) :=
  va_putF (C := RX12) (T := TX12) (N := 91) S.1 S.2.1 S.2.2.2.2 hin_RX12 tyX12 tyX12_ok nmX12 S.2.2.2.1 hK.1 hP hD hS q0 he rfl 61 (by decide) (S.2.2.2.2 _ (wT_t6 174 rfl rfl)) (fun _ h9 => h9) rfl hin rfl (tyX12_ok 61 (by decide)) hn hfit hl hdg kk
set_option maxRecDepth 100000 in
theorem pf_RX12_138 {p : Program} {l : Launch} {e : Env} {R : Room} {s : State} {m : MethodId} {args : Array Value} {below : List Frame} {meth : Method} {c : Code} {H : Heap} {locs : List Loc} {cells slots : Nat} {Q : State → Prop} {cc : ByteArray} {nL pc : Nat} {D : va_G} {cI cB cZ : ClassId} {ws : va_W} {rest : List Value} {ls : Array Slot} {a : Nat} {fs : List Value} {v : Value} {A : Nat → Prop} {H0 : Heap} (S : SF p m c cc nL s args RX12) (hin : meth.name = "<init>") (hK : KK D cI cB cZ s) (hP : va_P D vwCl ws H) (hD : va_D A ws) (hS : va_S A H0 H locs) (q0 : Nat) (he : ws[q0]? = some (a, .inr (13, fs))) (hl : 64 < fs.length) (hn : narrow (tyX12 64) v = v) (hfit : fits (tyX12 64) v = true) (hdg : decode cc pc = .ok (.putfield 138, 3)) (kk : ∀ (H1 : Heap) (locs1 : List Loc), va_P D vwCl (ws.set q0 (a, .inr (13, fs.set 64 v))) H1 → va_D A (ws.set q0 (a, .inr (13, fs.set 64 v))) → va_S A H0 H1 locs1 → W p l e R s m args below meth c H1 locs1 cells slots Q (F0 m (pc + 3) ls rest)) : W p l e R s m args below meth c H locs cells slots Q (F0 m pc ls (v :: .ref a :: rest)) :=
  va_putF (C := RX12) (T := TX12) (N := 91) S.1 S.2.1 S.2.2.2.2 hin_RX12 tyX12 tyX12_ok nmX12 S.2.2.2.1 hK.1 hP hD hS q0 he rfl 64 (by decide) (S.2.2.2.2 _ (wT_t6 177 rfl rfl)) (fun _ h9 => h9) rfl hin rfl (tyX12_ok 64 (by decide)) hn hfit hl hdg kk
set_option maxRecDepth 100000 in
theorem pf_RX12_141 {p : Program} {l : Launch} {e : Env} {R : Room} {s : State} {m : MethodId} {args : Array Value} {below : List Frame} {meth : Method} {c : Code} {H : Heap} {locs : List Loc} {cells slots : Nat} {Q : State → Prop} {cc : ByteArray} {nL pc : Nat} {D : va_G} {cI cB cZ : ClassId} {ws : va_W} {rest : List Value} {ls : Array Slot} {a : Nat} {fs : List Value} {v : Value} {A : Nat → Prop} {H0 : Heap} (S : SF p m c cc nL s args RX12) (hin : meth.name = "<init>") (hK : KK D cI cB cZ s) (hP : va_P D vwCl ws H) (hD : va_D A ws) (hS : va_S A H0 H locs) (q0 : Nat) (he : ws[q0]? = some (a, .inr (13, fs))) (hl : 65 < fs.length) (hn : narrow (tyX12 65) v = v) (hfit : fits (tyX12 65) v = true) (hdg : decode cc pc = .ok (.putfield 141, 3)) (kk : ∀ (H1 : Heap) (locs1 : List Loc), va_P D vwCl (ws.set q0 (a, .inr (13, fs.set 65 v))) H1 → va_D A (ws.set q0 (a, .inr (13, fs.set 65 v))) → va_S A H0 H1 locs1 → W p l e R s m args below meth c H1 locs1 cells slots Q (F0 m (pc + 3) ls rest)) : W p l e R s m args below meth c H locs cells slots Q (F0 m pc ls (v :: .ref a :: rest)) :=
  va_putF (C := RX12) (T := TX12) (N := 91) S.1 S.2.1 S.2.2.2.2 hin_RX12 tyX12 tyX12_ok nmX12 S.2.2.2.1 hK.1 hP hD hS q0 he rfl 65 (by decide) (S.2.2.2.2 _ (wT_t6 178 rfl rfl)) (fun _ h9 => h9) rfl hin rfl (tyX12_ok 65 (by decide)) hn hfit hl hdg kk
set_option maxRecDepth 100000 in
theorem pf_RX12_144 {p : Program} {l : Launch} {e : Env} {R : Room} {s : State} {m : MethodId} {args : Array Value} {below : List Frame} {meth : Method} {c : Code} {H : Heap} {locs : List Loc} {cells slots : Nat} {Q : State → Prop} {cc : ByteArray} {nL pc : Nat} {D : va_G} {cI cB cZ : ClassId} {ws : va_W} {rest : List Value} {ls : Array Slot} {a : Nat} {fs : List Value} {v : Value} {A : Nat → Prop} {H0 : Heap} (S : SF p m c cc nL s args RX12) (hin : meth.name = "<init>") (hK : KK D cI cB cZ s) (hP : va_P D vwCl ws H) (hD : va_D A ws) (hS : va_S A H0 H locs) (q0 : Nat) (he : ws[q0]? = some (a, .inr (13, fs))) (hl : 66 < fs.length) (hn : narrow (tyX12 66) v = v) (hfit : fits (tyX12 66) v = true) (hdg : decode cc pc = .ok (.putfield 144, 3)) (kk : ∀ (H1 : Heap) (locs1 : List Loc), va_P D vwCl (ws.set q0 (a, .inr (13, fs.set 66 v))) H1 → va_D A (ws.set q0 (a, .inr (13, fs.set 66 v))) → va_S A H0 H1 locs1 → W p l e R s m args below meth c H1 locs1 cells slots Q (F0 m (pc + 3) ls rest)) : W p l e R s m args below meth c H locs cells slots Q (F0 m pc ls (v :: .ref a :: rest)) :=
  va_putF (C := RX12) (T := TX12) (N := 91) S.1 S.2.1 S.2.2.2.2 hin_RX12 tyX12 tyX12_ok nmX12 S.2.2.2.1 hK.1 hP hD hS q0 he rfl 66 (by decide) (S.2.2.2.2 _ (wT_t6 179 rfl rfl)) (fun _ h9 => h9) rfl hin rfl (tyX12_ok 66 (by decide)) hn hfit hl hdg kk
set_option maxRecDepth 100000 in
theorem pf_RX12_147 {p : Program} {l : Launch} {e : Env} {R : Room} {s : State} {m : MethodId} {args : Array Value} {below : List Frame} {meth : Method} {c : Code} {H : Heap} {locs : List Loc} {cells slots : Nat} {Q : State → Prop} {cc : ByteArray} {nL pc : Nat} {D : va_G} {cI cB cZ : ClassId} {ws : va_W} {rest : List Value} {ls : Array Slot} {a : Nat} {fs : List Value} {v : Value} {A : Nat → Prop} {H0 : Heap} (S : SF p m c cc nL s args RX12) (hin : meth.name = "<init>") (hK : KK D cI cB cZ s) (hP : va_P D vwCl ws H) (hD : va_D A ws) (hS : va_S A H0 H locs) (q0 : Nat) (he : ws[q0]? = some (a, .inr (13, fs))) (hl : 67 < fs.length) (hn : narrow (tyX12 67) v = v) (hfit : fits (tyX12 67) v = true) (hdg : decode cc pc = .ok (.putfield 147, 3)) (kk : ∀ (H1 : Heap) (locs1 : List Loc), va_P D vwCl (ws.set q0 (a, .inr (13, fs.set 67 v))) H1 → va_D A (ws.set q0 (a, .inr (13, fs.set 67 v))) → va_S A H0 H1 locs1 → W p l e R s m args below meth c H1 locs1 cells slots Q (F0 m (pc + 3) ls rest)) : W p l e R s m args below meth c H locs cells slots Q (F0 m pc ls (v :: .ref a :: rest)) :=
  va_putF (C := RX12) (T := TX12) (N := 91) S.1 S.2.1 S.2.2.2.2 hin_RX12 tyX12 tyX12_ok nmX12 S.2.2.2.1 hK.1 hP hD hS q0 he rfl 67 (by decide) (S.2.2.2.2 _ (wT_t6 180 rfl rfl)) (fun _ h9 => h9) rfl hin rfl (tyX12_ok 67 (by decide)) hn hfit hl hdg kk
set_option maxRecDepth 100000 in
theorem pf_RX12_150 {p : Program} {l : Launch} {e : Env} {R : Room} {s : State} {m : MethodId} {args : Array Value} {below : List Frame} {meth : Method} {c : Code} {H : Heap} {locs : List Loc} {cells slots : Nat} {Q : State → Prop} {cc : ByteArray} {nL pc : Nat} {D : va_G} {cI cB cZ : ClassId} {ws : va_W} {rest : List Value} {ls : Array Slot} {a : Nat} {fs : List Value} {v : Value} {A : Nat → Prop} {H0 : Heap} (S : SF p m c cc nL s args RX12) (hin : meth.name = "<init>") (hK : KK D cI cB cZ s) (hP : va_P D vwCl ws H) (hD : va_D A ws) (hS : va_S A H0 H locs) (q0 : Nat) (he : ws[q0]? = some (a, .inr (13, fs))) (hl : 68 < fs.length) (hn : narrow (tyX12 68) v = v) (hfit : fits (tyX12 68) v = true) (hdg : decode cc pc = .ok (.putfield 150, 3)) (kk : ∀ (H1 : Heap) (locs1 : List Loc), va_P D vwCl (ws.set q0 (a, .inr (13, fs.set 68 v))) H1 → va_D A (ws.set q0 (a, .inr (13, fs.set 68 v))) → va_S A H0 H1 locs1 → W p l e R s m args below meth c H1 locs1 cells slots Q (F0 m (pc + 3) ls rest)) : W p l e R s m args below meth c H locs cells slots Q (F0 m pc ls (v :: .ref a :: rest)) :=
  va_putF (C := RX12) (T := TX12) (N := 91) S.1 S.2.1 S.2.2.2.2 hin_RX12 tyX12 tyX12_ok nmX12 S.2.2.2.1 hK.1 hP hD hS q0 he rfl 68 (by decide) (S.2.2.2.2 _ (wT_t6 181 rfl rfl)) (fun _ h9 => h9) rfl hin rfl (tyX12_ok 68 (by decide)) hn hfit hl hdg kk
set_option maxRecDepth 100000 in
theorem pf_RX12_153 {p : Program} {l : Launch} {e : Env} {R : Room} {s : State} {m : MethodId} {args : Array Value} {below : List Frame} {meth : Method} {c : Code} {H : Heap} {locs : List Loc} {cells slots : Nat} {Q : State → Prop} {cc : ByteArray} {nL pc : Nat} {D : va_G} {cI cB cZ : ClassId} {ws : va_W} {rest : List Value} {ls : Array Slot} {a : Nat} {fs : List Value} {v : Value} {A : Nat → Prop} {H0 : Heap} (S : SF p m c cc nL s args RX12) (hin : meth.name = "<init>") (hK : KK D cI cB cZ s) (hP : va_P D vwCl ws H) (hD : va_D A ws) (hS : va_S A H0 H locs) (q0 : Nat) (he : ws[q0]? = some (a, .inr (13, fs))) (hl : 69 < fs.length) (hn : narrow (tyX12 69) v = v) (hfit : fits (tyX12 69) v = true) (hdg : decode cc pc = .ok (.putfield 153, 3)) (kk : ∀ (H1 : Heap) (locs1 : List Loc), va_P D vwCl (ws.set q0 (a, .inr (13, fs.set 69 v))) H1 → va_D A (ws.set q0 (a, .inr (13, fs.set 69 v))) → va_S A H0 H1 locs1 → W p l e R s m args below meth c H1 locs1 cells slots Q (F0 m (pc + 3) ls rest)) : W p l e R s m args below meth c H locs cells slots Q (F0 m pc ls (v :: .ref a :: rest)) :=
  va_putF (C := RX12) (T := TX12) (N := 91) S.1 S.2.1 S.2.2.2.2 hin_RX12 tyX12 tyX12_ok nmX12 S.2.2.2.1 hK.1 hP hD hS q0 he rfl 69 (by decide) (S.2.2.2.2 _ (wT_t6 182 rfl rfl)) (fun _ h9 => h9) rfl hin rfl (tyX12_ok 69 (by decide)) hn hfit hl hdg kk
set_option maxRecDepth 100000 in
theorem pf_RX12_156 {p : Program} {l : Launch} {e : Env} {R : Room} {s : State} {m : MethodId} {args : Array Value} {below : List Frame} {meth : Method} {c : Code} {H : Heap} {locs : List Loc} {cells slots : Nat} {Q : State → Prop} {cc : ByteArray} {nL pc : Nat} {D : va_G} {cI cB cZ : ClassId} {ws : va_W} {rest : List Value} {ls : Array Slot} {a : Nat} {fs : List Value} {v : Value} {A : Nat → Prop} {H0 : Heap} (S : SF p m c cc nL s args RX12) (hin : meth.name = "<init>") (hK : KK D cI cB cZ s) (hP : va_P D vwCl ws H) (hD : va_D A ws) (hS : va_S A H0 H locs) (q0 : Nat) (he : ws[q0]? = some (a, .inr (13, fs))) (hl : 70 < fs.length) (hn : narrow (tyX12 70) v = v) (hfit : fits (tyX12 70) v = true) (hdg : decode cc pc = .ok (.putfield 156, 3)) (kk : ∀ (H1 : Heap) (locs1 : List Loc), va_P D vwCl (ws.set q0 (a, .inr (13, fs.set 70 v))) H1 → va_D A (ws.set q0 (a, .inr (13, fs.set 70 v))) → va_S A H0 H1 locs1 → W p l e R s m args below meth c H1 locs1 cells slots Q (F0 m (pc + 3) ls rest)) : W p l e R s m args below meth c H locs cells slots Q (F0 m pc ls (v :: .ref a :: rest)) :=
  va_putF (C := RX12) (T := TX12) (N := 91) S.1 S.2.1 S.2.2.2.2 hin_RX12 tyX12 tyX12_ok nmX12 S.2.2.2.1 hK.1 hP hD hS q0 he rfl 70 (by decide) (S.2.2.2.2 _ (wT_t6 183 rfl rfl)) (fun _ h9 => h9) rfl hin rfl (tyX12_ok 70 (by decide)) hn hfit hl hdg kk
set_option maxRecDepth 100000 in
theorem pf_RX12_159 {p : Program} {l : Launch} {e : Env} {R : Room} {s : State} {m : MethodId} {args : Array Value} {below : List Frame} {meth : Method} {c : Code} {H : Heap} {locs : List Loc} {cells slots : Nat} {Q : State → Prop} {cc : ByteArray} {nL pc : Nat} {D : va_G} {cI cB cZ : ClassId} {ws : va_W} {rest : List Value} {ls : Array Slot} {a : Nat} {fs : List Value} {v : Value} {A : Nat → Prop} {H0 : Heap} (S : SF p m c cc nL s args RX12) (hin : meth.name = "<init>") (hK : KK D cI cB cZ s) (hP : va_P D vwCl ws H) (hD : va_D A ws) (hS : va_S A H0 H locs) (q0 : Nat) (he : ws[q0]? = some (a, .inr (13, fs))) (hl : 74 < fs.length) (hn : narrow (tyX12 74) v = v) (hfit : fits (tyX12 74) v = true) (hdg : decode cc pc = .ok (.putfield 159, 3)) (kk : ∀ (H1 : Heap) (locs1 : List Loc), va_P D vwCl (ws.set q0 (a, .inr (13, fs.set 74 v))) H1 → va_D A (ws.set q0 (a, .inr (13, fs.set 74 v))) → va_S A H0 H1 locs1 → W p l e R s m args below meth c H1 locs1 cells slots Q (F0 m (pc + 3) ls rest)) : W p l e R s m args below meth c H locs cells slots Q (F0 m pc ls (v :: .ref a :: rest)) :=
  va_putF (C := RX12) (T := TX12) (N := 91) S.1 S.2.1 S.2.2.2.2 hin_RX12 tyX12 tyX12_ok nmX12 S.2.2.2.1 hK.1 hP hD hS q0 he rfl 74 (by decide) (S.2.2.2.2 _ (wT_t6 187 rfl rfl)) (fun _ h9 => h9) rfl hin rfl (tyX12_ok 74 (by decide)) hn hfit hl hdg kk
set_option maxRecDepth 100000 in
theorem pf_RX12_162 {p : Program} {l : Launch} {e : Env} {R : Room} {s : State} {m : MethodId} {args : Array Value} {below : List Frame} {meth : Method} {c : Code} {H : Heap} {locs : List Loc} {cells slots : Nat} {Q : State → Prop} {cc : ByteArray} {nL pc : Nat} {D : va_G} {cI cB cZ : ClassId} {ws : va_W} {rest : List Value} {ls : Array Slot} {a : Nat} {fs : List Value} {v : Value} {A : Nat → Prop} {H0 : Heap} (S : SF p m c cc nL s args RX12) (hin : meth.name = "<init>") (hK : KK D cI cB cZ s) (hP : va_P D vwCl ws H) (hD : va_D A ws) (hS : va_S A H0 H locs) (q0 : Nat) (he : ws[q0]? = some (a, .inr (13, fs))) (hl : 76 < fs.length) (hn : narrow (tyX12 76) v = v) (hfit : fits (tyX12 76) v = true) (hdg : decode cc pc = .ok (.putfield 162, 3)) (kk : ∀ (H1 : Heap) (locs1 : List Loc), va_P D vwCl (ws.set q0 (a, .inr (13, fs.set 76 v))) H1 → va_D A (ws.set q0 (a, .inr (13, fs.set 76 v))) → va_S A H0 H1 locs1 → W p l e R s m args below meth c H1 locs1 cells slots Q (F0 m (pc + 3) ls rest)) : W p l e R s m args below meth c H locs cells slots Q (F0 m pc ls (v :: .ref a :: rest)) :=
  va_putF (C := RX12) (T := TX12) (N := 91) S.1 S.2.1 S.2.2.2.2 hin_RX12 tyX12 tyX12_ok nmX12 S.2.2.2.1 hK.1 hP hD hS q0 he rfl 76 (by decide) (S.2.2.2.2 _ (wT_t6 189 rfl rfl)) (fun _ h9 => h9) rfl hin rfl (tyX12_ok 76 (by decide)) hn hfit hl hdg kk
set_option maxRecDepth 100000 in
theorem pf_RX12_165 {p : Program} {l : Launch} {e : Env} {R : Room} {s : State} {m : MethodId} {args : Array Value} {below : List Frame} {meth : Method} {c : Code} {H : Heap} {locs : List Loc} {cells slots : Nat} {Q : State → Prop} {cc : ByteArray} {nL pc : Nat} {D : va_G} {cI cB cZ : ClassId} {ws : va_W} {rest : List Value} {ls : Array Slot} {a : Nat} {fs : List Value} {v : Value} {A : Nat → Prop} {H0 : Heap} (S : SF p m c cc nL s args RX12) (hin : meth.name = "<init>") (hK : KK D cI cB cZ s) (hP : va_P D vwCl ws H) (hD : va_D A ws) (hS : va_S A H0 H locs) (q0 : Nat) (he : ws[q0]? = some (a, .inr (13, fs))) (hl : 77 < fs.length) (hn : narrow (tyX12 77) v = v) (hfit : fits (tyX12 77) v = true) (hdg : decode cc pc = .ok (.putfield 165, 3)) (kk : ∀ (H1 : Heap) (locs1 : List Loc), va_P D vwCl (ws.set q0 (a, .inr (13, fs.set 77 v))) H1 → va_D A (ws.set q0 (a, .inr (13, fs.set 77 v))) → va_S A H0 H1 locs1 → W p l e R s m args below meth c H1 locs1 cells slots Q (F0 m (pc + 3) ls rest)) : W p l e R s m args below meth c H locs cells slots Q (F0 m pc ls (v :: .ref a :: rest)) :=
  va_putF (C := RX12) (T := TX12) (N := 91) S.1 S.2.1 S.2.2.2.2 hin_RX12 tyX12 tyX12_ok nmX12 S.2.2.2.1 hK.1 hP hD hS q0 he rfl 77 (by decide) (S.2.2.2.2 _ (wT_t6 190 rfl rfl)) (fun _ h9 => h9) rfl hin rfl (tyX12_ok 77 (by decide)) hn hfit hl hdg kk
set_option maxRecDepth 100000 in
theorem pf_RX12_168 {p : Program} {l : Launch} {e : Env} {R : Room} {s : State} {m : MethodId} {args : Array Value} {below : List Frame} {meth : Method} {c : Code} {H : Heap} {locs : List Loc} {cells slots : Nat} {Q : State → Prop} {cc : ByteArray} {nL pc : Nat} {D : va_G} {cI cB cZ : ClassId} {ws : va_W} {rest : List Value} {ls : Array Slot} {a : Nat} {fs : List Value} {v : Value} {A : Nat → Prop} {H0 : Heap} (S : SF p m c cc nL s args RX12) (hin : meth.name = "<init>") (hK : KK D cI cB cZ s) (hP : va_P D vwCl ws H) (hD : va_D A ws) (hS : va_S A H0 H locs) (q0 : Nat) (he : ws[q0]? = some (a, .inr (13, fs))) (hl : 78 < fs.length) (hn : narrow (tyX12 78) v = v) (hfit : fits (tyX12 78) v = true) (hdg : decode cc pc = .ok (.putfield 168, 3)) (kk : ∀ (H1 : Heap) (locs1 : List Loc), va_P D vwCl (ws.set q0 (a, .inr (13, fs.set 78 v))) H1 → va_D A (ws.set q0 (a, .inr (13, fs.set 78 v))) → va_S A H0 H1 locs1 → W p l e R s m args below meth c H1 locs1 cells slots Q (F0 m (pc + 3) ls rest)) : W p l e R s m args below meth c H locs cells slots Q (F0 m pc ls (v :: .ref a :: rest)) :=
  va_putF (C := RX12) (T := TX12) (N := 91) S.1 S.2.1 S.2.2.2.2 hin_RX12 tyX12 tyX12_ok nmX12 S.2.2.2.1 hK.1 hP hD hS q0 he rfl 78 (by decide) (S.2.2.2.2 _ (wT_t6 191 rfl rfl)) (fun _ h9 => h9) rfl hin rfl (tyX12_ok 78 (by decide)) hn hfit hl hdg kk
set_option maxRecDepth 100000 in
theorem pf_RX12_171 {p : Program} {l : Launch} {e : Env} {R : Room} {s : State} {m : MethodId} {args : Array Value} {below : List Frame} {meth : Method} {c : Code} {H : Heap} {locs : List Loc} {cells slots : Nat} {Q : State → Prop} {cc : ByteArray} {nL pc : Nat} {D : va_G} {cI cB cZ : ClassId} {ws : va_W} {rest : List Value} {ls : Array Slot} {a : Nat} {fs : List Value} {v : Value} {A : Nat → Prop} {H0 : Heap} (S : SF p m c cc nL s args RX12) (hin : meth.name = "<init>") (hK : KK D cI cB cZ s) (hP : va_P D vwCl ws H) (hD : va_D A ws) (hS : va_S A H0 H locs) (q0 : Nat) (he : ws[q0]? = some (a, .inr (13, fs))) (hl : 79 < fs.length) (hn : narrow (tyX12 79) v = v) (hfit : fits (tyX12 79) v = true) (hdg : decode cc pc = .ok (.putfield 171, 3)) (kk : ∀ (H1 : Heap) (locs1 : List Loc), va_P D vwCl (ws.set q0 (a, .inr (13, fs.set 79 v))) H1 → va_D A (ws.set q0 (a, .inr (13, fs.set 79 v))) → va_S A H0 H1 locs1 → W p l e R s m args below meth c H1 locs1 cells slots Q (F0 m (pc + 3) ls rest)) : W p l e R s m args below meth c H locs cells slots Q (F0 m pc ls (v :: .ref a :: rest)) :=
  va_putF (C := RX12) (T := TX12) (N := 91) S.1 S.2.1 S.2.2.2.2 hin_RX12 tyX12 tyX12_ok nmX12 S.2.2.2.1 hK.1 hP hD hS q0 he rfl 79 (by decide) (S.2.2.2.2 _ (wT_t6 192 rfl rfl)) (fun _ h9 => h9) rfl hin rfl (tyX12_ok 79 (by decide)) hn hfit hl hdg kk
set_option maxRecDepth 100000 in
theorem pf_RX12_174 {p : Program} {l : Launch} {e : Env} {R : Room} {s : State} {m : MethodId} {args : Array Value} {below : List Frame} {meth : Method} {c : Code} {H : Heap} {locs : List Loc} {cells slots : Nat} {Q : State → Prop} {cc : ByteArray} {nL pc : Nat} {D : va_G} {cI cB cZ : ClassId} {ws : va_W} {rest : List Value} {ls : Array Slot} {a : Nat} {fs : List Value} {v : Value} {A : Nat → Prop} {H0 : Heap} (S : SF p m c cc nL s args RX12) (hin : meth.name = "<init>") (hK : KK D cI cB cZ s) (hP : va_P D vwCl ws H) (hD : va_D A ws) (hS : va_S A H0 H locs) (q0 : Nat) (he : ws[q0]? = some (a, .inr (13, fs))) (hl : 80 < fs.length) (hn : narrow (tyX12 80) v = v) (hfit : fits (tyX12 80) v = true) (hdg : decode cc pc = .ok (.putfield 174, 3)) (kk : ∀ (H1 : Heap) (locs1 : List Loc), va_P D vwCl (ws.set q0 (a, .inr (13, fs.set 80 v))) H1 → va_D A (ws.set q0 (a, .inr (13, fs.set 80 v))) → va_S A H0 H1 locs1 → W p l e R s m args below meth c H1 locs1 cells slots Q (F0 m (pc + 3) ls rest)) : W p l e R s m args below meth c H locs cells slots Q (F0 m pc ls (v :: .ref a :: rest)) :=
  va_putF (C := RX12) (T := TX12) (N := 91) S.1 S.2.1 S.2.2.2.2 hin_RX12 tyX12 tyX12_ok nmX12 S.2.2.2.1 hK.1 hP hD hS q0 he rfl 80 (by decide) (S.2.2.2.2 _ (wT_t6 193 rfl rfl)) (fun _ h9 => h9) rfl hin rfl (tyX12_ok 80 (by decide)) hn hfit hl hdg kk
set_option maxRecDepth 100000 in
theorem pf_RX12_177 {p : Program} {l : Launch} {e : Env} {R : Room} {s : State} {m : MethodId} {args : Array Value} {below : List Frame} {meth : Method} {c : Code} {H : Heap} {locs : List Loc} {cells slots : Nat} {Q : State → Prop} {cc : ByteArray} {nL pc : Nat} {D : va_G} {cI cB cZ : ClassId} {ws : va_W} {rest : List Value} {ls : Array Slot} {a : Nat} {fs : List Value} {v : Value} {A : Nat → Prop} {H0 : Heap} (S : SF p m c cc nL s args RX12) (hin : meth.name = "<init>") (hK : KK D cI cB cZ s) (hP : va_P D vwCl ws H) (hD : va_D A ws) (hS : va_S A H0 H locs) (q0 : Nat) (he : ws[q0]? = some (a, .inr (13, fs))) (hl : 81 < fs.length) (hn : narrow (tyX12 81) v = v) (hfit : fits (tyX12 81) v = true) (hdg : decode cc pc = .ok (.putfield 177, 3)) (kk : ∀ (H1 : Heap) (locs1 : List Loc), va_P D vwCl (ws.set q0 (a, .inr (13, fs.set 81 v))) H1 → va_D A (ws.set q0 (a, .inr (13, fs.set 81 v))) → va_S A H0 H1 locs1 → W p l e R s m args below meth c H1 locs1 cells slots Q (F0 m (pc + 3) ls rest)) : W p l e R s m args below meth c H locs cells slots Q (F0 m pc ls (v :: .ref a :: rest)) :=
  va_putF (C := RX12) (T := TX12) (N := 91) S.1 S.2.1 S.2.2.2.2 hin_RX12 tyX12 tyX12_ok nmX12 S.2.2.2.1 hK.1 hP hD hS q0 he rfl 81 (by decide) (S.2.2.2.2 _ (wT_t6 194 rfl rfl)) (fun _ h9 => h9) rfl hin rfl (tyX12_ok 81 (by decide)) hn hfit hl hdg kk
set_option maxRecDepth 100000 in
theorem pf_RX12_180 {p : Program} {l : Launch} {e : Env} {R : Room} {s : State} {m : MethodId} {args : Array Value} {below : List Frame} {meth : Method} {c : Code} {H : Heap} {locs : List Loc} {cells slots : Nat} {Q : State → Prop} {cc : ByteArray} {nL pc : Nat} {D : va_G} {cI cB cZ : ClassId} {ws : va_W} {rest : List Value} {ls : Array Slot} {a : Nat} {fs : List Value} {v : Value} {A : Nat → Prop} {H0 : Heap} (S : SF p m c cc nL s args RX12) (hin : meth.name = "<init>") (hK : KK D cI cB cZ s) (hP : va_P D vwCl ws H) (hD : va_D A ws) (hS : va_S A H0 H locs) (q0 : Nat) (he : ws[q0]? = some (a, .inr (13, fs))) (hl : 82 < fs.length) (hn : narrow (tyX12 82) v = v) (hfit : fits (tyX12 82) v = true) (hdg : decode cc pc = .ok (.putfield 180, 3)) (kk : ∀ (H1 : Heap) (locs1 : List Loc), va_P D vwCl (ws.set q0 (a, .inr (13, fs.set 82 v))) H1 → va_D A (ws.set q0 (a, .inr (13, fs.set 82 v))) → va_S A H0 H1 locs1 → W p l e R s m args below meth c H1 locs1 cells slots Q (F0 m (pc + 3) ls rest)) : W p l e R s m args below meth c H locs cells slots Q (F0 m pc ls (v :: .ref a :: rest)) :=
  va_putF (C := RX12) (T := TX12) (N := 91) S.1 S.2.1 S.2.2.2.2 hin_RX12 tyX12 tyX12_ok nmX12 S.2.2.2.1 hK.1 hP hD hS q0 he rfl 82 (by decide) (S.2.2.2.2 _ (wT_t6 195 rfl rfl)) (fun _ h9 => h9) rfl hin rfl (tyX12_ok 82 (by decide)) hn hfit hl hdg kk
set_option maxRecDepth 100000 in
theorem pf_RX12_183 {p : Program} {l : Launch} {e : Env} {R : Room} {s : State} {m : MethodId} {args : Array Value} {below : List Frame} {meth : Method} {c : Code} {H : Heap} {locs : List Loc} {cells slots : Nat} {Q : State → Prop} {cc : ByteArray} {nL pc : Nat} {D : va_G} {cI cB cZ : ClassId} {ws : va_W} {rest : List Value} {ls : Array Slot} {a : Nat} {fs : List Value} {v : Value} {A : Nat → Prop} {H0 : Heap} (S : SF p m c cc nL s args RX12) (hin : meth.name = "<init>") (hK : KK D cI cB cZ s) (hP : va_P D vwCl ws H) (hD : va_D A ws) (hS : va_S A H0 H locs) (q0 : Nat) (he : ws[q0]? = some (a, .inr (13, fs))) (hl : 84 < fs.length) (hn : narrow (tyX12 84) v = v) (hfit : fits (tyX12 84) v = true) (hdg : decode cc pc = .ok (.putfield 183, 3)) (kk : ∀ (H1 : Heap) (locs1 : List Loc), va_P D vwCl (ws.set q0 (a, .inr (13, fs.set 84 v))) H1 → va_D A (ws.set q0 (a, .inr (13, fs.set 84 v))) → va_S A H0 H1 locs1 → W p l e R s m args below meth c H1 locs1 cells slots Q (F0 m (pc + 3) ls rest)) : W p l e R s m args below meth c H locs cells slots Q (F0 m pc ls (v :: .ref a :: rest)) :=
  va_putF (C := RX12) (T := TX12) (N := 91) S.1 S.2.1 S.2.2.2.2 hin_RX12 tyX12 tyX12_ok nmX12 S.2.2.2.1 hK.1 hP hD hS q0 he rfl 84 (by decide) (S.2.2.2.2 _ (wT_t6 197 rfl rfl)) (fun _ h9 => h9) rfl hin rfl (tyX12_ok 84 (by decide)) hn hfit hl hdg kk
set_option maxRecDepth 100000 in
theorem pf_RX12_186 {p : Program} {l : Launch} {e : Env} {R : Room} {s : State} {m : MethodId} {args : Array Value} {below : List Frame} {meth : Method} {c : Code} {H : Heap} {locs : List Loc} {cells slots : Nat} {Q : State → Prop} {cc : ByteArray} {nL pc : Nat} {D : va_G} {cI cB cZ : ClassId} {ws : va_W} {rest : List Value} {ls : Array Slot} {a : Nat} {fs : List Value} {v : Value} {A : Nat → Prop} {H0 : Heap} (S : SF p m c cc nL s args RX12) (hin : meth.name = "<init>") (hK : KK D cI cB cZ s) (hP : va_P D vwCl ws H) (hD : va_D A ws) (hS : va_S A H0 H locs) (q0 : Nat) (he : ws[q0]? = some (a, .inr (13, fs))) (hl : 85 < fs.length) (hn : narrow (tyX12 85) v = v) (hfit : fits (tyX12 85) v = true) (hdg : decode cc pc = .ok (.putfield 186, 3)) (kk : ∀ (H1 : Heap) (locs1 : List Loc), va_P D vwCl (ws.set q0 (a, .inr (13, fs.set 85 v))) H1 → va_D A (ws.set q0 (a, .inr (13, fs.set 85 v))) → va_S A H0 H1 locs1 → W p l e R s m args below meth c H1 locs1 cells slots Q (F0 m (pc + 3) ls rest)) : W p l e R s m args below meth c H locs cells slots Q (F0 m pc ls (v :: .ref a :: rest)) :=
  va_putF (C := RX12) (T := TX12) (N := 91) S.1 S.2.1 S.2.2.2.2 hin_RX12 tyX12 tyX12_ok nmX12 S.2.2.2.1 hK.1 hP hD hS q0 he rfl 85 (by decide) (S.2.2.2.2 _ (wT_t6 198 rfl rfl)) (fun _ h9 => h9) rfl hin rfl (tyX12_ok 85 (by decide)) hn hfit hl hdg kk
set_option maxRecDepth 100000 in
theorem pf_RX12_189 {p : Program} {l : Launch} {e : Env} {R : Room} {s : State} {m : MethodId} {args : Array Value} {below : List Frame} {meth : Method} {c : Code} {H : Heap} {locs : List Loc} {cells slots : Nat} {Q : State → Prop} {cc : ByteArray} {nL pc : Nat} {D : va_G} {cI cB cZ : ClassId} {ws : va_W} {rest : List Value} {ls : Array Slot} {a : Nat} {fs : List Value} {v : Value} {A : Nat → Prop} {H0 : Heap} (S : SF p m c cc nL s args RX12) (hin : meth.name = "<init>") (hK : KK D cI cB cZ s) (hP : va_P D vwCl ws H) (hD : va_D A ws) (hS : va_S A H0 H locs) (q0 : Nat) (he : ws[q0]? = some (a, .inr (13, fs))) (hl : 86 < fs.length) (hn : narrow (tyX12 86) v = v) (hfit : fits (tyX12 86) v = true) (hdg : decode cc pc = .ok (.putfield 189, 3)) (kk : ∀ (H1 : Heap) (locs1 : List Loc), va_P D vwCl (ws.set q0 (a, .inr (13, fs.set 86 v))) H1 → va_D A (ws.set q0 (a, .inr (13, fs.set 86 v))) → va_S A H0 H1 locs1 → W p l e R s m args below meth c H1 locs1 cells slots Q (F0 m (pc + 3) ls rest)) : W p l e R s m args below meth c H locs cells slots Q (F0 m pc ls (v :: .ref a :: rest)) :=
  va_putF (C := RX12) (T := TX12) (N := 91) S.1 S.2.1 S.2.2.2.2 hin_RX12 tyX12 tyX12_ok nmX12 S.2.2.2.1 hK.1 hP hD hS q0 he rfl 86 (by decide) (S.2.2.2.2 _ (wT_t6 199 rfl rfl)) (fun _ h9 => h9) rfl hin rfl (tyX12_ok 86 (by decide)) hn hfit hl hdg kk
set_option maxRecDepth 100000 in
theorem pf_RX12_192 {p : Program} {l : Launch} {e : Env} {R : Room} {s : State} {m : MethodId} {args : Array Value} {below : List Frame} {meth : Method} {c : Code} {H : Heap} {locs : List Loc} {cells slots : Nat} {Q : State → Prop} {cc : ByteArray} {nL pc : Nat} {D : va_G} {cI cB cZ : ClassId} {ws : va_W} {rest : List Value} {ls : Array Slot} {a : Nat} {fs : List Value} {v : Value} {A : Nat → Prop} {H0 : Heap} (S : SF p m c cc nL s args RX12) (hin : meth.name = "<init>") (hK : KK D cI cB cZ s) (hP : va_P D vwCl ws H) (hD : va_D A ws) (hS : va_S A H0 H locs) (q0 : Nat) (he : ws[q0]? = some (a, .inr (13, fs))) (hl : 87 < fs.length) (hn : narrow (tyX12 87) v = v) (hfit : fits (tyX12 87) v = true) (hdg : decode cc pc = .ok (.putfield 192, 3)) (kk : ∀ (H1 : Heap) (locs1 : List Loc), va_P D vwCl (ws.set q0 (a, .inr (13, fs.set 87 v))) H1 → va_D A (ws.set q0 (a, .inr (13, fs.set 87 v))) → va_S A H0 H1 locs1 → W p l e R s m args below meth c H1 locs1 cells slots Q (F0 m (pc + 3) ls rest)) : W p l e R s m args below meth c H locs cells slots Q (F0 m pc ls (v :: .ref a :: rest)) :=
  va_putF (C := RX12) (T := TX12) (N := 91) S.1 S.2.1 S.2.2.2.2 hin_RX12 tyX12 tyX12_ok nmX12 S.2.2.2.1 hK.1 hP hD hS q0 he rfl 87 (by decide) (S.2.2.2.2 _ (wT_t6 200 rfl rfl)) (fun _ h9 => h9) rfl hin rfl (tyX12_ok 87 (by decide)) hn hfit hl hdg kk
set_option maxRecDepth 100000 in
theorem pf_RX12_195 {p : Program} {l : Launch} {e : Env} {R : Room} {s : State} {m : MethodId} {args : Array Value} {below : List Frame} {meth : Method} {c : Code} {H : Heap} {locs : List Loc} {cells slots : Nat} {Q : State → Prop} {cc : ByteArray} {nL pc : Nat} {D : va_G} {cI cB cZ : ClassId} {ws : va_W} {rest : List Value} {ls : Array Slot} {a : Nat} {fs : List Value} {v : Value} {A : Nat → Prop} {H0 : Heap} (S : SF p m c cc nL s args RX12) (hin : meth.name = "<init>") (hK : KK D cI cB cZ s) (hP : va_P D vwCl ws H) (hD : va_D A ws) (hS : va_S A H0 H locs) (q0 : Nat) (he : ws[q0]? = some (a, .inr (13, fs))) (hl : 88 < fs.length) (hn : narrow (tyX12 88) v = v) (hfit : fits (tyX12 88) v = true) (hdg : decode cc pc = .ok (.putfield 195, 3)) (kk : ∀ (H1 : Heap) (locs1 : List Loc), va_P D vwCl (ws.set q0 (a, .inr (13, fs.set 88 v))) H1 → va_D A (ws.set q0 (a, .inr (13, fs.set 88 v))) → va_S A H0 H1 locs1 → W p l e R s m args below meth c H1 locs1 cells slots Q (F0 m (pc + 3) ls rest)) : W p l e R s m args below meth c H locs cells slots Q (F0 m pc ls (v :: .ref a :: rest)) :=
  va_putF (C := RX12) (T := TX12) (N := 91) S.1 S.2.1 S.2.2.2.2 hin_RX12 tyX12 tyX12_ok nmX12 S.2.2.2.1 hK.1 hP hD hS q0 he rfl 88 (by decide) (S.2.2.2.2 _ (wT_t6 201 rfl rfl)) (fun _ h9 => h9) rfl hin rfl (tyX12_ok 88 (by decide)) hn hfit hl hdg kk
set_option maxRecDepth 100000 in
theorem pf_RX12_198 {p : Program} {l : Launch} {e : Env} {R : Room} {s : State} {m : MethodId} {args : Array Value} {below : List Frame} {meth : Method} {c : Code} {H : Heap} {locs : List Loc} {cells slots : Nat} {Q : State → Prop} {cc : ByteArray} {nL pc : Nat} {D : va_G} {cI cB cZ : ClassId} {ws : va_W} {rest : List Value} {ls : Array Slot} {a : Nat} {fs : List Value} {v : Value} {A : Nat → Prop} {H0 : Heap} (S : SF p m c cc nL s args RX12) (hin : meth.name = "<init>") (hK : KK D cI cB cZ s) (hP : va_P D vwCl ws H) (hD : va_D A ws) (hS : va_S A H0 H locs) (q0 : Nat) (he : ws[q0]? = some (a, .inr (13, fs))) (hl : 89 < fs.length) (hn : narrow (tyX12 89) v = v) (hfit : fits (tyX12 89) v = true) (hdg : decode cc pc = .ok (.putfield 198, 3)) (kk : ∀ (H1 : Heap) (locs1 : List Loc), va_P D vwCl (ws.set q0 (a, .inr (13, fs.set 89 v))) H1 → va_D A (ws.set q0 (a, .inr (13, fs.set 89 v))) → va_S A H0 H1 locs1 → W p l e R s m args below meth c H1 locs1 cells slots Q (F0 m (pc + 3) ls rest)) : W p l e R s m args below meth c H locs cells slots Q (F0 m pc ls (v :: .ref a :: rest)) :=
  va_putF (C := RX12) (T := TX12) (N := 91) S.1 S.2.1 S.2.2.2.2 hin_RX12 tyX12 tyX12_ok nmX12 S.2.2.2.1 hK.1 hP hD hS q0 he rfl 89 (by decide) (S.2.2.2.2 _ (wT_t6 202 rfl rfl)) (fun _ h9 => h9) rfl hin rfl (tyX12_ok 89 (by decide)) hn hfit hl hdg kk
set_option maxRecDepth 100000 in
theorem pf_RX12_201 {p : Program} {l : Launch} {e : Env} {R : Room} {s : State} {m : MethodId} {args : Array Value} {below : List Frame} {meth : Method} {c : Code} {H : Heap} {locs : List Loc} {cells slots : Nat} {Q : State → Prop} {cc : ByteArray} {nL pc : Nat} {D : va_G} {cI cB cZ : ClassId} {ws : va_W} {rest : List Value} {ls : Array Slot} {a : Nat} {fs : List Value} {v : Value} {A : Nat → Prop} {H0 : Heap} (S : SF p m c cc nL s args RX12) (hin : meth.name = "<init>") (hK : KK D cI cB cZ s) (hP : va_P D vwCl ws H) (hD : va_D A ws) (hS : va_S A H0 H locs) (q0 : Nat) (he : ws[q0]? = some (a, .inr (13, fs))) (hl : 90 < fs.length) (hn : narrow (tyX12 90) v = v) (hfit : fits (tyX12 90) v = true) (hdg : decode cc pc = .ok (.putfield 201, 3)) (kk : ∀ (H1 : Heap) (locs1 : List Loc), va_P D vwCl (ws.set q0 (a, .inr (13, fs.set 90 v))) H1 → va_D A (ws.set q0 (a, .inr (13, fs.set 90 v))) → va_S A H0 H1 locs1 → W p l e R s m args below meth c H1 locs1 cells slots Q (F0 m (pc + 3) ls rest)) : W p l e R s m args below meth c H locs cells slots Q (F0 m pc ls (v :: .ref a :: rest)) :=
  va_putF (C := RX12) (T := TX12) (N := 91) S.1 S.2.1 S.2.2.2.2 hin_RX12 tyX12 tyX12_ok nmX12 S.2.2.2.1 hK.1 hP hD hS q0 he rfl 90 (by decide) (S.2.2.2.2 _ (wT_t6 203 rfl rfl)) (fun _ h9 => h9) rfl hin rfl (tyX12_ok 90 (by decide)) hn hfit hl hdg kk
set_option maxRecDepth 100000 in
theorem gf_RX12_201 {p : Program} {l : Launch} {e : Env} {R : Room} {s : State} {m : MethodId} {args : Array Value} {below : List Frame} {meth : Method} {c : Code} {H : Heap} {locs : List Loc} {cells slots : Nat} {Q : State → Prop} {cc : ByteArray} {nL pc : Nat} {D : va_G} {cI cB cZ : ClassId} {ws : va_W} {rest : List Value} {ls : Array Slot} {a : Nat} {fs : List Value} {v : Value} (S : SF p m c cc nL s args RX12) (hK : KK D cI cB cZ s) (hP : va_P D vwCl ws H) (q0 : Nat) (he : ws[q0]? = some (a, .inr (13, fs))) (hv : fs[90]? = some v) (hdg : decode cc pc = .ok (.getfield 201, 3)) (kk : W p l e R s m args below meth c H locs cells slots Q (F0 m (pc + 3) ls (v :: rest))) : W p l e R s m args below meth c H locs cells slots Q (F0 m pc ls (.ref a :: rest)) :=
  va_get (C := RX12) (T := TX12) (N := 91) S.1 S.2.1 S.2.2.2.2 hin_RX12 S.2.2.2.1 hK.1 hP q0 he rfl 90 (by decide) (S.2.2.2.2 _ (wT_t6 203 rfl rfl)) (fun _ h9 => h9) hv hdg kk
def sxX8_init_14 : List UInt8 := []
def sxX8_init_13 : List UInt8 := 177 :: sxX8_init_14
def sxX8_init_10 : List UInt8 := 181 :: 0 :: 9 :: sxX8_init_13
def sxX8_init_8 : List UInt8 := 188 :: 10 :: sxX8_init_10
def sxX8_init_5 : List UInt8 := 17 :: 0 :: 200 :: sxX8_init_8
def sxX8_init_4 : List UInt8 := 42 :: sxX8_init_5
def sxX8_init_1 : List UInt8 := 183 :: 0 :: 1 :: sxX8_init_4
def sxX8_init_0 : List UInt8 := 42 :: sxX8_init_1
theorem shX8_init_0 : cX8_init.data.toList.drop 0 = sxX8_init_0 := rfl
theorem shX8_init_1 : cX8_init.data.toList.drop 1 = sxX8_init_1 := dSn 1 shX8_init_0
theorem shX8_init_4 : cX8_init.data.toList.drop 4 = sxX8_init_4 := dSn 3 shX8_init_1
theorem shX8_init_5 : cX8_init.data.toList.drop 5 = sxX8_init_5 := dSn 1 shX8_init_4
theorem shX8_init_8 : cX8_init.data.toList.drop 8 = sxX8_init_8 := dSn 3 shX8_init_5
theorem shX8_init_10 : cX8_init.data.toList.drop 10 = sxX8_init_10 := dSn 2 shX8_init_8
theorem shX8_init_13 : cX8_init.data.toList.drop 13 = sxX8_init_13 := dSn 3 shX8_init_10
theorem dX8_init_0 : decode cX8_init 0 = .ok (.aload_n 0, 1) := oc_42 shX8_init_0
theorem dX8_init_1 : decode cX8_init 1 = .ok (.invokespecial 1, 3) := oc_183 shX8_init_1
theorem dX8_init_4 : decode cX8_init 4 = .ok (.aload_n 0, 1) := oc_42 shX8_init_4
theorem dX8_init_5 : decode cX8_init 5 = .ok (.sipush 200, 3) := oc_17 shX8_init_5 sgw_0_200
theorem dX8_init_8 : decode cX8_init 8 = .ok (.newarray .int, 2) := oc_188_10 shX8_init_8
theorem dX8_init_10 : decode cX8_init 10 = .ok (.putfield 9, 3) := oc_181 shX8_init_10
theorem dX8_init_13 : decode cX8_init 13 = .ok (.return_, 1) := oc_177 shX8_init_13
def sxX5_init_24 : List UInt8 := []
def sxX5_init_23 : List UInt8 := 177 :: sxX5_init_24
def sxX5_init_20 : List UInt8 := 181 :: 0 :: 20 :: sxX5_init_23
def sxX5_init_17 : List UInt8 := 183 :: 0 :: 17 :: sxX5_init_20
def sxX5_init_16 : List UInt8 := 3 :: sxX5_init_17
def sxX5_init_15 : List UInt8 := 89 :: sxX5_init_16
def sxX5_init_12 : List UInt8 := 187 :: 0 :: 15 :: sxX5_init_15
def sxX5_init_11 : List UInt8 := 42 :: sxX5_init_12
def sxX5_init_8 : List UInt8 := 181 :: 0 :: 9 :: sxX5_init_11
def sxX5_init_6 : List UInt8 := 188 :: 10 :: sxX5_init_8
def sxX5_init_5 : List UInt8 := 3 :: sxX5_init_6
def sxX5_init_4 : List UInt8 := 42 :: sxX5_init_5
def sxX5_init_1 : List UInt8 := 183 :: 0 :: 3 :: sxX5_init_4
def sxX5_init_0 : List UInt8 := 42 :: sxX5_init_1
theorem shX5_init_0 : cX5_init.data.toList.drop 0 = sxX5_init_0 := rfl
theorem shX5_init_1 : cX5_init.data.toList.drop 1 = sxX5_init_1 := dSn 1 shX5_init_0
theorem shX5_init_4 : cX5_init.data.toList.drop 4 = sxX5_init_4 := dSn 3 shX5_init_1
theorem shX5_init_5 : cX5_init.data.toList.drop 5 = sxX5_init_5 := dSn 1 shX5_init_4
theorem shX5_init_6 : cX5_init.data.toList.drop 6 = sxX5_init_6 := dSn 1 shX5_init_5
theorem shX5_init_8 : cX5_init.data.toList.drop 8 = sxX5_init_8 := dSn 2 shX5_init_6
theorem shX5_init_11 : cX5_init.data.toList.drop 11 = sxX5_init_11 := dSn 3 shX5_init_8
theorem shX5_init_12 : cX5_init.data.toList.drop 12 = sxX5_init_12 := dSn 1 shX5_init_11
theorem shX5_init_15 : cX5_init.data.toList.drop 15 = sxX5_init_15 := dSn 3 shX5_init_12
theorem shX5_init_16 : cX5_init.data.toList.drop 16 = sxX5_init_16 := dSn 1 shX5_init_15
theorem shX5_init_17 : cX5_init.data.toList.drop 17 = sxX5_init_17 := dSn 1 shX5_init_16
theorem shX5_init_20 : cX5_init.data.toList.drop 20 = sxX5_init_20 := dSn 3 shX5_init_17
theorem shX5_init_23 : cX5_init.data.toList.drop 23 = sxX5_init_23 := dSn 3 shX5_init_20
theorem dX5_init_0 : decode cX5_init 0 = .ok (.aload_n 0, 1) := oc_42 shX5_init_0
theorem dX5_init_1 : decode cX5_init 1 = .ok (.invokespecial 3, 3) := oc_183 shX5_init_1
theorem dX5_init_4 : decode cX5_init 4 = .ok (.aload_n 0, 1) := oc_42 shX5_init_4
theorem dX5_init_5 : decode cX5_init 5 = .ok (.iconst 0, 1) := oc_3 shX5_init_5
theorem dX5_init_6 : decode cX5_init 6 = .ok (.newarray .int, 2) := oc_188_10 shX5_init_6
theorem dX5_init_8 : decode cX5_init 8 = .ok (.putfield 9, 3) := oc_181 shX5_init_8
theorem dX5_init_11 : decode cX5_init 11 = .ok (.aload_n 0, 1) := oc_42 shX5_init_11
theorem dX5_init_12 : decode cX5_init 12 = .ok (.new 15, 3) := oc_187 shX5_init_12
theorem dX5_init_15 : decode cX5_init 15 = .ok (.dup, 1) := oc_89 shX5_init_15
theorem dX5_init_16 : decode cX5_init 16 = .ok (.iconst 0, 1) := oc_3 shX5_init_16
theorem dX5_init_17 : decode cX5_init 17 = .ok (.invokespecial 17, 3) := oc_183 shX5_init_17
theorem dX5_init_20 : decode cX5_init 20 = .ok (.putfield 20, 3) := oc_181 shX5_init_20
theorem dX5_init_23 : decode cX5_init 23 = .ok (.return_, 1) := oc_177 shX5_init_23
def sxJ7_fill_53178_21 : List UInt8 := []
def sxJ7_fill_53178_20 : List UInt8 := 177 :: sxJ7_fill_53178_21
def sxJ7_fill_53178_17 : List UInt8 := 167 :: 255 :: 244 :: sxJ7_fill_53178_20
def sxJ7_fill_53178_14 : List UInt8 := 132 :: 2 :: 1 :: sxJ7_fill_53178_17
def sxJ7_fill_53178_13 : List UInt8 := 79 :: sxJ7_fill_53178_14
def sxJ7_fill_53178_12 : List UInt8 := 27 :: sxJ7_fill_53178_13
def sxJ7_fill_53178_11 : List UInt8 := 28 :: sxJ7_fill_53178_12
def sxJ7_fill_53178_10 : List UInt8 := 42 :: sxJ7_fill_53178_11
def sxJ7_fill_53178_7 : List UInt8 := 162 :: 0 :: 13 :: sxJ7_fill_53178_10
def sxJ7_fill_53178_6 : List UInt8 := 29 :: sxJ7_fill_53178_7
def sxJ7_fill_53178_5 : List UInt8 := 28 :: sxJ7_fill_53178_6
def sxJ7_fill_53178_4 : List UInt8 := 62 :: sxJ7_fill_53178_5
def sxJ7_fill_53178_3 : List UInt8 := 190 :: sxJ7_fill_53178_4
def sxJ7_fill_53178_2 : List UInt8 := 42 :: sxJ7_fill_53178_3
def sxJ7_fill_53178_1 : List UInt8 := 61 :: sxJ7_fill_53178_2
def sxJ7_fill_53178_0 : List UInt8 := 3 :: sxJ7_fill_53178_1
theorem shJ7_fill_53178_0 : cJ7_fill_53178.data.toList.drop 0 = sxJ7_fill_53178_0 := rfl
theorem shJ7_fill_53178_1 : cJ7_fill_53178.data.toList.drop 1 = sxJ7_fill_53178_1 := dSn 1 shJ7_fill_53178_0
theorem shJ7_fill_53178_2 : cJ7_fill_53178.data.toList.drop 2 = sxJ7_fill_53178_2 := dSn 1 shJ7_fill_53178_1
theorem shJ7_fill_53178_3 : cJ7_fill_53178.data.toList.drop 3 = sxJ7_fill_53178_3 := dSn 1 shJ7_fill_53178_2
theorem shJ7_fill_53178_4 : cJ7_fill_53178.data.toList.drop 4 = sxJ7_fill_53178_4 := dSn 1 shJ7_fill_53178_3
theorem shJ7_fill_53178_5 : cJ7_fill_53178.data.toList.drop 5 = sxJ7_fill_53178_5 := dSn 1 shJ7_fill_53178_4
theorem shJ7_fill_53178_6 : cJ7_fill_53178.data.toList.drop 6 = sxJ7_fill_53178_6 := dSn 1 shJ7_fill_53178_5
theorem shJ7_fill_53178_7 : cJ7_fill_53178.data.toList.drop 7 = sxJ7_fill_53178_7 := dSn 1 shJ7_fill_53178_6
theorem shJ7_fill_53178_10 : cJ7_fill_53178.data.toList.drop 10 = sxJ7_fill_53178_10 := dSn 3 shJ7_fill_53178_7
theorem shJ7_fill_53178_11 : cJ7_fill_53178.data.toList.drop 11 = sxJ7_fill_53178_11 := dSn 1 shJ7_fill_53178_10
theorem shJ7_fill_53178_12 : cJ7_fill_53178.data.toList.drop 12 = sxJ7_fill_53178_12 := dSn 1 shJ7_fill_53178_11
theorem shJ7_fill_53178_13 : cJ7_fill_53178.data.toList.drop 13 = sxJ7_fill_53178_13 := dSn 1 shJ7_fill_53178_12
theorem shJ7_fill_53178_14 : cJ7_fill_53178.data.toList.drop 14 = sxJ7_fill_53178_14 := dSn 1 shJ7_fill_53178_13
theorem shJ7_fill_53178_17 : cJ7_fill_53178.data.toList.drop 17 = sxJ7_fill_53178_17 := dSn 3 shJ7_fill_53178_14
theorem shJ7_fill_53178_20 : cJ7_fill_53178.data.toList.drop 20 = sxJ7_fill_53178_20 := dSn 3 shJ7_fill_53178_17
theorem dJ7_fill_53178_0 : decode cJ7_fill_53178 0 = .ok (.iconst 0, 1) := oc_3 shJ7_fill_53178_0
theorem dJ7_fill_53178_1 : decode cJ7_fill_53178 1 = .ok (.istore_n 2, 1) := oc_61 shJ7_fill_53178_1
theorem dJ7_fill_53178_2 : decode cJ7_fill_53178 2 = .ok (.aload_n 0, 1) := oc_42 shJ7_fill_53178_2
theorem dJ7_fill_53178_3 : decode cJ7_fill_53178 3 = .ok (.arraylength, 1) := oc_190 shJ7_fill_53178_3
theorem dJ7_fill_53178_4 : decode cJ7_fill_53178 4 = .ok (.istore_n 3, 1) := oc_62 shJ7_fill_53178_4
theorem dJ7_fill_53178_5 : decode cJ7_fill_53178 5 = .ok (.iload_n 2, 1) := oc_28 shJ7_fill_53178_5
theorem dJ7_fill_53178_6 : decode cJ7_fill_53178 6 = .ok (.iload_n 3, 1) := oc_29 shJ7_fill_53178_6
theorem dJ7_fill_53178_7 : decode cJ7_fill_53178 7 = .ok (.if_icmp .ge 13, 3) := oc_162 shJ7_fill_53178_7 sgw_0_13
theorem dJ7_fill_53178_20 : decode cJ7_fill_53178 20 = .ok (.return_, 1) := oc_177 shJ7_fill_53178_20
theorem dJ7_fill_53178_10 : decode cJ7_fill_53178 10 = .ok (.aload_n 0, 1) := oc_42 shJ7_fill_53178_10
theorem dJ7_fill_53178_11 : decode cJ7_fill_53178 11 = .ok (.iload_n 2, 1) := oc_28 shJ7_fill_53178_11
theorem dJ7_fill_53178_12 : decode cJ7_fill_53178 12 = .ok (.iload_n 1, 1) := oc_27 shJ7_fill_53178_12
theorem dJ7_fill_53178_13 : decode cJ7_fill_53178 13 = .ok (.iastore, 1) := oc_79 shJ7_fill_53178_13
theorem dJ7_fill_53178_14 : decode cJ7_fill_53178 14 = .ok (.iinc 2 1, 3) := oc_132 shJ7_fill_53178_14 sgb_1
theorem dJ7_fill_53178_17 : decode cJ7_fill_53178 17 = .ok (.goto (-12), 3) := oc_167 shJ7_fill_53178_17 sgw_255_244
def sxX7_init_98 : List UInt8 := []
def sxX7_init_97 : List UInt8 := 177 :: sxX7_init_98
def sxX7_init_94 : List UInt8 := 181 :: 0 :: 45 :: sxX7_init_97
def sxX7_init_92 : List UInt8 := 188 :: 10 :: sxX7_init_94
def sxX7_init_89 : List UInt8 := 17 :: 1 :: 144 :: sxX7_init_92
def sxX7_init_88 : List UInt8 := 42 :: sxX7_init_89
def sxX7_init_85 : List UInt8 := 181 :: 0 :: 42 :: sxX7_init_88
def sxX7_init_83 : List UInt8 := 188 :: 10 :: sxX7_init_85
def sxX7_init_80 : List UInt8 := 17 :: 4 :: 176 :: sxX7_init_83
def sxX7_init_79 : List UInt8 := 42 :: sxX7_init_80
def sxX7_init_76 : List UInt8 := 181 :: 0 :: 39 :: sxX7_init_79
def sxX7_init_74 : List UInt8 := 188 :: 10 :: sxX7_init_76
def sxX7_init_73 : List UInt8 := 6 :: sxX7_init_74
def sxX7_init_72 : List UInt8 := 42 :: sxX7_init_73
def sxX7_init_69 : List UInt8 := 181 :: 0 :: 36 :: sxX7_init_72
def sxX7_init_67 : List UInt8 := 188 :: 10 :: sxX7_init_69
def sxX7_init_64 : List UInt8 := 17 :: 0 :: 232 :: sxX7_init_67
def sxX7_init_63 : List UInt8 := 42 :: sxX7_init_64
def sxX7_init_60 : List UInt8 := 181 :: 0 :: 33 :: sxX7_init_63
def sxX7_init_58 : List UInt8 := 188 :: 10 :: sxX7_init_60
def sxX7_init_56 : List UInt8 := 16 :: 10 :: sxX7_init_58
def sxX7_init_55 : List UInt8 := 42 :: sxX7_init_56
def sxX7_init_52 : List UInt8 := 181 :: 0 :: 30 :: sxX7_init_55
def sxX7_init_50 : List UInt8 := 188 :: 10 :: sxX7_init_52
def sxX7_init_48 : List UInt8 := 16 :: 10 :: sxX7_init_50
def sxX7_init_47 : List UInt8 := 42 :: sxX7_init_48
def sxX7_init_44 : List UInt8 := 181 :: 0 :: 27 :: sxX7_init_47
def sxX7_init_42 : List UInt8 := 188 :: 10 :: sxX7_init_44
def sxX7_init_39 : List UInt8 := 17 :: 1 :: 144 :: sxX7_init_42
def sxX7_init_38 : List UInt8 := 42 :: sxX7_init_39
def sxX7_init_35 : List UInt8 := 184 :: 0 :: 21 :: sxX7_init_38
def sxX7_init_33 : List UInt8 := 16 :: 15 :: sxX7_init_35
def sxX7_init_30 : List UInt8 := 180 :: 0 :: 18 :: sxX7_init_33
def sxX7_init_29 : List UInt8 := 42 :: sxX7_init_30
def sxX7_init_26 : List UInt8 := 181 :: 0 :: 18 :: sxX7_init_29
def sxX7_init_24 : List UInt8 := 188 :: 10 :: sxX7_init_26
def sxX7_init_21 : List UInt8 := 17 :: 1 :: 144 :: sxX7_init_24
def sxX7_init_20 : List UInt8 := 42 :: sxX7_init_21
def sxX7_init_17 : List UInt8 := 181 :: 0 :: 15 :: sxX7_init_20
def sxX7_init_15 : List UInt8 := 188 :: 10 :: sxX7_init_17
def sxX7_init_13 : List UInt8 := 16 :: 24 :: sxX7_init_15
def sxX7_init_12 : List UInt8 := 42 :: sxX7_init_13
def sxX7_init_9 : List UInt8 := 181 :: 0 :: 9 :: sxX7_init_12
def sxX7_init_7 : List UInt8 := 188 :: 10 :: sxX7_init_9
def sxX7_init_5 : List UInt8 := 16 :: 58 :: sxX7_init_7
def sxX7_init_4 : List UInt8 := 42 :: sxX7_init_5
def sxX7_init_1 : List UInt8 := 183 :: 0 :: 3 :: sxX7_init_4
def sxX7_init_0 : List UInt8 := 42 :: sxX7_init_1
theorem shX7_init_0 : cX7_init.data.toList.drop 0 = sxX7_init_0 := rfl
theorem shX7_init_1 : cX7_init.data.toList.drop 1 = sxX7_init_1 := dSn 1 shX7_init_0
theorem shX7_init_4 : cX7_init.data.toList.drop 4 = sxX7_init_4 := dSn 3 shX7_init_1
theorem shX7_init_5 : cX7_init.data.toList.drop 5 = sxX7_init_5 := dSn 1 shX7_init_4
theorem shX7_init_7 : cX7_init.data.toList.drop 7 = sxX7_init_7 := dSn 2 shX7_init_5
theorem shX7_init_9 : cX7_init.data.toList.drop 9 = sxX7_init_9 := dSn 2 shX7_init_7
theorem shX7_init_12 : cX7_init.data.toList.drop 12 = sxX7_init_12 := dSn 3 shX7_init_9
theorem shX7_init_13 : cX7_init.data.toList.drop 13 = sxX7_init_13 := dSn 1 shX7_init_12
theorem shX7_init_15 : cX7_init.data.toList.drop 15 = sxX7_init_15 := dSn 2 shX7_init_13
theorem shX7_init_17 : cX7_init.data.toList.drop 17 = sxX7_init_17 := dSn 2 shX7_init_15
theorem shX7_init_20 : cX7_init.data.toList.drop 20 = sxX7_init_20 := dSn 3 shX7_init_17
theorem shX7_init_21 : cX7_init.data.toList.drop 21 = sxX7_init_21 := dSn 1 shX7_init_20
theorem shX7_init_24 : cX7_init.data.toList.drop 24 = sxX7_init_24 := dSn 3 shX7_init_21
theorem shX7_init_26 : cX7_init.data.toList.drop 26 = sxX7_init_26 := dSn 2 shX7_init_24
theorem shX7_init_29 : cX7_init.data.toList.drop 29 = sxX7_init_29 := dSn 3 shX7_init_26
theorem shX7_init_30 : cX7_init.data.toList.drop 30 = sxX7_init_30 := dSn 1 shX7_init_29
theorem shX7_init_33 : cX7_init.data.toList.drop 33 = sxX7_init_33 := dSn 3 shX7_init_30
theorem shX7_init_35 : cX7_init.data.toList.drop 35 = sxX7_init_35 := dSn 2 shX7_init_33
theorem shX7_init_38 : cX7_init.data.toList.drop 38 = sxX7_init_38 := dSn 3 shX7_init_35
theorem shX7_init_39 : cX7_init.data.toList.drop 39 = sxX7_init_39 := dSn 1 shX7_init_38
theorem shX7_init_42 : cX7_init.data.toList.drop 42 = sxX7_init_42 := dSn 3 shX7_init_39
theorem shX7_init_44 : cX7_init.data.toList.drop 44 = sxX7_init_44 := dSn 2 shX7_init_42
theorem shX7_init_47 : cX7_init.data.toList.drop 47 = sxX7_init_47 := dSn 3 shX7_init_44
theorem shX7_init_48 : cX7_init.data.toList.drop 48 = sxX7_init_48 := dSn 1 shX7_init_47
theorem shX7_init_50 : cX7_init.data.toList.drop 50 = sxX7_init_50 := dSn 2 shX7_init_48
theorem shX7_init_52 : cX7_init.data.toList.drop 52 = sxX7_init_52 := dSn 2 shX7_init_50
theorem shX7_init_55 : cX7_init.data.toList.drop 55 = sxX7_init_55 := dSn 3 shX7_init_52
theorem shX7_init_56 : cX7_init.data.toList.drop 56 = sxX7_init_56 := dSn 1 shX7_init_55
theorem shX7_init_58 : cX7_init.data.toList.drop 58 = sxX7_init_58 := dSn 2 shX7_init_56
theorem shX7_init_60 : cX7_init.data.toList.drop 60 = sxX7_init_60 := dSn 2 shX7_init_58
theorem shX7_init_63 : cX7_init.data.toList.drop 63 = sxX7_init_63 := dSn 3 shX7_init_60
theorem shX7_init_64 : cX7_init.data.toList.drop 64 = sxX7_init_64 := dSn 1 shX7_init_63
theorem shX7_init_67 : cX7_init.data.toList.drop 67 = sxX7_init_67 := dSn 3 shX7_init_64
theorem shX7_init_69 : cX7_init.data.toList.drop 69 = sxX7_init_69 := dSn 2 shX7_init_67
theorem shX7_init_72 : cX7_init.data.toList.drop 72 = sxX7_init_72 := dSn 3 shX7_init_69
theorem shX7_init_73 : cX7_init.data.toList.drop 73 = sxX7_init_73 := dSn 1 shX7_init_72
theorem shX7_init_74 : cX7_init.data.toList.drop 74 = sxX7_init_74 := dSn 1 shX7_init_73
theorem shX7_init_76 : cX7_init.data.toList.drop 76 = sxX7_init_76 := dSn 2 shX7_init_74
theorem shX7_init_79 : cX7_init.data.toList.drop 79 = sxX7_init_79 := dSn 3 shX7_init_76
theorem shX7_init_80 : cX7_init.data.toList.drop 80 = sxX7_init_80 := dSn 1 shX7_init_79
theorem shX7_init_83 : cX7_init.data.toList.drop 83 = sxX7_init_83 := dSn 3 shX7_init_80
theorem shX7_init_85 : cX7_init.data.toList.drop 85 = sxX7_init_85 := dSn 2 shX7_init_83
theorem shX7_init_88 : cX7_init.data.toList.drop 88 = sxX7_init_88 := dSn 3 shX7_init_85
theorem shX7_init_89 : cX7_init.data.toList.drop 89 = sxX7_init_89 := dSn 1 shX7_init_88
theorem shX7_init_92 : cX7_init.data.toList.drop 92 = sxX7_init_92 := dSn 3 shX7_init_89
theorem shX7_init_94 : cX7_init.data.toList.drop 94 = sxX7_init_94 := dSn 2 shX7_init_92
theorem shX7_init_97 : cX7_init.data.toList.drop 97 = sxX7_init_97 := dSn 3 shX7_init_94
theorem dX7_init_0 : decode cX7_init 0 = .ok (.aload_n 0, 1) := oc_42 shX7_init_0
theorem dX7_init_1 : decode cX7_init 1 = .ok (.invokespecial 3, 3) := oc_183 shX7_init_1
theorem dX7_init_4 : decode cX7_init 4 = .ok (.aload_n 0, 1) := oc_42 shX7_init_4
theorem dX7_init_5 : decode cX7_init 5 = .ok (.bipush 58, 2) := oc_16 shX7_init_5 sgb_58
theorem dX7_init_7 : decode cX7_init 7 = .ok (.newarray .int, 2) := oc_188_10 shX7_init_7
theorem dX7_init_9 : decode cX7_init 9 = .ok (.putfield 9, 3) := oc_181 shX7_init_9
theorem dX7_init_12 : decode cX7_init 12 = .ok (.aload_n 0, 1) := oc_42 shX7_init_12
theorem dX7_init_13 : decode cX7_init 13 = .ok (.bipush 24, 2) := oc_16 shX7_init_13 sgb_24
theorem dX7_init_15 : decode cX7_init 15 = .ok (.newarray .int, 2) := oc_188_10 shX7_init_15
theorem dX7_init_17 : decode cX7_init 17 = .ok (.putfield 15, 3) := oc_181 shX7_init_17
theorem dX7_init_20 : decode cX7_init 20 = .ok (.aload_n 0, 1) := oc_42 shX7_init_20
theorem dX7_init_21 : decode cX7_init 21 = .ok (.sipush 400, 3) := oc_17 shX7_init_21 sgw_1_144
theorem dX7_init_24 : decode cX7_init 24 = .ok (.newarray .int, 2) := oc_188_10 shX7_init_24
theorem dX7_init_26 : decode cX7_init 26 = .ok (.putfield 18, 3) := oc_181 shX7_init_26
theorem dX7_init_29 : decode cX7_init 29 = .ok (.aload_n 0, 1) := oc_42 shX7_init_29
theorem dX7_init_30 : decode cX7_init 30 = .ok (.getfield 18, 3) := oc_180 shX7_init_30
theorem dX7_init_33 : decode cX7_init 33 = .ok (.bipush 15, 2) := oc_16 shX7_init_33 sgb_15
theorem dX7_init_35 : decode cX7_init 35 = .ok (.invokestatic 21, 3) := oc_184 shX7_init_35
theorem dX7_init_38 : decode cX7_init 38 = .ok (.aload_n 0, 1) := oc_42 shX7_init_38
theorem dX7_init_39 : decode cX7_init 39 = .ok (.sipush 400, 3) := oc_17 shX7_init_39 sgw_1_144
theorem dX7_init_42 : decode cX7_init 42 = .ok (.newarray .int, 2) := oc_188_10 shX7_init_42
theorem dX7_init_44 : decode cX7_init 44 = .ok (.putfield 27, 3) := oc_181 shX7_init_44
theorem dX7_init_47 : decode cX7_init 47 = .ok (.aload_n 0, 1) := oc_42 shX7_init_47
theorem dX7_init_48 : decode cX7_init 48 = .ok (.bipush 10, 2) := oc_16 shX7_init_48 sgb_10
theorem dX7_init_50 : decode cX7_init 50 = .ok (.newarray .int, 2) := oc_188_10 shX7_init_50
theorem dX7_init_52 : decode cX7_init 52 = .ok (.putfield 30, 3) := oc_181 shX7_init_52
theorem dX7_init_55 : decode cX7_init 55 = .ok (.aload_n 0, 1) := oc_42 shX7_init_55
theorem dX7_init_56 : decode cX7_init 56 = .ok (.bipush 10, 2) := oc_16 shX7_init_56 sgb_10
theorem dX7_init_58 : decode cX7_init 58 = .ok (.newarray .int, 2) := oc_188_10 shX7_init_58
theorem dX7_init_60 : decode cX7_init 60 = .ok (.putfield 33, 3) := oc_181 shX7_init_60
theorem dX7_init_63 : decode cX7_init 63 = .ok (.aload_n 0, 1) := oc_42 shX7_init_63
theorem dX7_init_64 : decode cX7_init 64 = .ok (.sipush 232, 3) := oc_17 shX7_init_64 sgw_0_232
theorem dX7_init_67 : decode cX7_init 67 = .ok (.newarray .int, 2) := oc_188_10 shX7_init_67
theorem dX7_init_69 : decode cX7_init 69 = .ok (.putfield 36, 3) := oc_181 shX7_init_69
theorem dX7_init_72 : decode cX7_init 72 = .ok (.aload_n 0, 1) := oc_42 shX7_init_72
theorem dX7_init_73 : decode cX7_init 73 = .ok (.iconst 3, 1) := oc_6 shX7_init_73
theorem dX7_init_74 : decode cX7_init 74 = .ok (.newarray .int, 2) := oc_188_10 shX7_init_74
theorem dX7_init_76 : decode cX7_init 76 = .ok (.putfield 39, 3) := oc_181 shX7_init_76
theorem dX7_init_79 : decode cX7_init 79 = .ok (.aload_n 0, 1) := oc_42 shX7_init_79
theorem dX7_init_80 : decode cX7_init 80 = .ok (.sipush 1200, 3) := oc_17 shX7_init_80 sgw_4_176
theorem dX7_init_83 : decode cX7_init 83 = .ok (.newarray .int, 2) := oc_188_10 shX7_init_83
theorem dX7_init_85 : decode cX7_init 85 = .ok (.putfield 42, 3) := oc_181 shX7_init_85
theorem dX7_init_88 : decode cX7_init 88 = .ok (.aload_n 0, 1) := oc_42 shX7_init_88
theorem dX7_init_89 : decode cX7_init 89 = .ok (.sipush 400, 3) := oc_17 shX7_init_89 sgw_1_144
theorem dX7_init_92 : decode cX7_init 92 = .ok (.newarray .int, 2) := oc_188_10 shX7_init_92
theorem dX7_init_94 : decode cX7_init 94 = .ok (.putfield 45, 3) := oc_181 shX7_init_94
theorem dX7_init_97 : decode cX7_init 97 = .ok (.return_, 1) := oc_177 shX7_init_97
def sxX10_init_55 : List UInt8 := []
def sxX10_init_54 : List UInt8 := 177 :: sxX10_init_55
def sxX10_init_51 : List UInt8 := 181 :: 0 :: 27 :: sxX10_init_54
def sxX10_init_49 : List UInt8 := 188 :: 10 :: sxX10_init_51
def sxX10_init_46 : List UInt8 := 17 :: 1 :: 0 :: sxX10_init_49
def sxX10_init_45 : List UInt8 := 42 :: sxX10_init_46
def sxX10_init_42 : List UInt8 := 181 :: 0 :: 24 :: sxX10_init_45
def sxX10_init_40 : List UInt8 := 188 :: 10 :: sxX10_init_42
def sxX10_init_37 : List UInt8 := 17 :: 8 :: 0 :: sxX10_init_40
def sxX10_init_36 : List UInt8 := 42 :: sxX10_init_37
def sxX10_init_33 : List UInt8 := 181 :: 0 :: 21 :: sxX10_init_36
def sxX10_init_31 : List UInt8 := 188 :: 10 :: sxX10_init_33
def sxX10_init_29 : List UInt8 := 16 :: 8 :: sxX10_init_31
def sxX10_init_28 : List UInt8 := 42 :: sxX10_init_29
def sxX10_init_25 : List UInt8 := 181 :: 0 :: 18 :: sxX10_init_28
def sxX10_init_23 : List UInt8 := 188 :: 10 :: sxX10_init_25
def sxX10_init_21 : List UInt8 := 16 :: 8 :: sxX10_init_23
def sxX10_init_20 : List UInt8 := 42 :: sxX10_init_21
def sxX10_init_17 : List UInt8 := 181 :: 0 :: 15 :: sxX10_init_20
def sxX10_init_15 : List UInt8 := 188 :: 10 :: sxX10_init_17
def sxX10_init_13 : List UInt8 := 16 :: 8 :: sxX10_init_15
def sxX10_init_12 : List UInt8 := 42 :: sxX10_init_13
def sxX10_init_9 : List UInt8 := 181 :: 0 :: 9 :: sxX10_init_12
def sxX10_init_7 : List UInt8 := 188 :: 10 :: sxX10_init_9
def sxX10_init_5 : List UInt8 := 16 :: 8 :: sxX10_init_7
def sxX10_init_4 : List UInt8 := 42 :: sxX10_init_5
def sxX10_init_1 : List UInt8 := 183 :: 0 :: 3 :: sxX10_init_4
def sxX10_init_0 : List UInt8 := 42 :: sxX10_init_1
theorem shX10_init_0 : cX10_init.data.toList.drop 0 = sxX10_init_0 := rfl
theorem shX10_init_1 : cX10_init.data.toList.drop 1 = sxX10_init_1 := dSn 1 shX10_init_0
theorem shX10_init_4 : cX10_init.data.toList.drop 4 = sxX10_init_4 := dSn 3 shX10_init_1
theorem shX10_init_5 : cX10_init.data.toList.drop 5 = sxX10_init_5 := dSn 1 shX10_init_4
theorem shX10_init_7 : cX10_init.data.toList.drop 7 = sxX10_init_7 := dSn 2 shX10_init_5
theorem shX10_init_9 : cX10_init.data.toList.drop 9 = sxX10_init_9 := dSn 2 shX10_init_7
theorem shX10_init_12 : cX10_init.data.toList.drop 12 = sxX10_init_12 := dSn 3 shX10_init_9
theorem shX10_init_13 : cX10_init.data.toList.drop 13 = sxX10_init_13 := dSn 1 shX10_init_12
theorem shX10_init_15 : cX10_init.data.toList.drop 15 = sxX10_init_15 := dSn 2 shX10_init_13
theorem shX10_init_17 : cX10_init.data.toList.drop 17 = sxX10_init_17 := dSn 2 shX10_init_15
theorem shX10_init_20 : cX10_init.data.toList.drop 20 = sxX10_init_20 := dSn 3 shX10_init_17
theorem shX10_init_21 : cX10_init.data.toList.drop 21 = sxX10_init_21 := dSn 1 shX10_init_20
theorem shX10_init_23 : cX10_init.data.toList.drop 23 = sxX10_init_23 := dSn 2 shX10_init_21
theorem shX10_init_25 : cX10_init.data.toList.drop 25 = sxX10_init_25 := dSn 2 shX10_init_23
theorem shX10_init_28 : cX10_init.data.toList.drop 28 = sxX10_init_28 := dSn 3 shX10_init_25
theorem shX10_init_29 : cX10_init.data.toList.drop 29 = sxX10_init_29 := dSn 1 shX10_init_28
theorem shX10_init_31 : cX10_init.data.toList.drop 31 = sxX10_init_31 := dSn 2 shX10_init_29
theorem shX10_init_33 : cX10_init.data.toList.drop 33 = sxX10_init_33 := dSn 2 shX10_init_31
theorem shX10_init_36 : cX10_init.data.toList.drop 36 = sxX10_init_36 := dSn 3 shX10_init_33
theorem shX10_init_37 : cX10_init.data.toList.drop 37 = sxX10_init_37 := dSn 1 shX10_init_36
theorem shX10_init_40 : cX10_init.data.toList.drop 40 = sxX10_init_40 := dSn 3 shX10_init_37
theorem shX10_init_42 : cX10_init.data.toList.drop 42 = sxX10_init_42 := dSn 2 shX10_init_40
theorem shX10_init_45 : cX10_init.data.toList.drop 45 = sxX10_init_45 := dSn 3 shX10_init_42
theorem shX10_init_46 : cX10_init.data.toList.drop 46 = sxX10_init_46 := dSn 1 shX10_init_45
theorem shX10_init_49 : cX10_init.data.toList.drop 49 = sxX10_init_49 := dSn 3 shX10_init_46
theorem shX10_init_51 : cX10_init.data.toList.drop 51 = sxX10_init_51 := dSn 2 shX10_init_49
theorem shX10_init_54 : cX10_init.data.toList.drop 54 = sxX10_init_54 := dSn 3 shX10_init_51
theorem dX10_init_0 : decode cX10_init 0 = .ok (.aload_n 0, 1) := oc_42 shX10_init_0
theorem dX10_init_1 : decode cX10_init 1 = .ok (.invokespecial 3, 3) := oc_183 shX10_init_1
theorem dX10_init_4 : decode cX10_init 4 = .ok (.aload_n 0, 1) := oc_42 shX10_init_4
theorem dX10_init_5 : decode cX10_init 5 = .ok (.bipush 8, 2) := oc_16 shX10_init_5 sgb_8
theorem dX10_init_7 : decode cX10_init 7 = .ok (.newarray .int, 2) := oc_188_10 shX10_init_7
theorem dX10_init_9 : decode cX10_init 9 = .ok (.putfield 9, 3) := oc_181 shX10_init_9
theorem dX10_init_12 : decode cX10_init 12 = .ok (.aload_n 0, 1) := oc_42 shX10_init_12
theorem dX10_init_13 : decode cX10_init 13 = .ok (.bipush 8, 2) := oc_16 shX10_init_13 sgb_8
theorem dX10_init_15 : decode cX10_init 15 = .ok (.newarray .int, 2) := oc_188_10 shX10_init_15
theorem dX10_init_17 : decode cX10_init 17 = .ok (.putfield 15, 3) := oc_181 shX10_init_17
theorem dX10_init_20 : decode cX10_init 20 = .ok (.aload_n 0, 1) := oc_42 shX10_init_20
theorem dX10_init_21 : decode cX10_init 21 = .ok (.bipush 8, 2) := oc_16 shX10_init_21 sgb_8
theorem dX10_init_23 : decode cX10_init 23 = .ok (.newarray .int, 2) := oc_188_10 shX10_init_23
theorem dX10_init_25 : decode cX10_init 25 = .ok (.putfield 18, 3) := oc_181 shX10_init_25
theorem dX10_init_28 : decode cX10_init 28 = .ok (.aload_n 0, 1) := oc_42 shX10_init_28
theorem dX10_init_29 : decode cX10_init 29 = .ok (.bipush 8, 2) := oc_16 shX10_init_29 sgb_8
theorem dX10_init_31 : decode cX10_init 31 = .ok (.newarray .int, 2) := oc_188_10 shX10_init_31
theorem dX10_init_33 : decode cX10_init 33 = .ok (.putfield 21, 3) := oc_181 shX10_init_33
theorem dX10_init_36 : decode cX10_init 36 = .ok (.aload_n 0, 1) := oc_42 shX10_init_36
theorem dX10_init_37 : decode cX10_init 37 = .ok (.sipush 2048, 3) := oc_17 shX10_init_37 sgw_8_0
theorem dX10_init_40 : decode cX10_init 40 = .ok (.newarray .int, 2) := oc_188_10 shX10_init_40
theorem dX10_init_42 : decode cX10_init 42 = .ok (.putfield 24, 3) := oc_181 shX10_init_42
theorem dX10_init_45 : decode cX10_init 45 = .ok (.aload_n 0, 1) := oc_42 shX10_init_45
theorem dX10_init_46 : decode cX10_init 46 = .ok (.sipush 256, 3) := oc_17 shX10_init_46 sgw_1_0
theorem dX10_init_49 : decode cX10_init 49 = .ok (.newarray .int, 2) := oc_188_10 shX10_init_49
theorem dX10_init_51 : decode cX10_init 51 = .ok (.putfield 27, 3) := oc_181 shX10_init_51
theorem dX10_init_54 : decode cX10_init 54 = .ok (.return_, 1) := oc_177 shX10_init_54
def sxJxa1e45_init_da8c8_5 : List UInt8 := []
def sxJxa1e45_init_da8c8_4 : List UInt8 := 177 :: sxJxa1e45_init_da8c8_5
def sxJxa1e45_init_da8c8_1 : List UInt8 := 183 :: 0 :: 1 :: sxJxa1e45_init_da8c8_4
def sxJxa1e45_init_da8c8_0 : List UInt8 := 42 :: sxJxa1e45_init_da8c8_1
theorem shJxa1e45_init_da8c8_0 : cJxa1e45_init_da8c8.data.toList.drop 0 = sxJxa1e45_init_da8c8_0 := rfl
theorem shJxa1e45_init_da8c8_1 : cJxa1e45_init_da8c8.data.toList.drop 1 = sxJxa1e45_init_da8c8_1 := dSn 1 shJxa1e45_init_da8c8_0
theorem shJxa1e45_init_da8c8_4 : cJxa1e45_init_da8c8.data.toList.drop 4 = sxJxa1e45_init_da8c8_4 := dSn 3 shJxa1e45_init_da8c8_1
theorem dJxa1e45_init_da8c8_0 : decode cJxa1e45_init_da8c8 0 = .ok (.aload_n 0, 1) := oc_42 shJxa1e45_init_da8c8_0
theorem dJxa1e45_init_da8c8_1 : decode cJxa1e45_init_da8c8 1 = .ok (.invokespecial 1, 3) := oc_183 shJxa1e45_init_da8c8_1
theorem dJxa1e45_init_da8c8_4 : decode cJxa1e45_init_da8c8 4 = .ok (.return_, 1) := oc_177 shJxa1e45_init_da8c8_4
def sxJxc12de_init_da8c8_10 : List UInt8 := []
def sxJxc12de_init_da8c8_9 : List UInt8 := 177 :: sxJxc12de_init_da8c8_10
def sxJxc12de_init_da8c8_6 : List UInt8 := 181 :: 0 :: 7 :: sxJxc12de_init_da8c8_9
def sxJxc12de_init_da8c8_5 : List UInt8 := 3 :: sxJxc12de_init_da8c8_6
def sxJxc12de_init_da8c8_4 : List UInt8 := 42 :: sxJxc12de_init_da8c8_5
def sxJxc12de_init_da8c8_1 : List UInt8 := 183 :: 0 :: 1 :: sxJxc12de_init_da8c8_4
def sxJxc12de_init_da8c8_0 : List UInt8 := 42 :: sxJxc12de_init_da8c8_1
theorem shJxc12de_init_da8c8_0 : cJxc12de_init_da8c8.data.toList.drop 0 = sxJxc12de_init_da8c8_0 := rfl
theorem shJxc12de_init_da8c8_1 : cJxc12de_init_da8c8.data.toList.drop 1 = sxJxc12de_init_da8c8_1 := dSn 1 shJxc12de_init_da8c8_0
theorem shJxc12de_init_da8c8_4 : cJxc12de_init_da8c8.data.toList.drop 4 = sxJxc12de_init_da8c8_4 := dSn 3 shJxc12de_init_da8c8_1
theorem shJxc12de_init_da8c8_5 : cJxc12de_init_da8c8.data.toList.drop 5 = sxJxc12de_init_da8c8_5 := dSn 1 shJxc12de_init_da8c8_4
theorem shJxc12de_init_da8c8_6 : cJxc12de_init_da8c8.data.toList.drop 6 = sxJxc12de_init_da8c8_6 := dSn 1 shJxc12de_init_da8c8_5
theorem shJxc12de_init_da8c8_9 : cJxc12de_init_da8c8.data.toList.drop 9 = sxJxc12de_init_da8c8_9 := dSn 3 shJxc12de_init_da8c8_6
theorem dJxc12de_init_da8c8_0 : decode cJxc12de_init_da8c8 0 = .ok (.aload_n 0, 1) := oc_42 shJxc12de_init_da8c8_0
theorem dJxc12de_init_da8c8_1 : decode cJxc12de_init_da8c8 1 = .ok (.invokespecial 1, 3) := oc_183 shJxc12de_init_da8c8_1
theorem dJxc12de_init_da8c8_4 : decode cJxc12de_init_da8c8 4 = .ok (.aload_n 0, 1) := oc_42 shJxc12de_init_da8c8_4
theorem dJxc12de_init_da8c8_5 : decode cJxc12de_init_da8c8 5 = .ok (.iconst 0, 1) := oc_3 shJxc12de_init_da8c8_5
theorem dJxc12de_init_da8c8_6 : decode cJxc12de_init_da8c8 6 = .ok (.putfield 7, 3) := oc_181 shJxc12de_init_da8c8_6
theorem dJxc12de_init_da8c8_9 : decode cJxc12de_init_da8c8 9 = .ok (.return_, 1) := oc_177 shJxc12de_init_da8c8_9
def sxJx4a65c_init_da8c8_12 : List UInt8 := []
def sxJx4a65c_init_da8c8_11 : List UInt8 := 177 :: sxJx4a65c_init_da8c8_12
def sxJx4a65c_init_da8c8_8 : List UInt8 := 181 :: 0 :: 9 :: sxJx4a65c_init_da8c8_11
def sxJx4a65c_init_da8c8_5 : List UInt8 := 178 :: 0 :: 39 :: sxJx4a65c_init_da8c8_8
def sxJx4a65c_init_da8c8_4 : List UInt8 := 42 :: sxJx4a65c_init_da8c8_5
def sxJx4a65c_init_da8c8_1 : List UInt8 := 183 :: 0 :: 1 :: sxJx4a65c_init_da8c8_4
def sxJx4a65c_init_da8c8_0 : List UInt8 := 42 :: sxJx4a65c_init_da8c8_1
theorem shJx4a65c_init_da8c8_0 : cJx4a65c_init_da8c8.data.toList.drop 0 = sxJx4a65c_init_da8c8_0 := rfl
theorem shJx4a65c_init_da8c8_1 : cJx4a65c_init_da8c8.data.toList.drop 1 = sxJx4a65c_init_da8c8_1 := dSn 1 shJx4a65c_init_da8c8_0
theorem shJx4a65c_init_da8c8_4 : cJx4a65c_init_da8c8.data.toList.drop 4 = sxJx4a65c_init_da8c8_4 := dSn 3 shJx4a65c_init_da8c8_1
theorem shJx4a65c_init_da8c8_5 : cJx4a65c_init_da8c8.data.toList.drop 5 = sxJx4a65c_init_da8c8_5 := dSn 1 shJx4a65c_init_da8c8_4
theorem shJx4a65c_init_da8c8_8 : cJx4a65c_init_da8c8.data.toList.drop 8 = sxJx4a65c_init_da8c8_8 := dSn 3 shJx4a65c_init_da8c8_5
theorem shJx4a65c_init_da8c8_11 : cJx4a65c_init_da8c8.data.toList.drop 11 = sxJx4a65c_init_da8c8_11 := dSn 3 shJx4a65c_init_da8c8_8
theorem dJx4a65c_init_da8c8_0 : decode cJx4a65c_init_da8c8 0 = .ok (.aload_n 0, 1) := oc_42 shJx4a65c_init_da8c8_0
theorem dJx4a65c_init_da8c8_1 : decode cJx4a65c_init_da8c8 1 = .ok (.invokespecial 1, 3) := oc_183 shJx4a65c_init_da8c8_1
theorem dJx4a65c_init_da8c8_4 : decode cJx4a65c_init_da8c8 4 = .ok (.aload_n 0, 1) := oc_42 shJx4a65c_init_da8c8_4
theorem dJx4a65c_init_da8c8_5 : decode cJx4a65c_init_da8c8 5 = .ok (.getstatic 39, 3) := oc_178 shJx4a65c_init_da8c8_5
theorem dJx4a65c_init_da8c8_8 : decode cJx4a65c_init_da8c8 8 = .ok (.putfield 9, 3) := oc_181 shJx4a65c_init_da8c8_8
theorem dJx4a65c_init_da8c8_11 : decode cJx4a65c_init_da8c8 11 = .ok (.return_, 1) := oc_177 shJx4a65c_init_da8c8_11
def sxX11_init_138 : List UInt8 := []
def sxX11_init_137 : List UInt8 := 177 :: sxX11_init_138
def sxX11_init_134 : List UInt8 := 181 :: 0 :: 77 :: sxX11_init_137
def sxX11_init_131 : List UInt8 := 183 :: 0 :: 60 :: sxX11_init_134
def sxX11_init_130 : List UInt8 := 89 :: sxX11_init_131
def sxX11_init_127 : List UInt8 := 187 :: 0 :: 58 :: sxX11_init_130
def sxX11_init_126 : List UInt8 := 42 :: sxX11_init_127
def sxX11_init_123 : List UInt8 := 181 :: 0 :: 74 :: sxX11_init_126
def sxX11_init_120 : List UInt8 := 183 :: 0 :: 60 :: sxX11_init_123
def sxX11_init_119 : List UInt8 := 89 :: sxX11_init_120
def sxX11_init_116 : List UInt8 := 187 :: 0 :: 58 :: sxX11_init_119
def sxX11_init_115 : List UInt8 := 42 :: sxX11_init_116
def sxX11_init_112 : List UInt8 := 181 :: 0 :: 71 :: sxX11_init_115
def sxX11_init_109 : List UInt8 := 183 :: 0 :: 60 :: sxX11_init_112
def sxX11_init_108 : List UInt8 := 89 :: sxX11_init_109
def sxX11_init_105 : List UInt8 := 187 :: 0 :: 58 :: sxX11_init_108
def sxX11_init_104 : List UInt8 := 42 :: sxX11_init_105
def sxX11_init_101 : List UInt8 := 181 :: 0 :: 68 :: sxX11_init_104
def sxX11_init_98 : List UInt8 := 183 :: 0 :: 60 :: sxX11_init_101
def sxX11_init_97 : List UInt8 := 89 :: sxX11_init_98
def sxX11_init_94 : List UInt8 := 187 :: 0 :: 58 :: sxX11_init_97
def sxX11_init_93 : List UInt8 := 42 :: sxX11_init_94
def sxX11_init_90 : List UInt8 := 181 :: 0 :: 65 :: sxX11_init_93
def sxX11_init_87 : List UInt8 := 183 :: 0 :: 60 :: sxX11_init_90
def sxX11_init_86 : List UInt8 := 89 :: sxX11_init_87
def sxX11_init_83 : List UInt8 := 187 :: 0 :: 58 :: sxX11_init_86
def sxX11_init_82 : List UInt8 := 42 :: sxX11_init_83
def sxX11_init_79 : List UInt8 := 181 :: 0 :: 61 :: sxX11_init_82
def sxX11_init_76 : List UInt8 := 183 :: 0 :: 60 :: sxX11_init_79
def sxX11_init_75 : List UInt8 := 89 :: sxX11_init_76
def sxX11_init_72 : List UInt8 := 187 :: 0 :: 58 :: sxX11_init_75
def sxX11_init_71 : List UInt8 := 42 :: sxX11_init_72
def sxX11_init_68 : List UInt8 := 181 :: 0 :: 54 :: sxX11_init_71
def sxX11_init_65 : List UInt8 := 183 :: 0 :: 53 :: sxX11_init_68
def sxX11_init_64 : List UInt8 := 89 :: sxX11_init_65
def sxX11_init_61 : List UInt8 := 187 :: 0 :: 51 :: sxX11_init_64
def sxX11_init_60 : List UInt8 := 42 :: sxX11_init_61
def sxX11_init_57 : List UInt8 := 181 :: 0 :: 47 :: sxX11_init_60
def sxX11_init_54 : List UInt8 := 183 :: 0 :: 46 :: sxX11_init_57
def sxX11_init_53 : List UInt8 := 89 :: sxX11_init_54
def sxX11_init_50 : List UInt8 := 187 :: 0 :: 44 :: sxX11_init_53
def sxX11_init_49 : List UInt8 := 42 :: sxX11_init_50
def sxX11_init_46 : List UInt8 := 181 :: 0 :: 40 :: sxX11_init_49
def sxX11_init_44 : List UInt8 := 188 :: 10 :: sxX11_init_46
def sxX11_init_41 : List UInt8 := 182 :: 0 :: 34 :: sxX11_init_44
def sxX11_init_39 : List UInt8 := 18 :: 32 :: sxX11_init_41
def sxX11_init_38 : List UInt8 := 42 :: sxX11_init_39
def sxX11_init_35 : List UInt8 := 181 :: 0 :: 28 :: sxX11_init_38
def sxX11_init_32 : List UInt8 := 183 :: 0 :: 27 :: sxX11_init_35
def sxX11_init_31 : List UInt8 := 89 :: sxX11_init_32
def sxX11_init_28 : List UInt8 := 187 :: 0 :: 25 :: sxX11_init_31
def sxX11_init_27 : List UInt8 := 42 :: sxX11_init_28
def sxX11_init_24 : List UInt8 := 181 :: 0 :: 21 :: sxX11_init_27
def sxX11_init_21 : List UInt8 := 183 :: 0 :: 20 :: sxX11_init_24
def sxX11_init_20 : List UInt8 := 89 :: sxX11_init_21
def sxX11_init_17 : List UInt8 := 187 :: 0 :: 18 :: sxX11_init_20
def sxX11_init_16 : List UInt8 := 42 :: sxX11_init_17
def sxX11_init_13 : List UInt8 := 181 :: 0 :: 12 :: sxX11_init_16
def sxX11_init_10 : List UInt8 := 183 :: 0 :: 9 :: sxX11_init_13
def sxX11_init_9 : List UInt8 := 3 :: sxX11_init_10
def sxX11_init_8 : List UInt8 := 89 :: sxX11_init_9
def sxX11_init_5 : List UInt8 := 187 :: 0 :: 7 :: sxX11_init_8
def sxX11_init_4 : List UInt8 := 42 :: sxX11_init_5
def sxX11_init_1 : List UInt8 := 183 :: 0 :: 1 :: sxX11_init_4
def sxX11_init_0 : List UInt8 := 42 :: sxX11_init_1
theorem shX11_init_0 : cX11_init.data.toList.drop 0 = sxX11_init_0 := rfl
theorem shX11_init_1 : cX11_init.data.toList.drop 1 = sxX11_init_1 := dSn 1 shX11_init_0
theorem shX11_init_4 : cX11_init.data.toList.drop 4 = sxX11_init_4 := dSn 3 shX11_init_1
theorem shX11_init_5 : cX11_init.data.toList.drop 5 = sxX11_init_5 := dSn 1 shX11_init_4
theorem shX11_init_8 : cX11_init.data.toList.drop 8 = sxX11_init_8 := dSn 3 shX11_init_5
theorem shX11_init_9 : cX11_init.data.toList.drop 9 = sxX11_init_9 := dSn 1 shX11_init_8
theorem shX11_init_10 : cX11_init.data.toList.drop 10 = sxX11_init_10 := dSn 1 shX11_init_9
theorem shX11_init_13 : cX11_init.data.toList.drop 13 = sxX11_init_13 := dSn 3 shX11_init_10
theorem shX11_init_16 : cX11_init.data.toList.drop 16 = sxX11_init_16 := dSn 3 shX11_init_13
theorem shX11_init_17 : cX11_init.data.toList.drop 17 = sxX11_init_17 := dSn 1 shX11_init_16
theorem shX11_init_20 : cX11_init.data.toList.drop 20 = sxX11_init_20 := dSn 3 shX11_init_17
theorem shX11_init_21 : cX11_init.data.toList.drop 21 = sxX11_init_21 := dSn 1 shX11_init_20
theorem shX11_init_24 : cX11_init.data.toList.drop 24 = sxX11_init_24 := dSn 3 shX11_init_21
theorem shX11_init_27 : cX11_init.data.toList.drop 27 = sxX11_init_27 := dSn 3 shX11_init_24
theorem shX11_init_28 : cX11_init.data.toList.drop 28 = sxX11_init_28 := dSn 1 shX11_init_27
theorem shX11_init_31 : cX11_init.data.toList.drop 31 = sxX11_init_31 := dSn 3 shX11_init_28
theorem shX11_init_32 : cX11_init.data.toList.drop 32 = sxX11_init_32 := dSn 1 shX11_init_31
theorem shX11_init_35 : cX11_init.data.toList.drop 35 = sxX11_init_35 := dSn 3 shX11_init_32
theorem shX11_init_38 : cX11_init.data.toList.drop 38 = sxX11_init_38 := dSn 3 shX11_init_35
theorem shX11_init_39 : cX11_init.data.toList.drop 39 = sxX11_init_39 := dSn 1 shX11_init_38
theorem shX11_init_41 : cX11_init.data.toList.drop 41 = sxX11_init_41 := dSn 2 shX11_init_39
theorem shX11_init_44 : cX11_init.data.toList.drop 44 = sxX11_init_44 := dSn 3 shX11_init_41
theorem shX11_init_46 : cX11_init.data.toList.drop 46 = sxX11_init_46 := dSn 2 shX11_init_44
theorem shX11_init_49 : cX11_init.data.toList.drop 49 = sxX11_init_49 := dSn 3 shX11_init_46
theorem shX11_init_50 : cX11_init.data.toList.drop 50 = sxX11_init_50 := dSn 1 shX11_init_49
theorem shX11_init_53 : cX11_init.data.toList.drop 53 = sxX11_init_53 := dSn 3 shX11_init_50
theorem shX11_init_54 : cX11_init.data.toList.drop 54 = sxX11_init_54 := dSn 1 shX11_init_53
theorem shX11_init_57 : cX11_init.data.toList.drop 57 = sxX11_init_57 := dSn 3 shX11_init_54
theorem shX11_init_60 : cX11_init.data.toList.drop 60 = sxX11_init_60 := dSn 3 shX11_init_57
theorem shX11_init_61 : cX11_init.data.toList.drop 61 = sxX11_init_61 := dSn 1 shX11_init_60
theorem shX11_init_64 : cX11_init.data.toList.drop 64 = sxX11_init_64 := dSn 3 shX11_init_61
theorem shX11_init_65 : cX11_init.data.toList.drop 65 = sxX11_init_65 := dSn 1 shX11_init_64
theorem shX11_init_68 : cX11_init.data.toList.drop 68 = sxX11_init_68 := dSn 3 shX11_init_65
theorem shX11_init_71 : cX11_init.data.toList.drop 71 = sxX11_init_71 := dSn 3 shX11_init_68
theorem shX11_init_72 : cX11_init.data.toList.drop 72 = sxX11_init_72 := dSn 1 shX11_init_71
theorem shX11_init_75 : cX11_init.data.toList.drop 75 = sxX11_init_75 := dSn 3 shX11_init_72
theorem shX11_init_76 : cX11_init.data.toList.drop 76 = sxX11_init_76 := dSn 1 shX11_init_75
theorem shX11_init_79 : cX11_init.data.toList.drop 79 = sxX11_init_79 := dSn 3 shX11_init_76
theorem shX11_init_82 : cX11_init.data.toList.drop 82 = sxX11_init_82 := dSn 3 shX11_init_79
theorem shX11_init_83 : cX11_init.data.toList.drop 83 = sxX11_init_83 := dSn 1 shX11_init_82
theorem shX11_init_86 : cX11_init.data.toList.drop 86 = sxX11_init_86 := dSn 3 shX11_init_83
theorem shX11_init_87 : cX11_init.data.toList.drop 87 = sxX11_init_87 := dSn 1 shX11_init_86
theorem shX11_init_90 : cX11_init.data.toList.drop 90 = sxX11_init_90 := dSn 3 shX11_init_87
theorem shX11_init_93 : cX11_init.data.toList.drop 93 = sxX11_init_93 := dSn 3 shX11_init_90
theorem shX11_init_94 : cX11_init.data.toList.drop 94 = sxX11_init_94 := dSn 1 shX11_init_93
theorem shX11_init_97 : cX11_init.data.toList.drop 97 = sxX11_init_97 := dSn 3 shX11_init_94
theorem shX11_init_98 : cX11_init.data.toList.drop 98 = sxX11_init_98 := dSn 1 shX11_init_97
theorem shX11_init_101 : cX11_init.data.toList.drop 101 = sxX11_init_101 := dSn 3 shX11_init_98
theorem shX11_init_104 : cX11_init.data.toList.drop 104 = sxX11_init_104 := dSn 3 shX11_init_101
theorem shX11_init_105 : cX11_init.data.toList.drop 105 = sxX11_init_105 := dSn 1 shX11_init_104
theorem shX11_init_108 : cX11_init.data.toList.drop 108 = sxX11_init_108 := dSn 3 shX11_init_105
theorem shX11_init_109 : cX11_init.data.toList.drop 109 = sxX11_init_109 := dSn 1 shX11_init_108
theorem shX11_init_112 : cX11_init.data.toList.drop 112 = sxX11_init_112 := dSn 3 shX11_init_109
theorem shX11_init_115 : cX11_init.data.toList.drop 115 = sxX11_init_115 := dSn 3 shX11_init_112
theorem shX11_init_116 : cX11_init.data.toList.drop 116 = sxX11_init_116 := dSn 1 shX11_init_115
theorem shX11_init_119 : cX11_init.data.toList.drop 119 = sxX11_init_119 := dSn 3 shX11_init_116
theorem shX11_init_120 : cX11_init.data.toList.drop 120 = sxX11_init_120 := dSn 1 shX11_init_119
theorem shX11_init_123 : cX11_init.data.toList.drop 123 = sxX11_init_123 := dSn 3 shX11_init_120
theorem shX11_init_126 : cX11_init.data.toList.drop 126 = sxX11_init_126 := dSn 3 shX11_init_123
theorem shX11_init_127 : cX11_init.data.toList.drop 127 = sxX11_init_127 := dSn 1 shX11_init_126
theorem shX11_init_130 : cX11_init.data.toList.drop 130 = sxX11_init_130 := dSn 3 shX11_init_127
theorem shX11_init_131 : cX11_init.data.toList.drop 131 = sxX11_init_131 := dSn 1 shX11_init_130
theorem shX11_init_134 : cX11_init.data.toList.drop 134 = sxX11_init_134 := dSn 3 shX11_init_131
theorem shX11_init_137 : cX11_init.data.toList.drop 137 = sxX11_init_137 := dSn 3 shX11_init_134
theorem dX11_init_0 : decode cX11_init 0 = .ok (.aload_n 0, 1) := oc_42 shX11_init_0
theorem dX11_init_1 : decode cX11_init 1 = .ok (.invokespecial 1, 3) := oc_183 shX11_init_1
theorem dX11_init_4 : decode cX11_init 4 = .ok (.aload_n 0, 1) := oc_42 shX11_init_4
theorem dX11_init_5 : decode cX11_init 5 = .ok (.new 7, 3) := oc_187 shX11_init_5
theorem dX11_init_8 : decode cX11_init 8 = .ok (.dup, 1) := oc_89 shX11_init_8
theorem dX11_init_9 : decode cX11_init 9 = .ok (.iconst 0, 1) := oc_3 shX11_init_9
theorem dX11_init_10 : decode cX11_init 10 = .ok (.invokespecial 9, 3) := oc_183 shX11_init_10
theorem dX11_init_13 : decode cX11_init 13 = .ok (.putfield 12, 3) := oc_181 shX11_init_13
theorem dX11_init_16 : decode cX11_init 16 = .ok (.aload_n 0, 1) := oc_42 shX11_init_16
theorem dX11_init_17 : decode cX11_init 17 = .ok (.new 18, 3) := oc_187 shX11_init_17
theorem dX11_init_20 : decode cX11_init 20 = .ok (.dup, 1) := oc_89 shX11_init_20
theorem dX11_init_21 : decode cX11_init 21 = .ok (.invokespecial 20, 3) := oc_183 shX11_init_21
theorem dX11_init_24 : decode cX11_init 24 = .ok (.putfield 21, 3) := oc_181 shX11_init_24
theorem dX11_init_27 : decode cX11_init 27 = .ok (.aload_n 0, 1) := oc_42 shX11_init_27
theorem dX11_init_28 : decode cX11_init 28 = .ok (.new 25, 3) := oc_187 shX11_init_28
theorem dX11_init_31 : decode cX11_init 31 = .ok (.dup, 1) := oc_89 shX11_init_31
theorem dX11_init_32 : decode cX11_init 32 = .ok (.invokespecial 27, 3) := oc_183 shX11_init_32
theorem dX11_init_35 : decode cX11_init 35 = .ok (.putfield 28, 3) := oc_181 shX11_init_35
theorem dX11_init_38 : decode cX11_init 38 = .ok (.aload_n 0, 1) := oc_42 shX11_init_38
theorem dX11_init_39 : decode cX11_init 39 = .ok (.ldc 32, 2) := oc_18 shX11_init_39
theorem dX11_init_41 : decode cX11_init 41 = .ok (.invokevirtual 34, 3) := oc_182 shX11_init_41
theorem dX11_init_44 : decode cX11_init 44 = .ok (.newarray .int, 2) := oc_188_10 shX11_init_44
theorem dX11_init_46 : decode cX11_init 46 = .ok (.putfield 40, 3) := oc_181 shX11_init_46
theorem dX11_init_49 : decode cX11_init 49 = .ok (.aload_n 0, 1) := oc_42 shX11_init_49
theorem dX11_init_50 : decode cX11_init 50 = .ok (.new 44, 3) := oc_187 shX11_init_50
theorem dX11_init_53 : decode cX11_init 53 = .ok (.dup, 1) := oc_89 shX11_init_53
theorem dX11_init_54 : decode cX11_init 54 = .ok (.invokespecial 46, 3) := oc_183 shX11_init_54
theorem dX11_init_57 : decode cX11_init 57 = .ok (.putfield 47, 3) := oc_181 shX11_init_57
theorem dX11_init_60 : decode cX11_init 60 = .ok (.aload_n 0, 1) := oc_42 shX11_init_60
theorem dX11_init_61 : decode cX11_init 61 = .ok (.new 51, 3) := oc_187 shX11_init_61
theorem dX11_init_64 : decode cX11_init 64 = .ok (.dup, 1) := oc_89 shX11_init_64
theorem dX11_init_65 : decode cX11_init 65 = .ok (.invokespecial 53, 3) := oc_183 shX11_init_65
theorem dX11_init_68 : decode cX11_init 68 = .ok (.putfield 54, 3) := oc_181 shX11_init_68
theorem dX11_init_71 : decode cX11_init 71 = .ok (.aload_n 0, 1) := oc_42 shX11_init_71
theorem dX11_init_72 : decode cX11_init 72 = .ok (.new 58, 3) := oc_187 shX11_init_72
theorem dX11_init_75 : decode cX11_init 75 = .ok (.dup, 1) := oc_89 shX11_init_75
theorem dX11_init_76 : decode cX11_init 76 = .ok (.invokespecial 60, 3) := oc_183 shX11_init_76
theorem dX11_init_79 : decode cX11_init 79 = .ok (.putfield 61, 3) := oc_181 shX11_init_79
theorem dX11_init_82 : decode cX11_init 82 = .ok (.aload_n 0, 1) := oc_42 shX11_init_82
theorem dX11_init_83 : decode cX11_init 83 = .ok (.new 58, 3) := oc_187 shX11_init_83
theorem dX11_init_86 : decode cX11_init 86 = .ok (.dup, 1) := oc_89 shX11_init_86
theorem dX11_init_87 : decode cX11_init 87 = .ok (.invokespecial 60, 3) := oc_183 shX11_init_87
theorem dX11_init_90 : decode cX11_init 90 = .ok (.putfield 65, 3) := oc_181 shX11_init_90
theorem dX11_init_93 : decode cX11_init 93 = .ok (.aload_n 0, 1) := oc_42 shX11_init_93
theorem dX11_init_94 : decode cX11_init 94 = .ok (.new 58, 3) := oc_187 shX11_init_94
theorem dX11_init_97 : decode cX11_init 97 = .ok (.dup, 1) := oc_89 shX11_init_97
theorem dX11_init_98 : decode cX11_init 98 = .ok (.invokespecial 60, 3) := oc_183 shX11_init_98
theorem dX11_init_101 : decode cX11_init 101 = .ok (.putfield 68, 3) := oc_181 shX11_init_101
theorem dX11_init_104 : decode cX11_init 104 = .ok (.aload_n 0, 1) := oc_42 shX11_init_104
theorem dX11_init_105 : decode cX11_init 105 = .ok (.new 58, 3) := oc_187 shX11_init_105
theorem dX11_init_108 : decode cX11_init 108 = .ok (.dup, 1) := oc_89 shX11_init_108
theorem dX11_init_109 : decode cX11_init 109 = .ok (.invokespecial 60, 3) := oc_183 shX11_init_109
theorem dX11_init_112 : decode cX11_init 112 = .ok (.putfield 71, 3) := oc_181 shX11_init_112
theorem dX11_init_115 : decode cX11_init 115 = .ok (.aload_n 0, 1) := oc_42 shX11_init_115
theorem dX11_init_116 : decode cX11_init 116 = .ok (.new 58, 3) := oc_187 shX11_init_116
theorem dX11_init_119 : decode cX11_init 119 = .ok (.dup, 1) := oc_89 shX11_init_119
theorem dX11_init_120 : decode cX11_init 120 = .ok (.invokespecial 60, 3) := oc_183 shX11_init_120
theorem dX11_init_123 : decode cX11_init 123 = .ok (.putfield 74, 3) := oc_181 shX11_init_123
theorem dX11_init_126 : decode cX11_init 126 = .ok (.aload_n 0, 1) := oc_42 shX11_init_126
theorem dX11_init_127 : decode cX11_init 127 = .ok (.new 58, 3) := oc_187 shX11_init_127
theorem dX11_init_130 : decode cX11_init 130 = .ok (.dup, 1) := oc_89 shX11_init_130
theorem dX11_init_131 : decode cX11_init 131 = .ok (.invokespecial 60, 3) := oc_183 shX11_init_131
theorem dX11_init_134 : decode cX11_init 134 = .ok (.putfield 77, 3) := oc_181 shX11_init_134
theorem dX11_init_137 : decode cX11_init 137 = .ok (.return_, 1) := oc_177 shX11_init_137
def sxX12_init_550 : List UInt8 := []
def sxX12_init_549 : List UInt8 := 177 :: sxX12_init_550
def sxX12_init_546 : List UInt8 := 167 :: 255 :: 238 :: sxX12_init_549
def sxX12_init_543 : List UInt8 := 132 :: 1 :: 1 :: sxX12_init_546
def sxX12_init_542 : List UInt8 := 79 :: sxX12_init_543
def sxX12_init_540 : List UInt8 := 16 :: 15 :: sxX12_init_542
def sxX12_init_539 : List UInt8 := 27 :: sxX12_init_540
def sxX12_init_536 : List UInt8 := 180 :: 0 :: 201 :: sxX12_init_539
def sxX12_init_535 : List UInt8 := 42 :: sxX12_init_536
def sxX12_init_532 : List UInt8 := 162 :: 0 :: 17 :: sxX12_init_535
def sxX12_init_529 : List UInt8 := 17 :: 1 :: 144 :: sxX12_init_532
def sxX12_init_528 : List UInt8 := 27 :: sxX12_init_529
def sxX12_init_527 : List UInt8 := 60 :: sxX12_init_528
def sxX12_init_526 : List UInt8 := 3 :: sxX12_init_527
def sxX12_init_523 : List UInt8 := 181 :: 0 :: 201 :: sxX12_init_526
def sxX12_init_521 : List UInt8 := 188 :: 10 :: sxX12_init_523
def sxX12_init_518 : List UInt8 := 17 :: 1 :: 144 :: sxX12_init_521
def sxX12_init_517 : List UInt8 := 42 :: sxX12_init_518
def sxX12_init_514 : List UInt8 := 181 :: 0 :: 198 :: sxX12_init_517
def sxX12_init_512 : List UInt8 := 188 :: 10 :: sxX12_init_514
def sxX12_init_510 : List UInt8 := 16 :: 10 :: sxX12_init_512
def sxX12_init_509 : List UInt8 := 42 :: sxX12_init_510
def sxX12_init_506 : List UInt8 := 181 :: 0 :: 195 :: sxX12_init_509
def sxX12_init_504 : List UInt8 := 188 :: 10 :: sxX12_init_506
def sxX12_init_502 : List UInt8 := 16 :: 10 :: sxX12_init_504
def sxX12_init_501 : List UInt8 := 42 :: sxX12_init_502
def sxX12_init_498 : List UInt8 := 181 :: 0 :: 192 :: sxX12_init_501
def sxX12_init_496 : List UInt8 := 188 :: 10 :: sxX12_init_498
def sxX12_init_494 : List UInt8 := 16 :: 10 :: sxX12_init_496
def sxX12_init_493 : List UInt8 := 42 :: sxX12_init_494
def sxX12_init_490 : List UInt8 := 181 :: 0 :: 189 :: sxX12_init_493
def sxX12_init_488 : List UInt8 := 188 :: 10 :: sxX12_init_490
def sxX12_init_486 : List UInt8 := 16 :: 24 :: sxX12_init_488
def sxX12_init_485 : List UInt8 := 42 :: sxX12_init_486
def sxX12_init_482 : List UInt8 := 181 :: 0 :: 186 :: sxX12_init_485
def sxX12_init_480 : List UInt8 := 188 :: 10 :: sxX12_init_482
def sxX12_init_478 : List UInt8 := 16 :: 10 :: sxX12_init_480
def sxX12_init_477 : List UInt8 := 42 :: sxX12_init_478
def sxX12_init_474 : List UInt8 := 181 :: 0 :: 183 :: sxX12_init_477
def sxX12_init_472 : List UInt8 := 188 :: 10 :: sxX12_init_474
def sxX12_init_470 : List UInt8 := 16 :: 10 :: sxX12_init_472
def sxX12_init_469 : List UInt8 := 42 :: sxX12_init_470
def sxX12_init_466 : List UInt8 := 181 :: 0 :: 180 :: sxX12_init_469
def sxX12_init_464 : List UInt8 := 188 :: 10 :: sxX12_init_466
def sxX12_init_462 : List UInt8 := 16 :: 40 :: sxX12_init_464
def sxX12_init_461 : List UInt8 := 42 :: sxX12_init_462
def sxX12_init_458 : List UInt8 := 181 :: 0 :: 177 :: sxX12_init_461
def sxX12_init_456 : List UInt8 := 188 :: 10 :: sxX12_init_458
def sxX12_init_454 : List UInt8 := 16 :: 40 :: sxX12_init_456
def sxX12_init_453 : List UInt8 := 42 :: sxX12_init_454
def sxX12_init_450 : List UInt8 := 181 :: 0 :: 174 :: sxX12_init_453
def sxX12_init_448 : List UInt8 := 188 :: 10 :: sxX12_init_450
def sxX12_init_446 : List UInt8 := 16 :: 120 :: sxX12_init_448
def sxX12_init_445 : List UInt8 := 42 :: sxX12_init_446
def sxX12_init_442 : List UInt8 := 181 :: 0 :: 171 :: sxX12_init_445
def sxX12_init_440 : List UInt8 := 188 :: 10 :: sxX12_init_442
def sxX12_init_438 : List UInt8 := 16 :: 10 :: sxX12_init_440
def sxX12_init_437 : List UInt8 := 42 :: sxX12_init_438
def sxX12_init_434 : List UInt8 := 181 :: 0 :: 168 :: sxX12_init_437
def sxX12_init_432 : List UInt8 := 188 :: 10 :: sxX12_init_434
def sxX12_init_430 : List UInt8 := 16 :: 10 :: sxX12_init_432
def sxX12_init_429 : List UInt8 := 42 :: sxX12_init_430
def sxX12_init_426 : List UInt8 := 181 :: 0 :: 165 :: sxX12_init_429
def sxX12_init_424 : List UInt8 := 188 :: 10 :: sxX12_init_426
def sxX12_init_421 : List UInt8 := 17 :: 0 :: 232 :: sxX12_init_424
def sxX12_init_420 : List UInt8 := 42 :: sxX12_init_421
def sxX12_init_417 : List UInt8 := 181 :: 0 :: 162 :: sxX12_init_420
def sxX12_init_415 : List UInt8 := 188 :: 10 :: sxX12_init_417
def sxX12_init_413 : List UInt8 := 16 :: 10 :: sxX12_init_415
def sxX12_init_412 : List UInt8 := 42 :: sxX12_init_413
def sxX12_init_409 : List UInt8 := 181 :: 0 :: 159 :: sxX12_init_412
def sxX12_init_407 : List UInt8 := 188 :: 10 :: sxX12_init_409
def sxX12_init_405 : List UInt8 := 16 :: 12 :: sxX12_init_407
def sxX12_init_404 : List UInt8 := 42 :: sxX12_init_405
def sxX12_init_401 : List UInt8 := 181 :: 0 :: 156 :: sxX12_init_404
def sxX12_init_399 : List UInt8 := 188 :: 10 :: sxX12_init_401
def sxX12_init_397 : List UInt8 := 16 :: 40 :: sxX12_init_399
def sxX12_init_396 : List UInt8 := 42 :: sxX12_init_397
def sxX12_init_393 : List UInt8 := 181 :: 0 :: 153 :: sxX12_init_396
def sxX12_init_391 : List UInt8 := 188 :: 10 :: sxX12_init_393
def sxX12_init_389 : List UInt8 := 16 :: 40 :: sxX12_init_391
def sxX12_init_388 : List UInt8 := 42 :: sxX12_init_389
def sxX12_init_385 : List UInt8 := 181 :: 0 :: 150 :: sxX12_init_388
def sxX12_init_383 : List UInt8 := 188 :: 10 :: sxX12_init_385
def sxX12_init_381 : List UInt8 := 16 :: 40 :: sxX12_init_383
def sxX12_init_380 : List UInt8 := 42 :: sxX12_init_381
def sxX12_init_377 : List UInt8 := 181 :: 0 :: 147 :: sxX12_init_380
def sxX12_init_375 : List UInt8 := 188 :: 10 :: sxX12_init_377
def sxX12_init_373 : List UInt8 := 16 :: 40 :: sxX12_init_375
def sxX12_init_372 : List UInt8 := 42 :: sxX12_init_373
def sxX12_init_369 : List UInt8 := 181 :: 0 :: 144 :: sxX12_init_372
def sxX12_init_367 : List UInt8 := 188 :: 10 :: sxX12_init_369
def sxX12_init_365 : List UInt8 := 16 :: 40 :: sxX12_init_367
def sxX12_init_364 : List UInt8 := 42 :: sxX12_init_365
def sxX12_init_361 : List UInt8 := 181 :: 0 :: 141 :: sxX12_init_364
def sxX12_init_359 : List UInt8 := 188 :: 10 :: sxX12_init_361
def sxX12_init_357 : List UInt8 := 16 :: 10 :: sxX12_init_359
def sxX12_init_356 : List UInt8 := 42 :: sxX12_init_357
def sxX12_init_353 : List UInt8 := 181 :: 0 :: 138 :: sxX12_init_356
def sxX12_init_351 : List UInt8 := 188 :: 10 :: sxX12_init_353
def sxX12_init_349 : List UInt8 := 16 :: 10 :: sxX12_init_351
def sxX12_init_348 : List UInt8 := 42 :: sxX12_init_349
def sxX12_init_345 : List UInt8 := 181 :: 0 :: 135 :: sxX12_init_348
def sxX12_init_343 : List UInt8 := 188 :: 10 :: sxX12_init_345
def sxX12_init_341 : List UInt8 := 16 :: 60 :: sxX12_init_343
def sxX12_init_340 : List UInt8 := 42 :: sxX12_init_341
def sxX12_init_337 : List UInt8 := 181 :: 0 :: 132 :: sxX12_init_340
def sxX12_init_335 : List UInt8 := 188 :: 10 :: sxX12_init_337
def sxX12_init_333 : List UInt8 := 16 :: 60 :: sxX12_init_335
def sxX12_init_332 : List UInt8 := 42 :: sxX12_init_333
def sxX12_init_329 : List UInt8 := 181 :: 0 :: 129 :: sxX12_init_332
def sxX12_init_327 : List UInt8 := 188 :: 10 :: sxX12_init_329
def sxX12_init_325 : List UInt8 := 16 :: 60 :: sxX12_init_327
def sxX12_init_324 : List UInt8 := 42 :: sxX12_init_325
def sxX12_init_321 : List UInt8 := 181 :: 0 :: 125 :: sxX12_init_324
def sxX12_init_319 : List UInt8 := 188 :: 4 :: sxX12_init_321
def sxX12_init_316 : List UInt8 := 17 :: 4 :: 176 :: sxX12_init_319
def sxX12_init_315 : List UInt8 := 42 :: sxX12_init_316
def sxX12_init_312 : List UInt8 := 181 :: 0 :: 122 :: sxX12_init_315
def sxX12_init_310 : List UInt8 := 188 :: 10 :: sxX12_init_312
def sxX12_init_308 : List UInt8 := 16 :: 10 :: sxX12_init_310
def sxX12_init_307 : List UInt8 := 42 :: sxX12_init_308
def sxX12_init_304 : List UInt8 := 181 :: 0 :: 119 :: sxX12_init_307
def sxX12_init_302 : List UInt8 := 188 :: 10 :: sxX12_init_304
def sxX12_init_300 : List UInt8 := 16 :: 6 :: sxX12_init_302
def sxX12_init_299 : List UInt8 := 42 :: sxX12_init_300
def sxX12_init_296 : List UInt8 := 181 :: 0 :: 116 :: sxX12_init_299
def sxX12_init_294 : List UInt8 := 188 :: 10 :: sxX12_init_296
def sxX12_init_292 : List UInt8 := 16 :: 6 :: sxX12_init_294
def sxX12_init_291 : List UInt8 := 42 :: sxX12_init_292
def sxX12_init_288 : List UInt8 := 181 :: 0 :: 113 :: sxX12_init_291
def sxX12_init_286 : List UInt8 := 188 :: 10 :: sxX12_init_288
def sxX12_init_285 : List UInt8 := 6 :: sxX12_init_286
def sxX12_init_284 : List UInt8 := 42 :: sxX12_init_285
def sxX12_init_281 : List UInt8 := 181 :: 0 :: 110 :: sxX12_init_284
def sxX12_init_279 : List UInt8 := 188 :: 10 :: sxX12_init_281
def sxX12_init_278 : List UInt8 := 6 :: sxX12_init_279
def sxX12_init_277 : List UInt8 := 42 :: sxX12_init_278
def sxX12_init_274 : List UInt8 := 181 :: 0 :: 107 :: sxX12_init_277
def sxX12_init_272 : List UInt8 := 188 :: 10 :: sxX12_init_274
def sxX12_init_271 : List UInt8 := 6 :: sxX12_init_272
def sxX12_init_270 : List UInt8 := 42 :: sxX12_init_271
def sxX12_init_267 : List UInt8 := 181 :: 0 :: 104 :: sxX12_init_270
def sxX12_init_265 : List UInt8 := 188 :: 10 :: sxX12_init_267
def sxX12_init_262 : List UInt8 := 17 :: 8 :: 0 :: sxX12_init_265
def sxX12_init_261 : List UInt8 := 42 :: sxX12_init_262
def sxX12_init_258 : List UInt8 := 181 :: 0 :: 101 :: sxX12_init_261
def sxX12_init_256 : List UInt8 := 188 :: 10 :: sxX12_init_258
def sxX12_init_254 : List UInt8 := 16 :: 10 :: sxX12_init_256
def sxX12_init_253 : List UInt8 := 42 :: sxX12_init_254
def sxX12_init_250 : List UInt8 := 181 :: 0 :: 98 :: sxX12_init_253
def sxX12_init_248 : List UInt8 := 188 :: 10 :: sxX12_init_250
def sxX12_init_245 : List UInt8 := 17 :: 1 :: 144 :: sxX12_init_248
def sxX12_init_244 : List UInt8 := 42 :: sxX12_init_245
def sxX12_init_241 : List UInt8 := 181 :: 0 :: 95 :: sxX12_init_244
def sxX12_init_239 : List UInt8 := 188 :: 10 :: sxX12_init_241
def sxX12_init_237 : List UInt8 := 16 :: 10 :: sxX12_init_239
def sxX12_init_236 : List UInt8 := 42 :: sxX12_init_237
def sxX12_init_233 : List UInt8 := 181 :: 0 :: 92 :: sxX12_init_236
def sxX12_init_231 : List UInt8 := 188 :: 10 :: sxX12_init_233
def sxX12_init_229 : List UInt8 := 16 :: 58 :: sxX12_init_231
def sxX12_init_228 : List UInt8 := 42 :: sxX12_init_229
def sxX12_init_225 : List UInt8 := 181 :: 0 :: 89 :: sxX12_init_228
def sxX12_init_223 : List UInt8 := 188 :: 10 :: sxX12_init_225
def sxX12_init_221 : List UInt8 := 16 :: 11 :: sxX12_init_223
def sxX12_init_220 : List UInt8 := 42 :: sxX12_init_221
def sxX12_init_217 : List UInt8 := 181 :: 0 :: 86 :: sxX12_init_220
def sxX12_init_215 : List UInt8 := 188 :: 10 :: sxX12_init_217
def sxX12_init_212 : List UInt8 := 17 :: 0 :: 180 :: sxX12_init_215
def sxX12_init_211 : List UInt8 := 42 :: sxX12_init_212
def sxX12_init_208 : List UInt8 := 181 :: 0 :: 83 :: sxX12_init_211
def sxX12_init_206 : List UInt8 := 188 :: 10 :: sxX12_init_208
def sxX12_init_203 : List UInt8 := 17 :: 0 :: 132 :: sxX12_init_206
def sxX12_init_202 : List UInt8 := 42 :: sxX12_init_203
def sxX12_init_199 : List UInt8 := 181 :: 0 :: 80 :: sxX12_init_202
def sxX12_init_197 : List UInt8 := 188 :: 10 :: sxX12_init_199
def sxX12_init_194 : List UInt8 := 17 :: 0 :: 132 :: sxX12_init_197
def sxX12_init_193 : List UInt8 := 42 :: sxX12_init_194
def sxX12_init_190 : List UInt8 := 181 :: 0 :: 77 :: sxX12_init_193
def sxX12_init_188 : List UInt8 := 188 :: 10 :: sxX12_init_190
def sxX12_init_185 : List UInt8 := 17 :: 0 :: 132 :: sxX12_init_188
def sxX12_init_184 : List UInt8 := 42 :: sxX12_init_185
def sxX12_init_181 : List UInt8 := 181 :: 0 :: 74 :: sxX12_init_184
def sxX12_init_179 : List UInt8 := 188 :: 10 :: sxX12_init_181
def sxX12_init_177 : List UInt8 := 16 :: 11 :: sxX12_init_179
def sxX12_init_176 : List UInt8 := 42 :: sxX12_init_177
def sxX12_init_173 : List UInt8 := 181 :: 0 :: 71 :: sxX12_init_176
def sxX12_init_171 : List UInt8 := 188 :: 10 :: sxX12_init_173
def sxX12_init_168 : List UInt8 := 17 :: 7 :: 188 :: sxX12_init_171
def sxX12_init_167 : List UInt8 := 42 :: sxX12_init_168
def sxX12_init_164 : List UInt8 := 181 :: 0 :: 68 :: sxX12_init_167
def sxX12_init_162 : List UInt8 := 188 :: 10 :: sxX12_init_164
def sxX12_init_160 : List UInt8 := 16 :: 12 :: sxX12_init_162
def sxX12_init_159 : List UInt8 := 42 :: sxX12_init_160
def sxX12_init_156 : List UInt8 := 181 :: 0 :: 65 :: sxX12_init_159
def sxX12_init_154 : List UInt8 := 188 :: 10 :: sxX12_init_156
def sxX12_init_152 : List UInt8 := 16 :: 12 :: sxX12_init_154
def sxX12_init_151 : List UInt8 := 42 :: sxX12_init_152
def sxX12_init_148 : List UInt8 := 181 :: 0 :: 62 :: sxX12_init_151
def sxX12_init_146 : List UInt8 := 188 :: 10 :: sxX12_init_148
def sxX12_init_144 : List UInt8 := 16 :: 12 :: sxX12_init_146
def sxX12_init_143 : List UInt8 := 42 :: sxX12_init_144
def sxX12_init_140 : List UInt8 := 181 :: 0 :: 59 :: sxX12_init_143
def sxX12_init_138 : List UInt8 := 188 :: 10 :: sxX12_init_140
def sxX12_init_135 : List UInt8 := 17 :: 0 :: 180 :: sxX12_init_138
def sxX12_init_134 : List UInt8 := 42 :: sxX12_init_135
def sxX12_init_131 : List UInt8 := 181 :: 0 :: 56 :: sxX12_init_134
def sxX12_init_129 : List UInt8 := 188 :: 10 :: sxX12_init_131
def sxX12_init_126 : List UInt8 := 17 :: 0 :: 180 :: sxX12_init_129
def sxX12_init_125 : List UInt8 := 42 :: sxX12_init_126
def sxX12_init_122 : List UInt8 := 181 :: 0 :: 52 :: sxX12_init_125
def sxX12_init_120 : List UInt8 := 188 :: 8 :: sxX12_init_122
def sxX12_init_117 : List UInt8 := 17 :: 0 :: 200 :: sxX12_init_120
def sxX12_init_116 : List UInt8 := 42 :: sxX12_init_117
def sxX12_init_113 : List UInt8 := 181 :: 0 :: 49 :: sxX12_init_116
def sxX12_init_111 : List UInt8 := 188 :: 10 :: sxX12_init_113
def sxX12_init_109 : List UInt8 := 16 :: 60 :: sxX12_init_111
def sxX12_init_108 : List UInt8 := 42 :: sxX12_init_109
def sxX12_init_105 : List UInt8 := 181 :: 0 :: 46 :: sxX12_init_108
def sxX12_init_103 : List UInt8 := 188 :: 10 :: sxX12_init_105
def sxX12_init_101 : List UInt8 := 16 :: 60 :: sxX12_init_103
def sxX12_init_100 : List UInt8 := 42 :: sxX12_init_101
def sxX12_init_97 : List UInt8 := 181 :: 0 :: 43 :: sxX12_init_100
def sxX12_init_95 : List UInt8 := 188 :: 10 :: sxX12_init_97
def sxX12_init_93 : List UInt8 := 16 :: 60 :: sxX12_init_95
def sxX12_init_92 : List UInt8 := 42 :: sxX12_init_93
def sxX12_init_89 : List UInt8 := 181 :: 0 :: 40 :: sxX12_init_92
def sxX12_init_87 : List UInt8 := 188 :: 10 :: sxX12_init_89
def sxX12_init_85 : List UInt8 := 16 :: 60 :: sxX12_init_87
def sxX12_init_84 : List UInt8 := 42 :: sxX12_init_85
def sxX12_init_81 : List UInt8 := 181 :: 0 :: 37 :: sxX12_init_84
def sxX12_init_79 : List UInt8 := 188 :: 10 :: sxX12_init_81
def sxX12_init_77 : List UInt8 := 16 :: 60 :: sxX12_init_79
def sxX12_init_76 : List UInt8 := 42 :: sxX12_init_77
def sxX12_init_73 : List UInt8 := 181 :: 0 :: 34 :: sxX12_init_76
def sxX12_init_71 : List UInt8 := 188 :: 10 :: sxX12_init_73
def sxX12_init_69 : List UInt8 := 16 :: 60 :: sxX12_init_71
def sxX12_init_68 : List UInt8 := 42 :: sxX12_init_69
def sxX12_init_65 : List UInt8 := 181 :: 0 :: 31 :: sxX12_init_68
def sxX12_init_63 : List UInt8 := 188 :: 10 :: sxX12_init_65
def sxX12_init_61 : List UInt8 := 16 :: 60 :: sxX12_init_63
def sxX12_init_60 : List UInt8 := 42 :: sxX12_init_61
def sxX12_init_57 : List UInt8 := 181 :: 0 :: 28 :: sxX12_init_60
def sxX12_init_55 : List UInt8 := 188 :: 10 :: sxX12_init_57
def sxX12_init_53 : List UInt8 := 16 :: 60 :: sxX12_init_55
def sxX12_init_52 : List UInt8 := 42 :: sxX12_init_53
def sxX12_init_49 : List UInt8 := 181 :: 0 :: 25 :: sxX12_init_52
def sxX12_init_47 : List UInt8 := 188 :: 10 :: sxX12_init_49
def sxX12_init_45 : List UInt8 := 16 :: 60 :: sxX12_init_47
def sxX12_init_44 : List UInt8 := 42 :: sxX12_init_45
def sxX12_init_41 : List UInt8 := 181 :: 0 :: 22 :: sxX12_init_44
def sxX12_init_39 : List UInt8 := 188 :: 10 :: sxX12_init_41
def sxX12_init_37 : List UInt8 := 16 :: 10 :: sxX12_init_39
def sxX12_init_36 : List UInt8 := 42 :: sxX12_init_37
def sxX12_init_33 : List UInt8 := 181 :: 0 :: 19 :: sxX12_init_36
def sxX12_init_31 : List UInt8 := 188 :: 10 :: sxX12_init_33
def sxX12_init_29 : List UInt8 := 16 :: 10 :: sxX12_init_31
def sxX12_init_28 : List UInt8 := 42 :: sxX12_init_29
def sxX12_init_25 : List UInt8 := 181 :: 0 :: 16 :: sxX12_init_28
def sxX12_init_23 : List UInt8 := 188 :: 10 :: sxX12_init_25
def sxX12_init_21 : List UInt8 := 16 :: 10 :: sxX12_init_23
def sxX12_init_20 : List UInt8 := 42 :: sxX12_init_21
def sxX12_init_17 : List UInt8 := 181 :: 0 :: 13 :: sxX12_init_20
def sxX12_init_15 : List UInt8 := 188 :: 10 :: sxX12_init_17
def sxX12_init_13 : List UInt8 := 16 :: 10 :: sxX12_init_15
def sxX12_init_12 : List UInt8 := 42 :: sxX12_init_13
def sxX12_init_9 : List UInt8 := 181 :: 0 :: 7 :: sxX12_init_12
def sxX12_init_7 : List UInt8 := 188 :: 10 :: sxX12_init_9
def sxX12_init_5 : List UInt8 := 16 :: 10 :: sxX12_init_7
def sxX12_init_4 : List UInt8 := 42 :: sxX12_init_5
def sxX12_init_1 : List UInt8 := 183 :: 0 :: 1 :: sxX12_init_4
def sxX12_init_0 : List UInt8 := 42 :: sxX12_init_1
theorem shX12_init_0 : cX12_init.data.toList.drop 0 = sxX12_init_0 := rfl
theorem shX12_init_1 : cX12_init.data.toList.drop 1 = sxX12_init_1 := dSn 1 shX12_init_0
theorem shX12_init_4 : cX12_init.data.toList.drop 4 = sxX12_init_4 := dSn 3 shX12_init_1
theorem shX12_init_5 : cX12_init.data.toList.drop 5 = sxX12_init_5 := dSn 1 shX12_init_4
theorem shX12_init_7 : cX12_init.data.toList.drop 7 = sxX12_init_7 := dSn 2 shX12_init_5
theorem shX12_init_9 : cX12_init.data.toList.drop 9 = sxX12_init_9 := dSn 2 shX12_init_7
theorem shX12_init_12 : cX12_init.data.toList.drop 12 = sxX12_init_12 := dSn 3 shX12_init_9
theorem shX12_init_13 : cX12_init.data.toList.drop 13 = sxX12_init_13 := dSn 1 shX12_init_12
theorem shX12_init_15 : cX12_init.data.toList.drop 15 = sxX12_init_15 := dSn 2 shX12_init_13
theorem shX12_init_17 : cX12_init.data.toList.drop 17 = sxX12_init_17 := dSn 2 shX12_init_15
theorem shX12_init_20 : cX12_init.data.toList.drop 20 = sxX12_init_20 := dSn 3 shX12_init_17
theorem shX12_init_21 : cX12_init.data.toList.drop 21 = sxX12_init_21 := dSn 1 shX12_init_20
theorem shX12_init_23 : cX12_init.data.toList.drop 23 = sxX12_init_23 := dSn 2 shX12_init_21
theorem shX12_init_25 : cX12_init.data.toList.drop 25 = sxX12_init_25 := dSn 2 shX12_init_23
theorem shX12_init_28 : cX12_init.data.toList.drop 28 = sxX12_init_28 := dSn 3 shX12_init_25
theorem shX12_init_29 : cX12_init.data.toList.drop 29 = sxX12_init_29 := dSn 1 shX12_init_28
theorem shX12_init_31 : cX12_init.data.toList.drop 31 = sxX12_init_31 := dSn 2 shX12_init_29
theorem shX12_init_33 : cX12_init.data.toList.drop 33 = sxX12_init_33 := dSn 2 shX12_init_31
theorem shX12_init_36 : cX12_init.data.toList.drop 36 = sxX12_init_36 := dSn 3 shX12_init_33
theorem shX12_init_37 : cX12_init.data.toList.drop 37 = sxX12_init_37 := dSn 1 shX12_init_36
theorem shX12_init_39 : cX12_init.data.toList.drop 39 = sxX12_init_39 := dSn 2 shX12_init_37
theorem shX12_init_41 : cX12_init.data.toList.drop 41 = sxX12_init_41 := dSn 2 shX12_init_39
theorem shX12_init_44 : cX12_init.data.toList.drop 44 = sxX12_init_44 := dSn 3 shX12_init_41
theorem shX12_init_45 : cX12_init.data.toList.drop 45 = sxX12_init_45 := dSn 1 shX12_init_44
theorem shX12_init_47 : cX12_init.data.toList.drop 47 = sxX12_init_47 := dSn 2 shX12_init_45
theorem shX12_init_49 : cX12_init.data.toList.drop 49 = sxX12_init_49 := dSn 2 shX12_init_47
theorem shX12_init_52 : cX12_init.data.toList.drop 52 = sxX12_init_52 := dSn 3 shX12_init_49
theorem shX12_init_53 : cX12_init.data.toList.drop 53 = sxX12_init_53 := dSn 1 shX12_init_52
theorem shX12_init_55 : cX12_init.data.toList.drop 55 = sxX12_init_55 := dSn 2 shX12_init_53
theorem shX12_init_57 : cX12_init.data.toList.drop 57 = sxX12_init_57 := dSn 2 shX12_init_55
theorem shX12_init_60 : cX12_init.data.toList.drop 60 = sxX12_init_60 := dSn 3 shX12_init_57
theorem shX12_init_61 : cX12_init.data.toList.drop 61 = sxX12_init_61 := dSn 1 shX12_init_60
theorem shX12_init_63 : cX12_init.data.toList.drop 63 = sxX12_init_63 := dSn 2 shX12_init_61
theorem shX12_init_65 : cX12_init.data.toList.drop 65 = sxX12_init_65 := dSn 2 shX12_init_63
theorem shX12_init_68 : cX12_init.data.toList.drop 68 = sxX12_init_68 := dSn 3 shX12_init_65
theorem shX12_init_69 : cX12_init.data.toList.drop 69 = sxX12_init_69 := dSn 1 shX12_init_68
theorem shX12_init_71 : cX12_init.data.toList.drop 71 = sxX12_init_71 := dSn 2 shX12_init_69
theorem shX12_init_73 : cX12_init.data.toList.drop 73 = sxX12_init_73 := dSn 2 shX12_init_71
theorem shX12_init_76 : cX12_init.data.toList.drop 76 = sxX12_init_76 := dSn 3 shX12_init_73
theorem shX12_init_77 : cX12_init.data.toList.drop 77 = sxX12_init_77 := dSn 1 shX12_init_76
theorem shX12_init_79 : cX12_init.data.toList.drop 79 = sxX12_init_79 := dSn 2 shX12_init_77
theorem shX12_init_81 : cX12_init.data.toList.drop 81 = sxX12_init_81 := dSn 2 shX12_init_79
theorem shX12_init_84 : cX12_init.data.toList.drop 84 = sxX12_init_84 := dSn 3 shX12_init_81
theorem shX12_init_85 : cX12_init.data.toList.drop 85 = sxX12_init_85 := dSn 1 shX12_init_84
theorem shX12_init_87 : cX12_init.data.toList.drop 87 = sxX12_init_87 := dSn 2 shX12_init_85
theorem shX12_init_89 : cX12_init.data.toList.drop 89 = sxX12_init_89 := dSn 2 shX12_init_87
theorem shX12_init_92 : cX12_init.data.toList.drop 92 = sxX12_init_92 := dSn 3 shX12_init_89
theorem shX12_init_93 : cX12_init.data.toList.drop 93 = sxX12_init_93 := dSn 1 shX12_init_92
theorem shX12_init_95 : cX12_init.data.toList.drop 95 = sxX12_init_95 := dSn 2 shX12_init_93
theorem shX12_init_97 : cX12_init.data.toList.drop 97 = sxX12_init_97 := dSn 2 shX12_init_95
theorem shX12_init_100 : cX12_init.data.toList.drop 100 = sxX12_init_100 := dSn 3 shX12_init_97
theorem shX12_init_101 : cX12_init.data.toList.drop 101 = sxX12_init_101 := dSn 1 shX12_init_100
theorem shX12_init_103 : cX12_init.data.toList.drop 103 = sxX12_init_103 := dSn 2 shX12_init_101
theorem shX12_init_105 : cX12_init.data.toList.drop 105 = sxX12_init_105 := dSn 2 shX12_init_103
theorem shX12_init_108 : cX12_init.data.toList.drop 108 = sxX12_init_108 := dSn 3 shX12_init_105
theorem shX12_init_109 : cX12_init.data.toList.drop 109 = sxX12_init_109 := dSn 1 shX12_init_108
theorem shX12_init_111 : cX12_init.data.toList.drop 111 = sxX12_init_111 := dSn 2 shX12_init_109
theorem shX12_init_113 : cX12_init.data.toList.drop 113 = sxX12_init_113 := dSn 2 shX12_init_111
theorem shX12_init_116 : cX12_init.data.toList.drop 116 = sxX12_init_116 := dSn 3 shX12_init_113
theorem shX12_init_117 : cX12_init.data.toList.drop 117 = sxX12_init_117 := dSn 1 shX12_init_116
theorem shX12_init_120 : cX12_init.data.toList.drop 120 = sxX12_init_120 := dSn 3 shX12_init_117
theorem shX12_init_122 : cX12_init.data.toList.drop 122 = sxX12_init_122 := dSn 2 shX12_init_120
theorem shX12_init_125 : cX12_init.data.toList.drop 125 = sxX12_init_125 := dSn 3 shX12_init_122
theorem shX12_init_126 : cX12_init.data.toList.drop 126 = sxX12_init_126 := dSn 1 shX12_init_125
theorem shX12_init_129 : cX12_init.data.toList.drop 129 = sxX12_init_129 := dSn 3 shX12_init_126
theorem shX12_init_131 : cX12_init.data.toList.drop 131 = sxX12_init_131 := dSn 2 shX12_init_129
theorem shX12_init_134 : cX12_init.data.toList.drop 134 = sxX12_init_134 := dSn 3 shX12_init_131
theorem shX12_init_135 : cX12_init.data.toList.drop 135 = sxX12_init_135 := dSn 1 shX12_init_134
theorem shX12_init_138 : cX12_init.data.toList.drop 138 = sxX12_init_138 := dSn 3 shX12_init_135
theorem shX12_init_140 : cX12_init.data.toList.drop 140 = sxX12_init_140 := dSn 2 shX12_init_138
theorem shX12_init_143 : cX12_init.data.toList.drop 143 = sxX12_init_143 := dSn 3 shX12_init_140
theorem shX12_init_144 : cX12_init.data.toList.drop 144 = sxX12_init_144 := dSn 1 shX12_init_143
theorem shX12_init_146 : cX12_init.data.toList.drop 146 = sxX12_init_146 := dSn 2 shX12_init_144
theorem shX12_init_148 : cX12_init.data.toList.drop 148 = sxX12_init_148 := dSn 2 shX12_init_146
theorem shX12_init_151 : cX12_init.data.toList.drop 151 = sxX12_init_151 := dSn 3 shX12_init_148
theorem shX12_init_152 : cX12_init.data.toList.drop 152 = sxX12_init_152 := dSn 1 shX12_init_151
theorem shX12_init_154 : cX12_init.data.toList.drop 154 = sxX12_init_154 := dSn 2 shX12_init_152
theorem shX12_init_156 : cX12_init.data.toList.drop 156 = sxX12_init_156 := dSn 2 shX12_init_154
theorem shX12_init_159 : cX12_init.data.toList.drop 159 = sxX12_init_159 := dSn 3 shX12_init_156
theorem shX12_init_160 : cX12_init.data.toList.drop 160 = sxX12_init_160 := dSn 1 shX12_init_159
theorem shX12_init_162 : cX12_init.data.toList.drop 162 = sxX12_init_162 := dSn 2 shX12_init_160
theorem shX12_init_164 : cX12_init.data.toList.drop 164 = sxX12_init_164 := dSn 2 shX12_init_162
theorem shX12_init_167 : cX12_init.data.toList.drop 167 = sxX12_init_167 := dSn 3 shX12_init_164
theorem shX12_init_168 : cX12_init.data.toList.drop 168 = sxX12_init_168 := dSn 1 shX12_init_167
theorem shX12_init_171 : cX12_init.data.toList.drop 171 = sxX12_init_171 := dSn 3 shX12_init_168
theorem shX12_init_173 : cX12_init.data.toList.drop 173 = sxX12_init_173 := dSn 2 shX12_init_171
theorem shX12_init_176 : cX12_init.data.toList.drop 176 = sxX12_init_176 := dSn 3 shX12_init_173
theorem shX12_init_177 : cX12_init.data.toList.drop 177 = sxX12_init_177 := dSn 1 shX12_init_176
theorem shX12_init_179 : cX12_init.data.toList.drop 179 = sxX12_init_179 := dSn 2 shX12_init_177
theorem shX12_init_181 : cX12_init.data.toList.drop 181 = sxX12_init_181 := dSn 2 shX12_init_179
theorem shX12_init_184 : cX12_init.data.toList.drop 184 = sxX12_init_184 := dSn 3 shX12_init_181
theorem shX12_init_185 : cX12_init.data.toList.drop 185 = sxX12_init_185 := dSn 1 shX12_init_184
theorem shX12_init_188 : cX12_init.data.toList.drop 188 = sxX12_init_188 := dSn 3 shX12_init_185
theorem shX12_init_190 : cX12_init.data.toList.drop 190 = sxX12_init_190 := dSn 2 shX12_init_188
theorem shX12_init_193 : cX12_init.data.toList.drop 193 = sxX12_init_193 := dSn 3 shX12_init_190
theorem shX12_init_194 : cX12_init.data.toList.drop 194 = sxX12_init_194 := dSn 1 shX12_init_193
theorem shX12_init_197 : cX12_init.data.toList.drop 197 = sxX12_init_197 := dSn 3 shX12_init_194
theorem shX12_init_199 : cX12_init.data.toList.drop 199 = sxX12_init_199 := dSn 2 shX12_init_197
theorem shX12_init_202 : cX12_init.data.toList.drop 202 = sxX12_init_202 := dSn 3 shX12_init_199
theorem shX12_init_203 : cX12_init.data.toList.drop 203 = sxX12_init_203 := dSn 1 shX12_init_202
theorem shX12_init_206 : cX12_init.data.toList.drop 206 = sxX12_init_206 := dSn 3 shX12_init_203
theorem shX12_init_208 : cX12_init.data.toList.drop 208 = sxX12_init_208 := dSn 2 shX12_init_206
theorem shX12_init_211 : cX12_init.data.toList.drop 211 = sxX12_init_211 := dSn 3 shX12_init_208
theorem shX12_init_212 : cX12_init.data.toList.drop 212 = sxX12_init_212 := dSn 1 shX12_init_211
theorem shX12_init_215 : cX12_init.data.toList.drop 215 = sxX12_init_215 := dSn 3 shX12_init_212
theorem shX12_init_217 : cX12_init.data.toList.drop 217 = sxX12_init_217 := dSn 2 shX12_init_215
theorem shX12_init_220 : cX12_init.data.toList.drop 220 = sxX12_init_220 := dSn 3 shX12_init_217
theorem shX12_init_221 : cX12_init.data.toList.drop 221 = sxX12_init_221 := dSn 1 shX12_init_220
theorem shX12_init_223 : cX12_init.data.toList.drop 223 = sxX12_init_223 := dSn 2 shX12_init_221
theorem shX12_init_225 : cX12_init.data.toList.drop 225 = sxX12_init_225 := dSn 2 shX12_init_223
theorem shX12_init_228 : cX12_init.data.toList.drop 228 = sxX12_init_228 := dSn 3 shX12_init_225
theorem shX12_init_229 : cX12_init.data.toList.drop 229 = sxX12_init_229 := dSn 1 shX12_init_228
theorem shX12_init_231 : cX12_init.data.toList.drop 231 = sxX12_init_231 := dSn 2 shX12_init_229
theorem shX12_init_233 : cX12_init.data.toList.drop 233 = sxX12_init_233 := dSn 2 shX12_init_231
theorem shX12_init_236 : cX12_init.data.toList.drop 236 = sxX12_init_236 := dSn 3 shX12_init_233
theorem shX12_init_237 : cX12_init.data.toList.drop 237 = sxX12_init_237 := dSn 1 shX12_init_236
theorem shX12_init_239 : cX12_init.data.toList.drop 239 = sxX12_init_239 := dSn 2 shX12_init_237
theorem shX12_init_241 : cX12_init.data.toList.drop 241 = sxX12_init_241 := dSn 2 shX12_init_239
theorem shX12_init_244 : cX12_init.data.toList.drop 244 = sxX12_init_244 := dSn 3 shX12_init_241
theorem shX12_init_245 : cX12_init.data.toList.drop 245 = sxX12_init_245 := dSn 1 shX12_init_244
theorem shX12_init_248 : cX12_init.data.toList.drop 248 = sxX12_init_248 := dSn 3 shX12_init_245
theorem shX12_init_250 : cX12_init.data.toList.drop 250 = sxX12_init_250 := dSn 2 shX12_init_248
theorem shX12_init_253 : cX12_init.data.toList.drop 253 = sxX12_init_253 := dSn 3 shX12_init_250
theorem shX12_init_254 : cX12_init.data.toList.drop 254 = sxX12_init_254 := dSn 1 shX12_init_253
theorem shX12_init_256 : cX12_init.data.toList.drop 256 = sxX12_init_256 := dSn 2 shX12_init_254
theorem shX12_init_258 : cX12_init.data.toList.drop 258 = sxX12_init_258 := dSn 2 shX12_init_256
theorem shX12_init_261 : cX12_init.data.toList.drop 261 = sxX12_init_261 := dSn 3 shX12_init_258
theorem shX12_init_262 : cX12_init.data.toList.drop 262 = sxX12_init_262 := dSn 1 shX12_init_261
theorem shX12_init_265 : cX12_init.data.toList.drop 265 = sxX12_init_265 := dSn 3 shX12_init_262
theorem shX12_init_267 : cX12_init.data.toList.drop 267 = sxX12_init_267 := dSn 2 shX12_init_265
theorem shX12_init_270 : cX12_init.data.toList.drop 270 = sxX12_init_270 := dSn 3 shX12_init_267
theorem shX12_init_271 : cX12_init.data.toList.drop 271 = sxX12_init_271 := dSn 1 shX12_init_270
theorem shX12_init_272 : cX12_init.data.toList.drop 272 = sxX12_init_272 := dSn 1 shX12_init_271
theorem shX12_init_274 : cX12_init.data.toList.drop 274 = sxX12_init_274 := dSn 2 shX12_init_272
theorem shX12_init_277 : cX12_init.data.toList.drop 277 = sxX12_init_277 := dSn 3 shX12_init_274
theorem shX12_init_278 : cX12_init.data.toList.drop 278 = sxX12_init_278 := dSn 1 shX12_init_277
theorem shX12_init_279 : cX12_init.data.toList.drop 279 = sxX12_init_279 := dSn 1 shX12_init_278
theorem shX12_init_281 : cX12_init.data.toList.drop 281 = sxX12_init_281 := dSn 2 shX12_init_279
theorem shX12_init_284 : cX12_init.data.toList.drop 284 = sxX12_init_284 := dSn 3 shX12_init_281
theorem shX12_init_285 : cX12_init.data.toList.drop 285 = sxX12_init_285 := dSn 1 shX12_init_284
theorem shX12_init_286 : cX12_init.data.toList.drop 286 = sxX12_init_286 := dSn 1 shX12_init_285
theorem shX12_init_288 : cX12_init.data.toList.drop 288 = sxX12_init_288 := dSn 2 shX12_init_286
theorem shX12_init_291 : cX12_init.data.toList.drop 291 = sxX12_init_291 := dSn 3 shX12_init_288
theorem shX12_init_292 : cX12_init.data.toList.drop 292 = sxX12_init_292 := dSn 1 shX12_init_291
theorem shX12_init_294 : cX12_init.data.toList.drop 294 = sxX12_init_294 := dSn 2 shX12_init_292
theorem shX12_init_296 : cX12_init.data.toList.drop 296 = sxX12_init_296 := dSn 2 shX12_init_294
theorem shX12_init_299 : cX12_init.data.toList.drop 299 = sxX12_init_299 := dSn 3 shX12_init_296
theorem shX12_init_300 : cX12_init.data.toList.drop 300 = sxX12_init_300 := dSn 1 shX12_init_299
theorem shX12_init_302 : cX12_init.data.toList.drop 302 = sxX12_init_302 := dSn 2 shX12_init_300
theorem shX12_init_304 : cX12_init.data.toList.drop 304 = sxX12_init_304 := dSn 2 shX12_init_302
theorem shX12_init_307 : cX12_init.data.toList.drop 307 = sxX12_init_307 := dSn 3 shX12_init_304
theorem shX12_init_308 : cX12_init.data.toList.drop 308 = sxX12_init_308 := dSn 1 shX12_init_307
theorem shX12_init_310 : cX12_init.data.toList.drop 310 = sxX12_init_310 := dSn 2 shX12_init_308
theorem shX12_init_312 : cX12_init.data.toList.drop 312 = sxX12_init_312 := dSn 2 shX12_init_310
theorem shX12_init_315 : cX12_init.data.toList.drop 315 = sxX12_init_315 := dSn 3 shX12_init_312
theorem shX12_init_316 : cX12_init.data.toList.drop 316 = sxX12_init_316 := dSn 1 shX12_init_315
theorem shX12_init_319 : cX12_init.data.toList.drop 319 = sxX12_init_319 := dSn 3 shX12_init_316
theorem shX12_init_321 : cX12_init.data.toList.drop 321 = sxX12_init_321 := dSn 2 shX12_init_319
theorem shX12_init_324 : cX12_init.data.toList.drop 324 = sxX12_init_324 := dSn 3 shX12_init_321
theorem shX12_init_325 : cX12_init.data.toList.drop 325 = sxX12_init_325 := dSn 1 shX12_init_324
theorem shX12_init_327 : cX12_init.data.toList.drop 327 = sxX12_init_327 := dSn 2 shX12_init_325
theorem shX12_init_329 : cX12_init.data.toList.drop 329 = sxX12_init_329 := dSn 2 shX12_init_327
theorem shX12_init_332 : cX12_init.data.toList.drop 332 = sxX12_init_332 := dSn 3 shX12_init_329
theorem shX12_init_333 : cX12_init.data.toList.drop 333 = sxX12_init_333 := dSn 1 shX12_init_332
theorem shX12_init_335 : cX12_init.data.toList.drop 335 = sxX12_init_335 := dSn 2 shX12_init_333
theorem shX12_init_337 : cX12_init.data.toList.drop 337 = sxX12_init_337 := dSn 2 shX12_init_335
theorem shX12_init_340 : cX12_init.data.toList.drop 340 = sxX12_init_340 := dSn 3 shX12_init_337
theorem shX12_init_341 : cX12_init.data.toList.drop 341 = sxX12_init_341 := dSn 1 shX12_init_340
theorem shX12_init_343 : cX12_init.data.toList.drop 343 = sxX12_init_343 := dSn 2 shX12_init_341
theorem shX12_init_345 : cX12_init.data.toList.drop 345 = sxX12_init_345 := dSn 2 shX12_init_343
theorem shX12_init_348 : cX12_init.data.toList.drop 348 = sxX12_init_348 := dSn 3 shX12_init_345
theorem shX12_init_349 : cX12_init.data.toList.drop 349 = sxX12_init_349 := dSn 1 shX12_init_348
theorem shX12_init_351 : cX12_init.data.toList.drop 351 = sxX12_init_351 := dSn 2 shX12_init_349
theorem shX12_init_353 : cX12_init.data.toList.drop 353 = sxX12_init_353 := dSn 2 shX12_init_351
theorem shX12_init_356 : cX12_init.data.toList.drop 356 = sxX12_init_356 := dSn 3 shX12_init_353
theorem shX12_init_357 : cX12_init.data.toList.drop 357 = sxX12_init_357 := dSn 1 shX12_init_356
theorem shX12_init_359 : cX12_init.data.toList.drop 359 = sxX12_init_359 := dSn 2 shX12_init_357
theorem shX12_init_361 : cX12_init.data.toList.drop 361 = sxX12_init_361 := dSn 2 shX12_init_359
theorem shX12_init_364 : cX12_init.data.toList.drop 364 = sxX12_init_364 := dSn 3 shX12_init_361
theorem shX12_init_365 : cX12_init.data.toList.drop 365 = sxX12_init_365 := dSn 1 shX12_init_364
theorem shX12_init_367 : cX12_init.data.toList.drop 367 = sxX12_init_367 := dSn 2 shX12_init_365
theorem shX12_init_369 : cX12_init.data.toList.drop 369 = sxX12_init_369 := dSn 2 shX12_init_367
theorem shX12_init_372 : cX12_init.data.toList.drop 372 = sxX12_init_372 := dSn 3 shX12_init_369
theorem shX12_init_373 : cX12_init.data.toList.drop 373 = sxX12_init_373 := dSn 1 shX12_init_372
theorem shX12_init_375 : cX12_init.data.toList.drop 375 = sxX12_init_375 := dSn 2 shX12_init_373
theorem shX12_init_377 : cX12_init.data.toList.drop 377 = sxX12_init_377 := dSn 2 shX12_init_375
theorem shX12_init_380 : cX12_init.data.toList.drop 380 = sxX12_init_380 := dSn 3 shX12_init_377
theorem shX12_init_381 : cX12_init.data.toList.drop 381 = sxX12_init_381 := dSn 1 shX12_init_380
theorem shX12_init_383 : cX12_init.data.toList.drop 383 = sxX12_init_383 := dSn 2 shX12_init_381
theorem shX12_init_385 : cX12_init.data.toList.drop 385 = sxX12_init_385 := dSn 2 shX12_init_383
theorem shX12_init_388 : cX12_init.data.toList.drop 388 = sxX12_init_388 := dSn 3 shX12_init_385
theorem shX12_init_389 : cX12_init.data.toList.drop 389 = sxX12_init_389 := dSn 1 shX12_init_388
theorem shX12_init_391 : cX12_init.data.toList.drop 391 = sxX12_init_391 := dSn 2 shX12_init_389
theorem shX12_init_393 : cX12_init.data.toList.drop 393 = sxX12_init_393 := dSn 2 shX12_init_391
theorem shX12_init_396 : cX12_init.data.toList.drop 396 = sxX12_init_396 := dSn 3 shX12_init_393
theorem shX12_init_397 : cX12_init.data.toList.drop 397 = sxX12_init_397 := dSn 1 shX12_init_396
theorem shX12_init_399 : cX12_init.data.toList.drop 399 = sxX12_init_399 := dSn 2 shX12_init_397
theorem shX12_init_401 : cX12_init.data.toList.drop 401 = sxX12_init_401 := dSn 2 shX12_init_399
theorem shX12_init_404 : cX12_init.data.toList.drop 404 = sxX12_init_404 := dSn 3 shX12_init_401
theorem shX12_init_405 : cX12_init.data.toList.drop 405 = sxX12_init_405 := dSn 1 shX12_init_404
theorem shX12_init_407 : cX12_init.data.toList.drop 407 = sxX12_init_407 := dSn 2 shX12_init_405
theorem shX12_init_409 : cX12_init.data.toList.drop 409 = sxX12_init_409 := dSn 2 shX12_init_407
theorem shX12_init_412 : cX12_init.data.toList.drop 412 = sxX12_init_412 := dSn 3 shX12_init_409
theorem shX12_init_413 : cX12_init.data.toList.drop 413 = sxX12_init_413 := dSn 1 shX12_init_412
theorem shX12_init_415 : cX12_init.data.toList.drop 415 = sxX12_init_415 := dSn 2 shX12_init_413
theorem shX12_init_417 : cX12_init.data.toList.drop 417 = sxX12_init_417 := dSn 2 shX12_init_415
theorem shX12_init_420 : cX12_init.data.toList.drop 420 = sxX12_init_420 := dSn 3 shX12_init_417
theorem shX12_init_421 : cX12_init.data.toList.drop 421 = sxX12_init_421 := dSn 1 shX12_init_420
theorem shX12_init_424 : cX12_init.data.toList.drop 424 = sxX12_init_424 := dSn 3 shX12_init_421
theorem shX12_init_426 : cX12_init.data.toList.drop 426 = sxX12_init_426 := dSn 2 shX12_init_424
theorem shX12_init_429 : cX12_init.data.toList.drop 429 = sxX12_init_429 := dSn 3 shX12_init_426
theorem shX12_init_430 : cX12_init.data.toList.drop 430 = sxX12_init_430 := dSn 1 shX12_init_429
theorem shX12_init_432 : cX12_init.data.toList.drop 432 = sxX12_init_432 := dSn 2 shX12_init_430
theorem shX12_init_434 : cX12_init.data.toList.drop 434 = sxX12_init_434 := dSn 2 shX12_init_432
theorem shX12_init_437 : cX12_init.data.toList.drop 437 = sxX12_init_437 := dSn 3 shX12_init_434
theorem shX12_init_438 : cX12_init.data.toList.drop 438 = sxX12_init_438 := dSn 1 shX12_init_437
theorem shX12_init_440 : cX12_init.data.toList.drop 440 = sxX12_init_440 := dSn 2 shX12_init_438
theorem shX12_init_442 : cX12_init.data.toList.drop 442 = sxX12_init_442 := dSn 2 shX12_init_440
theorem shX12_init_445 : cX12_init.data.toList.drop 445 = sxX12_init_445 := dSn 3 shX12_init_442
theorem shX12_init_446 : cX12_init.data.toList.drop 446 = sxX12_init_446 := dSn 1 shX12_init_445
theorem shX12_init_448 : cX12_init.data.toList.drop 448 = sxX12_init_448 := dSn 2 shX12_init_446
theorem shX12_init_450 : cX12_init.data.toList.drop 450 = sxX12_init_450 := dSn 2 shX12_init_448
theorem shX12_init_453 : cX12_init.data.toList.drop 453 = sxX12_init_453 := dSn 3 shX12_init_450
theorem shX12_init_454 : cX12_init.data.toList.drop 454 = sxX12_init_454 := dSn 1 shX12_init_453
theorem shX12_init_456 : cX12_init.data.toList.drop 456 = sxX12_init_456 := dSn 2 shX12_init_454
theorem shX12_init_458 : cX12_init.data.toList.drop 458 = sxX12_init_458 := dSn 2 shX12_init_456
theorem shX12_init_461 : cX12_init.data.toList.drop 461 = sxX12_init_461 := dSn 3 shX12_init_458
theorem shX12_init_462 : cX12_init.data.toList.drop 462 = sxX12_init_462 := dSn 1 shX12_init_461
theorem shX12_init_464 : cX12_init.data.toList.drop 464 = sxX12_init_464 := dSn 2 shX12_init_462
theorem shX12_init_466 : cX12_init.data.toList.drop 466 = sxX12_init_466 := dSn 2 shX12_init_464
theorem shX12_init_469 : cX12_init.data.toList.drop 469 = sxX12_init_469 := dSn 3 shX12_init_466
theorem shX12_init_470 : cX12_init.data.toList.drop 470 = sxX12_init_470 := dSn 1 shX12_init_469
theorem shX12_init_472 : cX12_init.data.toList.drop 472 = sxX12_init_472 := dSn 2 shX12_init_470
theorem shX12_init_474 : cX12_init.data.toList.drop 474 = sxX12_init_474 := dSn 2 shX12_init_472
theorem shX12_init_477 : cX12_init.data.toList.drop 477 = sxX12_init_477 := dSn 3 shX12_init_474
theorem shX12_init_478 : cX12_init.data.toList.drop 478 = sxX12_init_478 := dSn 1 shX12_init_477
theorem shX12_init_480 : cX12_init.data.toList.drop 480 = sxX12_init_480 := dSn 2 shX12_init_478
theorem shX12_init_482 : cX12_init.data.toList.drop 482 = sxX12_init_482 := dSn 2 shX12_init_480
theorem shX12_init_485 : cX12_init.data.toList.drop 485 = sxX12_init_485 := dSn 3 shX12_init_482
theorem shX12_init_486 : cX12_init.data.toList.drop 486 = sxX12_init_486 := dSn 1 shX12_init_485
theorem shX12_init_488 : cX12_init.data.toList.drop 488 = sxX12_init_488 := dSn 2 shX12_init_486
theorem shX12_init_490 : cX12_init.data.toList.drop 490 = sxX12_init_490 := dSn 2 shX12_init_488
theorem shX12_init_493 : cX12_init.data.toList.drop 493 = sxX12_init_493 := dSn 3 shX12_init_490
theorem shX12_init_494 : cX12_init.data.toList.drop 494 = sxX12_init_494 := dSn 1 shX12_init_493
theorem shX12_init_496 : cX12_init.data.toList.drop 496 = sxX12_init_496 := dSn 2 shX12_init_494
theorem shX12_init_498 : cX12_init.data.toList.drop 498 = sxX12_init_498 := dSn 2 shX12_init_496
theorem shX12_init_501 : cX12_init.data.toList.drop 501 = sxX12_init_501 := dSn 3 shX12_init_498
theorem shX12_init_502 : cX12_init.data.toList.drop 502 = sxX12_init_502 := dSn 1 shX12_init_501
theorem shX12_init_504 : cX12_init.data.toList.drop 504 = sxX12_init_504 := dSn 2 shX12_init_502
theorem shX12_init_506 : cX12_init.data.toList.drop 506 = sxX12_init_506 := dSn 2 shX12_init_504
theorem shX12_init_509 : cX12_init.data.toList.drop 509 = sxX12_init_509 := dSn 3 shX12_init_506
theorem shX12_init_510 : cX12_init.data.toList.drop 510 = sxX12_init_510 := dSn 1 shX12_init_509
theorem shX12_init_512 : cX12_init.data.toList.drop 512 = sxX12_init_512 := dSn 2 shX12_init_510
theorem shX12_init_514 : cX12_init.data.toList.drop 514 = sxX12_init_514 := dSn 2 shX12_init_512
theorem shX12_init_517 : cX12_init.data.toList.drop 517 = sxX12_init_517 := dSn 3 shX12_init_514
theorem shX12_init_518 : cX12_init.data.toList.drop 518 = sxX12_init_518 := dSn 1 shX12_init_517
theorem shX12_init_521 : cX12_init.data.toList.drop 521 = sxX12_init_521 := dSn 3 shX12_init_518
theorem shX12_init_523 : cX12_init.data.toList.drop 523 = sxX12_init_523 := dSn 2 shX12_init_521
theorem shX12_init_526 : cX12_init.data.toList.drop 526 = sxX12_init_526 := dSn 3 shX12_init_523
theorem shX12_init_527 : cX12_init.data.toList.drop 527 = sxX12_init_527 := dSn 1 shX12_init_526
theorem shX12_init_528 : cX12_init.data.toList.drop 528 = sxX12_init_528 := dSn 1 shX12_init_527
theorem shX12_init_529 : cX12_init.data.toList.drop 529 = sxX12_init_529 := dSn 1 shX12_init_528
theorem shX12_init_532 : cX12_init.data.toList.drop 532 = sxX12_init_532 := dSn 3 shX12_init_529
theorem shX12_init_535 : cX12_init.data.toList.drop 535 = sxX12_init_535 := dSn 3 shX12_init_532
theorem shX12_init_536 : cX12_init.data.toList.drop 536 = sxX12_init_536 := dSn 1 shX12_init_535
theorem shX12_init_539 : cX12_init.data.toList.drop 539 = sxX12_init_539 := dSn 3 shX12_init_536
theorem shX12_init_540 : cX12_init.data.toList.drop 540 = sxX12_init_540 := dSn 1 shX12_init_539
theorem shX12_init_542 : cX12_init.data.toList.drop 542 = sxX12_init_542 := dSn 2 shX12_init_540
theorem shX12_init_543 : cX12_init.data.toList.drop 543 = sxX12_init_543 := dSn 1 shX12_init_542
theorem shX12_init_546 : cX12_init.data.toList.drop 546 = sxX12_init_546 := dSn 3 shX12_init_543
theorem shX12_init_549 : cX12_init.data.toList.drop 549 = sxX12_init_549 := dSn 3 shX12_init_546
theorem dX12_init_0 : decode cX12_init 0 = .ok (.aload_n 0, 1) := oc_42 shX12_init_0
theorem dX12_init_1 : decode cX12_init 1 = .ok (.invokespecial 1, 3) := oc_183 shX12_init_1
theorem dX12_init_4 : decode cX12_init 4 = .ok (.aload_n 0, 1) := oc_42 shX12_init_4
theorem dX12_init_5 : decode cX12_init 5 = .ok (.bipush 10, 2) := oc_16 shX12_init_5 sgb_10
theorem dX12_init_7 : decode cX12_init 7 = .ok (.newarray .int, 2) := oc_188_10 shX12_init_7
theorem dX12_init_9 : decode cX12_init 9 = .ok (.putfield 7, 3) := oc_181 shX12_init_9
theorem dX12_init_12 : decode cX12_init 12 = .ok (.aload_n 0, 1) := oc_42 shX12_init_12
theorem dX12_init_13 : decode cX12_init 13 = .ok (.bipush 10, 2) := oc_16 shX12_init_13 sgb_10
theorem dX12_init_15 : decode cX12_init 15 = .ok (.newarray .int, 2) := oc_188_10 shX12_init_15
theorem dX12_init_17 : decode cX12_init 17 = .ok (.putfield 13, 3) := oc_181 shX12_init_17
theorem dX12_init_20 : decode cX12_init 20 = .ok (.aload_n 0, 1) := oc_42 shX12_init_20
theorem dX12_init_21 : decode cX12_init 21 = .ok (.bipush 10, 2) := oc_16 shX12_init_21 sgb_10
theorem dX12_init_23 : decode cX12_init 23 = .ok (.newarray .int, 2) := oc_188_10 shX12_init_23
theorem dX12_init_25 : decode cX12_init 25 = .ok (.putfield 16, 3) := oc_181 shX12_init_25
theorem dX12_init_28 : decode cX12_init 28 = .ok (.aload_n 0, 1) := oc_42 shX12_init_28
theorem dX12_init_29 : decode cX12_init 29 = .ok (.bipush 10, 2) := oc_16 shX12_init_29 sgb_10
theorem dX12_init_31 : decode cX12_init 31 = .ok (.newarray .int, 2) := oc_188_10 shX12_init_31
theorem dX12_init_33 : decode cX12_init 33 = .ok (.putfield 19, 3) := oc_181 shX12_init_33
theorem dX12_init_36 : decode cX12_init 36 = .ok (.aload_n 0, 1) := oc_42 shX12_init_36
theorem dX12_init_37 : decode cX12_init 37 = .ok (.bipush 10, 2) := oc_16 shX12_init_37 sgb_10
theorem dX12_init_39 : decode cX12_init 39 = .ok (.newarray .int, 2) := oc_188_10 shX12_init_39
theorem dX12_init_41 : decode cX12_init 41 = .ok (.putfield 22, 3) := oc_181 shX12_init_41
theorem dX12_init_44 : decode cX12_init 44 = .ok (.aload_n 0, 1) := oc_42 shX12_init_44
theorem dX12_init_45 : decode cX12_init 45 = .ok (.bipush 60, 2) := oc_16 shX12_init_45 sgb_60
theorem dX12_init_47 : decode cX12_init 47 = .ok (.newarray .int, 2) := oc_188_10 shX12_init_47
theorem dX12_init_49 : decode cX12_init 49 = .ok (.putfield 25, 3) := oc_181 shX12_init_49
theorem dX12_init_52 : decode cX12_init 52 = .ok (.aload_n 0, 1) := oc_42 shX12_init_52
theorem dX12_init_53 : decode cX12_init 53 = .ok (.bipush 60, 2) := oc_16 shX12_init_53 sgb_60
theorem dX12_init_55 : decode cX12_init 55 = .ok (.newarray .int, 2) := oc_188_10 shX12_init_55
theorem dX12_init_57 : decode cX12_init 57 = .ok (.putfield 28, 3) := oc_181 shX12_init_57
theorem dX12_init_60 : decode cX12_init 60 = .ok (.aload_n 0, 1) := oc_42 shX12_init_60
theorem dX12_init_61 : decode cX12_init 61 = .ok (.bipush 60, 2) := oc_16 shX12_init_61 sgb_60
theorem dX12_init_63 : decode cX12_init 63 = .ok (.newarray .int, 2) := oc_188_10 shX12_init_63
theorem dX12_init_65 : decode cX12_init 65 = .ok (.putfield 31, 3) := oc_181 shX12_init_65
theorem dX12_init_68 : decode cX12_init 68 = .ok (.aload_n 0, 1) := oc_42 shX12_init_68
theorem dX12_init_69 : decode cX12_init 69 = .ok (.bipush 60, 2) := oc_16 shX12_init_69 sgb_60
theorem dX12_init_71 : decode cX12_init 71 = .ok (.newarray .int, 2) := oc_188_10 shX12_init_71
theorem dX12_init_73 : decode cX12_init 73 = .ok (.putfield 34, 3) := oc_181 shX12_init_73
theorem dX12_init_76 : decode cX12_init 76 = .ok (.aload_n 0, 1) := oc_42 shX12_init_76
theorem dX12_init_77 : decode cX12_init 77 = .ok (.bipush 60, 2) := oc_16 shX12_init_77 sgb_60
theorem dX12_init_79 : decode cX12_init 79 = .ok (.newarray .int, 2) := oc_188_10 shX12_init_79
theorem dX12_init_81 : decode cX12_init 81 = .ok (.putfield 37, 3) := oc_181 shX12_init_81
theorem dX12_init_84 : decode cX12_init 84 = .ok (.aload_n 0, 1) := oc_42 shX12_init_84
theorem dX12_init_85 : decode cX12_init 85 = .ok (.bipush 60, 2) := oc_16 shX12_init_85 sgb_60
theorem dX12_init_87 : decode cX12_init 87 = .ok (.newarray .int, 2) := oc_188_10 shX12_init_87
theorem dX12_init_89 : decode cX12_init 89 = .ok (.putfield 40, 3) := oc_181 shX12_init_89
theorem dX12_init_92 : decode cX12_init 92 = .ok (.aload_n 0, 1) := oc_42 shX12_init_92
theorem dX12_init_93 : decode cX12_init 93 = .ok (.bipush 60, 2) := oc_16 shX12_init_93 sgb_60
theorem dX12_init_95 : decode cX12_init 95 = .ok (.newarray .int, 2) := oc_188_10 shX12_init_95
theorem dX12_init_97 : decode cX12_init 97 = .ok (.putfield 43, 3) := oc_181 shX12_init_97
theorem dX12_init_100 : decode cX12_init 100 = .ok (.aload_n 0, 1) := oc_42 shX12_init_100
theorem dX12_init_101 : decode cX12_init 101 = .ok (.bipush 60, 2) := oc_16 shX12_init_101 sgb_60
theorem dX12_init_103 : decode cX12_init 103 = .ok (.newarray .int, 2) := oc_188_10 shX12_init_103
theorem dX12_init_105 : decode cX12_init 105 = .ok (.putfield 46, 3) := oc_181 shX12_init_105
theorem dX12_init_108 : decode cX12_init 108 = .ok (.aload_n 0, 1) := oc_42 shX12_init_108
theorem dX12_init_109 : decode cX12_init 109 = .ok (.bipush 60, 2) := oc_16 shX12_init_109 sgb_60
theorem dX12_init_111 : decode cX12_init 111 = .ok (.newarray .int, 2) := oc_188_10 shX12_init_111
theorem dX12_init_113 : decode cX12_init 113 = .ok (.putfield 49, 3) := oc_181 shX12_init_113
theorem dX12_init_116 : decode cX12_init 116 = .ok (.aload_n 0, 1) := oc_42 shX12_init_116
theorem dX12_init_117 : decode cX12_init 117 = .ok (.sipush 200, 3) := oc_17 shX12_init_117 sgw_0_200
theorem dX12_init_120 : decode cX12_init 120 = .ok (.newarray .byte, 2) := oc_188_8 shX12_init_120
theorem dX12_init_122 : decode cX12_init 122 = .ok (.putfield 52, 3) := oc_181 shX12_init_122
theorem dX12_init_125 : decode cX12_init 125 = .ok (.aload_n 0, 1) := oc_42 shX12_init_125
theorem dX12_init_126 : decode cX12_init 126 = .ok (.sipush 180, 3) := oc_17 shX12_init_126 sgw_0_180
theorem dX12_init_129 : decode cX12_init 129 = .ok (.newarray .int, 2) := oc_188_10 shX12_init_129
theorem dX12_init_131 : decode cX12_init 131 = .ok (.putfield 56, 3) := oc_181 shX12_init_131
theorem dX12_init_134 : decode cX12_init 134 = .ok (.aload_n 0, 1) := oc_42 shX12_init_134
theorem dX12_init_135 : decode cX12_init 135 = .ok (.sipush 180, 3) := oc_17 shX12_init_135 sgw_0_180
theorem dX12_init_138 : decode cX12_init 138 = .ok (.newarray .int, 2) := oc_188_10 shX12_init_138
theorem dX12_init_140 : decode cX12_init 140 = .ok (.putfield 59, 3) := oc_181 shX12_init_140
theorem dX12_init_143 : decode cX12_init 143 = .ok (.aload_n 0, 1) := oc_42 shX12_init_143
theorem dX12_init_144 : decode cX12_init 144 = .ok (.bipush 12, 2) := oc_16 shX12_init_144 sgb_12
theorem dX12_init_146 : decode cX12_init 146 = .ok (.newarray .int, 2) := oc_188_10 shX12_init_146
theorem dX12_init_148 : decode cX12_init 148 = .ok (.putfield 62, 3) := oc_181 shX12_init_148
theorem dX12_init_151 : decode cX12_init 151 = .ok (.aload_n 0, 1) := oc_42 shX12_init_151
theorem dX12_init_152 : decode cX12_init 152 = .ok (.bipush 12, 2) := oc_16 shX12_init_152 sgb_12
theorem dX12_init_154 : decode cX12_init 154 = .ok (.newarray .int, 2) := oc_188_10 shX12_init_154
theorem dX12_init_156 : decode cX12_init 156 = .ok (.putfield 65, 3) := oc_181 shX12_init_156
theorem dX12_init_159 : decode cX12_init 159 = .ok (.aload_n 0, 1) := oc_42 shX12_init_159
theorem dX12_init_160 : decode cX12_init 160 = .ok (.bipush 12, 2) := oc_16 shX12_init_160 sgb_12
theorem dX12_init_162 : decode cX12_init 162 = .ok (.newarray .int, 2) := oc_188_10 shX12_init_162
theorem dX12_init_164 : decode cX12_init 164 = .ok (.putfield 68, 3) := oc_181 shX12_init_164
theorem dX12_init_167 : decode cX12_init 167 = .ok (.aload_n 0, 1) := oc_42 shX12_init_167
theorem dX12_init_168 : decode cX12_init 168 = .ok (.sipush 1980, 3) := oc_17 shX12_init_168 sgw_7_188
theorem dX12_init_171 : decode cX12_init 171 = .ok (.newarray .int, 2) := oc_188_10 shX12_init_171
theorem dX12_init_173 : decode cX12_init 173 = .ok (.putfield 71, 3) := oc_181 shX12_init_173
theorem dX12_init_176 : decode cX12_init 176 = .ok (.aload_n 0, 1) := oc_42 shX12_init_176
theorem dX12_init_177 : decode cX12_init 177 = .ok (.bipush 11, 2) := oc_16 shX12_init_177 sgb_11
theorem dX12_init_179 : decode cX12_init 179 = .ok (.newarray .int, 2) := oc_188_10 shX12_init_179
theorem dX12_init_181 : decode cX12_init 181 = .ok (.putfield 74, 3) := oc_181 shX12_init_181
theorem dX12_init_184 : decode cX12_init 184 = .ok (.aload_n 0, 1) := oc_42 shX12_init_184
theorem dX12_init_185 : decode cX12_init 185 = .ok (.sipush 132, 3) := oc_17 shX12_init_185 sgw_0_132
theorem dX12_init_188 : decode cX12_init 188 = .ok (.newarray .int, 2) := oc_188_10 shX12_init_188
theorem dX12_init_190 : decode cX12_init 190 = .ok (.putfield 77, 3) := oc_181 shX12_init_190
theorem dX12_init_193 : decode cX12_init 193 = .ok (.aload_n 0, 1) := oc_42 shX12_init_193
theorem dX12_init_194 : decode cX12_init 194 = .ok (.sipush 132, 3) := oc_17 shX12_init_194 sgw_0_132
theorem dX12_init_197 : decode cX12_init 197 = .ok (.newarray .int, 2) := oc_188_10 shX12_init_197
theorem dX12_init_199 : decode cX12_init 199 = .ok (.putfield 80, 3) := oc_181 shX12_init_199
theorem dX12_init_202 : decode cX12_init 202 = .ok (.aload_n 0, 1) := oc_42 shX12_init_202
theorem dX12_init_203 : decode cX12_init 203 = .ok (.sipush 132, 3) := oc_17 shX12_init_203 sgw_0_132
theorem dX12_init_206 : decode cX12_init 206 = .ok (.newarray .int, 2) := oc_188_10 shX12_init_206
theorem dX12_init_208 : decode cX12_init 208 = .ok (.putfield 83, 3) := oc_181 shX12_init_208
theorem dX12_init_211 : decode cX12_init 211 = .ok (.aload_n 0, 1) := oc_42 shX12_init_211
theorem dX12_init_212 : decode cX12_init 212 = .ok (.sipush 180, 3) := oc_17 shX12_init_212 sgw_0_180
theorem dX12_init_215 : decode cX12_init 215 = .ok (.newarray .int, 2) := oc_188_10 shX12_init_215
theorem dX12_init_217 : decode cX12_init 217 = .ok (.putfield 86, 3) := oc_181 shX12_init_217
theorem dX12_init_220 : decode cX12_init 220 = .ok (.aload_n 0, 1) := oc_42 shX12_init_220
theorem dX12_init_221 : decode cX12_init 221 = .ok (.bipush 11, 2) := oc_16 shX12_init_221 sgb_11
theorem dX12_init_223 : decode cX12_init 223 = .ok (.newarray .int, 2) := oc_188_10 shX12_init_223
theorem dX12_init_225 : decode cX12_init 225 = .ok (.putfield 89, 3) := oc_181 shX12_init_225
theorem dX12_init_228 : decode cX12_init 228 = .ok (.aload_n 0, 1) := oc_42 shX12_init_228
theorem dX12_init_229 : decode cX12_init 229 = .ok (.bipush 58, 2) := oc_16 shX12_init_229 sgb_58
theorem dX12_init_231 : decode cX12_init 231 = .ok (.newarray .int, 2) := oc_188_10 shX12_init_231
theorem dX12_init_233 : decode cX12_init 233 = .ok (.putfield 92, 3) := oc_181 shX12_init_233
theorem dX12_init_236 : decode cX12_init 236 = .ok (.aload_n 0, 1) := oc_42 shX12_init_236
theorem dX12_init_237 : decode cX12_init 237 = .ok (.bipush 10, 2) := oc_16 shX12_init_237 sgb_10
theorem dX12_init_239 : decode cX12_init 239 = .ok (.newarray .int, 2) := oc_188_10 shX12_init_239
theorem dX12_init_241 : decode cX12_init 241 = .ok (.putfield 95, 3) := oc_181 shX12_init_241
theorem dX12_init_244 : decode cX12_init 244 = .ok (.aload_n 0, 1) := oc_42 shX12_init_244
theorem dX12_init_245 : decode cX12_init 245 = .ok (.sipush 400, 3) := oc_17 shX12_init_245 sgw_1_144
theorem dX12_init_248 : decode cX12_init 248 = .ok (.newarray .int, 2) := oc_188_10 shX12_init_248
theorem dX12_init_250 : decode cX12_init 250 = .ok (.putfield 98, 3) := oc_181 shX12_init_250
theorem dX12_init_253 : decode cX12_init 253 = .ok (.aload_n 0, 1) := oc_42 shX12_init_253
theorem dX12_init_254 : decode cX12_init 254 = .ok (.bipush 10, 2) := oc_16 shX12_init_254 sgb_10
theorem dX12_init_256 : decode cX12_init 256 = .ok (.newarray .int, 2) := oc_188_10 shX12_init_256
theorem dX12_init_258 : decode cX12_init 258 = .ok (.putfield 101, 3) := oc_181 shX12_init_258
theorem dX12_init_261 : decode cX12_init 261 = .ok (.aload_n 0, 1) := oc_42 shX12_init_261
theorem dX12_init_262 : decode cX12_init 262 = .ok (.sipush 2048, 3) := oc_17 shX12_init_262 sgw_8_0
theorem dX12_init_265 : decode cX12_init 265 = .ok (.newarray .int, 2) := oc_188_10 shX12_init_265
theorem dX12_init_267 : decode cX12_init 267 = .ok (.putfield 104, 3) := oc_181 shX12_init_267
theorem dX12_init_270 : decode cX12_init 270 = .ok (.aload_n 0, 1) := oc_42 shX12_init_270
theorem dX12_init_271 : decode cX12_init 271 = .ok (.iconst 3, 1) := oc_6 shX12_init_271
theorem dX12_init_272 : decode cX12_init 272 = .ok (.newarray .int, 2) := oc_188_10 shX12_init_272
theorem dX12_init_274 : decode cX12_init 274 = .ok (.putfield 107, 3) := oc_181 shX12_init_274
theorem dX12_init_277 : decode cX12_init 277 = .ok (.aload_n 0, 1) := oc_42 shX12_init_277
theorem dX12_init_278 : decode cX12_init 278 = .ok (.iconst 3, 1) := oc_6 shX12_init_278
theorem dX12_init_279 : decode cX12_init 279 = .ok (.newarray .int, 2) := oc_188_10 shX12_init_279
theorem dX12_init_281 : decode cX12_init 281 = .ok (.putfield 110, 3) := oc_181 shX12_init_281
theorem dX12_init_284 : decode cX12_init 284 = .ok (.aload_n 0, 1) := oc_42 shX12_init_284
theorem dX12_init_285 : decode cX12_init 285 = .ok (.iconst 3, 1) := oc_6 shX12_init_285
theorem dX12_init_286 : decode cX12_init 286 = .ok (.newarray .int, 2) := oc_188_10 shX12_init_286
theorem dX12_init_288 : decode cX12_init 288 = .ok (.putfield 113, 3) := oc_181 shX12_init_288
theorem dX12_init_291 : decode cX12_init 291 = .ok (.aload_n 0, 1) := oc_42 shX12_init_291
theorem dX12_init_292 : decode cX12_init 292 = .ok (.bipush 6, 2) := oc_16 shX12_init_292 sgb_6
theorem dX12_init_294 : decode cX12_init 294 = .ok (.newarray .int, 2) := oc_188_10 shX12_init_294
theorem dX12_init_296 : decode cX12_init 296 = .ok (.putfield 116, 3) := oc_181 shX12_init_296
theorem dX12_init_299 : decode cX12_init 299 = .ok (.aload_n 0, 1) := oc_42 shX12_init_299
theorem dX12_init_300 : decode cX12_init 300 = .ok (.bipush 6, 2) := oc_16 shX12_init_300 sgb_6
theorem dX12_init_302 : decode cX12_init 302 = .ok (.newarray .int, 2) := oc_188_10 shX12_init_302
theorem dX12_init_304 : decode cX12_init 304 = .ok (.putfield 119, 3) := oc_181 shX12_init_304
theorem dX12_init_307 : decode cX12_init 307 = .ok (.aload_n 0, 1) := oc_42 shX12_init_307
theorem dX12_init_308 : decode cX12_init 308 = .ok (.bipush 10, 2) := oc_16 shX12_init_308 sgb_10
theorem dX12_init_310 : decode cX12_init 310 = .ok (.newarray .int, 2) := oc_188_10 shX12_init_310
theorem dX12_init_312 : decode cX12_init 312 = .ok (.putfield 122, 3) := oc_181 shX12_init_312
theorem dX12_init_315 : decode cX12_init 315 = .ok (.aload_n 0, 1) := oc_42 shX12_init_315
theorem dX12_init_316 : decode cX12_init 316 = .ok (.sipush 1200, 3) := oc_17 shX12_init_316 sgw_4_176
theorem dX12_init_319 : decode cX12_init 319 = .ok (.newarray .boolean, 2) := oc_188_4 shX12_init_319
theorem dX12_init_321 : decode cX12_init 321 = .ok (.putfield 125, 3) := oc_181 shX12_init_321
theorem dX12_init_324 : decode cX12_init 324 = .ok (.aload_n 0, 1) := oc_42 shX12_init_324
theorem dX12_init_325 : decode cX12_init 325 = .ok (.bipush 60, 2) := oc_16 shX12_init_325 sgb_60
theorem dX12_init_327 : decode cX12_init 327 = .ok (.newarray .int, 2) := oc_188_10 shX12_init_327
theorem dX12_init_329 : decode cX12_init 329 = .ok (.putfield 129, 3) := oc_181 shX12_init_329
theorem dX12_init_332 : decode cX12_init 332 = .ok (.aload_n 0, 1) := oc_42 shX12_init_332
theorem dX12_init_333 : decode cX12_init 333 = .ok (.bipush 60, 2) := oc_16 shX12_init_333 sgb_60
theorem dX12_init_335 : decode cX12_init 335 = .ok (.newarray .int, 2) := oc_188_10 shX12_init_335
theorem dX12_init_337 : decode cX12_init 337 = .ok (.putfield 132, 3) := oc_181 shX12_init_337
theorem dX12_init_340 : decode cX12_init 340 = .ok (.aload_n 0, 1) := oc_42 shX12_init_340
theorem dX12_init_341 : decode cX12_init 341 = .ok (.bipush 60, 2) := oc_16 shX12_init_341 sgb_60
theorem dX12_init_343 : decode cX12_init 343 = .ok (.newarray .int, 2) := oc_188_10 shX12_init_343
theorem dX12_init_345 : decode cX12_init 345 = .ok (.putfield 135, 3) := oc_181 shX12_init_345
theorem dX12_init_348 : decode cX12_init 348 = .ok (.aload_n 0, 1) := oc_42 shX12_init_348
theorem dX12_init_349 : decode cX12_init 349 = .ok (.bipush 10, 2) := oc_16 shX12_init_349 sgb_10
theorem dX12_init_351 : decode cX12_init 351 = .ok (.newarray .int, 2) := oc_188_10 shX12_init_351
theorem dX12_init_353 : decode cX12_init 353 = .ok (.putfield 138, 3) := oc_181 shX12_init_353
theorem dX12_init_356 : decode cX12_init 356 = .ok (.aload_n 0, 1) := oc_42 shX12_init_356
theorem dX12_init_357 : decode cX12_init 357 = .ok (.bipush 10, 2) := oc_16 shX12_init_357 sgb_10
theorem dX12_init_359 : decode cX12_init 359 = .ok (.newarray .int, 2) := oc_188_10 shX12_init_359
theorem dX12_init_361 : decode cX12_init 361 = .ok (.putfield 141, 3) := oc_181 shX12_init_361
theorem dX12_init_364 : decode cX12_init 364 = .ok (.aload_n 0, 1) := oc_42 shX12_init_364
theorem dX12_init_365 : decode cX12_init 365 = .ok (.bipush 40, 2) := oc_16 shX12_init_365 sgb_40
theorem dX12_init_367 : decode cX12_init 367 = .ok (.newarray .int, 2) := oc_188_10 shX12_init_367
theorem dX12_init_369 : decode cX12_init 369 = .ok (.putfield 144, 3) := oc_181 shX12_init_369
theorem dX12_init_372 : decode cX12_init 372 = .ok (.aload_n 0, 1) := oc_42 shX12_init_372
theorem dX12_init_373 : decode cX12_init 373 = .ok (.bipush 40, 2) := oc_16 shX12_init_373 sgb_40
theorem dX12_init_375 : decode cX12_init 375 = .ok (.newarray .int, 2) := oc_188_10 shX12_init_375
theorem dX12_init_377 : decode cX12_init 377 = .ok (.putfield 147, 3) := oc_181 shX12_init_377
theorem dX12_init_380 : decode cX12_init 380 = .ok (.aload_n 0, 1) := oc_42 shX12_init_380
theorem dX12_init_381 : decode cX12_init 381 = .ok (.bipush 40, 2) := oc_16 shX12_init_381 sgb_40
theorem dX12_init_383 : decode cX12_init 383 = .ok (.newarray .int, 2) := oc_188_10 shX12_init_383
theorem dX12_init_385 : decode cX12_init 385 = .ok (.putfield 150, 3) := oc_181 shX12_init_385
theorem dX12_init_388 : decode cX12_init 388 = .ok (.aload_n 0, 1) := oc_42 shX12_init_388
theorem dX12_init_389 : decode cX12_init 389 = .ok (.bipush 40, 2) := oc_16 shX12_init_389 sgb_40
theorem dX12_init_391 : decode cX12_init 391 = .ok (.newarray .int, 2) := oc_188_10 shX12_init_391
theorem dX12_init_393 : decode cX12_init 393 = .ok (.putfield 153, 3) := oc_181 shX12_init_393
theorem dX12_init_396 : decode cX12_init 396 = .ok (.aload_n 0, 1) := oc_42 shX12_init_396
theorem dX12_init_397 : decode cX12_init 397 = .ok (.bipush 40, 2) := oc_16 shX12_init_397 sgb_40
theorem dX12_init_399 : decode cX12_init 399 = .ok (.newarray .int, 2) := oc_188_10 shX12_init_399
theorem dX12_init_401 : decode cX12_init 401 = .ok (.putfield 156, 3) := oc_181 shX12_init_401
theorem dX12_init_404 : decode cX12_init 404 = .ok (.aload_n 0, 1) := oc_42 shX12_init_404
theorem dX12_init_405 : decode cX12_init 405 = .ok (.bipush 12, 2) := oc_16 shX12_init_405 sgb_12
theorem dX12_init_407 : decode cX12_init 407 = .ok (.newarray .int, 2) := oc_188_10 shX12_init_407
theorem dX12_init_409 : decode cX12_init 409 = .ok (.putfield 159, 3) := oc_181 shX12_init_409
theorem dX12_init_412 : decode cX12_init 412 = .ok (.aload_n 0, 1) := oc_42 shX12_init_412
theorem dX12_init_413 : decode cX12_init 413 = .ok (.bipush 10, 2) := oc_16 shX12_init_413 sgb_10
theorem dX12_init_415 : decode cX12_init 415 = .ok (.newarray .int, 2) := oc_188_10 shX12_init_415
theorem dX12_init_417 : decode cX12_init 417 = .ok (.putfield 162, 3) := oc_181 shX12_init_417
theorem dX12_init_420 : decode cX12_init 420 = .ok (.aload_n 0, 1) := oc_42 shX12_init_420
theorem dX12_init_421 : decode cX12_init 421 = .ok (.sipush 232, 3) := oc_17 shX12_init_421 sgw_0_232
theorem dX12_init_424 : decode cX12_init 424 = .ok (.newarray .int, 2) := oc_188_10 shX12_init_424
theorem dX12_init_426 : decode cX12_init 426 = .ok (.putfield 165, 3) := oc_181 shX12_init_426
theorem dX12_init_429 : decode cX12_init 429 = .ok (.aload_n 0, 1) := oc_42 shX12_init_429
theorem dX12_init_430 : decode cX12_init 430 = .ok (.bipush 10, 2) := oc_16 shX12_init_430 sgb_10
theorem dX12_init_432 : decode cX12_init 432 = .ok (.newarray .int, 2) := oc_188_10 shX12_init_432
theorem dX12_init_434 : decode cX12_init 434 = .ok (.putfield 168, 3) := oc_181 shX12_init_434
theorem dX12_init_437 : decode cX12_init 437 = .ok (.aload_n 0, 1) := oc_42 shX12_init_437
theorem dX12_init_438 : decode cX12_init 438 = .ok (.bipush 10, 2) := oc_16 shX12_init_438 sgb_10
theorem dX12_init_440 : decode cX12_init 440 = .ok (.newarray .int, 2) := oc_188_10 shX12_init_440
theorem dX12_init_442 : decode cX12_init 442 = .ok (.putfield 171, 3) := oc_181 shX12_init_442
theorem dX12_init_445 : decode cX12_init 445 = .ok (.aload_n 0, 1) := oc_42 shX12_init_445
theorem dX12_init_446 : decode cX12_init 446 = .ok (.bipush 120, 2) := oc_16 shX12_init_446 sgb_120
theorem dX12_init_448 : decode cX12_init 448 = .ok (.newarray .int, 2) := oc_188_10 shX12_init_448
theorem dX12_init_450 : decode cX12_init 450 = .ok (.putfield 174, 3) := oc_181 shX12_init_450
theorem dX12_init_453 : decode cX12_init 453 = .ok (.aload_n 0, 1) := oc_42 shX12_init_453
theorem dX12_init_454 : decode cX12_init 454 = .ok (.bipush 40, 2) := oc_16 shX12_init_454 sgb_40
theorem dX12_init_456 : decode cX12_init 456 = .ok (.newarray .int, 2) := oc_188_10 shX12_init_456
theorem dX12_init_458 : decode cX12_init 458 = .ok (.putfield 177, 3) := oc_181 shX12_init_458
theorem dX12_init_461 : decode cX12_init 461 = .ok (.aload_n 0, 1) := oc_42 shX12_init_461
theorem dX12_init_462 : decode cX12_init 462 = .ok (.bipush 40, 2) := oc_16 shX12_init_462 sgb_40
theorem dX12_init_464 : decode cX12_init 464 = .ok (.newarray .int, 2) := oc_188_10 shX12_init_464
theorem dX12_init_466 : decode cX12_init 466 = .ok (.putfield 180, 3) := oc_181 shX12_init_466
theorem dX12_init_469 : decode cX12_init 469 = .ok (.aload_n 0, 1) := oc_42 shX12_init_469
theorem dX12_init_470 : decode cX12_init 470 = .ok (.bipush 10, 2) := oc_16 shX12_init_470 sgb_10
theorem dX12_init_472 : decode cX12_init 472 = .ok (.newarray .int, 2) := oc_188_10 shX12_init_472
theorem dX12_init_474 : decode cX12_init 474 = .ok (.putfield 183, 3) := oc_181 shX12_init_474
theorem dX12_init_477 : decode cX12_init 477 = .ok (.aload_n 0, 1) := oc_42 shX12_init_477
theorem dX12_init_478 : decode cX12_init 478 = .ok (.bipush 10, 2) := oc_16 shX12_init_478 sgb_10
theorem dX12_init_480 : decode cX12_init 480 = .ok (.newarray .int, 2) := oc_188_10 shX12_init_480
theorem dX12_init_482 : decode cX12_init 482 = .ok (.putfield 186, 3) := oc_181 shX12_init_482
theorem dX12_init_485 : decode cX12_init 485 = .ok (.aload_n 0, 1) := oc_42 shX12_init_485
theorem dX12_init_486 : decode cX12_init 486 = .ok (.bipush 24, 2) := oc_16 shX12_init_486 sgb_24
theorem dX12_init_488 : decode cX12_init 488 = .ok (.newarray .int, 2) := oc_188_10 shX12_init_488
theorem dX12_init_490 : decode cX12_init 490 = .ok (.putfield 189, 3) := oc_181 shX12_init_490
theorem dX12_init_493 : decode cX12_init 493 = .ok (.aload_n 0, 1) := oc_42 shX12_init_493
theorem dX12_init_494 : decode cX12_init 494 = .ok (.bipush 10, 2) := oc_16 shX12_init_494 sgb_10
theorem dX12_init_496 : decode cX12_init 496 = .ok (.newarray .int, 2) := oc_188_10 shX12_init_496
theorem dX12_init_498 : decode cX12_init 498 = .ok (.putfield 192, 3) := oc_181 shX12_init_498
theorem dX12_init_501 : decode cX12_init 501 = .ok (.aload_n 0, 1) := oc_42 shX12_init_501
theorem dX12_init_502 : decode cX12_init 502 = .ok (.bipush 10, 2) := oc_16 shX12_init_502 sgb_10
theorem dX12_init_504 : decode cX12_init 504 = .ok (.newarray .int, 2) := oc_188_10 shX12_init_504
theorem dX12_init_506 : decode cX12_init 506 = .ok (.putfield 195, 3) := oc_181 shX12_init_506
theorem dX12_init_509 : decode cX12_init 509 = .ok (.aload_n 0, 1) := oc_42 shX12_init_509
theorem dX12_init_510 : decode cX12_init 510 = .ok (.bipush 10, 2) := oc_16 shX12_init_510 sgb_10
theorem dX12_init_512 : decode cX12_init 512 = .ok (.newarray .int, 2) := oc_188_10 shX12_init_512
theorem dX12_init_514 : decode cX12_init 514 = .ok (.putfield 198, 3) := oc_181 shX12_init_514
theorem dX12_init_517 : decode cX12_init 517 = .ok (.aload_n 0, 1) := oc_42 shX12_init_517
theorem dX12_init_518 : decode cX12_init 518 = .ok (.sipush 400, 3) := oc_17 shX12_init_518 sgw_1_144
theorem dX12_init_521 : decode cX12_init 521 = .ok (.newarray .int, 2) := oc_188_10 shX12_init_521
theorem dX12_init_523 : decode cX12_init 523 = .ok (.putfield 201, 3) := oc_181 shX12_init_523
theorem dX12_init_526 : decode cX12_init 526 = .ok (.iconst 0, 1) := oc_3 shX12_init_526
theorem dX12_init_527 : decode cX12_init 527 = .ok (.istore_n 1, 1) := oc_60 shX12_init_527
theorem dX12_init_528 : decode cX12_init 528 = .ok (.iload_n 1, 1) := oc_27 shX12_init_528
theorem dX12_init_529 : decode cX12_init 529 = .ok (.sipush 400, 3) := oc_17 shX12_init_529 sgw_1_144
theorem dX12_init_532 : decode cX12_init 532 = .ok (.if_icmp .ge 17, 3) := oc_162 shX12_init_532 sgw_0_17
theorem dX12_init_549 : decode cX12_init 549 = .ok (.return_, 1) := oc_177 shX12_init_549
theorem dX12_init_535 : decode cX12_init 535 = .ok (.aload_n 0, 1) := oc_42 shX12_init_535
theorem dX12_init_536 : decode cX12_init 536 = .ok (.getfield 201, 3) := oc_180 shX12_init_536
theorem dX12_init_539 : decode cX12_init 539 = .ok (.iload_n 1, 1) := oc_27 shX12_init_539
theorem dX12_init_540 : decode cX12_init 540 = .ok (.bipush 15, 2) := oc_16 shX12_init_540 sgb_15
theorem dX12_init_542 : decode cX12_init 542 = .ok (.iastore, 1) := oc_79 shX12_init_542
theorem dX12_init_543 : decode cX12_init 543 = .ok (.iinc 1 1, 3) := oc_132 shX12_init_543 sgb_1
theorem dX12_init_546 : decode cX12_init 546 = .ok (.goto (-18), 3) := oc_167 shX12_init_546 sgw_255_238
set_option maxRecDepth 100000 in
set_option maxHeartbeats 4000000 in
theorem q_c_Tape (l : Launch) (D : va_G) (cI cB cZ : ClassId) (x : Nat) (sz : Nat) : Met l yX8_init (CWS yX8_init cX8_init 1 none) (RM 1 1 200) (PBw [.ref x] D cI cB cZ [(x, .inr (9, [.null, .int 0]))] sz) (va_Qv (fun (_ : Nat) => True) (fun (u : Nat) (t : State) => va_P D vwCl [(x, .inr (9, [.ref u, .int 0])), (u, .inl (cI, 200, .inl (fun _ => 0)))] t.heap ∧ va_D (va_A [(x, .inr (9, [.null, .int 0]))] sz) [(x, .inr (9, [.ref u, .int 0])), (u, .inl (cI, 200, .inl (fun _ => 0)))]) (va_A [(x, .inr (9, [.null, .int 0]))] sz)) 1 200 (va_A [(x, .inr (9, [.null, .int 0]))] sz) := by
  refine Met.ofW (cc := cX8_init) (maxL := 1) (ret := none) (by decide) rfl ?_
  intro p e s m args below meth c s₁ B hml hv
  obtain ⟨rfl, hsz, hP, hK, hD0⟩ := hv
  have hx := B.exec
  have hb := B.bytes
  have hr := B.returns
  have hts := atoms_spec (ws := (CWS yX8_init cX8_init 1 none)) B.pre
  have hown : s.vm.findClass RX8 = some m.cls := findClass_of_methodNamed B.named
  have hlocks := B.notSynchronized
  have hin : meth.name = "<init>" := (name_of_methodNamed B.named B.method).1
  have S : SF p m c cX8_init 1 s ([.ref x]).toArray RX8 := ⟨hx, hb, hml, hown, fun w h => hts w (List.mem_cons_of_mem _ h)⟩
  subst hsz
  have hD := hD0.self (sz := s.heap.size)
  generalize hAe : va_A [(x, .inr (9, [.null, .int 0]))] s.heap.size = A at hD ⊢
  have hA : ∀ q : Nat, s.heap.size ≤ q → A q := fun q h => by rw [← hAe]; exact Or.inr h
  have hS : va_S A s.heap s.heap [] := va_S.rf
  have hP : va_P D vwCl [(x, .inr (9, [.null, .int 0]))] s.heap := hP
  have hD : va_D A [(x, .inr (9, [.null, .int 0]))] := hD
  have hl := lv_entry ([.ref x]) (n := 1) (Nat.le_of_ble_eq_true rfl)
  rw [lg_entry_eq]
  generalize (lg_sl ([.ref x]) ++ List.replicate (1 - (lg_sl ([.ref x])).length) Slot.unset).toArray = ls at hl ⊢
  have hl : lv_has ls 1 [(0, .ref x)] := hl
  refine lv_aload_n hx hb dX8_init_0 rfl (lv_at hl 0 rfl) ?_
  refine W.objInit hx hb hown (S.2.2.2.2 _ (wT_t1 80 rfl rfl)) (S.2.2.2.2 _ (wT_t1 33 rfl rfl)) (S.2.2.2.2 _ (wT_t1 34 rfl rfl)) rfl (by rw [hml]; exact hl.1) rfl dX8_init_1 (Nat.le_of_ble_eq_true rfl) (Nat.le_of_ble_eq_true rfl) ?_
  refine W.eq (g2 := F0 m 4 ls []) rfl ?_
  refine lv_aload_n hx hb dX8_init_4 rfl (lv_at hl 0 rfl) ?_
  refine lv_sipush (v := 200) hx hb dX8_init_5 (by decide) ?_
  refine newa_int S hK hP hD hS hA (N' := 200) (by decide) (by decide) (Nat.le_of_ble_eq_true rfl) (Nat.le_of_ble_eq_true rfl) (Nat.le_of_ble_eq_true rfl) dX8_init_8 (fun q8 H hP hD hS => ?_)
  have hP : va_P D vwCl [(x, .inr (9, [.null, .int 0])), (q8, .inl (cI, 200, .inl (fun _ => 0)))] H := hP
  have hD : va_D A [(x, .inr (9, [.null, .int 0])), (q8, .inl (cI, 200, .inl (fun _ => 0)))] := hD
  refine pf_RX8_9 S hin hK hP hD hS 0 rfl (v := .ref q8) (Nat.le_of_ble_eq_true rfl) rfl rfl dX8_init_10 (fun H locs hP hD hS => ?_)
  have hP : va_P D vwCl [(x, .inr (9, [.ref q8, .int 0])), (q8, .inl (cI, 200, .inl (fun _ => 0)))] H := hP
  have hD : va_D A [(x, .inr (9, [.ref q8, .int 0])), (q8, .inl (cI, 200, .inl (fun _ => 0)))] := hD
  have hP9 := hP.sub (ws' := [(x, .inr (9, [.ref q8, .int 0])), (q8, .inl (cI, 200, .inl (fun _ => 0)))]) [0, 1] rfl
  have hD9 := hD.sub (ws' := [(x, .inr (9, [.ref q8, .int 0])), (q8, .inl (cI, 200, .inl (fun _ => 0)))]) [0, 1] (by decide) rfl
  exact W.vret hx hb hr (fun t ht hW => ⟨⟨q8, rfl, trivial, by rw [ht]; exact hP9, hD9⟩, hS.F ht⟩) hS.2.2 dX8_init_13
set_option maxRecDepth 100000 in
set_option maxHeartbeats 4000000 in
theorem q_c_Reader (l : Launch) (D : va_G) (cI cB cZ : ClassId) (x : Nat) (sz : Nat) : Met l yX5_init (CWS yX5_init cX5_init 1 none) (RM 2 7 77) (PBw [.ref x] D cI cB cZ [(x, .inr (6, [.null, .null, .int 0, .int 0, .int 0, .int 0]))] sz) (va_Qv (fun (_ : Nat → Nat) => True) (fun (u : Nat → Nat) (t : State) => va_P D vwCl [(x, .inr (6, [.ref (u 6), .ref (u 5), .int 0, .int 0, .int 0, .int 0])), ((u 6), .inl (cI, 0, .inl (fun _ => 0))), ((u 5), .inr (10, [.ref (u 0), .ref (u 1), .ref (u 2), .ref (u 3), .ref (u 4), .int 0, .int 0, .int 0, .int 0])), ((u 0), .inl (cI, 0, .inl (fun _ => 0))), ((u 1), .inl (cI, 12, .inl (fun _ => 0))), ((u 2), .inl (cI, 12, .inl (fun _ => 0))), ((u 3), .inl (cI, 12, .inl (fun _ => 0))), ((u 4), .inl (cI, 32, .inl (fun _ => 0)))] t.heap ∧ va_D (va_A [(x, .inr (6, [.null, .null, .int 0, .int 0, .int 0, .int 0]))] sz) [(x, .inr (6, [.ref (u 6), .ref (u 5), .int 0, .int 0, .int 0, .int 0])), ((u 6), .inl (cI, 0, .inl (fun _ => 0))), ((u 5), .inr (10, [.ref (u 0), .ref (u 1), .ref (u 2), .ref (u 3), .ref (u 4), .int 0, .int 0, .int 0, .int 0])), ((u 0), .inl (cI, 0, .inl (fun _ => 0))), ((u 1), .inl (cI, 12, .inl (fun _ => 0))), ((u 2), .inl (cI, 12, .inl (fun _ => 0))), ((u 3), .inl (cI, 12, .inl (fun _ => 0))), ((u 4), .inl (cI, 32, .inl (fun _ => 0)))]) (va_A [(x, .inr (6, [.null, .null, .int 0, .int 0, .int 0, .int 0]))] sz)) 7 77 (va_A [(x, .inr (6, [.null, .null, .int 0, .int 0, .int 0, .int 0]))] sz) := by
  refine Met.ofW (cc := cX5_init) (maxL := 1) (ret := none) (by decide) rfl ?_
  intro p e s m args below meth c s₁ B hml hv
  obtain ⟨rfl, hsz, hP, hK, hD0⟩ := hv
  have hx := B.exec
  have hb := B.bytes
  have hr := B.returns
  have hts := atoms_spec (ws := (CWS yX5_init cX5_init 1 none)) B.pre
  have hown : s.vm.findClass RX5 = some m.cls := findClass_of_methodNamed B.named
  have hlocks := B.notSynchronized
  have hin : meth.name = "<init>" := (name_of_methodNamed B.named B.method).1
  have S : SF p m c cX5_init 1 s ([.ref x]).toArray RX5 := ⟨hx, hb, hml, hown, fun w h => hts w (List.mem_cons_of_mem _ h)⟩
  subst hsz
  have hD := hD0.self (sz := s.heap.size)
  generalize hAe : va_A [(x, .inr (6, [.null, .null, .int 0, .int 0, .int 0, .int 0]))] s.heap.size = A at hD ⊢
  have hA : ∀ q : Nat, s.heap.size ≤ q → A q := fun q h => by rw [← hAe]; exact Or.inr h
  have hS : va_S A s.heap s.heap [] := va_S.rf
  have hP : va_P D vwCl [(x, .inr (6, [.null, .null, .int 0, .int 0, .int 0, .int 0]))] s.heap := hP
  have hD : va_D A [(x, .inr (6, [.null, .null, .int 0, .int 0, .int 0, .int 0]))] := hD
  have hl := lv_entry ([.ref x]) (n := 1) (Nat.le_of_ble_eq_true rfl)
  rw [lg_entry_eq]
  generalize (lg_sl ([.ref x]) ++ List.replicate (1 - (lg_sl ([.ref x])).length) Slot.unset).toArray = ls at hl ⊢
  have hl : lv_has ls 1 [(0, .ref x)] := hl
  refine lv_aload_n hx hb dX5_init_0 rfl (lv_at hl 0 rfl) ?_
  refine W.objInit hx hb hown (S.2.2.2.2 _ (wT_t1 94 rfl rfl)) (S.2.2.2.2 _ (wT_t1 33 rfl rfl)) (S.2.2.2.2 _ (wT_t1 34 rfl rfl)) rfl (by rw [hml]; exact hl.1) rfl dX5_init_1 (Nat.le_of_ble_eq_true rfl) (Nat.le_of_ble_eq_true rfl) ?_
  refine W.eq (g2 := F0 m 4 ls []) rfl ?_
  refine lv_aload_n hx hb dX5_init_4 rfl (lv_at hl 0 rfl) ?_
  refine lv_iconst (v := 0) hx hb dX5_init_5 (by decide) ?_
  refine newa_int S hK hP hD hS hA (N' := 0) (by decide) (by decide) (Nat.le_of_ble_eq_true rfl) (Nat.le_of_ble_eq_true rfl) (Nat.le_of_ble_eq_true rfl) dX5_init_6 (fun q6 H hP hD hS => ?_)
  have hP : va_P D vwCl [(x, .inr (6, [.null, .null, .int 0, .int 0, .int 0, .int 0])), (q6, .inl (cI, 0, .inl (fun _ => 0)))] H := hP
  have hD : va_D A [(x, .inr (6, [.null, .null, .int 0, .int 0, .int 0, .int 0])), (q6, .inl (cI, 0, .inl (fun _ => 0)))] := hD
  refine pf_RX5_9 S hK hP hD hS 0 rfl (v := .ref q6) (Nat.le_of_ble_eq_true rfl) rfl rfl dX5_init_8 (fun H locs hP hD hS => ?_)
  have hP : va_P D vwCl [(x, .inr (6, [.ref q6, .null, .int 0, .int 0, .int 0, .int 0])), (q6, .inl (cI, 0, .inl (fun _ => 0)))] H := hP
  have hD : va_D A [(x, .inr (6, [.ref q6, .null, .int 0, .int 0, .int 0, .int 0])), (q6, .inl (cI, 0, .inl (fun _ => 0)))] := hD
  refine lv_aload_n hx hb dX5_init_11 rfl (lv_at hl 0 rfl) ?_
  refine va_new (ci := 10) (fs := [.null, .null, .null, .null, .null, .int 0, .int 0, .int 0, .int 0]) (C := RX9) (T := TX9) (N := 9) hx hb S.2.2.2.2 hin_RX9 tyX9 tyX9_ok hown (S.2.2.2.2 _ (wT_t1 95 rfl rfl)) (S.2.2.2.2 _ (wT_t1 36 rfl rfl)) (S.2.2.2.2 _ (wT_t1 2 rfl rfl)) hK.1 hP hD hS hA rfl (by decide +kernel) (Nat.le_of_ble_eq_true rfl) (Nat.le_of_ble_eq_true rfl) dX5_init_12 (fun q12 H hP hD hS => ?_)
  have hP : va_P D vwCl [(x, .inr (6, [.ref q6, .null, .int 0, .int 0, .int 0, .int 0])), (q6, .inl (cI, 0, .inl (fun _ => 0))), (q12, .inr (10, [.null, .null, .null, .null, .null, .int 0, .int 0, .int 0, .int 0]))] H := hP
  have hD : va_D A [(x, .inr (6, [.ref q6, .null, .int 0, .int 0, .int 0, .int 0])), (q6, .inl (cI, 0, .inl (fun _ => 0))), (q12, .inr (10, [.null, .null, .null, .null, .null, .int 0, .int 0, .int 0, .int 0]))] := hD
  refine lv_dup hx hb dX5_init_15 rfl ?_
  refine lv_iconst (v := 0) hx hb dX5_init_16 (by decide) ?_
  have hFc := va_free (wc := [(q12, .inr (10, [.null, .null, .null, .null, .null, .int 0, .int 0, .int 0, .int 0]))]) hD hS hA [2] rfl
  refine va_callv (runI_w (As := [.int 0]) (rest := [.ref q12, .ref x]) S (q_l_Text0 l D cI cB cZ q12 H.size) kI_RX5_17 hK hP hD [2] rfl rfl (by decide) ⟨Nat.le_of_ble_eq_true rfl, Nat.le_of_ble_eq_true rfl⟩ ⟨Nat.le_of_ble_eq_true rfl, Nat.le_of_ble_eq_true rfl⟩ rfl hl.1 rfl (Nat.le_of_ble_eq_true rfl) dX5_init_17) hS (fun q _ h => hFc q h) hFc (fun u_2 t H1 locs ht hvm h_3 hB hz1 hk1 hS => ?_)
  obtain ⟨hP1, hD1⟩ := hB
  rw [ht] at hP1
  obtain ⟨hP, hD⟩ := va_join (wr := [(x, .inr (6, [.ref q6, .null, .int 0, .int 0, .int 0, .int 0])), (q6, .inl (cI, 0, .inl (fun _ => 0)))]) (w1 := [(q12, .inr (10, [.ref (u_2 0), .ref (u_2 1), .ref (u_2 2), .ref (u_2 3), .ref (u_2 4), .int 0, .int 0, .int 0, .int 0])), ((u_2 0), .inl (cI, 0, .inl (fun _ => 0))), ((u_2 1), .inl (cI, 12, .inl (fun _ => 0))), ((u_2 2), .inl (cI, 12, .inl (fun _ => 0))), ((u_2 3), .inl (cI, 12, .inl (fun _ => 0))), ((u_2 4), .inl (cI, 32, .inl (fun _ => 0)))]) hP hD [2] [0, 1] rfl rfl (by decide) (by decide) hk1 hFc hP1 hD1
  generalize H1 = H at hP hS ⊢
  have hP : va_P D vwCl [(x, .inr (6, [.ref q6, .null, .int 0, .int 0, .int 0, .int 0])), (q6, .inl (cI, 0, .inl (fun _ => 0))), (q12, .inr (10, [.ref (u_2 0), .ref (u_2 1), .ref (u_2 2), .ref (u_2 3), .ref (u_2 4), .int 0, .int 0, .int 0, .int 0])), ((u_2 0), .inl (cI, 0, .inl (fun _ => 0))), ((u_2 1), .inl (cI, 12, .inl (fun _ => 0))), ((u_2 2), .inl (cI, 12, .inl (fun _ => 0))), ((u_2 3), .inl (cI, 12, .inl (fun _ => 0))), ((u_2 4), .inl (cI, 32, .inl (fun _ => 0)))] H := hP
  have hD : va_D A [(x, .inr (6, [.ref q6, .null, .int 0, .int 0, .int 0, .int 0])), (q6, .inl (cI, 0, .inl (fun _ => 0))), (q12, .inr (10, [.ref (u_2 0), .ref (u_2 1), .ref (u_2 2), .ref (u_2 3), .ref (u_2 4), .int 0, .int 0, .int 0, .int 0])), ((u_2 0), .inl (cI, 0, .inl (fun _ => 0))), ((u_2 1), .inl (cI, 12, .inl (fun _ => 0))), ((u_2 2), .inl (cI, 12, .inl (fun _ => 0))), ((u_2 3), .inl (cI, 12, .inl (fun _ => 0))), ((u_2 4), .inl (cI, 32, .inl (fun _ => 0)))] := hD
  refine pf_RX5_20 S hK hP hD hS 0 rfl (v := .ref q12) (Nat.le_of_ble_eq_true rfl) rfl rfl dX5_init_20 (fun H locs hP hD hS => ?_)
  have hP : va_P D vwCl [(x, .inr (6, [.ref q6, .ref q12, .int 0, .int 0, .int 0, .int 0])), (q6, .inl (cI, 0, .inl (fun _ => 0))), (q12, .inr (10, [.ref (u_2 0), .ref (u_2 1), .ref (u_2 2), .ref (u_2 3), .ref (u_2 4), .int 0, .int 0, .int 0, .int 0])), ((u_2 0), .inl (cI, 0, .inl (fun _ => 0))), ((u_2 1), .inl (cI, 12, .inl (fun _ => 0))), ((u_2 2), .inl (cI, 12, .inl (fun _ => 0))), ((u_2 3), .inl (cI, 12, .inl (fun _ => 0))), ((u_2 4), .inl (cI, 32, .inl (fun _ => 0)))] H := hP
  have hD : va_D A [(x, .inr (6, [.ref q6, .ref q12, .int 0, .int 0, .int 0, .int 0])), (q6, .inl (cI, 0, .inl (fun _ => 0))), (q12, .inr (10, [.ref (u_2 0), .ref (u_2 1), .ref (u_2 2), .ref (u_2 3), .ref (u_2 4), .int 0, .int 0, .int 0, .int 0])), ((u_2 0), .inl (cI, 0, .inl (fun _ => 0))), ((u_2 1), .inl (cI, 12, .inl (fun _ => 0))), ((u_2 2), .inl (cI, 12, .inl (fun _ => 0))), ((u_2 3), .inl (cI, 12, .inl (fun _ => 0))), ((u_2 4), .inl (cI, 32, .inl (fun _ => 0)))] := hD
  have hP9 := hP.sub (ws' := [(x, .inr (6, [.ref q6, .ref q12, .int 0, .int 0, .int 0, .int 0])), (q6, .inl (cI, 0, .inl (fun _ => 0))), (q12, .inr (10, [.ref (u_2 0), .ref (u_2 1), .ref (u_2 2), .ref (u_2 3), .ref (u_2 4), .int 0, .int 0, .int 0, .int 0])), ((u_2 0), .inl (cI, 0, .inl (fun _ => 0))), ((u_2 1), .inl (cI, 12, .inl (fun _ => 0))), ((u_2 2), .inl (cI, 12, .inl (fun _ => 0))), ((u_2 3), .inl (cI, 12, .inl (fun _ => 0))), ((u_2 4), .inl (cI, 32, .inl (fun _ => 0)))]) [0, 1, 2, 3, 4, 5, 6, 7] rfl
  have hD9 := hD.sub (ws' := [(x, .inr (6, [.ref q6, .ref q12, .int 0, .int 0, .int 0, .int 0])), (q6, .inl (cI, 0, .inl (fun _ => 0))), (q12, .inr (10, [.ref (u_2 0), .ref (u_2 1), .ref (u_2 2), .ref (u_2 3), .ref (u_2 4), .int 0, .int 0, .int 0, .int 0])), ((u_2 0), .inl (cI, 0, .inl (fun _ => 0))), ((u_2 1), .inl (cI, 12, .inl (fun _ => 0))), ((u_2 2), .inl (cI, 12, .inl (fun _ => 0))), ((u_2 3), .inl (cI, 12, .inl (fun _ => 0))), ((u_2 4), .inl (cI, 32, .inl (fun _ => 0)))]) [0, 1, 2, 3, 4, 5, 6, 7] (by decide) rfl
  exact W.vret hx hb hr (fun t ht hW => ⟨⟨(fun k => ([(u_2 0), (u_2 1), (u_2 2), (u_2 3), (u_2 4), q12, q6] : List Nat).getD k 0), rfl, trivial, by rw [ht]; exact hP9, hD9⟩, hS.F ht⟩) hS.2.2 dX5_init_23
set_option maxRecDepth 100000 in
set_option maxHeartbeats 4000000 in
theorem q_c_fill (l : Launch) (D : va_G) (cI cB cZ : ClassId) (a : Nat) (sz : Nat) : Met l yJ7_fill_53178 (CWS yJ7_fill_53178 cJ7_fill_53178 4 none) (RM 0 0 0) (PBw [.ref a, .int 15] D cI cB cZ [(a, .inl (cI, 400, .inl (fun _ => 0)))] sz) (va_Qv (fun (_ : Unit) => True) (fun (u : Unit) (t : State) => va_P D vwCl [(a, .inl (cI, 400, .inl (dgF 400)))] t.heap ∧ va_D (va_A [(a, .inl (cI, 400, .inl (fun _ => 0)))] sz) [(a, .inl (cI, 400, .inl (dgF 400)))]) (va_A [(a, .inl (cI, 400, .inl (fun _ => 0)))] sz)) 0 0 (va_A [(a, .inl (cI, 400, .inl (fun _ => 0)))] sz) := by
  refine Met.ofW (cc := cJ7_fill_53178) (maxL := 4) (ret := none) (by decide) rfl ?_
  intro p e s m args below meth c s₁ B hml hv
  obtain ⟨rfl, hsz, hP, hK, hD0⟩ := hv
  have hx := B.exec
  have hb := B.bytes
  have hr := B.returns
  have hts := atoms_spec (ws := (CWS yJ7_fill_53178 cJ7_fill_53178 4 none)) B.pre
  have hown : s.vm.findClass RJ7 = some m.cls := findClass_of_methodNamed B.named
  have hlocks := B.notSynchronized
  have S : SF p m c cJ7_fill_53178 4 s ([.ref a, .int 15]).toArray RJ7 := ⟨hx, hb, hml, hown, fun w h => hts w (List.mem_cons_of_mem _ h)⟩
  subst hsz
  have hD := hD0.self (sz := s.heap.size)
  generalize hAe : va_A [(a, .inl (cI, 400, .inl (fun _ => 0)))] s.heap.size = A at hD ⊢
  have hA : ∀ q : Nat, s.heap.size ≤ q → A q := fun q h => by rw [← hAe]; exact Or.inr h
  have hS : va_S A s.heap s.heap [] := va_S.rf
  have hP : va_P D vwCl [(a, .inl (cI, 400, .inl (fun _ => 0)))] s.heap := hP
  have hD : va_D A [(a, .inl (cI, 400, .inl (fun _ => 0)))] := hD
  have hl := lv_entry ([.ref a, .int 15]) (n := 4) (Nat.le_of_ble_eq_true rfl)
  rw [lg_entry_eq]
  generalize (lg_sl ([.ref a, .int 15]) ++ List.replicate (4 - (lg_sl ([.ref a, .int 15])).length) Slot.unset).toArray = ls at hl ⊢
  have hl : lv_has ls 4 [(0, .ref a), (1, .int 15)] := hl
  refine lv_iconst (v := 0) hx hb dJ7_fill_53178_0 (by decide) ?_
  refine lv_istore_n (lv' := [(2, .int 0), (0, .ref a), (1, .int 15)]) hx hb dJ7_fill_53178_1 rfl hl (by decide) rfl (fun ls hl => ?_)
  refine lv_aload_n hx hb dJ7_fill_53178_2 rfl (lv_at hl 1 rfl) ?_
  refine va_alen hx hb hK.1 hP 0 0 rfl rfl (v := 400) rfl dJ7_fill_53178_3 ?_
  refine lv_istore_n (lv' := [(3, .int 400), (2, .int 0), (0, .ref a), (1, .int 15)]) hx hb dJ7_fill_53178_4 rfl hl (by decide) rfl (fun ls hl => ?_)
  have hP : va_P D vwCl [(a, .inl (cI, 400, .inl (dgF 0)))] s.heap := by rw [dgF_0]; exact hP
  have hD : va_D A [(a, .inl (cI, 400, .inl (dgF 0)))] := by rw [dgF_0]; exact hD
  have lp_5 : ∀ (n i : Nat), 400 + 1 ≤ i + n → i ≤ 400 → ∀ (H : Heap) (locs : List Loc), va_P D vwCl [(a, .inl (cI, 400, .inl (dgF i)))] H → va_D A [(a, .inl (cI, 400, .inl (dgF i)))] → va_S A s.heap H locs → ∀ ls : Array Slot, lv_has ls 4 [(3, .int 400), (2, .int (nI i)), (0, .ref a), (1, .int 15)] → W p l e (RM 0 0 0) s m ([.ref a, .int 15]).toArray below meth c H locs 0 0 (MQ below (va_Qv (fun (_ : Unit) => True) (fun (u : Unit) (t : State) => va_P D vwCl [(a, .inl (cI, 400, .inl (dgF 400)))] t.heap ∧ va_D A [(a, .inl (cI, 400, .inl (dgF 400)))]) A) ([.ref a, .int 15]).toArray s 0 0 A) (F0 m 5 ls []) := by
    intro n
    induction n with
    | zero => intro i h1 h2; exact absurd h1 (by omega)
    | succ n ih =>
      intro i hn1 hi H locs hP hD hS ls hl
      have ti : (nI i).toInt = (i : Int) := nI_toInt (by omega)
      refine lv_iload_n hx hb dJ7_fill_53178_5 rfl (lv_at hl 1 rfl) ?_
      refine lv_iload_n hx hb dJ7_fill_53178_6 rfl (lv_at hl 0 rfl) ?_
      refine lv_icmp_ge (tgt := 20) hx hb dJ7_fill_53178_7 (by decide) (fun c_1 => ?_) (fun c_1 => ?_)
      ·
        have tc_1 : (400 : Int) ≤ (nI i).toInt := Int32.le_iff_toInt_le.mp c_1
        obtain rfl : i = 400 := by omega
        have hP9 := hP.sub (ws' := [(a, .inl (cI, 400, .inl (dgF 400)))]) [0] rfl
        have hD9 := hD.sub (ws' := [(a, .inl (cI, 400, .inl (dgF 400)))]) [0] (by decide) rfl
        exact W.vret hx hb hr (fun t ht hW => ⟨⟨(), rfl, trivial, by rw [ht]; exact hP9, hD9⟩, hS.F ht⟩) hS.2.2 dJ7_fill_53178_20
      ·
        have tc_1 : ((nI i).toInt : Int) < 400 := Int32.lt_iff_toInt_lt.mp (Int32.not_le.mp c_1)
        refine lv_aload_n hx hb dJ7_fill_53178_10 rfl (lv_at hl 2 rfl) ?_
        refine lv_iload_n hx hb dJ7_fill_53178_11 rfl (lv_at hl 1 rfl) ?_
        refine lv_iload_n hx hb dJ7_fill_53178_12 rfl (lv_at hl 3 rfl) ?_
        refine va_iast hx hb hK.1 hP hD hS 0 0 rfl rfl (vp_in_iff.mpr ⟨by omega, by omega⟩) dJ7_fill_53178_13 (fun H locs hP hD hS => ?_)
        rw [nI_clamp (by omega), dgF_s] at hP hD
        have hP : va_P D vwCl [(a, .inl (cI, 400, .inl (dgF (i + 1))))] H := hP
        have hD : va_D A [(a, .inl (cI, 400, .inl (dgF (i + 1))))] := hD
        refine lv_iinc (v := (nI (i + 1))) (lv' := [(2, .int (nI (i + 1))), (3, .int 400), (0, .ref a), (1, .int 15)]) hx hb dJ7_fill_53178_14 hl (k := 1) rfl (nI_1 _) (by decide) rfl (fun ls hl => ?_)
        refine lv_goto (tgt := 5) hx hb dJ7_fill_53178_17 (by decide) ?_
        exact ih (i + 1) (by omega) (by omega) _ _ hP hD hS ls (lv_sub hl [1, 0, 2, 3] rfl)
  exact lp_5 (400 + 1) 0 (by omega) (by omega) _ _ hP hD hS ls (lv_sub hl [0, 1, 2, 3] rfl)
set_option maxRecDepth 100000 in
set_option maxHeartbeats 4000000 in
theorem q_c_Tables (l : Launch) (D : va_G) (cI cB cZ : ClassId) (x : Nat) (sz : Nat) : Met l yX7_init (CWS yX7_init cX7_init 1 none) (RM 1 10 2737) (PBw [.ref x] D cI cB cZ [(x, .inr (8, [.null, .null, .null, .null, .null, .null, .null, .null, .null, .null]))] sz) (va_Qv (fun (_ : Nat → Nat) => True) (fun (u : Nat → Nat) (t : State) => va_P D vwCl [(x, .inr (8, [.ref (u 0), .ref (u 1), .ref (u 2), .ref (u 3), .ref (u 4), .ref (u 5), .ref (u 6), .ref (u 7), .ref (u 8), .ref (u 9)])), ((u 0), .inl (cI, 58, .inl (fun _ => 0))), ((u 1), .inl (cI, 24, .inl (fun _ => 0))), ((u 2), .inl (cI, 400, .inl (dgF 400))), ((u 3), .inl (cI, 400, .inl (fun _ => 0))), ((u 4), .inl (cI, 10, .inl (fun _ => 0))), ((u 5), .inl (cI, 10, .inl (fun _ => 0))), ((u 6), .inl (cI, 232, .inl (fun _ => 0))), ((u 7), .inl (cI, 3, .inl (fun _ => 0))), ((u 8), .inl (cI, 1200, .inl (fun _ => 0))), ((u 9), .inl (cI, 400, .inl (fun _ => 0)))] t.heap ∧ va_D (va_A [(x, .inr (8, [.null, .null, .null, .null, .null, .null, .null, .null, .null, .null]))] sz) [(x, .inr (8, [.ref (u 0), .ref (u 1), .ref (u 2), .ref (u 3), .ref (u 4), .ref (u 5), .ref (u 6), .ref (u 7), .ref (u 8), .ref (u 9)])), ((u 0), .inl (cI, 58, .inl (fun _ => 0))), ((u 1), .inl (cI, 24, .inl (fun _ => 0))), ((u 2), .inl (cI, 400, .inl (dgF 400))), ((u 3), .inl (cI, 400, .inl (fun _ => 0))), ((u 4), .inl (cI, 10, .inl (fun _ => 0))), ((u 5), .inl (cI, 10, .inl (fun _ => 0))), ((u 6), .inl (cI, 232, .inl (fun _ => 0))), ((u 7), .inl (cI, 3, .inl (fun _ => 0))), ((u 8), .inl (cI, 1200, .inl (fun _ => 0))), ((u 9), .inl (cI, 400, .inl (fun _ => 0)))]) (va_A [(x, .inr (8, [.null, .null, .null, .null, .null, .null, .null, .null, .null, .null]))] sz)) 10 2737 (va_A [(x, .inr (8, [.null, .null, .null, .null, .null, .null, .null, .null, .null, .null]))] sz) := by
  refine Met.ofW (cc := cX7_init) (maxL := 1) (ret := none) (by decide) rfl ?_
  intro p e s m args below meth c s₁ B hml hv
  obtain ⟨rfl, hsz, hP, hK, hD0⟩ := hv
  have hx := B.exec
  have hb := B.bytes
  have hr := B.returns
  have hts := atoms_spec (ws := (CWS yX7_init cX7_init 1 none)) B.pre
  have hown : s.vm.findClass RX7 = some m.cls := findClass_of_methodNamed B.named
  have hlocks := B.notSynchronized
  have hin : meth.name = "<init>" := (name_of_methodNamed B.named B.method).1
  have S : SF p m c cX7_init 1 s ([.ref x]).toArray RX7 := ⟨hx, hb, hml, hown, fun w h => hts w (List.mem_cons_of_mem _ h)⟩
  subst hsz
  have hD := hD0.self (sz := s.heap.size)
  generalize hAe : va_A [(x, .inr (8, [.null, .null, .null, .null, .null, .null, .null, .null, .null, .null]))] s.heap.size = A at hD ⊢
  have hA : ∀ q : Nat, s.heap.size ≤ q → A q := fun q h => by rw [← hAe]; exact Or.inr h
  have hS : va_S A s.heap s.heap [] := va_S.rf
  have hP : va_P D vwCl [(x, .inr (8, [.null, .null, .null, .null, .null, .null, .null, .null, .null, .null]))] s.heap := hP
  have hD : va_D A [(x, .inr (8, [.null, .null, .null, .null, .null, .null, .null, .null, .null, .null]))] := hD
  have hl := lv_entry ([.ref x]) (n := 1) (Nat.le_of_ble_eq_true rfl)
  rw [lg_entry_eq]
  generalize (lg_sl ([.ref x]) ++ List.replicate (1 - (lg_sl ([.ref x])).length) Slot.unset).toArray = ls at hl ⊢
  have hl : lv_has ls 1 [(0, .ref x)] := hl
  refine lv_aload_n hx hb dX7_init_0 rfl (lv_at hl 0 rfl) ?_
  refine W.objInit hx hb hown (S.2.2.2.2 _ (wT_t1 133 rfl rfl)) (S.2.2.2.2 _ (wT_t1 33 rfl rfl)) (S.2.2.2.2 _ (wT_t1 34 rfl rfl)) rfl (by rw [hml]; exact hl.1) rfl dX7_init_1 (Nat.le_of_ble_eq_true rfl) (Nat.le_of_ble_eq_true rfl) ?_
  refine W.eq (g2 := F0 m 4 ls []) rfl ?_
  refine lv_aload_n hx hb dX7_init_4 rfl (lv_at hl 0 rfl) ?_
  refine lv_bipush (v := 58) hx hb dX7_init_5 (by decide) ?_
  refine newa_int S hK hP hD hS hA (N' := 58) (by decide) (by decide) (Nat.le_of_ble_eq_true rfl) (Nat.le_of_ble_eq_true rfl) (Nat.le_of_ble_eq_true rfl) dX7_init_7 (fun q7 H hP hD hS => ?_)
  have hP : va_P D vwCl [(x, .inr (8, [.null, .null, .null, .null, .null, .null, .null, .null, .null, .null])), (q7, .inl (cI, 58, .inl (fun _ => 0)))] H := hP
  have hD : va_D A [(x, .inr (8, [.null, .null, .null, .null, .null, .null, .null, .null, .null, .null])), (q7, .inl (cI, 58, .inl (fun _ => 0)))] := hD
  refine pf_RX7_9 S hin hK hP hD hS 0 rfl (v := .ref q7) (Nat.le_of_ble_eq_true rfl) rfl rfl dX7_init_9 (fun H locs hP hD hS => ?_)
  have hP : va_P D vwCl [(x, .inr (8, [.ref q7, .null, .null, .null, .null, .null, .null, .null, .null, .null])), (q7, .inl (cI, 58, .inl (fun _ => 0)))] H := hP
  have hD : va_D A [(x, .inr (8, [.ref q7, .null, .null, .null, .null, .null, .null, .null, .null, .null])), (q7, .inl (cI, 58, .inl (fun _ => 0)))] := hD
  refine lv_aload_n hx hb dX7_init_12 rfl (lv_at hl 0 rfl) ?_
  refine lv_bipush (v := 24) hx hb dX7_init_13 (by decide) ?_
  refine newa_int S hK hP hD hS hA (N' := 24) (by decide) (by decide) (Nat.le_of_ble_eq_true rfl) (Nat.le_of_ble_eq_true rfl) (Nat.le_of_ble_eq_true rfl) dX7_init_15 (fun q15 H hP hD hS => ?_)
  have hP : va_P D vwCl [(x, .inr (8, [.ref q7, .null, .null, .null, .null, .null, .null, .null, .null, .null])), (q7, .inl (cI, 58, .inl (fun _ => 0))), (q15, .inl (cI, 24, .inl (fun _ => 0)))] H := hP
  have hD : va_D A [(x, .inr (8, [.ref q7, .null, .null, .null, .null, .null, .null, .null, .null, .null])), (q7, .inl (cI, 58, .inl (fun _ => 0))), (q15, .inl (cI, 24, .inl (fun _ => 0)))] := hD
  refine pf_RX7_15 S hin hK hP hD hS 0 rfl (v := .ref q15) (Nat.le_of_ble_eq_true rfl) rfl rfl dX7_init_17 (fun H locs hP hD hS => ?_)
  have hP : va_P D vwCl [(x, .inr (8, [.ref q7, .ref q15, .null, .null, .null, .null, .null, .null, .null, .null])), (q7, .inl (cI, 58, .inl (fun _ => 0))), (q15, .inl (cI, 24, .inl (fun _ => 0)))] H := hP
  have hD : va_D A [(x, .inr (8, [.ref q7, .ref q15, .null, .null, .null, .null, .null, .null, .null, .null])), (q7, .inl (cI, 58, .inl (fun _ => 0))), (q15, .inl (cI, 24, .inl (fun _ => 0)))] := hD
  refine lv_aload_n hx hb dX7_init_20 rfl (lv_at hl 0 rfl) ?_
  refine lv_sipush (v := 400) hx hb dX7_init_21 (by decide) ?_
  refine newa_int S hK hP hD hS hA (N' := 400) (by decide) (by decide) (Nat.le_of_ble_eq_true rfl) (Nat.le_of_ble_eq_true rfl) (Nat.le_of_ble_eq_true rfl) dX7_init_24 (fun q24 H hP hD hS => ?_)
  have hP : va_P D vwCl [(x, .inr (8, [.ref q7, .ref q15, .null, .null, .null, .null, .null, .null, .null, .null])), (q7, .inl (cI, 58, .inl (fun _ => 0))), (q15, .inl (cI, 24, .inl (fun _ => 0))), (q24, .inl (cI, 400, .inl (fun _ => 0)))] H := hP
  have hD : va_D A [(x, .inr (8, [.ref q7, .ref q15, .null, .null, .null, .null, .null, .null, .null, .null])), (q7, .inl (cI, 58, .inl (fun _ => 0))), (q15, .inl (cI, 24, .inl (fun _ => 0))), (q24, .inl (cI, 400, .inl (fun _ => 0)))] := hD
  refine pf_RX7_18 S hin hK hP hD hS 0 rfl (v := .ref q24) (Nat.le_of_ble_eq_true rfl) rfl rfl dX7_init_26 (fun H locs hP hD hS => ?_)
  have hP : va_P D vwCl [(x, .inr (8, [.ref q7, .ref q15, .ref q24, .null, .null, .null, .null, .null, .null, .null])), (q7, .inl (cI, 58, .inl (fun _ => 0))), (q15, .inl (cI, 24, .inl (fun _ => 0))), (q24, .inl (cI, 400, .inl (fun _ => 0)))] H := hP
  have hD : va_D A [(x, .inr (8, [.ref q7, .ref q15, .ref q24, .null, .null, .null, .null, .null, .null, .null])), (q7, .inl (cI, 58, .inl (fun _ => 0))), (q15, .inl (cI, 24, .inl (fun _ => 0))), (q24, .inl (cI, 400, .inl (fun _ => 0)))] := hD
  refine lv_aload_n hx hb dX7_init_29 rfl (lv_at hl 0 rfl) ?_
  refine gf_RX7_18 S hK hP 0 rfl (v := .ref q24) rfl dX7_init_30 ?_
  refine lv_bipush (v := 15) hx hb dX7_init_33 (by decide) ?_
  have hFc := va_free (wc := [(q24, .inl (cI, 400, .inl (fun _ => 0)))]) hD hS hA [3] rfl
  refine va_callv (runS_w (As := [.ref q24, .int 15]) (rest := []) S (q_c_fill l D cI cB cZ q24 H.size) kS_RX7_21 hK hP hD [3] rfl rfl (by decide) ⟨Nat.le_of_ble_eq_true rfl, Nat.le_of_ble_eq_true rfl⟩ ⟨Nat.le_of_ble_eq_true rfl, Nat.le_of_ble_eq_true rfl⟩ rfl hl.1 rfl (Nat.le_of_ble_eq_true rfl) dX7_init_35) hS (fun q _ h => hFc q h) hFc (fun u_2 t H1 locs ht hvm h_3 hB hz1 hk1 hS => ?_)
  obtain ⟨hP1, hD1⟩ := hB
  rw [ht] at hP1
  obtain ⟨hP, hD⟩ := va_join (wr := [(x, .inr (8, [.ref q7, .ref q15, .ref q24, .null, .null, .null, .null, .null, .null, .null])), (q7, .inl (cI, 58, .inl (fun _ => 0))), (q15, .inl (cI, 24, .inl (fun _ => 0)))]) (w1 := [(q24, .inl (cI, 400, .inl (dgF 400)))]) hP hD [3] [0, 1, 2] rfl rfl (by decide) (by decide) hk1 hFc hP1 hD1
  generalize H1 = H at hP hS ⊢
  have hP : va_P D vwCl [(x, .inr (8, [.ref q7, .ref q15, .ref q24, .null, .null, .null, .null, .null, .null, .null])), (q7, .inl (cI, 58, .inl (fun _ => 0))), (q15, .inl (cI, 24, .inl (fun _ => 0))), (q24, .inl (cI, 400, .inl (dgF 400)))] H := hP
  have hD : va_D A [(x, .inr (8, [.ref q7, .ref q15, .ref q24, .null, .null, .null, .null, .null, .null, .null])), (q7, .inl (cI, 58, .inl (fun _ => 0))), (q15, .inl (cI, 24, .inl (fun _ => 0))), (q24, .inl (cI, 400, .inl (dgF 400)))] := hD
  refine lv_aload_n hx hb dX7_init_38 rfl (lv_at hl 0 rfl) ?_
  refine lv_sipush (v := 400) hx hb dX7_init_39 (by decide) ?_
  refine newa_int S hK hP hD hS hA (N' := 400) (by decide) (by decide) (Nat.le_of_ble_eq_true rfl) (Nat.le_of_ble_eq_true rfl) (Nat.le_of_ble_eq_true rfl) dX7_init_42 (fun q42 H hP hD hS => ?_)
  have hP : va_P D vwCl [(x, .inr (8, [.ref q7, .ref q15, .ref q24, .null, .null, .null, .null, .null, .null, .null])), (q7, .inl (cI, 58, .inl (fun _ => 0))), (q15, .inl (cI, 24, .inl (fun _ => 0))), (q24, .inl (cI, 400, .inl (dgF 400))), (q42, .inl (cI, 400, .inl (fun _ => 0)))] H := hP
  have hD : va_D A [(x, .inr (8, [.ref q7, .ref q15, .ref q24, .null, .null, .null, .null, .null, .null, .null])), (q7, .inl (cI, 58, .inl (fun _ => 0))), (q15, .inl (cI, 24, .inl (fun _ => 0))), (q24, .inl (cI, 400, .inl (dgF 400))), (q42, .inl (cI, 400, .inl (fun _ => 0)))] := hD
  refine pf_RX7_27 S hin hK hP hD hS 0 rfl (v := .ref q42) (Nat.le_of_ble_eq_true rfl) rfl rfl dX7_init_44 (fun H locs hP hD hS => ?_)
  have hP : va_P D vwCl [(x, .inr (8, [.ref q7, .ref q15, .ref q24, .ref q42, .null, .null, .null, .null, .null, .null])), (q7, .inl (cI, 58, .inl (fun _ => 0))), (q15, .inl (cI, 24, .inl (fun _ => 0))), (q24, .inl (cI, 400, .inl (dgF 400))), (q42, .inl (cI, 400, .inl (fun _ => 0)))] H := hP
  have hD : va_D A [(x, .inr (8, [.ref q7, .ref q15, .ref q24, .ref q42, .null, .null, .null, .null, .null, .null])), (q7, .inl (cI, 58, .inl (fun _ => 0))), (q15, .inl (cI, 24, .inl (fun _ => 0))), (q24, .inl (cI, 400, .inl (dgF 400))), (q42, .inl (cI, 400, .inl (fun _ => 0)))] := hD
  refine lv_aload_n hx hb dX7_init_47 rfl (lv_at hl 0 rfl) ?_
  refine lv_bipush (v := 10) hx hb dX7_init_48 (by decide) ?_
  refine newa_int S hK hP hD hS hA (N' := 10) (by decide) (by decide) (Nat.le_of_ble_eq_true rfl) (Nat.le_of_ble_eq_true rfl) (Nat.le_of_ble_eq_true rfl) dX7_init_50 (fun q50 H hP hD hS => ?_)
  have hP : va_P D vwCl [(x, .inr (8, [.ref q7, .ref q15, .ref q24, .ref q42, .null, .null, .null, .null, .null, .null])), (q7, .inl (cI, 58, .inl (fun _ => 0))), (q15, .inl (cI, 24, .inl (fun _ => 0))), (q24, .inl (cI, 400, .inl (dgF 400))), (q42, .inl (cI, 400, .inl (fun _ => 0))), (q50, .inl (cI, 10, .inl (fun _ => 0)))] H := hP
  have hD : va_D A [(x, .inr (8, [.ref q7, .ref q15, .ref q24, .ref q42, .null, .null, .null, .null, .null, .null])), (q7, .inl (cI, 58, .inl (fun _ => 0))), (q15, .inl (cI, 24, .inl (fun _ => 0))), (q24, .inl (cI, 400, .inl (dgF 400))), (q42, .inl (cI, 400, .inl (fun _ => 0))), (q50, .inl (cI, 10, .inl (fun _ => 0)))] := hD
  refine pf_RX7_30 S hin hK hP hD hS 0 rfl (v := .ref q50) (Nat.le_of_ble_eq_true rfl) rfl rfl dX7_init_52 (fun H locs hP hD hS => ?_)
  have hP : va_P D vwCl [(x, .inr (8, [.ref q7, .ref q15, .ref q24, .ref q42, .ref q50, .null, .null, .null, .null, .null])), (q7, .inl (cI, 58, .inl (fun _ => 0))), (q15, .inl (cI, 24, .inl (fun _ => 0))), (q24, .inl (cI, 400, .inl (dgF 400))), (q42, .inl (cI, 400, .inl (fun _ => 0))), (q50, .inl (cI, 10, .inl (fun _ => 0)))] H := hP
  have hD : va_D A [(x, .inr (8, [.ref q7, .ref q15, .ref q24, .ref q42, .ref q50, .null, .null, .null, .null, .null])), (q7, .inl (cI, 58, .inl (fun _ => 0))), (q15, .inl (cI, 24, .inl (fun _ => 0))), (q24, .inl (cI, 400, .inl (dgF 400))), (q42, .inl (cI, 400, .inl (fun _ => 0))), (q50, .inl (cI, 10, .inl (fun _ => 0)))] := hD
  refine lv_aload_n hx hb dX7_init_55 rfl (lv_at hl 0 rfl) ?_
  refine lv_bipush (v := 10) hx hb dX7_init_56 (by decide) ?_
  refine newa_int S hK hP hD hS hA (N' := 10) (by decide) (by decide) (Nat.le_of_ble_eq_true rfl) (Nat.le_of_ble_eq_true rfl) (Nat.le_of_ble_eq_true rfl) dX7_init_58 (fun q58 H hP hD hS => ?_)
  have hP : va_P D vwCl [(x, .inr (8, [.ref q7, .ref q15, .ref q24, .ref q42, .ref q50, .null, .null, .null, .null, .null])), (q7, .inl (cI, 58, .inl (fun _ => 0))), (q15, .inl (cI, 24, .inl (fun _ => 0))), (q24, .inl (cI, 400, .inl (dgF 400))), (q42, .inl (cI, 400, .inl (fun _ => 0))), (q50, .inl (cI, 10, .inl (fun _ => 0))), (q58, .inl (cI, 10, .inl (fun _ => 0)))] H := hP
  have hD : va_D A [(x, .inr (8, [.ref q7, .ref q15, .ref q24, .ref q42, .ref q50, .null, .null, .null, .null, .null])), (q7, .inl (cI, 58, .inl (fun _ => 0))), (q15, .inl (cI, 24, .inl (fun _ => 0))), (q24, .inl (cI, 400, .inl (dgF 400))), (q42, .inl (cI, 400, .inl (fun _ => 0))), (q50, .inl (cI, 10, .inl (fun _ => 0))), (q58, .inl (cI, 10, .inl (fun _ => 0)))] := hD
  refine pf_RX7_33 S hin hK hP hD hS 0 rfl (v := .ref q58) (Nat.le_of_ble_eq_true rfl) rfl rfl dX7_init_60 (fun H locs hP hD hS => ?_)
  have hP : va_P D vwCl [(x, .inr (8, [.ref q7, .ref q15, .ref q24, .ref q42, .ref q50, .ref q58, .null, .null, .null, .null])), (q7, .inl (cI, 58, .inl (fun _ => 0))), (q15, .inl (cI, 24, .inl (fun _ => 0))), (q24, .inl (cI, 400, .inl (dgF 400))), (q42, .inl (cI, 400, .inl (fun _ => 0))), (q50, .inl (cI, 10, .inl (fun _ => 0))), (q58, .inl (cI, 10, .inl (fun _ => 0)))] H := hP
  have hD : va_D A [(x, .inr (8, [.ref q7, .ref q15, .ref q24, .ref q42, .ref q50, .ref q58, .null, .null, .null, .null])), (q7, .inl (cI, 58, .inl (fun _ => 0))), (q15, .inl (cI, 24, .inl (fun _ => 0))), (q24, .inl (cI, 400, .inl (dgF 400))), (q42, .inl (cI, 400, .inl (fun _ => 0))), (q50, .inl (cI, 10, .inl (fun _ => 0))), (q58, .inl (cI, 10, .inl (fun _ => 0)))] := hD
  refine lv_aload_n hx hb dX7_init_63 rfl (lv_at hl 0 rfl) ?_
  refine lv_sipush (v := 232) hx hb dX7_init_64 (by decide) ?_
  refine newa_int S hK hP hD hS hA (N' := 232) (by decide) (by decide) (Nat.le_of_ble_eq_true rfl) (Nat.le_of_ble_eq_true rfl) (Nat.le_of_ble_eq_true rfl) dX7_init_67 (fun q67 H hP hD hS => ?_)
  have hP : va_P D vwCl [(x, .inr (8, [.ref q7, .ref q15, .ref q24, .ref q42, .ref q50, .ref q58, .null, .null, .null, .null])), (q7, .inl (cI, 58, .inl (fun _ => 0))), (q15, .inl (cI, 24, .inl (fun _ => 0))), (q24, .inl (cI, 400, .inl (dgF 400))), (q42, .inl (cI, 400, .inl (fun _ => 0))), (q50, .inl (cI, 10, .inl (fun _ => 0))), (q58, .inl (cI, 10, .inl (fun _ => 0))), (q67, .inl (cI, 232, .inl (fun _ => 0)))] H := hP
  have hD : va_D A [(x, .inr (8, [.ref q7, .ref q15, .ref q24, .ref q42, .ref q50, .ref q58, .null, .null, .null, .null])), (q7, .inl (cI, 58, .inl (fun _ => 0))), (q15, .inl (cI, 24, .inl (fun _ => 0))), (q24, .inl (cI, 400, .inl (dgF 400))), (q42, .inl (cI, 400, .inl (fun _ => 0))), (q50, .inl (cI, 10, .inl (fun _ => 0))), (q58, .inl (cI, 10, .inl (fun _ => 0))), (q67, .inl (cI, 232, .inl (fun _ => 0)))] := hD
  refine pf_RX7_36 S hin hK hP hD hS 0 rfl (v := .ref q67) (Nat.le_of_ble_eq_true rfl) rfl rfl dX7_init_69 (fun H locs hP hD hS => ?_)
  have hP : va_P D vwCl [(x, .inr (8, [.ref q7, .ref q15, .ref q24, .ref q42, .ref q50, .ref q58, .ref q67, .null, .null, .null])), (q7, .inl (cI, 58, .inl (fun _ => 0))), (q15, .inl (cI, 24, .inl (fun _ => 0))), (q24, .inl (cI, 400, .inl (dgF 400))), (q42, .inl (cI, 400, .inl (fun _ => 0))), (q50, .inl (cI, 10, .inl (fun _ => 0))), (q58, .inl (cI, 10, .inl (fun _ => 0))), (q67, .inl (cI, 232, .inl (fun _ => 0)))] H := hP
  have hD : va_D A [(x, .inr (8, [.ref q7, .ref q15, .ref q24, .ref q42, .ref q50, .ref q58, .ref q67, .null, .null, .null])), (q7, .inl (cI, 58, .inl (fun _ => 0))), (q15, .inl (cI, 24, .inl (fun _ => 0))), (q24, .inl (cI, 400, .inl (dgF 400))), (q42, .inl (cI, 400, .inl (fun _ => 0))), (q50, .inl (cI, 10, .inl (fun _ => 0))), (q58, .inl (cI, 10, .inl (fun _ => 0))), (q67, .inl (cI, 232, .inl (fun _ => 0)))] := hD
  refine lv_aload_n hx hb dX7_init_72 rfl (lv_at hl 0 rfl) ?_
  refine lv_iconst (v := 3) hx hb dX7_init_73 (by decide) ?_
  refine newa_int S hK hP hD hS hA (N' := 3) (by decide) (by decide) (Nat.le_of_ble_eq_true rfl) (Nat.le_of_ble_eq_true rfl) (Nat.le_of_ble_eq_true rfl) dX7_init_74 (fun q74 H hP hD hS => ?_)
  have hP : va_P D vwCl [(x, .inr (8, [.ref q7, .ref q15, .ref q24, .ref q42, .ref q50, .ref q58, .ref q67, .null, .null, .null])), (q7, .inl (cI, 58, .inl (fun _ => 0))), (q15, .inl (cI, 24, .inl (fun _ => 0))), (q24, .inl (cI, 400, .inl (dgF 400))), (q42, .inl (cI, 400, .inl (fun _ => 0))), (q50, .inl (cI, 10, .inl (fun _ => 0))), (q58, .inl (cI, 10, .inl (fun _ => 0))), (q67, .inl (cI, 232, .inl (fun _ => 0))), (q74, .inl (cI, 3, .inl (fun _ => 0)))] H := hP
  have hD : va_D A [(x, .inr (8, [.ref q7, .ref q15, .ref q24, .ref q42, .ref q50, .ref q58, .ref q67, .null, .null, .null])), (q7, .inl (cI, 58, .inl (fun _ => 0))), (q15, .inl (cI, 24, .inl (fun _ => 0))), (q24, .inl (cI, 400, .inl (dgF 400))), (q42, .inl (cI, 400, .inl (fun _ => 0))), (q50, .inl (cI, 10, .inl (fun _ => 0))), (q58, .inl (cI, 10, .inl (fun _ => 0))), (q67, .inl (cI, 232, .inl (fun _ => 0))), (q74, .inl (cI, 3, .inl (fun _ => 0)))] := hD
  refine pf_RX7_39 S hin hK hP hD hS 0 rfl (v := .ref q74) (Nat.le_of_ble_eq_true rfl) rfl rfl dX7_init_76 (fun H locs hP hD hS => ?_)
  have hP : va_P D vwCl [(x, .inr (8, [.ref q7, .ref q15, .ref q24, .ref q42, .ref q50, .ref q58, .ref q67, .ref q74, .null, .null])), (q7, .inl (cI, 58, .inl (fun _ => 0))), (q15, .inl (cI, 24, .inl (fun _ => 0))), (q24, .inl (cI, 400, .inl (dgF 400))), (q42, .inl (cI, 400, .inl (fun _ => 0))), (q50, .inl (cI, 10, .inl (fun _ => 0))), (q58, .inl (cI, 10, .inl (fun _ => 0))), (q67, .inl (cI, 232, .inl (fun _ => 0))), (q74, .inl (cI, 3, .inl (fun _ => 0)))] H := hP
  have hD : va_D A [(x, .inr (8, [.ref q7, .ref q15, .ref q24, .ref q42, .ref q50, .ref q58, .ref q67, .ref q74, .null, .null])), (q7, .inl (cI, 58, .inl (fun _ => 0))), (q15, .inl (cI, 24, .inl (fun _ => 0))), (q24, .inl (cI, 400, .inl (dgF 400))), (q42, .inl (cI, 400, .inl (fun _ => 0))), (q50, .inl (cI, 10, .inl (fun _ => 0))), (q58, .inl (cI, 10, .inl (fun _ => 0))), (q67, .inl (cI, 232, .inl (fun _ => 0))), (q74, .inl (cI, 3, .inl (fun _ => 0)))] := hD
  refine lv_aload_n hx hb dX7_init_79 rfl (lv_at hl 0 rfl) ?_
  refine lv_sipush (v := 1200) hx hb dX7_init_80 (by decide) ?_
  refine newa_int S hK hP hD hS hA (N' := 1200) (by decide) (by decide) (Nat.le_of_ble_eq_true rfl) (Nat.le_of_ble_eq_true rfl) (Nat.le_of_ble_eq_true rfl) dX7_init_83 (fun q83 H hP hD hS => ?_)
  have hP : va_P D vwCl [(x, .inr (8, [.ref q7, .ref q15, .ref q24, .ref q42, .ref q50, .ref q58, .ref q67, .ref q74, .null, .null])), (q7, .inl (cI, 58, .inl (fun _ => 0))), (q15, .inl (cI, 24, .inl (fun _ => 0))), (q24, .inl (cI, 400, .inl (dgF 400))), (q42, .inl (cI, 400, .inl (fun _ => 0))), (q50, .inl (cI, 10, .inl (fun _ => 0))), (q58, .inl (cI, 10, .inl (fun _ => 0))), (q67, .inl (cI, 232, .inl (fun _ => 0))), (q74, .inl (cI, 3, .inl (fun _ => 0))), (q83, .inl (cI, 1200, .inl (fun _ => 0)))] H := hP
  have hD : va_D A [(x, .inr (8, [.ref q7, .ref q15, .ref q24, .ref q42, .ref q50, .ref q58, .ref q67, .ref q74, .null, .null])), (q7, .inl (cI, 58, .inl (fun _ => 0))), (q15, .inl (cI, 24, .inl (fun _ => 0))), (q24, .inl (cI, 400, .inl (dgF 400))), (q42, .inl (cI, 400, .inl (fun _ => 0))), (q50, .inl (cI, 10, .inl (fun _ => 0))), (q58, .inl (cI, 10, .inl (fun _ => 0))), (q67, .inl (cI, 232, .inl (fun _ => 0))), (q74, .inl (cI, 3, .inl (fun _ => 0))), (q83, .inl (cI, 1200, .inl (fun _ => 0)))] := hD
  refine pf_RX7_42 S hin hK hP hD hS 0 rfl (v := .ref q83) (Nat.le_of_ble_eq_true rfl) rfl rfl dX7_init_85 (fun H locs hP hD hS => ?_)
  have hP : va_P D vwCl [(x, .inr (8, [.ref q7, .ref q15, .ref q24, .ref q42, .ref q50, .ref q58, .ref q67, .ref q74, .ref q83, .null])), (q7, .inl (cI, 58, .inl (fun _ => 0))), (q15, .inl (cI, 24, .inl (fun _ => 0))), (q24, .inl (cI, 400, .inl (dgF 400))), (q42, .inl (cI, 400, .inl (fun _ => 0))), (q50, .inl (cI, 10, .inl (fun _ => 0))), (q58, .inl (cI, 10, .inl (fun _ => 0))), (q67, .inl (cI, 232, .inl (fun _ => 0))), (q74, .inl (cI, 3, .inl (fun _ => 0))), (q83, .inl (cI, 1200, .inl (fun _ => 0)))] H := hP
  have hD : va_D A [(x, .inr (8, [.ref q7, .ref q15, .ref q24, .ref q42, .ref q50, .ref q58, .ref q67, .ref q74, .ref q83, .null])), (q7, .inl (cI, 58, .inl (fun _ => 0))), (q15, .inl (cI, 24, .inl (fun _ => 0))), (q24, .inl (cI, 400, .inl (dgF 400))), (q42, .inl (cI, 400, .inl (fun _ => 0))), (q50, .inl (cI, 10, .inl (fun _ => 0))), (q58, .inl (cI, 10, .inl (fun _ => 0))), (q67, .inl (cI, 232, .inl (fun _ => 0))), (q74, .inl (cI, 3, .inl (fun _ => 0))), (q83, .inl (cI, 1200, .inl (fun _ => 0)))] := hD
  refine lv_aload_n hx hb dX7_init_88 rfl (lv_at hl 0 rfl) ?_
  refine lv_sipush (v := 400) hx hb dX7_init_89 (by decide) ?_
  refine newa_int S hK hP hD hS hA (N' := 400) (by decide) (by decide) (Nat.le_of_ble_eq_true rfl) (Nat.le_of_ble_eq_true rfl) (Nat.le_of_ble_eq_true rfl) dX7_init_92 (fun q92 H hP hD hS => ?_)
  have hP : va_P D vwCl [(x, .inr (8, [.ref q7, .ref q15, .ref q24, .ref q42, .ref q50, .ref q58, .ref q67, .ref q74, .ref q83, .null])), (q7, .inl (cI, 58, .inl (fun _ => 0))), (q15, .inl (cI, 24, .inl (fun _ => 0))), (q24, .inl (cI, 400, .inl (dgF 400))), (q42, .inl (cI, 400, .inl (fun _ => 0))), (q50, .inl (cI, 10, .inl (fun _ => 0))), (q58, .inl (cI, 10, .inl (fun _ => 0))), (q67, .inl (cI, 232, .inl (fun _ => 0))), (q74, .inl (cI, 3, .inl (fun _ => 0))), (q83, .inl (cI, 1200, .inl (fun _ => 0))), (q92, .inl (cI, 400, .inl (fun _ => 0)))] H := hP
  have hD : va_D A [(x, .inr (8, [.ref q7, .ref q15, .ref q24, .ref q42, .ref q50, .ref q58, .ref q67, .ref q74, .ref q83, .null])), (q7, .inl (cI, 58, .inl (fun _ => 0))), (q15, .inl (cI, 24, .inl (fun _ => 0))), (q24, .inl (cI, 400, .inl (dgF 400))), (q42, .inl (cI, 400, .inl (fun _ => 0))), (q50, .inl (cI, 10, .inl (fun _ => 0))), (q58, .inl (cI, 10, .inl (fun _ => 0))), (q67, .inl (cI, 232, .inl (fun _ => 0))), (q74, .inl (cI, 3, .inl (fun _ => 0))), (q83, .inl (cI, 1200, .inl (fun _ => 0))), (q92, .inl (cI, 400, .inl (fun _ => 0)))] := hD
  refine pf_RX7_45 S hin hK hP hD hS 0 rfl (v := .ref q92) (Nat.le_of_ble_eq_true rfl) rfl rfl dX7_init_94 (fun H locs hP hD hS => ?_)
  have hP : va_P D vwCl [(x, .inr (8, [.ref q7, .ref q15, .ref q24, .ref q42, .ref q50, .ref q58, .ref q67, .ref q74, .ref q83, .ref q92])), (q7, .inl (cI, 58, .inl (fun _ => 0))), (q15, .inl (cI, 24, .inl (fun _ => 0))), (q24, .inl (cI, 400, .inl (dgF 400))), (q42, .inl (cI, 400, .inl (fun _ => 0))), (q50, .inl (cI, 10, .inl (fun _ => 0))), (q58, .inl (cI, 10, .inl (fun _ => 0))), (q67, .inl (cI, 232, .inl (fun _ => 0))), (q74, .inl (cI, 3, .inl (fun _ => 0))), (q83, .inl (cI, 1200, .inl (fun _ => 0))), (q92, .inl (cI, 400, .inl (fun _ => 0)))] H := hP
  have hD : va_D A [(x, .inr (8, [.ref q7, .ref q15, .ref q24, .ref q42, .ref q50, .ref q58, .ref q67, .ref q74, .ref q83, .ref q92])), (q7, .inl (cI, 58, .inl (fun _ => 0))), (q15, .inl (cI, 24, .inl (fun _ => 0))), (q24, .inl (cI, 400, .inl (dgF 400))), (q42, .inl (cI, 400, .inl (fun _ => 0))), (q50, .inl (cI, 10, .inl (fun _ => 0))), (q58, .inl (cI, 10, .inl (fun _ => 0))), (q67, .inl (cI, 232, .inl (fun _ => 0))), (q74, .inl (cI, 3, .inl (fun _ => 0))), (q83, .inl (cI, 1200, .inl (fun _ => 0))), (q92, .inl (cI, 400, .inl (fun _ => 0)))] := hD
  have hP9 := hP.sub (ws' := [(x, .inr (8, [.ref q7, .ref q15, .ref q24, .ref q42, .ref q50, .ref q58, .ref q67, .ref q74, .ref q83, .ref q92])), (q7, .inl (cI, 58, .inl (fun _ => 0))), (q15, .inl (cI, 24, .inl (fun _ => 0))), (q24, .inl (cI, 400, .inl (dgF 400))), (q42, .inl (cI, 400, .inl (fun _ => 0))), (q50, .inl (cI, 10, .inl (fun _ => 0))), (q58, .inl (cI, 10, .inl (fun _ => 0))), (q67, .inl (cI, 232, .inl (fun _ => 0))), (q74, .inl (cI, 3, .inl (fun _ => 0))), (q83, .inl (cI, 1200, .inl (fun _ => 0))), (q92, .inl (cI, 400, .inl (fun _ => 0)))]) [0, 1, 2, 3, 4, 5, 6, 7, 8, 9, 10] rfl
  have hD9 := hD.sub (ws' := [(x, .inr (8, [.ref q7, .ref q15, .ref q24, .ref q42, .ref q50, .ref q58, .ref q67, .ref q74, .ref q83, .ref q92])), (q7, .inl (cI, 58, .inl (fun _ => 0))), (q15, .inl (cI, 24, .inl (fun _ => 0))), (q24, .inl (cI, 400, .inl (dgF 400))), (q42, .inl (cI, 400, .inl (fun _ => 0))), (q50, .inl (cI, 10, .inl (fun _ => 0))), (q58, .inl (cI, 10, .inl (fun _ => 0))), (q67, .inl (cI, 232, .inl (fun _ => 0))), (q74, .inl (cI, 3, .inl (fun _ => 0))), (q83, .inl (cI, 1200, .inl (fun _ => 0))), (q92, .inl (cI, 400, .inl (fun _ => 0)))]) [0, 1, 2, 3, 4, 5, 6, 7, 8, 9, 10] (by decide) rfl
  exact W.vret hx hb hr (fun t ht hW => ⟨⟨(fun k => ([q7, q15, q24, q42, q50, q58, q67, q74, q83, q92] : List Nat).getD k 0), rfl, trivial, by rw [ht]; exact hP9, hD9⟩, hS.F ht⟩) hS.2.2 dX7_init_97
set_option maxRecDepth 100000 in
set_option maxHeartbeats 4000000 in
theorem q_c_Ways (l : Launch) (D : va_G) (cI cB cZ : ClassId) (x : Nat) (sz : Nat) : Met l yX10_init (CWS yX10_init cX10_init 1 none) (RM 1 6 2336) (PBw [.ref x] D cI cB cZ [(x, .inr (11, [.null, .null, .null, .null, .null, .null, .int 0]))] sz) (va_Qv (fun (_ : Nat → Nat) => True) (fun (u : Nat → Nat) (t : State) => va_P D vwCl [(x, .inr (11, [.ref (u 0), .ref (u 1), .ref (u 2), .ref (u 3), .ref (u 4), .ref (u 5), .int 0])), ((u 0), .inl (cI, 8, .inl (fun _ => 0))), ((u 1), .inl (cI, 8, .inl (fun _ => 0))), ((u 2), .inl (cI, 8, .inl (fun _ => 0))), ((u 3), .inl (cI, 8, .inl (fun _ => 0))), ((u 4), .inl (cI, 2048, .inl (fun _ => 0))), ((u 5), .inl (cI, 256, .inl (fun _ => 0)))] t.heap ∧ va_D (va_A [(x, .inr (11, [.null, .null, .null, .null, .null, .null, .int 0]))] sz) [(x, .inr (11, [.ref (u 0), .ref (u 1), .ref (u 2), .ref (u 3), .ref (u 4), .ref (u 5), .int 0])), ((u 0), .inl (cI, 8, .inl (fun _ => 0))), ((u 1), .inl (cI, 8, .inl (fun _ => 0))), ((u 2), .inl (cI, 8, .inl (fun _ => 0))), ((u 3), .inl (cI, 8, .inl (fun _ => 0))), ((u 4), .inl (cI, 2048, .inl (fun _ => 0))), ((u 5), .inl (cI, 256, .inl (fun _ => 0)))]) (va_A [(x, .inr (11, [.null, .null, .null, .null, .null, .null, .int 0]))] sz)) 6 2336 (va_A [(x, .inr (11, [.null, .null, .null, .null, .null, .null, .int 0]))] sz) := by
  refine Met.ofW (cc := cX10_init) (maxL := 1) (ret := none) (by decide) rfl ?_
  intro p e s m args below meth c s₁ B hml hv
  obtain ⟨rfl, hsz, hP, hK, hD0⟩ := hv
  have hx := B.exec
  have hb := B.bytes
  have hr := B.returns
  have hts := atoms_spec (ws := (CWS yX10_init cX10_init 1 none)) B.pre
  have hown : s.vm.findClass RX10 = some m.cls := findClass_of_methodNamed B.named
  have hlocks := B.notSynchronized
  have hin : meth.name = "<init>" := (name_of_methodNamed B.named B.method).1
  have S : SF p m c cX10_init 1 s ([.ref x]).toArray RX10 := ⟨hx, hb, hml, hown, fun w h => hts w (List.mem_cons_of_mem _ h)⟩
  subst hsz
  have hD := hD0.self (sz := s.heap.size)
  generalize hAe : va_A [(x, .inr (11, [.null, .null, .null, .null, .null, .null, .int 0]))] s.heap.size = A at hD ⊢
  have hA : ∀ q : Nat, s.heap.size ≤ q → A q := fun q h => by rw [← hAe]; exact Or.inr h
  have hS : va_S A s.heap s.heap [] := va_S.rf
  have hP : va_P D vwCl [(x, .inr (11, [.null, .null, .null, .null, .null, .null, .int 0]))] s.heap := hP
  have hD : va_D A [(x, .inr (11, [.null, .null, .null, .null, .null, .null, .int 0]))] := hD
  have hl := lv_entry ([.ref x]) (n := 1) (Nat.le_of_ble_eq_true rfl)
  rw [lg_entry_eq]
  generalize (lg_sl ([.ref x]) ++ List.replicate (1 - (lg_sl ([.ref x])).length) Slot.unset).toArray = ls at hl ⊢
  have hl : lv_has ls 1 [(0, .ref x)] := hl
  refine lv_aload_n hx hb dX10_init_0 rfl (lv_at hl 0 rfl) ?_
  refine W.objInit hx hb hown (S.2.2.2.2 _ (wT_t1 184 rfl rfl)) (S.2.2.2.2 _ (wT_t1 33 rfl rfl)) (S.2.2.2.2 _ (wT_t1 34 rfl rfl)) rfl (by rw [hml]; exact hl.1) rfl dX10_init_1 (Nat.le_of_ble_eq_true rfl) (Nat.le_of_ble_eq_true rfl) ?_
  refine W.eq (g2 := F0 m 4 ls []) rfl ?_
  refine lv_aload_n hx hb dX10_init_4 rfl (lv_at hl 0 rfl) ?_
  refine lv_bipush (v := 8) hx hb dX10_init_5 (by decide) ?_
  refine newa_int S hK hP hD hS hA (N' := 8) (by decide) (by decide) (Nat.le_of_ble_eq_true rfl) (Nat.le_of_ble_eq_true rfl) (Nat.le_of_ble_eq_true rfl) dX10_init_7 (fun q7 H hP hD hS => ?_)
  have hP : va_P D vwCl [(x, .inr (11, [.null, .null, .null, .null, .null, .null, .int 0])), (q7, .inl (cI, 8, .inl (fun _ => 0)))] H := hP
  have hD : va_D A [(x, .inr (11, [.null, .null, .null, .null, .null, .null, .int 0])), (q7, .inl (cI, 8, .inl (fun _ => 0)))] := hD
  refine pf_RX10_9 S hin hK hP hD hS 0 rfl (v := .ref q7) (Nat.le_of_ble_eq_true rfl) rfl rfl dX10_init_9 (fun H locs hP hD hS => ?_)
  have hP : va_P D vwCl [(x, .inr (11, [.ref q7, .null, .null, .null, .null, .null, .int 0])), (q7, .inl (cI, 8, .inl (fun _ => 0)))] H := hP
  have hD : va_D A [(x, .inr (11, [.ref q7, .null, .null, .null, .null, .null, .int 0])), (q7, .inl (cI, 8, .inl (fun _ => 0)))] := hD
  refine lv_aload_n hx hb dX10_init_12 rfl (lv_at hl 0 rfl) ?_
  refine lv_bipush (v := 8) hx hb dX10_init_13 (by decide) ?_
  refine newa_int S hK hP hD hS hA (N' := 8) (by decide) (by decide) (Nat.le_of_ble_eq_true rfl) (Nat.le_of_ble_eq_true rfl) (Nat.le_of_ble_eq_true rfl) dX10_init_15 (fun q15 H hP hD hS => ?_)
  have hP : va_P D vwCl [(x, .inr (11, [.ref q7, .null, .null, .null, .null, .null, .int 0])), (q7, .inl (cI, 8, .inl (fun _ => 0))), (q15, .inl (cI, 8, .inl (fun _ => 0)))] H := hP
  have hD : va_D A [(x, .inr (11, [.ref q7, .null, .null, .null, .null, .null, .int 0])), (q7, .inl (cI, 8, .inl (fun _ => 0))), (q15, .inl (cI, 8, .inl (fun _ => 0)))] := hD
  refine pf_RX10_15 S hin hK hP hD hS 0 rfl (v := .ref q15) (Nat.le_of_ble_eq_true rfl) rfl rfl dX10_init_17 (fun H locs hP hD hS => ?_)
  have hP : va_P D vwCl [(x, .inr (11, [.ref q7, .ref q15, .null, .null, .null, .null, .int 0])), (q7, .inl (cI, 8, .inl (fun _ => 0))), (q15, .inl (cI, 8, .inl (fun _ => 0)))] H := hP
  have hD : va_D A [(x, .inr (11, [.ref q7, .ref q15, .null, .null, .null, .null, .int 0])), (q7, .inl (cI, 8, .inl (fun _ => 0))), (q15, .inl (cI, 8, .inl (fun _ => 0)))] := hD
  refine lv_aload_n hx hb dX10_init_20 rfl (lv_at hl 0 rfl) ?_
  refine lv_bipush (v := 8) hx hb dX10_init_21 (by decide) ?_
  refine newa_int S hK hP hD hS hA (N' := 8) (by decide) (by decide) (Nat.le_of_ble_eq_true rfl) (Nat.le_of_ble_eq_true rfl) (Nat.le_of_ble_eq_true rfl) dX10_init_23 (fun q23 H hP hD hS => ?_)
  have hP : va_P D vwCl [(x, .inr (11, [.ref q7, .ref q15, .null, .null, .null, .null, .int 0])), (q7, .inl (cI, 8, .inl (fun _ => 0))), (q15, .inl (cI, 8, .inl (fun _ => 0))), (q23, .inl (cI, 8, .inl (fun _ => 0)))] H := hP
  have hD : va_D A [(x, .inr (11, [.ref q7, .ref q15, .null, .null, .null, .null, .int 0])), (q7, .inl (cI, 8, .inl (fun _ => 0))), (q15, .inl (cI, 8, .inl (fun _ => 0))), (q23, .inl (cI, 8, .inl (fun _ => 0)))] := hD
  refine pf_RX10_18 S hin hK hP hD hS 0 rfl (v := .ref q23) (Nat.le_of_ble_eq_true rfl) rfl rfl dX10_init_25 (fun H locs hP hD hS => ?_)
  have hP : va_P D vwCl [(x, .inr (11, [.ref q7, .ref q15, .ref q23, .null, .null, .null, .int 0])), (q7, .inl (cI, 8, .inl (fun _ => 0))), (q15, .inl (cI, 8, .inl (fun _ => 0))), (q23, .inl (cI, 8, .inl (fun _ => 0)))] H := hP
  have hD : va_D A [(x, .inr (11, [.ref q7, .ref q15, .ref q23, .null, .null, .null, .int 0])), (q7, .inl (cI, 8, .inl (fun _ => 0))), (q15, .inl (cI, 8, .inl (fun _ => 0))), (q23, .inl (cI, 8, .inl (fun _ => 0)))] := hD
  refine lv_aload_n hx hb dX10_init_28 rfl (lv_at hl 0 rfl) ?_
  refine lv_bipush (v := 8) hx hb dX10_init_29 (by decide) ?_
  refine newa_int S hK hP hD hS hA (N' := 8) (by decide) (by decide) (Nat.le_of_ble_eq_true rfl) (Nat.le_of_ble_eq_true rfl) (Nat.le_of_ble_eq_true rfl) dX10_init_31 (fun q31 H hP hD hS => ?_)
  have hP : va_P D vwCl [(x, .inr (11, [.ref q7, .ref q15, .ref q23, .null, .null, .null, .int 0])), (q7, .inl (cI, 8, .inl (fun _ => 0))), (q15, .inl (cI, 8, .inl (fun _ => 0))), (q23, .inl (cI, 8, .inl (fun _ => 0))), (q31, .inl (cI, 8, .inl (fun _ => 0)))] H := hP
  have hD : va_D A [(x, .inr (11, [.ref q7, .ref q15, .ref q23, .null, .null, .null, .int 0])), (q7, .inl (cI, 8, .inl (fun _ => 0))), (q15, .inl (cI, 8, .inl (fun _ => 0))), (q23, .inl (cI, 8, .inl (fun _ => 0))), (q31, .inl (cI, 8, .inl (fun _ => 0)))] := hD
  refine pf_RX10_21 S hin hK hP hD hS 0 rfl (v := .ref q31) (Nat.le_of_ble_eq_true rfl) rfl rfl dX10_init_33 (fun H locs hP hD hS => ?_)
  have hP : va_P D vwCl [(x, .inr (11, [.ref q7, .ref q15, .ref q23, .ref q31, .null, .null, .int 0])), (q7, .inl (cI, 8, .inl (fun _ => 0))), (q15, .inl (cI, 8, .inl (fun _ => 0))), (q23, .inl (cI, 8, .inl (fun _ => 0))), (q31, .inl (cI, 8, .inl (fun _ => 0)))] H := hP
  have hD : va_D A [(x, .inr (11, [.ref q7, .ref q15, .ref q23, .ref q31, .null, .null, .int 0])), (q7, .inl (cI, 8, .inl (fun _ => 0))), (q15, .inl (cI, 8, .inl (fun _ => 0))), (q23, .inl (cI, 8, .inl (fun _ => 0))), (q31, .inl (cI, 8, .inl (fun _ => 0)))] := hD
  refine lv_aload_n hx hb dX10_init_36 rfl (lv_at hl 0 rfl) ?_
  refine lv_sipush (v := 2048) hx hb dX10_init_37 (by decide) ?_
  refine newa_int S hK hP hD hS hA (N' := 2048) (by decide) (by decide) (Nat.le_of_ble_eq_true rfl) (Nat.le_of_ble_eq_true rfl) (Nat.le_of_ble_eq_true rfl) dX10_init_40 (fun q40 H hP hD hS => ?_)
  have hP : va_P D vwCl [(x, .inr (11, [.ref q7, .ref q15, .ref q23, .ref q31, .null, .null, .int 0])), (q7, .inl (cI, 8, .inl (fun _ => 0))), (q15, .inl (cI, 8, .inl (fun _ => 0))), (q23, .inl (cI, 8, .inl (fun _ => 0))), (q31, .inl (cI, 8, .inl (fun _ => 0))), (q40, .inl (cI, 2048, .inl (fun _ => 0)))] H := hP
  have hD : va_D A [(x, .inr (11, [.ref q7, .ref q15, .ref q23, .ref q31, .null, .null, .int 0])), (q7, .inl (cI, 8, .inl (fun _ => 0))), (q15, .inl (cI, 8, .inl (fun _ => 0))), (q23, .inl (cI, 8, .inl (fun _ => 0))), (q31, .inl (cI, 8, .inl (fun _ => 0))), (q40, .inl (cI, 2048, .inl (fun _ => 0)))] := hD
  refine pf_RX10_24 S hin hK hP hD hS 0 rfl (v := .ref q40) (Nat.le_of_ble_eq_true rfl) rfl rfl dX10_init_42 (fun H locs hP hD hS => ?_)
  have hP : va_P D vwCl [(x, .inr (11, [.ref q7, .ref q15, .ref q23, .ref q31, .ref q40, .null, .int 0])), (q7, .inl (cI, 8, .inl (fun _ => 0))), (q15, .inl (cI, 8, .inl (fun _ => 0))), (q23, .inl (cI, 8, .inl (fun _ => 0))), (q31, .inl (cI, 8, .inl (fun _ => 0))), (q40, .inl (cI, 2048, .inl (fun _ => 0)))] H := hP
  have hD : va_D A [(x, .inr (11, [.ref q7, .ref q15, .ref q23, .ref q31, .ref q40, .null, .int 0])), (q7, .inl (cI, 8, .inl (fun _ => 0))), (q15, .inl (cI, 8, .inl (fun _ => 0))), (q23, .inl (cI, 8, .inl (fun _ => 0))), (q31, .inl (cI, 8, .inl (fun _ => 0))), (q40, .inl (cI, 2048, .inl (fun _ => 0)))] := hD
  refine lv_aload_n hx hb dX10_init_45 rfl (lv_at hl 0 rfl) ?_
  refine lv_sipush (v := 256) hx hb dX10_init_46 (by decide) ?_
  refine newa_int S hK hP hD hS hA (N' := 256) (by decide) (by decide) (Nat.le_of_ble_eq_true rfl) (Nat.le_of_ble_eq_true rfl) (Nat.le_of_ble_eq_true rfl) dX10_init_49 (fun q49 H hP hD hS => ?_)
  have hP : va_P D vwCl [(x, .inr (11, [.ref q7, .ref q15, .ref q23, .ref q31, .ref q40, .null, .int 0])), (q7, .inl (cI, 8, .inl (fun _ => 0))), (q15, .inl (cI, 8, .inl (fun _ => 0))), (q23, .inl (cI, 8, .inl (fun _ => 0))), (q31, .inl (cI, 8, .inl (fun _ => 0))), (q40, .inl (cI, 2048, .inl (fun _ => 0))), (q49, .inl (cI, 256, .inl (fun _ => 0)))] H := hP
  have hD : va_D A [(x, .inr (11, [.ref q7, .ref q15, .ref q23, .ref q31, .ref q40, .null, .int 0])), (q7, .inl (cI, 8, .inl (fun _ => 0))), (q15, .inl (cI, 8, .inl (fun _ => 0))), (q23, .inl (cI, 8, .inl (fun _ => 0))), (q31, .inl (cI, 8, .inl (fun _ => 0))), (q40, .inl (cI, 2048, .inl (fun _ => 0))), (q49, .inl (cI, 256, .inl (fun _ => 0)))] := hD
  refine pf_RX10_27 S hin hK hP hD hS 0 rfl (v := .ref q49) (Nat.le_of_ble_eq_true rfl) rfl rfl dX10_init_51 (fun H locs hP hD hS => ?_)
  have hP : va_P D vwCl [(x, .inr (11, [.ref q7, .ref q15, .ref q23, .ref q31, .ref q40, .ref q49, .int 0])), (q7, .inl (cI, 8, .inl (fun _ => 0))), (q15, .inl (cI, 8, .inl (fun _ => 0))), (q23, .inl (cI, 8, .inl (fun _ => 0))), (q31, .inl (cI, 8, .inl (fun _ => 0))), (q40, .inl (cI, 2048, .inl (fun _ => 0))), (q49, .inl (cI, 256, .inl (fun _ => 0)))] H := hP
  have hD : va_D A [(x, .inr (11, [.ref q7, .ref q15, .ref q23, .ref q31, .ref q40, .ref q49, .int 0])), (q7, .inl (cI, 8, .inl (fun _ => 0))), (q15, .inl (cI, 8, .inl (fun _ => 0))), (q23, .inl (cI, 8, .inl (fun _ => 0))), (q31, .inl (cI, 8, .inl (fun _ => 0))), (q40, .inl (cI, 2048, .inl (fun _ => 0))), (q49, .inl (cI, 256, .inl (fun _ => 0)))] := hD
  have hP9 := hP.sub (ws' := [(x, .inr (11, [.ref q7, .ref q15, .ref q23, .ref q31, .ref q40, .ref q49, .int 0])), (q7, .inl (cI, 8, .inl (fun _ => 0))), (q15, .inl (cI, 8, .inl (fun _ => 0))), (q23, .inl (cI, 8, .inl (fun _ => 0))), (q31, .inl (cI, 8, .inl (fun _ => 0))), (q40, .inl (cI, 2048, .inl (fun _ => 0))), (q49, .inl (cI, 256, .inl (fun _ => 0)))]) [0, 1, 2, 3, 4, 5, 6] rfl
  have hD9 := hD.sub (ws' := [(x, .inr (11, [.ref q7, .ref q15, .ref q23, .ref q31, .ref q40, .ref q49, .int 0])), (q7, .inl (cI, 8, .inl (fun _ => 0))), (q15, .inl (cI, 8, .inl (fun _ => 0))), (q23, .inl (cI, 8, .inl (fun _ => 0))), (q31, .inl (cI, 8, .inl (fun _ => 0))), (q40, .inl (cI, 2048, .inl (fun _ => 0))), (q49, .inl (cI, 256, .inl (fun _ => 0)))]) [0, 1, 2, 3, 4, 5, 6] (by decide) rfl
  exact W.vret hx hb hr (fun t ht hW => ⟨⟨(fun k => ([q7, q15, q23, q31, q40, q49] : List Nat).getD k 0), rfl, trivial, by rw [ht]; exact hP9, hD9⟩, hS.F ht⟩) hS.2.2 dX10_init_54
set_option maxRecDepth 100000 in
set_option maxHeartbeats 4000000 in
theorem q_c_AbsCol (l : Launch) (D : va_G) (cI cB cZ : ClassId) (x : Nat) (sz : Nat) : Met l yJxa1e45_init_da8c8 (CWS yJxa1e45_init_da8c8 cJxa1e45_init_da8c8 1 none) (RM 1 0 0) (PBw [.ref x] D cI cB cZ [(x, .inr (0, [.int 0, .null, .int 0]))] sz) (va_Qv (fun (_ : Unit) => True) (fun (u : Unit) (t : State) => va_P D vwCl [(x, .inr (0, [.int 0, .null, .int 0]))] t.heap ∧ va_D (va_A [(x, .inr (0, [.int 0, .null, .int 0]))] sz) [(x, .inr (0, [.int 0, .null, .int 0]))]) (va_A [(x, .inr (0, [.int 0, .null, .int 0]))] sz)) 0 0 (va_A [(x, .inr (0, [.int 0, .null, .int 0]))] sz) := by
  refine Met.ofW (cc := cJxa1e45_init_da8c8) (maxL := 1) (ret := none) (by decide) rfl ?_
  intro p e s m args below meth c s₁ B hml hv
  obtain ⟨rfl, hsz, hP, hK, hD0⟩ := hv
  have hx := B.exec
  have hb := B.bytes
  have hr := B.returns
  have hts := atoms_spec (ws := (CWS yJxa1e45_init_da8c8 cJxa1e45_init_da8c8 1 none)) B.pre
  have hown : s.vm.findClass RJxa1e45 = some m.cls := findClass_of_methodNamed B.named
  have hlocks := B.notSynchronized
  have hin : meth.name = "<init>" := (name_of_methodNamed B.named B.method).1
  have S : SF p m c cJxa1e45_init_da8c8 1 s ([.ref x]).toArray RJxa1e45 := ⟨hx, hb, hml, hown, fun w h => hts w (List.mem_cons_of_mem _ h)⟩
  subst hsz
  have hD := hD0.self (sz := s.heap.size)
  generalize hAe : va_A [(x, .inr (0, [.int 0, .null, .int 0]))] s.heap.size = A at hD ⊢
  have hA : ∀ q : Nat, s.heap.size ≤ q → A q := fun q h => by rw [← hAe]; exact Or.inr h
  have hS : va_S A s.heap s.heap [] := va_S.rf
  have hP : va_P D vwCl [(x, .inr (0, [.int 0, .null, .int 0]))] s.heap := hP
  have hD : va_D A [(x, .inr (0, [.int 0, .null, .int 0]))] := hD
  have hl := lv_entry ([.ref x]) (n := 1) (Nat.le_of_ble_eq_true rfl)
  rw [lg_entry_eq]
  generalize (lg_sl ([.ref x]) ++ List.replicate (1 - (lg_sl ([.ref x])).length) Slot.unset).toArray = ls at hl ⊢
  have hl : lv_has ls 1 [(0, .ref x)] := hl
  refine lv_aload_n hx hb dJxa1e45_init_da8c8_0 rfl (lv_at hl 0 rfl) ?_
  refine W.objInit hx hb hown (S.2.2.2.2 _ (wT_t1 221 rfl rfl)) (S.2.2.2.2 _ (wT_t1 33 rfl rfl)) (S.2.2.2.2 _ (wT_t1 34 rfl rfl)) rfl (by rw [hml]; exact hl.1) rfl dJxa1e45_init_da8c8_1 (Nat.le_of_ble_eq_true rfl) (Nat.le_of_ble_eq_true rfl) ?_
  refine W.eq (g2 := F0 m 4 ls []) rfl ?_
  have hP9 := hP.sub (ws' := [(x, .inr (0, [.int 0, .null, .int 0]))]) [0] rfl
  have hD9 := hD.sub (ws' := [(x, .inr (0, [.int 0, .null, .int 0]))]) [0] (by decide) rfl
  exact W.vret hx hb hr (fun t ht hW => ⟨⟨(), rfl, trivial, by rw [ht]; exact hP9, hD9⟩, hS.F ht⟩) hS.2.2 dJxa1e45_init_da8c8_4
set_option maxRecDepth 100000 in
set_option maxHeartbeats 4000000 in
theorem q_c_AbsList (l : Launch) (D : va_G) (cI cB cZ : ClassId) (x : Nat) (sz : Nat) : Met l yJxc12de_init_da8c8 (CWS yJxc12de_init_da8c8 cJxc12de_init_da8c8 1 none) (RM 2 0 0) (PBw [.ref x] D cI cB cZ [(x, .inr (0, [.int 0, .null, .int 0]))] sz) (va_Qv (fun (_ : Unit) => True) (fun (u : Unit) (t : State) => va_P D vwCl [(x, .inr (0, [.int 0, .null, .int 0]))] t.heap ∧ va_D (va_A [(x, .inr (0, [.int 0, .null, .int 0]))] sz) [(x, .inr (0, [.int 0, .null, .int 0]))]) (va_A [(x, .inr (0, [.int 0, .null, .int 0]))] sz)) 0 0 (va_A [(x, .inr (0, [.int 0, .null, .int 0]))] sz) := by
  refine Met.ofW (cc := cJxc12de_init_da8c8) (maxL := 1) (ret := none) (by decide) rfl ?_
  intro p e s m args below meth c s₁ B hml hv
  obtain ⟨rfl, hsz, hP, hK, hD0⟩ := hv
  have hx := B.exec
  have hb := B.bytes
  have hr := B.returns
  have hts := atoms_spec (ws := (CWS yJxc12de_init_da8c8 cJxc12de_init_da8c8 1 none)) B.pre
  have hown : s.vm.findClass RJxc12de = some m.cls := findClass_of_methodNamed B.named
  have hlocks := B.notSynchronized
  have hin : meth.name = "<init>" := (name_of_methodNamed B.named B.method).1
  have S : SF p m c cJxc12de_init_da8c8 1 s ([.ref x]).toArray RJxc12de := ⟨hx, hb, hml, hown, fun w h => hts w (List.mem_cons_of_mem _ h)⟩
  subst hsz
  have hD := hD0.self (sz := s.heap.size)
  generalize hAe : va_A [(x, .inr (0, [.int 0, .null, .int 0]))] s.heap.size = A at hD ⊢
  have hA : ∀ q : Nat, s.heap.size ≤ q → A q := fun q h => by rw [← hAe]; exact Or.inr h
  have hS : va_S A s.heap s.heap [] := va_S.rf
  have hP : va_P D vwCl [(x, .inr (0, [.int 0, .null, .int 0]))] s.heap := hP
  have hD : va_D A [(x, .inr (0, [.int 0, .null, .int 0]))] := hD
  have hl := lv_entry ([.ref x]) (n := 1) (Nat.le_of_ble_eq_true rfl)
  rw [lg_entry_eq]
  generalize (lg_sl ([.ref x]) ++ List.replicate (1 - (lg_sl ([.ref x])).length) Slot.unset).toArray = ls at hl ⊢
  have hl : lv_has ls 1 [(0, .ref x)] := hl
  refine lv_aload_n hx hb dJxc12de_init_da8c8_0 rfl (lv_at hl 0 rfl) ?_
  have hFc := va_free (wc := [(x, .inr (0, [.int 0, .null, .int 0]))]) hD hS hA [0] rfl
  refine va_callv (runI_w (As := []) (rest := []) S (q_c_AbsCol l D cI cB cZ x s.heap.size) kI_RJxc12de_1 hK hP hD [0] rfl rfl (by decide) ⟨Nat.le_of_ble_eq_true rfl, Nat.le_of_ble_eq_true rfl⟩ ⟨Nat.le_of_ble_eq_true rfl, Nat.le_of_ble_eq_true rfl⟩ rfl hl.1 rfl (Nat.le_of_ble_eq_true rfl) dJxc12de_init_da8c8_1) hS (fun q _ h => hFc q h) hFc (fun u_2 t H1 locs ht hvm h_3 hB hz1 hk1 hS => ?_)
  obtain ⟨hP1, hD1⟩ := hB
  rw [ht] at hP1
  obtain ⟨hP, hD⟩ := va_join (wr := []) (w1 := [(x, .inr (0, [.int 0, .null, .int 0]))]) hP hD [0] [] rfl rfl (by decide) (by decide) hk1 hFc hP1 hD1
  generalize H1 = H at hP hS ⊢
  have hP : va_P D vwCl [(x, .inr (0, [.int 0, .null, .int 0]))] H := hP
  have hD : va_D A [(x, .inr (0, [.int 0, .null, .int 0]))] := hD
  refine lv_aload_n hx hb dJxc12de_init_da8c8_4 rfl (lv_at hl 0 rfl) ?_
  refine lv_iconst (v := 0) hx hb dJxc12de_init_da8c8_5 (by decide) ?_
  refine pf_RJxc12de_7 S hK hP hD hS 0 rfl (v := .int 0) (Nat.le_of_ble_eq_true rfl) rfl rfl dJxc12de_init_da8c8_6 (fun H locs hP hD hS => ?_)
  have hP : va_P D vwCl [(x, .inr (0, [.int 0, .null, .int 0]))] H := hP
  have hD : va_D A [(x, .inr (0, [.int 0, .null, .int 0]))] := hD
  have hP9 := hP.sub (ws' := [(x, .inr (0, [.int 0, .null, .int 0]))]) [0] rfl
  have hD9 := hD.sub (ws' := [(x, .inr (0, [.int 0, .null, .int 0]))]) [0] (by decide) rfl
  exact W.vret hx hb hr (fun t ht hW => ⟨⟨(), rfl, trivial, by rw [ht]; exact hP9, hD9⟩, hS.F ht⟩) hS.2.2 dJxc12de_init_da8c8_9
set_option maxRecDepth 100000 in
set_option maxHeartbeats 4000000 in
theorem q_c_AList (l : Launch) (D : va_G) (cI cB cZ : ClassId) (zz qq vv : Nat) (bt : Nat → Int32) (x : Nat) (sz : Nat) : Met l yJx4a65c_init_da8c8 (CWS yJx4a65c_init_da8c8 cJx4a65c_init_da8c8 1 none) (RM 3 0 0) (PBx [.ref x] D cI cB cZ zz qq vv bt [(x, .inr (0, [.int 0, .null, .int 0]))] sz) (va_Qv (fun (_ : Unit) => True) (fun (u : Unit) (t : State) => va_P D vwCl [(x, .inr (0, [.int 0, .ref zz, .int 0]))] t.heap ∧ va_D (va_A [(x, .inr (0, [.int 0, .null, .int 0]))] sz) [(x, .inr (0, [.int 0, .ref zz, .int 0]))]) (va_A [(x, .inr (0, [.int 0, .null, .int 0]))] sz)) 0 0 (va_A [(x, .inr (0, [.int 0, .null, .int 0]))] sz) := by
  refine Met.ofW (cc := cJx4a65c_init_da8c8) (maxL := 1) (ret := none) (by decide) rfl ?_
  intro p e s m args below meth c s₁ B hml hv
  obtain ⟨rfl, hsz, hP, hK, hD0, hXS⟩ := hv
  have hx := B.exec
  have hb := B.bytes
  have hr := B.returns
  have hts := atoms_spec (ws := (CWS yJx4a65c_init_da8c8 cJx4a65c_init_da8c8 1 none)) B.pre
  have hown : s.vm.findClass RJx4a65c = some m.cls := findClass_of_methodNamed B.named
  have hlocks := B.notSynchronized
  have hin : meth.name = "<init>" := (name_of_methodNamed B.named B.method).1
  have S : SF p m c cJx4a65c_init_da8c8 1 s ([.ref x]).toArray RJx4a65c := ⟨hx, hb, hml, hown, fun w h => hts w (List.mem_cons_of_mem _ h)⟩
  subst hsz
  have hD := hD0.self (sz := s.heap.size)
  generalize hAe : va_A [(x, .inr (0, [.int 0, .null, .int 0]))] s.heap.size = A at hD hXS ⊢
  have hA : ∀ q : Nat, s.heap.size ≤ q → A q := fun q h => by rw [← hAe]; exact Or.inr h
  have hS : va_S A s.heap s.heap [] := va_S.rf
  have hP : va_P D vwCl [(x, .inr (0, [.int 0, .null, .int 0]))] s.heap := hP
  have hD : va_D A [(x, .inr (0, [.int 0, .null, .int 0]))] := hD
  have hl := lv_entry ([.ref x]) (n := 1) (Nat.le_of_ble_eq_true rfl)
  rw [lg_entry_eq]
  generalize (lg_sl ([.ref x]) ++ List.replicate (1 - (lg_sl ([.ref x])).length) Slot.unset).toArray = ls at hl ⊢
  have hl : lv_has ls 1 [(0, .ref x)] := hl
  refine lv_aload_n hx hb dJx4a65c_init_da8c8_0 rfl (lv_at hl 0 rfl) ?_
  have hFc := va_free (wc := [(x, .inr (0, [.int 0, .null, .int 0]))]) hD hS hA [0] rfl
  refine va_callv (runI_w (As := []) (rest := []) S (q_c_AbsList l D cI cB cZ x s.heap.size) kI_RJx4a65c_1 hK hP hD [0] rfl rfl (by decide) ⟨Nat.le_of_ble_eq_true rfl, Nat.le_of_ble_eq_true rfl⟩ ⟨Nat.le_of_ble_eq_true rfl, Nat.le_of_ble_eq_true rfl⟩ rfl hl.1 rfl (Nat.le_of_ble_eq_true rfl) dJx4a65c_init_da8c8_1) hS (fun q _ h => hFc q h) hFc (fun u_2 t H1 locs ht hvm h_3 hB hz1 hk1 hS => ?_)
  obtain ⟨hP1, hD1⟩ := hB
  rw [ht] at hP1
  obtain ⟨hP, hD⟩ := va_join (wr := []) (w1 := [(x, .inr (0, [.int 0, .null, .int 0]))]) hP hD [0] [] rfl rfl (by decide) (by decide) hk1 hFc hP1 hD1
  generalize H1 = H at hP hS ⊢
  have hP : va_P D vwCl [(x, .inr (0, [.int 0, .null, .int 0]))] H := hP
  have hD : va_D A [(x, .inr (0, [.int 0, .null, .int 0]))] := hD
  refine lv_aload_n hx hb dJx4a65c_init_da8c8_4 rfl (lv_at hl 0 rfl) ?_
  refine va_gets hx hb hXS.2.1 hS hown (S.2.2.2.2 _ (wT_t1 222 rfl rfl)) (fun _ h9 => h9) dJx4a65c_init_da8c8_5 ?_
  refine pf_RJx4a65c_9 S hK hP hD hS 0 rfl (v := .ref zz) (Nat.le_of_ble_eq_true rfl) rfl rfl dJx4a65c_init_da8c8_8 (fun H locs hP hD hS => ?_)
  have hP : va_P D vwCl [(x, .inr (0, [.int 0, .ref zz, .int 0]))] H := hP
  have hD : va_D A [(x, .inr (0, [.int 0, .ref zz, .int 0]))] := hD
  have hP9 := hP.sub (ws' := [(x, .inr (0, [.int 0, .ref zz, .int 0]))]) [0] rfl
  have hD9 := hD.sub (ws' := [(x, .inr (0, [.int 0, .ref zz, .int 0]))]) [0] (by decide) rfl
  exact W.vret hx hb hr (fun t ht hW => ⟨⟨(), rfl, trivial, by rw [ht]; exact hP9, hD9⟩, hS.F ht⟩) hS.2.2 dJx4a65c_init_da8c8_11
set_option maxRecDepth 100000 in
set_option maxHeartbeats 4000000 in
theorem q_c_OilHome (l : Launch) (D : va_G) (cI cB cZ : ClassId) (zz qq vv : Nat) (bt : Nat → Int32) (x : Nat) (sz : Nat) : Met l yX11_init (CWS yX11_init cX11_init 1 none) (RM 4 41 5481) (PBx [.ref x] D cI cB cZ zz qq vv bt [(x, .inr (12, [.int 0, .int 0, .int 0, .int 0, .null, .null, .null, .null, .null, .null, .null, .null, .null, .null, .null, .null]))] sz) (va_Qv (fun (u : Nat → Nat) => u 0 = x) (fun (u : Nat → Nat) (t : State) => va_P D vwCl [((u 0), .inr (12, [.int 0, .int 0, .int 0, .int 0, .ref (u 50), .ref (u 5), .ref (u 6), .ref (u 7), .ref (u 8), .ref (u 9), .ref (u 10), .ref (u 11), .ref (u 12), .ref (u 13), .ref (u 14), .ref (u 15)])), ((u 5), .inr (9, [.ref (u 40), .int 0])), ((u 40), .inl (cI, 200, .inl (fun _ => 0))), ((u 6), .inr (6, [.ref (u 41), .ref (u 51), .int 0, .int 0, .int 0, .int 0])), ((u 41), .inl (cI, 0, .inl (fun _ => 0))), ((u 7), .inl (cI, 11, .inl (fun _ => 0))), ((u 8), .inr (8, [.ref (u 20), .ref (u 21), .ref (u 22), .ref (u 23), .ref (u 24), .ref (u 25), .ref (u 26), .ref (u 27), .ref (u 28), .ref (u 29)])), ((u 20), .inl (cI, 58, .inl (fun _ => 0))), ((u 21), .inl (cI, 24, .inl (fun _ => 0))), ((u 22), .inl (cI, 400, .inl (dgF 400))), ((u 23), .inl (cI, 400, .inl (fun _ => 0))), ((u 24), .inl (cI, 10, .inl (fun _ => 0))), ((u 25), .inl (cI, 10, .inl (fun _ => 0))), ((u 26), .inl (cI, 232, .inl (fun _ => 0))), ((u 27), .inl (cI, 3, .inl (fun _ => 0))), ((u 28), .inl (cI, 1200, .inl (fun _ => 0))), ((u 29), .inl (cI, 400, .inl (fun _ => 0))), ((u 9), .inr (11, [.ref (u 30), .ref (u 31), .ref (u 32), .ref (u 33), .ref (u 34), .ref (u 35), .int 0])), ((u 30), .inl (cI, 8, .inl (fun _ => 0))), ((u 31), .inl (cI, 8, .inl (fun _ => 0))), ((u 32), .inl (cI, 8, .inl (fun _ => 0))), ((u 33), .inl (cI, 8, .inl (fun _ => 0))), ((u 34), .inl (cI, 2048, .inl (fun _ => 0))), ((u 35), .inl (cI, 256, .inl (fun _ => 0))), ((u 10), .inr (0, [.int 0, .ref zz, .int 0])), ((u 11), .inr (0, [.int 0, .ref zz, .int 0])), ((u 12), .inr (0, [.int 0, .ref zz, .int 0])), ((u 13), .inr (0, [.int 0, .ref zz, .int 0])), ((u 14), .inr (0, [.int 0, .ref zz, .int 0])), ((u 15), .inr (0, [.int 0, .ref zz, .int 0])), ((u 50), .inr (10, [.ref (u 70), .ref (u 72), .ref (u 74), .ref (u 76), .ref (u 78), .int 0, .int 0, .int 0, .int 0])), ((u 51), .inr (10, [.ref (u 71), .ref (u 73), .ref (u 75), .ref (u 77), .ref (u 79), .int 0, .int 0, .int 0, .int 0])), ((u 70), .inl (cI, 0, .inl (fun _ => 0))), ((u 71), .inl (cI, 0, .inl (fun _ => 0))), ((u 72), .inl (cI, 12, .inl (fun _ => 0))), ((u 73), .inl (cI, 12, .inl (fun _ => 0))), ((u 74), .inl (cI, 12, .inl (fun _ => 0))), ((u 75), .inl (cI, 12, .inl (fun _ => 0))), ((u 76), .inl (cI, 12, .inl (fun _ => 0))), ((u 77), .inl (cI, 12, .inl (fun _ => 0))), ((u 78), .inl (cI, 32, .inl (fun _ => 0))), ((u 79), .inl (cI, 32, .inl (fun _ => 0)))] t.heap ∧ va_D (va_A [(x, .inr (12, [.int 0, .int 0, .int 0, .int 0, .null, .null, .null, .null, .null, .null, .null, .null, .null, .null, .null, .null]))] sz) [((u 0), .inr (12, [.int 0, .int 0, .int 0, .int 0, .ref (u 50), .ref (u 5), .ref (u 6), .ref (u 7), .ref (u 8), .ref (u 9), .ref (u 10), .ref (u 11), .ref (u 12), .ref (u 13), .ref (u 14), .ref (u 15)])), ((u 5), .inr (9, [.ref (u 40), .int 0])), ((u 40), .inl (cI, 200, .inl (fun _ => 0))), ((u 6), .inr (6, [.ref (u 41), .ref (u 51), .int 0, .int 0, .int 0, .int 0])), ((u 41), .inl (cI, 0, .inl (fun _ => 0))), ((u 7), .inl (cI, 11, .inl (fun _ => 0))), ((u 8), .inr (8, [.ref (u 20), .ref (u 21), .ref (u 22), .ref (u 23), .ref (u 24), .ref (u 25), .ref (u 26), .ref (u 27), .ref (u 28), .ref (u 29)])), ((u 20), .inl (cI, 58, .inl (fun _ => 0))), ((u 21), .inl (cI, 24, .inl (fun _ => 0))), ((u 22), .inl (cI, 400, .inl (dgF 400))), ((u 23), .inl (cI, 400, .inl (fun _ => 0))), ((u 24), .inl (cI, 10, .inl (fun _ => 0))), ((u 25), .inl (cI, 10, .inl (fun _ => 0))), ((u 26), .inl (cI, 232, .inl (fun _ => 0))), ((u 27), .inl (cI, 3, .inl (fun _ => 0))), ((u 28), .inl (cI, 1200, .inl (fun _ => 0))), ((u 29), .inl (cI, 400, .inl (fun _ => 0))), ((u 9), .inr (11, [.ref (u 30), .ref (u 31), .ref (u 32), .ref (u 33), .ref (u 34), .ref (u 35), .int 0])), ((u 30), .inl (cI, 8, .inl (fun _ => 0))), ((u 31), .inl (cI, 8, .inl (fun _ => 0))), ((u 32), .inl (cI, 8, .inl (fun _ => 0))), ((u 33), .inl (cI, 8, .inl (fun _ => 0))), ((u 34), .inl (cI, 2048, .inl (fun _ => 0))), ((u 35), .inl (cI, 256, .inl (fun _ => 0))), ((u 10), .inr (0, [.int 0, .ref zz, .int 0])), ((u 11), .inr (0, [.int 0, .ref zz, .int 0])), ((u 12), .inr (0, [.int 0, .ref zz, .int 0])), ((u 13), .inr (0, [.int 0, .ref zz, .int 0])), ((u 14), .inr (0, [.int 0, .ref zz, .int 0])), ((u 15), .inr (0, [.int 0, .ref zz, .int 0])), ((u 50), .inr (10, [.ref (u 70), .ref (u 72), .ref (u 74), .ref (u 76), .ref (u 78), .int 0, .int 0, .int 0, .int 0])), ((u 51), .inr (10, [.ref (u 71), .ref (u 73), .ref (u 75), .ref (u 77), .ref (u 79), .int 0, .int 0, .int 0, .int 0])), ((u 70), .inl (cI, 0, .inl (fun _ => 0))), ((u 71), .inl (cI, 0, .inl (fun _ => 0))), ((u 72), .inl (cI, 12, .inl (fun _ => 0))), ((u 73), .inl (cI, 12, .inl (fun _ => 0))), ((u 74), .inl (cI, 12, .inl (fun _ => 0))), ((u 75), .inl (cI, 12, .inl (fun _ => 0))), ((u 76), .inl (cI, 12, .inl (fun _ => 0))), ((u 77), .inl (cI, 12, .inl (fun _ => 0))), ((u 78), .inl (cI, 32, .inl (fun _ => 0))), ((u 79), .inl (cI, 32, .inl (fun _ => 0)))]) (va_A [(x, .inr (12, [.int 0, .int 0, .int 0, .int 0, .null, .null, .null, .null, .null, .null, .null, .null, .null, .null, .null, .null]))] sz)) 41 5481 (va_A [(x, .inr (12, [.int 0, .int 0, .int 0, .int 0, .null, .null, .null, .null, .null, .null, .null, .null, .null, .null, .null, .null]))] sz) := by
  refine Met.ofW (cc := cX11_init) (maxL := 1) (ret := none) (by decide) rfl ?_
  intro p e s m args below meth c s₁ B hml hv
  obtain ⟨rfl, hsz, hP, hK, hD0, hXS⟩ := hv
  have hx := B.exec
  have hb := B.bytes
  have hr := B.returns
  have hts := atoms_spec (ws := (CWS yX11_init cX11_init 1 none)) B.pre
  have hown : s.vm.findClass RX11 = some m.cls := findClass_of_methodNamed B.named
  have hlocks := B.notSynchronized
  have hin : meth.name = "<init>" := (name_of_methodNamed B.named B.method).1
  have S : SF p m c cX11_init 1 s ([.ref x]).toArray RX11 := ⟨hx, hb, hml, hown, fun w h => hts w (List.mem_cons_of_mem _ h)⟩
  subst hsz
  have hD := hD0.self (sz := s.heap.size)
  generalize hAe : va_A [(x, .inr (12, [.int 0, .int 0, .int 0, .int 0, .null, .null, .null, .null, .null, .null, .null, .null, .null, .null, .null, .null]))] s.heap.size = A at hD hXS ⊢
  have hA : ∀ q : Nat, s.heap.size ≤ q → A q := fun q h => by rw [← hAe]; exact Or.inr h
  have hS : va_S A s.heap s.heap [] := va_S.rf
  have hP : va_P D vwCl [(x, .inr (12, [.int 0, .int 0, .int 0, .int 0, .null, .null, .null, .null, .null, .null, .null, .null, .null, .null, .null, .null]))] s.heap := hP
  have hD : va_D A [(x, .inr (12, [.int 0, .int 0, .int 0, .int 0, .null, .null, .null, .null, .null, .null, .null, .null, .null, .null, .null, .null]))] := hD
  have hl := lv_entry ([.ref x]) (n := 1) (Nat.le_of_ble_eq_true rfl)
  rw [lg_entry_eq]
  generalize (lg_sl ([.ref x]) ++ List.replicate (1 - (lg_sl ([.ref x])).length) Slot.unset).toArray = ls at hl ⊢
  have hl : lv_has ls 1 [(0, .ref x)] := hl
  refine lv_aload_n hx hb dX11_init_0 rfl (lv_at hl 0 rfl) ?_
  refine W.objInit hx hb hown (S.2.2.2.2 _ (wT_t1 32 rfl rfl)) (S.2.2.2.2 _ (wT_t1 33 rfl rfl)) (S.2.2.2.2 _ (wT_t1 34 rfl rfl)) rfl (by rw [hml]; exact hl.1) rfl dX11_init_1 (Nat.le_of_ble_eq_true rfl) (Nat.le_of_ble_eq_true rfl) ?_
  refine W.eq (g2 := F0 m 4 ls []) rfl ?_
  refine lv_aload_n hx hb dX11_init_4 rfl (lv_at hl 0 rfl) ?_
  refine va_new (ci := 10) (fs := [.null, .null, .null, .null, .null, .int 0, .int 0, .int 0, .int 0]) (C := RX9) (T := TX9) (N := 9) hx hb S.2.2.2.2 hin_RX9 tyX9 tyX9_ok hown (S.2.2.2.2 _ (wT_t1 35 rfl rfl)) (S.2.2.2.2 _ (wT_t1 36 rfl rfl)) (S.2.2.2.2 _ (wT_t1 2 rfl rfl)) hK.1 hP hD hS hA rfl (by decide +kernel) (Nat.le_of_ble_eq_true rfl) (Nat.le_of_ble_eq_true rfl) dX11_init_5 (fun q5 H hP hD hS => ?_)
  have hP : va_P D vwCl [(x, .inr (12, [.int 0, .int 0, .int 0, .int 0, .null, .null, .null, .null, .null, .null, .null, .null, .null, .null, .null, .null])), (q5, .inr (10, [.null, .null, .null, .null, .null, .int 0, .int 0, .int 0, .int 0]))] H := hP
  have hD : va_D A [(x, .inr (12, [.int 0, .int 0, .int 0, .int 0, .null, .null, .null, .null, .null, .null, .null, .null, .null, .null, .null, .null])), (q5, .inr (10, [.null, .null, .null, .null, .null, .int 0, .int 0, .int 0, .int 0]))] := hD
  refine lv_dup hx hb dX11_init_8 rfl ?_
  refine lv_iconst (v := 0) hx hb dX11_init_9 (by decide) ?_
  have hFc := va_free (wc := [(q5, .inr (10, [.null, .null, .null, .null, .null, .int 0, .int 0, .int 0, .int 0]))]) hD hS hA [1] rfl
  refine va_callv (runI_w (As := [.int 0]) (rest := [.ref q5, .ref x]) S (q_l_Text0 l D cI cB cZ q5 H.size) kI_RX11_9 hK hP hD [1] rfl rfl (by decide) ⟨Nat.le_of_ble_eq_true rfl, Nat.le_of_ble_eq_true rfl⟩ ⟨Nat.le_of_ble_eq_true rfl, Nat.le_of_ble_eq_true rfl⟩ rfl hl.1 rfl (Nat.le_of_ble_eq_true rfl) dX11_init_10) hS (fun q _ h => hFc q h) hFc (fun u_2 t H1 locs ht hvm h_3 hB hz1 hk1 hS => ?_)
  obtain ⟨hP1, hD1⟩ := hB
  rw [ht] at hP1
  obtain ⟨hP, hD⟩ := va_join (wr := [(x, .inr (12, [.int 0, .int 0, .int 0, .int 0, .null, .null, .null, .null, .null, .null, .null, .null, .null, .null, .null, .null]))]) (w1 := [(q5, .inr (10, [.ref (u_2 0), .ref (u_2 1), .ref (u_2 2), .ref (u_2 3), .ref (u_2 4), .int 0, .int 0, .int 0, .int 0])), ((u_2 0), .inl (cI, 0, .inl (fun _ => 0))), ((u_2 1), .inl (cI, 12, .inl (fun _ => 0))), ((u_2 2), .inl (cI, 12, .inl (fun _ => 0))), ((u_2 3), .inl (cI, 12, .inl (fun _ => 0))), ((u_2 4), .inl (cI, 32, .inl (fun _ => 0)))]) hP hD [1] [0] rfl rfl (by decide) (by decide) hk1 hFc hP1 hD1
  generalize H1 = H at hP hS ⊢
  have hP : va_P D vwCl [(x, .inr (12, [.int 0, .int 0, .int 0, .int 0, .null, .null, .null, .null, .null, .null, .null, .null, .null, .null, .null, .null])), (q5, .inr (10, [.ref (u_2 0), .ref (u_2 1), .ref (u_2 2), .ref (u_2 3), .ref (u_2 4), .int 0, .int 0, .int 0, .int 0])), ((u_2 0), .inl (cI, 0, .inl (fun _ => 0))), ((u_2 1), .inl (cI, 12, .inl (fun _ => 0))), ((u_2 2), .inl (cI, 12, .inl (fun _ => 0))), ((u_2 3), .inl (cI, 12, .inl (fun _ => 0))), ((u_2 4), .inl (cI, 32, .inl (fun _ => 0)))] H := hP
  have hD : va_D A [(x, .inr (12, [.int 0, .int 0, .int 0, .int 0, .null, .null, .null, .null, .null, .null, .null, .null, .null, .null, .null, .null])), (q5, .inr (10, [.ref (u_2 0), .ref (u_2 1), .ref (u_2 2), .ref (u_2 3), .ref (u_2 4), .int 0, .int 0, .int 0, .int 0])), ((u_2 0), .inl (cI, 0, .inl (fun _ => 0))), ((u_2 1), .inl (cI, 12, .inl (fun _ => 0))), ((u_2 2), .inl (cI, 12, .inl (fun _ => 0))), ((u_2 3), .inl (cI, 12, .inl (fun _ => 0))), ((u_2 4), .inl (cI, 32, .inl (fun _ => 0)))] := hD
  refine pf_RX11_12 S hK hP hD hS 0 rfl (v := .ref q5) (Nat.le_of_ble_eq_true rfl) rfl rfl dX11_init_13 (fun H locs hP hD hS => ?_)
  have hP : va_P D vwCl [(x, .inr (12, [.int 0, .int 0, .int 0, .int 0, .ref q5, .null, .null, .null, .null, .null, .null, .null, .null, .null, .null, .null])), (q5, .inr (10, [.ref (u_2 0), .ref (u_2 1), .ref (u_2 2), .ref (u_2 3), .ref (u_2 4), .int 0, .int 0, .int 0, .int 0])), ((u_2 0), .inl (cI, 0, .inl (fun _ => 0))), ((u_2 1), .inl (cI, 12, .inl (fun _ => 0))), ((u_2 2), .inl (cI, 12, .inl (fun _ => 0))), ((u_2 3), .inl (cI, 12, .inl (fun _ => 0))), ((u_2 4), .inl (cI, 32, .inl (fun _ => 0)))] H := hP
  have hD : va_D A [(x, .inr (12, [.int 0, .int 0, .int 0, .int 0, .ref q5, .null, .null, .null, .null, .null, .null, .null, .null, .null, .null, .null])), (q5, .inr (10, [.ref (u_2 0), .ref (u_2 1), .ref (u_2 2), .ref (u_2 3), .ref (u_2 4), .int 0, .int 0, .int 0, .int 0])), ((u_2 0), .inl (cI, 0, .inl (fun _ => 0))), ((u_2 1), .inl (cI, 12, .inl (fun _ => 0))), ((u_2 2), .inl (cI, 12, .inl (fun _ => 0))), ((u_2 3), .inl (cI, 12, .inl (fun _ => 0))), ((u_2 4), .inl (cI, 32, .inl (fun _ => 0)))] := hD
  refine lv_aload_n hx hb dX11_init_16 rfl (lv_at hl 0 rfl) ?_
  refine va_new (ci := 9) (fs := [.null, .int 0]) (C := RX8) (T := TX8) (N := 2) hx hb S.2.2.2.2 hin_RX8 tyX8 tyX8_ok hown (S.2.2.2.2 _ (wT_t1 75 rfl rfl)) (S.2.2.2.2 _ (wT_t1 76 rfl rfl)) (S.2.2.2.2 _ (wT_t1 4 rfl rfl)) hK.1 hP hD hS hA rfl (by decide +kernel) (Nat.le_of_ble_eq_true rfl) (Nat.le_of_ble_eq_true rfl) dX11_init_17 (fun q17 H hP hD hS => ?_)
  have hP : va_P D vwCl [(x, .inr (12, [.int 0, .int 0, .int 0, .int 0, .ref q5, .null, .null, .null, .null, .null, .null, .null, .null, .null, .null, .null])), (q5, .inr (10, [.ref (u_2 0), .ref (u_2 1), .ref (u_2 2), .ref (u_2 3), .ref (u_2 4), .int 0, .int 0, .int 0, .int 0])), ((u_2 0), .inl (cI, 0, .inl (fun _ => 0))), ((u_2 1), .inl (cI, 12, .inl (fun _ => 0))), ((u_2 2), .inl (cI, 12, .inl (fun _ => 0))), ((u_2 3), .inl (cI, 12, .inl (fun _ => 0))), ((u_2 4), .inl (cI, 32, .inl (fun _ => 0))), (q17, .inr (9, [.null, .int 0]))] H := hP
  have hD : va_D A [(x, .inr (12, [.int 0, .int 0, .int 0, .int 0, .ref q5, .null, .null, .null, .null, .null, .null, .null, .null, .null, .null, .null])), (q5, .inr (10, [.ref (u_2 0), .ref (u_2 1), .ref (u_2 2), .ref (u_2 3), .ref (u_2 4), .int 0, .int 0, .int 0, .int 0])), ((u_2 0), .inl (cI, 0, .inl (fun _ => 0))), ((u_2 1), .inl (cI, 12, .inl (fun _ => 0))), ((u_2 2), .inl (cI, 12, .inl (fun _ => 0))), ((u_2 3), .inl (cI, 12, .inl (fun _ => 0))), ((u_2 4), .inl (cI, 32, .inl (fun _ => 0))), (q17, .inr (9, [.null, .int 0]))] := hD
  refine lv_dup hx hb dX11_init_20 rfl ?_
  have hFc := va_free (wc := [(q17, .inr (9, [.null, .int 0]))]) hD hS hA [7] rfl
  refine va_callv (runIN_w (As := []) (rest := [.ref q17, .ref x]) S (q_c_Tape l D cI cB cZ q17 H.size) hK.2.1 ⟨⟨wT_t1 78 rfl rfl, wT_t1 4 rfl rfl, wT_t1 79 rfl rfl⟩, rfl, by decide, by decide, by decide +kernel⟩ hK hP hD [7] rfl rfl (by decide) ⟨Nat.le_of_ble_eq_true rfl, Nat.le_of_ble_eq_true rfl⟩ ⟨Nat.le_of_ble_eq_true rfl, Nat.le_of_ble_eq_true rfl⟩ rfl hl.1 rfl (Nat.le_of_ble_eq_true rfl) dX11_init_21) hS (fun q _ h => hFc q h) hFc (fun u_5 t H1 locs ht hvm h_6 hB hz1 hk1 hS => ?_)
  obtain ⟨hP1, hD1⟩ := hB
  rw [ht] at hP1
  obtain ⟨hP, hD⟩ := va_join (wr := [(x, .inr (12, [.int 0, .int 0, .int 0, .int 0, .ref q5, .null, .null, .null, .null, .null, .null, .null, .null, .null, .null, .null])), (q5, .inr (10, [.ref (u_2 0), .ref (u_2 1), .ref (u_2 2), .ref (u_2 3), .ref (u_2 4), .int 0, .int 0, .int 0, .int 0])), ((u_2 0), .inl (cI, 0, .inl (fun _ => 0))), ((u_2 1), .inl (cI, 12, .inl (fun _ => 0))), ((u_2 2), .inl (cI, 12, .inl (fun _ => 0))), ((u_2 3), .inl (cI, 12, .inl (fun _ => 0))), ((u_2 4), .inl (cI, 32, .inl (fun _ => 0)))]) (w1 := [(q17, .inr (9, [.ref u_5, .int 0])), (u_5, .inl (cI, 200, .inl (fun _ => 0)))]) hP hD [7] [0, 1, 2, 3, 4, 5, 6] rfl rfl (by decide) (by decide) hk1 hFc hP1 hD1
  generalize H1 = H at hP hS ⊢
  have hP : va_P D vwCl [(x, .inr (12, [.int 0, .int 0, .int 0, .int 0, .ref q5, .null, .null, .null, .null, .null, .null, .null, .null, .null, .null, .null])), (q5, .inr (10, [.ref (u_2 0), .ref (u_2 1), .ref (u_2 2), .ref (u_2 3), .ref (u_2 4), .int 0, .int 0, .int 0, .int 0])), ((u_2 0), .inl (cI, 0, .inl (fun _ => 0))), ((u_2 1), .inl (cI, 12, .inl (fun _ => 0))), ((u_2 2), .inl (cI, 12, .inl (fun _ => 0))), ((u_2 3), .inl (cI, 12, .inl (fun _ => 0))), ((u_2 4), .inl (cI, 32, .inl (fun _ => 0))), (q17, .inr (9, [.ref u_5, .int 0])), (u_5, .inl (cI, 200, .inl (fun _ => 0)))] H := hP
  have hD : va_D A [(x, .inr (12, [.int 0, .int 0, .int 0, .int 0, .ref q5, .null, .null, .null, .null, .null, .null, .null, .null, .null, .null, .null])), (q5, .inr (10, [.ref (u_2 0), .ref (u_2 1), .ref (u_2 2), .ref (u_2 3), .ref (u_2 4), .int 0, .int 0, .int 0, .int 0])), ((u_2 0), .inl (cI, 0, .inl (fun _ => 0))), ((u_2 1), .inl (cI, 12, .inl (fun _ => 0))), ((u_2 2), .inl (cI, 12, .inl (fun _ => 0))), ((u_2 3), .inl (cI, 12, .inl (fun _ => 0))), ((u_2 4), .inl (cI, 32, .inl (fun _ => 0))), (q17, .inr (9, [.ref u_5, .int 0])), (u_5, .inl (cI, 200, .inl (fun _ => 0)))] := hD
  refine pf_RX11_21 S hin hK hP hD hS 0 rfl (v := .ref q17) (Nat.le_of_ble_eq_true rfl) rfl rfl dX11_init_24 (fun H locs hP hD hS => ?_)
  have hP : va_P D vwCl [(x, .inr (12, [.int 0, .int 0, .int 0, .int 0, .ref q5, .ref q17, .null, .null, .null, .null, .null, .null, .null, .null, .null, .null])), (q5, .inr (10, [.ref (u_2 0), .ref (u_2 1), .ref (u_2 2), .ref (u_2 3), .ref (u_2 4), .int 0, .int 0, .int 0, .int 0])), ((u_2 0), .inl (cI, 0, .inl (fun _ => 0))), ((u_2 1), .inl (cI, 12, .inl (fun _ => 0))), ((u_2 2), .inl (cI, 12, .inl (fun _ => 0))), ((u_2 3), .inl (cI, 12, .inl (fun _ => 0))), ((u_2 4), .inl (cI, 32, .inl (fun _ => 0))), (q17, .inr (9, [.ref u_5, .int 0])), (u_5, .inl (cI, 200, .inl (fun _ => 0)))] H := hP
  have hD : va_D A [(x, .inr (12, [.int 0, .int 0, .int 0, .int 0, .ref q5, .ref q17, .null, .null, .null, .null, .null, .null, .null, .null, .null, .null])), (q5, .inr (10, [.ref (u_2 0), .ref (u_2 1), .ref (u_2 2), .ref (u_2 3), .ref (u_2 4), .int 0, .int 0, .int 0, .int 0])), ((u_2 0), .inl (cI, 0, .inl (fun _ => 0))), ((u_2 1), .inl (cI, 12, .inl (fun _ => 0))), ((u_2 2), .inl (cI, 12, .inl (fun _ => 0))), ((u_2 3), .inl (cI, 12, .inl (fun _ => 0))), ((u_2 4), .inl (cI, 32, .inl (fun _ => 0))), (q17, .inr (9, [.ref u_5, .int 0])), (u_5, .inl (cI, 200, .inl (fun _ => 0)))] := hD
  refine lv_aload_n hx hb dX11_init_27 rfl (lv_at hl 0 rfl) ?_
  refine va_new (ci := 6) (fs := [.null, .null, .int 0, .int 0, .int 0, .int 0]) (C := RX5) (T := TX5) (N := 6) hx hb S.2.2.2.2 hin_RX5 tyX5 tyX5_ok hown (S.2.2.2.2 _ (wT_t1 89 rfl rfl)) (S.2.2.2.2 _ (wT_t1 90 rfl rfl)) (S.2.2.2.2 _ (wT_t1 5 rfl rfl)) hK.1 hP hD hS hA rfl (by decide +kernel) (Nat.le_of_ble_eq_true rfl) (Nat.le_of_ble_eq_true rfl) dX11_init_28 (fun q28 H hP hD hS => ?_)
  have hP : va_P D vwCl [(x, .inr (12, [.int 0, .int 0, .int 0, .int 0, .ref q5, .ref q17, .null, .null, .null, .null, .null, .null, .null, .null, .null, .null])), (q5, .inr (10, [.ref (u_2 0), .ref (u_2 1), .ref (u_2 2), .ref (u_2 3), .ref (u_2 4), .int 0, .int 0, .int 0, .int 0])), ((u_2 0), .inl (cI, 0, .inl (fun _ => 0))), ((u_2 1), .inl (cI, 12, .inl (fun _ => 0))), ((u_2 2), .inl (cI, 12, .inl (fun _ => 0))), ((u_2 3), .inl (cI, 12, .inl (fun _ => 0))), ((u_2 4), .inl (cI, 32, .inl (fun _ => 0))), (q17, .inr (9, [.ref u_5, .int 0])), (u_5, .inl (cI, 200, .inl (fun _ => 0))), (q28, .inr (6, [.null, .null, .int 0, .int 0, .int 0, .int 0]))] H := hP
  have hD : va_D A [(x, .inr (12, [.int 0, .int 0, .int 0, .int 0, .ref q5, .ref q17, .null, .null, .null, .null, .null, .null, .null, .null, .null, .null])), (q5, .inr (10, [.ref (u_2 0), .ref (u_2 1), .ref (u_2 2), .ref (u_2 3), .ref (u_2 4), .int 0, .int 0, .int 0, .int 0])), ((u_2 0), .inl (cI, 0, .inl (fun _ => 0))), ((u_2 1), .inl (cI, 12, .inl (fun _ => 0))), ((u_2 2), .inl (cI, 12, .inl (fun _ => 0))), ((u_2 3), .inl (cI, 12, .inl (fun _ => 0))), ((u_2 4), .inl (cI, 32, .inl (fun _ => 0))), (q17, .inr (9, [.ref u_5, .int 0])), (u_5, .inl (cI, 200, .inl (fun _ => 0))), (q28, .inr (6, [.null, .null, .int 0, .int 0, .int 0, .int 0]))] := hD
  refine lv_dup hx hb dX11_init_31 rfl ?_
  have hFc := va_free (wc := [(q28, .inr (6, [.null, .null, .int 0, .int 0, .int 0, .int 0]))]) hD hS hA [9] rfl
  refine va_callv (runI_w (As := []) (rest := [.ref q28, .ref x]) S (q_c_Reader l D cI cB cZ q28 H.size) kI_RX11_27 hK hP hD [9] rfl rfl (by decide) ⟨Nat.le_of_ble_eq_true rfl, Nat.le_of_ble_eq_true rfl⟩ ⟨Nat.le_of_ble_eq_true rfl, Nat.le_of_ble_eq_true rfl⟩ rfl hl.1 rfl (Nat.le_of_ble_eq_true rfl) dX11_init_32) hS (fun q _ h => hFc q h) hFc (fun u_8 t H1 locs ht hvm h_9 hB hz1 hk1 hS => ?_)
  obtain ⟨hP1, hD1⟩ := hB
  rw [ht] at hP1
  obtain ⟨hP, hD⟩ := va_join (wr := [(x, .inr (12, [.int 0, .int 0, .int 0, .int 0, .ref q5, .ref q17, .null, .null, .null, .null, .null, .null, .null, .null, .null, .null])), (q5, .inr (10, [.ref (u_2 0), .ref (u_2 1), .ref (u_2 2), .ref (u_2 3), .ref (u_2 4), .int 0, .int 0, .int 0, .int 0])), ((u_2 0), .inl (cI, 0, .inl (fun _ => 0))), ((u_2 1), .inl (cI, 12, .inl (fun _ => 0))), ((u_2 2), .inl (cI, 12, .inl (fun _ => 0))), ((u_2 3), .inl (cI, 12, .inl (fun _ => 0))), ((u_2 4), .inl (cI, 32, .inl (fun _ => 0))), (q17, .inr (9, [.ref u_5, .int 0])), (u_5, .inl (cI, 200, .inl (fun _ => 0)))]) (w1 := [(q28, .inr (6, [.ref (u_8 6), .ref (u_8 5), .int 0, .int 0, .int 0, .int 0])), ((u_8 6), .inl (cI, 0, .inl (fun _ => 0))), ((u_8 5), .inr (10, [.ref (u_8 0), .ref (u_8 1), .ref (u_8 2), .ref (u_8 3), .ref (u_8 4), .int 0, .int 0, .int 0, .int 0])), ((u_8 0), .inl (cI, 0, .inl (fun _ => 0))), ((u_8 1), .inl (cI, 12, .inl (fun _ => 0))), ((u_8 2), .inl (cI, 12, .inl (fun _ => 0))), ((u_8 3), .inl (cI, 12, .inl (fun _ => 0))), ((u_8 4), .inl (cI, 32, .inl (fun _ => 0)))]) hP hD [9] [0, 1, 2, 3, 4, 5, 6, 7, 8] rfl rfl (by decide) (by decide) hk1 hFc hP1 hD1
  generalize H1 = H at hP hS ⊢
  have hP : va_P D vwCl [(x, .inr (12, [.int 0, .int 0, .int 0, .int 0, .ref q5, .ref q17, .null, .null, .null, .null, .null, .null, .null, .null, .null, .null])), (q5, .inr (10, [.ref (u_2 0), .ref (u_2 1), .ref (u_2 2), .ref (u_2 3), .ref (u_2 4), .int 0, .int 0, .int 0, .int 0])), ((u_2 0), .inl (cI, 0, .inl (fun _ => 0))), ((u_2 1), .inl (cI, 12, .inl (fun _ => 0))), ((u_2 2), .inl (cI, 12, .inl (fun _ => 0))), ((u_2 3), .inl (cI, 12, .inl (fun _ => 0))), ((u_2 4), .inl (cI, 32, .inl (fun _ => 0))), (q17, .inr (9, [.ref u_5, .int 0])), (u_5, .inl (cI, 200, .inl (fun _ => 0))), (q28, .inr (6, [.ref (u_8 6), .ref (u_8 5), .int 0, .int 0, .int 0, .int 0])), ((u_8 6), .inl (cI, 0, .inl (fun _ => 0))), ((u_8 5), .inr (10, [.ref (u_8 0), .ref (u_8 1), .ref (u_8 2), .ref (u_8 3), .ref (u_8 4), .int 0, .int 0, .int 0, .int 0])), ((u_8 0), .inl (cI, 0, .inl (fun _ => 0))), ((u_8 1), .inl (cI, 12, .inl (fun _ => 0))), ((u_8 2), .inl (cI, 12, .inl (fun _ => 0))), ((u_8 3), .inl (cI, 12, .inl (fun _ => 0))), ((u_8 4), .inl (cI, 32, .inl (fun _ => 0)))] H := hP
  have hD : va_D A [(x, .inr (12, [.int 0, .int 0, .int 0, .int 0, .ref q5, .ref q17, .null, .null, .null, .null, .null, .null, .null, .null, .null, .null])), (q5, .inr (10, [.ref (u_2 0), .ref (u_2 1), .ref (u_2 2), .ref (u_2 3), .ref (u_2 4), .int 0, .int 0, .int 0, .int 0])), ((u_2 0), .inl (cI, 0, .inl (fun _ => 0))), ((u_2 1), .inl (cI, 12, .inl (fun _ => 0))), ((u_2 2), .inl (cI, 12, .inl (fun _ => 0))), ((u_2 3), .inl (cI, 12, .inl (fun _ => 0))), ((u_2 4), .inl (cI, 32, .inl (fun _ => 0))), (q17, .inr (9, [.ref u_5, .int 0])), (u_5, .inl (cI, 200, .inl (fun _ => 0))), (q28, .inr (6, [.ref (u_8 6), .ref (u_8 5), .int 0, .int 0, .int 0, .int 0])), ((u_8 6), .inl (cI, 0, .inl (fun _ => 0))), ((u_8 5), .inr (10, [.ref (u_8 0), .ref (u_8 1), .ref (u_8 2), .ref (u_8 3), .ref (u_8 4), .int 0, .int 0, .int 0, .int 0])), ((u_8 0), .inl (cI, 0, .inl (fun _ => 0))), ((u_8 1), .inl (cI, 12, .inl (fun _ => 0))), ((u_8 2), .inl (cI, 12, .inl (fun _ => 0))), ((u_8 3), .inl (cI, 12, .inl (fun _ => 0))), ((u_8 4), .inl (cI, 32, .inl (fun _ => 0)))] := hD
  refine pf_RX11_28 S hin hK hP hD hS 0 rfl (v := .ref q28) (Nat.le_of_ble_eq_true rfl) rfl rfl dX11_init_35 (fun H locs hP hD hS => ?_)
  have hP : va_P D vwCl [(x, .inr (12, [.int 0, .int 0, .int 0, .int 0, .ref q5, .ref q17, .ref q28, .null, .null, .null, .null, .null, .null, .null, .null, .null])), (q5, .inr (10, [.ref (u_2 0), .ref (u_2 1), .ref (u_2 2), .ref (u_2 3), .ref (u_2 4), .int 0, .int 0, .int 0, .int 0])), ((u_2 0), .inl (cI, 0, .inl (fun _ => 0))), ((u_2 1), .inl (cI, 12, .inl (fun _ => 0))), ((u_2 2), .inl (cI, 12, .inl (fun _ => 0))), ((u_2 3), .inl (cI, 12, .inl (fun _ => 0))), ((u_2 4), .inl (cI, 32, .inl (fun _ => 0))), (q17, .inr (9, [.ref u_5, .int 0])), (u_5, .inl (cI, 200, .inl (fun _ => 0))), (q28, .inr (6, [.ref (u_8 6), .ref (u_8 5), .int 0, .int 0, .int 0, .int 0])), ((u_8 6), .inl (cI, 0, .inl (fun _ => 0))), ((u_8 5), .inr (10, [.ref (u_8 0), .ref (u_8 1), .ref (u_8 2), .ref (u_8 3), .ref (u_8 4), .int 0, .int 0, .int 0, .int 0])), ((u_8 0), .inl (cI, 0, .inl (fun _ => 0))), ((u_8 1), .inl (cI, 12, .inl (fun _ => 0))), ((u_8 2), .inl (cI, 12, .inl (fun _ => 0))), ((u_8 3), .inl (cI, 12, .inl (fun _ => 0))), ((u_8 4), .inl (cI, 32, .inl (fun _ => 0)))] H := hP
  have hD : va_D A [(x, .inr (12, [.int 0, .int 0, .int 0, .int 0, .ref q5, .ref q17, .ref q28, .null, .null, .null, .null, .null, .null, .null, .null, .null])), (q5, .inr (10, [.ref (u_2 0), .ref (u_2 1), .ref (u_2 2), .ref (u_2 3), .ref (u_2 4), .int 0, .int 0, .int 0, .int 0])), ((u_2 0), .inl (cI, 0, .inl (fun _ => 0))), ((u_2 1), .inl (cI, 12, .inl (fun _ => 0))), ((u_2 2), .inl (cI, 12, .inl (fun _ => 0))), ((u_2 3), .inl (cI, 12, .inl (fun _ => 0))), ((u_2 4), .inl (cI, 32, .inl (fun _ => 0))), (q17, .inr (9, [.ref u_5, .int 0])), (u_5, .inl (cI, 200, .inl (fun _ => 0))), (q28, .inr (6, [.ref (u_8 6), .ref (u_8 5), .int 0, .int 0, .int 0, .int 0])), ((u_8 6), .inl (cI, 0, .inl (fun _ => 0))), ((u_8 5), .inr (10, [.ref (u_8 0), .ref (u_8 1), .ref (u_8 2), .ref (u_8 3), .ref (u_8 4), .int 0, .int 0, .int 0, .int 0])), ((u_8 0), .inl (cI, 0, .inl (fun _ => 0))), ((u_8 1), .inl (cI, 12, .inl (fun _ => 0))), ((u_8 2), .inl (cI, 12, .inl (fun _ => 0))), ((u_8 3), .inl (cI, 12, .inl (fun _ => 0))), ((u_8 4), .inl (cI, 32, .inl (fun _ => 0)))] := hD
  refine lv_aload_n hx hb dX11_init_38 rfl (lv_at hl 0 rfl) ?_
  refine va_ldcS hx hb hown hXS.2.2.2.2.2.2.2.1.1 dX11_init_39 ?_
  refine vp_callSi (runV_rx (As := []) (rest := [.ref x]) S (q_s_strLen l D cI cB cZ zz qq vv bt ) kV_RX11_34 hK hXS hS hP [] rfl (va_Orecv hXS.2.2.2.1 hS) ⟨Nat.le_of_ble_eq_true rfl, Nat.le_of_ble_eq_true rfl⟩ ⟨Nat.le_of_ble_eq_true rfl, Nat.le_of_ble_eq_true rfl⟩ rfl hl.1 rfl (Nat.le_of_ble_eq_true rfl) dX11_init_41) (fun r_10 h_11 => ?_)
  subst h_11
  refine newa_int S hK hP hD hS hA (N' := 11) (by decide) (by decide) (Nat.le_of_ble_eq_true rfl) (Nat.le_of_ble_eq_true rfl) (Nat.le_of_ble_eq_true rfl) dX11_init_44 (fun q44 H hP hD hS => ?_)
  have hP : va_P D vwCl [(x, .inr (12, [.int 0, .int 0, .int 0, .int 0, .ref q5, .ref q17, .ref q28, .null, .null, .null, .null, .null, .null, .null, .null, .null])), (q5, .inr (10, [.ref (u_2 0), .ref (u_2 1), .ref (u_2 2), .ref (u_2 3), .ref (u_2 4), .int 0, .int 0, .int 0, .int 0])), ((u_2 0), .inl (cI, 0, .inl (fun _ => 0))), ((u_2 1), .inl (cI, 12, .inl (fun _ => 0))), ((u_2 2), .inl (cI, 12, .inl (fun _ => 0))), ((u_2 3), .inl (cI, 12, .inl (fun _ => 0))), ((u_2 4), .inl (cI, 32, .inl (fun _ => 0))), (q17, .inr (9, [.ref u_5, .int 0])), (u_5, .inl (cI, 200, .inl (fun _ => 0))), (q28, .inr (6, [.ref (u_8 6), .ref (u_8 5), .int 0, .int 0, .int 0, .int 0])), ((u_8 6), .inl (cI, 0, .inl (fun _ => 0))), ((u_8 5), .inr (10, [.ref (u_8 0), .ref (u_8 1), .ref (u_8 2), .ref (u_8 3), .ref (u_8 4), .int 0, .int 0, .int 0, .int 0])), ((u_8 0), .inl (cI, 0, .inl (fun _ => 0))), ((u_8 1), .inl (cI, 12, .inl (fun _ => 0))), ((u_8 2), .inl (cI, 12, .inl (fun _ => 0))), ((u_8 3), .inl (cI, 12, .inl (fun _ => 0))), ((u_8 4), .inl (cI, 32, .inl (fun _ => 0))), (q44, .inl (cI, 11, .inl (fun _ => 0)))] H := hP
  have hD : va_D A [(x, .inr (12, [.int 0, .int 0, .int 0, .int 0, .ref q5, .ref q17, .ref q28, .null, .null, .null, .null, .null, .null, .null, .null, .null])), (q5, .inr (10, [.ref (u_2 0), .ref (u_2 1), .ref (u_2 2), .ref (u_2 3), .ref (u_2 4), .int 0, .int 0, .int 0, .int 0])), ((u_2 0), .inl (cI, 0, .inl (fun _ => 0))), ((u_2 1), .inl (cI, 12, .inl (fun _ => 0))), ((u_2 2), .inl (cI, 12, .inl (fun _ => 0))), ((u_2 3), .inl (cI, 12, .inl (fun _ => 0))), ((u_2 4), .inl (cI, 32, .inl (fun _ => 0))), (q17, .inr (9, [.ref u_5, .int 0])), (u_5, .inl (cI, 200, .inl (fun _ => 0))), (q28, .inr (6, [.ref (u_8 6), .ref (u_8 5), .int 0, .int 0, .int 0, .int 0])), ((u_8 6), .inl (cI, 0, .inl (fun _ => 0))), ((u_8 5), .inr (10, [.ref (u_8 0), .ref (u_8 1), .ref (u_8 2), .ref (u_8 3), .ref (u_8 4), .int 0, .int 0, .int 0, .int 0])), ((u_8 0), .inl (cI, 0, .inl (fun _ => 0))), ((u_8 1), .inl (cI, 12, .inl (fun _ => 0))), ((u_8 2), .inl (cI, 12, .inl (fun _ => 0))), ((u_8 3), .inl (cI, 12, .inl (fun _ => 0))), ((u_8 4), .inl (cI, 32, .inl (fun _ => 0))), (q44, .inl (cI, 11, .inl (fun _ => 0)))] := hD
  refine pf_RX11_40 S hin hK hP hD hS 0 rfl (v := .ref q44) (Nat.le_of_ble_eq_true rfl) rfl rfl dX11_init_46 (fun H locs hP hD hS => ?_)
  have hP : va_P D vwCl [(x, .inr (12, [.int 0, .int 0, .int 0, .int 0, .ref q5, .ref q17, .ref q28, .ref q44, .null, .null, .null, .null, .null, .null, .null, .null])), (q5, .inr (10, [.ref (u_2 0), .ref (u_2 1), .ref (u_2 2), .ref (u_2 3), .ref (u_2 4), .int 0, .int 0, .int 0, .int 0])), ((u_2 0), .inl (cI, 0, .inl (fun _ => 0))), ((u_2 1), .inl (cI, 12, .inl (fun _ => 0))), ((u_2 2), .inl (cI, 12, .inl (fun _ => 0))), ((u_2 3), .inl (cI, 12, .inl (fun _ => 0))), ((u_2 4), .inl (cI, 32, .inl (fun _ => 0))), (q17, .inr (9, [.ref u_5, .int 0])), (u_5, .inl (cI, 200, .inl (fun _ => 0))), (q28, .inr (6, [.ref (u_8 6), .ref (u_8 5), .int 0, .int 0, .int 0, .int 0])), ((u_8 6), .inl (cI, 0, .inl (fun _ => 0))), ((u_8 5), .inr (10, [.ref (u_8 0), .ref (u_8 1), .ref (u_8 2), .ref (u_8 3), .ref (u_8 4), .int 0, .int 0, .int 0, .int 0])), ((u_8 0), .inl (cI, 0, .inl (fun _ => 0))), ((u_8 1), .inl (cI, 12, .inl (fun _ => 0))), ((u_8 2), .inl (cI, 12, .inl (fun _ => 0))), ((u_8 3), .inl (cI, 12, .inl (fun _ => 0))), ((u_8 4), .inl (cI, 32, .inl (fun _ => 0))), (q44, .inl (cI, 11, .inl (fun _ => 0)))] H := hP
  have hD : va_D A [(x, .inr (12, [.int 0, .int 0, .int 0, .int 0, .ref q5, .ref q17, .ref q28, .ref q44, .null, .null, .null, .null, .null, .null, .null, .null])), (q5, .inr (10, [.ref (u_2 0), .ref (u_2 1), .ref (u_2 2), .ref (u_2 3), .ref (u_2 4), .int 0, .int 0, .int 0, .int 0])), ((u_2 0), .inl (cI, 0, .inl (fun _ => 0))), ((u_2 1), .inl (cI, 12, .inl (fun _ => 0))), ((u_2 2), .inl (cI, 12, .inl (fun _ => 0))), ((u_2 3), .inl (cI, 12, .inl (fun _ => 0))), ((u_2 4), .inl (cI, 32, .inl (fun _ => 0))), (q17, .inr (9, [.ref u_5, .int 0])), (u_5, .inl (cI, 200, .inl (fun _ => 0))), (q28, .inr (6, [.ref (u_8 6), .ref (u_8 5), .int 0, .int 0, .int 0, .int 0])), ((u_8 6), .inl (cI, 0, .inl (fun _ => 0))), ((u_8 5), .inr (10, [.ref (u_8 0), .ref (u_8 1), .ref (u_8 2), .ref (u_8 3), .ref (u_8 4), .int 0, .int 0, .int 0, .int 0])), ((u_8 0), .inl (cI, 0, .inl (fun _ => 0))), ((u_8 1), .inl (cI, 12, .inl (fun _ => 0))), ((u_8 2), .inl (cI, 12, .inl (fun _ => 0))), ((u_8 3), .inl (cI, 12, .inl (fun _ => 0))), ((u_8 4), .inl (cI, 32, .inl (fun _ => 0))), (q44, .inl (cI, 11, .inl (fun _ => 0)))] := hD
  refine lv_aload_n hx hb dX11_init_49 rfl (lv_at hl 0 rfl) ?_
  refine va_new (ci := 8) (fs := [.null, .null, .null, .null, .null, .null, .null, .null, .null, .null]) (C := RX7) (T := TX7) (N := 10) hx hb S.2.2.2.2 hin_RX7 tyX7 tyX7_ok hown (S.2.2.2.2 _ (wT_t1 128 rfl rfl)) (S.2.2.2.2 _ (wT_t1 129 rfl rfl)) (S.2.2.2.2 _ (wT_t1 7 rfl rfl)) hK.1 hP hD hS hA rfl (by decide +kernel) (Nat.le_of_ble_eq_true rfl) (Nat.le_of_ble_eq_true rfl) dX11_init_50 (fun q50 H hP hD hS => ?_)
  have hP : va_P D vwCl [(x, .inr (12, [.int 0, .int 0, .int 0, .int 0, .ref q5, .ref q17, .ref q28, .ref q44, .null, .null, .null, .null, .null, .null, .null, .null])), (q5, .inr (10, [.ref (u_2 0), .ref (u_2 1), .ref (u_2 2), .ref (u_2 3), .ref (u_2 4), .int 0, .int 0, .int 0, .int 0])), ((u_2 0), .inl (cI, 0, .inl (fun _ => 0))), ((u_2 1), .inl (cI, 12, .inl (fun _ => 0))), ((u_2 2), .inl (cI, 12, .inl (fun _ => 0))), ((u_2 3), .inl (cI, 12, .inl (fun _ => 0))), ((u_2 4), .inl (cI, 32, .inl (fun _ => 0))), (q17, .inr (9, [.ref u_5, .int 0])), (u_5, .inl (cI, 200, .inl (fun _ => 0))), (q28, .inr (6, [.ref (u_8 6), .ref (u_8 5), .int 0, .int 0, .int 0, .int 0])), ((u_8 6), .inl (cI, 0, .inl (fun _ => 0))), ((u_8 5), .inr (10, [.ref (u_8 0), .ref (u_8 1), .ref (u_8 2), .ref (u_8 3), .ref (u_8 4), .int 0, .int 0, .int 0, .int 0])), ((u_8 0), .inl (cI, 0, .inl (fun _ => 0))), ((u_8 1), .inl (cI, 12, .inl (fun _ => 0))), ((u_8 2), .inl (cI, 12, .inl (fun _ => 0))), ((u_8 3), .inl (cI, 12, .inl (fun _ => 0))), ((u_8 4), .inl (cI, 32, .inl (fun _ => 0))), (q44, .inl (cI, 11, .inl (fun _ => 0))), (q50, .inr (8, [.null, .null, .null, .null, .null, .null, .null, .null, .null, .null]))] H := hP
  have hD : va_D A [(x, .inr (12, [.int 0, .int 0, .int 0, .int 0, .ref q5, .ref q17, .ref q28, .ref q44, .null, .null, .null, .null, .null, .null, .null, .null])), (q5, .inr (10, [.ref (u_2 0), .ref (u_2 1), .ref (u_2 2), .ref (u_2 3), .ref (u_2 4), .int 0, .int 0, .int 0, .int 0])), ((u_2 0), .inl (cI, 0, .inl (fun _ => 0))), ((u_2 1), .inl (cI, 12, .inl (fun _ => 0))), ((u_2 2), .inl (cI, 12, .inl (fun _ => 0))), ((u_2 3), .inl (cI, 12, .inl (fun _ => 0))), ((u_2 4), .inl (cI, 32, .inl (fun _ => 0))), (q17, .inr (9, [.ref u_5, .int 0])), (u_5, .inl (cI, 200, .inl (fun _ => 0))), (q28, .inr (6, [.ref (u_8 6), .ref (u_8 5), .int 0, .int 0, .int 0, .int 0])), ((u_8 6), .inl (cI, 0, .inl (fun _ => 0))), ((u_8 5), .inr (10, [.ref (u_8 0), .ref (u_8 1), .ref (u_8 2), .ref (u_8 3), .ref (u_8 4), .int 0, .int 0, .int 0, .int 0])), ((u_8 0), .inl (cI, 0, .inl (fun _ => 0))), ((u_8 1), .inl (cI, 12, .inl (fun _ => 0))), ((u_8 2), .inl (cI, 12, .inl (fun _ => 0))), ((u_8 3), .inl (cI, 12, .inl (fun _ => 0))), ((u_8 4), .inl (cI, 32, .inl (fun _ => 0))), (q44, .inl (cI, 11, .inl (fun _ => 0))), (q50, .inr (8, [.null, .null, .null, .null, .null, .null, .null, .null, .null, .null]))] := hD
  refine lv_dup hx hb dX11_init_53 rfl ?_
  have hFc := va_free (wc := [(q50, .inr (8, [.null, .null, .null, .null, .null, .null, .null, .null, .null, .null]))]) hD hS hA [18] rfl
  refine va_callv (runI_w (As := []) (rest := [.ref q50, .ref x]) S (q_c_Tables l D cI cB cZ q50 H.size) kI_RX11_46 hK hP hD [18] rfl rfl (by decide) ⟨Nat.le_of_ble_eq_true rfl, Nat.le_of_ble_eq_true rfl⟩ ⟨Nat.le_of_ble_eq_true rfl, Nat.le_of_ble_eq_true rfl⟩ rfl hl.1 rfl (Nat.le_of_ble_eq_true rfl) dX11_init_54) hS (fun q _ h => hFc q h) hFc (fun u_13 t H1 locs ht hvm h_14 hB hz1 hk1 hS => ?_)
  obtain ⟨hP1, hD1⟩ := hB
  rw [ht] at hP1
  obtain ⟨hP, hD⟩ := va_join (wr := [(x, .inr (12, [.int 0, .int 0, .int 0, .int 0, .ref q5, .ref q17, .ref q28, .ref q44, .null, .null, .null, .null, .null, .null, .null, .null])), (q5, .inr (10, [.ref (u_2 0), .ref (u_2 1), .ref (u_2 2), .ref (u_2 3), .ref (u_2 4), .int 0, .int 0, .int 0, .int 0])), ((u_2 0), .inl (cI, 0, .inl (fun _ => 0))), ((u_2 1), .inl (cI, 12, .inl (fun _ => 0))), ((u_2 2), .inl (cI, 12, .inl (fun _ => 0))), ((u_2 3), .inl (cI, 12, .inl (fun _ => 0))), ((u_2 4), .inl (cI, 32, .inl (fun _ => 0))), (q17, .inr (9, [.ref u_5, .int 0])), (u_5, .inl (cI, 200, .inl (fun _ => 0))), (q28, .inr (6, [.ref (u_8 6), .ref (u_8 5), .int 0, .int 0, .int 0, .int 0])), ((u_8 6), .inl (cI, 0, .inl (fun _ => 0))), ((u_8 5), .inr (10, [.ref (u_8 0), .ref (u_8 1), .ref (u_8 2), .ref (u_8 3), .ref (u_8 4), .int 0, .int 0, .int 0, .int 0])), ((u_8 0), .inl (cI, 0, .inl (fun _ => 0))), ((u_8 1), .inl (cI, 12, .inl (fun _ => 0))), ((u_8 2), .inl (cI, 12, .inl (fun _ => 0))), ((u_8 3), .inl (cI, 12, .inl (fun _ => 0))), ((u_8 4), .inl (cI, 32, .inl (fun _ => 0))), (q44, .inl (cI, 11, .inl (fun _ => 0)))]) (w1 := [(q50, .inr (8, [.ref (u_13 0), .ref (u_13 1), .ref (u_13 2), .ref (u_13 3), .ref (u_13 4), .ref (u_13 5), .ref (u_13 6), .ref (u_13 7), .ref (u_13 8), .ref (u_13 9)])), ((u_13 0), .inl (cI, 58, .inl (fun _ => 0))), ((u_13 1), .inl (cI, 24, .inl (fun _ => 0))), ((u_13 2), .inl (cI, 400, .inl (dgF 400))), ((u_13 3), .inl (cI, 400, .inl (fun _ => 0))), ((u_13 4), .inl (cI, 10, .inl (fun _ => 0))), ((u_13 5), .inl (cI, 10, .inl (fun _ => 0))), ((u_13 6), .inl (cI, 232, .inl (fun _ => 0))), ((u_13 7), .inl (cI, 3, .inl (fun _ => 0))), ((u_13 8), .inl (cI, 1200, .inl (fun _ => 0))), ((u_13 9), .inl (cI, 400, .inl (fun _ => 0)))]) hP hD [18] [0, 1, 2, 3, 4, 5, 6, 7, 8, 9, 10, 11, 12, 13, 14, 15, 16, 17] rfl rfl (by decide) (by decide) hk1 hFc hP1 hD1
  generalize H1 = H at hP hS ⊢
  have hP : va_P D vwCl [(x, .inr (12, [.int 0, .int 0, .int 0, .int 0, .ref q5, .ref q17, .ref q28, .ref q44, .null, .null, .null, .null, .null, .null, .null, .null])), (q5, .inr (10, [.ref (u_2 0), .ref (u_2 1), .ref (u_2 2), .ref (u_2 3), .ref (u_2 4), .int 0, .int 0, .int 0, .int 0])), ((u_2 0), .inl (cI, 0, .inl (fun _ => 0))), ((u_2 1), .inl (cI, 12, .inl (fun _ => 0))), ((u_2 2), .inl (cI, 12, .inl (fun _ => 0))), ((u_2 3), .inl (cI, 12, .inl (fun _ => 0))), ((u_2 4), .inl (cI, 32, .inl (fun _ => 0))), (q17, .inr (9, [.ref u_5, .int 0])), (u_5, .inl (cI, 200, .inl (fun _ => 0))), (q28, .inr (6, [.ref (u_8 6), .ref (u_8 5), .int 0, .int 0, .int 0, .int 0])), ((u_8 6), .inl (cI, 0, .inl (fun _ => 0))), ((u_8 5), .inr (10, [.ref (u_8 0), .ref (u_8 1), .ref (u_8 2), .ref (u_8 3), .ref (u_8 4), .int 0, .int 0, .int 0, .int 0])), ((u_8 0), .inl (cI, 0, .inl (fun _ => 0))), ((u_8 1), .inl (cI, 12, .inl (fun _ => 0))), ((u_8 2), .inl (cI, 12, .inl (fun _ => 0))), ((u_8 3), .inl (cI, 12, .inl (fun _ => 0))), ((u_8 4), .inl (cI, 32, .inl (fun _ => 0))), (q44, .inl (cI, 11, .inl (fun _ => 0))), (q50, .inr (8, [.ref (u_13 0), .ref (u_13 1), .ref (u_13 2), .ref (u_13 3), .ref (u_13 4), .ref (u_13 5), .ref (u_13 6), .ref (u_13 7), .ref (u_13 8), .ref (u_13 9)])), ((u_13 0), .inl (cI, 58, .inl (fun _ => 0))), ((u_13 1), .inl (cI, 24, .inl (fun _ => 0))), ((u_13 2), .inl (cI, 400, .inl (dgF 400))), ((u_13 3), .inl (cI, 400, .inl (fun _ => 0))), ((u_13 4), .inl (cI, 10, .inl (fun _ => 0))), ((u_13 5), .inl (cI, 10, .inl (fun _ => 0))), ((u_13 6), .inl (cI, 232, .inl (fun _ => 0))), ((u_13 7), .inl (cI, 3, .inl (fun _ => 0))), ((u_13 8), .inl (cI, 1200, .inl (fun _ => 0))), ((u_13 9), .inl (cI, 400, .inl (fun _ => 0)))] H := hP
  have hD : va_D A [(x, .inr (12, [.int 0, .int 0, .int 0, .int 0, .ref q5, .ref q17, .ref q28, .ref q44, .null, .null, .null, .null, .null, .null, .null, .null])), (q5, .inr (10, [.ref (u_2 0), .ref (u_2 1), .ref (u_2 2), .ref (u_2 3), .ref (u_2 4), .int 0, .int 0, .int 0, .int 0])), ((u_2 0), .inl (cI, 0, .inl (fun _ => 0))), ((u_2 1), .inl (cI, 12, .inl (fun _ => 0))), ((u_2 2), .inl (cI, 12, .inl (fun _ => 0))), ((u_2 3), .inl (cI, 12, .inl (fun _ => 0))), ((u_2 4), .inl (cI, 32, .inl (fun _ => 0))), (q17, .inr (9, [.ref u_5, .int 0])), (u_5, .inl (cI, 200, .inl (fun _ => 0))), (q28, .inr (6, [.ref (u_8 6), .ref (u_8 5), .int 0, .int 0, .int 0, .int 0])), ((u_8 6), .inl (cI, 0, .inl (fun _ => 0))), ((u_8 5), .inr (10, [.ref (u_8 0), .ref (u_8 1), .ref (u_8 2), .ref (u_8 3), .ref (u_8 4), .int 0, .int 0, .int 0, .int 0])), ((u_8 0), .inl (cI, 0, .inl (fun _ => 0))), ((u_8 1), .inl (cI, 12, .inl (fun _ => 0))), ((u_8 2), .inl (cI, 12, .inl (fun _ => 0))), ((u_8 3), .inl (cI, 12, .inl (fun _ => 0))), ((u_8 4), .inl (cI, 32, .inl (fun _ => 0))), (q44, .inl (cI, 11, .inl (fun _ => 0))), (q50, .inr (8, [.ref (u_13 0), .ref (u_13 1), .ref (u_13 2), .ref (u_13 3), .ref (u_13 4), .ref (u_13 5), .ref (u_13 6), .ref (u_13 7), .ref (u_13 8), .ref (u_13 9)])), ((u_13 0), .inl (cI, 58, .inl (fun _ => 0))), ((u_13 1), .inl (cI, 24, .inl (fun _ => 0))), ((u_13 2), .inl (cI, 400, .inl (dgF 400))), ((u_13 3), .inl (cI, 400, .inl (fun _ => 0))), ((u_13 4), .inl (cI, 10, .inl (fun _ => 0))), ((u_13 5), .inl (cI, 10, .inl (fun _ => 0))), ((u_13 6), .inl (cI, 232, .inl (fun _ => 0))), ((u_13 7), .inl (cI, 3, .inl (fun _ => 0))), ((u_13 8), .inl (cI, 1200, .inl (fun _ => 0))), ((u_13 9), .inl (cI, 400, .inl (fun _ => 0)))] := hD
  refine pf_RX11_47 S hin hK hP hD hS 0 rfl (v := .ref q50) (Nat.le_of_ble_eq_true rfl) rfl rfl dX11_init_57 (fun H locs hP hD hS => ?_)
  have hP : va_P D vwCl [(x, .inr (12, [.int 0, .int 0, .int 0, .int 0, .ref q5, .ref q17, .ref q28, .ref q44, .ref q50, .null, .null, .null, .null, .null, .null, .null])), (q5, .inr (10, [.ref (u_2 0), .ref (u_2 1), .ref (u_2 2), .ref (u_2 3), .ref (u_2 4), .int 0, .int 0, .int 0, .int 0])), ((u_2 0), .inl (cI, 0, .inl (fun _ => 0))), ((u_2 1), .inl (cI, 12, .inl (fun _ => 0))), ((u_2 2), .inl (cI, 12, .inl (fun _ => 0))), ((u_2 3), .inl (cI, 12, .inl (fun _ => 0))), ((u_2 4), .inl (cI, 32, .inl (fun _ => 0))), (q17, .inr (9, [.ref u_5, .int 0])), (u_5, .inl (cI, 200, .inl (fun _ => 0))), (q28, .inr (6, [.ref (u_8 6), .ref (u_8 5), .int 0, .int 0, .int 0, .int 0])), ((u_8 6), .inl (cI, 0, .inl (fun _ => 0))), ((u_8 5), .inr (10, [.ref (u_8 0), .ref (u_8 1), .ref (u_8 2), .ref (u_8 3), .ref (u_8 4), .int 0, .int 0, .int 0, .int 0])), ((u_8 0), .inl (cI, 0, .inl (fun _ => 0))), ((u_8 1), .inl (cI, 12, .inl (fun _ => 0))), ((u_8 2), .inl (cI, 12, .inl (fun _ => 0))), ((u_8 3), .inl (cI, 12, .inl (fun _ => 0))), ((u_8 4), .inl (cI, 32, .inl (fun _ => 0))), (q44, .inl (cI, 11, .inl (fun _ => 0))), (q50, .inr (8, [.ref (u_13 0), .ref (u_13 1), .ref (u_13 2), .ref (u_13 3), .ref (u_13 4), .ref (u_13 5), .ref (u_13 6), .ref (u_13 7), .ref (u_13 8), .ref (u_13 9)])), ((u_13 0), .inl (cI, 58, .inl (fun _ => 0))), ((u_13 1), .inl (cI, 24, .inl (fun _ => 0))), ((u_13 2), .inl (cI, 400, .inl (dgF 400))), ((u_13 3), .inl (cI, 400, .inl (fun _ => 0))), ((u_13 4), .inl (cI, 10, .inl (fun _ => 0))), ((u_13 5), .inl (cI, 10, .inl (fun _ => 0))), ((u_13 6), .inl (cI, 232, .inl (fun _ => 0))), ((u_13 7), .inl (cI, 3, .inl (fun _ => 0))), ((u_13 8), .inl (cI, 1200, .inl (fun _ => 0))), ((u_13 9), .inl (cI, 400, .inl (fun _ => 0)))] H := hP
  have hD : va_D A [(x, .inr (12, [.int 0, .int 0, .int 0, .int 0, .ref q5, .ref q17, .ref q28, .ref q44, .ref q50, .null, .null, .null, .null, .null, .null, .null])), (q5, .inr (10, [.ref (u_2 0), .ref (u_2 1), .ref (u_2 2), .ref (u_2 3), .ref (u_2 4), .int 0, .int 0, .int 0, .int 0])), ((u_2 0), .inl (cI, 0, .inl (fun _ => 0))), ((u_2 1), .inl (cI, 12, .inl (fun _ => 0))), ((u_2 2), .inl (cI, 12, .inl (fun _ => 0))), ((u_2 3), .inl (cI, 12, .inl (fun _ => 0))), ((u_2 4), .inl (cI, 32, .inl (fun _ => 0))), (q17, .inr (9, [.ref u_5, .int 0])), (u_5, .inl (cI, 200, .inl (fun _ => 0))), (q28, .inr (6, [.ref (u_8 6), .ref (u_8 5), .int 0, .int 0, .int 0, .int 0])), ((u_8 6), .inl (cI, 0, .inl (fun _ => 0))), ((u_8 5), .inr (10, [.ref (u_8 0), .ref (u_8 1), .ref (u_8 2), .ref (u_8 3), .ref (u_8 4), .int 0, .int 0, .int 0, .int 0])), ((u_8 0), .inl (cI, 0, .inl (fun _ => 0))), ((u_8 1), .inl (cI, 12, .inl (fun _ => 0))), ((u_8 2), .inl (cI, 12, .inl (fun _ => 0))), ((u_8 3), .inl (cI, 12, .inl (fun _ => 0))), ((u_8 4), .inl (cI, 32, .inl (fun _ => 0))), (q44, .inl (cI, 11, .inl (fun _ => 0))), (q50, .inr (8, [.ref (u_13 0), .ref (u_13 1), .ref (u_13 2), .ref (u_13 3), .ref (u_13 4), .ref (u_13 5), .ref (u_13 6), .ref (u_13 7), .ref (u_13 8), .ref (u_13 9)])), ((u_13 0), .inl (cI, 58, .inl (fun _ => 0))), ((u_13 1), .inl (cI, 24, .inl (fun _ => 0))), ((u_13 2), .inl (cI, 400, .inl (dgF 400))), ((u_13 3), .inl (cI, 400, .inl (fun _ => 0))), ((u_13 4), .inl (cI, 10, .inl (fun _ => 0))), ((u_13 5), .inl (cI, 10, .inl (fun _ => 0))), ((u_13 6), .inl (cI, 232, .inl (fun _ => 0))), ((u_13 7), .inl (cI, 3, .inl (fun _ => 0))), ((u_13 8), .inl (cI, 1200, .inl (fun _ => 0))), ((u_13 9), .inl (cI, 400, .inl (fun _ => 0)))] := hD
  refine lv_aload_n hx hb dX11_init_60 rfl (lv_at hl 0 rfl) ?_
  refine va_new (ci := 11) (fs := [.null, .null, .null, .null, .null, .null, .int 0]) (C := RX10) (T := TX10) (N := 7) hx hb S.2.2.2.2 hin_RX10 tyX10 tyX10_ok hown (S.2.2.2.2 _ (wT_t1 179 rfl rfl)) (S.2.2.2.2 _ (wT_t1 180 rfl rfl)) (S.2.2.2.2 _ (wT_t1 9 rfl rfl)) hK.1 hP hD hS hA rfl (by decide +kernel) (Nat.le_of_ble_eq_true rfl) (Nat.le_of_ble_eq_true rfl) dX11_init_61 (fun q61 H hP hD hS => ?_)
  have hP : va_P D vwCl [(x, .inr (12, [.int 0, .int 0, .int 0, .int 0, .ref q5, .ref q17, .ref q28, .ref q44, .ref q50, .null, .null, .null, .null, .null, .null, .null])), (q5, .inr (10, [.ref (u_2 0), .ref (u_2 1), .ref (u_2 2), .ref (u_2 3), .ref (u_2 4), .int 0, .int 0, .int 0, .int 0])), ((u_2 0), .inl (cI, 0, .inl (fun _ => 0))), ((u_2 1), .inl (cI, 12, .inl (fun _ => 0))), ((u_2 2), .inl (cI, 12, .inl (fun _ => 0))), ((u_2 3), .inl (cI, 12, .inl (fun _ => 0))), ((u_2 4), .inl (cI, 32, .inl (fun _ => 0))), (q17, .inr (9, [.ref u_5, .int 0])), (u_5, .inl (cI, 200, .inl (fun _ => 0))), (q28, .inr (6, [.ref (u_8 6), .ref (u_8 5), .int 0, .int 0, .int 0, .int 0])), ((u_8 6), .inl (cI, 0, .inl (fun _ => 0))), ((u_8 5), .inr (10, [.ref (u_8 0), .ref (u_8 1), .ref (u_8 2), .ref (u_8 3), .ref (u_8 4), .int 0, .int 0, .int 0, .int 0])), ((u_8 0), .inl (cI, 0, .inl (fun _ => 0))), ((u_8 1), .inl (cI, 12, .inl (fun _ => 0))), ((u_8 2), .inl (cI, 12, .inl (fun _ => 0))), ((u_8 3), .inl (cI, 12, .inl (fun _ => 0))), ((u_8 4), .inl (cI, 32, .inl (fun _ => 0))), (q44, .inl (cI, 11, .inl (fun _ => 0))), (q50, .inr (8, [.ref (u_13 0), .ref (u_13 1), .ref (u_13 2), .ref (u_13 3), .ref (u_13 4), .ref (u_13 5), .ref (u_13 6), .ref (u_13 7), .ref (u_13 8), .ref (u_13 9)])), ((u_13 0), .inl (cI, 58, .inl (fun _ => 0))), ((u_13 1), .inl (cI, 24, .inl (fun _ => 0))), ((u_13 2), .inl (cI, 400, .inl (dgF 400))), ((u_13 3), .inl (cI, 400, .inl (fun _ => 0))), ((u_13 4), .inl (cI, 10, .inl (fun _ => 0))), ((u_13 5), .inl (cI, 10, .inl (fun _ => 0))), ((u_13 6), .inl (cI, 232, .inl (fun _ => 0))), ((u_13 7), .inl (cI, 3, .inl (fun _ => 0))), ((u_13 8), .inl (cI, 1200, .inl (fun _ => 0))), ((u_13 9), .inl (cI, 400, .inl (fun _ => 0))), (q61, .inr (11, [.null, .null, .null, .null, .null, .null, .int 0]))] H := hP
  have hD : va_D A [(x, .inr (12, [.int 0, .int 0, .int 0, .int 0, .ref q5, .ref q17, .ref q28, .ref q44, .ref q50, .null, .null, .null, .null, .null, .null, .null])), (q5, .inr (10, [.ref (u_2 0), .ref (u_2 1), .ref (u_2 2), .ref (u_2 3), .ref (u_2 4), .int 0, .int 0, .int 0, .int 0])), ((u_2 0), .inl (cI, 0, .inl (fun _ => 0))), ((u_2 1), .inl (cI, 12, .inl (fun _ => 0))), ((u_2 2), .inl (cI, 12, .inl (fun _ => 0))), ((u_2 3), .inl (cI, 12, .inl (fun _ => 0))), ((u_2 4), .inl (cI, 32, .inl (fun _ => 0))), (q17, .inr (9, [.ref u_5, .int 0])), (u_5, .inl (cI, 200, .inl (fun _ => 0))), (q28, .inr (6, [.ref (u_8 6), .ref (u_8 5), .int 0, .int 0, .int 0, .int 0])), ((u_8 6), .inl (cI, 0, .inl (fun _ => 0))), ((u_8 5), .inr (10, [.ref (u_8 0), .ref (u_8 1), .ref (u_8 2), .ref (u_8 3), .ref (u_8 4), .int 0, .int 0, .int 0, .int 0])), ((u_8 0), .inl (cI, 0, .inl (fun _ => 0))), ((u_8 1), .inl (cI, 12, .inl (fun _ => 0))), ((u_8 2), .inl (cI, 12, .inl (fun _ => 0))), ((u_8 3), .inl (cI, 12, .inl (fun _ => 0))), ((u_8 4), .inl (cI, 32, .inl (fun _ => 0))), (q44, .inl (cI, 11, .inl (fun _ => 0))), (q50, .inr (8, [.ref (u_13 0), .ref (u_13 1), .ref (u_13 2), .ref (u_13 3), .ref (u_13 4), .ref (u_13 5), .ref (u_13 6), .ref (u_13 7), .ref (u_13 8), .ref (u_13 9)])), ((u_13 0), .inl (cI, 58, .inl (fun _ => 0))), ((u_13 1), .inl (cI, 24, .inl (fun _ => 0))), ((u_13 2), .inl (cI, 400, .inl (dgF 400))), ((u_13 3), .inl (cI, 400, .inl (fun _ => 0))), ((u_13 4), .inl (cI, 10, .inl (fun _ => 0))), ((u_13 5), .inl (cI, 10, .inl (fun _ => 0))), ((u_13 6), .inl (cI, 232, .inl (fun _ => 0))), ((u_13 7), .inl (cI, 3, .inl (fun _ => 0))), ((u_13 8), .inl (cI, 1200, .inl (fun _ => 0))), ((u_13 9), .inl (cI, 400, .inl (fun _ => 0))), (q61, .inr (11, [.null, .null, .null, .null, .null, .null, .int 0]))] := hD
  refine lv_dup hx hb dX11_init_64 rfl ?_
  have hFc := va_free (wc := [(q61, .inr (11, [.null, .null, .null, .null, .null, .null, .int 0]))]) hD hS hA [29] rfl
  refine va_callv (runIN_w (As := []) (rest := [.ref q61, .ref x]) S (q_c_Ways l D cI cB cZ q61 H.size) hK.2.2.1 ⟨⟨wT_t1 182 rfl rfl, wT_t1 9 rfl rfl, wT_t1 183 rfl rfl⟩, rfl, by decide, by decide, by decide +kernel⟩ hK hP hD [29] rfl rfl (by decide) ⟨Nat.le_of_ble_eq_true rfl, Nat.le_of_ble_eq_true rfl⟩ ⟨Nat.le_of_ble_eq_true rfl, Nat.le_of_ble_eq_true rfl⟩ rfl hl.1 rfl (Nat.le_of_ble_eq_true rfl) dX11_init_65) hS (fun q _ h => hFc q h) hFc (fun u_16 t H1 locs ht hvm h_17 hB hz1 hk1 hS => ?_)
  obtain ⟨hP1, hD1⟩ := hB
  rw [ht] at hP1
  obtain ⟨hP, hD⟩ := va_join (wr := [(x, .inr (12, [.int 0, .int 0, .int 0, .int 0, .ref q5, .ref q17, .ref q28, .ref q44, .ref q50, .null, .null, .null, .null, .null, .null, .null])), (q5, .inr (10, [.ref (u_2 0), .ref (u_2 1), .ref (u_2 2), .ref (u_2 3), .ref (u_2 4), .int 0, .int 0, .int 0, .int 0])), ((u_2 0), .inl (cI, 0, .inl (fun _ => 0))), ((u_2 1), .inl (cI, 12, .inl (fun _ => 0))), ((u_2 2), .inl (cI, 12, .inl (fun _ => 0))), ((u_2 3), .inl (cI, 12, .inl (fun _ => 0))), ((u_2 4), .inl (cI, 32, .inl (fun _ => 0))), (q17, .inr (9, [.ref u_5, .int 0])), (u_5, .inl (cI, 200, .inl (fun _ => 0))), (q28, .inr (6, [.ref (u_8 6), .ref (u_8 5), .int 0, .int 0, .int 0, .int 0])), ((u_8 6), .inl (cI, 0, .inl (fun _ => 0))), ((u_8 5), .inr (10, [.ref (u_8 0), .ref (u_8 1), .ref (u_8 2), .ref (u_8 3), .ref (u_8 4), .int 0, .int 0, .int 0, .int 0])), ((u_8 0), .inl (cI, 0, .inl (fun _ => 0))), ((u_8 1), .inl (cI, 12, .inl (fun _ => 0))), ((u_8 2), .inl (cI, 12, .inl (fun _ => 0))), ((u_8 3), .inl (cI, 12, .inl (fun _ => 0))), ((u_8 4), .inl (cI, 32, .inl (fun _ => 0))), (q44, .inl (cI, 11, .inl (fun _ => 0))), (q50, .inr (8, [.ref (u_13 0), .ref (u_13 1), .ref (u_13 2), .ref (u_13 3), .ref (u_13 4), .ref (u_13 5), .ref (u_13 6), .ref (u_13 7), .ref (u_13 8), .ref (u_13 9)])), ((u_13 0), .inl (cI, 58, .inl (fun _ => 0))), ((u_13 1), .inl (cI, 24, .inl (fun _ => 0))), ((u_13 2), .inl (cI, 400, .inl (dgF 400))), ((u_13 3), .inl (cI, 400, .inl (fun _ => 0))), ((u_13 4), .inl (cI, 10, .inl (fun _ => 0))), ((u_13 5), .inl (cI, 10, .inl (fun _ => 0))), ((u_13 6), .inl (cI, 232, .inl (fun _ => 0))), ((u_13 7), .inl (cI, 3, .inl (fun _ => 0))), ((u_13 8), .inl (cI, 1200, .inl (fun _ => 0))), ((u_13 9), .inl (cI, 400, .inl (fun _ => 0)))]) (w1 := [(q61, .inr (11, [.ref (u_16 0), .ref (u_16 1), .ref (u_16 2), .ref (u_16 3), .ref (u_16 4), .ref (u_16 5), .int 0])), ((u_16 0), .inl (cI, 8, .inl (fun _ => 0))), ((u_16 1), .inl (cI, 8, .inl (fun _ => 0))), ((u_16 2), .inl (cI, 8, .inl (fun _ => 0))), ((u_16 3), .inl (cI, 8, .inl (fun _ => 0))), ((u_16 4), .inl (cI, 2048, .inl (fun _ => 0))), ((u_16 5), .inl (cI, 256, .inl (fun _ => 0)))]) hP hD [29] [0, 1, 2, 3, 4, 5, 6, 7, 8, 9, 10, 11, 12, 13, 14, 15, 16, 17, 18, 19, 20, 21, 22, 23, 24, 25, 26, 27, 28] rfl rfl (by decide) (by decide) hk1 hFc hP1 hD1
  generalize H1 = H at hP hS ⊢
  have hP : va_P D vwCl [(x, .inr (12, [.int 0, .int 0, .int 0, .int 0, .ref q5, .ref q17, .ref q28, .ref q44, .ref q50, .null, .null, .null, .null, .null, .null, .null])), (q5, .inr (10, [.ref (u_2 0), .ref (u_2 1), .ref (u_2 2), .ref (u_2 3), .ref (u_2 4), .int 0, .int 0, .int 0, .int 0])), ((u_2 0), .inl (cI, 0, .inl (fun _ => 0))), ((u_2 1), .inl (cI, 12, .inl (fun _ => 0))), ((u_2 2), .inl (cI, 12, .inl (fun _ => 0))), ((u_2 3), .inl (cI, 12, .inl (fun _ => 0))), ((u_2 4), .inl (cI, 32, .inl (fun _ => 0))), (q17, .inr (9, [.ref u_5, .int 0])), (u_5, .inl (cI, 200, .inl (fun _ => 0))), (q28, .inr (6, [.ref (u_8 6), .ref (u_8 5), .int 0, .int 0, .int 0, .int 0])), ((u_8 6), .inl (cI, 0, .inl (fun _ => 0))), ((u_8 5), .inr (10, [.ref (u_8 0), .ref (u_8 1), .ref (u_8 2), .ref (u_8 3), .ref (u_8 4), .int 0, .int 0, .int 0, .int 0])), ((u_8 0), .inl (cI, 0, .inl (fun _ => 0))), ((u_8 1), .inl (cI, 12, .inl (fun _ => 0))), ((u_8 2), .inl (cI, 12, .inl (fun _ => 0))), ((u_8 3), .inl (cI, 12, .inl (fun _ => 0))), ((u_8 4), .inl (cI, 32, .inl (fun _ => 0))), (q44, .inl (cI, 11, .inl (fun _ => 0))), (q50, .inr (8, [.ref (u_13 0), .ref (u_13 1), .ref (u_13 2), .ref (u_13 3), .ref (u_13 4), .ref (u_13 5), .ref (u_13 6), .ref (u_13 7), .ref (u_13 8), .ref (u_13 9)])), ((u_13 0), .inl (cI, 58, .inl (fun _ => 0))), ((u_13 1), .inl (cI, 24, .inl (fun _ => 0))), ((u_13 2), .inl (cI, 400, .inl (dgF 400))), ((u_13 3), .inl (cI, 400, .inl (fun _ => 0))), ((u_13 4), .inl (cI, 10, .inl (fun _ => 0))), ((u_13 5), .inl (cI, 10, .inl (fun _ => 0))), ((u_13 6), .inl (cI, 232, .inl (fun _ => 0))), ((u_13 7), .inl (cI, 3, .inl (fun _ => 0))), ((u_13 8), .inl (cI, 1200, .inl (fun _ => 0))), ((u_13 9), .inl (cI, 400, .inl (fun _ => 0))), (q61, .inr (11, [.ref (u_16 0), .ref (u_16 1), .ref (u_16 2), .ref (u_16 3), .ref (u_16 4), .ref (u_16 5), .int 0])), ((u_16 0), .inl (cI, 8, .inl (fun _ => 0))), ((u_16 1), .inl (cI, 8, .inl (fun _ => 0))), ((u_16 2), .inl (cI, 8, .inl (fun _ => 0))), ((u_16 3), .inl (cI, 8, .inl (fun _ => 0))), ((u_16 4), .inl (cI, 2048, .inl (fun _ => 0))), ((u_16 5), .inl (cI, 256, .inl (fun _ => 0)))] H := hP
  have hD : va_D A [(x, .inr (12, [.int 0, .int 0, .int 0, .int 0, .ref q5, .ref q17, .ref q28, .ref q44, .ref q50, .null, .null, .null, .null, .null, .null, .null])), (q5, .inr (10, [.ref (u_2 0), .ref (u_2 1), .ref (u_2 2), .ref (u_2 3), .ref (u_2 4), .int 0, .int 0, .int 0, .int 0])), ((u_2 0), .inl (cI, 0, .inl (fun _ => 0))), ((u_2 1), .inl (cI, 12, .inl (fun _ => 0))), ((u_2 2), .inl (cI, 12, .inl (fun _ => 0))), ((u_2 3), .inl (cI, 12, .inl (fun _ => 0))), ((u_2 4), .inl (cI, 32, .inl (fun _ => 0))), (q17, .inr (9, [.ref u_5, .int 0])), (u_5, .inl (cI, 200, .inl (fun _ => 0))), (q28, .inr (6, [.ref (u_8 6), .ref (u_8 5), .int 0, .int 0, .int 0, .int 0])), ((u_8 6), .inl (cI, 0, .inl (fun _ => 0))), ((u_8 5), .inr (10, [.ref (u_8 0), .ref (u_8 1), .ref (u_8 2), .ref (u_8 3), .ref (u_8 4), .int 0, .int 0, .int 0, .int 0])), ((u_8 0), .inl (cI, 0, .inl (fun _ => 0))), ((u_8 1), .inl (cI, 12, .inl (fun _ => 0))), ((u_8 2), .inl (cI, 12, .inl (fun _ => 0))), ((u_8 3), .inl (cI, 12, .inl (fun _ => 0))), ((u_8 4), .inl (cI, 32, .inl (fun _ => 0))), (q44, .inl (cI, 11, .inl (fun _ => 0))), (q50, .inr (8, [.ref (u_13 0), .ref (u_13 1), .ref (u_13 2), .ref (u_13 3), .ref (u_13 4), .ref (u_13 5), .ref (u_13 6), .ref (u_13 7), .ref (u_13 8), .ref (u_13 9)])), ((u_13 0), .inl (cI, 58, .inl (fun _ => 0))), ((u_13 1), .inl (cI, 24, .inl (fun _ => 0))), ((u_13 2), .inl (cI, 400, .inl (dgF 400))), ((u_13 3), .inl (cI, 400, .inl (fun _ => 0))), ((u_13 4), .inl (cI, 10, .inl (fun _ => 0))), ((u_13 5), .inl (cI, 10, .inl (fun _ => 0))), ((u_13 6), .inl (cI, 232, .inl (fun _ => 0))), ((u_13 7), .inl (cI, 3, .inl (fun _ => 0))), ((u_13 8), .inl (cI, 1200, .inl (fun _ => 0))), ((u_13 9), .inl (cI, 400, .inl (fun _ => 0))), (q61, .inr (11, [.ref (u_16 0), .ref (u_16 1), .ref (u_16 2), .ref (u_16 3), .ref (u_16 4), .ref (u_16 5), .int 0])), ((u_16 0), .inl (cI, 8, .inl (fun _ => 0))), ((u_16 1), .inl (cI, 8, .inl (fun _ => 0))), ((u_16 2), .inl (cI, 8, .inl (fun _ => 0))), ((u_16 3), .inl (cI, 8, .inl (fun _ => 0))), ((u_16 4), .inl (cI, 2048, .inl (fun _ => 0))), ((u_16 5), .inl (cI, 256, .inl (fun _ => 0)))] := hD
  refine pf_RX11_54 S hin hK hP hD hS 0 rfl (v := .ref q61) (Nat.le_of_ble_eq_true rfl) rfl rfl dX11_init_68 (fun H locs hP hD hS => ?_)
  have hP : va_P D vwCl [(x, .inr (12, [.int 0, .int 0, .int 0, .int 0, .ref q5, .ref q17, .ref q28, .ref q44, .ref q50, .ref q61, .null, .null, .null, .null, .null, .null])), (q5, .inr (10, [.ref (u_2 0), .ref (u_2 1), .ref (u_2 2), .ref (u_2 3), .ref (u_2 4), .int 0, .int 0, .int 0, .int 0])), ((u_2 0), .inl (cI, 0, .inl (fun _ => 0))), ((u_2 1), .inl (cI, 12, .inl (fun _ => 0))), ((u_2 2), .inl (cI, 12, .inl (fun _ => 0))), ((u_2 3), .inl (cI, 12, .inl (fun _ => 0))), ((u_2 4), .inl (cI, 32, .inl (fun _ => 0))), (q17, .inr (9, [.ref u_5, .int 0])), (u_5, .inl (cI, 200, .inl (fun _ => 0))), (q28, .inr (6, [.ref (u_8 6), .ref (u_8 5), .int 0, .int 0, .int 0, .int 0])), ((u_8 6), .inl (cI, 0, .inl (fun _ => 0))), ((u_8 5), .inr (10, [.ref (u_8 0), .ref (u_8 1), .ref (u_8 2), .ref (u_8 3), .ref (u_8 4), .int 0, .int 0, .int 0, .int 0])), ((u_8 0), .inl (cI, 0, .inl (fun _ => 0))), ((u_8 1), .inl (cI, 12, .inl (fun _ => 0))), ((u_8 2), .inl (cI, 12, .inl (fun _ => 0))), ((u_8 3), .inl (cI, 12, .inl (fun _ => 0))), ((u_8 4), .inl (cI, 32, .inl (fun _ => 0))), (q44, .inl (cI, 11, .inl (fun _ => 0))), (q50, .inr (8, [.ref (u_13 0), .ref (u_13 1), .ref (u_13 2), .ref (u_13 3), .ref (u_13 4), .ref (u_13 5), .ref (u_13 6), .ref (u_13 7), .ref (u_13 8), .ref (u_13 9)])), ((u_13 0), .inl (cI, 58, .inl (fun _ => 0))), ((u_13 1), .inl (cI, 24, .inl (fun _ => 0))), ((u_13 2), .inl (cI, 400, .inl (dgF 400))), ((u_13 3), .inl (cI, 400, .inl (fun _ => 0))), ((u_13 4), .inl (cI, 10, .inl (fun _ => 0))), ((u_13 5), .inl (cI, 10, .inl (fun _ => 0))), ((u_13 6), .inl (cI, 232, .inl (fun _ => 0))), ((u_13 7), .inl (cI, 3, .inl (fun _ => 0))), ((u_13 8), .inl (cI, 1200, .inl (fun _ => 0))), ((u_13 9), .inl (cI, 400, .inl (fun _ => 0))), (q61, .inr (11, [.ref (u_16 0), .ref (u_16 1), .ref (u_16 2), .ref (u_16 3), .ref (u_16 4), .ref (u_16 5), .int 0])), ((u_16 0), .inl (cI, 8, .inl (fun _ => 0))), ((u_16 1), .inl (cI, 8, .inl (fun _ => 0))), ((u_16 2), .inl (cI, 8, .inl (fun _ => 0))), ((u_16 3), .inl (cI, 8, .inl (fun _ => 0))), ((u_16 4), .inl (cI, 2048, .inl (fun _ => 0))), ((u_16 5), .inl (cI, 256, .inl (fun _ => 0)))] H := hP
  have hD : va_D A [(x, .inr (12, [.int 0, .int 0, .int 0, .int 0, .ref q5, .ref q17, .ref q28, .ref q44, .ref q50, .ref q61, .null, .null, .null, .null, .null, .null])), (q5, .inr (10, [.ref (u_2 0), .ref (u_2 1), .ref (u_2 2), .ref (u_2 3), .ref (u_2 4), .int 0, .int 0, .int 0, .int 0])), ((u_2 0), .inl (cI, 0, .inl (fun _ => 0))), ((u_2 1), .inl (cI, 12, .inl (fun _ => 0))), ((u_2 2), .inl (cI, 12, .inl (fun _ => 0))), ((u_2 3), .inl (cI, 12, .inl (fun _ => 0))), ((u_2 4), .inl (cI, 32, .inl (fun _ => 0))), (q17, .inr (9, [.ref u_5, .int 0])), (u_5, .inl (cI, 200, .inl (fun _ => 0))), (q28, .inr (6, [.ref (u_8 6), .ref (u_8 5), .int 0, .int 0, .int 0, .int 0])), ((u_8 6), .inl (cI, 0, .inl (fun _ => 0))), ((u_8 5), .inr (10, [.ref (u_8 0), .ref (u_8 1), .ref (u_8 2), .ref (u_8 3), .ref (u_8 4), .int 0, .int 0, .int 0, .int 0])), ((u_8 0), .inl (cI, 0, .inl (fun _ => 0))), ((u_8 1), .inl (cI, 12, .inl (fun _ => 0))), ((u_8 2), .inl (cI, 12, .inl (fun _ => 0))), ((u_8 3), .inl (cI, 12, .inl (fun _ => 0))), ((u_8 4), .inl (cI, 32, .inl (fun _ => 0))), (q44, .inl (cI, 11, .inl (fun _ => 0))), (q50, .inr (8, [.ref (u_13 0), .ref (u_13 1), .ref (u_13 2), .ref (u_13 3), .ref (u_13 4), .ref (u_13 5), .ref (u_13 6), .ref (u_13 7), .ref (u_13 8), .ref (u_13 9)])), ((u_13 0), .inl (cI, 58, .inl (fun _ => 0))), ((u_13 1), .inl (cI, 24, .inl (fun _ => 0))), ((u_13 2), .inl (cI, 400, .inl (dgF 400))), ((u_13 3), .inl (cI, 400, .inl (fun _ => 0))), ((u_13 4), .inl (cI, 10, .inl (fun _ => 0))), ((u_13 5), .inl (cI, 10, .inl (fun _ => 0))), ((u_13 6), .inl (cI, 232, .inl (fun _ => 0))), ((u_13 7), .inl (cI, 3, .inl (fun _ => 0))), ((u_13 8), .inl (cI, 1200, .inl (fun _ => 0))), ((u_13 9), .inl (cI, 400, .inl (fun _ => 0))), (q61, .inr (11, [.ref (u_16 0), .ref (u_16 1), .ref (u_16 2), .ref (u_16 3), .ref (u_16 4), .ref (u_16 5), .int 0])), ((u_16 0), .inl (cI, 8, .inl (fun _ => 0))), ((u_16 1), .inl (cI, 8, .inl (fun _ => 0))), ((u_16 2), .inl (cI, 8, .inl (fun _ => 0))), ((u_16 3), .inl (cI, 8, .inl (fun _ => 0))), ((u_16 4), .inl (cI, 2048, .inl (fun _ => 0))), ((u_16 5), .inl (cI, 256, .inl (fun _ => 0)))] := hD
  refine lv_aload_n hx hb dX11_init_71 rfl (lv_at hl 0 rfl) ?_
  refine va_new (ci := 0) (fs := [.int 0, .null, .int 0]) (C := RJx4a65c) (T := TJx4a65c) (N := 3) hx hb S.2.2.2.2 hin_RJx4a65c tyJx4a65c tyJx4a65c_ok hown (S.2.2.2.2 _ (wT_t1 210 rfl rfl)) (S.2.2.2.2 _ (wT_t1 211 rfl rfl)) (S.2.2.2.2 _ (wT_t1 12 rfl rfl)) hK.1 hP hD hS hA rfl (by decide +kernel) (Nat.le_of_ble_eq_true rfl) (Nat.le_of_ble_eq_true rfl) dX11_init_72 (fun q72 H hP hD hS => ?_)
  have hP : va_P D vwCl [(x, .inr (12, [.int 0, .int 0, .int 0, .int 0, .ref q5, .ref q17, .ref q28, .ref q44, .ref q50, .ref q61, .null, .null, .null, .null, .null, .null])), (q5, .inr (10, [.ref (u_2 0), .ref (u_2 1), .ref (u_2 2), .ref (u_2 3), .ref (u_2 4), .int 0, .int 0, .int 0, .int 0])), ((u_2 0), .inl (cI, 0, .inl (fun _ => 0))), ((u_2 1), .inl (cI, 12, .inl (fun _ => 0))), ((u_2 2), .inl (cI, 12, .inl (fun _ => 0))), ((u_2 3), .inl (cI, 12, .inl (fun _ => 0))), ((u_2 4), .inl (cI, 32, .inl (fun _ => 0))), (q17, .inr (9, [.ref u_5, .int 0])), (u_5, .inl (cI, 200, .inl (fun _ => 0))), (q28, .inr (6, [.ref (u_8 6), .ref (u_8 5), .int 0, .int 0, .int 0, .int 0])), ((u_8 6), .inl (cI, 0, .inl (fun _ => 0))), ((u_8 5), .inr (10, [.ref (u_8 0), .ref (u_8 1), .ref (u_8 2), .ref (u_8 3), .ref (u_8 4), .int 0, .int 0, .int 0, .int 0])), ((u_8 0), .inl (cI, 0, .inl (fun _ => 0))), ((u_8 1), .inl (cI, 12, .inl (fun _ => 0))), ((u_8 2), .inl (cI, 12, .inl (fun _ => 0))), ((u_8 3), .inl (cI, 12, .inl (fun _ => 0))), ((u_8 4), .inl (cI, 32, .inl (fun _ => 0))), (q44, .inl (cI, 11, .inl (fun _ => 0))), (q50, .inr (8, [.ref (u_13 0), .ref (u_13 1), .ref (u_13 2), .ref (u_13 3), .ref (u_13 4), .ref (u_13 5), .ref (u_13 6), .ref (u_13 7), .ref (u_13 8), .ref (u_13 9)])), ((u_13 0), .inl (cI, 58, .inl (fun _ => 0))), ((u_13 1), .inl (cI, 24, .inl (fun _ => 0))), ((u_13 2), .inl (cI, 400, .inl (dgF 400))), ((u_13 3), .inl (cI, 400, .inl (fun _ => 0))), ((u_13 4), .inl (cI, 10, .inl (fun _ => 0))), ((u_13 5), .inl (cI, 10, .inl (fun _ => 0))), ((u_13 6), .inl (cI, 232, .inl (fun _ => 0))), ((u_13 7), .inl (cI, 3, .inl (fun _ => 0))), ((u_13 8), .inl (cI, 1200, .inl (fun _ => 0))), ((u_13 9), .inl (cI, 400, .inl (fun _ => 0))), (q61, .inr (11, [.ref (u_16 0), .ref (u_16 1), .ref (u_16 2), .ref (u_16 3), .ref (u_16 4), .ref (u_16 5), .int 0])), ((u_16 0), .inl (cI, 8, .inl (fun _ => 0))), ((u_16 1), .inl (cI, 8, .inl (fun _ => 0))), ((u_16 2), .inl (cI, 8, .inl (fun _ => 0))), ((u_16 3), .inl (cI, 8, .inl (fun _ => 0))), ((u_16 4), .inl (cI, 2048, .inl (fun _ => 0))), ((u_16 5), .inl (cI, 256, .inl (fun _ => 0))), (q72, .inr (0, [.int 0, .null, .int 0]))] H := hP
  have hD : va_D A [(x, .inr (12, [.int 0, .int 0, .int 0, .int 0, .ref q5, .ref q17, .ref q28, .ref q44, .ref q50, .ref q61, .null, .null, .null, .null, .null, .null])), (q5, .inr (10, [.ref (u_2 0), .ref (u_2 1), .ref (u_2 2), .ref (u_2 3), .ref (u_2 4), .int 0, .int 0, .int 0, .int 0])), ((u_2 0), .inl (cI, 0, .inl (fun _ => 0))), ((u_2 1), .inl (cI, 12, .inl (fun _ => 0))), ((u_2 2), .inl (cI, 12, .inl (fun _ => 0))), ((u_2 3), .inl (cI, 12, .inl (fun _ => 0))), ((u_2 4), .inl (cI, 32, .inl (fun _ => 0))), (q17, .inr (9, [.ref u_5, .int 0])), (u_5, .inl (cI, 200, .inl (fun _ => 0))), (q28, .inr (6, [.ref (u_8 6), .ref (u_8 5), .int 0, .int 0, .int 0, .int 0])), ((u_8 6), .inl (cI, 0, .inl (fun _ => 0))), ((u_8 5), .inr (10, [.ref (u_8 0), .ref (u_8 1), .ref (u_8 2), .ref (u_8 3), .ref (u_8 4), .int 0, .int 0, .int 0, .int 0])), ((u_8 0), .inl (cI, 0, .inl (fun _ => 0))), ((u_8 1), .inl (cI, 12, .inl (fun _ => 0))), ((u_8 2), .inl (cI, 12, .inl (fun _ => 0))), ((u_8 3), .inl (cI, 12, .inl (fun _ => 0))), ((u_8 4), .inl (cI, 32, .inl (fun _ => 0))), (q44, .inl (cI, 11, .inl (fun _ => 0))), (q50, .inr (8, [.ref (u_13 0), .ref (u_13 1), .ref (u_13 2), .ref (u_13 3), .ref (u_13 4), .ref (u_13 5), .ref (u_13 6), .ref (u_13 7), .ref (u_13 8), .ref (u_13 9)])), ((u_13 0), .inl (cI, 58, .inl (fun _ => 0))), ((u_13 1), .inl (cI, 24, .inl (fun _ => 0))), ((u_13 2), .inl (cI, 400, .inl (dgF 400))), ((u_13 3), .inl (cI, 400, .inl (fun _ => 0))), ((u_13 4), .inl (cI, 10, .inl (fun _ => 0))), ((u_13 5), .inl (cI, 10, .inl (fun _ => 0))), ((u_13 6), .inl (cI, 232, .inl (fun _ => 0))), ((u_13 7), .inl (cI, 3, .inl (fun _ => 0))), ((u_13 8), .inl (cI, 1200, .inl (fun _ => 0))), ((u_13 9), .inl (cI, 400, .inl (fun _ => 0))), (q61, .inr (11, [.ref (u_16 0), .ref (u_16 1), .ref (u_16 2), .ref (u_16 3), .ref (u_16 4), .ref (u_16 5), .int 0])), ((u_16 0), .inl (cI, 8, .inl (fun _ => 0))), ((u_16 1), .inl (cI, 8, .inl (fun _ => 0))), ((u_16 2), .inl (cI, 8, .inl (fun _ => 0))), ((u_16 3), .inl (cI, 8, .inl (fun _ => 0))), ((u_16 4), .inl (cI, 2048, .inl (fun _ => 0))), ((u_16 5), .inl (cI, 256, .inl (fun _ => 0))), (q72, .inr (0, [.int 0, .null, .int 0]))] := hD
  refine lv_dup hx hb dX11_init_75 rfl ?_
  have hFc := va_free (wc := [(q72, .inr (0, [.int 0, .null, .int 0]))]) hD hS hA [36] rfl
  refine va_callv (runI_x (As := []) (rest := [.ref q72, .ref x]) S (q_c_AList l D cI cB cZ zz qq vv bt q72 H.size) kI_RX11_60 hK hXS hS hFc hP hD [36] rfl rfl (by decide) ⟨Nat.le_of_ble_eq_true rfl, Nat.le_of_ble_eq_true rfl⟩ ⟨Nat.le_of_ble_eq_true rfl, Nat.le_of_ble_eq_true rfl⟩ rfl hl.1 rfl (Nat.le_of_ble_eq_true rfl) dX11_init_76) hS (fun q _ h => hFc q h) hFc (fun u_19 t H1 locs ht hvm h_20 hB hz1 hk1 hS => ?_)
  obtain ⟨hP1, hD1⟩ := hB
  rw [ht] at hP1
  obtain ⟨hP, hD⟩ := va_join (wr := [(x, .inr (12, [.int 0, .int 0, .int 0, .int 0, .ref q5, .ref q17, .ref q28, .ref q44, .ref q50, .ref q61, .null, .null, .null, .null, .null, .null])), (q5, .inr (10, [.ref (u_2 0), .ref (u_2 1), .ref (u_2 2), .ref (u_2 3), .ref (u_2 4), .int 0, .int 0, .int 0, .int 0])), ((u_2 0), .inl (cI, 0, .inl (fun _ => 0))), ((u_2 1), .inl (cI, 12, .inl (fun _ => 0))), ((u_2 2), .inl (cI, 12, .inl (fun _ => 0))), ((u_2 3), .inl (cI, 12, .inl (fun _ => 0))), ((u_2 4), .inl (cI, 32, .inl (fun _ => 0))), (q17, .inr (9, [.ref u_5, .int 0])), (u_5, .inl (cI, 200, .inl (fun _ => 0))), (q28, .inr (6, [.ref (u_8 6), .ref (u_8 5), .int 0, .int 0, .int 0, .int 0])), ((u_8 6), .inl (cI, 0, .inl (fun _ => 0))), ((u_8 5), .inr (10, [.ref (u_8 0), .ref (u_8 1), .ref (u_8 2), .ref (u_8 3), .ref (u_8 4), .int 0, .int 0, .int 0, .int 0])), ((u_8 0), .inl (cI, 0, .inl (fun _ => 0))), ((u_8 1), .inl (cI, 12, .inl (fun _ => 0))), ((u_8 2), .inl (cI, 12, .inl (fun _ => 0))), ((u_8 3), .inl (cI, 12, .inl (fun _ => 0))), ((u_8 4), .inl (cI, 32, .inl (fun _ => 0))), (q44, .inl (cI, 11, .inl (fun _ => 0))), (q50, .inr (8, [.ref (u_13 0), .ref (u_13 1), .ref (u_13 2), .ref (u_13 3), .ref (u_13 4), .ref (u_13 5), .ref (u_13 6), .ref (u_13 7), .ref (u_13 8), .ref (u_13 9)])), ((u_13 0), .inl (cI, 58, .inl (fun _ => 0))), ((u_13 1), .inl (cI, 24, .inl (fun _ => 0))), ((u_13 2), .inl (cI, 400, .inl (dgF 400))), ((u_13 3), .inl (cI, 400, .inl (fun _ => 0))), ((u_13 4), .inl (cI, 10, .inl (fun _ => 0))), ((u_13 5), .inl (cI, 10, .inl (fun _ => 0))), ((u_13 6), .inl (cI, 232, .inl (fun _ => 0))), ((u_13 7), .inl (cI, 3, .inl (fun _ => 0))), ((u_13 8), .inl (cI, 1200, .inl (fun _ => 0))), ((u_13 9), .inl (cI, 400, .inl (fun _ => 0))), (q61, .inr (11, [.ref (u_16 0), .ref (u_16 1), .ref (u_16 2), .ref (u_16 3), .ref (u_16 4), .ref (u_16 5), .int 0])), ((u_16 0), .inl (cI, 8, .inl (fun _ => 0))), ((u_16 1), .inl (cI, 8, .inl (fun _ => 0))), ((u_16 2), .inl (cI, 8, .inl (fun _ => 0))), ((u_16 3), .inl (cI, 8, .inl (fun _ => 0))), ((u_16 4), .inl (cI, 2048, .inl (fun _ => 0))), ((u_16 5), .inl (cI, 256, .inl (fun _ => 0)))]) (w1 := [(q72, .inr (0, [.int 0, .ref zz, .int 0]))]) hP hD [36] [0, 1, 2, 3, 4, 5, 6, 7, 8, 9, 10, 11, 12, 13, 14, 15, 16, 17, 18, 19, 20, 21, 22, 23, 24, 25, 26, 27, 28, 29, 30, 31, 32, 33, 34, 35] rfl rfl (by decide) (by decide) hk1 hFc hP1 hD1
  generalize H1 = H at hP hS ⊢
  have hP : va_P D vwCl [(x, .inr (12, [.int 0, .int 0, .int 0, .int 0, .ref q5, .ref q17, .ref q28, .ref q44, .ref q50, .ref q61, .null, .null, .null, .null, .null, .null])), (q5, .inr (10, [.ref (u_2 0), .ref (u_2 1), .ref (u_2 2), .ref (u_2 3), .ref (u_2 4), .int 0, .int 0, .int 0, .int 0])), ((u_2 0), .inl (cI, 0, .inl (fun _ => 0))), ((u_2 1), .inl (cI, 12, .inl (fun _ => 0))), ((u_2 2), .inl (cI, 12, .inl (fun _ => 0))), ((u_2 3), .inl (cI, 12, .inl (fun _ => 0))), ((u_2 4), .inl (cI, 32, .inl (fun _ => 0))), (q17, .inr (9, [.ref u_5, .int 0])), (u_5, .inl (cI, 200, .inl (fun _ => 0))), (q28, .inr (6, [.ref (u_8 6), .ref (u_8 5), .int 0, .int 0, .int 0, .int 0])), ((u_8 6), .inl (cI, 0, .inl (fun _ => 0))), ((u_8 5), .inr (10, [.ref (u_8 0), .ref (u_8 1), .ref (u_8 2), .ref (u_8 3), .ref (u_8 4), .int 0, .int 0, .int 0, .int 0])), ((u_8 0), .inl (cI, 0, .inl (fun _ => 0))), ((u_8 1), .inl (cI, 12, .inl (fun _ => 0))), ((u_8 2), .inl (cI, 12, .inl (fun _ => 0))), ((u_8 3), .inl (cI, 12, .inl (fun _ => 0))), ((u_8 4), .inl (cI, 32, .inl (fun _ => 0))), (q44, .inl (cI, 11, .inl (fun _ => 0))), (q50, .inr (8, [.ref (u_13 0), .ref (u_13 1), .ref (u_13 2), .ref (u_13 3), .ref (u_13 4), .ref (u_13 5), .ref (u_13 6), .ref (u_13 7), .ref (u_13 8), .ref (u_13 9)])), ((u_13 0), .inl (cI, 58, .inl (fun _ => 0))), ((u_13 1), .inl (cI, 24, .inl (fun _ => 0))), ((u_13 2), .inl (cI, 400, .inl (dgF 400))), ((u_13 3), .inl (cI, 400, .inl (fun _ => 0))), ((u_13 4), .inl (cI, 10, .inl (fun _ => 0))), ((u_13 5), .inl (cI, 10, .inl (fun _ => 0))), ((u_13 6), .inl (cI, 232, .inl (fun _ => 0))), ((u_13 7), .inl (cI, 3, .inl (fun _ => 0))), ((u_13 8), .inl (cI, 1200, .inl (fun _ => 0))), ((u_13 9), .inl (cI, 400, .inl (fun _ => 0))), (q61, .inr (11, [.ref (u_16 0), .ref (u_16 1), .ref (u_16 2), .ref (u_16 3), .ref (u_16 4), .ref (u_16 5), .int 0])), ((u_16 0), .inl (cI, 8, .inl (fun _ => 0))), ((u_16 1), .inl (cI, 8, .inl (fun _ => 0))), ((u_16 2), .inl (cI, 8, .inl (fun _ => 0))), ((u_16 3), .inl (cI, 8, .inl (fun _ => 0))), ((u_16 4), .inl (cI, 2048, .inl (fun _ => 0))), ((u_16 5), .inl (cI, 256, .inl (fun _ => 0))), (q72, .inr (0, [.int 0, .ref zz, .int 0]))] H := hP
  have hD : va_D A [(x, .inr (12, [.int 0, .int 0, .int 0, .int 0, .ref q5, .ref q17, .ref q28, .ref q44, .ref q50, .ref q61, .null, .null, .null, .null, .null, .null])), (q5, .inr (10, [.ref (u_2 0), .ref (u_2 1), .ref (u_2 2), .ref (u_2 3), .ref (u_2 4), .int 0, .int 0, .int 0, .int 0])), ((u_2 0), .inl (cI, 0, .inl (fun _ => 0))), ((u_2 1), .inl (cI, 12, .inl (fun _ => 0))), ((u_2 2), .inl (cI, 12, .inl (fun _ => 0))), ((u_2 3), .inl (cI, 12, .inl (fun _ => 0))), ((u_2 4), .inl (cI, 32, .inl (fun _ => 0))), (q17, .inr (9, [.ref u_5, .int 0])), (u_5, .inl (cI, 200, .inl (fun _ => 0))), (q28, .inr (6, [.ref (u_8 6), .ref (u_8 5), .int 0, .int 0, .int 0, .int 0])), ((u_8 6), .inl (cI, 0, .inl (fun _ => 0))), ((u_8 5), .inr (10, [.ref (u_8 0), .ref (u_8 1), .ref (u_8 2), .ref (u_8 3), .ref (u_8 4), .int 0, .int 0, .int 0, .int 0])), ((u_8 0), .inl (cI, 0, .inl (fun _ => 0))), ((u_8 1), .inl (cI, 12, .inl (fun _ => 0))), ((u_8 2), .inl (cI, 12, .inl (fun _ => 0))), ((u_8 3), .inl (cI, 12, .inl (fun _ => 0))), ((u_8 4), .inl (cI, 32, .inl (fun _ => 0))), (q44, .inl (cI, 11, .inl (fun _ => 0))), (q50, .inr (8, [.ref (u_13 0), .ref (u_13 1), .ref (u_13 2), .ref (u_13 3), .ref (u_13 4), .ref (u_13 5), .ref (u_13 6), .ref (u_13 7), .ref (u_13 8), .ref (u_13 9)])), ((u_13 0), .inl (cI, 58, .inl (fun _ => 0))), ((u_13 1), .inl (cI, 24, .inl (fun _ => 0))), ((u_13 2), .inl (cI, 400, .inl (dgF 400))), ((u_13 3), .inl (cI, 400, .inl (fun _ => 0))), ((u_13 4), .inl (cI, 10, .inl (fun _ => 0))), ((u_13 5), .inl (cI, 10, .inl (fun _ => 0))), ((u_13 6), .inl (cI, 232, .inl (fun _ => 0))), ((u_13 7), .inl (cI, 3, .inl (fun _ => 0))), ((u_13 8), .inl (cI, 1200, .inl (fun _ => 0))), ((u_13 9), .inl (cI, 400, .inl (fun _ => 0))), (q61, .inr (11, [.ref (u_16 0), .ref (u_16 1), .ref (u_16 2), .ref (u_16 3), .ref (u_16 4), .ref (u_16 5), .int 0])), ((u_16 0), .inl (cI, 8, .inl (fun _ => 0))), ((u_16 1), .inl (cI, 8, .inl (fun _ => 0))), ((u_16 2), .inl (cI, 8, .inl (fun _ => 0))), ((u_16 3), .inl (cI, 8, .inl (fun _ => 0))), ((u_16 4), .inl (cI, 2048, .inl (fun _ => 0))), ((u_16 5), .inl (cI, 256, .inl (fun _ => 0))), (q72, .inr (0, [.int 0, .ref zz, .int 0]))] := hD
  refine pf_RX11_61 S hin hK hP hD hS 0 rfl (v := .ref q72) (Nat.le_of_ble_eq_true rfl) rfl rfl dX11_init_79 (fun H locs hP hD hS => ?_)
  have hP : va_P D vwCl [(x, .inr (12, [.int 0, .int 0, .int 0, .int 0, .ref q5, .ref q17, .ref q28, .ref q44, .ref q50, .ref q61, .ref q72, .null, .null, .null, .null, .null])), (q5, .inr (10, [.ref (u_2 0), .ref (u_2 1), .ref (u_2 2), .ref (u_2 3), .ref (u_2 4), .int 0, .int 0, .int 0, .int 0])), ((u_2 0), .inl (cI, 0, .inl (fun _ => 0))), ((u_2 1), .inl (cI, 12, .inl (fun _ => 0))), ((u_2 2), .inl (cI, 12, .inl (fun _ => 0))), ((u_2 3), .inl (cI, 12, .inl (fun _ => 0))), ((u_2 4), .inl (cI, 32, .inl (fun _ => 0))), (q17, .inr (9, [.ref u_5, .int 0])), (u_5, .inl (cI, 200, .inl (fun _ => 0))), (q28, .inr (6, [.ref (u_8 6), .ref (u_8 5), .int 0, .int 0, .int 0, .int 0])), ((u_8 6), .inl (cI, 0, .inl (fun _ => 0))), ((u_8 5), .inr (10, [.ref (u_8 0), .ref (u_8 1), .ref (u_8 2), .ref (u_8 3), .ref (u_8 4), .int 0, .int 0, .int 0, .int 0])), ((u_8 0), .inl (cI, 0, .inl (fun _ => 0))), ((u_8 1), .inl (cI, 12, .inl (fun _ => 0))), ((u_8 2), .inl (cI, 12, .inl (fun _ => 0))), ((u_8 3), .inl (cI, 12, .inl (fun _ => 0))), ((u_8 4), .inl (cI, 32, .inl (fun _ => 0))), (q44, .inl (cI, 11, .inl (fun _ => 0))), (q50, .inr (8, [.ref (u_13 0), .ref (u_13 1), .ref (u_13 2), .ref (u_13 3), .ref (u_13 4), .ref (u_13 5), .ref (u_13 6), .ref (u_13 7), .ref (u_13 8), .ref (u_13 9)])), ((u_13 0), .inl (cI, 58, .inl (fun _ => 0))), ((u_13 1), .inl (cI, 24, .inl (fun _ => 0))), ((u_13 2), .inl (cI, 400, .inl (dgF 400))), ((u_13 3), .inl (cI, 400, .inl (fun _ => 0))), ((u_13 4), .inl (cI, 10, .inl (fun _ => 0))), ((u_13 5), .inl (cI, 10, .inl (fun _ => 0))), ((u_13 6), .inl (cI, 232, .inl (fun _ => 0))), ((u_13 7), .inl (cI, 3, .inl (fun _ => 0))), ((u_13 8), .inl (cI, 1200, .inl (fun _ => 0))), ((u_13 9), .inl (cI, 400, .inl (fun _ => 0))), (q61, .inr (11, [.ref (u_16 0), .ref (u_16 1), .ref (u_16 2), .ref (u_16 3), .ref (u_16 4), .ref (u_16 5), .int 0])), ((u_16 0), .inl (cI, 8, .inl (fun _ => 0))), ((u_16 1), .inl (cI, 8, .inl (fun _ => 0))), ((u_16 2), .inl (cI, 8, .inl (fun _ => 0))), ((u_16 3), .inl (cI, 8, .inl (fun _ => 0))), ((u_16 4), .inl (cI, 2048, .inl (fun _ => 0))), ((u_16 5), .inl (cI, 256, .inl (fun _ => 0))), (q72, .inr (0, [.int 0, .ref zz, .int 0]))] H := hP
  have hD : va_D A [(x, .inr (12, [.int 0, .int 0, .int 0, .int 0, .ref q5, .ref q17, .ref q28, .ref q44, .ref q50, .ref q61, .ref q72, .null, .null, .null, .null, .null])), (q5, .inr (10, [.ref (u_2 0), .ref (u_2 1), .ref (u_2 2), .ref (u_2 3), .ref (u_2 4), .int 0, .int 0, .int 0, .int 0])), ((u_2 0), .inl (cI, 0, .inl (fun _ => 0))), ((u_2 1), .inl (cI, 12, .inl (fun _ => 0))), ((u_2 2), .inl (cI, 12, .inl (fun _ => 0))), ((u_2 3), .inl (cI, 12, .inl (fun _ => 0))), ((u_2 4), .inl (cI, 32, .inl (fun _ => 0))), (q17, .inr (9, [.ref u_5, .int 0])), (u_5, .inl (cI, 200, .inl (fun _ => 0))), (q28, .inr (6, [.ref (u_8 6), .ref (u_8 5), .int 0, .int 0, .int 0, .int 0])), ((u_8 6), .inl (cI, 0, .inl (fun _ => 0))), ((u_8 5), .inr (10, [.ref (u_8 0), .ref (u_8 1), .ref (u_8 2), .ref (u_8 3), .ref (u_8 4), .int 0, .int 0, .int 0, .int 0])), ((u_8 0), .inl (cI, 0, .inl (fun _ => 0))), ((u_8 1), .inl (cI, 12, .inl (fun _ => 0))), ((u_8 2), .inl (cI, 12, .inl (fun _ => 0))), ((u_8 3), .inl (cI, 12, .inl (fun _ => 0))), ((u_8 4), .inl (cI, 32, .inl (fun _ => 0))), (q44, .inl (cI, 11, .inl (fun _ => 0))), (q50, .inr (8, [.ref (u_13 0), .ref (u_13 1), .ref (u_13 2), .ref (u_13 3), .ref (u_13 4), .ref (u_13 5), .ref (u_13 6), .ref (u_13 7), .ref (u_13 8), .ref (u_13 9)])), ((u_13 0), .inl (cI, 58, .inl (fun _ => 0))), ((u_13 1), .inl (cI, 24, .inl (fun _ => 0))), ((u_13 2), .inl (cI, 400, .inl (dgF 400))), ((u_13 3), .inl (cI, 400, .inl (fun _ => 0))), ((u_13 4), .inl (cI, 10, .inl (fun _ => 0))), ((u_13 5), .inl (cI, 10, .inl (fun _ => 0))), ((u_13 6), .inl (cI, 232, .inl (fun _ => 0))), ((u_13 7), .inl (cI, 3, .inl (fun _ => 0))), ((u_13 8), .inl (cI, 1200, .inl (fun _ => 0))), ((u_13 9), .inl (cI, 400, .inl (fun _ => 0))), (q61, .inr (11, [.ref (u_16 0), .ref (u_16 1), .ref (u_16 2), .ref (u_16 3), .ref (u_16 4), .ref (u_16 5), .int 0])), ((u_16 0), .inl (cI, 8, .inl (fun _ => 0))), ((u_16 1), .inl (cI, 8, .inl (fun _ => 0))), ((u_16 2), .inl (cI, 8, .inl (fun _ => 0))), ((u_16 3), .inl (cI, 8, .inl (fun _ => 0))), ((u_16 4), .inl (cI, 2048, .inl (fun _ => 0))), ((u_16 5), .inl (cI, 256, .inl (fun _ => 0))), (q72, .inr (0, [.int 0, .ref zz, .int 0]))] := hD
  refine lv_aload_n hx hb dX11_init_82 rfl (lv_at hl 0 rfl) ?_
  refine va_new (ci := 0) (fs := [.int 0, .null, .int 0]) (C := RJx4a65c) (T := TJx4a65c) (N := 3) hx hb S.2.2.2.2 hin_RJx4a65c tyJx4a65c tyJx4a65c_ok hown (S.2.2.2.2 _ (wT_t1 210 rfl rfl)) (S.2.2.2.2 _ (wT_t1 211 rfl rfl)) (S.2.2.2.2 _ (wT_t1 12 rfl rfl)) hK.1 hP hD hS hA rfl (by decide +kernel) (Nat.le_of_ble_eq_true rfl) (Nat.le_of_ble_eq_true rfl) dX11_init_83 (fun q83 H hP hD hS => ?_)
  have hP : va_P D vwCl [(x, .inr (12, [.int 0, .int 0, .int 0, .int 0, .ref q5, .ref q17, .ref q28, .ref q44, .ref q50, .ref q61, .ref q72, .null, .null, .null, .null, .null])), (q5, .inr (10, [.ref (u_2 0), .ref (u_2 1), .ref (u_2 2), .ref (u_2 3), .ref (u_2 4), .int 0, .int 0, .int 0, .int 0])), ((u_2 0), .inl (cI, 0, .inl (fun _ => 0))), ((u_2 1), .inl (cI, 12, .inl (fun _ => 0))), ((u_2 2), .inl (cI, 12, .inl (fun _ => 0))), ((u_2 3), .inl (cI, 12, .inl (fun _ => 0))), ((u_2 4), .inl (cI, 32, .inl (fun _ => 0))), (q17, .inr (9, [.ref u_5, .int 0])), (u_5, .inl (cI, 200, .inl (fun _ => 0))), (q28, .inr (6, [.ref (u_8 6), .ref (u_8 5), .int 0, .int 0, .int 0, .int 0])), ((u_8 6), .inl (cI, 0, .inl (fun _ => 0))), ((u_8 5), .inr (10, [.ref (u_8 0), .ref (u_8 1), .ref (u_8 2), .ref (u_8 3), .ref (u_8 4), .int 0, .int 0, .int 0, .int 0])), ((u_8 0), .inl (cI, 0, .inl (fun _ => 0))), ((u_8 1), .inl (cI, 12, .inl (fun _ => 0))), ((u_8 2), .inl (cI, 12, .inl (fun _ => 0))), ((u_8 3), .inl (cI, 12, .inl (fun _ => 0))), ((u_8 4), .inl (cI, 32, .inl (fun _ => 0))), (q44, .inl (cI, 11, .inl (fun _ => 0))), (q50, .inr (8, [.ref (u_13 0), .ref (u_13 1), .ref (u_13 2), .ref (u_13 3), .ref (u_13 4), .ref (u_13 5), .ref (u_13 6), .ref (u_13 7), .ref (u_13 8), .ref (u_13 9)])), ((u_13 0), .inl (cI, 58, .inl (fun _ => 0))), ((u_13 1), .inl (cI, 24, .inl (fun _ => 0))), ((u_13 2), .inl (cI, 400, .inl (dgF 400))), ((u_13 3), .inl (cI, 400, .inl (fun _ => 0))), ((u_13 4), .inl (cI, 10, .inl (fun _ => 0))), ((u_13 5), .inl (cI, 10, .inl (fun _ => 0))), ((u_13 6), .inl (cI, 232, .inl (fun _ => 0))), ((u_13 7), .inl (cI, 3, .inl (fun _ => 0))), ((u_13 8), .inl (cI, 1200, .inl (fun _ => 0))), ((u_13 9), .inl (cI, 400, .inl (fun _ => 0))), (q61, .inr (11, [.ref (u_16 0), .ref (u_16 1), .ref (u_16 2), .ref (u_16 3), .ref (u_16 4), .ref (u_16 5), .int 0])), ((u_16 0), .inl (cI, 8, .inl (fun _ => 0))), ((u_16 1), .inl (cI, 8, .inl (fun _ => 0))), ((u_16 2), .inl (cI, 8, .inl (fun _ => 0))), ((u_16 3), .inl (cI, 8, .inl (fun _ => 0))), ((u_16 4), .inl (cI, 2048, .inl (fun _ => 0))), ((u_16 5), .inl (cI, 256, .inl (fun _ => 0))), (q72, .inr (0, [.int 0, .ref zz, .int 0])), (q83, .inr (0, [.int 0, .null, .int 0]))] H := hP
  have hD : va_D A [(x, .inr (12, [.int 0, .int 0, .int 0, .int 0, .ref q5, .ref q17, .ref q28, .ref q44, .ref q50, .ref q61, .ref q72, .null, .null, .null, .null, .null])), (q5, .inr (10, [.ref (u_2 0), .ref (u_2 1), .ref (u_2 2), .ref (u_2 3), .ref (u_2 4), .int 0, .int 0, .int 0, .int 0])), ((u_2 0), .inl (cI, 0, .inl (fun _ => 0))), ((u_2 1), .inl (cI, 12, .inl (fun _ => 0))), ((u_2 2), .inl (cI, 12, .inl (fun _ => 0))), ((u_2 3), .inl (cI, 12, .inl (fun _ => 0))), ((u_2 4), .inl (cI, 32, .inl (fun _ => 0))), (q17, .inr (9, [.ref u_5, .int 0])), (u_5, .inl (cI, 200, .inl (fun _ => 0))), (q28, .inr (6, [.ref (u_8 6), .ref (u_8 5), .int 0, .int 0, .int 0, .int 0])), ((u_8 6), .inl (cI, 0, .inl (fun _ => 0))), ((u_8 5), .inr (10, [.ref (u_8 0), .ref (u_8 1), .ref (u_8 2), .ref (u_8 3), .ref (u_8 4), .int 0, .int 0, .int 0, .int 0])), ((u_8 0), .inl (cI, 0, .inl (fun _ => 0))), ((u_8 1), .inl (cI, 12, .inl (fun _ => 0))), ((u_8 2), .inl (cI, 12, .inl (fun _ => 0))), ((u_8 3), .inl (cI, 12, .inl (fun _ => 0))), ((u_8 4), .inl (cI, 32, .inl (fun _ => 0))), (q44, .inl (cI, 11, .inl (fun _ => 0))), (q50, .inr (8, [.ref (u_13 0), .ref (u_13 1), .ref (u_13 2), .ref (u_13 3), .ref (u_13 4), .ref (u_13 5), .ref (u_13 6), .ref (u_13 7), .ref (u_13 8), .ref (u_13 9)])), ((u_13 0), .inl (cI, 58, .inl (fun _ => 0))), ((u_13 1), .inl (cI, 24, .inl (fun _ => 0))), ((u_13 2), .inl (cI, 400, .inl (dgF 400))), ((u_13 3), .inl (cI, 400, .inl (fun _ => 0))), ((u_13 4), .inl (cI, 10, .inl (fun _ => 0))), ((u_13 5), .inl (cI, 10, .inl (fun _ => 0))), ((u_13 6), .inl (cI, 232, .inl (fun _ => 0))), ((u_13 7), .inl (cI, 3, .inl (fun _ => 0))), ((u_13 8), .inl (cI, 1200, .inl (fun _ => 0))), ((u_13 9), .inl (cI, 400, .inl (fun _ => 0))), (q61, .inr (11, [.ref (u_16 0), .ref (u_16 1), .ref (u_16 2), .ref (u_16 3), .ref (u_16 4), .ref (u_16 5), .int 0])), ((u_16 0), .inl (cI, 8, .inl (fun _ => 0))), ((u_16 1), .inl (cI, 8, .inl (fun _ => 0))), ((u_16 2), .inl (cI, 8, .inl (fun _ => 0))), ((u_16 3), .inl (cI, 8, .inl (fun _ => 0))), ((u_16 4), .inl (cI, 2048, .inl (fun _ => 0))), ((u_16 5), .inl (cI, 256, .inl (fun _ => 0))), (q72, .inr (0, [.int 0, .ref zz, .int 0])), (q83, .inr (0, [.int 0, .null, .int 0]))] := hD
  refine lv_dup hx hb dX11_init_86 rfl ?_
  have hFc := va_free (wc := [(q83, .inr (0, [.int 0, .null, .int 0]))]) hD hS hA [37] rfl
  refine va_callv (runI_x (As := []) (rest := [.ref q83, .ref x]) S (q_c_AList l D cI cB cZ zz qq vv bt q83 H.size) kI_RX11_60 hK hXS hS hFc hP hD [37] rfl rfl (by decide) ⟨Nat.le_of_ble_eq_true rfl, Nat.le_of_ble_eq_true rfl⟩ ⟨Nat.le_of_ble_eq_true rfl, Nat.le_of_ble_eq_true rfl⟩ rfl hl.1 rfl (Nat.le_of_ble_eq_true rfl) dX11_init_87) hS (fun q _ h => hFc q h) hFc (fun u_22 t H1 locs ht hvm h_23 hB hz1 hk1 hS => ?_)
  obtain ⟨hP1, hD1⟩ := hB
  rw [ht] at hP1
  obtain ⟨hP, hD⟩ := va_join (wr := [(x, .inr (12, [.int 0, .int 0, .int 0, .int 0, .ref q5, .ref q17, .ref q28, .ref q44, .ref q50, .ref q61, .ref q72, .null, .null, .null, .null, .null])), (q5, .inr (10, [.ref (u_2 0), .ref (u_2 1), .ref (u_2 2), .ref (u_2 3), .ref (u_2 4), .int 0, .int 0, .int 0, .int 0])), ((u_2 0), .inl (cI, 0, .inl (fun _ => 0))), ((u_2 1), .inl (cI, 12, .inl (fun _ => 0))), ((u_2 2), .inl (cI, 12, .inl (fun _ => 0))), ((u_2 3), .inl (cI, 12, .inl (fun _ => 0))), ((u_2 4), .inl (cI, 32, .inl (fun _ => 0))), (q17, .inr (9, [.ref u_5, .int 0])), (u_5, .inl (cI, 200, .inl (fun _ => 0))), (q28, .inr (6, [.ref (u_8 6), .ref (u_8 5), .int 0, .int 0, .int 0, .int 0])), ((u_8 6), .inl (cI, 0, .inl (fun _ => 0))), ((u_8 5), .inr (10, [.ref (u_8 0), .ref (u_8 1), .ref (u_8 2), .ref (u_8 3), .ref (u_8 4), .int 0, .int 0, .int 0, .int 0])), ((u_8 0), .inl (cI, 0, .inl (fun _ => 0))), ((u_8 1), .inl (cI, 12, .inl (fun _ => 0))), ((u_8 2), .inl (cI, 12, .inl (fun _ => 0))), ((u_8 3), .inl (cI, 12, .inl (fun _ => 0))), ((u_8 4), .inl (cI, 32, .inl (fun _ => 0))), (q44, .inl (cI, 11, .inl (fun _ => 0))), (q50, .inr (8, [.ref (u_13 0), .ref (u_13 1), .ref (u_13 2), .ref (u_13 3), .ref (u_13 4), .ref (u_13 5), .ref (u_13 6), .ref (u_13 7), .ref (u_13 8), .ref (u_13 9)])), ((u_13 0), .inl (cI, 58, .inl (fun _ => 0))), ((u_13 1), .inl (cI, 24, .inl (fun _ => 0))), ((u_13 2), .inl (cI, 400, .inl (dgF 400))), ((u_13 3), .inl (cI, 400, .inl (fun _ => 0))), ((u_13 4), .inl (cI, 10, .inl (fun _ => 0))), ((u_13 5), .inl (cI, 10, .inl (fun _ => 0))), ((u_13 6), .inl (cI, 232, .inl (fun _ => 0))), ((u_13 7), .inl (cI, 3, .inl (fun _ => 0))), ((u_13 8), .inl (cI, 1200, .inl (fun _ => 0))), ((u_13 9), .inl (cI, 400, .inl (fun _ => 0))), (q61, .inr (11, [.ref (u_16 0), .ref (u_16 1), .ref (u_16 2), .ref (u_16 3), .ref (u_16 4), .ref (u_16 5), .int 0])), ((u_16 0), .inl (cI, 8, .inl (fun _ => 0))), ((u_16 1), .inl (cI, 8, .inl (fun _ => 0))), ((u_16 2), .inl (cI, 8, .inl (fun _ => 0))), ((u_16 3), .inl (cI, 8, .inl (fun _ => 0))), ((u_16 4), .inl (cI, 2048, .inl (fun _ => 0))), ((u_16 5), .inl (cI, 256, .inl (fun _ => 0))), (q72, .inr (0, [.int 0, .ref zz, .int 0]))]) (w1 := [(q83, .inr (0, [.int 0, .ref zz, .int 0]))]) hP hD [37] [0, 1, 2, 3, 4, 5, 6, 7, 8, 9, 10, 11, 12, 13, 14, 15, 16, 17, 18, 19, 20, 21, 22, 23, 24, 25, 26, 27, 28, 29, 30, 31, 32, 33, 34, 35, 36] rfl rfl (by decide) (by decide) hk1 hFc hP1 hD1
  generalize H1 = H at hP hS ⊢
  have hP : va_P D vwCl [(x, .inr (12, [.int 0, .int 0, .int 0, .int 0, .ref q5, .ref q17, .ref q28, .ref q44, .ref q50, .ref q61, .ref q72, .null, .null, .null, .null, .null])), (q5, .inr (10, [.ref (u_2 0), .ref (u_2 1), .ref (u_2 2), .ref (u_2 3), .ref (u_2 4), .int 0, .int 0, .int 0, .int 0])), ((u_2 0), .inl (cI, 0, .inl (fun _ => 0))), ((u_2 1), .inl (cI, 12, .inl (fun _ => 0))), ((u_2 2), .inl (cI, 12, .inl (fun _ => 0))), ((u_2 3), .inl (cI, 12, .inl (fun _ => 0))), ((u_2 4), .inl (cI, 32, .inl (fun _ => 0))), (q17, .inr (9, [.ref u_5, .int 0])), (u_5, .inl (cI, 200, .inl (fun _ => 0))), (q28, .inr (6, [.ref (u_8 6), .ref (u_8 5), .int 0, .int 0, .int 0, .int 0])), ((u_8 6), .inl (cI, 0, .inl (fun _ => 0))), ((u_8 5), .inr (10, [.ref (u_8 0), .ref (u_8 1), .ref (u_8 2), .ref (u_8 3), .ref (u_8 4), .int 0, .int 0, .int 0, .int 0])), ((u_8 0), .inl (cI, 0, .inl (fun _ => 0))), ((u_8 1), .inl (cI, 12, .inl (fun _ => 0))), ((u_8 2), .inl (cI, 12, .inl (fun _ => 0))), ((u_8 3), .inl (cI, 12, .inl (fun _ => 0))), ((u_8 4), .inl (cI, 32, .inl (fun _ => 0))), (q44, .inl (cI, 11, .inl (fun _ => 0))), (q50, .inr (8, [.ref (u_13 0), .ref (u_13 1), .ref (u_13 2), .ref (u_13 3), .ref (u_13 4), .ref (u_13 5), .ref (u_13 6), .ref (u_13 7), .ref (u_13 8), .ref (u_13 9)])), ((u_13 0), .inl (cI, 58, .inl (fun _ => 0))), ((u_13 1), .inl (cI, 24, .inl (fun _ => 0))), ((u_13 2), .inl (cI, 400, .inl (dgF 400))), ((u_13 3), .inl (cI, 400, .inl (fun _ => 0))), ((u_13 4), .inl (cI, 10, .inl (fun _ => 0))), ((u_13 5), .inl (cI, 10, .inl (fun _ => 0))), ((u_13 6), .inl (cI, 232, .inl (fun _ => 0))), ((u_13 7), .inl (cI, 3, .inl (fun _ => 0))), ((u_13 8), .inl (cI, 1200, .inl (fun _ => 0))), ((u_13 9), .inl (cI, 400, .inl (fun _ => 0))), (q61, .inr (11, [.ref (u_16 0), .ref (u_16 1), .ref (u_16 2), .ref (u_16 3), .ref (u_16 4), .ref (u_16 5), .int 0])), ((u_16 0), .inl (cI, 8, .inl (fun _ => 0))), ((u_16 1), .inl (cI, 8, .inl (fun _ => 0))), ((u_16 2), .inl (cI, 8, .inl (fun _ => 0))), ((u_16 3), .inl (cI, 8, .inl (fun _ => 0))), ((u_16 4), .inl (cI, 2048, .inl (fun _ => 0))), ((u_16 5), .inl (cI, 256, .inl (fun _ => 0))), (q72, .inr (0, [.int 0, .ref zz, .int 0])), (q83, .inr (0, [.int 0, .ref zz, .int 0]))] H := hP
  have hD : va_D A [(x, .inr (12, [.int 0, .int 0, .int 0, .int 0, .ref q5, .ref q17, .ref q28, .ref q44, .ref q50, .ref q61, .ref q72, .null, .null, .null, .null, .null])), (q5, .inr (10, [.ref (u_2 0), .ref (u_2 1), .ref (u_2 2), .ref (u_2 3), .ref (u_2 4), .int 0, .int 0, .int 0, .int 0])), ((u_2 0), .inl (cI, 0, .inl (fun _ => 0))), ((u_2 1), .inl (cI, 12, .inl (fun _ => 0))), ((u_2 2), .inl (cI, 12, .inl (fun _ => 0))), ((u_2 3), .inl (cI, 12, .inl (fun _ => 0))), ((u_2 4), .inl (cI, 32, .inl (fun _ => 0))), (q17, .inr (9, [.ref u_5, .int 0])), (u_5, .inl (cI, 200, .inl (fun _ => 0))), (q28, .inr (6, [.ref (u_8 6), .ref (u_8 5), .int 0, .int 0, .int 0, .int 0])), ((u_8 6), .inl (cI, 0, .inl (fun _ => 0))), ((u_8 5), .inr (10, [.ref (u_8 0), .ref (u_8 1), .ref (u_8 2), .ref (u_8 3), .ref (u_8 4), .int 0, .int 0, .int 0, .int 0])), ((u_8 0), .inl (cI, 0, .inl (fun _ => 0))), ((u_8 1), .inl (cI, 12, .inl (fun _ => 0))), ((u_8 2), .inl (cI, 12, .inl (fun _ => 0))), ((u_8 3), .inl (cI, 12, .inl (fun _ => 0))), ((u_8 4), .inl (cI, 32, .inl (fun _ => 0))), (q44, .inl (cI, 11, .inl (fun _ => 0))), (q50, .inr (8, [.ref (u_13 0), .ref (u_13 1), .ref (u_13 2), .ref (u_13 3), .ref (u_13 4), .ref (u_13 5), .ref (u_13 6), .ref (u_13 7), .ref (u_13 8), .ref (u_13 9)])), ((u_13 0), .inl (cI, 58, .inl (fun _ => 0))), ((u_13 1), .inl (cI, 24, .inl (fun _ => 0))), ((u_13 2), .inl (cI, 400, .inl (dgF 400))), ((u_13 3), .inl (cI, 400, .inl (fun _ => 0))), ((u_13 4), .inl (cI, 10, .inl (fun _ => 0))), ((u_13 5), .inl (cI, 10, .inl (fun _ => 0))), ((u_13 6), .inl (cI, 232, .inl (fun _ => 0))), ((u_13 7), .inl (cI, 3, .inl (fun _ => 0))), ((u_13 8), .inl (cI, 1200, .inl (fun _ => 0))), ((u_13 9), .inl (cI, 400, .inl (fun _ => 0))), (q61, .inr (11, [.ref (u_16 0), .ref (u_16 1), .ref (u_16 2), .ref (u_16 3), .ref (u_16 4), .ref (u_16 5), .int 0])), ((u_16 0), .inl (cI, 8, .inl (fun _ => 0))), ((u_16 1), .inl (cI, 8, .inl (fun _ => 0))), ((u_16 2), .inl (cI, 8, .inl (fun _ => 0))), ((u_16 3), .inl (cI, 8, .inl (fun _ => 0))), ((u_16 4), .inl (cI, 2048, .inl (fun _ => 0))), ((u_16 5), .inl (cI, 256, .inl (fun _ => 0))), (q72, .inr (0, [.int 0, .ref zz, .int 0])), (q83, .inr (0, [.int 0, .ref zz, .int 0]))] := hD
  refine pf_RX11_65 S hin hK hP hD hS 0 rfl (v := .ref q83) (Nat.le_of_ble_eq_true rfl) rfl rfl dX11_init_90 (fun H locs hP hD hS => ?_)
  have hP : va_P D vwCl [(x, .inr (12, [.int 0, .int 0, .int 0, .int 0, .ref q5, .ref q17, .ref q28, .ref q44, .ref q50, .ref q61, .ref q72, .ref q83, .null, .null, .null, .null])), (q5, .inr (10, [.ref (u_2 0), .ref (u_2 1), .ref (u_2 2), .ref (u_2 3), .ref (u_2 4), .int 0, .int 0, .int 0, .int 0])), ((u_2 0), .inl (cI, 0, .inl (fun _ => 0))), ((u_2 1), .inl (cI, 12, .inl (fun _ => 0))), ((u_2 2), .inl (cI, 12, .inl (fun _ => 0))), ((u_2 3), .inl (cI, 12, .inl (fun _ => 0))), ((u_2 4), .inl (cI, 32, .inl (fun _ => 0))), (q17, .inr (9, [.ref u_5, .int 0])), (u_5, .inl (cI, 200, .inl (fun _ => 0))), (q28, .inr (6, [.ref (u_8 6), .ref (u_8 5), .int 0, .int 0, .int 0, .int 0])), ((u_8 6), .inl (cI, 0, .inl (fun _ => 0))), ((u_8 5), .inr (10, [.ref (u_8 0), .ref (u_8 1), .ref (u_8 2), .ref (u_8 3), .ref (u_8 4), .int 0, .int 0, .int 0, .int 0])), ((u_8 0), .inl (cI, 0, .inl (fun _ => 0))), ((u_8 1), .inl (cI, 12, .inl (fun _ => 0))), ((u_8 2), .inl (cI, 12, .inl (fun _ => 0))), ((u_8 3), .inl (cI, 12, .inl (fun _ => 0))), ((u_8 4), .inl (cI, 32, .inl (fun _ => 0))), (q44, .inl (cI, 11, .inl (fun _ => 0))), (q50, .inr (8, [.ref (u_13 0), .ref (u_13 1), .ref (u_13 2), .ref (u_13 3), .ref (u_13 4), .ref (u_13 5), .ref (u_13 6), .ref (u_13 7), .ref (u_13 8), .ref (u_13 9)])), ((u_13 0), .inl (cI, 58, .inl (fun _ => 0))), ((u_13 1), .inl (cI, 24, .inl (fun _ => 0))), ((u_13 2), .inl (cI, 400, .inl (dgF 400))), ((u_13 3), .inl (cI, 400, .inl (fun _ => 0))), ((u_13 4), .inl (cI, 10, .inl (fun _ => 0))), ((u_13 5), .inl (cI, 10, .inl (fun _ => 0))), ((u_13 6), .inl (cI, 232, .inl (fun _ => 0))), ((u_13 7), .inl (cI, 3, .inl (fun _ => 0))), ((u_13 8), .inl (cI, 1200, .inl (fun _ => 0))), ((u_13 9), .inl (cI, 400, .inl (fun _ => 0))), (q61, .inr (11, [.ref (u_16 0), .ref (u_16 1), .ref (u_16 2), .ref (u_16 3), .ref (u_16 4), .ref (u_16 5), .int 0])), ((u_16 0), .inl (cI, 8, .inl (fun _ => 0))), ((u_16 1), .inl (cI, 8, .inl (fun _ => 0))), ((u_16 2), .inl (cI, 8, .inl (fun _ => 0))), ((u_16 3), .inl (cI, 8, .inl (fun _ => 0))), ((u_16 4), .inl (cI, 2048, .inl (fun _ => 0))), ((u_16 5), .inl (cI, 256, .inl (fun _ => 0))), (q72, .inr (0, [.int 0, .ref zz, .int 0])), (q83, .inr (0, [.int 0, .ref zz, .int 0]))] H := hP
  have hD : va_D A [(x, .inr (12, [.int 0, .int 0, .int 0, .int 0, .ref q5, .ref q17, .ref q28, .ref q44, .ref q50, .ref q61, .ref q72, .ref q83, .null, .null, .null, .null])), (q5, .inr (10, [.ref (u_2 0), .ref (u_2 1), .ref (u_2 2), .ref (u_2 3), .ref (u_2 4), .int 0, .int 0, .int 0, .int 0])), ((u_2 0), .inl (cI, 0, .inl (fun _ => 0))), ((u_2 1), .inl (cI, 12, .inl (fun _ => 0))), ((u_2 2), .inl (cI, 12, .inl (fun _ => 0))), ((u_2 3), .inl (cI, 12, .inl (fun _ => 0))), ((u_2 4), .inl (cI, 32, .inl (fun _ => 0))), (q17, .inr (9, [.ref u_5, .int 0])), (u_5, .inl (cI, 200, .inl (fun _ => 0))), (q28, .inr (6, [.ref (u_8 6), .ref (u_8 5), .int 0, .int 0, .int 0, .int 0])), ((u_8 6), .inl (cI, 0, .inl (fun _ => 0))), ((u_8 5), .inr (10, [.ref (u_8 0), .ref (u_8 1), .ref (u_8 2), .ref (u_8 3), .ref (u_8 4), .int 0, .int 0, .int 0, .int 0])), ((u_8 0), .inl (cI, 0, .inl (fun _ => 0))), ((u_8 1), .inl (cI, 12, .inl (fun _ => 0))), ((u_8 2), .inl (cI, 12, .inl (fun _ => 0))), ((u_8 3), .inl (cI, 12, .inl (fun _ => 0))), ((u_8 4), .inl (cI, 32, .inl (fun _ => 0))), (q44, .inl (cI, 11, .inl (fun _ => 0))), (q50, .inr (8, [.ref (u_13 0), .ref (u_13 1), .ref (u_13 2), .ref (u_13 3), .ref (u_13 4), .ref (u_13 5), .ref (u_13 6), .ref (u_13 7), .ref (u_13 8), .ref (u_13 9)])), ((u_13 0), .inl (cI, 58, .inl (fun _ => 0))), ((u_13 1), .inl (cI, 24, .inl (fun _ => 0))), ((u_13 2), .inl (cI, 400, .inl (dgF 400))), ((u_13 3), .inl (cI, 400, .inl (fun _ => 0))), ((u_13 4), .inl (cI, 10, .inl (fun _ => 0))), ((u_13 5), .inl (cI, 10, .inl (fun _ => 0))), ((u_13 6), .inl (cI, 232, .inl (fun _ => 0))), ((u_13 7), .inl (cI, 3, .inl (fun _ => 0))), ((u_13 8), .inl (cI, 1200, .inl (fun _ => 0))), ((u_13 9), .inl (cI, 400, .inl (fun _ => 0))), (q61, .inr (11, [.ref (u_16 0), .ref (u_16 1), .ref (u_16 2), .ref (u_16 3), .ref (u_16 4), .ref (u_16 5), .int 0])), ((u_16 0), .inl (cI, 8, .inl (fun _ => 0))), ((u_16 1), .inl (cI, 8, .inl (fun _ => 0))), ((u_16 2), .inl (cI, 8, .inl (fun _ => 0))), ((u_16 3), .inl (cI, 8, .inl (fun _ => 0))), ((u_16 4), .inl (cI, 2048, .inl (fun _ => 0))), ((u_16 5), .inl (cI, 256, .inl (fun _ => 0))), (q72, .inr (0, [.int 0, .ref zz, .int 0])), (q83, .inr (0, [.int 0, .ref zz, .int 0]))] := hD
  refine lv_aload_n hx hb dX11_init_93 rfl (lv_at hl 0 rfl) ?_
  refine va_new (ci := 0) (fs := [.int 0, .null, .int 0]) (C := RJx4a65c) (T := TJx4a65c) (N := 3) hx hb S.2.2.2.2 hin_RJx4a65c tyJx4a65c tyJx4a65c_ok hown (S.2.2.2.2 _ (wT_t1 210 rfl rfl)) (S.2.2.2.2 _ (wT_t1 211 rfl rfl)) (S.2.2.2.2 _ (wT_t1 12 rfl rfl)) hK.1 hP hD hS hA rfl (by decide +kernel) (Nat.le_of_ble_eq_true rfl) (Nat.le_of_ble_eq_true rfl) dX11_init_94 (fun q94 H hP hD hS => ?_)
  have hP : va_P D vwCl [(x, .inr (12, [.int 0, .int 0, .int 0, .int 0, .ref q5, .ref q17, .ref q28, .ref q44, .ref q50, .ref q61, .ref q72, .ref q83, .null, .null, .null, .null])), (q5, .inr (10, [.ref (u_2 0), .ref (u_2 1), .ref (u_2 2), .ref (u_2 3), .ref (u_2 4), .int 0, .int 0, .int 0, .int 0])), ((u_2 0), .inl (cI, 0, .inl (fun _ => 0))), ((u_2 1), .inl (cI, 12, .inl (fun _ => 0))), ((u_2 2), .inl (cI, 12, .inl (fun _ => 0))), ((u_2 3), .inl (cI, 12, .inl (fun _ => 0))), ((u_2 4), .inl (cI, 32, .inl (fun _ => 0))), (q17, .inr (9, [.ref u_5, .int 0])), (u_5, .inl (cI, 200, .inl (fun _ => 0))), (q28, .inr (6, [.ref (u_8 6), .ref (u_8 5), .int 0, .int 0, .int 0, .int 0])), ((u_8 6), .inl (cI, 0, .inl (fun _ => 0))), ((u_8 5), .inr (10, [.ref (u_8 0), .ref (u_8 1), .ref (u_8 2), .ref (u_8 3), .ref (u_8 4), .int 0, .int 0, .int 0, .int 0])), ((u_8 0), .inl (cI, 0, .inl (fun _ => 0))), ((u_8 1), .inl (cI, 12, .inl (fun _ => 0))), ((u_8 2), .inl (cI, 12, .inl (fun _ => 0))), ((u_8 3), .inl (cI, 12, .inl (fun _ => 0))), ((u_8 4), .inl (cI, 32, .inl (fun _ => 0))), (q44, .inl (cI, 11, .inl (fun _ => 0))), (q50, .inr (8, [.ref (u_13 0), .ref (u_13 1), .ref (u_13 2), .ref (u_13 3), .ref (u_13 4), .ref (u_13 5), .ref (u_13 6), .ref (u_13 7), .ref (u_13 8), .ref (u_13 9)])), ((u_13 0), .inl (cI, 58, .inl (fun _ => 0))), ((u_13 1), .inl (cI, 24, .inl (fun _ => 0))), ((u_13 2), .inl (cI, 400, .inl (dgF 400))), ((u_13 3), .inl (cI, 400, .inl (fun _ => 0))), ((u_13 4), .inl (cI, 10, .inl (fun _ => 0))), ((u_13 5), .inl (cI, 10, .inl (fun _ => 0))), ((u_13 6), .inl (cI, 232, .inl (fun _ => 0))), ((u_13 7), .inl (cI, 3, .inl (fun _ => 0))), ((u_13 8), .inl (cI, 1200, .inl (fun _ => 0))), ((u_13 9), .inl (cI, 400, .inl (fun _ => 0))), (q61, .inr (11, [.ref (u_16 0), .ref (u_16 1), .ref (u_16 2), .ref (u_16 3), .ref (u_16 4), .ref (u_16 5), .int 0])), ((u_16 0), .inl (cI, 8, .inl (fun _ => 0))), ((u_16 1), .inl (cI, 8, .inl (fun _ => 0))), ((u_16 2), .inl (cI, 8, .inl (fun _ => 0))), ((u_16 3), .inl (cI, 8, .inl (fun _ => 0))), ((u_16 4), .inl (cI, 2048, .inl (fun _ => 0))), ((u_16 5), .inl (cI, 256, .inl (fun _ => 0))), (q72, .inr (0, [.int 0, .ref zz, .int 0])), (q83, .inr (0, [.int 0, .ref zz, .int 0])), (q94, .inr (0, [.int 0, .null, .int 0]))] H := hP
  have hD : va_D A [(x, .inr (12, [.int 0, .int 0, .int 0, .int 0, .ref q5, .ref q17, .ref q28, .ref q44, .ref q50, .ref q61, .ref q72, .ref q83, .null, .null, .null, .null])), (q5, .inr (10, [.ref (u_2 0), .ref (u_2 1), .ref (u_2 2), .ref (u_2 3), .ref (u_2 4), .int 0, .int 0, .int 0, .int 0])), ((u_2 0), .inl (cI, 0, .inl (fun _ => 0))), ((u_2 1), .inl (cI, 12, .inl (fun _ => 0))), ((u_2 2), .inl (cI, 12, .inl (fun _ => 0))), ((u_2 3), .inl (cI, 12, .inl (fun _ => 0))), ((u_2 4), .inl (cI, 32, .inl (fun _ => 0))), (q17, .inr (9, [.ref u_5, .int 0])), (u_5, .inl (cI, 200, .inl (fun _ => 0))), (q28, .inr (6, [.ref (u_8 6), .ref (u_8 5), .int 0, .int 0, .int 0, .int 0])), ((u_8 6), .inl (cI, 0, .inl (fun _ => 0))), ((u_8 5), .inr (10, [.ref (u_8 0), .ref (u_8 1), .ref (u_8 2), .ref (u_8 3), .ref (u_8 4), .int 0, .int 0, .int 0, .int 0])), ((u_8 0), .inl (cI, 0, .inl (fun _ => 0))), ((u_8 1), .inl (cI, 12, .inl (fun _ => 0))), ((u_8 2), .inl (cI, 12, .inl (fun _ => 0))), ((u_8 3), .inl (cI, 12, .inl (fun _ => 0))), ((u_8 4), .inl (cI, 32, .inl (fun _ => 0))), (q44, .inl (cI, 11, .inl (fun _ => 0))), (q50, .inr (8, [.ref (u_13 0), .ref (u_13 1), .ref (u_13 2), .ref (u_13 3), .ref (u_13 4), .ref (u_13 5), .ref (u_13 6), .ref (u_13 7), .ref (u_13 8), .ref (u_13 9)])), ((u_13 0), .inl (cI, 58, .inl (fun _ => 0))), ((u_13 1), .inl (cI, 24, .inl (fun _ => 0))), ((u_13 2), .inl (cI, 400, .inl (dgF 400))), ((u_13 3), .inl (cI, 400, .inl (fun _ => 0))), ((u_13 4), .inl (cI, 10, .inl (fun _ => 0))), ((u_13 5), .inl (cI, 10, .inl (fun _ => 0))), ((u_13 6), .inl (cI, 232, .inl (fun _ => 0))), ((u_13 7), .inl (cI, 3, .inl (fun _ => 0))), ((u_13 8), .inl (cI, 1200, .inl (fun _ => 0))), ((u_13 9), .inl (cI, 400, .inl (fun _ => 0))), (q61, .inr (11, [.ref (u_16 0), .ref (u_16 1), .ref (u_16 2), .ref (u_16 3), .ref (u_16 4), .ref (u_16 5), .int 0])), ((u_16 0), .inl (cI, 8, .inl (fun _ => 0))), ((u_16 1), .inl (cI, 8, .inl (fun _ => 0))), ((u_16 2), .inl (cI, 8, .inl (fun _ => 0))), ((u_16 3), .inl (cI, 8, .inl (fun _ => 0))), ((u_16 4), .inl (cI, 2048, .inl (fun _ => 0))), ((u_16 5), .inl (cI, 256, .inl (fun _ => 0))), (q72, .inr (0, [.int 0, .ref zz, .int 0])), (q83, .inr (0, [.int 0, .ref zz, .int 0])), (q94, .inr (0, [.int 0, .null, .int 0]))] := hD
  refine lv_dup hx hb dX11_init_97 rfl ?_
  have hFc := va_free (wc := [(q94, .inr (0, [.int 0, .null, .int 0]))]) hD hS hA [38] rfl
  refine va_callv (runI_x (As := []) (rest := [.ref q94, .ref x]) S (q_c_AList l D cI cB cZ zz qq vv bt q94 H.size) kI_RX11_60 hK hXS hS hFc hP hD [38] rfl rfl (by decide) ⟨Nat.le_of_ble_eq_true rfl, Nat.le_of_ble_eq_true rfl⟩ ⟨Nat.le_of_ble_eq_true rfl, Nat.le_of_ble_eq_true rfl⟩ rfl hl.1 rfl (Nat.le_of_ble_eq_true rfl) dX11_init_98) hS (fun q _ h => hFc q h) hFc (fun u_25 t H1 locs ht hvm h_26 hB hz1 hk1 hS => ?_)
  obtain ⟨hP1, hD1⟩ := hB
  rw [ht] at hP1
  obtain ⟨hP, hD⟩ := va_join (wr := [(x, .inr (12, [.int 0, .int 0, .int 0, .int 0, .ref q5, .ref q17, .ref q28, .ref q44, .ref q50, .ref q61, .ref q72, .ref q83, .null, .null, .null, .null])), (q5, .inr (10, [.ref (u_2 0), .ref (u_2 1), .ref (u_2 2), .ref (u_2 3), .ref (u_2 4), .int 0, .int 0, .int 0, .int 0])), ((u_2 0), .inl (cI, 0, .inl (fun _ => 0))), ((u_2 1), .inl (cI, 12, .inl (fun _ => 0))), ((u_2 2), .inl (cI, 12, .inl (fun _ => 0))), ((u_2 3), .inl (cI, 12, .inl (fun _ => 0))), ((u_2 4), .inl (cI, 32, .inl (fun _ => 0))), (q17, .inr (9, [.ref u_5, .int 0])), (u_5, .inl (cI, 200, .inl (fun _ => 0))), (q28, .inr (6, [.ref (u_8 6), .ref (u_8 5), .int 0, .int 0, .int 0, .int 0])), ((u_8 6), .inl (cI, 0, .inl (fun _ => 0))), ((u_8 5), .inr (10, [.ref (u_8 0), .ref (u_8 1), .ref (u_8 2), .ref (u_8 3), .ref (u_8 4), .int 0, .int 0, .int 0, .int 0])), ((u_8 0), .inl (cI, 0, .inl (fun _ => 0))), ((u_8 1), .inl (cI, 12, .inl (fun _ => 0))), ((u_8 2), .inl (cI, 12, .inl (fun _ => 0))), ((u_8 3), .inl (cI, 12, .inl (fun _ => 0))), ((u_8 4), .inl (cI, 32, .inl (fun _ => 0))), (q44, .inl (cI, 11, .inl (fun _ => 0))), (q50, .inr (8, [.ref (u_13 0), .ref (u_13 1), .ref (u_13 2), .ref (u_13 3), .ref (u_13 4), .ref (u_13 5), .ref (u_13 6), .ref (u_13 7), .ref (u_13 8), .ref (u_13 9)])), ((u_13 0), .inl (cI, 58, .inl (fun _ => 0))), ((u_13 1), .inl (cI, 24, .inl (fun _ => 0))), ((u_13 2), .inl (cI, 400, .inl (dgF 400))), ((u_13 3), .inl (cI, 400, .inl (fun _ => 0))), ((u_13 4), .inl (cI, 10, .inl (fun _ => 0))), ((u_13 5), .inl (cI, 10, .inl (fun _ => 0))), ((u_13 6), .inl (cI, 232, .inl (fun _ => 0))), ((u_13 7), .inl (cI, 3, .inl (fun _ => 0))), ((u_13 8), .inl (cI, 1200, .inl (fun _ => 0))), ((u_13 9), .inl (cI, 400, .inl (fun _ => 0))), (q61, .inr (11, [.ref (u_16 0), .ref (u_16 1), .ref (u_16 2), .ref (u_16 3), .ref (u_16 4), .ref (u_16 5), .int 0])), ((u_16 0), .inl (cI, 8, .inl (fun _ => 0))), ((u_16 1), .inl (cI, 8, .inl (fun _ => 0))), ((u_16 2), .inl (cI, 8, .inl (fun _ => 0))), ((u_16 3), .inl (cI, 8, .inl (fun _ => 0))), ((u_16 4), .inl (cI, 2048, .inl (fun _ => 0))), ((u_16 5), .inl (cI, 256, .inl (fun _ => 0))), (q72, .inr (0, [.int 0, .ref zz, .int 0])), (q83, .inr (0, [.int 0, .ref zz, .int 0]))]) (w1 := [(q94, .inr (0, [.int 0, .ref zz, .int 0]))]) hP hD [38] [0, 1, 2, 3, 4, 5, 6, 7, 8, 9, 10, 11, 12, 13, 14, 15, 16, 17, 18, 19, 20, 21, 22, 23, 24, 25, 26, 27, 28, 29, 30, 31, 32, 33, 34, 35, 36, 37] rfl rfl (by decide) (by decide) hk1 hFc hP1 hD1
  generalize H1 = H at hP hS ⊢
  have hP : va_P D vwCl [(x, .inr (12, [.int 0, .int 0, .int 0, .int 0, .ref q5, .ref q17, .ref q28, .ref q44, .ref q50, .ref q61, .ref q72, .ref q83, .null, .null, .null, .null])), (q5, .inr (10, [.ref (u_2 0), .ref (u_2 1), .ref (u_2 2), .ref (u_2 3), .ref (u_2 4), .int 0, .int 0, .int 0, .int 0])), ((u_2 0), .inl (cI, 0, .inl (fun _ => 0))), ((u_2 1), .inl (cI, 12, .inl (fun _ => 0))), ((u_2 2), .inl (cI, 12, .inl (fun _ => 0))), ((u_2 3), .inl (cI, 12, .inl (fun _ => 0))), ((u_2 4), .inl (cI, 32, .inl (fun _ => 0))), (q17, .inr (9, [.ref u_5, .int 0])), (u_5, .inl (cI, 200, .inl (fun _ => 0))), (q28, .inr (6, [.ref (u_8 6), .ref (u_8 5), .int 0, .int 0, .int 0, .int 0])), ((u_8 6), .inl (cI, 0, .inl (fun _ => 0))), ((u_8 5), .inr (10, [.ref (u_8 0), .ref (u_8 1), .ref (u_8 2), .ref (u_8 3), .ref (u_8 4), .int 0, .int 0, .int 0, .int 0])), ((u_8 0), .inl (cI, 0, .inl (fun _ => 0))), ((u_8 1), .inl (cI, 12, .inl (fun _ => 0))), ((u_8 2), .inl (cI, 12, .inl (fun _ => 0))), ((u_8 3), .inl (cI, 12, .inl (fun _ => 0))), ((u_8 4), .inl (cI, 32, .inl (fun _ => 0))), (q44, .inl (cI, 11, .inl (fun _ => 0))), (q50, .inr (8, [.ref (u_13 0), .ref (u_13 1), .ref (u_13 2), .ref (u_13 3), .ref (u_13 4), .ref (u_13 5), .ref (u_13 6), .ref (u_13 7), .ref (u_13 8), .ref (u_13 9)])), ((u_13 0), .inl (cI, 58, .inl (fun _ => 0))), ((u_13 1), .inl (cI, 24, .inl (fun _ => 0))), ((u_13 2), .inl (cI, 400, .inl (dgF 400))), ((u_13 3), .inl (cI, 400, .inl (fun _ => 0))), ((u_13 4), .inl (cI, 10, .inl (fun _ => 0))), ((u_13 5), .inl (cI, 10, .inl (fun _ => 0))), ((u_13 6), .inl (cI, 232, .inl (fun _ => 0))), ((u_13 7), .inl (cI, 3, .inl (fun _ => 0))), ((u_13 8), .inl (cI, 1200, .inl (fun _ => 0))), ((u_13 9), .inl (cI, 400, .inl (fun _ => 0))), (q61, .inr (11, [.ref (u_16 0), .ref (u_16 1), .ref (u_16 2), .ref (u_16 3), .ref (u_16 4), .ref (u_16 5), .int 0])), ((u_16 0), .inl (cI, 8, .inl (fun _ => 0))), ((u_16 1), .inl (cI, 8, .inl (fun _ => 0))), ((u_16 2), .inl (cI, 8, .inl (fun _ => 0))), ((u_16 3), .inl (cI, 8, .inl (fun _ => 0))), ((u_16 4), .inl (cI, 2048, .inl (fun _ => 0))), ((u_16 5), .inl (cI, 256, .inl (fun _ => 0))), (q72, .inr (0, [.int 0, .ref zz, .int 0])), (q83, .inr (0, [.int 0, .ref zz, .int 0])), (q94, .inr (0, [.int 0, .ref zz, .int 0]))] H := hP
  have hD : va_D A [(x, .inr (12, [.int 0, .int 0, .int 0, .int 0, .ref q5, .ref q17, .ref q28, .ref q44, .ref q50, .ref q61, .ref q72, .ref q83, .null, .null, .null, .null])), (q5, .inr (10, [.ref (u_2 0), .ref (u_2 1), .ref (u_2 2), .ref (u_2 3), .ref (u_2 4), .int 0, .int 0, .int 0, .int 0])), ((u_2 0), .inl (cI, 0, .inl (fun _ => 0))), ((u_2 1), .inl (cI, 12, .inl (fun _ => 0))), ((u_2 2), .inl (cI, 12, .inl (fun _ => 0))), ((u_2 3), .inl (cI, 12, .inl (fun _ => 0))), ((u_2 4), .inl (cI, 32, .inl (fun _ => 0))), (q17, .inr (9, [.ref u_5, .int 0])), (u_5, .inl (cI, 200, .inl (fun _ => 0))), (q28, .inr (6, [.ref (u_8 6), .ref (u_8 5), .int 0, .int 0, .int 0, .int 0])), ((u_8 6), .inl (cI, 0, .inl (fun _ => 0))), ((u_8 5), .inr (10, [.ref (u_8 0), .ref (u_8 1), .ref (u_8 2), .ref (u_8 3), .ref (u_8 4), .int 0, .int 0, .int 0, .int 0])), ((u_8 0), .inl (cI, 0, .inl (fun _ => 0))), ((u_8 1), .inl (cI, 12, .inl (fun _ => 0))), ((u_8 2), .inl (cI, 12, .inl (fun _ => 0))), ((u_8 3), .inl (cI, 12, .inl (fun _ => 0))), ((u_8 4), .inl (cI, 32, .inl (fun _ => 0))), (q44, .inl (cI, 11, .inl (fun _ => 0))), (q50, .inr (8, [.ref (u_13 0), .ref (u_13 1), .ref (u_13 2), .ref (u_13 3), .ref (u_13 4), .ref (u_13 5), .ref (u_13 6), .ref (u_13 7), .ref (u_13 8), .ref (u_13 9)])), ((u_13 0), .inl (cI, 58, .inl (fun _ => 0))), ((u_13 1), .inl (cI, 24, .inl (fun _ => 0))), ((u_13 2), .inl (cI, 400, .inl (dgF 400))), ((u_13 3), .inl (cI, 400, .inl (fun _ => 0))), ((u_13 4), .inl (cI, 10, .inl (fun _ => 0))), ((u_13 5), .inl (cI, 10, .inl (fun _ => 0))), ((u_13 6), .inl (cI, 232, .inl (fun _ => 0))), ((u_13 7), .inl (cI, 3, .inl (fun _ => 0))), ((u_13 8), .inl (cI, 1200, .inl (fun _ => 0))), ((u_13 9), .inl (cI, 400, .inl (fun _ => 0))), (q61, .inr (11, [.ref (u_16 0), .ref (u_16 1), .ref (u_16 2), .ref (u_16 3), .ref (u_16 4), .ref (u_16 5), .int 0])), ((u_16 0), .inl (cI, 8, .inl (fun _ => 0))), ((u_16 1), .inl (cI, 8, .inl (fun _ => 0))), ((u_16 2), .inl (cI, 8, .inl (fun _ => 0))), ((u_16 3), .inl (cI, 8, .inl (fun _ => 0))), ((u_16 4), .inl (cI, 2048, .inl (fun _ => 0))), ((u_16 5), .inl (cI, 256, .inl (fun _ => 0))), (q72, .inr (0, [.int 0, .ref zz, .int 0])), (q83, .inr (0, [.int 0, .ref zz, .int 0])), (q94, .inr (0, [.int 0, .ref zz, .int 0]))] := hD
  refine pf_RX11_68 S hin hK hP hD hS 0 rfl (v := .ref q94) (Nat.le_of_ble_eq_true rfl) rfl rfl dX11_init_101 (fun H locs hP hD hS => ?_)
  have hP : va_P D vwCl [(x, .inr (12, [.int 0, .int 0, .int 0, .int 0, .ref q5, .ref q17, .ref q28, .ref q44, .ref q50, .ref q61, .ref q72, .ref q83, .ref q94, .null, .null, .null])), (q5, .inr (10, [.ref (u_2 0), .ref (u_2 1), .ref (u_2 2), .ref (u_2 3), .ref (u_2 4), .int 0, .int 0, .int 0, .int 0])), ((u_2 0), .inl (cI, 0, .inl (fun _ => 0))), ((u_2 1), .inl (cI, 12, .inl (fun _ => 0))), ((u_2 2), .inl (cI, 12, .inl (fun _ => 0))), ((u_2 3), .inl (cI, 12, .inl (fun _ => 0))), ((u_2 4), .inl (cI, 32, .inl (fun _ => 0))), (q17, .inr (9, [.ref u_5, .int 0])), (u_5, .inl (cI, 200, .inl (fun _ => 0))), (q28, .inr (6, [.ref (u_8 6), .ref (u_8 5), .int 0, .int 0, .int 0, .int 0])), ((u_8 6), .inl (cI, 0, .inl (fun _ => 0))), ((u_8 5), .inr (10, [.ref (u_8 0), .ref (u_8 1), .ref (u_8 2), .ref (u_8 3), .ref (u_8 4), .int 0, .int 0, .int 0, .int 0])), ((u_8 0), .inl (cI, 0, .inl (fun _ => 0))), ((u_8 1), .inl (cI, 12, .inl (fun _ => 0))), ((u_8 2), .inl (cI, 12, .inl (fun _ => 0))), ((u_8 3), .inl (cI, 12, .inl (fun _ => 0))), ((u_8 4), .inl (cI, 32, .inl (fun _ => 0))), (q44, .inl (cI, 11, .inl (fun _ => 0))), (q50, .inr (8, [.ref (u_13 0), .ref (u_13 1), .ref (u_13 2), .ref (u_13 3), .ref (u_13 4), .ref (u_13 5), .ref (u_13 6), .ref (u_13 7), .ref (u_13 8), .ref (u_13 9)])), ((u_13 0), .inl (cI, 58, .inl (fun _ => 0))), ((u_13 1), .inl (cI, 24, .inl (fun _ => 0))), ((u_13 2), .inl (cI, 400, .inl (dgF 400))), ((u_13 3), .inl (cI, 400, .inl (fun _ => 0))), ((u_13 4), .inl (cI, 10, .inl (fun _ => 0))), ((u_13 5), .inl (cI, 10, .inl (fun _ => 0))), ((u_13 6), .inl (cI, 232, .inl (fun _ => 0))), ((u_13 7), .inl (cI, 3, .inl (fun _ => 0))), ((u_13 8), .inl (cI, 1200, .inl (fun _ => 0))), ((u_13 9), .inl (cI, 400, .inl (fun _ => 0))), (q61, .inr (11, [.ref (u_16 0), .ref (u_16 1), .ref (u_16 2), .ref (u_16 3), .ref (u_16 4), .ref (u_16 5), .int 0])), ((u_16 0), .inl (cI, 8, .inl (fun _ => 0))), ((u_16 1), .inl (cI, 8, .inl (fun _ => 0))), ((u_16 2), .inl (cI, 8, .inl (fun _ => 0))), ((u_16 3), .inl (cI, 8, .inl (fun _ => 0))), ((u_16 4), .inl (cI, 2048, .inl (fun _ => 0))), ((u_16 5), .inl (cI, 256, .inl (fun _ => 0))), (q72, .inr (0, [.int 0, .ref zz, .int 0])), (q83, .inr (0, [.int 0, .ref zz, .int 0])), (q94, .inr (0, [.int 0, .ref zz, .int 0]))] H := hP
  have hD : va_D A [(x, .inr (12, [.int 0, .int 0, .int 0, .int 0, .ref q5, .ref q17, .ref q28, .ref q44, .ref q50, .ref q61, .ref q72, .ref q83, .ref q94, .null, .null, .null])), (q5, .inr (10, [.ref (u_2 0), .ref (u_2 1), .ref (u_2 2), .ref (u_2 3), .ref (u_2 4), .int 0, .int 0, .int 0, .int 0])), ((u_2 0), .inl (cI, 0, .inl (fun _ => 0))), ((u_2 1), .inl (cI, 12, .inl (fun _ => 0))), ((u_2 2), .inl (cI, 12, .inl (fun _ => 0))), ((u_2 3), .inl (cI, 12, .inl (fun _ => 0))), ((u_2 4), .inl (cI, 32, .inl (fun _ => 0))), (q17, .inr (9, [.ref u_5, .int 0])), (u_5, .inl (cI, 200, .inl (fun _ => 0))), (q28, .inr (6, [.ref (u_8 6), .ref (u_8 5), .int 0, .int 0, .int 0, .int 0])), ((u_8 6), .inl (cI, 0, .inl (fun _ => 0))), ((u_8 5), .inr (10, [.ref (u_8 0), .ref (u_8 1), .ref (u_8 2), .ref (u_8 3), .ref (u_8 4), .int 0, .int 0, .int 0, .int 0])), ((u_8 0), .inl (cI, 0, .inl (fun _ => 0))), ((u_8 1), .inl (cI, 12, .inl (fun _ => 0))), ((u_8 2), .inl (cI, 12, .inl (fun _ => 0))), ((u_8 3), .inl (cI, 12, .inl (fun _ => 0))), ((u_8 4), .inl (cI, 32, .inl (fun _ => 0))), (q44, .inl (cI, 11, .inl (fun _ => 0))), (q50, .inr (8, [.ref (u_13 0), .ref (u_13 1), .ref (u_13 2), .ref (u_13 3), .ref (u_13 4), .ref (u_13 5), .ref (u_13 6), .ref (u_13 7), .ref (u_13 8), .ref (u_13 9)])), ((u_13 0), .inl (cI, 58, .inl (fun _ => 0))), ((u_13 1), .inl (cI, 24, .inl (fun _ => 0))), ((u_13 2), .inl (cI, 400, .inl (dgF 400))), ((u_13 3), .inl (cI, 400, .inl (fun _ => 0))), ((u_13 4), .inl (cI, 10, .inl (fun _ => 0))), ((u_13 5), .inl (cI, 10, .inl (fun _ => 0))), ((u_13 6), .inl (cI, 232, .inl (fun _ => 0))), ((u_13 7), .inl (cI, 3, .inl (fun _ => 0))), ((u_13 8), .inl (cI, 1200, .inl (fun _ => 0))), ((u_13 9), .inl (cI, 400, .inl (fun _ => 0))), (q61, .inr (11, [.ref (u_16 0), .ref (u_16 1), .ref (u_16 2), .ref (u_16 3), .ref (u_16 4), .ref (u_16 5), .int 0])), ((u_16 0), .inl (cI, 8, .inl (fun _ => 0))), ((u_16 1), .inl (cI, 8, .inl (fun _ => 0))), ((u_16 2), .inl (cI, 8, .inl (fun _ => 0))), ((u_16 3), .inl (cI, 8, .inl (fun _ => 0))), ((u_16 4), .inl (cI, 2048, .inl (fun _ => 0))), ((u_16 5), .inl (cI, 256, .inl (fun _ => 0))), (q72, .inr (0, [.int 0, .ref zz, .int 0])), (q83, .inr (0, [.int 0, .ref zz, .int 0])), (q94, .inr (0, [.int 0, .ref zz, .int 0]))] := hD
  refine lv_aload_n hx hb dX11_init_104 rfl (lv_at hl 0 rfl) ?_
  refine va_new (ci := 0) (fs := [.int 0, .null, .int 0]) (C := RJx4a65c) (T := TJx4a65c) (N := 3) hx hb S.2.2.2.2 hin_RJx4a65c tyJx4a65c tyJx4a65c_ok hown (S.2.2.2.2 _ (wT_t1 210 rfl rfl)) (S.2.2.2.2 _ (wT_t1 211 rfl rfl)) (S.2.2.2.2 _ (wT_t1 12 rfl rfl)) hK.1 hP hD hS hA rfl (by decide +kernel) (Nat.le_of_ble_eq_true rfl) (Nat.le_of_ble_eq_true rfl) dX11_init_105 (fun q105 H hP hD hS => ?_)
  have hP : va_P D vwCl [(x, .inr (12, [.int 0, .int 0, .int 0, .int 0, .ref q5, .ref q17, .ref q28, .ref q44, .ref q50, .ref q61, .ref q72, .ref q83, .ref q94, .null, .null, .null])), (q5, .inr (10, [.ref (u_2 0), .ref (u_2 1), .ref (u_2 2), .ref (u_2 3), .ref (u_2 4), .int 0, .int 0, .int 0, .int 0])), ((u_2 0), .inl (cI, 0, .inl (fun _ => 0))), ((u_2 1), .inl (cI, 12, .inl (fun _ => 0))), ((u_2 2), .inl (cI, 12, .inl (fun _ => 0))), ((u_2 3), .inl (cI, 12, .inl (fun _ => 0))), ((u_2 4), .inl (cI, 32, .inl (fun _ => 0))), (q17, .inr (9, [.ref u_5, .int 0])), (u_5, .inl (cI, 200, .inl (fun _ => 0))), (q28, .inr (6, [.ref (u_8 6), .ref (u_8 5), .int 0, .int 0, .int 0, .int 0])), ((u_8 6), .inl (cI, 0, .inl (fun _ => 0))), ((u_8 5), .inr (10, [.ref (u_8 0), .ref (u_8 1), .ref (u_8 2), .ref (u_8 3), .ref (u_8 4), .int 0, .int 0, .int 0, .int 0])), ((u_8 0), .inl (cI, 0, .inl (fun _ => 0))), ((u_8 1), .inl (cI, 12, .inl (fun _ => 0))), ((u_8 2), .inl (cI, 12, .inl (fun _ => 0))), ((u_8 3), .inl (cI, 12, .inl (fun _ => 0))), ((u_8 4), .inl (cI, 32, .inl (fun _ => 0))), (q44, .inl (cI, 11, .inl (fun _ => 0))), (q50, .inr (8, [.ref (u_13 0), .ref (u_13 1), .ref (u_13 2), .ref (u_13 3), .ref (u_13 4), .ref (u_13 5), .ref (u_13 6), .ref (u_13 7), .ref (u_13 8), .ref (u_13 9)])), ((u_13 0), .inl (cI, 58, .inl (fun _ => 0))), ((u_13 1), .inl (cI, 24, .inl (fun _ => 0))), ((u_13 2), .inl (cI, 400, .inl (dgF 400))), ((u_13 3), .inl (cI, 400, .inl (fun _ => 0))), ((u_13 4), .inl (cI, 10, .inl (fun _ => 0))), ((u_13 5), .inl (cI, 10, .inl (fun _ => 0))), ((u_13 6), .inl (cI, 232, .inl (fun _ => 0))), ((u_13 7), .inl (cI, 3, .inl (fun _ => 0))), ((u_13 8), .inl (cI, 1200, .inl (fun _ => 0))), ((u_13 9), .inl (cI, 400, .inl (fun _ => 0))), (q61, .inr (11, [.ref (u_16 0), .ref (u_16 1), .ref (u_16 2), .ref (u_16 3), .ref (u_16 4), .ref (u_16 5), .int 0])), ((u_16 0), .inl (cI, 8, .inl (fun _ => 0))), ((u_16 1), .inl (cI, 8, .inl (fun _ => 0))), ((u_16 2), .inl (cI, 8, .inl (fun _ => 0))), ((u_16 3), .inl (cI, 8, .inl (fun _ => 0))), ((u_16 4), .inl (cI, 2048, .inl (fun _ => 0))), ((u_16 5), .inl (cI, 256, .inl (fun _ => 0))), (q72, .inr (0, [.int 0, .ref zz, .int 0])), (q83, .inr (0, [.int 0, .ref zz, .int 0])), (q94, .inr (0, [.int 0, .ref zz, .int 0])), (q105, .inr (0, [.int 0, .null, .int 0]))] H := hP
  have hD : va_D A [(x, .inr (12, [.int 0, .int 0, .int 0, .int 0, .ref q5, .ref q17, .ref q28, .ref q44, .ref q50, .ref q61, .ref q72, .ref q83, .ref q94, .null, .null, .null])), (q5, .inr (10, [.ref (u_2 0), .ref (u_2 1), .ref (u_2 2), .ref (u_2 3), .ref (u_2 4), .int 0, .int 0, .int 0, .int 0])), ((u_2 0), .inl (cI, 0, .inl (fun _ => 0))), ((u_2 1), .inl (cI, 12, .inl (fun _ => 0))), ((u_2 2), .inl (cI, 12, .inl (fun _ => 0))), ((u_2 3), .inl (cI, 12, .inl (fun _ => 0))), ((u_2 4), .inl (cI, 32, .inl (fun _ => 0))), (q17, .inr (9, [.ref u_5, .int 0])), (u_5, .inl (cI, 200, .inl (fun _ => 0))), (q28, .inr (6, [.ref (u_8 6), .ref (u_8 5), .int 0, .int 0, .int 0, .int 0])), ((u_8 6), .inl (cI, 0, .inl (fun _ => 0))), ((u_8 5), .inr (10, [.ref (u_8 0), .ref (u_8 1), .ref (u_8 2), .ref (u_8 3), .ref (u_8 4), .int 0, .int 0, .int 0, .int 0])), ((u_8 0), .inl (cI, 0, .inl (fun _ => 0))), ((u_8 1), .inl (cI, 12, .inl (fun _ => 0))), ((u_8 2), .inl (cI, 12, .inl (fun _ => 0))), ((u_8 3), .inl (cI, 12, .inl (fun _ => 0))), ((u_8 4), .inl (cI, 32, .inl (fun _ => 0))), (q44, .inl (cI, 11, .inl (fun _ => 0))), (q50, .inr (8, [.ref (u_13 0), .ref (u_13 1), .ref (u_13 2), .ref (u_13 3), .ref (u_13 4), .ref (u_13 5), .ref (u_13 6), .ref (u_13 7), .ref (u_13 8), .ref (u_13 9)])), ((u_13 0), .inl (cI, 58, .inl (fun _ => 0))), ((u_13 1), .inl (cI, 24, .inl (fun _ => 0))), ((u_13 2), .inl (cI, 400, .inl (dgF 400))), ((u_13 3), .inl (cI, 400, .inl (fun _ => 0))), ((u_13 4), .inl (cI, 10, .inl (fun _ => 0))), ((u_13 5), .inl (cI, 10, .inl (fun _ => 0))), ((u_13 6), .inl (cI, 232, .inl (fun _ => 0))), ((u_13 7), .inl (cI, 3, .inl (fun _ => 0))), ((u_13 8), .inl (cI, 1200, .inl (fun _ => 0))), ((u_13 9), .inl (cI, 400, .inl (fun _ => 0))), (q61, .inr (11, [.ref (u_16 0), .ref (u_16 1), .ref (u_16 2), .ref (u_16 3), .ref (u_16 4), .ref (u_16 5), .int 0])), ((u_16 0), .inl (cI, 8, .inl (fun _ => 0))), ((u_16 1), .inl (cI, 8, .inl (fun _ => 0))), ((u_16 2), .inl (cI, 8, .inl (fun _ => 0))), ((u_16 3), .inl (cI, 8, .inl (fun _ => 0))), ((u_16 4), .inl (cI, 2048, .inl (fun _ => 0))), ((u_16 5), .inl (cI, 256, .inl (fun _ => 0))), (q72, .inr (0, [.int 0, .ref zz, .int 0])), (q83, .inr (0, [.int 0, .ref zz, .int 0])), (q94, .inr (0, [.int 0, .ref zz, .int 0])), (q105, .inr (0, [.int 0, .null, .int 0]))] := hD
  refine lv_dup hx hb dX11_init_108 rfl ?_
  have hFc := va_free (wc := [(q105, .inr (0, [.int 0, .null, .int 0]))]) hD hS hA [39] rfl
  refine va_callv (runI_x (As := []) (rest := [.ref q105, .ref x]) S (q_c_AList l D cI cB cZ zz qq vv bt q105 H.size) kI_RX11_60 hK hXS hS hFc hP hD [39] rfl rfl (by decide) ⟨Nat.le_of_ble_eq_true rfl, Nat.le_of_ble_eq_true rfl⟩ ⟨Nat.le_of_ble_eq_true rfl, Nat.le_of_ble_eq_true rfl⟩ rfl hl.1 rfl (Nat.le_of_ble_eq_true rfl) dX11_init_109) hS (fun q _ h => hFc q h) hFc (fun u_28 t H1 locs ht hvm h_29 hB hz1 hk1 hS => ?_)
  obtain ⟨hP1, hD1⟩ := hB
  rw [ht] at hP1
  obtain ⟨hP, hD⟩ := va_join (wr := [(x, .inr (12, [.int 0, .int 0, .int 0, .int 0, .ref q5, .ref q17, .ref q28, .ref q44, .ref q50, .ref q61, .ref q72, .ref q83, .ref q94, .null, .null, .null])), (q5, .inr (10, [.ref (u_2 0), .ref (u_2 1), .ref (u_2 2), .ref (u_2 3), .ref (u_2 4), .int 0, .int 0, .int 0, .int 0])), ((u_2 0), .inl (cI, 0, .inl (fun _ => 0))), ((u_2 1), .inl (cI, 12, .inl (fun _ => 0))), ((u_2 2), .inl (cI, 12, .inl (fun _ => 0))), ((u_2 3), .inl (cI, 12, .inl (fun _ => 0))), ((u_2 4), .inl (cI, 32, .inl (fun _ => 0))), (q17, .inr (9, [.ref u_5, .int 0])), (u_5, .inl (cI, 200, .inl (fun _ => 0))), (q28, .inr (6, [.ref (u_8 6), .ref (u_8 5), .int 0, .int 0, .int 0, .int 0])), ((u_8 6), .inl (cI, 0, .inl (fun _ => 0))), ((u_8 5), .inr (10, [.ref (u_8 0), .ref (u_8 1), .ref (u_8 2), .ref (u_8 3), .ref (u_8 4), .int 0, .int 0, .int 0, .int 0])), ((u_8 0), .inl (cI, 0, .inl (fun _ => 0))), ((u_8 1), .inl (cI, 12, .inl (fun _ => 0))), ((u_8 2), .inl (cI, 12, .inl (fun _ => 0))), ((u_8 3), .inl (cI, 12, .inl (fun _ => 0))), ((u_8 4), .inl (cI, 32, .inl (fun _ => 0))), (q44, .inl (cI, 11, .inl (fun _ => 0))), (q50, .inr (8, [.ref (u_13 0), .ref (u_13 1), .ref (u_13 2), .ref (u_13 3), .ref (u_13 4), .ref (u_13 5), .ref (u_13 6), .ref (u_13 7), .ref (u_13 8), .ref (u_13 9)])), ((u_13 0), .inl (cI, 58, .inl (fun _ => 0))), ((u_13 1), .inl (cI, 24, .inl (fun _ => 0))), ((u_13 2), .inl (cI, 400, .inl (dgF 400))), ((u_13 3), .inl (cI, 400, .inl (fun _ => 0))), ((u_13 4), .inl (cI, 10, .inl (fun _ => 0))), ((u_13 5), .inl (cI, 10, .inl (fun _ => 0))), ((u_13 6), .inl (cI, 232, .inl (fun _ => 0))), ((u_13 7), .inl (cI, 3, .inl (fun _ => 0))), ((u_13 8), .inl (cI, 1200, .inl (fun _ => 0))), ((u_13 9), .inl (cI, 400, .inl (fun _ => 0))), (q61, .inr (11, [.ref (u_16 0), .ref (u_16 1), .ref (u_16 2), .ref (u_16 3), .ref (u_16 4), .ref (u_16 5), .int 0])), ((u_16 0), .inl (cI, 8, .inl (fun _ => 0))), ((u_16 1), .inl (cI, 8, .inl (fun _ => 0))), ((u_16 2), .inl (cI, 8, .inl (fun _ => 0))), ((u_16 3), .inl (cI, 8, .inl (fun _ => 0))), ((u_16 4), .inl (cI, 2048, .inl (fun _ => 0))), ((u_16 5), .inl (cI, 256, .inl (fun _ => 0))), (q72, .inr (0, [.int 0, .ref zz, .int 0])), (q83, .inr (0, [.int 0, .ref zz, .int 0])), (q94, .inr (0, [.int 0, .ref zz, .int 0]))]) (w1 := [(q105, .inr (0, [.int 0, .ref zz, .int 0]))]) hP hD [39] [0, 1, 2, 3, 4, 5, 6, 7, 8, 9, 10, 11, 12, 13, 14, 15, 16, 17, 18, 19, 20, 21, 22, 23, 24, 25, 26, 27, 28, 29, 30, 31, 32, 33, 34, 35, 36, 37, 38] rfl rfl (by decide) (by decide) hk1 hFc hP1 hD1
  generalize H1 = H at hP hS ⊢
  have hP : va_P D vwCl [(x, .inr (12, [.int 0, .int 0, .int 0, .int 0, .ref q5, .ref q17, .ref q28, .ref q44, .ref q50, .ref q61, .ref q72, .ref q83, .ref q94, .null, .null, .null])), (q5, .inr (10, [.ref (u_2 0), .ref (u_2 1), .ref (u_2 2), .ref (u_2 3), .ref (u_2 4), .int 0, .int 0, .int 0, .int 0])), ((u_2 0), .inl (cI, 0, .inl (fun _ => 0))), ((u_2 1), .inl (cI, 12, .inl (fun _ => 0))), ((u_2 2), .inl (cI, 12, .inl (fun _ => 0))), ((u_2 3), .inl (cI, 12, .inl (fun _ => 0))), ((u_2 4), .inl (cI, 32, .inl (fun _ => 0))), (q17, .inr (9, [.ref u_5, .int 0])), (u_5, .inl (cI, 200, .inl (fun _ => 0))), (q28, .inr (6, [.ref (u_8 6), .ref (u_8 5), .int 0, .int 0, .int 0, .int 0])), ((u_8 6), .inl (cI, 0, .inl (fun _ => 0))), ((u_8 5), .inr (10, [.ref (u_8 0), .ref (u_8 1), .ref (u_8 2), .ref (u_8 3), .ref (u_8 4), .int 0, .int 0, .int 0, .int 0])), ((u_8 0), .inl (cI, 0, .inl (fun _ => 0))), ((u_8 1), .inl (cI, 12, .inl (fun _ => 0))), ((u_8 2), .inl (cI, 12, .inl (fun _ => 0))), ((u_8 3), .inl (cI, 12, .inl (fun _ => 0))), ((u_8 4), .inl (cI, 32, .inl (fun _ => 0))), (q44, .inl (cI, 11, .inl (fun _ => 0))), (q50, .inr (8, [.ref (u_13 0), .ref (u_13 1), .ref (u_13 2), .ref (u_13 3), .ref (u_13 4), .ref (u_13 5), .ref (u_13 6), .ref (u_13 7), .ref (u_13 8), .ref (u_13 9)])), ((u_13 0), .inl (cI, 58, .inl (fun _ => 0))), ((u_13 1), .inl (cI, 24, .inl (fun _ => 0))), ((u_13 2), .inl (cI, 400, .inl (dgF 400))), ((u_13 3), .inl (cI, 400, .inl (fun _ => 0))), ((u_13 4), .inl (cI, 10, .inl (fun _ => 0))), ((u_13 5), .inl (cI, 10, .inl (fun _ => 0))), ((u_13 6), .inl (cI, 232, .inl (fun _ => 0))), ((u_13 7), .inl (cI, 3, .inl (fun _ => 0))), ((u_13 8), .inl (cI, 1200, .inl (fun _ => 0))), ((u_13 9), .inl (cI, 400, .inl (fun _ => 0))), (q61, .inr (11, [.ref (u_16 0), .ref (u_16 1), .ref (u_16 2), .ref (u_16 3), .ref (u_16 4), .ref (u_16 5), .int 0])), ((u_16 0), .inl (cI, 8, .inl (fun _ => 0))), ((u_16 1), .inl (cI, 8, .inl (fun _ => 0))), ((u_16 2), .inl (cI, 8, .inl (fun _ => 0))), ((u_16 3), .inl (cI, 8, .inl (fun _ => 0))), ((u_16 4), .inl (cI, 2048, .inl (fun _ => 0))), ((u_16 5), .inl (cI, 256, .inl (fun _ => 0))), (q72, .inr (0, [.int 0, .ref zz, .int 0])), (q83, .inr (0, [.int 0, .ref zz, .int 0])), (q94, .inr (0, [.int 0, .ref zz, .int 0])), (q105, .inr (0, [.int 0, .ref zz, .int 0]))] H := hP
  have hD : va_D A [(x, .inr (12, [.int 0, .int 0, .int 0, .int 0, .ref q5, .ref q17, .ref q28, .ref q44, .ref q50, .ref q61, .ref q72, .ref q83, .ref q94, .null, .null, .null])), (q5, .inr (10, [.ref (u_2 0), .ref (u_2 1), .ref (u_2 2), .ref (u_2 3), .ref (u_2 4), .int 0, .int 0, .int 0, .int 0])), ((u_2 0), .inl (cI, 0, .inl (fun _ => 0))), ((u_2 1), .inl (cI, 12, .inl (fun _ => 0))), ((u_2 2), .inl (cI, 12, .inl (fun _ => 0))), ((u_2 3), .inl (cI, 12, .inl (fun _ => 0))), ((u_2 4), .inl (cI, 32, .inl (fun _ => 0))), (q17, .inr (9, [.ref u_5, .int 0])), (u_5, .inl (cI, 200, .inl (fun _ => 0))), (q28, .inr (6, [.ref (u_8 6), .ref (u_8 5), .int 0, .int 0, .int 0, .int 0])), ((u_8 6), .inl (cI, 0, .inl (fun _ => 0))), ((u_8 5), .inr (10, [.ref (u_8 0), .ref (u_8 1), .ref (u_8 2), .ref (u_8 3), .ref (u_8 4), .int 0, .int 0, .int 0, .int 0])), ((u_8 0), .inl (cI, 0, .inl (fun _ => 0))), ((u_8 1), .inl (cI, 12, .inl (fun _ => 0))), ((u_8 2), .inl (cI, 12, .inl (fun _ => 0))), ((u_8 3), .inl (cI, 12, .inl (fun _ => 0))), ((u_8 4), .inl (cI, 32, .inl (fun _ => 0))), (q44, .inl (cI, 11, .inl (fun _ => 0))), (q50, .inr (8, [.ref (u_13 0), .ref (u_13 1), .ref (u_13 2), .ref (u_13 3), .ref (u_13 4), .ref (u_13 5), .ref (u_13 6), .ref (u_13 7), .ref (u_13 8), .ref (u_13 9)])), ((u_13 0), .inl (cI, 58, .inl (fun _ => 0))), ((u_13 1), .inl (cI, 24, .inl (fun _ => 0))), ((u_13 2), .inl (cI, 400, .inl (dgF 400))), ((u_13 3), .inl (cI, 400, .inl (fun _ => 0))), ((u_13 4), .inl (cI, 10, .inl (fun _ => 0))), ((u_13 5), .inl (cI, 10, .inl (fun _ => 0))), ((u_13 6), .inl (cI, 232, .inl (fun _ => 0))), ((u_13 7), .inl (cI, 3, .inl (fun _ => 0))), ((u_13 8), .inl (cI, 1200, .inl (fun _ => 0))), ((u_13 9), .inl (cI, 400, .inl (fun _ => 0))), (q61, .inr (11, [.ref (u_16 0), .ref (u_16 1), .ref (u_16 2), .ref (u_16 3), .ref (u_16 4), .ref (u_16 5), .int 0])), ((u_16 0), .inl (cI, 8, .inl (fun _ => 0))), ((u_16 1), .inl (cI, 8, .inl (fun _ => 0))), ((u_16 2), .inl (cI, 8, .inl (fun _ => 0))), ((u_16 3), .inl (cI, 8, .inl (fun _ => 0))), ((u_16 4), .inl (cI, 2048, .inl (fun _ => 0))), ((u_16 5), .inl (cI, 256, .inl (fun _ => 0))), (q72, .inr (0, [.int 0, .ref zz, .int 0])), (q83, .inr (0, [.int 0, .ref zz, .int 0])), (q94, .inr (0, [.int 0, .ref zz, .int 0])), (q105, .inr (0, [.int 0, .ref zz, .int 0]))] := hD
  refine pf_RX11_71 S hin hK hP hD hS 0 rfl (v := .ref q105) (Nat.le_of_ble_eq_true rfl) rfl rfl dX11_init_112 (fun H locs hP hD hS => ?_)
  have hP : va_P D vwCl [(x, .inr (12, [.int 0, .int 0, .int 0, .int 0, .ref q5, .ref q17, .ref q28, .ref q44, .ref q50, .ref q61, .ref q72, .ref q83, .ref q94, .ref q105, .null, .null])), (q5, .inr (10, [.ref (u_2 0), .ref (u_2 1), .ref (u_2 2), .ref (u_2 3), .ref (u_2 4), .int 0, .int 0, .int 0, .int 0])), ((u_2 0), .inl (cI, 0, .inl (fun _ => 0))), ((u_2 1), .inl (cI, 12, .inl (fun _ => 0))), ((u_2 2), .inl (cI, 12, .inl (fun _ => 0))), ((u_2 3), .inl (cI, 12, .inl (fun _ => 0))), ((u_2 4), .inl (cI, 32, .inl (fun _ => 0))), (q17, .inr (9, [.ref u_5, .int 0])), (u_5, .inl (cI, 200, .inl (fun _ => 0))), (q28, .inr (6, [.ref (u_8 6), .ref (u_8 5), .int 0, .int 0, .int 0, .int 0])), ((u_8 6), .inl (cI, 0, .inl (fun _ => 0))), ((u_8 5), .inr (10, [.ref (u_8 0), .ref (u_8 1), .ref (u_8 2), .ref (u_8 3), .ref (u_8 4), .int 0, .int 0, .int 0, .int 0])), ((u_8 0), .inl (cI, 0, .inl (fun _ => 0))), ((u_8 1), .inl (cI, 12, .inl (fun _ => 0))), ((u_8 2), .inl (cI, 12, .inl (fun _ => 0))), ((u_8 3), .inl (cI, 12, .inl (fun _ => 0))), ((u_8 4), .inl (cI, 32, .inl (fun _ => 0))), (q44, .inl (cI, 11, .inl (fun _ => 0))), (q50, .inr (8, [.ref (u_13 0), .ref (u_13 1), .ref (u_13 2), .ref (u_13 3), .ref (u_13 4), .ref (u_13 5), .ref (u_13 6), .ref (u_13 7), .ref (u_13 8), .ref (u_13 9)])), ((u_13 0), .inl (cI, 58, .inl (fun _ => 0))), ((u_13 1), .inl (cI, 24, .inl (fun _ => 0))), ((u_13 2), .inl (cI, 400, .inl (dgF 400))), ((u_13 3), .inl (cI, 400, .inl (fun _ => 0))), ((u_13 4), .inl (cI, 10, .inl (fun _ => 0))), ((u_13 5), .inl (cI, 10, .inl (fun _ => 0))), ((u_13 6), .inl (cI, 232, .inl (fun _ => 0))), ((u_13 7), .inl (cI, 3, .inl (fun _ => 0))), ((u_13 8), .inl (cI, 1200, .inl (fun _ => 0))), ((u_13 9), .inl (cI, 400, .inl (fun _ => 0))), (q61, .inr (11, [.ref (u_16 0), .ref (u_16 1), .ref (u_16 2), .ref (u_16 3), .ref (u_16 4), .ref (u_16 5), .int 0])), ((u_16 0), .inl (cI, 8, .inl (fun _ => 0))), ((u_16 1), .inl (cI, 8, .inl (fun _ => 0))), ((u_16 2), .inl (cI, 8, .inl (fun _ => 0))), ((u_16 3), .inl (cI, 8, .inl (fun _ => 0))), ((u_16 4), .inl (cI, 2048, .inl (fun _ => 0))), ((u_16 5), .inl (cI, 256, .inl (fun _ => 0))), (q72, .inr (0, [.int 0, .ref zz, .int 0])), (q83, .inr (0, [.int 0, .ref zz, .int 0])), (q94, .inr (0, [.int 0, .ref zz, .int 0])), (q105, .inr (0, [.int 0, .ref zz, .int 0]))] H := hP
  have hD : va_D A [(x, .inr (12, [.int 0, .int 0, .int 0, .int 0, .ref q5, .ref q17, .ref q28, .ref q44, .ref q50, .ref q61, .ref q72, .ref q83, .ref q94, .ref q105, .null, .null])), (q5, .inr (10, [.ref (u_2 0), .ref (u_2 1), .ref (u_2 2), .ref (u_2 3), .ref (u_2 4), .int 0, .int 0, .int 0, .int 0])), ((u_2 0), .inl (cI, 0, .inl (fun _ => 0))), ((u_2 1), .inl (cI, 12, .inl (fun _ => 0))), ((u_2 2), .inl (cI, 12, .inl (fun _ => 0))), ((u_2 3), .inl (cI, 12, .inl (fun _ => 0))), ((u_2 4), .inl (cI, 32, .inl (fun _ => 0))), (q17, .inr (9, [.ref u_5, .int 0])), (u_5, .inl (cI, 200, .inl (fun _ => 0))), (q28, .inr (6, [.ref (u_8 6), .ref (u_8 5), .int 0, .int 0, .int 0, .int 0])), ((u_8 6), .inl (cI, 0, .inl (fun _ => 0))), ((u_8 5), .inr (10, [.ref (u_8 0), .ref (u_8 1), .ref (u_8 2), .ref (u_8 3), .ref (u_8 4), .int 0, .int 0, .int 0, .int 0])), ((u_8 0), .inl (cI, 0, .inl (fun _ => 0))), ((u_8 1), .inl (cI, 12, .inl (fun _ => 0))), ((u_8 2), .inl (cI, 12, .inl (fun _ => 0))), ((u_8 3), .inl (cI, 12, .inl (fun _ => 0))), ((u_8 4), .inl (cI, 32, .inl (fun _ => 0))), (q44, .inl (cI, 11, .inl (fun _ => 0))), (q50, .inr (8, [.ref (u_13 0), .ref (u_13 1), .ref (u_13 2), .ref (u_13 3), .ref (u_13 4), .ref (u_13 5), .ref (u_13 6), .ref (u_13 7), .ref (u_13 8), .ref (u_13 9)])), ((u_13 0), .inl (cI, 58, .inl (fun _ => 0))), ((u_13 1), .inl (cI, 24, .inl (fun _ => 0))), ((u_13 2), .inl (cI, 400, .inl (dgF 400))), ((u_13 3), .inl (cI, 400, .inl (fun _ => 0))), ((u_13 4), .inl (cI, 10, .inl (fun _ => 0))), ((u_13 5), .inl (cI, 10, .inl (fun _ => 0))), ((u_13 6), .inl (cI, 232, .inl (fun _ => 0))), ((u_13 7), .inl (cI, 3, .inl (fun _ => 0))), ((u_13 8), .inl (cI, 1200, .inl (fun _ => 0))), ((u_13 9), .inl (cI, 400, .inl (fun _ => 0))), (q61, .inr (11, [.ref (u_16 0), .ref (u_16 1), .ref (u_16 2), .ref (u_16 3), .ref (u_16 4), .ref (u_16 5), .int 0])), ((u_16 0), .inl (cI, 8, .inl (fun _ => 0))), ((u_16 1), .inl (cI, 8, .inl (fun _ => 0))), ((u_16 2), .inl (cI, 8, .inl (fun _ => 0))), ((u_16 3), .inl (cI, 8, .inl (fun _ => 0))), ((u_16 4), .inl (cI, 2048, .inl (fun _ => 0))), ((u_16 5), .inl (cI, 256, .inl (fun _ => 0))), (q72, .inr (0, [.int 0, .ref zz, .int 0])), (q83, .inr (0, [.int 0, .ref zz, .int 0])), (q94, .inr (0, [.int 0, .ref zz, .int 0])), (q105, .inr (0, [.int 0, .ref zz, .int 0]))] := hD
  refine lv_aload_n hx hb dX11_init_115 rfl (lv_at hl 0 rfl) ?_
  refine va_new (ci := 0) (fs := [.int 0, .null, .int 0]) (C := RJx4a65c) (T := TJx4a65c) (N := 3) hx hb S.2.2.2.2 hin_RJx4a65c tyJx4a65c tyJx4a65c_ok hown (S.2.2.2.2 _ (wT_t1 210 rfl rfl)) (S.2.2.2.2 _ (wT_t1 211 rfl rfl)) (S.2.2.2.2 _ (wT_t1 12 rfl rfl)) hK.1 hP hD hS hA rfl (by decide +kernel) (Nat.le_of_ble_eq_true rfl) (Nat.le_of_ble_eq_true rfl) dX11_init_116 (fun q116 H hP hD hS => ?_)
  have hP : va_P D vwCl [(x, .inr (12, [.int 0, .int 0, .int 0, .int 0, .ref q5, .ref q17, .ref q28, .ref q44, .ref q50, .ref q61, .ref q72, .ref q83, .ref q94, .ref q105, .null, .null])), (q5, .inr (10, [.ref (u_2 0), .ref (u_2 1), .ref (u_2 2), .ref (u_2 3), .ref (u_2 4), .int 0, .int 0, .int 0, .int 0])), ((u_2 0), .inl (cI, 0, .inl (fun _ => 0))), ((u_2 1), .inl (cI, 12, .inl (fun _ => 0))), ((u_2 2), .inl (cI, 12, .inl (fun _ => 0))), ((u_2 3), .inl (cI, 12, .inl (fun _ => 0))), ((u_2 4), .inl (cI, 32, .inl (fun _ => 0))), (q17, .inr (9, [.ref u_5, .int 0])), (u_5, .inl (cI, 200, .inl (fun _ => 0))), (q28, .inr (6, [.ref (u_8 6), .ref (u_8 5), .int 0, .int 0, .int 0, .int 0])), ((u_8 6), .inl (cI, 0, .inl (fun _ => 0))), ((u_8 5), .inr (10, [.ref (u_8 0), .ref (u_8 1), .ref (u_8 2), .ref (u_8 3), .ref (u_8 4), .int 0, .int 0, .int 0, .int 0])), ((u_8 0), .inl (cI, 0, .inl (fun _ => 0))), ((u_8 1), .inl (cI, 12, .inl (fun _ => 0))), ((u_8 2), .inl (cI, 12, .inl (fun _ => 0))), ((u_8 3), .inl (cI, 12, .inl (fun _ => 0))), ((u_8 4), .inl (cI, 32, .inl (fun _ => 0))), (q44, .inl (cI, 11, .inl (fun _ => 0))), (q50, .inr (8, [.ref (u_13 0), .ref (u_13 1), .ref (u_13 2), .ref (u_13 3), .ref (u_13 4), .ref (u_13 5), .ref (u_13 6), .ref (u_13 7), .ref (u_13 8), .ref (u_13 9)])), ((u_13 0), .inl (cI, 58, .inl (fun _ => 0))), ((u_13 1), .inl (cI, 24, .inl (fun _ => 0))), ((u_13 2), .inl (cI, 400, .inl (dgF 400))), ((u_13 3), .inl (cI, 400, .inl (fun _ => 0))), ((u_13 4), .inl (cI, 10, .inl (fun _ => 0))), ((u_13 5), .inl (cI, 10, .inl (fun _ => 0))), ((u_13 6), .inl (cI, 232, .inl (fun _ => 0))), ((u_13 7), .inl (cI, 3, .inl (fun _ => 0))), ((u_13 8), .inl (cI, 1200, .inl (fun _ => 0))), ((u_13 9), .inl (cI, 400, .inl (fun _ => 0))), (q61, .inr (11, [.ref (u_16 0), .ref (u_16 1), .ref (u_16 2), .ref (u_16 3), .ref (u_16 4), .ref (u_16 5), .int 0])), ((u_16 0), .inl (cI, 8, .inl (fun _ => 0))), ((u_16 1), .inl (cI, 8, .inl (fun _ => 0))), ((u_16 2), .inl (cI, 8, .inl (fun _ => 0))), ((u_16 3), .inl (cI, 8, .inl (fun _ => 0))), ((u_16 4), .inl (cI, 2048, .inl (fun _ => 0))), ((u_16 5), .inl (cI, 256, .inl (fun _ => 0))), (q72, .inr (0, [.int 0, .ref zz, .int 0])), (q83, .inr (0, [.int 0, .ref zz, .int 0])), (q94, .inr (0, [.int 0, .ref zz, .int 0])), (q105, .inr (0, [.int 0, .ref zz, .int 0])), (q116, .inr (0, [.int 0, .null, .int 0]))] H := hP
  have hD : va_D A [(x, .inr (12, [.int 0, .int 0, .int 0, .int 0, .ref q5, .ref q17, .ref q28, .ref q44, .ref q50, .ref q61, .ref q72, .ref q83, .ref q94, .ref q105, .null, .null])), (q5, .inr (10, [.ref (u_2 0), .ref (u_2 1), .ref (u_2 2), .ref (u_2 3), .ref (u_2 4), .int 0, .int 0, .int 0, .int 0])), ((u_2 0), .inl (cI, 0, .inl (fun _ => 0))), ((u_2 1), .inl (cI, 12, .inl (fun _ => 0))), ((u_2 2), .inl (cI, 12, .inl (fun _ => 0))), ((u_2 3), .inl (cI, 12, .inl (fun _ => 0))), ((u_2 4), .inl (cI, 32, .inl (fun _ => 0))), (q17, .inr (9, [.ref u_5, .int 0])), (u_5, .inl (cI, 200, .inl (fun _ => 0))), (q28, .inr (6, [.ref (u_8 6), .ref (u_8 5), .int 0, .int 0, .int 0, .int 0])), ((u_8 6), .inl (cI, 0, .inl (fun _ => 0))), ((u_8 5), .inr (10, [.ref (u_8 0), .ref (u_8 1), .ref (u_8 2), .ref (u_8 3), .ref (u_8 4), .int 0, .int 0, .int 0, .int 0])), ((u_8 0), .inl (cI, 0, .inl (fun _ => 0))), ((u_8 1), .inl (cI, 12, .inl (fun _ => 0))), ((u_8 2), .inl (cI, 12, .inl (fun _ => 0))), ((u_8 3), .inl (cI, 12, .inl (fun _ => 0))), ((u_8 4), .inl (cI, 32, .inl (fun _ => 0))), (q44, .inl (cI, 11, .inl (fun _ => 0))), (q50, .inr (8, [.ref (u_13 0), .ref (u_13 1), .ref (u_13 2), .ref (u_13 3), .ref (u_13 4), .ref (u_13 5), .ref (u_13 6), .ref (u_13 7), .ref (u_13 8), .ref (u_13 9)])), ((u_13 0), .inl (cI, 58, .inl (fun _ => 0))), ((u_13 1), .inl (cI, 24, .inl (fun _ => 0))), ((u_13 2), .inl (cI, 400, .inl (dgF 400))), ((u_13 3), .inl (cI, 400, .inl (fun _ => 0))), ((u_13 4), .inl (cI, 10, .inl (fun _ => 0))), ((u_13 5), .inl (cI, 10, .inl (fun _ => 0))), ((u_13 6), .inl (cI, 232, .inl (fun _ => 0))), ((u_13 7), .inl (cI, 3, .inl (fun _ => 0))), ((u_13 8), .inl (cI, 1200, .inl (fun _ => 0))), ((u_13 9), .inl (cI, 400, .inl (fun _ => 0))), (q61, .inr (11, [.ref (u_16 0), .ref (u_16 1), .ref (u_16 2), .ref (u_16 3), .ref (u_16 4), .ref (u_16 5), .int 0])), ((u_16 0), .inl (cI, 8, .inl (fun _ => 0))), ((u_16 1), .inl (cI, 8, .inl (fun _ => 0))), ((u_16 2), .inl (cI, 8, .inl (fun _ => 0))), ((u_16 3), .inl (cI, 8, .inl (fun _ => 0))), ((u_16 4), .inl (cI, 2048, .inl (fun _ => 0))), ((u_16 5), .inl (cI, 256, .inl (fun _ => 0))), (q72, .inr (0, [.int 0, .ref zz, .int 0])), (q83, .inr (0, [.int 0, .ref zz, .int 0])), (q94, .inr (0, [.int 0, .ref zz, .int 0])), (q105, .inr (0, [.int 0, .ref zz, .int 0])), (q116, .inr (0, [.int 0, .null, .int 0]))] := hD
  refine lv_dup hx hb dX11_init_119 rfl ?_
  have hFc := va_free (wc := [(q116, .inr (0, [.int 0, .null, .int 0]))]) hD hS hA [40] rfl
  refine va_callv (runI_x (As := []) (rest := [.ref q116, .ref x]) S (q_c_AList l D cI cB cZ zz qq vv bt q116 H.size) kI_RX11_60 hK hXS hS hFc hP hD [40] rfl rfl (by decide) ⟨Nat.le_of_ble_eq_true rfl, Nat.le_of_ble_eq_true rfl⟩ ⟨Nat.le_of_ble_eq_true rfl, Nat.le_of_ble_eq_true rfl⟩ rfl hl.1 rfl (Nat.le_of_ble_eq_true rfl) dX11_init_120) hS (fun q _ h => hFc q h) hFc (fun u_31 t H1 locs ht hvm h_32 hB hz1 hk1 hS => ?_)
  obtain ⟨hP1, hD1⟩ := hB
  rw [ht] at hP1
  obtain ⟨hP, hD⟩ := va_join (wr := [(x, .inr (12, [.int 0, .int 0, .int 0, .int 0, .ref q5, .ref q17, .ref q28, .ref q44, .ref q50, .ref q61, .ref q72, .ref q83, .ref q94, .ref q105, .null, .null])), (q5, .inr (10, [.ref (u_2 0), .ref (u_2 1), .ref (u_2 2), .ref (u_2 3), .ref (u_2 4), .int 0, .int 0, .int 0, .int 0])), ((u_2 0), .inl (cI, 0, .inl (fun _ => 0))), ((u_2 1), .inl (cI, 12, .inl (fun _ => 0))), ((u_2 2), .inl (cI, 12, .inl (fun _ => 0))), ((u_2 3), .inl (cI, 12, .inl (fun _ => 0))), ((u_2 4), .inl (cI, 32, .inl (fun _ => 0))), (q17, .inr (9, [.ref u_5, .int 0])), (u_5, .inl (cI, 200, .inl (fun _ => 0))), (q28, .inr (6, [.ref (u_8 6), .ref (u_8 5), .int 0, .int 0, .int 0, .int 0])), ((u_8 6), .inl (cI, 0, .inl (fun _ => 0))), ((u_8 5), .inr (10, [.ref (u_8 0), .ref (u_8 1), .ref (u_8 2), .ref (u_8 3), .ref (u_8 4), .int 0, .int 0, .int 0, .int 0])), ((u_8 0), .inl (cI, 0, .inl (fun _ => 0))), ((u_8 1), .inl (cI, 12, .inl (fun _ => 0))), ((u_8 2), .inl (cI, 12, .inl (fun _ => 0))), ((u_8 3), .inl (cI, 12, .inl (fun _ => 0))), ((u_8 4), .inl (cI, 32, .inl (fun _ => 0))), (q44, .inl (cI, 11, .inl (fun _ => 0))), (q50, .inr (8, [.ref (u_13 0), .ref (u_13 1), .ref (u_13 2), .ref (u_13 3), .ref (u_13 4), .ref (u_13 5), .ref (u_13 6), .ref (u_13 7), .ref (u_13 8), .ref (u_13 9)])), ((u_13 0), .inl (cI, 58, .inl (fun _ => 0))), ((u_13 1), .inl (cI, 24, .inl (fun _ => 0))), ((u_13 2), .inl (cI, 400, .inl (dgF 400))), ((u_13 3), .inl (cI, 400, .inl (fun _ => 0))), ((u_13 4), .inl (cI, 10, .inl (fun _ => 0))), ((u_13 5), .inl (cI, 10, .inl (fun _ => 0))), ((u_13 6), .inl (cI, 232, .inl (fun _ => 0))), ((u_13 7), .inl (cI, 3, .inl (fun _ => 0))), ((u_13 8), .inl (cI, 1200, .inl (fun _ => 0))), ((u_13 9), .inl (cI, 400, .inl (fun _ => 0))), (q61, .inr (11, [.ref (u_16 0), .ref (u_16 1), .ref (u_16 2), .ref (u_16 3), .ref (u_16 4), .ref (u_16 5), .int 0])), ((u_16 0), .inl (cI, 8, .inl (fun _ => 0))), ((u_16 1), .inl (cI, 8, .inl (fun _ => 0))), ((u_16 2), .inl (cI, 8, .inl (fun _ => 0))), ((u_16 3), .inl (cI, 8, .inl (fun _ => 0))), ((u_16 4), .inl (cI, 2048, .inl (fun _ => 0))), ((u_16 5), .inl (cI, 256, .inl (fun _ => 0))), (q72, .inr (0, [.int 0, .ref zz, .int 0])), (q83, .inr (0, [.int 0, .ref zz, .int 0])), (q94, .inr (0, [.int 0, .ref zz, .int 0])), (q105, .inr (0, [.int 0, .ref zz, .int 0]))]) (w1 := [(q116, .inr (0, [.int 0, .ref zz, .int 0]))]) hP hD [40] [0, 1, 2, 3, 4, 5, 6, 7, 8, 9, 10, 11, 12, 13, 14, 15, 16, 17, 18, 19, 20, 21, 22, 23, 24, 25, 26, 27, 28, 29, 30, 31, 32, 33, 34, 35, 36, 37, 38, 39] rfl rfl (by decide) (by decide) hk1 hFc hP1 hD1
  generalize H1 = H at hP hS ⊢
  have hP : va_P D vwCl [(x, .inr (12, [.int 0, .int 0, .int 0, .int 0, .ref q5, .ref q17, .ref q28, .ref q44, .ref q50, .ref q61, .ref q72, .ref q83, .ref q94, .ref q105, .null, .null])), (q5, .inr (10, [.ref (u_2 0), .ref (u_2 1), .ref (u_2 2), .ref (u_2 3), .ref (u_2 4), .int 0, .int 0, .int 0, .int 0])), ((u_2 0), .inl (cI, 0, .inl (fun _ => 0))), ((u_2 1), .inl (cI, 12, .inl (fun _ => 0))), ((u_2 2), .inl (cI, 12, .inl (fun _ => 0))), ((u_2 3), .inl (cI, 12, .inl (fun _ => 0))), ((u_2 4), .inl (cI, 32, .inl (fun _ => 0))), (q17, .inr (9, [.ref u_5, .int 0])), (u_5, .inl (cI, 200, .inl (fun _ => 0))), (q28, .inr (6, [.ref (u_8 6), .ref (u_8 5), .int 0, .int 0, .int 0, .int 0])), ((u_8 6), .inl (cI, 0, .inl (fun _ => 0))), ((u_8 5), .inr (10, [.ref (u_8 0), .ref (u_8 1), .ref (u_8 2), .ref (u_8 3), .ref (u_8 4), .int 0, .int 0, .int 0, .int 0])), ((u_8 0), .inl (cI, 0, .inl (fun _ => 0))), ((u_8 1), .inl (cI, 12, .inl (fun _ => 0))), ((u_8 2), .inl (cI, 12, .inl (fun _ => 0))), ((u_8 3), .inl (cI, 12, .inl (fun _ => 0))), ((u_8 4), .inl (cI, 32, .inl (fun _ => 0))), (q44, .inl (cI, 11, .inl (fun _ => 0))), (q50, .inr (8, [.ref (u_13 0), .ref (u_13 1), .ref (u_13 2), .ref (u_13 3), .ref (u_13 4), .ref (u_13 5), .ref (u_13 6), .ref (u_13 7), .ref (u_13 8), .ref (u_13 9)])), ((u_13 0), .inl (cI, 58, .inl (fun _ => 0))), ((u_13 1), .inl (cI, 24, .inl (fun _ => 0))), ((u_13 2), .inl (cI, 400, .inl (dgF 400))), ((u_13 3), .inl (cI, 400, .inl (fun _ => 0))), ((u_13 4), .inl (cI, 10, .inl (fun _ => 0))), ((u_13 5), .inl (cI, 10, .inl (fun _ => 0))), ((u_13 6), .inl (cI, 232, .inl (fun _ => 0))), ((u_13 7), .inl (cI, 3, .inl (fun _ => 0))), ((u_13 8), .inl (cI, 1200, .inl (fun _ => 0))), ((u_13 9), .inl (cI, 400, .inl (fun _ => 0))), (q61, .inr (11, [.ref (u_16 0), .ref (u_16 1), .ref (u_16 2), .ref (u_16 3), .ref (u_16 4), .ref (u_16 5), .int 0])), ((u_16 0), .inl (cI, 8, .inl (fun _ => 0))), ((u_16 1), .inl (cI, 8, .inl (fun _ => 0))), ((u_16 2), .inl (cI, 8, .inl (fun _ => 0))), ((u_16 3), .inl (cI, 8, .inl (fun _ => 0))), ((u_16 4), .inl (cI, 2048, .inl (fun _ => 0))), ((u_16 5), .inl (cI, 256, .inl (fun _ => 0))), (q72, .inr (0, [.int 0, .ref zz, .int 0])), (q83, .inr (0, [.int 0, .ref zz, .int 0])), (q94, .inr (0, [.int 0, .ref zz, .int 0])), (q105, .inr (0, [.int 0, .ref zz, .int 0])), (q116, .inr (0, [.int 0, .ref zz, .int 0]))] H := hP
  have hD : va_D A [(x, .inr (12, [.int 0, .int 0, .int 0, .int 0, .ref q5, .ref q17, .ref q28, .ref q44, .ref q50, .ref q61, .ref q72, .ref q83, .ref q94, .ref q105, .null, .null])), (q5, .inr (10, [.ref (u_2 0), .ref (u_2 1), .ref (u_2 2), .ref (u_2 3), .ref (u_2 4), .int 0, .int 0, .int 0, .int 0])), ((u_2 0), .inl (cI, 0, .inl (fun _ => 0))), ((u_2 1), .inl (cI, 12, .inl (fun _ => 0))), ((u_2 2), .inl (cI, 12, .inl (fun _ => 0))), ((u_2 3), .inl (cI, 12, .inl (fun _ => 0))), ((u_2 4), .inl (cI, 32, .inl (fun _ => 0))), (q17, .inr (9, [.ref u_5, .int 0])), (u_5, .inl (cI, 200, .inl (fun _ => 0))), (q28, .inr (6, [.ref (u_8 6), .ref (u_8 5), .int 0, .int 0, .int 0, .int 0])), ((u_8 6), .inl (cI, 0, .inl (fun _ => 0))), ((u_8 5), .inr (10, [.ref (u_8 0), .ref (u_8 1), .ref (u_8 2), .ref (u_8 3), .ref (u_8 4), .int 0, .int 0, .int 0, .int 0])), ((u_8 0), .inl (cI, 0, .inl (fun _ => 0))), ((u_8 1), .inl (cI, 12, .inl (fun _ => 0))), ((u_8 2), .inl (cI, 12, .inl (fun _ => 0))), ((u_8 3), .inl (cI, 12, .inl (fun _ => 0))), ((u_8 4), .inl (cI, 32, .inl (fun _ => 0))), (q44, .inl (cI, 11, .inl (fun _ => 0))), (q50, .inr (8, [.ref (u_13 0), .ref (u_13 1), .ref (u_13 2), .ref (u_13 3), .ref (u_13 4), .ref (u_13 5), .ref (u_13 6), .ref (u_13 7), .ref (u_13 8), .ref (u_13 9)])), ((u_13 0), .inl (cI, 58, .inl (fun _ => 0))), ((u_13 1), .inl (cI, 24, .inl (fun _ => 0))), ((u_13 2), .inl (cI, 400, .inl (dgF 400))), ((u_13 3), .inl (cI, 400, .inl (fun _ => 0))), ((u_13 4), .inl (cI, 10, .inl (fun _ => 0))), ((u_13 5), .inl (cI, 10, .inl (fun _ => 0))), ((u_13 6), .inl (cI, 232, .inl (fun _ => 0))), ((u_13 7), .inl (cI, 3, .inl (fun _ => 0))), ((u_13 8), .inl (cI, 1200, .inl (fun _ => 0))), ((u_13 9), .inl (cI, 400, .inl (fun _ => 0))), (q61, .inr (11, [.ref (u_16 0), .ref (u_16 1), .ref (u_16 2), .ref (u_16 3), .ref (u_16 4), .ref (u_16 5), .int 0])), ((u_16 0), .inl (cI, 8, .inl (fun _ => 0))), ((u_16 1), .inl (cI, 8, .inl (fun _ => 0))), ((u_16 2), .inl (cI, 8, .inl (fun _ => 0))), ((u_16 3), .inl (cI, 8, .inl (fun _ => 0))), ((u_16 4), .inl (cI, 2048, .inl (fun _ => 0))), ((u_16 5), .inl (cI, 256, .inl (fun _ => 0))), (q72, .inr (0, [.int 0, .ref zz, .int 0])), (q83, .inr (0, [.int 0, .ref zz, .int 0])), (q94, .inr (0, [.int 0, .ref zz, .int 0])), (q105, .inr (0, [.int 0, .ref zz, .int 0])), (q116, .inr (0, [.int 0, .ref zz, .int 0]))] := hD
  refine pf_RX11_74 S hin hK hP hD hS 0 rfl (v := .ref q116) (Nat.le_of_ble_eq_true rfl) rfl rfl dX11_init_123 (fun H locs hP hD hS => ?_)
  have hP : va_P D vwCl [(x, .inr (12, [.int 0, .int 0, .int 0, .int 0, .ref q5, .ref q17, .ref q28, .ref q44, .ref q50, .ref q61, .ref q72, .ref q83, .ref q94, .ref q105, .ref q116, .null])), (q5, .inr (10, [.ref (u_2 0), .ref (u_2 1), .ref (u_2 2), .ref (u_2 3), .ref (u_2 4), .int 0, .int 0, .int 0, .int 0])), ((u_2 0), .inl (cI, 0, .inl (fun _ => 0))), ((u_2 1), .inl (cI, 12, .inl (fun _ => 0))), ((u_2 2), .inl (cI, 12, .inl (fun _ => 0))), ((u_2 3), .inl (cI, 12, .inl (fun _ => 0))), ((u_2 4), .inl (cI, 32, .inl (fun _ => 0))), (q17, .inr (9, [.ref u_5, .int 0])), (u_5, .inl (cI, 200, .inl (fun _ => 0))), (q28, .inr (6, [.ref (u_8 6), .ref (u_8 5), .int 0, .int 0, .int 0, .int 0])), ((u_8 6), .inl (cI, 0, .inl (fun _ => 0))), ((u_8 5), .inr (10, [.ref (u_8 0), .ref (u_8 1), .ref (u_8 2), .ref (u_8 3), .ref (u_8 4), .int 0, .int 0, .int 0, .int 0])), ((u_8 0), .inl (cI, 0, .inl (fun _ => 0))), ((u_8 1), .inl (cI, 12, .inl (fun _ => 0))), ((u_8 2), .inl (cI, 12, .inl (fun _ => 0))), ((u_8 3), .inl (cI, 12, .inl (fun _ => 0))), ((u_8 4), .inl (cI, 32, .inl (fun _ => 0))), (q44, .inl (cI, 11, .inl (fun _ => 0))), (q50, .inr (8, [.ref (u_13 0), .ref (u_13 1), .ref (u_13 2), .ref (u_13 3), .ref (u_13 4), .ref (u_13 5), .ref (u_13 6), .ref (u_13 7), .ref (u_13 8), .ref (u_13 9)])), ((u_13 0), .inl (cI, 58, .inl (fun _ => 0))), ((u_13 1), .inl (cI, 24, .inl (fun _ => 0))), ((u_13 2), .inl (cI, 400, .inl (dgF 400))), ((u_13 3), .inl (cI, 400, .inl (fun _ => 0))), ((u_13 4), .inl (cI, 10, .inl (fun _ => 0))), ((u_13 5), .inl (cI, 10, .inl (fun _ => 0))), ((u_13 6), .inl (cI, 232, .inl (fun _ => 0))), ((u_13 7), .inl (cI, 3, .inl (fun _ => 0))), ((u_13 8), .inl (cI, 1200, .inl (fun _ => 0))), ((u_13 9), .inl (cI, 400, .inl (fun _ => 0))), (q61, .inr (11, [.ref (u_16 0), .ref (u_16 1), .ref (u_16 2), .ref (u_16 3), .ref (u_16 4), .ref (u_16 5), .int 0])), ((u_16 0), .inl (cI, 8, .inl (fun _ => 0))), ((u_16 1), .inl (cI, 8, .inl (fun _ => 0))), ((u_16 2), .inl (cI, 8, .inl (fun _ => 0))), ((u_16 3), .inl (cI, 8, .inl (fun _ => 0))), ((u_16 4), .inl (cI, 2048, .inl (fun _ => 0))), ((u_16 5), .inl (cI, 256, .inl (fun _ => 0))), (q72, .inr (0, [.int 0, .ref zz, .int 0])), (q83, .inr (0, [.int 0, .ref zz, .int 0])), (q94, .inr (0, [.int 0, .ref zz, .int 0])), (q105, .inr (0, [.int 0, .ref zz, .int 0])), (q116, .inr (0, [.int 0, .ref zz, .int 0]))] H := hP
  have hD : va_D A [(x, .inr (12, [.int 0, .int 0, .int 0, .int 0, .ref q5, .ref q17, .ref q28, .ref q44, .ref q50, .ref q61, .ref q72, .ref q83, .ref q94, .ref q105, .ref q116, .null])), (q5, .inr (10, [.ref (u_2 0), .ref (u_2 1), .ref (u_2 2), .ref (u_2 3), .ref (u_2 4), .int 0, .int 0, .int 0, .int 0])), ((u_2 0), .inl (cI, 0, .inl (fun _ => 0))), ((u_2 1), .inl (cI, 12, .inl (fun _ => 0))), ((u_2 2), .inl (cI, 12, .inl (fun _ => 0))), ((u_2 3), .inl (cI, 12, .inl (fun _ => 0))), ((u_2 4), .inl (cI, 32, .inl (fun _ => 0))), (q17, .inr (9, [.ref u_5, .int 0])), (u_5, .inl (cI, 200, .inl (fun _ => 0))), (q28, .inr (6, [.ref (u_8 6), .ref (u_8 5), .int 0, .int 0, .int 0, .int 0])), ((u_8 6), .inl (cI, 0, .inl (fun _ => 0))), ((u_8 5), .inr (10, [.ref (u_8 0), .ref (u_8 1), .ref (u_8 2), .ref (u_8 3), .ref (u_8 4), .int 0, .int 0, .int 0, .int 0])), ((u_8 0), .inl (cI, 0, .inl (fun _ => 0))), ((u_8 1), .inl (cI, 12, .inl (fun _ => 0))), ((u_8 2), .inl (cI, 12, .inl (fun _ => 0))), ((u_8 3), .inl (cI, 12, .inl (fun _ => 0))), ((u_8 4), .inl (cI, 32, .inl (fun _ => 0))), (q44, .inl (cI, 11, .inl (fun _ => 0))), (q50, .inr (8, [.ref (u_13 0), .ref (u_13 1), .ref (u_13 2), .ref (u_13 3), .ref (u_13 4), .ref (u_13 5), .ref (u_13 6), .ref (u_13 7), .ref (u_13 8), .ref (u_13 9)])), ((u_13 0), .inl (cI, 58, .inl (fun _ => 0))), ((u_13 1), .inl (cI, 24, .inl (fun _ => 0))), ((u_13 2), .inl (cI, 400, .inl (dgF 400))), ((u_13 3), .inl (cI, 400, .inl (fun _ => 0))), ((u_13 4), .inl (cI, 10, .inl (fun _ => 0))), ((u_13 5), .inl (cI, 10, .inl (fun _ => 0))), ((u_13 6), .inl (cI, 232, .inl (fun _ => 0))), ((u_13 7), .inl (cI, 3, .inl (fun _ => 0))), ((u_13 8), .inl (cI, 1200, .inl (fun _ => 0))), ((u_13 9), .inl (cI, 400, .inl (fun _ => 0))), (q61, .inr (11, [.ref (u_16 0), .ref (u_16 1), .ref (u_16 2), .ref (u_16 3), .ref (u_16 4), .ref (u_16 5), .int 0])), ((u_16 0), .inl (cI, 8, .inl (fun _ => 0))), ((u_16 1), .inl (cI, 8, .inl (fun _ => 0))), ((u_16 2), .inl (cI, 8, .inl (fun _ => 0))), ((u_16 3), .inl (cI, 8, .inl (fun _ => 0))), ((u_16 4), .inl (cI, 2048, .inl (fun _ => 0))), ((u_16 5), .inl (cI, 256, .inl (fun _ => 0))), (q72, .inr (0, [.int 0, .ref zz, .int 0])), (q83, .inr (0, [.int 0, .ref zz, .int 0])), (q94, .inr (0, [.int 0, .ref zz, .int 0])), (q105, .inr (0, [.int 0, .ref zz, .int 0])), (q116, .inr (0, [.int 0, .ref zz, .int 0]))] := hD
  refine lv_aload_n hx hb dX11_init_126 rfl (lv_at hl 0 rfl) ?_
  refine va_new (ci := 0) (fs := [.int 0, .null, .int 0]) (C := RJx4a65c) (T := TJx4a65c) (N := 3) hx hb S.2.2.2.2 hin_RJx4a65c tyJx4a65c tyJx4a65c_ok hown (S.2.2.2.2 _ (wT_t1 210 rfl rfl)) (S.2.2.2.2 _ (wT_t1 211 rfl rfl)) (S.2.2.2.2 _ (wT_t1 12 rfl rfl)) hK.1 hP hD hS hA rfl (by decide +kernel) (Nat.le_of_ble_eq_true rfl) (Nat.le_of_ble_eq_true rfl) dX11_init_127 (fun q127 H hP hD hS => ?_)
  have hP : va_P D vwCl [(x, .inr (12, [.int 0, .int 0, .int 0, .int 0, .ref q5, .ref q17, .ref q28, .ref q44, .ref q50, .ref q61, .ref q72, .ref q83, .ref q94, .ref q105, .ref q116, .null])), (q5, .inr (10, [.ref (u_2 0), .ref (u_2 1), .ref (u_2 2), .ref (u_2 3), .ref (u_2 4), .int 0, .int 0, .int 0, .int 0])), ((u_2 0), .inl (cI, 0, .inl (fun _ => 0))), ((u_2 1), .inl (cI, 12, .inl (fun _ => 0))), ((u_2 2), .inl (cI, 12, .inl (fun _ => 0))), ((u_2 3), .inl (cI, 12, .inl (fun _ => 0))), ((u_2 4), .inl (cI, 32, .inl (fun _ => 0))), (q17, .inr (9, [.ref u_5, .int 0])), (u_5, .inl (cI, 200, .inl (fun _ => 0))), (q28, .inr (6, [.ref (u_8 6), .ref (u_8 5), .int 0, .int 0, .int 0, .int 0])), ((u_8 6), .inl (cI, 0, .inl (fun _ => 0))), ((u_8 5), .inr (10, [.ref (u_8 0), .ref (u_8 1), .ref (u_8 2), .ref (u_8 3), .ref (u_8 4), .int 0, .int 0, .int 0, .int 0])), ((u_8 0), .inl (cI, 0, .inl (fun _ => 0))), ((u_8 1), .inl (cI, 12, .inl (fun _ => 0))), ((u_8 2), .inl (cI, 12, .inl (fun _ => 0))), ((u_8 3), .inl (cI, 12, .inl (fun _ => 0))), ((u_8 4), .inl (cI, 32, .inl (fun _ => 0))), (q44, .inl (cI, 11, .inl (fun _ => 0))), (q50, .inr (8, [.ref (u_13 0), .ref (u_13 1), .ref (u_13 2), .ref (u_13 3), .ref (u_13 4), .ref (u_13 5), .ref (u_13 6), .ref (u_13 7), .ref (u_13 8), .ref (u_13 9)])), ((u_13 0), .inl (cI, 58, .inl (fun _ => 0))), ((u_13 1), .inl (cI, 24, .inl (fun _ => 0))), ((u_13 2), .inl (cI, 400, .inl (dgF 400))), ((u_13 3), .inl (cI, 400, .inl (fun _ => 0))), ((u_13 4), .inl (cI, 10, .inl (fun _ => 0))), ((u_13 5), .inl (cI, 10, .inl (fun _ => 0))), ((u_13 6), .inl (cI, 232, .inl (fun _ => 0))), ((u_13 7), .inl (cI, 3, .inl (fun _ => 0))), ((u_13 8), .inl (cI, 1200, .inl (fun _ => 0))), ((u_13 9), .inl (cI, 400, .inl (fun _ => 0))), (q61, .inr (11, [.ref (u_16 0), .ref (u_16 1), .ref (u_16 2), .ref (u_16 3), .ref (u_16 4), .ref (u_16 5), .int 0])), ((u_16 0), .inl (cI, 8, .inl (fun _ => 0))), ((u_16 1), .inl (cI, 8, .inl (fun _ => 0))), ((u_16 2), .inl (cI, 8, .inl (fun _ => 0))), ((u_16 3), .inl (cI, 8, .inl (fun _ => 0))), ((u_16 4), .inl (cI, 2048, .inl (fun _ => 0))), ((u_16 5), .inl (cI, 256, .inl (fun _ => 0))), (q72, .inr (0, [.int 0, .ref zz, .int 0])), (q83, .inr (0, [.int 0, .ref zz, .int 0])), (q94, .inr (0, [.int 0, .ref zz, .int 0])), (q105, .inr (0, [.int 0, .ref zz, .int 0])), (q116, .inr (0, [.int 0, .ref zz, .int 0])), (q127, .inr (0, [.int 0, .null, .int 0]))] H := hP
  have hD : va_D A [(x, .inr (12, [.int 0, .int 0, .int 0, .int 0, .ref q5, .ref q17, .ref q28, .ref q44, .ref q50, .ref q61, .ref q72, .ref q83, .ref q94, .ref q105, .ref q116, .null])), (q5, .inr (10, [.ref (u_2 0), .ref (u_2 1), .ref (u_2 2), .ref (u_2 3), .ref (u_2 4), .int 0, .int 0, .int 0, .int 0])), ((u_2 0), .inl (cI, 0, .inl (fun _ => 0))), ((u_2 1), .inl (cI, 12, .inl (fun _ => 0))), ((u_2 2), .inl (cI, 12, .inl (fun _ => 0))), ((u_2 3), .inl (cI, 12, .inl (fun _ => 0))), ((u_2 4), .inl (cI, 32, .inl (fun _ => 0))), (q17, .inr (9, [.ref u_5, .int 0])), (u_5, .inl (cI, 200, .inl (fun _ => 0))), (q28, .inr (6, [.ref (u_8 6), .ref (u_8 5), .int 0, .int 0, .int 0, .int 0])), ((u_8 6), .inl (cI, 0, .inl (fun _ => 0))), ((u_8 5), .inr (10, [.ref (u_8 0), .ref (u_8 1), .ref (u_8 2), .ref (u_8 3), .ref (u_8 4), .int 0, .int 0, .int 0, .int 0])), ((u_8 0), .inl (cI, 0, .inl (fun _ => 0))), ((u_8 1), .inl (cI, 12, .inl (fun _ => 0))), ((u_8 2), .inl (cI, 12, .inl (fun _ => 0))), ((u_8 3), .inl (cI, 12, .inl (fun _ => 0))), ((u_8 4), .inl (cI, 32, .inl (fun _ => 0))), (q44, .inl (cI, 11, .inl (fun _ => 0))), (q50, .inr (8, [.ref (u_13 0), .ref (u_13 1), .ref (u_13 2), .ref (u_13 3), .ref (u_13 4), .ref (u_13 5), .ref (u_13 6), .ref (u_13 7), .ref (u_13 8), .ref (u_13 9)])), ((u_13 0), .inl (cI, 58, .inl (fun _ => 0))), ((u_13 1), .inl (cI, 24, .inl (fun _ => 0))), ((u_13 2), .inl (cI, 400, .inl (dgF 400))), ((u_13 3), .inl (cI, 400, .inl (fun _ => 0))), ((u_13 4), .inl (cI, 10, .inl (fun _ => 0))), ((u_13 5), .inl (cI, 10, .inl (fun _ => 0))), ((u_13 6), .inl (cI, 232, .inl (fun _ => 0))), ((u_13 7), .inl (cI, 3, .inl (fun _ => 0))), ((u_13 8), .inl (cI, 1200, .inl (fun _ => 0))), ((u_13 9), .inl (cI, 400, .inl (fun _ => 0))), (q61, .inr (11, [.ref (u_16 0), .ref (u_16 1), .ref (u_16 2), .ref (u_16 3), .ref (u_16 4), .ref (u_16 5), .int 0])), ((u_16 0), .inl (cI, 8, .inl (fun _ => 0))), ((u_16 1), .inl (cI, 8, .inl (fun _ => 0))), ((u_16 2), .inl (cI, 8, .inl (fun _ => 0))), ((u_16 3), .inl (cI, 8, .inl (fun _ => 0))), ((u_16 4), .inl (cI, 2048, .inl (fun _ => 0))), ((u_16 5), .inl (cI, 256, .inl (fun _ => 0))), (q72, .inr (0, [.int 0, .ref zz, .int 0])), (q83, .inr (0, [.int 0, .ref zz, .int 0])), (q94, .inr (0, [.int 0, .ref zz, .int 0])), (q105, .inr (0, [.int 0, .ref zz, .int 0])), (q116, .inr (0, [.int 0, .ref zz, .int 0])), (q127, .inr (0, [.int 0, .null, .int 0]))] := hD
  refine lv_dup hx hb dX11_init_130 rfl ?_
  have hFc := va_free (wc := [(q127, .inr (0, [.int 0, .null, .int 0]))]) hD hS hA [41] rfl
  refine va_callv (runI_x (As := []) (rest := [.ref q127, .ref x]) S (q_c_AList l D cI cB cZ zz qq vv bt q127 H.size) kI_RX11_60 hK hXS hS hFc hP hD [41] rfl rfl (by decide) ⟨Nat.le_of_ble_eq_true rfl, Nat.le_of_ble_eq_true rfl⟩ ⟨Nat.le_of_ble_eq_true rfl, Nat.le_of_ble_eq_true rfl⟩ rfl hl.1 rfl (Nat.le_of_ble_eq_true rfl) dX11_init_131) hS (fun q _ h => hFc q h) hFc (fun u_34 t H1 locs ht hvm h_35 hB hz1 hk1 hS => ?_)
  obtain ⟨hP1, hD1⟩ := hB
  rw [ht] at hP1
  obtain ⟨hP, hD⟩ := va_join (wr := [(x, .inr (12, [.int 0, .int 0, .int 0, .int 0, .ref q5, .ref q17, .ref q28, .ref q44, .ref q50, .ref q61, .ref q72, .ref q83, .ref q94, .ref q105, .ref q116, .null])), (q5, .inr (10, [.ref (u_2 0), .ref (u_2 1), .ref (u_2 2), .ref (u_2 3), .ref (u_2 4), .int 0, .int 0, .int 0, .int 0])), ((u_2 0), .inl (cI, 0, .inl (fun _ => 0))), ((u_2 1), .inl (cI, 12, .inl (fun _ => 0))), ((u_2 2), .inl (cI, 12, .inl (fun _ => 0))), ((u_2 3), .inl (cI, 12, .inl (fun _ => 0))), ((u_2 4), .inl (cI, 32, .inl (fun _ => 0))), (q17, .inr (9, [.ref u_5, .int 0])), (u_5, .inl (cI, 200, .inl (fun _ => 0))), (q28, .inr (6, [.ref (u_8 6), .ref (u_8 5), .int 0, .int 0, .int 0, .int 0])), ((u_8 6), .inl (cI, 0, .inl (fun _ => 0))), ((u_8 5), .inr (10, [.ref (u_8 0), .ref (u_8 1), .ref (u_8 2), .ref (u_8 3), .ref (u_8 4), .int 0, .int 0, .int 0, .int 0])), ((u_8 0), .inl (cI, 0, .inl (fun _ => 0))), ((u_8 1), .inl (cI, 12, .inl (fun _ => 0))), ((u_8 2), .inl (cI, 12, .inl (fun _ => 0))), ((u_8 3), .inl (cI, 12, .inl (fun _ => 0))), ((u_8 4), .inl (cI, 32, .inl (fun _ => 0))), (q44, .inl (cI, 11, .inl (fun _ => 0))), (q50, .inr (8, [.ref (u_13 0), .ref (u_13 1), .ref (u_13 2), .ref (u_13 3), .ref (u_13 4), .ref (u_13 5), .ref (u_13 6), .ref (u_13 7), .ref (u_13 8), .ref (u_13 9)])), ((u_13 0), .inl (cI, 58, .inl (fun _ => 0))), ((u_13 1), .inl (cI, 24, .inl (fun _ => 0))), ((u_13 2), .inl (cI, 400, .inl (dgF 400))), ((u_13 3), .inl (cI, 400, .inl (fun _ => 0))), ((u_13 4), .inl (cI, 10, .inl (fun _ => 0))), ((u_13 5), .inl (cI, 10, .inl (fun _ => 0))), ((u_13 6), .inl (cI, 232, .inl (fun _ => 0))), ((u_13 7), .inl (cI, 3, .inl (fun _ => 0))), ((u_13 8), .inl (cI, 1200, .inl (fun _ => 0))), ((u_13 9), .inl (cI, 400, .inl (fun _ => 0))), (q61, .inr (11, [.ref (u_16 0), .ref (u_16 1), .ref (u_16 2), .ref (u_16 3), .ref (u_16 4), .ref (u_16 5), .int 0])), ((u_16 0), .inl (cI, 8, .inl (fun _ => 0))), ((u_16 1), .inl (cI, 8, .inl (fun _ => 0))), ((u_16 2), .inl (cI, 8, .inl (fun _ => 0))), ((u_16 3), .inl (cI, 8, .inl (fun _ => 0))), ((u_16 4), .inl (cI, 2048, .inl (fun _ => 0))), ((u_16 5), .inl (cI, 256, .inl (fun _ => 0))), (q72, .inr (0, [.int 0, .ref zz, .int 0])), (q83, .inr (0, [.int 0, .ref zz, .int 0])), (q94, .inr (0, [.int 0, .ref zz, .int 0])), (q105, .inr (0, [.int 0, .ref zz, .int 0])), (q116, .inr (0, [.int 0, .ref zz, .int 0]))]) (w1 := [(q127, .inr (0, [.int 0, .ref zz, .int 0]))]) hP hD [41] [0, 1, 2, 3, 4, 5, 6, 7, 8, 9, 10, 11, 12, 13, 14, 15, 16, 17, 18, 19, 20, 21, 22, 23, 24, 25, 26, 27, 28, 29, 30, 31, 32, 33, 34, 35, 36, 37, 38, 39, 40] rfl rfl (by decide) (by decide) hk1 hFc hP1 hD1
  generalize H1 = H at hP hS ⊢
  have hP : va_P D vwCl [(x, .inr (12, [.int 0, .int 0, .int 0, .int 0, .ref q5, .ref q17, .ref q28, .ref q44, .ref q50, .ref q61, .ref q72, .ref q83, .ref q94, .ref q105, .ref q116, .null])), (q5, .inr (10, [.ref (u_2 0), .ref (u_2 1), .ref (u_2 2), .ref (u_2 3), .ref (u_2 4), .int 0, .int 0, .int 0, .int 0])), ((u_2 0), .inl (cI, 0, .inl (fun _ => 0))), ((u_2 1), .inl (cI, 12, .inl (fun _ => 0))), ((u_2 2), .inl (cI, 12, .inl (fun _ => 0))), ((u_2 3), .inl (cI, 12, .inl (fun _ => 0))), ((u_2 4), .inl (cI, 32, .inl (fun _ => 0))), (q17, .inr (9, [.ref u_5, .int 0])), (u_5, .inl (cI, 200, .inl (fun _ => 0))), (q28, .inr (6, [.ref (u_8 6), .ref (u_8 5), .int 0, .int 0, .int 0, .int 0])), ((u_8 6), .inl (cI, 0, .inl (fun _ => 0))), ((u_8 5), .inr (10, [.ref (u_8 0), .ref (u_8 1), .ref (u_8 2), .ref (u_8 3), .ref (u_8 4), .int 0, .int 0, .int 0, .int 0])), ((u_8 0), .inl (cI, 0, .inl (fun _ => 0))), ((u_8 1), .inl (cI, 12, .inl (fun _ => 0))), ((u_8 2), .inl (cI, 12, .inl (fun _ => 0))), ((u_8 3), .inl (cI, 12, .inl (fun _ => 0))), ((u_8 4), .inl (cI, 32, .inl (fun _ => 0))), (q44, .inl (cI, 11, .inl (fun _ => 0))), (q50, .inr (8, [.ref (u_13 0), .ref (u_13 1), .ref (u_13 2), .ref (u_13 3), .ref (u_13 4), .ref (u_13 5), .ref (u_13 6), .ref (u_13 7), .ref (u_13 8), .ref (u_13 9)])), ((u_13 0), .inl (cI, 58, .inl (fun _ => 0))), ((u_13 1), .inl (cI, 24, .inl (fun _ => 0))), ((u_13 2), .inl (cI, 400, .inl (dgF 400))), ((u_13 3), .inl (cI, 400, .inl (fun _ => 0))), ((u_13 4), .inl (cI, 10, .inl (fun _ => 0))), ((u_13 5), .inl (cI, 10, .inl (fun _ => 0))), ((u_13 6), .inl (cI, 232, .inl (fun _ => 0))), ((u_13 7), .inl (cI, 3, .inl (fun _ => 0))), ((u_13 8), .inl (cI, 1200, .inl (fun _ => 0))), ((u_13 9), .inl (cI, 400, .inl (fun _ => 0))), (q61, .inr (11, [.ref (u_16 0), .ref (u_16 1), .ref (u_16 2), .ref (u_16 3), .ref (u_16 4), .ref (u_16 5), .int 0])), ((u_16 0), .inl (cI, 8, .inl (fun _ => 0))), ((u_16 1), .inl (cI, 8, .inl (fun _ => 0))), ((u_16 2), .inl (cI, 8, .inl (fun _ => 0))), ((u_16 3), .inl (cI, 8, .inl (fun _ => 0))), ((u_16 4), .inl (cI, 2048, .inl (fun _ => 0))), ((u_16 5), .inl (cI, 256, .inl (fun _ => 0))), (q72, .inr (0, [.int 0, .ref zz, .int 0])), (q83, .inr (0, [.int 0, .ref zz, .int 0])), (q94, .inr (0, [.int 0, .ref zz, .int 0])), (q105, .inr (0, [.int 0, .ref zz, .int 0])), (q116, .inr (0, [.int 0, .ref zz, .int 0])), (q127, .inr (0, [.int 0, .ref zz, .int 0]))] H := hP
  have hD : va_D A [(x, .inr (12, [.int 0, .int 0, .int 0, .int 0, .ref q5, .ref q17, .ref q28, .ref q44, .ref q50, .ref q61, .ref q72, .ref q83, .ref q94, .ref q105, .ref q116, .null])), (q5, .inr (10, [.ref (u_2 0), .ref (u_2 1), .ref (u_2 2), .ref (u_2 3), .ref (u_2 4), .int 0, .int 0, .int 0, .int 0])), ((u_2 0), .inl (cI, 0, .inl (fun _ => 0))), ((u_2 1), .inl (cI, 12, .inl (fun _ => 0))), ((u_2 2), .inl (cI, 12, .inl (fun _ => 0))), ((u_2 3), .inl (cI, 12, .inl (fun _ => 0))), ((u_2 4), .inl (cI, 32, .inl (fun _ => 0))), (q17, .inr (9, [.ref u_5, .int 0])), (u_5, .inl (cI, 200, .inl (fun _ => 0))), (q28, .inr (6, [.ref (u_8 6), .ref (u_8 5), .int 0, .int 0, .int 0, .int 0])), ((u_8 6), .inl (cI, 0, .inl (fun _ => 0))), ((u_8 5), .inr (10, [.ref (u_8 0), .ref (u_8 1), .ref (u_8 2), .ref (u_8 3), .ref (u_8 4), .int 0, .int 0, .int 0, .int 0])), ((u_8 0), .inl (cI, 0, .inl (fun _ => 0))), ((u_8 1), .inl (cI, 12, .inl (fun _ => 0))), ((u_8 2), .inl (cI, 12, .inl (fun _ => 0))), ((u_8 3), .inl (cI, 12, .inl (fun _ => 0))), ((u_8 4), .inl (cI, 32, .inl (fun _ => 0))), (q44, .inl (cI, 11, .inl (fun _ => 0))), (q50, .inr (8, [.ref (u_13 0), .ref (u_13 1), .ref (u_13 2), .ref (u_13 3), .ref (u_13 4), .ref (u_13 5), .ref (u_13 6), .ref (u_13 7), .ref (u_13 8), .ref (u_13 9)])), ((u_13 0), .inl (cI, 58, .inl (fun _ => 0))), ((u_13 1), .inl (cI, 24, .inl (fun _ => 0))), ((u_13 2), .inl (cI, 400, .inl (dgF 400))), ((u_13 3), .inl (cI, 400, .inl (fun _ => 0))), ((u_13 4), .inl (cI, 10, .inl (fun _ => 0))), ((u_13 5), .inl (cI, 10, .inl (fun _ => 0))), ((u_13 6), .inl (cI, 232, .inl (fun _ => 0))), ((u_13 7), .inl (cI, 3, .inl (fun _ => 0))), ((u_13 8), .inl (cI, 1200, .inl (fun _ => 0))), ((u_13 9), .inl (cI, 400, .inl (fun _ => 0))), (q61, .inr (11, [.ref (u_16 0), .ref (u_16 1), .ref (u_16 2), .ref (u_16 3), .ref (u_16 4), .ref (u_16 5), .int 0])), ((u_16 0), .inl (cI, 8, .inl (fun _ => 0))), ((u_16 1), .inl (cI, 8, .inl (fun _ => 0))), ((u_16 2), .inl (cI, 8, .inl (fun _ => 0))), ((u_16 3), .inl (cI, 8, .inl (fun _ => 0))), ((u_16 4), .inl (cI, 2048, .inl (fun _ => 0))), ((u_16 5), .inl (cI, 256, .inl (fun _ => 0))), (q72, .inr (0, [.int 0, .ref zz, .int 0])), (q83, .inr (0, [.int 0, .ref zz, .int 0])), (q94, .inr (0, [.int 0, .ref zz, .int 0])), (q105, .inr (0, [.int 0, .ref zz, .int 0])), (q116, .inr (0, [.int 0, .ref zz, .int 0])), (q127, .inr (0, [.int 0, .ref zz, .int 0]))] := hD
  refine pf_RX11_77 S hin hK hP hD hS 0 rfl (v := .ref q127) (Nat.le_of_ble_eq_true rfl) rfl rfl dX11_init_134 (fun H locs hP hD hS => ?_)
  have hP : va_P D vwCl [(x, .inr (12, [.int 0, .int 0, .int 0, .int 0, .ref q5, .ref q17, .ref q28, .ref q44, .ref q50, .ref q61, .ref q72, .ref q83, .ref q94, .ref q105, .ref q116, .ref q127])), (q5, .inr (10, [.ref (u_2 0), .ref (u_2 1), .ref (u_2 2), .ref (u_2 3), .ref (u_2 4), .int 0, .int 0, .int 0, .int 0])), ((u_2 0), .inl (cI, 0, .inl (fun _ => 0))), ((u_2 1), .inl (cI, 12, .inl (fun _ => 0))), ((u_2 2), .inl (cI, 12, .inl (fun _ => 0))), ((u_2 3), .inl (cI, 12, .inl (fun _ => 0))), ((u_2 4), .inl (cI, 32, .inl (fun _ => 0))), (q17, .inr (9, [.ref u_5, .int 0])), (u_5, .inl (cI, 200, .inl (fun _ => 0))), (q28, .inr (6, [.ref (u_8 6), .ref (u_8 5), .int 0, .int 0, .int 0, .int 0])), ((u_8 6), .inl (cI, 0, .inl (fun _ => 0))), ((u_8 5), .inr (10, [.ref (u_8 0), .ref (u_8 1), .ref (u_8 2), .ref (u_8 3), .ref (u_8 4), .int 0, .int 0, .int 0, .int 0])), ((u_8 0), .inl (cI, 0, .inl (fun _ => 0))), ((u_8 1), .inl (cI, 12, .inl (fun _ => 0))), ((u_8 2), .inl (cI, 12, .inl (fun _ => 0))), ((u_8 3), .inl (cI, 12, .inl (fun _ => 0))), ((u_8 4), .inl (cI, 32, .inl (fun _ => 0))), (q44, .inl (cI, 11, .inl (fun _ => 0))), (q50, .inr (8, [.ref (u_13 0), .ref (u_13 1), .ref (u_13 2), .ref (u_13 3), .ref (u_13 4), .ref (u_13 5), .ref (u_13 6), .ref (u_13 7), .ref (u_13 8), .ref (u_13 9)])), ((u_13 0), .inl (cI, 58, .inl (fun _ => 0))), ((u_13 1), .inl (cI, 24, .inl (fun _ => 0))), ((u_13 2), .inl (cI, 400, .inl (dgF 400))), ((u_13 3), .inl (cI, 400, .inl (fun _ => 0))), ((u_13 4), .inl (cI, 10, .inl (fun _ => 0))), ((u_13 5), .inl (cI, 10, .inl (fun _ => 0))), ((u_13 6), .inl (cI, 232, .inl (fun _ => 0))), ((u_13 7), .inl (cI, 3, .inl (fun _ => 0))), ((u_13 8), .inl (cI, 1200, .inl (fun _ => 0))), ((u_13 9), .inl (cI, 400, .inl (fun _ => 0))), (q61, .inr (11, [.ref (u_16 0), .ref (u_16 1), .ref (u_16 2), .ref (u_16 3), .ref (u_16 4), .ref (u_16 5), .int 0])), ((u_16 0), .inl (cI, 8, .inl (fun _ => 0))), ((u_16 1), .inl (cI, 8, .inl (fun _ => 0))), ((u_16 2), .inl (cI, 8, .inl (fun _ => 0))), ((u_16 3), .inl (cI, 8, .inl (fun _ => 0))), ((u_16 4), .inl (cI, 2048, .inl (fun _ => 0))), ((u_16 5), .inl (cI, 256, .inl (fun _ => 0))), (q72, .inr (0, [.int 0, .ref zz, .int 0])), (q83, .inr (0, [.int 0, .ref zz, .int 0])), (q94, .inr (0, [.int 0, .ref zz, .int 0])), (q105, .inr (0, [.int 0, .ref zz, .int 0])), (q116, .inr (0, [.int 0, .ref zz, .int 0])), (q127, .inr (0, [.int 0, .ref zz, .int 0]))] H := hP
  have hD : va_D A [(x, .inr (12, [.int 0, .int 0, .int 0, .int 0, .ref q5, .ref q17, .ref q28, .ref q44, .ref q50, .ref q61, .ref q72, .ref q83, .ref q94, .ref q105, .ref q116, .ref q127])), (q5, .inr (10, [.ref (u_2 0), .ref (u_2 1), .ref (u_2 2), .ref (u_2 3), .ref (u_2 4), .int 0, .int 0, .int 0, .int 0])), ((u_2 0), .inl (cI, 0, .inl (fun _ => 0))), ((u_2 1), .inl (cI, 12, .inl (fun _ => 0))), ((u_2 2), .inl (cI, 12, .inl (fun _ => 0))), ((u_2 3), .inl (cI, 12, .inl (fun _ => 0))), ((u_2 4), .inl (cI, 32, .inl (fun _ => 0))), (q17, .inr (9, [.ref u_5, .int 0])), (u_5, .inl (cI, 200, .inl (fun _ => 0))), (q28, .inr (6, [.ref (u_8 6), .ref (u_8 5), .int 0, .int 0, .int 0, .int 0])), ((u_8 6), .inl (cI, 0, .inl (fun _ => 0))), ((u_8 5), .inr (10, [.ref (u_8 0), .ref (u_8 1), .ref (u_8 2), .ref (u_8 3), .ref (u_8 4), .int 0, .int 0, .int 0, .int 0])), ((u_8 0), .inl (cI, 0, .inl (fun _ => 0))), ((u_8 1), .inl (cI, 12, .inl (fun _ => 0))), ((u_8 2), .inl (cI, 12, .inl (fun _ => 0))), ((u_8 3), .inl (cI, 12, .inl (fun _ => 0))), ((u_8 4), .inl (cI, 32, .inl (fun _ => 0))), (q44, .inl (cI, 11, .inl (fun _ => 0))), (q50, .inr (8, [.ref (u_13 0), .ref (u_13 1), .ref (u_13 2), .ref (u_13 3), .ref (u_13 4), .ref (u_13 5), .ref (u_13 6), .ref (u_13 7), .ref (u_13 8), .ref (u_13 9)])), ((u_13 0), .inl (cI, 58, .inl (fun _ => 0))), ((u_13 1), .inl (cI, 24, .inl (fun _ => 0))), ((u_13 2), .inl (cI, 400, .inl (dgF 400))), ((u_13 3), .inl (cI, 400, .inl (fun _ => 0))), ((u_13 4), .inl (cI, 10, .inl (fun _ => 0))), ((u_13 5), .inl (cI, 10, .inl (fun _ => 0))), ((u_13 6), .inl (cI, 232, .inl (fun _ => 0))), ((u_13 7), .inl (cI, 3, .inl (fun _ => 0))), ((u_13 8), .inl (cI, 1200, .inl (fun _ => 0))), ((u_13 9), .inl (cI, 400, .inl (fun _ => 0))), (q61, .inr (11, [.ref (u_16 0), .ref (u_16 1), .ref (u_16 2), .ref (u_16 3), .ref (u_16 4), .ref (u_16 5), .int 0])), ((u_16 0), .inl (cI, 8, .inl (fun _ => 0))), ((u_16 1), .inl (cI, 8, .inl (fun _ => 0))), ((u_16 2), .inl (cI, 8, .inl (fun _ => 0))), ((u_16 3), .inl (cI, 8, .inl (fun _ => 0))), ((u_16 4), .inl (cI, 2048, .inl (fun _ => 0))), ((u_16 5), .inl (cI, 256, .inl (fun _ => 0))), (q72, .inr (0, [.int 0, .ref zz, .int 0])), (q83, .inr (0, [.int 0, .ref zz, .int 0])), (q94, .inr (0, [.int 0, .ref zz, .int 0])), (q105, .inr (0, [.int 0, .ref zz, .int 0])), (q116, .inr (0, [.int 0, .ref zz, .int 0])), (q127, .inr (0, [.int 0, .ref zz, .int 0]))] := hD
  have hP9 := hP.sub (ws' := [(x, .inr (12, [.int 0, .int 0, .int 0, .int 0, .ref q5, .ref q17, .ref q28, .ref q44, .ref q50, .ref q61, .ref q72, .ref q83, .ref q94, .ref q105, .ref q116, .ref q127])), (q17, .inr (9, [.ref u_5, .int 0])), (u_5, .inl (cI, 200, .inl (fun _ => 0))), (q28, .inr (6, [.ref (u_8 6), .ref (u_8 5), .int 0, .int 0, .int 0, .int 0])), ((u_8 6), .inl (cI, 0, .inl (fun _ => 0))), (q44, .inl (cI, 11, .inl (fun _ => 0))), (q50, .inr (8, [.ref (u_13 0), .ref (u_13 1), .ref (u_13 2), .ref (u_13 3), .ref (u_13 4), .ref (u_13 5), .ref (u_13 6), .ref (u_13 7), .ref (u_13 8), .ref (u_13 9)])), ((u_13 0), .inl (cI, 58, .inl (fun _ => 0))), ((u_13 1), .inl (cI, 24, .inl (fun _ => 0))), ((u_13 2), .inl (cI, 400, .inl (dgF 400))), ((u_13 3), .inl (cI, 400, .inl (fun _ => 0))), ((u_13 4), .inl (cI, 10, .inl (fun _ => 0))), ((u_13 5), .inl (cI, 10, .inl (fun _ => 0))), ((u_13 6), .inl (cI, 232, .inl (fun _ => 0))), ((u_13 7), .inl (cI, 3, .inl (fun _ => 0))), ((u_13 8), .inl (cI, 1200, .inl (fun _ => 0))), ((u_13 9), .inl (cI, 400, .inl (fun _ => 0))), (q61, .inr (11, [.ref (u_16 0), .ref (u_16 1), .ref (u_16 2), .ref (u_16 3), .ref (u_16 4), .ref (u_16 5), .int 0])), ((u_16 0), .inl (cI, 8, .inl (fun _ => 0))), ((u_16 1), .inl (cI, 8, .inl (fun _ => 0))), ((u_16 2), .inl (cI, 8, .inl (fun _ => 0))), ((u_16 3), .inl (cI, 8, .inl (fun _ => 0))), ((u_16 4), .inl (cI, 2048, .inl (fun _ => 0))), ((u_16 5), .inl (cI, 256, .inl (fun _ => 0))), (q72, .inr (0, [.int 0, .ref zz, .int 0])), (q83, .inr (0, [.int 0, .ref zz, .int 0])), (q94, .inr (0, [.int 0, .ref zz, .int 0])), (q105, .inr (0, [.int 0, .ref zz, .int 0])), (q116, .inr (0, [.int 0, .ref zz, .int 0])), (q127, .inr (0, [.int 0, .ref zz, .int 0])), (q5, .inr (10, [.ref (u_2 0), .ref (u_2 1), .ref (u_2 2), .ref (u_2 3), .ref (u_2 4), .int 0, .int 0, .int 0, .int 0])), ((u_8 5), .inr (10, [.ref (u_8 0), .ref (u_8 1), .ref (u_8 2), .ref (u_8 3), .ref (u_8 4), .int 0, .int 0, .int 0, .int 0])), ((u_2 0), .inl (cI, 0, .inl (fun _ => 0))), ((u_8 0), .inl (cI, 0, .inl (fun _ => 0))), ((u_2 1), .inl (cI, 12, .inl (fun _ => 0))), ((u_8 1), .inl (cI, 12, .inl (fun _ => 0))), ((u_2 2), .inl (cI, 12, .inl (fun _ => 0))), ((u_8 2), .inl (cI, 12, .inl (fun _ => 0))), ((u_2 3), .inl (cI, 12, .inl (fun _ => 0))), ((u_8 3), .inl (cI, 12, .inl (fun _ => 0))), ((u_2 4), .inl (cI, 32, .inl (fun _ => 0))), ((u_8 4), .inl (cI, 32, .inl (fun _ => 0)))]) [0, 7, 8, 9, 10, 17, 18, 19, 20, 21, 22, 23, 24, 25, 26, 27, 28, 29, 30, 31, 32, 33, 34, 35, 36, 37, 38, 39, 40, 41, 1, 11, 2, 12, 3, 13, 4, 14, 5, 15, 6, 16] rfl
  have hD9 := hD.sub (ws' := [(x, .inr (12, [.int 0, .int 0, .int 0, .int 0, .ref q5, .ref q17, .ref q28, .ref q44, .ref q50, .ref q61, .ref q72, .ref q83, .ref q94, .ref q105, .ref q116, .ref q127])), (q17, .inr (9, [.ref u_5, .int 0])), (u_5, .inl (cI, 200, .inl (fun _ => 0))), (q28, .inr (6, [.ref (u_8 6), .ref (u_8 5), .int 0, .int 0, .int 0, .int 0])), ((u_8 6), .inl (cI, 0, .inl (fun _ => 0))), (q44, .inl (cI, 11, .inl (fun _ => 0))), (q50, .inr (8, [.ref (u_13 0), .ref (u_13 1), .ref (u_13 2), .ref (u_13 3), .ref (u_13 4), .ref (u_13 5), .ref (u_13 6), .ref (u_13 7), .ref (u_13 8), .ref (u_13 9)])), ((u_13 0), .inl (cI, 58, .inl (fun _ => 0))), ((u_13 1), .inl (cI, 24, .inl (fun _ => 0))), ((u_13 2), .inl (cI, 400, .inl (dgF 400))), ((u_13 3), .inl (cI, 400, .inl (fun _ => 0))), ((u_13 4), .inl (cI, 10, .inl (fun _ => 0))), ((u_13 5), .inl (cI, 10, .inl (fun _ => 0))), ((u_13 6), .inl (cI, 232, .inl (fun _ => 0))), ((u_13 7), .inl (cI, 3, .inl (fun _ => 0))), ((u_13 8), .inl (cI, 1200, .inl (fun _ => 0))), ((u_13 9), .inl (cI, 400, .inl (fun _ => 0))), (q61, .inr (11, [.ref (u_16 0), .ref (u_16 1), .ref (u_16 2), .ref (u_16 3), .ref (u_16 4), .ref (u_16 5), .int 0])), ((u_16 0), .inl (cI, 8, .inl (fun _ => 0))), ((u_16 1), .inl (cI, 8, .inl (fun _ => 0))), ((u_16 2), .inl (cI, 8, .inl (fun _ => 0))), ((u_16 3), .inl (cI, 8, .inl (fun _ => 0))), ((u_16 4), .inl (cI, 2048, .inl (fun _ => 0))), ((u_16 5), .inl (cI, 256, .inl (fun _ => 0))), (q72, .inr (0, [.int 0, .ref zz, .int 0])), (q83, .inr (0, [.int 0, .ref zz, .int 0])), (q94, .inr (0, [.int 0, .ref zz, .int 0])), (q105, .inr (0, [.int 0, .ref zz, .int 0])), (q116, .inr (0, [.int 0, .ref zz, .int 0])), (q127, .inr (0, [.int 0, .ref zz, .int 0])), (q5, .inr (10, [.ref (u_2 0), .ref (u_2 1), .ref (u_2 2), .ref (u_2 3), .ref (u_2 4), .int 0, .int 0, .int 0, .int 0])), ((u_8 5), .inr (10, [.ref (u_8 0), .ref (u_8 1), .ref (u_8 2), .ref (u_8 3), .ref (u_8 4), .int 0, .int 0, .int 0, .int 0])), ((u_2 0), .inl (cI, 0, .inl (fun _ => 0))), ((u_8 0), .inl (cI, 0, .inl (fun _ => 0))), ((u_2 1), .inl (cI, 12, .inl (fun _ => 0))), ((u_8 1), .inl (cI, 12, .inl (fun _ => 0))), ((u_2 2), .inl (cI, 12, .inl (fun _ => 0))), ((u_8 2), .inl (cI, 12, .inl (fun _ => 0))), ((u_2 3), .inl (cI, 12, .inl (fun _ => 0))), ((u_8 3), .inl (cI, 12, .inl (fun _ => 0))), ((u_2 4), .inl (cI, 32, .inl (fun _ => 0))), ((u_8 4), .inl (cI, 32, .inl (fun _ => 0)))]) [0, 7, 8, 9, 10, 17, 18, 19, 20, 21, 22, 23, 24, 25, 26, 27, 28, 29, 30, 31, 32, 33, 34, 35, 36, 37, 38, 39, 40, 41, 1, 11, 2, 12, 3, 13, 4, 14, 5, 15, 6, 16] (by decide) rfl
  exact W.vret hx hb hr (fun t ht hW => ⟨⟨(fun k => ([x, 0, 0, 0, 0, q17, q28, q44, q50, q61, q72, q83, q94, q105, q116, q127, 0, 0, 0, 0, (u_13 0), (u_13 1), (u_13 2), (u_13 3), (u_13 4), (u_13 5), (u_13 6), (u_13 7), (u_13 8), (u_13 9), (u_16 0), (u_16 1), (u_16 2), (u_16 3), (u_16 4), (u_16 5), 0, 0, 0, 0, u_5, (u_8 6), 0, 0, 0, 0, 0, 0, 0, 0, q5, (u_8 5), 0, 0, 0, 0, 0, 0, 0, 0, 0, 0, 0, 0, 0, 0, 0, 0, 0, 0, (u_2 0), (u_8 0), (u_2 1), (u_8 1), (u_2 2), (u_8 2), (u_2 3), (u_8 3), (u_2 4), (u_8 4)] : List Nat).getD k 0), rfl, rfl, by rw [ht]; exact hP9, hD9⟩, hS.F ht⟩) hS.2.2 dX11_init_137
set_option maxRecDepth 100000 in
set_option maxHeartbeats 4000000 in
theorem q_c_Model (l : Launch) (D : va_G) (cI cB cZ : ClassId) (x : Nat) (sz : Nat) : Met l yX12_init (CWS yX12_init cX12_init 2 none) (RM 2 64 8869) (PBw [.ref x] D cI cB cZ [(x, .inr (13, [.int 0, .int 0, .int 0, .null, .null, .null, .null, .null, .null, .null, .null, .null, .null, .null, .null, .null, .null, .null, .int 0, .int 0, .int 0, .int 0, .int 0, .int 0, .int 0, .int 0, .int 0, .null, .null, .null, .null, .null, .null, .null, .null, .null, .null, .null, .null, .null, .null, .null, .null, .null, .int 0, .int 0, .int 0, .null, .null, .null, .null, .null, .null, .null, .int 0, .int 0, .int 0, .int 0, .int 0, .null, .null, .null, .int 0, .int 0, .null, .null, .null, .null, .null, .null, .null, .int 0, .int 0, .int 0, .null, .int 0, .null, .null, .null, .null, .null, .null, .null, .int 0, .null, .null, .null, .null, .null, .null, .null]))] sz) (va_Qv (fun (u : Nat → Nat) => u 100 = x) (fun (u : Nat → Nat) (t : State) => va_P D vwCl [((u 100), .inr (13, [.int 0, .int 0, .int 0, .ref (u 3), .ref (u 4), .ref (u 5), .ref (u 6), .ref (u 7), .ref (u 8), .ref (u 9), .ref (u 10), .ref (u 11), .ref (u 12), .ref (u 13), .ref (u 14), .ref (u 15), .ref (u 16), .ref (u 17), .int 0, .int 0, .int 0, .int 0, .int 0, .int 0, .int 0, .int 0, .int 0, .ref (u 27), .ref (u 28), .ref (u 29), .ref (u 30), .ref (u 31), .ref (u 32), .ref (u 33), .ref (u 34), .ref (u 35), .ref (u 36), .ref (u 37), .ref (u 38), .ref (u 39), .ref (u 40), .ref (u 41), .ref (u 42), .ref (u 43), .int 0, .int 0, .int 0, .ref (u 47), .ref (u 48), .ref (u 49), .ref (u 50), .ref (u 51), .ref (u 52), .ref (u 53), .int 0, .int 0, .int 0, .int 0, .int 0, .ref (u 59), .ref (u 60), .ref (u 61), .int 0, .int 0, .ref (u 64), .ref (u 65), .ref (u 66), .ref (u 67), .ref (u 68), .ref (u 69), .ref (u 70), .int 0, .int 0, .int 0, .ref (u 74), .int 0, .ref (u 76), .ref (u 77), .ref (u 78), .ref (u 79), .ref (u 80), .ref (u 81), .ref (u 82), .int 0, .ref (u 84), .ref (u 85), .ref (u 86), .ref (u 87), .ref (u 88), .ref (u 89), .ref (u 90)])), ((u 3), .inl (cI, 10, .inl (fun _ => 0))), ((u 4), .inl (cI, 10, .inl (fun _ => 0))), ((u 5), .inl (cI, 10, .inl (fun _ => 0))), ((u 6), .inl (cI, 10, .inl (fun _ => 0))), ((u 7), .inl (cI, 10, .inl (fun _ => 0))), ((u 8), .inl (cI, 60, .inl (fun _ => 0))), ((u 9), .inl (cI, 60, .inl (fun _ => 0))), ((u 10), .inl (cI, 60, .inl (fun _ => 0))), ((u 11), .inl (cI, 60, .inl (fun _ => 0))), ((u 12), .inl (cI, 60, .inl (fun _ => 0))), ((u 13), .inl (cI, 60, .inl (fun _ => 0))), ((u 14), .inl (cI, 60, .inl (fun _ => 0))), ((u 15), .inl (cI, 60, .inl (fun _ => 0))), ((u 16), .inl (cI, 60, .inl (fun _ => 0))), ((u 17), .inl (cB, 200, .inl (fun _ => 0))), ((u 27), .inl (cI, 180, .inl (fun _ => 0))), ((u 28), .inl (cI, 180, .inl (fun _ => 0))), ((u 29), .inl (cI, 12, .inl (fun _ => 0))), ((u 30), .inl (cI, 12, .inl (fun _ => 0))), ((u 31), .inl (cI, 12, .inl (fun _ => 0))), ((u 32), .inl (cI, 1980, .inl (fun _ => 0))), ((u 33), .inl (cI, 11, .inl (fun _ => 0))), ((u 34), .inl (cI, 132, .inl (fun _ => 0))), ((u 35), .inl (cI, 132, .inl (fun _ => 0))), ((u 36), .inl (cI, 132, .inl (fun _ => 0))), ((u 37), .inl (cI, 180, .inl (fun _ => 0))), ((u 38), .inl (cI, 11, .inl (fun _ => 0))), ((u 39), .inl (cI, 58, .inl (fun _ => 0))), ((u 40), .inl (cI, 10, .inl (fun _ => 0))), ((u 41), .inl (cI, 400, .inl (fun _ => 0))), ((u 42), .inl (cI, 10, .inl (fun _ => 0))), ((u 43), .inl (cI, 2048, .inl (fun _ => 0))), ((u 47), .inl (cI, 3, .inl (fun _ => 0))), ((u 48), .inl (cI, 3, .inl (fun _ => 0))), ((u 49), .inl (cI, 3, .inl (fun _ => 0))), ((u 50), .inl (cI, 6, .inl (fun _ => 0))), ((u 51), .inl (cI, 6, .inl (fun _ => 0))), ((u 52), .inl (cI, 10, .inl (fun _ => 0))), ((u 53), .inl (cZ, 1200, .inl (fun _ => 0))), ((u 59), .inl (cI, 60, .inl (fun _ => 0))), ((u 60), .inl (cI, 60, .inl (fun _ => 0))), ((u 61), .inl (cI, 60, .inl (fun _ => 0))), ((u 64), .inl (cI, 10, .inl (fun _ => 0))), ((u 65), .inl (cI, 10, .inl (fun _ => 0))), ((u 66), .inl (cI, 40, .inl (fun _ => 0))), ((u 67), .inl (cI, 40, .inl (fun _ => 0))), ((u 68), .inl (cI, 40, .inl (fun _ => 0))), ((u 69), .inl (cI, 40, .inl (fun _ => 0))), ((u 70), .inl (cI, 40, .inl (fun _ => 0))), ((u 74), .inl (cI, 12, .inl (fun _ => 0))), ((u 76), .inl (cI, 10, .inl (fun _ => 0))), ((u 77), .inl (cI, 232, .inl (fun _ => 0))), ((u 78), .inl (cI, 10, .inl (fun _ => 0))), ((u 79), .inl (cI, 10, .inl (fun _ => 0))), ((u 80), .inl (cI, 120, .inl (fun _ => 0))), ((u 81), .inl (cI, 40, .inl (fun _ => 0))), ((u 82), .inl (cI, 40, .inl (fun _ => 0))), ((u 84), .inl (cI, 10, .inl (fun _ => 0))), ((u 85), .inl (cI, 10, .inl (fun _ => 0))), ((u 86), .inl (cI, 24, .inl (fun _ => 0))), ((u 87), .inl (cI, 10, .inl (fun _ => 0))), ((u 88), .inl (cI, 10, .inl (fun _ => 0))), ((u 89), .inl (cI, 10, .inl (fun _ => 0))), ((u 90), .inl (cI, 400, .inl (dgF 400)))] t.heap ∧ va_D (va_A [(x, .inr (13, [.int 0, .int 0, .int 0, .null, .null, .null, .null, .null, .null, .null, .null, .null, .null, .null, .null, .null, .null, .null, .int 0, .int 0, .int 0, .int 0, .int 0, .int 0, .int 0, .int 0, .int 0, .null, .null, .null, .null, .null, .null, .null, .null, .null, .null, .null, .null, .null, .null, .null, .null, .null, .int 0, .int 0, .int 0, .null, .null, .null, .null, .null, .null, .null, .int 0, .int 0, .int 0, .int 0, .int 0, .null, .null, .null, .int 0, .int 0, .null, .null, .null, .null, .null, .null, .null, .int 0, .int 0, .int 0, .null, .int 0, .null, .null, .null, .null, .null, .null, .null, .int 0, .null, .null, .null, .null, .null, .null, .null]))] sz) [((u 100), .inr (13, [.int 0, .int 0, .int 0, .ref (u 3), .ref (u 4), .ref (u 5), .ref (u 6), .ref (u 7), .ref (u 8), .ref (u 9), .ref (u 10), .ref (u 11), .ref (u 12), .ref (u 13), .ref (u 14), .ref (u 15), .ref (u 16), .ref (u 17), .int 0, .int 0, .int 0, .int 0, .int 0, .int 0, .int 0, .int 0, .int 0, .ref (u 27), .ref (u 28), .ref (u 29), .ref (u 30), .ref (u 31), .ref (u 32), .ref (u 33), .ref (u 34), .ref (u 35), .ref (u 36), .ref (u 37), .ref (u 38), .ref (u 39), .ref (u 40), .ref (u 41), .ref (u 42), .ref (u 43), .int 0, .int 0, .int 0, .ref (u 47), .ref (u 48), .ref (u 49), .ref (u 50), .ref (u 51), .ref (u 52), .ref (u 53), .int 0, .int 0, .int 0, .int 0, .int 0, .ref (u 59), .ref (u 60), .ref (u 61), .int 0, .int 0, .ref (u 64), .ref (u 65), .ref (u 66), .ref (u 67), .ref (u 68), .ref (u 69), .ref (u 70), .int 0, .int 0, .int 0, .ref (u 74), .int 0, .ref (u 76), .ref (u 77), .ref (u 78), .ref (u 79), .ref (u 80), .ref (u 81), .ref (u 82), .int 0, .ref (u 84), .ref (u 85), .ref (u 86), .ref (u 87), .ref (u 88), .ref (u 89), .ref (u 90)])), ((u 3), .inl (cI, 10, .inl (fun _ => 0))), ((u 4), .inl (cI, 10, .inl (fun _ => 0))), ((u 5), .inl (cI, 10, .inl (fun _ => 0))), ((u 6), .inl (cI, 10, .inl (fun _ => 0))), ((u 7), .inl (cI, 10, .inl (fun _ => 0))), ((u 8), .inl (cI, 60, .inl (fun _ => 0))), ((u 9), .inl (cI, 60, .inl (fun _ => 0))), ((u 10), .inl (cI, 60, .inl (fun _ => 0))), ((u 11), .inl (cI, 60, .inl (fun _ => 0))), ((u 12), .inl (cI, 60, .inl (fun _ => 0))), ((u 13), .inl (cI, 60, .inl (fun _ => 0))), ((u 14), .inl (cI, 60, .inl (fun _ => 0))), ((u 15), .inl (cI, 60, .inl (fun _ => 0))), ((u 16), .inl (cI, 60, .inl (fun _ => 0))), ((u 17), .inl (cB, 200, .inl (fun _ => 0))), ((u 27), .inl (cI, 180, .inl (fun _ => 0))), ((u 28), .inl (cI, 180, .inl (fun _ => 0))), ((u 29), .inl (cI, 12, .inl (fun _ => 0))), ((u 30), .inl (cI, 12, .inl (fun _ => 0))), ((u 31), .inl (cI, 12, .inl (fun _ => 0))), ((u 32), .inl (cI, 1980, .inl (fun _ => 0))), ((u 33), .inl (cI, 11, .inl (fun _ => 0))), ((u 34), .inl (cI, 132, .inl (fun _ => 0))), ((u 35), .inl (cI, 132, .inl (fun _ => 0))), ((u 36), .inl (cI, 132, .inl (fun _ => 0))), ((u 37), .inl (cI, 180, .inl (fun _ => 0))), ((u 38), .inl (cI, 11, .inl (fun _ => 0))), ((u 39), .inl (cI, 58, .inl (fun _ => 0))), ((u 40), .inl (cI, 10, .inl (fun _ => 0))), ((u 41), .inl (cI, 400, .inl (fun _ => 0))), ((u 42), .inl (cI, 10, .inl (fun _ => 0))), ((u 43), .inl (cI, 2048, .inl (fun _ => 0))), ((u 47), .inl (cI, 3, .inl (fun _ => 0))), ((u 48), .inl (cI, 3, .inl (fun _ => 0))), ((u 49), .inl (cI, 3, .inl (fun _ => 0))), ((u 50), .inl (cI, 6, .inl (fun _ => 0))), ((u 51), .inl (cI, 6, .inl (fun _ => 0))), ((u 52), .inl (cI, 10, .inl (fun _ => 0))), ((u 53), .inl (cZ, 1200, .inl (fun _ => 0))), ((u 59), .inl (cI, 60, .inl (fun _ => 0))), ((u 60), .inl (cI, 60, .inl (fun _ => 0))), ((u 61), .inl (cI, 60, .inl (fun _ => 0))), ((u 64), .inl (cI, 10, .inl (fun _ => 0))), ((u 65), .inl (cI, 10, .inl (fun _ => 0))), ((u 66), .inl (cI, 40, .inl (fun _ => 0))), ((u 67), .inl (cI, 40, .inl (fun _ => 0))), ((u 68), .inl (cI, 40, .inl (fun _ => 0))), ((u 69), .inl (cI, 40, .inl (fun _ => 0))), ((u 70), .inl (cI, 40, .inl (fun _ => 0))), ((u 74), .inl (cI, 12, .inl (fun _ => 0))), ((u 76), .inl (cI, 10, .inl (fun _ => 0))), ((u 77), .inl (cI, 232, .inl (fun _ => 0))), ((u 78), .inl (cI, 10, .inl (fun _ => 0))), ((u 79), .inl (cI, 10, .inl (fun _ => 0))), ((u 80), .inl (cI, 120, .inl (fun _ => 0))), ((u 81), .inl (cI, 40, .inl (fun _ => 0))), ((u 82), .inl (cI, 40, .inl (fun _ => 0))), ((u 84), .inl (cI, 10, .inl (fun _ => 0))), ((u 85), .inl (cI, 10, .inl (fun _ => 0))), ((u 86), .inl (cI, 24, .inl (fun _ => 0))), ((u 87), .inl (cI, 10, .inl (fun _ => 0))), ((u 88), .inl (cI, 10, .inl (fun _ => 0))), ((u 89), .inl (cI, 10, .inl (fun _ => 0))), ((u 90), .inl (cI, 400, .inl (dgF 400)))]) (va_A [(x, .inr (13, [.int 0, .int 0, .int 0, .null, .null, .null, .null, .null, .null, .null, .null, .null, .null, .null, .null, .null, .null, .null, .int 0, .int 0, .int 0, .int 0, .int 0, .int 0, .int 0, .int 0, .int 0, .null, .null, .null, .null, .null, .null, .null, .null, .null, .null, .null, .null, .null, .null, .null, .null, .null, .int 0, .int 0, .int 0, .null, .null, .null, .null, .null, .null, .null, .int 0, .int 0, .int 0, .int 0, .int 0, .null, .null, .null, .int 0, .int 0, .null, .null, .null, .null, .null, .null, .null, .int 0, .int 0, .int 0, .null, .int 0, .null, .null, .null, .null, .null, .null, .null, .int 0, .null, .null, .null, .null, .null, .null, .null]))] sz)) 64 8869 (va_A [(x, .inr (13, [.int 0, .int 0, .int 0, .null, .null, .null, .null, .null, .null, .null, .null, .null, .null, .null, .null, .null, .null, .null, .int 0, .int 0, .int 0, .int 0, .int 0, .int 0, .int 0, .int 0, .int 0, .null, .null, .null, .null, .null, .null, .null, .null, .null, .null, .null, .null, .null, .null, .null, .null, .null, .int 0, .int 0, .int 0, .null, .null, .null, .null, .null, .null, .null, .int 0, .int 0, .int 0, .int 0, .int 0, .null, .null, .null, .int 0, .int 0, .null, .null, .null, .null, .null, .null, .null, .int 0, .int 0, .int 0, .null, .int 0, .null, .null, .null, .null, .null, .null, .null, .int 0, .null, .null, .null, .null, .null, .null, .null]))] sz) := by
  refine Met.ofW (cc := cX12_init) (maxL := 2) (ret := none) (by decide) rfl ?_
  intro p e s m args below meth c s₁ B hml hv
  obtain ⟨rfl, hsz, hP, hK, hD0⟩ := hv
  have hx := B.exec
  have hb := B.bytes
  have hr := B.returns
  have hts := atoms_spec (ws := (CWS yX12_init cX12_init 2 none)) B.pre
  have hown : s.vm.findClass RX12 = some m.cls := findClass_of_methodNamed B.named
  have hlocks := B.notSynchronized
  have hin : meth.name = "<init>" := (name_of_methodNamed B.named B.method).1
  have S : SF p m c cX12_init 2 s ([.ref x]).toArray RX12 := ⟨hx, hb, hml, hown, fun w h => hts w (List.mem_cons_of_mem _ h)⟩
  subst hsz
  have hD := hD0.self (sz := s.heap.size)
  generalize hAe : va_A [(x, .inr (13, [.int 0, .int 0, .int 0, .null, .null, .null, .null, .null, .null, .null, .null, .null, .null, .null, .null, .null, .null, .null, .int 0, .int 0, .int 0, .int 0, .int 0, .int 0, .int 0, .int 0, .int 0, .null, .null, .null, .null, .null, .null, .null, .null, .null, .null, .null, .null, .null, .null, .null, .null, .null, .int 0, .int 0, .int 0, .null, .null, .null, .null, .null, .null, .null, .int 0, .int 0, .int 0, .int 0, .int 0, .null, .null, .null, .int 0, .int 0, .null, .null, .null, .null, .null, .null, .null, .int 0, .int 0, .int 0, .null, .int 0, .null, .null, .null, .null, .null, .null, .null, .int 0, .null, .null, .null, .null, .null, .null, .null]))] s.heap.size = A at hD ⊢
  have hA : ∀ q : Nat, s.heap.size ≤ q → A q := fun q h => by rw [← hAe]; exact Or.inr h
  have hS : va_S A s.heap s.heap [] := va_S.rf
  have hP : va_P D vwCl [(x, .inr (13, [.int 0, .int 0, .int 0, .null, .null, .null, .null, .null, .null, .null, .null, .null, .null, .null, .null, .null, .null, .null, .int 0, .int 0, .int 0, .int 0, .int 0, .int 0, .int 0, .int 0, .int 0, .null, .null, .null, .null, .null, .null, .null, .null, .null, .null, .null, .null, .null, .null, .null, .null, .null, .int 0, .int 0, .int 0, .null, .null, .null, .null, .null, .null, .null, .int 0, .int 0, .int 0, .int 0, .int 0, .null, .null, .null, .int 0, .int 0, .null, .null, .null, .null, .null, .null, .null, .int 0, .int 0, .int 0, .null, .int 0, .null, .null, .null, .null, .null, .null, .null, .int 0, .null, .null, .null, .null, .null, .null, .null]))] s.heap := hP
  have hD : va_D A [(x, .inr (13, [.int 0, .int 0, .int 0, .null, .null, .null, .null, .null, .null, .null, .null, .null, .null, .null, .null, .null, .null, .null, .int 0, .int 0, .int 0, .int 0, .int 0, .int 0, .int 0, .int 0, .int 0, .null, .null, .null, .null, .null, .null, .null, .null, .null, .null, .null, .null, .null, .null, .null, .null, .null, .int 0, .int 0, .int 0, .null, .null, .null, .null, .null, .null, .null, .int 0, .int 0, .int 0, .int 0, .int 0, .null, .null, .null, .int 0, .int 0, .null, .null, .null, .null, .null, .null, .null, .int 0, .int 0, .int 0, .null, .int 0, .null, .null, .null, .null, .null, .null, .null, .int 0, .null, .null, .null, .null, .null, .null, .null]))] := hD
  have hl := lv_entry ([.ref x]) (n := 2) (Nat.le_of_ble_eq_true rfl)
  rw [lg_entry_eq]
  generalize (lg_sl ([.ref x]) ++ List.replicate (2 - (lg_sl ([.ref x])).length) Slot.unset).toArray = ls at hl ⊢
  have hl : lv_has ls 2 [(0, .ref x)] := hl
  obtain ⟨f_0, hf_0⟩ : ∃ z : List Value, z = [.int 0, .int 0, .int 0, .null, .null, .null, .null, .null, .null, .null, .null, .null, .null, .null, .null, .null, .null, .null, .int 0, .int 0, .int 0, .int 0, .int 0, .int 0, .int 0, .int 0, .int 0, .null, .null, .null, .null, .null, .null, .null, .null, .null, .null, .null, .null, .null, .null, .null, .null, .null, .int 0, .int 0, .int 0, .null, .null, .null, .null, .null, .null, .null, .int 0, .int 0, .int 0, .int 0, .int 0, .null, .null, .null, .int 0, .int 0, .null, .null, .null, .null, .null, .null, .null, .int 0, .int 0, .int 0, .null, .int 0, .null, .null, .null, .null, .null, .null, .null, .int 0, .null, .null, .null, .null, .null, .null, .null] := ⟨_, rfl⟩
  have hn_0 : f_0.length = 91 := by rw [hf_0]; rfl
  rw [← hf_0] at hP hD
  obtain ⟨w_0, hw_0⟩ : ∃ z : va_W, z = [] := ⟨_, rfl⟩
  have hP : va_P D vwCl ((x, .inr (13, f_0)) :: w_0) s.heap := by rw [hw_0]; exact hP
  have hD : va_D A ((x, .inr (13, f_0)) :: w_0) := by rw [hw_0]; exact hD
  refine lv_aload_n hx hb dX12_init_0 rfl (lv_at hl 0 rfl) ?_
  refine W.objInit hx hb hown (S.2.2.2.2 _ (wT_t6 112 rfl rfl)) (S.2.2.2.2 _ (wT_t1 33 rfl rfl)) (S.2.2.2.2 _ (wT_t1 34 rfl rfl)) rfl (by rw [hml]; exact hl.1) rfl dX12_init_1 (Nat.le_of_ble_eq_true rfl) (Nat.le_of_ble_eq_true rfl) ?_
  refine W.eq (g2 := F0 m 4 ls []) rfl ?_
  refine lv_aload_n hx hb dX12_init_4 rfl (lv_at hl 0 rfl) ?_
  refine lv_bipush (v := 10) hx hb dX12_init_5 (by decide) ?_
  refine newa_int S hK hP hD hS hA (N' := 10) (by decide) (by decide) (Nat.le_of_ble_eq_true rfl) (Nat.le_of_ble_eq_true rfl) (Nat.le_of_ble_eq_true rfl) dX12_init_7 (fun q7 H hP hD hS => ?_)
  have hP : va_P D vwCl ((x, .inr (13, f_0)) :: (w_0 ++ [(q7, .inl (cI, 10, .inl (fun _ => 0)))])) H := hP
  have hD : va_D A ((x, .inr (13, f_0)) :: (w_0 ++ [(q7, .inl (cI, 10, .inl (fun _ => 0)))])) := hD
  obtain ⟨w_7, hw_7⟩ : ∃ z : va_W, z = (w_0 ++ [(q7, .inl (cI, 10, .inl (fun _ => 0)))]) := ⟨_, rfl⟩
  rw [← hw_7] at hP hD
  refine pf_RX12_7 S hin hK hP hD hS 0 rfl (v := .ref q7) (by rw [hn_0]; decide) rfl rfl dX12_init_9 (fun H locs hP hD hS => ?_)
  have hP : va_P D vwCl ((x, .inr (13, (f_0.set 3 (.ref q7)))) :: w_7) H := hP
  have hD : va_D A ((x, .inr (13, (f_0.set 3 (.ref q7)))) :: w_7) := hD
  obtain ⟨f_9, hf_9⟩ : ∃ z : List Value, z = (f_0.set 3 (.ref q7)) := ⟨_, rfl⟩
  have hn_9 : f_9.length = 91 := by rw [hf_9, List.length_set]; exact hn_0
  rw [← hf_9] at hP hD
  refine lv_aload_n hx hb dX12_init_12 rfl (lv_at hl 0 rfl) ?_
  refine lv_bipush (v := 10) hx hb dX12_init_13 (by decide) ?_
  refine newa_int S hK hP hD hS hA (N' := 10) (by decide) (by decide) (Nat.le_of_ble_eq_true rfl) (Nat.le_of_ble_eq_true rfl) (Nat.le_of_ble_eq_true rfl) dX12_init_15 (fun q15 H hP hD hS => ?_)
  have hP : va_P D vwCl ((x, .inr (13, f_9)) :: (w_7 ++ [(q15, .inl (cI, 10, .inl (fun _ => 0)))])) H := hP
  have hD : va_D A ((x, .inr (13, f_9)) :: (w_7 ++ [(q15, .inl (cI, 10, .inl (fun _ => 0)))])) := hD
  obtain ⟨w_15, hw_15⟩ : ∃ z : va_W, z = (w_7 ++ [(q15, .inl (cI, 10, .inl (fun _ => 0)))]) := ⟨_, rfl⟩
  rw [← hw_15] at hP hD
  refine pf_RX12_13 S hin hK hP hD hS 0 rfl (v := .ref q15) (by rw [hn_9]; decide) rfl rfl dX12_init_17 (fun H locs hP hD hS => ?_)
  have hP : va_P D vwCl ((x, .inr (13, (f_9.set 4 (.ref q15)))) :: w_15) H := hP
  have hD : va_D A ((x, .inr (13, (f_9.set 4 (.ref q15)))) :: w_15) := hD
  obtain ⟨f_17, hf_17⟩ : ∃ z : List Value, z = (f_9.set 4 (.ref q15)) := ⟨_, rfl⟩
  have hn_17 : f_17.length = 91 := by rw [hf_17, List.length_set]; exact hn_9
  rw [← hf_17] at hP hD
  refine lv_aload_n hx hb dX12_init_20 rfl (lv_at hl 0 rfl) ?_
  refine lv_bipush (v := 10) hx hb dX12_init_21 (by decide) ?_
  refine newa_int S hK hP hD hS hA (N' := 10) (by decide) (by decide) (Nat.le_of_ble_eq_true rfl) (Nat.le_of_ble_eq_true rfl) (Nat.le_of_ble_eq_true rfl) dX12_init_23 (fun q23 H hP hD hS => ?_)
  have hP : va_P D vwCl ((x, .inr (13, f_17)) :: (w_15 ++ [(q23, .inl (cI, 10, .inl (fun _ => 0)))])) H := hP
  have hD : va_D A ((x, .inr (13, f_17)) :: (w_15 ++ [(q23, .inl (cI, 10, .inl (fun _ => 0)))])) := hD
  obtain ⟨w_23, hw_23⟩ : ∃ z : va_W, z = (w_15 ++ [(q23, .inl (cI, 10, .inl (fun _ => 0)))]) := ⟨_, rfl⟩
  rw [← hw_23] at hP hD
  refine pf_RX12_16 S hin hK hP hD hS 0 rfl (v := .ref q23) (by rw [hn_17]; decide) rfl rfl dX12_init_25 (fun H locs hP hD hS => ?_)
  have hP : va_P D vwCl ((x, .inr (13, (f_17.set 5 (.ref q23)))) :: w_23) H := hP
  have hD : va_D A ((x, .inr (13, (f_17.set 5 (.ref q23)))) :: w_23) := hD
  obtain ⟨f_25, hf_25⟩ : ∃ z : List Value, z = (f_17.set 5 (.ref q23)) := ⟨_, rfl⟩
  have hn_25 : f_25.length = 91 := by rw [hf_25, List.length_set]; exact hn_17
  rw [← hf_25] at hP hD
  refine lv_aload_n hx hb dX12_init_28 rfl (lv_at hl 0 rfl) ?_
  refine lv_bipush (v := 10) hx hb dX12_init_29 (by decide) ?_
  refine newa_int S hK hP hD hS hA (N' := 10) (by decide) (by decide) (Nat.le_of_ble_eq_true rfl) (Nat.le_of_ble_eq_true rfl) (Nat.le_of_ble_eq_true rfl) dX12_init_31 (fun q31 H hP hD hS => ?_)
  have hP : va_P D vwCl ((x, .inr (13, f_25)) :: (w_23 ++ [(q31, .inl (cI, 10, .inl (fun _ => 0)))])) H := hP
  have hD : va_D A ((x, .inr (13, f_25)) :: (w_23 ++ [(q31, .inl (cI, 10, .inl (fun _ => 0)))])) := hD
  obtain ⟨w_31, hw_31⟩ : ∃ z : va_W, z = (w_23 ++ [(q31, .inl (cI, 10, .inl (fun _ => 0)))]) := ⟨_, rfl⟩
  rw [← hw_31] at hP hD
  refine pf_RX12_19 S hin hK hP hD hS 0 rfl (v := .ref q31) (by rw [hn_25]; decide) rfl rfl dX12_init_33 (fun H locs hP hD hS => ?_)
  have hP : va_P D vwCl ((x, .inr (13, (f_25.set 6 (.ref q31)))) :: w_31) H := hP
  have hD : va_D A ((x, .inr (13, (f_25.set 6 (.ref q31)))) :: w_31) := hD
  obtain ⟨f_33, hf_33⟩ : ∃ z : List Value, z = (f_25.set 6 (.ref q31)) := ⟨_, rfl⟩
  have hn_33 : f_33.length = 91 := by rw [hf_33, List.length_set]; exact hn_25
  rw [← hf_33] at hP hD
  refine lv_aload_n hx hb dX12_init_36 rfl (lv_at hl 0 rfl) ?_
  refine lv_bipush (v := 10) hx hb dX12_init_37 (by decide) ?_
  refine newa_int S hK hP hD hS hA (N' := 10) (by decide) (by decide) (Nat.le_of_ble_eq_true rfl) (Nat.le_of_ble_eq_true rfl) (Nat.le_of_ble_eq_true rfl) dX12_init_39 (fun q39 H hP hD hS => ?_)
  have hP : va_P D vwCl ((x, .inr (13, f_33)) :: (w_31 ++ [(q39, .inl (cI, 10, .inl (fun _ => 0)))])) H := hP
  have hD : va_D A ((x, .inr (13, f_33)) :: (w_31 ++ [(q39, .inl (cI, 10, .inl (fun _ => 0)))])) := hD
  obtain ⟨w_39, hw_39⟩ : ∃ z : va_W, z = (w_31 ++ [(q39, .inl (cI, 10, .inl (fun _ => 0)))]) := ⟨_, rfl⟩
  rw [← hw_39] at hP hD
  refine pf_RX12_22 S hin hK hP hD hS 0 rfl (v := .ref q39) (by rw [hn_33]; decide) rfl rfl dX12_init_41 (fun H locs hP hD hS => ?_)
  have hP : va_P D vwCl ((x, .inr (13, (f_33.set 7 (.ref q39)))) :: w_39) H := hP
  have hD : va_D A ((x, .inr (13, (f_33.set 7 (.ref q39)))) :: w_39) := hD
  obtain ⟨f_41, hf_41⟩ : ∃ z : List Value, z = (f_33.set 7 (.ref q39)) := ⟨_, rfl⟩
  have hn_41 : f_41.length = 91 := by rw [hf_41, List.length_set]; exact hn_33
  rw [← hf_41] at hP hD
  refine lv_aload_n hx hb dX12_init_44 rfl (lv_at hl 0 rfl) ?_
  refine lv_bipush (v := 60) hx hb dX12_init_45 (by decide) ?_
  refine newa_int S hK hP hD hS hA (N' := 60) (by decide) (by decide) (Nat.le_of_ble_eq_true rfl) (Nat.le_of_ble_eq_true rfl) (Nat.le_of_ble_eq_true rfl) dX12_init_47 (fun q47 H hP hD hS => ?_)
  have hP : va_P D vwCl ((x, .inr (13, f_41)) :: (w_39 ++ [(q47, .inl (cI, 60, .inl (fun _ => 0)))])) H := hP
  have hD : va_D A ((x, .inr (13, f_41)) :: (w_39 ++ [(q47, .inl (cI, 60, .inl (fun _ => 0)))])) := hD
  obtain ⟨w_47, hw_47⟩ : ∃ z : va_W, z = (w_39 ++ [(q47, .inl (cI, 60, .inl (fun _ => 0)))]) := ⟨_, rfl⟩
  rw [← hw_47] at hP hD
  refine pf_RX12_25 S hin hK hP hD hS 0 rfl (v := .ref q47) (by rw [hn_41]; decide) rfl rfl dX12_init_49 (fun H locs hP hD hS => ?_)
  have hP : va_P D vwCl ((x, .inr (13, (f_41.set 8 (.ref q47)))) :: w_47) H := hP
  have hD : va_D A ((x, .inr (13, (f_41.set 8 (.ref q47)))) :: w_47) := hD
  obtain ⟨f_49, hf_49⟩ : ∃ z : List Value, z = (f_41.set 8 (.ref q47)) := ⟨_, rfl⟩
  have hn_49 : f_49.length = 91 := by rw [hf_49, List.length_set]; exact hn_41
  rw [← hf_49] at hP hD
  refine lv_aload_n hx hb dX12_init_52 rfl (lv_at hl 0 rfl) ?_
  refine lv_bipush (v := 60) hx hb dX12_init_53 (by decide) ?_
  refine newa_int S hK hP hD hS hA (N' := 60) (by decide) (by decide) (Nat.le_of_ble_eq_true rfl) (Nat.le_of_ble_eq_true rfl) (Nat.le_of_ble_eq_true rfl) dX12_init_55 (fun q55 H hP hD hS => ?_)
  have hP : va_P D vwCl ((x, .inr (13, f_49)) :: (w_47 ++ [(q55, .inl (cI, 60, .inl (fun _ => 0)))])) H := hP
  have hD : va_D A ((x, .inr (13, f_49)) :: (w_47 ++ [(q55, .inl (cI, 60, .inl (fun _ => 0)))])) := hD
  obtain ⟨w_55, hw_55⟩ : ∃ z : va_W, z = (w_47 ++ [(q55, .inl (cI, 60, .inl (fun _ => 0)))]) := ⟨_, rfl⟩
  rw [← hw_55] at hP hD
  refine pf_RX12_28 S hin hK hP hD hS 0 rfl (v := .ref q55) (by rw [hn_49]; decide) rfl rfl dX12_init_57 (fun H locs hP hD hS => ?_)
  have hP : va_P D vwCl ((x, .inr (13, (f_49.set 9 (.ref q55)))) :: w_55) H := hP
  have hD : va_D A ((x, .inr (13, (f_49.set 9 (.ref q55)))) :: w_55) := hD
  obtain ⟨f_57, hf_57⟩ : ∃ z : List Value, z = (f_49.set 9 (.ref q55)) := ⟨_, rfl⟩
  have hn_57 : f_57.length = 91 := by rw [hf_57, List.length_set]; exact hn_49
  rw [← hf_57] at hP hD
  refine lv_aload_n hx hb dX12_init_60 rfl (lv_at hl 0 rfl) ?_
  refine lv_bipush (v := 60) hx hb dX12_init_61 (by decide) ?_
  refine newa_int S hK hP hD hS hA (N' := 60) (by decide) (by decide) (Nat.le_of_ble_eq_true rfl) (Nat.le_of_ble_eq_true rfl) (Nat.le_of_ble_eq_true rfl) dX12_init_63 (fun q63 H hP hD hS => ?_)
  have hP : va_P D vwCl ((x, .inr (13, f_57)) :: (w_55 ++ [(q63, .inl (cI, 60, .inl (fun _ => 0)))])) H := hP
  have hD : va_D A ((x, .inr (13, f_57)) :: (w_55 ++ [(q63, .inl (cI, 60, .inl (fun _ => 0)))])) := hD
  obtain ⟨w_63, hw_63⟩ : ∃ z : va_W, z = (w_55 ++ [(q63, .inl (cI, 60, .inl (fun _ => 0)))]) := ⟨_, rfl⟩
  rw [← hw_63] at hP hD
  refine pf_RX12_31 S hin hK hP hD hS 0 rfl (v := .ref q63) (by rw [hn_57]; decide) rfl rfl dX12_init_65 (fun H locs hP hD hS => ?_)
  have hP : va_P D vwCl ((x, .inr (13, (f_57.set 10 (.ref q63)))) :: w_63) H := hP
  have hD : va_D A ((x, .inr (13, (f_57.set 10 (.ref q63)))) :: w_63) := hD
  obtain ⟨f_65, hf_65⟩ : ∃ z : List Value, z = (f_57.set 10 (.ref q63)) := ⟨_, rfl⟩
  have hn_65 : f_65.length = 91 := by rw [hf_65, List.length_set]; exact hn_57
  rw [← hf_65] at hP hD
  refine lv_aload_n hx hb dX12_init_68 rfl (lv_at hl 0 rfl) ?_
  refine lv_bipush (v := 60) hx hb dX12_init_69 (by decide) ?_
  refine newa_int S hK hP hD hS hA (N' := 60) (by decide) (by decide) (Nat.le_of_ble_eq_true rfl) (Nat.le_of_ble_eq_true rfl) (Nat.le_of_ble_eq_true rfl) dX12_init_71 (fun q71 H hP hD hS => ?_)
  have hP : va_P D vwCl ((x, .inr (13, f_65)) :: (w_63 ++ [(q71, .inl (cI, 60, .inl (fun _ => 0)))])) H := hP
  have hD : va_D A ((x, .inr (13, f_65)) :: (w_63 ++ [(q71, .inl (cI, 60, .inl (fun _ => 0)))])) := hD
  obtain ⟨w_71, hw_71⟩ : ∃ z : va_W, z = (w_63 ++ [(q71, .inl (cI, 60, .inl (fun _ => 0)))]) := ⟨_, rfl⟩
  rw [← hw_71] at hP hD
  refine pf_RX12_34 S hin hK hP hD hS 0 rfl (v := .ref q71) (by rw [hn_65]; decide) rfl rfl dX12_init_73 (fun H locs hP hD hS => ?_)
  have hP : va_P D vwCl ((x, .inr (13, (f_65.set 11 (.ref q71)))) :: w_71) H := hP
  have hD : va_D A ((x, .inr (13, (f_65.set 11 (.ref q71)))) :: w_71) := hD
  obtain ⟨f_73, hf_73⟩ : ∃ z : List Value, z = (f_65.set 11 (.ref q71)) := ⟨_, rfl⟩
  have hn_73 : f_73.length = 91 := by rw [hf_73, List.length_set]; exact hn_65
  rw [← hf_73] at hP hD
  refine lv_aload_n hx hb dX12_init_76 rfl (lv_at hl 0 rfl) ?_
  refine lv_bipush (v := 60) hx hb dX12_init_77 (by decide) ?_
  refine newa_int S hK hP hD hS hA (N' := 60) (by decide) (by decide) (Nat.le_of_ble_eq_true rfl) (Nat.le_of_ble_eq_true rfl) (Nat.le_of_ble_eq_true rfl) dX12_init_79 (fun q79 H hP hD hS => ?_)
  have hP : va_P D vwCl ((x, .inr (13, f_73)) :: (w_71 ++ [(q79, .inl (cI, 60, .inl (fun _ => 0)))])) H := hP
  have hD : va_D A ((x, .inr (13, f_73)) :: (w_71 ++ [(q79, .inl (cI, 60, .inl (fun _ => 0)))])) := hD
  obtain ⟨w_79, hw_79⟩ : ∃ z : va_W, z = (w_71 ++ [(q79, .inl (cI, 60, .inl (fun _ => 0)))]) := ⟨_, rfl⟩
  rw [← hw_79] at hP hD
  refine pf_RX12_37 S hin hK hP hD hS 0 rfl (v := .ref q79) (by rw [hn_73]; decide) rfl rfl dX12_init_81 (fun H locs hP hD hS => ?_)
  have hP : va_P D vwCl ((x, .inr (13, (f_73.set 12 (.ref q79)))) :: w_79) H := hP
  have hD : va_D A ((x, .inr (13, (f_73.set 12 (.ref q79)))) :: w_79) := hD
  obtain ⟨f_81, hf_81⟩ : ∃ z : List Value, z = (f_73.set 12 (.ref q79)) := ⟨_, rfl⟩
  have hn_81 : f_81.length = 91 := by rw [hf_81, List.length_set]; exact hn_73
  rw [← hf_81] at hP hD
  refine lv_aload_n hx hb dX12_init_84 rfl (lv_at hl 0 rfl) ?_
  refine lv_bipush (v := 60) hx hb dX12_init_85 (by decide) ?_
  refine newa_int S hK hP hD hS hA (N' := 60) (by decide) (by decide) (Nat.le_of_ble_eq_true rfl) (Nat.le_of_ble_eq_true rfl) (Nat.le_of_ble_eq_true rfl) dX12_init_87 (fun q87 H hP hD hS => ?_)
  have hP : va_P D vwCl ((x, .inr (13, f_81)) :: (w_79 ++ [(q87, .inl (cI, 60, .inl (fun _ => 0)))])) H := hP
  have hD : va_D A ((x, .inr (13, f_81)) :: (w_79 ++ [(q87, .inl (cI, 60, .inl (fun _ => 0)))])) := hD
  obtain ⟨w_87, hw_87⟩ : ∃ z : va_W, z = (w_79 ++ [(q87, .inl (cI, 60, .inl (fun _ => 0)))]) := ⟨_, rfl⟩
  rw [← hw_87] at hP hD
  refine pf_RX12_40 S hin hK hP hD hS 0 rfl (v := .ref q87) (by rw [hn_81]; decide) rfl rfl dX12_init_89 (fun H locs hP hD hS => ?_)
  have hP : va_P D vwCl ((x, .inr (13, (f_81.set 13 (.ref q87)))) :: w_87) H := hP
  have hD : va_D A ((x, .inr (13, (f_81.set 13 (.ref q87)))) :: w_87) := hD
  obtain ⟨f_89, hf_89⟩ : ∃ z : List Value, z = (f_81.set 13 (.ref q87)) := ⟨_, rfl⟩
  have hn_89 : f_89.length = 91 := by rw [hf_89, List.length_set]; exact hn_81
  rw [← hf_89] at hP hD
  refine lv_aload_n hx hb dX12_init_92 rfl (lv_at hl 0 rfl) ?_
  refine lv_bipush (v := 60) hx hb dX12_init_93 (by decide) ?_
  refine newa_int S hK hP hD hS hA (N' := 60) (by decide) (by decide) (Nat.le_of_ble_eq_true rfl) (Nat.le_of_ble_eq_true rfl) (Nat.le_of_ble_eq_true rfl) dX12_init_95 (fun q95 H hP hD hS => ?_)
  have hP : va_P D vwCl ((x, .inr (13, f_89)) :: (w_87 ++ [(q95, .inl (cI, 60, .inl (fun _ => 0)))])) H := hP
  have hD : va_D A ((x, .inr (13, f_89)) :: (w_87 ++ [(q95, .inl (cI, 60, .inl (fun _ => 0)))])) := hD
  obtain ⟨w_95, hw_95⟩ : ∃ z : va_W, z = (w_87 ++ [(q95, .inl (cI, 60, .inl (fun _ => 0)))]) := ⟨_, rfl⟩
  rw [← hw_95] at hP hD
  refine pf_RX12_43 S hin hK hP hD hS 0 rfl (v := .ref q95) (by rw [hn_89]; decide) rfl rfl dX12_init_97 (fun H locs hP hD hS => ?_)
  have hP : va_P D vwCl ((x, .inr (13, (f_89.set 14 (.ref q95)))) :: w_95) H := hP
  have hD : va_D A ((x, .inr (13, (f_89.set 14 (.ref q95)))) :: w_95) := hD
  obtain ⟨f_97, hf_97⟩ : ∃ z : List Value, z = (f_89.set 14 (.ref q95)) := ⟨_, rfl⟩
  have hn_97 : f_97.length = 91 := by rw [hf_97, List.length_set]; exact hn_89
  rw [← hf_97] at hP hD
  refine lv_aload_n hx hb dX12_init_100 rfl (lv_at hl 0 rfl) ?_
  refine lv_bipush (v := 60) hx hb dX12_init_101 (by decide) ?_
  refine newa_int S hK hP hD hS hA (N' := 60) (by decide) (by decide) (Nat.le_of_ble_eq_true rfl) (Nat.le_of_ble_eq_true rfl) (Nat.le_of_ble_eq_true rfl) dX12_init_103 (fun q103 H hP hD hS => ?_)
  have hP : va_P D vwCl ((x, .inr (13, f_97)) :: (w_95 ++ [(q103, .inl (cI, 60, .inl (fun _ => 0)))])) H := hP
  have hD : va_D A ((x, .inr (13, f_97)) :: (w_95 ++ [(q103, .inl (cI, 60, .inl (fun _ => 0)))])) := hD
  obtain ⟨w_103, hw_103⟩ : ∃ z : va_W, z = (w_95 ++ [(q103, .inl (cI, 60, .inl (fun _ => 0)))]) := ⟨_, rfl⟩
  rw [← hw_103] at hP hD
  refine pf_RX12_46 S hin hK hP hD hS 0 rfl (v := .ref q103) (by rw [hn_97]; decide) rfl rfl dX12_init_105 (fun H locs hP hD hS => ?_)
  have hP : va_P D vwCl ((x, .inr (13, (f_97.set 15 (.ref q103)))) :: w_103) H := hP
  have hD : va_D A ((x, .inr (13, (f_97.set 15 (.ref q103)))) :: w_103) := hD
  obtain ⟨f_105, hf_105⟩ : ∃ z : List Value, z = (f_97.set 15 (.ref q103)) := ⟨_, rfl⟩
  have hn_105 : f_105.length = 91 := by rw [hf_105, List.length_set]; exact hn_97
  rw [← hf_105] at hP hD
  refine lv_aload_n hx hb dX12_init_108 rfl (lv_at hl 0 rfl) ?_
  refine lv_bipush (v := 60) hx hb dX12_init_109 (by decide) ?_
  refine newa_int S hK hP hD hS hA (N' := 60) (by decide) (by decide) (Nat.le_of_ble_eq_true rfl) (Nat.le_of_ble_eq_true rfl) (Nat.le_of_ble_eq_true rfl) dX12_init_111 (fun q111 H hP hD hS => ?_)
  have hP : va_P D vwCl ((x, .inr (13, f_105)) :: (w_103 ++ [(q111, .inl (cI, 60, .inl (fun _ => 0)))])) H := hP
  have hD : va_D A ((x, .inr (13, f_105)) :: (w_103 ++ [(q111, .inl (cI, 60, .inl (fun _ => 0)))])) := hD
  obtain ⟨w_111, hw_111⟩ : ∃ z : va_W, z = (w_103 ++ [(q111, .inl (cI, 60, .inl (fun _ => 0)))]) := ⟨_, rfl⟩
  rw [← hw_111] at hP hD
  refine pf_RX12_49 S hin hK hP hD hS 0 rfl (v := .ref q111) (by rw [hn_105]; decide) rfl rfl dX12_init_113 (fun H locs hP hD hS => ?_)
  have hP : va_P D vwCl ((x, .inr (13, (f_105.set 16 (.ref q111)))) :: w_111) H := hP
  have hD : va_D A ((x, .inr (13, (f_105.set 16 (.ref q111)))) :: w_111) := hD
  obtain ⟨f_113, hf_113⟩ : ∃ z : List Value, z = (f_105.set 16 (.ref q111)) := ⟨_, rfl⟩
  have hn_113 : f_113.length = 91 := by rw [hf_113, List.length_set]; exact hn_105
  rw [← hf_113] at hP hD
  refine lv_aload_n hx hb dX12_init_116 rfl (lv_at hl 0 rfl) ?_
  refine lv_sipush (v := 200) hx hb dX12_init_117 (by decide) ?_
  refine newa_byte S hK hP hD hS hA (N' := 200) (by decide) (by decide) (Nat.le_of_ble_eq_true rfl) (Nat.le_of_ble_eq_true rfl) (Nat.le_of_ble_eq_true rfl) dX12_init_120 (fun q120 H hP hD hS => ?_)
  have hP : va_P D vwCl ((x, .inr (13, f_113)) :: (w_111 ++ [(q120, .inl (cB, 200, .inl (fun _ => 0)))])) H := hP
  have hD : va_D A ((x, .inr (13, f_113)) :: (w_111 ++ [(q120, .inl (cB, 200, .inl (fun _ => 0)))])) := hD
  obtain ⟨w_120, hw_120⟩ : ∃ z : va_W, z = (w_111 ++ [(q120, .inl (cB, 200, .inl (fun _ => 0)))]) := ⟨_, rfl⟩
  rw [← hw_120] at hP hD
  refine pf_RX12_52 S hin hK hP hD hS 0 rfl (v := .ref q120) (by rw [hn_113]; decide) rfl rfl dX12_init_122 (fun H locs hP hD hS => ?_)
  have hP : va_P D vwCl ((x, .inr (13, (f_113.set 17 (.ref q120)))) :: w_120) H := hP
  have hD : va_D A ((x, .inr (13, (f_113.set 17 (.ref q120)))) :: w_120) := hD
  obtain ⟨f_122, hf_122⟩ : ∃ z : List Value, z = (f_113.set 17 (.ref q120)) := ⟨_, rfl⟩
  have hn_122 : f_122.length = 91 := by rw [hf_122, List.length_set]; exact hn_113
  rw [← hf_122] at hP hD
  refine lv_aload_n hx hb dX12_init_125 rfl (lv_at hl 0 rfl) ?_
  refine lv_sipush (v := 180) hx hb dX12_init_126 (by decide) ?_
  refine newa_int S hK hP hD hS hA (N' := 180) (by decide) (by decide) (Nat.le_of_ble_eq_true rfl) (Nat.le_of_ble_eq_true rfl) (Nat.le_of_ble_eq_true rfl) dX12_init_129 (fun q129 H hP hD hS => ?_)
  have hP : va_P D vwCl ((x, .inr (13, f_122)) :: (w_120 ++ [(q129, .inl (cI, 180, .inl (fun _ => 0)))])) H := hP
  have hD : va_D A ((x, .inr (13, f_122)) :: (w_120 ++ [(q129, .inl (cI, 180, .inl (fun _ => 0)))])) := hD
  obtain ⟨w_129, hw_129⟩ : ∃ z : va_W, z = (w_120 ++ [(q129, .inl (cI, 180, .inl (fun _ => 0)))]) := ⟨_, rfl⟩
  rw [← hw_129] at hP hD
  refine pf_RX12_56 S hin hK hP hD hS 0 rfl (v := .ref q129) (by rw [hn_122]; decide) rfl rfl dX12_init_131 (fun H locs hP hD hS => ?_)
  have hP : va_P D vwCl ((x, .inr (13, (f_122.set 27 (.ref q129)))) :: w_129) H := hP
  have hD : va_D A ((x, .inr (13, (f_122.set 27 (.ref q129)))) :: w_129) := hD
  obtain ⟨f_131, hf_131⟩ : ∃ z : List Value, z = (f_122.set 27 (.ref q129)) := ⟨_, rfl⟩
  have hn_131 : f_131.length = 91 := by rw [hf_131, List.length_set]; exact hn_122
  rw [← hf_131] at hP hD
  refine lv_aload_n hx hb dX12_init_134 rfl (lv_at hl 0 rfl) ?_
  refine lv_sipush (v := 180) hx hb dX12_init_135 (by decide) ?_
  refine newa_int S hK hP hD hS hA (N' := 180) (by decide) (by decide) (Nat.le_of_ble_eq_true rfl) (Nat.le_of_ble_eq_true rfl) (Nat.le_of_ble_eq_true rfl) dX12_init_138 (fun q138 H hP hD hS => ?_)
  have hP : va_P D vwCl ((x, .inr (13, f_131)) :: (w_129 ++ [(q138, .inl (cI, 180, .inl (fun _ => 0)))])) H := hP
  have hD : va_D A ((x, .inr (13, f_131)) :: (w_129 ++ [(q138, .inl (cI, 180, .inl (fun _ => 0)))])) := hD
  obtain ⟨w_138, hw_138⟩ : ∃ z : va_W, z = (w_129 ++ [(q138, .inl (cI, 180, .inl (fun _ => 0)))]) := ⟨_, rfl⟩
  rw [← hw_138] at hP hD
  refine pf_RX12_59 S hin hK hP hD hS 0 rfl (v := .ref q138) (by rw [hn_131]; decide) rfl rfl dX12_init_140 (fun H locs hP hD hS => ?_)
  have hP : va_P D vwCl ((x, .inr (13, (f_131.set 28 (.ref q138)))) :: w_138) H := hP
  have hD : va_D A ((x, .inr (13, (f_131.set 28 (.ref q138)))) :: w_138) := hD
  obtain ⟨f_140, hf_140⟩ : ∃ z : List Value, z = (f_131.set 28 (.ref q138)) := ⟨_, rfl⟩
  have hn_140 : f_140.length = 91 := by rw [hf_140, List.length_set]; exact hn_131
  rw [← hf_140] at hP hD
  refine lv_aload_n hx hb dX12_init_143 rfl (lv_at hl 0 rfl) ?_
  refine lv_bipush (v := 12) hx hb dX12_init_144 (by decide) ?_
  refine newa_int S hK hP hD hS hA (N' := 12) (by decide) (by decide) (Nat.le_of_ble_eq_true rfl) (Nat.le_of_ble_eq_true rfl) (Nat.le_of_ble_eq_true rfl) dX12_init_146 (fun q146 H hP hD hS => ?_)
  have hP : va_P D vwCl ((x, .inr (13, f_140)) :: (w_138 ++ [(q146, .inl (cI, 12, .inl (fun _ => 0)))])) H := hP
  have hD : va_D A ((x, .inr (13, f_140)) :: (w_138 ++ [(q146, .inl (cI, 12, .inl (fun _ => 0)))])) := hD
  obtain ⟨w_146, hw_146⟩ : ∃ z : va_W, z = (w_138 ++ [(q146, .inl (cI, 12, .inl (fun _ => 0)))]) := ⟨_, rfl⟩
  rw [← hw_146] at hP hD
  refine pf_RX12_62 S hin hK hP hD hS 0 rfl (v := .ref q146) (by rw [hn_140]; decide) rfl rfl dX12_init_148 (fun H locs hP hD hS => ?_)
  have hP : va_P D vwCl ((x, .inr (13, (f_140.set 29 (.ref q146)))) :: w_146) H := hP
  have hD : va_D A ((x, .inr (13, (f_140.set 29 (.ref q146)))) :: w_146) := hD
  obtain ⟨f_148, hf_148⟩ : ∃ z : List Value, z = (f_140.set 29 (.ref q146)) := ⟨_, rfl⟩
  have hn_148 : f_148.length = 91 := by rw [hf_148, List.length_set]; exact hn_140
  rw [← hf_148] at hP hD
  refine lv_aload_n hx hb dX12_init_151 rfl (lv_at hl 0 rfl) ?_
  refine lv_bipush (v := 12) hx hb dX12_init_152 (by decide) ?_
  refine newa_int S hK hP hD hS hA (N' := 12) (by decide) (by decide) (Nat.le_of_ble_eq_true rfl) (Nat.le_of_ble_eq_true rfl) (Nat.le_of_ble_eq_true rfl) dX12_init_154 (fun q154 H hP hD hS => ?_)
  have hP : va_P D vwCl ((x, .inr (13, f_148)) :: (w_146 ++ [(q154, .inl (cI, 12, .inl (fun _ => 0)))])) H := hP
  have hD : va_D A ((x, .inr (13, f_148)) :: (w_146 ++ [(q154, .inl (cI, 12, .inl (fun _ => 0)))])) := hD
  obtain ⟨w_154, hw_154⟩ : ∃ z : va_W, z = (w_146 ++ [(q154, .inl (cI, 12, .inl (fun _ => 0)))]) := ⟨_, rfl⟩
  rw [← hw_154] at hP hD
  refine pf_RX12_65 S hin hK hP hD hS 0 rfl (v := .ref q154) (by rw [hn_148]; decide) rfl rfl dX12_init_156 (fun H locs hP hD hS => ?_)
  have hP : va_P D vwCl ((x, .inr (13, (f_148.set 30 (.ref q154)))) :: w_154) H := hP
  have hD : va_D A ((x, .inr (13, (f_148.set 30 (.ref q154)))) :: w_154) := hD
  obtain ⟨f_156, hf_156⟩ : ∃ z : List Value, z = (f_148.set 30 (.ref q154)) := ⟨_, rfl⟩
  have hn_156 : f_156.length = 91 := by rw [hf_156, List.length_set]; exact hn_148
  rw [← hf_156] at hP hD
  refine lv_aload_n hx hb dX12_init_159 rfl (lv_at hl 0 rfl) ?_
  refine lv_bipush (v := 12) hx hb dX12_init_160 (by decide) ?_
  refine newa_int S hK hP hD hS hA (N' := 12) (by decide) (by decide) (Nat.le_of_ble_eq_true rfl) (Nat.le_of_ble_eq_true rfl) (Nat.le_of_ble_eq_true rfl) dX12_init_162 (fun q162 H hP hD hS => ?_)
  have hP : va_P D vwCl ((x, .inr (13, f_156)) :: (w_154 ++ [(q162, .inl (cI, 12, .inl (fun _ => 0)))])) H := hP
  have hD : va_D A ((x, .inr (13, f_156)) :: (w_154 ++ [(q162, .inl (cI, 12, .inl (fun _ => 0)))])) := hD
  obtain ⟨w_162, hw_162⟩ : ∃ z : va_W, z = (w_154 ++ [(q162, .inl (cI, 12, .inl (fun _ => 0)))]) := ⟨_, rfl⟩
  rw [← hw_162] at hP hD
  refine pf_RX12_68 S hin hK hP hD hS 0 rfl (v := .ref q162) (by rw [hn_156]; decide) rfl rfl dX12_init_164 (fun H locs hP hD hS => ?_)
  have hP : va_P D vwCl ((x, .inr (13, (f_156.set 31 (.ref q162)))) :: w_162) H := hP
  have hD : va_D A ((x, .inr (13, (f_156.set 31 (.ref q162)))) :: w_162) := hD
  obtain ⟨f_164, hf_164⟩ : ∃ z : List Value, z = (f_156.set 31 (.ref q162)) := ⟨_, rfl⟩
  have hn_164 : f_164.length = 91 := by rw [hf_164, List.length_set]; exact hn_156
  rw [← hf_164] at hP hD
  refine lv_aload_n hx hb dX12_init_167 rfl (lv_at hl 0 rfl) ?_
  refine lv_sipush (v := 1980) hx hb dX12_init_168 (by decide) ?_
  refine newa_int S hK hP hD hS hA (N' := 1980) (by decide) (by decide) (Nat.le_of_ble_eq_true rfl) (Nat.le_of_ble_eq_true rfl) (Nat.le_of_ble_eq_true rfl) dX12_init_171 (fun q171 H hP hD hS => ?_)
  have hP : va_P D vwCl ((x, .inr (13, f_164)) :: (w_162 ++ [(q171, .inl (cI, 1980, .inl (fun _ => 0)))])) H := hP
  have hD : va_D A ((x, .inr (13, f_164)) :: (w_162 ++ [(q171, .inl (cI, 1980, .inl (fun _ => 0)))])) := hD
  obtain ⟨w_171, hw_171⟩ : ∃ z : va_W, z = (w_162 ++ [(q171, .inl (cI, 1980, .inl (fun _ => 0)))]) := ⟨_, rfl⟩
  rw [← hw_171] at hP hD
  refine pf_RX12_71 S hin hK hP hD hS 0 rfl (v := .ref q171) (by rw [hn_164]; decide) rfl rfl dX12_init_173 (fun H locs hP hD hS => ?_)
  have hP : va_P D vwCl ((x, .inr (13, (f_164.set 32 (.ref q171)))) :: w_171) H := hP
  have hD : va_D A ((x, .inr (13, (f_164.set 32 (.ref q171)))) :: w_171) := hD
  obtain ⟨f_173, hf_173⟩ : ∃ z : List Value, z = (f_164.set 32 (.ref q171)) := ⟨_, rfl⟩
  have hn_173 : f_173.length = 91 := by rw [hf_173, List.length_set]; exact hn_164
  rw [← hf_173] at hP hD
  refine lv_aload_n hx hb dX12_init_176 rfl (lv_at hl 0 rfl) ?_
  refine lv_bipush (v := 11) hx hb dX12_init_177 (by decide) ?_
  refine newa_int S hK hP hD hS hA (N' := 11) (by decide) (by decide) (Nat.le_of_ble_eq_true rfl) (Nat.le_of_ble_eq_true rfl) (Nat.le_of_ble_eq_true rfl) dX12_init_179 (fun q179 H hP hD hS => ?_)
  have hP : va_P D vwCl ((x, .inr (13, f_173)) :: (w_171 ++ [(q179, .inl (cI, 11, .inl (fun _ => 0)))])) H := hP
  have hD : va_D A ((x, .inr (13, f_173)) :: (w_171 ++ [(q179, .inl (cI, 11, .inl (fun _ => 0)))])) := hD
  obtain ⟨w_179, hw_179⟩ : ∃ z : va_W, z = (w_171 ++ [(q179, .inl (cI, 11, .inl (fun _ => 0)))]) := ⟨_, rfl⟩
  rw [← hw_179] at hP hD
  refine pf_RX12_74 S hin hK hP hD hS 0 rfl (v := .ref q179) (by rw [hn_173]; decide) rfl rfl dX12_init_181 (fun H locs hP hD hS => ?_)
  have hP : va_P D vwCl ((x, .inr (13, (f_173.set 33 (.ref q179)))) :: w_179) H := hP
  have hD : va_D A ((x, .inr (13, (f_173.set 33 (.ref q179)))) :: w_179) := hD
  obtain ⟨f_181, hf_181⟩ : ∃ z : List Value, z = (f_173.set 33 (.ref q179)) := ⟨_, rfl⟩
  have hn_181 : f_181.length = 91 := by rw [hf_181, List.length_set]; exact hn_173
  rw [← hf_181] at hP hD
  refine lv_aload_n hx hb dX12_init_184 rfl (lv_at hl 0 rfl) ?_
  refine lv_sipush (v := 132) hx hb dX12_init_185 (by decide) ?_
  refine newa_int S hK hP hD hS hA (N' := 132) (by decide) (by decide) (Nat.le_of_ble_eq_true rfl) (Nat.le_of_ble_eq_true rfl) (Nat.le_of_ble_eq_true rfl) dX12_init_188 (fun q188 H hP hD hS => ?_)
  have hP : va_P D vwCl ((x, .inr (13, f_181)) :: (w_179 ++ [(q188, .inl (cI, 132, .inl (fun _ => 0)))])) H := hP
  have hD : va_D A ((x, .inr (13, f_181)) :: (w_179 ++ [(q188, .inl (cI, 132, .inl (fun _ => 0)))])) := hD
  obtain ⟨w_188, hw_188⟩ : ∃ z : va_W, z = (w_179 ++ [(q188, .inl (cI, 132, .inl (fun _ => 0)))]) := ⟨_, rfl⟩
  rw [← hw_188] at hP hD
  refine pf_RX12_77 S hin hK hP hD hS 0 rfl (v := .ref q188) (by rw [hn_181]; decide) rfl rfl dX12_init_190 (fun H locs hP hD hS => ?_)
  have hP : va_P D vwCl ((x, .inr (13, (f_181.set 34 (.ref q188)))) :: w_188) H := hP
  have hD : va_D A ((x, .inr (13, (f_181.set 34 (.ref q188)))) :: w_188) := hD
  obtain ⟨f_190, hf_190⟩ : ∃ z : List Value, z = (f_181.set 34 (.ref q188)) := ⟨_, rfl⟩
  have hn_190 : f_190.length = 91 := by rw [hf_190, List.length_set]; exact hn_181
  rw [← hf_190] at hP hD
  refine lv_aload_n hx hb dX12_init_193 rfl (lv_at hl 0 rfl) ?_
  refine lv_sipush (v := 132) hx hb dX12_init_194 (by decide) ?_
  refine newa_int S hK hP hD hS hA (N' := 132) (by decide) (by decide) (Nat.le_of_ble_eq_true rfl) (Nat.le_of_ble_eq_true rfl) (Nat.le_of_ble_eq_true rfl) dX12_init_197 (fun q197 H hP hD hS => ?_)
  have hP : va_P D vwCl ((x, .inr (13, f_190)) :: (w_188 ++ [(q197, .inl (cI, 132, .inl (fun _ => 0)))])) H := hP
  have hD : va_D A ((x, .inr (13, f_190)) :: (w_188 ++ [(q197, .inl (cI, 132, .inl (fun _ => 0)))])) := hD
  obtain ⟨w_197, hw_197⟩ : ∃ z : va_W, z = (w_188 ++ [(q197, .inl (cI, 132, .inl (fun _ => 0)))]) := ⟨_, rfl⟩
  rw [← hw_197] at hP hD
  refine pf_RX12_80 S hin hK hP hD hS 0 rfl (v := .ref q197) (by rw [hn_190]; decide) rfl rfl dX12_init_199 (fun H locs hP hD hS => ?_)
  have hP : va_P D vwCl ((x, .inr (13, (f_190.set 35 (.ref q197)))) :: w_197) H := hP
  have hD : va_D A ((x, .inr (13, (f_190.set 35 (.ref q197)))) :: w_197) := hD
  obtain ⟨f_199, hf_199⟩ : ∃ z : List Value, z = (f_190.set 35 (.ref q197)) := ⟨_, rfl⟩
  have hn_199 : f_199.length = 91 := by rw [hf_199, List.length_set]; exact hn_190
  rw [← hf_199] at hP hD
  refine lv_aload_n hx hb dX12_init_202 rfl (lv_at hl 0 rfl) ?_
  refine lv_sipush (v := 132) hx hb dX12_init_203 (by decide) ?_
  refine newa_int S hK hP hD hS hA (N' := 132) (by decide) (by decide) (Nat.le_of_ble_eq_true rfl) (Nat.le_of_ble_eq_true rfl) (Nat.le_of_ble_eq_true rfl) dX12_init_206 (fun q206 H hP hD hS => ?_)
  have hP : va_P D vwCl ((x, .inr (13, f_199)) :: (w_197 ++ [(q206, .inl (cI, 132, .inl (fun _ => 0)))])) H := hP
  have hD : va_D A ((x, .inr (13, f_199)) :: (w_197 ++ [(q206, .inl (cI, 132, .inl (fun _ => 0)))])) := hD
  obtain ⟨w_206, hw_206⟩ : ∃ z : va_W, z = (w_197 ++ [(q206, .inl (cI, 132, .inl (fun _ => 0)))]) := ⟨_, rfl⟩
  rw [← hw_206] at hP hD
  refine pf_RX12_83 S hin hK hP hD hS 0 rfl (v := .ref q206) (by rw [hn_199]; decide) rfl rfl dX12_init_208 (fun H locs hP hD hS => ?_)
  have hP : va_P D vwCl ((x, .inr (13, (f_199.set 36 (.ref q206)))) :: w_206) H := hP
  have hD : va_D A ((x, .inr (13, (f_199.set 36 (.ref q206)))) :: w_206) := hD
  obtain ⟨f_208, hf_208⟩ : ∃ z : List Value, z = (f_199.set 36 (.ref q206)) := ⟨_, rfl⟩
  have hn_208 : f_208.length = 91 := by rw [hf_208, List.length_set]; exact hn_199
  rw [← hf_208] at hP hD
  refine lv_aload_n hx hb dX12_init_211 rfl (lv_at hl 0 rfl) ?_
  refine lv_sipush (v := 180) hx hb dX12_init_212 (by decide) ?_
  refine newa_int S hK hP hD hS hA (N' := 180) (by decide) (by decide) (Nat.le_of_ble_eq_true rfl) (Nat.le_of_ble_eq_true rfl) (Nat.le_of_ble_eq_true rfl) dX12_init_215 (fun q215 H hP hD hS => ?_)
  have hP : va_P D vwCl ((x, .inr (13, f_208)) :: (w_206 ++ [(q215, .inl (cI, 180, .inl (fun _ => 0)))])) H := hP
  have hD : va_D A ((x, .inr (13, f_208)) :: (w_206 ++ [(q215, .inl (cI, 180, .inl (fun _ => 0)))])) := hD
  obtain ⟨w_215, hw_215⟩ : ∃ z : va_W, z = (w_206 ++ [(q215, .inl (cI, 180, .inl (fun _ => 0)))]) := ⟨_, rfl⟩
  rw [← hw_215] at hP hD
  refine pf_RX12_86 S hin hK hP hD hS 0 rfl (v := .ref q215) (by rw [hn_208]; decide) rfl rfl dX12_init_217 (fun H locs hP hD hS => ?_)
  have hP : va_P D vwCl ((x, .inr (13, (f_208.set 37 (.ref q215)))) :: w_215) H := hP
  have hD : va_D A ((x, .inr (13, (f_208.set 37 (.ref q215)))) :: w_215) := hD
  obtain ⟨f_217, hf_217⟩ : ∃ z : List Value, z = (f_208.set 37 (.ref q215)) := ⟨_, rfl⟩
  have hn_217 : f_217.length = 91 := by rw [hf_217, List.length_set]; exact hn_208
  rw [← hf_217] at hP hD
  refine lv_aload_n hx hb dX12_init_220 rfl (lv_at hl 0 rfl) ?_
  refine lv_bipush (v := 11) hx hb dX12_init_221 (by decide) ?_
  refine newa_int S hK hP hD hS hA (N' := 11) (by decide) (by decide) (Nat.le_of_ble_eq_true rfl) (Nat.le_of_ble_eq_true rfl) (Nat.le_of_ble_eq_true rfl) dX12_init_223 (fun q223 H hP hD hS => ?_)
  have hP : va_P D vwCl ((x, .inr (13, f_217)) :: (w_215 ++ [(q223, .inl (cI, 11, .inl (fun _ => 0)))])) H := hP
  have hD : va_D A ((x, .inr (13, f_217)) :: (w_215 ++ [(q223, .inl (cI, 11, .inl (fun _ => 0)))])) := hD
  obtain ⟨w_223, hw_223⟩ : ∃ z : va_W, z = (w_215 ++ [(q223, .inl (cI, 11, .inl (fun _ => 0)))]) := ⟨_, rfl⟩
  rw [← hw_223] at hP hD
  refine pf_RX12_89 S hin hK hP hD hS 0 rfl (v := .ref q223) (by rw [hn_217]; decide) rfl rfl dX12_init_225 (fun H locs hP hD hS => ?_)
  have hP : va_P D vwCl ((x, .inr (13, (f_217.set 38 (.ref q223)))) :: w_223) H := hP
  have hD : va_D A ((x, .inr (13, (f_217.set 38 (.ref q223)))) :: w_223) := hD
  obtain ⟨f_225, hf_225⟩ : ∃ z : List Value, z = (f_217.set 38 (.ref q223)) := ⟨_, rfl⟩
  have hn_225 : f_225.length = 91 := by rw [hf_225, List.length_set]; exact hn_217
  rw [← hf_225] at hP hD
  refine lv_aload_n hx hb dX12_init_228 rfl (lv_at hl 0 rfl) ?_
  refine lv_bipush (v := 58) hx hb dX12_init_229 (by decide) ?_
  refine newa_int S hK hP hD hS hA (N' := 58) (by decide) (by decide) (Nat.le_of_ble_eq_true rfl) (Nat.le_of_ble_eq_true rfl) (Nat.le_of_ble_eq_true rfl) dX12_init_231 (fun q231 H hP hD hS => ?_)
  have hP : va_P D vwCl ((x, .inr (13, f_225)) :: (w_223 ++ [(q231, .inl (cI, 58, .inl (fun _ => 0)))])) H := hP
  have hD : va_D A ((x, .inr (13, f_225)) :: (w_223 ++ [(q231, .inl (cI, 58, .inl (fun _ => 0)))])) := hD
  obtain ⟨w_231, hw_231⟩ : ∃ z : va_W, z = (w_223 ++ [(q231, .inl (cI, 58, .inl (fun _ => 0)))]) := ⟨_, rfl⟩
  rw [← hw_231] at hP hD
  refine pf_RX12_92 S hin hK hP hD hS 0 rfl (v := .ref q231) (by rw [hn_225]; decide) rfl rfl dX12_init_233 (fun H locs hP hD hS => ?_)
  have hP : va_P D vwCl ((x, .inr (13, (f_225.set 39 (.ref q231)))) :: w_231) H := hP
  have hD : va_D A ((x, .inr (13, (f_225.set 39 (.ref q231)))) :: w_231) := hD
  obtain ⟨f_233, hf_233⟩ : ∃ z : List Value, z = (f_225.set 39 (.ref q231)) := ⟨_, rfl⟩
  have hn_233 : f_233.length = 91 := by rw [hf_233, List.length_set]; exact hn_225
  rw [← hf_233] at hP hD
  refine lv_aload_n hx hb dX12_init_236 rfl (lv_at hl 0 rfl) ?_
  refine lv_bipush (v := 10) hx hb dX12_init_237 (by decide) ?_
  refine newa_int S hK hP hD hS hA (N' := 10) (by decide) (by decide) (Nat.le_of_ble_eq_true rfl) (Nat.le_of_ble_eq_true rfl) (Nat.le_of_ble_eq_true rfl) dX12_init_239 (fun q239 H hP hD hS => ?_)
  have hP : va_P D vwCl ((x, .inr (13, f_233)) :: (w_231 ++ [(q239, .inl (cI, 10, .inl (fun _ => 0)))])) H := hP
  have hD : va_D A ((x, .inr (13, f_233)) :: (w_231 ++ [(q239, .inl (cI, 10, .inl (fun _ => 0)))])) := hD
  obtain ⟨w_239, hw_239⟩ : ∃ z : va_W, z = (w_231 ++ [(q239, .inl (cI, 10, .inl (fun _ => 0)))]) := ⟨_, rfl⟩
  rw [← hw_239] at hP hD
  refine pf_RX12_95 S hin hK hP hD hS 0 rfl (v := .ref q239) (by rw [hn_233]; decide) rfl rfl dX12_init_241 (fun H locs hP hD hS => ?_)
  have hP : va_P D vwCl ((x, .inr (13, (f_233.set 40 (.ref q239)))) :: w_239) H := hP
  have hD : va_D A ((x, .inr (13, (f_233.set 40 (.ref q239)))) :: w_239) := hD
  obtain ⟨f_241, hf_241⟩ : ∃ z : List Value, z = (f_233.set 40 (.ref q239)) := ⟨_, rfl⟩
  have hn_241 : f_241.length = 91 := by rw [hf_241, List.length_set]; exact hn_233
  rw [← hf_241] at hP hD
  refine lv_aload_n hx hb dX12_init_244 rfl (lv_at hl 0 rfl) ?_
  refine lv_sipush (v := 400) hx hb dX12_init_245 (by decide) ?_
  refine newa_int S hK hP hD hS hA (N' := 400) (by decide) (by decide) (Nat.le_of_ble_eq_true rfl) (Nat.le_of_ble_eq_true rfl) (Nat.le_of_ble_eq_true rfl) dX12_init_248 (fun q248 H hP hD hS => ?_)
  have hP : va_P D vwCl ((x, .inr (13, f_241)) :: (w_239 ++ [(q248, .inl (cI, 400, .inl (fun _ => 0)))])) H := hP
  have hD : va_D A ((x, .inr (13, f_241)) :: (w_239 ++ [(q248, .inl (cI, 400, .inl (fun _ => 0)))])) := hD
  obtain ⟨w_248, hw_248⟩ : ∃ z : va_W, z = (w_239 ++ [(q248, .inl (cI, 400, .inl (fun _ => 0)))]) := ⟨_, rfl⟩
  rw [← hw_248] at hP hD
  refine pf_RX12_98 S hin hK hP hD hS 0 rfl (v := .ref q248) (by rw [hn_241]; decide) rfl rfl dX12_init_250 (fun H locs hP hD hS => ?_)
  have hP : va_P D vwCl ((x, .inr (13, (f_241.set 41 (.ref q248)))) :: w_248) H := hP
  have hD : va_D A ((x, .inr (13, (f_241.set 41 (.ref q248)))) :: w_248) := hD
  obtain ⟨f_250, hf_250⟩ : ∃ z : List Value, z = (f_241.set 41 (.ref q248)) := ⟨_, rfl⟩
  have hn_250 : f_250.length = 91 := by rw [hf_250, List.length_set]; exact hn_241
  rw [← hf_250] at hP hD
  refine lv_aload_n hx hb dX12_init_253 rfl (lv_at hl 0 rfl) ?_
  refine lv_bipush (v := 10) hx hb dX12_init_254 (by decide) ?_
  refine newa_int S hK hP hD hS hA (N' := 10) (by decide) (by decide) (Nat.le_of_ble_eq_true rfl) (Nat.le_of_ble_eq_true rfl) (Nat.le_of_ble_eq_true rfl) dX12_init_256 (fun q256 H hP hD hS => ?_)
  have hP : va_P D vwCl ((x, .inr (13, f_250)) :: (w_248 ++ [(q256, .inl (cI, 10, .inl (fun _ => 0)))])) H := hP
  have hD : va_D A ((x, .inr (13, f_250)) :: (w_248 ++ [(q256, .inl (cI, 10, .inl (fun _ => 0)))])) := hD
  obtain ⟨w_256, hw_256⟩ : ∃ z : va_W, z = (w_248 ++ [(q256, .inl (cI, 10, .inl (fun _ => 0)))]) := ⟨_, rfl⟩
  rw [← hw_256] at hP hD
  refine pf_RX12_101 S hin hK hP hD hS 0 rfl (v := .ref q256) (by rw [hn_250]; decide) rfl rfl dX12_init_258 (fun H locs hP hD hS => ?_)
  have hP : va_P D vwCl ((x, .inr (13, (f_250.set 42 (.ref q256)))) :: w_256) H := hP
  have hD : va_D A ((x, .inr (13, (f_250.set 42 (.ref q256)))) :: w_256) := hD
  obtain ⟨f_258, hf_258⟩ : ∃ z : List Value, z = (f_250.set 42 (.ref q256)) := ⟨_, rfl⟩
  have hn_258 : f_258.length = 91 := by rw [hf_258, List.length_set]; exact hn_250
  rw [← hf_258] at hP hD
  refine lv_aload_n hx hb dX12_init_261 rfl (lv_at hl 0 rfl) ?_
  refine lv_sipush (v := 2048) hx hb dX12_init_262 (by decide) ?_
  refine newa_int S hK hP hD hS hA (N' := 2048) (by decide) (by decide) (Nat.le_of_ble_eq_true rfl) (Nat.le_of_ble_eq_true rfl) (Nat.le_of_ble_eq_true rfl) dX12_init_265 (fun q265 H hP hD hS => ?_)
  have hP : va_P D vwCl ((x, .inr (13, f_258)) :: (w_256 ++ [(q265, .inl (cI, 2048, .inl (fun _ => 0)))])) H := hP
  have hD : va_D A ((x, .inr (13, f_258)) :: (w_256 ++ [(q265, .inl (cI, 2048, .inl (fun _ => 0)))])) := hD
  obtain ⟨w_265, hw_265⟩ : ∃ z : va_W, z = (w_256 ++ [(q265, .inl (cI, 2048, .inl (fun _ => 0)))]) := ⟨_, rfl⟩
  rw [← hw_265] at hP hD
  refine pf_RX12_104 S hin hK hP hD hS 0 rfl (v := .ref q265) (by rw [hn_258]; decide) rfl rfl dX12_init_267 (fun H locs hP hD hS => ?_)
  have hP : va_P D vwCl ((x, .inr (13, (f_258.set 43 (.ref q265)))) :: w_265) H := hP
  have hD : va_D A ((x, .inr (13, (f_258.set 43 (.ref q265)))) :: w_265) := hD
  obtain ⟨f_267, hf_267⟩ : ∃ z : List Value, z = (f_258.set 43 (.ref q265)) := ⟨_, rfl⟩
  have hn_267 : f_267.length = 91 := by rw [hf_267, List.length_set]; exact hn_258
  rw [← hf_267] at hP hD
  refine lv_aload_n hx hb dX12_init_270 rfl (lv_at hl 0 rfl) ?_
  refine lv_iconst (v := 3) hx hb dX12_init_271 (by decide) ?_
  refine newa_int S hK hP hD hS hA (N' := 3) (by decide) (by decide) (Nat.le_of_ble_eq_true rfl) (Nat.le_of_ble_eq_true rfl) (Nat.le_of_ble_eq_true rfl) dX12_init_272 (fun q272 H hP hD hS => ?_)
  have hP : va_P D vwCl ((x, .inr (13, f_267)) :: (w_265 ++ [(q272, .inl (cI, 3, .inl (fun _ => 0)))])) H := hP
  have hD : va_D A ((x, .inr (13, f_267)) :: (w_265 ++ [(q272, .inl (cI, 3, .inl (fun _ => 0)))])) := hD
  obtain ⟨w_272, hw_272⟩ : ∃ z : va_W, z = (w_265 ++ [(q272, .inl (cI, 3, .inl (fun _ => 0)))]) := ⟨_, rfl⟩
  rw [← hw_272] at hP hD
  refine pf_RX12_107 S hin hK hP hD hS 0 rfl (v := .ref q272) (by rw [hn_267]; decide) rfl rfl dX12_init_274 (fun H locs hP hD hS => ?_)
  have hP : va_P D vwCl ((x, .inr (13, (f_267.set 47 (.ref q272)))) :: w_272) H := hP
  have hD : va_D A ((x, .inr (13, (f_267.set 47 (.ref q272)))) :: w_272) := hD
  obtain ⟨f_274, hf_274⟩ : ∃ z : List Value, z = (f_267.set 47 (.ref q272)) := ⟨_, rfl⟩
  have hn_274 : f_274.length = 91 := by rw [hf_274, List.length_set]; exact hn_267
  rw [← hf_274] at hP hD
  refine lv_aload_n hx hb dX12_init_277 rfl (lv_at hl 0 rfl) ?_
  refine lv_iconst (v := 3) hx hb dX12_init_278 (by decide) ?_
  refine newa_int S hK hP hD hS hA (N' := 3) (by decide) (by decide) (Nat.le_of_ble_eq_true rfl) (Nat.le_of_ble_eq_true rfl) (Nat.le_of_ble_eq_true rfl) dX12_init_279 (fun q279 H hP hD hS => ?_)
  have hP : va_P D vwCl ((x, .inr (13, f_274)) :: (w_272 ++ [(q279, .inl (cI, 3, .inl (fun _ => 0)))])) H := hP
  have hD : va_D A ((x, .inr (13, f_274)) :: (w_272 ++ [(q279, .inl (cI, 3, .inl (fun _ => 0)))])) := hD
  obtain ⟨w_279, hw_279⟩ : ∃ z : va_W, z = (w_272 ++ [(q279, .inl (cI, 3, .inl (fun _ => 0)))]) := ⟨_, rfl⟩
  rw [← hw_279] at hP hD
  refine pf_RX12_110 S hin hK hP hD hS 0 rfl (v := .ref q279) (by rw [hn_274]; decide) rfl rfl dX12_init_281 (fun H locs hP hD hS => ?_)
  have hP : va_P D vwCl ((x, .inr (13, (f_274.set 48 (.ref q279)))) :: w_279) H := hP
  have hD : va_D A ((x, .inr (13, (f_274.set 48 (.ref q279)))) :: w_279) := hD
  obtain ⟨f_281, hf_281⟩ : ∃ z : List Value, z = (f_274.set 48 (.ref q279)) := ⟨_, rfl⟩
  have hn_281 : f_281.length = 91 := by rw [hf_281, List.length_set]; exact hn_274
  rw [← hf_281] at hP hD
  refine lv_aload_n hx hb dX12_init_284 rfl (lv_at hl 0 rfl) ?_
  refine lv_iconst (v := 3) hx hb dX12_init_285 (by decide) ?_
  refine newa_int S hK hP hD hS hA (N' := 3) (by decide) (by decide) (Nat.le_of_ble_eq_true rfl) (Nat.le_of_ble_eq_true rfl) (Nat.le_of_ble_eq_true rfl) dX12_init_286 (fun q286 H hP hD hS => ?_)
  have hP : va_P D vwCl ((x, .inr (13, f_281)) :: (w_279 ++ [(q286, .inl (cI, 3, .inl (fun _ => 0)))])) H := hP
  have hD : va_D A ((x, .inr (13, f_281)) :: (w_279 ++ [(q286, .inl (cI, 3, .inl (fun _ => 0)))])) := hD
  obtain ⟨w_286, hw_286⟩ : ∃ z : va_W, z = (w_279 ++ [(q286, .inl (cI, 3, .inl (fun _ => 0)))]) := ⟨_, rfl⟩
  rw [← hw_286] at hP hD
  refine pf_RX12_113 S hin hK hP hD hS 0 rfl (v := .ref q286) (by rw [hn_281]; decide) rfl rfl dX12_init_288 (fun H locs hP hD hS => ?_)
  have hP : va_P D vwCl ((x, .inr (13, (f_281.set 49 (.ref q286)))) :: w_286) H := hP
  have hD : va_D A ((x, .inr (13, (f_281.set 49 (.ref q286)))) :: w_286) := hD
  obtain ⟨f_288, hf_288⟩ : ∃ z : List Value, z = (f_281.set 49 (.ref q286)) := ⟨_, rfl⟩
  have hn_288 : f_288.length = 91 := by rw [hf_288, List.length_set]; exact hn_281
  rw [← hf_288] at hP hD
  refine lv_aload_n hx hb dX12_init_291 rfl (lv_at hl 0 rfl) ?_
  refine lv_bipush (v := 6) hx hb dX12_init_292 (by decide) ?_
  refine newa_int S hK hP hD hS hA (N' := 6) (by decide) (by decide) (Nat.le_of_ble_eq_true rfl) (Nat.le_of_ble_eq_true rfl) (Nat.le_of_ble_eq_true rfl) dX12_init_294 (fun q294 H hP hD hS => ?_)
  have hP : va_P D vwCl ((x, .inr (13, f_288)) :: (w_286 ++ [(q294, .inl (cI, 6, .inl (fun _ => 0)))])) H := hP
  have hD : va_D A ((x, .inr (13, f_288)) :: (w_286 ++ [(q294, .inl (cI, 6, .inl (fun _ => 0)))])) := hD
  obtain ⟨w_294, hw_294⟩ : ∃ z : va_W, z = (w_286 ++ [(q294, .inl (cI, 6, .inl (fun _ => 0)))]) := ⟨_, rfl⟩
  rw [← hw_294] at hP hD
  refine pf_RX12_116 S hin hK hP hD hS 0 rfl (v := .ref q294) (by rw [hn_288]; decide) rfl rfl dX12_init_296 (fun H locs hP hD hS => ?_)
  have hP : va_P D vwCl ((x, .inr (13, (f_288.set 50 (.ref q294)))) :: w_294) H := hP
  have hD : va_D A ((x, .inr (13, (f_288.set 50 (.ref q294)))) :: w_294) := hD
  obtain ⟨f_296, hf_296⟩ : ∃ z : List Value, z = (f_288.set 50 (.ref q294)) := ⟨_, rfl⟩
  have hn_296 : f_296.length = 91 := by rw [hf_296, List.length_set]; exact hn_288
  rw [← hf_296] at hP hD
  refine lv_aload_n hx hb dX12_init_299 rfl (lv_at hl 0 rfl) ?_
  refine lv_bipush (v := 6) hx hb dX12_init_300 (by decide) ?_
  refine newa_int S hK hP hD hS hA (N' := 6) (by decide) (by decide) (Nat.le_of_ble_eq_true rfl) (Nat.le_of_ble_eq_true rfl) (Nat.le_of_ble_eq_true rfl) dX12_init_302 (fun q302 H hP hD hS => ?_)
  have hP : va_P D vwCl ((x, .inr (13, f_296)) :: (w_294 ++ [(q302, .inl (cI, 6, .inl (fun _ => 0)))])) H := hP
  have hD : va_D A ((x, .inr (13, f_296)) :: (w_294 ++ [(q302, .inl (cI, 6, .inl (fun _ => 0)))])) := hD
  obtain ⟨w_302, hw_302⟩ : ∃ z : va_W, z = (w_294 ++ [(q302, .inl (cI, 6, .inl (fun _ => 0)))]) := ⟨_, rfl⟩
  rw [← hw_302] at hP hD
  refine pf_RX12_119 S hin hK hP hD hS 0 rfl (v := .ref q302) (by rw [hn_296]; decide) rfl rfl dX12_init_304 (fun H locs hP hD hS => ?_)
  have hP : va_P D vwCl ((x, .inr (13, (f_296.set 51 (.ref q302)))) :: w_302) H := hP
  have hD : va_D A ((x, .inr (13, (f_296.set 51 (.ref q302)))) :: w_302) := hD
  obtain ⟨f_304, hf_304⟩ : ∃ z : List Value, z = (f_296.set 51 (.ref q302)) := ⟨_, rfl⟩
  have hn_304 : f_304.length = 91 := by rw [hf_304, List.length_set]; exact hn_296
  rw [← hf_304] at hP hD
  refine lv_aload_n hx hb dX12_init_307 rfl (lv_at hl 0 rfl) ?_
  refine lv_bipush (v := 10) hx hb dX12_init_308 (by decide) ?_
  refine newa_int S hK hP hD hS hA (N' := 10) (by decide) (by decide) (Nat.le_of_ble_eq_true rfl) (Nat.le_of_ble_eq_true rfl) (Nat.le_of_ble_eq_true rfl) dX12_init_310 (fun q310 H hP hD hS => ?_)
  have hP : va_P D vwCl ((x, .inr (13, f_304)) :: (w_302 ++ [(q310, .inl (cI, 10, .inl (fun _ => 0)))])) H := hP
  have hD : va_D A ((x, .inr (13, f_304)) :: (w_302 ++ [(q310, .inl (cI, 10, .inl (fun _ => 0)))])) := hD
  obtain ⟨w_310, hw_310⟩ : ∃ z : va_W, z = (w_302 ++ [(q310, .inl (cI, 10, .inl (fun _ => 0)))]) := ⟨_, rfl⟩
  rw [← hw_310] at hP hD
  refine pf_RX12_122 S hin hK hP hD hS 0 rfl (v := .ref q310) (by rw [hn_304]; decide) rfl rfl dX12_init_312 (fun H locs hP hD hS => ?_)
  have hP : va_P D vwCl ((x, .inr (13, (f_304.set 52 (.ref q310)))) :: w_310) H := hP
  have hD : va_D A ((x, .inr (13, (f_304.set 52 (.ref q310)))) :: w_310) := hD
  obtain ⟨f_312, hf_312⟩ : ∃ z : List Value, z = (f_304.set 52 (.ref q310)) := ⟨_, rfl⟩
  have hn_312 : f_312.length = 91 := by rw [hf_312, List.length_set]; exact hn_304
  rw [← hf_312] at hP hD
  refine lv_aload_n hx hb dX12_init_315 rfl (lv_at hl 0 rfl) ?_
  refine lv_sipush (v := 1200) hx hb dX12_init_316 (by decide) ?_
  refine newa_boolean S hK hP hD hS hA (N' := 1200) (by decide) (by decide) (Nat.le_of_ble_eq_true rfl) (Nat.le_of_ble_eq_true rfl) (Nat.le_of_ble_eq_true rfl) dX12_init_319 (fun q319 H hP hD hS => ?_)
  have hP : va_P D vwCl ((x, .inr (13, f_312)) :: (w_310 ++ [(q319, .inl (cZ, 1200, .inl (fun _ => 0)))])) H := hP
  have hD : va_D A ((x, .inr (13, f_312)) :: (w_310 ++ [(q319, .inl (cZ, 1200, .inl (fun _ => 0)))])) := hD
  obtain ⟨w_319, hw_319⟩ : ∃ z : va_W, z = (w_310 ++ [(q319, .inl (cZ, 1200, .inl (fun _ => 0)))]) := ⟨_, rfl⟩
  rw [← hw_319] at hP hD
  refine pf_RX12_125 S hin hK hP hD hS 0 rfl (v := .ref q319) (by rw [hn_312]; decide) rfl rfl dX12_init_321 (fun H locs hP hD hS => ?_)
  have hP : va_P D vwCl ((x, .inr (13, (f_312.set 53 (.ref q319)))) :: w_319) H := hP
  have hD : va_D A ((x, .inr (13, (f_312.set 53 (.ref q319)))) :: w_319) := hD
  obtain ⟨f_321, hf_321⟩ : ∃ z : List Value, z = (f_312.set 53 (.ref q319)) := ⟨_, rfl⟩
  have hn_321 : f_321.length = 91 := by rw [hf_321, List.length_set]; exact hn_312
  rw [← hf_321] at hP hD
  refine lv_aload_n hx hb dX12_init_324 rfl (lv_at hl 0 rfl) ?_
  refine lv_bipush (v := 60) hx hb dX12_init_325 (by decide) ?_
  refine newa_int S hK hP hD hS hA (N' := 60) (by decide) (by decide) (Nat.le_of_ble_eq_true rfl) (Nat.le_of_ble_eq_true rfl) (Nat.le_of_ble_eq_true rfl) dX12_init_327 (fun q327 H hP hD hS => ?_)
  have hP : va_P D vwCl ((x, .inr (13, f_321)) :: (w_319 ++ [(q327, .inl (cI, 60, .inl (fun _ => 0)))])) H := hP
  have hD : va_D A ((x, .inr (13, f_321)) :: (w_319 ++ [(q327, .inl (cI, 60, .inl (fun _ => 0)))])) := hD
  obtain ⟨w_327, hw_327⟩ : ∃ z : va_W, z = (w_319 ++ [(q327, .inl (cI, 60, .inl (fun _ => 0)))]) := ⟨_, rfl⟩
  rw [← hw_327] at hP hD
  refine pf_RX12_129 S hin hK hP hD hS 0 rfl (v := .ref q327) (by rw [hn_321]; decide) rfl rfl dX12_init_329 (fun H locs hP hD hS => ?_)
  have hP : va_P D vwCl ((x, .inr (13, (f_321.set 59 (.ref q327)))) :: w_327) H := hP
  have hD : va_D A ((x, .inr (13, (f_321.set 59 (.ref q327)))) :: w_327) := hD
  obtain ⟨f_329, hf_329⟩ : ∃ z : List Value, z = (f_321.set 59 (.ref q327)) := ⟨_, rfl⟩
  have hn_329 : f_329.length = 91 := by rw [hf_329, List.length_set]; exact hn_321
  rw [← hf_329] at hP hD
  refine lv_aload_n hx hb dX12_init_332 rfl (lv_at hl 0 rfl) ?_
  refine lv_bipush (v := 60) hx hb dX12_init_333 (by decide) ?_
  refine newa_int S hK hP hD hS hA (N' := 60) (by decide) (by decide) (Nat.le_of_ble_eq_true rfl) (Nat.le_of_ble_eq_true rfl) (Nat.le_of_ble_eq_true rfl) dX12_init_335 (fun q335 H hP hD hS => ?_)
  have hP : va_P D vwCl ((x, .inr (13, f_329)) :: (w_327 ++ [(q335, .inl (cI, 60, .inl (fun _ => 0)))])) H := hP
  have hD : va_D A ((x, .inr (13, f_329)) :: (w_327 ++ [(q335, .inl (cI, 60, .inl (fun _ => 0)))])) := hD
  obtain ⟨w_335, hw_335⟩ : ∃ z : va_W, z = (w_327 ++ [(q335, .inl (cI, 60, .inl (fun _ => 0)))]) := ⟨_, rfl⟩
  rw [← hw_335] at hP hD
  refine pf_RX12_132 S hin hK hP hD hS 0 rfl (v := .ref q335) (by rw [hn_329]; decide) rfl rfl dX12_init_337 (fun H locs hP hD hS => ?_)
  have hP : va_P D vwCl ((x, .inr (13, (f_329.set 60 (.ref q335)))) :: w_335) H := hP
  have hD : va_D A ((x, .inr (13, (f_329.set 60 (.ref q335)))) :: w_335) := hD
  obtain ⟨f_337, hf_337⟩ : ∃ z : List Value, z = (f_329.set 60 (.ref q335)) := ⟨_, rfl⟩
  have hn_337 : f_337.length = 91 := by rw [hf_337, List.length_set]; exact hn_329
  rw [← hf_337] at hP hD
  refine lv_aload_n hx hb dX12_init_340 rfl (lv_at hl 0 rfl) ?_
  refine lv_bipush (v := 60) hx hb dX12_init_341 (by decide) ?_
  refine newa_int S hK hP hD hS hA (N' := 60) (by decide) (by decide) (Nat.le_of_ble_eq_true rfl) (Nat.le_of_ble_eq_true rfl) (Nat.le_of_ble_eq_true rfl) dX12_init_343 (fun q343 H hP hD hS => ?_)
  have hP : va_P D vwCl ((x, .inr (13, f_337)) :: (w_335 ++ [(q343, .inl (cI, 60, .inl (fun _ => 0)))])) H := hP
  have hD : va_D A ((x, .inr (13, f_337)) :: (w_335 ++ [(q343, .inl (cI, 60, .inl (fun _ => 0)))])) := hD
  obtain ⟨w_343, hw_343⟩ : ∃ z : va_W, z = (w_335 ++ [(q343, .inl (cI, 60, .inl (fun _ => 0)))]) := ⟨_, rfl⟩
  rw [← hw_343] at hP hD
  refine pf_RX12_135 S hin hK hP hD hS 0 rfl (v := .ref q343) (by rw [hn_337]; decide) rfl rfl dX12_init_345 (fun H locs hP hD hS => ?_)
  have hP : va_P D vwCl ((x, .inr (13, (f_337.set 61 (.ref q343)))) :: w_343) H := hP
  have hD : va_D A ((x, .inr (13, (f_337.set 61 (.ref q343)))) :: w_343) := hD
  obtain ⟨f_345, hf_345⟩ : ∃ z : List Value, z = (f_337.set 61 (.ref q343)) := ⟨_, rfl⟩
  have hn_345 : f_345.length = 91 := by rw [hf_345, List.length_set]; exact hn_337
  rw [← hf_345] at hP hD
  refine lv_aload_n hx hb dX12_init_348 rfl (lv_at hl 0 rfl) ?_
  refine lv_bipush (v := 10) hx hb dX12_init_349 (by decide) ?_
  refine newa_int S hK hP hD hS hA (N' := 10) (by decide) (by decide) (Nat.le_of_ble_eq_true rfl) (Nat.le_of_ble_eq_true rfl) (Nat.le_of_ble_eq_true rfl) dX12_init_351 (fun q351 H hP hD hS => ?_)
  have hP : va_P D vwCl ((x, .inr (13, f_345)) :: (w_343 ++ [(q351, .inl (cI, 10, .inl (fun _ => 0)))])) H := hP
  have hD : va_D A ((x, .inr (13, f_345)) :: (w_343 ++ [(q351, .inl (cI, 10, .inl (fun _ => 0)))])) := hD
  obtain ⟨w_351, hw_351⟩ : ∃ z : va_W, z = (w_343 ++ [(q351, .inl (cI, 10, .inl (fun _ => 0)))]) := ⟨_, rfl⟩
  rw [← hw_351] at hP hD
  refine pf_RX12_138 S hin hK hP hD hS 0 rfl (v := .ref q351) (by rw [hn_345]; decide) rfl rfl dX12_init_353 (fun H locs hP hD hS => ?_)
  have hP : va_P D vwCl ((x, .inr (13, (f_345.set 64 (.ref q351)))) :: w_351) H := hP
  have hD : va_D A ((x, .inr (13, (f_345.set 64 (.ref q351)))) :: w_351) := hD
  obtain ⟨f_353, hf_353⟩ : ∃ z : List Value, z = (f_345.set 64 (.ref q351)) := ⟨_, rfl⟩
  have hn_353 : f_353.length = 91 := by rw [hf_353, List.length_set]; exact hn_345
  rw [← hf_353] at hP hD
  refine lv_aload_n hx hb dX12_init_356 rfl (lv_at hl 0 rfl) ?_
  refine lv_bipush (v := 10) hx hb dX12_init_357 (by decide) ?_
  refine newa_int S hK hP hD hS hA (N' := 10) (by decide) (by decide) (Nat.le_of_ble_eq_true rfl) (Nat.le_of_ble_eq_true rfl) (Nat.le_of_ble_eq_true rfl) dX12_init_359 (fun q359 H hP hD hS => ?_)
  have hP : va_P D vwCl ((x, .inr (13, f_353)) :: (w_351 ++ [(q359, .inl (cI, 10, .inl (fun _ => 0)))])) H := hP
  have hD : va_D A ((x, .inr (13, f_353)) :: (w_351 ++ [(q359, .inl (cI, 10, .inl (fun _ => 0)))])) := hD
  obtain ⟨w_359, hw_359⟩ : ∃ z : va_W, z = (w_351 ++ [(q359, .inl (cI, 10, .inl (fun _ => 0)))]) := ⟨_, rfl⟩
  rw [← hw_359] at hP hD
  refine pf_RX12_141 S hin hK hP hD hS 0 rfl (v := .ref q359) (by rw [hn_353]; decide) rfl rfl dX12_init_361 (fun H locs hP hD hS => ?_)
  have hP : va_P D vwCl ((x, .inr (13, (f_353.set 65 (.ref q359)))) :: w_359) H := hP
  have hD : va_D A ((x, .inr (13, (f_353.set 65 (.ref q359)))) :: w_359) := hD
  obtain ⟨f_361, hf_361⟩ : ∃ z : List Value, z = (f_353.set 65 (.ref q359)) := ⟨_, rfl⟩
  have hn_361 : f_361.length = 91 := by rw [hf_361, List.length_set]; exact hn_353
  rw [← hf_361] at hP hD
  refine lv_aload_n hx hb dX12_init_364 rfl (lv_at hl 0 rfl) ?_
  refine lv_bipush (v := 40) hx hb dX12_init_365 (by decide) ?_
  refine newa_int S hK hP hD hS hA (N' := 40) (by decide) (by decide) (Nat.le_of_ble_eq_true rfl) (Nat.le_of_ble_eq_true rfl) (Nat.le_of_ble_eq_true rfl) dX12_init_367 (fun q367 H hP hD hS => ?_)
  have hP : va_P D vwCl ((x, .inr (13, f_361)) :: (w_359 ++ [(q367, .inl (cI, 40, .inl (fun _ => 0)))])) H := hP
  have hD : va_D A ((x, .inr (13, f_361)) :: (w_359 ++ [(q367, .inl (cI, 40, .inl (fun _ => 0)))])) := hD
  obtain ⟨w_367, hw_367⟩ : ∃ z : va_W, z = (w_359 ++ [(q367, .inl (cI, 40, .inl (fun _ => 0)))]) := ⟨_, rfl⟩
  rw [← hw_367] at hP hD
  refine pf_RX12_144 S hin hK hP hD hS 0 rfl (v := .ref q367) (by rw [hn_361]; decide) rfl rfl dX12_init_369 (fun H locs hP hD hS => ?_)
  have hP : va_P D vwCl ((x, .inr (13, (f_361.set 66 (.ref q367)))) :: w_367) H := hP
  have hD : va_D A ((x, .inr (13, (f_361.set 66 (.ref q367)))) :: w_367) := hD
  obtain ⟨f_369, hf_369⟩ : ∃ z : List Value, z = (f_361.set 66 (.ref q367)) := ⟨_, rfl⟩
  have hn_369 : f_369.length = 91 := by rw [hf_369, List.length_set]; exact hn_361
  rw [← hf_369] at hP hD
  refine lv_aload_n hx hb dX12_init_372 rfl (lv_at hl 0 rfl) ?_
  refine lv_bipush (v := 40) hx hb dX12_init_373 (by decide) ?_
  refine newa_int S hK hP hD hS hA (N' := 40) (by decide) (by decide) (Nat.le_of_ble_eq_true rfl) (Nat.le_of_ble_eq_true rfl) (Nat.le_of_ble_eq_true rfl) dX12_init_375 (fun q375 H hP hD hS => ?_)
  have hP : va_P D vwCl ((x, .inr (13, f_369)) :: (w_367 ++ [(q375, .inl (cI, 40, .inl (fun _ => 0)))])) H := hP
  have hD : va_D A ((x, .inr (13, f_369)) :: (w_367 ++ [(q375, .inl (cI, 40, .inl (fun _ => 0)))])) := hD
  obtain ⟨w_375, hw_375⟩ : ∃ z : va_W, z = (w_367 ++ [(q375, .inl (cI, 40, .inl (fun _ => 0)))]) := ⟨_, rfl⟩
  rw [← hw_375] at hP hD
  refine pf_RX12_147 S hin hK hP hD hS 0 rfl (v := .ref q375) (by rw [hn_369]; decide) rfl rfl dX12_init_377 (fun H locs hP hD hS => ?_)
  have hP : va_P D vwCl ((x, .inr (13, (f_369.set 67 (.ref q375)))) :: w_375) H := hP
  have hD : va_D A ((x, .inr (13, (f_369.set 67 (.ref q375)))) :: w_375) := hD
  obtain ⟨f_377, hf_377⟩ : ∃ z : List Value, z = (f_369.set 67 (.ref q375)) := ⟨_, rfl⟩
  have hn_377 : f_377.length = 91 := by rw [hf_377, List.length_set]; exact hn_369
  rw [← hf_377] at hP hD
  refine lv_aload_n hx hb dX12_init_380 rfl (lv_at hl 0 rfl) ?_
  refine lv_bipush (v := 40) hx hb dX12_init_381 (by decide) ?_
  refine newa_int S hK hP hD hS hA (N' := 40) (by decide) (by decide) (Nat.le_of_ble_eq_true rfl) (Nat.le_of_ble_eq_true rfl) (Nat.le_of_ble_eq_true rfl) dX12_init_383 (fun q383 H hP hD hS => ?_)
  have hP : va_P D vwCl ((x, .inr (13, f_377)) :: (w_375 ++ [(q383, .inl (cI, 40, .inl (fun _ => 0)))])) H := hP
  have hD : va_D A ((x, .inr (13, f_377)) :: (w_375 ++ [(q383, .inl (cI, 40, .inl (fun _ => 0)))])) := hD
  obtain ⟨w_383, hw_383⟩ : ∃ z : va_W, z = (w_375 ++ [(q383, .inl (cI, 40, .inl (fun _ => 0)))]) := ⟨_, rfl⟩
  rw [← hw_383] at hP hD
  refine pf_RX12_150 S hin hK hP hD hS 0 rfl (v := .ref q383) (by rw [hn_377]; decide) rfl rfl dX12_init_385 (fun H locs hP hD hS => ?_)
  have hP : va_P D vwCl ((x, .inr (13, (f_377.set 68 (.ref q383)))) :: w_383) H := hP
  have hD : va_D A ((x, .inr (13, (f_377.set 68 (.ref q383)))) :: w_383) := hD
  obtain ⟨f_385, hf_385⟩ : ∃ z : List Value, z = (f_377.set 68 (.ref q383)) := ⟨_, rfl⟩
  have hn_385 : f_385.length = 91 := by rw [hf_385, List.length_set]; exact hn_377
  rw [← hf_385] at hP hD
  refine lv_aload_n hx hb dX12_init_388 rfl (lv_at hl 0 rfl) ?_
  refine lv_bipush (v := 40) hx hb dX12_init_389 (by decide) ?_
  refine newa_int S hK hP hD hS hA (N' := 40) (by decide) (by decide) (Nat.le_of_ble_eq_true rfl) (Nat.le_of_ble_eq_true rfl) (Nat.le_of_ble_eq_true rfl) dX12_init_391 (fun q391 H hP hD hS => ?_)
  have hP : va_P D vwCl ((x, .inr (13, f_385)) :: (w_383 ++ [(q391, .inl (cI, 40, .inl (fun _ => 0)))])) H := hP
  have hD : va_D A ((x, .inr (13, f_385)) :: (w_383 ++ [(q391, .inl (cI, 40, .inl (fun _ => 0)))])) := hD
  obtain ⟨w_391, hw_391⟩ : ∃ z : va_W, z = (w_383 ++ [(q391, .inl (cI, 40, .inl (fun _ => 0)))]) := ⟨_, rfl⟩
  rw [← hw_391] at hP hD
  refine pf_RX12_153 S hin hK hP hD hS 0 rfl (v := .ref q391) (by rw [hn_385]; decide) rfl rfl dX12_init_393 (fun H locs hP hD hS => ?_)
  have hP : va_P D vwCl ((x, .inr (13, (f_385.set 69 (.ref q391)))) :: w_391) H := hP
  have hD : va_D A ((x, .inr (13, (f_385.set 69 (.ref q391)))) :: w_391) := hD
  obtain ⟨f_393, hf_393⟩ : ∃ z : List Value, z = (f_385.set 69 (.ref q391)) := ⟨_, rfl⟩
  have hn_393 : f_393.length = 91 := by rw [hf_393, List.length_set]; exact hn_385
  rw [← hf_393] at hP hD
  refine lv_aload_n hx hb dX12_init_396 rfl (lv_at hl 0 rfl) ?_
  refine lv_bipush (v := 40) hx hb dX12_init_397 (by decide) ?_
  refine newa_int S hK hP hD hS hA (N' := 40) (by decide) (by decide) (Nat.le_of_ble_eq_true rfl) (Nat.le_of_ble_eq_true rfl) (Nat.le_of_ble_eq_true rfl) dX12_init_399 (fun q399 H hP hD hS => ?_)
  have hP : va_P D vwCl ((x, .inr (13, f_393)) :: (w_391 ++ [(q399, .inl (cI, 40, .inl (fun _ => 0)))])) H := hP
  have hD : va_D A ((x, .inr (13, f_393)) :: (w_391 ++ [(q399, .inl (cI, 40, .inl (fun _ => 0)))])) := hD
  obtain ⟨w_399, hw_399⟩ : ∃ z : va_W, z = (w_391 ++ [(q399, .inl (cI, 40, .inl (fun _ => 0)))]) := ⟨_, rfl⟩
  rw [← hw_399] at hP hD
  refine pf_RX12_156 S hin hK hP hD hS 0 rfl (v := .ref q399) (by rw [hn_393]; decide) rfl rfl dX12_init_401 (fun H locs hP hD hS => ?_)
  have hP : va_P D vwCl ((x, .inr (13, (f_393.set 70 (.ref q399)))) :: w_399) H := hP
  have hD : va_D A ((x, .inr (13, (f_393.set 70 (.ref q399)))) :: w_399) := hD
  obtain ⟨f_401, hf_401⟩ : ∃ z : List Value, z = (f_393.set 70 (.ref q399)) := ⟨_, rfl⟩
  have hn_401 : f_401.length = 91 := by rw [hf_401, List.length_set]; exact hn_393
  rw [← hf_401] at hP hD
  refine lv_aload_n hx hb dX12_init_404 rfl (lv_at hl 0 rfl) ?_
  refine lv_bipush (v := 12) hx hb dX12_init_405 (by decide) ?_
  refine newa_int S hK hP hD hS hA (N' := 12) (by decide) (by decide) (Nat.le_of_ble_eq_true rfl) (Nat.le_of_ble_eq_true rfl) (Nat.le_of_ble_eq_true rfl) dX12_init_407 (fun q407 H hP hD hS => ?_)
  have hP : va_P D vwCl ((x, .inr (13, f_401)) :: (w_399 ++ [(q407, .inl (cI, 12, .inl (fun _ => 0)))])) H := hP
  have hD : va_D A ((x, .inr (13, f_401)) :: (w_399 ++ [(q407, .inl (cI, 12, .inl (fun _ => 0)))])) := hD
  obtain ⟨w_407, hw_407⟩ : ∃ z : va_W, z = (w_399 ++ [(q407, .inl (cI, 12, .inl (fun _ => 0)))]) := ⟨_, rfl⟩
  rw [← hw_407] at hP hD
  refine pf_RX12_159 S hin hK hP hD hS 0 rfl (v := .ref q407) (by rw [hn_401]; decide) rfl rfl dX12_init_409 (fun H locs hP hD hS => ?_)
  have hP : va_P D vwCl ((x, .inr (13, (f_401.set 74 (.ref q407)))) :: w_407) H := hP
  have hD : va_D A ((x, .inr (13, (f_401.set 74 (.ref q407)))) :: w_407) := hD
  obtain ⟨f_409, hf_409⟩ : ∃ z : List Value, z = (f_401.set 74 (.ref q407)) := ⟨_, rfl⟩
  have hn_409 : f_409.length = 91 := by rw [hf_409, List.length_set]; exact hn_401
  rw [← hf_409] at hP hD
  refine lv_aload_n hx hb dX12_init_412 rfl (lv_at hl 0 rfl) ?_
  refine lv_bipush (v := 10) hx hb dX12_init_413 (by decide) ?_
  refine newa_int S hK hP hD hS hA (N' := 10) (by decide) (by decide) (Nat.le_of_ble_eq_true rfl) (Nat.le_of_ble_eq_true rfl) (Nat.le_of_ble_eq_true rfl) dX12_init_415 (fun q415 H hP hD hS => ?_)
  have hP : va_P D vwCl ((x, .inr (13, f_409)) :: (w_407 ++ [(q415, .inl (cI, 10, .inl (fun _ => 0)))])) H := hP
  have hD : va_D A ((x, .inr (13, f_409)) :: (w_407 ++ [(q415, .inl (cI, 10, .inl (fun _ => 0)))])) := hD
  obtain ⟨w_415, hw_415⟩ : ∃ z : va_W, z = (w_407 ++ [(q415, .inl (cI, 10, .inl (fun _ => 0)))]) := ⟨_, rfl⟩
  rw [← hw_415] at hP hD
  refine pf_RX12_162 S hin hK hP hD hS 0 rfl (v := .ref q415) (by rw [hn_409]; decide) rfl rfl dX12_init_417 (fun H locs hP hD hS => ?_)
  have hP : va_P D vwCl ((x, .inr (13, (f_409.set 76 (.ref q415)))) :: w_415) H := hP
  have hD : va_D A ((x, .inr (13, (f_409.set 76 (.ref q415)))) :: w_415) := hD
  obtain ⟨f_417, hf_417⟩ : ∃ z : List Value, z = (f_409.set 76 (.ref q415)) := ⟨_, rfl⟩
  have hn_417 : f_417.length = 91 := by rw [hf_417, List.length_set]; exact hn_409
  rw [← hf_417] at hP hD
  refine lv_aload_n hx hb dX12_init_420 rfl (lv_at hl 0 rfl) ?_
  refine lv_sipush (v := 232) hx hb dX12_init_421 (by decide) ?_
  refine newa_int S hK hP hD hS hA (N' := 232) (by decide) (by decide) (Nat.le_of_ble_eq_true rfl) (Nat.le_of_ble_eq_true rfl) (Nat.le_of_ble_eq_true rfl) dX12_init_424 (fun q424 H hP hD hS => ?_)
  have hP : va_P D vwCl ((x, .inr (13, f_417)) :: (w_415 ++ [(q424, .inl (cI, 232, .inl (fun _ => 0)))])) H := hP
  have hD : va_D A ((x, .inr (13, f_417)) :: (w_415 ++ [(q424, .inl (cI, 232, .inl (fun _ => 0)))])) := hD
  obtain ⟨w_424, hw_424⟩ : ∃ z : va_W, z = (w_415 ++ [(q424, .inl (cI, 232, .inl (fun _ => 0)))]) := ⟨_, rfl⟩
  rw [← hw_424] at hP hD
  refine pf_RX12_165 S hin hK hP hD hS 0 rfl (v := .ref q424) (by rw [hn_417]; decide) rfl rfl dX12_init_426 (fun H locs hP hD hS => ?_)
  have hP : va_P D vwCl ((x, .inr (13, (f_417.set 77 (.ref q424)))) :: w_424) H := hP
  have hD : va_D A ((x, .inr (13, (f_417.set 77 (.ref q424)))) :: w_424) := hD
  obtain ⟨f_426, hf_426⟩ : ∃ z : List Value, z = (f_417.set 77 (.ref q424)) := ⟨_, rfl⟩
  have hn_426 : f_426.length = 91 := by rw [hf_426, List.length_set]; exact hn_417
  rw [← hf_426] at hP hD
  refine lv_aload_n hx hb dX12_init_429 rfl (lv_at hl 0 rfl) ?_
  refine lv_bipush (v := 10) hx hb dX12_init_430 (by decide) ?_
  refine newa_int S hK hP hD hS hA (N' := 10) (by decide) (by decide) (Nat.le_of_ble_eq_true rfl) (Nat.le_of_ble_eq_true rfl) (Nat.le_of_ble_eq_true rfl) dX12_init_432 (fun q432 H hP hD hS => ?_)
  have hP : va_P D vwCl ((x, .inr (13, f_426)) :: (w_424 ++ [(q432, .inl (cI, 10, .inl (fun _ => 0)))])) H := hP
  have hD : va_D A ((x, .inr (13, f_426)) :: (w_424 ++ [(q432, .inl (cI, 10, .inl (fun _ => 0)))])) := hD
  obtain ⟨w_432, hw_432⟩ : ∃ z : va_W, z = (w_424 ++ [(q432, .inl (cI, 10, .inl (fun _ => 0)))]) := ⟨_, rfl⟩
  rw [← hw_432] at hP hD
  refine pf_RX12_168 S hin hK hP hD hS 0 rfl (v := .ref q432) (by rw [hn_426]; decide) rfl rfl dX12_init_434 (fun H locs hP hD hS => ?_)
  have hP : va_P D vwCl ((x, .inr (13, (f_426.set 78 (.ref q432)))) :: w_432) H := hP
  have hD : va_D A ((x, .inr (13, (f_426.set 78 (.ref q432)))) :: w_432) := hD
  obtain ⟨f_434, hf_434⟩ : ∃ z : List Value, z = (f_426.set 78 (.ref q432)) := ⟨_, rfl⟩
  have hn_434 : f_434.length = 91 := by rw [hf_434, List.length_set]; exact hn_426
  rw [← hf_434] at hP hD
  refine lv_aload_n hx hb dX12_init_437 rfl (lv_at hl 0 rfl) ?_
  refine lv_bipush (v := 10) hx hb dX12_init_438 (by decide) ?_
  refine newa_int S hK hP hD hS hA (N' := 10) (by decide) (by decide) (Nat.le_of_ble_eq_true rfl) (Nat.le_of_ble_eq_true rfl) (Nat.le_of_ble_eq_true rfl) dX12_init_440 (fun q440 H hP hD hS => ?_)
  have hP : va_P D vwCl ((x, .inr (13, f_434)) :: (w_432 ++ [(q440, .inl (cI, 10, .inl (fun _ => 0)))])) H := hP
  have hD : va_D A ((x, .inr (13, f_434)) :: (w_432 ++ [(q440, .inl (cI, 10, .inl (fun _ => 0)))])) := hD
  obtain ⟨w_440, hw_440⟩ : ∃ z : va_W, z = (w_432 ++ [(q440, .inl (cI, 10, .inl (fun _ => 0)))]) := ⟨_, rfl⟩
  rw [← hw_440] at hP hD
  refine pf_RX12_171 S hin hK hP hD hS 0 rfl (v := .ref q440) (by rw [hn_434]; decide) rfl rfl dX12_init_442 (fun H locs hP hD hS => ?_)
  have hP : va_P D vwCl ((x, .inr (13, (f_434.set 79 (.ref q440)))) :: w_440) H := hP
  have hD : va_D A ((x, .inr (13, (f_434.set 79 (.ref q440)))) :: w_440) := hD
  obtain ⟨f_442, hf_442⟩ : ∃ z : List Value, z = (f_434.set 79 (.ref q440)) := ⟨_, rfl⟩
  have hn_442 : f_442.length = 91 := by rw [hf_442, List.length_set]; exact hn_434
  rw [← hf_442] at hP hD
  refine lv_aload_n hx hb dX12_init_445 rfl (lv_at hl 0 rfl) ?_
  refine lv_bipush (v := 120) hx hb dX12_init_446 (by decide) ?_
  refine newa_int S hK hP hD hS hA (N' := 120) (by decide) (by decide) (Nat.le_of_ble_eq_true rfl) (Nat.le_of_ble_eq_true rfl) (Nat.le_of_ble_eq_true rfl) dX12_init_448 (fun q448 H hP hD hS => ?_)
  have hP : va_P D vwCl ((x, .inr (13, f_442)) :: (w_440 ++ [(q448, .inl (cI, 120, .inl (fun _ => 0)))])) H := hP
  have hD : va_D A ((x, .inr (13, f_442)) :: (w_440 ++ [(q448, .inl (cI, 120, .inl (fun _ => 0)))])) := hD
  obtain ⟨w_448, hw_448⟩ : ∃ z : va_W, z = (w_440 ++ [(q448, .inl (cI, 120, .inl (fun _ => 0)))]) := ⟨_, rfl⟩
  rw [← hw_448] at hP hD
  refine pf_RX12_174 S hin hK hP hD hS 0 rfl (v := .ref q448) (by rw [hn_442]; decide) rfl rfl dX12_init_450 (fun H locs hP hD hS => ?_)
  have hP : va_P D vwCl ((x, .inr (13, (f_442.set 80 (.ref q448)))) :: w_448) H := hP
  have hD : va_D A ((x, .inr (13, (f_442.set 80 (.ref q448)))) :: w_448) := hD
  obtain ⟨f_450, hf_450⟩ : ∃ z : List Value, z = (f_442.set 80 (.ref q448)) := ⟨_, rfl⟩
  have hn_450 : f_450.length = 91 := by rw [hf_450, List.length_set]; exact hn_442
  rw [← hf_450] at hP hD
  refine lv_aload_n hx hb dX12_init_453 rfl (lv_at hl 0 rfl) ?_
  refine lv_bipush (v := 40) hx hb dX12_init_454 (by decide) ?_
  refine newa_int S hK hP hD hS hA (N' := 40) (by decide) (by decide) (Nat.le_of_ble_eq_true rfl) (Nat.le_of_ble_eq_true rfl) (Nat.le_of_ble_eq_true rfl) dX12_init_456 (fun q456 H hP hD hS => ?_)
  have hP : va_P D vwCl ((x, .inr (13, f_450)) :: (w_448 ++ [(q456, .inl (cI, 40, .inl (fun _ => 0)))])) H := hP
  have hD : va_D A ((x, .inr (13, f_450)) :: (w_448 ++ [(q456, .inl (cI, 40, .inl (fun _ => 0)))])) := hD
  obtain ⟨w_456, hw_456⟩ : ∃ z : va_W, z = (w_448 ++ [(q456, .inl (cI, 40, .inl (fun _ => 0)))]) := ⟨_, rfl⟩
  rw [← hw_456] at hP hD
  refine pf_RX12_177 S hin hK hP hD hS 0 rfl (v := .ref q456) (by rw [hn_450]; decide) rfl rfl dX12_init_458 (fun H locs hP hD hS => ?_)
  have hP : va_P D vwCl ((x, .inr (13, (f_450.set 81 (.ref q456)))) :: w_456) H := hP
  have hD : va_D A ((x, .inr (13, (f_450.set 81 (.ref q456)))) :: w_456) := hD
  obtain ⟨f_458, hf_458⟩ : ∃ z : List Value, z = (f_450.set 81 (.ref q456)) := ⟨_, rfl⟩
  have hn_458 : f_458.length = 91 := by rw [hf_458, List.length_set]; exact hn_450
  rw [← hf_458] at hP hD
  refine lv_aload_n hx hb dX12_init_461 rfl (lv_at hl 0 rfl) ?_
  refine lv_bipush (v := 40) hx hb dX12_init_462 (by decide) ?_
  refine newa_int S hK hP hD hS hA (N' := 40) (by decide) (by decide) (Nat.le_of_ble_eq_true rfl) (Nat.le_of_ble_eq_true rfl) (Nat.le_of_ble_eq_true rfl) dX12_init_464 (fun q464 H hP hD hS => ?_)
  have hP : va_P D vwCl ((x, .inr (13, f_458)) :: (w_456 ++ [(q464, .inl (cI, 40, .inl (fun _ => 0)))])) H := hP
  have hD : va_D A ((x, .inr (13, f_458)) :: (w_456 ++ [(q464, .inl (cI, 40, .inl (fun _ => 0)))])) := hD
  obtain ⟨w_464, hw_464⟩ : ∃ z : va_W, z = (w_456 ++ [(q464, .inl (cI, 40, .inl (fun _ => 0)))]) := ⟨_, rfl⟩
  rw [← hw_464] at hP hD
  refine pf_RX12_180 S hin hK hP hD hS 0 rfl (v := .ref q464) (by rw [hn_458]; decide) rfl rfl dX12_init_466 (fun H locs hP hD hS => ?_)
  have hP : va_P D vwCl ((x, .inr (13, (f_458.set 82 (.ref q464)))) :: w_464) H := hP
  have hD : va_D A ((x, .inr (13, (f_458.set 82 (.ref q464)))) :: w_464) := hD
  obtain ⟨f_466, hf_466⟩ : ∃ z : List Value, z = (f_458.set 82 (.ref q464)) := ⟨_, rfl⟩
  have hn_466 : f_466.length = 91 := by rw [hf_466, List.length_set]; exact hn_458
  rw [← hf_466] at hP hD
  refine lv_aload_n hx hb dX12_init_469 rfl (lv_at hl 0 rfl) ?_
  refine lv_bipush (v := 10) hx hb dX12_init_470 (by decide) ?_
  refine newa_int S hK hP hD hS hA (N' := 10) (by decide) (by decide) (Nat.le_of_ble_eq_true rfl) (Nat.le_of_ble_eq_true rfl) (Nat.le_of_ble_eq_true rfl) dX12_init_472 (fun q472 H hP hD hS => ?_)
  have hP : va_P D vwCl ((x, .inr (13, f_466)) :: (w_464 ++ [(q472, .inl (cI, 10, .inl (fun _ => 0)))])) H := hP
  have hD : va_D A ((x, .inr (13, f_466)) :: (w_464 ++ [(q472, .inl (cI, 10, .inl (fun _ => 0)))])) := hD
  obtain ⟨w_472, hw_472⟩ : ∃ z : va_W, z = (w_464 ++ [(q472, .inl (cI, 10, .inl (fun _ => 0)))]) := ⟨_, rfl⟩
  rw [← hw_472] at hP hD
  refine pf_RX12_183 S hin hK hP hD hS 0 rfl (v := .ref q472) (by rw [hn_466]; decide) rfl rfl dX12_init_474 (fun H locs hP hD hS => ?_)
  have hP : va_P D vwCl ((x, .inr (13, (f_466.set 84 (.ref q472)))) :: w_472) H := hP
  have hD : va_D A ((x, .inr (13, (f_466.set 84 (.ref q472)))) :: w_472) := hD
  obtain ⟨f_474, hf_474⟩ : ∃ z : List Value, z = (f_466.set 84 (.ref q472)) := ⟨_, rfl⟩
  have hn_474 : f_474.length = 91 := by rw [hf_474, List.length_set]; exact hn_466
  rw [← hf_474] at hP hD
  refine lv_aload_n hx hb dX12_init_477 rfl (lv_at hl 0 rfl) ?_
  refine lv_bipush (v := 10) hx hb dX12_init_478 (by decide) ?_
  refine newa_int S hK hP hD hS hA (N' := 10) (by decide) (by decide) (Nat.le_of_ble_eq_true rfl) (Nat.le_of_ble_eq_true rfl) (Nat.le_of_ble_eq_true rfl) dX12_init_480 (fun q480 H hP hD hS => ?_)
  have hP : va_P D vwCl ((x, .inr (13, f_474)) :: (w_472 ++ [(q480, .inl (cI, 10, .inl (fun _ => 0)))])) H := hP
  have hD : va_D A ((x, .inr (13, f_474)) :: (w_472 ++ [(q480, .inl (cI, 10, .inl (fun _ => 0)))])) := hD
  obtain ⟨w_480, hw_480⟩ : ∃ z : va_W, z = (w_472 ++ [(q480, .inl (cI, 10, .inl (fun _ => 0)))]) := ⟨_, rfl⟩
  rw [← hw_480] at hP hD
  refine pf_RX12_186 S hin hK hP hD hS 0 rfl (v := .ref q480) (by rw [hn_474]; decide) rfl rfl dX12_init_482 (fun H locs hP hD hS => ?_)
  have hP : va_P D vwCl ((x, .inr (13, (f_474.set 85 (.ref q480)))) :: w_480) H := hP
  have hD : va_D A ((x, .inr (13, (f_474.set 85 (.ref q480)))) :: w_480) := hD
  obtain ⟨f_482, hf_482⟩ : ∃ z : List Value, z = (f_474.set 85 (.ref q480)) := ⟨_, rfl⟩
  have hn_482 : f_482.length = 91 := by rw [hf_482, List.length_set]; exact hn_474
  rw [← hf_482] at hP hD
  refine lv_aload_n hx hb dX12_init_485 rfl (lv_at hl 0 rfl) ?_
  refine lv_bipush (v := 24) hx hb dX12_init_486 (by decide) ?_
  refine newa_int S hK hP hD hS hA (N' := 24) (by decide) (by decide) (Nat.le_of_ble_eq_true rfl) (Nat.le_of_ble_eq_true rfl) (Nat.le_of_ble_eq_true rfl) dX12_init_488 (fun q488 H hP hD hS => ?_)
  have hP : va_P D vwCl ((x, .inr (13, f_482)) :: (w_480 ++ [(q488, .inl (cI, 24, .inl (fun _ => 0)))])) H := hP
  have hD : va_D A ((x, .inr (13, f_482)) :: (w_480 ++ [(q488, .inl (cI, 24, .inl (fun _ => 0)))])) := hD
  obtain ⟨w_488, hw_488⟩ : ∃ z : va_W, z = (w_480 ++ [(q488, .inl (cI, 24, .inl (fun _ => 0)))]) := ⟨_, rfl⟩
  rw [← hw_488] at hP hD
  refine pf_RX12_189 S hin hK hP hD hS 0 rfl (v := .ref q488) (by rw [hn_482]; decide) rfl rfl dX12_init_490 (fun H locs hP hD hS => ?_)
  have hP : va_P D vwCl ((x, .inr (13, (f_482.set 86 (.ref q488)))) :: w_488) H := hP
  have hD : va_D A ((x, .inr (13, (f_482.set 86 (.ref q488)))) :: w_488) := hD
  obtain ⟨f_490, hf_490⟩ : ∃ z : List Value, z = (f_482.set 86 (.ref q488)) := ⟨_, rfl⟩
  have hn_490 : f_490.length = 91 := by rw [hf_490, List.length_set]; exact hn_482
  rw [← hf_490] at hP hD
  refine lv_aload_n hx hb dX12_init_493 rfl (lv_at hl 0 rfl) ?_
  refine lv_bipush (v := 10) hx hb dX12_init_494 (by decide) ?_
  refine newa_int S hK hP hD hS hA (N' := 10) (by decide) (by decide) (Nat.le_of_ble_eq_true rfl) (Nat.le_of_ble_eq_true rfl) (Nat.le_of_ble_eq_true rfl) dX12_init_496 (fun q496 H hP hD hS => ?_)
  have hP : va_P D vwCl ((x, .inr (13, f_490)) :: (w_488 ++ [(q496, .inl (cI, 10, .inl (fun _ => 0)))])) H := hP
  have hD : va_D A ((x, .inr (13, f_490)) :: (w_488 ++ [(q496, .inl (cI, 10, .inl (fun _ => 0)))])) := hD
  obtain ⟨w_496, hw_496⟩ : ∃ z : va_W, z = (w_488 ++ [(q496, .inl (cI, 10, .inl (fun _ => 0)))]) := ⟨_, rfl⟩
  rw [← hw_496] at hP hD
  refine pf_RX12_192 S hin hK hP hD hS 0 rfl (v := .ref q496) (by rw [hn_490]; decide) rfl rfl dX12_init_498 (fun H locs hP hD hS => ?_)
  have hP : va_P D vwCl ((x, .inr (13, (f_490.set 87 (.ref q496)))) :: w_496) H := hP
  have hD : va_D A ((x, .inr (13, (f_490.set 87 (.ref q496)))) :: w_496) := hD
  obtain ⟨f_498, hf_498⟩ : ∃ z : List Value, z = (f_490.set 87 (.ref q496)) := ⟨_, rfl⟩
  have hn_498 : f_498.length = 91 := by rw [hf_498, List.length_set]; exact hn_490
  rw [← hf_498] at hP hD
  refine lv_aload_n hx hb dX12_init_501 rfl (lv_at hl 0 rfl) ?_
  refine lv_bipush (v := 10) hx hb dX12_init_502 (by decide) ?_
  refine newa_int S hK hP hD hS hA (N' := 10) (by decide) (by decide) (Nat.le_of_ble_eq_true rfl) (Nat.le_of_ble_eq_true rfl) (Nat.le_of_ble_eq_true rfl) dX12_init_504 (fun q504 H hP hD hS => ?_)
  have hP : va_P D vwCl ((x, .inr (13, f_498)) :: (w_496 ++ [(q504, .inl (cI, 10, .inl (fun _ => 0)))])) H := hP
  have hD : va_D A ((x, .inr (13, f_498)) :: (w_496 ++ [(q504, .inl (cI, 10, .inl (fun _ => 0)))])) := hD
  obtain ⟨w_504, hw_504⟩ : ∃ z : va_W, z = (w_496 ++ [(q504, .inl (cI, 10, .inl (fun _ => 0)))]) := ⟨_, rfl⟩
  rw [← hw_504] at hP hD
  refine pf_RX12_195 S hin hK hP hD hS 0 rfl (v := .ref q504) (by rw [hn_498]; decide) rfl rfl dX12_init_506 (fun H locs hP hD hS => ?_)
  have hP : va_P D vwCl ((x, .inr (13, (f_498.set 88 (.ref q504)))) :: w_504) H := hP
  have hD : va_D A ((x, .inr (13, (f_498.set 88 (.ref q504)))) :: w_504) := hD
  obtain ⟨f_506, hf_506⟩ : ∃ z : List Value, z = (f_498.set 88 (.ref q504)) := ⟨_, rfl⟩
  have hn_506 : f_506.length = 91 := by rw [hf_506, List.length_set]; exact hn_498
  rw [← hf_506] at hP hD
  refine lv_aload_n hx hb dX12_init_509 rfl (lv_at hl 0 rfl) ?_
  refine lv_bipush (v := 10) hx hb dX12_init_510 (by decide) ?_
  refine newa_int S hK hP hD hS hA (N' := 10) (by decide) (by decide) (Nat.le_of_ble_eq_true rfl) (Nat.le_of_ble_eq_true rfl) (Nat.le_of_ble_eq_true rfl) dX12_init_512 (fun q512 H hP hD hS => ?_)
  have hP : va_P D vwCl ((x, .inr (13, f_506)) :: (w_504 ++ [(q512, .inl (cI, 10, .inl (fun _ => 0)))])) H := hP
  have hD : va_D A ((x, .inr (13, f_506)) :: (w_504 ++ [(q512, .inl (cI, 10, .inl (fun _ => 0)))])) := hD
  obtain ⟨w_512, hw_512⟩ : ∃ z : va_W, z = (w_504 ++ [(q512, .inl (cI, 10, .inl (fun _ => 0)))]) := ⟨_, rfl⟩
  rw [← hw_512] at hP hD
  refine pf_RX12_198 S hin hK hP hD hS 0 rfl (v := .ref q512) (by rw [hn_506]; decide) rfl rfl dX12_init_514 (fun H locs hP hD hS => ?_)
  have hP : va_P D vwCl ((x, .inr (13, (f_506.set 89 (.ref q512)))) :: w_512) H := hP
  have hD : va_D A ((x, .inr (13, (f_506.set 89 (.ref q512)))) :: w_512) := hD
  obtain ⟨f_514, hf_514⟩ : ∃ z : List Value, z = (f_506.set 89 (.ref q512)) := ⟨_, rfl⟩
  have hn_514 : f_514.length = 91 := by rw [hf_514, List.length_set]; exact hn_506
  rw [← hf_514] at hP hD
  refine lv_aload_n hx hb dX12_init_517 rfl (lv_at hl 0 rfl) ?_
  refine lv_sipush (v := 400) hx hb dX12_init_518 (by decide) ?_
  refine newa_int S hK hP hD hS hA (N' := 400) (by decide) (by decide) (Nat.le_of_ble_eq_true rfl) (Nat.le_of_ble_eq_true rfl) (Nat.le_of_ble_eq_true rfl) dX12_init_521 (fun q521 H hP hD hS => ?_)
  have hP : va_P D vwCl ((x, .inr (13, f_514)) :: (w_512 ++ [(q521, .inl (cI, 400, .inl (fun _ => 0)))])) H := hP
  have hD : va_D A ((x, .inr (13, f_514)) :: (w_512 ++ [(q521, .inl (cI, 400, .inl (fun _ => 0)))])) := hD
  obtain ⟨w_521, hw_521⟩ : ∃ z : va_W, z = (w_512 ++ [(q521, .inl (cI, 400, .inl (fun _ => 0)))]) := ⟨_, rfl⟩
  rw [← hw_521] at hP hD
  refine pf_RX12_201 S hin hK hP hD hS 0 rfl (v := .ref q521) (by rw [hn_514]; decide) rfl rfl dX12_init_523 (fun H locs hP hD hS => ?_)
  have hP : va_P D vwCl ((x, .inr (13, (f_514.set 90 (.ref q521)))) :: w_521) H := hP
  have hD : va_D A ((x, .inr (13, (f_514.set 90 (.ref q521)))) :: w_521) := hD
  obtain ⟨f_523, hf_523⟩ : ∃ z : List Value, z = (f_514.set 90 (.ref q521)) := ⟨_, rfl⟩
  have hn_523 : f_523.length = 91 := by rw [hf_523, List.length_set]; exact hn_514
  rw [← hf_523] at hP hD
  refine lv_iconst (v := 0) hx hb dX12_init_526 (by decide) ?_
  refine lv_istore_n (lv' := [(1, .int 0), (0, .ref x)]) hx hb dX12_init_527 rfl hl (by decide) rfl (fun ls hl => ?_)
  have eF : f_523 = [.int 0, .int 0, .int 0, .ref q7, .ref q15, .ref q23, .ref q31, .ref q39, .ref q47, .ref q55, .ref q63, .ref q71, .ref q79, .ref q87, .ref q95, .ref q103, .ref q111, .ref q120, .int 0, .int 0, .int 0, .int 0, .int 0, .int 0, .int 0, .int 0, .int 0, .ref q129, .ref q138, .ref q146, .ref q154, .ref q162, .ref q171, .ref q179, .ref q188, .ref q197, .ref q206, .ref q215, .ref q223, .ref q231, .ref q239, .ref q248, .ref q256, .ref q265, .int 0, .int 0, .int 0, .ref q272, .ref q279, .ref q286, .ref q294, .ref q302, .ref q310, .ref q319, .int 0, .int 0, .int 0, .int 0, .int 0, .ref q327, .ref q335, .ref q343, .int 0, .int 0, .ref q351, .ref q359, .ref q367, .ref q375, .ref q383, .ref q391, .ref q399, .int 0, .int 0, .int 0, .ref q407, .int 0, .ref q415, .ref q424, .ref q432, .ref q440, .ref q448, .ref q456, .ref q464, .int 0, .ref q472, .ref q480, .ref q488, .ref q496, .ref q504, .ref q512, .ref q521] := by
    rw [hf_523, hf_514, hf_506, hf_498, hf_490, hf_482, hf_474, hf_466, hf_458, hf_450, hf_442, hf_434, hf_426, hf_417, hf_409, hf_401, hf_393, hf_385, hf_377, hf_369, hf_361, hf_353, hf_345, hf_337, hf_329, hf_321, hf_312, hf_304, hf_296, hf_288, hf_281, hf_274, hf_267, hf_258, hf_250, hf_241, hf_233, hf_225, hf_217, hf_208, hf_199, hf_190, hf_181, hf_173, hf_164, hf_156, hf_148, hf_140, hf_131, hf_122, hf_113, hf_105, hf_97, hf_89, hf_81, hf_73, hf_65, hf_57, hf_49, hf_41, hf_33, hf_25, hf_17, hf_9, hf_0]
    rfl
  have eW : w_521 = [(q7, .inl (cI, 10, .inl (fun _ => 0))), (q15, .inl (cI, 10, .inl (fun _ => 0))), (q23, .inl (cI, 10, .inl (fun _ => 0))), (q31, .inl (cI, 10, .inl (fun _ => 0))), (q39, .inl (cI, 10, .inl (fun _ => 0))), (q47, .inl (cI, 60, .inl (fun _ => 0))), (q55, .inl (cI, 60, .inl (fun _ => 0))), (q63, .inl (cI, 60, .inl (fun _ => 0))), (q71, .inl (cI, 60, .inl (fun _ => 0))), (q79, .inl (cI, 60, .inl (fun _ => 0))), (q87, .inl (cI, 60, .inl (fun _ => 0))), (q95, .inl (cI, 60, .inl (fun _ => 0))), (q103, .inl (cI, 60, .inl (fun _ => 0))), (q111, .inl (cI, 60, .inl (fun _ => 0))), (q120, .inl (cB, 200, .inl (fun _ => 0))), (q129, .inl (cI, 180, .inl (fun _ => 0))), (q138, .inl (cI, 180, .inl (fun _ => 0))), (q146, .inl (cI, 12, .inl (fun _ => 0))), (q154, .inl (cI, 12, .inl (fun _ => 0))), (q162, .inl (cI, 12, .inl (fun _ => 0))), (q171, .inl (cI, 1980, .inl (fun _ => 0))), (q179, .inl (cI, 11, .inl (fun _ => 0))), (q188, .inl (cI, 132, .inl (fun _ => 0))), (q197, .inl (cI, 132, .inl (fun _ => 0))), (q206, .inl (cI, 132, .inl (fun _ => 0))), (q215, .inl (cI, 180, .inl (fun _ => 0))), (q223, .inl (cI, 11, .inl (fun _ => 0))), (q231, .inl (cI, 58, .inl (fun _ => 0))), (q239, .inl (cI, 10, .inl (fun _ => 0))), (q248, .inl (cI, 400, .inl (fun _ => 0))), (q256, .inl (cI, 10, .inl (fun _ => 0))), (q265, .inl (cI, 2048, .inl (fun _ => 0))), (q272, .inl (cI, 3, .inl (fun _ => 0))), (q279, .inl (cI, 3, .inl (fun _ => 0))), (q286, .inl (cI, 3, .inl (fun _ => 0))), (q294, .inl (cI, 6, .inl (fun _ => 0))), (q302, .inl (cI, 6, .inl (fun _ => 0))), (q310, .inl (cI, 10, .inl (fun _ => 0))), (q319, .inl (cZ, 1200, .inl (fun _ => 0))), (q327, .inl (cI, 60, .inl (fun _ => 0))), (q335, .inl (cI, 60, .inl (fun _ => 0))), (q343, .inl (cI, 60, .inl (fun _ => 0))), (q351, .inl (cI, 10, .inl (fun _ => 0))), (q359, .inl (cI, 10, .inl (fun _ => 0))), (q367, .inl (cI, 40, .inl (fun _ => 0))), (q375, .inl (cI, 40, .inl (fun _ => 0))), (q383, .inl (cI, 40, .inl (fun _ => 0))), (q391, .inl (cI, 40, .inl (fun _ => 0))), (q399, .inl (cI, 40, .inl (fun _ => 0))), (q407, .inl (cI, 12, .inl (fun _ => 0))), (q415, .inl (cI, 10, .inl (fun _ => 0))), (q424, .inl (cI, 232, .inl (fun _ => 0))), (q432, .inl (cI, 10, .inl (fun _ => 0))), (q440, .inl (cI, 10, .inl (fun _ => 0))), (q448, .inl (cI, 120, .inl (fun _ => 0))), (q456, .inl (cI, 40, .inl (fun _ => 0))), (q464, .inl (cI, 40, .inl (fun _ => 0))), (q472, .inl (cI, 10, .inl (fun _ => 0))), (q480, .inl (cI, 10, .inl (fun _ => 0))), (q488, .inl (cI, 24, .inl (fun _ => 0))), (q496, .inl (cI, 10, .inl (fun _ => 0))), (q504, .inl (cI, 10, .inl (fun _ => 0))), (q512, .inl (cI, 10, .inl (fun _ => 0))), (q521, .inl (cI, 400, .inl (fun _ => 0)))] := by
    rw [hw_521, hw_512, hw_504, hw_496, hw_488, hw_480, hw_472, hw_464, hw_456, hw_448, hw_440, hw_432, hw_424, hw_415, hw_407, hw_399, hw_391, hw_383, hw_375, hw_367, hw_359, hw_351, hw_343, hw_335, hw_327, hw_319, hw_310, hw_302, hw_294, hw_286, hw_279, hw_272, hw_265, hw_256, hw_248, hw_239, hw_231, hw_223, hw_215, hw_206, hw_197, hw_188, hw_179, hw_171, hw_162, hw_154, hw_146, hw_138, hw_129, hw_120, hw_111, hw_103, hw_95, hw_87, hw_79, hw_71, hw_63, hw_55, hw_47, hw_39, hw_31, hw_23, hw_15, hw_7, hw_0]
    rfl
  rw [eF, eW] at hP hD
  have hP : va_P D vwCl [(x, .inr (13, [.int 0, .int 0, .int 0, .ref q7, .ref q15, .ref q23, .ref q31, .ref q39, .ref q47, .ref q55, .ref q63, .ref q71, .ref q79, .ref q87, .ref q95, .ref q103, .ref q111, .ref q120, .int 0, .int 0, .int 0, .int 0, .int 0, .int 0, .int 0, .int 0, .int 0, .ref q129, .ref q138, .ref q146, .ref q154, .ref q162, .ref q171, .ref q179, .ref q188, .ref q197, .ref q206, .ref q215, .ref q223, .ref q231, .ref q239, .ref q248, .ref q256, .ref q265, .int 0, .int 0, .int 0, .ref q272, .ref q279, .ref q286, .ref q294, .ref q302, .ref q310, .ref q319, .int 0, .int 0, .int 0, .int 0, .int 0, .ref q327, .ref q335, .ref q343, .int 0, .int 0, .ref q351, .ref q359, .ref q367, .ref q375, .ref q383, .ref q391, .ref q399, .int 0, .int 0, .int 0, .ref q407, .int 0, .ref q415, .ref q424, .ref q432, .ref q440, .ref q448, .ref q456, .ref q464, .int 0, .ref q472, .ref q480, .ref q488, .ref q496, .ref q504, .ref q512, .ref q521])), (q7, .inl (cI, 10, .inl (fun _ => 0))), (q15, .inl (cI, 10, .inl (fun _ => 0))), (q23, .inl (cI, 10, .inl (fun _ => 0))), (q31, .inl (cI, 10, .inl (fun _ => 0))), (q39, .inl (cI, 10, .inl (fun _ => 0))), (q47, .inl (cI, 60, .inl (fun _ => 0))), (q55, .inl (cI, 60, .inl (fun _ => 0))), (q63, .inl (cI, 60, .inl (fun _ => 0))), (q71, .inl (cI, 60, .inl (fun _ => 0))), (q79, .inl (cI, 60, .inl (fun _ => 0))), (q87, .inl (cI, 60, .inl (fun _ => 0))), (q95, .inl (cI, 60, .inl (fun _ => 0))), (q103, .inl (cI, 60, .inl (fun _ => 0))), (q111, .inl (cI, 60, .inl (fun _ => 0))), (q120, .inl (cB, 200, .inl (fun _ => 0))), (q129, .inl (cI, 180, .inl (fun _ => 0))), (q138, .inl (cI, 180, .inl (fun _ => 0))), (q146, .inl (cI, 12, .inl (fun _ => 0))), (q154, .inl (cI, 12, .inl (fun _ => 0))), (q162, .inl (cI, 12, .inl (fun _ => 0))), (q171, .inl (cI, 1980, .inl (fun _ => 0))), (q179, .inl (cI, 11, .inl (fun _ => 0))), (q188, .inl (cI, 132, .inl (fun _ => 0))), (q197, .inl (cI, 132, .inl (fun _ => 0))), (q206, .inl (cI, 132, .inl (fun _ => 0))), (q215, .inl (cI, 180, .inl (fun _ => 0))), (q223, .inl (cI, 11, .inl (fun _ => 0))), (q231, .inl (cI, 58, .inl (fun _ => 0))), (q239, .inl (cI, 10, .inl (fun _ => 0))), (q248, .inl (cI, 400, .inl (fun _ => 0))), (q256, .inl (cI, 10, .inl (fun _ => 0))), (q265, .inl (cI, 2048, .inl (fun _ => 0))), (q272, .inl (cI, 3, .inl (fun _ => 0))), (q279, .inl (cI, 3, .inl (fun _ => 0))), (q286, .inl (cI, 3, .inl (fun _ => 0))), (q294, .inl (cI, 6, .inl (fun _ => 0))), (q302, .inl (cI, 6, .inl (fun _ => 0))), (q310, .inl (cI, 10, .inl (fun _ => 0))), (q319, .inl (cZ, 1200, .inl (fun _ => 0))), (q327, .inl (cI, 60, .inl (fun _ => 0))), (q335, .inl (cI, 60, .inl (fun _ => 0))), (q343, .inl (cI, 60, .inl (fun _ => 0))), (q351, .inl (cI, 10, .inl (fun _ => 0))), (q359, .inl (cI, 10, .inl (fun _ => 0))), (q367, .inl (cI, 40, .inl (fun _ => 0))), (q375, .inl (cI, 40, .inl (fun _ => 0))), (q383, .inl (cI, 40, .inl (fun _ => 0))), (q391, .inl (cI, 40, .inl (fun _ => 0))), (q399, .inl (cI, 40, .inl (fun _ => 0))), (q407, .inl (cI, 12, .inl (fun _ => 0))), (q415, .inl (cI, 10, .inl (fun _ => 0))), (q424, .inl (cI, 232, .inl (fun _ => 0))), (q432, .inl (cI, 10, .inl (fun _ => 0))), (q440, .inl (cI, 10, .inl (fun _ => 0))), (q448, .inl (cI, 120, .inl (fun _ => 0))), (q456, .inl (cI, 40, .inl (fun _ => 0))), (q464, .inl (cI, 40, .inl (fun _ => 0))), (q472, .inl (cI, 10, .inl (fun _ => 0))), (q480, .inl (cI, 10, .inl (fun _ => 0))), (q488, .inl (cI, 24, .inl (fun _ => 0))), (q496, .inl (cI, 10, .inl (fun _ => 0))), (q504, .inl (cI, 10, .inl (fun _ => 0))), (q512, .inl (cI, 10, .inl (fun _ => 0))), (q521, .inl (cI, 400, .inl (fun _ => 0)))] H := hP
  have hD : va_D A [(x, .inr (13, [.int 0, .int 0, .int 0, .ref q7, .ref q15, .ref q23, .ref q31, .ref q39, .ref q47, .ref q55, .ref q63, .ref q71, .ref q79, .ref q87, .ref q95, .ref q103, .ref q111, .ref q120, .int 0, .int 0, .int 0, .int 0, .int 0, .int 0, .int 0, .int 0, .int 0, .ref q129, .ref q138, .ref q146, .ref q154, .ref q162, .ref q171, .ref q179, .ref q188, .ref q197, .ref q206, .ref q215, .ref q223, .ref q231, .ref q239, .ref q248, .ref q256, .ref q265, .int 0, .int 0, .int 0, .ref q272, .ref q279, .ref q286, .ref q294, .ref q302, .ref q310, .ref q319, .int 0, .int 0, .int 0, .int 0, .int 0, .ref q327, .ref q335, .ref q343, .int 0, .int 0, .ref q351, .ref q359, .ref q367, .ref q375, .ref q383, .ref q391, .ref q399, .int 0, .int 0, .int 0, .ref q407, .int 0, .ref q415, .ref q424, .ref q432, .ref q440, .ref q448, .ref q456, .ref q464, .int 0, .ref q472, .ref q480, .ref q488, .ref q496, .ref q504, .ref q512, .ref q521])), (q7, .inl (cI, 10, .inl (fun _ => 0))), (q15, .inl (cI, 10, .inl (fun _ => 0))), (q23, .inl (cI, 10, .inl (fun _ => 0))), (q31, .inl (cI, 10, .inl (fun _ => 0))), (q39, .inl (cI, 10, .inl (fun _ => 0))), (q47, .inl (cI, 60, .inl (fun _ => 0))), (q55, .inl (cI, 60, .inl (fun _ => 0))), (q63, .inl (cI, 60, .inl (fun _ => 0))), (q71, .inl (cI, 60, .inl (fun _ => 0))), (q79, .inl (cI, 60, .inl (fun _ => 0))), (q87, .inl (cI, 60, .inl (fun _ => 0))), (q95, .inl (cI, 60, .inl (fun _ => 0))), (q103, .inl (cI, 60, .inl (fun _ => 0))), (q111, .inl (cI, 60, .inl (fun _ => 0))), (q120, .inl (cB, 200, .inl (fun _ => 0))), (q129, .inl (cI, 180, .inl (fun _ => 0))), (q138, .inl (cI, 180, .inl (fun _ => 0))), (q146, .inl (cI, 12, .inl (fun _ => 0))), (q154, .inl (cI, 12, .inl (fun _ => 0))), (q162, .inl (cI, 12, .inl (fun _ => 0))), (q171, .inl (cI, 1980, .inl (fun _ => 0))), (q179, .inl (cI, 11, .inl (fun _ => 0))), (q188, .inl (cI, 132, .inl (fun _ => 0))), (q197, .inl (cI, 132, .inl (fun _ => 0))), (q206, .inl (cI, 132, .inl (fun _ => 0))), (q215, .inl (cI, 180, .inl (fun _ => 0))), (q223, .inl (cI, 11, .inl (fun _ => 0))), (q231, .inl (cI, 58, .inl (fun _ => 0))), (q239, .inl (cI, 10, .inl (fun _ => 0))), (q248, .inl (cI, 400, .inl (fun _ => 0))), (q256, .inl (cI, 10, .inl (fun _ => 0))), (q265, .inl (cI, 2048, .inl (fun _ => 0))), (q272, .inl (cI, 3, .inl (fun _ => 0))), (q279, .inl (cI, 3, .inl (fun _ => 0))), (q286, .inl (cI, 3, .inl (fun _ => 0))), (q294, .inl (cI, 6, .inl (fun _ => 0))), (q302, .inl (cI, 6, .inl (fun _ => 0))), (q310, .inl (cI, 10, .inl (fun _ => 0))), (q319, .inl (cZ, 1200, .inl (fun _ => 0))), (q327, .inl (cI, 60, .inl (fun _ => 0))), (q335, .inl (cI, 60, .inl (fun _ => 0))), (q343, .inl (cI, 60, .inl (fun _ => 0))), (q351, .inl (cI, 10, .inl (fun _ => 0))), (q359, .inl (cI, 10, .inl (fun _ => 0))), (q367, .inl (cI, 40, .inl (fun _ => 0))), (q375, .inl (cI, 40, .inl (fun _ => 0))), (q383, .inl (cI, 40, .inl (fun _ => 0))), (q391, .inl (cI, 40, .inl (fun _ => 0))), (q399, .inl (cI, 40, .inl (fun _ => 0))), (q407, .inl (cI, 12, .inl (fun _ => 0))), (q415, .inl (cI, 10, .inl (fun _ => 0))), (q424, .inl (cI, 232, .inl (fun _ => 0))), (q432, .inl (cI, 10, .inl (fun _ => 0))), (q440, .inl (cI, 10, .inl (fun _ => 0))), (q448, .inl (cI, 120, .inl (fun _ => 0))), (q456, .inl (cI, 40, .inl (fun _ => 0))), (q464, .inl (cI, 40, .inl (fun _ => 0))), (q472, .inl (cI, 10, .inl (fun _ => 0))), (q480, .inl (cI, 10, .inl (fun _ => 0))), (q488, .inl (cI, 24, .inl (fun _ => 0))), (q496, .inl (cI, 10, .inl (fun _ => 0))), (q504, .inl (cI, 10, .inl (fun _ => 0))), (q512, .inl (cI, 10, .inl (fun _ => 0))), (q521, .inl (cI, 400, .inl (fun _ => 0)))] := hD
  have hP : va_P D vwCl [(x, .inr (13, [.int 0, .int 0, .int 0, .ref q7, .ref q15, .ref q23, .ref q31, .ref q39, .ref q47, .ref q55, .ref q63, .ref q71, .ref q79, .ref q87, .ref q95, .ref q103, .ref q111, .ref q120, .int 0, .int 0, .int 0, .int 0, .int 0, .int 0, .int 0, .int 0, .int 0, .ref q129, .ref q138, .ref q146, .ref q154, .ref q162, .ref q171, .ref q179, .ref q188, .ref q197, .ref q206, .ref q215, .ref q223, .ref q231, .ref q239, .ref q248, .ref q256, .ref q265, .int 0, .int 0, .int 0, .ref q272, .ref q279, .ref q286, .ref q294, .ref q302, .ref q310, .ref q319, .int 0, .int 0, .int 0, .int 0, .int 0, .ref q327, .ref q335, .ref q343, .int 0, .int 0, .ref q351, .ref q359, .ref q367, .ref q375, .ref q383, .ref q391, .ref q399, .int 0, .int 0, .int 0, .ref q407, .int 0, .ref q415, .ref q424, .ref q432, .ref q440, .ref q448, .ref q456, .ref q464, .int 0, .ref q472, .ref q480, .ref q488, .ref q496, .ref q504, .ref q512, .ref q521])), (q7, .inl (cI, 10, .inl (fun _ => 0))), (q15, .inl (cI, 10, .inl (fun _ => 0))), (q23, .inl (cI, 10, .inl (fun _ => 0))), (q31, .inl (cI, 10, .inl (fun _ => 0))), (q39, .inl (cI, 10, .inl (fun _ => 0))), (q47, .inl (cI, 60, .inl (fun _ => 0))), (q55, .inl (cI, 60, .inl (fun _ => 0))), (q63, .inl (cI, 60, .inl (fun _ => 0))), (q71, .inl (cI, 60, .inl (fun _ => 0))), (q79, .inl (cI, 60, .inl (fun _ => 0))), (q87, .inl (cI, 60, .inl (fun _ => 0))), (q95, .inl (cI, 60, .inl (fun _ => 0))), (q103, .inl (cI, 60, .inl (fun _ => 0))), (q111, .inl (cI, 60, .inl (fun _ => 0))), (q120, .inl (cB, 200, .inl (fun _ => 0))), (q129, .inl (cI, 180, .inl (fun _ => 0))), (q138, .inl (cI, 180, .inl (fun _ => 0))), (q146, .inl (cI, 12, .inl (fun _ => 0))), (q154, .inl (cI, 12, .inl (fun _ => 0))), (q162, .inl (cI, 12, .inl (fun _ => 0))), (q171, .inl (cI, 1980, .inl (fun _ => 0))), (q179, .inl (cI, 11, .inl (fun _ => 0))), (q188, .inl (cI, 132, .inl (fun _ => 0))), (q197, .inl (cI, 132, .inl (fun _ => 0))), (q206, .inl (cI, 132, .inl (fun _ => 0))), (q215, .inl (cI, 180, .inl (fun _ => 0))), (q223, .inl (cI, 11, .inl (fun _ => 0))), (q231, .inl (cI, 58, .inl (fun _ => 0))), (q239, .inl (cI, 10, .inl (fun _ => 0))), (q248, .inl (cI, 400, .inl (fun _ => 0))), (q256, .inl (cI, 10, .inl (fun _ => 0))), (q265, .inl (cI, 2048, .inl (fun _ => 0))), (q272, .inl (cI, 3, .inl (fun _ => 0))), (q279, .inl (cI, 3, .inl (fun _ => 0))), (q286, .inl (cI, 3, .inl (fun _ => 0))), (q294, .inl (cI, 6, .inl (fun _ => 0))), (q302, .inl (cI, 6, .inl (fun _ => 0))), (q310, .inl (cI, 10, .inl (fun _ => 0))), (q319, .inl (cZ, 1200, .inl (fun _ => 0))), (q327, .inl (cI, 60, .inl (fun _ => 0))), (q335, .inl (cI, 60, .inl (fun _ => 0))), (q343, .inl (cI, 60, .inl (fun _ => 0))), (q351, .inl (cI, 10, .inl (fun _ => 0))), (q359, .inl (cI, 10, .inl (fun _ => 0))), (q367, .inl (cI, 40, .inl (fun _ => 0))), (q375, .inl (cI, 40, .inl (fun _ => 0))), (q383, .inl (cI, 40, .inl (fun _ => 0))), (q391, .inl (cI, 40, .inl (fun _ => 0))), (q399, .inl (cI, 40, .inl (fun _ => 0))), (q407, .inl (cI, 12, .inl (fun _ => 0))), (q415, .inl (cI, 10, .inl (fun _ => 0))), (q424, .inl (cI, 232, .inl (fun _ => 0))), (q432, .inl (cI, 10, .inl (fun _ => 0))), (q440, .inl (cI, 10, .inl (fun _ => 0))), (q448, .inl (cI, 120, .inl (fun _ => 0))), (q456, .inl (cI, 40, .inl (fun _ => 0))), (q464, .inl (cI, 40, .inl (fun _ => 0))), (q472, .inl (cI, 10, .inl (fun _ => 0))), (q480, .inl (cI, 10, .inl (fun _ => 0))), (q488, .inl (cI, 24, .inl (fun _ => 0))), (q496, .inl (cI, 10, .inl (fun _ => 0))), (q504, .inl (cI, 10, .inl (fun _ => 0))), (q512, .inl (cI, 10, .inl (fun _ => 0))), (q521, .inl (cI, 400, .inl (dgF 0)))] H := by rw [dgF_0]; exact hP
  have hD : va_D A [(x, .inr (13, [.int 0, .int 0, .int 0, .ref q7, .ref q15, .ref q23, .ref q31, .ref q39, .ref q47, .ref q55, .ref q63, .ref q71, .ref q79, .ref q87, .ref q95, .ref q103, .ref q111, .ref q120, .int 0, .int 0, .int 0, .int 0, .int 0, .int 0, .int 0, .int 0, .int 0, .ref q129, .ref q138, .ref q146, .ref q154, .ref q162, .ref q171, .ref q179, .ref q188, .ref q197, .ref q206, .ref q215, .ref q223, .ref q231, .ref q239, .ref q248, .ref q256, .ref q265, .int 0, .int 0, .int 0, .ref q272, .ref q279, .ref q286, .ref q294, .ref q302, .ref q310, .ref q319, .int 0, .int 0, .int 0, .int 0, .int 0, .ref q327, .ref q335, .ref q343, .int 0, .int 0, .ref q351, .ref q359, .ref q367, .ref q375, .ref q383, .ref q391, .ref q399, .int 0, .int 0, .int 0, .ref q407, .int 0, .ref q415, .ref q424, .ref q432, .ref q440, .ref q448, .ref q456, .ref q464, .int 0, .ref q472, .ref q480, .ref q488, .ref q496, .ref q504, .ref q512, .ref q521])), (q7, .inl (cI, 10, .inl (fun _ => 0))), (q15, .inl (cI, 10, .inl (fun _ => 0))), (q23, .inl (cI, 10, .inl (fun _ => 0))), (q31, .inl (cI, 10, .inl (fun _ => 0))), (q39, .inl (cI, 10, .inl (fun _ => 0))), (q47, .inl (cI, 60, .inl (fun _ => 0))), (q55, .inl (cI, 60, .inl (fun _ => 0))), (q63, .inl (cI, 60, .inl (fun _ => 0))), (q71, .inl (cI, 60, .inl (fun _ => 0))), (q79, .inl (cI, 60, .inl (fun _ => 0))), (q87, .inl (cI, 60, .inl (fun _ => 0))), (q95, .inl (cI, 60, .inl (fun _ => 0))), (q103, .inl (cI, 60, .inl (fun _ => 0))), (q111, .inl (cI, 60, .inl (fun _ => 0))), (q120, .inl (cB, 200, .inl (fun _ => 0))), (q129, .inl (cI, 180, .inl (fun _ => 0))), (q138, .inl (cI, 180, .inl (fun _ => 0))), (q146, .inl (cI, 12, .inl (fun _ => 0))), (q154, .inl (cI, 12, .inl (fun _ => 0))), (q162, .inl (cI, 12, .inl (fun _ => 0))), (q171, .inl (cI, 1980, .inl (fun _ => 0))), (q179, .inl (cI, 11, .inl (fun _ => 0))), (q188, .inl (cI, 132, .inl (fun _ => 0))), (q197, .inl (cI, 132, .inl (fun _ => 0))), (q206, .inl (cI, 132, .inl (fun _ => 0))), (q215, .inl (cI, 180, .inl (fun _ => 0))), (q223, .inl (cI, 11, .inl (fun _ => 0))), (q231, .inl (cI, 58, .inl (fun _ => 0))), (q239, .inl (cI, 10, .inl (fun _ => 0))), (q248, .inl (cI, 400, .inl (fun _ => 0))), (q256, .inl (cI, 10, .inl (fun _ => 0))), (q265, .inl (cI, 2048, .inl (fun _ => 0))), (q272, .inl (cI, 3, .inl (fun _ => 0))), (q279, .inl (cI, 3, .inl (fun _ => 0))), (q286, .inl (cI, 3, .inl (fun _ => 0))), (q294, .inl (cI, 6, .inl (fun _ => 0))), (q302, .inl (cI, 6, .inl (fun _ => 0))), (q310, .inl (cI, 10, .inl (fun _ => 0))), (q319, .inl (cZ, 1200, .inl (fun _ => 0))), (q327, .inl (cI, 60, .inl (fun _ => 0))), (q335, .inl (cI, 60, .inl (fun _ => 0))), (q343, .inl (cI, 60, .inl (fun _ => 0))), (q351, .inl (cI, 10, .inl (fun _ => 0))), (q359, .inl (cI, 10, .inl (fun _ => 0))), (q367, .inl (cI, 40, .inl (fun _ => 0))), (q375, .inl (cI, 40, .inl (fun _ => 0))), (q383, .inl (cI, 40, .inl (fun _ => 0))), (q391, .inl (cI, 40, .inl (fun _ => 0))), (q399, .inl (cI, 40, .inl (fun _ => 0))), (q407, .inl (cI, 12, .inl (fun _ => 0))), (q415, .inl (cI, 10, .inl (fun _ => 0))), (q424, .inl (cI, 232, .inl (fun _ => 0))), (q432, .inl (cI, 10, .inl (fun _ => 0))), (q440, .inl (cI, 10, .inl (fun _ => 0))), (q448, .inl (cI, 120, .inl (fun _ => 0))), (q456, .inl (cI, 40, .inl (fun _ => 0))), (q464, .inl (cI, 40, .inl (fun _ => 0))), (q472, .inl (cI, 10, .inl (fun _ => 0))), (q480, .inl (cI, 10, .inl (fun _ => 0))), (q488, .inl (cI, 24, .inl (fun _ => 0))), (q496, .inl (cI, 10, .inl (fun _ => 0))), (q504, .inl (cI, 10, .inl (fun _ => 0))), (q512, .inl (cI, 10, .inl (fun _ => 0))), (q521, .inl (cI, 400, .inl (dgF 0)))] := by rw [dgF_0]; exact hD
  have lp_528 : ∀ (n i : Nat), 400 + 1 ≤ i + n → i ≤ 400 → ∀ (H : Heap) (locs : List Loc), va_P D vwCl [(x, .inr (13, [.int 0, .int 0, .int 0, .ref q7, .ref q15, .ref q23, .ref q31, .ref q39, .ref q47, .ref q55, .ref q63, .ref q71, .ref q79, .ref q87, .ref q95, .ref q103, .ref q111, .ref q120, .int 0, .int 0, .int 0, .int 0, .int 0, .int 0, .int 0, .int 0, .int 0, .ref q129, .ref q138, .ref q146, .ref q154, .ref q162, .ref q171, .ref q179, .ref q188, .ref q197, .ref q206, .ref q215, .ref q223, .ref q231, .ref q239, .ref q248, .ref q256, .ref q265, .int 0, .int 0, .int 0, .ref q272, .ref q279, .ref q286, .ref q294, .ref q302, .ref q310, .ref q319, .int 0, .int 0, .int 0, .int 0, .int 0, .ref q327, .ref q335, .ref q343, .int 0, .int 0, .ref q351, .ref q359, .ref q367, .ref q375, .ref q383, .ref q391, .ref q399, .int 0, .int 0, .int 0, .ref q407, .int 0, .ref q415, .ref q424, .ref q432, .ref q440, .ref q448, .ref q456, .ref q464, .int 0, .ref q472, .ref q480, .ref q488, .ref q496, .ref q504, .ref q512, .ref q521])), (q7, .inl (cI, 10, .inl (fun _ => 0))), (q15, .inl (cI, 10, .inl (fun _ => 0))), (q23, .inl (cI, 10, .inl (fun _ => 0))), (q31, .inl (cI, 10, .inl (fun _ => 0))), (q39, .inl (cI, 10, .inl (fun _ => 0))), (q47, .inl (cI, 60, .inl (fun _ => 0))), (q55, .inl (cI, 60, .inl (fun _ => 0))), (q63, .inl (cI, 60, .inl (fun _ => 0))), (q71, .inl (cI, 60, .inl (fun _ => 0))), (q79, .inl (cI, 60, .inl (fun _ => 0))), (q87, .inl (cI, 60, .inl (fun _ => 0))), (q95, .inl (cI, 60, .inl (fun _ => 0))), (q103, .inl (cI, 60, .inl (fun _ => 0))), (q111, .inl (cI, 60, .inl (fun _ => 0))), (q120, .inl (cB, 200, .inl (fun _ => 0))), (q129, .inl (cI, 180, .inl (fun _ => 0))), (q138, .inl (cI, 180, .inl (fun _ => 0))), (q146, .inl (cI, 12, .inl (fun _ => 0))), (q154, .inl (cI, 12, .inl (fun _ => 0))), (q162, .inl (cI, 12, .inl (fun _ => 0))), (q171, .inl (cI, 1980, .inl (fun _ => 0))), (q179, .inl (cI, 11, .inl (fun _ => 0))), (q188, .inl (cI, 132, .inl (fun _ => 0))), (q197, .inl (cI, 132, .inl (fun _ => 0))), (q206, .inl (cI, 132, .inl (fun _ => 0))), (q215, .inl (cI, 180, .inl (fun _ => 0))), (q223, .inl (cI, 11, .inl (fun _ => 0))), (q231, .inl (cI, 58, .inl (fun _ => 0))), (q239, .inl (cI, 10, .inl (fun _ => 0))), (q248, .inl (cI, 400, .inl (fun _ => 0))), (q256, .inl (cI, 10, .inl (fun _ => 0))), (q265, .inl (cI, 2048, .inl (fun _ => 0))), (q272, .inl (cI, 3, .inl (fun _ => 0))), (q279, .inl (cI, 3, .inl (fun _ => 0))), (q286, .inl (cI, 3, .inl (fun _ => 0))), (q294, .inl (cI, 6, .inl (fun _ => 0))), (q302, .inl (cI, 6, .inl (fun _ => 0))), (q310, .inl (cI, 10, .inl (fun _ => 0))), (q319, .inl (cZ, 1200, .inl (fun _ => 0))), (q327, .inl (cI, 60, .inl (fun _ => 0))), (q335, .inl (cI, 60, .inl (fun _ => 0))), (q343, .inl (cI, 60, .inl (fun _ => 0))), (q351, .inl (cI, 10, .inl (fun _ => 0))), (q359, .inl (cI, 10, .inl (fun _ => 0))), (q367, .inl (cI, 40, .inl (fun _ => 0))), (q375, .inl (cI, 40, .inl (fun _ => 0))), (q383, .inl (cI, 40, .inl (fun _ => 0))), (q391, .inl (cI, 40, .inl (fun _ => 0))), (q399, .inl (cI, 40, .inl (fun _ => 0))), (q407, .inl (cI, 12, .inl (fun _ => 0))), (q415, .inl (cI, 10, .inl (fun _ => 0))), (q424, .inl (cI, 232, .inl (fun _ => 0))), (q432, .inl (cI, 10, .inl (fun _ => 0))), (q440, .inl (cI, 10, .inl (fun _ => 0))), (q448, .inl (cI, 120, .inl (fun _ => 0))), (q456, .inl (cI, 40, .inl (fun _ => 0))), (q464, .inl (cI, 40, .inl (fun _ => 0))), (q472, .inl (cI, 10, .inl (fun _ => 0))), (q480, .inl (cI, 10, .inl (fun _ => 0))), (q488, .inl (cI, 24, .inl (fun _ => 0))), (q496, .inl (cI, 10, .inl (fun _ => 0))), (q504, .inl (cI, 10, .inl (fun _ => 0))), (q512, .inl (cI, 10, .inl (fun _ => 0))), (q521, .inl (cI, 400, .inl (dgF i)))] H → va_D A [(x, .inr (13, [.int 0, .int 0, .int 0, .ref q7, .ref q15, .ref q23, .ref q31, .ref q39, .ref q47, .ref q55, .ref q63, .ref q71, .ref q79, .ref q87, .ref q95, .ref q103, .ref q111, .ref q120, .int 0, .int 0, .int 0, .int 0, .int 0, .int 0, .int 0, .int 0, .int 0, .ref q129, .ref q138, .ref q146, .ref q154, .ref q162, .ref q171, .ref q179, .ref q188, .ref q197, .ref q206, .ref q215, .ref q223, .ref q231, .ref q239, .ref q248, .ref q256, .ref q265, .int 0, .int 0, .int 0, .ref q272, .ref q279, .ref q286, .ref q294, .ref q302, .ref q310, .ref q319, .int 0, .int 0, .int 0, .int 0, .int 0, .ref q327, .ref q335, .ref q343, .int 0, .int 0, .ref q351, .ref q359, .ref q367, .ref q375, .ref q383, .ref q391, .ref q399, .int 0, .int 0, .int 0, .ref q407, .int 0, .ref q415, .ref q424, .ref q432, .ref q440, .ref q448, .ref q456, .ref q464, .int 0, .ref q472, .ref q480, .ref q488, .ref q496, .ref q504, .ref q512, .ref q521])), (q7, .inl (cI, 10, .inl (fun _ => 0))), (q15, .inl (cI, 10, .inl (fun _ => 0))), (q23, .inl (cI, 10, .inl (fun _ => 0))), (q31, .inl (cI, 10, .inl (fun _ => 0))), (q39, .inl (cI, 10, .inl (fun _ => 0))), (q47, .inl (cI, 60, .inl (fun _ => 0))), (q55, .inl (cI, 60, .inl (fun _ => 0))), (q63, .inl (cI, 60, .inl (fun _ => 0))), (q71, .inl (cI, 60, .inl (fun _ => 0))), (q79, .inl (cI, 60, .inl (fun _ => 0))), (q87, .inl (cI, 60, .inl (fun _ => 0))), (q95, .inl (cI, 60, .inl (fun _ => 0))), (q103, .inl (cI, 60, .inl (fun _ => 0))), (q111, .inl (cI, 60, .inl (fun _ => 0))), (q120, .inl (cB, 200, .inl (fun _ => 0))), (q129, .inl (cI, 180, .inl (fun _ => 0))), (q138, .inl (cI, 180, .inl (fun _ => 0))), (q146, .inl (cI, 12, .inl (fun _ => 0))), (q154, .inl (cI, 12, .inl (fun _ => 0))), (q162, .inl (cI, 12, .inl (fun _ => 0))), (q171, .inl (cI, 1980, .inl (fun _ => 0))), (q179, .inl (cI, 11, .inl (fun _ => 0))), (q188, .inl (cI, 132, .inl (fun _ => 0))), (q197, .inl (cI, 132, .inl (fun _ => 0))), (q206, .inl (cI, 132, .inl (fun _ => 0))), (q215, .inl (cI, 180, .inl (fun _ => 0))), (q223, .inl (cI, 11, .inl (fun _ => 0))), (q231, .inl (cI, 58, .inl (fun _ => 0))), (q239, .inl (cI, 10, .inl (fun _ => 0))), (q248, .inl (cI, 400, .inl (fun _ => 0))), (q256, .inl (cI, 10, .inl (fun _ => 0))), (q265, .inl (cI, 2048, .inl (fun _ => 0))), (q272, .inl (cI, 3, .inl (fun _ => 0))), (q279, .inl (cI, 3, .inl (fun _ => 0))), (q286, .inl (cI, 3, .inl (fun _ => 0))), (q294, .inl (cI, 6, .inl (fun _ => 0))), (q302, .inl (cI, 6, .inl (fun _ => 0))), (q310, .inl (cI, 10, .inl (fun _ => 0))), (q319, .inl (cZ, 1200, .inl (fun _ => 0))), (q327, .inl (cI, 60, .inl (fun _ => 0))), (q335, .inl (cI, 60, .inl (fun _ => 0))), (q343, .inl (cI, 60, .inl (fun _ => 0))), (q351, .inl (cI, 10, .inl (fun _ => 0))), (q359, .inl (cI, 10, .inl (fun _ => 0))), (q367, .inl (cI, 40, .inl (fun _ => 0))), (q375, .inl (cI, 40, .inl (fun _ => 0))), (q383, .inl (cI, 40, .inl (fun _ => 0))), (q391, .inl (cI, 40, .inl (fun _ => 0))), (q399, .inl (cI, 40, .inl (fun _ => 0))), (q407, .inl (cI, 12, .inl (fun _ => 0))), (q415, .inl (cI, 10, .inl (fun _ => 0))), (q424, .inl (cI, 232, .inl (fun _ => 0))), (q432, .inl (cI, 10, .inl (fun _ => 0))), (q440, .inl (cI, 10, .inl (fun _ => 0))), (q448, .inl (cI, 120, .inl (fun _ => 0))), (q456, .inl (cI, 40, .inl (fun _ => 0))), (q464, .inl (cI, 40, .inl (fun _ => 0))), (q472, .inl (cI, 10, .inl (fun _ => 0))), (q480, .inl (cI, 10, .inl (fun _ => 0))), (q488, .inl (cI, 24, .inl (fun _ => 0))), (q496, .inl (cI, 10, .inl (fun _ => 0))), (q504, .inl (cI, 10, .inl (fun _ => 0))), (q512, .inl (cI, 10, .inl (fun _ => 0))), (q521, .inl (cI, 400, .inl (dgF i)))] → va_S A s.heap H locs → ∀ ls : Array Slot, lv_has ls 2 [(1, .int (nI i)), (0, .ref x)] → W p l e (RM 2 64 8869) s m ([.ref x]).toArray below meth c H locs 64 8869 (MQ below (va_Qv (fun (u : Nat → Nat) => u 100 = x) (fun (u : Nat → Nat) (t : State) => va_P D vwCl [((u 100), .inr (13, [.int 0, .int 0, .int 0, .ref (u 3), .ref (u 4), .ref (u 5), .ref (u 6), .ref (u 7), .ref (u 8), .ref (u 9), .ref (u 10), .ref (u 11), .ref (u 12), .ref (u 13), .ref (u 14), .ref (u 15), .ref (u 16), .ref (u 17), .int 0, .int 0, .int 0, .int 0, .int 0, .int 0, .int 0, .int 0, .int 0, .ref (u 27), .ref (u 28), .ref (u 29), .ref (u 30), .ref (u 31), .ref (u 32), .ref (u 33), .ref (u 34), .ref (u 35), .ref (u 36), .ref (u 37), .ref (u 38), .ref (u 39), .ref (u 40), .ref (u 41), .ref (u 42), .ref (u 43), .int 0, .int 0, .int 0, .ref (u 47), .ref (u 48), .ref (u 49), .ref (u 50), .ref (u 51), .ref (u 52), .ref (u 53), .int 0, .int 0, .int 0, .int 0, .int 0, .ref (u 59), .ref (u 60), .ref (u 61), .int 0, .int 0, .ref (u 64), .ref (u 65), .ref (u 66), .ref (u 67), .ref (u 68), .ref (u 69), .ref (u 70), .int 0, .int 0, .int 0, .ref (u 74), .int 0, .ref (u 76), .ref (u 77), .ref (u 78), .ref (u 79), .ref (u 80), .ref (u 81), .ref (u 82), .int 0, .ref (u 84), .ref (u 85), .ref (u 86), .ref (u 87), .ref (u 88), .ref (u 89), .ref (u 90)])), ((u 3), .inl (cI, 10, .inl (fun _ => 0))), ((u 4), .inl (cI, 10, .inl (fun _ => 0))), ((u 5), .inl (cI, 10, .inl (fun _ => 0))), ((u 6), .inl (cI, 10, .inl (fun _ => 0))), ((u 7), .inl (cI, 10, .inl (fun _ => 0))), ((u 8), .inl (cI, 60, .inl (fun _ => 0))), ((u 9), .inl (cI, 60, .inl (fun _ => 0))), ((u 10), .inl (cI, 60, .inl (fun _ => 0))), ((u 11), .inl (cI, 60, .inl (fun _ => 0))), ((u 12), .inl (cI, 60, .inl (fun _ => 0))), ((u 13), .inl (cI, 60, .inl (fun _ => 0))), ((u 14), .inl (cI, 60, .inl (fun _ => 0))), ((u 15), .inl (cI, 60, .inl (fun _ => 0))), ((u 16), .inl (cI, 60, .inl (fun _ => 0))), ((u 17), .inl (cB, 200, .inl (fun _ => 0))), ((u 27), .inl (cI, 180, .inl (fun _ => 0))), ((u 28), .inl (cI, 180, .inl (fun _ => 0))), ((u 29), .inl (cI, 12, .inl (fun _ => 0))), ((u 30), .inl (cI, 12, .inl (fun _ => 0))), ((u 31), .inl (cI, 12, .inl (fun _ => 0))), ((u 32), .inl (cI, 1980, .inl (fun _ => 0))), ((u 33), .inl (cI, 11, .inl (fun _ => 0))), ((u 34), .inl (cI, 132, .inl (fun _ => 0))), ((u 35), .inl (cI, 132, .inl (fun _ => 0))), ((u 36), .inl (cI, 132, .inl (fun _ => 0))), ((u 37), .inl (cI, 180, .inl (fun _ => 0))), ((u 38), .inl (cI, 11, .inl (fun _ => 0))), ((u 39), .inl (cI, 58, .inl (fun _ => 0))), ((u 40), .inl (cI, 10, .inl (fun _ => 0))), ((u 41), .inl (cI, 400, .inl (fun _ => 0))), ((u 42), .inl (cI, 10, .inl (fun _ => 0))), ((u 43), .inl (cI, 2048, .inl (fun _ => 0))), ((u 47), .inl (cI, 3, .inl (fun _ => 0))), ((u 48), .inl (cI, 3, .inl (fun _ => 0))), ((u 49), .inl (cI, 3, .inl (fun _ => 0))), ((u 50), .inl (cI, 6, .inl (fun _ => 0))), ((u 51), .inl (cI, 6, .inl (fun _ => 0))), ((u 52), .inl (cI, 10, .inl (fun _ => 0))), ((u 53), .inl (cZ, 1200, .inl (fun _ => 0))), ((u 59), .inl (cI, 60, .inl (fun _ => 0))), ((u 60), .inl (cI, 60, .inl (fun _ => 0))), ((u 61), .inl (cI, 60, .inl (fun _ => 0))), ((u 64), .inl (cI, 10, .inl (fun _ => 0))), ((u 65), .inl (cI, 10, .inl (fun _ => 0))), ((u 66), .inl (cI, 40, .inl (fun _ => 0))), ((u 67), .inl (cI, 40, .inl (fun _ => 0))), ((u 68), .inl (cI, 40, .inl (fun _ => 0))), ((u 69), .inl (cI, 40, .inl (fun _ => 0))), ((u 70), .inl (cI, 40, .inl (fun _ => 0))), ((u 74), .inl (cI, 12, .inl (fun _ => 0))), ((u 76), .inl (cI, 10, .inl (fun _ => 0))), ((u 77), .inl (cI, 232, .inl (fun _ => 0))), ((u 78), .inl (cI, 10, .inl (fun _ => 0))), ((u 79), .inl (cI, 10, .inl (fun _ => 0))), ((u 80), .inl (cI, 120, .inl (fun _ => 0))), ((u 81), .inl (cI, 40, .inl (fun _ => 0))), ((u 82), .inl (cI, 40, .inl (fun _ => 0))), ((u 84), .inl (cI, 10, .inl (fun _ => 0))), ((u 85), .inl (cI, 10, .inl (fun _ => 0))), ((u 86), .inl (cI, 24, .inl (fun _ => 0))), ((u 87), .inl (cI, 10, .inl (fun _ => 0))), ((u 88), .inl (cI, 10, .inl (fun _ => 0))), ((u 89), .inl (cI, 10, .inl (fun _ => 0))), ((u 90), .inl (cI, 400, .inl (dgF 400)))] t.heap ∧ va_D A [((u 100), .inr (13, [.int 0, .int 0, .int 0, .ref (u 3), .ref (u 4), .ref (u 5), .ref (u 6), .ref (u 7), .ref (u 8), .ref (u 9), .ref (u 10), .ref (u 11), .ref (u 12), .ref (u 13), .ref (u 14), .ref (u 15), .ref (u 16), .ref (u 17), .int 0, .int 0, .int 0, .int 0, .int 0, .int 0, .int 0, .int 0, .int 0, .ref (u 27), .ref (u 28), .ref (u 29), .ref (u 30), .ref (u 31), .ref (u 32), .ref (u 33), .ref (u 34), .ref (u 35), .ref (u 36), .ref (u 37), .ref (u 38), .ref (u 39), .ref (u 40), .ref (u 41), .ref (u 42), .ref (u 43), .int 0, .int 0, .int 0, .ref (u 47), .ref (u 48), .ref (u 49), .ref (u 50), .ref (u 51), .ref (u 52), .ref (u 53), .int 0, .int 0, .int 0, .int 0, .int 0, .ref (u 59), .ref (u 60), .ref (u 61), .int 0, .int 0, .ref (u 64), .ref (u 65), .ref (u 66), .ref (u 67), .ref (u 68), .ref (u 69), .ref (u 70), .int 0, .int 0, .int 0, .ref (u 74), .int 0, .ref (u 76), .ref (u 77), .ref (u 78), .ref (u 79), .ref (u 80), .ref (u 81), .ref (u 82), .int 0, .ref (u 84), .ref (u 85), .ref (u 86), .ref (u 87), .ref (u 88), .ref (u 89), .ref (u 90)])), ((u 3), .inl (cI, 10, .inl (fun _ => 0))), ((u 4), .inl (cI, 10, .inl (fun _ => 0))), ((u 5), .inl (cI, 10, .inl (fun _ => 0))), ((u 6), .inl (cI, 10, .inl (fun _ => 0))), ((u 7), .inl (cI, 10, .inl (fun _ => 0))), ((u 8), .inl (cI, 60, .inl (fun _ => 0))), ((u 9), .inl (cI, 60, .inl (fun _ => 0))), ((u 10), .inl (cI, 60, .inl (fun _ => 0))), ((u 11), .inl (cI, 60, .inl (fun _ => 0))), ((u 12), .inl (cI, 60, .inl (fun _ => 0))), ((u 13), .inl (cI, 60, .inl (fun _ => 0))), ((u 14), .inl (cI, 60, .inl (fun _ => 0))), ((u 15), .inl (cI, 60, .inl (fun _ => 0))), ((u 16), .inl (cI, 60, .inl (fun _ => 0))), ((u 17), .inl (cB, 200, .inl (fun _ => 0))), ((u 27), .inl (cI, 180, .inl (fun _ => 0))), ((u 28), .inl (cI, 180, .inl (fun _ => 0))), ((u 29), .inl (cI, 12, .inl (fun _ => 0))), ((u 30), .inl (cI, 12, .inl (fun _ => 0))), ((u 31), .inl (cI, 12, .inl (fun _ => 0))), ((u 32), .inl (cI, 1980, .inl (fun _ => 0))), ((u 33), .inl (cI, 11, .inl (fun _ => 0))), ((u 34), .inl (cI, 132, .inl (fun _ => 0))), ((u 35), .inl (cI, 132, .inl (fun _ => 0))), ((u 36), .inl (cI, 132, .inl (fun _ => 0))), ((u 37), .inl (cI, 180, .inl (fun _ => 0))), ((u 38), .inl (cI, 11, .inl (fun _ => 0))), ((u 39), .inl (cI, 58, .inl (fun _ => 0))), ((u 40), .inl (cI, 10, .inl (fun _ => 0))), ((u 41), .inl (cI, 400, .inl (fun _ => 0))), ((u 42), .inl (cI, 10, .inl (fun _ => 0))), ((u 43), .inl (cI, 2048, .inl (fun _ => 0))), ((u 47), .inl (cI, 3, .inl (fun _ => 0))), ((u 48), .inl (cI, 3, .inl (fun _ => 0))), ((u 49), .inl (cI, 3, .inl (fun _ => 0))), ((u 50), .inl (cI, 6, .inl (fun _ => 0))), ((u 51), .inl (cI, 6, .inl (fun _ => 0))), ((u 52), .inl (cI, 10, .inl (fun _ => 0))), ((u 53), .inl (cZ, 1200, .inl (fun _ => 0))), ((u 59), .inl (cI, 60, .inl (fun _ => 0))), ((u 60), .inl (cI, 60, .inl (fun _ => 0))), ((u 61), .inl (cI, 60, .inl (fun _ => 0))), ((u 64), .inl (cI, 10, .inl (fun _ => 0))), ((u 65), .inl (cI, 10, .inl (fun _ => 0))), ((u 66), .inl (cI, 40, .inl (fun _ => 0))), ((u 67), .inl (cI, 40, .inl (fun _ => 0))), ((u 68), .inl (cI, 40, .inl (fun _ => 0))), ((u 69), .inl (cI, 40, .inl (fun _ => 0))), ((u 70), .inl (cI, 40, .inl (fun _ => 0))), ((u 74), .inl (cI, 12, .inl (fun _ => 0))), ((u 76), .inl (cI, 10, .inl (fun _ => 0))), ((u 77), .inl (cI, 232, .inl (fun _ => 0))), ((u 78), .inl (cI, 10, .inl (fun _ => 0))), ((u 79), .inl (cI, 10, .inl (fun _ => 0))), ((u 80), .inl (cI, 120, .inl (fun _ => 0))), ((u 81), .inl (cI, 40, .inl (fun _ => 0))), ((u 82), .inl (cI, 40, .inl (fun _ => 0))), ((u 84), .inl (cI, 10, .inl (fun _ => 0))), ((u 85), .inl (cI, 10, .inl (fun _ => 0))), ((u 86), .inl (cI, 24, .inl (fun _ => 0))), ((u 87), .inl (cI, 10, .inl (fun _ => 0))), ((u 88), .inl (cI, 10, .inl (fun _ => 0))), ((u 89), .inl (cI, 10, .inl (fun _ => 0))), ((u 90), .inl (cI, 400, .inl (dgF 400)))]) A) ([.ref x]).toArray s 64 8869 A) (F0 m 528 ls []) := by
    intro n
    induction n with
    | zero => intro i h1 h2; exact absurd h1 (by omega)
    | succ n ih =>
      intro i hn1 hi H locs hP hD hS ls hl
      have ti : (nI i).toInt = (i : Int) := nI_toInt (by omega)
      refine lv_iload_n hx hb dX12_init_528 rfl (lv_at hl 0 rfl) ?_
      refine lv_sipush (v := 400) hx hb dX12_init_529 (by decide) ?_
      refine lv_icmp_ge (tgt := 549) hx hb dX12_init_532 (by decide) (fun c_1 => ?_) (fun c_1 => ?_)
      ·
        have tc_1 : (400 : Int) ≤ (nI i).toInt := Int32.le_iff_toInt_le.mp c_1
        obtain rfl : i = 400 := by omega
        have hP9 := hP.sub (ws' := [(x, .inr (13, [.int 0, .int 0, .int 0, .ref q7, .ref q15, .ref q23, .ref q31, .ref q39, .ref q47, .ref q55, .ref q63, .ref q71, .ref q79, .ref q87, .ref q95, .ref q103, .ref q111, .ref q120, .int 0, .int 0, .int 0, .int 0, .int 0, .int 0, .int 0, .int 0, .int 0, .ref q129, .ref q138, .ref q146, .ref q154, .ref q162, .ref q171, .ref q179, .ref q188, .ref q197, .ref q206, .ref q215, .ref q223, .ref q231, .ref q239, .ref q248, .ref q256, .ref q265, .int 0, .int 0, .int 0, .ref q272, .ref q279, .ref q286, .ref q294, .ref q302, .ref q310, .ref q319, .int 0, .int 0, .int 0, .int 0, .int 0, .ref q327, .ref q335, .ref q343, .int 0, .int 0, .ref q351, .ref q359, .ref q367, .ref q375, .ref q383, .ref q391, .ref q399, .int 0, .int 0, .int 0, .ref q407, .int 0, .ref q415, .ref q424, .ref q432, .ref q440, .ref q448, .ref q456, .ref q464, .int 0, .ref q472, .ref q480, .ref q488, .ref q496, .ref q504, .ref q512, .ref q521])), (q7, .inl (cI, 10, .inl (fun _ => 0))), (q15, .inl (cI, 10, .inl (fun _ => 0))), (q23, .inl (cI, 10, .inl (fun _ => 0))), (q31, .inl (cI, 10, .inl (fun _ => 0))), (q39, .inl (cI, 10, .inl (fun _ => 0))), (q47, .inl (cI, 60, .inl (fun _ => 0))), (q55, .inl (cI, 60, .inl (fun _ => 0))), (q63, .inl (cI, 60, .inl (fun _ => 0))), (q71, .inl (cI, 60, .inl (fun _ => 0))), (q79, .inl (cI, 60, .inl (fun _ => 0))), (q87, .inl (cI, 60, .inl (fun _ => 0))), (q95, .inl (cI, 60, .inl (fun _ => 0))), (q103, .inl (cI, 60, .inl (fun _ => 0))), (q111, .inl (cI, 60, .inl (fun _ => 0))), (q120, .inl (cB, 200, .inl (fun _ => 0))), (q129, .inl (cI, 180, .inl (fun _ => 0))), (q138, .inl (cI, 180, .inl (fun _ => 0))), (q146, .inl (cI, 12, .inl (fun _ => 0))), (q154, .inl (cI, 12, .inl (fun _ => 0))), (q162, .inl (cI, 12, .inl (fun _ => 0))), (q171, .inl (cI, 1980, .inl (fun _ => 0))), (q179, .inl (cI, 11, .inl (fun _ => 0))), (q188, .inl (cI, 132, .inl (fun _ => 0))), (q197, .inl (cI, 132, .inl (fun _ => 0))), (q206, .inl (cI, 132, .inl (fun _ => 0))), (q215, .inl (cI, 180, .inl (fun _ => 0))), (q223, .inl (cI, 11, .inl (fun _ => 0))), (q231, .inl (cI, 58, .inl (fun _ => 0))), (q239, .inl (cI, 10, .inl (fun _ => 0))), (q248, .inl (cI, 400, .inl (fun _ => 0))), (q256, .inl (cI, 10, .inl (fun _ => 0))), (q265, .inl (cI, 2048, .inl (fun _ => 0))), (q272, .inl (cI, 3, .inl (fun _ => 0))), (q279, .inl (cI, 3, .inl (fun _ => 0))), (q286, .inl (cI, 3, .inl (fun _ => 0))), (q294, .inl (cI, 6, .inl (fun _ => 0))), (q302, .inl (cI, 6, .inl (fun _ => 0))), (q310, .inl (cI, 10, .inl (fun _ => 0))), (q319, .inl (cZ, 1200, .inl (fun _ => 0))), (q327, .inl (cI, 60, .inl (fun _ => 0))), (q335, .inl (cI, 60, .inl (fun _ => 0))), (q343, .inl (cI, 60, .inl (fun _ => 0))), (q351, .inl (cI, 10, .inl (fun _ => 0))), (q359, .inl (cI, 10, .inl (fun _ => 0))), (q367, .inl (cI, 40, .inl (fun _ => 0))), (q375, .inl (cI, 40, .inl (fun _ => 0))), (q383, .inl (cI, 40, .inl (fun _ => 0))), (q391, .inl (cI, 40, .inl (fun _ => 0))), (q399, .inl (cI, 40, .inl (fun _ => 0))), (q407, .inl (cI, 12, .inl (fun _ => 0))), (q415, .inl (cI, 10, .inl (fun _ => 0))), (q424, .inl (cI, 232, .inl (fun _ => 0))), (q432, .inl (cI, 10, .inl (fun _ => 0))), (q440, .inl (cI, 10, .inl (fun _ => 0))), (q448, .inl (cI, 120, .inl (fun _ => 0))), (q456, .inl (cI, 40, .inl (fun _ => 0))), (q464, .inl (cI, 40, .inl (fun _ => 0))), (q472, .inl (cI, 10, .inl (fun _ => 0))), (q480, .inl (cI, 10, .inl (fun _ => 0))), (q488, .inl (cI, 24, .inl (fun _ => 0))), (q496, .inl (cI, 10, .inl (fun _ => 0))), (q504, .inl (cI, 10, .inl (fun _ => 0))), (q512, .inl (cI, 10, .inl (fun _ => 0))), (q521, .inl (cI, 400, .inl (dgF 400)))]) [0, 1, 2, 3, 4, 5, 6, 7, 8, 9, 10, 11, 12, 13, 14, 15, 16, 17, 18, 19, 20, 21, 22, 23, 24, 25, 26, 27, 28, 29, 30, 31, 32, 33, 34, 35, 36, 37, 38, 39, 40, 41, 42, 43, 44, 45, 46, 47, 48, 49, 50, 51, 52, 53, 54, 55, 56, 57, 58, 59, 60, 61, 62, 63, 64] rfl
        have hD9 := hD.sub (ws' := [(x, .inr (13, [.int 0, .int 0, .int 0, .ref q7, .ref q15, .ref q23, .ref q31, .ref q39, .ref q47, .ref q55, .ref q63, .ref q71, .ref q79, .ref q87, .ref q95, .ref q103, .ref q111, .ref q120, .int 0, .int 0, .int 0, .int 0, .int 0, .int 0, .int 0, .int 0, .int 0, .ref q129, .ref q138, .ref q146, .ref q154, .ref q162, .ref q171, .ref q179, .ref q188, .ref q197, .ref q206, .ref q215, .ref q223, .ref q231, .ref q239, .ref q248, .ref q256, .ref q265, .int 0, .int 0, .int 0, .ref q272, .ref q279, .ref q286, .ref q294, .ref q302, .ref q310, .ref q319, .int 0, .int 0, .int 0, .int 0, .int 0, .ref q327, .ref q335, .ref q343, .int 0, .int 0, .ref q351, .ref q359, .ref q367, .ref q375, .ref q383, .ref q391, .ref q399, .int 0, .int 0, .int 0, .ref q407, .int 0, .ref q415, .ref q424, .ref q432, .ref q440, .ref q448, .ref q456, .ref q464, .int 0, .ref q472, .ref q480, .ref q488, .ref q496, .ref q504, .ref q512, .ref q521])), (q7, .inl (cI, 10, .inl (fun _ => 0))), (q15, .inl (cI, 10, .inl (fun _ => 0))), (q23, .inl (cI, 10, .inl (fun _ => 0))), (q31, .inl (cI, 10, .inl (fun _ => 0))), (q39, .inl (cI, 10, .inl (fun _ => 0))), (q47, .inl (cI, 60, .inl (fun _ => 0))), (q55, .inl (cI, 60, .inl (fun _ => 0))), (q63, .inl (cI, 60, .inl (fun _ => 0))), (q71, .inl (cI, 60, .inl (fun _ => 0))), (q79, .inl (cI, 60, .inl (fun _ => 0))), (q87, .inl (cI, 60, .inl (fun _ => 0))), (q95, .inl (cI, 60, .inl (fun _ => 0))), (q103, .inl (cI, 60, .inl (fun _ => 0))), (q111, .inl (cI, 60, .inl (fun _ => 0))), (q120, .inl (cB, 200, .inl (fun _ => 0))), (q129, .inl (cI, 180, .inl (fun _ => 0))), (q138, .inl (cI, 180, .inl (fun _ => 0))), (q146, .inl (cI, 12, .inl (fun _ => 0))), (q154, .inl (cI, 12, .inl (fun _ => 0))), (q162, .inl (cI, 12, .inl (fun _ => 0))), (q171, .inl (cI, 1980, .inl (fun _ => 0))), (q179, .inl (cI, 11, .inl (fun _ => 0))), (q188, .inl (cI, 132, .inl (fun _ => 0))), (q197, .inl (cI, 132, .inl (fun _ => 0))), (q206, .inl (cI, 132, .inl (fun _ => 0))), (q215, .inl (cI, 180, .inl (fun _ => 0))), (q223, .inl (cI, 11, .inl (fun _ => 0))), (q231, .inl (cI, 58, .inl (fun _ => 0))), (q239, .inl (cI, 10, .inl (fun _ => 0))), (q248, .inl (cI, 400, .inl (fun _ => 0))), (q256, .inl (cI, 10, .inl (fun _ => 0))), (q265, .inl (cI, 2048, .inl (fun _ => 0))), (q272, .inl (cI, 3, .inl (fun _ => 0))), (q279, .inl (cI, 3, .inl (fun _ => 0))), (q286, .inl (cI, 3, .inl (fun _ => 0))), (q294, .inl (cI, 6, .inl (fun _ => 0))), (q302, .inl (cI, 6, .inl (fun _ => 0))), (q310, .inl (cI, 10, .inl (fun _ => 0))), (q319, .inl (cZ, 1200, .inl (fun _ => 0))), (q327, .inl (cI, 60, .inl (fun _ => 0))), (q335, .inl (cI, 60, .inl (fun _ => 0))), (q343, .inl (cI, 60, .inl (fun _ => 0))), (q351, .inl (cI, 10, .inl (fun _ => 0))), (q359, .inl (cI, 10, .inl (fun _ => 0))), (q367, .inl (cI, 40, .inl (fun _ => 0))), (q375, .inl (cI, 40, .inl (fun _ => 0))), (q383, .inl (cI, 40, .inl (fun _ => 0))), (q391, .inl (cI, 40, .inl (fun _ => 0))), (q399, .inl (cI, 40, .inl (fun _ => 0))), (q407, .inl (cI, 12, .inl (fun _ => 0))), (q415, .inl (cI, 10, .inl (fun _ => 0))), (q424, .inl (cI, 232, .inl (fun _ => 0))), (q432, .inl (cI, 10, .inl (fun _ => 0))), (q440, .inl (cI, 10, .inl (fun _ => 0))), (q448, .inl (cI, 120, .inl (fun _ => 0))), (q456, .inl (cI, 40, .inl (fun _ => 0))), (q464, .inl (cI, 40, .inl (fun _ => 0))), (q472, .inl (cI, 10, .inl (fun _ => 0))), (q480, .inl (cI, 10, .inl (fun _ => 0))), (q488, .inl (cI, 24, .inl (fun _ => 0))), (q496, .inl (cI, 10, .inl (fun _ => 0))), (q504, .inl (cI, 10, .inl (fun _ => 0))), (q512, .inl (cI, 10, .inl (fun _ => 0))), (q521, .inl (cI, 400, .inl (dgF 400)))]) [0, 1, 2, 3, 4, 5, 6, 7, 8, 9, 10, 11, 12, 13, 14, 15, 16, 17, 18, 19, 20, 21, 22, 23, 24, 25, 26, 27, 28, 29, 30, 31, 32, 33, 34, 35, 36, 37, 38, 39, 40, 41, 42, 43, 44, 45, 46, 47, 48, 49, 50, 51, 52, 53, 54, 55, 56, 57, 58, 59, 60, 61, 62, 63, 64] (by decide) rfl
        exact W.vret hx hb hr (fun t ht hW => ⟨⟨(fun k => ([0, 0, 0, q7, q15, q23, q31, q39, q47, q55, q63, q71, q79, q87, q95, q103, q111, q120, 0, 0, 0, 0, 0, 0, 0, 0, 0, q129, q138, q146, q154, q162, q171, q179, q188, q197, q206, q215, q223, q231, q239, q248, q256, q265, 0, 0, 0, q272, q279, q286, q294, q302, q310, q319, 0, 0, 0, 0, 0, q327, q335, q343, 0, 0, q351, q359, q367, q375, q383, q391, q399, 0, 0, 0, q407, 0, q415, q424, q432, q440, q448, q456, q464, 0, q472, q480, q488, q496, q504, q512, q521, 0, 0, 0, 0, 0, 0, 0, 0, 0, x] : List Nat).getD k 0), rfl, rfl, by rw [ht]; exact hP9, hD9⟩, hS.F ht⟩) hS.2.2 dX12_init_549
      ·
        have tc_1 : ((nI i).toInt : Int) < 400 := Int32.lt_iff_toInt_lt.mp (Int32.not_le.mp c_1)
        refine lv_aload_n hx hb dX12_init_535 rfl (lv_at hl 1 rfl) ?_
        refine gf_RX12_201 S hK hP 0 rfl (v := .ref q521) rfl dX12_init_536 ?_
        refine lv_iload_n hx hb dX12_init_539 rfl (lv_at hl 0 rfl) ?_
        refine lv_bipush (v := 15) hx hb dX12_init_540 (by decide) ?_
        refine va_iast hx hb hK.1 hP hD hS 64 0 rfl rfl (vp_in_iff.mpr ⟨by omega, by omega⟩) dX12_init_542 (fun H locs hP hD hS => ?_)
        rw [nI_clamp (by omega), dgF_s] at hP hD
        have hP : va_P D vwCl [(x, .inr (13, [.int 0, .int 0, .int 0, .ref q7, .ref q15, .ref q23, .ref q31, .ref q39, .ref q47, .ref q55, .ref q63, .ref q71, .ref q79, .ref q87, .ref q95, .ref q103, .ref q111, .ref q120, .int 0, .int 0, .int 0, .int 0, .int 0, .int 0, .int 0, .int 0, .int 0, .ref q129, .ref q138, .ref q146, .ref q154, .ref q162, .ref q171, .ref q179, .ref q188, .ref q197, .ref q206, .ref q215, .ref q223, .ref q231, .ref q239, .ref q248, .ref q256, .ref q265, .int 0, .int 0, .int 0, .ref q272, .ref q279, .ref q286, .ref q294, .ref q302, .ref q310, .ref q319, .int 0, .int 0, .int 0, .int 0, .int 0, .ref q327, .ref q335, .ref q343, .int 0, .int 0, .ref q351, .ref q359, .ref q367, .ref q375, .ref q383, .ref q391, .ref q399, .int 0, .int 0, .int 0, .ref q407, .int 0, .ref q415, .ref q424, .ref q432, .ref q440, .ref q448, .ref q456, .ref q464, .int 0, .ref q472, .ref q480, .ref q488, .ref q496, .ref q504, .ref q512, .ref q521])), (q7, .inl (cI, 10, .inl (fun _ => 0))), (q15, .inl (cI, 10, .inl (fun _ => 0))), (q23, .inl (cI, 10, .inl (fun _ => 0))), (q31, .inl (cI, 10, .inl (fun _ => 0))), (q39, .inl (cI, 10, .inl (fun _ => 0))), (q47, .inl (cI, 60, .inl (fun _ => 0))), (q55, .inl (cI, 60, .inl (fun _ => 0))), (q63, .inl (cI, 60, .inl (fun _ => 0))), (q71, .inl (cI, 60, .inl (fun _ => 0))), (q79, .inl (cI, 60, .inl (fun _ => 0))), (q87, .inl (cI, 60, .inl (fun _ => 0))), (q95, .inl (cI, 60, .inl (fun _ => 0))), (q103, .inl (cI, 60, .inl (fun _ => 0))), (q111, .inl (cI, 60, .inl (fun _ => 0))), (q120, .inl (cB, 200, .inl (fun _ => 0))), (q129, .inl (cI, 180, .inl (fun _ => 0))), (q138, .inl (cI, 180, .inl (fun _ => 0))), (q146, .inl (cI, 12, .inl (fun _ => 0))), (q154, .inl (cI, 12, .inl (fun _ => 0))), (q162, .inl (cI, 12, .inl (fun _ => 0))), (q171, .inl (cI, 1980, .inl (fun _ => 0))), (q179, .inl (cI, 11, .inl (fun _ => 0))), (q188, .inl (cI, 132, .inl (fun _ => 0))), (q197, .inl (cI, 132, .inl (fun _ => 0))), (q206, .inl (cI, 132, .inl (fun _ => 0))), (q215, .inl (cI, 180, .inl (fun _ => 0))), (q223, .inl (cI, 11, .inl (fun _ => 0))), (q231, .inl (cI, 58, .inl (fun _ => 0))), (q239, .inl (cI, 10, .inl (fun _ => 0))), (q248, .inl (cI, 400, .inl (fun _ => 0))), (q256, .inl (cI, 10, .inl (fun _ => 0))), (q265, .inl (cI, 2048, .inl (fun _ => 0))), (q272, .inl (cI, 3, .inl (fun _ => 0))), (q279, .inl (cI, 3, .inl (fun _ => 0))), (q286, .inl (cI, 3, .inl (fun _ => 0))), (q294, .inl (cI, 6, .inl (fun _ => 0))), (q302, .inl (cI, 6, .inl (fun _ => 0))), (q310, .inl (cI, 10, .inl (fun _ => 0))), (q319, .inl (cZ, 1200, .inl (fun _ => 0))), (q327, .inl (cI, 60, .inl (fun _ => 0))), (q335, .inl (cI, 60, .inl (fun _ => 0))), (q343, .inl (cI, 60, .inl (fun _ => 0))), (q351, .inl (cI, 10, .inl (fun _ => 0))), (q359, .inl (cI, 10, .inl (fun _ => 0))), (q367, .inl (cI, 40, .inl (fun _ => 0))), (q375, .inl (cI, 40, .inl (fun _ => 0))), (q383, .inl (cI, 40, .inl (fun _ => 0))), (q391, .inl (cI, 40, .inl (fun _ => 0))), (q399, .inl (cI, 40, .inl (fun _ => 0))), (q407, .inl (cI, 12, .inl (fun _ => 0))), (q415, .inl (cI, 10, .inl (fun _ => 0))), (q424, .inl (cI, 232, .inl (fun _ => 0))), (q432, .inl (cI, 10, .inl (fun _ => 0))), (q440, .inl (cI, 10, .inl (fun _ => 0))), (q448, .inl (cI, 120, .inl (fun _ => 0))), (q456, .inl (cI, 40, .inl (fun _ => 0))), (q464, .inl (cI, 40, .inl (fun _ => 0))), (q472, .inl (cI, 10, .inl (fun _ => 0))), (q480, .inl (cI, 10, .inl (fun _ => 0))), (q488, .inl (cI, 24, .inl (fun _ => 0))), (q496, .inl (cI, 10, .inl (fun _ => 0))), (q504, .inl (cI, 10, .inl (fun _ => 0))), (q512, .inl (cI, 10, .inl (fun _ => 0))), (q521, .inl (cI, 400, .inl (dgF (i + 1))))] H := hP
        have hD : va_D A [(x, .inr (13, [.int 0, .int 0, .int 0, .ref q7, .ref q15, .ref q23, .ref q31, .ref q39, .ref q47, .ref q55, .ref q63, .ref q71, .ref q79, .ref q87, .ref q95, .ref q103, .ref q111, .ref q120, .int 0, .int 0, .int 0, .int 0, .int 0, .int 0, .int 0, .int 0, .int 0, .ref q129, .ref q138, .ref q146, .ref q154, .ref q162, .ref q171, .ref q179, .ref q188, .ref q197, .ref q206, .ref q215, .ref q223, .ref q231, .ref q239, .ref q248, .ref q256, .ref q265, .int 0, .int 0, .int 0, .ref q272, .ref q279, .ref q286, .ref q294, .ref q302, .ref q310, .ref q319, .int 0, .int 0, .int 0, .int 0, .int 0, .ref q327, .ref q335, .ref q343, .int 0, .int 0, .ref q351, .ref q359, .ref q367, .ref q375, .ref q383, .ref q391, .ref q399, .int 0, .int 0, .int 0, .ref q407, .int 0, .ref q415, .ref q424, .ref q432, .ref q440, .ref q448, .ref q456, .ref q464, .int 0, .ref q472, .ref q480, .ref q488, .ref q496, .ref q504, .ref q512, .ref q521])), (q7, .inl (cI, 10, .inl (fun _ => 0))), (q15, .inl (cI, 10, .inl (fun _ => 0))), (q23, .inl (cI, 10, .inl (fun _ => 0))), (q31, .inl (cI, 10, .inl (fun _ => 0))), (q39, .inl (cI, 10, .inl (fun _ => 0))), (q47, .inl (cI, 60, .inl (fun _ => 0))), (q55, .inl (cI, 60, .inl (fun _ => 0))), (q63, .inl (cI, 60, .inl (fun _ => 0))), (q71, .inl (cI, 60, .inl (fun _ => 0))), (q79, .inl (cI, 60, .inl (fun _ => 0))), (q87, .inl (cI, 60, .inl (fun _ => 0))), (q95, .inl (cI, 60, .inl (fun _ => 0))), (q103, .inl (cI, 60, .inl (fun _ => 0))), (q111, .inl (cI, 60, .inl (fun _ => 0))), (q120, .inl (cB, 200, .inl (fun _ => 0))), (q129, .inl (cI, 180, .inl (fun _ => 0))), (q138, .inl (cI, 180, .inl (fun _ => 0))), (q146, .inl (cI, 12, .inl (fun _ => 0))), (q154, .inl (cI, 12, .inl (fun _ => 0))), (q162, .inl (cI, 12, .inl (fun _ => 0))), (q171, .inl (cI, 1980, .inl (fun _ => 0))), (q179, .inl (cI, 11, .inl (fun _ => 0))), (q188, .inl (cI, 132, .inl (fun _ => 0))), (q197, .inl (cI, 132, .inl (fun _ => 0))), (q206, .inl (cI, 132, .inl (fun _ => 0))), (q215, .inl (cI, 180, .inl (fun _ => 0))), (q223, .inl (cI, 11, .inl (fun _ => 0))), (q231, .inl (cI, 58, .inl (fun _ => 0))), (q239, .inl (cI, 10, .inl (fun _ => 0))), (q248, .inl (cI, 400, .inl (fun _ => 0))), (q256, .inl (cI, 10, .inl (fun _ => 0))), (q265, .inl (cI, 2048, .inl (fun _ => 0))), (q272, .inl (cI, 3, .inl (fun _ => 0))), (q279, .inl (cI, 3, .inl (fun _ => 0))), (q286, .inl (cI, 3, .inl (fun _ => 0))), (q294, .inl (cI, 6, .inl (fun _ => 0))), (q302, .inl (cI, 6, .inl (fun _ => 0))), (q310, .inl (cI, 10, .inl (fun _ => 0))), (q319, .inl (cZ, 1200, .inl (fun _ => 0))), (q327, .inl (cI, 60, .inl (fun _ => 0))), (q335, .inl (cI, 60, .inl (fun _ => 0))), (q343, .inl (cI, 60, .inl (fun _ => 0))), (q351, .inl (cI, 10, .inl (fun _ => 0))), (q359, .inl (cI, 10, .inl (fun _ => 0))), (q367, .inl (cI, 40, .inl (fun _ => 0))), (q375, .inl (cI, 40, .inl (fun _ => 0))), (q383, .inl (cI, 40, .inl (fun _ => 0))), (q391, .inl (cI, 40, .inl (fun _ => 0))), (q399, .inl (cI, 40, .inl (fun _ => 0))), (q407, .inl (cI, 12, .inl (fun _ => 0))), (q415, .inl (cI, 10, .inl (fun _ => 0))), (q424, .inl (cI, 232, .inl (fun _ => 0))), (q432, .inl (cI, 10, .inl (fun _ => 0))), (q440, .inl (cI, 10, .inl (fun _ => 0))), (q448, .inl (cI, 120, .inl (fun _ => 0))), (q456, .inl (cI, 40, .inl (fun _ => 0))), (q464, .inl (cI, 40, .inl (fun _ => 0))), (q472, .inl (cI, 10, .inl (fun _ => 0))), (q480, .inl (cI, 10, .inl (fun _ => 0))), (q488, .inl (cI, 24, .inl (fun _ => 0))), (q496, .inl (cI, 10, .inl (fun _ => 0))), (q504, .inl (cI, 10, .inl (fun _ => 0))), (q512, .inl (cI, 10, .inl (fun _ => 0))), (q521, .inl (cI, 400, .inl (dgF (i + 1))))] := hD
        refine lv_iinc (v := (nI (i + 1))) (lv' := [(1, .int (nI (i + 1))), (0, .ref x)]) hx hb dX12_init_543 hl (k := 0) rfl (nI_1 _) (by decide) rfl (fun ls hl => ?_)
        refine lv_goto (tgt := 528) hx hb dX12_init_546 (by decide) ?_
        exact ih (i + 1) (by omega) (by omega) _ _ hP hD hS ls (lv_sub hl [0, 1] rfl)
  exact lp_528 (400 + 1) 0 (by omega) (by omega) H locs hP hD hS ls (lv_sub hl [0, 1] rfl)
