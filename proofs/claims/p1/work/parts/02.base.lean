/-! THE STANDING FACTS AND THE CALLS, once: a contract here is a Met over the words '.code y b n ret :: wT'; its room is ⟨depth, cells, slots, 40 * depth⟩. -/
/-- the classes and array classes as the tables have them, and the three nest links: what lasts from state to state -/
def KK (D : va_G) (cI cB cZ : ClassId) (U : State) : Prop := va_K D vwCl [(cI, .int), (cB, .byte), (cZ, .boolean)] U ∧ va_Nw (.methodLinkNest "OilHome" 20 ⟨"OilHome$Tape", "<init>", "()V"⟩ "OilHome") U ∧ va_Nw (.methodLinkNest "OilHome" 53 ⟨"OilHome$Ways", "<init>", "()V"⟩ "OilHome") U ∧ va_Nw (.methodLinkNest "OilHome" 353 ⟨"OilHome$Batch", "<init>", "()V"⟩ "OilHome") U
theorem KK.warm {D : va_G} {cI cB cZ : ClassId} {s U : State} (hW : s.WarmedH U.vm) (h : KK D cI cB cZ s) : KK D cI cB cZ U := ⟨va_K.moved hW.alike h.1, h.2.1.warmM hW, h.2.2.1.warmM hW, h.2.2.2.warmM hW⟩
theorem KK.same {D : va_G} {cI cB cZ : ClassId} {u U : State} (hv : u.vm = U.vm) (h : KK D cI cB cZ u) : KK D cI cB cZ U := ⟨va_K.moved (hv ▸ Vm.Alike.refl u.vm) h.1, h.2.1.same rfl hv, h.2.2.1.same rfl hv, h.2.2.2.same rfl hv⟩
/-- a reading contract's start -/
def PBr (As : List Value) (D : va_G) (cI cB cZ : ClassId) (ws : va_W) : Array Value → State → Prop := va_Pc As (fun U => va_P D vwCl ws U.heap ∧ KK D cI cB cZ U)
theorem PBr_blind {As : List Value} {D : va_G} {cI cB cZ : ClassId} {ws : va_W} : FrameBlind (PBr As D cI cB cZ ws) := fun a U g mk q => ⟨q.1, q.2.1, KK.same (u := U) (U := U.calling g mk a) rfl q.2.2⟩
/-- a writing contract's start -/
def PBw (As : List Value) (D : va_G) (cI cB cZ : ClassId) (ws : va_W) (sz : Nat) : Array Value → State → Prop := va_Pc As (fun U => U.heap.size = sz ∧ va_P D vwCl ws U.heap ∧ KK D cI cB cZ U ∧ va_D (fun _ => True) ws)
theorem PBw_blind {As : List Value} {D : va_G} {cI cB cZ : ClassId} {ws : va_W} {sz : Nat} : FrameBlind (PBw As D cI cB cZ ws sz) := fun a U g mk q => ⟨q.1, q.2.1, q.2.2.1, KK.same (u := U) (U := U.calling g mk a) rfl q.2.2.2.1, q.2.2.2.2⟩
abbrev RM (d mc ms : Nat) : Room := { frames := d, cells := mc, slots := ms, locals := 40 * d }
abbrev CWS (y : MethodName) (b : ByteArray) (n : Nat) (ret : Option FieldType) : List Cond := Cond.code y b n ret :: wT
/-- the words of a call -/
def CalS (own : String) (idx : Nat) (y : MethodName) (b : ByteArray) (n : Nat) (ret : Option FieldType) (k : Nat) : Prop := (Cond.methodLink own idx y ∈ wT ∧ Cond.static y ∈ wT ∧ Cond.initialized y.cls ∈ wT ∧ Cond.code y b n ret ∈ wT) ∧ (y.cls ≠ "java/lang/invoke/MethodHandle" ∧ y.cls ≠ "java/lang/invoke/VarHandle" ∧ (parseMethodDescriptor y.desc).map (fun d => d.parameters.length) = some k)
def CalV (own : String) (idx : Nat) (y : MethodName) (b : ByteArray) (n : Nat) (ret : Option FieldType) (k : Nat) : Prop := (Cond.methodLink own idx y ∈ wT ∧ Cond.instanceMethod y ∈ wT ∧ Cond.selects y.cls y y ∈ wT ∧ Cond.initialized y.cls ∈ wT ∧ Cond.code y b n ret ∈ wT) ∧ (y.cls ≠ "java/lang/invoke/MethodHandle" ∧ y.cls ≠ "java/lang/invoke/VarHandle" ∧ (parseMethodDescriptor y.desc).map (fun d => d.parameters.length) = some k)
def CalI (own : String) (idx : Nat) (y : MethodName) (b : ByteArray) (n : Nat) (k : Nat) : Prop := (Cond.methodLink own idx y ∈ wT ∧ Cond.instanceMethod y ∈ wT ∧ Cond.initialized y.cls ∈ wT ∧ Cond.code y b n none ∈ wT) ∧ y.name = "<init>" ∧ (y.cls ≠ "java/lang/invoke/MethodHandle" ∧ y.cls ≠ "java/lang/invoke/VarHandle" ∧ (parseMethodDescriptor y.desc).map (fun d => d.parameters.length) = some k)
theorem CWS_good {y : MethodName} {b : ByteArray} {n : Nat} {ret : Option FieldType} (h : Cond.code y b n ret ∈ wT) : GoodIn wT (CWS y b n ret) := fun w hw => by
  rcases List.mem_cons.mp hw with rfl | hw
  · exact ⟨h, wT_good h⟩
  · exact ⟨hw, wT_good hw⟩
theorem CalS.good {own : String} {idx : Nat} {y : MethodName} {b : ByteArray} {n : Nat} {ret : Option FieldType} {k : Nat} (h : CalS own idx y b n ret k) : GoodIn wT (va_wsS own idx y (CWS y b n ret)) := fun w hw => by
  rcases List.mem_append.mp hw with hw | hw
  · simp only [List.mem_cons, List.not_mem_nil, or_false] at hw
    rcases hw with rfl | rfl | rfl
    · exact ⟨h.1.1, wT_good h.1.1⟩
    · exact ⟨h.1.2.1, wT_good h.1.2.1⟩
    · exact ⟨h.1.2.2.1, wT_good h.1.2.2.1⟩
  · exact CWS_good h.1.2.2.2 w hw
theorem CalV.good {own : String} {idx : Nat} {y : MethodName} {b : ByteArray} {n : Nat} {ret : Option FieldType} {k : Nat} (h : CalV own idx y b n ret k) : GoodIn wT (wsV own idx y.cls y (CWS y b n ret)) := fun w hw => by
  rcases List.mem_append.mp hw with hw | hw
  · simp only [List.mem_cons, List.not_mem_nil, or_false] at hw
    rcases hw with rfl | rfl | rfl | rfl
    · exact ⟨h.1.1, wT_good h.1.1⟩
    · exact ⟨h.1.2.1, wT_good h.1.2.1⟩
    · exact ⟨h.1.2.2.1, wT_good h.1.2.2.1⟩
    · exact ⟨h.1.2.2.2.1, wT_good h.1.2.2.2.1⟩
  · exact CWS_good h.1.2.2.2.2 w hw
section BASE
variable {p : Program} {l : Launch} {e : Env} {R : Room} {s : State} {m : MethodId} {args : Array Value} {below : List Frame} {meth : Method} {c : Code} {H : Heap} {locs : List Loc} {cells slots : Nat} {Q : State → Prop}
variable {cc b : ByteArray} {nL n idx k d mc ms pc sz : Nat} {own : String} {y : MethodName} {ret : Option FieldType} {As rest st : List Value} {ls : Array Slot} {D : va_G} {cI cB cZ : ClassId} {ws wc : va_W} {Qc : Array Value → State → Outcome → State → Prop} {a : Nat} {ci : Nat} {fs : List Value} {free : Addr → Prop}
/-- what a method's body stands on: its code, its class, the words -/
abbrev SF (p : Program) (m : MethodId) (c : Code) (cc : ByteArray) (nL : Nat) (s : State) (args : Array Value) (own : String) : Prop := CallFix p m c cc nL s args wT own
theorem runS_r (S : SF p m c cc nL s args own) (hM : Met l y (CWS y b n ret) (RM d 0 0) (PBr As D cI cB cZ wc) Qc 0 0 free) (cal : CalS own idx y b n ret k) (hK : KK D cI cB cZ s) (hP : va_P D vwCl ws H) (is : List Nat) (hs : is.filterMap (fun i => ws[i]?) = wc) (hR : d + 1 ≤ R.frames ∧ 8 + (n + 11) + 40 * d ≤ R.locals) (hf : cells + 0 ≤ R.cells ∧ slots + 0 ≤ R.slots) (hn : As.length = k) (hsize : ls.size = nL) (hst : st = As.reverse ++ rest) (hW : (rest.map fun v => v.category).sum ≤ 8) (hdg : decode cc pc = .ok (.invokestatic idx, 3)) :
    CallRun p l e R s m args below meth c H locs cells slots 0 0 (F0 m pc ls st) rest (Qc As.toArray) free :=
  W.runS S hM (va_cwS k S.2.2.2.2 cal.good rfl rfl rfl cal.2 hR) ⟨PBr_blind, fun U hU hW => ⟨rfl, by rw [hU]; exact hP.sub is hs, hK.warm hW⟩⟩ rfl hn hsize hst (lv_room hW) hdg hf
theorem runV_r (S : SF p m c cc nL s args own) (hM : Met l y (CWS y b n ret) (RM d 0 0) (PBr (.ref a :: As) D cI cB cZ wc) Qc 0 0 free) (cal : CalV own idx y b n ret k) (hK : KK D cI cB cZ s) (hP : va_P D vwCl ws H) (is : List Nat) (hs : is.filterMap (fun i => ws[i]?) = wc) (q0 : Nat) (he : ws[q0]? = some (a, .inr (ci, fs))) {q : vw_C} (hc : vwCl[ci]? = some q) (hqc : q.1 = y.cls) (hR : d + 1 ≤ R.frames ∧ 8 + (n + 11) + 40 * d ≤ R.locals) (hf : cells + 0 ≤ R.cells ∧ slots + 0 ≤ R.slots) (hn : As.length = k) (hsize : ls.size = nL) (hst : st = As.reverse ++ .ref a :: rest) (hW : (rest.map fun v => v.category).sum ≤ 8) (hdg : decode cc pc = .ok (.invokevirtual idx, 3)) :
    CallRun p l e R s m args below meth c H locs cells slots 0 0 (F0 m pc ls st) rest (Qc (.ref a :: As).toArray) free :=
  W.runV (C := y.cls) S hM (cwV k S.2.2.2.2 cal.good rfl rfl rfl ⟨rfl, cal.2⟩ hR) ⟨PBr_blind, (by have h := va_recv hK.1 hP hc he; rw [hqc] at h; exact h), fun U hU hW => ⟨rfl, by rw [hU]; exact hP.sub is hs, hK.warm hW⟩⟩ rfl hn hsize hst (lv_room hW) hdg hf
theorem runS_w (S : SF p m c cc nL s args own) (hM : Met l y (CWS y b n ret) (RM d mc ms) (PBw As D cI cB cZ wc H.size) Qc mc ms free) (cal : CalS own idx y b n ret k) (hK : KK D cI cB cZ s) (hP : va_P D vwCl ws H) {A : Nat → Prop} (hD : va_D A ws) (is : List Nat) (hs : is.filterMap (fun i => ws[i]?) = wc) (hs2 : is.map (fun i => ws[i]?) = wc.map some) (hnd : va_nd is = true) (hR : d + 1 ≤ R.frames ∧ 8 + (n + 11) + 40 * d ≤ R.locals) (hf : cells + mc ≤ R.cells ∧ slots + ms ≤ R.slots) (hn : As.length = k) (hsize : ls.size = nL) (hst : st = As.reverse ++ rest) (hW : (rest.map fun v => v.category).sum ≤ 8) (hdg : decode cc pc = .ok (.invokestatic idx, 3)) :
    va_Run p l e R s m args below meth c H locs cells slots mc ms (F0 m pc ls st) rest (Qc As.toArray) free :=
  va_runS S hM (va_cwS k S.2.2.2.2 cal.good rfl rfl rfl cal.2 hR) ⟨PBw_blind, fun U hU hW => ⟨rfl, by rw [hU], by rw [hU]; exact hP.sub is hs, hK.warm hW, (hD.sub is hnd hs2).weaken (fun _ _ _ _ => trivial)⟩⟩ rfl hn hsize hst (lv_room hW) hdg hf
theorem runV_w (S : SF p m c cc nL s args own) (hM : Met l y (CWS y b n ret) (RM d mc ms) (PBw (.ref a :: As) D cI cB cZ wc H.size) Qc mc ms free) (cal : CalV own idx y b n ret k) (hK : KK D cI cB cZ s) (hP : va_P D vwCl ws H) {A : Nat → Prop} (hD : va_D A ws) (is : List Nat) (hs : is.filterMap (fun i => ws[i]?) = wc) (hs2 : is.map (fun i => ws[i]?) = wc.map some) (hnd : va_nd is = true) (q0 : Nat) (he : ws[q0]? = some (a, .inr (ci, fs))) {q : vw_C} (hc : vwCl[ci]? = some q) (hqc : q.1 = y.cls) (hR : d + 1 ≤ R.frames ∧ 8 + (n + 11) + 40 * d ≤ R.locals) (hf : cells + mc ≤ R.cells ∧ slots + ms ≤ R.slots) (hn : As.length = k) (hsize : ls.size = nL) (hst : st = As.reverse ++ .ref a :: rest) (hW : (rest.map fun v => v.category).sum ≤ 8) (hdg : decode cc pc = .ok (.invokevirtual idx, 3)) :
    va_Run p l e R s m args below meth c H locs cells slots mc ms (F0 m pc ls st) rest (Qc (.ref a :: As).toArray) free :=
  va_runV (C := y.cls) S hM (cwV k S.2.2.2.2 cal.good rfl rfl rfl ⟨rfl, cal.2⟩ hR) ⟨PBw_blind, (by have h := va_recv hK.1 hP hc he; rw [hqc] at h; exact h), fun U hU hW => ⟨rfl, by rw [hU], by rw [hU]; exact hP.sub is hs, hK.warm hW, (hD.sub is hnd hs2).weaken (fun _ _ _ _ => trivial)⟩⟩ rfl hn hsize hst (lv_room hW) hdg hf
theorem runI_w (S : SF p m c cc nL s args own) (hM : Met l y (CWS y b n none) (RM d mc ms) (PBw (.ref a :: As) D cI cB cZ wc H.size) Qc mc ms free) (cal : CalI own idx y b n k) (hK : KK D cI cB cZ s) (hP : va_P D vwCl ws H) {A : Nat → Prop} (hD : va_D A ws) (is : List Nat) (hs : is.filterMap (fun i => ws[i]?) = wc) (hs2 : is.map (fun i => ws[i]?) = wc.map some) (hnd : va_nd is = true) (hR : d + 1 ≤ R.frames ∧ 8 + (n + 11) + 40 * d ≤ R.locals) (hf : cells + mc ≤ R.cells ∧ slots + ms ≤ R.slots) (hn : As.length = k) (hsize : ls.size = nL) (hst : st = As.reverse ++ .ref a :: rest) (hW : (rest.map fun v => v.category).sum ≤ 8) (hdg : decode cc pc = .ok (.invokespecial idx, 3)) :
    va_Run p l e R s m args below meth c H locs cells slots mc ms (F0 m pc ls st) rest (Qc (.ref a :: As).toArray) free :=
  va_runI S hM (cwI k S.2.2.2.2 (CWS_good cal.1.2.2.2) rfl rfl rfl (S.2.2.2.2 _ cal.1.2.2.1) (S.2.2.2.2 _ cal.1.1) (S.2.2.2.2 _ cal.1.2.1) cal.2.1 cal.2.2 hR) ⟨PBw_blind, fun U hU hW => ⟨rfl, by rw [hU], by rw [hU]; exact hP.sub is hs, hK.warm hW, (hD.sub is hnd hs2).weaken (fun _ _ _ _ => trivial)⟩⟩ rfl hn hsize hst (lv_room hW) hdg hf
/-- a private constructor of a nest mate -/
theorem runIN_w {host : String} (S : SF p m c cc nL s args own) (hM : Met l y (CWS y b n none) (RM d mc ms) (PBw (.ref a :: As) D cI cB cZ wc H.size) Qc mc ms free) (hnest : va_Nw (.methodLinkNest own idx y host) s) (cal : (Cond.instanceMethod y ∈ wT ∧ Cond.initialized y.cls ∈ wT ∧ Cond.code y b n none ∈ wT) ∧ y.name = "<init>" ∧ (y.cls ≠ "java/lang/invoke/MethodHandle" ∧ y.cls ≠ "java/lang/invoke/VarHandle" ∧ (parseMethodDescriptor y.desc).map (fun d => d.parameters.length) = some k)) (hK : KK D cI cB cZ s) (hP : va_P D vwCl ws H) {A : Nat → Prop} (hD : va_D A ws) (is : List Nat) (hs : is.filterMap (fun i => ws[i]?) = wc) (hs2 : is.map (fun i => ws[i]?) = wc.map some) (hnd : va_nd is = true) (hR : d + 1 ≤ R.frames ∧ 8 + (n + 11) + 40 * d ≤ R.locals) (hf : cells + mc ≤ R.cells ∧ slots + ms ≤ R.slots) (hn : As.length = k) (hsize : ls.size = nL) (hst : st = As.reverse ++ .ref a :: rest) (hW : (rest.map fun v => v.category).sum ≤ 8) (hdg : decode cc pc = .ok (.invokespecial idx, 3)) :
    va_Run p l e R s m args below meth c H locs cells slots mc ms (F0 m pc ls st) rest (Qc (.ref a :: As).toArray) free :=
  va_runIN S hM ⟨va_cnB k S.2.2.2.2 (CWS_good cal.1.2.2) rfl rfl rfl hnest (S.2.2.2.2 _ cal.1.2.1) cal.2.2 hR, cal.2.1, S.2.2.2.2 _ cal.1.1⟩ ⟨PBw_blind, fun U hU hW => ⟨rfl, by rw [hU], by rw [hU]; exact hP.sub is hs, hK.warm hW, (hD.sub is hnd hs2).weaken (fun _ _ _ _ => trivial)⟩⟩ rfl hn hsize hst (lv_room hW) hdg hf
end BASE
