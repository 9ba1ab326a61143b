/-! THE STANDING FACTS AND THE CALLS, once: a contract here is a Met over the words '.code y b n ret :: wT'; its room is ⟨depth, cells, slots, 40 * depth⟩. -/
/-- the classes and array classes as the tables have them, and the three nest links: what lasts from state to state -/
def KK (D : va_G) (cI cB cZ : ClassId) (U : State) : Prop := va_K D vwCl [(cI, .int), (cB, .byte), (cZ, .boolean)] U ∧ va_Nw (.methodLinkNest "OilHome" 20 ⟨"OilHome$Tape", "<init>", "()V"⟩ "OilHome") U ∧ va_Nw (.methodLinkNest "OilHome" 53 ⟨"OilHome$Ways", "<init>", "()V"⟩ "OilHome") U ∧ va_Nw (.methodLinkNest "OilHome" 353 ⟨"OilHome$Batch", "<init>", "()V"⟩ "OilHome") U
theorem KK.warm {D : va_G} {cI cB cZ : ClassId} {s U : State} (hW : s.WarmedH U.vm) (h : KK D cI cB cZ s) : KK D cI cB cZ U := ⟨va_K.moved hW.alike h.1, h.2.1.warmM hW, h.2.2.1.warmM hW, h.2.2.2.warmM hW⟩
theorem KK.same {D : va_G} {cI cB cZ : ClassId} {u U : State} (hv : u.vm = U.vm) (h : KK D cI cB cZ u) : KK D cI cB cZ U := ⟨va_K.moved (hv ▸ Vm.Alike.refl u.vm) h.1, h.2.1.same rfl hv, h.2.2.1.same rfl hv, h.2.2.2.same rfl hv⟩
/-- a reading contract's start -/
def PBr (As : List Value) (D : va_G) (cI cB cZ : ClassId) (ws : va_W) : Array Value → State → Prop := va_Pc As (fun U => va_P D vwCl ws U.heap ∧ KK D cI cB cZ U)
theorem PBr_blind {As : List Value} {D : va_G} {cI cB cZ : ClassId} {ws : va_W} : FrameBlind (PBr As D cI cB cZ ws) := fun a U g mk q => ⟨q.1, q.2.1, KK.same (u := U) (U := U.calling g mk a) rfl q.2.2⟩
/-- a writing contract's start -/
def PBw (As : List Value) (D : va_G) (cI cB cZ : ClassId) (ws : va_W) (sz : Nat) : Array Value → State → Prop := va_Pc As (fun U => U.heap.size = sz ∧ va_P D vwCl ws U.heap ∧ KK D cI cB cZ U ∧ va_D (fun _ => True) ws)
theorem PBw_blind {As : List Value} {D : va_G} {cI cB cZ : ClassId} {ws : va_W} {sz : Nat} : FrameBlind (PBw As D cI cB cZ ws sz) := fun a U g mk q => ⟨q.1, q.2.1, q.2.2.1, KK.same (u := U) (U := U.calling g mk a) rfl q.2.2.2.1, q.2.2.2.2⟩
abbrev RM (d mc ms : Nat) : Room := { frames := d, cells := mc, slots := ms, locals := 40 * d }
abbrev CWS (y : MethodName) (b : ByteArray) (n : Nat) (ret : Option FieldType) : List Cond := Cond.code y b n ret :: wT
/-- the words of a call -/
def CalS (own : String) (idx : Nat) (y : MethodName) (b : ByteArray) (n : Nat) (ret : Option FieldType) (k : Nat) : Prop := (Cond.methodLink own idx y ∈ wT ∧ Cond.static y ∈ wT ∧ Cond.initialized y.cls ∈ wT ∧ Cond.code y b n ret ∈ wT) ∧ (y.cls ≠ "java/lang/invoke/MethodHandle" ∧ y.cls ≠ "java/lang/invoke/VarHandle" ∧ (parseMethodDescriptor y.desc).map (fun d => d.parameters.length) = some k)
def CalV (own : String) (idx : Nat) (y : MethodName) (b : ByteArray) (n : Nat) (ret : Option FieldType) (k : Nat) : Prop := (Cond.methodLink own idx y ∈ wT ∧ Cond.instanceMethod y ∈ wT ∧ Cond.selects y.cls y y ∈ wT ∧ Cond.initialized y.cls ∈ wT ∧ Cond.code y b n ret ∈ wT) ∧ (y.cls ≠ "java/lang/invoke/MethodHandle" ∧ y.cls ≠ "java/lang/invoke/VarHandle" ∧ (parseMethodDescriptor y.desc).map (fun d => d.parameters.length) = some k)
def CalI (own : String) (idx : Nat) (y : MethodName) (b : ByteArray) (n : Nat) (k : Nat) : Prop := (Cond.methodLink own idx y ∈ wT ∧ Cond.instanceMethod y ∈ wT ∧ Cond.initialized y.cls ∈ wT ∧ Cond.code y b n none ∈ wT) ∧ y.name = "<init>" ∧ (y.cls ≠ "java/lang/invoke/MethodHandle" ∧ y.cls ≠ "java/lang/invoke/VarHandle" ∧ (parseMethodDescriptor y.desc).map (fun d => d.parameters.length) = some k)
theorem CWS_good {y : MethodName} {b : ByteArray} {n : Nat} {ret : Option FieldType} (h : Cond.code y b n ret ∈ wT) : GoodIn wT (CWS y b n ret) := fun w hw => by
  rcases List.mem_cons.mp hw with rfl | hw
  · exact ⟨h, wT_good h⟩
  · exact ⟨hw, wT_good hw⟩
theorem CalS.good {own : String} {idx : Nat} {y : MethodName} {b : ByteArray} {n : Nat} {ret : Option FieldType} {k : Nat} (h : CalS own idx y b n ret k) : GoodIn wT (va_wsS own idx y (CWS y b n ret)) := fun w hw => by
  rcases List.mem_append.mp hw with hw | hw
  · simp only [List.mem_cons, List.not_mem_nil, or_false] at hw
    rcases hw with rfl | rfl | rfl
    · exact ⟨h.1.1, wT_good h.1.1⟩
    · exact ⟨h.1.2.1, wT_good h.1.2.1⟩
    · exact ⟨h.1.2.2.1, wT_good h.1.2.2.1⟩
  · exact CWS_good h.1.2.2.2 w hw
theorem CalV.good {own : String} {idx : Nat} {y : MethodName} {b : ByteArray} {n : Nat} {ret : Option FieldType} {k : Nat} (h : CalV own idx y b n ret k) : GoodIn wT (wsV own idx y.cls y (CWS y b n ret)) := fun w hw => by
  rcases List.mem_append.mp hw with hw | hw
  · simp only [List.mem_cons, List.not_mem_nil, or_false] at hw
    rcases hw with rfl | rfl | rfl | rfl
    · exact ⟨h.1.1, wT_good h.1.1⟩
    · exact ⟨h.1.2.1, wT_good h.1.2.1⟩
    · exact ⟨h.1.2.2.1, wT_good h.1.2.2.1⟩
    · exact ⟨h.1.2.2.2.1, wT_good h.1.2.2.2.1⟩
  · exact CWS_good h.1.2.2.2.2 w hw
section BASE
variable {p : Program} {l : Launch} {e : Env} {R : Room} {s : State} {m : MethodId} {args : Array Value} {below : List Frame} {meth : Method} {c : Code} {H : Heap} {locs : List Loc} {cells slots : Nat} {Q : State → Prop}
variable {cc b : ByteArray} {nL n idx k d mc ms pc sz : Nat} {own : String} {y : MethodName} {ret : Option FieldType} {As rest st : List Value} {ls : Array Slot} {D : va_G} {cI cB cZ : ClassId} {ws wc : va_W} {Qc : Array Value → State → Outcome → State → Prop} {a : Nat} {ci : Nat} {fs : List Value} {free : Addr → Prop}
/-- what a method's body stands on: its code, its class, the words -/
abbrev SF (p : Program) (m : MethodId) (c : Code) (cc : ByteArray) (nL : Nat) (s : State) (args : Array Value) (own : String) : Prop := CallFix p m c cc nL s args wT own
theorem runS_r (S : SF p m c cc nL s args own) (hM : Met l y (CWS y b n ret) (RM d 0 0) (PBr As D cI cB cZ wc) Qc 0 0 free) (cal : CalS own idx y b n ret k) (hK : KK D cI cB cZ s) (hP : va_P D vwCl ws H) (is : List Nat) (hs : is.filterMap (fun i => ws[i]?) = wc) (hR : d + 1 ≤ R.frames ∧ 8 + (n + 11) + 40 * d ≤ R.locals) (hf : cells + 0 ≤ R.cells ∧ slots + 0 ≤ R.slots) (hn : As.length = k) (hsize : ls.size = nL) (hst : st = As.reverse ++ rest) (hW : (rest.map fun v => v.category).sum ≤ 8) (hdg : decode cc pc = .ok (.invokestatic idx, 3)) :
    CallRun p l e R s m args below meth c H locs cells slots 0 0 (F0 m pc ls st) rest (Qc As.toArray) free :=
  W.runS S hM (va_cwS k S.2.2.2.2 cal.good rfl rfl rfl cal.2 hR) ⟨PBr_blind, fun U hU hW => ⟨rfl, by rw [hU]; exact hP.sub is hs, hK.warm hW⟩⟩ rfl hn hsize hst (lv_room hW) hdg hf
theorem runV_r (S : SF p m c cc nL s args own) (hM : Met l y (CWS y b n ret) (RM d 0 0) (PBr (.ref a :: As) D cI cB cZ wc) Qc 0 0 free) (cal : CalV own idx y b n ret k) (hK : KK D cI cB cZ s) (hP : va_P D vwCl ws H) (is : List Nat) (hs : is.filterMap (fun i => ws[i]?) = wc) (q0 : Nat) (he : ws[q0]? = some (a, .inr (ci, fs))) {q : vw_C} (hc : vwCl[ci]? = some q) (hqc : q.1 = y.cls) (hR : d + 1 ≤ R.frames ∧ 8 + (n + 11) + 40 * d ≤ R.locals) (hf : cells + 0 ≤ R.cells ∧ slots + 0 ≤ R.slots) (hn : As.length = k) (hsize : ls.size = nL) (hst : st = As.reverse ++ .ref a :: rest) (hW : (rest.map fun v => v.category).sum ≤ 8) (hdg : decode cc pc = .ok (.invokevirtual idx, 3)) :
    CallRun p l e R s m args below meth c H locs cells slots 0 0 (F0 m pc ls st) rest (Qc (.ref a :: As).toArray) free :=
  W.runV (C := y.cls) S hM (cwV k S.2.2.2.2 cal.good rfl rfl rfl ⟨rfl, cal.2⟩ hR) ⟨PBr_blind, (by have h := va_recv hK.1 hP hc he; rw [hqc] at h; exact h), fun U hU hW => ⟨rfl, by rw [hU]; exact hP.sub is hs, hK.warm hW⟩⟩ rfl hn hsize hst (lv_room hW) hdg hf
theorem runS_w (S : SF p m c cc nL s args own) (hM : Met l y (CWS y b n ret) (RM d mc ms) (PBw As D cI cB cZ wc H.size) Qc mc ms free) (cal : CalS own idx y b n ret k) (hK : KK D cI cB cZ s) (hP : va_P D vwCl ws H) {A : Nat → Prop} (hD : va_D A ws) (is : List Nat) (hs : is.filterMap (fun i => ws[i]?) = wc) (hs2 : is.map (fun i => ws[i]?) = wc.map some) (hnd : va_nd is = true) (hR : d + 1 ≤ R.frames ∧ 8 + (n + 11) + 40 * d ≤ R.locals) (hf : cells + mc ≤ R.cells ∧ slots + ms ≤ R.slots) (hn : As.length = k) (hsize : ls.size = nL) (hst : st = As.reverse ++ rest) (hW : (rest.map fun v => v.category).sum ≤ 8) (hdg : decode cc pc = .ok (.invokestatic idx, 3)) :
    va_Run p l e R s m args below meth c H locs cells slots mc ms (F0 m pc ls st) rest (Qc As.toArray) free :=
  va_runS S hM (va_cwS k S.2.2.2.2 cal.good rfl rfl rfl cal.2 hR) ⟨PBw_blind, fun U hU hW => ⟨rfl, by rw [hU], by rw [hU]; exact hP.sub is hs, hK.warm hW, (hD.sub is hnd hs2).weaken (fun _ _ _ _ => trivial)⟩⟩ rfl hn hsize hst (lv_room hW) hdg hf
theorem runI_w (S : SF p m c cc nL s args own) (hM : Met l y (CWS y b n none) (RM d mc ms) (PBw (.ref a :: As) D cI cB cZ wc H.size) Qc mc ms free) (cal : CalI own idx y b n k) (hK : KK D cI cB cZ s) (hP : va_P D vwCl ws H) {A : Nat → Prop} (hD : va_D A ws) (is : List Nat) (hs : is.filterMap (fun i => ws[i]?) = wc) (hs2 : is.map (fun i => ws[i]?) = wc.map some) (hnd : va_nd is = true) (hR : d + 1 ≤ R.frames ∧ 8 + (n + 11) + 40 * d ≤ R.locals) (hf : cells + mc ≤ R.cells ∧ slots + ms ≤ R.slots) (hn : As.length = k) (hsize : ls.size = nL) (hst : st = As.reverse ++ .ref a :: rest) (hW : (rest.map fun v => v.category).sum ≤ 8) (hdg : decode cc pc = .ok (.invokespecial idx, 3)) :
    va_Run p l e R s m args below meth c H locs cells slots mc ms (F0 m pc ls st) rest (Qc (.ref a :: As).toArray) free :=
  va_runI S hM (cwI k S.2.2.2.2 (CWS_good cal.1.2.2.2) rfl rfl rfl (S.2.2.2.2 _ cal.1.2.2.1) (S.2.2.2.2 _ cal.1.1) (S.2.2.2.2 _ cal.1.2.1) cal.2.1 cal.2.2 hR) ⟨PBw_blind, fun U hU hW => ⟨rfl, by rw [hU], by rw [hU]; exact hP.sub is hs, hK.warm hW, (hD.sub is hnd hs2).weaken (fun _ _ _ _ => trivial)⟩⟩ rfl hn hsize hst (lv_room hW) hdg hf
/-- a private constructor of a nest mate -/
theorem runIN_w {host : String} (S : SF p m c cc nL s args own) (hM : Met l y (CWS y b n none) (RM d mc ms) (PBw (.ref a :: As) D cI cB cZ wc H.size) Qc mc ms free) (hnest : va_Nw (.methodLinkNest own idx y host) s) (cal : (Cond.instanceMethod y ∈ wT ∧ Cond.initialized y.cls ∈ wT ∧ Cond.code y b n none ∈ wT) ∧ y.name = "<init>" ∧ (y.cls ≠ "java/lang/invoke/MethodHandle" ∧ y.cls ≠ "java/lang/invoke/VarHandle" ∧ (parseMethodDescriptor y.desc).map (fun d => d.parameters.length) = some k)) (hK : KK D cI cB cZ s) (hP : va_P D vwCl ws H) {A : Nat → Prop} (hD : va_D A ws) (is : List Nat) (hs : is.filterMap (fun i => ws[i]?) = wc) (hs2 : is.map (fun i => ws[i]?) = wc.map some) (hnd : va_nd is = true) (hR : d + 1 ≤ R.frames ∧ 8 + (n + 11) + 40 * d ≤ R.locals) (hf : cells + mc ≤ R.cells ∧ slots + ms ≤ R.slots) (hn : As.length = k) (hsize : ls.size = nL) (hst : st = As.reverse ++ .ref a :: rest) (hW : (rest.map fun v => v.category).sum ≤ 8) (hdg : decode cc pc = .ok (.invokespecial idx, 3)) :
    va_Run p l e R s m args below meth c H locs cells slots mc ms (F0 m pc ls st) rest (Qc (.ref a :: As).toArray) free :=
  va_runIN S hM ⟨va_cnB k S.2.2.2.2 (CWS_good cal.1.2.2) rfl rfl rfl hnest (S.2.2.2.2 _ cal.1.2.1) cal.2.2 hR, cal.2.1, S.2.2.2.2 _ cal.1.1⟩ ⟨PBw_blind, fun U hU hW => ⟨rfl, by rw [hU], by rw [hU]; exact hP.sub is hs, hK.warm hW, (hD.sub is hnd hs2).weaken (fun _ _ _ _ => trivial)⟩⟩ rfl hn hsize hst (lv_room hW) hdg hf
end BASE
/-! THE JDK'S STATICS AND THE ONE STRING CONSTANT, as a start that goes from call to call -/
def XS (D : va_G) (z q v : Nat) (bt : Nat → Int32) (A : Nat → Prop) (U : State) (H : Heap) : Prop :=
  va_Z "java/lang/String" "COMPACT_STRINGS" "Z" (.int 1) A U H ∧ va_Z "java/util/ArrayList" "DEFAULTCAPACITY_EMPTY_ELEMENTDATA" "[Ljava/lang/Object;" (.ref z) A U H ∧ va_T (.object "java/lang/Object") z 0 (fun _ => .null) A U H ∧ va_O "java/lang/String" q A U H ∧ va_OF "java/lang/String" "coder" "B" (.int 0) q A U H ∧ va_OF "java/lang/String" "value" "[B" (.ref v) q A U H ∧ va_T .byte v 11 (fun j => .int (bt j)) A U H ∧ (vk_R "OilHome" 32 "qfadwgkmson" q U ∧ vk_R "OilHome$Reader" 98 "qfadwgkmson" q U) ∧ va_K D vwCl [(D.1 99, .object "java/lang/Object")] U ∧ va_AO "java/lang/Object" U ∧ va_Nw (.castable "OilHome$Kitchen" "java/lang/Object") U ∧ va_Nw (.castable "OilHome$Sewer" "java/lang/Object") U ∧ (va_Nw (.castable "OilHome$Load" "java/lang/Object") U ∧ va_Nw (.castable "OilHome$Batch" "java/lang/Object") U ∧ va_Nw (.castable "OilHome$Proof" "java/lang/Object") U ∧ va_Nw (.castable "OilHome$Move" "java/lang/Object") U) ∧ va_Dc U ∧ ∃ mi : Nat, va_Mi "[Ljava/lang/Object;" mi U
theorem XS.call {D : va_G} {z q v : Nat} {bt : Nat → Int32} {A B : Nat → Prop} {s U : State} {H : Heap} {locs : List Loc} (h : XS D z q v bt A s s.heap) (hS : va_S A s.heap H locs) (hF : ∀ x, B x → A x) (hW : s.WarmedH U.vm) : XS D z q v bt B U H := by
  obtain ⟨h1, h2, h3, h4, h5, h6, h7, h8, h9, h10, h11, h12, ⟨h13, h14, h15, h16⟩, h17, mi, h18⟩ := h
  have k : ∀ a : Nat, a < s.heap.size → ¬ A a → H[a]? = s.heap[a]? := hS.2.1
  exact ⟨((h1.kept k).narrow hF).moved hW.alike, ((h2.kept k).narrow hF).moved hW.alike, ((h3.kept k).narrow hF).moved hW.alike, ((h4.kept k).narrow hF).moved hW.alike, ((h5.kept k).narrow hF).moved hW.alike, ((h6.kept k).narrow hF).moved hW.alike, ((h7.kept k).narrow hF).moved hW.alike, ⟨h8.1.warm hW, h8.2.warm hW⟩, va_K.moved hW.alike h9, h10.moved hW.alike, h11.warmC hW, h12.warmC hW, ⟨h13.warmC hW, h14.warmC hW, h15.warmC hW, h16.warmC hW⟩, h17.moved hW.alike, mi, h18.moved hW.alike⟩
theorem XS.same {D : va_G} {z q v : Nat} {bt : Nat → Int32} {A : Nat → Prop} {u U : State} {H : Heap} (hv : U.vm = u.vm) (h : XS D z q v bt A u H) : XS D z q v bt A U H := by
  obtain ⟨h1, h2, h3, h4, h5, h6, h7, h8, h9, h10, h11, h12, ⟨h13, h14, h15, h16⟩, h17, mi, h18⟩ := h
  have al : u.vm.Alike U.vm := hv ▸ Vm.Alike.refl u.vm
  exact ⟨h1.moved al, h2.moved al, h3.moved al, h4.moved al, h5.moved al, h6.moved al, h7.moved al, ⟨h8.1.same hv, h8.2.same hv⟩, va_K.moved al h9, h10.moved al, h11.same rfl hv.symm, h12.same rfl hv.symm, ⟨h13.same rfl hv.symm, h14.same rfl hv.symm, h15.same rfl hv.symm, h16.same rfl hv.symm⟩, h17.moved al, mi, h18.moved al⟩
def PBx (As : List Value) (D : va_G) (cI cB cZ : ClassId) (z q v : Nat) (bt : Nat → Int32) (ws : va_W) (sz : Nat) : Array Value → State → Prop := va_Pc As (fun U => U.heap.size = sz ∧ va_P D vwCl ws U.heap ∧ KK D cI cB cZ U ∧ va_D (fun _ => True) ws ∧ XS D z q v bt (va_A ws sz) U U.heap)
theorem PBx_blind {As : List Value} {D : va_G} {cI cB cZ : ClassId} {z q v : Nat} {bt : Nat → Int32} {ws : va_W} {sz : Nat} : FrameBlind (PBx As D cI cB cZ z q v bt ws sz) := fun a U g mk q => ⟨q.1, q.2.1, q.2.2.1, KK.same (u := U) (U := U.calling g mk a) rfl q.2.2.2.1, q.2.2.2.2.1, XS.same (u := U) (U := U.calling g mk a) rfl q.2.2.2.2.2⟩
def PBrx (As : List Value) (D : va_G) (cI cB cZ : ClassId) (z q v : Nat) (bt : Nat → Int32) (ws : va_W) : Array Value → State → Prop := va_Pc As (fun U => va_P D vwCl ws U.heap ∧ KK D cI cB cZ U ∧ XS D z q v bt (fun _ => False) U U.heap)
theorem PBrx_blind {As : List Value} {D : va_G} {cI cB cZ : ClassId} {z q v : Nat} {bt : Nat → Int32} {ws : va_W} : FrameBlind (PBrx As D cI cB cZ z q v bt ws) := fun a U g mk q => ⟨q.1, q.2.1, KK.same (u := U) (U := U.calling g mk a) rfl q.2.2.1, XS.same (u := U) (U := U.calling g mk a) rfl q.2.2.2⟩
section STATICS
variable {p : Program} {l : Launch} {e : Env} {R : Room} {s : State} {m : MethodId} {args : Array Value} {below : List Frame} {meth : Method} {c : Code} {H : Heap} {locs : List Loc} {cells slots : Nat} {Q : State → Prop}
variable {cc b : ByteArray} {nL n idx k d mc ms pc sz : Nat} {own : String} {y : MethodName} {ret : Option FieldType} {As rest st : List Value} {ls : Array Slot} {D : va_G} {cI cB cZ : ClassId} {ws wc : va_W} {Qc : Array Value → State → Outcome → State → Prop} {a : Nat} {ci : Nat} {fs : List Value} {free : Addr → Prop} {z q v : Nat} {bt : Nat → Int32} {A : Nat → Prop}
theorem runS_rx (S : SF p m c cc nL s args own) (hM : Met l y (CWS y b n ret) (RM d 0 0) (PBrx As D cI cB cZ z q v bt wc) Qc 0 0 free) (cal : CalS own idx y b n ret k) (hK : KK D cI cB cZ s) (hXS : XS D z q v bt A s s.heap) (hS : va_S A s.heap H locs) (hP : va_P D vwCl ws H) (is : List Nat) (hs : is.filterMap (fun i => ws[i]?) = wc) (hR : d + 1 ≤ R.frames ∧ 8 + (n + 11) + 40 * d ≤ R.locals) (hf : cells + 0 ≤ R.cells ∧ slots + 0 ≤ R.slots) (hn : As.length = k) (hsize : ls.size = nL) (hst : st = As.reverse ++ rest) (hW : (rest.map fun v => v.category).sum ≤ 8) (hdg : decode cc pc = .ok (.invokestatic idx, 3)) :
    CallRun p l e R s m args below meth c H locs cells slots 0 0 (F0 m pc ls st) rest (Qc As.toArray) free :=
  W.runS S hM (va_cwS k S.2.2.2.2 cal.good rfl rfl rfl cal.2 hR) ⟨PBrx_blind, fun U hU hW => ⟨rfl, by rw [hU]; exact hP.sub is hs, hK.warm hW, by rw [hU]; exact hXS.call hS (fun _ h => h.elim) hW⟩⟩ rfl hn hsize hst (lv_room hW) hdg hf
theorem runV_rx (S : SF p m c cc nL s args own) (hM : Met l y (CWS y b n ret) (RM d 0 0) (PBrx (.ref a :: As) D cI cB cZ z q v bt wc) Qc 0 0 free) (cal : CalV own idx y b n ret k) (hK : KK D cI cB cZ s) (hXS : XS D z q v bt A s s.heap) (hS : va_S A s.heap H locs) (hP : va_P D vwCl ws H) (is : List Nat) (hs : is.filterMap (fun i => ws[i]?) = wc) (hrec : ∃ cell : Cell, H[a]? = some cell ∧ cell.vm.isStatics = false ∧ s.vm.findClass y.cls = some cell.cls) (hR : d + 1 ≤ R.frames ∧ 8 + (n + 11) + 40 * d ≤ R.locals) (hf : cells + 0 ≤ R.cells ∧ slots + 0 ≤ R.slots) (hn : As.length = k) (hsize : ls.size = nL) (hst : st = As.reverse ++ .ref a :: rest) (hW : (rest.map fun v => v.category).sum ≤ 8) (hdg : decode cc pc = .ok (.invokevirtual idx, 3)) :
    CallRun p l e R s m args below meth c H locs cells slots 0 0 (F0 m pc ls st) rest (Qc (.ref a :: As).toArray) free :=
  W.runV (C := y.cls) S hM (cwV k S.2.2.2.2 cal.good rfl rfl rfl ⟨rfl, cal.2⟩ hR) ⟨PBrx_blind, hrec, fun U hU hW => ⟨rfl, by rw [hU]; exact hP.sub is hs, hK.warm hW, by rw [hU]; exact hXS.call hS (fun _ h => h.elim) hW⟩⟩ rfl hn hsize hst (lv_room hW) hdg hf
theorem runV_x (S : SF p m c cc nL s args own) (hM : Met l y (CWS y b n ret) (RM d mc ms) (PBx (.ref a :: As) D cI cB cZ z q v bt wc H.size) Qc mc ms free) (cal : CalV own idx y b n ret k) (hK : KK D cI cB cZ s) (hXS : XS D z q v bt A s s.heap) (hS : va_S A s.heap H locs) (hF : ∀ x, va_A wc H.size x → A x) (hP : va_P D vwCl ws H) (hD : va_D A ws) (is : List Nat) (hs : is.filterMap (fun i => ws[i]?) = wc) (hs2 : is.map (fun i => ws[i]?) = wc.map some) (hnd : va_nd is = true) (q0 : Nat) (he : ws[q0]? = some (a, .inr (ci, fs))) {qc : vw_C} (hc : vwCl[ci]? = some qc) (hqc : qc.1 = y.cls) (hR : d + 1 ≤ R.frames ∧ 8 + (n + 11) + 40 * d ≤ R.locals) (hf : cells + mc ≤ R.cells ∧ slots + ms ≤ R.slots) (hn : As.length = k) (hsize : ls.size = nL) (hst : st = As.reverse ++ .ref a :: rest) (hW : (rest.map fun v => v.category).sum ≤ 8) (hdg : decode cc pc = .ok (.invokevirtual idx, 3)) :
    va_Run p l e R s m args below meth c H locs cells slots mc ms (F0 m pc ls st) rest (Qc (.ref a :: As).toArray) free :=
  va_runV (C := y.cls) S hM (cwV k S.2.2.2.2 cal.good rfl rfl rfl ⟨rfl, cal.2⟩ hR) ⟨PBx_blind, (by have h := va_recv hK.1 hP hc he; rw [hqc] at h; exact h), fun U hU hW => ⟨rfl, by rw [hU], by rw [hU]; exact hP.sub is hs, hK.warm hW, (hD.sub is hnd hs2).weaken (fun _ _ _ _ => trivial), by rw [hU]; exact hXS.call hS hF hW⟩⟩ rfl hn hsize hst (lv_room hW) hdg hf
theorem runI_x (S : SF p m c cc nL s args own) (hM : Met l y (CWS y b n none) (RM d mc ms) (PBx (.ref a :: As) D cI cB cZ z q v bt wc H.size) Qc mc ms free) (cal : CalI own idx y b n k) (hK : KK D cI cB cZ s) (hXS : XS D z q v bt A s s.heap) (hS : va_S A s.heap H locs) (hF : ∀ x, va_A wc H.size x → A x) (hP : va_P D vwCl ws H) (hD : va_D A ws) (is : List Nat) (hs : is.filterMap (fun i => ws[i]?) = wc) (hs2 : is.map (fun i => ws[i]?) = wc.map some) (hnd : va_nd is = true) (hR : d + 1 ≤ R.frames ∧ 8 + (n + 11) + 40 * d ≤ R.locals) (hf : cells + mc ≤ R.cells ∧ slots + ms ≤ R.slots) (hn : As.length = k) (hsize : ls.size = nL) (hst : st = As.reverse ++ .ref a :: rest) (hW : (rest.map fun v => v.category).sum ≤ 8) (hdg : decode cc pc = .ok (.invokespecial idx, 3)) :
    va_Run p l e R s m args below meth c H locs cells slots mc ms (F0 m pc ls st) rest (Qc (.ref a :: As).toArray) free :=
  va_runI S hM (cwI k S.2.2.2.2 (CWS_good cal.1.2.2.2) rfl rfl rfl (S.2.2.2.2 _ cal.1.2.2.1) (S.2.2.2.2 _ cal.1.1) (S.2.2.2.2 _ cal.1.2.1) cal.2.1 cal.2.2 hR) ⟨PBx_blind, fun U hU hW => ⟨rfl, by rw [hU], by rw [hU]; exact hP.sub is hs, hK.warm hW, (hD.sub is hnd hs2).weaken (fun _ _ _ _ => trivial), by rw [hU]; exact hXS.call hS hF hW⟩⟩ rfl hn hsize hst (lv_room hW) hdg hf
set_option maxRecDepth 100000 in
theorem newq_obj {H0 : Heap} {A1 : Nat → Prop} {U0 : Heap} (S : SF p m c cc nL s args own) (hXS : XS D z q v bt A1 s U0) (hK : KK D cI cB cZ s) (hP : va_P D vwCl ws H) (hD : va_D A ws) (hS : va_S A H0 H locs) (hA : ∀ q, H0.size ≤ q → A q) {n : Int32} {N' : Nat} (hlk : Cond.classLink own idx "java/lang/Object" ∈ wT) (hn : ¬ n < 0) (hN : n.toNatClampNeg = N') (hbytes : N' * 4 ≤ 536870912) (hcells : cells + 1 ≤ R.cells) (hslots : slots + N' ≤ R.slots) (hdg : decode cc pc = .ok (.anewarray idx, 3)) (kk : ∀ (q : Nat) (H1 : Heap), va_P D vwCl (ws ++ [(q, .inl (D.1 99, N', .inr (.inr (.inr (.inr (fun _ => none))))))]) H1 → va_D A (ws ++ [(q, .inl (D.1 99, N', .inr (.inr (.inr (.inr (fun _ => none))))))]) → va_S A H0 H1 locs → W p l e R s m args below meth c H1 locs (cells + 1) (slots + N') Q (F0 m (pc + 3) ls (.ref q :: rest))) : W p l e R s m args below meth c H locs cells slots Q (F0 m pc ls (.int n :: rest)) := by
  refine va_newq S.1 S.2.1 S.2.2.2.1 (S.2.2.2.2 _ hlk) hXS.2.2.2.2.2.2.2.2.2.1 hK.1 hP hD hS hA hn hN hbytes hcells hslots hdg (fun q cA H1 hK2 hP2 hD2 hS2 => ?_)
  obtain ⟨-, -, -, -, -, h1⟩ : ∃ (kA : Class) (comp : ClassId), s.vm.classes[cA]? = some kA ∧ kA.kind = .array comp (.object "java/lang/Object") ∧ s.vm.findClass "java/lang/Object" = some comp ∧ s.vm.findClass ("[" ++ (FieldType.object "java/lang/Object").toString) = some cA := (hK2.2 3 (cA, .object "java/lang/Object") rfl).2
  obtain ⟨-, -, -, -, -, h2⟩ : ∃ (kA : Class) (comp : ClassId), s.vm.classes[D.1 99]? = some kA ∧ kA.kind = .array comp (.object "java/lang/Object") ∧ s.vm.findClass "java/lang/Object" = some comp ∧ s.vm.findClass ("[" ++ (FieldType.object "java/lang/Object").toString) = some (D.1 99) := (hXS.2.2.2.2.2.2.2.2.1.2 0 (D.1 99, .object "java/lang/Object") rfl).2
  obtain rfl : cA = D.1 99 := Option.some.inj (h1.symm.trans h2)
  exact kk q H1 hP2 hD2 hS2
end STATICS
section NEWA
variable {p : Program} {l : Launch} {e : Env} {R : Room} {s : State} {m : MethodId} {args : Array Value} {below : List Frame} {meth : Method} {c : Code} {H H0 : Heap} {locs : List Loc} {cells slots : Nat} {Q : State → Prop} {cc : ByteArray} {nL pc : Nat} {D : va_G} {cI cB cZ : ClassId} {ws : va_W} {rest : List Value} {ls : Array Slot} {own : String} {A : Nat → Prop}
set_option maxRecDepth 100000 in
theorem newa_int (S : SF p m c cc nL s args own) (hK : KK D cI cB cZ s) (hP : va_P D vwCl ws H) (hD : va_D A ws) (hS : va_S A H0 H locs) (hA : ∀ q, H0.size ≤ q → A q) {n : Int32} {N' : Nat} (hn : ¬ n < 0) (hN : n.toNatClampNeg = N') (hbytes : N' * 4 ≤ 536870912) (hcells : cells + 1 ≤ R.cells) (hslots : slots + N' ≤ R.slots) (hdg : decode cc pc = .ok (.newarray .int, 2)) (kk : ∀ (q : Nat) (H1 : Heap), va_P D vwCl (ws ++ [(q, .inl (cI, N', .inl (fun _ => 0)))]) H1 → va_D A (ws ++ [(q, .inl (cI, N', .inl (fun _ => 0)))]) → va_S A H0 H1 locs → W p l e R s m args below meth c H1 locs (cells + 1) (slots + N') Q (F0 m (pc + 2) ls (.ref q :: rest))) : W p l e R s m args below meth c H locs cells slots Q (F0 m pc ls (.int n :: rest)) := by
  refine va_newa (atype := .int) (ty := .int) (a0 := (N', .inl (fun _ => 0))) S.1 S.2.1 (S.2.2.2.2 _ (wk1_6 2 rfl rfl)) rfl hK.1 hP hD hS hA (fun cA => rfl) hn hN hbytes hcells hslots hdg (fun q cA H1 hK2 hP2 hD2 hS2 => ?_)
  have h1 : s.vm.findClass ("[" ++ FieldType.int.toString) = some cA := (hK2.2 3 (cA, .int) rfl).2
  have h2 : s.vm.findClass ("[" ++ FieldType.int.toString) = some cI := (hK.1.2 0 (cI, .int) rfl).2
  obtain rfl : cA = cI := Option.some.inj (h1.symm.trans h2)
  exact kk q H1 hP2 hD2 hS2
set_option maxRecDepth 100000 in
theorem newa_byte (S : SF p m c cc nL s args own) (hK : KK D cI cB cZ s) (hP : va_P D vwCl ws H) (hD : va_D A ws) (hS : va_S A H0 H locs) (hA : ∀ q, H0.size ≤ q → A q) {n : Int32} {N' : Nat} (hn : ¬ n < 0) (hN : n.toNatClampNeg = N') (hbytes : N' * 1 ≤ 536870912) (hcells : cells + 1 ≤ R.cells) (hslots : slots + N' ≤ R.slots) (hdg : decode cc pc = .ok (.newarray .byte, 2)) (kk : ∀ (q : Nat) (H1 : Heap), va_P D vwCl (ws ++ [(q, .inl (cB, N', .inl (fun _ => 0)))]) H1 → va_D A (ws ++ [(q, .inl (cB, N', .inl (fun _ => 0)))]) → va_S A H0 H1 locs → W p l e R s m args below meth c H1 locs (cells + 1) (slots + N') Q (F0 m (pc + 2) ls (.ref q :: rest))) : W p l e R s m args below meth c H locs cells slots Q (F0 m pc ls (.int n :: rest)) := by
  refine va_newa (atype := .byte) (ty := .byte) (a0 := (N', .inl (fun _ => 0))) S.1 S.2.1 (S.2.2.2.2 _ (wk1_14 10 rfl rfl)) rfl hK.1 hP hD hS hA (fun cA => rfl) hn hN hbytes hcells hslots hdg (fun q cA H1 hK2 hP2 hD2 hS2 => ?_)
  have h1 : s.vm.findClass ("[" ++ FieldType.byte.toString) = some cA := (hK2.2 3 (cA, .byte) rfl).2
  have h2 : s.vm.findClass ("[" ++ FieldType.byte.toString) = some cB := (hK.1.2 1 (cB, .byte) rfl).2
  obtain rfl : cA = cB := Option.some.inj (h1.symm.trans h2)
  exact kk q H1 hP2 hD2 hS2
set_option maxRecDepth 100000 in
theorem newa_boolean (S : SF p m c cc nL s args own) (hK : KK D cI cB cZ s) (hP : va_P D vwCl ws H) (hD : va_D A ws) (hS : va_S A H0 H locs) (hA : ∀ q, H0.size ≤ q → A q) {n : Int32} {N' : Nat} (hn : ¬ n < 0) (hN : n.toNatClampNeg = N') (hbytes : N' * 1 ≤ 536870912) (hcells : cells + 1 ≤ R.cells) (hslots : slots + N' ≤ R.slots) (hdg : decode cc pc = .ok (.newarray .boolean, 2)) (kk : ∀ (q : Nat) (H1 : Heap), va_P D vwCl (ws ++ [(q, .inl (cZ, N', .inl (fun _ => 0)))]) H1 → va_D A (ws ++ [(q, .inl (cZ, N', .inl (fun _ => 0)))]) → va_S A H0 H1 locs → W p l e R s m args below meth c H1 locs (cells + 1) (slots + N') Q (F0 m (pc + 2) ls (.ref q :: rest))) : W p l e R s m args below meth c H locs cells slots Q (F0 m pc ls (.int n :: rest)) := by
  refine va_newa (atype := .boolean) (ty := .boolean) (a0 := (N', .inl (fun _ => 0))) S.1 S.2.1 (S.2.2.2.2 _ (wk7_12 3 rfl rfl)) rfl hK.1 hP hD hS hA (fun cA => rfl) hn hN hbytes hcells hslots hdg (fun q cA H1 hK2 hP2 hD2 hS2 => ?_)
  have h1 : s.vm.findClass ("[" ++ FieldType.boolean.toString) = some cA := (hK2.2 3 (cA, .boolean) rfl).2
  have h2 : s.vm.findClass ("[" ++ FieldType.boolean.toString) = some cZ := (hK.1.2 2 (cZ, .boolean) rfl).2
  obtain rfl : cA = cZ := Option.some.inj (h1.symm.trans h2)
  exact kk q H1 hP2 hD2 hS2
end NEWA

/-! WHOLE WORLDS: callee and caller over one and the same list of cells -/
theorem free_all {A0 : Nat → Prop} {ws : va_W} {H0 H : Heap} {locs : List Loc} (hD : va_D A0 ws) (hS : va_S A0 H0 H locs) (hA : ∀ q, H0.size ≤ q → A0 q) : ∀ q, va_A ws H.size q → A0 q := fun q h => by
  rcases h with ⟨k, e, hk⟩ | h
  · exact hD.2 k (q, e) hk
  · exact hA q (Nat.le_trans hS.1 h)
section WHOLE
variable {p : Program} {l : Launch} {e : Env} {R : Room} {s : State} {m : MethodId} {args : Array Value} {below : List Frame} {meth : Method} {c : Code} {H : Heap} {locs : List Loc} {cells slots : Nat} {Q : State → Prop}
variable {cc b : ByteArray} {nL n idx k d mc ms pc sz : Nat} {own : String} {y : MethodName} {ret : Option FieldType} {As rest st : List Value} {ls : Array Slot} {D : va_G} {cI cB cZ : ClassId} {ws : va_W} {Qc : Array Value → State → Outcome → State → Prop} {a : Nat} {ci : Nat} {fs : List Value} {free : Addr → Prop}
theorem runV_ra (S : SF p m c cc nL s args own) (hM : Met l y (CWS y b n ret) (RM d 0 0) (PBr (.ref a :: As) D cI cB cZ ws) Qc 0 0 free) (cal : CalV own idx y b n ret k) (hK : KK D cI cB cZ s) (hP : va_P D vwCl ws H) (q0 : Nat) (he : ws[q0]? = some (a, .inr (ci, fs))) {q : vw_C} (hc : vwCl[ci]? = some q) (hqc : q.1 = y.cls) (hR : d + 1 ≤ R.frames ∧ 8 + (n + 11) + 40 * d ≤ R.locals) (hf : cells + 0 ≤ R.cells ∧ slots + 0 ≤ R.slots) (hn : As.length = k) (hsize : ls.size = nL) (hst : st = As.reverse ++ .ref a :: rest) (hW : (rest.map fun v => v.category).sum ≤ 8) (hdg : decode cc pc = .ok (.invokevirtual idx, 3)) :
    CallRun p l e R s m args below meth c H locs cells slots 0 0 (F0 m pc ls st) rest (Qc (.ref a :: As).toArray) free :=
  W.runV (C := y.cls) S hM (cwV k S.2.2.2.2 cal.good rfl rfl rfl ⟨rfl, cal.2⟩ hR) ⟨PBr_blind, (by have h := va_recv hK.1 hP hc he; rw [hqc] at h; exact h), fun U hU hW => ⟨rfl, by rw [hU]; exact hP, hK.warm hW⟩⟩ rfl hn hsize hst (lv_room hW) hdg hf
theorem runV_a (S : SF p m c cc nL s args own) (hM : Met l y (CWS y b n ret) (RM d mc ms) (PBw (.ref a :: As) D cI cB cZ ws H.size) Qc mc ms free) (cal : CalV own idx y b n ret k) (hK : KK D cI cB cZ s) (hP : va_P D vwCl ws H) {A : Nat → Prop} (hD : va_D A ws) (q0 : Nat) (he : ws[q0]? = some (a, .inr (ci, fs))) {q : vw_C} (hc : vwCl[ci]? = some q) (hqc : q.1 = y.cls) (hR : d + 1 ≤ R.frames ∧ 8 + (n + 11) + 40 * d ≤ R.locals) (hf : cells + mc ≤ R.cells ∧ slots + ms ≤ R.slots) (hn : As.length = k) (hsize : ls.size = nL) (hst : st = As.reverse ++ .ref a :: rest) (hW : (rest.map fun v => v.category).sum ≤ 8) (hdg : decode cc pc = .ok (.invokevirtual idx, 3)) :
    va_Run p l e R s m args below meth c H locs cells slots mc ms (F0 m pc ls st) rest (Qc (.ref a :: As).toArray) free :=
  va_runV (C := y.cls) S hM (cwV k S.2.2.2.2 cal.good rfl rfl rfl ⟨rfl, cal.2⟩ hR) ⟨PBw_blind, (by have h := va_recv hK.1 hP hc he; rw [hqc] at h; exact h), fun U hU hW => ⟨rfl, by rw [hU], by rw [hU]; exact hP, hK.warm hW, hD.weaken (fun _ _ _ _ => trivial)⟩⟩ rfl hn hsize hst (lv_room hW) hdg hf
end WHOLE
theorem hin_s {P : Nat → Prop} {n : Nat} (h : ∀ k : Nat, k < n → P k) (hn : P n) : ∀ k : Nat, k < n + 1 → P k := fun k hk => if q : k = n then q ▸ hn else h k (by omega)
theorem hin_all {C : String} {T : u_T} {n : Nat} (h : ∀ k : Nat, k < n → u_lay C T k ∈ wT) : ∀ w ∈ u_ws C T n, w ∈ wT := fun w hw => by
  obtain ⟨k, hk, rfl⟩ := List.mem_map.mp hw
  exact h k (List.mem_range.mp hk)
theorem lvA0 {ls : Array Slot} {n i : Nat} {v : Value} {t : List (Nat × Value)} (h : lv_has ls n ((i, v) :: t)) : ls[i]? = some (.val v) := lv_at h 0 rfl
theorem lvA1 {ls : Array Slot} {n i : Nat} {v : Value} {t : List (Nat × Value)} {a0 : Nat × Value} (h : lv_has ls n (a0 :: (i, v) :: t)) : ls[i]? = some (.val v) := lv_at h 1 rfl
theorem lvA2 {ls : Array Slot} {n i : Nat} {v : Value} {t : List (Nat × Value)} {a0 a1 : Nat × Value} (h : lv_has ls n (a0 :: a1 :: (i, v) :: t)) : ls[i]? = some (.val v) := lv_at h 2 rfl
theorem lvA3 {ls : Array Slot} {n i : Nat} {v : Value} {t : List (Nat × Value)} {a0 a1 a2 : Nat × Value} (h : lv_has ls n (a0 :: a1 :: a2 :: (i, v) :: t)) : ls[i]? = some (.val v) := lv_at h 3 rfl
theorem lvA4 {ls : Array Slot} {n i : Nat} {v : Value} {t : List (Nat × Value)} {a0 a1 a2 a3 : Nat × Value} (h : lv_has ls n (a0 :: a1 :: a2 :: a3 :: (i, v) :: t)) : ls[i]? = some (.val v) := lv_at h 4 rfl
theorem lvA5 {ls : Array Slot} {n i : Nat} {v : Value} {t : List (Nat × Value)} {a0 a1 a2 a3 a4 : Nat × Value} (h : lv_has ls n (a0 :: a1 :: a2 :: a3 :: a4 :: (i, v) :: t)) : ls[i]? = some (.val v) := lv_at h 5 rfl
theorem lvA6 {ls : Array Slot} {n i : Nat} {v : Value} {t : List (Nat × Value)} {a0 a1 a2 a3 a4 a5 : Nat × Value} (h : lv_has ls n (a0 :: a1 :: a2 :: a3 :: a4 :: a5 :: (i, v) :: t)) : ls[i]? = some (.val v) := lv_at h 6 rfl
theorem lvA7 {ls : Array Slot} {n i : Nat} {v : Value} {t : List (Nat × Value)} {a0 a1 a2 a3 a4 a5 a6 : Nat × Value} (h : lv_has ls n (a0 :: a1 :: a2 :: a3 :: a4 :: a5 :: a6 :: (i, v) :: t)) : ls[i]? = some (.val v) := lv_at h 7 rfl
theorem lvA8 {ls : Array Slot} {n i : Nat} {v : Value} {t : List (Nat × Value)} {a0 a1 a2 a3 a4 a5 a6 a7 : Nat × Value} (h : lv_has ls n (a0 :: a1 :: a2 :: a3 :: a4 :: a5 :: a6 :: a7 :: (i, v) :: t)) : ls[i]? = some (.val v) := lv_at h 8 rfl
theorem lvA10 {ls : Array Slot} {n i : Nat} {v : Value} {t : List (Nat × Value)} {a0 a1 a2 a3 a4 a5 a6 a7 a8 a9 : Nat × Value} (h : lv_has ls n (a0 :: a1 :: a2 :: a3 :: a4 :: a5 :: a6 :: a7 :: a8 :: a9 :: (i, v) :: t)) : ls[i]? = some (.val v) := lv_at h 10 rfl
theorem kic_m1 : Int32.ofInt (-1) = (-1) := by decide
theorem kic_0 : Int32.ofInt 0 = 0 := by decide
theorem kic_1 : Int32.ofInt 1 = 1 := by decide
theorem kic_2 : Int32.ofInt 2 = 2 := by decide
theorem kic_3 : Int32.ofInt 3 = 3 := by decide
theorem kic_4 : Int32.ofInt 4 = 4 := by decide
theorem kic_5 : Int32.ofInt 5 = 5 := by decide
theorem kbc_m40 : (Int8.ofInt (-40)).toInt32 = (-40) := by decide
theorem kbc_m10 : (Int8.ofInt (-10)).toInt32 = (-10) := by decide
theorem kbc_m2 : (Int8.ofInt (-2)).toInt32 = (-2) := by decide
theorem kbc_6 : (Int8.ofInt 6).toInt32 = 6 := by decide
theorem kbc_7 : (Int8.ofInt 7).toInt32 = 7 := by decide
theorem kbc_8 : (Int8.ofInt 8).toInt32 = 8 := by decide
theorem kbc_9 : (Int8.ofInt 9).toInt32 = 9 := by decide
theorem kbc_10 : (Int8.ofInt 10).toInt32 = 10 := by decide
theorem kbc_11 : (Int8.ofInt 11).toInt32 = 11 := by decide
theorem kbc_12 : (Int8.ofInt 12).toInt32 = 12 := by decide
theorem kbc_13 : (Int8.ofInt 13).toInt32 = 13 := by decide
theorem kbc_14 : (Int8.ofInt 14).toInt32 = 14 := by decide
theorem kbc_15 : (Int8.ofInt 15).toInt32 = 15 := by decide
theorem kbc_16 : (Int8.ofInt 16).toInt32 = 16 := by decide
theorem kbc_19 : (Int8.ofInt 19).toInt32 = 19 := by decide
theorem kbc_20 : (Int8.ofInt 20).toInt32 = 20 := by decide
theorem kbc_23 : (Int8.ofInt 23).toInt32 = 23 := by decide
theorem kbc_24 : (Int8.ofInt 24).toInt32 = 24 := by decide
theorem kbc_29 : (Int8.ofInt 29).toInt32 = 29 := by decide
theorem kbc_30 : (Int8.ofInt 30).toInt32 = 30 := by decide
theorem kbc_32 : (Int8.ofInt 32).toInt32 = 32 := by decide
theorem kbc_33 : (Int8.ofInt 33).toInt32 = 33 := by decide
theorem kbc_37 : (Int8.ofInt 37).toInt32 = 37 := by decide
theorem kbc_38 : (Int8.ofInt 38).toInt32 = 38 := by decide
theorem kbc_39 : (Int8.ofInt 39).toInt32 = 39 := by decide
theorem kbc_40 : (Int8.ofInt 40).toInt32 = 40 := by decide
theorem kbc_41 : (Int8.ofInt 41).toInt32 = 41 := by decide
theorem kbc_42 : (Int8.ofInt 42).toInt32 = 42 := by decide
theorem kbc_43 : (Int8.ofInt 43).toInt32 = 43 := by decide
theorem kbc_45 : (Int8.ofInt 45).toInt32 = 45 := by decide
theorem kbc_47 : (Int8.ofInt 47).toInt32 = 47 := by decide
theorem kbc_48 : (Int8.ofInt 48).toInt32 = 48 := by decide
theorem kbc_49 : (Int8.ofInt 49).toInt32 = 49 := by decide
theorem kbc_50 : (Int8.ofInt 50).toInt32 = 50 := by decide
theorem kbc_57 : (Int8.ofInt 57).toInt32 = 57 := by decide
theorem kbc_58 : (Int8.ofInt 58).toInt32 = 58 := by decide
theorem kbc_59 : (Int8.ofInt 59).toInt32 = 59 := by decide
theorem kbc_60 : (Int8.ofInt 60).toInt32 = 60 := by decide
theorem kbc_61 : (Int8.ofInt 61).toInt32 = 61 := by decide
theorem kbc_62 : (Int8.ofInt 62).toInt32 = 62 := by decide
theorem kbc_63 : (Int8.ofInt 63).toInt32 = 63 := by decide
theorem kbc_91 : (Int8.ofInt 91).toInt32 = 91 := by decide
theorem kbc_93 : (Int8.ofInt 93).toInt32 = 93 := by decide
theorem kbc_97 : (Int8.ofInt 97).toInt32 = 97 := by decide
theorem kbc_99 : (Int8.ofInt 99).toInt32 = 99 := by decide
theorem kbc_100 : (Int8.ofInt 100).toInt32 = 100 := by decide
theorem kbc_102 : (Int8.ofInt 102).toInt32 = 102 := by decide
theorem kbc_103 : (Int8.ofInt 103).toInt32 = 103 := by decide
theorem kbc_107 : (Int8.ofInt 107).toInt32 = 107 := by decide
theorem kbc_108 : (Int8.ofInt 108).toInt32 = 108 := by decide
theorem kbc_109 : (Int8.ofInt 109).toInt32 = 109 := by decide
theorem kbc_110 : (Int8.ofInt 110).toInt32 = 110 := by decide
theorem kbc_111 : (Int8.ofInt 111).toInt32 = 111 := by decide
theorem kbc_112 : (Int8.ofInt 112).toInt32 = 112 := by decide
theorem kbc_113 : (Int8.ofInt 113).toInt32 = 113 := by decide
theorem kbc_115 : (Int8.ofInt 115).toInt32 = 115 := by decide
theorem kbc_119 : (Int8.ofInt 119).toInt32 = 119 := by decide
theorem kbc_120 : (Int8.ofInt 120).toInt32 = 120 := by decide
theorem kbc_124 : (Int8.ofInt 124).toInt32 = 124 := by decide
theorem en_r {l : Launch} {y : MethodName} {cc : ByteArray} {nL d : Nat} {ret : Option FieldType} {As : List Value} {D : va_G} {cI cB cZ : ClassId} {ws : va_W} {Qc : Array Value → State → Outcome → State → Prop} {own : String} (ho : y.cls = own) (hy : Jvm.plainName own = true) (hn : (lg_sl As).length ≤ nL) (h : ∀ (p : Program) (e : Env) (s : State) (m : MethodId) (below : List Frame) (meth : Method) (c : Code), p.tables.exec = Jvm.exec → c.code = cc → c.maxLocals = nL → s.vm.findClass own = some m.cls → SF p m c cc nL s As.toArray own → meth.sig.returnType = ret → meth.locks = false → meth.name = y.name → va_P D vwCl ws s.heap → KK D cI cB cZ s → va_S (fun _ => False) s.heap s.heap [] → ∀ ls : Array Slot, lv_has ls nL (lv_args 0 As) → W p l e (RM d 0 0) s m As.toArray below meth c s.heap [] 0 0 (MQ below Qc As.toArray s 0 0 (fun _ => False)) (F0 m 0 ls [])) : Met l y (CWS y cc nL ret) (RM d 0 0) (PBr As D cI cB cZ ws) Qc 0 0 (fun _ => False) := by
  subst ho
  refine Met.ofW (cc := cc) (maxL := nL) (ret := ret) hy rfl ?_
  intro p e s m args below meth c s₁ B hml hv
  obtain ⟨rfl, hP, hK⟩ := hv
  have hts := atoms_spec (ws := CWS y cc nL ret) B.pre
  have hown : s.vm.findClass y.cls = some m.cls := findClass_of_methodNamed B.named
  have S : SF p m c cc nL s As.toArray y.cls := ⟨B.exec, B.bytes, hml, hown, fun w h => hts w (List.mem_cons_of_mem _ h)⟩
  have hl := lv_entry As (n := nL) hn
  rw [lg_entry_eq]
  exact h p e s m below meth c B.exec B.bytes hml hown S B.returns B.notSynchronized (name_of_methodNamed B.named B.method).1 hP hK va_S.rf _ hl
theorem en_w {l : Launch} {y : MethodName} {cc : ByteArray} {nL d mc ms sz : Nat} {ret : Option FieldType} {As : List Value} {D : va_G} {cI cB cZ : ClassId} {ws : va_W} {Q : Array Value → State → Outcome → State → Prop} (Qf : (Nat → Prop) → Array Value → State → Outcome → State → Prop) (hQ : Q = Qf (va_A ws sz)) {own : String} (ho : y.cls = own) (hy : Jvm.plainName own = true) (hn : (lg_sl As).length ≤ nL) (h : ∀ (p : Program) (e : Env) (s : State) (m : MethodId) (below : List Frame) (meth : Method) (c : Code) (A : Nat → Prop), p.tables.exec = Jvm.exec → c.code = cc → c.maxLocals = nL → s.vm.findClass own = some m.cls → SF p m c cc nL s As.toArray own → meth.sig.returnType = ret → meth.locks = false → meth.name = y.name → (∀ q : Nat, s.heap.size ≤ q → A q) → va_P D vwCl ws s.heap → KK D cI cB cZ s → va_D A ws → va_S A s.heap s.heap [] → ∀ ls : Array Slot, lv_has ls nL (lv_args 0 As) → W p l e (RM d mc ms) s m As.toArray below meth c s.heap [] 0 0 (MQ below (Qf A) As.toArray s mc ms A) (F0 m 0 ls [])) : Met l y (CWS y cc nL ret) (RM d mc ms) (PBw As D cI cB cZ ws sz) Q mc ms (va_A ws sz) := by
  subst ho
  subst hQ
  refine Met.ofW (cc := cc) (maxL := nL) (ret := ret) hy rfl ?_
  intro p e s m args below meth c s₁ B hml hv
  obtain ⟨rfl, hsz, hP, hK, hD0⟩ := hv
  have hts := atoms_spec (ws := CWS y cc nL ret) B.pre
  have hown : s.vm.findClass y.cls = some m.cls := findClass_of_methodNamed B.named
  have S : SF p m c cc nL s As.toArray y.cls := ⟨B.exec, B.bytes, hml, hown, fun w h => hts w (List.mem_cons_of_mem _ h)⟩
  have hl := lv_entry As (n := nL) hn
  subst hsz
  rw [lg_entry_eq]
  exact h p e s m below meth c (va_A ws s.heap.size) B.exec B.bytes hml hown S B.returns B.notSynchronized (name_of_methodNamed B.named B.method).1 (fun q hq => Or.inr hq) hP hK (hD0.self (sz := s.heap.size)) va_S.rf _ hl
theorem en_rx {l : Launch} {y : MethodName} {cc : ByteArray} {nL d : Nat} {ret : Option FieldType} {As : List Value} {D : va_G} {cI cB cZ : ClassId} {zz qq vv : Nat} {bt : Nat → Int32} {ws : va_W} {Qc : Array Value → State → Outcome → State → Prop} {own : String} (ho : y.cls = own) (hy : Jvm.plainName own = true) (hn : (lg_sl As).length ≤ nL) (h : ∀ (p : Program) (e : Env) (s : State) (m : MethodId) (below : List Frame) (meth : Method) (c : Code), p.tables.exec = Jvm.exec → c.code = cc → c.maxLocals = nL → s.vm.findClass own = some m.cls → SF p m c cc nL s As.toArray own → meth.sig.returnType = ret → meth.locks = false → meth.name = y.name → va_P D vwCl ws s.heap → KK D cI cB cZ s → XS D zz qq vv bt (fun _ => False) s s.heap → va_S (fun _ => False) s.heap s.heap [] → ∀ ls : Array Slot, lv_has ls nL (lv_args 0 As) → W p l e (RM d 0 0) s m As.toArray below meth c s.heap [] 0 0 (MQ below Qc As.toArray s 0 0 (fun _ => False)) (F0 m 0 ls [])) : Met l y (CWS y cc nL ret) (RM d 0 0) (PBrx As D cI cB cZ zz qq vv bt ws) Qc 0 0 (fun _ => False) := by
  subst ho
  refine Met.ofW (cc := cc) (maxL := nL) (ret := ret) hy rfl ?_
  intro p e s m args below meth c s₁ B hml hv
  obtain ⟨rfl, hP, hK, hXS⟩ := hv
  have hts := atoms_spec (ws := CWS y cc nL ret) B.pre
  have hown : s.vm.findClass y.cls = some m.cls := findClass_of_methodNamed B.named
  have S : SF p m c cc nL s As.toArray y.cls := ⟨B.exec, B.bytes, hml, hown, fun w h => hts w (List.mem_cons_of_mem _ h)⟩
  have hl := lv_entry As (n := nL) hn
  rw [lg_entry_eq]
  exact h p e s m below meth c B.exec B.bytes hml hown S B.returns B.notSynchronized (name_of_methodNamed B.named B.method).1 hP hK hXS va_S.rf _ hl
theorem en_x {l : Launch} {y : MethodName} {cc : ByteArray} {nL d mc ms sz : Nat} {ret : Option FieldType} {As : List Value} {D : va_G} {cI cB cZ : ClassId} {zz qq vv : Nat} {bt : Nat → Int32} {ws : va_W} {Q : Array Value → State → Outcome → State → Prop} (Qf : (Nat → Prop) → Array Value → State → Outcome → State → Prop) (hQ : Q = Qf (va_A ws sz)) {own : String} (ho : y.cls = own) (hy : Jvm.plainName own = true) (hn : (lg_sl As).length ≤ nL) (h : ∀ (p : Program) (e : Env) (s : State) (m : MethodId) (below : List Frame) (meth : Method) (c : Code) (A : Nat → Prop), p.tables.exec = Jvm.exec → c.code = cc → c.maxLocals = nL → s.vm.findClass own = some m.cls → SF p m c cc nL s As.toArray own → meth.sig.returnType = ret → meth.locks = false → meth.name = y.name → (∀ q : Nat, s.heap.size ≤ q → A q) → va_P D vwCl ws s.heap → KK D cI cB cZ s → va_D A ws → XS D zz qq vv bt A s s.heap → va_S A s.heap s.heap [] → ∀ ls : Array Slot, lv_has ls nL (lv_args 0 As) → W p l e (RM d mc ms) s m As.toArray below meth c s.heap [] 0 0 (MQ below (Qf A) As.toArray s mc ms A) (F0 m 0 ls [])) : Met l y (CWS y cc nL ret) (RM d mc ms) (PBx As D cI cB cZ zz qq vv bt ws sz) Q mc ms (va_A ws sz) := by
  subst ho
  subst hQ
  refine Met.ofW (cc := cc) (maxL := nL) (ret := ret) hy rfl ?_
  intro p e s m args below meth c s₁ B hml hv
  obtain ⟨rfl, hsz, hP, hK, hD0, hXS⟩ := hv
  have hts := atoms_spec (ws := CWS y cc nL ret) B.pre
  have hown : s.vm.findClass y.cls = some m.cls := findClass_of_methodNamed B.named
  have S : SF p m c cc nL s As.toArray y.cls := ⟨B.exec, B.bytes, hml, hown, fun w h => hts w (List.mem_cons_of_mem _ h)⟩
  have hl := lv_entry As (n := nL) hn
  subst hsz
  rw [lg_entry_eq]
  exact h p e s m below meth c (va_A ws s.heap.size) B.exec B.bytes hml hown S B.returns B.notSynchronized (name_of_methodNamed B.named B.method).1 (fun q hq => Or.inr hq) hP hK (hD0.self (sz := s.heap.size)) hXS va_S.rf _ hl
theorem pn_RJ0 : Jvm.plainName RJ0 = true := by decide
theorem pn_RJ1 : Jvm.plainName RJ1 = true := by decide
theorem pn_RJ15 : Jvm.plainName RJ15 = true := by decide
theorem pn_RJ3 : Jvm.plainName RJ3 = true := by decide
theorem pn_RJ7 : Jvm.plainName RJ7 = true := by decide
theorem pn_RJ8 : Jvm.plainName RJ8 = true := by decide
theorem pn_RJx4a65c : Jvm.plainName RJx4a65c = true := by decide
theorem pn_RJxa1e45 : Jvm.plainName RJxa1e45 = true := by decide
theorem pn_RJxc12de : Jvm.plainName RJxc12de = true := by decide
theorem pn_RX0 : Jvm.plainName RX0 = true := by decide
theorem pn_RX1 : Jvm.plainName RX1 = true := by decide
theorem pn_RX10 : Jvm.plainName RX10 = true := by decide
theorem pn_RX11 : Jvm.plainName RX11 = true := by decide
theorem pn_RX12 : Jvm.plainName RX12 = true := by decide
theorem pn_RX2 : Jvm.plainName RX2 = true := by decide
theorem pn_RX3 : Jvm.plainName RX3 = true := by decide
theorem pn_RX4 : Jvm.plainName RX4 = true := by decide
theorem pn_RX5 : Jvm.plainName RX5 = true := by decide
theorem pn_RX6 : Jvm.plainName RX6 = true := by decide
theorem pn_RX7 : Jvm.plainName RX7 = true := by decide
theorem pn_RX8 : Jvm.plainName RX8 = true := by decide
theorem pn_RX9 : Jvm.plainName RX9 = true := by decide
theorem pd_0 : (parseMethodDescriptor "()B").map (fun d => d.parameters.length) = some 0 := by decide +kernel
theorem pd_1 : (parseMethodDescriptor "()I").map (fun d => d.parameters.length) = some 0 := by decide +kernel
theorem pd_2 : (parseMethodDescriptor "()V").map (fun d => d.parameters.length) = some 0 := by decide +kernel
theorem pd_3 : (parseMethodDescriptor "()Z").map (fun d => d.parameters.length) = some 0 := by decide +kernel
theorem pd_4 : (parseMethodDescriptor "()[Ljava/lang/Object;").map (fun d => d.parameters.length) = some 0 := by decide +kernel
theorem pd_5 : (parseMethodDescriptor "(C)V").map (fun d => d.parameters.length) = some 1 := by decide +kernel
theorem pd_6 : (parseMethodDescriptor "(CI)V").map (fun d => d.parameters.length) = some 2 := by decide +kernel
theorem pd_8 : (parseMethodDescriptor "(I)I").map (fun d => d.parameters.length) = some 1 := by decide +kernel
theorem pd_9 : (parseMethodDescriptor "(I)LOilHome$Batch;").map (fun d => d.parameters.length) = some 1 := by decide +kernel
theorem pd_10 : (parseMethodDescriptor "(I)LOilHome$Kitchen;").map (fun d => d.parameters.length) = some 1 := by decide +kernel
theorem pd_11 : (parseMethodDescriptor "(I)LOilHome$Load;").map (fun d => d.parameters.length) = some 1 := by decide +kernel
theorem pd_12 : (parseMethodDescriptor "(I)LOilHome$Proof;").map (fun d => d.parameters.length) = some 1 := by decide +kernel
theorem pd_13 : (parseMethodDescriptor "(I)Ljava/lang/Object;").map (fun d => d.parameters.length) = some 1 := by decide +kernel
theorem pd_14 : (parseMethodDescriptor "(I)V").map (fun d => d.parameters.length) = some 1 := by decide +kernel
theorem pd_15 : (parseMethodDescriptor "(I)Z").map (fun d => d.parameters.length) = some 1 := by decide +kernel
theorem pd_16 : (parseMethodDescriptor "(I)[Ljava/lang/Object;").map (fun d => d.parameters.length) = some 1 := by decide +kernel
theorem pd_17 : (parseMethodDescriptor "(II)I").map (fun d => d.parameters.length) = some 2 := by decide +kernel
theorem pd_18 : (parseMethodDescriptor "(II)J").map (fun d => d.parameters.length) = some 2 := by decide +kernel
theorem pd_19 : (parseMethodDescriptor "(II)LOilHome$Move;").map (fun d => d.parameters.length) = some 2 := by decide +kernel
theorem pd_20 : (parseMethodDescriptor "(II)V").map (fun d => d.parameters.length) = some 2 := by decide +kernel
theorem pd_21 : (parseMethodDescriptor "(II)Z").map (fun d => d.parameters.length) = some 2 := by decide +kernel
theorem pd_22 : (parseMethodDescriptor "(III)I").map (fun d => d.parameters.length) = some 3 := by decide +kernel
theorem pd_23 : (parseMethodDescriptor "(III)J").map (fun d => d.parameters.length) = some 3 := by decide +kernel
theorem pd_24 : (parseMethodDescriptor "(III)LOilHome$Proof;").map (fun d => d.parameters.length) = some 3 := by decide +kernel
theorem pd_25 : (parseMethodDescriptor "(III)V").map (fun d => d.parameters.length) = some 3 := by decide +kernel
theorem pd_26 : (parseMethodDescriptor "(III)Z").map (fun d => d.parameters.length) = some 3 := by decide +kernel
theorem pd_27 : (parseMethodDescriptor "(IIII)I").map (fun d => d.parameters.length) = some 4 := by decide +kernel
theorem pd_28 : (parseMethodDescriptor "(IIII)J").map (fun d => d.parameters.length) = some 4 := by decide +kernel
theorem pd_29 : (parseMethodDescriptor "(IIII)V").map (fun d => d.parameters.length) = some 4 := by decide +kernel
theorem pd_30 : (parseMethodDescriptor "(IIIII)I").map (fun d => d.parameters.length) = some 5 := by decide +kernel
theorem pd_31 : (parseMethodDescriptor "(IIIII)J").map (fun d => d.parameters.length) = some 5 := by decide +kernel
theorem pd_32 : (parseMethodDescriptor "(IIIII)V").map (fun d => d.parameters.length) = some 5 := by decide +kernel
theorem pd_33 : (parseMethodDescriptor "(IIIIII)I").map (fun d => d.parameters.length) = some 6 := by decide +kernel
theorem pd_34 : (parseMethodDescriptor "(IIIIII)V").map (fun d => d.parameters.length) = some 6 := by decide +kernel
theorem pd_36 : (parseMethodDescriptor "(IILOilHome$Text;)I").map (fun d => d.parameters.length) = some 3 := by decide +kernel
theorem pd_37 : (parseMethodDescriptor "(IILjava/util/function/BiFunction;)I").map (fun d => d.parameters.length) = some 3 := by decide +kernel
theorem pd_38 : (parseMethodDescriptor "(IIZ)Z").map (fun d => d.parameters.length) = some 3 := by decide +kernel
theorem pd_40 : (parseMethodDescriptor "(II[I)I").map (fun d => d.parameters.length) = some 3 := by decide +kernel
theorem pd_41 : (parseMethodDescriptor "(ILOilHome$Kitchen;I)V").map (fun d => d.parameters.length) = some 3 := by decide +kernel
theorem pd_42 : (parseMethodDescriptor "(ILOilHome$Load;)V").map (fun d => d.parameters.length) = some 2 := by decide +kernel
theorem pd_43 : (parseMethodDescriptor "(ILOilHome$Proof;)Z").map (fun d => d.parameters.length) = some 2 := by decide +kernel
theorem pd_44 : (parseMethodDescriptor "(I[I)I").map (fun d => d.parameters.length) = some 2 := by decide +kernel
theorem pd_45 : (parseMethodDescriptor "(JJ)J").map (fun d => d.parameters.length) = some 2 := by decide +kernel
theorem pd_46 : (parseMethodDescriptor "(LOilHome$Batch;)I").map (fun d => d.parameters.length) = some 1 := by decide +kernel
theorem pd_47 : (parseMethodDescriptor "(LOilHome$Batch;)V").map (fun d => d.parameters.length) = some 1 := by decide +kernel
theorem pd_48 : (parseMethodDescriptor "(LOilHome$Batch;I[I)V").map (fun d => d.parameters.length) = some 3 := by decide +kernel
theorem pd_49 : (parseMethodDescriptor "(LOilHome$Kitchen;I)I").map (fun d => d.parameters.length) = some 2 := by decide +kernel
theorem pd_50 : (parseMethodDescriptor "(LOilHome$Kitchen;II)Z").map (fun d => d.parameters.length) = some 3 := by decide +kernel
theorem pd_51 : (parseMethodDescriptor "(LOilHome$Load;)V").map (fun d => d.parameters.length) = some 1 := by decide +kernel
theorem pd_52 : (parseMethodDescriptor "(LOilHome$Load;)Z").map (fun d => d.parameters.length) = some 1 := by decide +kernel
theorem pd_53 : (parseMethodDescriptor "(LOilHome$Load;II)I").map (fun d => d.parameters.length) = some 3 := by decide +kernel
theorem pd_54 : (parseMethodDescriptor "(LOilHome$Load;LOilHome$Kitchen;)I").map (fun d => d.parameters.length) = some 2 := by decide +kernel
theorem pd_55 : (parseMethodDescriptor "(LOilHome$Tape;IC)LOilHome$Text;").map (fun d => d.parameters.length) = some 3 := by decide +kernel
theorem pd_56 : (parseMethodDescriptor "(LOilHome$Text;LOilHome$Load;)I").map (fun d => d.parameters.length) = some 2 := by decide +kernel
theorem pd_57 : (parseMethodDescriptor "(Ljava/lang/Object;)Z").map (fun d => d.parameters.length) = some 1 := by decide +kernel
theorem pd_58 : (parseMethodDescriptor "(Ljava/lang/Object;[Ljava/lang/Object;I)V").map (fun d => d.parameters.length) = some 3 := by decide +kernel
theorem pd_59 : (parseMethodDescriptor "(Z)V").map (fun d => d.parameters.length) = some 1 := by decide +kernel
theorem pd_60 : (parseMethodDescriptor "(Z)Z").map (fun d => d.parameters.length) = some 1 := by decide +kernel
theorem pd_61 : (parseMethodDescriptor "(Z[I)I").map (fun d => d.parameters.length) = some 2 := by decide +kernel
theorem pd_64 : (parseMethodDescriptor "([BIII)I").map (fun d => d.parameters.length) = some 4 := by decide +kernel
theorem pd_65 : (parseMethodDescriptor "([I)I").map (fun d => d.parameters.length) = some 1 := by decide +kernel
theorem pd_67 : (parseMethodDescriptor "([II)I").map (fun d => d.parameters.length) = some 2 := by decide +kernel
theorem pd_68 : (parseMethodDescriptor "([II)V").map (fun d => d.parameters.length) = some 2 := by decide +kernel
theorem pd_69 : (parseMethodDescriptor "([III)V").map (fun d => d.parameters.length) = some 3 := by decide +kernel
theorem pd_70 : (parseMethodDescriptor "([IIIII)Z").map (fun d => d.parameters.length) = some 5 := by decide +kernel
theorem pd_71 : (parseMethodDescriptor "([Ljava/lang/Object;I)[Ljava/lang/Object;").map (fun d => d.parameters.length) = some 2 := by decide +kernel
theorem pd_72 : (parseMethodDescriptor "([Ljava/lang/Object;ILjava/lang/Class;)[Ljava/lang/Object;").map (fun d => d.parameters.length) = some 3 := by decide +kernel
