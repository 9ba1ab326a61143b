/-- the class's counts' bounds -/
abbrev CBX (cn : Nat → Nat) : Prop := cn 0 ≤ 399 ∧ cn 1 ≤ 3 ∧ cn 2 ≤ 20 ∧ cn 3 ≤ 200 ∧ cn 4 ≤ 8 ∧ cn 5 ≤ 40 ∧ cn 10 ≤ 10 ∧ cn 11 ≤ 60 ∧ cn 12 ≤ 10 ∧ cn 13 ≤ 40 ∧ cn 14 ≤ 10 ∧ cn 15 ≤ 60 ∧ cn 10 ≤ cn 20 ∧ cn 11 ≤ cn 21 ∧ cn 12 ≤ cn 22 ∧ cn 13 ≤ cn 23 ∧ cn 14 ≤ cn 24 ∧ cn 15 ≤ cn 25 ∧ cn 20 ≤ 100 ∧ cn 21 ≤ 100 ∧ cn 22 ≤ 100 ∧ cn 23 ≤ 100 ∧ cn 24 ≤ 100 ∧ cn 25 ≤ 100
/-- the same, out of sight -/
def CBXh (cn : Nat → Nat) : Prop := CBX cn
theorem xclass {D : va_G} {tys : List (ClassId × FieldType)} {s : State} (hK : va_K D vwCl tys s) {ci : Nat} {C : String} {T : u_T} {N : Nat} (hc : vwCl[ci]? = some (C, T, N)) : ClassAt s C (D.1 ci) := by
  obtain ⟨hS, hfc, kC, hkC, hkind⟩ := hK.1 ci _ hc
  exact ⟨hfc, kC, hkC, hkind⟩
/-- what Tables.at tells -/
def atM (f : Nat → Int32) (n : Nat) (i : Int32) : Int32 := if 0 ≤ i.toInt ∧ i.toInt < (n : Int) then f i.toNatClampNeg else 0
theorem gA_z {F : Nat → Int32} {st k : Nat} : ∀ i : Nat, st ≤ i → gA F st k i = 0 := fun i hi => if_neg (by omega)
theorem upd_z {f : Nat → Int32} {st : Nat} {v x : Int32} (hv : v.toInt.toNat < st) (hf : ∀ i : Nat, st ≤ i → f i = 0) : ∀ i : Nat, st ≤ i → upd f v.toNatClampNeg x i = 0 := fun i hi => by
  have e : v.toNatClampNeg = v.toInt.toNat := rfl
  unfold upd
  rw [if_neg (by omega)]
  exact hf i hi
/-- what Tables.put leaves -/
def putM (f : Nat → Int32) (n : Nat) (i x : Int32) : Nat → Int32 := if 0 ≤ i.toInt ∧ i.toInt < (n : Int) then upd f i.toNatClampNeg x else f
section XRUN
variable {p : Program} {l : Launch} {e : Env} {R : Room} {s : State} {m : MethodId} {args : Array Value} {below : List Frame} {meth : Method} {c : Code} {H : Heap} {locs : List Loc} {cells slots : Nat} {Q : State → Prop}
variable {cc b : ByteArray} {nL n idx k d mc ms pc sz : Nat} {own : String} {y : MethodName} {ret : Option FieldType} {As rest st : List Value} {ls : Array Slot} {D : va_G} {cI cB cZ : ClassId} {ws wc : va_W} {Qc : Array Value → State → Outcome → State → Prop} {a : Nat} {ci : Nat} {fs : List Value} {free : Addr → Prop} {z q v : Nat} {bt : Nat → Int32} {A : Nat → Prop}
theorem runV_rxa (S : SF p m c cc nL s args own) (hM : Met l y (CWS y b n ret) (RM d 0 0) (PBrx (.ref a :: As) D cI cB cZ z q v bt ws) Qc 0 0 free) (cal : CalV own idx y b n ret k) (hK : KK D cI cB cZ s) (hXS : XS D z q v bt A s s.heap) (hS : va_S A s.heap H locs) (hP : va_P D vwCl ws H) (q0 : Nat) (he : ws[q0]? = some (a, .inr (ci, fs))) {qc : vw_C} (hc : vwCl[ci]? = some qc) (hqc : qc.1 = y.cls) (hR : d + 1 ≤ R.frames ∧ 8 + (n + 11) + 40 * d ≤ R.locals) (hf : cells + 0 ≤ R.cells ∧ slots + 0 ≤ R.slots) (hn : As.length = k) (hsize : ls.size = nL) (hst : st = As.reverse ++ .ref a :: rest) (hW : (rest.map fun v => v.category).sum ≤ 8) (hdg : decode cc pc = .ok (.invokevirtual idx, 3)) :
    CallRun p l e R s m args below meth c H locs cells slots 0 0 (F0 m pc ls st) rest (Qc (.ref a :: As).toArray) free :=
  W.runV (C := y.cls) S hM (cwV k S.2.2.2.2 cal.good rfl rfl rfl ⟨rfl, cal.2⟩ hR) ⟨PBrx_blind, (by have h := va_recv hK.1 hP hc he; rw [hqc] at h; exact h), fun U hU hW => ⟨rfl, by rw [hU]; exact hP, hK.warm hW, by rw [hU]; exact hXS.call hS (fun _ h => h.elim) hW⟩⟩ rfl hn hsize hst (lv_room hW) hdg hf
theorem runV_xa (S : SF p m c cc nL s args own) (hM : Met l y (CWS y b n ret) (RM d mc ms) (PBx (.ref a :: As) D cI cB cZ z q v bt ws H.size) Qc mc ms free) (cal : CalV own idx y b n ret k) (hK : KK D cI cB cZ s) (hXS : XS D z q v bt A s s.heap) (hS : va_S A s.heap H locs) (hF : ∀ x, va_A ws H.size x → A x) (hP : va_P D vwCl ws H) (hD : va_D A ws) (q0 : Nat) (he : ws[q0]? = some (a, .inr (ci, fs))) {qc : vw_C} (hc : vwCl[ci]? = some qc) (hqc : qc.1 = y.cls) (hR : d + 1 ≤ R.frames ∧ 8 + (n + 11) + 40 * d ≤ R.locals) (hf : cells + mc ≤ R.cells ∧ slots + ms ≤ R.slots) (hn : As.length = k) (hsize : ls.size = nL) (hst : st = As.reverse ++ .ref a :: rest) (hW : (rest.map fun v => v.category).sum ≤ 8) (hdg : decode cc pc = .ok (.invokevirtual idx, 3)) :
    va_Run p l e R s m args below meth c H locs cells slots mc ms (F0 m pc ls st) rest (Qc (.ref a :: As).toArray) free :=
  va_runV (C := y.cls) S hM (cwV k S.2.2.2.2 cal.good rfl rfl rfl ⟨rfl, cal.2⟩ hR) ⟨PBx_blind, (by have h := va_recv hK.1 hP hc he; rw [hqc] at h; exact h), fun U hU hW => ⟨rfl, by rw [hU], by rw [hU]; exact hP, hK.warm hW, hD.weaken (fun _ _ _ _ => trivial), by rw [hU]; exact hXS.call hS hF hW⟩⟩ rfl hn hsize hst (lv_room hW) hdg hf
end XRUN
theorem CBX.n {cn : Nat → Nat} {k v : Nat} (h : CBX cn) (hk : k ∉ [0, 1, 2, 3, 4, 5, 10, 11, 12, 13, 14, 15, 20, 21, 22, 23, 24, 25]) : CBX (va_up cn k v) := by
  have e : ∀ j ∈ [0, 1, 2, 3, 4, 5, 10, 11, 12, 13, 14, 15, 20, 21, 22, 23, 24, 25], va_up cn k v j = cn j := fun j hj => va_up_ne _ _ (fun q => hk (q ▸ hj))
  unfold CBX
  rw [e 0 (by decide), e 1 (by decide), e 2 (by decide), e 3 (by decide), e 4 (by decide), e 5 (by decide), e 10 (by decide), e 11 (by decide), e 12 (by decide), e 13 (by decide), e 14 (by decide), e 15 (by decide), e 20 (by decide), e 21 (by decide), e 22 (by decide), e 23 (by decide), e 24 (by decide), e 25 (by decide)]
  exact h
theorem CBX.cg {cn c2 : Nat → Nat} (h : CBX cn) (e0 : c2 0 = cn 0) (e1 : c2 1 = cn 1) (e2 : c2 2 = cn 2) (e3 : c2 3 = cn 3) (e4 : c2 4 = cn 4) (e5 : c2 5 = cn 5) (e10 : c2 10 = cn 10) (e11 : c2 11 = cn 11) (e12 : c2 12 = cn 12) (e13 : c2 13 = cn 13) (e14 : c2 14 = cn 14) (e15 : c2 15 = cn 15) (e20 : c2 20 = cn 20) (e21 : c2 21 = cn 21) (e22 : c2 22 = cn 22) (e23 : c2 23 = cn 23) (e24 : c2 24 = cn 24) (e25 : c2 25 = cn 25) : CBX c2 := by
  unfold CBX
  rw [e0, e1, e2, e3, e4, e5, e10, e11, e12, e13, e14, e15, e20, e21, e22, e23, e24, e25]
  exact h
theorem CBX.u1 {cn : Nat → Nat} {v : Nat} (h : CBX cn) (b1 : v ≤ 3) : CBX (va_up cn 1 v) := ⟨h.1, b1, h.2.2.1, h.2.2.2.1, h.2.2.2.2.1, h.2.2.2.2.2.1, h.2.2.2.2.2.2.1, h.2.2.2.2.2.2.2.1, h.2.2.2.2.2.2.2.2.1, h.2.2.2.2.2.2.2.2.2.1, h.2.2.2.2.2.2.2.2.2.2.1, h.2.2.2.2.2.2.2.2.2.2.2.1, h.2.2.2.2.2.2.2.2.2.2.2.2.1, h.2.2.2.2.2.2.2.2.2.2.2.2.2.1, h.2.2.2.2.2.2.2.2.2.2.2.2.2.2.1, h.2.2.2.2.2.2.2.2.2.2.2.2.2.2.2.1, h.2.2.2.2.2.2.2.2.2.2.2.2.2.2.2.2.1, h.2.2.2.2.2.2.2.2.2.2.2.2.2.2.2.2.2.1, h.2.2.2.2.2.2.2.2.2.2.2.2.2.2.2.2.2.2.1, h.2.2.2.2.2.2.2.2.2.2.2.2.2.2.2.2.2.2.2.1, h.2.2.2.2.2.2.2.2.2.2.2.2.2.2.2.2.2.2.2.2.1, h.2.2.2.2.2.2.2.2.2.2.2.2.2.2.2.2.2.2.2.2.2.1, h.2.2.2.2.2.2.2.2.2.2.2.2.2.2.2.2.2.2.2.2.2.2.1, h.2.2.2.2.2.2.2.2.2.2.2.2.2.2.2.2.2.2.2.2.2.2.2⟩
theorem CBX.u2 {cn : Nat → Nat} {v : Nat} (h : CBX cn) (b1 : v ≤ 20) : CBX (va_up cn 2 v) := ⟨h.1, h.2.1, b1, h.2.2.2.1, h.2.2.2.2.1, h.2.2.2.2.2.1, h.2.2.2.2.2.2.1, h.2.2.2.2.2.2.2.1, h.2.2.2.2.2.2.2.2.1, h.2.2.2.2.2.2.2.2.2.1, h.2.2.2.2.2.2.2.2.2.2.1, h.2.2.2.2.2.2.2.2.2.2.2.1, h.2.2.2.2.2.2.2.2.2.2.2.2.1, h.2.2.2.2.2.2.2.2.2.2.2.2.2.1, h.2.2.2.2.2.2.2.2.2.2.2.2.2.2.1, h.2.2.2.2.2.2.2.2.2.2.2.2.2.2.2.1, h.2.2.2.2.2.2.2.2.2.2.2.2.2.2.2.2.1, h.2.2.2.2.2.2.2.2.2.2.2.2.2.2.2.2.2.1, h.2.2.2.2.2.2.2.2.2.2.2.2.2.2.2.2.2.2.1, h.2.2.2.2.2.2.2.2.2.2.2.2.2.2.2.2.2.2.2.1, h.2.2.2.2.2.2.2.2.2.2.2.2.2.2.2.2.2.2.2.2.1, h.2.2.2.2.2.2.2.2.2.2.2.2.2.2.2.2.2.2.2.2.2.1, h.2.2.2.2.2.2.2.2.2.2.2.2.2.2.2.2.2.2.2.2.2.2.1, h.2.2.2.2.2.2.2.2.2.2.2.2.2.2.2.2.2.2.2.2.2.2.2⟩
theorem CBX.u3 {cn : Nat → Nat} {v : Nat} (h : CBX cn) (b1 : v ≤ 200) : CBX (va_up cn 3 v) := ⟨h.1, h.2.1, h.2.2.1, b1, h.2.2.2.2.1, h.2.2.2.2.2.1, h.2.2.2.2.2.2.1, h.2.2.2.2.2.2.2.1, h.2.2.2.2.2.2.2.2.1, h.2.2.2.2.2.2.2.2.2.1, h.2.2.2.2.2.2.2.2.2.2.1, h.2.2.2.2.2.2.2.2.2.2.2.1, h.2.2.2.2.2.2.2.2.2.2.2.2.1, h.2.2.2.2.2.2.2.2.2.2.2.2.2.1, h.2.2.2.2.2.2.2.2.2.2.2.2.2.2.1, h.2.2.2.2.2.2.2.2.2.2.2.2.2.2.2.1, h.2.2.2.2.2.2.2.2.2.2.2.2.2.2.2.2.1, h.2.2.2.2.2.2.2.2.2.2.2.2.2.2.2.2.2.1, h.2.2.2.2.2.2.2.2.2.2.2.2.2.2.2.2.2.2.1, h.2.2.2.2.2.2.2.2.2.2.2.2.2.2.2.2.2.2.2.1, h.2.2.2.2.2.2.2.2.2.2.2.2.2.2.2.2.2.2.2.2.1, h.2.2.2.2.2.2.2.2.2.2.2.2.2.2.2.2.2.2.2.2.2.1, h.2.2.2.2.2.2.2.2.2.2.2.2.2.2.2.2.2.2.2.2.2.2.1, h.2.2.2.2.2.2.2.2.2.2.2.2.2.2.2.2.2.2.2.2.2.2.2⟩
theorem CBX.u4 {cn : Nat → Nat} {v : Nat} (h : CBX cn) (b1 : v ≤ 8) : CBX (va_up cn 4 v) := ⟨h.1, h.2.1, h.2.2.1, h.2.2.2.1, b1, h.2.2.2.2.2.1, h.2.2.2.2.2.2.1, h.2.2.2.2.2.2.2.1, h.2.2.2.2.2.2.2.2.1, h.2.2.2.2.2.2.2.2.2.1, h.2.2.2.2.2.2.2.2.2.2.1, h.2.2.2.2.2.2.2.2.2.2.2.1, h.2.2.2.2.2.2.2.2.2.2.2.2.1, h.2.2.2.2.2.2.2.2.2.2.2.2.2.1, h.2.2.2.2.2.2.2.2.2.2.2.2.2.2.1, h.2.2.2.2.2.2.2.2.2.2.2.2.2.2.2.1, h.2.2.2.2.2.2.2.2.2.2.2.2.2.2.2.2.1, h.2.2.2.2.2.2.2.2.2.2.2.2.2.2.2.2.2.1, h.2.2.2.2.2.2.2.2.2.2.2.2.2.2.2.2.2.2.1, h.2.2.2.2.2.2.2.2.2.2.2.2.2.2.2.2.2.2.2.1, h.2.2.2.2.2.2.2.2.2.2.2.2.2.2.2.2.2.2.2.2.1, h.2.2.2.2.2.2.2.2.2.2.2.2.2.2.2.2.2.2.2.2.2.1, h.2.2.2.2.2.2.2.2.2.2.2.2.2.2.2.2.2.2.2.2.2.2.1, h.2.2.2.2.2.2.2.2.2.2.2.2.2.2.2.2.2.2.2.2.2.2.2⟩
theorem CBX.u5 {cn : Nat → Nat} {v : Nat} (h : CBX cn) (b1 : v ≤ 40) : CBX (va_up cn 5 v) := ⟨h.1, h.2.1, h.2.2.1, h.2.2.2.1, h.2.2.2.2.1, b1, h.2.2.2.2.2.2.1, h.2.2.2.2.2.2.2.1, h.2.2.2.2.2.2.2.2.1, h.2.2.2.2.2.2.2.2.2.1, h.2.2.2.2.2.2.2.2.2.2.1, h.2.2.2.2.2.2.2.2.2.2.2.1, h.2.2.2.2.2.2.2.2.2.2.2.2.1, h.2.2.2.2.2.2.2.2.2.2.2.2.2.1, h.2.2.2.2.2.2.2.2.2.2.2.2.2.2.1, h.2.2.2.2.2.2.2.2.2.2.2.2.2.2.2.1, h.2.2.2.2.2.2.2.2.2.2.2.2.2.2.2.2.1, h.2.2.2.2.2.2.2.2.2.2.2.2.2.2.2.2.2.1, h.2.2.2.2.2.2.2.2.2.2.2.2.2.2.2.2.2.2.1, h.2.2.2.2.2.2.2.2.2.2.2.2.2.2.2.2.2.2.2.1, h.2.2.2.2.2.2.2.2.2.2.2.2.2.2.2.2.2.2.2.2.1, h.2.2.2.2.2.2.2.2.2.2.2.2.2.2.2.2.2.2.2.2.2.1, h.2.2.2.2.2.2.2.2.2.2.2.2.2.2.2.2.2.2.2.2.2.2.1, h.2.2.2.2.2.2.2.2.2.2.2.2.2.2.2.2.2.2.2.2.2.2.2⟩
theorem xl_0 {cI QA : ClassId} {zz : Nat} {g : Nat → Nat} {ad : Nat → Nat → Nat} {cn : Nat → Nat} {In : Nat → Int32} {Fn : Nat → Nat → Int32} (h : 0 < cn 10) : (wX cI QA zz g ad cn In Fn)[24]? = some (g 10, .inr (0, [.int (In 10), .ref (ad 2 0), .int (nI (cn 10))])) := by
  rw [xo_24, if_neg (by omega)]
theorem xl_1 {cI QA : ClassId} {zz : Nat} {g : Nat → Nat} {ad : Nat → Nat → Nat} {cn : Nat → Nat} {In : Nat → Int32} {Fn : Nat → Nat → Int32} (h : 0 < cn 11) : (wX cI QA zz g ad cn In Fn)[25]? = some (g 11, .inr (0, [.int (In 11), .ref (ad 2 1), .int (nI (cn 11))])) := by
  rw [xo_25, if_neg (by omega)]
theorem xl_2 {cI QA : ClassId} {zz : Nat} {g : Nat → Nat} {ad : Nat → Nat → Nat} {cn : Nat → Nat} {In : Nat → Int32} {Fn : Nat → Nat → Int32} (h : 0 < cn 12) : (wX cI QA zz g ad cn In Fn)[26]? = some (g 12, .inr (0, [.int (In 12), .ref (ad 2 2), .int (nI (cn 12))])) := by
  rw [xo_26, if_neg (by omega)]
theorem xl_3 {cI QA : ClassId} {zz : Nat} {g : Nat → Nat} {ad : Nat → Nat → Nat} {cn : Nat → Nat} {In : Nat → Int32} {Fn : Nat → Nat → Int32} (h : 0 < cn 13) : (wX cI QA zz g ad cn In Fn)[27]? = some (g 13, .inr (0, [.int (In 13), .ref (ad 2 3), .int (nI (cn 13))])) := by
  rw [xo_27, if_neg (by omega)]
theorem xl_4 {cI QA : ClassId} {zz : Nat} {g : Nat → Nat} {ad : Nat → Nat → Nat} {cn : Nat → Nat} {In : Nat → Int32} {Fn : Nat → Nat → Int32} (h : 0 < cn 14) : (wX cI QA zz g ad cn In Fn)[28]? = some (g 14, .inr (0, [.int (In 14), .ref (ad 2 4), .int (nI (cn 14))])) := by
  rw [xo_28, if_neg (by omega)]
theorem xl_5 {cI QA : ClassId} {zz : Nat} {g : Nat → Nat} {ad : Nat → Nat → Nat} {cn : Nat → Nat} {In : Nat → Int32} {Fn : Nat → Nat → Int32} (h : 0 < cn 15) : (wX cI QA zz g ad cn In Fn)[29]? = some (g 15, .inr (0, [.int (In 15), .ref (ad 2 5), .int (nI (cn 15))])) := by
  rw [xo_29, if_neg (by omega)]
theorem min200 {a : Nat} (h : a < 2 ^ 31) : (if (200 : Int32) < nI a then (200 : Int32) else nI a) = nI (min 200 a) := by
  have t := nI_toInt h
  by_cases q : 200 < a
  · rw [if_pos (Int32.lt_iff_toInt_lt.mpr (by rw [t]; show (200 : Int) < _; omega)), Nat.min_eq_left (by omega)]; rfl
  · rw [if_neg (fun w => by have w := Int32.lt_iff_toInt_lt.mp w; rw [t] at w; have e : (200 : Int32).toInt = 200 := rfl; omega), Nat.min_eq_right (by omega)]
theorem min200b {a : Nat} (h : a ≤ 200) : (if (200 : Int32) < nI a then (200 : Int32) else nI a) = nI a := by
  rw [min200 (by omega), Nat.min_eq_right h]

set_option maxRecDepth 100000 in
theorem kS_RX11_80 : CalS RX11 80 yX11_within cX11_within 3 (some .boolean) 3 := ⟨⟨wk2_4 4 rfl rfl, wk2_4 5 rfl rfl, wk1_0 1 rfl rfl, wk2_4 6 rfl rfl⟩, ⟨nmh_0.1, nmh_0.2, pd_26⟩⟩
set_option maxRecDepth 100000 in
theorem hin_RJx4a65c : ∀ w ∈ u_ws RJx4a65c TJx4a65c 3, w ∈ wT := hin_all (C := RJx4a65c) (T := TJx4a65c) (n := 3) (hin_s (hin_s (hin_s (fun k hk => absurd hk (Nat.not_lt_zero k)) (wk1_19 5 rfl rfl)) (wk1_19 1 rfl rfl)) (wk1_19 3 rfl rfl))
set_option maxRecDepth 100000 in
theorem gf_RJx4a65c_48 {p : Program} {l : Launch} {e : Env} {R : Room} {s : State} {m : MethodId} {args : Array Value} {below : List Frame} {meth : Method} {c : Code} {H : Heap} {locs : List Loc} {cells slots : Nat} {Q : State → Prop} {cc : ByteArray} {nL pc : Nat} {D : va_G} {cI cB cZ : ClassId} {ws : va_W} {rest : List Value} {ls : Array Slot} {a : Nat} {fs : List Value} {v : Value} (S : SF p m c cc nL s args RJx4a65c) (hK : KK D cI cB cZ s) (hP : va_P D vwCl ws H) (q0 : Nat) (he : ws[q0]? = some (a, .inr (0, fs))) (hv : fs[2]? = some v) (hdg : decode cc pc = .ok (.getfield 48, 3)) (kk : W p l e R s m args below meth c H locs cells slots Q (F0 m (pc + 3) ls (v :: rest))) : W p l e R s m args below meth c H locs cells slots Q (F0 m pc ls (.ref a :: rest)) :=
  va_get (C := RJx4a65c) (T := TJx4a65c) (N := 3) S.1 S.2.1 S.2.2.2.2 hin_RJx4a65c S.2.2.2.1 hK.1 hP q0 he rfl 2 (by decide) (S.2.2.2.2 _ (wk1_18 9 rfl rfl)) (fun _ h9 => h9) hv hdg kk
set_option maxRecDepth 100000 in
theorem kS_RJ15_105 : CalS RJ15 105 yJ3_checkIndex_8e157 cJ3_checkIndex_8e157 3 (some .int) 3 := ⟨⟨wk2_15 8 rfl rfl, wk2_15 9 rfl rfl, wk1_1 6 rfl rfl, wk2_15 10 rfl rfl⟩, ⟨nmh_25.1, nmh_25.2, pd_37⟩⟩
set_option maxRecDepth 100000 in
theorem gf_RJx4a65c_9 {p : Program} {l : Launch} {e : Env} {R : Room} {s : State} {m : MethodId} {args : Array Value} {below : List Frame} {meth : Method} {c : Code} {H : Heap} {locs : List Loc} {cells slots : Nat} {Q : State → Prop} {cc : ByteArray} {nL pc : Nat} {D : va_G} {cI cB cZ : ClassId} {ws : va_W} {rest : List Value} {ls : Array Slot} {a : Nat} {fs : List Value} {v : Value} (S : SF p m c cc nL s args RJx4a65c) (hK : KK D cI cB cZ s) (hP : va_P D vwCl ws H) (q0 : Nat) (he : ws[q0]? = some (a, .inr (0, fs))) (hv : fs[1]? = some v) (hdg : decode cc pc = .ok (.getfield 9, 3)) (kk : W p l e R s m args below meth c H locs cells slots Q (F0 m (pc + 3) ls (v :: rest))) : W p l e R s m args below meth c H locs cells slots Q (F0 m pc ls (.ref a :: rest)) :=
  va_get (C := RJx4a65c) (T := TJx4a65c) (N := 3) S.1 S.2.1 S.2.2.2.2 hin_RJx4a65c S.2.2.2.1 hK.1 hP q0 he rfl 1 (by decide) (S.2.2.2.2 _ (wk1_18 8 rfl rfl)) (fun _ h9 => h9) hv hdg kk
set_option maxRecDepth 100000 in
theorem kS_RJx4a65c_118 : CalS RJx4a65c 118 yJ15_checkIndex_7cf53 cJ15_checkIndex_7cf53 2 (some .int) 2 := ⟨⟨wk2_15 5 rfl rfl, wk2_15 6 rfl rfl, wk1_1 5 rfl rfl, wk2_15 7 rfl rfl⟩, ⟨nmh_23.1, nmh_23.2, pd_17⟩⟩
set_option maxRecDepth 100000 in
theorem kV_RJx4a65c_123 : CalV RJx4a65c 123 yJx4a65c_elementData_915e3 cJx4a65c_elementData_915e3 2 (some (.object "java/lang/Object")) 1 := ⟨⟨wk2_15 11 rfl rfl, wk2_16 0 rfl rfl, wk2_16 1 rfl rfl, wk1_1 0 rfl rfl, wk2_16 2 rfl rfl⟩, ⟨nmh_21.1, nmh_21.2, pd_13⟩⟩
set_option maxRecDepth 100000 in
theorem kS_RX11_99 : CalS RX11 99 yX11_isDay cX11_isDay 1 (some .boolean) 1 := ⟨⟨wk2_4 1 rfl rfl, wk2_4 2 rfl rfl, wk1_0 1 rfl rfl, wk2_4 3 rfl rfl⟩, ⟨nmh_0.1, nmh_0.2, pd_15⟩⟩
set_option maxRecDepth 100000 in
theorem hin_RX11 : ∀ w ∈ u_ws RX11 TX11 16, w ∈ wT := hin_all (C := RX11) (T := TX11) (n := 16) (hin_s (hin_s (hin_s (hin_s (hin_s (hin_s (hin_s (hin_s (hin_s (hin_s (hin_s (hin_s (hin_s (hin_s (hin_s (hin_s (fun k hk => absurd hk (Nat.not_lt_zero k)) (wk2_1 0 rfl rfl)) (wk2_1 2 rfl rfl)) (wk2_1 4 rfl rfl)) (wk2_1 6 rfl rfl)) (wk2_1 8 rfl rfl)) (wk2_1 10 rfl rfl)) (wk2_2 0 rfl rfl)) (wk2_2 2 rfl rfl)) (wk2_2 4 rfl rfl)) (wk2_2 6 rfl rfl)) (wk2_2 8 rfl rfl)) (wk2_2 10 rfl rfl)) (wk2_3 0 rfl rfl)) (wk2_3 2 rfl rfl)) (wk2_3 4 rfl rfl)) (wk2_3 6 rfl rfl))
set_option maxRecDepth 100000 in
theorem gf_RX11_103 {p : Program} {l : Launch} {e : Env} {R : Room} {s : State} {m : MethodId} {args : Array Value} {below : List Frame} {meth : Method} {c : Code} {H : Heap} {locs : List Loc} {cells slots : Nat} {Q : State → Prop} {cc : ByteArray} {nL pc : Nat} {D : va_G} {cI cB cZ : ClassId} {ws : va_W} {rest : List Value} {ls : Array Slot} {a : Nat} {fs : List Value} {v : Value} (S : SF p m c cc nL s args RX11) (hK : KK D cI cB cZ s) (hP : va_P D vwCl ws H) (q0 : Nat) (he : ws[q0]? = some (a, .inr (12, fs))) (hv : fs[0]? = some v) (hdg : decode cc pc = .ok (.getfield 103, 3)) (kk : W p l e R s m args below meth c H locs cells slots Q (F0 m (pc + 3) ls (v :: rest))) : W p l e R s m args below meth c H locs cells slots Q (F0 m pc ls (.ref a :: rest)) :=
  va_get (C := RX11) (T := TX11) (N := 16) S.1 S.2.1 S.2.2.2.2 hin_RX11 S.2.2.2.1 hK.1 hP q0 he rfl 0 (by decide) (S.2.2.2.2 _ (wk1_19 8 rfl rfl)) (fun _ h9 => h9) hv hdg kk
set_option maxRecDepth 100000 in
theorem pf_RX11_103 {p : Program} {l : Launch} {e : Env} {R : Room} {s : State} {m : MethodId} {args : Array Value} {below : List Frame} {meth : Method} {c : Code} {H : Heap} {locs : List Loc} {cells slots : Nat} {Q : State → Prop} {cc : ByteArray} {nL pc : Nat} {D : va_G} {cI cB cZ : ClassId} {ws : va_W} {rest : List Value} {ls : Array Slot} {a : Nat} {fs : List Value} {v : Value} {A : Nat → Prop} {H0 : Heap} (S : SF p m c cc nL s args RX11) (hK : KK D cI cB cZ s) (hP : va_P D vwCl ws H) (hD : va_D A ws) (hS : va_S A H0 H locs) (q0 : Nat) (he : ws[q0]? = some (a, .inr (12, fs))) (hl : 0 < fs.length) (hn : narrow (tyX11 0) v = v) (hfit : fits (tyX11 0) v = true) (hdg : decode cc pc = .ok (.putfield 103, 3)) (kk : ∀ (H1 : Heap) (locs1 : List Loc), va_P D vwCl (ws.set q0 (a, .inr (12, fs.set 0 v))) H1 → va_D A (ws.set q0 (a, .inr (12, fs.set 0 v))) → va_S A H0 H1 locs1 → W p l e R s m args below meth c H1 locs1 cells slots Q (F0 m (pc + 3) ls rest)) : W p l e R s m args below meth c H locs cells slots Q (F0 m pc ls (v :: .ref a :: rest)) :=
  va_put (C := RX11) (T := TX11) (N := 16) S.1 S.2.1 S.2.2.2.2 hin_RX11 tyX11 tyX11_ok nmX11 S.2.2.2.1 hK.1 hP hD hS q0 he rfl 0 (by decide) (S.2.2.2.2 _ (wk1_19 8 rfl rfl)) (fun _ h9 => h9) rfl (tyX11_ok 0 (by decide)) hn hfit hl hdg kk
noncomputable def sxX11_within_16 : List UInt8 := []
theorem shX11_within_0 : cX11_within.data.toList.drop 0 = 26 :: 27 :: 161 :: 0 :: 12 :: 26 :: 28 :: 163 :: 0 :: 7 :: 4 :: 167 :: 0 :: 4 :: 3 :: 172 :: sxX11_within_16 := rfl
noncomputable def sxX11_isDay_9 : List UInt8 := []
theorem shX11_isDay_0 : cX11_isDay.data.toList.drop 0 = 26 :: 3 :: 17 :: 1 :: 143 :: 184 :: 0 :: 80 :: 172 :: sxX11_isDay_9 := rfl
noncomputable def sxJx4a65c_size_8abf5_5 : List UInt8 := []
theorem shJx4a65c_size_8abf5_0 : cJx4a65c_size_8abf5.data.toList.drop 0 = 42 :: 180 :: 0 :: 48 :: 172 :: sxJx4a65c_size_8abf5_5 := rfl
noncomputable def sxJ3_checkIndex_8e157_18 : List UInt8 := []
theorem shJ3_checkIndex_8e157_0 : cJ3_checkIndex_8e157.data.toList.drop 0 = 26 :: 155 :: 0 :: 8 :: 26 :: 27 :: 161 :: 0 :: 10 :: 44 :: 26 :: 27 :: 184 :: 0 :: 95 :: 191 :: 26 :: 172 :: sxJ3_checkIndex_8e157_18 := rfl
noncomputable def sxJ15_checkIndex_7cf53_7 : List UInt8 := []
theorem shJ15_checkIndex_7cf53_0 : cJ15_checkIndex_7cf53.data.toList.drop 0 = 26 :: 27 :: 1 :: 184 :: 0 :: 105 :: 172 :: sxJ15_checkIndex_7cf53_7 := rfl
noncomputable def sxJx4a65c_elementData_915e3_7 : List UInt8 := []
theorem shJx4a65c_elementData_915e3_0 : cJx4a65c_elementData_915e3.data.toList.drop 0 = 42 :: 180 :: 0 :: 9 :: 27 :: 50 :: 176 :: sxJx4a65c_elementData_915e3_7 := rfl
noncomputable def sxJx4a65c_get_915e3_15 : List UInt8 := []
theorem shJx4a65c_get_915e3_0 : cJx4a65c_get_915e3.data.toList.drop 0 = 27 :: 42 :: 180 :: 0 :: 48 :: 184 :: 0 :: 118 :: 87 :: 42 :: 27 :: 182 :: 0 :: 123 :: 176 :: sxJx4a65c_get_915e3_15 := rfl
noncomputable def sxX7_at_18 : List UInt8 := []
theorem shX7_at_0 : cX7_at.data.toList.drop 0 = 27 :: 155 :: 0 :: 9 :: 27 :: 42 :: 190 :: 161 :: 0 :: 7 :: 3 :: 167 :: 0 :: 6 :: 42 :: 27 :: 46 :: 172 :: sxX7_at_18 := rfl
noncomputable def sxX7_put_15 : List UInt8 := []
theorem shX7_put_0 : cX7_put.data.toList.drop 0 = 27 :: 155 :: 0 :: 13 :: 27 :: 42 :: 190 :: 162 :: 0 :: 7 :: 42 :: 27 :: 28 :: 79 :: 177 :: sxX7_put_15 := rfl
noncomputable def sxX7_tell_29 : List UInt8 := []
noncomputable def sxX7_tell_24 : List UInt8 := 27 :: 28 :: 79 :: 4 :: 172 :: sxX7_tell_29
theorem shX7_tell_0 : cX7_tell.data.toList.drop 0 = 27 :: 155 :: 0 :: 20 :: 27 :: 42 :: 190 :: 162 :: 0 :: 14 :: 28 :: 29 :: 161 :: 0 :: 9 :: 28 :: 21 :: 4 :: 164 :: 0 :: 5 :: 3 :: 172 :: 42 :: sxX7_tell_24 := rfl
theorem shX7_tell_24 : cX7_tell.data.toList.drop 24 = 27 :: 28 :: 79 :: 4 :: 172 :: sxX7_tell_29 := aq_24 shX7_tell_0
theorem dX7_tell_21 : decode cX7_tell 21 = .ok (.iconst 0, 1) := oc_3 21 (aq_21 shX7_tell_0)
theorem dX7_tell_22 : decode cX7_tell 22 = .ok (.ireturn, 1) := oc_172 22 (aq_22 shX7_tell_0)
noncomputable def sxX11_now_24 : List UInt8 := []
theorem shX11_now_0 : cX11_now.data.toList.drop 0 = 27 :: 184 :: 0 :: 99 :: 153 :: 0 :: 11 :: 27 :: 42 :: 180 :: 0 :: 103 :: 162 :: 0 :: 5 :: 3 :: 172 :: 42 :: 27 :: 181 :: 0 :: 103 :: 4 :: 172 :: sxX11_now_24 := rfl
set_option maxRecDepth 100000 in
set_option maxHeartbeats 4000000 in
theorem q_l_within (l : Launch) (D : va_G) (cI cB cZ : ClassId) (v0 v1 v2 : Int32) : Met l yX11_within (CWS yX11_within cX11_within 3 (some .boolean)) (RM 0 0 0) (PBr [.int v0, .int v1, .int v2] D cI cB cZ []) (vp_Si (fun r => (r = 1 ∧ (v1.toInt ≤ v0.toInt ∧ v0.toInt ≤ v2.toInt)) ∨ (r = 0 ∧ ¬ (v1.toInt ≤ v0.toInt ∧ v0.toInt ≤ v2.toInt)))) 0 0 (fun _ => False) := by
  refine en_r rfl pn_RX11 (Nat.le_of_ble_eq_true rfl) (fun p e s m below meth c hx hb hml hown S hr hlocks hnm hP hK hS ls hl => ?_)
  have hP : va_P D vwCl [] s.heap := hP
  have hl : lv_has ls 3 [(0, .int v0), (1, .int v1), (2, .int v2)] := hl
  refine lv_iload_n hx hb (oc_26 0 shX11_within_0) rfl (lvA0 hl) ?_
  refine lv_iload_n hx hb (oc_27 1 (aq_1 shX11_within_0)) rfl (lvA1 hl) ?_
  refine lv_icmp_lt (tgt := 14) hx hb (oc_161 2 (aq_2 shX11_within_0) sgw_0_12) rfl (fun c_1 => ?_) (fun c_1 => ?_)
  ·
    have tc_1 : (v0.toInt : Int) < v1.toInt := Int32.lt_iff_toInt_lt.mp c_1
    refine lv_iconst (v := 0) hx hb (oc_3 14 (aq_14 shX11_within_0)) kic_0 ?_
    exact W.zret (v := 0) hx hb hr rfl (fun t ht hW => ⟨0, rfl, (Or.inr ⟨rfl, by omega⟩), ht⟩) (fun _ h => absurd h List.not_mem_nil) (oc_172 15 (aq_15 shX11_within_0))
  ·
    have tc_1 : (v1.toInt : Int) ≤ v0.toInt := Int32.le_iff_toInt_le.mp (Int32.not_lt.mp c_1)
    refine lv_iload_n hx hb (oc_26 5 (aq_5 shX11_within_0)) rfl (lvA0 hl) ?_
    refine lv_iload_n hx hb (oc_28 6 (aq_6 shX11_within_0)) rfl (lvA2 hl) ?_
    refine lv_icmp_gt (tgt := 14) hx hb (oc_163 7 (aq_7 shX11_within_0) sgw_0_7) rfl (fun c_2 => ?_) (fun c_2 => ?_)
    ·
      have tc_2 : (v2.toInt : Int) < v0.toInt := Int32.lt_iff_toInt_lt.mp c_2
      refine lv_iconst (v := 0) hx hb (oc_3 14 (aq_14 shX11_within_0)) kic_0 ?_
      exact W.zret (v := 0) hx hb hr rfl (fun t ht hW => ⟨0, rfl, (Or.inr ⟨rfl, by omega⟩), ht⟩) (fun _ h => absurd h List.not_mem_nil) (oc_172 15 (aq_15 shX11_within_0))
    ·
      have tc_2 : (v0.toInt : Int) ≤ v2.toInt := Int32.le_iff_toInt_le.mp (Int32.not_lt.mp c_2)
      refine lv_iconst (v := 1) hx hb (oc_4 10 (aq_10 shX11_within_0)) kic_1 ?_
      refine lv_goto (tgt := 15) hx hb (oc_167 11 (aq_11 shX11_within_0) sgw_0_4) rfl ?_
      exact W.zret (v := 1) hx hb hr rfl (fun t ht hW => ⟨1, rfl, (Or.inl ⟨rfl, by omega⟩), ht⟩) (fun _ h => absurd h List.not_mem_nil) (oc_172 15 (aq_15 shX11_within_0))
set_option maxRecDepth 100000 in
set_option maxHeartbeats 4000000 in
theorem q_l_isDay (l : Launch) (D : va_G) (cI cB cZ : ClassId) (v0 : Int32) : Met l yX11_isDay (CWS yX11_isDay cX11_isDay 1 (some .boolean)) (RM 1 0 0) (PBr [.int v0] D cI cB cZ []) (vp_Si (fun r => (r = 1 ∧ (0 ≤ v0.toInt ∧ v0.toInt ≤ 399)) ∨ (r = 0 ∧ ¬ (0 ≤ v0.toInt ∧ v0.toInt ≤ 399)))) 0 0 (fun _ => False) := by
  refine en_r rfl pn_RX11 (Nat.le_of_ble_eq_true rfl) (fun p e s m below meth c hx hb hml hown S hr hlocks hnm hP hK hS ls hl => ?_)
  have hP : va_P D vwCl [] s.heap := hP
  have hl : lv_has ls 1 [(0, .int v0)] := hl
  refine lv_iload_n hx hb (oc_26 0 shX11_isDay_0) rfl (lvA0 hl) ?_
  refine lv_iconst (v := 0) hx hb (oc_3 1 (aq_1 shX11_isDay_0)) kic_0 ?_
  refine lv_sipush (v := 399) hx hb (oc_17 2 (aq_2 shX11_isDay_0) sgw_1_143) (by decide) ?_
  refine vp_callSi (runS_r (As := [.int v0, .int 0, .int 399]) (rest := []) S (q_l_within l D cI cB cZ v0 0 399) kS_RX11_80 hK hP [] rfl ⟨Nat.le_of_ble_eq_true rfl, Nat.le_of_ble_eq_true rfl⟩ ⟨Nat.le_of_ble_eq_true rfl, Nat.le_of_ble_eq_true rfl⟩ rfl hl.1 rfl (Nat.le_of_ble_eq_true rfl) (oc_184 5 (aq_5 shX11_isDay_0) uw_0_80)) (fun r_1 h_2 => ?_)
  rcases h_2 with ⟨rfl, h_2⟩ | ⟨rfl, h_2⟩
  ·
    have h_2 : 0 ≤ v0.toInt ∧ v0.toInt ≤ 399 := h_2
    exact W.zret (v := 1) hx hb hr rfl (fun t ht hW => ⟨1, rfl, (Or.inl ⟨rfl, by omega⟩), ht⟩) (fun _ h => absurd h List.not_mem_nil) (oc_172 8 (aq_8 shX11_isDay_0))
  ·
    have h_2 : ¬ (0 ≤ v0.toInt ∧ v0.toInt ≤ 399) := h_2
    exact W.zret (v := 0) hx hb hr rfl (fun t ht hW => ⟨0, rfl, (Or.inr ⟨rfl, by omega⟩), ht⟩) (fun _ h => absurd h List.not_mem_nil) (oc_172 8 (aq_8 shX11_isDay_0))
set_option maxRecDepth 100000 in
set_option maxHeartbeats 4000000 in
theorem q_l_size (l : Launch) (D : va_G) (cI cB cZ : ClassId) (x z : Nat) (mc n : Int32) : Met l yJx4a65c_size_8abf5 (CWS yJx4a65c_size_8abf5 cJx4a65c_size_8abf5 1 (some .int)) (RM 0 0 0) (PBr [.ref x] D cI cB cZ [(x, .inr (0, [.int mc, .ref z, .int n]))]) (vp_Si (fun r => r = n)) 0 0 (fun _ => False) := by
  refine en_r rfl pn_RJx4a65c (Nat.le_of_ble_eq_true rfl) (fun p e s m below meth c hx hb hml hown S hr hlocks hnm hP hK hS ls hl => ?_)
  have hP : va_P D vwCl [(x, .inr (0, [.int mc, .ref z, .int n]))] s.heap := hP
  have hl : lv_has ls 1 [(0, .ref x)] := hl
  refine lv_aload_n hx hb (oc_42 0 shJx4a65c_size_8abf5_0) rfl (lvA0 hl) ?_
  refine gf_RJx4a65c_48 S hK hP 0 rfl (v := .int n) rfl (oc_180 1 (aq_1 shJx4a65c_size_8abf5_0) uw_0_48) ?_
  exact W.iret (v := n) hx hb hr (fun t ht hW => ⟨n, rfl, rfl, ht⟩) (fun _ h => absurd h List.not_mem_nil) (oc_172 4 (aq_4 shJx4a65c_size_8abf5_0))
set_option maxRecDepth 100000 in
set_option maxHeartbeats 4000000 in
theorem q_l_chk3 (l : Launch) (D : va_G) (cI cB cZ : ClassId) (k0 n : Nat) (hk : k0 < n) (hn : n < 2147483648) : Met l yJ3_checkIndex_8e157 (CWS yJ3_checkIndex_8e157 cJ3_checkIndex_8e157 3 (some .int)) (RM 0 0 0) (PBr [.int (nI k0), .int (nI n), .null] D cI cB cZ []) (vp_Si (fun r => r = nI k0)) 0 0 (fun _ => False) := by
  refine en_r rfl pn_RJ3 (Nat.le_of_ble_eq_true rfl) (fun p e s m below meth c hx hb hml hown S hr hlocks hnm hP hK hS ls hl => ?_)
  have hP : va_P D vwCl [] s.heap := hP
  have hl : lv_has ls 3 [(0, .int (nI k0)), (1, .int (nI n)), (2, .null)] := hl
  have tk := nI_toInt (n := k0) (by omega)
  have tn := nI_toInt (n := n) (by omega)
  refine lv_iload_n hx hb (oc_26 0 shJ3_checkIndex_8e157_0) rfl (lvA0 hl) ?_
  refine lv_if_lt (tgt := 9) hx hb (oc_155 1 (aq_1 shJ3_checkIndex_8e157_0) sgw_0_8) rfl (fun c_1 => False.elim (by have tc_1 : ((nI k0).toInt : Int) < 0 := Int32.lt_iff_toInt_lt.mp c_1; omega)) (fun c_1 => ?_)
  have tc_1 : (0 : Int) ≤ (nI k0).toInt := Int32.le_iff_toInt_le.mp (Int32.not_lt.mp c_1)
  refine lv_iload_n hx hb (oc_26 4 (aq_4 shJ3_checkIndex_8e157_0)) rfl (lvA0 hl) ?_
  refine lv_iload_n hx hb (oc_27 5 (aq_5 shJ3_checkIndex_8e157_0)) rfl (lvA1 hl) ?_
  refine lv_icmp_lt (tgt := 16) hx hb (oc_161 6 (aq_6 shJ3_checkIndex_8e157_0) sgw_0_10) rfl (fun c_2 => ?_) (fun c_2 => False.elim (by have tc_2 : ((nI n).toInt : Int) ≤ (nI k0).toInt := Int32.le_iff_toInt_le.mp (Int32.not_lt.mp c_2); omega))
  have tc_2 : ((nI k0).toInt : Int) < (nI n).toInt := Int32.lt_iff_toInt_lt.mp c_2
  refine lv_iload_n hx hb (oc_26 16 (aq_16 shJ3_checkIndex_8e157_0)) rfl (lvA0 hl) ?_
  exact W.iret (v := (nI k0)) hx hb hr (fun t ht hW => ⟨(nI k0), rfl, rfl, ht⟩) (fun _ h => absurd h List.not_mem_nil) (oc_172 17 (aq_17 shJ3_checkIndex_8e157_0))
set_option maxRecDepth 100000 in
set_option maxHeartbeats 4000000 in
theorem q_l_chk (l : Launch) (D : va_G) (cI cB cZ : ClassId) (k0 n : Nat) (hk : k0 < n) (hn : n < 2147483648) : Met l yJ15_checkIndex_7cf53 (CWS yJ15_checkIndex_7cf53 cJ15_checkIndex_7cf53 2 (some .int)) (RM 1 0 0) (PBr [.int (nI k0), .int (nI n)] D cI cB cZ []) (vp_Si (fun r => r = nI k0)) 0 0 (fun _ => False) := by
  refine en_r rfl pn_RJ15 (Nat.le_of_ble_eq_true rfl) (fun p e s m below meth c hx hb hml hown S hr hlocks hnm hP hK hS ls hl => ?_)
  have hP : va_P D vwCl [] s.heap := hP
  have hl : lv_has ls 2 [(0, .int (nI k0)), (1, .int (nI n))] := hl
  refine lv_iload_n hx hb (oc_26 0 shJ15_checkIndex_7cf53_0) rfl (lvA0 hl) ?_
  refine lv_iload_n hx hb (oc_27 1 (aq_1 shJ15_checkIndex_7cf53_0)) rfl (lvA1 hl) ?_
  refine lv_null hx hb (oc_1 2 (aq_2 shJ15_checkIndex_7cf53_0)) ?_
  refine vp_callSi (runS_r (As := [.int (nI k0), .int (nI n), .null]) (rest := []) S (q_l_chk3 l D cI cB cZ k0 n (by omega) (by omega)) kS_RJ15_105 hK hP [] rfl ⟨Nat.le_of_ble_eq_true rfl, Nat.le_of_ble_eq_true rfl⟩ ⟨Nat.le_of_ble_eq_true rfl, Nat.le_of_ble_eq_true rfl⟩ rfl hl.1 rfl (Nat.le_of_ble_eq_true rfl) (oc_184 3 (aq_3 shJ15_checkIndex_7cf53_0) uw_0_105)) (fun r_1 h_2 => ?_)
  subst h_2
  exact W.iret (v := (nI k0)) hx hb hr (fun t ht hW => ⟨(nI k0), rfl, rfl, ht⟩) (fun _ h => absurd h List.not_mem_nil) (oc_172 6 (aq_6 shJ15_checkIndex_7cf53_0))
set_option maxRecDepth 100000 in
set_option maxHeartbeats 4000000 in
theorem q_l_elem (l : Launch) (D : va_G) (cI cB cZ : ClassId) (zz qq vv : Nat) (bt : Nat → Int32) (x z c0 n k0 o : Nat) (mc : Int32) (rf : Nat → Option Nat) (hk : k0 < c0) (ho : rf k0 = some o) (hc : c0 < 2147483648) : Met l yJx4a65c_elementData_915e3 (CWS yJx4a65c_elementData_915e3 cJx4a65c_elementData_915e3 2 (some (.object "java/lang/Object"))) (RM 0 0 0) (PBrx [.ref x, .int (nI k0)] D cI cB cZ zz qq vv bt [(x, .inr (0, [.int mc, .ref z, .int (nI n)])), (z, .inl (D.1 99, c0, .inr (.inr (.inr (.inr rf)))))]) (va_Sq (fun r => r = some o)) 0 0 (fun _ => False) := by
  refine en_rx rfl pn_RJx4a65c (Nat.le_of_ble_eq_true rfl) (fun p e s m below meth c hx hb hml hown S hr hlocks hnm hP hK hXS hS ls hl => ?_)
  have hP : va_P D vwCl [(x, .inr (0, [.int mc, .ref z, .int (nI n)])), (z, .inl (D.1 99, c0, .inr (.inr (.inr (.inr rf)))))] s.heap := hP
  have hl : lv_has ls 2 [(0, .ref x), (1, .int (nI k0))] := hl
  refine lv_aload_n hx hb (oc_42 0 shJx4a65c_elementData_915e3_0) rfl (lvA0 hl) ?_
  refine gf_RJx4a65c_9 S hK hP 0 rfl (v := .ref z) rfl (oc_180 1 (aq_1 shJx4a65c_elementData_915e3_0) uw_0_9) ?_
  refine lv_iload_n hx hb (oc_27 4 (aq_4 shJx4a65c_elementData_915e3_0)) rfl (lvA1 hl) ?_
  refine va_aldq hx hb hXS.2.2.2.2.2.2.2.2.1 hP 1 0 rfl rfl (vp_in_nI (by omega) (by omega)) (oc_50 5 (aq_5 shJx4a65c_elementData_915e3_0)) ?_
  rw [show rf (nI k0).toNatClampNeg = some o by rw [nI_clamp (by omega)]; exact ho]
  exact W.aret (v := .ref o) hx hb hr (Or.inl ⟨_, rfl⟩) (Or.inr ⟨_, rfl⟩) (fun t ht hW => ⟨some o, rfl, rfl, ht⟩) (fun _ h => absurd h List.not_mem_nil) (oc_176 6 (aq_6 shJx4a65c_elementData_915e3_0))
set_option maxRecDepth 100000 in
set_option maxHeartbeats 4000000 in
theorem q_l_get (l : Launch) (D : va_G) (cI cB cZ : ClassId) (zz qq vv : Nat) (bt : Nat → Int32) (x z c0 n k0 o : Nat) (mc : Int32) (rf : Nat → Option Nat) (hk : k0 < n) (ho : rf k0 = some o) (hn : n ≤ c0) (hc : c0 < 2147483648) : Met l yJx4a65c_get_915e3 (CWS yJx4a65c_get_915e3 cJx4a65c_get_915e3 2 (some (.object "java/lang/Object"))) (RM 2 0 0) (PBrx [.ref x, .int (nI k0)] D cI cB cZ zz qq vv bt [(x, .inr (0, [.int mc, .ref z, .int (nI n)])), (z, .inl (D.1 99, c0, .inr (.inr (.inr (.inr rf)))))]) (va_Sq (fun r => r = some o)) 0 0 (fun _ => False) := by
  refine en_rx rfl pn_RJx4a65c (Nat.le_of_ble_eq_true rfl) (fun p e s m below meth c hx hb hml hown S hr hlocks hnm hP hK hXS hS ls hl => ?_)
  have hP : va_P D vwCl [(x, .inr (0, [.int mc, .ref z, .int (nI n)])), (z, .inl (D.1 99, c0, .inr (.inr (.inr (.inr rf)))))] s.heap := hP
  have hl : lv_has ls 2 [(0, .ref x), (1, .int (nI k0))] := hl
  refine lv_iload_n hx hb (oc_27 0 shJx4a65c_get_915e3_0) rfl (lvA1 hl) ?_
  refine lv_aload_n hx hb (oc_42 1 (aq_1 shJx4a65c_get_915e3_0)) rfl (lvA0 hl) ?_
  refine gf_RJx4a65c_48 S hK hP 0 rfl (v := .int (nI n)) rfl (oc_180 2 (aq_2 shJx4a65c_get_915e3_0) uw_0_48) ?_
  refine vp_callSi (runS_r (As := [.int (nI k0), .int (nI n)]) (rest := []) S (q_l_chk l D cI cB cZ k0 n (by omega) (by omega)) kS_RJx4a65c_118 hK hP [] rfl ⟨Nat.le_of_ble_eq_true rfl, Nat.le_of_ble_eq_true rfl⟩ ⟨Nat.le_of_ble_eq_true rfl, Nat.le_of_ble_eq_true rfl⟩ rfl hl.1 rfl (Nat.le_of_ble_eq_true rfl) (oc_184 5 (aq_5 shJx4a65c_get_915e3_0) uw_0_118)) (fun r_1 h_2 => ?_)
  subst h_2
  refine lv_pop hx hb (oc_87 8 (aq_8 shJx4a65c_get_915e3_0)) rfl ?_
  refine lv_aload_n hx hb (oc_42 9 (aq_9 shJx4a65c_get_915e3_0)) rfl (lvA0 hl) ?_
  refine lv_iload_n hx hb (oc_27 10 (aq_10 shJx4a65c_get_915e3_0)) rfl (lvA1 hl) ?_
  refine va_csq (runV_rx (As := [.int (nI k0)]) (rest := []) S (q_l_elem l D cI cB cZ zz qq vv bt x z c0 n k0 o mc rf (by omega) ho (by omega)) kV_RJx4a65c_123 hK hXS hS hP [0, 1] rfl (va_recv hK.1 hP (q0 := 0) (ci := 0) rfl rfl) ⟨Nat.le_of_ble_eq_true rfl, Nat.le_of_ble_eq_true rfl⟩ ⟨Nat.le_of_ble_eq_true rfl, Nat.le_of_ble_eq_true rfl⟩ rfl hl.1 rfl (Nat.le_of_ble_eq_true rfl) (oc_182 11 (aq_11 shJx4a65c_get_915e3_0) uw_0_123)) (fun r_3 h_4 => ?_)
  subst h_4
  exact W.aret (v := .ref o) hx hb hr (Or.inl ⟨_, rfl⟩) (Or.inr ⟨_, rfl⟩) (fun t ht hW => ⟨some o, rfl, rfl, ht⟩) (fun _ h => absurd h List.not_mem_nil) (oc_176 14 (aq_14 shJx4a65c_get_915e3_0))
set_option maxRecDepth 100000 in
set_option maxHeartbeats 4000000 in
theorem q_l_at (l : Launch) (D : va_G) (cI cB cZ : ClassId) (a n : Nat) (f : Nat → Int32) (v0 : Int32) (hn : n < 2147483648) : Met l yX7_at (CWS yX7_at cX7_at 2 (some .int)) (RM 0 0 0) (PBr [.ref a, .int v0] D cI cB cZ [(a, .inl (cI, n, .inl f))]) (vp_Si (fun r => r = atM f n v0)) 0 0 (fun _ => False) := by
  refine en_r rfl pn_RX7 (Nat.le_of_ble_eq_true rfl) (fun p e s m below meth c hx hb hml hown S hr hlocks hnm hP hK hS ls hl => ?_)
  have hP : va_P D vwCl [(a, .inl (cI, n, .inl f))] s.heap := hP
  have hl : lv_has ls 2 [(0, .ref a), (1, .int v0)] := hl
  have tn : (nI n).toInt = (n : Int) := nI_toInt (by omega)
  refine lv_iload_n hx hb (oc_27 0 shX7_at_0) rfl (lvA1 hl) ?_
  refine lv_if_lt (tgt := 10) hx hb (oc_155 1 (aq_1 shX7_at_0) sgw_0_9) rfl (fun c_1 => ?_) (fun c_1 => ?_)
  ·
    have tc_1 : (v0.toInt : Int) < 0 := Int32.lt_iff_toInt_lt.mp c_1
    refine lv_iconst (v := 0) hx hb (oc_3 10 (aq_10 shX7_at_0)) kic_0 ?_
    refine lv_goto (tgt := 17) hx hb (oc_167 11 (aq_11 shX7_at_0) sgw_0_6) rfl ?_
    exact W.iret (v := 0) hx hb hr (fun t ht hW => ⟨0, rfl, (if_neg (by omega)).symm, ht⟩) (fun _ h => absurd h List.not_mem_nil) (oc_172 17 (aq_17 shX7_at_0))
  ·
    have tc_1 : (0 : Int) ≤ v0.toInt := Int32.le_iff_toInt_le.mp (Int32.not_lt.mp c_1)
    refine lv_iload_n hx hb (oc_27 4 (aq_4 shX7_at_0)) rfl (lvA1 hl) ?_
    refine lv_aload_n hx hb (oc_42 5 (aq_5 shX7_at_0)) rfl (lvA0 hl) ?_
    refine va_alen hx hb hK.1 hP 0 0 rfl rfl (v := (nI n)) rfl (oc_190 6 (aq_6 shX7_at_0)) ?_
    refine lv_icmp_lt (tgt := 14) hx hb (oc_161 7 (aq_7 shX7_at_0) sgw_0_7) rfl (fun c_2 => ?_) (fun c_2 => ?_)
    ·
      have tc_2 : (v0.toInt : Int) < (nI n).toInt := Int32.lt_iff_toInt_lt.mp c_2
      refine lv_aload_n hx hb (oc_42 14 (aq_14 shX7_at_0)) rfl (lvA0 hl) ?_
      refine lv_iload_n hx hb (oc_27 15 (aq_15 shX7_at_0)) rfl (lvA1 hl) ?_
      refine va_iald hx hb hK.1 hP 0 0 rfl rfl (vp_in_iff.mpr ⟨by omega, by omega⟩) (oc_46 16 (aq_16 shX7_at_0)) ?_
      exact W.iret (v := (f v0.toNatClampNeg)) hx hb hr (fun t ht hW => ⟨(f v0.toNatClampNeg), rfl, (if_pos (by omega)).symm, ht⟩) (fun _ h => absurd h List.not_mem_nil) (oc_172 17 (aq_17 shX7_at_0))
    ·
      have tc_2 : ((nI n).toInt : Int) ≤ v0.toInt := Int32.le_iff_toInt_le.mp (Int32.not_lt.mp c_2)
      refine lv_iconst (v := 0) hx hb (oc_3 10 (aq_10 shX7_at_0)) kic_0 ?_
      refine lv_goto (tgt := 17) hx hb (oc_167 11 (aq_11 shX7_at_0) sgw_0_6) rfl ?_
      exact W.iret (v := 0) hx hb hr (fun t ht hW => ⟨0, rfl, (if_neg (by omega)).symm, ht⟩) (fun _ h => absurd h List.not_mem_nil) (oc_172 17 (aq_17 shX7_at_0))
set_option maxRecDepth 100000 in
set_option maxHeartbeats 4000000 in
theorem q_l_put (l : Launch) (D : va_G) (cI cB cZ : ClassId) (a n : Nat) (f : Nat → Int32) (v0 v1 : Int32) (sz : Nat) (hn : n < 2147483648) : Met l yX7_put (CWS yX7_put cX7_put 3 none) (RM 0 0 0) (PBw [.ref a, .int v0, .int v1] D cI cB cZ [(a, .inl (cI, n, .inl f))] sz) (va_Qv (fun (u : Nat → Int32) => u = putM f n v0 v1) (fun (u : Nat → Int32) (t : State) => va_P D vwCl [(a, .inl (cI, n, .inl u))] t.heap ∧ va_D (va_A [(a, .inl (cI, n, .inl f))] sz) [(a, .inl (cI, n, .inl u))]) (va_A [(a, .inl (cI, n, .inl f))] sz)) 0 0 (va_A [(a, .inl (cI, n, .inl f))] sz) := by
  refine en_w (fun A => (va_Qv (fun (u : Nat → Int32) => u = putM f n v0 v1) (fun (u : Nat → Int32) (t : State) => va_P D vwCl [(a, .inl (cI, n, .inl u))] t.heap ∧ va_D A [(a, .inl (cI, n, .inl u))]) A)) rfl rfl pn_RX7 (Nat.le_of_ble_eq_true rfl) (fun p e s m below meth c A hx hb hml hown S hr hlocks hnm hA hP hK hD hS ls hl => ?_)
  have hP : va_P D vwCl [(a, .inl (cI, n, .inl f))] s.heap := hP
  have hD : va_D A [(a, .inl (cI, n, .inl f))] := hD
  have hl : lv_has ls 3 [(0, .ref a), (1, .int v0), (2, .int v1)] := hl
  have tn : (nI n).toInt = (n : Int) := nI_toInt (by omega)
  refine lv_iload_n hx hb (oc_27 0 shX7_put_0) rfl (lvA1 hl) ?_
  refine lv_if_lt (tgt := 14) hx hb (oc_155 1 (aq_1 shX7_put_0) sgw_0_13) rfl (fun c_1 => ?_) (fun c_1 => ?_)
  ·
    have tc_1 : (v0.toInt : Int) < 0 := Int32.lt_iff_toInt_lt.mp c_1
    have hP9 := hP.sub (ws' := [(a, .inl (cI, n, .inl f))]) [0] rfl
    have hD9 := hD.sub (ws' := [(a, .inl (cI, n, .inl f))]) [0] (by decide) rfl
    exact W.vret hx hb hr (fun t ht hW => ⟨⟨f, rfl, (if_neg (by omega)).symm, by rw [ht]; exact hP9, hD9⟩, hS.F ht⟩) hS.2.2 (oc_177 14 (aq_14 shX7_put_0))
  ·
    have tc_1 : (0 : Int) ≤ v0.toInt := Int32.le_iff_toInt_le.mp (Int32.not_lt.mp c_1)
    refine lv_iload_n hx hb (oc_27 4 (aq_4 shX7_put_0)) rfl (lvA1 hl) ?_
    refine lv_aload_n hx hb (oc_42 5 (aq_5 shX7_put_0)) rfl (lvA0 hl) ?_
    refine va_alen hx hb hK.1 hP 0 0 rfl rfl (v := (nI n)) rfl (oc_190 6 (aq_6 shX7_put_0)) ?_
    refine lv_icmp_ge (tgt := 14) hx hb (oc_162 7 (aq_7 shX7_put_0) sgw_0_7) rfl (fun c_2 => ?_) (fun c_2 => ?_)
    ·
      have tc_2 : ((nI n).toInt : Int) ≤ v0.toInt := Int32.le_iff_toInt_le.mp c_2
      have hP9 := hP.sub (ws' := [(a, .inl (cI, n, .inl f))]) [0] rfl
      have hD9 := hD.sub (ws' := [(a, .inl (cI, n, .inl f))]) [0] (by decide) rfl
      exact W.vret hx hb hr (fun t ht hW => ⟨⟨f, rfl, (if_neg (by omega)).symm, by rw [ht]; exact hP9, hD9⟩, hS.F ht⟩) hS.2.2 (oc_177 14 (aq_14 shX7_put_0))
    ·
      have tc_2 : (v0.toInt : Int) < (nI n).toInt := Int32.lt_iff_toInt_lt.mp (Int32.not_le.mp c_2)
      refine lv_aload_n hx hb (oc_42 10 (aq_10 shX7_put_0)) rfl (lvA0 hl) ?_
      refine lv_iload_n hx hb (oc_27 11 (aq_11 shX7_put_0)) rfl (lvA1 hl) ?_
      refine lv_iload_n hx hb (oc_28 12 (aq_12 shX7_put_0)) rfl (lvA2 hl) ?_
      refine va_iast hx hb hK.1 hP hD hS 0 0 rfl rfl (vp_in_iff.mpr ⟨by omega, by omega⟩) (oc_79 13 (aq_13 shX7_put_0)) (fun H locs hP hD hS => ?_)
      have hP : va_P D vwCl [(a, .inl (cI, n, .inl (upd f v0.toNatClampNeg v1)))] H := hP
      have hD : va_D A [(a, .inl (cI, n, .inl (upd f v0.toNatClampNeg v1)))] := hD
      have hP9 := hP.sub (ws' := [(a, .inl (cI, n, .inl (upd f v0.toNatClampNeg v1)))]) [0] rfl
      have hD9 := hD.sub (ws' := [(a, .inl (cI, n, .inl (upd f v0.toNatClampNeg v1)))]) [0] (by decide) rfl
      exact W.vret hx hb hr (fun t ht hW => ⟨⟨(upd f v0.toNatClampNeg v1), rfl, (if_pos (by omega)).symm, by rw [ht]; exact hP9, hD9⟩, hS.F ht⟩) hS.2.2 (oc_177 14 (aq_14 shX7_put_0))
set_option maxRecDepth 100000 in
set_option maxHeartbeats 4000000 in
theorem q_l_tell (l : Launch) (D : va_G) (cI cB cZ : ClassId) (a n : Nat) (f : Nat → Int32) (v0 v1 v2 v3 : Int32) (sz : Nat) (hn : n < 2147483648) : Met l yX7_tell (CWS yX7_tell cX7_tell 5 (some .boolean)) (RM 0 0 0) (PBw [.ref a, .int v0, .int v1, .int v2, .int v3] D cI cB cZ [(a, .inl (cI, n, .inl f))] sz) (va_Qi (fun (r : Int32) (u : Nat → Int32) => (r = 1 ∧ (0 ≤ v0.toInt ∧ v0.toInt < (n : Int) ∧ v2.toInt ≤ v1.toInt ∧ v1.toInt ≤ v3.toInt) ∧ upd f v0.toNatClampNeg v1 = u) ∨ (r = 0 ∧ ¬ (0 ≤ v0.toInt ∧ v0.toInt < (n : Int) ∧ v2.toInt ≤ v1.toInt ∧ v1.toInt ≤ v3.toInt) ∧ f = u)) (fun (u : Nat → Int32) (t : State) => va_P D vwCl [(a, .inl (cI, n, .inl u))] t.heap ∧ va_D (va_A [(a, .inl (cI, n, .inl f))] sz) [(a, .inl (cI, n, .inl u))]) (va_A [(a, .inl (cI, n, .inl f))] sz)) 0 0 (va_A [(a, .inl (cI, n, .inl f))] sz) := by
  refine en_w (fun A => (va_Qi (fun (r : Int32) (u : Nat → Int32) => (r = 1 ∧ (0 ≤ v0.toInt ∧ v0.toInt < (n : Int) ∧ v2.toInt ≤ v1.toInt ∧ v1.toInt ≤ v3.toInt) ∧ upd f v0.toNatClampNeg v1 = u) ∨ (r = 0 ∧ ¬ (0 ≤ v0.toInt ∧ v0.toInt < (n : Int) ∧ v2.toInt ≤ v1.toInt ∧ v1.toInt ≤ v3.toInt) ∧ f = u)) (fun (u : Nat → Int32) (t : State) => va_P D vwCl [(a, .inl (cI, n, .inl u))] t.heap ∧ va_D A [(a, .inl (cI, n, .inl u))]) A)) rfl rfl pn_RX7 (Nat.le_of_ble_eq_true rfl) (fun p e s m below meth c A hx hb hml hown S hr hlocks hnm hA hP hK hD hS ls hl => ?_)
  have hP : va_P D vwCl [(a, .inl (cI, n, .inl f))] s.heap := hP
  have hD : va_D A [(a, .inl (cI, n, .inl f))] := hD
  have hl : lv_has ls 5 [(0, .ref a), (1, .int v0), (2, .int v1), (3, .int v2), (4, .int v3)] := hl
  have tn : (nI n).toInt = (n : Int) := nI_toInt (by omega)
  refine lv_iload_n hx hb (oc_27 0 shX7_tell_0) rfl (lvA1 hl) ?_
  refine lv_if_lt (tgt := 21) hx hb (oc_155 1 (aq_1 shX7_tell_0) sgw_0_20) rfl (fun c_1 => ?_) (fun c_1 => ?_)
  ·
    have tc_1 : (v0.toInt : Int) < 0 := Int32.lt_iff_toInt_lt.mp c_1
    refine lv_iconst (v := 0) hx hb dX7_tell_21 kic_0 ?_
    have hP9 := hP.sub (ws' := [(a, .inl (cI, n, .inl f))]) [0] rfl
    have hD9 := hD.sub (ws' := [(a, .inl (cI, n, .inl f))]) [0] (by decide) rfl
    exact W.zret (v := 0) hx hb hr rfl (fun t ht hW => ⟨⟨0, f, rfl, (Or.inr ⟨rfl, by omega, rfl⟩), by rw [ht]; exact hP9, hD9⟩, hS.F ht⟩) hS.2.2 dX7_tell_22
  ·
    have tc_1 : (0 : Int) ≤ v0.toInt := Int32.le_iff_toInt_le.mp (Int32.not_lt.mp c_1)
    refine lv_iload_n hx hb (oc_27 4 (aq_4 shX7_tell_0)) rfl (lvA1 hl) ?_
    refine lv_aload_n hx hb (oc_42 5 (aq_5 shX7_tell_0)) rfl (lvA0 hl) ?_
    refine va_alen hx hb hK.1 hP 0 0 rfl rfl (v := (nI n)) rfl (oc_190 6 (aq_6 shX7_tell_0)) ?_
    refine lv_icmp_ge (tgt := 21) hx hb (oc_162 7 (aq_7 shX7_tell_0) sgw_0_14) rfl (fun c_2 => ?_) (fun c_2 => ?_)
    ·
      have tc_2 : ((nI n).toInt : Int) ≤ v0.toInt := Int32.le_iff_toInt_le.mp c_2
      refine lv_iconst (v := 0) hx hb dX7_tell_21 kic_0 ?_
      have hP9 := hP.sub (ws' := [(a, .inl (cI, n, .inl f))]) [0] rfl
      have hD9 := hD.sub (ws' := [(a, .inl (cI, n, .inl f))]) [0] (by decide) rfl
      exact W.zret (v := 0) hx hb hr rfl (fun t ht hW => ⟨⟨0, f, rfl, (Or.inr ⟨rfl, by omega, rfl⟩), by rw [ht]; exact hP9, hD9⟩, hS.F ht⟩) hS.2.2 dX7_tell_22
    ·
      have tc_2 : (v0.toInt : Int) < (nI n).toInt := Int32.lt_iff_toInt_lt.mp (Int32.not_le.mp c_2)
      refine lv_iload_n hx hb (oc_28 10 (aq_10 shX7_tell_0)) rfl (lvA2 hl) ?_
      refine lv_iload_n hx hb (oc_29 11 (aq_11 shX7_tell_0)) rfl (lvA3 hl) ?_
      refine lv_icmp_lt (tgt := 21) hx hb (oc_161 12 (aq_12 shX7_tell_0) sgw_0_9) rfl (fun c_3 => ?_) (fun c_3 => ?_)
      ·
        have tc_3 : (v1.toInt : Int) < v2.toInt := Int32.lt_iff_toInt_lt.mp c_3
        refine lv_iconst (v := 0) hx hb dX7_tell_21 kic_0 ?_
        have hP9 := hP.sub (ws' := [(a, .inl (cI, n, .inl f))]) [0] rfl
        have hD9 := hD.sub (ws' := [(a, .inl (cI, n, .inl f))]) [0] (by decide) rfl
        exact W.zret (v := 0) hx hb hr rfl (fun t ht hW => ⟨⟨0, f, rfl, (Or.inr ⟨rfl, by omega, rfl⟩), by rw [ht]; exact hP9, hD9⟩, hS.F ht⟩) hS.2.2 dX7_tell_22
      ·
        have tc_3 : (v2.toInt : Int) ≤ v1.toInt := Int32.le_iff_toInt_le.mp (Int32.not_lt.mp c_3)
        refine lv_iload_n hx hb (oc_28 15 (aq_15 shX7_tell_0)) rfl (lvA2 hl) ?_
        refine lv_iload hx hb (oc_21 16 (aq_16 shX7_tell_0) ub_4) (lvA4 hl) ?_
        refine lv_icmp_le (tgt := 23) hx hb (oc_164 18 (aq_18 shX7_tell_0) sgw_0_5) rfl (fun c_4 => ?_) (fun c_4 => ?_)
        ·
          have tc_4 : (v1.toInt : Int) ≤ v3.toInt := Int32.le_iff_toInt_le.mp c_4
          refine lv_aload_n hx hb (oc_42 23 (aq_23 shX7_tell_0)) rfl (lvA0 hl) ?_
          refine lv_iload_n hx hb (oc_27 24 shX7_tell_24) rfl (lvA1 hl) ?_
          refine lv_iload_n hx hb (oc_28 25 (aq_1 shX7_tell_24)) rfl (lvA2 hl) ?_
          refine va_iast hx hb hK.1 hP hD hS 0 0 rfl rfl (vp_in_iff.mpr ⟨by omega, by omega⟩) (oc_79 26 (aq_2 shX7_tell_24)) (fun H locs hP hD hS => ?_)
          have hP : va_P D vwCl [(a, .inl (cI, n, .inl (upd f v0.toNatClampNeg v1)))] H := hP
          have hD : va_D A [(a, .inl (cI, n, .inl (upd f v0.toNatClampNeg v1)))] := hD
          refine lv_iconst (v := 1) hx hb (oc_4 27 (aq_3 shX7_tell_24)) kic_1 ?_
          have hP9 := hP.sub (ws' := [(a, .inl (cI, n, .inl (upd f v0.toNatClampNeg v1)))]) [0] rfl
          have hD9 := hD.sub (ws' := [(a, .inl (cI, n, .inl (upd f v0.toNatClampNeg v1)))]) [0] (by decide) rfl
          exact W.zret (v := 1) hx hb hr rfl (fun t ht hW => ⟨⟨1, (upd f v0.toNatClampNeg v1), rfl, (Or.inl ⟨rfl, by omega, rfl⟩), by rw [ht]; exact hP9, hD9⟩, hS.F ht⟩) hS.2.2 (oc_172 28 (aq_4 shX7_tell_24))
        ·
          have tc_4 : (v3.toInt : Int) < v1.toInt := Int32.lt_iff_toInt_lt.mp (Int32.not_le.mp c_4)
          refine lv_iconst (v := 0) hx hb dX7_tell_21 kic_0 ?_
          have hP9 := hP.sub (ws' := [(a, .inl (cI, n, .inl f))]) [0] rfl
          have hD9 := hD.sub (ws' := [(a, .inl (cI, n, .inl f))]) [0] (by decide) rfl
          exact W.zret (v := 0) hx hb hr rfl (fun t ht hW => ⟨⟨0, f, rfl, (Or.inr ⟨rfl, by omega, rfl⟩), by rw [ht]; exact hP9, hD9⟩, hS.F ht⟩) hS.2.2 dX7_tell_22
set_option maxRecDepth 100000 in
set_option maxHeartbeats 4000000 in
theorem q_Xnow (l : Launch) (D : va_G) (cI cB cZ : ClassId) (zz qq vv : Nat) (bt : Nat → Int32) (g : Nat → Nat) (ad : Nat → Nat → Nat) (cn : Nat → Nat) (In : Nat → Int32) (Fn : Nat → Nat → Int32) (v0 : Int32) (sz : Nat) (hB : CBX cn) : Met l yX11_now (CWS yX11_now cX11_now 2 (some .boolean)) (RM 2 0 0) (PBx [.ref (g 0), .int v0] D cI cB cZ zz qq vv bt (wX cI (D.1 99) zz g ad cn In Fn) sz) (va_Qi (fun (r : Int32) (u : (Nat → Nat) × (Nat → Int32) × (Nat → Nat → Int32)) => (fun r c2 I2 F2 => (∀ k : Nat, k ∉ [] → I2 k = In k) ∧ ((r = 1 ∧ ((cn 0 : Int) ≤ v0.toInt ∧ v0.toInt ≤ 399) ∧ (va_up cn 0 v0.toInt.toNat) = c2 ∧ Fn = F2) ∨ (r = 0 ∧ (¬ ((cn 0 : Int) ≤ v0.toInt ∧ v0.toInt ≤ 399)) ∧ cn = c2 ∧ Fn = F2))) r u.1 u.2.1 u.2.2) (fun (u : (Nat → Nat) × (Nat → Int32) × (Nat → Nat → Int32)) (t : State) => va_P D vwCl (wX cI (D.1 99) zz g ad u.1 u.2.1 u.2.2) t.heap ∧ va_D (va_A (wX cI (D.1 99) zz g ad cn In Fn) sz) (wX cI (D.1 99) zz g ad u.1 u.2.1 u.2.2)) (va_A (wX cI (D.1 99) zz g ad cn In Fn) sz)) 0 0 (va_A (wX cI (D.1 99) zz g ad cn In Fn) sz) := by
  refine en_x (fun A => (va_Qi (fun (r : Int32) (u : (Nat → Nat) × (Nat → Int32) × (Nat → Nat → Int32)) => (fun (r : Int32) (c2 : Nat → Nat) (I2 : Nat → Int32) (F2 : Nat → Nat → Int32) => (∀ k : Nat, k ∉ [] → I2 k = In k) ∧ ((r = 1 ∧ ((cn 0 : Int) ≤ v0.toInt ∧ v0.toInt ≤ 399) ∧ (va_up cn 0 v0.toInt.toNat) = c2 ∧ Fn = F2) ∨ (r = 0 ∧ (¬ ((cn 0 : Int) ≤ v0.toInt ∧ v0.toInt ≤ 399)) ∧ cn = c2 ∧ Fn = F2))) r u.1 u.2.1 u.2.2) (fun (u : (Nat → Nat) × (Nat → Int32) × (Nat → Nat → Int32)) (t : State) => va_P D vwCl (wX cI (D.1 99) zz g ad u.1 u.2.1 u.2.2) t.heap ∧ va_D A (wX cI (D.1 99) zz g ad u.1 u.2.1 u.2.2)) A)) rfl rfl pn_RX11 (Nat.le_of_ble_eq_true rfl) (fun p e s m below meth c A hx hb hml hown S hr hlocks hnm hA hP hK hD hXS hS ls hl => ?_)
  have hl : lv_has ls 2 [(0, .ref (g 0)), (1, .int v0)] := hl
  have hb_cn : Hid (CBX cn) := hB
  replace hB : CBXh cn := hB
  refine lv_iload_n hx hb (oc_27 0 shX11_now_0) rfl (lvA1 hl) ?_
  refine vp_callSi (runS_r (As := [.int v0]) (rest := []) S (q_l_isDay l D cI cB cZ v0) kS_RX11_99 hK hP [] rfl ⟨Nat.le_of_ble_eq_true rfl, Nat.le_of_ble_eq_true rfl⟩ ⟨Nat.le_of_ble_eq_true rfl, Nat.le_of_ble_eq_true rfl⟩ rfl hl.1 rfl (Nat.le_of_ble_eq_true rfl) (oc_184 1 (aq_1 shX11_now_0) uw_0_99)) (fun r_1 h_2 => ?_)
  rcases h_2 with ⟨rfl, h_2⟩ | ⟨rfl, h_2⟩
  ·
    have h_2 : 0 ≤ v0.toInt ∧ v0.toInt ≤ 399 := h_2
    refine lv_if_eq (tgt := 15) hx hb (oc_153 4 (aq_4 shX11_now_0) sgw_0_11) rfl (fun h => absurd h cq_eq_1_0) (fun _ => ?_)
    refine lv_iload_n hx hb (oc_27 7 (aq_7 shX11_now_0)) rfl (lvA1 hl) ?_
    refine lv_aload_n hx hb (oc_42 8 (aq_8 shX11_now_0)) rfl (lvA0 hl) ?_
    refine gf_RX11_103 S hK hP 0 xo_0 (v := .int (nI (cn 0))) rfl (oc_180 9 (aq_9 shX11_now_0) uw_0_103) ?_
    have : (nI (cn 0)).toInt = (((cn 0) : Nat) : Int) := nI_toInt (by (first | omega | (have zz0 := Hid.u hb_cn; omega)))
    refine lv_icmp_ge (tgt := 17) hx hb (oc_162 12 (aq_12 shX11_now_0) sgw_0_5) rfl (fun c_3 => ?_) (fun c_3 => ?_)
    ·
      have tc_3 : ((nI (cn 0)).toInt : Int) ≤ v0.toInt := Int32.le_iff_toInt_le.mp c_3
      obtain ⟨d0, hd0, rfl⟩ := nI_of (x := v0) (fun q => by have := Int32.lt_iff_toInt_lt.mp q; have e : (0 : Int32).toInt = 0 := rfl; (first | omega | (have zz0 := Hid.u hb_cn; omega)))
      have td0 : (nI d0).toInt = (d0 : Int) := nI_toInt hd0
      have zd0 : (nI d0).toInt.toNat = d0 := by (first | omega | (have zz0 := Hid.u hb_cn; omega))
      refine lv_aload_n hx hb (oc_42 17 (aq_17 shX11_now_0)) rfl (lvA0 hl) ?_
      refine lv_iload_n hx hb (oc_27 18 (aq_18 shX11_now_0)) rfl (lvA1 hl) ?_
      refine pf_RX11_103 S hK hP hD hS 0 xo_0 (v := .int (nI d0)) (Nat.le_of_ble_eq_true rfl) rfl rfl (oc_181 19 (aq_19 shX11_now_0) uw_0_103) (fun H locs hP hD hS => ?_)
      have hP : va_P D vwCl (wX cI (D.1 99) zz g ad (va_up cn 0 d0) In Fn) H := va_P_eq (xsf_0_0) hP
      have hD : va_D A (wX cI (D.1 99) zz g ad (va_up cn 0 d0) In Fn) := va_D_eq (xsf_0_0) hD
      refine lv_iconst (v := 1) hx hb (oc_4 22 (aq_22 shX11_now_0)) kic_1 ?_
      exact W.zret (v := 1) hx hb hr rfl (fun t ht hW => ⟨⟨1, ((va_up cn 0 d0), In, Fn), rfl, ⟨(show Fr [0] [] [] cn In Fn (va_up cn 0 d0) In Fn from Fr.mo (Fr.c 0 (Fr.rf (cn := cn) (In := In) (Fn := Fn))) (sbl rfl) (sbl rfl) (sbl rfl)).2.1, (Or.inl ⟨rfl, (by first | trivial | (first | omega | (have zz0 := Hid.u hb_cn; omega)) | (simp only [zd0]; (first | omega | (have zz0 := Hid.u hb_cn; omega)))), (by first | rfl | simp only [zd0] | simp only [zd0, zd1]), (by first | rfl | simp only [zd0] | simp only [zd0, zd1])⟩)⟩, by rw [ht]; exact hP, hD⟩, hS.F ht⟩) hS.2.2 (oc_172 23 (aq_23 shX11_now_0))
    ·
      have tc_3 : (v0.toInt : Int) < (nI (cn 0)).toInt := Int32.lt_iff_toInt_lt.mp (Int32.not_le.mp c_3)
      refine lv_iconst (v := 0) hx hb (oc_3 15 (aq_15 shX11_now_0)) kic_0 ?_
      exact W.zret (v := 0) hx hb hr rfl (fun t ht hW => ⟨⟨0, (cn, In, Fn), rfl, ⟨(show Fr [0] [] [] cn In Fn cn In Fn from Fr.mo (Fr.rf (cn := cn) (In := In) (Fn := Fn)) (sbl rfl) (sbl rfl) (sbl rfl)).2.1, (Or.inr ⟨rfl, (by first | trivial | (first | omega | (have zz0 := Hid.u hb_cn; omega)) | (simp only [zd0]; (first | omega | (have zz0 := Hid.u hb_cn; omega)))), (by first | rfl | simp only [zd0] | simp only [zd0, zd1]), (by first | rfl | simp only [zd0] | simp only [zd0, zd1])⟩)⟩, by rw [ht]; exact hP, hD⟩, hS.F ht⟩) hS.2.2 (oc_172 16 (aq_16 shX11_now_0))
  ·
    have h_2 : ¬ (0 ≤ v0.toInt ∧ v0.toInt ≤ 399) := h_2
    refine lv_if_eq (tgt := 15) hx hb (oc_153 4 (aq_4 shX11_now_0) sgw_0_11) rfl (fun _ => ?_) (fun h => absurd h cq_eq_0_0)
    refine lv_iconst (v := 0) hx hb (oc_3 15 (aq_15 shX11_now_0)) kic_0 ?_
    exact W.zret (v := 0) hx hb hr rfl (fun t ht hW => ⟨⟨0, (cn, In, Fn), rfl, ⟨(show Fr [0] [] [] cn In Fn cn In Fn from Fr.mo (Fr.rf (cn := cn) (In := In) (Fn := Fn)) (sbl rfl) (sbl rfl) (sbl rfl)).2.1, (Or.inr ⟨rfl, (by first | trivial | (first | omega | (have zz0 := Hid.u hb_cn; omega)) | (simp only [zd0]; (first | omega | (have zz0 := Hid.u hb_cn; omega)))), (by first | rfl | simp only [zd0] | simp only [zd0, zd1]), (by first | rfl | simp only [zd0] | simp only [zd0, zd1])⟩)⟩, by rw [ht]; exact hP, hD⟩, hS.F ht⟩) hS.2.2 (oc_172 16 (aq_16 shX11_now_0))
