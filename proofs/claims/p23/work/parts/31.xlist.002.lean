/-- a start that knows a class's object, too -/
def PBm (mi : Nat) (As : List Value) (D : va_G) (cI cB cZ : ClassId) (z q v : Nat) (bt : Nat → Int32) (ws : va_W) (sz : Nat) : Array Value → State → Prop := va_Pc As (fun U => U.heap.size = sz ∧ va_P D vwCl ws U.heap ∧ KK D cI cB cZ U ∧ va_D (fun _ => True) ws ∧ XS D z q v bt (va_A ws sz) U U.heap ∧ va_Mi "[Ljava/lang/Object;" mi U)
theorem PBm_blind {mi : Nat} {As : List Value} {D : va_G} {cI cB cZ : ClassId} {z q v : Nat} {bt : Nat → Int32} {ws : va_W} {sz : Nat} : FrameBlind (PBm mi As D cI cB cZ z q v bt ws sz) := fun a U g mk q => ⟨q.1, q.2.1, q.2.2.1, KK.same (u := U) (U := U.calling g mk a) rfl q.2.2.2.1, q.2.2.2.2.1, XS.same (u := U) (U := U.calling g mk a) rfl q.2.2.2.2.2.1, q.2.2.2.2.2.2.moved (Vm.Alike.refl _)⟩
section LRUN
variable {p : Program} {l : Launch} {e : Env} {R : Room} {s : State} {m : MethodId} {args : Array Value} {below : List Frame} {meth : Method} {c : Code} {H : Heap} {locs : List Loc} {cells slots : Nat} {Q : State → Prop}
variable {cc b : ByteArray} {nL n idx k d mc ms pc sz : Nat} {own : String} {y : MethodName} {ret : Option FieldType} {As rest st : List Value} {ls : Array Slot} {D : va_G} {cI cB cZ : ClassId} {ws wc : va_W} {Qc : Array Value → State → Outcome → State → Prop} {a : Nat} {ci : Nat} {fs : List Value} {free : Addr → Prop} {z q v : Nat} {bt : Nat → Int32} {A : Nat → Prop}
theorem runS_xa (S : SF p m c cc nL s args own) (hM : Met l y (CWS y b n ret) (RM d mc ms) (PBx As D cI cB cZ z q v bt ws H.size) Qc mc ms free) (cal : CalS own idx y b n ret k) (hK : KK D cI cB cZ s) (hXS : XS D z q v bt A s s.heap) (hS : va_S A s.heap H locs) (hF : ∀ x, va_A ws H.size x → A x) (hP : va_P D vwCl ws H) (hD : va_D A ws) (hR : d + 1 ≤ R.frames ∧ 8 + (n + 11) + 40 * d ≤ R.locals) (hf : cells + mc ≤ R.cells ∧ slots + ms ≤ R.slots) (hn : As.length = k) (hsize : ls.size = nL) (hst : st = As.reverse ++ rest) (hW : (rest.map fun v => v.category).sum ≤ 8) (hdg : decode cc pc = .ok (.invokestatic idx, 3)) :
    va_Run p l e R s m args below meth c H locs cells slots mc ms (F0 m pc ls st) rest (Qc As.toArray) free :=
  va_runS S hM (va_cwS k S.2.2.2.2 cal.good rfl rfl rfl cal.2 hR) ⟨PBx_blind, fun U hU hW => ⟨rfl, by rw [hU], by rw [hU]; exact hP, hK.warm hW, hD.weaken (fun _ _ _ _ => trivial), by rw [hU]; exact hXS.call hS hF hW⟩⟩ rfl hn hsize hst (lv_room hW) hdg hf
theorem runS_xm {mi : Nat} (S : SF p m c cc nL s args own) (hM : Met l y (CWS y b n ret) (RM d mc ms) (PBm mi As D cI cB cZ z q v bt ws H.size) Qc mc ms free) (cal : CalS own idx y b n ret k) (hK : KK D cI cB cZ s) (hXS : XS D z q v bt A s s.heap) (hMi : va_Mi "[Ljava/lang/Object;" mi s) (hS : va_S A s.heap H locs) (hF : ∀ x, va_A ws H.size x → A x) (hP : va_P D vwCl ws H) (hD : va_D A ws) (hR : d + 1 ≤ R.frames ∧ 8 + (n + 11) + 40 * d ≤ R.locals) (hf : cells + mc ≤ R.cells ∧ slots + ms ≤ R.slots) (hn : As.length = k) (hsize : ls.size = nL) (hst : st = As.reverse ++ rest) (hW : (rest.map fun v => v.category).sum ≤ 8) (hdg : decode cc pc = .ok (.invokestatic idx, 3)) :
    va_Run p l e R s m args below meth c H locs cells slots mc ms (F0 m pc ls st) rest (Qc As.toArray) free :=
  va_runS S hM (va_cwS k S.2.2.2.2 cal.good rfl rfl rfl cal.2 hR) ⟨PBm_blind, fun U hU hW => ⟨rfl, by rw [hU], by rw [hU]; exact hP, hK.warm hW, hD.weaken (fun _ _ _ _ => trivial), by rw [hU]; exact hXS.call hS hF hW, hMi.moved hW.alike⟩⟩ rfl hn hsize hst (lv_room hW) hdg hf
theorem recvQ {q0 n0 : Nat} {f : Nat → Option Nat} {U0 : Heap} {A1 : Nat → Prop} (hXS : XS D z q v bt A1 s U0) (hP : va_P D vwCl ws H) (he : ws[q0]? = some (a, .inl (D.1 99, n0, .inr (.inr (.inr (.inr f)))))) : ∃ cell : Cell, H[a]? = some cell ∧ cell.vm.isStatics = false ∧ s.vm.findClass "[Ljava/lang/Object;" = some cell.cls :=
  ⟨_, hP q0 _ he, rfl, va_nmO (hXS.2.2.2.2.2.2.2.2.1.2 0 (D.1 99, .object "java/lang/Object") rfl).2 rfl⟩
end LRUN
theorem nI_nn {a : Nat} (h : a < 2 ^ 31) : ¬ nI a < 0 := fun w => by
  have w := Int32.lt_iff_toInt_lt.mp w
  rw [nI_toInt h] at w
  have e : (0 : Int32).toInt = 0 := rfl
  omega
theorem min_le {a b : Nat} (h : a ≤ b) (hb : b < 2 ^ 31) : (if nI b < nI a then nI b else nI a) = nI a := if_neg (fun w => by
  have w := Int32.lt_iff_toInt_lt.mp w
  rw [nI_toInt hb, nI_toInt (Nat.lt_of_le_of_lt h hb)] at w
  omega)

set_option maxRecDepth 100000 in
theorem kS_RJ7_300 : CalS RJ7 300 yJ7_copyOf_6403c cJ7_copyOf_6403c 4 (some (.array (.object "java/lang/Object"))) 3 := ⟨⟨wT_t2 159 rfl rfl, wT_t2 160 rfl rfl, wT_t1 8 rfl rfl, wT_t2 161 rfl rfl⟩, ⟨by decide, by decide, by decide +kernel⟩⟩
set_option maxRecDepth 100000 in
theorem kS_RJx4a65c_73 : CalS RJx4a65c 73 yJ8_newLength_cabcc cJ8_newLength_cabcc 4 (some .int) 3 := ⟨⟨wT_t2 130 rfl rfl, wT_t2 131 rfl rfl, wT_t1 15 rfl rfl, wT_t2 132 rfl rfl⟩, ⟨by decide, by decide, by decide +kernel⟩⟩
set_option maxRecDepth 100000 in
theorem kS_RJx4a65c_66 : CalS RJx4a65c 66 yJ7_copyOf_1904c cJ7_copyOf_1904c 2 (some (.array (.object "java/lang/Object"))) 2 := ⟨⟨wT_t2 138 rfl rfl, wT_t2 139 rfl rfl, wT_t1 8 rfl rfl, wT_t2 140 rfl rfl⟩, ⟨by decide, by decide, by decide +kernel⟩⟩
def sxJ8_newLength_cabcc_27 : List UInt8 := []
def sxJ8_newLength_cabcc_26 : List UInt8 := 172 :: sxJ8_newLength_cabcc_27
def sxJ8_newLength_cabcc_23 : List UInt8 := 184 :: 0 :: 201 :: sxJ8_newLength_cabcc_26
def sxJ8_newLength_cabcc_22 : List UInt8 := 27 :: sxJ8_newLength_cabcc_23
def sxJ8_newLength_cabcc_21 : List UInt8 := 26 :: sxJ8_newLength_cabcc_22
def sxJ8_newLength_cabcc_20 : List UInt8 := 172 :: sxJ8_newLength_cabcc_21
def sxJ8_newLength_cabcc_19 : List UInt8 := 29 :: sxJ8_newLength_cabcc_20
def sxJ8_newLength_cabcc_16 : List UInt8 := 163 :: 0 :: 5 :: sxJ8_newLength_cabcc_19
def sxJ8_newLength_cabcc_14 : List UInt8 := 18 :: 200 :: sxJ8_newLength_cabcc_16
def sxJ8_newLength_cabcc_13 : List UInt8 := 29 :: sxJ8_newLength_cabcc_14
def sxJ8_newLength_cabcc_10 : List UInt8 := 162 :: 0 :: 11 :: sxJ8_newLength_cabcc_13
def sxJ8_newLength_cabcc_9 : List UInt8 := 29 :: sxJ8_newLength_cabcc_10
def sxJ8_newLength_cabcc_8 : List UInt8 := 3 :: sxJ8_newLength_cabcc_9
def sxJ8_newLength_cabcc_7 : List UInt8 := 62 :: sxJ8_newLength_cabcc_8
def sxJ8_newLength_cabcc_6 : List UInt8 := 96 :: sxJ8_newLength_cabcc_7
def sxJ8_newLength_cabcc_3 : List UInt8 := 184 :: 0 :: 194 :: sxJ8_newLength_cabcc_6
def sxJ8_newLength_cabcc_2 : List UInt8 := 28 :: sxJ8_newLength_cabcc_3
def sxJ8_newLength_cabcc_1 : List UInt8 := 27 :: sxJ8_newLength_cabcc_2
def sxJ8_newLength_cabcc_0 : List UInt8 := 26 :: sxJ8_newLength_cabcc_1
theorem shJ8_newLength_cabcc_0 : cJ8_newLength_cabcc.data.toList.drop 0 = sxJ8_newLength_cabcc_0 := rfl
theorem shJ8_newLength_cabcc_1 : cJ8_newLength_cabcc.data.toList.drop 1 = sxJ8_newLength_cabcc_1 := dSn 1 shJ8_newLength_cabcc_0
theorem shJ8_newLength_cabcc_2 : cJ8_newLength_cabcc.data.toList.drop 2 = sxJ8_newLength_cabcc_2 := dSn 1 shJ8_newLength_cabcc_1
theorem shJ8_newLength_cabcc_3 : cJ8_newLength_cabcc.data.toList.drop 3 = sxJ8_newLength_cabcc_3 := dSn 1 shJ8_newLength_cabcc_2
theorem shJ8_newLength_cabcc_6 : cJ8_newLength_cabcc.data.toList.drop 6 = sxJ8_newLength_cabcc_6 := dSn 3 shJ8_newLength_cabcc_3
theorem shJ8_newLength_cabcc_7 : cJ8_newLength_cabcc.data.toList.drop 7 = sxJ8_newLength_cabcc_7 := dSn 1 shJ8_newLength_cabcc_6
theorem shJ8_newLength_cabcc_8 : cJ8_newLength_cabcc.data.toList.drop 8 = sxJ8_newLength_cabcc_8 := dSn 1 shJ8_newLength_cabcc_7
theorem shJ8_newLength_cabcc_9 : cJ8_newLength_cabcc.data.toList.drop 9 = sxJ8_newLength_cabcc_9 := dSn 1 shJ8_newLength_cabcc_8
theorem shJ8_newLength_cabcc_10 : cJ8_newLength_cabcc.data.toList.drop 10 = sxJ8_newLength_cabcc_10 := dSn 1 shJ8_newLength_cabcc_9
theorem shJ8_newLength_cabcc_13 : cJ8_newLength_cabcc.data.toList.drop 13 = sxJ8_newLength_cabcc_13 := dSn 3 shJ8_newLength_cabcc_10
theorem shJ8_newLength_cabcc_14 : cJ8_newLength_cabcc.data.toList.drop 14 = sxJ8_newLength_cabcc_14 := dSn 1 shJ8_newLength_cabcc_13
theorem shJ8_newLength_cabcc_16 : cJ8_newLength_cabcc.data.toList.drop 16 = sxJ8_newLength_cabcc_16 := dSn 2 shJ8_newLength_cabcc_14
theorem shJ8_newLength_cabcc_19 : cJ8_newLength_cabcc.data.toList.drop 19 = sxJ8_newLength_cabcc_19 := dSn 3 shJ8_newLength_cabcc_16
theorem shJ8_newLength_cabcc_20 : cJ8_newLength_cabcc.data.toList.drop 20 = sxJ8_newLength_cabcc_20 := dSn 1 shJ8_newLength_cabcc_19
theorem shJ8_newLength_cabcc_21 : cJ8_newLength_cabcc.data.toList.drop 21 = sxJ8_newLength_cabcc_21 := dSn 1 shJ8_newLength_cabcc_20
theorem shJ8_newLength_cabcc_22 : cJ8_newLength_cabcc.data.toList.drop 22 = sxJ8_newLength_cabcc_22 := dSn 1 shJ8_newLength_cabcc_21
theorem shJ8_newLength_cabcc_23 : cJ8_newLength_cabcc.data.toList.drop 23 = sxJ8_newLength_cabcc_23 := dSn 1 shJ8_newLength_cabcc_22
theorem shJ8_newLength_cabcc_26 : cJ8_newLength_cabcc.data.toList.drop 26 = sxJ8_newLength_cabcc_26 := dSn 3 shJ8_newLength_cabcc_23
theorem dJ8_newLength_cabcc_0 : decode cJ8_newLength_cabcc 0 = .ok (.iload_n 0, 1) := oc_26 shJ8_newLength_cabcc_0
theorem dJ8_newLength_cabcc_1 : decode cJ8_newLength_cabcc 1 = .ok (.iload_n 1, 1) := oc_27 shJ8_newLength_cabcc_1
theorem dJ8_newLength_cabcc_2 : decode cJ8_newLength_cabcc 2 = .ok (.iload_n 2, 1) := oc_28 shJ8_newLength_cabcc_2
theorem dJ8_newLength_cabcc_3 : decode cJ8_newLength_cabcc 3 = .ok (.invokestatic 194, 3) := oc_184 shJ8_newLength_cabcc_3
theorem dJ8_newLength_cabcc_6 : decode cJ8_newLength_cabcc 6 = .ok (.iadd, 1) := oc_96 shJ8_newLength_cabcc_6
theorem dJ8_newLength_cabcc_7 : decode cJ8_newLength_cabcc 7 = .ok (.istore_n 3, 1) := oc_62 shJ8_newLength_cabcc_7
theorem dJ8_newLength_cabcc_8 : decode cJ8_newLength_cabcc 8 = .ok (.iconst 0, 1) := oc_3 shJ8_newLength_cabcc_8
theorem dJ8_newLength_cabcc_9 : decode cJ8_newLength_cabcc 9 = .ok (.iload_n 3, 1) := oc_29 shJ8_newLength_cabcc_9
theorem dJ8_newLength_cabcc_10 : decode cJ8_newLength_cabcc 10 = .ok (.if_icmp .ge 11, 3) := oc_162 shJ8_newLength_cabcc_10 sgw_0_11
theorem dJ8_newLength_cabcc_13 : decode cJ8_newLength_cabcc 13 = .ok (.iload_n 3, 1) := oc_29 shJ8_newLength_cabcc_13
theorem dJ8_newLength_cabcc_14 : decode cJ8_newLength_cabcc 14 = .ok (.ldc 200, 2) := oc_18 shJ8_newLength_cabcc_14
theorem dJ8_newLength_cabcc_16 : decode cJ8_newLength_cabcc 16 = .ok (.if_icmp .gt 5, 3) := oc_163 shJ8_newLength_cabcc_16 sgw_0_5
theorem dJ8_newLength_cabcc_19 : decode cJ8_newLength_cabcc 19 = .ok (.iload_n 3, 1) := oc_29 shJ8_newLength_cabcc_19
theorem dJ8_newLength_cabcc_20 : decode cJ8_newLength_cabcc 20 = .ok (.ireturn, 1) := oc_172 shJ8_newLength_cabcc_20
def sxJ7_copyOf_6403c_40 : List UInt8 := []
def sxJ7_copyOf_6403c_39 : List UInt8 := 176 :: sxJ7_copyOf_6403c_40
def sxJ7_copyOf_6403c_38 : List UInt8 := 45 :: sxJ7_copyOf_6403c_39
def sxJ7_copyOf_6403c_35 : List UInt8 := 184 :: 0 :: 150 :: sxJ7_copyOf_6403c_38
def sxJ7_copyOf_6403c_32 : List UInt8 := 184 :: 1 :: 48 :: sxJ7_copyOf_6403c_35
def sxJ7_copyOf_6403c_31 : List UInt8 := 27 :: sxJ7_copyOf_6403c_32
def sxJ7_copyOf_6403c_30 : List UInt8 := 190 :: sxJ7_copyOf_6403c_31
def sxJ7_copyOf_6403c_29 : List UInt8 := 42 :: sxJ7_copyOf_6403c_30
def sxJ7_copyOf_6403c_28 : List UInt8 := 3 :: sxJ7_copyOf_6403c_29
def sxJ7_copyOf_6403c_27 : List UInt8 := 45 :: sxJ7_copyOf_6403c_28
def sxJ7_copyOf_6403c_26 : List UInt8 := 3 :: sxJ7_copyOf_6403c_27
def sxJ7_copyOf_6403c_25 : List UInt8 := 42 :: sxJ7_copyOf_6403c_26
def sxJ7_copyOf_6403c_24 : List UInt8 := 78 :: sxJ7_copyOf_6403c_25
def sxJ7_copyOf_6403c_21 : List UInt8 := 192 :: 0 :: 110 :: sxJ7_copyOf_6403c_24
def sxJ7_copyOf_6403c_18 : List UInt8 := 184 :: 0 :: 95 :: sxJ7_copyOf_6403c_21
def sxJ7_copyOf_6403c_17 : List UInt8 := 27 :: sxJ7_copyOf_6403c_18
def sxJ7_copyOf_6403c_14 : List UInt8 := 182 :: 0 :: 90 :: sxJ7_copyOf_6403c_17
def sxJ7_copyOf_6403c_13 : List UInt8 := 44 :: sxJ7_copyOf_6403c_14
def sxJ7_copyOf_6403c_10 : List UInt8 := 167 :: 0 :: 14 :: sxJ7_copyOf_6403c_13
def sxJ7_copyOf_6403c_7 : List UInt8 := 189 :: 0 :: 2 :: sxJ7_copyOf_6403c_10
def sxJ7_copyOf_6403c_6 : List UInt8 := 27 :: sxJ7_copyOf_6403c_7
def sxJ7_copyOf_6403c_3 : List UInt8 := 166 :: 0 :: 10 :: sxJ7_copyOf_6403c_6
def sxJ7_copyOf_6403c_1 : List UInt8 := 18 :: 110 :: sxJ7_copyOf_6403c_3
def sxJ7_copyOf_6403c_0 : List UInt8 := 44 :: sxJ7_copyOf_6403c_1
theorem shJ7_copyOf_6403c_0 : cJ7_copyOf_6403c.data.toList.drop 0 = sxJ7_copyOf_6403c_0 := rfl
theorem shJ7_copyOf_6403c_1 : cJ7_copyOf_6403c.data.toList.drop 1 = sxJ7_copyOf_6403c_1 := dSn 1 shJ7_copyOf_6403c_0
theorem shJ7_copyOf_6403c_3 : cJ7_copyOf_6403c.data.toList.drop 3 = sxJ7_copyOf_6403c_3 := dSn 2 shJ7_copyOf_6403c_1
theorem shJ7_copyOf_6403c_6 : cJ7_copyOf_6403c.data.toList.drop 6 = sxJ7_copyOf_6403c_6 := dSn 3 shJ7_copyOf_6403c_3
theorem shJ7_copyOf_6403c_7 : cJ7_copyOf_6403c.data.toList.drop 7 = sxJ7_copyOf_6403c_7 := dSn 1 shJ7_copyOf_6403c_6
theorem shJ7_copyOf_6403c_10 : cJ7_copyOf_6403c.data.toList.drop 10 = sxJ7_copyOf_6403c_10 := dSn 3 shJ7_copyOf_6403c_7
theorem shJ7_copyOf_6403c_13 : cJ7_copyOf_6403c.data.toList.drop 13 = sxJ7_copyOf_6403c_13 := dSn 3 shJ7_copyOf_6403c_10
theorem shJ7_copyOf_6403c_14 : cJ7_copyOf_6403c.data.toList.drop 14 = sxJ7_copyOf_6403c_14 := dSn 1 shJ7_copyOf_6403c_13
theorem shJ7_copyOf_6403c_17 : cJ7_copyOf_6403c.data.toList.drop 17 = sxJ7_copyOf_6403c_17 := dSn 3 shJ7_copyOf_6403c_14
theorem shJ7_copyOf_6403c_18 : cJ7_copyOf_6403c.data.toList.drop 18 = sxJ7_copyOf_6403c_18 := dSn 1 shJ7_copyOf_6403c_17
theorem shJ7_copyOf_6403c_21 : cJ7_copyOf_6403c.data.toList.drop 21 = sxJ7_copyOf_6403c_21 := dSn 3 shJ7_copyOf_6403c_18
theorem shJ7_copyOf_6403c_24 : cJ7_copyOf_6403c.data.toList.drop 24 = sxJ7_copyOf_6403c_24 := dSn 3 shJ7_copyOf_6403c_21
theorem shJ7_copyOf_6403c_25 : cJ7_copyOf_6403c.data.toList.drop 25 = sxJ7_copyOf_6403c_25 := dSn 1 shJ7_copyOf_6403c_24
theorem shJ7_copyOf_6403c_26 : cJ7_copyOf_6403c.data.toList.drop 26 = sxJ7_copyOf_6403c_26 := dSn 1 shJ7_copyOf_6403c_25
theorem shJ7_copyOf_6403c_27 : cJ7_copyOf_6403c.data.toList.drop 27 = sxJ7_copyOf_6403c_27 := dSn 1 shJ7_copyOf_6403c_26
theorem shJ7_copyOf_6403c_28 : cJ7_copyOf_6403c.data.toList.drop 28 = sxJ7_copyOf_6403c_28 := dSn 1 shJ7_copyOf_6403c_27
theorem shJ7_copyOf_6403c_29 : cJ7_copyOf_6403c.data.toList.drop 29 = sxJ7_copyOf_6403c_29 := dSn 1 shJ7_copyOf_6403c_28
theorem shJ7_copyOf_6403c_30 : cJ7_copyOf_6403c.data.toList.drop 30 = sxJ7_copyOf_6403c_30 := dSn 1 shJ7_copyOf_6403c_29
theorem shJ7_copyOf_6403c_31 : cJ7_copyOf_6403c.data.toList.drop 31 = sxJ7_copyOf_6403c_31 := dSn 1 shJ7_copyOf_6403c_30
theorem shJ7_copyOf_6403c_32 : cJ7_copyOf_6403c.data.toList.drop 32 = sxJ7_copyOf_6403c_32 := dSn 1 shJ7_copyOf_6403c_31
theorem shJ7_copyOf_6403c_35 : cJ7_copyOf_6403c.data.toList.drop 35 = sxJ7_copyOf_6403c_35 := dSn 3 shJ7_copyOf_6403c_32
theorem shJ7_copyOf_6403c_38 : cJ7_copyOf_6403c.data.toList.drop 38 = sxJ7_copyOf_6403c_38 := dSn 3 shJ7_copyOf_6403c_35
theorem shJ7_copyOf_6403c_39 : cJ7_copyOf_6403c.data.toList.drop 39 = sxJ7_copyOf_6403c_39 := dSn 1 shJ7_copyOf_6403c_38
theorem dJ7_copyOf_6403c_0 : decode cJ7_copyOf_6403c 0 = .ok (.aload_n 2, 1) := oc_44 shJ7_copyOf_6403c_0
theorem dJ7_copyOf_6403c_1 : decode cJ7_copyOf_6403c 1 = .ok (.ldc 110, 2) := oc_18 shJ7_copyOf_6403c_1
theorem dJ7_copyOf_6403c_3 : decode cJ7_copyOf_6403c 3 = .ok (.if_acmp .ne 10, 3) := oc_166 shJ7_copyOf_6403c_3 sgw_0_10
theorem dJ7_copyOf_6403c_6 : decode cJ7_copyOf_6403c 6 = .ok (.iload_n 1, 1) := oc_27 shJ7_copyOf_6403c_6
theorem dJ7_copyOf_6403c_7 : decode cJ7_copyOf_6403c 7 = .ok (.anewarray 2, 3) := oc_189 shJ7_copyOf_6403c_7
theorem dJ7_copyOf_6403c_10 : decode cJ7_copyOf_6403c 10 = .ok (.goto 14, 3) := oc_167 shJ7_copyOf_6403c_10 sgw_0_14
theorem dJ7_copyOf_6403c_24 : decode cJ7_copyOf_6403c 24 = .ok (.astore_n 3, 1) := oc_78 shJ7_copyOf_6403c_24
theorem dJ7_copyOf_6403c_25 : decode cJ7_copyOf_6403c 25 = .ok (.aload_n 0, 1) := oc_42 shJ7_copyOf_6403c_25
theorem dJ7_copyOf_6403c_26 : decode cJ7_copyOf_6403c 26 = .ok (.iconst 0, 1) := oc_3 shJ7_copyOf_6403c_26
theorem dJ7_copyOf_6403c_27 : decode cJ7_copyOf_6403c 27 = .ok (.aload_n 3, 1) := oc_45 shJ7_copyOf_6403c_27
theorem dJ7_copyOf_6403c_28 : decode cJ7_copyOf_6403c 28 = .ok (.iconst 0, 1) := oc_3 shJ7_copyOf_6403c_28
theorem dJ7_copyOf_6403c_29 : decode cJ7_copyOf_6403c 29 = .ok (.aload_n 0, 1) := oc_42 shJ7_copyOf_6403c_29
theorem dJ7_copyOf_6403c_30 : decode cJ7_copyOf_6403c 30 = .ok (.arraylength, 1) := oc_190 shJ7_copyOf_6403c_30
theorem dJ7_copyOf_6403c_31 : decode cJ7_copyOf_6403c 31 = .ok (.iload_n 1, 1) := oc_27 shJ7_copyOf_6403c_31
theorem dJ7_copyOf_6403c_32 : decode cJ7_copyOf_6403c 32 = .ok (.invokestatic 304, 3) := oc_184 shJ7_copyOf_6403c_32
theorem dJ7_copyOf_6403c_35 : decode cJ7_copyOf_6403c 35 = .ok (.invokestatic 150, 3) := oc_184 shJ7_copyOf_6403c_35
theorem dJ7_copyOf_6403c_38 : decode cJ7_copyOf_6403c 38 = .ok (.aload_n 3, 1) := oc_45 shJ7_copyOf_6403c_38
theorem dJ7_copyOf_6403c_39 : decode cJ7_copyOf_6403c 39 = .ok (.areturn, 1) := oc_176 shJ7_copyOf_6403c_39
def sxJ7_copyOf_1904c_10 : List UInt8 := []
def sxJ7_copyOf_1904c_9 : List UInt8 := 176 :: sxJ7_copyOf_1904c_10
def sxJ7_copyOf_1904c_6 : List UInt8 := 184 :: 1 :: 44 :: sxJ7_copyOf_1904c_9
def sxJ7_copyOf_1904c_3 : List UInt8 := 182 :: 0 :: 86 :: sxJ7_copyOf_1904c_6
def sxJ7_copyOf_1904c_2 : List UInt8 := 42 :: sxJ7_copyOf_1904c_3
def sxJ7_copyOf_1904c_1 : List UInt8 := 27 :: sxJ7_copyOf_1904c_2
def sxJ7_copyOf_1904c_0 : List UInt8 := 42 :: sxJ7_copyOf_1904c_1
theorem shJ7_copyOf_1904c_0 : cJ7_copyOf_1904c.data.toList.drop 0 = sxJ7_copyOf_1904c_0 := rfl
theorem shJ7_copyOf_1904c_1 : cJ7_copyOf_1904c.data.toList.drop 1 = sxJ7_copyOf_1904c_1 := dSn 1 shJ7_copyOf_1904c_0
theorem shJ7_copyOf_1904c_2 : cJ7_copyOf_1904c.data.toList.drop 2 = sxJ7_copyOf_1904c_2 := dSn 1 shJ7_copyOf_1904c_1
theorem shJ7_copyOf_1904c_3 : cJ7_copyOf_1904c.data.toList.drop 3 = sxJ7_copyOf_1904c_3 := dSn 1 shJ7_copyOf_1904c_2
theorem shJ7_copyOf_1904c_6 : cJ7_copyOf_1904c.data.toList.drop 6 = sxJ7_copyOf_1904c_6 := dSn 3 shJ7_copyOf_1904c_3
theorem shJ7_copyOf_1904c_9 : cJ7_copyOf_1904c.data.toList.drop 9 = sxJ7_copyOf_1904c_9 := dSn 3 shJ7_copyOf_1904c_6
theorem dJ7_copyOf_1904c_0 : decode cJ7_copyOf_1904c 0 = .ok (.aload_n 0, 1) := oc_42 shJ7_copyOf_1904c_0
theorem dJ7_copyOf_1904c_1 : decode cJ7_copyOf_1904c 1 = .ok (.iload_n 1, 1) := oc_27 shJ7_copyOf_1904c_1
theorem dJ7_copyOf_1904c_2 : decode cJ7_copyOf_1904c 2 = .ok (.aload_n 0, 1) := oc_42 shJ7_copyOf_1904c_2
theorem dJ7_copyOf_1904c_3 : decode cJ7_copyOf_1904c 3 = .ok (.invokevirtual 86, 3) := oc_182 shJ7_copyOf_1904c_3
theorem dJ7_copyOf_1904c_6 : decode cJ7_copyOf_1904c 6 = .ok (.invokestatic 300, 3) := oc_184 shJ7_copyOf_1904c_6
theorem dJ7_copyOf_1904c_9 : decode cJ7_copyOf_1904c 9 = .ok (.areturn, 1) := oc_176 shJ7_copyOf_1904c_9
theorem dJx4a65c_grow_92f84_20 : decode cJx4a65c_grow_92f84 20 = .ok (.iload_n 2, 1) := oc_28 shJx4a65c_grow_92f84_20
theorem dJx4a65c_grow_92f84_21 : decode cJx4a65c_grow_92f84 21 = .ok (.iload_n 1, 1) := oc_27 shJx4a65c_grow_92f84_21
theorem dJx4a65c_grow_92f84_22 : decode cJx4a65c_grow_92f84 22 = .ok (.iload_n 2, 1) := oc_28 shJx4a65c_grow_92f84_22
theorem dJx4a65c_grow_92f84_23 : decode cJx4a65c_grow_92f84 23 = .ok (.isub, 1) := oc_100 shJx4a65c_grow_92f84_23
theorem dJx4a65c_grow_92f84_24 : decode cJx4a65c_grow_92f84 24 = .ok (.iload_n 2, 1) := oc_28 shJx4a65c_grow_92f84_24
theorem dJx4a65c_grow_92f84_25 : decode cJx4a65c_grow_92f84 25 = .ok (.iconst 1, 1) := oc_4 shJx4a65c_grow_92f84_25
theorem dJx4a65c_grow_92f84_26 : decode cJx4a65c_grow_92f84 26 = .ok (.ishr, 1) := oc_122 shJx4a65c_grow_92f84_26
theorem dJx4a65c_grow_92f84_27 : decode cJx4a65c_grow_92f84 27 = .ok (.invokestatic 73, 3) := oc_184 shJx4a65c_grow_92f84_27
theorem dJx4a65c_grow_92f84_30 : decode cJx4a65c_grow_92f84 30 = .ok (.istore_n 3, 1) := oc_62 shJx4a65c_grow_92f84_30
theorem dJx4a65c_grow_92f84_31 : decode cJx4a65c_grow_92f84 31 = .ok (.aload_n 0, 1) := oc_42 shJx4a65c_grow_92f84_31
theorem dJx4a65c_grow_92f84_32 : decode cJx4a65c_grow_92f84 32 = .ok (.aload_n 0, 1) := oc_42 shJx4a65c_grow_92f84_32
theorem dJx4a65c_grow_92f84_33 : decode cJx4a65c_grow_92f84 33 = .ok (.getfield 9, 3) := oc_180 shJx4a65c_grow_92f84_33
theorem dJx4a65c_grow_92f84_36 : decode cJx4a65c_grow_92f84 36 = .ok (.iload_n 3, 1) := oc_29 shJx4a65c_grow_92f84_36
theorem dJx4a65c_grow_92f84_37 : decode cJx4a65c_grow_92f84 37 = .ok (.invokestatic 66, 3) := oc_184 shJx4a65c_grow_92f84_37
theorem dJx4a65c_grow_92f84_40 : decode cJx4a65c_grow_92f84 40 = .ok (.dup_x1, 1) := oc_90 shJx4a65c_grow_92f84_40
theorem dJx4a65c_grow_92f84_41 : decode cJx4a65c_grow_92f84 41 = .ok (.putfield 9, 3) := oc_181 shJx4a65c_grow_92f84_41
theorem dJx4a65c_grow_92f84_44 : decode cJx4a65c_grow_92f84 44 = .ok (.areturn, 1) := oc_176 shJx4a65c_grow_92f84_44
set_option maxRecDepth 100000 in
set_option maxHeartbeats 4000000 in
theorem q_l_newLen (l : Launch) (D : va_G) (cI cB cZ : ClassId) (c0 h0 : Nat) (hc : c0 ≤ 100) (hh : h0 ≤ 100) : Met l yJ8_newLength_cabcc (CWS yJ8_newLength_cabcc cJ8_newLength_cabcc 4 (some .int)) (RM 1 0 0) (PBr [.int (nI c0), .int 1, .int (nI h0)] D cI cB cZ []) (vp_Si (fun r => r = nI (c0 + max 1 h0))) 0 0 (fun _ => False) := by
  refine Met.ofW (cc := cJ8_newLength_cabcc) (maxL := 4) (ret := (some .int)) (by decide) rfl ?_
  intro p e s m args below meth c s₁ B hml hv
  obtain ⟨rfl, hP, hK⟩ := hv
  have hx := B.exec
  have hb := B.bytes
  have hr := B.returns
  have hts := atoms_spec (ws := (CWS yJ8_newLength_cabcc cJ8_newLength_cabcc 4 (some .int))) B.pre
  have hown : s.vm.findClass RJ8 = some m.cls := findClass_of_methodNamed B.named
  have hlocks := B.notSynchronized
  have S : SF p m c cJ8_newLength_cabcc 4 s ([.int (nI c0), .int 1, .int (nI h0)]).toArray RJ8 := ⟨hx, hb, hml, hown, fun w h => hts w (List.mem_cons_of_mem _ h)⟩
  have hP : va_P D vwCl [] s.heap := hP
  have hl := lv_entry ([.int (nI c0), .int 1, .int (nI h0)]) (n := 4) (Nat.le_of_ble_eq_true rfl)
  rw [lg_entry_eq]
  generalize (lg_sl ([.int (nI c0), .int 1, .int (nI h0)]) ++ List.replicate (4 - (lg_sl ([.int (nI c0), .int 1, .int (nI h0)])).length) Slot.unset).toArray = ls at hl ⊢
  have hl : lv_has ls 4 [(0, .int (nI c0)), (1, .int 1), (2, .int (nI h0))] := hl
  have tm : (nI (c0 + max 1 h0)).toInt = ((c0 + max 1 h0 : Nat) : Int) := nI_toInt (by omega)
  refine lv_iload_n hx hb dJ8_newLength_cabcc_0 rfl (lv_at hl 0 rfl) ?_
  refine lv_iload_n hx hb dJ8_newLength_cabcc_1 rfl (lv_at hl 1 rfl) ?_
  refine lv_iload_n hx hb dJ8_newLength_cabcc_2 rfl (lv_at hl 2 rfl) ?_
  refine va_mmax hx hb (by rw [hml]; exact hl.1.symm) hown (S.2.2.2.2 _ (wT_t2 133 rfl rfl)) (S.2.2.2.2 _ (wT_t1 42 rfl rfl)) (S.2.2.2.2 _ (wT_t1 3 rfl rfl)) (S.2.2.2.2 _ (wT_t1 43 rfl rfl)) (Nat.le_of_ble_eq_true rfl) (Nat.le_of_ble_eq_true rfl) (Nat.le_of_ble_eq_true rfl) (Nat.le_of_ble_eq_true rfl) dJ8_newLength_cabcc_3 ?_
  refine lv_topi (fun y_1 ey_1 => ?_)
  obtain rfl : y_1 = (nI (max 1 h0)) := ey_1.trans (max1 h0 (by omega))
  refine lv_iadd hx hb dJ8_newLength_cabcc_6 ?_
  refine lv_topi (fun y_2 ey_2 => ?_)
  obtain rfl : y_2 = (nI (c0 + max 1 h0)) := ey_2.trans (nI_add _ _)
  refine lv_istore_n (lv' := [(3, .int (nI (c0 + max 1 h0))), (0, .int (nI c0)), (1, .int 1), (2, .int (nI h0))]) hx hb dJ8_newLength_cabcc_7 rfl hl (by decide) rfl (fun ls hl => ?_)
  refine lv_iconst (v := 0) hx hb dJ8_newLength_cabcc_8 (by decide) ?_
  refine lv_iload_n hx hb dJ8_newLength_cabcc_9 rfl (lv_at hl 0 rfl) ?_
  refine lv_icmp_ge (tgt := 21) hx hb dJ8_newLength_cabcc_10 (by decide) (fun c_3 => False.elim (by have tc_3 : ((nI (c0 + max 1 h0)).toInt : Int) ≤ 0 := Int32.le_iff_toInt_le.mp c_3; omega)) (fun c_3 => ?_)
  have tc_3 : (0 : Int) < (nI (c0 + max 1 h0)).toInt := Int32.lt_iff_toInt_lt.mp (Int32.not_le.mp c_3)
  refine lv_iload_n hx hb dJ8_newLength_cabcc_13 rfl (lv_at hl 0 rfl) ?_
  refine lv_ldc (v := 2147483639) hx hb hown (S.2.2.2.2 _ (wT_t2 134 rfl rfl)) dJ8_newLength_cabcc_14 ?_
  refine lv_icmp_gt (tgt := 21) hx hb dJ8_newLength_cabcc_16 (by decide) (fun c_4 => False.elim (by have tc_4 : (2147483639 : Int) < (nI (c0 + max 1 h0)).toInt := Int32.lt_iff_toInt_lt.mp c_4; omega)) (fun c_4 => ?_)
  have tc_4 : ((nI (c0 + max 1 h0)).toInt : Int) ≤ 2147483639 := Int32.le_iff_toInt_le.mp (Int32.not_lt.mp c_4)
  refine lv_iload_n hx hb dJ8_newLength_cabcc_19 rfl (lv_at hl 0 rfl) ?_
  exact W.iret (v := (nI (c0 + max 1 h0))) hx hb hr (fun t ht hW => ⟨(nI (c0 + max 1 h0)), rfl, rfl, ht⟩) (fun _ h => absurd h List.not_mem_nil) dJ8_newLength_cabcc_20
