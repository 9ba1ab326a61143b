/-! LISTS THAT GROW: the list, its elements' array, the element, and whatever else there is -/
theorem shr1 : ∀ c0 : Nat, c0 < 101 → nI c0 >>> ((1 : Int32) &&& 31) = nI (c0 / 2) := by decide +kernel
theorem max1 : ∀ h : Nat, h < 101 → (if (1 : Int32) < nI h then nI h else 1) = nI (max 1 h) := by decide +kernel
section GL
variable {D : va_G} {cl : List vw_C} {A : Nat → Prop} {ws W : va_W} {H : Heap} {n a b c L E O : Nat × va_E} {i j m : Nat}
theorem g_rot : ((([a, b, c] : va_W) ++ ws) ++ [n]).Perm (([n, a, b, c] : va_W) ++ ws) := List.perm_append_comm (l₁ := ([a, b, c] : va_W) ++ ws) (l₂ := [n])
theorem g_dropP (hP : va_P D cl (([n, L, E, O] : va_W) ++ ws) H) : va_P D cl (([L, n, O] : va_W) ++ ws) H := va_P_mem.mpr (fun q hq => va_P_mem.mp hP q (by
  simp only [List.cons_append, List.nil_append, List.mem_cons] at hq ⊢
  rcases hq with h | h | h | h
  · exact Or.inr (Or.inl h)
  · exact Or.inl h
  · exact Or.inr (Or.inr (Or.inr (Or.inl h)))
  · exact Or.inr (Or.inr (Or.inr (Or.inr h)))))
theorem g_dropD (hD : va_D A (([n, L, E, O] : va_W) ++ ws)) : va_D A (([L, n, O] : va_W) ++ ws) := by
  have p : (([n, L, E, O] : va_W) ++ ws).Perm (E :: (([L, n, O] : va_W) ++ ws)) := by
    show (n :: L :: E :: O :: ws).Perm (E :: L :: n :: O :: ws)
    refine (List.Perm.swap L n _).trans ?_
    refine (List.Perm.cons L (List.Perm.swap E n _)).trans ?_
    exact List.Perm.swap E L _
  have h := va_D_mem.mp (va_D_perm p hD)
  exact va_D_mem.mpr ⟨(List.nodup_cons.mp h.1).2, fun q hq => h.2 q (List.mem_cons_of_mem _ hq)⟩
theorem set_out {α : Type} {v : α} : ∀ {V : List α} {i : Nat}, i < V.length → (V.set i v).Perm (v :: V.eraseIdx i)
  | [], i, h => absurd h (Nat.not_lt_zero i)
  | x :: r, 0, _ => List.Perm.refl _
  | x :: r, i + 1, h => by
    show (x :: r.set i v).Perm (v :: x :: r.eraseIdx i)
    exact (List.Perm.cons x (set_out (Nat.lt_of_succ_lt_succ h))).trans (List.Perm.swap v x _)
theorem set_era {α : Type} {v : α} : ∀ {V : List α} {i m : Nat}, i ≠ m → (V.set i v).eraseIdx m = (V.eraseIdx m).set (if i < m then i else i - 1) v
  | [], i, m, _ => by simp
  | x :: r, 0, 0, h => absurd rfl h
  | x :: r, 0, m + 1, _ => by simp
  | x :: r, i + 1, 0, _ => by simp
  | x :: r, i + 1, m + 1, h => by
    have h2 : i ≠ m := fun q => h (by rw [q])
    by_cases q : i < m
    · have := set_era (v := v) (V := r) h2
      rw [if_pos q] at this
      rw [if_pos (by omega)]
      simp [this]
    · have := set_era (v := v) (V := r) h2
      rw [if_neg q] at this
      rw [if_neg (by omega)]
      have e : i + 1 - 1 = (i - 1) + 1 := by omega
      rw [e]
      simp [this]
/-- three cells of a world and the rest -/
theorem pick3 (li : i < W.length) (lj : j < W.length) (lm : m < W.length) (hij : i ≠ j) (him : i ≠ m) (hjm : j ≠ m) : ∃ ws : va_W, ∀ a b c : Nat × va_E, (((W.set i a).set j b).set m c).Perm (([a, b, c] : va_W) ++ ws) := by
  let i1 := if i < m then i else i - 1
  let j1 := if j < m then j else j - 1
  let i2 := if i1 < j1 then i1 else i1 - 1
  have h1 : i1 ≠ j1 := by show (if i < m then i else i - 1) ≠ (if j < m then j else j - 1); split <;> split <;> omega
  have l1 : i1 < W.length - 1 := by show (if i < m then i else i - 1) < _; split <;> omega
  have l2 : j1 < W.length - 1 := by show (if j < m then j else j - 1) < _; split <;> omega
  have l3 : i2 < W.length - 2 := by show (if i1 < j1 then i1 else i1 - 1) < _; split <;> omega
  refine ⟨((W.eraseIdx m).eraseIdx j1).eraseIdx i2, fun a b c => ?_⟩
  have p1 := set_out (v := c) (V := (W.set i a).set j b) (i := m) (by simpa using lm)
  rw [set_era hjm, set_era him] at p1
  have p2 := set_out (v := b) (V := (W.eraseIdx m).set i1 a) (i := j1) (by simp [List.length_eraseIdx, lm]; omega)
  rw [set_era h1] at p2
  have p3 := set_out (v := a) (V := (W.eraseIdx m).eraseIdx j1) (i := i2) (by simp [List.length_eraseIdx, lm]; rw [if_pos l2]; omega)
  refine p1.trans ((List.Perm.cons c (p2.trans (List.Perm.cons b p3))).trans ?_)
  show (c :: b :: a :: _).Perm (a :: b :: c :: _)
  exact ((List.Perm.swap b c _).trans (List.Perm.cons b (List.Perm.swap a c _))).trans (List.Perm.swap a b _)
theorem pickG (hi : W[i]? = some L) (hj : W[j]? = some E) (hm : W[m]? = some O) (hij : i ≠ j) (him : i ≠ m) (hjm : j ≠ m) : ∃ ws : va_W, W.Perm (([L, E, O] : va_W) ++ ws) ∧ ∀ L' E' : Nat × va_E, ((W.set i L').set j E').Perm (([L', E', O] : va_W) ++ ws) := by
  obtain ⟨li, ei⟩ := List.getElem?_eq_some_iff.mp hi
  obtain ⟨lj, ej⟩ := List.getElem?_eq_some_iff.mp hj
  obtain ⟨lm, em⟩ := List.getElem?_eq_some_iff.mp hm
  obtain ⟨ws, h⟩ := pick3 li lj lm hij him hjm
  have same : ∀ (V : va_W) (k : Nat) (x : Nat × va_E), V[k]? = some x → V.set k x = V := fun V k x q => by
    obtain ⟨lk, ek⟩ := List.getElem?_eq_some_iff.mp q
    rw [← ek]; exact List.set_getElem_self lk
  refine ⟨ws, ?_, fun L' E' => ?_⟩
  · have := h L E O
    rw [same W i L hi, same W j E hj, same W m O hm] at this
    exact this
  · have := h L' E' O
    rw [same _ m O (by rw [List.getElem?_set_ne (fun q => hjm q), List.getElem?_set_ne (fun q => him q)]; exact hm)] at this
    exact this
theorem g_mem {l k : List Value} {x z y ci c0 c1 : Nat} {f : Nat → Option Nat} (h : ((y, .inr (ci, l)) : Nat × va_E) ∈ (([(x, .inr (0, k)), (z, .inl (c0, c1, .inr (.inr (.inr (.inr f))))), O] : va_W) ++ ws)) (hc : ci ≠ 0) : ((y, .inr (ci, l)) : Nat × va_E) ∈ O :: ws := by
  rcases List.mem_cons.mp h with h | h
  · have h := congrArg Prod.snd h
    simp only [Sum.inr.injEq, Prod.mk.injEq] at h
    exact absurd h.1 hc
  · rcases List.mem_cons.mp h with h | h
    · have h := congrArg Prod.snd h
      simp only [reduceCtorEq] at h
    · exact h
theorem cpy_rf {o : Nat → Nat} {n : Nat} : va_cpy (fun i => if i < n then some (o i) else none) (fun _ => none) 0 0 n = (fun i => if i < n then some (o i) else none) := by
  funext i
  unfold va_cpy
  by_cases q : i < n
  · rw [if_pos ⟨Nat.zero_le _, by omega⟩, show 0 + (i - 0) = i by omega]
  · rw [if_neg (fun w => q (by omega)), if_neg q]
end GL
/-- a start that knows a class's object, too -/
def PBm (mi : Nat) (As : List Value) (D : va_G) (cI cB cZ : ClassId) (z q v : Nat) (bt : Nat → Int32) (ws : va_W) (sz : Nat) : Array Value → State → Prop := va_Pc As (fun U => U.heap.size = sz ∧ va_P D vwCl ws U.heap ∧ KK D cI cB cZ U ∧ va_D (fun _ => True) ws ∧ XS D z q v bt (va_A ws sz) U U.heap ∧ va_Mi "[Ljava/lang/Object;" mi U)
theorem PBm_blind {mi : Nat} {As : List Value} {D : va_G} {cI cB cZ : ClassId} {z q v : Nat} {bt : Nat → Int32} {ws : va_W} {sz : Nat} : FrameBlind (PBm mi As D cI cB cZ z q v bt ws sz) := fun a U g mk q => ⟨q.1, q.2.1, q.2.2.1, KK.same (u := U) (U := U.calling g mk a) rfl q.2.2.2.1, q.2.2.2.2.1, XS.same (u := U) (U := U.calling g mk a) rfl q.2.2.2.2.2.1, q.2.2.2.2.2.2.moved (Vm.Alike.refl _)⟩
section LRUN
variable {p : Program} {l : Launch} {e : Env} {R : Room} {s : State} {m : MethodId} {args : Array Value} {below : List Frame} {meth : Method} {c : Code} {H : Heap} {locs : List Loc} {cells slots : Nat} {Q : State → Prop}
variable {cc b : ByteArray} {nL n idx k d mc ms pc sz : Nat} {own : String} {y : MethodName} {ret : Option FieldType} {As rest st : List Value} {ls : Array Slot} {D : va_G} {cI cB cZ : ClassId} {ws wc : va_W} {Qc : Array Value → State → Outcome → State → Prop} {a : Nat} {ci : Nat} {fs : List Value} {free : Addr → Prop} {z q v : Nat} {bt : Nat → Int32} {A : Nat → Prop}
theorem runS_xa (S : SF p m c cc nL s args own) (hM : Met l y (CWS y b n ret) (RM d mc ms) (PBx As D cI cB cZ z q v bt ws H.size) Qc mc ms free) (cal : CalS own idx y b n ret k) (hK : KK D cI cB cZ s) (hXS : XS D z q v bt A s s.heap) (hS : va_S A s.heap H locs) (hF : ∀ x, va_A ws H.size x → A x) (hP : va_P D vwCl ws H) (hD : va_D A ws) (hR : d + 1 ≤ R.frames ∧ 8 + (n + 11) + 40 * d ≤ R.locals) (hf : cells + mc ≤ R.cells ∧ slots + ms ≤ R.slots) (hn : As.length = k) (hsize : ls.size = nL) (hst : st = As.reverse ++ rest) (hW : (rest.map fun v => v.category).sum ≤ 8) (hdg : decode cc pc = .ok (.invokestatic idx, 3)) :
    va_Run p l e R s m args below meth c H locs cells slots mc ms (F0 m pc ls st) rest (Qc As.toArray) free :=
  va_runS S hM (va_cwS k S.2.2.2.2 cal.good rfl rfl rfl cal.2 hR) ⟨PBx_blind, fun U hU hW => ⟨rfl, by rw [hU], by rw [hU]; exact hP, hK.warm hW, hD.weaken (fun _ _ _ _ => trivial), by rw [hU]; exact hXS.call hS hF hW⟩⟩ rfl hn hsize hst (lv_room hW) hdg hf
theorem runS_xm {mi : Nat} (S : SF p m c cc nL s args own) (hM : Met l y (CWS y b n ret) (RM d mc ms) (PBm mi As D cI cB cZ z q v bt ws H.size) Qc mc ms free) (cal : CalS own idx y b n ret k) (hK : KK D cI cB cZ s) (hXS : XS D z q v bt A s s.heap) (hMi : va_Mi "[Ljava/lang/Object;" mi s) (hS : va_S A s.heap H locs) (hF : ∀ x, va_A ws H.size x → A x) (hP : va_P D vwCl ws H) (hD : va_D A ws) (hR : d + 1 ≤ R.frames ∧ 8 + (n + 11) + 40 * d ≤ R.locals) (hf : cells + mc ≤ R.cells ∧ slots + ms ≤ R.slots) (hn : As.length = k) (hsize : ls.size = nL) (hst : st = As.reverse ++ rest) (hW : (rest.map fun v => v.category).sum ≤ 8) (hdg : decode cc pc = .ok (.invokestatic idx, 3)) :
    va_Run p l e R s m args below meth c H locs cells slots mc ms (F0 m pc ls st) rest (Qc As.toArray) free :=
  va_runS S hM (va_cwS k S.2.2.2.2 cal.good rfl rfl rfl cal.2 hR) ⟨PBm_blind, fun U hU hW => ⟨rfl, by rw [hU], by rw [hU]; exact hP, hK.warm hW, hD.weaken (fun _ _ _ _ => trivial), by rw [hU]; exact hXS.call hS hF hW, hMi.moved hW.alike⟩⟩ rfl hn hsize hst (lv_room hW) hdg hf
theorem recvQ {q0 n0 : Nat} {f : Nat → Option Nat} {U0 : Heap} {A1 : Nat → Prop} (hXS : XS D z q v bt A1 s U0) (hP : va_P D vwCl ws H) (he : ws[q0]? = some (a, .inl (D.1 99, n0, .inr (.inr (.inr (.inr f)))))) : ∃ cell : Cell, H[a]? = some cell ∧ cell.vm.isStatics = false ∧ s.vm.findClass "[Ljava/lang/Object;" = some cell.cls :=
  ⟨_, hP q0 _ he, rfl, va_nmO (hXS.2.2.2.2.2.2.2.2.1.2 0 (D.1 99, .object "java/lang/Object") rfl).2 rfl⟩
end LRUN
theorem nI_nn {a : Nat} (h : a < 2 ^ 31) : ¬ nI a < 0 := fun w => by
  have w := Int32.lt_iff_toInt_lt.mp w
  rw [nI_toInt h] at w
  have e : (0 : Int32).toInt = 0 := rfl
  omega
theorem min_le {a b : Nat} (h : a ≤ b) (hb : b < 2 ^ 31) : (if nI b < nI a then nI b else nI a) = nI a := if_neg (fun w => by
  have w := Int32.lt_iff_toInt_lt.mp w
  rw [nI_toInt hb, nI_toInt (Nat.lt_of_le_of_lt h hb)] at w
  omega)

set_option maxRecDepth 100000 in
theorem kS_RJ7_300 : CalS RJ7 300 yJ7_copyOf_6403c cJ7_copyOf_6403c 4 (some (.array (.object "java/lang/Object"))) 3 := ⟨⟨wk2_13 3 rfl rfl, wk2_13 4 rfl rfl, wk1_0 8 rfl rfl, wk2_13 5 rfl rfl⟩, ⟨nmh_22.1, nmh_22.2, pd_72⟩⟩
set_option maxRecDepth 100000 in
theorem kS_RJx4a65c_73 : CalS RJx4a65c 73 yJ8_newLength_cabcc cJ8_newLength_cabcc 4 (some .int) 3 := ⟨⟨wk2_10 10 rfl rfl, wk2_10 11 rfl rfl, wk1_1 3 rfl rfl, wk2_11 0 rfl rfl⟩, ⟨nmh_24.1, nmh_24.2, pd_22⟩⟩
set_option maxRecDepth 100000 in
theorem kS_RJx4a65c_66 : CalS RJx4a65c 66 yJ7_copyOf_1904c cJ7_copyOf_1904c 2 (some (.array (.object "java/lang/Object"))) 2 := ⟨⟨wk2_11 6 rfl rfl, wk2_11 7 rfl rfl, wk1_0 8 rfl rfl, wk2_11 8 rfl rfl⟩, ⟨nmh_22.1, nmh_22.2, pd_71⟩⟩
noncomputable def sxJ8_newLength_cabcc_27 : List UInt8 := []
noncomputable def sxJ8_newLength_cabcc_26 : List UInt8 := 172 :: sxJ8_newLength_cabcc_27
theorem shJ8_newLength_cabcc_0 : cJ8_newLength_cabcc.data.toList.drop 0 = 26 :: 27 :: 28 :: 184 :: 0 :: 194 :: 96 :: 62 :: 3 :: 29 :: 162 :: 0 :: 11 :: 29 :: 18 :: 200 :: 163 :: 0 :: 5 :: 29 :: 172 :: 26 :: 27 :: 184 :: 0 :: 201 :: sxJ8_newLength_cabcc_26 := rfl
noncomputable def sxJ7_copyOf_6403c_40 : List UInt8 := []
noncomputable def sxJ7_copyOf_6403c_24 : List UInt8 := 78 :: 42 :: 3 :: 45 :: 3 :: 42 :: 190 :: 27 :: 184 :: 1 :: 48 :: 184 :: 0 :: 150 :: 45 :: 176 :: sxJ7_copyOf_6403c_40
theorem shJ7_copyOf_6403c_0 : cJ7_copyOf_6403c.data.toList.drop 0 = 44 :: 18 :: 110 :: 166 :: 0 :: 10 :: 27 :: 189 :: 0 :: 2 :: 167 :: 0 :: 14 :: 44 :: 182 :: 0 :: 90 :: 27 :: 184 :: 0 :: 95 :: 192 :: 0 :: 110 :: sxJ7_copyOf_6403c_24 := rfl
theorem shJ7_copyOf_6403c_24 : cJ7_copyOf_6403c.data.toList.drop 24 = 78 :: 42 :: 3 :: 45 :: 3 :: 42 :: 190 :: 27 :: 184 :: 1 :: 48 :: 184 :: 0 :: 150 :: 45 :: 176 :: sxJ7_copyOf_6403c_40 := aq_24 shJ7_copyOf_6403c_0
theorem dJ7_copyOf_6403c_0 : decode cJ7_copyOf_6403c 0 = .ok (.aload_n 2, 1) := oc_44 0 shJ7_copyOf_6403c_0
theorem dJ7_copyOf_6403c_1 : decode cJ7_copyOf_6403c 1 = .ok (.ldc 110, 2) := oc_18 1 (aq_1 shJ7_copyOf_6403c_0) ub_110
theorem dJ7_copyOf_6403c_3 : decode cJ7_copyOf_6403c 3 = .ok (.if_acmp .ne 10, 3) := oc_166 3 (aq_3 shJ7_copyOf_6403c_0) sgw_0_10
theorem dJ7_copyOf_6403c_6 : decode cJ7_copyOf_6403c 6 = .ok (.iload_n 1, 1) := oc_27 6 (aq_6 shJ7_copyOf_6403c_0)
theorem dJ7_copyOf_6403c_7 : decode cJ7_copyOf_6403c 7 = .ok (.anewarray 2, 3) := oc_189 7 (aq_7 shJ7_copyOf_6403c_0) uw_0_2
theorem dJ7_copyOf_6403c_10 : decode cJ7_copyOf_6403c 10 = .ok (.goto 14, 3) := oc_167 10 (aq_10 shJ7_copyOf_6403c_0) sgw_0_14
theorem dJ7_copyOf_6403c_24 : decode cJ7_copyOf_6403c 24 = .ok (.astore_n 3, 1) := oc_78 24 shJ7_copyOf_6403c_24
theorem dJ7_copyOf_6403c_25 : decode cJ7_copyOf_6403c 25 = .ok (.aload_n 0, 1) := oc_42 25 (aq_1 shJ7_copyOf_6403c_24)
theorem dJ7_copyOf_6403c_26 : decode cJ7_copyOf_6403c 26 = .ok (.iconst 0, 1) := oc_3 26 (aq_2 shJ7_copyOf_6403c_24)
theorem dJ7_copyOf_6403c_27 : decode cJ7_copyOf_6403c 27 = .ok (.aload_n 3, 1) := oc_45 27 (aq_3 shJ7_copyOf_6403c_24)
theorem dJ7_copyOf_6403c_28 : decode cJ7_copyOf_6403c 28 = .ok (.iconst 0, 1) := oc_3 28 (aq_4 shJ7_copyOf_6403c_24)
theorem dJ7_copyOf_6403c_29 : decode cJ7_copyOf_6403c 29 = .ok (.aload_n 0, 1) := oc_42 29 (aq_5 shJ7_copyOf_6403c_24)
theorem dJ7_copyOf_6403c_30 : decode cJ7_copyOf_6403c 30 = .ok (.arraylength, 1) := oc_190 30 (aq_6 shJ7_copyOf_6403c_24)
theorem dJ7_copyOf_6403c_31 : decode cJ7_copyOf_6403c 31 = .ok (.iload_n 1, 1) := oc_27 31 (aq_7 shJ7_copyOf_6403c_24)
theorem dJ7_copyOf_6403c_32 : decode cJ7_copyOf_6403c 32 = .ok (.invokestatic 304, 3) := oc_184 32 (aq_8 shJ7_copyOf_6403c_24) uw_1_48
theorem dJ7_copyOf_6403c_35 : decode cJ7_copyOf_6403c 35 = .ok (.invokestatic 150, 3) := oc_184 35 (aq_11 shJ7_copyOf_6403c_24) uw_0_150
theorem dJ7_copyOf_6403c_38 : decode cJ7_copyOf_6403c 38 = .ok (.aload_n 3, 1) := oc_45 38 (aq_14 shJ7_copyOf_6403c_24)
theorem dJ7_copyOf_6403c_39 : decode cJ7_copyOf_6403c 39 = .ok (.areturn, 1) := oc_176 39 (aq_15 shJ7_copyOf_6403c_24)
noncomputable def sxJ7_copyOf_1904c_10 : List UInt8 := []
theorem shJ7_copyOf_1904c_0 : cJ7_copyOf_1904c.data.toList.drop 0 = 42 :: 27 :: 42 :: 182 :: 0 :: 86 :: 184 :: 1 :: 44 :: 176 :: sxJ7_copyOf_1904c_10 := rfl
theorem dJ7_copyOf_1904c_0 : decode cJ7_copyOf_1904c 0 = .ok (.aload_n 0, 1) := oc_42 0 shJ7_copyOf_1904c_0
theorem dJ7_copyOf_1904c_1 : decode cJ7_copyOf_1904c 1 = .ok (.iload_n 1, 1) := oc_27 1 (aq_1 shJ7_copyOf_1904c_0)
theorem dJ7_copyOf_1904c_2 : decode cJ7_copyOf_1904c 2 = .ok (.aload_n 0, 1) := oc_42 2 (aq_2 shJ7_copyOf_1904c_0)
theorem dJ7_copyOf_1904c_3 : decode cJ7_copyOf_1904c 3 = .ok (.invokevirtual 86, 3) := oc_182 3 (aq_3 shJ7_copyOf_1904c_0) uw_0_86
theorem dJ7_copyOf_1904c_6 : decode cJ7_copyOf_1904c 6 = .ok (.invokestatic 300, 3) := oc_184 6 (aq_6 shJ7_copyOf_1904c_0) uw_1_44
theorem dJ7_copyOf_1904c_9 : decode cJ7_copyOf_1904c 9 = .ok (.areturn, 1) := oc_176 9 (aq_9 shJ7_copyOf_1904c_0)
theorem dJx4a65c_grow_92f84_20 : decode cJx4a65c_grow_92f84 20 = .ok (.iload_n 2, 1) := oc_28 20 (aq_20 shJx4a65c_grow_92f84_0)
theorem dJx4a65c_grow_92f84_21 : decode cJx4a65c_grow_92f84 21 = .ok (.iload_n 1, 1) := oc_27 21 (aq_21 shJx4a65c_grow_92f84_0)
theorem dJx4a65c_grow_92f84_22 : decode cJx4a65c_grow_92f84 22 = .ok (.iload_n 2, 1) := oc_28 22 (aq_22 shJx4a65c_grow_92f84_0)
theorem dJx4a65c_grow_92f84_23 : decode cJx4a65c_grow_92f84 23 = .ok (.isub, 1) := oc_100 23 (aq_23 shJx4a65c_grow_92f84_0)
theorem dJx4a65c_grow_92f84_24 : decode cJx4a65c_grow_92f84 24 = .ok (.iload_n 2, 1) := oc_28 24 shJx4a65c_grow_92f84_24
theorem dJx4a65c_grow_92f84_25 : decode cJx4a65c_grow_92f84 25 = .ok (.iconst 1, 1) := oc_4 25 (aq_1 shJx4a65c_grow_92f84_24)
theorem dJx4a65c_grow_92f84_26 : decode cJx4a65c_grow_92f84 26 = .ok (.ishr, 1) := oc_122 26 (aq_2 shJx4a65c_grow_92f84_24)
theorem dJx4a65c_grow_92f84_27 : decode cJx4a65c_grow_92f84 27 = .ok (.invokestatic 73, 3) := oc_184 27 (aq_3 shJx4a65c_grow_92f84_24) uw_0_73
theorem dJx4a65c_grow_92f84_30 : decode cJx4a65c_grow_92f84 30 = .ok (.istore_n 3, 1) := oc_62 30 (aq_6 shJx4a65c_grow_92f84_24)
theorem dJx4a65c_grow_92f84_31 : decode cJx4a65c_grow_92f84 31 = .ok (.aload_n 0, 1) := oc_42 31 (aq_7 shJx4a65c_grow_92f84_24)
theorem dJx4a65c_grow_92f84_32 : decode cJx4a65c_grow_92f84 32 = .ok (.aload_n 0, 1) := oc_42 32 (aq_8 shJx4a65c_grow_92f84_24)
theorem dJx4a65c_grow_92f84_33 : decode cJx4a65c_grow_92f84 33 = .ok (.getfield 9, 3) := oc_180 33 (aq_9 shJx4a65c_grow_92f84_24) uw_0_9
theorem dJx4a65c_grow_92f84_36 : decode cJx4a65c_grow_92f84 36 = .ok (.iload_n 3, 1) := oc_29 36 (aq_12 shJx4a65c_grow_92f84_24)
theorem dJx4a65c_grow_92f84_37 : decode cJx4a65c_grow_92f84 37 = .ok (.invokestatic 66, 3) := oc_184 37 (aq_13 shJx4a65c_grow_92f84_24) uw_0_66
theorem dJx4a65c_grow_92f84_40 : decode cJx4a65c_grow_92f84 40 = .ok (.dup_x1, 1) := oc_90 40 (aq_16 shJx4a65c_grow_92f84_24)
theorem dJx4a65c_grow_92f84_41 : decode cJx4a65c_grow_92f84 41 = .ok (.putfield 9, 3) := oc_181 41 (aq_17 shJx4a65c_grow_92f84_24) uw_0_9
theorem dJx4a65c_grow_92f84_44 : decode cJx4a65c_grow_92f84 44 = .ok (.areturn, 1) := oc_176 44 (aq_20 shJx4a65c_grow_92f84_24)
set_option maxRecDepth 100000 in
set_option maxHeartbeats 4000000 in
theorem q_l_newLen (l : Launch) (D : va_G) (cI cB cZ : ClassId) (c0 h0 : Nat) (hc : c0 ≤ 100) (hh : h0 ≤ 100) : Met l yJ8_newLength_cabcc (CWS yJ8_newLength_cabcc cJ8_newLength_cabcc 4 (some .int)) (RM 1 0 0) (PBr [.int (nI c0), .int 1, .int (nI h0)] D cI cB cZ []) (vp_Si (fun r => r = nI (c0 + max 1 h0))) 0 0 (fun _ => False) := by
  refine en_r rfl pn_RJ8 (Nat.le_of_ble_eq_true rfl) (fun p e s m below meth c hx hb hml hown S hr hlocks hnm hP hK hS ls hl => ?_)
  have hP : va_P D vwCl [] s.heap := hP
  have hl : lv_has ls 4 [(0, .int (nI c0)), (1, .int 1), (2, .int (nI h0))] := hl
  have tm : (nI (c0 + max 1 h0)).toInt = ((c0 + max 1 h0 : Nat) : Int) := nI_toInt (by omega)
  refine lv_iload_n hx hb (oc_26 0 shJ8_newLength_cabcc_0) rfl (lvA0 hl) ?_
  refine lv_iload_n hx hb (oc_27 1 (aq_1 shJ8_newLength_cabcc_0)) rfl (lvA1 hl) ?_
  refine lv_iload_n hx hb (oc_28 2 (aq_2 shJ8_newLength_cabcc_0)) rfl (lvA2 hl) ?_
  refine va_mmax hx hb (by rw [hml]; exact hl.1.symm) hown (S.2.2.2.2 _ (wk2_11 1 rfl rfl)) (S.2.2.2.2 _ (wk1_3 6 rfl rfl)) (S.2.2.2.2 _ (wk1_0 3 rfl rfl)) (S.2.2.2.2 _ (wk1_3 7 rfl rfl)) (Nat.le_of_ble_eq_true rfl) (Nat.le_of_ble_eq_true rfl) (Nat.le_of_ble_eq_true rfl) (Nat.le_of_ble_eq_true rfl) (oc_184 3 (aq_3 shJ8_newLength_cabcc_0) uw_0_194) ?_
  refine lv_topi (fun y_1 ey_1 => ?_)
  obtain rfl : y_1 = (nI (max 1 h0)) := ey_1.trans (max1 h0 (by omega))
  refine lv_iadd hx hb (oc_96 6 (aq_6 shJ8_newLength_cabcc_0)) ?_
  refine lv_topi (fun y_2 ey_2 => ?_)
  obtain rfl : y_2 = (nI (c0 + max 1 h0)) := ey_2.trans (nI_add _ _)
  refine lv_istore_n (lv' := [(3, .int (nI (c0 + max 1 h0))), (0, .int (nI c0)), (1, .int 1), (2, .int (nI h0))]) hx hb (oc_62 7 (aq_7 shJ8_newLength_cabcc_0)) rfl hl (ltb rfl) rfl (fun ls hl => ?_)
  refine lv_iconst (v := 0) hx hb (oc_3 8 (aq_8 shJ8_newLength_cabcc_0)) kic_0 ?_
  refine lv_iload_n hx hb (oc_29 9 (aq_9 shJ8_newLength_cabcc_0)) rfl (lvA0 hl) ?_
  refine lv_icmp_ge (tgt := 21) hx hb (oc_162 10 (aq_10 shJ8_newLength_cabcc_0) sgw_0_11) rfl (fun c_3 => False.elim (by have tc_3 : ((nI (c0 + max 1 h0)).toInt : Int) ≤ 0 := Int32.le_iff_toInt_le.mp c_3; omega)) (fun c_3 => ?_)
  have tc_3 : (0 : Int) < (nI (c0 + max 1 h0)).toInt := Int32.lt_iff_toInt_lt.mp (Int32.not_le.mp c_3)
  refine lv_iload_n hx hb (oc_29 13 (aq_13 shJ8_newLength_cabcc_0)) rfl (lvA0 hl) ?_
  refine lv_ldc (v := 2147483639) hx hb hown (S.2.2.2.2 _ (wk2_11 2 rfl rfl)) (oc_18 14 (aq_14 shJ8_newLength_cabcc_0) ub_200) ?_
  refine lv_icmp_gt (tgt := 21) hx hb (oc_163 16 (aq_16 shJ8_newLength_cabcc_0) sgw_0_5) rfl (fun c_4 => False.elim (by have tc_4 : (2147483639 : Int) < (nI (c0 + max 1 h0)).toInt := Int32.lt_iff_toInt_lt.mp c_4; omega)) (fun c_4 => ?_)
  have tc_4 : ((nI (c0 + max 1 h0)).toInt : Int) ≤ 2147483639 := Int32.le_iff_toInt_le.mp (Int32.not_lt.mp c_4)
  refine lv_iload_n hx hb (oc_29 19 (aq_19 shJ8_newLength_cabcc_0)) rfl (lvA0 hl) ?_
  exact W.iret (v := (nI (c0 + max 1 h0))) hx hb hr (fun t ht hW => ⟨(nI (c0 + max 1 h0)), rfl, rfl, ht⟩) (fun _ h => absurd h List.not_mem_nil) (oc_172 20 (aq_20 shJ8_newLength_cabcc_0))
set_option maxRecDepth 100000 in
set_option maxHeartbeats 4000000 in
theorem q_l_cpo3K (l : Launch) (D : va_G) (cI cB cZ : ClassId) (zz qq vv : Nat) (bt : Nat → Int32) (c1 mi : Nat) (x z n eo : Nat) (mc : Int32) (o : Nat → Nat) (e0 e1 e2 e3 e4 e5 e6 e7 e8 e9 : Int32) (w : Nat) (ws : va_W) (sz : Nat) (hc : n < c1) (h100 : c1 ≤ 100) (hel : ∀ i : Nat, i < n → ∃ fs : List Value, ((o i, .inr (2, fs)) : Nat × va_E) ∈ ((eo, .inr (2, [.int e0, .int e1, .int e2, .int e3, .int e4, .int e5, .int e6, .int e7, .int e8, .int e9, .ref w])) : Nat × va_E) :: ws) : Met l yJ7_copyOf_6403c (CWS yJ7_copyOf_6403c cJ7_copyOf_6403c 4 (some (.array (.object "java/lang/Object")))) (RM 2 1 100) (PBm mi [.ref z, .int (nI c1), .ref mi] D cI cB cZ zz qq vv bt (([(x, .inr (0, [.int mc, .ref z, .int (nI n)])), (z, .inl (D.1 99, n, .inr (.inr (.inr (.inr (fun i => if i < n then some (o i) else none)))))), (eo, .inr (2, [.int e0, .int e1, .int e2, .int e3, .int e4, .int e5, .int e6, .int e7, .int e8, .int e9, .ref w]))] : va_W) ++ ws) sz) (va_Qq (fun (r : Option Nat) (u : Nat) => r = some u ∧ True) (fun (u : Nat) (t : State) => va_P D vwCl (([(u, .inl (D.1 99, c1, .inr (.inr (.inr (.inr (fun i => if i < n then some (o i) else none)))))), (x, .inr (0, [.int mc, .ref z, .int (nI n)])), (z, .inl (D.1 99, n, .inr (.inr (.inr (.inr (fun i => if i < n then some (o i) else none)))))), (eo, .inr (2, [.int e0, .int e1, .int e2, .int e3, .int e4, .int e5, .int e6, .int e7, .int e8, .int e9, .ref w]))] : va_W) ++ ws) t.heap ∧ va_D (va_A (([(x, .inr (0, [.int mc, .ref z, .int (nI n)])), (z, .inl (D.1 99, n, .inr (.inr (.inr (.inr (fun i => if i < n then some (o i) else none)))))), (eo, .inr (2, [.int e0, .int e1, .int e2, .int e3, .int e4, .int e5, .int e6, .int e7, .int e8, .int e9, .ref w]))] : va_W) ++ ws) sz) (([(u, .inl (D.1 99, c1, .inr (.inr (.inr (.inr (fun i => if i < n then some (o i) else none)))))), (x, .inr (0, [.int mc, .ref z, .int (nI n)])), (z, .inl (D.1 99, n, .inr (.inr (.inr (.inr (fun i => if i < n then some (o i) else none)))))), (eo, .inr (2, [.int e0, .int e1, .int e2, .int e3, .int e4, .int e5, .int e6, .int e7, .int e8, .int e9, .ref w]))] : va_W) ++ ws)) (va_A (([(x, .inr (0, [.int mc, .ref z, .int (nI n)])), (z, .inl (D.1 99, n, .inr (.inr (.inr (.inr (fun i => if i < n then some (o i) else none)))))), (eo, .inr (2, [.int e0, .int e1, .int e2, .int e3, .int e4, .int e5, .int e6, .int e7, .int e8, .int e9, .ref w]))] : va_W) ++ ws) sz)) 1 100 (va_A (([(x, .inr (0, [.int mc, .ref z, .int (nI n)])), (z, .inl (D.1 99, n, .inr (.inr (.inr (.inr (fun i => if i < n then some (o i) else none)))))), (eo, .inr (2, [.int e0, .int e1, .int e2, .int e3, .int e4, .int e5, .int e6, .int e7, .int e8, .int e9, .ref w]))] : va_W) ++ ws) sz) := by
  refine Met.ofW (cc := cJ7_copyOf_6403c) (maxL := 4) (ret := (some (.array (.object "java/lang/Object")))) (by decide) rfl ?_
  intro p e s m args below meth c s₁ B hml hv
  obtain ⟨rfl, hsz, hP, hK, hD0, hXS, hMi⟩ := hv
  have hx := B.exec
  have hb := B.bytes
  have hr := B.returns
  have hts := atoms_spec (ws := (CWS yJ7_copyOf_6403c cJ7_copyOf_6403c 4 (some (.array (.object "java/lang/Object"))))) B.pre
  have hown : s.vm.findClass RJ7 = some m.cls := findClass_of_methodNamed B.named
  have hlocks := B.notSynchronized
  have S : SF p m c cJ7_copyOf_6403c 4 s ([.ref z, .int (nI c1), .ref mi]).toArray RJ7 := ⟨hx, hb, hml, hown, fun w h => hts w (List.mem_cons_of_mem _ h)⟩
  subst hsz
  have hD := hD0.self (sz := s.heap.size)
  generalize hAe : va_A (([(x, .inr (0, [.int mc, .ref z, .int (nI n)])), (z, .inl (D.1 99, n, .inr (.inr (.inr (.inr (fun i => if i < n then some (o i) else none)))))), (eo, .inr (2, [.int e0, .int e1, .int e2, .int e3, .int e4, .int e5, .int e6, .int e7, .int e8, .int e9, .ref w]))] : va_W) ++ ws) s.heap.size = A at hD hXS ⊢
  have hA : ∀ q : Nat, s.heap.size ≤ q → A q := fun q h => by rw [← hAe]; exact Or.inr h
  have hS : va_S A s.heap s.heap [] := va_S.rf
  have hP : va_P D vwCl (([(x, .inr (0, [.int mc, .ref z, .int (nI n)])), (z, .inl (D.1 99, n, .inr (.inr (.inr (.inr (fun i => if i < n then some (o i) else none)))))), (eo, .inr (2, [.int e0, .int e1, .int e2, .int e3, .int e4, .int e5, .int e6, .int e7, .int e8, .int e9, .ref w]))] : va_W) ++ ws) s.heap := hP
  have hD : va_D A (([(x, .inr (0, [.int mc, .ref z, .int (nI n)])), (z, .inl (D.1 99, n, .inr (.inr (.inr (.inr (fun i => if i < n then some (o i) else none)))))), (eo, .inr (2, [.int e0, .int e1, .int e2, .int e3, .int e4, .int e5, .int e6, .int e7, .int e8, .int e9, .ref w]))] : va_W) ++ ws) := hD
  have hl := lv_entry ([.ref z, .int (nI c1), .ref mi]) (n := 4) (Nat.le_of_ble_eq_true rfl)
  rw [lg_entry_eq]
  generalize (lg_sl ([.ref z, .int (nI c1), .ref mi]) ++ List.replicate (4 - (lg_sl ([.ref z, .int (nI c1), .ref mi])).length) Slot.unset).toArray = ls at hl ⊢
  have hl : lv_has ls 4 [(0, .ref z), (1, .int (nI c1)), (2, .ref mi)] := hl
  refine lv_aload_n hx hb dJ7_copyOf_6403c_0 rfl (lvA2 hl) ?_
  refine va_ldcM hx hb hown (S.2.2.2.2 _ (wk2_13 6 rfl rfl)) hMi dJ7_copyOf_6403c_1 ?_
  refine lv_acmp_ne (rx := some mi) (ry := some mi) (tgt := 13) hx hb dJ7_copyOf_6403c_3 (by decide) (fun h => absurd rfl h) (fun _ => ?_)
  refine lv_iload_n hx hb dJ7_copyOf_6403c_6 rfl (lvA1 hl) ?_
  refine newq_obj S hXS hK hP hD hS hA (N' := c1) (wk2_13 8 rfl rfl) (nI_nn (by omega)) (nI_clamp (by omega)) (by omega) (Nat.le_of_ble_eq_true rfl) (by show 0 + c1 ≤ 100; omega) dJ7_copyOf_6403c_7 (fun q7 H hP hD hS => ?_)
  refine W.widen (k := 1) (n := 100) (Nat.le_of_ble_eq_true rfl) (by omega) ?_
  have hP : va_P D vwCl (([(q7, .inl (D.1 99, c1, .inr (.inr (.inr (.inr (fun _ => none)))))), (x, .inr (0, [.int mc, .ref z, .int (nI n)])), (z, .inl (D.1 99, n, .inr (.inr (.inr (.inr (fun i => if i < n then some (o i) else none)))))), (eo, .inr (2, [.int e0, .int e1, .int e2, .int e3, .int e4, .int e5, .int e6, .int e7, .int e8, .int e9, .ref w]))] : va_W) ++ ws) H := va_P_perm g_rot hP
  have hD : va_D A (([(q7, .inl (D.1 99, c1, .inr (.inr (.inr (.inr (fun _ => none)))))), (x, .inr (0, [.int mc, .ref z, .int (nI n)])), (z, .inl (D.1 99, n, .inr (.inr (.inr (.inr (fun i => if i < n then some (o i) else none)))))), (eo, .inr (2, [.int e0, .int e1, .int e2, .int e3, .int e4, .int e5, .int e6, .int e7, .int e8, .int e9, .ref w]))] : va_W) ++ ws) := va_D_perm g_rot hD
  refine lv_goto (tgt := 24) hx hb dJ7_copyOf_6403c_10 rfl ?_
  refine lv_astore_n (lv' := [(3, .ref q7), (0, .ref z), (1, .int (nI c1)), (2, .ref mi)]) hx hb dJ7_copyOf_6403c_24 rfl hl (ltb rfl) rfl (fun ls hl => ?_)
  refine lv_aload_n hx hb dJ7_copyOf_6403c_25 rfl (lvA1 hl) ?_
  refine lv_iconst (v := 0) hx hb dJ7_copyOf_6403c_26 kic_0 ?_
  refine lv_aload_n hx hb dJ7_copyOf_6403c_27 rfl (lvA0 hl) ?_
  refine lv_iconst (v := 0) hx hb dJ7_copyOf_6403c_28 kic_0 ?_
  refine lv_aload_n hx hb dJ7_copyOf_6403c_29 rfl (lvA1 hl) ?_
  refine va_alen hx hb hXS.2.2.2.2.2.2.2.2.1 hP 2 0 rfl rfl (v := (nI n)) rfl dJ7_copyOf_6403c_30 ?_
  refine lv_iload_n hx hb dJ7_copyOf_6403c_31 rfl (lvA2 hl) ?_
  refine va_mmin hx hb (by rw [hml]; exact hl.1.symm) hown (S.2.2.2.2 _ (wk2_13 9 rfl rfl)) (S.2.2.2.2 _ (wk2_13 10 rfl rfl)) (S.2.2.2.2 _ (wk1_0 3 rfl rfl)) (S.2.2.2.2 _ (wk2_13 11 rfl rfl)) (Nat.le_of_ble_eq_true rfl) (Nat.le_of_ble_eq_true rfl) (Nat.le_of_ble_eq_true rfl) (Nat.le_of_ble_eq_true rfl) dJ7_copyOf_6403c_32 ?_
  refine lv_topi (fun y_1 ey_1 => ?_)
  obtain rfl : y_1 = (nI n) := ey_1.trans (min_le (by omega) (by omega))
  have hel9 : ∀ i : Nat, i < ((nI n) : Int32).toNatClampNeg → ∀ y : Nat, (fun i => if i < n then some (o i) else none) ((0 : Int32).toNatClampNeg + i) = some y → ∃ cellV : Cell, H[y]? = some cellV ∧ cellV.vm.isStatics = false ∧ s.vm.findClass "OilHome$Kitchen" = some cellV.cls := by
    intro i hi y hy
    rw [nI_clamp (by omega)] at hi
    have hy : (if 0 + i < n then some (o (0 + i)) else none) = some y := hy
    rw [Nat.zero_add, if_pos hi] at hy
    obtain rfl := Option.some.inj hy
    obtain ⟨fs, hfs⟩ := hel i hi
    obtain ⟨j9, hj9⟩ := List.mem_iff_getElem?.mp (show ((o i, .inr (2, fs)) : Nat × va_E) ∈ (([(q7, .inl (D.1 99, c1, .inr (.inr (.inr (.inr (fun _ => none)))))), (x, .inr (0, [.int mc, .ref z, .int (nI n)])), (z, .inl (D.1 99, n, .inr (.inr (.inr (.inr (fun i => if i < n then some (o i) else none)))))), (eo, .inr (2, [.int e0, .int e1, .int e2, .int e3, .int e4, .int e5, .int e6, .int e7, .int e8, .int e9, .ref w]))] : va_W) ++ ws) from List.mem_cons_of_mem _ (List.mem_cons_of_mem _ (List.mem_cons_of_mem _ hfs)))
    exact va_recv hK.1 hP (ci := 2) rfl hj9
  refine va_copyq (E0 := "java/lang/Object") (E1 := "java/lang/Object") (C := "OilHome$Kitchen") hx hb (by rw [hml]; exact hl.1.symm) hown (S.2.2.2.2 _ (wk2_14 0 rfl rfl)) (S.2.2.2.2 _ (wk2_14 2 rfl rfl)) (S.2.2.2.2 _ (wk2_14 1 rfl rfl)) (S.2.2.2.2 _ (wk1_1 4 rfl rfl)) hXS.2.2.2.2.2.2.2.2.1 hP hD hS 2 0 0 0 rfl rfl rfl rfl (by decide) (by decide) (nI_nn (by omega)) (by rw [nI_clamp (by omega)]; show 0 + n ≤ n; omega) (by rw [nI_clamp (by omega)]; show 0 + n ≤ c1; omega) hel9 (vb_asgC hXS.2.2.2.2.2.2.2.2.2.2.1) (Nat.le_of_ble_eq_true rfl) (Nat.le_of_ble_eq_true (by decide +kernel)) dJ7_copyOf_6403c_35 (fun H locs hP hD hS => ?_)
  rw [nI_clamp (n := n) (by omega), show (0 : Int32).toNatClampNeg = 0 by decide, cpy_rf] at hP hD
  have hP : va_P D vwCl (([(q7, .inl (D.1 99, c1, .inr (.inr (.inr (.inr (fun i => if i < n then some (o i) else none)))))), (x, .inr (0, [.int mc, .ref z, .int (nI n)])), (z, .inl (D.1 99, n, .inr (.inr (.inr (.inr (fun i => if i < n then some (o i) else none)))))), (eo, .inr (2, [.int e0, .int e1, .int e2, .int e3, .int e4, .int e5, .int e6, .int e7, .int e8, .int e9, .ref w]))] : va_W) ++ ws) H := hP
  have hD : va_D A (([(q7, .inl (D.1 99, c1, .inr (.inr (.inr (.inr (fun i => if i < n then some (o i) else none)))))), (x, .inr (0, [.int mc, .ref z, .int (nI n)])), (z, .inl (D.1 99, n, .inr (.inr (.inr (.inr (fun i => if i < n then some (o i) else none)))))), (eo, .inr (2, [.int e0, .int e1, .int e2, .int e3, .int e4, .int e5, .int e6, .int e7, .int e8, .int e9, .ref w]))] : va_W) ++ ws) := hD
  refine lv_aload_n hx hb dJ7_copyOf_6403c_38 rfl (lvA0 hl) ?_
  exact W.aret (v := .ref q7) hx hb hr (by first | exact Or.inl ⟨_, rfl⟩ | exact Or.inr ⟨_, rfl⟩) (Or.inr ⟨_, rfl⟩) (fun t ht hW => ⟨⟨some q7, q7, rfl, ⟨rfl, trivial⟩, by rw [ht]; exact hP, hD⟩, hS.F ht⟩) hS.2.2 dJ7_copyOf_6403c_39
set_option maxRecDepth 100000 in
set_option maxHeartbeats 4000000 in
theorem q_l_cpo2K (l : Launch) (D : va_G) (cI cB cZ : ClassId) (zz qq vv : Nat) (bt : Nat → Int32) (c1 : Nat) (x z n eo : Nat) (mc : Int32) (o : Nat → Nat) (e0 e1 e2 e3 e4 e5 e6 e7 e8 e9 : Int32) (w : Nat) (ws : va_W) (sz : Nat) (hc : n < c1) (h100 : c1 ≤ 100) (hel : ∀ i : Nat, i < n → ∃ fs : List Value, ((o i, .inr (2, fs)) : Nat × va_E) ∈ ((eo, .inr (2, [.int e0, .int e1, .int e2, .int e3, .int e4, .int e5, .int e6, .int e7, .int e8, .int e9, .ref w])) : Nat × va_E) :: ws) : Met l yJ7_copyOf_1904c (CWS yJ7_copyOf_1904c cJ7_copyOf_1904c 2 (some (.array (.object "java/lang/Object")))) (RM 3 1 100) (PBx [.ref z, .int (nI c1)] D cI cB cZ zz qq vv bt (([(x, .inr (0, [.int mc, .ref z, .int (nI n)])), (z, .inl (D.1 99, n, .inr (.inr (.inr (.inr (fun i => if i < n then some (o i) else none)))))), (eo, .inr (2, [.int e0, .int e1, .int e2, .int e3, .int e4, .int e5, .int e6, .int e7, .int e8, .int e9, .ref w]))] : va_W) ++ ws) sz) (va_Qq (fun (r : Option Nat) (u : Nat) => r = some u ∧ True) (fun (u : Nat) (t : State) => va_P D vwCl (([(u, .inl (D.1 99, c1, .inr (.inr (.inr (.inr (fun i => if i < n then some (o i) else none)))))), (x, .inr (0, [.int mc, .ref z, .int (nI n)])), (z, .inl (D.1 99, n, .inr (.inr (.inr (.inr (fun i => if i < n then some (o i) else none)))))), (eo, .inr (2, [.int e0, .int e1, .int e2, .int e3, .int e4, .int e5, .int e6, .int e7, .int e8, .int e9, .ref w]))] : va_W) ++ ws) t.heap ∧ va_D (va_A (([(x, .inr (0, [.int mc, .ref z, .int (nI n)])), (z, .inl (D.1 99, n, .inr (.inr (.inr (.inr (fun i => if i < n then some (o i) else none)))))), (eo, .inr (2, [.int e0, .int e1, .int e2, .int e3, .int e4, .int e5, .int e6, .int e7, .int e8, .int e9, .ref w]))] : va_W) ++ ws) sz) (([(u, .inl (D.1 99, c1, .inr (.inr (.inr (.inr (fun i => if i < n then some (o i) else none)))))), (x, .inr (0, [.int mc, .ref z, .int (nI n)])), (z, .inl (D.1 99, n, .inr (.inr (.inr (.inr (fun i => if i < n then some (o i) else none)))))), (eo, .inr (2, [.int e0, .int e1, .int e2, .int e3, .int e4, .int e5, .int e6, .int e7, .int e8, .int e9, .ref w]))] : va_W) ++ ws)) (va_A (([(x, .inr (0, [.int mc, .ref z, .int (nI n)])), (z, .inl (D.1 99, n, .inr (.inr (.inr (.inr (fun i => if i < n then some (o i) else none)))))), (eo, .inr (2, [.int e0, .int e1, .int e2, .int e3, .int e4, .int e5, .int e6, .int e7, .int e8, .int e9, .ref w]))] : va_W) ++ ws) sz)) 1 100 (va_A (([(x, .inr (0, [.int mc, .ref z, .int (nI n)])), (z, .inl (D.1 99, n, .inr (.inr (.inr (.inr (fun i => if i < n then some (o i) else none)))))), (eo, .inr (2, [.int e0, .int e1, .int e2, .int e3, .int e4, .int e5, .int e6, .int e7, .int e8, .int e9, .ref w]))] : va_W) ++ ws) sz) := by
  refine en_x (fun A => (va_Qq (fun (r : Option Nat) (u : Nat) => r = some u ∧ True) (fun (u : Nat) (t : State) => va_P D vwCl (([(u, .inl (D.1 99, c1, .inr (.inr (.inr (.inr (fun i => if i < n then some (o i) else none)))))), (x, .inr (0, [.int mc, .ref z, .int (nI n)])), (z, .inl (D.1 99, n, .inr (.inr (.inr (.inr (fun i => if i < n then some (o i) else none)))))), (eo, .inr (2, [.int e0, .int e1, .int e2, .int e3, .int e4, .int e5, .int e6, .int e7, .int e8, .int e9, .ref w]))] : va_W) ++ ws) t.heap ∧ va_D A (([(u, .inl (D.1 99, c1, .inr (.inr (.inr (.inr (fun i => if i < n then some (o i) else none)))))), (x, .inr (0, [.int mc, .ref z, .int (nI n)])), (z, .inl (D.1 99, n, .inr (.inr (.inr (.inr (fun i => if i < n then some (o i) else none)))))), (eo, .inr (2, [.int e0, .int e1, .int e2, .int e3, .int e4, .int e5, .int e6, .int e7, .int e8, .int e9, .ref w]))] : va_W) ++ ws)) A)) rfl rfl pn_RJ7 (Nat.le_of_ble_eq_true rfl) (fun p e s m below meth c A hx hb hml hown S hr hlocks hnm hA hP hK hD hXS hS ls hl => ?_)
  have hP : va_P D vwCl (([(x, .inr (0, [.int mc, .ref z, .int (nI n)])), (z, .inl (D.1 99, n, .inr (.inr (.inr (.inr (fun i => if i < n then some (o i) else none)))))), (eo, .inr (2, [.int e0, .int e1, .int e2, .int e3, .int e4, .int e5, .int e6, .int e7, .int e8, .int e9, .ref w]))] : va_W) ++ ws) s.heap := hP
  have hD : va_D A (([(x, .inr (0, [.int mc, .ref z, .int (nI n)])), (z, .inl (D.1 99, n, .inr (.inr (.inr (.inr (fun i => if i < n then some (o i) else none)))))), (eo, .inr (2, [.int e0, .int e1, .int e2, .int e3, .int e4, .int e5, .int e6, .int e7, .int e8, .int e9, .ref w]))] : va_W) ++ ws) := hD
  have hl : lv_has ls 2 [(0, .ref z), (1, .int (nI c1))] := hl
  refine lv_aload_n hx hb dJ7_copyOf_1904c_0 rfl (lvA0 hl) ?_
  refine lv_iload_n hx hb dJ7_copyOf_1904c_1 rfl (lvA1 hl) ?_
  refine lv_aload_n hx hb dJ7_copyOf_1904c_2 rfl (lvA0 hl) ?_
  obtain ⟨mi, hMi⟩ := hXS.2.2.2.2.2.2.2.2.2.2.2.2.2.2
  refine va_getC (C := "[Ljava/lang/Object;") (mi := mi) hx hb (by rw [hml]; exact hl.1.symm) hown (S.2.2.2.2 _ (wk2_11 9 rfl rfl)) hXS.2.2.2.2.2.2.2.2.2.2.2.2.2.1.use (S.2.2.2.2 _ (wk9_12 10 rfl rfl)) (S.2.2.2.2 _ (wk2_11 10 rfl rfl)) (S.2.2.2.2 _ (wk2_13 2 rfl rfl)) hMi (recvQ (q0 := 1) hXS hP rfl) (Nat.le_of_ble_eq_true rfl) (Nat.le_of_ble_eq_true rfl) dJ7_copyOf_1904c_3 ?_
  have hFc := free_all hD hS hA
  refine va_callq (runS_xm (As := [.ref z, .int (nI c1), .ref mi]) (rest := []) S (q_l_cpo3K l D cI cB cZ zz qq vv bt c1 mi x z n eo mc o e0 e1 e2 e3 e4 e5 e6 e7 e8 e9 w ws s.heap.size hc h100 hel) kS_RJ7_300 hK hXS hMi hS hFc hP hD ⟨Nat.le_of_ble_eq_true rfl, Nat.le_of_ble_eq_true rfl⟩ ⟨Nat.le_of_ble_eq_true rfl, Nat.le_of_ble_eq_true rfl⟩ rfl hl.1 rfl (Nat.le_of_ble_eq_true rfl) dJ7_copyOf_1904c_6) hS (fun q _ h => hFc q h) hFc (fun r0 u0 t H1 locs ht hvm h0 hB1 hz1 hk1 hS => ?_)
  obtain ⟨hP1, hD1⟩ := hB1
  rw [ht] at hP1
  have hP : va_P D vwCl (([(u0, .inl (D.1 99, c1, .inr (.inr (.inr (.inr (fun i => if i < n then some (o i) else none)))))), (x, .inr (0, [.int mc, .ref z, .int (nI n)])), (z, .inl (D.1 99, n, .inr (.inr (.inr (.inr (fun i => if i < n then some (o i) else none)))))), (eo, .inr (2, [.int e0, .int e1, .int e2, .int e3, .int e4, .int e5, .int e6, .int e7, .int e8, .int e9, .ref w]))] : va_W) ++ ws) H1 := hP1
  have hD : va_D A (([(u0, .inl (D.1 99, c1, .inr (.inr (.inr (.inr (fun i => if i < n then some (o i) else none)))))), (x, .inr (0, [.int mc, .ref z, .int (nI n)])), (z, .inl (D.1 99, n, .inr (.inr (.inr (.inr (fun i => if i < n then some (o i) else none)))))), (eo, .inr (2, [.int e0, .int e1, .int e2, .int e3, .int e4, .int e5, .int e6, .int e7, .int e8, .int e9, .ref w]))] : va_W) ++ ws) := hD1.weaken (fun _ _ _ h => hFc _ h)
  generalize H1 = H at hP hS ⊢
  obtain ⟨hr0, h0⟩ := h0
  subst hr0
  exact W.aret (v := .ref u0) hx hb hr (by first | exact Or.inl ⟨_, rfl⟩ | exact Or.inr ⟨_, rfl⟩) (Or.inr ⟨_, rfl⟩) (fun t ht hW => ⟨⟨some u0, u0, rfl, ⟨rfl, trivial⟩, by rw [ht]; exact hP, hD⟩, hS.F ht⟩) hS.2.2 dJ7_copyOf_1904c_9
set_option maxRecDepth 100000 in
set_option maxHeartbeats 4000000 in
theorem q_l_gro1K (l : Launch) (D : va_G) (cI cB cZ : ClassId) (zz qq vv : Nat) (bt : Nat → Int32) (x z n eo : Nat) (mc : Int32) (o : Nat → Nat) (e0 e1 e2 e3 e4 e5 e6 e7 e8 e9 : Int32) (w : Nat) (ws : va_W) (sz : Nat) (h0 : 0 < n) (h60 : n ≤ 60) (hel : ∀ i : Nat, i < n → ∃ fs : List Value, ((o i, .inr (2, fs)) : Nat × va_E) ∈ ((eo, .inr (2, [.int e0, .int e1, .int e2, .int e3, .int e4, .int e5, .int e6, .int e7, .int e8, .int e9, .ref w])) : Nat × va_E) :: ws) : Met l yJx4a65c_grow_92f84 (CWS yJx4a65c_grow_92f84 cJx4a65c_grow_92f84 4 (some (.array (.object "java/lang/Object")))) (RM 4 1 100) (PBx [.ref x, .int (nI (n + 1))] D cI cB cZ zz qq vv bt (([(x, .inr (0, [.int mc, .ref z, .int (nI n)])), (z, .inl (D.1 99, n, .inr (.inr (.inr (.inr (fun i => if i < n then some (o i) else none)))))), (eo, .inr (2, [.int e0, .int e1, .int e2, .int e3, .int e4, .int e5, .int e6, .int e7, .int e8, .int e9, .ref w]))] : va_W) ++ ws) sz) (va_Qq (fun (r : Option Nat) (u : Nat × Nat) => r = some u.1 ∧ (n < u.2 ∧ u.2 ≤ 100)) (fun (u : Nat × Nat) (t : State) => va_P D vwCl (([(x, .inr (0, [.int mc, .ref u.1, .int (nI n)])), (u.1, .inl (D.1 99, u.2, .inr (.inr (.inr (.inr (fun i => if i < n then some (o i) else none)))))), (eo, .inr (2, [.int e0, .int e1, .int e2, .int e3, .int e4, .int e5, .int e6, .int e7, .int e8, .int e9, .ref w]))] : va_W) ++ ws) t.heap ∧ va_D (va_A (([(x, .inr (0, [.int mc, .ref z, .int (nI n)])), (z, .inl (D.1 99, n, .inr (.inr (.inr (.inr (fun i => if i < n then some (o i) else none)))))), (eo, .inr (2, [.int e0, .int e1, .int e2, .int e3, .int e4, .int e5, .int e6, .int e7, .int e8, .int e9, .ref w]))] : va_W) ++ ws) sz) (([(x, .inr (0, [.int mc, .ref u.1, .int (nI n)])), (u.1, .inl (D.1 99, u.2, .inr (.inr (.inr (.inr (fun i => if i < n then some (o i) else none)))))), (eo, .inr (2, [.int e0, .int e1, .int e2, .int e3, .int e4, .int e5, .int e6, .int e7, .int e8, .int e9, .ref w]))] : va_W) ++ ws)) (va_A (([(x, .inr (0, [.int mc, .ref z, .int (nI n)])), (z, .inl (D.1 99, n, .inr (.inr (.inr (.inr (fun i => if i < n then some (o i) else none)))))), (eo, .inr (2, [.int e0, .int e1, .int e2, .int e3, .int e4, .int e5, .int e6, .int e7, .int e8, .int e9, .ref w]))] : va_W) ++ ws) sz)) 1 100 (va_A (([(x, .inr (0, [.int mc, .ref z, .int (nI n)])), (z, .inl (D.1 99, n, .inr (.inr (.inr (.inr (fun i => if i < n then some (o i) else none)))))), (eo, .inr (2, [.int e0, .int e1, .int e2, .int e3, .int e4, .int e5, .int e6, .int e7, .int e8, .int e9, .ref w]))] : va_W) ++ ws) sz) := by
  refine en_x (fun A => (va_Qq (fun (r : Option Nat) (u : Nat × Nat) => r = some u.1 ∧ (n < u.2 ∧ u.2 ≤ 100)) (fun (u : Nat × Nat) (t : State) => va_P D vwCl (([(x, .inr (0, [.int mc, .ref u.1, .int (nI n)])), (u.1, .inl (D.1 99, u.2, .inr (.inr (.inr (.inr (fun i => if i < n then some (o i) else none)))))), (eo, .inr (2, [.int e0, .int e1, .int e2, .int e3, .int e4, .int e5, .int e6, .int e7, .int e8, .int e9, .ref w]))] : va_W) ++ ws) t.heap ∧ va_D A (([(x, .inr (0, [.int mc, .ref u.1, .int (nI n)])), (u.1, .inl (D.1 99, u.2, .inr (.inr (.inr (.inr (fun i => if i < n then some (o i) else none)))))), (eo, .inr (2, [.int e0, .int e1, .int e2, .int e3, .int e4, .int e5, .int e6, .int e7, .int e8, .int e9, .ref w]))] : va_W) ++ ws)) A)) rfl rfl pn_RJx4a65c (Nat.le_of_ble_eq_true rfl) (fun p e s m below meth c A hx hb hml hown S hr hlocks hnm hA hP hK hD hXS hS ls hl => ?_)
  have hP : va_P D vwCl (([(x, .inr (0, [.int mc, .ref z, .int (nI n)])), (z, .inl (D.1 99, n, .inr (.inr (.inr (.inr (fun i => if i < n then some (o i) else none)))))), (eo, .inr (2, [.int e0, .int e1, .int e2, .int e3, .int e4, .int e5, .int e6, .int e7, .int e8, .int e9, .ref w]))] : va_W) ++ ws) s.heap := hP
  have hD : va_D A (([(x, .inr (0, [.int mc, .ref z, .int (nI n)])), (z, .inl (D.1 99, n, .inr (.inr (.inr (.inr (fun i => if i < n then some (o i) else none)))))), (eo, .inr (2, [.int e0, .int e1, .int e2, .int e3, .int e4, .int e5, .int e6, .int e7, .int e8, .int e9, .ref w]))] : va_W) ++ ws) := hD
  have hl : lv_has ls 4 [(0, .ref x), (1, .int (nI (n + 1)))] := hl
  have tn : (nI n).toInt = (n : Int) := nI_toInt (by omega)
  refine lv_aload_n hx hb dJx4a65c_grow_92f84_0 rfl (lvA0 hl) ?_
  refine gf_RJx4a65c_9 S hK hP 0 rfl (v := .ref z) rfl dJx4a65c_grow_92f84_1 ?_
  refine va_alen hx hb hXS.2.2.2.2.2.2.2.2.1 hP 1 0 rfl rfl (v := (nI n)) rfl dJx4a65c_grow_92f84_4 ?_
  refine lv_istore_n (lv' := [(2, .int (nI n)), (0, .ref x), (1, .int (nI (n + 1)))]) hx hb dJx4a65c_grow_92f84_5 rfl hl (ltb rfl) rfl (fun ls hl => ?_)
  refine lv_iload_n hx hb dJx4a65c_grow_92f84_6 rfl (lvA0 hl) ?_
  refine lv_if_gt (tgt := 20) hx hb dJx4a65c_grow_92f84_7 rfl (fun c_1 => ?_) (fun c_1 => False.elim (by have tc_1 : ((nI n).toInt : Int) ≤ 0 := Int32.le_iff_toInt_le.mp (Int32.not_lt.mp c_1); omega))
  have tc_1 : (0 : Int) < (nI n).toInt := Int32.lt_iff_toInt_lt.mp c_1
  refine lv_iload_n hx hb dJx4a65c_grow_92f84_20 rfl (lvA0 hl) ?_
  refine lv_iload_n hx hb dJx4a65c_grow_92f84_21 rfl (lvA2 hl) ?_
  refine lv_iload_n hx hb dJx4a65c_grow_92f84_22 rfl (lvA0 hl) ?_
  refine lv_isub hx hb dJx4a65c_grow_92f84_23 ?_
  refine lv_topi (fun y_2 ey_2 => ?_)
  obtain rfl : y_2 = 1 := ey_2.trans (by rw [nI_sub (by omega), show n + 1 - n = 1 by omega]; rfl)
  refine lv_iload_n hx hb dJx4a65c_grow_92f84_24 rfl (lvA0 hl) ?_
  refine lv_iconst (v := 1) hx hb dJx4a65c_grow_92f84_25 kic_1 ?_
  refine lv_ishr hx hb dJx4a65c_grow_92f84_26 ?_
  refine lv_topi (fun y_3 ey_3 => ?_)
  obtain rfl : y_3 = (nI (n / 2)) := ey_3.trans (shr1 n (by omega))
  refine vp_callSi (runS_r (As := [.int (nI n), .int 1, .int (nI (n / 2))]) (rest := []) S (q_l_newLen l D cI cB cZ n (n / 2) (by omega) (by omega)) kS_RJx4a65c_73 hK hP [] rfl ⟨Nat.le_of_ble_eq_true rfl, Nat.le_of_ble_eq_true rfl⟩ ⟨Nat.le_of_ble_eq_true rfl, Nat.le_of_ble_eq_true rfl⟩ rfl hl.1 rfl (Nat.le_of_ble_eq_true rfl) dJx4a65c_grow_92f84_27) (fun r_4 h_5 => ?_)
  subst h_5
  refine lv_istore_n (lv' := [(3, .int (nI (n + max 1 (n / 2)))), (2, .int (nI n)), (0, .ref x), (1, .int (nI (n + 1)))]) hx hb dJx4a65c_grow_92f84_30 rfl hl (ltb rfl) rfl (fun ls hl => ?_)
  refine lv_aload_n hx hb dJx4a65c_grow_92f84_31 rfl (lvA2 hl) ?_
  refine lv_aload_n hx hb dJx4a65c_grow_92f84_32 rfl (lvA2 hl) ?_
  refine gf_RJx4a65c_9 S hK hP 0 rfl (v := .ref z) rfl dJx4a65c_grow_92f84_33 ?_
  refine lv_iload_n hx hb dJx4a65c_grow_92f84_36 rfl (lvA0 hl) ?_
  have hFc := free_all hD hS hA
  refine va_callq (runS_xa (As := [.ref z, .int (nI (n + max 1 (n / 2)))]) (rest := [.ref x]) S (q_l_cpo2K l D cI cB cZ zz qq vv bt (n + max 1 (n / 2)) x z n eo mc o e0 e1 e2 e3 e4 e5 e6 e7 e8 e9 w ws s.heap.size (by omega) (by omega) hel) kS_RJx4a65c_66 hK hXS hS hFc hP hD ⟨Nat.le_of_ble_eq_true rfl, Nat.le_of_ble_eq_true rfl⟩ ⟨Nat.le_of_ble_eq_true rfl, Nat.le_of_ble_eq_true rfl⟩ rfl hl.1 rfl (Nat.le_of_ble_eq_true rfl) dJx4a65c_grow_92f84_37) hS (fun q _ h => hFc q h) hFc (fun r5 u5 t H1 locs ht hvm h5 hB1 hz1 hk1 hS => ?_)
  obtain ⟨hP1, hD1⟩ := hB1
  rw [ht] at hP1
  have hP : va_P D vwCl (([(u5, .inl (D.1 99, (n + max 1 (n / 2)), .inr (.inr (.inr (.inr (fun i => if i < n then some (o i) else none)))))), (x, .inr (0, [.int mc, .ref z, .int (nI n)])), (z, .inl (D.1 99, n, .inr (.inr (.inr (.inr (fun i => if i < n then some (o i) else none)))))), (eo, .inr (2, [.int e0, .int e1, .int e2, .int e3, .int e4, .int e5, .int e6, .int e7, .int e8, .int e9, .ref w]))] : va_W) ++ ws) H1 := hP1
  have hD : va_D A (([(u5, .inl (D.1 99, (n + max 1 (n / 2)), .inr (.inr (.inr (.inr (fun i => if i < n then some (o i) else none)))))), (x, .inr (0, [.int mc, .ref z, .int (nI n)])), (z, .inl (D.1 99, n, .inr (.inr (.inr (.inr (fun i => if i < n then some (o i) else none)))))), (eo, .inr (2, [.int e0, .int e1, .int e2, .int e3, .int e4, .int e5, .int e6, .int e7, .int e8, .int e9, .ref w]))] : va_W) ++ ws) := hD1.weaken (fun _ _ _ h => hFc _ h)
  generalize H1 = H at hP hS ⊢
  obtain ⟨hr5, h5⟩ := h5
  subst hr5
  refine lv_dup_x1 hx hb dJx4a65c_grow_92f84_40 rfl rfl ?_
  refine pf_RJx4a65c_9 S hK hP hD hS 1 rfl (v := .ref u5) (Nat.le_of_ble_eq_true rfl) rfl rfl dJx4a65c_grow_92f84_41 (fun H locs hP hD hS => ?_)
  have hP : va_P D vwCl (([(u5, .inl (D.1 99, (n + max 1 (n / 2)), .inr (.inr (.inr (.inr (fun i => if i < n then some (o i) else none)))))), (x, .inr (0, [.int mc, .ref u5, .int (nI n)])), (z, .inl (D.1 99, n, .inr (.inr (.inr (.inr (fun i => if i < n then some (o i) else none)))))), (eo, .inr (2, [.int e0, .int e1, .int e2, .int e3, .int e4, .int e5, .int e6, .int e7, .int e8, .int e9, .ref w]))] : va_W) ++ ws) H := hP
  have hD : va_D A (([(u5, .inl (D.1 99, (n + max 1 (n / 2)), .inr (.inr (.inr (.inr (fun i => if i < n then some (o i) else none)))))), (x, .inr (0, [.int mc, .ref u5, .int (nI n)])), (z, .inl (D.1 99, n, .inr (.inr (.inr (.inr (fun i => if i < n then some (o i) else none)))))), (eo, .inr (2, [.int e0, .int e1, .int e2, .int e3, .int e4, .int e5, .int e6, .int e7, .int e8, .int e9, .ref w]))] : va_W) ++ ws) := hD
  have hP : va_P D vwCl (([(x, .inr (0, [.int mc, .ref u5, .int (nI n)])), (u5, .inl (D.1 99, (n + max 1 (n / 2)), .inr (.inr (.inr (.inr (fun i => if i < n then some (o i) else none)))))), (eo, .inr (2, [.int e0, .int e1, .int e2, .int e3, .int e4, .int e5, .int e6, .int e7, .int e8, .int e9, .ref w]))] : va_W) ++ ws) H := g_dropP hP
  have hD : va_D A (([(x, .inr (0, [.int mc, .ref u5, .int (nI n)])), (u5, .inl (D.1 99, (n + max 1 (n / 2)), .inr (.inr (.inr (.inr (fun i => if i < n then some (o i) else none)))))), (eo, .inr (2, [.int e0, .int e1, .int e2, .int e3, .int e4, .int e5, .int e6, .int e7, .int e8, .int e9, .ref w]))] : va_W) ++ ws) := g_dropD hD
  exact W.aret (v := .ref u5) hx hb hr (by first | exact Or.inl ⟨_, rfl⟩ | exact Or.inr ⟨_, rfl⟩) (Or.inr ⟨_, rfl⟩) (fun t ht hW => ⟨⟨some u5, (u5, (n + max 1 (n / 2))), rfl, ⟨rfl, by omega, by omega⟩, by rw [ht]; exact hP, hD⟩, hS.F ht⟩) hS.2.2 dJx4a65c_grow_92f84_44
set_option maxRecDepth 100000 in
set_option maxHeartbeats 4000000 in
theorem q_l_gro0K (l : Launch) (D : va_G) (cI cB cZ : ClassId) (zz qq vv : Nat) (bt : Nat → Int32) (x z n eo : Nat) (mc : Int32) (o : Nat → Nat) (e0 e1 e2 e3 e4 e5 e6 e7 e8 e9 : Int32) (w : Nat) (ws : va_W) (sz : Nat) (h0 : 0 < n) (h60 : n ≤ 60) (hel : ∀ i : Nat, i < n → ∃ fs : List Value, ((o i, .inr (2, fs)) : Nat × va_E) ∈ ((eo, .inr (2, [.int e0, .int e1, .int e2, .int e3, .int e4, .int e5, .int e6, .int e7, .int e8, .int e9, .ref w])) : Nat × va_E) :: ws) : Met l yJx4a65c_grow_d5877 (CWS yJx4a65c_grow_d5877 cJx4a65c_grow_d5877 1 (some (.array (.object "java/lang/Object")))) (RM 5 1 100) (PBx [.ref x] D cI cB cZ zz qq vv bt (([(x, .inr (0, [.int mc, .ref z, .int (nI n)])), (z, .inl (D.1 99, n, .inr (.inr (.inr (.inr (fun i => if i < n then some (o i) else none)))))), (eo, .inr (2, [.int e0, .int e1, .int e2, .int e3, .int e4, .int e5, .int e6, .int e7, .int e8, .int e9, .ref w]))] : va_W) ++ ws) sz) (va_Qq (fun (r : Option Nat) (u : Nat × Nat) => r = some u.1 ∧ (n < u.2 ∧ u.2 ≤ 100)) (fun (u : Nat × Nat) (t : State) => va_P D vwCl (([(x, .inr (0, [.int mc, .ref u.1, .int (nI n)])), (u.1, .inl (D.1 99, u.2, .inr (.inr (.inr (.inr (fun i => if i < n then some (o i) else none)))))), (eo, .inr (2, [.int e0, .int e1, .int e2, .int e3, .int e4, .int e5, .int e6, .int e7, .int e8, .int e9, .ref w]))] : va_W) ++ ws) t.heap ∧ va_D (va_A (([(x, .inr (0, [.int mc, .ref z, .int (nI n)])), (z, .inl (D.1 99, n, .inr (.inr (.inr (.inr (fun i => if i < n then some (o i) else none)))))), (eo, .inr (2, [.int e0, .int e1, .int e2, .int e3, .int e4, .int e5, .int e6, .int e7, .int e8, .int e9, .ref w]))] : va_W) ++ ws) sz) (([(x, .inr (0, [.int mc, .ref u.1, .int (nI n)])), (u.1, .inl (D.1 99, u.2, .inr (.inr (.inr (.inr (fun i => if i < n then some (o i) else none)))))), (eo, .inr (2, [.int e0, .int e1, .int e2, .int e3, .int e4, .int e5, .int e6, .int e7, .int e8, .int e9, .ref w]))] : va_W) ++ ws)) (va_A (([(x, .inr (0, [.int mc, .ref z, .int (nI n)])), (z, .inl (D.1 99, n, .inr (.inr (.inr (.inr (fun i => if i < n then some (o i) else none)))))), (eo, .inr (2, [.int e0, .int e1, .int e2, .int e3, .int e4, .int e5, .int e6, .int e7, .int e8, .int e9, .ref w]))] : va_W) ++ ws) sz)) 1 100 (va_A (([(x, .inr (0, [.int mc, .ref z, .int (nI n)])), (z, .inl (D.1 99, n, .inr (.inr (.inr (.inr (fun i => if i < n then some (o i) else none)))))), (eo, .inr (2, [.int e0, .int e1, .int e2, .int e3, .int e4, .int e5, .int e6, .int e7, .int e8, .int e9, .ref w]))] : va_W) ++ ws) sz) := by
  refine en_x (fun A => (va_Qq (fun (r : Option Nat) (u : Nat × Nat) => r = some u.1 ∧ (n < u.2 ∧ u.2 ≤ 100)) (fun (u : Nat × Nat) (t : State) => va_P D vwCl (([(x, .inr (0, [.int mc, .ref u.1, .int (nI n)])), (u.1, .inl (D.1 99, u.2, .inr (.inr (.inr (.inr (fun i => if i < n then some (o i) else none)))))), (eo, .inr (2, [.int e0, .int e1, .int e2, .int e3, .int e4, .int e5, .int e6, .int e7, .int e8, .int e9, .ref w]))] : va_W) ++ ws) t.heap ∧ va_D A (([(x, .inr (0, [.int mc, .ref u.1, .int (nI n)])), (u.1, .inl (D.1 99, u.2, .inr (.inr (.inr (.inr (fun i => if i < n then some (o i) else none)))))), (eo, .inr (2, [.int e0, .int e1, .int e2, .int e3, .int e4, .int e5, .int e6, .int e7, .int e8, .int e9, .ref w]))] : va_W) ++ ws)) A)) rfl rfl pn_RJx4a65c (Nat.le_of_ble_eq_true rfl) (fun p e s m below meth c A hx hb hml hown S hr hlocks hnm hA hP hK hD hXS hS ls hl => ?_)
  have hP : va_P D vwCl (([(x, .inr (0, [.int mc, .ref z, .int (nI n)])), (z, .inl (D.1 99, n, .inr (.inr (.inr (.inr (fun i => if i < n then some (o i) else none)))))), (eo, .inr (2, [.int e0, .int e1, .int e2, .int e3, .int e4, .int e5, .int e6, .int e7, .int e8, .int e9, .ref w]))] : va_W) ++ ws) s.heap := hP
  have hD : va_D A (([(x, .inr (0, [.int mc, .ref z, .int (nI n)])), (z, .inl (D.1 99, n, .inr (.inr (.inr (.inr (fun i => if i < n then some (o i) else none)))))), (eo, .inr (2, [.int e0, .int e1, .int e2, .int e3, .int e4, .int e5, .int e6, .int e7, .int e8, .int e9, .ref w]))] : va_W) ++ ws) := hD
  have hl : lv_has ls 1 [(0, .ref x)] := hl
  refine lv_aload_n hx hb dJx4a65c_grow_d5877_0 rfl (lvA0 hl) ?_
  refine lv_aload_n hx hb dJx4a65c_grow_d5877_1 rfl (lvA0 hl) ?_
  refine gf_RJx4a65c_48 S hK hP 0 rfl (v := .int (nI n)) rfl dJx4a65c_grow_d5877_2 ?_
  refine lv_iconst (v := 1) hx hb dJx4a65c_grow_d5877_5 kic_1 ?_
  refine lv_iadd hx hb dJx4a65c_grow_d5877_6 ?_
  refine lv_topi (fun y_1 ey_1 => ?_)
  obtain rfl : y_1 = (nI (n + 1)) := ey_1.trans (nI_1 _)
  have hFc := free_all hD hS hA
  refine va_callq (runV_xa (As := [.int (nI (n + 1))]) (rest := []) S (q_l_gro1K l D cI cB cZ zz qq vv bt x z n eo mc o e0 e1 e2 e3 e4 e5 e6 e7 e8 e9 w ws s.heap.size h0 h60 hel) kV_RJx4a65c_69 hK hXS hS hFc hP hD 0 rfl rfl rfl ⟨Nat.le_of_ble_eq_true rfl, Nat.le_of_ble_eq_true rfl⟩ ⟨Nat.le_of_ble_eq_true rfl, Nat.le_of_ble_eq_true rfl⟩ rfl hl.1 rfl (Nat.le_of_ble_eq_true rfl) dJx4a65c_grow_d5877_7) hS (fun q _ h => hFc q h) hFc (fun r1 u1 t H1 locs ht hvm h1 hB1 hz1 hk1 hS => ?_)
  obtain ⟨hP1, hD1⟩ := hB1
  rw [ht] at hP1
  obtain ⟨ua1, uc1⟩ := u1
  have hP : va_P D vwCl (([(x, .inr (0, [.int mc, .ref ua1, .int (nI n)])), (ua1, .inl (D.1 99, uc1, .inr (.inr (.inr (.inr (fun i => if i < n then some (o i) else none)))))), (eo, .inr (2, [.int e0, .int e1, .int e2, .int e3, .int e4, .int e5, .int e6, .int e7, .int e8, .int e9, .ref w]))] : va_W) ++ ws) H1 := hP1
  have hD : va_D A (([(x, .inr (0, [.int mc, .ref ua1, .int (nI n)])), (ua1, .inl (D.1 99, uc1, .inr (.inr (.inr (.inr (fun i => if i < n then some (o i) else none)))))), (eo, .inr (2, [.int e0, .int e1, .int e2, .int e3, .int e4, .int e5, .int e6, .int e7, .int e8, .int e9, .ref w]))] : va_W) ++ ws) := hD1.weaken (fun _ _ _ h => hFc _ h)
  generalize H1 = H at hP hS ⊢
  obtain ⟨hr1, h1⟩ := h1
  subst hr1
  exact W.aret (v := .ref ua1) hx hb hr (by first | exact Or.inl ⟨_, rfl⟩ | exact Or.inr ⟨_, rfl⟩) (Or.inr ⟨_, rfl⟩) (fun t ht hW => ⟨⟨some ua1, (ua1, uc1), rfl, ⟨rfl, h1⟩, by rw [ht]; exact hP, hD⟩, hS.F ht⟩) hS.2.2 dJx4a65c_grow_d5877_10
set_option maxRecDepth 100000 in
set_option maxHeartbeats 4000000 in
theorem q_l_ad3GK (l : Launch) (D : va_G) (cI cB cZ : ClassId) (zz qq vv : Nat) (bt : Nat → Int32) (c0 : Nat) (x z n eo : Nat) (mc : Int32) (o : Nat → Nat) (e0 e1 e2 e3 e4 e5 e6 e7 e8 e9 : Int32) (w : Nat) (ws : va_W) (sz : Nat) (hn : n ≤ c0) (hc : c0 ≤ 100) (h0 : 0 < n) (h60 : n ≤ 60) (hel : ∀ i : Nat, i < n → ∃ fs : List Value, ((o i, .inr (2, fs)) : Nat × va_E) ∈ ((eo, .inr (2, [.int e0, .int e1, .int e2, .int e3, .int e4, .int e5, .int e6, .int e7, .int e8, .int e9, .ref w])) : Nat × va_E) :: ws) : Met l yJx4a65c_add_72be8 (CWS yJx4a65c_add_72be8 cJx4a65c_add_72be8 4 none) (RM 6 1 100) (PBx [.ref x, .ref eo, .ref z, .int (nI n)] D cI cB cZ zz qq vv bt (([(x, .inr (0, [.int mc, .ref z, .int (nI n)])), (z, .inl (D.1 99, c0, .inr (.inr (.inr (.inr (fun i => if i < n then some (o i) else none)))))), (eo, .inr (2, [.int e0, .int e1, .int e2, .int e3, .int e4, .int e5, .int e6, .int e7, .int e8, .int e9, .ref w]))] : va_W) ++ ws) sz) (va_Qv (fun (u : Nat × Nat) => (n < u.2 ∧ u.2 ≤ 100)) (fun (u : Nat × Nat) (t : State) => va_P D vwCl (([(x, .inr (0, [.int mc, .ref u.1, .int (nI (n + 1))])), (u.1, .inl (D.1 99, u.2, .inr (.inr (.inr (.inr (va_up (fun i => if i < n then some (o i) else none) n (some eo))))))), (eo, .inr (2, [.int e0, .int e1, .int e2, .int e3, .int e4, .int e5, .int e6, .int e7, .int e8, .int e9, .ref w]))] : va_W) ++ ws) t.heap ∧ va_D (va_A (([(x, .inr (0, [.int mc, .ref z, .int (nI n)])), (z, .inl (D.1 99, c0, .inr (.inr (.inr (.inr (fun i => if i < n then some (o i) else none)))))), (eo, .inr (2, [.int e0, .int e1, .int e2, .int e3, .int e4, .int e5, .int e6, .int e7, .int e8, .int e9, .ref w]))] : va_W) ++ ws) sz) (([(x, .inr (0, [.int mc, .ref u.1, .int (nI (n + 1))])), (u.1, .inl (D.1 99, u.2, .inr (.inr (.inr (.inr (va_up (fun i => if i < n then some (o i) else none) n (some eo))))))), (eo, .inr (2, [.int e0, .int e1, .int e2, .int e3, .int e4, .int e5, .int e6, .int e7, .int e8, .int e9, .ref w]))] : va_W) ++ ws)) (va_A (([(x, .inr (0, [.int mc, .ref z, .int (nI n)])), (z, .inl (D.1 99, c0, .inr (.inr (.inr (.inr (fun i => if i < n then some (o i) else none)))))), (eo, .inr (2, [.int e0, .int e1, .int e2, .int e3, .int e4, .int e5, .int e6, .int e7, .int e8, .int e9, .ref w]))] : va_W) ++ ws) sz)) 1 100 (va_A (([(x, .inr (0, [.int mc, .ref z, .int (nI n)])), (z, .inl (D.1 99, c0, .inr (.inr (.inr (.inr (fun i => if i < n then some (o i) else none)))))), (eo, .inr (2, [.int e0, .int e1, .int e2, .int e3, .int e4, .int e5, .int e6, .int e7, .int e8, .int e9, .ref w]))] : va_W) ++ ws) sz) := by
  refine en_x (fun A => (va_Qv (fun (u : Nat × Nat) => (n < u.2 ∧ u.2 ≤ 100)) (fun (u : Nat × Nat) (t : State) => va_P D vwCl (([(x, .inr (0, [.int mc, .ref u.1, .int (nI (n + 1))])), (u.1, .inl (D.1 99, u.2, .inr (.inr (.inr (.inr (va_up (fun i => if i < n then some (o i) else none) n (some eo))))))), (eo, .inr (2, [.int e0, .int e1, .int e2, .int e3, .int e4, .int e5, .int e6, .int e7, .int e8, .int e9, .ref w]))] : va_W) ++ ws) t.heap ∧ va_D A (([(x, .inr (0, [.int mc, .ref u.1, .int (nI (n + 1))])), (u.1, .inl (D.1 99, u.2, .inr (.inr (.inr (.inr (va_up (fun i => if i < n then some (o i) else none) n (some eo))))))), (eo, .inr (2, [.int e0, .int e1, .int e2, .int e3, .int e4, .int e5, .int e6, .int e7, .int e8, .int e9, .ref w]))] : va_W) ++ ws)) A)) rfl rfl pn_RJx4a65c (Nat.le_of_ble_eq_true rfl) (fun p e s m below meth c A hx hb hml hown S hr hlocks hnm hA hP hK hD hXS hS ls hl => ?_)
  have hP : va_P D vwCl (([(x, .inr (0, [.int mc, .ref z, .int (nI n)])), (z, .inl (D.1 99, c0, .inr (.inr (.inr (.inr (fun i => if i < n then some (o i) else none)))))), (eo, .inr (2, [.int e0, .int e1, .int e2, .int e3, .int e4, .int e5, .int e6, .int e7, .int e8, .int e9, .ref w]))] : va_W) ++ ws) s.heap := hP
  have hD : va_D A (([(x, .inr (0, [.int mc, .ref z, .int (nI n)])), (z, .inl (D.1 99, c0, .inr (.inr (.inr (.inr (fun i => if i < n then some (o i) else none)))))), (eo, .inr (2, [.int e0, .int e1, .int e2, .int e3, .int e4, .int e5, .int e6, .int e7, .int e8, .int e9, .ref w]))] : va_W) ++ ws) := hD
  have hl : lv_has ls 4 [(0, .ref x), (1, .ref eo), (2, .ref z), (3, .int (nI n))] := hl
  have tn : (nI n).toInt = (n : Int) := nI_toInt (by omega)
  have tc : (nI c0).toInt = (c0 : Int) := nI_toInt (by omega)
  refine lv_iload_n hx hb dJx4a65c_add_72be8_0 rfl (lvA3 hl) ?_
  refine lv_aload_n hx hb dJx4a65c_add_72be8_1 rfl (lvA2 hl) ?_
  refine va_alen hx hb hXS.2.2.2.2.2.2.2.2.1 hP 1 0 rfl rfl (v := (nI c0)) rfl dJx4a65c_add_72be8_2 ?_
  refine lv_icmp_ne (tgt := 11) hx hb dJx4a65c_add_72be8_3 rfl (fun c_1 => ?_) (fun c_1 => ?_)
  ·
    have tc_1 : ((nI n).toInt : Int) ≠ (nI c0).toInt := fun q => c_1 (Int32.toInt_inj.mp q)
    refine lv_aload_n hx hb dJx4a65c_add_72be8_11 rfl (lvA2 hl) ?_
    refine lv_iload_n hx hb dJx4a65c_add_72be8_12 rfl (lvA3 hl) ?_
    refine lv_aload_n hx hb dJx4a65c_add_72be8_13 rfl (lvA1 hl) ?_
    have hca14 : va_Nw (.castable (RX1, TX1, 11).1 "java/lang/Object") s := hXS.2.2.2.2.2.2.2.2.2.2.1
    refine va_astqO (r := (RX1, TX1, 11)) (E := "java/lang/Object") (cA := D.1 99) hx hb hXS.2.2.2.2.2.2.2.2.1 hP hD hS 1 0 2 2 rfl rfl hca14 rfl rfl (vp_in_nI (by omega) (by omega)) dJx4a65c_add_72be8_14 (fun H locs hP hD hS => ?_)
    have hP : va_P D vwCl (([(x, .inr (0, [.int mc, .ref z, .int (nI n)])), (z, .inl (D.1 99, c0, .inr (.inr (.inr (.inr (va_up (fun i => if i < n then some (o i) else none) (nI n).toNatClampNeg (some eo))))))), (eo, .inr (2, [.int e0, .int e1, .int e2, .int e3, .int e4, .int e5, .int e6, .int e7, .int e8, .int e9, .ref w]))] : va_W) ++ ws) H := hP
    have hD : va_D A (([(x, .inr (0, [.int mc, .ref z, .int (nI n)])), (z, .inl (D.1 99, c0, .inr (.inr (.inr (.inr (va_up (fun i => if i < n then some (o i) else none) (nI n).toNatClampNeg (some eo))))))), (eo, .inr (2, [.int e0, .int e1, .int e2, .int e3, .int e4, .int e5, .int e6, .int e7, .int e8, .int e9, .ref w]))] : va_W) ++ ws) := hD
    rw [nI_clamp (by omega)] at hP hD
    have hP : va_P D vwCl (([(x, .inr (0, [.int mc, .ref z, .int (nI n)])), (z, .inl (D.1 99, c0, .inr (.inr (.inr (.inr (va_up (fun i => if i < n then some (o i) else none) n (some eo))))))), (eo, .inr (2, [.int e0, .int e1, .int e2, .int e3, .int e4, .int e5, .int e6, .int e7, .int e8, .int e9, .ref w]))] : va_W) ++ ws) H := hP
    have hD : va_D A (([(x, .inr (0, [.int mc, .ref z, .int (nI n)])), (z, .inl (D.1 99, c0, .inr (.inr (.inr (.inr (va_up (fun i => if i < n then some (o i) else none) n (some eo))))))), (eo, .inr (2, [.int e0, .int e1, .int e2, .int e3, .int e4, .int e5, .int e6, .int e7, .int e8, .int e9, .ref w]))] : va_W) ++ ws) := hD
    refine lv_aload_n hx hb dJx4a65c_add_72be8_15 rfl (lvA0 hl) ?_
    refine lv_iload_n hx hb dJx4a65c_add_72be8_16 rfl (lvA3 hl) ?_
    refine lv_iconst (v := 1) hx hb dJx4a65c_add_72be8_17 kic_1 ?_
    refine lv_iadd hx hb dJx4a65c_add_72be8_18 ?_
    refine lv_topi (fun y_2 ey_2 => ?_)
    obtain rfl : y_2 = (nI (n + 1)) := ey_2.trans (nI_1 _)
    refine pf_RJx4a65c_48 S hK hP hD hS 0 rfl (v := .int (nI (n + 1))) (Nat.le_of_ble_eq_true rfl) rfl rfl dJx4a65c_add_72be8_19 (fun H locs hP hD hS => ?_)
    have hP : va_P D vwCl (([(x, .inr (0, [.int mc, .ref z, .int (nI (n + 1))])), (z, .inl (D.1 99, c0, .inr (.inr (.inr (.inr (va_up (fun i => if i < n then some (o i) else none) n (some eo))))))), (eo, .inr (2, [.int e0, .int e1, .int e2, .int e3, .int e4, .int e5, .int e6, .int e7, .int e8, .int e9, .ref w]))] : va_W) ++ ws) H := hP
    have hD : va_D A (([(x, .inr (0, [.int mc, .ref z, .int (nI (n + 1))])), (z, .inl (D.1 99, c0, .inr (.inr (.inr (.inr (va_up (fun i => if i < n then some (o i) else none) n (some eo))))))), (eo, .inr (2, [.int e0, .int e1, .int e2, .int e3, .int e4, .int e5, .int e6, .int e7, .int e8, .int e9, .ref w]))] : va_W) ++ ws) := hD
    refine W.widen (k := 1) (n := 100) (by omega) (by omega) ?_
    exact W.vret hx hb hr (fun t ht hW => ⟨⟨(z, c0), rfl, ⟨by omega, by omega⟩, by rw [ht]; exact hP, hD⟩, hS.F ht⟩) hS.2.2 dJx4a65c_add_72be8_22
  ·
    have tc_1 : ((nI n).toInt : Int) = (nI c0).toInt := congrArg Int32.toInt c_1
    obtain rfl : n = c0 := by omega
    refine lv_aload_n hx hb dJx4a65c_add_72be8_6 rfl (lvA0 hl) ?_
    have hFc := free_all hD hS hA
    refine va_callq (runV_xa (As := []) (rest := []) S (q_l_gro0K l D cI cB cZ zz qq vv bt x z n eo mc o e0 e1 e2 e3 e4 e5 e6 e7 e8 e9 w ws s.heap.size h0 h60 hel) kV_RJx4a65c_129 hK hXS hS hFc hP hD 0 rfl rfl rfl ⟨Nat.le_of_ble_eq_true rfl, Nat.le_of_ble_eq_true rfl⟩ ⟨Nat.le_of_ble_eq_true rfl, Nat.le_of_ble_eq_true rfl⟩ rfl hl.1 rfl (Nat.le_of_ble_eq_true rfl) dJx4a65c_add_72be8_7) hS (fun q _ h => hFc q h) hFc (fun r2 u2 t H1 locs ht hvm h2 hB1 hz1 hk1 hS => ?_)
    obtain ⟨hP1, hD1⟩ := hB1
    rw [ht] at hP1
    obtain ⟨ua2, uc2⟩ := u2
    have hP : va_P D vwCl (([(x, .inr (0, [.int mc, .ref ua2, .int (nI n)])), (ua2, .inl (D.1 99, uc2, .inr (.inr (.inr (.inr (fun i => if i < n then some (o i) else none)))))), (eo, .inr (2, [.int e0, .int e1, .int e2, .int e3, .int e4, .int e5, .int e6, .int e7, .int e8, .int e9, .ref w]))] : va_W) ++ ws) H1 := hP1
    have hD : va_D A (([(x, .inr (0, [.int mc, .ref ua2, .int (nI n)])), (ua2, .inl (D.1 99, uc2, .inr (.inr (.inr (.inr (fun i => if i < n then some (o i) else none)))))), (eo, .inr (2, [.int e0, .int e1, .int e2, .int e3, .int e4, .int e5, .int e6, .int e7, .int e8, .int e9, .ref w]))] : va_W) ++ ws) := hD1.weaken (fun _ _ _ h => hFc _ h)
    generalize H1 = H at hP hS ⊢
    obtain ⟨hr2, h2⟩ := h2
    subst hr2
    refine lv_astore_n (lv' := [(2, .ref ua2), (0, .ref x), (1, .ref eo), (3, .int (nI n))]) hx hb dJx4a65c_add_72be8_10 rfl hl (ltb rfl) rfl (fun ls hl => ?_)
    refine lv_aload_n hx hb dJx4a65c_add_72be8_11 rfl (lvA0 hl) ?_
    refine lv_iload_n hx hb dJx4a65c_add_72be8_12 rfl (lvA3 hl) ?_
    refine lv_aload_n hx hb dJx4a65c_add_72be8_13 rfl (lvA2 hl) ?_
    have hca14 : va_Nw (.castable (RX1, TX1, 11).1 "java/lang/Object") s := hXS.2.2.2.2.2.2.2.2.2.2.1
    refine va_astqO (r := (RX1, TX1, 11)) (E := "java/lang/Object") (cA := D.1 99) hx hb hXS.2.2.2.2.2.2.2.2.1 hP hD hS 1 0 2 2 rfl rfl hca14 rfl rfl (vp_in_nI (by omega) (by omega)) dJx4a65c_add_72be8_14 (fun H locs hP hD hS => ?_)
    have hP : va_P D vwCl (([(x, .inr (0, [.int mc, .ref ua2, .int (nI n)])), (ua2, .inl (D.1 99, uc2, .inr (.inr (.inr (.inr (va_up (fun i => if i < n then some (o i) else none) (nI n).toNatClampNeg (some eo))))))), (eo, .inr (2, [.int e0, .int e1, .int e2, .int e3, .int e4, .int e5, .int e6, .int e7, .int e8, .int e9, .ref w]))] : va_W) ++ ws) H := hP
    have hD : va_D A (([(x, .inr (0, [.int mc, .ref ua2, .int (nI n)])), (ua2, .inl (D.1 99, uc2, .inr (.inr (.inr (.inr (va_up (fun i => if i < n then some (o i) else none) (nI n).toNatClampNeg (some eo))))))), (eo, .inr (2, [.int e0, .int e1, .int e2, .int e3, .int e4, .int e5, .int e6, .int e7, .int e8, .int e9, .ref w]))] : va_W) ++ ws) := hD
    rw [nI_clamp (by omega)] at hP hD
    have hP : va_P D vwCl (([(x, .inr (0, [.int mc, .ref ua2, .int (nI n)])), (ua2, .inl (D.1 99, uc2, .inr (.inr (.inr (.inr (va_up (fun i => if i < n then some (o i) else none) n (some eo))))))), (eo, .inr (2, [.int e0, .int e1, .int e2, .int e3, .int e4, .int e5, .int e6, .int e7, .int e8, .int e9, .ref w]))] : va_W) ++ ws) H := hP
    have hD : va_D A (([(x, .inr (0, [.int mc, .ref ua2, .int (nI n)])), (ua2, .inl (D.1 99, uc2, .inr (.inr (.inr (.inr (va_up (fun i => if i < n then some (o i) else none) n (some eo))))))), (eo, .inr (2, [.int e0, .int e1, .int e2, .int e3, .int e4, .int e5, .int e6, .int e7, .int e8, .int e9, .ref w]))] : va_W) ++ ws) := hD
    refine lv_aload_n hx hb dJx4a65c_add_72be8_15 rfl (lvA1 hl) ?_
    refine lv_iload_n hx hb dJx4a65c_add_72be8_16 rfl (lvA3 hl) ?_
    refine lv_iconst (v := 1) hx hb dJx4a65c_add_72be8_17 kic_1 ?_
    refine lv_iadd hx hb dJx4a65c_add_72be8_18 ?_
    refine lv_topi (fun y_4 ey_4 => ?_)
    obtain rfl : y_4 = (nI (n + 1)) := ey_4.trans (nI_1 _)
    refine pf_RJx4a65c_48 S hK hP hD hS 0 rfl (v := .int (nI (n + 1))) (Nat.le_of_ble_eq_true rfl) rfl rfl dJx4a65c_add_72be8_19 (fun H locs hP hD hS => ?_)
    have hP : va_P D vwCl (([(x, .inr (0, [.int mc, .ref ua2, .int (nI (n + 1))])), (ua2, .inl (D.1 99, uc2, .inr (.inr (.inr (.inr (va_up (fun i => if i < n then some (o i) else none) n (some eo))))))), (eo, .inr (2, [.int e0, .int e1, .int e2, .int e3, .int e4, .int e5, .int e6, .int e7, .int e8, .int e9, .ref w]))] : va_W) ++ ws) H := hP
    have hD : va_D A (([(x, .inr (0, [.int mc, .ref ua2, .int (nI (n + 1))])), (ua2, .inl (D.1 99, uc2, .inr (.inr (.inr (.inr (va_up (fun i => if i < n then some (o i) else none) n (some eo))))))), (eo, .inr (2, [.int e0, .int e1, .int e2, .int e3, .int e4, .int e5, .int e6, .int e7, .int e8, .int e9, .ref w]))] : va_W) ++ ws) := hD
    exact W.vret hx hb hr (fun t ht hW => ⟨⟨(ua2, uc2), rfl, h2, by rw [ht]; exact hP, hD⟩, hS.F ht⟩) hS.2.2 dJx4a65c_add_72be8_22
set_option maxRecDepth 100000 in
set_option maxHeartbeats 4000000 in
theorem q_l_addGK (l : Launch) (D : va_G) (cI cB cZ : ClassId) (zz qq vv : Nat) (bt : Nat → Int32) (c0 : Nat) (x z n eo : Nat) (mc : Int32) (o : Nat → Nat) (e0 e1 e2 e3 e4 e5 e6 e7 e8 e9 : Int32) (w : Nat) (ws : va_W) (sz : Nat) (hn : n ≤ c0) (hc : c0 ≤ 100) (h0 : 0 < n) (h60 : n ≤ 60) (hel : ∀ i : Nat, i < n → ∃ fs : List Value, ((o i, .inr (2, fs)) : Nat × va_E) ∈ ((eo, .inr (2, [.int e0, .int e1, .int e2, .int e3, .int e4, .int e5, .int e6, .int e7, .int e8, .int e9, .ref w])) : Nat × va_E) :: ws) : Met l yJx4a65c_add_9ea2d (CWS yJx4a65c_add_9ea2d cJx4a65c_add_9ea2d 2 (some .boolean)) (RM 7 1 100) (PBx [.ref x, .ref eo] D cI cB cZ zz qq vv bt (([(x, .inr (0, [.int mc, .ref z, .int (nI n)])), (z, .inl (D.1 99, c0, .inr (.inr (.inr (.inr (fun i => if i < n then some (o i) else none)))))), (eo, .inr (2, [.int e0, .int e1, .int e2, .int e3, .int e4, .int e5, .int e6, .int e7, .int e8, .int e9, .ref w]))] : va_W) ++ ws) sz) (va_Qi (fun (r : Int32) (u : Nat × Nat) => r = 1 ∧ (n < u.2 ∧ u.2 ≤ 100)) (fun (u : Nat × Nat) (t : State) => va_P D vwCl (([(x, .inr (0, [.int (mc + 1), .ref u.1, .int (nI (n + 1))])), (u.1, .inl (D.1 99, u.2, .inr (.inr (.inr (.inr (va_up (fun i => if i < n then some (o i) else none) n (some eo))))))), (eo, .inr (2, [.int e0, .int e1, .int e2, .int e3, .int e4, .int e5, .int e6, .int e7, .int e8, .int e9, .ref w]))] : va_W) ++ ws) t.heap ∧ va_D (va_A (([(x, .inr (0, [.int mc, .ref z, .int (nI n)])), (z, .inl (D.1 99, c0, .inr (.inr (.inr (.inr (fun i => if i < n then some (o i) else none)))))), (eo, .inr (2, [.int e0, .int e1, .int e2, .int e3, .int e4, .int e5, .int e6, .int e7, .int e8, .int e9, .ref w]))] : va_W) ++ ws) sz) (([(x, .inr (0, [.int (mc + 1), .ref u.1, .int (nI (n + 1))])), (u.1, .inl (D.1 99, u.2, .inr (.inr (.inr (.inr (va_up (fun i => if i < n then some (o i) else none) n (some eo))))))), (eo, .inr (2, [.int e0, .int e1, .int e2, .int e3, .int e4, .int e5, .int e6, .int e7, .int e8, .int e9, .ref w]))] : va_W) ++ ws)) (va_A (([(x, .inr (0, [.int mc, .ref z, .int (nI n)])), (z, .inl (D.1 99, c0, .inr (.inr (.inr (.inr (fun i => if i < n then some (o i) else none)))))), (eo, .inr (2, [.int e0, .int e1, .int e2, .int e3, .int e4, .int e5, .int e6, .int e7, .int e8, .int e9, .ref w]))] : va_W) ++ ws) sz)) 1 100 (va_A (([(x, .inr (0, [.int mc, .ref z, .int (nI n)])), (z, .inl (D.1 99, c0, .inr (.inr (.inr (.inr (fun i => if i < n then some (o i) else none)))))), (eo, .inr (2, [.int e0, .int e1, .int e2, .int e3, .int e4, .int e5, .int e6, .int e7, .int e8, .int e9, .ref w]))] : va_W) ++ ws) sz) := by
  refine en_x (fun A => (va_Qi (fun (r : Int32) (u : Nat × Nat) => r = 1 ∧ (n < u.2 ∧ u.2 ≤ 100)) (fun (u : Nat × Nat) (t : State) => va_P D vwCl (([(x, .inr (0, [.int (mc + 1), .ref u.1, .int (nI (n + 1))])), (u.1, .inl (D.1 99, u.2, .inr (.inr (.inr (.inr (va_up (fun i => if i < n then some (o i) else none) n (some eo))))))), (eo, .inr (2, [.int e0, .int e1, .int e2, .int e3, .int e4, .int e5, .int e6, .int e7, .int e8, .int e9, .ref w]))] : va_W) ++ ws) t.heap ∧ va_D A (([(x, .inr (0, [.int (mc + 1), .ref u.1, .int (nI (n + 1))])), (u.1, .inl (D.1 99, u.2, .inr (.inr (.inr (.inr (va_up (fun i => if i < n then some (o i) else none) n (some eo))))))), (eo, .inr (2, [.int e0, .int e1, .int e2, .int e3, .int e4, .int e5, .int e6, .int e7, .int e8, .int e9, .ref w]))] : va_W) ++ ws)) A)) rfl rfl pn_RJx4a65c (Nat.le_of_ble_eq_true rfl) (fun p e s m below meth c A hx hb hml hown S hr hlocks hnm hA hP hK hD hXS hS ls hl => ?_)
  have hP : va_P D vwCl (([(x, .inr (0, [.int mc, .ref z, .int (nI n)])), (z, .inl (D.1 99, c0, .inr (.inr (.inr (.inr (fun i => if i < n then some (o i) else none)))))), (eo, .inr (2, [.int e0, .int e1, .int e2, .int e3, .int e4, .int e5, .int e6, .int e7, .int e8, .int e9, .ref w]))] : va_W) ++ ws) s.heap := hP
  have hD : va_D A (([(x, .inr (0, [.int mc, .ref z, .int (nI n)])), (z, .inl (D.1 99, c0, .inr (.inr (.inr (.inr (fun i => if i < n then some (o i) else none)))))), (eo, .inr (2, [.int e0, .int e1, .int e2, .int e3, .int e4, .int e5, .int e6, .int e7, .int e8, .int e9, .ref w]))] : va_W) ++ ws) := hD
  have hl : lv_has ls 2 [(0, .ref x), (1, .ref eo)] := hl
  refine lv_aload_n hx hb dJx4a65c_add_9ea2d_0 rfl (lvA0 hl) ?_
  refine lv_dup hx hb dJx4a65c_add_9ea2d_1 rfl ?_
  refine gf_RJx4a65c_63 S hK hP 0 rfl (v := .int mc) rfl dJx4a65c_add_9ea2d_2 ?_
  refine lv_iconst (v := 1) hx hb dJx4a65c_add_9ea2d_5 kic_1 ?_
  refine lv_iadd hx hb dJx4a65c_add_9ea2d_6 ?_
  refine pf_RJx4a65c_63 S hK hP hD hS 0 rfl (v := .int (mc + 1)) (Nat.le_of_ble_eq_true rfl) rfl rfl dJx4a65c_add_9ea2d_7 (fun H locs hP hD hS => ?_)
  have hP : va_P D vwCl (([(x, .inr (0, [.int (mc + 1), .ref z, .int (nI n)])), (z, .inl (D.1 99, c0, .inr (.inr (.inr (.inr (fun i => if i < n then some (o i) else none)))))), (eo, .inr (2, [.int e0, .int e1, .int e2, .int e3, .int e4, .int e5, .int e6, .int e7, .int e8, .int e9, .ref w]))] : va_W) ++ ws) H := hP
  have hD : va_D A (([(x, .inr (0, [.int (mc + 1), .ref z, .int (nI n)])), (z, .inl (D.1 99, c0, .inr (.inr (.inr (.inr (fun i => if i < n then some (o i) else none)))))), (eo, .inr (2, [.int e0, .int e1, .int e2, .int e3, .int e4, .int e5, .int e6, .int e7, .int e8, .int e9, .ref w]))] : va_W) ++ ws) := hD
  refine lv_aload_n hx hb dJx4a65c_add_9ea2d_10 rfl (lvA0 hl) ?_
  refine lv_aload_n hx hb dJx4a65c_add_9ea2d_11 rfl (lvA1 hl) ?_
  refine lv_aload_n hx hb dJx4a65c_add_9ea2d_12 rfl (lvA0 hl) ?_
  refine gf_RJx4a65c_9 S hK hP 0 rfl (v := .ref z) rfl dJx4a65c_add_9ea2d_13 ?_
  refine lv_aload_n hx hb dJx4a65c_add_9ea2d_16 rfl (lvA0 hl) ?_
  refine gf_RJx4a65c_48 S hK hP 0 rfl (v := .int (nI n)) rfl dJx4a65c_add_9ea2d_17 ?_
  have hFc := free_all hD hS hA
  refine va_callv (runV_xa (As := [.ref eo, .ref z, .int (nI n)]) (rest := []) S (q_l_ad3GK l D cI cB cZ zz qq vv bt c0 x z n eo (mc + 1) o e0 e1 e2 e3 e4 e5 e6 e7 e8 e9 w ws H.size hn hc h0 h60 hel) kV_RJx4a65c_131 hK hXS hS hFc hP hD 0 rfl rfl rfl ⟨Nat.le_of_ble_eq_true rfl, Nat.le_of_ble_eq_true rfl⟩ ⟨Nat.le_of_ble_eq_true rfl, Nat.le_of_ble_eq_true rfl⟩ rfl hl.1 rfl (Nat.le_of_ble_eq_true rfl) dJx4a65c_add_9ea2d_20) hS (fun q _ h => hFc q h) hFc (fun u0 t H1 locs ht hvm h0 hB1 hz1 hk1 hS => ?_)
  obtain ⟨hP1, hD1⟩ := hB1
  rw [ht] at hP1
  obtain ⟨ua0, uc0⟩ := u0
  have hP : va_P D vwCl (([(x, .inr (0, [.int (mc + 1), .ref ua0, .int (nI (n + 1))])), (ua0, .inl (D.1 99, uc0, .inr (.inr (.inr (.inr (va_up (fun i => if i < n then some (o i) else none) n (some eo))))))), (eo, .inr (2, [.int e0, .int e1, .int e2, .int e3, .int e4, .int e5, .int e6, .int e7, .int e8, .int e9, .ref w]))] : va_W) ++ ws) H1 := hP1
  have hD : va_D A (([(x, .inr (0, [.int (mc + 1), .ref ua0, .int (nI (n + 1))])), (ua0, .inl (D.1 99, uc0, .inr (.inr (.inr (.inr (va_up (fun i => if i < n then some (o i) else none) n (some eo))))))), (eo, .inr (2, [.int e0, .int e1, .int e2, .int e3, .int e4, .int e5, .int e6, .int e7, .int e8, .int e9, .ref w]))] : va_W) ++ ws) := hD1.weaken (fun _ _ _ h => hFc _ h)
  generalize H1 = H at hP hS ⊢
  refine lv_iconst (v := 1) hx hb dJx4a65c_add_9ea2d_23 kic_1 ?_
  exact W.zret (v := 1) hx hb hr rfl (fun t ht hW => ⟨⟨1, (ua0, uc0), rfl, ⟨rfl, h0⟩, by rw [ht]; exact hP, hD⟩, hS.F ht⟩) hS.2.2 dJx4a65c_add_9ea2d_24
set_option maxRecDepth 100000 in
set_option maxHeartbeats 4000000 in
theorem q_l_cpo3L (l : Launch) (D : va_G) (cI cB cZ : ClassId) (zz qq vv : Nat) (bt : Nat → Int32) (c1 mi : Nat) (x z n eo : Nat) (mc : Int32) (o : Nat → Nat) (e0 e1 e2 e3 e4 e5 e6 e7 e8 e9 : Int32) (ws : va_W) (sz : Nat) (hc : n < c1) (h100 : c1 ≤ 100) (hel : ∀ i : Nat, i < n → ∃ fs : List Value, ((o i, .inr (3, fs)) : Nat × va_E) ∈ ((eo, .inr (3, [.int e0, .int e1, .int e2, .int e3, .int e4, .int e5, .int e6, .int e7, .int e8, .int e9])) : Nat × va_E) :: ws) : Met l yJ7_copyOf_6403c (CWS yJ7_copyOf_6403c cJ7_copyOf_6403c 4 (some (.array (.object "java/lang/Object")))) (RM 2 1 100) (PBm mi [.ref z, .int (nI c1), .ref mi] D cI cB cZ zz qq vv bt (([(x, .inr (0, [.int mc, .ref z, .int (nI n)])), (z, .inl (D.1 99, n, .inr (.inr (.inr (.inr (fun i => if i < n then some (o i) else none)))))), (eo, .inr (3, [.int e0, .int e1, .int e2, .int e3, .int e4, .int e5, .int e6, .int e7, .int e8, .int e9]))] : va_W) ++ ws) sz) (va_Qq (fun (r : Option Nat) (u : Nat) => r = some u ∧ True) (fun (u : Nat) (t : State) => va_P D vwCl (([(u, .inl (D.1 99, c1, .inr (.inr (.inr (.inr (fun i => if i < n then some (o i) else none)))))), (x, .inr (0, [.int mc, .ref z, .int (nI n)])), (z, .inl (D.1 99, n, .inr (.inr (.inr (.inr (fun i => if i < n then some (o i) else none)))))), (eo, .inr (3, [.int e0, .int e1, .int e2, .int e3, .int e4, .int e5, .int e6, .int e7, .int e8, .int e9]))] : va_W) ++ ws) t.heap ∧ va_D (va_A (([(x, .inr (0, [.int mc, .ref z, .int (nI n)])), (z, .inl (D.1 99, n, .inr (.inr (.inr (.inr (fun i => if i < n then some (o i) else none)))))), (eo, .inr (3, [.int e0, .int e1, .int e2, .int e3, .int e4, .int e5, .int e6, .int e7, .int e8, .int e9]))] : va_W) ++ ws) sz) (([(u, .inl (D.1 99, c1, .inr (.inr (.inr (.inr (fun i => if i < n then some (o i) else none)))))), (x, .inr (0, [.int mc, .ref z, .int (nI n)])), (z, .inl (D.1 99, n, .inr (.inr (.inr (.inr (fun i => if i < n then some (o i) else none)))))), (eo, .inr (3, [.int e0, .int e1, .int e2, .int e3, .int e4, .int e5, .int e6, .int e7, .int e8, .int e9]))] : va_W) ++ ws)) (va_A (([(x, .inr (0, [.int mc, .ref z, .int (nI n)])), (z, .inl (D.1 99, n, .inr (.inr (.inr (.inr (fun i => if i < n then some (o i) else none)))))), (eo, .inr (3, [.int e0, .int e1, .int e2, .int e3, .int e4, .int e5, .int e6, .int e7, .int e8, .int e9]))] : va_W) ++ ws) sz)) 1 100 (va_A (([(x, .inr (0, [.int mc, .ref z, .int (nI n)])), (z, .inl (D.1 99, n, .inr (.inr (.inr (.inr (fun i => if i < n then some (o i) else none)))))), (eo, .inr (3, [.int e0, .int e1, .int e2, .int e3, .int e4, .int e5, .int e6, .int e7, .int e8, .int e9]))] : va_W) ++ ws) sz) := by
  refine Met.ofW (cc := cJ7_copyOf_6403c) (maxL := 4) (ret := (some (.array (.object "java/lang/Object")))) (by decide) rfl ?_
  intro p e s m args below meth c s₁ B hml hv
  obtain ⟨rfl, hsz, hP, hK, hD0, hXS, hMi⟩ := hv
  have hx := B.exec
  have hb := B.bytes
  have hr := B.returns
  have hts := atoms_spec (ws := (CWS yJ7_copyOf_6403c cJ7_copyOf_6403c 4 (some (.array (.object "java/lang/Object"))))) B.pre
  have hown : s.vm.findClass RJ7 = some m.cls := findClass_of_methodNamed B.named
  have hlocks := B.notSynchronized
  have S : SF p m c cJ7_copyOf_6403c 4 s ([.ref z, .int (nI c1), .ref mi]).toArray RJ7 := ⟨hx, hb, hml, hown, fun w h => hts w (List.mem_cons_of_mem _ h)⟩
  subst hsz
  have hD := hD0.self (sz := s.heap.size)
  generalize hAe : va_A (([(x, .inr (0, [.int mc, .ref z, .int (nI n)])), (z, .inl (D.1 99, n, .inr (.inr (.inr (.inr (fun i => if i < n then some (o i) else none)))))), (eo, .inr (3, [.int e0, .int e1, .int e2, .int e3, .int e4, .int e5, .int e6, .int e7, .int e8, .int e9]))] : va_W) ++ ws) s.heap.size = A at hD hXS ⊢
  have hA : ∀ q : Nat, s.heap.size ≤ q → A q := fun q h => by rw [← hAe]; exact Or.inr h
  have hS : va_S A s.heap s.heap [] := va_S.rf
  have hP : va_P D vwCl (([(x, .inr (0, [.int mc, .ref z, .int (nI n)])), (z, .inl (D.1 99, n, .inr (.inr (.inr (.inr (fun i => if i < n then some (o i) else none)))))), (eo, .inr (3, [.int e0, .int e1, .int e2, .int e3, .int e4, .int e5, .int e6, .int e7, .int e8, .int e9]))] : va_W) ++ ws) s.heap := hP
  have hD : va_D A (([(x, .inr (0, [.int mc, .ref z, .int (nI n)])), (z, .inl (D.1 99, n, .inr (.inr (.inr (.inr (fun i => if i < n then some (o i) else none)))))), (eo, .inr (3, [.int e0, .int e1, .int e2, .int e3, .int e4, .int e5, .int e6, .int e7, .int e8, .int e9]))] : va_W) ++ ws) := hD
  have hl := lv_entry ([.ref z, .int (nI c1), .ref mi]) (n := 4) (Nat.le_of_ble_eq_true rfl)
  rw [lg_entry_eq]
  generalize (lg_sl ([.ref z, .int (nI c1), .ref mi]) ++ List.replicate (4 - (lg_sl ([.ref z, .int (nI c1), .ref mi])).length) Slot.unset).toArray = ls at hl ⊢
  have hl : lv_has ls 4 [(0, .ref z), (1, .int (nI c1)), (2, .ref mi)] := hl
  refine lv_aload_n hx hb dJ7_copyOf_6403c_0 rfl (lvA2 hl) ?_
  refine va_ldcM hx hb hown (S.2.2.2.2 _ (wk2_13 6 rfl rfl)) hMi dJ7_copyOf_6403c_1 ?_
  refine lv_acmp_ne (rx := some mi) (ry := some mi) (tgt := 13) hx hb dJ7_copyOf_6403c_3 (by decide) (fun h => absurd rfl h) (fun _ => ?_)
  refine lv_iload_n hx hb dJ7_copyOf_6403c_6 rfl (lvA1 hl) ?_
  refine newq_obj S hXS hK hP hD hS hA (N' := c1) (wk2_13 8 rfl rfl) (nI_nn (by omega)) (nI_clamp (by omega)) (by omega) (Nat.le_of_ble_eq_true rfl) (by show 0 + c1 ≤ 100; omega) dJ7_copyOf_6403c_7 (fun q7 H hP hD hS => ?_)
  refine W.widen (k := 1) (n := 100) (Nat.le_of_ble_eq_true rfl) (by omega) ?_
  have hP : va_P D vwCl (([(q7, .inl (D.1 99, c1, .inr (.inr (.inr (.inr (fun _ => none)))))), (x, .inr (0, [.int mc, .ref z, .int (nI n)])), (z, .inl (D.1 99, n, .inr (.inr (.inr (.inr (fun i => if i < n then some (o i) else none)))))), (eo, .inr (3, [.int e0, .int e1, .int e2, .int e3, .int e4, .int e5, .int e6, .int e7, .int e8, .int e9]))] : va_W) ++ ws) H := va_P_perm g_rot hP
  have hD : va_D A (([(q7, .inl (D.1 99, c1, .inr (.inr (.inr (.inr (fun _ => none)))))), (x, .inr (0, [.int mc, .ref z, .int (nI n)])), (z, .inl (D.1 99, n, .inr (.inr (.inr (.inr (fun i => if i < n then some (o i) else none)))))), (eo, .inr (3, [.int e0, .int e1, .int e2, .int e3, .int e4, .int e5, .int e6, .int e7, .int e8, .int e9]))] : va_W) ++ ws) := va_D_perm g_rot hD
  refine lv_goto (tgt := 24) hx hb dJ7_copyOf_6403c_10 rfl ?_
  refine lv_astore_n (lv' := [(3, .ref q7), (0, .ref z), (1, .int (nI c1)), (2, .ref mi)]) hx hb dJ7_copyOf_6403c_24 rfl hl (ltb rfl) rfl (fun ls hl => ?_)
  refine lv_aload_n hx hb dJ7_copyOf_6403c_25 rfl (lvA1 hl) ?_
  refine lv_iconst (v := 0) hx hb dJ7_copyOf_6403c_26 kic_0 ?_
  refine lv_aload_n hx hb dJ7_copyOf_6403c_27 rfl (lvA0 hl) ?_
  refine lv_iconst (v := 0) hx hb dJ7_copyOf_6403c_28 kic_0 ?_
  refine lv_aload_n hx hb dJ7_copyOf_6403c_29 rfl (lvA1 hl) ?_
  refine va_alen hx hb hXS.2.2.2.2.2.2.2.2.1 hP 2 0 rfl rfl (v := (nI n)) rfl dJ7_copyOf_6403c_30 ?_
  refine lv_iload_n hx hb dJ7_copyOf_6403c_31 rfl (lvA2 hl) ?_
  refine va_mmin hx hb (by rw [hml]; exact hl.1.symm) hown (S.2.2.2.2 _ (wk2_13 9 rfl rfl)) (S.2.2.2.2 _ (wk2_13 10 rfl rfl)) (S.2.2.2.2 _ (wk1_0 3 rfl rfl)) (S.2.2.2.2 _ (wk2_13 11 rfl rfl)) (Nat.le_of_ble_eq_true rfl) (Nat.le_of_ble_eq_true rfl) (Nat.le_of_ble_eq_true rfl) (Nat.le_of_ble_eq_true rfl) dJ7_copyOf_6403c_32 ?_
  refine lv_topi (fun y_1 ey_1 => ?_)
  obtain rfl : y_1 = (nI n) := ey_1.trans (min_le (by omega) (by omega))
  have hel9 : ∀ i : Nat, i < ((nI n) : Int32).toNatClampNeg → ∀ y : Nat, (fun i => if i < n then some (o i) else none) ((0 : Int32).toNatClampNeg + i) = some y → ∃ cellV : Cell, H[y]? = some cellV ∧ cellV.vm.isStatics = false ∧ s.vm.findClass "OilHome$Load" = some cellV.cls := by
    intro i hi y hy
    rw [nI_clamp (by omega)] at hi
    have hy : (if 0 + i < n then some (o (0 + i)) else none) = some y := hy
    rw [Nat.zero_add, if_pos hi] at hy
    obtain rfl := Option.some.inj hy
    obtain ⟨fs, hfs⟩ := hel i hi
    obtain ⟨j9, hj9⟩ := List.mem_iff_getElem?.mp (show ((o i, .inr (3, fs)) : Nat × va_E) ∈ (([(q7, .inl (D.1 99, c1, .inr (.inr (.inr (.inr (fun _ => none)))))), (x, .inr (0, [.int mc, .ref z, .int (nI n)])), (z, .inl (D.1 99, n, .inr (.inr (.inr (.inr (fun i => if i < n then some (o i) else none)))))), (eo, .inr (3, [.int e0, .int e1, .int e2, .int e3, .int e4, .int e5, .int e6, .int e7, .int e8, .int e9]))] : va_W) ++ ws) from List.mem_cons_of_mem _ (List.mem_cons_of_mem _ (List.mem_cons_of_mem _ hfs)))
    exact va_recv hK.1 hP (ci := 3) rfl hj9
  refine va_copyq (E0 := "java/lang/Object") (E1 := "java/lang/Object") (C := "OilHome$Load") hx hb (by rw [hml]; exact hl.1.symm) hown (S.2.2.2.2 _ (wk2_14 0 rfl rfl)) (S.2.2.2.2 _ (wk2_14 2 rfl rfl)) (S.2.2.2.2 _ (wk2_14 1 rfl rfl)) (S.2.2.2.2 _ (wk1_1 4 rfl rfl)) hXS.2.2.2.2.2.2.2.2.1 hP hD hS 2 0 0 0 rfl rfl rfl rfl (by decide) (by decide) (nI_nn (by omega)) (by rw [nI_clamp (by omega)]; show 0 + n ≤ n; omega) (by rw [nI_clamp (by omega)]; show 0 + n ≤ c1; omega) hel9 (vb_asgC hXS.2.2.2.2.2.2.2.2.2.2.2.2.1.1) (Nat.le_of_ble_eq_true rfl) (Nat.le_of_ble_eq_true (by decide +kernel)) dJ7_copyOf_6403c_35 (fun H locs hP hD hS => ?_)
  rw [nI_clamp (n := n) (by omega), show (0 : Int32).toNatClampNeg = 0 by decide, cpy_rf] at hP hD
  have hP : va_P D vwCl (([(q7, .inl (D.1 99, c1, .inr (.inr (.inr (.inr (fun i => if i < n then some (o i) else none)))))), (x, .inr (0, [.int mc, .ref z, .int (nI n)])), (z, .inl (D.1 99, n, .inr (.inr (.inr (.inr (fun i => if i < n then some (o i) else none)))))), (eo, .inr (3, [.int e0, .int e1, .int e2, .int e3, .int e4, .int e5, .int e6, .int e7, .int e8, .int e9]))] : va_W) ++ ws) H := hP
  have hD : va_D A (([(q7, .inl (D.1 99, c1, .inr (.inr (.inr (.inr (fun i => if i < n then some (o i) else none)))))), (x, .inr (0, [.int mc, .ref z, .int (nI n)])), (z, .inl (D.1 99, n, .inr (.inr (.inr (.inr (fun i => if i < n then some (o i) else none)))))), (eo, .inr (3, [.int e0, .int e1, .int e2, .int e3, .int e4, .int e5, .int e6, .int e7, .int e8, .int e9]))] : va_W) ++ ws) := hD
  refine lv_aload_n hx hb dJ7_copyOf_6403c_38 rfl (lvA0 hl) ?_
  exact W.aret (v := .ref q7) hx hb hr (by first | exact Or.inl ⟨_, rfl⟩ | exact Or.inr ⟨_, rfl⟩) (Or.inr ⟨_, rfl⟩) (fun t ht hW => ⟨⟨some q7, q7, rfl, ⟨rfl, trivial⟩, by rw [ht]; exact hP, hD⟩, hS.F ht⟩) hS.2.2 dJ7_copyOf_6403c_39
set_option maxRecDepth 100000 in
set_option maxHeartbeats 4000000 in
theorem q_l_cpo2L (l : Launch) (D : va_G) (cI cB cZ : ClassId) (zz qq vv : Nat) (bt : Nat → Int32) (c1 : Nat) (x z n eo : Nat) (mc : Int32) (o : Nat → Nat) (e0 e1 e2 e3 e4 e5 e6 e7 e8 e9 : Int32) (ws : va_W) (sz : Nat) (hc : n < c1) (h100 : c1 ≤ 100) (hel : ∀ i : Nat, i < n → ∃ fs : List Value, ((o i, .inr (3, fs)) : Nat × va_E) ∈ ((eo, .inr (3, [.int e0, .int e1, .int e2, .int e3, .int e4, .int e5, .int e6, .int e7, .int e8, .int e9])) : Nat × va_E) :: ws) : Met l yJ7_copyOf_1904c (CWS yJ7_copyOf_1904c cJ7_copyOf_1904c 2 (some (.array (.object "java/lang/Object")))) (RM 3 1 100) (PBx [.ref z, .int (nI c1)] D cI cB cZ zz qq vv bt (([(x, .inr (0, [.int mc, .ref z, .int (nI n)])), (z, .inl (D.1 99, n, .inr (.inr (.inr (.inr (fun i => if i < n then some (o i) else none)))))), (eo, .inr (3, [.int e0, .int e1, .int e2, .int e3, .int e4, .int e5, .int e6, .int e7, .int e8, .int e9]))] : va_W) ++ ws) sz) (va_Qq (fun (r : Option Nat) (u : Nat) => r = some u ∧ True) (fun (u : Nat) (t : State) => va_P D vwCl (([(u, .inl (D.1 99, c1, .inr (.inr (.inr (.inr (fun i => if i < n then some (o i) else none)))))), (x, .inr (0, [.int mc, .ref z, .int (nI n)])), (z, .inl (D.1 99, n, .inr (.inr (.inr (.inr (fun i => if i < n then some (o i) else none)))))), (eo, .inr (3, [.int e0, .int e1, .int e2, .int e3, .int e4, .int e5, .int e6, .int e7, .int e8, .int e9]))] : va_W) ++ ws) t.heap ∧ va_D (va_A (([(x, .inr (0, [.int mc, .ref z, .int (nI n)])), (z, .inl (D.1 99, n, .inr (.inr (.inr (.inr (fun i => if i < n then some (o i) else none)))))), (eo, .inr (3, [.int e0, .int e1, .int e2, .int e3, .int e4, .int e5, .int e6, .int e7, .int e8, .int e9]))] : va_W) ++ ws) sz) (([(u, .inl (D.1 99, c1, .inr (.inr (.inr (.inr (fun i => if i < n then some (o i) else none)))))), (x, .inr (0, [.int mc, .ref z, .int (nI n)])), (z, .inl (D.1 99, n, .inr (.inr (.inr (.inr (fun i => if i < n then some (o i) else none)))))), (eo, .inr (3, [.int e0, .int e1, .int e2, .int e3, .int e4, .int e5, .int e6, .int e7, .int e8, .int e9]))] : va_W) ++ ws)) (va_A (([(x, .inr (0, [.int mc, .ref z, .int (nI n)])), (z, .inl (D.1 99, n, .inr (.inr (.inr (.inr (fun i => if i < n then some (o i) else none)))))), (eo, .inr (3, [.int e0, .int e1, .int e2, .int e3, .int e4, .int e5, .int e6, .int e7, .int e8, .int e9]))] : va_W) ++ ws) sz)) 1 100 (va_A (([(x, .inr (0, [.int mc, .ref z, .int (nI n)])), (z, .inl (D.1 99, n, .inr (.inr (.inr (.inr (fun i => if i < n then some (o i) else none)))))), (eo, .inr (3, [.int e0, .int e1, .int e2, .int e3, .int e4, .int e5, .int e6, .int e7, .int e8, .int e9]))] : va_W) ++ ws) sz) := by
  refine en_x (fun A => (va_Qq (fun (r : Option Nat) (u : Nat) => r = some u ∧ True) (fun (u : Nat) (t : State) => va_P D vwCl (([(u, .inl (D.1 99, c1, .inr (.inr (.inr (.inr (fun i => if i < n then some (o i) else none)))))), (x, .inr (0, [.int mc, .ref z, .int (nI n)])), (z, .inl (D.1 99, n, .inr (.inr (.inr (.inr (fun i => if i < n then some (o i) else none)))))), (eo, .inr (3, [.int e0, .int e1, .int e2, .int e3, .int e4, .int e5, .int e6, .int e7, .int e8, .int e9]))] : va_W) ++ ws) t.heap ∧ va_D A (([(u, .inl (D.1 99, c1, .inr (.inr (.inr (.inr (fun i => if i < n then some (o i) else none)))))), (x, .inr (0, [.int mc, .ref z, .int (nI n)])), (z, .inl (D.1 99, n, .inr (.inr (.inr (.inr (fun i => if i < n then some (o i) else none)))))), (eo, .inr (3, [.int e0, .int e1, .int e2, .int e3, .int e4, .int e5, .int e6, .int e7, .int e8, .int e9]))] : va_W) ++ ws)) A)) rfl rfl pn_RJ7 (Nat.le_of_ble_eq_true rfl) (fun p e s m below meth c A hx hb hml hown S hr hlocks hnm hA hP hK hD hXS hS ls hl => ?_)
  have hP : va_P D vwCl (([(x, .inr (0, [.int mc, .ref z, .int (nI n)])), (z, .inl (D.1 99, n, .inr (.inr (.inr (.inr (fun i => if i < n then some (o i) else none)))))), (eo, .inr (3, [.int e0, .int e1, .int e2, .int e3, .int e4, .int e5, .int e6, .int e7, .int e8, .int e9]))] : va_W) ++ ws) s.heap := hP
  have hD : va_D A (([(x, .inr (0, [.int mc, .ref z, .int (nI n)])), (z, .inl (D.1 99, n, .inr (.inr (.inr (.inr (fun i => if i < n then some (o i) else none)))))), (eo, .inr (3, [.int e0, .int e1, .int e2, .int e3, .int e4, .int e5, .int e6, .int e7, .int e8, .int e9]))] : va_W) ++ ws) := hD
  have hl : lv_has ls 2 [(0, .ref z), (1, .int (nI c1))] := hl
  refine lv_aload_n hx hb dJ7_copyOf_1904c_0 rfl (lvA0 hl) ?_
  refine lv_iload_n hx hb dJ7_copyOf_1904c_1 rfl (lvA1 hl) ?_
  refine lv_aload_n hx hb dJ7_copyOf_1904c_2 rfl (lvA0 hl) ?_
  obtain ⟨mi, hMi⟩ := hXS.2.2.2.2.2.2.2.2.2.2.2.2.2.2
  refine va_getC (C := "[Ljava/lang/Object;") (mi := mi) hx hb (by rw [hml]; exact hl.1.symm) hown (S.2.2.2.2 _ (wk2_11 9 rfl rfl)) hXS.2.2.2.2.2.2.2.2.2.2.2.2.2.1.use (S.2.2.2.2 _ (wk9_12 10 rfl rfl)) (S.2.2.2.2 _ (wk2_11 10 rfl rfl)) (S.2.2.2.2 _ (wk2_13 2 rfl rfl)) hMi (recvQ (q0 := 1) hXS hP rfl) (Nat.le_of_ble_eq_true rfl) (Nat.le_of_ble_eq_true rfl) dJ7_copyOf_1904c_3 ?_
  have hFc := free_all hD hS hA
  refine va_callq (runS_xm (As := [.ref z, .int (nI c1), .ref mi]) (rest := []) S (q_l_cpo3L l D cI cB cZ zz qq vv bt c1 mi x z n eo mc o e0 e1 e2 e3 e4 e5 e6 e7 e8 e9 ws s.heap.size hc h100 hel) kS_RJ7_300 hK hXS hMi hS hFc hP hD ⟨Nat.le_of_ble_eq_true rfl, Nat.le_of_ble_eq_true rfl⟩ ⟨Nat.le_of_ble_eq_true rfl, Nat.le_of_ble_eq_true rfl⟩ rfl hl.1 rfl (Nat.le_of_ble_eq_true rfl) dJ7_copyOf_1904c_6) hS (fun q _ h => hFc q h) hFc (fun r0 u0 t H1 locs ht hvm h0 hB1 hz1 hk1 hS => ?_)
  obtain ⟨hP1, hD1⟩ := hB1
  rw [ht] at hP1
  have hP : va_P D vwCl (([(u0, .inl (D.1 99, c1, .inr (.inr (.inr (.inr (fun i => if i < n then some (o i) else none)))))), (x, .inr (0, [.int mc, .ref z, .int (nI n)])), (z, .inl (D.1 99, n, .inr (.inr (.inr (.inr (fun i => if i < n then some (o i) else none)))))), (eo, .inr (3, [.int e0, .int e1, .int e2, .int e3, .int e4, .int e5, .int e6, .int e7, .int e8, .int e9]))] : va_W) ++ ws) H1 := hP1
  have hD : va_D A (([(u0, .inl (D.1 99, c1, .inr (.inr (.inr (.inr (fun i => if i < n then some (o i) else none)))))), (x, .inr (0, [.int mc, .ref z, .int (nI n)])), (z, .inl (D.1 99, n, .inr (.inr (.inr (.inr (fun i => if i < n then some (o i) else none)))))), (eo, .inr (3, [.int e0, .int e1, .int e2, .int e3, .int e4, .int e5, .int e6, .int e7, .int e8, .int e9]))] : va_W) ++ ws) := hD1.weaken (fun _ _ _ h => hFc _ h)
  generalize H1 = H at hP hS ⊢
  obtain ⟨hr0, h0⟩ := h0
  subst hr0
  exact W.aret (v := .ref u0) hx hb hr (by first | exact Or.inl ⟨_, rfl⟩ | exact Or.inr ⟨_, rfl⟩) (Or.inr ⟨_, rfl⟩) (fun t ht hW => ⟨⟨some u0, u0, rfl, ⟨rfl, trivial⟩, by rw [ht]; exact hP, hD⟩, hS.F ht⟩) hS.2.2 dJ7_copyOf_1904c_9
set_option maxRecDepth 100000 in
set_option maxHeartbeats 4000000 in
theorem q_l_gro1L (l : Launch) (D : va_G) (cI cB cZ : ClassId) (zz qq vv : Nat) (bt : Nat → Int32) (x z n eo : Nat) (mc : Int32) (o : Nat → Nat) (e0 e1 e2 e3 e4 e5 e6 e7 e8 e9 : Int32) (ws : va_W) (sz : Nat) (h0 : 0 < n) (h60 : n ≤ 60) (hel : ∀ i : Nat, i < n → ∃ fs : List Value, ((o i, .inr (3, fs)) : Nat × va_E) ∈ ((eo, .inr (3, [.int e0, .int e1, .int e2, .int e3, .int e4, .int e5, .int e6, .int e7, .int e8, .int e9])) : Nat × va_E) :: ws) : Met l yJx4a65c_grow_92f84 (CWS yJx4a65c_grow_92f84 cJx4a65c_grow_92f84 4 (some (.array (.object "java/lang/Object")))) (RM 4 1 100) (PBx [.ref x, .int (nI (n + 1))] D cI cB cZ zz qq vv bt (([(x, .inr (0, [.int mc, .ref z, .int (nI n)])), (z, .inl (D.1 99, n, .inr (.inr (.inr (.inr (fun i => if i < n then some (o i) else none)))))), (eo, .inr (3, [.int e0, .int e1, .int e2, .int e3, .int e4, .int e5, .int e6, .int e7, .int e8, .int e9]))] : va_W) ++ ws) sz) (va_Qq (fun (r : Option Nat) (u : Nat × Nat) => r = some u.1 ∧ (n < u.2 ∧ u.2 ≤ 100)) (fun (u : Nat × Nat) (t : State) => va_P D vwCl (([(x, .inr (0, [.int mc, .ref u.1, .int (nI n)])), (u.1, .inl (D.1 99, u.2, .inr (.inr (.inr (.inr (fun i => if i < n then some (o i) else none)))))), (eo, .inr (3, [.int e0, .int e1, .int e2, .int e3, .int e4, .int e5, .int e6, .int e7, .int e8, .int e9]))] : va_W) ++ ws) t.heap ∧ va_D (va_A (([(x, .inr (0, [.int mc, .ref z, .int (nI n)])), (z, .inl (D.1 99, n, .inr (.inr (.inr (.inr (fun i => if i < n then some (o i) else none)))))), (eo, .inr (3, [.int e0, .int e1, .int e2, .int e3, .int e4, .int e5, .int e6, .int e7, .int e8, .int e9]))] : va_W) ++ ws) sz) (([(x, .inr (0, [.int mc, .ref u.1, .int (nI n)])), (u.1, .inl (D.1 99, u.2, .inr (.inr (.inr (.inr (fun i => if i < n then some (o i) else none)))))), (eo, .inr (3, [.int e0, .int e1, .int e2, .int e3, .int e4, .int e5, .int e6, .int e7, .int e8, .int e9]))] : va_W) ++ ws)) (va_A (([(x, .inr (0, [.int mc, .ref z, .int (nI n)])), (z, .inl (D.1 99, n, .inr (.inr (.inr (.inr (fun i => if i < n then some (o i) else none)))))), (eo, .inr (3, [.int e0, .int e1, .int e2, .int e3, .int e4, .int e5, .int e6, .int e7, .int e8, .int e9]))] : va_W) ++ ws) sz)) 1 100 (va_A (([(x, .inr (0, [.int mc, .ref z, .int (nI n)])), (z, .inl (D.1 99, n, .inr (.inr (.inr (.inr (fun i => if i < n then some (o i) else none)))))), (eo, .inr (3, [.int e0, .int e1, .int e2, .int e3, .int e4, .int e5, .int e6, .int e7, .int e8, .int e9]))] : va_W) ++ ws) sz) := by
  refine en_x (fun A => (va_Qq (fun (r : Option Nat) (u : Nat × Nat) => r = some u.1 ∧ (n < u.2 ∧ u.2 ≤ 100)) (fun (u : Nat × Nat) (t : State) => va_P D vwCl (([(x, .inr (0, [.int mc, .ref u.1, .int (nI n)])), (u.1, .inl (D.1 99, u.2, .inr (.inr (.inr (.inr (fun i => if i < n then some (o i) else none)))))), (eo, .inr (3, [.int e0, .int e1, .int e2, .int e3, .int e4, .int e5, .int e6, .int e7, .int e8, .int e9]))] : va_W) ++ ws) t.heap ∧ va_D A (([(x, .inr (0, [.int mc, .ref u.1, .int (nI n)])), (u.1, .inl (D.1 99, u.2, .inr (.inr (.inr (.inr (fun i => if i < n then some (o i) else none)))))), (eo, .inr (3, [.int e0, .int e1, .int e2, .int e3, .int e4, .int e5, .int e6, .int e7, .int e8, .int e9]))] : va_W) ++ ws)) A)) rfl rfl pn_RJx4a65c (Nat.le_of_ble_eq_true rfl) (fun p e s m below meth c A hx hb hml hown S hr hlocks hnm hA hP hK hD hXS hS ls hl => ?_)
  have hP : va_P D vwCl (([(x, .inr (0, [.int mc, .ref z, .int (nI n)])), (z, .inl (D.1 99, n, .inr (.inr (.inr (.inr (fun i => if i < n then some (o i) else none)))))), (eo, .inr (3, [.int e0, .int e1, .int e2, .int e3, .int e4, .int e5, .int e6, .int e7, .int e8, .int e9]))] : va_W) ++ ws) s.heap := hP
  have hD : va_D A (([(x, .inr (0, [.int mc, .ref z, .int (nI n)])), (z, .inl (D.1 99, n, .inr (.inr (.inr (.inr (fun i => if i < n then some (o i) else none)))))), (eo, .inr (3, [.int e0, .int e1, .int e2, .int e3, .int e4, .int e5, .int e6, .int e7, .int e8, .int e9]))] : va_W) ++ ws) := hD
  have hl : lv_has ls 4 [(0, .ref x), (1, .int (nI (n + 1)))] := hl
  have tn : (nI n).toInt = (n : Int) := nI_toInt (by omega)
  refine lv_aload_n hx hb dJx4a65c_grow_92f84_0 rfl (lvA0 hl) ?_
  refine gf_RJx4a65c_9 S hK hP 0 rfl (v := .ref z) rfl dJx4a65c_grow_92f84_1 ?_
  refine va_alen hx hb hXS.2.2.2.2.2.2.2.2.1 hP 1 0 rfl rfl (v := (nI n)) rfl dJx4a65c_grow_92f84_4 ?_
  refine lv_istore_n (lv' := [(2, .int (nI n)), (0, .ref x), (1, .int (nI (n + 1)))]) hx hb dJx4a65c_grow_92f84_5 rfl hl (ltb rfl) rfl (fun ls hl => ?_)
  refine lv_iload_n hx hb dJx4a65c_grow_92f84_6 rfl (lvA0 hl) ?_
  refine lv_if_gt (tgt := 20) hx hb dJx4a65c_grow_92f84_7 rfl (fun c_1 => ?_) (fun c_1 => False.elim (by have tc_1 : ((nI n).toInt : Int) ≤ 0 := Int32.le_iff_toInt_le.mp (Int32.not_lt.mp c_1); omega))
  have tc_1 : (0 : Int) < (nI n).toInt := Int32.lt_iff_toInt_lt.mp c_1
  refine lv_iload_n hx hb dJx4a65c_grow_92f84_20 rfl (lvA0 hl) ?_
  refine lv_iload_n hx hb dJx4a65c_grow_92f84_21 rfl (lvA2 hl) ?_
  refine lv_iload_n hx hb dJx4a65c_grow_92f84_22 rfl (lvA0 hl) ?_
  refine lv_isub hx hb dJx4a65c_grow_92f84_23 ?_
  refine lv_topi (fun y_2 ey_2 => ?_)
  obtain rfl : y_2 = 1 := ey_2.trans (by rw [nI_sub (by omega), show n + 1 - n = 1 by omega]; rfl)
  refine lv_iload_n hx hb dJx4a65c_grow_92f84_24 rfl (lvA0 hl) ?_
  refine lv_iconst (v := 1) hx hb dJx4a65c_grow_92f84_25 kic_1 ?_
  refine lv_ishr hx hb dJx4a65c_grow_92f84_26 ?_
  refine lv_topi (fun y_3 ey_3 => ?_)
  obtain rfl : y_3 = (nI (n / 2)) := ey_3.trans (shr1 n (by omega))
  refine vp_callSi (runS_r (As := [.int (nI n), .int 1, .int (nI (n / 2))]) (rest := []) S (q_l_newLen l D cI cB cZ n (n / 2) (by omega) (by omega)) kS_RJx4a65c_73 hK hP [] rfl ⟨Nat.le_of_ble_eq_true rfl, Nat.le_of_ble_eq_true rfl⟩ ⟨Nat.le_of_ble_eq_true rfl, Nat.le_of_ble_eq_true rfl⟩ rfl hl.1 rfl (Nat.le_of_ble_eq_true rfl) dJx4a65c_grow_92f84_27) (fun r_4 h_5 => ?_)
  subst h_5
  refine lv_istore_n (lv' := [(3, .int (nI (n + max 1 (n / 2)))), (2, .int (nI n)), (0, .ref x), (1, .int (nI (n + 1)))]) hx hb dJx4a65c_grow_92f84_30 rfl hl (ltb rfl) rfl (fun ls hl => ?_)
  refine lv_aload_n hx hb dJx4a65c_grow_92f84_31 rfl (lvA2 hl) ?_
  refine lv_aload_n hx hb dJx4a65c_grow_92f84_32 rfl (lvA2 hl) ?_
  refine gf_RJx4a65c_9 S hK hP 0 rfl (v := .ref z) rfl dJx4a65c_grow_92f84_33 ?_
  refine lv_iload_n hx hb dJx4a65c_grow_92f84_36 rfl (lvA0 hl) ?_
  have hFc := free_all hD hS hA
  refine va_callq (runS_xa (As := [.ref z, .int (nI (n + max 1 (n / 2)))]) (rest := [.ref x]) S (q_l_cpo2L l D cI cB cZ zz qq vv bt (n + max 1 (n / 2)) x z n eo mc o e0 e1 e2 e3 e4 e5 e6 e7 e8 e9 ws s.heap.size (by omega) (by omega) hel) kS_RJx4a65c_66 hK hXS hS hFc hP hD ⟨Nat.le_of_ble_eq_true rfl, Nat.le_of_ble_eq_true rfl⟩ ⟨Nat.le_of_ble_eq_true rfl, Nat.le_of_ble_eq_true rfl⟩ rfl hl.1 rfl (Nat.le_of_ble_eq_true rfl) dJx4a65c_grow_92f84_37) hS (fun q _ h => hFc q h) hFc (fun r5 u5 t H1 locs ht hvm h5 hB1 hz1 hk1 hS => ?_)
  obtain ⟨hP1, hD1⟩ := hB1
  rw [ht] at hP1
  have hP : va_P D vwCl (([(u5, .inl (D.1 99, (n + max 1 (n / 2)), .inr (.inr (.inr (.inr (fun i => if i < n then some (o i) else none)))))), (x, .inr (0, [.int mc, .ref z, .int (nI n)])), (z, .inl (D.1 99, n, .inr (.inr (.inr (.inr (fun i => if i < n then some (o i) else none)))))), (eo, .inr (3, [.int e0, .int e1, .int e2, .int e3, .int e4, .int e5, .int e6, .int e7, .int e8, .int e9]))] : va_W) ++ ws) H1 := hP1
  have hD : va_D A (([(u5, .inl (D.1 99, (n + max 1 (n / 2)), .inr (.inr (.inr (.inr (fun i => if i < n then some (o i) else none)))))), (x, .inr (0, [.int mc, .ref z, .int (nI n)])), (z, .inl (D.1 99, n, .inr (.inr (.inr (.inr (fun i => if i < n then some (o i) else none)))))), (eo, .inr (3, [.int e0, .int e1, .int e2, .int e3, .int e4, .int e5, .int e6, .int e7, .int e8, .int e9]))] : va_W) ++ ws) := hD1.weaken (fun _ _ _ h => hFc _ h)
  generalize H1 = H at hP hS ⊢
  obtain ⟨hr5, h5⟩ := h5
  subst hr5
  refine lv_dup_x1 hx hb dJx4a65c_grow_92f84_40 rfl rfl ?_
  refine pf_RJx4a65c_9 S hK hP hD hS 1 rfl (v := .ref u5) (Nat.le_of_ble_eq_true rfl) rfl rfl dJx4a65c_grow_92f84_41 (fun H locs hP hD hS => ?_)
  have hP : va_P D vwCl (([(u5, .inl (D.1 99, (n + max 1 (n / 2)), .inr (.inr (.inr (.inr (fun i => if i < n then some (o i) else none)))))), (x, .inr (0, [.int mc, .ref u5, .int (nI n)])), (z, .inl (D.1 99, n, .inr (.inr (.inr (.inr (fun i => if i < n then some (o i) else none)))))), (eo, .inr (3, [.int e0, .int e1, .int e2, .int e3, .int e4, .int e5, .int e6, .int e7, .int e8, .int e9]))] : va_W) ++ ws) H := hP
  have hD : va_D A (([(u5, .inl (D.1 99, (n + max 1 (n / 2)), .inr (.inr (.inr (.inr (fun i => if i < n then some (o i) else none)))))), (x, .inr (0, [.int mc, .ref u5, .int (nI n)])), (z, .inl (D.1 99, n, .inr (.inr (.inr (.inr (fun i => if i < n then some (o i) else none)))))), (eo, .inr (3, [.int e0, .int e1, .int e2, .int e3, .int e4, .int e5, .int e6, .int e7, .int e8, .int e9]))] : va_W) ++ ws) := hD
  have hP : va_P D vwCl (([(x, .inr (0, [.int mc, .ref u5, .int (nI n)])), (u5, .inl (D.1 99, (n + max 1 (n / 2)), .inr (.inr (.inr (.inr (fun i => if i < n then some (o i) else none)))))), (eo, .inr (3, [.int e0, .int e1, .int e2, .int e3, .int e4, .int e5, .int e6, .int e7, .int e8, .int e9]))] : va_W) ++ ws) H := g_dropP hP
  have hD : va_D A (([(x, .inr (0, [.int mc, .ref u5, .int (nI n)])), (u5, .inl (D.1 99, (n + max 1 (n / 2)), .inr (.inr (.inr (.inr (fun i => if i < n then some (o i) else none)))))), (eo, .inr (3, [.int e0, .int e1, .int e2, .int e3, .int e4, .int e5, .int e6, .int e7, .int e8, .int e9]))] : va_W) ++ ws) := g_dropD hD
  exact W.aret (v := .ref u5) hx hb hr (by first | exact Or.inl ⟨_, rfl⟩ | exact Or.inr ⟨_, rfl⟩) (Or.inr ⟨_, rfl⟩) (fun t ht hW => ⟨⟨some u5, (u5, (n + max 1 (n / 2))), rfl, ⟨rfl, by omega, by omega⟩, by rw [ht]; exact hP, hD⟩, hS.F ht⟩) hS.2.2 dJx4a65c_grow_92f84_44
set_option maxRecDepth 100000 in
set_option maxHeartbeats 4000000 in
theorem q_l_gro0L (l : Launch) (D : va_G) (cI cB cZ : ClassId) (zz qq vv : Nat) (bt : Nat → Int32) (x z n eo : Nat) (mc : Int32) (o : Nat → Nat) (e0 e1 e2 e3 e4 e5 e6 e7 e8 e9 : Int32) (ws : va_W) (sz : Nat) (h0 : 0 < n) (h60 : n ≤ 60) (hel : ∀ i : Nat, i < n → ∃ fs : List Value, ((o i, .inr (3, fs)) : Nat × va_E) ∈ ((eo, .inr (3, [.int e0, .int e1, .int e2, .int e3, .int e4, .int e5, .int e6, .int e7, .int e8, .int e9])) : Nat × va_E) :: ws) : Met l yJx4a65c_grow_d5877 (CWS yJx4a65c_grow_d5877 cJx4a65c_grow_d5877 1 (some (.array (.object "java/lang/Object")))) (RM 5 1 100) (PBx [.ref x] D cI cB cZ zz qq vv bt (([(x, .inr (0, [.int mc, .ref z, .int (nI n)])), (z, .inl (D.1 99, n, .inr (.inr (.inr (.inr (fun i => if i < n then some (o i) else none)))))), (eo, .inr (3, [.int e0, .int e1, .int e2, .int e3, .int e4, .int e5, .int e6, .int e7, .int e8, .int e9]))] : va_W) ++ ws) sz) (va_Qq (fun (r : Option Nat) (u : Nat × Nat) => r = some u.1 ∧ (n < u.2 ∧ u.2 ≤ 100)) (fun (u : Nat × Nat) (t : State) => va_P D vwCl (([(x, .inr (0, [.int mc, .ref u.1, .int (nI n)])), (u.1, .inl (D.1 99, u.2, .inr (.inr (.inr (.inr (fun i => if i < n then some (o i) else none)))))), (eo, .inr (3, [.int e0, .int e1, .int e2, .int e3, .int e4, .int e5, .int e6, .int e7, .int e8, .int e9]))] : va_W) ++ ws) t.heap ∧ va_D (va_A (([(x, .inr (0, [.int mc, .ref z, .int (nI n)])), (z, .inl (D.1 99, n, .inr (.inr (.inr (.inr (fun i => if i < n then some (o i) else none)))))), (eo, .inr (3, [.int e0, .int e1, .int e2, .int e3, .int e4, .int e5, .int e6, .int e7, .int e8, .int e9]))] : va_W) ++ ws) sz) (([(x, .inr (0, [.int mc, .ref u.1, .int (nI n)])), (u.1, .inl (D.1 99, u.2, .inr (.inr (.inr (.inr (fun i => if i < n then some (o i) else none)))))), (eo, .inr (3, [.int e0, .int e1, .int e2, .int e3, .int e4, .int e5, .int e6, .int e7, .int e8, .int e9]))] : va_W) ++ ws)) (va_A (([(x, .inr (0, [.int mc, .ref z, .int (nI n)])), (z, .inl (D.1 99, n, .inr (.inr (.inr (.inr (fun i => if i < n then some (o i) else none)))))), (eo, .inr (3, [.int e0, .int e1, .int e2, .int e3, .int e4, .int e5, .int e6, .int e7, .int e8, .int e9]))] : va_W) ++ ws) sz)) 1 100 (va_A (([(x, .inr (0, [.int mc, .ref z, .int (nI n)])), (z, .inl (D.1 99, n, .inr (.inr (.inr (.inr (fun i => if i < n then some (o i) else none)))))), (eo, .inr (3, [.int e0, .int e1, .int e2, .int e3, .int e4, .int e5, .int e6, .int e7, .int e8, .int e9]))] : va_W) ++ ws) sz) := by
  refine en_x (fun A => (va_Qq (fun (r : Option Nat) (u : Nat × Nat) => r = some u.1 ∧ (n < u.2 ∧ u.2 ≤ 100)) (fun (u : Nat × Nat) (t : State) => va_P D vwCl (([(x, .inr (0, [.int mc, .ref u.1, .int (nI n)])), (u.1, .inl (D.1 99, u.2, .inr (.inr (.inr (.inr (fun i => if i < n then some (o i) else none)))))), (eo, .inr (3, [.int e0, .int e1, .int e2, .int e3, .int e4, .int e5, .int e6, .int e7, .int e8, .int e9]))] : va_W) ++ ws) t.heap ∧ va_D A (([(x, .inr (0, [.int mc, .ref u.1, .int (nI n)])), (u.1, .inl (D.1 99, u.2, .inr (.inr (.inr (.inr (fun i => if i < n then some (o i) else none)))))), (eo, .inr (3, [.int e0, .int e1, .int e2, .int e3, .int e4, .int e5, .int e6, .int e7, .int e8, .int e9]))] : va_W) ++ ws)) A)) rfl rfl pn_RJx4a65c (Nat.le_of_ble_eq_true rfl) (fun p e s m below meth c A hx hb hml hown S hr hlocks hnm hA hP hK hD hXS hS ls hl => ?_)
  have hP : va_P D vwCl (([(x, .inr (0, [.int mc, .ref z, .int (nI n)])), (z, .inl (D.1 99, n, .inr (.inr (.inr (.inr (fun i => if i < n then some (o i) else none)))))), (eo, .inr (3, [.int e0, .int e1, .int e2, .int e3, .int e4, .int e5, .int e6, .int e7, .int e8, .int e9]))] : va_W) ++ ws) s.heap := hP
  have hD : va_D A (([(x, .inr (0, [.int mc, .ref z, .int (nI n)])), (z, .inl (D.1 99, n, .inr (.inr (.inr (.inr (fun i => if i < n then some (o i) else none)))))), (eo, .inr (3, [.int e0, .int e1, .int e2, .int e3, .int e4, .int e5, .int e6, .int e7, .int e8, .int e9]))] : va_W) ++ ws) := hD
  have hl : lv_has ls 1 [(0, .ref x)] := hl
  refine lv_aload_n hx hb dJx4a65c_grow_d5877_0 rfl (lvA0 hl) ?_
  refine lv_aload_n hx hb dJx4a65c_grow_d5877_1 rfl (lvA0 hl) ?_
  refine gf_RJx4a65c_48 S hK hP 0 rfl (v := .int (nI n)) rfl dJx4a65c_grow_d5877_2 ?_
  refine lv_iconst (v := 1) hx hb dJx4a65c_grow_d5877_5 kic_1 ?_
  refine lv_iadd hx hb dJx4a65c_grow_d5877_6 ?_
  refine lv_topi (fun y_1 ey_1 => ?_)
  obtain rfl : y_1 = (nI (n + 1)) := ey_1.trans (nI_1 _)
  have hFc := free_all hD hS hA
  refine va_callq (runV_xa (As := [.int (nI (n + 1))]) (rest := []) S (q_l_gro1L l D cI cB cZ zz qq vv bt x z n eo mc o e0 e1 e2 e3 e4 e5 e6 e7 e8 e9 ws s.heap.size h0 h60 hel) kV_RJx4a65c_69 hK hXS hS hFc hP hD 0 rfl rfl rfl ⟨Nat.le_of_ble_eq_true rfl, Nat.le_of_ble_eq_true rfl⟩ ⟨Nat.le_of_ble_eq_true rfl, Nat.le_of_ble_eq_true rfl⟩ rfl hl.1 rfl (Nat.le_of_ble_eq_true rfl) dJx4a65c_grow_d5877_7) hS (fun q _ h => hFc q h) hFc (fun r1 u1 t H1 locs ht hvm h1 hB1 hz1 hk1 hS => ?_)
  obtain ⟨hP1, hD1⟩ := hB1
  rw [ht] at hP1
  obtain ⟨ua1, uc1⟩ := u1
  have hP : va_P D vwCl (([(x, .inr (0, [.int mc, .ref ua1, .int (nI n)])), (ua1, .inl (D.1 99, uc1, .inr (.inr (.inr (.inr (fun i => if i < n then some (o i) else none)))))), (eo, .inr (3, [.int e0, .int e1, .int e2, .int e3, .int e4, .int e5, .int e6, .int e7, .int e8, .int e9]))] : va_W) ++ ws) H1 := hP1
  have hD : va_D A (([(x, .inr (0, [.int mc, .ref ua1, .int (nI n)])), (ua1, .inl (D.1 99, uc1, .inr (.inr (.inr (.inr (fun i => if i < n then some (o i) else none)))))), (eo, .inr (3, [.int e0, .int e1, .int e2, .int e3, .int e4, .int e5, .int e6, .int e7, .int e8, .int e9]))] : va_W) ++ ws) := hD1.weaken (fun _ _ _ h => hFc _ h)
  generalize H1 = H at hP hS ⊢
  obtain ⟨hr1, h1⟩ := h1
  subst hr1
  exact W.aret (v := .ref ua1) hx hb hr (by first | exact Or.inl ⟨_, rfl⟩ | exact Or.inr ⟨_, rfl⟩) (Or.inr ⟨_, rfl⟩) (fun t ht hW => ⟨⟨some ua1, (ua1, uc1), rfl, ⟨rfl, h1⟩, by rw [ht]; exact hP, hD⟩, hS.F ht⟩) hS.2.2 dJx4a65c_grow_d5877_10
set_option maxRecDepth 100000 in
set_option maxHeartbeats 4000000 in
theorem q_l_ad3GL (l : Launch) (D : va_G) (cI cB cZ : ClassId) (zz qq vv : Nat) (bt : Nat → Int32) (c0 : Nat) (x z n eo : Nat) (mc : Int32) (o : Nat → Nat) (e0 e1 e2 e3 e4 e5 e6 e7 e8 e9 : Int32) (ws : va_W) (sz : Nat) (hn : n ≤ c0) (hc : c0 ≤ 100) (h0 : 0 < n) (h60 : n ≤ 60) (hel : ∀ i : Nat, i < n → ∃ fs : List Value, ((o i, .inr (3, fs)) : Nat × va_E) ∈ ((eo, .inr (3, [.int e0, .int e1, .int e2, .int e3, .int e4, .int e5, .int e6, .int e7, .int e8, .int e9])) : Nat × va_E) :: ws) : Met l yJx4a65c_add_72be8 (CWS yJx4a65c_add_72be8 cJx4a65c_add_72be8 4 none) (RM 6 1 100) (PBx [.ref x, .ref eo, .ref z, .int (nI n)] D cI cB cZ zz qq vv bt (([(x, .inr (0, [.int mc, .ref z, .int (nI n)])), (z, .inl (D.1 99, c0, .inr (.inr (.inr (.inr (fun i => if i < n then some (o i) else none)))))), (eo, .inr (3, [.int e0, .int e1, .int e2, .int e3, .int e4, .int e5, .int e6, .int e7, .int e8, .int e9]))] : va_W) ++ ws) sz) (va_Qv (fun (u : Nat × Nat) => (n < u.2 ∧ u.2 ≤ 100)) (fun (u : Nat × Nat) (t : State) => va_P D vwCl (([(x, .inr (0, [.int mc, .ref u.1, .int (nI (n + 1))])), (u.1, .inl (D.1 99, u.2, .inr (.inr (.inr (.inr (va_up (fun i => if i < n then some (o i) else none) n (some eo))))))), (eo, .inr (3, [.int e0, .int e1, .int e2, .int e3, .int e4, .int e5, .int e6, .int e7, .int e8, .int e9]))] : va_W) ++ ws) t.heap ∧ va_D (va_A (([(x, .inr (0, [.int mc, .ref z, .int (nI n)])), (z, .inl (D.1 99, c0, .inr (.inr (.inr (.inr (fun i => if i < n then some (o i) else none)))))), (eo, .inr (3, [.int e0, .int e1, .int e2, .int e3, .int e4, .int e5, .int e6, .int e7, .int e8, .int e9]))] : va_W) ++ ws) sz) (([(x, .inr (0, [.int mc, .ref u.1, .int (nI (n + 1))])), (u.1, .inl (D.1 99, u.2, .inr (.inr (.inr (.inr (va_up (fun i => if i < n then some (o i) else none) n (some eo))))))), (eo, .inr (3, [.int e0, .int e1, .int e2, .int e3, .int e4, .int e5, .int e6, .int e7, .int e8, .int e9]))] : va_W) ++ ws)) (va_A (([(x, .inr (0, [.int mc, .ref z, .int (nI n)])), (z, .inl (D.1 99, c0, .inr (.inr (.inr (.inr (fun i => if i < n then some (o i) else none)))))), (eo, .inr (3, [.int e0, .int e1, .int e2, .int e3, .int e4, .int e5, .int e6, .int e7, .int e8, .int e9]))] : va_W) ++ ws) sz)) 1 100 (va_A (([(x, .inr (0, [.int mc, .ref z, .int (nI n)])), (z, .inl (D.1 99, c0, .inr (.inr (.inr (.inr (fun i => if i < n then some (o i) else none)))))), (eo, .inr (3, [.int e0, .int e1, .int e2, .int e3, .int e4, .int e5, .int e6, .int e7, .int e8, .int e9]))] : va_W) ++ ws) sz) := by
  refine en_x (fun A => (va_Qv (fun (u : Nat × Nat) => (n < u.2 ∧ u.2 ≤ 100)) (fun (u : Nat × Nat) (t : State) => va_P D vwCl (([(x, .inr (0, [.int mc, .ref u.1, .int (nI (n + 1))])), (u.1, .inl (D.1 99, u.2, .inr (.inr (.inr (.inr (va_up (fun i => if i < n then some (o i) else none) n (some eo))))))), (eo, .inr (3, [.int e0, .int e1, .int e2, .int e3, .int e4, .int e5, .int e6, .int e7, .int e8, .int e9]))] : va_W) ++ ws) t.heap ∧ va_D A (([(x, .inr (0, [.int mc, .ref u.1, .int (nI (n + 1))])), (u.1, .inl (D.1 99, u.2, .inr (.inr (.inr (.inr (va_up (fun i => if i < n then some (o i) else none) n (some eo))))))), (eo, .inr (3, [.int e0, .int e1, .int e2, .int e3, .int e4, .int e5, .int e6, .int e7, .int e8, .int e9]))] : va_W) ++ ws)) A)) rfl rfl pn_RJx4a65c (Nat.le_of_ble_eq_true rfl) (fun p e s m below meth c A hx hb hml hown S hr hlocks hnm hA hP hK hD hXS hS ls hl => ?_)
  have hP : va_P D vwCl (([(x, .inr (0, [.int mc, .ref z, .int (nI n)])), (z, .inl (D.1 99, c0, .inr (.inr (.inr (.inr (fun i => if i < n then some (o i) else none)))))), (eo, .inr (3, [.int e0, .int e1, .int e2, .int e3, .int e4, .int e5, .int e6, .int e7, .int e8, .int e9]))] : va_W) ++ ws) s.heap := hP
  have hD : va_D A (([(x, .inr (0, [.int mc, .ref z, .int (nI n)])), (z, .inl (D.1 99, c0, .inr (.inr (.inr (.inr (fun i => if i < n then some (o i) else none)))))), (eo, .inr (3, [.int e0, .int e1, .int e2, .int e3, .int e4, .int e5, .int e6, .int e7, .int e8, .int e9]))] : va_W) ++ ws) := hD
  have hl : lv_has ls 4 [(0, .ref x), (1, .ref eo), (2, .ref z), (3, .int (nI n))] := hl
  have tn : (nI n).toInt = (n : Int) := nI_toInt (by omega)
  have tc : (nI c0).toInt = (c0 : Int) := nI_toInt (by omega)
  refine lv_iload_n hx hb dJx4a65c_add_72be8_0 rfl (lvA3 hl) ?_
  refine lv_aload_n hx hb dJx4a65c_add_72be8_1 rfl (lvA2 hl) ?_
  refine va_alen hx hb hXS.2.2.2.2.2.2.2.2.1 hP 1 0 rfl rfl (v := (nI c0)) rfl dJx4a65c_add_72be8_2 ?_
  refine lv_icmp_ne (tgt := 11) hx hb dJx4a65c_add_72be8_3 rfl (fun c_1 => ?_) (fun c_1 => ?_)
  ·
    have tc_1 : ((nI n).toInt : Int) ≠ (nI c0).toInt := fun q => c_1 (Int32.toInt_inj.mp q)
    refine lv_aload_n hx hb dJx4a65c_add_72be8_11 rfl (lvA2 hl) ?_
    refine lv_iload_n hx hb dJx4a65c_add_72be8_12 rfl (lvA3 hl) ?_
    refine lv_aload_n hx hb dJx4a65c_add_72be8_13 rfl (lvA1 hl) ?_
    have hca14 : va_Nw (.castable (RX2, TX2, 10).1 "java/lang/Object") s := hXS.2.2.2.2.2.2.2.2.2.2.2.2.1.1
    refine va_astqO (r := (RX2, TX2, 10)) (E := "java/lang/Object") (cA := D.1 99) hx hb hXS.2.2.2.2.2.2.2.2.1 hP hD hS 1 0 2 3 rfl rfl hca14 rfl rfl (vp_in_nI (by omega) (by omega)) dJx4a65c_add_72be8_14 (fun H locs hP hD hS => ?_)
    have hP : va_P D vwCl (([(x, .inr (0, [.int mc, .ref z, .int (nI n)])), (z, .inl (D.1 99, c0, .inr (.inr (.inr (.inr (va_up (fun i => if i < n then some (o i) else none) (nI n).toNatClampNeg (some eo))))))), (eo, .inr (3, [.int e0, .int e1, .int e2, .int e3, .int e4, .int e5, .int e6, .int e7, .int e8, .int e9]))] : va_W) ++ ws) H := hP
    have hD : va_D A (([(x, .inr (0, [.int mc, .ref z, .int (nI n)])), (z, .inl (D.1 99, c0, .inr (.inr (.inr (.inr (va_up (fun i => if i < n then some (o i) else none) (nI n).toNatClampNeg (some eo))))))), (eo, .inr (3, [.int e0, .int e1, .int e2, .int e3, .int e4, .int e5, .int e6, .int e7, .int e8, .int e9]))] : va_W) ++ ws) := hD
    rw [nI_clamp (by omega)] at hP hD
    have hP : va_P D vwCl (([(x, .inr (0, [.int mc, .ref z, .int (nI n)])), (z, .inl (D.1 99, c0, .inr (.inr (.inr (.inr (va_up (fun i => if i < n then some (o i) else none) n (some eo))))))), (eo, .inr (3, [.int e0, .int e1, .int e2, .int e3, .int e4, .int e5, .int e6, .int e7, .int e8, .int e9]))] : va_W) ++ ws) H := hP
    have hD : va_D A (([(x, .inr (0, [.int mc, .ref z, .int (nI n)])), (z, .inl (D.1 99, c0, .inr (.inr (.inr (.inr (va_up (fun i => if i < n then some (o i) else none) n (some eo))))))), (eo, .inr (3, [.int e0, .int e1, .int e2, .int e3, .int e4, .int e5, .int e6, .int e7, .int e8, .int e9]))] : va_W) ++ ws) := hD
    refine lv_aload_n hx hb dJx4a65c_add_72be8_15 rfl (lvA0 hl) ?_
    refine lv_iload_n hx hb dJx4a65c_add_72be8_16 rfl (lvA3 hl) ?_
    refine lv_iconst (v := 1) hx hb dJx4a65c_add_72be8_17 kic_1 ?_
    refine lv_iadd hx hb dJx4a65c_add_72be8_18 ?_
    refine lv_topi (fun y_2 ey_2 => ?_)
    obtain rfl : y_2 = (nI (n + 1)) := ey_2.trans (nI_1 _)
    refine pf_RJx4a65c_48 S hK hP hD hS 0 rfl (v := .int (nI (n + 1))) (Nat.le_of_ble_eq_true rfl) rfl rfl dJx4a65c_add_72be8_19 (fun H locs hP hD hS => ?_)
    have hP : va_P D vwCl (([(x, .inr (0, [.int mc, .ref z, .int (nI (n + 1))])), (z, .inl (D.1 99, c0, .inr (.inr (.inr (.inr (va_up (fun i => if i < n then some (o i) else none) n (some eo))))))), (eo, .inr (3, [.int e0, .int e1, .int e2, .int e3, .int e4, .int e5, .int e6, .int e7, .int e8, .int e9]))] : va_W) ++ ws) H := hP
    have hD : va_D A (([(x, .inr (0, [.int mc, .ref z, .int (nI (n + 1))])), (z, .inl (D.1 99, c0, .inr (.inr (.inr (.inr (va_up (fun i => if i < n then some (o i) else none) n (some eo))))))), (eo, .inr (3, [.int e0, .int e1, .int e2, .int e3, .int e4, .int e5, .int e6, .int e7, .int e8, .int e9]))] : va_W) ++ ws) := hD
    refine W.widen (k := 1) (n := 100) (by omega) (by omega) ?_
    exact W.vret hx hb hr (fun t ht hW => ⟨⟨(z, c0), rfl, ⟨by omega, by omega⟩, by rw [ht]; exact hP, hD⟩, hS.F ht⟩) hS.2.2 dJx4a65c_add_72be8_22
  ·
    have tc_1 : ((nI n).toInt : Int) = (nI c0).toInt := congrArg Int32.toInt c_1
    obtain rfl : n = c0 := by omega
    refine lv_aload_n hx hb dJx4a65c_add_72be8_6 rfl (lvA0 hl) ?_
    have hFc := free_all hD hS hA
    refine va_callq (runV_xa (As := []) (rest := []) S (q_l_gro0L l D cI cB cZ zz qq vv bt x z n eo mc o e0 e1 e2 e3 e4 e5 e6 e7 e8 e9 ws s.heap.size h0 h60 hel) kV_RJx4a65c_129 hK hXS hS hFc hP hD 0 rfl rfl rfl ⟨Nat.le_of_ble_eq_true rfl, Nat.le_of_ble_eq_true rfl⟩ ⟨Nat.le_of_ble_eq_true rfl, Nat.le_of_ble_eq_true rfl⟩ rfl hl.1 rfl (Nat.le_of_ble_eq_true rfl) dJx4a65c_add_72be8_7) hS (fun q _ h => hFc q h) hFc (fun r2 u2 t H1 locs ht hvm h2 hB1 hz1 hk1 hS => ?_)
    obtain ⟨hP1, hD1⟩ := hB1
    rw [ht] at hP1
    obtain ⟨ua2, uc2⟩ := u2
    have hP : va_P D vwCl (([(x, .inr (0, [.int mc, .ref ua2, .int (nI n)])), (ua2, .inl (D.1 99, uc2, .inr (.inr (.inr (.inr (fun i => if i < n then some (o i) else none)))))), (eo, .inr (3, [.int e0, .int e1, .int e2, .int e3, .int e4, .int e5, .int e6, .int e7, .int e8, .int e9]))] : va_W) ++ ws) H1 := hP1
    have hD : va_D A (([(x, .inr (0, [.int mc, .ref ua2, .int (nI n)])), (ua2, .inl (D.1 99, uc2, .inr (.inr (.inr (.inr (fun i => if i < n then some (o i) else none)))))), (eo, .inr (3, [.int e0, .int e1, .int e2, .int e3, .int e4, .int e5, .int e6, .int e7, .int e8, .int e9]))] : va_W) ++ ws) := hD1.weaken (fun _ _ _ h => hFc _ h)
    generalize H1 = H at hP hS ⊢
    obtain ⟨hr2, h2⟩ := h2
    subst hr2
    refine lv_astore_n (lv' := [(2, .ref ua2), (0, .ref x), (1, .ref eo), (3, .int (nI n))]) hx hb dJx4a65c_add_72be8_10 rfl hl (ltb rfl) rfl (fun ls hl => ?_)
    refine lv_aload_n hx hb dJx4a65c_add_72be8_11 rfl (lvA0 hl) ?_
    refine lv_iload_n hx hb dJx4a65c_add_72be8_12 rfl (lvA3 hl) ?_
    refine lv_aload_n hx hb dJx4a65c_add_72be8_13 rfl (lvA2 hl) ?_
    have hca14 : va_Nw (.castable (RX2, TX2, 10).1 "java/lang/Object") s := hXS.2.2.2.2.2.2.2.2.2.2.2.2.1.1
    refine va_astqO (r := (RX2, TX2, 10)) (E := "java/lang/Object") (cA := D.1 99) hx hb hXS.2.2.2.2.2.2.2.2.1 hP hD hS 1 0 2 3 rfl rfl hca14 rfl rfl (vp_in_nI (by omega) (by omega)) dJx4a65c_add_72be8_14 (fun H locs hP hD hS => ?_)
    have hP : va_P D vwCl (([(x, .inr (0, [.int mc, .ref ua2, .int (nI n)])), (ua2, .inl (D.1 99, uc2, .inr (.inr (.inr (.inr (va_up (fun i => if i < n then some (o i) else none) (nI n).toNatClampNeg (some eo))))))), (eo, .inr (3, [.int e0, .int e1, .int e2, .int e3, .int e4, .int e5, .int e6, .int e7, .int e8, .int e9]))] : va_W) ++ ws) H := hP
    have hD : va_D A (([(x, .inr (0, [.int mc, .ref ua2, .int (nI n)])), (ua2, .inl (D.1 99, uc2, .inr (.inr (.inr (.inr (va_up (fun i => if i < n then some (o i) else none) (nI n).toNatClampNeg (some eo))))))), (eo, .inr (3, [.int e0, .int e1, .int e2, .int e3, .int e4, .int e5, .int e6, .int e7, .int e8, .int e9]))] : va_W) ++ ws) := hD
    rw [nI_clamp (by omega)] at hP hD
    have hP : va_P D vwCl (([(x, .inr (0, [.int mc, .ref ua2, .int (nI n)])), (ua2, .inl (D.1 99, uc2, .inr (.inr (.inr (.inr (va_up (fun i => if i < n then some (o i) else none) n (some eo))))))), (eo, .inr (3, [.int e0, .int e1, .int e2, .int e3, .int e4, .int e5, .int e6, .int e7, .int e8, .int e9]))] : va_W) ++ ws) H := hP
    have hD : va_D A (([(x, .inr (0, [.int mc, .ref ua2, .int (nI n)])), (ua2, .inl (D.1 99, uc2, .inr (.inr (.inr (.inr (va_up (fun i => if i < n then some (o i) else none) n (some eo))))))), (eo, .inr (3, [.int e0, .int e1, .int e2, .int e3, .int e4, .int e5, .int e6, .int e7, .int e8, .int e9]))] : va_W) ++ ws) := hD
    refine lv_aload_n hx hb dJx4a65c_add_72be8_15 rfl (lvA1 hl) ?_
    refine lv_iload_n hx hb dJx4a65c_add_72be8_16 rfl (lvA3 hl) ?_
    refine lv_iconst (v := 1) hx hb dJx4a65c_add_72be8_17 kic_1 ?_
    refine lv_iadd hx hb dJx4a65c_add_72be8_18 ?_
    refine lv_topi (fun y_4 ey_4 => ?_)
    obtain rfl : y_4 = (nI (n + 1)) := ey_4.trans (nI_1 _)
    refine pf_RJx4a65c_48 S hK hP hD hS 0 rfl (v := .int (nI (n + 1))) (Nat.le_of_ble_eq_true rfl) rfl rfl dJx4a65c_add_72be8_19 (fun H locs hP hD hS => ?_)
    have hP : va_P D vwCl (([(x, .inr (0, [.int mc, .ref ua2, .int (nI (n + 1))])), (ua2, .inl (D.1 99, uc2, .inr (.inr (.inr (.inr (va_up (fun i => if i < n then some (o i) else none) n (some eo))))))), (eo, .inr (3, [.int e0, .int e1, .int e2, .int e3, .int e4, .int e5, .int e6, .int e7, .int e8, .int e9]))] : va_W) ++ ws) H := hP
    have hD : va_D A (([(x, .inr (0, [.int mc, .ref ua2, .int (nI (n + 1))])), (ua2, .inl (D.1 99, uc2, .inr (.inr (.inr (.inr (va_up (fun i => if i < n then some (o i) else none) n (some eo))))))), (eo, .inr (3, [.int e0, .int e1, .int e2, .int e3, .int e4, .int e5, .int e6, .int e7, .int e8, .int e9]))] : va_W) ++ ws) := hD
    exact W.vret hx hb hr (fun t ht hW => ⟨⟨(ua2, uc2), rfl, h2, by rw [ht]; exact hP, hD⟩, hS.F ht⟩) hS.2.2 dJx4a65c_add_72be8_22
set_option maxRecDepth 100000 in
set_option maxHeartbeats 4000000 in
theorem q_l_addGL (l : Launch) (D : va_G) (cI cB cZ : ClassId) (zz qq vv : Nat) (bt : Nat → Int32) (c0 : Nat) (x z n eo : Nat) (mc : Int32) (o : Nat → Nat) (e0 e1 e2 e3 e4 e5 e6 e7 e8 e9 : Int32) (ws : va_W) (sz : Nat) (hn : n ≤ c0) (hc : c0 ≤ 100) (h0 : 0 < n) (h60 : n ≤ 60) (hel : ∀ i : Nat, i < n → ∃ fs : List Value, ((o i, .inr (3, fs)) : Nat × va_E) ∈ ((eo, .inr (3, [.int e0, .int e1, .int e2, .int e3, .int e4, .int e5, .int e6, .int e7, .int e8, .int e9])) : Nat × va_E) :: ws) : Met l yJx4a65c_add_9ea2d (CWS yJx4a65c_add_9ea2d cJx4a65c_add_9ea2d 2 (some .boolean)) (RM 7 1 100) (PBx [.ref x, .ref eo] D cI cB cZ zz qq vv bt (([(x, .inr (0, [.int mc, .ref z, .int (nI n)])), (z, .inl (D.1 99, c0, .inr (.inr (.inr (.inr (fun i => if i < n then some (o i) else none)))))), (eo, .inr (3, [.int e0, .int e1, .int e2, .int e3, .int e4, .int e5, .int e6, .int e7, .int e8, .int e9]))] : va_W) ++ ws) sz) (va_Qi (fun (r : Int32) (u : Nat × Nat) => r = 1 ∧ (n < u.2 ∧ u.2 ≤ 100)) (fun (u : Nat × Nat) (t : State) => va_P D vwCl (([(x, .inr (0, [.int (mc + 1), .ref u.1, .int (nI (n + 1))])), (u.1, .inl (D.1 99, u.2, .inr (.inr (.inr (.inr (va_up (fun i => if i < n then some (o i) else none) n (some eo))))))), (eo, .inr (3, [.int e0, .int e1, .int e2, .int e3, .int e4, .int e5, .int e6, .int e7, .int e8, .int e9]))] : va_W) ++ ws) t.heap ∧ va_D (va_A (([(x, .inr (0, [.int mc, .ref z, .int (nI n)])), (z, .inl (D.1 99, c0, .inr (.inr (.inr (.inr (fun i => if i < n then some (o i) else none)))))), (eo, .inr (3, [.int e0, .int e1, .int e2, .int e3, .int e4, .int e5, .int e6, .int e7, .int e8, .int e9]))] : va_W) ++ ws) sz) (([(x, .inr (0, [.int (mc + 1), .ref u.1, .int (nI (n + 1))])), (u.1, .inl (D.1 99, u.2, .inr (.inr (.inr (.inr (va_up (fun i => if i < n then some (o i) else none) n (some eo))))))), (eo, .inr (3, [.int e0, .int e1, .int e2, .int e3, .int e4, .int e5, .int e6, .int e7, .int e8, .int e9]))] : va_W) ++ ws)) (va_A (([(x, .inr (0, [.int mc, .ref z, .int (nI n)])), (z, .inl (D.1 99, c0, .inr (.inr (.inr (.inr (fun i => if i < n then some (o i) else none)))))), (eo, .inr (3, [.int e0, .int e1, .int e2, .int e3, .int e4, .int e5, .int e6, .int e7, .int e8, .int e9]))] : va_W) ++ ws) sz)) 1 100 (va_A (([(x, .inr (0, [.int mc, .ref z, .int (nI n)])), (z, .inl (D.1 99, c0, .inr (.inr (.inr (.inr (fun i => if i < n then some (o i) else none)))))), (eo, .inr (3, [.int e0, .int e1, .int e2, .int e3, .int e4, .int e5, .int e6, .int e7, .int e8, .int e9]))] : va_W) ++ ws) sz) := by
  refine en_x (fun A => (va_Qi (fun (r : Int32) (u : Nat × Nat) => r = 1 ∧ (n < u.2 ∧ u.2 ≤ 100)) (fun (u : Nat × Nat) (t : State) => va_P D vwCl (([(x, .inr (0, [.int (mc + 1), .ref u.1, .int (nI (n + 1))])), (u.1, .inl (D.1 99, u.2, .inr (.inr (.inr (.inr (va_up (fun i => if i < n then some (o i) else none) n (some eo))))))), (eo, .inr (3, [.int e0, .int e1, .int e2, .int e3, .int e4, .int e5, .int e6, .int e7, .int e8, .int e9]))] : va_W) ++ ws) t.heap ∧ va_D A (([(x, .inr (0, [.int (mc + 1), .ref u.1, .int (nI (n + 1))])), (u.1, .inl (D.1 99, u.2, .inr (.inr (.inr (.inr (va_up (fun i => if i < n then some (o i) else none) n (some eo))))))), (eo, .inr (3, [.int e0, .int e1, .int e2, .int e3, .int e4, .int e5, .int e6, .int e7, .int e8, .int e9]))] : va_W) ++ ws)) A)) rfl rfl pn_RJx4a65c (Nat.le_of_ble_eq_true rfl) (fun p e s m below meth c A hx hb hml hown S hr hlocks hnm hA hP hK hD hXS hS ls hl => ?_)
  have hP : va_P D vwCl (([(x, .inr (0, [.int mc, .ref z, .int (nI n)])), (z, .inl (D.1 99, c0, .inr (.inr (.inr (.inr (fun i => if i < n then some (o i) else none)))))), (eo, .inr (3, [.int e0, .int e1, .int e2, .int e3, .int e4, .int e5, .int e6, .int e7, .int e8, .int e9]))] : va_W) ++ ws) s.heap := hP
  have hD : va_D A (([(x, .inr (0, [.int mc, .ref z, .int (nI n)])), (z, .inl (D.1 99, c0, .inr (.inr (.inr (.inr (fun i => if i < n then some (o i) else none)))))), (eo, .inr (3, [.int e0, .int e1, .int e2, .int e3, .int e4, .int e5, .int e6, .int e7, .int e8, .int e9]))] : va_W) ++ ws) := hD
  have hl : lv_has ls 2 [(0, .ref x), (1, .ref eo)] := hl
  refine lv_aload_n hx hb dJx4a65c_add_9ea2d_0 rfl (lvA0 hl) ?_
  refine lv_dup hx hb dJx4a65c_add_9ea2d_1 rfl ?_
  refine gf_RJx4a65c_63 S hK hP 0 rfl (v := .int mc) rfl dJx4a65c_add_9ea2d_2 ?_
  refine lv_iconst (v := 1) hx hb dJx4a65c_add_9ea2d_5 kic_1 ?_
  refine lv_iadd hx hb dJx4a65c_add_9ea2d_6 ?_
  refine pf_RJx4a65c_63 S hK hP hD hS 0 rfl (v := .int (mc + 1)) (Nat.le_of_ble_eq_true rfl) rfl rfl dJx4a65c_add_9ea2d_7 (fun H locs hP hD hS => ?_)
  have hP : va_P D vwCl (([(x, .inr (0, [.int (mc + 1), .ref z, .int (nI n)])), (z, .inl (D.1 99, c0, .inr (.inr (.inr (.inr (fun i => if i < n then some (o i) else none)))))), (eo, .inr (3, [.int e0, .int e1, .int e2, .int e3, .int e4, .int e5, .int e6, .int e7, .int e8, .int e9]))] : va_W) ++ ws) H := hP
  have hD : va_D A (([(x, .inr (0, [.int (mc + 1), .ref z, .int (nI n)])), (z, .inl (D.1 99, c0, .inr (.inr (.inr (.inr (fun i => if i < n then some (o i) else none)))))), (eo, .inr (3, [.int e0, .int e1, .int e2, .int e3, .int e4, .int e5, .int e6, .int e7, .int e8, .int e9]))] : va_W) ++ ws) := hD
  refine lv_aload_n hx hb dJx4a65c_add_9ea2d_10 rfl (lvA0 hl) ?_
  refine lv_aload_n hx hb dJx4a65c_add_9ea2d_11 rfl (lvA1 hl) ?_
  refine lv_aload_n hx hb dJx4a65c_add_9ea2d_12 rfl (lvA0 hl) ?_
  refine gf_RJx4a65c_9 S hK hP 0 rfl (v := .ref z) rfl dJx4a65c_add_9ea2d_13 ?_
  refine lv_aload_n hx hb dJx4a65c_add_9ea2d_16 rfl (lvA0 hl) ?_
  refine gf_RJx4a65c_48 S hK hP 0 rfl (v := .int (nI n)) rfl dJx4a65c_add_9ea2d_17 ?_
  have hFc := free_all hD hS hA
  refine va_callv (runV_xa (As := [.ref eo, .ref z, .int (nI n)]) (rest := []) S (q_l_ad3GL l D cI cB cZ zz qq vv bt c0 x z n eo (mc + 1) o e0 e1 e2 e3 e4 e5 e6 e7 e8 e9 ws H.size hn hc h0 h60 hel) kV_RJx4a65c_131 hK hXS hS hFc hP hD 0 rfl rfl rfl ⟨Nat.le_of_ble_eq_true rfl, Nat.le_of_ble_eq_true rfl⟩ ⟨Nat.le_of_ble_eq_true rfl, Nat.le_of_ble_eq_true rfl⟩ rfl hl.1 rfl (Nat.le_of_ble_eq_true rfl) dJx4a65c_add_9ea2d_20) hS (fun q _ h => hFc q h) hFc (fun u0 t H1 locs ht hvm h0 hB1 hz1 hk1 hS => ?_)
  obtain ⟨hP1, hD1⟩ := hB1
  rw [ht] at hP1
  obtain ⟨ua0, uc0⟩ := u0
  have hP : va_P D vwCl (([(x, .inr (0, [.int (mc + 1), .ref ua0, .int (nI (n + 1))])), (ua0, .inl (D.1 99, uc0, .inr (.inr (.inr (.inr (va_up (fun i => if i < n then some (o i) else none) n (some eo))))))), (eo, .inr (3, [.int e0, .int e1, .int e2, .int e3, .int e4, .int e5, .int e6, .int e7, .int e8, .int e9]))] : va_W) ++ ws) H1 := hP1
  have hD : va_D A (([(x, .inr (0, [.int (mc + 1), .ref ua0, .int (nI (n + 1))])), (ua0, .inl (D.1 99, uc0, .inr (.inr (.inr (.inr (va_up (fun i => if i < n then some (o i) else none) n (some eo))))))), (eo, .inr (3, [.int e0, .int e1, .int e2, .int e3, .int e4, .int e5, .int e6, .int e7, .int e8, .int e9]))] : va_W) ++ ws) := hD1.weaken (fun _ _ _ h => hFc _ h)
  generalize H1 = H at hP hS ⊢
  refine lv_iconst (v := 1) hx hb dJx4a65c_add_9ea2d_23 kic_1 ?_
  exact W.zret (v := 1) hx hb hr rfl (fun t ht hW => ⟨⟨1, (ua0, uc0), rfl, ⟨rfl, h0⟩, by rw [ht]; exact hP, hD⟩, hS.F ht⟩) hS.2.2 dJx4a65c_add_9ea2d_24
set_option maxRecDepth 100000 in
set_option maxHeartbeats 4000000 in
theorem q_l_cpo3B (l : Launch) (D : va_G) (cI cB cZ : ClassId) (zz qq vv : Nat) (bt : Nat → Int32) (c1 mi : Nat) (x z n eo : Nat) (mc : Int32) (o : Nat → Nat) (e1 e2 e3 e4 e5 e6 e7 : Int32) (w : Nat) (ws : va_W) (sz : Nat) (hc : n < c1) (h100 : c1 ≤ 100) (hel : ∀ i : Nat, i < n → ∃ fs : List Value, ((o i, .inr (1, fs)) : Nat × va_E) ∈ ((eo, .inr (1, [.ref w, .int e1, .int e2, .int e3, .int e4, .int e5, .int e6, .int e7])) : Nat × va_E) :: ws) : Met l yJ7_copyOf_6403c (CWS yJ7_copyOf_6403c cJ7_copyOf_6403c 4 (some (.array (.object "java/lang/Object")))) (RM 2 1 100) (PBm mi [.ref z, .int (nI c1), .ref mi] D cI cB cZ zz qq vv bt (([(x, .inr (0, [.int mc, .ref z, .int (nI n)])), (z, .inl (D.1 99, n, .inr (.inr (.inr (.inr (fun i => if i < n then some (o i) else none)))))), (eo, .inr (1, [.ref w, .int e1, .int e2, .int e3, .int e4, .int e5, .int e6, .int e7]))] : va_W) ++ ws) sz) (va_Qq (fun (r : Option Nat) (u : Nat) => r = some u ∧ True) (fun (u : Nat) (t : State) => va_P D vwCl (([(u, .inl (D.1 99, c1, .inr (.inr (.inr (.inr (fun i => if i < n then some (o i) else none)))))), (x, .inr (0, [.int mc, .ref z, .int (nI n)])), (z, .inl (D.1 99, n, .inr (.inr (.inr (.inr (fun i => if i < n then some (o i) else none)))))), (eo, .inr (1, [.ref w, .int e1, .int e2, .int e3, .int e4, .int e5, .int e6, .int e7]))] : va_W) ++ ws) t.heap ∧ va_D (va_A (([(x, .inr (0, [.int mc, .ref z, .int (nI n)])), (z, .inl (D.1 99, n, .inr (.inr (.inr (.inr (fun i => if i < n then some (o i) else none)))))), (eo, .inr (1, [.ref w, .int e1, .int e2, .int e3, .int e4, .int e5, .int e6, .int e7]))] : va_W) ++ ws) sz) (([(u, .inl (D.1 99, c1, .inr (.inr (.inr (.inr (fun i => if i < n then some (o i) else none)))))), (x, .inr (0, [.int mc, .ref z, .int (nI n)])), (z, .inl (D.1 99, n, .inr (.inr (.inr (.inr (fun i => if i < n then some (o i) else none)))))), (eo, .inr (1, [.ref w, .int e1, .int e2, .int e3, .int e4, .int e5, .int e6, .int e7]))] : va_W) ++ ws)) (va_A (([(x, .inr (0, [.int mc, .ref z, .int (nI n)])), (z, .inl (D.1 99, n, .inr (.inr (.inr (.inr (fun i => if i < n then some (o i) else none)))))), (eo, .inr (1, [.ref w, .int e1, .int e2, .int e3, .int e4, .int e5, .int e6, .int e7]))] : va_W) ++ ws) sz)) 1 100 (va_A (([(x, .inr (0, [.int mc, .ref z, .int (nI n)])), (z, .inl (D.1 99, n, .inr (.inr (.inr (.inr (fun i => if i < n then some (o i) else none)))))), (eo, .inr (1, [.ref w, .int e1, .int e2, .int e3, .int e4, .int e5, .int e6, .int e7]))] : va_W) ++ ws) sz) := by
  refine Met.ofW (cc := cJ7_copyOf_6403c) (maxL := 4) (ret := (some (.array (.object "java/lang/Object")))) (by decide) rfl ?_
  intro p e s m args below meth c s₁ B hml hv
  obtain ⟨rfl, hsz, hP, hK, hD0, hXS, hMi⟩ := hv
  have hx := B.exec
  have hb := B.bytes
  have hr := B.returns
  have hts := atoms_spec (ws := (CWS yJ7_copyOf_6403c cJ7_copyOf_6403c 4 (some (.array (.object "java/lang/Object"))))) B.pre
  have hown : s.vm.findClass RJ7 = some m.cls := findClass_of_methodNamed B.named
  have hlocks := B.notSynchronized
  have S : SF p m c cJ7_copyOf_6403c 4 s ([.ref z, .int (nI c1), .ref mi]).toArray RJ7 := ⟨hx, hb, hml, hown, fun w h => hts w (List.mem_cons_of_mem _ h)⟩
  subst hsz
  have hD := hD0.self (sz := s.heap.size)
  generalize hAe : va_A (([(x, .inr (0, [.int mc, .ref z, .int (nI n)])), (z, .inl (D.1 99, n, .inr (.inr (.inr (.inr (fun i => if i < n then some (o i) else none)))))), (eo, .inr (1, [.ref w, .int e1, .int e2, .int e3, .int e4, .int e5, .int e6, .int e7]))] : va_W) ++ ws) s.heap.size = A at hD hXS ⊢
  have hA : ∀ q : Nat, s.heap.size ≤ q → A q := fun q h => by rw [← hAe]; exact Or.inr h
  have hS : va_S A s.heap s.heap [] := va_S.rf
  have hP : va_P D vwCl (([(x, .inr (0, [.int mc, .ref z, .int (nI n)])), (z, .inl (D.1 99, n, .inr (.inr (.inr (.inr (fun i => if i < n then some (o i) else none)))))), (eo, .inr (1, [.ref w, .int e1, .int e2, .int e3, .int e4, .int e5, .int e6, .int e7]))] : va_W) ++ ws) s.heap := hP
  have hD : va_D A (([(x, .inr (0, [.int mc, .ref z, .int (nI n)])), (z, .inl (D.1 99, n, .inr (.inr (.inr (.inr (fun i => if i < n then some (o i) else none)))))), (eo, .inr (1, [.ref w, .int e1, .int e2, .int e3, .int e4, .int e5, .int e6, .int e7]))] : va_W) ++ ws) := hD
  have hl := lv_entry ([.ref z, .int (nI c1), .ref mi]) (n := 4) (Nat.le_of_ble_eq_true rfl)
  rw [lg_entry_eq]
  generalize (lg_sl ([.ref z, .int (nI c1), .ref mi]) ++ List.replicate (4 - (lg_sl ([.ref z, .int (nI c1), .ref mi])).length) Slot.unset).toArray = ls at hl ⊢
  have hl : lv_has ls 4 [(0, .ref z), (1, .int (nI c1)), (2, .ref mi)] := hl
  refine lv_aload_n hx hb dJ7_copyOf_6403c_0 rfl (lvA2 hl) ?_
  refine va_ldcM hx hb hown (S.2.2.2.2 _ (wk2_13 6 rfl rfl)) hMi dJ7_copyOf_6403c_1 ?_
  refine lv_acmp_ne (rx := some mi) (ry := some mi) (tgt := 13) hx hb dJ7_copyOf_6403c_3 (by decide) (fun h => absurd rfl h) (fun _ => ?_)
  refine lv_iload_n hx hb dJ7_copyOf_6403c_6 rfl (lvA1 hl) ?_
  refine newq_obj S hXS hK hP hD hS hA (N' := c1) (wk2_13 8 rfl rfl) (nI_nn (by omega)) (nI_clamp (by omega)) (by omega) (Nat.le_of_ble_eq_true rfl) (by show 0 + c1 ≤ 100; omega) dJ7_copyOf_6403c_7 (fun q7 H hP hD hS => ?_)
  refine W.widen (k := 1) (n := 100) (Nat.le_of_ble_eq_true rfl) (by omega) ?_
  have hP : va_P D vwCl (([(q7, .inl (D.1 99, c1, .inr (.inr (.inr (.inr (fun _ => none)))))), (x, .inr (0, [.int mc, .ref z, .int (nI n)])), (z, .inl (D.1 99, n, .inr (.inr (.inr (.inr (fun i => if i < n then some (o i) else none)))))), (eo, .inr (1, [.ref w, .int e1, .int e2, .int e3, .int e4, .int e5, .int e6, .int e7]))] : va_W) ++ ws) H := va_P_perm g_rot hP
  have hD : va_D A (([(q7, .inl (D.1 99, c1, .inr (.inr (.inr (.inr (fun _ => none)))))), (x, .inr (0, [.int mc, .ref z, .int (nI n)])), (z, .inl (D.1 99, n, .inr (.inr (.inr (.inr (fun i => if i < n then some (o i) else none)))))), (eo, .inr (1, [.ref w, .int e1, .int e2, .int e3, .int e4, .int e5, .int e6, .int e7]))] : va_W) ++ ws) := va_D_perm g_rot hD
  refine lv_goto (tgt := 24) hx hb dJ7_copyOf_6403c_10 rfl ?_
  refine lv_astore_n (lv' := [(3, .ref q7), (0, .ref z), (1, .int (nI c1)), (2, .ref mi)]) hx hb dJ7_copyOf_6403c_24 rfl hl (ltb rfl) rfl (fun ls hl => ?_)
  refine lv_aload_n hx hb dJ7_copyOf_6403c_25 rfl (lvA1 hl) ?_
  refine lv_iconst (v := 0) hx hb dJ7_copyOf_6403c_26 kic_0 ?_
  refine lv_aload_n hx hb dJ7_copyOf_6403c_27 rfl (lvA0 hl) ?_
  refine lv_iconst (v := 0) hx hb dJ7_copyOf_6403c_28 kic_0 ?_
  refine lv_aload_n hx hb dJ7_copyOf_6403c_29 rfl (lvA1 hl) ?_
  refine va_alen hx hb hXS.2.2.2.2.2.2.2.2.1 hP 2 0 rfl rfl (v := (nI n)) rfl dJ7_copyOf_6403c_30 ?_
  refine lv_iload_n hx hb dJ7_copyOf_6403c_31 rfl (lvA2 hl) ?_
  refine va_mmin hx hb (by rw [hml]; exact hl.1.symm) hown (S.2.2.2.2 _ (wk2_13 9 rfl rfl)) (S.2.2.2.2 _ (wk2_13 10 rfl rfl)) (S.2.2.2.2 _ (wk1_0 3 rfl rfl)) (S.2.2.2.2 _ (wk2_13 11 rfl rfl)) (Nat.le_of_ble_eq_true rfl) (Nat.le_of_ble_eq_true rfl) (Nat.le_of_ble_eq_true rfl) (Nat.le_of_ble_eq_true rfl) dJ7_copyOf_6403c_32 ?_
  refine lv_topi (fun y_1 ey_1 => ?_)
  obtain rfl : y_1 = (nI n) := ey_1.trans (min_le (by omega) (by omega))
  have hel9 : ∀ i : Nat, i < ((nI n) : Int32).toNatClampNeg → ∀ y : Nat, (fun i => if i < n then some (o i) else none) ((0 : Int32).toNatClampNeg + i) = some y → ∃ cellV : Cell, H[y]? = some cellV ∧ cellV.vm.isStatics = false ∧ s.vm.findClass "OilHome$Batch" = some cellV.cls := by
    intro i hi y hy
    rw [nI_clamp (by omega)] at hi
    have hy : (if 0 + i < n then some (o (0 + i)) else none) = some y := hy
    rw [Nat.zero_add, if_pos hi] at hy
    obtain rfl := Option.some.inj hy
    obtain ⟨fs, hfs⟩ := hel i hi
    obtain ⟨j9, hj9⟩ := List.mem_iff_getElem?.mp (show ((o i, .inr (1, fs)) : Nat × va_E) ∈ (([(q7, .inl (D.1 99, c1, .inr (.inr (.inr (.inr (fun _ => none)))))), (x, .inr (0, [.int mc, .ref z, .int (nI n)])), (z, .inl (D.1 99, n, .inr (.inr (.inr (.inr (fun i => if i < n then some (o i) else none)))))), (eo, .inr (1, [.ref w, .int e1, .int e2, .int e3, .int e4, .int e5, .int e6, .int e7]))] : va_W) ++ ws) from List.mem_cons_of_mem _ (List.mem_cons_of_mem _ (List.mem_cons_of_mem _ hfs)))
    exact va_recv hK.1 hP (ci := 1) rfl hj9
  refine va_copyq (E0 := "java/lang/Object") (E1 := "java/lang/Object") (C := "OilHome$Batch") hx hb (by rw [hml]; exact hl.1.symm) hown (S.2.2.2.2 _ (wk2_14 0 rfl rfl)) (S.2.2.2.2 _ (wk2_14 2 rfl rfl)) (S.2.2.2.2 _ (wk2_14 1 rfl rfl)) (S.2.2.2.2 _ (wk1_1 4 rfl rfl)) hXS.2.2.2.2.2.2.2.2.1 hP hD hS 2 0 0 0 rfl rfl rfl rfl (by decide) (by decide) (nI_nn (by omega)) (by rw [nI_clamp (by omega)]; show 0 + n ≤ n; omega) (by rw [nI_clamp (by omega)]; show 0 + n ≤ c1; omega) hel9 (vb_asgC hXS.2.2.2.2.2.2.2.2.2.2.2.2.1.2.1) (Nat.le_of_ble_eq_true rfl) (Nat.le_of_ble_eq_true (by decide +kernel)) dJ7_copyOf_6403c_35 (fun H locs hP hD hS => ?_)
  rw [nI_clamp (n := n) (by omega), show (0 : Int32).toNatClampNeg = 0 by decide, cpy_rf] at hP hD
  have hP : va_P D vwCl (([(q7, .inl (D.1 99, c1, .inr (.inr (.inr (.inr (fun i => if i < n then some (o i) else none)))))), (x, .inr (0, [.int mc, .ref z, .int (nI n)])), (z, .inl (D.1 99, n, .inr (.inr (.inr (.inr (fun i => if i < n then some (o i) else none)))))), (eo, .inr (1, [.ref w, .int e1, .int e2, .int e3, .int e4, .int e5, .int e6, .int e7]))] : va_W) ++ ws) H := hP
  have hD : va_D A (([(q7, .inl (D.1 99, c1, .inr (.inr (.inr (.inr (fun i => if i < n then some (o i) else none)))))), (x, .inr (0, [.int mc, .ref z, .int (nI n)])), (z, .inl (D.1 99, n, .inr (.inr (.inr (.inr (fun i => if i < n then some (o i) else none)))))), (eo, .inr (1, [.ref w, .int e1, .int e2, .int e3, .int e4, .int e5, .int e6, .int e7]))] : va_W) ++ ws) := hD
  refine lv_aload_n hx hb dJ7_copyOf_6403c_38 rfl (lvA0 hl) ?_
  exact W.aret (v := .ref q7) hx hb hr (by first | exact Or.inl ⟨_, rfl⟩ | exact Or.inr ⟨_, rfl⟩) (Or.inr ⟨_, rfl⟩) (fun t ht hW => ⟨⟨some q7, q7, rfl, ⟨rfl, trivial⟩, by rw [ht]; exact hP, hD⟩, hS.F ht⟩) hS.2.2 dJ7_copyOf_6403c_39
set_option maxRecDepth 100000 in
set_option maxHeartbeats 4000000 in
theorem q_l_cpo2B (l : Launch) (D : va_G) (cI cB cZ : ClassId) (zz qq vv : Nat) (bt : Nat → Int32) (c1 : Nat) (x z n eo : Nat) (mc : Int32) (o : Nat → Nat) (e1 e2 e3 e4 e5 e6 e7 : Int32) (w : Nat) (ws : va_W) (sz : Nat) (hc : n < c1) (h100 : c1 ≤ 100) (hel : ∀ i : Nat, i < n → ∃ fs : List Value, ((o i, .inr (1, fs)) : Nat × va_E) ∈ ((eo, .inr (1, [.ref w, .int e1, .int e2, .int e3, .int e4, .int e5, .int e6, .int e7])) : Nat × va_E) :: ws) : Met l yJ7_copyOf_1904c (CWS yJ7_copyOf_1904c cJ7_copyOf_1904c 2 (some (.array (.object "java/lang/Object")))) (RM 3 1 100) (PBx [.ref z, .int (nI c1)] D cI cB cZ zz qq vv bt (([(x, .inr (0, [.int mc, .ref z, .int (nI n)])), (z, .inl (D.1 99, n, .inr (.inr (.inr (.inr (fun i => if i < n then some (o i) else none)))))), (eo, .inr (1, [.ref w, .int e1, .int e2, .int e3, .int e4, .int e5, .int e6, .int e7]))] : va_W) ++ ws) sz) (va_Qq (fun (r : Option Nat) (u : Nat) => r = some u ∧ True) (fun (u : Nat) (t : State) => va_P D vwCl (([(u, .inl (D.1 99, c1, .inr (.inr (.inr (.inr (fun i => if i < n then some (o i) else none)))))), (x, .inr (0, [.int mc, .ref z, .int (nI n)])), (z, .inl (D.1 99, n, .inr (.inr (.inr (.inr (fun i => if i < n then some (o i) else none)))))), (eo, .inr (1, [.ref w, .int e1, .int e2, .int e3, .int e4, .int e5, .int e6, .int e7]))] : va_W) ++ ws) t.heap ∧ va_D (va_A (([(x, .inr (0, [.int mc, .ref z, .int (nI n)])), (z, .inl (D.1 99, n, .inr (.inr (.inr (.inr (fun i => if i < n then some (o i) else none)))))), (eo, .inr (1, [.ref w, .int e1, .int e2, .int e3, .int e4, .int e5, .int e6, .int e7]))] : va_W) ++ ws) sz) (([(u, .inl (D.1 99, c1, .inr (.inr (.inr (.inr (fun i => if i < n then some (o i) else none)))))), (x, .inr (0, [.int mc, .ref z, .int (nI n)])), (z, .inl (D.1 99, n, .inr (.inr (.inr (.inr (fun i => if i < n then some (o i) else none)))))), (eo, .inr (1, [.ref w, .int e1, .int e2, .int e3, .int e4, .int e5, .int e6, .int e7]))] : va_W) ++ ws)) (va_A (([(x, .inr (0, [.int mc, .ref z, .int (nI n)])), (z, .inl (D.1 99, n, .inr (.inr (.inr (.inr (fun i => if i < n then some (o i) else none)))))), (eo, .inr (1, [.ref w, .int e1, .int e2, .int e3, .int e4, .int e5, .int e6, .int e7]))] : va_W) ++ ws) sz)) 1 100 (va_A (([(x, .inr (0, [.int mc, .ref z, .int (nI n)])), (z, .inl (D.1 99, n, .inr (.inr (.inr (.inr (fun i => if i < n then some (o i) else none)))))), (eo, .inr (1, [.ref w, .int e1, .int e2, .int e3, .int e4, .int e5, .int e6, .int e7]))] : va_W) ++ ws) sz) := by
  refine en_x (fun A => (va_Qq (fun (r : Option Nat) (u : Nat) => r = some u ∧ True) (fun (u : Nat) (t : State) => va_P D vwCl (([(u, .inl (D.1 99, c1, .inr (.inr (.inr (.inr (fun i => if i < n then some (o i) else none)))))), (x, .inr (0, [.int mc, .ref z, .int (nI n)])), (z, .inl (D.1 99, n, .inr (.inr (.inr (.inr (fun i => if i < n then some (o i) else none)))))), (eo, .inr (1, [.ref w, .int e1, .int e2, .int e3, .int e4, .int e5, .int e6, .int e7]))] : va_W) ++ ws) t.heap ∧ va_D A (([(u, .inl (D.1 99, c1, .inr (.inr (.inr (.inr (fun i => if i < n then some (o i) else none)))))), (x, .inr (0, [.int mc, .ref z, .int (nI n)])), (z, .inl (D.1 99, n, .inr (.inr (.inr (.inr (fun i => if i < n then some (o i) else none)))))), (eo, .inr (1, [.ref w, .int e1, .int e2, .int e3, .int e4, .int e5, .int e6, .int e7]))] : va_W) ++ ws)) A)) rfl rfl pn_RJ7 (Nat.le_of_ble_eq_true rfl) (fun p e s m below meth c A hx hb hml hown S hr hlocks hnm hA hP hK hD hXS hS ls hl => ?_)
  have hP : va_P D vwCl (([(x, .inr (0, [.int mc, .ref z, .int (nI n)])), (z, .inl (D.1 99, n, .inr (.inr (.inr (.inr (fun i => if i < n then some (o i) else none)))))), (eo, .inr (1, [.ref w, .int e1, .int e2, .int e3, .int e4, .int e5, .int e6, .int e7]))] : va_W) ++ ws) s.heap := hP
  have hD : va_D A (([(x, .inr (0, [.int mc, .ref z, .int (nI n)])), (z, .inl (D.1 99, n, .inr (.inr (.inr (.inr (fun i => if i < n then some (o i) else none)))))), (eo, .inr (1, [.ref w, .int e1, .int e2, .int e3, .int e4, .int e5, .int e6, .int e7]))] : va_W) ++ ws) := hD
  have hl : lv_has ls 2 [(0, .ref z), (1, .int (nI c1))] := hl
  refine lv_aload_n hx hb dJ7_copyOf_1904c_0 rfl (lvA0 hl) ?_
  refine lv_iload_n hx hb dJ7_copyOf_1904c_1 rfl (lvA1 hl) ?_
  refine lv_aload_n hx hb dJ7_copyOf_1904c_2 rfl (lvA0 hl) ?_
  obtain ⟨mi, hMi⟩ := hXS.2.2.2.2.2.2.2.2.2.2.2.2.2.2
  refine va_getC (C := "[Ljava/lang/Object;") (mi := mi) hx hb (by rw [hml]; exact hl.1.symm) hown (S.2.2.2.2 _ (wk2_11 9 rfl rfl)) hXS.2.2.2.2.2.2.2.2.2.2.2.2.2.1.use (S.2.2.2.2 _ (wk9_12 10 rfl rfl)) (S.2.2.2.2 _ (wk2_11 10 rfl rfl)) (S.2.2.2.2 _ (wk2_13 2 rfl rfl)) hMi (recvQ (q0 := 1) hXS hP rfl) (Nat.le_of_ble_eq_true rfl) (Nat.le_of_ble_eq_true rfl) dJ7_copyOf_1904c_3 ?_
  have hFc := free_all hD hS hA
  refine va_callq (runS_xm (As := [.ref z, .int (nI c1), .ref mi]) (rest := []) S (q_l_cpo3B l D cI cB cZ zz qq vv bt c1 mi x z n eo mc o e1 e2 e3 e4 e5 e6 e7 w ws s.heap.size hc h100 hel) kS_RJ7_300 hK hXS hMi hS hFc hP hD ⟨Nat.le_of_ble_eq_true rfl, Nat.le_of_ble_eq_true rfl⟩ ⟨Nat.le_of_ble_eq_true rfl, Nat.le_of_ble_eq_true rfl⟩ rfl hl.1 rfl (Nat.le_of_ble_eq_true rfl) dJ7_copyOf_1904c_6) hS (fun q _ h => hFc q h) hFc (fun r0 u0 t H1 locs ht hvm h0 hB1 hz1 hk1 hS => ?_)
  obtain ⟨hP1, hD1⟩ := hB1
  rw [ht] at hP1
  have hP : va_P D vwCl (([(u0, .inl (D.1 99, c1, .inr (.inr (.inr (.inr (fun i => if i < n then some (o i) else none)))))), (x, .inr (0, [.int mc, .ref z, .int (nI n)])), (z, .inl (D.1 99, n, .inr (.inr (.inr (.inr (fun i => if i < n then some (o i) else none)))))), (eo, .inr (1, [.ref w, .int e1, .int e2, .int e3, .int e4, .int e5, .int e6, .int e7]))] : va_W) ++ ws) H1 := hP1
  have hD : va_D A (([(u0, .inl (D.1 99, c1, .inr (.inr (.inr (.inr (fun i => if i < n then some (o i) else none)))))), (x, .inr (0, [.int mc, .ref z, .int (nI n)])), (z, .inl (D.1 99, n, .inr (.inr (.inr (.inr (fun i => if i < n then some (o i) else none)))))), (eo, .inr (1, [.ref w, .int e1, .int e2, .int e3, .int e4, .int e5, .int e6, .int e7]))] : va_W) ++ ws) := hD1.weaken (fun _ _ _ h => hFc _ h)
  generalize H1 = H at hP hS ⊢
  obtain ⟨hr0, h0⟩ := h0
  subst hr0
  exact W.aret (v := .ref u0) hx hb hr (by first | exact Or.inl ⟨_, rfl⟩ | exact Or.inr ⟨_, rfl⟩) (Or.inr ⟨_, rfl⟩) (fun t ht hW => ⟨⟨some u0, u0, rfl, ⟨rfl, trivial⟩, by rw [ht]; exact hP, hD⟩, hS.F ht⟩) hS.2.2 dJ7_copyOf_1904c_9
set_option maxRecDepth 100000 in
set_option maxHeartbeats 4000000 in
theorem q_l_gro1B (l : Launch) (D : va_G) (cI cB cZ : ClassId) (zz qq vv : Nat) (bt : Nat → Int32) (x z n eo : Nat) (mc : Int32) (o : Nat → Nat) (e1 e2 e3 e4 e5 e6 e7 : Int32) (w : Nat) (ws : va_W) (sz : Nat) (h0 : 0 < n) (h60 : n ≤ 60) (hel : ∀ i : Nat, i < n → ∃ fs : List Value, ((o i, .inr (1, fs)) : Nat × va_E) ∈ ((eo, .inr (1, [.ref w, .int e1, .int e2, .int e3, .int e4, .int e5, .int e6, .int e7])) : Nat × va_E) :: ws) : Met l yJx4a65c_grow_92f84 (CWS yJx4a65c_grow_92f84 cJx4a65c_grow_92f84 4 (some (.array (.object "java/lang/Object")))) (RM 4 1 100) (PBx [.ref x, .int (nI (n + 1))] D cI cB cZ zz qq vv bt (([(x, .inr (0, [.int mc, .ref z, .int (nI n)])), (z, .inl (D.1 99, n, .inr (.inr (.inr (.inr (fun i => if i < n then some (o i) else none)))))), (eo, .inr (1, [.ref w, .int e1, .int e2, .int e3, .int e4, .int e5, .int e6, .int e7]))] : va_W) ++ ws) sz) (va_Qq (fun (r : Option Nat) (u : Nat × Nat) => r = some u.1 ∧ (n < u.2 ∧ u.2 ≤ 100)) (fun (u : Nat × Nat) (t : State) => va_P D vwCl (([(x, .inr (0, [.int mc, .ref u.1, .int (nI n)])), (u.1, .inl (D.1 99, u.2, .inr (.inr (.inr (.inr (fun i => if i < n then some (o i) else none)))))), (eo, .inr (1, [.ref w, .int e1, .int e2, .int e3, .int e4, .int e5, .int e6, .int e7]))] : va_W) ++ ws) t.heap ∧ va_D (va_A (([(x, .inr (0, [.int mc, .ref z, .int (nI n)])), (z, .inl (D.1 99, n, .inr (.inr (.inr (.inr (fun i => if i < n then some (o i) else none)))))), (eo, .inr (1, [.ref w, .int e1, .int e2, .int e3, .int e4, .int e5, .int e6, .int e7]))] : va_W) ++ ws) sz) (([(x, .inr (0, [.int mc, .ref u.1, .int (nI n)])), (u.1, .inl (D.1 99, u.2, .inr (.inr (.inr (.inr (fun i => if i < n then some (o i) else none)))))), (eo, .inr (1, [.ref w, .int e1, .int e2, .int e3, .int e4, .int e5, .int e6, .int e7]))] : va_W) ++ ws)) (va_A (([(x, .inr (0, [.int mc, .ref z, .int (nI n)])), (z, .inl (D.1 99, n, .inr (.inr (.inr (.inr (fun i => if i < n then some (o i) else none)))))), (eo, .inr (1, [.ref w, .int e1, .int e2, .int e3, .int e4, .int e5, .int e6, .int e7]))] : va_W) ++ ws) sz)) 1 100 (va_A (([(x, .inr (0, [.int mc, .ref z, .int (nI n)])), (z, .inl (D.1 99, n, .inr (.inr (.inr (.inr (fun i => if i < n then some (o i) else none)))))), (eo, .inr (1, [.ref w, .int e1, .int e2, .int e3, .int e4, .int e5, .int e6, .int e7]))] : va_W) ++ ws) sz) := by
  refine en_x (fun A => (va_Qq (fun (r : Option Nat) (u : Nat × Nat) => r = some u.1 ∧ (n < u.2 ∧ u.2 ≤ 100)) (fun (u : Nat × Nat) (t : State) => va_P D vwCl (([(x, .inr (0, [.int mc, .ref u.1, .int (nI n)])), (u.1, .inl (D.1 99, u.2, .inr (.inr (.inr (.inr (fun i => if i < n then some (o i) else none)))))), (eo, .inr (1, [.ref w, .int e1, .int e2, .int e3, .int e4, .int e5, .int e6, .int e7]))] : va_W) ++ ws) t.heap ∧ va_D A (([(x, .inr (0, [.int mc, .ref u.1, .int (nI n)])), (u.1, .inl (D.1 99, u.2, .inr (.inr (.inr (.inr (fun i => if i < n then some (o i) else none)))))), (eo, .inr (1, [.ref w, .int e1, .int e2, .int e3, .int e4, .int e5, .int e6, .int e7]))] : va_W) ++ ws)) A)) rfl rfl pn_RJx4a65c (Nat.le_of_ble_eq_true rfl) (fun p e s m below meth c A hx hb hml hown S hr hlocks hnm hA hP hK hD hXS hS ls hl => ?_)
  have hP : va_P D vwCl (([(x, .inr (0, [.int mc, .ref z, .int (nI n)])), (z, .inl (D.1 99, n, .inr (.inr (.inr (.inr (fun i => if i < n then some (o i) else none)))))), (eo, .inr (1, [.ref w, .int e1, .int e2, .int e3, .int e4, .int e5, .int e6, .int e7]))] : va_W) ++ ws) s.heap := hP
  have hD : va_D A (([(x, .inr (0, [.int mc, .ref z, .int (nI n)])), (z, .inl (D.1 99, n, .inr (.inr (.inr (.inr (fun i => if i < n then some (o i) else none)))))), (eo, .inr (1, [.ref w, .int e1, .int e2, .int e3, .int e4, .int e5, .int e6, .int e7]))] : va_W) ++ ws) := hD
  have hl : lv_has ls 4 [(0, .ref x), (1, .int (nI (n + 1)))] := hl
  have tn : (nI n).toInt = (n : Int) := nI_toInt (by omega)
  refine lv_aload_n hx hb dJx4a65c_grow_92f84_0 rfl (lvA0 hl) ?_
  refine gf_RJx4a65c_9 S hK hP 0 rfl (v := .ref z) rfl dJx4a65c_grow_92f84_1 ?_
  refine va_alen hx hb hXS.2.2.2.2.2.2.2.2.1 hP 1 0 rfl rfl (v := (nI n)) rfl dJx4a65c_grow_92f84_4 ?_
  refine lv_istore_n (lv' := [(2, .int (nI n)), (0, .ref x), (1, .int (nI (n + 1)))]) hx hb dJx4a65c_grow_92f84_5 rfl hl (ltb rfl) rfl (fun ls hl => ?_)
  refine lv_iload_n hx hb dJx4a65c_grow_92f84_6 rfl (lvA0 hl) ?_
  refine lv_if_gt (tgt := 20) hx hb dJx4a65c_grow_92f84_7 rfl (fun c_1 => ?_) (fun c_1 => False.elim (by have tc_1 : ((nI n).toInt : Int) ≤ 0 := Int32.le_iff_toInt_le.mp (Int32.not_lt.mp c_1); omega))
  have tc_1 : (0 : Int) < (nI n).toInt := Int32.lt_iff_toInt_lt.mp c_1
  refine lv_iload_n hx hb dJx4a65c_grow_92f84_20 rfl (lvA0 hl) ?_
  refine lv_iload_n hx hb dJx4a65c_grow_92f84_21 rfl (lvA2 hl) ?_
  refine lv_iload_n hx hb dJx4a65c_grow_92f84_22 rfl (lvA0 hl) ?_
  refine lv_isub hx hb dJx4a65c_grow_92f84_23 ?_
  refine lv_topi (fun y_2 ey_2 => ?_)
  obtain rfl : y_2 = 1 := ey_2.trans (by rw [nI_sub (by omega), show n + 1 - n = 1 by omega]; rfl)
  refine lv_iload_n hx hb dJx4a65c_grow_92f84_24 rfl (lvA0 hl) ?_
  refine lv_iconst (v := 1) hx hb dJx4a65c_grow_92f84_25 kic_1 ?_
  refine lv_ishr hx hb dJx4a65c_grow_92f84_26 ?_
  refine lv_topi (fun y_3 ey_3 => ?_)
  obtain rfl : y_3 = (nI (n / 2)) := ey_3.trans (shr1 n (by omega))
  refine vp_callSi (runS_r (As := [.int (nI n), .int 1, .int (nI (n / 2))]) (rest := []) S (q_l_newLen l D cI cB cZ n (n / 2) (by omega) (by omega)) kS_RJx4a65c_73 hK hP [] rfl ⟨Nat.le_of_ble_eq_true rfl, Nat.le_of_ble_eq_true rfl⟩ ⟨Nat.le_of_ble_eq_true rfl, Nat.le_of_ble_eq_true rfl⟩ rfl hl.1 rfl (Nat.le_of_ble_eq_true rfl) dJx4a65c_grow_92f84_27) (fun r_4 h_5 => ?_)
  subst h_5
  refine lv_istore_n (lv' := [(3, .int (nI (n + max 1 (n / 2)))), (2, .int (nI n)), (0, .ref x), (1, .int (nI (n + 1)))]) hx hb dJx4a65c_grow_92f84_30 rfl hl (ltb rfl) rfl (fun ls hl => ?_)
  refine lv_aload_n hx hb dJx4a65c_grow_92f84_31 rfl (lvA2 hl) ?_
  refine lv_aload_n hx hb dJx4a65c_grow_92f84_32 rfl (lvA2 hl) ?_
  refine gf_RJx4a65c_9 S hK hP 0 rfl (v := .ref z) rfl dJx4a65c_grow_92f84_33 ?_
  refine lv_iload_n hx hb dJx4a65c_grow_92f84_36 rfl (lvA0 hl) ?_
  have hFc := free_all hD hS hA
  refine va_callq (runS_xa (As := [.ref z, .int (nI (n + max 1 (n / 2)))]) (rest := [.ref x]) S (q_l_cpo2B l D cI cB cZ zz qq vv bt (n + max 1 (n / 2)) x z n eo mc o e1 e2 e3 e4 e5 e6 e7 w ws s.heap.size (by omega) (by omega) hel) kS_RJx4a65c_66 hK hXS hS hFc hP hD ⟨Nat.le_of_ble_eq_true rfl, Nat.le_of_ble_eq_true rfl⟩ ⟨Nat.le_of_ble_eq_true rfl, Nat.le_of_ble_eq_true rfl⟩ rfl hl.1 rfl (Nat.le_of_ble_eq_true rfl) dJx4a65c_grow_92f84_37) hS (fun q _ h => hFc q h) hFc (fun r5 u5 t H1 locs ht hvm h5 hB1 hz1 hk1 hS => ?_)
  obtain ⟨hP1, hD1⟩ := hB1
  rw [ht] at hP1
  have hP : va_P D vwCl (([(u5, .inl (D.1 99, (n + max 1 (n / 2)), .inr (.inr (.inr (.inr (fun i => if i < n then some (o i) else none)))))), (x, .inr (0, [.int mc, .ref z, .int (nI n)])), (z, .inl (D.1 99, n, .inr (.inr (.inr (.inr (fun i => if i < n then some (o i) else none)))))), (eo, .inr (1, [.ref w, .int e1, .int e2, .int e3, .int e4, .int e5, .int e6, .int e7]))] : va_W) ++ ws) H1 := hP1
  have hD : va_D A (([(u5, .inl (D.1 99, (n + max 1 (n / 2)), .inr (.inr (.inr (.inr (fun i => if i < n then some (o i) else none)))))), (x, .inr (0, [.int mc, .ref z, .int (nI n)])), (z, .inl (D.1 99, n, .inr (.inr (.inr (.inr (fun i => if i < n then some (o i) else none)))))), (eo, .inr (1, [.ref w, .int e1, .int e2, .int e3, .int e4, .int e5, .int e6, .int e7]))] : va_W) ++ ws) := hD1.weaken (fun _ _ _ h => hFc _ h)
  generalize H1 = H at hP hS ⊢
  obtain ⟨hr5, h5⟩ := h5
  subst hr5
  refine lv_dup_x1 hx hb dJx4a65c_grow_92f84_40 rfl rfl ?_
  refine pf_RJx4a65c_9 S hK hP hD hS 1 rfl (v := .ref u5) (Nat.le_of_ble_eq_true rfl) rfl rfl dJx4a65c_grow_92f84_41 (fun H locs hP hD hS => ?_)
  have hP : va_P D vwCl (([(u5, .inl (D.1 99, (n + max 1 (n / 2)), .inr (.inr (.inr (.inr (fun i => if i < n then some (o i) else none)))))), (x, .inr (0, [.int mc, .ref u5, .int (nI n)])), (z, .inl (D.1 99, n, .inr (.inr (.inr (.inr (fun i => if i < n then some (o i) else none)))))), (eo, .inr (1, [.ref w, .int e1, .int e2, .int e3, .int e4, .int e5, .int e6, .int e7]))] : va_W) ++ ws) H := hP
  have hD : va_D A (([(u5, .inl (D.1 99, (n + max 1 (n / 2)), .inr (.inr (.inr (.inr (fun i => if i < n then some (o i) else none)))))), (x, .inr (0, [.int mc, .ref u5, .int (nI n)])), (z, .inl (D.1 99, n, .inr (.inr (.inr (.inr (fun i => if i < n then some (o i) else none)))))), (eo, .inr (1, [.ref w, .int e1, .int e2, .int e3, .int e4, .int e5, .int e6, .int e7]))] : va_W) ++ ws) := hD
  have hP : va_P D vwCl (([(x, .inr (0, [.int mc, .ref u5, .int (nI n)])), (u5, .inl (D.1 99, (n + max 1 (n / 2)), .inr (.inr (.inr (.inr (fun i => if i < n then some (o i) else none)))))), (eo, .inr (1, [.ref w, .int e1, .int e2, .int e3, .int e4, .int e5, .int e6, .int e7]))] : va_W) ++ ws) H := g_dropP hP
  have hD : va_D A (([(x, .inr (0, [.int mc, .ref u5, .int (nI n)])), (u5, .inl (D.1 99, (n + max 1 (n / 2)), .inr (.inr (.inr (.inr (fun i => if i < n then some (o i) else none)))))), (eo, .inr (1, [.ref w, .int e1, .int e2, .int e3, .int e4, .int e5, .int e6, .int e7]))] : va_W) ++ ws) := g_dropD hD
  exact W.aret (v := .ref u5) hx hb hr (by first | exact Or.inl ⟨_, rfl⟩ | exact Or.inr ⟨_, rfl⟩) (Or.inr ⟨_, rfl⟩) (fun t ht hW => ⟨⟨some u5, (u5, (n + max 1 (n / 2))), rfl, ⟨rfl, by omega, by omega⟩, by rw [ht]; exact hP, hD⟩, hS.F ht⟩) hS.2.2 dJx4a65c_grow_92f84_44
set_option maxRecDepth 100000 in
set_option maxHeartbeats 4000000 in
theorem q_l_gro0B (l : Launch) (D : va_G) (cI cB cZ : ClassId) (zz qq vv : Nat) (bt : Nat → Int32) (x z n eo : Nat) (mc : Int32) (o : Nat → Nat) (e1 e2 e3 e4 e5 e6 e7 : Int32) (w : Nat) (ws : va_W) (sz : Nat) (h0 : 0 < n) (h60 : n ≤ 60) (hel : ∀ i : Nat, i < n → ∃ fs : List Value, ((o i, .inr (1, fs)) : Nat × va_E) ∈ ((eo, .inr (1, [.ref w, .int e1, .int e2, .int e3, .int e4, .int e5, .int e6, .int e7])) : Nat × va_E) :: ws) : Met l yJx4a65c_grow_d5877 (CWS yJx4a65c_grow_d5877 cJx4a65c_grow_d5877 1 (some (.array (.object "java/lang/Object")))) (RM 5 1 100) (PBx [.ref x] D cI cB cZ zz qq vv bt (([(x, .inr (0, [.int mc, .ref z, .int (nI n)])), (z, .inl (D.1 99, n, .inr (.inr (.inr (.inr (fun i => if i < n then some (o i) else none)))))), (eo, .inr (1, [.ref w, .int e1, .int e2, .int e3, .int e4, .int e5, .int e6, .int e7]))] : va_W) ++ ws) sz) (va_Qq (fun (r : Option Nat) (u : Nat × Nat) => r = some u.1 ∧ (n < u.2 ∧ u.2 ≤ 100)) (fun (u : Nat × Nat) (t : State) => va_P D vwCl (([(x, .inr (0, [.int mc, .ref u.1, .int (nI n)])), (u.1, .inl (D.1 99, u.2, .inr (.inr (.inr (.inr (fun i => if i < n then some (o i) else none)))))), (eo, .inr (1, [.ref w, .int e1, .int e2, .int e3, .int e4, .int e5, .int e6, .int e7]))] : va_W) ++ ws) t.heap ∧ va_D (va_A (([(x, .inr (0, [.int mc, .ref z, .int (nI n)])), (z, .inl (D.1 99, n, .inr (.inr (.inr (.inr (fun i => if i < n then some (o i) else none)))))), (eo, .inr (1, [.ref w, .int e1, .int e2, .int e3, .int e4, .int e5, .int e6, .int e7]))] : va_W) ++ ws) sz) (([(x, .inr (0, [.int mc, .ref u.1, .int (nI n)])), (u.1, .inl (D.1 99, u.2, .inr (.inr (.inr (.inr (fun i => if i < n then some (o i) else none)))))), (eo, .inr (1, [.ref w, .int e1, .int e2, .int e3, .int e4, .int e5, .int e6, .int e7]))] : va_W) ++ ws)) (va_A (([(x, .inr (0, [.int mc, .ref z, .int (nI n)])), (z, .inl (D.1 99, n, .inr (.inr (.inr (.inr (fun i => if i < n then some (o i) else none)))))), (eo, .inr (1, [.ref w, .int e1, .int e2, .int e3, .int e4, .int e5, .int e6, .int e7]))] : va_W) ++ ws) sz)) 1 100 (va_A (([(x, .inr (0, [.int mc, .ref z, .int (nI n)])), (z, .inl (D.1 99, n, .inr (.inr (.inr (.inr (fun i => if i < n then some (o i) else none)))))), (eo, .inr (1, [.ref w, .int e1, .int e2, .int e3, .int e4, .int e5, .int e6, .int e7]))] : va_W) ++ ws) sz) := by
  refine en_x (fun A => (va_Qq (fun (r : Option Nat) (u : Nat × Nat) => r = some u.1 ∧ (n < u.2 ∧ u.2 ≤ 100)) (fun (u : Nat × Nat) (t : State) => va_P D vwCl (([(x, .inr (0, [.int mc, .ref u.1, .int (nI n)])), (u.1, .inl (D.1 99, u.2, .inr (.inr (.inr (.inr (fun i => if i < n then some (o i) else none)))))), (eo, .inr (1, [.ref w, .int e1, .int e2, .int e3, .int e4, .int e5, .int e6, .int e7]))] : va_W) ++ ws) t.heap ∧ va_D A (([(x, .inr (0, [.int mc, .ref u.1, .int (nI n)])), (u.1, .inl (D.1 99, u.2, .inr (.inr (.inr (.inr (fun i => if i < n then some (o i) else none)))))), (eo, .inr (1, [.ref w, .int e1, .int e2, .int e3, .int e4, .int e5, .int e6, .int e7]))] : va_W) ++ ws)) A)) rfl rfl pn_RJx4a65c (Nat.le_of_ble_eq_true rfl) (fun p e s m below meth c A hx hb hml hown S hr hlocks hnm hA hP hK hD hXS hS ls hl => ?_)
  have hP : va_P D vwCl (([(x, .inr (0, [.int mc, .ref z, .int (nI n)])), (z, .inl (D.1 99, n, .inr (.inr (.inr (.inr (fun i => if i < n then some (o i) else none)))))), (eo, .inr (1, [.ref w, .int e1, .int e2, .int e3, .int e4, .int e5, .int e6, .int e7]))] : va_W) ++ ws) s.heap := hP
  have hD : va_D A (([(x, .inr (0, [.int mc, .ref z, .int (nI n)])), (z, .inl (D.1 99, n, .inr (.inr (.inr (.inr (fun i => if i < n then some (o i) else none)))))), (eo, .inr (1, [.ref w, .int e1, .int e2, .int e3, .int e4, .int e5, .int e6, .int e7]))] : va_W) ++ ws) := hD
  have hl : lv_has ls 1 [(0, .ref x)] := hl
  refine lv_aload_n hx hb dJx4a65c_grow_d5877_0 rfl (lvA0 hl) ?_
  refine lv_aload_n hx hb dJx4a65c_grow_d5877_1 rfl (lvA0 hl) ?_
  refine gf_RJx4a65c_48 S hK hP 0 rfl (v := .int (nI n)) rfl dJx4a65c_grow_d5877_2 ?_
  refine lv_iconst (v := 1) hx hb dJx4a65c_grow_d5877_5 kic_1 ?_
  refine lv_iadd hx hb dJx4a65c_grow_d5877_6 ?_
  refine lv_topi (fun y_1 ey_1 => ?_)
  obtain rfl : y_1 = (nI (n + 1)) := ey_1.trans (nI_1 _)
  have hFc := free_all hD hS hA
  refine va_callq (runV_xa (As := [.int (nI (n + 1))]) (rest := []) S (q_l_gro1B l D cI cB cZ zz qq vv bt x z n eo mc o e1 e2 e3 e4 e5 e6 e7 w ws s.heap.size h0 h60 hel) kV_RJx4a65c_69 hK hXS hS hFc hP hD 0 rfl rfl rfl ⟨Nat.le_of_ble_eq_true rfl, Nat.le_of_ble_eq_true rfl⟩ ⟨Nat.le_of_ble_eq_true rfl, Nat.le_of_ble_eq_true rfl⟩ rfl hl.1 rfl (Nat.le_of_ble_eq_true rfl) dJx4a65c_grow_d5877_7) hS (fun q _ h => hFc q h) hFc (fun r1 u1 t H1 locs ht hvm h1 hB1 hz1 hk1 hS => ?_)
  obtain ⟨hP1, hD1⟩ := hB1
  rw [ht] at hP1
  obtain ⟨ua1, uc1⟩ := u1
  have hP : va_P D vwCl (([(x, .inr (0, [.int mc, .ref ua1, .int (nI n)])), (ua1, .inl (D.1 99, uc1, .inr (.inr (.inr (.inr (fun i => if i < n then some (o i) else none)))))), (eo, .inr (1, [.ref w, .int e1, .int e2, .int e3, .int e4, .int e5, .int e6, .int e7]))] : va_W) ++ ws) H1 := hP1
  have hD : va_D A (([(x, .inr (0, [.int mc, .ref ua1, .int (nI n)])), (ua1, .inl (D.1 99, uc1, .inr (.inr (.inr (.inr (fun i => if i < n then some (o i) else none)))))), (eo, .inr (1, [.ref w, .int e1, .int e2, .int e3, .int e4, .int e5, .int e6, .int e7]))] : va_W) ++ ws) := hD1.weaken (fun _ _ _ h => hFc _ h)
  generalize H1 = H at hP hS ⊢
  obtain ⟨hr1, h1⟩ := h1
  subst hr1
  exact W.aret (v := .ref ua1) hx hb hr (by first | exact Or.inl ⟨_, rfl⟩ | exact Or.inr ⟨_, rfl⟩) (Or.inr ⟨_, rfl⟩) (fun t ht hW => ⟨⟨some ua1, (ua1, uc1), rfl, ⟨rfl, h1⟩, by rw [ht]; exact hP, hD⟩, hS.F ht⟩) hS.2.2 dJx4a65c_grow_d5877_10
set_option maxRecDepth 100000 in
set_option maxHeartbeats 4000000 in
theorem q_l_ad3GB (l : Launch) (D : va_G) (cI cB cZ : ClassId) (zz qq vv : Nat) (bt : Nat → Int32) (c0 : Nat) (x z n eo : Nat) (mc : Int32) (o : Nat → Nat) (e1 e2 e3 e4 e5 e6 e7 : Int32) (w : Nat) (ws : va_W) (sz : Nat) (hn : n ≤ c0) (hc : c0 ≤ 100) (h0 : 0 < n) (h60 : n ≤ 60) (hel : ∀ i : Nat, i < n → ∃ fs : List Value, ((o i, .inr (1, fs)) : Nat × va_E) ∈ ((eo, .inr (1, [.ref w, .int e1, .int e2, .int e3, .int e4, .int e5, .int e6, .int e7])) : Nat × va_E) :: ws) : Met l yJx4a65c_add_72be8 (CWS yJx4a65c_add_72be8 cJx4a65c_add_72be8 4 none) (RM 6 1 100) (PBx [.ref x, .ref eo, .ref z, .int (nI n)] D cI cB cZ zz qq vv bt (([(x, .inr (0, [.int mc, .ref z, .int (nI n)])), (z, .inl (D.1 99, c0, .inr (.inr (.inr (.inr (fun i => if i < n then some (o i) else none)))))), (eo, .inr (1, [.ref w, .int e1, .int e2, .int e3, .int e4, .int e5, .int e6, .int e7]))] : va_W) ++ ws) sz) (va_Qv (fun (u : Nat × Nat) => (n < u.2 ∧ u.2 ≤ 100)) (fun (u : Nat × Nat) (t : State) => va_P D vwCl (([(x, .inr (0, [.int mc, .ref u.1, .int (nI (n + 1))])), (u.1, .inl (D.1 99, u.2, .inr (.inr (.inr (.inr (va_up (fun i => if i < n then some (o i) else none) n (some eo))))))), (eo, .inr (1, [.ref w, .int e1, .int e2, .int e3, .int e4, .int e5, .int e6, .int e7]))] : va_W) ++ ws) t.heap ∧ va_D (va_A (([(x, .inr (0, [.int mc, .ref z, .int (nI n)])), (z, .inl (D.1 99, c0, .inr (.inr (.inr (.inr (fun i => if i < n then some (o i) else none)))))), (eo, .inr (1, [.ref w, .int e1, .int e2, .int e3, .int e4, .int e5, .int e6, .int e7]))] : va_W) ++ ws) sz) (([(x, .inr (0, [.int mc, .ref u.1, .int (nI (n + 1))])), (u.1, .inl (D.1 99, u.2, .inr (.inr (.inr (.inr (va_up (fun i => if i < n then some (o i) else none) n (some eo))))))), (eo, .inr (1, [.ref w, .int e1, .int e2, .int e3, .int e4, .int e5, .int e6, .int e7]))] : va_W) ++ ws)) (va_A (([(x, .inr (0, [.int mc, .ref z, .int (nI n)])), (z, .inl (D.1 99, c0, .inr (.inr (.inr (.inr (fun i => if i < n then some (o i) else none)))))), (eo, .inr (1, [.ref w, .int e1, .int e2, .int e3, .int e4, .int e5, .int e6, .int e7]))] : va_W) ++ ws) sz)) 1 100 (va_A (([(x, .inr (0, [.int mc, .ref z, .int (nI n)])), (z, .inl (D.1 99, c0, .inr (.inr (.inr (.inr (fun i => if i < n then some (o i) else none)))))), (eo, .inr (1, [.ref w, .int e1, .int e2, .int e3, .int e4, .int e5, .int e6, .int e7]))] : va_W) ++ ws) sz) := by
  refine en_x (fun A => (va_Qv (fun (u : Nat × Nat) => (n < u.2 ∧ u.2 ≤ 100)) (fun (u : Nat × Nat) (t : State) => va_P D vwCl (([(x, .inr (0, [.int mc, .ref u.1, .int (nI (n + 1))])), (u.1, .inl (D.1 99, u.2, .inr (.inr (.inr (.inr (va_up (fun i => if i < n then some (o i) else none) n (some eo))))))), (eo, .inr (1, [.ref w, .int e1, .int e2, .int e3, .int e4, .int e5, .int e6, .int e7]))] : va_W) ++ ws) t.heap ∧ va_D A (([(x, .inr (0, [.int mc, .ref u.1, .int (nI (n + 1))])), (u.1, .inl (D.1 99, u.2, .inr (.inr (.inr (.inr (va_up (fun i => if i < n then some (o i) else none) n (some eo))))))), (eo, .inr (1, [.ref w, .int e1, .int e2, .int e3, .int e4, .int e5, .int e6, .int e7]))] : va_W) ++ ws)) A)) rfl rfl pn_RJx4a65c (Nat.le_of_ble_eq_true rfl) (fun p e s m below meth c A hx hb hml hown S hr hlocks hnm hA hP hK hD hXS hS ls hl => ?_)
  have hP : va_P D vwCl (([(x, .inr (0, [.int mc, .ref z, .int (nI n)])), (z, .inl (D.1 99, c0, .inr (.inr (.inr (.inr (fun i => if i < n then some (o i) else none)))))), (eo, .inr (1, [.ref w, .int e1, .int e2, .int e3, .int e4, .int e5, .int e6, .int e7]))] : va_W) ++ ws) s.heap := hP
  have hD : va_D A (([(x, .inr (0, [.int mc, .ref z, .int (nI n)])), (z, .inl (D.1 99, c0, .inr (.inr (.inr (.inr (fun i => if i < n then some (o i) else none)))))), (eo, .inr (1, [.ref w, .int e1, .int e2, .int e3, .int e4, .int e5, .int e6, .int e7]))] : va_W) ++ ws) := hD
  have hl : lv_has ls 4 [(0, .ref x), (1, .ref eo), (2, .ref z), (3, .int (nI n))] := hl
  have tn : (nI n).toInt = (n : Int) := nI_toInt (by omega)
  have tc : (nI c0).toInt = (c0 : Int) := nI_toInt (by omega)
  refine lv_iload_n hx hb dJx4a65c_add_72be8_0 rfl (lvA3 hl) ?_
  refine lv_aload_n hx hb dJx4a65c_add_72be8_1 rfl (lvA2 hl) ?_
  refine va_alen hx hb hXS.2.2.2.2.2.2.2.2.1 hP 1 0 rfl rfl (v := (nI c0)) rfl dJx4a65c_add_72be8_2 ?_
  refine lv_icmp_ne (tgt := 11) hx hb dJx4a65c_add_72be8_3 rfl (fun c_1 => ?_) (fun c_1 => ?_)
  ·
    have tc_1 : ((nI n).toInt : Int) ≠ (nI c0).toInt := fun q => c_1 (Int32.toInt_inj.mp q)
    refine lv_aload_n hx hb dJx4a65c_add_72be8_11 rfl (lvA2 hl) ?_
    refine lv_iload_n hx hb dJx4a65c_add_72be8_12 rfl (lvA3 hl) ?_
    refine lv_aload_n hx hb dJx4a65c_add_72be8_13 rfl (lvA1 hl) ?_
    have hca14 : va_Nw (.castable (RX0, TX0, 8).1 "java/lang/Object") s := hXS.2.2.2.2.2.2.2.2.2.2.2.2.1.2.1
    refine va_astqO (r := (RX0, TX0, 8)) (E := "java/lang/Object") (cA := D.1 99) hx hb hXS.2.2.2.2.2.2.2.2.1 hP hD hS 1 0 2 1 rfl rfl hca14 rfl rfl (vp_in_nI (by omega) (by omega)) dJx4a65c_add_72be8_14 (fun H locs hP hD hS => ?_)
    have hP : va_P D vwCl (([(x, .inr (0, [.int mc, .ref z, .int (nI n)])), (z, .inl (D.1 99, c0, .inr (.inr (.inr (.inr (va_up (fun i => if i < n then some (o i) else none) (nI n).toNatClampNeg (some eo))))))), (eo, .inr (1, [.ref w, .int e1, .int e2, .int e3, .int e4, .int e5, .int e6, .int e7]))] : va_W) ++ ws) H := hP
    have hD : va_D A (([(x, .inr (0, [.int mc, .ref z, .int (nI n)])), (z, .inl (D.1 99, c0, .inr (.inr (.inr (.inr (va_up (fun i => if i < n then some (o i) else none) (nI n).toNatClampNeg (some eo))))))), (eo, .inr (1, [.ref w, .int e1, .int e2, .int e3, .int e4, .int e5, .int e6, .int e7]))] : va_W) ++ ws) := hD
    rw [nI_clamp (by omega)] at hP hD
    have hP : va_P D vwCl (([(x, .inr (0, [.int mc, .ref z, .int (nI n)])), (z, .inl (D.1 99, c0, .inr (.inr (.inr (.inr (va_up (fun i => if i < n then some (o i) else none) n (some eo))))))), (eo, .inr (1, [.ref w, .int e1, .int e2, .int e3, .int e4, .int e5, .int e6, .int e7]))] : va_W) ++ ws) H := hP
    have hD : va_D A (([(x, .inr (0, [.int mc, .ref z, .int (nI n)])), (z, .inl (D.1 99, c0, .inr (.inr (.inr (.inr (va_up (fun i => if i < n then some (o i) else none) n (some eo))))))), (eo, .inr (1, [.ref w, .int e1, .int e2, .int e3, .int e4, .int e5, .int e6, .int e7]))] : va_W) ++ ws) := hD
    refine lv_aload_n hx hb dJx4a65c_add_72be8_15 rfl (lvA0 hl) ?_
    refine lv_iload_n hx hb dJx4a65c_add_72be8_16 rfl (lvA3 hl) ?_
    refine lv_iconst (v := 1) hx hb dJx4a65c_add_72be8_17 kic_1 ?_
    refine lv_iadd hx hb dJx4a65c_add_72be8_18 ?_
    refine lv_topi (fun y_2 ey_2 => ?_)
    obtain rfl : y_2 = (nI (n + 1)) := ey_2.trans (nI_1 _)
    refine pf_RJx4a65c_48 S hK hP hD hS 0 rfl (v := .int (nI (n + 1))) (Nat.le_of_ble_eq_true rfl) rfl rfl dJx4a65c_add_72be8_19 (fun H locs hP hD hS => ?_)
    have hP : va_P D vwCl (([(x, .inr (0, [.int mc, .ref z, .int (nI (n + 1))])), (z, .inl (D.1 99, c0, .inr (.inr (.inr (.inr (va_up (fun i => if i < n then some (o i) else none) n (some eo))))))), (eo, .inr (1, [.ref w, .int e1, .int e2, .int e3, .int e4, .int e5, .int e6, .int e7]))] : va_W) ++ ws) H := hP
    have hD : va_D A (([(x, .inr (0, [.int mc, .ref z, .int (nI (n + 1))])), (z, .inl (D.1 99, c0, .inr (.inr (.inr (.inr (va_up (fun i => if i < n then some (o i) else none) n (some eo))))))), (eo, .inr (1, [.ref w, .int e1, .int e2, .int e3, .int e4, .int e5, .int e6, .int e7]))] : va_W) ++ ws) := hD
    refine W.widen (k := 1) (n := 100) (by omega) (by omega) ?_
    exact W.vret hx hb hr (fun t ht hW => ⟨⟨(z, c0), rfl, ⟨by omega, by omega⟩, by rw [ht]; exact hP, hD⟩, hS.F ht⟩) hS.2.2 dJx4a65c_add_72be8_22
  ·
    have tc_1 : ((nI n).toInt : Int) = (nI c0).toInt := congrArg Int32.toInt c_1
    obtain rfl : n = c0 := by omega
    refine lv_aload_n hx hb dJx4a65c_add_72be8_6 rfl (lvA0 hl) ?_
    have hFc := free_all hD hS hA
    refine va_callq (runV_xa (As := []) (rest := []) S (q_l_gro0B l D cI cB cZ zz qq vv bt x z n eo mc o e1 e2 e3 e4 e5 e6 e7 w ws s.heap.size h0 h60 hel) kV_RJx4a65c_129 hK hXS hS hFc hP hD 0 rfl rfl rfl ⟨Nat.le_of_ble_eq_true rfl, Nat.le_of_ble_eq_true rfl⟩ ⟨Nat.le_of_ble_eq_true rfl, Nat.le_of_ble_eq_true rfl⟩ rfl hl.1 rfl (Nat.le_of_ble_eq_true rfl) dJx4a65c_add_72be8_7) hS (fun q _ h => hFc q h) hFc (fun r2 u2 t H1 locs ht hvm h2 hB1 hz1 hk1 hS => ?_)
    obtain ⟨hP1, hD1⟩ := hB1
    rw [ht] at hP1
    obtain ⟨ua2, uc2⟩ := u2
    have hP : va_P D vwCl (([(x, .inr (0, [.int mc, .ref ua2, .int (nI n)])), (ua2, .inl (D.1 99, uc2, .inr (.inr (.inr (.inr (fun i => if i < n then some (o i) else none)))))), (eo, .inr (1, [.ref w, .int e1, .int e2, .int e3, .int e4, .int e5, .int e6, .int e7]))] : va_W) ++ ws) H1 := hP1
    have hD : va_D A (([(x, .inr (0, [.int mc, .ref ua2, .int (nI n)])), (ua2, .inl (D.1 99, uc2, .inr (.inr (.inr (.inr (fun i => if i < n then some (o i) else none)))))), (eo, .inr (1, [.ref w, .int e1, .int e2, .int e3, .int e4, .int e5, .int e6, .int e7]))] : va_W) ++ ws) := hD1.weaken (fun _ _ _ h => hFc _ h)
    generalize H1 = H at hP hS ⊢
    obtain ⟨hr2, h2⟩ := h2
    subst hr2
    refine lv_astore_n (lv' := [(2, .ref ua2), (0, .ref x), (1, .ref eo), (3, .int (nI n))]) hx hb dJx4a65c_add_72be8_10 rfl hl (ltb rfl) rfl (fun ls hl => ?_)
    refine lv_aload_n hx hb dJx4a65c_add_72be8_11 rfl (lvA0 hl) ?_
    refine lv_iload_n hx hb dJx4a65c_add_72be8_12 rfl (lvA3 hl) ?_
    refine lv_aload_n hx hb dJx4a65c_add_72be8_13 rfl (lvA2 hl) ?_
    have hca14 : va_Nw (.castable (RX0, TX0, 8).1 "java/lang/Object") s := hXS.2.2.2.2.2.2.2.2.2.2.2.2.1.2.1
    refine va_astqO (r := (RX0, TX0, 8)) (E := "java/lang/Object") (cA := D.1 99) hx hb hXS.2.2.2.2.2.2.2.2.1 hP hD hS 1 0 2 1 rfl rfl hca14 rfl rfl (vp_in_nI (by omega) (by omega)) dJx4a65c_add_72be8_14 (fun H locs hP hD hS => ?_)
    have hP : va_P D vwCl (([(x, .inr (0, [.int mc, .ref ua2, .int (nI n)])), (ua2, .inl (D.1 99, uc2, .inr (.inr (.inr (.inr (va_up (fun i => if i < n then some (o i) else none) (nI n).toNatClampNeg (some eo))))))), (eo, .inr (1, [.ref w, .int e1, .int e2, .int e3, .int e4, .int e5, .int e6, .int e7]))] : va_W) ++ ws) H := hP
    have hD : va_D A (([(x, .inr (0, [.int mc, .ref ua2, .int (nI n)])), (ua2, .inl (D.1 99, uc2, .inr (.inr (.inr (.inr (va_up (fun i => if i < n then some (o i) else none) (nI n).toNatClampNeg (some eo))))))), (eo, .inr (1, [.ref w, .int e1, .int e2, .int e3, .int e4, .int e5, .int e6, .int e7]))] : va_W) ++ ws) := hD
    rw [nI_clamp (by omega)] at hP hD
    have hP : va_P D vwCl (([(x, .inr (0, [.int mc, .ref ua2, .int (nI n)])), (ua2, .inl (D.1 99, uc2, .inr (.inr (.inr (.inr (va_up (fun i => if i < n then some (o i) else none) n (some eo))))))), (eo, .inr (1, [.ref w, .int e1, .int e2, .int e3, .int e4, .int e5, .int e6, .int e7]))] : va_W) ++ ws) H := hP
    have hD : va_D A (([(x, .inr (0, [.int mc, .ref ua2, .int (nI n)])), (ua2, .inl (D.1 99, uc2, .inr (.inr (.inr (.inr (va_up (fun i => if i < n then some (o i) else none) n (some eo))))))), (eo, .inr (1, [.ref w, .int e1, .int e2, .int e3, .int e4, .int e5, .int e6, .int e7]))] : va_W) ++ ws) := hD
    refine lv_aload_n hx hb dJx4a65c_add_72be8_15 rfl (lvA1 hl) ?_
    refine lv_iload_n hx hb dJx4a65c_add_72be8_16 rfl (lvA3 hl) ?_
    refine lv_iconst (v := 1) hx hb dJx4a65c_add_72be8_17 kic_1 ?_
    refine lv_iadd hx hb dJx4a65c_add_72be8_18 ?_
    refine lv_topi (fun y_4 ey_4 => ?_)
    obtain rfl : y_4 = (nI (n + 1)) := ey_4.trans (nI_1 _)
    refine pf_RJx4a65c_48 S hK hP hD hS 0 rfl (v := .int (nI (n + 1))) (Nat.le_of_ble_eq_true rfl) rfl rfl dJx4a65c_add_72be8_19 (fun H locs hP hD hS => ?_)
    have hP : va_P D vwCl (([(x, .inr (0, [.int mc, .ref ua2, .int (nI (n + 1))])), (ua2, .inl (D.1 99, uc2, .inr (.inr (.inr (.inr (va_up (fun i => if i < n then some (o i) else none) n (some eo))))))), (eo, .inr (1, [.ref w, .int e1, .int e2, .int e3, .int e4, .int e5, .int e6, .int e7]))] : va_W) ++ ws) H := hP
    have hD : va_D A (([(x, .inr (0, [.int mc, .ref ua2, .int (nI (n + 1))])), (ua2, .inl (D.1 99, uc2, .inr (.inr (.inr (.inr (va_up (fun i => if i < n then some (o i) else none) n (some eo))))))), (eo, .inr (1, [.ref w, .int e1, .int e2, .int e3, .int e4, .int e5, .int e6, .int e7]))] : va_W) ++ ws) := hD
    exact W.vret hx hb hr (fun t ht hW => ⟨⟨(ua2, uc2), rfl, h2, by rw [ht]; exact hP, hD⟩, hS.F ht⟩) hS.2.2 dJx4a65c_add_72be8_22
set_option maxRecDepth 100000 in
set_option maxHeartbeats 4000000 in
theorem q_l_addGB (l : Launch) (D : va_G) (cI cB cZ : ClassId) (zz qq vv : Nat) (bt : Nat → Int32) (c0 : Nat) (x z n eo : Nat) (mc : Int32) (o : Nat → Nat) (e1 e2 e3 e4 e5 e6 e7 : Int32) (w : Nat) (ws : va_W) (sz : Nat) (hn : n ≤ c0) (hc : c0 ≤ 100) (h0 : 0 < n) (h60 : n ≤ 60) (hel : ∀ i : Nat, i < n → ∃ fs : List Value, ((o i, .inr (1, fs)) : Nat × va_E) ∈ ((eo, .inr (1, [.ref w, .int e1, .int e2, .int e3, .int e4, .int e5, .int e6, .int e7])) : Nat × va_E) :: ws) : Met l yJx4a65c_add_9ea2d (CWS yJx4a65c_add_9ea2d cJx4a65c_add_9ea2d 2 (some .boolean)) (RM 7 1 100) (PBx [.ref x, .ref eo] D cI cB cZ zz qq vv bt (([(x, .inr (0, [.int mc, .ref z, .int (nI n)])), (z, .inl (D.1 99, c0, .inr (.inr (.inr (.inr (fun i => if i < n then some (o i) else none)))))), (eo, .inr (1, [.ref w, .int e1, .int e2, .int e3, .int e4, .int e5, .int e6, .int e7]))] : va_W) ++ ws) sz) (va_Qi (fun (r : Int32) (u : Nat × Nat) => r = 1 ∧ (n < u.2 ∧ u.2 ≤ 100)) (fun (u : Nat × Nat) (t : State) => va_P D vwCl (([(x, .inr (0, [.int (mc + 1), .ref u.1, .int (nI (n + 1))])), (u.1, .inl (D.1 99, u.2, .inr (.inr (.inr (.inr (va_up (fun i => if i < n then some (o i) else none) n (some eo))))))), (eo, .inr (1, [.ref w, .int e1, .int e2, .int e3, .int e4, .int e5, .int e6, .int e7]))] : va_W) ++ ws) t.heap ∧ va_D (va_A (([(x, .inr (0, [.int mc, .ref z, .int (nI n)])), (z, .inl (D.1 99, c0, .inr (.inr (.inr (.inr (fun i => if i < n then some (o i) else none)))))), (eo, .inr (1, [.ref w, .int e1, .int e2, .int e3, .int e4, .int e5, .int e6, .int e7]))] : va_W) ++ ws) sz) (([(x, .inr (0, [.int (mc + 1), .ref u.1, .int (nI (n + 1))])), (u.1, .inl (D.1 99, u.2, .inr (.inr (.inr (.inr (va_up (fun i => if i < n then some (o i) else none) n (some eo))))))), (eo, .inr (1, [.ref w, .int e1, .int e2, .int e3, .int e4, .int e5, .int e6, .int e7]))] : va_W) ++ ws)) (va_A (([(x, .inr (0, [.int mc, .ref z, .int (nI n)])), (z, .inl (D.1 99, c0, .inr (.inr (.inr (.inr (fun i => if i < n then some (o i) else none)))))), (eo, .inr (1, [.ref w, .int e1, .int e2, .int e3, .int e4, .int e5, .int e6, .int e7]))] : va_W) ++ ws) sz)) 1 100 (va_A (([(x, .inr (0, [.int mc, .ref z, .int (nI n)])), (z, .inl (D.1 99, c0, .inr (.inr (.inr (.inr (fun i => if i < n then some (o i) else none)))))), (eo, .inr (1, [.ref w, .int e1, .int e2, .int e3, .int e4, .int e5, .int e6, .int e7]))] : va_W) ++ ws) sz) := by
  refine en_x (fun A => (va_Qi (fun (r : Int32) (u : Nat × Nat) => r = 1 ∧ (n < u.2 ∧ u.2 ≤ 100)) (fun (u : Nat × Nat) (t : State) => va_P D vwCl (([(x, .inr (0, [.int (mc + 1), .ref u.1, .int (nI (n + 1))])), (u.1, .inl (D.1 99, u.2, .inr (.inr (.inr (.inr (va_up (fun i => if i < n then some (o i) else none) n (some eo))))))), (eo, .inr (1, [.ref w, .int e1, .int e2, .int e3, .int e4, .int e5, .int e6, .int e7]))] : va_W) ++ ws) t.heap ∧ va_D A (([(x, .inr (0, [.int (mc + 1), .ref u.1, .int (nI (n + 1))])), (u.1, .inl (D.1 99, u.2, .inr (.inr (.inr (.inr (va_up (fun i => if i < n then some (o i) else none) n (some eo))))))), (eo, .inr (1, [.ref w, .int e1, .int e2, .int e3, .int e4, .int e5, .int e6, .int e7]))] : va_W) ++ ws)) A)) rfl rfl pn_RJx4a65c (Nat.le_of_ble_eq_true rfl) (fun p e s m below meth c A hx hb hml hown S hr hlocks hnm hA hP hK hD hXS hS ls hl => ?_)
  have hP : va_P D vwCl (([(x, .inr (0, [.int mc, .ref z, .int (nI n)])), (z, .inl (D.1 99, c0, .inr (.inr (.inr (.inr (fun i => if i < n then some (o i) else none)))))), (eo, .inr (1, [.ref w, .int e1, .int e2, .int e3, .int e4, .int e5, .int e6, .int e7]))] : va_W) ++ ws) s.heap := hP
  have hD : va_D A (([(x, .inr (0, [.int mc, .ref z, .int (nI n)])), (z, .inl (D.1 99, c0, .inr (.inr (.inr (.inr (fun i => if i < n then some (o i) else none)))))), (eo, .inr (1, [.ref w, .int e1, .int e2, .int e3, .int e4, .int e5, .int e6, .int e7]))] : va_W) ++ ws) := hD
  have hl : lv_has ls 2 [(0, .ref x), (1, .ref eo)] := hl
  refine lv_aload_n hx hb dJx4a65c_add_9ea2d_0 rfl (lvA0 hl) ?_
  refine lv_dup hx hb dJx4a65c_add_9ea2d_1 rfl ?_
  refine gf_RJx4a65c_63 S hK hP 0 rfl (v := .int mc) rfl dJx4a65c_add_9ea2d_2 ?_
  refine lv_iconst (v := 1) hx hb dJx4a65c_add_9ea2d_5 kic_1 ?_
  refine lv_iadd hx hb dJx4a65c_add_9ea2d_6 ?_
  refine pf_RJx4a65c_63 S hK hP hD hS 0 rfl (v := .int (mc + 1)) (Nat.le_of_ble_eq_true rfl) rfl rfl dJx4a65c_add_9ea2d_7 (fun H locs hP hD hS => ?_)
  have hP : va_P D vwCl (([(x, .inr (0, [.int (mc + 1), .ref z, .int (nI n)])), (z, .inl (D.1 99, c0, .inr (.inr (.inr (.inr (fun i => if i < n then some (o i) else none)))))), (eo, .inr (1, [.ref w, .int e1, .int e2, .int e3, .int e4, .int e5, .int e6, .int e7]))] : va_W) ++ ws) H := hP
  have hD : va_D A (([(x, .inr (0, [.int (mc + 1), .ref z, .int (nI n)])), (z, .inl (D.1 99, c0, .inr (.inr (.inr (.inr (fun i => if i < n then some (o i) else none)))))), (eo, .inr (1, [.ref w, .int e1, .int e2, .int e3, .int e4, .int e5, .int e6, .int e7]))] : va_W) ++ ws) := hD
  refine lv_aload_n hx hb dJx4a65c_add_9ea2d_10 rfl (lvA0 hl) ?_
  refine lv_aload_n hx hb dJx4a65c_add_9ea2d_11 rfl (lvA1 hl) ?_
  refine lv_aload_n hx hb dJx4a65c_add_9ea2d_12 rfl (lvA0 hl) ?_
  refine gf_RJx4a65c_9 S hK hP 0 rfl (v := .ref z) rfl dJx4a65c_add_9ea2d_13 ?_
  refine lv_aload_n hx hb dJx4a65c_add_9ea2d_16 rfl (lvA0 hl) ?_
  refine gf_RJx4a65c_48 S hK hP 0 rfl (v := .int (nI n)) rfl dJx4a65c_add_9ea2d_17 ?_
  have hFc := free_all hD hS hA
  refine va_callv (runV_xa (As := [.ref eo, .ref z, .int (nI n)]) (rest := []) S (q_l_ad3GB l D cI cB cZ zz qq vv bt c0 x z n eo (mc + 1) o e1 e2 e3 e4 e5 e6 e7 w ws H.size hn hc h0 h60 hel) kV_RJx4a65c_131 hK hXS hS hFc hP hD 0 rfl rfl rfl ⟨Nat.le_of_ble_eq_true rfl, Nat.le_of_ble_eq_true rfl⟩ ⟨Nat.le_of_ble_eq_true rfl, Nat.le_of_ble_eq_true rfl⟩ rfl hl.1 rfl (Nat.le_of_ble_eq_true rfl) dJx4a65c_add_9ea2d_20) hS (fun q _ h => hFc q h) hFc (fun u0 t H1 locs ht hvm h0 hB1 hz1 hk1 hS => ?_)
  obtain ⟨hP1, hD1⟩ := hB1
  rw [ht] at hP1
  obtain ⟨ua0, uc0⟩ := u0
  have hP : va_P D vwCl (([(x, .inr (0, [.int (mc + 1), .ref ua0, .int (nI (n + 1))])), (ua0, .inl (D.1 99, uc0, .inr (.inr (.inr (.inr (va_up (fun i => if i < n then some (o i) else none) n (some eo))))))), (eo, .inr (1, [.ref w, .int e1, .int e2, .int e3, .int e4, .int e5, .int e6, .int e7]))] : va_W) ++ ws) H1 := hP1
  have hD : va_D A (([(x, .inr (0, [.int (mc + 1), .ref ua0, .int (nI (n + 1))])), (ua0, .inl (D.1 99, uc0, .inr (.inr (.inr (.inr (va_up (fun i => if i < n then some (o i) else none) n (some eo))))))), (eo, .inr (1, [.ref w, .int e1, .int e2, .int e3, .int e4, .int e5, .int e6, .int e7]))] : va_W) ++ ws) := hD1.weaken (fun _ _ _ h => hFc _ h)
  generalize H1 = H at hP hS ⊢
  refine lv_iconst (v := 1) hx hb dJx4a65c_add_9ea2d_23 kic_1 ?_
  exact W.zret (v := 1) hx hb hr rfl (fun t ht hW => ⟨⟨1, (ua0, uc0), rfl, ⟨rfl, h0⟩, by rw [ht]; exact hP, hD⟩, hS.F ht⟩) hS.2.2 dJx4a65c_add_9ea2d_24
set_option maxRecDepth 100000 in
set_option maxHeartbeats 4000000 in
theorem q_l_cpo3P (l : Launch) (D : va_G) (cI cB cZ : ClassId) (zz qq vv : Nat) (bt : Nat → Int32) (c1 mi : Nat) (x z n eo : Nat) (mc : Int32) (o : Nat → Nat) (e0 e1 e2 e3 e4 : Int32) (ws : va_W) (sz : Nat) (hc : n < c1) (h100 : c1 ≤ 100) (hel : ∀ i : Nat, i < n → ∃ fs : List Value, ((o i, .inr (5, fs)) : Nat × va_E) ∈ ((eo, .inr (5, [.int e0, .int e1, .int e2, .int e3, .int e4])) : Nat × va_E) :: ws) : Met l yJ7_copyOf_6403c (CWS yJ7_copyOf_6403c cJ7_copyOf_6403c 4 (some (.array (.object "java/lang/Object")))) (RM 2 1 100) (PBm mi [.ref z, .int (nI c1), .ref mi] D cI cB cZ zz qq vv bt (([(x, .inr (0, [.int mc, .ref z, .int (nI n)])), (z, .inl (D.1 99, n, .inr (.inr (.inr (.inr (fun i => if i < n then some (o i) else none)))))), (eo, .inr (5, [.int e0, .int e1, .int e2, .int e3, .int e4]))] : va_W) ++ ws) sz) (va_Qq (fun (r : Option Nat) (u : Nat) => r = some u ∧ True) (fun (u : Nat) (t : State) => va_P D vwCl (([(u, .inl (D.1 99, c1, .inr (.inr (.inr (.inr (fun i => if i < n then some (o i) else none)))))), (x, .inr (0, [.int mc, .ref z, .int (nI n)])), (z, .inl (D.1 99, n, .inr (.inr (.inr (.inr (fun i => if i < n then some (o i) else none)))))), (eo, .inr (5, [.int e0, .int e1, .int e2, .int e3, .int e4]))] : va_W) ++ ws) t.heap ∧ va_D (va_A (([(x, .inr (0, [.int mc, .ref z, .int (nI n)])), (z, .inl (D.1 99, n, .inr (.inr (.inr (.inr (fun i => if i < n then some (o i) else none)))))), (eo, .inr (5, [.int e0, .int e1, .int e2, .int e3, .int e4]))] : va_W) ++ ws) sz) (([(u, .inl (D.1 99, c1, .inr (.inr (.inr (.inr (fun i => if i < n then some (o i) else none)))))), (x, .inr (0, [.int mc, .ref z, .int (nI n)])), (z, .inl (D.1 99, n, .inr (.inr (.inr (.inr (fun i => if i < n then some (o i) else none)))))), (eo, .inr (5, [.int e0, .int e1, .int e2, .int e3, .int e4]))] : va_W) ++ ws)) (va_A (([(x, .inr (0, [.int mc, .ref z, .int (nI n)])), (z, .inl (D.1 99, n, .inr (.inr (.inr (.inr (fun i => if i < n then some (o i) else none)))))), (eo, .inr (5, [.int e0, .int e1, .int e2, .int e3, .int e4]))] : va_W) ++ ws) sz)) 1 100 (va_A (([(x, .inr (0, [.int mc, .ref z, .int (nI n)])), (z, .inl (D.1 99, n, .inr (.inr (.inr (.inr (fun i => if i < n then some (o i) else none)))))), (eo, .inr (5, [.int e0, .int e1, .int e2, .int e3, .int e4]))] : va_W) ++ ws) sz) := by
  refine Met.ofW (cc := cJ7_copyOf_6403c) (maxL := 4) (ret := (some (.array (.object "java/lang/Object")))) (by decide) rfl ?_
  intro p e s m args below meth c s₁ B hml hv
  obtain ⟨rfl, hsz, hP, hK, hD0, hXS, hMi⟩ := hv
  have hx := B.exec
  have hb := B.bytes
  have hr := B.returns
  have hts := atoms_spec (ws := (CWS yJ7_copyOf_6403c cJ7_copyOf_6403c 4 (some (.array (.object "java/lang/Object"))))) B.pre
  have hown : s.vm.findClass RJ7 = some m.cls := findClass_of_methodNamed B.named
  have hlocks := B.notSynchronized
  have S : SF p m c cJ7_copyOf_6403c 4 s ([.ref z, .int (nI c1), .ref mi]).toArray RJ7 := ⟨hx, hb, hml, hown, fun w h => hts w (List.mem_cons_of_mem _ h)⟩
  subst hsz
  have hD := hD0.self (sz := s.heap.size)
  generalize hAe : va_A (([(x, .inr (0, [.int mc, .ref z, .int (nI n)])), (z, .inl (D.1 99, n, .inr (.inr (.inr (.inr (fun i => if i < n then some (o i) else none)))))), (eo, .inr (5, [.int e0, .int e1, .int e2, .int e3, .int e4]))] : va_W) ++ ws) s.heap.size = A at hD hXS ⊢
  have hA : ∀ q : Nat, s.heap.size ≤ q → A q := fun q h => by rw [← hAe]; exact Or.inr h
  have hS : va_S A s.heap s.heap [] := va_S.rf
  have hP : va_P D vwCl (([(x, .inr (0, [.int mc, .ref z, .int (nI n)])), (z, .inl (D.1 99, n, .inr (.inr (.inr (.inr (fun i => if i < n then some (o i) else none)))))), (eo, .inr (5, [.int e0, .int e1, .int e2, .int e3, .int e4]))] : va_W) ++ ws) s.heap := hP
  have hD : va_D A (([(x, .inr (0, [.int mc, .ref z, .int (nI n)])), (z, .inl (D.1 99, n, .inr (.inr (.inr (.inr (fun i => if i < n then some (o i) else none)))))), (eo, .inr (5, [.int e0, .int e1, .int e2, .int e3, .int e4]))] : va_W) ++ ws) := hD
  have hl := lv_entry ([.ref z, .int (nI c1), .ref mi]) (n := 4) (Nat.le_of_ble_eq_true rfl)
  rw [lg_entry_eq]
  generalize (lg_sl ([.ref z, .int (nI c1), .ref mi]) ++ List.replicate (4 - (lg_sl ([.ref z, .int (nI c1), .ref mi])).length) Slot.unset).toArray = ls at hl ⊢
  have hl : lv_has ls 4 [(0, .ref z), (1, .int (nI c1)), (2, .ref mi)] := hl
  refine lv_aload_n hx hb dJ7_copyOf_6403c_0 rfl (lvA2 hl) ?_
  refine va_ldcM hx hb hown (S.2.2.2.2 _ (wk2_13 6 rfl rfl)) hMi dJ7_copyOf_6403c_1 ?_
  refine lv_acmp_ne (rx := some mi) (ry := some mi) (tgt := 13) hx hb dJ7_copyOf_6403c_3 (by decide) (fun h => absurd rfl h) (fun _ => ?_)
  refine lv_iload_n hx hb dJ7_copyOf_6403c_6 rfl (lvA1 hl) ?_
  refine newq_obj S hXS hK hP hD hS hA (N' := c1) (wk2_13 8 rfl rfl) (nI_nn (by omega)) (nI_clamp (by omega)) (by omega) (Nat.le_of_ble_eq_true rfl) (by show 0 + c1 ≤ 100; omega) dJ7_copyOf_6403c_7 (fun q7 H hP hD hS => ?_)
  refine W.widen (k := 1) (n := 100) (Nat.le_of_ble_eq_true rfl) (by omega) ?_
  have hP : va_P D vwCl (([(q7, .inl (D.1 99, c1, .inr (.inr (.inr (.inr (fun _ => none)))))), (x, .inr (0, [.int mc, .ref z, .int (nI n)])), (z, .inl (D.1 99, n, .inr (.inr (.inr (.inr (fun i => if i < n then some (o i) else none)))))), (eo, .inr (5, [.int e0, .int e1, .int e2, .int e3, .int e4]))] : va_W) ++ ws) H := va_P_perm g_rot hP
  have hD : va_D A (([(q7, .inl (D.1 99, c1, .inr (.inr (.inr (.inr (fun _ => none)))))), (x, .inr (0, [.int mc, .ref z, .int (nI n)])), (z, .inl (D.1 99, n, .inr (.inr (.inr (.inr (fun i => if i < n then some (o i) else none)))))), (eo, .inr (5, [.int e0, .int e1, .int e2, .int e3, .int e4]))] : va_W) ++ ws) := va_D_perm g_rot hD
  refine lv_goto (tgt := 24) hx hb dJ7_copyOf_6403c_10 rfl ?_
  refine lv_astore_n (lv' := [(3, .ref q7), (0, .ref z), (1, .int (nI c1)), (2, .ref mi)]) hx hb dJ7_copyOf_6403c_24 rfl hl (ltb rfl) rfl (fun ls hl => ?_)
  refine lv_aload_n hx hb dJ7_copyOf_6403c_25 rfl (lvA1 hl) ?_
  refine lv_iconst (v := 0) hx hb dJ7_copyOf_6403c_26 kic_0 ?_
  refine lv_aload_n hx hb dJ7_copyOf_6403c_27 rfl (lvA0 hl) ?_
  refine lv_iconst (v := 0) hx hb dJ7_copyOf_6403c_28 kic_0 ?_
  refine lv_aload_n hx hb dJ7_copyOf_6403c_29 rfl (lvA1 hl) ?_
  refine va_alen hx hb hXS.2.2.2.2.2.2.2.2.1 hP 2 0 rfl rfl (v := (nI n)) rfl dJ7_copyOf_6403c_30 ?_
  refine lv_iload_n hx hb dJ7_copyOf_6403c_31 rfl (lvA2 hl) ?_
  refine va_mmin hx hb (by rw [hml]; exact hl.1.symm) hown (S.2.2.2.2 _ (wk2_13 9 rfl rfl)) (S.2.2.2.2 _ (wk2_13 10 rfl rfl)) (S.2.2.2.2 _ (wk1_0 3 rfl rfl)) (S.2.2.2.2 _ (wk2_13 11 rfl rfl)) (Nat.le_of_ble_eq_true rfl) (Nat.le_of_ble_eq_true rfl) (Nat.le_of_ble_eq_true rfl) (Nat.le_of_ble_eq_true rfl) dJ7_copyOf_6403c_32 ?_
  refine lv_topi (fun y_1 ey_1 => ?_)
  obtain rfl : y_1 = (nI n) := ey_1.trans (min_le (by omega) (by omega))
  have hel9 : ∀ i : Nat, i < ((nI n) : Int32).toNatClampNeg → ∀ y : Nat, (fun i => if i < n then some (o i) else none) ((0 : Int32).toNatClampNeg + i) = some y → ∃ cellV : Cell, H[y]? = some cellV ∧ cellV.vm.isStatics = false ∧ s.vm.findClass "OilHome$Proof" = some cellV.cls := by
    intro i hi y hy
    rw [nI_clamp (by omega)] at hi
    have hy : (if 0 + i < n then some (o (0 + i)) else none) = some y := hy
    rw [Nat.zero_add, if_pos hi] at hy
    obtain rfl := Option.some.inj hy
    obtain ⟨fs, hfs⟩ := hel i hi
    obtain ⟨j9, hj9⟩ := List.mem_iff_getElem?.mp (show ((o i, .inr (5, fs)) : Nat × va_E) ∈ (([(q7, .inl (D.1 99, c1, .inr (.inr (.inr (.inr (fun _ => none)))))), (x, .inr (0, [.int mc, .ref z, .int (nI n)])), (z, .inl (D.1 99, n, .inr (.inr (.inr (.inr (fun i => if i < n then some (o i) else none)))))), (eo, .inr (5, [.int e0, .int e1, .int e2, .int e3, .int e4]))] : va_W) ++ ws) from List.mem_cons_of_mem _ (List.mem_cons_of_mem _ (List.mem_cons_of_mem _ hfs)))
    exact va_recv hK.1 hP (ci := 5) rfl hj9
  refine va_copyq (E0 := "java/lang/Object") (E1 := "java/lang/Object") (C := "OilHome$Proof") hx hb (by rw [hml]; exact hl.1.symm) hown (S.2.2.2.2 _ (wk2_14 0 rfl rfl)) (S.2.2.2.2 _ (wk2_14 2 rfl rfl)) (S.2.2.2.2 _ (wk2_14 1 rfl rfl)) (S.2.2.2.2 _ (wk1_1 4 rfl rfl)) hXS.2.2.2.2.2.2.2.2.1 hP hD hS 2 0 0 0 rfl rfl rfl rfl (by decide) (by decide) (nI_nn (by omega)) (by rw [nI_clamp (by omega)]; show 0 + n ≤ n; omega) (by rw [nI_clamp (by omega)]; show 0 + n ≤ c1; omega) hel9 (vb_asgC hXS.2.2.2.2.2.2.2.2.2.2.2.2.1.2.2.1) (Nat.le_of_ble_eq_true rfl) (Nat.le_of_ble_eq_true (by decide +kernel)) dJ7_copyOf_6403c_35 (fun H locs hP hD hS => ?_)
  rw [nI_clamp (n := n) (by omega), show (0 : Int32).toNatClampNeg = 0 by decide, cpy_rf] at hP hD
  have hP : va_P D vwCl (([(q7, .inl (D.1 99, c1, .inr (.inr (.inr (.inr (fun i => if i < n then some (o i) else none)))))), (x, .inr (0, [.int mc, .ref z, .int (nI n)])), (z, .inl (D.1 99, n, .inr (.inr (.inr (.inr (fun i => if i < n then some (o i) else none)))))), (eo, .inr (5, [.int e0, .int e1, .int e2, .int e3, .int e4]))] : va_W) ++ ws) H := hP
  have hD : va_D A (([(q7, .inl (D.1 99, c1, .inr (.inr (.inr (.inr (fun i => if i < n then some (o i) else none)))))), (x, .inr (0, [.int mc, .ref z, .int (nI n)])), (z, .inl (D.1 99, n, .inr (.inr (.inr (.inr (fun i => if i < n then some (o i) else none)))))), (eo, .inr (5, [.int e0, .int e1, .int e2, .int e3, .int e4]))] : va_W) ++ ws) := hD
  refine lv_aload_n hx hb dJ7_copyOf_6403c_38 rfl (lvA0 hl) ?_
  exact W.aret (v := .ref q7) hx hb hr (by first | exact Or.inl ⟨_, rfl⟩ | exact Or.inr ⟨_, rfl⟩) (Or.inr ⟨_, rfl⟩) (fun t ht hW => ⟨⟨some q7, q7, rfl, ⟨rfl, trivial⟩, by rw [ht]; exact hP, hD⟩, hS.F ht⟩) hS.2.2 dJ7_copyOf_6403c_39
set_option maxRecDepth 100000 in
set_option maxHeartbeats 4000000 in
theorem q_l_cpo2P (l : Launch) (D : va_G) (cI cB cZ : ClassId) (zz qq vv : Nat) (bt : Nat → Int32) (c1 : Nat) (x z n eo : Nat) (mc : Int32) (o : Nat → Nat) (e0 e1 e2 e3 e4 : Int32) (ws : va_W) (sz : Nat) (hc : n < c1) (h100 : c1 ≤ 100) (hel : ∀ i : Nat, i < n → ∃ fs : List Value, ((o i, .inr (5, fs)) : Nat × va_E) ∈ ((eo, .inr (5, [.int e0, .int e1, .int e2, .int e3, .int e4])) : Nat × va_E) :: ws) : Met l yJ7_copyOf_1904c (CWS yJ7_copyOf_1904c cJ7_copyOf_1904c 2 (some (.array (.object "java/lang/Object")))) (RM 3 1 100) (PBx [.ref z, .int (nI c1)] D cI cB cZ zz qq vv bt (([(x, .inr (0, [.int mc, .ref z, .int (nI n)])), (z, .inl (D.1 99, n, .inr (.inr (.inr (.inr (fun i => if i < n then some (o i) else none)))))), (eo, .inr (5, [.int e0, .int e1, .int e2, .int e3, .int e4]))] : va_W) ++ ws) sz) (va_Qq (fun (r : Option Nat) (u : Nat) => r = some u ∧ True) (fun (u : Nat) (t : State) => va_P D vwCl (([(u, .inl (D.1 99, c1, .inr (.inr (.inr (.inr (fun i => if i < n then some (o i) else none)))))), (x, .inr (0, [.int mc, .ref z, .int (nI n)])), (z, .inl (D.1 99, n, .inr (.inr (.inr (.inr (fun i => if i < n then some (o i) else none)))))), (eo, .inr (5, [.int e0, .int e1, .int e2, .int e3, .int e4]))] : va_W) ++ ws) t.heap ∧ va_D (va_A (([(x, .inr (0, [.int mc, .ref z, .int (nI n)])), (z, .inl (D.1 99, n, .inr (.inr (.inr (.inr (fun i => if i < n then some (o i) else none)))))), (eo, .inr (5, [.int e0, .int e1, .int e2, .int e3, .int e4]))] : va_W) ++ ws) sz) (([(u, .inl (D.1 99, c1, .inr (.inr (.inr (.inr (fun i => if i < n then some (o i) else none)))))), (x, .inr (0, [.int mc, .ref z, .int (nI n)])), (z, .inl (D.1 99, n, .inr (.inr (.inr (.inr (fun i => if i < n then some (o i) else none)))))), (eo, .inr (5, [.int e0, .int e1, .int e2, .int e3, .int e4]))] : va_W) ++ ws)) (va_A (([(x, .inr (0, [.int mc, .ref z, .int (nI n)])), (z, .inl (D.1 99, n, .inr (.inr (.inr (.inr (fun i => if i < n then some (o i) else none)))))), (eo, .inr (5, [.int e0, .int e1, .int e2, .int e3, .int e4]))] : va_W) ++ ws) sz)) 1 100 (va_A (([(x, .inr (0, [.int mc, .ref z, .int (nI n)])), (z, .inl (D.1 99, n, .inr (.inr (.inr (.inr (fun i => if i < n then some (o i) else none)))))), (eo, .inr (5, [.int e0, .int e1, .int e2, .int e3, .int e4]))] : va_W) ++ ws) sz) := by
  refine en_x (fun A => (va_Qq (fun (r : Option Nat) (u : Nat) => r = some u ∧ True) (fun (u : Nat) (t : State) => va_P D vwCl (([(u, .inl (D.1 99, c1, .inr (.inr (.inr (.inr (fun i => if i < n then some (o i) else none)))))), (x, .inr (0, [.int mc, .ref z, .int (nI n)])), (z, .inl (D.1 99, n, .inr (.inr (.inr (.inr (fun i => if i < n then some (o i) else none)))))), (eo, .inr (5, [.int e0, .int e1, .int e2, .int e3, .int e4]))] : va_W) ++ ws) t.heap ∧ va_D A (([(u, .inl (D.1 99, c1, .inr (.inr (.inr (.inr (fun i => if i < n then some (o i) else none)))))), (x, .inr (0, [.int mc, .ref z, .int (nI n)])), (z, .inl (D.1 99, n, .inr (.inr (.inr (.inr (fun i => if i < n then some (o i) else none)))))), (eo, .inr (5, [.int e0, .int e1, .int e2, .int e3, .int e4]))] : va_W) ++ ws)) A)) rfl rfl pn_RJ7 (Nat.le_of_ble_eq_true rfl) (fun p e s m below meth c A hx hb hml hown S hr hlocks hnm hA hP hK hD hXS hS ls hl => ?_)
  have hP : va_P D vwCl (([(x, .inr (0, [.int mc, .ref z, .int (nI n)])), (z, .inl (D.1 99, n, .inr (.inr (.inr (.inr (fun i => if i < n then some (o i) else none)))))), (eo, .inr (5, [.int e0, .int e1, .int e2, .int e3, .int e4]))] : va_W) ++ ws) s.heap := hP
  have hD : va_D A (([(x, .inr (0, [.int mc, .ref z, .int (nI n)])), (z, .inl (D.1 99, n, .inr (.inr (.inr (.inr (fun i => if i < n then some (o i) else none)))))), (eo, .inr (5, [.int e0, .int e1, .int e2, .int e3, .int e4]))] : va_W) ++ ws) := hD
  have hl : lv_has ls 2 [(0, .ref z), (1, .int (nI c1))] := hl
  refine lv_aload_n hx hb dJ7_copyOf_1904c_0 rfl (lvA0 hl) ?_
  refine lv_iload_n hx hb dJ7_copyOf_1904c_1 rfl (lvA1 hl) ?_
  refine lv_aload_n hx hb dJ7_copyOf_1904c_2 rfl (lvA0 hl) ?_
  obtain ⟨mi, hMi⟩ := hXS.2.2.2.2.2.2.2.2.2.2.2.2.2.2
  refine va_getC (C := "[Ljava/lang/Object;") (mi := mi) hx hb (by rw [hml]; exact hl.1.symm) hown (S.2.2.2.2 _ (wk2_11 9 rfl rfl)) hXS.2.2.2.2.2.2.2.2.2.2.2.2.2.1.use (S.2.2.2.2 _ (wk9_12 10 rfl rfl)) (S.2.2.2.2 _ (wk2_11 10 rfl rfl)) (S.2.2.2.2 _ (wk2_13 2 rfl rfl)) hMi (recvQ (q0 := 1) hXS hP rfl) (Nat.le_of_ble_eq_true rfl) (Nat.le_of_ble_eq_true rfl) dJ7_copyOf_1904c_3 ?_
  have hFc := free_all hD hS hA
  refine va_callq (runS_xm (As := [.ref z, .int (nI c1), .ref mi]) (rest := []) S (q_l_cpo3P l D cI cB cZ zz qq vv bt c1 mi x z n eo mc o e0 e1 e2 e3 e4 ws s.heap.size hc h100 hel) kS_RJ7_300 hK hXS hMi hS hFc hP hD ⟨Nat.le_of_ble_eq_true rfl, Nat.le_of_ble_eq_true rfl⟩ ⟨Nat.le_of_ble_eq_true rfl, Nat.le_of_ble_eq_true rfl⟩ rfl hl.1 rfl (Nat.le_of_ble_eq_true rfl) dJ7_copyOf_1904c_6) hS (fun q _ h => hFc q h) hFc (fun r0 u0 t H1 locs ht hvm h0 hB1 hz1 hk1 hS => ?_)
  obtain ⟨hP1, hD1⟩ := hB1
  rw [ht] at hP1
  have hP : va_P D vwCl (([(u0, .inl (D.1 99, c1, .inr (.inr (.inr (.inr (fun i => if i < n then some (o i) else none)))))), (x, .inr (0, [.int mc, .ref z, .int (nI n)])), (z, .inl (D.1 99, n, .inr (.inr (.inr (.inr (fun i => if i < n then some (o i) else none)))))), (eo, .inr (5, [.int e0, .int e1, .int e2, .int e3, .int e4]))] : va_W) ++ ws) H1 := hP1
  have hD : va_D A (([(u0, .inl (D.1 99, c1, .inr (.inr (.inr (.inr (fun i => if i < n then some (o i) else none)))))), (x, .inr (0, [.int mc, .ref z, .int (nI n)])), (z, .inl (D.1 99, n, .inr (.inr (.inr (.inr (fun i => if i < n then some (o i) else none)))))), (eo, .inr (5, [.int e0, .int e1, .int e2, .int e3, .int e4]))] : va_W) ++ ws) := hD1.weaken (fun _ _ _ h => hFc _ h)
  generalize H1 = H at hP hS ⊢
  obtain ⟨hr0, h0⟩ := h0
  subst hr0
  exact W.aret (v := .ref u0) hx hb hr (by first | exact Or.inl ⟨_, rfl⟩ | exact Or.inr ⟨_, rfl⟩) (Or.inr ⟨_, rfl⟩) (fun t ht hW => ⟨⟨some u0, u0, rfl, ⟨rfl, trivial⟩, by rw [ht]; exact hP, hD⟩, hS.F ht⟩) hS.2.2 dJ7_copyOf_1904c_9
set_option maxRecDepth 100000 in
set_option maxHeartbeats 4000000 in
theorem q_l_gro1P (l : Launch) (D : va_G) (cI cB cZ : ClassId) (zz qq vv : Nat) (bt : Nat → Int32) (x z n eo : Nat) (mc : Int32) (o : Nat → Nat) (e0 e1 e2 e3 e4 : Int32) (ws : va_W) (sz : Nat) (h0 : 0 < n) (h60 : n ≤ 60) (hel : ∀ i : Nat, i < n → ∃ fs : List Value, ((o i, .inr (5, fs)) : Nat × va_E) ∈ ((eo, .inr (5, [.int e0, .int e1, .int e2, .int e3, .int e4])) : Nat × va_E) :: ws) : Met l yJx4a65c_grow_92f84 (CWS yJx4a65c_grow_92f84 cJx4a65c_grow_92f84 4 (some (.array (.object "java/lang/Object")))) (RM 4 1 100) (PBx [.ref x, .int (nI (n + 1))] D cI cB cZ zz qq vv bt (([(x, .inr (0, [.int mc, .ref z, .int (nI n)])), (z, .inl (D.1 99, n, .inr (.inr (.inr (.inr (fun i => if i < n then some (o i) else none)))))), (eo, .inr (5, [.int e0, .int e1, .int e2, .int e3, .int e4]))] : va_W) ++ ws) sz) (va_Qq (fun (r : Option Nat) (u : Nat × Nat) => r = some u.1 ∧ (n < u.2 ∧ u.2 ≤ 100)) (fun (u : Nat × Nat) (t : State) => va_P D vwCl (([(x, .inr (0, [.int mc, .ref u.1, .int (nI n)])), (u.1, .inl (D.1 99, u.2, .inr (.inr (.inr (.inr (fun i => if i < n then some (o i) else none)))))), (eo, .inr (5, [.int e0, .int e1, .int e2, .int e3, .int e4]))] : va_W) ++ ws) t.heap ∧ va_D (va_A (([(x, .inr (0, [.int mc, .ref z, .int (nI n)])), (z, .inl (D.1 99, n, .inr (.inr (.inr (.inr (fun i => if i < n then some (o i) else none)))))), (eo, .inr (5, [.int e0, .int e1, .int e2, .int e3, .int e4]))] : va_W) ++ ws) sz) (([(x, .inr (0, [.int mc, .ref u.1, .int (nI n)])), (u.1, .inl (D.1 99, u.2, .inr (.inr (.inr (.inr (fun i => if i < n then some (o i) else none)))))), (eo, .inr (5, [.int e0, .int e1, .int e2, .int e3, .int e4]))] : va_W) ++ ws)) (va_A (([(x, .inr (0, [.int mc, .ref z, .int (nI n)])), (z, .inl (D.1 99, n, .inr (.inr (.inr (.inr (fun i => if i < n then some (o i) else none)))))), (eo, .inr (5, [.int e0, .int e1, .int e2, .int e3, .int e4]))] : va_W) ++ ws) sz)) 1 100 (va_A (([(x, .inr (0, [.int mc, .ref z, .int (nI n)])), (z, .inl (D.1 99, n, .inr (.inr (.inr (.inr (fun i => if i < n then some (o i) else none)))))), (eo, .inr (5, [.int e0, .int e1, .int e2, .int e3, .int e4]))] : va_W) ++ ws) sz) := by
  refine en_x (fun A => (va_Qq (fun (r : Option Nat) (u : Nat × Nat) => r = some u.1 ∧ (n < u.2 ∧ u.2 ≤ 100)) (fun (u : Nat × Nat) (t : State) => va_P D vwCl (([(x, .inr (0, [.int mc, .ref u.1, .int (nI n)])), (u.1, .inl (D.1 99, u.2, .inr (.inr (.inr (.inr (fun i => if i < n then some (o i) else none)))))), (eo, .inr (5, [.int e0, .int e1, .int e2, .int e3, .int e4]))] : va_W) ++ ws) t.heap ∧ va_D A (([(x, .inr (0, [.int mc, .ref u.1, .int (nI n)])), (u.1, .inl (D.1 99, u.2, .inr (.inr (.inr (.inr (fun i => if i < n then some (o i) else none)))))), (eo, .inr (5, [.int e0, .int e1, .int e2, .int e3, .int e4]))] : va_W) ++ ws)) A)) rfl rfl pn_RJx4a65c (Nat.le_of_ble_eq_true rfl) (fun p e s m below meth c A hx hb hml hown S hr hlocks hnm hA hP hK hD hXS hS ls hl => ?_)
  have hP : va_P D vwCl (([(x, .inr (0, [.int mc, .ref z, .int (nI n)])), (z, .inl (D.1 99, n, .inr (.inr (.inr (.inr (fun i => if i < n then some (o i) else none)))))), (eo, .inr (5, [.int e0, .int e1, .int e2, .int e3, .int e4]))] : va_W) ++ ws) s.heap := hP
  have hD : va_D A (([(x, .inr (0, [.int mc, .ref z, .int (nI n)])), (z, .inl (D.1 99, n, .inr (.inr (.inr (.inr (fun i => if i < n then some (o i) else none)))))), (eo, .inr (5, [.int e0, .int e1, .int e2, .int e3, .int e4]))] : va_W) ++ ws) := hD
  have hl : lv_has ls 4 [(0, .ref x), (1, .int (nI (n + 1)))] := hl
  have tn : (nI n).toInt = (n : Int) := nI_toInt (by omega)
  refine lv_aload_n hx hb dJx4a65c_grow_92f84_0 rfl (lvA0 hl) ?_
  refine gf_RJx4a65c_9 S hK hP 0 rfl (v := .ref z) rfl dJx4a65c_grow_92f84_1 ?_
  refine va_alen hx hb hXS.2.2.2.2.2.2.2.2.1 hP 1 0 rfl rfl (v := (nI n)) rfl dJx4a65c_grow_92f84_4 ?_
  refine lv_istore_n (lv' := [(2, .int (nI n)), (0, .ref x), (1, .int (nI (n + 1)))]) hx hb dJx4a65c_grow_92f84_5 rfl hl (ltb rfl) rfl (fun ls hl => ?_)
  refine lv_iload_n hx hb dJx4a65c_grow_92f84_6 rfl (lvA0 hl) ?_
  refine lv_if_gt (tgt := 20) hx hb dJx4a65c_grow_92f84_7 rfl (fun c_1 => ?_) (fun c_1 => False.elim (by have tc_1 : ((nI n).toInt : Int) ≤ 0 := Int32.le_iff_toInt_le.mp (Int32.not_lt.mp c_1); omega))
  have tc_1 : (0 : Int) < (nI n).toInt := Int32.lt_iff_toInt_lt.mp c_1
  refine lv_iload_n hx hb dJx4a65c_grow_92f84_20 rfl (lvA0 hl) ?_
  refine lv_iload_n hx hb dJx4a65c_grow_92f84_21 rfl (lvA2 hl) ?_
  refine lv_iload_n hx hb dJx4a65c_grow_92f84_22 rfl (lvA0 hl) ?_
  refine lv_isub hx hb dJx4a65c_grow_92f84_23 ?_
  refine lv_topi (fun y_2 ey_2 => ?_)
  obtain rfl : y_2 = 1 := ey_2.trans (by rw [nI_sub (by omega), show n + 1 - n = 1 by omega]; rfl)
  refine lv_iload_n hx hb dJx4a65c_grow_92f84_24 rfl (lvA0 hl) ?_
  refine lv_iconst (v := 1) hx hb dJx4a65c_grow_92f84_25 kic_1 ?_
  refine lv_ishr hx hb dJx4a65c_grow_92f84_26 ?_
  refine lv_topi (fun y_3 ey_3 => ?_)
  obtain rfl : y_3 = (nI (n / 2)) := ey_3.trans (shr1 n (by omega))
  refine vp_callSi (runS_r (As := [.int (nI n), .int 1, .int (nI (n / 2))]) (rest := []) S (q_l_newLen l D cI cB cZ n (n / 2) (by omega) (by omega)) kS_RJx4a65c_73 hK hP [] rfl ⟨Nat.le_of_ble_eq_true rfl, Nat.le_of_ble_eq_true rfl⟩ ⟨Nat.le_of_ble_eq_true rfl, Nat.le_of_ble_eq_true rfl⟩ rfl hl.1 rfl (Nat.le_of_ble_eq_true rfl) dJx4a65c_grow_92f84_27) (fun r_4 h_5 => ?_)
  subst h_5
  refine lv_istore_n (lv' := [(3, .int (nI (n + max 1 (n / 2)))), (2, .int (nI n)), (0, .ref x), (1, .int (nI (n + 1)))]) hx hb dJx4a65c_grow_92f84_30 rfl hl (ltb rfl) rfl (fun ls hl => ?_)
  refine lv_aload_n hx hb dJx4a65c_grow_92f84_31 rfl (lvA2 hl) ?_
  refine lv_aload_n hx hb dJx4a65c_grow_92f84_32 rfl (lvA2 hl) ?_
  refine gf_RJx4a65c_9 S hK hP 0 rfl (v := .ref z) rfl dJx4a65c_grow_92f84_33 ?_
  refine lv_iload_n hx hb dJx4a65c_grow_92f84_36 rfl (lvA0 hl) ?_
  have hFc := free_all hD hS hA
  refine va_callq (runS_xa (As := [.ref z, .int (nI (n + max 1 (n / 2)))]) (rest := [.ref x]) S (q_l_cpo2P l D cI cB cZ zz qq vv bt (n + max 1 (n / 2)) x z n eo mc o e0 e1 e2 e3 e4 ws s.heap.size (by omega) (by omega) hel) kS_RJx4a65c_66 hK hXS hS hFc hP hD ⟨Nat.le_of_ble_eq_true rfl, Nat.le_of_ble_eq_true rfl⟩ ⟨Nat.le_of_ble_eq_true rfl, Nat.le_of_ble_eq_true rfl⟩ rfl hl.1 rfl (Nat.le_of_ble_eq_true rfl) dJx4a65c_grow_92f84_37) hS (fun q _ h => hFc q h) hFc (fun r5 u5 t H1 locs ht hvm h5 hB1 hz1 hk1 hS => ?_)
  obtain ⟨hP1, hD1⟩ := hB1
  rw [ht] at hP1
  have hP : va_P D vwCl (([(u5, .inl (D.1 99, (n + max 1 (n / 2)), .inr (.inr (.inr (.inr (fun i => if i < n then some (o i) else none)))))), (x, .inr (0, [.int mc, .ref z, .int (nI n)])), (z, .inl (D.1 99, n, .inr (.inr (.inr (.inr (fun i => if i < n then some (o i) else none)))))), (eo, .inr (5, [.int e0, .int e1, .int e2, .int e3, .int e4]))] : va_W) ++ ws) H1 := hP1
  have hD : va_D A (([(u5, .inl (D.1 99, (n + max 1 (n / 2)), .inr (.inr (.inr (.inr (fun i => if i < n then some (o i) else none)))))), (x, .inr (0, [.int mc, .ref z, .int (nI n)])), (z, .inl (D.1 99, n, .inr (.inr (.inr (.inr (fun i => if i < n then some (o i) else none)))))), (eo, .inr (5, [.int e0, .int e1, .int e2, .int e3, .int e4]))] : va_W) ++ ws) := hD1.weaken (fun _ _ _ h => hFc _ h)
  generalize H1 = H at hP hS ⊢
  obtain ⟨hr5, h5⟩ := h5
  subst hr5
  refine lv_dup_x1 hx hb dJx4a65c_grow_92f84_40 rfl rfl ?_
  refine pf_RJx4a65c_9 S hK hP hD hS 1 rfl (v := .ref u5) (Nat.le_of_ble_eq_true rfl) rfl rfl dJx4a65c_grow_92f84_41 (fun H locs hP hD hS => ?_)
  have hP : va_P D vwCl (([(u5, .inl (D.1 99, (n + max 1 (n / 2)), .inr (.inr (.inr (.inr (fun i => if i < n then some (o i) else none)))))), (x, .inr (0, [.int mc, .ref u5, .int (nI n)])), (z, .inl (D.1 99, n, .inr (.inr (.inr (.inr (fun i => if i < n then some (o i) else none)))))), (eo, .inr (5, [.int e0, .int e1, .int e2, .int e3, .int e4]))] : va_W) ++ ws) H := hP
  have hD : va_D A (([(u5, .inl (D.1 99, (n + max 1 (n / 2)), .inr (.inr (.inr (.inr (fun i => if i < n then some (o i) else none)))))), (x, .inr (0, [.int mc, .ref u5, .int (nI n)])), (z, .inl (D.1 99, n, .inr (.inr (.inr (.inr (fun i => if i < n then some (o i) else none)))))), (eo, .inr (5, [.int e0, .int e1, .int e2, .int e3, .int e4]))] : va_W) ++ ws) := hD
  have hP : va_P D vwCl (([(x, .inr (0, [.int mc, .ref u5, .int (nI n)])), (u5, .inl (D.1 99, (n + max 1 (n / 2)), .inr (.inr (.inr (.inr (fun i => if i < n then some (o i) else none)))))), (eo, .inr (5, [.int e0, .int e1, .int e2, .int e3, .int e4]))] : va_W) ++ ws) H := g_dropP hP
  have hD : va_D A (([(x, .inr (0, [.int mc, .ref u5, .int (nI n)])), (u5, .inl (D.1 99, (n + max 1 (n / 2)), .inr (.inr (.inr (.inr (fun i => if i < n then some (o i) else none)))))), (eo, .inr (5, [.int e0, .int e1, .int e2, .int e3, .int e4]))] : va_W) ++ ws) := g_dropD hD
  exact W.aret (v := .ref u5) hx hb hr (by first | exact Or.inl ⟨_, rfl⟩ | exact Or.inr ⟨_, rfl⟩) (Or.inr ⟨_, rfl⟩) (fun t ht hW => ⟨⟨some u5, (u5, (n + max 1 (n / 2))), rfl, ⟨rfl, by omega, by omega⟩, by rw [ht]; exact hP, hD⟩, hS.F ht⟩) hS.2.2 dJx4a65c_grow_92f84_44
set_option maxRecDepth 100000 in
set_option maxHeartbeats 4000000 in
theorem q_l_gro0P (l : Launch) (D : va_G) (cI cB cZ : ClassId) (zz qq vv : Nat) (bt : Nat → Int32) (x z n eo : Nat) (mc : Int32) (o : Nat → Nat) (e0 e1 e2 e3 e4 : Int32) (ws : va_W) (sz : Nat) (h0 : 0 < n) (h60 : n ≤ 60) (hel : ∀ i : Nat, i < n → ∃ fs : List Value, ((o i, .inr (5, fs)) : Nat × va_E) ∈ ((eo, .inr (5, [.int e0, .int e1, .int e2, .int e3, .int e4])) : Nat × va_E) :: ws) : Met l yJx4a65c_grow_d5877 (CWS yJx4a65c_grow_d5877 cJx4a65c_grow_d5877 1 (some (.array (.object "java/lang/Object")))) (RM 5 1 100) (PBx [.ref x] D cI cB cZ zz qq vv bt (([(x, .inr (0, [.int mc, .ref z, .int (nI n)])), (z, .inl (D.1 99, n, .inr (.inr (.inr (.inr (fun i => if i < n then some (o i) else none)))))), (eo, .inr (5, [.int e0, .int e1, .int e2, .int e3, .int e4]))] : va_W) ++ ws) sz) (va_Qq (fun (r : Option Nat) (u : Nat × Nat) => r = some u.1 ∧ (n < u.2 ∧ u.2 ≤ 100)) (fun (u : Nat × Nat) (t : State) => va_P D vwCl (([(x, .inr (0, [.int mc, .ref u.1, .int (nI n)])), (u.1, .inl (D.1 99, u.2, .inr (.inr (.inr (.inr (fun i => if i < n then some (o i) else none)))))), (eo, .inr (5, [.int e0, .int e1, .int e2, .int e3, .int e4]))] : va_W) ++ ws) t.heap ∧ va_D (va_A (([(x, .inr (0, [.int mc, .ref z, .int (nI n)])), (z, .inl (D.1 99, n, .inr (.inr (.inr (.inr (fun i => if i < n then some (o i) else none)))))), (eo, .inr (5, [.int e0, .int e1, .int e2, .int e3, .int e4]))] : va_W) ++ ws) sz) (([(x, .inr (0, [.int mc, .ref u.1, .int (nI n)])), (u.1, .inl (D.1 99, u.2, .inr (.inr (.inr (.inr (fun i => if i < n then some (o i) else none)))))), (eo, .inr (5, [.int e0, .int e1, .int e2, .int e3, .int e4]))] : va_W) ++ ws)) (va_A (([(x, .inr (0, [.int mc, .ref z, .int (nI n)])), (z, .inl (D.1 99, n, .inr (.inr (.inr (.inr (fun i => if i < n then some (o i) else none)))))), (eo, .inr (5, [.int e0, .int e1, .int e2, .int e3, .int e4]))] : va_W) ++ ws) sz)) 1 100 (va_A (([(x, .inr (0, [.int mc, .ref z, .int (nI n)])), (z, .inl (D.1 99, n, .inr (.inr (.inr (.inr (fun i => if i < n then some (o i) else none)))))), (eo, .inr (5, [.int e0, .int e1, .int e2, .int e3, .int e4]))] : va_W) ++ ws) sz) := by
  refine en_x (fun A => (va_Qq (fun (r : Option Nat) (u : Nat × Nat) => r = some u.1 ∧ (n < u.2 ∧ u.2 ≤ 100)) (fun (u : Nat × Nat) (t : State) => va_P D vwCl (([(x, .inr (0, [.int mc, .ref u.1, .int (nI n)])), (u.1, .inl (D.1 99, u.2, .inr (.inr (.inr (.inr (fun i => if i < n then some (o i) else none)))))), (eo, .inr (5, [.int e0, .int e1, .int e2, .int e3, .int e4]))] : va_W) ++ ws) t.heap ∧ va_D A (([(x, .inr (0, [.int mc, .ref u.1, .int (nI n)])), (u.1, .inl (D.1 99, u.2, .inr (.inr (.inr (.inr (fun i => if i < n then some (o i) else none)))))), (eo, .inr (5, [.int e0, .int e1, .int e2, .int e3, .int e4]))] : va_W) ++ ws)) A)) rfl rfl pn_RJx4a65c (Nat.le_of_ble_eq_true rfl) (fun p e s m below meth c A hx hb hml hown S hr hlocks hnm hA hP hK hD hXS hS ls hl => ?_)
  have hP : va_P D vwCl (([(x, .inr (0, [.int mc, .ref z, .int (nI n)])), (z, .inl (D.1 99, n, .inr (.inr (.inr (.inr (fun i => if i < n then some (o i) else none)))))), (eo, .inr (5, [.int e0, .int e1, .int e2, .int e3, .int e4]))] : va_W) ++ ws) s.heap := hP
  have hD : va_D A (([(x, .inr (0, [.int mc, .ref z, .int (nI n)])), (z, .inl (D.1 99, n, .inr (.inr (.inr (.inr (fun i => if i < n then some (o i) else none)))))), (eo, .inr (5, [.int e0, .int e1, .int e2, .int e3, .int e4]))] : va_W) ++ ws) := hD
  have hl : lv_has ls 1 [(0, .ref x)] := hl
  refine lv_aload_n hx hb dJx4a65c_grow_d5877_0 rfl (lvA0 hl) ?_
  refine lv_aload_n hx hb dJx4a65c_grow_d5877_1 rfl (lvA0 hl) ?_
  refine gf_RJx4a65c_48 S hK hP 0 rfl (v := .int (nI n)) rfl dJx4a65c_grow_d5877_2 ?_
  refine lv_iconst (v := 1) hx hb dJx4a65c_grow_d5877_5 kic_1 ?_
  refine lv_iadd hx hb dJx4a65c_grow_d5877_6 ?_
  refine lv_topi (fun y_1 ey_1 => ?_)
  obtain rfl : y_1 = (nI (n + 1)) := ey_1.trans (nI_1 _)
  have hFc := free_all hD hS hA
  refine va_callq (runV_xa (As := [.int (nI (n + 1))]) (rest := []) S (q_l_gro1P l D cI cB cZ zz qq vv bt x z n eo mc o e0 e1 e2 e3 e4 ws s.heap.size h0 h60 hel) kV_RJx4a65c_69 hK hXS hS hFc hP hD 0 rfl rfl rfl ⟨Nat.le_of_ble_eq_true rfl, Nat.le_of_ble_eq_true rfl⟩ ⟨Nat.le_of_ble_eq_true rfl, Nat.le_of_ble_eq_true rfl⟩ rfl hl.1 rfl (Nat.le_of_ble_eq_true rfl) dJx4a65c_grow_d5877_7) hS (fun q _ h => hFc q h) hFc (fun r1 u1 t H1 locs ht hvm h1 hB1 hz1 hk1 hS => ?_)
  obtain ⟨hP1, hD1⟩ := hB1
  rw [ht] at hP1
  obtain ⟨ua1, uc1⟩ := u1
  have hP : va_P D vwCl (([(x, .inr (0, [.int mc, .ref ua1, .int (nI n)])), (ua1, .inl (D.1 99, uc1, .inr (.inr (.inr (.inr (fun i => if i < n then some (o i) else none)))))), (eo, .inr (5, [.int e0, .int e1, .int e2, .int e3, .int e4]))] : va_W) ++ ws) H1 := hP1
  have hD : va_D A (([(x, .inr (0, [.int mc, .ref ua1, .int (nI n)])), (ua1, .inl (D.1 99, uc1, .inr (.inr (.inr (.inr (fun i => if i < n then some (o i) else none)))))), (eo, .inr (5, [.int e0, .int e1, .int e2, .int e3, .int e4]))] : va_W) ++ ws) := hD1.weaken (fun _ _ _ h => hFc _ h)
  generalize H1 = H at hP hS ⊢
  obtain ⟨hr1, h1⟩ := h1
  subst hr1
  exact W.aret (v := .ref ua1) hx hb hr (by first | exact Or.inl ⟨_, rfl⟩ | exact Or.inr ⟨_, rfl⟩) (Or.inr ⟨_, rfl⟩) (fun t ht hW => ⟨⟨some ua1, (ua1, uc1), rfl, ⟨rfl, h1⟩, by rw [ht]; exact hP, hD⟩, hS.F ht⟩) hS.2.2 dJx4a65c_grow_d5877_10
set_option maxRecDepth 100000 in
set_option maxHeartbeats 4000000 in
theorem q_l_ad3GP (l : Launch) (D : va_G) (cI cB cZ : ClassId) (zz qq vv : Nat) (bt : Nat → Int32) (c0 : Nat) (x z n eo : Nat) (mc : Int32) (o : Nat → Nat) (e0 e1 e2 e3 e4 : Int32) (ws : va_W) (sz : Nat) (hn : n ≤ c0) (hc : c0 ≤ 100) (h0 : 0 < n) (h60 : n ≤ 60) (hel : ∀ i : Nat, i < n → ∃ fs : List Value, ((o i, .inr (5, fs)) : Nat × va_E) ∈ ((eo, .inr (5, [.int e0, .int e1, .int e2, .int e3, .int e4])) : Nat × va_E) :: ws) : Met l yJx4a65c_add_72be8 (CWS yJx4a65c_add_72be8 cJx4a65c_add_72be8 4 none) (RM 6 1 100) (PBx [.ref x, .ref eo, .ref z, .int (nI n)] D cI cB cZ zz qq vv bt (([(x, .inr (0, [.int mc, .ref z, .int (nI n)])), (z, .inl (D.1 99, c0, .inr (.inr (.inr (.inr (fun i => if i < n then some (o i) else none)))))), (eo, .inr (5, [.int e0, .int e1, .int e2, .int e3, .int e4]))] : va_W) ++ ws) sz) (va_Qv (fun (u : Nat × Nat) => (n < u.2 ∧ u.2 ≤ 100)) (fun (u : Nat × Nat) (t : State) => va_P D vwCl (([(x, .inr (0, [.int mc, .ref u.1, .int (nI (n + 1))])), (u.1, .inl (D.1 99, u.2, .inr (.inr (.inr (.inr (va_up (fun i => if i < n then some (o i) else none) n (some eo))))))), (eo, .inr (5, [.int e0, .int e1, .int e2, .int e3, .int e4]))] : va_W) ++ ws) t.heap ∧ va_D (va_A (([(x, .inr (0, [.int mc, .ref z, .int (nI n)])), (z, .inl (D.1 99, c0, .inr (.inr (.inr (.inr (fun i => if i < n then some (o i) else none)))))), (eo, .inr (5, [.int e0, .int e1, .int e2, .int e3, .int e4]))] : va_W) ++ ws) sz) (([(x, .inr (0, [.int mc, .ref u.1, .int (nI (n + 1))])), (u.1, .inl (D.1 99, u.2, .inr (.inr (.inr (.inr (va_up (fun i => if i < n then some (o i) else none) n (some eo))))))), (eo, .inr (5, [.int e0, .int e1, .int e2, .int e3, .int e4]))] : va_W) ++ ws)) (va_A (([(x, .inr (0, [.int mc, .ref z, .int (nI n)])), (z, .inl (D.1 99, c0, .inr (.inr (.inr (.inr (fun i => if i < n then some (o i) else none)))))), (eo, .inr (5, [.int e0, .int e1, .int e2, .int e3, .int e4]))] : va_W) ++ ws) sz)) 1 100 (va_A (([(x, .inr (0, [.int mc, .ref z, .int (nI n)])), (z, .inl (D.1 99, c0, .inr (.inr (.inr (.inr (fun i => if i < n then some (o i) else none)))))), (eo, .inr (5, [.int e0, .int e1, .int e2, .int e3, .int e4]))] : va_W) ++ ws) sz) := by
  refine en_x (fun A => (va_Qv (fun (u : Nat × Nat) => (n < u.2 ∧ u.2 ≤ 100)) (fun (u : Nat × Nat) (t : State) => va_P D vwCl (([(x, .inr (0, [.int mc, .ref u.1, .int (nI (n + 1))])), (u.1, .inl (D.1 99, u.2, .inr (.inr (.inr (.inr (va_up (fun i => if i < n then some (o i) else none) n (some eo))))))), (eo, .inr (5, [.int e0, .int e1, .int e2, .int e3, .int e4]))] : va_W) ++ ws) t.heap ∧ va_D A (([(x, .inr (0, [.int mc, .ref u.1, .int (nI (n + 1))])), (u.1, .inl (D.1 99, u.2, .inr (.inr (.inr (.inr (va_up (fun i => if i < n then some (o i) else none) n (some eo))))))), (eo, .inr (5, [.int e0, .int e1, .int e2, .int e3, .int e4]))] : va_W) ++ ws)) A)) rfl rfl pn_RJx4a65c (Nat.le_of_ble_eq_true rfl) (fun p e s m below meth c A hx hb hml hown S hr hlocks hnm hA hP hK hD hXS hS ls hl => ?_)
  have hP : va_P D vwCl (([(x, .inr (0, [.int mc, .ref z, .int (nI n)])), (z, .inl (D.1 99, c0, .inr (.inr (.inr (.inr (fun i => if i < n then some (o i) else none)))))), (eo, .inr (5, [.int e0, .int e1, .int e2, .int e3, .int e4]))] : va_W) ++ ws) s.heap := hP
  have hD : va_D A (([(x, .inr (0, [.int mc, .ref z, .int (nI n)])), (z, .inl (D.1 99, c0, .inr (.inr (.inr (.inr (fun i => if i < n then some (o i) else none)))))), (eo, .inr (5, [.int e0, .int e1, .int e2, .int e3, .int e4]))] : va_W) ++ ws) := hD
  have hl : lv_has ls 4 [(0, .ref x), (1, .ref eo), (2, .ref z), (3, .int (nI n))] := hl
  have tn : (nI n).toInt = (n : Int) := nI_toInt (by omega)
  have tc : (nI c0).toInt = (c0 : Int) := nI_toInt (by omega)
  refine lv_iload_n hx hb dJx4a65c_add_72be8_0 rfl (lvA3 hl) ?_
  refine lv_aload_n hx hb dJx4a65c_add_72be8_1 rfl (lvA2 hl) ?_
  refine va_alen hx hb hXS.2.2.2.2.2.2.2.2.1 hP 1 0 rfl rfl (v := (nI c0)) rfl dJx4a65c_add_72be8_2 ?_
  refine lv_icmp_ne (tgt := 11) hx hb dJx4a65c_add_72be8_3 rfl (fun c_1 => ?_) (fun c_1 => ?_)
  ·
    have tc_1 : ((nI n).toInt : Int) ≠ (nI c0).toInt := fun q => c_1 (Int32.toInt_inj.mp q)
    refine lv_aload_n hx hb dJx4a65c_add_72be8_11 rfl (lvA2 hl) ?_
    refine lv_iload_n hx hb dJx4a65c_add_72be8_12 rfl (lvA3 hl) ?_
    refine lv_aload_n hx hb dJx4a65c_add_72be8_13 rfl (lvA1 hl) ?_
    have hca14 : va_Nw (.castable (RX4, TX4, 5).1 "java/lang/Object") s := hXS.2.2.2.2.2.2.2.2.2.2.2.2.1.2.2.1
    refine va_astqO (r := (RX4, TX4, 5)) (E := "java/lang/Object") (cA := D.1 99) hx hb hXS.2.2.2.2.2.2.2.2.1 hP hD hS 1 0 2 5 rfl rfl hca14 rfl rfl (vp_in_nI (by omega) (by omega)) dJx4a65c_add_72be8_14 (fun H locs hP hD hS => ?_)
    have hP : va_P D vwCl (([(x, .inr (0, [.int mc, .ref z, .int (nI n)])), (z, .inl (D.1 99, c0, .inr (.inr (.inr (.inr (va_up (fun i => if i < n then some (o i) else none) (nI n).toNatClampNeg (some eo))))))), (eo, .inr (5, [.int e0, .int e1, .int e2, .int e3, .int e4]))] : va_W) ++ ws) H := hP
    have hD : va_D A (([(x, .inr (0, [.int mc, .ref z, .int (nI n)])), (z, .inl (D.1 99, c0, .inr (.inr (.inr (.inr (va_up (fun i => if i < n then some (o i) else none) (nI n).toNatClampNeg (some eo))))))), (eo, .inr (5, [.int e0, .int e1, .int e2, .int e3, .int e4]))] : va_W) ++ ws) := hD
    rw [nI_clamp (by omega)] at hP hD
    have hP : va_P D vwCl (([(x, .inr (0, [.int mc, .ref z, .int (nI n)])), (z, .inl (D.1 99, c0, .inr (.inr (.inr (.inr (va_up (fun i => if i < n then some (o i) else none) n (some eo))))))), (eo, .inr (5, [.int e0, .int e1, .int e2, .int e3, .int e4]))] : va_W) ++ ws) H := hP
    have hD : va_D A (([(x, .inr (0, [.int mc, .ref z, .int (nI n)])), (z, .inl (D.1 99, c0, .inr (.inr (.inr (.inr (va_up (fun i => if i < n then some (o i) else none) n (some eo))))))), (eo, .inr (5, [.int e0, .int e1, .int e2, .int e3, .int e4]))] : va_W) ++ ws) := hD
    refine lv_aload_n hx hb dJx4a65c_add_72be8_15 rfl (lvA0 hl) ?_
    refine lv_iload_n hx hb dJx4a65c_add_72be8_16 rfl (lvA3 hl) ?_
    refine lv_iconst (v := 1) hx hb dJx4a65c_add_72be8_17 kic_1 ?_
    refine lv_iadd hx hb dJx4a65c_add_72be8_18 ?_
    refine lv_topi (fun y_2 ey_2 => ?_)
    obtain rfl : y_2 = (nI (n + 1)) := ey_2.trans (nI_1 _)
    refine pf_RJx4a65c_48 S hK hP hD hS 0 rfl (v := .int (nI (n + 1))) (Nat.le_of_ble_eq_true rfl) rfl rfl dJx4a65c_add_72be8_19 (fun H locs hP hD hS => ?_)
    have hP : va_P D vwCl (([(x, .inr (0, [.int mc, .ref z, .int (nI (n + 1))])), (z, .inl (D.1 99, c0, .inr (.inr (.inr (.inr (va_up (fun i => if i < n then some (o i) else none) n (some eo))))))), (eo, .inr (5, [.int e0, .int e1, .int e2, .int e3, .int e4]))] : va_W) ++ ws) H := hP
    have hD : va_D A (([(x, .inr (0, [.int mc, .ref z, .int (nI (n + 1))])), (z, .inl (D.1 99, c0, .inr (.inr (.inr (.inr (va_up (fun i => if i < n then some (o i) else none) n (some eo))))))), (eo, .inr (5, [.int e0, .int e1, .int e2, .int e3, .int e4]))] : va_W) ++ ws) := hD
    refine W.widen (k := 1) (n := 100) (by omega) (by omega) ?_
    exact W.vret hx hb hr (fun t ht hW => ⟨⟨(z, c0), rfl, ⟨by omega, by omega⟩, by rw [ht]; exact hP, hD⟩, hS.F ht⟩) hS.2.2 dJx4a65c_add_72be8_22
  ·
    have tc_1 : ((nI n).toInt : Int) = (nI c0).toInt := congrArg Int32.toInt c_1
    obtain rfl : n = c0 := by omega
    refine lv_aload_n hx hb dJx4a65c_add_72be8_6 rfl (lvA0 hl) ?_
    have hFc := free_all hD hS hA
    refine va_callq (runV_xa (As := []) (rest := []) S (q_l_gro0P l D cI cB cZ zz qq vv bt x z n eo mc o e0 e1 e2 e3 e4 ws s.heap.size h0 h60 hel) kV_RJx4a65c_129 hK hXS hS hFc hP hD 0 rfl rfl rfl ⟨Nat.le_of_ble_eq_true rfl, Nat.le_of_ble_eq_true rfl⟩ ⟨Nat.le_of_ble_eq_true rfl, Nat.le_of_ble_eq_true rfl⟩ rfl hl.1 rfl (Nat.le_of_ble_eq_true rfl) dJx4a65c_add_72be8_7) hS (fun q _ h => hFc q h) hFc (fun r2 u2 t H1 locs ht hvm h2 hB1 hz1 hk1 hS => ?_)
    obtain ⟨hP1, hD1⟩ := hB1
    rw [ht] at hP1
    obtain ⟨ua2, uc2⟩ := u2
    have hP : va_P D vwCl (([(x, .inr (0, [.int mc, .ref ua2, .int (nI n)])), (ua2, .inl (D.1 99, uc2, .inr (.inr (.inr (.inr (fun i => if i < n then some (o i) else none)))))), (eo, .inr (5, [.int e0, .int e1, .int e2, .int e3, .int e4]))] : va_W) ++ ws) H1 := hP1
    have hD : va_D A (([(x, .inr (0, [.int mc, .ref ua2, .int (nI n)])), (ua2, .inl (D.1 99, uc2, .inr (.inr (.inr (.inr (fun i => if i < n then some (o i) else none)))))), (eo, .inr (5, [.int e0, .int e1, .int e2, .int e3, .int e4]))] : va_W) ++ ws) := hD1.weaken (fun _ _ _ h => hFc _ h)
    generalize H1 = H at hP hS ⊢
    obtain ⟨hr2, h2⟩ := h2
    subst hr2
    refine lv_astore_n (lv' := [(2, .ref ua2), (0, .ref x), (1, .ref eo), (3, .int (nI n))]) hx hb dJx4a65c_add_72be8_10 rfl hl (ltb rfl) rfl (fun ls hl => ?_)
    refine lv_aload_n hx hb dJx4a65c_add_72be8_11 rfl (lvA0 hl) ?_
    refine lv_iload_n hx hb dJx4a65c_add_72be8_12 rfl (lvA3 hl) ?_
    refine lv_aload_n hx hb dJx4a65c_add_72be8_13 rfl (lvA2 hl) ?_
    have hca14 : va_Nw (.castable (RX4, TX4, 5).1 "java/lang/Object") s := hXS.2.2.2.2.2.2.2.2.2.2.2.2.1.2.2.1
    refine va_astqO (r := (RX4, TX4, 5)) (E := "java/lang/Object") (cA := D.1 99) hx hb hXS.2.2.2.2.2.2.2.2.1 hP hD hS 1 0 2 5 rfl rfl hca14 rfl rfl (vp_in_nI (by omega) (by omega)) dJx4a65c_add_72be8_14 (fun H locs hP hD hS => ?_)
    have hP : va_P D vwCl (([(x, .inr (0, [.int mc, .ref ua2, .int (nI n)])), (ua2, .inl (D.1 99, uc2, .inr (.inr (.inr (.inr (va_up (fun i => if i < n then some (o i) else none) (nI n).toNatClampNeg (some eo))))))), (eo, .inr (5, [.int e0, .int e1, .int e2, .int e3, .int e4]))] : va_W) ++ ws) H := hP
    have hD : va_D A (([(x, .inr (0, [.int mc, .ref ua2, .int (nI n)])), (ua2, .inl (D.1 99, uc2, .inr (.inr (.inr (.inr (va_up (fun i => if i < n then some (o i) else none) (nI n).toNatClampNeg (some eo))))))), (eo, .inr (5, [.int e0, .int e1, .int e2, .int e3, .int e4]))] : va_W) ++ ws) := hD
    rw [nI_clamp (by omega)] at hP hD
    have hP : va_P D vwCl (([(x, .inr (0, [.int mc, .ref ua2, .int (nI n)])), (ua2, .inl (D.1 99, uc2, .inr (.inr (.inr (.inr (va_up (fun i => if i < n then some (o i) else none) n (some eo))))))), (eo, .inr (5, [.int e0, .int e1, .int e2, .int e3, .int e4]))] : va_W) ++ ws) H := hP
    have hD : va_D A (([(x, .inr (0, [.int mc, .ref ua2, .int (nI n)])), (ua2, .inl (D.1 99, uc2, .inr (.inr (.inr (.inr (va_up (fun i => if i < n then some (o i) else none) n (some eo))))))), (eo, .inr (5, [.int e0, .int e1, .int e2, .int e3, .int e4]))] : va_W) ++ ws) := hD
    refine lv_aload_n hx hb dJx4a65c_add_72be8_15 rfl (lvA1 hl) ?_
    refine lv_iload_n hx hb dJx4a65c_add_72be8_16 rfl (lvA3 hl) ?_
    refine lv_iconst (v := 1) hx hb dJx4a65c_add_72be8_17 kic_1 ?_
    refine lv_iadd hx hb dJx4a65c_add_72be8_18 ?_
    refine lv_topi (fun y_4 ey_4 => ?_)
    obtain rfl : y_4 = (nI (n + 1)) := ey_4.trans (nI_1 _)
    refine pf_RJx4a65c_48 S hK hP hD hS 0 rfl (v := .int (nI (n + 1))) (Nat.le_of_ble_eq_true rfl) rfl rfl dJx4a65c_add_72be8_19 (fun H locs hP hD hS => ?_)
    have hP : va_P D vwCl (([(x, .inr (0, [.int mc, .ref ua2, .int (nI (n + 1))])), (ua2, .inl (D.1 99, uc2, .inr (.inr (.inr (.inr (va_up (fun i => if i < n then some (o i) else none) n (some eo))))))), (eo, .inr (5, [.int e0, .int e1, .int e2, .int e3, .int e4]))] : va_W) ++ ws) H := hP
    have hD : va_D A (([(x, .inr (0, [.int mc, .ref ua2, .int (nI (n + 1))])), (ua2, .inl (D.1 99, uc2, .inr (.inr (.inr (.inr (va_up (fun i => if i < n then some (o i) else none) n (some eo))))))), (eo, .inr (5, [.int e0, .int e1, .int e2, .int e3, .int e4]))] : va_W) ++ ws) := hD
    exact W.vret hx hb hr (fun t ht hW => ⟨⟨(ua2, uc2), rfl, h2, by rw [ht]; exact hP, hD⟩, hS.F ht⟩) hS.2.2 dJx4a65c_add_72be8_22
set_option maxRecDepth 100000 in
set_option maxHeartbeats 4000000 in
theorem q_l_addGP (l : Launch) (D : va_G) (cI cB cZ : ClassId) (zz qq vv : Nat) (bt : Nat → Int32) (c0 : Nat) (x z n eo : Nat) (mc : Int32) (o : Nat → Nat) (e0 e1 e2 e3 e4 : Int32) (ws : va_W) (sz : Nat) (hn : n ≤ c0) (hc : c0 ≤ 100) (h0 : 0 < n) (h60 : n ≤ 60) (hel : ∀ i : Nat, i < n → ∃ fs : List Value, ((o i, .inr (5, fs)) : Nat × va_E) ∈ ((eo, .inr (5, [.int e0, .int e1, .int e2, .int e3, .int e4])) : Nat × va_E) :: ws) : Met l yJx4a65c_add_9ea2d (CWS yJx4a65c_add_9ea2d cJx4a65c_add_9ea2d 2 (some .boolean)) (RM 7 1 100) (PBx [.ref x, .ref eo] D cI cB cZ zz qq vv bt (([(x, .inr (0, [.int mc, .ref z, .int (nI n)])), (z, .inl (D.1 99, c0, .inr (.inr (.inr (.inr (fun i => if i < n then some (o i) else none)))))), (eo, .inr (5, [.int e0, .int e1, .int e2, .int e3, .int e4]))] : va_W) ++ ws) sz) (va_Qi (fun (r : Int32) (u : Nat × Nat) => r = 1 ∧ (n < u.2 ∧ u.2 ≤ 100)) (fun (u : Nat × Nat) (t : State) => va_P D vwCl (([(x, .inr (0, [.int (mc + 1), .ref u.1, .int (nI (n + 1))])), (u.1, .inl (D.1 99, u.2, .inr (.inr (.inr (.inr (va_up (fun i => if i < n then some (o i) else none) n (some eo))))))), (eo, .inr (5, [.int e0, .int e1, .int e2, .int e3, .int e4]))] : va_W) ++ ws) t.heap ∧ va_D (va_A (([(x, .inr (0, [.int mc, .ref z, .int (nI n)])), (z, .inl (D.1 99, c0, .inr (.inr (.inr (.inr (fun i => if i < n then some (o i) else none)))))), (eo, .inr (5, [.int e0, .int e1, .int e2, .int e3, .int e4]))] : va_W) ++ ws) sz) (([(x, .inr (0, [.int (mc + 1), .ref u.1, .int (nI (n + 1))])), (u.1, .inl (D.1 99, u.2, .inr (.inr (.inr (.inr (va_up (fun i => if i < n then some (o i) else none) n (some eo))))))), (eo, .inr (5, [.int e0, .int e1, .int e2, .int e3, .int e4]))] : va_W) ++ ws)) (va_A (([(x, .inr (0, [.int mc, .ref z, .int (nI n)])), (z, .inl (D.1 99, c0, .inr (.inr (.inr (.inr (fun i => if i < n then some (o i) else none)))))), (eo, .inr (5, [.int e0, .int e1, .int e2, .int e3, .int e4]))] : va_W) ++ ws) sz)) 1 100 (va_A (([(x, .inr (0, [.int mc, .ref z, .int (nI n)])), (z, .inl (D.1 99, c0, .inr (.inr (.inr (.inr (fun i => if i < n then some (o i) else none)))))), (eo, .inr (5, [.int e0, .int e1, .int e2, .int e3, .int e4]))] : va_W) ++ ws) sz) := by
  refine en_x (fun A => (va_Qi (fun (r : Int32) (u : Nat × Nat) => r = 1 ∧ (n < u.2 ∧ u.2 ≤ 100)) (fun (u : Nat × Nat) (t : State) => va_P D vwCl (([(x, .inr (0, [.int (mc + 1), .ref u.1, .int (nI (n + 1))])), (u.1, .inl (D.1 99, u.2, .inr (.inr (.inr (.inr (va_up (fun i => if i < n then some (o i) else none) n (some eo))))))), (eo, .inr (5, [.int e0, .int e1, .int e2, .int e3, .int e4]))] : va_W) ++ ws) t.heap ∧ va_D A (([(x, .inr (0, [.int (mc + 1), .ref u.1, .int (nI (n + 1))])), (u.1, .inl (D.1 99, u.2, .inr (.inr (.inr (.inr (va_up (fun i => if i < n then some (o i) else none) n (some eo))))))), (eo, .inr (5, [.int e0, .int e1, .int e2, .int e3, .int e4]))] : va_W) ++ ws)) A)) rfl rfl pn_RJx4a65c (Nat.le_of_ble_eq_true rfl) (fun p e s m below meth c A hx hb hml hown S hr hlocks hnm hA hP hK hD hXS hS ls hl => ?_)
  have hP : va_P D vwCl (([(x, .inr (0, [.int mc, .ref z, .int (nI n)])), (z, .inl (D.1 99, c0, .inr (.inr (.inr (.inr (fun i => if i < n then some (o i) else none)))))), (eo, .inr (5, [.int e0, .int e1, .int e2, .int e3, .int e4]))] : va_W) ++ ws) s.heap := hP
  have hD : va_D A (([(x, .inr (0, [.int mc, .ref z, .int (nI n)])), (z, .inl (D.1 99, c0, .inr (.inr (.inr (.inr (fun i => if i < n then some (o i) else none)))))), (eo, .inr (5, [.int e0, .int e1, .int e2, .int e3, .int e4]))] : va_W) ++ ws) := hD
  have hl : lv_has ls 2 [(0, .ref x), (1, .ref eo)] := hl
  refine lv_aload_n hx hb dJx4a65c_add_9ea2d_0 rfl (lvA0 hl) ?_
  refine lv_dup hx hb dJx4a65c_add_9ea2d_1 rfl ?_
  refine gf_RJx4a65c_63 S hK hP 0 rfl (v := .int mc) rfl dJx4a65c_add_9ea2d_2 ?_
  refine lv_iconst (v := 1) hx hb dJx4a65c_add_9ea2d_5 kic_1 ?_
  refine lv_iadd hx hb dJx4a65c_add_9ea2d_6 ?_
  refine pf_RJx4a65c_63 S hK hP hD hS 0 rfl (v := .int (mc + 1)) (Nat.le_of_ble_eq_true rfl) rfl rfl dJx4a65c_add_9ea2d_7 (fun H locs hP hD hS => ?_)
  have hP : va_P D vwCl (([(x, .inr (0, [.int (mc + 1), .ref z, .int (nI n)])), (z, .inl (D.1 99, c0, .inr (.inr (.inr (.inr (fun i => if i < n then some (o i) else none)))))), (eo, .inr (5, [.int e0, .int e1, .int e2, .int e3, .int e4]))] : va_W) ++ ws) H := hP
  have hD : va_D A (([(x, .inr (0, [.int (mc + 1), .ref z, .int (nI n)])), (z, .inl (D.1 99, c0, .inr (.inr (.inr (.inr (fun i => if i < n then some (o i) else none)))))), (eo, .inr (5, [.int e0, .int e1, .int e2, .int e3, .int e4]))] : va_W) ++ ws) := hD
  refine lv_aload_n hx hb dJx4a65c_add_9ea2d_10 rfl (lvA0 hl) ?_
  refine lv_aload_n hx hb dJx4a65c_add_9ea2d_11 rfl (lvA1 hl) ?_
  refine lv_aload_n hx hb dJx4a65c_add_9ea2d_12 rfl (lvA0 hl) ?_
  refine gf_RJx4a65c_9 S hK hP 0 rfl (v := .ref z) rfl dJx4a65c_add_9ea2d_13 ?_
  refine lv_aload_n hx hb dJx4a65c_add_9ea2d_16 rfl (lvA0 hl) ?_
  refine gf_RJx4a65c_48 S hK hP 0 rfl (v := .int (nI n)) rfl dJx4a65c_add_9ea2d_17 ?_
  have hFc := free_all hD hS hA
  refine va_callv (runV_xa (As := [.ref eo, .ref z, .int (nI n)]) (rest := []) S (q_l_ad3GP l D cI cB cZ zz qq vv bt c0 x z n eo (mc + 1) o e0 e1 e2 e3 e4 ws H.size hn hc h0 h60 hel) kV_RJx4a65c_131 hK hXS hS hFc hP hD 0 rfl rfl rfl ⟨Nat.le_of_ble_eq_true rfl, Nat.le_of_ble_eq_true rfl⟩ ⟨Nat.le_of_ble_eq_true rfl, Nat.le_of_ble_eq_true rfl⟩ rfl hl.1 rfl (Nat.le_of_ble_eq_true rfl) dJx4a65c_add_9ea2d_20) hS (fun q _ h => hFc q h) hFc (fun u0 t H1 locs ht hvm h0 hB1 hz1 hk1 hS => ?_)
  obtain ⟨hP1, hD1⟩ := hB1
  rw [ht] at hP1
  obtain ⟨ua0, uc0⟩ := u0
  have hP : va_P D vwCl (([(x, .inr (0, [.int (mc + 1), .ref ua0, .int (nI (n + 1))])), (ua0, .inl (D.1 99, uc0, .inr (.inr (.inr (.inr (va_up (fun i => if i < n then some (o i) else none) n (some eo))))))), (eo, .inr (5, [.int e0, .int e1, .int e2, .int e3, .int e4]))] : va_W) ++ ws) H1 := hP1
  have hD : va_D A (([(x, .inr (0, [.int (mc + 1), .ref ua0, .int (nI (n + 1))])), (ua0, .inl (D.1 99, uc0, .inr (.inr (.inr (.inr (va_up (fun i => if i < n then some (o i) else none) n (some eo))))))), (eo, .inr (5, [.int e0, .int e1, .int e2, .int e3, .int e4]))] : va_W) ++ ws) := hD1.weaken (fun _ _ _ h => hFc _ h)
  generalize H1 = H at hP hS ⊢
  refine lv_iconst (v := 1) hx hb dJx4a65c_add_9ea2d_23 kic_1 ?_
  exact W.zret (v := 1) hx hb hr rfl (fun t ht hW => ⟨⟨1, (ua0, uc0), rfl, ⟨rfl, h0⟩, by rw [ht]; exact hP, hD⟩, hS.F ht⟩) hS.2.2 dJx4a65c_add_9ea2d_24
set_option maxRecDepth 100000 in
set_option maxHeartbeats 4000000 in
theorem q_l_cpo3S (l : Launch) (D : va_G) (cI cB cZ : ClassId) (zz qq vv : Nat) (bt : Nat → Int32) (c1 mi : Nat) (x z n eo : Nat) (mc : Int32) (o : Nat → Nat) (e0 e1 e2 : Int32) (ws : va_W) (sz : Nat) (hc : n < c1) (h100 : c1 ≤ 100) (hel : ∀ i : Nat, i < n → ∃ fs : List Value, ((o i, .inr (7, fs)) : Nat × va_E) ∈ ((eo, .inr (7, [.int e0, .int e1, .int e2])) : Nat × va_E) :: ws) : Met l yJ7_copyOf_6403c (CWS yJ7_copyOf_6403c cJ7_copyOf_6403c 4 (some (.array (.object "java/lang/Object")))) (RM 2 1 100) (PBm mi [.ref z, .int (nI c1), .ref mi] D cI cB cZ zz qq vv bt (([(x, .inr (0, [.int mc, .ref z, .int (nI n)])), (z, .inl (D.1 99, n, .inr (.inr (.inr (.inr (fun i => if i < n then some (o i) else none)))))), (eo, .inr (7, [.int e0, .int e1, .int e2]))] : va_W) ++ ws) sz) (va_Qq (fun (r : Option Nat) (u : Nat) => r = some u ∧ True) (fun (u : Nat) (t : State) => va_P D vwCl (([(u, .inl (D.1 99, c1, .inr (.inr (.inr (.inr (fun i => if i < n then some (o i) else none)))))), (x, .inr (0, [.int mc, .ref z, .int (nI n)])), (z, .inl (D.1 99, n, .inr (.inr (.inr (.inr (fun i => if i < n then some (o i) else none)))))), (eo, .inr (7, [.int e0, .int e1, .int e2]))] : va_W) ++ ws) t.heap ∧ va_D (va_A (([(x, .inr (0, [.int mc, .ref z, .int (nI n)])), (z, .inl (D.1 99, n, .inr (.inr (.inr (.inr (fun i => if i < n then some (o i) else none)))))), (eo, .inr (7, [.int e0, .int e1, .int e2]))] : va_W) ++ ws) sz) (([(u, .inl (D.1 99, c1, .inr (.inr (.inr (.inr (fun i => if i < n then some (o i) else none)))))), (x, .inr (0, [.int mc, .ref z, .int (nI n)])), (z, .inl (D.1 99, n, .inr (.inr (.inr (.inr (fun i => if i < n then some (o i) else none)))))), (eo, .inr (7, [.int e0, .int e1, .int e2]))] : va_W) ++ ws)) (va_A (([(x, .inr (0, [.int mc, .ref z, .int (nI n)])), (z, .inl (D.1 99, n, .inr (.inr (.inr (.inr (fun i => if i < n then some (o i) else none)))))), (eo, .inr (7, [.int e0, .int e1, .int e2]))] : va_W) ++ ws) sz)) 1 100 (va_A (([(x, .inr (0, [.int mc, .ref z, .int (nI n)])), (z, .inl (D.1 99, n, .inr (.inr (.inr (.inr (fun i => if i < n then some (o i) else none)))))), (eo, .inr (7, [.int e0, .int e1, .int e2]))] : va_W) ++ ws) sz) := by
  refine Met.ofW (cc := cJ7_copyOf_6403c) (maxL := 4) (ret := (some (.array (.object "java/lang/Object")))) (by decide) rfl ?_
  intro p e s m args below meth c s₁ B hml hv
  obtain ⟨rfl, hsz, hP, hK, hD0, hXS, hMi⟩ := hv
  have hx := B.exec
  have hb := B.bytes
  have hr := B.returns
  have hts := atoms_spec (ws := (CWS yJ7_copyOf_6403c cJ7_copyOf_6403c 4 (some (.array (.object "java/lang/Object"))))) B.pre
  have hown : s.vm.findClass RJ7 = some m.cls := findClass_of_methodNamed B.named
  have hlocks := B.notSynchronized
  have S : SF p m c cJ7_copyOf_6403c 4 s ([.ref z, .int (nI c1), .ref mi]).toArray RJ7 := ⟨hx, hb, hml, hown, fun w h => hts w (List.mem_cons_of_mem _ h)⟩
  subst hsz
  have hD := hD0.self (sz := s.heap.size)
  generalize hAe : va_A (([(x, .inr (0, [.int mc, .ref z, .int (nI n)])), (z, .inl (D.1 99, n, .inr (.inr (.inr (.inr (fun i => if i < n then some (o i) else none)))))), (eo, .inr (7, [.int e0, .int e1, .int e2]))] : va_W) ++ ws) s.heap.size = A at hD hXS ⊢
  have hA : ∀ q : Nat, s.heap.size ≤ q → A q := fun q h => by rw [← hAe]; exact Or.inr h
  have hS : va_S A s.heap s.heap [] := va_S.rf
  have hP : va_P D vwCl (([(x, .inr (0, [.int mc, .ref z, .int (nI n)])), (z, .inl (D.1 99, n, .inr (.inr (.inr (.inr (fun i => if i < n then some (o i) else none)))))), (eo, .inr (7, [.int e0, .int e1, .int e2]))] : va_W) ++ ws) s.heap := hP
  have hD : va_D A (([(x, .inr (0, [.int mc, .ref z, .int (nI n)])), (z, .inl (D.1 99, n, .inr (.inr (.inr (.inr (fun i => if i < n then some (o i) else none)))))), (eo, .inr (7, [.int e0, .int e1, .int e2]))] : va_W) ++ ws) := hD
  have hl := lv_entry ([.ref z, .int (nI c1), .ref mi]) (n := 4) (Nat.le_of_ble_eq_true rfl)
  rw [lg_entry_eq]
  generalize (lg_sl ([.ref z, .int (nI c1), .ref mi]) ++ List.replicate (4 - (lg_sl ([.ref z, .int (nI c1), .ref mi])).length) Slot.unset).toArray = ls at hl ⊢
  have hl : lv_has ls 4 [(0, .ref z), (1, .int (nI c1)), (2, .ref mi)] := hl
  refine lv_aload_n hx hb dJ7_copyOf_6403c_0 rfl (lvA2 hl) ?_
  refine va_ldcM hx hb hown (S.2.2.2.2 _ (wk2_13 6 rfl rfl)) hMi dJ7_copyOf_6403c_1 ?_
  refine lv_acmp_ne (rx := some mi) (ry := some mi) (tgt := 13) hx hb dJ7_copyOf_6403c_3 (by decide) (fun h => absurd rfl h) (fun _ => ?_)
  refine lv_iload_n hx hb dJ7_copyOf_6403c_6 rfl (lvA1 hl) ?_
  refine newq_obj S hXS hK hP hD hS hA (N' := c1) (wk2_13 8 rfl rfl) (nI_nn (by omega)) (nI_clamp (by omega)) (by omega) (Nat.le_of_ble_eq_true rfl) (by show 0 + c1 ≤ 100; omega) dJ7_copyOf_6403c_7 (fun q7 H hP hD hS => ?_)
  refine W.widen (k := 1) (n := 100) (Nat.le_of_ble_eq_true rfl) (by omega) ?_
  have hP : va_P D vwCl (([(q7, .inl (D.1 99, c1, .inr (.inr (.inr (.inr (fun _ => none)))))), (x, .inr (0, [.int mc, .ref z, .int (nI n)])), (z, .inl (D.1 99, n, .inr (.inr (.inr (.inr (fun i => if i < n then some (o i) else none)))))), (eo, .inr (7, [.int e0, .int e1, .int e2]))] : va_W) ++ ws) H := va_P_perm g_rot hP
  have hD : va_D A (([(q7, .inl (D.1 99, c1, .inr (.inr (.inr (.inr (fun _ => none)))))), (x, .inr (0, [.int mc, .ref z, .int (nI n)])), (z, .inl (D.1 99, n, .inr (.inr (.inr (.inr (fun i => if i < n then some (o i) else none)))))), (eo, .inr (7, [.int e0, .int e1, .int e2]))] : va_W) ++ ws) := va_D_perm g_rot hD
  refine lv_goto (tgt := 24) hx hb dJ7_copyOf_6403c_10 rfl ?_
  refine lv_astore_n (lv' := [(3, .ref q7), (0, .ref z), (1, .int (nI c1)), (2, .ref mi)]) hx hb dJ7_copyOf_6403c_24 rfl hl (ltb rfl) rfl (fun ls hl => ?_)
  refine lv_aload_n hx hb dJ7_copyOf_6403c_25 rfl (lvA1 hl) ?_
  refine lv_iconst (v := 0) hx hb dJ7_copyOf_6403c_26 kic_0 ?_
  refine lv_aload_n hx hb dJ7_copyOf_6403c_27 rfl (lvA0 hl) ?_
  refine lv_iconst (v := 0) hx hb dJ7_copyOf_6403c_28 kic_0 ?_
  refine lv_aload_n hx hb dJ7_copyOf_6403c_29 rfl (lvA1 hl) ?_
  refine va_alen hx hb hXS.2.2.2.2.2.2.2.2.1 hP 2 0 rfl rfl (v := (nI n)) rfl dJ7_copyOf_6403c_30 ?_
  refine lv_iload_n hx hb dJ7_copyOf_6403c_31 rfl (lvA2 hl) ?_
  refine va_mmin hx hb (by rw [hml]; exact hl.1.symm) hown (S.2.2.2.2 _ (wk2_13 9 rfl rfl)) (S.2.2.2.2 _ (wk2_13 10 rfl rfl)) (S.2.2.2.2 _ (wk1_0 3 rfl rfl)) (S.2.2.2.2 _ (wk2_13 11 rfl rfl)) (Nat.le_of_ble_eq_true rfl) (Nat.le_of_ble_eq_true rfl) (Nat.le_of_ble_eq_true rfl) (Nat.le_of_ble_eq_true rfl) dJ7_copyOf_6403c_32 ?_
  refine lv_topi (fun y_1 ey_1 => ?_)
  obtain rfl : y_1 = (nI n) := ey_1.trans (min_le (by omega) (by omega))
  have hel9 : ∀ i : Nat, i < ((nI n) : Int32).toNatClampNeg → ∀ y : Nat, (fun i => if i < n then some (o i) else none) ((0 : Int32).toNatClampNeg + i) = some y → ∃ cellV : Cell, H[y]? = some cellV ∧ cellV.vm.isStatics = false ∧ s.vm.findClass "OilHome$Sewer" = some cellV.cls := by
    intro i hi y hy
    rw [nI_clamp (by omega)] at hi
    have hy : (if 0 + i < n then some (o (0 + i)) else none) = some y := hy
    rw [Nat.zero_add, if_pos hi] at hy
    obtain rfl := Option.some.inj hy
    obtain ⟨fs, hfs⟩ := hel i hi
    obtain ⟨j9, hj9⟩ := List.mem_iff_getElem?.mp (show ((o i, .inr (7, fs)) : Nat × va_E) ∈ (([(q7, .inl (D.1 99, c1, .inr (.inr (.inr (.inr (fun _ => none)))))), (x, .inr (0, [.int mc, .ref z, .int (nI n)])), (z, .inl (D.1 99, n, .inr (.inr (.inr (.inr (fun i => if i < n then some (o i) else none)))))), (eo, .inr (7, [.int e0, .int e1, .int e2]))] : va_W) ++ ws) from List.mem_cons_of_mem _ (List.mem_cons_of_mem _ (List.mem_cons_of_mem _ hfs)))
    exact va_recv hK.1 hP (ci := 7) rfl hj9
  refine va_copyq (E0 := "java/lang/Object") (E1 := "java/lang/Object") (C := "OilHome$Sewer") hx hb (by rw [hml]; exact hl.1.symm) hown (S.2.2.2.2 _ (wk2_14 0 rfl rfl)) (S.2.2.2.2 _ (wk2_14 2 rfl rfl)) (S.2.2.2.2 _ (wk2_14 1 rfl rfl)) (S.2.2.2.2 _ (wk1_1 4 rfl rfl)) hXS.2.2.2.2.2.2.2.2.1 hP hD hS 2 0 0 0 rfl rfl rfl rfl (by decide) (by decide) (nI_nn (by omega)) (by rw [nI_clamp (by omega)]; show 0 + n ≤ n; omega) (by rw [nI_clamp (by omega)]; show 0 + n ≤ c1; omega) hel9 (vb_asgC hXS.2.2.2.2.2.2.2.2.2.2.2.1) (Nat.le_of_ble_eq_true rfl) (Nat.le_of_ble_eq_true (by decide +kernel)) dJ7_copyOf_6403c_35 (fun H locs hP hD hS => ?_)
  rw [nI_clamp (n := n) (by omega), show (0 : Int32).toNatClampNeg = 0 by decide, cpy_rf] at hP hD
  have hP : va_P D vwCl (([(q7, .inl (D.1 99, c1, .inr (.inr (.inr (.inr (fun i => if i < n then some (o i) else none)))))), (x, .inr (0, [.int mc, .ref z, .int (nI n)])), (z, .inl (D.1 99, n, .inr (.inr (.inr (.inr (fun i => if i < n then some (o i) else none)))))), (eo, .inr (7, [.int e0, .int e1, .int e2]))] : va_W) ++ ws) H := hP
  have hD : va_D A (([(q7, .inl (D.1 99, c1, .inr (.inr (.inr (.inr (fun i => if i < n then some (o i) else none)))))), (x, .inr (0, [.int mc, .ref z, .int (nI n)])), (z, .inl (D.1 99, n, .inr (.inr (.inr (.inr (fun i => if i < n then some (o i) else none)))))), (eo, .inr (7, [.int e0, .int e1, .int e2]))] : va_W) ++ ws) := hD
  refine lv_aload_n hx hb dJ7_copyOf_6403c_38 rfl (lvA0 hl) ?_
  exact W.aret (v := .ref q7) hx hb hr (by first | exact Or.inl ⟨_, rfl⟩ | exact Or.inr ⟨_, rfl⟩) (Or.inr ⟨_, rfl⟩) (fun t ht hW => ⟨⟨some q7, q7, rfl, ⟨rfl, trivial⟩, by rw [ht]; exact hP, hD⟩, hS.F ht⟩) hS.2.2 dJ7_copyOf_6403c_39
set_option maxRecDepth 100000 in
set_option maxHeartbeats 4000000 in
theorem q_l_cpo2S (l : Launch) (D : va_G) (cI cB cZ : ClassId) (zz qq vv : Nat) (bt : Nat → Int32) (c1 : Nat) (x z n eo : Nat) (mc : Int32) (o : Nat → Nat) (e0 e1 e2 : Int32) (ws : va_W) (sz : Nat) (hc : n < c1) (h100 : c1 ≤ 100) (hel : ∀ i : Nat, i < n → ∃ fs : List Value, ((o i, .inr (7, fs)) : Nat × va_E) ∈ ((eo, .inr (7, [.int e0, .int e1, .int e2])) : Nat × va_E) :: ws) : Met l yJ7_copyOf_1904c (CWS yJ7_copyOf_1904c cJ7_copyOf_1904c 2 (some (.array (.object "java/lang/Object")))) (RM 3 1 100) (PBx [.ref z, .int (nI c1)] D cI cB cZ zz qq vv bt (([(x, .inr (0, [.int mc, .ref z, .int (nI n)])), (z, .inl (D.1 99, n, .inr (.inr (.inr (.inr (fun i => if i < n then some (o i) else none)))))), (eo, .inr (7, [.int e0, .int e1, .int e2]))] : va_W) ++ ws) sz) (va_Qq (fun (r : Option Nat) (u : Nat) => r = some u ∧ True) (fun (u : Nat) (t : State) => va_P D vwCl (([(u, .inl (D.1 99, c1, .inr (.inr (.inr (.inr (fun i => if i < n then some (o i) else none)))))), (x, .inr (0, [.int mc, .ref z, .int (nI n)])), (z, .inl (D.1 99, n, .inr (.inr (.inr (.inr (fun i => if i < n then some (o i) else none)))))), (eo, .inr (7, [.int e0, .int e1, .int e2]))] : va_W) ++ ws) t.heap ∧ va_D (va_A (([(x, .inr (0, [.int mc, .ref z, .int (nI n)])), (z, .inl (D.1 99, n, .inr (.inr (.inr (.inr (fun i => if i < n then some (o i) else none)))))), (eo, .inr (7, [.int e0, .int e1, .int e2]))] : va_W) ++ ws) sz) (([(u, .inl (D.1 99, c1, .inr (.inr (.inr (.inr (fun i => if i < n then some (o i) else none)))))), (x, .inr (0, [.int mc, .ref z, .int (nI n)])), (z, .inl (D.1 99, n, .inr (.inr (.inr (.inr (fun i => if i < n then some (o i) else none)))))), (eo, .inr (7, [.int e0, .int e1, .int e2]))] : va_W) ++ ws)) (va_A (([(x, .inr (0, [.int mc, .ref z, .int (nI n)])), (z, .inl (D.1 99, n, .inr (.inr (.inr (.inr (fun i => if i < n then some (o i) else none)))))), (eo, .inr (7, [.int e0, .int e1, .int e2]))] : va_W) ++ ws) sz)) 1 100 (va_A (([(x, .inr (0, [.int mc, .ref z, .int (nI n)])), (z, .inl (D.1 99, n, .inr (.inr (.inr (.inr (fun i => if i < n then some (o i) else none)))))), (eo, .inr (7, [.int e0, .int e1, .int e2]))] : va_W) ++ ws) sz) := by
  refine en_x (fun A => (va_Qq (fun (r : Option Nat) (u : Nat) => r = some u ∧ True) (fun (u : Nat) (t : State) => va_P D vwCl (([(u, .inl (D.1 99, c1, .inr (.inr (.inr (.inr (fun i => if i < n then some (o i) else none)))))), (x, .inr (0, [.int mc, .ref z, .int (nI n)])), (z, .inl (D.1 99, n, .inr (.inr (.inr (.inr (fun i => if i < n then some (o i) else none)))))), (eo, .inr (7, [.int e0, .int e1, .int e2]))] : va_W) ++ ws) t.heap ∧ va_D A (([(u, .inl (D.1 99, c1, .inr (.inr (.inr (.inr (fun i => if i < n then some (o i) else none)))))), (x, .inr (0, [.int mc, .ref z, .int (nI n)])), (z, .inl (D.1 99, n, .inr (.inr (.inr (.inr (fun i => if i < n then some (o i) else none)))))), (eo, .inr (7, [.int e0, .int e1, .int e2]))] : va_W) ++ ws)) A)) rfl rfl pn_RJ7 (Nat.le_of_ble_eq_true rfl) (fun p e s m below meth c A hx hb hml hown S hr hlocks hnm hA hP hK hD hXS hS ls hl => ?_)
  have hP : va_P D vwCl (([(x, .inr (0, [.int mc, .ref z, .int (nI n)])), (z, .inl (D.1 99, n, .inr (.inr (.inr (.inr (fun i => if i < n then some (o i) else none)))))), (eo, .inr (7, [.int e0, .int e1, .int e2]))] : va_W) ++ ws) s.heap := hP
  have hD : va_D A (([(x, .inr (0, [.int mc, .ref z, .int (nI n)])), (z, .inl (D.1 99, n, .inr (.inr (.inr (.inr (fun i => if i < n then some (o i) else none)))))), (eo, .inr (7, [.int e0, .int e1, .int e2]))] : va_W) ++ ws) := hD
  have hl : lv_has ls 2 [(0, .ref z), (1, .int (nI c1))] := hl
  refine lv_aload_n hx hb dJ7_copyOf_1904c_0 rfl (lvA0 hl) ?_
  refine lv_iload_n hx hb dJ7_copyOf_1904c_1 rfl (lvA1 hl) ?_
  refine lv_aload_n hx hb dJ7_copyOf_1904c_2 rfl (lvA0 hl) ?_
  obtain ⟨mi, hMi⟩ := hXS.2.2.2.2.2.2.2.2.2.2.2.2.2.2
  refine va_getC (C := "[Ljava/lang/Object;") (mi := mi) hx hb (by rw [hml]; exact hl.1.symm) hown (S.2.2.2.2 _ (wk2_11 9 rfl rfl)) hXS.2.2.2.2.2.2.2.2.2.2.2.2.2.1.use (S.2.2.2.2 _ (wk9_12 10 rfl rfl)) (S.2.2.2.2 _ (wk2_11 10 rfl rfl)) (S.2.2.2.2 _ (wk2_13 2 rfl rfl)) hMi (recvQ (q0 := 1) hXS hP rfl) (Nat.le_of_ble_eq_true rfl) (Nat.le_of_ble_eq_true rfl) dJ7_copyOf_1904c_3 ?_
  have hFc := free_all hD hS hA
  refine va_callq (runS_xm (As := [.ref z, .int (nI c1), .ref mi]) (rest := []) S (q_l_cpo3S l D cI cB cZ zz qq vv bt c1 mi x z n eo mc o e0 e1 e2 ws s.heap.size hc h100 hel) kS_RJ7_300 hK hXS hMi hS hFc hP hD ⟨Nat.le_of_ble_eq_true rfl, Nat.le_of_ble_eq_true rfl⟩ ⟨Nat.le_of_ble_eq_true rfl, Nat.le_of_ble_eq_true rfl⟩ rfl hl.1 rfl (Nat.le_of_ble_eq_true rfl) dJ7_copyOf_1904c_6) hS (fun q _ h => hFc q h) hFc (fun r0 u0 t H1 locs ht hvm h0 hB1 hz1 hk1 hS => ?_)
  obtain ⟨hP1, hD1⟩ := hB1
  rw [ht] at hP1
  have hP : va_P D vwCl (([(u0, .inl (D.1 99, c1, .inr (.inr (.inr (.inr (fun i => if i < n then some (o i) else none)))))), (x, .inr (0, [.int mc, .ref z, .int (nI n)])), (z, .inl (D.1 99, n, .inr (.inr (.inr (.inr (fun i => if i < n then some (o i) else none)))))), (eo, .inr (7, [.int e0, .int e1, .int e2]))] : va_W) ++ ws) H1 := hP1
  have hD : va_D A (([(u0, .inl (D.1 99, c1, .inr (.inr (.inr (.inr (fun i => if i < n then some (o i) else none)))))), (x, .inr (0, [.int mc, .ref z, .int (nI n)])), (z, .inl (D.1 99, n, .inr (.inr (.inr (.inr (fun i => if i < n then some (o i) else none)))))), (eo, .inr (7, [.int e0, .int e1, .int e2]))] : va_W) ++ ws) := hD1.weaken (fun _ _ _ h => hFc _ h)
  generalize H1 = H at hP hS ⊢
  obtain ⟨hr0, h0⟩ := h0
  subst hr0
  exact W.aret (v := .ref u0) hx hb hr (by first | exact Or.inl ⟨_, rfl⟩ | exact Or.inr ⟨_, rfl⟩) (Or.inr ⟨_, rfl⟩) (fun t ht hW => ⟨⟨some u0, u0, rfl, ⟨rfl, trivial⟩, by rw [ht]; exact hP, hD⟩, hS.F ht⟩) hS.2.2 dJ7_copyOf_1904c_9
set_option maxRecDepth 100000 in
set_option maxHeartbeats 4000000 in
theorem q_l_gro1S (l : Launch) (D : va_G) (cI cB cZ : ClassId) (zz qq vv : Nat) (bt : Nat → Int32) (x z n eo : Nat) (mc : Int32) (o : Nat → Nat) (e0 e1 e2 : Int32) (ws : va_W) (sz : Nat) (h0 : 0 < n) (h60 : n ≤ 60) (hel : ∀ i : Nat, i < n → ∃ fs : List Value, ((o i, .inr (7, fs)) : Nat × va_E) ∈ ((eo, .inr (7, [.int e0, .int e1, .int e2])) : Nat × va_E) :: ws) : Met l yJx4a65c_grow_92f84 (CWS yJx4a65c_grow_92f84 cJx4a65c_grow_92f84 4 (some (.array (.object "java/lang/Object")))) (RM 4 1 100) (PBx [.ref x, .int (nI (n + 1))] D cI cB cZ zz qq vv bt (([(x, .inr (0, [.int mc, .ref z, .int (nI n)])), (z, .inl (D.1 99, n, .inr (.inr (.inr (.inr (fun i => if i < n then some (o i) else none)))))), (eo, .inr (7, [.int e0, .int e1, .int e2]))] : va_W) ++ ws) sz) (va_Qq (fun (r : Option Nat) (u : Nat × Nat) => r = some u.1 ∧ (n < u.2 ∧ u.2 ≤ 100)) (fun (u : Nat × Nat) (t : State) => va_P D vwCl (([(x, .inr (0, [.int mc, .ref u.1, .int (nI n)])), (u.1, .inl (D.1 99, u.2, .inr (.inr (.inr (.inr (fun i => if i < n then some (o i) else none)))))), (eo, .inr (7, [.int e0, .int e1, .int e2]))] : va_W) ++ ws) t.heap ∧ va_D (va_A (([(x, .inr (0, [.int mc, .ref z, .int (nI n)])), (z, .inl (D.1 99, n, .inr (.inr (.inr (.inr (fun i => if i < n then some (o i) else none)))))), (eo, .inr (7, [.int e0, .int e1, .int e2]))] : va_W) ++ ws) sz) (([(x, .inr (0, [.int mc, .ref u.1, .int (nI n)])), (u.1, .inl (D.1 99, u.2, .inr (.inr (.inr (.inr (fun i => if i < n then some (o i) else none)))))), (eo, .inr (7, [.int e0, .int e1, .int e2]))] : va_W) ++ ws)) (va_A (([(x, .inr (0, [.int mc, .ref z, .int (nI n)])), (z, .inl (D.1 99, n, .inr (.inr (.inr (.inr (fun i => if i < n then some (o i) else none)))))), (eo, .inr (7, [.int e0, .int e1, .int e2]))] : va_W) ++ ws) sz)) 1 100 (va_A (([(x, .inr (0, [.int mc, .ref z, .int (nI n)])), (z, .inl (D.1 99, n, .inr (.inr (.inr (.inr (fun i => if i < n then some (o i) else none)))))), (eo, .inr (7, [.int e0, .int e1, .int e2]))] : va_W) ++ ws) sz) := by
  refine en_x (fun A => (va_Qq (fun (r : Option Nat) (u : Nat × Nat) => r = some u.1 ∧ (n < u.2 ∧ u.2 ≤ 100)) (fun (u : Nat × Nat) (t : State) => va_P D vwCl (([(x, .inr (0, [.int mc, .ref u.1, .int (nI n)])), (u.1, .inl (D.1 99, u.2, .inr (.inr (.inr (.inr (fun i => if i < n then some (o i) else none)))))), (eo, .inr (7, [.int e0, .int e1, .int e2]))] : va_W) ++ ws) t.heap ∧ va_D A (([(x, .inr (0, [.int mc, .ref u.1, .int (nI n)])), (u.1, .inl (D.1 99, u.2, .inr (.inr (.inr (.inr (fun i => if i < n then some (o i) else none)))))), (eo, .inr (7, [.int e0, .int e1, .int e2]))] : va_W) ++ ws)) A)) rfl rfl pn_RJx4a65c (Nat.le_of_ble_eq_true rfl) (fun p e s m below meth c A hx hb hml hown S hr hlocks hnm hA hP hK hD hXS hS ls hl => ?_)
  have hP : va_P D vwCl (([(x, .inr (0, [.int mc, .ref z, .int (nI n)])), (z, .inl (D.1 99, n, .inr (.inr (.inr (.inr (fun i => if i < n then some (o i) else none)))))), (eo, .inr (7, [.int e0, .int e1, .int e2]))] : va_W) ++ ws) s.heap := hP
  have hD : va_D A (([(x, .inr (0, [.int mc, .ref z, .int (nI n)])), (z, .inl (D.1 99, n, .inr (.inr (.inr (.inr (fun i => if i < n then some (o i) else none)))))), (eo, .inr (7, [.int e0, .int e1, .int e2]))] : va_W) ++ ws) := hD
  have hl : lv_has ls 4 [(0, .ref x), (1, .int (nI (n + 1)))] := hl
  have tn : (nI n).toInt = (n : Int) := nI_toInt (by omega)
  refine lv_aload_n hx hb dJx4a65c_grow_92f84_0 rfl (lvA0 hl) ?_
  refine gf_RJx4a65c_9 S hK hP 0 rfl (v := .ref z) rfl dJx4a65c_grow_92f84_1 ?_
  refine va_alen hx hb hXS.2.2.2.2.2.2.2.2.1 hP 1 0 rfl rfl (v := (nI n)) rfl dJx4a65c_grow_92f84_4 ?_
  refine lv_istore_n (lv' := [(2, .int (nI n)), (0, .ref x), (1, .int (nI (n + 1)))]) hx hb dJx4a65c_grow_92f84_5 rfl hl (ltb rfl) rfl (fun ls hl => ?_)
  refine lv_iload_n hx hb dJx4a65c_grow_92f84_6 rfl (lvA0 hl) ?_
  refine lv_if_gt (tgt := 20) hx hb dJx4a65c_grow_92f84_7 rfl (fun c_1 => ?_) (fun c_1 => False.elim (by have tc_1 : ((nI n).toInt : Int) ≤ 0 := Int32.le_iff_toInt_le.mp (Int32.not_lt.mp c_1); omega))
  have tc_1 : (0 : Int) < (nI n).toInt := Int32.lt_iff_toInt_lt.mp c_1
  refine lv_iload_n hx hb dJx4a65c_grow_92f84_20 rfl (lvA0 hl) ?_
  refine lv_iload_n hx hb dJx4a65c_grow_92f84_21 rfl (lvA2 hl) ?_
  refine lv_iload_n hx hb dJx4a65c_grow_92f84_22 rfl (lvA0 hl) ?_
  refine lv_isub hx hb dJx4a65c_grow_92f84_23 ?_
  refine lv_topi (fun y_2 ey_2 => ?_)
  obtain rfl : y_2 = 1 := ey_2.trans (by rw [nI_sub (by omega), show n + 1 - n = 1 by omega]; rfl)
  refine lv_iload_n hx hb dJx4a65c_grow_92f84_24 rfl (lvA0 hl) ?_
  refine lv_iconst (v := 1) hx hb dJx4a65c_grow_92f84_25 kic_1 ?_
  refine lv_ishr hx hb dJx4a65c_grow_92f84_26 ?_
  refine lv_topi (fun y_3 ey_3 => ?_)
  obtain rfl : y_3 = (nI (n / 2)) := ey_3.trans (shr1 n (by omega))
  refine vp_callSi (runS_r (As := [.int (nI n), .int 1, .int (nI (n / 2))]) (rest := []) S (q_l_newLen l D cI cB cZ n (n / 2) (by omega) (by omega)) kS_RJx4a65c_73 hK hP [] rfl ⟨Nat.le_of_ble_eq_true rfl, Nat.le_of_ble_eq_true rfl⟩ ⟨Nat.le_of_ble_eq_true rfl, Nat.le_of_ble_eq_true rfl⟩ rfl hl.1 rfl (Nat.le_of_ble_eq_true rfl) dJx4a65c_grow_92f84_27) (fun r_4 h_5 => ?_)
  subst h_5
  refine lv_istore_n (lv' := [(3, .int (nI (n + max 1 (n / 2)))), (2, .int (nI n)), (0, .ref x), (1, .int (nI (n + 1)))]) hx hb dJx4a65c_grow_92f84_30 rfl hl (ltb rfl) rfl (fun ls hl => ?_)
  refine lv_aload_n hx hb dJx4a65c_grow_92f84_31 rfl (lvA2 hl) ?_
  refine lv_aload_n hx hb dJx4a65c_grow_92f84_32 rfl (lvA2 hl) ?_
  refine gf_RJx4a65c_9 S hK hP 0 rfl (v := .ref z) rfl dJx4a65c_grow_92f84_33 ?_
  refine lv_iload_n hx hb dJx4a65c_grow_92f84_36 rfl (lvA0 hl) ?_
  have hFc := free_all hD hS hA
  refine va_callq (runS_xa (As := [.ref z, .int (nI (n + max 1 (n / 2)))]) (rest := [.ref x]) S (q_l_cpo2S l D cI cB cZ zz qq vv bt (n + max 1 (n / 2)) x z n eo mc o e0 e1 e2 ws s.heap.size (by omega) (by omega) hel) kS_RJx4a65c_66 hK hXS hS hFc hP hD ⟨Nat.le_of_ble_eq_true rfl, Nat.le_of_ble_eq_true rfl⟩ ⟨Nat.le_of_ble_eq_true rfl, Nat.le_of_ble_eq_true rfl⟩ rfl hl.1 rfl (Nat.le_of_ble_eq_true rfl) dJx4a65c_grow_92f84_37) hS (fun q _ h => hFc q h) hFc (fun r5 u5 t H1 locs ht hvm h5 hB1 hz1 hk1 hS => ?_)
  obtain ⟨hP1, hD1⟩ := hB1
  rw [ht] at hP1
  have hP : va_P D vwCl (([(u5, .inl (D.1 99, (n + max 1 (n / 2)), .inr (.inr (.inr (.inr (fun i => if i < n then some (o i) else none)))))), (x, .inr (0, [.int mc, .ref z, .int (nI n)])), (z, .inl (D.1 99, n, .inr (.inr (.inr (.inr (fun i => if i < n then some (o i) else none)))))), (eo, .inr (7, [.int e0, .int e1, .int e2]))] : va_W) ++ ws) H1 := hP1
  have hD : va_D A (([(u5, .inl (D.1 99, (n + max 1 (n / 2)), .inr (.inr (.inr (.inr (fun i => if i < n then some (o i) else none)))))), (x, .inr (0, [.int mc, .ref z, .int (nI n)])), (z, .inl (D.1 99, n, .inr (.inr (.inr (.inr (fun i => if i < n then some (o i) else none)))))), (eo, .inr (7, [.int e0, .int e1, .int e2]))] : va_W) ++ ws) := hD1.weaken (fun _ _ _ h => hFc _ h)
  generalize H1 = H at hP hS ⊢
  obtain ⟨hr5, h5⟩ := h5
  subst hr5
  refine lv_dup_x1 hx hb dJx4a65c_grow_92f84_40 rfl rfl ?_
  refine pf_RJx4a65c_9 S hK hP hD hS 1 rfl (v := .ref u5) (Nat.le_of_ble_eq_true rfl) rfl rfl dJx4a65c_grow_92f84_41 (fun H locs hP hD hS => ?_)
  have hP : va_P D vwCl (([(u5, .inl (D.1 99, (n + max 1 (n / 2)), .inr (.inr (.inr (.inr (fun i => if i < n then some (o i) else none)))))), (x, .inr (0, [.int mc, .ref u5, .int (nI n)])), (z, .inl (D.1 99, n, .inr (.inr (.inr (.inr (fun i => if i < n then some (o i) else none)))))), (eo, .inr (7, [.int e0, .int e1, .int e2]))] : va_W) ++ ws) H := hP
  have hD : va_D A (([(u5, .inl (D.1 99, (n + max 1 (n / 2)), .inr (.inr (.inr (.inr (fun i => if i < n then some (o i) else none)))))), (x, .inr (0, [.int mc, .ref u5, .int (nI n)])), (z, .inl (D.1 99, n, .inr (.inr (.inr (.inr (fun i => if i < n then some (o i) else none)))))), (eo, .inr (7, [.int e0, .int e1, .int e2]))] : va_W) ++ ws) := hD
  have hP : va_P D vwCl (([(x, .inr (0, [.int mc, .ref u5, .int (nI n)])), (u5, .inl (D.1 99, (n + max 1 (n / 2)), .inr (.inr (.inr (.inr (fun i => if i < n then some (o i) else none)))))), (eo, .inr (7, [.int e0, .int e1, .int e2]))] : va_W) ++ ws) H := g_dropP hP
  have hD : va_D A (([(x, .inr (0, [.int mc, .ref u5, .int (nI n)])), (u5, .inl (D.1 99, (n + max 1 (n / 2)), .inr (.inr (.inr (.inr (fun i => if i < n then some (o i) else none)))))), (eo, .inr (7, [.int e0, .int e1, .int e2]))] : va_W) ++ ws) := g_dropD hD
  exact W.aret (v := .ref u5) hx hb hr (by first | exact Or.inl ⟨_, rfl⟩ | exact Or.inr ⟨_, rfl⟩) (Or.inr ⟨_, rfl⟩) (fun t ht hW => ⟨⟨some u5, (u5, (n + max 1 (n / 2))), rfl, ⟨rfl, by omega, by omega⟩, by rw [ht]; exact hP, hD⟩, hS.F ht⟩) hS.2.2 dJx4a65c_grow_92f84_44
set_option maxRecDepth 100000 in
set_option maxHeartbeats 4000000 in
theorem q_l_gro0S (l : Launch) (D : va_G) (cI cB cZ : ClassId) (zz qq vv : Nat) (bt : Nat → Int32) (x z n eo : Nat) (mc : Int32) (o : Nat → Nat) (e0 e1 e2 : Int32) (ws : va_W) (sz : Nat) (h0 : 0 < n) (h60 : n ≤ 60) (hel : ∀ i : Nat, i < n → ∃ fs : List Value, ((o i, .inr (7, fs)) : Nat × va_E) ∈ ((eo, .inr (7, [.int e0, .int e1, .int e2])) : Nat × va_E) :: ws) : Met l yJx4a65c_grow_d5877 (CWS yJx4a65c_grow_d5877 cJx4a65c_grow_d5877 1 (some (.array (.object "java/lang/Object")))) (RM 5 1 100) (PBx [.ref x] D cI cB cZ zz qq vv bt (([(x, .inr (0, [.int mc, .ref z, .int (nI n)])), (z, .inl (D.1 99, n, .inr (.inr (.inr (.inr (fun i => if i < n then some (o i) else none)))))), (eo, .inr (7, [.int e0, .int e1, .int e2]))] : va_W) ++ ws) sz) (va_Qq (fun (r : Option Nat) (u : Nat × Nat) => r = some u.1 ∧ (n < u.2 ∧ u.2 ≤ 100)) (fun (u : Nat × Nat) (t : State) => va_P D vwCl (([(x, .inr (0, [.int mc, .ref u.1, .int (nI n)])), (u.1, .inl (D.1 99, u.2, .inr (.inr (.inr (.inr (fun i => if i < n then some (o i) else none)))))), (eo, .inr (7, [.int e0, .int e1, .int e2]))] : va_W) ++ ws) t.heap ∧ va_D (va_A (([(x, .inr (0, [.int mc, .ref z, .int (nI n)])), (z, .inl (D.1 99, n, .inr (.inr (.inr (.inr (fun i => if i < n then some (o i) else none)))))), (eo, .inr (7, [.int e0, .int e1, .int e2]))] : va_W) ++ ws) sz) (([(x, .inr (0, [.int mc, .ref u.1, .int (nI n)])), (u.1, .inl (D.1 99, u.2, .inr (.inr (.inr (.inr (fun i => if i < n then some (o i) else none)))))), (eo, .inr (7, [.int e0, .int e1, .int e2]))] : va_W) ++ ws)) (va_A (([(x, .inr (0, [.int mc, .ref z, .int (nI n)])), (z, .inl (D.1 99, n, .inr (.inr (.inr (.inr (fun i => if i < n then some (o i) else none)))))), (eo, .inr (7, [.int e0, .int e1, .int e2]))] : va_W) ++ ws) sz)) 1 100 (va_A (([(x, .inr (0, [.int mc, .ref z, .int (nI n)])), (z, .inl (D.1 99, n, .inr (.inr (.inr (.inr (fun i => if i < n then some (o i) else none)))))), (eo, .inr (7, [.int e0, .int e1, .int e2]))] : va_W) ++ ws) sz) := by
  refine en_x (fun A => (va_Qq (fun (r : Option Nat) (u : Nat × Nat) => r = some u.1 ∧ (n < u.2 ∧ u.2 ≤ 100)) (fun (u : Nat × Nat) (t : State) => va_P D vwCl (([(x, .inr (0, [.int mc, .ref u.1, .int (nI n)])), (u.1, .inl (D.1 99, u.2, .inr (.inr (.inr (.inr (fun i => if i < n then some (o i) else none)))))), (eo, .inr (7, [.int e0, .int e1, .int e2]))] : va_W) ++ ws) t.heap ∧ va_D A (([(x, .inr (0, [.int mc, .ref u.1, .int (nI n)])), (u.1, .inl (D.1 99, u.2, .inr (.inr (.inr (.inr (fun i => if i < n then some (o i) else none)))))), (eo, .inr (7, [.int e0, .int e1, .int e2]))] : va_W) ++ ws)) A)) rfl rfl pn_RJx4a65c (Nat.le_of_ble_eq_true rfl) (fun p e s m below meth c A hx hb hml hown S hr hlocks hnm hA hP hK hD hXS hS ls hl => ?_)
  have hP : va_P D vwCl (([(x, .inr (0, [.int mc, .ref z, .int (nI n)])), (z, .inl (D.1 99, n, .inr (.inr (.inr (.inr (fun i => if i < n then some (o i) else none)))))), (eo, .inr (7, [.int e0, .int e1, .int e2]))] : va_W) ++ ws) s.heap := hP
  have hD : va_D A (([(x, .inr (0, [.int mc, .ref z, .int (nI n)])), (z, .inl (D.1 99, n, .inr (.inr (.inr (.inr (fun i => if i < n then some (o i) else none)))))), (eo, .inr (7, [.int e0, .int e1, .int e2]))] : va_W) ++ ws) := hD
  have hl : lv_has ls 1 [(0, .ref x)] := hl
  refine lv_aload_n hx hb dJx4a65c_grow_d5877_0 rfl (lvA0 hl) ?_
  refine lv_aload_n hx hb dJx4a65c_grow_d5877_1 rfl (lvA0 hl) ?_
  refine gf_RJx4a65c_48 S hK hP 0 rfl (v := .int (nI n)) rfl dJx4a65c_grow_d5877_2 ?_
  refine lv_iconst (v := 1) hx hb dJx4a65c_grow_d5877_5 kic_1 ?_
  refine lv_iadd hx hb dJx4a65c_grow_d5877_6 ?_
  refine lv_topi (fun y_1 ey_1 => ?_)
  obtain rfl : y_1 = (nI (n + 1)) := ey_1.trans (nI_1 _)
  have hFc := free_all hD hS hA
  refine va_callq (runV_xa (As := [.int (nI (n + 1))]) (rest := []) S (q_l_gro1S l D cI cB cZ zz qq vv bt x z n eo mc o e0 e1 e2 ws s.heap.size h0 h60 hel) kV_RJx4a65c_69 hK hXS hS hFc hP hD 0 rfl rfl rfl ⟨Nat.le_of_ble_eq_true rfl, Nat.le_of_ble_eq_true rfl⟩ ⟨Nat.le_of_ble_eq_true rfl, Nat.le_of_ble_eq_true rfl⟩ rfl hl.1 rfl (Nat.le_of_ble_eq_true rfl) dJx4a65c_grow_d5877_7) hS (fun q _ h => hFc q h) hFc (fun r1 u1 t H1 locs ht hvm h1 hB1 hz1 hk1 hS => ?_)
  obtain ⟨hP1, hD1⟩ := hB1
  rw [ht] at hP1
  obtain ⟨ua1, uc1⟩ := u1
  have hP : va_P D vwCl (([(x, .inr (0, [.int mc, .ref ua1, .int (nI n)])), (ua1, .inl (D.1 99, uc1, .inr (.inr (.inr (.inr (fun i => if i < n then some (o i) else none)))))), (eo, .inr (7, [.int e0, .int e1, .int e2]))] : va_W) ++ ws) H1 := hP1
  have hD : va_D A (([(x, .inr (0, [.int mc, .ref ua1, .int (nI n)])), (ua1, .inl (D.1 99, uc1, .inr (.inr (.inr (.inr (fun i => if i < n then some (o i) else none)))))), (eo, .inr (7, [.int e0, .int e1, .int e2]))] : va_W) ++ ws) := hD1.weaken (fun _ _ _ h => hFc _ h)
  generalize H1 = H at hP hS ⊢
  obtain ⟨hr1, h1⟩ := h1
  subst hr1
  exact W.aret (v := .ref ua1) hx hb hr (by first | exact Or.inl ⟨_, rfl⟩ | exact Or.inr ⟨_, rfl⟩) (Or.inr ⟨_, rfl⟩) (fun t ht hW => ⟨⟨some ua1, (ua1, uc1), rfl, ⟨rfl, h1⟩, by rw [ht]; exact hP, hD⟩, hS.F ht⟩) hS.2.2 dJx4a65c_grow_d5877_10
set_option maxRecDepth 100000 in
set_option maxHeartbeats 4000000 in
theorem q_l_ad3GS (l : Launch) (D : va_G) (cI cB cZ : ClassId) (zz qq vv : Nat) (bt : Nat → Int32) (c0 : Nat) (x z n eo : Nat) (mc : Int32) (o : Nat → Nat) (e0 e1 e2 : Int32) (ws : va_W) (sz : Nat) (hn : n ≤ c0) (hc : c0 ≤ 100) (h0 : 0 < n) (h60 : n ≤ 60) (hel : ∀ i : Nat, i < n → ∃ fs : List Value, ((o i, .inr (7, fs)) : Nat × va_E) ∈ ((eo, .inr (7, [.int e0, .int e1, .int e2])) : Nat × va_E) :: ws) : Met l yJx4a65c_add_72be8 (CWS yJx4a65c_add_72be8 cJx4a65c_add_72be8 4 none) (RM 6 1 100) (PBx [.ref x, .ref eo, .ref z, .int (nI n)] D cI cB cZ zz qq vv bt (([(x, .inr (0, [.int mc, .ref z, .int (nI n)])), (z, .inl (D.1 99, c0, .inr (.inr (.inr (.inr (fun i => if i < n then some (o i) else none)))))), (eo, .inr (7, [.int e0, .int e1, .int e2]))] : va_W) ++ ws) sz) (va_Qv (fun (u : Nat × Nat) => (n < u.2 ∧ u.2 ≤ 100)) (fun (u : Nat × Nat) (t : State) => va_P D vwCl (([(x, .inr (0, [.int mc, .ref u.1, .int (nI (n + 1))])), (u.1, .inl (D.1 99, u.2, .inr (.inr (.inr (.inr (va_up (fun i => if i < n then some (o i) else none) n (some eo))))))), (eo, .inr (7, [.int e0, .int e1, .int e2]))] : va_W) ++ ws) t.heap ∧ va_D (va_A (([(x, .inr (0, [.int mc, .ref z, .int (nI n)])), (z, .inl (D.1 99, c0, .inr (.inr (.inr (.inr (fun i => if i < n then some (o i) else none)))))), (eo, .inr (7, [.int e0, .int e1, .int e2]))] : va_W) ++ ws) sz) (([(x, .inr (0, [.int mc, .ref u.1, .int (nI (n + 1))])), (u.1, .inl (D.1 99, u.2, .inr (.inr (.inr (.inr (va_up (fun i => if i < n then some (o i) else none) n (some eo))))))), (eo, .inr (7, [.int e0, .int e1, .int e2]))] : va_W) ++ ws)) (va_A (([(x, .inr (0, [.int mc, .ref z, .int (nI n)])), (z, .inl (D.1 99, c0, .inr (.inr (.inr (.inr (fun i => if i < n then some (o i) else none)))))), (eo, .inr (7, [.int e0, .int e1, .int e2]))] : va_W) ++ ws) sz)) 1 100 (va_A (([(x, .inr (0, [.int mc, .ref z, .int (nI n)])), (z, .inl (D.1 99, c0, .inr (.inr (.inr (.inr (fun i => if i < n then some (o i) else none)))))), (eo, .inr (7, [.int e0, .int e1, .int e2]))] : va_W) ++ ws) sz) := by
  refine en_x (fun A => (va_Qv (fun (u : Nat × Nat) => (n < u.2 ∧ u.2 ≤ 100)) (fun (u : Nat × Nat) (t : State) => va_P D vwCl (([(x, .inr (0, [.int mc, .ref u.1, .int (nI (n + 1))])), (u.1, .inl (D.1 99, u.2, .inr (.inr (.inr (.inr (va_up (fun i => if i < n then some (o i) else none) n (some eo))))))), (eo, .inr (7, [.int e0, .int e1, .int e2]))] : va_W) ++ ws) t.heap ∧ va_D A (([(x, .inr (0, [.int mc, .ref u.1, .int (nI (n + 1))])), (u.1, .inl (D.1 99, u.2, .inr (.inr (.inr (.inr (va_up (fun i => if i < n then some (o i) else none) n (some eo))))))), (eo, .inr (7, [.int e0, .int e1, .int e2]))] : va_W) ++ ws)) A)) rfl rfl pn_RJx4a65c (Nat.le_of_ble_eq_true rfl) (fun p e s m below meth c A hx hb hml hown S hr hlocks hnm hA hP hK hD hXS hS ls hl => ?_)
  have hP : va_P D vwCl (([(x, .inr (0, [.int mc, .ref z, .int (nI n)])), (z, .inl (D.1 99, c0, .inr (.inr (.inr (.inr (fun i => if i < n then some (o i) else none)))))), (eo, .inr (7, [.int e0, .int e1, .int e2]))] : va_W) ++ ws) s.heap := hP
  have hD : va_D A (([(x, .inr (0, [.int mc, .ref z, .int (nI n)])), (z, .inl (D.1 99, c0, .inr (.inr (.inr (.inr (fun i => if i < n then some (o i) else none)))))), (eo, .inr (7, [.int e0, .int e1, .int e2]))] : va_W) ++ ws) := hD
  have hl : lv_has ls 4 [(0, .ref x), (1, .ref eo), (2, .ref z), (3, .int (nI n))] := hl
  have tn : (nI n).toInt = (n : Int) := nI_toInt (by omega)
  have tc : (nI c0).toInt = (c0 : Int) := nI_toInt (by omega)
  refine lv_iload_n hx hb dJx4a65c_add_72be8_0 rfl (lvA3 hl) ?_
  refine lv_aload_n hx hb dJx4a65c_add_72be8_1 rfl (lvA2 hl) ?_
  refine va_alen hx hb hXS.2.2.2.2.2.2.2.2.1 hP 1 0 rfl rfl (v := (nI c0)) rfl dJx4a65c_add_72be8_2 ?_
  refine lv_icmp_ne (tgt := 11) hx hb dJx4a65c_add_72be8_3 rfl (fun c_1 => ?_) (fun c_1 => ?_)
  ·
    have tc_1 : ((nI n).toInt : Int) ≠ (nI c0).toInt := fun q => c_1 (Int32.toInt_inj.mp q)
    refine lv_aload_n hx hb dJx4a65c_add_72be8_11 rfl (lvA2 hl) ?_
    refine lv_iload_n hx hb dJx4a65c_add_72be8_12 rfl (lvA3 hl) ?_
    refine lv_aload_n hx hb dJx4a65c_add_72be8_13 rfl (lvA1 hl) ?_
    have hca14 : va_Nw (.castable (RX6, TX6, 3).1 "java/lang/Object") s := hXS.2.2.2.2.2.2.2.2.2.2.2.1
    refine va_astqO (r := (RX6, TX6, 3)) (E := "java/lang/Object") (cA := D.1 99) hx hb hXS.2.2.2.2.2.2.2.2.1 hP hD hS 1 0 2 7 rfl rfl hca14 rfl rfl (vp_in_nI (by omega) (by omega)) dJx4a65c_add_72be8_14 (fun H locs hP hD hS => ?_)
    have hP : va_P D vwCl (([(x, .inr (0, [.int mc, .ref z, .int (nI n)])), (z, .inl (D.1 99, c0, .inr (.inr (.inr (.inr (va_up (fun i => if i < n then some (o i) else none) (nI n).toNatClampNeg (some eo))))))), (eo, .inr (7, [.int e0, .int e1, .int e2]))] : va_W) ++ ws) H := hP
    have hD : va_D A (([(x, .inr (0, [.int mc, .ref z, .int (nI n)])), (z, .inl (D.1 99, c0, .inr (.inr (.inr (.inr (va_up (fun i => if i < n then some (o i) else none) (nI n).toNatClampNeg (some eo))))))), (eo, .inr (7, [.int e0, .int e1, .int e2]))] : va_W) ++ ws) := hD
    rw [nI_clamp (by omega)] at hP hD
    have hP : va_P D vwCl (([(x, .inr (0, [.int mc, .ref z, .int (nI n)])), (z, .inl (D.1 99, c0, .inr (.inr (.inr (.inr (va_up (fun i => if i < n then some (o i) else none) n (some eo))))))), (eo, .inr (7, [.int e0, .int e1, .int e2]))] : va_W) ++ ws) H := hP
    have hD : va_D A (([(x, .inr (0, [.int mc, .ref z, .int (nI n)])), (z, .inl (D.1 99, c0, .inr (.inr (.inr (.inr (va_up (fun i => if i < n then some (o i) else none) n (some eo))))))), (eo, .inr (7, [.int e0, .int e1, .int e2]))] : va_W) ++ ws) := hD
    refine lv_aload_n hx hb dJx4a65c_add_72be8_15 rfl (lvA0 hl) ?_
    refine lv_iload_n hx hb dJx4a65c_add_72be8_16 rfl (lvA3 hl) ?_
    refine lv_iconst (v := 1) hx hb dJx4a65c_add_72be8_17 kic_1 ?_
    refine lv_iadd hx hb dJx4a65c_add_72be8_18 ?_
    refine lv_topi (fun y_2 ey_2 => ?_)
    obtain rfl : y_2 = (nI (n + 1)) := ey_2.trans (nI_1 _)
    refine pf_RJx4a65c_48 S hK hP hD hS 0 rfl (v := .int (nI (n + 1))) (Nat.le_of_ble_eq_true rfl) rfl rfl dJx4a65c_add_72be8_19 (fun H locs hP hD hS => ?_)
    have hP : va_P D vwCl (([(x, .inr (0, [.int mc, .ref z, .int (nI (n + 1))])), (z, .inl (D.1 99, c0, .inr (.inr (.inr (.inr (va_up (fun i => if i < n then some (o i) else none) n (some eo))))))), (eo, .inr (7, [.int e0, .int e1, .int e2]))] : va_W) ++ ws) H := hP
    have hD : va_D A (([(x, .inr (0, [.int mc, .ref z, .int (nI (n + 1))])), (z, .inl (D.1 99, c0, .inr (.inr (.inr (.inr (va_up (fun i => if i < n then some (o i) else none) n (some eo))))))), (eo, .inr (7, [.int e0, .int e1, .int e2]))] : va_W) ++ ws) := hD
    refine W.widen (k := 1) (n := 100) (by omega) (by omega) ?_
    exact W.vret hx hb hr (fun t ht hW => ⟨⟨(z, c0), rfl, ⟨by omega, by omega⟩, by rw [ht]; exact hP, hD⟩, hS.F ht⟩) hS.2.2 dJx4a65c_add_72be8_22
  ·
    have tc_1 : ((nI n).toInt : Int) = (nI c0).toInt := congrArg Int32.toInt c_1
    obtain rfl : n = c0 := by omega
    refine lv_aload_n hx hb dJx4a65c_add_72be8_6 rfl (lvA0 hl) ?_
    have hFc := free_all hD hS hA
    refine va_callq (runV_xa (As := []) (rest := []) S (q_l_gro0S l D cI cB cZ zz qq vv bt x z n eo mc o e0 e1 e2 ws s.heap.size h0 h60 hel) kV_RJx4a65c_129 hK hXS hS hFc hP hD 0 rfl rfl rfl ⟨Nat.le_of_ble_eq_true rfl, Nat.le_of_ble_eq_true rfl⟩ ⟨Nat.le_of_ble_eq_true rfl, Nat.le_of_ble_eq_true rfl⟩ rfl hl.1 rfl (Nat.le_of_ble_eq_true rfl) dJx4a65c_add_72be8_7) hS (fun q _ h => hFc q h) hFc (fun r2 u2 t H1 locs ht hvm h2 hB1 hz1 hk1 hS => ?_)
    obtain ⟨hP1, hD1⟩ := hB1
    rw [ht] at hP1
    obtain ⟨ua2, uc2⟩ := u2
    have hP : va_P D vwCl (([(x, .inr (0, [.int mc, .ref ua2, .int (nI n)])), (ua2, .inl (D.1 99, uc2, .inr (.inr (.inr (.inr (fun i => if i < n then some (o i) else none)))))), (eo, .inr (7, [.int e0, .int e1, .int e2]))] : va_W) ++ ws) H1 := hP1
    have hD : va_D A (([(x, .inr (0, [.int mc, .ref ua2, .int (nI n)])), (ua2, .inl (D.1 99, uc2, .inr (.inr (.inr (.inr (fun i => if i < n then some (o i) else none)))))), (eo, .inr (7, [.int e0, .int e1, .int e2]))] : va_W) ++ ws) := hD1.weaken (fun _ _ _ h => hFc _ h)
    generalize H1 = H at hP hS ⊢
    obtain ⟨hr2, h2⟩ := h2
    subst hr2
    refine lv_astore_n (lv' := [(2, .ref ua2), (0, .ref x), (1, .ref eo), (3, .int (nI n))]) hx hb dJx4a65c_add_72be8_10 rfl hl (ltb rfl) rfl (fun ls hl => ?_)
    refine lv_aload_n hx hb dJx4a65c_add_72be8_11 rfl (lvA0 hl) ?_
    refine lv_iload_n hx hb dJx4a65c_add_72be8_12 rfl (lvA3 hl) ?_
    refine lv_aload_n hx hb dJx4a65c_add_72be8_13 rfl (lvA2 hl) ?_
    have hca14 : va_Nw (.castable (RX6, TX6, 3).1 "java/lang/Object") s := hXS.2.2.2.2.2.2.2.2.2.2.2.1
    refine va_astqO (r := (RX6, TX6, 3)) (E := "java/lang/Object") (cA := D.1 99) hx hb hXS.2.2.2.2.2.2.2.2.1 hP hD hS 1 0 2 7 rfl rfl hca14 rfl rfl (vp_in_nI (by omega) (by omega)) dJx4a65c_add_72be8_14 (fun H locs hP hD hS => ?_)
    have hP : va_P D vwCl (([(x, .inr (0, [.int mc, .ref ua2, .int (nI n)])), (ua2, .inl (D.1 99, uc2, .inr (.inr (.inr (.inr (va_up (fun i => if i < n then some (o i) else none) (nI n).toNatClampNeg (some eo))))))), (eo, .inr (7, [.int e0, .int e1, .int e2]))] : va_W) ++ ws) H := hP
    have hD : va_D A (([(x, .inr (0, [.int mc, .ref ua2, .int (nI n)])), (ua2, .inl (D.1 99, uc2, .inr (.inr (.inr (.inr (va_up (fun i => if i < n then some (o i) else none) (nI n).toNatClampNeg (some eo))))))), (eo, .inr (7, [.int e0, .int e1, .int e2]))] : va_W) ++ ws) := hD
    rw [nI_clamp (by omega)] at hP hD
    have hP : va_P D vwCl (([(x, .inr (0, [.int mc, .ref ua2, .int (nI n)])), (ua2, .inl (D.1 99, uc2, .inr (.inr (.inr (.inr (va_up (fun i => if i < n then some (o i) else none) n (some eo))))))), (eo, .inr (7, [.int e0, .int e1, .int e2]))] : va_W) ++ ws) H := hP
    have hD : va_D A (([(x, .inr (0, [.int mc, .ref ua2, .int (nI n)])), (ua2, .inl (D.1 99, uc2, .inr (.inr (.inr (.inr (va_up (fun i => if i < n then some (o i) else none) n (some eo))))))), (eo, .inr (7, [.int e0, .int e1, .int e2]))] : va_W) ++ ws) := hD
    refine lv_aload_n hx hb dJx4a65c_add_72be8_15 rfl (lvA1 hl) ?_
    refine lv_iload_n hx hb dJx4a65c_add_72be8_16 rfl (lvA3 hl) ?_
    refine lv_iconst (v := 1) hx hb dJx4a65c_add_72be8_17 kic_1 ?_
    refine lv_iadd hx hb dJx4a65c_add_72be8_18 ?_
    refine lv_topi (fun y_4 ey_4 => ?_)
    obtain rfl : y_4 = (nI (n + 1)) := ey_4.trans (nI_1 _)
    refine pf_RJx4a65c_48 S hK hP hD hS 0 rfl (v := .int (nI (n + 1))) (Nat.le_of_ble_eq_true rfl) rfl rfl dJx4a65c_add_72be8_19 (fun H locs hP hD hS => ?_)
    have hP : va_P D vwCl (([(x, .inr (0, [.int mc, .ref ua2, .int (nI (n + 1))])), (ua2, .inl (D.1 99, uc2, .inr (.inr (.inr (.inr (va_up (fun i => if i < n then some (o i) else none) n (some eo))))))), (eo, .inr (7, [.int e0, .int e1, .int e2]))] : va_W) ++ ws) H := hP
    have hD : va_D A (([(x, .inr (0, [.int mc, .ref ua2, .int (nI (n + 1))])), (ua2, .inl (D.1 99, uc2, .inr (.inr (.inr (.inr (va_up (fun i => if i < n then some (o i) else none) n (some eo))))))), (eo, .inr (7, [.int e0, .int e1, .int e2]))] : va_W) ++ ws) := hD
    exact W.vret hx hb hr (fun t ht hW => ⟨⟨(ua2, uc2), rfl, h2, by rw [ht]; exact hP, hD⟩, hS.F ht⟩) hS.2.2 dJx4a65c_add_72be8_22
set_option maxRecDepth 100000 in
set_option maxHeartbeats 4000000 in
theorem q_l_addGS (l : Launch) (D : va_G) (cI cB cZ : ClassId) (zz qq vv : Nat) (bt : Nat → Int32) (c0 : Nat) (x z n eo : Nat) (mc : Int32) (o : Nat → Nat) (e0 e1 e2 : Int32) (ws : va_W) (sz : Nat) (hn : n ≤ c0) (hc : c0 ≤ 100) (h0 : 0 < n) (h60 : n ≤ 60) (hel : ∀ i : Nat, i < n → ∃ fs : List Value, ((o i, .inr (7, fs)) : Nat × va_E) ∈ ((eo, .inr (7, [.int e0, .int e1, .int e2])) : Nat × va_E) :: ws) : Met l yJx4a65c_add_9ea2d (CWS yJx4a65c_add_9ea2d cJx4a65c_add_9ea2d 2 (some .boolean)) (RM 7 1 100) (PBx [.ref x, .ref eo] D cI cB cZ zz qq vv bt (([(x, .inr (0, [.int mc, .ref z, .int (nI n)])), (z, .inl (D.1 99, c0, .inr (.inr (.inr (.inr (fun i => if i < n then some (o i) else none)))))), (eo, .inr (7, [.int e0, .int e1, .int e2]))] : va_W) ++ ws) sz) (va_Qi (fun (r : Int32) (u : Nat × Nat) => r = 1 ∧ (n < u.2 ∧ u.2 ≤ 100)) (fun (u : Nat × Nat) (t : State) => va_P D vwCl (([(x, .inr (0, [.int (mc + 1), .ref u.1, .int (nI (n + 1))])), (u.1, .inl (D.1 99, u.2, .inr (.inr (.inr (.inr (va_up (fun i => if i < n then some (o i) else none) n (some eo))))))), (eo, .inr (7, [.int e0, .int e1, .int e2]))] : va_W) ++ ws) t.heap ∧ va_D (va_A (([(x, .inr (0, [.int mc, .ref z, .int (nI n)])), (z, .inl (D.1 99, c0, .inr (.inr (.inr (.inr (fun i => if i < n then some (o i) else none)))))), (eo, .inr (7, [.int e0, .int e1, .int e2]))] : va_W) ++ ws) sz) (([(x, .inr (0, [.int (mc + 1), .ref u.1, .int (nI (n + 1))])), (u.1, .inl (D.1 99, u.2, .inr (.inr (.inr (.inr (va_up (fun i => if i < n then some (o i) else none) n (some eo))))))), (eo, .inr (7, [.int e0, .int e1, .int e2]))] : va_W) ++ ws)) (va_A (([(x, .inr (0, [.int mc, .ref z, .int (nI n)])), (z, .inl (D.1 99, c0, .inr (.inr (.inr (.inr (fun i => if i < n then some (o i) else none)))))), (eo, .inr (7, [.int e0, .int e1, .int e2]))] : va_W) ++ ws) sz)) 1 100 (va_A (([(x, .inr (0, [.int mc, .ref z, .int (nI n)])), (z, .inl (D.1 99, c0, .inr (.inr (.inr (.inr (fun i => if i < n then some (o i) else none)))))), (eo, .inr (7, [.int e0, .int e1, .int e2]))] : va_W) ++ ws) sz) := by
  refine en_x (fun A => (va_Qi (fun (r : Int32) (u : Nat × Nat) => r = 1 ∧ (n < u.2 ∧ u.2 ≤ 100)) (fun (u : Nat × Nat) (t : State) => va_P D vwCl (([(x, .inr (0, [.int (mc + 1), .ref u.1, .int (nI (n + 1))])), (u.1, .inl (D.1 99, u.2, .inr (.inr (.inr (.inr (va_up (fun i => if i < n then some (o i) else none) n (some eo))))))), (eo, .inr (7, [.int e0, .int e1, .int e2]))] : va_W) ++ ws) t.heap ∧ va_D A (([(x, .inr (0, [.int (mc + 1), .ref u.1, .int (nI (n + 1))])), (u.1, .inl (D.1 99, u.2, .inr (.inr (.inr (.inr (va_up (fun i => if i < n then some (o i) else none) n (some eo))))))), (eo, .inr (7, [.int e0, .int e1, .int e2]))] : va_W) ++ ws)) A)) rfl rfl pn_RJx4a65c (Nat.le_of_ble_eq_true rfl) (fun p e s m below meth c A hx hb hml hown S hr hlocks hnm hA hP hK hD hXS hS ls hl => ?_)
  have hP : va_P D vwCl (([(x, .inr (0, [.int mc, .ref z, .int (nI n)])), (z, .inl (D.1 99, c0, .inr (.inr (.inr (.inr (fun i => if i < n then some (o i) else none)))))), (eo, .inr (7, [.int e0, .int e1, .int e2]))] : va_W) ++ ws) s.heap := hP
  have hD : va_D A (([(x, .inr (0, [.int mc, .ref z, .int (nI n)])), (z, .inl (D.1 99, c0, .inr (.inr (.inr (.inr (fun i => if i < n then some (o i) else none)))))), (eo, .inr (7, [.int e0, .int e1, .int e2]))] : va_W) ++ ws) := hD
  have hl : lv_has ls 2 [(0, .ref x), (1, .ref eo)] := hl
  refine lv_aload_n hx hb dJx4a65c_add_9ea2d_0 rfl (lvA0 hl) ?_
  refine lv_dup hx hb dJx4a65c_add_9ea2d_1 rfl ?_
  refine gf_RJx4a65c_63 S hK hP 0 rfl (v := .int mc) rfl dJx4a65c_add_9ea2d_2 ?_
  refine lv_iconst (v := 1) hx hb dJx4a65c_add_9ea2d_5 kic_1 ?_
  refine lv_iadd hx hb dJx4a65c_add_9ea2d_6 ?_
  refine pf_RJx4a65c_63 S hK hP hD hS 0 rfl (v := .int (mc + 1)) (Nat.le_of_ble_eq_true rfl) rfl rfl dJx4a65c_add_9ea2d_7 (fun H locs hP hD hS => ?_)
  have hP : va_P D vwCl (([(x, .inr (0, [.int (mc + 1), .ref z, .int (nI n)])), (z, .inl (D.1 99, c0, .inr (.inr (.inr (.inr (fun i => if i < n then some (o i) else none)))))), (eo, .inr (7, [.int e0, .int e1, .int e2]))] : va_W) ++ ws) H := hP
  have hD : va_D A (([(x, .inr (0, [.int (mc + 1), .ref z, .int (nI n)])), (z, .inl (D.1 99, c0, .inr (.inr (.inr (.inr (fun i => if i < n then some (o i) else none)))))), (eo, .inr (7, [.int e0, .int e1, .int e2]))] : va_W) ++ ws) := hD
  refine lv_aload_n hx hb dJx4a65c_add_9ea2d_10 rfl (lvA0 hl) ?_
  refine lv_aload_n hx hb dJx4a65c_add_9ea2d_11 rfl (lvA1 hl) ?_
  refine lv_aload_n hx hb dJx4a65c_add_9ea2d_12 rfl (lvA0 hl) ?_
  refine gf_RJx4a65c_9 S hK hP 0 rfl (v := .ref z) rfl dJx4a65c_add_9ea2d_13 ?_
  refine lv_aload_n hx hb dJx4a65c_add_9ea2d_16 rfl (lvA0 hl) ?_
  refine gf_RJx4a65c_48 S hK hP 0 rfl (v := .int (nI n)) rfl dJx4a65c_add_9ea2d_17 ?_
  have hFc := free_all hD hS hA
  refine va_callv (runV_xa (As := [.ref eo, .ref z, .int (nI n)]) (rest := []) S (q_l_ad3GS l D cI cB cZ zz qq vv bt c0 x z n eo (mc + 1) o e0 e1 e2 ws H.size hn hc h0 h60 hel) kV_RJx4a65c_131 hK hXS hS hFc hP hD 0 rfl rfl rfl ⟨Nat.le_of_ble_eq_true rfl, Nat.le_of_ble_eq_true rfl⟩ ⟨Nat.le_of_ble_eq_true rfl, Nat.le_of_ble_eq_true rfl⟩ rfl hl.1 rfl (Nat.le_of_ble_eq_true rfl) dJx4a65c_add_9ea2d_20) hS (fun q _ h => hFc q h) hFc (fun u0 t H1 locs ht hvm h0 hB1 hz1 hk1 hS => ?_)
  obtain ⟨hP1, hD1⟩ := hB1
  rw [ht] at hP1
  obtain ⟨ua0, uc0⟩ := u0
  have hP : va_P D vwCl (([(x, .inr (0, [.int (mc + 1), .ref ua0, .int (nI (n + 1))])), (ua0, .inl (D.1 99, uc0, .inr (.inr (.inr (.inr (va_up (fun i => if i < n then some (o i) else none) n (some eo))))))), (eo, .inr (7, [.int e0, .int e1, .int e2]))] : va_W) ++ ws) H1 := hP1
  have hD : va_D A (([(x, .inr (0, [.int (mc + 1), .ref ua0, .int (nI (n + 1))])), (ua0, .inl (D.1 99, uc0, .inr (.inr (.inr (.inr (va_up (fun i => if i < n then some (o i) else none) n (some eo))))))), (eo, .inr (7, [.int e0, .int e1, .int e2]))] : va_W) ++ ws) := hD1.weaken (fun _ _ _ h => hFc _ h)
  generalize H1 = H at hP hS ⊢
  refine lv_iconst (v := 1) hx hb dJx4a65c_add_9ea2d_23 kic_1 ?_
  exact W.zret (v := 1) hx hb hr rfl (fun t ht hW => ⟨⟨1, (ua0, uc0), rfl, ⟨rfl, h0⟩, by rw [ht]; exact hP, hD⟩, hS.F ht⟩) hS.2.2 dJx4a65c_add_9ea2d_24
set_option maxRecDepth 100000 in
set_option maxHeartbeats 4000000 in
theorem q_l_cpo3M (l : Launch) (D : va_G) (cI cB cZ : ClassId) (zz qq vv : Nat) (bt : Nat → Int32) (c1 mi : Nat) (x z n eo : Nat) (mc : Int32) (o : Nat → Nat) (e0 e1 e2 : Int32) (ws : va_W) (sz : Nat) (hc : n < c1) (h100 : c1 ≤ 100) (hel : ∀ i : Nat, i < n → ∃ fs : List Value, ((o i, .inr (4, fs)) : Nat × va_E) ∈ ((eo, .inr (4, [.int e0, .int e1, .int e2])) : Nat × va_E) :: ws) : Met l yJ7_copyOf_6403c (CWS yJ7_copyOf_6403c cJ7_copyOf_6403c 4 (some (.array (.object "java/lang/Object")))) (RM 2 1 100) (PBm mi [.ref z, .int (nI c1), .ref mi] D cI cB cZ zz qq vv bt (([(x, .inr (0, [.int mc, .ref z, .int (nI n)])), (z, .inl (D.1 99, n, .inr (.inr (.inr (.inr (fun i => if i < n then some (o i) else none)))))), (eo, .inr (4, [.int e0, .int e1, .int e2]))] : va_W) ++ ws) sz) (va_Qq (fun (r : Option Nat) (u : Nat) => r = some u ∧ True) (fun (u : Nat) (t : State) => va_P D vwCl (([(u, .inl (D.1 99, c1, .inr (.inr (.inr (.inr (fun i => if i < n then some (o i) else none)))))), (x, .inr (0, [.int mc, .ref z, .int (nI n)])), (z, .inl (D.1 99, n, .inr (.inr (.inr (.inr (fun i => if i < n then some (o i) else none)))))), (eo, .inr (4, [.int e0, .int e1, .int e2]))] : va_W) ++ ws) t.heap ∧ va_D (va_A (([(x, .inr (0, [.int mc, .ref z, .int (nI n)])), (z, .inl (D.1 99, n, .inr (.inr (.inr (.inr (fun i => if i < n then some (o i) else none)))))), (eo, .inr (4, [.int e0, .int e1, .int e2]))] : va_W) ++ ws) sz) (([(u, .inl (D.1 99, c1, .inr (.inr (.inr (.inr (fun i => if i < n then some (o i) else none)))))), (x, .inr (0, [.int mc, .ref z, .int (nI n)])), (z, .inl (D.1 99, n, .inr (.inr (.inr (.inr (fun i => if i < n then some (o i) else none)))))), (eo, .inr (4, [.int e0, .int e1, .int e2]))] : va_W) ++ ws)) (va_A (([(x, .inr (0, [.int mc, .ref z, .int (nI n)])), (z, .inl (D.1 99, n, .inr (.inr (.inr (.inr (fun i => if i < n then some (o i) else none)))))), (eo, .inr (4, [.int e0, .int e1, .int e2]))] : va_W) ++ ws) sz)) 1 100 (va_A (([(x, .inr (0, [.int mc, .ref z, .int (nI n)])), (z, .inl (D.1 99, n, .inr (.inr (.inr (.inr (fun i => if i < n then some (o i) else none)))))), (eo, .inr (4, [.int e0, .int e1, .int e2]))] : va_W) ++ ws) sz) := by
  refine Met.ofW (cc := cJ7_copyOf_6403c) (maxL := 4) (ret := (some (.array (.object "java/lang/Object")))) (by decide) rfl ?_
  intro p e s m args below meth c s₁ B hml hv
  obtain ⟨rfl, hsz, hP, hK, hD0, hXS, hMi⟩ := hv
  have hx := B.exec
  have hb := B.bytes
  have hr := B.returns
  have hts := atoms_spec (ws := (CWS yJ7_copyOf_6403c cJ7_copyOf_6403c 4 (some (.array (.object "java/lang/Object"))))) B.pre
  have hown : s.vm.findClass RJ7 = some m.cls := findClass_of_methodNamed B.named
  have hlocks := B.notSynchronized
  have S : SF p m c cJ7_copyOf_6403c 4 s ([.ref z, .int (nI c1), .ref mi]).toArray RJ7 := ⟨hx, hb, hml, hown, fun w h => hts w (List.mem_cons_of_mem _ h)⟩
  subst hsz
  have hD := hD0.self (sz := s.heap.size)
  generalize hAe : va_A (([(x, .inr (0, [.int mc, .ref z, .int (nI n)])), (z, .inl (D.1 99, n, .inr (.inr (.inr (.inr (fun i => if i < n then some (o i) else none)))))), (eo, .inr (4, [.int e0, .int e1, .int e2]))] : va_W) ++ ws) s.heap.size = A at hD hXS ⊢
  have hA : ∀ q : Nat, s.heap.size ≤ q → A q := fun q h => by rw [← hAe]; exact Or.inr h
  have hS : va_S A s.heap s.heap [] := va_S.rf
  have hP : va_P D vwCl (([(x, .inr (0, [.int mc, .ref z, .int (nI n)])), (z, .inl (D.1 99, n, .inr (.inr (.inr (.inr (fun i => if i < n then some (o i) else none)))))), (eo, .inr (4, [.int e0, .int e1, .int e2]))] : va_W) ++ ws) s.heap := hP
  have hD : va_D A (([(x, .inr (0, [.int mc, .ref z, .int (nI n)])), (z, .inl (D.1 99, n, .inr (.inr (.inr (.inr (fun i => if i < n then some (o i) else none)))))), (eo, .inr (4, [.int e0, .int e1, .int e2]))] : va_W) ++ ws) := hD
  have hl := lv_entry ([.ref z, .int (nI c1), .ref mi]) (n := 4) (Nat.le_of_ble_eq_true rfl)
  rw [lg_entry_eq]
  generalize (lg_sl ([.ref z, .int (nI c1), .ref mi]) ++ List.replicate (4 - (lg_sl ([.ref z, .int (nI c1), .ref mi])).length) Slot.unset).toArray = ls at hl ⊢
  have hl : lv_has ls 4 [(0, .ref z), (1, .int (nI c1)), (2, .ref mi)] := hl
  refine lv_aload_n hx hb dJ7_copyOf_6403c_0 rfl (lvA2 hl) ?_
  refine va_ldcM hx hb hown (S.2.2.2.2 _ (wk2_13 6 rfl rfl)) hMi dJ7_copyOf_6403c_1 ?_
  refine lv_acmp_ne (rx := some mi) (ry := some mi) (tgt := 13) hx hb dJ7_copyOf_6403c_3 (by decide) (fun h => absurd rfl h) (fun _ => ?_)
  refine lv_iload_n hx hb dJ7_copyOf_6403c_6 rfl (lvA1 hl) ?_
  refine newq_obj S hXS hK hP hD hS hA (N' := c1) (wk2_13 8 rfl rfl) (nI_nn (by omega)) (nI_clamp (by omega)) (by omega) (Nat.le_of_ble_eq_true rfl) (by show 0 + c1 ≤ 100; omega) dJ7_copyOf_6403c_7 (fun q7 H hP hD hS => ?_)
  refine W.widen (k := 1) (n := 100) (Nat.le_of_ble_eq_true rfl) (by omega) ?_
  have hP : va_P D vwCl (([(q7, .inl (D.1 99, c1, .inr (.inr (.inr (.inr (fun _ => none)))))), (x, .inr (0, [.int mc, .ref z, .int (nI n)])), (z, .inl (D.1 99, n, .inr (.inr (.inr (.inr (fun i => if i < n then some (o i) else none)))))), (eo, .inr (4, [.int e0, .int e1, .int e2]))] : va_W) ++ ws) H := va_P_perm g_rot hP
  have hD : va_D A (([(q7, .inl (D.1 99, c1, .inr (.inr (.inr (.inr (fun _ => none)))))), (x, .inr (0, [.int mc, .ref z, .int (nI n)])), (z, .inl (D.1 99, n, .inr (.inr (.inr (.inr (fun i => if i < n then some (o i) else none)))))), (eo, .inr (4, [.int e0, .int e1, .int e2]))] : va_W) ++ ws) := va_D_perm g_rot hD
  refine lv_goto (tgt := 24) hx hb dJ7_copyOf_6403c_10 rfl ?_
  refine lv_astore_n (lv' := [(3, .ref q7), (0, .ref z), (1, .int (nI c1)), (2, .ref mi)]) hx hb dJ7_copyOf_6403c_24 rfl hl (ltb rfl) rfl (fun ls hl => ?_)
  refine lv_aload_n hx hb dJ7_copyOf_6403c_25 rfl (lvA1 hl) ?_
  refine lv_iconst (v := 0) hx hb dJ7_copyOf_6403c_26 kic_0 ?_
  refine lv_aload_n hx hb dJ7_copyOf_6403c_27 rfl (lvA0 hl) ?_
  refine lv_iconst (v := 0) hx hb dJ7_copyOf_6403c_28 kic_0 ?_
  refine lv_aload_n hx hb dJ7_copyOf_6403c_29 rfl (lvA1 hl) ?_
  refine va_alen hx hb hXS.2.2.2.2.2.2.2.2.1 hP 2 0 rfl rfl (v := (nI n)) rfl dJ7_copyOf_6403c_30 ?_
  refine lv_iload_n hx hb dJ7_copyOf_6403c_31 rfl (lvA2 hl) ?_
  refine va_mmin hx hb (by rw [hml]; exact hl.1.symm) hown (S.2.2.2.2 _ (wk2_13 9 rfl rfl)) (S.2.2.2.2 _ (wk2_13 10 rfl rfl)) (S.2.2.2.2 _ (wk1_0 3 rfl rfl)) (S.2.2.2.2 _ (wk2_13 11 rfl rfl)) (Nat.le_of_ble_eq_true rfl) (Nat.le_of_ble_eq_true rfl) (Nat.le_of_ble_eq_true rfl) (Nat.le_of_ble_eq_true rfl) dJ7_copyOf_6403c_32 ?_
  refine lv_topi (fun y_1 ey_1 => ?_)
  obtain rfl : y_1 = (nI n) := ey_1.trans (min_le (by omega) (by omega))
  have hel9 : ∀ i : Nat, i < ((nI n) : Int32).toNatClampNeg → ∀ y : Nat, (fun i => if i < n then some (o i) else none) ((0 : Int32).toNatClampNeg + i) = some y → ∃ cellV : Cell, H[y]? = some cellV ∧ cellV.vm.isStatics = false ∧ s.vm.findClass "OilHome$Move" = some cellV.cls := by
    intro i hi y hy
    rw [nI_clamp (by omega)] at hi
    have hy : (if 0 + i < n then some (o (0 + i)) else none) = some y := hy
    rw [Nat.zero_add, if_pos hi] at hy
    obtain rfl := Option.some.inj hy
    obtain ⟨fs, hfs⟩ := hel i hi
    obtain ⟨j9, hj9⟩ := List.mem_iff_getElem?.mp (show ((o i, .inr (4, fs)) : Nat × va_E) ∈ (([(q7, .inl (D.1 99, c1, .inr (.inr (.inr (.inr (fun _ => none)))))), (x, .inr (0, [.int mc, .ref z, .int (nI n)])), (z, .inl (D.1 99, n, .inr (.inr (.inr (.inr (fun i => if i < n then some (o i) else none)))))), (eo, .inr (4, [.int e0, .int e1, .int e2]))] : va_W) ++ ws) from List.mem_cons_of_mem _ (List.mem_cons_of_mem _ (List.mem_cons_of_mem _ hfs)))
    exact va_recv hK.1 hP (ci := 4) rfl hj9
  refine va_copyq (E0 := "java/lang/Object") (E1 := "java/lang/Object") (C := "OilHome$Move") hx hb (by rw [hml]; exact hl.1.symm) hown (S.2.2.2.2 _ (wk2_14 0 rfl rfl)) (S.2.2.2.2 _ (wk2_14 2 rfl rfl)) (S.2.2.2.2 _ (wk2_14 1 rfl rfl)) (S.2.2.2.2 _ (wk1_1 4 rfl rfl)) hXS.2.2.2.2.2.2.2.2.1 hP hD hS 2 0 0 0 rfl rfl rfl rfl (by decide) (by decide) (nI_nn (by omega)) (by rw [nI_clamp (by omega)]; show 0 + n ≤ n; omega) (by rw [nI_clamp (by omega)]; show 0 + n ≤ c1; omega) hel9 (vb_asgC hXS.2.2.2.2.2.2.2.2.2.2.2.2.1.2.2.2) (Nat.le_of_ble_eq_true rfl) (Nat.le_of_ble_eq_true (by decide +kernel)) dJ7_copyOf_6403c_35 (fun H locs hP hD hS => ?_)
  rw [nI_clamp (n := n) (by omega), show (0 : Int32).toNatClampNeg = 0 by decide, cpy_rf] at hP hD
  have hP : va_P D vwCl (([(q7, .inl (D.1 99, c1, .inr (.inr (.inr (.inr (fun i => if i < n then some (o i) else none)))))), (x, .inr (0, [.int mc, .ref z, .int (nI n)])), (z, .inl (D.1 99, n, .inr (.inr (.inr (.inr (fun i => if i < n then some (o i) else none)))))), (eo, .inr (4, [.int e0, .int e1, .int e2]))] : va_W) ++ ws) H := hP
  have hD : va_D A (([(q7, .inl (D.1 99, c1, .inr (.inr (.inr (.inr (fun i => if i < n then some (o i) else none)))))), (x, .inr (0, [.int mc, .ref z, .int (nI n)])), (z, .inl (D.1 99, n, .inr (.inr (.inr (.inr (fun i => if i < n then some (o i) else none)))))), (eo, .inr (4, [.int e0, .int e1, .int e2]))] : va_W) ++ ws) := hD
  refine lv_aload_n hx hb dJ7_copyOf_6403c_38 rfl (lvA0 hl) ?_
  exact W.aret (v := .ref q7) hx hb hr (by first | exact Or.inl ⟨_, rfl⟩ | exact Or.inr ⟨_, rfl⟩) (Or.inr ⟨_, rfl⟩) (fun t ht hW => ⟨⟨some q7, q7, rfl, ⟨rfl, trivial⟩, by rw [ht]; exact hP, hD⟩, hS.F ht⟩) hS.2.2 dJ7_copyOf_6403c_39
set_option maxRecDepth 100000 in
set_option maxHeartbeats 4000000 in
theorem q_l_cpo2M (l : Launch) (D : va_G) (cI cB cZ : ClassId) (zz qq vv : Nat) (bt : Nat → Int32) (c1 : Nat) (x z n eo : Nat) (mc : Int32) (o : Nat → Nat) (e0 e1 e2 : Int32) (ws : va_W) (sz : Nat) (hc : n < c1) (h100 : c1 ≤ 100) (hel : ∀ i : Nat, i < n → ∃ fs : List Value, ((o i, .inr (4, fs)) : Nat × va_E) ∈ ((eo, .inr (4, [.int e0, .int e1, .int e2])) : Nat × va_E) :: ws) : Met l yJ7_copyOf_1904c (CWS yJ7_copyOf_1904c cJ7_copyOf_1904c 2 (some (.array (.object "java/lang/Object")))) (RM 3 1 100) (PBx [.ref z, .int (nI c1)] D cI cB cZ zz qq vv bt (([(x, .inr (0, [.int mc, .ref z, .int (nI n)])), (z, .inl (D.1 99, n, .inr (.inr (.inr (.inr (fun i => if i < n then some (o i) else none)))))), (eo, .inr (4, [.int e0, .int e1, .int e2]))] : va_W) ++ ws) sz) (va_Qq (fun (r : Option Nat) (u : Nat) => r = some u ∧ True) (fun (u : Nat) (t : State) => va_P D vwCl (([(u, .inl (D.1 99, c1, .inr (.inr (.inr (.inr (fun i => if i < n then some (o i) else none)))))), (x, .inr (0, [.int mc, .ref z, .int (nI n)])), (z, .inl (D.1 99, n, .inr (.inr (.inr (.inr (fun i => if i < n then some (o i) else none)))))), (eo, .inr (4, [.int e0, .int e1, .int e2]))] : va_W) ++ ws) t.heap ∧ va_D (va_A (([(x, .inr (0, [.int mc, .ref z, .int (nI n)])), (z, .inl (D.1 99, n, .inr (.inr (.inr (.inr (fun i => if i < n then some (o i) else none)))))), (eo, .inr (4, [.int e0, .int e1, .int e2]))] : va_W) ++ ws) sz) (([(u, .inl (D.1 99, c1, .inr (.inr (.inr (.inr (fun i => if i < n then some (o i) else none)))))), (x, .inr (0, [.int mc, .ref z, .int (nI n)])), (z, .inl (D.1 99, n, .inr (.inr (.inr (.inr (fun i => if i < n then some (o i) else none)))))), (eo, .inr (4, [.int e0, .int e1, .int e2]))] : va_W) ++ ws)) (va_A (([(x, .inr (0, [.int mc, .ref z, .int (nI n)])), (z, .inl (D.1 99, n, .inr (.inr (.inr (.inr (fun i => if i < n then some (o i) else none)))))), (eo, .inr (4, [.int e0, .int e1, .int e2]))] : va_W) ++ ws) sz)) 1 100 (va_A (([(x, .inr (0, [.int mc, .ref z, .int (nI n)])), (z, .inl (D.1 99, n, .inr (.inr (.inr (.inr (fun i => if i < n then some (o i) else none)))))), (eo, .inr (4, [.int e0, .int e1, .int e2]))] : va_W) ++ ws) sz) := by
  refine en_x (fun A => (va_Qq (fun (r : Option Nat) (u : Nat) => r = some u ∧ True) (fun (u : Nat) (t : State) => va_P D vwCl (([(u, .inl (D.1 99, c1, .inr (.inr (.inr (.inr (fun i => if i < n then some (o i) else none)))))), (x, .inr (0, [.int mc, .ref z, .int (nI n)])), (z, .inl (D.1 99, n, .inr (.inr (.inr (.inr (fun i => if i < n then some (o i) else none)))))), (eo, .inr (4, [.int e0, .int e1, .int e2]))] : va_W) ++ ws) t.heap ∧ va_D A (([(u, .inl (D.1 99, c1, .inr (.inr (.inr (.inr (fun i => if i < n then some (o i) else none)))))), (x, .inr (0, [.int mc, .ref z, .int (nI n)])), (z, .inl (D.1 99, n, .inr (.inr (.inr (.inr (fun i => if i < n then some (o i) else none)))))), (eo, .inr (4, [.int e0, .int e1, .int e2]))] : va_W) ++ ws)) A)) rfl rfl pn_RJ7 (Nat.le_of_ble_eq_true rfl) (fun p e s m below meth c A hx hb hml hown S hr hlocks hnm hA hP hK hD hXS hS ls hl => ?_)
  have hP : va_P D vwCl (([(x, .inr (0, [.int mc, .ref z, .int (nI n)])), (z, .inl (D.1 99, n, .inr (.inr (.inr (.inr (fun i => if i < n then some (o i) else none)))))), (eo, .inr (4, [.int e0, .int e1, .int e2]))] : va_W) ++ ws) s.heap := hP
  have hD : va_D A (([(x, .inr (0, [.int mc, .ref z, .int (nI n)])), (z, .inl (D.1 99, n, .inr (.inr (.inr (.inr (fun i => if i < n then some (o i) else none)))))), (eo, .inr (4, [.int e0, .int e1, .int e2]))] : va_W) ++ ws) := hD
  have hl : lv_has ls 2 [(0, .ref z), (1, .int (nI c1))] := hl
  refine lv_aload_n hx hb dJ7_copyOf_1904c_0 rfl (lvA0 hl) ?_
  refine lv_iload_n hx hb dJ7_copyOf_1904c_1 rfl (lvA1 hl) ?_
  refine lv_aload_n hx hb dJ7_copyOf_1904c_2 rfl (lvA0 hl) ?_
  obtain ⟨mi, hMi⟩ := hXS.2.2.2.2.2.2.2.2.2.2.2.2.2.2
  refine va_getC (C := "[Ljava/lang/Object;") (mi := mi) hx hb (by rw [hml]; exact hl.1.symm) hown (S.2.2.2.2 _ (wk2_11 9 rfl rfl)) hXS.2.2.2.2.2.2.2.2.2.2.2.2.2.1.use (S.2.2.2.2 _ (wk9_12 10 rfl rfl)) (S.2.2.2.2 _ (wk2_11 10 rfl rfl)) (S.2.2.2.2 _ (wk2_13 2 rfl rfl)) hMi (recvQ (q0 := 1) hXS hP rfl) (Nat.le_of_ble_eq_true rfl) (Nat.le_of_ble_eq_true rfl) dJ7_copyOf_1904c_3 ?_
  have hFc := free_all hD hS hA
  refine va_callq (runS_xm (As := [.ref z, .int (nI c1), .ref mi]) (rest := []) S (q_l_cpo3M l D cI cB cZ zz qq vv bt c1 mi x z n eo mc o e0 e1 e2 ws s.heap.size hc h100 hel) kS_RJ7_300 hK hXS hMi hS hFc hP hD ⟨Nat.le_of_ble_eq_true rfl, Nat.le_of_ble_eq_true rfl⟩ ⟨Nat.le_of_ble_eq_true rfl, Nat.le_of_ble_eq_true rfl⟩ rfl hl.1 rfl (Nat.le_of_ble_eq_true rfl) dJ7_copyOf_1904c_6) hS (fun q _ h => hFc q h) hFc (fun r0 u0 t H1 locs ht hvm h0 hB1 hz1 hk1 hS => ?_)
  obtain ⟨hP1, hD1⟩ := hB1
  rw [ht] at hP1
  have hP : va_P D vwCl (([(u0, .inl (D.1 99, c1, .inr (.inr (.inr (.inr (fun i => if i < n then some (o i) else none)))))), (x, .inr (0, [.int mc, .ref z, .int (nI n)])), (z, .inl (D.1 99, n, .inr (.inr (.inr (.inr (fun i => if i < n then some (o i) else none)))))), (eo, .inr (4, [.int e0, .int e1, .int e2]))] : va_W) ++ ws) H1 := hP1
  have hD : va_D A (([(u0, .inl (D.1 99, c1, .inr (.inr (.inr (.inr (fun i => if i < n then some (o i) else none)))))), (x, .inr (0, [.int mc, .ref z, .int (nI n)])), (z, .inl (D.1 99, n, .inr (.inr (.inr (.inr (fun i => if i < n then some (o i) else none)))))), (eo, .inr (4, [.int e0, .int e1, .int e2]))] : va_W) ++ ws) := hD1.weaken (fun _ _ _ h => hFc _ h)
  generalize H1 = H at hP hS ⊢
  obtain ⟨hr0, h0⟩ := h0
  subst hr0
  exact W.aret (v := .ref u0) hx hb hr (by first | exact Or.inl ⟨_, rfl⟩ | exact Or.inr ⟨_, rfl⟩) (Or.inr ⟨_, rfl⟩) (fun t ht hW => ⟨⟨some u0, u0, rfl, ⟨rfl, trivial⟩, by rw [ht]; exact hP, hD⟩, hS.F ht⟩) hS.2.2 dJ7_copyOf_1904c_9
set_option maxRecDepth 100000 in
set_option maxHeartbeats 4000000 in
theorem q_l_gro1M (l : Launch) (D : va_G) (cI cB cZ : ClassId) (zz qq vv : Nat) (bt : Nat → Int32) (x z n eo : Nat) (mc : Int32) (o : Nat → Nat) (e0 e1 e2 : Int32) (ws : va_W) (sz : Nat) (h0 : 0 < n) (h60 : n ≤ 60) (hel : ∀ i : Nat, i < n → ∃ fs : List Value, ((o i, .inr (4, fs)) : Nat × va_E) ∈ ((eo, .inr (4, [.int e0, .int e1, .int e2])) : Nat × va_E) :: ws) : Met l yJx4a65c_grow_92f84 (CWS yJx4a65c_grow_92f84 cJx4a65c_grow_92f84 4 (some (.array (.object "java/lang/Object")))) (RM 4 1 100) (PBx [.ref x, .int (nI (n + 1))] D cI cB cZ zz qq vv bt (([(x, .inr (0, [.int mc, .ref z, .int (nI n)])), (z, .inl (D.1 99, n, .inr (.inr (.inr (.inr (fun i => if i < n then some (o i) else none)))))), (eo, .inr (4, [.int e0, .int e1, .int e2]))] : va_W) ++ ws) sz) (va_Qq (fun (r : Option Nat) (u : Nat × Nat) => r = some u.1 ∧ (n < u.2 ∧ u.2 ≤ 100)) (fun (u : Nat × Nat) (t : State) => va_P D vwCl (([(x, .inr (0, [.int mc, .ref u.1, .int (nI n)])), (u.1, .inl (D.1 99, u.2, .inr (.inr (.inr (.inr (fun i => if i < n then some (o i) else none)))))), (eo, .inr (4, [.int e0, .int e1, .int e2]))] : va_W) ++ ws) t.heap ∧ va_D (va_A (([(x, .inr (0, [.int mc, .ref z, .int (nI n)])), (z, .inl (D.1 99, n, .inr (.inr (.inr (.inr (fun i => if i < n then some (o i) else none)))))), (eo, .inr (4, [.int e0, .int e1, .int e2]))] : va_W) ++ ws) sz) (([(x, .inr (0, [.int mc, .ref u.1, .int (nI n)])), (u.1, .inl (D.1 99, u.2, .inr (.inr (.inr (.inr (fun i => if i < n then some (o i) else none)))))), (eo, .inr (4, [.int e0, .int e1, .int e2]))] : va_W) ++ ws)) (va_A (([(x, .inr (0, [.int mc, .ref z, .int (nI n)])), (z, .inl (D.1 99, n, .inr (.inr (.inr (.inr (fun i => if i < n then some (o i) else none)))))), (eo, .inr (4, [.int e0, .int e1, .int e2]))] : va_W) ++ ws) sz)) 1 100 (va_A (([(x, .inr (0, [.int mc, .ref z, .int (nI n)])), (z, .inl (D.1 99, n, .inr (.inr (.inr (.inr (fun i => if i < n then some (o i) else none)))))), (eo, .inr (4, [.int e0, .int e1, .int e2]))] : va_W) ++ ws) sz) := by
  refine en_x (fun A => (va_Qq (fun (r : Option Nat) (u : Nat × Nat) => r = some u.1 ∧ (n < u.2 ∧ u.2 ≤ 100)) (fun (u : Nat × Nat) (t : State) => va_P D vwCl (([(x, .inr (0, [.int mc, .ref u.1, .int (nI n)])), (u.1, .inl (D.1 99, u.2, .inr (.inr (.inr (.inr (fun i => if i < n then some (o i) else none)))))), (eo, .inr (4, [.int e0, .int e1, .int e2]))] : va_W) ++ ws) t.heap ∧ va_D A (([(x, .inr (0, [.int mc, .ref u.1, .int (nI n)])), (u.1, .inl (D.1 99, u.2, .inr (.inr (.inr (.inr (fun i => if i < n then some (o i) else none)))))), (eo, .inr (4, [.int e0, .int e1, .int e2]))] : va_W) ++ ws)) A)) rfl rfl pn_RJx4a65c (Nat.le_of_ble_eq_true rfl) (fun p e s m below meth c A hx hb hml hown S hr hlocks hnm hA hP hK hD hXS hS ls hl => ?_)
  have hP : va_P D vwCl (([(x, .inr (0, [.int mc, .ref z, .int (nI n)])), (z, .inl (D.1 99, n, .inr (.inr (.inr (.inr (fun i => if i < n then some (o i) else none)))))), (eo, .inr (4, [.int e0, .int e1, .int e2]))] : va_W) ++ ws) s.heap := hP
  have hD : va_D A (([(x, .inr (0, [.int mc, .ref z, .int (nI n)])), (z, .inl (D.1 99, n, .inr (.inr (.inr (.inr (fun i => if i < n then some (o i) else none)))))), (eo, .inr (4, [.int e0, .int e1, .int e2]))] : va_W) ++ ws) := hD
  have hl : lv_has ls 4 [(0, .ref x), (1, .int (nI (n + 1)))] := hl
  have tn : (nI n).toInt = (n : Int) := nI_toInt (by omega)
  refine lv_aload_n hx hb dJx4a65c_grow_92f84_0 rfl (lvA0 hl) ?_
  refine gf_RJx4a65c_9 S hK hP 0 rfl (v := .ref z) rfl dJx4a65c_grow_92f84_1 ?_
  refine va_alen hx hb hXS.2.2.2.2.2.2.2.2.1 hP 1 0 rfl rfl (v := (nI n)) rfl dJx4a65c_grow_92f84_4 ?_
  refine lv_istore_n (lv' := [(2, .int (nI n)), (0, .ref x), (1, .int (nI (n + 1)))]) hx hb dJx4a65c_grow_92f84_5 rfl hl (ltb rfl) rfl (fun ls hl => ?_)
  refine lv_iload_n hx hb dJx4a65c_grow_92f84_6 rfl (lvA0 hl) ?_
  refine lv_if_gt (tgt := 20) hx hb dJx4a65c_grow_92f84_7 rfl (fun c_1 => ?_) (fun c_1 => False.elim (by have tc_1 : ((nI n).toInt : Int) ≤ 0 := Int32.le_iff_toInt_le.mp (Int32.not_lt.mp c_1); omega))
  have tc_1 : (0 : Int) < (nI n).toInt := Int32.lt_iff_toInt_lt.mp c_1
  refine lv_iload_n hx hb dJx4a65c_grow_92f84_20 rfl (lvA0 hl) ?_
  refine lv_iload_n hx hb dJx4a65c_grow_92f84_21 rfl (lvA2 hl) ?_
  refine lv_iload_n hx hb dJx4a65c_grow_92f84_22 rfl (lvA0 hl) ?_
  refine lv_isub hx hb dJx4a65c_grow_92f84_23 ?_
  refine lv_topi (fun y_2 ey_2 => ?_)
  obtain rfl : y_2 = 1 := ey_2.trans (by rw [nI_sub (by omega), show n + 1 - n = 1 by omega]; rfl)
  refine lv_iload_n hx hb dJx4a65c_grow_92f84_24 rfl (lvA0 hl) ?_
  refine lv_iconst (v := 1) hx hb dJx4a65c_grow_92f84_25 kic_1 ?_
  refine lv_ishr hx hb dJx4a65c_grow_92f84_26 ?_
  refine lv_topi (fun y_3 ey_3 => ?_)
  obtain rfl : y_3 = (nI (n / 2)) := ey_3.trans (shr1 n (by omega))
  refine vp_callSi (runS_r (As := [.int (nI n), .int 1, .int (nI (n / 2))]) (rest := []) S (q_l_newLen l D cI cB cZ n (n / 2) (by omega) (by omega)) kS_RJx4a65c_73 hK hP [] rfl ⟨Nat.le_of_ble_eq_true rfl, Nat.le_of_ble_eq_true rfl⟩ ⟨Nat.le_of_ble_eq_true rfl, Nat.le_of_ble_eq_true rfl⟩ rfl hl.1 rfl (Nat.le_of_ble_eq_true rfl) dJx4a65c_grow_92f84_27) (fun r_4 h_5 => ?_)
  subst h_5
  refine lv_istore_n (lv' := [(3, .int (nI (n + max 1 (n / 2)))), (2, .int (nI n)), (0, .ref x), (1, .int (nI (n + 1)))]) hx hb dJx4a65c_grow_92f84_30 rfl hl (ltb rfl) rfl (fun ls hl => ?_)
  refine lv_aload_n hx hb dJx4a65c_grow_92f84_31 rfl (lvA2 hl) ?_
  refine lv_aload_n hx hb dJx4a65c_grow_92f84_32 rfl (lvA2 hl) ?_
  refine gf_RJx4a65c_9 S hK hP 0 rfl (v := .ref z) rfl dJx4a65c_grow_92f84_33 ?_
  refine lv_iload_n hx hb dJx4a65c_grow_92f84_36 rfl (lvA0 hl) ?_
  have hFc := free_all hD hS hA
  refine va_callq (runS_xa (As := [.ref z, .int (nI (n + max 1 (n / 2)))]) (rest := [.ref x]) S (q_l_cpo2M l D cI cB cZ zz qq vv bt (n + max 1 (n / 2)) x z n eo mc o e0 e1 e2 ws s.heap.size (by omega) (by omega) hel) kS_RJx4a65c_66 hK hXS hS hFc hP hD ⟨Nat.le_of_ble_eq_true rfl, Nat.le_of_ble_eq_true rfl⟩ ⟨Nat.le_of_ble_eq_true rfl, Nat.le_of_ble_eq_true rfl⟩ rfl hl.1 rfl (Nat.le_of_ble_eq_true rfl) dJx4a65c_grow_92f84_37) hS (fun q _ h => hFc q h) hFc (fun r5 u5 t H1 locs ht hvm h5 hB1 hz1 hk1 hS => ?_)
  obtain ⟨hP1, hD1⟩ := hB1
  rw [ht] at hP1
  have hP : va_P D vwCl (([(u5, .inl (D.1 99, (n + max 1 (n / 2)), .inr (.inr (.inr (.inr (fun i => if i < n then some (o i) else none)))))), (x, .inr (0, [.int mc, .ref z, .int (nI n)])), (z, .inl (D.1 99, n, .inr (.inr (.inr (.inr (fun i => if i < n then some (o i) else none)))))), (eo, .inr (4, [.int e0, .int e1, .int e2]))] : va_W) ++ ws) H1 := hP1
  have hD : va_D A (([(u5, .inl (D.1 99, (n + max 1 (n / 2)), .inr (.inr (.inr (.inr (fun i => if i < n then some (o i) else none)))))), (x, .inr (0, [.int mc, .ref z, .int (nI n)])), (z, .inl (D.1 99, n, .inr (.inr (.inr (.inr (fun i => if i < n then some (o i) else none)))))), (eo, .inr (4, [.int e0, .int e1, .int e2]))] : va_W) ++ ws) := hD1.weaken (fun _ _ _ h => hFc _ h)
  generalize H1 = H at hP hS ⊢
  obtain ⟨hr5, h5⟩ := h5
  subst hr5
  refine lv_dup_x1 hx hb dJx4a65c_grow_92f84_40 rfl rfl ?_
  refine pf_RJx4a65c_9 S hK hP hD hS 1 rfl (v := .ref u5) (Nat.le_of_ble_eq_true rfl) rfl rfl dJx4a65c_grow_92f84_41 (fun H locs hP hD hS => ?_)
  have hP : va_P D vwCl (([(u5, .inl (D.1 99, (n + max 1 (n / 2)), .inr (.inr (.inr (.inr (fun i => if i < n then some (o i) else none)))))), (x, .inr (0, [.int mc, .ref u5, .int (nI n)])), (z, .inl (D.1 99, n, .inr (.inr (.inr (.inr (fun i => if i < n then some (o i) else none)))))), (eo, .inr (4, [.int e0, .int e1, .int e2]))] : va_W) ++ ws) H := hP
  have hD : va_D A (([(u5, .inl (D.1 99, (n + max 1 (n / 2)), .inr (.inr (.inr (.inr (fun i => if i < n then some (o i) else none)))))), (x, .inr (0, [.int mc, .ref u5, .int (nI n)])), (z, .inl (D.1 99, n, .inr (.inr (.inr (.inr (fun i => if i < n then some (o i) else none)))))), (eo, .inr (4, [.int e0, .int e1, .int e2]))] : va_W) ++ ws) := hD
  have hP : va_P D vwCl (([(x, .inr (0, [.int mc, .ref u5, .int (nI n)])), (u5, .inl (D.1 99, (n + max 1 (n / 2)), .inr (.inr (.inr (.inr (fun i => if i < n then some (o i) else none)))))), (eo, .inr (4, [.int e0, .int e1, .int e2]))] : va_W) ++ ws) H := g_dropP hP
  have hD : va_D A (([(x, .inr (0, [.int mc, .ref u5, .int (nI n)])), (u5, .inl (D.1 99, (n + max 1 (n / 2)), .inr (.inr (.inr (.inr (fun i => if i < n then some (o i) else none)))))), (eo, .inr (4, [.int e0, .int e1, .int e2]))] : va_W) ++ ws) := g_dropD hD
  exact W.aret (v := .ref u5) hx hb hr (by first | exact Or.inl ⟨_, rfl⟩ | exact Or.inr ⟨_, rfl⟩) (Or.inr ⟨_, rfl⟩) (fun t ht hW => ⟨⟨some u5, (u5, (n + max 1 (n / 2))), rfl, ⟨rfl, by omega, by omega⟩, by rw [ht]; exact hP, hD⟩, hS.F ht⟩) hS.2.2 dJx4a65c_grow_92f84_44
set_option maxRecDepth 100000 in
set_option maxHeartbeats 4000000 in
theorem q_l_gro0M (l : Launch) (D : va_G) (cI cB cZ : ClassId) (zz qq vv : Nat) (bt : Nat → Int32) (x z n eo : Nat) (mc : Int32) (o : Nat → Nat) (e0 e1 e2 : Int32) (ws : va_W) (sz : Nat) (h0 : 0 < n) (h60 : n ≤ 60) (hel : ∀ i : Nat, i < n → ∃ fs : List Value, ((o i, .inr (4, fs)) : Nat × va_E) ∈ ((eo, .inr (4, [.int e0, .int e1, .int e2])) : Nat × va_E) :: ws) : Met l yJx4a65c_grow_d5877 (CWS yJx4a65c_grow_d5877 cJx4a65c_grow_d5877 1 (some (.array (.object "java/lang/Object")))) (RM 5 1 100) (PBx [.ref x] D cI cB cZ zz qq vv bt (([(x, .inr (0, [.int mc, .ref z, .int (nI n)])), (z, .inl (D.1 99, n, .inr (.inr (.inr (.inr (fun i => if i < n then some (o i) else none)))))), (eo, .inr (4, [.int e0, .int e1, .int e2]))] : va_W) ++ ws) sz) (va_Qq (fun (r : Option Nat) (u : Nat × Nat) => r = some u.1 ∧ (n < u.2 ∧ u.2 ≤ 100)) (fun (u : Nat × Nat) (t : State) => va_P D vwCl (([(x, .inr (0, [.int mc, .ref u.1, .int (nI n)])), (u.1, .inl (D.1 99, u.2, .inr (.inr (.inr (.inr (fun i => if i < n then some (o i) else none)))))), (eo, .inr (4, [.int e0, .int e1, .int e2]))] : va_W) ++ ws) t.heap ∧ va_D (va_A (([(x, .inr (0, [.int mc, .ref z, .int (nI n)])), (z, .inl (D.1 99, n, .inr (.inr (.inr (.inr (fun i => if i < n then some (o i) else none)))))), (eo, .inr (4, [.int e0, .int e1, .int e2]))] : va_W) ++ ws) sz) (([(x, .inr (0, [.int mc, .ref u.1, .int (nI n)])), (u.1, .inl (D.1 99, u.2, .inr (.inr (.inr (.inr (fun i => if i < n then some (o i) else none)))))), (eo, .inr (4, [.int e0, .int e1, .int e2]))] : va_W) ++ ws)) (va_A (([(x, .inr (0, [.int mc, .ref z, .int (nI n)])), (z, .inl (D.1 99, n, .inr (.inr (.inr (.inr (fun i => if i < n then some (o i) else none)))))), (eo, .inr (4, [.int e0, .int e1, .int e2]))] : va_W) ++ ws) sz)) 1 100 (va_A (([(x, .inr (0, [.int mc, .ref z, .int (nI n)])), (z, .inl (D.1 99, n, .inr (.inr (.inr (.inr (fun i => if i < n then some (o i) else none)))))), (eo, .inr (4, [.int e0, .int e1, .int e2]))] : va_W) ++ ws) sz) := by
  refine en_x (fun A => (va_Qq (fun (r : Option Nat) (u : Nat × Nat) => r = some u.1 ∧ (n < u.2 ∧ u.2 ≤ 100)) (fun (u : Nat × Nat) (t : State) => va_P D vwCl (([(x, .inr (0, [.int mc, .ref u.1, .int (nI n)])), (u.1, .inl (D.1 99, u.2, .inr (.inr (.inr (.inr (fun i => if i < n then some (o i) else none)))))), (eo, .inr (4, [.int e0, .int e1, .int e2]))] : va_W) ++ ws) t.heap ∧ va_D A (([(x, .inr (0, [.int mc, .ref u.1, .int (nI n)])), (u.1, .inl (D.1 99, u.2, .inr (.inr (.inr (.inr (fun i => if i < n then some (o i) else none)))))), (eo, .inr (4, [.int e0, .int e1, .int e2]))] : va_W) ++ ws)) A)) rfl rfl pn_RJx4a65c (Nat.le_of_ble_eq_true rfl) (fun p e s m below meth c A hx hb hml hown S hr hlocks hnm hA hP hK hD hXS hS ls hl => ?_)
  have hP : va_P D vwCl (([(x, .inr (0, [.int mc, .ref z, .int (nI n)])), (z, .inl (D.1 99, n, .inr (.inr (.inr (.inr (fun i => if i < n then some (o i) else none)))))), (eo, .inr (4, [.int e0, .int e1, .int e2]))] : va_W) ++ ws) s.heap := hP
  have hD : va_D A (([(x, .inr (0, [.int mc, .ref z, .int (nI n)])), (z, .inl (D.1 99, n, .inr (.inr (.inr (.inr (fun i => if i < n then some (o i) else none)))))), (eo, .inr (4, [.int e0, .int e1, .int e2]))] : va_W) ++ ws) := hD
  have hl : lv_has ls 1 [(0, .ref x)] := hl
  refine lv_aload_n hx hb dJx4a65c_grow_d5877_0 rfl (lvA0 hl) ?_
  refine lv_aload_n hx hb dJx4a65c_grow_d5877_1 rfl (lvA0 hl) ?_
  refine gf_RJx4a65c_48 S hK hP 0 rfl (v := .int (nI n)) rfl dJx4a65c_grow_d5877_2 ?_
  refine lv_iconst (v := 1) hx hb dJx4a65c_grow_d5877_5 kic_1 ?_
  refine lv_iadd hx hb dJx4a65c_grow_d5877_6 ?_
  refine lv_topi (fun y_1 ey_1 => ?_)
  obtain rfl : y_1 = (nI (n + 1)) := ey_1.trans (nI_1 _)
  have hFc := free_all hD hS hA
  refine va_callq (runV_xa (As := [.int (nI (n + 1))]) (rest := []) S (q_l_gro1M l D cI cB cZ zz qq vv bt x z n eo mc o e0 e1 e2 ws s.heap.size h0 h60 hel) kV_RJx4a65c_69 hK hXS hS hFc hP hD 0 rfl rfl rfl ⟨Nat.le_of_ble_eq_true rfl, Nat.le_of_ble_eq_true rfl⟩ ⟨Nat.le_of_ble_eq_true rfl, Nat.le_of_ble_eq_true rfl⟩ rfl hl.1 rfl (Nat.le_of_ble_eq_true rfl) dJx4a65c_grow_d5877_7) hS (fun q _ h => hFc q h) hFc (fun r1 u1 t H1 locs ht hvm h1 hB1 hz1 hk1 hS => ?_)
  obtain ⟨hP1, hD1⟩ := hB1
  rw [ht] at hP1
  obtain ⟨ua1, uc1⟩ := u1
  have hP : va_P D vwCl (([(x, .inr (0, [.int mc, .ref ua1, .int (nI n)])), (ua1, .inl (D.1 99, uc1, .inr (.inr (.inr (.inr (fun i => if i < n then some (o i) else none)))))), (eo, .inr (4, [.int e0, .int e1, .int e2]))] : va_W) ++ ws) H1 := hP1
  have hD : va_D A (([(x, .inr (0, [.int mc, .ref ua1, .int (nI n)])), (ua1, .inl (D.1 99, uc1, .inr (.inr (.inr (.inr (fun i => if i < n then some (o i) else none)))))), (eo, .inr (4, [.int e0, .int e1, .int e2]))] : va_W) ++ ws) := hD1.weaken (fun _ _ _ h => hFc _ h)
  generalize H1 = H at hP hS ⊢
  obtain ⟨hr1, h1⟩ := h1
  subst hr1
  exact W.aret (v := .ref ua1) hx hb hr (by first | exact Or.inl ⟨_, rfl⟩ | exact Or.inr ⟨_, rfl⟩) (Or.inr ⟨_, rfl⟩) (fun t ht hW => ⟨⟨some ua1, (ua1, uc1), rfl, ⟨rfl, h1⟩, by rw [ht]; exact hP, hD⟩, hS.F ht⟩) hS.2.2 dJx4a65c_grow_d5877_10
set_option maxRecDepth 100000 in
set_option maxHeartbeats 4000000 in
theorem q_l_ad3GM (l : Launch) (D : va_G) (cI cB cZ : ClassId) (zz qq vv : Nat) (bt : Nat → Int32) (c0 : Nat) (x z n eo : Nat) (mc : Int32) (o : Nat → Nat) (e0 e1 e2 : Int32) (ws : va_W) (sz : Nat) (hn : n ≤ c0) (hc : c0 ≤ 100) (h0 : 0 < n) (h60 : n ≤ 60) (hel : ∀ i : Nat, i < n → ∃ fs : List Value, ((o i, .inr (4, fs)) : Nat × va_E) ∈ ((eo, .inr (4, [.int e0, .int e1, .int e2])) : Nat × va_E) :: ws) : Met l yJx4a65c_add_72be8 (CWS yJx4a65c_add_72be8 cJx4a65c_add_72be8 4 none) (RM 6 1 100) (PBx [.ref x, .ref eo, .ref z, .int (nI n)] D cI cB cZ zz qq vv bt (([(x, .inr (0, [.int mc, .ref z, .int (nI n)])), (z, .inl (D.1 99, c0, .inr (.inr (.inr (.inr (fun i => if i < n then some (o i) else none)))))), (eo, .inr (4, [.int e0, .int e1, .int e2]))] : va_W) ++ ws) sz) (va_Qv (fun (u : Nat × Nat) => (n < u.2 ∧ u.2 ≤ 100)) (fun (u : Nat × Nat) (t : State) => va_P D vwCl (([(x, .inr (0, [.int mc, .ref u.1, .int (nI (n + 1))])), (u.1, .inl (D.1 99, u.2, .inr (.inr (.inr (.inr (va_up (fun i => if i < n then some (o i) else none) n (some eo))))))), (eo, .inr (4, [.int e0, .int e1, .int e2]))] : va_W) ++ ws) t.heap ∧ va_D (va_A (([(x, .inr (0, [.int mc, .ref z, .int (nI n)])), (z, .inl (D.1 99, c0, .inr (.inr (.inr (.inr (fun i => if i < n then some (o i) else none)))))), (eo, .inr (4, [.int e0, .int e1, .int e2]))] : va_W) ++ ws) sz) (([(x, .inr (0, [.int mc, .ref u.1, .int (nI (n + 1))])), (u.1, .inl (D.1 99, u.2, .inr (.inr (.inr (.inr (va_up (fun i => if i < n then some (o i) else none) n (some eo))))))), (eo, .inr (4, [.int e0, .int e1, .int e2]))] : va_W) ++ ws)) (va_A (([(x, .inr (0, [.int mc, .ref z, .int (nI n)])), (z, .inl (D.1 99, c0, .inr (.inr (.inr (.inr (fun i => if i < n then some (o i) else none)))))), (eo, .inr (4, [.int e0, .int e1, .int e2]))] : va_W) ++ ws) sz)) 1 100 (va_A (([(x, .inr (0, [.int mc, .ref z, .int (nI n)])), (z, .inl (D.1 99, c0, .inr (.inr (.inr (.inr (fun i => if i < n then some (o i) else none)))))), (eo, .inr (4, [.int e0, .int e1, .int e2]))] : va_W) ++ ws) sz) := by
  refine en_x (fun A => (va_Qv (fun (u : Nat × Nat) => (n < u.2 ∧ u.2 ≤ 100)) (fun (u : Nat × Nat) (t : State) => va_P D vwCl (([(x, .inr (0, [.int mc, .ref u.1, .int (nI (n + 1))])), (u.1, .inl (D.1 99, u.2, .inr (.inr (.inr (.inr (va_up (fun i => if i < n then some (o i) else none) n (some eo))))))), (eo, .inr (4, [.int e0, .int e1, .int e2]))] : va_W) ++ ws) t.heap ∧ va_D A (([(x, .inr (0, [.int mc, .ref u.1, .int (nI (n + 1))])), (u.1, .inl (D.1 99, u.2, .inr (.inr (.inr (.inr (va_up (fun i => if i < n then some (o i) else none) n (some eo))))))), (eo, .inr (4, [.int e0, .int e1, .int e2]))] : va_W) ++ ws)) A)) rfl rfl pn_RJx4a65c (Nat.le_of_ble_eq_true rfl) (fun p e s m below meth c A hx hb hml hown S hr hlocks hnm hA hP hK hD hXS hS ls hl => ?_)
  have hP : va_P D vwCl (([(x, .inr (0, [.int mc, .ref z, .int (nI n)])), (z, .inl (D.1 99, c0, .inr (.inr (.inr (.inr (fun i => if i < n then some (o i) else none)))))), (eo, .inr (4, [.int e0, .int e1, .int e2]))] : va_W) ++ ws) s.heap := hP
  have hD : va_D A (([(x, .inr (0, [.int mc, .ref z, .int (nI n)])), (z, .inl (D.1 99, c0, .inr (.inr (.inr (.inr (fun i => if i < n then some (o i) else none)))))), (eo, .inr (4, [.int e0, .int e1, .int e2]))] : va_W) ++ ws) := hD
  have hl : lv_has ls 4 [(0, .ref x), (1, .ref eo), (2, .ref z), (3, .int (nI n))] := hl
  have tn : (nI n).toInt = (n : Int) := nI_toInt (by omega)
  have tc : (nI c0).toInt = (c0 : Int) := nI_toInt (by omega)
  refine lv_iload_n hx hb dJx4a65c_add_72be8_0 rfl (lvA3 hl) ?_
  refine lv_aload_n hx hb dJx4a65c_add_72be8_1 rfl (lvA2 hl) ?_
  refine va_alen hx hb hXS.2.2.2.2.2.2.2.2.1 hP 1 0 rfl rfl (v := (nI c0)) rfl dJx4a65c_add_72be8_2 ?_
  refine lv_icmp_ne (tgt := 11) hx hb dJx4a65c_add_72be8_3 rfl (fun c_1 => ?_) (fun c_1 => ?_)
  ·
    have tc_1 : ((nI n).toInt : Int) ≠ (nI c0).toInt := fun q => c_1 (Int32.toInt_inj.mp q)
    refine lv_aload_n hx hb dJx4a65c_add_72be8_11 rfl (lvA2 hl) ?_
    refine lv_iload_n hx hb dJx4a65c_add_72be8_12 rfl (lvA3 hl) ?_
    refine lv_aload_n hx hb dJx4a65c_add_72be8_13 rfl (lvA1 hl) ?_
    have hca14 : va_Nw (.castable (RX3, TX3, 3).1 "java/lang/Object") s := hXS.2.2.2.2.2.2.2.2.2.2.2.2.1.2.2.2
    refine va_astqO (r := (RX3, TX3, 3)) (E := "java/lang/Object") (cA := D.1 99) hx hb hXS.2.2.2.2.2.2.2.2.1 hP hD hS 1 0 2 4 rfl rfl hca14 rfl rfl (vp_in_nI (by omega) (by omega)) dJx4a65c_add_72be8_14 (fun H locs hP hD hS => ?_)
    have hP : va_P D vwCl (([(x, .inr (0, [.int mc, .ref z, .int (nI n)])), (z, .inl (D.1 99, c0, .inr (.inr (.inr (.inr (va_up (fun i => if i < n then some (o i) else none) (nI n).toNatClampNeg (some eo))))))), (eo, .inr (4, [.int e0, .int e1, .int e2]))] : va_W) ++ ws) H := hP
    have hD : va_D A (([(x, .inr (0, [.int mc, .ref z, .int (nI n)])), (z, .inl (D.1 99, c0, .inr (.inr (.inr (.inr (va_up (fun i => if i < n then some (o i) else none) (nI n).toNatClampNeg (some eo))))))), (eo, .inr (4, [.int e0, .int e1, .int e2]))] : va_W) ++ ws) := hD
    rw [nI_clamp (by omega)] at hP hD
    have hP : va_P D vwCl (([(x, .inr (0, [.int mc, .ref z, .int (nI n)])), (z, .inl (D.1 99, c0, .inr (.inr (.inr (.inr (va_up (fun i => if i < n then some (o i) else none) n (some eo))))))), (eo, .inr (4, [.int e0, .int e1, .int e2]))] : va_W) ++ ws) H := hP
    have hD : va_D A (([(x, .inr (0, [.int mc, .ref z, .int (nI n)])), (z, .inl (D.1 99, c0, .inr (.inr (.inr (.inr (va_up (fun i => if i < n then some (o i) else none) n (some eo))))))), (eo, .inr (4, [.int e0, .int e1, .int e2]))] : va_W) ++ ws) := hD
    refine lv_aload_n hx hb dJx4a65c_add_72be8_15 rfl (lvA0 hl) ?_
    refine lv_iload_n hx hb dJx4a65c_add_72be8_16 rfl (lvA3 hl) ?_
    refine lv_iconst (v := 1) hx hb dJx4a65c_add_72be8_17 kic_1 ?_
    refine lv_iadd hx hb dJx4a65c_add_72be8_18 ?_
    refine lv_topi (fun y_2 ey_2 => ?_)
    obtain rfl : y_2 = (nI (n + 1)) := ey_2.trans (nI_1 _)
    refine pf_RJx4a65c_48 S hK hP hD hS 0 rfl (v := .int (nI (n + 1))) (Nat.le_of_ble_eq_true rfl) rfl rfl dJx4a65c_add_72be8_19 (fun H locs hP hD hS => ?_)
    have hP : va_P D vwCl (([(x, .inr (0, [.int mc, .ref z, .int (nI (n + 1))])), (z, .inl (D.1 99, c0, .inr (.inr (.inr (.inr (va_up (fun i => if i < n then some (o i) else none) n (some eo))))))), (eo, .inr (4, [.int e0, .int e1, .int e2]))] : va_W) ++ ws) H := hP
    have hD : va_D A (([(x, .inr (0, [.int mc, .ref z, .int (nI (n + 1))])), (z, .inl (D.1 99, c0, .inr (.inr (.inr (.inr (va_up (fun i => if i < n then some (o i) else none) n (some eo))))))), (eo, .inr (4, [.int e0, .int e1, .int e2]))] : va_W) ++ ws) := hD
    refine W.widen (k := 1) (n := 100) (by omega) (by omega) ?_
    exact W.vret hx hb hr (fun t ht hW => ⟨⟨(z, c0), rfl, ⟨by omega, by omega⟩, by rw [ht]; exact hP, hD⟩, hS.F ht⟩) hS.2.2 dJx4a65c_add_72be8_22
  ·
    have tc_1 : ((nI n).toInt : Int) = (nI c0).toInt := congrArg Int32.toInt c_1
    obtain rfl : n = c0 := by omega
    refine lv_aload_n hx hb dJx4a65c_add_72be8_6 rfl (lvA0 hl) ?_
    have hFc := free_all hD hS hA
    refine va_callq (runV_xa (As := []) (rest := []) S (q_l_gro0M l D cI cB cZ zz qq vv bt x z n eo mc o e0 e1 e2 ws s.heap.size h0 h60 hel) kV_RJx4a65c_129 hK hXS hS hFc hP hD 0 rfl rfl rfl ⟨Nat.le_of_ble_eq_true rfl, Nat.le_of_ble_eq_true rfl⟩ ⟨Nat.le_of_ble_eq_true rfl, Nat.le_of_ble_eq_true rfl⟩ rfl hl.1 rfl (Nat.le_of_ble_eq_true rfl) dJx4a65c_add_72be8_7) hS (fun q _ h => hFc q h) hFc (fun r2 u2 t H1 locs ht hvm h2 hB1 hz1 hk1 hS => ?_)
    obtain ⟨hP1, hD1⟩ := hB1
    rw [ht] at hP1
    obtain ⟨ua2, uc2⟩ := u2
    have hP : va_P D vwCl (([(x, .inr (0, [.int mc, .ref ua2, .int (nI n)])), (ua2, .inl (D.1 99, uc2, .inr (.inr (.inr (.inr (fun i => if i < n then some (o i) else none)))))), (eo, .inr (4, [.int e0, .int e1, .int e2]))] : va_W) ++ ws) H1 := hP1
    have hD : va_D A (([(x, .inr (0, [.int mc, .ref ua2, .int (nI n)])), (ua2, .inl (D.1 99, uc2, .inr (.inr (.inr (.inr (fun i => if i < n then some (o i) else none)))))), (eo, .inr (4, [.int e0, .int e1, .int e2]))] : va_W) ++ ws) := hD1.weaken (fun _ _ _ h => hFc _ h)
    generalize H1 = H at hP hS ⊢
    obtain ⟨hr2, h2⟩ := h2
    subst hr2
    refine lv_astore_n (lv' := [(2, .ref ua2), (0, .ref x), (1, .ref eo), (3, .int (nI n))]) hx hb dJx4a65c_add_72be8_10 rfl hl (ltb rfl) rfl (fun ls hl => ?_)
    refine lv_aload_n hx hb dJx4a65c_add_72be8_11 rfl (lvA0 hl) ?_
    refine lv_iload_n hx hb dJx4a65c_add_72be8_12 rfl (lvA3 hl) ?_
    refine lv_aload_n hx hb dJx4a65c_add_72be8_13 rfl (lvA2 hl) ?_
    have hca14 : va_Nw (.castable (RX3, TX3, 3).1 "java/lang/Object") s := hXS.2.2.2.2.2.2.2.2.2.2.2.2.1.2.2.2
    refine va_astqO (r := (RX3, TX3, 3)) (E := "java/lang/Object") (cA := D.1 99) hx hb hXS.2.2.2.2.2.2.2.2.1 hP hD hS 1 0 2 4 rfl rfl hca14 rfl rfl (vp_in_nI (by omega) (by omega)) dJx4a65c_add_72be8_14 (fun H locs hP hD hS => ?_)
    have hP : va_P D vwCl (([(x, .inr (0, [.int mc, .ref ua2, .int (nI n)])), (ua2, .inl (D.1 99, uc2, .inr (.inr (.inr (.inr (va_up (fun i => if i < n then some (o i) else none) (nI n).toNatClampNeg (some eo))))))), (eo, .inr (4, [.int e0, .int e1, .int e2]))] : va_W) ++ ws) H := hP
    have hD : va_D A (([(x, .inr (0, [.int mc, .ref ua2, .int (nI n)])), (ua2, .inl (D.1 99, uc2, .inr (.inr (.inr (.inr (va_up (fun i => if i < n then some (o i) else none) (nI n).toNatClampNeg (some eo))))))), (eo, .inr (4, [.int e0, .int e1, .int e2]))] : va_W) ++ ws) := hD
    rw [nI_clamp (by omega)] at hP hD
    have hP : va_P D vwCl (([(x, .inr (0, [.int mc, .ref ua2, .int (nI n)])), (ua2, .inl (D.1 99, uc2, .inr (.inr (.inr (.inr (va_up (fun i => if i < n then some (o i) else none) n (some eo))))))), (eo, .inr (4, [.int e0, .int e1, .int e2]))] : va_W) ++ ws) H := hP
    have hD : va_D A (([(x, .inr (0, [.int mc, .ref ua2, .int (nI n)])), (ua2, .inl (D.1 99, uc2, .inr (.inr (.inr (.inr (va_up (fun i => if i < n then some (o i) else none) n (some eo))))))), (eo, .inr (4, [.int e0, .int e1, .int e2]))] : va_W) ++ ws) := hD
    refine lv_aload_n hx hb dJx4a65c_add_72be8_15 rfl (lvA1 hl) ?_
    refine lv_iload_n hx hb dJx4a65c_add_72be8_16 rfl (lvA3 hl) ?_
    refine lv_iconst (v := 1) hx hb dJx4a65c_add_72be8_17 kic_1 ?_
    refine lv_iadd hx hb dJx4a65c_add_72be8_18 ?_
    refine lv_topi (fun y_4 ey_4 => ?_)
    obtain rfl : y_4 = (nI (n + 1)) := ey_4.trans (nI_1 _)
    refine pf_RJx4a65c_48 S hK hP hD hS 0 rfl (v := .int (nI (n + 1))) (Nat.le_of_ble_eq_true rfl) rfl rfl dJx4a65c_add_72be8_19 (fun H locs hP hD hS => ?_)
    have hP : va_P D vwCl (([(x, .inr (0, [.int mc, .ref ua2, .int (nI (n + 1))])), (ua2, .inl (D.1 99, uc2, .inr (.inr (.inr (.inr (va_up (fun i => if i < n then some (o i) else none) n (some eo))))))), (eo, .inr (4, [.int e0, .int e1, .int e2]))] : va_W) ++ ws) H := hP
    have hD : va_D A (([(x, .inr (0, [.int mc, .ref ua2, .int (nI (n + 1))])), (ua2, .inl (D.1 99, uc2, .inr (.inr (.inr (.inr (va_up (fun i => if i < n then some (o i) else none) n (some eo))))))), (eo, .inr (4, [.int e0, .int e1, .int e2]))] : va_W) ++ ws) := hD
    exact W.vret hx hb hr (fun t ht hW => ⟨⟨(ua2, uc2), rfl, h2, by rw [ht]; exact hP, hD⟩, hS.F ht⟩) hS.2.2 dJx4a65c_add_72be8_22
set_option maxRecDepth 100000 in
set_option maxHeartbeats 4000000 in
theorem q_l_addGM (l : Launch) (D : va_G) (cI cB cZ : ClassId) (zz qq vv : Nat) (bt : Nat → Int32) (c0 : Nat) (x z n eo : Nat) (mc : Int32) (o : Nat → Nat) (e0 e1 e2 : Int32) (ws : va_W) (sz : Nat) (hn : n ≤ c0) (hc : c0 ≤ 100) (h0 : 0 < n) (h60 : n ≤ 60) (hel : ∀ i : Nat, i < n → ∃ fs : List Value, ((o i, .inr (4, fs)) : Nat × va_E) ∈ ((eo, .inr (4, [.int e0, .int e1, .int e2])) : Nat × va_E) :: ws) : Met l yJx4a65c_add_9ea2d (CWS yJx4a65c_add_9ea2d cJx4a65c_add_9ea2d 2 (some .boolean)) (RM 7 1 100) (PBx [.ref x, .ref eo] D cI cB cZ zz qq vv bt (([(x, .inr (0, [.int mc, .ref z, .int (nI n)])), (z, .inl (D.1 99, c0, .inr (.inr (.inr (.inr (fun i => if i < n then some (o i) else none)))))), (eo, .inr (4, [.int e0, .int e1, .int e2]))] : va_W) ++ ws) sz) (va_Qi (fun (r : Int32) (u : Nat × Nat) => r = 1 ∧ (n < u.2 ∧ u.2 ≤ 100)) (fun (u : Nat × Nat) (t : State) => va_P D vwCl (([(x, .inr (0, [.int (mc + 1), .ref u.1, .int (nI (n + 1))])), (u.1, .inl (D.1 99, u.2, .inr (.inr (.inr (.inr (va_up (fun i => if i < n then some (o i) else none) n (some eo))))))), (eo, .inr (4, [.int e0, .int e1, .int e2]))] : va_W) ++ ws) t.heap ∧ va_D (va_A (([(x, .inr (0, [.int mc, .ref z, .int (nI n)])), (z, .inl (D.1 99, c0, .inr (.inr (.inr (.inr (fun i => if i < n then some (o i) else none)))))), (eo, .inr (4, [.int e0, .int e1, .int e2]))] : va_W) ++ ws) sz) (([(x, .inr (0, [.int (mc + 1), .ref u.1, .int (nI (n + 1))])), (u.1, .inl (D.1 99, u.2, .inr (.inr (.inr (.inr (va_up (fun i => if i < n then some (o i) else none) n (some eo))))))), (eo, .inr (4, [.int e0, .int e1, .int e2]))] : va_W) ++ ws)) (va_A (([(x, .inr (0, [.int mc, .ref z, .int (nI n)])), (z, .inl (D.1 99, c0, .inr (.inr (.inr (.inr (fun i => if i < n then some (o i) else none)))))), (eo, .inr (4, [.int e0, .int e1, .int e2]))] : va_W) ++ ws) sz)) 1 100 (va_A (([(x, .inr (0, [.int mc, .ref z, .int (nI n)])), (z, .inl (D.1 99, c0, .inr (.inr (.inr (.inr (fun i => if i < n then some (o i) else none)))))), (eo, .inr (4, [.int e0, .int e1, .int e2]))] : va_W) ++ ws) sz) := by
  refine en_x (fun A => (va_Qi (fun (r : Int32) (u : Nat × Nat) => r = 1 ∧ (n < u.2 ∧ u.2 ≤ 100)) (fun (u : Nat × Nat) (t : State) => va_P D vwCl (([(x, .inr (0, [.int (mc + 1), .ref u.1, .int (nI (n + 1))])), (u.1, .inl (D.1 99, u.2, .inr (.inr (.inr (.inr (va_up (fun i => if i < n then some (o i) else none) n (some eo))))))), (eo, .inr (4, [.int e0, .int e1, .int e2]))] : va_W) ++ ws) t.heap ∧ va_D A (([(x, .inr (0, [.int (mc + 1), .ref u.1, .int (nI (n + 1))])), (u.1, .inl (D.1 99, u.2, .inr (.inr (.inr (.inr (va_up (fun i => if i < n then some (o i) else none) n (some eo))))))), (eo, .inr (4, [.int e0, .int e1, .int e2]))] : va_W) ++ ws)) A)) rfl rfl pn_RJx4a65c (Nat.le_of_ble_eq_true rfl) (fun p e s m below meth c A hx hb hml hown S hr hlocks hnm hA hP hK hD hXS hS ls hl => ?_)
  have hP : va_P D vwCl (([(x, .inr (0, [.int mc, .ref z, .int (nI n)])), (z, .inl (D.1 99, c0, .inr (.inr (.inr (.inr (fun i => if i < n then some (o i) else none)))))), (eo, .inr (4, [.int e0, .int e1, .int e2]))] : va_W) ++ ws) s.heap := hP
  have hD : va_D A (([(x, .inr (0, [.int mc, .ref z, .int (nI n)])), (z, .inl (D.1 99, c0, .inr (.inr (.inr (.inr (fun i => if i < n then some (o i) else none)))))), (eo, .inr (4, [.int e0, .int e1, .int e2]))] : va_W) ++ ws) := hD
  have hl : lv_has ls 2 [(0, .ref x), (1, .ref eo)] := hl
  refine lv_aload_n hx hb dJx4a65c_add_9ea2d_0 rfl (lvA0 hl) ?_
  refine lv_dup hx hb dJx4a65c_add_9ea2d_1 rfl ?_
  refine gf_RJx4a65c_63 S hK hP 0 rfl (v := .int mc) rfl dJx4a65c_add_9ea2d_2 ?_
  refine lv_iconst (v := 1) hx hb dJx4a65c_add_9ea2d_5 kic_1 ?_
  refine lv_iadd hx hb dJx4a65c_add_9ea2d_6 ?_
  refine pf_RJx4a65c_63 S hK hP hD hS 0 rfl (v := .int (mc + 1)) (Nat.le_of_ble_eq_true rfl) rfl rfl dJx4a65c_add_9ea2d_7 (fun H locs hP hD hS => ?_)
  have hP : va_P D vwCl (([(x, .inr (0, [.int (mc + 1), .ref z, .int (nI n)])), (z, .inl (D.1 99, c0, .inr (.inr (.inr (.inr (fun i => if i < n then some (o i) else none)))))), (eo, .inr (4, [.int e0, .int e1, .int e2]))] : va_W) ++ ws) H := hP
  have hD : va_D A (([(x, .inr (0, [.int (mc + 1), .ref z, .int (nI n)])), (z, .inl (D.1 99, c0, .inr (.inr (.inr (.inr (fun i => if i < n then some (o i) else none)))))), (eo, .inr (4, [.int e0, .int e1, .int e2]))] : va_W) ++ ws) := hD
  refine lv_aload_n hx hb dJx4a65c_add_9ea2d_10 rfl (lvA0 hl) ?_
  refine lv_aload_n hx hb dJx4a65c_add_9ea2d_11 rfl (lvA1 hl) ?_
  refine lv_aload_n hx hb dJx4a65c_add_9ea2d_12 rfl (lvA0 hl) ?_
  refine gf_RJx4a65c_9 S hK hP 0 rfl (v := .ref z) rfl dJx4a65c_add_9ea2d_13 ?_
  refine lv_aload_n hx hb dJx4a65c_add_9ea2d_16 rfl (lvA0 hl) ?_
  refine gf_RJx4a65c_48 S hK hP 0 rfl (v := .int (nI n)) rfl dJx4a65c_add_9ea2d_17 ?_
  have hFc := free_all hD hS hA
  refine va_callv (runV_xa (As := [.ref eo, .ref z, .int (nI n)]) (rest := []) S (q_l_ad3GM l D cI cB cZ zz qq vv bt c0 x z n eo (mc + 1) o e0 e1 e2 ws H.size hn hc h0 h60 hel) kV_RJx4a65c_131 hK hXS hS hFc hP hD 0 rfl rfl rfl ⟨Nat.le_of_ble_eq_true rfl, Nat.le_of_ble_eq_true rfl⟩ ⟨Nat.le_of_ble_eq_true rfl, Nat.le_of_ble_eq_true rfl⟩ rfl hl.1 rfl (Nat.le_of_ble_eq_true rfl) dJx4a65c_add_9ea2d_20) hS (fun q _ h => hFc q h) hFc (fun u0 t H1 locs ht hvm h0 hB1 hz1 hk1 hS => ?_)
  obtain ⟨hP1, hD1⟩ := hB1
  rw [ht] at hP1
  obtain ⟨ua0, uc0⟩ := u0
  have hP : va_P D vwCl (([(x, .inr (0, [.int (mc + 1), .ref ua0, .int (nI (n + 1))])), (ua0, .inl (D.1 99, uc0, .inr (.inr (.inr (.inr (va_up (fun i => if i < n then some (o i) else none) n (some eo))))))), (eo, .inr (4, [.int e0, .int e1, .int e2]))] : va_W) ++ ws) H1 := hP1
  have hD : va_D A (([(x, .inr (0, [.int (mc + 1), .ref ua0, .int (nI (n + 1))])), (ua0, .inl (D.1 99, uc0, .inr (.inr (.inr (.inr (va_up (fun i => if i < n then some (o i) else none) n (some eo))))))), (eo, .inr (4, [.int e0, .int e1, .int e2]))] : va_W) ++ ws) := hD1.weaken (fun _ _ _ h => hFc _ h)
  generalize H1 = H at hP hS ⊢
  refine lv_iconst (v := 1) hx hb dJx4a65c_add_9ea2d_23 kic_1 ?_
  exact W.zret (v := 1) hx hb hr rfl (fun t ht hW => ⟨⟨1, (ua0, uc0), rfl, ⟨rfl, h0⟩, by rw [ht]; exact hP, hD⟩, hS.F ht⟩) hS.2.2 dJx4a65c_add_9ea2d_24
