
theorem arr_known {s : State} {args : Array Value} {ty : FieldType} (h : (Cond.arrayClass ty).before args s = true) (hn : ∀ C : String, ty ≠ .object C) : ∃ cA : ClassId, ArrOfT s cA ty ∧ s.vm.findClass ("[" ++ ty.toString) = some cA := by
  obtain ⟨c, k, comp, h1, h2, h3⟩ := Cond.arrayClass_spec h
  exact ⟨c, fun n z => ⟨fun k h => (by cases h), k, h2, comp, h3⟩, h1⟩
theorem arr_over {s : State} {args : Array Value} {C : String} (h : (Cond.arrayOver (.object C)).before args s = true) : ∃ cA : ClassId, ArrOfT s cA (.object C) ∧ va_RA s cA (.object C) := by
  obtain ⟨comp, c, k, h1, h2, h3, h4, h5⟩ := Cond.arrayOver_spec h
  exact ⟨c, fun n z => ⟨fun k h => (by cases h), k, h3, comp, h4⟩, k, comp, h3, h4, h1, h5⟩
theorem eqt2 {args : Array Value} {s : State} {t1 t2 : Term} {a : Nat} (h : (Cond.eq t1 t2).before args s = true) (h1 : t1.eval args s none [] s = some (.ref a)) : t2.eval args s none [] s = some (.ref a) := by
  cases hv : t2.eval args s none [] s with
  | none => simp [Cond.before, Cond.holds, Cond.value, hv] at h
  | some w =>
    simp only [Cond.before, Cond.holds, Cond.value, hv, h1] at h
    cases w <;> simp_all

set_option maxRecDepth 100000 in
theorem tw_211 : Cond.instantiable RJx4a65c 3 ∈ lw_tbl := List.mem_append_right _ (List.mem_of_getElem? (i := 211) rfl)
set_option maxRecDepth 100000 in
theorem tw_932 : Cond.instantiable RX0 8 ∈ lw_tbl := List.mem_append_right _ (List.mem_of_getElem? (i := 932) rfl)
set_option maxRecDepth 100000 in
theorem tw_304 : Cond.instantiable RX1 11 ∈ lw_tbl := List.mem_append_right _ (List.mem_of_getElem? (i := 304) rfl)
set_option maxRecDepth 100000 in
theorem tw_445 : Cond.instantiable RX2 10 ∈ lw_tbl := List.mem_append_right _ (List.mem_of_getElem? (i := 445) rfl)
set_option maxRecDepth 100000 in
theorem tw_1240 : Cond.instantiable RX3 3 ∈ lw_tbl := List.mem_append_right _ (List.mem_of_getElem? (i := 1240) rfl)
set_option maxRecDepth 100000 in
theorem tw_1032 : Cond.instantiable RX4 5 ∈ lw_tbl := List.mem_append_right _ (List.mem_of_getElem? (i := 1032) rfl)
set_option maxRecDepth 100000 in
theorem tw_90 : Cond.instantiable RX5 6 ∈ lw_tbl := List.mem_append_right _ (List.mem_of_getElem? (i := 90) rfl)
set_option maxRecDepth 100000 in
theorem tw_1170 : Cond.instantiable RX6 3 ∈ lw_tbl := List.mem_append_right _ (List.mem_of_getElem? (i := 1170) rfl)
set_option maxRecDepth 100000 in
theorem tw_129 : Cond.instantiable RX7 10 ∈ lw_tbl := List.mem_append_right _ (List.mem_of_getElem? (i := 129) rfl)
set_option maxRecDepth 100000 in
theorem tw_76 : Cond.instantiable RX8 2 ∈ lw_tbl := List.mem_append_right _ (List.mem_of_getElem? (i := 76) rfl)
set_option maxRecDepth 100000 in
theorem tw_36 : Cond.instantiable RX9 9 ∈ lw_tbl := List.mem_append_right _ (List.mem_of_getElem? (i := 36) rfl)
set_option maxRecDepth 100000 in
theorem tw_180 : Cond.instantiable RX10 7 ∈ lw_tbl := List.mem_append_right _ (List.mem_of_getElem? (i := 180) rfl)
set_option maxRecDepth 100000 in
theorem tw_28 : Cond.instantiable RX11 16 ∈ lw_tbl := List.mem_append_right _ (List.mem_of_getElem? (i := 28) rfl)
set_option maxRecDepth 100000 in
theorem tw_1308 : Cond.instantiable RX12 91 ∈ lw_tbl := List.mem_append_right _ (List.mem_of_getElem? (i := 1308) rfl)
set_option maxRecDepth 100000 in
theorem tw_74 : Cond.arrayClass .int ∈ lw_tbl := List.mem_append_right _ (List.mem_of_getElem? (i := 74) rfl)
set_option maxRecDepth 100000 in
theorem tw_178 : Cond.arrayClass .byte ∈ lw_tbl := List.mem_append_right _ (List.mem_of_getElem? (i := 178) rfl)
set_option maxRecDepth 100000 in
theorem tw_1587 : Cond.arrayClass .boolean ∈ lw_tbl := List.mem_append_right _ (List.mem_of_getElem? (i := 1587) rfl)
set_option maxRecDepth 100000 in
theorem tw_403 : Cond.arrayOver (.object "java/lang/Object") ∈ lw_tbl := List.mem_append_right _ (List.mem_of_getElem? (i := 403) rfl)
set_option maxRecDepth 100000 in
theorem tw_77 : Cond.methodLinkNest "OilHome" 20 ⟨"OilHome$Tape", "<init>", "()V"⟩ "OilHome" ∈ lw_tbl := List.mem_append_right _ (List.mem_of_getElem? (i := 77) rfl)
set_option maxRecDepth 100000 in
theorem tw_181 : Cond.methodLinkNest "OilHome" 53 ⟨"OilHome$Ways", "<init>", "()V"⟩ "OilHome" ∈ lw_tbl := List.mem_append_right _ (List.mem_of_getElem? (i := 181) rfl)
set_option maxRecDepth 100000 in
theorem tw_933 : Cond.methodLinkNest "OilHome" 353 ⟨"OilHome$Batch", "<init>", "()V"⟩ "OilHome" ∈ lw_tbl := List.mem_append_right _ (List.mem_of_getElem? (i := 933) rfl)
set_option maxRecDepth 100000 in
theorem tw_2066 : Cond.castable "OilHome$Kitchen" "java/lang/Object" ∈ lw_tbl := List.mem_append_right _ (List.mem_of_getElem? (i := 2066) rfl)
set_option maxRecDepth 100000 in
theorem tw_2070 : Cond.castable "OilHome$Sewer" "java/lang/Object" ∈ lw_tbl := List.mem_append_right _ (List.mem_of_getElem? (i := 2070) rfl)
set_option maxRecDepth 100000 in
theorem tw_2067 : Cond.castable "OilHome$Load" "java/lang/Object" ∈ lw_tbl := List.mem_append_right _ (List.mem_of_getElem? (i := 2067) rfl)
set_option maxRecDepth 100000 in
theorem tw_2068 : Cond.castable "OilHome$Batch" "java/lang/Object" ∈ lw_tbl := List.mem_append_right _ (List.mem_of_getElem? (i := 2068) rfl)
set_option maxRecDepth 100000 in
theorem tw_2069 : Cond.castable "OilHome$Proof" "java/lang/Object" ∈ lw_tbl := List.mem_append_right _ (List.mem_of_getElem? (i := 2069) rfl)
set_option maxRecDepth 100000 in
theorem tw_2071 : Cond.castable "OilHome$Move" "java/lang/Object" ∈ lw_tbl := List.mem_append_right _ (List.mem_of_getElem? (i := 2071) rfl)
set_option maxRecDepth 100000 in
theorem tw_2075 : Cond.declares ⟨"java/lang/Object", "getClass", "()Ljava/lang/Class;"⟩ ∈ lw_tbl := List.mem_append_right _ (List.mem_of_getElem? (i := 2075) rfl)
set_option maxRecDepth 100000 in
theorem tw_127 : Cond.laysStatic "java/lang/String" "COMPACT_STRINGS" "Z" ∈ lw_tbl := List.mem_append_right _ (List.mem_of_getElem? (i := 127) rfl)
set_option maxRecDepth 100000 in
theorem tw_6 : Cond.initialized "java/lang/String" ∈ lw_tbl := List.mem_append_right _ (List.mem_of_getElem? (i := 6) rfl)
set_option maxRecDepth 100000 in
theorem tw_223 : Cond.laysStatic "java/util/ArrayList" "DEFAULTCAPACITY_EMPTY_ELEMENTDATA" "[Ljava/lang/Object;" ∈ lw_tbl := List.mem_append_right _ (List.mem_of_getElem? (i := 223) rfl)
set_option maxRecDepth 100000 in
theorem tw_12 : Cond.initialized "java/util/ArrayList" ∈ lw_tbl := List.mem_append_right _ (List.mem_of_getElem? (i := 12) rfl)
set_option maxRecDepth 100000 in
theorem tw_117 : Cond.stringRef "OilHome" 32 "qfadwgkmson" ∈ lw_tbl := List.mem_append_right _ (List.mem_of_getElem? (i := 117) rfl)
set_option maxRecDepth 100000 in
theorem tw_568 : Cond.stringRef "OilHome$Reader" 98 "qfadwgkmson" ∈ lw_tbl := List.mem_append_right _ (List.mem_of_getElem? (i := 568) rfl)
theorem st_c0 {p : Program} {s : State} {m : MethodId} {meth : Method} {c : Code} {b L : Nat} {xs : Nat → Int32} (C0 : lw_At p s m meth c b L xs) : ∃ (cC : ClassId) (iS : Nat → Nat), u_Kn s RJx4a65c TJx4a65c 3 cC iS := by
  obtain ⟨hx, hb, hr, hml, hown, hts, hX, hbl, hlocks, hgv⟩ := id C0
  exact u_known (C := RJx4a65c) (T := TJx4a65c) (N := 3) (n := 3) hts (fun w h => wT_lw (hin_RJx4a65c w h)) (hts _ tw_211)
theorem st_c1 {p : Program} {s : State} {m : MethodId} {meth : Method} {c : Code} {b L : Nat} {xs : Nat → Int32} (C0 : lw_At p s m meth c b L xs) : ∃ (cC : ClassId) (iS : Nat → Nat), u_Kn s RX0 TX0 8 cC iS := by
  obtain ⟨hx, hb, hr, hml, hown, hts, hX, hbl, hlocks, hgv⟩ := id C0
  exact u_known (C := RX0) (T := TX0) (N := 8) (n := 8) hts (fun w h => wT_lw (hin_RX0 w h)) (hts _ tw_932)
theorem st_c2 {p : Program} {s : State} {m : MethodId} {meth : Method} {c : Code} {b L : Nat} {xs : Nat → Int32} (C0 : lw_At p s m meth c b L xs) : ∃ (cC : ClassId) (iS : Nat → Nat), u_Kn s RX1 TX1 11 cC iS := by
  obtain ⟨hx, hb, hr, hml, hown, hts, hX, hbl, hlocks, hgv⟩ := id C0
  exact u_known (C := RX1) (T := TX1) (N := 11) (n := 11) hts (fun w h => wT_lw (hin_RX1 w h)) (hts _ tw_304)
theorem st_c3 {p : Program} {s : State} {m : MethodId} {meth : Method} {c : Code} {b L : Nat} {xs : Nat → Int32} (C0 : lw_At p s m meth c b L xs) : ∃ (cC : ClassId) (iS : Nat → Nat), u_Kn s RX2 TX2 10 cC iS := by
  obtain ⟨hx, hb, hr, hml, hown, hts, hX, hbl, hlocks, hgv⟩ := id C0
  exact u_known (C := RX2) (T := TX2) (N := 10) (n := 10) hts (fun w h => wT_lw (hin_RX2 w h)) (hts _ tw_445)
theorem st_c4 {p : Program} {s : State} {m : MethodId} {meth : Method} {c : Code} {b L : Nat} {xs : Nat → Int32} (C0 : lw_At p s m meth c b L xs) : ∃ (cC : ClassId) (iS : Nat → Nat), u_Kn s RX3 TX3 3 cC iS := by
  obtain ⟨hx, hb, hr, hml, hown, hts, hX, hbl, hlocks, hgv⟩ := id C0
  exact u_known (C := RX3) (T := TX3) (N := 3) (n := 3) hts (fun w h => wT_lw (hin_RX3 w h)) (hts _ tw_1240)
theorem st_c5 {p : Program} {s : State} {m : MethodId} {meth : Method} {c : Code} {b L : Nat} {xs : Nat → Int32} (C0 : lw_At p s m meth c b L xs) : ∃ (cC : ClassId) (iS : Nat → Nat), u_Kn s RX4 TX4 5 cC iS := by
  obtain ⟨hx, hb, hr, hml, hown, hts, hX, hbl, hlocks, hgv⟩ := id C0
  exact u_known (C := RX4) (T := TX4) (N := 5) (n := 5) hts (fun w h => wT_lw (hin_RX4 w h)) (hts _ tw_1032)
theorem st_c6 {p : Program} {s : State} {m : MethodId} {meth : Method} {c : Code} {b L : Nat} {xs : Nat → Int32} (C0 : lw_At p s m meth c b L xs) : ∃ (cC : ClassId) (iS : Nat → Nat), u_Kn s RX5 TX5 6 cC iS := by
  obtain ⟨hx, hb, hr, hml, hown, hts, hX, hbl, hlocks, hgv⟩ := id C0
  exact u_known (C := RX5) (T := TX5) (N := 6) (n := 6) hts (fun w h => wT_lw (hin_RX5 w h)) (hts _ tw_90)
theorem st_c7 {p : Program} {s : State} {m : MethodId} {meth : Method} {c : Code} {b L : Nat} {xs : Nat → Int32} (C0 : lw_At p s m meth c b L xs) : ∃ (cC : ClassId) (iS : Nat → Nat), u_Kn s RX6 TX6 3 cC iS := by
  obtain ⟨hx, hb, hr, hml, hown, hts, hX, hbl, hlocks, hgv⟩ := id C0
  exact u_known (C := RX6) (T := TX6) (N := 3) (n := 3) hts (fun w h => wT_lw (hin_RX6 w h)) (hts _ tw_1170)
theorem st_c8 {p : Program} {s : State} {m : MethodId} {meth : Method} {c : Code} {b L : Nat} {xs : Nat → Int32} (C0 : lw_At p s m meth c b L xs) : ∃ (cC : ClassId) (iS : Nat → Nat), u_Kn s RX7 TX7 10 cC iS := by
  obtain ⟨hx, hb, hr, hml, hown, hts, hX, hbl, hlocks, hgv⟩ := id C0
  exact u_known (C := RX7) (T := TX7) (N := 10) (n := 10) hts (fun w h => wT_lw (hin_RX7 w h)) (hts _ tw_129)
theorem st_c9 {p : Program} {s : State} {m : MethodId} {meth : Method} {c : Code} {b L : Nat} {xs : Nat → Int32} (C0 : lw_At p s m meth c b L xs) : ∃ (cC : ClassId) (iS : Nat → Nat), u_Kn s RX8 TX8 2 cC iS := by
  obtain ⟨hx, hb, hr, hml, hown, hts, hX, hbl, hlocks, hgv⟩ := id C0
  exact u_known (C := RX8) (T := TX8) (N := 2) (n := 2) hts (fun w h => wT_lw (hin_RX8 w h)) (hts _ tw_76)
theorem st_c10 {p : Program} {s : State} {m : MethodId} {meth : Method} {c : Code} {b L : Nat} {xs : Nat → Int32} (C0 : lw_At p s m meth c b L xs) : ∃ (cC : ClassId) (iS : Nat → Nat), u_Kn s RX9 TX9 9 cC iS := by
  obtain ⟨hx, hb, hr, hml, hown, hts, hX, hbl, hlocks, hgv⟩ := id C0
  exact u_known (C := RX9) (T := TX9) (N := 9) (n := 9) hts (fun w h => wT_lw (hin_RX9 w h)) (hts _ tw_36)
theorem st_c11 {p : Program} {s : State} {m : MethodId} {meth : Method} {c : Code} {b L : Nat} {xs : Nat → Int32} (C0 : lw_At p s m meth c b L xs) : ∃ (cC : ClassId) (iS : Nat → Nat), u_Kn s RX10 TX10 7 cC iS := by
  obtain ⟨hx, hb, hr, hml, hown, hts, hX, hbl, hlocks, hgv⟩ := id C0
  exact u_known (C := RX10) (T := TX10) (N := 7) (n := 7) hts (fun w h => wT_lw (hin_RX10 w h)) (hts _ tw_180)
theorem st_c12 {p : Program} {s : State} {m : MethodId} {meth : Method} {c : Code} {b L : Nat} {xs : Nat → Int32} (C0 : lw_At p s m meth c b L xs) : ∃ (cC : ClassId) (iS : Nat → Nat), u_Kn s RX11 TX11 16 cC iS := by
  obtain ⟨hx, hb, hr, hml, hown, hts, hX, hbl, hlocks, hgv⟩ := id C0
  exact u_known (C := RX11) (T := TX11) (N := 16) (n := 16) hts (fun w h => wT_lw (hin_RX11 w h)) (hts _ tw_28)
theorem st_c13 {p : Program} {s : State} {m : MethodId} {meth : Method} {c : Code} {b L : Nat} {xs : Nat → Int32} (C0 : lw_At p s m meth c b L xs) : ∃ (cC : ClassId) (iS : Nat → Nat), u_Kn s RX12 TX12 91 cC iS := by
  obtain ⟨hx, hb, hr, hml, hown, hts, hX, hbl, hlocks, hgv⟩ := id C0
  exact u_known (C := RX12) (T := TX12) (N := 91) (n := 91) hts (fun w h => wT_lw (hin_RX12 w h)) (hts _ tw_1308)
theorem st_D {p : Program} {s : State} {m : MethodId} {meth : Method} {c : Code} {b L : Nat} {xs : Nat → Int32} (C0 : lw_At p s m meth c b L xs) (cQ : ClassId) : ∃ D : va_G, (∀ (k : Nat) (q : vw_C), vwCl[k]? = some q → u_Kn s q.1 q.2.1 q.2.2 (D.1 k) (D.2 k)) ∧ D.1 99 = cQ := by
  obtain ⟨c0, iS0, hKn0⟩ := st_c0 C0
  obtain ⟨c1, iS1, hKn1⟩ := st_c1 C0
  obtain ⟨c2, iS2, hKn2⟩ := st_c2 C0
  obtain ⟨c3, iS3, hKn3⟩ := st_c3 C0
  obtain ⟨c4, iS4, hKn4⟩ := st_c4 C0
  obtain ⟨c5, iS5, hKn5⟩ := st_c5 C0
  obtain ⟨c6, iS6, hKn6⟩ := st_c6 C0
  obtain ⟨c7, iS7, hKn7⟩ := st_c7 C0
  obtain ⟨c8, iS8, hKn8⟩ := st_c8 C0
  obtain ⟨c9, iS9, hKn9⟩ := st_c9 C0
  obtain ⟨c10, iS10, hKn10⟩ := st_c10 C0
  obtain ⟨c11, iS11, hKn11⟩ := st_c11 C0
  obtain ⟨c12, iS12, hKn12⟩ := st_c12 C0
  obtain ⟨c13, iS13, hKn13⟩ := st_c13 C0
  refine ⟨(fun k => ([c0, c1, c2, c3, c4, c5, c6, c7, c8, c9, c10, c11, c12, c13] : List ClassId).getD k cQ, fun k => ([iS0, iS1, iS2, iS3, iS4, iS5, iS6, iS7, iS8, iS9, iS10, iS11, iS12, iS13] : List (Nat → Nat)).getD k iS0), ?_, rfl⟩
  intro k q hq
  match k, hq with
  | 0, hq => cases hq; exact hKn0
  | 1, hq => cases hq; exact hKn1
  | 2, hq => cases hq; exact hKn2
  | 3, hq => cases hq; exact hKn3
  | 4, hq => cases hq; exact hKn4
  | 5, hq => cases hq; exact hKn5
  | 6, hq => cases hq; exact hKn6
  | 7, hq => cases hq; exact hKn7
  | 8, hq => cases hq; exact hKn8
  | 9, hq => cases hq; exact hKn9
  | 10, hq => cases hq; exact hKn10
  | 11, hq => cases hq; exact hKn11
  | 12, hq => cases hq; exact hKn12
  | 13, hq => cases hq; exact hKn13
  | k + 14, hq => simp [vwCl] at hq
theorem st_K {p : Program} {s : State} {m : MethodId} {meth : Method} {c : Code} {b L : Nat} {xs : Nat → Int32} (C0 : lw_At p s m meth c b L xs) : ∃ (D : va_G) (cI cB cZ : ClassId), KK D cI cB cZ s ∧ va_K D vwCl [(D.1 99, .object "java/lang/Object")] s := by
  obtain ⟨hx, hb, hr, hml, hown, hts, hX, hbl, hlocks, hgv⟩ := id C0
  obtain ⟨cI, hI1, hI2⟩ := arr_known (ty := .int) (hts _ tw_74) (fun C h => by cases h)
  obtain ⟨cB, hB1, hB2⟩ := arr_known (ty := .byte) (hts _ tw_178) (fun C h => by cases h)
  obtain ⟨cZ, hZ1, hZ2⟩ := arr_known (ty := .boolean) (hts _ tw_1587) (fun C h => by cases h)
  obtain ⟨cQ, hQ1, hQ2⟩ := arr_over (hts _ tw_403)
  obtain ⟨D, hKc, hD99⟩ := st_D C0 cQ
  refine ⟨D, cI, cB, cZ, ⟨⟨hKc, fun k q h => ?_⟩, va_Nw.of rfl (hts _ tw_77), va_Nw.of rfl (hts _ tw_181), va_Nw.of rfl (hts _ tw_933)⟩, ⟨hKc, fun k q h => ?_⟩⟩
  · match k, h with
    | 0, h => cases h; exact ⟨hI1, hI2⟩
    | 1, h => cases h; exact ⟨hB1, hB2⟩
    | 2, h => cases h; exact ⟨hZ1, hZ2⟩
    | k + 3, h => simp at h
  · match k, h with
    | 0, h => cases h; rw [hD99]; exact ⟨hQ1, hQ2⟩
    | k + 1, h => simp at h
theorem gv_E {s : State} {b : Nat} (hgv : (Jvm.Cond.and given_1 narrow_1).before #[Value.ref b] s = true) : (Cond.arrayOf (.static "java/util/ArrayList" "DEFAULTCAPACITY_EMPTY_ELEMENTDATA" "[Ljava/lang/Object;") (.object "java/lang/Object")).before #[Value.ref b] s = true := flat_of_before _ hgv _ (by decide +kernel)
theorem gv_El {s : State} {b : Nat} (hgv : (Jvm.Cond.and given_1 narrow_1).before #[Value.ref b] s = true) : (Cond.eq (.length (.static "java/util/ArrayList" "DEFAULTCAPACITY_EMPTY_ELEMENTDATA" "[Ljava/lang/Object;")) (.int 0)).before #[Value.ref b] s = true := flat_of_before _ hgv _ (by decide +kernel)
theorem gv_S {s : State} {b : Nat} (hgv : (Jvm.Cond.and given_1 narrow_1).before #[Value.ref b] s = true) : (Cond.exactly (.string "OilHome" 32) "java/lang/String").before #[Value.ref b] s = true := flat_of_before _ hgv _ (by decide +kernel)
theorem gv_Sc {s : State} {b : Nat} (hgv : (Jvm.Cond.and given_1 narrow_1).before #[Value.ref b] s = true) : (Cond.eq (.field (.string "OilHome" 32) "java/lang/String" "coder" "B") (.int 0)).before #[Value.ref b] s = true := flat_of_before _ hgv _ (by decide +kernel)
theorem gv_Sv {s : State} {b : Nat} (hgv : (Jvm.Cond.and given_1 narrow_1).before #[Value.ref b] s = true) : (Cond.arrayOf (.field (.string "OilHome" 32) "java/lang/String" "value" "[B") .byte).before #[Value.ref b] s = true := flat_of_before _ hgv _ (by decide +kernel)
theorem gv_Sl {s : State} {b : Nat} (hgv : (Jvm.Cond.and given_1 narrow_1).before #[Value.ref b] s = true) : (Cond.eq (.length (.field (.string "OilHome" 32) "java/lang/String" "value" "[B")) (.int 11)).before #[Value.ref b] s = true := flat_of_before _ hgv _ (by decide +kernel)
theorem gv_S0 {s : State} {b : Nat} (hgv : (Jvm.Cond.and given_1 narrow_1).before #[Value.ref b] s = true) : (Cond.eq (.elem (.field (.string "OilHome" 32) "java/lang/String" "value" "[B") (.int 0)) (.int 113)).before #[Value.ref b] s = true := flat_of_before _ hgv _ (by decide +kernel)
theorem gv_S1 {s : State} {b : Nat} (hgv : (Jvm.Cond.and given_1 narrow_1).before #[Value.ref b] s = true) : (Cond.eq (.elem (.field (.string "OilHome" 32) "java/lang/String" "value" "[B") (.int 1)) (.int 102)).before #[Value.ref b] s = true := flat_of_before _ hgv _ (by decide +kernel)
theorem gv_S2 {s : State} {b : Nat} (hgv : (Jvm.Cond.and given_1 narrow_1).before #[Value.ref b] s = true) : (Cond.eq (.elem (.field (.string "OilHome" 32) "java/lang/String" "value" "[B") (.int 2)) (.int 97)).before #[Value.ref b] s = true := flat_of_before _ hgv _ (by decide +kernel)
theorem gv_S3 {s : State} {b : Nat} (hgv : (Jvm.Cond.and given_1 narrow_1).before #[Value.ref b] s = true) : (Cond.eq (.elem (.field (.string "OilHome" 32) "java/lang/String" "value" "[B") (.int 3)) (.int 100)).before #[Value.ref b] s = true := flat_of_before _ hgv _ (by decide +kernel)
theorem gv_S4 {s : State} {b : Nat} (hgv : (Jvm.Cond.and given_1 narrow_1).before #[Value.ref b] s = true) : (Cond.eq (.elem (.field (.string "OilHome" 32) "java/lang/String" "value" "[B") (.int 4)) (.int 119)).before #[Value.ref b] s = true := flat_of_before _ hgv _ (by decide +kernel)
theorem gv_S5 {s : State} {b : Nat} (hgv : (Jvm.Cond.and given_1 narrow_1).before #[Value.ref b] s = true) : (Cond.eq (.elem (.field (.string "OilHome" 32) "java/lang/String" "value" "[B") (.int 5)) (.int 103)).before #[Value.ref b] s = true := flat_of_before _ hgv _ (by decide +kernel)
theorem gv_S6 {s : State} {b : Nat} (hgv : (Jvm.Cond.and given_1 narrow_1).before #[Value.ref b] s = true) : (Cond.eq (.elem (.field (.string "OilHome" 32) "java/lang/String" "value" "[B") (.int 6)) (.int 107)).before #[Value.ref b] s = true := flat_of_before _ hgv _ (by decide +kernel)
theorem gv_S7 {s : State} {b : Nat} (hgv : (Jvm.Cond.and given_1 narrow_1).before #[Value.ref b] s = true) : (Cond.eq (.elem (.field (.string "OilHome" 32) "java/lang/String" "value" "[B") (.int 7)) (.int 109)).before #[Value.ref b] s = true := flat_of_before _ hgv _ (by decide +kernel)
theorem gv_S8 {s : State} {b : Nat} (hgv : (Jvm.Cond.and given_1 narrow_1).before #[Value.ref b] s = true) : (Cond.eq (.elem (.field (.string "OilHome" 32) "java/lang/String" "value" "[B") (.int 8)) (.int 115)).before #[Value.ref b] s = true := flat_of_before _ hgv _ (by decide +kernel)
theorem gv_S9 {s : State} {b : Nat} (hgv : (Jvm.Cond.and given_1 narrow_1).before #[Value.ref b] s = true) : (Cond.eq (.elem (.field (.string "OilHome" 32) "java/lang/String" "value" "[B") (.int 9)) (.int 111)).before #[Value.ref b] s = true := flat_of_before _ hgv _ (by decide +kernel)
theorem gv_S10 {s : State} {b : Nat} (hgv : (Jvm.Cond.and given_1 narrow_1).before #[Value.ref b] s = true) : (Cond.eq (.elem (.field (.string "OilHome" 32) "java/lang/String" "value" "[B") (.int 10)) (.int 110)).before #[Value.ref b] s = true := flat_of_before _ hgv _ (by decide +kernel)
theorem gv_CS {s : State} {b : Nat} (hgv : (Jvm.Cond.and given_1 narrow_1).before #[Value.ref b] s = true) : (Cond.eq (.static "java/lang/String" "COMPACT_STRINGS" "Z") (.int 1)).before #[Value.ref b] s = true := flat_of_before _ hgv _ (by decide +kernel)
theorem gv_SR {s : State} {b : Nat} (hgv : (Jvm.Cond.and given_1 narrow_1).before #[Value.ref b] s = true) : (Cond.eq (.string "OilHome" 32) (.string "OilHome$Reader" 98)).before #[Value.ref b] s = true := flat_of_before _ hgv _ (by decide +kernel)
theorem gv_Mi {s : State} {b : Nat} (hgv : (Jvm.Cond.and given_1 narrow_1).before #[Value.ref b] s = true) : (Cond.isRef (.mirror "[Ljava/lang/Object;")).before #[Value.ref b] s = true := flat_of_before _ hgv _ (by decide +kernel)
theorem st_X {p : Program} {s : State} {m : MethodId} {meth : Method} {c : Code} {b L : Nat} {xs : Nat → Int32} (C0 : lw_At p s m meth c b L xs) : ∃ (D : va_G) (cI cB cZ : ClassId) (zz qq vv : Nat) (bt : Nat → Int32), KK D cI cB cZ s ∧ XS D zz qq vv bt (fun q : Nat => s.heap.size ≤ q) s s.heap := by
  obtain ⟨hx, hb, hr, hml, hown, hts, hX, hbl, hlocks, hgv⟩ := id C0
  obtain ⟨D, cI, cB, cZ, hK, hQ⟩ := st_K C0
  obtain ⟨A, hAe⟩ : ∃ A : Nat → Prop, A = (fun q : Nat => s.heap.size ≤ q) := ⟨_, rfl⟩
  have hNA : ∀ q : Nat, q < s.heap.size → ¬ A q := fun q h => by rw [hAe]; exact Nat.not_le.mpr h
  obtain ⟨zz, hzE, hzT⟩ := va_Tof (tm := (.static "java/util/ArrayList" "DEFAULTCAPACITY_EMPTY_ELEMENTDATA" "[Ljava/lang/Object;")) (ty := .object "java/lang/Object") (N := 0) (f := fun _ => .null) (A := A) (by decide) (gv_E hgv) (va_eqt (gv_El hgv)) (fun j h => absurd h (Nat.not_lt_zero j)) hNA
  obtain ⟨adK, adV, hvS, hvE⟩ := vk_Sof (args := #[Value.ref b]) (s := s) (N := 1) (tm := fun _ => (.string "OilHome" 32)) (len := [11]) (byt := [[113, 102, 97, 100, 119, 103, 107, 109, 115, 111, 110]]) (A := A) (fun i hi => by obtain rfl : i = 0 := (by omega); decide) (fun i _ => (gv_S hgv)) (fun i _ => (gv_Sc hgv)) (fun i _ => (gv_Sv hgv)) (fun i hi => by obtain rfl : i = 0 := (by omega); exact (gv_Sl hgv)) (fun i hi j hj => by
      obtain rfl : i = 0 := by omega
      have hj : j < 11 := hj
      rcases (by omega : j = 0 ∨ j = 1 ∨ j = 2 ∨ j = 3 ∨ j = 4 ∨ j = 5 ∨ j = 6 ∨ j = 7 ∨ j = 8 ∨ j = 9 ∨ j = 10) with rfl | rfl | rfl | rfl | rfl | rfl | rfl | rfl | rfl | rfl | rfl
      · exact (gv_S0 hgv)
      · exact (gv_S1 hgv)
      · exact (gv_S2 hgv)
      · exact (gv_S3 hgv)
      · exact (gv_S4 hgv)
      · exact (gv_S5 hgv)
      · exact (gv_S6 hgv)
      · exact (gv_S7 hgv)
      · exact (gv_S8 hgv)
      · exact (gv_S9 hgv)
      · exact (gv_S10 hgv)
      ) (fun i j hi hj n => absurd (by omega) n) hNA
  obtain ⟨v1, v2, v3, v4⟩ := hvS.1 0 (by decide)
  obtain ⟨mi, hMi⟩ := va_Mi.of (gv_Mi hgv)
  refine ⟨D, cI, cB, cZ, zz, adK 0, adV 0, fun j => (([[113, 102, 97, 100, 119, 103, 107, 109, 115, 111, 110]] : List (List Int32)).getD 0 []).getD j 0, hK, ?_⟩
  rw [← hAe]
  exact ⟨va_Zof (hts _ tw_127) (hts _ tw_6) (va_eqt (gv_CS hgv)) hNA, va_Zof (hts _ tw_223) (hts _ tw_12) hzE hNA, hzT, v1, v2, v3, v4, ⟨vk_R.of (hts _ tw_117) (hvE 0 (by decide)), vk_R.of (hts _ tw_568) (eqt2 (gv_SR hgv) (hvE 0 (by decide)))⟩, hQ, va_AO.of (hts _ tw_403), va_Nw.of rfl (hts _ tw_2066), va_Nw.of rfl (hts _ tw_2070), ⟨va_Nw.of rfl (hts _ tw_2067), va_Nw.of rfl (hts _ tw_2068), va_Nw.of rfl (hts _ tw_2069), va_Nw.of rfl (hts _ tw_2071)⟩, va_Dc.of (hts _ tw_2075), mi, hMi⟩
