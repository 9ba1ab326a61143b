set_option maxRecDepth 100000 in
theorem hin_RX2 : ∀ w ∈ u_ws RX2 TX2 10, w ∈ wT := by decide +kernel
set_option maxRecDepth 100000 in
theorem hin_RX3 : ∀ w ∈ u_ws RX3 TX3 3, w ∈ wT := by decide +kernel
set_option maxRecDepth 100000 in
theorem hin_RX4 : ∀ w ∈ u_ws RX4 TX4 5, w ∈ wT := by decide +kernel
set_option maxRecDepth 100000 in
theorem kI_RL_9 : CalI RL 9 yX11_init cX11_init 1 0 := ⟨⟨wT_tab 29 rfl rfl, wT_tab 30 rfl rfl, wT_tab 1 rfl rfl, wT_tab 31 rfl rfl⟩, rfl, ⟨by decide, by decide, by decide +kernel⟩⟩
set_option maxRecDepth 100000 in
theorem kI_RL_12 : CalI RL 12 yX12_init cX12_init 2 0 := ⟨⟨wT_tab 1309 rfl rfl, wT_tab 1310 rfl rfl, wT_tab 13 rfl rfl, wT_tab 1311 rfl rfl⟩, rfl, ⟨by decide, by decide, by decide +kernel⟩⟩
theorem dL_law_0 : decode code 0 = .ok (.new 7, 3) := by decide +kernel
theorem dL_law_3 : decode code 3 = .ok (.dup, 1) := by decide +kernel
theorem dL_law_4 : decode code 4 = .ok (.invokespecial 9, 3) := by decide +kernel
theorem dL_law_7 : decode code 7 = .ok (.astore_n 1, 1) := by decide +kernel
theorem dL_law_8 : decode code 8 = .ok (.new 10, 3) := by decide +kernel
theorem dL_law_11 : decode code 11 = .ok (.dup, 1) := by decide +kernel
theorem dL_law_12 : decode code 12 = .ok (.invokespecial 12, 3) := by decide +kernel
theorem dL_law_15 : decode code 15 = .ok (.astore_n 2, 1) := by decide +kernel
theorem dL_law_16 : decode code 16 = .ok (.iconst 0, 1) := by decide +kernel
theorem dL_law_17 : decode code 17 = .ok (.istore_n 3, 1) := by decide +kernel
theorem arr_known {s : State} {args : Array Value} {ty : FieldType} (h : (Cond.arrayClass ty).before args s = true) (hn : ∀ C : String, ty ≠ .object C) : ∃ cA : ClassId, ArrOfT s cA ty ∧ s.vm.findClass ("[" ++ ty.toString) = some cA := by
  obtain ⟨c, k, comp, h1, h2, h3⟩ := Cond.arrayClass_spec h
  exact ⟨c, fun n z => ⟨fun k h => (by cases h), k, h2, comp, h3⟩, h1⟩
theorem arr_over {s : State} {args : Array Value} {C : String} (h : (Cond.arrayOver (.object C)).before args s = true) : ∃ cA : ClassId, ArrOfT s cA (.object C) ∧ va_RA s cA (.object C) := by
  obtain ⟨comp, c, k, h1, h2, h3, h4, h5⟩ := Cond.arrayOver_spec h
  exact ⟨c, fun n z => ⟨fun k h => (by cases h), k, h3, comp, h4⟩, k, comp, h3, h4, h1, h5⟩
set_option maxRecDepth 100000 in
set_option maxHeartbeats 8000000 in
/-- THE LAW, from its entry: both are made, then at most one call of each -/
theorem whole_start {p : Program} {e : Env} {s : State} {m : MethodId} {below : List Frame} {meth : Method} {c : Code} (l : Launch) (hflags : l.flags = flags0) {b L : Nat} {xs : Nat → Int32} (hL : L ≤ 7) (C0 : lw_At p s m meth c b L xs) : W p l e room_1 s m #[Value.ref b] below meth c s.heap [] 0 0 (lw_Z below #[Value.ref b] s) (entryFrame m ([Value.ref b] : List Value).toArray 4) := by
  obtain ⟨hx, hb, hr, hml, hown, hts, hX, hbl, hlocks, hgv⟩ := id C0
  have S : SF p m c code 4 s #[Value.ref b] RL := ⟨hx, hb, hml, hown, fun w h => hts w (wT_lw h)⟩
  have hg := flat_of_before _ hgv
  obtain ⟨c0, iS0, hKn0⟩ := u_known (C := RJx4a65c) (T := TJx4a65c) (N := 3) (n := 3) hts (fun w h => wT_lw (hin_RJx4a65c w h)) (hts _ (List.mem_append_right _ (List.mem_of_getElem? (i := 211) rfl)))
  obtain ⟨c1, iS1, hKn1⟩ := u_known (C := RX0) (T := TX0) (N := 8) (n := 8) hts (fun w h => wT_lw (hin_RX0 w h)) (hts _ (List.mem_append_right _ (List.mem_of_getElem? (i := 932) rfl)))
  obtain ⟨c2, iS2, hKn2⟩ := u_known (C := RX1) (T := TX1) (N := 11) (n := 11) hts (fun w h => wT_lw (hin_RX1 w h)) (hts _ (List.mem_append_right _ (List.mem_of_getElem? (i := 304) rfl)))
  obtain ⟨c3, iS3, hKn3⟩ := u_known (C := RX2) (T := TX2) (N := 10) (n := 10) hts (fun w h => wT_lw (hin_RX2 w h)) (hts _ (List.mem_append_right _ (List.mem_of_getElem? (i := 445) rfl)))
  obtain ⟨c4, iS4, hKn4⟩ := u_known (C := RX3) (T := TX3) (N := 3) (n := 3) hts (fun w h => wT_lw (hin_RX3 w h)) (hts _ (List.mem_append_right _ (List.mem_of_getElem? (i := 1240) rfl)))
  obtain ⟨c5, iS5, hKn5⟩ := u_known (C := RX4) (T := TX4) (N := 5) (n := 5) hts (fun w h => wT_lw (hin_RX4 w h)) (hts _ (List.mem_append_right _ (List.mem_of_getElem? (i := 1032) rfl)))
  obtain ⟨c6, iS6, hKn6⟩ := u_known (C := RX5) (T := TX5) (N := 6) (n := 6) hts (fun w h => wT_lw (hin_RX5 w h)) (hts _ (List.mem_append_right _ (List.mem_of_getElem? (i := 90) rfl)))
  obtain ⟨c7, iS7, hKn7⟩ := u_known (C := RX6) (T := TX6) (N := 3) (n := 3) hts (fun w h => wT_lw (hin_RX6 w h)) (hts _ (List.mem_append_right _ (List.mem_of_getElem? (i := 1170) rfl)))
  obtain ⟨c8, iS8, hKn8⟩ := u_known (C := RX7) (T := TX7) (N := 10) (n := 10) hts (fun w h => wT_lw (hin_RX7 w h)) (hts _ (List.mem_append_right _ (List.mem_of_getElem? (i := 129) rfl)))
  obtain ⟨c9, iS9, hKn9⟩ := u_known (C := RX8) (T := TX8) (N := 2) (n := 2) hts (fun w h => wT_lw (hin_RX8 w h)) (hts _ (List.mem_append_right _ (List.mem_of_getElem? (i := 76) rfl)))
  obtain ⟨c10, iS10, hKn10⟩ := u_known (C := RX9) (T := TX9) (N := 9) (n := 9) hts (fun w h => wT_lw (hin_RX9 w h)) (hts _ (List.mem_append_right _ (List.mem_of_getElem? (i := 36) rfl)))
  obtain ⟨c11, iS11, hKn11⟩ := u_known (C := RX10) (T := TX10) (N := 7) (n := 7) hts (fun w h => wT_lw (hin_RX10 w h)) (hts _ (List.mem_append_right _ (List.mem_of_getElem? (i := 180) rfl)))
  obtain ⟨c12, iS12, hKn12⟩ := u_known (C := RX11) (T := TX11) (N := 16) (n := 16) hts (fun w h => wT_lw (hin_RX11 w h)) (hts _ (List.mem_append_right _ (List.mem_of_getElem? (i := 28) rfl)))
  obtain ⟨c13, iS13, hKn13⟩ := u_known (C := RX12) (T := TX12) (N := 91) (n := 91) hts (fun w h => wT_lw (hin_RX12 w h)) (hts _ (List.mem_append_right _ (List.mem_of_getElem? (i := 1308) rfl)))
  obtain ⟨cI, hI1, hI2⟩ := arr_known (ty := .int) (hts _ (List.mem_append_right _ (List.mem_of_getElem? (i := 74) rfl))) (fun C h => by cases h)
  obtain ⟨cB, hB1, hB2⟩ := arr_known (ty := .byte) (hts _ (List.mem_append_right _ (List.mem_of_getElem? (i := 178) rfl))) (fun C h => by cases h)
  obtain ⟨cZ, hZ1, hZ2⟩ := arr_known (ty := .boolean) (hts _ (List.mem_append_right _ (List.mem_of_getElem? (i := 1587) rfl))) (fun C h => by cases h)
  have hAO : va_AO "java/lang/Object" s := va_AO.of (hts _ (List.mem_append_right _ (List.mem_of_getElem? (i := 403) rfl)))
  obtain ⟨cQ, hQ1, hQ2⟩ := arr_over (hts _ (List.mem_append_right _ (List.mem_of_getElem? (i := 403) rfl)))
  obtain ⟨D, hKc, hD99⟩ : ∃ D : va_G, (∀ (k : Nat) (q : vw_C), vwCl[k]? = some q → u_Kn s q.1 q.2.1 q.2.2 (D.1 k) (D.2 k)) ∧ D.1 99 = cQ := by
    refine ⟨(fun k => ([c0, c1, c2, c3, c4, c5, c6, c7, c8, c9, c10, c11, c12, c13] : List ClassId).getD k cQ, fun k => ([iS0, iS1, iS2, iS3, iS4, iS5, iS6, iS7, iS8, iS9, iS10, iS11, iS12, iS13] : List (Nat → Nat)).getD k iS0), ?_, rfl⟩
    intro k q hq
    match k, hq with
    | 0, hq => cases hq; exact hKn0
    | 1, hq => cases hq; exact hKn1
    | 2, hq => cases hq; exact hKn2
    | 3, hq => cases hq; exact hKn3
    | 4, hq => cases hq; exact hKn4
    | 5, hq => cases hq; exact hKn5
    | 6, hq => cases hq; exact hKn6
    | 7, hq => cases hq; exact hKn7
    | 8, hq => cases hq; exact hKn8
    | 9, hq => cases hq; exact hKn9
    | 10, hq => cases hq; exact hKn10
    | 11, hq => cases hq; exact hKn11
    | 12, hq => cases hq; exact hKn12
    | 13, hq => cases hq; exact hKn13
    | k + 14, hq => simp [vwCl] at hq
  have hK : KK D cI cB cZ s := ⟨⟨hKc, fun k q h => by
      match k, h with
      | 0, h => cases h; exact ⟨hI1, hI2⟩
      | 1, h => cases h; exact ⟨hB1, hB2⟩
      | 2, h => cases h; exact ⟨hZ1, hZ2⟩
      | k + 3, h => simp at h⟩, va_Nw.of rfl (hts _ (List.mem_append_right _ (List.mem_of_getElem? (i := 77) rfl))), va_Nw.of rfl (hts _ (List.mem_append_right _ (List.mem_of_getElem? (i := 181) rfl))), va_Nw.of rfl (hts _ (List.mem_append_right _ (List.mem_of_getElem? (i := 933) rfl)))⟩
  obtain ⟨A, hAe⟩ : ∃ A : Nat → Prop, A = (fun q : Nat => s.heap.size ≤ q) := ⟨_, rfl⟩
  have hA : ∀ q : Nat, s.heap.size ≤ q → A q := fun q h => by rw [hAe]; exact h
  have hNA : ∀ q : Nat, q < s.heap.size → ¬ A q := fun q h => by rw [hAe]; exact Nat.not_le.mpr h
  have hbA : ¬ A b := hNA b hbl
  obtain ⟨zz, hzE, hzT⟩ := va_Tof (tm := (.static "java/util/ArrayList" "DEFAULTCAPACITY_EMPTY_ELEMENTDATA" "[Ljava/lang/Object;")) (ty := .object "java/lang/Object") (N := 0) (f := fun _ => .null) (A := A) (by decide) (hg (.arrayOf (.static "java/util/ArrayList" "DEFAULTCAPACITY_EMPTY_ELEMENTDATA" "[Ljava/lang/Object;") (.object "java/lang/Object")) (by decide +kernel)) (va_eqt (hg (.eq (.length (.static "java/util/ArrayList" "DEFAULTCAPACITY_EMPTY_ELEMENTDATA" "[Ljava/lang/Object;")) (.int 0)) (by decide +kernel))) (fun j h => absurd h (Nat.not_lt_zero j)) hNA
  obtain ⟨adK, adV, hvS, hvE⟩ := vk_Sof (args := #[Value.ref b]) (s := s) (N := 1) (tm := fun _ => (.string "OilHome" 32)) (len := [11]) (byt := [[113, 102, 97, 100, 119, 103, 107, 109, 115, 111, 110]]) (A := A) (fun i hi => by obtain rfl : i = 0 := (by omega); decide) (fun i _ => hg (.exactly (.string "OilHome" 32) "java/lang/String") (by decide +kernel)) (fun i _ => hg (.eq (.field (.string "OilHome" 32) "java/lang/String" "coder" "B") (.int 0)) (by decide +kernel)) (fun i _ => hg (.arrayOf (.field (.string "OilHome" 32) "java/lang/String" "value" "[B") .byte) (by decide +kernel)) (fun i hi => by obtain rfl : i = 0 := (by omega); exact hg (.eq (.length (.field (.string "OilHome" 32) "java/lang/String" "value" "[B")) (.int 11)) (by decide +kernel)) (fun i hi j hj => by
      obtain rfl : i = 0 := by omega
      have hj : j < 11 := hj
      rcases (by omega : j = 0 ∨ j = 1 ∨ j = 2 ∨ j = 3 ∨ j = 4 ∨ j = 5 ∨ j = 6 ∨ j = 7 ∨ j = 8 ∨ j = 9 ∨ j = 10) with rfl | rfl | rfl | rfl | rfl | rfl | rfl | rfl | rfl | rfl | rfl
      · exact hg (.eq (.elem (.field (.string "OilHome" 32) "java/lang/String" "value" "[B") (.int 0)) (.int 113)) (by decide +kernel)
      · exact hg (.eq (.elem (.field (.string "OilHome" 32) "java/lang/String" "value" "[B") (.int 1)) (.int 102)) (by decide +kernel)
      · exact hg (.eq (.elem (.field (.string "OilHome" 32) "java/lang/String" "value" "[B") (.int 2)) (.int 97)) (by decide +kernel)
      · exact hg (.eq (.elem (.field (.string "OilHome" 32) "java/lang/String" "value" "[B") (.int 3)) (.int 100)) (by decide +kernel)
      · exact hg (.eq (.elem (.field (.string "OilHome" 32) "java/lang/String" "value" "[B") (.int 4)) (.int 119)) (by decide +kernel)
      · exact hg (.eq (.elem (.field (.string "OilHome" 32) "java/lang/String" "value" "[B") (.int 5)) (.int 103)) (by decide +kernel)
      · exact hg (.eq (.elem (.field (.string "OilHome" 32) "java/lang/String" "value" "[B") (.int 6)) (.int 107)) (by decide +kernel)
      · exact hg (.eq (.elem (.field (.string "OilHome" 32) "java/lang/String" "value" "[B") (.int 7)) (.int 109)) (by decide +kernel)
      · exact hg (.eq (.elem (.field (.string "OilHome" 32) "java/lang/String" "value" "[B") (.int 8)) (.int 115)) (by decide +kernel)
      · exact hg (.eq (.elem (.field (.string "OilHome" 32) "java/lang/String" "value" "[B") (.int 9)) (.int 111)) (by decide +kernel)
      · exact hg (.eq (.elem (.field (.string "OilHome" 32) "java/lang/String" "value" "[B") (.int 10)) (.int 110)) (by decide +kernel)
      ) (fun i j hi hj n => absurd (by omega) n) hNA
  obtain ⟨v1, v2, v3, v4⟩ := hvS.1 0 (by decide)
  obtain ⟨qq, hqq⟩ : ∃ q : Nat, q = adK 0 := ⟨_, rfl⟩
  obtain ⟨vv, hvv⟩ : ∃ q : Nat, q = adV 0 := ⟨_, rfl⟩
  have hE0 := hvE 0 (by decide)
  rw [← hqq] at v1 v2 v3 hE0
  rw [← hvv] at v3 v4
  obtain ⟨bt, hbt⟩ : ∃ f : Nat → Int32, f = fun j => (([[113, 102, 97, 100, 119, 103, 107, 109, 115, 111, 110]] : List (List Int32)).getD 0 []).getD j 0 := ⟨_, rfl⟩
  have v4 : va_T .byte vv 11 (fun j => .int (bt j)) A s s.heap := by rw [hbt]; exact v4
  have hXS : XS D zz qq vv bt A s s.heap := ⟨va_Zof (hts _ (List.mem_append_right _ (List.mem_of_getElem? (i := 127) rfl))) (hts _ (List.mem_append_right _ (List.mem_of_getElem? (i := 6) rfl))) (va_eqt (hg (.eq (.static "java/lang/String" "COMPACT_STRINGS" "Z") (.int 1)) (by decide +kernel))) hNA, va_Zof (hts _ (List.mem_append_right _ (List.mem_of_getElem? (i := 223) rfl))) (hts _ (List.mem_append_right _ (List.mem_of_getElem? (i := 12) rfl))) hzE hNA, hzT, v1, v2, v3, v4, vk_R.of (hts _ (List.mem_append_right _ (List.mem_of_getElem? (i := 117) rfl))) hE0, ⟨hKc, fun k q h => by
      match k, h with
      | 0, h => cases h; rw [hD99]; exact ⟨hQ1, hQ2⟩
      | k + 1, h => simp at h⟩, hAO, va_Nw.of rfl (hts _ (List.mem_append_right _ (List.mem_of_getElem? (i := 2066) rfl))), va_Nw.of rfl (hts _ (List.mem_append_right _ (List.mem_of_getElem? (i := 2070) rfl)))⟩
  have hS : va_S A s.heap s.heap [] := va_S.rf
  have hP : va_P D vwCl [] s.heap := fun k q h => by simp at h
  have hD : va_D A [] := ⟨fun i j p q h => by simp at h, fun k q h => by simp at h⟩
  have hl := lv_entry ([.ref b]) (n := 4) (Nat.le_of_ble_eq_true rfl)
  rw [lg_entry_eq]
  generalize (lg_sl ([.ref b]) ++ List.replicate (4 - (lg_sl ([.ref b])).length) Slot.unset).toArray = ls at hl ⊢
  have hl : lv_has ls 4 [(0, .ref b)] := hl
  refine va_new (ci := 12) (fs := [.int 0, .int 0, .int 0, .int 0, .null, .null, .null, .null, .null, .null, .null, .null, .null, .null, .null, .null]) (C := RX11) (T := TX11) (N := 16) hx hb S.2.2.2.2 hin_RX11 tyX11 tyX11_ok hown (S.2.2.2.2 _ (wT_tab 27 rfl rfl)) (S.2.2.2.2 _ (wT_tab 28 rfl rfl)) (S.2.2.2.2 _ (wT_tab 1 rfl rfl)) hK.1 hP hD hS hA rfl (by decide +kernel) (Nat.le_of_ble_eq_true rfl) (Nat.le_of_ble_eq_true rfl) dL_law_0 (fun q0 H hP hD hS => ?_)
  have hP : va_P D vwCl [(q0, .inr (12, [.int 0, .int 0, .int 0, .int 0, .null, .null, .null, .null, .null, .null, .null, .null, .null, .null, .null, .null]))] H := hP
  have hD : va_D A [(q0, .inr (12, [.int 0, .int 0, .int 0, .int 0, .null, .null, .null, .null, .null, .null, .null, .null, .null, .null, .null, .null]))] := hD
  refine lv_dup hx hb dL_law_3 rfl ?_
  have hFc := va_free (wc := [(q0, .inr (12, [.int 0, .int 0, .int 0, .int 0, .null, .null, .null, .null, .null, .null, .null, .null, .null, .null, .null, .null]))]) hD hS hA [0] rfl
  refine va_callv (runI_x (As := []) (rest := [.ref q0]) S (q_OilHome l D cI cB cZ zz qq vv bt q0 H.size) kI_RL_9 hK hXS hS hFc hP hD [0] rfl rfl (by decide) ⟨Nat.le_of_ble_eq_true rfl, Nat.le_of_ble_eq_true rfl⟩ ⟨Nat.le_of_ble_eq_true rfl, Nat.le_of_ble_eq_true rfl⟩ rfl hl.1 rfl (Nat.le_of_ble_eq_true rfl) dL_law_4) hS (fun q _ h => hFc q h) hFc (fun u_2 t H1 locs ht hvm h_3 hB hz1 hk1 hS => ?_)
  obtain ⟨hP1, hD1⟩ := hB
  rw [ht] at hP1
  obtain ⟨hP, hD⟩ := va_join (wr := []) (w1 := [((u_2 0), .inr (12, oX u_2)), ((u_2 4), .inr (10, [.ref (u_2 60), .ref (u_2 61), .ref (u_2 62), .ref (u_2 63), .ref (u_2 64), .int 0, .int 0, .int 0, .int 0])), ((u_2 5), .inr (9, [.ref (u_2 40), .int 0])), ((u_2 40), .inl (cI, 200, .inl (fun _ => 0))), ((u_2 7), .inl (cI, 11, .inl (fun _ => 0))), ((u_2 8), .inr (8, oT u_2)), ((u_2 20), .inl (cI, 58, .inl (fun _ => 0))), ((u_2 21), .inl (cI, 24, .inl (fun _ => 0))), ((u_2 22), .inl (cI, 400, .inl (dgF 400))), ((u_2 23), .inl (cI, 400, .inl (fun _ => 0))), ((u_2 24), .inl (cI, 10, .inl (fun _ => 0))), ((u_2 25), .inl (cI, 10, .inl (fun _ => 0))), ((u_2 26), .inl (cI, 232, .inl (fun _ => 0))), ((u_2 27), .inl (cI, 3, .inl (fun _ => 0))), ((u_2 28), .inl (cI, 1200, .inl (fun _ => 0))), ((u_2 29), .inl (cI, 400, .inl (fun _ => 0))), ((u_2 9), .inr (11, oW u_2)), ((u_2 30), .inl (cI, 8, .inl (fun _ => 0))), ((u_2 31), .inl (cI, 8, .inl (fun _ => 0))), ((u_2 32), .inl (cI, 8, .inl (fun _ => 0))), ((u_2 33), .inl (cI, 8, .inl (fun _ => 0))), ((u_2 34), .inl (cI, 2048, .inl (fun _ => 0))), ((u_2 35), .inl (cI, 256, .inl (fun _ => 0))), ((u_2 10), .inr (0, [.int 0, .ref (u_2 50), .int 0])), ((u_2 11), .inr (0, [.int 0, .ref (u_2 50), .int 0])), ((u_2 12), .inr (0, [.int 0, .ref (u_2 50), .int 0])), ((u_2 13), .inr (0, [.int 0, .ref (u_2 50), .int 0])), ((u_2 14), .inr (0, [.int 0, .ref (u_2 50), .int 0])), ((u_2 15), .inr (0, [.int 0, .ref (u_2 50), .int 0]))]) hP hD [0] [] rfl rfl (by decide) (by decide) hk1 hFc hP1 hD1
  generalize H1 = H at hP hS ⊢
  have hP : va_P D vwCl [((u_2 0), .inr (12, oX u_2)), ((u_2 4), .inr (10, [.ref (u_2 60), .ref (u_2 61), .ref (u_2 62), .ref (u_2 63), .ref (u_2 64), .int 0, .int 0, .int 0, .int 0])), ((u_2 5), .inr (9, [.ref (u_2 40), .int 0])), ((u_2 40), .inl (cI, 200, .inl (fun _ => 0))), ((u_2 7), .inl (cI, 11, .inl (fun _ => 0))), ((u_2 8), .inr (8, oT u_2)), ((u_2 20), .inl (cI, 58, .inl (fun _ => 0))), ((u_2 21), .inl (cI, 24, .inl (fun _ => 0))), ((u_2 22), .inl (cI, 400, .inl (dgF 400))), ((u_2 23), .inl (cI, 400, .inl (fun _ => 0))), ((u_2 24), .inl (cI, 10, .inl (fun _ => 0))), ((u_2 25), .inl (cI, 10, .inl (fun _ => 0))), ((u_2 26), .inl (cI, 232, .inl (fun _ => 0))), ((u_2 27), .inl (cI, 3, .inl (fun _ => 0))), ((u_2 28), .inl (cI, 1200, .inl (fun _ => 0))), ((u_2 29), .inl (cI, 400, .inl (fun _ => 0))), ((u_2 9), .inr (11, oW u_2)), ((u_2 30), .inl (cI, 8, .inl (fun _ => 0))), ((u_2 31), .inl (cI, 8, .inl (fun _ => 0))), ((u_2 32), .inl (cI, 8, .inl (fun _ => 0))), ((u_2 33), .inl (cI, 8, .inl (fun _ => 0))), ((u_2 34), .inl (cI, 2048, .inl (fun _ => 0))), ((u_2 35), .inl (cI, 256, .inl (fun _ => 0))), ((u_2 10), .inr (0, [.int 0, .ref (u_2 50), .int 0])), ((u_2 11), .inr (0, [.int 0, .ref (u_2 50), .int 0])), ((u_2 12), .inr (0, [.int 0, .ref (u_2 50), .int 0])), ((u_2 13), .inr (0, [.int 0, .ref (u_2 50), .int 0])), ((u_2 14), .inr (0, [.int 0, .ref (u_2 50), .int 0])), ((u_2 15), .inr (0, [.int 0, .ref (u_2 50), .int 0]))] H := hP
  have hD : va_D A [((u_2 0), .inr (12, oX u_2)), ((u_2 4), .inr (10, [.ref (u_2 60), .ref (u_2 61), .ref (u_2 62), .ref (u_2 63), .ref (u_2 64), .int 0, .int 0, .int 0, .int 0])), ((u_2 5), .inr (9, [.ref (u_2 40), .int 0])), ((u_2 40), .inl (cI, 200, .inl (fun _ => 0))), ((u_2 7), .inl (cI, 11, .inl (fun _ => 0))), ((u_2 8), .inr (8, oT u_2)), ((u_2 20), .inl (cI, 58, .inl (fun _ => 0))), ((u_2 21), .inl (cI, 24, .inl (fun _ => 0))), ((u_2 22), .inl (cI, 400, .inl (dgF 400))), ((u_2 23), .inl (cI, 400, .inl (fun _ => 0))), ((u_2 24), .inl (cI, 10, .inl (fun _ => 0))), ((u_2 25), .inl (cI, 10, .inl (fun _ => 0))), ((u_2 26), .inl (cI, 232, .inl (fun _ => 0))), ((u_2 27), .inl (cI, 3, .inl (fun _ => 0))), ((u_2 28), .inl (cI, 1200, .inl (fun _ => 0))), ((u_2 29), .inl (cI, 400, .inl (fun _ => 0))), ((u_2 9), .inr (11, oW u_2)), ((u_2 30), .inl (cI, 8, .inl (fun _ => 0))), ((u_2 31), .inl (cI, 8, .inl (fun _ => 0))), ((u_2 32), .inl (cI, 8, .inl (fun _ => 0))), ((u_2 33), .inl (cI, 8, .inl (fun _ => 0))), ((u_2 34), .inl (cI, 2048, .inl (fun _ => 0))), ((u_2 35), .inl (cI, 256, .inl (fun _ => 0))), ((u_2 10), .inr (0, [.int 0, .ref (u_2 50), .int 0])), ((u_2 11), .inr (0, [.int 0, .ref (u_2 50), .int 0])), ((u_2 12), .inr (0, [.int 0, .ref (u_2 50), .int 0])), ((u_2 13), .inr (0, [.int 0, .ref (u_2 50), .int 0])), ((u_2 14), .inr (0, [.int 0, .ref (u_2 50), .int 0])), ((u_2 15), .inr (0, [.int 0, .ref (u_2 50), .int 0]))] := hD
  obtain ⟨h0, h50⟩ := h_3
  have hPn := hP
  have hDn := hD
  have hSn := hS
  subst h0
  subst h50
  have hP := hPn
  have hD := hDn
  have hS := hSn
  refine lv_astore_n (lv' := [(1, .ref (u_2 0)), (0, .ref b)]) hx hb dL_law_7 rfl hl (by decide) rfl (fun ls hl => ?_)
  refine va_new (ci := 13) (fs := [.int 0, .int 0, .int 0, .null, .null, .null, .null, .null, .null, .null, .null, .null, .null, .null, .null, .null, .null, .null, .int 0, .int 0, .int 0, .int 0, .int 0, .int 0, .int 0, .int 0, .int 0, .null, .null, .null, .null, .null, .null, .null, .null, .null, .null, .null, .null, .null, .null, .null, .null, .null, .int 0, .int 0, .int 0, .null, .null, .null, .null, .null, .null, .null, .int 0, .int 0, .int 0, .int 0, .int 0, .null, .null, .null, .int 0, .int 0, .null, .null, .null, .null, .null, .null, .null, .int 0, .int 0, .int 0, .null, .int 0, .null, .null, .null, .null, .null, .null, .null, .int 0, .null, .null, .null, .null, .null, .null, .null]) (C := RX12) (T := TX12) (N := 91) hx hb S.2.2.2.2 hin_RX12 tyX12 tyX12_ok hown (S.2.2.2.2 _ (wT_tab 1307 rfl rfl)) (S.2.2.2.2 _ (wT_tab 1308 rfl rfl)) (S.2.2.2.2 _ (wT_tab 13 rfl rfl)) hK.1 hP hD hS hA rfl (by decide +kernel) (Nat.le_of_ble_eq_true rfl) (Nat.le_of_ble_eq_true rfl) dL_law_8 (fun q8 H hP hD hS => ?_)
  have hP : va_P D vwCl [((u_2 0), .inr (12, oX u_2)), ((u_2 4), .inr (10, [.ref (u_2 60), .ref (u_2 61), .ref (u_2 62), .ref (u_2 63), .ref (u_2 64), .int 0, .int 0, .int 0, .int 0])), ((u_2 5), .inr (9, [.ref (u_2 40), .int 0])), ((u_2 40), .inl (cI, 200, .inl (fun _ => 0))), ((u_2 7), .inl (cI, 11, .inl (fun _ => 0))), ((u_2 8), .inr (8, oT u_2)), ((u_2 20), .inl (cI, 58, .inl (fun _ => 0))), ((u_2 21), .inl (cI, 24, .inl (fun _ => 0))), ((u_2 22), .inl (cI, 400, .inl (dgF 400))), ((u_2 23), .inl (cI, 400, .inl (fun _ => 0))), ((u_2 24), .inl (cI, 10, .inl (fun _ => 0))), ((u_2 25), .inl (cI, 10, .inl (fun _ => 0))), ((u_2 26), .inl (cI, 232, .inl (fun _ => 0))), ((u_2 27), .inl (cI, 3, .inl (fun _ => 0))), ((u_2 28), .inl (cI, 1200, .inl (fun _ => 0))), ((u_2 29), .inl (cI, 400, .inl (fun _ => 0))), ((u_2 9), .inr (11, oW u_2)), ((u_2 30), .inl (cI, 8, .inl (fun _ => 0))), ((u_2 31), .inl (cI, 8, .inl (fun _ => 0))), ((u_2 32), .inl (cI, 8, .inl (fun _ => 0))), ((u_2 33), .inl (cI, 8, .inl (fun _ => 0))), ((u_2 34), .inl (cI, 2048, .inl (fun _ => 0))), ((u_2 35), .inl (cI, 256, .inl (fun _ => 0))), ((u_2 10), .inr (0, [.int 0, .ref (u_2 50), .int 0])), ((u_2 11), .inr (0, [.int 0, .ref (u_2 50), .int 0])), ((u_2 12), .inr (0, [.int 0, .ref (u_2 50), .int 0])), ((u_2 13), .inr (0, [.int 0, .ref (u_2 50), .int 0])), ((u_2 14), .inr (0, [.int 0, .ref (u_2 50), .int 0])), ((u_2 15), .inr (0, [.int 0, .ref (u_2 50), .int 0])), (q8, .inr (13, [.int 0, .int 0, .int 0, .null, .null, .null, .null, .null, .null, .null, .null, .null, .null, .null, .null, .null, .null, .null, .int 0, .int 0, .int 0, .int 0, .int 0, .int 0, .int 0, .int 0, .int 0, .null, .null, .null, .null, .null, .null, .null, .null, .null, .null, .null, .null, .null, .null, .null, .null, .null, .int 0, .int 0, .int 0, .null, .null, .null, .null, .null, .null, .null, .int 0, .int 0, .int 0, .int 0, .int 0, .null, .null, .null, .int 0, .int 0, .null, .null, .null, .null, .null, .null, .null, .int 0, .int 0, .int 0, .null, .int 0, .null, .null, .null, .null, .null, .null, .null, .int 0, .null, .null, .null, .null, .null, .null, .null]))] H := hP
  have hD : va_D A [((u_2 0), .inr (12, oX u_2)), ((u_2 4), .inr (10, [.ref (u_2 60), .ref (u_2 61), .ref (u_2 62), .ref (u_2 63), .ref (u_2 64), .int 0, .int 0, .int 0, .int 0])), ((u_2 5), .inr (9, [.ref (u_2 40), .int 0])), ((u_2 40), .inl (cI, 200, .inl (fun _ => 0))), ((u_2 7), .inl (cI, 11, .inl (fun _ => 0))), ((u_2 8), .inr (8, oT u_2)), ((u_2 20), .inl (cI, 58, .inl (fun _ => 0))), ((u_2 21), .inl (cI, 24, .inl (fun _ => 0))), ((u_2 22), .inl (cI, 400, .inl (dgF 400))), ((u_2 23), .inl (cI, 400, .inl (fun _ => 0))), ((u_2 24), .inl (cI, 10, .inl (fun _ => 0))), ((u_2 25), .inl (cI, 10, .inl (fun _ => 0))), ((u_2 26), .inl (cI, 232, .inl (fun _ => 0))), ((u_2 27), .inl (cI, 3, .inl (fun _ => 0))), ((u_2 28), .inl (cI, 1200, .inl (fun _ => 0))), ((u_2 29), .inl (cI, 400, .inl (fun _ => 0))), ((u_2 9), .inr (11, oW u_2)), ((u_2 30), .inl (cI, 8, .inl (fun _ => 0))), ((u_2 31), .inl (cI, 8, .inl (fun _ => 0))), ((u_2 32), .inl (cI, 8, .inl (fun _ => 0))), ((u_2 33), .inl (cI, 8, .inl (fun _ => 0))), ((u_2 34), .inl (cI, 2048, .inl (fun _ => 0))), ((u_2 35), .inl (cI, 256, .inl (fun _ => 0))), ((u_2 10), .inr (0, [.int 0, .ref (u_2 50), .int 0])), ((u_2 11), .inr (0, [.int 0, .ref (u_2 50), .int 0])), ((u_2 12), .inr (0, [.int 0, .ref (u_2 50), .int 0])), ((u_2 13), .inr (0, [.int 0, .ref (u_2 50), .int 0])), ((u_2 14), .inr (0, [.int 0, .ref (u_2 50), .int 0])), ((u_2 15), .inr (0, [.int 0, .ref (u_2 50), .int 0])), (q8, .inr (13, [.int 0, .int 0, .int 0, .null, .null, .null, .null, .null, .null, .null, .null, .null, .null, .null, .null, .null, .null, .null, .int 0, .int 0, .int 0, .int 0, .int 0, .int 0, .int 0, .int 0, .int 0, .null, .null, .null, .null, .null, .null, .null, .null, .null, .null, .null, .null, .null, .null, .null, .null, .null, .int 0, .int 0, .int 0, .null, .null, .null, .null, .null, .null, .null, .int 0, .int 0, .int 0, .int 0, .int 0, .null, .null, .null, .int 0, .int 0, .null, .null, .null, .null, .null, .null, .null, .int 0, .int 0, .int 0, .null, .int 0, .null, .null, .null, .null, .null, .null, .null, .int 0, .null, .null, .null, .null, .null, .null, .null]))] := hD
  refine lv_dup hx hb dL_law_11 rfl ?_
  have hFc := va_free (wc := [(q8, .inr (13, [.int 0, .int 0, .int 0, .null, .null, .null, .null, .null, .null, .null, .null, .null, .null, .null, .null, .null, .null, .null, .int 0, .int 0, .int 0, .int 0, .int 0, .int 0, .int 0, .int 0, .int 0, .null, .null, .null, .null, .null, .null, .null, .null, .null, .null, .null, .null, .null, .null, .null, .null, .null, .int 0, .int 0, .int 0, .null, .null, .null, .null, .null, .null, .null, .int 0, .int 0, .int 0, .int 0, .int 0, .null, .null, .null, .int 0, .int 0, .null, .null, .null, .null, .null, .null, .null, .int 0, .int 0, .int 0, .null, .int 0, .null, .null, .null, .null, .null, .null, .null, .int 0, .null, .null, .null, .null, .null, .null, .null]))]) hD hS hA [29] rfl
  refine va_callv (runI_w (As := []) (rest := [.ref q8]) S (q_Model l D cI cB cZ q8 H.size) kI_RL_12 hK hP hD [29] rfl rfl (by decide) ⟨Nat.le_of_ble_eq_true rfl, Nat.le_of_ble_eq_true rfl⟩ ⟨Nat.le_of_ble_eq_true rfl, Nat.le_of_ble_eq_true rfl⟩ rfl hl.1 rfl (Nat.le_of_ble_eq_true rfl) dL_law_12) hS (fun q _ h => hFc q h) hFc (fun u_5 t H1 locs ht hvm h_6 hB hz1 hk1 hS => ?_)
  obtain ⟨hP1, hD1⟩ := hB
  rw [ht] at hP1
  obtain ⟨hP, hD⟩ := va_join (wr := [((u_2 0), .inr (12, oX u_2)), ((u_2 4), .inr (10, [.ref (u_2 60), .ref (u_2 61), .ref (u_2 62), .ref (u_2 63), .ref (u_2 64), .int 0, .int 0, .int 0, .int 0])), ((u_2 5), .inr (9, [.ref (u_2 40), .int 0])), ((u_2 40), .inl (cI, 200, .inl (fun _ => 0))), ((u_2 7), .inl (cI, 11, .inl (fun _ => 0))), ((u_2 8), .inr (8, oT u_2)), ((u_2 20), .inl (cI, 58, .inl (fun _ => 0))), ((u_2 21), .inl (cI, 24, .inl (fun _ => 0))), ((u_2 22), .inl (cI, 400, .inl (dgF 400))), ((u_2 23), .inl (cI, 400, .inl (fun _ => 0))), ((u_2 24), .inl (cI, 10, .inl (fun _ => 0))), ((u_2 25), .inl (cI, 10, .inl (fun _ => 0))), ((u_2 26), .inl (cI, 232, .inl (fun _ => 0))), ((u_2 27), .inl (cI, 3, .inl (fun _ => 0))), ((u_2 28), .inl (cI, 1200, .inl (fun _ => 0))), ((u_2 29), .inl (cI, 400, .inl (fun _ => 0))), ((u_2 9), .inr (11, oW u_2)), ((u_2 30), .inl (cI, 8, .inl (fun _ => 0))), ((u_2 31), .inl (cI, 8, .inl (fun _ => 0))), ((u_2 32), .inl (cI, 8, .inl (fun _ => 0))), ((u_2 33), .inl (cI, 8, .inl (fun _ => 0))), ((u_2 34), .inl (cI, 2048, .inl (fun _ => 0))), ((u_2 35), .inl (cI, 256, .inl (fun _ => 0))), ((u_2 10), .inr (0, [.int 0, .ref (u_2 50), .int 0])), ((u_2 11), .inr (0, [.int 0, .ref (u_2 50), .int 0])), ((u_2 12), .inr (0, [.int 0, .ref (u_2 50), .int 0])), ((u_2 13), .inr (0, [.int 0, .ref (u_2 50), .int 0])), ((u_2 14), .inr (0, [.int 0, .ref (u_2 50), .int 0])), ((u_2 15), .inr (0, [.int 0, .ref (u_2 50), .int 0]))]) (w1 := [((u_5 100), .inr (13, oM u_5)), ((u_5 3), .inl (cI, 10, .inl (fun _ => 0))), ((u_5 4), .inl (cI, 10, .inl (fun _ => 0))), ((u_5 5), .inl (cI, 10, .inl (fun _ => 0))), ((u_5 6), .inl (cI, 10, .inl (fun _ => 0))), ((u_5 17), .inl (cB, 200, .inl (fun _ => 0))), ((u_5 33), .inl (cI, 11, .inl (fun _ => 0))), ((u_5 39), .inl (cI, 58, .inl (fun _ => 0))), ((u_5 41), .inl (cI, 400, .inl (fun _ => 0))), ((u_5 47), .inl (cI, 3, .inl (fun _ => 0))), ((u_5 48), .inl (cI, 3, .inl (fun _ => 0))), ((u_5 49), .inl (cI, 3, .inl (fun _ => 0))), ((u_5 76), .inl (cI, 10, .inl (fun _ => 0))), ((u_5 77), .inl (cI, 232, .inl (fun _ => 0))), ((u_5 78), .inl (cI, 10, .inl (fun _ => 0))), ((u_5 81), .inl (cI, 40, .inl (fun _ => 0))), ((u_5 82), .inl (cI, 40, .inl (fun _ => 0))), ((u_5 86), .inl (cI, 24, .inl (fun _ => 0))), ((u_5 87), .inl (cI, 10, .inl (fun _ => 0))), ((u_5 88), .inl (cI, 10, .inl (fun _ => 0))), ((u_5 90), .inl (cI, 400, .inl (dgF 400)))]) hP hD [29] [0, 1, 2, 3, 4, 5, 6, 7, 8, 9, 10, 11, 12, 13, 14, 15, 16, 17, 18, 19, 20, 21, 22, 23, 24, 25, 26, 27, 28] rfl rfl (by decide) (by decide) hk1 hFc hP1 hD1
  generalize H1 = H at hP hS ⊢
  have hP : va_P D vwCl [((u_2 0), .inr (12, oX u_2)), ((u_2 4), .inr (10, [.ref (u_2 60), .ref (u_2 61), .ref (u_2 62), .ref (u_2 63), .ref (u_2 64), .int 0, .int 0, .int 0, .int 0])), ((u_2 5), .inr (9, [.ref (u_2 40), .int 0])), ((u_2 40), .inl (cI, 200, .inl (fun _ => 0))), ((u_2 7), .inl (cI, 11, .inl (fun _ => 0))), ((u_2 8), .inr (8, oT u_2)), ((u_2 20), .inl (cI, 58, .inl (fun _ => 0))), ((u_2 21), .inl (cI, 24, .inl (fun _ => 0))), ((u_2 22), .inl (cI, 400, .inl (dgF 400))), ((u_2 23), .inl (cI, 400, .inl (fun _ => 0))), ((u_2 24), .inl (cI, 10, .inl (fun _ => 0))), ((u_2 25), .inl (cI, 10, .inl (fun _ => 0))), ((u_2 26), .inl (cI, 232, .inl (fun _ => 0))), ((u_2 27), .inl (cI, 3, .inl (fun _ => 0))), ((u_2 28), .inl (cI, 1200, .inl (fun _ => 0))), ((u_2 29), .inl (cI, 400, .inl (fun _ => 0))), ((u_2 9), .inr (11, oW u_2)), ((u_2 30), .inl (cI, 8, .inl (fun _ => 0))), ((u_2 31), .inl (cI, 8, .inl (fun _ => 0))), ((u_2 32), .inl (cI, 8, .inl (fun _ => 0))), ((u_2 33), .inl (cI, 8, .inl (fun _ => 0))), ((u_2 34), .inl (cI, 2048, .inl (fun _ => 0))), ((u_2 35), .inl (cI, 256, .inl (fun _ => 0))), ((u_2 10), .inr (0, [.int 0, .ref (u_2 50), .int 0])), ((u_2 11), .inr (0, [.int 0, .ref (u_2 50), .int 0])), ((u_2 12), .inr (0, [.int 0, .ref (u_2 50), .int 0])), ((u_2 13), .inr (0, [.int 0, .ref (u_2 50), .int 0])), ((u_2 14), .inr (0, [.int 0, .ref (u_2 50), .int 0])), ((u_2 15), .inr (0, [.int 0, .ref (u_2 50), .int 0])), ((u_5 100), .inr (13, oM u_5)), ((u_5 3), .inl (cI, 10, .inl (fun _ => 0))), ((u_5 4), .inl (cI, 10, .inl (fun _ => 0))), ((u_5 5), .inl (cI, 10, .inl (fun _ => 0))), ((u_5 6), .inl (cI, 10, .inl (fun _ => 0))), ((u_5 17), .inl (cB, 200, .inl (fun _ => 0))), ((u_5 33), .inl (cI, 11, .inl (fun _ => 0))), ((u_5 39), .inl (cI, 58, .inl (fun _ => 0))), ((u_5 41), .inl (cI, 400, .inl (fun _ => 0))), ((u_5 47), .inl (cI, 3, .inl (fun _ => 0))), ((u_5 48), .inl (cI, 3, .inl (fun _ => 0))), ((u_5 49), .inl (cI, 3, .inl (fun _ => 0))), ((u_5 76), .inl (cI, 10, .inl (fun _ => 0))), ((u_5 77), .inl (cI, 232, .inl (fun _ => 0))), ((u_5 78), .inl (cI, 10, .inl (fun _ => 0))), ((u_5 81), .inl (cI, 40, .inl (fun _ => 0))), ((u_5 82), .inl (cI, 40, .inl (fun _ => 0))), ((u_5 86), .inl (cI, 24, .inl (fun _ => 0))), ((u_5 87), .inl (cI, 10, .inl (fun _ => 0))), ((u_5 88), .inl (cI, 10, .inl (fun _ => 0))), ((u_5 90), .inl (cI, 400, .inl (dgF 400)))] H := hP
  have hD : va_D A [((u_2 0), .inr (12, oX u_2)), ((u_2 4), .inr (10, [.ref (u_2 60), .ref (u_2 61), .ref (u_2 62), .ref (u_2 63), .ref (u_2 64), .int 0, .int 0, .int 0, .int 0])), ((u_2 5), .inr (9, [.ref (u_2 40), .int 0])), ((u_2 40), .inl (cI, 200, .inl (fun _ => 0))), ((u_2 7), .inl (cI, 11, .inl (fun _ => 0))), ((u_2 8), .inr (8, oT u_2)), ((u_2 20), .inl (cI, 58, .inl (fun _ => 0))), ((u_2 21), .inl (cI, 24, .inl (fun _ => 0))), ((u_2 22), .inl (cI, 400, .inl (dgF 400))), ((u_2 23), .inl (cI, 400, .inl (fun _ => 0))), ((u_2 24), .inl (cI, 10, .inl (fun _ => 0))), ((u_2 25), .inl (cI, 10, .inl (fun _ => 0))), ((u_2 26), .inl (cI, 232, .inl (fun _ => 0))), ((u_2 27), .inl (cI, 3, .inl (fun _ => 0))), ((u_2 28), .inl (cI, 1200, .inl (fun _ => 0))), ((u_2 29), .inl (cI, 400, .inl (fun _ => 0))), ((u_2 9), .inr (11, oW u_2)), ((u_2 30), .inl (cI, 8, .inl (fun _ => 0))), ((u_2 31), .inl (cI, 8, .inl (fun _ => 0))), ((u_2 32), .inl (cI, 8, .inl (fun _ => 0))), ((u_2 33), .inl (cI, 8, .inl (fun _ => 0))), ((u_2 34), .inl (cI, 2048, .inl (fun _ => 0))), ((u_2 35), .inl (cI, 256, .inl (fun _ => 0))), ((u_2 10), .inr (0, [.int 0, .ref (u_2 50), .int 0])), ((u_2 11), .inr (0, [.int 0, .ref (u_2 50), .int 0])), ((u_2 12), .inr (0, [.int 0, .ref (u_2 50), .int 0])), ((u_2 13), .inr (0, [.int 0, .ref (u_2 50), .int 0])), ((u_2 14), .inr (0, [.int 0, .ref (u_2 50), .int 0])), ((u_2 15), .inr (0, [.int 0, .ref (u_2 50), .int 0])), ((u_5 100), .inr (13, oM u_5)), ((u_5 3), .inl (cI, 10, .inl (fun _ => 0))), ((u_5 4), .inl (cI, 10, .inl (fun _ => 0))), ((u_5 5), .inl (cI, 10, .inl (fun _ => 0))), ((u_5 6), .inl (cI, 10, .inl (fun _ => 0))), ((u_5 17), .inl (cB, 200, .inl (fun _ => 0))), ((u_5 33), .inl (cI, 11, .inl (fun _ => 0))), ((u_5 39), .inl (cI, 58, .inl (fun _ => 0))), ((u_5 41), .inl (cI, 400, .inl (fun _ => 0))), ((u_5 47), .inl (cI, 3, .inl (fun _ => 0))), ((u_5 48), .inl (cI, 3, .inl (fun _ => 0))), ((u_5 49), .inl (cI, 3, .inl (fun _ => 0))), ((u_5 76), .inl (cI, 10, .inl (fun _ => 0))), ((u_5 77), .inl (cI, 232, .inl (fun _ => 0))), ((u_5 78), .inl (cI, 10, .inl (fun _ => 0))), ((u_5 81), .inl (cI, 40, .inl (fun _ => 0))), ((u_5 82), .inl (cI, 40, .inl (fun _ => 0))), ((u_5 86), .inl (cI, 24, .inl (fun _ => 0))), ((u_5 87), .inl (cI, 10, .inl (fun _ => 0))), ((u_5 88), .inl (cI, 10, .inl (fun _ => 0))), ((u_5 90), .inl (cI, 400, .inl (dgF 400)))] := hD
  have h100 := h_6
  have hPn := hP
  have hDn := hD
  have hSn := hS
  subst h100
  have hP := hPn
  have hD := hDn
  have hS := hSn
  refine lv_astore_n (lv' := [(2, .ref (u_5 100)), (1, .ref (u_2 0)), (0, .ref b)]) hx hb dL_law_15 rfl hl (by decide) rfl (fun ls hl => ?_)
  refine lv_iconst (v := 0) hx hb dL_law_16 (by decide) ?_
  refine lv_istore_n (lv' := [(3, .int 0), (2, .ref (u_5 100)), (1, .ref (u_2 0)), (0, .ref b)]) hx hb dL_law_17 rfl hl (by decide) rfl (fun ls hl => ?_)
  rcases Nat.lt_or_ge L 7 with h7 | h7
  ·
    refine lv_iload_n hx hb dL_law_18 rfl (lv_at hl 0 rfl) ?_
    refine lv_aload_n hx hb dL_law_19 rfl (lv_at hl 3 rfl) ?_
    refine va_slen hx hb hX hbl hbA hS dL_law_20 ?_
    refine lv_bipush (v := 7) hx hb dL_law_21 (by decide) ?_
    refine lv_isub hx hb dL_law_23 ?_
    refine lv_icmp_gt (tgt := 2278) hx hb dL_law_24 (by decide) (fun _ => ?_) (fun q => absurd (lt7 L h7) q)
    refine lv_iconst (v := 1) hx hb dL_law_2278 (by decide) ?_
    refine va_forget (fun q hq => by have z := hS.2.2 q hq; rw [hAe] at z; exact z) ?_
    refine W.widen (k := 600000) (n := 7302250) (Nat.le_of_ble_eq_true rfl) (Nat.le_of_ble_eq_true rfl) ?_
    exact lw_ret hx hb hr hlocks dL_law_2279
  ·
    obtain rfl : L = 7 := by omega
    refine lv_iload_n hx hb dL_law_18 rfl (lv_at hl 0 rfl) ?_
    refine lv_aload_n hx hb dL_law_19 rfl (lv_at hl 3 rfl) ?_
    refine va_slen hx hb hX hbl hbA hS dL_law_20 ?_
    refine lv_bipush (v := 7) hx hb dL_law_21 (by decide) ?_
    refine lv_isub hx hb dL_law_23 ?_
    refine lv_icmp_gt (tgt := 2278) hx hb dL_law_24 (by decide) (fun q => absurd q (by decide)) (fun _ => ?_)
    exact law_switch (g := u_2) (h := u_5) C0 hK (by rw [← hAe]; exact hXS) hP (by rw [← hAe]; exact hD) (by rw [← hAe]; exact hS) (lv_sub hl [3, 2, 1, 0] rfl)

set_option maxHeartbeats 4000000 in
theorem lw_walk (l : Launch) (hflags : l.flags = flags0) (b : Addr) (xs : List Int32) : MetFree l x (headSpec (Jvm.Cond.code x code maxLocals ret :: tables_1) room_1) (lw_P b xs) (fun _ _ _ _ _ => True) lw_Q := by
  refine MetFree.of_bodyS (code := code) (maxLocals := maxLocals) (ret := ret) (by decide) ?_ ?_
  · intro args s m h hn
    obtain ⟨meth, c, h1, h2, h3, h4, h5, h6, -, -⟩ := Cond.code_spec hn (atoms_spec (ws := Jvm.Cond.code x code maxLocals ret :: tables_1) h _ List.mem_cons_self)
    exact ⟨meth, c, h1, h2, h3, h4, h5, h6⟩
  · intro p e s m args below meth c s₁ B hml0 hP _
    obtain ⟨rfl, hx, hbd, hgv⟩ := hP
    obtain ⟨scr, harrAt, hlist, hof, hsmall⟩ := hx
    obtain ⟨hcb, hkn, -, -⟩ := State.arrayAt?_spec harrAt
    have hown : s.vm.findClass R_law = some m.cls := findClass_of_methodNamed B.named
    have hts0 : ∀ c ∈ (Jvm.Cond.code x code maxLocals ret :: tables_1), c.before #[Value.ref b] s = true := atoms_spec (ws := Jvm.Cond.code x code maxLocals ret :: tables_1) B.pre
    have hts : ∀ w ∈ lw_tbl, w.before #[Value.ref b] s = true := k2_hts_sels lw_privs (fun w hw => hts0 w (List.mem_cons_of_mem _ hw)) lw_privs_ok
    have hml : c.maxLocals = 4 := B.maxLocals_eq (hts0 _ List.mem_cons_self)
    have X₀ : Stand p l e room_1 s m #[Value.ref b] below meth c s₁ [] 0 0 := Stand.of_body B
    have hh0 : s₁.heap = s.heap := by rw [B.state]; rfl
    have hsz : scr.slots.size = xs.length := by rw [← Array.length_toList, hlist, List.length_map]
    have hval : ∀ j : Nat, j < xs.length → scr.slots[j]? = some (.int (xs.getD j 0)) := fun j hj => by
      rw [← Array.getElem?_toList, hlist]
      simp [hj]
    have hbl : b < s.heap.size := (Array.getElem?_eq_some_iff.mp hcb).1
    have hX : va_X b xs.length (fun j => xs.getD j 0) s s.heap := ⟨scr, hcb, hof, hkn, hsz, hval⟩
    have K : W p l e room_1 s m #[Value.ref b] below meth c s₁.heap [] 0 0 (lw_Z below #[Value.ref b] s) (entryFrame m ([Value.ref b] : List Value).toArray 4) := by
      rw [hh0]
      exact whole_start l hflags hbd ⟨B.exec, B.bytes, B.returns, hml, hown, hts, hX, hbl, B.notSynchronized, hgv⟩
    obtain ⟨t, a1, o, b1, b2, b3⟩ := K s₁ rfl X₀
    exact ⟨t, o, a1, b1, b2, b3⟩
theorem lw_pre_spec {args : Array Value} {s : State} (h : (Jvm.Cond.and given_1 narrow_1).before args s = true) (hr : rest_1_c.before args s = true) : ∃ (b : Addr) (xs : List Int32), lw_P b xs args s := by
  have hs := flat_of_before _ h
  have hq := flat_of_before _ hr
  have hc : (Cond.count 1).before args s = true := hs _ (by decide +kernel)
  have harr : (Cond.arrayOf (.arg 0) .int).before args s = true := hs _ (by decide +kernel)
  have hle : (Cond.le (.length (.arg 0)) (.int 7)).before args s = true := hs _ (by decide +kernel)
  have hlen : (Cond.isInt (.length (.arg 0))).before args s = true := hq _ (by decide +kernel)
  have hall : (Cond.all (.arg 0) (.isInt (.elem (.arg 0) (.index 0)))).before args s = true := hq _ (by decide +kernel)
  obtain ⟨b, xs, hb, hx⟩ := State.ints_of_pre rfl harr hlen hall
  have hsm : xs.length < 2 ^ 31 := hx.choose_spec.2.2.2
  have hev : (Term.length (.arg 0)).eval args s none [] s = some (.int xs.length.toInt32) := hx.length_eval hb
  have hv := Cond.le_ints hev (show (Term.int 7).eval args s none [] s = some (.int 7) from rfl)
  have hd : xs.length.toInt32 ≤ 7 := by
    simpa [Cond.before, Cond.holds, hv] using hle
  have hN : xs.length ≤ 7 := (Int32.ofNat_le_ofNat hsm (by decide)).mp (show Int32.ofNat xs.length ≤ Int32.ofNat 7 from hd)
  exact ⟨b, xs, Cond.one_arg hc (show args[0]? = some (.ref b) from hb), hx, hN, h⟩
theorem lw_comes (l : Launch) (hflags : l.flags = flags0) : Comes l x (Jvm.Cond.code x code maxLocals ret :: tables_1) room_1 (fun tb e args s => Calls_1 tb e args s ∧ rest_1 tb e args s ∧ Pre_1 tb e args s)
    (fun _ _ args s o t => lw_Q args s o t) := by
  intro p e ha hc hk s m args below hf hfit hheap happ hpre
  obtain ⟨b, xs, hP⟩ := lw_pre_spec hpre.2.2 hpre.2.1
  obtain ⟨k, o, h1, h2, h3, hQ⟩ := lw_walk l hflags b xs p e ha hc hk s m args below hf ((Spec.applies_iff_loose hf).mp happ).1 hP trivial
  exact ⟨k, o, h1, h2, h3, hQ⟩
theorem lw_frame {s t : State} {o : Outcome} {args : Array Value} (h : Framed s o t [] 600000 7302250) :
    Framed s o t (fieldLocs frame_1_writes args s ++ arrayLocs frame_1_arrays args s ++ staticLocs frame_1_statics s) 600000 7302250 := h
theorem lw_limb (L : Cond) (hL : ∀ (args : Array Value) (s t : State), L.after args s (.returned (some (.int 1))) t = true) :
    ArmFor flags0 classFile x code maxLocals ret World_1 tables_1 room_1 Calls_1 rest_1 Pre_1
      (fun tb e a s o t => postC L tb e a s o t ∧ Framed s o t (fieldLocs frame_1_writes a s ++ arrayLocs frame_1_arrays a s ++ staticLocs frame_1_statics s) 600000 7302250) := by
  intro l hflags _ _ p e ha hc hk s m args below hf hfit hheap happ hpre
  obtain ⟨k, o, h1, h2, h3, rfl, hF⟩ := lw_comes l hflags p e ha hc hk s m args below hf hfit hheap happ hpre
  exact ⟨k, _, h1, h2, h3, hL args s _, lw_frame hF⟩
theorem i_vc : Claimed_1_1 ∧ Claimed_1_2 := ⟨lw_limb limb_1_1 (fun args s t => by simp [limb_1_1, Cond.after, Cond.holds, Cond.value]), lw_limb limb_1_2 (fun args s t => Cond.after_iff.mpr (by
  first | (rw [show limb_1_2 = Cond.eq .result (.int 1) from rfl, Cond.eq_ints (x := 1) (y := 1) rfl rfl]; simp; done) | (simp [limb_1_2, Cond.value, Term.eval]; done)))⟩
