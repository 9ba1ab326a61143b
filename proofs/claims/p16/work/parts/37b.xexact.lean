

set_option maxRecDepth 100000 in
set_option maxHeartbeats 4000000 in
theorem q_Eprice (l : Launch) (D : va_G) (cI cB cZ : ClassId) (zz qq vv : Nat) (bt : Nat → Int32) (g : Nat → Nat) (ad : Nat → Nat → Nat) (cn : Nat → Nat) (In : Nat → Int32) (Fn : Nat → Nat → Int32) (v0 v1 : Int32) (sz : Nat) (hB : CBX cn) : Met l yX11_price (CWS yX11_price cX11_price 3 (some .boolean)) (RM 1 0 0) (PBx [.ref (g 0), .int v0, .int v1] D cI cB cZ zz qq vv bt (wX cI (D.1 99) zz g ad cn In Fn) sz) (va_Qi (fun (r : Int32) (u : (Nat → Nat) × (Nat → Int32) × (Nat → Nat → Int32)) => (fun r c2 I2 F2 => (∀ k : Nat, k ∉ [] → I2 k = In k) ∧ ((r = 1 ∧ (0 ≤ v0.toInt ∧ v0.toInt ≤ 57 ∧ 0 ≤ v1.toInt ∧ v1.toInt ≤ 1000) ∧ cn = c2 ∧ (va_up Fn 20 (upd (Fn 20) v0.toInt.toNat v1)) = F2) ∨ (r = 0 ∧ (¬ (0 ≤ v0.toInt ∧ v0.toInt ≤ 57 ∧ 0 ≤ v1.toInt ∧ v1.toInt ≤ 1000)) ∧ cn = c2 ∧ Fn = F2))) r u.1 u.2.1 u.2.2) (fun (u : (Nat → Nat) × (Nat → Int32) × (Nat → Nat → Int32)) (t : State) => va_P D vwCl (wX cI (D.1 99) zz g ad u.1 u.2.1 u.2.2) t.heap ∧ va_D (va_A (wX cI (D.1 99) zz g ad cn In Fn) sz) (wX cI (D.1 99) zz g ad u.1 u.2.1 u.2.2)) (va_A (wX cI (D.1 99) zz g ad cn In Fn) sz)) 0 0 (va_A (wX cI (D.1 99) zz g ad cn In Fn) sz) := by
  refine Met.ofW (cc := cX11_price) (maxL := 3) (ret := (some .boolean)) (by decide) rfl ?_
  intro p e s m args below meth c s₁ B hml hv
  obtain ⟨rfl, hsz, hP, hK, hD0, hXS⟩ := hv
  have hx := B.exec
  have hb := B.bytes
  have hr := B.returns
  have hts := atoms_spec (ws := (CWS yX11_price cX11_price 3 (some .boolean))) B.pre
  have hown : s.vm.findClass RX11 = some m.cls := findClass_of_methodNamed B.named
  have hlocks := B.notSynchronized
  have S : SF p m c cX11_price 3 s ([.ref (g 0), .int v0, .int v1]).toArray RX11 := ⟨hx, hb, hml, hown, fun w h => hts w (List.mem_cons_of_mem _ h)⟩
  subst hsz
  have hD := hD0.self (sz := s.heap.size)
  generalize hAe : va_A (wX cI (D.1 99) zz g ad cn In Fn) s.heap.size = A at hD hXS ⊢
  have hA : ∀ q : Nat, s.heap.size ≤ q → A q := fun q h => by rw [← hAe]; exact Or.inr h
  have hS : va_S A s.heap s.heap [] := va_S.rf
  have hl := lv_entry ([.ref (g 0), .int v0, .int v1]) (n := 3) (Nat.le_of_ble_eq_true rfl)
  rw [lg_entry_eq]
  generalize (lg_sl ([.ref (g 0), .int v0, .int v1]) ++ List.replicate (3 - (lg_sl ([.ref (g 0), .int v0, .int v1])).length) Slot.unset).toArray = ls at hl ⊢
  have hl : lv_has ls 3 [(0, .ref (g 0)), (1, .int v0), (2, .int v1)] := hl
  have hb_cn : Hid (CBX cn) := hB
  replace hB : CBXh cn := hB
  refine lv_aload_n hx hb dX11_price_0 rfl (lvA0 hl) ?_
  refine gf_RX11_47 S hK hP 0 xo_0 (v := .ref (g 8)) rfl dX11_price_1 ?_
  refine gf_RX11_174 S hK hP 6 xo_6 (v := .ref (g 20)) rfl dX11_price_4 ?_
  refine lv_iload_n hx hb dX11_price_7 rfl (lvA1 hl) ?_
  refine lv_iload_n hx hb dX11_price_8 rfl (lvA2 hl) ?_
  refine lv_iconst (v := 0) hx hb dX11_price_9 kic_0 ?_
  refine lv_sipush (v := 1000) hx hb dX11_price_10 (by decide) ?_
  have hFc := va_free (wc := [((g 20), .inl (cI, 58, .inl (Fn 20)))]) hD hS hA [7] (one_im xo_7)
  refine va_calli (runS_w (As := [.ref (g 20), .int v0, .int v1, .int 0, .int 1000]) (rest := []) S (q_l_tell l D cI cB cZ (g 20) 58 (Fn 20) v0 v1 0 1000 s.heap.size (by (first | omega | (have zz0 := Hid.u hb_cn; omega)))) kS_RX11_177 hK hP hD [7] (one_is xo_7) (one_im xo_7) rfl ⟨Nat.le_of_ble_eq_true rfl, Nat.le_of_ble_eq_true rfl⟩ ⟨Nat.le_of_ble_eq_true rfl, Nat.le_of_ble_eq_true rfl⟩ rfl hl.1 rfl (Nat.le_of_ble_eq_true rfl) dX11_price_13) hS (fun q _ h => hFc q h) hFc (fun r_1 u_3 t H1 locs ht hvm h_2 hB1 hz1 hk1 hS => ?_)
  obtain ⟨hP1, hD1⟩ := hB1
  rw [ht] at hP1
  obtain ⟨hP, hD⟩ := wset1 hP hD xo_7 hk1 hP1
  rcases h_2 with ⟨rfl, h_2, rfl⟩ | ⟨rfl, h_2, rfl⟩
  ·
    have h_2 : 0 ≤ v0.toInt ∧ v0.toInt < (58 : Int) ∧ 0 ≤ v1.toInt ∧ v1.toInt ≤ 1000 := h_2
    generalize H1 = H at hP hS ⊢
    have hP : va_P D vwCl (wX cI (D.1 99) zz g ad cn In (va_up Fn 20 (upd (Fn 20) v0.toNatClampNeg v1))) H := va_P_eq xsa_7 hP
    have hD : va_D A (wX cI (D.1 99) zz g ad cn In (va_up Fn 20 (upd (Fn 20) v0.toNatClampNeg v1))) := va_D_eq xsa_7 hD
    exact W.zret (v := 1) hx hb hr rfl (fun t ht hW => ⟨⟨1, (cn, In, (va_up Fn 20 (upd (Fn 20) v0.toNatClampNeg v1))), rfl, ⟨(show Fr [] [] [20] cn In Fn cn In (va_up Fn 20 (upd (Fn 20) v0.toNatClampNeg v1)) from Fr.mo (Fr.f 20 (Fr.rf (cn := cn) (In := In) (Fn := Fn))) (sbl rfl) (sbl rfl) (sbl rfl)).2.1, (Or.inl ⟨rfl, (by first | trivial | (first | omega | (have zz0 := Hid.u hb_cn; omega)) | (simp only [zd0]; (first | omega | (have zz0 := Hid.u hb_cn; omega)))), (by first | rfl | simp only [zd0] | simp only [zd0, zd1]), (by first | rfl | simp only [zd0] | simp only [zd0, zd1])⟩)⟩, by rw [ht]; exact hP, hD⟩, hS.F ht⟩) hS.2.2 dX11_price_16
  ·
    have h_2 : ¬ (0 ≤ v0.toInt ∧ v0.toInt < (58 : Int) ∧ 0 ≤ v1.toInt ∧ v1.toInt ≤ 1000) := h_2
    generalize H1 = H at hP hS ⊢
    have hP : va_P D vwCl (wX cI (D.1 99) zz g ad cn In Fn) H := va_P_eq xsr_7 hP
    have hD : va_D A (wX cI (D.1 99) zz g ad cn In Fn) := va_D_eq xsr_7 hD
    exact W.zret (v := 0) hx hb hr rfl (fun t ht hW => ⟨⟨0, (cn, In, Fn), rfl, ⟨(show Fr [] [] [20] cn In Fn cn In Fn from Fr.mo (Fr.rf (cn := cn) (In := In) (Fn := Fn)) (sbl rfl) (sbl rfl) (sbl rfl)).2.1, (Or.inr ⟨rfl, (by first | trivial | (first | omega | (have zz0 := Hid.u hb_cn; omega)) | (simp only [zd0]; (first | omega | (have zz0 := Hid.u hb_cn; omega)))), (by first | rfl | simp only [zd0] | simp only [zd0, zd1]), (by first | rfl | simp only [zd0] | simp only [zd0, zd1])⟩)⟩, by rw [ht]; exact hP, hD⟩, hS.F ht⟩) hS.2.2 dX11_price_16
set_option maxRecDepth 100000 in
set_option maxHeartbeats 4000000 in
theorem q_Ethefts (l : Launch) (D : va_G) (cI cB cZ : ClassId) (zz qq vv : Nat) (bt : Nat → Int32) (g : Nat → Nat) (ad : Nat → Nat → Nat) (cn : Nat → Nat) (In : Nat → Int32) (Fn : Nat → Nat → Int32) (v0 v1 : Int32) (sz : Nat) (hB : CBX cn) : Met l yX11_thefts (CWS yX11_thefts cX11_thefts 3 (some .boolean)) (RM 1 0 0) (PBx [.ref (g 0), .int v0, .int v1] D cI cB cZ zz qq vv bt (wX cI (D.1 99) zz g ad cn In Fn) sz) (va_Qi (fun (r : Int32) (u : (Nat → Nat) × (Nat → Int32) × (Nat → Nat → Int32)) => (fun r c2 I2 F2 => (∀ k : Nat, k ∉ [] → I2 k = In k) ∧ ((r = 1 ∧ (0 ≤ v0.toInt ∧ v0.toInt ≤ 23 ∧ 0 ≤ v1.toInt ∧ v1.toInt ≤ 1000) ∧ cn = c2 ∧ (va_up Fn 21 (upd (Fn 21) v0.toInt.toNat v1)) = F2) ∨ (r = 0 ∧ (¬ (0 ≤ v0.toInt ∧ v0.toInt ≤ 23 ∧ 0 ≤ v1.toInt ∧ v1.toInt ≤ 1000)) ∧ cn = c2 ∧ Fn = F2))) r u.1 u.2.1 u.2.2) (fun (u : (Nat → Nat) × (Nat → Int32) × (Nat → Nat → Int32)) (t : State) => va_P D vwCl (wX cI (D.1 99) zz g ad u.1 u.2.1 u.2.2) t.heap ∧ va_D (va_A (wX cI (D.1 99) zz g ad cn In Fn) sz) (wX cI (D.1 99) zz g ad u.1 u.2.1 u.2.2)) (va_A (wX cI (D.1 99) zz g ad cn In Fn) sz)) 0 0 (va_A (wX cI (D.1 99) zz g ad cn In Fn) sz) := by
  refine Met.ofW (cc := cX11_thefts) (maxL := 3) (ret := (some .boolean)) (by decide) rfl ?_
  intro p e s m args below meth c s₁ B hml hv
  obtain ⟨rfl, hsz, hP, hK, hD0, hXS⟩ := hv
  have hx := B.exec
  have hb := B.bytes
  have hr := B.returns
  have hts := atoms_spec (ws := (CWS yX11_thefts cX11_thefts 3 (some .boolean))) B.pre
  have hown : s.vm.findClass RX11 = some m.cls := findClass_of_methodNamed B.named
  have hlocks := B.notSynchronized
  have S : SF p m c cX11_thefts 3 s ([.ref (g 0), .int v0, .int v1]).toArray RX11 := ⟨hx, hb, hml, hown, fun w h => hts w (List.mem_cons_of_mem _ h)⟩
  subst hsz
  have hD := hD0.self (sz := s.heap.size)
  generalize hAe : va_A (wX cI (D.1 99) zz g ad cn In Fn) s.heap.size = A at hD hXS ⊢
  have hA : ∀ q : Nat, s.heap.size ≤ q → A q := fun q h => by rw [← hAe]; exact Or.inr h
  have hS : va_S A s.heap s.heap [] := va_S.rf
  have hl := lv_entry ([.ref (g 0), .int v0, .int v1]) (n := 3) (Nat.le_of_ble_eq_true rfl)
  rw [lg_entry_eq]
  generalize (lg_sl ([.ref (g 0), .int v0, .int v1]) ++ List.replicate (3 - (lg_sl ([.ref (g 0), .int v0, .int v1])).length) Slot.unset).toArray = ls at hl ⊢
  have hl : lv_has ls 3 [(0, .ref (g 0)), (1, .int v0), (2, .int v1)] := hl
  have hb_cn : Hid (CBX cn) := hB
  replace hB : CBXh cn := hB
  refine lv_aload_n hx hb dX11_thefts_0 rfl (lvA0 hl) ?_
  refine gf_RX11_47 S hK hP 0 xo_0 (v := .ref (g 8)) rfl dX11_thefts_1 ?_
  refine gf_RX11_467 S hK hP 6 xo_6 (v := .ref (g 21)) rfl dX11_thefts_4 ?_
  refine lv_iload_n hx hb dX11_thefts_7 rfl (lvA1 hl) ?_
  refine lv_iload_n hx hb dX11_thefts_8 rfl (lvA2 hl) ?_
  refine lv_iconst (v := 0) hx hb dX11_thefts_9 kic_0 ?_
  refine lv_sipush (v := 1000) hx hb dX11_thefts_10 (by decide) ?_
  have hFc := va_free (wc := [((g 21), .inl (cI, 24, .inl (Fn 21)))]) hD hS hA [8] (one_im xo_8)
  refine va_calli (runS_w (As := [.ref (g 21), .int v0, .int v1, .int 0, .int 1000]) (rest := []) S (q_l_tell l D cI cB cZ (g 21) 24 (Fn 21) v0 v1 0 1000 s.heap.size (by (first | omega | (have zz0 := Hid.u hb_cn; omega)))) kS_RX11_177 hK hP hD [8] (one_is xo_8) (one_im xo_8) rfl ⟨Nat.le_of_ble_eq_true rfl, Nat.le_of_ble_eq_true rfl⟩ ⟨Nat.le_of_ble_eq_true rfl, Nat.le_of_ble_eq_true rfl⟩ rfl hl.1 rfl (Nat.le_of_ble_eq_true rfl) dX11_thefts_13) hS (fun q _ h => hFc q h) hFc (fun r_1 u_3 t H1 locs ht hvm h_2 hB1 hz1 hk1 hS => ?_)
  obtain ⟨hP1, hD1⟩ := hB1
  rw [ht] at hP1
  obtain ⟨hP, hD⟩ := wset1 hP hD xo_8 hk1 hP1
  rcases h_2 with ⟨rfl, h_2, rfl⟩ | ⟨rfl, h_2, rfl⟩
  ·
    have h_2 : 0 ≤ v0.toInt ∧ v0.toInt < (24 : Int) ∧ 0 ≤ v1.toInt ∧ v1.toInt ≤ 1000 := h_2
    generalize H1 = H at hP hS ⊢
    have hP : va_P D vwCl (wX cI (D.1 99) zz g ad cn In (va_up Fn 21 (upd (Fn 21) v0.toNatClampNeg v1))) H := va_P_eq xsa_8 hP
    have hD : va_D A (wX cI (D.1 99) zz g ad cn In (va_up Fn 21 (upd (Fn 21) v0.toNatClampNeg v1))) := va_D_eq xsa_8 hD
    exact W.zret (v := 1) hx hb hr rfl (fun t ht hW => ⟨⟨1, (cn, In, (va_up Fn 21 (upd (Fn 21) v0.toNatClampNeg v1))), rfl, ⟨(show Fr [] [] [21] cn In Fn cn In (va_up Fn 21 (upd (Fn 21) v0.toNatClampNeg v1)) from Fr.mo (Fr.f 21 (Fr.rf (cn := cn) (In := In) (Fn := Fn))) (sbl rfl) (sbl rfl) (sbl rfl)).2.1, (Or.inl ⟨rfl, (by first | trivial | (first | omega | (have zz0 := Hid.u hb_cn; omega)) | (simp only [zd0]; (first | omega | (have zz0 := Hid.u hb_cn; omega)))), (by first | rfl | simp only [zd0] | simp only [zd0, zd1]), (by first | rfl | simp only [zd0] | simp only [zd0, zd1])⟩)⟩, by rw [ht]; exact hP, hD⟩, hS.F ht⟩) hS.2.2 dX11_thefts_16
  ·
    have h_2 : ¬ (0 ≤ v0.toInt ∧ v0.toInt < (24 : Int) ∧ 0 ≤ v1.toInt ∧ v1.toInt ≤ 1000) := h_2
    generalize H1 = H at hP hS ⊢
    have hP : va_P D vwCl (wX cI (D.1 99) zz g ad cn In Fn) H := va_P_eq xsr_8 hP
    have hD : va_D A (wX cI (D.1 99) zz g ad cn In Fn) := va_D_eq xsr_8 hD
    exact W.zret (v := 0) hx hb hr rfl (fun t ht hW => ⟨⟨0, (cn, In, Fn), rfl, ⟨(show Fr [] [] [21] cn In Fn cn In Fn from Fr.mo (Fr.rf (cn := cn) (In := In) (Fn := Fn)) (sbl rfl) (sbl rfl) (sbl rfl)).2.1, (Or.inr ⟨rfl, (by first | trivial | (first | omega | (have zz0 := Hid.u hb_cn; omega)) | (simp only [zd0]; (first | omega | (have zz0 := Hid.u hb_cn; omega)))), (by first | rfl | simp only [zd0] | simp only [zd0, zd1]), (by first | rfl | simp only [zd0] | simp only [zd0, zd1])⟩)⟩, by rw [ht]; exact hP, hD⟩, hS.F ht⟩) hS.2.2 dX11_thefts_16
set_option maxRecDepth 100000 in
set_option maxHeartbeats 4000000 in
theorem q_Edegrees (l : Launch) (D : va_G) (cI cB cZ : ClassId) (zz qq vv : Nat) (bt : Nat → Int32) (g : Nat → Nat) (ad : Nat → Nat → Nat) (cn : Nat → Nat) (In : Nat → Int32) (Fn : Nat → Nat → Int32) (v0 v1 : Int32) (sz : Nat) (hB : CBX cn) : Met l yX11_degrees (CWS yX11_degrees cX11_degrees 3 (some .boolean)) (RM 1 0 0) (PBx [.ref (g 0), .int v0, .int v1] D cI cB cZ zz qq vv bt (wX cI (D.1 99) zz g ad cn In Fn) sz) (va_Qi (fun (r : Int32) (u : (Nat → Nat) × (Nat → Int32) × (Nat → Nat → Int32)) => (fun r c2 I2 F2 => (∀ k : Nat, k ∉ [] → I2 k = In k) ∧ ((r = 1 ∧ (0 ≤ v0.toInt ∧ v0.toInt ≤ 399 ∧ (-40) ≤ v1.toInt ∧ v1.toInt ≤ 40) ∧ cn = c2 ∧ (va_up Fn 22 (upd (Fn 22) v0.toInt.toNat v1)) = F2) ∨ (r = 0 ∧ (¬ (0 ≤ v0.toInt ∧ v0.toInt ≤ 399 ∧ (-40) ≤ v1.toInt ∧ v1.toInt ≤ 40)) ∧ cn = c2 ∧ Fn = F2))) r u.1 u.2.1 u.2.2) (fun (u : (Nat → Nat) × (Nat → Int32) × (Nat → Nat → Int32)) (t : State) => va_P D vwCl (wX cI (D.1 99) zz g ad u.1 u.2.1 u.2.2) t.heap ∧ va_D (va_A (wX cI (D.1 99) zz g ad cn In Fn) sz) (wX cI (D.1 99) zz g ad u.1 u.2.1 u.2.2)) (va_A (wX cI (D.1 99) zz g ad cn In Fn) sz)) 0 0 (va_A (wX cI (D.1 99) zz g ad cn In Fn) sz) := by
  refine Met.ofW (cc := cX11_degrees) (maxL := 3) (ret := (some .boolean)) (by decide) rfl ?_
  intro p e s m args below meth c s₁ B hml hv
  obtain ⟨rfl, hsz, hP, hK, hD0, hXS⟩ := hv
  have hx := B.exec
  have hb := B.bytes
  have hr := B.returns
  have hts := atoms_spec (ws := (CWS yX11_degrees cX11_degrees 3 (some .boolean))) B.pre
  have hown : s.vm.findClass RX11 = some m.cls := findClass_of_methodNamed B.named
  have hlocks := B.notSynchronized
  have S : SF p m c cX11_degrees 3 s ([.ref (g 0), .int v0, .int v1]).toArray RX11 := ⟨hx, hb, hml, hown, fun w h => hts w (List.mem_cons_of_mem _ h)⟩
  subst hsz
  have hD := hD0.self (sz := s.heap.size)
  generalize hAe : va_A (wX cI (D.1 99) zz g ad cn In Fn) s.heap.size = A at hD hXS ⊢
  have hA : ∀ q : Nat, s.heap.size ≤ q → A q := fun q h => by rw [← hAe]; exact Or.inr h
  have hS : va_S A s.heap s.heap [] := va_S.rf
  have hl := lv_entry ([.ref (g 0), .int v0, .int v1]) (n := 3) (Nat.le_of_ble_eq_true rfl)
  rw [lg_entry_eq]
  generalize (lg_sl ([.ref (g 0), .int v0, .int v1]) ++ List.replicate (3 - (lg_sl ([.ref (g 0), .int v0, .int v1])).length) Slot.unset).toArray = ls at hl ⊢
  have hl : lv_has ls 3 [(0, .ref (g 0)), (1, .int v0), (2, .int v1)] := hl
  have hb_cn : Hid (CBX cn) := hB
  replace hB : CBXh cn := hB
  refine lv_aload_n hx hb dX11_degrees_0 rfl (lvA0 hl) ?_
  refine gf_RX11_47 S hK hP 0 xo_0 (v := .ref (g 8)) rfl dX11_degrees_1 ?_
  refine gf_RX11_486 S hK hP 6 xo_6 (v := .ref (g 22)) rfl dX11_degrees_4 ?_
  refine lv_iload_n hx hb dX11_degrees_7 rfl (lvA1 hl) ?_
  refine lv_iload_n hx hb dX11_degrees_8 rfl (lvA2 hl) ?_
  refine lv_bipush (v := (-40)) hx hb dX11_degrees_9 kbc_m40 ?_
  refine lv_bipush (v := 40) hx hb dX11_degrees_11 kbc_40 ?_
  have hFc := va_free (wc := [((g 22), .inl (cI, 400, .inl (Fn 22)))]) hD hS hA [9] (one_im xo_9)
  refine va_calli (runS_w (As := [.ref (g 22), .int v0, .int v1, .int (-40), .int 40]) (rest := []) S (q_l_tell l D cI cB cZ (g 22) 400 (Fn 22) v0 v1 (-40) 40 s.heap.size (by (first | omega | (have zz0 := Hid.u hb_cn; omega)))) kS_RX11_177 hK hP hD [9] (one_is xo_9) (one_im xo_9) rfl ⟨Nat.le_of_ble_eq_true rfl, Nat.le_of_ble_eq_true rfl⟩ ⟨Nat.le_of_ble_eq_true rfl, Nat.le_of_ble_eq_true rfl⟩ rfl hl.1 rfl (Nat.le_of_ble_eq_true rfl) dX11_degrees_13) hS (fun q _ h => hFc q h) hFc (fun r_1 u_3 t H1 locs ht hvm h_2 hB1 hz1 hk1 hS => ?_)
  obtain ⟨hP1, hD1⟩ := hB1
  rw [ht] at hP1
  obtain ⟨hP, hD⟩ := wset1 hP hD xo_9 hk1 hP1
  rcases h_2 with ⟨rfl, h_2, rfl⟩ | ⟨rfl, h_2, rfl⟩
  ·
    have h_2 : 0 ≤ v0.toInt ∧ v0.toInt < (400 : Int) ∧ (-40) ≤ v1.toInt ∧ v1.toInt ≤ 40 := h_2
    generalize H1 = H at hP hS ⊢
    have hP : va_P D vwCl (wX cI (D.1 99) zz g ad cn In (va_up Fn 22 (upd (Fn 22) v0.toNatClampNeg v1))) H := va_P_eq xsa_9 hP
    have hD : va_D A (wX cI (D.1 99) zz g ad cn In (va_up Fn 22 (upd (Fn 22) v0.toNatClampNeg v1))) := va_D_eq xsa_9 hD
    exact W.zret (v := 1) hx hb hr rfl (fun t ht hW => ⟨⟨1, (cn, In, (va_up Fn 22 (upd (Fn 22) v0.toNatClampNeg v1))), rfl, ⟨(show Fr [] [] [22] cn In Fn cn In (va_up Fn 22 (upd (Fn 22) v0.toNatClampNeg v1)) from Fr.mo (Fr.f 22 (Fr.rf (cn := cn) (In := In) (Fn := Fn))) (sbl rfl) (sbl rfl) (sbl rfl)).2.1, (Or.inl ⟨rfl, (by first | trivial | (first | omega | (have zz0 := Hid.u hb_cn; omega)) | (simp only [zd0]; (first | omega | (have zz0 := Hid.u hb_cn; omega)))), (by first | rfl | simp only [zd0] | simp only [zd0, zd1]), (by first | rfl | simp only [zd0] | simp only [zd0, zd1])⟩)⟩, by rw [ht]; exact hP, hD⟩, hS.F ht⟩) hS.2.2 dX11_degrees_16
  ·
    have h_2 : ¬ (0 ≤ v0.toInt ∧ v0.toInt < (400 : Int) ∧ (-40) ≤ v1.toInt ∧ v1.toInt ≤ 40) := h_2
    generalize H1 = H at hP hS ⊢
    have hP : va_P D vwCl (wX cI (D.1 99) zz g ad cn In Fn) H := va_P_eq xsr_9 hP
    have hD : va_D A (wX cI (D.1 99) zz g ad cn In Fn) := va_D_eq xsr_9 hD
    exact W.zret (v := 0) hx hb hr rfl (fun t ht hW => ⟨⟨0, (cn, In, Fn), rfl, ⟨(show Fr [] [] [22] cn In Fn cn In Fn from Fr.mo (Fr.rf (cn := cn) (In := In) (Fn := Fn)) (sbl rfl) (sbl rfl) (sbl rfl)).2.1, (Or.inr ⟨rfl, (by first | trivial | (first | omega | (have zz0 := Hid.u hb_cn; omega)) | (simp only [zd0]; (first | omega | (have zz0 := Hid.u hb_cn; omega)))), (by first | rfl | simp only [zd0] | simp only [zd0, zd1]), (by first | rfl | simp only [zd0] | simp only [zd0, zd1])⟩)⟩, by rw [ht]; exact hP, hD⟩, hS.F ht⟩) hS.2.2 dX11_degrees_16
set_option maxRecDepth 100000 in
set_option maxHeartbeats 4000000 in
theorem q_Efeast (l : Launch) (D : va_G) (cI cB cZ : ClassId) (zz qq vv : Nat) (bt : Nat → Int32) (g : Nat → Nat) (ad : Nat → Nat → Nat) (cn : Nat → Nat) (In : Nat → Int32) (Fn : Nat → Nat → Int32) (v0 v1 : Int32) (sz : Nat) (hB : CBX cn) : Met l yX11_feast (CWS yX11_feast cX11_feast 3 (some .boolean)) (RM 1 0 0) (PBx [.ref (g 0), .int v0, .int v1] D cI cB cZ zz qq vv bt (wX cI (D.1 99) zz g ad cn In Fn) sz) (va_Qi (fun (r : Int32) (u : (Nat → Nat) × (Nat → Int32) × (Nat → Nat → Int32)) => (fun r c2 I2 F2 => (∀ k : Nat, k ∉ [] → I2 k = In k) ∧ ((r = 1 ∧ (0 ≤ v0.toInt ∧ v0.toInt ≤ 399 ∧ 0 ≤ v1.toInt ∧ v1.toInt ≤ 300) ∧ cn = c2 ∧ (va_up Fn 23 (upd (Fn 23) v0.toInt.toNat v1)) = F2) ∨ (r = 0 ∧ (¬ (0 ≤ v0.toInt ∧ v0.toInt ≤ 399 ∧ 0 ≤ v1.toInt ∧ v1.toInt ≤ 300)) ∧ cn = c2 ∧ Fn = F2))) r u.1 u.2.1 u.2.2) (fun (u : (Nat → Nat) × (Nat → Int32) × (Nat → Nat → Int32)) (t : State) => va_P D vwCl (wX cI (D.1 99) zz g ad u.1 u.2.1 u.2.2) t.heap ∧ va_D (va_A (wX cI (D.1 99) zz g ad cn In Fn) sz) (wX cI (D.1 99) zz g ad u.1 u.2.1 u.2.2)) (va_A (wX cI (D.1 99) zz g ad cn In Fn) sz)) 0 0 (va_A (wX cI (D.1 99) zz g ad cn In Fn) sz) := by
  refine Met.ofW (cc := cX11_feast) (maxL := 3) (ret := (some .boolean)) (by decide) rfl ?_
  intro p e s m args below meth c s₁ B hml hv
  obtain ⟨rfl, hsz, hP, hK, hD0, hXS⟩ := hv
  have hx := B.exec
  have hb := B.bytes
  have hr := B.returns
  have hts := atoms_spec (ws := (CWS yX11_feast cX11_feast 3 (some .boolean))) B.pre
  have hown : s.vm.findClass RX11 = some m.cls := findClass_of_methodNamed B.named
  have hlocks := B.notSynchronized
  have S : SF p m c cX11_feast 3 s ([.ref (g 0), .int v0, .int v1]).toArray RX11 := ⟨hx, hb, hml, hown, fun w h => hts w (List.mem_cons_of_mem _ h)⟩
  subst hsz
  have hD := hD0.self (sz := s.heap.size)
  generalize hAe : va_A (wX cI (D.1 99) zz g ad cn In Fn) s.heap.size = A at hD hXS ⊢
  have hA : ∀ q : Nat, s.heap.size ≤ q → A q := fun q h => by rw [← hAe]; exact Or.inr h
  have hS : va_S A s.heap s.heap [] := va_S.rf
  have hl := lv_entry ([.ref (g 0), .int v0, .int v1]) (n := 3) (Nat.le_of_ble_eq_true rfl)
  rw [lg_entry_eq]
  generalize (lg_sl ([.ref (g 0), .int v0, .int v1]) ++ List.replicate (3 - (lg_sl ([.ref (g 0), .int v0, .int v1])).length) Slot.unset).toArray = ls at hl ⊢
  have hl : lv_has ls 3 [(0, .ref (g 0)), (1, .int v0), (2, .int v1)] := hl
  have hb_cn : Hid (CBX cn) := hB
  replace hB : CBXh cn := hB
  refine lv_aload_n hx hb dX11_feast_0 rfl (lvA0 hl) ?_
  refine gf_RX11_47 S hK hP 0 xo_0 (v := .ref (g 8)) rfl dX11_feast_1 ?_
  refine gf_RX11_492 S hK hP 6 xo_6 (v := .ref (g 23)) rfl dX11_feast_4 ?_
  refine lv_iload_n hx hb dX11_feast_7 rfl (lvA1 hl) ?_
  refine lv_iload_n hx hb dX11_feast_8 rfl (lvA2 hl) ?_
  refine lv_iconst (v := 0) hx hb dX11_feast_9 kic_0 ?_
  refine lv_sipush (v := 300) hx hb dX11_feast_10 (by decide) ?_
  have hFc := va_free (wc := [((g 23), .inl (cI, 400, .inl (Fn 23)))]) hD hS hA [10] (one_im xo_10)
  refine va_calli (runS_w (As := [.ref (g 23), .int v0, .int v1, .int 0, .int 300]) (rest := []) S (q_l_tell l D cI cB cZ (g 23) 400 (Fn 23) v0 v1 0 300 s.heap.size (by (first | omega | (have zz0 := Hid.u hb_cn; omega)))) kS_RX11_177 hK hP hD [10] (one_is xo_10) (one_im xo_10) rfl ⟨Nat.le_of_ble_eq_true rfl, Nat.le_of_ble_eq_true rfl⟩ ⟨Nat.le_of_ble_eq_true rfl, Nat.le_of_ble_eq_true rfl⟩ rfl hl.1 rfl (Nat.le_of_ble_eq_true rfl) dX11_feast_13) hS (fun q _ h => hFc q h) hFc (fun r_1 u_3 t H1 locs ht hvm h_2 hB1 hz1 hk1 hS => ?_)
  obtain ⟨hP1, hD1⟩ := hB1
  rw [ht] at hP1
  obtain ⟨hP, hD⟩ := wset1 hP hD xo_10 hk1 hP1
  rcases h_2 with ⟨rfl, h_2, rfl⟩ | ⟨rfl, h_2, rfl⟩
  ·
    have h_2 : 0 ≤ v0.toInt ∧ v0.toInt < (400 : Int) ∧ 0 ≤ v1.toInt ∧ v1.toInt ≤ 300 := h_2
    generalize H1 = H at hP hS ⊢
    have hP : va_P D vwCl (wX cI (D.1 99) zz g ad cn In (va_up Fn 23 (upd (Fn 23) v0.toNatClampNeg v1))) H := va_P_eq xsa_10 hP
    have hD : va_D A (wX cI (D.1 99) zz g ad cn In (va_up Fn 23 (upd (Fn 23) v0.toNatClampNeg v1))) := va_D_eq xsa_10 hD
    exact W.zret (v := 1) hx hb hr rfl (fun t ht hW => ⟨⟨1, (cn, In, (va_up Fn 23 (upd (Fn 23) v0.toNatClampNeg v1))), rfl, ⟨(show Fr [] [] [23] cn In Fn cn In (va_up Fn 23 (upd (Fn 23) v0.toNatClampNeg v1)) from Fr.mo (Fr.f 23 (Fr.rf (cn := cn) (In := In) (Fn := Fn))) (sbl rfl) (sbl rfl) (sbl rfl)).2.1, (Or.inl ⟨rfl, (by first | trivial | (first | omega | (have zz0 := Hid.u hb_cn; omega)) | (simp only [zd0]; (first | omega | (have zz0 := Hid.u hb_cn; omega)))), (by first | rfl | simp only [zd0] | simp only [zd0, zd1]), (by first | rfl | simp only [zd0] | simp only [zd0, zd1])⟩)⟩, by rw [ht]; exact hP, hD⟩, hS.F ht⟩) hS.2.2 dX11_feast_16
  ·
    have h_2 : ¬ (0 ≤ v0.toInt ∧ v0.toInt < (400 : Int) ∧ 0 ≤ v1.toInt ∧ v1.toInt ≤ 300) := h_2
    generalize H1 = H at hP hS ⊢
    have hP : va_P D vwCl (wX cI (D.1 99) zz g ad cn In Fn) H := va_P_eq xsr_10 hP
    have hD : va_D A (wX cI (D.1 99) zz g ad cn In Fn) := va_D_eq xsr_10 hD
    exact W.zret (v := 0) hx hb hr rfl (fun t ht hW => ⟨⟨0, (cn, In, Fn), rfl, ⟨(show Fr [] [] [23] cn In Fn cn In Fn from Fr.mo (Fr.rf (cn := cn) (In := In) (Fn := Fn)) (sbl rfl) (sbl rfl) (sbl rfl)).2.1, (Or.inr ⟨rfl, (by first | trivial | (first | omega | (have zz0 := Hid.u hb_cn; omega)) | (simp only [zd0]; (first | omega | (have zz0 := Hid.u hb_cn; omega)))), (by first | rfl | simp only [zd0] | simp only [zd0, zd1]), (by first | rfl | simp only [zd0] | simp only [zd0, zd1])⟩)⟩, by rw [ht]; exact hP, hD⟩, hS.F ht⟩) hS.2.2 dX11_feast_16
set_option maxRecDepth 100000 in
set_option maxHeartbeats 4000000 in
theorem q_Euse (l : Launch) (D : va_G) (cI cB cZ : ClassId) (zz qq vv : Nat) (bt : Nat → Int32) (g : Nat → Nat) (ad : Nat → Nat → Nat) (cn : Nat → Nat) (In : Nat → Int32) (Fn : Nat → Nat → Int32) (v0 v1 : Int32) (sz : Nat) (hB : CBX cn) : Met l yX11_use (CWS yX11_use cX11_use 3 (some .boolean)) (RM 1 0 0) (PBx [.ref (g 0), .int v0, .int v1] D cI cB cZ zz qq vv bt (wX cI (D.1 99) zz g ad cn In Fn) sz) (va_Qi (fun (r : Int32) (u : (Nat → Nat) × (Nat → Int32) × (Nat → Nat → Int32)) => (fun r c2 I2 F2 => (∀ k : Nat, k ∉ [] → I2 k = In k) ∧ ((r = 1 ∧ (0 ≤ v0.toInt ∧ v0.toInt ≤ 9 ∧ 0 ≤ v1.toInt ∧ v1.toInt ≤ 3) ∧ cn = c2 ∧ (va_up Fn 24 (upd (Fn 24) v0.toInt.toNat v1)) = F2) ∨ (r = 0 ∧ (¬ (0 ≤ v0.toInt ∧ v0.toInt ≤ 9 ∧ 0 ≤ v1.toInt ∧ v1.toInt ≤ 3)) ∧ cn = c2 ∧ Fn = F2))) r u.1 u.2.1 u.2.2) (fun (u : (Nat → Nat) × (Nat → Int32) × (Nat → Nat → Int32)) (t : State) => va_P D vwCl (wX cI (D.1 99) zz g ad u.1 u.2.1 u.2.2) t.heap ∧ va_D (va_A (wX cI (D.1 99) zz g ad cn In Fn) sz) (wX cI (D.1 99) zz g ad u.1 u.2.1 u.2.2)) (va_A (wX cI (D.1 99) zz g ad cn In Fn) sz)) 0 0 (va_A (wX cI (D.1 99) zz g ad cn In Fn) sz) := by
  refine Met.ofW (cc := cX11_use) (maxL := 3) (ret := (some .boolean)) (by decide) rfl ?_
  intro p e s m args below meth c s₁ B hml hv
  obtain ⟨rfl, hsz, hP, hK, hD0, hXS⟩ := hv
  have hx := B.exec
  have hb := B.bytes
  have hr := B.returns
  have hts := atoms_spec (ws := (CWS yX11_use cX11_use 3 (some .boolean))) B.pre
  have hown : s.vm.findClass RX11 = some m.cls := findClass_of_methodNamed B.named
  have hlocks := B.notSynchronized
  have S : SF p m c cX11_use 3 s ([.ref (g 0), .int v0, .int v1]).toArray RX11 := ⟨hx, hb, hml, hown, fun w h => hts w (List.mem_cons_of_mem _ h)⟩
  subst hsz
  have hD := hD0.self (sz := s.heap.size)
  generalize hAe : va_A (wX cI (D.1 99) zz g ad cn In Fn) s.heap.size = A at hD hXS ⊢
  have hA : ∀ q : Nat, s.heap.size ≤ q → A q := fun q h => by rw [← hAe]; exact Or.inr h
  have hS : va_S A s.heap s.heap [] := va_S.rf
  have hl := lv_entry ([.ref (g 0), .int v0, .int v1]) (n := 3) (Nat.le_of_ble_eq_true rfl)
  rw [lg_entry_eq]
  generalize (lg_sl ([.ref (g 0), .int v0, .int v1]) ++ List.replicate (3 - (lg_sl ([.ref (g 0), .int v0, .int v1])).length) Slot.unset).toArray = ls at hl ⊢
  have hl : lv_has ls 3 [(0, .ref (g 0)), (1, .int v0), (2, .int v1)] := hl
  have hb_cn : Hid (CBX cn) := hB
  replace hB : CBXh cn := hB
  refine lv_aload_n hx hb dX11_use_0 rfl (lvA0 hl) ?_
  refine gf_RX11_47 S hK hP 0 xo_0 (v := .ref (g 8)) rfl dX11_use_1 ?_
  refine gf_RX11_426 S hK hP 6 xo_6 (v := .ref (g 24)) rfl dX11_use_4 ?_
  refine lv_iload_n hx hb dX11_use_7 rfl (lvA1 hl) ?_
  refine lv_iload_n hx hb dX11_use_8 rfl (lvA2 hl) ?_
  refine lv_iconst (v := 0) hx hb dX11_use_9 kic_0 ?_
  refine lv_iconst (v := 3) hx hb dX11_use_10 kic_3 ?_
  have hFc := va_free (wc := [((g 24), .inl (cI, 10, .inl (Fn 24)))]) hD hS hA [11] (one_im xo_11)
  refine va_calli (runS_w (As := [.ref (g 24), .int v0, .int v1, .int 0, .int 3]) (rest := []) S (q_l_tell l D cI cB cZ (g 24) 10 (Fn 24) v0 v1 0 3 s.heap.size (by (first | omega | (have zz0 := Hid.u hb_cn; omega)))) kS_RX11_177 hK hP hD [11] (one_is xo_11) (one_im xo_11) rfl ⟨Nat.le_of_ble_eq_true rfl, Nat.le_of_ble_eq_true rfl⟩ ⟨Nat.le_of_ble_eq_true rfl, Nat.le_of_ble_eq_true rfl⟩ rfl hl.1 rfl (Nat.le_of_ble_eq_true rfl) dX11_use_11) hS (fun q _ h => hFc q h) hFc (fun r_1 u_3 t H1 locs ht hvm h_2 hB1 hz1 hk1 hS => ?_)
  obtain ⟨hP1, hD1⟩ := hB1
  rw [ht] at hP1
  obtain ⟨hP, hD⟩ := wset1 hP hD xo_11 hk1 hP1
  rcases h_2 with ⟨rfl, h_2, rfl⟩ | ⟨rfl, h_2, rfl⟩
  ·
    have h_2 : 0 ≤ v0.toInt ∧ v0.toInt < (10 : Int) ∧ 0 ≤ v1.toInt ∧ v1.toInt ≤ 3 := h_2
    generalize H1 = H at hP hS ⊢
    have hP : va_P D vwCl (wX cI (D.1 99) zz g ad cn In (va_up Fn 24 (upd (Fn 24) v0.toNatClampNeg v1))) H := va_P_eq xsa_11 hP
    have hD : va_D A (wX cI (D.1 99) zz g ad cn In (va_up Fn 24 (upd (Fn 24) v0.toNatClampNeg v1))) := va_D_eq xsa_11 hD
    exact W.zret (v := 1) hx hb hr rfl (fun t ht hW => ⟨⟨1, (cn, In, (va_up Fn 24 (upd (Fn 24) v0.toNatClampNeg v1))), rfl, ⟨(show Fr [] [] [24] cn In Fn cn In (va_up Fn 24 (upd (Fn 24) v0.toNatClampNeg v1)) from Fr.mo (Fr.f 24 (Fr.rf (cn := cn) (In := In) (Fn := Fn))) (sbl rfl) (sbl rfl) (sbl rfl)).2.1, (Or.inl ⟨rfl, (by first | trivial | (first | omega | (have zz0 := Hid.u hb_cn; omega)) | (simp only [zd0]; (first | omega | (have zz0 := Hid.u hb_cn; omega)))), (by first | rfl | simp only [zd0] | simp only [zd0, zd1]), (by first | rfl | simp only [zd0] | simp only [zd0, zd1])⟩)⟩, by rw [ht]; exact hP, hD⟩, hS.F ht⟩) hS.2.2 dX11_use_14
  ·
    have h_2 : ¬ (0 ≤ v0.toInt ∧ v0.toInt < (10 : Int) ∧ 0 ≤ v1.toInt ∧ v1.toInt ≤ 3) := h_2
    generalize H1 = H at hP hS ⊢
    have hP : va_P D vwCl (wX cI (D.1 99) zz g ad cn In Fn) H := va_P_eq xsr_11 hP
    have hD : va_D A (wX cI (D.1 99) zz g ad cn In Fn) := va_D_eq xsr_11 hD
    exact W.zret (v := 0) hx hb hr rfl (fun t ht hW => ⟨⟨0, (cn, In, Fn), rfl, ⟨(show Fr [] [] [24] cn In Fn cn In Fn from Fr.mo (Fr.rf (cn := cn) (In := In) (Fn := Fn)) (sbl rfl) (sbl rfl) (sbl rfl)).2.1, (Or.inr ⟨rfl, (by first | trivial | (first | omega | (have zz0 := Hid.u hb_cn; omega)) | (simp only [zd0]; (first | omega | (have zz0 := Hid.u hb_cn; omega)))), (by first | rfl | simp only [zd0] | simp only [zd0, zd1]), (by first | rfl | simp only [zd0] | simp only [zd0, zd1])⟩)⟩, by rw [ht]; exact hP, hD⟩, hS.F ht⟩) hS.2.2 dX11_use_14
set_option maxRecDepth 100000 in
set_option maxHeartbeats 4000000 in
theorem q_Emost (l : Launch) (D : va_G) (cI cB cZ : ClassId) (zz qq vv : Nat) (bt : Nat → Int32) (g : Nat → Nat) (ad : Nat → Nat → Nat) (cn : Nat → Nat) (In : Nat → Int32) (Fn : Nat → Nat → Int32) (v0 v1 : Int32) (sz : Nat) (hB : CBX cn) : Met l yX11_most (CWS yX11_most cX11_most 3 (some .boolean)) (RM 1 0 0) (PBx [.ref (g 0), .int v0, .int v1] D cI cB cZ zz qq vv bt (wX cI (D.1 99) zz g ad cn In Fn) sz) (va_Qi (fun (r : Int32) (u : (Nat → Nat) × (Nat → Int32) × (Nat → Nat → Int32)) => (fun r c2 I2 F2 => (∀ k : Nat, k ∉ [] → I2 k = In k) ∧ ((r = 1 ∧ (0 ≤ v0.toInt ∧ v0.toInt ≤ 9 ∧ 0 ≤ v1.toInt ∧ v1.toInt ≤ 100000) ∧ cn = c2 ∧ (va_up Fn 25 (upd (Fn 25) v0.toInt.toNat v1)) = F2) ∨ (r = 0 ∧ (¬ (0 ≤ v0.toInt ∧ v0.toInt ≤ 9 ∧ 0 ≤ v1.toInt ∧ v1.toInt ≤ 100000)) ∧ cn = c2 ∧ Fn = F2))) r u.1 u.2.1 u.2.2) (fun (u : (Nat → Nat) × (Nat → Int32) × (Nat → Nat → Int32)) (t : State) => va_P D vwCl (wX cI (D.1 99) zz g ad u.1 u.2.1 u.2.2) t.heap ∧ va_D (va_A (wX cI (D.1 99) zz g ad cn In Fn) sz) (wX cI (D.1 99) zz g ad u.1 u.2.1 u.2.2)) (va_A (wX cI (D.1 99) zz g ad cn In Fn) sz)) 0 0 (va_A (wX cI (D.1 99) zz g ad cn In Fn) sz) := by
  refine Met.ofW (cc := cX11_most) (maxL := 3) (ret := (some .boolean)) (by decide) rfl ?_
  intro p e s m args below meth c s₁ B hml hv
  obtain ⟨rfl, hsz, hP, hK, hD0, hXS⟩ := hv
  have hx := B.exec
  have hb := B.bytes
  have hr := B.returns
  have hts := atoms_spec (ws := (CWS yX11_most cX11_most 3 (some .boolean))) B.pre
  have hown : s.vm.findClass RX11 = some m.cls := findClass_of_methodNamed B.named
  have hlocks := B.notSynchronized
  have S : SF p m c cX11_most 3 s ([.ref (g 0), .int v0, .int v1]).toArray RX11 := ⟨hx, hb, hml, hown, fun w h => hts w (List.mem_cons_of_mem _ h)⟩
  subst hsz
  have hD := hD0.self (sz := s.heap.size)
  generalize hAe : va_A (wX cI (D.1 99) zz g ad cn In Fn) s.heap.size = A at hD hXS ⊢
  have hA : ∀ q : Nat, s.heap.size ≤ q → A q := fun q h => by rw [← hAe]; exact Or.inr h
  have hS : va_S A s.heap s.heap [] := va_S.rf
  have hl := lv_entry ([.ref (g 0), .int v0, .int v1]) (n := 3) (Nat.le_of_ble_eq_true rfl)
  rw [lg_entry_eq]
  generalize (lg_sl ([.ref (g 0), .int v0, .int v1]) ++ List.replicate (3 - (lg_sl ([.ref (g 0), .int v0, .int v1])).length) Slot.unset).toArray = ls at hl ⊢
  have hl : lv_has ls 3 [(0, .ref (g 0)), (1, .int v0), (2, .int v1)] := hl
  have hb_cn : Hid (CBX cn) := hB
  replace hB : CBXh cn := hB
  refine lv_aload_n hx hb dX11_most_0 rfl (lvA0 hl) ?_
  refine gf_RX11_47 S hK hP 0 xo_0 (v := .ref (g 8)) rfl dX11_most_1 ?_
  refine gf_RX11_435 S hK hP 6 xo_6 (v := .ref (g 25)) rfl dX11_most_4 ?_
  refine lv_iload_n hx hb dX11_most_7 rfl (lvA1 hl) ?_
  refine lv_iload_n hx hb dX11_most_8 rfl (lvA2 hl) ?_
  refine lv_iconst (v := 0) hx hb dX11_most_9 kic_0 ?_
  refine lv_ldc (v := 100000) hx hb hown (S.2.2.2.2 _ (wk4_3 2 rfl rfl)) dX11_most_10 ?_
  have hFc := va_free (wc := [((g 25), .inl (cI, 10, .inl (Fn 25)))]) hD hS hA [12] (one_im xo_12)
  refine va_calli (runS_w (As := [.ref (g 25), .int v0, .int v1, .int 0, .int 100000]) (rest := []) S (q_l_tell l D cI cB cZ (g 25) 10 (Fn 25) v0 v1 0 100000 s.heap.size (by (first | omega | (have zz0 := Hid.u hb_cn; omega)))) kS_RX11_177 hK hP hD [12] (one_is xo_12) (one_im xo_12) rfl ⟨Nat.le_of_ble_eq_true rfl, Nat.le_of_ble_eq_true rfl⟩ ⟨Nat.le_of_ble_eq_true rfl, Nat.le_of_ble_eq_true rfl⟩ rfl hl.1 rfl (Nat.le_of_ble_eq_true rfl) dX11_most_12) hS (fun q _ h => hFc q h) hFc (fun r_1 u_3 t H1 locs ht hvm h_2 hB1 hz1 hk1 hS => ?_)
  obtain ⟨hP1, hD1⟩ := hB1
  rw [ht] at hP1
  obtain ⟨hP, hD⟩ := wset1 hP hD xo_12 hk1 hP1
  rcases h_2 with ⟨rfl, h_2, rfl⟩ | ⟨rfl, h_2, rfl⟩
  ·
    have h_2 : 0 ≤ v0.toInt ∧ v0.toInt < (10 : Int) ∧ 0 ≤ v1.toInt ∧ v1.toInt ≤ 100000 := h_2
    generalize H1 = H at hP hS ⊢
    have hP : va_P D vwCl (wX cI (D.1 99) zz g ad cn In (va_up Fn 25 (upd (Fn 25) v0.toNatClampNeg v1))) H := va_P_eq xsa_12 hP
    have hD : va_D A (wX cI (D.1 99) zz g ad cn In (va_up Fn 25 (upd (Fn 25) v0.toNatClampNeg v1))) := va_D_eq xsa_12 hD
    exact W.zret (v := 1) hx hb hr rfl (fun t ht hW => ⟨⟨1, (cn, In, (va_up Fn 25 (upd (Fn 25) v0.toNatClampNeg v1))), rfl, ⟨(show Fr [] [] [25] cn In Fn cn In (va_up Fn 25 (upd (Fn 25) v0.toNatClampNeg v1)) from Fr.mo (Fr.f 25 (Fr.rf (cn := cn) (In := In) (Fn := Fn))) (sbl rfl) (sbl rfl) (sbl rfl)).2.1, (Or.inl ⟨rfl, (by first | trivial | (first | omega | (have zz0 := Hid.u hb_cn; omega)) | (simp only [zd0]; (first | omega | (have zz0 := Hid.u hb_cn; omega)))), (by first | rfl | simp only [zd0] | simp only [zd0, zd1]), (by first | rfl | simp only [zd0] | simp only [zd0, zd1])⟩)⟩, by rw [ht]; exact hP, hD⟩, hS.F ht⟩) hS.2.2 dX11_most_15
  ·
    have h_2 : ¬ (0 ≤ v0.toInt ∧ v0.toInt < (10 : Int) ∧ 0 ≤ v1.toInt ∧ v1.toInt ≤ 100000) := h_2
    generalize H1 = H at hP hS ⊢
    have hP : va_P D vwCl (wX cI (D.1 99) zz g ad cn In Fn) H := va_P_eq xsr_12 hP
    have hD : va_D A (wX cI (D.1 99) zz g ad cn In Fn) := va_D_eq xsr_12 hD
    exact W.zret (v := 0) hx hb hr rfl (fun t ht hW => ⟨⟨0, (cn, In, Fn), rfl, ⟨(show Fr [] [] [25] cn In Fn cn In Fn from Fr.mo (Fr.rf (cn := cn) (In := In) (Fn := Fn)) (sbl rfl) (sbl rfl) (sbl rfl)).2.1, (Or.inr ⟨rfl, (by first | trivial | (first | omega | (have zz0 := Hid.u hb_cn; omega)) | (simp only [zd0]; (first | omega | (have zz0 := Hid.u hb_cn; omega)))), (by first | rfl | simp only [zd0] | simp only [zd0, zd1]), (by first | rfl | simp only [zd0] | simp only [zd0, zd1])⟩)⟩, by rw [ht]; exact hP, hD⟩, hS.F ht⟩) hS.2.2 dX11_most_15
set_option maxRecDepth 100000 in
set_option maxHeartbeats 4000000 in
theorem q_Erate (l : Launch) (D : va_G) (cI cB cZ : ClassId) (zz qq vv : Nat) (bt : Nat → Int32) (g : Nat → Nat) (ad : Nat → Nat → Nat) (cn : Nat → Nat) (In : Nat → Int32) (Fn : Nat → Nat → Int32) (v0 v1 v2 : Int32) (sz : Nat) (hB : CBX cn) : Met l yX11_rate (CWS yX11_rate cX11_rate 5 (some .boolean)) (RM 1 0 0) (PBx [.ref (g 0), .int v0, .int v1, .int v2] D cI cB cZ zz qq vv bt (wX cI (D.1 99) zz g ad cn In Fn) sz) (va_Qi (fun (r : Int32) (u : (Nat → Nat) × (Nat → Int32) × (Nat → Nat → Int32)) => (fun r c2 I2 F2 => (∀ k : Nat, k ∉ [] → I2 k = In k) ∧ ((r = 1 ∧ (0 ≤ v0.toInt ∧ v0.toInt ≤ 3 ∧ 0 ≤ v1.toInt ∧ v1.toInt ≤ 57 ∧ 0 ≤ v2.toInt ∧ v2.toInt ≤ 1000) ∧ cn = c2 ∧ (va_up Fn 26 (upd (Fn 26) (v0.toInt.toNat * 58 + v1.toInt.toNat) v2)) = F2) ∨ (r = 0 ∧ (¬ (0 ≤ v0.toInt ∧ v0.toInt ≤ 3 ∧ 0 ≤ v1.toInt ∧ v1.toInt ≤ 57 ∧ 0 ≤ v2.toInt ∧ v2.toInt ≤ 1000)) ∧ cn = c2 ∧ Fn = F2))) r u.1 u.2.1 u.2.2) (fun (u : (Nat → Nat) × (Nat → Int32) × (Nat → Nat → Int32)) (t : State) => va_P D vwCl (wX cI (D.1 99) zz g ad u.1 u.2.1 u.2.2) t.heap ∧ va_D (va_A (wX cI (D.1 99) zz g ad cn In Fn) sz) (wX cI (D.1 99) zz g ad u.1 u.2.1 u.2.2)) (va_A (wX cI (D.1 99) zz g ad cn In Fn) sz)) 0 0 (va_A (wX cI (D.1 99) zz g ad cn In Fn) sz) := by
  refine Met.ofW (cc := cX11_rate) (maxL := 5) (ret := (some .boolean)) (by decide) rfl ?_
  intro p e s m args below meth c s₁ B hml hv
  obtain ⟨rfl, hsz, hP, hK, hD0, hXS⟩ := hv
  have hx := B.exec
  have hb := B.bytes
  have hr := B.returns
  have hts := atoms_spec (ws := (CWS yX11_rate cX11_rate 5 (some .boolean))) B.pre
  have hown : s.vm.findClass RX11 = some m.cls := findClass_of_methodNamed B.named
  have hlocks := B.notSynchronized
  have S : SF p m c cX11_rate 5 s ([.ref (g 0), .int v0, .int v1, .int v2]).toArray RX11 := ⟨hx, hb, hml, hown, fun w h => hts w (List.mem_cons_of_mem _ h)⟩
  subst hsz
  have hD := hD0.self (sz := s.heap.size)
  generalize hAe : va_A (wX cI (D.1 99) zz g ad cn In Fn) s.heap.size = A at hD hXS ⊢
  have hA : ∀ q : Nat, s.heap.size ≤ q → A q := fun q h => by rw [← hAe]; exact Or.inr h
  have hS : va_S A s.heap s.heap [] := va_S.rf
  have hl := lv_entry ([.ref (g 0), .int v0, .int v1, .int v2]) (n := 5) (Nat.le_of_ble_eq_true rfl)
  rw [lg_entry_eq]
  generalize (lg_sl ([.ref (g 0), .int v0, .int v1, .int v2]) ++ List.replicate (5 - (lg_sl ([.ref (g 0), .int v0, .int v1, .int v2])).length) Slot.unset).toArray = ls at hl ⊢
  have hl : lv_has ls 5 [(0, .ref (g 0)), (1, .int v0), (2, .int v1), (3, .int v2)] := hl
  have hb_cn : Hid (CBX cn) := hB
  replace hB : CBXh cn := hB
  refine lv_iload_n hx hb dX11_rate_0 rfl (lvA1 hl) ?_
  refine lv_iconst (v := 0) hx hb dX11_rate_1 kic_0 ?_
  refine lv_iconst (v := 3) hx hb dX11_rate_2 kic_3 ?_
  refine vp_callSi (runS_r (As := [.int v0, .int 0, .int 3]) (rest := []) S (q_l_within l D cI cB cZ v0 0 3) kS_RX11_80 hK hP [] rfl ⟨Nat.le_of_ble_eq_true rfl, Nat.le_of_ble_eq_true rfl⟩ ⟨Nat.le_of_ble_eq_true rfl, Nat.le_of_ble_eq_true rfl⟩ rfl hl.1 rfl (Nat.le_of_ble_eq_true rfl) dX11_rate_3) (fun r_1 h_2 => ?_)
  rcases h_2 with ⟨rfl, h_2⟩ | ⟨rfl, h_2⟩
  ·
    have h_2 : 0 ≤ v0.toInt ∧ v0.toInt ≤ 3 := h_2
    refine lv_if_eq (tgt := 23) hx hb dX11_rate_6 rfl (fun h => absurd h cq_eq_1_0) (fun _ => ?_)
    refine lv_iload_n hx hb dX11_rate_9 rfl (lvA2 hl) ?_
    refine lv_iconst (v := 0) hx hb dX11_rate_10 kic_0 ?_
    refine lv_bipush (v := 57) hx hb dX11_rate_11 kbc_57 ?_
    refine vp_callSi (runS_r (As := [.int v1, .int 0, .int 57]) (rest := []) S (q_l_within l D cI cB cZ v1 0 57) kS_RX11_80 hK hP [] rfl ⟨Nat.le_of_ble_eq_true rfl, Nat.le_of_ble_eq_true rfl⟩ ⟨Nat.le_of_ble_eq_true rfl, Nat.le_of_ble_eq_true rfl⟩ rfl hl.1 rfl (Nat.le_of_ble_eq_true rfl) dX11_rate_13) (fun r_3 h_4 => ?_)
    rcases h_4 with ⟨rfl, h_4⟩ | ⟨rfl, h_4⟩
    ·
      have h_4 : 0 ≤ v1.toInt ∧ v1.toInt ≤ 57 := h_4
      refine lv_if_eq (tgt := 23) hx hb dX11_rate_16 rfl (fun h => absurd h cq_eq_1_0) (fun _ => ?_)
      refine lv_iconst (v := 1) hx hb dX11_rate_19 kic_1 ?_
      refine lv_goto (tgt := 24) hx hb dX11_rate_20 rfl ?_
      refine lv_istore (lv' := [(4, .int 1), (0, .ref (g 0)), (1, .int v0), (2, .int v1), (3, .int v2)]) hx hb dX11_rate_24 hl (ltb rfl) rfl (fun ls hl => ?_)
      refine lv_iload hx hb dX11_rate_26 (lvA0 hl) ?_
      refine lv_if_eq (tgt := 59) hx hb dX11_rate_28 rfl (fun h => absurd h cq_eq_1_0) (fun _ => ?_)
      obtain ⟨d0, hd0, rfl⟩ := nI_of (x := v0) (fun q => by have := Int32.lt_iff_toInt_lt.mp q; have e : (0 : Int32).toInt = 0 := rfl; (first | omega | (have zz0 := Hid.u hb_cn; omega)))
      have td0 : (nI d0).toInt = (d0 : Int) := nI_toInt hd0
      have zd0 : (nI d0).toInt.toNat = d0 := by (first | omega | (have zz0 := Hid.u hb_cn; omega))
      obtain ⟨d1, hd1, rfl⟩ := nI_of (x := v1) (fun q => by have := Int32.lt_iff_toInt_lt.mp q; have e : (0 : Int32).toInt = 0 := rfl; (first | omega | (have zz0 := Hid.u hb_cn; omega)))
      have td1 : (nI d1).toInt = (d1 : Int) := nI_toInt hd1
      have zd1 : (nI d1).toInt.toNat = d1 := by (first | omega | (have zz0 := Hid.u hb_cn; omega))
      refine lv_aload_n hx hb dX11_rate_31 rfl (lvA1 hl) ?_
      refine gf_RX11_47 S hK hP 0 xo_0 (v := .ref (g 8)) rfl dX11_rate_32 ?_
      refine gf_RX11_429 S hK hP 6 xo_6 (v := .ref (g 26)) rfl dX11_rate_35 ?_
      refine lv_iload_n hx hb dX11_rate_38 rfl (lvA2 hl) ?_
      refine lv_bipush (v := 58) hx hb dX11_rate_39 kbc_58 ?_
      refine lv_imul hx hb dX11_rate_41 ?_
      refine lv_topi (fun y_5 ey_5 => ?_)
      obtain rfl : y_5 = (nI (d0 * 58)) := ey_5.trans (pk_mul d0 58)
      refine lv_iload_n hx hb dX11_rate_42 rfl (lvA3 hl) ?_
      refine lv_iadd hx hb dX11_rate_43 ?_
      refine lv_topi (fun y_6 ey_6 => ?_)
      obtain rfl : y_6 = (nI ((d0 * 58) + d1)) := ey_6.trans (nI_add (d0 * 58) d1)
      refine lv_iload_n hx hb dX11_rate_44 rfl (lvA4 hl) ?_
      have ti9 : (nI ((d0 * 58) + d1)).toInt = ((d0 * 58 + d1 : Nat) : Int) := nI_toInt (by (first | omega | (have zz0 := Hid.u hb_cn; omega)))
      refine lv_iconst (v := 0) hx hb dX11_rate_45 kic_0 ?_
      refine lv_sipush (v := 1000) hx hb dX11_rate_46 (by decide) ?_
      have hFc := va_free (wc := [((g 26), .inl (cI, 232, .inl (Fn 26)))]) hD hS hA [13] (one_im xo_13)
      refine va_calli (runS_w (As := [.ref (g 26), .int (nI ((d0 * 58) + d1)), .int v2, .int 0, .int 1000]) (rest := []) S (q_l_tell l D cI cB cZ (g 26) 232 (Fn 26) (nI ((d0 * 58) + d1)) v2 0 1000 s.heap.size (by (first | omega | (have zz0 := Hid.u hb_cn; omega)))) kS_RX11_177 hK hP hD [13] (one_is xo_13) (one_im xo_13) rfl ⟨Nat.le_of_ble_eq_true rfl, Nat.le_of_ble_eq_true rfl⟩ ⟨Nat.le_of_ble_eq_true rfl, Nat.le_of_ble_eq_true rfl⟩ rfl hl.1 rfl (Nat.le_of_ble_eq_true rfl) dX11_rate_49) hS (fun q _ h => hFc q h) hFc (fun r_7 u_9 t H1 locs ht hvm h_8 hB1 hz1 hk1 hS => ?_)
      obtain ⟨hP1, hD1⟩ := hB1
      rw [ht] at hP1
      obtain ⟨hP, hD⟩ := wset1 hP hD xo_13 hk1 hP1
      rcases h_8 with ⟨rfl, h_8, rfl⟩ | ⟨rfl, h_8, rfl⟩
      ·
        have h_8 : 0 ≤ (nI ((d0 * 58) + d1)).toInt ∧ (nI ((d0 * 58) + d1)).toInt < (232 : Int) ∧ 0 ≤ v2.toInt ∧ v2.toInt ≤ 1000 := h_8
        generalize H1 = H at hP hS ⊢
        have hP : va_P D vwCl (wX cI (D.1 99) zz g ad cn In (va_up Fn 26 (upd (Fn 26) (nI ((d0 * 58) + d1)).toNatClampNeg v2))) H := va_P_eq xsa_13 hP
        have hD : va_D A (wX cI (D.1 99) zz g ad cn In (va_up Fn 26 (upd (Fn 26) (nI ((d0 * 58) + d1)).toNatClampNeg v2))) := va_D_eq xsa_13 hD
        refine lv_if_eq (tgt := 59) hx hb dX11_rate_52 rfl (fun h => absurd h cq_eq_1_0) (fun _ => ?_)
        refine lv_iconst (v := 1) hx hb dX11_rate_55 kic_1 ?_
        refine lv_goto (tgt := 60) hx hb dX11_rate_56 rfl ?_
        exact W.zret (v := 1) hx hb hr rfl (fun t ht hW => ⟨⟨1, (cn, In, (va_up Fn 26 (upd (Fn 26) (nI ((d0 * 58) + d1)).toNatClampNeg v2))), rfl, ⟨(show Fr [] [] [26] cn In Fn cn In (va_up Fn 26 (upd (Fn 26) (nI ((d0 * 58) + d1)).toNatClampNeg v2)) from Fr.mo (Fr.f 26 (Fr.rf (cn := cn) (In := In) (Fn := Fn))) (sbl rfl) (sbl rfl) (sbl rfl)).2.1, (Or.inl ⟨rfl, (by first | trivial | (first | omega | (have zz0 := Hid.u hb_cn; omega)) | (simp only [zd0]; (first | omega | (have zz0 := Hid.u hb_cn; omega)))), (by first | rfl | (simp only [zd0]; done) | (simp only [zd0, zd1]; done) | (simp only [zd0, zd1]; rw [nI_clamp (by (first | omega | (have zz0 := Hid.u hb_cn; omega)))])), (by first | rfl | (simp only [zd0]; done) | (simp only [zd0, zd1]; done) | (simp only [zd0, zd1]; rw [nI_clamp (by (first | omega | (have zz0 := Hid.u hb_cn; omega)))]))⟩)⟩, by rw [ht]; exact hP, hD⟩, hS.F ht⟩) hS.2.2 dX11_rate_60
      ·
        have h_8 : ¬ (0 ≤ (nI ((d0 * 58) + d1)).toInt ∧ (nI ((d0 * 58) + d1)).toInt < (232 : Int) ∧ 0 ≤ v2.toInt ∧ v2.toInt ≤ 1000) := h_8
        generalize H1 = H at hP hS ⊢
        have hP : va_P D vwCl (wX cI (D.1 99) zz g ad cn In Fn) H := va_P_eq xsr_13 hP
        have hD : va_D A (wX cI (D.1 99) zz g ad cn In Fn) := va_D_eq xsr_13 hD
        refine lv_if_eq (tgt := 59) hx hb dX11_rate_52 rfl (fun _ => ?_) (fun h => absurd h cq_eq_0_0)
        refine lv_iconst (v := 0) hx hb dX11_rate_59 kic_0 ?_
        exact W.zret (v := 0) hx hb hr rfl (fun t ht hW => ⟨⟨0, (cn, In, Fn), rfl, ⟨(show Fr [] [] [26] cn In Fn cn In Fn from Fr.mo (Fr.rf (cn := cn) (In := In) (Fn := Fn)) (sbl rfl) (sbl rfl) (sbl rfl)).2.1, (Or.inr ⟨rfl, (by first | trivial | (first | omega | (have zz0 := Hid.u hb_cn; omega)) | (simp only [zd0]; (first | omega | (have zz0 := Hid.u hb_cn; omega)))), (by first | rfl | (simp only [zd0]; done) | (simp only [zd0, zd1]; done) | (simp only [zd0, zd1]; rw [nI_clamp (by (first | omega | (have zz0 := Hid.u hb_cn; omega)))])), (by first | rfl | (simp only [zd0]; done) | (simp only [zd0, zd1]; done) | (simp only [zd0, zd1]; rw [nI_clamp (by (first | omega | (have zz0 := Hid.u hb_cn; omega)))]))⟩)⟩, by rw [ht]; exact hP, hD⟩, hS.F ht⟩) hS.2.2 dX11_rate_60
    ·
      have h_4 : ¬ (0 ≤ v1.toInt ∧ v1.toInt ≤ 57) := h_4
      refine lv_if_eq (tgt := 23) hx hb dX11_rate_16 rfl (fun _ => ?_) (fun h => absurd h cq_eq_0_0)
      refine lv_iconst (v := 0) hx hb dX11_rate_23 kic_0 ?_
      refine lv_istore (lv' := [(4, .int 0), (0, .ref (g 0)), (1, .int v0), (2, .int v1), (3, .int v2)]) hx hb dX11_rate_24 hl (ltb rfl) rfl (fun ls hl => ?_)
      refine lv_iload hx hb dX11_rate_26 (lvA0 hl) ?_
      refine lv_if_eq (tgt := 59) hx hb dX11_rate_28 rfl (fun _ => ?_) (fun h => absurd h cq_eq_0_0)
      refine lv_iconst (v := 0) hx hb dX11_rate_59 kic_0 ?_
      exact W.zret (v := 0) hx hb hr rfl (fun t ht hW => ⟨⟨0, (cn, In, Fn), rfl, ⟨(show Fr [] [] [26] cn In Fn cn In Fn from Fr.mo (Fr.rf (cn := cn) (In := In) (Fn := Fn)) (sbl rfl) (sbl rfl) (sbl rfl)).2.1, (Or.inr ⟨rfl, (by first | trivial | (first | omega | (have zz0 := Hid.u hb_cn; omega)) | (simp only [zd0]; (first | omega | (have zz0 := Hid.u hb_cn; omega)))), (by first | rfl | (simp only [zd0]; done) | (simp only [zd0, zd1]; done) | (simp only [zd0, zd1]; rw [nI_clamp (by (first | omega | (have zz0 := Hid.u hb_cn; omega)))])), (by first | rfl | (simp only [zd0]; done) | (simp only [zd0, zd1]; done) | (simp only [zd0, zd1]; rw [nI_clamp (by (first | omega | (have zz0 := Hid.u hb_cn; omega)))]))⟩)⟩, by rw [ht]; exact hP, hD⟩, hS.F ht⟩) hS.2.2 dX11_rate_60
  ·
    have h_2 : ¬ (0 ≤ v0.toInt ∧ v0.toInt ≤ 3) := h_2
    refine lv_if_eq (tgt := 23) hx hb dX11_rate_6 rfl (fun _ => ?_) (fun h => absurd h cq_eq_0_0)
    refine lv_iconst (v := 0) hx hb dX11_rate_23 kic_0 ?_
    refine lv_istore (lv' := [(4, .int 0), (0, .ref (g 0)), (1, .int v0), (2, .int v1), (3, .int v2)]) hx hb dX11_rate_24 hl (ltb rfl) rfl (fun ls hl => ?_)
    refine lv_iload hx hb dX11_rate_26 (lvA0 hl) ?_
    refine lv_if_eq (tgt := 59) hx hb dX11_rate_28 rfl (fun _ => ?_) (fun h => absurd h cq_eq_0_0)
    refine lv_iconst (v := 0) hx hb dX11_rate_59 kic_0 ?_
    exact W.zret (v := 0) hx hb hr rfl (fun t ht hW => ⟨⟨0, (cn, In, Fn), rfl, ⟨(show Fr [] [] [26] cn In Fn cn In Fn from Fr.mo (Fr.rf (cn := cn) (In := In) (Fn := Fn)) (sbl rfl) (sbl rfl) (sbl rfl)).2.1, (Or.inr ⟨rfl, (by first | trivial | (first | omega | (have zz0 := Hid.u hb_cn; omega)) | (simp only [zd0]; (first | omega | (have zz0 := Hid.u hb_cn; omega)))), (by first | rfl | (simp only [zd0]; done) | (simp only [zd0, zd1]; done) | (simp only [zd0, zd1]; rw [nI_clamp (by (first | omega | (have zz0 := Hid.u hb_cn; omega)))])), (by first | rfl | (simp only [zd0]; done) | (simp only [zd0, zd1]; done) | (simp only [zd0, zd1]; rw [nI_clamp (by (first | omega | (have zz0 := Hid.u hb_cn; omega)))]))⟩)⟩, by rw [ht]; exact hP, hD⟩, hS.F ht⟩) hS.2.2 dX11_rate_60
set_option maxRecDepth 100000 in
set_option maxHeartbeats 4000000 in
theorem q_Elorry (l : Launch) (D : va_G) (cI cB cZ : ClassId) (zz qq vv : Nat) (bt : Nat → Int32) (g : Nat → Nat) (ad : Nat → Nat → Nat) (cn : Nat → Nat) (In : Nat → Int32) (Fn : Nat → Nat → Int32) (v0 : Int32) (sz : Nat) (hB : CBX cn) : Met l yX11_lorry (CWS yX11_lorry cX11_lorry 2 (some .int)) (RM 1 0 0) (PBx [.ref (g 0), .int v0] D cI cB cZ zz qq vv bt (wX cI (D.1 99) zz g ad cn In Fn) sz) (va_Qi (fun (r : Int32) (u : (Nat → Nat) × (Nat → Int32) × (Nat → Nat → Int32)) => (fun r c2 I2 F2 => (∀ k : Nat, k ∉ [] → I2 k = In k) ∧ ((r = nI (cn 1) ∧ (20 ≤ v0.toInt ∧ v0.toInt ≤ 2000 ∧ cn 1 < 3) ∧ (va_up cn 1 (cn 1 + 1)) = c2 ∧ (va_up Fn 27 (putM (Fn 27) 3 (nI (cn 1)) v0)) = F2) ∨ (r = -1 ∧ (¬ (20 ≤ v0.toInt ∧ v0.toInt ≤ 2000 ∧ cn 1 < 3)) ∧ cn = c2 ∧ Fn = F2))) r u.1 u.2.1 u.2.2) (fun (u : (Nat → Nat) × (Nat → Int32) × (Nat → Nat → Int32)) (t : State) => va_P D vwCl (wX cI (D.1 99) zz g ad u.1 u.2.1 u.2.2) t.heap ∧ va_D (va_A (wX cI (D.1 99) zz g ad cn In Fn) sz) (wX cI (D.1 99) zz g ad u.1 u.2.1 u.2.2)) (va_A (wX cI (D.1 99) zz g ad cn In Fn) sz)) 0 0 (va_A (wX cI (D.1 99) zz g ad cn In Fn) sz) := by
  refine Met.ofW (cc := cX11_lorry) (maxL := 2) (ret := (some .int)) (by decide) rfl ?_
  intro p e s m args below meth c s₁ B hml hv
  obtain ⟨rfl, hsz, hP, hK, hD0, hXS⟩ := hv
  have hx := B.exec
  have hb := B.bytes
  have hr := B.returns
  have hts := atoms_spec (ws := (CWS yX11_lorry cX11_lorry 2 (some .int))) B.pre
  have hown : s.vm.findClass RX11 = some m.cls := findClass_of_methodNamed B.named
  have hlocks := B.notSynchronized
  have S : SF p m c cX11_lorry 2 s ([.ref (g 0), .int v0]).toArray RX11 := ⟨hx, hb, hml, hown, fun w h => hts w (List.mem_cons_of_mem _ h)⟩
  subst hsz
  have hD := hD0.self (sz := s.heap.size)
  generalize hAe : va_A (wX cI (D.1 99) zz g ad cn In Fn) s.heap.size = A at hD hXS ⊢
  have hA : ∀ q : Nat, s.heap.size ≤ q → A q := fun q h => by rw [← hAe]; exact Or.inr h
  have hS : va_S A s.heap s.heap [] := va_S.rf
  have hl := lv_entry ([.ref (g 0), .int v0]) (n := 2) (Nat.le_of_ble_eq_true rfl)
  rw [lg_entry_eq]
  generalize (lg_sl ([.ref (g 0), .int v0]) ++ List.replicate (2 - (lg_sl ([.ref (g 0), .int v0])).length) Slot.unset).toArray = ls at hl ⊢
  have hl : lv_has ls 2 [(0, .ref (g 0)), (1, .int v0)] := hl
  have hb_cn : Hid (CBX cn) := hB
  replace hB : CBXh cn := hB
  refine lv_iload_n hx hb dX11_lorry_0 rfl (lvA1 hl) ?_
  refine lv_bipush (v := 20) hx hb dX11_lorry_1 kbc_20 ?_
  refine lv_sipush (v := 2000) hx hb dX11_lorry_3 (by decide) ?_
  refine vp_callSi (runS_r (As := [.int v0, .int 20, .int 2000]) (rest := []) S (q_l_within l D cI cB cZ v0 20 2000) kS_RX11_80 hK hP [] rfl ⟨Nat.le_of_ble_eq_true rfl, Nat.le_of_ble_eq_true rfl⟩ ⟨Nat.le_of_ble_eq_true rfl, Nat.le_of_ble_eq_true rfl⟩ rfl hl.1 rfl (Nat.le_of_ble_eq_true rfl) dX11_lorry_6) (fun r_1 h_2 => ?_)
  rcases h_2 with ⟨rfl, h_2⟩ | ⟨rfl, h_2⟩
  ·
    have h_2 : 20 ≤ v0.toInt ∧ v0.toInt ≤ 2000 := h_2
    refine lv_if_eq (tgt := 20) hx hb dX11_lorry_9 rfl (fun h => absurd h cq_eq_1_0) (fun _ => ?_)
    refine lv_aload_n hx hb dX11_lorry_12 rfl (lvA0 hl) ?_
    refine gf_RX11_311 S hK hP 0 xo_0 (v := .int (nI (cn 1))) rfl dX11_lorry_13 ?_
    refine lv_iconst (v := 3) hx hb dX11_lorry_16 kic_3 ?_
    have : (nI (cn 1)).toInt = (((cn 1) : Nat) : Int) := nI_toInt (by (first | omega | (have zz0 := Hid.u hb_cn; omega)))
    refine lv_icmp_lt (tgt := 22) hx hb dX11_lorry_17 rfl (fun c_3 => ?_) (fun c_3 => ?_)
    ·
      have tc_3 : ((nI (cn 1)).toInt : Int) < 3 := Int32.lt_iff_toInt_lt.mp c_3
      refine lv_aload_n hx hb dX11_lorry_22 rfl (lvA0 hl) ?_
      refine gf_RX11_47 S hK hP 0 xo_0 (v := .ref (g 8)) rfl dX11_lorry_23 ?_
      refine gf_RX11_314 S hK hP 6 xo_6 (v := .ref (g 27)) rfl dX11_lorry_26 ?_
      refine lv_aload_n hx hb dX11_lorry_29 rfl (lvA0 hl) ?_
      refine gf_RX11_311 S hK hP 0 xo_0 (v := .int (nI (cn 1))) rfl dX11_lorry_30 ?_
      refine lv_iload_n hx hb dX11_lorry_33 rfl (lvA1 hl) ?_
      have hFc := va_free (wc := [((g 27), .inl (cI, 3, .inl (Fn 27)))]) hD hS hA [14] (one_im xo_14)
      refine va_callv (runS_w (As := [.ref (g 27), .int (nI (cn 1)), .int v0]) (rest := []) S (q_l_put l D cI cB cZ (g 27) 3 (Fn 27) (nI (cn 1)) v0 s.heap.size (by (first | omega | (have zz0 := Hid.u hb_cn; omega)))) kS_RX11_184 hK hP hD [14] (one_is xo_14) (one_im xo_14) rfl ⟨Nat.le_of_ble_eq_true rfl, Nat.le_of_ble_eq_true rfl⟩ ⟨Nat.le_of_ble_eq_true rfl, Nat.le_of_ble_eq_true rfl⟩ rfl hl.1 rfl (Nat.le_of_ble_eq_true rfl) dX11_lorry_34) hS (fun q _ h => hFc q h) hFc (fun u_6 t H1 locs ht hvm h_5 hB1 hz1 hk1 hS => ?_)
      obtain ⟨hP1, hD1⟩ := hB1
      rw [ht] at hP1
      obtain ⟨hP, hD⟩ := wset1 hP hD xo_14 hk1 hP1
      obtain rfl : u_6 = (putM (Fn 27) 3 (nI (cn 1)) v0) := h_5
      generalize H1 = H at hP hS ⊢
      have hP : va_P D vwCl (wX cI (D.1 99) zz g ad cn In (va_up Fn 27 (putM (Fn 27) 3 (nI (cn 1)) v0))) H := va_P_eq xsa_14 hP
      have hD : va_D A (wX cI (D.1 99) zz g ad cn In (va_up Fn 27 (putM (Fn 27) 3 (nI (cn 1)) v0))) := va_D_eq xsa_14 hD
      refine lv_aload_n hx hb dX11_lorry_37 rfl (lvA0 hl) ?_
      refine lv_dup hx hb dX11_lorry_38 rfl ?_
      refine gf_RX11_311 S hK hP 0 xo_0 (v := .int (nI (cn 1))) rfl dX11_lorry_39 ?_
      refine lv_iconst (v := 1) hx hb dX11_lorry_42 kic_1 ?_
      refine lv_iadd hx hb dX11_lorry_43 ?_
      refine lv_topi (fun y_7 ey_7 => ?_)
      obtain rfl : y_7 = (nI ((cn 1) + 1)) := ey_7.trans (nI_add (cn 1) 1)
      refine pf_RX11_311 S hK hP hD hS 0 xo_0 (v := .int (nI ((cn 1) + 1))) (Nat.le_of_ble_eq_true rfl) rfl rfl dX11_lorry_44 (fun H locs hP hD hS => ?_)
      have hP : va_P D vwCl (wX cI (D.1 99) zz g ad (va_up cn 1 ((cn 1) + 1)) In (va_up Fn 27 (putM (Fn 27) 3 (nI (cn 1)) v0))) H := va_P_eq (xsf_0_1) hP
      have hD : va_D A (wX cI (D.1 99) zz g ad (va_up cn 1 ((cn 1) + 1)) In (va_up Fn 27 (putM (Fn 27) 3 (nI (cn 1)) v0))) := va_D_eq (xsf_0_1) hD
      refine lv_aload_n hx hb dX11_lorry_47 rfl (lvA0 hl) ?_
      refine gf_RX11_311 S hK hP 0 xo_0 (v := .int (nI ((cn 1) + 1))) rfl dX11_lorry_48 ?_
      refine lv_iconst (v := 1) hx hb dX11_lorry_51 kic_1 ?_
      refine lv_isub hx hb dX11_lorry_52 ?_
      refine lv_topi (fun y_8 ey_8 => ?_)
      obtain rfl : y_8 = (nI (cn 1)) := ey_8.trans (nI_sub (b := 1) (by (first | omega | (have zz0 := Hid.u hb_cn; omega))))
      exact W.iret (v := (nI (cn 1))) hx hb hr (fun t ht hW => ⟨⟨(nI (cn 1)), ((va_up cn 1 ((cn 1) + 1)), In, (va_up Fn 27 (putM (Fn 27) 3 (nI (cn 1)) v0))), rfl, ⟨(show Fr [1] [] [27] cn In Fn (va_up cn 1 ((cn 1) + 1)) In (va_up Fn 27 (putM (Fn 27) 3 (nI (cn 1)) v0)) from Fr.mo (Fr.f 27 (Fr.c 1 (Fr.rf (cn := cn) (In := In) (Fn := Fn)))) (sbl rfl) (sbl rfl) (sbl rfl)).2.1, (Or.inl ⟨rfl, (by first | trivial | (first | omega | (have zz0 := Hid.u hb_cn; omega)) | (simp only [zd0]; (first | omega | (have zz0 := Hid.u hb_cn; omega)))), (by first | rfl | simp only [zd0] | simp only [zd0, zd1]), (by first | rfl | simp only [zd0] | simp only [zd0, zd1])⟩)⟩, by rw [ht]; exact hP, hD⟩, hS.F ht⟩) hS.2.2 dX11_lorry_53
    ·
      have tc_3 : (3 : Int) ≤ (nI (cn 1)).toInt := Int32.le_iff_toInt_le.mp (Int32.not_lt.mp c_3)
      refine lv_iconst (v := (-1)) hx hb dX11_lorry_20 kic_m1 ?_
      exact W.iret (v := (-1)) hx hb hr (fun t ht hW => ⟨⟨(-1), (cn, In, Fn), rfl, ⟨(show Fr [1] [] [27] cn In Fn cn In Fn from Fr.mo (Fr.rf (cn := cn) (In := In) (Fn := Fn)) (sbl rfl) (sbl rfl) (sbl rfl)).2.1, (Or.inr ⟨rfl, (by first | trivial | (first | omega | (have zz0 := Hid.u hb_cn; omega)) | (simp only [zd0]; (first | omega | (have zz0 := Hid.u hb_cn; omega)))), (by first | rfl | simp only [zd0] | simp only [zd0, zd1]), (by first | rfl | simp only [zd0] | simp only [zd0, zd1])⟩)⟩, by rw [ht]; exact hP, hD⟩, hS.F ht⟩) hS.2.2 dX11_lorry_21
  ·
    have h_2 : ¬ (20 ≤ v0.toInt ∧ v0.toInt ≤ 2000) := h_2
    refine lv_if_eq (tgt := 20) hx hb dX11_lorry_9 rfl (fun _ => ?_) (fun h => absurd h cq_eq_0_0)
    refine lv_iconst (v := (-1)) hx hb dX11_lorry_20 kic_m1 ?_
    exact W.iret (v := (-1)) hx hb hr (fun t ht hW => ⟨⟨(-1), (cn, In, Fn), rfl, ⟨(show Fr [1] [] [27] cn In Fn cn In Fn from Fr.mo (Fr.rf (cn := cn) (In := In) (Fn := Fn)) (sbl rfl) (sbl rfl) (sbl rfl)).2.1, (Or.inr ⟨rfl, (by first | trivial | (first | omega | (have zz0 := Hid.u hb_cn; omega)) | (simp only [zd0]; (first | omega | (have zz0 := Hid.u hb_cn; omega)))), (by first | rfl | simp only [zd0] | simp only [zd0, zd1]), (by first | rfl | simp only [zd0] | simp only [zd0, zd1])⟩)⟩, by rw [ht]; exact hP, hD⟩, hS.F ht⟩) hS.2.2 dX11_lorry_21
set_option maxRecDepth 100000 in
set_option maxHeartbeats 4000000 in
theorem q_Edrum (l : Launch) (D : va_G) (cI cB cZ : ClassId) (zz qq vv : Nat) (bt : Nat → Int32) (g : Nat → Nat) (ad : Nat → Nat → Nat) (cn : Nat → Nat) (In : Nat → Int32) (Fn : Nat → Nat → Int32)  (sz : Nat) (hB : CBX cn) : Met l yX11_drum (CWS yX11_drum cX11_drum 1 (some .int)) (RM 0 0 0) (PBx [.ref (g 0)] D cI cB cZ zz qq vv bt (wX cI (D.1 99) zz g ad cn In Fn) sz) (va_Qi (fun (r : Int32) (u : (Nat → Nat) × (Nat → Int32) × (Nat → Nat → Int32)) => (fun r c2 I2 F2 => (∀ k : Nat, k ∉ [] → I2 k = In k) ∧ ((r = nI (cn 2) ∧ (cn 2 < 20) ∧ (va_up cn 2 (cn 2 + 1)) = c2 ∧ Fn = F2) ∨ (r = -1 ∧ (¬ cn 2 < 20) ∧ cn = c2 ∧ Fn = F2))) r u.1 u.2.1 u.2.2) (fun (u : (Nat → Nat) × (Nat → Int32) × (Nat → Nat → Int32)) (t : State) => va_P D vwCl (wX cI (D.1 99) zz g ad u.1 u.2.1 u.2.2) t.heap ∧ va_D (va_A (wX cI (D.1 99) zz g ad cn In Fn) sz) (wX cI (D.1 99) zz g ad u.1 u.2.1 u.2.2)) (va_A (wX cI (D.1 99) zz g ad cn In Fn) sz)) 0 0 (va_A (wX cI (D.1 99) zz g ad cn In Fn) sz) := by
  refine Met.ofW (cc := cX11_drum) (maxL := 1) (ret := (some .int)) (by decide) rfl ?_
  intro p e s m args below meth c s₁ B hml hv
  obtain ⟨rfl, hsz, hP, hK, hD0, hXS⟩ := hv
  have hx := B.exec
  have hb := B.bytes
  have hr := B.returns
  have hts := atoms_spec (ws := (CWS yX11_drum cX11_drum 1 (some .int))) B.pre
  have hown : s.vm.findClass RX11 = some m.cls := findClass_of_methodNamed B.named
  have hlocks := B.notSynchronized
  have S : SF p m c cX11_drum 1 s ([.ref (g 0)]).toArray RX11 := ⟨hx, hb, hml, hown, fun w h => hts w (List.mem_cons_of_mem _ h)⟩
  subst hsz
  have hD := hD0.self (sz := s.heap.size)
  generalize hAe : va_A (wX cI (D.1 99) zz g ad cn In Fn) s.heap.size = A at hD hXS ⊢
  have hA : ∀ q : Nat, s.heap.size ≤ q → A q := fun q h => by rw [← hAe]; exact Or.inr h
  have hS : va_S A s.heap s.heap [] := va_S.rf
  have hl := lv_entry ([.ref (g 0)]) (n := 1) (Nat.le_of_ble_eq_true rfl)
  rw [lg_entry_eq]
  generalize (lg_sl ([.ref (g 0)]) ++ List.replicate (1 - (lg_sl ([.ref (g 0)])).length) Slot.unset).toArray = ls at hl ⊢
  have hl : lv_has ls 1 [(0, .ref (g 0))] := hl
  have hb_cn : Hid (CBX cn) := hB
  replace hB : CBXh cn := hB
  refine lv_aload_n hx hb dX11_drum_0 rfl (lvA0 hl) ?_
  refine gf_RX11_502 S hK hP 0 xo_0 (v := .int (nI (cn 2))) rfl dX11_drum_1 ?_
  refine lv_bipush (v := 20) hx hb dX11_drum_4 kbc_20 ?_
  have : (nI (cn 2)).toInt = (((cn 2) : Nat) : Int) := nI_toInt (by (first | omega | (have zz0 := Hid.u hb_cn; omega)))
  refine lv_icmp_lt (tgt := 11) hx hb dX11_drum_6 rfl (fun c_1 => ?_) (fun c_1 => ?_)
  ·
    have tc_1 : ((nI (cn 2)).toInt : Int) < 20 := Int32.lt_iff_toInt_lt.mp c_1
    refine lv_aload_n hx hb dX11_drum_11 rfl (lvA0 hl) ?_
    refine lv_dup hx hb dX11_drum_12 rfl ?_
    refine gf_RX11_502 S hK hP 0 xo_0 (v := .int (nI (cn 2))) rfl dX11_drum_13 ?_
    refine lv_iconst (v := 1) hx hb dX11_drum_16 kic_1 ?_
    refine lv_iadd hx hb dX11_drum_17 ?_
    refine lv_topi (fun y_2 ey_2 => ?_)
    obtain rfl : y_2 = (nI ((cn 2) + 1)) := ey_2.trans (nI_add (cn 2) 1)
    refine pf_RX11_502 S hK hP hD hS 0 xo_0 (v := .int (nI ((cn 2) + 1))) (Nat.le_of_ble_eq_true rfl) rfl rfl dX11_drum_18 (fun H locs hP hD hS => ?_)
    have hP : va_P D vwCl (wX cI (D.1 99) zz g ad (va_up cn 2 ((cn 2) + 1)) In Fn) H := va_P_eq (xsf_0_2) hP
    have hD : va_D A (wX cI (D.1 99) zz g ad (va_up cn 2 ((cn 2) + 1)) In Fn) := va_D_eq (xsf_0_2) hD
    refine lv_aload_n hx hb dX11_drum_21 rfl (lvA0 hl) ?_
    refine gf_RX11_502 S hK hP 0 xo_0 (v := .int (nI ((cn 2) + 1))) rfl dX11_drum_22 ?_
    refine lv_iconst (v := 1) hx hb dX11_drum_25 kic_1 ?_
    refine lv_isub hx hb dX11_drum_26 ?_
    refine lv_topi (fun y_3 ey_3 => ?_)
    obtain rfl : y_3 = (nI (cn 2)) := ey_3.trans (nI_sub (b := 1) (by (first | omega | (have zz0 := Hid.u hb_cn; omega))))
    exact W.iret (v := (nI (cn 2))) hx hb hr (fun t ht hW => ⟨⟨(nI (cn 2)), ((va_up cn 2 ((cn 2) + 1)), In, Fn), rfl, ⟨(show Fr [2] [] [] cn In Fn (va_up cn 2 ((cn 2) + 1)) In Fn from Fr.mo (Fr.c 2 (Fr.rf (cn := cn) (In := In) (Fn := Fn))) (sbl rfl) (sbl rfl) (sbl rfl)).2.1, (Or.inl ⟨rfl, (by first | trivial | (first | omega | (have zz0 := Hid.u hb_cn; omega)) | (simp only [zd0]; (first | omega | (have zz0 := Hid.u hb_cn; omega)))), (by first | rfl | simp only [zd0] | simp only [zd0, zd1]), (by first | rfl | simp only [zd0] | simp only [zd0, zd1])⟩)⟩, by rw [ht]; exact hP, hD⟩, hS.F ht⟩) hS.2.2 dX11_drum_27
  ·
    have tc_1 : (20 : Int) ≤ (nI (cn 2)).toInt := Int32.le_iff_toInt_le.mp (Int32.not_lt.mp c_1)
    refine lv_iconst (v := (-1)) hx hb dX11_drum_9 kic_m1 ?_
    exact W.iret (v := (-1)) hx hb hr (fun t ht hW => ⟨⟨(-1), (cn, In, Fn), rfl, ⟨(show Fr [2] [] [] cn In Fn cn In Fn from Fr.mo (Fr.rf (cn := cn) (In := In) (Fn := Fn)) (sbl rfl) (sbl rfl) (sbl rfl)).2.1, (Or.inr ⟨rfl, (by first | trivial | (first | omega | (have zz0 := Hid.u hb_cn; omega)) | (simp only [zd0]; (first | omega | (have zz0 := Hid.u hb_cn; omega)))), (by first | rfl | simp only [zd0] | simp only [zd0, zd1]), (by first | rfl | simp only [zd0] | simp only [zd0, zd1])⟩)⟩, by rw [ht]; exact hP, hD⟩, hS.F ht⟩) hS.2.2 dX11_drum_10
set_option maxRecDepth 100000 in
set_option maxHeartbeats 4000000 in
theorem q_Espill (l : Launch) (D : va_G) (cI cB cZ : ClassId) (zz qq vv : Nat) (bt : Nat → Int32) (g : Nat → Nat) (ad : Nat → Nat → Nat) (cn : Nat → Nat) (In : Nat → Int32) (Fn : Nat → Nat → Int32) (v0 v1 : Int32) (sz : Nat) (hB : CBX cn) : Met l yX11_spill (CWS yX11_spill cX11_spill 3 (some .int)) (RM 2 0 0) (PBx [.ref (g 0), .int v0, .int v1] D cI cB cZ zz qq vv bt (wX cI (D.1 99) zz g ad cn In Fn) sz) (va_Qi (fun (r : Int32) (u : (Nat → Nat) × (Nat → Int32) × (Nat → Nat → Int32)) => (fun r c2 I2 F2 => (∀ k : Nat, k ∉ [] → I2 k = In k) ∧ ((r = nI (cn 5 + 1) ∧ (0 ≤ v0.toInt ∧ v0.toInt ≤ (cn 0 : Int) ∧ 1 ≤ v1.toInt ∧ v1.toInt ≤ 400 ∧ cn 5 < 40) ∧ (va_up cn 5 (cn 5 + 1)) = c2 ∧ (va_up Fn 29 (putM (Fn 29) 400 v0 (atM (Fn 29) 400 v0 + -v1))) = F2) ∨ (r = -1 ∧ (¬ (0 ≤ v0.toInt ∧ v0.toInt ≤ (cn 0 : Int) ∧ 1 ≤ v1.toInt ∧ v1.toInt ≤ 400 ∧ cn 5 < 40)) ∧ cn = c2 ∧ Fn = F2))) r u.1 u.2.1 u.2.2) (fun (u : (Nat → Nat) × (Nat → Int32) × (Nat → Nat → Int32)) (t : State) => va_P D vwCl (wX cI (D.1 99) zz g ad u.1 u.2.1 u.2.2) t.heap ∧ va_D (va_A (wX cI (D.1 99) zz g ad cn In Fn) sz) (wX cI (D.1 99) zz g ad u.1 u.2.1 u.2.2)) (va_A (wX cI (D.1 99) zz g ad cn In Fn) sz)) 0 0 (va_A (wX cI (D.1 99) zz g ad cn In Fn) sz) := by
  refine Met.ofW (cc := cX11_spill) (maxL := 3) (ret := (some .int)) (by decide) rfl ?_
  intro p e s m args below meth c s₁ B hml hv
  obtain ⟨rfl, hsz, hP, hK, hD0, hXS⟩ := hv
  have hx := B.exec
  have hb := B.bytes
  have hr := B.returns
  have hts := atoms_spec (ws := (CWS yX11_spill cX11_spill 3 (some .int))) B.pre
  have hown : s.vm.findClass RX11 = some m.cls := findClass_of_methodNamed B.named
  have hlocks := B.notSynchronized
  have S : SF p m c cX11_spill 3 s ([.ref (g 0), .int v0, .int v1]).toArray RX11 := ⟨hx, hb, hml, hown, fun w h => hts w (List.mem_cons_of_mem _ h)⟩
  subst hsz
  have hD := hD0.self (sz := s.heap.size)
  generalize hAe : va_A (wX cI (D.1 99) zz g ad cn In Fn) s.heap.size = A at hD hXS ⊢
  have hA : ∀ q : Nat, s.heap.size ≤ q → A q := fun q h => by rw [← hAe]; exact Or.inr h
  have hS : va_S A s.heap s.heap [] := va_S.rf
  have hl := lv_entry ([.ref (g 0), .int v0, .int v1]) (n := 3) (Nat.le_of_ble_eq_true rfl)
  rw [lg_entry_eq]
  generalize (lg_sl ([.ref (g 0), .int v0, .int v1]) ++ List.replicate (3 - (lg_sl ([.ref (g 0), .int v0, .int v1])).length) Slot.unset).toArray = ls at hl ⊢
  have hl : lv_has ls 3 [(0, .ref (g 0)), (1, .int v0), (2, .int v1)] := hl
  have hb_cn : Hid (CBX cn) := hB
  replace hB : CBXh cn := hB
  refine lv_iload_n hx hb dX11_spill_0 rfl (lvA1 hl) ?_
  refine lv_iconst (v := 0) hx hb dX11_spill_1 kic_0 ?_
  refine lv_aload_n hx hb dX11_spill_2 rfl (lvA0 hl) ?_
  refine gf_RX11_103 S hK hP 0 xo_0 (v := .int (nI (cn 0))) rfl dX11_spill_3 ?_
  refine vp_callSi (runS_r (As := [.int v0, .int 0, .int (nI (cn 0))]) (rest := []) S (q_l_within l D cI cB cZ v0 0 (nI (cn 0))) kS_RX11_80 hK hP [] rfl ⟨Nat.le_of_ble_eq_true rfl, Nat.le_of_ble_eq_true rfl⟩ ⟨Nat.le_of_ble_eq_true rfl, Nat.le_of_ble_eq_true rfl⟩ rfl hl.1 rfl (Nat.le_of_ble_eq_true rfl) dX11_spill_6) (fun r_1 h_2 => ?_)
  have : (nI (cn 0)).toInt = (((cn 0) : Nat) : Int) := nI_toInt (by (first | omega | (have zz0 := Hid.u hb_cn; omega)))
  rcases h_2 with ⟨rfl, h_2⟩ | ⟨rfl, h_2⟩
  ·
    have h_2 : 0 ≤ v0.toInt ∧ v0.toInt ≤ (nI (cn 0)).toInt := h_2
    refine lv_if_eq (tgt := 32) hx hb dX11_spill_9 rfl (fun h => absurd h cq_eq_1_0) (fun _ => ?_)
    refine lv_iload_n hx hb dX11_spill_12 rfl (lvA2 hl) ?_
    refine lv_iconst (v := 1) hx hb dX11_spill_13 kic_1 ?_
    refine lv_sipush (v := 400) hx hb dX11_spill_14 (by decide) ?_
    refine vp_callSi (runS_r (As := [.int v1, .int 1, .int 400]) (rest := []) S (q_l_within l D cI cB cZ v1 1 400) kS_RX11_80 hK hP [] rfl ⟨Nat.le_of_ble_eq_true rfl, Nat.le_of_ble_eq_true rfl⟩ ⟨Nat.le_of_ble_eq_true rfl, Nat.le_of_ble_eq_true rfl⟩ rfl hl.1 rfl (Nat.le_of_ble_eq_true rfl) dX11_spill_17) (fun r_3 h_4 => ?_)
    rcases h_4 with ⟨rfl, h_4⟩ | ⟨rfl, h_4⟩
    ·
      have h_4 : 1 ≤ v1.toInt ∧ v1.toInt ≤ 400 := h_4
      refine lv_if_eq (tgt := 32) hx hb dX11_spill_20 rfl (fun h => absurd h cq_eq_1_0) (fun _ => ?_)
      refine lv_aload_n hx hb dX11_spill_23 rfl (lvA0 hl) ?_
      refine gf_RX11_517 S hK hP 0 xo_0 (v := .int (nI (cn 5))) rfl dX11_spill_24 ?_
      refine lv_bipush (v := 40) hx hb dX11_spill_27 kbc_40 ?_
      have : (nI (cn 5)).toInt = (((cn 5) : Nat) : Int) := nI_toInt (by (first | omega | (have zz0 := Hid.u hb_cn; omega)))
      refine lv_icmp_lt (tgt := 34) hx hb dX11_spill_29 rfl (fun c_5 => ?_) (fun c_5 => ?_)
      ·
        have tc_5 : ((nI (cn 5)).toInt : Int) < 40 := Int32.lt_iff_toInt_lt.mp c_5
        refine lv_aload_n hx hb dX11_spill_34 rfl (lvA0 hl) ?_
        refine gf_RX11_47 S hK hP 0 xo_0 (v := .ref (g 8)) rfl dX11_spill_35 ?_
        refine lv_iload_n hx hb dX11_spill_38 rfl (lvA1 hl) ?_
        refine lv_iload_n hx hb dX11_spill_39 rfl (lvA2 hl) ?_
        refine lv_ineg hx hb dX11_spill_40 ?_
        have hFc := free_all hD hS hA
        refine va_callv (runV_xa (As := [.int v0, .int (-v1)]) (rest := []) S (q_Xchange l D cI cB cZ zz qq vv bt g ad cn In Fn v0 (-v1) s.heap.size hB) kV_RX11_144 hK hXS hS hFc hP hD 6 xo_6 rfl rfl ⟨Nat.le_of_ble_eq_true rfl, Nat.le_of_ble_eq_true rfl⟩ ⟨Nat.le_of_ble_eq_true rfl, Nat.le_of_ble_eq_true rfl⟩ rfl hl.1 rfl (Nat.le_of_ble_eq_true rfl) dX11_spill_41) hS (fun q _ h => hFc q h) hFc (fun u t H1 locs ht hvm wh_7 hB1 hz1 hk1 hS => ?_)
        obtain ⟨cn7, In7, Fn7⟩ := u
        obtain ⟨hP1, hD1⟩ := hB1
        rw [ht] at hP1
        have vh_7 : (fun c2 I2 F2 => (∀ k : Nat, k ∉ [] → I2 k = In k) ∧ (((True) ∧ cn = c2 ∧ (va_up Fn 29 (putM ((Fn 29)) 400 v0 (atM ((Fn 29)) 400 v0 + (-v1)))) = F2))) cn7 In7 Fn7 := wh_7
        obtain ⟨hI7_, vh_7⟩ := vh_7
        obtain ⟨h_7, rfl, rfl⟩ := vh_7
        obtain rfl : In = In7 := (funext (fun k => hI7_ k List.not_mem_nil)).symm
        have hP : va_P D vwCl (wX cI (D.1 99) zz g ad cn In (va_up Fn 29 (putM ((Fn 29)) 400 v0 (atM ((Fn 29)) 400 v0 + (-v1))))) H1 := hP1
        have hD : va_D A (wX cI (D.1 99) zz g ad cn In (va_up Fn 29 (putM ((Fn 29)) 400 v0 (atM ((Fn 29)) 400 v0 + (-v1))))) := hD1.weaken (fun _ _ _ h => hFc _ h)
        generalize H1 = H at hP hS ⊢
        refine lv_aload_n hx hb dX11_spill_44 rfl (lvA0 hl) ?_
        refine lv_dup hx hb dX11_spill_45 rfl ?_
        refine gf_RX11_517 S hK hP 0 xo_0 (v := .int (nI (cn 5))) rfl dX11_spill_46 ?_
        refine lv_iconst (v := 1) hx hb dX11_spill_49 kic_1 ?_
        refine lv_iadd hx hb dX11_spill_50 ?_
        refine lv_topi (fun y_8 ey_8 => ?_)
        obtain rfl : y_8 = (nI ((cn 5) + 1)) := ey_8.trans (nI_add (cn 5) 1)
        refine pf_RX11_517 S hK hP hD hS 0 xo_0 (v := .int (nI ((cn 5) + 1))) (Nat.le_of_ble_eq_true rfl) rfl rfl dX11_spill_51 (fun H locs hP hD hS => ?_)
        have hP : va_P D vwCl (wX cI (D.1 99) zz g ad (va_up cn 5 ((cn 5) + 1)) In (va_up Fn 29 (putM ((Fn 29)) 400 v0 (atM ((Fn 29)) 400 v0 + (-v1))))) H := va_P_eq (xsf_0_3) hP
        have hD : va_D A (wX cI (D.1 99) zz g ad (va_up cn 5 ((cn 5) + 1)) In (va_up Fn 29 (putM ((Fn 29)) 400 v0 (atM ((Fn 29)) 400 v0 + (-v1))))) := va_D_eq (xsf_0_3) hD
        refine lv_aload_n hx hb dX11_spill_54 rfl (lvA0 hl) ?_
        refine gf_RX11_517 S hK hP 0 xo_0 (v := .int (nI ((cn 5) + 1))) rfl dX11_spill_55 ?_
        exact W.iret (v := (nI ((cn 5) + 1))) hx hb hr (fun t ht hW => ⟨⟨(nI ((cn 5) + 1)), ((va_up cn 5 ((cn 5) + 1)), In, (va_up Fn 29 (putM ((Fn 29)) 400 v0 (atM ((Fn 29)) 400 v0 + (-v1))))), rfl, ⟨(show Fr [5] [] [29] cn In Fn (va_up cn 5 ((cn 5) + 1)) In (va_up Fn 29 (putM ((Fn 29)) 400 v0 (atM ((Fn 29)) 400 v0 + (-v1)))) from Fr.mo (Fr.f 29 (Fr.c 5 (Fr.rf (cn := cn) (In := In) (Fn := Fn)))) (sbl rfl) (sbl rfl) (sbl rfl)).2.1, (Or.inl ⟨rfl, (by first | trivial | (first | omega | (have zz0 := Hid.u hb_cn; omega)) | (simp only [zd0]; (first | omega | (have zz0 := Hid.u hb_cn; omega)))), (by first | rfl | simp only [zd0] | simp only [zd0, zd1]), (by first | rfl | simp only [zd0] | simp only [zd0, zd1])⟩)⟩, by rw [ht]; exact hP, hD⟩, hS.F ht⟩) hS.2.2 dX11_spill_58
      ·
        have tc_5 : (40 : Int) ≤ (nI (cn 5)).toInt := Int32.le_iff_toInt_le.mp (Int32.not_lt.mp c_5)
        refine lv_iconst (v := (-1)) hx hb dX11_spill_32 kic_m1 ?_
        exact W.iret (v := (-1)) hx hb hr (fun t ht hW => ⟨⟨(-1), (cn, In, Fn), rfl, ⟨(show Fr [5] [] [29] cn In Fn cn In Fn from Fr.mo (Fr.rf (cn := cn) (In := In) (Fn := Fn)) (sbl rfl) (sbl rfl) (sbl rfl)).2.1, (Or.inr ⟨rfl, (by first | trivial | (first | omega | (have zz0 := Hid.u hb_cn; omega)) | (simp only [zd0]; (first | omega | (have zz0 := Hid.u hb_cn; omega)))), (by first | rfl | simp only [zd0] | simp only [zd0, zd1]), (by first | rfl | simp only [zd0] | simp only [zd0, zd1])⟩)⟩, by rw [ht]; exact hP, hD⟩, hS.F ht⟩) hS.2.2 dX11_spill_33
    ·
      have h_4 : ¬ (1 ≤ v1.toInt ∧ v1.toInt ≤ 400) := h_4
      refine lv_if_eq (tgt := 32) hx hb dX11_spill_20 rfl (fun _ => ?_) (fun h => absurd h cq_eq_0_0)
      refine lv_iconst (v := (-1)) hx hb dX11_spill_32 kic_m1 ?_
      exact W.iret (v := (-1)) hx hb hr (fun t ht hW => ⟨⟨(-1), (cn, In, Fn), rfl, ⟨(show Fr [5] [] [29] cn In Fn cn In Fn from Fr.mo (Fr.rf (cn := cn) (In := In) (Fn := Fn)) (sbl rfl) (sbl rfl) (sbl rfl)).2.1, (Or.inr ⟨rfl, (by first | trivial | (first | omega | (have zz0 := Hid.u hb_cn; omega)) | (simp only [zd0]; (first | omega | (have zz0 := Hid.u hb_cn; omega)))), (by first | rfl | simp only [zd0] | simp only [zd0, zd1]), (by first | rfl | simp only [zd0] | simp only [zd0, zd1])⟩)⟩, by rw [ht]; exact hP, hD⟩, hS.F ht⟩) hS.2.2 dX11_spill_33
  ·
    have h_2 : ¬ (0 ≤ v0.toInt ∧ v0.toInt ≤ (nI (cn 0)).toInt) := h_2
    refine lv_if_eq (tgt := 32) hx hb dX11_spill_9 rfl (fun _ => ?_) (fun h => absurd h cq_eq_0_0)
    refine lv_iconst (v := (-1)) hx hb dX11_spill_32 kic_m1 ?_
    exact W.iret (v := (-1)) hx hb hr (fun t ht hW => ⟨⟨(-1), (cn, In, Fn), rfl, ⟨(show Fr [5] [] [29] cn In Fn cn In Fn from Fr.mo (Fr.rf (cn := cn) (In := In) (Fn := Fn)) (sbl rfl) (sbl rfl) (sbl rfl)).2.1, (Or.inr ⟨rfl, (by first | trivial | (first | omega | (have zz0 := Hid.u hb_cn; omega)) | (simp only [zd0]; (first | omega | (have zz0 := Hid.u hb_cn; omega)))), (by first | rfl | simp only [zd0] | simp only [zd0, zd1]), (by first | rfl | simp only [zd0] | simp only [zd0, zd1])⟩)⟩, by rw [ht]; exact hP, hD⟩, hS.F ht⟩) hS.2.2 dX11_spill_33
set_option maxRecDepth 100000 in
set_option maxHeartbeats 4000000 in
theorem q_Estreet (l : Launch) (D : va_G) (cI cB cZ : ClassId) (zz qq vv : Nat) (bt : Nat → Int32) (g : Nat → Nat) (ad : Nat → Nat → Nat) (cn : Nat → Nat) (In : Nat → Int32) (Fn : Nat → Nat → Int32) (v0 v1 : Int32) (sz : Nat) (hB : CBX cn) : Met l yX11_street (CWS yX11_street cX11_street 4 (some .boolean)) (RM 4 0 0) (PBx [.ref (g 0), .int v0, .int v1] D cI cB cZ zz qq vv bt (wX cI (D.1 99) zz g ad cn In Fn) sz) (va_Qi (fun (r : Int32) (u : (Nat → Nat) × (Nat → Int32) × (Nat → Nat → Int32)) => (fun r c2 I2 F2 => (∀ k : Nat, k ∉ [] → I2 k = In k) ∧ ((r = 1 ∧ (0 ≤ v0.toInt ∧ v0.toInt < (cn 10 : Int) ∧ 0 ≤ v1.toInt ∧ v1.toInt ≤ 9) ∧ cn = c2 ∧ (va_up Fn 109 (upd (Fn 109) v0.toInt.toNat v1)) = F2) ∨ (r = 0 ∧ (¬ (0 ≤ v0.toInt ∧ v0.toInt < (cn 10 : Int) ∧ 0 ≤ v1.toInt ∧ v1.toInt ≤ 9)) ∧ cn = c2 ∧ Fn = F2))) r u.1 u.2.1 u.2.2) (fun (u : (Nat → Nat) × (Nat → Int32) × (Nat → Nat → Int32)) (t : State) => va_P D vwCl (wX cI (D.1 99) zz g ad u.1 u.2.1 u.2.2) t.heap ∧ va_D (va_A (wX cI (D.1 99) zz g ad cn In Fn) sz) (wX cI (D.1 99) zz g ad u.1 u.2.1 u.2.2)) (va_A (wX cI (D.1 99) zz g ad cn In Fn) sz)) 0 0 (va_A (wX cI (D.1 99) zz g ad cn In Fn) sz) := by
  refine Met.ofW (cc := cX11_street) (maxL := 4) (ret := (some .boolean)) (by decide) rfl ?_
  intro p e s m args below meth c s₁ B hml hv
  obtain ⟨rfl, hsz, hP, hK, hD0, hXS⟩ := hv
  have hx := B.exec
  have hb := B.bytes
  have hr := B.returns
  have hts := atoms_spec (ws := (CWS yX11_street cX11_street 4 (some .boolean))) B.pre
  have hown : s.vm.findClass RX11 = some m.cls := findClass_of_methodNamed B.named
  have hlocks := B.notSynchronized
  have S : SF p m c cX11_street 4 s ([.ref (g 0), .int v0, .int v1]).toArray RX11 := ⟨hx, hb, hml, hown, fun w h => hts w (List.mem_cons_of_mem _ h)⟩
  subst hsz
  have hD := hD0.self (sz := s.heap.size)
  generalize hAe : va_A (wX cI (D.1 99) zz g ad cn In Fn) s.heap.size = A at hD hXS ⊢
  have hA : ∀ q : Nat, s.heap.size ≤ q → A q := fun q h => by rw [← hAe]; exact Or.inr h
  have hS : va_S A s.heap s.heap [] := va_S.rf
  have hl := lv_entry ([.ref (g 0), .int v0, .int v1]) (n := 4) (Nat.le_of_ble_eq_true rfl)
  rw [lg_entry_eq]
  generalize (lg_sl ([.ref (g 0), .int v0, .int v1]) ++ List.replicate (4 - (lg_sl ([.ref (g 0), .int v0, .int v1])).length) Slot.unset).toArray = ls at hl ⊢
  have hl : lv_has ls 4 [(0, .ref (g 0)), (1, .int v0), (2, .int v1)] := hl
  have hb_cn : Hid (CBX cn) := hB
  replace hB : CBXh cn := hB
  refine lv_aload_n hx hb dX11_street_0 rfl (lvA0 hl) ?_
  refine lv_iload_n hx hb dX11_street_1 rfl (lvA1 hl) ?_
  refine va_csq (runV_rxa (As := [.int v0]) (rest := []) S (q_XkitchenAt l D cI cB cZ zz qq vv bt g ad cn In Fn v0 hB) kV_RX11_114 hK hXS hS hP 0 xo_0 rfl rfl ⟨Nat.le_of_ble_eq_true rfl, Nat.le_of_ble_eq_true rfl⟩ ⟨Nat.le_of_ble_eq_true rfl, Nat.le_of_ble_eq_true rfl⟩ rfl hl.1 rfl (Nat.le_of_ble_eq_true rfl) dX11_street_2) (fun r_1 h_2 => ?_)
  rcases h_2 with ⟨mr_1, er_1, hr_1, rfl⟩ | ⟨hr_1, rfl⟩
  ·
    refine lv_astore_n (lv' := [(3, .ref (ad 10 mr_1)), (0, .ref (g 0)), (1, .int v0), (2, .int v1)]) hx hb dX11_street_5 rfl hl (ltb rfl) rfl (fun ls hl => ?_)
    refine lv_aload_n hx hb dX11_street_6 rfl (lvA0 hl) ?_
    refine lv_ifnull hx hb dX11_street_7 ?_
    refine lv_iload_n hx hb dX11_street_10 rfl (lvA3 hl) ?_
    refine lv_iconst (v := 0) hx hb dX11_street_11 kic_0 ?_
    refine lv_bipush (v := 9) hx hb dX11_street_12 kbc_9 ?_
    refine vp_callSi (runS_r (As := [.int v1, .int 0, .int 9]) (rest := []) S (q_l_within l D cI cB cZ v1 0 9) kS_RX11_80 hK hP [] rfl ⟨Nat.le_of_ble_eq_true rfl, Nat.le_of_ble_eq_true rfl⟩ ⟨Nat.le_of_ble_eq_true rfl, Nat.le_of_ble_eq_true rfl⟩ rfl hl.1 rfl (Nat.le_of_ble_eq_true rfl) dX11_street_14) (fun r_3 h_4 => ?_)
    rcases h_4 with ⟨rfl, h_4⟩ | ⟨rfl, h_4⟩
    ·
      have h_4 : 0 ≤ v1.toInt ∧ v1.toInt ≤ 9 := h_4
      refine lv_if_ne (tgt := 22) hx hb dX11_street_17 rfl (fun _ => ?_) (fun h => absurd h cq_eq_1_0)
      have zd0 : v0.toInt.toNat = mr_1 := by (first | omega | (have zz0 := Hid.u hb_cn; omega))
      refine lv_aload_n hx hb dX11_street_22 rfl (lvA0 hl) ?_
      refine lv_iload_n hx hb dX11_street_23 rfl (lvA3 hl) ?_
      have kf_1 : mr_1 < cn 10 := by (first | omega | (have zz0 := Hid.u hb_cn; omega))
      refine pf_RX11_260 S hK hP hD hS _ (xf_0 kf_1) (v := .int v1) (Nat.le_of_ble_eq_true rfl) rfl rfl dX11_street_24 (fun H locs hP hD hS => ?_)
      have hP : va_P D vwCl (wX cI (D.1 99) zz g ad cn In (va_up Fn 109 (upd (Fn 109) mr_1 v1))) H := va_P_eq (xs_109 (by (first | omega | (have zz0 := Hid.u hb_cn; omega)))) hP
      have hD : va_D A (wX cI (D.1 99) zz g ad cn In (va_up Fn 109 (upd (Fn 109) mr_1 v1))) := va_D_eq (xs_109 (by (first | omega | (have zz0 := Hid.u hb_cn; omega)))) hD
      refine lv_iconst (v := 1) hx hb dX11_street_27 kic_1 ?_
      exact W.zret (v := 1) hx hb hr rfl (fun t ht hW => ⟨⟨1, (cn, In, (va_up Fn 109 (upd (Fn 109) mr_1 v1))), rfl, ⟨(show Fr [] [] [109] cn In Fn cn In (va_up Fn 109 (upd (Fn 109) mr_1 v1)) from Fr.mo (Fr.f 109 (Fr.rf (cn := cn) (In := In) (Fn := Fn))) (sbl rfl) (sbl rfl) (sbl rfl)).2.1, (Or.inl ⟨rfl, (by first | trivial | (first | omega | (have zz0 := Hid.u hb_cn; omega)) | (simp only [zd0]; (first | omega | (have zz0 := Hid.u hb_cn; omega)))), (by first | rfl | simp only [zd0] | simp only [zd0, zd1]), (by first | rfl | simp only [zd0] | simp only [zd0, zd1])⟩)⟩, by rw [ht]; exact hP, hD⟩, hS.F ht⟩) hS.2.2 dX11_street_28
    ·
      have h_4 : ¬ (0 ≤ v1.toInt ∧ v1.toInt ≤ 9) := h_4
      refine lv_if_ne (tgt := 22) hx hb dX11_street_17 rfl (fun h => absurd h cq_eq_0_0) (fun _ => ?_)
      refine lv_iconst (v := 0) hx hb dX11_street_20 kic_0 ?_
      exact W.zret (v := 0) hx hb hr rfl (fun t ht hW => ⟨⟨0, (cn, In, Fn), rfl, ⟨(show Fr [] [] [109] cn In Fn cn In Fn from Fr.mo (Fr.rf (cn := cn) (In := In) (Fn := Fn)) (sbl rfl) (sbl rfl) (sbl rfl)).2.1, (Or.inr ⟨rfl, (by first | trivial | (first | omega | (have zz0 := Hid.u hb_cn; omega)) | (simp only [zd0]; (first | omega | (have zz0 := Hid.u hb_cn; omega)))), (by first | rfl | simp only [zd0] | simp only [zd0, zd1]), (by first | rfl | simp only [zd0] | simp only [zd0, zd1])⟩)⟩, by rw [ht]; exact hP, hD⟩, hS.F ht⟩) hS.2.2 dX11_street_21
  ·
    refine lv_astore_nN (lv' := [(3, .null), (0, .ref (g 0)), (1, .int v0), (2, .int v1)]) hx hb dX11_street_5 rfl hl (ltb rfl) rfl (fun ls hl => ?_)
    refine lv_aload_nN hx hb dX11_street_6 rfl (lvA0 hl) ?_
    refine lv_ifnullN (tgt := 20) hx hb dX11_street_7 rfl ?_
    refine lv_iconst (v := 0) hx hb dX11_street_20 kic_0 ?_
    exact W.zret (v := 0) hx hb hr rfl (fun t ht hW => ⟨⟨0, (cn, In, Fn), rfl, ⟨(show Fr [] [] [109] cn In Fn cn In Fn from Fr.mo (Fr.rf (cn := cn) (In := In) (Fn := Fn)) (sbl rfl) (sbl rfl) (sbl rfl)).2.1, (Or.inr ⟨rfl, (by first | trivial | (first | omega | (have zz0 := Hid.u hb_cn; omega)) | (simp only [zd0]; (first | omega | (have zz0 := Hid.u hb_cn; omega)))), (by first | rfl | simp only [zd0] | simp only [zd0, zd1]), (by first | rfl | simp only [zd0] | simp only [zd0, zd1])⟩)⟩, by rw [ht]; exact hP, hD⟩, hS.F ht⟩) hS.2.2 dX11_street_21
set_option maxRecDepth 100000 in
set_option maxHeartbeats 4000000 in
theorem q_Eoffers (l : Launch) (D : va_G) (cI cB cZ : ClassId) (zz qq vv : Nat) (bt : Nat → Int32) (g : Nat → Nat) (ad : Nat → Nat → Nat) (cn : Nat → Nat) (In : Nat → Int32) (Fn : Nat → Nat → Int32) (v0 v1 v2 : Int32) (sz : Nat) (hB : CBX cn) : Met l yX11_offers (CWS yX11_offers cX11_offers 5 (some .boolean)) (RM 4 0 0) (PBx [.ref (g 0), .int v0, .int v1, .int v2] D cI cB cZ zz qq vv bt (wX cI (D.1 99) zz g ad cn In Fn) sz) (va_Qi (fun (r : Int32) (u : (Nat → Nat) × (Nat → Int32) × (Nat → Nat → Int32)) => (fun r c2 I2 F2 => (∀ k : Nat, k ∉ [] → I2 k = In k) ∧ ((r = 1 ∧ (0 ≤ v0.toInt ∧ v0.toInt < (cn 10 : Int) ∧ 0 ≤ v1.toInt ∧ v1.toInt ≤ 200 ∧ 0 ≤ v2.toInt ∧ v2.toInt ≤ 200) ∧ cn = c2 ∧ (va_up (va_up Fn 107 (upd (Fn 107) v0.toInt.toNat v1)) 108 (upd (Fn 108) v0.toInt.toNat v2)) = F2) ∨ (r = 0 ∧ (¬ (0 ≤ v0.toInt ∧ v0.toInt < (cn 10 : Int) ∧ 0 ≤ v1.toInt ∧ v1.toInt ≤ 200 ∧ 0 ≤ v2.toInt ∧ v2.toInt ≤ 200)) ∧ cn = c2 ∧ Fn = F2))) r u.1 u.2.1 u.2.2) (fun (u : (Nat → Nat) × (Nat → Int32) × (Nat → Nat → Int32)) (t : State) => va_P D vwCl (wX cI (D.1 99) zz g ad u.1 u.2.1 u.2.2) t.heap ∧ va_D (va_A (wX cI (D.1 99) zz g ad cn In Fn) sz) (wX cI (D.1 99) zz g ad u.1 u.2.1 u.2.2)) (va_A (wX cI (D.1 99) zz g ad cn In Fn) sz)) 0 0 (va_A (wX cI (D.1 99) zz g ad cn In Fn) sz) := by
  refine Met.ofW (cc := cX11_offers) (maxL := 5) (ret := (some .boolean)) (by decide) rfl ?_
  intro p e s m args below meth c s₁ B hml hv
  obtain ⟨rfl, hsz, hP, hK, hD0, hXS⟩ := hv
  have hx := B.exec
  have hb := B.bytes
  have hr := B.returns
  have hts := atoms_spec (ws := (CWS yX11_offers cX11_offers 5 (some .boolean))) B.pre
  have hown : s.vm.findClass RX11 = some m.cls := findClass_of_methodNamed B.named
  have hlocks := B.notSynchronized
  have S : SF p m c cX11_offers 5 s ([.ref (g 0), .int v0, .int v1, .int v2]).toArray RX11 := ⟨hx, hb, hml, hown, fun w h => hts w (List.mem_cons_of_mem _ h)⟩
  subst hsz
  have hD := hD0.self (sz := s.heap.size)
  generalize hAe : va_A (wX cI (D.1 99) zz g ad cn In Fn) s.heap.size = A at hD hXS ⊢
  have hA : ∀ q : Nat, s.heap.size ≤ q → A q := fun q h => by rw [← hAe]; exact Or.inr h
  have hS : va_S A s.heap s.heap [] := va_S.rf
  have hl := lv_entry ([.ref (g 0), .int v0, .int v1, .int v2]) (n := 5) (Nat.le_of_ble_eq_true rfl)
  rw [lg_entry_eq]
  generalize (lg_sl ([.ref (g 0), .int v0, .int v1, .int v2]) ++ List.replicate (5 - (lg_sl ([.ref (g 0), .int v0, .int v1, .int v2])).length) Slot.unset).toArray = ls at hl ⊢
  have hl : lv_has ls 5 [(0, .ref (g 0)), (1, .int v0), (2, .int v1), (3, .int v2)] := hl
  have hb_cn : Hid (CBX cn) := hB
  replace hB : CBXh cn := hB
  refine lv_aload_n hx hb dX11_offers_0 rfl (lvA0 hl) ?_
  refine lv_iload_n hx hb dX11_offers_1 rfl (lvA1 hl) ?_
  refine va_csq (runV_rxa (As := [.int v0]) (rest := []) S (q_XkitchenAt l D cI cB cZ zz qq vv bt g ad cn In Fn v0 hB) kV_RX11_114 hK hXS hS hP 0 xo_0 rfl rfl ⟨Nat.le_of_ble_eq_true rfl, Nat.le_of_ble_eq_true rfl⟩ ⟨Nat.le_of_ble_eq_true rfl, Nat.le_of_ble_eq_true rfl⟩ rfl hl.1 rfl (Nat.le_of_ble_eq_true rfl) dX11_offers_2) (fun r_1 h_2 => ?_)
  rcases h_2 with ⟨mr_1, er_1, hr_1, rfl⟩ | ⟨hr_1, rfl⟩
  ·
    refine lv_astore (lv' := [(4, .ref (ad 10 mr_1)), (0, .ref (g 0)), (1, .int v0), (2, .int v1), (3, .int v2)]) hx hb dX11_offers_5 hl (ltb rfl) rfl (fun ls hl => ?_)
    refine lv_aload hx hb dX11_offers_7 (lvA0 hl) ?_
    refine lv_ifnull hx hb dX11_offers_9 ?_
    refine lv_iload_n hx hb dX11_offers_12 rfl (lvA3 hl) ?_
    refine lv_iconst (v := 0) hx hb dX11_offers_13 kic_0 ?_
    refine lv_sipush (v := 200) hx hb dX11_offers_14 (by decide) ?_
    refine vp_callSi (runS_r (As := [.int v1, .int 0, .int 200]) (rest := []) S (q_l_within l D cI cB cZ v1 0 200) kS_RX11_80 hK hP [] rfl ⟨Nat.le_of_ble_eq_true rfl, Nat.le_of_ble_eq_true rfl⟩ ⟨Nat.le_of_ble_eq_true rfl, Nat.le_of_ble_eq_true rfl⟩ rfl hl.1 rfl (Nat.le_of_ble_eq_true rfl) dX11_offers_17) (fun r_3 h_4 => ?_)
    rcases h_4 with ⟨rfl, h_4⟩ | ⟨rfl, h_4⟩
    ·
      have h_4 : 0 ≤ v1.toInt ∧ v1.toInt ≤ 200 := h_4
      refine lv_if_eq (tgt := 34) hx hb dX11_offers_20 rfl (fun h => absurd h cq_eq_1_0) (fun _ => ?_)
      refine lv_iload_n hx hb dX11_offers_23 rfl (lvA4 hl) ?_
      refine lv_iconst (v := 0) hx hb dX11_offers_24 kic_0 ?_
      refine lv_sipush (v := 200) hx hb dX11_offers_25 (by decide) ?_
      refine vp_callSi (runS_r (As := [.int v2, .int 0, .int 200]) (rest := []) S (q_l_within l D cI cB cZ v2 0 200) kS_RX11_80 hK hP [] rfl ⟨Nat.le_of_ble_eq_true rfl, Nat.le_of_ble_eq_true rfl⟩ ⟨Nat.le_of_ble_eq_true rfl, Nat.le_of_ble_eq_true rfl⟩ rfl hl.1 rfl (Nat.le_of_ble_eq_true rfl) dX11_offers_28) (fun r_5 h_6 => ?_)
      rcases h_6 with ⟨rfl, h_6⟩ | ⟨rfl, h_6⟩
      ·
        have h_6 : 0 ≤ v2.toInt ∧ v2.toInt ≤ 200 := h_6
        refine lv_if_ne (tgt := 36) hx hb dX11_offers_31 rfl (fun _ => ?_) (fun h => absurd h cq_eq_1_0)
        have zd0 : v0.toInt.toNat = mr_1 := by (first | omega | (have zz0 := Hid.u hb_cn; omega))
        refine lv_aload hx hb dX11_offers_36 (lvA0 hl) ?_
        refine lv_iload_n hx hb dX11_offers_38 rfl (lvA3 hl) ?_
        have kf_1 : mr_1 < cn 10 := by (first | omega | (have zz0 := Hid.u hb_cn; omega))
        refine pf_RX11_450 S hK hP hD hS _ (xf_0 kf_1) (v := .int v1) (Nat.le_of_ble_eq_true rfl) rfl rfl dX11_offers_39 (fun H locs hP hD hS => ?_)
        have hP : va_P D vwCl (wX cI (D.1 99) zz g ad cn In (va_up Fn 107 (upd (Fn 107) mr_1 v1))) H := va_P_eq (xs_107 (by (first | omega | (have zz0 := Hid.u hb_cn; omega)))) hP
        have hD : va_D A (wX cI (D.1 99) zz g ad cn In (va_up Fn 107 (upd (Fn 107) mr_1 v1))) := va_D_eq (xs_107 (by (first | omega | (have zz0 := Hid.u hb_cn; omega)))) hD
        refine lv_aload hx hb dX11_offers_42 (lvA0 hl) ?_
        refine lv_iload_n hx hb dX11_offers_44 rfl (lvA4 hl) ?_
        refine pf_RX11_453 S hK hP hD hS _ (xf_0 kf_1) (v := .int v2) (Nat.le_of_ble_eq_true rfl) rfl rfl dX11_offers_45 (fun H locs hP hD hS => ?_)
        have hP : va_P D vwCl (wX cI (D.1 99) zz g ad cn In (va_up (va_up Fn 107 (upd (Fn 107) mr_1 v1)) 108 (upd (Fn 108) mr_1 v2))) H := va_P_eq (xs_108 (by (first | omega | (have zz0 := Hid.u hb_cn; omega)))) hP
        have hD : va_D A (wX cI (D.1 99) zz g ad cn In (va_up (va_up Fn 107 (upd (Fn 107) mr_1 v1)) 108 (upd (Fn 108) mr_1 v2))) := va_D_eq (xs_108 (by (first | omega | (have zz0 := Hid.u hb_cn; omega)))) hD
        refine lv_iconst (v := 1) hx hb dX11_offers_48 kic_1 ?_
        exact W.zret (v := 1) hx hb hr rfl (fun t ht hW => ⟨⟨1, (cn, In, (va_up (va_up Fn 107 (upd (Fn 107) mr_1 v1)) 108 (upd (Fn 108) mr_1 v2))), rfl, ⟨(show Fr [] [] [107, 108] cn In Fn cn In (va_up (va_up Fn 107 (upd (Fn 107) mr_1 v1)) 108 (upd (Fn 108) mr_1 v2)) from Fr.mo (Fr.f 108 (Fr.f 107 (Fr.rf (cn := cn) (In := In) (Fn := Fn)))) (sbl rfl) (sbl rfl) (sbl rfl)).2.1, (Or.inl ⟨rfl, (by first | trivial | (first | omega | (have zz0 := Hid.u hb_cn; omega)) | (simp only [zd0]; (first | omega | (have zz0 := Hid.u hb_cn; omega)))), (by first | rfl | simp only [zd0] | simp only [zd0, zd1]), (by first | rfl | simp only [zd0] | simp only [zd0, zd1])⟩)⟩, by rw [ht]; exact hP, hD⟩, hS.F ht⟩) hS.2.2 dX11_offers_49
      ·
        have h_6 : ¬ (0 ≤ v2.toInt ∧ v2.toInt ≤ 200) := h_6
        refine lv_if_ne (tgt := 36) hx hb dX11_offers_31 rfl (fun h => absurd h cq_eq_0_0) (fun _ => ?_)
        refine lv_iconst (v := 0) hx hb dX11_offers_34 kic_0 ?_
        exact W.zret (v := 0) hx hb hr rfl (fun t ht hW => ⟨⟨0, (cn, In, Fn), rfl, ⟨(show Fr [] [] [107, 108] cn In Fn cn In Fn from Fr.mo (Fr.rf (cn := cn) (In := In) (Fn := Fn)) (sbl rfl) (sbl rfl) (sbl rfl)).2.1, (Or.inr ⟨rfl, (by first | trivial | (first | omega | (have zz0 := Hid.u hb_cn; omega)) | (simp only [zd0]; (first | omega | (have zz0 := Hid.u hb_cn; omega)))), (by first | rfl | simp only [zd0] | simp only [zd0, zd1]), (by first | rfl | simp only [zd0] | simp only [zd0, zd1])⟩)⟩, by rw [ht]; exact hP, hD⟩, hS.F ht⟩) hS.2.2 dX11_offers_35
    ·
      have h_4 : ¬ (0 ≤ v1.toInt ∧ v1.toInt ≤ 200) := h_4
      refine lv_if_eq (tgt := 34) hx hb dX11_offers_20 rfl (fun _ => ?_) (fun h => absurd h cq_eq_0_0)
      refine lv_iconst (v := 0) hx hb dX11_offers_34 kic_0 ?_
      exact W.zret (v := 0) hx hb hr rfl (fun t ht hW => ⟨⟨0, (cn, In, Fn), rfl, ⟨(show Fr [] [] [107, 108] cn In Fn cn In Fn from Fr.mo (Fr.rf (cn := cn) (In := In) (Fn := Fn)) (sbl rfl) (sbl rfl) (sbl rfl)).2.1, (Or.inr ⟨rfl, (by first | trivial | (first | omega | (have zz0 := Hid.u hb_cn; omega)) | (simp only [zd0]; (first | omega | (have zz0 := Hid.u hb_cn; omega)))), (by first | rfl | simp only [zd0] | simp only [zd0, zd1]), (by first | rfl | simp only [zd0] | simp only [zd0, zd1])⟩)⟩, by rw [ht]; exact hP, hD⟩, hS.F ht⟩) hS.2.2 dX11_offers_35
  ·
    refine lv_astoreN (lv' := [(4, .null), (0, .ref (g 0)), (1, .int v0), (2, .int v1), (3, .int v2)]) hx hb dX11_offers_5 hl (ltb rfl) rfl (fun ls hl => ?_)
    refine lv_aloadN hx hb dX11_offers_7 (lvA0 hl) ?_
    refine lv_ifnullN (tgt := 34) hx hb dX11_offers_9 rfl ?_
    refine lv_iconst (v := 0) hx hb dX11_offers_34 kic_0 ?_
    exact W.zret (v := 0) hx hb hr rfl (fun t ht hW => ⟨⟨0, (cn, In, Fn), rfl, ⟨(show Fr [] [] [107, 108] cn In Fn cn In Fn from Fr.mo (Fr.rf (cn := cn) (In := In) (Fn := Fn)) (sbl rfl) (sbl rfl) (sbl rfl)).2.1, (Or.inr ⟨rfl, (by first | trivial | (first | omega | (have zz0 := Hid.u hb_cn; omega)) | (simp only [zd0]; (first | omega | (have zz0 := Hid.u hb_cn; omega)))), (by first | rfl | simp only [zd0] | simp only [zd0, zd1]), (by first | rfl | simp only [zd0] | simp only [zd0, zd1])⟩)⟩, by rw [ht]; exact hP, hD⟩, hS.F ht⟩) hS.2.2 dX11_offers_35
