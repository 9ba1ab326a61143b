/-- what n hours from k on hold -/
def sv (f : Nat → Int32) (k : Nat) : Nat → Int32
  | 0 => 0
  | n + 1 => sv f k n + f ((k + n) % 24)
/-- the first of the hours that hold most; v: 0 asks for the hour, else for what it holds -/
def LCK (f : Nat → Int32) (n : Nat) (v r : Int32) : Prop := ∃ h : Nat, h < 24 ∧ (∀ j : Nat, j < 24 → (sv f j n).toInt ≤ (sv f h n).toInt) ∧ (∀ j : Nat, j < h → (sv f j n).toInt < (sv f h n).toInt) ∧ ((v.toInt = 0 ∧ r = nI h) ∨ (v.toInt ≠ 0 ∧ r = sv f h n))
theorem LCK.un {f : Nat → Int32} {n : Nat} {v r r2 : Int32} (a : LCK f n v r) (b : LCK f n v r2) : r = r2 := by
  obtain ⟨h, h1, h2, h3, h4⟩ := a
  obtain ⟨k, k1, k2, k3, k4⟩ := b
  have e : h = k := by
    rcases Nat.lt_trichotomy h k with q | q | q
    · have := k3 h q; have := h2 k k1; omega
    · exact q
    · have := h3 k q; have := k2 h h1; omega
  subst e
  rcases h4 with ⟨a1, a2⟩ | ⟨a1, a2⟩ <;> rcases k4 with ⟨b1, b2⟩ | ⟨b1, b2⟩
  · rw [a2, b2]
  · exact absurd a1 b1
  · exact absurd b1 a1
  · rw [a2, b2]



set_option maxRecDepth 100000 in
set_option maxHeartbeats 4000000 in
theorem q_Esaved (l : Launch) (D : va_G) (cI cB cZ : ClassId) (zz qq vv : Nat) (bt : Nat → Int32) (g : Nat → Nat) (ad : Nat → Nat → Nat) (cn : Nat → Nat) (In : Nat → Int32) (Fn : Nat → Nat → Int32) (k n0 : Nat) (hB : CBX cn) (hk : k < 24) (hn : n0 ≤ 12) : Met l yX11_savedFrom (CWS yX11_savedFrom cX11_savedFrom 5 (some .int)) (RM 1 0 0) (PBrx [.ref (g 0), .int (nI k), .int (nI n0)] D cI cB cZ zz qq vv bt (wX cI (D.1 99) zz g ad cn In Fn)) (vp_Si (fun r => r = sv (Fn 21) k n0)) 0 0 (fun _ => False) := by
  refine Met.ofW (cc := cX11_savedFrom) (maxL := 5) (ret := (some .int)) (by decide) rfl ?_
  intro p e s m args below meth c s₁ B hml hv
  obtain ⟨rfl, hP, hK, hXS⟩ := hv
  have hS : va_S (fun _ => False) s.heap s.heap [] := va_S.rf
  have hx := B.exec
  have hb := B.bytes
  have hr := B.returns
  have hts := atoms_spec (ws := (CWS yX11_savedFrom cX11_savedFrom 5 (some .int))) B.pre
  have hown : s.vm.findClass RX11 = some m.cls := findClass_of_methodNamed B.named
  have hlocks := B.notSynchronized
  have S : SF p m c cX11_savedFrom 5 s ([.ref (g 0), .int (nI k), .int (nI n0)]).toArray RX11 := ⟨hx, hb, hml, hown, fun w h => hts w (List.mem_cons_of_mem _ h)⟩
  have hl := lv_entry ([.ref (g 0), .int (nI k), .int (nI n0)]) (n := 5) (Nat.le_of_ble_eq_true rfl)
  rw [lg_entry_eq]
  generalize (lg_sl ([.ref (g 0), .int (nI k), .int (nI n0)]) ++ List.replicate (5 - (lg_sl ([.ref (g 0), .int (nI k), .int (nI n0)])).length) Slot.unset).toArray = ls at hl ⊢
  have hl : lv_has ls 5 [(0, .ref (g 0)), (1, .int (nI k)), (2, .int (nI n0))] := hl
  have hb_cn : Hid (CBX cn) := hB
  replace hB : CBXh cn := hB
  refine lv_iconst (v := 0) hx hb dX11_savedFrom_0 kic_0 ?_
  refine lv_istore_n (lv' := [(3, .int 0), (0, .ref (g 0)), (1, .int (nI k)), (2, .int (nI n0))]) hx hb dX11_savedFrom_1 rfl hl (ltb rfl) rfl (fun ls hl => ?_)
  refine lv_iconst (v := 0) hx hb dX11_savedFrom_2 kic_0 ?_
  refine lv_istore (lv' := [(4, .int 0), (3, .int 0), (0, .ref (g 0)), (1, .int (nI k)), (2, .int (nI n0))]) hx hb dX11_savedFrom_3 hl (ltb rfl) rfl (fun ls hl => ?_)
  have lp_5 : ∀ (n : Nat) (i5 : Nat) (x5_3 : Int32) , n0 - i5 < n → (i5 ≤ n0 ∧ (x5_3 = sv (Fn 21) k i5)) → ∀ ls : Array Slot, lv_has ls 5 [(4, .int (nI i5)), (3, .int x5_3), (0, .ref (g 0)), (1, .int (nI k)), (2, .int (nI n0))] → W p l e (RM 1 0 0) s m ([.ref (g 0), .int (nI k), .int (nI n0)]).toArray below meth c s.heap [] 0 0 (MQ below (vp_Si (fun r => r = sv (Fn 21) k n0)) ([.ref (g 0), .int (nI k), .int (nI n0)]).toArray s 0 0 (fun _ => False)) (F0 m 5 ls []) := by
    intro n5
    induction n5 with
    | zero => intros; (first | omega | (have zz0 := Hid.u hb_cn; omega))
    | succ n5 ih5 =>
      intro i5 x5_3 hmu5 hinv5 ls hl
      obtain ⟨hr5, hx5_0⟩ := hinv5
      have ti5 : (nI i5).toInt = (i5 : Int) := nI_toInt (by (first | omega | (have zz0 := Hid.u hb_cn; omega)))
      refine lv_iload hx hb dX11_savedFrom_5 (lv_at hl 0 rfl) ?_
      refine lv_iload_n hx hb dX11_savedFrom_7 rfl (lv_at hl 4 rfl) ?_
      have : (nI n0).toInt = ((n0 : Nat) : Int) := nI_toInt (by (first | omega | (have zz0 := Hid.u hb_cn; omega)))
      refine lv_icmp_ge (tgt := 37) hx hb dX11_savedFrom_8 rfl (fun c_1 => ?_) (fun c_1 => ?_)
      ·
        have tc_1 : ((nI n0).toInt : Int) ≤ (nI i5).toInt := Int32.le_iff_toInt_le.mp c_1
        refine lv_iload_n hx hb dX11_savedFrom_37 rfl (lv_at hl 1 rfl) ?_
        exact W.iret (v := x5_3) hx hb hr (fun t ht hW => ⟨x5_3, rfl, (by have e9 : i5 = n0 := (by (first | omega | (have zz0 := Hid.u hb_cn; omega))); rw [← e9]; exact hx5_0), ht⟩) (fun _ h => absurd h List.not_mem_nil) dX11_savedFrom_38
      ·
        have tc_1 : ((nI i5).toInt : Int) < (nI n0).toInt := Int32.lt_iff_toInt_lt.mp (Int32.not_le.mp c_1)
        refine lv_iload_n hx hb dX11_savedFrom_11 rfl (lv_at hl 1 rfl) ?_
        refine lv_aload_n hx hb dX11_savedFrom_12 rfl (lv_at hl 2 rfl) ?_
        refine gf_RX11_47 S hK hP 0 xo_0 (v := .ref (g 8)) rfl dX11_savedFrom_13 ?_
        refine gf_RX11_467 S hK hP 6 xo_6 (v := .ref (g 21)) rfl dX11_savedFrom_16 ?_
        refine lv_iload_n hx hb dX11_savedFrom_19 rfl (lv_at hl 3 rfl) ?_
        refine lv_iload hx hb dX11_savedFrom_20 (lv_at hl 0 rfl) ?_
        refine lv_iadd hx hb dX11_savedFrom_22 ?_
        refine lv_topi (fun y_2 ey_2 => ?_)
        obtain rfl : y_2 = (nI (k + i5)) := ey_2.trans (nI_add k i5)
        refine lv_bipush (v := 24) hx hb dX11_savedFrom_23 kbc_24 ?_
        refine lv_irem hx hb dX11_savedFrom_25 (by decide) ?_
        refine lv_topi (fun y_3 ey_3 => ?_)
        obtain rfl : y_3 = (nI ((k + i5) % 24)) := ey_3.trans (nI_rem (by (first | omega | (have zz0 := Hid.u hb_cn; omega))) (by decide))
        refine vp_callSi (runS_r (As := [.ref (g 21), .int (nI ((k + i5) % 24))]) (rest := [.int x5_3]) S (q_l_at l D cI cB cZ (g 21) 24 (Fn 21) (nI ((k + i5) % 24)) (by (first | omega | (have zz0 := Hid.u hb_cn; omega)))) kS_RX11_192 hK hP [8] (one_is xo_8) ⟨Nat.le_of_ble_eq_true rfl, Nat.le_of_ble_eq_true rfl⟩ ⟨Nat.le_of_ble_eq_true rfl, Nat.le_of_ble_eq_true rfl⟩ rfl hl.1 rfl (Nat.le_of_ble_eq_true rfl) dX11_savedFrom_26) (fun r_4 h_5 => ?_)
        subst h_5
        refine lv_iadd hx hb dX11_savedFrom_29 ?_
        refine lv_istore_n (lv' := [(3, .int (x5_3 + (atM (Fn 21) 24 (nI ((k + i5) % 24))))), (4, .int (nI i5)), (0, .ref (g 0)), (1, .int (nI k)), (2, .int (nI n0))]) hx hb dX11_savedFrom_30 rfl hl (ltb rfl) rfl (fun ls hl => ?_)
        refine lv_iinc (v := (nI (i5 + 1))) (lv' := [(4, .int (nI (i5 + 1))), (3, .int (x5_3 + (atM (Fn 21) 24 (nI ((k + i5) % 24))))), (0, .ref (g 0)), (1, .int (nI k)), (2, .int (nI n0))]) hx hb dX11_savedFrom_31 hl (k := 1) rfl (nI_1 _) (ltb rfl) rfl (fun ls hl => ?_)
        refine lv_goto (tgt := 5) hx hb dX11_savedFrom_34 rfl ?_
        exact ih5 (i5 + 1) (x5_3 + (atM (Fn 21) 24 (nI ((k + i5) % 24)))) (by (first | omega | (have zz0 := Hid.u hb_cn; omega))) ⟨(by (first | omega | (have zz0 := Hid.u hb_cn; omega))), (by rw [hx5_0, atM_i (by (first | omega | (have zz0 := Hid.u hb_cn; omega))) (by decide)]; rfl)⟩ ls (lv_sub hl [0, 1, 2, 3, 4] rfl)
  exact lp_5 _ 0 0 (Nat.lt_succ_self _) ⟨(by (first | omega | (have zz0 := Hid.u hb_cn; omega))), rfl⟩ ls (lv_sub hl [0, 1, 2, 3, 4] rfl)
set_option maxRecDepth 100000 in
set_option maxHeartbeats 4000000 in
theorem q_saves9 (l : Launch) (D : va_G) (cI cB cZ : ClassId) (g : Nat → Nat) (cn : Nat → Nat) (In : Nat → Int32) (Fn : Nat → Nat → Int32) (k n0 : Nat) (hI : IM cn Fn) (hk : k < 24) (hn : n0 ≤ 12) : Met l yX12_saves (CWS yX12_saves cX12_saves 5 (some .int)) (RM 0 0 0) (PBr [.ref (g 100), .int (nI k), .int (nI n0)] D cI cB cZ (wM cI cB cZ g cn In Fn)) (vp_Si (fun r => r = sv (Fn 86) k n0)) 0 0 (fun _ => False) := by
  refine Met.ofW (cc := cX12_saves) (maxL := 5) (ret := (some .int)) (by decide) rfl ?_
  intro p e s m args below meth c s₁ B hml hv
  obtain ⟨rfl, hP, hK⟩ := hv
  have hx := B.exec
  have hb := B.bytes
  have hr := B.returns
  have hts := atoms_spec (ws := (CWS yX12_saves cX12_saves 5 (some .int))) B.pre
  have hown : s.vm.findClass RX12 = some m.cls := findClass_of_methodNamed B.named
  have hlocks := B.notSynchronized
  have S : SF p m c cX12_saves 5 s ([.ref (g 100), .int (nI k), .int (nI n0)]).toArray RX12 := ⟨hx, hb, hml, hown, fun w h => hts w (List.mem_cons_of_mem _ h)⟩
  have hl := lv_entry ([.ref (g 100), .int (nI k), .int (nI n0)]) (n := 5) (Nat.le_of_ble_eq_true rfl)
  rw [lg_entry_eq]
  generalize (lg_sl ([.ref (g 100), .int (nI k), .int (nI n0)]) ++ List.replicate (5 - (lg_sl ([.ref (g 100), .int (nI k), .int (nI n0)])).length) Slot.unset).toArray = ls at hl ⊢
  have hl : lv_has ls 5 [(0, .ref (g 100)), (1, .int (nI k)), (2, .int (nI n0))] := hl
  have hi_cn : Hid (CB cn) := hI.b
  refine lv_iconst (v := 0) hx hb dX12_saves_0 kic_0 ?_
  refine lv_istore_n (lv' := [(3, .int 0), (0, .ref (g 100)), (1, .int (nI k)), (2, .int (nI n0))]) hx hb dX12_saves_1 rfl hl (ltb rfl) rfl (fun ls hl => ?_)
  refine lv_iconst (v := 0) hx hb dX12_saves_2 kic_0 ?_
  refine lv_istore (lv' := [(4, .int 0), (3, .int 0), (0, .ref (g 100)), (1, .int (nI k)), (2, .int (nI n0))]) hx hb dX12_saves_3 hl (ltb rfl) rfl (fun ls hl => ?_)
  have lp_5 : ∀ (n : Nat) (i5 : Nat) (x5_3 : Int32) , n0 - i5 < n → (i5 ≤ n0 ∧ (x5_3 = sv (Fn 86) k i5)) → ∀ ls : Array Slot, lv_has ls 5 [(4, .int (nI i5)), (3, .int x5_3), (0, .ref (g 100)), (1, .int (nI k)), (2, .int (nI n0))] → W p l e (RM 0 0 0) s m ([.ref (g 100), .int (nI k), .int (nI n0)]).toArray below meth c s.heap [] 0 0 (MQ below (vp_Si (fun r => r = sv (Fn 86) k n0)) ([.ref (g 100), .int (nI k), .int (nI n0)]).toArray s 0 0 (fun _ => False)) (F0 m 5 ls []) := by
    intro n5
    induction n5 with
    | zero => intros; (first | omega | (have zz0 := Hid.u hi_cn; omega))
    | succ n5 ih5 =>
      intro i5 x5_3 hmu5 hinv5 ls hl
      obtain ⟨hr5, hx5_0⟩ := hinv5
      have ti5 : (nI i5).toInt = (i5 : Int) := nI_toInt (by (first | omega | (have zz0 := Hid.u hi_cn; omega)))
      refine lv_iload hx hb dX12_saves_5 (lv_at hl 0 rfl) ?_
      refine lv_iload_n hx hb dX12_saves_7 rfl (lv_at hl 4 rfl) ?_
      have : (nI n0).toInt = ((n0 : Nat) : Int) := nI_toInt (by (first | omega | (have zz0 := Hid.u hi_cn; omega)))
      refine lv_icmp_ge (tgt := 32) hx hb dX12_saves_8 rfl (fun c_1 => ?_) (fun c_1 => ?_)
      ·
        have tc_1 : ((nI n0).toInt : Int) ≤ (nI i5).toInt := Int32.le_iff_toInt_le.mp c_1
        refine lv_iload_n hx hb dX12_saves_32 rfl (lv_at hl 1 rfl) ?_
        exact W.iret (v := x5_3) hx hb hr (fun t ht hW => ⟨x5_3, rfl, (by have e9 : i5 = n0 := (by (first | omega | (have zz0 := Hid.u hi_cn; omega))); rw [← e9]; exact hx5_0), ht⟩) (fun _ h => absurd h List.not_mem_nil) dX12_saves_33
      ·
        have tc_1 : ((nI i5).toInt : Int) < (nI n0).toInt := Int32.lt_iff_toInt_lt.mp (Int32.not_le.mp c_1)
        refine lv_iload_n hx hb dX12_saves_11 rfl (lv_at hl 1 rfl) ?_
        refine lv_aload_n hx hb dX12_saves_12 rfl (lv_at hl 2 rfl) ?_
        refine gM_189 S hK hP (v := .ref (g 86)) rfl dX12_saves_13 ?_
        refine lv_iload_n hx hb dX12_saves_16 rfl (lv_at hl 3 rfl) ?_
        refine lv_iload hx hb dX12_saves_17 (lv_at hl 0 rfl) ?_
        refine lv_iadd hx hb dX12_saves_19 ?_
        refine lv_topi (fun y_2 ey_2 => ?_)
        obtain rfl : y_2 = (nI (k + i5)) := ey_2.trans (nI_add k i5)
        refine lv_bipush (v := 24) hx hb dX12_saves_20 kbc_24 ?_
        refine lv_irem hx hb dX12_saves_22 (by decide) ?_
        refine lv_topi (fun y_3 ey_3 => ?_)
        obtain rfl : y_3 = (nI ((k + i5) % 24)) := ey_3.trans (nI_rem (by (first | omega | (have zz0 := Hid.u hi_cn; omega))) (by decide))
        have kb_1 : ((k + i5) % 24) < 24 := by (first | omega | (have zz0 := Hid.u hi_cn; omega))
        refine ldM_86 hx hb hK hP (x := ((Fn 86) ((k + i5) % 24))) (vp_in_nI kb_1 (ltb rfl)) (nI_clamp (Nat.lt_trans kb_1 (ltb rfl))) rfl dX12_saves_23 ?_
        refine lv_iadd hx hb dX12_saves_24 ?_
        refine lv_istore_n (lv' := [(3, .int (x5_3 + ((Fn 86) ((k + i5) % 24)))), (4, .int (nI i5)), (0, .ref (g 100)), (1, .int (nI k)), (2, .int (nI n0))]) hx hb dX12_saves_25 rfl hl (ltb rfl) rfl (fun ls hl => ?_)
        refine lv_iinc (v := (nI (i5 + 1))) (lv' := [(4, .int (nI (i5 + 1))), (3, .int (x5_3 + ((Fn 86) ((k + i5) % 24)))), (0, .ref (g 100)), (1, .int (nI k)), (2, .int (nI n0))]) hx hb dX12_saves_26 hl (k := 1) rfl (nI_1 _) (ltb rfl) rfl (fun ls hl => ?_)
        refine lv_goto (tgt := 5) hx hb dX12_saves_29 rfl ?_
        exact ih5 (i5 + 1) (x5_3 + ((Fn 86) ((k + i5) % 24))) (by (first | omega | (have zz0 := Hid.u hi_cn; omega))) ⟨(by (first | omega | (have zz0 := Hid.u hi_cn; omega))), (by rw [hx5_0]; rfl)⟩ ls (lv_sub hl [0, 1, 2, 3, 4] rfl)
  exact lp_5 _ 0 0 (Nat.lt_succ_self _) ⟨(by (first | omega | (have zz0 := Hid.u hi_cn; omega))), rfl⟩ ls (lv_sub hl [0, 1, 2, 3, 4] rfl)
set_option maxRecDepth 100000 in
set_option maxHeartbeats 4000000 in
theorem q_Elock (l : Launch) (D : va_G) (cI cB cZ : ClassId) (zz qq vv : Nat) (bt : Nat → Int32) (g : Nat → Nat) (ad : Nat → Nat → Nat) (cn : Nat → Nat) (In : Nat → Int32) (Fn : Nat → Nat → Int32) (v0 v1 : Int32) (hB : CBX cn) : Met l yX11_lock (CWS yX11_lock cX11_lock 7 (some .int)) (RM 2 0 0) (PBrx [.ref (g 0), .int v0, .int v1] D cI cB cZ zz qq vv bt (wX cI (D.1 99) zz g ad cn In Fn)) (vp_Si (fun r => ((1 ≤ v0.toInt ∧ v0.toInt ≤ 12 ∧ 0 ≤ v1.toInt ∧ v1.toInt ≤ 1) ∧ LCK (Fn 21) v0.toInt.toNat v1 r) ∨ (¬ (1 ≤ v0.toInt ∧ v0.toInt ≤ 12 ∧ 0 ≤ v1.toInt ∧ v1.toInt ≤ 1) ∧ r = -1))) 0 0 (fun _ => False) := by
  refine Met.ofW (cc := cX11_lock) (maxL := 7) (ret := (some .int)) (by decide) rfl ?_
  intro p e s m args below meth c s₁ B hml hv
  obtain ⟨rfl, hP, hK, hXS⟩ := hv
  have hS : va_S (fun _ => False) s.heap s.heap [] := va_S.rf
  have hx := B.exec
  have hb := B.bytes
  have hr := B.returns
  have hts := atoms_spec (ws := (CWS yX11_lock cX11_lock 7 (some .int))) B.pre
  have hown : s.vm.findClass RX11 = some m.cls := findClass_of_methodNamed B.named
  have hlocks := B.notSynchronized
  have S : SF p m c cX11_lock 7 s ([.ref (g 0), .int v0, .int v1]).toArray RX11 := ⟨hx, hb, hml, hown, fun w h => hts w (List.mem_cons_of_mem _ h)⟩
  have hl := lv_entry ([.ref (g 0), .int v0, .int v1]) (n := 7) (Nat.le_of_ble_eq_true rfl)
  rw [lg_entry_eq]
  generalize (lg_sl ([.ref (g 0), .int v0, .int v1]) ++ List.replicate (7 - (lg_sl ([.ref (g 0), .int v0, .int v1])).length) Slot.unset).toArray = ls at hl ⊢
  have hl : lv_has ls 7 [(0, .ref (g 0)), (1, .int v0), (2, .int v1)] := hl
  have hb_cn : Hid (CBX cn) := hB
  replace hB : CBXh cn := hB
  refine lv_iload_n hx hb dX11_lock_0 rfl (lv_at hl 1 rfl) ?_
  refine lv_iconst (v := 1) hx hb dX11_lock_1 kic_1 ?_
  refine lv_bipush (v := 12) hx hb dX11_lock_2 kbc_12 ?_
  refine vp_callSi (runS_r (As := [.int v0, .int 1, .int 12]) (rest := []) S (q_l_within l D cI cB cZ v0 1 12) kS_RX11_80 hK hP [] rfl ⟨Nat.le_of_ble_eq_true rfl, Nat.le_of_ble_eq_true rfl⟩ ⟨Nat.le_of_ble_eq_true rfl, Nat.le_of_ble_eq_true rfl⟩ rfl hl.1 rfl (Nat.le_of_ble_eq_true rfl) dX11_lock_4) (fun r_1 h_2 => ?_)
  rcases h_2 with ⟨rfl, h_2⟩ | ⟨rfl, h_2⟩
  ·
    have h_2 : 1 ≤ v0.toInt ∧ v0.toInt ≤ 12 := h_2
    refine lv_if_eq (tgt := 19) hx hb dX11_lock_7 rfl (fun h => absurd h cq_eq_1_0) (fun _ => ?_)
    refine lv_iload_n hx hb dX11_lock_10 rfl (lv_at hl 2 rfl) ?_
    refine lv_iconst (v := 0) hx hb dX11_lock_11 kic_0 ?_
    refine lv_iconst (v := 1) hx hb dX11_lock_12 kic_1 ?_
    refine vp_callSi (runS_r (As := [.int v1, .int 0, .int 1]) (rest := []) S (q_l_within l D cI cB cZ v1 0 1) kS_RX11_80 hK hP [] rfl ⟨Nat.le_of_ble_eq_true rfl, Nat.le_of_ble_eq_true rfl⟩ ⟨Nat.le_of_ble_eq_true rfl, Nat.le_of_ble_eq_true rfl⟩ rfl hl.1 rfl (Nat.le_of_ble_eq_true rfl) dX11_lock_13) (fun r_3 h_4 => ?_)
    rcases h_4 with ⟨rfl, h_4⟩ | ⟨rfl, h_4⟩
    ·
      have h_4 : 0 ≤ v1.toInt ∧ v1.toInt ≤ 1 := h_4
      refine lv_if_ne (tgt := 21) hx hb dX11_lock_16 rfl (fun _ => ?_) (fun h => absurd h cq_eq_1_0)
      obtain ⟨d0, hd0, rfl⟩ := nI_of (x := v0) (fun q => by have := Int32.lt_iff_toInt_lt.mp q; have e : (0 : Int32).toInt = 0 := rfl; (first | omega | (have zz0 := Hid.u hb_cn; omega)))
      have td0 : (nI d0).toInt = (d0 : Int) := nI_toInt hd0
      have zd0 : (nI d0).toInt.toNat = d0 := by (first | omega | (have zz0 := Hid.u hb_cn; omega))
      refine lv_iconst (v := 0) hx hb dX11_lock_21 kic_0 ?_
      refine lv_istore_n (lv' := [(3, .int 0), (0, .ref (g 0)), (1, .int (nI d0)), (2, .int v1)]) hx hb dX11_lock_22 rfl hl (ltb rfl) rfl (fun ls hl => ?_)
      refine lv_aload_n hx hb dX11_lock_23 rfl (lv_at hl 1 rfl) ?_
      refine lv_iconst (v := 0) hx hb dX11_lock_24 kic_0 ?_
      refine lv_iload_n hx hb dX11_lock_25 rfl (lv_at hl 2 rfl) ?_
      refine vp_callSi (runV_rxa (As := [.int 0, .int (nI d0)]) (rest := []) S (q_Esaved l D cI cB cZ zz qq vv bt g ad cn In Fn 0 d0 hB (by (first | omega | (have zz0 := Hid.u hb_cn; omega))) (by (first | omega | (have zz0 := Hid.u hb_cn; omega)))) kV_RX11_470 hK hXS hS hP 0 xo_0 rfl rfl ⟨Nat.le_of_ble_eq_true rfl, Nat.le_of_ble_eq_true rfl⟩ ⟨Nat.le_of_ble_eq_true rfl, Nat.le_of_ble_eq_true rfl⟩ rfl hl.1 rfl (Nat.le_of_ble_eq_true rfl) dX11_lock_26) (fun r_5 h_6 => ?_)
      subst h_6
      refine lv_istore (lv' := [(4, .int ((sv ((Fn 21)) 0 d0))), (3, .int 0), (0, .ref (g 0)), (1, .int (nI d0)), (2, .int v1)]) hx hb dX11_lock_29 hl (ltb rfl) rfl (fun ls hl => ?_)
      refine lv_iconst (v := 1) hx hb dX11_lock_31 kic_1 ?_
      refine lv_istore (lv' := [(5, .int 1), (4, .int ((sv ((Fn 21)) 0 d0))), (3, .int 0), (0, .ref (g 0)), (1, .int (nI d0)), (2, .int v1)]) hx hb dX11_lock_32 hl (ltb rfl) rfl (fun ls hl => ?_)
      have lp_34 : ∀ (n : Nat) (i34 : Nat) (x34_4 : Int32) (b34 : Nat) , 24 - i34 < n → ((1 ≤ i34 ∧ i34 ≤ 24) ∧ (x34_4 = sv (Fn 21) b34 d0) ∧ (b34 < i34) ∧ (∀ j : Nat, j < i34 → (sv (Fn 21) j d0).toInt ≤ (sv (Fn 21) b34 d0).toInt) ∧ (∀ j : Nat, j < b34 → (sv (Fn 21) j d0).toInt < (sv (Fn 21) b34 d0).toInt)) → ∀ ls : Array Slot, lv_has ls 7 [(5, .int (nI i34)), (4, .int x34_4), (3, .int (nI b34)), (0, .ref (g 0)), (1, .int (nI d0)), (2, .int v1)] → W p l e (RM 2 0 0) s m ([.ref (g 0), .int (nI d0), .int v1]).toArray below meth c s.heap [] 0 0 (MQ below (vp_Si (fun r => ((1 ≤ (nI d0).toInt ∧ (nI d0).toInt ≤ 12 ∧ 0 ≤ v1.toInt ∧ v1.toInt ≤ 1) ∧ LCK (Fn 21) (nI d0).toInt.toNat v1 r) ∨ (¬ (1 ≤ (nI d0).toInt ∧ (nI d0).toInt ≤ 12 ∧ 0 ≤ v1.toInt ∧ v1.toInt ≤ 1) ∧ r = -1))) ([.ref (g 0), .int (nI d0), .int v1]).toArray s 0 0 (fun _ => False)) (F0 m 34 ls []) := by
        intro n34
        induction n34 with
        | zero => intros; (first | omega | (have zz0 := Hid.u hb_cn; omega))
        | succ n34 ih34 =>
          intro i34 x34_4 b34 hmu34 hinv34 ls hl
          obtain ⟨hr34, hx34_0, hx34_1, hx34_2, hx34_3⟩ := hinv34
          have ti34 : (nI i34).toInt = (i34 : Int) := nI_toInt (by (first | omega | (have zz0 := Hid.u hb_cn; omega)))
          have tx9 : x34_4.toInt = (sv (Fn 21) b34 d0).toInt := by rw [hx34_0]
          refine lv_iload hx hb dX11_lock_34 (lv_at hl 0 rfl) ?_
          refine lv_bipush (v := 24) hx hb dX11_lock_36 kbc_24 ?_
          refine lv_icmp_ge (tgt := 70) hx hb dX11_lock_38 rfl (fun c_7 => ?_) (fun c_7 => ?_)
          ·
            have tc_7 : (24 : Int) ≤ (nI i34).toInt := Int32.le_iff_toInt_le.mp c_7
            refine lv_iload_n hx hb dX11_lock_70 rfl (lv_at hl 5 rfl) ?_
            refine lv_if_ne (tgt := 78) hx hb dX11_lock_71 rfl (fun c_8 => ?_) (fun c_8 => ?_)
            ·
              have tc_8 : (v1.toInt : Int) ≠ 0 := fun q => c_8 (Int32.toInt_inj.mp q)
              refine lv_iload hx hb dX11_lock_78 (lv_at hl 1 rfl) ?_
              exact W.iret (v := x34_4) hx hb hr (fun t ht hW => ⟨x34_4, rfl, (Or.inl ⟨by (first | omega | (have zz0 := Hid.u hb_cn; omega)), b34, by (first | omega | (have zz0 := Hid.u hb_cn; omega)), fun j h9 => by simp only [zd0]; exact hx34_2 j (by (first | omega | (have zz0 := Hid.u hb_cn; omega))), fun j h9 => by simp only [zd0]; exact hx34_3 j h9, Or.inr ⟨by (first | omega | (have zz0 := Hid.u hb_cn; omega)), by first | (simp only [zd0]; done) | (simp only [zd0]; exact hx34_0)⟩⟩), ht⟩) (fun _ h => absurd h List.not_mem_nil) dX11_lock_80
            ·
              have tc_8 : (v1.toInt : Int) = 0 := congrArg Int32.toInt c_8
              refine lv_iload_n hx hb dX11_lock_74 rfl (lv_at hl 2 rfl) ?_
              refine lv_goto (tgt := 80) hx hb dX11_lock_75 rfl ?_
              exact W.iret (v := (nI b34)) hx hb hr (fun t ht hW => ⟨(nI b34), rfl, (Or.inl ⟨by (first | omega | (have zz0 := Hid.u hb_cn; omega)), b34, by (first | omega | (have zz0 := Hid.u hb_cn; omega)), fun j h9 => by simp only [zd0]; exact hx34_2 j (by (first | omega | (have zz0 := Hid.u hb_cn; omega))), fun j h9 => by simp only [zd0]; exact hx34_3 j h9, Or.inl ⟨by (first | omega | (have zz0 := Hid.u hb_cn; omega)), rfl⟩⟩), ht⟩) (fun _ h => absurd h List.not_mem_nil) dX11_lock_80
          ·
            have tc_7 : ((nI i34).toInt : Int) < 24 := Int32.lt_iff_toInt_lt.mp (Int32.not_le.mp c_7)
            refine lv_aload_n hx hb dX11_lock_41 rfl (lv_at hl 3 rfl) ?_
            refine lv_iload hx hb dX11_lock_42 (lv_at hl 0 rfl) ?_
            refine lv_iload_n hx hb dX11_lock_44 rfl (lv_at hl 4 rfl) ?_
            refine vp_callSi (runV_rxa (As := [.int (nI i34), .int (nI d0)]) (rest := []) S (q_Esaved l D cI cB cZ zz qq vv bt g ad cn In Fn i34 d0 hB (by (first | omega | (have zz0 := Hid.u hb_cn; omega))) (by (first | omega | (have zz0 := Hid.u hb_cn; omega)))) kV_RX11_470 hK hXS hS hP 0 xo_0 rfl rfl ⟨Nat.le_of_ble_eq_true rfl, Nat.le_of_ble_eq_true rfl⟩ ⟨Nat.le_of_ble_eq_true rfl, Nat.le_of_ble_eq_true rfl⟩ rfl hl.1 rfl (Nat.le_of_ble_eq_true rfl) dX11_lock_45) (fun r_9 h_10 => ?_)
            subst h_10
            refine lv_istore (lv' := [(6, .int ((sv ((Fn 21)) i34 d0))), (5, .int (nI i34)), (4, .int x34_4), (3, .int (nI b34)), (0, .ref (g 0)), (1, .int (nI d0)), (2, .int v1)]) hx hb dX11_lock_48 hl (ltb rfl) rfl (fun ls hl => ?_)
            refine lv_iload hx hb dX11_lock_50 (lv_at hl 0 rfl) ?_
            refine lv_iload hx hb dX11_lock_52 (lv_at hl 2 rfl) ?_
            refine lv_icmp_le (tgt := 64) hx hb dX11_lock_54 rfl (fun c_11 => ?_) (fun c_11 => ?_)
            ·
              have tc_11 : (((sv ((Fn 21)) i34 d0)).toInt : Int) ≤ x34_4.toInt := Int32.le_iff_toInt_le.mp c_11
              refine lv_iinc (v := (nI (i34 + 1))) (lv' := [(5, .int (nI (i34 + 1))), (6, .int ((sv ((Fn 21)) i34 d0))), (4, .int x34_4), (3, .int (nI b34)), (0, .ref (g 0)), (1, .int (nI d0)), (2, .int v1)]) hx hb dX11_lock_64 hl (k := 1) rfl (nI_1 _) (ltb rfl) rfl (fun ls hl => ?_)
              refine lv_goto (tgt := 34) hx hb dX11_lock_67 rfl ?_
              exact ih34 (i34 + 1) x34_4 b34 (by (first | omega | (have zz0 := Hid.u hb_cn; omega))) ⟨(by (first | omega | (have zz0 := Hid.u hb_cn; omega))), (by first | rfl | exact hx34_0), (by (first | omega | (have zz0 := Hid.u hb_cn; omega))), (fun j h9 => if q9 : j < i34 then (by have := hx34_2 j q9; (first | omega | (have zz0 := Hid.u hb_cn; omega))) else (by have e9 : j = i34 := (by (first | omega | (have zz0 := Hid.u hb_cn; omega))); subst e9; (first | omega | (have zz0 := Hid.u hb_cn; omega)))), (fun j h9 => by first | exact hx34_3 j h9 | (have := hx34_2 j h9; (first | omega | (have zz0 := Hid.u hb_cn; omega))))⟩ ls (lv_sub hl [0, 2, 3, 4, 5, 6] rfl)
            ·
              have tc_11 : (x34_4.toInt : Int) < ((sv ((Fn 21)) i34 d0)).toInt := Int32.lt_iff_toInt_lt.mp (Int32.not_le.mp c_11)
              refine lv_iload hx hb dX11_lock_57 (lv_at hl 1 rfl) ?_
              refine lv_istore_n (lv' := [(3, .int (nI i34)), (6, .int ((sv ((Fn 21)) i34 d0))), (5, .int (nI i34)), (4, .int x34_4), (0, .ref (g 0)), (1, .int (nI d0)), (2, .int v1)]) hx hb dX11_lock_59 rfl hl (ltb rfl) rfl (fun ls hl => ?_)
              refine lv_iload hx hb dX11_lock_60 (lv_at hl 1 rfl) ?_
              refine lv_istore (lv' := [(4, .int ((sv ((Fn 21)) i34 d0))), (3, .int (nI i34)), (6, .int ((sv ((Fn 21)) i34 d0))), (5, .int (nI i34)), (0, .ref (g 0)), (1, .int (nI d0)), (2, .int v1)]) hx hb dX11_lock_62 hl (ltb rfl) rfl (fun ls hl => ?_)
              refine lv_iinc (v := (nI (i34 + 1))) (lv' := [(5, .int (nI (i34 + 1))), (4, .int ((sv ((Fn 21)) i34 d0))), (3, .int (nI i34)), (6, .int ((sv ((Fn 21)) i34 d0))), (0, .ref (g 0)), (1, .int (nI d0)), (2, .int v1)]) hx hb dX11_lock_64 hl (k := 3) rfl (nI_1 _) (ltb rfl) rfl (fun ls hl => ?_)
              refine lv_goto (tgt := 34) hx hb dX11_lock_67 rfl ?_
              exact ih34 (i34 + 1) ((sv ((Fn 21)) i34 d0)) i34 (by (first | omega | (have zz0 := Hid.u hb_cn; omega))) ⟨(by (first | omega | (have zz0 := Hid.u hb_cn; omega))), (by first | rfl | exact hx34_0), (by (first | omega | (have zz0 := Hid.u hb_cn; omega))), (fun j h9 => if q9 : j < i34 then (by have := hx34_2 j q9; (first | omega | (have zz0 := Hid.u hb_cn; omega))) else (by have e9 : j = i34 := (by (first | omega | (have zz0 := Hid.u hb_cn; omega))); subst e9; (first | omega | (have zz0 := Hid.u hb_cn; omega)))), (fun j h9 => by first | exact hx34_3 j h9 | (have := hx34_2 j h9; (first | omega | (have zz0 := Hid.u hb_cn; omega))))⟩ ls (lv_sub hl [0, 1, 2, 4, 5, 6] rfl)
      exact lp_34 _ 1 ((sv ((Fn 21)) 0 d0)) 0 (Nat.lt_succ_self _) ⟨(by (first | omega | (have zz0 := Hid.u hb_cn; omega))), rfl, (by (first | omega | (have zz0 := Hid.u hb_cn; omega))), (fun j h9 => by have e9 : j = 0 := (by (first | omega | (have zz0 := Hid.u hb_cn; omega))); subst e9; (first | omega | (have zz0 := Hid.u hb_cn; omega))), (fun j h9 => by (first | omega | (have zz0 := Hid.u hb_cn; omega)))⟩ ls (lv_sub hl [0, 1, 2, 3, 4, 5] rfl)
    ·
      have h_4 : ¬ (0 ≤ v1.toInt ∧ v1.toInt ≤ 1) := h_4
      refine lv_if_ne (tgt := 21) hx hb dX11_lock_16 rfl (fun h => absurd h cq_eq_0_0) (fun _ => ?_)
      refine lv_iconst (v := (-1)) hx hb dX11_lock_19 kic_m1 ?_
      exact W.iret (v := (-1)) hx hb hr (fun t ht hW => ⟨(-1), rfl, (Or.inr ⟨by (first | omega | (have zz0 := Hid.u hb_cn; omega)), rfl⟩), ht⟩) (fun _ h => absurd h List.not_mem_nil) dX11_lock_20
  ·
    have h_2 : ¬ (1 ≤ v0.toInt ∧ v0.toInt ≤ 12) := h_2
    refine lv_if_eq (tgt := 19) hx hb dX11_lock_7 rfl (fun _ => ?_) (fun h => absurd h cq_eq_0_0)
    refine lv_iconst (v := (-1)) hx hb dX11_lock_19 kic_m1 ?_
    exact W.iret (v := (-1)) hx hb hr (fun t ht hW => ⟨(-1), rfl, (Or.inr ⟨by (first | omega | (have zz0 := Hid.u hb_cn; omega)), rfl⟩), ht⟩) (fun _ h => absurd h List.not_mem_nil) dX11_lock_20
set_option maxRecDepth 100000 in
set_option maxHeartbeats 4000000 in
theorem q_lock9 (l : Launch) (D : va_G) (cI cB cZ : ClassId) (g : Nat → Nat) (cn : Nat → Nat) (In : Nat → Int32) (Fn : Nat → Nat → Int32) (v0 v1 : Int32) (hI : IM cn Fn) : Met l yX12_lock (CWS yX12_lock cX12_lock 5 (some .int)) (RM 1 0 0) (PBr [.ref (g 100), .int v0, .int v1] D cI cB cZ (wM cI cB cZ g cn In Fn)) (vp_Si (fun r => ((1 ≤ v0.toInt ∧ v0.toInt ≤ 12 ∧ 0 ≤ v1.toInt ∧ v1.toInt ≤ 1) ∧ LCK (Fn 86) v0.toInt.toNat v1 r) ∨ (¬ (1 ≤ v0.toInt ∧ v0.toInt ≤ 12 ∧ 0 ≤ v1.toInt ∧ v1.toInt ≤ 1) ∧ r = -1))) 0 0 (fun _ => False) := by
  refine Met.ofW (cc := cX12_lock) (maxL := 5) (ret := (some .int)) (by decide) rfl ?_
  intro p e s m args below meth c s₁ B hml hv
  obtain ⟨rfl, hP, hK⟩ := hv
  have hx := B.exec
  have hb := B.bytes
  have hr := B.returns
  have hts := atoms_spec (ws := (CWS yX12_lock cX12_lock 5 (some .int))) B.pre
  have hown : s.vm.findClass RX12 = some m.cls := findClass_of_methodNamed B.named
  have hlocks := B.notSynchronized
  have S : SF p m c cX12_lock 5 s ([.ref (g 100), .int v0, .int v1]).toArray RX12 := ⟨hx, hb, hml, hown, fun w h => hts w (List.mem_cons_of_mem _ h)⟩
  have hl := lv_entry ([.ref (g 100), .int v0, .int v1]) (n := 5) (Nat.le_of_ble_eq_true rfl)
  rw [lg_entry_eq]
  generalize (lg_sl ([.ref (g 100), .int v0, .int v1]) ++ List.replicate (5 - (lg_sl ([.ref (g 100), .int v0, .int v1])).length) Slot.unset).toArray = ls at hl ⊢
  have hl : lv_has ls 5 [(0, .ref (g 100)), (1, .int v0), (2, .int v1)] := hl
  have hi_cn : Hid (CB cn) := hI.b
  refine lv_iload_n hx hb dX12_lock_0 rfl (lv_at hl 1 rfl) ?_
  refine lv_iconst (v := 1) hx hb dX12_lock_1 kic_1 ?_
  refine lv_bipush (v := 12) hx hb dX12_lock_2 kbc_12 ?_
  refine vp_callSi (runS_r (As := [.int v0, .int 1, .int 12]) (rest := []) S (q_in l D cI cB cZ v0 1 12 ) kS_RX12_214 hK hP [] rfl ⟨Nat.le_of_ble_eq_true rfl, Nat.le_of_ble_eq_true rfl⟩ ⟨Nat.le_of_ble_eq_true rfl, Nat.le_of_ble_eq_true rfl⟩ rfl hl.1 rfl (Nat.le_of_ble_eq_true rfl) dX12_lock_4) (fun r_1 h_2 => ?_)
  rcases h_2 with ⟨rfl, h_2⟩ | ⟨rfl, h_2⟩
  ·
    have h_2 : 1 ≤ v0.toInt ∧ v0.toInt ≤ 12 := h_2
    refine lv_if_eq (tgt := 19) hx hb dX12_lock_7 rfl (fun h => absurd h cq_eq_1_0) (fun _ => ?_)
    obtain ⟨d0, hd0, rfl⟩ := nI_of (x := v0) (fun q => by have := Int32.lt_iff_toInt_lt.mp q; have e : (0 : Int32).toInt = 0 := rfl; (first | omega | (have zz0 := Hid.u hi_cn; omega)))
    have td0 : (nI d0).toInt = (d0 : Int) := nI_toInt hd0
    have zd0 : (nI d0).toInt.toNat = d0 := by (first | omega | (have zz0 := Hid.u hi_cn; omega))
    refine lv_iload_n hx hb dX12_lock_10 rfl (lv_at hl 2 rfl) ?_
    refine lv_iconst (v := 0) hx hb dX12_lock_11 kic_0 ?_
    refine lv_iconst (v := 1) hx hb dX12_lock_12 kic_1 ?_
    refine vp_callSi (runS_r (As := [.int v1, .int 0, .int 1]) (rest := []) S (q_in l D cI cB cZ v1 0 1 ) kS_RX12_214 hK hP [] rfl ⟨Nat.le_of_ble_eq_true rfl, Nat.le_of_ble_eq_true rfl⟩ ⟨Nat.le_of_ble_eq_true rfl, Nat.le_of_ble_eq_true rfl⟩ rfl hl.1 rfl (Nat.le_of_ble_eq_true rfl) dX12_lock_13) (fun r_3 h_4 => ?_)
    rcases h_4 with ⟨rfl, h_4⟩ | ⟨rfl, h_4⟩
    ·
      have h_4 : 0 ≤ v1.toInt ∧ v1.toInt ≤ 1 := h_4
      refine lv_if_ne (tgt := 21) hx hb dX12_lock_16 rfl (fun _ => ?_) (fun h => absurd h cq_eq_1_0)
      refine lv_iconst (v := 0) hx hb dX12_lock_21 kic_0 ?_
      refine lv_istore_n (lv' := [(3, .int 0), (0, .ref (g 100)), (1, .int (nI d0)), (2, .int v1)]) hx hb dX12_lock_22 rfl hl (ltb rfl) rfl (fun ls hl => ?_)
      refine lv_iconst (v := 1) hx hb dX12_lock_23 kic_1 ?_
      refine lv_istore (lv' := [(4, .int 1), (3, .int 0), (0, .ref (g 100)), (1, .int (nI d0)), (2, .int v1)]) hx hb dX12_lock_24 hl (ltb rfl) rfl (fun ls hl => ?_)
      have lp_26 : ∀ (n : Nat) (i26 : Nat) (b26 : Nat) , 24 - i26 < n → ((1 ≤ i26 ∧ i26 ≤ 24) ∧ (b26 < i26) ∧ (∀ j : Nat, j < i26 → (sv (Fn 86) j d0).toInt ≤ (sv (Fn 86) b26 d0).toInt) ∧ (∀ j : Nat, j < b26 → (sv (Fn 86) j d0).toInt < (sv (Fn 86) b26 d0).toInt)) → ∀ ls : Array Slot, lv_has ls 5 [(4, .int (nI i26)), (3, .int (nI b26)), (0, .ref (g 100)), (1, .int (nI d0)), (2, .int v1)] → W p l e (RM 1 0 0) s m ([.ref (g 100), .int (nI d0), .int v1]).toArray below meth c s.heap [] 0 0 (MQ below (vp_Si (fun r => ((1 ≤ (nI d0).toInt ∧ (nI d0).toInt ≤ 12 ∧ 0 ≤ v1.toInt ∧ v1.toInt ≤ 1) ∧ LCK (Fn 86) (nI d0).toInt.toNat v1 r) ∨ (¬ (1 ≤ (nI d0).toInt ∧ (nI d0).toInt ≤ 12 ∧ 0 ≤ v1.toInt ∧ v1.toInt ≤ 1) ∧ r = -1))) ([.ref (g 100), .int (nI d0), .int v1]).toArray s 0 0 (fun _ => False)) (F0 m 26 ls []) := by
        intro n26
        induction n26 with
        | zero => intros; (first | omega | (have zz0 := Hid.u hi_cn; omega))
        | succ n26 ih26 =>
          intro i26 b26 hmu26 hinv26 ls hl
          obtain ⟨hr26, hx26_0, hx26_1, hx26_2⟩ := hinv26
          have ti26 : (nI i26).toInt = (i26 : Int) := nI_toInt (by (first | omega | (have zz0 := Hid.u hi_cn; omega)))
          refine lv_iload hx hb dX12_lock_26 (lv_at hl 0 rfl) ?_
          refine lv_bipush (v := 24) hx hb dX12_lock_28 kbc_24 ?_
          refine lv_icmp_ge (tgt := 62) hx hb dX12_lock_30 rfl (fun c_5 => ?_) (fun c_5 => ?_)
          ·
            have tc_5 : (24 : Int) ≤ (nI i26).toInt := Int32.le_iff_toInt_le.mp c_5
            refine lv_iload_n hx hb dX12_lock_62 rfl (lv_at hl 4 rfl) ?_
            refine lv_if_ne (tgt := 70) hx hb dX12_lock_63 rfl (fun c_6 => ?_) (fun c_6 => ?_)
            ·
              have tc_6 : (v1.toInt : Int) ≠ 0 := fun q => c_6 (Int32.toInt_inj.mp q)
              refine lv_aload_n hx hb dX12_lock_70 rfl (lv_at hl 2 rfl) ?_
              refine lv_iload_n hx hb dX12_lock_71 rfl (lv_at hl 1 rfl) ?_
              refine lv_iload_n hx hb dX12_lock_72 rfl (lv_at hl 3 rfl) ?_
              refine vp_callSi (runV_ra (As := [.int (nI b26), .int (nI d0)]) (rest := []) S (q_saves9 l D cI cB cZ g cn In Fn b26 d0 hI (by (first | omega | (have zz0 := Hid.u hi_cn; omega))) (by (first | omega | (have zz0 := Hid.u hi_cn; omega)))) kV_RX12_475 hK hP 0 rfl rfl rfl ⟨Nat.le_of_ble_eq_true rfl, Nat.le_of_ble_eq_true rfl⟩ ⟨Nat.le_of_ble_eq_true rfl, Nat.le_of_ble_eq_true rfl⟩ rfl hl.1 rfl (Nat.le_of_ble_eq_true rfl) dX12_lock_73) (fun r_7 h_8 => ?_)
              subst h_8
              exact W.iret (v := ((sv ((Fn 86)) b26 d0))) hx hb hr (fun t ht hW => ⟨((sv ((Fn 86)) b26 d0)), rfl, (Or.inl ⟨by (first | omega | (have zz0 := Hid.u hi_cn; omega)), b26, by (first | omega | (have zz0 := Hid.u hi_cn; omega)), fun j h9 => by simp only [zd0]; exact hx26_1 j (by (first | omega | (have zz0 := Hid.u hi_cn; omega))), fun j h9 => by simp only [zd0]; exact hx26_2 j h9, Or.inr ⟨by (first | omega | (have zz0 := Hid.u hi_cn; omega)), by first | (simp only [zd0]; done) | (simp only [zd0]; exact hx26_0)⟩⟩), ht⟩) (fun _ h => absurd h List.not_mem_nil) dX12_lock_76
            ·
              have tc_6 : (v1.toInt : Int) = 0 := congrArg Int32.toInt c_6
              refine lv_iload_n hx hb dX12_lock_66 rfl (lv_at hl 1 rfl) ?_
              refine lv_goto (tgt := 76) hx hb dX12_lock_67 rfl ?_
              exact W.iret (v := (nI b26)) hx hb hr (fun t ht hW => ⟨(nI b26), rfl, (Or.inl ⟨by (first | omega | (have zz0 := Hid.u hi_cn; omega)), b26, by (first | omega | (have zz0 := Hid.u hi_cn; omega)), fun j h9 => by simp only [zd0]; exact hx26_1 j (by (first | omega | (have zz0 := Hid.u hi_cn; omega))), fun j h9 => by simp only [zd0]; exact hx26_2 j h9, Or.inl ⟨by (first | omega | (have zz0 := Hid.u hi_cn; omega)), rfl⟩⟩), ht⟩) (fun _ h => absurd h List.not_mem_nil) dX12_lock_76
          ·
            have tc_5 : ((nI i26).toInt : Int) < 24 := Int32.lt_iff_toInt_lt.mp (Int32.not_le.mp c_5)
            refine lv_aload_n hx hb dX12_lock_33 rfl (lv_at hl 2 rfl) ?_
            refine lv_iload hx hb dX12_lock_34 (lv_at hl 0 rfl) ?_
            refine lv_iload_n hx hb dX12_lock_36 rfl (lv_at hl 3 rfl) ?_
            refine vp_callSi (runV_ra (As := [.int (nI i26), .int (nI d0)]) (rest := []) S (q_saves9 l D cI cB cZ g cn In Fn i26 d0 hI (by (first | omega | (have zz0 := Hid.u hi_cn; omega))) (by (first | omega | (have zz0 := Hid.u hi_cn; omega)))) kV_RX12_475 hK hP 0 rfl rfl rfl ⟨Nat.le_of_ble_eq_true rfl, Nat.le_of_ble_eq_true rfl⟩ ⟨Nat.le_of_ble_eq_true rfl, Nat.le_of_ble_eq_true rfl⟩ rfl hl.1 rfl (Nat.le_of_ble_eq_true rfl) dX12_lock_37) (fun r_9 h_10 => ?_)
            subst h_10
            refine lv_aload_n hx hb dX12_lock_40 rfl (lv_at hl 2 rfl) ?_
            refine lv_iload_n hx hb dX12_lock_41 rfl (lv_at hl 1 rfl) ?_
            refine lv_iload_n hx hb dX12_lock_42 rfl (lv_at hl 3 rfl) ?_
            refine vp_callSi (runV_ra (As := [.int (nI b26), .int (nI d0)]) (rest := [.int ((sv ((Fn 86)) i26 d0))]) S (q_saves9 l D cI cB cZ g cn In Fn b26 d0 hI (by (first | omega | (have zz0 := Hid.u hi_cn; omega))) (by (first | omega | (have zz0 := Hid.u hi_cn; omega)))) kV_RX12_475 hK hP 0 rfl rfl rfl ⟨Nat.le_of_ble_eq_true rfl, Nat.le_of_ble_eq_true rfl⟩ ⟨Nat.le_of_ble_eq_true rfl, Nat.le_of_ble_eq_true rfl⟩ rfl hl.1 rfl (Nat.le_of_ble_eq_true rfl) dX12_lock_43) (fun r_11 h_12 => ?_)
            subst h_12
            refine lv_icmp_le (tgt := 54) hx hb dX12_lock_46 rfl (fun c_13 => ?_) (fun c_13 => ?_)
            ·
              have tc_13 : (((sv ((Fn 86)) i26 d0)).toInt : Int) ≤ ((sv ((Fn 86)) b26 d0)).toInt := Int32.le_iff_toInt_le.mp c_13
              refine lv_iload_n hx hb dX12_lock_54 rfl (lv_at hl 1 rfl) ?_
              refine lv_istore_n (lv' := [(3, .int (nI b26)), (4, .int (nI i26)), (0, .ref (g 100)), (1, .int (nI d0)), (2, .int v1)]) hx hb dX12_lock_55 rfl hl (ltb rfl) rfl (fun ls hl => ?_)
              refine lv_iinc (v := (nI (i26 + 1))) (lv' := [(4, .int (nI (i26 + 1))), (3, .int (nI b26)), (0, .ref (g 100)), (1, .int (nI d0)), (2, .int v1)]) hx hb dX12_lock_56 hl (k := 1) rfl (nI_1 _) (ltb rfl) rfl (fun ls hl => ?_)
              refine lv_goto (tgt := 26) hx hb dX12_lock_59 rfl ?_
              exact ih26 (i26 + 1) b26 (by (first | omega | (have zz0 := Hid.u hi_cn; omega))) ⟨(by (first | omega | (have zz0 := Hid.u hi_cn; omega))), (by (first | omega | (have zz0 := Hid.u hi_cn; omega))), (fun j h9 => if q9 : j < i26 then (by have := hx26_1 j q9; (first | omega | (have zz0 := Hid.u hi_cn; omega))) else (by have e9 : j = i26 := (by (first | omega | (have zz0 := Hid.u hi_cn; omega))); subst e9; (first | omega | (have zz0 := Hid.u hi_cn; omega)))), (fun j h9 => by first | exact hx26_2 j h9 | (have := hx26_1 j h9; (first | omega | (have zz0 := Hid.u hi_cn; omega))))⟩ ls (lv_sub hl [0, 1, 2, 3, 4] rfl)
            ·
              have tc_13 : (((sv ((Fn 86)) b26 d0)).toInt : Int) < ((sv ((Fn 86)) i26 d0)).toInt := Int32.lt_iff_toInt_lt.mp (Int32.not_le.mp c_13)
              refine lv_iload hx hb dX12_lock_49 (lv_at hl 0 rfl) ?_
              refine lv_goto (tgt := 55) hx hb dX12_lock_51 rfl ?_
              refine lv_istore_n (lv' := [(3, .int (nI i26)), (4, .int (nI i26)), (0, .ref (g 100)), (1, .int (nI d0)), (2, .int v1)]) hx hb dX12_lock_55 rfl hl (ltb rfl) rfl (fun ls hl => ?_)
              refine lv_iinc (v := (nI (i26 + 1))) (lv' := [(4, .int (nI (i26 + 1))), (3, .int (nI i26)), (0, .ref (g 100)), (1, .int (nI d0)), (2, .int v1)]) hx hb dX12_lock_56 hl (k := 1) rfl (nI_1 _) (ltb rfl) rfl (fun ls hl => ?_)
              refine lv_goto (tgt := 26) hx hb dX12_lock_59 rfl ?_
              exact ih26 (i26 + 1) i26 (by (first | omega | (have zz0 := Hid.u hi_cn; omega))) ⟨(by (first | omega | (have zz0 := Hid.u hi_cn; omega))), (by (first | omega | (have zz0 := Hid.u hi_cn; omega))), (fun j h9 => if q9 : j < i26 then (by have := hx26_1 j q9; (first | omega | (have zz0 := Hid.u hi_cn; omega))) else (by have e9 : j = i26 := (by (first | omega | (have zz0 := Hid.u hi_cn; omega))); subst e9; (first | omega | (have zz0 := Hid.u hi_cn; omega)))), (fun j h9 => by first | exact hx26_2 j h9 | (have := hx26_1 j h9; (first | omega | (have zz0 := Hid.u hi_cn; omega))))⟩ ls (lv_sub hl [0, 1, 2, 3, 4] rfl)
      exact lp_26 _ 1 0 (Nat.lt_succ_self _) ⟨(by (first | omega | (have zz0 := Hid.u hi_cn; omega))), (by (first | omega | (have zz0 := Hid.u hi_cn; omega))), (fun j h9 => by have e9 : j = 0 := (by (first | omega | (have zz0 := Hid.u hi_cn; omega))); subst e9; (first | omega | (have zz0 := Hid.u hi_cn; omega))), (fun j h9 => by (first | omega | (have zz0 := Hid.u hi_cn; omega)))⟩ ls (lv_sub hl [0, 1, 2, 3, 4] rfl)
    ·
      have h_4 : ¬ (0 ≤ v1.toInt ∧ v1.toInt ≤ 1) := h_4
      refine lv_if_ne (tgt := 21) hx hb dX12_lock_16 rfl (fun h => absurd h cq_eq_0_0) (fun _ => ?_)
      refine lv_iconst (v := (-1)) hx hb dX12_lock_19 kic_m1 ?_
      exact W.iret (v := (-1)) hx hb hr (fun t ht hW => ⟨(-1), rfl, (Or.inr ⟨by (first | omega | (have zz0 := Hid.u hi_cn; omega)), rfl⟩), ht⟩) (fun _ h => absurd h List.not_mem_nil) dX12_lock_20
  ·
    have h_2 : ¬ (1 ≤ v0.toInt ∧ v0.toInt ≤ 12) := h_2
    refine lv_if_eq (tgt := 19) hx hb dX12_lock_7 rfl (fun _ => ?_) (fun h => absurd h cq_eq_0_0)
    refine lv_iconst (v := (-1)) hx hb dX12_lock_19 kic_m1 ?_
    exact W.iret (v := (-1)) hx hb hr (fun t ht hW => ⟨(-1), rfl, (Or.inr ⟨by (first | omega | (have zz0 := Hid.u hi_cn; omega)), rfl⟩), ht⟩) (fun _ h => absurd h List.not_mem_nil) dX12_lock_20
