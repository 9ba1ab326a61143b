set_option maxRecDepth 100000 in
set_option maxHeartbeats 4000000 in
theorem q_Xchoose (l : Launch) (D : va_G) (cI cB cZ : ClassId) (n0 k0 : Nat) (hn : n0 ≤ 60) (hk : k0 ≤ 60) : Met l yX11_choose (CWS yX11_choose cX11_choose 6 (some .long)) (RM 1 0 0) (PBr [.int (nI n0), .int (nI k0)] D cI cB cZ []) (vp_Sl (fun _ => True)) 0 0 (fun _ => False) := by
  refine Met.ofW (cc := cX11_choose) (maxL := 6) (ret := (some .long)) (by decide) rfl ?_
  intro p e s m args below meth c s₁ B hml hv
  obtain ⟨rfl, hP, hK⟩ := hv
  have hx := B.exec
  have hb := B.bytes
  have hr := B.returns
  have hts := atoms_spec (ws := (CWS yX11_choose cX11_choose 6 (some .long))) B.pre
  have hown : s.vm.findClass RX11 = some m.cls := findClass_of_methodNamed B.named
  have hlocks := B.notSynchronized
  have S : SF p m c cX11_choose 6 s ([.int (nI n0), .int (nI k0)]).toArray RX11 := ⟨hx, hb, hml, hown, fun w h => hts w (List.mem_cons_of_mem _ h)⟩
  have hl := lv_entry ([.int (nI n0), .int (nI k0)]) (n := 6) (Nat.le_of_ble_eq_true rfl)
  rw [lg_entry_eq]
  generalize (lg_sl ([.int (nI n0), .int (nI k0)]) ++ List.replicate (6 - (lg_sl ([.int (nI n0), .int (nI k0)])).length) Slot.unset).toArray = ls at hl ⊢
  have hl : lv_has ls 6 [(0, .int (nI n0)), (1, .int (nI k0))] := hl
  refine lv_iload_n hx hb dX11_choose_0 rfl (lv_at hl 1 rfl) ?_
  have : (nI k0).toInt = ((k0 : Nat) : Int) := nI_toInt (by omega)
  refine lv_if_lt (tgt := 9) hx hb dX11_choose_1 (by decide) (fun c_1 => False.elim (by have tc_1 : ((nI k0).toInt : Int) < 0 := Int32.lt_iff_toInt_lt.mp c_1; omega)) (fun c_1 => ?_)
  have tc_1 : (0 : Int) ≤ (nI k0).toInt := Int32.le_iff_toInt_le.mp (Int32.not_lt.mp c_1)
  refine lv_iload_n hx hb dX11_choose_4 rfl (lv_at hl 1 rfl) ?_
  refine lv_iload_n hx hb dX11_choose_5 rfl (lv_at hl 0 rfl) ?_
  have : (nI n0).toInt = ((n0 : Nat) : Int) := nI_toInt (by omega)
  refine lv_icmp_le (tgt := 11) hx hb dX11_choose_6 (by decide) (fun c_2 => ?_) (fun c_2 => ?_)
  ·
    have tc_2 : ((nI k0).toInt : Int) ≤ (nI n0).toInt := Int32.le_iff_toInt_le.mp c_2
    refine lv_lconst (v := 1) hx hb dX11_choose_11 (by decide) ?_
    refine lv_lstore_n (lv' := [(2, .long 1), (0, .int (nI n0)), (1, .int (nI k0))]) hx hb dX11_choose_12 rfl hl (by decide) rfl (fun ls hl => ?_)
    refine lv_iload_n hx hb dX11_choose_13 rfl (lv_at hl 2 rfl) ?_
    refine lv_iload_n hx hb dX11_choose_14 rfl (lv_at hl 1 rfl) ?_
    refine lv_iload_n hx hb dX11_choose_15 rfl (lv_at hl 2 rfl) ?_
    refine lv_isub hx hb dX11_choose_16 ?_
    refine lv_topi (fun y_3 ey_3 => ?_)
    obtain rfl : y_3 = (nI (n0 - k0)) := ey_3.trans (nI_sub (by omega))
    refine va_mmin hx hb (by rw [hml]; exact hl.1.symm) hown (S.2.2.2.2 _ (wT_t4 43 rfl rfl)) (S.2.2.2.2 _ (wT_t2 166 rfl rfl)) (S.2.2.2.2 _ (wT_t1 3 rfl rfl)) (S.2.2.2.2 _ (wT_t2 167 rfl rfl)) (Nat.le_of_ble_eq_true rfl) (Nat.le_of_ble_eq_true rfl) (Nat.le_of_ble_eq_true rfl) (Nat.le_of_ble_eq_true rfl) dX11_choose_17 ?_
    refine lv_topi (fun y_4 ey_4 => ?_)
    obtain rfl : y_4 = (nI (min k0 (n0 - k0))) := ey_4.trans (minNI (by omega) (by omega))
    refine lv_istore (lv' := [(4, .int (nI (min k0 (n0 - k0)))), (2, .long 1), (0, .int (nI n0)), (1, .int (nI k0))]) hx hb dX11_choose_20 hl (by decide) rfl (fun ls hl => ?_)
    refine lv_iconst (v := 0) hx hb dX11_choose_22 (by decide) ?_
    refine lv_istore (lv' := [(5, .int 0), (4, .int (nI (min k0 (n0 - k0)))), (2, .long 1), (0, .int (nI n0)), (1, .int (nI k0))]) hx hb dX11_choose_23 hl (by decide) rfl (fun ls hl => ?_)
    have lp_25 : ∀ (n : Nat) (i25 : Nat) (x25_2 : Int64) , min k0 (n0 - k0) - i25 < n → (i25 ≤ min k0 (n0 - k0)) → ∀ ls : Array Slot, lv_has ls 6 [(5, .int (nI i25)), (4, .int (nI (min k0 (n0 - k0)))), (2, .long x25_2), (0, .int (nI n0)), (1, .int (nI k0))] → W p l e (RM 1 0 0) s m ([.int (nI n0), .int (nI k0)]).toArray below meth c s.heap [] 0 0 (MQ below (vp_Sl (fun _ => True)) ([.int (nI n0), .int (nI k0)]).toArray s 0 0 (fun _ => False)) (F0 m 25 ls []) := by
      intro n25
      induction n25 with
      | zero => intros; omega
      | succ n25 ih25 =>
        intro i25 x25_2 hmu25 hinv25 ls hl
        have hr25 := hinv25
        have ti25 : (nI i25).toInt = (i25 : Int) := nI_toInt (by omega)
        refine lv_iload hx hb dX11_choose_25 (lv_at hl 0 rfl) ?_
        refine lv_iload hx hb dX11_choose_27 (lv_at hl 1 rfl) ?_
        have : (nI (min k0 (n0 - k0))).toInt = (((min k0 (n0 - k0)) : Nat) : Int) := nI_toInt (by omega)
        refine lv_icmp_ge (tgt := 52) hx hb dX11_choose_29 (by decide) (fun c_5 => ?_) (fun c_5 => ?_)
        ·
          have tc_5 : ((nI (min k0 (n0 - k0))).toInt : Int) ≤ (nI i25).toInt := Int32.le_iff_toInt_le.mp c_5
          refine lv_lload_n hx hb dX11_choose_52 rfl (lv_at hl 2 rfl) ?_
          exact W.lret (v := x25_2) hx hb hr (fun t ht hW => ⟨x25_2, rfl, trivial, ht⟩) (fun _ h => absurd h List.not_mem_nil) dX11_choose_53
        ·
          have tc_5 : ((nI i25).toInt : Int) < (nI (min k0 (n0 - k0))).toInt := Int32.lt_iff_toInt_lt.mp (Int32.not_le.mp c_5)
          refine lv_lload_n hx hb dX11_choose_32 rfl (lv_at hl 2 rfl) ?_
          refine lv_iload_n hx hb dX11_choose_33 rfl (lv_at hl 3 rfl) ?_
          refine lv_iload hx hb dX11_choose_34 (lv_at hl 0 rfl) ?_
          refine lv_isub hx hb dX11_choose_36 ?_
          refine lv_topi (fun y_6 ey_6 => ?_)
          obtain rfl : y_6 = (nI (n0 - i25)) := ey_6.trans (nI_sub (by omega))
          refine lv_i2l (v := (lN (n0 - i25))) hx hb dX11_choose_37 (nI_l (by omega)) ?_
          refine lv_lmul hx hb dX11_choose_38 ?_
          refine lv_iload hx hb dX11_choose_39 (lv_at hl 0 rfl) ?_
          refine lv_iconst (v := 1) hx hb dX11_choose_41 (by decide) ?_
          refine lv_iadd hx hb dX11_choose_42 ?_
          refine lv_topi (fun y_7 ey_7 => ?_)
          obtain rfl : y_7 = (nI (i25 + 1)) := ey_7.trans (nI_add i25 1)
          refine lv_i2l (v := (lN (i25 + 1))) hx hb dX11_choose_43 (nI_l (by omega)) ?_
          refine lv_ldiv hx hb dX11_choose_44 (lN_ne (by omega) (by omega)) ?_
          refine lv_lstore_n (lv' := [(2, .long ((x25_2 * (lN (n0 - i25))) / (lN (i25 + 1)))), (5, .int (nI i25)), (4, .int (nI (min k0 (n0 - k0)))), (0, .int (nI n0)), (1, .int (nI k0))]) hx hb dX11_choose_45 rfl hl (by decide) rfl (fun ls hl => ?_)
          refine lv_iinc (v := (nI (i25 + 1))) (lv' := [(5, .int (nI (i25 + 1))), (2, .long ((x25_2 * (lN (n0 - i25))) / (lN (i25 + 1)))), (4, .int (nI (min k0 (n0 - k0)))), (0, .int (nI n0)), (1, .int (nI k0))]) hx hb dX11_choose_46 hl (k := 1) rfl (nI_1 _) (by decide) rfl (fun ls hl => ?_)
          refine lv_goto (tgt := 25) hx hb dX11_choose_49 (by decide) ?_
          exact ih25 (i25 + 1) ((x25_2 * (lN (n0 - i25))) / (lN (i25 + 1))) (by omega) (by omega) ls (lv_sub hl [0, 2, 1, 3, 4] rfl)
    exact lp_25 _ 0 1 (Nat.lt_succ_self _) (by omega) ls (lv_sub hl [0, 1, 2, 3, 4] rfl)
  ·
    have tc_2 : ((nI n0).toInt : Int) < (nI k0).toInt := Int32.lt_iff_toInt_lt.mp (Int32.not_le.mp c_2)
    refine lv_lconst (v := 0) hx hb dX11_choose_9 (by decide) ?_
    exact W.lret (v := 0) hx hb hr (fun t ht hW => ⟨0, rfl, trivial, ht⟩) (fun _ h => absurd h List.not_mem_nil) dX11_choose_10
