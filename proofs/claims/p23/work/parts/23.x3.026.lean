set_option maxRecDepth 100000 in
set_option maxHeartbeats 4000000 in
theorem q_XmoveBy (l : Launch) (D : va_G) (cI cB cZ : ClassId) (zz qq vv : Nat) (bt : Nat → Int32) (g : Nat → Nat) (ad : Nat → Nat → Nat) (cn : Nat → Nat) (In : Nat → Int32) (Fn : Nat → Nat → Int32) (v0 v1 : Int32) (hB : CBX cn) : Met l yX11_moveBy (CWS yX11_moveBy cX11_moveBy 6 (some (.object "OilHome$Move"))) (RM 3 0 0) (PBrx [.ref (g 0), .int v0, .int v1] D cI cB cZ zz qq vv bt (wX cI (D.1 99) zz g ad cn In Fn)) (va_Sq (fun r => (∃ m : Nat, (0 : Int) = 0 ∧ m < cn 15 ∧ r = some (ad 15 m)) ∨ (True ∧ r = none))) 0 0 (fun _ => False) := by
  refine Met.ofW (cc := cX11_moveBy) (maxL := 6) (ret := (some (.object "OilHome$Move"))) (by decide) rfl ?_
  intro p e s m args below meth c s₁ B hml hv
  obtain ⟨rfl, hP, hK, hXS⟩ := hv
  have hS : va_S (fun _ => False) s.heap s.heap [] := va_S.rf
  have hx := B.exec
  have hb := B.bytes
  have hr := B.returns
  have hts := atoms_spec (ws := (CWS yX11_moveBy cX11_moveBy 6 (some (.object "OilHome$Move")))) B.pre
  have hown : s.vm.findClass RX11 = some m.cls := findClass_of_methodNamed B.named
  have hlocks := B.notSynchronized
  have S : SF p m c cX11_moveBy 6 s ([.ref (g 0), .int v0, .int v1]).toArray RX11 := ⟨hx, hb, hml, hown, fun w h => hts w (List.mem_cons_of_mem _ h)⟩
  have hl := lv_entry ([.ref (g 0), .int v0, .int v1]) (n := 6) (Nat.le_of_ble_eq_true rfl)
  rw [lg_entry_eq]
  generalize (lg_sl ([.ref (g 0), .int v0, .int v1]) ++ List.replicate (6 - (lg_sl ([.ref (g 0), .int v0, .int v1])).length) Slot.unset).toArray = ls at hl ⊢
  have hl : lv_has ls 6 [(0, .ref (g 0)), (1, .int v0), (2, .int v1)] := hl
  refine lv_null hx hb dX11_moveBy_0 ?_
  refine lv_astore_nN (lv' := [(3, .null), (0, .ref (g 0)), (1, .int v0), (2, .int v1)]) hx hb dX11_moveBy_1 rfl hl (by decide) rfl (fun ls hl => ?_)
  refine lv_iconst (v := 0) hx hb dX11_moveBy_2 (by decide) ?_
  refine lv_istore (lv' := [(4, .int 0), (3, .null), (0, .ref (g 0)), (1, .int v0), (2, .int v1)]) hx hb dX11_moveBy_3 hl (by decide) rfl (fun ls hl => ?_)
  have lp_5 : ∀ (n : Nat) (i5 : Nat) (x5_3 : Option Nat) , cn 15 - i5 < n → (i5 ≤ cn 15 ∧ (x5_3 = none ∨ ∃ m : Nat, m < cn 15 ∧ x5_3 = some (ad 15 m))) → ∀ ls : Array Slot, lv_has ls 6 [(4, .int (nI i5)), (3, (va_rf x5_3)), (0, .ref (g 0)), (1, .int v0), (2, .int v1)] → W p l e (RM 3 0 0) s m ([.ref (g 0), .int v0, .int v1]).toArray below meth c s.heap [] 0 0 (MQ below (va_Sq (fun r => (∃ m : Nat, (0 : Int) = 0 ∧ m < cn 15 ∧ r = some (ad 15 m)) ∨ (True ∧ r = none))) ([.ref (g 0), .int v0, .int v1]).toArray s 0 0 (fun _ => False)) (F0 m 5 ls []) := by
    intro n5
    induction n5 with
    | zero => intros; omega
    | succ n5 ih5 =>
      intro i5 x5_3 hmu5 hinv5 ls hl
      obtain ⟨hr5, hx5_0⟩ := hinv5
      have ti5 : (nI i5).toInt = (i5 : Int) := nI_toInt (by omega)
      refine lv_iload hx hb dX11_moveBy_5 (lv_at hl 0 rfl) ?_
      refine lv_aload_n hx hb dX11_moveBy_7 rfl (lv_at hl 2 rfl) ?_
      refine gf_RX11_77 S hK hP 0 xo_0 (v := .ref (g 15)) rfl dX11_moveBy_8 ?_
      refine vp_callSi (runV_r (As := []) (rest := [.int (nI i5)]) S (q_l_size l D cI cB cZ (g 15) (if (cn 15) = 0 then zz else ad 2 5) (In 15) (nI (cn 15))) kV_RX11_84 hK hP [29] (one_is xo_29) 29 xo_29 rfl rfl ⟨Nat.le_of_ble_eq_true rfl, Nat.le_of_ble_eq_true rfl⟩ ⟨Nat.le_of_ble_eq_true rfl, Nat.le_of_ble_eq_true rfl⟩ rfl hl.1 rfl (Nat.le_of_ble_eq_true rfl) dX11_moveBy_11) (fun r_1 h_2 => ?_)
      subst h_2
      have : (nI (cn 15)).toInt = (((cn 15) : Nat) : Int) := nI_toInt (by omega)
      refine lv_icmp_ge (tgt := 58) hx hb dX11_moveBy_14 (by decide) (fun c_3 => ?_) (fun c_3 => ?_)
      ·
        have tc_3 : ((nI (cn 15)).toInt : Int) ≤ (nI i5).toInt := Int32.le_iff_toInt_le.mp c_3
        rcases hx5_0 with rfl | ⟨m9, h9, rfl⟩
        ·
          have hl : lv_has ls 6 [(4, .int (nI i5)), (3, .null), (0, .ref (g 0)), (1, .int v0), (2, .int v1)] := hl
          refine lv_aload_nN hx hb dX11_moveBy_58 rfl (lv_at hl 1 rfl) ?_
          exact W.aret (v := .null) hx hb hr (Or.inl ⟨_, rfl⟩) (Or.inl rfl) (fun t ht hW => ⟨none, rfl, (Or.inr ⟨trivial, rfl⟩), ht⟩) (fun _ h => absurd h List.not_mem_nil) dX11_moveBy_59
        ·
          have hl : lv_has ls 6 [(4, .int (nI i5)), (3, .ref (ad 15 m9)), (0, .ref (g 0)), (1, .int v0), (2, .int v1)] := hl
          refine lv_aload_n hx hb dX11_moveBy_58 rfl (lv_at hl 1 rfl) ?_
          exact W.aret (v := .ref (ad 15 m9)) hx hb hr (Or.inl ⟨_, rfl⟩) (Or.inr ⟨_, rfl⟩) (fun t ht hW => ⟨some (ad 15 m9), rfl, (Or.inl ⟨m9, rfl, h9, rfl⟩), ht⟩) (fun _ h => absurd h List.not_mem_nil) dX11_moveBy_59
      ·
        have tc_3 : ((nI i5).toInt : Int) < (nI (cn 15)).toInt := Int32.lt_iff_toInt_lt.mp (Int32.not_le.mp c_3)
        refine lv_aload_n hx hb dX11_moveBy_17 rfl (lv_at hl 2 rfl) ?_
        refine gf_RX11_77 S hK hP 0 xo_0 (v := .ref (g 15)) rfl dX11_moveBy_18 ?_
        refine lv_iload hx hb dX11_moveBy_21 (lv_at hl 0 rfl) ?_
        refine va_csq (runV_rx (As := [.int (nI i5)]) (rest := []) S (q_l_get l D cI cB cZ zz qq vv bt (g 15) (ad 2 5) (cn 25) (cn 15) i5 (ad 15 i5) (In 15) (fun i => if i < (cn 15) then some (ad 15 i) else none) (by omega) (if_pos (by omega)) (by omega) (by omega)) kV_RX11_87 hK hXS hS hP _ (two_is (xl_5 (by omega)) (xf_18 (k := 0) (by omega))) (va_recv hK.1 hP (ci := 0) rfl xo_29) ⟨Nat.le_of_ble_eq_true rfl, Nat.le_of_ble_eq_true rfl⟩ ⟨Nat.le_of_ble_eq_true rfl, Nat.le_of_ble_eq_true rfl⟩ rfl hl.1 rfl (Nat.le_of_ble_eq_true rfl) dX11_moveBy_23) (fun r_4 h_5 => ?_)
        subst h_5
        refine va_castS hx hb hown (S.2.2.2.2 _ (wT_t6 39 rfl rfl)) (xclass hK.1 (ci := 4) rfl) (va_recv hK.1 hP (ci := 4) rfl (xf_5 (by omega))) dX11_moveBy_26 ?_
        refine lv_astore (lv' := [(5, .ref (ad 15 i5)), (4, .int (nI i5)), (3, (va_rf x5_3)), (0, .ref (g 0)), (1, .int v0), (2, .int v1)]) hx hb dX11_moveBy_29 hl (by decide) rfl (fun ls hl => ?_)
        refine lv_aload hx hb dX11_moveBy_31 (lv_at hl 0 rfl) ?_
        refine gf_RX11_507 S hK hP _ (xf_5 (by omega)) (v := .int ((Fn 180) i5)) rfl dX11_moveBy_33 ?_
        refine lv_iload_n hx hb dX11_moveBy_36 rfl (lv_at hl 4 rfl) ?_
        refine lv_icmp_ne (tgt := 52) hx hb dX11_moveBy_37 (by decide) (fun c_6 => ?_) (fun c_6 => ?_)
        ·
          have tc_6 : (((Fn 180) i5).toInt : Int) ≠ v0.toInt := fun q => c_6 (Int32.toInt_inj.mp q)
          rcases hx5_0 with rfl | ⟨m9, h9, rfl⟩
          ·
            have hl : lv_has ls 6 [(5, .ref (ad 15 i5)), (4, .int (nI i5)), (3, .null), (0, .ref (g 0)), (1, .int v0), (2, .int v1)] := hl
            refine lv_iinc (v := (nI (i5 + 1))) (lv' := [(4, .int (nI (i5 + 1))), (5, .ref (ad 15 i5)), (3, .null), (0, .ref (g 0)), (1, .int v0), (2, .int v1)]) hx hb dX11_moveBy_52 hl (k := 1) rfl (nI_1 _) (by decide) rfl (fun ls hl => ?_)
            refine lv_goto (tgt := 5) hx hb dX11_moveBy_55 (by decide) ?_
            exact ih5 (i5 + 1) none (by omega) ⟨(by omega), (Or.inl rfl)⟩ ls (lv_sub hl [0, 2, 3, 4, 5] rfl)
          ·
            have hl : lv_has ls 6 [(5, .ref (ad 15 i5)), (4, .int (nI i5)), (3, .ref (ad 15 m9)), (0, .ref (g 0)), (1, .int v0), (2, .int v1)] := hl
            refine lv_iinc (v := (nI (i5 + 1))) (lv' := [(4, .int (nI (i5 + 1))), (5, .ref (ad 15 i5)), (3, .ref (ad 15 m9)), (0, .ref (g 0)), (1, .int v0), (2, .int v1)]) hx hb dX11_moveBy_52 hl (k := 1) rfl (nI_1 _) (by decide) rfl (fun ls hl => ?_)
            refine lv_goto (tgt := 5) hx hb dX11_moveBy_55 (by decide) ?_
            exact ih5 (i5 + 1) (some (ad 15 m9)) (by omega) ⟨(by omega), (Or.inr ⟨m9, h9, rfl⟩)⟩ ls (lv_sub hl [0, 2, 3, 4, 5] rfl)
        ·
          have tc_6 : (((Fn 180) i5).toInt : Int) = v0.toInt := congrArg Int32.toInt c_6
          refine lv_aload hx hb dX11_moveBy_40 (lv_at hl 0 rfl) ?_
          refine gf_RX11_508 S hK hP _ (xf_5 (by omega)) (v := .int ((Fn 182) i5)) rfl dX11_moveBy_42 ?_
          refine lv_iload_n hx hb dX11_moveBy_45 rfl (lv_at hl 5 rfl) ?_
          refine lv_icmp_gt (tgt := 52) hx hb dX11_moveBy_46 (by decide) (fun c_7 => ?_) (fun c_7 => ?_)
          ·
            have tc_7 : (v1.toInt : Int) < ((Fn 182) i5).toInt := Int32.lt_iff_toInt_lt.mp c_7
            rcases hx5_0 with rfl | ⟨m9, h9, rfl⟩
            ·
              have hl : lv_has ls 6 [(5, .ref (ad 15 i5)), (4, .int (nI i5)), (3, .null), (0, .ref (g 0)), (1, .int v0), (2, .int v1)] := hl
              refine lv_iinc (v := (nI (i5 + 1))) (lv' := [(4, .int (nI (i5 + 1))), (5, .ref (ad 15 i5)), (3, .null), (0, .ref (g 0)), (1, .int v0), (2, .int v1)]) hx hb dX11_moveBy_52 hl (k := 1) rfl (nI_1 _) (by decide) rfl (fun ls hl => ?_)
              refine lv_goto (tgt := 5) hx hb dX11_moveBy_55 (by decide) ?_
              exact ih5 (i5 + 1) none (by omega) ⟨(by omega), (Or.inl rfl)⟩ ls (lv_sub hl [0, 2, 3, 4, 5] rfl)
            ·
              have hl : lv_has ls 6 [(5, .ref (ad 15 i5)), (4, .int (nI i5)), (3, .ref (ad 15 m9)), (0, .ref (g 0)), (1, .int v0), (2, .int v1)] := hl
              refine lv_iinc (v := (nI (i5 + 1))) (lv' := [(4, .int (nI (i5 + 1))), (5, .ref (ad 15 i5)), (3, .ref (ad 15 m9)), (0, .ref (g 0)), (1, .int v0), (2, .int v1)]) hx hb dX11_moveBy_52 hl (k := 1) rfl (nI_1 _) (by decide) rfl (fun ls hl => ?_)
              refine lv_goto (tgt := 5) hx hb dX11_moveBy_55 (by decide) ?_
              exact ih5 (i5 + 1) (some (ad 15 m9)) (by omega) ⟨(by omega), (Or.inr ⟨m9, h9, rfl⟩)⟩ ls (lv_sub hl [0, 2, 3, 4, 5] rfl)
          ·
            have tc_7 : (((Fn 182) i5).toInt : Int) ≤ v1.toInt := Int32.le_iff_toInt_le.mp (Int32.not_lt.mp c_7)
            refine lv_aload hx hb dX11_moveBy_49 (lv_at hl 0 rfl) ?_
            refine lv_astore_n (lv' := [(3, .ref (ad 15 i5)), (5, .ref (ad 15 i5)), (4, .int (nI i5)), (0, .ref (g 0)), (1, .int v0), (2, .int v1)]) hx hb dX11_moveBy_51 rfl hl (by decide) rfl (fun ls hl => ?_)
            refine lv_iinc (v := (nI (i5 + 1))) (lv' := [(4, .int (nI (i5 + 1))), (3, .ref (ad 15 i5)), (5, .ref (ad 15 i5)), (0, .ref (g 0)), (1, .int v0), (2, .int v1)]) hx hb dX11_moveBy_52 hl (k := 2) rfl (nI_1 _) (by decide) rfl (fun ls hl => ?_)
            refine lv_goto (tgt := 5) hx hb dX11_moveBy_55 (by decide) ?_
            exact ih5 (i5 + 1) (some (ad 15 i5)) (by omega) ⟨(by omega), (Or.inr ⟨i5, by omega, rfl⟩)⟩ ls (lv_sub hl [0, 1, 3, 4, 5] rfl)
  exact lp_5 _ 0 none (Nat.lt_succ_self _) ⟨(by omega), (Or.inl rfl)⟩ ls (lv_sub hl [0, 1, 2, 3, 4] rfl)
