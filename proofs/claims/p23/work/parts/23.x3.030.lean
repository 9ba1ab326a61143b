set_option maxRecDepth 100000 in
set_option maxHeartbeats 4000000 in
theorem q_XlorryOf (l : Launch) (D : va_G) (cI cB cZ : ClassId) (zz qq vv : Nat) (bt : Nat → Int32) (g : Nat → Nat) (ad : Nat → Nat → Nat) (cn : Nat → Nat) (In : Nat → Int32) (Fn : Nat → Nat → Int32) (v0 v1 : Int32) (hB : CBX cn) : Met l yX11_lorryOf (CWS yX11_lorryOf cX11_lorryOf 5 (some .int)) (RM 1 0 0) (PBrx [.ref (g 0), .int v0, .int v1] D cI cB cZ zz qq vv bt (wX cI (D.1 99) zz g ad cn In Fn)) (vp_Si (fun _ => True)) 0 0 (fun _ => False) := by
  refine Met.ofW (cc := cX11_lorryOf) (maxL := 5) (ret := (some .int)) (by decide) rfl ?_
  intro p e s m args below meth c s₁ B hml hv
  obtain ⟨rfl, hP, hK, hXS⟩ := hv
  have hS : va_S (fun _ => False) s.heap s.heap [] := va_S.rf
  have hx := B.exec
  have hb := B.bytes
  have hr := B.returns
  have hts := atoms_spec (ws := (CWS yX11_lorryOf cX11_lorryOf 5 (some .int))) B.pre
  have hown : s.vm.findClass RX11 = some m.cls := findClass_of_methodNamed B.named
  have hlocks := B.notSynchronized
  have S : SF p m c cX11_lorryOf 5 s ([.ref (g 0), .int v0, .int v1]).toArray RX11 := ⟨hx, hb, hml, hown, fun w h => hts w (List.mem_cons_of_mem _ h)⟩
  have hl := lv_entry ([.ref (g 0), .int v0, .int v1]) (n := 5) (Nat.le_of_ble_eq_true rfl)
  rw [lg_entry_eq]
  generalize (lg_sl ([.ref (g 0), .int v0, .int v1]) ++ List.replicate (5 - (lg_sl ([.ref (g 0), .int v0, .int v1])).length) Slot.unset).toArray = ls at hl ⊢
  have hl : lv_has ls 5 [(0, .ref (g 0)), (1, .int v0), (2, .int v1)] := hl
  refine lv_iload_n hx hb dX11_lorryOf_0 rfl (lv_at hl 1 rfl) ?_
  refine lv_istore_n (lv' := [(3, .int v0), (0, .ref (g 0)), (1, .int v0), (2, .int v1)]) hx hb dX11_lorryOf_1 rfl hl (by decide) rfl (fun ls hl => ?_)
  refine lv_aload_n hx hb dX11_lorryOf_2 rfl (lv_at hl 1 rfl) ?_
  refine gf_RX11_54 S hK hP 0 xo_0 (v := .ref (g 9)) rfl dX11_lorryOf_3 ?_
  refine gf_RX11_267 S hK hP 17 xo_17 (v := .int (nI (cn 4))) rfl dX11_lorryOf_6 ?_
  refine lv_iconst (v := 1) hx hb dX11_lorryOf_9 (by decide) ?_
  refine lv_isub hx hb dX11_lorryOf_10 ?_
  refine lv_topi (fun y_1 ey_1 => ?_)
  obtain rfl : y_1 = (nI (cn 4) + (-1)) := ey_1.trans (Int32.sub_eq_add_neg ..)
  refine lv_istore (lv' := [(4, .int (nI (cn 4) + (-1))), (3, .int v0), (0, .ref (g 0)), (1, .int v0), (2, .int v1)]) hx hb dX11_lorryOf_11 hl (by decide) rfl (fun ls hl => ?_)
  have lp_13 : ∀ (n : Nat) (x13_3 : Int32) (k13 : Nat) , k13 < n → ((k13 ≤ cn 4)) → ∀ ls : Array Slot, lv_has ls 5 [(4, .int (nI k13 + (-1))), (3, .int x13_3), (0, .ref (g 0)), (1, .int v0), (2, .int v1)] → W p l e (RM 1 0 0) s m ([.ref (g 0), .int v0, .int v1]).toArray below meth c s.heap [] 0 0 (MQ below (vp_Si (fun _ => True)) ([.ref (g 0), .int v0, .int v1]).toArray s 0 0 (fun _ => False)) (F0 m 13 ls []) := by
    intro n13
    induction n13 with
    | zero => intros; omega
    | succ n13 ih13 =>
      intro x13_3 k13 hmu13 hinv13 ls hl
      have hx13_0 := hinv13
      rcases k13 with _ | j13
      ·
        rw [show nI 0 + (-1) = (-1 : Int32) by decide] at hl
        have hl : lv_has ls 5 [(4, .int (-1)), (3, .int x13_3), (0, .ref (g 0)), (1, .int v0), (2, .int v1)] := hl
        refine lv_iload hx hb dX11_lorryOf_13 (lv_at hl 0 rfl) ?_
        refine lv_if_lt (tgt := 61) hx hb dX11_lorryOf_15 (by decide) (fun _ => ?_) (fun h => absurd h (by decide))
        refine lv_iconst (v := (-1)) hx hb dX11_lorryOf_61 (by decide) ?_
        exact W.iret (v := (-1)) hx hb hr (fun t ht hW => ⟨(-1), rfl, trivial, ht⟩) (fun _ h => absurd h List.not_mem_nil) dX11_lorryOf_62
      ·
        rw [nI_m1] at hl
        have hl : lv_has ls 5 [(4, .int (nI j13)), (3, .int x13_3), (0, .ref (g 0)), (1, .int v0), (2, .int v1)] := hl
        refine lv_iload hx hb dX11_lorryOf_13 (lv_at hl 0 rfl) ?_
        have : (nI j13).toInt = ((j13 : Nat) : Int) := nI_toInt (by omega)
        refine lv_if_lt (tgt := 61) hx hb dX11_lorryOf_15 (by decide) (fun c_2 => False.elim (by have tc_2 : ((nI j13).toInt : Int) < 0 := Int32.lt_iff_toInt_lt.mp c_2; omega)) (fun c_2 => ?_)
        have tc_2 : (0 : Int) ≤ (nI j13).toInt := Int32.le_iff_toInt_le.mp (Int32.not_lt.mp c_2)
        refine lv_aload_n hx hb dX11_lorryOf_18 rfl (lv_at hl 2 rfl) ?_
        refine gf_RX11_311 S hK hP 0 xo_0 (v := .int (nI (cn 1))) rfl dX11_lorryOf_19 ?_
        have : (nI (cn 1)).toInt = (((cn 1) : Nat) : Int) := nI_toInt (by omega)
        refine lv_if_le (tgt := 61) hx hb dX11_lorryOf_22 (by decide) (fun c_3 => ?_) (fun c_3 => ?_)
        ·
          have tc_3 : ((nI (cn 1)).toInt : Int) ≤ 0 := Int32.le_iff_toInt_le.mp c_3
          refine lv_iconst (v := (-1)) hx hb dX11_lorryOf_61 (by decide) ?_
          exact W.iret (v := (-1)) hx hb hr (fun t ht hW => ⟨(-1), rfl, trivial, ht⟩) (fun _ h => absurd h List.not_mem_nil) dX11_lorryOf_62
        ·
          have tc_3 : (0 : Int) < (nI (cn 1)).toInt := Int32.lt_iff_toInt_lt.mp (Int32.not_le.mp c_3)
          refine lv_aload_n hx hb dX11_lorryOf_25 rfl (lv_at hl 2 rfl) ?_
          refine gf_RX11_54 S hK hP 0 xo_0 (v := .ref (g 9)) rfl dX11_lorryOf_26 ?_
          refine gf_RX11_306 S hK hP 17 xo_17 (v := .ref (g 30)) rfl dX11_lorryOf_29 ?_
          refine lv_iload hx hb dX11_lorryOf_32 (lv_at hl 0 rfl) ?_
          refine vp_callSi (runS_r (As := [.ref (g 30), .int (nI j13)]) (rest := []) S (q_l_at l D cI cB cZ (g 30) 8 (Fn 30) (nI j13) (by omega)) kS_RX11_192 hK hP [18] (one_is xo_18) ⟨Nat.le_of_ble_eq_true rfl, Nat.le_of_ble_eq_true rfl⟩ ⟨Nat.le_of_ble_eq_true rfl, Nat.le_of_ble_eq_true rfl⟩ rfl hl.1 rfl (Nat.le_of_ble_eq_true rfl) dX11_lorryOf_34) (fun r_4 h_5 => ?_)
          subst h_5
          refine lv_iload_n hx hb dX11_lorryOf_37 rfl (lv_at hl 4 rfl) ?_
          refine lv_icmp_ne (tgt := 48) hx hb dX11_lorryOf_38 (by decide) (fun c_6 => ?_) (fun c_6 => ?_)
          ·
            have tc_6 : ((atM (Fn 30) 8 (nI j13)).toInt : Int) ≠ v1.toInt := fun q => c_6 (Int32.toInt_inj.mp q)
            refine lv_iload_n hx hb dX11_lorryOf_48 rfl (lv_at hl 1 rfl) ?_
            refine lv_aload_n hx hb dX11_lorryOf_49 rfl (lv_at hl 2 rfl) ?_
            refine gf_RX11_311 S hK hP 0 xo_0 (v := .int (nI (cn 1))) rfl dX11_lorryOf_50 ?_
            refine lv_idiv hx hb dX11_lorryOf_53 (nI_nz (by omega) (by omega)) ?_
            refine lv_istore_n (lv' := [(3, .int (x13_3 / (nI (cn 1)))), (4, .int (nI j13)), (0, .ref (g 0)), (1, .int v0), (2, .int v1)]) hx hb dX11_lorryOf_54 rfl hl (by decide) rfl (fun ls hl => ?_)
            refine lv_iinc (v := ((nI j13) + (-1))) (lv' := [(4, .int ((nI j13) + (-1))), (3, .int (x13_3 / (nI (cn 1)))), (0, .ref (g 0)), (1, .int v0), (2, .int v1)]) hx hb dX11_lorryOf_55 hl (k := 1) rfl rfl (by decide) rfl (fun ls hl => ?_)
            refine lv_goto (tgt := 13) hx hb dX11_lorryOf_58 (by decide) ?_
            exact ih13 (x13_3 / (nI (cn 1))) j13 (by omega) (by omega) ls (lv_sub hl [0, 1, 2, 3, 4] rfl)
          ·
            have tc_6 : ((atM (Fn 30) 8 (nI j13)).toInt : Int) = v1.toInt := congrArg Int32.toInt c_6
            refine lv_iload_n hx hb dX11_lorryOf_41 rfl (lv_at hl 1 rfl) ?_
            refine lv_aload_n hx hb dX11_lorryOf_42 rfl (lv_at hl 2 rfl) ?_
            refine gf_RX11_311 S hK hP 0 xo_0 (v := .int (nI (cn 1))) rfl dX11_lorryOf_43 ?_
            refine lv_irem hx hb dX11_lorryOf_46 (nI_nz (by omega) (by omega)) ?_
            exact W.iret (v := (x13_3 - x13_3 / (nI (cn 1)) * (nI (cn 1)))) hx hb hr (fun t ht hW => ⟨(x13_3 - x13_3 / (nI (cn 1)) * (nI (cn 1))), rfl, trivial, ht⟩) (fun _ h => absurd h List.not_mem_nil) dX11_lorryOf_47
  exact lp_13 _ v0 (cn 4) (Nat.lt_succ_self _) (Nat.le_refl _) ls (lv_sub hl [0, 1, 2, 3, 4] rfl)
