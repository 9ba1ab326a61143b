set_option maxRecDepth 100000 in
set_option maxHeartbeats 4000000 in
theorem q_XworthOf (l : Launch) (D : va_G) (cI cB cZ : ClassId) (zz qq vv : Nat) (bt : Nat → Int32) (g : Nat → Nat) (ad : Nat → Nat → Nat) (cn : Nat → Nat) (In : Nat → Int32) (Fn : Nat → Nat → Int32) (v0 v1 : Int32) (hB : CBX cn) : Met l yX11_worthOf (CWS yX11_worthOf cX11_worthOf 6 (some .int)) (RM 3 0 0) (PBrx [.ref (g 0), .int v0, .int v1] D cI cB cZ zz qq vv bt (wX cI (D.1 99) zz g ad cn In Fn)) (vp_Si (fun _ => True)) 0 0 (fun _ => False) := by
  refine Met.ofW (cc := cX11_worthOf) (maxL := 6) (ret := (some .int)) (by decide) rfl ?_
  intro p e s m args below meth c s₁ B hml hv
  obtain ⟨rfl, hP, hK, hXS⟩ := hv
  have hS : va_S (fun _ => False) s.heap s.heap [] := va_S.rf
  have hx := B.exec
  have hb := B.bytes
  have hr := B.returns
  have hts := atoms_spec (ws := (CWS yX11_worthOf cX11_worthOf 6 (some .int))) B.pre
  have hown : s.vm.findClass RX11 = some m.cls := findClass_of_methodNamed B.named
  have hlocks := B.notSynchronized
  have S : SF p m c cX11_worthOf 6 s ([.ref (g 0), .int v0, .int v1]).toArray RX11 := ⟨hx, hb, hml, hown, fun w h => hts w (List.mem_cons_of_mem _ h)⟩
  have hl := lv_entry ([.ref (g 0), .int v0, .int v1]) (n := 6) (Nat.le_of_ble_eq_true rfl)
  rw [lg_entry_eq]
  generalize (lg_sl ([.ref (g 0), .int v0, .int v1]) ++ List.replicate (6 - (lg_sl ([.ref (g 0), .int v0, .int v1])).length) Slot.unset).toArray = ls at hl ⊢
  have hl : lv_has ls 6 [(0, .ref (g 0)), (1, .int v0), (2, .int v1)] := hl
  refine lv_iconst (v := 0) hx hb dX11_worthOf_0 (by decide) ?_
  refine lv_istore_n (lv' := [(3, .int 0), (0, .ref (g 0)), (1, .int v0), (2, .int v1)]) hx hb dX11_worthOf_1 rfl hl (by decide) rfl (fun ls hl => ?_)
  refine lv_iconst (v := 0) hx hb dX11_worthOf_2 (by decide) ?_
  refine lv_istore (lv' := [(4, .int 0), (3, .int 0), (0, .ref (g 0)), (1, .int v0), (2, .int v1)]) hx hb dX11_worthOf_3 hl (by decide) rfl (fun ls hl => ?_)
  have lp_5 : ∀ (n : Nat) (i5 : Nat) (x5_3 : Int32) , cn 10 - i5 < n → (i5 ≤ cn 10) → ∀ ls : Array Slot, lv_has ls 6 [(4, .int (nI i5)), (3, .int x5_3), (0, .ref (g 0)), (1, .int v0), (2, .int v1)] → W p l e (RM 3 0 0) s m ([.ref (g 0), .int v0, .int v1]).toArray below meth c s.heap [] 0 0 (MQ below (vp_Si (fun _ => True)) ([.ref (g 0), .int v0, .int v1]).toArray s 0 0 (fun _ => False)) (F0 m 5 ls []) := by
    intro n5
    induction n5 with
    | zero => intros; omega
    | succ n5 ih5 =>
      intro i5 x5_3 hmu5 hinv5 ls hl
      have hr5 := hinv5
      have ti5 : (nI i5).toInt = (i5 : Int) := nI_toInt (by omega)
      refine lv_iload hx hb dX11_worthOf_5 (lv_at hl 0 rfl) ?_
      refine lv_aload_n hx hb dX11_worthOf_7 rfl (lv_at hl 2 rfl) ?_
      refine gf_RX11_61 S hK hP 0 xo_0 (v := .ref (g 10)) rfl dX11_worthOf_8 ?_
      refine vp_callSi (runV_r (As := []) (rest := [.int (nI i5)]) S (q_l_size l D cI cB cZ (g 10) (if (cn 10) = 0 then zz else ad 2 0) (In 10) (nI (cn 10))) kV_RX11_84 hK hP [24] (one_is xo_24) 24 xo_24 rfl rfl ⟨Nat.le_of_ble_eq_true rfl, Nat.le_of_ble_eq_true rfl⟩ ⟨Nat.le_of_ble_eq_true rfl, Nat.le_of_ble_eq_true rfl⟩ rfl hl.1 rfl (Nat.le_of_ble_eq_true rfl) dX11_worthOf_11) (fun r_1 h_2 => ?_)
      subst h_2
      have : (nI (cn 10)).toInt = (((cn 10) : Nat) : Int) := nI_toInt (by omega)
      refine lv_icmp_ge (tgt := 62) hx hb dX11_worthOf_14 (by decide) (fun c_3 => ?_) (fun c_3 => ?_)
      ·
        have tc_3 : ((nI (cn 10)).toInt : Int) ≤ (nI i5).toInt := Int32.le_iff_toInt_le.mp c_3
        refine lv_iload_n hx hb dX11_worthOf_62 rfl (lv_at hl 1 rfl) ?_
        exact W.iret (v := x5_3) hx hb hr (fun t ht hW => ⟨x5_3, rfl, trivial, ht⟩) (fun _ h => absurd h List.not_mem_nil) dX11_worthOf_63
      ·
        have tc_3 : ((nI i5).toInt : Int) < (nI (cn 10)).toInt := Int32.lt_iff_toInt_lt.mp (Int32.not_le.mp c_3)
        refine lv_aload_n hx hb dX11_worthOf_17 rfl (lv_at hl 2 rfl) ?_
        refine gf_RX11_61 S hK hP 0 xo_0 (v := .ref (g 10)) rfl dX11_worthOf_18 ?_
        refine lv_iload hx hb dX11_worthOf_21 (lv_at hl 0 rfl) ?_
        refine va_csq (runV_rx (As := [.int (nI i5)]) (rest := []) S (q_l_get l D cI cB cZ zz qq vv bt (g 10) (ad 2 0) (cn 20) (cn 10) i5 (ad 10 i5) (In 10) (fun i => if i < (cn 10) then some (ad 10 i) else none) (by omega) (if_pos (by omega)) (by omega) (by omega)) kV_RX11_87 hK hXS hS hP _ (two_is (xl_0 (by omega)) (xf_13 (k := 0) (by omega))) (va_recv hK.1 hP (ci := 0) rfl xo_24) ⟨Nat.le_of_ble_eq_true rfl, Nat.le_of_ble_eq_true rfl⟩ ⟨Nat.le_of_ble_eq_true rfl, Nat.le_of_ble_eq_true rfl⟩ rfl hl.1 rfl (Nat.le_of_ble_eq_true rfl) dX11_worthOf_23) (fun r_4 h_5 => ?_)
        subst h_5
        refine va_castS hx hb hown (S.2.2.2.2 _ (wT_t2 63 rfl rfl)) (xclass hK.1 (ci := 2) rfl) (va_recv hK.1 hP (ci := 2) rfl (xf_0 (by omega))) dX11_worthOf_26 ?_
        refine lv_astore (lv' := [(5, .ref (ad 10 i5)), (4, .int (nI i5)), (3, .int x5_3), (0, .ref (g 0)), (1, .int v0), (2, .int v1)]) hx hb dX11_worthOf_29 hl (by decide) rfl (fun ls hl => ?_)
        refine lv_iload_n hx hb dX11_worthOf_31 rfl (lv_at hl 2 rfl) ?_
        refine lv_aload hx hb dX11_worthOf_32 (lv_at hl 0 rfl) ?_
        refine lv_iload_n hx hb dX11_worthOf_34 rfl (lv_at hl 4 rfl) ?_
        refine vp_callSi (runV_rxa (As := [.int v0]) (rest := [.int x5_3]) S (q_XcomesFor l D cI cB cZ zz qq vv bt g ad cn In Fn i5 v0 hB (by omega)) kV_RX11_456 hK hXS hS hP _ (xf_0 (by omega)) rfl rfl ⟨Nat.le_of_ble_eq_true rfl, Nat.le_of_ble_eq_true rfl⟩ ⟨Nat.le_of_ble_eq_true rfl, Nat.le_of_ble_eq_true rfl⟩ rfl hl.1 rfl (Nat.le_of_ble_eq_true rfl) dX11_worthOf_35) (fun r_6 h_7 => ?_)
        rcases h_7 with rfl | rfl
        ·
          refine lv_if_eq (tgt := 53) hx hb dX11_worthOf_38 (by decide) (fun _ => ?_) (fun h => absurd h (by decide))
          refine lv_iconst (v := 0) hx hb dX11_worthOf_53 (by decide) ?_
          refine lv_iadd hx hb dX11_worthOf_54 ?_
          refine lv_istore_n (lv' := [(3, .int (x5_3 + 0)), (5, .ref (ad 10 i5)), (4, .int (nI i5)), (0, .ref (g 0)), (1, .int v0), (2, .int v1)]) hx hb dX11_worthOf_55 rfl hl (by decide) rfl (fun ls hl => ?_)
          refine lv_iinc (v := (nI (i5 + 1))) (lv' := [(4, .int (nI (i5 + 1))), (3, .int (x5_3 + 0)), (5, .ref (ad 10 i5)), (0, .ref (g 0)), (1, .int v0), (2, .int v1)]) hx hb dX11_worthOf_56 hl (k := 2) rfl (nI_1 _) (by decide) rfl (fun ls hl => ?_)
          refine lv_goto (tgt := 5) hx hb dX11_worthOf_59 (by decide) ?_
          exact ih5 (i5 + 1) (x5_3 + 0) (by omega) (by omega) ls (lv_sub hl [0, 1, 3, 4, 5] rfl)
        ·
          refine lv_if_eq (tgt := 53) hx hb dX11_worthOf_38 (by decide) (fun h => absurd h (by decide)) (fun _ => ?_)
          refine lv_aload hx hb dX11_worthOf_41 (lv_at hl 0 rfl) ?_
          refine gf_RX11_459 S hK hP _ (xf_0 (by omega)) (v := .int ((Fn 102) i5)) rfl dX11_worthOf_43 ?_
          refine lv_iload_n hx hb dX11_worthOf_46 rfl (lv_at hl 5 rfl) ?_
          refine lv_iload_n hx hb dX11_worthOf_47 rfl (lv_at hl 4 rfl) ?_
          refine lv_isub hx hb dX11_worthOf_48 ?_
          refine lv_imul hx hb dX11_worthOf_49 ?_
          refine lv_goto (tgt := 54) hx hb dX11_worthOf_50 (by decide) ?_
          refine lv_iadd hx hb dX11_worthOf_54 ?_
          refine lv_istore_n (lv' := [(3, .int (x5_3 + (((Fn 102) i5) * (v1 - v0)))), (5, .ref (ad 10 i5)), (4, .int (nI i5)), (0, .ref (g 0)), (1, .int v0), (2, .int v1)]) hx hb dX11_worthOf_55 rfl hl (by decide) rfl (fun ls hl => ?_)
          refine lv_iinc (v := (nI (i5 + 1))) (lv' := [(4, .int (nI (i5 + 1))), (3, .int (x5_3 + (((Fn 102) i5) * (v1 - v0)))), (5, .ref (ad 10 i5)), (0, .ref (g 0)), (1, .int v0), (2, .int v1)]) hx hb dX11_worthOf_56 hl (k := 2) rfl (nI_1 _) (by decide) rfl (fun ls hl => ?_)
          refine lv_goto (tgt := 5) hx hb dX11_worthOf_59 (by decide) ?_
          exact ih5 (i5 + 1) (x5_3 + (((Fn 102) i5) * (v1 - v0))) (by omega) (by omega) ls (lv_sub hl [0, 1, 3, 4, 5] rfl)
  exact lp_5 _ 0 0 (Nat.lt_succ_self _) (by omega) ls (lv_sub hl [0, 1, 2, 3, 4] rfl)
