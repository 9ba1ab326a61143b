set_option maxRecDepth 100000 in
set_option maxHeartbeats 4000000 in
theorem q_XfeastedFill (l : Launch) (D : va_G) (cI cB cZ : ClassId) (zz qq vv : Nat) (bt : Nat → Int32) (g : Nat → Nat) (ad : Nat → Nat → Nat) (cn : Nat → Nat) (In : Nat → Int32) (Fn : Nat → Nat → Int32) (k0 j0 a0 b0 : Nat) (hB : CBX cn) (hk : k0 < cn 11) (hj : j0 < cn 10) (ea : Fn 126 k0 = nI a0) (eb : Fn 121 k0 = nI b0) (ha : a0 ≤ 399) (hb0 : b0 ≤ 399) : Met l yX11_feastedFill (CWS yX11_feastedFill cX11_feastedFill 5 (some .int)) (RM 1 0 0) (PBrx [.ref (g 0), .ref (ad 11 k0), .ref (ad 10 j0)] D cI cB cZ zz qq vv bt (wX cI (D.1 99) zz g ad cn In Fn)) (vp_Si (fun _ => True)) 0 0 (fun _ => False) := by
  refine Met.ofW (cc := cX11_feastedFill) (maxL := 5) (ret := (some .int)) (by decide) rfl ?_
  intro p e s m args below meth c s₁ B hml hv
  obtain ⟨rfl, hP, hK, hXS⟩ := hv
  have hS : va_S (fun _ => False) s.heap s.heap [] := va_S.rf
  have hx := B.exec
  have hb := B.bytes
  have hr := B.returns
  have hts := atoms_spec (ws := (CWS yX11_feastedFill cX11_feastedFill 5 (some .int))) B.pre
  have hown : s.vm.findClass RX11 = some m.cls := findClass_of_methodNamed B.named
  have hlocks := B.notSynchronized
  have S : SF p m c cX11_feastedFill 5 s ([.ref (g 0), .ref (ad 11 k0), .ref (ad 10 j0)]).toArray RX11 := ⟨hx, hb, hml, hown, fun w h => hts w (List.mem_cons_of_mem _ h)⟩
  have hl := lv_entry ([.ref (g 0), .ref (ad 11 k0), .ref (ad 10 j0)]) (n := 5) (Nat.le_of_ble_eq_true rfl)
  rw [lg_entry_eq]
  generalize (lg_sl ([.ref (g 0), .ref (ad 11 k0), .ref (ad 10 j0)]) ++ List.replicate (5 - (lg_sl ([.ref (g 0), .ref (ad 11 k0), .ref (ad 10 j0)])).length) Slot.unset).toArray = ls at hl ⊢
  have hl : lv_has ls 5 [(0, .ref (g 0)), (1, .ref (ad 11 k0)), (2, .ref (ad 10 j0))] := hl
  refine lv_iconst (v := 0) hx hb dX11_feastedFill_0 (by decide) ?_
  refine lv_istore_n (lv' := [(3, .int 0), (0, .ref (g 0)), (1, .ref (ad 11 k0)), (2, .ref (ad 10 j0))]) hx hb dX11_feastedFill_1 rfl hl (by decide) rfl (fun ls hl => ?_)
  refine lv_aload_n hx hb dX11_feastedFill_2 rfl (lv_at hl 2 rfl) ?_
  refine gf_RX11_128 S hK hP _ (xf_1 (by omega)) (v := .int ((Fn 126) k0)) rfl dX11_feastedFill_3 ?_
  refine lv_topi (fun y_1 ey_1 => ?_)
  obtain rfl : y_1 = (nI a0) := ey_1.trans ea
  refine lv_iconst (v := 1) hx hb dX11_feastedFill_6 (by decide) ?_
  refine lv_iadd hx hb dX11_feastedFill_7 ?_
  refine lv_topi (fun y_2 ey_2 => ?_)
  obtain rfl : y_2 = (nI (a0 + 1)) := ey_2.trans (nI_add a0 1)
  refine lv_istore (lv' := [(4, .int (nI (a0 + 1))), (3, .int 0), (0, .ref (g 0)), (1, .ref (ad 11 k0)), (2, .ref (ad 10 j0))]) hx hb dX11_feastedFill_8 hl (by decide) rfl (fun ls hl => ?_)
  have lp_10 : ∀ (n : Nat) (i10 : Nat) (x10_3 : Int32) , b0 + 1 - i10 < n → ((i10 ≤ 500)) → ∀ ls : Array Slot, lv_has ls 5 [(4, .int (nI i10)), (3, .int x10_3), (0, .ref (g 0)), (1, .ref (ad 11 k0)), (2, .ref (ad 10 j0))] → W p l e (RM 1 0 0) s m ([.ref (g 0), .ref (ad 11 k0), .ref (ad 10 j0)]).toArray below meth c s.heap [] 0 0 (MQ below (vp_Si (fun _ => True)) ([.ref (g 0), .ref (ad 11 k0), .ref (ad 10 j0)]).toArray s 0 0 (fun _ => False)) (F0 m 10 ls []) := by
    intro n10
    induction n10 with
    | zero => intros; omega
    | succ n10 ih10 =>
      intro i10 x10_3 hmu10 hinv10 ls hl
      have hr10 := hinv10
      have ti10 : (nI i10).toInt = (i10 : Int) := nI_toInt (by omega)
      refine lv_iload hx hb dX11_feastedFill_10 (lv_at hl 0 rfl) ?_
      refine lv_aload_n hx hb dX11_feastedFill_12 rfl (lv_at hl 3 rfl) ?_
      refine gf_RX11_196 S hK hP _ (xf_1 (by omega)) (v := .int ((Fn 121) k0)) rfl dX11_feastedFill_13 ?_
      refine lv_topi (fun y_3 ey_3 => ?_)
      obtain rfl : y_3 = (nI b0) := ey_3.trans eb
      have : (nI b0).toInt = ((b0 : Nat) : Int) := nI_toInt (by omega)
      refine lv_icmp_gt (tgt := 51) hx hb dX11_feastedFill_16 (by decide) (fun c_4 => ?_) (fun c_4 => ?_)
      ·
        have tc_4 : ((nI b0).toInt : Int) < (nI i10).toInt := Int32.lt_iff_toInt_lt.mp c_4
        refine lv_iload_n hx hb dX11_feastedFill_51 rfl (lv_at hl 1 rfl) ?_
        refine lv_aload_n hx hb dX11_feastedFill_52 rfl (lv_at hl 4 rfl) ?_
        refine gf_RX11_495 S hK hP _ (xf_0 (by omega)) (v := .int ((Fn 103) j0)) rfl dX11_feastedFill_53 ?_
        refine va_mmin hx hb (by rw [hml]; exact hl.1.symm) hown (S.2.2.2.2 _ (wT_t4 43 rfl rfl)) (S.2.2.2.2 _ (wT_t2 166 rfl rfl)) (S.2.2.2.2 _ (wT_t1 3 rfl rfl)) (S.2.2.2.2 _ (wT_t2 167 rfl rfl)) (Nat.le_of_ble_eq_true rfl) (Nat.le_of_ble_eq_true rfl) (Nat.le_of_ble_eq_true rfl) (Nat.le_of_ble_eq_true rfl) dX11_feastedFill_56 ?_
        exact W.iret (v := (if ((Fn 103) j0) < x10_3 then ((Fn 103) j0) else x10_3)) hx hb hr (fun t ht hW => ⟨(if ((Fn 103) j0) < x10_3 then ((Fn 103) j0) else x10_3), rfl, trivial, ht⟩) (fun _ h => absurd h List.not_mem_nil) dX11_feastedFill_59
      ·
        have tc_4 : ((nI i10).toInt : Int) ≤ (nI b0).toInt := Int32.le_iff_toInt_le.mp (Int32.not_lt.mp c_4)
        refine lv_iload_n hx hb dX11_feastedFill_19 rfl (lv_at hl 1 rfl) ?_
        refine lv_aload_n hx hb dX11_feastedFill_20 rfl (lv_at hl 4 rfl) ?_
        refine gf_RX11_459 S hK hP _ (xf_0 (by omega)) (v := .int ((Fn 102) j0)) rfl dX11_feastedFill_21 ?_
        refine lv_bipush (v := 100) hx hb dX11_feastedFill_24 (by decide) ?_
        refine lv_aload_n hx hb dX11_feastedFill_26 rfl (lv_at hl 2 rfl) ?_
        refine gf_RX11_47 S hK hP 0 xo_0 (v := .ref (g 8)) rfl dX11_feastedFill_27 ?_
        refine gf_RX11_492 S hK hP 6 xo_6 (v := .ref (g 23)) rfl dX11_feastedFill_30 ?_
        refine lv_iload hx hb dX11_feastedFill_33 (lv_at hl 0 rfl) ?_
        refine vp_callSi (runS_r (As := [.ref (g 23), .int (nI i10)]) (rest := [.int 100, .int ((Fn 102) j0), .int x10_3]) S (q_l_at l D cI cB cZ (g 23) 400 (Fn 23) (nI i10) (by omega)) kS_RX11_192 hK hP [10] (one_is xo_10) ⟨Nat.le_of_ble_eq_true rfl, Nat.le_of_ble_eq_true rfl⟩ ⟨Nat.le_of_ble_eq_true rfl, Nat.le_of_ble_eq_true rfl⟩ rfl hl.1 rfl (Nat.le_of_ble_eq_true rfl) dX11_feastedFill_35) (fun r_5 h_6 => ?_)
        subst h_6
        refine lv_iadd hx hb dX11_feastedFill_38 ?_
        refine lv_imul hx hb dX11_feastedFill_39 ?_
        refine lv_bipush (v := 100) hx hb dX11_feastedFill_40 (by decide) ?_
        refine lv_idiv hx hb dX11_feastedFill_42 (by decide) ?_
        refine lv_iadd hx hb dX11_feastedFill_43 ?_
        refine lv_istore_n (lv' := [(3, .int (x10_3 + ((((Fn 102) j0) * (100 + (atM (Fn 23) 400 (nI i10)))) / 100))), (4, .int (nI i10)), (0, .ref (g 0)), (1, .ref (ad 11 k0)), (2, .ref (ad 10 j0))]) hx hb dX11_feastedFill_44 rfl hl (by decide) rfl (fun ls hl => ?_)
        refine lv_iinc (v := (nI (i10 + 1))) (lv' := [(4, .int (nI (i10 + 1))), (3, .int (x10_3 + ((((Fn 102) j0) * (100 + (atM (Fn 23) 400 (nI i10)))) / 100))), (0, .ref (g 0)), (1, .ref (ad 11 k0)), (2, .ref (ad 10 j0))]) hx hb dX11_feastedFill_45 hl (k := 1) rfl (nI_1 _) (by decide) rfl (fun ls hl => ?_)
        refine lv_goto (tgt := 10) hx hb dX11_feastedFill_48 (by decide) ?_
        exact ih10 (i10 + 1) (x10_3 + ((((Fn 102) j0) * (100 + (atM (Fn 23) 400 (nI i10)))) / 100)) (by omega) (by omega) ls (lv_sub hl [0, 1, 2, 3, 4] rfl)
  exact lp_10 _ (a0 + 1) 0 (Nat.lt_succ_self _) (by omega) ls (lv_sub hl [0, 1, 2, 3, 4] rfl)
