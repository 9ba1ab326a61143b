set_option maxRecDepth 100000 in
set_option maxHeartbeats 4000000 in
theorem q_XstopsOf (l : Launch) (D : va_G) (cI cB cZ : ClassId) (zz qq vv : Nat) (bt : Nat → Int32) (g : Nat → Nat) (ad : Nat → Nat → Nat) (cn : Nat → Nat) (In : Nat → Int32) (Fn : Nat → Nat → Int32) (v0 v1 : Int32) (hB : CBX cn) : Met l yX11_stopsOf (CWS yX11_stopsOf cX11_stopsOf 6 (some .int)) (RM 0 0 0) (PBrx [.ref (g 0), .int v0, .int v1] D cI cB cZ zz qq vv bt (wX cI (D.1 99) zz g ad cn In Fn)) (vp_Si (fun _ => True)) 0 0 (fun _ => False) := by
  refine Met.ofW (cc := cX11_stopsOf) (maxL := 6) (ret := (some .int)) (by decide) rfl ?_
  intro p e s m args below meth c s₁ B hml hv
  obtain ⟨rfl, hP, hK, hXS⟩ := hv
  have hS : va_S (fun _ => False) s.heap s.heap [] := va_S.rf
  have hx := B.exec
  have hb := B.bytes
  have hr := B.returns
  have hts := atoms_spec (ws := (CWS yX11_stopsOf cX11_stopsOf 6 (some .int))) B.pre
  have hown : s.vm.findClass RX11 = some m.cls := findClass_of_methodNamed B.named
  have hlocks := B.notSynchronized
  have S : SF p m c cX11_stopsOf 6 s ([.ref (g 0), .int v0, .int v1]).toArray RX11 := ⟨hx, hb, hml, hown, fun w h => hts w (List.mem_cons_of_mem _ h)⟩
  have hl := lv_entry ([.ref (g 0), .int v0, .int v1]) (n := 6) (Nat.le_of_ble_eq_true rfl)
  rw [lg_entry_eq]
  generalize (lg_sl ([.ref (g 0), .int v0, .int v1]) ++ List.replicate (6 - (lg_sl ([.ref (g 0), .int v0, .int v1])).length) Slot.unset).toArray = ls at hl ⊢
  have hl : lv_has ls 6 [(0, .ref (g 0)), (1, .int v0), (2, .int v1)] := hl
  refine lv_iconst (v := 0) hx hb dX11_stopsOf_0 (by decide) ?_
  refine lv_istore_n (lv' := [(3, .int 0), (0, .ref (g 0)), (1, .int v0), (2, .int v1)]) hx hb dX11_stopsOf_1 rfl hl (by decide) rfl (fun ls hl => ?_)
  refine lv_iload_n hx hb dX11_stopsOf_2 rfl (lv_at hl 2 rfl) ?_
  refine lv_istore (lv' := [(4, .int v0), (3, .int 0), (0, .ref (g 0)), (1, .int v0), (2, .int v1)]) hx hb dX11_stopsOf_3 hl (by decide) rfl (fun ls hl => ?_)
  refine lv_aload_n hx hb dX11_stopsOf_5 rfl (lv_at hl 2 rfl) ?_
  refine gf_RX11_54 S hK hP 0 xo_0 (v := .ref (g 9)) rfl dX11_stopsOf_6 ?_
  refine gf_RX11_267 S hK hP 17 xo_17 (v := .int (nI (cn 4))) rfl dX11_stopsOf_9 ?_
  refine lv_iconst (v := 1) hx hb dX11_stopsOf_12 (by decide) ?_
  refine lv_isub hx hb dX11_stopsOf_13 ?_
  refine lv_topi (fun y_1 ey_1 => ?_)
  obtain rfl : y_1 = (nI (cn 4) + (-1)) := ey_1.trans (Int32.sub_eq_add_neg ..)
  refine lv_istore (lv' := [(5, .int (nI (cn 4) + (-1))), (4, .int v0), (3, .int 0), (0, .ref (g 0)), (1, .int v0), (2, .int v1)]) hx hb dX11_stopsOf_14 hl (by decide) rfl (fun ls hl => ?_)
  have lp_16 : ∀ (n : Nat) (x16_3 : Int32) (x16_4 : Int32) (k16 : Nat) , k16 < n → ((k16 ≤ cn 4)) → ∀ ls : Array Slot, lv_has ls 6 [(5, .int (nI k16 + (-1))), (4, .int x16_4), (3, .int x16_3), (0, .ref (g 0)), (1, .int v0), (2, .int v1)] → W p l e (RM 0 0 0) s m ([.ref (g 0), .int v0, .int v1]).toArray below meth c s.heap [] 0 0 (MQ below (vp_Si (fun _ => True)) ([.ref (g 0), .int v0, .int v1]).toArray s 0 0 (fun _ => False)) (F0 m 16 ls []) := by
    intro n16
    induction n16 with
    | zero => intros; omega
    | succ n16 ih16 =>
      intro x16_3 x16_4 k16 hmu16 hinv16 ls hl
      have hx16_0 := hinv16
      rcases k16 with _ | j16
      ·
        rw [show nI 0 + (-1) = (-1 : Int32) by decide] at hl
        have hl : lv_has ls 6 [(5, .int (-1)), (4, .int x16_4), (3, .int x16_3), (0, .ref (g 0)), (1, .int v0), (2, .int v1)] := hl
        refine lv_iload hx hb dX11_stopsOf_16 (lv_at hl 0 rfl) ?_
        refine lv_if_lt (tgt := 65) hx hb dX11_stopsOf_18 (by decide) (fun _ => ?_) (fun h => absurd h (by decide))
        refine lv_iload_n hx hb dX11_stopsOf_65 rfl (lv_at hl 2 rfl) ?_
        exact W.iret (v := x16_3) hx hb hr (fun t ht hW => ⟨x16_3, rfl, trivial, ht⟩) (fun _ h => absurd h List.not_mem_nil) dX11_stopsOf_66
      ·
        rw [nI_m1] at hl
        have hl : lv_has ls 6 [(5, .int (nI j16)), (4, .int x16_4), (3, .int x16_3), (0, .ref (g 0)), (1, .int v0), (2, .int v1)] := hl
        refine lv_iload hx hb dX11_stopsOf_16 (lv_at hl 0 rfl) ?_
        have : (nI j16).toInt = ((j16 : Nat) : Int) := nI_toInt (by omega)
        refine lv_if_lt (tgt := 65) hx hb dX11_stopsOf_18 (by decide) (fun c_2 => False.elim (by have tc_2 : ((nI j16).toInt : Int) < 0 := Int32.lt_iff_toInt_lt.mp c_2; omega)) (fun c_2 => ?_)
        have tc_2 : (0 : Int) ≤ (nI j16).toInt := Int32.le_iff_toInt_le.mp (Int32.not_lt.mp c_2)
        refine lv_aload_n hx hb dX11_stopsOf_21 rfl (lv_at hl 3 rfl) ?_
        refine gf_RX11_311 S hK hP 0 xo_0 (v := .int (nI (cn 1))) rfl dX11_stopsOf_22 ?_
        have : (nI (cn 1)).toInt = (((cn 1) : Nat) : Int) := nI_toInt (by omega)
        refine lv_if_le (tgt := 65) hx hb dX11_stopsOf_25 (by decide) (fun c_3 => ?_) (fun c_3 => ?_)
        ·
          have tc_3 : ((nI (cn 1)).toInt : Int) ≤ 0 := Int32.le_iff_toInt_le.mp c_3
          refine lv_iload_n hx hb dX11_stopsOf_65 rfl (lv_at hl 2 rfl) ?_
          exact W.iret (v := x16_3) hx hb hr (fun t ht hW => ⟨x16_3, rfl, trivial, ht⟩) (fun _ h => absurd h List.not_mem_nil) dX11_stopsOf_66
        ·
          have tc_3 : (0 : Int) < (nI (cn 1)).toInt := Int32.lt_iff_toInt_lt.mp (Int32.not_le.mp c_3)
          refine lv_iload_n hx hb dX11_stopsOf_28 rfl (lv_at hl 2 rfl) ?_
          refine lv_iload hx hb dX11_stopsOf_29 (lv_at hl 1 rfl) ?_
          refine lv_aload_n hx hb dX11_stopsOf_31 rfl (lv_at hl 3 rfl) ?_
          refine gf_RX11_311 S hK hP 0 xo_0 (v := .int (nI (cn 1))) rfl dX11_stopsOf_32 ?_
          refine lv_irem hx hb dX11_stopsOf_35 (nI_nz (by omega) (by omega)) ?_
          refine lv_iload_n hx hb dX11_stopsOf_36 rfl (lv_at hl 5 rfl) ?_
          refine lv_icmp_ne (tgt := 47) hx hb dX11_stopsOf_37 (by decide) (fun c_4 => ?_) (fun c_4 => ?_)
          ·
            have tc_4 : ((x16_4 - x16_4 / (nI (cn 1)) * (nI (cn 1))).toInt : Int) ≠ v1.toInt := fun q => c_4 (Int32.toInt_inj.mp q)
            refine lv_iconst (v := 0) hx hb dX11_stopsOf_47 (by decide) ?_
            refine lv_ior hx hb dX11_stopsOf_48 ?_
            refine lv_istore_n (lv' := [(3, .int (x16_3 ||| 0)), (5, .int (nI j16)), (4, .int x16_4), (0, .ref (g 0)), (1, .int v0), (2, .int v1)]) hx hb dX11_stopsOf_49 rfl hl (by decide) rfl (fun ls hl => ?_)
            refine lv_iload hx hb dX11_stopsOf_50 (lv_at hl 2 rfl) ?_
            refine lv_aload_n hx hb dX11_stopsOf_52 rfl (lv_at hl 3 rfl) ?_
            refine gf_RX11_311 S hK hP 0 xo_0 (v := .int (nI (cn 1))) rfl dX11_stopsOf_53 ?_
            refine lv_idiv hx hb dX11_stopsOf_56 (nI_nz (by omega) (by omega)) ?_
            refine lv_istore (lv' := [(4, .int (x16_4 / (nI (cn 1)))), (3, .int (x16_3 ||| 0)), (5, .int (nI j16)), (0, .ref (g 0)), (1, .int v0), (2, .int v1)]) hx hb dX11_stopsOf_57 hl (by decide) rfl (fun ls hl => ?_)
            refine lv_iinc (v := ((nI j16) + (-1))) (lv' := [(5, .int ((nI j16) + (-1))), (4, .int (x16_4 / (nI (cn 1)))), (3, .int (x16_3 ||| 0)), (0, .ref (g 0)), (1, .int v0), (2, .int v1)]) hx hb dX11_stopsOf_59 hl (k := 2) rfl rfl (by decide) rfl (fun ls hl => ?_)
            refine lv_goto (tgt := 16) hx hb dX11_stopsOf_62 (by decide) ?_
            exact ih16 (x16_3 ||| 0) (x16_4 / (nI (cn 1))) j16 (by omega) (by omega) ls (lv_sub hl [0, 1, 2, 3, 4, 5] rfl)
          ·
            have tc_4 : ((x16_4 - x16_4 / (nI (cn 1)) * (nI (cn 1))).toInt : Int) = v1.toInt := congrArg Int32.toInt c_4
            refine lv_iconst (v := 1) hx hb dX11_stopsOf_40 (by decide) ?_
            refine lv_iload hx hb dX11_stopsOf_41 (lv_at hl 0 rfl) ?_
            refine lv_ishl hx hb dX11_stopsOf_43 ?_
            refine lv_goto (tgt := 48) hx hb dX11_stopsOf_44 (by decide) ?_
            refine lv_ior hx hb dX11_stopsOf_48 ?_
            refine lv_istore_n (lv' := [(3, .int (x16_3 ||| (1 <<< ((nI j16) &&& 31)))), (5, .int (nI j16)), (4, .int x16_4), (0, .ref (g 0)), (1, .int v0), (2, .int v1)]) hx hb dX11_stopsOf_49 rfl hl (by decide) rfl (fun ls hl => ?_)
            refine lv_iload hx hb dX11_stopsOf_50 (lv_at hl 2 rfl) ?_
            refine lv_aload_n hx hb dX11_stopsOf_52 rfl (lv_at hl 3 rfl) ?_
            refine gf_RX11_311 S hK hP 0 xo_0 (v := .int (nI (cn 1))) rfl dX11_stopsOf_53 ?_
            refine lv_idiv hx hb dX11_stopsOf_56 (nI_nz (by omega) (by omega)) ?_
            refine lv_istore (lv' := [(4, .int (x16_4 / (nI (cn 1)))), (3, .int (x16_3 ||| (1 <<< ((nI j16) &&& 31)))), (5, .int (nI j16)), (0, .ref (g 0)), (1, .int v0), (2, .int v1)]) hx hb dX11_stopsOf_57 hl (by decide) rfl (fun ls hl => ?_)
            refine lv_iinc (v := ((nI j16) + (-1))) (lv' := [(5, .int ((nI j16) + (-1))), (4, .int (x16_4 / (nI (cn 1)))), (3, .int (x16_3 ||| (1 <<< ((nI j16) &&& 31)))), (0, .ref (g 0)), (1, .int v0), (2, .int v1)]) hx hb dX11_stopsOf_59 hl (k := 2) rfl rfl (by decide) rfl (fun ls hl => ?_)
            refine lv_goto (tgt := 16) hx hb dX11_stopsOf_62 (by decide) ?_
            exact ih16 (x16_3 ||| (1 <<< ((nI j16) &&& 31))) (x16_4 / (nI (cn 1))) j16 (by omega) (by omega) ls (lv_sub hl [0, 1, 2, 3, 4, 5] rfl)
  exact lp_16 _ 0 v0 (cn 4) (Nat.lt_succ_self _) (Nat.le_refl _) ls (lv_sub hl [0, 1, 2, 3, 4, 5] rfl)
