set_option maxRecDepth 100000 in
set_option maxHeartbeats 4000000 in
theorem q_XbestShares (l : Launch) (D : va_G) (cI cB cZ : ClassId) (zz qq vv : Nat) (bt : Nat → Int32) (g : Nat → Nat) (ad : Nat → Nat → Nat) (cn : Nat → Nat) (In : Nat → Int32) (Fn : Nat → Nat → Int32) (v0 : Int32) (hB : CBX cn) : Met l yX11_bestShares (CWS yX11_bestShares cX11_bestShares 7 (some .int)) (RM 3 0 0) (PBrx [.ref (g 0), .int v0] D cI cB cZ zz qq vv bt (wX cI (D.1 99) zz g ad cn In Fn)) (vp_Si (fun _ => True)) 0 0 (fun _ => False) := by
  refine Met.ofW (cc := cX11_bestShares) (maxL := 7) (ret := (some .int)) (by decide) rfl ?_
  intro p e s m args below meth c s₁ B hml hv
  obtain ⟨rfl, hP, hK, hXS⟩ := hv
  have hS : va_S (fun _ => False) s.heap s.heap [] := va_S.rf
  have hx := B.exec
  have hb := B.bytes
  have hr := B.returns
  have hts := atoms_spec (ws := (CWS yX11_bestShares cX11_bestShares 7 (some .int))) B.pre
  have hown : s.vm.findClass RX11 = some m.cls := findClass_of_methodNamed B.named
  have hlocks := B.notSynchronized
  have S : SF p m c cX11_bestShares 7 s ([.ref (g 0), .int v0]).toArray RX11 := ⟨hx, hb, hml, hown, fun w h => hts w (List.mem_cons_of_mem _ h)⟩
  have hl := lv_entry ([.ref (g 0), .int v0]) (n := 7) (Nat.le_of_ble_eq_true rfl)
  rw [lg_entry_eq]
  generalize (lg_sl ([.ref (g 0), .int v0]) ++ List.replicate (7 - (lg_sl ([.ref (g 0), .int v0])).length) Slot.unset).toArray = ls at hl ⊢
  have hl : lv_has ls 7 [(0, .ref (g 0)), (1, .int v0)] := hl
  refine lv_iconst (v := 1) hx hb dX11_bestShares_0 (by decide) ?_
  refine lv_istore_n (lv' := [(2, .int 1), (0, .ref (g 0)), (1, .int v0)]) hx hb dX11_bestShares_1 rfl hl (by decide) rfl (fun ls hl => ?_)
  refine lv_iconst (v := 0) hx hb dX11_bestShares_2 (by decide) ?_
  refine lv_istore_n (lv' := [(3, .int 0), (2, .int 1), (0, .ref (g 0)), (1, .int v0)]) hx hb dX11_bestShares_3 rfl hl (by decide) rfl (fun ls hl => ?_)
  have lp_4 : ∀ (n : Nat) (i4 : Nat) (w4 : Nat) , cn 4 - i4 < n → (i4 ≤ cn 4 ∧ (w4 ≤ 3 ^ i4)) → ∀ ls : Array Slot, lv_has ls 7 [(3, .int (nI i4)), (2, .int (nI w4)), (0, .ref (g 0)), (1, .int v0)] → W p l e (RM 3 0 0) s m ([.ref (g 0), .int v0]).toArray below meth c s.heap [] 0 0 (MQ below (vp_Si (fun _ => True)) ([.ref (g 0), .int v0]).toArray s 0 0 (fun _ => False)) (F0 m 4 ls []) := by
    intro n4
    induction n4 with
    | zero => intros; omega
    | succ n4 ih4 =>
      intro i4 w4 hmu4 hinv4 ls hl
      obtain ⟨hr4, hx4_0⟩ := hinv4
      have ti4 : (nI i4).toInt = (i4 : Int) := nI_toInt (by omega)
      refine lv_iload_n hx hb dX11_bestShares_4 rfl (lv_at hl 0 rfl) ?_
      refine lv_aload_n hx hb dX11_bestShares_5 rfl (lv_at hl 2 rfl) ?_
      refine gf_RX11_54 S hK hP 0 xo_0 (v := .ref (g 9)) rfl dX11_bestShares_6 ?_
      refine gf_RX11_267 S hK hP 17 xo_17 (v := .int (nI (cn 4))) rfl dX11_bestShares_9 ?_
      have : (nI (cn 4)).toInt = (((cn 4) : Nat) : Int) := nI_toInt (by omega)
      refine lv_icmp_ge (tgt := 28) hx hb dX11_bestShares_12 (by decide) (fun c_1 => ?_) (fun c_1 => ?_)
      ·
        have tc_1 : ((nI (cn 4)).toInt : Int) ≤ (nI i4).toInt := Int32.le_iff_toInt_le.mp c_1
        have hw3 : w4 ≤ 6561 := Nat.le_trans hx4_0 (show 3 ^ i4 ≤ 3 ^ 8 from Nat.pow_le_pow_right (by omega) (by omega))
        refine lv_iconst (v := (-1)) hx hb dX11_bestShares_28 (by decide) ?_
        refine lv_istore_n (lv' := [(3, .int (-1)), (2, .int (nI w4)), (0, .ref (g 0)), (1, .int v0)]) hx hb dX11_bestShares_29 rfl hl (by decide) rfl (fun ls hl => ?_)
        refine lv_iconst (v := 0) hx hb dX11_bestShares_30 (by decide) ?_
        refine lv_istore (lv' := [(4, .int 0), (3, .int (-1)), (2, .int (nI w4)), (0, .ref (g 0)), (1, .int v0)]) hx hb dX11_bestShares_31 hl (by decide) rfl (fun ls hl => ?_)
        refine lv_iconst (v := 0) hx hb dX11_bestShares_33 (by decide) ?_
        refine lv_istore (lv' := [(5, .int 0), (4, .int 0), (3, .int (-1)), (2, .int (nI w4)), (0, .ref (g 0)), (1, .int v0)]) hx hb dX11_bestShares_34 hl (by decide) rfl (fun ls hl => ?_)
        have lp_36 : ∀ (n : Nat) (i36 : Nat) (x36_3 : Int32) (x36_4 : Int32) , w4 - i36 < n → (i36 ≤ w4) → ∀ ls : Array Slot, lv_has ls 7 [(5, .int (nI i36)), (4, .int x36_4), (3, .int x36_3), (2, .int (nI w4)), (0, .ref (g 0)), (1, .int v0)] → W p l e (RM 3 0 0) s m ([.ref (g 0), .int v0]).toArray below meth c s.heap [] 0 0 (MQ below (vp_Si (fun _ => True)) ([.ref (g 0), .int v0]).toArray s 0 0 (fun _ => False)) (F0 m 36 ls []) := by
          intro n36
          induction n36 with
          | zero => intros; omega
          | succ n36 ih36 =>
            intro i36 x36_3 x36_4 hmu36 hinv36 ls hl
            have hr36 := hinv36
            have ti36 : (nI i36).toInt = (i36 : Int) := nI_toInt (by omega)
            refine lv_iload hx hb dX11_bestShares_36 (lv_at hl 0 rfl) ?_
            refine lv_iload_n hx hb dX11_bestShares_38 rfl (lv_at hl 3 rfl) ?_
            have : (nI w4).toInt = ((w4 : Nat) : Int) := nI_toInt (by omega)
            refine lv_icmp_ge (tgt := 82) hx hb dX11_bestShares_39 (by decide) (fun c_2 => ?_) (fun c_2 => ?_)
            ·
              have tc_2 : ((nI w4).toInt : Int) ≤ (nI i36).toInt := Int32.le_iff_toInt_le.mp c_2
              refine lv_iload_n hx hb dX11_bestShares_82 rfl (lv_at hl 2 rfl) ?_
              exact W.iret (v := x36_3) hx hb hr (fun t ht hW => ⟨x36_3, rfl, trivial, ht⟩) (fun _ h => absurd h List.not_mem_nil) dX11_bestShares_83
            ·
              have tc_2 : ((nI i36).toInt : Int) < (nI w4).toInt := Int32.lt_iff_toInt_lt.mp (Int32.not_le.mp c_2)
              refine lv_aload_n hx hb dX11_bestShares_42 rfl (lv_at hl 4 rfl) ?_
              refine lv_iload hx hb dX11_bestShares_43 (lv_at hl 0 rfl) ?_
              refine lv_iload_n hx hb dX11_bestShares_45 rfl (lv_at hl 5 rfl) ?_
              refine vp_callSi (runV_rxa (As := [.int (nI i36), .int v0]) (rest := []) S (q_XsharedLength l D cI cB cZ zz qq vv bt g ad cn In Fn (nI i36) v0 hB) kV_RX11_327 hK hXS hS hP 0 xo_0 rfl rfl ⟨Nat.le_of_ble_eq_true rfl, Nat.le_of_ble_eq_true rfl⟩ ⟨Nat.le_of_ble_eq_true rfl, Nat.le_of_ble_eq_true rfl⟩ rfl hl.1 rfl (Nat.le_of_ble_eq_true rfl) dX11_bestShares_46) (fun r_3 h_4 => ?_)
              refine lv_istore (lv' := [(6, .int r_3), (5, .int (nI i36)), (4, .int x36_4), (3, .int x36_3), (2, .int (nI w4)), (0, .ref (g 0)), (1, .int v0)]) hx hb dX11_bestShares_49 hl (by decide) rfl (fun ls hl => ?_)
              refine lv_iload hx hb dX11_bestShares_51 (lv_at hl 0 rfl) ?_
              refine lv_iconst (v := (-1)) hx hb dX11_bestShares_53 (by decide) ?_
              refine lv_icmp_eq (tgt := 76) hx hb dX11_bestShares_54 (by decide) (fun c_5 => ?_) (fun c_5 => ?_)
              ·
                have tc_5 : (r_3.toInt : Int) = (-1) := congrArg Int32.toInt c_5
                refine lv_iinc (v := (nI (i36 + 1))) (lv' := [(5, .int (nI (i36 + 1))), (6, .int r_3), (4, .int x36_4), (3, .int x36_3), (2, .int (nI w4)), (0, .ref (g 0)), (1, .int v0)]) hx hb dX11_bestShares_76 hl (k := 1) rfl (nI_1 _) (by decide) rfl (fun ls hl => ?_)
                refine lv_goto (tgt := 36) hx hb dX11_bestShares_79 (by decide) ?_
                exact ih36 (i36 + 1) x36_3 x36_4 (by omega) (by omega) ls (lv_sub hl [0, 2, 3, 4, 5, 6] rfl)
              ·
                have tc_5 : (r_3.toInt : Int) ≠ (-1) := fun q => c_5 (Int32.toInt_inj.mp q)
                refine lv_iload_n hx hb dX11_bestShares_57 rfl (lv_at hl 3 rfl) ?_
                refine lv_iconst (v := (-1)) hx hb dX11_bestShares_58 (by decide) ?_
                refine lv_icmp_eq (tgt := 69) hx hb dX11_bestShares_59 (by decide) (fun c_6 => ?_) (fun c_6 => ?_)
                ·
                  have tc_6 : (x36_3.toInt : Int) = (-1) := congrArg Int32.toInt c_6
                  refine lv_iload hx hb dX11_bestShares_69 (lv_at hl 1 rfl) ?_
                  refine lv_istore_n (lv' := [(3, .int (nI i36)), (6, .int r_3), (5, .int (nI i36)), (4, .int x36_4), (2, .int (nI w4)), (0, .ref (g 0)), (1, .int v0)]) hx hb dX11_bestShares_71 rfl hl (by decide) rfl (fun ls hl => ?_)
                  refine lv_iload hx hb dX11_bestShares_72 (lv_at hl 1 rfl) ?_
                  refine lv_istore (lv' := [(4, .int r_3), (3, .int (nI i36)), (6, .int r_3), (5, .int (nI i36)), (2, .int (nI w4)), (0, .ref (g 0)), (1, .int v0)]) hx hb dX11_bestShares_74 hl (by decide) rfl (fun ls hl => ?_)
                  refine lv_iinc (v := (nI (i36 + 1))) (lv' := [(5, .int (nI (i36 + 1))), (4, .int r_3), (3, .int (nI i36)), (6, .int r_3), (2, .int (nI w4)), (0, .ref (g 0)), (1, .int v0)]) hx hb dX11_bestShares_76 hl (k := 3) rfl (nI_1 _) (by decide) rfl (fun ls hl => ?_)
                  refine lv_goto (tgt := 36) hx hb dX11_bestShares_79 (by decide) ?_
                  exact ih36 (i36 + 1) (nI i36) r_3 (by omega) (by omega) ls (lv_sub hl [0, 1, 2, 4, 5, 6] rfl)
                ·
                  have tc_6 : (x36_3.toInt : Int) ≠ (-1) := fun q => c_6 (Int32.toInt_inj.mp q)
                  refine lv_iload hx hb dX11_bestShares_62 (lv_at hl 0 rfl) ?_
                  refine lv_iload hx hb dX11_bestShares_64 (lv_at hl 2 rfl) ?_
                  refine lv_icmp_ge (tgt := 76) hx hb dX11_bestShares_66 (by decide) (fun c_7 => ?_) (fun c_7 => ?_)
                  ·
                    have tc_7 : (x36_4.toInt : Int) ≤ r_3.toInt := Int32.le_iff_toInt_le.mp c_7
                    refine lv_iinc (v := (nI (i36 + 1))) (lv' := [(5, .int (nI (i36 + 1))), (6, .int r_3), (4, .int x36_4), (3, .int x36_3), (2, .int (nI w4)), (0, .ref (g 0)), (1, .int v0)]) hx hb dX11_bestShares_76 hl (k := 1) rfl (nI_1 _) (by decide) rfl (fun ls hl => ?_)
                    refine lv_goto (tgt := 36) hx hb dX11_bestShares_79 (by decide) ?_
                    exact ih36 (i36 + 1) x36_3 x36_4 (by omega) (by omega) ls (lv_sub hl [0, 2, 3, 4, 5, 6] rfl)
                  ·
                    have tc_7 : (r_3.toInt : Int) < x36_4.toInt := Int32.lt_iff_toInt_lt.mp (Int32.not_le.mp c_7)
                    refine lv_iload hx hb dX11_bestShares_69 (lv_at hl 1 rfl) ?_
                    refine lv_istore_n (lv' := [(3, .int (nI i36)), (6, .int r_3), (5, .int (nI i36)), (4, .int x36_4), (2, .int (nI w4)), (0, .ref (g 0)), (1, .int v0)]) hx hb dX11_bestShares_71 rfl hl (by decide) rfl (fun ls hl => ?_)
                    refine lv_iload hx hb dX11_bestShares_72 (lv_at hl 1 rfl) ?_
                    refine lv_istore (lv' := [(4, .int r_3), (3, .int (nI i36)), (6, .int r_3), (5, .int (nI i36)), (2, .int (nI w4)), (0, .ref (g 0)), (1, .int v0)]) hx hb dX11_bestShares_74 hl (by decide) rfl (fun ls hl => ?_)
                    refine lv_iinc (v := (nI (i36 + 1))) (lv' := [(5, .int (nI (i36 + 1))), (4, .int r_3), (3, .int (nI i36)), (6, .int r_3), (2, .int (nI w4)), (0, .ref (g 0)), (1, .int v0)]) hx hb dX11_bestShares_76 hl (k := 3) rfl (nI_1 _) (by decide) rfl (fun ls hl => ?_)
                    refine lv_goto (tgt := 36) hx hb dX11_bestShares_79 (by decide) ?_
                    exact ih36 (i36 + 1) (nI i36) r_3 (by omega) (by omega) ls (lv_sub hl [0, 1, 2, 4, 5, 6] rfl)
        exact lp_36 _ 0 (-1) 0 (Nat.lt_succ_self _) (by omega) ls (lv_sub hl [0, 1, 2, 3, 4, 5] rfl)
      ·
        have tc_1 : ((nI i4).toInt : Int) < (nI (cn 4)).toInt := Int32.lt_iff_toInt_lt.mp (Int32.not_le.mp c_1)
        refine lv_iload_n hx hb dX11_bestShares_15 rfl (lv_at hl 1 rfl) ?_
        refine lv_aload_n hx hb dX11_bestShares_16 rfl (lv_at hl 2 rfl) ?_
        refine gf_RX11_311 S hK hP 0 xo_0 (v := .int (nI (cn 1))) rfl dX11_bestShares_17 ?_
        refine lv_imul hx hb dX11_bestShares_20 ?_
        refine lv_topi (fun y_8 ey_8 => ?_)
        obtain rfl : y_8 = (nI (w4 * (cn 1))) := ey_8.trans (pk_mul w4 (cn 1))
        refine lv_istore_n (lv' := [(2, .int (nI (w4 * (cn 1)))), (3, .int (nI i4)), (0, .ref (g 0)), (1, .int v0)]) hx hb dX11_bestShares_21 rfl hl (by decide) rfl (fun ls hl => ?_)
        refine lv_iinc (v := (nI (i4 + 1))) (lv' := [(3, .int (nI (i4 + 1))), (2, .int (nI (w4 * (cn 1)))), (0, .ref (g 0)), (1, .int v0)]) hx hb dX11_bestShares_22 hl (k := 1) rfl (nI_1 _) (by decide) rfl (fun ls hl => ?_)
        refine lv_goto (tgt := 4) hx hb dX11_bestShares_25 (by decide) ?_
        exact ih4 (i4 + 1) (w4 * (cn 1)) (by omega) ⟨(by omega), (w3m hx4_0 (by omega))⟩ ls (lv_sub hl [0, 1, 2, 3] rfl)
  exact lp_4 _ 0 1 (Nat.lt_succ_self _) ⟨(by omega), (Nat.le_refl _)⟩ ls (lv_sub hl [0, 1, 2, 3] rfl)
