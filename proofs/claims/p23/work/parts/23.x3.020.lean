set_option maxRecDepth 100000 in
set_option maxHeartbeats 4000000 in
theorem q_XisBeside (l : Launch) (D : va_G) (cI cB cZ : ClassId) (zz qq vv : Nat) (bt : Nat → Int32) (g : Nat → Nat) (ad : Nat → Nat → Nat) (cn : Nat → Nat) (In : Nat → Int32) (Fn : Nat → Nat → Int32) (k0 : Nat) (v1 v2 : Int32) (hB : CBX cn) (hk : k0 < cn 10) : Met l yX11_isBeside (CWS yX11_isBeside cX11_isBeside 6 (some .boolean)) (RM 3 0 0) (PBrx [.ref (g 0), .ref (ad 10 k0), .int v1, .int v2] D cI cB cZ zz qq vv bt (wX cI (D.1 99) zz g ad cn In Fn)) (vp_Si (fun r => r = 0 ∨ r = 1)) 0 0 (fun _ => False) := by
  refine Met.ofW (cc := cX11_isBeside) (maxL := 6) (ret := (some .boolean)) (by decide) rfl ?_
  intro p e s m args below meth c s₁ B hml hv
  obtain ⟨rfl, hP, hK, hXS⟩ := hv
  have hS : va_S (fun _ => False) s.heap s.heap [] := va_S.rf
  have hx := B.exec
  have hb := B.bytes
  have hr := B.returns
  have hts := atoms_spec (ws := (CWS yX11_isBeside cX11_isBeside 6 (some .boolean))) B.pre
  have hown : s.vm.findClass RX11 = some m.cls := findClass_of_methodNamed B.named
  have hlocks := B.notSynchronized
  have S : SF p m c cX11_isBeside 6 s ([.ref (g 0), .ref (ad 10 k0), .int v1, .int v2]).toArray RX11 := ⟨hx, hb, hml, hown, fun w h => hts w (List.mem_cons_of_mem _ h)⟩
  have hl := lv_entry ([.ref (g 0), .ref (ad 10 k0), .int v1, .int v2]) (n := 6) (Nat.le_of_ble_eq_true rfl)
  rw [lg_entry_eq]
  generalize (lg_sl ([.ref (g 0), .ref (ad 10 k0), .int v1, .int v2]) ++ List.replicate (6 - (lg_sl ([.ref (g 0), .ref (ad 10 k0), .int v1, .int v2])).length) Slot.unset).toArray = ls at hl ⊢
  have hl : lv_has ls 6 [(0, .ref (g 0)), (1, .ref (ad 10 k0)), (2, .int v1), (3, .int v2)] := hl
  refine lv_iconst (v := 0) hx hb dX11_isBeside_0 (by decide) ?_
  refine lv_istore (lv' := [(4, .int 0), (0, .ref (g 0)), (1, .ref (ad 10 k0)), (2, .int v1), (3, .int v2)]) hx hb dX11_isBeside_1 hl (by decide) rfl (fun ls hl => ?_)
  have lp_3 : ∀ (n : Nat) (i3 : Nat) , cn 14 - i3 < n → (i3 ≤ cn 14) → ∀ ls : Array Slot, lv_has ls 6 [(4, .int (nI i3)), (0, .ref (g 0)), (1, .ref (ad 10 k0)), (2, .int v1), (3, .int v2)] → W p l e (RM 3 0 0) s m ([.ref (g 0), .ref (ad 10 k0), .int v1, .int v2]).toArray below meth c s.heap [] 0 0 (MQ below (vp_Si (fun r => r = 0 ∨ r = 1)) ([.ref (g 0), .ref (ad 10 k0), .int v1, .int v2]).toArray s 0 0 (fun _ => False)) (F0 m 3 ls []) := by
    intro n3
    induction n3 with
    | zero => intros; omega
    | succ n3 ih3 =>
      intro i3 hmu3 hinv3 ls hl
      have hr3 := hinv3
      have ti3 : (nI i3).toInt = (i3 : Int) := nI_toInt (by omega)
      refine lv_iload hx hb dX11_isBeside_3 (lv_at hl 0 rfl) ?_
      refine lv_aload_n hx hb dX11_isBeside_5 rfl (lv_at hl 1 rfl) ?_
      refine gf_RX11_74 S hK hP 0 xo_0 (v := .ref (g 14)) rfl dX11_isBeside_6 ?_
      refine vp_callSi (runV_r (As := []) (rest := [.int (nI i3)]) S (q_l_size l D cI cB cZ (g 14) (if (cn 14) = 0 then zz else ad 2 4) (In 14) (nI (cn 14))) kV_RX11_84 hK hP [28] (one_is xo_28) 28 xo_28 rfl rfl ⟨Nat.le_of_ble_eq_true rfl, Nat.le_of_ble_eq_true rfl⟩ ⟨Nat.le_of_ble_eq_true rfl, Nat.le_of_ble_eq_true rfl⟩ rfl hl.1 rfl (Nat.le_of_ble_eq_true rfl) dX11_isBeside_9) (fun r_1 h_2 => ?_)
      subst h_2
      have : (nI (cn 14)).toInt = (((cn 14) : Nat) : Int) := nI_toInt (by omega)
      refine lv_icmp_ge (tgt := 71) hx hb dX11_isBeside_12 (by decide) (fun c_3 => ?_) (fun c_3 => ?_)
      ·
        have tc_3 : ((nI (cn 14)).toInt : Int) ≤ (nI i3).toInt := Int32.le_iff_toInt_le.mp c_3
        refine lv_iconst (v := 0) hx hb dX11_isBeside_71 (by decide) ?_
        exact W.zret (v := 0) hx hb hr rfl (fun t ht hW => ⟨0, rfl, (Or.inl rfl), ht⟩) (fun _ h => absurd h List.not_mem_nil) dX11_isBeside_72
      ·
        have tc_3 : ((nI i3).toInt : Int) < (nI (cn 14)).toInt := Int32.lt_iff_toInt_lt.mp (Int32.not_le.mp c_3)
        refine lv_aload_n hx hb dX11_isBeside_15 rfl (lv_at hl 1 rfl) ?_
        refine gf_RX11_74 S hK hP 0 xo_0 (v := .ref (g 14)) rfl dX11_isBeside_16 ?_
        refine lv_iload hx hb dX11_isBeside_19 (lv_at hl 0 rfl) ?_
        refine va_csq (runV_rx (As := [.int (nI i3)]) (rest := []) S (q_l_get l D cI cB cZ zz qq vv bt (g 14) (ad 2 4) (cn 24) (cn 14) i3 (ad 14 i3) (In 14) (fun i => if i < (cn 14) then some (ad 14 i) else none) (by omega) (if_pos (by omega)) (by omega) (by omega)) kV_RX11_87 hK hXS hS hP _ (two_is (xl_4 (by omega)) (xf_17 (k := 0) (by omega))) (va_recv hK.1 hP (ci := 0) rfl xo_28) ⟨Nat.le_of_ble_eq_true rfl, Nat.le_of_ble_eq_true rfl⟩ ⟨Nat.le_of_ble_eq_true rfl, Nat.le_of_ble_eq_true rfl⟩ rfl hl.1 rfl (Nat.le_of_ble_eq_true rfl) dX11_isBeside_21) (fun r_4 h_5 => ?_)
        subst h_5
        refine va_castS hx hb hown (S.2.2.2.2 _ (wT_t5 209 rfl rfl)) (xclass hK.1 (ci := 7) rfl) (va_recv hK.1 hP (ci := 7) rfl (xf_4 (by omega))) dX11_isBeside_24 ?_
        refine lv_astore (lv' := [(5, .ref (ad 14 i3)), (4, .int (nI i3)), (0, .ref (g 0)), (1, .ref (ad 10 k0)), (2, .int v1), (3, .int v2)]) hx hb dX11_isBeside_27 hl (by decide) rfl (fun ls hl => ?_)
        refine lv_aload hx hb dX11_isBeside_29 (lv_at hl 0 rfl) ?_
        refine gf_RX11_477 S hK hP _ (xf_4 (by omega)) (v := .int ((Fn 172) i3)) rfl dX11_isBeside_31 ?_
        refine lv_iload_n hx hb dX11_isBeside_34 rfl (lv_at hl 5 rfl) ?_
        refine lv_icmp_lt (tgt := 65) hx hb dX11_isBeside_35 (by decide) (fun c_6 => ?_) (fun c_6 => ?_)
        ·
          have tc_6 : (((Fn 172) i3).toInt : Int) < v2.toInt := Int32.lt_iff_toInt_lt.mp c_6
          refine lv_iinc (v := (nI (i3 + 1))) (lv' := [(4, .int (nI (i3 + 1))), (5, .ref (ad 14 i3)), (0, .ref (g 0)), (1, .ref (ad 10 k0)), (2, .int v1), (3, .int v2)]) hx hb dX11_isBeside_65 hl (k := 1) rfl (nI_1 _) (by decide) rfl (fun ls hl => ?_)
          refine lv_goto (tgt := 3) hx hb dX11_isBeside_68 (by decide) ?_
          exact ih3 (i3 + 1) (by omega) (by omega) ls (lv_sub hl [0, 2, 3, 4, 5] rfl)
        ·
          have tc_6 : (v2.toInt : Int) ≤ ((Fn 172) i3).toInt := Int32.le_iff_toInt_le.mp (Int32.not_lt.mp c_6)
          refine lv_aload_n hx hb dX11_isBeside_38 rfl (lv_at hl 3 rfl) ?_
          refine gf_RX11_293 S hK hP _ (xf_0 (by omega)) (v := .int ((Fn 100) k0)) rfl dX11_isBeside_39 ?_
          refine lv_aload_n hx hb dX11_isBeside_42 rfl (lv_at hl 3 rfl) ?_
          refine gf_RX11_296 S hK hP _ (xf_0 (by omega)) (v := .int ((Fn 101) k0)) rfl dX11_isBeside_43 ?_
          refine lv_aload hx hb dX11_isBeside_46 (lv_at hl 0 rfl) ?_
          refine gf_RX11_480 S hK hP _ (xf_4 (by omega)) (v := .int ((Fn 170) i3)) rfl dX11_isBeside_48 ?_
          refine lv_aload hx hb dX11_isBeside_51 (lv_at hl 0 rfl) ?_
          refine gf_RX11_481 S hK hP _ (xf_4 (by omega)) (v := .int ((Fn 171) i3)) rfl dX11_isBeside_53 ?_
          refine vp_callSi (runS_r (As := [.int ((Fn 100) k0), .int ((Fn 101) k0), .int ((Fn 170) i3), .int ((Fn 171) i3)]) (rest := []) S (q_Xway l D cI cB cZ ((Fn 100) k0) ((Fn 101) k0) ((Fn 170) i3) ((Fn 171) i3) ) kS_RX11_299 hK hP [] rfl ⟨Nat.le_of_ble_eq_true rfl, Nat.le_of_ble_eq_true rfl⟩ ⟨Nat.le_of_ble_eq_true rfl, Nat.le_of_ble_eq_true rfl⟩ rfl hl.1 rfl (Nat.le_of_ble_eq_true rfl) dX11_isBeside_56) (fun r_7 h_8 => ?_)
          refine lv_iload_n hx hb dX11_isBeside_59 rfl (lv_at hl 4 rfl) ?_
          refine lv_icmp_gt (tgt := 65) hx hb dX11_isBeside_60 (by decide) (fun c_9 => ?_) (fun c_9 => ?_)
          ·
            have tc_9 : (v1.toInt : Int) < r_7.toInt := Int32.lt_iff_toInt_lt.mp c_9
            refine lv_iinc (v := (nI (i3 + 1))) (lv' := [(4, .int (nI (i3 + 1))), (5, .ref (ad 14 i3)), (0, .ref (g 0)), (1, .ref (ad 10 k0)), (2, .int v1), (3, .int v2)]) hx hb dX11_isBeside_65 hl (k := 1) rfl (nI_1 _) (by decide) rfl (fun ls hl => ?_)
            refine lv_goto (tgt := 3) hx hb dX11_isBeside_68 (by decide) ?_
            exact ih3 (i3 + 1) (by omega) (by omega) ls (lv_sub hl [0, 2, 3, 4, 5] rfl)
          ·
            have tc_9 : (r_7.toInt : Int) ≤ v1.toInt := Int32.le_iff_toInt_le.mp (Int32.not_lt.mp c_9)
            refine lv_iconst (v := 1) hx hb dX11_isBeside_63 (by decide) ?_
            exact W.zret (v := 1) hx hb hr rfl (fun t ht hW => ⟨1, rfl, (Or.inr rfl), ht⟩) (fun _ h => absurd h List.not_mem_nil) dX11_isBeside_64
  exact lp_3 _ 0 (Nat.lt_succ_self _) (by omega) ls (lv_sub hl [0, 1, 2, 3, 4] rfl)
