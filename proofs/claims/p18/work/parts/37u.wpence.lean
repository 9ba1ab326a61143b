

set_option maxRecDepth 100000 in
set_option maxHeartbeats 4000000 in
theorem q_WfirstThat (l : Launch) (D : va_G) (cI cB cZ : ClassId) (zz qq vv : Nat) (bt : Nat → Int32) (g : Nat → Nat) (ad : Nat → Nat → Nat) (cn : Nat → Nat) (In : Nat → Int32) (Fn : Nat → Nat → Int32) (k0 : Nat) (v0 : Int32) (ld : Int32) (o : OutT) (cl : ClsT) (sz : Nat) (hB : CBX cn) (hk : k0 < cn 6) (hX : XTy k0 Fn ld o cl) : Met l yX9_firstThat (CWS yX9_firstThat cX9_firstThat 5 (some .int)) (RM 3 0 0) (PBx [.ref (ad 5 k0), .int v0, .ref (g 7)] D cI cB cZ zz qq vv bt (wX cI (D.1 99) zz g ad cn In Fn) sz) (va_Qi (fun (r : Int32) (u : (Nat → Nat) × (Nat → Int32) × (Nat → Nat → Int32)) => (fun r c2 I2 F2 => Fr [] [] [196, 197, 305] cn In Fn c2 I2 F2 ∧ CBX c2 ∧ (FTX o (cut (Fn 7)) cl v0 r)) r u.1 u.2.1 u.2.2) (fun (u : (Nat → Nat) × (Nat → Int32) × (Nat → Nat → Int32)) (t : State) => va_P D vwCl (wX cI (D.1 99) zz g ad u.1 u.2.1 u.2.2) t.heap ∧ va_D (va_A (wX cI (D.1 99) zz g ad cn In Fn) sz) (wX cI (D.1 99) zz g ad u.1 u.2.1 u.2.2)) (va_A (wX cI (D.1 99) zz g ad cn In Fn) sz)) 0 0 (va_A (wX cI (D.1 99) zz g ad cn In Fn) sz) := by
  refine en_x (fun A => (va_Qi (fun (r : Int32) (u : (Nat → Nat) × (Nat → Int32) × (Nat → Nat → Int32)) => (fun (r : Int32) (c2 : Nat → Nat) (I2 : Nat → Int32) (F2 : Nat → Nat → Int32) => Fr [] [] [196, 197, 305] cn In Fn c2 I2 F2 ∧ CBX c2 ∧ (FTX o (cut (Fn 7)) cl v0 r)) r u.1 u.2.1 u.2.2) (fun (u : (Nat → Nat) × (Nat → Int32) × (Nat → Nat → Int32)) (t : State) => va_P D vwCl (wX cI (D.1 99) zz g ad u.1 u.2.1 u.2.2) t.heap ∧ va_D A (wX cI (D.1 99) zz g ad u.1 u.2.1 u.2.2)) A)) rfl rfl pn_RX9 (Nat.le_of_ble_eq_true rfl) (fun p e s m below meth c A hx hb hml hown S hr hlocks hnm hA hP hK hD hXS hS ls hl => ?_)
  have hl : lv_has ls 5 [(0, .ref (ad 5 k0)), (1, .int v0), (2, .ref (g 7))] := hl
  have hb_cn : Hid (CBX cn) := hB
  replace hB : CBXh cn := hB
  obtain ⟨n9, hn9, hn8, hn7⟩ := hX.len
  have hcl := hX.1.2.2.2
  have hcx := hX.1.2.1
  refine lv_iconst (v := 0) hx hb (oc_3 0 shX9_firstThat_0) kic_0 ?_
  refine lv_istore_n (lv' := [(3, .int 0), (0, .ref (ad 5 k0)), (1, .int v0), (2, .ref (g 7))]) hx hb (oc_62 1 (aq_1 shX9_firstThat_0)) rfl hl (ltb rfl) rfl (fun ls hl => ?_)
  have lp_2 : ∀ (n : Nat) (i2 : Nat) (Fw : Nat → Nat → Int32) (H : Heap) (locs : List Loc) , cl.length - i2 < n → (i2 ≤ cl.length ∧ Fr [] [] [196, 197, 305] cn In Fn cn In Fw ∧ CBX cn ∧ (∀ (i : Nat) (w : Nat × Nat × Nat), i < i2 → cl[i]? = some w → ¬ b01 (MV o (cut (Fn 7)) w.2.1 w.2.2) = v0)) → va_P D vwCl (wX cI (D.1 99) zz g ad cn In Fw) H → va_D A (wX cI (D.1 99) zz g ad cn In Fw) → va_S A s.heap H locs → ∀ ls : Array Slot, lv_has ls 5 [(3, .int (nI i2)), (0, .ref (ad 5 k0)), (1, .int v0), (2, .ref (g 7))] → W p l e (RM 3 0 0) s m ([.ref (ad 5 k0), .int v0, .ref (g 7)]).toArray below meth c H locs 0 0 (MQ below (va_Qi (fun (r : Int32) (u : (Nat → Nat) × (Nat → Int32) × (Nat → Nat → Int32)) => (fun r c2 I2 F2 => Fr [] [] [196, 197, 305] cn In Fn c2 I2 F2 ∧ CBX c2 ∧ (FTX o (cut (Fn 7)) cl v0 r)) r u.1 u.2.1 u.2.2) (fun (u : (Nat → Nat) × (Nat → Int32) × (Nat → Nat → Int32)) (t : State) => va_P D vwCl (wX cI (D.1 99) zz g ad u.1 u.2.1 u.2.2) t.heap ∧ va_D A (wX cI (D.1 99) zz g ad u.1 u.2.1 u.2.2)) A) ([.ref (ad 5 k0), .int v0, .ref (g 7)]).toArray s 0 0 A) (F0 m 2 ls []) := by
    intro n2
    induction n2 with
    | zero => intros; (first | omega | (have zz0 := Hid.u hb_cn; omega))
    | succ n2 ih2 =>
      intro i2 Fw H locs hmu2 hinv2 hP hD hS ls hl
      obtain ⟨hr2, hfr2, hI2, hx2_0⟩ := hinv2
      have ti2 : (nI i2).toInt = (i2 : Int) := nI_toInt (by (first | omega | (have zz0 := Hid.u hb_cn; omega)))
      replace hI2 : CBXh cn := hI2
      refine lv_iload_n hx hb (oc_29 2 (aq_2 shX9_firstThat_0)) rfl (lvA0 hl) ?_
      refine lv_aload_n hx hb (oc_42 3 (aq_3 shX9_firstThat_0)) rfl (lvA1 hl) ?_
      refine gf_RX9_48 S hK hP _ (xf_7 hk) (v := .int ((Fw 198) k0)) rfl (oc_180 4 (aq_4 shX9_firstThat_0) uw_0_48) ?_
      refine lv_topi (fun y_1 ey_1 => ?_)
      obtain rfl : y_1 = (nI cl.length) := ey_1.trans ((congrFun (hfr2.2.2 198 (nml rfl)) k0).trans hX.1.2.1.1)
      have : (nI cl.length).toInt = ((cl.length : Nat) : Int) := nI_toInt (by (first | omega | (have zz0 := Hid.u hb_cn; omega)))
      refine lv_icmp_ge (tgt := 55) hx hb (oc_162 7 (aq_7 shX9_firstThat_0) sgw_0_48) rfl (fun c_2 => ?_) (fun c_2 => ?_)
      ·
        have tc_2 : ((nI cl.length).toInt : Int) ≤ (nI i2).toInt := Int32.le_iff_toInt_le.mp c_2
        refine lv_iconst (v := (-1)) hx hb (oc_2 55 (aq_7 shX9_firstThat_48)) kic_m1 ?_
        exact W.iret (v := (-1)) hx hb hr (fun t ht hW => ⟨⟨(-1), (cn, In, Fw), rfl, ⟨(Fr.mo hfr2 (sbl rfl) (sbl rfl) (sbl rfl)), hI2, (by show FTX o (cut (Fn 7)) cl v0 (-1); exact Or.inr ⟨fun i w hw => hx2_0 i w (by have := (List.getElem?_eq_some_iff.mp hw).1; (first | omega | (have zz0 := Hid.u hb_cn; omega))) hw, rfl⟩)⟩, by rw [ht]; exact hP, hD⟩, hS.F ht⟩) hS.2.2 (oc_172 56 (aq_8 shX9_firstThat_48))
      ·
        have tc_2 : ((nI i2).toInt : Int) < (nI cl.length).toInt := Int32.lt_iff_toInt_lt.mp (Int32.not_le.mp c_2)
        obtain ⟨z9, hz9⟩ := hcx.get (j := i2) (by (first | omega | (have zz0 := Hid.u hb_cn; omega)))
        obtain ⟨hsA, hsB, hsC⟩ := hcx.at (F2 := Fw) hz9 hcl (hfr2.2.2 302 (nml rfl)) (hfr2.2.2 303 (nml rfl)) (hfr2.2.2 304 (nml rfl))
        refine lv_aload_n hx hb (oc_42 10 (aq_10 shX9_firstThat_0)) rfl (lvA1 hl) ?_
        refine gf_RX9_24 S hK hP _ (xf_7 hk) (v := .ref (ad 62 k0)) rfl (oc_180 11 (aq_11 shX9_firstThat_0) uw_0_24) ?_
        refine lv_iload_n hx hb (oc_29 14 (aq_14 shX9_firstThat_0)) rfl (lvA0 hl) ?_
        refine vp_callSi (runS_r (As := [.ref (ad 62 k0), .int (nI i2)]) (rest := []) S (q_l_at l D cI cB cZ (ad 62 k0) 12 (gA (Fw 303) 12 k0) (nI i2) (by decide)) kS_RX9_37 hK hP _ (one_is (xf_10 hk)) ⟨Nat.le_of_ble_eq_true rfl, Nat.le_of_ble_eq_true rfl⟩ ⟨Nat.le_of_ble_eq_true rfl, Nat.le_of_ble_eq_true rfl⟩ rfl hl.1 rfl (Nat.le_of_ble_eq_true rfl) (oc_184 15 (aq_15 shX9_firstThat_0) uw_0_37)) (fun r_3 h_4 => ?_)
        obtain rfl : r_3 = (nI z9.2.1) := h_4.trans hsB
        refine lv_istore (lv' := [(4, .int (nI z9.2.1)), (3, .int (nI i2)), (0, .ref (ad 5 k0)), (1, .int v0), (2, .ref (g 7))]) hx hb (oc_54 18 (aq_18 shX9_firstThat_0) ub_4) hl (ltb rfl) rfl (fun ls hl => ?_)
        refine lv_aload_n hx hb (oc_42 20 (aq_20 shX9_firstThat_0)) rfl (lvA2 hl) ?_
        refine lv_iload hx hb (oc_21 21 (aq_21 shX9_firstThat_0) ub_4) (lvA0 hl) ?_
        refine lv_aload_n hx hb (oc_42 23 (aq_23 shX9_firstThat_0)) rfl (lvA2 hl) ?_
        refine gf_RX9_27 S hK hP _ (xf_7 hk) (v := .ref (ad 63 k0)) rfl (oc_180 24 shX9_firstThat_24 uw_0_27) ?_
        refine lv_iload_n hx hb (oc_29 27 (aq_3 shX9_firstThat_24)) rfl (lvA1 hl) ?_
        refine vp_callSi (runS_r (As := [.ref (ad 63 k0), .int (nI i2)]) (rest := [.int (nI z9.2.1), .ref (ad 5 k0)]) S (q_l_at l D cI cB cZ (ad 63 k0) 12 (gA (Fw 304) 12 k0) (nI i2) (by decide)) kS_RX9_37 hK hP _ (one_is (xf_11 hk)) ⟨Nat.le_of_ble_eq_true rfl, Nat.le_of_ble_eq_true rfl⟩ ⟨Nat.le_of_ble_eq_true rfl, Nat.le_of_ble_eq_true rfl⟩ rfl hl.1 rfl (Nat.le_of_ble_eq_true rfl) (oc_184 28 (aq_4 shX9_firstThat_24) uw_0_37)) (fun r_5 h_6 => ?_)
        obtain rfl : r_5 = (nI z9.2.2) := h_6.trans hsC
        refine lv_aload_n hx hb (oc_44 31 (aq_7 shX9_firstThat_24)) rfl (lvA4 hl) ?_
        have hFc := free_all hD hS hA
        refine va_calli (runV_xa (As := [.int (nI z9.2.1), .int (nI z9.2.2), .ref (g 7)]) (rest := []) S (q_Wrun l D cI cB cZ zz qq vv bt g ad cn In Fw k0 z9.2.1 z9.2.2 n9 o true H.size hI2 (by (first | omega | (have zz0 := Hid.u hb_cn; omega))) ((hX.cg (hfr2.2.2 195 (nml rfl)) (hfr2.2.2 301 (nml rfl)) (hfr2.2.2 198 (nml rfl)) (hfr2.2.2 302 (nml rfl)) (hfr2.2.2 303 (nml rfl)) (hfr2.2.2 304 (nml rfl)) (hfr2.2.2 199 (nml rfl)))).1.1 (hX.2.2 _ (hX.mem hz9)).2 (by rw [congrFun (hfr2.2.2 199 (nml rfl)) k0]; exact hn9) ⟨hn8, hn7⟩) kV_RX9_51 hK hXS hS hFc hP hD _ (xf_7 hk) rfl rfl ⟨Nat.le_of_ble_eq_true rfl, Nat.le_of_ble_eq_true rfl⟩ ⟨Nat.le_of_ble_eq_true rfl, Nat.le_of_ble_eq_true rfl⟩ rfl hl.1 rfl (Nat.le_of_ble_eq_true rfl) (oc_182 32 (aq_8 shX9_firstThat_24) uw_0_51)) hS (fun q _ h => hFc q h) hFc (fun r_7 u t H1 locs ht hvm wh_8 hB1 hz1 hk1 hS => ?_)
        obtain ⟨cn8, In8, Fn8⟩ := u
        obtain ⟨hP1, hD1⟩ := hB1
        rw [ht] at hP1
        have hP : va_P D vwCl (wX cI (D.1 99) zz g ad cn8 In8 Fn8) H1 := hP1
        have hD : va_D A (wX cI (D.1 99) zz g ad cn8 In8 Fn8) := hD1.weaken (fun _ _ _ h => hFc _ h)
        generalize H1 = H at hP hS ⊢
        have vh_8 : (fun r c2 I2 F2 => Fr [] [] [196, 197, 305] cn In Fw c2 I2 F2 ∧ CBX c2 ∧ (r = MV o (cut ((Fw 7))) z9.2.1 z9.2.2)) r_7 cn8 In8 Fn8 := wh_8
        obtain ⟨hfc8, hIn8, h_8⟩ := vh_8
        obtain rfl : cn = cn8 := (funext (fun k => hfc8.1 k List.not_mem_nil)).symm
        obtain rfl : In = In8 := (funext (fun k => hfc8.2.1 k List.not_mem_nil)).symm
        have hf8 : Fr [] [] [196, 197, 305] cn In Fn cn In Fn8 := Fr.mo (Fr.tr hfr2 hfc8) (sbl rfl) (sbl rfl) (sbl rfl)
        replace hIn8 : CBXh cn := hIn8
        have hm_8 := h_8
        rw [hfr2.2.2 7 (nml rfl)] at hm_8
        refine lv_if_eq (tgt := 42) hx hb (oc_153 35 (aq_11 shX9_firstThat_24) sgw_0_7) rfl (fun c_9 => ?_) (fun c_9 => ?_)
        ·
          have tc_9 : (r_7.toInt : Int) = 0 := congrArg Int32.toInt c_9
          refine lv_iconst (v := 0) hx hb (oc_3 42 (aq_18 shX9_firstThat_24)) kic_0 ?_
          refine lv_iload_n hx hb dX9_firstThat_43 rfl (lvA3 hl) ?_
          refine lv_icmp_ne (tgt := 49) hx hb dX9_firstThat_44 rfl (fun c_10 => ?_) (fun c_10 => ?_)
          ·
            have tc_10 : (0 : Int) ≠ v0.toInt := fun q => c_10 (Int32.toInt_inj.mp q)
            refine lv_iinc (v := (nI (i2 + 1))) (lv' := [(3, .int (nI (i2 + 1))), (4, .int (nI z9.2.1)), (0, .ref (ad 5 k0)), (1, .int v0), (2, .ref (g 7))]) hx hb dX9_firstThat_49 hl (k := 1) rfl (nI_1 _) (ltb rfl) rfl (fun ls hl => ?_)
            refine lv_goto (tgt := 2) hx hb dX9_firstThat_52 rfl ?_
            exact ih2 (i2 + 1) Fn8 _ _ (by (first | omega | (have zz0 := Hid.u hb_cn; omega))) ⟨(by (first | omega | (have zz0 := Hid.u hb_cn; omega))), (Fr.mo hf8 (sbl rfl) (sbl rfl) (sbl rfl)), hIn8, (fun i w hi hw => if q : i < i2 then hx2_0 i w q hw else (by obtain rfl : i = i2 := (by (first | omega | (have zz0 := Hid.u hb_cn; omega))); rw [hz9] at hw; obtain rfl : z9 = w := Option.some.inj hw; unfold b01; rw [← hm_8]; first | (rw [if_pos (by first | assumption | exact Int32.toInt_inj.mp (by assumption))]; first | assumption | exact fun q9 => absurd (congrArg Int32.toInt q9) (by (first | omega | (have zz0 := Hid.u hb_cn; omega)))) | (rw [if_neg (by first | assumption | exact fun q => absurd (congrArg Int32.toInt q) (by assumption))]; first | assumption | exact fun q9 => absurd (congrArg Int32.toInt q9) (by (first | omega | (have zz0 := Hid.u hb_cn; omega))))))⟩ hP hD hS ls (lv_sub hl [0, 2, 3, 4] rfl)
          ·
            have tc_10 : (0 : Int) = v0.toInt := congrArg Int32.toInt c_10
            refine lv_iload_n hx hb dX9_firstThat_47 rfl (lvA1 hl) ?_
            exact W.iret (v := (nI i2)) hx hb hr (fun t ht hW => ⟨⟨(nI i2), (cn, In, Fn8), rfl, ⟨(Fr.mo hf8 (sbl rfl) (sbl rfl) (sbl rfl)), hIn8, (by show FTX o (cut (Fn 7)) cl v0 (nI i2); exact Or.inl ⟨i2, z9, hz9, (by unfold b01; rw [← hm_8]; first | (rw [if_pos (by first | assumption | exact Int32.toInt_inj.mp (by assumption))]; first | assumption | exact Int32.toInt_inj.mp (by (first | omega | (have zz0 := Hid.u hb_cn; omega)))) | (rw [if_neg (by first | assumption | exact fun q => absurd (congrArg Int32.toInt q) (by assumption))]; first | assumption | exact Int32.toInt_inj.mp (by (first | omega | (have zz0 := Hid.u hb_cn; omega))))), hx2_0, rfl⟩)⟩, by rw [ht]; exact hP, hD⟩, hS.F ht⟩) hS.2.2 dX9_firstThat_48
        ·
          have tc_9 : (r_7.toInt : Int) ≠ 0 := fun q => c_9 (Int32.toInt_inj.mp q)
          refine lv_iconst (v := 1) hx hb (oc_4 38 (aq_14 shX9_firstThat_24)) kic_1 ?_
          refine lv_goto (tgt := 43) hx hb (oc_167 39 (aq_15 shX9_firstThat_24) sgw_0_4) rfl ?_
          refine lv_iload_n hx hb dX9_firstThat_43 rfl (lvA3 hl) ?_
          refine lv_icmp_ne (tgt := 49) hx hb dX9_firstThat_44 rfl (fun c_11 => ?_) (fun c_11 => ?_)
          ·
            have tc_11 : (1 : Int) ≠ v0.toInt := fun q => c_11 (Int32.toInt_inj.mp q)
            refine lv_iinc (v := (nI (i2 + 1))) (lv' := [(3, .int (nI (i2 + 1))), (4, .int (nI z9.2.1)), (0, .ref (ad 5 k0)), (1, .int v0), (2, .ref (g 7))]) hx hb dX9_firstThat_49 hl (k := 1) rfl (nI_1 _) (ltb rfl) rfl (fun ls hl => ?_)
            refine lv_goto (tgt := 2) hx hb dX9_firstThat_52 rfl ?_
            exact ih2 (i2 + 1) Fn8 _ _ (by (first | omega | (have zz0 := Hid.u hb_cn; omega))) ⟨(by (first | omega | (have zz0 := Hid.u hb_cn; omega))), (Fr.mo hf8 (sbl rfl) (sbl rfl) (sbl rfl)), hIn8, (fun i w hi hw => if q : i < i2 then hx2_0 i w q hw else (by obtain rfl : i = i2 := (by (first | omega | (have zz0 := Hid.u hb_cn; omega))); rw [hz9] at hw; obtain rfl : z9 = w := Option.some.inj hw; unfold b01; rw [← hm_8]; first | (rw [if_pos (by first | assumption | exact Int32.toInt_inj.mp (by assumption))]; first | assumption | exact fun q9 => absurd (congrArg Int32.toInt q9) (by (first | omega | (have zz0 := Hid.u hb_cn; omega)))) | (rw [if_neg (by first | assumption | exact fun q => absurd (congrArg Int32.toInt q) (by assumption))]; first | assumption | exact fun q9 => absurd (congrArg Int32.toInt q9) (by (first | omega | (have zz0 := Hid.u hb_cn; omega))))))⟩ hP hD hS ls (lv_sub hl [0, 2, 3, 4] rfl)
          ·
            have tc_11 : (1 : Int) = v0.toInt := congrArg Int32.toInt c_11
            refine lv_iload_n hx hb dX9_firstThat_47 rfl (lvA1 hl) ?_
            exact W.iret (v := (nI i2)) hx hb hr (fun t ht hW => ⟨⟨(nI i2), (cn, In, Fn8), rfl, ⟨(Fr.mo hf8 (sbl rfl) (sbl rfl) (sbl rfl)), hIn8, (by show FTX o (cut (Fn 7)) cl v0 (nI i2); exact Or.inl ⟨i2, z9, hz9, (by unfold b01; rw [← hm_8]; first | (rw [if_pos (by first | assumption | exact Int32.toInt_inj.mp (by assumption))]; first | assumption | exact Int32.toInt_inj.mp (by (first | omega | (have zz0 := Hid.u hb_cn; omega)))) | (rw [if_neg (by first | assumption | exact fun q => absurd (congrArg Int32.toInt q) (by assumption))]; first | assumption | exact Int32.toInt_inj.mp (by (first | omega | (have zz0 := Hid.u hb_cn; omega))))), hx2_0, rfl⟩)⟩, by rw [ht]; exact hP, hD⟩, hS.F ht⟩) hS.2.2 dX9_firstThat_48
  exact lp_2 _ 0 Fn _ _ (Nat.lt_succ_self _) ⟨(by (first | omega | (have zz0 := Hid.u hb_cn; omega))), (Fr.mo Fr.rf (sbl rfl) (sbl rfl) (sbl rfl)), hB, (fun i _ h => absurd h (Nat.not_lt_zero i))⟩ hP hD hS ls (lv_sub hl [0, 1, 2, 3] rfl)
set_option maxRecDepth 100000 in
set_option maxHeartbeats 4000000 in
theorem q_Wletter (l : Launch) (D : va_G) (cI cB cZ : ClassId) (zz qq vv : Nat) (bt : Nat → Int32) (g : Nat → Nat) (ad : Nat → Nat → Nat) (cn : Nat → Nat) (In : Nat → Int32) (Fn : Nat → Nat → Int32) (v0 v1 : Int32) (j0 : Nat) (sz : Nat) (hB : CBX cn) (hbt : BTL bt) (hv0 : 0 ≤ v0.toInt ∧ v0.toInt ≤ 255) (hj : ltr v0 = some j0) : Met l yX11_letter (CWS yX11_letter cX11_letter 3 none) (RM 4 0 0) (PBx [.ref (g 0), .int v0, .int v1] D cI cB cZ zz qq vv bt (wX cI (D.1 99) zz g ad cn In Fn) sz) (va_Qv (fun (u : (Nat → Nat) × (Nat → Int32) × (Nat → Nat → Int32)) => (fun c2 I2 F2 => Fr [] [] [7] cn In Fn c2 I2 F2 ∧ CBX c2 ∧ (F2 7 = upd (Fn 7) j0 v1)) u.1 u.2.1 u.2.2) (fun (u : (Nat → Nat) × (Nat → Int32) × (Nat → Nat → Int32)) (t : State) => va_P D vwCl (wX cI (D.1 99) zz g ad u.1 u.2.1 u.2.2) t.heap ∧ va_D (va_A (wX cI (D.1 99) zz g ad cn In Fn) sz) (wX cI (D.1 99) zz g ad u.1 u.2.1 u.2.2)) (va_A (wX cI (D.1 99) zz g ad cn In Fn) sz)) 0 0 (va_A (wX cI (D.1 99) zz g ad cn In Fn) sz) := by
  refine en_x (fun A => (va_Qv (fun (u : (Nat → Nat) × (Nat → Int32) × (Nat → Nat → Int32)) => (fun (c2 : Nat → Nat) (I2 : Nat → Int32) (F2 : Nat → Nat → Int32) => Fr [] [] [7] cn In Fn c2 I2 F2 ∧ CBX c2 ∧ (F2 7 = upd (Fn 7) j0 v1)) u.1 u.2.1 u.2.2) (fun (u : (Nat → Nat) × (Nat → Int32) × (Nat → Nat → Int32)) (t : State) => va_P D vwCl (wX cI (D.1 99) zz g ad u.1 u.2.1 u.2.2) t.heap ∧ va_D A (wX cI (D.1 99) zz g ad u.1 u.2.1 u.2.2)) A)) rfl rfl pn_RX11 (Nat.le_of_ble_eq_true rfl) (fun p e s m below meth c A hx hb hml hown S hr hlocks hnm hA hP hK hD hXS hS ls hl => ?_)
  have hl : lv_has ls 3 [(0, .ref (g 0)), (1, .int v0), (2, .int v1)] := hl
  have hb_cn : Hid (CBX cn) := hB
  replace hB : CBXh cn := hB
  refine lv_aload_n hx hb (oc_42 0 shX11_letter_0) rfl (lvA0 hl) ?_
  refine gf_RX11_40 S hK hP 0 xo_0 (v := .ref (g 7)) rfl (oc_180 1 (aq_1 shX11_letter_0) uw_0_40) ?_
  refine va_ldcS hx hb hown hXS.2.2.2.2.2.2.2.1.1 (oc_18 4 (aq_4 shX11_letter_0) ub_32) ?_
  refine lv_iload_n hx hb (oc_27 6 (aq_6 shX11_letter_0)) rfl (lvA1 hl) ?_
  refine vp_callSi (runV_rx (As := [.int v0]) (rest := [.ref (g 7)]) S (q_z_strIndex l D cI cB cZ zz qq vv bt v0 hv0) kV_RX11_181 hK hXS hS hP [] rfl (va_Orecv hXS.2.2.2.1 hS) ⟨Nat.le_of_ble_eq_true rfl, Nat.le_of_ble_eq_true rfl⟩ ⟨Nat.le_of_ble_eq_true rfl, Nat.le_of_ble_eq_true rfl⟩ rfl hl.1 rfl (Nat.le_of_ble_eq_true rfl) (oc_182 7 (aq_7 shX11_letter_0) uw_0_181)) (fun r_1 h_2 => ?_)
  obtain ⟨er9, hj11⟩ := ltr_at hbt hv0 h_2 hj
  obtain rfl : r_1 = nI j0 := er9
  refine lv_iload_n hx hb (oc_28 10 (aq_10 shX11_letter_0)) rfl (lvA2 hl) ?_
  have hFc := va_free (wc := [((g 7), .inl (cI, 11, .inl (Fn 7)))]) hD hS hA [5] (one_im xo_5)
  refine va_callv (runS_w (As := [.ref (g 7), .int (nI j0), .int v1]) (rest := []) S (q_l_put l D cI cB cZ (g 7) 11 (Fn 7) (nI j0) v1 s.heap.size (by (first | omega | (have zz0 := Hid.u hb_cn; omega)))) kS_RX11_184 hK hP hD [5] (one_is xo_5) (one_im xo_5) rfl ⟨Nat.le_of_ble_eq_true rfl, Nat.le_of_ble_eq_true rfl⟩ ⟨Nat.le_of_ble_eq_true rfl, Nat.le_of_ble_eq_true rfl⟩ rfl hl.1 rfl (Nat.le_of_ble_eq_true rfl) (oc_184 11 (aq_11 shX11_letter_0) uw_0_184)) hS (fun q _ h => hFc q h) hFc (fun u_5 t H1 locs ht hvm h_4 hB1 hz1 hk1 hS => ?_)
  obtain ⟨hP1, hD1⟩ := hB1
  rw [ht] at hP1
  obtain ⟨hP, hD⟩ := wset1 hP hD xo_5 hk1 hP1
  obtain rfl : u_5 = (putM (Fn 7) 11 (nI j0) v1) := h_4
  generalize H1 = H at hP hS ⊢
  have hP : va_P D vwCl (wX cI (D.1 99) zz g ad cn In (va_up Fn 7 (putM (Fn 7) 11 (nI j0) v1))) H := va_P_eq xsa_5 hP
  have hD : va_D A (wX cI (D.1 99) zz g ad cn In (va_up Fn 7 (putM (Fn 7) 11 (nI j0) v1))) := va_D_eq xsa_5 hD
  exact W.vret hx hb hr (fun t ht hW => ⟨⟨(cn, In, (va_up Fn 7 (putM (Fn 7) 11 (nI j0) v1))), rfl, ⟨(Fr.mo (Fr.f 7 Fr.rf) (sbl rfl) (sbl rfl) (sbl rfl)), hB, (by show (va_up Fn 7 (putM (Fn 7) 11 (nI j0) v1)) 7 = upd (Fn 7) j0 v1; exact putM_l hj11 (by decide))⟩, by rw [ht]; exact hP, hD⟩, hS.F ht⟩) hS.2.2 (oc_177 14 (aq_14 shX11_letter_0))
set_option maxRecDepth 100000 in
set_option maxHeartbeats 4000000 in
theorem q_WlettersOfDay (l : Launch) (D : va_G) (cI cB cZ : ClassId) (zz qq vv : Nat) (bt : Nat → Int32) (g : Nat → Nat) (ad : Nat → Nat → Nat) (cn : Nat → Nat) (In : Nat → Int32) (Fn : Nat → Nat → Int32) (v0 : Int32) (sz : Nat) (hB : CBX cn) (hbt : BTL bt) (hd : 0 ≤ v0.toInt ∧ v0.toInt ≤ 399) : Met l yX11_lettersOfDay (CWS yX11_lettersOfDay cX11_lettersOfDay 2 none) (RM 5 0 0) (PBx [.ref (g 0), .int v0] D cI cB cZ zz qq vv bt (wX cI (D.1 99) zz g ad cn In Fn) sz) (va_Qv (fun (u : (Nat → Nat) × (Nat → Int32) × (Nat → Nat → Int32)) => (fun c2 I2 F2 => Fr [] [] [7] cn In Fn c2 I2 F2 ∧ CBX c2 ∧ (F2 7 = upd (upd (upd (upd (Fn 7) 3 v0) 4 (nI (v0.toInt.toNat / 7))) 5 (nI (v0.toInt.toNat % 7))) 9 (Fn 20 (v0.toInt.toNat / 7)))) u.1 u.2.1 u.2.2) (fun (u : (Nat → Nat) × (Nat → Int32) × (Nat → Nat → Int32)) (t : State) => va_P D vwCl (wX cI (D.1 99) zz g ad u.1 u.2.1 u.2.2) t.heap ∧ va_D (va_A (wX cI (D.1 99) zz g ad cn In Fn) sz) (wX cI (D.1 99) zz g ad u.1 u.2.1 u.2.2)) (va_A (wX cI (D.1 99) zz g ad cn In Fn) sz)) 0 0 (va_A (wX cI (D.1 99) zz g ad cn In Fn) sz) := by
  refine en_x (fun A => (va_Qv (fun (u : (Nat → Nat) × (Nat → Int32) × (Nat → Nat → Int32)) => (fun (c2 : Nat → Nat) (I2 : Nat → Int32) (F2 : Nat → Nat → Int32) => Fr [] [] [7] cn In Fn c2 I2 F2 ∧ CBX c2 ∧ (F2 7 = upd (upd (upd (upd (Fn 7) 3 v0) 4 (nI (v0.toInt.toNat / 7))) 5 (nI (v0.toInt.toNat % 7))) 9 (Fn 20 (v0.toInt.toNat / 7)))) u.1 u.2.1 u.2.2) (fun (u : (Nat → Nat) × (Nat → Int32) × (Nat → Nat → Int32)) (t : State) => va_P D vwCl (wX cI (D.1 99) zz g ad u.1 u.2.1 u.2.2) t.heap ∧ va_D A (wX cI (D.1 99) zz g ad u.1 u.2.1 u.2.2)) A)) rfl rfl pn_RX11 (Nat.le_of_ble_eq_true rfl) (fun p e s m below meth c A hx hb hml hown S hr hlocks hnm hA hP hK hD hXS hS ls hl => ?_)
  have hl : lv_has ls 2 [(0, .ref (g 0)), (1, .int v0)] := hl
  have hb_cn : Hid (CBX cn) := hB
  replace hB : CBXh cn := hB
  obtain ⟨d0, hd0, rfl⟩ := nI_of (x := v0) (fun q => by have := Int32.lt_iff_toInt_lt.mp q; have e : (0 : Int32).toInt = 0 := rfl; (first | omega | (have zz0 := Hid.u hb_cn; omega)))
  have td0 : (nI d0).toInt = (d0 : Int) := nI_toInt hd0
  have zd0 : (nI d0).toInt.toNat = d0 := by (first | omega | (have zz0 := Hid.u hb_cn; omega))
  refine lv_aload_n hx hb (oc_42 0 shX11_lettersOfDay_0) rfl (lvA0 hl) ?_
  refine lv_bipush (v := 100) hx hb (oc_16 1 (aq_1 shX11_lettersOfDay_0) sgb_100) kbc_100 ?_
  refine lv_iload_n hx hb (oc_27 3 (aq_3 shX11_lettersOfDay_0)) rfl (lvA1 hl) ?_
  have hFc := free_all hD hS hA
  refine va_callv (runV_xa (As := [.int 100, .int (nI d0)]) (rest := []) S (q_Wletter l D cI cB cZ zz qq vv bt g ad cn In Fn 100 (nI d0) 3 s.heap.size hB hbt (by decide) (by decide)) kV_RX11_188 hK hXS hS hFc hP hD 0 xo_0 rfl rfl ⟨Nat.le_of_ble_eq_true rfl, Nat.le_of_ble_eq_true rfl⟩ ⟨Nat.le_of_ble_eq_true rfl, Nat.le_of_ble_eq_true rfl⟩ rfl hl.1 rfl (Nat.le_of_ble_eq_true rfl) (oc_182 4 (aq_4 shX11_lettersOfDay_0) uw_0_188)) hS (fun q _ h => hFc q h) hFc (fun u t H1 locs ht hvm wh_2 hB1 hz1 hk1 hS => ?_)
  obtain ⟨cn2, In2, Fn2⟩ := u
  obtain ⟨hP1, hD1⟩ := hB1
  rw [ht] at hP1
  have hP : va_P D vwCl (wX cI (D.1 99) zz g ad cn2 In2 Fn2) H1 := hP1
  have hD : va_D A (wX cI (D.1 99) zz g ad cn2 In2 Fn2) := hD1.weaken (fun _ _ _ h => hFc _ h)
  generalize H1 = H at hP hS ⊢
  have vh_2 : (fun c2 I2 F2 => Fr [] [] [7] cn In Fn c2 I2 F2 ∧ CBX c2 ∧ (F2 7 = upd ((Fn 7)) 3 (nI d0))) cn2 In2 Fn2 := wh_2
  obtain ⟨hfc2, hIn2, h_2⟩ := vh_2
  obtain rfl : cn = cn2 := (funext (fun k => hfc2.1 k List.not_mem_nil)).symm
  obtain rfl : In = In2 := (funext (fun k => hfc2.2.1 k List.not_mem_nil)).symm
  have hf2 : Fr [] [] [7] cn In Fn cn In Fn2 := Fr.mo (Fr.tr (Fr.rf (cn := cn) (In := In) (Fn := Fn)) hfc2) (sbl rfl) (sbl rfl) (sbl rfl)
  replace hIn2 : CBXh cn := hIn2
  refine lv_aload_n hx hb (oc_42 7 (aq_7 shX11_lettersOfDay_0)) rfl (lvA0 hl) ?_
  refine lv_bipush (v := 119) hx hb (oc_16 8 (aq_8 shX11_lettersOfDay_0) sgb_119) kbc_119 ?_
  refine lv_iload_n hx hb (oc_27 10 (aq_10 shX11_lettersOfDay_0)) rfl (lvA1 hl) ?_
  refine lv_bipush (v := 7) hx hb (oc_16 11 (aq_11 shX11_lettersOfDay_0) sgb_7) kbc_7 ?_
  refine lv_idiv hx hb (oc_108 13 (aq_13 shX11_lettersOfDay_0)) (by decide) ?_
  refine lv_topi (fun y_3 ey_3 => ?_)
  obtain rfl : y_3 = (nI (d0 / 7)) := ey_3.trans (nI_div (by (first | omega | (have zz0 := Hid.u hb_cn; omega))) (by decide))
  have hFc := free_all hD hS hA
  refine va_callv (runV_xa (As := [.int 119, .int (nI (d0 / 7))]) (rest := []) S (q_Wletter l D cI cB cZ zz qq vv bt g ad cn In Fn2 119 (nI (d0 / 7)) 4 H.size hIn2 hbt (by decide) (by decide)) kV_RX11_188 hK hXS hS hFc hP hD 0 xo_0 rfl rfl ⟨Nat.le_of_ble_eq_true rfl, Nat.le_of_ble_eq_true rfl⟩ ⟨Nat.le_of_ble_eq_true rfl, Nat.le_of_ble_eq_true rfl⟩ rfl hl.1 rfl (Nat.le_of_ble_eq_true rfl) (oc_182 14 (aq_14 shX11_lettersOfDay_0) uw_0_188)) hS (fun q _ h => hFc q h) hFc (fun u t H1 locs ht hvm wh_5 hB1 hz1 hk1 hS => ?_)
  obtain ⟨cn5, In5, Fn5⟩ := u
  obtain ⟨hP1, hD1⟩ := hB1
  rw [ht] at hP1
  have hP : va_P D vwCl (wX cI (D.1 99) zz g ad cn5 In5 Fn5) H1 := hP1
  have hD : va_D A (wX cI (D.1 99) zz g ad cn5 In5 Fn5) := hD1.weaken (fun _ _ _ h => hFc _ h)
  generalize H1 = H at hP hS ⊢
  have vh_5 : (fun c2 I2 F2 => Fr [] [] [7] cn In Fn2 c2 I2 F2 ∧ CBX c2 ∧ (F2 7 = upd ((Fn2 7)) 4 (nI (d0 / 7)))) cn5 In5 Fn5 := wh_5
  obtain ⟨hfc5, hIn5, h_5⟩ := vh_5
  obtain rfl : cn = cn5 := (funext (fun k => hfc5.1 k List.not_mem_nil)).symm
  obtain rfl : In = In5 := (funext (fun k => hfc5.2.1 k List.not_mem_nil)).symm
  have hf5 : Fr [] [] [7] cn In Fn cn In Fn5 := Fr.mo (Fr.tr hf2 hfc5) (sbl rfl) (sbl rfl) (sbl rfl)
  replace hIn5 : CBXh cn := hIn5
  rw [h_2] at h_5
  refine lv_aload_n hx hb (oc_42 17 (aq_17 shX11_lettersOfDay_0)) rfl (lvA0 hl) ?_
  refine lv_bipush (v := 103) hx hb (oc_16 18 (aq_18 shX11_lettersOfDay_0) sgb_103) kbc_103 ?_
  refine lv_iload_n hx hb (oc_27 20 (aq_20 shX11_lettersOfDay_0)) rfl (lvA1 hl) ?_
  refine lv_bipush (v := 7) hx hb (oc_16 21 (aq_21 shX11_lettersOfDay_0) sgb_7) kbc_7 ?_
  refine lv_irem hx hb (oc_112 23 (aq_23 shX11_lettersOfDay_0)) (by decide) ?_
  refine lv_topi (fun y_6 ey_6 => ?_)
  obtain rfl : y_6 = (nI (d0 % 7)) := ey_6.trans (nI_rem (by (first | omega | (have zz0 := Hid.u hb_cn; omega))) (by decide))
  have hFc := free_all hD hS hA
  refine va_callv (runV_xa (As := [.int 103, .int (nI (d0 % 7))]) (rest := []) S (q_Wletter l D cI cB cZ zz qq vv bt g ad cn In Fn5 103 (nI (d0 % 7)) 5 H.size hIn5 hbt (by decide) (by decide)) kV_RX11_188 hK hXS hS hFc hP hD 0 xo_0 rfl rfl ⟨Nat.le_of_ble_eq_true rfl, Nat.le_of_ble_eq_true rfl⟩ ⟨Nat.le_of_ble_eq_true rfl, Nat.le_of_ble_eq_true rfl⟩ rfl hl.1 rfl (Nat.le_of_ble_eq_true rfl) (oc_182 24 shX11_lettersOfDay_24 uw_0_188)) hS (fun q _ h => hFc q h) hFc (fun u t H1 locs ht hvm wh_8 hB1 hz1 hk1 hS => ?_)
  obtain ⟨cn8, In8, Fn8⟩ := u
  obtain ⟨hP1, hD1⟩ := hB1
  rw [ht] at hP1
  have hP : va_P D vwCl (wX cI (D.1 99) zz g ad cn8 In8 Fn8) H1 := hP1
  have hD : va_D A (wX cI (D.1 99) zz g ad cn8 In8 Fn8) := hD1.weaken (fun _ _ _ h => hFc _ h)
  generalize H1 = H at hP hS ⊢
  have vh_8 : (fun c2 I2 F2 => Fr [] [] [7] cn In Fn5 c2 I2 F2 ∧ CBX c2 ∧ (F2 7 = upd ((Fn5 7)) 5 (nI (d0 % 7)))) cn8 In8 Fn8 := wh_8
  obtain ⟨hfc8, hIn8, h_8⟩ := vh_8
  obtain rfl : cn = cn8 := (funext (fun k => hfc8.1 k List.not_mem_nil)).symm
  obtain rfl : In = In8 := (funext (fun k => hfc8.2.1 k List.not_mem_nil)).symm
  have hf8 : Fr [] [] [7] cn In Fn cn In Fn8 := Fr.mo (Fr.tr hf5 hfc8) (sbl rfl) (sbl rfl) (sbl rfl)
  replace hIn8 : CBXh cn := hIn8
  rw [h_5] at h_8
  refine lv_aload_n hx hb (oc_42 27 (aq_3 shX11_lettersOfDay_24)) rfl (lvA0 hl) ?_
  refine lv_bipush (v := 111) hx hb (oc_16 28 (aq_4 shX11_lettersOfDay_24) sgb_111) kbc_111 ?_
  refine lv_aload_n hx hb (oc_42 30 (aq_6 shX11_lettersOfDay_24)) rfl (lvA0 hl) ?_
  refine gf_RX11_47 S hK hP 0 xo_0 (v := .ref (g 8)) rfl (oc_180 31 (aq_7 shX11_lettersOfDay_24) uw_0_47) ?_
  refine gf_RX11_174 S hK hP 6 xo_6 (v := .ref (g 20)) rfl (oc_180 34 (aq_10 shX11_lettersOfDay_24) uw_0_174) ?_
  refine lv_iload_n hx hb (oc_27 37 (aq_13 shX11_lettersOfDay_24)) rfl (lvA1 hl) ?_
  refine lv_bipush (v := 7) hx hb (oc_16 38 (aq_14 shX11_lettersOfDay_24) sgb_7) kbc_7 ?_
  refine lv_idiv hx hb (oc_108 40 (aq_16 shX11_lettersOfDay_24)) (by decide) ?_
  refine lv_topi (fun y_9 ey_9 => ?_)
  obtain rfl : y_9 = (nI (d0 / 7)) := ey_9.trans (nI_div (by (first | omega | (have zz0 := Hid.u hb_cn; omega))) (by decide))
  refine vp_callSi (runS_r (As := [.ref (g 20), .int (nI (d0 / 7))]) (rest := [.int 111, .ref (g 0)]) S (q_l_at l D cI cB cZ (g 20) 58 (Fn8 20) (nI (d0 / 7)) (by decide)) kS_RX11_192 hK hP [7] (one_is xo_7) ⟨Nat.le_of_ble_eq_true rfl, Nat.le_of_ble_eq_true rfl⟩ ⟨Nat.le_of_ble_eq_true rfl, Nat.le_of_ble_eq_true rfl⟩ rfl hl.1 rfl (Nat.le_of_ble_eq_true rfl) (oc_184 41 (aq_17 shX11_lettersOfDay_24) uw_0_192)) (fun r_10 h_11 => ?_)
  obtain rfl : r_10 = Fn 20 (d0 / 7) := h_11.trans (atM_j (hf8.2.2 20 (nml rfl)) (by (first | omega | (have zz0 := Hid.u hb_cn; omega))) (by decide))
  have hFc := free_all hD hS hA
  refine va_callv (runV_xa (As := [.int 111, .int (Fn 20 (d0 / 7))]) (rest := []) S (q_Wletter l D cI cB cZ zz qq vv bt g ad cn In Fn8 111 (Fn 20 (d0 / 7)) 9 H.size hIn8 hbt (by decide) (by decide)) kV_RX11_188 hK hXS hS hFc hP hD 0 xo_0 rfl rfl ⟨Nat.le_of_ble_eq_true rfl, Nat.le_of_ble_eq_true rfl⟩ ⟨Nat.le_of_ble_eq_true rfl, Nat.le_of_ble_eq_true rfl⟩ rfl hl.1 rfl (Nat.le_of_ble_eq_true rfl) (oc_182 44 (aq_20 shX11_lettersOfDay_24) uw_0_188)) hS (fun q _ h => hFc q h) hFc (fun u t H1 locs ht hvm wh_13 hB1 hz1 hk1 hS => ?_)
  obtain ⟨cn13, In13, Fn13⟩ := u
  obtain ⟨hP1, hD1⟩ := hB1
  rw [ht] at hP1
  have hP : va_P D vwCl (wX cI (D.1 99) zz g ad cn13 In13 Fn13) H1 := hP1
  have hD : va_D A (wX cI (D.1 99) zz g ad cn13 In13 Fn13) := hD1.weaken (fun _ _ _ h => hFc _ h)
  generalize H1 = H at hP hS ⊢
  have vh_13 : (fun c2 I2 F2 => Fr [] [] [7] cn In Fn8 c2 I2 F2 ∧ CBX c2 ∧ (F2 7 = upd ((Fn8 7)) 9 (Fn 20 (d0 / 7)))) cn13 In13 Fn13 := wh_13
  obtain ⟨hfc13, hIn13, h_13⟩ := vh_13
  obtain rfl : cn = cn13 := (funext (fun k => hfc13.1 k List.not_mem_nil)).symm
  obtain rfl : In = In13 := (funext (fun k => hfc13.2.1 k List.not_mem_nil)).symm
  have hf13 : Fr [] [] [7] cn In Fn cn In Fn13 := Fr.mo (Fr.tr hf8 hfc13) (sbl rfl) (sbl rfl) (sbl rfl)
  replace hIn13 : CBXh cn := hIn13
  rw [h_8] at h_13
  exact W.vret hx hb hr (fun t ht hW => ⟨⟨(cn, In, Fn13), rfl, ⟨(Fr.mo hf13 (sbl rfl) (sbl rfl) (sbl rfl)), hIn13, (by show Fn13 7 = upd (upd (upd (upd (Fn 7) 3 (nI d0)) 4 (nI ((nI d0).toInt.toNat / 7))) 5 (nI ((nI d0).toInt.toNat % 7))) 9 (Fn 20 ((nI d0).toInt.toNat / 7)); simp only [zd0]; exact h_13)⟩, by rw [ht]; exact hP, hD⟩, hS.F ht⟩) hS.2.2 (oc_177 47 (aq_23 shX11_lettersOfDay_24))
