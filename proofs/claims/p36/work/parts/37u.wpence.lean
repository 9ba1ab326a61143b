

set_option maxRecDepth 100000 in
set_option maxHeartbeats 4000000 in
theorem q_WfirstThat (l : Launch) (D : va_G) (cI cB cZ : ClassId) (zz qq vv : Nat) (bt : Nat → Int32) (g : Nat → Nat) (ad : Nat → Nat → Nat) (cn : Nat → Nat) (In : Nat → Int32) (Fn : Nat → Nat → Int32) (k0 : Nat) (v0 : Int32) (ld : Int32) (o : OutT) (cl : ClsT) (sz : Nat) (hB : CBX cn) (hk : k0 < cn 6) (hX : XTy k0 Fn ld o cl) : Met l yX9_firstThat (CWS yX9_firstThat cX9_firstThat 5 (some .int)) (RM 3 0 0) (PBx [.ref (ad 5 k0), .int v0, .ref (g 7)] D cI cB cZ zz qq vv bt (wX cI (D.1 99) zz g ad cn In Fn) sz) (va_Qi (fun (r : Int32) (u : (Nat → Nat) × (Nat → Int32) × (Nat → Nat → Int32)) => (fun r c2 I2 F2 => Fr [] [] [196, 197, 305] cn In Fn c2 I2 F2 ∧ CBX c2 ∧ (FTX o (cut (Fn 7)) cl v0 r)) r u.1 u.2.1 u.2.2) (fun (u : (Nat → Nat) × (Nat → Int32) × (Nat → Nat → Int32)) (t : State) => va_P D vwCl (wX cI (D.1 99) zz g ad u.1 u.2.1 u.2.2) t.heap ∧ va_D (va_A (wX cI (D.1 99) zz g ad cn In Fn) sz) (wX cI (D.1 99) zz g ad u.1 u.2.1 u.2.2)) (va_A (wX cI (D.1 99) zz g ad cn In Fn) sz)) 0 0 (va_A (wX cI (D.1 99) zz g ad cn In Fn) sz) := by
  refine en_x (fun A => (va_Qi (fun (r : Int32) (u : (Nat → Nat) × (Nat → Int32) × (Nat → Nat → Int32)) => (fun (r : Int32) (c2 : Nat → Nat) (I2 : Nat → Int32) (F2 : Nat → Nat → Int32) => Fr [] [] [196, 197, 305] cn In Fn c2 I2 F2 ∧ CBX c2 ∧ (FTX o (cut (Fn 7)) cl v0 r)) r u.1 u.2.1 u.2.2) (fun (u : (Nat → Nat) × (Nat → Int32) × (Nat → Nat → Int32)) (t : State) => va_P D vwCl (wX cI (D.1 99) zz g ad u.1 u.2.1 u.2.2) t.heap ∧ va_D A (wX cI (D.1 99) zz g ad u.1 u.2.1 u.2.2)) A)) rfl rfl pn_RX9 (Nat.le_of_ble_eq_true rfl) (fun p e s m below meth c A hx hb hml hown S hr hlocks hnm hA hP hK hD hXS hS ls hl => ?_)
  have hl : lv_has ls 5 [(0, .ref (ad 5 k0)), (1, .int v0), (2, .ref (g 7))] := hl
  have hb_cn : Hid (CBX cn) := hB
  replace hB : CBXh cn := hB
  obtain ⟨n9, hn9, hn8, hn7⟩ := hX.len
  have hcl := hX.1.2.2.2
  have hcx := hX.1.2.1
  refine lv_iconst (v := 0) hx hb (oc_3 0 shX9_firstThat_0) kic_0 ?_
  refine lv_istore_n (lv' := [(3, .int 0), (0, .ref (ad 5 k0)), (1, .int v0), (2, .ref (g 7))]) hx hb (oc_62 1 (aq_1 shX9_firstThat_0)) rfl hl (ltb rfl) rfl (fun ls hl => ?_)
  have lp_2 : ∀ (n : Nat) (i2 : Nat) (Fw : Nat → Nat → Int32) (H : Heap) (locs : List Loc) , cl.length - i2 < n → (i2 ≤ cl.length ∧ Fr [] [] [196, 197, 305] cn In Fn cn In Fw ∧ CBX cn ∧ (∀ (i : Nat) (w : Nat × Nat × Nat), i < i2 → cl[i]? = some w → ¬ b01 (MV o (cut (Fn 7)) w.2.1 w.2.2) = v0)) → va_P D vwCl (wX cI (D.1 99) zz g ad cn In Fw) H → va_D A (wX cI (D.1 99) zz g ad cn In Fw) → va_S A s.heap H locs → ∀ ls : Array Slot, lv_has ls 5 [(3, .int (nI i2)), (0, .ref (ad 5 k0)), (1, .int v0), (2, .ref (g 7))] → W p l e (RM 3 0 0) s m ([.ref (ad 5 k0), .int v0, .ref (g 7)]).toArray below meth c H locs 0 0 (MQ below (va_Qi (fun (r : Int32) (u : (Nat → Nat) × (Nat → Int32) × (Nat → Nat → Int32)) => (fun r c2 I2 F2 => Fr [] [] [196, 197, 305] cn In Fn c2 I2 F2 ∧ CBX c2 ∧ (FTX o (cut (Fn 7)) cl v0 r)) r u.1 u.2.1 u.2.2) (fun (u : (Nat → Nat) × (Nat → Int32) × (Nat → Nat → Int32)) (t : State) => va_P D vwCl (wX cI (D.1 99) zz g ad u.1 u.2.1 u.2.2) t.heap ∧ va_D A (wX cI (D.1 99) zz g ad u.1 u.2.1 u.2.2)) A) ([.ref (ad 5 k0), .int v0, .ref (g 7)]).toArray s 0 0 A) (F0 m 2 ls []) := by
    intro n2
    induction n2 with
    | zero => intros; (first | omega | (have zz0 := Hid.u hb_cn; omega))
    | succ n2 ih2 =>
      intro i2 Fw H locs hmu2 hinv2 hP hD hS ls hl
      obtain ⟨hr2, hfr2, hI2, hx2_0⟩ := hinv2
      have ti2 : (nI i2).toInt = (i2 : Int) := nI_toInt (by (first | omega | (have zz0 := Hid.u hb_cn; omega)))
      replace hI2 : CBXh cn := hI2
      refine lv_iload_n hx hb (oc_29 2 (aq_2 shX9_firstThat_0)) rfl (lvA0 hl) ?_
      refine lv_aload_n hx hb (oc_42 3 (aq_3 shX9_firstThat_0)) rfl (lvA1 hl) ?_
      refine gf_RX9_48 S hK hP _ (xf_7 hk) (v := .int ((Fw 198) k0)) rfl (oc_180 4 (aq_4 shX9_firstThat_0) uw_0_48) ?_
      refine lv_topi (fun y_1 ey_1 => ?_)
      obtain rfl : y_1 = (nI cl.length) := ey_1.trans ((congrFun (hfr2.2.2 198 (nml rfl)) k0).trans hX.1.2.1.1)
      have : (nI cl.length).toInt = ((cl.length : Nat) : Int) := nI_toInt (by (first | omega | (have zz0 := Hid.u hb_cn; omega)))
      refine lv_icmp_ge (tgt := 55) hx hb (oc_162 7 (aq_7 shX9_firstThat_0) sgw_0_48) rfl (fun c_2 => ?_) (fun c_2 => ?_)
      ·
        have tc_2 : ((nI cl.length).toInt : Int) ≤ (nI i2).toInt := Int32.le_iff_toInt_le.mp c_2
        refine lv_iconst (v := (-1)) hx hb (oc_2 55 (aq_7 shX9_firstThat_48)) kic_m1 ?_
        exact W.iret (v := (-1)) hx hb hr (fun t ht hW => ⟨⟨(-1), (cn, In, Fw), rfl, ⟨(Fr.mo hfr2 (sbl rfl) (sbl rfl) (sbl rfl)), hI2, (by show FTX o (cut (Fn 7)) cl v0 (-1); exact Or.inr ⟨fun i w hw => hx2_0 i w (by have := (List.getElem?_eq_some_iff.mp hw).1; (first | omega | (have zz0 := Hid.u hb_cn; omega))) hw, rfl⟩)⟩, by rw [ht]; exact hP, hD⟩, hS.F ht⟩) hS.2.2 (oc_172 56 (aq_8 shX9_firstThat_48))
      ·
        have tc_2 : ((nI i2).toInt : Int) < (nI cl.length).toInt := Int32.lt_iff_toInt_lt.mp (Int32.not_le.mp c_2)
        obtain ⟨z9, hz9⟩ := hcx.get (j := i2) (by (first | omega | (have zz0 := Hid.u hb_cn; omega)))
        obtain ⟨hsA, hsB, hsC⟩ := hcx.at (F2 := Fw) hz9 hcl (hfr2.2.2 302 (nml rfl)) (hfr2.2.2 303 (nml rfl)) (hfr2.2.2 304 (nml rfl))
        refine lv_aload_n hx hb (oc_42 10 (aq_10 shX9_firstThat_0)) rfl (lvA1 hl) ?_
        refine gf_RX9_24 S hK hP _ (xf_7 hk) (v := .ref (ad 62 k0)) rfl (oc_180 11 (aq_11 shX9_firstThat_0) uw_0_24) ?_
        refine lv_iload_n hx hb (oc_29 14 (aq_14 shX9_firstThat_0)) rfl (lvA0 hl) ?_
        refine vp_callSi (runS_r (As := [.ref (ad 62 k0), .int (nI i2)]) (rest := []) S (q_l_at l D cI cB cZ (ad 62 k0) 12 (gA (Fw 303) 12 k0) (nI i2) (by decide)) kS_RX9_37 hK hP _ (one_is (xf_10 hk)) ⟨Nat.le_of_ble_eq_true rfl, Nat.le_of_ble_eq_true rfl⟩ ⟨Nat.le_of_ble_eq_true rfl, Nat.le_of_ble_eq_true rfl⟩ rfl hl.1 rfl (Nat.le_of_ble_eq_true rfl) (oc_184 15 (aq_15 shX9_firstThat_0) uw_0_37)) (fun r_3 h_4 => ?_)
        obtain rfl : r_3 = (nI z9.2.1) := h_4.trans hsB
        refine lv_istore (lv' := [(4, .int (nI z9.2.1)), (3, .int (nI i2)), (0, .ref (ad 5 k0)), (1, .int v0), (2, .ref (g 7))]) hx hb (oc_54 18 (aq_18 shX9_firstThat_0) ub_4) hl (ltb rfl) rfl (fun ls hl => ?_)
        refine lv_aload_n hx hb (oc_42 20 (aq_20 shX9_firstThat_0)) rfl (lvA2 hl) ?_
        refine lv_iload hx hb (oc_21 21 (aq_21 shX9_firstThat_0) ub_4) (lvA0 hl) ?_
        refine lv_aload_n hx hb (oc_42 23 (aq_23 shX9_firstThat_0)) rfl (lvA2 hl) ?_
        refine gf_RX9_27 S hK hP _ (xf_7 hk) (v := .ref (ad 63 k0)) rfl (oc_180 24 shX9_firstThat_24 uw_0_27) ?_
        refine lv_iload_n hx hb (oc_29 27 (aq_3 shX9_firstThat_24)) rfl (lvA1 hl) ?_
        refine vp_callSi (runS_r (As := [.ref (ad 63 k0), .int (nI i2)]) (rest := [.int (nI z9.2.1), .ref (ad 5 k0)]) S (q_l_at l D cI cB cZ (ad 63 k0) 12 (gA (Fw 304) 12 k0) (nI i2) (by decide)) kS_RX9_37 hK hP _ (one_is (xf_11 hk)) ⟨Nat.le_of_ble_eq_true rfl, Nat.le_of_ble_eq_true rfl⟩ ⟨Nat.le_of_ble_eq_true rfl, Nat.le_of_ble_eq_true rfl⟩ rfl hl.1 rfl (Nat.le_of_ble_eq_true rfl) (oc_184 28 (aq_4 shX9_firstThat_24) uw_0_37)) (fun r_5 h_6 => ?_)
        obtain rfl : r_5 = (nI z9.2.2) := h_6.trans hsC
        refine lv_aload_n hx hb (oc_44 31 (aq_7 shX9_firstThat_24)) rfl (lvA4 hl) ?_
        have hFc := free_all hD hS hA
        refine va_calli (runV_xa (As := [.int (nI z9.2.1), .int (nI z9.2.2), .ref (g 7)]) (rest := []) S (q_Wrun l D cI cB cZ zz qq vv bt g ad cn In Fw k0 z9.2.1 z9.2.2 n9 o true H.size hI2 (by (first | omega | (have zz0 := Hid.u hb_cn; omega))) ((hX.cg (hfr2.2.2 195 (nml rfl)) (hfr2.2.2 301 (nml rfl)) (hfr2.2.2 198 (nml rfl)) (hfr2.2.2 302 (nml rfl)) (hfr2.2.2 303 (nml rfl)) (hfr2.2.2 304 (nml rfl)) (hfr2.2.2 199 (nml rfl)))).1.1 (hX.2.2 _ (hX.mem hz9)).2 (by rw [congrFun (hfr2.2.2 199 (nml rfl)) k0]; exact hn9) ⟨hn8, hn7⟩) kV_RX9_51 hK hXS hS hFc hP hD _ (xf_7 hk) rfl rfl ⟨Nat.le_of_ble_eq_true rfl, Nat.le_of_ble_eq_true rfl⟩ ⟨Nat.le_of_ble_eq_true rfl, Nat.le_of_ble_eq_true rfl⟩ rfl hl.1 rfl (Nat.le_of_ble_eq_true rfl) (oc_182 32 (aq_8 shX9_firstThat_24) uw_0_51)) hS (fun q _ h => hFc q h) hFc (fun r_7 u t H1 locs ht hvm wh_8 hB1 hz1 hk1 hS => ?_)
        obtain ⟨cn8, In8, Fn8⟩ := u
        obtain ⟨hP1, hD1⟩ := hB1
        rw [ht] at hP1
        have hP : va_P D vwCl (wX cI (D.1 99) zz g ad cn8 In8 Fn8) H1 := hP1
        have hD : va_D A (wX cI (D.1 99) zz g ad cn8 In8 Fn8) := hD1.weaken (fun _ _ _ h => hFc _ h)
        generalize H1 = H at hP hS ⊢
        have vh_8 : (fun r c2 I2 F2 => Fr [] [] [196, 197, 305] cn In Fw c2 I2 F2 ∧ CBX c2 ∧ (r = MV o (cut ((Fw 7))) z9.2.1 z9.2.2)) r_7 cn8 In8 Fn8 := wh_8
        obtain ⟨hfc8, hIn8, h_8⟩ := vh_8
        obtain rfl : cn = cn8 := (funext (fun k => hfc8.1 k List.not_mem_nil)).symm
        obtain rfl : In = In8 := (funext (fun k => hfc8.2.1 k List.not_mem_nil)).symm
        have hf8 : Fr [] [] [196, 197, 305] cn In Fn cn In Fn8 := Fr.mo (Fr.tr hfr2 hfc8) (sbl rfl) (sbl rfl) (sbl rfl)
        replace hIn8 : CBXh cn := hIn8
        have hm_8 := h_8
        rw [hfr2.2.2 7 (nml rfl)] at hm_8
        refine lv_if_eq (tgt := 42) hx hb (oc_153 35 (aq_11 shX9_firstThat_24) sgw_0_7) rfl (fun c_9 => ?_) (fun c_9 => ?_)
        ·
          have tc_9 : (r_7.toInt : Int) = 0 := congrArg Int32.toInt c_9
          refine lv_iconst (v := 0) hx hb (oc_3 42 (aq_18 shX9_firstThat_24)) kic_0 ?_
          refine lv_iload_n hx hb dX9_firstThat_43 rfl (lvA3 hl) ?_
          refine lv_icmp_ne (tgt := 49) hx hb dX9_firstThat_44 rfl (fun c_10 => ?_) (fun c_10 => ?_)
          ·
            have tc_10 : (0 : Int) ≠ v0.toInt := fun q => c_10 (Int32.toInt_inj.mp q)
            refine lv_iinc (v := (nI (i2 + 1))) (lv' := [(3, .int (nI (i2 + 1))), (4, .int (nI z9.2.1)), (0, .ref (ad 5 k0)), (1, .int v0), (2, .ref (g 7))]) hx hb dX9_firstThat_49 hl (k := 1) rfl (nI_1 _) (ltb rfl) rfl (fun ls hl => ?_)
            refine lv_goto (tgt := 2) hx hb dX9_firstThat_52 rfl ?_
            exact ih2 (i2 + 1) Fn8 _ _ (by (first | omega | (have zz0 := Hid.u hb_cn; omega))) ⟨(by (first | omega | (have zz0 := Hid.u hb_cn; omega))), (Fr.mo hf8 (sbl rfl) (sbl rfl) (sbl rfl)), hIn8, (fun i w hi hw => if q : i < i2 then hx2_0 i w q hw else (by obtain rfl : i = i2 := (by (first | omega | (have zz0 := Hid.u hb_cn; omega))); rw [hz9] at hw; obtain rfl : z9 = w := Option.some.inj hw; unfold b01; rw [← hm_8]; first | (rw [if_pos (by first | assumption | exact Int32.toInt_inj.mp (by assumption))]; first | assumption | exact fun q9 => absurd (congrArg Int32.toInt q9) (by (first | omega | (have zz0 := Hid.u hb_cn; omega)))) | (rw [if_neg (by first | assumption | exact fun q => absurd (congrArg Int32.toInt q) (by assumption))]; first | assumption | exact fun q9 => absurd (congrArg Int32.toInt q9) (by (first | omega | (have zz0 := Hid.u hb_cn; omega))))))⟩ hP hD hS ls (lv_sub hl [0, 2, 3, 4] rfl)
          ·
            have tc_10 : (0 : Int) = v0.toInt := congrArg Int32.toInt c_10
            refine lv_iload_n hx hb dX9_firstThat_47 rfl (lvA1 hl) ?_
            exact W.iret (v := (nI i2)) hx hb hr (fun t ht hW => ⟨⟨(nI i2), (cn, In, Fn8), rfl, ⟨(Fr.mo hf8 (sbl rfl) (sbl rfl) (sbl rfl)), hIn8, (by show FTX o (cut (Fn 7)) cl v0 (nI i2); exact Or.inl ⟨i2, z9, hz9, (by unfold b01; rw [← hm_8]; first | (rw [if_pos (by first | assumption | exact Int32.toInt_inj.mp (by assumption))]; first | assumption | exact Int32.toInt_inj.mp (by (first | omega | (have zz0 := Hid.u hb_cn; omega)))) | (rw [if_neg (by first | assumption | exact fun q => absurd (congrArg Int32.toInt q) (by assumption))]; first | assumption | exact Int32.toInt_inj.mp (by (first | omega | (have zz0 := Hid.u hb_cn; omega))))), hx2_0, rfl⟩)⟩, by rw [ht]; exact hP, hD⟩, hS.F ht⟩) hS.2.2 dX9_firstThat_48
        ·
          have tc_9 : (r_7.toInt : Int) ≠ 0 := fun q => c_9 (Int32.toInt_inj.mp q)
          refine lv_iconst (v := 1) hx hb (oc_4 38 (aq_14 shX9_firstThat_24)) kic_1 ?_
          refine lv_goto (tgt := 43) hx hb (oc_167 39 (aq_15 shX9_firstThat_24) sgw_0_4) rfl ?_
          refine lv_iload_n hx hb dX9_firstThat_43 rfl (lvA3 hl) ?_
          refine lv_icmp_ne (tgt := 49) hx hb dX9_firstThat_44 rfl (fun c_11 => ?_) (fun c_11 => ?_)
          ·
            have tc_11 : (1 : Int) ≠ v0.toInt := fun q => c_11 (Int32.toInt_inj.mp q)
            refine lv_iinc (v := (nI (i2 + 1))) (lv' := [(3, .int (nI (i2 + 1))), (4, .int (nI z9.2.1)), (0, .ref (ad 5 k0)), (1, .int v0), (2, .ref (g 7))]) hx hb dX9_firstThat_49 hl (k := 1) rfl (nI_1 _) (ltb rfl) rfl (fun ls hl => ?_)
            refine lv_goto (tgt := 2) hx hb dX9_firstThat_52 rfl ?_
            exact ih2 (i2 + 1) Fn8 _ _ (by (first | omega | (have zz0 := Hid.u hb_cn; omega))) ⟨(by (first | omega | (have zz0 := Hid.u hb_cn; omega))), (Fr.mo hf8 (sbl rfl) (sbl rfl) (sbl rfl)), hIn8, (fun i w hi hw => if q : i < i2 then hx2_0 i w q hw else (by obtain rfl : i = i2 := (by (first | omega | (have zz0 := Hid.u hb_cn; omega))); rw [hz9] at hw; obtain rfl : z9 = w := Option.some.inj hw; unfold b01; rw [← hm_8]; first | (rw [if_pos (by first | assumption | exact Int32.toInt_inj.mp (by assumption))]; first | assumption | exact fun q9 => absurd (congrArg Int32.toInt q9) (by (first | omega | (have zz0 := Hid.u hb_cn; omega)))) | (rw [if_neg (by first | assumption | exact fun q => absurd (congrArg Int32.toInt q) (by assumption))]; first | assumption | exact fun q9 => absurd (congrArg Int32.toInt q9) (by (first | omega | (have zz0 := Hid.u hb_cn; omega))))))⟩ hP hD hS ls (lv_sub hl [0, 2, 3, 4] rfl)
          ·
            have tc_11 : (1 : Int) = v0.toInt := congrArg Int32.toInt c_11
            refine lv_iload_n hx hb dX9_firstThat_47 rfl (lvA1 hl) ?_
            exact W.iret (v := (nI i2)) hx hb hr (fun t ht hW => ⟨⟨(nI i2), (cn, In, Fn8), rfl, ⟨(Fr.mo hf8 (sbl rfl) (sbl rfl) (sbl rfl)), hIn8, (by show FTX o (cut (Fn 7)) cl v0 (nI i2); exact Or.inl ⟨i2, z9, hz9, (by unfold b01; rw [← hm_8]; first | (rw [if_pos (by first | assumption | exact Int32.toInt_inj.mp (by assumption))]; first | assumption | exact Int32.toInt_inj.mp (by (first | omega | (have zz0 := Hid.u hb_cn; omega)))) | (rw [if_neg (by first | assumption | exact fun q => absurd (congrArg Int32.toInt q) (by assumption))]; first | assumption | exact Int32.toInt_inj.mp (by (first | omega | (have zz0 := Hid.u hb_cn; omega))))), hx2_0, rfl⟩)⟩, by rw [ht]; exact hP, hD⟩, hS.F ht⟩) hS.2.2 dX9_firstThat_48
  exact lp_2 _ 0 Fn _ _ (Nat.lt_succ_self _) ⟨(by (first | omega | (have zz0 := Hid.u hb_cn; omega))), (Fr.mo Fr.rf (sbl rfl) (sbl rfl) (sbl rfl)), hB, (fun i _ h => absurd h (Nat.not_lt_zero i))⟩ hP hD hS ls (lv_sub hl [0, 1, 2, 3] rfl)
set_option maxRecDepth 100000 in
set_option maxHeartbeats 4000000 in
theorem q_Wtsum (l : Launch) (D : va_G) (cI cB cZ : ClassId) (zz qq vv : Nat) (bt : Nat → Int32) (g : Nat → Nat) (ad : Nat → Nat → Nat) (cn : Nat → Nat) (In : Nat → Int32) (Fn : Nat → Nat → Int32) (k0 j0 : Nat) (o : OutT) (cl : ClsT) (z0 : Nat × Nat × Nat) (sz : Nat) (hB : CBX cn) (hk : k0 < cn 6) (hX : XTy k0 Fn 112 o cl) (hz : cl[j0]? = some z0) : Met l yX9_sum (CWS yX9_sum cX9_sum 3 (some .int)) (RM 3 0 0) (PBx [.ref (ad 5 k0), .int (nI j0), .ref (g 7)] D cI cB cZ zz qq vv bt (wX cI (D.1 99) zz g ad cn In Fn) sz) (va_Qi (fun (r : Int32) (u : (Nat → Nat) × (Nat → Int32) × (Nat → Nat → Int32)) => (fun r c2 I2 F2 => Fr [] [] [196, 197, 305] cn In Fn c2 I2 F2 ∧ CBX c2 ∧ (r = MV o (cut (Fn 7)) z0.1 z0.2.1)) r u.1 u.2.1 u.2.2) (fun (u : (Nat → Nat) × (Nat → Int32) × (Nat → Nat → Int32)) (t : State) => va_P D vwCl (wX cI (D.1 99) zz g ad u.1 u.2.1 u.2.2) t.heap ∧ va_D (va_A (wX cI (D.1 99) zz g ad cn In Fn) sz) (wX cI (D.1 99) zz g ad u.1 u.2.1 u.2.2)) (va_A (wX cI (D.1 99) zz g ad cn In Fn) sz)) 0 0 (va_A (wX cI (D.1 99) zz g ad cn In Fn) sz) := by
  refine en_x (fun A => (va_Qi (fun (r : Int32) (u : (Nat → Nat) × (Nat → Int32) × (Nat → Nat → Int32)) => (fun (r : Int32) (c2 : Nat → Nat) (I2 : Nat → Int32) (F2 : Nat → Nat → Int32) => Fr [] [] [196, 197, 305] cn In Fn c2 I2 F2 ∧ CBX c2 ∧ (r = MV o (cut (Fn 7)) z0.1 z0.2.1)) r u.1 u.2.1 u.2.2) (fun (u : (Nat → Nat) × (Nat → Int32) × (Nat → Nat → Int32)) (t : State) => va_P D vwCl (wX cI (D.1 99) zz g ad u.1 u.2.1 u.2.2) t.heap ∧ va_D A (wX cI (D.1 99) zz g ad u.1 u.2.1 u.2.2)) A)) rfl rfl pn_RX9 (Nat.le_of_ble_eq_true rfl) (fun p e s m below meth c A hx hb hml hown S hr hlocks hnm hA hP hK hD hXS hS ls hl => ?_)
  have hl : lv_has ls 3 [(0, .ref (ad 5 k0)), (1, .int (nI j0)), (2, .ref (g 7))] := hl
  have hb_cn : Hid (CBX cn) := hB
  replace hB : CBXh cn := hB
  obtain ⟨n9, hn9, hn8, hn7⟩ := hX.len
  obtain ⟨hsA, hsB, hsC⟩ := hX.1.2.1.at (F2 := Fn) hz hX.1.2.2.2 rfl rfl rfl
  have hj12 : j0 < 12 := by have := (List.getElem?_eq_some_iff.mp hz).1; have := hX.1.2.2.2; (first | omega | (have zz0 := Hid.u hb_cn; omega))
  refine lv_aload_n hx hb (oc_42 0 shX9_sum_0) rfl (lvA0 hl) ?_
  refine lv_aload_n hx hb (oc_42 1 (aq_1 shX9_sum_0)) rfl (lvA0 hl) ?_
  refine gf_RX9_21 S hK hP _ (xf_7 hk) (v := .ref (ad 61 k0)) rfl (oc_180 2 (aq_2 shX9_sum_0) uw_0_21) ?_
  refine lv_iload_n hx hb (oc_27 5 (aq_5 shX9_sum_0)) rfl (lvA1 hl) ?_
  refine vp_callSi (runS_r (As := [.ref (ad 61 k0), .int (nI j0)]) (rest := [.ref (ad 5 k0)]) S (q_l_at l D cI cB cZ (ad 61 k0) 12 (gA (Fn 302) 12 k0) (nI j0) (by decide)) kS_RX9_37 hK hP _ (one_is (xf_9 hk)) ⟨Nat.le_of_ble_eq_true rfl, Nat.le_of_ble_eq_true rfl⟩ ⟨Nat.le_of_ble_eq_true rfl, Nat.le_of_ble_eq_true rfl⟩ rfl hl.1 rfl (Nat.le_of_ble_eq_true rfl) (oc_184 6 (aq_6 shX9_sum_0) uw_0_37)) (fun r_1 h_2 => ?_)
  obtain rfl : r_1 = (nI z0.1) := h_2.trans hsA
  refine lv_aload_n hx hb (oc_42 9 (aq_9 shX9_sum_0)) rfl (lvA0 hl) ?_
  refine gf_RX9_24 S hK hP _ (xf_7 hk) (v := .ref (ad 62 k0)) rfl (oc_180 10 (aq_10 shX9_sum_0) uw_0_24) ?_
  refine lv_iload_n hx hb (oc_27 13 (aq_13 shX9_sum_0)) rfl (lvA1 hl) ?_
  refine vp_callSi (runS_r (As := [.ref (ad 62 k0), .int (nI j0)]) (rest := [.int (nI z0.1), .ref (ad 5 k0)]) S (q_l_at l D cI cB cZ (ad 62 k0) 12 (gA (Fn 303) 12 k0) (nI j0) (by decide)) kS_RX9_37 hK hP _ (one_is (xf_10 hk)) ⟨Nat.le_of_ble_eq_true rfl, Nat.le_of_ble_eq_true rfl⟩ ⟨Nat.le_of_ble_eq_true rfl, Nat.le_of_ble_eq_true rfl⟩ rfl hl.1 rfl (Nat.le_of_ble_eq_true rfl) (oc_184 14 (aq_14 shX9_sum_0) uw_0_37)) (fun r_3 h_4 => ?_)
  obtain rfl : r_3 = (nI z0.2.1) := h_4.trans hsB
  refine lv_aload_n hx hb (oc_44 17 (aq_17 shX9_sum_0)) rfl (lvA2 hl) ?_
  have hFc := free_all hD hS hA
  refine va_calli (runV_xa (As := [.int (nI z0.1), .int (nI z0.2.1), .ref (g 7)]) (rest := []) S (q_Wrun l D cI cB cZ zz qq vv bt g ad cn In Fn k0 z0.1 z0.2.1 n9 o false s.heap.size hB (by (first | omega | (have zz0 := Hid.u hb_cn; omega))) (hX).1.1 ((hX.2.2 _ (hX.mem hz)).1 rfl) hn9 ⟨hn8, hn7⟩) kV_RX9_51 hK hXS hS hFc hP hD _ (xf_7 hk) rfl rfl ⟨Nat.le_of_ble_eq_true rfl, Nat.le_of_ble_eq_true rfl⟩ ⟨Nat.le_of_ble_eq_true rfl, Nat.le_of_ble_eq_true rfl⟩ rfl hl.1 rfl (Nat.le_of_ble_eq_true rfl) (oc_182 18 (aq_18 shX9_sum_0) uw_0_51)) hS (fun q _ h => hFc q h) hFc (fun r_5 u t H1 locs ht hvm wh_6 hB1 hz1 hk1 hS => ?_)
  obtain ⟨cn6, In6, Fn6⟩ := u
  obtain ⟨hP1, hD1⟩ := hB1
  rw [ht] at hP1
  have hP : va_P D vwCl (wX cI (D.1 99) zz g ad cn6 In6 Fn6) H1 := hP1
  have hD : va_D A (wX cI (D.1 99) zz g ad cn6 In6 Fn6) := hD1.weaken (fun _ _ _ h => hFc _ h)
  generalize H1 = H at hP hS ⊢
  have vh_6 : (fun r c2 I2 F2 => Fr [] [] [196, 197, 305] cn In Fn c2 I2 F2 ∧ CBX c2 ∧ (r = MV o (cut ((Fn 7))) z0.1 z0.2.1)) r_5 cn6 In6 Fn6 := wh_6
  obtain ⟨hfc6, hIn6, h_6⟩ := vh_6
  obtain rfl : cn = cn6 := (funext (fun k => hfc6.1 k List.not_mem_nil)).symm
  obtain rfl : In = In6 := (funext (fun k => hfc6.2.1 k List.not_mem_nil)).symm
  have hf6 : Fr [] [] [196, 197, 305] cn In Fn cn In Fn6 := Fr.mo (Fr.tr (Fr.rf (cn := cn) (In := In) (Fn := Fn)) hfc6) (sbl rfl) (sbl rfl) (sbl rfl)
  replace hIn6 : CBXh cn := hIn6
  exact W.iret (v := r_5) hx hb hr (fun t ht hW => ⟨⟨r_5, (cn, In, Fn6), rfl, ⟨(Fr.mo hf6 (sbl rfl) (sbl rfl) (sbl rfl)), hIn6, (by show r_5 = MV o (cut (Fn 7)) z0.1 z0.2.1; exact h_6)⟩, by rw [ht]; exact hP, hD⟩, hS.F ht⟩) hS.2.2 (oc_172 21 (aq_21 shX9_sum_0))
set_option maxRecDepth 100000 in
set_option maxHeartbeats 4000000 in
theorem q_Wletter (l : Launch) (D : va_G) (cI cB cZ : ClassId) (zz qq vv : Nat) (bt : Nat → Int32) (g : Nat → Nat) (ad : Nat → Nat → Nat) (cn : Nat → Nat) (In : Nat → Int32) (Fn : Nat → Nat → Int32) (v0 v1 : Int32) (j0 : Nat) (sz : Nat) (hB : CBX cn) (hbt : BTL bt) (hv0 : 0 ≤ v0.toInt ∧ v0.toInt ≤ 255) (hj : ltr v0 = some j0) : Met l yX11_letter (CWS yX11_letter cX11_letter 3 none) (RM 4 0 0) (PBx [.ref (g 0), .int v0, .int v1] D cI cB cZ zz qq vv bt (wX cI (D.1 99) zz g ad cn In Fn) sz) (va_Qv (fun (u : (Nat → Nat) × (Nat → Int32) × (Nat → Nat → Int32)) => (fun c2 I2 F2 => Fr [] [] [7] cn In Fn c2 I2 F2 ∧ CBX c2 ∧ (F2 7 = upd (Fn 7) j0 v1)) u.1 u.2.1 u.2.2) (fun (u : (Nat → Nat) × (Nat → Int32) × (Nat → Nat → Int32)) (t : State) => va_P D vwCl (wX cI (D.1 99) zz g ad u.1 u.2.1 u.2.2) t.heap ∧ va_D (va_A (wX cI (D.1 99) zz g ad cn In Fn) sz) (wX cI (D.1 99) zz g ad u.1 u.2.1 u.2.2)) (va_A (wX cI (D.1 99) zz g ad cn In Fn) sz)) 0 0 (va_A (wX cI (D.1 99) zz g ad cn In Fn) sz) := by
  refine en_x (fun A => (va_Qv (fun (u : (Nat → Nat) × (Nat → Int32) × (Nat → Nat → Int32)) => (fun (c2 : Nat → Nat) (I2 : Nat → Int32) (F2 : Nat → Nat → Int32) => Fr [] [] [7] cn In Fn c2 I2 F2 ∧ CBX c2 ∧ (F2 7 = upd (Fn 7) j0 v1)) u.1 u.2.1 u.2.2) (fun (u : (Nat → Nat) × (Nat → Int32) × (Nat → Nat → Int32)) (t : State) => va_P D vwCl (wX cI (D.1 99) zz g ad u.1 u.2.1 u.2.2) t.heap ∧ va_D A (wX cI (D.1 99) zz g ad u.1 u.2.1 u.2.2)) A)) rfl rfl pn_RX11 (Nat.le_of_ble_eq_true rfl) (fun p e s m below meth c A hx hb hml hown S hr hlocks hnm hA hP hK hD hXS hS ls hl => ?_)
  have hl : lv_has ls 3 [(0, .ref (g 0)), (1, .int v0), (2, .int v1)] := hl
  have hb_cn : Hid (CBX cn) := hB
  replace hB : CBXh cn := hB
  refine lv_aload_n hx hb (oc_42 0 shX11_letter_0) rfl (lvA0 hl) ?_
  refine gf_RX11_40 S hK hP 0 xo_0 (v := .ref (g 7)) rfl (oc_180 1 (aq_1 shX11_letter_0) uw_0_40) ?_
  refine va_ldcS hx hb hown hXS.2.2.2.2.2.2.2.1.1 (oc_18 4 (aq_4 shX11_letter_0) ub_32) ?_
  refine lv_iload_n hx hb (oc_27 6 (aq_6 shX11_letter_0)) rfl (lvA1 hl) ?_
  refine vp_callSi (runV_rx (As := [.int v0]) (rest := [.ref (g 7)]) S (q_z_strIndex l D cI cB cZ zz qq vv bt v0 hv0) kV_RX11_181 hK hXS hS hP [] rfl (va_Orecv hXS.2.2.2.1 hS) ⟨Nat.le_of_ble_eq_true rfl, Nat.le_of_ble_eq_true rfl⟩ ⟨Nat.le_of_ble_eq_true rfl, Nat.le_of_ble_eq_true rfl⟩ rfl hl.1 rfl (Nat.le_of_ble_eq_true rfl) (oc_182 7 (aq_7 shX11_letter_0) uw_0_181)) (fun r_1 h_2 => ?_)
  obtain ⟨er9, hj11⟩ := ltr_at hbt hv0 h_2 hj
  obtain rfl : r_1 = nI j0 := er9
  refine lv_iload_n hx hb (oc_28 10 (aq_10 shX11_letter_0)) rfl (lvA2 hl) ?_
  have hFc := va_free (wc := [((g 7), .inl (cI, 11, .inl (Fn 7)))]) hD hS hA [5] (one_im xo_5)
  refine va_callv (runS_w (As := [.ref (g 7), .int (nI j0), .int v1]) (rest := []) S (q_l_put l D cI cB cZ (g 7) 11 (Fn 7) (nI j0) v1 s.heap.size (by (first | omega | (have zz0 := Hid.u hb_cn; omega)))) kS_RX11_184 hK hP hD [5] (one_is xo_5) (one_im xo_5) rfl ⟨Nat.le_of_ble_eq_true rfl, Nat.le_of_ble_eq_true rfl⟩ ⟨Nat.le_of_ble_eq_true rfl, Nat.le_of_ble_eq_true rfl⟩ rfl hl.1 rfl (Nat.le_of_ble_eq_true rfl) (oc_184 11 (aq_11 shX11_letter_0) uw_0_184)) hS (fun q _ h => hFc q h) hFc (fun u_5 t H1 locs ht hvm h_4 hB1 hz1 hk1 hS => ?_)
  obtain ⟨hP1, hD1⟩ := hB1
  rw [ht] at hP1
  obtain ⟨hP, hD⟩ := wset1 hP hD xo_5 hk1 hP1
  obtain rfl : u_5 = (putM (Fn 7) 11 (nI j0) v1) := h_4
  generalize H1 = H at hP hS ⊢
  have hP : va_P D vwCl (wX cI (D.1 99) zz g ad cn In (va_up Fn 7 (putM (Fn 7) 11 (nI j0) v1))) H := va_P_eq xsa_5 hP
  have hD : va_D A (wX cI (D.1 99) zz g ad cn In (va_up Fn 7 (putM (Fn 7) 11 (nI j0) v1))) := va_D_eq xsa_5 hD
  exact W.vret hx hb hr (fun t ht hW => ⟨⟨(cn, In, (va_up Fn 7 (putM (Fn 7) 11 (nI j0) v1))), rfl, ⟨(Fr.mo (Fr.f 7 Fr.rf) (sbl rfl) (sbl rfl) (sbl rfl)), hB, (by show (va_up Fn 7 (putM (Fn 7) 11 (nI j0) v1)) 7 = upd (Fn 7) j0 v1; exact putM_l hj11 (by decide))⟩, by rw [ht]; exact hP, hD⟩, hS.F ht⟩) hS.2.2 (oc_177 14 (aq_14 shX11_letter_0))
set_option maxRecDepth 100000 in
set_option maxHeartbeats 4000000 in
theorem q_WlettersOfDay (l : Launch) (D : va_G) (cI cB cZ : ClassId) (zz qq vv : Nat) (bt : Nat → Int32) (g : Nat → Nat) (ad : Nat → Nat → Nat) (cn : Nat → Nat) (In : Nat → Int32) (Fn : Nat → Nat → Int32) (v0 : Int32) (sz : Nat) (hB : CBX cn) (hbt : BTL bt) (hd : 0 ≤ v0.toInt ∧ v0.toInt ≤ 399) : Met l yX11_lettersOfDay (CWS yX11_lettersOfDay cX11_lettersOfDay 2 none) (RM 5 0 0) (PBx [.ref (g 0), .int v0] D cI cB cZ zz qq vv bt (wX cI (D.1 99) zz g ad cn In Fn) sz) (va_Qv (fun (u : (Nat → Nat) × (Nat → Int32) × (Nat → Nat → Int32)) => (fun c2 I2 F2 => Fr [] [] [7] cn In Fn c2 I2 F2 ∧ CBX c2 ∧ (F2 7 = upd (upd (upd (upd (Fn 7) 3 v0) 4 (nI (v0.toInt.toNat / 7))) 5 (nI (v0.toInt.toNat % 7))) 9 (Fn 20 (v0.toInt.toNat / 7)))) u.1 u.2.1 u.2.2) (fun (u : (Nat → Nat) × (Nat → Int32) × (Nat → Nat → Int32)) (t : State) => va_P D vwCl (wX cI (D.1 99) zz g ad u.1 u.2.1 u.2.2) t.heap ∧ va_D (va_A (wX cI (D.1 99) zz g ad cn In Fn) sz) (wX cI (D.1 99) zz g ad u.1 u.2.1 u.2.2)) (va_A (wX cI (D.1 99) zz g ad cn In Fn) sz)) 0 0 (va_A (wX cI (D.1 99) zz g ad cn In Fn) sz) := by
  refine en_x (fun A => (va_Qv (fun (u : (Nat → Nat) × (Nat → Int32) × (Nat → Nat → Int32)) => (fun (c2 : Nat → Nat) (I2 : Nat → Int32) (F2 : Nat → Nat → Int32) => Fr [] [] [7] cn In Fn c2 I2 F2 ∧ CBX c2 ∧ (F2 7 = upd (upd (upd (upd (Fn 7) 3 v0) 4 (nI (v0.toInt.toNat / 7))) 5 (nI (v0.toInt.toNat % 7))) 9 (Fn 20 (v0.toInt.toNat / 7)))) u.1 u.2.1 u.2.2) (fun (u : (Nat → Nat) × (Nat → Int32) × (Nat → Nat → Int32)) (t : State) => va_P D vwCl (wX cI (D.1 99) zz g ad u.1 u.2.1 u.2.2) t.heap ∧ va_D A (wX cI (D.1 99) zz g ad u.1 u.2.1 u.2.2)) A)) rfl rfl pn_RX11 (Nat.le_of_ble_eq_true rfl) (fun p e s m below meth c A hx hb hml hown S hr hlocks hnm hA hP hK hD hXS hS ls hl => ?_)
  have hl : lv_has ls 2 [(0, .ref (g 0)), (1, .int v0)] := hl
  have hb_cn : Hid (CBX cn) := hB
  replace hB : CBXh cn := hB
  obtain ⟨d0, hd0, rfl⟩ := nI_of (x := v0) (fun q => by have := Int32.lt_iff_toInt_lt.mp q; have e : (0 : Int32).toInt = 0 := rfl; (first | omega | (have zz0 := Hid.u hb_cn; omega)))
  have td0 : (nI d0).toInt = (d0 : Int) := nI_toInt hd0
  have zd0 : (nI d0).toInt.toNat = d0 := by (first | omega | (have zz0 := Hid.u hb_cn; omega))
  refine lv_aload_n hx hb (oc_42 0 shX11_lettersOfDay_0) rfl (lvA0 hl) ?_
  refine lv_bipush (v := 100) hx hb (oc_16 1 (aq_1 shX11_lettersOfDay_0) sgb_100) kbc_100 ?_
  refine lv_iload_n hx hb (oc_27 3 (aq_3 shX11_lettersOfDay_0)) rfl (lvA1 hl) ?_
  have hFc := free_all hD hS hA
  refine va_callv (runV_xa (As := [.int 100, .int (nI d0)]) (rest := []) S (q_Wletter l D cI cB cZ zz qq vv bt g ad cn In Fn 100 (nI d0) 3 s.heap.size hB hbt (by decide) (by decide)) kV_RX11_188 hK hXS hS hFc hP hD 0 xo_0 rfl rfl ⟨Nat.le_of_ble_eq_true rfl, Nat.le_of_ble_eq_true rfl⟩ ⟨Nat.le_of_ble_eq_true rfl, Nat.le_of_ble_eq_true rfl⟩ rfl hl.1 rfl (Nat.le_of_ble_eq_true rfl) (oc_182 4 (aq_4 shX11_lettersOfDay_0) uw_0_188)) hS (fun q _ h => hFc q h) hFc (fun u t H1 locs ht hvm wh_2 hB1 hz1 hk1 hS => ?_)
  obtain ⟨cn2, In2, Fn2⟩ := u
  obtain ⟨hP1, hD1⟩ := hB1
  rw [ht] at hP1
  have hP : va_P D vwCl (wX cI (D.1 99) zz g ad cn2 In2 Fn2) H1 := hP1
  have hD : va_D A (wX cI (D.1 99) zz g ad cn2 In2 Fn2) := hD1.weaken (fun _ _ _ h => hFc _ h)
  generalize H1 = H at hP hS ⊢
  have vh_2 : (fun c2 I2 F2 => Fr [] [] [7] cn In Fn c2 I2 F2 ∧ CBX c2 ∧ (F2 7 = upd ((Fn 7)) 3 (nI d0))) cn2 In2 Fn2 := wh_2
  obtain ⟨hfc2, hIn2, h_2⟩ := vh_2
  obtain rfl : cn = cn2 := (funext (fun k => hfc2.1 k List.not_mem_nil)).symm
  obtain rfl : In = In2 := (funext (fun k => hfc2.2.1 k List.not_mem_nil)).symm
  have hf2 : Fr [] [] [7] cn In Fn cn In Fn2 := Fr.mo (Fr.tr (Fr.rf (cn := cn) (In := In) (Fn := Fn)) hfc2) (sbl rfl) (sbl rfl) (sbl rfl)
  replace hIn2 : CBXh cn := hIn2
  refine lv_aload_n hx hb (oc_42 7 (aq_7 shX11_lettersOfDay_0)) rfl (lvA0 hl) ?_
  refine lv_bipush (v := 119) hx hb (oc_16 8 (aq_8 shX11_lettersOfDay_0) sgb_119) kbc_119 ?_
  refine lv_iload_n hx hb (oc_27 10 (aq_10 shX11_lettersOfDay_0)) rfl (lvA1 hl) ?_
  refine lv_bipush (v := 7) hx hb (oc_16 11 (aq_11 shX11_lettersOfDay_0) sgb_7) kbc_7 ?_
  refine lv_idiv hx hb (oc_108 13 (aq_13 shX11_lettersOfDay_0)) (by decide) ?_
  refine lv_topi (fun y_3 ey_3 => ?_)
  obtain rfl : y_3 = (nI (d0 / 7)) := ey_3.trans (nI_div (by (first | omega | (have zz0 := Hid.u hb_cn; omega))) (by decide))
  have hFc := free_all hD hS hA
  refine va_callv (runV_xa (As := [.int 119, .int (nI (d0 / 7))]) (rest := []) S (q_Wletter l D cI cB cZ zz qq vv bt g ad cn In Fn2 119 (nI (d0 / 7)) 4 H.size hIn2 hbt (by decide) (by decide)) kV_RX11_188 hK hXS hS hFc hP hD 0 xo_0 rfl rfl ⟨Nat.le_of_ble_eq_true rfl, Nat.le_of_ble_eq_true rfl⟩ ⟨Nat.le_of_ble_eq_true rfl, Nat.le_of_ble_eq_true rfl⟩ rfl hl.1 rfl (Nat.le_of_ble_eq_true rfl) (oc_182 14 (aq_14 shX11_lettersOfDay_0) uw_0_188)) hS (fun q _ h => hFc q h) hFc (fun u t H1 locs ht hvm wh_5 hB1 hz1 hk1 hS => ?_)
  obtain ⟨cn5, In5, Fn5⟩ := u
  obtain ⟨hP1, hD1⟩ := hB1
  rw [ht] at hP1
  have hP : va_P D vwCl (wX cI (D.1 99) zz g ad cn5 In5 Fn5) H1 := hP1
  have hD : va_D A (wX cI (D.1 99) zz g ad cn5 In5 Fn5) := hD1.weaken (fun _ _ _ h => hFc _ h)
  generalize H1 = H at hP hS ⊢
  have vh_5 : (fun c2 I2 F2 => Fr [] [] [7] cn In Fn2 c2 I2 F2 ∧ CBX c2 ∧ (F2 7 = upd ((Fn2 7)) 4 (nI (d0 / 7)))) cn5 In5 Fn5 := wh_5
  obtain ⟨hfc5, hIn5, h_5⟩ := vh_5
  obtain rfl : cn = cn5 := (funext (fun k => hfc5.1 k List.not_mem_nil)).symm
  obtain rfl : In = In5 := (funext (fun k => hfc5.2.1 k List.not_mem_nil)).symm
  have hf5 : Fr [] [] [7] cn In Fn cn In Fn5 := Fr.mo (Fr.tr hf2 hfc5) (sbl rfl) (sbl rfl) (sbl rfl)
  replace hIn5 : CBXh cn := hIn5
  rw [h_2] at h_5
  refine lv_aload_n hx hb (oc_42 17 (aq_17 shX11_lettersOfDay_0)) rfl (lvA0 hl) ?_
  refine lv_bipush (v := 103) hx hb (oc_16 18 (aq_18 shX11_lettersOfDay_0) sgb_103) kbc_103 ?_
  refine lv_iload_n hx hb (oc_27 20 (aq_20 shX11_lettersOfDay_0)) rfl (lvA1 hl) ?_
  refine lv_bipush (v := 7) hx hb (oc_16 21 (aq_21 shX11_lettersOfDay_0) sgb_7) kbc_7 ?_
  refine lv_irem hx hb (oc_112 23 (aq_23 shX11_lettersOfDay_0)) (by decide) ?_
  refine lv_topi (fun y_6 ey_6 => ?_)
  obtain rfl : y_6 = (nI (d0 % 7)) := ey_6.trans (nI_rem (by (first | omega | (have zz0 := Hid.u hb_cn; omega))) (by decide))
  have hFc := free_all hD hS hA
  refine va_callv (runV_xa (As := [.int 103, .int (nI (d0 % 7))]) (rest := []) S (q_Wletter l D cI cB cZ zz qq vv bt g ad cn In Fn5 103 (nI (d0 % 7)) 5 H.size hIn5 hbt (by decide) (by decide)) kV_RX11_188 hK hXS hS hFc hP hD 0 xo_0 rfl rfl ⟨Nat.le_of_ble_eq_true rfl, Nat.le_of_ble_eq_true rfl⟩ ⟨Nat.le_of_ble_eq_true rfl, Nat.le_of_ble_eq_true rfl⟩ rfl hl.1 rfl (Nat.le_of_ble_eq_true rfl) (oc_182 24 shX11_lettersOfDay_24 uw_0_188)) hS (fun q _ h => hFc q h) hFc (fun u t H1 locs ht hvm wh_8 hB1 hz1 hk1 hS => ?_)
  obtain ⟨cn8, In8, Fn8⟩ := u
  obtain ⟨hP1, hD1⟩ := hB1
  rw [ht] at hP1
  have hP : va_P D vwCl (wX cI (D.1 99) zz g ad cn8 In8 Fn8) H1 := hP1
  have hD : va_D A (wX cI (D.1 99) zz g ad cn8 In8 Fn8) := hD1.weaken (fun _ _ _ h => hFc _ h)
  generalize H1 = H at hP hS ⊢
  have vh_8 : (fun c2 I2 F2 => Fr [] [] [7] cn In Fn5 c2 I2 F2 ∧ CBX c2 ∧ (F2 7 = upd ((Fn5 7)) 5 (nI (d0 % 7)))) cn8 In8 Fn8 := wh_8
  obtain ⟨hfc8, hIn8, h_8⟩ := vh_8
  obtain rfl : cn = cn8 := (funext (fun k => hfc8.1 k List.not_mem_nil)).symm
  obtain rfl : In = In8 := (funext (fun k => hfc8.2.1 k List.not_mem_nil)).symm
  have hf8 : Fr [] [] [7] cn In Fn cn In Fn8 := Fr.mo (Fr.tr hf5 hfc8) (sbl rfl) (sbl rfl) (sbl rfl)
  replace hIn8 : CBXh cn := hIn8
  rw [h_5] at h_8
  refine lv_aload_n hx hb (oc_42 27 (aq_3 shX11_lettersOfDay_24)) rfl (lvA0 hl) ?_
  refine lv_bipush (v := 111) hx hb (oc_16 28 (aq_4 shX11_lettersOfDay_24) sgb_111) kbc_111 ?_
  refine lv_aload_n hx hb (oc_42 30 (aq_6 shX11_lettersOfDay_24)) rfl (lvA0 hl) ?_
  refine gf_RX11_47 S hK hP 0 xo_0 (v := .ref (g 8)) rfl (oc_180 31 (aq_7 shX11_lettersOfDay_24) uw_0_47) ?_
  refine gf_RX11_174 S hK hP 6 xo_6 (v := .ref (g 20)) rfl (oc_180 34 (aq_10 shX11_lettersOfDay_24) uw_0_174) ?_
  refine lv_iload_n hx hb (oc_27 37 (aq_13 shX11_lettersOfDay_24)) rfl (lvA1 hl) ?_
  refine lv_bipush (v := 7) hx hb (oc_16 38 (aq_14 shX11_lettersOfDay_24) sgb_7) kbc_7 ?_
  refine lv_idiv hx hb (oc_108 40 (aq_16 shX11_lettersOfDay_24)) (by decide) ?_
  refine lv_topi (fun y_9 ey_9 => ?_)
  obtain rfl : y_9 = (nI (d0 / 7)) := ey_9.trans (nI_div (by (first | omega | (have zz0 := Hid.u hb_cn; omega))) (by decide))
  refine vp_callSi (runS_r (As := [.ref (g 20), .int (nI (d0 / 7))]) (rest := [.int 111, .ref (g 0)]) S (q_l_at l D cI cB cZ (g 20) 58 (Fn8 20) (nI (d0 / 7)) (by decide)) kS_RX11_192 hK hP [7] (one_is xo_7) ⟨Nat.le_of_ble_eq_true rfl, Nat.le_of_ble_eq_true rfl⟩ ⟨Nat.le_of_ble_eq_true rfl, Nat.le_of_ble_eq_true rfl⟩ rfl hl.1 rfl (Nat.le_of_ble_eq_true rfl) (oc_184 41 (aq_17 shX11_lettersOfDay_24) uw_0_192)) (fun r_10 h_11 => ?_)
  obtain rfl : r_10 = Fn 20 (d0 / 7) := h_11.trans (atM_j (hf8.2.2 20 (nml rfl)) (by (first | omega | (have zz0 := Hid.u hb_cn; omega))) (by decide))
  have hFc := free_all hD hS hA
  refine va_callv (runV_xa (As := [.int 111, .int (Fn 20 (d0 / 7))]) (rest := []) S (q_Wletter l D cI cB cZ zz qq vv bt g ad cn In Fn8 111 (Fn 20 (d0 / 7)) 9 H.size hIn8 hbt (by decide) (by decide)) kV_RX11_188 hK hXS hS hFc hP hD 0 xo_0 rfl rfl ⟨Nat.le_of_ble_eq_true rfl, Nat.le_of_ble_eq_true rfl⟩ ⟨Nat.le_of_ble_eq_true rfl, Nat.le_of_ble_eq_true rfl⟩ rfl hl.1 rfl (Nat.le_of_ble_eq_true rfl) (oc_182 44 (aq_20 shX11_lettersOfDay_24) uw_0_188)) hS (fun q _ h => hFc q h) hFc (fun u t H1 locs ht hvm wh_13 hB1 hz1 hk1 hS => ?_)
  obtain ⟨cn13, In13, Fn13⟩ := u
  obtain ⟨hP1, hD1⟩ := hB1
  rw [ht] at hP1
  have hP : va_P D vwCl (wX cI (D.1 99) zz g ad cn13 In13 Fn13) H1 := hP1
  have hD : va_D A (wX cI (D.1 99) zz g ad cn13 In13 Fn13) := hD1.weaken (fun _ _ _ h => hFc _ h)
  generalize H1 = H at hP hS ⊢
  have vh_13 : (fun c2 I2 F2 => Fr [] [] [7] cn In Fn8 c2 I2 F2 ∧ CBX c2 ∧ (F2 7 = upd ((Fn8 7)) 9 (Fn 20 (d0 / 7)))) cn13 In13 Fn13 := wh_13
  obtain ⟨hfc13, hIn13, h_13⟩ := vh_13
  obtain rfl : cn = cn13 := (funext (fun k => hfc13.1 k List.not_mem_nil)).symm
  obtain rfl : In = In13 := (funext (fun k => hfc13.2.1 k List.not_mem_nil)).symm
  have hf13 : Fr [] [] [7] cn In Fn cn In Fn13 := Fr.mo (Fr.tr hf8 hfc13) (sbl rfl) (sbl rfl) (sbl rfl)
  replace hIn13 : CBXh cn := hIn13
  rw [h_8] at h_13
  exact W.vret hx hb hr (fun t ht hW => ⟨⟨(cn, In, Fn13), rfl, ⟨(Fr.mo hf13 (sbl rfl) (sbl rfl) (sbl rfl)), hIn13, (by show Fn13 7 = upd (upd (upd (upd (Fn 7) 3 (nI d0)) 4 (nI ((nI d0).toInt.toNat / 7))) 5 (nI ((nI d0).toInt.toNat % 7))) 9 (Fn 20 ((nI d0).toInt.toNat / 7)); simp only [zd0]; exact h_13)⟩, by rw [ht]; exact hP, hD⟩, hS.F ht⟩) hS.2.2 (oc_177 47 (aq_23 shX11_lettersOfDay_24))
set_option maxRecDepth 100000 in
set_option maxHeartbeats 4000000 in
theorem q_WlettersOfLoad (l : Launch) (D : va_G) (cI cB cZ : ClassId) (zz qq vv : Nat) (bt : Nat → Int32) (g : Nat → Nat) (ad : Nat → Nat → Nat) (cn : Nat → Nat) (In : Nat → Int32) (Fn : Nat → Nat → Int32) (k0 : Nat) (sz : Nat) (hB : CBX cn) (hk : k0 < cn 11) (hbt : BTL bt) (hd : 0 ≤ (Fn 121 k0).toInt ∧ (Fn 121 k0).toInt ≤ 399) : Met l yX11_lettersOfLoad (CWS yX11_lettersOfLoad cX11_lettersOfLoad 2 none) (RM 6 0 0) (PBx [.ref (g 0), .ref (ad 11 k0)] D cI cB cZ zz qq vv bt (wX cI (D.1 99) zz g ad cn In Fn) sz) (va_Qv (fun (u : (Nat → Nat) × (Nat → Int32) × (Nat → Nat → Int32)) => (fun c2 I2 F2 => Fr [] [] [7] cn In Fn c2 I2 F2 ∧ CBX c2 ∧ (cut (F2 7) = cut (lfX Fn k0))) u.1 u.2.1 u.2.2) (fun (u : (Nat → Nat) × (Nat → Int32) × (Nat → Nat → Int32)) (t : State) => va_P D vwCl (wX cI (D.1 99) zz g ad u.1 u.2.1 u.2.2) t.heap ∧ va_D (va_A (wX cI (D.1 99) zz g ad cn In Fn) sz) (wX cI (D.1 99) zz g ad u.1 u.2.1 u.2.2)) (va_A (wX cI (D.1 99) zz g ad cn In Fn) sz)) 0 0 (va_A (wX cI (D.1 99) zz g ad cn In Fn) sz) := by
  refine en_x (fun A => (va_Qv (fun (u : (Nat → Nat) × (Nat → Int32) × (Nat → Nat → Int32)) => (fun (c2 : Nat → Nat) (I2 : Nat → Int32) (F2 : Nat → Nat → Int32) => Fr [] [] [7] cn In Fn c2 I2 F2 ∧ CBX c2 ∧ (cut (F2 7) = cut (lfX Fn k0))) u.1 u.2.1 u.2.2) (fun (u : (Nat → Nat) × (Nat → Int32) × (Nat → Nat → Int32)) (t : State) => va_P D vwCl (wX cI (D.1 99) zz g ad u.1 u.2.1 u.2.2) t.heap ∧ va_D A (wX cI (D.1 99) zz g ad u.1 u.2.1 u.2.2)) A)) rfl rfl pn_RX11 (Nat.le_of_ble_eq_true rfl) (fun p e s m below meth c A hx hb hml hown S hr hlocks hnm hA hP hK hD hXS hS ls hl => ?_)
  have hl : lv_has ls 2 [(0, .ref (g 0)), (1, .ref (ad 11 k0))] := hl
  have hb_cn : Hid (CBX cn) := hB
  replace hB : CBXh cn := hB
  refine lv_aload_n hx hb (oc_42 0 shX11_lettersOfLoad_0) rfl (lvA0 hl) ?_
  refine lv_aload_n hx hb (oc_43 1 (aq_1 shX11_lettersOfLoad_0)) rfl (lvA1 hl) ?_
  refine gf_RX11_196 S hK hP _ (xf_1 hk) (v := .int ((Fn 121) k0)) rfl (oc_180 2 (aq_2 shX11_lettersOfLoad_0) uw_0_196) ?_
  have hFc := free_all hD hS hA
  refine va_callv (runV_xa (As := [.int ((Fn 121) k0)]) (rest := []) S (q_WlettersOfDay l D cI cB cZ zz qq vv bt g ad cn In Fn ((Fn 121) k0) s.heap.size hB hbt hd) kV_RX11_199 hK hXS hS hFc hP hD 0 xo_0 rfl rfl ⟨Nat.le_of_ble_eq_true rfl, Nat.le_of_ble_eq_true rfl⟩ ⟨Nat.le_of_ble_eq_true rfl, Nat.le_of_ble_eq_true rfl⟩ rfl hl.1 rfl (Nat.le_of_ble_eq_true rfl) (oc_182 5 (aq_5 shX11_lettersOfLoad_0) uw_0_199)) hS (fun q _ h => hFc q h) hFc (fun u t H1 locs ht hvm wh_2 hB1 hz1 hk1 hS => ?_)
  obtain ⟨cn2, In2, Fn2⟩ := u
  obtain ⟨hP1, hD1⟩ := hB1
  rw [ht] at hP1
  have hP : va_P D vwCl (wX cI (D.1 99) zz g ad cn2 In2 Fn2) H1 := hP1
  have hD : va_D A (wX cI (D.1 99) zz g ad cn2 In2 Fn2) := hD1.weaken (fun _ _ _ h => hFc _ h)
  generalize H1 = H at hP hS ⊢
  have vh_2 : (fun c2 I2 F2 => Fr [] [] [7] cn In Fn c2 I2 F2 ∧ CBX c2 ∧ (F2 7 = upd (upd (upd (upd ((Fn 7)) 3 ((Fn 121) k0)) 4 (nI (((Fn 121) k0).toInt.toNat / 7))) 5 (nI (((Fn 121) k0).toInt.toNat % 7))) 9 ((Fn 20) (((Fn 121) k0).toInt.toNat / 7)))) cn2 In2 Fn2 := wh_2
  obtain ⟨hfc2, hIn2, h_2⟩ := vh_2
  obtain rfl : cn = cn2 := (funext (fun k => hfc2.1 k List.not_mem_nil)).symm
  obtain rfl : In = In2 := (funext (fun k => hfc2.2.1 k List.not_mem_nil)).symm
  have hf2 : Fr [] [] [7] cn In Fn cn In Fn2 := Fr.mo (Fr.tr (Fr.rf (cn := cn) (In := In) (Fn := Fn)) hfc2) (sbl rfl) (sbl rfl) (sbl rfl)
  replace hIn2 : CBXh cn := hIn2
  refine lv_aload_n hx hb (oc_42 8 (aq_8 shX11_lettersOfLoad_0)) rfl (lvA0 hl) ?_
  refine lv_bipush (v := 113) hx hb (oc_16 9 (aq_9 shX11_lettersOfLoad_0) sgb_113) kbc_113 ?_
  refine lv_aload_n hx hb (oc_43 11 (aq_11 shX11_lettersOfLoad_0)) rfl (lvA1 hl) ?_
  refine gf_RX11_202 S hK hP _ (xf_1 hk) (v := .int ((Fn2 122) k0)) rfl (oc_180 12 (aq_12 shX11_lettersOfLoad_0) uw_0_202) ?_
  refine lv_topi (fun y_3 ey_3 => ?_)
  obtain rfl : y_3 = (Fn 122 k0) := ey_3.trans (congrFun (hf2.2.2 122 (nml rfl)) k0)
  have hFc := free_all hD hS hA
  refine va_callv (runV_xa (As := [.int 113, .int (Fn 122 k0)]) (rest := []) S (q_Wletter l D cI cB cZ zz qq vv bt g ad cn In Fn2 113 (Fn 122 k0) 0 H.size hIn2 hbt (by decide) (by decide)) kV_RX11_188 hK hXS hS hFc hP hD 0 xo_0 rfl rfl ⟨Nat.le_of_ble_eq_true rfl, Nat.le_of_ble_eq_true rfl⟩ ⟨Nat.le_of_ble_eq_true rfl, Nat.le_of_ble_eq_true rfl⟩ rfl hl.1 rfl (Nat.le_of_ble_eq_true rfl) (oc_182 15 (aq_15 shX11_lettersOfLoad_0) uw_0_188)) hS (fun q _ h => hFc q h) hFc (fun u t H1 locs ht hvm wh_5 hB1 hz1 hk1 hS => ?_)
  obtain ⟨cn5, In5, Fn5⟩ := u
  obtain ⟨hP1, hD1⟩ := hB1
  rw [ht] at hP1
  have hP : va_P D vwCl (wX cI (D.1 99) zz g ad cn5 In5 Fn5) H1 := hP1
  have hD : va_D A (wX cI (D.1 99) zz g ad cn5 In5 Fn5) := hD1.weaken (fun _ _ _ h => hFc _ h)
  generalize H1 = H at hP hS ⊢
  have vh_5 : (fun c2 I2 F2 => Fr [] [] [7] cn In Fn2 c2 I2 F2 ∧ CBX c2 ∧ (F2 7 = upd ((Fn2 7)) 0 (Fn 122 k0))) cn5 In5 Fn5 := wh_5
  obtain ⟨hfc5, hIn5, h_5⟩ := vh_5
  obtain rfl : cn = cn5 := (funext (fun k => hfc5.1 k List.not_mem_nil)).symm
  obtain rfl : In = In5 := (funext (fun k => hfc5.2.1 k List.not_mem_nil)).symm
  have hf5 : Fr [] [] [7] cn In Fn cn In Fn5 := Fr.mo (Fr.tr hf2 hfc5) (sbl rfl) (sbl rfl) (sbl rfl)
  replace hIn5 : CBXh cn := hIn5
  rw [h_2] at h_5
  refine lv_aload_n hx hb (oc_42 18 (aq_18 shX11_lettersOfLoad_0)) rfl (lvA0 hl) ?_
  refine lv_bipush (v := 102) hx hb (oc_16 19 (aq_19 shX11_lettersOfLoad_0) sgb_102) kbc_102 ?_
  refine lv_aload_n hx hb (oc_43 21 (aq_21 shX11_lettersOfLoad_0)) rfl (lvA1 hl) ?_
  refine gf_RX11_205 S hK hP _ (xf_1 hk) (v := .int ((Fn5 123) k0)) rfl (oc_180 22 (aq_22 shX11_lettersOfLoad_0) uw_0_205) ?_
  refine lv_topi (fun y_6 ey_6 => ?_)
  obtain rfl : y_6 = (Fn 123 k0) := ey_6.trans (congrFun (hf5.2.2 123 (nml rfl)) k0)
  have hFc := free_all hD hS hA
  refine va_callv (runV_xa (As := [.int 102, .int (Fn 123 k0)]) (rest := []) S (q_Wletter l D cI cB cZ zz qq vv bt g ad cn In Fn5 102 (Fn 123 k0) 1 H.size hIn5 hbt (by decide) (by decide)) kV_RX11_188 hK hXS hS hFc hP hD 0 xo_0 rfl rfl ⟨Nat.le_of_ble_eq_true rfl, Nat.le_of_ble_eq_true rfl⟩ ⟨Nat.le_of_ble_eq_true rfl, Nat.le_of_ble_eq_true rfl⟩ rfl hl.1 rfl (Nat.le_of_ble_eq_true rfl) (oc_182 25 shX11_lettersOfLoad_25 uw_0_188)) hS (fun q _ h => hFc q h) hFc (fun u t H1 locs ht hvm wh_8 hB1 hz1 hk1 hS => ?_)
  obtain ⟨cn8, In8, Fn8⟩ := u
  obtain ⟨hP1, hD1⟩ := hB1
  rw [ht] at hP1
  have hP : va_P D vwCl (wX cI (D.1 99) zz g ad cn8 In8 Fn8) H1 := hP1
  have hD : va_D A (wX cI (D.1 99) zz g ad cn8 In8 Fn8) := hD1.weaken (fun _ _ _ h => hFc _ h)
  generalize H1 = H at hP hS ⊢
  have vh_8 : (fun c2 I2 F2 => Fr [] [] [7] cn In Fn5 c2 I2 F2 ∧ CBX c2 ∧ (F2 7 = upd ((Fn5 7)) 1 (Fn 123 k0))) cn8 In8 Fn8 := wh_8
  obtain ⟨hfc8, hIn8, h_8⟩ := vh_8
  obtain rfl : cn = cn8 := (funext (fun k => hfc8.1 k List.not_mem_nil)).symm
  obtain rfl : In = In8 := (funext (fun k => hfc8.2.1 k List.not_mem_nil)).symm
  have hf8 : Fr [] [] [7] cn In Fn cn In Fn8 := Fr.mo (Fr.tr hf5 hfc8) (sbl rfl) (sbl rfl) (sbl rfl)
  replace hIn8 : CBXh cn := hIn8
  rw [h_5] at h_8
  refine lv_aload_n hx hb (oc_42 28 (aq_3 shX11_lettersOfLoad_25)) rfl (lvA0 hl) ?_
  refine lv_bipush (v := 97) hx hb (oc_16 29 (aq_4 shX11_lettersOfLoad_25) sgb_97) kbc_97 ?_
  refine lv_aload_n hx hb (oc_43 31 (aq_6 shX11_lettersOfLoad_25)) rfl (lvA1 hl) ?_
  refine gf_RX11_208 S hK hP _ (xf_1 hk) (v := .int ((Fn8 124) k0)) rfl (oc_180 32 (aq_7 shX11_lettersOfLoad_25) uw_0_208) ?_
  refine lv_topi (fun y_9 ey_9 => ?_)
  obtain rfl : y_9 = (Fn 124 k0) := ey_9.trans (congrFun (hf8.2.2 124 (nml rfl)) k0)
  have hFc := free_all hD hS hA
  refine va_callv (runV_xa (As := [.int 97, .int (Fn 124 k0)]) (rest := []) S (q_Wletter l D cI cB cZ zz qq vv bt g ad cn In Fn8 97 (Fn 124 k0) 2 H.size hIn8 hbt (by decide) (by decide)) kV_RX11_188 hK hXS hS hFc hP hD 0 xo_0 rfl rfl ⟨Nat.le_of_ble_eq_true rfl, Nat.le_of_ble_eq_true rfl⟩ ⟨Nat.le_of_ble_eq_true rfl, Nat.le_of_ble_eq_true rfl⟩ rfl hl.1 rfl (Nat.le_of_ble_eq_true rfl) (oc_182 35 (aq_10 shX11_lettersOfLoad_25) uw_0_188)) hS (fun q _ h => hFc q h) hFc (fun u t H1 locs ht hvm wh_11 hB1 hz1 hk1 hS => ?_)
  obtain ⟨cn11, In11, Fn11⟩ := u
  obtain ⟨hP1, hD1⟩ := hB1
  rw [ht] at hP1
  have hP : va_P D vwCl (wX cI (D.1 99) zz g ad cn11 In11 Fn11) H1 := hP1
  have hD : va_D A (wX cI (D.1 99) zz g ad cn11 In11 Fn11) := hD1.weaken (fun _ _ _ h => hFc _ h)
  generalize H1 = H at hP hS ⊢
  have vh_11 : (fun c2 I2 F2 => Fr [] [] [7] cn In Fn8 c2 I2 F2 ∧ CBX c2 ∧ (F2 7 = upd ((Fn8 7)) 2 (Fn 124 k0))) cn11 In11 Fn11 := wh_11
  obtain ⟨hfc11, hIn11, h_11⟩ := vh_11
  obtain rfl : cn = cn11 := (funext (fun k => hfc11.1 k List.not_mem_nil)).symm
  obtain rfl : In = In11 := (funext (fun k => hfc11.2.1 k List.not_mem_nil)).symm
  have hf11 : Fr [] [] [7] cn In Fn cn In Fn11 := Fr.mo (Fr.tr hf8 hfc11) (sbl rfl) (sbl rfl) (sbl rfl)
  replace hIn11 : CBXh cn := hIn11
  rw [h_8] at h_11
  refine lv_aload_n hx hb (oc_42 38 (aq_13 shX11_lettersOfLoad_25)) rfl (lvA0 hl) ?_
  refine lv_bipush (v := 107) hx hb (oc_16 39 (aq_14 shX11_lettersOfLoad_25) sgb_107) kbc_107 ?_
  refine lv_aload_n hx hb (oc_43 41 (aq_16 shX11_lettersOfLoad_25)) rfl (lvA1 hl) ?_
  refine gf_RX11_211 S hK hP _ (xf_1 hk) (v := .int ((Fn11 120) k0)) rfl (oc_180 42 (aq_17 shX11_lettersOfLoad_25) uw_0_211) ?_
  refine lv_topi (fun y_12 ey_12 => ?_)
  obtain rfl : y_12 = (Fn 120 k0) := ey_12.trans (congrFun (hf11.2.2 120 (nml rfl)) k0)
  have hFc := free_all hD hS hA
  refine va_callv (runV_xa (As := [.int 107, .int (Fn 120 k0)]) (rest := []) S (q_Wletter l D cI cB cZ zz qq vv bt g ad cn In Fn11 107 (Fn 120 k0) 6 H.size hIn11 hbt (by decide) (by decide)) kV_RX11_188 hK hXS hS hFc hP hD 0 xo_0 rfl rfl ⟨Nat.le_of_ble_eq_true rfl, Nat.le_of_ble_eq_true rfl⟩ ⟨Nat.le_of_ble_eq_true rfl, Nat.le_of_ble_eq_true rfl⟩ rfl hl.1 rfl (Nat.le_of_ble_eq_true rfl) (oc_182 45 (aq_20 shX11_lettersOfLoad_25) uw_0_188)) hS (fun q _ h => hFc q h) hFc (fun u t H1 locs ht hvm wh_14 hB1 hz1 hk1 hS => ?_)
  obtain ⟨cn14, In14, Fn14⟩ := u
  obtain ⟨hP1, hD1⟩ := hB1
  rw [ht] at hP1
  have hP : va_P D vwCl (wX cI (D.1 99) zz g ad cn14 In14 Fn14) H1 := hP1
  have hD : va_D A (wX cI (D.1 99) zz g ad cn14 In14 Fn14) := hD1.weaken (fun _ _ _ h => hFc _ h)
  generalize H1 = H at hP hS ⊢
  have vh_14 : (fun c2 I2 F2 => Fr [] [] [7] cn In Fn11 c2 I2 F2 ∧ CBX c2 ∧ (F2 7 = upd ((Fn11 7)) 6 (Fn 120 k0))) cn14 In14 Fn14 := wh_14
  obtain ⟨hfc14, hIn14, h_14⟩ := vh_14
  obtain rfl : cn = cn14 := (funext (fun k => hfc14.1 k List.not_mem_nil)).symm
  obtain rfl : In = In14 := (funext (fun k => hfc14.2.1 k List.not_mem_nil)).symm
  have hf14 : Fr [] [] [7] cn In Fn cn In Fn14 := Fr.mo (Fr.tr hf11 hfc14) (sbl rfl) (sbl rfl) (sbl rfl)
  replace hIn14 : CBXh cn := hIn14
  rw [h_11] at h_14
  refine lv_aload_n hx hb (oc_42 48 (aq_23 shX11_lettersOfLoad_25)) rfl (lvA0 hl) ?_
  refine lv_bipush (v := 109) hx hb (oc_16 49 shX11_lettersOfLoad_49 sgb_109) kbc_109 ?_
  refine lv_aload_n hx hb (oc_43 51 (aq_2 shX11_lettersOfLoad_49)) rfl (lvA1 hl) ?_
  refine gf_RX11_141 S hK hP _ (xf_1 hk) (v := .int ((Fn14 128) k0)) rfl (oc_180 52 (aq_3 shX11_lettersOfLoad_49) uw_0_141) ?_
  refine lv_topi (fun y_15 ey_15 => ?_)
  obtain rfl : y_15 = (Fn 128 k0) := ey_15.trans (congrFun (hf14.2.2 128 (nml rfl)) k0)
  have hFc := free_all hD hS hA
  refine va_callv (runV_xa (As := [.int 109, .int (Fn 128 k0)]) (rest := []) S (q_Wletter l D cI cB cZ zz qq vv bt g ad cn In Fn14 109 (Fn 128 k0) 7 H.size hIn14 hbt (by decide) (by decide)) kV_RX11_188 hK hXS hS hFc hP hD 0 xo_0 rfl rfl ⟨Nat.le_of_ble_eq_true rfl, Nat.le_of_ble_eq_true rfl⟩ ⟨Nat.le_of_ble_eq_true rfl, Nat.le_of_ble_eq_true rfl⟩ rfl hl.1 rfl (Nat.le_of_ble_eq_true rfl) (oc_182 55 (aq_6 shX11_lettersOfLoad_49) uw_0_188)) hS (fun q _ h => hFc q h) hFc (fun u t H1 locs ht hvm wh_17 hB1 hz1 hk1 hS => ?_)
  obtain ⟨cn17, In17, Fn17⟩ := u
  obtain ⟨hP1, hD1⟩ := hB1
  rw [ht] at hP1
  have hP : va_P D vwCl (wX cI (D.1 99) zz g ad cn17 In17 Fn17) H1 := hP1
  have hD : va_D A (wX cI (D.1 99) zz g ad cn17 In17 Fn17) := hD1.weaken (fun _ _ _ h => hFc _ h)
  generalize H1 = H at hP hS ⊢
  have vh_17 : (fun c2 I2 F2 => Fr [] [] [7] cn In Fn14 c2 I2 F2 ∧ CBX c2 ∧ (F2 7 = upd ((Fn14 7)) 7 (Fn 128 k0))) cn17 In17 Fn17 := wh_17
  obtain ⟨hfc17, hIn17, h_17⟩ := vh_17
  obtain rfl : cn = cn17 := (funext (fun k => hfc17.1 k List.not_mem_nil)).symm
  obtain rfl : In = In17 := (funext (fun k => hfc17.2.1 k List.not_mem_nil)).symm
  have hf17 : Fr [] [] [7] cn In Fn cn In Fn17 := Fr.mo (Fr.tr hf14 hfc17) (sbl rfl) (sbl rfl) (sbl rfl)
  replace hIn17 : CBXh cn := hIn17
  rw [h_14] at h_17
  refine lv_aload_n hx hb (oc_42 58 (aq_9 shX11_lettersOfLoad_49)) rfl (lvA0 hl) ?_
  refine lv_bipush (v := 115) hx hb (oc_16 59 (aq_10 shX11_lettersOfLoad_49) sgb_115) kbc_115 ?_
  refine lv_aload_n hx hb (oc_43 61 (aq_12 shX11_lettersOfLoad_49)) rfl (lvA1 hl) ?_
  refine gf_RX11_134 S hK hP _ (xf_1 hk) (v := .int ((Fn17 127) k0)) rfl (oc_180 62 (aq_13 shX11_lettersOfLoad_49) uw_0_134) ?_
  refine lv_topi (fun y_18 ey_18 => ?_)
  obtain rfl : y_18 = (Fn 127 k0) := ey_18.trans (congrFun (hf17.2.2 127 (nml rfl)) k0)
  have hFc := free_all hD hS hA
  refine va_callv (runV_xa (As := [.int 115, .int (Fn 127 k0)]) (rest := []) S (q_Wletter l D cI cB cZ zz qq vv bt g ad cn In Fn17 115 (Fn 127 k0) 8 H.size hIn17 hbt (by decide) (by decide)) kV_RX11_188 hK hXS hS hFc hP hD 0 xo_0 rfl rfl ⟨Nat.le_of_ble_eq_true rfl, Nat.le_of_ble_eq_true rfl⟩ ⟨Nat.le_of_ble_eq_true rfl, Nat.le_of_ble_eq_true rfl⟩ rfl hl.1 rfl (Nat.le_of_ble_eq_true rfl) (oc_182 65 (aq_16 shX11_lettersOfLoad_49) uw_0_188)) hS (fun q _ h => hFc q h) hFc (fun u t H1 locs ht hvm wh_20 hB1 hz1 hk1 hS => ?_)
  obtain ⟨cn20, In20, Fn20⟩ := u
  obtain ⟨hP1, hD1⟩ := hB1
  rw [ht] at hP1
  have hP : va_P D vwCl (wX cI (D.1 99) zz g ad cn20 In20 Fn20) H1 := hP1
  have hD : va_D A (wX cI (D.1 99) zz g ad cn20 In20 Fn20) := hD1.weaken (fun _ _ _ h => hFc _ h)
  generalize H1 = H at hP hS ⊢
  have vh_20 : (fun c2 I2 F2 => Fr [] [] [7] cn In Fn17 c2 I2 F2 ∧ CBX c2 ∧ (F2 7 = upd ((Fn17 7)) 8 (Fn 127 k0))) cn20 In20 Fn20 := wh_20
  obtain ⟨hfc20, hIn20, h_20⟩ := vh_20
  obtain rfl : cn = cn20 := (funext (fun k => hfc20.1 k List.not_mem_nil)).symm
  obtain rfl : In = In20 := (funext (fun k => hfc20.2.1 k List.not_mem_nil)).symm
  have hf20 : Fr [] [] [7] cn In Fn cn In Fn20 := Fr.mo (Fr.tr hf17 hfc20) (sbl rfl) (sbl rfl) (sbl rfl)
  replace hIn20 : CBXh cn := hIn20
  rw [h_17] at h_20
  refine lv_aload_n hx hb (oc_42 68 (aq_19 shX11_lettersOfLoad_49)) rfl (lvA0 hl) ?_
  refine lv_bipush (v := 110) hx hb (oc_16 69 (aq_20 shX11_lettersOfLoad_49) sgb_110) kbc_110 ?_
  refine lv_iconst (v := 0) hx hb (oc_3 71 (aq_22 shX11_lettersOfLoad_49)) kic_0 ?_
  have hFc := free_all hD hS hA
  refine va_callv (runV_xa (As := [.int 110, .int 0]) (rest := []) S (q_Wletter l D cI cB cZ zz qq vv bt g ad cn In Fn20 110 0 10 H.size hIn20 hbt (by decide) (by decide)) kV_RX11_188 hK hXS hS hFc hP hD 0 xo_0 rfl rfl ⟨Nat.le_of_ble_eq_true rfl, Nat.le_of_ble_eq_true rfl⟩ ⟨Nat.le_of_ble_eq_true rfl, Nat.le_of_ble_eq_true rfl⟩ rfl hl.1 rfl (Nat.le_of_ble_eq_true rfl) (oc_182 72 (aq_23 shX11_lettersOfLoad_49) uw_0_188)) hS (fun q _ h => hFc q h) hFc (fun u t H1 locs ht hvm wh_22 hB1 hz1 hk1 hS => ?_)
  obtain ⟨cn22, In22, Fn22⟩ := u
  obtain ⟨hP1, hD1⟩ := hB1
  rw [ht] at hP1
  have hP : va_P D vwCl (wX cI (D.1 99) zz g ad cn22 In22 Fn22) H1 := hP1
  have hD : va_D A (wX cI (D.1 99) zz g ad cn22 In22 Fn22) := hD1.weaken (fun _ _ _ h => hFc _ h)
  generalize H1 = H at hP hS ⊢
  have vh_22 : (fun c2 I2 F2 => Fr [] [] [7] cn In Fn20 c2 I2 F2 ∧ CBX c2 ∧ (F2 7 = upd ((Fn20 7)) 10 0)) cn22 In22 Fn22 := wh_22
  obtain ⟨hfc22, hIn22, h_22⟩ := vh_22
  obtain rfl : cn = cn22 := (funext (fun k => hfc22.1 k List.not_mem_nil)).symm
  obtain rfl : In = In22 := (funext (fun k => hfc22.2.1 k List.not_mem_nil)).symm
  have hf22 : Fr [] [] [7] cn In Fn cn In Fn22 := Fr.mo (Fr.tr hf20 hfc22) (sbl rfl) (sbl rfl) (sbl rfl)
  replace hIn22 : CBXh cn := hIn22
  rw [h_20] at h_22
  exact W.vret hx hb hr (fun t ht hW => ⟨⟨(cn, In, Fn22), rfl, ⟨(Fr.mo hf22 (sbl rfl) (sbl rfl) (sbl rfl)), hIn22, (by show cut (Fn22 7) = cut (lfX Fn k0); exact (congrArg cut h_22).trans lfx_of)⟩, by rw [ht]; exact hP, hD⟩, hS.F ht⟩) hS.2.2 (oc_177 75 shX11_lettersOfLoad_75)
set_option maxRecDepth 100000 in
set_option maxHeartbeats 4000000 in
theorem q_WpenceBy (l : Launch) (D : va_G) (cI cB cZ : ClassId) (zz qq vv : Nat) (bt : Nat → Int32) (g : Nat → Nat) (ad : Nat → Nat → Nat) (cn : Nat → Nat) (In : Nat → Int32) (Fn : Nat → Nat → Int32) (j0 k0 : Nat) (o : OutT) (cl : ClsT) (sz : Nat) (hB : CBX cn) (hj : j0 < cn 6) (hk : k0 < cn 11) (hbt : BTL bt) (hX : XTy j0 Fn 112 o cl) (hd : 0 ≤ (Fn 121 k0).toInt ∧ (Fn 121 k0).toInt ≤ 399) : Met l yX11_penceBy (CWS yX11_penceBy cX11_penceBy 4 (some .int)) (RM 7 0 0) (PBx [.ref (g 0), .ref (ad 5 j0), .ref (ad 11 k0)] D cI cB cZ zz qq vv bt (wX cI (D.1 99) zz g ad cn In Fn) sz) (va_Qi (fun (r : Int32) (u : (Nat → Nat) × (Nat → Int32) × (Nat → Nat → Int32)) => (fun r c2 I2 F2 => Fr [] [] [7, 196, 197, 305] cn In Fn c2 I2 F2 ∧ CBX c2 ∧ (r = PNf o (cut (lfX Fn k0)) cl)) r u.1 u.2.1 u.2.2) (fun (u : (Nat → Nat) × (Nat → Int32) × (Nat → Nat → Int32)) (t : State) => va_P D vwCl (wX cI (D.1 99) zz g ad u.1 u.2.1 u.2.2) t.heap ∧ va_D (va_A (wX cI (D.1 99) zz g ad cn In Fn) sz) (wX cI (D.1 99) zz g ad u.1 u.2.1 u.2.2)) (va_A (wX cI (D.1 99) zz g ad cn In Fn) sz)) 0 0 (va_A (wX cI (D.1 99) zz g ad cn In Fn) sz) := by
  refine en_x (fun A => (va_Qi (fun (r : Int32) (u : (Nat → Nat) × (Nat → Int32) × (Nat → Nat → Int32)) => (fun (r : Int32) (c2 : Nat → Nat) (I2 : Nat → Int32) (F2 : Nat → Nat → Int32) => Fr [] [] [7, 196, 197, 305] cn In Fn c2 I2 F2 ∧ CBX c2 ∧ (r = PNf o (cut (lfX Fn k0)) cl)) r u.1 u.2.1 u.2.2) (fun (u : (Nat → Nat) × (Nat → Int32) × (Nat → Nat → Int32)) (t : State) => va_P D vwCl (wX cI (D.1 99) zz g ad u.1 u.2.1 u.2.2) t.heap ∧ va_D A (wX cI (D.1 99) zz g ad u.1 u.2.1 u.2.2)) A)) rfl rfl pn_RX11 (Nat.le_of_ble_eq_true rfl) (fun p e s m below meth c A hx hb hml hown S hr hlocks hnm hA hP hK hD hXS hS ls hl => ?_)
  have hl : lv_has ls 4 [(0, .ref (g 0)), (1, .ref (ad 5 j0)), (2, .ref (ad 11 k0))] := hl
  have hb_cn : Hid (CBX cn) := hB
  replace hB : CBXh cn := hB
  refine lv_aload_n hx hb (oc_42 0 shX11_penceBy_0) rfl (lvA0 hl) ?_
  refine lv_aload_n hx hb (oc_44 1 (aq_1 shX11_penceBy_0)) rfl (lvA2 hl) ?_
  have hFc := free_all hD hS hA
  refine va_callv (runV_xa (As := [.ref (ad 11 k0)]) (rest := []) S (q_WlettersOfLoad l D cI cB cZ zz qq vv bt g ad cn In Fn k0 s.heap.size hB (by (first | omega | (have zz0 := Hid.u hb_cn; omega))) hbt hd) kV_RX11_214 hK hXS hS hFc hP hD 0 xo_0 rfl rfl ⟨Nat.le_of_ble_eq_true rfl, Nat.le_of_ble_eq_true rfl⟩ ⟨Nat.le_of_ble_eq_true rfl, Nat.le_of_ble_eq_true rfl⟩ rfl hl.1 rfl (Nat.le_of_ble_eq_true rfl) (oc_182 2 (aq_2 shX11_penceBy_0) uw_0_214)) hS (fun q _ h => hFc q h) hFc (fun u t H1 locs ht hvm wh_2 hB1 hz1 hk1 hS => ?_)
  obtain ⟨cn2, In2, Fn2⟩ := u
  obtain ⟨hP1, hD1⟩ := hB1
  rw [ht] at hP1
  have hP : va_P D vwCl (wX cI (D.1 99) zz g ad cn2 In2 Fn2) H1 := hP1
  have hD : va_D A (wX cI (D.1 99) zz g ad cn2 In2 Fn2) := hD1.weaken (fun _ _ _ h => hFc _ h)
  generalize H1 = H at hP hS ⊢
  have vh_2 : (fun c2 I2 F2 => Fr [] [] [7] cn In Fn c2 I2 F2 ∧ CBX c2 ∧ (cut (F2 7) = cut (lfX Fn k0))) cn2 In2 Fn2 := wh_2
  obtain ⟨hfc2, hIn2, h_2⟩ := vh_2
  obtain rfl : cn = cn2 := (funext (fun k => hfc2.1 k List.not_mem_nil)).symm
  obtain rfl : In = In2 := (funext (fun k => hfc2.2.1 k List.not_mem_nil)).symm
  have hf2 : Fr [] [] [7, 196, 197, 305] cn In Fn cn In Fn2 := Fr.mo (Fr.tr (Fr.rf (cn := cn) (In := In) (Fn := Fn)) hfc2) (sbl rfl) (sbl rfl) (sbl rfl)
  replace hIn2 : CBXh cn := hIn2
  refine lv_aload_n hx hb (oc_43 5 (aq_5 shX11_penceBy_0)) rfl (lvA1 hl) ?_
  refine lv_iconst (v := 1) hx hb (oc_4 6 (aq_6 shX11_penceBy_0)) kic_1 ?_
  refine lv_aload_n hx hb (oc_42 7 (aq_7 shX11_penceBy_0)) rfl (lvA0 hl) ?_
  refine gf_RX11_40 S hK hP 0 xo_0 (v := .ref (g 7)) rfl (oc_180 8 (aq_8 shX11_penceBy_0) uw_0_40) ?_
  have hFc := free_all hD hS hA
  refine va_calli (runV_xa (As := [.int 1, .ref (g 7)]) (rest := []) S (q_WfirstThat l D cI cB cZ zz qq vv bt g ad cn In Fn2 j0 1 112 o cl H.size hIn2 (by (first | omega | (have zz0 := Hid.u hb_cn; omega))) (hX.cg (hf2.2.2 195 (nml rfl)) (hf2.2.2 301 (nml rfl)) (hf2.2.2 198 (nml rfl)) (hf2.2.2 302 (nml rfl)) (hf2.2.2 303 (nml rfl)) (hf2.2.2 304 (nml rfl)) (hf2.2.2 199 (nml rfl)))) kV_RX11_218 hK hXS hS hFc hP hD _ (xf_7 hj) rfl rfl ⟨Nat.le_of_ble_eq_true rfl, Nat.le_of_ble_eq_true rfl⟩ ⟨Nat.le_of_ble_eq_true rfl, Nat.le_of_ble_eq_true rfl⟩ rfl hl.1 rfl (Nat.le_of_ble_eq_true rfl) (oc_182 11 (aq_11 shX11_penceBy_0) uw_0_218)) hS (fun q _ h => hFc q h) hFc (fun r_3 u t H1 locs ht hvm wh_4 hB1 hz1 hk1 hS => ?_)
  obtain ⟨cn4, In4, Fn4⟩ := u
  obtain ⟨hP1, hD1⟩ := hB1
  rw [ht] at hP1
  have hP : va_P D vwCl (wX cI (D.1 99) zz g ad cn4 In4 Fn4) H1 := hP1
  have hD : va_D A (wX cI (D.1 99) zz g ad cn4 In4 Fn4) := hD1.weaken (fun _ _ _ h => hFc _ h)
  generalize H1 = H at hP hS ⊢
  have vh_4 : (fun r c2 I2 F2 => Fr [] [] [196, 197, 305] cn In Fn2 c2 I2 F2 ∧ CBX c2 ∧ (FTX o (cut ((Fn2 7))) cl 1 r)) r_3 cn4 In4 Fn4 := wh_4
  obtain ⟨hfc4, hIn4, h_4⟩ := vh_4
  obtain rfl : cn = cn4 := (funext (fun k => hfc4.1 k List.not_mem_nil)).symm
  obtain rfl : In = In4 := (funext (fun k => hfc4.2.1 k List.not_mem_nil)).symm
  have hf4 : Fr [] [] [7, 196, 197, 305] cn In Fn cn In Fn4 := Fr.mo (Fr.tr hf2 hfc4) (sbl rfl) (sbl rfl) (sbl rfl)
  replace hIn4 : CBXh cn := hIn4
  rw [h_2] at h_4
  refine lv_istore_n (lv' := [(3, .int r_3), (0, .ref (g 0)), (1, .ref (ad 5 j0)), (2, .ref (ad 11 k0))]) hx hb (oc_62 14 (aq_14 shX11_penceBy_0)) rfl hl (ltb rfl) rfl (fun ls hl => ?_)
  refine lv_iload_n hx hb (oc_29 15 (aq_15 shX11_penceBy_0)) rfl (lvA0 hl) ?_
  refine lv_iconst (v := (-1)) hx hb (oc_2 16 (aq_16 shX11_penceBy_0)) kic_m1 ?_
  refine lv_icmp_ne (tgt := 24) hx hb (oc_160 17 (aq_17 shX11_penceBy_0) sgw_0_7) rfl (fun c_5 => ?_) (fun c_5 => ?_)
  ·
    have tc_5 : (r_3.toInt : Int) ≠ (-1) := fun q => c_5 (Int32.toInt_inj.mp q)
    obtain ⟨j9, z9, hz9, ej9, hp9⟩ := FTX.at h_4 (by first | assumption | exact fun q => absurd (congrArg Int32.toInt q) (by assumption))
    subst ej9
    refine lv_iconst (v := 0) hx hb (oc_3 24 shX11_penceBy_24) kic_0 ?_
    refine lv_ldc (v := 100000) hx hb hown (S.2.2.2.2 _ (wk4_3 2 rfl rfl)) (oc_18 25 (aq_1 shX11_penceBy_24) ub_222) ?_
    refine lv_aload_n hx hb (oc_43 27 (aq_3 shX11_penceBy_24)) rfl (lvA2 hl) ?_
    refine lv_iload_n hx hb (oc_29 28 (aq_4 shX11_penceBy_24)) rfl (lvA0 hl) ?_
    refine lv_aload_n hx hb (oc_42 29 (aq_5 shX11_penceBy_24)) rfl (lvA1 hl) ?_
    refine gf_RX11_40 S hK hP 0 xo_0 (v := .ref (g 7)) rfl (oc_180 30 (aq_6 shX11_penceBy_24) uw_0_40) ?_
    have hFc := free_all hD hS hA
    refine va_calli (runV_xa (As := [.int (nI j9), .ref (g 7)]) (rest := [.int 100000, .int 0]) S (q_Wtsum l D cI cB cZ zz qq vv bt g ad cn In Fn4 j0 j9 o cl z9 H.size hIn4 (by (first | omega | (have zz0 := Hid.u hb_cn; omega))) (hX.cg (hf4.2.2 195 (nml rfl)) (hf4.2.2 301 (nml rfl)) (hf4.2.2 198 (nml rfl)) (hf4.2.2 302 (nml rfl)) (hf4.2.2 303 (nml rfl)) (hf4.2.2 304 (nml rfl)) (hf4.2.2 199 (nml rfl))) hz9) kV_RX11_223 hK hXS hS hFc hP hD _ (xf_7 hj) rfl rfl ⟨Nat.le_of_ble_eq_true rfl, Nat.le_of_ble_eq_true rfl⟩ ⟨Nat.le_of_ble_eq_true rfl, Nat.le_of_ble_eq_true rfl⟩ rfl hl.1 rfl (Nat.le_of_ble_eq_true rfl) (oc_182 33 (aq_9 shX11_penceBy_24) uw_0_223)) hS (fun q _ h => hFc q h) hFc (fun r_6 u t H1 locs ht hvm wh_7 hB1 hz1 hk1 hS => ?_)
    obtain ⟨cn7, In7, Fn7⟩ := u
    obtain ⟨hP1, hD1⟩ := hB1
    rw [ht] at hP1
    have hP : va_P D vwCl (wX cI (D.1 99) zz g ad cn7 In7 Fn7) H1 := hP1
    have hD : va_D A (wX cI (D.1 99) zz g ad cn7 In7 Fn7) := hD1.weaken (fun _ _ _ h => hFc _ h)
    generalize H1 = H at hP hS ⊢
    have vh_7 : (fun r c2 I2 F2 => Fr [] [] [196, 197, 305] cn In Fn4 c2 I2 F2 ∧ CBX c2 ∧ (r = MV o (cut ((Fn4 7))) z9.1 z9.2.1)) r_6 cn7 In7 Fn7 := wh_7
    obtain ⟨hfc7, hIn7, h_7⟩ := vh_7
    obtain rfl : cn = cn7 := (funext (fun k => hfc7.1 k List.not_mem_nil)).symm
    obtain rfl : In = In7 := (funext (fun k => hfc7.2.1 k List.not_mem_nil)).symm
    have hf7 : Fr [] [] [7, 196, 197, 305] cn In Fn cn In Fn7 := Fr.mo (Fr.tr hf4 hfc7) (sbl rfl) (sbl rfl) (sbl rfl)
    replace hIn7 : CBXh cn := hIn7
    rw [(show cut (Fn4 7) = cut (lfX Fn k0) by rw [hfc4.2.2 7 (nml rfl)]; exact h_2)] at h_7
    refine va_mmin hx hb (by rw [hml]; exact hl.1.symm) hown (S.2.2.2.2 _ (wk4_3 7 rfl rfl)) (S.2.2.2.2 _ (wk2_13 10 rfl rfl)) (S.2.2.2.2 _ (wk1_0 3 rfl rfl)) (S.2.2.2.2 _ (wk2_13 11 rfl rfl)) (Nat.le_of_ble_eq_true rfl) (Nat.le_of_ble_eq_true rfl) (Nat.le_of_ble_eq_true rfl) (Nat.le_of_ble_eq_true rfl) (oc_184 36 (aq_12 shX11_penceBy_24) uw_0_227) ?_
    refine va_mmax hx hb (by rw [hml]; exact hl.1.symm) hown (S.2.2.2.2 _ (wk4_3 8 rfl rfl)) (S.2.2.2.2 _ (wk1_3 6 rfl rfl)) (S.2.2.2.2 _ (wk1_0 3 rfl rfl)) (S.2.2.2.2 _ (wk1_3 7 rfl rfl)) (Nat.le_of_ble_eq_true rfl) (Nat.le_of_ble_eq_true rfl) (Nat.le_of_ble_eq_true rfl) (Nat.le_of_ble_eq_true rfl) (oc_184 39 (aq_15 shX11_penceBy_24) uw_0_232) ?_
    exact W.iret (v := (if 0 < (if r_6 < 100000 then r_6 else 100000) then (if r_6 < 100000 then r_6 else 100000) else 0)) hx hb hr (fun t ht hW => ⟨⟨(if 0 < (if r_6 < 100000 then r_6 else 100000) then (if r_6 < 100000 then r_6 else 100000) else 0), (cn, In, Fn7), rfl, ⟨(Fr.mo hf7 (sbl rfl) (sbl rfl) (sbl rfl)), hIn7, (by show (if 0 < (if r_6 < 100000 then r_6 else 100000) then (if r_6 < 100000 then r_6 else 100000) else 0) = PNf o (cut (lfX Fn k0)) cl; rw [hp9, ← h_7]; exact clampP_of)⟩, by rw [ht]; exact hP, hD⟩, hS.F ht⟩) hS.2.2 dX11_penceBy_42
  ·
    have tc_5 : (r_3.toInt : Int) = (-1) := congrArg Int32.toInt c_5
    refine lv_iconst (v := 0) hx hb (oc_3 20 (aq_20 shX11_penceBy_0)) kic_0 ?_
    refine lv_goto (tgt := 42) hx hb (oc_167 21 (aq_21 shX11_penceBy_0) sgw_0_21) rfl ?_
    exact W.iret (v := 0) hx hb hr (fun t ht hW => ⟨⟨0, (cn, In, Fn4), rfl, ⟨(Fr.mo hf4 (sbl rfl) (sbl rfl) (sbl rfl)), hIn4, (by show 0 = PNf o (cut (lfX Fn k0)) cl; exact (FTX.no h_4 hX.1.2.2.2 (by first | assumption | exact Int32.toInt_inj.mp (by assumption))).symm)⟩, by rw [ht]; exact hP, hD⟩, hS.F ht⟩) hS.2.2 dX11_penceBy_42
set_option maxRecDepth 100000 in
set_option maxHeartbeats 4000000 in
theorem q_WpenceTogether (l : Launch) (D : va_G) (cI cB cZ : ClassId) (zz qq vv : Nat) (bt : Nat → Int32) (g : Nat → Nat) (ad : Nat → Nat → Nat) (cn : Nat → Nat) (In : Nat → Int32) (Fn : Nat → Nat → Int32) (j0 : Nat) (v0 v1 : Int32) (o : OutT) (cl : ClsT) (sz : Nat) (hB : CBX cn) (hj : j0 < cn 6) (hbt : BTL bt) (hX : XTy j0 Fn 112 o cl) (hd : ∀ k : Nat, k < cn 11 → 0 ≤ (Fn 121 k).toInt ∧ (Fn 121 k).toInt ≤ 399) : Met l yX11_penceTogether (CWS yX11_penceTogether cX11_penceTogether 7 (some .int)) (RM 8 0 0) (PBx [.ref (g 0), .int v0, .int v1, .ref (ad 5 j0)] D cI cB cZ zz qq vv bt (wX cI (D.1 99) zz g ad cn In Fn) sz) (va_Qi (fun (r : Int32) (u : (Nat → Nat) × (Nat → Int32) × (Nat → Nat → Int32)) => (fun r c2 I2 F2 => Fr [] [] [7, 196, 197, 305] cn In Fn c2 I2 F2 ∧ CBX c2 ∧ (r = sumI (fun i => if Fn 120 i = v0 ∧ (Fn 125 i).toInt ≤ Int32.toInt v1 then PNf o (cut (lfX Fn i)) cl else 0) (cn 11))) r u.1 u.2.1 u.2.2) (fun (u : (Nat → Nat) × (Nat → Int32) × (Nat → Nat → Int32)) (t : State) => va_P D vwCl (wX cI (D.1 99) zz g ad u.1 u.2.1 u.2.2) t.heap ∧ va_D (va_A (wX cI (D.1 99) zz g ad cn In Fn) sz) (wX cI (D.1 99) zz g ad u.1 u.2.1 u.2.2)) (va_A (wX cI (D.1 99) zz g ad cn In Fn) sz)) 0 0 (va_A (wX cI (D.1 99) zz g ad cn In Fn) sz) := by
  refine en_x (fun A => (va_Qi (fun (r : Int32) (u : (Nat → Nat) × (Nat → Int32) × (Nat → Nat → Int32)) => (fun (r : Int32) (c2 : Nat → Nat) (I2 : Nat → Int32) (F2 : Nat → Nat → Int32) => Fr [] [] [7, 196, 197, 305] cn In Fn c2 I2 F2 ∧ CBX c2 ∧ (r = sumI (fun i => if Fn 120 i = v0 ∧ (Fn 125 i).toInt ≤ Int32.toInt v1 then PNf o (cut (lfX Fn i)) cl else 0) (cn 11))) r u.1 u.2.1 u.2.2) (fun (u : (Nat → Nat) × (Nat → Int32) × (Nat → Nat → Int32)) (t : State) => va_P D vwCl (wX cI (D.1 99) zz g ad u.1 u.2.1 u.2.2) t.heap ∧ va_D A (wX cI (D.1 99) zz g ad u.1 u.2.1 u.2.2)) A)) rfl rfl pn_RX11 (Nat.le_of_ble_eq_true rfl) (fun p e s m below meth c A hx hb hml hown S hr hlocks hnm hA hP hK hD hXS hS ls hl => ?_)
  have hl : lv_has ls 7 [(0, .ref (g 0)), (1, .int v0), (2, .int v1), (3, .ref (ad 5 j0))] := hl
  have hb_cn : Hid (CBX cn) := hB
  replace hB : CBXh cn := hB
  refine lv_iconst (v := 0) hx hb (oc_3 0 shX11_penceTogether_0) kic_0 ?_
  refine lv_istore (lv' := [(4, .int 0), (0, .ref (g 0)), (1, .int v0), (2, .int v1), (3, .ref (ad 5 j0))]) hx hb (oc_54 1 (aq_1 shX11_penceTogether_0) ub_4) hl (ltb rfl) rfl (fun ls hl => ?_)
  refine lv_iconst (v := 0) hx hb (oc_3 3 (aq_3 shX11_penceTogether_0)) kic_0 ?_
  refine lv_istore (lv' := [(5, .int 0), (4, .int 0), (0, .ref (g 0)), (1, .int v0), (2, .int v1), (3, .ref (ad 5 j0))]) hx hb (oc_54 4 (aq_4 shX11_penceTogether_0) ub_5) hl (ltb rfl) rfl (fun ls hl => ?_)
  have lp_6 : ∀ (n : Nat) (i6 : Nat) (x6_4 : Int32) (F6 : Nat → Nat → Int32) (H : Heap) (locs : List Loc) , cn 11 - i6 < n → (i6 ≤ cn 11 ∧ Fr [] [] [7, 196, 197, 305] cn In Fn cn In F6 ∧ CBX cn ∧ (x6_4 = sumI (fun i => if Fn 120 i = v0 ∧ (Fn 125 i).toInt ≤ Int32.toInt v1 then PNf o (cut (lfX Fn i)) cl else 0) i6)) → va_P D vwCl (wX cI (D.1 99) zz g ad cn In F6) H → va_D A (wX cI (D.1 99) zz g ad cn In F6) → va_S A s.heap H locs → ∀ ls : Array Slot, lv_has ls 7 [(5, .int (nI i6)), (4, .int x6_4), (0, .ref (g 0)), (1, .int v0), (2, .int v1), (3, .ref (ad 5 j0))] → W p l e (RM 8 0 0) s m ([.ref (g 0), .int v0, .int v1, .ref (ad 5 j0)]).toArray below meth c H locs 0 0 (MQ below (va_Qi (fun (r : Int32) (u : (Nat → Nat) × (Nat → Int32) × (Nat → Nat → Int32)) => (fun r c2 I2 F2 => Fr [] [] [7, 196, 197, 305] cn In Fn c2 I2 F2 ∧ CBX c2 ∧ (r = sumI (fun i => if Fn 120 i = v0 ∧ (Fn 125 i).toInt ≤ Int32.toInt v1 then PNf o (cut (lfX Fn i)) cl else 0) (cn 11))) r u.1 u.2.1 u.2.2) (fun (u : (Nat → Nat) × (Nat → Int32) × (Nat → Nat → Int32)) (t : State) => va_P D vwCl (wX cI (D.1 99) zz g ad u.1 u.2.1 u.2.2) t.heap ∧ va_D A (wX cI (D.1 99) zz g ad u.1 u.2.1 u.2.2)) A) ([.ref (g 0), .int v0, .int v1, .ref (ad 5 j0)]).toArray s 0 0 A) (F0 m 6 ls []) := by
    intro n6
    induction n6 with
    | zero => intros; (first | omega | (have zz0 := Hid.u hb_cn; omega))
    | succ n6 ih6 =>
      intro i6 x6_4 F6 H locs hmu6 hinv6 hP hD hS ls hl
      obtain ⟨hr6, hfr6, hI6, hx6_0⟩ := hinv6
      have ti6 : (nI i6).toInt = (i6 : Int) := nI_toInt (by (first | omega | (have zz0 := Hid.u hb_cn; omega)))
      replace hI6 : CBXh cn := hI6
      refine lv_iload hx hb (oc_21 6 (aq_6 shX11_penceTogether_0) ub_5) (lvA0 hl) ?_
      refine lv_aload_n hx hb (oc_42 8 (aq_8 shX11_penceTogether_0)) rfl (lvA2 hl) ?_
      refine gf_RX11_65 S hK hP 0 xo_0 (v := .ref (g 11)) rfl (oc_180 9 (aq_9 shX11_penceTogether_0) uw_0_65) ?_
      refine vp_callSi (runV_r (As := []) (rest := [.int (nI i6)]) S (q_l_size l D cI cB cZ (g 11) (if (cn 11) = 0 then zz else ad 2 1) (In 11) (nI (cn 11))) kV_RX11_84 hK hP [25] (one_is xo_25) 25 xo_25 rfl rfl ⟨Nat.le_of_ble_eq_true rfl, Nat.le_of_ble_eq_true rfl⟩ ⟨Nat.le_of_ble_eq_true rfl, Nat.le_of_ble_eq_true rfl⟩ rfl hl.1 rfl (Nat.le_of_ble_eq_true rfl) (oc_182 12 (aq_12 shX11_penceTogether_0) uw_0_84)) (fun r_1 h_2 => ?_)
      subst h_2
      have : (nI (cn 11)).toInt = (((cn 11) : Nat) : Int) := nI_toInt (by (first | omega | (have zz0 := Hid.u hb_cn; omega)))
      refine lv_icmp_ge (tgt := 68) hx hb (oc_162 15 (aq_15 shX11_penceTogether_0) sgw_0_53) rfl (fun c_3 => ?_) (fun c_3 => ?_)
      ·
        have tc_3 : ((nI (cn 11)).toInt : Int) ≤ (nI i6).toInt := Int32.le_iff_toInt_le.mp c_3
        refine lv_iload hx hb (oc_21 68 (aq_18 shX11_penceTogether_50) ub_4) (lvA1 hl) ?_
        exact W.iret (v := x6_4) hx hb hr (fun t ht hW => ⟨⟨x6_4, (cn, In, F6), rfl, ⟨(Fr.mo hfr6 (sbl rfl) (sbl rfl) (sbl rfl)), hI6, (by show x6_4 = sumI (fun i => if Fn 120 i = v0 ∧ (Fn 125 i).toInt ≤ Int32.toInt v1 then PNf o (cut (lfX Fn i)) cl else 0) (cn 11); have e9 : i6 = cn 11 := (by (first | omega | (have zz0 := Hid.u hb_cn; omega))); rw [← e9]; exact hx6_0)⟩, by rw [ht]; exact hP, hD⟩, hS.F ht⟩) hS.2.2 (oc_172 70 (aq_20 shX11_penceTogether_50))
      ·
        have tc_3 : ((nI i6).toInt : Int) < (nI (cn 11)).toInt := Int32.lt_iff_toInt_lt.mp (Int32.not_le.mp c_3)
        refine lv_aload_n hx hb (oc_42 18 (aq_18 shX11_penceTogether_0)) rfl (lvA2 hl) ?_
        refine gf_RX11_65 S hK hP 0 xo_0 (v := .ref (g 11)) rfl (oc_180 19 (aq_19 shX11_penceTogether_0) uw_0_65) ?_
        refine lv_iload hx hb (oc_21 22 (aq_22 shX11_penceTogether_0) ub_5) (lvA0 hl) ?_
        refine va_csq (runV_rx (As := [.int (nI i6)]) (rest := []) S (q_l_get l D cI cB cZ zz qq vv bt (g 11) (ad 2 1) (cn 21) (cn 11) i6 (ad 11 i6) (In 11) (fun i => if i < (cn 11) then some (ad 11 i) else none) (by (first | omega | (have zz0 := Hid.u hb_cn; omega))) (if_pos (by (first | omega | (have zz0 := Hid.u hb_cn; omega)))) (by (first | omega | (have zz0 := Hid.u hb_cn; omega))) (by (first | omega | (have zz0 := Hid.u hb_cn; omega)))) kV_RX11_87 hK hXS hS hP _ (two_is (xl_1 (by (first | omega | (have zz0 := Hid.u hb_cn; omega)))) (xf_14 (k := 0) (by (first | omega | (have zz0 := Hid.u hb_cn; omega))))) (va_recv hK.1 hP (ci := 0) rfl xo_25) ⟨Nat.le_of_ble_eq_true rfl, Nat.le_of_ble_eq_true rfl⟩ ⟨Nat.le_of_ble_eq_true rfl, Nat.le_of_ble_eq_true rfl⟩ rfl hl.1 rfl (Nat.le_of_ble_eq_true rfl) (oc_182 24 shX11_penceTogether_24 uw_0_87)) (fun r_4 h_5 => ?_)
        subst h_5
        have kf_1 : i6 < cn 11 := by (first | omega | (have zz0 := Hid.u hb_cn; omega))
        refine va_castS hx hb hown (S.2.2.2.2 _ (wk2_17 0 rfl rfl)) (xclass hK.1 (ci := 3) rfl) (va_recv hK.1 hP (ci := 3) rfl (xf_1 kf_1)) (oc_192 27 (aq_3 shX11_penceTogether_24) uw_0_93) ?_
        refine lv_astore (lv' := [(6, .ref (ad 11 i6)), (5, .int (nI i6)), (4, .int x6_4), (0, .ref (g 0)), (1, .int v0), (2, .int v1), (3, .ref (ad 5 j0))]) hx hb (oc_58 30 (aq_6 shX11_penceTogether_24) ub_6) hl (ltb rfl) rfl (fun ls hl => ?_)
        refine lv_aload hx hb (oc_25 32 (aq_8 shX11_penceTogether_24) ub_6) (lvA0 hl) ?_
        refine gf_RX11_211 S hK hP _ (xf_1 kf_1) (v := .int ((F6 120) i6)) rfl (oc_180 34 (aq_10 shX11_penceTogether_24) uw_0_211) ?_
        refine lv_iload_n hx hb (oc_27 37 (aq_13 shX11_penceTogether_24)) rfl (lvA4 hl) ?_
        refine lv_icmp_ne (tgt := 62) hx hb (oc_160 38 (aq_14 shX11_penceTogether_24) sgw_0_24) rfl (fun c_6 => ?_) (fun c_6 => ?_)
        ·
          have tc_6 : (((F6 120) i6).toInt : Int) ≠ v0.toInt := fun q => c_6 (Int32.toInt_inj.mp q)
          refine lv_iinc (v := (nI (i6 + 1))) (lv' := [(5, .int (nI (i6 + 1))), (6, .ref (ad 11 i6)), (4, .int x6_4), (0, .ref (g 0)), (1, .int v0), (2, .int v1), (3, .ref (ad 5 j0))]) hx hb dX11_penceTogether_62 hl (k := 1) rfl (nI_1 _) (ltb rfl) rfl (fun ls hl => ?_)
          refine lv_goto (tgt := 6) hx hb dX11_penceTogether_65 rfl ?_
          exact ih6 (i6 + 1) x6_4 F6 _ _ (by (first | omega | (have zz0 := Hid.u hb_cn; omega))) ⟨(by (first | omega | (have zz0 := Hid.u hb_cn; omega))), (Fr.mo hfr6 (sbl rfl) (sbl rfl) (sbl rfl)), hI6, (sumI_n hx6_0 (by show (if _ then _ else _) = _; rw [← congrFun (hfr6.2.2 120 (nml rfl)) i6, ← congrFun (hfr6.2.2 125 (nml rfl)) i6]; exact if_neg (fun q9 => by first | exact absurd q9.1 (by assumption) | (have q8 := q9.2; (first | omega | (have zz0 := Hid.u hb_cn; omega))) | (have q8 := congrArg Int32.toInt q9.1; (first | omega | (have zz0 := Hid.u hb_cn; omega))))))⟩ hP hD hS ls (lv_sub hl [0, 2, 3, 4, 5, 6] rfl)
        ·
          have tc_6 : (((F6 120) i6).toInt : Int) = v0.toInt := congrArg Int32.toInt c_6
          refine lv_aload hx hb (oc_25 41 (aq_17 shX11_penceTogether_24) ub_6) (lvA0 hl) ?_
          refine gf_RX11_235 S hK hP _ (xf_1 kf_1) (v := .int ((F6 125) i6)) rfl (oc_180 43 (aq_19 shX11_penceTogether_24) uw_0_235) ?_
          refine lv_iload_n hx hb (oc_28 46 (aq_22 shX11_penceTogether_24)) rfl (lvA5 hl) ?_
          refine lv_icmp_gt (tgt := 62) hx hb (oc_163 47 (aq_23 shX11_penceTogether_24) sgw_0_15) rfl (fun c_7 => ?_) (fun c_7 => ?_)
          ·
            have tc_7 : (v1.toInt : Int) < ((F6 125) i6).toInt := Int32.lt_iff_toInt_lt.mp c_7
            refine lv_iinc (v := (nI (i6 + 1))) (lv' := [(5, .int (nI (i6 + 1))), (6, .ref (ad 11 i6)), (4, .int x6_4), (0, .ref (g 0)), (1, .int v0), (2, .int v1), (3, .ref (ad 5 j0))]) hx hb dX11_penceTogether_62 hl (k := 1) rfl (nI_1 _) (ltb rfl) rfl (fun ls hl => ?_)
            refine lv_goto (tgt := 6) hx hb dX11_penceTogether_65 rfl ?_
            exact ih6 (i6 + 1) x6_4 F6 _ _ (by (first | omega | (have zz0 := Hid.u hb_cn; omega))) ⟨(by (first | omega | (have zz0 := Hid.u hb_cn; omega))), (Fr.mo hfr6 (sbl rfl) (sbl rfl) (sbl rfl)), hI6, (sumI_n hx6_0 (by show (if _ then _ else _) = _; rw [← congrFun (hfr6.2.2 120 (nml rfl)) i6, ← congrFun (hfr6.2.2 125 (nml rfl)) i6]; exact if_neg (fun q9 => by first | exact absurd q9.1 (by assumption) | (have q8 := q9.2; (first | omega | (have zz0 := Hid.u hb_cn; omega))) | (have q8 := congrArg Int32.toInt q9.1; (first | omega | (have zz0 := Hid.u hb_cn; omega))))))⟩ hP hD hS ls (lv_sub hl [0, 2, 3, 4, 5, 6] rfl)
          ·
            have tc_7 : (((F6 125) i6).toInt : Int) ≤ v1.toInt := Int32.le_iff_toInt_le.mp (Int32.not_lt.mp c_7)
            refine lv_iload hx hb (oc_21 50 shX11_penceTogether_50 ub_4) (lvA2 hl) ?_
            refine lv_aload_n hx hb (oc_42 52 (aq_2 shX11_penceTogether_50)) rfl (lvA3 hl) ?_
            refine lv_aload_n hx hb (oc_45 53 (aq_3 shX11_penceTogether_50)) rfl (lvA6 hl) ?_
            refine lv_aload hx hb (oc_25 54 (aq_4 shX11_penceTogether_50) ub_6) (lvA0 hl) ?_
            have hFc := free_all hD hS hA
            refine va_calli (runV_xa (As := [.ref (ad 5 j0), .ref (ad 11 i6)]) (rest := [.int x6_4]) S (q_WpenceBy l D cI cB cZ zz qq vv bt g ad cn In F6 j0 i6 o cl H.size hI6 (by (first | omega | (have zz0 := Hid.u hb_cn; omega))) (by (first | omega | (have zz0 := Hid.u hb_cn; omega))) hbt (hX.cg (hfr6.2.2 195 (nml rfl)) (hfr6.2.2 301 (nml rfl)) (hfr6.2.2 198 (nml rfl)) (hfr6.2.2 302 (nml rfl)) (hfr6.2.2 303 (nml rfl)) (hfr6.2.2 304 (nml rfl)) (hfr6.2.2 199 (nml rfl))) (by rw [congrFun (hfr6.2.2 121 (nml rfl)) i6]; exact hd i6 (by (first | omega | (have zz0 := Hid.u hb_cn; omega))))) kV_RX11_238 hK hXS hS hFc hP hD 0 xo_0 rfl rfl ⟨Nat.le_of_ble_eq_true rfl, Nat.le_of_ble_eq_true rfl⟩ ⟨Nat.le_of_ble_eq_true rfl, Nat.le_of_ble_eq_true rfl⟩ rfl hl.1 rfl (Nat.le_of_ble_eq_true rfl) (oc_182 56 (aq_6 shX11_penceTogether_50) uw_0_238)) hS (fun q _ h => hFc q h) hFc (fun r_8 u t H1 locs ht hvm wh_9 hB1 hz1 hk1 hS => ?_)
            obtain ⟨cn9, In9, Fn9⟩ := u
            obtain ⟨hP1, hD1⟩ := hB1
            rw [ht] at hP1
            have hP : va_P D vwCl (wX cI (D.1 99) zz g ad cn9 In9 Fn9) H1 := hP1
            have hD : va_D A (wX cI (D.1 99) zz g ad cn9 In9 Fn9) := hD1.weaken (fun _ _ _ h => hFc _ h)
            generalize H1 = H at hP hS ⊢
            have vh_9 : (fun r c2 I2 F2 => Fr [] [] [7, 196, 197, 305] cn In F6 c2 I2 F2 ∧ CBX c2 ∧ (r = PNf o (cut (lfX F6 i6)) cl)) r_8 cn9 In9 Fn9 := wh_9
            obtain ⟨hfc9, hIn9, h_9⟩ := vh_9
            obtain rfl : cn = cn9 := (funext (fun k => hfc9.1 k List.not_mem_nil)).symm
            obtain rfl : In = In9 := (funext (fun k => hfc9.2.1 k List.not_mem_nil)).symm
            have hf9 : Fr [] [] [7, 196, 197, 305] cn In Fn cn In Fn9 := Fr.mo (Fr.tr hfr6 hfc9) (sbl rfl) (sbl rfl) (sbl rfl)
            replace hIn9 : CBXh cn := hIn9
            have hp_9 : r_8 = PNf o (cut (lfX Fn i6)) cl := by rw [h_9]; unfold lfX; rw [hfr6.2.2 122 (nml rfl), hfr6.2.2 123 (nml rfl), hfr6.2.2 124 (nml rfl), hfr6.2.2 121 (nml rfl), hfr6.2.2 120 (nml rfl), hfr6.2.2 128 (nml rfl), hfr6.2.2 127 (nml rfl), hfr6.2.2 20 (nml rfl)]
            refine lv_iadd hx hb (oc_96 59 (aq_9 shX11_penceTogether_50)) ?_
            refine lv_istore (lv' := [(4, .int (x6_4 + r_8)), (6, .ref (ad 11 i6)), (5, .int (nI i6)), (0, .ref (g 0)), (1, .int v0), (2, .int v1), (3, .ref (ad 5 j0))]) hx hb (oc_54 60 (aq_10 shX11_penceTogether_50) ub_4) hl (ltb rfl) rfl (fun ls hl => ?_)
            refine lv_iinc (v := (nI (i6 + 1))) (lv' := [(5, .int (nI (i6 + 1))), (4, .int (x6_4 + r_8)), (6, .ref (ad 11 i6)), (0, .ref (g 0)), (1, .int v0), (2, .int v1), (3, .ref (ad 5 j0))]) hx hb dX11_penceTogether_62 hl (k := 2) rfl (nI_1 _) (ltb rfl) rfl (fun ls hl => ?_)
            refine lv_goto (tgt := 6) hx hb dX11_penceTogether_65 rfl ?_
            exact ih6 (i6 + 1) (x6_4 + r_8) Fn9 _ _ (by (first | omega | (have zz0 := Hid.u hb_cn; omega))) ⟨(by (first | omega | (have zz0 := Hid.u hb_cn; omega))), (Fr.mo hf9 (sbl rfl) (sbl rfl) (sbl rfl)), hIn9, (sumI_y hx6_0 (by show (if _ then _ else _) = _; rw [← congrFun (hfr6.2.2 120 (nml rfl)) i6, ← congrFun (hfr6.2.2 125 (nml rfl)) i6, if_pos ⟨by first | assumption | exact Int32.toInt_inj.mp (by assumption), by (first | omega | (have zz0 := Hid.u hb_cn; omega))⟩]; exact hp_9.symm))⟩ hP hD hS ls (lv_sub hl [0, 1, 3, 4, 5, 6] rfl)
  exact lp_6 _ 0 0 Fn _ _ (Nat.lt_succ_self _) ⟨(by (first | omega | (have zz0 := Hid.u hb_cn; omega))), (Fr.mo Fr.rf (sbl rfl) (sbl rfl) (sbl rfl)), hB, rfl⟩ hP hD hS ls (lv_sub hl [0, 1, 2, 3, 4, 5] rfl)
set_option maxRecDepth 100000 in
set_option maxHeartbeats 4000000 in
theorem q_WasIf (l : Launch) (D : va_G) (cI cB cZ : ClassId) (zz qq vv : Nat) (bt : Nat → Int32) (g : Nat → Nat) (ad : Nat → Nat → Nat) (cn : Nat → Nat) (In : Nat → Int32) (Fn : Nat → Nat → Int32) (v0 v1 : Int32) (oo : Nat → OutT) (cc : Nat → ClsT) (sz : Nat) (hB : CBX cn) (hT : (∀ k : Nat, k < cn 10 → ad 3 k < cn 6) ∧ ad 4 0 < cn 6 ∧ ad 4 1 < cn 6) (hbt : BTL bt) (hX : ∀ k : Nat, k < cn 10 → XTy (ad 3 k) Fn 112 (oo k) (cc k)) (hd : ∀ k : Nat, k < cn 11 → 0 ≤ (Fn 121 k).toInt ∧ (Fn 121 k).toInt ≤ 399) : Met l yX11_asIf (CWS yX11_asIf cX11_asIf 4 (some .int)) (RM 9 0 0) (PBx [.ref (g 0), .int v0, .int v1] D cI cB cZ zz qq vv bt (wX cI (D.1 99) zz g ad cn In Fn) sz) (va_Qi (fun (r : Int32) (u : (Nat → Nat) × (Nat → Int32) × (Nat → Nat → Int32)) => (fun r c2 I2 F2 => Fr [] [] [7, 196, 197, 305] cn In Fn c2 I2 F2 ∧ CBX c2 ∧ (((0 ≤ v0.toInt ∧ v0.toInt < (cn 10 : Int) ∧ 0 ≤ v1.toInt ∧ v1.toInt < (cn 10 : Int)) ∧ r = sumI (fun i => if Fn 120 i = v0 ∧ (Fn 125 i).toInt ≤ Int32.toInt (399 : Int32) then PNf (oo v1.toInt.toNat) (cut (lfX Fn i)) (cc v1.toInt.toNat) else 0) (cn 11)) ∨ (¬ (0 ≤ v0.toInt ∧ v0.toInt < (cn 10 : Int) ∧ 0 ≤ v1.toInt ∧ v1.toInt < (cn 10 : Int)) ∧ r = -1))) r u.1 u.2.1 u.2.2) (fun (u : (Nat → Nat) × (Nat → Int32) × (Nat → Nat → Int32)) (t : State) => va_P D vwCl (wX cI (D.1 99) zz g ad u.1 u.2.1 u.2.2) t.heap ∧ va_D (va_A (wX cI (D.1 99) zz g ad cn In Fn) sz) (wX cI (D.1 99) zz g ad u.1 u.2.1 u.2.2)) (va_A (wX cI (D.1 99) zz g ad cn In Fn) sz)) 0 0 (va_A (wX cI (D.1 99) zz g ad cn In Fn) sz) := by
  refine en_x (fun A => (va_Qi (fun (r : Int32) (u : (Nat → Nat) × (Nat → Int32) × (Nat → Nat → Int32)) => (fun (r : Int32) (c2 : Nat → Nat) (I2 : Nat → Int32) (F2 : Nat → Nat → Int32) => Fr [] [] [7, 196, 197, 305] cn In Fn c2 I2 F2 ∧ CBX c2 ∧ (((0 ≤ v0.toInt ∧ v0.toInt < (cn 10 : Int) ∧ 0 ≤ v1.toInt ∧ v1.toInt < (cn 10 : Int)) ∧ r = sumI (fun i => if Fn 120 i = v0 ∧ (Fn 125 i).toInt ≤ Int32.toInt (399 : Int32) then PNf (oo v1.toInt.toNat) (cut (lfX Fn i)) (cc v1.toInt.toNat) else 0) (cn 11)) ∨ (¬ (0 ≤ v0.toInt ∧ v0.toInt < (cn 10 : Int) ∧ 0 ≤ v1.toInt ∧ v1.toInt < (cn 10 : Int)) ∧ r = -1))) r u.1 u.2.1 u.2.2) (fun (u : (Nat → Nat) × (Nat → Int32) × (Nat → Nat → Int32)) (t : State) => va_P D vwCl (wX cI (D.1 99) zz g ad u.1 u.2.1 u.2.2) t.heap ∧ va_D A (wX cI (D.1 99) zz g ad u.1 u.2.1 u.2.2)) A)) rfl rfl pn_RX11 (Nat.le_of_ble_eq_true rfl) (fun p e s m below meth c A hx hb hml hown S hr hlocks hnm hA hP hK hD hXS hS ls hl => ?_)
  have hl : lv_has ls 4 [(0, .ref (g 0)), (1, .int v0), (2, .int v1)] := hl
  have hb_cn : Hid (CBX cn) := hB
  replace hB : CBXh cn := hB
  refine lv_aload_n hx hb (oc_42 0 shX11_asIf_0) rfl (lvA0 hl) ?_
  refine lv_iload_n hx hb (oc_28 1 (aq_1 shX11_asIf_0)) rfl (lvA2 hl) ?_
  refine va_csq (runV_rxa (As := [.int v1]) (rest := []) S (q_XkitchenAt l D cI cB cZ zz qq vv bt g ad cn In Fn v1 hB) kV_RX11_114 hK hXS hS hP 0 xo_0 rfl rfl ⟨Nat.le_of_ble_eq_true rfl, Nat.le_of_ble_eq_true rfl⟩ ⟨Nat.le_of_ble_eq_true rfl, Nat.le_of_ble_eq_true rfl⟩ rfl hl.1 rfl (Nat.le_of_ble_eq_true rfl) (oc_182 2 (aq_2 shX11_asIf_0) uw_0_114)) (fun r_1 h_2 => ?_)
  rcases h_2 with ⟨mr_1, er_1, hr_1, rfl⟩ | ⟨hr_1, rfl⟩
  ·
    refine lv_astore_n (lv' := [(3, .ref (ad 10 mr_1)), (0, .ref (g 0)), (1, .int v0), (2, .int v1)]) hx hb dX11_asIf_5 rfl hl (ltb rfl) rfl (fun ls hl => ?_)
    refine lv_aload_n hx hb dX11_asIf_6 rfl (lvA1 hl) ?_
    refine lv_iload_n hx hb dX11_asIf_7 rfl (lvA2 hl) ?_
    refine va_csq (runV_rxa (As := [.int v0]) (rest := []) S (q_XkitchenAt l D cI cB cZ zz qq vv bt g ad cn In Fn v0 hB) kV_RX11_114 hK hXS hS hP 0 xo_0 rfl rfl ⟨Nat.le_of_ble_eq_true rfl, Nat.le_of_ble_eq_true rfl⟩ ⟨Nat.le_of_ble_eq_true rfl, Nat.le_of_ble_eq_true rfl⟩ rfl hl.1 rfl (Nat.le_of_ble_eq_true rfl) dX11_asIf_8) (fun r_3 h_4 => ?_)
    rcases h_4 with ⟨mr_3, er_3, hr_3, rfl⟩ | ⟨hr_3, rfl⟩
    ·
      refine lv_ifnull hx hb dX11_asIf_11 ?_
      refine lv_aload_n hx hb dX11_asIf_14 rfl (lvA0 hl) ?_
      refine lv_ifnonnull (tgt := 22) hx hb dX11_asIf_15 rfl ?_
      refine lv_aload_n hx hb (oc_42 22 (aq_22 shX11_asIf_0)) rfl (lvA1 hl) ?_
      refine lv_iload_n hx hb (oc_27 23 (aq_23 shX11_asIf_0)) rfl (lvA2 hl) ?_
      refine lv_sipush (v := 399) hx hb (oc_17 24 shX11_asIf_24 sgw_1_143) (by decide) ?_
      refine lv_aload_n hx hb (oc_45 27 (aq_3 shX11_asIf_24)) rfl (lvA0 hl) ?_
      have kf_1 : mr_1 < cn 10 := by (first | omega | (have zz0 := Hid.u hb_cn; omega))
      refine gf_RX11_168 S hK hP _ (xf_0 kf_1) (v := .ref (ad 5 (ad 3 mr_1))) rfl (oc_180 28 (aq_4 shX11_asIf_24) uw_0_168) ?_
      have hFc := free_all hD hS hA
      refine va_calli (runV_xa (As := [.int v0, .int 399, .ref (ad 5 (ad 3 mr_1))]) (rest := []) S (q_WpenceTogether l D cI cB cZ zz qq vv bt g ad cn In Fn (ad 3 mr_1) v0 399 (oo mr_1) (cc mr_1) s.heap.size hB (hT.1 mr_1 (by (first | omega | (have zz0 := Hid.u hb_cn; omega)))) hbt (hX mr_1 (by (first | omega | (have zz0 := Hid.u hb_cn; omega)))) hd) kV_RX11_242 hK hXS hS hFc hP hD 0 xo_0 rfl rfl ⟨Nat.le_of_ble_eq_true rfl, Nat.le_of_ble_eq_true rfl⟩ ⟨Nat.le_of_ble_eq_true rfl, Nat.le_of_ble_eq_true rfl⟩ rfl hl.1 rfl (Nat.le_of_ble_eq_true rfl) (oc_182 31 (aq_7 shX11_asIf_24) uw_0_242)) hS (fun q _ h => hFc q h) hFc (fun r_5 u t H1 locs ht hvm wh_6 hB1 hz1 hk1 hS => ?_)
      obtain ⟨cn6, In6, Fn6⟩ := u
      obtain ⟨hP1, hD1⟩ := hB1
      rw [ht] at hP1
      have hP : va_P D vwCl (wX cI (D.1 99) zz g ad cn6 In6 Fn6) H1 := hP1
      have hD : va_D A (wX cI (D.1 99) zz g ad cn6 In6 Fn6) := hD1.weaken (fun _ _ _ h => hFc _ h)
      generalize H1 = H at hP hS ⊢
      have vh_6 : (fun r c2 I2 F2 => Fr [] [] [7, 196, 197, 305] cn In Fn c2 I2 F2 ∧ CBX c2 ∧ (r = sumI (fun i => if (Fn 120) i = v0 ∧ ((Fn 125) i).toInt ≤ Int32.toInt 399 then PNf (oo mr_1) (cut (lfX Fn i)) (cc mr_1) else 0) ((cn 11)))) r_5 cn6 In6 Fn6 := wh_6
      obtain ⟨hfc6, hIn6, h_6⟩ := vh_6
      obtain rfl : cn = cn6 := (funext (fun k => hfc6.1 k List.not_mem_nil)).symm
      obtain rfl : In = In6 := (funext (fun k => hfc6.2.1 k List.not_mem_nil)).symm
      have hf6 : Fr [] [] [7, 196, 197, 305] cn In Fn cn In Fn6 := Fr.mo (Fr.tr (Fr.rf (cn := cn) (In := In) (Fn := Fn)) hfc6) (sbl rfl) (sbl rfl) (sbl rfl)
      replace hIn6 : CBXh cn := hIn6
      exact W.iret (v := r_5) hx hb hr (fun t ht hW => ⟨⟨r_5, (cn, In, Fn6), rfl, ⟨(Fr.mo hf6 (sbl rfl) (sbl rfl) (sbl rfl)), hIn6, (by show ((0 ≤ v0.toInt ∧ v0.toInt < (cn 10 : Int) ∧ 0 ≤ v1.toInt ∧ v1.toInt < (cn 10 : Int)) ∧ r_5 = sumI (fun i => if Fn 120 i = v0 ∧ (Fn 125 i).toInt ≤ Int32.toInt (399 : Int32) then PNf (oo v1.toInt.toNat) (cut (lfX Fn i)) (cc v1.toInt.toNat) else 0) (cn 11)) ∨ (¬ (0 ≤ v0.toInt ∧ v0.toInt < (cn 10 : Int) ∧ 0 ≤ v1.toInt ∧ v1.toInt < (cn 10 : Int)) ∧ r_5 = -1); have e9 : v1.toInt.toNat = mr_1 := (by (first | omega | (have zz0 := Hid.u hb_cn; omega))); exact Or.inl ⟨(by (first | omega | (have zz0 := Hid.u hb_cn; omega))), (by rw [e9]; exact h_6)⟩)⟩, by rw [ht]; exact hP, hD⟩, hS.F ht⟩) hS.2.2 dX11_asIf_34
    ·
      refine lv_ifnullN (tgt := 18) hx hb dX11_asIf_11 rfl ?_
      refine lv_iconst (v := (-1)) hx hb dX11_asIf_18 kic_m1 ?_
      refine lv_goto (tgt := 34) hx hb dX11_asIf_19 rfl ?_
      exact W.iret (v := (-1)) hx hb hr (fun t ht hW => ⟨⟨(-1), (cn, In, Fn), rfl, ⟨(Fr.mo Fr.rf (sbl rfl) (sbl rfl) (sbl rfl)), hB, (by show ((0 ≤ v0.toInt ∧ v0.toInt < (cn 10 : Int) ∧ 0 ≤ v1.toInt ∧ v1.toInt < (cn 10 : Int)) ∧ (-1) = sumI (fun i => if Fn 120 i = v0 ∧ (Fn 125 i).toInt ≤ Int32.toInt (399 : Int32) then PNf (oo v1.toInt.toNat) (cut (lfX Fn i)) (cc v1.toInt.toNat) else 0) (cn 11)) ∨ (¬ (0 ≤ v0.toInt ∧ v0.toInt < (cn 10 : Int) ∧ 0 ≤ v1.toInt ∧ v1.toInt < (cn 10 : Int)) ∧ (-1) = -1); exact Or.inr ⟨(by (first | omega | (have zz0 := Hid.u hb_cn; omega))), rfl⟩)⟩, by rw [ht]; exact hP, hD⟩, hS.F ht⟩) hS.2.2 dX11_asIf_34
  ·
    refine lv_astore_nN (lv' := [(3, .null), (0, .ref (g 0)), (1, .int v0), (2, .int v1)]) hx hb dX11_asIf_5 rfl hl (ltb rfl) rfl (fun ls hl => ?_)
    refine lv_aload_n hx hb dX11_asIf_6 rfl (lvA1 hl) ?_
    refine lv_iload_n hx hb dX11_asIf_7 rfl (lvA2 hl) ?_
    refine va_csq (runV_rxa (As := [.int v0]) (rest := []) S (q_XkitchenAt l D cI cB cZ zz qq vv bt g ad cn In Fn v0 hB) kV_RX11_114 hK hXS hS hP 0 xo_0 rfl rfl ⟨Nat.le_of_ble_eq_true rfl, Nat.le_of_ble_eq_true rfl⟩ ⟨Nat.le_of_ble_eq_true rfl, Nat.le_of_ble_eq_true rfl⟩ rfl hl.1 rfl (Nat.le_of_ble_eq_true rfl) dX11_asIf_8) (fun r_7 h_8 => ?_)
    rcases h_8 with ⟨mr_7, er_7, hr_7, rfl⟩ | ⟨hr_7, rfl⟩
    ·
      refine lv_ifnull hx hb dX11_asIf_11 ?_
      refine lv_aload_nN hx hb dX11_asIf_14 rfl (lvA0 hl) ?_
      refine lv_ifnonnullN hx hb dX11_asIf_15 ?_
      refine lv_iconst (v := (-1)) hx hb dX11_asIf_18 kic_m1 ?_
      refine lv_goto (tgt := 34) hx hb dX11_asIf_19 rfl ?_
      exact W.iret (v := (-1)) hx hb hr (fun t ht hW => ⟨⟨(-1), (cn, In, Fn), rfl, ⟨(Fr.mo Fr.rf (sbl rfl) (sbl rfl) (sbl rfl)), hB, (by show ((0 ≤ v0.toInt ∧ v0.toInt < (cn 10 : Int) ∧ 0 ≤ v1.toInt ∧ v1.toInt < (cn 10 : Int)) ∧ (-1) = sumI (fun i => if Fn 120 i = v0 ∧ (Fn 125 i).toInt ≤ Int32.toInt (399 : Int32) then PNf (oo v1.toInt.toNat) (cut (lfX Fn i)) (cc v1.toInt.toNat) else 0) (cn 11)) ∨ (¬ (0 ≤ v0.toInt ∧ v0.toInt < (cn 10 : Int) ∧ 0 ≤ v1.toInt ∧ v1.toInt < (cn 10 : Int)) ∧ (-1) = -1); exact Or.inr ⟨(by (first | omega | (have zz0 := Hid.u hb_cn; omega))), rfl⟩)⟩, by rw [ht]; exact hP, hD⟩, hS.F ht⟩) hS.2.2 dX11_asIf_34
    ·
      refine lv_ifnullN (tgt := 18) hx hb dX11_asIf_11 rfl ?_
      refine lv_iconst (v := (-1)) hx hb dX11_asIf_18 kic_m1 ?_
      refine lv_goto (tgt := 34) hx hb dX11_asIf_19 rfl ?_
      exact W.iret (v := (-1)) hx hb hr (fun t ht hW => ⟨⟨(-1), (cn, In, Fn), rfl, ⟨(Fr.mo Fr.rf (sbl rfl) (sbl rfl) (sbl rfl)), hB, (by show ((0 ≤ v0.toInt ∧ v0.toInt < (cn 10 : Int) ∧ 0 ≤ v1.toInt ∧ v1.toInt < (cn 10 : Int)) ∧ (-1) = sumI (fun i => if Fn 120 i = v0 ∧ (Fn 125 i).toInt ≤ Int32.toInt (399 : Int32) then PNf (oo v1.toInt.toNat) (cut (lfX Fn i)) (cc v1.toInt.toNat) else 0) (cn 11)) ∨ (¬ (0 ≤ v0.toInt ∧ v0.toInt < (cn 10 : Int) ∧ 0 ≤ v1.toInt ∧ v1.toInt < (cn 10 : Int)) ∧ (-1) = -1); exact Or.inr ⟨(by (first | omega | (have zz0 := Hid.u hb_cn; omega))), rfl⟩)⟩, by rw [ht]; exact hP, hD⟩, hS.F ht⟩) hS.2.2 dX11_asIf_34
