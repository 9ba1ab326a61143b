theorem ap_b {x y u v : Int32} (p : XYB x y) (q : XYB u v) : 0 ≤ (apM x y u v).toInt ∧ (apM x y u v).toInt ≤ 198 := by
  rw [← wy_ap p q]
  exact wy_b p q



set_option maxRecDepth 100000 in
set_option maxHeartbeats 4000000 in
theorem q_goes9 (l : Launch) (D : va_G) (cI cB cZ : ClassId) (g : Nat → Nat) (cn : Nat → Nat) (In : Nat → Int32) (Fn : Nat → Nat → Int32) (l0 : List Nat) (sz : Nat) (hI : IM cn Fn) (h44 : cn 44 ≤ 8) (hAK : AK cn Fn) (hl0 : cn 44 = l0.length) (h42 : RWF (Fn 42) nI l0) (hxy : ∀ k : Nat, k < cn 1 → XYB (Fn 3 k) (Fn 4 k)) (hk0 : ∀ a : Nat, a < l0.length → l0.getD a 0 < cn 1) : Met l yX12_goes (CWS yX12_goes cX12_goes 7 none) (RM 2 0 0) (PBw [.ref (g 100)] D cI cB cZ (wM cI cB cZ g cn In Fn) sz) (va_Qv (fun (u : (Nat → Nat) × (Nat → Int32) × (Nat → Nat → Int32)) => (fun c2 I2 F2 => Fr [] [] [43] cn In Fn c2 I2 F2 ∧ IM c2 F2 ∧ (TBL (fun a b => apM (Fn 3 (l0.getD a 0)) (Fn 4 (l0.getD a 0)) (Fn 3 (l0.getD b 0)) (Fn 4 (l0.getD b 0))) (fun a => Fn 3 (l0.getD a 0) + Fn 4 (l0.getD a 0)) (cn 44) (F2 43) (2 ^ cn 44))) u.1 u.2.1 u.2.2) (fun (u : (Nat → Nat) × (Nat → Int32) × (Nat → Nat → Int32)) (t : State) => va_P D vwCl (wM cI cB cZ g u.1 u.2.1 u.2.2) t.heap ∧ va_D (va_A (wM cI cB cZ g cn In Fn) sz) (wM cI cB cZ g u.1 u.2.1 u.2.2)) (va_A (wM cI cB cZ g cn In Fn) sz)) 0 0 (va_A (wM cI cB cZ g cn In Fn) sz) := by
  refine en_w (fun A => (va_Qv (fun (u : (Nat → Nat) × (Nat → Int32) × (Nat → Nat → Int32)) => (fun (c2 : Nat → Nat) (I2 : Nat → Int32) (F2 : Nat → Nat → Int32) => Fr [] [] [43] cn In Fn c2 I2 F2 ∧ IM c2 F2 ∧ (TBL (fun a b => apM (Fn 3 (l0.getD a 0)) (Fn 4 (l0.getD a 0)) (Fn 3 (l0.getD b 0)) (Fn 4 (l0.getD b 0))) (fun a => Fn 3 (l0.getD a 0) + Fn 4 (l0.getD a 0)) (cn 44) (F2 43) (2 ^ cn 44))) u.1 u.2.1 u.2.2) (fun (u : (Nat → Nat) × (Nat → Int32) × (Nat → Nat → Int32)) (t : State) => va_P D vwCl (wM cI cB cZ g u.1 u.2.1 u.2.2) t.heap ∧ va_D A (wM cI cB cZ g u.1 u.2.1 u.2.2)) A)) rfl rfl pn_RX12 (Nat.le_of_ble_eq_true rfl) (fun p e s m below meth c A hx hb hml hown S hr hlocks hnm hA hP hK hD hS ls hl => ?_)
  have hl : lv_has ls 7 [(0, .ref (g 100))] := hl
  have hi_cn : Hid (CB cn) := hI.b
  have h2p := full_le (m := cn 44) h44
  have hw9 : ∀ a b : Nat, a < cn 44 → b < cn 44 → 0 ≤ ((fun a b => apM (Fn 3 (l0.getD a 0)) (Fn 4 (l0.getD a 0)) (Fn 3 (l0.getD b 0)) (Fn 4 (l0.getD b 0))) a b).toInt ∧ ((fun a b => apM (Fn 3 (l0.getD a 0)) (Fn 4 (l0.getD a 0)) (Fn 3 (l0.getD b 0)) (Fn 4 (l0.getD b 0))) a b).toInt ≤ 198 := fun a b ha hb => ap_b (hxy _ (hk0 a (by (first | omega | (have zz0 := Hid.u hi_cn; omega))))) (hxy _ (hk0 b (by (first | omega | (have zz0 := Hid.u hi_cn; omega)))))
  have hd9 : ∀ a : Nat, a < cn 44 → 0 ≤ ((fun a => Fn 3 (l0.getD a 0) + Fn 4 (l0.getD a 0)) a).toInt ∧ ((fun a => Fn 3 (l0.getD a 0) + Fn 4 (l0.getD a 0)) a).toInt ≤ 198 := fun a ha => dp_b (hxy _ (hk0 a (by (first | omega | (have zz0 := Hid.u hi_cn; omega)))))
  refine lv_iconst (v := 1) hx hb (oc_4 0 shX12_goes_0) kic_1 ?_
  refine lv_aload_n hx hb (oc_42 1 (aq_1 shX12_goes_0)) rfl (lvA0 hl) ?_
  refine gM_364 S hK hP (v := .int (nI (cn 44))) rfl (oc_180 2 (aq_2 shX12_goes_0) uw_1_108) ?_
  refine lv_ishl hx hb (oc_120 5 (aq_5 shX12_goes_0)) ?_
  refine lv_topi (fun y_1 ey_1 => ?_)
  obtain rfl : y_1 = (nI (2 ^ cn 44)) := ey_1.trans (sh1 (by (first | omega | (have zz0 := Hid.u hi_cn; omega))))
  refine lv_iconst (v := 1) hx hb (oc_4 6 (aq_6 shX12_goes_0)) kic_1 ?_
  refine lv_isub hx hb (oc_100 7 (aq_7 shX12_goes_0)) ?_
  refine lv_topi (fun y_2 ey_2 => ?_)
  obtain rfl : y_2 = (nI (2 ^ cn 44 - 1)) := ey_2.trans (nI_sub (b := 1) (full_le (by (first | omega | (have zz0 := Hid.u hi_cn; omega)))).1)
  refine lv_istore_n (lv' := [(1, .int (nI (2 ^ cn 44 - 1))), (0, .ref (g 100))]) hx hb (oc_60 8 (aq_8 shX12_goes_0)) rfl hl (ltb rfl) rfl (fun ls hl => ?_)
  refine lv_iconst (v := 0) hx hb (oc_3 9 (aq_9 shX12_goes_0)) kic_0 ?_
  refine lv_istore_n (lv' := [(2, .int 0), (1, .int (nI (2 ^ cn 44 - 1))), (0, .ref (g 100))]) hx hb (oc_61 10 (aq_10 shX12_goes_0)) rfl hl (ltb rfl) rfl (fun ls hl => ?_)
  have lp_11 : ∀ (n : Nat) (i11 : Nat) (F11 : Nat → Nat → Int32) (H : Heap) (locs : List Loc) , 2 ^ cn 44 - i11 < n → (i11 ≤ 2 ^ cn 44 ∧ Fr [] [] [43] cn In Fn cn In F11 ∧ IM cn F11 ∧ (AK cn F11) ∧ (TBL (fun a b => apM (Fn 3 (l0.getD a 0)) (Fn 4 (l0.getD a 0)) (Fn 3 (l0.getD b 0)) (Fn 4 (l0.getD b 0))) (fun a => Fn 3 (l0.getD a 0) + Fn 4 (l0.getD a 0)) (cn 44) (F11 43) i11)) → va_P D vwCl (wM cI cB cZ g cn In F11) H → va_D A (wM cI cB cZ g cn In F11) → va_S A s.heap H locs → ∀ ls : Array Slot, lv_has ls 7 [(2, .int (nI i11)), (1, .int (nI (2 ^ cn 44 - 1))), (0, .ref (g 100))] → W p l e (RM 2 0 0) s m ([.ref (g 100)]).toArray below meth c H locs 0 0 (MQ below (va_Qv (fun (u : (Nat → Nat) × (Nat → Int32) × (Nat → Nat → Int32)) => (fun c2 I2 F2 => Fr [] [] [43] cn In Fn c2 I2 F2 ∧ IM c2 F2 ∧ (TBL (fun a b => apM (Fn 3 (l0.getD a 0)) (Fn 4 (l0.getD a 0)) (Fn 3 (l0.getD b 0)) (Fn 4 (l0.getD b 0))) (fun a => Fn 3 (l0.getD a 0) + Fn 4 (l0.getD a 0)) (cn 44) (F2 43) (2 ^ cn 44))) u.1 u.2.1 u.2.2) (fun (u : (Nat → Nat) × (Nat → Int32) × (Nat → Nat → Int32)) (t : State) => va_P D vwCl (wM cI cB cZ g u.1 u.2.1 u.2.2) t.heap ∧ va_D A (wM cI cB cZ g u.1 u.2.1 u.2.2)) A) ([.ref (g 100)]).toArray s 0 0 A) (F0 m 11 ls []) := by
    intro n11
    induction n11 with
    | zero => intros; (first | omega | (have zz0 := Hid.u hi_cn; omega))
    | succ n11 ih11 =>
      intro i11 F11 H locs hmu11 hinv11 hP hD hS ls hl
      obtain ⟨hr11, hfr11, hI11, hx11_0, hx11_1⟩ := hinv11
      have ti11 : (nI i11).toInt = (i11 : Int) := nI_toInt (by (first | omega | (have zz0 := Hid.u hi_cn; omega)))
      have hi_cn : Hid (CB cn) := hI11.b
      have h42_11 : RWF (F11 42) nI l0 := by rw [hfr11.2.2 42 (nml rfl)]; exact h42
      have e3_11 : F11 3 = Fn 3 := hfr11.2.2 3 (nml rfl)
      have e4_11 : F11 4 = Fn 4 := hfr11.2.2 4 (nml rfl)
      refine lv_iload_n hx hb (oc_28 11 (aq_11 shX12_goes_0)) rfl (lvA0 hl) ?_
      refine lv_iload_n hx hb (oc_27 12 (aq_12 shX12_goes_0)) rfl (lvA1 hl) ?_
      have : (nI (2 ^ cn 44 - 1)).toInt = (((2 ^ cn 44 - 1) : Nat) : Int) := nI_toInt (by (first | omega | (have zz0 := Hid.u hi_cn; omega)))
      refine lv_icmp_gt (tgt := 158) hx hb (oc_163 13 (aq_13 shX12_goes_0) sgw_0_145) rfl (fun c_3 => ?_) (fun c_3 => ?_)
      ·
        have tc_3 : ((nI (2 ^ cn 44 - 1)).toInt : Int) < (nI i11).toInt := Int32.lt_iff_toInt_lt.mp c_3
        exact W.vret hx hb hr (fun t ht hW => ⟨⟨(cn, In, F11), rfl, ⟨(Fr.mo hfr11 (sbl rfl) (sbl rfl) (sbl rfl)), hI11, (by show TBL (fun a b => apM (Fn 3 (l0.getD a 0)) (Fn 4 (l0.getD a 0)) (Fn 3 (l0.getD b 0)) (Fn 4 (l0.getD b 0))) (fun a => Fn 3 (l0.getD a 0) + Fn 4 (l0.getD a 0)) (cn 44) (F11 43) (2 ^ cn 44); have e9 : i11 = 2 ^ cn 44 := (by (first | omega | (have zz0 := Hid.u hi_cn; omega))); rw [← e9]; exact hx11_1)⟩, by rw [ht]; exact hP, hD⟩, hS.F ht⟩) hS.2.2 (oc_177 158 (aq_9 shX12_goes_149))
      ·
        have tc_3 : ((nI i11).toInt : Int) ≤ (nI (2 ^ cn 44 - 1)).toInt := Int32.le_iff_toInt_le.mp (Int32.not_lt.mp c_3)
        refine lv_iconst (v := 0) hx hb (oc_3 16 (aq_16 shX12_goes_0)) kic_0 ?_
        refine lv_istore_n (lv' := [(3, .int 0), (2, .int (nI i11)), (1, .int (nI (2 ^ cn 44 - 1))), (0, .ref (g 100))]) hx hb (oc_62 17 (aq_17 shX12_goes_0)) rfl hl (ltb rfl) rfl (fun ls hl => ?_)
        have lp_18 : ∀ (n : Nat) (i18 : Nat) (F18 : Nat → Nat → Int32) (H : Heap) (locs : List Loc) , cn 44 - i18 < n → (i18 ≤ cn 44 ∧ Fr [] [] [43] cn In Fn cn In F18 ∧ IM cn F18 ∧ (AK cn F18) ∧ (TBL (fun a b => apM (Fn 3 (l0.getD a 0)) (Fn 4 (l0.getD a 0)) (Fn 3 (l0.getD b 0)) (Fn 4 (l0.getD b 0))) (fun a => Fn 3 (l0.getD a 0) + Fn 4 (l0.getD a 0)) (cn 44) (F18 43) i11) ∧ (∀ a : Nat, a < i18 → TBR (fun a b => apM (Fn 3 (l0.getD a 0)) (Fn 4 (l0.getD a 0)) (Fn 3 (l0.getD b 0)) (Fn 4 (l0.getD b 0))) (fun a => Fn 3 (l0.getD a 0) + Fn 4 (l0.getD a 0)) (cn 44) (F18 43) i11 a)) → va_P D vwCl (wM cI cB cZ g cn In F18) H → va_D A (wM cI cB cZ g cn In F18) → va_S A s.heap H locs → ∀ ls : Array Slot, lv_has ls 7 [(3, .int (nI i18)), (2, .int (nI i11)), (1, .int (nI (2 ^ cn 44 - 1))), (0, .ref (g 100))] → W p l e (RM 2 0 0) s m ([.ref (g 100)]).toArray below meth c H locs 0 0 (MQ below (va_Qv (fun (u : (Nat → Nat) × (Nat → Int32) × (Nat → Nat → Int32)) => (fun c2 I2 F2 => Fr [] [] [43] cn In Fn c2 I2 F2 ∧ IM c2 F2 ∧ (TBL (fun a b => apM (Fn 3 (l0.getD a 0)) (Fn 4 (l0.getD a 0)) (Fn 3 (l0.getD b 0)) (Fn 4 (l0.getD b 0))) (fun a => Fn 3 (l0.getD a 0) + Fn 4 (l0.getD a 0)) (cn 44) (F2 43) (2 ^ cn 44))) u.1 u.2.1 u.2.2) (fun (u : (Nat → Nat) × (Nat → Int32) × (Nat → Nat → Int32)) (t : State) => va_P D vwCl (wM cI cB cZ g u.1 u.2.1 u.2.2) t.heap ∧ va_D A (wM cI cB cZ g u.1 u.2.1 u.2.2)) A) ([.ref (g 100)]).toArray s 0 0 A) (F0 m 18 ls []) := by
          intro n18
          induction n18 with
          | zero => intros; (first | omega | (have zz0 := Hid.u hi_cn; omega))
          | succ n18 ih18 =>
            intro i18 F18 H locs hmu18 hinv18 hP hD hS ls hl
            obtain ⟨hr18, hfr18, hI18, hx18_0, hx18_1, hx18_2⟩ := hinv18
            have ti18 : (nI i18).toInt = (i18 : Int) := nI_toInt (by (first | omega | (have zz0 := Hid.u hi_cn; omega)))
            have hi_cn : Hid (CB cn) := hI18.b
            have h42_18 : RWF (F18 42) nI l0 := by rw [hfr18.2.2 42 (nml rfl)]; exact h42
            have e3_18 : F18 3 = Fn 3 := hfr18.2.2 3 (nml rfl)
            have e4_18 : F18 4 = Fn 4 := hfr18.2.2 4 (nml rfl)
            refine lv_iload_n hx hb (oc_29 18 (aq_18 shX12_goes_0)) rfl (lvA0 hl) ?_
            refine lv_aload_n hx hb (oc_42 19 (aq_19 shX12_goes_0)) rfl (lvA3 hl) ?_
            refine gM_364 S hK hP (v := .int (nI (cn 44))) rfl (oc_180 20 (aq_20 shX12_goes_0) uw_1_108) ?_
            have : (nI (cn 44)).toInt = (((cn 44) : Nat) : Int) := nI_toInt (by (first | omega | (have zz0 := Hid.u hi_cn; omega)))
            refine lv_icmp_ge (tgt := 152) hx hb (oc_162 23 (aq_23 shX12_goes_0) sgw_0_129) rfl (fun c_4 => ?_) (fun c_4 => ?_)
            ·
              have tc_4 : ((nI (cn 44)).toInt : Int) ≤ (nI i18).toInt := Int32.le_iff_toInt_le.mp c_4
              refine lv_iinc (v := (nI (i11 + 1))) (lv' := [(2, .int (nI (i11 + 1))), (3, .int (nI i18)), (1, .int (nI (2 ^ cn 44 - 1))), (0, .ref (g 100))]) hx hb (oc_132 152 (aq_3 shX12_goes_149) ub_2 sgb_1) hl (k := 1) rfl (nI_1 _) (ltb rfl) rfl (fun ls hl => ?_)
              refine lv_goto (tgt := 11) hx hb (oc_167 155 (aq_6 shX12_goes_149) sgw_255_112) rfl ?_
              exact ih11 (i11 + 1) F18 _ _ (by (first | omega | (have zz0 := Hid.u hi_cn; omega))) ⟨(by (first | omega | (have zz0 := Hid.u hi_cn; omega))), (Fr.mo hfr18 (sbl rfl) (sbl rfl) (sbl rfl)), hI18, hx18_0, (TBL.sc hx18_1 (fun a ha ta => hx18_2 a (by (first | omega | (have zz0 := Hid.u hi_cn; omega)))))⟩ hP hD hS ls (lv_sub hl [0, 2, 3] rfl)
            ·
              have tc_4 : ((nI i18).toInt : Int) < (nI (cn 44)).toInt := Int32.lt_iff_toInt_lt.mp (Int32.not_le.mp c_4)
              refine lv_iload_n hx hb (oc_28 26 shX12_goes_26) rfl (lvA1 hl) ?_
              refine lv_if_ne (tgt := 43) hx hb (oc_154 27 (aq_1 shX12_goes_26) sgw_0_16) rfl (fun c_5 => ?_) (fun c_5 => ?_)
              ·
                have tc_5 : ((nI i11).toInt : Int) ≠ 0 := fun q => c_5 (Int32.toInt_inj.mp q)
                refine lv_ldcw (v := 1000000) hx hb hown (S.2.2.2.2 _ (wk8_10 9 rfl rfl)) (oc_19 43 (aq_17 shX12_goes_26) uw_1_114) ?_
                refine lv_istore (lv' := [(4, .int 1000000), (3, .int (nI i18)), (2, .int (nI i11)), (1, .int (nI (2 ^ cn 44 - 1))), (0, .ref (g 100))]) hx hb dX12_goes_46 hl (ltb rfl) rfl (fun ls hl => ?_)
                refine lv_iconst (v := 0) hx hb dX12_goes_48 kic_0 ?_
                refine lv_istore (lv' := [(5, .int 0), (4, .int 1000000), (3, .int (nI i18)), (2, .int (nI i11)), (1, .int (nI (2 ^ cn 44 - 1))), (0, .ref (g 100))]) hx hb dX12_goes_49 hl (ltb rfl) rfl (fun ls hl => ?_)
                have lp_51 : ∀ (n : Nat) (i51 : Nat) (x51_4 : Int32) , cn 44 - i51 < n → (i51 ≤ cn 44 ∧ ((i11 = 0 ∧ x51_4 = (F18 3 (l0.getD i18 0) + F18 4 (l0.getD i18 0))) ∨ (¬ i11 = 0 ∧ PMN 1000000 i11 i51 (fun b => apM (F18 3 (l0.getD i18 0)) (F18 4 (l0.getD i18 0)) (F18 3 (l0.getD b 0)) (F18 4 (l0.getD b 0)) + F18 43 (8 * clr i11 b + b)) x51_4))) → ∀ ls : Array Slot, lv_has ls 7 [(5, .int (nI i51)), (4, .int x51_4), (3, .int (nI i18)), (2, .int (nI i11)), (1, .int (nI (2 ^ cn 44 - 1))), (0, .ref (g 100))] → W p l e (RM 2 0 0) s m ([.ref (g 100)]).toArray below meth c H locs 0 0 (MQ below (va_Qv (fun (u : (Nat → Nat) × (Nat → Int32) × (Nat → Nat → Int32)) => (fun c2 I2 F2 => Fr [] [] [43] cn In Fn c2 I2 F2 ∧ IM c2 F2 ∧ (TBL (fun a b => apM (Fn 3 (l0.getD a 0)) (Fn 4 (l0.getD a 0)) (Fn 3 (l0.getD b 0)) (Fn 4 (l0.getD b 0))) (fun a => Fn 3 (l0.getD a 0) + Fn 4 (l0.getD a 0)) (cn 44) (F2 43) (2 ^ cn 44))) u.1 u.2.1 u.2.2) (fun (u : (Nat → Nat) × (Nat → Int32) × (Nat → Nat → Int32)) (t : State) => va_P D vwCl (wM cI cB cZ g u.1 u.2.1 u.2.2) t.heap ∧ va_D A (wM cI cB cZ g u.1 u.2.1 u.2.2)) A) ([.ref (g 100)]).toArray s 0 0 A) (F0 m 51 ls []) := by
                  intro n51
                  induction n51 with
                  | zero => intros; (first | omega | (have zz0 := Hid.u hi_cn; omega))
                  | succ n51 ih51 =>
                    intro i51 x51_4 hmu51 hinv51 ls hl
                    obtain ⟨hr51, hx51_0⟩ := hinv51
                    have ti51 : (nI i51).toInt = (i51 : Int) := nI_toInt (by (first | omega | (have zz0 := Hid.u hi_cn; omega)))
                    have hb51 : ∀ b : Nat, b < cn 44 → i11.testBit b = true → 0 ≤ (apM (F18 3 (l0.getD i18 0)) (F18 4 (l0.getD i18 0)) (F18 3 (l0.getD b 0)) (F18 4 (l0.getD b 0)) + F18 43 (8 * clr i11 b + b)).toInt ∧ (apM (F18 3 (l0.getD i18 0)) (F18 4 (l0.getD i18 0)) (F18 3 (l0.getD b 0)) (F18 4 (l0.getD b 0)) + F18 43 (8 * clr i11 b + b)).toInt < 1000000 := fun b hb tb => by show 0 ≤ (apM (F18 3 (l0.getD i18 0)) (F18 4 (l0.getD i18 0)) (F18 3 (l0.getD b 0)) (F18 4 (l0.getD b 0)) + F18 43 (8 * clr i11 b + b)).toInt ∧ (apM (F18 3 (l0.getD i18 0)) (F18 4 (l0.getD i18 0)) (F18 3 (l0.getD b 0)) (F18 4 (l0.getD b 0)) + F18 43 (8 * clr i11 b + b)).toInt < 1000000; rw [e3_18, e4_18]; exact TBL.g (by (first | omega | (have zz0 := Hid.u hi_cn; omega))) h44 hw9 hd9 hx18_1 (hw9 i18 b (by (first | omega | (have zz0 := Hid.u hi_cn; omega))) hb) hb tb
                    refine lv_iload hx hb dX12_goes_51 (lvA0 hl) ?_
                    refine lv_aload_n hx hb dX12_goes_53 rfl (lvA5 hl) ?_
                    refine gM_364 S hK hP (v := .int (nI (cn 44))) rfl dX12_goes_54 ?_
                    refine lv_icmp_ge (tgt := 133) hx hb dX12_goes_57 rfl (fun c_6 => ?_) (fun c_6 => ?_)
                    ·
                      have tc_6 : ((nI (cn 44)).toInt : Int) ≤ (nI i51).toInt := Int32.le_iff_toInt_le.mp c_6
                      refine lv_aload_n hx hb dX12_goes_133 rfl (lvA5 hl) ?_
                      refine gM_104 S hK hP (v := .ref (g 43)) rfl dX12_goes_134 ?_
                      refine lv_bipush (v := 8) hx hb dX12_goes_137 kbc_8 ?_
                      refine lv_iload_n hx hb dX12_goes_139 rfl (lvA3 hl) ?_
                      refine lv_imul hx hb dX12_goes_140 ?_
                      refine lv_topi (fun y_7 ey_7 => ?_)
                      obtain rfl : y_7 = (nI (8 * i11)) := ey_7.trans (pk_mul 8 i11)
                      refine lv_iload_n hx hb dX12_goes_141 rfl (lvA2 hl) ?_
                      refine lv_iadd hx hb dX12_goes_142 ?_
                      refine lv_topi (fun y_8 ey_8 => ?_)
                      obtain rfl : y_8 = (nI ((8 * i11) + i18)) := ey_8.trans (nI_add (8 * i11) i18)
                      refine lv_iload hx hb dX12_goes_143 (lvA1 hl) ?_
                      have kb_1 : ((8 * i11) + i18) < 2048 := by (first | omega | (have zz0 := Hid.u hi_cn; omega))
                      refine stM_43 hx hb hK hP hD hS (Fn2 := (va_up F18 43 (upd (F18 43) ((8 * i11) + i18) x51_4))) (vp_in_nI kb_1 (ltb rfl)) (nI_clamp (Nat.lt_trans kb_1 (ltb rfl))) rfl dX12_goes_145 (fun H locs hP hD hS => ?_)
                      refine lv_iinc (v := (nI (i18 + 1))) (lv' := [(3, .int (nI (i18 + 1))), (5, .int (nI i51)), (4, .int x51_4), (2, .int (nI i11)), (1, .int (nI (2 ^ cn 44 - 1))), (0, .ref (g 100))]) hx hb dX12_goes_146 hl (k := 2) rfl (nI_1 _) (ltb rfl) rfl (fun ls hl => ?_)
                      refine lv_goto (tgt := 18) hx hb dX12_goes_149 rfl ?_
                      exact ih18 (i18 + 1) (va_up F18 43 (upd (F18 43) ((8 * i11) + i18) x51_4)) _ _ (by (first | omega | (have zz0 := Hid.u hi_cn; omega))) ⟨(by (first | omega | (have zz0 := Hid.u hi_cn; omega))), (Fr.mo (Fr.f 43 hfr18) (sbl rfl) (sbl rfl) (sbl rfl)), (IM.fr (In := In) hI18 (Fr.f 43 Fr.rf) (by decide) (by decide)), (AK.fr (In := In) hx18_0 (Fr.f 43 Fr.rf) (by decide) (by decide)), (by show TBL (fun a b => apM (Fn 3 (l0.getD a 0)) (Fn 4 (l0.getD a 0)) (Fn 3 (l0.getD b 0)) (Fn 4 (l0.getD b 0))) (fun a => Fn 3 (l0.getD a 0) + Fn 4 (l0.getD a 0)) (cn 44) (upd (F18 43) (8 * i11 + i18) x51_4) i11; exact TBL.put h44 hx18_1), (by intro a ha; show TBR (fun a b => apM (Fn 3 (l0.getD a 0)) (Fn 4 (l0.getD a 0)) (Fn 3 (l0.getD b 0)) (Fn 4 (l0.getD b 0))) (fun a => Fn 3 (l0.getD a 0) + Fn 4 (l0.getD a 0)) (cn 44) (upd (F18 43) (8 * i11 + i18) x51_4) i11 a; exact (if q9 : a = i18 then (by rw [q9]; exact (TBR.put h44 (by (first | omega | (have zz0 := Hid.u hi_cn; omega))) (by have e9 : i51 = cn 44 := (by (first | omega | (have zz0 := Hid.u hi_cn; omega))); rw [e9, e3_18, e4_18] at hx51_0; exact hx51_0.elim (fun w => Or.inl ⟨fun b _ => by rw [w.1]; exact Nat.zero_testBit b, w.2⟩) (fun w => Or.inr (PMN.f3 w.1 (by (first | omega | (have zz0 := Hid.u hi_cn; omega))) w.2))))) else TBR.oth h44 (hx18_2 a (by (first | omega | (have zz0 := Hid.u hi_cn; omega)))) q9))⟩ hP hD hS ls (lv_sub hl [0, 3, 4, 5] rfl)
                    ·
                      have tc_6 : ((nI i51).toInt : Int) < (nI (cn 44)).toInt := Int32.lt_iff_toInt_lt.mp (Int32.not_le.mp c_6)
                      refine lv_iload_n hx hb dX12_goes_60 rfl (lvA3 hl) ?_
                      refine lv_iload hx hb dX12_goes_61 (lvA0 hl) ?_
                      refine lv_ishr hx hb dX12_goes_63 ?_
                      refine lv_iconst (v := 1) hx hb dX12_goes_64 kic_1 ?_
                      refine lv_iand hx hb dX12_goes_65 ?_
                      refine lv_topi (fun y_9 ey_9 => ?_)
                      rcases bitc (l := i11) (b := i51) (by (first | omega | (have zz0 := Hid.u hi_cn; omega))) (by (first | omega | (have zz0 := Hid.u hi_cn; omega))) with ⟨hb_y_9, qy_9⟩ | ⟨hb_y_9, qy_9⟩
                      ·
                        obtain rfl : y_9 = 0 := ey_9.trans qy_9
                        refine lv_if_ne (tgt := 72) hx hb dX12_goes_66 rfl (fun h => absurd h cq_eq_0_0) (fun _ => ?_)
                        refine lv_goto (tgt := 127) hx hb dX12_goes_69 rfl ?_
                        refine lv_iinc (v := (nI (i51 + 1))) (lv' := [(5, .int (nI (i51 + 1))), (4, .int x51_4), (3, .int (nI i18)), (2, .int (nI i11)), (1, .int (nI (2 ^ cn 44 - 1))), (0, .ref (g 100))]) hx hb dX12_goes_127 hl (k := 0) rfl (nI_1 _) (ltb rfl) rfl (fun ls hl => ?_)
                        refine lv_goto (tgt := 51) hx hb dX12_goes_130 rfl ?_
                        exact ih51 (i51 + 1) x51_4 (by (first | omega | (have zz0 := Hid.u hi_cn; omega))) ⟨(by (first | omega | (have zz0 := Hid.u hi_cn; omega))), (hx51_0.elim Or.inl (fun w => Or.inr ⟨w.1, PMN.no w.2 (by assumption)⟩))⟩ ls (lv_sub hl [0, 1, 2, 3, 4, 5] rfl)
                      ·
                        obtain rfl : y_9 = 1 := ey_9.trans qy_9
                        refine lv_if_ne (tgt := 72) hx hb dX12_goes_66 rfl (fun _ => ?_) (fun h => absurd h cq_eq_1_0)
                        refine lv_aload_n hx hb dX12_goes_72 rfl (lvA5 hl) ?_
                        refine lv_aload_n hx hb dX12_goes_73 rfl (lvA5 hl) ?_
                        refine gM_101 S hK hP (v := .ref (g 42)) rfl dX12_goes_74 ?_
                        refine lv_iload_n hx hb dX12_goes_77 rfl (lvA2 hl) ?_
                        have kb_2 : i18 < 10 := by (first | omega | (have zz0 := Hid.u hi_cn; omega))
                        obtain ⟨a_10, ha_10, ea_10⟩ := hx18_0 i18 (by (first | omega | (have zz0 := Hid.u hi_cn; omega)))
                        refine ldM_42 hx hb hK hP (x := (nI a_10)) (vp_in_nI kb_2 (ltb rfl)) (nI_clamp (Nat.lt_trans kb_2 (ltb rfl))) ea_10 dX12_goes_78 ?_
                        obtain rfl : a_10 = l0.getD i18 0 := nIw_inj (by (first | omega | (have zz0 := Hid.u hi_cn; omega))) (by have := hk0 i18 (by (first | omega | (have zz0 := Hid.u hi_cn; omega))); (first | omega | (have zz0 := Hid.u hi_cn; omega))) (ea_10.symm.trans (h42_18.at (by (first | omega | (have zz0 := Hid.u hi_cn; omega)))))
                        have := hk0 i18 (by (first | omega | (have zz0 := Hid.u hi_cn; omega)))
                        refine lv_aload_n hx hb dX12_goes_79 rfl (lvA5 hl) ?_
                        refine gM_101 S hK hP (v := .ref (g 42)) rfl dX12_goes_80 ?_
                        refine lv_iload hx hb dX12_goes_83 (lvA0 hl) ?_
                        have kb_3 : i51 < 10 := by (first | omega | (have zz0 := Hid.u hi_cn; omega))
                        obtain ⟨a_11, ha_11, ea_11⟩ := hx18_0 i51 (by (first | omega | (have zz0 := Hid.u hi_cn; omega)))
                        refine ldM_42 hx hb hK hP (x := (nI a_11)) (vp_in_nI kb_3 (ltb rfl)) (nI_clamp (Nat.lt_trans kb_3 (ltb rfl))) ea_11 dX12_goes_85 ?_
                        obtain rfl : a_11 = l0.getD i51 0 := nIw_inj (by (first | omega | (have zz0 := Hid.u hi_cn; omega))) (by have := hk0 i51 (by (first | omega | (have zz0 := Hid.u hi_cn; omega))); (first | omega | (have zz0 := Hid.u hi_cn; omega))) (ea_11.symm.trans (h42_18.at (by (first | omega | (have zz0 := Hid.u hi_cn; omega)))))
                        have := hk0 i51 (by (first | omega | (have zz0 := Hid.u hi_cn; omega)))
                        refine vp_callSi (runV_ra (As := [.int (nI (l0.getD i18 0)), .int (nI (l0.getD i51 0))]) (rest := []) S (q_way l D cI cB cZ g cn In F18 (l0.getD i18 0) (l0.getD i51 0) hI18 (by (first | omega | (have zz0 := Hid.u hi_cn; omega))) (by (first | omega | (have zz0 := Hid.u hi_cn; omega)))) kV_RX12_371 hK hP 0 rfl rfl rfl ⟨Nat.le_of_ble_eq_true rfl, Nat.le_of_ble_eq_true rfl⟩ ⟨Nat.le_of_ble_eq_true rfl, Nat.le_of_ble_eq_true rfl⟩ rfl hl.1 rfl (Nat.le_of_ble_eq_true rfl) dX12_goes_86) (fun r_12 h_13 => ?_)
                        subst h_13
                        refine lv_aload_n hx hb dX12_goes_89 rfl (lvA5 hl) ?_
                        refine gM_104 S hK hP (v := .ref (g 43)) rfl dX12_goes_90 ?_
                        refine lv_bipush (v := 8) hx hb dX12_goes_93 kbc_8 ?_
                        refine lv_iload_n hx hb dX12_goes_95 rfl (lvA3 hl) ?_
                        refine lv_iconst (v := 1) hx hb dX12_goes_96 kic_1 ?_
                        refine lv_iload hx hb dX12_goes_97 (lvA0 hl) ?_
                        refine lv_ishl hx hb dX12_goes_99 ?_
                        refine lv_iconst (v := (-1)) hx hb dX12_goes_100 kic_m1 ?_
                        refine lv_ixor hx hb dX12_goes_101 ?_
                        refine lv_iand hx hb dX12_goes_102 ?_
                        refine lv_topi (fun y_14 ey_14 => ?_)
                        obtain rfl : y_14 = (nI (clr i11 i51)) := ey_14.trans (clrI (by (first | omega | (have zz0 := Hid.u hi_cn; omega))) (by (first | omega | (have zz0 := Hid.u hi_cn; omega))))
                        have hcl := clr_le (l := i11) (a := i51)
                        refine lv_imul hx hb dX12_goes_103 ?_
                        refine lv_topi (fun y_15 ey_15 => ?_)
                        obtain rfl : y_15 = (nI (8 * (clr i11 i51))) := ey_15.trans (pk_mul 8 (clr i11 i51))
                        refine lv_iload hx hb dX12_goes_104 (lvA0 hl) ?_
                        refine lv_iadd hx hb dX12_goes_106 ?_
                        refine lv_topi (fun y_16 ey_16 => ?_)
                        obtain rfl : y_16 = (nI ((8 * (clr i11 i51)) + i51)) := ey_16.trans (nI_add (8 * (clr i11 i51)) i51)
                        have kb_4 : ((8 * (clr i11 i51)) + i51) < 2048 := by (first | omega | (have zz0 := Hid.u hi_cn; omega))
                        refine ldM_43 hx hb hK hP (x := ((F18 43) ((8 * (clr i11 i51)) + i51))) (vp_in_nI kb_4 (ltb rfl)) (nI_clamp (Nat.lt_trans kb_4 (ltb rfl))) rfl dX12_goes_107 ?_
                        refine lv_iadd hx hb dX12_goes_108 ?_
                        refine lv_istore (lv' := [(6, .int ((apM ((F18 3) (l0.getD i18 0)) ((F18 4) (l0.getD i18 0)) ((F18 3) (l0.getD i51 0)) ((F18 4) (l0.getD i51 0))) + ((F18 43) ((8 * (clr i11 i51)) + i51)))), (5, .int (nI i51)), (4, .int x51_4), (3, .int (nI i18)), (2, .int (nI i11)), (1, .int (nI (2 ^ cn 44 - 1))), (0, .ref (g 100))]) hx hb dX12_goes_109 hl (ltb rfl) rfl (fun ls hl => ?_)
                        refine lv_iload hx hb dX12_goes_111 (lvA0 hl) ?_
                        refine lv_iload hx hb dX12_goes_113 (lvA2 hl) ?_
                        refine lv_icmp_ge (tgt := 123) hx hb dX12_goes_115 rfl (fun c_17 => ?_) (fun c_17 => ?_)
                        ·
                          have tc_17 : (x51_4.toInt : Int) ≤ ((apM ((F18 3) (l0.getD i18 0)) ((F18 4) (l0.getD i18 0)) ((F18 3) (l0.getD i51 0)) ((F18 4) (l0.getD i51 0))) + ((F18 43) ((8 * (clr i11 i51)) + i51))).toInt := Int32.le_iff_toInt_le.mp c_17
                          refine lv_iload hx hb dX12_goes_123 (lvA2 hl) ?_
                          refine lv_istore (lv' := [(4, .int x51_4), (6, .int ((apM ((F18 3) (l0.getD i18 0)) ((F18 4) (l0.getD i18 0)) ((F18 3) (l0.getD i51 0)) ((F18 4) (l0.getD i51 0))) + ((F18 43) ((8 * (clr i11 i51)) + i51)))), (5, .int (nI i51)), (3, .int (nI i18)), (2, .int (nI i11)), (1, .int (nI (2 ^ cn 44 - 1))), (0, .ref (g 100))]) hx hb dX12_goes_125 hl (ltb rfl) rfl (fun ls hl => ?_)
                          refine lv_iinc (v := (nI (i51 + 1))) (lv' := [(5, .int (nI (i51 + 1))), (4, .int x51_4), (6, .int ((apM ((F18 3) (l0.getD i18 0)) ((F18 4) (l0.getD i18 0)) ((F18 3) (l0.getD i51 0)) ((F18 4) (l0.getD i51 0))) + ((F18 43) ((8 * (clr i11 i51)) + i51)))), (3, .int (nI i18)), (2, .int (nI i11)), (1, .int (nI (2 ^ cn 44 - 1))), (0, .ref (g 100))]) hx hb dX12_goes_127 hl (k := 2) rfl (nI_1 _) (ltb rfl) rfl (fun ls hl => ?_)
                          refine lv_goto (tgt := 51) hx hb dX12_goes_130 rfl ?_
                          exact ih51 (i51 + 1) x51_4 (by (first | omega | (have zz0 := Hid.u hi_cn; omega))) ⟨(by (first | omega | (have zz0 := Hid.u hi_cn; omega))), (hx51_0.elim (fun w => absurd (show i11.testBit i51 = true by assumption) (by rw [w.1, Nat.zero_testBit]; decide)) (fun w => Or.inr ⟨w.1, PMN.ge w.2 (by (first | omega | (have zz0 := Hid.u hi_cn; omega))) (Or.inr (Or.inr (hb51 i51 (by (first | omega | (have zz0 := Hid.u hi_cn; omega))) (by assumption)).2))⟩))⟩ ls (lv_sub hl [0, 1, 3, 4, 5, 6] rfl)
                        ·
                          have tc_17 : (((apM ((F18 3) (l0.getD i18 0)) ((F18 4) (l0.getD i18 0)) ((F18 3) (l0.getD i51 0)) ((F18 4) (l0.getD i51 0))) + ((F18 43) ((8 * (clr i11 i51)) + i51))).toInt : Int) < x51_4.toInt := Int32.lt_iff_toInt_lt.mp (Int32.not_le.mp c_17)
                          refine lv_iload hx hb dX12_goes_118 (lvA0 hl) ?_
                          refine lv_goto (tgt := 125) hx hb dX12_goes_120 rfl ?_
                          refine lv_istore (lv' := [(4, .int ((apM ((F18 3) (l0.getD i18 0)) ((F18 4) (l0.getD i18 0)) ((F18 3) (l0.getD i51 0)) ((F18 4) (l0.getD i51 0))) + ((F18 43) ((8 * (clr i11 i51)) + i51)))), (6, .int ((apM ((F18 3) (l0.getD i18 0)) ((F18 4) (l0.getD i18 0)) ((F18 3) (l0.getD i51 0)) ((F18 4) (l0.getD i51 0))) + ((F18 43) ((8 * (clr i11 i51)) + i51)))), (5, .int (nI i51)), (3, .int (nI i18)), (2, .int (nI i11)), (1, .int (nI (2 ^ cn 44 - 1))), (0, .ref (g 100))]) hx hb dX12_goes_125 hl (ltb rfl) rfl (fun ls hl => ?_)
                          refine lv_iinc (v := (nI (i51 + 1))) (lv' := [(5, .int (nI (i51 + 1))), (4, .int ((apM ((F18 3) (l0.getD i18 0)) ((F18 4) (l0.getD i18 0)) ((F18 3) (l0.getD i51 0)) ((F18 4) (l0.getD i51 0))) + ((F18 43) ((8 * (clr i11 i51)) + i51)))), (6, .int ((apM ((F18 3) (l0.getD i18 0)) ((F18 4) (l0.getD i18 0)) ((F18 3) (l0.getD i51 0)) ((F18 4) (l0.getD i51 0))) + ((F18 43) ((8 * (clr i11 i51)) + i51)))), (3, .int (nI i18)), (2, .int (nI i11)), (1, .int (nI (2 ^ cn 44 - 1))), (0, .ref (g 100))]) hx hb dX12_goes_127 hl (k := 2) rfl (nI_1 _) (ltb rfl) rfl (fun ls hl => ?_)
                          refine lv_goto (tgt := 51) hx hb dX12_goes_130 rfl ?_
                          exact ih51 (i51 + 1) ((apM ((F18 3) (l0.getD i18 0)) ((F18 4) (l0.getD i18 0)) ((F18 3) (l0.getD i51 0)) ((F18 4) (l0.getD i51 0))) + ((F18 43) ((8 * (clr i11 i51)) + i51))) (by (first | omega | (have zz0 := Hid.u hi_cn; omega))) ⟨(by (first | omega | (have zz0 := Hid.u hi_cn; omega))), (hx51_0.elim (fun w => absurd (show i11.testBit i51 = true by assumption) (by rw [w.1, Nat.zero_testBit]; decide)) (fun w => Or.inr ⟨w.1, PMN.put w.2 (by assumption) (Or.inr (by (first | omega | (have zz0 := Hid.u hi_cn; omega)))) (fun b h9 t9 w9 => by have q9 := (hb51 b (by (first | omega | (have zz0 := Hid.u hi_cn; omega))) t9).2; have q8 := congrArg Int32.toInt w9; have q7 : (1000000 : Int32).toInt = 1000000 := rfl; (first | omega | (have zz0 := Hid.u hi_cn; omega)))⟩))⟩ ls (lv_sub hl [0, 1, 3, 4, 5, 6] rfl)
                exact lp_51 _ 0 1000000 (Nat.lt_succ_self _) ⟨(by (first | omega | (have zz0 := Hid.u hi_cn; omega))), (by first | exact Or.inl ⟨by (first | omega | (have zz0 := Hid.u hi_cn; omega)), rfl⟩ | exact Or.inr ⟨by (first | omega | (have zz0 := Hid.u hi_cn; omega)), PMN.z⟩)⟩ ls (lv_sub hl [0, 1, 2, 3, 4, 5] rfl)
              ·
                have tc_5 : ((nI i11).toInt : Int) = 0 := congrArg Int32.toInt c_5
                refine lv_aload_n hx hb (oc_42 30 (aq_4 shX12_goes_26)) rfl (lvA3 hl) ?_
                refine lv_aload_n hx hb (oc_42 31 (aq_5 shX12_goes_26)) rfl (lvA3 hl) ?_
                refine gM_101 S hK hP (v := .ref (g 42)) rfl (oc_180 32 (aq_6 shX12_goes_26) uw_0_101) ?_
                refine lv_iload_n hx hb (oc_29 35 (aq_9 shX12_goes_26)) rfl (lvA0 hl) ?_
                have kb_5 : i18 < 10 := by (first | omega | (have zz0 := Hid.u hi_cn; omega))
                obtain ⟨a_18, ha_18, ea_18⟩ := hx18_0 i18 (by (first | omega | (have zz0 := Hid.u hi_cn; omega)))
                refine ldM_42 hx hb hK hP (x := (nI a_18)) (vp_in_nI kb_5 (ltb rfl)) (nI_clamp (Nat.lt_trans kb_5 (ltb rfl))) ea_18 (oc_46 36 (aq_10 shX12_goes_26)) ?_
                obtain rfl : a_18 = l0.getD i18 0 := nIw_inj (by (first | omega | (have zz0 := Hid.u hi_cn; omega))) (by have := hk0 i18 (by (first | omega | (have zz0 := Hid.u hi_cn; omega))); (first | omega | (have zz0 := Hid.u hi_cn; omega))) (ea_18.symm.trans (h42_18.at (by (first | omega | (have zz0 := Hid.u hi_cn; omega)))))
                have := hk0 i18 (by (first | omega | (have zz0 := Hid.u hi_cn; omega)))
                refine vp_callSi (runV_ra (As := [.int (nI (l0.getD i18 0))]) (rest := []) S (q_toDepot l D cI cB cZ g cn In F18 (l0.getD i18 0) hI18 (by (first | omega | (have zz0 := Hid.u hi_cn; omega)))) kV_RX12_367 hK hP 0 rfl rfl rfl ⟨Nat.le_of_ble_eq_true rfl, Nat.le_of_ble_eq_true rfl⟩ ⟨Nat.le_of_ble_eq_true rfl, Nat.le_of_ble_eq_true rfl⟩ rfl hl.1 rfl (Nat.le_of_ble_eq_true rfl) (oc_182 37 (aq_11 shX12_goes_26) uw_1_111)) (fun r_19 h_20 => ?_)
                subst h_20
                refine lv_goto (tgt := 46) hx hb (oc_167 40 (aq_14 shX12_goes_26) sgw_0_6) rfl ?_
                refine lv_istore (lv' := [(4, .int ((F18 3) (l0.getD i18 0) + (F18 4) (l0.getD i18 0))), (3, .int (nI i18)), (2, .int (nI i11)), (1, .int (nI (2 ^ cn 44 - 1))), (0, .ref (g 100))]) hx hb dX12_goes_46 hl (ltb rfl) rfl (fun ls hl => ?_)
                refine lv_iconst (v := 0) hx hb dX12_goes_48 kic_0 ?_
                refine lv_istore (lv' := [(5, .int 0), (4, .int ((F18 3) (l0.getD i18 0) + (F18 4) (l0.getD i18 0))), (3, .int (nI i18)), (2, .int (nI i11)), (1, .int (nI (2 ^ cn 44 - 1))), (0, .ref (g 100))]) hx hb dX12_goes_49 hl (ltb rfl) rfl (fun ls hl => ?_)
                have lp_51 : ∀ (n : Nat) (i51 : Nat) (x51_4 : Int32) , cn 44 - i51 < n → (i51 ≤ cn 44 ∧ ((i11 = 0 ∧ x51_4 = (F18 3 (l0.getD i18 0) + F18 4 (l0.getD i18 0))) ∨ (¬ i11 = 0 ∧ PMN 1000000 i11 i51 (fun b => apM (F18 3 (l0.getD i18 0)) (F18 4 (l0.getD i18 0)) (F18 3 (l0.getD b 0)) (F18 4 (l0.getD b 0)) + F18 43 (8 * clr i11 b + b)) x51_4))) → ∀ ls : Array Slot, lv_has ls 7 [(5, .int (nI i51)), (4, .int x51_4), (3, .int (nI i18)), (2, .int (nI i11)), (1, .int (nI (2 ^ cn 44 - 1))), (0, .ref (g 100))] → W p l e (RM 2 0 0) s m ([.ref (g 100)]).toArray below meth c H locs 0 0 (MQ below (va_Qv (fun (u : (Nat → Nat) × (Nat → Int32) × (Nat → Nat → Int32)) => (fun c2 I2 F2 => Fr [] [] [43] cn In Fn c2 I2 F2 ∧ IM c2 F2 ∧ (TBL (fun a b => apM (Fn 3 (l0.getD a 0)) (Fn 4 (l0.getD a 0)) (Fn 3 (l0.getD b 0)) (Fn 4 (l0.getD b 0))) (fun a => Fn 3 (l0.getD a 0) + Fn 4 (l0.getD a 0)) (cn 44) (F2 43) (2 ^ cn 44))) u.1 u.2.1 u.2.2) (fun (u : (Nat → Nat) × (Nat → Int32) × (Nat → Nat → Int32)) (t : State) => va_P D vwCl (wM cI cB cZ g u.1 u.2.1 u.2.2) t.heap ∧ va_D A (wM cI cB cZ g u.1 u.2.1 u.2.2)) A) ([.ref (g 100)]).toArray s 0 0 A) (F0 m 51 ls []) := by
                  intro n51
                  induction n51 with
                  | zero => intros; (first | omega | (have zz0 := Hid.u hi_cn; omega))
                  | succ n51 ih51 =>
                    intro i51 x51_4 hmu51 hinv51 ls hl
                    obtain ⟨hr51, hx51_0⟩ := hinv51
                    have ti51 : (nI i51).toInt = (i51 : Int) := nI_toInt (by (first | omega | (have zz0 := Hid.u hi_cn; omega)))
                    have hb51 : ∀ b : Nat, b < cn 44 → i11.testBit b = true → 0 ≤ (apM (F18 3 (l0.getD i18 0)) (F18 4 (l0.getD i18 0)) (F18 3 (l0.getD b 0)) (F18 4 (l0.getD b 0)) + F18 43 (8 * clr i11 b + b)).toInt ∧ (apM (F18 3 (l0.getD i18 0)) (F18 4 (l0.getD i18 0)) (F18 3 (l0.getD b 0)) (F18 4 (l0.getD b 0)) + F18 43 (8 * clr i11 b + b)).toInt < 1000000 := fun b hb tb => by show 0 ≤ (apM (F18 3 (l0.getD i18 0)) (F18 4 (l0.getD i18 0)) (F18 3 (l0.getD b 0)) (F18 4 (l0.getD b 0)) + F18 43 (8 * clr i11 b + b)).toInt ∧ (apM (F18 3 (l0.getD i18 0)) (F18 4 (l0.getD i18 0)) (F18 3 (l0.getD b 0)) (F18 4 (l0.getD b 0)) + F18 43 (8 * clr i11 b + b)).toInt < 1000000; rw [e3_18, e4_18]; exact TBL.g (by (first | omega | (have zz0 := Hid.u hi_cn; omega))) h44 hw9 hd9 hx18_1 (hw9 i18 b (by (first | omega | (have zz0 := Hid.u hi_cn; omega))) hb) hb tb
                    refine lv_iload hx hb dX12_goes_51 (lvA0 hl) ?_
                    refine lv_aload_n hx hb dX12_goes_53 rfl (lvA5 hl) ?_
                    refine gM_364 S hK hP (v := .int (nI (cn 44))) rfl dX12_goes_54 ?_
                    refine lv_icmp_ge (tgt := 133) hx hb dX12_goes_57 rfl (fun c_21 => ?_) (fun c_21 => ?_)
                    ·
                      have tc_21 : ((nI (cn 44)).toInt : Int) ≤ (nI i51).toInt := Int32.le_iff_toInt_le.mp c_21
                      refine lv_aload_n hx hb dX12_goes_133 rfl (lvA5 hl) ?_
                      refine gM_104 S hK hP (v := .ref (g 43)) rfl dX12_goes_134 ?_
                      refine lv_bipush (v := 8) hx hb dX12_goes_137 kbc_8 ?_
                      refine lv_iload_n hx hb dX12_goes_139 rfl (lvA3 hl) ?_
                      refine lv_imul hx hb dX12_goes_140 ?_
                      refine lv_topi (fun y_22 ey_22 => ?_)
                      obtain rfl : y_22 = (nI (8 * i11)) := ey_22.trans (pk_mul 8 i11)
                      refine lv_iload_n hx hb dX12_goes_141 rfl (lvA2 hl) ?_
                      refine lv_iadd hx hb dX12_goes_142 ?_
                      refine lv_topi (fun y_23 ey_23 => ?_)
                      obtain rfl : y_23 = (nI ((8 * i11) + i18)) := ey_23.trans (nI_add (8 * i11) i18)
                      refine lv_iload hx hb dX12_goes_143 (lvA1 hl) ?_
                      have kb_6 : ((8 * i11) + i18) < 2048 := by (first | omega | (have zz0 := Hid.u hi_cn; omega))
                      refine stM_43 hx hb hK hP hD hS (Fn2 := (va_up F18 43 (upd (F18 43) ((8 * i11) + i18) x51_4))) (vp_in_nI kb_6 (ltb rfl)) (nI_clamp (Nat.lt_trans kb_6 (ltb rfl))) rfl dX12_goes_145 (fun H locs hP hD hS => ?_)
                      refine lv_iinc (v := (nI (i18 + 1))) (lv' := [(3, .int (nI (i18 + 1))), (5, .int (nI i51)), (4, .int x51_4), (2, .int (nI i11)), (1, .int (nI (2 ^ cn 44 - 1))), (0, .ref (g 100))]) hx hb dX12_goes_146 hl (k := 2) rfl (nI_1 _) (ltb rfl) rfl (fun ls hl => ?_)
                      refine lv_goto (tgt := 18) hx hb dX12_goes_149 rfl ?_
                      exact ih18 (i18 + 1) (va_up F18 43 (upd (F18 43) ((8 * i11) + i18) x51_4)) _ _ (by (first | omega | (have zz0 := Hid.u hi_cn; omega))) ⟨(by (first | omega | (have zz0 := Hid.u hi_cn; omega))), (Fr.mo (Fr.f 43 hfr18) (sbl rfl) (sbl rfl) (sbl rfl)), (IM.fr (In := In) hI18 (Fr.f 43 Fr.rf) (by decide) (by decide)), (AK.fr (In := In) hx18_0 (Fr.f 43 Fr.rf) (by decide) (by decide)), (by show TBL (fun a b => apM (Fn 3 (l0.getD a 0)) (Fn 4 (l0.getD a 0)) (Fn 3 (l0.getD b 0)) (Fn 4 (l0.getD b 0))) (fun a => Fn 3 (l0.getD a 0) + Fn 4 (l0.getD a 0)) (cn 44) (upd (F18 43) (8 * i11 + i18) x51_4) i11; exact TBL.put h44 hx18_1), (by intro a ha; show TBR (fun a b => apM (Fn 3 (l0.getD a 0)) (Fn 4 (l0.getD a 0)) (Fn 3 (l0.getD b 0)) (Fn 4 (l0.getD b 0))) (fun a => Fn 3 (l0.getD a 0) + Fn 4 (l0.getD a 0)) (cn 44) (upd (F18 43) (8 * i11 + i18) x51_4) i11 a; exact (if q9 : a = i18 then (by rw [q9]; exact (TBR.put h44 (by (first | omega | (have zz0 := Hid.u hi_cn; omega))) (by have e9 : i51 = cn 44 := (by (first | omega | (have zz0 := Hid.u hi_cn; omega))); rw [e9, e3_18, e4_18] at hx51_0; exact hx51_0.elim (fun w => Or.inl ⟨fun b _ => by rw [w.1]; exact Nat.zero_testBit b, w.2⟩) (fun w => Or.inr (PMN.f3 w.1 (by (first | omega | (have zz0 := Hid.u hi_cn; omega))) w.2))))) else TBR.oth h44 (hx18_2 a (by (first | omega | (have zz0 := Hid.u hi_cn; omega)))) q9))⟩ hP hD hS ls (lv_sub hl [0, 3, 4, 5] rfl)
                    ·
                      have tc_21 : ((nI i51).toInt : Int) < (nI (cn 44)).toInt := Int32.lt_iff_toInt_lt.mp (Int32.not_le.mp c_21)
                      refine lv_iload_n hx hb dX12_goes_60 rfl (lvA3 hl) ?_
                      refine lv_iload hx hb dX12_goes_61 (lvA0 hl) ?_
                      refine lv_ishr hx hb dX12_goes_63 ?_
                      refine lv_iconst (v := 1) hx hb dX12_goes_64 kic_1 ?_
                      refine lv_iand hx hb dX12_goes_65 ?_
                      refine lv_topi (fun y_24 ey_24 => ?_)
                      rcases bitc (l := i11) (b := i51) (by (first | omega | (have zz0 := Hid.u hi_cn; omega))) (by (first | omega | (have zz0 := Hid.u hi_cn; omega))) with ⟨hb_y_24, qy_24⟩ | ⟨hb_y_24, qy_24⟩
                      ·
                        obtain rfl : y_24 = 0 := ey_24.trans qy_24
                        refine lv_if_ne (tgt := 72) hx hb dX12_goes_66 rfl (fun h => absurd h cq_eq_0_0) (fun _ => ?_)
                        refine lv_goto (tgt := 127) hx hb dX12_goes_69 rfl ?_
                        refine lv_iinc (v := (nI (i51 + 1))) (lv' := [(5, .int (nI (i51 + 1))), (4, .int x51_4), (3, .int (nI i18)), (2, .int (nI i11)), (1, .int (nI (2 ^ cn 44 - 1))), (0, .ref (g 100))]) hx hb dX12_goes_127 hl (k := 0) rfl (nI_1 _) (ltb rfl) rfl (fun ls hl => ?_)
                        refine lv_goto (tgt := 51) hx hb dX12_goes_130 rfl ?_
                        exact ih51 (i51 + 1) x51_4 (by (first | omega | (have zz0 := Hid.u hi_cn; omega))) ⟨(by (first | omega | (have zz0 := Hid.u hi_cn; omega))), (hx51_0.elim Or.inl (fun w => Or.inr ⟨w.1, PMN.no w.2 (by assumption)⟩))⟩ ls (lv_sub hl [0, 1, 2, 3, 4, 5] rfl)
                      ·
                        obtain rfl : y_24 = 1 := ey_24.trans qy_24
                        refine lv_if_ne (tgt := 72) hx hb dX12_goes_66 rfl (fun _ => ?_) (fun h => absurd h cq_eq_1_0)
                        refine lv_aload_n hx hb dX12_goes_72 rfl (lvA5 hl) ?_
                        refine lv_aload_n hx hb dX12_goes_73 rfl (lvA5 hl) ?_
                        refine gM_101 S hK hP (v := .ref (g 42)) rfl dX12_goes_74 ?_
                        refine lv_iload_n hx hb dX12_goes_77 rfl (lvA2 hl) ?_
                        obtain ⟨a_25, ha_25, ea_25⟩ := hx18_0 i18 (by (first | omega | (have zz0 := Hid.u hi_cn; omega)))
                        refine ldM_42 hx hb hK hP (x := (nI a_25)) (vp_in_nI kb_5 (ltb rfl)) (nI_clamp (Nat.lt_trans kb_5 (ltb rfl))) ea_25 dX12_goes_78 ?_
                        obtain rfl : a_25 = l0.getD i18 0 := nIw_inj (by (first | omega | (have zz0 := Hid.u hi_cn; omega))) (by have := hk0 i18 (by (first | omega | (have zz0 := Hid.u hi_cn; omega))); (first | omega | (have zz0 := Hid.u hi_cn; omega))) (ea_25.symm.trans (h42_18.at (by (first | omega | (have zz0 := Hid.u hi_cn; omega)))))
                        have := hk0 i18 (by (first | omega | (have zz0 := Hid.u hi_cn; omega)))
                        refine lv_aload_n hx hb dX12_goes_79 rfl (lvA5 hl) ?_
                        refine gM_101 S hK hP (v := .ref (g 42)) rfl dX12_goes_80 ?_
                        refine lv_iload hx hb dX12_goes_83 (lvA0 hl) ?_
                        have kb_7 : i51 < 10 := by (first | omega | (have zz0 := Hid.u hi_cn; omega))
                        obtain ⟨a_26, ha_26, ea_26⟩ := hx18_0 i51 (by (first | omega | (have zz0 := Hid.u hi_cn; omega)))
                        refine ldM_42 hx hb hK hP (x := (nI a_26)) (vp_in_nI kb_7 (ltb rfl)) (nI_clamp (Nat.lt_trans kb_7 (ltb rfl))) ea_26 dX12_goes_85 ?_
                        obtain rfl : a_26 = l0.getD i51 0 := nIw_inj (by (first | omega | (have zz0 := Hid.u hi_cn; omega))) (by have := hk0 i51 (by (first | omega | (have zz0 := Hid.u hi_cn; omega))); (first | omega | (have zz0 := Hid.u hi_cn; omega))) (ea_26.symm.trans (h42_18.at (by (first | omega | (have zz0 := Hid.u hi_cn; omega)))))
                        have := hk0 i51 (by (first | omega | (have zz0 := Hid.u hi_cn; omega)))
                        refine vp_callSi (runV_ra (As := [.int (nI (l0.getD i18 0)), .int (nI (l0.getD i51 0))]) (rest := []) S (q_way l D cI cB cZ g cn In F18 (l0.getD i18 0) (l0.getD i51 0) hI18 (by (first | omega | (have zz0 := Hid.u hi_cn; omega))) (by (first | omega | (have zz0 := Hid.u hi_cn; omega)))) kV_RX12_371 hK hP 0 rfl rfl rfl ⟨Nat.le_of_ble_eq_true rfl, Nat.le_of_ble_eq_true rfl⟩ ⟨Nat.le_of_ble_eq_true rfl, Nat.le_of_ble_eq_true rfl⟩ rfl hl.1 rfl (Nat.le_of_ble_eq_true rfl) dX12_goes_86) (fun r_27 h_28 => ?_)
                        subst h_28
                        refine lv_aload_n hx hb dX12_goes_89 rfl (lvA5 hl) ?_
                        refine gM_104 S hK hP (v := .ref (g 43)) rfl dX12_goes_90 ?_
                        refine lv_bipush (v := 8) hx hb dX12_goes_93 kbc_8 ?_
                        refine lv_iload_n hx hb dX12_goes_95 rfl (lvA3 hl) ?_
                        refine lv_iconst (v := 1) hx hb dX12_goes_96 kic_1 ?_
                        refine lv_iload hx hb dX12_goes_97 (lvA0 hl) ?_
                        refine lv_ishl hx hb dX12_goes_99 ?_
                        refine lv_iconst (v := (-1)) hx hb dX12_goes_100 kic_m1 ?_
                        refine lv_ixor hx hb dX12_goes_101 ?_
                        refine lv_iand hx hb dX12_goes_102 ?_
                        refine lv_topi (fun y_29 ey_29 => ?_)
                        obtain rfl : y_29 = (nI (clr i11 i51)) := ey_29.trans (clrI (by (first | omega | (have zz0 := Hid.u hi_cn; omega))) (by (first | omega | (have zz0 := Hid.u hi_cn; omega))))
                        have hcl := clr_le (l := i11) (a := i51)
                        refine lv_imul hx hb dX12_goes_103 ?_
                        refine lv_topi (fun y_30 ey_30 => ?_)
                        obtain rfl : y_30 = (nI (8 * (clr i11 i51))) := ey_30.trans (pk_mul 8 (clr i11 i51))
                        refine lv_iload hx hb dX12_goes_104 (lvA0 hl) ?_
                        refine lv_iadd hx hb dX12_goes_106 ?_
                        refine lv_topi (fun y_31 ey_31 => ?_)
                        obtain rfl : y_31 = (nI ((8 * (clr i11 i51)) + i51)) := ey_31.trans (nI_add (8 * (clr i11 i51)) i51)
                        have kb_8 : ((8 * (clr i11 i51)) + i51) < 2048 := by (first | omega | (have zz0 := Hid.u hi_cn; omega))
                        refine ldM_43 hx hb hK hP (x := ((F18 43) ((8 * (clr i11 i51)) + i51))) (vp_in_nI kb_8 (ltb rfl)) (nI_clamp (Nat.lt_trans kb_8 (ltb rfl))) rfl dX12_goes_107 ?_
                        refine lv_iadd hx hb dX12_goes_108 ?_
                        refine lv_istore (lv' := [(6, .int ((apM ((F18 3) (l0.getD i18 0)) ((F18 4) (l0.getD i18 0)) ((F18 3) (l0.getD i51 0)) ((F18 4) (l0.getD i51 0))) + ((F18 43) ((8 * (clr i11 i51)) + i51)))), (5, .int (nI i51)), (4, .int x51_4), (3, .int (nI i18)), (2, .int (nI i11)), (1, .int (nI (2 ^ cn 44 - 1))), (0, .ref (g 100))]) hx hb dX12_goes_109 hl (ltb rfl) rfl (fun ls hl => ?_)
                        refine lv_iload hx hb dX12_goes_111 (lvA0 hl) ?_
                        refine lv_iload hx hb dX12_goes_113 (lvA2 hl) ?_
                        refine lv_icmp_ge (tgt := 123) hx hb dX12_goes_115 rfl (fun c_32 => ?_) (fun c_32 => ?_)
                        ·
                          have tc_32 : (x51_4.toInt : Int) ≤ ((apM ((F18 3) (l0.getD i18 0)) ((F18 4) (l0.getD i18 0)) ((F18 3) (l0.getD i51 0)) ((F18 4) (l0.getD i51 0))) + ((F18 43) ((8 * (clr i11 i51)) + i51))).toInt := Int32.le_iff_toInt_le.mp c_32
                          refine lv_iload hx hb dX12_goes_123 (lvA2 hl) ?_
                          refine lv_istore (lv' := [(4, .int x51_4), (6, .int ((apM ((F18 3) (l0.getD i18 0)) ((F18 4) (l0.getD i18 0)) ((F18 3) (l0.getD i51 0)) ((F18 4) (l0.getD i51 0))) + ((F18 43) ((8 * (clr i11 i51)) + i51)))), (5, .int (nI i51)), (3, .int (nI i18)), (2, .int (nI i11)), (1, .int (nI (2 ^ cn 44 - 1))), (0, .ref (g 100))]) hx hb dX12_goes_125 hl (ltb rfl) rfl (fun ls hl => ?_)
                          refine lv_iinc (v := (nI (i51 + 1))) (lv' := [(5, .int (nI (i51 + 1))), (4, .int x51_4), (6, .int ((apM ((F18 3) (l0.getD i18 0)) ((F18 4) (l0.getD i18 0)) ((F18 3) (l0.getD i51 0)) ((F18 4) (l0.getD i51 0))) + ((F18 43) ((8 * (clr i11 i51)) + i51)))), (3, .int (nI i18)), (2, .int (nI i11)), (1, .int (nI (2 ^ cn 44 - 1))), (0, .ref (g 100))]) hx hb dX12_goes_127 hl (k := 2) rfl (nI_1 _) (ltb rfl) rfl (fun ls hl => ?_)
                          refine lv_goto (tgt := 51) hx hb dX12_goes_130 rfl ?_
                          exact ih51 (i51 + 1) x51_4 (by (first | omega | (have zz0 := Hid.u hi_cn; omega))) ⟨(by (first | omega | (have zz0 := Hid.u hi_cn; omega))), (hx51_0.elim (fun w => absurd (show i11.testBit i51 = true by assumption) (by rw [w.1, Nat.zero_testBit]; decide)) (fun w => Or.inr ⟨w.1, PMN.ge w.2 (by (first | omega | (have zz0 := Hid.u hi_cn; omega))) (Or.inr (Or.inr (hb51 i51 (by (first | omega | (have zz0 := Hid.u hi_cn; omega))) (by assumption)).2))⟩))⟩ ls (lv_sub hl [0, 1, 3, 4, 5, 6] rfl)
                        ·
                          have tc_32 : (((apM ((F18 3) (l0.getD i18 0)) ((F18 4) (l0.getD i18 0)) ((F18 3) (l0.getD i51 0)) ((F18 4) (l0.getD i51 0))) + ((F18 43) ((8 * (clr i11 i51)) + i51))).toInt : Int) < x51_4.toInt := Int32.lt_iff_toInt_lt.mp (Int32.not_le.mp c_32)
                          refine lv_iload hx hb dX12_goes_118 (lvA0 hl) ?_
                          refine lv_goto (tgt := 125) hx hb dX12_goes_120 rfl ?_
                          refine lv_istore (lv' := [(4, .int ((apM ((F18 3) (l0.getD i18 0)) ((F18 4) (l0.getD i18 0)) ((F18 3) (l0.getD i51 0)) ((F18 4) (l0.getD i51 0))) + ((F18 43) ((8 * (clr i11 i51)) + i51)))), (6, .int ((apM ((F18 3) (l0.getD i18 0)) ((F18 4) (l0.getD i18 0)) ((F18 3) (l0.getD i51 0)) ((F18 4) (l0.getD i51 0))) + ((F18 43) ((8 * (clr i11 i51)) + i51)))), (5, .int (nI i51)), (3, .int (nI i18)), (2, .int (nI i11)), (1, .int (nI (2 ^ cn 44 - 1))), (0, .ref (g 100))]) hx hb dX12_goes_125 hl (ltb rfl) rfl (fun ls hl => ?_)
                          refine lv_iinc (v := (nI (i51 + 1))) (lv' := [(5, .int (nI (i51 + 1))), (4, .int ((apM ((F18 3) (l0.getD i18 0)) ((F18 4) (l0.getD i18 0)) ((F18 3) (l0.getD i51 0)) ((F18 4) (l0.getD i51 0))) + ((F18 43) ((8 * (clr i11 i51)) + i51)))), (6, .int ((apM ((F18 3) (l0.getD i18 0)) ((F18 4) (l0.getD i18 0)) ((F18 3) (l0.getD i51 0)) ((F18 4) (l0.getD i51 0))) + ((F18 43) ((8 * (clr i11 i51)) + i51)))), (3, .int (nI i18)), (2, .int (nI i11)), (1, .int (nI (2 ^ cn 44 - 1))), (0, .ref (g 100))]) hx hb dX12_goes_127 hl (k := 2) rfl (nI_1 _) (ltb rfl) rfl (fun ls hl => ?_)
                          refine lv_goto (tgt := 51) hx hb dX12_goes_130 rfl ?_
                          exact ih51 (i51 + 1) ((apM ((F18 3) (l0.getD i18 0)) ((F18 4) (l0.getD i18 0)) ((F18 3) (l0.getD i51 0)) ((F18 4) (l0.getD i51 0))) + ((F18 43) ((8 * (clr i11 i51)) + i51))) (by (first | omega | (have zz0 := Hid.u hi_cn; omega))) ⟨(by (first | omega | (have zz0 := Hid.u hi_cn; omega))), (hx51_0.elim (fun w => absurd (show i11.testBit i51 = true by assumption) (by rw [w.1, Nat.zero_testBit]; decide)) (fun w => Or.inr ⟨w.1, PMN.put w.2 (by assumption) (Or.inr (by (first | omega | (have zz0 := Hid.u hi_cn; omega)))) (fun b h9 t9 w9 => by have q9 := (hb51 b (by (first | omega | (have zz0 := Hid.u hi_cn; omega))) t9).2; have q8 := congrArg Int32.toInt w9; have q7 : (1000000 : Int32).toInt = 1000000 := rfl; (first | omega | (have zz0 := Hid.u hi_cn; omega)))⟩))⟩ ls (lv_sub hl [0, 1, 3, 4, 5, 6] rfl)
                exact lp_51 _ 0 ((F18 3) (l0.getD i18 0) + (F18 4) (l0.getD i18 0)) (Nat.lt_succ_self _) ⟨(by (first | omega | (have zz0 := Hid.u hi_cn; omega))), (by first | exact Or.inl ⟨by (first | omega | (have zz0 := Hid.u hi_cn; omega)), rfl⟩ | exact Or.inr ⟨by (first | omega | (have zz0 := Hid.u hi_cn; omega)), PMN.z⟩)⟩ ls (lv_sub hl [0, 1, 2, 3, 4, 5] rfl)
        exact lp_18 _ 0 F11 _ _ (Nat.lt_succ_self _) ⟨(by (first | omega | (have zz0 := Hid.u hi_cn; omega))), (Fr.mo hfr11 (sbl rfl) (sbl rfl) (sbl rfl)), hI11, hx11_0, hx11_1, (fun a ha => absurd ha (Nat.not_lt_zero a))⟩ hP hD hS ls (lv_sub hl [0, 1, 2, 3] rfl)
  exact lp_11 _ 0 Fn _ _ (Nat.lt_succ_self _) ⟨(by (first | omega | (have zz0 := Hid.u hi_cn; omega))), (Fr.mo Fr.rf (sbl rfl) (sbl rfl) (sbl rfl)), hI, hAK, TBL.z⟩ hP hD hS ls (lv_sub hl [0, 1, 2] rfl)
set_option maxRecDepth 100000 in
set_option maxHeartbeats 4000000 in
theorem q_roundTo9 (l : Launch) (D : va_G) (cI cB cZ : ClassId) (g : Nat → Nat) (cn : Nat → Nat) (In : Nat → Int32) (Fn : Nat → Nat → Int32) (s0 : Nat) (l0 : List Nat) (hI : IM cn Fn) (h44 : cn 44 ≤ 8) (hAK : AK cn Fn) (hl0 : cn 44 = l0.length) (h42 : RWF (Fn 42) nI l0) (hxy : ∀ k : Nat, k < cn 1 → XYB (Fn 3 k) (Fn 4 k)) (hk0 : ∀ a : Nat, a < l0.length → l0.getD a 0 < cn 1) (hs : s0 < 2 ^ cn 44) (htb : TBL (fun a b => apM (Fn 3 (l0.getD a 0)) (Fn 4 (l0.getD a 0)) (Fn 3 (l0.getD b 0)) (Fn 4 (l0.getD b 0))) (fun a => Fn 3 (l0.getD a 0) + Fn 4 (l0.getD a 0)) (cn 44) (Fn 43) (2 ^ cn 44)) : Met l yX12_roundTo (CWS yX12_roundTo cX12_roundTo 5 (some .int)) (RM 1 0 0) (PBr [.ref (g 100), .int (nI s0)] D cI cB cZ (wM cI cB cZ g cn In Fn)) (vp_Si (fun r => RND (fun a => Fn 3 (l0.getD a 0) + Fn 4 (l0.getD a 0)) (cn 44) (Fn 43) s0 r)) 0 0 (fun _ => False) := by
  refine en_r rfl pn_RX12 (Nat.le_of_ble_eq_true rfl) (fun p e s m below meth c hx hb hml hown S hr hlocks hnm hP hK hS ls hl => ?_)
  have hl : lv_has ls 5 [(0, .ref (g 100)), (1, .int (nI s0))] := hl
  have hi_cn : Hid (CB cn) := hI.b
  have h2p := full_le (m := cn 44) h44
  have hw9 : ∀ a b : Nat, a < cn 44 → b < cn 44 → 0 ≤ ((fun a b => apM (Fn 3 (l0.getD a 0)) (Fn 4 (l0.getD a 0)) (Fn 3 (l0.getD b 0)) (Fn 4 (l0.getD b 0))) a b).toInt ∧ ((fun a b => apM (Fn 3 (l0.getD a 0)) (Fn 4 (l0.getD a 0)) (Fn 3 (l0.getD b 0)) (Fn 4 (l0.getD b 0))) a b).toInt ≤ 198 := fun a b ha hb => ap_b (hxy _ (hk0 a (by (first | omega | (have zz0 := Hid.u hi_cn; omega))))) (hxy _ (hk0 b (by (first | omega | (have zz0 := Hid.u hi_cn; omega)))))
  have hd9 : ∀ a : Nat, a < cn 44 → 0 ≤ ((fun a => Fn 3 (l0.getD a 0) + Fn 4 (l0.getD a 0)) a).toInt ∧ ((fun a => Fn 3 (l0.getD a 0) + Fn 4 (l0.getD a 0)) a).toInt ≤ 198 := fun a ha => dp_b (hxy _ (hk0 a (by (first | omega | (have zz0 := Hid.u hi_cn; omega)))))
  have hs5 : s0 ≤ 255 := by (first | omega | (have zz0 := Hid.u hi_cn; omega))
  have htb9 : TBL (fun a b => apM (Fn 3 (l0.getD a 0)) (Fn 4 (l0.getD a 0)) (Fn 3 (l0.getD b 0)) (Fn 4 (l0.getD b 0))) (fun a => Fn 3 (l0.getD a 0) + Fn 4 (l0.getD a 0)) (cn 44) (Fn 43) s0 := fun S hS => htb S (by (first | omega | (have zz0 := Hid.u hi_cn; omega)))
  have hb14 : ∀ b : Nat, b < cn 44 → s0.testBit b = true → 0 ≤ (Fn 3 (l0.getD b 0) + Fn 4 (l0.getD b 0) + Fn 43 (8 * clr s0 b + b)).toInt ∧ (Fn 3 (l0.getD b 0) + Fn 4 (l0.getD b 0) + Fn 43 (8 * clr s0 b + b)).toInt < 1000000 := fun b hb tb => TBL.g hs5 h44 hw9 hd9 htb9 (hd9 b hb) hb tb
  refine lv_iload_n hx hb (oc_27 0 shX12_roundTo_0) rfl (lvA1 hl) ?_
  have : (nI s0).toInt = ((s0 : Nat) : Int) := nI_toInt (by (first | omega | (have zz0 := Hid.u hi_cn; omega)))
  refine lv_if_ne (tgt := 8) hx hb (oc_154 1 (aq_1 shX12_roundTo_0) sgw_0_7) rfl (fun c_1 => ?_) (fun c_1 => ?_)
  ·
    have tc_1 : ((nI s0).toInt : Int) ≠ 0 := fun q => c_1 (Int32.toInt_inj.mp q)
    refine lv_ldcw (v := 1000000) hx hb hown (S.2.2.2.2 _ (wk8_10 9 rfl rfl)) (oc_19 8 (aq_8 shX12_roundTo_0) uw_1_114) ?_
    refine lv_istore_n (lv' := [(2, .int 1000000), (0, .ref (g 100)), (1, .int (nI s0))]) hx hb dX12_roundTo_11 rfl hl (ltb rfl) rfl (fun ls hl => ?_)
    refine lv_iconst (v := 0) hx hb dX12_roundTo_12 kic_0 ?_
    refine lv_istore_n (lv' := [(3, .int 0), (2, .int 1000000), (0, .ref (g 100)), (1, .int (nI s0))]) hx hb dX12_roundTo_13 rfl hl (ltb rfl) rfl (fun ls hl => ?_)
    have lp_14 : ∀ (n : Nat) (i14 : Nat) (x14_2 : Int32) , cn 44 - i14 < n → (i14 ≤ cn 44 ∧ ((s0 = 0 ∧ x14_2 = 0) ∨ (¬ s0 = 0 ∧ PMN 1000000 s0 i14 (fun b => Fn 3 (l0.getD b 0) + Fn 4 (l0.getD b 0) + Fn 43 (8 * clr s0 b + b)) x14_2))) → ∀ ls : Array Slot, lv_has ls 5 [(3, .int (nI i14)), (2, .int x14_2), (0, .ref (g 100)), (1, .int (nI s0))] → W p l e (RM 1 0 0) s m ([.ref (g 100), .int (nI s0)]).toArray below meth c s.heap [] 0 0 (MQ below (vp_Si (fun r => RND (fun a => Fn 3 (l0.getD a 0) + Fn 4 (l0.getD a 0)) (cn 44) (Fn 43) s0 r)) ([.ref (g 100), .int (nI s0)]).toArray s 0 0 (fun _ => False)) (F0 m 14 ls []) := by
      intro n14
      induction n14 with
      | zero => intros; (first | omega | (have zz0 := Hid.u hi_cn; omega))
      | succ n14 ih14 =>
        intro i14 x14_2 hmu14 hinv14 ls hl
        obtain ⟨hr14, hx14_0⟩ := hinv14
        have ti14 : (nI i14).toInt = (i14 : Int) := nI_toInt (by (first | omega | (have zz0 := Hid.u hi_cn; omega)))
        refine lv_iload_n hx hb dX12_roundTo_14 rfl (lvA0 hl) ?_
        refine lv_aload_n hx hb dX12_roundTo_15 rfl (lvA2 hl) ?_
        refine gM_364 S hK hP (v := .int (nI (cn 44))) rfl dX12_roundTo_16 ?_
        have : (nI (cn 44)).toInt = (((cn 44) : Nat) : Int) := nI_toInt (by (first | omega | (have zz0 := Hid.u hi_cn; omega)))
        refine lv_icmp_ge (tgt := 82) hx hb dX12_roundTo_19 rfl (fun c_2 => ?_) (fun c_2 => ?_)
        ·
          have tc_2 : ((nI (cn 44)).toInt : Int) ≤ (nI i14).toInt := Int32.le_iff_toInt_le.mp c_2
          refine lv_iload_n hx hb dX12_roundTo_82 rfl (lvA1 hl) ?_
          exact W.iret (v := x14_2) hx hb hr (fun t ht hW => ⟨x14_2, rfl, (by have e9 : i14 = cn 44 := (by (first | omega | (have zz0 := Hid.u hi_cn; omega))); rw [e9] at hx14_0; exact hx14_0.elim (fun w => Or.inl ⟨fun b _ => by rw [w.1]; exact Nat.zero_testBit b, w.2⟩) (fun w => Or.inr (PMN.f3 w.1 hs w.2))), ht⟩) (fun _ h => absurd h List.not_mem_nil) dX12_roundTo_83
        ·
          have tc_2 : ((nI i14).toInt : Int) < (nI (cn 44)).toInt := Int32.lt_iff_toInt_lt.mp (Int32.not_le.mp c_2)
          refine lv_iload_n hx hb dX12_roundTo_22 rfl (lvA3 hl) ?_
          refine lv_iload_n hx hb dX12_roundTo_23 rfl (lvA0 hl) ?_
          refine lv_ishr hx hb dX12_roundTo_24 ?_
          refine lv_iconst (v := 1) hx hb dX12_roundTo_25 kic_1 ?_
          refine lv_iand hx hb dX12_roundTo_26 ?_
          refine lv_topi (fun y_3 ey_3 => ?_)
          rcases bitc (l := s0) (b := i14) (by (first | omega | (have zz0 := Hid.u hi_cn; omega))) (by (first | omega | (have zz0 := Hid.u hi_cn; omega))) with ⟨hb_y_3, qy_3⟩ | ⟨hb_y_3, qy_3⟩
          ·
            obtain rfl : y_3 = 0 := ey_3.trans qy_3
            refine lv_if_ne (tgt := 33) hx hb dX12_roundTo_27 rfl (fun h => absurd h cq_eq_0_0) (fun _ => ?_)
            refine lv_goto (tgt := 76) hx hb dX12_roundTo_30 rfl ?_
            refine lv_iinc (v := (nI (i14 + 1))) (lv' := [(3, .int (nI (i14 + 1))), (2, .int x14_2), (0, .ref (g 100)), (1, .int (nI s0))]) hx hb dX12_roundTo_76 hl (k := 0) rfl (nI_1 _) (ltb rfl) rfl (fun ls hl => ?_)
            refine lv_goto (tgt := 14) hx hb dX12_roundTo_79 rfl ?_
            exact ih14 (i14 + 1) x14_2 (by (first | omega | (have zz0 := Hid.u hi_cn; omega))) ⟨(by (first | omega | (have zz0 := Hid.u hi_cn; omega))), (hx14_0.elim Or.inl (fun w => Or.inr ⟨w.1, PMN.no w.2 (by assumption)⟩))⟩ ls (lv_sub hl [0, 1, 2, 3] rfl)
          ·
            obtain rfl : y_3 = 1 := ey_3.trans qy_3
            refine lv_if_ne (tgt := 33) hx hb dX12_roundTo_27 rfl (fun _ => ?_) (fun h => absurd h cq_eq_1_0)
            refine lv_aload_n hx hb dX12_roundTo_33 rfl (lvA2 hl) ?_
            refine lv_aload_n hx hb dX12_roundTo_34 rfl (lvA2 hl) ?_
            refine gM_101 S hK hP (v := .ref (g 42)) rfl dX12_roundTo_35 ?_
            refine lv_iload_n hx hb dX12_roundTo_38 rfl (lvA0 hl) ?_
            have kb_1 : i14 < 10 := by (first | omega | (have zz0 := Hid.u hi_cn; omega))
            obtain ⟨a_4, ha_4, ea_4⟩ := hAK i14 (by (first | omega | (have zz0 := Hid.u hi_cn; omega)))
            refine ldM_42 hx hb hK hP (x := (nI a_4)) (vp_in_nI kb_1 (ltb rfl)) (nI_clamp (Nat.lt_trans kb_1 (ltb rfl))) ea_4 dX12_roundTo_39 ?_
            obtain rfl : a_4 = l0.getD i14 0 := nIw_inj (by (first | omega | (have zz0 := Hid.u hi_cn; omega))) (by have := hk0 i14 (by (first | omega | (have zz0 := Hid.u hi_cn; omega))); (first | omega | (have zz0 := Hid.u hi_cn; omega))) (ea_4.symm.trans (h42.at (by (first | omega | (have zz0 := Hid.u hi_cn; omega)))))
            have := hk0 i14 (by (first | omega | (have zz0 := Hid.u hi_cn; omega)))
            refine vp_callSi (runV_ra (As := [.int (nI (l0.getD i14 0))]) (rest := []) S (q_toDepot l D cI cB cZ g cn In Fn (l0.getD i14 0) hI (by (first | omega | (have zz0 := Hid.u hi_cn; omega)))) kV_RX12_367 hK hP 0 rfl rfl rfl ⟨Nat.le_of_ble_eq_true rfl, Nat.le_of_ble_eq_true rfl⟩ ⟨Nat.le_of_ble_eq_true rfl, Nat.le_of_ble_eq_true rfl⟩ rfl hl.1 rfl (Nat.le_of_ble_eq_true rfl) dX12_roundTo_40) (fun r_5 h_6 => ?_)
            subst h_6
            refine lv_aload_n hx hb dX12_roundTo_43 rfl (lvA2 hl) ?_
            refine gM_104 S hK hP (v := .ref (g 43)) rfl dX12_roundTo_44 ?_
            refine lv_bipush (v := 8) hx hb dX12_roundTo_47 kbc_8 ?_
            refine lv_iload_n hx hb dX12_roundTo_49 rfl (lvA3 hl) ?_
            refine lv_iconst (v := 1) hx hb dX12_roundTo_50 kic_1 ?_
            refine lv_iload_n hx hb dX12_roundTo_51 rfl (lvA0 hl) ?_
            refine lv_ishl hx hb dX12_roundTo_52 ?_
            refine lv_iconst (v := (-1)) hx hb dX12_roundTo_53 kic_m1 ?_
            refine lv_ixor hx hb dX12_roundTo_54 ?_
            refine lv_iand hx hb dX12_roundTo_55 ?_
            refine lv_topi (fun y_7 ey_7 => ?_)
            obtain rfl : y_7 = (nI (clr s0 i14)) := ey_7.trans (clrI (by (first | omega | (have zz0 := Hid.u hi_cn; omega))) (by (first | omega | (have zz0 := Hid.u hi_cn; omega))))
            have hcl := clr_le (l := s0) (a := i14)
            refine lv_imul hx hb dX12_roundTo_56 ?_
            refine lv_topi (fun y_8 ey_8 => ?_)
            obtain rfl : y_8 = (nI (8 * (clr s0 i14))) := ey_8.trans (pk_mul 8 (clr s0 i14))
            refine lv_iload_n hx hb dX12_roundTo_57 rfl (lvA0 hl) ?_
            refine lv_iadd hx hb dX12_roundTo_58 ?_
            refine lv_topi (fun y_9 ey_9 => ?_)
            obtain rfl : y_9 = (nI ((8 * (clr s0 i14)) + i14)) := ey_9.trans (nI_add (8 * (clr s0 i14)) i14)
            have kb_2 : ((8 * (clr s0 i14)) + i14) < 2048 := by (first | omega | (have zz0 := Hid.u hi_cn; omega))
            refine ldM_43 hx hb hK hP (x := ((Fn 43) ((8 * (clr s0 i14)) + i14))) (vp_in_nI kb_2 (ltb rfl)) (nI_clamp (Nat.lt_trans kb_2 (ltb rfl))) rfl dX12_roundTo_59 ?_
            refine lv_iadd hx hb dX12_roundTo_60 ?_
            refine lv_istore (lv' := [(4, .int (((Fn 3) (l0.getD i14 0) + (Fn 4) (l0.getD i14 0)) + ((Fn 43) ((8 * (clr s0 i14)) + i14)))), (3, .int (nI i14)), (2, .int x14_2), (0, .ref (g 100)), (1, .int (nI s0))]) hx hb dX12_roundTo_61 hl (ltb rfl) rfl (fun ls hl => ?_)
            refine lv_iload hx hb dX12_roundTo_63 (lvA0 hl) ?_
            refine lv_iload_n hx hb dX12_roundTo_65 rfl (lvA2 hl) ?_
            refine lv_icmp_ge (tgt := 74) hx hb dX12_roundTo_66 rfl (fun c_10 => ?_) (fun c_10 => ?_)
            ·
              have tc_10 : (x14_2.toInt : Int) ≤ (((Fn 3) (l0.getD i14 0) + (Fn 4) (l0.getD i14 0)) + ((Fn 43) ((8 * (clr s0 i14)) + i14))).toInt := Int32.le_iff_toInt_le.mp c_10
              refine lv_iload_n hx hb dX12_roundTo_74 rfl (lvA2 hl) ?_
              refine lv_istore_n (lv' := [(2, .int x14_2), (4, .int (((Fn 3) (l0.getD i14 0) + (Fn 4) (l0.getD i14 0)) + ((Fn 43) ((8 * (clr s0 i14)) + i14)))), (3, .int (nI i14)), (0, .ref (g 100)), (1, .int (nI s0))]) hx hb dX12_roundTo_75 rfl hl (ltb rfl) rfl (fun ls hl => ?_)
              refine lv_iinc (v := (nI (i14 + 1))) (lv' := [(3, .int (nI (i14 + 1))), (2, .int x14_2), (4, .int (((Fn 3) (l0.getD i14 0) + (Fn 4) (l0.getD i14 0)) + ((Fn 43) ((8 * (clr s0 i14)) + i14)))), (0, .ref (g 100)), (1, .int (nI s0))]) hx hb dX12_roundTo_76 hl (k := 2) rfl (nI_1 _) (ltb rfl) rfl (fun ls hl => ?_)
              refine lv_goto (tgt := 14) hx hb dX12_roundTo_79 rfl ?_
              exact ih14 (i14 + 1) x14_2 (by (first | omega | (have zz0 := Hid.u hi_cn; omega))) ⟨(by (first | omega | (have zz0 := Hid.u hi_cn; omega))), (hx14_0.elim (fun w => absurd (show s0.testBit i14 = true by assumption) (by rw [w.1, Nat.zero_testBit]; decide)) (fun w => Or.inr ⟨w.1, PMN.ge w.2 (by (first | omega | (have zz0 := Hid.u hi_cn; omega))) (Or.inr (Or.inr (hb14 i14 (by (first | omega | (have zz0 := Hid.u hi_cn; omega))) (by assumption)).2))⟩))⟩ ls (lv_sub hl [0, 1, 3, 4] rfl)
            ·
              have tc_10 : ((((Fn 3) (l0.getD i14 0) + (Fn 4) (l0.getD i14 0)) + ((Fn 43) ((8 * (clr s0 i14)) + i14))).toInt : Int) < x14_2.toInt := Int32.lt_iff_toInt_lt.mp (Int32.not_le.mp c_10)
              refine lv_iload hx hb dX12_roundTo_69 (lvA0 hl) ?_
              refine lv_goto (tgt := 75) hx hb dX12_roundTo_71 rfl ?_
              refine lv_istore_n (lv' := [(2, .int (((Fn 3) (l0.getD i14 0) + (Fn 4) (l0.getD i14 0)) + ((Fn 43) ((8 * (clr s0 i14)) + i14)))), (4, .int (((Fn 3) (l0.getD i14 0) + (Fn 4) (l0.getD i14 0)) + ((Fn 43) ((8 * (clr s0 i14)) + i14)))), (3, .int (nI i14)), (0, .ref (g 100)), (1, .int (nI s0))]) hx hb dX12_roundTo_75 rfl hl (ltb rfl) rfl (fun ls hl => ?_)
              refine lv_iinc (v := (nI (i14 + 1))) (lv' := [(3, .int (nI (i14 + 1))), (2, .int (((Fn 3) (l0.getD i14 0) + (Fn 4) (l0.getD i14 0)) + ((Fn 43) ((8 * (clr s0 i14)) + i14)))), (4, .int (((Fn 3) (l0.getD i14 0) + (Fn 4) (l0.getD i14 0)) + ((Fn 43) ((8 * (clr s0 i14)) + i14)))), (0, .ref (g 100)), (1, .int (nI s0))]) hx hb dX12_roundTo_76 hl (k := 2) rfl (nI_1 _) (ltb rfl) rfl (fun ls hl => ?_)
              refine lv_goto (tgt := 14) hx hb dX12_roundTo_79 rfl ?_
              exact ih14 (i14 + 1) (((Fn 3) (l0.getD i14 0) + (Fn 4) (l0.getD i14 0)) + ((Fn 43) ((8 * (clr s0 i14)) + i14))) (by (first | omega | (have zz0 := Hid.u hi_cn; omega))) ⟨(by (first | omega | (have zz0 := Hid.u hi_cn; omega))), (hx14_0.elim (fun w => absurd (show s0.testBit i14 = true by assumption) (by rw [w.1, Nat.zero_testBit]; decide)) (fun w => Or.inr ⟨w.1, PMN.put w.2 (by assumption) (Or.inr (by (first | omega | (have zz0 := Hid.u hi_cn; omega)))) (fun b h9 t9 w9 => by have q9 := (hb14 b (by (first | omega | (have zz0 := Hid.u hi_cn; omega))) t9).2; have q8 := congrArg Int32.toInt w9; have q7 : (1000000 : Int32).toInt = 1000000 := rfl; (first | omega | (have zz0 := Hid.u hi_cn; omega)))⟩))⟩ ls (lv_sub hl [0, 1, 3, 4] rfl)
    exact lp_14 _ 0 1000000 (Nat.lt_succ_self _) ⟨(by (first | omega | (have zz0 := Hid.u hi_cn; omega))), (by first | exact Or.inl ⟨by (first | omega | (have zz0 := Hid.u hi_cn; omega)), rfl⟩ | exact Or.inr ⟨by (first | omega | (have zz0 := Hid.u hi_cn; omega)), PMN.z⟩)⟩ ls (lv_sub hl [0, 1, 2, 3] rfl)
  ·
    have tc_1 : ((nI s0).toInt : Int) = 0 := congrArg Int32.toInt c_1
    refine lv_iconst (v := 0) hx hb (oc_3 4 (aq_4 shX12_roundTo_0)) kic_0 ?_
    refine lv_goto (tgt := 11) hx hb (oc_167 5 (aq_5 shX12_roundTo_0) sgw_0_6) rfl ?_
    refine lv_istore_n (lv' := [(2, .int 0), (0, .ref (g 100)), (1, .int (nI s0))]) hx hb dX12_roundTo_11 rfl hl (ltb rfl) rfl (fun ls hl => ?_)
    refine lv_iconst (v := 0) hx hb dX12_roundTo_12 kic_0 ?_
    refine lv_istore_n (lv' := [(3, .int 0), (2, .int 0), (0, .ref (g 100)), (1, .int (nI s0))]) hx hb dX12_roundTo_13 rfl hl (ltb rfl) rfl (fun ls hl => ?_)
    have lp_14 : ∀ (n : Nat) (i14 : Nat) (x14_2 : Int32) , cn 44 - i14 < n → (i14 ≤ cn 44 ∧ ((s0 = 0 ∧ x14_2 = 0) ∨ (¬ s0 = 0 ∧ PMN 1000000 s0 i14 (fun b => Fn 3 (l0.getD b 0) + Fn 4 (l0.getD b 0) + Fn 43 (8 * clr s0 b + b)) x14_2))) → ∀ ls : Array Slot, lv_has ls 5 [(3, .int (nI i14)), (2, .int x14_2), (0, .ref (g 100)), (1, .int (nI s0))] → W p l e (RM 1 0 0) s m ([.ref (g 100), .int (nI s0)]).toArray below meth c s.heap [] 0 0 (MQ below (vp_Si (fun r => RND (fun a => Fn 3 (l0.getD a 0) + Fn 4 (l0.getD a 0)) (cn 44) (Fn 43) s0 r)) ([.ref (g 100), .int (nI s0)]).toArray s 0 0 (fun _ => False)) (F0 m 14 ls []) := by
      intro n14
      induction n14 with
      | zero => intros; (first | omega | (have zz0 := Hid.u hi_cn; omega))
      | succ n14 ih14 =>
        intro i14 x14_2 hmu14 hinv14 ls hl
        obtain ⟨hr14, hx14_0⟩ := hinv14
        have ti14 : (nI i14).toInt = (i14 : Int) := nI_toInt (by (first | omega | (have zz0 := Hid.u hi_cn; omega)))
        refine lv_iload_n hx hb dX12_roundTo_14 rfl (lvA0 hl) ?_
        refine lv_aload_n hx hb dX12_roundTo_15 rfl (lvA2 hl) ?_
        refine gM_364 S hK hP (v := .int (nI (cn 44))) rfl dX12_roundTo_16 ?_
        have : (nI (cn 44)).toInt = (((cn 44) : Nat) : Int) := nI_toInt (by (first | omega | (have zz0 := Hid.u hi_cn; omega)))
        refine lv_icmp_ge (tgt := 82) hx hb dX12_roundTo_19 rfl (fun c_11 => ?_) (fun c_11 => ?_)
        ·
          have tc_11 : ((nI (cn 44)).toInt : Int) ≤ (nI i14).toInt := Int32.le_iff_toInt_le.mp c_11
          refine lv_iload_n hx hb dX12_roundTo_82 rfl (lvA1 hl) ?_
          exact W.iret (v := x14_2) hx hb hr (fun t ht hW => ⟨x14_2, rfl, (by have e9 : i14 = cn 44 := (by (first | omega | (have zz0 := Hid.u hi_cn; omega))); rw [e9] at hx14_0; exact hx14_0.elim (fun w => Or.inl ⟨fun b _ => by rw [w.1]; exact Nat.zero_testBit b, w.2⟩) (fun w => Or.inr (PMN.f3 w.1 hs w.2))), ht⟩) (fun _ h => absurd h List.not_mem_nil) dX12_roundTo_83
        ·
          have tc_11 : ((nI i14).toInt : Int) < (nI (cn 44)).toInt := Int32.lt_iff_toInt_lt.mp (Int32.not_le.mp c_11)
          refine lv_iload_n hx hb dX12_roundTo_22 rfl (lvA3 hl) ?_
          refine lv_iload_n hx hb dX12_roundTo_23 rfl (lvA0 hl) ?_
          refine lv_ishr hx hb dX12_roundTo_24 ?_
          refine lv_iconst (v := 1) hx hb dX12_roundTo_25 kic_1 ?_
          refine lv_iand hx hb dX12_roundTo_26 ?_
          refine lv_topi (fun y_12 ey_12 => ?_)
          rcases bitc (l := s0) (b := i14) (by (first | omega | (have zz0 := Hid.u hi_cn; omega))) (by (first | omega | (have zz0 := Hid.u hi_cn; omega))) with ⟨hb_y_12, qy_12⟩ | ⟨hb_y_12, qy_12⟩
          ·
            obtain rfl : y_12 = 0 := ey_12.trans qy_12
            refine lv_if_ne (tgt := 33) hx hb dX12_roundTo_27 rfl (fun h => absurd h cq_eq_0_0) (fun _ => ?_)
            refine lv_goto (tgt := 76) hx hb dX12_roundTo_30 rfl ?_
            refine lv_iinc (v := (nI (i14 + 1))) (lv' := [(3, .int (nI (i14 + 1))), (2, .int x14_2), (0, .ref (g 100)), (1, .int (nI s0))]) hx hb dX12_roundTo_76 hl (k := 0) rfl (nI_1 _) (ltb rfl) rfl (fun ls hl => ?_)
            refine lv_goto (tgt := 14) hx hb dX12_roundTo_79 rfl ?_
            exact ih14 (i14 + 1) x14_2 (by (first | omega | (have zz0 := Hid.u hi_cn; omega))) ⟨(by (first | omega | (have zz0 := Hid.u hi_cn; omega))), (hx14_0.elim Or.inl (fun w => Or.inr ⟨w.1, PMN.no w.2 (by assumption)⟩))⟩ ls (lv_sub hl [0, 1, 2, 3] rfl)
          ·
            obtain rfl : y_12 = 1 := ey_12.trans qy_12
            refine lv_if_ne (tgt := 33) hx hb dX12_roundTo_27 rfl (fun _ => ?_) (fun h => absurd h cq_eq_1_0)
            refine lv_aload_n hx hb dX12_roundTo_33 rfl (lvA2 hl) ?_
            refine lv_aload_n hx hb dX12_roundTo_34 rfl (lvA2 hl) ?_
            refine gM_101 S hK hP (v := .ref (g 42)) rfl dX12_roundTo_35 ?_
            refine lv_iload_n hx hb dX12_roundTo_38 rfl (lvA0 hl) ?_
            have kb_3 : i14 < 10 := by (first | omega | (have zz0 := Hid.u hi_cn; omega))
            obtain ⟨a_13, ha_13, ea_13⟩ := hAK i14 (by (first | omega | (have zz0 := Hid.u hi_cn; omega)))
            refine ldM_42 hx hb hK hP (x := (nI a_13)) (vp_in_nI kb_3 (ltb rfl)) (nI_clamp (Nat.lt_trans kb_3 (ltb rfl))) ea_13 dX12_roundTo_39 ?_
            obtain rfl : a_13 = l0.getD i14 0 := nIw_inj (by (first | omega | (have zz0 := Hid.u hi_cn; omega))) (by have := hk0 i14 (by (first | omega | (have zz0 := Hid.u hi_cn; omega))); (first | omega | (have zz0 := Hid.u hi_cn; omega))) (ea_13.symm.trans (h42.at (by (first | omega | (have zz0 := Hid.u hi_cn; omega)))))
            have := hk0 i14 (by (first | omega | (have zz0 := Hid.u hi_cn; omega)))
            refine vp_callSi (runV_ra (As := [.int (nI (l0.getD i14 0))]) (rest := []) S (q_toDepot l D cI cB cZ g cn In Fn (l0.getD i14 0) hI (by (first | omega | (have zz0 := Hid.u hi_cn; omega)))) kV_RX12_367 hK hP 0 rfl rfl rfl ⟨Nat.le_of_ble_eq_true rfl, Nat.le_of_ble_eq_true rfl⟩ ⟨Nat.le_of_ble_eq_true rfl, Nat.le_of_ble_eq_true rfl⟩ rfl hl.1 rfl (Nat.le_of_ble_eq_true rfl) dX12_roundTo_40) (fun r_14 h_15 => ?_)
            subst h_15
            refine lv_aload_n hx hb dX12_roundTo_43 rfl (lvA2 hl) ?_
            refine gM_104 S hK hP (v := .ref (g 43)) rfl dX12_roundTo_44 ?_
            refine lv_bipush (v := 8) hx hb dX12_roundTo_47 kbc_8 ?_
            refine lv_iload_n hx hb dX12_roundTo_49 rfl (lvA3 hl) ?_
            refine lv_iconst (v := 1) hx hb dX12_roundTo_50 kic_1 ?_
            refine lv_iload_n hx hb dX12_roundTo_51 rfl (lvA0 hl) ?_
            refine lv_ishl hx hb dX12_roundTo_52 ?_
            refine lv_iconst (v := (-1)) hx hb dX12_roundTo_53 kic_m1 ?_
            refine lv_ixor hx hb dX12_roundTo_54 ?_
            refine lv_iand hx hb dX12_roundTo_55 ?_
            refine lv_topi (fun y_16 ey_16 => ?_)
            obtain rfl : y_16 = (nI (clr s0 i14)) := ey_16.trans (clrI (by (first | omega | (have zz0 := Hid.u hi_cn; omega))) (by (first | omega | (have zz0 := Hid.u hi_cn; omega))))
            have hcl := clr_le (l := s0) (a := i14)
            refine lv_imul hx hb dX12_roundTo_56 ?_
            refine lv_topi (fun y_17 ey_17 => ?_)
            obtain rfl : y_17 = (nI (8 * (clr s0 i14))) := ey_17.trans (pk_mul 8 (clr s0 i14))
            refine lv_iload_n hx hb dX12_roundTo_57 rfl (lvA0 hl) ?_
            refine lv_iadd hx hb dX12_roundTo_58 ?_
            refine lv_topi (fun y_18 ey_18 => ?_)
            obtain rfl : y_18 = (nI ((8 * (clr s0 i14)) + i14)) := ey_18.trans (nI_add (8 * (clr s0 i14)) i14)
            have kb_4 : ((8 * (clr s0 i14)) + i14) < 2048 := by (first | omega | (have zz0 := Hid.u hi_cn; omega))
            refine ldM_43 hx hb hK hP (x := ((Fn 43) ((8 * (clr s0 i14)) + i14))) (vp_in_nI kb_4 (ltb rfl)) (nI_clamp (Nat.lt_trans kb_4 (ltb rfl))) rfl dX12_roundTo_59 ?_
            refine lv_iadd hx hb dX12_roundTo_60 ?_
            refine lv_istore (lv' := [(4, .int (((Fn 3) (l0.getD i14 0) + (Fn 4) (l0.getD i14 0)) + ((Fn 43) ((8 * (clr s0 i14)) + i14)))), (3, .int (nI i14)), (2, .int x14_2), (0, .ref (g 100)), (1, .int (nI s0))]) hx hb dX12_roundTo_61 hl (ltb rfl) rfl (fun ls hl => ?_)
            refine lv_iload hx hb dX12_roundTo_63 (lvA0 hl) ?_
            refine lv_iload_n hx hb dX12_roundTo_65 rfl (lvA2 hl) ?_
            refine lv_icmp_ge (tgt := 74) hx hb dX12_roundTo_66 rfl (fun c_19 => ?_) (fun c_19 => ?_)
            ·
              have tc_19 : (x14_2.toInt : Int) ≤ (((Fn 3) (l0.getD i14 0) + (Fn 4) (l0.getD i14 0)) + ((Fn 43) ((8 * (clr s0 i14)) + i14))).toInt := Int32.le_iff_toInt_le.mp c_19
              refine lv_iload_n hx hb dX12_roundTo_74 rfl (lvA2 hl) ?_
              refine lv_istore_n (lv' := [(2, .int x14_2), (4, .int (((Fn 3) (l0.getD i14 0) + (Fn 4) (l0.getD i14 0)) + ((Fn 43) ((8 * (clr s0 i14)) + i14)))), (3, .int (nI i14)), (0, .ref (g 100)), (1, .int (nI s0))]) hx hb dX12_roundTo_75 rfl hl (ltb rfl) rfl (fun ls hl => ?_)
              refine lv_iinc (v := (nI (i14 + 1))) (lv' := [(3, .int (nI (i14 + 1))), (2, .int x14_2), (4, .int (((Fn 3) (l0.getD i14 0) + (Fn 4) (l0.getD i14 0)) + ((Fn 43) ((8 * (clr s0 i14)) + i14)))), (0, .ref (g 100)), (1, .int (nI s0))]) hx hb dX12_roundTo_76 hl (k := 2) rfl (nI_1 _) (ltb rfl) rfl (fun ls hl => ?_)
              refine lv_goto (tgt := 14) hx hb dX12_roundTo_79 rfl ?_
              exact ih14 (i14 + 1) x14_2 (by (first | omega | (have zz0 := Hid.u hi_cn; omega))) ⟨(by (first | omega | (have zz0 := Hid.u hi_cn; omega))), (hx14_0.elim (fun w => absurd (show s0.testBit i14 = true by assumption) (by rw [w.1, Nat.zero_testBit]; decide)) (fun w => Or.inr ⟨w.1, PMN.ge w.2 (by (first | omega | (have zz0 := Hid.u hi_cn; omega))) (Or.inr (Or.inr (hb14 i14 (by (first | omega | (have zz0 := Hid.u hi_cn; omega))) (by assumption)).2))⟩))⟩ ls (lv_sub hl [0, 1, 3, 4] rfl)
            ·
              have tc_19 : ((((Fn 3) (l0.getD i14 0) + (Fn 4) (l0.getD i14 0)) + ((Fn 43) ((8 * (clr s0 i14)) + i14))).toInt : Int) < x14_2.toInt := Int32.lt_iff_toInt_lt.mp (Int32.not_le.mp c_19)
              refine lv_iload hx hb dX12_roundTo_69 (lvA0 hl) ?_
              refine lv_goto (tgt := 75) hx hb dX12_roundTo_71 rfl ?_
              refine lv_istore_n (lv' := [(2, .int (((Fn 3) (l0.getD i14 0) + (Fn 4) (l0.getD i14 0)) + ((Fn 43) ((8 * (clr s0 i14)) + i14)))), (4, .int (((Fn 3) (l0.getD i14 0) + (Fn 4) (l0.getD i14 0)) + ((Fn 43) ((8 * (clr s0 i14)) + i14)))), (3, .int (nI i14)), (0, .ref (g 100)), (1, .int (nI s0))]) hx hb dX12_roundTo_75 rfl hl (ltb rfl) rfl (fun ls hl => ?_)
              refine lv_iinc (v := (nI (i14 + 1))) (lv' := [(3, .int (nI (i14 + 1))), (2, .int (((Fn 3) (l0.getD i14 0) + (Fn 4) (l0.getD i14 0)) + ((Fn 43) ((8 * (clr s0 i14)) + i14)))), (4, .int (((Fn 3) (l0.getD i14 0) + (Fn 4) (l0.getD i14 0)) + ((Fn 43) ((8 * (clr s0 i14)) + i14)))), (0, .ref (g 100)), (1, .int (nI s0))]) hx hb dX12_roundTo_76 hl (k := 2) rfl (nI_1 _) (ltb rfl) rfl (fun ls hl => ?_)
              refine lv_goto (tgt := 14) hx hb dX12_roundTo_79 rfl ?_
              exact ih14 (i14 + 1) (((Fn 3) (l0.getD i14 0) + (Fn 4) (l0.getD i14 0)) + ((Fn 43) ((8 * (clr s0 i14)) + i14))) (by (first | omega | (have zz0 := Hid.u hi_cn; omega))) ⟨(by (first | omega | (have zz0 := Hid.u hi_cn; omega))), (hx14_0.elim (fun w => absurd (show s0.testBit i14 = true by assumption) (by rw [w.1, Nat.zero_testBit]; decide)) (fun w => Or.inr ⟨w.1, PMN.put w.2 (by assumption) (Or.inr (by (first | omega | (have zz0 := Hid.u hi_cn; omega)))) (fun b h9 t9 w9 => by have q9 := (hb14 b (by (first | omega | (have zz0 := Hid.u hi_cn; omega))) t9).2; have q8 := congrArg Int32.toInt w9; have q7 : (1000000 : Int32).toInt = 1000000 := rfl; (first | omega | (have zz0 := Hid.u hi_cn; omega)))⟩))⟩ ls (lv_sub hl [0, 1, 3, 4] rfl)
    exact lp_14 _ 0 0 (Nat.lt_succ_self _) ⟨(by (first | omega | (have zz0 := Hid.u hi_cn; omega))), (by first | exact Or.inl ⟨by (first | omega | (have zz0 := Hid.u hi_cn; omega)), rfl⟩ | exact Or.inr ⟨by (first | omega | (have zz0 := Hid.u hi_cn; omega)), PMN.z⟩)⟩ ls (lv_sub hl [0, 1, 2, 3] rfl)
set_option maxRecDepth 100000 in
set_option maxHeartbeats 4000000 in
theorem q_lays9 (l : Launch) (D : va_G) (cI cB cZ : ClassId) (g : Nat → Nat) (cn : Nat → Nat) (In : Nat → Int32) (Fn : Nat → Nat → Int32) (v0 v1 : Int32) (w0 : Nat) (sz : Nat) (hI : IM cn Fn) (hw0 : w0 ≤ 8) (hxy : ∀ k : Nat, k < cn 1 → XYB (Fn 3 k) (Fn 4 k)) : Met l yX12_lays (CWS yX12_lays cX12_lays 5 (some .boolean)) (RM 3 0 0) (PBw [.ref (g 100), .int v0, .int v1, .int (nI w0)] D cI cB cZ (wM cI cB cZ g cn In Fn) sz) (va_Qi (fun (r : Int32) (u : (Nat → Nat) × (Nat → Int32) × (Nat → Nat → Int32)) => (fun r c2 I2 F2 => Fr [44] [] [42, 43] cn In Fn c2 I2 F2 ∧ IM c2 F2 ∧ ((r = 0 ∧ ((∃ k : Nat, k < cn 1 ∧ v0.toInt < (Fn 7 k).toInt) ∨ ∃ l : List Nat, AL (fun k9 => v1.toInt ≤ (lkM Fn k9 v0).toInt) (cn 1) l ∧ w0 < l.length)) ∨ (r = 1 ∧ (∀ k : Nat, k < cn 1 → (Fn 7 k).toInt ≤ v0.toInt) ∧ ∃ l : List Nat, AL (fun k9 => v1.toInt ≤ (lkM Fn k9 v0).toInt) (cn 1) l ∧ l.length ≤ w0 ∧ c2 44 = l.length ∧ c2 44 ≤ 8 ∧ AK c2 F2 ∧ RWF (F2 42) nI l ∧ (TBL (fun a b => apM (Fn 3 (l.getD a 0)) (Fn 4 (l.getD a 0)) (Fn 3 (l.getD b 0)) (Fn 4 (l.getD b 0))) (fun a => Fn 3 (l.getD a 0) + Fn 4 (l.getD a 0)) l.length (F2 43) (2 ^ l.length))))) r u.1 u.2.1 u.2.2) (fun (u : (Nat → Nat) × (Nat → Int32) × (Nat → Nat → Int32)) (t : State) => va_P D vwCl (wM cI cB cZ g u.1 u.2.1 u.2.2) t.heap ∧ va_D (va_A (wM cI cB cZ g cn In Fn) sz) (wM cI cB cZ g u.1 u.2.1 u.2.2)) (va_A (wM cI cB cZ g cn In Fn) sz)) 0 0 (va_A (wM cI cB cZ g cn In Fn) sz) := by
  refine en_w (fun A => (va_Qi (fun (r : Int32) (u : (Nat → Nat) × (Nat → Int32) × (Nat → Nat → Int32)) => (fun (r : Int32) (c2 : Nat → Nat) (I2 : Nat → Int32) (F2 : Nat → Nat → Int32) => Fr [44] [] [42, 43] cn In Fn c2 I2 F2 ∧ IM c2 F2 ∧ ((r = 0 ∧ ((∃ k : Nat, k < cn 1 ∧ v0.toInt < (Fn 7 k).toInt) ∨ ∃ l : List Nat, AL (fun k9 => v1.toInt ≤ (lkM Fn k9 v0).toInt) (cn 1) l ∧ w0 < l.length)) ∨ (r = 1 ∧ (∀ k : Nat, k < cn 1 → (Fn 7 k).toInt ≤ v0.toInt) ∧ ∃ l : List Nat, AL (fun k9 => v1.toInt ≤ (lkM Fn k9 v0).toInt) (cn 1) l ∧ l.length ≤ w0 ∧ c2 44 = l.length ∧ c2 44 ≤ 8 ∧ AK c2 F2 ∧ RWF (F2 42) nI l ∧ (TBL (fun a b => apM (Fn 3 (l.getD a 0)) (Fn 4 (l.getD a 0)) (Fn 3 (l.getD b 0)) (Fn 4 (l.getD b 0))) (fun a => Fn 3 (l.getD a 0) + Fn 4 (l.getD a 0)) l.length (F2 43) (2 ^ l.length))))) r u.1 u.2.1 u.2.2) (fun (u : (Nat → Nat) × (Nat → Int32) × (Nat → Nat → Int32)) (t : State) => va_P D vwCl (wM cI cB cZ g u.1 u.2.1 u.2.2) t.heap ∧ va_D A (wM cI cB cZ g u.1 u.2.1 u.2.2)) A)) rfl rfl pn_RX12 (Nat.le_of_ble_eq_true rfl) (fun p e s m below meth c A hx hb hml hown S hr hlocks hnm hA hP hK hD hS ls hl => ?_)
  have hl : lv_has ls 5 [(0, .ref (g 100)), (1, .int v0), (2, .int v1), (3, .int (nI w0))] := hl
  have hi_cn : Hid (CB cn) := hI.b
  refine lv_aload_n hx hb (oc_42 0 shX12_lays_0) rfl (lvA0 hl) ?_
  refine lv_iconst (v := 0) hx hb (oc_3 1 (aq_1 shX12_lays_0)) kic_0 ?_
  refine pM_364 S hK hP hD hS (a := 0) (cn2 := (va_up cn 44 0)) rfl rfl (oc_181 2 (aq_2 shX12_lays_0) uw_1_108) (fun H locs hP hD hS => ?_)
  refine lv_iconst (v := 0) hx hb (oc_3 5 (aq_5 shX12_lays_0)) kic_0 ?_
  refine lv_istore (lv' := [(4, .int 0), (0, .ref (g 100)), (1, .int v0), (2, .int v1), (3, .int (nI w0))]) hx hb (oc_54 6 (aq_6 shX12_lays_0) ub_4) hl (ltb rfl) rfl (fun ls hl => ?_)
  have lp_8 : ∀ (n : Nat) (i8 : Nat) (c8 : Nat → Nat) (F8 : Nat → Nat → Int32) (H : Heap) (locs : List Loc) , cn 1 - i8 < n → (i8 ≤ cn 1 ∧ Fr [44] [] [42, 43] cn In Fn c8 In F8 ∧ IM c8 F8 ∧ (c8 44 ≤ i8) ∧ (AK c8 F8) ∧ (∃ l : List Nat, AL (fun k9 => v1.toInt ≤ (lkM Fn k9 v0).toInt) i8 l ∧ c8 44 = l.length ∧ RWF (F8 42) nI l) ∧ (∀ k : Nat, k < i8 → (Fn 7 k).toInt ≤ v0.toInt)) → va_P D vwCl (wM cI cB cZ g c8 In F8) H → va_D A (wM cI cB cZ g c8 In F8) → va_S A s.heap H locs → ∀ ls : Array Slot, lv_has ls 5 [(4, .int (nI i8)), (0, .ref (g 100)), (1, .int v0), (2, .int v1), (3, .int (nI w0))] → W p l e (RM 3 0 0) s m ([.ref (g 100), .int v0, .int v1, .int (nI w0)]).toArray below meth c H locs 0 0 (MQ below (va_Qi (fun (r : Int32) (u : (Nat → Nat) × (Nat → Int32) × (Nat → Nat → Int32)) => (fun r c2 I2 F2 => Fr [44] [] [42, 43] cn In Fn c2 I2 F2 ∧ IM c2 F2 ∧ ((r = 0 ∧ ((∃ k : Nat, k < cn 1 ∧ v0.toInt < (Fn 7 k).toInt) ∨ ∃ l : List Nat, AL (fun k9 => v1.toInt ≤ (lkM Fn k9 v0).toInt) (cn 1) l ∧ w0 < l.length)) ∨ (r = 1 ∧ (∀ k : Nat, k < cn 1 → (Fn 7 k).toInt ≤ v0.toInt) ∧ ∃ l : List Nat, AL (fun k9 => v1.toInt ≤ (lkM Fn k9 v0).toInt) (cn 1) l ∧ l.length ≤ w0 ∧ c2 44 = l.length ∧ c2 44 ≤ 8 ∧ AK c2 F2 ∧ RWF (F2 42) nI l ∧ (TBL (fun a b => apM (Fn 3 (l.getD a 0)) (Fn 4 (l.getD a 0)) (Fn 3 (l.getD b 0)) (Fn 4 (l.getD b 0))) (fun a => Fn 3 (l.getD a 0) + Fn 4 (l.getD a 0)) l.length (F2 43) (2 ^ l.length))))) r u.1 u.2.1 u.2.2) (fun (u : (Nat → Nat) × (Nat → Int32) × (Nat → Nat → Int32)) (t : State) => va_P D vwCl (wM cI cB cZ g u.1 u.2.1 u.2.2) t.heap ∧ va_D A (wM cI cB cZ g u.1 u.2.1 u.2.2)) A) ([.ref (g 100), .int v0, .int v1, .int (nI w0)]).toArray s 0 0 A) (F0 m 8 ls []) := by
    intro n8
    induction n8 with
    | zero => intros; (first | omega | (have zz0 := Hid.u hi_cn; omega))
    | succ n8 ih8 =>
      intro i8 c8 F8 H locs hmu8 hinv8 hP hD hS ls hl
      obtain ⟨hr8, hfr8, hI8, hx8_0, hx8_1, hx8_2, hx8_3⟩ := hinv8
      have ti8 : (nI i8).toInt = (i8 : Int) := nI_toInt (by (first | omega | (have zz0 := Hid.u hi_cn; omega)))
      have hi_c8 : Hid (CB c8) := hI8.b
      have hq_c8 := Hid.i (frq_44_0_1_2_46_57_58_62_63_75_83 hfr8)
      obtain ⟨l9, hal9, hc9, r42⟩ := hx8_2
      have e3_8 : F8 3 = Fn 3 := hfr8.2.2 3 (nml rfl)
      have e4_8 : F8 4 = Fn 4 := hfr8.2.2 4 (nml rfl)
      have e5_8 : F8 5 = Fn 5 := hfr8.2.2 5 (nml rfl)
      have e6_8 : F8 6 = Fn 6 := hfr8.2.2 6 (nml rfl)
      have e7_8 : F8 7 = Fn 7 := hfr8.2.2 7 (nml rfl)
      have elk : lkM F8 i8 v0 = lkM Fn i8 v0 := by unfold lkM; rw [e5_8, e6_8, e7_8]
      refine lv_iload hx hb (oc_21 8 (aq_8 shX12_lays_0) ub_4) (lvA0 hl) ?_
      refine lv_aload_n hx hb (oc_42 10 (aq_10 shX12_lays_0)) rfl (lvA1 hl) ?_
      refine gM_204 S hK hP (v := .int (nI (c8 1))) rfl (oc_180 11 (aq_11 shX12_lays_0) uw_0_204) ?_
      have : (nI (c8 1)).toInt = (((c8 1) : Nat) : Int) := nI_toInt (by (first | omega | (have zz0 := Hid.u hi_c8; have zz1 := Hid.u hi_cn; have zz2 := Hid.u hq_c8; omega)))
      refine lv_icmp_ge (tgt := 71) hx hb (oc_162 14 (aq_14 shX12_lays_0) sgw_0_57) rfl (fun c_1 => ?_) (fun c_1 => ?_)
      ·
        have tc_1 : ((nI (c8 1)).toInt : Int) ≤ (nI i8).toInt := Int32.le_iff_toInt_le.mp c_1
        refine lv_aload_n hx hb (oc_42 71 (aq_23 shX12_lays_48)) rfl (lvA1 hl) ?_
        refine gM_364 S hK hP (v := .int (nI (c8 44))) rfl (oc_180 72 shX12_lays_72 uw_1_108) ?_
        refine lv_iload_n hx hb (oc_29 75 (aq_3 shX12_lays_72)) rfl (lvA4 hl) ?_
        have : (nI (c8 44)).toInt = (((c8 44) : Nat) : Int) := nI_toInt (by (first | omega | (have zz0 := Hid.u hi_c8; have zz1 := Hid.u hi_cn; have zz2 := Hid.u hq_c8; omega)))
        have : (nI w0).toInt = ((w0 : Nat) : Int) := nI_toInt (by (first | omega | (have zz0 := Hid.u hi_c8; have zz1 := Hid.u hi_cn; have zz2 := Hid.u hq_c8; omega)))
        refine lv_icmp_le (tgt := 81) hx hb (oc_164 76 (aq_4 shX12_lays_72) sgw_0_5) rfl (fun c_2 => ?_) (fun c_2 => ?_)
        ·
          have tc_2 : ((nI (c8 44)).toInt : Int) ≤ (nI w0).toInt := Int32.le_iff_toInt_le.mp c_2
          refine lv_aload_n hx hb (oc_42 81 (aq_9 shX12_lays_72)) rfl (lvA1 hl) ?_
          have hFc := free_all hD hS hA
          refine va_callv (runV_a (As := []) (rest := []) S (q_goes9 l D cI cB cZ g c8 In F8 l9 H.size hI8 (by (first | omega | (have zz0 := Hid.u hi_c8; have zz1 := Hid.u hi_cn; have zz2 := Hid.u hq_c8; omega))) hx8_1 hc9 r42 (fun k hk => by rw [e3_8, e4_8]; exact hxy k (by (first | omega | (have zz0 := Hid.u hi_c8; have zz1 := Hid.u hi_cn; have zz2 := Hid.u hq_c8; omega)))) (fun a ha => by have := (hal9.ge ha).1; (first | omega | (have zz0 := Hid.u hi_c8; have zz1 := Hid.u hi_cn; have zz2 := Hid.u hq_c8; omega)))) kV_RX12_377 hK hP hD 0 rfl rfl rfl ⟨Nat.le_of_ble_eq_true rfl, Nat.le_of_ble_eq_true rfl⟩ ⟨Nat.le_of_ble_eq_true rfl, Nat.le_of_ble_eq_true rfl⟩ rfl hl.1 rfl (Nat.le_of_ble_eq_true rfl) (oc_182 82 (aq_10 shX12_lays_72) uw_1_121)) hS (fun q _ h => hFc q h) hFc (fun u t H1 locs ht hvm wh_4 hB hz1 hk1 hS => ?_)
          obtain ⟨cn4, In4, Fn4⟩ := u
          obtain ⟨hP1, hD1⟩ := hB
          rw [ht] at hP1
          have hP : va_P D vwCl (wM cI cB cZ g cn4 In4 Fn4) H1 := hP1
          have hD : va_D A (wM cI cB cZ g cn4 In4 Fn4) := hD1.weaken (fun _ _ _ h => hFc _ h)
          generalize H1 = H at hP hS ⊢
          have vh_4 : (fun c2 I2 F2 => Fr [] [] [43] c8 In F8 c2 I2 F2 ∧ IM c2 F2 ∧ (TBL (fun a b => apM ((F8 3) (l9.getD a 0)) ((F8 4) (l9.getD a 0)) ((F8 3) (l9.getD b 0)) ((F8 4) (l9.getD b 0))) (fun a => (F8 3) (l9.getD a 0) + (F8 4) (l9.getD a 0)) ((c8 44)) (F2 43) (2 ^ (c8 44)))) cn4 In4 Fn4 := wh_4
          obtain ⟨hfc4, hIn4, h_4⟩ := vh_4
          obtain rfl : c8 = cn4 := (funext (fun k => hfc4.1 k List.not_mem_nil)).symm
          obtain rfl : In = In4 := (funext (fun k => hfc4.2.1 k List.not_mem_nil)).symm
          have hf4 : Fr [44] [] [42, 43] cn In Fn c8 In Fn4 := Fr.mo (Fr.tr hfr8 hfc4) (sbl rfl) (sbl rfl) (sbl rfl)
          have hi_c8 : Hid (CB c8) := hIn4.b
          have hq_c8 := Hid.i (frq_44_0_1_2_46_57_58_62_63_75_83 hf4)
          have hAK4 : AK c8 Fn4 := AK.fr hx8_1 hfc4 (by decide) (by decide)
          refine lv_iconst (v := 1) hx hb (oc_4 85 (aq_13 shX12_lays_72)) kic_1 ?_
          exact W.zret (v := 1) hx hb hr rfl (fun t ht hW => ⟨⟨1, (c8, In, Fn4), rfl, ⟨(Fr.mo hf4 (sbl rfl) (sbl rfl) (sbl rfl)), hIn4, (by show (1 = 0 ∧ ((∃ k : Nat, k < cn 1 ∧ v0.toInt < (Fn 7 k).toInt) ∨ ∃ l : List Nat, AL (fun k9 => v1.toInt ≤ (lkM Fn k9 v0).toInt) (cn 1) l ∧ w0 < l.length)) ∨ (1 = 1 ∧ (∀ k : Nat, k < cn 1 → (Fn 7 k).toInt ≤ v0.toInt) ∧ ∃ l : List Nat, AL (fun k9 => v1.toInt ≤ (lkM Fn k9 v0).toInt) (cn 1) l ∧ l.length ≤ w0 ∧ c8 44 = l.length ∧ c8 44 ≤ 8 ∧ AK c8 Fn4 ∧ RWF (Fn4 42) nI l ∧ (TBL (fun a b => apM (Fn 3 (l.getD a 0)) (Fn 4 (l.getD a 0)) (Fn 3 (l.getD b 0)) (Fn 4 (l.getD b 0))) (fun a => Fn 3 (l.getD a 0) + Fn 4 (l.getD a 0)) l.length (Fn4 43) (2 ^ l.length))); have e9 : i8 = cn 1 := (by (first | omega | (have zz0 := Hid.u hi_c8; have zz1 := Hid.u hi_cn; have zz2 := Hid.u hq_c8; omega))); rw [e9] at hal9; have ht9 := h_4; rw [hc9, e3_8, e4_8] at ht9; exact Or.inr ⟨rfl, (fun k hk => hx8_3 k (by (first | omega | (have zz0 := Hid.u hi_c8; have zz1 := Hid.u hi_cn; have zz2 := Hid.u hq_c8; omega)))), l9, hal9, by (first | omega | (have zz0 := Hid.u hi_c8; have zz1 := Hid.u hi_cn; have zz2 := Hid.u hq_c8; omega)), hc9, by (first | omega | (have zz0 := Hid.u hi_c8; have zz1 := Hid.u hi_cn; have zz2 := Hid.u hq_c8; omega)), hAK4, (by rw [hfc4.2.2 42 (nml rfl)]; exact r42), ht9⟩)⟩, by rw [ht]; exact hP, hD⟩, hS.F ht⟩) hS.2.2 (oc_172 86 (aq_14 shX12_lays_72))
        ·
          have tc_2 : ((nI w0).toInt : Int) < (nI (c8 44)).toInt := Int32.lt_iff_toInt_lt.mp (Int32.not_le.mp c_2)
          refine lv_iconst (v := 0) hx hb (oc_3 79 (aq_7 shX12_lays_72)) kic_0 ?_
          exact W.zret (v := 0) hx hb hr rfl (fun t ht hW => ⟨⟨0, (c8, In, F8), rfl, ⟨(Fr.mo hfr8 (sbl rfl) (sbl rfl) (sbl rfl)), hI8, (by show (0 = 0 ∧ ((∃ k : Nat, k < cn 1 ∧ v0.toInt < (Fn 7 k).toInt) ∨ ∃ l : List Nat, AL (fun k9 => v1.toInt ≤ (lkM Fn k9 v0).toInt) (cn 1) l ∧ w0 < l.length)) ∨ (0 = 1 ∧ (∀ k : Nat, k < cn 1 → (Fn 7 k).toInt ≤ v0.toInt) ∧ ∃ l : List Nat, AL (fun k9 => v1.toInt ≤ (lkM Fn k9 v0).toInt) (cn 1) l ∧ l.length ≤ w0 ∧ c8 44 = l.length ∧ c8 44 ≤ 8 ∧ AK c8 F8 ∧ RWF (F8 42) nI l ∧ (TBL (fun a b => apM (Fn 3 (l.getD a 0)) (Fn 4 (l.getD a 0)) (Fn 3 (l.getD b 0)) (Fn 4 (l.getD b 0))) (fun a => Fn 3 (l.getD a 0) + Fn 4 (l.getD a 0)) l.length (F8 43) (2 ^ l.length))); have e9 : i8 = cn 1 := (by (first | omega | (have zz0 := Hid.u hi_c8; have zz1 := Hid.u hi_cn; have zz2 := Hid.u hq_c8; omega))); rw [e9] at hal9; exact Or.inl ⟨rfl, Or.inr ⟨l9, hal9, by (first | omega | (have zz0 := Hid.u hi_c8; have zz1 := Hid.u hi_cn; have zz2 := Hid.u hq_c8; omega))⟩⟩)⟩, by rw [ht]; exact hP, hD⟩, hS.F ht⟩) hS.2.2 (oc_172 80 (aq_8 shX12_lays_72))
      ·
        have tc_1 : ((nI i8).toInt : Int) < (nI (c8 1)).toInt := Int32.lt_iff_toInt_lt.mp (Int32.not_le.mp c_1)
        refine lv_aload_n hx hb (oc_42 17 (aq_17 shX12_lays_0)) rfl (lvA1 hl) ?_
        refine gM_22 S hK hP (v := .ref (g 7)) rfl (oc_180 18 (aq_18 shX12_lays_0) uw_0_22) ?_
        refine lv_iload hx hb (oc_21 21 (aq_21 shX12_lays_0) ub_4) (lvA0 hl) ?_
        have kb_1 : i8 < 10 := by (first | omega | (have zz0 := Hid.u hi_c8; have zz1 := Hid.u hi_cn; have zz2 := Hid.u hq_c8; omega))
        have b_5 := hI8.e7 i8 (by (first | omega | (have zz0 := Hid.u hi_c8; have zz1 := Hid.u hi_cn; have zz2 := Hid.u hq_c8; omega)))
        refine ldM_7 hx hb hK hP (x := ((F8 7) i8)) (vp_in_nI kb_1 (ltb rfl)) (nI_clamp (Nat.lt_trans kb_1 (ltb rfl))) rfl (oc_46 23 (aq_23 shX12_lays_0)) ?_
        refine lv_iload_n hx hb (oc_27 24 shX12_lays_24) rfl (lvA2 hl) ?_
        refine lv_icmp_le (tgt := 30) hx hb (oc_164 25 (aq_1 shX12_lays_24) sgw_0_5) rfl (fun c_6 => ?_) (fun c_6 => ?_)
        ·
          have tc_6 : (((F8 7) i8).toInt : Int) ≤ v0.toInt := Int32.le_iff_toInt_le.mp c_6
          refine lv_aload_n hx hb (oc_42 30 (aq_6 shX12_lays_24)) rfl (lvA1 hl) ?_
          refine lv_iload hx hb (oc_21 31 (aq_7 shX12_lays_24) ub_4) (lvA0 hl) ?_
          refine lv_iload_n hx hb (oc_27 33 (aq_9 shX12_lays_24)) rfl (lvA2 hl) ?_
          refine vp_callSi (runV_ra (As := [.int (nI i8), .int v0]) (rest := []) S (q_likelyOn l D cI cB cZ g c8 In F8 i8 v0 hI8 (by (first | omega | (have zz0 := Hid.u hi_c8; have zz1 := Hid.u hi_cn; have zz2 := Hid.u hq_c8; omega)))) kV_RX12_222 hK hP 0 rfl rfl rfl ⟨Nat.le_of_ble_eq_true rfl, Nat.le_of_ble_eq_true rfl⟩ ⟨Nat.le_of_ble_eq_true rfl, Nat.le_of_ble_eq_true rfl⟩ rfl hl.1 rfl (Nat.le_of_ble_eq_true rfl) (oc_182 34 (aq_10 shX12_lays_24) uw_0_222)) (fun r_7 h_8 => ?_)
          subst h_8
          refine lv_iload_n hx hb (oc_28 37 (aq_13 shX12_lays_24)) rfl (lvA3 hl) ?_
          refine lv_icmp_ge (tgt := 44) hx hb (oc_162 38 (aq_14 shX12_lays_24) sgw_0_6) rfl (fun c_9 => ?_) (fun c_9 => ?_)
          ·
            have tc_9 : (v1.toInt : Int) ≤ (lkM F8 i8 v0).toInt := Int32.le_iff_toInt_le.mp c_9
            refine lv_aload_n hx hb (oc_42 44 (aq_20 shX12_lays_24)) rfl (lvA1 hl) ?_
            refine gM_101 S hK hP (v := .ref (g 42)) rfl (oc_180 45 (aq_21 shX12_lays_24) uw_0_101) ?_
            refine lv_aload_n hx hb (oc_42 48 shX12_lays_48) rfl (lvA1 hl) ?_
            refine gM_364 S hK hP (v := .int (nI (c8 44))) rfl (oc_180 49 (aq_1 shX12_lays_48) uw_1_108) ?_
            refine lv_iload hx hb (oc_21 52 (aq_4 shX12_lays_48) ub_4) (lvA0 hl) ?_
            have kb_2 : (c8 44) < 10 := by (first | omega | (have zz0 := Hid.u hi_c8; have zz1 := Hid.u hi_cn; have zz2 := Hid.u hq_c8; omega))
            refine stM_42 hx hb hK hP hD hS (Fn2 := (va_up F8 42 (upd (F8 42) (c8 44) (nI i8)))) (vp_in_nI kb_2 (ltb rfl)) (nI_clamp (Nat.lt_trans kb_2 (ltb rfl))) rfl (oc_79 54 (aq_6 shX12_lays_48)) (fun H locs hP hD hS => ?_)
            refine lv_aload_n hx hb (oc_42 55 (aq_7 shX12_lays_48)) rfl (lvA1 hl) ?_
            refine lv_aload_n hx hb (oc_42 56 (aq_8 shX12_lays_48)) rfl (lvA1 hl) ?_
            refine gM_364 S hK hP (v := .int (nI (c8 44))) rfl (oc_180 57 (aq_9 shX12_lays_48) uw_1_108) ?_
            refine lv_iconst (v := 1) hx hb (oc_4 60 (aq_12 shX12_lays_48)) kic_1 ?_
            refine lv_iadd hx hb (oc_96 61 (aq_13 shX12_lays_48)) ?_
            refine lv_topi (fun y_10 ey_10 => ?_)
            obtain rfl : y_10 = (nI ((c8 44) + 1)) := ey_10.trans (nI_add (c8 44) 1)
            refine pM_364 S hK hP hD hS (a := ((c8 44) + 1)) (cn2 := (va_up c8 44 ((c8 44) + 1))) rfl rfl (oc_181 62 (aq_14 shX12_lays_48) uw_1_108) (fun H locs hP hD hS => ?_)
            refine lv_iinc (v := (nI (i8 + 1))) (lv' := [(4, .int (nI (i8 + 1))), (0, .ref (g 100)), (1, .int v0), (2, .int v1), (3, .int (nI w0))]) hx hb dX12_lays_65 hl (k := 0) rfl (nI_1 _) (ltb rfl) rfl (fun ls hl => ?_)
            refine lv_goto (tgt := 8) hx hb dX12_lays_68 rfl ?_
            exact ih8 (i8 + 1) (va_up c8 44 ((c8 44) + 1)) (va_up F8 42 (upd (F8 42) (c8 44) (nI i8))) _ _ (by (first | omega | (have zz0 := Hid.u hi_c8; have zz1 := Hid.u hi_cn; have zz2 := Hid.u hq_c8; omega))) ⟨(by (first | omega | (have zz0 := Hid.u hi_c8; have zz1 := Hid.u hi_cn; have zz2 := Hid.u hq_c8; omega))), (Fr.mo (Fr.f 42 (Fr.c 44 hfr8)) (sbl rfl) (sbl rfl) (sbl rfl)), (IM.fr (In := In) hI8 (Fr.f 42 (Fr.c 44 Fr.rf)) (by decide) (by decide)), (by show (va_up c8 44 ((c8 44) + 1)) 44 ≤ i8 + 1; rw [va_up_self]; (first | omega | (have zz0 := Hid.u hi_c8; have zz1 := Hid.u hi_cn; have zz2 := Hid.u hq_c8; omega))), (AK.push hx8_1 (by (first | omega | (have zz0 := Hid.u hi_c8; have zz1 := Hid.u hi_cn; have zz2 := Hid.u hq_c8; omega)))), ⟨l9 ++ [i8], AL.yx hal9 (show v1.toInt ≤ (lkM Fn i8 v0).toInt by rw [← elk]; (first | omega | (have zz0 := Hid.u hi_c8; have zz1 := Hid.u hi_cn; have zz2 := Hid.u hq_c8; omega))), (by show c8 44 + 1 = _; rw [hc9, List.length_append]; rfl), (by show RWF (upd (F8 42) (c8 44) (nI i8)) nI (l9 ++ [i8]); rw [hc9]; exact r42.put rfl)⟩, (fun k hk => if q9 : k = i8 then (by rw [q9, ← e7_8]; (first | omega | (have zz0 := Hid.u hi_c8; have zz1 := Hid.u hi_cn; have zz2 := Hid.u hq_c8; omega))) else hx8_3 k (by (first | omega | (have zz0 := Hid.u hi_c8; have zz1 := Hid.u hi_cn; have zz2 := Hid.u hq_c8; omega))))⟩ hP hD hS ls (lv_sub hl [0, 1, 2, 3, 4] rfl)
          ·
            have tc_9 : ((lkM F8 i8 v0).toInt : Int) < v1.toInt := Int32.lt_iff_toInt_lt.mp (Int32.not_le.mp c_9)
            refine lv_goto (tgt := 65) hx hb (oc_167 41 (aq_17 shX12_lays_24) sgw_0_24) rfl ?_
            refine lv_iinc (v := (nI (i8 + 1))) (lv' := [(4, .int (nI (i8 + 1))), (0, .ref (g 100)), (1, .int v0), (2, .int v1), (3, .int (nI w0))]) hx hb dX12_lays_65 hl (k := 0) rfl (nI_1 _) (ltb rfl) rfl (fun ls hl => ?_)
            refine lv_goto (tgt := 8) hx hb dX12_lays_68 rfl ?_
            exact ih8 (i8 + 1) c8 F8 _ _ (by (first | omega | (have zz0 := Hid.u hi_c8; have zz1 := Hid.u hi_cn; have zz2 := Hid.u hq_c8; omega))) ⟨(by (first | omega | (have zz0 := Hid.u hi_c8; have zz1 := Hid.u hi_cn; have zz2 := Hid.u hq_c8; omega))), (Fr.mo hfr8 (sbl rfl) (sbl rfl) (sbl rfl)), hI8, (by show c8 44 ≤ i8 + 1; (first | omega | (have zz0 := Hid.u hi_c8; have zz1 := Hid.u hi_cn; have zz2 := Hid.u hq_c8; omega))), hx8_1, ⟨l9, AL.nx hal9 (fun w9 => by have q9 : v1.toInt ≤ (lkM Fn i8 v0).toInt := w9; rw [← elk] at q9; (first | omega | (have zz0 := Hid.u hi_c8; have zz1 := Hid.u hi_cn; have zz2 := Hid.u hq_c8; omega))), hc9, r42⟩, (fun k hk => if q9 : k = i8 then (by rw [q9, ← e7_8]; (first | omega | (have zz0 := Hid.u hi_c8; have zz1 := Hid.u hi_cn; have zz2 := Hid.u hq_c8; omega))) else hx8_3 k (by (first | omega | (have zz0 := Hid.u hi_c8; have zz1 := Hid.u hi_cn; have zz2 := Hid.u hq_c8; omega))))⟩ hP hD hS ls (lv_sub hl [0, 1, 2, 3, 4] rfl)
        ·
          have tc_6 : (v0.toInt : Int) < ((F8 7) i8).toInt := Int32.lt_iff_toInt_lt.mp (Int32.not_le.mp c_6)
          refine lv_iconst (v := 0) hx hb (oc_3 28 (aq_4 shX12_lays_24)) kic_0 ?_
          exact W.zret (v := 0) hx hb hr rfl (fun t ht hW => ⟨⟨0, (c8, In, F8), rfl, ⟨(Fr.mo hfr8 (sbl rfl) (sbl rfl) (sbl rfl)), hI8, (by show (0 = 0 ∧ ((∃ k : Nat, k < cn 1 ∧ v0.toInt < (Fn 7 k).toInt) ∨ ∃ l : List Nat, AL (fun k9 => v1.toInt ≤ (lkM Fn k9 v0).toInt) (cn 1) l ∧ w0 < l.length)) ∨ (0 = 1 ∧ (∀ k : Nat, k < cn 1 → (Fn 7 k).toInt ≤ v0.toInt) ∧ ∃ l : List Nat, AL (fun k9 => v1.toInt ≤ (lkM Fn k9 v0).toInt) (cn 1) l ∧ l.length ≤ w0 ∧ c8 44 = l.length ∧ c8 44 ≤ 8 ∧ AK c8 F8 ∧ RWF (F8 42) nI l ∧ (TBL (fun a b => apM (Fn 3 (l.getD a 0)) (Fn 4 (l.getD a 0)) (Fn 3 (l.getD b 0)) (Fn 4 (l.getD b 0))) (fun a => Fn 3 (l.getD a 0) + Fn 4 (l.getD a 0)) l.length (F8 43) (2 ^ l.length))); exact Or.inl ⟨rfl, Or.inl ⟨i8, by (first | omega | (have zz0 := Hid.u hi_c8; have zz1 := Hid.u hi_cn; have zz2 := Hid.u hq_c8; omega)), by rw [← e7_8]; (first | omega | (have zz0 := Hid.u hi_c8; have zz1 := Hid.u hi_cn; have zz2 := Hid.u hq_c8; omega))⟩⟩)⟩, by rw [ht]; exact hP, hD⟩, hS.F ht⟩) hS.2.2 (oc_172 29 (aq_5 shX12_lays_24))
  exact lp_8 _ 0 (va_up cn 44 0) Fn _ _ (Nat.lt_succ_self _) ⟨(by (first | omega | (have zz0 := Hid.u hi_cn; omega))), (Fr.mo (Fr.c 44 Fr.rf) (sbl rfl) (sbl rfl) (sbl rfl)), (IM.fr (In := In) hI (Fr.c 44 Fr.rf) (by decide) (by decide)), (Nat.zero_le _), AK.zero, ⟨[], rfl, rfl, RWF.nil⟩, (fun k hk => absurd hk (Nat.not_lt_zero k))⟩ hP hD hS ls (lv_sub hl [0, 1, 2, 3, 4] rfl)
