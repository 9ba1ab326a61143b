theorem ap_b {x y u v : Int32} (p : XYB x y) (q : XYB u v) : 0 ≤ (apM x y u v).toInt ∧ (apM x y u v).toInt ≤ 198 := by
  rw [← wy_ap p q]
  exact wy_b p q



set_option maxRecDepth 100000 in
set_option maxHeartbeats 4000000 in
theorem q_goes9 (l : Launch) (D : va_G) (cI cB cZ : ClassId) (g : Nat → Nat) (cn : Nat → Nat) (In : Nat → Int32) (Fn : Nat → Nat → Int32) (l0 : List Nat) (sz : Nat) (hI : IM cn Fn) (h44 : cn 44 ≤ 8) (hAK : AK cn Fn) (hl0 : cn 44 = l0.length) (h42 : RWF (Fn 42) nI l0) (hxy : ∀ k : Nat, k < cn 1 → XYB (Fn 3 k) (Fn 4 k)) (hk0 : ∀ a : Nat, a < l0.length → l0.getD a 0 < cn 1) : Met l yX12_goes (CWS yX12_goes cX12_goes 7 none) (RM 2 0 0) (PBw [.ref (g 100)] D cI cB cZ (wM cI cB cZ g cn In Fn) sz) (va_Qv (fun (u : (Nat → Nat) × (Nat → Int32) × (Nat → Nat → Int32)) => (fun c2 I2 F2 => Fr [] [] [43] cn In Fn c2 I2 F2 ∧ IM c2 F2 ∧ (TBL (fun a b => apM (Fn 3 (l0.getD a 0)) (Fn 4 (l0.getD a 0)) (Fn 3 (l0.getD b 0)) (Fn 4 (l0.getD b 0))) (fun a => Fn 3 (l0.getD a 0) + Fn 4 (l0.getD a 0)) (cn 44) (F2 43) (2 ^ cn 44))) u.1 u.2.1 u.2.2) (fun (u : (Nat → Nat) × (Nat → Int32) × (Nat → Nat → Int32)) (t : State) => va_P D vwCl (wM cI cB cZ g u.1 u.2.1 u.2.2) t.heap ∧ va_D (va_A (wM cI cB cZ g cn In Fn) sz) (wM cI cB cZ g u.1 u.2.1 u.2.2)) (va_A (wM cI cB cZ g cn In Fn) sz)) 0 0 (va_A (wM cI cB cZ g cn In Fn) sz) := by
  refine en_w (fun A => (va_Qv (fun (u : (Nat → Nat) × (Nat → Int32) × (Nat → Nat → Int32)) => (fun (c2 : Nat → Nat) (I2 : Nat → Int32) (F2 : Nat → Nat → Int32) => Fr [] [] [43] cn In Fn c2 I2 F2 ∧ IM c2 F2 ∧ (TBL (fun a b => apM (Fn 3 (l0.getD a 0)) (Fn 4 (l0.getD a 0)) (Fn 3 (l0.getD b 0)) (Fn 4 (l0.getD b 0))) (fun a => Fn 3 (l0.getD a 0) + Fn 4 (l0.getD a 0)) (cn 44) (F2 43) (2 ^ cn 44))) u.1 u.2.1 u.2.2) (fun (u : (Nat → Nat) × (Nat → Int32) × (Nat → Nat → Int32)) (t : State) => va_P D vwCl (wM cI cB cZ g u.1 u.2.1 u.2.2) t.heap ∧ va_D A (wM cI cB cZ g u.1 u.2.1 u.2.2)) A)) rfl rfl pn_RX12 (Nat.le_of_ble_eq_true rfl) (fun p e s m below meth c A hx hb hml hown S hr hlocks hnm hA hP hK hD hS ls hl => ?_)
  have hl : lv_has ls 7 [(0, .ref (g 100))] := hl
  have hi_cn : Hid (CB cn) := hI.b
  have h2p := full_le (m := cn 44) h44
  have hw9 : ∀ a b : Nat, a < cn 44 → b < cn 44 → 0 ≤ ((fun a b => apM (Fn 3 (l0.getD a 0)) (Fn 4 (l0.getD a 0)) (Fn 3 (l0.getD b 0)) (Fn 4 (l0.getD b 0))) a b).toInt ∧ ((fun a b => apM (Fn 3 (l0.getD a 0)) (Fn 4 (l0.getD a 0)) (Fn 3 (l0.getD b 0)) (Fn 4 (l0.getD b 0))) a b).toInt ≤ 198 := fun a b ha hb => ap_b (hxy _ (hk0 a (by (first | omega | (have zz0 := Hid.u hi_cn; omega))))) (hxy _ (hk0 b (by (first | omega | (have zz0 := Hid.u hi_cn; omega)))))
  have hd9 : ∀ a : Nat, a < cn 44 → 0 ≤ ((fun a => Fn 3 (l0.getD a 0) + Fn 4 (l0.getD a 0)) a).toInt ∧ ((fun a => Fn 3 (l0.getD a 0) + Fn 4 (l0.getD a 0)) a).toInt ≤ 198 := fun a ha => dp_b (hxy _ (hk0 a (by (first | omega | (have zz0 := Hid.u hi_cn; omega)))))
  refine lv_iconst (v := 1) hx hb (oc_4 0 shX12_goes_0) kic_1 ?_
  refine lv_aload_n hx hb (oc_42 1 (aq_1 shX12_goes_0)) rfl (lvA0 hl) ?_
  refine gM_364 S hK hP (v := .int (nI (cn 44))) rfl (oc_180 2 (aq_2 shX12_goes_0) uw_1_108) ?_
  refine lv_ishl hx hb (oc_120 5 (aq_5 shX12_goes_0)) ?_
  refine lv_topi (fun y_1 ey_1 => ?_)
  obtain rfl : y_1 = (nI (2 ^ cn 44)) := ey_1.trans (sh1 (by (first | omega | (have zz0 := Hid.u hi_cn; omega))))
  refine lv_iconst (v := 1) hx hb (oc_4 6 (aq_6 shX12_goes_0)) kic_1 ?_
  refine lv_isub hx hb (oc_100 7 (aq_7 shX12_goes_0)) ?_
  refine lv_topi (fun y_2 ey_2 => ?_)
  obtain rfl : y_2 = (nI (2 ^ cn 44 - 1)) := ey_2.trans (nI_sub (b := 1) (full_le (by (first | omega | (have zz0 := Hid.u hi_cn; omega)))).1)
  refine lv_istore_n (lv' := [(1, .int (nI (2 ^ cn 44 - 1))), (0, .ref (g 100))]) hx hb (oc_60 8 (aq_8 shX12_goes_0)) rfl hl (ltb rfl) rfl (fun ls hl => ?_)
  refine lv_iconst (v := 0) hx hb (oc_3 9 (aq_9 shX12_goes_0)) kic_0 ?_
  refine lv_istore_n (lv' := [(2, .int 0), (1, .int (nI (2 ^ cn 44 - 1))), (0, .ref (g 100))]) hx hb (oc_61 10 (aq_10 shX12_goes_0)) rfl hl (ltb rfl) rfl (fun ls hl => ?_)
  have lp_11 : ∀ (n : Nat) (i11 : Nat) (F11 : Nat → Nat → Int32) (H : Heap) (locs : List Loc) , 2 ^ cn 44 - i11 < n → (i11 ≤ 2 ^ cn 44 ∧ Fr [] [] [43] cn In Fn cn In F11 ∧ IM cn F11 ∧ (AK cn F11) ∧ (TBL (fun a b => apM (Fn 3 (l0.getD a 0)) (Fn 4 (l0.getD a 0)) (Fn 3 (l0.getD b 0)) (Fn 4 (l0.getD b 0))) (fun a => Fn 3 (l0.getD a 0) + Fn 4 (l0.getD a 0)) (cn 44) (F11 43) i11)) → va_P D vwCl (wM cI cB cZ g cn In F11) H → va_D A (wM cI cB cZ g cn In F11) → va_S A s.heap H locs → ∀ ls : Array Slot, lv_has ls 7 [(2, .int (nI i11)), (1, .int (nI (2 ^ cn 44 - 1))), (0, .ref (g 100))] → W p l e (RM 2 0 0) s m ([.ref (g 100)]).toArray below meth c H locs 0 0 (MQ below (va_Qv (fun (u : (Nat → Nat) × (Nat → Int32) × (Nat → Nat → Int32)) => (fun c2 I2 F2 => Fr [] [] [43] cn In Fn c2 I2 F2 ∧ IM c2 F2 ∧ (TBL (fun a b => apM (Fn 3 (l0.getD a 0)) (Fn 4 (l0.getD a 0)) (Fn 3 (l0.getD b 0)) (Fn 4 (l0.getD b 0))) (fun a => Fn 3 (l0.getD a 0) + Fn 4 (l0.getD a 0)) (cn 44) (F2 43) (2 ^ cn 44))) u.1 u.2.1 u.2.2) (fun (u : (Nat → Nat) × (Nat → Int32) × (Nat → Nat → Int32)) (t : State) => va_P D vwCl (wM cI cB cZ g u.1 u.2.1 u.2.2) t.heap ∧ va_D A (wM cI cB cZ g u.1 u.2.1 u.2.2)) A) ([.ref (g 100)]).toArray s 0 0 A) (F0 m 11 ls []) := by
    intro n11
    induction n11 with
    | zero => intros; (first | omega | (have zz0 := Hid.u hi_cn; omega))
    | succ n11 ih11 =>
      intro i11 F11 H locs hmu11 hinv11 hP hD hS ls hl
      obtain ⟨hr11, hfr11, hI11, hx11_0, hx11_1⟩ := hinv11
      have ti11 : (nI i11).toInt = (i11 : Int) := nI_toInt (by (first | omega | (have zz0 := Hid.u hi_cn; omega)))
      have hi_cn : Hid (CB cn) := hI11.b
      have h42_11 : RWF (F11 42) nI l0 := by rw [hfr11.2.2 42 (nml rfl)]; exact h42
      have e3_11 : F11 3 = Fn 3 := hfr11.2.2 3 (nml rfl)
      have e4_11 : F11 4 = Fn 4 := hfr11.2.2 4 (nml rfl)
      refine lv_iload_n hx hb (oc_28 11 (aq_11 shX12_goes_0)) rfl (lvA0 hl) ?_
      refine lv_iload_n hx hb (oc_27 12 (aq_12 shX12_goes_0)) rfl (lvA1 hl) ?_
      have : (nI (2 ^ cn 44 - 1)).toInt = (((2 ^ cn 44 - 1) : Nat) : Int) := nI_toInt (by (first | omega | (have zz0 := Hid.u hi_cn; omega)))
      refine lv_icmp_gt (tgt := 158) hx hb (oc_163 13 (aq_13 shX12_goes_0) sgw_0_145) rfl (fun c_3 => ?_) (fun c_3 => ?_)
      ·
        have tc_3 : ((nI (2 ^ cn 44 - 1)).toInt : Int) < (nI i11).toInt := Int32.lt_iff_toInt_lt.mp c_3
        exact W.vret hx hb hr (fun t ht hW => ⟨⟨(cn, In, F11), rfl, ⟨(Fr.mo hfr11 (sbl rfl) (sbl rfl) (sbl rfl)), hI11, (by show TBL (fun a b => apM (Fn 3 (l0.getD a 0)) (Fn 4 (l0.getD a 0)) (Fn 3 (l0.getD b 0)) (Fn 4 (l0.getD b 0))) (fun a => Fn 3 (l0.getD a 0) + Fn 4 (l0.getD a 0)) (cn 44) (F11 43) (2 ^ cn 44); have e9 : i11 = 2 ^ cn 44 := (by (first | omega | (have zz0 := Hid.u hi_cn; omega))); rw [← e9]; exact hx11_1)⟩, by rw [ht]; exact hP, hD⟩, hS.F ht⟩) hS.2.2 (oc_177 158 (aq_9 shX12_goes_149))
      ·
        have tc_3 : ((nI i11).toInt : Int) ≤ (nI (2 ^ cn 44 - 1)).toInt := Int32.le_iff_toInt_le.mp (Int32.not_lt.mp c_3)
        refine lv_iconst (v := 0) hx hb (oc_3 16 (aq_16 shX12_goes_0)) kic_0 ?_
        refine lv_istore_n (lv' := [(3, .int 0), (2, .int (nI i11)), (1, .int (nI (2 ^ cn 44 - 1))), (0, .ref (g 100))]) hx hb (oc_62 17 (aq_17 shX12_goes_0)) rfl hl (ltb rfl) rfl (fun ls hl => ?_)
        have lp_18 : ∀ (n : Nat) (i18 : Nat) (F18 : Nat → Nat → Int32) (H : Heap) (locs : List Loc) , cn 44 - i18 < n → (i18 ≤ cn 44 ∧ Fr [] [] [43] cn In Fn cn In F18 ∧ IM cn F18 ∧ (AK cn F18) ∧ (TBL (fun a b => apM (Fn 3 (l0.getD a 0)) (Fn 4 (l0.getD a 0)) (Fn 3 (l0.getD b 0)) (Fn 4 (l0.getD b 0))) (fun a => Fn 3 (l0.getD a 0) + Fn 4 (l0.getD a 0)) (cn 44) (F18 43) i11) ∧ (∀ a : Nat, a < i18 → TBR (fun a b => apM (Fn 3 (l0.getD a 0)) (Fn 4 (l0.getD a 0)) (Fn 3 (l0.getD b 0)) (Fn 4 (l0.getD b 0))) (fun a => Fn 3 (l0.getD a 0) + Fn 4 (l0.getD a 0)) (cn 44) (F18 43) i11 a)) → va_P D vwCl (wM cI cB cZ g cn In F18) H → va_D A (wM cI cB cZ g cn In F18) → va_S A s.heap H locs → ∀ ls : Array Slot, lv_has ls 7 [(3, .int (nI i18)), (2, .int (nI i11)), (1, .int (nI (2 ^ cn 44 - 1))), (0, .ref (g 100))] → W p l e (RM 2 0 0) s m ([.ref (g 100)]).toArray below meth c H locs 0 0 (MQ below (va_Qv (fun (u : (Nat → Nat) × (Nat → Int32) × (Nat → Nat → Int32)) => (fun c2 I2 F2 => Fr [] [] [43] cn In Fn c2 I2 F2 ∧ IM c2 F2 ∧ (TBL (fun a b => apM (Fn 3 (l0.getD a 0)) (Fn 4 (l0.getD a 0)) (Fn 3 (l0.getD b 0)) (Fn 4 (l0.getD b 0))) (fun a => Fn 3 (l0.getD a 0) + Fn 4 (l0.getD a 0)) (cn 44) (F2 43) (2 ^ cn 44))) u.1 u.2.1 u.2.2) (fun (u : (Nat → Nat) × (Nat → Int32) × (Nat → Nat → Int32)) (t : State) => va_P D vwCl (wM cI cB cZ g u.1 u.2.1 u.2.2) t.heap ∧ va_D A (wM cI cB cZ g u.1 u.2.1 u.2.2)) A) ([.ref (g 100)]).toArray s 0 0 A) (F0 m 18 ls []) := by
          intro n18
          induction n18 with
          | zero => intros; (first | omega | (have zz0 := Hid.u hi_cn; omega))
          | succ n18 ih18 =>
            intro i18 F18 H locs hmu18 hinv18 hP hD hS ls hl
            obtain ⟨hr18, hfr18, hI18, hx18_0, hx18_1, hx18_2⟩ := hinv18
            have ti18 : (nI i18).toInt = (i18 : Int) := nI_toInt (by (first | omega | (have zz0 := Hid.u hi_cn; omega)))
            have hi_cn : Hid (CB cn) := hI18.b
            have h42_18 : RWF (F18 42) nI l0 := by rw [hfr18.2.2 42 (nml rfl)]; exact h42
            have e3_18 : F18 3 = Fn 3 := hfr18.2.2 3 (nml rfl)
            have e4_18 : F18 4 = Fn 4 := hfr18.2.2 4 (nml rfl)
            refine lv_iload_n hx hb (oc_29 18 (aq_18 shX12_goes_0)) rfl (lvA0 hl) ?_
            refine lv_aload_n hx hb (oc_42 19 (aq_19 shX12_goes_0)) rfl (lvA3 hl) ?_
            refine gM_364 S hK hP (v := .int (nI (cn 44))) rfl (oc_180 20 (aq_20 shX12_goes_0) uw_1_108) ?_
            have : (nI (cn 44)).toInt = (((cn 44) : Nat) : Int) := nI_toInt (by (first | omega | (have zz0 := Hid.u hi_cn; omega)))
            refine lv_icmp_ge (tgt := 152) hx hb (oc_162 23 (aq_23 shX12_goes_0) sgw_0_129) rfl (fun c_4 => ?_) (fun c_4 => ?_)
            ·
              have tc_4 : ((nI (cn 44)).toInt : Int) ≤ (nI i18).toInt := Int32.le_iff_toInt_le.mp c_4
              refine lv_iinc (v := (nI (i11 + 1))) (lv' := [(2, .int (nI (i11 + 1))), (3, .int (nI i18)), (1, .int (nI (2 ^ cn 44 - 1))), (0, .ref (g 100))]) hx hb (oc_132 152 (aq_3 shX12_goes_149) ub_2 sgb_1) hl (k := 1) rfl (nI_1 _) (ltb rfl) rfl (fun ls hl => ?_)
              refine lv_goto (tgt := 11) hx hb (oc_167 155 (aq_6 shX12_goes_149) sgw_255_112) rfl ?_
              exact ih11 (i11 + 1) F18 _ _ (by (first | omega | (have zz0 := Hid.u hi_cn; omega))) ⟨(by (first | omega | (have zz0 := Hid.u hi_cn; omega))), (Fr.mo hfr18 (sbl rfl) (sbl rfl) (sbl rfl)), hI18, hx18_0, (TBL.sc hx18_1 (fun a ha ta => hx18_2 a (by (first | omega | (have zz0 := Hid.u hi_cn; omega)))))⟩ hP hD hS ls (lv_sub hl [0, 2, 3] rfl)
            ·
              have tc_4 : ((nI i18).toInt : Int) < (nI (cn 44)).toInt := Int32.lt_iff_toInt_lt.mp (Int32.not_le.mp c_4)
              refine lv_iload_n hx hb (oc_28 26 shX12_goes_26) rfl (lvA1 hl) ?_
              refine lv_if_ne (tgt := 43) hx hb (oc_154 27 (aq_1 shX12_goes_26) sgw_0_16) rfl (fun c_5 => ?_) (fun c_5 => ?_)
              ·
                have tc_5 : ((nI i11).toInt : Int) ≠ 0 := fun q => c_5 (Int32.toInt_inj.mp q)
                refine lv_ldcw (v := 1000000) hx hb hown (S.2.2.2.2 _ (wk8_10 9 rfl rfl)) (oc_19 43 (aq_17 shX12_goes_26) uw_1_114) ?_
                refine lv_istore (lv' := [(4, .int 1000000), (3, .int (nI i18)), (2, .int (nI i11)), (1, .int (nI (2 ^ cn 44 - 1))), (0, .ref (g 100))]) hx hb dX12_goes_46 hl (ltb rfl) rfl (fun ls hl => ?_)
                refine lv_iconst (v := 0) hx hb dX12_goes_48 kic_0 ?_
                refine lv_istore (lv' := [(5, .int 0), (4, .int 1000000), (3, .int (nI i18)), (2, .int (nI i11)), (1, .int (nI (2 ^ cn 44 - 1))), (0, .ref (g 100))]) hx hb dX12_goes_49 hl (ltb rfl) rfl (fun ls hl => ?_)
                have lp_51 : ∀ (n : Nat) (i51 : Nat) (x51_4 : Int32) , cn 44 - i51 < n → (i51 ≤ cn 44 ∧ ((i11 = 0 ∧ x51_4 = (F18 3 (l0.getD i18 0) + F18 4 (l0.getD i18 0))) ∨ (¬ i11 = 0 ∧ PMN 1000000 i11 i51 (fun b => apM (F18 3 (l0.getD i18 0)) (F18 4 (l0.getD i18 0)) (F18 3 (l0.getD b 0)) (F18 4 (l0.getD b 0)) + F18 43 (8 * clr i11 b + b)) x51_4))) → ∀ ls : Array Slot, lv_has ls 7 [(5, .int (nI i51)), (4, .int x51_4), (3, .int (nI i18)), (2, .int (nI i11)), (1, .int (nI (2 ^ cn 44 - 1))), (0, .ref (g 100))] → W p l e (RM 2 0 0) s m ([.ref (g 100)]).toArray below meth c H locs 0 0 (MQ below (va_Qv (fun (u : (Nat → Nat) × (Nat → Int32) × (Nat → Nat → Int32)) => (fun c2 I2 F2 => Fr [] [] [43] cn In Fn c2 I2 F2 ∧ IM c2 F2 ∧ (TBL (fun a b => apM (Fn 3 (l0.getD a 0)) (Fn 4 (l0.getD a 0)) (Fn 3 (l0.getD b 0)) (Fn 4 (l0.getD b 0))) (fun a => Fn 3 (l0.getD a 0) + Fn 4 (l0.getD a 0)) (cn 44) (F2 43) (2 ^ cn 44))) u.1 u.2.1 u.2.2) (fun (u : (Nat → Nat) × (Nat → Int32) × (Nat → Nat → Int32)) (t : State) => va_P D vwCl (wM cI cB cZ g u.1 u.2.1 u.2.2) t.heap ∧ va_D A (wM cI cB cZ g u.1 u.2.1 u.2.2)) A) ([.ref (g 100)]).toArray s 0 0 A) (F0 m 51 ls []) := by
                  intro n51
                  induction n51 with
                  | zero => intros; (first | omega | (have zz0 := Hid.u hi_cn; omega))
                  | succ n51 ih51 =>
                    intro i51 x51_4 hmu51 hinv51 ls hl
                    obtain ⟨hr51, hx51_0⟩ := hinv51
                    have ti51 : (nI i51).toInt = (i51 : Int) := nI_toInt (by (first | omega | (have zz0 := Hid.u hi_cn; omega)))
                    have hb51 : ∀ b : Nat, b < cn 44 → i11.testBit b = true → 0 ≤ (apM (F18 3 (l0.getD i18 0)) (F18 4 (l0.getD i18 0)) (F18 3 (l0.getD b 0)) (F18 4 (l0.getD b 0)) + F18 43 (8 * clr i11 b + b)).toInt ∧ (apM (F18 3 (l0.getD i18 0)) (F18 4 (l0.getD i18 0)) (F18 3 (l0.getD b 0)) (F18 4 (l0.getD b 0)) + F18 43 (8 * clr i11 b + b)).toInt < 1000000 := fun b hb tb => by show 0 ≤ (apM (F18 3 (l0.getD i18 0)) (F18 4 (l0.getD i18 0)) (F18 3 (l0.getD b 0)) (F18 4 (l0.getD b 0)) + F18 43 (8 * clr i11 b + b)).toInt ∧ (apM (F18 3 (l0.getD i18 0)) (F18 4 (l0.getD i18 0)) (F18 3 (l0.getD b 0)) (F18 4 (l0.getD b 0)) + F18 43 (8 * clr i11 b + b)).toInt < 1000000; rw [e3_18, e4_18]; exact TBL.g (by (first | omega | (have zz0 := Hid.u hi_cn; omega))) h44 hw9 hd9 hx18_1 (hw9 i18 b (by (first | omega | (have zz0 := Hid.u hi_cn; omega))) hb) hb tb
                    refine lv_iload hx hb dX12_goes_51 (lvA0 hl) ?_
                    refine lv_aload_n hx hb dX12_goes_53 rfl (lvA5 hl) ?_
                    refine gM_364 S hK hP (v := .int (nI (cn 44))) rfl dX12_goes_54 ?_
                    refine lv_icmp_ge (tgt := 133) hx hb dX12_goes_57 rfl (fun c_6 => ?_) (fun c_6 => ?_)
                    ·
                      have tc_6 : ((nI (cn 44)).toInt : Int) ≤ (nI i51).toInt := Int32.le_iff_toInt_le.mp c_6
                      refine lv_aload_n hx hb dX12_goes_133 rfl (lvA5 hl) ?_
                      refine gM_104 S hK hP (v := .ref (g 43)) rfl dX12_goes_134 ?_
                      refine lv_bipush (v := 8) hx hb dX12_goes_137 kbc_8 ?_
                      refine lv_iload_n hx hb dX12_goes_139 rfl (lvA3 hl) ?_
                      refine lv_imul hx hb dX12_goes_140 ?_
                      refine lv_topi (fun y_7 ey_7 => ?_)
                      obtain rfl : y_7 = (nI (8 * i11)) := ey_7.trans (pk_mul 8 i11)
                      refine lv_iload_n hx hb dX12_goes_141 rfl (lvA2 hl) ?_
                      refine lv_iadd hx hb dX12_goes_142 ?_
                      refine lv_topi (fun y_8 ey_8 => ?_)
                      obtain rfl : y_8 = (nI ((8 * i11) + i18)) := ey_8.trans (nI_add (8 * i11) i18)
                      refine lv_iload hx hb dX12_goes_143 (lvA1 hl) ?_
                      have kb_1 : ((8 * i11) + i18) < 2048 := by (first | omega | (have zz0 := Hid.u hi_cn; omega))
                      refine stM_43 hx hb hK hP hD hS (Fn2 := (va_up F18 43 (upd (F18 43) ((8 * i11) + i18) x51_4))) (vp_in_nI kb_1 (ltb rfl)) (nI_clamp (Nat.lt_trans kb_1 (ltb rfl))) rfl dX12_goes_145 (fun H locs hP hD hS => ?_)
                      refine lv_iinc (v := (nI (i18 + 1))) (lv' := [(3, .int (nI (i18 + 1))), (5, .int (nI i51)), (4, .int x51_4), (2, .int (nI i11)), (1, .int (nI (2 ^ cn 44 - 1))), (0, .ref (g 100))]) hx hb dX12_goes_146 hl (k := 2) rfl (nI_1 _) (ltb rfl) rfl (fun ls hl => ?_)
                      refine lv_goto (tgt := 18) hx hb dX12_goes_149 rfl ?_
                      exact ih18 (i18 + 1) (va_up F18 43 (upd (F18 43) ((8 * i11) + i18) x51_4)) _ _ (by (first | omega | (have zz0 := Hid.u hi_cn; omega))) ⟨(by (first | omega | (have zz0 := Hid.u hi_cn; omega))), (Fr.mo (Fr.f 43 hfr18) (sbl rfl) (sbl rfl) (sbl rfl)), (IM.fr (In := In) hI18 (Fr.f 43 Fr.rf) (by decide) (by decide)), (AK.fr (In := In) hx18_0 (Fr.f 43 Fr.rf) (by decide) (by decide)), (by show TBL (fun a b => apM (Fn 3 (l0.getD a 0)) (Fn 4 (l0.getD a 0)) (Fn 3 (l0.getD b 0)) (Fn 4 (l0.getD b 0))) (fun a => Fn 3 (l0.getD a 0) + Fn 4 (l0.getD a 0)) (cn 44) (upd (F18 43) (8 * i11 + i18) x51_4) i11; exact TBL.put h44 hx18_1), (by intro a ha; show TBR (fun a b => apM (Fn 3 (l0.getD a 0)) (Fn 4 (l0.getD a 0)) (Fn 3 (l0.getD b 0)) (Fn 4 (l0.getD b 0))) (fun a => Fn 3 (l0.getD a 0) + Fn 4 (l0.getD a 0)) (cn 44) (upd (F18 43) (8 * i11 + i18) x51_4) i11 a; exact (if q9 : a = i18 then (by rw [q9]; exact (TBR.put h44 (by (first | omega | (have zz0 := Hid.u hi_cn; omega))) (by have e9 : i51 = cn 44 := (by (first | omega | (have zz0 := Hid.u hi_cn; omega))); rw [e9, e3_18, e4_18] at hx51_0; exact hx51_0.elim (fun w => Or.inl ⟨fun b _ => by rw [w.1]; exact Nat.zero_testBit b, w.2⟩) (fun w => Or.inr (PMN.f3 w.1 (by (first | omega | (have zz0 := Hid.u hi_cn; omega))) w.2))))) else TBR.oth h44 (hx18_2 a (by (first | omega | (have zz0 := Hid.u hi_cn; omega)))) q9))⟩ hP hD hS ls (lv_sub hl [0, 3, 4, 5] rfl)
                    ·
                      have tc_6 : ((nI i51).toInt : Int) < (nI (cn 44)).toInt := Int32.lt_iff_toInt_lt.mp (Int32.not_le.mp c_6)
                      refine lv_iload_n hx hb dX12_goes_60 rfl (lvA3 hl) ?_
                      refine lv_iload hx hb dX12_goes_61 (lvA0 hl) ?_
                      refine lv_ishr hx hb dX12_goes_63 ?_
                      refine lv_iconst (v := 1) hx hb dX12_goes_64 kic_1 ?_
                      refine lv_iand hx hb dX12_goes_65 ?_
                      refine lv_topi (fun y_9 ey_9 => ?_)
                      rcases bitc (l := i11) (b := i51) (by (first | omega | (have zz0 := Hid.u hi_cn; omega))) (by (first | omega | (have zz0 := Hid.u hi_cn; omega))) with ⟨hb_y_9, qy_9⟩ | ⟨hb_y_9, qy_9⟩
                      ·
                        obtain rfl : y_9 = 0 := ey_9.trans qy_9
                        refine lv_if_ne (tgt := 72) hx hb dX12_goes_66 rfl (fun h => absurd h cq_eq_0_0) (fun _ => ?_)
                        refine lv_goto (tgt := 127) hx hb dX12_goes_69 rfl ?_
                        refine lv_iinc (v := (nI (i51 + 1))) (lv' := [(5, .int (nI (i51 + 1))), (4, .int x51_4), (3, .int (nI i18)), (2, .int (nI i11)), (1, .int (nI (2 ^ cn 44 - 1))), (0, .ref (g 100))]) hx hb dX12_goes_127 hl (k := 0) rfl (nI_1 _) (ltb rfl) rfl (fun ls hl => ?_)
                        refine lv_goto (tgt := 51) hx hb dX12_goes_130 rfl ?_
                        exact ih51 (i51 + 1) x51_4 (by (first | omega | (have zz0 := Hid.u hi_cn; omega))) ⟨(by (first | omega | (have zz0 := Hid.u hi_cn; omega))), (hx51_0.elim Or.inl (fun w => Or.inr ⟨w.1, PMN.no w.2 (by assumption)⟩))⟩ ls (lv_sub hl [0, 1, 2, 3, 4, 5] rfl)
                      ·
                        obtain rfl : y_9 = 1 := ey_9.trans qy_9
                        refine lv_if_ne (tgt := 72) hx hb dX12_goes_66 rfl (fun _ => ?_) (fun h => absurd h cq_eq_1_0)
                        refine lv_aload_n hx hb dX12_goes_72 rfl (lvA5 hl) ?_
                        refine lv_aload_n hx hb dX12_goes_73 rfl (lvA5 hl) ?_
                        refine gM_101 S hK hP (v := .ref (g 42)) rfl dX12_goes_74 ?_
                        refine lv_iload_n hx hb dX12_goes_77 rfl (lvA2 hl) ?_
                        have kb_2 : i18 < 10 := by (first | omega | (have zz0 := Hid.u hi_cn; omega))
                        obtain ⟨a_10, ha_10, ea_10⟩ := hx18_0 i18 (by (first | omega | (have zz0 := Hid.u hi_cn; omega)))
                        refine ldM_42 hx hb hK hP (x := (nI a_10)) (vp_in_nI kb_2 (ltb rfl)) (nI_clamp (Nat.lt_trans kb_2 (ltb rfl))) ea_10 dX12_goes_78 ?_
                        obtain rfl : a_10 = l0.getD i18 0 := nIw_inj (by (first | omega | (have zz0 := Hid.u hi_cn; omega))) (by have := hk0 i18 (by (first | omega | (have zz0 := Hid.u hi_cn; omega))); (first | omega | (have zz0 := Hid.u hi_cn; omega))) (ea_10.symm.trans (h42_18.at (by (first | omega | (have zz0 := Hid.u hi_cn; omega)))))
                        have := hk0 i18 (by (first | omega | (have zz0 := Hid.u hi_cn; omega)))
                        refine lv_aload_n hx hb dX12_goes_79 rfl (lvA5 hl) ?_
                        refine gM_101 S hK hP (v := .ref (g 42)) rfl dX12_goes_80 ?_
                        refine lv_iload hx hb dX12_goes_83 (lvA0 hl) ?_
                        have kb_3 : i51 < 10 := by (first | omega | (have zz0 := Hid.u hi_cn; omega))
                        obtain ⟨a_11, ha_11, ea_11⟩ := hx18_0 i51 (by (first | omega | (have zz0 := Hid.u hi_cn; omega)))
                        refine ldM_42 hx hb hK hP (x := (nI a_11)) (vp_in_nI kb_3 (ltb rfl)) (nI_clamp (Nat.lt_trans kb_3 (ltb rfl))) ea_11 dX12_goes_85 ?_
                        obtain rfl : a_11 = l0.getD i51 0 := nIw_inj (by (first | omega | (have zz0 := Hid.u hi_cn; omega))) (by have := hk0 i51 (by (first | omega | (have zz0 := Hid.u hi_cn; omega))); (first | omega | (have zz0 := Hid.u hi_cn; omega))) (ea_11.symm.trans (h42_18.at (by (first | omega | (have zz0 := Hid.u hi_cn; omega)))))
                        have := hk0 i51 (by (first | omega | (have zz0 := Hid.u hi_cn; omega)))
                        refine vp_callSi (runV_ra (As := [.int (nI (l0.getD i18 0)), .int (nI (l0.getD i51 0))]) (rest := []) S (q_way l D cI cB cZ g cn In F18 (l0.getD i18 0) (l0.getD i51 0) hI18 (by (first | omega | (have zz0 := Hid.u hi_cn; omega))) (by (first | omega | (have zz0 := Hid.u hi_cn; omega)))) kV_RX12_371 hK hP 0 rfl rfl rfl ⟨Nat.le_of_ble_eq_true rfl, Nat.le_of_ble_eq_true rfl⟩ ⟨Nat.le_of_ble_eq_true rfl, Nat.le_of_ble_eq_true rfl⟩ rfl hl.1 rfl (Nat.le_of_ble_eq_true rfl) dX12_goes_86) (fun r_12 h_13 => ?_)
                        subst h_13
                        refine lv_aload_n hx hb dX12_goes_89 rfl (lvA5 hl) ?_
                        refine gM_104 S hK hP (v := .ref (g 43)) rfl dX12_goes_90 ?_
                        refine lv_bipush (v := 8) hx hb dX12_goes_93 kbc_8 ?_
                        refine lv_iload_n hx hb dX12_goes_95 rfl (lvA3 hl) ?_
                        refine lv_iconst (v := 1) hx hb dX12_goes_96 kic_1 ?_
                        refine lv_iload hx hb dX12_goes_97 (lvA0 hl) ?_
                        refine lv_ishl hx hb dX12_goes_99 ?_
                        refine lv_iconst (v := (-1)) hx hb dX12_goes_100 kic_m1 ?_
                        refine lv_ixor hx hb dX12_goes_101 ?_
                        refine lv_iand hx hb dX12_goes_102 ?_
                        refine lv_topi (fun y_14 ey_14 => ?_)
                        obtain rfl : y_14 = (nI (clr i11 i51)) := ey_14.trans (clrI (by (first | omega | (have zz0 := Hid.u hi_cn; omega))) (by (first | omega | (have zz0 := Hid.u hi_cn; omega))))
                        have hcl := clr_le (l := i11) (a := i51)
                        refine lv_imul hx hb dX12_goes_103 ?_
                        refine lv_topi (fun y_15 ey_15 => ?_)
                        obtain rfl : y_15 = (nI (8 * (clr i11 i51))) := ey_15.trans (pk_mul 8 (clr i11 i51))
                        refine lv_iload hx hb dX12_goes_104 (lvA0 hl) ?_
                        refine lv_iadd hx hb dX12_goes_106 ?_
                        refine lv_topi (fun y_16 ey_16 => ?_)
                        obtain rfl : y_16 = (nI ((8 * (clr i11 i51)) + i51)) := ey_16.trans (nI_add (8 * (clr i11 i51)) i51)
                        have kb_4 : ((8 * (clr i11 i51)) + i51) < 2048 := by (first | omega | (have zz0 := Hid.u hi_cn; omega))
                        refine ldM_43 hx hb hK hP (x := ((F18 43) ((8 * (clr i11 i51)) + i51))) (vp_in_nI kb_4 (ltb rfl)) (nI_clamp (Nat.lt_trans kb_4 (ltb rfl))) rfl dX12_goes_107 ?_
                        refine lv_iadd hx hb dX12_goes_108 ?_
                        refine lv_istore (lv' := [(6, .int ((apM ((F18 3) (l0.getD i18 0)) ((F18 4) (l0.getD i18 0)) ((F18 3) (l0.getD i51 0)) ((F18 4) (l0.getD i51 0))) + ((F18 43) ((8 * (clr i11 i51)) + i51)))), (5, .int (nI i51)), (4, .int x51_4), (3, .int (nI i18)), (2, .int (nI i11)), (1, .int (nI (2 ^ cn 44 - 1))), (0, .ref (g 100))]) hx hb dX12_goes_109 hl (ltb rfl) rfl (fun ls hl => ?_)
                        refine lv_iload hx hb dX12_goes_111 (lvA0 hl) ?_
                        refine lv_iload hx hb dX12_goes_113 (lvA2 hl) ?_
                        refine lv_icmp_ge (tgt := 123) hx hb dX12_goes_115 rfl (fun c_17 => ?_) (fun c_17 => ?_)
                        ·
                          have tc_17 : (x51_4.toInt : Int) ≤ ((apM ((F18 3) (l0.getD i18 0)) ((F18 4) (l0.getD i18 0)) ((F18 3) (l0.getD i51 0)) ((F18 4) (l0.getD i51 0))) + ((F18 43) ((8 * (clr i11 i51)) + i51))).toInt := Int32.le_iff_toInt_le.mp c_17
                          refine lv_iload hx hb dX12_goes_123 (lvA2 hl) ?_
                          refine lv_istore (lv' := [(4, .int x51_4), (6, .int ((apM ((F18 3) (l0.getD i18 0)) ((F18 4) (l0.getD i18 0)) ((F18 3) (l0.getD i51 0)) ((F18 4) (l0.getD i51 0))) + ((F18 43) ((8 * (clr i11 i51)) + i51)))), (5, .int (nI i51)), (3, .int (nI i18)), (2, .int (nI i11)), (1, .int (nI (2 ^ cn 44 - 1))), (0, .ref (g 100))]) hx hb dX12_goes_125 hl (ltb rfl) rfl (fun ls hl => ?_)
                          refine lv_iinc (v := (nI (i51 + 1))) (lv' := [(5, .int (nI (i51 + 1))), (4, .int x51_4), (6, .int ((apM ((F18 3) (l0.getD i18 0)) ((F18 4) (l0.getD i18 0)) ((F18 3) (l0.getD i51 0)) ((F18 4) (l0.getD i51 0))) + ((F18 43) ((8 * (clr i11 i51)) + i51)))), (3, .int (nI i18)), (2, .int (nI i11)), (1, .int (nI (2 ^ cn 44 - 1))), (0, .ref (g 100))]) hx hb dX12_goes_127 hl (k := 2) rfl (nI_1 _) (ltb rfl) rfl (fun ls hl => ?_)
                          refine lv_goto (tgt := 51) hx hb dX12_goes_130 rfl ?_
                          exact ih51 (i51 + 1) x51_4 (by (first | omega | (have zz0 := Hid.u hi_cn; omega))) ⟨(by (first | omega | (have zz0 := Hid.u hi_cn; omega))), (hx51_0.elim (fun w => absurd (show i11.testBit i51 = true by assumption) (by rw [w.1, Nat.zero_testBit]; decide)) (fun w => Or.inr ⟨w.1, PMN.ge w.2 (by (first | omega | (have zz0 := Hid.u hi_cn; omega))) (Or.inr (Or.inr (hb51 i51 (by (first | omega | (have zz0 := Hid.u hi_cn; omega))) (by assumption)).2))⟩))⟩ ls (lv_sub hl [0, 1, 3, 4, 5, 6] rfl)
                        ·
                          have tc_17 : (((apM ((F18 3) (l0.getD i18 0)) ((F18 4) (l0.getD i18 0)) ((F18 3) (l0.getD i51 0)) ((F18 4) (l0.getD i51 0))) + ((F18 43) ((8 * (clr i11 i51)) + i51))).toInt : Int) < x51_4.toInt := Int32.lt_iff_toInt_lt.mp (Int32.not_le.mp c_17)
                          refine lv_iload hx hb dX12_goes_118 (lvA0 hl) ?_
                          refine lv_goto (tgt := 125) hx hb dX12_goes_120 rfl ?_
                          refine lv_istore (lv' := [(4, .int ((apM ((F18 3) (l0.getD i18 0)) ((F18 4) (l0.getD i18 0)) ((F18 3) (l0.getD i51 0)) ((F18 4) (l0.getD i51 0))) + ((F18 43) ((8 * (clr i11 i51)) + i51)))), (6, .int ((apM ((F18 3) (l0.getD i18 0)) ((F18 4) (l0.getD i18 0)) ((F18 3) (l0.getD i51 0)) ((F18 4) (l0.getD i51 0))) + ((F18 43) ((8 * (clr i11 i51)) + i51)))), (5, .int (nI i51)), (3, .int (nI i18)), (2, .int (nI i11)), (1, .int (nI (2 ^ cn 44 - 1))), (0, .ref (g 100))]) hx hb dX12_goes_125 hl (ltb rfl) rfl (fun ls hl => ?_)
                          refine lv_iinc (v := (nI (i51 + 1))) (lv' := [(5, .int (nI (i51 + 1))), (4, .int ((apM ((F18 3) (l0.getD i18 0)) ((F18 4) (l0.getD i18 0)) ((F18 3) (l0.getD i51 0)) ((F18 4) (l0.getD i51 0))) + ((F18 43) ((8 * (clr i11 i51)) + i51)))), (6, .int ((apM ((F18 3) (l0.getD i18 0)) ((F18 4) (l0.getD i18 0)) ((F18 3) (l0.getD i51 0)) ((F18 4) (l0.getD i51 0))) + ((F18 43) ((8 * (clr i11 i51)) + i51)))), (3, .int (nI i18)), (2, .int (nI i11)), (1, .int (nI (2 ^ cn 44 - 1))), (0, .ref (g 100))]) hx hb dX12_goes_127 hl (k := 2) rfl (nI_1 _) (ltb rfl) rfl (fun ls hl => ?_)
                          refine lv_goto (tgt := 51) hx hb dX12_goes_130 rfl ?_
                          exact ih51 (i51 + 1) ((apM ((F18 3) (l0.getD i18 0)) ((F18 4) (l0.getD i18 0)) ((F18 3) (l0.getD i51 0)) ((F18 4) (l0.getD i51 0))) + ((F18 43) ((8 * (clr i11 i51)) + i51))) (by (first | omega | (have zz0 := Hid.u hi_cn; omega))) ⟨(by (first | omega | (have zz0 := Hid.u hi_cn; omega))), (hx51_0.elim (fun w => absurd (show i11.testBit i51 = true by assumption) (by rw [w.1, Nat.zero_testBit]; decide)) (fun w => Or.inr ⟨w.1, PMN.put w.2 (by assumption) (Or.inr (by (first | omega | (have zz0 := Hid.u hi_cn; omega)))) (fun b h9 t9 w9 => by have q9 := (hb51 b (by (first | omega | (have zz0 := Hid.u hi_cn; omega))) t9).2; have q8 := congrArg Int32.toInt w9; have q7 : (1000000 : Int32).toInt = 1000000 := rfl; (first | omega | (have zz0 := Hid.u hi_cn; omega)))⟩))⟩ ls (lv_sub hl [0, 1, 3, 4, 5, 6] rfl)
                exact lp_51 _ 0 1000000 (Nat.lt_succ_self _) ⟨(by (first | omega | (have zz0 := Hid.u hi_cn; omega))), (by first | exact Or.inl ⟨by (first | omega | (have zz0 := Hid.u hi_cn; omega)), rfl⟩ | exact Or.inr ⟨by (first | omega | (have zz0 := Hid.u hi_cn; omega)), PMN.z⟩)⟩ ls (lv_sub hl [0, 1, 2, 3, 4, 5] rfl)
              ·
                have tc_5 : ((nI i11).toInt : Int) = 0 := congrArg Int32.toInt c_5
                refine lv_aload_n hx hb (oc_42 30 (aq_4 shX12_goes_26)) rfl (lvA3 hl) ?_
                refine lv_aload_n hx hb (oc_42 31 (aq_5 shX12_goes_26)) rfl (lvA3 hl) ?_
                refine gM_101 S hK hP (v := .ref (g 42)) rfl (oc_180 32 (aq_6 shX12_goes_26) uw_0_101) ?_
                refine lv_iload_n hx hb (oc_29 35 (aq_9 shX12_goes_26)) rfl (lvA0 hl) ?_
                have kb_5 : i18 < 10 := by (first | omega | (have zz0 := Hid.u hi_cn; omega))
                obtain ⟨a_18, ha_18, ea_18⟩ := hx18_0 i18 (by (first | omega | (have zz0 := Hid.u hi_cn; omega)))
                refine ldM_42 hx hb hK hP (x := (nI a_18)) (vp_in_nI kb_5 (ltb rfl)) (nI_clamp (Nat.lt_trans kb_5 (ltb rfl))) ea_18 (oc_46 36 (aq_10 shX12_goes_26)) ?_
                obtain rfl : a_18 = l0.getD i18 0 := nIw_inj (by (first | omega | (have zz0 := Hid.u hi_cn; omega))) (by have := hk0 i18 (by (first | omega | (have zz0 := Hid.u hi_cn; omega))); (first | omega | (have zz0 := Hid.u hi_cn; omega))) (ea_18.symm.trans (h42_18.at (by (first | omega | (have zz0 := Hid.u hi_cn; omega)))))
                have := hk0 i18 (by (first | omega | (have zz0 := Hid.u hi_cn; omega)))
                refine vp_callSi (runV_ra (As := [.int (nI (l0.getD i18 0))]) (rest := []) S (q_toDepot l D cI cB cZ g cn In F18 (l0.getD i18 0) hI18 (by (first | omega | (have zz0 := Hid.u hi_cn; omega)))) kV_RX12_367 hK hP 0 rfl rfl rfl ⟨Nat.le_of_ble_eq_true rfl, Nat.le_of_ble_eq_true rfl⟩ ⟨Nat.le_of_ble_eq_true rfl, Nat.le_of_ble_eq_true rfl⟩ rfl hl.1 rfl (Nat.le_of_ble_eq_true rfl) (oc_182 37 (aq_11 shX12_goes_26) uw_1_111)) (fun r_19 h_20 => ?_)
                subst h_20
                refine lv_goto (tgt := 46) hx hb (oc_167 40 (aq_14 shX12_goes_26) sgw_0_6) rfl ?_
                refine lv_istore (lv' := [(4, .int ((F18 3) (l0.getD i18 0) + (F18 4) (l0.getD i18 0))), (3, .int (nI i18)), (2, .int (nI i11)), (1, .int (nI (2 ^ cn 44 - 1))), (0, .ref (g 100))]) hx hb dX12_goes_46 hl (ltb rfl) rfl (fun ls hl => ?_)
                refine lv_iconst (v := 0) hx hb dX12_goes_48 kic_0 ?_
                refine lv_istore (lv' := [(5, .int 0), (4, .int ((F18 3) (l0.getD i18 0) + (F18 4) (l0.getD i18 0))), (3, .int (nI i18)), (2, .int (nI i11)), (1, .int (nI (2 ^ cn 44 - 1))), (0, .ref (g 100))]) hx hb dX12_goes_49 hl (ltb rfl) rfl (fun ls hl => ?_)
                have lp_51 : ∀ (n : Nat) (i51 : Nat) (x51_4 : Int32) , cn 44 - i51 < n → (i51 ≤ cn 44 ∧ ((i11 = 0 ∧ x51_4 = (F18 3 (l0.getD i18 0) + F18 4 (l0.getD i18 0))) ∨ (¬ i11 = 0 ∧ PMN 1000000 i11 i51 (fun b => apM (F18 3 (l0.getD i18 0)) (F18 4 (l0.getD i18 0)) (F18 3 (l0.getD b 0)) (F18 4 (l0.getD b 0)) + F18 43 (8 * clr i11 b + b)) x51_4))) → ∀ ls : Array Slot, lv_has ls 7 [(5, .int (nI i51)), (4, .int x51_4), (3, .int (nI i18)), (2, .int (nI i11)), (1, .int (nI (2 ^ cn 44 - 1))), (0, .ref (g 100))] → W p l e (RM 2 0 0) s m ([.ref (g 100)]).toArray below meth c H locs 0 0 (MQ below (va_Qv (fun (u : (Nat → Nat) × (Nat → Int32) × (Nat → Nat → Int32)) => (fun c2 I2 F2 => Fr [] [] [43] cn In Fn c2 I2 F2 ∧ IM c2 F2 ∧ (TBL (fun a b => apM (Fn 3 (l0.getD a 0)) (Fn 4 (l0.getD a 0)) (Fn 3 (l0.getD b 0)) (Fn 4 (l0.getD b 0))) (fun a => Fn 3 (l0.getD a 0) + Fn 4 (l0.getD a 0)) (cn 44) (F2 43) (2 ^ cn 44))) u.1 u.2.1 u.2.2) (fun (u : (Nat → Nat) × (Nat → Int32) × (Nat → Nat → Int32)) (t : State) => va_P D vwCl (wM cI cB cZ g u.1 u.2.1 u.2.2) t.heap ∧ va_D A (wM cI cB cZ g u.1 u.2.1 u.2.2)) A) ([.ref (g 100)]).toArray s 0 0 A) (F0 m 51 ls []) := by
                  intro n51
                  induction n51 with
                  | zero => intros; (first | omega | (have zz0 := Hid.u hi_cn; omega))
                  | succ n51 ih51 =>
                    intro i51 x51_4 hmu51 hinv51 ls hl
                    obtain ⟨hr51, hx51_0⟩ := hinv51
                    have ti51 : (nI i51).toInt = (i51 : Int) := nI_toInt (by (first | omega | (have zz0 := Hid.u hi_cn; omega)))
                    have hb51 : ∀ b : Nat, b < cn 44 → i11.testBit b = true → 0 ≤ (apM (F18 3 (l0.getD i18 0)) (F18 4 (l0.getD i18 0)) (F18 3 (l0.getD b 0)) (F18 4 (l0.getD b 0)) + F18 43 (8 * clr i11 b + b)).toInt ∧ (apM (F18 3 (l0.getD i18 0)) (F18 4 (l0.getD i18 0)) (F18 3 (l0.getD b 0)) (F18 4 (l0.getD b 0)) + F18 43 (8 * clr i11 b + b)).toInt < 1000000 := fun b hb tb => by show 0 ≤ (apM (F18 3 (l0.getD i18 0)) (F18 4 (l0.getD i18 0)) (F18 3 (l0.getD b 0)) (F18 4 (l0.getD b 0)) + F18 43 (8 * clr i11 b + b)).toInt ∧ (apM (F18 3 (l0.getD i18 0)) (F18 4 (l0.getD i18 0)) (F18 3 (l0.getD b 0)) (F18 4 (l0.getD b 0)) + F18 43 (8 * clr i11 b + b)).toInt < 1000000; rw [e3_18, e4_18]; exact TBL.g (by (first | omega | (have zz0 := Hid.u hi_cn; omega))) h44 hw9 hd9 hx18_1 (hw9 i18 b (by (first | omega | (have zz0 := Hid.u hi_cn; omega))) hb) hb tb
                    refine lv_iload hx hb dX12_goes_51 (lvA0 hl) ?_
                    refine lv_aload_n hx hb dX12_goes_53 rfl (lvA5 hl) ?_
                    refine gM_364 S hK hP (v := .int (nI (cn 44))) rfl dX12_goes_54 ?_
                    refine lv_icmp_ge (tgt := 133) hx hb dX12_goes_57 rfl (fun c_21 => ?_) (fun c_21 => ?_)
                    ·
                      have tc_21 : ((nI (cn 44)).toInt : Int) ≤ (nI i51).toInt := Int32.le_iff_toInt_le.mp c_21
                      refine lv_aload_n hx hb dX12_goes_133 rfl (lvA5 hl) ?_
                      refine gM_104 S hK hP (v := .ref (g 43)) rfl dX12_goes_134 ?_
                      refine lv_bipush (v := 8) hx hb dX12_goes_137 kbc_8 ?_
                      refine lv_iload_n hx hb dX12_goes_139 rfl (lvA3 hl) ?_
                      refine lv_imul hx hb dX12_goes_140 ?_
                      refine lv_topi (fun y_22 ey_22 => ?_)
                      obtain rfl : y_22 = (nI (8 * i11)) := ey_22.trans (pk_mul 8 i11)
                      refine lv_iload_n hx hb dX12_goes_141 rfl (lvA2 hl) ?_
                      refine lv_iadd hx hb dX12_goes_142 ?_
                      refine lv_topi (fun y_23 ey_23 => ?_)
                      obtain rfl : y_23 = (nI ((8 * i11) + i18)) := ey_23.trans (nI_add (8 * i11) i18)
                      refine lv_iload hx hb dX12_goes_143 (lvA1 hl) ?_
                      have kb_6 : ((8 * i11) + i18) < 2048 := by (first | omega | (have zz0 := Hid.u hi_cn; omega))
                      refine stM_43 hx hb hK hP hD hS (Fn2 := (va_up F18 43 (upd (F18 43) ((8 * i11) + i18) x51_4))) (vp_in_nI kb_6 (ltb rfl)) (nI_clamp (Nat.lt_trans kb_6 (ltb rfl))) rfl dX12_goes_145 (fun H locs hP hD hS => ?_)
                      refine lv_iinc (v := (nI (i18 + 1))) (lv' := [(3, .int (nI (i18 + 1))), (5, .int (nI i51)), (4, .int x51_4), (2, .int (nI i11)), (1, .int (nI (2 ^ cn 44 - 1))), (0, .ref (g 100))]) hx hb dX12_goes_146 hl (k := 2) rfl (nI_1 _) (ltb rfl) rfl (fun ls hl => ?_)
                      refine lv_goto (tgt := 18) hx hb dX12_goes_149 rfl ?_
                      exact ih18 (i18 + 1) (va_up F18 43 (upd (F18 43) ((8 * i11) + i18) x51_4)) _ _ (by (first | omega | (have zz0 := Hid.u hi_cn; omega))) ⟨(by (first | omega | (have zz0 := Hid.u hi_cn; omega))), (Fr.mo (Fr.f 43 hfr18) (sbl rfl) (sbl rfl) (sbl rfl)), (IM.fr (In := In) hI18 (Fr.f 43 Fr.rf) (by decide) (by decide)), (AK.fr (In := In) hx18_0 (Fr.f 43 Fr.rf) (by decide) (by decide)), (by show TBL (fun a b => apM (Fn 3 (l0.getD a 0)) (Fn 4 (l0.getD a 0)) (Fn 3 (l0.getD b 0)) (Fn 4 (l0.getD b 0))) (fun a => Fn 3 (l0.getD a 0) + Fn 4 (l0.getD a 0)) (cn 44) (upd (F18 43) (8 * i11 + i18) x51_4) i11; exact TBL.put h44 hx18_1), (by intro a ha; show TBR (fun a b => apM (Fn 3 (l0.getD a 0)) (Fn 4 (l0.getD a 0)) (Fn 3 (l0.getD b 0)) (Fn 4 (l0.getD b 0))) (fun a => Fn 3 (l0.getD a 0) + Fn 4 (l0.getD a 0)) (cn 44) (upd (F18 43) (8 * i11 + i18) x51_4) i11 a; exact (if q9 : a = i18 then (by rw [q9]; exact (TBR.put h44 (by (first | omega | (have zz0 := Hid.u hi_cn; omega))) (by have e9 : i51 = cn 44 := (by (first | omega | (have zz0 := Hid.u hi_cn; omega))); rw [e9, e3_18, e4_18] at hx51_0; exact hx51_0.elim (fun w => Or.inl ⟨fun b _ => by rw [w.1]; exact Nat.zero_testBit b, w.2⟩) (fun w => Or.inr (PMN.f3 w.1 (by (first | omega | (have zz0 := Hid.u hi_cn; omega))) w.2))))) else TBR.oth h44 (hx18_2 a (by (first | omega | (have zz0 := Hid.u hi_cn; omega)))) q9))⟩ hP hD hS ls (lv_sub hl [0, 3, 4, 5] rfl)
                    ·
                      have tc_21 : ((nI i51).toInt : Int) < (nI (cn 44)).toInt := Int32.lt_iff_toInt_lt.mp (Int32.not_le.mp c_21)
                      refine lv_iload_n hx hb dX12_goes_60 rfl (lvA3 hl) ?_
                      refine lv_iload hx hb dX12_goes_61 (lvA0 hl) ?_
                      refine lv_ishr hx hb dX12_goes_63 ?_
                      refine lv_iconst (v := 1) hx hb dX12_goes_64 kic_1 ?_
                      refine lv_iand hx hb dX12_goes_65 ?_
                      refine lv_topi (fun y_24 ey_24 => ?_)
                      rcases bitc (l := i11) (b := i51) (by (first | omega | (have zz0 := Hid.u hi_cn; omega))) (by (first | omega | (have zz0 := Hid.u hi_cn; omega))) with ⟨hb_y_24, qy_24⟩ | ⟨hb_y_24, qy_24⟩
                      ·
                        obtain rfl : y_24 = 0 := ey_24.trans qy_24
                        refine lv_if_ne (tgt := 72) hx hb dX12_goes_66 rfl (fun h => absurd h cq_eq_0_0) (fun _ => ?_)
                        refine lv_goto (tgt := 127) hx hb dX12_goes_69 rfl ?_
                        refine lv_iinc (v := (nI (i51 + 1))) (lv' := [(5, .int (nI (i51 + 1))), (4, .int x51_4), (3, .int (nI i18)), (2, .int (nI i11)), (1, .int (nI (2 ^ cn 44 - 1))), (0, .ref (g 100))]) hx hb dX12_goes_127 hl (k := 0) rfl (nI_1 _) (ltb rfl) rfl (fun ls hl => ?_)
                        refine lv_goto (tgt := 51) hx hb dX12_goes_130 rfl ?_
                        exact ih51 (i51 + 1) x51_4 (by (first | omega | (have zz0 := Hid.u hi_cn; omega))) ⟨(by (first | omega | (have zz0 := Hid.u hi_cn; omega))), (hx51_0.elim Or.inl (fun w => Or.inr ⟨w.1, PMN.no w.2 (by assumption)⟩))⟩ ls (lv_sub hl [0, 1, 2, 3, 4, 5] rfl)
                      ·
                        obtain rfl : y_24 = 1 := ey_24.trans qy_24
                        refine lv_if_ne (tgt := 72) hx hb dX12_goes_66 rfl (fun _ => ?_) (fun h => absurd h cq_eq_1_0)
                        refine lv_aload_n hx hb dX12_goes_72 rfl (lvA5 hl) ?_
                        refine lv_aload_n hx hb dX12_goes_73 rfl (lvA5 hl) ?_
                        refine gM_101 S hK hP (v := .ref (g 42)) rfl dX12_goes_74 ?_
                        refine lv_iload_n hx hb dX12_goes_77 rfl (lvA2 hl) ?_
                        obtain ⟨a_25, ha_25, ea_25⟩ := hx18_0 i18 (by (first | omega | (have zz0 := Hid.u hi_cn; omega)))
                        refine ldM_42 hx hb hK hP (x := (nI a_25)) (vp_in_nI kb_5 (ltb rfl)) (nI_clamp (Nat.lt_trans kb_5 (ltb rfl))) ea_25 dX12_goes_78 ?_
                        obtain rfl : a_25 = l0.getD i18 0 := nIw_inj (by (first | omega | (have zz0 := Hid.u hi_cn; omega))) (by have := hk0 i18 (by (first | omega | (have zz0 := Hid.u hi_cn; omega))); (first | omega | (have zz0 := Hid.u hi_cn; omega))) (ea_25.symm.trans (h42_18.at (by (first | omega | (have zz0 := Hid.u hi_cn; omega)))))
                        have := hk0 i18 (by (first | omega | (have zz0 := Hid.u hi_cn; omega)))
                        refine lv_aload_n hx hb dX12_goes_79 rfl (lvA5 hl) ?_
                        refine gM_101 S hK hP (v := .ref (g 42)) rfl dX12_goes_80 ?_
                        refine lv_iload hx hb dX12_goes_83 (lvA0 hl) ?_
                        have kb_7 : i51 < 10 := by (first | omega | (have zz0 := Hid.u hi_cn; omega))
                        obtain ⟨a_26, ha_26, ea_26⟩ := hx18_0 i51 (by (first | omega | (have zz0 := Hid.u hi_cn; omega)))
                        refine ldM_42 hx hb hK hP (x := (nI a_26)) (vp_in_nI kb_7 (ltb rfl)) (nI_clamp (Nat.lt_trans kb_7 (ltb rfl))) ea_26 dX12_goes_85 ?_
                        obtain rfl : a_26 = l0.getD i51 0 := nIw_inj (by (first | omega | (have zz0 := Hid.u hi_cn; omega))) (by have := hk0 i51 (by (first | omega | (have zz0 := Hid.u hi_cn; omega))); (first | omega | (have zz0 := Hid.u hi_cn; omega))) (ea_26.symm.trans (h42_18.at (by (first | omega | (have zz0 := Hid.u hi_cn; omega)))))
                        have := hk0 i51 (by (first | omega | (have zz0 := Hid.u hi_cn; omega)))
                        refine vp_callSi (runV_ra (As := [.int (nI (l0.getD i18 0)), .int (nI (l0.getD i51 0))]) (rest := []) S (q_way l D cI cB cZ g cn In F18 (l0.getD i18 0) (l0.getD i51 0) hI18 (by (first | omega | (have zz0 := Hid.u hi_cn; omega))) (by (first | omega | (have zz0 := Hid.u hi_cn; omega)))) kV_RX12_371 hK hP 0 rfl rfl rfl ⟨Nat.le_of_ble_eq_true rfl, Nat.le_of_ble_eq_true rfl⟩ ⟨Nat.le_of_ble_eq_true rfl, Nat.le_of_ble_eq_true rfl⟩ rfl hl.1 rfl (Nat.le_of_ble_eq_true rfl) dX12_goes_86) (fun r_27 h_28 => ?_)
                        subst h_28
                        refine lv_aload_n hx hb dX12_goes_89 rfl (lvA5 hl) ?_
                        refine gM_104 S hK hP (v := .ref (g 43)) rfl dX12_goes_90 ?_
                        refine lv_bipush (v := 8) hx hb dX12_goes_93 kbc_8 ?_
                        refine lv_iload_n hx hb dX12_goes_95 rfl (lvA3 hl) ?_
                        refine lv_iconst (v := 1) hx hb dX12_goes_96 kic_1 ?_
                        refine lv_iload hx hb dX12_goes_97 (lvA0 hl) ?_
                        refine lv_ishl hx hb dX12_goes_99 ?_
                        refine lv_iconst (v := (-1)) hx hb dX12_goes_100 kic_m1 ?_
                        refine lv_ixor hx hb dX12_goes_101 ?_
                        refine lv_iand hx hb dX12_goes_102 ?_
                        refine lv_topi (fun y_29 ey_29 => ?_)
                        obtain rfl : y_29 = (nI (clr i11 i51)) := ey_29.trans (clrI (by (first | omega | (have zz0 := Hid.u hi_cn; omega))) (by (first | omega | (have zz0 := Hid.u hi_cn; omega))))
                        have hcl := clr_le (l := i11) (a := i51)
                        refine lv_imul hx hb dX12_goes_103 ?_
                        refine lv_topi (fun y_30 ey_30 => ?_)
                        obtain rfl : y_30 = (nI (8 * (clr i11 i51))) := ey_30.trans (pk_mul 8 (clr i11 i51))
                        refine lv_iload hx hb dX12_goes_104 (lvA0 hl) ?_
                        refine lv_iadd hx hb dX12_goes_106 ?_
                        refine lv_topi (fun y_31 ey_31 => ?_)
                        obtain rfl : y_31 = (nI ((8 * (clr i11 i51)) + i51)) := ey_31.trans (nI_add (8 * (clr i11 i51)) i51)
                        have kb_8 : ((8 * (clr i11 i51)) + i51) < 2048 := by (first | omega | (have zz0 := Hid.u hi_cn; omega))
                        refine ldM_43 hx hb hK hP (x := ((F18 43) ((8 * (clr i11 i51)) + i51))) (vp_in_nI kb_8 (ltb rfl)) (nI_clamp (Nat.lt_trans kb_8 (ltb rfl))) rfl dX12_goes_107 ?_
                        refine lv_iadd hx hb dX12_goes_108 ?_
                        refine lv_istore (lv' := [(6, .int ((apM ((F18 3) (l0.getD i18 0)) ((F18 4) (l0.getD i18 0)) ((F18 3) (l0.getD i51 0)) ((F18 4) (l0.getD i51 0))) + ((F18 43) ((8 * (clr i11 i51)) + i51)))), (5, .int (nI i51)), (4, .int x51_4), (3, .int (nI i18)), (2, .int (nI i11)), (1, .int (nI (2 ^ cn 44 - 1))), (0, .ref (g 100))]) hx hb dX12_goes_109 hl (ltb rfl) rfl (fun ls hl => ?_)
                        refine lv_iload hx hb dX12_goes_111 (lvA0 hl) ?_
                        refine lv_iload hx hb dX12_goes_113 (lvA2 hl) ?_
                        refine lv_icmp_ge (tgt := 123) hx hb dX12_goes_115 rfl (fun c_32 => ?_) (fun c_32 => ?_)
                        ·
                          have tc_32 : (x51_4.toInt : Int) ≤ ((apM ((F18 3) (l0.getD i18 0)) ((F18 4) (l0.getD i18 0)) ((F18 3) (l0.getD i51 0)) ((F18 4) (l0.getD i51 0))) + ((F18 43) ((8 * (clr i11 i51)) + i51))).toInt := Int32.le_iff_toInt_le.mp c_32
                          refine lv_iload hx hb dX12_goes_123 (lvA2 hl) ?_
                          refine lv_istore (lv' := [(4, .int x51_4), (6, .int ((apM ((F18 3) (l0.getD i18 0)) ((F18 4) (l0.getD i18 0)) ((F18 3) (l0.getD i51 0)) ((F18 4) (l0.getD i51 0))) + ((F18 43) ((8 * (clr i11 i51)) + i51)))), (5, .int (nI i51)), (3, .int (nI i18)), (2, .int (nI i11)), (1, .int (nI (2 ^ cn 44 - 1))), (0, .ref (g 100))]) hx hb dX12_goes_125 hl (ltb rfl) rfl (fun ls hl => ?_)
                          refine lv_iinc (v := (nI (i51 + 1))) (lv' := [(5, .int (nI (i51 + 1))), (4, .int x51_4), (6, .int ((apM ((F18 3) (l0.getD i18 0)) ((F18 4) (l0.getD i18 0)) ((F18 3) (l0.getD i51 0)) ((F18 4) (l0.getD i51 0))) + ((F18 43) ((8 * (clr i11 i51)) + i51)))), (3, .int (nI i18)), (2, .int (nI i11)), (1, .int (nI (2 ^ cn 44 - 1))), (0, .ref (g 100))]) hx hb dX12_goes_127 hl (k := 2) rfl (nI_1 _) (ltb rfl) rfl (fun ls hl => ?_)
                          refine lv_goto (tgt := 51) hx hb dX12_goes_130 rfl ?_
                          exact ih51 (i51 + 1) x51_4 (by (first | omega | (have zz0 := Hid.u hi_cn; omega))) ⟨(by (first | omega | (have zz0 := Hid.u hi_cn; omega))), (hx51_0.elim (fun w => absurd (show i11.testBit i51 = true by assumption) (by rw [w.1, Nat.zero_testBit]; decide)) (fun w => Or.inr ⟨w.1, PMN.ge w.2 (by (first | omega | (have zz0 := Hid.u hi_cn; omega))) (Or.inr (Or.inr (hb51 i51 (by (first | omega | (have zz0 := Hid.u hi_cn; omega))) (by assumption)).2))⟩))⟩ ls (lv_sub hl [0, 1, 3, 4, 5, 6] rfl)
                        ·
                          have tc_32 : (((apM ((F18 3) (l0.getD i18 0)) ((F18 4) (l0.getD i18 0)) ((F18 3) (l0.getD i51 0)) ((F18 4) (l0.getD i51 0))) + ((F18 43) ((8 * (clr i11 i51)) + i51))).toInt : Int) < x51_4.toInt := Int32.lt_iff_toInt_lt.mp (Int32.not_le.mp c_32)
                          refine lv_iload hx hb dX12_goes_118 (lvA0 hl) ?_
                          refine lv_goto (tgt := 125) hx hb dX12_goes_120 rfl ?_
                          refine lv_istore (lv' := [(4, .int ((apM ((F18 3) (l0.getD i18 0)) ((F18 4) (l0.getD i18 0)) ((F18 3) (l0.getD i51 0)) ((F18 4) (l0.getD i51 0))) + ((F18 43) ((8 * (clr i11 i51)) + i51)))), (6, .int ((apM ((F18 3) (l0.getD i18 0)) ((F18 4) (l0.getD i18 0)) ((F18 3) (l0.getD i51 0)) ((F18 4) (l0.getD i51 0))) + ((F18 43) ((8 * (clr i11 i51)) + i51)))), (5, .int (nI i51)), (3, .int (nI i18)), (2, .int (nI i11)), (1, .int (nI (2 ^ cn 44 - 1))), (0, .ref (g 100))]) hx hb dX12_goes_125 hl (ltb rfl) rfl (fun ls hl => ?_)
                          refine lv_iinc (v := (nI (i51 + 1))) (lv' := [(5, .int (nI (i51 + 1))), (4, .int ((apM ((F18 3) (l0.getD i18 0)) ((F18 4) (l0.getD i18 0)) ((F18 3) (l0.getD i51 0)) ((F18 4) (l0.getD i51 0))) + ((F18 43) ((8 * (clr i11 i51)) + i51)))), (6, .int ((apM ((F18 3) (l0.getD i18 0)) ((F18 4) (l0.getD i18 0)) ((F18 3) (l0.getD i51 0)) ((F18 4) (l0.getD i51 0))) + ((F18 43) ((8 * (clr i11 i51)) + i51)))), (3, .int (nI i18)), (2, .int (nI i11)), (1, .int (nI (2 ^ cn 44 - 1))), (0, .ref (g 100))]) hx hb dX12_goes_127 hl (k := 2) rfl (nI_1 _) (ltb rfl) rfl (fun ls hl => ?_)
                          refine lv_goto (tgt := 51) hx hb dX12_goes_130 rfl ?_
                          exact ih51 (i51 + 1) ((apM ((F18 3) (l0.getD i18 0)) ((F18 4) (l0.getD i18 0)) ((F18 3) (l0.getD i51 0)) ((F18 4) (l0.getD i51 0))) + ((F18 43) ((8 * (clr i11 i51)) + i51))) (by (first | omega | (have zz0 := Hid.u hi_cn; omega))) ⟨(by (first | omega | (have zz0 := Hid.u hi_cn; omega))), (hx51_0.elim (fun w => absurd (show i11.testBit i51 = true by assumption) (by rw [w.1, Nat.zero_testBit]; decide)) (fun w => Or.inr ⟨w.1, PMN.put w.2 (by assumption) (Or.inr (by (first | omega | (have zz0 := Hid.u hi_cn; omega)))) (fun b h9 t9 w9 => by have q9 := (hb51 b (by (first | omega | (have zz0 := Hid.u hi_cn; omega))) t9).2; have q8 := congrArg Int32.toInt w9; have q7 : (1000000 : Int32).toInt = 1000000 := rfl; (first | omega | (have zz0 := Hid.u hi_cn; omega)))⟩))⟩ ls (lv_sub hl [0, 1, 3, 4, 5, 6] rfl)
                exact lp_51 _ 0 ((F18 3) (l0.getD i18 0) + (F18 4) (l0.getD i18 0)) (Nat.lt_succ_self _) ⟨(by (first | omega | (have zz0 := Hid.u hi_cn; omega))), (by first | exact Or.inl ⟨by (first | omega | (have zz0 := Hid.u hi_cn; omega)), rfl⟩ | exact Or.inr ⟨by (first | omega | (have zz0 := Hid.u hi_cn; omega)), PMN.z⟩)⟩ ls (lv_sub hl [0, 1, 2, 3, 4, 5] rfl)
        exact lp_18 _ 0 F11 _ _ (Nat.lt_succ_self _) ⟨(by (first | omega | (have zz0 := Hid.u hi_cn; omega))), (Fr.mo hfr11 (sbl rfl) (sbl rfl) (sbl rfl)), hI11, hx11_0, hx11_1, (fun a ha => absurd ha (Nat.not_lt_zero a))⟩ hP hD hS ls (lv_sub hl [0, 1, 2, 3] rfl)
  exact lp_11 _ 0 Fn _ _ (Nat.lt_succ_self _) ⟨(by (first | omega | (have zz0 := Hid.u hi_cn; omega))), (Fr.mo Fr.rf (sbl rfl) (sbl rfl) (sbl rfl)), hI, hAK, TBL.z⟩ hP hD hS ls (lv_sub hl [0, 1, 2] rfl)
set_option maxRecDepth 100000 in
set_option maxHeartbeats 4000000 in
theorem q_roundTo9 (l : Launch) (D : va_G) (cI cB cZ : ClassId) (g : Nat → Nat) (cn : Nat → Nat) (In : Nat → Int32) (Fn : Nat → Nat → Int32) (s0 : Nat) (l0 : List Nat) (hI : IM cn Fn) (h44 : cn 44 ≤ 8) (hAK : AK cn Fn) (hl0 : cn 44 = l0.length) (h42 : RWF (Fn 42) nI l0) (hxy : ∀ k : Nat, k < cn 1 → XYB (Fn 3 k) (Fn 4 k)) (hk0 : ∀ a : Nat, a < l0.length → l0.getD a 0 < cn 1) (hs : s0 < 2 ^ cn 44) (htb : TBL (fun a b => apM (Fn 3 (l0.getD a 0)) (Fn 4 (l0.getD a 0)) (Fn 3 (l0.getD b 0)) (Fn 4 (l0.getD b 0))) (fun a => Fn 3 (l0.getD a 0) + Fn 4 (l0.getD a 0)) (cn 44) (Fn 43) (2 ^ cn 44)) : Met l yX12_roundTo (CWS yX12_roundTo cX12_roundTo 5 (some .int)) (RM 1 0 0) (PBr [.ref (g 100), .int (nI s0)] D cI cB cZ (wM cI cB cZ g cn In Fn)) (vp_Si (fun r => RND (fun a => Fn 3 (l0.getD a 0) + Fn 4 (l0.getD a 0)) (cn 44) (Fn 43) s0 r)) 0 0 (fun _ => False) := by
  refine en_r rfl pn_RX12 (Nat.le_of_ble_eq_true rfl) (fun p e s m below meth c hx hb hml hown S hr hlocks hnm hP hK hS ls hl => ?_)
  have hl : lv_has ls 5 [(0, .ref (g 100)), (1, .int (nI s0))] := hl
  have hi_cn : Hid (CB cn) := hI.b
  have h2p := full_le (m := cn 44) h44
  have hw9 : ∀ a b : Nat, a < cn 44 → b < cn 44 → 0 ≤ ((fun a b => apM (Fn 3 (l0.getD a 0)) (Fn 4 (l0.getD a 0)) (Fn 3 (l0.getD b 0)) (Fn 4 (l0.getD b 0))) a b).toInt ∧ ((fun a b => apM (Fn 3 (l0.getD a 0)) (Fn 4 (l0.getD a 0)) (Fn 3 (l0.getD b 0)) (Fn 4 (l0.getD b 0))) a b).toInt ≤ 198 := fun a b ha hb => ap_b (hxy _ (hk0 a (by (first | omega | (have zz0 := Hid.u hi_cn; omega))))) (hxy _ (hk0 b (by (first | omega | (have zz0 := Hid.u hi_cn; omega)))))
  have hd9 : ∀ a : Nat, a < cn 44 → 0 ≤ ((fun a => Fn 3 (l0.getD a 0) + Fn 4 (l0.getD a 0)) a).toInt ∧ ((fun a => Fn 3 (l0.getD a 0) + Fn 4 (l0.getD a 0)) a).toInt ≤ 198 := fun a ha => dp_b (hxy _ (hk0 a (by (first | omega | (have zz0 := Hid.u hi_cn; omega)))))
  have hs5 : s0 ≤ 255 := by (first | omega | (have zz0 := Hid.u hi_cn; omega))
  have htb9 : TBL (fun a b => apM (Fn 3 (l0.getD a 0)) (Fn 4 (l0.getD a 0)) (Fn 3 (l0.getD b 0)) (Fn 4 (l0.getD b 0))) (fun a => Fn 3 (l0.getD a 0) + Fn 4 (l0.getD a 0)) (cn 44) (Fn 43) s0 := fun S hS => htb S (by (first | omega | (have zz0 := Hid.u hi_cn; omega)))
  have hb14 : ∀ b : Nat, b < cn 44 → s0.testBit b = true → 0 ≤ (Fn 3 (l0.getD b 0) + Fn 4 (l0.getD b 0) + Fn 43 (8 * clr s0 b + b)).toInt ∧ (Fn 3 (l0.getD b 0) + Fn 4 (l0.getD b 0) + Fn 43 (8 * clr s0 b + b)).toInt < 1000000 := fun b hb tb => TBL.g hs5 h44 hw9 hd9 htb9 (hd9 b hb) hb tb
  refine lv_iload_n hx hb (oc_27 0 shX12_roundTo_0) rfl (lvA1 hl) ?_
  have : (nI s0).toInt = ((s0 : Nat) : Int) := nI_toInt (by (first | omega | (have zz0 := Hid.u hi_cn; omega)))
  refine lv_if_ne (tgt := 8) hx hb (oc_154 1 (aq_1 shX12_roundTo_0) sgw_0_7) rfl (fun c_1 => ?_) (fun c_1 => ?_)
  ·
    have tc_1 : ((nI s0).toInt : Int) ≠ 0 := fun q => c_1 (Int32.toInt_inj.mp q)
    refine lv_ldcw (v := 1000000) hx hb hown (S.2.2.2.2 _ (wk8_10 9 rfl rfl)) (oc_19 8 (aq_8 shX12_roundTo_0) uw_1_114) ?_
    refine lv_istore_n (lv' := [(2, .int 1000000), (0, .ref (g 100)), (1, .int (nI s0))]) hx hb dX12_roundTo_11 rfl hl (ltb rfl) rfl (fun ls hl => ?_)
    refine lv_iconst (v := 0) hx hb dX12_roundTo_12 kic_0 ?_
    refine lv_istore_n (lv' := [(3, .int 0), (2, .int 1000000), (0, .ref (g 100)), (1, .int (nI s0))]) hx hb dX12_roundTo_13 rfl hl (ltb rfl) rfl (fun ls hl => ?_)
    have lp_14 : ∀ (n : Nat) (i14 : Nat) (x14_2 : Int32) , cn 44 - i14 < n → (i14 ≤ cn 44 ∧ ((s0 = 0 ∧ x14_2 = 0) ∨ (¬ s0 = 0 ∧ PMN 1000000 s0 i14 (fun b => Fn 3 (l0.getD b 0) + Fn 4 (l0.getD b 0) + Fn 43 (8 * clr s0 b + b)) x14_2))) → ∀ ls : Array Slot, lv_has ls 5 [(3, .int (nI i14)), (2, .int x14_2), (0, .ref (g 100)), (1, .int (nI s0))] → W p l e (RM 1 0 0) s m ([.ref (g 100), .int (nI s0)]).toArray below meth c s.heap [] 0 0 (MQ below (vp_Si (fun r => RND (fun a => Fn 3 (l0.getD a 0) + Fn 4 (l0.getD a 0)) (cn 44) (Fn 43) s0 r)) ([.ref (g 100), .int (nI s0)]).toArray s 0 0 (fun _ => False)) (F0 m 14 ls []) := by
      intro n14
      induction n14 with
      | zero => intros; (first | omega | (have zz0 := Hid.u hi_cn; omega))
      | succ n14 ih14 =>
        intro i14 x14_2 hmu14 hinv14 ls hl
        obtain ⟨hr14, hx14_0⟩ := hinv14
        have ti14 : (nI i14).toInt = (i14 : Int) := nI_toInt (by (first | omega | (have zz0 := Hid.u hi_cn; omega)))
        refine lv_iload_n hx hb dX12_roundTo_14 rfl (lvA0 hl) ?_
        refine lv_aload_n hx hb dX12_roundTo_15 rfl (lvA2 hl) ?_
        refine gM_364 S hK hP (v := .int (nI (cn 44))) rfl dX12_roundTo_16 ?_
        have : (nI (cn 44)).toInt = (((cn 44) : Nat) : Int) := nI_toInt (by (first | omega | (have zz0 := Hid.u hi_cn; omega)))
        refine lv_icmp_ge (tgt := 82) hx hb dX12_roundTo_19 rfl (fun c_2 => ?_) (fun c_2 => ?_)
        ·
          have tc_2 : ((nI (cn 44)).toInt : Int) ≤ (nI i14).toInt := Int32.le_iff_toInt_le.mp c_2
          refine lv_iload_n hx hb dX12_roundTo_82 rfl (lvA1 hl) ?_
          exact W.iret (v := x14_2) hx hb hr (fun t ht hW => ⟨x14_2, rfl, (by have e9 : i14 = cn 44 := (by (first | omega | (have zz0 := Hid.u hi_cn; omega))); rw [e9] at hx14_0; exact hx14_0.elim (fun w => Or.inl ⟨fun b _ => by rw [w.1]; exact Nat.zero_testBit b, w.2⟩) (fun w => Or.inr (PMN.f3 w.1 hs w.2))), ht⟩) (fun _ h => absurd h List.not_mem_nil) dX12_roundTo_83
        ·
          have tc_2 : ((nI i14).toInt : Int) < (nI (cn 44)).toInt := Int32.lt_iff_toInt_lt.mp (Int32.not_le.mp c_2)
          refine lv_iload_n hx hb dX12_roundTo_22 rfl (lvA3 hl) ?_
          refine lv_iload_n hx hb dX12_roundTo_23 rfl (lvA0 hl) ?_
          refine lv_ishr hx hb dX12_roundTo_24 ?_
          refine lv_iconst (v := 1) hx hb dX12_roundTo_25 kic_1 ?_
          refine lv_iand hx hb dX12_roundTo_26 ?_
          refine lv_topi (fun y_3 ey_3 => ?_)
          rcases bitc (l := s0) (b := i14) (by (first | omega | (have zz0 := Hid.u hi_cn; omega))) (by (first | omega | (have zz0 := Hid.u hi_cn; omega))) with ⟨hb_y_3, qy_3⟩ | ⟨hb_y_3, qy_3⟩
          ·
            obtain rfl : y_3 = 0 := ey_3.trans qy_3
            refine lv_if_ne (tgt := 33) hx hb dX12_roundTo_27 rfl (fun h => absurd h cq_eq_0_0) (fun _ => ?_)
            refine lv_goto (tgt := 76) hx hb dX12_roundTo_30 rfl ?_
            refine lv_iinc (v := (nI (i14 + 1))) (lv' := [(3, .int (nI (i14 + 1))), (2, .int x14_2), (0, .ref (g 100)), (1, .int (nI s0))]) hx hb dX12_roundTo_76 hl (k := 0) rfl (nI_1 _) (ltb rfl) rfl (fun ls hl => ?_)
            refine lv_goto (tgt := 14) hx hb dX12_roundTo_79 rfl ?_
            exact ih14 (i14 + 1) x14_2 (by (first | omega | (have zz0 := Hid.u hi_cn; omega))) ⟨(by (first | omega | (have zz0 := Hid.u hi_cn; omega))), (hx14_0.elim Or.inl (fun w => Or.inr ⟨w.1, PMN.no w.2 (by assumption)⟩))⟩ ls (lv_sub hl [0, 1, 2, 3] rfl)
          ·
            obtain rfl : y_3 = 1 := ey_3.trans qy_3
            refine lv_if_ne (tgt := 33) hx hb dX12_roundTo_27 rfl (fun _ => ?_) (fun h => absurd h cq_eq_1_0)
            refine lv_aload_n hx hb dX12_roundTo_33 rfl (lvA2 hl) ?_
            refine lv_aload_n hx hb dX12_roundTo_34 rfl (lvA2 hl) ?_
            refine gM_101 S hK hP (v := .ref (g 42)) rfl dX12_roundTo_35 ?_
            refine lv_iload_n hx hb dX12_roundTo_38 rfl (lvA0 hl) ?_
            have kb_1 : i14 < 10 := by (first | omega | (have zz0 := Hid.u hi_cn; omega))
            obtain ⟨a_4, ha_4, ea_4⟩ := hAK i14 (by (first | omega | (have zz0 := Hid.u hi_cn; omega)))
            refine ldM_42 hx hb hK hP (x := (nI a_4)) (vp_in_nI kb_1 (ltb rfl)) (nI_clamp (Nat.lt_trans kb_1 (ltb rfl))) ea_4 dX12_roundTo_39 ?_
            obtain rfl : a_4 = l0.getD i14 0 := nIw_inj (by (first | omega | (have zz0 := Hid.u hi_cn; omega))) (by have := hk0 i14 (by (first | omega | (have zz0 := Hid.u hi_cn; omega))); (first | omega | (have zz0 := Hid.u hi_cn; omega))) (ea_4.symm.trans (h42.at (by (first | omega | (have zz0 := Hid.u hi_cn; omega)))))
            have := hk0 i14 (by (first | omega | (have zz0 := Hid.u hi_cn; omega)))
            refine vp_callSi (runV_ra (As := [.int (nI (l0.getD i14 0))]) (rest := []) S (q_toDepot l D cI cB cZ g cn In Fn (l0.getD i14 0) hI (by (first | omega | (have zz0 := Hid.u hi_cn; omega)))) kV_RX12_367 hK hP 0 rfl rfl rfl ⟨Nat.le_of_ble_eq_true rfl, Nat.le_of_ble_eq_true rfl⟩ ⟨Nat.le_of_ble_eq_true rfl, Nat.le_of_ble_eq_true rfl⟩ rfl hl.1 rfl (Nat.le_of_ble_eq_true rfl) dX12_roundTo_40) (fun r_5 h_6 => ?_)
            subst h_6
            refine lv_aload_n hx hb dX12_roundTo_43 rfl (lvA2 hl) ?_
            refine gM_104 S hK hP (v := .ref (g 43)) rfl dX12_roundTo_44 ?_
            refine lv_bipush (v := 8) hx hb dX12_roundTo_47 kbc_8 ?_
            refine lv_iload_n hx hb dX12_roundTo_49 rfl (lvA3 hl) ?_
            refine lv_iconst (v := 1) hx hb dX12_roundTo_50 kic_1 ?_
            refine lv_iload_n hx hb dX12_roundTo_51 rfl (lvA0 hl) ?_
            refine lv_ishl hx hb dX12_roundTo_52 ?_
            refine lv_iconst (v := (-1)) hx hb dX12_roundTo_53 kic_m1 ?_
            refine lv_ixor hx hb dX12_roundTo_54 ?_
            refine lv_iand hx hb dX12_roundTo_55 ?_
            refine lv_topi (fun y_7 ey_7 => ?_)
            obtain rfl : y_7 = (nI (clr s0 i14)) := ey_7.trans (clrI (by (first | omega | (have zz0 := Hid.u hi_cn; omega))) (by (first | omega | (have zz0 := Hid.u hi_cn; omega))))
            have hcl := clr_le (l := s0) (a := i14)
            refine lv_imul hx hb dX12_roundTo_56 ?_
            refine lv_topi (fun y_8 ey_8 => ?_)
            obtain rfl : y_8 = (nI (8 * (clr s0 i14))) := ey_8.trans (pk_mul 8 (clr s0 i14))
            refine lv_iload_n hx hb dX12_roundTo_57 rfl (lvA0 hl) ?_
            refine lv_iadd hx hb dX12_roundTo_58 ?_
            refine lv_topi (fun y_9 ey_9 => ?_)
            obtain rfl : y_9 = (nI ((8 * (clr s0 i14)) + i14)) := ey_9.trans (nI_add (8 * (clr s0 i14)) i14)
            have kb_2 : ((8 * (clr s0 i14)) + i14) < 2048 := by (first | omega | (have zz0 := Hid.u hi_cn; omega))
            refine ldM_43 hx hb hK hP (x := ((Fn 43) ((8 * (clr s0 i14)) + i14))) (vp_in_nI kb_2 (ltb rfl)) (nI_clamp (Nat.lt_trans kb_2 (ltb rfl))) rfl dX12_roundTo_59 ?_
            refine lv_iadd hx hb dX12_roundTo_60 ?_
            refine lv_istore (lv' := [(4, .int (((Fn 3) (l0.getD i14 0) + (Fn 4) (l0.getD i14 0)) + ((Fn 43) ((8 * (clr s0 i14)) + i14)))), (3, .int (nI i14)), (2, .int x14_2), (0, .ref (g 100)), (1, .int (nI s0))]) hx hb dX12_roundTo_61 hl (ltb rfl) rfl (fun ls hl => ?_)
            refine lv_iload hx hb dX12_roundTo_63 (lvA0 hl) ?_
            refine lv_iload_n hx hb dX12_roundTo_65 rfl (lvA2 hl) ?_
            refine lv_icmp_ge (tgt := 74) hx hb dX12_roundTo_66 rfl (fun c_10 => ?_) (fun c_10 => ?_)
            ·
              have tc_10 : (x14_2.toInt : Int) ≤ (((Fn 3) (l0.getD i14 0) + (Fn 4) (l0.getD i14 0)) + ((Fn 43) ((8 * (clr s0 i14)) + i14))).toInt := Int32.le_iff_toInt_le.mp c_10
              refine lv_iload_n hx hb dX12_roundTo_74 rfl (lvA2 hl) ?_
              refine lv_istore_n (lv' := [(2, .int x14_2), (4, .int (((Fn 3) (l0.getD i14 0) + (Fn 4) (l0.getD i14 0)) + ((Fn 43) ((8 * (clr s0 i14)) + i14)))), (3, .int (nI i14)), (0, .ref (g 100)), (1, .int (nI s0))]) hx hb dX12_roundTo_75 rfl hl (ltb rfl) rfl (fun ls hl => ?_)
              refine lv_iinc (v := (nI (i14 + 1))) (lv' := [(3, .int (nI (i14 + 1))), (2, .int x14_2), (4, .int (((Fn 3) (l0.getD i14 0) + (Fn 4) (l0.getD i14 0)) + ((Fn 43) ((8 * (clr s0 i14)) + i14)))), (0, .ref (g 100)), (1, .int (nI s0))]) hx hb dX12_roundTo_76 hl (k := 2) rfl (nI_1 _) (ltb rfl) rfl (fun ls hl => ?_)
              refine lv_goto (tgt := 14) hx hb dX12_roundTo_79 rfl ?_
              exact ih14 (i14 + 1) x14_2 (by (first | omega | (have zz0 := Hid.u hi_cn; omega))) ⟨(by (first | omega | (have zz0 := Hid.u hi_cn; omega))), (hx14_0.elim (fun w => absurd (show s0.testBit i14 = true by assumption) (by rw [w.1, Nat.zero_testBit]; decide)) (fun w => Or.inr ⟨w.1, PMN.ge w.2 (by (first | omega | (have zz0 := Hid.u hi_cn; omega))) (Or.inr (Or.inr (hb14 i14 (by (first | omega | (have zz0 := Hid.u hi_cn; omega))) (by assumption)).2))⟩))⟩ ls (lv_sub hl [0, 1, 3, 4] rfl)
            ·
              have tc_10 : ((((Fn 3) (l0.getD i14 0) + (Fn 4) (l0.getD i14 0)) + ((Fn 43) ((8 * (clr s0 i14)) + i14))).toInt : Int) < x14_2.toInt := Int32.lt_iff_toInt_lt.mp (Int32.not_le.mp c_10)
              refine lv_iload hx hb dX12_roundTo_69 (lvA0 hl) ?_
              refine lv_goto (tgt := 75) hx hb dX12_roundTo_71 rfl ?_
              refine lv_istore_n (lv' := [(2, .int (((Fn 3) (l0.getD i14 0) + (Fn 4) (l0.getD i14 0)) + ((Fn 43) ((8 * (clr s0 i14)) + i14)))), (4, .int (((Fn 3) (l0.getD i14 0) + (Fn 4) (l0.getD i14 0)) + ((Fn 43) ((8 * (clr s0 i14)) + i14)))), (3, .int (nI i14)), (0, .ref (g 100)), (1, .int (nI s0))]) hx hb dX12_roundTo_75 rfl hl (ltb rfl) rfl (fun ls hl => ?_)
              refine lv_iinc (v := (nI (i14 + 1))) (lv' := [(3, .int (nI (i14 + 1))), (2, .int (((Fn 3) (l0.getD i14 0) + (Fn 4) (l0.getD i14 0)) + ((Fn 43) ((8 * (clr s0 i14)) + i14)))), (4, .int (((Fn 3) (l0.getD i14 0) + (Fn 4) (l0.getD i14 0)) + ((Fn 43) ((8 * (clr s0 i14)) + i14)))), (0, .ref (g 100)), (1, .int (nI s0))]) hx hb dX12_roundTo_76 hl (k := 2) rfl (nI_1 _) (ltb rfl) rfl (fun ls hl => ?_)
              refine lv_goto (tgt := 14) hx hb dX12_roundTo_79 rfl ?_
              exact ih14 (i14 + 1) (((Fn 3) (l0.getD i14 0) + (Fn 4) (l0.getD i14 0)) + ((Fn 43) ((8 * (clr s0 i14)) + i14))) (by (first | omega | (have zz0 := Hid.u hi_cn; omega))) ⟨(by (first | omega | (have zz0 := Hid.u hi_cn; omega))), (hx14_0.elim (fun w => absurd (show s0.testBit i14 = true by assumption) (by rw [w.1, Nat.zero_testBit]; decide)) (fun w => Or.inr ⟨w.1, PMN.put w.2 (by assumption) (Or.inr (by (first | omega | (have zz0 := Hid.u hi_cn; omega)))) (fun b h9 t9 w9 => by have q9 := (hb14 b (by (first | omega | (have zz0 := Hid.u hi_cn; omega))) t9).2; have q8 := congrArg Int32.toInt w9; have q7 : (1000000 : Int32).toInt = 1000000 := rfl; (first | omega | (have zz0 := Hid.u hi_cn; omega)))⟩))⟩ ls (lv_sub hl [0, 1, 3, 4] rfl)
    exact lp_14 _ 0 1000000 (Nat.lt_succ_self _) ⟨(by (first | omega | (have zz0 := Hid.u hi_cn; omega))), (by first | exact Or.inl ⟨by (first | omega | (have zz0 := Hid.u hi_cn; omega)), rfl⟩ | exact Or.inr ⟨by (first | omega | (have zz0 := Hid.u hi_cn; omega)), PMN.z⟩)⟩ ls (lv_sub hl [0, 1, 2, 3] rfl)
  ·
    have tc_1 : ((nI s0).toInt : Int) = 0 := congrArg Int32.toInt c_1
    refine lv_iconst (v := 0) hx hb (oc_3 4 (aq_4 shX12_roundTo_0)) kic_0 ?_
    refine lv_goto (tgt := 11) hx hb (oc_167 5 (aq_5 shX12_roundTo_0) sgw_0_6) rfl ?_
    refine lv_istore_n (lv' := [(2, .int 0), (0, .ref (g 100)), (1, .int (nI s0))]) hx hb dX12_roundTo_11 rfl hl (ltb rfl) rfl (fun ls hl => ?_)
    refine lv_iconst (v := 0) hx hb dX12_roundTo_12 kic_0 ?_
    refine lv_istore_n (lv' := [(3, .int 0), (2, .int 0), (0, .ref (g 100)), (1, .int (nI s0))]) hx hb dX12_roundTo_13 rfl hl (ltb rfl) rfl (fun ls hl => ?_)
    have lp_14 : ∀ (n : Nat) (i14 : Nat) (x14_2 : Int32) , cn 44 - i14 < n → (i14 ≤ cn 44 ∧ ((s0 = 0 ∧ x14_2 = 0) ∨ (¬ s0 = 0 ∧ PMN 1000000 s0 i14 (fun b => Fn 3 (l0.getD b 0) + Fn 4 (l0.getD b 0) + Fn 43 (8 * clr s0 b + b)) x14_2))) → ∀ ls : Array Slot, lv_has ls 5 [(3, .int (nI i14)), (2, .int x14_2), (0, .ref (g 100)), (1, .int (nI s0))] → W p l e (RM 1 0 0) s m ([.ref (g 100), .int (nI s0)]).toArray below meth c s.heap [] 0 0 (MQ below (vp_Si (fun r => RND (fun a => Fn 3 (l0.getD a 0) + Fn 4 (l0.getD a 0)) (cn 44) (Fn 43) s0 r)) ([.ref (g 100), .int (nI s0)]).toArray s 0 0 (fun _ => False)) (F0 m 14 ls []) := by
      intro n14
      induction n14 with
      | zero => intros; (first | omega | (have zz0 := Hid.u hi_cn; omega))
      | succ n14 ih14 =>
        intro i14 x14_2 hmu14 hinv14 ls hl
        obtain ⟨hr14, hx14_0⟩ := hinv14
        have ti14 : (nI i14).toInt = (i14 : Int) := nI_toInt (by (first | omega | (have zz0 := Hid.u hi_cn; omega)))
        refine lv_iload_n hx hb dX12_roundTo_14 rfl (lvA0 hl) ?_
        refine lv_aload_n hx hb dX12_roundTo_15 rfl (lvA2 hl) ?_
        refine gM_364 S hK hP (v := .int (nI (cn 44))) rfl dX12_roundTo_16 ?_
        have : (nI (cn 44)).toInt = (((cn 44) : Nat) : Int) := nI_toInt (by (first | omega | (have zz0 := Hid.u hi_cn; omega)))
        refine lv_icmp_ge (tgt := 82) hx hb dX12_roundTo_19 rfl (fun c_11 => ?_) (fun c_11 => ?_)
        ·
          have tc_11 : ((nI (cn 44)).toInt : Int) ≤ (nI i14).toInt := Int32.le_iff_toInt_le.mp c_11
          refine lv_iload_n hx hb dX12_roundTo_82 rfl (lvA1 hl) ?_
          exact W.iret (v := x14_2) hx hb hr (fun t ht hW => ⟨x14_2, rfl, (by have e9 : i14 = cn 44 := (by (first | omega | (have zz0 := Hid.u hi_cn; omega))); rw [e9] at hx14_0; exact hx14_0.elim (fun w => Or.inl ⟨fun b _ => by rw [w.1]; exact Nat.zero_testBit b, w.2⟩) (fun w => Or.inr (PMN.f3 w.1 hs w.2))), ht⟩) (fun _ h => absurd h List.not_mem_nil) dX12_roundTo_83
        ·
          have tc_11 : ((nI i14).toInt : Int) < (nI (cn 44)).toInt := Int32.lt_iff_toInt_lt.mp (Int32.not_le.mp c_11)
          refine lv_iload_n hx hb dX12_roundTo_22 rfl (lvA3 hl) ?_
          refine lv_iload_n hx hb dX12_roundTo_23 rfl (lvA0 hl) ?_
          refine lv_ishr hx hb dX12_roundTo_24 ?_
          refine lv_iconst (v := 1) hx hb dX12_roundTo_25 kic_1 ?_
          refine lv_iand hx hb dX12_roundTo_26 ?_
          refine lv_topi (fun y_12 ey_12 => ?_)
          rcases bitc (l := s0) (b := i14) (by (first | omega | (have zz0 := Hid.u hi_cn; omega))) (by (first | omega | (have zz0 := Hid.u hi_cn; omega))) with ⟨hb_y_12, qy_12⟩ | ⟨hb_y_12, qy_12⟩
          ·
            obtain rfl : y_12 = 0 := ey_12.trans qy_12
            refine lv_if_ne (tgt := 33) hx hb dX12_roundTo_27 rfl (fun h => absurd h cq_eq_0_0) (fun _ => ?_)
            refine lv_goto (tgt := 76) hx hb dX12_roundTo_30 rfl ?_
            refine lv_iinc (v := (nI (i14 + 1))) (lv' := [(3, .int (nI (i14 + 1))), (2, .int x14_2), (0, .ref (g 100)), (1, .int (nI s0))]) hx hb dX12_roundTo_76 hl (k := 0) rfl (nI_1 _) (ltb rfl) rfl (fun ls hl => ?_)
            refine lv_goto (tgt := 14) hx hb dX12_roundTo_79 rfl ?_
            exact ih14 (i14 + 1) x14_2 (by (first | omega | (have zz0 := Hid.u hi_cn; omega))) ⟨(by (first | omega | (have zz0 := Hid.u hi_cn; omega))), (hx14_0.elim Or.inl (fun w => Or.inr ⟨w.1, PMN.no w.2 (by assumption)⟩))⟩ ls (lv_sub hl [0, 1, 2, 3] rfl)
          ·
            obtain rfl : y_12 = 1 := ey_12.trans qy_12
            refine lv_if_ne (tgt := 33) hx hb dX12_roundTo_27 rfl (fun _ => ?_) (fun h => absurd h cq_eq_1_0)
            refine lv_aload_n hx hb dX12_roundTo_33 rfl (lvA2 hl) ?_
            refine lv_aload_n hx hb dX12_roundTo_34 rfl (lvA2 hl) ?_
            refine gM_101 S hK hP (v := .ref (g 42)) rfl dX12_roundTo_35 ?_
            refine lv_iload_n hx hb dX12_roundTo_38 rfl (lvA0 hl) ?_
            have kb_3 : i14 < 10 := by (first | omega | (have zz0 := Hid.u hi_cn; omega))
            obtain ⟨a_13, ha_13, ea_13⟩ := hAK i14 (by (first | omega | (have zz0 := Hid.u hi_cn; omega)))
            refine ldM_42 hx hb hK hP (x := (nI a_13)) (vp_in_nI kb_3 (ltb rfl)) (nI_clamp (Nat.lt_trans kb_3 (ltb rfl))) ea_13 dX12_roundTo_39 ?_
            obtain rfl : a_13 = l0.getD i14 0 := nIw_inj (by (first | omega | (have zz0 := Hid.u hi_cn; omega))) (by have := hk0 i14 (by (first | omega | (have zz0 := Hid.u hi_cn; omega))); (first | omega | (have zz0 := Hid.u hi_cn; omega))) (ea_13.symm.trans (h42.at (by (first | omega | (have zz0 := Hid.u hi_cn; omega)))))
            have := hk0 i14 (by (first | omega | (have zz0 := Hid.u hi_cn; omega)))
            refine vp_callSi (runV_ra (As := [.int (nI (l0.getD i14 0))]) (rest := []) S (q_toDepot l D cI cB cZ g cn In Fn (l0.getD i14 0) hI (by (first | omega | (have zz0 := Hid.u hi_cn; omega)))) kV_RX12_367 hK hP 0 rfl rfl rfl ⟨Nat.le_of_ble_eq_true rfl, Nat.le_of_ble_eq_true rfl⟩ ⟨Nat.le_of_ble_eq_true rfl, Nat.le_of_ble_eq_true rfl⟩ rfl hl.1 rfl (Nat.le_of_ble_eq_true rfl) dX12_roundTo_40) (fun r_14 h_15 => ?_)
            subst h_15
            refine lv_aload_n hx hb dX12_roundTo_43 rfl (lvA2 hl) ?_
            refine gM_104 S hK hP (v := .ref (g 43)) rfl dX12_roundTo_44 ?_
            refine lv_bipush (v := 8) hx hb dX12_roundTo_47 kbc_8 ?_
            refine lv_iload_n hx hb dX12_roundTo_49 rfl (lvA3 hl) ?_
            refine lv_iconst (v := 1) hx hb dX12_roundTo_50 kic_1 ?_
            refine lv_iload_n hx hb dX12_roundTo_51 rfl (lvA0 hl) ?_
            refine lv_ishl hx hb dX12_roundTo_52 ?_
            refine lv_iconst (v := (-1)) hx hb dX12_roundTo_53 kic_m1 ?_
            refine lv_ixor hx hb dX12_roundTo_54 ?_
            refine lv_iand hx hb dX12_roundTo_55 ?_
            refine lv_topi (fun y_16 ey_16 => ?_)
            obtain rfl : y_16 = (nI (clr s0 i14)) := ey_16.trans (clrI (by (first | omega | (have zz0 := Hid.u hi_cn; omega))) (by (first | omega | (have zz0 := Hid.u hi_cn; omega))))
            have hcl := clr_le (l := s0) (a := i14)
            refine lv_imul hx hb dX12_roundTo_56 ?_
            refine lv_topi (fun y_17 ey_17 => ?_)
            obtain rfl : y_17 = (nI (8 * (clr s0 i14))) := ey_17.trans (pk_mul 8 (clr s0 i14))
            refine lv_iload_n hx hb dX12_roundTo_57 rfl (lvA0 hl) ?_
            refine lv_iadd hx hb dX12_roundTo_58 ?_
            refine lv_topi (fun y_18 ey_18 => ?_)
            obtain rfl : y_18 = (nI ((8 * (clr s0 i14)) + i14)) := ey_18.trans (nI_add (8 * (clr s0 i14)) i14)
            have kb_4 : ((8 * (clr s0 i14)) + i14) < 2048 := by (first | omega | (have zz0 := Hid.u hi_cn; omega))
            refine ldM_43 hx hb hK hP (x := ((Fn 43) ((8 * (clr s0 i14)) + i14))) (vp_in_nI kb_4 (ltb rfl)) (nI_clamp (Nat.lt_trans kb_4 (ltb rfl))) rfl dX12_roundTo_59 ?_
            refine lv_iadd hx hb dX12_roundTo_60 ?_
            refine lv_istore (lv' := [(4, .int (((Fn 3) (l0.getD i14 0) + (Fn 4) (l0.getD i14 0)) + ((Fn 43) ((8 * (clr s0 i14)) + i14)))), (3, .int (nI i14)), (2, .int x14_2), (0, .ref (g 100)), (1, .int (nI s0))]) hx hb dX12_roundTo_61 hl (ltb rfl) rfl (fun ls hl => ?_)
            refine lv_iload hx hb dX12_roundTo_63 (lvA0 hl) ?_
            refine lv_iload_n hx hb dX12_roundTo_65 rfl (lvA2 hl) ?_
            refine lv_icmp_ge (tgt := 74) hx hb dX12_roundTo_66 rfl (fun c_19 => ?_) (fun c_19 => ?_)
            ·
              have tc_19 : (x14_2.toInt : Int) ≤ (((Fn 3) (l0.getD i14 0) + (Fn 4) (l0.getD i14 0)) + ((Fn 43) ((8 * (clr s0 i14)) + i14))).toInt := Int32.le_iff_toInt_le.mp c_19
              refine lv_iload_n hx hb dX12_roundTo_74 rfl (lvA2 hl) ?_
              refine lv_istore_n (lv' := [(2, .int x14_2), (4, .int (((Fn 3) (l0.getD i14 0) + (Fn 4) (l0.getD i14 0)) + ((Fn 43) ((8 * (clr s0 i14)) + i14)))), (3, .int (nI i14)), (0, .ref (g 100)), (1, .int (nI s0))]) hx hb dX12_roundTo_75 rfl hl (ltb rfl) rfl (fun ls hl => ?_)
              refine lv_iinc (v := (nI (i14 + 1))) (lv' := [(3, .int (nI (i14 + 1))), (2, .int x14_2), (4, .int (((Fn 3) (l0.getD i14 0) + (Fn 4) (l0.getD i14 0)) + ((Fn 43) ((8 * (clr s0 i14)) + i14)))), (0, .ref (g 100)), (1, .int (nI s0))]) hx hb dX12_roundTo_76 hl (k := 2) rfl (nI_1 _) (ltb rfl) rfl (fun ls hl => ?_)
              refine lv_goto (tgt := 14) hx hb dX12_roundTo_79 rfl ?_
              exact ih14 (i14 + 1) x14_2 (by (first | omega | (have zz0 := Hid.u hi_cn; omega))) ⟨(by (first | omega | (have zz0 := Hid.u hi_cn; omega))), (hx14_0.elim (fun w => absurd (show s0.testBit i14 = true by assumption) (by rw [w.1, Nat.zero_testBit]; decide)) (fun w => Or.inr ⟨w.1, PMN.ge w.2 (by (first | omega | (have zz0 := Hid.u hi_cn; omega))) (Or.inr (Or.inr (hb14 i14 (by (first | omega | (have zz0 := Hid.u hi_cn; omega))) (by assumption)).2))⟩))⟩ ls (lv_sub hl [0, 1, 3, 4] rfl)
            ·
              have tc_19 : ((((Fn 3) (l0.getD i14 0) + (Fn 4) (l0.getD i14 0)) + ((Fn 43) ((8 * (clr s0 i14)) + i14))).toInt : Int) < x14_2.toInt := Int32.lt_iff_toInt_lt.mp (Int32.not_le.mp c_19)
              refine lv_iload hx hb dX12_roundTo_69 (lvA0 hl) ?_
              refine lv_goto (tgt := 75) hx hb dX12_roundTo_71 rfl ?_
              refine lv_istore_n (lv' := [(2, .int (((Fn 3) (l0.getD i14 0) + (Fn 4) (l0.getD i14 0)) + ((Fn 43) ((8 * (clr s0 i14)) + i14)))), (4, .int (((Fn 3) (l0.getD i14 0) + (Fn 4) (l0.getD i14 0)) + ((Fn 43) ((8 * (clr s0 i14)) + i14)))), (3, .int (nI i14)), (0, .ref (g 100)), (1, .int (nI s0))]) hx hb dX12_roundTo_75 rfl hl (ltb rfl) rfl (fun ls hl => ?_)
              refine lv_iinc (v := (nI (i14 + 1))) (lv' := [(3, .int (nI (i14 + 1))), (2, .int (((Fn 3) (l0.getD i14 0) + (Fn 4) (l0.getD i14 0)) + ((Fn 43) ((8 * (clr s0 i14)) + i14)))), (4, .int (((Fn 3) (l0.getD i14 0) + (Fn 4) (l0.getD i14 0)) + ((Fn 43) ((8 * (clr s0 i14)) + i14)))), (0, .ref (g 100)), (1, .int (nI s0))]) hx hb dX12_roundTo_76 hl (k := 2) rfl (nI_1 _) (ltb rfl) rfl (fun ls hl => ?_)
              refine lv_goto (tgt := 14) hx hb dX12_roundTo_79 rfl ?_
              exact ih14 (i14 + 1) (((Fn 3) (l0.getD i14 0) + (Fn 4) (l0.getD i14 0)) + ((Fn 43) ((8 * (clr s0 i14)) + i14))) (by (first | omega | (have zz0 := Hid.u hi_cn; omega))) ⟨(by (first | omega | (have zz0 := Hid.u hi_cn; omega))), (hx14_0.elim (fun w => absurd (show s0.testBit i14 = true by assumption) (by rw [w.1, Nat.zero_testBit]; decide)) (fun w => Or.inr ⟨w.1, PMN.put w.2 (by assumption) (Or.inr (by (first | omega | (have zz0 := Hid.u hi_cn; omega)))) (fun b h9 t9 w9 => by have q9 := (hb14 b (by (first | omega | (have zz0 := Hid.u hi_cn; omega))) t9).2; have q8 := congrArg Int32.toInt w9; have q7 : (1000000 : Int32).toInt = 1000000 := rfl; (first | omega | (have zz0 := Hid.u hi_cn; omega)))⟩))⟩ ls (lv_sub hl [0, 1, 3, 4] rfl)
    exact lp_14 _ 0 0 (Nat.lt_succ_self _) ⟨(by (first | omega | (have zz0 := Hid.u hi_cn; omega))), (by first | exact Or.inl ⟨by (first | omega | (have zz0 := Hid.u hi_cn; omega)), rfl⟩ | exact Or.inr ⟨by (first | omega | (have zz0 := Hid.u hi_cn; omega)), PMN.z⟩)⟩ ls (lv_sub hl [0, 1, 2, 3] rfl)
set_option maxRecDepth 100000 in
set_option maxHeartbeats 4000000 in
theorem q_lays9 (l : Launch) (D : va_G) (cI cB cZ : ClassId) (g : Nat → Nat) (cn : Nat → Nat) (In : Nat → Int32) (Fn : Nat → Nat → Int32) (v0 v1 : Int32) (w0 : Nat) (sz : Nat) (hI : IM cn Fn) (hw0 : w0 ≤ 8) (hxy : ∀ k : Nat, k < cn 1 → XYB (Fn 3 k) (Fn 4 k)) : Met l yX12_lays (CWS yX12_lays cX12_lays 5 (some .boolean)) (RM 3 0 0) (PBw [.ref (g 100), .int v0, .int v1, .int (nI w0)] D cI cB cZ (wM cI cB cZ g cn In Fn) sz) (va_Qi (fun (r : Int32) (u : (Nat → Nat) × (Nat → Int32) × (Nat → Nat → Int32)) => (fun r c2 I2 F2 => Fr [44] [] [42, 43] cn In Fn c2 I2 F2 ∧ IM c2 F2 ∧ ((r = 0 ∧ ((∃ k : Nat, k < cn 1 ∧ v0.toInt < (Fn 7 k).toInt) ∨ ∃ l : List Nat, AL (fun k9 => v1.toInt ≤ (lkM Fn k9 v0).toInt) (cn 1) l ∧ w0 < l.length)) ∨ (r = 1 ∧ (∀ k : Nat, k < cn 1 → (Fn 7 k).toInt ≤ v0.toInt) ∧ ∃ l : List Nat, AL (fun k9 => v1.toInt ≤ (lkM Fn k9 v0).toInt) (cn 1) l ∧ l.length ≤ w0 ∧ c2 44 = l.length ∧ c2 44 ≤ 8 ∧ AK c2 F2 ∧ RWF (F2 42) nI l ∧ (TBL (fun a b => apM (Fn 3 (l.getD a 0)) (Fn 4 (l.getD a 0)) (Fn 3 (l.getD b 0)) (Fn 4 (l.getD b 0))) (fun a => Fn 3 (l.getD a 0) + Fn 4 (l.getD a 0)) l.length (F2 43) (2 ^ l.length))))) r u.1 u.2.1 u.2.2) (fun (u : (Nat → Nat) × (Nat → Int32) × (Nat → Nat → Int32)) (t : State) => va_P D vwCl (wM cI cB cZ g u.1 u.2.1 u.2.2) t.heap ∧ va_D (va_A (wM cI cB cZ g cn In Fn) sz) (wM cI cB cZ g u.1 u.2.1 u.2.2)) (va_A (wM cI cB cZ g cn In Fn) sz)) 0 0 (va_A (wM cI cB cZ g cn In Fn) sz) := by
  refine en_w (fun A => (va_Qi (fun (r : Int32) (u : (Nat → Nat) × (Nat → Int32) × (Nat → Nat → Int32)) => (fun (r : Int32) (c2 : Nat → Nat) (I2 : Nat → Int32) (F2 : Nat → Nat → Int32) => Fr [44] [] [42, 43] cn In Fn c2 I2 F2 ∧ IM c2 F2 ∧ ((r = 0 ∧ ((∃ k : Nat, k < cn 1 ∧ v0.toInt < (Fn 7 k).toInt) ∨ ∃ l : List Nat, AL (fun k9 => v1.toInt ≤ (lkM Fn k9 v0).toInt) (cn 1) l ∧ w0 < l.length)) ∨ (r = 1 ∧ (∀ k : Nat, k < cn 1 → (Fn 7 k).toInt ≤ v0.toInt) ∧ ∃ l : List Nat, AL (fun k9 => v1.toInt ≤ (lkM Fn k9 v0).toInt) (cn 1) l ∧ l.length ≤ w0 ∧ c2 44 = l.length ∧ c2 44 ≤ 8 ∧ AK c2 F2 ∧ RWF (F2 42) nI l ∧ (TBL (fun a b => apM (Fn 3 (l.getD a 0)) (Fn 4 (l.getD a 0)) (Fn 3 (l.getD b 0)) (Fn 4 (l.getD b 0))) (fun a => Fn 3 (l.getD a 0) + Fn 4 (l.getD a 0)) l.length (F2 43) (2 ^ l.length))))) r u.1 u.2.1 u.2.2) (fun (u : (Nat → Nat) × (Nat → Int32) × (Nat → Nat → Int32)) (t : State) => va_P D vwCl (wM cI cB cZ g u.1 u.2.1 u.2.2) t.heap ∧ va_D A (wM cI cB cZ g u.1 u.2.1 u.2.2)) A)) rfl rfl pn_RX12 (Nat.le_of_ble_eq_true rfl) (fun p e s m below meth c A hx hb hml hown S hr hlocks hnm hA hP hK hD hS ls hl => ?_)
  have hl : lv_has ls 5 [(0, .ref (g 100)), (1, .int v0), (2, .int v1), (3, .int (nI w0))] := hl
  have hi_cn : Hid (CB cn) := hI.b
  refine lv_aload_n hx hb (oc_42 0 shX12_lays_0) rfl (lvA0 hl) ?_
  refine lv_iconst (v := 0) hx hb (oc_3 1 (aq_1 shX12_lays_0)) kic_0 ?_
  refine pM_364 S hK hP hD hS (a := 0) (cn2 := (va_up cn 44 0)) rfl rfl (oc_181 2 (aq_2 shX12_lays_0) uw_1_108) (fun H locs hP hD hS => ?_)
  refine lv_iconst (v := 0) hx hb (oc_3 5 (aq_5 shX12_lays_0)) kic_0 ?_
  refine lv_istore (lv' := [(4, .int 0), (0, .ref (g 100)), (1, .int v0), (2, .int v1), (3, .int (nI w0))]) hx hb (oc_54 6 (aq_6 shX12_lays_0) ub_4) hl (ltb rfl) rfl (fun ls hl => ?_)
  have lp_8 : ∀ (n : Nat) (i8 : Nat) (c8 : Nat → Nat) (F8 : Nat → Nat → Int32) (H : Heap) (locs : List Loc) , cn 1 - i8 < n → (i8 ≤ cn 1 ∧ Fr [44] [] [42, 43] cn In Fn c8 In F8 ∧ IM c8 F8 ∧ (c8 44 ≤ i8) ∧ (AK c8 F8) ∧ (∃ l : List Nat, AL (fun k9 => v1.toInt ≤ (lkM Fn k9 v0).toInt) i8 l ∧ c8 44 = l.length ∧ RWF (F8 42) nI l) ∧ (∀ k : Nat, k < i8 → (Fn 7 k).toInt ≤ v0.toInt)) → va_P D vwCl (wM cI cB cZ g c8 In F8) H → va_D A (wM cI cB cZ g c8 In F8) → va_S A s.heap H locs → ∀ ls : Array Slot, lv_has ls 5 [(4, .int (nI i8)), (0, .ref (g 100)), (1, .int v0), (2, .int v1), (3, .int (nI w0))] → W p l e (RM 3 0 0) s m ([.ref (g 100), .int v0, .int v1, .int (nI w0)]).toArray below meth c H locs 0 0 (MQ below (va_Qi (fun (r : Int32) (u : (Nat → Nat) × (Nat → Int32) × (Nat → Nat → Int32)) => (fun r c2 I2 F2 => Fr [44] [] [42, 43] cn In Fn c2 I2 F2 ∧ IM c2 F2 ∧ ((r = 0 ∧ ((∃ k : Nat, k < cn 1 ∧ v0.toInt < (Fn 7 k).toInt) ∨ ∃ l : List Nat, AL (fun k9 => v1.toInt ≤ (lkM Fn k9 v0).toInt) (cn 1) l ∧ w0 < l.length)) ∨ (r = 1 ∧ (∀ k : Nat, k < cn 1 → (Fn 7 k).toInt ≤ v0.toInt) ∧ ∃ l : List Nat, AL (fun k9 => v1.toInt ≤ (lkM Fn k9 v0).toInt) (cn 1) l ∧ l.length ≤ w0 ∧ c2 44 = l.length ∧ c2 44 ≤ 8 ∧ AK c2 F2 ∧ RWF (F2 42) nI l ∧ (TBL (fun a b => apM (Fn 3 (l.getD a 0)) (Fn 4 (l.getD a 0)) (Fn 3 (l.getD b 0)) (Fn 4 (l.getD b 0))) (fun a => Fn 3 (l.getD a 0) + Fn 4 (l.getD a 0)) l.length (F2 43) (2 ^ l.length))))) r u.1 u.2.1 u.2.2) (fun (u : (Nat → Nat) × (Nat → Int32) × (Nat → Nat → Int32)) (t : State) => va_P D vwCl (wM cI cB cZ g u.1 u.2.1 u.2.2) t.heap ∧ va_D A (wM cI cB cZ g u.1 u.2.1 u.2.2)) A) ([.ref (g 100), .int v0, .int v1, .int (nI w0)]).toArray s 0 0 A) (F0 m 8 ls []) := by
    intro n8
    induction n8 with
    | zero => intros; (first | omega | (have zz0 := Hid.u hi_cn; omega))
    | succ n8 ih8 =>
      intro i8 c8 F8 H locs hmu8 hinv8 hP hD hS ls hl
      obtain ⟨hr8, hfr8, hI8, hx8_0, hx8_1, hx8_2, hx8_3⟩ := hinv8
      have ti8 : (nI i8).toInt = (i8 : Int) := nI_toInt (by (first | omega | (have zz0 := Hid.u hi_cn; omega)))
      have hi_c8 : Hid (CB c8) := hI8.b
      have hq_c8 := Hid.i (frq_44_0_1_2_46_57_58_62_63_75_83 hfr8)
      obtain ⟨l9, hal9, hc9, r42⟩ := hx8_2
      have e3_8 : F8 3 = Fn 3 := hfr8.2.2 3 (nml rfl)
      have e4_8 : F8 4 = Fn 4 := hfr8.2.2 4 (nml rfl)
      have e5_8 : F8 5 = Fn 5 := hfr8.2.2 5 (nml rfl)
      have e6_8 : F8 6 = Fn 6 := hfr8.2.2 6 (nml rfl)
      have e7_8 : F8 7 = Fn 7 := hfr8.2.2 7 (nml rfl)
      have elk : lkM F8 i8 v0 = lkM Fn i8 v0 := by unfold lkM; rw [e5_8, e6_8, e7_8]
      refine lv_iload hx hb (oc_21 8 (aq_8 shX12_lays_0) ub_4) (lvA0 hl) ?_
      refine lv_aload_n hx hb (oc_42 10 (aq_10 shX12_lays_0)) rfl (lvA1 hl) ?_
      refine gM_204 S hK hP (v := .int (nI (c8 1))) rfl (oc_180 11 (aq_11 shX12_lays_0) uw_0_204) ?_
      have : (nI (c8 1)).toInt = (((c8 1) : Nat) : Int) := nI_toInt (by (first | omega | (have zz0 := Hid.u hi_c8; have zz1 := Hid.u hi_cn; have zz2 := Hid.u hq_c8; omega)))
      refine lv_icmp_ge (tgt := 71) hx hb (oc_162 14 (aq_14 shX12_lays_0) sgw_0_57) rfl (fun c_1 => ?_) (fun c_1 => ?_)
      ·
        have tc_1 : ((nI (c8 1)).toInt : Int) ≤ (nI i8).toInt := Int32.le_iff_toInt_le.mp c_1
        refine lv_aload_n hx hb (oc_42 71 (aq_23 shX12_lays_48)) rfl (lvA1 hl) ?_
        refine gM_364 S hK hP (v := .int (nI (c8 44))) rfl (oc_180 72 shX12_lays_72 uw_1_108) ?_
        refine lv_iload_n hx hb (oc_29 75 (aq_3 shX12_lays_72)) rfl (lvA4 hl) ?_
        have : (nI (c8 44)).toInt = (((c8 44) : Nat) : Int) := nI_toInt (by (first | omega | (have zz0 := Hid.u hi_c8; have zz1 := Hid.u hi_cn; have zz2 := Hid.u hq_c8; omega)))
        have : (nI w0).toInt = ((w0 : Nat) : Int) := nI_toInt (by (first | omega | (have zz0 := Hid.u hi_c8; have zz1 := Hid.u hi_cn; have zz2 := Hid.u hq_c8; omega)))
        refine lv_icmp_le (tgt := 81) hx hb (oc_164 76 (aq_4 shX12_lays_72) sgw_0_5) rfl (fun c_2 => ?_) (fun c_2 => ?_)
        ·
          have tc_2 : ((nI (c8 44)).toInt : Int) ≤ (nI w0).toInt := Int32.le_iff_toInt_le.mp c_2
          refine lv_aload_n hx hb (oc_42 81 (aq_9 shX12_lays_72)) rfl (lvA1 hl) ?_
          have hFc := free_all hD hS hA
          refine va_callv (runV_a (As := []) (rest := []) S (q_goes9 l D cI cB cZ g c8 In F8 l9 H.size hI8 (by (first | omega | (have zz0 := Hid.u hi_c8; have zz1 := Hid.u hi_cn; have zz2 := Hid.u hq_c8; omega))) hx8_1 hc9 r42 (fun k hk => by rw [e3_8, e4_8]; exact hxy k (by (first | omega | (have zz0 := Hid.u hi_c8; have zz1 := Hid.u hi_cn; have zz2 := Hid.u hq_c8; omega)))) (fun a ha => by have := (hal9.ge ha).1; (first | omega | (have zz0 := Hid.u hi_c8; have zz1 := Hid.u hi_cn; have zz2 := Hid.u hq_c8; omega)))) kV_RX12_377 hK hP hD 0 rfl rfl rfl ⟨Nat.le_of_ble_eq_true rfl, Nat.le_of_ble_eq_true rfl⟩ ⟨Nat.le_of_ble_eq_true rfl, Nat.le_of_ble_eq_true rfl⟩ rfl hl.1 rfl (Nat.le_of_ble_eq_true rfl) (oc_182 82 (aq_10 shX12_lays_72) uw_1_121)) hS (fun q _ h => hFc q h) hFc (fun u t H1 locs ht hvm wh_4 hB hz1 hk1 hS => ?_)
          obtain ⟨cn4, In4, Fn4⟩ := u
          obtain ⟨hP1, hD1⟩ := hB
          rw [ht] at hP1
          have hP : va_P D vwCl (wM cI cB cZ g cn4 In4 Fn4) H1 := hP1
          have hD : va_D A (wM cI cB cZ g cn4 In4 Fn4) := hD1.weaken (fun _ _ _ h => hFc _ h)
          generalize H1 = H at hP hS ⊢
          have vh_4 : (fun c2 I2 F2 => Fr [] [] [43] c8 In F8 c2 I2 F2 ∧ IM c2 F2 ∧ (TBL (fun a b => apM ((F8 3) (l9.getD a 0)) ((F8 4) (l9.getD a 0)) ((F8 3) (l9.getD b 0)) ((F8 4) (l9.getD b 0))) (fun a => (F8 3) (l9.getD a 0) + (F8 4) (l9.getD a 0)) ((c8 44)) (F2 43) (2 ^ (c8 44)))) cn4 In4 Fn4 := wh_4
          obtain ⟨hfc4, hIn4, h_4⟩ := vh_4
          obtain rfl : c8 = cn4 := (funext (fun k => hfc4.1 k List.not_mem_nil)).symm
          obtain rfl : In = In4 := (funext (fun k => hfc4.2.1 k List.not_mem_nil)).symm
          have hf4 : Fr [44] [] [42, 43] cn In Fn c8 In Fn4 := Fr.mo (Fr.tr hfr8 hfc4) (sbl rfl) (sbl rfl) (sbl rfl)
          have hi_c8 : Hid (CB c8) := hIn4.b
          have hq_c8 := Hid.i (frq_44_0_1_2_46_57_58_62_63_75_83 hf4)
          have hAK4 : AK c8 Fn4 := AK.fr hx8_1 hfc4 (by decide) (by decide)
          refine lv_iconst (v := 1) hx hb (oc_4 85 (aq_13 shX12_lays_72)) kic_1 ?_
          exact W.zret (v := 1) hx hb hr rfl (fun t ht hW => ⟨⟨1, (c8, In, Fn4), rfl, ⟨(Fr.mo hf4 (sbl rfl) (sbl rfl) (sbl rfl)), hIn4, (by show (1 = 0 ∧ ((∃ k : Nat, k < cn 1 ∧ v0.toInt < (Fn 7 k).toInt) ∨ ∃ l : List Nat, AL (fun k9 => v1.toInt ≤ (lkM Fn k9 v0).toInt) (cn 1) l ∧ w0 < l.length)) ∨ (1 = 1 ∧ (∀ k : Nat, k < cn 1 → (Fn 7 k).toInt ≤ v0.toInt) ∧ ∃ l : List Nat, AL (fun k9 => v1.toInt ≤ (lkM Fn k9 v0).toInt) (cn 1) l ∧ l.length ≤ w0 ∧ c8 44 = l.length ∧ c8 44 ≤ 8 ∧ AK c8 Fn4 ∧ RWF (Fn4 42) nI l ∧ (TBL (fun a b => apM (Fn 3 (l.getD a 0)) (Fn 4 (l.getD a 0)) (Fn 3 (l.getD b 0)) (Fn 4 (l.getD b 0))) (fun a => Fn 3 (l.getD a 0) + Fn 4 (l.getD a 0)) l.length (Fn4 43) (2 ^ l.length))); have e9 : i8 = cn 1 := (by (first | omega | (have zz0 := Hid.u hi_c8; have zz1 := Hid.u hi_cn; have zz2 := Hid.u hq_c8; omega))); rw [e9] at hal9; have ht9 := h_4; rw [hc9, e3_8, e4_8] at ht9; exact Or.inr ⟨rfl, (fun k hk => hx8_3 k (by (first | omega | (have zz0 := Hid.u hi_c8; have zz1 := Hid.u hi_cn; have zz2 := Hid.u hq_c8; omega)))), l9, hal9, by (first | omega | (have zz0 := Hid.u hi_c8; have zz1 := Hid.u hi_cn; have zz2 := Hid.u hq_c8; omega)), hc9, by (first | omega | (have zz0 := Hid.u hi_c8; have zz1 := Hid.u hi_cn; have zz2 := Hid.u hq_c8; omega)), hAK4, (by rw [hfc4.2.2 42 (nml rfl)]; exact r42), ht9⟩)⟩, by rw [ht]; exact hP, hD⟩, hS.F ht⟩) hS.2.2 (oc_172 86 (aq_14 shX12_lays_72))
        ·
          have tc_2 : ((nI w0).toInt : Int) < (nI (c8 44)).toInt := Int32.lt_iff_toInt_lt.mp (Int32.not_le.mp c_2)
          refine lv_iconst (v := 0) hx hb (oc_3 79 (aq_7 shX12_lays_72)) kic_0 ?_
          exact W.zret (v := 0) hx hb hr rfl (fun t ht hW => ⟨⟨0, (c8, In, F8), rfl, ⟨(Fr.mo hfr8 (sbl rfl) (sbl rfl) (sbl rfl)), hI8, (by show (0 = 0 ∧ ((∃ k : Nat, k < cn 1 ∧ v0.toInt < (Fn 7 k).toInt) ∨ ∃ l : List Nat, AL (fun k9 => v1.toInt ≤ (lkM Fn k9 v0).toInt) (cn 1) l ∧ w0 < l.length)) ∨ (0 = 1 ∧ (∀ k : Nat, k < cn 1 → (Fn 7 k).toInt ≤ v0.toInt) ∧ ∃ l : List Nat, AL (fun k9 => v1.toInt ≤ (lkM Fn k9 v0).toInt) (cn 1) l ∧ l.length ≤ w0 ∧ c8 44 = l.length ∧ c8 44 ≤ 8 ∧ AK c8 F8 ∧ RWF (F8 42) nI l ∧ (TBL (fun a b => apM (Fn 3 (l.getD a 0)) (Fn 4 (l.getD a 0)) (Fn 3 (l.getD b 0)) (Fn 4 (l.getD b 0))) (fun a => Fn 3 (l.getD a 0) + Fn 4 (l.getD a 0)) l.length (F8 43) (2 ^ l.length))); have e9 : i8 = cn 1 := (by (first | omega | (have zz0 := Hid.u hi_c8; have zz1 := Hid.u hi_cn; have zz2 := Hid.u hq_c8; omega))); rw [e9] at hal9; exact Or.inl ⟨rfl, Or.inr ⟨l9, hal9, by (first | omega | (have zz0 := Hid.u hi_c8; have zz1 := Hid.u hi_cn; have zz2 := Hid.u hq_c8; omega))⟩⟩)⟩, by rw [ht]; exact hP, hD⟩, hS.F ht⟩) hS.2.2 (oc_172 80 (aq_8 shX12_lays_72))
      ·
        have tc_1 : ((nI i8).toInt : Int) < (nI (c8 1)).toInt := Int32.lt_iff_toInt_lt.mp (Int32.not_le.mp c_1)
        refine lv_aload_n hx hb (oc_42 17 (aq_17 shX12_lays_0)) rfl (lvA1 hl) ?_
        refine gM_22 S hK hP (v := .ref (g 7)) rfl (oc_180 18 (aq_18 shX12_lays_0) uw_0_22) ?_
        refine lv_iload hx hb (oc_21 21 (aq_21 shX12_lays_0) ub_4) (lvA0 hl) ?_
        have kb_1 : i8 < 10 := by (first | omega | (have zz0 := Hid.u hi_c8; have zz1 := Hid.u hi_cn; have zz2 := Hid.u hq_c8; omega))
        have b_5 := hI8.e7 i8 (by (first | omega | (have zz0 := Hid.u hi_c8; have zz1 := Hid.u hi_cn; have zz2 := Hid.u hq_c8; omega)))
        refine ldM_7 hx hb hK hP (x := ((F8 7) i8)) (vp_in_nI kb_1 (ltb rfl)) (nI_clamp (Nat.lt_trans kb_1 (ltb rfl))) rfl (oc_46 23 (aq_23 shX12_lays_0)) ?_
        refine lv_iload_n hx hb (oc_27 24 shX12_lays_24) rfl (lvA2 hl) ?_
        refine lv_icmp_le (tgt := 30) hx hb (oc_164 25 (aq_1 shX12_lays_24) sgw_0_5) rfl (fun c_6 => ?_) (fun c_6 => ?_)
        ·
          have tc_6 : (((F8 7) i8).toInt : Int) ≤ v0.toInt := Int32.le_iff_toInt_le.mp c_6
          refine lv_aload_n hx hb (oc_42 30 (aq_6 shX12_lays_24)) rfl (lvA1 hl) ?_
          refine lv_iload hx hb (oc_21 31 (aq_7 shX12_lays_24) ub_4) (lvA0 hl) ?_
          refine lv_iload_n hx hb (oc_27 33 (aq_9 shX12_lays_24)) rfl (lvA2 hl) ?_
          refine vp_callSi (runV_ra (As := [.int (nI i8), .int v0]) (rest := []) S (q_likelyOn l D cI cB cZ g c8 In F8 i8 v0 hI8 (by (first | omega | (have zz0 := Hid.u hi_c8; have zz1 := Hid.u hi_cn; have zz2 := Hid.u hq_c8; omega)))) kV_RX12_222 hK hP 0 rfl rfl rfl ⟨Nat.le_of_ble_eq_true rfl, Nat.le_of_ble_eq_true rfl⟩ ⟨Nat.le_of_ble_eq_true rfl, Nat.le_of_ble_eq_true rfl⟩ rfl hl.1 rfl (Nat.le_of_ble_eq_true rfl) (oc_182 34 (aq_10 shX12_lays_24) uw_0_222)) (fun r_7 h_8 => ?_)
          subst h_8
          refine lv_iload_n hx hb (oc_28 37 (aq_13 shX12_lays_24)) rfl (lvA3 hl) ?_
          refine lv_icmp_ge (tgt := 44) hx hb (oc_162 38 (aq_14 shX12_lays_24) sgw_0_6) rfl (fun c_9 => ?_) (fun c_9 => ?_)
          ·
            have tc_9 : (v1.toInt : Int) ≤ (lkM F8 i8 v0).toInt := Int32.le_iff_toInt_le.mp c_9
            refine lv_aload_n hx hb (oc_42 44 (aq_20 shX12_lays_24)) rfl (lvA1 hl) ?_
            refine gM_101 S hK hP (v := .ref (g 42)) rfl (oc_180 45 (aq_21 shX12_lays_24) uw_0_101) ?_
            refine lv_aload_n hx hb (oc_42 48 shX12_lays_48) rfl (lvA1 hl) ?_
            refine gM_364 S hK hP (v := .int (nI (c8 44))) rfl (oc_180 49 (aq_1 shX12_lays_48) uw_1_108) ?_
            refine lv_iload hx hb (oc_21 52 (aq_4 shX12_lays_48) ub_4) (lvA0 hl) ?_
            have kb_2 : (c8 44) < 10 := by (first | omega | (have zz0 := Hid.u hi_c8; have zz1 := Hid.u hi_cn; have zz2 := Hid.u hq_c8; omega))
            refine stM_42 hx hb hK hP hD hS (Fn2 := (va_up F8 42 (upd (F8 42) (c8 44) (nI i8)))) (vp_in_nI kb_2 (ltb rfl)) (nI_clamp (Nat.lt_trans kb_2 (ltb rfl))) rfl (oc_79 54 (aq_6 shX12_lays_48)) (fun H locs hP hD hS => ?_)
            refine lv_aload_n hx hb (oc_42 55 (aq_7 shX12_lays_48)) rfl (lvA1 hl) ?_
            refine lv_aload_n hx hb (oc_42 56 (aq_8 shX12_lays_48)) rfl (lvA1 hl) ?_
            refine gM_364 S hK hP (v := .int (nI (c8 44))) rfl (oc_180 57 (aq_9 shX12_lays_48) uw_1_108) ?_
            refine lv_iconst (v := 1) hx hb (oc_4 60 (aq_12 shX12_lays_48)) kic_1 ?_
            refine lv_iadd hx hb (oc_96 61 (aq_13 shX12_lays_48)) ?_
            refine lv_topi (fun y_10 ey_10 => ?_)
            obtain rfl : y_10 = (nI ((c8 44) + 1)) := ey_10.trans (nI_add (c8 44) 1)
            refine pM_364 S hK hP hD hS (a := ((c8 44) + 1)) (cn2 := (va_up c8 44 ((c8 44) + 1))) rfl rfl (oc_181 62 (aq_14 shX12_lays_48) uw_1_108) (fun H locs hP hD hS => ?_)
            refine lv_iinc (v := (nI (i8 + 1))) (lv' := [(4, .int (nI (i8 + 1))), (0, .ref (g 100)), (1, .int v0), (2, .int v1), (3, .int (nI w0))]) hx hb dX12_lays_65 hl (k := 0) rfl (nI_1 _) (ltb rfl) rfl (fun ls hl => ?_)
            refine lv_goto (tgt := 8) hx hb dX12_lays_68 rfl ?_
            exact ih8 (i8 + 1) (va_up c8 44 ((c8 44) + 1)) (va_up F8 42 (upd (F8 42) (c8 44) (nI i8))) _ _ (by (first | omega | (have zz0 := Hid.u hi_c8; have zz1 := Hid.u hi_cn; have zz2 := Hid.u hq_c8; omega))) ⟨(by (first | omega | (have zz0 := Hid.u hi_c8; have zz1 := Hid.u hi_cn; have zz2 := Hid.u hq_c8; omega))), (Fr.mo (Fr.f 42 (Fr.c 44 hfr8)) (sbl rfl) (sbl rfl) (sbl rfl)), (IM.fr (In := In) hI8 (Fr.f 42 (Fr.c 44 Fr.rf)) (by decide) (by decide)), (by show (va_up c8 44 ((c8 44) + 1)) 44 ≤ i8 + 1; rw [va_up_self]; (first | omega | (have zz0 := Hid.u hi_c8; have zz1 := Hid.u hi_cn; have zz2 := Hid.u hq_c8; omega))), (AK.push hx8_1 (by (first | omega | (have zz0 := Hid.u hi_c8; have zz1 := Hid.u hi_cn; have zz2 := Hid.u hq_c8; omega)))), ⟨l9 ++ [i8], AL.yx hal9 (show v1.toInt ≤ (lkM Fn i8 v0).toInt by rw [← elk]; (first | omega | (have zz0 := Hid.u hi_c8; have zz1 := Hid.u hi_cn; have zz2 := Hid.u hq_c8; omega))), (by show c8 44 + 1 = _; rw [hc9, List.length_append]; rfl), (by show RWF (upd (F8 42) (c8 44) (nI i8)) nI (l9 ++ [i8]); rw [hc9]; exact r42.put rfl)⟩, (fun k hk => if q9 : k = i8 then (by rw [q9, ← e7_8]; (first | omega | (have zz0 := Hid.u hi_c8; have zz1 := Hid.u hi_cn; have zz2 := Hid.u hq_c8; omega))) else hx8_3 k (by (first | omega | (have zz0 := Hid.u hi_c8; have zz1 := Hid.u hi_cn; have zz2 := Hid.u hq_c8; omega))))⟩ hP hD hS ls (lv_sub hl [0, 1, 2, 3, 4] rfl)
          ·
            have tc_9 : ((lkM F8 i8 v0).toInt : Int) < v1.toInt := Int32.lt_iff_toInt_lt.mp (Int32.not_le.mp c_9)
            refine lv_goto (tgt := 65) hx hb (oc_167 41 (aq_17 shX12_lays_24) sgw_0_24) rfl ?_
            refine lv_iinc (v := (nI (i8 + 1))) (lv' := [(4, .int (nI (i8 + 1))), (0, .ref (g 100)), (1, .int v0), (2, .int v1), (3, .int (nI w0))]) hx hb dX12_lays_65 hl (k := 0) rfl (nI_1 _) (ltb rfl) rfl (fun ls hl => ?_)
            refine lv_goto (tgt := 8) hx hb dX12_lays_68 rfl ?_
            exact ih8 (i8 + 1) c8 F8 _ _ (by (first | omega | (have zz0 := Hid.u hi_c8; have zz1 := Hid.u hi_cn; have zz2 := Hid.u hq_c8; omega))) ⟨(by (first | omega | (have zz0 := Hid.u hi_c8; have zz1 := Hid.u hi_cn; have zz2 := Hid.u hq_c8; omega))), (Fr.mo hfr8 (sbl rfl) (sbl rfl) (sbl rfl)), hI8, (by show c8 44 ≤ i8 + 1; (first | omega | (have zz0 := Hid.u hi_c8; have zz1 := Hid.u hi_cn; have zz2 := Hid.u hq_c8; omega))), hx8_1, ⟨l9, AL.nx hal9 (fun w9 => by have q9 : v1.toInt ≤ (lkM Fn i8 v0).toInt := w9; rw [← elk] at q9; (first | omega | (have zz0 := Hid.u hi_c8; have zz1 := Hid.u hi_cn; have zz2 := Hid.u hq_c8; omega))), hc9, r42⟩, (fun k hk => if q9 : k = i8 then (by rw [q9, ← e7_8]; (first | omega | (have zz0 := Hid.u hi_c8; have zz1 := Hid.u hi_cn; have zz2 := Hid.u hq_c8; omega))) else hx8_3 k (by (first | omega | (have zz0 := Hid.u hi_c8; have zz1 := Hid.u hi_cn; have zz2 := Hid.u hq_c8; omega))))⟩ hP hD hS ls (lv_sub hl [0, 1, 2, 3, 4] rfl)
        ·
          have tc_6 : (v0.toInt : Int) < ((F8 7) i8).toInt := Int32.lt_iff_toInt_lt.mp (Int32.not_le.mp c_6)
          refine lv_iconst (v := 0) hx hb (oc_3 28 (aq_4 shX12_lays_24)) kic_0 ?_
          exact W.zret (v := 0) hx hb hr rfl (fun t ht hW => ⟨⟨0, (c8, In, F8), rfl, ⟨(Fr.mo hfr8 (sbl rfl) (sbl rfl) (sbl rfl)), hI8, (by show (0 = 0 ∧ ((∃ k : Nat, k < cn 1 ∧ v0.toInt < (Fn 7 k).toInt) ∨ ∃ l : List Nat, AL (fun k9 => v1.toInt ≤ (lkM Fn k9 v0).toInt) (cn 1) l ∧ w0 < l.length)) ∨ (0 = 1 ∧ (∀ k : Nat, k < cn 1 → (Fn 7 k).toInt ≤ v0.toInt) ∧ ∃ l : List Nat, AL (fun k9 => v1.toInt ≤ (lkM Fn k9 v0).toInt) (cn 1) l ∧ l.length ≤ w0 ∧ c8 44 = l.length ∧ c8 44 ≤ 8 ∧ AK c8 F8 ∧ RWF (F8 42) nI l ∧ (TBL (fun a b => apM (Fn 3 (l.getD a 0)) (Fn 4 (l.getD a 0)) (Fn 3 (l.getD b 0)) (Fn 4 (l.getD b 0))) (fun a => Fn 3 (l.getD a 0) + Fn 4 (l.getD a 0)) l.length (F8 43) (2 ^ l.length))); exact Or.inl ⟨rfl, Or.inl ⟨i8, by (first | omega | (have zz0 := Hid.u hi_c8; have zz1 := Hid.u hi_cn; have zz2 := Hid.u hq_c8; omega)), by rw [← e7_8]; (first | omega | (have zz0 := Hid.u hi_c8; have zz1 := Hid.u hi_cn; have zz2 := Hid.u hq_c8; omega))⟩⟩)⟩, by rw [ht]; exact hP, hD⟩, hS.F ht⟩) hS.2.2 (oc_172 29 (aq_5 shX12_lays_24))
  exact lp_8 _ 0 (va_up cn 44 0) Fn _ _ (Nat.lt_succ_self _) ⟨(by (first | omega | (have zz0 := Hid.u hi_cn; omega))), (Fr.mo (Fr.c 44 Fr.rf) (sbl rfl) (sbl rfl) (sbl rfl)), (IM.fr (In := In) hI (Fr.c 44 Fr.rf) (by decide) (by decide)), (Nat.zero_le _), AK.zero, ⟨[], rfl, rfl, RWF.nil⟩, (fun k hk => absurd hk (Nat.not_lt_zero k))⟩ hP hD hS ls (lv_sub hl [0, 1, 2, 3, 4] rfl)
set_option maxRecDepth 100000 in
set_option maxHeartbeats 4000000 in
theorem q_goNights9 (l : Launch) (D : va_G) (cI cB cZ : ClassId) (g : Nat → Nat) (cn : Nat → Nat) (In : Nat → Int32) (Fn : Nat → Nat → Int32) (d0 n0 : Nat) (v2 : Int32) (sz : Nat) (hI : IM cn Fn) (hd : d0 + n0 ≤ 400) (hn : 1 ≤ n0) (hxy : ∀ k : Nat, k < cn 1 → XYB (Fn 3 k) (Fn 4 k)) : Met l yX12_goNights (CWS yX12_goNights cX12_goNights 6 (some .boolean)) (RM 5 0 0) (PBw [.ref (g 100), .int (nI d0), .int (nI n0), .int v2] D cI cB cZ (wM cI cB cZ g cn In Fn) sz) (va_Qi (fun (r : Int32) (u : (Nat → Nat) × (Nat → Int32) × (Nat → Nat → Int32)) => (fun r c2 I2 F2 => Fr [44] [54, 55, 56] [7, 42, 43] cn In Fn c2 I2 F2 ∧ IM c2 F2 ∧ ((∀ k : Nat, cn 1 ≤ k → F2 7 k = Fn 7 k) ∧ ((r = 0 ∧ ((∃ k : Nat, k < cn 1 ∧ (d0 : Int) < (Fn 7 k).toInt) ∨ NGF (cn 1) v2.toInt (fun (d9 : Int32) (t9 : Nat → Int32) (k9 : Nat) => if Fn 5 k9 * (d9 - t9 k9) < Fn 6 k9 then Fn 5 k9 * (d9 - t9 k9) else Fn 6 k9) (RTW (fun (l : List Nat) (a b : Nat) => apM (Fn 3 (l.getD a 0)) (Fn 4 (l.getD a 0)) (Fn 3 (l.getD b 0)) (Fn 4 (l.getD b 0))) (fun (l : List Nat) (a : Nat) => Fn 3 (l.getD a 0) + Fn 4 (l.getD a 0))) d0 (Fn 7) n0)) ∨ (r = 1 ∧ (∀ k : Nat, k < cn 1 → (Fn 7 k).toInt ≤ (d0 : Int)) ∧ ∃ t : Nat → Int32, NGS (cn 1) v2.toInt (fun (d9 : Int32) (t9 : Nat → Int32) (k9 : Nat) => if Fn 5 k9 * (d9 - t9 k9) < Fn 6 k9 then Fn 5 k9 * (d9 - t9 k9) else Fn 6 k9) (RTW (fun (l : List Nat) (a b : Nat) => apM (Fn 3 (l.getD a 0)) (Fn 4 (l.getD a 0)) (Fn 3 (l.getD b 0)) (Fn 4 (l.getD b 0))) (fun (l : List Nat) (a : Nat) => Fn 3 (l.getD a 0) + Fn 4 (l.getD a 0))) d0 (Fn 7) n0 t (I2 54) (I2 55) (I2 56))))) r u.1 u.2.1 u.2.2) (fun (u : (Nat → Nat) × (Nat → Int32) × (Nat → Nat → Int32)) (t : State) => va_P D vwCl (wM cI cB cZ g u.1 u.2.1 u.2.2) t.heap ∧ va_D (va_A (wM cI cB cZ g cn In Fn) sz) (wM cI cB cZ g u.1 u.2.1 u.2.2)) (va_A (wM cI cB cZ g cn In Fn) sz)) 0 0 (va_A (wM cI cB cZ g cn In Fn) sz) := by
  refine en_w (fun A => (va_Qi (fun (r : Int32) (u : (Nat → Nat) × (Nat → Int32) × (Nat → Nat → Int32)) => (fun (r : Int32) (c2 : Nat → Nat) (I2 : Nat → Int32) (F2 : Nat → Nat → Int32) => Fr [44] [54, 55, 56] [7, 42, 43] cn In Fn c2 I2 F2 ∧ IM c2 F2 ∧ ((∀ k : Nat, cn 1 ≤ k → F2 7 k = Fn 7 k) ∧ ((r = 0 ∧ ((∃ k : Nat, k < cn 1 ∧ (d0 : Int) < (Fn 7 k).toInt) ∨ NGF (cn 1) v2.toInt (fun (d9 : Int32) (t9 : Nat → Int32) (k9 : Nat) => if Fn 5 k9 * (d9 - t9 k9) < Fn 6 k9 then Fn 5 k9 * (d9 - t9 k9) else Fn 6 k9) (RTW (fun (l : List Nat) (a b : Nat) => apM (Fn 3 (l.getD a 0)) (Fn 4 (l.getD a 0)) (Fn 3 (l.getD b 0)) (Fn 4 (l.getD b 0))) (fun (l : List Nat) (a : Nat) => Fn 3 (l.getD a 0) + Fn 4 (l.getD a 0))) d0 (Fn 7) n0)) ∨ (r = 1 ∧ (∀ k : Nat, k < cn 1 → (Fn 7 k).toInt ≤ (d0 : Int)) ∧ ∃ t : Nat → Int32, NGS (cn 1) v2.toInt (fun (d9 : Int32) (t9 : Nat → Int32) (k9 : Nat) => if Fn 5 k9 * (d9 - t9 k9) < Fn 6 k9 then Fn 5 k9 * (d9 - t9 k9) else Fn 6 k9) (RTW (fun (l : List Nat) (a b : Nat) => apM (Fn 3 (l.getD a 0)) (Fn 4 (l.getD a 0)) (Fn 3 (l.getD b 0)) (Fn 4 (l.getD b 0))) (fun (l : List Nat) (a : Nat) => Fn 3 (l.getD a 0) + Fn 4 (l.getD a 0))) d0 (Fn 7) n0 t (I2 54) (I2 55) (I2 56))))) r u.1 u.2.1 u.2.2) (fun (u : (Nat → Nat) × (Nat → Int32) × (Nat → Nat → Int32)) (t : State) => va_P D vwCl (wM cI cB cZ g u.1 u.2.1 u.2.2) t.heap ∧ va_D A (wM cI cB cZ g u.1 u.2.1 u.2.2)) A)) rfl rfl pn_RX12 (Nat.le_of_ble_eq_true rfl) (fun p e s m below meth c A hx hb hml hown S hr hlocks hnm hA hP hK hD hS ls hl => ?_)
  have hl : lv_has ls 6 [(0, .ref (g 100)), (1, .int (nI d0)), (2, .int (nI n0)), (3, .int v2)] := hl
  have hi_cn : Hid (CB cn) := hI.b
  refine lv_aload_n hx hb (oc_42 0 shX12_goNights_0) rfl (lvA0 hl) ?_
  refine lv_iconst (v := 0) hx hb (oc_3 1 (aq_1 shX12_goNights_0)) kic_0 ?_
  refine pM_395 S hK hP hD hS (In2 := (va_up In 54 0)) rfl (oc_181 2 (aq_2 shX12_goNights_0) uw_1_139) (fun H locs hP hD hS => ?_)
  refine lv_aload_n hx hb (oc_42 5 (aq_5 shX12_goNights_0)) rfl (lvA0 hl) ?_
  refine lv_iconst (v := 0) hx hb (oc_3 6 (aq_6 shX12_goNights_0)) kic_0 ?_
  refine pM_398 S hK hP hD hS (In2 := (va_up (va_up In 54 0) 55 0)) rfl (oc_181 7 (aq_7 shX12_goNights_0) uw_1_142) (fun H locs hP hD hS => ?_)
  refine lv_aload_n hx hb (oc_42 10 (aq_10 shX12_goNights_0)) rfl (lvA0 hl) ?_
  refine lv_iconst (v := 0) hx hb (oc_3 11 (aq_11 shX12_goNights_0)) kic_0 ?_
  refine pM_401 S hK hP hD hS (In2 := (va_up (va_up (va_up In 54 0) 55 0) 56 0)) rfl (oc_181 12 (aq_12 shX12_goNights_0) uw_1_145) (fun H locs hP hD hS => ?_)
  refine lv_iload_n hx hb (oc_27 15 (aq_15 shX12_goNights_0)) rfl (lvA1 hl) ?_
  refine lv_istore (lv' := [(4, .int (nI d0)), (0, .ref (g 100)), (1, .int (nI d0)), (2, .int (nI n0)), (3, .int v2)]) hx hb (oc_54 16 (aq_16 shX12_goNights_0) ub_4) hl (ltb rfl) rfl (fun ls hl => ?_)
  have lp_18 : ∀ (n : Nat) (i18 : Nat) (c18 : Nat → Nat) (I18 : Nat → Int32) (F18 : Nat → Nat → Int32) (H : Heap) (locs : List Loc) , d0 + n0 - i18 < n → (i18 ≤ d0 + n0 ∧ Fr [44] [54, 55, 56] [7, 42, 43] cn In Fn c18 I18 F18 ∧ IM c18 F18 ∧ (∀ k : Nat, cn 1 ≤ k → F18 7 k = Fn 7 k) ∧ (∃ (j : Nat) (t : Nat → Int32), i18 = d0 + j ∧ NGS (cn 1) v2.toInt (fun (d9 : Int32) (t9 : Nat → Int32) (k9 : Nat) => if Fn 5 k9 * (d9 - t9 k9) < Fn 6 k9 then Fn 5 k9 * (d9 - t9 k9) else Fn 6 k9) (RTW (fun (l : List Nat) (a b : Nat) => apM (Fn 3 (l.getD a 0)) (Fn 4 (l.getD a 0)) (Fn 3 (l.getD b 0)) (Fn 4 (l.getD b 0))) (fun (l : List Nat) (a : Nat) => Fn 3 (l.getD a 0) + Fn 4 (l.getD a 0))) d0 (Fn 7) j t (I18 54) (I18 55) (I18 56) ∧ (∀ k : Nat, k < cn 1 → F18 7 k = t k) ∧ (0 < j → ∀ k : Nat, k < cn 1 → (Fn 7 k).toInt ≤ (d0 : Int)))) → va_P D vwCl (wM cI cB cZ g c18 I18 F18) H → va_D A (wM cI cB cZ g c18 I18 F18) → va_S A s.heap H locs → ∀ ls : Array Slot, lv_has ls 6 [(4, .int (nI i18)), (0, .ref (g 100)), (1, .int (nI d0)), (2, .int (nI n0)), (3, .int v2)] → W p l e (RM 5 0 0) s m ([.ref (g 100), .int (nI d0), .int (nI n0), .int v2]).toArray below meth c H locs 0 0 (MQ below (va_Qi (fun (r : Int32) (u : (Nat → Nat) × (Nat → Int32) × (Nat → Nat → Int32)) => (fun r c2 I2 F2 => Fr [44] [54, 55, 56] [7, 42, 43] cn In Fn c2 I2 F2 ∧ IM c2 F2 ∧ ((∀ k : Nat, cn 1 ≤ k → F2 7 k = Fn 7 k) ∧ ((r = 0 ∧ ((∃ k : Nat, k < cn 1 ∧ (d0 : Int) < (Fn 7 k).toInt) ∨ NGF (cn 1) v2.toInt (fun (d9 : Int32) (t9 : Nat → Int32) (k9 : Nat) => if Fn 5 k9 * (d9 - t9 k9) < Fn 6 k9 then Fn 5 k9 * (d9 - t9 k9) else Fn 6 k9) (RTW (fun (l : List Nat) (a b : Nat) => apM (Fn 3 (l.getD a 0)) (Fn 4 (l.getD a 0)) (Fn 3 (l.getD b 0)) (Fn 4 (l.getD b 0))) (fun (l : List Nat) (a : Nat) => Fn 3 (l.getD a 0) + Fn 4 (l.getD a 0))) d0 (Fn 7) n0)) ∨ (r = 1 ∧ (∀ k : Nat, k < cn 1 → (Fn 7 k).toInt ≤ (d0 : Int)) ∧ ∃ t : Nat → Int32, NGS (cn 1) v2.toInt (fun (d9 : Int32) (t9 : Nat → Int32) (k9 : Nat) => if Fn 5 k9 * (d9 - t9 k9) < Fn 6 k9 then Fn 5 k9 * (d9 - t9 k9) else Fn 6 k9) (RTW (fun (l : List Nat) (a b : Nat) => apM (Fn 3 (l.getD a 0)) (Fn 4 (l.getD a 0)) (Fn 3 (l.getD b 0)) (Fn 4 (l.getD b 0))) (fun (l : List Nat) (a : Nat) => Fn 3 (l.getD a 0) + Fn 4 (l.getD a 0))) d0 (Fn 7) n0 t (I2 54) (I2 55) (I2 56))))) r u.1 u.2.1 u.2.2) (fun (u : (Nat → Nat) × (Nat → Int32) × (Nat → Nat → Int32)) (t : State) => va_P D vwCl (wM cI cB cZ g u.1 u.2.1 u.2.2) t.heap ∧ va_D A (wM cI cB cZ g u.1 u.2.1 u.2.2)) A) ([.ref (g 100), .int (nI d0), .int (nI n0), .int v2]).toArray s 0 0 A) (F0 m 18 ls []) := by
    intro n18
    induction n18 with
    | zero => intros; (first | exact q18 | exact q18j | exact q18n | exact q18m | omega | (have zz0 := Hid.u hi_cn; omega))
    | succ n18 ih18 =>
      intro i18 c18 I18 F18 H locs hmu18 hinv18 hP hD hS ls hl
      obtain ⟨hr18, hfr18, hI18, hx18_0, hx18_1⟩ := hinv18
      have ti18 : (nI i18).toInt = (i18 : Int) := nI_toInt (by (first | exact q18 | exact q18j | exact q18n | exact q18m | omega | (have zz0 := Hid.u hi_cn; omega)))
      have hi_c18 : Hid (CB c18) := hI18.b
      have hq_c18 := Hid.i (frq_44_0_1_2_46_57_58_62_63_75_83 hfr18)
      obtain ⟨j8, t8, ej8, hn8, ht8, hb8⟩ := hx18_1
      have e3 : F18 3 = Fn 3 := hfr18.2.2 3 (nml rfl)
      have e4 : F18 4 = Fn 4 := hfr18.2.2 4 (nml rfl)
      have e5 : F18 5 = Fn 5 := hfr18.2.2 5 (nml rfl)
      have e6 : F18 6 = Fn 6 := hfr18.2.2 6 (nml rfl)
      have e1 : c18 1 = cn 1 := hfr18.1 1 (nml rfl)
      refine lv_iload hx hb (oc_21 18 (aq_18 shX12_goNights_0) ub_4) (lvA0 hl) ?_
      refine lv_iload_n hx hb (oc_27 20 (aq_20 shX12_goNights_0)) rfl (lvA2 hl) ?_
      refine lv_iload_n hx hb (oc_28 21 (aq_21 shX12_goNights_0)) rfl (lvA3 hl) ?_
      refine lv_iadd hx hb (oc_96 22 (aq_22 shX12_goNights_0)) ?_
      refine lv_topi (fun y_1 ey_1 => ?_)
      obtain rfl : y_1 = (nI (d0 + n0)) := ey_1.trans (nI_add d0 n0)
      have : (nI (d0 + n0)).toInt = (((d0 + n0) : Nat) : Int) := nI_toInt (by (first | exact q18 | exact q18j | exact q18n | exact q18m | omega | (have zz0 := Hid.u hi_c18; have zz1 := Hid.u hi_cn; have zz2 := Hid.u hq_c18; omega)))
      refine lv_icmp_ge (tgt := 131) hx hb (oc_162 23 (aq_23 shX12_goNights_0) sgw_0_108) rfl (fun c_2 => ?_) (fun c_2 => ?_)
      ·
        have tc_2 : ((nI (d0 + n0)).toInt : Int) ≤ (nI i18).toInt := Int32.le_iff_toInt_le.mp c_2
        refine lv_iconst (v := 1) hx hb (oc_4 131 (aq_6 shX12_goNights_125)) kic_1 ?_
        exact W.zret (v := 1) hx hb hr rfl (fun t ht hW => ⟨⟨1, (c18, I18, F18), rfl, ⟨(Fr.mo hfr18 (sbl rfl) (sbl rfl) (sbl rfl)), hI18, (by show (∀ k : Nat, cn 1 ≤ k → F18 7 k = Fn 7 k) ∧ ((1 = 0 ∧ ((∃ k : Nat, k < cn 1 ∧ (d0 : Int) < (Fn 7 k).toInt) ∨ NGF (cn 1) v2.toInt (fun (d9 : Int32) (t9 : Nat → Int32) (k9 : Nat) => if Fn 5 k9 * (d9 - t9 k9) < Fn 6 k9 then Fn 5 k9 * (d9 - t9 k9) else Fn 6 k9) (RTW (fun (l : List Nat) (a b : Nat) => apM (Fn 3 (l.getD a 0)) (Fn 4 (l.getD a 0)) (Fn 3 (l.getD b 0)) (Fn 4 (l.getD b 0))) (fun (l : List Nat) (a : Nat) => Fn 3 (l.getD a 0) + Fn 4 (l.getD a 0))) d0 (Fn 7) n0)) ∨ (1 = 1 ∧ (∀ k : Nat, k < cn 1 → (Fn 7 k).toInt ≤ (d0 : Int)) ∧ ∃ t : Nat → Int32, NGS (cn 1) v2.toInt (fun (d9 : Int32) (t9 : Nat → Int32) (k9 : Nat) => if Fn 5 k9 * (d9 - t9 k9) < Fn 6 k9 then Fn 5 k9 * (d9 - t9 k9) else Fn 6 k9) (RTW (fun (l : List Nat) (a b : Nat) => apM (Fn 3 (l.getD a 0)) (Fn 4 (l.getD a 0)) (Fn 3 (l.getD b 0)) (Fn 4 (l.getD b 0))) (fun (l : List Nat) (a : Nat) => Fn 3 (l.getD a 0) + Fn 4 (l.getD a 0))) d0 (Fn 7) n0 t (I18 54) (I18 55) (I18 56))); have e9 : j8 = n0 := (by (first | exact q18 | exact q18j | exact q18n | exact q18m | omega | (have zz0 := Hid.u hi_c18; have zz1 := Hid.u hi_cn; have zz2 := Hid.u hq_c18; omega))); rw [e9] at hn8 hb8; exact ⟨hx18_0, Or.inr ⟨rfl, hb8 (by (first | exact q18 | exact q18j | exact q18n | exact q18m | omega | (have zz0 := Hid.u hi_c18; have zz1 := Hid.u hi_cn; have zz2 := Hid.u hq_c18; omega))), t8, hn8⟩⟩)⟩, by rw [ht]; exact hP, hD⟩, hS.F ht⟩) hS.2.2 (oc_172 132 (aq_7 shX12_goNights_125))
      ·
        have tc_2 : ((nI i18).toInt : Int) < (nI (d0 + n0)).toInt := Int32.lt_iff_toInt_lt.mp (Int32.not_le.mp c_2)
        have q18 : i18 + 1 ≤ d0 + n0 := by (first | exact q18 | exact q18j | exact q18n | exact q18m | omega | (have zz0 := Hid.u hi_c18; have zz1 := Hid.u hi_cn; have zz2 := Hid.u hq_c18; omega))
        have q18j : i18 + 1 = d0 + (j8 + 1) := by (first | exact q18 | exact q18j | exact q18n | exact q18m | omega | (have zz0 := Hid.u hi_c18; have zz1 := Hid.u hi_cn; have zz2 := Hid.u hq_c18; omega))
        have q18n : j8 < n0 := by (first | exact q18 | exact q18j | exact q18n | exact q18m | omega | (have zz0 := Hid.u hi_c18; have zz1 := Hid.u hi_cn; have zz2 := Hid.u hq_c18; omega))
        have q18m : d0 + n0 - (i18 + 1) < n18 := by (first | exact q18 | exact q18j | exact q18n | exact q18m | omega | (have zz0 := Hid.u hi_c18; have zz1 := Hid.u hi_cn; have zz2 := Hid.u hq_c18; omega))
        refine lv_aload_n hx hb (oc_42 26 shX12_goNights_26) rfl (lvA1 hl) ?_
        refine lv_iload hx hb (oc_21 27 (aq_1 shX12_goNights_26) ub_4) (lvA0 hl) ?_
        refine lv_iload_n hx hb (oc_29 29 (aq_3 shX12_goNights_26)) rfl (lvA4 hl) ?_
        refine lv_bipush (v := 8) hx hb (oc_16 30 (aq_4 shX12_goNights_26) sgb_8) kbc_8 ?_
        have hFc := free_all hD hS hA
        refine va_calli (runV_a (As := [.int (nI i18), .int v2, .int 8]) (rest := []) S (q_lays9 l D cI cB cZ g c18 I18 F18 (nI i18) v2 8 H.size hI18 (by decide) (fun k hk => by rw [e3, e4]; exact hxy k (by (first | exact q18 | exact q18j | exact q18n | exact q18m | omega | (have zz0 := Hid.u hi_c18; have zz1 := Hid.u hi_cn; have zz2 := Hid.u hq_c18; omega))))) kV_RX12_380 hK hP hD 0 rfl rfl rfl ⟨Nat.le_of_ble_eq_true rfl, Nat.le_of_ble_eq_true rfl⟩ ⟨Nat.le_of_ble_eq_true rfl, Nat.le_of_ble_eq_true rfl⟩ rfl hl.1 rfl (Nat.le_of_ble_eq_true rfl) (oc_182 32 (aq_6 shX12_goNights_26) uw_1_124)) hS (fun q _ h => hFc q h) hFc (fun r_3 u t H1 locs ht hvm wh_4 hB hz1 hk1 hS => ?_)
        obtain ⟨cn4, In4, Fn4⟩ := u
        obtain ⟨hP1, hD1⟩ := hB
        rw [ht] at hP1
        have hP : va_P D vwCl (wM cI cB cZ g cn4 In4 Fn4) H1 := hP1
        have hD : va_D A (wM cI cB cZ g cn4 In4 Fn4) := hD1.weaken (fun _ _ _ h => hFc _ h)
        generalize H1 = H at hP hS ⊢
        have vh_4 : (fun r c2 I2 F2 => Fr [44] [] [42, 43] c18 I18 F18 c2 I2 F2 ∧ IM c2 F2 ∧ ((r = 0 ∧ ((∃ k : Nat, k < (c18 1) ∧ (nI i18).toInt < ((F18 7) k).toInt) ∨ ∃ l : List Nat, AL (fun k9 => v2.toInt ≤ (lkM F18 k9 (nI i18)).toInt) ((c18 1)) l ∧ 8 < l.length)) ∨ (r = 1 ∧ (∀ k : Nat, k < (c18 1) → ((F18 7) k).toInt ≤ (nI i18).toInt) ∧ ∃ l : List Nat, AL (fun k9 => v2.toInt ≤ (lkM F18 k9 (nI i18)).toInt) ((c18 1)) l ∧ l.length ≤ 8 ∧ c2 44 = l.length ∧ c2 44 ≤ 8 ∧ AK c2 F2 ∧ RWF (F2 42) nI l ∧ (TBL (fun a b => apM ((F18 3) (l.getD a 0)) ((F18 4) (l.getD a 0)) ((F18 3) (l.getD b 0)) ((F18 4) (l.getD b 0))) (fun a => (F18 3) (l.getD a 0) + (F18 4) (l.getD a 0)) l.length (F2 43) (2 ^ l.length))))) r_3 cn4 In4 Fn4 := wh_4
        obtain ⟨hfc4, hIn4, h_4⟩ := vh_4
        obtain rfl : I18 = In4 := (funext (fun k => hfc4.2.1 k List.not_mem_nil)).symm
        have hf4 : Fr [44] [54, 55, 56] [7, 42, 43] cn In Fn cn4 I18 Fn4 := Fr.mo (Fr.tr hfr18 hfc4) (sbl rfl) (sbl rfl) (sbl rfl)
        have hi_cn4 : Hid (CB cn4) := hIn4.b
        have hq_cn4 := Hid.i (frq_44_0_1_2_46_57_58_62_63_75_83 hf4)
        refine lv_if_ne (tgt := 40) hx hb (oc_154 35 (aq_9 shX12_goNights_26) sgw_0_5) rfl (fun c_5 => ?_) (fun c_5 => ?_)
        ·
          have tc_5 : (r_3.toInt : Int) ≠ 0 := fun q => c_5 (Int32.toInt_inj.mp q)
          obtain ⟨hnb, l9, hal, hlw, hc44, h448, hAK9, r42, htb⟩ := (h_4.resolve_left (fun w => (show ¬ r_3 = 0 from (by first | assumption | exact fun q => absurd (congrArg Int32.toInt q) (by assumption))) w.1)).2
          rw [e1] at hal
          rw [e3, e4] at htb
          have f3 : Fn4 3 = Fn 3 := (hfc4.2.2 3 (nml rfl)).trans e3
          have f4 : Fn4 4 = Fn 4 := (hfc4.2.2 4 (nml rfl)).trans e4
          have f5 : Fn4 5 = F18 5 := hfc4.2.2 5 (nml rfl)
          have f6 : Fn4 6 = F18 6 := hfc4.2.2 6 (nml rfl)
          have f7 : Fn4 7 = F18 7 := hfc4.2.2 7 (nml rfl)
          have hk9 : ∀ a : Nat, a < l9.length → l9.getD a 0 < cn 1 := fun a ha => (hal.ge ha).1
          have h2p := full_le (m := (cn4 44)) (by (first | exact q18 | exact q18j | exact q18n | exact q18m | omega | (have zz0 := Hid.u hi_c18; have zz1 := Hid.u hi_cn; have zz2 := Hid.u hi_cn4; have zz3 := Hid.u hq_c18; have zz4 := Hid.u hq_cn4; omega)))
          refine lv_aload_n hx hb (oc_42 40 (aq_14 shX12_goNights_26)) rfl (lvA1 hl) ?_
          refine lv_aload_n hx hb (oc_42 41 (aq_15 shX12_goNights_26)) rfl (lvA1 hl) ?_
          refine gM_395 S hK hP (v := .int (I18 54)) rfl (oc_180 42 (aq_16 shX12_goNights_26) uw_1_139) ?_
          refine lv_aload_n hx hb (oc_42 45 (aq_19 shX12_goNights_26)) rfl (lvA1 hl) ?_
          refine lv_iconst (v := 1) hx hb (oc_4 46 (aq_20 shX12_goNights_26)) kic_1 ?_
          refine lv_aload_n hx hb (oc_42 47 (aq_21 shX12_goNights_26)) rfl (lvA1 hl) ?_
          refine gM_364 S hK hP (v := .int (nI (cn4 44))) rfl (oc_180 48 (aq_22 shX12_goNights_26) uw_1_108) ?_
          refine lv_ishl hx hb (oc_120 51 shX12_goNights_51) ?_
          refine lv_topi (fun y_6 ey_6 => ?_)
          obtain rfl : y_6 = (nI (2 ^ (cn4 44))) := ey_6.trans (sh1 (by (first | exact q18 | exact q18j | exact q18n | exact q18m | omega | (have zz0 := Hid.u hi_c18; have zz1 := Hid.u hi_cn; have zz2 := Hid.u hi_cn4; have zz3 := Hid.u hq_c18; have zz4 := Hid.u hq_cn4; omega))))
          refine lv_iconst (v := 1) hx hb (oc_4 52 (aq_1 shX12_goNights_51)) kic_1 ?_
          refine lv_isub hx hb (oc_100 53 (aq_2 shX12_goNights_51)) ?_
          refine lv_topi (fun y_7 ey_7 => ?_)
          obtain rfl : y_7 = (nI (2 ^ (cn4 44) - 1)) := ey_7.trans (nI_sub (b := 1) (full_le (by (first | exact q18 | exact q18j | exact q18n | exact q18m | omega | (have zz0 := Hid.u hi_c18; have zz1 := Hid.u hi_cn; have zz2 := Hid.u hi_cn4; have zz3 := Hid.u hq_c18; have zz4 := Hid.u hq_cn4; omega)))).1)
          refine vp_callSi (runV_ra (As := [.int (nI (2 ^ (cn4 44) - 1))]) (rest := [.int (I18 54), .ref (g 100)]) S (q_roundTo9 l D cI cB cZ g cn4 I18 Fn4 (2 ^ (cn4 44) - 1) l9 hIn4 h448 hAK9 hc44 r42 (fun k hk => by rw [f3, f4]; exact hxy k (by (first | exact q18 | exact q18j | exact q18n | exact q18m | omega | (have zz0 := Hid.u hi_c18; have zz1 := Hid.u hi_cn; have zz2 := Hid.u hi_cn4; have zz3 := Hid.u hq_c18; have zz4 := Hid.u hq_cn4; omega)))) (fun a ha => by have := hk9 a ha; (first | exact q18 | exact q18j | exact q18n | exact q18m | omega | (have zz0 := Hid.u hi_c18; have zz1 := Hid.u hi_cn; have zz2 := Hid.u hi_cn4; have zz3 := Hid.u hq_c18; have zz4 := Hid.u hq_cn4; omega))) (by (first | exact q18 | exact q18j | exact q18n | exact q18m | omega | (have zz0 := Hid.u hi_c18; have zz1 := Hid.u hi_cn; have zz2 := Hid.u hi_cn4; have zz3 := Hid.u hq_c18; have zz4 := Hid.u hq_cn4; omega))) (by rw [hc44, f3, f4]; exact htb)) kV_RX12_389 hK hP 0 rfl rfl rfl ⟨Nat.le_of_ble_eq_true rfl, Nat.le_of_ble_eq_true rfl⟩ ⟨Nat.le_of_ble_eq_true rfl, Nat.le_of_ble_eq_true rfl⟩ rfl hl.1 rfl (Nat.le_of_ble_eq_true rfl) (oc_182 54 (aq_3 shX12_goNights_51) uw_1_133)) (fun r_8 h_9 => ?_)
          have hrn := h_9
          rw [hc44, f3, f4] at hrn
          refine lv_iadd hx hb (oc_96 57 (aq_6 shX12_goNights_51)) ?_
          refine pM_395 S hK hP hD hS (In2 := (va_up I18 54 ((I18 54) + r_8))) rfl (oc_181 58 (aq_7 shX12_goNights_51) uw_1_139) (fun H locs hP hD hS => ?_)
          have h7n : ∀ k : Nat, cn 1 ≤ k → Fn4 7 k = Fn 7 k := fun k hk => (congrFun (hfc4.2.2 7 (nml rfl)) k).trans (hx18_0 k hk)
          refine lv_iconst (v := 0) hx hb (oc_3 61 (aq_10 shX12_goNights_51)) kic_0 ?_
          refine lv_istore (lv' := [(5, .int 0), (4, .int (nI i18)), (0, .ref (g 100)), (1, .int (nI d0)), (2, .int (nI n0)), (3, .int v2)]) hx hb (oc_54 62 (aq_11 shX12_goNights_51) ub_5) hl (ltb rfl) rfl (fun ls hl => ?_)
          have lp_64 : ∀ (n : Nat) (i64 : Nat) (I64 : Nat → Int32) (F64 : Nat → Nat → Int32) (H : Heap) (locs : List Loc) , (cn4 44) - i64 < n → (i64 ≤ (cn4 44) ∧ Fr [44] [54, 55, 56] [7, 42, 43] cn In Fn cn4 I64 F64 ∧ IM cn4 F64 ∧ (AK cn4 F64) ∧ (∀ k : Nat, cn 1 ≤ k → F64 7 k = Fn 7 k) ∧ (RWF (F64 42) nI l9 ∧ cn4 44 = l9.length) ∧ ((∀ i : Nat, i < i64 → F64 7 (l9.getD i 0) = nI i18) ∧ ∀ k : Nat, (∀ i : Nat, i < i64 → ¬ l9.getD i 0 = k) → F64 7 k = F18 7 k) ∧ (I64 54 = I18 54 + r_8 ∧ I64 55 = I18 55 + sg (fun i => lkM F18 (l9.getD i 0) (nI i18)) i64 ∧ I64 56 = I18 56 + nI i64)) → va_P D vwCl (wM cI cB cZ g cn4 I64 F64) H → va_D A (wM cI cB cZ g cn4 I64 F64) → va_S A s.heap H locs → ∀ ls : Array Slot, lv_has ls 6 [(5, .int (nI i64)), (4, .int (nI i18)), (0, .ref (g 100)), (1, .int (nI d0)), (2, .int (nI n0)), (3, .int v2)] → W p l e (RM 5 0 0) s m ([.ref (g 100), .int (nI d0), .int (nI n0), .int v2]).toArray below meth c H locs 0 0 (MQ below (va_Qi (fun (r : Int32) (u : (Nat → Nat) × (Nat → Int32) × (Nat → Nat → Int32)) => (fun r c2 I2 F2 => Fr [44] [54, 55, 56] [7, 42, 43] cn In Fn c2 I2 F2 ∧ IM c2 F2 ∧ ((∀ k : Nat, cn 1 ≤ k → F2 7 k = Fn 7 k) ∧ ((r = 0 ∧ ((∃ k : Nat, k < cn 1 ∧ (d0 : Int) < (Fn 7 k).toInt) ∨ NGF (cn 1) v2.toInt (fun (d9 : Int32) (t9 : Nat → Int32) (k9 : Nat) => if Fn 5 k9 * (d9 - t9 k9) < Fn 6 k9 then Fn 5 k9 * (d9 - t9 k9) else Fn 6 k9) (RTW (fun (l : List Nat) (a b : Nat) => apM (Fn 3 (l.getD a 0)) (Fn 4 (l.getD a 0)) (Fn 3 (l.getD b 0)) (Fn 4 (l.getD b 0))) (fun (l : List Nat) (a : Nat) => Fn 3 (l.getD a 0) + Fn 4 (l.getD a 0))) d0 (Fn 7) n0)) ∨ (r = 1 ∧ (∀ k : Nat, k < cn 1 → (Fn 7 k).toInt ≤ (d0 : Int)) ∧ ∃ t : Nat → Int32, NGS (cn 1) v2.toInt (fun (d9 : Int32) (t9 : Nat → Int32) (k9 : Nat) => if Fn 5 k9 * (d9 - t9 k9) < Fn 6 k9 then Fn 5 k9 * (d9 - t9 k9) else Fn 6 k9) (RTW (fun (l : List Nat) (a b : Nat) => apM (Fn 3 (l.getD a 0)) (Fn 4 (l.getD a 0)) (Fn 3 (l.getD b 0)) (Fn 4 (l.getD b 0))) (fun (l : List Nat) (a : Nat) => Fn 3 (l.getD a 0) + Fn 4 (l.getD a 0))) d0 (Fn 7) n0 t (I2 54) (I2 55) (I2 56))))) r u.1 u.2.1 u.2.2) (fun (u : (Nat → Nat) × (Nat → Int32) × (Nat → Nat → Int32)) (t : State) => va_P D vwCl (wM cI cB cZ g u.1 u.2.1 u.2.2) t.heap ∧ va_D A (wM cI cB cZ g u.1 u.2.1 u.2.2)) A) ([.ref (g 100), .int (nI d0), .int (nI n0), .int v2]).toArray s 0 0 A) (F0 m 64 ls []) := by
            intro n64
            induction n64 with
            | zero => intros; (first | exact q18 | exact q18j | exact q18n | exact q18m | omega | (have zz0 := Hid.u hi_c18; have zz1 := Hid.u hi_cn; have zz2 := Hid.u hi_cn4; have zz3 := Hid.u hq_c18; have zz4 := Hid.u hq_cn4; omega))
            | succ n64 ih64 =>
              intro i64 I64 F64 H locs hmu64 hinv64 hP hD hS ls hl
              obtain ⟨hr64, hfr64, hI64, hx64_0, hx64_1, hx64_2, hx64_3, hx64_4⟩ := hinv64
              have ti64 : (nI i64).toInt = (i64 : Int) := nI_toInt (by (first | exact q18 | exact q18j | exact q18n | exact q18m | omega | (have zz0 := Hid.u hi_c18; have zz1 := Hid.u hi_cn; have zz2 := Hid.u hi_cn4; have zz3 := Hid.u hq_c18; have zz4 := Hid.u hq_cn4; omega)))
              have hi_cn4 : Hid (CB cn4) := hI64.b
              have hq_cn4 := Hid.i (frq_44_0_1_2_46_57_58_62_63_75_83 hfr64)
              have h944 := hx64_2.2
              have elk64 : i64 < l9.length → lkM F64 (l9.getD i64 0) (nI i18) = lkM F18 (l9.getD i64 0) (nI i18) := fun hi => by unfold lkM; rw [hfr64.2.2 5 (nml rfl), hfr64.2.2 6 (nml rfl), e5, e6, hx64_3.2 _ (fun i h9 w9 => by have := hal.so _ _ i i64 h9 hi; (first | exact q18 | exact q18j | exact q18n | exact q18m | omega | (have zz0 := Hid.u hi_c18; have zz1 := Hid.u hi_cn; have zz2 := Hid.u hi_cn4; have zz3 := Hid.u hq_c18; have zz4 := Hid.u hq_cn4; omega)))]
              refine lv_iload hx hb (oc_21 64 (aq_13 shX12_goNights_51) ub_5) (lvA0 hl) ?_
              refine lv_aload_n hx hb (oc_42 66 (aq_15 shX12_goNights_51)) rfl (lvA2 hl) ?_
              refine gM_364 S hK hP (v := .int (nI (cn4 44))) rfl (oc_180 67 (aq_16 shX12_goNights_51) uw_1_108) ?_
              have : (nI (cn4 44)).toInt = (((cn4 44) : Nat) : Int) := nI_toInt (by (first | exact q18 | exact q18j | exact q18n | exact q18m | omega | (have zz0 := Hid.u hi_c18; have zz1 := Hid.u hi_cn; have zz2 := Hid.u hi_cn4; have zz3 := Hid.u hq_c18; have zz4 := Hid.u hq_cn4; omega)))
              refine lv_icmp_ge (tgt := 125) hx hb (oc_162 70 (aq_19 shX12_goNights_51) sgw_0_55) rfl (fun c_10 => ?_) (fun c_10 => ?_)
              ·
                have tc_10 : ((nI (cn4 44)).toInt : Int) ≤ (nI i64).toInt := Int32.le_iff_toInt_le.mp c_10
                refine lv_iinc (v := (nI (i18 + 1))) (lv' := [(4, .int (nI (i18 + 1))), (5, .int (nI i64)), (0, .ref (g 100)), (1, .int (nI d0)), (2, .int (nI n0)), (3, .int v2)]) hx hb (oc_132 125 shX12_goNights_125 ub_4 sgb_1) hl (k := 1) rfl (nI_1 _) (ltb rfl) rfl (fun ls hl => ?_)
                refine lv_goto (tgt := 18) hx hb (oc_167 128 (aq_3 shX12_goNights_125) sgw_255_146) rfl ?_
                exact ih18 (i18 + 1) cn4 I64 F64 _ _ (by (first | exact q18 | exact q18j | exact q18n | exact q18m | omega | (have zz0 := Hid.u hi_c18; have zz1 := Hid.u hi_cn; have zz2 := Hid.u hi_cn4; have zz3 := Hid.u hq_c18; have zz4 := Hid.u hq_cn4; omega))) ⟨(by (first | exact q18 | exact q18j | exact q18n | exact q18m | omega | (have zz0 := Hid.u hi_c18; have zz1 := Hid.u hi_cn; have zz2 := Hid.u hi_cn4; have zz3 := Hid.u hq_c18; have zz4 := Hid.u hq_cn4; omega))), (Fr.mo hfr64 (sbl rfl) (sbl rfl) (sbl rfl)), hI64, hx64_1, ⟨j8 + 1, F64 7, by (first | exact q18 | exact q18j | exact q18n | exact q18m | omega | (have zz0 := Hid.u hi_c18; have zz1 := Hid.u hi_cn; have zz2 := Hid.u hi_cn4; have zz3 := Hid.u hq_c18; have zz4 := Hid.u hq_cn4; omega)), (by have e9 : i64 = l9.length := (by (first | exact q18 | exact q18j | exact q18n | exact q18m | omega | (have zz0 := Hid.u hi_c18; have zz1 := Hid.u hi_cn; have zz2 := Hid.u hi_cn4; have zz3 := Hid.u hq_c18; have zz4 := Hid.u hq_cn4; omega))); rw [hx64_4.1, hx64_4.2.1, hx64_4.2.2, e9]; exact NGS.st hn8 (fun z hz => by show v2.toInt ≤ (lkM F18 z (nI i18)).toInt ↔ v2.toInt ≤ ((if Fn 5 z * ((nI (d0 + j8)) - t8 z) < Fn 6 z then Fn 5 z * ((nI (d0 + j8)) - t8 z) else Fn 6 z)).toInt; unfold lkM; rw [e5, e6, ht8 z hz, ej8]) hal hlw ⟨_, htb, hrn⟩ (fun k hk => by obtain ⟨a, ha, ea⟩ := getD_mem.mp hk; rw [← ea, ← ej8]; exact hx64_3.1 a (by (first | exact q18 | exact q18j | exact q18n | exact q18m | omega | (have zz0 := Hid.u hi_c18; have zz1 := Hid.u hi_cn; have zz2 := Hid.u hi_cn4; have zz3 := Hid.u hq_c18; have zz4 := Hid.u hq_cn4; omega)))) (fun k hk hm => (hx64_3.2 k (fun a ha w => hm (getD_mem.mpr ⟨a, by (first | exact q18 | exact q18j | exact q18n | exact q18m | omega | (have zz0 := Hid.u hi_c18; have zz1 := Hid.u hi_cn; have zz2 := Hid.u hi_cn4; have zz3 := Hid.u hq_c18; have zz4 := Hid.u hq_cn4; omega)), w⟩))).trans (ht8 k hk)) (sg_eq _ (fun i hi => by show lkM F18 (l9.getD i 0) (nI i18) = (if Fn 5 (l9.getD i 0) * ((nI (d0 + j8)) - t8 (l9.getD i 0)) < Fn 6 (l9.getD i 0) then Fn 5 (l9.getD i 0) * ((nI (d0 + j8)) - t8 (l9.getD i 0)) else Fn 6 (l9.getD i 0)); unfold lkM; rw [e5, e6, ht8 _ (hk9 i hi), ej8]))), (fun _ _ => rfl), (fun _ => if q9 : 0 < j8 then hb8 q9 else (by have z9 : j8 = 0 := (by (first | exact q18 | exact q18j | exact q18n | exact q18m | omega | (have zz0 := Hid.u hi_c18; have zz1 := Hid.u hi_cn; have zz2 := Hid.u hi_cn4; have zz3 := Hid.u hq_c18; have zz4 := Hid.u hq_cn4; omega))); subst z9; intro k hk; have := hnb k (by (first | exact q18 | exact q18j | exact q18n | exact q18m | omega | (have zz0 := Hid.u hi_c18; have zz1 := Hid.u hi_cn; have zz2 := Hid.u hi_cn4; have zz3 := Hid.u hq_c18; have zz4 := Hid.u hq_cn4; omega))); rw [ht8 k hk, hn8.1 k hk] at this; have q7 : (nI i18).toInt = (i18 : Int) := nI_toInt (by (first | exact q18 | exact q18j | exact q18n | exact q18m | omega | (have zz0 := Hid.u hi_c18; have zz1 := Hid.u hi_cn; have zz2 := Hid.u hi_cn4; have zz3 := Hid.u hq_c18; have zz4 := Hid.u hq_cn4; omega))); (first | exact q18 | exact q18j | exact q18n | exact q18m | omega | (have zz0 := Hid.u hi_c18; have zz1 := Hid.u hi_cn; have zz2 := Hid.u hi_cn4; have zz3 := Hid.u hq_c18; have zz4 := Hid.u hq_cn4; omega))))⟩⟩ hP hD hS ls (lv_sub hl [0, 2, 3, 4, 5] rfl)
              ·
                have tc_10 : ((nI i64).toInt : Int) < (nI (cn4 44)).toInt := Int32.lt_iff_toInt_lt.mp (Int32.not_le.mp c_10)
                refine lv_aload_n hx hb (oc_42 73 (aq_22 shX12_goNights_51)) rfl (lvA2 hl) ?_
                refine lv_aload_n hx hb (oc_42 74 (aq_23 shX12_goNights_51)) rfl (lvA2 hl) ?_
                refine gM_398 S hK hP (v := .int (I64 55)) rfl (oc_180 75 shX12_goNights_75 uw_1_142) ?_
                refine lv_aload_n hx hb (oc_42 78 (aq_3 shX12_goNights_75)) rfl (lvA2 hl) ?_
                refine lv_aload_n hx hb (oc_42 79 (aq_4 shX12_goNights_75)) rfl (lvA2 hl) ?_
                refine gM_101 S hK hP (v := .ref (g 42)) rfl (oc_180 80 (aq_5 shX12_goNights_75) uw_0_101) ?_
                refine lv_iload hx hb (oc_21 83 (aq_8 shX12_goNights_75) ub_5) (lvA0 hl) ?_
                have kb_1 : i64 < 10 := by (first | exact q18 | exact q18j | exact q18n | exact q18m | omega | (have zz0 := Hid.u hi_c18; have zz1 := Hid.u hi_cn; have zz2 := Hid.u hi_cn4; have zz3 := Hid.u hq_c18; have zz4 := Hid.u hq_cn4; omega))
                obtain ⟨a_11, ha_11, ea_11⟩ := hx64_0 i64 (by (first | exact q18 | exact q18j | exact q18n | exact q18m | omega | (have zz0 := Hid.u hi_c18; have zz1 := Hid.u hi_cn; have zz2 := Hid.u hi_cn4; have zz3 := Hid.u hq_c18; have zz4 := Hid.u hq_cn4; omega)))
                refine ldM_42 hx hb hK hP (x := (nI a_11)) (vp_in_nI kb_1 (ltb rfl)) (nI_clamp (Nat.lt_trans kb_1 (ltb rfl))) ea_11 (oc_46 85 (aq_10 shX12_goNights_75)) ?_
                obtain rfl : a_11 = l9.getD i64 0 := nIw_inj (by (first | exact q18 | exact q18j | exact q18n | exact q18m | omega | (have zz0 := Hid.u hi_c18; have zz1 := Hid.u hi_cn; have zz2 := Hid.u hi_cn4; have zz3 := Hid.u hq_c18; have zz4 := Hid.u hq_cn4; omega))) (by have := hk9 i64 (by (first | exact q18 | exact q18j | exact q18n | exact q18m | omega | (have zz0 := Hid.u hi_c18; have zz1 := Hid.u hi_cn; have zz2 := Hid.u hi_cn4; have zz3 := Hid.u hq_c18; have zz4 := Hid.u hq_cn4; omega))); (first | exact q18 | exact q18j | exact q18n | exact q18m | omega | (have zz0 := Hid.u hi_c18; have zz1 := Hid.u hi_cn; have zz2 := Hid.u hi_cn4; have zz3 := Hid.u hq_c18; have zz4 := Hid.u hq_cn4; omega))) (ea_11.symm.trans (hx64_2.1.at (by (first | exact q18 | exact q18j | exact q18n | exact q18m | omega | (have zz0 := Hid.u hi_c18; have zz1 := Hid.u hi_cn; have zz2 := Hid.u hi_cn4; have zz3 := Hid.u hq_c18; have zz4 := Hid.u hq_cn4; omega)))))
                have := hk9 i64 (by (first | exact q18 | exact q18j | exact q18n | exact q18m | omega | (have zz0 := Hid.u hi_c18; have zz1 := Hid.u hi_cn; have zz2 := Hid.u hi_cn4; have zz3 := Hid.u hq_c18; have zz4 := Hid.u hq_cn4; omega)))
                refine lv_iload hx hb (oc_21 86 (aq_11 shX12_goNights_75) ub_4) (lvA1 hl) ?_
                refine vp_callSi (runV_ra (As := [.int (nI (l9.getD i64 0)), .int (nI i18)]) (rest := [.int (I64 55), .ref (g 100)]) S (q_likelyOn l D cI cB cZ g cn4 I64 F64 (l9.getD i64 0) (nI i18) hI64 (by (first | exact q18 | exact q18j | exact q18n | exact q18m | omega | (have zz0 := Hid.u hi_c18; have zz1 := Hid.u hi_cn; have zz2 := Hid.u hi_cn4; have zz3 := Hid.u hq_c18; have zz4 := Hid.u hq_cn4; omega)))) kV_RX12_222 hK hP 0 rfl rfl rfl ⟨Nat.le_of_ble_eq_true rfl, Nat.le_of_ble_eq_true rfl⟩ ⟨Nat.le_of_ble_eq_true rfl, Nat.le_of_ble_eq_true rfl⟩ rfl hl.1 rfl (Nat.le_of_ble_eq_true rfl) (oc_182 88 (aq_13 shX12_goNights_75) uw_0_222)) (fun r_12 h_13 => ?_)
                subst h_13
                have elk64 := elk64 (by (first | exact q18 | exact q18j | exact q18n | exact q18m | omega | (have zz0 := Hid.u hi_c18; have zz1 := Hid.u hi_cn; have zz2 := Hid.u hi_cn4; have zz3 := Hid.u hq_c18; have zz4 := Hid.u hq_cn4; omega)))
                refine lv_iadd hx hb (oc_96 91 (aq_16 shX12_goNights_75)) ?_
                refine pM_398 S hK hP hD hS (In2 := (va_up I64 55 ((I64 55) + (lkM F64 (l9.getD i64 0) (nI i18))))) rfl (oc_181 92 (aq_17 shX12_goNights_75) uw_1_142) (fun H locs hP hD hS => ?_)
                refine lv_aload_n hx hb (oc_42 95 (aq_20 shX12_goNights_75)) rfl (lvA2 hl) ?_
                refine lv_aload_n hx hb (oc_42 96 (aq_21 shX12_goNights_75)) rfl (lvA2 hl) ?_
                refine gM_401 S hK hP (v := .int (I64 56)) rfl (oc_180 97 (aq_22 shX12_goNights_75) uw_1_145) ?_
                refine lv_iconst (v := 1) hx hb (oc_4 100 shX12_goNights_100) kic_1 ?_
                refine lv_iadd hx hb (oc_96 101 (aq_1 shX12_goNights_100)) ?_
                refine pM_401 S hK hP hD hS (In2 := (va_up (va_up I64 55 ((I64 55) + (lkM F64 (l9.getD i64 0) (nI i18)))) 56 ((I64 56) + 1))) rfl (oc_181 102 (aq_2 shX12_goNights_100) uw_1_145) (fun H locs hP hD hS => ?_)
                refine lv_aload_n hx hb (oc_42 105 (aq_5 shX12_goNights_100)) rfl (lvA2 hl) ?_
                refine gM_22 S hK hP (v := .ref (g 7)) rfl (oc_180 106 (aq_6 shX12_goNights_100) uw_0_22) ?_
                refine lv_aload_n hx hb (oc_42 109 (aq_9 shX12_goNights_100)) rfl (lvA2 hl) ?_
                refine gM_101 S hK hP (v := .ref (g 42)) rfl (oc_180 110 (aq_10 shX12_goNights_100) uw_0_101) ?_
                refine lv_iload hx hb (oc_21 113 (aq_13 shX12_goNights_100) ub_5) (lvA0 hl) ?_
                obtain ⟨a_14, ha_14, ea_14⟩ := hx64_0 i64 (by (first | exact q18 | exact q18j | exact q18n | exact q18m | omega | (have zz0 := Hid.u hi_c18; have zz1 := Hid.u hi_cn; have zz2 := Hid.u hi_cn4; have zz3 := Hid.u hq_c18; have zz4 := Hid.u hq_cn4; omega)))
                refine ldM_42 hx hb hK hP (x := (nI a_14)) (vp_in_nI kb_1 (ltb rfl)) (nI_clamp (Nat.lt_trans kb_1 (ltb rfl))) ea_14 (oc_46 115 (aq_15 shX12_goNights_100)) ?_
                obtain rfl : a_14 = l9.getD i64 0 := nIw_inj (by (first | exact q18 | exact q18j | exact q18n | exact q18m | omega | (have zz0 := Hid.u hi_c18; have zz1 := Hid.u hi_cn; have zz2 := Hid.u hi_cn4; have zz3 := Hid.u hq_c18; have zz4 := Hid.u hq_cn4; omega))) (by have := hk9 i64 (by (first | exact q18 | exact q18j | exact q18n | exact q18m | omega | (have zz0 := Hid.u hi_c18; have zz1 := Hid.u hi_cn; have zz2 := Hid.u hi_cn4; have zz3 := Hid.u hq_c18; have zz4 := Hid.u hq_cn4; omega))); (first | exact q18 | exact q18j | exact q18n | exact q18m | omega | (have zz0 := Hid.u hi_c18; have zz1 := Hid.u hi_cn; have zz2 := Hid.u hi_cn4; have zz3 := Hid.u hq_c18; have zz4 := Hid.u hq_cn4; omega))) (ea_14.symm.trans (hx64_2.1.at (by (first | exact q18 | exact q18j | exact q18n | exact q18m | omega | (have zz0 := Hid.u hi_c18; have zz1 := Hid.u hi_cn; have zz2 := Hid.u hi_cn4; have zz3 := Hid.u hq_c18; have zz4 := Hid.u hq_cn4; omega)))))
                have := hk9 i64 (by (first | exact q18 | exact q18j | exact q18n | exact q18m | omega | (have zz0 := Hid.u hi_c18; have zz1 := Hid.u hi_cn; have zz2 := Hid.u hi_cn4; have zz3 := Hid.u hq_c18; have zz4 := Hid.u hq_cn4; omega)))
                refine lv_iload hx hb (oc_21 116 (aq_16 shX12_goNights_100) ub_4) (lvA1 hl) ?_
                have kb_2 : (l9.getD i64 0) < 10 := by (first | exact q18 | exact q18j | exact q18n | exact q18m | omega | (have zz0 := Hid.u hi_c18; have zz1 := Hid.u hi_cn; have zz2 := Hid.u hi_cn4; have zz3 := Hid.u hq_c18; have zz4 := Hid.u hq_cn4; omega))
                refine stM_7 hx hb hK hP hD hS (Fn2 := (va_up F64 7 (upd (F64 7) (l9.getD i64 0) (nI i18)))) (vp_in_nI kb_2 (ltb rfl)) (nI_clamp (Nat.lt_trans kb_2 (ltb rfl))) rfl (oc_79 118 (aq_18 shX12_goNights_100)) (fun H locs hP hD hS => ?_)
                refine lv_iinc (v := (nI (i64 + 1))) (lv' := [(5, .int (nI (i64 + 1))), (4, .int (nI i18)), (0, .ref (g 100)), (1, .int (nI d0)), (2, .int (nI n0)), (3, .int v2)]) hx hb (oc_132 119 (aq_19 shX12_goNights_100) ub_5 sgb_1) hl (k := 0) rfl (nI_1 _) (ltb rfl) rfl (fun ls hl => ?_)
                refine lv_goto (tgt := 64) hx hb (oc_167 122 (aq_22 shX12_goNights_100) sgw_255_198) rfl ?_
                exact ih64 (i64 + 1) (va_up (va_up I64 55 ((I64 55) + (lkM F64 (l9.getD i64 0) (nI i18)))) 56 ((I64 56) + 1)) (va_up F64 7 (upd (F64 7) (l9.getD i64 0) (nI i18))) _ _ (by (first | exact q18 | exact q18j | exact q18n | exact q18m | omega | (have zz0 := Hid.u hi_c18; have zz1 := Hid.u hi_cn; have zz2 := Hid.u hi_cn4; have zz3 := Hid.u hq_c18; have zz4 := Hid.u hq_cn4; omega))) ⟨(by (first | exact q18 | exact q18j | exact q18n | exact q18m | omega | (have zz0 := Hid.u hi_c18; have zz1 := Hid.u hi_cn; have zz2 := Hid.u hi_cn4; have zz3 := Hid.u hq_c18; have zz4 := Hid.u hq_cn4; omega))), (Fr.mo (Fr.f 7 (Fr.i 56 (Fr.i 55 hfr64))) (sbl rfl) (sbl rfl) (sbl rfl)), (IM.e7up hI64 (by (first | exact q18 | exact q18j | exact q18n | exact q18m | omega | (have zz0 := Hid.u hi_c18; have zz1 := Hid.u hi_cn; have zz2 := Hid.u hi_cn4; have zz3 := Hid.u hq_c18; have zz4 := Hid.u hq_cn4; omega))) (by (first | exact q18 | exact q18j | exact q18n | exact q18m | omega | (have zz0 := Hid.u hi_c18; have zz1 := Hid.u hi_cn; have zz2 := Hid.u hi_cn4; have zz3 := Hid.u hq_c18; have zz4 := Hid.u hq_cn4; omega)))), (AK.fr (In := I64) hx64_0 (Fr.f 7 Fr.rf) (by decide) (by decide)), (fun k hk => upd_keep (b := cn 1) hx64_1 (by (first | exact q18 | exact q18j | exact q18n | exact q18m | omega | (have zz0 := Hid.u hi_c18; have zz1 := Hid.u hi_cn; have zz2 := Hid.u hi_cn4; have zz3 := Hid.u hq_c18; have zz4 := Hid.u hq_cn4; omega))) hk), hx64_2, ⟨(fun i hi => by show upd (F64 7) (l9.getD i64 0) (nI i18) (l9.getD i 0) = nI i18; by_cases q9 : l9.getD i 0 = l9.getD i64 0; (rw [q9, upd_self]); (rw [upd_n q9]; exact hx64_3.1 i (by have q8 : ¬ i = i64 := (fun w => q9 (by rw [w])); (first | exact q18 | exact q18j | exact q18n | exact q18m | omega | (have zz0 := Hid.u hi_c18; have zz1 := Hid.u hi_cn; have zz2 := Hid.u hi_cn4; have zz3 := Hid.u hq_c18; have zz4 := Hid.u hq_cn4; omega))))), (fun k hk => by show upd (F64 7) (l9.getD i64 0) (nI i18) k = F18 7 k; rw [upd_n (fun w => hk i64 (by (first | exact q18 | exact q18j | exact q18n | exact q18m | omega | (have zz0 := Hid.u hi_c18; have zz1 := Hid.u hi_cn; have zz2 := Hid.u hi_cn4; have zz3 := Hid.u hq_c18; have zz4 := Hid.u hq_cn4; omega))) w.symm)]; exact hx64_3.2 k (fun i hi => hk i (by (first | exact q18 | exact q18j | exact q18n | exact q18m | omega | (have zz0 := Hid.u hi_c18; have zz1 := Hid.u hi_cn; have zz2 := Hid.u hi_cn4; have zz3 := Hid.u hq_c18; have zz4 := Hid.u hq_cn4; omega)))))⟩, ⟨hx64_4.1, (by show I64 55 + lkM F64 (l9.getD i64 0) (nI i18) = _; rw [elk64, hx64_4.2.1]; exact Int32.add_assoc _ _ _), (by show I64 56 + 1 = _; rw [hx64_4.2.2, Int32.add_assoc]; exact congrArg (fun z => I18 56 + z) (nI_add i64 1))⟩⟩ hP hD hS ls (lv_sub hl [0, 1, 2, 3, 4, 5] rfl)
          exact lp_64 _ 0 (va_up I18 54 ((I18 54) + r_8)) Fn4 _ _ (Nat.lt_succ_self _) ⟨(by (first | exact q18 | exact q18j | exact q18n | exact q18m | omega | (have zz0 := Hid.u hi_c18; have zz1 := Hid.u hi_cn; have zz2 := Hid.u hi_cn4; have zz3 := Hid.u hq_c18; have zz4 := Hid.u hq_cn4; omega))), (Fr.mo (Fr.i 54 hf4) (sbl rfl) (sbl rfl) (sbl rfl)), hIn4, hAK9, h7n, ⟨r42, hc44⟩, ⟨fun i hi => absurd hi (Nat.not_lt_zero i), fun k _ => congrFun f7 k⟩, ⟨rfl, (Int32.add_zero _).symm, (Int32.add_zero _).symm⟩⟩ hP hD hS ls (lv_sub hl [0, 1, 2, 3, 4, 5] rfl)
        ·
          have tc_5 : (r_3.toInt : Int) = 0 := congrArg Int32.toInt c_5
          refine lv_iconst (v := 0) hx hb (oc_3 38 (aq_12 shX12_goNights_26)) kic_0 ?_
          exact W.zret (v := 0) hx hb hr rfl (fun t ht hW => ⟨⟨0, (cn4, I18, Fn4), rfl, ⟨(Fr.mo hf4 (sbl rfl) (sbl rfl) (sbl rfl)), hIn4, (by show (∀ k : Nat, cn 1 ≤ k → Fn4 7 k = Fn 7 k) ∧ ((0 = 0 ∧ ((∃ k : Nat, k < cn 1 ∧ (d0 : Int) < (Fn 7 k).toInt) ∨ NGF (cn 1) v2.toInt (fun (d9 : Int32) (t9 : Nat → Int32) (k9 : Nat) => if Fn 5 k9 * (d9 - t9 k9) < Fn 6 k9 then Fn 5 k9 * (d9 - t9 k9) else Fn 6 k9) (RTW (fun (l : List Nat) (a b : Nat) => apM (Fn 3 (l.getD a 0)) (Fn 4 (l.getD a 0)) (Fn 3 (l.getD b 0)) (Fn 4 (l.getD b 0))) (fun (l : List Nat) (a : Nat) => Fn 3 (l.getD a 0) + Fn 4 (l.getD a 0))) d0 (Fn 7) n0)) ∨ (0 = 1 ∧ (∀ k : Nat, k < cn 1 → (Fn 7 k).toInt ≤ (d0 : Int)) ∧ ∃ t : Nat → Int32, NGS (cn 1) v2.toInt (fun (d9 : Int32) (t9 : Nat → Int32) (k9 : Nat) => if Fn 5 k9 * (d9 - t9 k9) < Fn 6 k9 then Fn 5 k9 * (d9 - t9 k9) else Fn 6 k9) (RTW (fun (l : List Nat) (a b : Nat) => apM (Fn 3 (l.getD a 0)) (Fn 4 (l.getD a 0)) (Fn 3 (l.getD b 0)) (Fn 4 (l.getD b 0))) (fun (l : List Nat) (a : Nat) => Fn 3 (l.getD a 0) + Fn 4 (l.getD a 0))) d0 (Fn 7) n0 t (I18 54) (I18 55) (I18 56))); refine ⟨(fun k hk => (congrFun (hfc4.2.2 7 (nml rfl)) k).trans (hx18_0 k hk)), Or.inl ⟨rfl, ?_⟩⟩; rcases h_4.elim (fun w => w.2) (fun w => absurd (show (1 : Int32) = 0 from w.1.symm.trans (by first | assumption | exact Int32.toInt_inj.mp (by assumption))) (by decide)) with ⟨k, hk, hb⟩ | ⟨l9, hal, hlw⟩; (refine Or.inl ⟨k, by (first | exact q18 | exact q18j | exact q18n | exact q18m | omega | (have zz0 := Hid.u hi_c18; have zz1 := Hid.u hi_cn; have zz2 := Hid.u hi_cn4; have zz3 := Hid.u hq_c18; have zz4 := Hid.u hq_cn4; omega)), ?_⟩; rw [ht8 k (by (first | exact q18 | exact q18j | exact q18n | exact q18m | omega | (have zz0 := Hid.u hi_c18; have zz1 := Hid.u hi_cn; have zz2 := Hid.u hi_cn4; have zz3 := Hid.u hq_c18; have zz4 := Hid.u hq_cn4; omega)))] at hb; have q7 : (nI i18).toInt = (i18 : Int) := nI_toInt (by (first | exact q18 | exact q18j | exact q18n | exact q18m | omega | (have zz0 := Hid.u hi_c18; have zz1 := Hid.u hi_cn; have zz2 := Hid.u hi_cn4; have zz3 := Hid.u hq_c18; have zz4 := Hid.u hq_cn4; omega))); rcases NGS.far _ _ _ _ _ hn8 k (by (first | exact q18 | exact q18j | exact q18n | exact q18m | omega | (have zz0 := Hid.u hi_c18; have zz1 := Hid.u hi_cn; have zz2 := Hid.u hi_cn4; have zz3 := Hid.u hq_c18; have zz4 := Hid.u hq_cn4; omega))) with q | ⟨i, hi, q⟩; (rw [q] at hb; (first | exact q18 | exact q18j | exact q18n | exact q18m | omega | (have zz0 := Hid.u hi_c18; have zz1 := Hid.u hi_cn; have zz2 := Hid.u hi_cn4; have zz3 := Hid.u hq_c18; have zz4 := Hid.u hq_cn4; omega))); (rw [q] at hb; have q6 : (nI (d0 + i)).toInt = ((d0 + i : Nat) : Int) := nI_toInt (by (first | exact q18 | exact q18j | exact q18n | exact q18m | omega | (have zz0 := Hid.u hi_c18; have zz1 := Hid.u hi_cn; have zz2 := Hid.u hi_cn4; have zz3 := Hid.u hq_c18; have zz4 := Hid.u hq_cn4; omega))); (first | exact q18 | exact q18j | exact q18n | exact q18m | omega | (have zz0 := Hid.u hi_c18; have zz1 := Hid.u hi_cn; have zz2 := Hid.u hi_cn4; have zz3 := Hid.u hq_c18; have zz4 := Hid.u hq_cn4; omega)))); (rw [e1] at hal; exact Or.inr ⟨j8, t8, _, _, _, l9, by (first | exact q18 | exact q18j | exact q18n | exact q18m | omega | (have zz0 := Hid.u hi_c18; have zz1 := Hid.u hi_cn; have zz2 := Hid.u hi_cn4; have zz3 := Hid.u hq_c18; have zz4 := Hid.u hq_cn4; omega)), hn8, AL.cg _ _ (fun z hz => by show v2.toInt ≤ (lkM F18 z (nI i18)).toInt ↔ v2.toInt ≤ ((if Fn 5 z * ((nI (d0 + j8)) - t8 z) < Fn 6 z then Fn 5 z * ((nI (d0 + j8)) - t8 z) else Fn 6 z)).toInt; unfold lkM; rw [e5, e6, ht8 z hz, ej8]) hal, hlw⟩))⟩, by rw [ht]; exact hP, hD⟩, hS.F ht⟩) hS.2.2 (oc_172 39 (aq_13 shX12_goNights_26))
  exact lp_18 _ d0 cn (va_up (va_up (va_up In 54 0) 55 0) 56 0) Fn _ _ (Nat.lt_succ_self _) ⟨(by (first | exact q18 | exact q18j | exact q18n | exact q18m | omega | (have zz0 := Hid.u hi_cn; omega))), (Fr.mo (Fr.i 56 (Fr.i 55 (Fr.i 54 Fr.rf))) (sbl rfl) (sbl rfl) (sbl rfl)), hI, (fun k hk => rfl), ⟨0, Fn 7, rfl, ⟨fun _ _ => rfl, rfl, rfl, rfl⟩, (fun _ _ => rfl), fun h => absurd h (Nat.lt_irrefl 0)⟩⟩ hP hD hS ls (lv_sub hl [0, 1, 2, 3, 4] rfl)
set_option maxRecDepth 100000 in
set_option maxHeartbeats 4000000 in
theorem q_nights9 (l : Launch) (D : va_G) (cI cB cZ : ClassId) (g : Nat → Nat) (cn : Nat → Nat) (In : Nat → Int32) (Fn : Nat → Nat → Int32) (v0 v1 v2 v3 : Int32) (sz : Nat) (hI : IM cn Fn) (hxy : ∀ k : Nat, k < cn 1 → XYB (Fn 3 k) (Fn 4 k)) : Met l yX12_nights (CWS yX12_nights cX12_nights 7 (some .int)) (RM 6 0 0) (PBw [.ref (g 100), .int v0, .int v1, .int v2, .int v3] D cI cB cZ (wM cI cB cZ g cn In Fn) sz) (va_Qi (fun (r : Int32) (u : (Nat → Nat) × (Nat → Int32) × (Nat → Nat → Int32)) => (fun r c2 I2 F2 => Fr [44] [54, 55, 56] [7, 42, 43, 52] cn In Fn c2 I2 F2 ∧ IM c2 F2 ∧ (F2 7 = Fn 7 ∧ ((¬ ((0 ≤ v0.toInt ∧ v0.toInt ≤ 399) ∧ (1 ≤ v1.toInt ∧ v1.toInt ≤ 7) ∧ v0.toInt + v1.toInt ≤ 400 ∧ (1 ≤ v2.toInt ∧ v2.toInt ≤ 400) ∧ 0 ≤ v3.toInt ∧ v3.toInt ≤ 2) ∧ r = -1) ∨ (((0 ≤ v0.toInt ∧ v0.toInt ≤ 399) ∧ (1 ≤ v1.toInt ∧ v1.toInt ≤ 7) ∧ v0.toInt + v1.toInt ≤ 400 ∧ (1 ≤ v2.toInt ∧ v2.toInt ≤ 400) ∧ 0 ≤ v3.toInt ∧ v3.toInt ≤ 2) ∧ r = -2 ∧ ((∃ k : Nat, k < cn 1 ∧ v0.toInt < (Fn 7 k).toInt) ∨ NGF (cn 1) v2.toInt (fun (d9 : Int32) (t9 : Nat → Int32) (k9 : Nat) => if Fn 5 k9 * (d9 - t9 k9) < Fn 6 k9 then Fn 5 k9 * (d9 - t9 k9) else Fn 6 k9) (RTW (fun (l : List Nat) (a b : Nat) => apM (Fn 3 (l.getD a 0)) (Fn 4 (l.getD a 0)) (Fn 3 (l.getD b 0)) (Fn 4 (l.getD b 0))) (fun (l : List Nat) (a : Nat) => Fn 3 (l.getD a 0) + Fn 4 (l.getD a 0))) v0.toInt.toNat (Fn 7) v1.toInt.toNat)) ∨ (((0 ≤ v0.toInt ∧ v0.toInt ≤ 399) ∧ (1 ≤ v1.toInt ∧ v1.toInt ≤ 7) ∧ v0.toInt + v1.toInt ≤ 400 ∧ (1 ≤ v2.toInt ∧ v2.toInt ≤ 400) ∧ 0 ≤ v3.toInt ∧ v3.toInt ≤ 2) ∧ (∀ k : Nat, k < cn 1 → (Fn 7 k).toInt ≤ v0.toInt) ∧ ∃ (t : Nat → Int32) (a b c : Int32), NGS (cn 1) v2.toInt (fun (d9 : Int32) (t9 : Nat → Int32) (k9 : Nat) => if Fn 5 k9 * (d9 - t9 k9) < Fn 6 k9 then Fn 5 k9 * (d9 - t9 k9) else Fn 6 k9) (RTW (fun (l : List Nat) (a b : Nat) => apM (Fn 3 (l.getD a 0)) (Fn 4 (l.getD a 0)) (Fn 3 (l.getD b 0)) (Fn 4 (l.getD b 0))) (fun (l : List Nat) (a : Nat) => Fn 3 (l.getD a 0) + Fn 4 (l.getD a 0))) v0.toInt.toNat (Fn 7) v1.toInt.toNat t a b c ∧ SEL v3 r a b c)))) r u.1 u.2.1 u.2.2) (fun (u : (Nat → Nat) × (Nat → Int32) × (Nat → Nat → Int32)) (t : State) => va_P D vwCl (wM cI cB cZ g u.1 u.2.1 u.2.2) t.heap ∧ va_D (va_A (wM cI cB cZ g cn In Fn) sz) (wM cI cB cZ g u.1 u.2.1 u.2.2)) (va_A (wM cI cB cZ g cn In Fn) sz)) 0 0 (va_A (wM cI cB cZ g cn In Fn) sz) := by
  refine en_w (fun A => (va_Qi (fun (r : Int32) (u : (Nat → Nat) × (Nat → Int32) × (Nat → Nat → Int32)) => (fun (r : Int32) (c2 : Nat → Nat) (I2 : Nat → Int32) (F2 : Nat → Nat → Int32) => Fr [44] [54, 55, 56] [7, 42, 43, 52] cn In Fn c2 I2 F2 ∧ IM c2 F2 ∧ (F2 7 = Fn 7 ∧ ((¬ ((0 ≤ v0.toInt ∧ v0.toInt ≤ 399) ∧ (1 ≤ v1.toInt ∧ v1.toInt ≤ 7) ∧ v0.toInt + v1.toInt ≤ 400 ∧ (1 ≤ v2.toInt ∧ v2.toInt ≤ 400) ∧ 0 ≤ v3.toInt ∧ v3.toInt ≤ 2) ∧ r = -1) ∨ (((0 ≤ v0.toInt ∧ v0.toInt ≤ 399) ∧ (1 ≤ v1.toInt ∧ v1.toInt ≤ 7) ∧ v0.toInt + v1.toInt ≤ 400 ∧ (1 ≤ v2.toInt ∧ v2.toInt ≤ 400) ∧ 0 ≤ v3.toInt ∧ v3.toInt ≤ 2) ∧ r = -2 ∧ ((∃ k : Nat, k < cn 1 ∧ v0.toInt < (Fn 7 k).toInt) ∨ NGF (cn 1) v2.toInt (fun (d9 : Int32) (t9 : Nat → Int32) (k9 : Nat) => if Fn 5 k9 * (d9 - t9 k9) < Fn 6 k9 then Fn 5 k9 * (d9 - t9 k9) else Fn 6 k9) (RTW (fun (l : List Nat) (a b : Nat) => apM (Fn 3 (l.getD a 0)) (Fn 4 (l.getD a 0)) (Fn 3 (l.getD b 0)) (Fn 4 (l.getD b 0))) (fun (l : List Nat) (a : Nat) => Fn 3 (l.getD a 0) + Fn 4 (l.getD a 0))) v0.toInt.toNat (Fn 7) v1.toInt.toNat)) ∨ (((0 ≤ v0.toInt ∧ v0.toInt ≤ 399) ∧ (1 ≤ v1.toInt ∧ v1.toInt ≤ 7) ∧ v0.toInt + v1.toInt ≤ 400 ∧ (1 ≤ v2.toInt ∧ v2.toInt ≤ 400) ∧ 0 ≤ v3.toInt ∧ v3.toInt ≤ 2) ∧ (∀ k : Nat, k < cn 1 → (Fn 7 k).toInt ≤ v0.toInt) ∧ ∃ (t : Nat → Int32) (a b c : Int32), NGS (cn 1) v2.toInt (fun (d9 : Int32) (t9 : Nat → Int32) (k9 : Nat) => if Fn 5 k9 * (d9 - t9 k9) < Fn 6 k9 then Fn 5 k9 * (d9 - t9 k9) else Fn 6 k9) (RTW (fun (l : List Nat) (a b : Nat) => apM (Fn 3 (l.getD a 0)) (Fn 4 (l.getD a 0)) (Fn 3 (l.getD b 0)) (Fn 4 (l.getD b 0))) (fun (l : List Nat) (a : Nat) => Fn 3 (l.getD a 0) + Fn 4 (l.getD a 0))) v0.toInt.toNat (Fn 7) v1.toInt.toNat t a b c ∧ SEL v3 r a b c)))) r u.1 u.2.1 u.2.2) (fun (u : (Nat → Nat) × (Nat → Int32) × (Nat → Nat → Int32)) (t : State) => va_P D vwCl (wM cI cB cZ g u.1 u.2.1 u.2.2) t.heap ∧ va_D A (wM cI cB cZ g u.1 u.2.1 u.2.2)) A)) rfl rfl pn_RX12 (Nat.le_of_ble_eq_true rfl) (fun p e s m below meth c A hx hb hml hown S hr hlocks hnm hA hP hK hD hS ls hl => ?_)
  have hl : lv_has ls 7 [(0, .ref (g 100)), (1, .int v0), (2, .int v1), (3, .int v2), (4, .int v3)] := hl
  have hi_cn : Hid (CB cn) := hI.b
  refine lv_iload_n hx hb (oc_27 0 shX12_nights_0) rfl (lvA1 hl) ?_
  refine vp_callSi (runS_r (As := [.int v0]) (rest := []) S (q_isDay l D cI cB cZ v0 ) kS_RX12_341 hK hP [] rfl ⟨Nat.le_of_ble_eq_true rfl, Nat.le_of_ble_eq_true rfl⟩ ⟨Nat.le_of_ble_eq_true rfl, Nat.le_of_ble_eq_true rfl⟩ rfl hl.1 rfl (Nat.le_of_ble_eq_true rfl) (oc_184 1 (aq_1 shX12_nights_0) uw_1_85)) (fun r_1 h_2 => ?_)
  rcases h_2 with ⟨rfl, h_2⟩ | ⟨rfl, h_2⟩
  ·
    have h_2 : 0 ≤ v0.toInt ∧ v0.toInt ≤ 399 := h_2
    refine lv_if_eq (tgt := 49) hx hb dX12_nights_4 rfl (fun h => absurd h cq_eq_1_0) (fun _ => ?_)
    refine lv_iload_n hx hb (oc_28 7 (aq_7 shX12_nights_0)) rfl (lvA2 hl) ?_
    refine lv_iconst (v := 1) hx hb (oc_4 8 (aq_8 shX12_nights_0)) kic_1 ?_
    refine lv_bipush (v := 7) hx hb (oc_16 9 (aq_9 shX12_nights_0) sgb_7) kbc_7 ?_
    refine vp_callSi (runS_r (As := [.int v1, .int 1, .int 7]) (rest := []) S (q_in l D cI cB cZ v1 1 7 ) kS_RX12_214 hK hP [] rfl ⟨Nat.le_of_ble_eq_true rfl, Nat.le_of_ble_eq_true rfl⟩ ⟨Nat.le_of_ble_eq_true rfl, Nat.le_of_ble_eq_true rfl⟩ rfl hl.1 rfl (Nat.le_of_ble_eq_true rfl) (oc_184 11 (aq_11 shX12_nights_0) uw_0_214)) (fun r_3 h_4 => ?_)
    rcases h_4 with ⟨rfl, h_4⟩ | ⟨rfl, h_4⟩
    ·
      have h_4 : 1 ≤ v1.toInt ∧ v1.toInt ≤ 7 := h_4
      refine lv_if_eq (tgt := 49) hx hb dX12_nights_14 rfl (fun h => absurd h cq_eq_1_0) (fun _ => ?_)
      obtain ⟨d0, hd0, rfl⟩ := nI_of (x := v0) (fun q => by have := Int32.lt_iff_toInt_lt.mp q; have e : (0 : Int32).toInt = 0 := rfl; (first | exact hC9 | exact q159 | omega | (have zz0 := Hid.u hi_cn; omega)))
      have td0 : (nI d0).toInt = (d0 : Int) := nI_toInt hd0
      have zd0 : (nI d0).toInt.toNat = d0 := by (first | exact hC9 | exact q159 | omega | (have zz0 := Hid.u hi_cn; omega))
      obtain ⟨n0, hn0, rfl⟩ := nI_of (x := v1) (fun q => by have := Int32.lt_iff_toInt_lt.mp q; have e : (0 : Int32).toInt = 0 := rfl; (first | exact hC9 | exact q159 | omega | (have zz0 := Hid.u hi_cn; omega)))
      have tn0 : (nI n0).toInt = (n0 : Int) := nI_toInt hn0
      have zn0 : (nI n0).toInt.toNat = n0 := by (first | exact hC9 | exact q159 | omega | (have zz0 := Hid.u hi_cn; omega))
      refine lv_iload_n hx hb (oc_27 17 (aq_17 shX12_nights_0)) rfl (lvA1 hl) ?_
      refine lv_iload_n hx hb (oc_28 18 (aq_18 shX12_nights_0)) rfl (lvA2 hl) ?_
      refine lv_iadd hx hb (oc_96 19 (aq_19 shX12_nights_0)) ?_
      refine lv_topi (fun y_5 ey_5 => ?_)
      obtain rfl : y_5 = (nI (d0 + n0)) := ey_5.trans (nI_add d0 n0)
      refine lv_iconst (v := 1) hx hb (oc_4 20 (aq_20 shX12_nights_0)) kic_1 ?_
      refine lv_isub hx hb (oc_100 21 (aq_21 shX12_nights_0)) ?_
      refine lv_topi (fun y_6 ey_6 => ?_)
      obtain rfl : y_6 = (nI (d0 + n0 - 1)) := ey_6.trans (nI_sub (b := 1) (by (first | exact hC9 | exact q159 | omega | (have zz0 := Hid.u hi_cn; omega))))
      refine lv_sipush (v := 399) hx hb (oc_17 22 (aq_22 shX12_nights_0) sgw_1_143) (by decide) ?_
      have : (nI (d0 + n0 - 1)).toInt = (((d0 + n0 - 1) : Nat) : Int) := nI_toInt (by (first | exact hC9 | exact q159 | omega | (have zz0 := Hid.u hi_cn; omega)))
      refine lv_icmp_gt (tgt := 49) hx hb (oc_163 25 shX12_nights_25 sgw_0_24) rfl (fun c_7 => ?_) (fun c_7 => ?_)
      ·
        have tc_7 : (399 : Int) < (nI (d0 + n0 - 1)).toInt := Int32.lt_iff_toInt_lt.mp c_7
        refine lv_iconst (v := (-1)) hx hb dX12_nights_49 kic_m1 ?_
        exact W.iret (v := (-1)) hx hb hr (fun t ht hW => ⟨⟨(-1), (cn, In, Fn), rfl, ⟨(Fr.mo Fr.rf (sbl rfl) (sbl rfl) (sbl rfl)), hI, (by show Fn 7 = Fn 7 ∧ ((¬ ((0 ≤ (nI d0).toInt ∧ (nI d0).toInt ≤ 399) ∧ (1 ≤ (nI n0).toInt ∧ (nI n0).toInt ≤ 7) ∧ (nI d0).toInt + (nI n0).toInt ≤ 400 ∧ (1 ≤ v2.toInt ∧ v2.toInt ≤ 400) ∧ 0 ≤ v3.toInt ∧ v3.toInt ≤ 2) ∧ (-1) = -1) ∨ (((0 ≤ (nI d0).toInt ∧ (nI d0).toInt ≤ 399) ∧ (1 ≤ (nI n0).toInt ∧ (nI n0).toInt ≤ 7) ∧ (nI d0).toInt + (nI n0).toInt ≤ 400 ∧ (1 ≤ v2.toInt ∧ v2.toInt ≤ 400) ∧ 0 ≤ v3.toInt ∧ v3.toInt ≤ 2) ∧ (-1) = -2 ∧ ((∃ k : Nat, k < cn 1 ∧ (nI d0).toInt < (Fn 7 k).toInt) ∨ NGF (cn 1) v2.toInt (fun (d9 : Int32) (t9 : Nat → Int32) (k9 : Nat) => if Fn 5 k9 * (d9 - t9 k9) < Fn 6 k9 then Fn 5 k9 * (d9 - t9 k9) else Fn 6 k9) (RTW (fun (l : List Nat) (a b : Nat) => apM (Fn 3 (l.getD a 0)) (Fn 4 (l.getD a 0)) (Fn 3 (l.getD b 0)) (Fn 4 (l.getD b 0))) (fun (l : List Nat) (a : Nat) => Fn 3 (l.getD a 0) + Fn 4 (l.getD a 0))) (nI d0).toInt.toNat (Fn 7) (nI n0).toInt.toNat)) ∨ (((0 ≤ (nI d0).toInt ∧ (nI d0).toInt ≤ 399) ∧ (1 ≤ (nI n0).toInt ∧ (nI n0).toInt ≤ 7) ∧ (nI d0).toInt + (nI n0).toInt ≤ 400 ∧ (1 ≤ v2.toInt ∧ v2.toInt ≤ 400) ∧ 0 ≤ v3.toInt ∧ v3.toInt ≤ 2) ∧ (∀ k : Nat, k < cn 1 → (Fn 7 k).toInt ≤ (nI d0).toInt) ∧ ∃ (t : Nat → Int32) (a b c : Int32), NGS (cn 1) v2.toInt (fun (d9 : Int32) (t9 : Nat → Int32) (k9 : Nat) => if Fn 5 k9 * (d9 - t9 k9) < Fn 6 k9 then Fn 5 k9 * (d9 - t9 k9) else Fn 6 k9) (RTW (fun (l : List Nat) (a b : Nat) => apM (Fn 3 (l.getD a 0)) (Fn 4 (l.getD a 0)) (Fn 3 (l.getD b 0)) (Fn 4 (l.getD b 0))) (fun (l : List Nat) (a : Nat) => Fn 3 (l.getD a 0) + Fn 4 (l.getD a 0))) (nI d0).toInt.toNat (Fn 7) (nI n0).toInt.toNat t a b c ∧ SEL v3 (-1) a b c)); exact ⟨rfl, Or.inl ⟨by (first | exact hC9 | exact q159 | omega | (have zz0 := Hid.u hi_cn; omega)), rfl⟩⟩)⟩, by rw [ht]; exact hP, hD⟩, hS.F ht⟩) hS.2.2 dX12_nights_50
      ·
        have tc_7 : ((nI (d0 + n0 - 1)).toInt : Int) ≤ 399 := Int32.le_iff_toInt_le.mp (Int32.not_lt.mp c_7)
        refine lv_iload_n hx hb (oc_29 28 (aq_3 shX12_nights_25)) rfl (lvA3 hl) ?_
        refine lv_iconst (v := 1) hx hb (oc_4 29 (aq_4 shX12_nights_25)) kic_1 ?_
        refine lv_sipush (v := 400) hx hb (oc_17 30 (aq_5 shX12_nights_25) sgw_1_144) (by decide) ?_
        refine vp_callSi (runS_r (As := [.int v2, .int 1, .int 400]) (rest := []) S (q_in l D cI cB cZ v2 1 400 ) kS_RX12_214 hK hP [] rfl ⟨Nat.le_of_ble_eq_true rfl, Nat.le_of_ble_eq_true rfl⟩ ⟨Nat.le_of_ble_eq_true rfl, Nat.le_of_ble_eq_true rfl⟩ rfl hl.1 rfl (Nat.le_of_ble_eq_true rfl) (oc_184 33 (aq_8 shX12_nights_25) uw_0_214)) (fun r_8 h_9 => ?_)
        rcases h_9 with ⟨rfl, h_9⟩ | ⟨rfl, h_9⟩
        ·
          have h_9 : 1 ≤ v2.toInt ∧ v2.toInt ≤ 400 := h_9
          refine lv_if_eq (tgt := 49) hx hb dX12_nights_36 rfl (fun h => absurd h cq_eq_1_0) (fun _ => ?_)
          refine lv_iload hx hb (oc_21 39 (aq_14 shX12_nights_25) ub_4) (lvA4 hl) ?_
          refine lv_iconst (v := 0) hx hb (oc_3 41 (aq_16 shX12_nights_25)) kic_0 ?_
          refine lv_iconst (v := 2) hx hb (oc_5 42 (aq_17 shX12_nights_25)) kic_2 ?_
          refine vp_callSi (runS_r (As := [.int v3, .int 0, .int 2]) (rest := []) S (q_in l D cI cB cZ v3 0 2 ) kS_RX12_214 hK hP [] rfl ⟨Nat.le_of_ble_eq_true rfl, Nat.le_of_ble_eq_true rfl⟩ ⟨Nat.le_of_ble_eq_true rfl, Nat.le_of_ble_eq_true rfl⟩ rfl hl.1 rfl (Nat.le_of_ble_eq_true rfl) (oc_184 43 (aq_18 shX12_nights_25) uw_0_214)) (fun r_10 h_11 => ?_)
          rcases h_11 with ⟨rfl, h_11⟩ | ⟨rfl, h_11⟩
          ·
            have h_11 : 0 ≤ v3.toInt ∧ v3.toInt ≤ 2 := h_11
            refine lv_if_ne (tgt := 51) hx hb dX12_nights_46 rfl (fun _ => ?_) (fun h => absurd h cq_eq_1_0)
            have hC9 : (0 ≤ (nI d0).toInt ∧ (nI d0).toInt ≤ 399) ∧ (1 ≤ (nI n0).toInt ∧ (nI n0).toInt ≤ 7) ∧ (nI d0).toInt + (nI n0).toInt ≤ 400 ∧ (1 ≤ v2.toInt ∧ v2.toInt ≤ 400) ∧ 0 ≤ v3.toInt ∧ v3.toInt ≤ 2 := by (first | exact hC9 | exact q159 | omega | (have zz0 := Hid.u hi_cn; omega))
            have hv3 : v3.toInt = 0 ∨ v3.toInt = 1 ∨ v3.toInt = 2 := by (first | exact hC9 | exact q159 | omega | (have zz0 := Hid.u hi_cn; omega))
            refine lv_iconst (v := 0) hx hb (oc_3 51 (aq_2 shX12_nights_49)) kic_0 ?_
            refine lv_istore (lv' := [(5, .int 0), (0, .ref (g 100)), (1, .int (nI d0)), (2, .int (nI n0)), (3, .int v2), (4, .int v3)]) hx hb (oc_54 52 (aq_3 shX12_nights_49) ub_5) hl (ltb rfl) rfl (fun ls hl => ?_)
            have lp_54 : ∀ (n : Nat) (i54 : Nat) (F54 : Nat → Nat → Int32) (H : Heap) (locs : List Loc) , cn 1 - i54 < n → (i54 ≤ cn 1 ∧ Fr [44] [54, 55, 56] [7, 42, 43, 52] cn In Fn cn In F54 ∧ IM cn F54 ∧ (∀ k : Nat, k < i54 → F54 52 k = Fn 7 k) ∧ (F54 7 = Fn 7)) → va_P D vwCl (wM cI cB cZ g cn In F54) H → va_D A (wM cI cB cZ g cn In F54) → va_S A s.heap H locs → ∀ ls : Array Slot, lv_has ls 7 [(5, .int (nI i54)), (0, .ref (g 100)), (1, .int (nI d0)), (2, .int (nI n0)), (3, .int v2), (4, .int v3)] → W p l e (RM 6 0 0) s m ([.ref (g 100), .int (nI d0), .int (nI n0), .int v2, .int v3]).toArray below meth c H locs 0 0 (MQ below (va_Qi (fun (r : Int32) (u : (Nat → Nat) × (Nat → Int32) × (Nat → Nat → Int32)) => (fun r c2 I2 F2 => Fr [44] [54, 55, 56] [7, 42, 43, 52] cn In Fn c2 I2 F2 ∧ IM c2 F2 ∧ (F2 7 = Fn 7 ∧ ((¬ ((0 ≤ (nI d0).toInt ∧ (nI d0).toInt ≤ 399) ∧ (1 ≤ (nI n0).toInt ∧ (nI n0).toInt ≤ 7) ∧ (nI d0).toInt + (nI n0).toInt ≤ 400 ∧ (1 ≤ v2.toInt ∧ v2.toInt ≤ 400) ∧ 0 ≤ v3.toInt ∧ v3.toInt ≤ 2) ∧ r = -1) ∨ (((0 ≤ (nI d0).toInt ∧ (nI d0).toInt ≤ 399) ∧ (1 ≤ (nI n0).toInt ∧ (nI n0).toInt ≤ 7) ∧ (nI d0).toInt + (nI n0).toInt ≤ 400 ∧ (1 ≤ v2.toInt ∧ v2.toInt ≤ 400) ∧ 0 ≤ v3.toInt ∧ v3.toInt ≤ 2) ∧ r = -2 ∧ ((∃ k : Nat, k < cn 1 ∧ (nI d0).toInt < (Fn 7 k).toInt) ∨ NGF (cn 1) v2.toInt (fun (d9 : Int32) (t9 : Nat → Int32) (k9 : Nat) => if Fn 5 k9 * (d9 - t9 k9) < Fn 6 k9 then Fn 5 k9 * (d9 - t9 k9) else Fn 6 k9) (RTW (fun (l : List Nat) (a b : Nat) => apM (Fn 3 (l.getD a 0)) (Fn 4 (l.getD a 0)) (Fn 3 (l.getD b 0)) (Fn 4 (l.getD b 0))) (fun (l : List Nat) (a : Nat) => Fn 3 (l.getD a 0) + Fn 4 (l.getD a 0))) (nI d0).toInt.toNat (Fn 7) (nI n0).toInt.toNat)) ∨ (((0 ≤ (nI d0).toInt ∧ (nI d0).toInt ≤ 399) ∧ (1 ≤ (nI n0).toInt ∧ (nI n0).toInt ≤ 7) ∧ (nI d0).toInt + (nI n0).toInt ≤ 400 ∧ (1 ≤ v2.toInt ∧ v2.toInt ≤ 400) ∧ 0 ≤ v3.toInt ∧ v3.toInt ≤ 2) ∧ (∀ k : Nat, k < cn 1 → (Fn 7 k).toInt ≤ (nI d0).toInt) ∧ ∃ (t : Nat → Int32) (a b c : Int32), NGS (cn 1) v2.toInt (fun (d9 : Int32) (t9 : Nat → Int32) (k9 : Nat) => if Fn 5 k9 * (d9 - t9 k9) < Fn 6 k9 then Fn 5 k9 * (d9 - t9 k9) else Fn 6 k9) (RTW (fun (l : List Nat) (a b : Nat) => apM (Fn 3 (l.getD a 0)) (Fn 4 (l.getD a 0)) (Fn 3 (l.getD b 0)) (Fn 4 (l.getD b 0))) (fun (l : List Nat) (a : Nat) => Fn 3 (l.getD a 0) + Fn 4 (l.getD a 0))) (nI d0).toInt.toNat (Fn 7) (nI n0).toInt.toNat t a b c ∧ SEL v3 r a b c)))) r u.1 u.2.1 u.2.2) (fun (u : (Nat → Nat) × (Nat → Int32) × (Nat → Nat → Int32)) (t : State) => va_P D vwCl (wM cI cB cZ g u.1 u.2.1 u.2.2) t.heap ∧ va_D A (wM cI cB cZ g u.1 u.2.1 u.2.2)) A) ([.ref (g 100), .int (nI d0), .int (nI n0), .int v2, .int v3]).toArray s 0 0 A) (F0 m 54 ls []) := by
              intro n54
              induction n54 with
              | zero => intros; (first | exact hC9 | exact q159 | omega | (have zz0 := Hid.u hi_cn; omega))
              | succ n54 ih54 =>
                intro i54 F54 H locs hmu54 hinv54 hP hD hS ls hl
                obtain ⟨hr54, hfr54, hI54, hx54_0, hx54_1⟩ := hinv54
                have ti54 : (nI i54).toInt = (i54 : Int) := nI_toInt (by (first | exact hC9 | exact q159 | omega | (have zz0 := Hid.u hi_cn; omega)))
                have hi_cn : Hid (CB cn) := hI54.b
                refine lv_iload hx hb (oc_21 54 (aq_5 shX12_nights_49) ub_5) (lvA0 hl) ?_
                refine lv_aload_n hx hb (oc_42 56 (aq_7 shX12_nights_49)) rfl (lvA1 hl) ?_
                refine gM_204 S hK hP (v := .int (nI (cn 1))) rfl (oc_180 57 (aq_8 shX12_nights_49) uw_0_204) ?_
                have : (nI (cn 1)).toInt = (((cn 1) : Nat) : Int) := nI_toInt (by (first | exact hC9 | exact q159 | omega | (have zz0 := Hid.u hi_cn; omega)))
                refine lv_icmp_ge (tgt := 83) hx hb (oc_162 60 (aq_11 shX12_nights_49) sgw_0_23) rfl (fun c_12 => ?_) (fun c_12 => ?_)
                ·
                  have tc_12 : ((nI (cn 1)).toInt : Int) ≤ (nI i54).toInt := Int32.le_iff_toInt_le.mp c_12
                  refine lv_aload_n hx hb (oc_42 83 (aq_10 shX12_nights_73)) rfl (lvA1 hl) ?_
                  refine lv_iload_n hx hb (oc_27 84 (aq_11 shX12_nights_73)) rfl (lvA2 hl) ?_
                  refine lv_iload_n hx hb (oc_28 85 (aq_12 shX12_nights_73)) rfl (lvA3 hl) ?_
                  refine lv_iload_n hx hb (oc_29 86 (aq_13 shX12_nights_73)) rfl (lvA4 hl) ?_
                  have e3 : F54 3 = Fn 3 := hfr54.2.2 3 (nml rfl)
                  have e4 : F54 4 = Fn 4 := hfr54.2.2 4 (nml rfl)
                  have e5 : F54 5 = Fn 5 := hfr54.2.2 5 (nml rfl)
                  have e6 : F54 6 = Fn 6 := hfr54.2.2 6 (nml rfl)
                  have hFc := free_all hD hS hA
                  refine va_calli (runV_a (As := [.int (nI d0), .int (nI n0), .int v2]) (rest := []) S (q_goNights9 l D cI cB cZ g cn In F54 d0 n0 v2 H.size hI54 (by (first | exact hC9 | exact q159 | omega | (have zz0 := Hid.u hi_cn; omega))) (by (first | exact hC9 | exact q159 | omega | (have zz0 := Hid.u hi_cn; omega))) (fun k hk => by rw [e3, e4]; exact hxy k (by (first | exact hC9 | exact q159 | omega | (have zz0 := Hid.u hi_cn; omega))))) kV_RX12_404 hK hP hD 0 rfl rfl rfl ⟨Nat.le_of_ble_eq_true rfl, Nat.le_of_ble_eq_true rfl⟩ ⟨Nat.le_of_ble_eq_true rfl, Nat.le_of_ble_eq_true rfl⟩ rfl hl.1 rfl (Nat.le_of_ble_eq_true rfl) (oc_182 87 (aq_14 shX12_nights_73) uw_1_148)) hS (fun q _ h => hFc q h) hFc (fun r_13 u t H1 locs ht hvm wh_14 hB hz1 hk1 hS => ?_)
                  obtain ⟨cn14, In14, Fn14⟩ := u
                  obtain ⟨hP1, hD1⟩ := hB
                  rw [ht] at hP1
                  have hP : va_P D vwCl (wM cI cB cZ g cn14 In14 Fn14) H1 := hP1
                  have hD : va_D A (wM cI cB cZ g cn14 In14 Fn14) := hD1.weaken (fun _ _ _ h => hFc _ h)
                  generalize H1 = H at hP hS ⊢
                  have vh_14 : (fun r c2 I2 F2 => Fr [44] [54, 55, 56] [7, 42, 43] cn In F54 c2 I2 F2 ∧ IM c2 F2 ∧ ((∀ k : Nat, (cn 1) ≤ k → F2 7 k = (F54 7) k) ∧ ((r = 0 ∧ ((∃ k : Nat, k < (cn 1) ∧ (d0 : Int) < ((F54 7) k).toInt) ∨ NGF ((cn 1)) v2.toInt (fun (d9 : Int32) (t9 : Nat → Int32) (k9 : Nat) => if (F54 5) k9 * (d9 - t9 k9) < (F54 6) k9 then (F54 5) k9 * (d9 - t9 k9) else (F54 6) k9) (RTW (fun (l : List Nat) (a b : Nat) => apM ((F54 3) (l.getD a 0)) ((F54 4) (l.getD a 0)) ((F54 3) (l.getD b 0)) ((F54 4) (l.getD b 0))) (fun (l : List Nat) (a : Nat) => (F54 3) (l.getD a 0) + (F54 4) (l.getD a 0))) d0 ((F54 7)) n0)) ∨ (r = 1 ∧ (∀ k : Nat, k < (cn 1) → ((F54 7) k).toInt ≤ (d0 : Int)) ∧ ∃ t : Nat → Int32, NGS ((cn 1)) v2.toInt (fun (d9 : Int32) (t9 : Nat → Int32) (k9 : Nat) => if (F54 5) k9 * (d9 - t9 k9) < (F54 6) k9 then (F54 5) k9 * (d9 - t9 k9) else (F54 6) k9) (RTW (fun (l : List Nat) (a b : Nat) => apM ((F54 3) (l.getD a 0)) ((F54 4) (l.getD a 0)) ((F54 3) (l.getD b 0)) ((F54 4) (l.getD b 0))) (fun (l : List Nat) (a : Nat) => (F54 3) (l.getD a 0) + (F54 4) (l.getD a 0))) d0 ((F54 7)) n0 t (I2 54) (I2 55) (I2 56))))) r_13 cn14 In14 Fn14 := wh_14
                  obtain ⟨hfc14, hIn14, h_14⟩ := vh_14
                  have hf14 : Fr [44] [54, 55, 56] [7, 42, 43, 52] cn In Fn cn14 In14 Fn14 := Fr.mo (Fr.tr hfr54 hfc14) (sbl rfl) (sbl rfl) (sbl rfl)
                  have hi_cn14 : Hid (CB cn14) := hIn14.b
                  have hq_cn14 := Hid.i (frq_44_0_1_2_46_57_58_62_63_75_83 hf14)
                  refine lv_istore (lv' := [(5, .int r_13), (0, .ref (g 100)), (1, .int (nI d0)), (2, .int (nI n0)), (3, .int v2), (4, .int v3)]) hx hb (oc_54 90 (aq_17 shX12_nights_73) ub_5) hl (ltb rfl) rfl (fun ls hl => ?_)
                  have hn1 : ∀ k : Nat, cn 1 ≤ k → Fn14 7 k = Fn 7 k := fun k hk => (h_14.1 k hk).trans (congrFun hx54_1 k)
                  have hn2 : ∀ k : Nat, k < cn 1 → Fn14 52 k = Fn 7 k := fun k hk => (congrFun (hfc14.2.2 52 (nml rfl)) k).trans (hx54_0 k (by (first | exact hC9 | exact q159 | omega | (have zz0 := Hid.u hi_cn; have zz1 := Hid.u hi_cn14; have zz2 := Hid.u hq_cn14; omega))))
                  have hg9 := h_14.2
                  rw [hx54_1, e3, e4, e5, e6] at hg9
                  refine lv_iconst (v := 0) hx hb (oc_3 92 (aq_19 shX12_nights_73)) kic_0 ?_
                  refine lv_istore (lv' := [(6, .int 0), (5, .int r_13), (0, .ref (g 100)), (1, .int (nI d0)), (2, .int (nI n0)), (3, .int v2), (4, .int v3)]) hx hb (oc_54 93 (aq_20 shX12_nights_73) ub_6) hl (ltb rfl) rfl (fun ls hl => ?_)
                  have lp_95 : ∀ (n : Nat) (i95 : Nat) (F95 : Nat → Nat → Int32) (H : Heap) (locs : List Loc) , (cn14 1) - i95 < n → (i95 ≤ (cn14 1) ∧ Fr [44] [54, 55, 56] [7, 42, 43, 52] cn In Fn cn14 In14 F95 ∧ IM cn14 F95 ∧ (∀ k : Nat, k < i95 → F95 7 k = Fn 7 k) ∧ (∀ k : Nat, cn 1 ≤ k → F95 7 k = Fn 7 k) ∧ (∀ k : Nat, k < cn 1 → F95 52 k = Fn 7 k)) → va_P D vwCl (wM cI cB cZ g cn14 In14 F95) H → va_D A (wM cI cB cZ g cn14 In14 F95) → va_S A s.heap H locs → ∀ ls : Array Slot, lv_has ls 7 [(6, .int (nI i95)), (5, .int r_13), (0, .ref (g 100)), (1, .int (nI d0)), (2, .int (nI n0)), (3, .int v2), (4, .int v3)] → W p l e (RM 6 0 0) s m ([.ref (g 100), .int (nI d0), .int (nI n0), .int v2, .int v3]).toArray below meth c H locs 0 0 (MQ below (va_Qi (fun (r : Int32) (u : (Nat → Nat) × (Nat → Int32) × (Nat → Nat → Int32)) => (fun r c2 I2 F2 => Fr [44] [54, 55, 56] [7, 42, 43, 52] cn In Fn c2 I2 F2 ∧ IM c2 F2 ∧ (F2 7 = Fn 7 ∧ ((¬ ((0 ≤ (nI d0).toInt ∧ (nI d0).toInt ≤ 399) ∧ (1 ≤ (nI n0).toInt ∧ (nI n0).toInt ≤ 7) ∧ (nI d0).toInt + (nI n0).toInt ≤ 400 ∧ (1 ≤ v2.toInt ∧ v2.toInt ≤ 400) ∧ 0 ≤ v3.toInt ∧ v3.toInt ≤ 2) ∧ r = -1) ∨ (((0 ≤ (nI d0).toInt ∧ (nI d0).toInt ≤ 399) ∧ (1 ≤ (nI n0).toInt ∧ (nI n0).toInt ≤ 7) ∧ (nI d0).toInt + (nI n0).toInt ≤ 400 ∧ (1 ≤ v2.toInt ∧ v2.toInt ≤ 400) ∧ 0 ≤ v3.toInt ∧ v3.toInt ≤ 2) ∧ r = -2 ∧ ((∃ k : Nat, k < cn 1 ∧ (nI d0).toInt < (Fn 7 k).toInt) ∨ NGF (cn 1) v2.toInt (fun (d9 : Int32) (t9 : Nat → Int32) (k9 : Nat) => if Fn 5 k9 * (d9 - t9 k9) < Fn 6 k9 then Fn 5 k9 * (d9 - t9 k9) else Fn 6 k9) (RTW (fun (l : List Nat) (a b : Nat) => apM (Fn 3 (l.getD a 0)) (Fn 4 (l.getD a 0)) (Fn 3 (l.getD b 0)) (Fn 4 (l.getD b 0))) (fun (l : List Nat) (a : Nat) => Fn 3 (l.getD a 0) + Fn 4 (l.getD a 0))) (nI d0).toInt.toNat (Fn 7) (nI n0).toInt.toNat)) ∨ (((0 ≤ (nI d0).toInt ∧ (nI d0).toInt ≤ 399) ∧ (1 ≤ (nI n0).toInt ∧ (nI n0).toInt ≤ 7) ∧ (nI d0).toInt + (nI n0).toInt ≤ 400 ∧ (1 ≤ v2.toInt ∧ v2.toInt ≤ 400) ∧ 0 ≤ v3.toInt ∧ v3.toInt ≤ 2) ∧ (∀ k : Nat, k < cn 1 → (Fn 7 k).toInt ≤ (nI d0).toInt) ∧ ∃ (t : Nat → Int32) (a b c : Int32), NGS (cn 1) v2.toInt (fun (d9 : Int32) (t9 : Nat → Int32) (k9 : Nat) => if Fn 5 k9 * (d9 - t9 k9) < Fn 6 k9 then Fn 5 k9 * (d9 - t9 k9) else Fn 6 k9) (RTW (fun (l : List Nat) (a b : Nat) => apM (Fn 3 (l.getD a 0)) (Fn 4 (l.getD a 0)) (Fn 3 (l.getD b 0)) (Fn 4 (l.getD b 0))) (fun (l : List Nat) (a : Nat) => Fn 3 (l.getD a 0) + Fn 4 (l.getD a 0))) (nI d0).toInt.toNat (Fn 7) (nI n0).toInt.toNat t a b c ∧ SEL v3 r a b c)))) r u.1 u.2.1 u.2.2) (fun (u : (Nat → Nat) × (Nat → Int32) × (Nat → Nat → Int32)) (t : State) => va_P D vwCl (wM cI cB cZ g u.1 u.2.1 u.2.2) t.heap ∧ va_D A (wM cI cB cZ g u.1 u.2.1 u.2.2)) A) ([.ref (g 100), .int (nI d0), .int (nI n0), .int v2, .int v3]).toArray s 0 0 A) (F0 m 95 ls []) := by
                    intro n95
                    induction n95 with
                    | zero => intros; (first | exact hC9 | exact q159 | omega | (have zz0 := Hid.u hi_cn; have zz1 := Hid.u hi_cn14; have zz2 := Hid.u hq_cn14; omega))
                    | succ n95 ih95 =>
                      intro i95 F95 H locs hmu95 hinv95 hP hD hS ls hl
                      obtain ⟨hr95, hfr95, hI95, hx95_0, hx95_1, hx95_2⟩ := hinv95
                      have ti95 : (nI i95).toInt = (i95 : Int) := nI_toInt (by (first | exact hC9 | exact q159 | omega | (have zz0 := Hid.u hi_cn; have zz1 := Hid.u hi_cn14; have zz2 := Hid.u hq_cn14; omega)))
                      have hi_cn14 : Hid (CB cn14) := hI95.b
                      have hq_cn14 := Hid.i (frq_44_0_1_2_46_57_58_62_63_75_83 hfr95)
                      refine lv_iload hx hb (oc_21 95 (aq_22 shX12_nights_73) ub_6) (lvA0 hl) ?_
                      refine lv_aload_n hx hb (oc_42 97 shX12_nights_97) rfl (lvA2 hl) ?_
                      refine gM_204 S hK hP (v := .int (nI (cn14 1))) rfl (oc_180 98 (aq_1 shX12_nights_97) uw_0_204) ?_
                      have : (nI (cn14 1)).toInt = (((cn14 1) : Nat) : Int) := nI_toInt (by (first | exact hC9 | exact q159 | omega | (have zz0 := Hid.u hi_cn; have zz1 := Hid.u hi_cn14; have zz2 := Hid.u hq_cn14; omega)))
                      refine lv_icmp_ge (tgt := 124) hx hb (oc_162 101 (aq_4 shX12_nights_97) sgw_0_23) rfl (fun c_15 => ?_) (fun c_15 => ?_)
                      ·
                        have tc_15 : ((nI (cn14 1)).toInt : Int) ≤ (nI i95).toInt := Int32.le_iff_toInt_le.mp c_15
                        have h7n : F95 7 = Fn 7 := funext (fun k => if q : k < cn 1 then hx95_0 k (by (first | exact hC9 | exact q159 | omega | (have zz0 := Hid.u hi_cn; have zz1 := Hid.u hi_cn14; have zz2 := Hid.u hq_cn14; omega))) else hx95_1 k (by (first | exact hC9 | exact q159 | omega | (have zz0 := Hid.u hi_cn; have zz1 := Hid.u hi_cn14; have zz2 := Hid.u hq_cn14; omega))))
                        refine lv_iload hx hb (oc_21 124 (aq_3 shX12_nights_121) ub_5) (lvA1 hl) ?_
                        refine lv_if_ne (tgt := 134) hx hb (oc_154 126 (aq_5 shX12_nights_121) sgw_0_8) rfl (fun c_16 => ?_) (fun c_16 => ?_)
                        ·
                          have tc_16 : (r_13.toInt : Int) ≠ 0 := fun q => c_16 (Int32.toInt_inj.mp q)
                          refine lv_iload hx hb (oc_21 134 (aq_13 shX12_nights_121) ub_4) (lvA6 hl) ?_
                          refine lv_if_ne (tgt := 146) hx hb (oc_154 136 (aq_15 shX12_nights_121) sgw_0_10) rfl (fun c_17 => ?_) (fun c_17 => ?_)
                          ·
                            have tc_17 : (v3.toInt : Int) ≠ 0 := fun q => c_17 (Int32.toInt_inj.mp q)
                            refine lv_iload hx hb (oc_21 146 shX12_nights_146 ub_4) (lvA6 hl) ?_
                            refine lv_iconst (v := 1) hx hb (oc_4 148 (aq_2 shX12_nights_146)) kic_1 ?_
                            refine lv_icmp_ne (tgt := 159) hx hb (oc_160 149 (aq_3 shX12_nights_146) sgw_0_10) rfl (fun c_18 => ?_) (fun c_18 => ?_)
                            ·
                              have tc_18 : (v3.toInt : Int) ≠ 1 := fun q => c_18 (Int32.toInt_inj.mp q)
                              have q159 : v3.toInt = 2 := (hv3.resolve_left (by assumption)).resolve_left (by assumption)
                              refine lv_aload_n hx hb (oc_42 159 (aq_13 shX12_nights_146)) rfl (lvA2 hl) ?_
                              refine gM_401 S hK hP (v := .int (In14 56)) rfl (oc_180 160 (aq_14 shX12_nights_146) uw_1_145) ?_
                              exact W.iret (v := (In14 56)) hx hb hr (fun t ht hW => ⟨⟨(In14 56), (cn14, In14, F95), rfl, ⟨(Fr.mo hfr95 (sbl rfl) (sbl rfl) (sbl rfl)), hI95, (by show F95 7 = Fn 7 ∧ ((¬ ((0 ≤ (nI d0).toInt ∧ (nI d0).toInt ≤ 399) ∧ (1 ≤ (nI n0).toInt ∧ (nI n0).toInt ≤ 7) ∧ (nI d0).toInt + (nI n0).toInt ≤ 400 ∧ (1 ≤ v2.toInt ∧ v2.toInt ≤ 400) ∧ 0 ≤ v3.toInt ∧ v3.toInt ≤ 2) ∧ (In14 56) = -1) ∨ (((0 ≤ (nI d0).toInt ∧ (nI d0).toInt ≤ 399) ∧ (1 ≤ (nI n0).toInt ∧ (nI n0).toInt ≤ 7) ∧ (nI d0).toInt + (nI n0).toInt ≤ 400 ∧ (1 ≤ v2.toInt ∧ v2.toInt ≤ 400) ∧ 0 ≤ v3.toInt ∧ v3.toInt ≤ 2) ∧ (In14 56) = -2 ∧ ((∃ k : Nat, k < cn 1 ∧ (nI d0).toInt < (Fn 7 k).toInt) ∨ NGF (cn 1) v2.toInt (fun (d9 : Int32) (t9 : Nat → Int32) (k9 : Nat) => if Fn 5 k9 * (d9 - t9 k9) < Fn 6 k9 then Fn 5 k9 * (d9 - t9 k9) else Fn 6 k9) (RTW (fun (l : List Nat) (a b : Nat) => apM (Fn 3 (l.getD a 0)) (Fn 4 (l.getD a 0)) (Fn 3 (l.getD b 0)) (Fn 4 (l.getD b 0))) (fun (l : List Nat) (a : Nat) => Fn 3 (l.getD a 0) + Fn 4 (l.getD a 0))) (nI d0).toInt.toNat (Fn 7) (nI n0).toInt.toNat)) ∨ (((0 ≤ (nI d0).toInt ∧ (nI d0).toInt ≤ 399) ∧ (1 ≤ (nI n0).toInt ∧ (nI n0).toInt ≤ 7) ∧ (nI d0).toInt + (nI n0).toInt ≤ 400 ∧ (1 ≤ v2.toInt ∧ v2.toInt ≤ 400) ∧ 0 ≤ v3.toInt ∧ v3.toInt ≤ 2) ∧ (∀ k : Nat, k < cn 1 → (Fn 7 k).toInt ≤ (nI d0).toInt) ∧ ∃ (t : Nat → Int32) (a b c : Int32), NGS (cn 1) v2.toInt (fun (d9 : Int32) (t9 : Nat → Int32) (k9 : Nat) => if Fn 5 k9 * (d9 - t9 k9) < Fn 6 k9 then Fn 5 k9 * (d9 - t9 k9) else Fn 6 k9) (RTW (fun (l : List Nat) (a b : Nat) => apM (Fn 3 (l.getD a 0)) (Fn 4 (l.getD a 0)) (Fn 3 (l.getD b 0)) (Fn 4 (l.getD b 0))) (fun (l : List Nat) (a : Nat) => Fn 3 (l.getD a 0) + Fn 4 (l.getD a 0))) (nI d0).toInt.toNat (Fn 7) (nI n0).toInt.toNat t a b c ∧ SEL v3 (In14 56) a b c)); obtain ⟨-, hb9, t9, hn9⟩ := hg9.resolve_left (fun w => (show ¬ r_13 = 0 from (by first | assumption | exact fun q => absurd (congrArg Int32.toInt q) (by assumption))) w.1); exact ⟨h7n, Or.inr (Or.inr ⟨by (first | exact hC9 | exact q159 | omega | (have zz0 := Hid.u hi_cn; have zz1 := Hid.u hi_cn14; have zz2 := Hid.u hq_cn14; omega)), by rw [zd0, zn0, td0]; exact ⟨hb9, t9, _, _, _, hn9, Or.inr (Or.inr ⟨by (first | exact hC9 | exact q159 | omega | (have zz0 := Hid.u hi_cn; have zz1 := Hid.u hi_cn14; have zz2 := Hid.u hq_cn14; omega)), rfl⟩)⟩⟩)⟩)⟩, by rw [ht]; exact hP, hD⟩, hS.F ht⟩) hS.2.2 dX12_nights_163
                            ·
                              have tc_18 : (v3.toInt : Int) = 1 := congrArg Int32.toInt c_18
                              refine lv_aload_n hx hb (oc_42 152 (aq_6 shX12_nights_146)) rfl (lvA2 hl) ?_
                              refine gM_398 S hK hP (v := .int (In14 55)) rfl (oc_180 153 (aq_7 shX12_nights_146) uw_1_142) ?_
                              refine lv_goto (tgt := 163) hx hb (oc_167 156 (aq_10 shX12_nights_146) sgw_0_7) rfl ?_
                              exact W.iret (v := (In14 55)) hx hb hr (fun t ht hW => ⟨⟨(In14 55), (cn14, In14, F95), rfl, ⟨(Fr.mo hfr95 (sbl rfl) (sbl rfl) (sbl rfl)), hI95, (by show F95 7 = Fn 7 ∧ ((¬ ((0 ≤ (nI d0).toInt ∧ (nI d0).toInt ≤ 399) ∧ (1 ≤ (nI n0).toInt ∧ (nI n0).toInt ≤ 7) ∧ (nI d0).toInt + (nI n0).toInt ≤ 400 ∧ (1 ≤ v2.toInt ∧ v2.toInt ≤ 400) ∧ 0 ≤ v3.toInt ∧ v3.toInt ≤ 2) ∧ (In14 55) = -1) ∨ (((0 ≤ (nI d0).toInt ∧ (nI d0).toInt ≤ 399) ∧ (1 ≤ (nI n0).toInt ∧ (nI n0).toInt ≤ 7) ∧ (nI d0).toInt + (nI n0).toInt ≤ 400 ∧ (1 ≤ v2.toInt ∧ v2.toInt ≤ 400) ∧ 0 ≤ v3.toInt ∧ v3.toInt ≤ 2) ∧ (In14 55) = -2 ∧ ((∃ k : Nat, k < cn 1 ∧ (nI d0).toInt < (Fn 7 k).toInt) ∨ NGF (cn 1) v2.toInt (fun (d9 : Int32) (t9 : Nat → Int32) (k9 : Nat) => if Fn 5 k9 * (d9 - t9 k9) < Fn 6 k9 then Fn 5 k9 * (d9 - t9 k9) else Fn 6 k9) (RTW (fun (l : List Nat) (a b : Nat) => apM (Fn 3 (l.getD a 0)) (Fn 4 (l.getD a 0)) (Fn 3 (l.getD b 0)) (Fn 4 (l.getD b 0))) (fun (l : List Nat) (a : Nat) => Fn 3 (l.getD a 0) + Fn 4 (l.getD a 0))) (nI d0).toInt.toNat (Fn 7) (nI n0).toInt.toNat)) ∨ (((0 ≤ (nI d0).toInt ∧ (nI d0).toInt ≤ 399) ∧ (1 ≤ (nI n0).toInt ∧ (nI n0).toInt ≤ 7) ∧ (nI d0).toInt + (nI n0).toInt ≤ 400 ∧ (1 ≤ v2.toInt ∧ v2.toInt ≤ 400) ∧ 0 ≤ v3.toInt ∧ v3.toInt ≤ 2) ∧ (∀ k : Nat, k < cn 1 → (Fn 7 k).toInt ≤ (nI d0).toInt) ∧ ∃ (t : Nat → Int32) (a b c : Int32), NGS (cn 1) v2.toInt (fun (d9 : Int32) (t9 : Nat → Int32) (k9 : Nat) => if Fn 5 k9 * (d9 - t9 k9) < Fn 6 k9 then Fn 5 k9 * (d9 - t9 k9) else Fn 6 k9) (RTW (fun (l : List Nat) (a b : Nat) => apM (Fn 3 (l.getD a 0)) (Fn 4 (l.getD a 0)) (Fn 3 (l.getD b 0)) (Fn 4 (l.getD b 0))) (fun (l : List Nat) (a : Nat) => Fn 3 (l.getD a 0) + Fn 4 (l.getD a 0))) (nI d0).toInt.toNat (Fn 7) (nI n0).toInt.toNat t a b c ∧ SEL v3 (In14 55) a b c)); obtain ⟨-, hb9, t9, hn9⟩ := hg9.resolve_left (fun w => (show ¬ r_13 = 0 from (by first | assumption | exact fun q => absurd (congrArg Int32.toInt q) (by assumption))) w.1); exact ⟨h7n, Or.inr (Or.inr ⟨by (first | exact hC9 | exact q159 | omega | (have zz0 := Hid.u hi_cn; have zz1 := Hid.u hi_cn14; have zz2 := Hid.u hq_cn14; omega)), by rw [zd0, zn0, td0]; exact ⟨hb9, t9, _, _, _, hn9, Or.inr (Or.inl ⟨by (first | exact hC9 | exact q159 | omega | (have zz0 := Hid.u hi_cn; have zz1 := Hid.u hi_cn14; have zz2 := Hid.u hq_cn14; omega)), rfl⟩)⟩⟩)⟩)⟩, by rw [ht]; exact hP, hD⟩, hS.F ht⟩) hS.2.2 dX12_nights_163
                          ·
                            have tc_17 : (v3.toInt : Int) = 0 := congrArg Int32.toInt c_17
                            refine lv_aload_n hx hb (oc_42 139 (aq_18 shX12_nights_121)) rfl (lvA2 hl) ?_
                            refine gM_395 S hK hP (v := .int (In14 54)) rfl (oc_180 140 (aq_19 shX12_nights_121) uw_1_139) ?_
                            refine lv_goto (tgt := 163) hx hb (oc_167 143 (aq_22 shX12_nights_121) sgw_0_20) rfl ?_
                            exact W.iret (v := (In14 54)) hx hb hr (fun t ht hW => ⟨⟨(In14 54), (cn14, In14, F95), rfl, ⟨(Fr.mo hfr95 (sbl rfl) (sbl rfl) (sbl rfl)), hI95, (by show F95 7 = Fn 7 ∧ ((¬ ((0 ≤ (nI d0).toInt ∧ (nI d0).toInt ≤ 399) ∧ (1 ≤ (nI n0).toInt ∧ (nI n0).toInt ≤ 7) ∧ (nI d0).toInt + (nI n0).toInt ≤ 400 ∧ (1 ≤ v2.toInt ∧ v2.toInt ≤ 400) ∧ 0 ≤ v3.toInt ∧ v3.toInt ≤ 2) ∧ (In14 54) = -1) ∨ (((0 ≤ (nI d0).toInt ∧ (nI d0).toInt ≤ 399) ∧ (1 ≤ (nI n0).toInt ∧ (nI n0).toInt ≤ 7) ∧ (nI d0).toInt + (nI n0).toInt ≤ 400 ∧ (1 ≤ v2.toInt ∧ v2.toInt ≤ 400) ∧ 0 ≤ v3.toInt ∧ v3.toInt ≤ 2) ∧ (In14 54) = -2 ∧ ((∃ k : Nat, k < cn 1 ∧ (nI d0).toInt < (Fn 7 k).toInt) ∨ NGF (cn 1) v2.toInt (fun (d9 : Int32) (t9 : Nat → Int32) (k9 : Nat) => if Fn 5 k9 * (d9 - t9 k9) < Fn 6 k9 then Fn 5 k9 * (d9 - t9 k9) else Fn 6 k9) (RTW (fun (l : List Nat) (a b : Nat) => apM (Fn 3 (l.getD a 0)) (Fn 4 (l.getD a 0)) (Fn 3 (l.getD b 0)) (Fn 4 (l.getD b 0))) (fun (l : List Nat) (a : Nat) => Fn 3 (l.getD a 0) + Fn 4 (l.getD a 0))) (nI d0).toInt.toNat (Fn 7) (nI n0).toInt.toNat)) ∨ (((0 ≤ (nI d0).toInt ∧ (nI d0).toInt ≤ 399) ∧ (1 ≤ (nI n0).toInt ∧ (nI n0).toInt ≤ 7) ∧ (nI d0).toInt + (nI n0).toInt ≤ 400 ∧ (1 ≤ v2.toInt ∧ v2.toInt ≤ 400) ∧ 0 ≤ v3.toInt ∧ v3.toInt ≤ 2) ∧ (∀ k : Nat, k < cn 1 → (Fn 7 k).toInt ≤ (nI d0).toInt) ∧ ∃ (t : Nat → Int32) (a b c : Int32), NGS (cn 1) v2.toInt (fun (d9 : Int32) (t9 : Nat → Int32) (k9 : Nat) => if Fn 5 k9 * (d9 - t9 k9) < Fn 6 k9 then Fn 5 k9 * (d9 - t9 k9) else Fn 6 k9) (RTW (fun (l : List Nat) (a b : Nat) => apM (Fn 3 (l.getD a 0)) (Fn 4 (l.getD a 0)) (Fn 3 (l.getD b 0)) (Fn 4 (l.getD b 0))) (fun (l : List Nat) (a : Nat) => Fn 3 (l.getD a 0) + Fn 4 (l.getD a 0))) (nI d0).toInt.toNat (Fn 7) (nI n0).toInt.toNat t a b c ∧ SEL v3 (In14 54) a b c)); obtain ⟨-, hb9, t9, hn9⟩ := hg9.resolve_left (fun w => (show ¬ r_13 = 0 from (by first | assumption | exact fun q => absurd (congrArg Int32.toInt q) (by assumption))) w.1); exact ⟨h7n, Or.inr (Or.inr ⟨by (first | exact hC9 | exact q159 | omega | (have zz0 := Hid.u hi_cn; have zz1 := Hid.u hi_cn14; have zz2 := Hid.u hq_cn14; omega)), by rw [zd0, zn0, td0]; exact ⟨hb9, t9, _, _, _, hn9, Or.inl ⟨by (first | exact hC9 | exact q159 | omega | (have zz0 := Hid.u hi_cn; have zz1 := Hid.u hi_cn14; have zz2 := Hid.u hq_cn14; omega)), rfl⟩⟩⟩)⟩)⟩, by rw [ht]; exact hP, hD⟩, hS.F ht⟩) hS.2.2 dX12_nights_163
                        ·
                          have tc_16 : (r_13.toInt : Int) = 0 := congrArg Int32.toInt c_16
                          refine lv_bipush (v := (-2)) hx hb (oc_16 129 (aq_8 shX12_nights_121) sgb_254) kbc_m2 ?_
                          refine lv_goto (tgt := 163) hx hb (oc_167 131 (aq_10 shX12_nights_121) sgw_0_32) rfl ?_
                          exact W.iret (v := (-2)) hx hb hr (fun t ht hW => ⟨⟨(-2), (cn14, In14, F95), rfl, ⟨(Fr.mo hfr95 (sbl rfl) (sbl rfl) (sbl rfl)), hI95, (by show F95 7 = Fn 7 ∧ ((¬ ((0 ≤ (nI d0).toInt ∧ (nI d0).toInt ≤ 399) ∧ (1 ≤ (nI n0).toInt ∧ (nI n0).toInt ≤ 7) ∧ (nI d0).toInt + (nI n0).toInt ≤ 400 ∧ (1 ≤ v2.toInt ∧ v2.toInt ≤ 400) ∧ 0 ≤ v3.toInt ∧ v3.toInt ≤ 2) ∧ (-2) = -1) ∨ (((0 ≤ (nI d0).toInt ∧ (nI d0).toInt ≤ 399) ∧ (1 ≤ (nI n0).toInt ∧ (nI n0).toInt ≤ 7) ∧ (nI d0).toInt + (nI n0).toInt ≤ 400 ∧ (1 ≤ v2.toInt ∧ v2.toInt ≤ 400) ∧ 0 ≤ v3.toInt ∧ v3.toInt ≤ 2) ∧ (-2) = -2 ∧ ((∃ k : Nat, k < cn 1 ∧ (nI d0).toInt < (Fn 7 k).toInt) ∨ NGF (cn 1) v2.toInt (fun (d9 : Int32) (t9 : Nat → Int32) (k9 : Nat) => if Fn 5 k9 * (d9 - t9 k9) < Fn 6 k9 then Fn 5 k9 * (d9 - t9 k9) else Fn 6 k9) (RTW (fun (l : List Nat) (a b : Nat) => apM (Fn 3 (l.getD a 0)) (Fn 4 (l.getD a 0)) (Fn 3 (l.getD b 0)) (Fn 4 (l.getD b 0))) (fun (l : List Nat) (a : Nat) => Fn 3 (l.getD a 0) + Fn 4 (l.getD a 0))) (nI d0).toInt.toNat (Fn 7) (nI n0).toInt.toNat)) ∨ (((0 ≤ (nI d0).toInt ∧ (nI d0).toInt ≤ 399) ∧ (1 ≤ (nI n0).toInt ∧ (nI n0).toInt ≤ 7) ∧ (nI d0).toInt + (nI n0).toInt ≤ 400 ∧ (1 ≤ v2.toInt ∧ v2.toInt ≤ 400) ∧ 0 ≤ v3.toInt ∧ v3.toInt ≤ 2) ∧ (∀ k : Nat, k < cn 1 → (Fn 7 k).toInt ≤ (nI d0).toInt) ∧ ∃ (t : Nat → Int32) (a b c : Int32), NGS (cn 1) v2.toInt (fun (d9 : Int32) (t9 : Nat → Int32) (k9 : Nat) => if Fn 5 k9 * (d9 - t9 k9) < Fn 6 k9 then Fn 5 k9 * (d9 - t9 k9) else Fn 6 k9) (RTW (fun (l : List Nat) (a b : Nat) => apM (Fn 3 (l.getD a 0)) (Fn 4 (l.getD a 0)) (Fn 3 (l.getD b 0)) (Fn 4 (l.getD b 0))) (fun (l : List Nat) (a : Nat) => Fn 3 (l.getD a 0) + Fn 4 (l.getD a 0))) (nI d0).toInt.toNat (Fn 7) (nI n0).toInt.toNat t a b c ∧ SEL v3 (-2) a b c)); exact ⟨h7n, Or.inr (Or.inl ⟨by (first | exact hC9 | exact q159 | omega | (have zz0 := Hid.u hi_cn; have zz1 := Hid.u hi_cn14; have zz2 := Hid.u hq_cn14; omega)), rfl, by rw [zd0, zn0, td0]; exact hg9.elim (fun w => w.2) (fun w => absurd (show (1 : Int32) = 0 from w.1.symm.trans (by first | assumption | exact Int32.toInt_inj.mp (by assumption))) (by decide))⟩)⟩)⟩, by rw [ht]; exact hP, hD⟩, hS.F ht⟩) hS.2.2 dX12_nights_163
                      ·
                        have tc_15 : ((nI i95).toInt : Int) < (nI (cn14 1)).toInt := Int32.lt_iff_toInt_lt.mp (Int32.not_le.mp c_15)
                        refine lv_aload_n hx hb (oc_42 104 (aq_7 shX12_nights_97)) rfl (lvA2 hl) ?_
                        refine gM_22 S hK hP (v := .ref (g 7)) rfl (oc_180 105 (aq_8 shX12_nights_97) uw_0_22) ?_
                        refine lv_iload hx hb (oc_21 108 (aq_11 shX12_nights_97) ub_6) (lvA0 hl) ?_
                        refine lv_aload_n hx hb (oc_42 110 (aq_13 shX12_nights_97)) rfl (lvA2 hl) ?_
                        refine gM_122 S hK hP (v := .ref (g 52)) rfl (oc_180 111 (aq_14 shX12_nights_97) uw_0_122) ?_
                        refine lv_iload hx hb (oc_21 114 (aq_17 shX12_nights_97) ub_6) (lvA0 hl) ?_
                        have kb_1 : i95 < 10 := by (first | exact hC9 | exact q159 | omega | (have zz0 := Hid.u hi_cn; have zz1 := Hid.u hi_cn14; have zz2 := Hid.u hq_cn14; omega))
                        refine ldM_52 hx hb hK hP (x := ((F95 52) i95)) (vp_in_nI kb_1 (ltb rfl)) (nI_clamp (Nat.lt_trans kb_1 (ltb rfl))) rfl (oc_46 116 (aq_19 shX12_nights_97)) ?_
                        refine stM_7 hx hb hK hP hD hS (Fn2 := (va_up F95 7 (upd (F95 7) i95 ((F95 52) i95)))) (vp_in_nI kb_1 (ltb rfl)) (nI_clamp (Nat.lt_trans kb_1 (ltb rfl))) rfl (oc_79 117 (aq_20 shX12_nights_97)) (fun H locs hP hD hS => ?_)
                        refine lv_iinc (v := (nI (i95 + 1))) (lv' := [(6, .int (nI (i95 + 1))), (5, .int r_13), (0, .ref (g 100)), (1, .int (nI d0)), (2, .int (nI n0)), (3, .int v2), (4, .int v3)]) hx hb (oc_132 118 (aq_21 shX12_nights_97) ub_6 sgb_1) hl (k := 0) rfl (nI_1 _) (ltb rfl) rfl (fun ls hl => ?_)
                        refine lv_goto (tgt := 95) hx hb (oc_167 121 shX12_nights_121 sgw_255_230) rfl ?_
                        exact ih95 (i95 + 1) (va_up F95 7 (upd (F95 7) i95 ((F95 52) i95))) _ _ (by (first | exact hC9 | exact q159 | omega | (have zz0 := Hid.u hi_cn; have zz1 := Hid.u hi_cn14; have zz2 := Hid.u hq_cn14; omega))) ⟨(by (first | exact hC9 | exact q159 | omega | (have zz0 := Hid.u hi_cn; have zz1 := Hid.u hi_cn14; have zz2 := Hid.u hq_cn14; omega))), (Fr.mo (Fr.f 7 hfr95) (sbl rfl) (sbl rfl) (sbl rfl)), (IM.e7up hI95 (by rw [hx95_2 i95 (by (first | exact hC9 | exact q159 | omega | (have zz0 := Hid.u hi_cn; have zz1 := Hid.u hi_cn14; have zz2 := Hid.u hq_cn14; omega)))]; exact (hI.e7 i95 (by (first | exact hC9 | exact q159 | omega | (have zz0 := Hid.u hi_cn; have zz1 := Hid.u hi_cn14; have zz2 := Hid.u hq_cn14; omega)))).1) (by rw [hx95_2 i95 (by (first | exact hC9 | exact q159 | omega | (have zz0 := Hid.u hi_cn; have zz1 := Hid.u hi_cn14; have zz2 := Hid.u hq_cn14; omega)))]; exact (hI.e7 i95 (by (first | exact hC9 | exact q159 | omega | (have zz0 := Hid.u hi_cn; have zz1 := Hid.u hi_cn14; have zz2 := Hid.u hq_cn14; omega)))).2)), (fun k hk => upd_copy hx95_0 (hx95_2 i95 (by (first | exact hC9 | exact q159 | omega | (have zz0 := Hid.u hi_cn; have zz1 := Hid.u hi_cn14; have zz2 := Hid.u hq_cn14; omega)))) hk), (fun k hk => upd_keep (b := cn 1) hx95_1 (by (first | exact hC9 | exact q159 | omega | (have zz0 := Hid.u hi_cn; have zz1 := Hid.u hi_cn14; have zz2 := Hid.u hq_cn14; omega))) hk), hx95_2⟩ hP hD hS ls (lv_sub hl [0, 1, 2, 3, 4, 5, 6] rfl)
                  exact lp_95 _ 0 Fn14 _ _ (Nat.lt_succ_self _) ⟨(by (first | exact hC9 | exact q159 | omega | (have zz0 := Hid.u hi_cn; have zz1 := Hid.u hi_cn14; have zz2 := Hid.u hq_cn14; omega))), (Fr.mo hf14 (sbl rfl) (sbl rfl) (sbl rfl)), hIn14, (fun k hk => absurd hk (Nat.not_lt_zero k)), hn1, hn2⟩ hP hD hS ls (lv_sub hl [0, 1, 2, 3, 4, 5, 6] rfl)
                ·
                  have tc_12 : ((nI i54).toInt : Int) < (nI (cn 1)).toInt := Int32.lt_iff_toInt_lt.mp (Int32.not_le.mp c_12)
                  refine lv_aload_n hx hb (oc_42 63 (aq_14 shX12_nights_49)) rfl (lvA1 hl) ?_
                  refine gM_122 S hK hP (v := .ref (g 52)) rfl (oc_180 64 (aq_15 shX12_nights_49) uw_0_122) ?_
                  refine lv_iload hx hb (oc_21 67 (aq_18 shX12_nights_49) ub_5) (lvA0 hl) ?_
                  refine lv_aload_n hx hb (oc_42 69 (aq_20 shX12_nights_49)) rfl (lvA1 hl) ?_
                  refine gM_22 S hK hP (v := .ref (g 7)) rfl (oc_180 70 (aq_21 shX12_nights_49) uw_0_22) ?_
                  refine lv_iload hx hb (oc_21 73 shX12_nights_73 ub_5) (lvA0 hl) ?_
                  have kb_2 : i54 < 10 := by (first | exact hC9 | exact q159 | omega | (have zz0 := Hid.u hi_cn; omega))
                  have b_19 := hI54.e7 i54 (by (first | exact hC9 | exact q159 | omega | (have zz0 := Hid.u hi_cn; omega)))
                  refine ldM_7 hx hb hK hP (x := ((F54 7) i54)) (vp_in_nI kb_2 (ltb rfl)) (nI_clamp (Nat.lt_trans kb_2 (ltb rfl))) rfl (oc_46 75 (aq_2 shX12_nights_73)) ?_
                  refine stM_52 hx hb hK hP hD hS (Fn2 := (va_up F54 52 (upd (F54 52) i54 ((F54 7) i54)))) (vp_in_nI kb_2 (ltb rfl)) (nI_clamp (Nat.lt_trans kb_2 (ltb rfl))) rfl (oc_79 76 (aq_3 shX12_nights_73)) (fun H locs hP hD hS => ?_)
                  refine lv_iinc (v := (nI (i54 + 1))) (lv' := [(5, .int (nI (i54 + 1))), (0, .ref (g 100)), (1, .int (nI d0)), (2, .int (nI n0)), (3, .int v2), (4, .int v3)]) hx hb (oc_132 77 (aq_4 shX12_nights_73) ub_5 sgb_1) hl (k := 0) rfl (nI_1 _) (ltb rfl) rfl (fun ls hl => ?_)
                  refine lv_goto (tgt := 54) hx hb (oc_167 80 (aq_7 shX12_nights_73) sgw_255_230) rfl ?_
                  exact ih54 (i54 + 1) (va_up F54 52 (upd (F54 52) i54 ((F54 7) i54))) _ _ (by (first | exact hC9 | exact q159 | omega | (have zz0 := Hid.u hi_cn; omega))) ⟨(by (first | exact hC9 | exact q159 | omega | (have zz0 := Hid.u hi_cn; omega))), (Fr.mo (Fr.f 52 hfr54) (sbl rfl) (sbl rfl) (sbl rfl)), (IM.fr (In := In) hI54 (Fr.f 52 Fr.rf) (by decide) (by decide)), (fun k hk => upd_copy hx54_0 (congrFun hx54_1 i54) hk), hx54_1⟩ hP hD hS ls (lv_sub hl [0, 1, 2, 3, 4, 5] rfl)
            exact lp_54 _ 0 Fn _ _ (Nat.lt_succ_self _) ⟨(by (first | exact hC9 | exact q159 | omega | (have zz0 := Hid.u hi_cn; omega))), (Fr.mo Fr.rf (sbl rfl) (sbl rfl) (sbl rfl)), hI, (fun k hk => absurd hk (Nat.not_lt_zero k)), rfl⟩ hP hD hS ls (lv_sub hl [0, 1, 2, 3, 4, 5] rfl)
          ·
            have h_11 : ¬ (0 ≤ v3.toInt ∧ v3.toInt ≤ 2) := h_11
            refine lv_if_ne (tgt := 51) hx hb dX12_nights_46 rfl (fun h => absurd h cq_eq_0_0) (fun _ => ?_)
            refine lv_iconst (v := (-1)) hx hb dX12_nights_49 kic_m1 ?_
            exact W.iret (v := (-1)) hx hb hr (fun t ht hW => ⟨⟨(-1), (cn, In, Fn), rfl, ⟨(Fr.mo Fr.rf (sbl rfl) (sbl rfl) (sbl rfl)), hI, (by show Fn 7 = Fn 7 ∧ ((¬ ((0 ≤ (nI d0).toInt ∧ (nI d0).toInt ≤ 399) ∧ (1 ≤ (nI n0).toInt ∧ (nI n0).toInt ≤ 7) ∧ (nI d0).toInt + (nI n0).toInt ≤ 400 ∧ (1 ≤ v2.toInt ∧ v2.toInt ≤ 400) ∧ 0 ≤ v3.toInt ∧ v3.toInt ≤ 2) ∧ (-1) = -1) ∨ (((0 ≤ (nI d0).toInt ∧ (nI d0).toInt ≤ 399) ∧ (1 ≤ (nI n0).toInt ∧ (nI n0).toInt ≤ 7) ∧ (nI d0).toInt + (nI n0).toInt ≤ 400 ∧ (1 ≤ v2.toInt ∧ v2.toInt ≤ 400) ∧ 0 ≤ v3.toInt ∧ v3.toInt ≤ 2) ∧ (-1) = -2 ∧ ((∃ k : Nat, k < cn 1 ∧ (nI d0).toInt < (Fn 7 k).toInt) ∨ NGF (cn 1) v2.toInt (fun (d9 : Int32) (t9 : Nat → Int32) (k9 : Nat) => if Fn 5 k9 * (d9 - t9 k9) < Fn 6 k9 then Fn 5 k9 * (d9 - t9 k9) else Fn 6 k9) (RTW (fun (l : List Nat) (a b : Nat) => apM (Fn 3 (l.getD a 0)) (Fn 4 (l.getD a 0)) (Fn 3 (l.getD b 0)) (Fn 4 (l.getD b 0))) (fun (l : List Nat) (a : Nat) => Fn 3 (l.getD a 0) + Fn 4 (l.getD a 0))) (nI d0).toInt.toNat (Fn 7) (nI n0).toInt.toNat)) ∨ (((0 ≤ (nI d0).toInt ∧ (nI d0).toInt ≤ 399) ∧ (1 ≤ (nI n0).toInt ∧ (nI n0).toInt ≤ 7) ∧ (nI d0).toInt + (nI n0).toInt ≤ 400 ∧ (1 ≤ v2.toInt ∧ v2.toInt ≤ 400) ∧ 0 ≤ v3.toInt ∧ v3.toInt ≤ 2) ∧ (∀ k : Nat, k < cn 1 → (Fn 7 k).toInt ≤ (nI d0).toInt) ∧ ∃ (t : Nat → Int32) (a b c : Int32), NGS (cn 1) v2.toInt (fun (d9 : Int32) (t9 : Nat → Int32) (k9 : Nat) => if Fn 5 k9 * (d9 - t9 k9) < Fn 6 k9 then Fn 5 k9 * (d9 - t9 k9) else Fn 6 k9) (RTW (fun (l : List Nat) (a b : Nat) => apM (Fn 3 (l.getD a 0)) (Fn 4 (l.getD a 0)) (Fn 3 (l.getD b 0)) (Fn 4 (l.getD b 0))) (fun (l : List Nat) (a : Nat) => Fn 3 (l.getD a 0) + Fn 4 (l.getD a 0))) (nI d0).toInt.toNat (Fn 7) (nI n0).toInt.toNat t a b c ∧ SEL v3 (-1) a b c)); exact ⟨rfl, Or.inl ⟨by (first | exact hC9 | exact q159 | omega | (have zz0 := Hid.u hi_cn; omega)), rfl⟩⟩)⟩, by rw [ht]; exact hP, hD⟩, hS.F ht⟩) hS.2.2 dX12_nights_50
        ·
          have h_9 : ¬ (1 ≤ v2.toInt ∧ v2.toInt ≤ 400) := h_9
          refine lv_if_eq (tgt := 49) hx hb dX12_nights_36 rfl (fun _ => ?_) (fun h => absurd h cq_eq_0_0)
          refine lv_iconst (v := (-1)) hx hb dX12_nights_49 kic_m1 ?_
          exact W.iret (v := (-1)) hx hb hr (fun t ht hW => ⟨⟨(-1), (cn, In, Fn), rfl, ⟨(Fr.mo Fr.rf (sbl rfl) (sbl rfl) (sbl rfl)), hI, (by show Fn 7 = Fn 7 ∧ ((¬ ((0 ≤ (nI d0).toInt ∧ (nI d0).toInt ≤ 399) ∧ (1 ≤ (nI n0).toInt ∧ (nI n0).toInt ≤ 7) ∧ (nI d0).toInt + (nI n0).toInt ≤ 400 ∧ (1 ≤ v2.toInt ∧ v2.toInt ≤ 400) ∧ 0 ≤ v3.toInt ∧ v3.toInt ≤ 2) ∧ (-1) = -1) ∨ (((0 ≤ (nI d0).toInt ∧ (nI d0).toInt ≤ 399) ∧ (1 ≤ (nI n0).toInt ∧ (nI n0).toInt ≤ 7) ∧ (nI d0).toInt + (nI n0).toInt ≤ 400 ∧ (1 ≤ v2.toInt ∧ v2.toInt ≤ 400) ∧ 0 ≤ v3.toInt ∧ v3.toInt ≤ 2) ∧ (-1) = -2 ∧ ((∃ k : Nat, k < cn 1 ∧ (nI d0).toInt < (Fn 7 k).toInt) ∨ NGF (cn 1) v2.toInt (fun (d9 : Int32) (t9 : Nat → Int32) (k9 : Nat) => if Fn 5 k9 * (d9 - t9 k9) < Fn 6 k9 then Fn 5 k9 * (d9 - t9 k9) else Fn 6 k9) (RTW (fun (l : List Nat) (a b : Nat) => apM (Fn 3 (l.getD a 0)) (Fn 4 (l.getD a 0)) (Fn 3 (l.getD b 0)) (Fn 4 (l.getD b 0))) (fun (l : List Nat) (a : Nat) => Fn 3 (l.getD a 0) + Fn 4 (l.getD a 0))) (nI d0).toInt.toNat (Fn 7) (nI n0).toInt.toNat)) ∨ (((0 ≤ (nI d0).toInt ∧ (nI d0).toInt ≤ 399) ∧ (1 ≤ (nI n0).toInt ∧ (nI n0).toInt ≤ 7) ∧ (nI d0).toInt + (nI n0).toInt ≤ 400 ∧ (1 ≤ v2.toInt ∧ v2.toInt ≤ 400) ∧ 0 ≤ v3.toInt ∧ v3.toInt ≤ 2) ∧ (∀ k : Nat, k < cn 1 → (Fn 7 k).toInt ≤ (nI d0).toInt) ∧ ∃ (t : Nat → Int32) (a b c : Int32), NGS (cn 1) v2.toInt (fun (d9 : Int32) (t9 : Nat → Int32) (k9 : Nat) => if Fn 5 k9 * (d9 - t9 k9) < Fn 6 k9 then Fn 5 k9 * (d9 - t9 k9) else Fn 6 k9) (RTW (fun (l : List Nat) (a b : Nat) => apM (Fn 3 (l.getD a 0)) (Fn 4 (l.getD a 0)) (Fn 3 (l.getD b 0)) (Fn 4 (l.getD b 0))) (fun (l : List Nat) (a : Nat) => Fn 3 (l.getD a 0) + Fn 4 (l.getD a 0))) (nI d0).toInt.toNat (Fn 7) (nI n0).toInt.toNat t a b c ∧ SEL v3 (-1) a b c)); exact ⟨rfl, Or.inl ⟨by (first | exact hC9 | exact q159 | omega | (have zz0 := Hid.u hi_cn; omega)), rfl⟩⟩)⟩, by rw [ht]; exact hP, hD⟩, hS.F ht⟩) hS.2.2 dX12_nights_50
    ·
      have h_4 : ¬ (1 ≤ v1.toInt ∧ v1.toInt ≤ 7) := h_4
      refine lv_if_eq (tgt := 49) hx hb dX12_nights_14 rfl (fun _ => ?_) (fun h => absurd h cq_eq_0_0)
      refine lv_iconst (v := (-1)) hx hb dX12_nights_49 kic_m1 ?_
      exact W.iret (v := (-1)) hx hb hr (fun t ht hW => ⟨⟨(-1), (cn, In, Fn), rfl, ⟨(Fr.mo Fr.rf (sbl rfl) (sbl rfl) (sbl rfl)), hI, (by show Fn 7 = Fn 7 ∧ ((¬ ((0 ≤ v0.toInt ∧ v0.toInt ≤ 399) ∧ (1 ≤ v1.toInt ∧ v1.toInt ≤ 7) ∧ v0.toInt + v1.toInt ≤ 400 ∧ (1 ≤ v2.toInt ∧ v2.toInt ≤ 400) ∧ 0 ≤ v3.toInt ∧ v3.toInt ≤ 2) ∧ (-1) = -1) ∨ (((0 ≤ v0.toInt ∧ v0.toInt ≤ 399) ∧ (1 ≤ v1.toInt ∧ v1.toInt ≤ 7) ∧ v0.toInt + v1.toInt ≤ 400 ∧ (1 ≤ v2.toInt ∧ v2.toInt ≤ 400) ∧ 0 ≤ v3.toInt ∧ v3.toInt ≤ 2) ∧ (-1) = -2 ∧ ((∃ k : Nat, k < cn 1 ∧ v0.toInt < (Fn 7 k).toInt) ∨ NGF (cn 1) v2.toInt (fun (d9 : Int32) (t9 : Nat → Int32) (k9 : Nat) => if Fn 5 k9 * (d9 - t9 k9) < Fn 6 k9 then Fn 5 k9 * (d9 - t9 k9) else Fn 6 k9) (RTW (fun (l : List Nat) (a b : Nat) => apM (Fn 3 (l.getD a 0)) (Fn 4 (l.getD a 0)) (Fn 3 (l.getD b 0)) (Fn 4 (l.getD b 0))) (fun (l : List Nat) (a : Nat) => Fn 3 (l.getD a 0) + Fn 4 (l.getD a 0))) v0.toInt.toNat (Fn 7) v1.toInt.toNat)) ∨ (((0 ≤ v0.toInt ∧ v0.toInt ≤ 399) ∧ (1 ≤ v1.toInt ∧ v1.toInt ≤ 7) ∧ v0.toInt + v1.toInt ≤ 400 ∧ (1 ≤ v2.toInt ∧ v2.toInt ≤ 400) ∧ 0 ≤ v3.toInt ∧ v3.toInt ≤ 2) ∧ (∀ k : Nat, k < cn 1 → (Fn 7 k).toInt ≤ v0.toInt) ∧ ∃ (t : Nat → Int32) (a b c : Int32), NGS (cn 1) v2.toInt (fun (d9 : Int32) (t9 : Nat → Int32) (k9 : Nat) => if Fn 5 k9 * (d9 - t9 k9) < Fn 6 k9 then Fn 5 k9 * (d9 - t9 k9) else Fn 6 k9) (RTW (fun (l : List Nat) (a b : Nat) => apM (Fn 3 (l.getD a 0)) (Fn 4 (l.getD a 0)) (Fn 3 (l.getD b 0)) (Fn 4 (l.getD b 0))) (fun (l : List Nat) (a : Nat) => Fn 3 (l.getD a 0) + Fn 4 (l.getD a 0))) v0.toInt.toNat (Fn 7) v1.toInt.toNat t a b c ∧ SEL v3 (-1) a b c)); exact ⟨rfl, Or.inl ⟨by (first | exact hC9 | exact q159 | omega | (have zz0 := Hid.u hi_cn; omega)), rfl⟩⟩)⟩, by rw [ht]; exact hP, hD⟩, hS.F ht⟩) hS.2.2 dX12_nights_50
  ·
    have h_2 : ¬ (0 ≤ v0.toInt ∧ v0.toInt ≤ 399) := h_2
    refine lv_if_eq (tgt := 49) hx hb dX12_nights_4 rfl (fun _ => ?_) (fun h => absurd h cq_eq_0_0)
    refine lv_iconst (v := (-1)) hx hb dX12_nights_49 kic_m1 ?_
    exact W.iret (v := (-1)) hx hb hr (fun t ht hW => ⟨⟨(-1), (cn, In, Fn), rfl, ⟨(Fr.mo Fr.rf (sbl rfl) (sbl rfl) (sbl rfl)), hI, (by show Fn 7 = Fn 7 ∧ ((¬ ((0 ≤ v0.toInt ∧ v0.toInt ≤ 399) ∧ (1 ≤ v1.toInt ∧ v1.toInt ≤ 7) ∧ v0.toInt + v1.toInt ≤ 400 ∧ (1 ≤ v2.toInt ∧ v2.toInt ≤ 400) ∧ 0 ≤ v3.toInt ∧ v3.toInt ≤ 2) ∧ (-1) = -1) ∨ (((0 ≤ v0.toInt ∧ v0.toInt ≤ 399) ∧ (1 ≤ v1.toInt ∧ v1.toInt ≤ 7) ∧ v0.toInt + v1.toInt ≤ 400 ∧ (1 ≤ v2.toInt ∧ v2.toInt ≤ 400) ∧ 0 ≤ v3.toInt ∧ v3.toInt ≤ 2) ∧ (-1) = -2 ∧ ((∃ k : Nat, k < cn 1 ∧ v0.toInt < (Fn 7 k).toInt) ∨ NGF (cn 1) v2.toInt (fun (d9 : Int32) (t9 : Nat → Int32) (k9 : Nat) => if Fn 5 k9 * (d9 - t9 k9) < Fn 6 k9 then Fn 5 k9 * (d9 - t9 k9) else Fn 6 k9) (RTW (fun (l : List Nat) (a b : Nat) => apM (Fn 3 (l.getD a 0)) (Fn 4 (l.getD a 0)) (Fn 3 (l.getD b 0)) (Fn 4 (l.getD b 0))) (fun (l : List Nat) (a : Nat) => Fn 3 (l.getD a 0) + Fn 4 (l.getD a 0))) v0.toInt.toNat (Fn 7) v1.toInt.toNat)) ∨ (((0 ≤ v0.toInt ∧ v0.toInt ≤ 399) ∧ (1 ≤ v1.toInt ∧ v1.toInt ≤ 7) ∧ v0.toInt + v1.toInt ≤ 400 ∧ (1 ≤ v2.toInt ∧ v2.toInt ≤ 400) ∧ 0 ≤ v3.toInt ∧ v3.toInt ≤ 2) ∧ (∀ k : Nat, k < cn 1 → (Fn 7 k).toInt ≤ v0.toInt) ∧ ∃ (t : Nat → Int32) (a b c : Int32), NGS (cn 1) v2.toInt (fun (d9 : Int32) (t9 : Nat → Int32) (k9 : Nat) => if Fn 5 k9 * (d9 - t9 k9) < Fn 6 k9 then Fn 5 k9 * (d9 - t9 k9) else Fn 6 k9) (RTW (fun (l : List Nat) (a b : Nat) => apM (Fn 3 (l.getD a 0)) (Fn 4 (l.getD a 0)) (Fn 3 (l.getD b 0)) (Fn 4 (l.getD b 0))) (fun (l : List Nat) (a : Nat) => Fn 3 (l.getD a 0) + Fn 4 (l.getD a 0))) v0.toInt.toNat (Fn 7) v1.toInt.toNat t a b c ∧ SEL v3 (-1) a b c)); exact ⟨rfl, Or.inl ⟨by (first | exact hC9 | exact q159 | omega | (have zz0 := Hid.u hi_cn; omega)), rfl⟩⟩)⟩, by rw [ht]; exact hP, hD⟩, hS.F ht⟩) hS.2.2 dX12_nights_50
