

set_option maxRecDepth 100000 in
set_option maxHeartbeats 4000000 in
theorem q_reads8 (l : Launch) (D : va_G) (cI cB cZ : ClassId) (g : Nat → Nat) (cn : Nat → Nat) (In : Nat → Int32) (Fn : Nat → Nat → Int32) (k0 l0 : Nat) (sz : Nat) (hI : IM cn Fn) (hk0 : k0 ≤ 10) (hl0 : 1 ≤ l0 ∧ l0 ≤ 160) : Met l yX12_reads (CWS yX12_reads cX12_reads 6 (some .int)) (RM 8 0 0) (PBw [.ref (g 100), .int (nI k0), .int (nI l0)] D cI cB cZ (wM cI cB cZ g cn In Fn) sz) (va_Qi (fun (r : Int32) (u : (Nat → Nat) × (Nat → Int32) × (Nat → Nat → Int32)) => (fun r c2 I2 F2 => Fr [18, 19, 20, 23, 24, 25, 26] [21, 22] [27, 28, 29, 30, 31, 32, 33, 34, 35, 36] cn In Fn c2 I2 F2 ∧ IM c2 F2 ∧ (c2 18 ≤ 200)) r u.1 u.2.1 u.2.2) (fun (u : (Nat → Nat) × (Nat → Int32) × (Nat → Nat → Int32)) (t : State) => va_P D vwCl (wM cI cB cZ g u.1 u.2.1 u.2.2) t.heap ∧ va_D (va_A (wM cI cB cZ g cn In Fn) sz) (wM cI cB cZ g u.1 u.2.1 u.2.2)) (va_A (wM cI cB cZ g cn In Fn) sz)) 0 0 (va_A (wM cI cB cZ g cn In Fn) sz) := by
  refine en_w (fun A => (va_Qi (fun (r : Int32) (u : (Nat → Nat) × (Nat → Int32) × (Nat → Nat → Int32)) => (fun (r : Int32) (c2 : Nat → Nat) (I2 : Nat → Int32) (F2 : Nat → Nat → Int32) => Fr [18, 19, 20, 23, 24, 25, 26] [21, 22] [27, 28, 29, 30, 31, 32, 33, 34, 35, 36] cn In Fn c2 I2 F2 ∧ IM c2 F2 ∧ (c2 18 ≤ 200)) r u.1 u.2.1 u.2.2) (fun (u : (Nat → Nat) × (Nat → Int32) × (Nat → Nat → Int32)) (t : State) => va_P D vwCl (wM cI cB cZ g u.1 u.2.1 u.2.2) t.heap ∧ va_D A (wM cI cB cZ g u.1 u.2.1 u.2.2)) A)) rfl rfl pn_RX12 (Nat.le_of_ble_eq_true rfl) (fun p e s m below meth c A hx hb hml hown S hr hlocks hnm hA hP hK hD hS ls hl => ?_)
  have hl : lv_has ls 6 [(0, .ref (g 100)), (1, .int (nI k0)), (2, .int (nI l0))] := hl
  have hi_cn : Hid (CB cn) := hI.b
  refine lv_aload_n hx hb (oc_42 0 shX12_reads_0) rfl (lvA0 hl) ?_
  refine lv_iconst (v := 0) hx hb (oc_3 1 (aq_1 shX12_reads_0)) kic_0 ?_
  refine pM_233 S hK hP hD hS (a := 0) (cn2 := (va_up cn 19 0)) rfl rfl (oc_181 2 (aq_2 shX12_reads_0) uw_0_233) (fun H locs hP hD hS => ?_)
  refine lv_aload_n hx hb (oc_42 5 (aq_5 shX12_reads_0)) rfl (lvA0 hl) ?_
  refine lv_iload_n hx hb (oc_28 6 (aq_6 shX12_reads_0)) rfl (lvA2 hl) ?_
  refine pM_236 S hK hP hD hS (a := l0) (cn2 := (va_up (va_up cn 19 0) 20 l0)) rfl rfl (oc_181 7 (aq_7 shX12_reads_0) uw_0_236) (fun H locs hP hD hS => ?_)
  refine lv_aload_n hx hb (oc_42 10 (aq_10 shX12_reads_0)) rfl (lvA0 hl) ?_
  refine lv_iconst (v := 0) hx hb (oc_3 11 (aq_11 shX12_reads_0)) kic_0 ?_
  refine pM_257 S hK hP hD hS (a := 0) (cn2 := (va_up (va_up (va_up cn 19 0) 20 l0) 23 0)) rfl rfl (oc_181 12 (aq_12 shX12_reads_0) uw_1_1) (fun H locs hP hD hS => ?_)
  refine lv_aload_n hx hb (oc_42 15 (aq_15 shX12_reads_0)) rfl (lvA0 hl) ?_
  refine lv_iconst (v := 0) hx hb (oc_3 16 (aq_16 shX12_reads_0)) kic_0 ?_
  refine pM_312 S hK hP hD hS (a := 0) (cn2 := (va_up (va_up (va_up (va_up cn 19 0) 20 l0) 23 0) 25 0)) rfl rfl (oc_181 17 (aq_17 shX12_reads_0) uw_1_56) (fun H locs hP hD hS => ?_)
  refine lv_aload_n hx hb (oc_42 20 (aq_20 shX12_reads_0)) rfl (lvA0 hl) ?_
  refine lv_iload_n hx hb (oc_27 21 (aq_21 shX12_reads_0)) rfl (lvA1 hl) ?_
  refine lv_bipush (v := 10) hx hb (oc_16 22 (aq_22 shX12_reads_0) sgb_10) kbc_10 ?_
  have : (nI k0).toInt = ((k0 : Nat) : Int) := nI_toInt (by (first | omega | (have zz0 := Hid.u hi_cn; omega)))
  refine lv_icmp_ne (tgt := 31) hx hb (oc_160 24 shX12_reads_24 sgw_0_7) rfl (fun c_1 => ?_) (fun c_1 => ?_)
  ·
    have tc_1 : ((nI k0).toInt : Int) ≠ 10 := fun q => c_1 (Int32.toInt_inj.mp q)
    refine lv_iconst (v := 0) hx hb (oc_3 31 (aq_7 shX12_reads_24)) kic_0 ?_
    have hFc := free_all hD hS hA
    refine va_calli (runV_a (As := [.int 0]) (rest := []) S (q_readsClause l D cI cB cZ g (va_up (va_up (va_up (va_up cn 19 0) 20 l0) 23 0) 25 0) In Fn 0 H.size (IM.fr (In := In) hI (Fr.c 25 (Fr.c 23 (Fr.c 20 (Fr.c 19 Fr.rf)))) (by decide) (by decide)) (show 0 ≤ l0 by (first | omega | (have zz0 := Hid.u hi_cn; omega))) (show l0 ≤ 160 by (first | omega | (have zz0 := Hid.u hi_cn; omega))) (show 0 ≤ 0 by (first | omega | (have zz0 := Hid.u hi_cn; omega))) (show 0 ≤ 12 by (first | omega | (have zz0 := Hid.u hi_cn; omega))) (fun j hj => absurd (show j < 0 from hj) (Nat.not_lt_zero j))) kV_RX12_318 hK hP hD 0 rfl rfl rfl ⟨Nat.le_of_ble_eq_true rfl, Nat.le_of_ble_eq_true rfl⟩ ⟨Nat.le_of_ble_eq_true rfl, Nat.le_of_ble_eq_true rfl⟩ rfl hl.1 rfl (Nat.le_of_ble_eq_true rfl) dX12_reads_32) hS (fun q _ h => hFc q h) hFc (fun r_2 u t H1 locs ht hvm wh_3 hB hz1 hk1 hS => ?_)
    obtain ⟨cn3, In3, Fn3⟩ := u
    obtain ⟨hP1, hD1⟩ := hB
    rw [ht] at hP1
    have hP : va_P D vwCl (wM cI cB cZ g cn3 In3 Fn3) H1 := hP1
    have hD : va_D A (wM cI cB cZ g cn3 In3 Fn3) := hD1.weaken (fun _ _ _ h => hFc _ h)
    generalize H1 = H at hP hS ⊢
    have vh_3 : (fun r c2 I2 F2 => Fr [19, 23, 24, 25, 26] [21, 22] [27, 28, 29, 30, 31] (va_up (va_up (va_up (va_up cn 19 0) 20 l0) 23 0) 25 0) In Fn c2 I2 F2 ∧ IM c2 F2 ∧ (r = 0 ∨ (r = 1 ∧ 0 < c2 19 ∧ c2 19 ≤ l0 ∧ c2 23 ≤ c2 19 ∧ c2 25 ≤ 12 ∧ ALL (F2 27) (c2 23) (c2 25) (F2 29) (F2 30) (F2 31)))) r_2 cn3 In3 Fn3 := wh_3
    obtain ⟨hfc3, hIn3, h_3⟩ := vh_3
    have hf3 : Fr [18, 19, 20, 23, 24, 25, 26] [21, 22] [27, 28, 29, 30, 31, 32, 33, 34, 35, 36] cn In Fn cn3 In3 Fn3 := Fr.mo (Fr.tr (Fr.c 25 (Fr.c 23 (Fr.c 20 (Fr.c 19 (Fr.rf (cn := cn) (In := In) (Fn := Fn)))))) hfc3) (sbl rfl) (sbl rfl) (sbl rfl)
    have hi_cn3 : Hid (CB cn3) := hIn3.b
    have hq_cn3 := Hid.i (frq_18_19_20_23_24_25_26_0_1_2_46_57_58_62_63_75_83_44 hf3)
    have : cn3 20 = l0 := hfc3.1 20 (nml rfl)
    refine lv_istore_n (lv' := [(3, .int r_2), (0, .ref (g 100)), (1, .int (nI k0)), (2, .int (nI l0))]) hx hb dX12_reads_35 rfl hl (ltb rfl) rfl (fun ls hl => ?_)
    have lp_36 : ∀ (n : Nat) (x36_3 : Int32) (g36 : Nat) (c36 : Nat → Nat) (I36 : Nat → Int32) (F36 : Nat → Nat → Int32) (H : Heap) (locs : List Loc) , g36 < n → (Fr [18, 19, 20, 23, 24, 25, 26] [21, 22] [27, 28, 29, 30, 31, 32, 33, 34, 35, 36] cn In Fn c36 I36 F36 ∧ IM c36 F36 ∧ (x36_3 = 0 ∨ (x36_3 = 1 ∧ c36 19 ≤ l0 ∧ c36 23 ≤ c36 19 ∧ c36 25 ≤ 12 ∧ ALL (F36 27) (c36 23) (c36 25) (F36 29) (F36 30) (F36 31) ∧ l0 + 1 ≤ c36 19 + g36)) ∧ (c36 20 = l0) ∧ (∀ k : Nat, 32 ≤ k → k ≤ 36 → F36 k = Fn k)) → va_P D vwCl (wM cI cB cZ g c36 I36 F36) H → va_D A (wM cI cB cZ g c36 I36 F36) → va_S A s.heap H locs → ∀ ls : Array Slot, lv_has ls 6 [(3, .int x36_3), (0, .ref (g 100)), (1, .int (nI k0)), (2, .int (nI l0))] → W p l e (RM 8 0 0) s m ([.ref (g 100), .int (nI k0), .int (nI l0)]).toArray below meth c H locs 0 0 (MQ below (va_Qi (fun (r : Int32) (u : (Nat → Nat) × (Nat → Int32) × (Nat → Nat → Int32)) => (fun r c2 I2 F2 => Fr [18, 19, 20, 23, 24, 25, 26] [21, 22] [27, 28, 29, 30, 31, 32, 33, 34, 35, 36] cn In Fn c2 I2 F2 ∧ IM c2 F2 ∧ (c2 18 ≤ 200)) r u.1 u.2.1 u.2.2) (fun (u : (Nat → Nat) × (Nat → Int32) × (Nat → Nat → Int32)) (t : State) => va_P D vwCl (wM cI cB cZ g u.1 u.2.1 u.2.2) t.heap ∧ va_D A (wM cI cB cZ g u.1 u.2.1 u.2.2)) A) ([.ref (g 100), .int (nI k0), .int (nI l0)]).toArray s 0 0 A) (F0 m 36 ls []) := by
      intro n36
      induction n36 with
      | zero => intros; (first | omega | (have zz0 := Hid.u hi_cn; have zz1 := Hid.u hi_cn3; have zz2 := Hid.u hq_cn3; omega))
      | succ n36 ih36 =>
        intro x36_3 g36 c36 I36 F36 H locs hmu36 hinv36 hP hD hS ls hl
        obtain ⟨hfr36, hI36, hx36_0, hx36_1, hx36_2⟩ := hinv36
        have hi_c36 : Hid (CB c36) := hI36.b
        have hq_c36 := Hid.i (frq_18_19_20_23_24_25_26_0_1_2_46_57_58_62_63_75_83_44 hfr36)
        refine lv_iload_n hx hb dX12_reads_36 rfl (lvA0 hl) ?_
        refine lv_if_eq (tgt := 87) hx hb dX12_reads_37 rfl (fun c_4 => ?_) (fun c_4 => ?_)
        ·
          have tc_4 : (x36_3.toInt : Int) = 0 := congrArg Int32.toInt c_4
          refine lv_aload_n hx hb dX12_reads_87 rfl (lvA1 hl) ?_
          refine lv_iconst (v := 0) hx hb dX12_reads_88 kic_0 ?_
          refine pM_226 S hK hP hD hS (a := 0) (cn2 := (va_up c36 18 0)) rfl rfl dX12_reads_89 (fun H locs hP hD hS => ?_)
          refine lv_iload_n hx hb dX12_reads_92 rfl (lvA0 hl) ?_
          refine lv_if_ne (tgt := 101) hx hb dX12_reads_93 rfl (fun c_5 => False.elim (by have tc_5 : (x36_3.toInt : Int) ≠ 0 := fun q => c_5 (Int32.toInt_inj.mp q); (first | omega | (have zz0 := Hid.u hi_c36; have zz1 := Hid.u hi_cn; have zz2 := Hid.u hi_cn3; have zz3 := Hid.u hq_c36; have zz4 := Hid.u hq_cn3; omega)))) (fun c_5 => ?_)
          have tc_5 : (x36_3.toInt : Int) = 0 := congrArg Int32.toInt c_5
          refine lv_aload_n hx hb dX12_reads_96 rfl (lvA1 hl) ?_
          refine gM_243 S hK hP (v := .int (I36 21)) rfl dX12_reads_97 ?_
          exact W.iret (v := (I36 21)) hx hb hr (fun t ht hW => ⟨⟨(I36 21), ((va_up c36 18 0), I36, F36), rfl, ⟨(Fr.mo (Fr.c 18 hfr36) (sbl rfl) (sbl rfl) (sbl rfl)), (IM.fr (In := I36) hI36 (Fr.c 18 Fr.rf) (by decide) (by decide)), (by show (va_up c36 18 0) 18 ≤ 200; show 0 ≤ 200; (first | omega | (have zz0 := Hid.u hi_c36; have zz1 := Hid.u hi_cn; have zz2 := Hid.u hi_cn3; have zz3 := Hid.u hq_c36; have zz4 := Hid.u hq_cn3; omega)))⟩, by rw [ht]; exact hP, hD⟩, hS.F ht⟩) hS.2.2 dX12_reads_100
        ·
          have tc_4 : (x36_3.toInt : Int) ≠ 0 := fun q => c_4 (Int32.toInt_inj.mp q)
          obtain ⟨hr1, hr2, hr3, hr4, hr5, hr6⟩ := hx36_0.resolve_left (by assumption)
          refine lv_aload_n hx hb dX12_reads_40 rfl (lvA1 hl) ?_
          refine gM_233 S hK hP (v := .int (nI (c36 19))) rfl dX12_reads_41 ?_
          refine lv_aload_n hx hb dX12_reads_44 rfl (lvA1 hl) ?_
          refine gM_236 S hK hP (v := .int (nI (c36 20))) rfl dX12_reads_45 ?_
          have : (nI (c36 19)).toInt = (((c36 19) : Nat) : Int) := nI_toInt (by (first | omega | (have zz0 := Hid.u hi_c36; have zz1 := Hid.u hi_cn; have zz2 := Hid.u hi_cn3; have zz3 := Hid.u hq_c36; have zz4 := Hid.u hq_cn3; omega)))
          have : (nI (c36 20)).toInt = (((c36 20) : Nat) : Int) := nI_toInt (by (first | omega | (have zz0 := Hid.u hi_c36; have zz1 := Hid.u hi_cn; have zz2 := Hid.u hi_cn3; have zz3 := Hid.u hq_c36; have zz4 := Hid.u hq_cn3; omega)))
          refine lv_icmp_ge (tgt := 87) hx hb dX12_reads_48 rfl (fun c_6 => ?_) (fun c_6 => ?_)
          ·
            have tc_6 : ((nI (c36 20)).toInt : Int) ≤ (nI (c36 19)).toInt := Int32.le_iff_toInt_le.mp c_6
            refine lv_aload_n hx hb dX12_reads_87 rfl (lvA1 hl) ?_
            refine lv_iconst (v := 0) hx hb dX12_reads_88 kic_0 ?_
            refine pM_226 S hK hP hD hS (a := 0) (cn2 := (va_up c36 18 0)) rfl rfl dX12_reads_89 (fun H locs hP hD hS => ?_)
            refine lv_iload_n hx hb dX12_reads_92 rfl (lvA0 hl) ?_
            refine lv_if_ne (tgt := 101) hx hb dX12_reads_93 rfl (fun c_7 => ?_) (fun c_7 => ?_)
            ·
              have tc_7 : (x36_3.toInt : Int) ≠ 0 := fun q => c_7 (Int32.toInt_inj.mp q)
              have g32_ : F36 32 = Fn 32 := hx36_2 32 (by decide) (by decide)
              have g33_ : F36 33 = Fn 33 := hx36_2 33 (by decide) (by decide)
              have g34_ : F36 34 = Fn 34 := hx36_2 34 (by decide) (by decide)
              have g35_ : F36 35 = Fn 35 := hx36_2 35 (by decide) (by decide)
              have g36_ : F36 36 = Fn 36 := hx36_2 36 (by decide) (by decide)
              refine lv_aload_n hx hb dX12_reads_101 rfl (lvA1 hl) ?_
              refine gM_74 S hK hP (v := .ref (g 33)) rfl dX12_reads_102 ?_
              refine lv_iload_n hx hb dX12_reads_105 rfl (lvA2 hl) ?_
              refine lv_aload_n hx hb dX12_reads_106 rfl (lvA1 hl) ?_
              refine gM_312 S hK hP (v := .int (nI (c36 25))) rfl dX12_reads_107 ?_
              have kb_1 : k0 < 11 := by (first | omega | (have zz0 := Hid.u hi_c36; have zz1 := Hid.u hi_cn; have zz2 := Hid.u hi_cn3; have zz3 := Hid.u hq_c36; have zz4 := Hid.u hq_cn3; omega))
              refine stM_33 hx hb hK hP hD hS (Fn2 := (va_up F36 33 (upd (F36 33) k0 (nI (c36 25))))) (vp_in_nI kb_1 (ltb rfl)) (nI_clamp (Nat.lt_trans kb_1 (ltb rfl))) rfl dX12_reads_110 (fun H locs hP hD hS => ?_)
              refine lv_iconst (v := 0) hx hb dX12_reads_111 kic_0 ?_
              refine lv_istore (lv' := [(4, .int 0), (3, .int x36_3), (0, .ref (g 100)), (1, .int (nI k0)), (2, .int (nI l0))]) hx hb dX12_reads_112 hl (ltb rfl) rfl (fun ls hl => ?_)
              have lp_114 : ∀ (n : Nat) (i114 : Nat) (F114 : Nat → Nat → Int32) (H : Heap) (locs : List Loc) , (c36 23) - i114 < n → (i114 ≤ (c36 23) ∧ Fr [18, 19, 20, 23, 24, 25, 26] [21, 22] [27, 28, 29, 30, 31, 32, 33, 34, 35, 36] cn In Fn c36 I36 F114 ∧ (∀ j : Nat, j < i114 → F114 32 (180 * k0 + j) = F36 27 j) ∧ (∀ j : Nat, j < 180 * k0 ∨ 180 * k0 + 180 ≤ j → F114 32 j = Fn 32 j) ∧ (∀ k : Nat, k ≠ 32 → F114 k = (va_up F36 33 (upd (F36 33) k0 (nI (c36 25)))) k)) → va_P D vwCl (wM cI cB cZ g (va_up c36 18 0) I36 F114) H → va_D A (wM cI cB cZ g (va_up c36 18 0) I36 F114) → va_S A s.heap H locs → ∀ ls : Array Slot, lv_has ls 6 [(4, .int (nI i114)), (3, .int x36_3), (0, .ref (g 100)), (1, .int (nI k0)), (2, .int (nI l0))] → W p l e (RM 8 0 0) s m ([.ref (g 100), .int (nI k0), .int (nI l0)]).toArray below meth c H locs 0 0 (MQ below (va_Qi (fun (r : Int32) (u : (Nat → Nat) × (Nat → Int32) × (Nat → Nat → Int32)) => (fun r c2 I2 F2 => Fr [18, 19, 20, 23, 24, 25, 26] [21, 22] [27, 28, 29, 30, 31, 32, 33, 34, 35, 36] cn In Fn c2 I2 F2 ∧ IM c2 F2 ∧ (c2 18 ≤ 200)) r u.1 u.2.1 u.2.2) (fun (u : (Nat → Nat) × (Nat → Int32) × (Nat → Nat → Int32)) (t : State) => va_P D vwCl (wM cI cB cZ g u.1 u.2.1 u.2.2) t.heap ∧ va_D A (wM cI cB cZ g u.1 u.2.1 u.2.2)) A) ([.ref (g 100), .int (nI k0), .int (nI l0)]).toArray s 0 0 A) (F0 m 114 ls []) := by
                intro n114
                induction n114 with
                | zero => intros; (first | omega | (have zz0 := Hid.u hi_c36; have zz1 := Hid.u hi_cn; have zz2 := Hid.u hi_cn3; have zz3 := Hid.u hq_c36; have zz4 := Hid.u hq_cn3; omega))
                | succ n114 ih114 =>
                  intro i114 F114 H locs hmu114 hinv114 hP hD hS ls hl
                  obtain ⟨hr114, hfr114, hx114_0, hx114_1, hx114_2⟩ := hinv114
                  have ti114 : (nI i114).toInt = (i114 : Int) := nI_toInt (by (first | omega | (have zz0 := Hid.u hi_c36; have zz1 := Hid.u hi_cn; have zz2 := Hid.u hi_cn3; have zz3 := Hid.u hq_c36; have zz4 := Hid.u hq_cn3; omega)))
                  have hq_c36 := Hid.i (frq_18_19_20_23_24_25_26_0_1_2_46_57_58_62_63_75_83_44 hfr114)
                  refine lv_iload hx hb dX12_reads_114 (lvA0 hl) ?_
                  refine lv_aload_n hx hb dX12_reads_116 rfl (lvA2 hl) ?_
                  refine gM_257 S hK hP (v := .int (nI (c36 23))) rfl dX12_reads_117 ?_
                  have : (nI (c36 23)).toInt = (((c36 23) : Nat) : Int) := nI_toInt (by (first | omega | (have zz0 := Hid.u hi_c36; have zz1 := Hid.u hi_cn; have zz2 := Hid.u hi_cn3; have zz3 := Hid.u hq_c36; have zz4 := Hid.u hq_cn3; omega)))
                  refine lv_icmp_ge (tgt := 149) hx hb dX12_reads_120 rfl (fun c_8 => ?_) (fun c_8 => ?_)
                  ·
                    have tc_8 : ((nI (c36 23)).toInt : Int) ≤ (nI i114).toInt := Int32.le_iff_toInt_le.mp c_8
                    refine lv_iconst (v := 0) hx hb dX12_reads_149 kic_0 ?_
                    refine lv_istore (lv' := [(4, .int 0), (3, .int x36_3), (0, .ref (g 100)), (1, .int (nI k0)), (2, .int (nI l0))]) hx hb dX12_reads_150 hl (ltb rfl) rfl (fun ls hl => ?_)
                    have lp_152 : ∀ (n : Nat) (i152 : Nat) (F152 : Nat → Nat → Int32) (H : Heap) (locs : List Loc) , (c36 25) - i152 < n → (i152 ≤ (c36 25) ∧ Fr [18, 19, 20, 23, 24, 25, 26] [21, 22] [27, 28, 29, 30, 31, 32, 33, 34, 35, 36] cn In Fn c36 I36 F152 ∧ (∀ q : Nat, q < i152 → ClOK (F152 32) (180 * k0) (F152 34 (12 * k0 + q)) (F152 35 (12 * k0 + q)) (F152 36 (12 * k0 + q))) ∧ (∀ j : Nat, j < 12 * k0 ∨ 12 * k0 + 12 ≤ j → F152 34 j = Fn 34 j ∧ F152 35 j = Fn 35 j ∧ F152 36 j = Fn 36 j) ∧ (∀ k : Nat, k ≠ 34 ∧ k ≠ 35 ∧ k ≠ 36 → F152 k = F114 k)) → va_P D vwCl (wM cI cB cZ g (va_up c36 18 0) I36 F152) H → va_D A (wM cI cB cZ g (va_up c36 18 0) I36 F152) → va_S A s.heap H locs → ∀ ls : Array Slot, lv_has ls 6 [(4, .int (nI i152)), (3, .int x36_3), (0, .ref (g 100)), (1, .int (nI k0)), (2, .int (nI l0))] → W p l e (RM 8 0 0) s m ([.ref (g 100), .int (nI k0), .int (nI l0)]).toArray below meth c H locs 0 0 (MQ below (va_Qi (fun (r : Int32) (u : (Nat → Nat) × (Nat → Int32) × (Nat → Nat → Int32)) => (fun r c2 I2 F2 => Fr [18, 19, 20, 23, 24, 25, 26] [21, 22] [27, 28, 29, 30, 31, 32, 33, 34, 35, 36] cn In Fn c2 I2 F2 ∧ IM c2 F2 ∧ (c2 18 ≤ 200)) r u.1 u.2.1 u.2.2) (fun (u : (Nat → Nat) × (Nat → Int32) × (Nat → Nat → Int32)) (t : State) => va_P D vwCl (wM cI cB cZ g u.1 u.2.1 u.2.2) t.heap ∧ va_D A (wM cI cB cZ g u.1 u.2.1 u.2.2)) A) ([.ref (g 100), .int (nI k0), .int (nI l0)]).toArray s 0 0 A) (F0 m 152 ls []) := by
                      intro n152
                      induction n152 with
                      | zero => intros; (first | omega | (have zz0 := Hid.u hi_c36; have zz1 := Hid.u hi_cn; have zz2 := Hid.u hi_cn3; have zz3 := Hid.u hq_c36; have zz4 := Hid.u hq_cn3; omega))
                      | succ n152 ih152 =>
                        intro i152 F152 H locs hmu152 hinv152 hP hD hS ls hl
                        obtain ⟨hr152, hfr152, hx152_0, hx152_1, hx152_2⟩ := hinv152
                        have ti152 : (nI i152).toInt = (i152 : Int) := nI_toInt (by (first | omega | (have zz0 := Hid.u hi_c36; have zz1 := Hid.u hi_cn; have zz2 := Hid.u hi_cn3; have zz3 := Hid.u hq_c36; have zz4 := Hid.u hq_cn3; omega)))
                        have hq_c36 := Hid.i (frq_18_19_20_23_24_25_26_0_1_2_46_57_58_62_63_75_83_44 hfr152)
                        refine lv_iload hx hb dX12_reads_152 (lvA0 hl) ?_
                        refine lv_aload_n hx hb dX12_reads_154 rfl (lvA2 hl) ?_
                        refine gM_312 S hK hP (v := .int (nI (c36 25))) rfl dX12_reads_155 ?_
                        have : (nI (c36 25)).toInt = (((c36 25) : Nat) : Int) := nI_toInt (by (first | omega | (have zz0 := Hid.u hi_c36; have zz1 := Hid.u hi_cn; have zz2 := Hid.u hi_cn3; have zz3 := Hid.u hq_c36; have zz4 := Hid.u hq_cn3; omega)))
                        refine lv_icmp_ge (tgt := 236) hx hb dX12_reads_158 rfl (fun c_9 => ?_) (fun c_9 => ?_)
                        ·
                          have tc_9 : ((nI (c36 25)).toInt : Int) ≤ (nI i152).toInt := Int32.le_iff_toInt_le.mp c_9
                          refine lv_aload_n hx hb dX12_reads_236 rfl (lvA2 hl) ?_
                          refine gM_312 S hK hP (v := .int (nI (c36 25))) rfl dX12_reads_237 ?_
                          exact W.iret (v := (nI (c36 25))) hx hb hr (fun t ht hW => ⟨⟨(nI (c36 25)), ((va_up c36 18 0), I36, F152), rfl, ⟨(Fr.mo (Fr.c 18 hfr152) (sbl rfl) (sbl rfl) (sbl rfl)), (IM.rd (t := k0) (sm := c36 25) hI (fun k hk => (Fr.c 18 hfr36).1 k (by revert k; decide)) (fun k hk => hfr152.2.2 k (by revert k; decide)) (by (first | omega | (have zz0 := Hid.u hi_c36; have zz1 := Hid.u hi_cn; have zz2 := Hid.u hi_cn3; have zz3 := Hid.u hq_c36; have zz4 := Hid.u hq_cn3; omega))) ((hx152_2 33 (by decide)).trans ((hx114_2 33 (by decide)).trans (by show upd (F36 33) k0 (nI (c36 25)) = _; rw [g33_]))) (fun j hj => (congrFun (hx152_2 32 (by decide)) j).trans (hx114_1 j hj)) hx152_1 (fun q hq => hx152_0 q (by (first | omega | (have zz0 := Hid.u hi_c36; have zz1 := Hid.u hi_cn; have zz2 := Hid.u hi_cn3; have zz3 := Hid.u hq_c36; have zz4 := Hid.u hq_cn3; omega))))), (by show (va_up c36 18 0) 18 ≤ 200; show 0 ≤ 200; (first | omega | (have zz0 := Hid.u hi_c36; have zz1 := Hid.u hi_cn; have zz2 := Hid.u hi_cn3; have zz3 := Hid.u hq_c36; have zz4 := Hid.u hq_cn3; omega)))⟩, by rw [ht]; exact hP, hD⟩, hS.F ht⟩) hS.2.2 dX12_reads_240
                        ·
                          have tc_9 : ((nI i152).toInt : Int) < (nI (c36 25)).toInt := Int32.lt_iff_toInt_lt.mp (Int32.not_le.mp c_9)
                          obtain ⟨a9, g9, b9, ea9, eg9, eb9, k1, k2, k3, s1, s2⟩ := hr5 i152 (by (first | omega | (have zz0 := Hid.u hi_c36; have zz1 := Hid.u hi_cn; have zz2 := Hid.u hi_cn3; have zz3 := Hid.u hq_c36; have zz4 := Hid.u hq_cn3; omega)))
                          refine lv_bipush (v := 12) hx hb dX12_reads_161 kbc_12 ?_
                          refine lv_iload_n hx hb dX12_reads_163 rfl (lvA3 hl) ?_
                          refine lv_imul hx hb dX12_reads_164 ?_
                          refine lv_topi (fun y_10 ey_10 => ?_)
                          obtain rfl : y_10 = (nI (12 * k0)) := ey_10.trans (pk_mul 12 k0)
                          refine lv_iload hx hb dX12_reads_165 (lvA0 hl) ?_
                          refine lv_iadd hx hb dX12_reads_167 ?_
                          refine lv_topi (fun y_11 ey_11 => ?_)
                          obtain rfl : y_11 = (nI ((12 * k0) + i152)) := ey_11.trans (nI_add (12 * k0) i152)
                          refine lv_istore (lv' := [(5, .int (nI ((12 * k0) + i152))), (4, .int (nI i152)), (3, .int x36_3), (0, .ref (g 100)), (1, .int (nI k0)), (2, .int (nI l0))]) hx hb dX12_reads_168 hl (ltb rfl) rfl (fun ls hl => ?_)
                          refine lv_aload_n hx hb dX12_reads_170 rfl (lvA3 hl) ?_
                          refine gM_77 S hK hP (v := .ref (g 34)) rfl dX12_reads_171 ?_
                          refine lv_iload hx hb dX12_reads_174 (lvA0 hl) ?_
                          refine lv_sipush (v := 180) hx hb dX12_reads_176 (by decide) ?_
                          refine lv_iload_n hx hb dX12_reads_179 rfl (lvA4 hl) ?_
                          refine lv_imul hx hb dX12_reads_180 ?_
                          refine lv_topi (fun y_12 ey_12 => ?_)
                          obtain rfl : y_12 = (nI (180 * k0)) := ey_12.trans (pk_mul 180 k0)
                          refine lv_aload_n hx hb dX12_reads_181 rfl (lvA3 hl) ?_
                          refine gM_62 S hK hP (v := .ref (g 29)) rfl dX12_reads_182 ?_
                          refine lv_iload hx hb dX12_reads_185 (lvA1 hl) ?_
                          have kb_2 : i152 < 12 := by (first | omega | (have zz0 := Hid.u hi_c36; have zz1 := Hid.u hi_cn; have zz2 := Hid.u hi_cn3; have zz3 := Hid.u hq_c36; have zz4 := Hid.u hq_cn3; omega))
                          refine ldM_29 hx hb hK hP (x := ((F152 29) i152)) (vp_in_nI kb_2 (ltb rfl)) (nI_clamp (Nat.lt_trans kb_2 (ltb rfl))) rfl dX12_reads_187 ?_
                          refine lv_topi (fun y_13 ey_13 => ?_)
                          obtain rfl : y_13 = (nI a9) := ey_13.trans ((congrFun ((hx152_2 29 (by decide)).trans (hx114_2 29 (by decide))) i152).trans ea9)
                          refine lv_iadd hx hb dX12_reads_188 ?_
                          refine lv_topi (fun y_14 ey_14 => ?_)
                          obtain rfl : y_14 = (nI ((180 * k0) + a9)) := ey_14.trans (nI_add (180 * k0) a9)
                          have kb_3 : ((12 * k0) + i152) < 132 := by (first | omega | (have zz0 := Hid.u hi_c36; have zz1 := Hid.u hi_cn; have zz2 := Hid.u hi_cn3; have zz3 := Hid.u hq_c36; have zz4 := Hid.u hq_cn3; omega))
                          refine stM_34 hx hb hK hP hD hS (Fn2 := (va_up F152 34 (upd (F152 34) ((12 * k0) + i152) (nI ((180 * k0) + a9))))) (vp_in_nI kb_3 (ltb rfl)) (nI_clamp (Nat.lt_trans kb_3 (ltb rfl))) rfl dX12_reads_189 (fun H locs hP hD hS => ?_)
                          refine lv_aload_n hx hb dX12_reads_190 rfl (lvA3 hl) ?_
                          refine gM_80 S hK hP (v := .ref (g 35)) rfl dX12_reads_191 ?_
                          refine lv_iload hx hb dX12_reads_194 (lvA0 hl) ?_
                          refine lv_sipush (v := 180) hx hb dX12_reads_196 (by decide) ?_
                          refine lv_iload_n hx hb dX12_reads_199 rfl (lvA4 hl) ?_
                          refine lv_imul hx hb dX12_reads_200 ?_
                          refine lv_topi (fun y_15 ey_15 => ?_)
                          obtain rfl : y_15 = (nI (180 * k0)) := ey_15.trans (pk_mul 180 k0)
                          refine lv_aload_n hx hb dX12_reads_201 rfl (lvA3 hl) ?_
                          refine gM_65 S hK hP (v := .ref (g 30)) rfl dX12_reads_202 ?_
                          refine lv_iload hx hb dX12_reads_205 (lvA1 hl) ?_
                          refine ldM_30 hx hb hK hP (x := ((F152 30) i152)) (vp_in_nI kb_2 (ltb rfl)) (nI_clamp (Nat.lt_trans kb_2 (ltb rfl))) rfl dX12_reads_207 ?_
                          refine lv_topi (fun y_16 ey_16 => ?_)
                          obtain rfl : y_16 = (nI g9) := ey_16.trans ((congrFun ((hx152_2 30 (by decide)).trans (hx114_2 30 (by decide))) i152).trans eg9)
                          refine lv_iadd hx hb dX12_reads_208 ?_
                          refine lv_topi (fun y_17 ey_17 => ?_)
                          obtain rfl : y_17 = (nI ((180 * k0) + g9)) := ey_17.trans (nI_add (180 * k0) g9)
                          refine stM_35 hx hb hK hP hD hS (Fn2 := (va_up (va_up F152 34 (upd (F152 34) ((12 * k0) + i152) (nI ((180 * k0) + a9)))) 35 (upd (F152 35) ((12 * k0) + i152) (nI ((180 * k0) + g9))))) (vp_in_nI kb_3 (ltb rfl)) (nI_clamp (Nat.lt_trans kb_3 (ltb rfl))) rfl dX12_reads_209 (fun H locs hP hD hS => ?_)
                          refine lv_aload_n hx hb dX12_reads_210 rfl (lvA3 hl) ?_
                          refine gM_83 S hK hP (v := .ref (g 36)) rfl dX12_reads_211 ?_
                          refine lv_iload hx hb dX12_reads_214 (lvA0 hl) ?_
                          refine lv_sipush (v := 180) hx hb dX12_reads_216 (by decide) ?_
                          refine lv_iload_n hx hb dX12_reads_219 rfl (lvA4 hl) ?_
                          refine lv_imul hx hb dX12_reads_220 ?_
                          refine lv_topi (fun y_18 ey_18 => ?_)
                          obtain rfl : y_18 = (nI (180 * k0)) := ey_18.trans (pk_mul 180 k0)
                          refine lv_aload_n hx hb dX12_reads_221 rfl (lvA3 hl) ?_
                          refine gM_68 S hK hP (v := .ref (g 31)) rfl dX12_reads_222 ?_
                          refine lv_iload hx hb dX12_reads_225 (lvA1 hl) ?_
                          refine ldM_31 hx hb hK hP (x := ((F152 31) i152)) (vp_in_nI kb_2 (ltb rfl)) (nI_clamp (Nat.lt_trans kb_2 (ltb rfl))) rfl dX12_reads_227 ?_
                          refine lv_topi (fun y_19 ey_19 => ?_)
                          obtain rfl : y_19 = (nI b9) := ey_19.trans ((congrFun ((hx152_2 31 (by decide)).trans (hx114_2 31 (by decide))) i152).trans eb9)
                          refine lv_iadd hx hb dX12_reads_228 ?_
                          refine lv_topi (fun y_20 ey_20 => ?_)
                          obtain rfl : y_20 = (nI ((180 * k0) + b9)) := ey_20.trans (nI_add (180 * k0) b9)
                          refine stM_36 hx hb hK hP hD hS (Fn2 := (va_up (va_up (va_up F152 34 (upd (F152 34) ((12 * k0) + i152) (nI ((180 * k0) + a9)))) 35 (upd (F152 35) ((12 * k0) + i152) (nI ((180 * k0) + g9)))) 36 (upd (F152 36) ((12 * k0) + i152) (nI ((180 * k0) + b9))))) (vp_in_nI kb_3 (ltb rfl)) (nI_clamp (Nat.lt_trans kb_3 (ltb rfl))) rfl dX12_reads_229 (fun H locs hP hD hS => ?_)
                          refine lv_iinc (v := (nI (i152 + 1))) (lv' := [(4, .int (nI (i152 + 1))), (5, .int (nI ((12 * k0) + i152))), (3, .int x36_3), (0, .ref (g 100)), (1, .int (nI k0)), (2, .int (nI l0))]) hx hb dX12_reads_230 hl (k := 1) rfl (nI_1 _) (ltb rfl) rfl (fun ls hl => ?_)
                          refine lv_goto (tgt := 152) hx hb dX12_reads_233 rfl ?_
                          exact ih152 (i152 + 1) (va_up (va_up (va_up F152 34 (upd (F152 34) ((12 * k0) + i152) (nI ((180 * k0) + a9)))) 35 (upd (F152 35) ((12 * k0) + i152) (nI ((180 * k0) + g9)))) 36 (upd (F152 36) ((12 * k0) + i152) (nI ((180 * k0) + b9)))) _ _ (by (first | omega | (have zz0 := Hid.u hi_c36; have zz1 := Hid.u hi_cn; have zz2 := Hid.u hi_cn3; have zz3 := Hid.u hq_c36; have zz4 := Hid.u hq_cn3; omega))) ⟨(by (first | omega | (have zz0 := Hid.u hi_c36; have zz1 := Hid.u hi_cn; have zz2 := Hid.u hi_cn3; have zz3 := Hid.u hq_c36; have zz4 := Hid.u hq_cn3; omega))), (Fr.mo (Fr.f 36 (Fr.f 35 (Fr.f 34 hfr152))) (sbl rfl) (sbl rfl) (sbl rfl)), (by have q := new_cl hx152_0 (C := F36 27) (cm := c36 23) (fun k hk => (congrFun (hx152_2 32 (by decide)) _).trans (hx114_0 k (by (first | omega | (have zz0 := Hid.u hi_c36; have zz1 := Hid.u hi_cn; have zz2 := Hid.u hi_cn3; have zz3 := Hid.u hq_c36; have zz4 := Hid.u hq_cn3; omega))))) (by (first | omega | (have zz0 := Hid.u hi_c36; have zz1 := Hid.u hi_cn; have zz2 := Hid.u hi_cn3; have zz3 := Hid.u hq_c36; have zz4 := Hid.u hq_cn3; omega))) k1 k2 k3 s1 s2; exact q), (fun j hj => ⟨(upd_nq (by (first | omega | (have zz0 := Hid.u hi_c36; have zz1 := Hid.u hi_cn; have zz2 := Hid.u hi_cn3; have zz3 := Hid.u hq_c36; have zz4 := Hid.u hq_cn3; omega)))).trans (hx152_1 j hj).1, (upd_nq (by (first | omega | (have zz0 := Hid.u hi_c36; have zz1 := Hid.u hi_cn; have zz2 := Hid.u hi_cn3; have zz3 := Hid.u hq_c36; have zz4 := Hid.u hq_cn3; omega)))).trans (hx152_1 j hj).2.1, (upd_nq (by (first | omega | (have zz0 := Hid.u hi_c36; have zz1 := Hid.u hi_cn; have zz2 := Hid.u hi_cn3; have zz3 := Hid.u hq_c36; have zz4 := Hid.u hq_cn3; omega)))).trans (hx152_1 j hj).2.2⟩), (fun k hk => (va_up_ne _ _ hk.2.2).trans ((va_up_ne _ _ hk.2.1).trans ((va_up_ne _ _ hk.1).trans (hx152_2 k hk))))⟩ hP hD hS ls (lv_sub hl [0, 2, 3, 4, 5] rfl)
                    exact lp_152 _ 0 F114 _ _ (Nat.lt_succ_self _) ⟨(by (first | omega | (have zz0 := Hid.u hi_c36; have zz1 := Hid.u hi_cn; have zz2 := Hid.u hi_cn3; have zz3 := Hid.u hq_c36; have zz4 := Hid.u hq_cn3; omega))), (Fr.mo hfr114 (sbl rfl) (sbl rfl) (sbl rfl)), (fun q hq => absurd hq (Nat.not_lt_zero q)), (fun j hj => ⟨(congrFun (hx114_2 34 (by decide)) j).trans (congrFun g34_ j), (congrFun (hx114_2 35 (by decide)) j).trans (congrFun g35_ j), (congrFun (hx114_2 36 (by decide)) j).trans (congrFun g36_ j)⟩), (fun k _ => rfl)⟩ hP hD hS ls (lv_sub hl [0, 1, 2, 3, 4] rfl)
                  ·
                    have tc_8 : ((nI i114).toInt : Int) < (nI (c36 23)).toInt := Int32.lt_iff_toInt_lt.mp (Int32.not_le.mp c_8)
                    refine lv_aload_n hx hb dX12_reads_123 rfl (lvA2 hl) ?_
                    refine gM_71 S hK hP (v := .ref (g 32)) rfl dX12_reads_124 ?_
                    refine lv_sipush (v := 180) hx hb dX12_reads_127 (by decide) ?_
                    refine lv_iload_n hx hb dX12_reads_130 rfl (lvA3 hl) ?_
                    refine lv_imul hx hb dX12_reads_131 ?_
                    refine lv_topi (fun y_21 ey_21 => ?_)
                    obtain rfl : y_21 = (nI (180 * k0)) := ey_21.trans (pk_mul 180 k0)
                    refine lv_iload hx hb dX12_reads_132 (lvA0 hl) ?_
                    refine lv_iadd hx hb dX12_reads_134 ?_
                    refine lv_topi (fun y_22 ey_22 => ?_)
                    obtain rfl : y_22 = (nI ((180 * k0) + i114)) := ey_22.trans (nI_add (180 * k0) i114)
                    refine lv_aload_n hx hb dX12_reads_135 rfl (lvA2 hl) ?_
                    refine gM_56 S hK hP (v := .ref (g 27)) rfl dX12_reads_136 ?_
                    refine lv_iload hx hb dX12_reads_139 (lvA0 hl) ?_
                    have kb_4 : i114 < 180 := by (first | omega | (have zz0 := Hid.u hi_c36; have zz1 := Hid.u hi_cn; have zz2 := Hid.u hi_cn3; have zz3 := Hid.u hq_c36; have zz4 := Hid.u hq_cn3; omega))
                    refine ldM_27 hx hb hK hP (x := ((F114 27) i114)) (vp_in_nI kb_4 (ltb rfl)) (nI_clamp (Nat.lt_trans kb_4 (ltb rfl))) rfl dX12_reads_141 ?_
                    have kb_5 : ((180 * k0) + i114) < 1980 := by (first | omega | (have zz0 := Hid.u hi_c36; have zz1 := Hid.u hi_cn; have zz2 := Hid.u hi_cn3; have zz3 := Hid.u hq_c36; have zz4 := Hid.u hq_cn3; omega))
                    refine stM_32 hx hb hK hP hD hS (Fn2 := (va_up F114 32 (upd (F114 32) ((180 * k0) + i114) ((F114 27) i114)))) (vp_in_nI kb_5 (ltb rfl)) (nI_clamp (Nat.lt_trans kb_5 (ltb rfl))) rfl dX12_reads_142 (fun H locs hP hD hS => ?_)
                    refine lv_iinc (v := (nI (i114 + 1))) (lv' := [(4, .int (nI (i114 + 1))), (3, .int x36_3), (0, .ref (g 100)), (1, .int (nI k0)), (2, .int (nI l0))]) hx hb dX12_reads_143 hl (k := 0) rfl (nI_1 _) (ltb rfl) rfl (fun ls hl => ?_)
                    refine lv_goto (tgt := 114) hx hb dX12_reads_146 rfl ?_
                    exact ih114 (i114 + 1) (va_up F114 32 (upd (F114 32) ((180 * k0) + i114) ((F114 27) i114))) _ _ (by (first | omega | (have zz0 := Hid.u hi_c36; have zz1 := Hid.u hi_cn; have zz2 := Hid.u hi_cn3; have zz3 := Hid.u hq_c36; have zz4 := Hid.u hq_cn3; omega))) ⟨(by (first | omega | (have zz0 := Hid.u hi_c36; have zz1 := Hid.u hi_cn; have zz2 := Hid.u hi_cn3; have zz3 := Hid.u hq_c36; have zz4 := Hid.u hq_cn3; omega))), (Fr.mo (Fr.f 32 hfr114) (sbl rfl) (sbl rfl) (sbl rfl)), (fun j hj => if e : j = i114 then by subst e; exact (upd_self _ _ _).trans (congrFun (hx114_2 27 (by decide)) j) else (upd_nq (by (first | omega | (have zz0 := Hid.u hi_c36; have zz1 := Hid.u hi_cn; have zz2 := Hid.u hi_cn3; have zz3 := Hid.u hq_c36; have zz4 := Hid.u hq_cn3; omega)))).trans (hx114_0 j (by (first | omega | (have zz0 := Hid.u hi_c36; have zz1 := Hid.u hi_cn; have zz2 := Hid.u hi_cn3; have zz3 := Hid.u hq_c36; have zz4 := Hid.u hq_cn3; omega))))), (fun j hj => (upd_nq (by (first | omega | (have zz0 := Hid.u hi_c36; have zz1 := Hid.u hi_cn; have zz2 := Hid.u hi_cn3; have zz3 := Hid.u hq_c36; have zz4 := Hid.u hq_cn3; omega)))).trans (hx114_1 j hj)), (fun k hk => (va_up_ne _ _ hk).trans (hx114_2 k hk))⟩ hP hD hS ls (lv_sub hl [0, 1, 2, 3, 4] rfl)
              exact lp_114 _ 0 (va_up F36 33 (upd (F36 33) k0 (nI (c36 25)))) _ _ (Nat.lt_succ_self _) ⟨(by (first | omega | (have zz0 := Hid.u hi_c36; have zz1 := Hid.u hi_cn; have zz2 := Hid.u hi_cn3; have zz3 := Hid.u hq_c36; have zz4 := Hid.u hq_cn3; omega))), (Fr.mo (Fr.f 33 hfr36) (sbl rfl) (sbl rfl) (sbl rfl)), (fun j hj => absurd hj (Nat.not_lt_zero j)), (fun j _ => congrFun g32_ j), (fun k _ => rfl)⟩ hP hD hS ls (lv_sub hl [0, 1, 2, 3, 4] rfl)
            ·
              have tc_7 : (x36_3.toInt : Int) = 0 := congrArg Int32.toInt c_7
              refine lv_aload_n hx hb dX12_reads_96 rfl (lvA1 hl) ?_
              refine gM_243 S hK hP (v := .int (I36 21)) rfl dX12_reads_97 ?_
              exact W.iret (v := (I36 21)) hx hb hr (fun t ht hW => ⟨⟨(I36 21), ((va_up c36 18 0), I36, F36), rfl, ⟨(Fr.mo (Fr.c 18 hfr36) (sbl rfl) (sbl rfl) (sbl rfl)), (IM.fr (In := I36) hI36 (Fr.c 18 Fr.rf) (by decide) (by decide)), (by show (va_up c36 18 0) 18 ≤ 200; show 0 ≤ 200; (first | omega | (have zz0 := Hid.u hi_c36; have zz1 := Hid.u hi_cn; have zz2 := Hid.u hi_cn3; have zz3 := Hid.u hq_c36; have zz4 := Hid.u hq_cn3; omega)))⟩, by rw [ht]; exact hP, hD⟩, hS.F ht⟩) hS.2.2 dX12_reads_100
          ·
            have tc_6 : ((nI (c36 19)).toInt : Int) < (nI (c36 20)).toInt := Int32.lt_iff_toInt_lt.mp (Int32.not_le.mp c_6)
            refine lv_aload_n hx hb dX12_reads_51 rfl (lvA1 hl) ?_
            refine lv_bipush (v := 59) hx hb dX12_reads_52 kbc_59 ?_
            have hFc := free_all hD hS hA
            refine va_calli (runV_a (As := [.int 59]) (rest := []) S (q_takes l D cI cB cZ g c36 I36 F36 59 H.size hI36 (by (first | omega | (have zz0 := Hid.u hi_c36; have zz1 := Hid.u hi_cn; have zz2 := Hid.u hi_cn3; have zz3 := Hid.u hq_c36; have zz4 := Hid.u hq_cn3; omega))) (by (first | omega | (have zz0 := Hid.u hi_c36; have zz1 := Hid.u hi_cn; have zz2 := Hid.u hi_cn3; have zz3 := Hid.u hq_c36; have zz4 := Hid.u hq_cn3; omega))) (by decide)) kV_RX12_322 hK hP hD 0 rfl rfl rfl ⟨Nat.le_of_ble_eq_true rfl, Nat.le_of_ble_eq_true rfl⟩ ⟨Nat.le_of_ble_eq_true rfl, Nat.le_of_ble_eq_true rfl⟩ rfl hl.1 rfl (Nat.le_of_ble_eq_true rfl) dX12_reads_54) hS (fun q _ h => hFc q h) hFc (fun r_23 u t H1 locs ht hvm wh_24 hB hz1 hk1 hS => ?_)
            obtain ⟨cn24, In24, Fn24⟩ := u
            obtain ⟨hP1, hD1⟩ := hB
            rw [ht] at hP1
            have vh_24 : (fun r c2 I2 F2 => (∀ k : Nat, k ∉ [21] → I2 k = I36 k) ∧ ((r = 0 ∧ (True) ∧ c36 = c2 ∧ F36 = F2) ∨ (r = 1 ∧ ((c36 19) < (c36 20)) ∧ (va_up c36 19 ((c36 19) + 1)) = c2 ∧ F36 = F2))) r_23 cn24 In24 Fn24 := wh_24
            obtain ⟨hI24_, vh_24⟩ := vh_24
            rcases vh_24 with ⟨rfl, h_24, rfl, rfl⟩ | ⟨rfl, h_24, rfl, rfl⟩
            ·
              have hf24 : Fr [18, 19, 20, 23, 24, 25, 26] [21, 22] [27, 28, 29, 30, 31, 32, 33, 34, 35, 36] cn In Fn c36 In24 F36 := Fr.mo (Fr.tr hfr36 (show Fr [] [21] [] c36 I36 F36 c36 In24 F36 from ⟨fun _ _ => rfl, hI24_, fun _ _ => rfl⟩)) (sbl rfl) (sbl rfl) (sbl rfl)
              have hP : va_P D vwCl (wM cI cB cZ g c36 In24 F36) H1 := hP1
              have hD : va_D A (wM cI cB cZ g c36 In24 F36) := hD1.weaken (fun _ _ _ h => hFc _ h)
              generalize H1 = H at hP hS ⊢
              refine lv_if_eq (tgt := 82) hx hb dX12_reads_57 rfl (fun _ => ?_) (fun h => absurd h cq_eq_0_0)
              refine lv_iconst (v := 0) hx hb dX12_reads_82 kic_0 ?_
              refine lv_istore_n (lv' := [(3, .int 0), (0, .ref (g 100)), (1, .int (nI k0)), (2, .int (nI l0))]) hx hb dX12_reads_83 rfl hl (ltb rfl) rfl (fun ls hl => ?_)
              refine lv_goto (tgt := 36) hx hb dX12_reads_84 rfl ?_
              exact ih36 0 (g36 - 1) c36 In24 F36 _ _ (by (first | omega | (have zz0 := Hid.u hi_c36; have zz1 := Hid.u hi_cn; have zz2 := Hid.u hi_cn3; have zz3 := Hid.u hq_c36; have zz4 := Hid.u hq_cn3; omega))) ⟨(Fr.mo hf24 (sbl rfl) (sbl rfl) (sbl rfl)), hI36, (Or.inl rfl), (by (first | omega | (have zz0 := Hid.u hi_c36; have zz1 := Hid.u hi_cn; have zz2 := Hid.u hi_cn3; have zz3 := Hid.u hq_c36; have zz4 := Hid.u hq_cn3; omega))), hx36_2⟩ hP hD hS ls (lv_sub hl [0, 1, 2, 3] rfl)
            ·
              have hf24 : Fr [18, 19, 20, 23, 24, 25, 26] [21, 22] [27, 28, 29, 30, 31, 32, 33, 34, 35, 36] cn In Fn c36 In24 F36 := Fr.mo (Fr.tr hfr36 (show Fr [] [21] [] c36 I36 F36 c36 In24 F36 from ⟨fun _ _ => rfl, hI24_, fun _ _ => rfl⟩)) (sbl rfl) (sbl rfl) (sbl rfl)
              have hP : va_P D vwCl (wM cI cB cZ g (va_up c36 19 ((c36 19) + 1)) In24 F36) H1 := hP1
              have hD : va_D A (wM cI cB cZ g (va_up c36 19 ((c36 19) + 1)) In24 F36) := hD1.weaken (fun _ _ _ h => hFc _ h)
              generalize H1 = H at hP hS ⊢
              refine lv_if_eq (tgt := 82) hx hb dX12_reads_57 rfl (fun h => absurd h cq_eq_1_0) (fun _ => ?_)
              refine lv_aload_n hx hb dX12_reads_60 rfl (lvA1 hl) ?_
              refine lv_iload_n hx hb dX12_reads_61 rfl (lvA2 hl) ?_
              refine lv_bipush (v := 10) hx hb dX12_reads_62 kbc_10 ?_
              refine lv_icmp_ne (tgt := 71) hx hb dX12_reads_64 rfl (fun c_25 => ?_) (fun c_25 => ?_)
              ·
                have tc_25 : ((nI k0).toInt : Int) ≠ 10 := fun q => c_25 (Int32.toInt_inj.mp q)
                refine lv_iconst (v := 0) hx hb (oc_3 71 (aq_23 shX12_reads_48)) kic_0 ?_
                have hFc := free_all hD hS hA
                refine va_calli (runV_a (As := [.int 0]) (rest := []) S (q_readsClause l D cI cB cZ g (va_up c36 19 ((c36 19) + 1)) In24 F36 0 H.size (IM.fr (In := In24) hI36 (Fr.c 19 Fr.rf) (by decide) (by decide)) (show c36 19 + 1 ≤ c36 20 by (first | omega | (have zz0 := Hid.u hi_c36; have zz1 := Hid.u hi_cn; have zz2 := Hid.u hi_cn3; have zz3 := Hid.u hq_c36; have zz4 := Hid.u hq_cn3; omega))) (show c36 20 ≤ 160 by (first | omega | (have zz0 := Hid.u hi_c36; have zz1 := Hid.u hi_cn; have zz2 := Hid.u hi_cn3; have zz3 := Hid.u hq_c36; have zz4 := Hid.u hq_cn3; omega))) (show c36 23 ≤ c36 19 + 1 by (first | omega | (have zz0 := Hid.u hi_c36; have zz1 := Hid.u hi_cn; have zz2 := Hid.u hi_cn3; have zz3 := Hid.u hq_c36; have zz4 := Hid.u hq_cn3; omega))) hr4 hr5) kV_RX12_318 hK hP hD 0 rfl rfl rfl ⟨Nat.le_of_ble_eq_true rfl, Nat.le_of_ble_eq_true rfl⟩ ⟨Nat.le_of_ble_eq_true rfl, Nat.le_of_ble_eq_true rfl⟩ rfl hl.1 rfl (Nat.le_of_ble_eq_true rfl) dX12_reads_72) hS (fun q _ h => hFc q h) hFc (fun r_26 u t H1 locs ht hvm wh_27 hB hz1 hk1 hS => ?_)
                obtain ⟨cn27, In27, Fn27⟩ := u
                obtain ⟨hP1, hD1⟩ := hB
                rw [ht] at hP1
                have hP : va_P D vwCl (wM cI cB cZ g cn27 In27 Fn27) H1 := hP1
                have hD : va_D A (wM cI cB cZ g cn27 In27 Fn27) := hD1.weaken (fun _ _ _ h => hFc _ h)
                generalize H1 = H at hP hS ⊢
                have vh_27 : (fun r c2 I2 F2 => Fr [19, 23, 24, 25, 26] [21, 22] [27, 28, 29, 30, 31] (va_up c36 19 ((c36 19) + 1)) In24 F36 c2 I2 F2 ∧ IM c2 F2 ∧ (r = 0 ∨ (r = 1 ∧ ((c36 19) + 1) < c2 19 ∧ c2 19 ≤ (c36 20) ∧ c2 23 ≤ c2 19 ∧ c2 25 ≤ 12 ∧ ALL (F2 27) (c2 23) (c2 25) (F2 29) (F2 30) (F2 31)))) r_26 cn27 In27 Fn27 := wh_27
                obtain ⟨hfc27, hIn27, h_27⟩ := vh_27
                have hf27 : Fr [18, 19, 20, 23, 24, 25, 26] [21, 22] [27, 28, 29, 30, 31, 32, 33, 34, 35, 36] cn In Fn cn27 In27 Fn27 := Fr.mo (Fr.tr (Fr.c 19 hf24) hfc27) (sbl rfl) (sbl rfl) (sbl rfl)
                have hi_cn27 : Hid (CB cn27) := hIn27.b
                have hq_cn27 := Hid.i (frq_18_19_20_23_24_25_26_0_1_2_46_57_58_62_63_75_83_44 hf27)
                have : cn27 20 = (c36 20) := hfc27.1 20 (nml rfl)
                rcases h_27 with rfl | ⟨rfl, kh_27⟩
                ·
                  refine lv_if_eq (tgt := 82) hx hb dX12_reads_75 rfl (fun _ => ?_) (fun h => absurd h cq_eq_0_0)
                  refine lv_iconst (v := 0) hx hb dX12_reads_82 kic_0 ?_
                  refine lv_istore_n (lv' := [(3, .int 0), (0, .ref (g 100)), (1, .int (nI k0)), (2, .int (nI l0))]) hx hb dX12_reads_83 rfl hl (ltb rfl) rfl (fun ls hl => ?_)
                  refine lv_goto (tgt := 36) hx hb dX12_reads_84 rfl ?_
                  exact ih36 0 (g36 - 1) cn27 In27 Fn27 _ _ (by (first | omega | (have zz0 := Hid.u hi_c36; have zz1 := Hid.u hi_cn; have zz2 := Hid.u hi_cn27; have zz3 := Hid.u hi_cn3; have zz4 := Hid.u hq_c36; have zz5 := Hid.u hq_cn27; have zz6 := Hid.u hq_cn3; omega))) ⟨(Fr.mo hf27 (sbl rfl) (sbl rfl) (sbl rfl)), hIn27, (Or.inl rfl), (by (first | omega | (have zz0 := Hid.u hi_c36; have zz1 := Hid.u hi_cn; have zz2 := Hid.u hi_cn27; have zz3 := Hid.u hi_cn3; have zz4 := Hid.u hq_c36; have zz5 := Hid.u hq_cn27; have zz6 := Hid.u hq_cn3; omega))), (fun k h1 h2 => (hfc27.2.2 k (nin31 h1)).trans (hx36_2 k h1 h2))⟩ hP hD hS ls (lv_sub hl [0, 1, 2, 3] rfl)
                ·
                  obtain ⟨kh_27a, kh_27b, kh_27c, kh_27d, kh_27e⟩ := kh_27
                  refine lv_if_eq (tgt := 82) hx hb dX12_reads_75 rfl (fun h => absurd h cq_eq_1_0) (fun _ => ?_)
                  refine lv_iconst (v := 1) hx hb dX12_reads_78 kic_1 ?_
                  refine lv_goto (tgt := 83) hx hb dX12_reads_79 rfl ?_
                  refine lv_istore_n (lv' := [(3, .int 1), (0, .ref (g 100)), (1, .int (nI k0)), (2, .int (nI l0))]) hx hb dX12_reads_83 rfl hl (ltb rfl) rfl (fun ls hl => ?_)
                  refine lv_goto (tgt := 36) hx hb dX12_reads_84 rfl ?_
                  exact ih36 1 (g36 - 1) cn27 In27 Fn27 _ _ (by (first | omega | (have zz0 := Hid.u hi_c36; have zz1 := Hid.u hi_cn; have zz2 := Hid.u hi_cn27; have zz3 := Hid.u hi_cn3; have zz4 := Hid.u hq_c36; have zz5 := Hid.u hq_cn27; have zz6 := Hid.u hq_cn3; omega))) ⟨(Fr.mo hf27 (sbl rfl) (sbl rfl) (sbl rfl)), hIn27, (Or.inr ⟨rfl, by (first | omega | (have zz0 := Hid.u hi_c36; have zz1 := Hid.u hi_cn; have zz2 := Hid.u hi_cn27; have zz3 := Hid.u hi_cn3; have zz4 := Hid.u hq_c36; have zz5 := Hid.u hq_cn27; have zz6 := Hid.u hq_cn3; omega)), kh_27c, kh_27d, kh_27e, by (first | omega | (have zz0 := Hid.u hi_c36; have zz1 := Hid.u hi_cn; have zz2 := Hid.u hi_cn27; have zz3 := Hid.u hi_cn3; have zz4 := Hid.u hq_c36; have zz5 := Hid.u hq_cn27; have zz6 := Hid.u hq_cn3; omega))⟩), (by (first | omega | (have zz0 := Hid.u hi_c36; have zz1 := Hid.u hi_cn; have zz2 := Hid.u hi_cn27; have zz3 := Hid.u hi_cn3; have zz4 := Hid.u hq_c36; have zz5 := Hid.u hq_cn27; have zz6 := Hid.u hq_cn3; omega))), (fun k h1 h2 => (hfc27.2.2 k (nin31 h1)).trans (hx36_2 k h1 h2))⟩ hP hD hS ls (lv_sub hl [0, 1, 2, 3] rfl)
              ·
                have tc_25 : ((nI k0).toInt : Int) = 10 := congrArg Int32.toInt c_25
                refine lv_iconst (v := 1) hx hb dX12_reads_67 kic_1 ?_
                refine lv_goto (tgt := 72) hx hb dX12_reads_68 rfl ?_
                have hFc := free_all hD hS hA
                refine va_calli (runV_a (As := [.int 1]) (rest := []) S (q_readsClause l D cI cB cZ g (va_up c36 19 ((c36 19) + 1)) In24 F36 1 H.size (IM.fr (In := In24) hI36 (Fr.c 19 Fr.rf) (by decide) (by decide)) (show c36 19 + 1 ≤ c36 20 by (first | omega | (have zz0 := Hid.u hi_c36; have zz1 := Hid.u hi_cn; have zz2 := Hid.u hi_cn3; have zz3 := Hid.u hq_c36; have zz4 := Hid.u hq_cn3; omega))) (show c36 20 ≤ 160 by (first | omega | (have zz0 := Hid.u hi_c36; have zz1 := Hid.u hi_cn; have zz2 := Hid.u hi_cn3; have zz3 := Hid.u hq_c36; have zz4 := Hid.u hq_cn3; omega))) (show c36 23 ≤ c36 19 + 1 by (first | omega | (have zz0 := Hid.u hi_c36; have zz1 := Hid.u hi_cn; have zz2 := Hid.u hi_cn3; have zz3 := Hid.u hq_c36; have zz4 := Hid.u hq_cn3; omega))) hr4 hr5) kV_RX12_318 hK hP hD 0 rfl rfl rfl ⟨Nat.le_of_ble_eq_true rfl, Nat.le_of_ble_eq_true rfl⟩ ⟨Nat.le_of_ble_eq_true rfl, Nat.le_of_ble_eq_true rfl⟩ rfl hl.1 rfl (Nat.le_of_ble_eq_true rfl) dX12_reads_72) hS (fun q _ h => hFc q h) hFc (fun r_28 u t H1 locs ht hvm wh_29 hB hz1 hk1 hS => ?_)
                obtain ⟨cn29, In29, Fn29⟩ := u
                obtain ⟨hP1, hD1⟩ := hB
                rw [ht] at hP1
                have hP : va_P D vwCl (wM cI cB cZ g cn29 In29 Fn29) H1 := hP1
                have hD : va_D A (wM cI cB cZ g cn29 In29 Fn29) := hD1.weaken (fun _ _ _ h => hFc _ h)
                generalize H1 = H at hP hS ⊢
                have vh_29 : (fun r c2 I2 F2 => Fr [19, 23, 24, 25, 26] [21, 22] [27, 28, 29, 30, 31] (va_up c36 19 ((c36 19) + 1)) In24 F36 c2 I2 F2 ∧ IM c2 F2 ∧ (r = 0 ∨ (r = 1 ∧ ((c36 19) + 1) < c2 19 ∧ c2 19 ≤ (c36 20) ∧ c2 23 ≤ c2 19 ∧ c2 25 ≤ 12 ∧ ALL (F2 27) (c2 23) (c2 25) (F2 29) (F2 30) (F2 31)))) r_28 cn29 In29 Fn29 := wh_29
                obtain ⟨hfc29, hIn29, h_29⟩ := vh_29
                have hf29 : Fr [18, 19, 20, 23, 24, 25, 26] [21, 22] [27, 28, 29, 30, 31, 32, 33, 34, 35, 36] cn In Fn cn29 In29 Fn29 := Fr.mo (Fr.tr (Fr.c 19 hf24) hfc29) (sbl rfl) (sbl rfl) (sbl rfl)
                have hi_cn29 : Hid (CB cn29) := hIn29.b
                have hq_cn29 := Hid.i (frq_18_19_20_23_24_25_26_0_1_2_46_57_58_62_63_75_83_44 hf29)
                have : cn29 20 = (c36 20) := hfc29.1 20 (nml rfl)
                rcases h_29 with rfl | ⟨rfl, kh_29⟩
                ·
                  refine lv_if_eq (tgt := 82) hx hb dX12_reads_75 rfl (fun _ => ?_) (fun h => absurd h cq_eq_0_0)
                  refine lv_iconst (v := 0) hx hb dX12_reads_82 kic_0 ?_
                  refine lv_istore_n (lv' := [(3, .int 0), (0, .ref (g 100)), (1, .int (nI k0)), (2, .int (nI l0))]) hx hb dX12_reads_83 rfl hl (ltb rfl) rfl (fun ls hl => ?_)
                  refine lv_goto (tgt := 36) hx hb dX12_reads_84 rfl ?_
                  exact ih36 0 (g36 - 1) cn29 In29 Fn29 _ _ (by (first | omega | (have zz0 := Hid.u hi_c36; have zz1 := Hid.u hi_cn; have zz2 := Hid.u hi_cn29; have zz3 := Hid.u hi_cn3; have zz4 := Hid.u hq_c36; have zz5 := Hid.u hq_cn29; have zz6 := Hid.u hq_cn3; omega))) ⟨(Fr.mo hf29 (sbl rfl) (sbl rfl) (sbl rfl)), hIn29, (Or.inl rfl), (by (first | omega | (have zz0 := Hid.u hi_c36; have zz1 := Hid.u hi_cn; have zz2 := Hid.u hi_cn29; have zz3 := Hid.u hi_cn3; have zz4 := Hid.u hq_c36; have zz5 := Hid.u hq_cn29; have zz6 := Hid.u hq_cn3; omega))), (fun k h1 h2 => (hfc29.2.2 k (nin31 h1)).trans (hx36_2 k h1 h2))⟩ hP hD hS ls (lv_sub hl [0, 1, 2, 3] rfl)
                ·
                  obtain ⟨kh_29a, kh_29b, kh_29c, kh_29d, kh_29e⟩ := kh_29
                  refine lv_if_eq (tgt := 82) hx hb dX12_reads_75 rfl (fun h => absurd h cq_eq_1_0) (fun _ => ?_)
                  refine lv_iconst (v := 1) hx hb dX12_reads_78 kic_1 ?_
                  refine lv_goto (tgt := 83) hx hb dX12_reads_79 rfl ?_
                  refine lv_istore_n (lv' := [(3, .int 1), (0, .ref (g 100)), (1, .int (nI k0)), (2, .int (nI l0))]) hx hb dX12_reads_83 rfl hl (ltb rfl) rfl (fun ls hl => ?_)
                  refine lv_goto (tgt := 36) hx hb dX12_reads_84 rfl ?_
                  exact ih36 1 (g36 - 1) cn29 In29 Fn29 _ _ (by (first | omega | (have zz0 := Hid.u hi_c36; have zz1 := Hid.u hi_cn; have zz2 := Hid.u hi_cn29; have zz3 := Hid.u hi_cn3; have zz4 := Hid.u hq_c36; have zz5 := Hid.u hq_cn29; have zz6 := Hid.u hq_cn3; omega))) ⟨(Fr.mo hf29 (sbl rfl) (sbl rfl) (sbl rfl)), hIn29, (Or.inr ⟨rfl, by (first | omega | (have zz0 := Hid.u hi_c36; have zz1 := Hid.u hi_cn; have zz2 := Hid.u hi_cn29; have zz3 := Hid.u hi_cn3; have zz4 := Hid.u hq_c36; have zz5 := Hid.u hq_cn29; have zz6 := Hid.u hq_cn3; omega)), kh_29c, kh_29d, kh_29e, by (first | omega | (have zz0 := Hid.u hi_c36; have zz1 := Hid.u hi_cn; have zz2 := Hid.u hi_cn29; have zz3 := Hid.u hi_cn3; have zz4 := Hid.u hq_c36; have zz5 := Hid.u hq_cn29; have zz6 := Hid.u hq_cn3; omega))⟩), (by (first | omega | (have zz0 := Hid.u hi_c36; have zz1 := Hid.u hi_cn; have zz2 := Hid.u hi_cn29; have zz3 := Hid.u hi_cn3; have zz4 := Hid.u hq_c36; have zz5 := Hid.u hq_cn29; have zz6 := Hid.u hq_cn3; omega))), (fun k h1 h2 => (hfc29.2.2 k (nin31 h1)).trans (hx36_2 k h1 h2))⟩ hP hD hS ls (lv_sub hl [0, 1, 2, 3] rfl)
    exact lp_36 _ r_2 (l0 + 1) cn3 In3 Fn3 _ _ (Nat.lt_succ_self _) ⟨(Fr.mo hf3 (sbl rfl) (sbl rfl) (sbl rfl)), hIn3, (h_3.elim Or.inl (fun q => Or.inr ⟨q.1, q.2.2.1, q.2.2.2.1, q.2.2.2.2.1, q.2.2.2.2.2, by (first | omega | (have zz0 := Hid.u hi_cn; have zz1 := Hid.u hi_cn3; have zz2 := Hid.u hq_cn3; omega))⟩)), (by (first | omega | (have zz0 := Hid.u hi_cn; have zz1 := Hid.u hi_cn3; have zz2 := Hid.u hq_cn3; omega))), (fun k h1 h2 => hfc3.2.2 k (nin31 h1))⟩ hP hD hS ls (lv_sub hl [0, 1, 2, 3] rfl)
  ·
    have tc_1 : ((nI k0).toInt : Int) = 10 := congrArg Int32.toInt c_1
    refine lv_iconst (v := 1) hx hb (oc_4 27 (aq_3 shX12_reads_24)) kic_1 ?_
    refine lv_goto (tgt := 32) hx hb (oc_167 28 (aq_4 shX12_reads_24) sgw_0_4) rfl ?_
    have hFc := free_all hD hS hA
    refine va_calli (runV_a (As := [.int 1]) (rest := []) S (q_readsClause l D cI cB cZ g (va_up (va_up (va_up (va_up cn 19 0) 20 l0) 23 0) 25 0) In Fn 1 H.size (IM.fr (In := In) hI (Fr.c 25 (Fr.c 23 (Fr.c 20 (Fr.c 19 Fr.rf)))) (by decide) (by decide)) (show 0 ≤ l0 by (first | omega | (have zz0 := Hid.u hi_cn; omega))) (show l0 ≤ 160 by (first | omega | (have zz0 := Hid.u hi_cn; omega))) (show 0 ≤ 0 by (first | omega | (have zz0 := Hid.u hi_cn; omega))) (show 0 ≤ 12 by (first | omega | (have zz0 := Hid.u hi_cn; omega))) (fun j hj => absurd (show j < 0 from hj) (Nat.not_lt_zero j))) kV_RX12_318 hK hP hD 0 rfl rfl rfl ⟨Nat.le_of_ble_eq_true rfl, Nat.le_of_ble_eq_true rfl⟩ ⟨Nat.le_of_ble_eq_true rfl, Nat.le_of_ble_eq_true rfl⟩ rfl hl.1 rfl (Nat.le_of_ble_eq_true rfl) dX12_reads_32) hS (fun q _ h => hFc q h) hFc (fun r_30 u t H1 locs ht hvm wh_31 hB hz1 hk1 hS => ?_)
    obtain ⟨cn31, In31, Fn31⟩ := u
    obtain ⟨hP1, hD1⟩ := hB
    rw [ht] at hP1
    have hP : va_P D vwCl (wM cI cB cZ g cn31 In31 Fn31) H1 := hP1
    have hD : va_D A (wM cI cB cZ g cn31 In31 Fn31) := hD1.weaken (fun _ _ _ h => hFc _ h)
    generalize H1 = H at hP hS ⊢
    have vh_31 : (fun r c2 I2 F2 => Fr [19, 23, 24, 25, 26] [21, 22] [27, 28, 29, 30, 31] (va_up (va_up (va_up (va_up cn 19 0) 20 l0) 23 0) 25 0) In Fn c2 I2 F2 ∧ IM c2 F2 ∧ (r = 0 ∨ (r = 1 ∧ 0 < c2 19 ∧ c2 19 ≤ l0 ∧ c2 23 ≤ c2 19 ∧ c2 25 ≤ 12 ∧ ALL (F2 27) (c2 23) (c2 25) (F2 29) (F2 30) (F2 31)))) r_30 cn31 In31 Fn31 := wh_31
    obtain ⟨hfc31, hIn31, h_31⟩ := vh_31
    have hf31 : Fr [18, 19, 20, 23, 24, 25, 26] [21, 22] [27, 28, 29, 30, 31, 32, 33, 34, 35, 36] cn In Fn cn31 In31 Fn31 := Fr.mo (Fr.tr (Fr.c 25 (Fr.c 23 (Fr.c 20 (Fr.c 19 (Fr.rf (cn := cn) (In := In) (Fn := Fn)))))) hfc31) (sbl rfl) (sbl rfl) (sbl rfl)
    have hi_cn31 : Hid (CB cn31) := hIn31.b
    have hq_cn31 := Hid.i (frq_18_19_20_23_24_25_26_0_1_2_46_57_58_62_63_75_83_44 hf31)
    have : cn31 20 = l0 := hfc31.1 20 (nml rfl)
    refine lv_istore_n (lv' := [(3, .int r_30), (0, .ref (g 100)), (1, .int (nI k0)), (2, .int (nI l0))]) hx hb dX12_reads_35 rfl hl (ltb rfl) rfl (fun ls hl => ?_)
    have lp_36 : ∀ (n : Nat) (x36_3 : Int32) (g36 : Nat) (c36 : Nat → Nat) (I36 : Nat → Int32) (F36 : Nat → Nat → Int32) (H : Heap) (locs : List Loc) , g36 < n → (Fr [18, 19, 20, 23, 24, 25, 26] [21, 22] [27, 28, 29, 30, 31, 32, 33, 34, 35, 36] cn In Fn c36 I36 F36 ∧ IM c36 F36 ∧ (x36_3 = 0 ∨ (x36_3 = 1 ∧ c36 19 ≤ l0 ∧ c36 23 ≤ c36 19 ∧ c36 25 ≤ 12 ∧ ALL (F36 27) (c36 23) (c36 25) (F36 29) (F36 30) (F36 31) ∧ l0 + 1 ≤ c36 19 + g36)) ∧ (c36 20 = l0) ∧ (∀ k : Nat, 32 ≤ k → k ≤ 36 → F36 k = Fn k)) → va_P D vwCl (wM cI cB cZ g c36 I36 F36) H → va_D A (wM cI cB cZ g c36 I36 F36) → va_S A s.heap H locs → ∀ ls : Array Slot, lv_has ls 6 [(3, .int x36_3), (0, .ref (g 100)), (1, .int (nI k0)), (2, .int (nI l0))] → W p l e (RM 8 0 0) s m ([.ref (g 100), .int (nI k0), .int (nI l0)]).toArray below meth c H locs 0 0 (MQ below (va_Qi (fun (r : Int32) (u : (Nat → Nat) × (Nat → Int32) × (Nat → Nat → Int32)) => (fun r c2 I2 F2 => Fr [18, 19, 20, 23, 24, 25, 26] [21, 22] [27, 28, 29, 30, 31, 32, 33, 34, 35, 36] cn In Fn c2 I2 F2 ∧ IM c2 F2 ∧ (c2 18 ≤ 200)) r u.1 u.2.1 u.2.2) (fun (u : (Nat → Nat) × (Nat → Int32) × (Nat → Nat → Int32)) (t : State) => va_P D vwCl (wM cI cB cZ g u.1 u.2.1 u.2.2) t.heap ∧ va_D A (wM cI cB cZ g u.1 u.2.1 u.2.2)) A) ([.ref (g 100), .int (nI k0), .int (nI l0)]).toArray s 0 0 A) (F0 m 36 ls []) := by
      intro n36
      induction n36 with
      | zero => intros; (first | omega | (have zz0 := Hid.u hi_cn; have zz1 := Hid.u hi_cn31; have zz2 := Hid.u hq_cn31; omega))
      | succ n36 ih36 =>
        intro x36_3 g36 c36 I36 F36 H locs hmu36 hinv36 hP hD hS ls hl
        obtain ⟨hfr36, hI36, hx36_0, hx36_1, hx36_2⟩ := hinv36
        have hi_c36 : Hid (CB c36) := hI36.b
        have hq_c36 := Hid.i (frq_18_19_20_23_24_25_26_0_1_2_46_57_58_62_63_75_83_44 hfr36)
        refine lv_iload_n hx hb dX12_reads_36 rfl (lvA0 hl) ?_
        refine lv_if_eq (tgt := 87) hx hb dX12_reads_37 rfl (fun c_32 => ?_) (fun c_32 => ?_)
        ·
          have tc_32 : (x36_3.toInt : Int) = 0 := congrArg Int32.toInt c_32
          refine lv_aload_n hx hb dX12_reads_87 rfl (lvA1 hl) ?_
          refine lv_iconst (v := 0) hx hb dX12_reads_88 kic_0 ?_
          refine pM_226 S hK hP hD hS (a := 0) (cn2 := (va_up c36 18 0)) rfl rfl dX12_reads_89 (fun H locs hP hD hS => ?_)
          refine lv_iload_n hx hb dX12_reads_92 rfl (lvA0 hl) ?_
          refine lv_if_ne (tgt := 101) hx hb dX12_reads_93 rfl (fun c_33 => False.elim (by have tc_33 : (x36_3.toInt : Int) ≠ 0 := fun q => c_33 (Int32.toInt_inj.mp q); (first | omega | (have zz0 := Hid.u hi_c36; have zz1 := Hid.u hi_cn; have zz2 := Hid.u hi_cn31; have zz3 := Hid.u hq_c36; have zz4 := Hid.u hq_cn31; omega)))) (fun c_33 => ?_)
          have tc_33 : (x36_3.toInt : Int) = 0 := congrArg Int32.toInt c_33
          refine lv_aload_n hx hb dX12_reads_96 rfl (lvA1 hl) ?_
          refine gM_243 S hK hP (v := .int (I36 21)) rfl dX12_reads_97 ?_
          exact W.iret (v := (I36 21)) hx hb hr (fun t ht hW => ⟨⟨(I36 21), ((va_up c36 18 0), I36, F36), rfl, ⟨(Fr.mo (Fr.c 18 hfr36) (sbl rfl) (sbl rfl) (sbl rfl)), (IM.fr (In := I36) hI36 (Fr.c 18 Fr.rf) (by decide) (by decide)), (by show (va_up c36 18 0) 18 ≤ 200; show 0 ≤ 200; (first | omega | (have zz0 := Hid.u hi_c36; have zz1 := Hid.u hi_cn; have zz2 := Hid.u hi_cn31; have zz3 := Hid.u hq_c36; have zz4 := Hid.u hq_cn31; omega)))⟩, by rw [ht]; exact hP, hD⟩, hS.F ht⟩) hS.2.2 dX12_reads_100
        ·
          have tc_32 : (x36_3.toInt : Int) ≠ 0 := fun q => c_32 (Int32.toInt_inj.mp q)
          obtain ⟨hr1, hr2, hr3, hr4, hr5, hr6⟩ := hx36_0.resolve_left (by assumption)
          refine lv_aload_n hx hb dX12_reads_40 rfl (lvA1 hl) ?_
          refine gM_233 S hK hP (v := .int (nI (c36 19))) rfl dX12_reads_41 ?_
          refine lv_aload_n hx hb dX12_reads_44 rfl (lvA1 hl) ?_
          refine gM_236 S hK hP (v := .int (nI (c36 20))) rfl dX12_reads_45 ?_
          have : (nI (c36 19)).toInt = (((c36 19) : Nat) : Int) := nI_toInt (by (first | omega | (have zz0 := Hid.u hi_c36; have zz1 := Hid.u hi_cn; have zz2 := Hid.u hi_cn31; have zz3 := Hid.u hq_c36; have zz4 := Hid.u hq_cn31; omega)))
          have : (nI (c36 20)).toInt = (((c36 20) : Nat) : Int) := nI_toInt (by (first | omega | (have zz0 := Hid.u hi_c36; have zz1 := Hid.u hi_cn; have zz2 := Hid.u hi_cn31; have zz3 := Hid.u hq_c36; have zz4 := Hid.u hq_cn31; omega)))
          refine lv_icmp_ge (tgt := 87) hx hb dX12_reads_48 rfl (fun c_34 => ?_) (fun c_34 => ?_)
          ·
            have tc_34 : ((nI (c36 20)).toInt : Int) ≤ (nI (c36 19)).toInt := Int32.le_iff_toInt_le.mp c_34
            refine lv_aload_n hx hb dX12_reads_87 rfl (lvA1 hl) ?_
            refine lv_iconst (v := 0) hx hb dX12_reads_88 kic_0 ?_
            refine pM_226 S hK hP hD hS (a := 0) (cn2 := (va_up c36 18 0)) rfl rfl dX12_reads_89 (fun H locs hP hD hS => ?_)
            refine lv_iload_n hx hb dX12_reads_92 rfl (lvA0 hl) ?_
            refine lv_if_ne (tgt := 101) hx hb dX12_reads_93 rfl (fun c_35 => ?_) (fun c_35 => ?_)
            ·
              have tc_35 : (x36_3.toInt : Int) ≠ 0 := fun q => c_35 (Int32.toInt_inj.mp q)
              have g32_ : F36 32 = Fn 32 := hx36_2 32 (by decide) (by decide)
              have g33_ : F36 33 = Fn 33 := hx36_2 33 (by decide) (by decide)
              have g34_ : F36 34 = Fn 34 := hx36_2 34 (by decide) (by decide)
              have g35_ : F36 35 = Fn 35 := hx36_2 35 (by decide) (by decide)
              have g36_ : F36 36 = Fn 36 := hx36_2 36 (by decide) (by decide)
              refine lv_aload_n hx hb dX12_reads_101 rfl (lvA1 hl) ?_
              refine gM_74 S hK hP (v := .ref (g 33)) rfl dX12_reads_102 ?_
              refine lv_iload_n hx hb dX12_reads_105 rfl (lvA2 hl) ?_
              refine lv_aload_n hx hb dX12_reads_106 rfl (lvA1 hl) ?_
              refine gM_312 S hK hP (v := .int (nI (c36 25))) rfl dX12_reads_107 ?_
              have kb_6 : k0 < 11 := by (first | omega | (have zz0 := Hid.u hi_c36; have zz1 := Hid.u hi_cn; have zz2 := Hid.u hi_cn31; have zz3 := Hid.u hq_c36; have zz4 := Hid.u hq_cn31; omega))
              refine stM_33 hx hb hK hP hD hS (Fn2 := (va_up F36 33 (upd (F36 33) k0 (nI (c36 25))))) (vp_in_nI kb_6 (ltb rfl)) (nI_clamp (Nat.lt_trans kb_6 (ltb rfl))) rfl dX12_reads_110 (fun H locs hP hD hS => ?_)
              refine lv_iconst (v := 0) hx hb dX12_reads_111 kic_0 ?_
              refine lv_istore (lv' := [(4, .int 0), (3, .int x36_3), (0, .ref (g 100)), (1, .int (nI k0)), (2, .int (nI l0))]) hx hb dX12_reads_112 hl (ltb rfl) rfl (fun ls hl => ?_)
              have lp_114 : ∀ (n : Nat) (i114 : Nat) (F114 : Nat → Nat → Int32) (H : Heap) (locs : List Loc) , (c36 23) - i114 < n → (i114 ≤ (c36 23) ∧ Fr [18, 19, 20, 23, 24, 25, 26] [21, 22] [27, 28, 29, 30, 31, 32, 33, 34, 35, 36] cn In Fn c36 I36 F114 ∧ (∀ j : Nat, j < i114 → F114 32 (180 * k0 + j) = F36 27 j) ∧ (∀ j : Nat, j < 180 * k0 ∨ 180 * k0 + 180 ≤ j → F114 32 j = Fn 32 j) ∧ (∀ k : Nat, k ≠ 32 → F114 k = (va_up F36 33 (upd (F36 33) k0 (nI (c36 25)))) k)) → va_P D vwCl (wM cI cB cZ g (va_up c36 18 0) I36 F114) H → va_D A (wM cI cB cZ g (va_up c36 18 0) I36 F114) → va_S A s.heap H locs → ∀ ls : Array Slot, lv_has ls 6 [(4, .int (nI i114)), (3, .int x36_3), (0, .ref (g 100)), (1, .int (nI k0)), (2, .int (nI l0))] → W p l e (RM 8 0 0) s m ([.ref (g 100), .int (nI k0), .int (nI l0)]).toArray below meth c H locs 0 0 (MQ below (va_Qi (fun (r : Int32) (u : (Nat → Nat) × (Nat → Int32) × (Nat → Nat → Int32)) => (fun r c2 I2 F2 => Fr [18, 19, 20, 23, 24, 25, 26] [21, 22] [27, 28, 29, 30, 31, 32, 33, 34, 35, 36] cn In Fn c2 I2 F2 ∧ IM c2 F2 ∧ (c2 18 ≤ 200)) r u.1 u.2.1 u.2.2) (fun (u : (Nat → Nat) × (Nat → Int32) × (Nat → Nat → Int32)) (t : State) => va_P D vwCl (wM cI cB cZ g u.1 u.2.1 u.2.2) t.heap ∧ va_D A (wM cI cB cZ g u.1 u.2.1 u.2.2)) A) ([.ref (g 100), .int (nI k0), .int (nI l0)]).toArray s 0 0 A) (F0 m 114 ls []) := by
                intro n114
                induction n114 with
                | zero => intros; (first | omega | (have zz0 := Hid.u hi_c36; have zz1 := Hid.u hi_cn; have zz2 := Hid.u hi_cn31; have zz3 := Hid.u hq_c36; have zz4 := Hid.u hq_cn31; omega))
                | succ n114 ih114 =>
                  intro i114 F114 H locs hmu114 hinv114 hP hD hS ls hl
                  obtain ⟨hr114, hfr114, hx114_0, hx114_1, hx114_2⟩ := hinv114
                  have ti114 : (nI i114).toInt = (i114 : Int) := nI_toInt (by (first | omega | (have zz0 := Hid.u hi_c36; have zz1 := Hid.u hi_cn; have zz2 := Hid.u hi_cn31; have zz3 := Hid.u hq_c36; have zz4 := Hid.u hq_cn31; omega)))
                  have hq_c36 := Hid.i (frq_18_19_20_23_24_25_26_0_1_2_46_57_58_62_63_75_83_44 hfr114)
                  refine lv_iload hx hb dX12_reads_114 (lvA0 hl) ?_
                  refine lv_aload_n hx hb dX12_reads_116 rfl (lvA2 hl) ?_
                  refine gM_257 S hK hP (v := .int (nI (c36 23))) rfl dX12_reads_117 ?_
                  have : (nI (c36 23)).toInt = (((c36 23) : Nat) : Int) := nI_toInt (by (first | omega | (have zz0 := Hid.u hi_c36; have zz1 := Hid.u hi_cn; have zz2 := Hid.u hi_cn31; have zz3 := Hid.u hq_c36; have zz4 := Hid.u hq_cn31; omega)))
                  refine lv_icmp_ge (tgt := 149) hx hb dX12_reads_120 rfl (fun c_36 => ?_) (fun c_36 => ?_)
                  ·
                    have tc_36 : ((nI (c36 23)).toInt : Int) ≤ (nI i114).toInt := Int32.le_iff_toInt_le.mp c_36
                    refine lv_iconst (v := 0) hx hb dX12_reads_149 kic_0 ?_
                    refine lv_istore (lv' := [(4, .int 0), (3, .int x36_3), (0, .ref (g 100)), (1, .int (nI k0)), (2, .int (nI l0))]) hx hb dX12_reads_150 hl (ltb rfl) rfl (fun ls hl => ?_)
                    have lp_152 : ∀ (n : Nat) (i152 : Nat) (F152 : Nat → Nat → Int32) (H : Heap) (locs : List Loc) , (c36 25) - i152 < n → (i152 ≤ (c36 25) ∧ Fr [18, 19, 20, 23, 24, 25, 26] [21, 22] [27, 28, 29, 30, 31, 32, 33, 34, 35, 36] cn In Fn c36 I36 F152 ∧ (∀ q : Nat, q < i152 → ClOK (F152 32) (180 * k0) (F152 34 (12 * k0 + q)) (F152 35 (12 * k0 + q)) (F152 36 (12 * k0 + q))) ∧ (∀ j : Nat, j < 12 * k0 ∨ 12 * k0 + 12 ≤ j → F152 34 j = Fn 34 j ∧ F152 35 j = Fn 35 j ∧ F152 36 j = Fn 36 j) ∧ (∀ k : Nat, k ≠ 34 ∧ k ≠ 35 ∧ k ≠ 36 → F152 k = F114 k)) → va_P D vwCl (wM cI cB cZ g (va_up c36 18 0) I36 F152) H → va_D A (wM cI cB cZ g (va_up c36 18 0) I36 F152) → va_S A s.heap H locs → ∀ ls : Array Slot, lv_has ls 6 [(4, .int (nI i152)), (3, .int x36_3), (0, .ref (g 100)), (1, .int (nI k0)), (2, .int (nI l0))] → W p l e (RM 8 0 0) s m ([.ref (g 100), .int (nI k0), .int (nI l0)]).toArray below meth c H locs 0 0 (MQ below (va_Qi (fun (r : Int32) (u : (Nat → Nat) × (Nat → Int32) × (Nat → Nat → Int32)) => (fun r c2 I2 F2 => Fr [18, 19, 20, 23, 24, 25, 26] [21, 22] [27, 28, 29, 30, 31, 32, 33, 34, 35, 36] cn In Fn c2 I2 F2 ∧ IM c2 F2 ∧ (c2 18 ≤ 200)) r u.1 u.2.1 u.2.2) (fun (u : (Nat → Nat) × (Nat → Int32) × (Nat → Nat → Int32)) (t : State) => va_P D vwCl (wM cI cB cZ g u.1 u.2.1 u.2.2) t.heap ∧ va_D A (wM cI cB cZ g u.1 u.2.1 u.2.2)) A) ([.ref (g 100), .int (nI k0), .int (nI l0)]).toArray s 0 0 A) (F0 m 152 ls []) := by
                      intro n152
                      induction n152 with
                      | zero => intros; (first | omega | (have zz0 := Hid.u hi_c36; have zz1 := Hid.u hi_cn; have zz2 := Hid.u hi_cn31; have zz3 := Hid.u hq_c36; have zz4 := Hid.u hq_cn31; omega))
                      | succ n152 ih152 =>
                        intro i152 F152 H locs hmu152 hinv152 hP hD hS ls hl
                        obtain ⟨hr152, hfr152, hx152_0, hx152_1, hx152_2⟩ := hinv152
                        have ti152 : (nI i152).toInt = (i152 : Int) := nI_toInt (by (first | omega | (have zz0 := Hid.u hi_c36; have zz1 := Hid.u hi_cn; have zz2 := Hid.u hi_cn31; have zz3 := Hid.u hq_c36; have zz4 := Hid.u hq_cn31; omega)))
                        have hq_c36 := Hid.i (frq_18_19_20_23_24_25_26_0_1_2_46_57_58_62_63_75_83_44 hfr152)
                        refine lv_iload hx hb dX12_reads_152 (lvA0 hl) ?_
                        refine lv_aload_n hx hb dX12_reads_154 rfl (lvA2 hl) ?_
                        refine gM_312 S hK hP (v := .int (nI (c36 25))) rfl dX12_reads_155 ?_
                        have : (nI (c36 25)).toInt = (((c36 25) : Nat) : Int) := nI_toInt (by (first | omega | (have zz0 := Hid.u hi_c36; have zz1 := Hid.u hi_cn; have zz2 := Hid.u hi_cn31; have zz3 := Hid.u hq_c36; have zz4 := Hid.u hq_cn31; omega)))
                        refine lv_icmp_ge (tgt := 236) hx hb dX12_reads_158 rfl (fun c_37 => ?_) (fun c_37 => ?_)
                        ·
                          have tc_37 : ((nI (c36 25)).toInt : Int) ≤ (nI i152).toInt := Int32.le_iff_toInt_le.mp c_37
                          refine lv_aload_n hx hb dX12_reads_236 rfl (lvA2 hl) ?_
                          refine gM_312 S hK hP (v := .int (nI (c36 25))) rfl dX12_reads_237 ?_
                          exact W.iret (v := (nI (c36 25))) hx hb hr (fun t ht hW => ⟨⟨(nI (c36 25)), ((va_up c36 18 0), I36, F152), rfl, ⟨(Fr.mo (Fr.c 18 hfr152) (sbl rfl) (sbl rfl) (sbl rfl)), (IM.rd (t := k0) (sm := c36 25) hI (fun k hk => (Fr.c 18 hfr36).1 k (by revert k; decide)) (fun k hk => hfr152.2.2 k (by revert k; decide)) (by (first | omega | (have zz0 := Hid.u hi_c36; have zz1 := Hid.u hi_cn; have zz2 := Hid.u hi_cn31; have zz3 := Hid.u hq_c36; have zz4 := Hid.u hq_cn31; omega))) ((hx152_2 33 (by decide)).trans ((hx114_2 33 (by decide)).trans (by show upd (F36 33) k0 (nI (c36 25)) = _; rw [g33_]))) (fun j hj => (congrFun (hx152_2 32 (by decide)) j).trans (hx114_1 j hj)) hx152_1 (fun q hq => hx152_0 q (by (first | omega | (have zz0 := Hid.u hi_c36; have zz1 := Hid.u hi_cn; have zz2 := Hid.u hi_cn31; have zz3 := Hid.u hq_c36; have zz4 := Hid.u hq_cn31; omega))))), (by show (va_up c36 18 0) 18 ≤ 200; show 0 ≤ 200; (first | omega | (have zz0 := Hid.u hi_c36; have zz1 := Hid.u hi_cn; have zz2 := Hid.u hi_cn31; have zz3 := Hid.u hq_c36; have zz4 := Hid.u hq_cn31; omega)))⟩, by rw [ht]; exact hP, hD⟩, hS.F ht⟩) hS.2.2 dX12_reads_240
                        ·
                          have tc_37 : ((nI i152).toInt : Int) < (nI (c36 25)).toInt := Int32.lt_iff_toInt_lt.mp (Int32.not_le.mp c_37)
                          obtain ⟨a9, g9, b9, ea9, eg9, eb9, k1, k2, k3, s1, s2⟩ := hr5 i152 (by (first | omega | (have zz0 := Hid.u hi_c36; have zz1 := Hid.u hi_cn; have zz2 := Hid.u hi_cn31; have zz3 := Hid.u hq_c36; have zz4 := Hid.u hq_cn31; omega)))
                          refine lv_bipush (v := 12) hx hb dX12_reads_161 kbc_12 ?_
                          refine lv_iload_n hx hb dX12_reads_163 rfl (lvA3 hl) ?_
                          refine lv_imul hx hb dX12_reads_164 ?_
                          refine lv_topi (fun y_38 ey_38 => ?_)
                          obtain rfl : y_38 = (nI (12 * k0)) := ey_38.trans (pk_mul 12 k0)
                          refine lv_iload hx hb dX12_reads_165 (lvA0 hl) ?_
                          refine lv_iadd hx hb dX12_reads_167 ?_
                          refine lv_topi (fun y_39 ey_39 => ?_)
                          obtain rfl : y_39 = (nI ((12 * k0) + i152)) := ey_39.trans (nI_add (12 * k0) i152)
                          refine lv_istore (lv' := [(5, .int (nI ((12 * k0) + i152))), (4, .int (nI i152)), (3, .int x36_3), (0, .ref (g 100)), (1, .int (nI k0)), (2, .int (nI l0))]) hx hb dX12_reads_168 hl (ltb rfl) rfl (fun ls hl => ?_)
                          refine lv_aload_n hx hb dX12_reads_170 rfl (lvA3 hl) ?_
                          refine gM_77 S hK hP (v := .ref (g 34)) rfl dX12_reads_171 ?_
                          refine lv_iload hx hb dX12_reads_174 (lvA0 hl) ?_
                          refine lv_sipush (v := 180) hx hb dX12_reads_176 (by decide) ?_
                          refine lv_iload_n hx hb dX12_reads_179 rfl (lvA4 hl) ?_
                          refine lv_imul hx hb dX12_reads_180 ?_
                          refine lv_topi (fun y_40 ey_40 => ?_)
                          obtain rfl : y_40 = (nI (180 * k0)) := ey_40.trans (pk_mul 180 k0)
                          refine lv_aload_n hx hb dX12_reads_181 rfl (lvA3 hl) ?_
                          refine gM_62 S hK hP (v := .ref (g 29)) rfl dX12_reads_182 ?_
                          refine lv_iload hx hb dX12_reads_185 (lvA1 hl) ?_
                          have kb_7 : i152 < 12 := by (first | omega | (have zz0 := Hid.u hi_c36; have zz1 := Hid.u hi_cn; have zz2 := Hid.u hi_cn31; have zz3 := Hid.u hq_c36; have zz4 := Hid.u hq_cn31; omega))
                          refine ldM_29 hx hb hK hP (x := ((F152 29) i152)) (vp_in_nI kb_7 (ltb rfl)) (nI_clamp (Nat.lt_trans kb_7 (ltb rfl))) rfl dX12_reads_187 ?_
                          refine lv_topi (fun y_41 ey_41 => ?_)
                          obtain rfl : y_41 = (nI a9) := ey_41.trans ((congrFun ((hx152_2 29 (by decide)).trans (hx114_2 29 (by decide))) i152).trans ea9)
                          refine lv_iadd hx hb dX12_reads_188 ?_
                          refine lv_topi (fun y_42 ey_42 => ?_)
                          obtain rfl : y_42 = (nI ((180 * k0) + a9)) := ey_42.trans (nI_add (180 * k0) a9)
                          have kb_8 : ((12 * k0) + i152) < 132 := by (first | omega | (have zz0 := Hid.u hi_c36; have zz1 := Hid.u hi_cn; have zz2 := Hid.u hi_cn31; have zz3 := Hid.u hq_c36; have zz4 := Hid.u hq_cn31; omega))
                          refine stM_34 hx hb hK hP hD hS (Fn2 := (va_up F152 34 (upd (F152 34) ((12 * k0) + i152) (nI ((180 * k0) + a9))))) (vp_in_nI kb_8 (ltb rfl)) (nI_clamp (Nat.lt_trans kb_8 (ltb rfl))) rfl dX12_reads_189 (fun H locs hP hD hS => ?_)
                          refine lv_aload_n hx hb dX12_reads_190 rfl (lvA3 hl) ?_
                          refine gM_80 S hK hP (v := .ref (g 35)) rfl dX12_reads_191 ?_
                          refine lv_iload hx hb dX12_reads_194 (lvA0 hl) ?_
                          refine lv_sipush (v := 180) hx hb dX12_reads_196 (by decide) ?_
                          refine lv_iload_n hx hb dX12_reads_199 rfl (lvA4 hl) ?_
                          refine lv_imul hx hb dX12_reads_200 ?_
                          refine lv_topi (fun y_43 ey_43 => ?_)
                          obtain rfl : y_43 = (nI (180 * k0)) := ey_43.trans (pk_mul 180 k0)
                          refine lv_aload_n hx hb dX12_reads_201 rfl (lvA3 hl) ?_
                          refine gM_65 S hK hP (v := .ref (g 30)) rfl dX12_reads_202 ?_
                          refine lv_iload hx hb dX12_reads_205 (lvA1 hl) ?_
                          refine ldM_30 hx hb hK hP (x := ((F152 30) i152)) (vp_in_nI kb_7 (ltb rfl)) (nI_clamp (Nat.lt_trans kb_7 (ltb rfl))) rfl dX12_reads_207 ?_
                          refine lv_topi (fun y_44 ey_44 => ?_)
                          obtain rfl : y_44 = (nI g9) := ey_44.trans ((congrFun ((hx152_2 30 (by decide)).trans (hx114_2 30 (by decide))) i152).trans eg9)
                          refine lv_iadd hx hb dX12_reads_208 ?_
                          refine lv_topi (fun y_45 ey_45 => ?_)
                          obtain rfl : y_45 = (nI ((180 * k0) + g9)) := ey_45.trans (nI_add (180 * k0) g9)
                          refine stM_35 hx hb hK hP hD hS (Fn2 := (va_up (va_up F152 34 (upd (F152 34) ((12 * k0) + i152) (nI ((180 * k0) + a9)))) 35 (upd (F152 35) ((12 * k0) + i152) (nI ((180 * k0) + g9))))) (vp_in_nI kb_8 (ltb rfl)) (nI_clamp (Nat.lt_trans kb_8 (ltb rfl))) rfl dX12_reads_209 (fun H locs hP hD hS => ?_)
                          refine lv_aload_n hx hb dX12_reads_210 rfl (lvA3 hl) ?_
                          refine gM_83 S hK hP (v := .ref (g 36)) rfl dX12_reads_211 ?_
                          refine lv_iload hx hb dX12_reads_214 (lvA0 hl) ?_
                          refine lv_sipush (v := 180) hx hb dX12_reads_216 (by decide) ?_
                          refine lv_iload_n hx hb dX12_reads_219 rfl (lvA4 hl) ?_
                          refine lv_imul hx hb dX12_reads_220 ?_
                          refine lv_topi (fun y_46 ey_46 => ?_)
                          obtain rfl : y_46 = (nI (180 * k0)) := ey_46.trans (pk_mul 180 k0)
                          refine lv_aload_n hx hb dX12_reads_221 rfl (lvA3 hl) ?_
                          refine gM_68 S hK hP (v := .ref (g 31)) rfl dX12_reads_222 ?_
                          refine lv_iload hx hb dX12_reads_225 (lvA1 hl) ?_
                          refine ldM_31 hx hb hK hP (x := ((F152 31) i152)) (vp_in_nI kb_7 (ltb rfl)) (nI_clamp (Nat.lt_trans kb_7 (ltb rfl))) rfl dX12_reads_227 ?_
                          refine lv_topi (fun y_47 ey_47 => ?_)
                          obtain rfl : y_47 = (nI b9) := ey_47.trans ((congrFun ((hx152_2 31 (by decide)).trans (hx114_2 31 (by decide))) i152).trans eb9)
                          refine lv_iadd hx hb dX12_reads_228 ?_
                          refine lv_topi (fun y_48 ey_48 => ?_)
                          obtain rfl : y_48 = (nI ((180 * k0) + b9)) := ey_48.trans (nI_add (180 * k0) b9)
                          refine stM_36 hx hb hK hP hD hS (Fn2 := (va_up (va_up (va_up F152 34 (upd (F152 34) ((12 * k0) + i152) (nI ((180 * k0) + a9)))) 35 (upd (F152 35) ((12 * k0) + i152) (nI ((180 * k0) + g9)))) 36 (upd (F152 36) ((12 * k0) + i152) (nI ((180 * k0) + b9))))) (vp_in_nI kb_8 (ltb rfl)) (nI_clamp (Nat.lt_trans kb_8 (ltb rfl))) rfl dX12_reads_229 (fun H locs hP hD hS => ?_)
                          refine lv_iinc (v := (nI (i152 + 1))) (lv' := [(4, .int (nI (i152 + 1))), (5, .int (nI ((12 * k0) + i152))), (3, .int x36_3), (0, .ref (g 100)), (1, .int (nI k0)), (2, .int (nI l0))]) hx hb dX12_reads_230 hl (k := 1) rfl (nI_1 _) (ltb rfl) rfl (fun ls hl => ?_)
                          refine lv_goto (tgt := 152) hx hb dX12_reads_233 rfl ?_
                          exact ih152 (i152 + 1) (va_up (va_up (va_up F152 34 (upd (F152 34) ((12 * k0) + i152) (nI ((180 * k0) + a9)))) 35 (upd (F152 35) ((12 * k0) + i152) (nI ((180 * k0) + g9)))) 36 (upd (F152 36) ((12 * k0) + i152) (nI ((180 * k0) + b9)))) _ _ (by (first | omega | (have zz0 := Hid.u hi_c36; have zz1 := Hid.u hi_cn; have zz2 := Hid.u hi_cn31; have zz3 := Hid.u hq_c36; have zz4 := Hid.u hq_cn31; omega))) ⟨(by (first | omega | (have zz0 := Hid.u hi_c36; have zz1 := Hid.u hi_cn; have zz2 := Hid.u hi_cn31; have zz3 := Hid.u hq_c36; have zz4 := Hid.u hq_cn31; omega))), (Fr.mo (Fr.f 36 (Fr.f 35 (Fr.f 34 hfr152))) (sbl rfl) (sbl rfl) (sbl rfl)), (by have q := new_cl hx152_0 (C := F36 27) (cm := c36 23) (fun k hk => (congrFun (hx152_2 32 (by decide)) _).trans (hx114_0 k (by (first | omega | (have zz0 := Hid.u hi_c36; have zz1 := Hid.u hi_cn; have zz2 := Hid.u hi_cn31; have zz3 := Hid.u hq_c36; have zz4 := Hid.u hq_cn31; omega))))) (by (first | omega | (have zz0 := Hid.u hi_c36; have zz1 := Hid.u hi_cn; have zz2 := Hid.u hi_cn31; have zz3 := Hid.u hq_c36; have zz4 := Hid.u hq_cn31; omega))) k1 k2 k3 s1 s2; exact q), (fun j hj => ⟨(upd_nq (by (first | omega | (have zz0 := Hid.u hi_c36; have zz1 := Hid.u hi_cn; have zz2 := Hid.u hi_cn31; have zz3 := Hid.u hq_c36; have zz4 := Hid.u hq_cn31; omega)))).trans (hx152_1 j hj).1, (upd_nq (by (first | omega | (have zz0 := Hid.u hi_c36; have zz1 := Hid.u hi_cn; have zz2 := Hid.u hi_cn31; have zz3 := Hid.u hq_c36; have zz4 := Hid.u hq_cn31; omega)))).trans (hx152_1 j hj).2.1, (upd_nq (by (first | omega | (have zz0 := Hid.u hi_c36; have zz1 := Hid.u hi_cn; have zz2 := Hid.u hi_cn31; have zz3 := Hid.u hq_c36; have zz4 := Hid.u hq_cn31; omega)))).trans (hx152_1 j hj).2.2⟩), (fun k hk => (va_up_ne _ _ hk.2.2).trans ((va_up_ne _ _ hk.2.1).trans ((va_up_ne _ _ hk.1).trans (hx152_2 k hk))))⟩ hP hD hS ls (lv_sub hl [0, 2, 3, 4, 5] rfl)
                    exact lp_152 _ 0 F114 _ _ (Nat.lt_succ_self _) ⟨(by (first | omega | (have zz0 := Hid.u hi_c36; have zz1 := Hid.u hi_cn; have zz2 := Hid.u hi_cn31; have zz3 := Hid.u hq_c36; have zz4 := Hid.u hq_cn31; omega))), (Fr.mo hfr114 (sbl rfl) (sbl rfl) (sbl rfl)), (fun q hq => absurd hq (Nat.not_lt_zero q)), (fun j hj => ⟨(congrFun (hx114_2 34 (by decide)) j).trans (congrFun g34_ j), (congrFun (hx114_2 35 (by decide)) j).trans (congrFun g35_ j), (congrFun (hx114_2 36 (by decide)) j).trans (congrFun g36_ j)⟩), (fun k _ => rfl)⟩ hP hD hS ls (lv_sub hl [0, 1, 2, 3, 4] rfl)
                  ·
                    have tc_36 : ((nI i114).toInt : Int) < (nI (c36 23)).toInt := Int32.lt_iff_toInt_lt.mp (Int32.not_le.mp c_36)
                    refine lv_aload_n hx hb dX12_reads_123 rfl (lvA2 hl) ?_
                    refine gM_71 S hK hP (v := .ref (g 32)) rfl dX12_reads_124 ?_
                    refine lv_sipush (v := 180) hx hb dX12_reads_127 (by decide) ?_
                    refine lv_iload_n hx hb dX12_reads_130 rfl (lvA3 hl) ?_
                    refine lv_imul hx hb dX12_reads_131 ?_
                    refine lv_topi (fun y_49 ey_49 => ?_)
                    obtain rfl : y_49 = (nI (180 * k0)) := ey_49.trans (pk_mul 180 k0)
                    refine lv_iload hx hb dX12_reads_132 (lvA0 hl) ?_
                    refine lv_iadd hx hb dX12_reads_134 ?_
                    refine lv_topi (fun y_50 ey_50 => ?_)
                    obtain rfl : y_50 = (nI ((180 * k0) + i114)) := ey_50.trans (nI_add (180 * k0) i114)
                    refine lv_aload_n hx hb dX12_reads_135 rfl (lvA2 hl) ?_
                    refine gM_56 S hK hP (v := .ref (g 27)) rfl dX12_reads_136 ?_
                    refine lv_iload hx hb dX12_reads_139 (lvA0 hl) ?_
                    have kb_9 : i114 < 180 := by (first | omega | (have zz0 := Hid.u hi_c36; have zz1 := Hid.u hi_cn; have zz2 := Hid.u hi_cn31; have zz3 := Hid.u hq_c36; have zz4 := Hid.u hq_cn31; omega))
                    refine ldM_27 hx hb hK hP (x := ((F114 27) i114)) (vp_in_nI kb_9 (ltb rfl)) (nI_clamp (Nat.lt_trans kb_9 (ltb rfl))) rfl dX12_reads_141 ?_
                    have kb_10 : ((180 * k0) + i114) < 1980 := by (first | omega | (have zz0 := Hid.u hi_c36; have zz1 := Hid.u hi_cn; have zz2 := Hid.u hi_cn31; have zz3 := Hid.u hq_c36; have zz4 := Hid.u hq_cn31; omega))
                    refine stM_32 hx hb hK hP hD hS (Fn2 := (va_up F114 32 (upd (F114 32) ((180 * k0) + i114) ((F114 27) i114)))) (vp_in_nI kb_10 (ltb rfl)) (nI_clamp (Nat.lt_trans kb_10 (ltb rfl))) rfl dX12_reads_142 (fun H locs hP hD hS => ?_)
                    refine lv_iinc (v := (nI (i114 + 1))) (lv' := [(4, .int (nI (i114 + 1))), (3, .int x36_3), (0, .ref (g 100)), (1, .int (nI k0)), (2, .int (nI l0))]) hx hb dX12_reads_143 hl (k := 0) rfl (nI_1 _) (ltb rfl) rfl (fun ls hl => ?_)
                    refine lv_goto (tgt := 114) hx hb dX12_reads_146 rfl ?_
                    exact ih114 (i114 + 1) (va_up F114 32 (upd (F114 32) ((180 * k0) + i114) ((F114 27) i114))) _ _ (by (first | omega | (have zz0 := Hid.u hi_c36; have zz1 := Hid.u hi_cn; have zz2 := Hid.u hi_cn31; have zz3 := Hid.u hq_c36; have zz4 := Hid.u hq_cn31; omega))) ⟨(by (first | omega | (have zz0 := Hid.u hi_c36; have zz1 := Hid.u hi_cn; have zz2 := Hid.u hi_cn31; have zz3 := Hid.u hq_c36; have zz4 := Hid.u hq_cn31; omega))), (Fr.mo (Fr.f 32 hfr114) (sbl rfl) (sbl rfl) (sbl rfl)), (fun j hj => if e : j = i114 then by subst e; exact (upd_self _ _ _).trans (congrFun (hx114_2 27 (by decide)) j) else (upd_nq (by (first | omega | (have zz0 := Hid.u hi_c36; have zz1 := Hid.u hi_cn; have zz2 := Hid.u hi_cn31; have zz3 := Hid.u hq_c36; have zz4 := Hid.u hq_cn31; omega)))).trans (hx114_0 j (by (first | omega | (have zz0 := Hid.u hi_c36; have zz1 := Hid.u hi_cn; have zz2 := Hid.u hi_cn31; have zz3 := Hid.u hq_c36; have zz4 := Hid.u hq_cn31; omega))))), (fun j hj => (upd_nq (by (first | omega | (have zz0 := Hid.u hi_c36; have zz1 := Hid.u hi_cn; have zz2 := Hid.u hi_cn31; have zz3 := Hid.u hq_c36; have zz4 := Hid.u hq_cn31; omega)))).trans (hx114_1 j hj)), (fun k hk => (va_up_ne _ _ hk).trans (hx114_2 k hk))⟩ hP hD hS ls (lv_sub hl [0, 1, 2, 3, 4] rfl)
              exact lp_114 _ 0 (va_up F36 33 (upd (F36 33) k0 (nI (c36 25)))) _ _ (Nat.lt_succ_self _) ⟨(by (first | omega | (have zz0 := Hid.u hi_c36; have zz1 := Hid.u hi_cn; have zz2 := Hid.u hi_cn31; have zz3 := Hid.u hq_c36; have zz4 := Hid.u hq_cn31; omega))), (Fr.mo (Fr.f 33 hfr36) (sbl rfl) (sbl rfl) (sbl rfl)), (fun j hj => absurd hj (Nat.not_lt_zero j)), (fun j _ => congrFun g32_ j), (fun k _ => rfl)⟩ hP hD hS ls (lv_sub hl [0, 1, 2, 3, 4] rfl)
            ·
              have tc_35 : (x36_3.toInt : Int) = 0 := congrArg Int32.toInt c_35
              refine lv_aload_n hx hb dX12_reads_96 rfl (lvA1 hl) ?_
              refine gM_243 S hK hP (v := .int (I36 21)) rfl dX12_reads_97 ?_
              exact W.iret (v := (I36 21)) hx hb hr (fun t ht hW => ⟨⟨(I36 21), ((va_up c36 18 0), I36, F36), rfl, ⟨(Fr.mo (Fr.c 18 hfr36) (sbl rfl) (sbl rfl) (sbl rfl)), (IM.fr (In := I36) hI36 (Fr.c 18 Fr.rf) (by decide) (by decide)), (by show (va_up c36 18 0) 18 ≤ 200; show 0 ≤ 200; (first | omega | (have zz0 := Hid.u hi_c36; have zz1 := Hid.u hi_cn; have zz2 := Hid.u hi_cn31; have zz3 := Hid.u hq_c36; have zz4 := Hid.u hq_cn31; omega)))⟩, by rw [ht]; exact hP, hD⟩, hS.F ht⟩) hS.2.2 dX12_reads_100
          ·
            have tc_34 : ((nI (c36 19)).toInt : Int) < (nI (c36 20)).toInt := Int32.lt_iff_toInt_lt.mp (Int32.not_le.mp c_34)
            refine lv_aload_n hx hb dX12_reads_51 rfl (lvA1 hl) ?_
            refine lv_bipush (v := 59) hx hb dX12_reads_52 kbc_59 ?_
            have hFc := free_all hD hS hA
            refine va_calli (runV_a (As := [.int 59]) (rest := []) S (q_takes l D cI cB cZ g c36 I36 F36 59 H.size hI36 (by (first | omega | (have zz0 := Hid.u hi_c36; have zz1 := Hid.u hi_cn; have zz2 := Hid.u hi_cn31; have zz3 := Hid.u hq_c36; have zz4 := Hid.u hq_cn31; omega))) (by (first | omega | (have zz0 := Hid.u hi_c36; have zz1 := Hid.u hi_cn; have zz2 := Hid.u hi_cn31; have zz3 := Hid.u hq_c36; have zz4 := Hid.u hq_cn31; omega))) (by decide)) kV_RX12_322 hK hP hD 0 rfl rfl rfl ⟨Nat.le_of_ble_eq_true rfl, Nat.le_of_ble_eq_true rfl⟩ ⟨Nat.le_of_ble_eq_true rfl, Nat.le_of_ble_eq_true rfl⟩ rfl hl.1 rfl (Nat.le_of_ble_eq_true rfl) dX12_reads_54) hS (fun q _ h => hFc q h) hFc (fun r_51 u t H1 locs ht hvm wh_52 hB hz1 hk1 hS => ?_)
            obtain ⟨cn52, In52, Fn52⟩ := u
            obtain ⟨hP1, hD1⟩ := hB
            rw [ht] at hP1
            have vh_52 : (fun r c2 I2 F2 => (∀ k : Nat, k ∉ [21] → I2 k = I36 k) ∧ ((r = 0 ∧ (True) ∧ c36 = c2 ∧ F36 = F2) ∨ (r = 1 ∧ ((c36 19) < (c36 20)) ∧ (va_up c36 19 ((c36 19) + 1)) = c2 ∧ F36 = F2))) r_51 cn52 In52 Fn52 := wh_52
            obtain ⟨hI52_, vh_52⟩ := vh_52
            rcases vh_52 with ⟨rfl, h_52, rfl, rfl⟩ | ⟨rfl, h_52, rfl, rfl⟩
            ·
              have hf52 : Fr [18, 19, 20, 23, 24, 25, 26] [21, 22] [27, 28, 29, 30, 31, 32, 33, 34, 35, 36] cn In Fn c36 In52 F36 := Fr.mo (Fr.tr hfr36 (show Fr [] [21] [] c36 I36 F36 c36 In52 F36 from ⟨fun _ _ => rfl, hI52_, fun _ _ => rfl⟩)) (sbl rfl) (sbl rfl) (sbl rfl)
              have hP : va_P D vwCl (wM cI cB cZ g c36 In52 F36) H1 := hP1
              have hD : va_D A (wM cI cB cZ g c36 In52 F36) := hD1.weaken (fun _ _ _ h => hFc _ h)
              generalize H1 = H at hP hS ⊢
              refine lv_if_eq (tgt := 82) hx hb dX12_reads_57 rfl (fun _ => ?_) (fun h => absurd h cq_eq_0_0)
              refine lv_iconst (v := 0) hx hb dX12_reads_82 kic_0 ?_
              refine lv_istore_n (lv' := [(3, .int 0), (0, .ref (g 100)), (1, .int (nI k0)), (2, .int (nI l0))]) hx hb dX12_reads_83 rfl hl (ltb rfl) rfl (fun ls hl => ?_)
              refine lv_goto (tgt := 36) hx hb dX12_reads_84 rfl ?_
              exact ih36 0 (g36 - 1) c36 In52 F36 _ _ (by (first | omega | (have zz0 := Hid.u hi_c36; have zz1 := Hid.u hi_cn; have zz2 := Hid.u hi_cn31; have zz3 := Hid.u hq_c36; have zz4 := Hid.u hq_cn31; omega))) ⟨(Fr.mo hf52 (sbl rfl) (sbl rfl) (sbl rfl)), hI36, (Or.inl rfl), (by (first | omega | (have zz0 := Hid.u hi_c36; have zz1 := Hid.u hi_cn; have zz2 := Hid.u hi_cn31; have zz3 := Hid.u hq_c36; have zz4 := Hid.u hq_cn31; omega))), hx36_2⟩ hP hD hS ls (lv_sub hl [0, 1, 2, 3] rfl)
            ·
              have hf52 : Fr [18, 19, 20, 23, 24, 25, 26] [21, 22] [27, 28, 29, 30, 31, 32, 33, 34, 35, 36] cn In Fn c36 In52 F36 := Fr.mo (Fr.tr hfr36 (show Fr [] [21] [] c36 I36 F36 c36 In52 F36 from ⟨fun _ _ => rfl, hI52_, fun _ _ => rfl⟩)) (sbl rfl) (sbl rfl) (sbl rfl)
              have hP : va_P D vwCl (wM cI cB cZ g (va_up c36 19 ((c36 19) + 1)) In52 F36) H1 := hP1
              have hD : va_D A (wM cI cB cZ g (va_up c36 19 ((c36 19) + 1)) In52 F36) := hD1.weaken (fun _ _ _ h => hFc _ h)
              generalize H1 = H at hP hS ⊢
              refine lv_if_eq (tgt := 82) hx hb dX12_reads_57 rfl (fun h => absurd h cq_eq_1_0) (fun _ => ?_)
              refine lv_aload_n hx hb dX12_reads_60 rfl (lvA1 hl) ?_
              refine lv_iload_n hx hb dX12_reads_61 rfl (lvA2 hl) ?_
              refine lv_bipush (v := 10) hx hb dX12_reads_62 kbc_10 ?_
              refine lv_icmp_ne (tgt := 71) hx hb dX12_reads_64 rfl (fun c_53 => False.elim (by have tc_53 : ((nI k0).toInt : Int) ≠ 10 := fun q => c_53 (Int32.toInt_inj.mp q); (first | omega | (have zz0 := Hid.u hi_c36; have zz1 := Hid.u hi_cn; have zz2 := Hid.u hi_cn31; have zz3 := Hid.u hq_c36; have zz4 := Hid.u hq_cn31; omega)))) (fun c_53 => ?_)
              have tc_53 : ((nI k0).toInt : Int) = 10 := congrArg Int32.toInt c_53
              refine lv_iconst (v := 1) hx hb dX12_reads_67 kic_1 ?_
              refine lv_goto (tgt := 72) hx hb dX12_reads_68 rfl ?_
              have hFc := free_all hD hS hA
              refine va_calli (runV_a (As := [.int 1]) (rest := []) S (q_readsClause l D cI cB cZ g (va_up c36 19 ((c36 19) + 1)) In52 F36 1 H.size (IM.fr (In := In52) hI36 (Fr.c 19 Fr.rf) (by decide) (by decide)) (show c36 19 + 1 ≤ c36 20 by (first | omega | (have zz0 := Hid.u hi_c36; have zz1 := Hid.u hi_cn; have zz2 := Hid.u hi_cn31; have zz3 := Hid.u hq_c36; have zz4 := Hid.u hq_cn31; omega))) (show c36 20 ≤ 160 by (first | omega | (have zz0 := Hid.u hi_c36; have zz1 := Hid.u hi_cn; have zz2 := Hid.u hi_cn31; have zz3 := Hid.u hq_c36; have zz4 := Hid.u hq_cn31; omega))) (show c36 23 ≤ c36 19 + 1 by (first | omega | (have zz0 := Hid.u hi_c36; have zz1 := Hid.u hi_cn; have zz2 := Hid.u hi_cn31; have zz3 := Hid.u hq_c36; have zz4 := Hid.u hq_cn31; omega))) hr4 hr5) kV_RX12_318 hK hP hD 0 rfl rfl rfl ⟨Nat.le_of_ble_eq_true rfl, Nat.le_of_ble_eq_true rfl⟩ ⟨Nat.le_of_ble_eq_true rfl, Nat.le_of_ble_eq_true rfl⟩ rfl hl.1 rfl (Nat.le_of_ble_eq_true rfl) dX12_reads_72) hS (fun q _ h => hFc q h) hFc (fun r_54 u t H1 locs ht hvm wh_55 hB hz1 hk1 hS => ?_)
              obtain ⟨cn55, In55, Fn55⟩ := u
              obtain ⟨hP1, hD1⟩ := hB
              rw [ht] at hP1
              have hP : va_P D vwCl (wM cI cB cZ g cn55 In55 Fn55) H1 := hP1
              have hD : va_D A (wM cI cB cZ g cn55 In55 Fn55) := hD1.weaken (fun _ _ _ h => hFc _ h)
              generalize H1 = H at hP hS ⊢
              have vh_55 : (fun r c2 I2 F2 => Fr [19, 23, 24, 25, 26] [21, 22] [27, 28, 29, 30, 31] (va_up c36 19 ((c36 19) + 1)) In52 F36 c2 I2 F2 ∧ IM c2 F2 ∧ (r = 0 ∨ (r = 1 ∧ ((c36 19) + 1) < c2 19 ∧ c2 19 ≤ (c36 20) ∧ c2 23 ≤ c2 19 ∧ c2 25 ≤ 12 ∧ ALL (F2 27) (c2 23) (c2 25) (F2 29) (F2 30) (F2 31)))) r_54 cn55 In55 Fn55 := wh_55
              obtain ⟨hfc55, hIn55, h_55⟩ := vh_55
              have hf55 : Fr [18, 19, 20, 23, 24, 25, 26] [21, 22] [27, 28, 29, 30, 31, 32, 33, 34, 35, 36] cn In Fn cn55 In55 Fn55 := Fr.mo (Fr.tr (Fr.c 19 hf52) hfc55) (sbl rfl) (sbl rfl) (sbl rfl)
              have hi_cn55 : Hid (CB cn55) := hIn55.b
              have hq_cn55 := Hid.i (frq_18_19_20_23_24_25_26_0_1_2_46_57_58_62_63_75_83_44 hf55)
              have : cn55 20 = (c36 20) := hfc55.1 20 (nml rfl)
              rcases h_55 with rfl | ⟨rfl, kh_55⟩
              ·
                refine lv_if_eq (tgt := 82) hx hb dX12_reads_75 rfl (fun _ => ?_) (fun h => absurd h cq_eq_0_0)
                refine lv_iconst (v := 0) hx hb dX12_reads_82 kic_0 ?_
                refine lv_istore_n (lv' := [(3, .int 0), (0, .ref (g 100)), (1, .int (nI k0)), (2, .int (nI l0))]) hx hb dX12_reads_83 rfl hl (ltb rfl) rfl (fun ls hl => ?_)
                refine lv_goto (tgt := 36) hx hb dX12_reads_84 rfl ?_
                exact ih36 0 (g36 - 1) cn55 In55 Fn55 _ _ (by (first | omega | (have zz0 := Hid.u hi_c36; have zz1 := Hid.u hi_cn; have zz2 := Hid.u hi_cn31; have zz3 := Hid.u hi_cn55; have zz4 := Hid.u hq_c36; have zz5 := Hid.u hq_cn31; have zz6 := Hid.u hq_cn55; omega))) ⟨(Fr.mo hf55 (sbl rfl) (sbl rfl) (sbl rfl)), hIn55, (Or.inl rfl), (by (first | omega | (have zz0 := Hid.u hi_c36; have zz1 := Hid.u hi_cn; have zz2 := Hid.u hi_cn31; have zz3 := Hid.u hi_cn55; have zz4 := Hid.u hq_c36; have zz5 := Hid.u hq_cn31; have zz6 := Hid.u hq_cn55; omega))), (fun k h1 h2 => (hfc55.2.2 k (nin31 h1)).trans (hx36_2 k h1 h2))⟩ hP hD hS ls (lv_sub hl [0, 1, 2, 3] rfl)
              ·
                obtain ⟨kh_55a, kh_55b, kh_55c, kh_55d, kh_55e⟩ := kh_55
                refine lv_if_eq (tgt := 82) hx hb dX12_reads_75 rfl (fun h => absurd h cq_eq_1_0) (fun _ => ?_)
                refine lv_iconst (v := 1) hx hb dX12_reads_78 kic_1 ?_
                refine lv_goto (tgt := 83) hx hb dX12_reads_79 rfl ?_
                refine lv_istore_n (lv' := [(3, .int 1), (0, .ref (g 100)), (1, .int (nI k0)), (2, .int (nI l0))]) hx hb dX12_reads_83 rfl hl (ltb rfl) rfl (fun ls hl => ?_)
                refine lv_goto (tgt := 36) hx hb dX12_reads_84 rfl ?_
                exact ih36 1 (g36 - 1) cn55 In55 Fn55 _ _ (by (first | omega | (have zz0 := Hid.u hi_c36; have zz1 := Hid.u hi_cn; have zz2 := Hid.u hi_cn31; have zz3 := Hid.u hi_cn55; have zz4 := Hid.u hq_c36; have zz5 := Hid.u hq_cn31; have zz6 := Hid.u hq_cn55; omega))) ⟨(Fr.mo hf55 (sbl rfl) (sbl rfl) (sbl rfl)), hIn55, (Or.inr ⟨rfl, by (first | omega | (have zz0 := Hid.u hi_c36; have zz1 := Hid.u hi_cn; have zz2 := Hid.u hi_cn31; have zz3 := Hid.u hi_cn55; have zz4 := Hid.u hq_c36; have zz5 := Hid.u hq_cn31; have zz6 := Hid.u hq_cn55; omega)), kh_55c, kh_55d, kh_55e, by (first | omega | (have zz0 := Hid.u hi_c36; have zz1 := Hid.u hi_cn; have zz2 := Hid.u hi_cn31; have zz3 := Hid.u hi_cn55; have zz4 := Hid.u hq_c36; have zz5 := Hid.u hq_cn31; have zz6 := Hid.u hq_cn55; omega))⟩), (by (first | omega | (have zz0 := Hid.u hi_c36; have zz1 := Hid.u hi_cn; have zz2 := Hid.u hi_cn31; have zz3 := Hid.u hi_cn55; have zz4 := Hid.u hq_c36; have zz5 := Hid.u hq_cn31; have zz6 := Hid.u hq_cn55; omega))), (fun k h1 h2 => (hfc55.2.2 k (nin31 h1)).trans (hx36_2 k h1 h2))⟩ hP hD hS ls (lv_sub hl [0, 1, 2, 3] rfl)
    exact lp_36 _ r_30 (l0 + 1) cn31 In31 Fn31 _ _ (Nat.lt_succ_self _) ⟨(Fr.mo hf31 (sbl rfl) (sbl rfl) (sbl rfl)), hIn31, (h_31.elim Or.inl (fun q => Or.inr ⟨q.1, q.2.2.1, q.2.2.2.1, q.2.2.2.2.1, q.2.2.2.2.2, by (first | omega | (have zz0 := Hid.u hi_cn; have zz1 := Hid.u hi_cn31; have zz2 := Hid.u hq_cn31; omega))⟩)), (by (first | omega | (have zz0 := Hid.u hi_cn; have zz1 := Hid.u hi_cn31; have zz2 := Hid.u hq_cn31; omega))), (fun k h1 h2 => hfc31.2.2 k (nin31 h1))⟩ hP hD hS ls (lv_sub hl [0, 1, 2, 3] rfl)
set_option maxRecDepth 100000 in
set_option maxHeartbeats 4000000 in
theorem q_contract8 (l : Launch) (D : va_G) (cI cB cZ : ClassId) (g : Nat → Nat) (cn : Nat → Nat) (In : Nat → Int32) (Fn : Nat → Nat → Int32) (v0 v1 : Int32) (sz : Nat) (hI : IM cn Fn) (h18 : cn 18 ≤ 200) : Met l yX12_contract (CWS yX12_contract cX12_contract 3 (some .int)) (RM 9 0 0) (PBw [.ref (g 100), .int v0, .int v1] D cI cB cZ (wM cI cB cZ g cn In Fn) sz) (va_Qi (fun (r : Int32) (u : (Nat → Nat) × (Nat → Int32) × (Nat → Nat → Int32)) => (fun r c2 I2 F2 => Fr [18, 19, 20, 23, 24, 25, 26] [21, 22] [27, 28, 29, 30, 31, 32, 33, 34, 35, 36] cn In Fn c2 I2 F2 ∧ IM c2 F2 ∧ (c2 18 ≤ 200)) r u.1 u.2.1 u.2.2) (fun (u : (Nat → Nat) × (Nat → Int32) × (Nat → Nat → Int32)) (t : State) => va_P D vwCl (wM cI cB cZ g u.1 u.2.1 u.2.2) t.heap ∧ va_D (va_A (wM cI cB cZ g cn In Fn) sz) (wM cI cB cZ g u.1 u.2.1 u.2.2)) (va_A (wM cI cB cZ g cn In Fn) sz)) 0 0 (va_A (wM cI cB cZ g cn In Fn) sz) := by
  refine en_w (fun A => (va_Qi (fun (r : Int32) (u : (Nat → Nat) × (Nat → Int32) × (Nat → Nat → Int32)) => (fun (r : Int32) (c2 : Nat → Nat) (I2 : Nat → Int32) (F2 : Nat → Nat → Int32) => Fr [18, 19, 20, 23, 24, 25, 26] [21, 22] [27, 28, 29, 30, 31, 32, 33, 34, 35, 36] cn In Fn c2 I2 F2 ∧ IM c2 F2 ∧ (c2 18 ≤ 200)) r u.1 u.2.1 u.2.2) (fun (u : (Nat → Nat) × (Nat → Int32) × (Nat → Nat → Int32)) (t : State) => va_P D vwCl (wM cI cB cZ g u.1 u.2.1 u.2.2) t.heap ∧ va_D A (wM cI cB cZ g u.1 u.2.1 u.2.2)) A)) rfl rfl pn_RX12 (Nat.le_of_ble_eq_true rfl) (fun p e s m below meth c A hx hb hml hown S hr hlocks hnm hA hP hK hD hS ls hl => ?_)
  have hl : lv_has ls 3 [(0, .ref (g 100)), (1, .int v0), (2, .int v1)] := hl
  have hi_cn : Hid (CB cn) := hI.b
  refine lv_aload_n hx hb (oc_42 0 shX12_contract_0) rfl (lvA0 hl) ?_
  refine lv_iload_n hx hb (oc_27 1 (aq_1 shX12_contract_0)) rfl (lvA1 hl) ?_
  refine vp_callSi (runV_ra (As := [.int v0]) (rest := []) S (q_isKitchen l D cI cB cZ g cn In Fn v0 hI) kV_RX12_218 hK hP 0 rfl rfl rfl ⟨Nat.le_of_ble_eq_true rfl, Nat.le_of_ble_eq_true rfl⟩ ⟨Nat.le_of_ble_eq_true rfl, Nat.le_of_ble_eq_true rfl⟩ rfl hl.1 rfl (Nat.le_of_ble_eq_true rfl) (oc_182 2 (aq_2 shX12_contract_0) uw_0_218)) (fun r_1 h_2 => ?_)
  rcases h_2 with ⟨rfl, h_2⟩ | ⟨rfl, h_2⟩
  ·
    have h_2 : 0 ≤ v0.toInt ∧ v0.toInt < ((cn 1) : Int) := h_2
    refine lv_if_eq (tgt := 27) hx hb dX12_contract_5 rfl (fun h => absurd h cq_eq_1_0) (fun _ => ?_)
    refine lv_iload_n hx hb (oc_28 8 (aq_8 shX12_contract_0)) rfl (lvA2 hl) ?_
    refine lv_iconst (v := 1) hx hb (oc_4 9 (aq_9 shX12_contract_0)) kic_1 ?_
    refine lv_sipush (v := 160) hx hb (oc_17 10 (aq_10 shX12_contract_0) sgw_0_160) (by decide) ?_
    refine vp_callSi (runS_r (As := [.int v1, .int 1, .int 160]) (rest := []) S (q_in l D cI cB cZ v1 1 160 ) kS_RX12_214 hK hP [] rfl ⟨Nat.le_of_ble_eq_true rfl, Nat.le_of_ble_eq_true rfl⟩ ⟨Nat.le_of_ble_eq_true rfl, Nat.le_of_ble_eq_true rfl⟩ rfl hl.1 rfl (Nat.le_of_ble_eq_true rfl) (oc_184 13 (aq_13 shX12_contract_0) uw_0_214)) (fun r_3 h_4 => ?_)
    rcases h_4 with ⟨rfl, h_4⟩ | ⟨rfl, h_4⟩
    ·
      have h_4 : 1 ≤ v1.toInt ∧ v1.toInt ≤ 160 := h_4
      refine lv_if_eq (tgt := 27) hx hb dX12_contract_16 rfl (fun h => absurd h cq_eq_1_0) (fun _ => ?_)
      refine lv_iload_n hx hb (oc_28 19 (aq_19 shX12_contract_0)) rfl (lvA2 hl) ?_
      refine lv_aload_n hx hb (oc_42 20 (aq_20 shX12_contract_0)) rfl (lvA0 hl) ?_
      refine gM_226 S hK hP (v := .int (nI (cn 18))) rfl (oc_180 21 (aq_21 shX12_contract_0) uw_0_226) ?_
      have : (nI (cn 18)).toInt = (((cn 18) : Nat) : Int) := nI_toInt (by (first | omega | (have zz0 := Hid.u hi_cn; omega)))
      refine lv_icmp_le (tgt := 31) hx hb (oc_164 24 shX12_contract_24 sgw_0_7) rfl (fun c_5 => ?_) (fun c_5 => ?_)
      ·
        have tc_5 : (v1.toInt : Int) ≤ (nI (cn 18)).toInt := Int32.le_iff_toInt_le.mp c_5
        obtain ⟨d0, hd0, rfl⟩ := nI_of (x := v0) (fun q => by have := Int32.lt_iff_toInt_lt.mp q; have e : (0 : Int32).toInt = 0 := rfl; (first | omega | (have zz0 := Hid.u hi_cn; omega)))
        have td0 : (nI d0).toInt = (d0 : Int) := nI_toInt hd0
        have zd0 : (nI d0).toInt.toNat = d0 := by (first | omega | (have zz0 := Hid.u hi_cn; omega))
        obtain ⟨l0, hl0, rfl⟩ := nI_of (x := v1) (fun q => by have := Int32.lt_iff_toInt_lt.mp q; have e : (0 : Int32).toInt = 0 := rfl; (first | omega | (have zz0 := Hid.u hi_cn; omega)))
        have tl0 : (nI l0).toInt = (l0 : Int) := nI_toInt hl0
        have zl0 : (nI l0).toInt.toNat = l0 := by (first | omega | (have zz0 := Hid.u hi_cn; omega))
        refine lv_aload_n hx hb (oc_42 31 (aq_7 shX12_contract_24)) rfl (lvA0 hl) ?_
        refine lv_iload_n hx hb (oc_27 32 (aq_8 shX12_contract_24)) rfl (lvA1 hl) ?_
        refine lv_iload_n hx hb (oc_28 33 (aq_9 shX12_contract_24)) rfl (lvA2 hl) ?_
        have hFc := free_all hD hS hA
        refine va_calli (runV_a (As := [.int (nI d0), .int (nI l0)]) (rest := []) S (q_reads8 l D cI cB cZ g cn In Fn d0 l0 s.heap.size hI (by (first | omega | (have zz0 := Hid.u hi_cn; omega))) (by (first | omega | (have zz0 := Hid.u hi_cn; omega)))) kV_RX12_324 hK hP hD 0 rfl rfl rfl ⟨Nat.le_of_ble_eq_true rfl, Nat.le_of_ble_eq_true rfl⟩ ⟨Nat.le_of_ble_eq_true rfl, Nat.le_of_ble_eq_true rfl⟩ rfl hl.1 rfl (Nat.le_of_ble_eq_true rfl) (oc_182 34 (aq_10 shX12_contract_24) uw_1_68)) hS (fun q _ h => hFc q h) hFc (fun r_6 u t H1 locs ht hvm wh_7 hB hz1 hk1 hS => ?_)
        obtain ⟨cn7, In7, Fn7⟩ := u
        obtain ⟨hP1, hD1⟩ := hB
        rw [ht] at hP1
        have hP : va_P D vwCl (wM cI cB cZ g cn7 In7 Fn7) H1 := hP1
        have hD : va_D A (wM cI cB cZ g cn7 In7 Fn7) := hD1.weaken (fun _ _ _ h => hFc _ h)
        generalize H1 = H at hP hS ⊢
        have vh_7 : (fun r c2 I2 F2 => Fr [18, 19, 20, 23, 24, 25, 26] [21, 22] [27, 28, 29, 30, 31, 32, 33, 34, 35, 36] cn In Fn c2 I2 F2 ∧ IM c2 F2 ∧ (c2 18 ≤ 200)) r_6 cn7 In7 Fn7 := wh_7
        obtain ⟨hfc7, hIn7, h_7⟩ := vh_7
        have hf7 : Fr [18, 19, 20, 23, 24, 25, 26] [21, 22] [27, 28, 29, 30, 31, 32, 33, 34, 35, 36] cn In Fn cn7 In7 Fn7 := Fr.mo (Fr.tr (Fr.rf (cn := cn) (In := In) (Fn := Fn)) hfc7) (sbl rfl) (sbl rfl) (sbl rfl)
        have hi_cn7 : Hid (CB cn7) := hIn7.b
        have hq_cn7 := Hid.i (frq_18_19_20_23_24_25_26_0_1_2_46_57_58_62_63_75_83_44 hf7)
        exact W.iret (v := r_6) hx hb hr (fun t ht hW => ⟨⟨r_6, (cn7, In7, Fn7), rfl, ⟨(Fr.mo hf7 (sbl rfl) (sbl rfl) (sbl rfl)), hIn7, (by show cn7 18 ≤ 200; show (cn7 18) ≤ 200; (first | omega | (have zz0 := Hid.u hi_cn; have zz1 := Hid.u hi_cn7; have zz2 := Hid.u hq_cn7; omega)))⟩, by rw [ht]; exact hP, hD⟩, hS.F ht⟩) hS.2.2 dX12_contract_37
      ·
        have tc_5 : ((nI (cn 18)).toInt : Int) < v1.toInt := Int32.lt_iff_toInt_lt.mp (Int32.not_le.mp c_5)
        refine lv_iconst (v := (-1)) hx hb dX12_contract_27 kic_m1 ?_
        refine lv_goto (tgt := 37) hx hb dX12_contract_28 rfl ?_
        exact W.iret (v := (-1)) hx hb hr (fun t ht hW => ⟨⟨(-1), (cn, In, Fn), rfl, ⟨(Fr.mo Fr.rf (sbl rfl) (sbl rfl) (sbl rfl)), hI, (by show cn 18 ≤ 200; show (cn 18) ≤ 200; (first | omega | (have zz0 := Hid.u hi_cn; omega)))⟩, by rw [ht]; exact hP, hD⟩, hS.F ht⟩) hS.2.2 dX12_contract_37
    ·
      have h_4 : ¬ (1 ≤ v1.toInt ∧ v1.toInt ≤ 160) := h_4
      refine lv_if_eq (tgt := 27) hx hb dX12_contract_16 rfl (fun _ => ?_) (fun h => absurd h cq_eq_0_0)
      refine lv_iconst (v := (-1)) hx hb dX12_contract_27 kic_m1 ?_
      refine lv_goto (tgt := 37) hx hb dX12_contract_28 rfl ?_
      exact W.iret (v := (-1)) hx hb hr (fun t ht hW => ⟨⟨(-1), (cn, In, Fn), rfl, ⟨(Fr.mo Fr.rf (sbl rfl) (sbl rfl) (sbl rfl)), hI, (by show cn 18 ≤ 200; show (cn 18) ≤ 200; (first | omega | (have zz0 := Hid.u hi_cn; omega)))⟩, by rw [ht]; exact hP, hD⟩, hS.F ht⟩) hS.2.2 dX12_contract_37
  ·
    have h_2 : ¬ (0 ≤ v0.toInt ∧ v0.toInt < ((cn 1) : Int)) := h_2
    refine lv_if_eq (tgt := 27) hx hb dX12_contract_5 rfl (fun _ => ?_) (fun h => absurd h cq_eq_0_0)
    refine lv_iconst (v := (-1)) hx hb dX12_contract_27 kic_m1 ?_
    refine lv_goto (tgt := 37) hx hb dX12_contract_28 rfl ?_
    exact W.iret (v := (-1)) hx hb hr (fun t ht hW => ⟨⟨(-1), (cn, In, Fn), rfl, ⟨(Fr.mo Fr.rf (sbl rfl) (sbl rfl) (sbl rfl)), hI, (by show cn 18 ≤ 200; show (cn 18) ≤ 200; (first | omega | (have zz0 := Hid.u hi_cn; omega)))⟩, by rw [ht]; exact hP, hD⟩, hS.F ht⟩) hS.2.2 dX12_contract_37
set_option maxRecDepth 100000 in
set_option maxHeartbeats 4000000 in
theorem q_law8 (l : Launch) (D : va_G) (cI cB cZ : ClassId) (g : Nat → Nat) (cn : Nat → Nat) (In : Nat → Int32) (Fn : Nat → Nat → Int32) (v0 : Int32) (sz : Nat) (hI : IM cn Fn) (h18 : cn 18 ≤ 200) : Met l yX12_law (CWS yX12_law cX12_law 2 (some .int)) (RM 9 0 0) (PBw [.ref (g 100), .int v0] D cI cB cZ (wM cI cB cZ g cn In Fn) sz) (va_Qi (fun (r : Int32) (u : (Nat → Nat) × (Nat → Int32) × (Nat → Nat → Int32)) => (fun r c2 I2 F2 => Fr [18, 19, 20, 23, 24, 25, 26] [21, 22] [27, 28, 29, 30, 31, 32, 33, 34, 35, 36] cn In Fn c2 I2 F2 ∧ IM c2 F2 ∧ (c2 18 ≤ 200)) r u.1 u.2.1 u.2.2) (fun (u : (Nat → Nat) × (Nat → Int32) × (Nat → Nat → Int32)) (t : State) => va_P D vwCl (wM cI cB cZ g u.1 u.2.1 u.2.2) t.heap ∧ va_D (va_A (wM cI cB cZ g cn In Fn) sz) (wM cI cB cZ g u.1 u.2.1 u.2.2)) (va_A (wM cI cB cZ g cn In Fn) sz)) 0 0 (va_A (wM cI cB cZ g cn In Fn) sz) := by
  refine en_w (fun A => (va_Qi (fun (r : Int32) (u : (Nat → Nat) × (Nat → Int32) × (Nat → Nat → Int32)) => (fun (r : Int32) (c2 : Nat → Nat) (I2 : Nat → Int32) (F2 : Nat → Nat → Int32) => Fr [18, 19, 20, 23, 24, 25, 26] [21, 22] [27, 28, 29, 30, 31, 32, 33, 34, 35, 36] cn In Fn c2 I2 F2 ∧ IM c2 F2 ∧ (c2 18 ≤ 200)) r u.1 u.2.1 u.2.2) (fun (u : (Nat → Nat) × (Nat → Int32) × (Nat → Nat → Int32)) (t : State) => va_P D vwCl (wM cI cB cZ g u.1 u.2.1 u.2.2) t.heap ∧ va_D A (wM cI cB cZ g u.1 u.2.1 u.2.2)) A)) rfl rfl pn_RX12 (Nat.le_of_ble_eq_true rfl) (fun p e s m below meth c A hx hb hml hown S hr hlocks hnm hA hP hK hD hS ls hl => ?_)
  have hl : lv_has ls 2 [(0, .ref (g 100)), (1, .int v0)] := hl
  have hi_cn : Hid (CB cn) := hI.b
  refine lv_iload_n hx hb (oc_27 0 shX12_law_0) rfl (lvA1 hl) ?_
  refine lv_iconst (v := 1) hx hb (oc_4 1 (aq_1 shX12_law_0)) kic_1 ?_
  refine lv_sipush (v := 160) hx hb (oc_17 2 (aq_2 shX12_law_0) sgw_0_160) (by decide) ?_
  refine vp_callSi (runS_r (As := [.int v0, .int 1, .int 160]) (rest := []) S (q_in l D cI cB cZ v0 1 160 ) kS_RX12_214 hK hP [] rfl ⟨Nat.le_of_ble_eq_true rfl, Nat.le_of_ble_eq_true rfl⟩ ⟨Nat.le_of_ble_eq_true rfl, Nat.le_of_ble_eq_true rfl⟩ rfl hl.1 rfl (Nat.le_of_ble_eq_true rfl) (oc_184 5 (aq_5 shX12_law_0) uw_0_214)) (fun r_1 h_2 => ?_)
  rcases h_2 with ⟨rfl, h_2⟩ | ⟨rfl, h_2⟩
  ·
    have h_2 : 1 ≤ v0.toInt ∧ v0.toInt ≤ 160 := h_2
    refine lv_if_eq (tgt := 19) hx hb dX12_law_8 rfl (fun h => absurd h cq_eq_1_0) (fun _ => ?_)
    refine lv_iload_n hx hb (oc_27 11 (aq_11 shX12_law_0)) rfl (lvA1 hl) ?_
    refine lv_aload_n hx hb (oc_42 12 (aq_12 shX12_law_0)) rfl (lvA0 hl) ?_
    refine gM_226 S hK hP (v := .int (nI (cn 18))) rfl (oc_180 13 (aq_13 shX12_law_0) uw_0_226) ?_
    have : (nI (cn 18)).toInt = (((cn 18) : Nat) : Int) := nI_toInt (by (first | omega | (have zz0 := Hid.u hi_cn; omega)))
    refine lv_icmp_le (tgt := 23) hx hb (oc_164 16 (aq_16 shX12_law_0) sgw_0_7) rfl (fun c_3 => ?_) (fun c_3 => ?_)
    ·
      have tc_3 : (v0.toInt : Int) ≤ (nI (cn 18)).toInt := Int32.le_iff_toInt_le.mp c_3
      obtain ⟨l0, hl0, rfl⟩ := nI_of (x := v0) (fun q => by have := Int32.lt_iff_toInt_lt.mp q; have e : (0 : Int32).toInt = 0 := rfl; (first | omega | (have zz0 := Hid.u hi_cn; omega)))
      have tl0 : (nI l0).toInt = (l0 : Int) := nI_toInt hl0
      have zl0 : (nI l0).toInt.toNat = l0 := by (first | omega | (have zz0 := Hid.u hi_cn; omega))
      refine lv_aload_n hx hb (oc_42 23 (aq_23 shX12_law_0)) rfl (lvA0 hl) ?_
      refine lv_bipush (v := 10) hx hb (oc_16 24 shX12_law_24 sgb_10) kbc_10 ?_
      refine lv_iload_n hx hb (oc_27 26 (aq_2 shX12_law_24)) rfl (lvA1 hl) ?_
      have hFc := free_all hD hS hA
      refine va_calli (runV_a (As := [.int 10, .int (nI l0)]) (rest := []) S (q_reads8 l D cI cB cZ g cn In Fn 10 l0 s.heap.size hI (by (first | omega | (have zz0 := Hid.u hi_cn; omega))) (by (first | omega | (have zz0 := Hid.u hi_cn; omega)))) kV_RX12_324 hK hP hD 0 rfl rfl rfl ⟨Nat.le_of_ble_eq_true rfl, Nat.le_of_ble_eq_true rfl⟩ ⟨Nat.le_of_ble_eq_true rfl, Nat.le_of_ble_eq_true rfl⟩ rfl hl.1 rfl (Nat.le_of_ble_eq_true rfl) (oc_182 27 (aq_3 shX12_law_24) uw_1_68)) hS (fun q _ h => hFc q h) hFc (fun r_4 u t H1 locs ht hvm wh_5 hB hz1 hk1 hS => ?_)
      obtain ⟨cn5, In5, Fn5⟩ := u
      obtain ⟨hP1, hD1⟩ := hB
      rw [ht] at hP1
      have hP : va_P D vwCl (wM cI cB cZ g cn5 In5 Fn5) H1 := hP1
      have hD : va_D A (wM cI cB cZ g cn5 In5 Fn5) := hD1.weaken (fun _ _ _ h => hFc _ h)
      generalize H1 = H at hP hS ⊢
      have vh_5 : (fun r c2 I2 F2 => Fr [18, 19, 20, 23, 24, 25, 26] [21, 22] [27, 28, 29, 30, 31, 32, 33, 34, 35, 36] cn In Fn c2 I2 F2 ∧ IM c2 F2 ∧ (c2 18 ≤ 200)) r_4 cn5 In5 Fn5 := wh_5
      obtain ⟨hfc5, hIn5, h_5⟩ := vh_5
      have hf5 : Fr [18, 19, 20, 23, 24, 25, 26] [21, 22] [27, 28, 29, 30, 31, 32, 33, 34, 35, 36] cn In Fn cn5 In5 Fn5 := Fr.mo (Fr.tr (Fr.rf (cn := cn) (In := In) (Fn := Fn)) hfc5) (sbl rfl) (sbl rfl) (sbl rfl)
      have hi_cn5 : Hid (CB cn5) := hIn5.b
      have hq_cn5 := Hid.i (frq_18_19_20_23_24_25_26_0_1_2_46_57_58_62_63_75_83_44 hf5)
      exact W.iret (v := r_4) hx hb hr (fun t ht hW => ⟨⟨r_4, (cn5, In5, Fn5), rfl, ⟨(Fr.mo hf5 (sbl rfl) (sbl rfl) (sbl rfl)), hIn5, (by show cn5 18 ≤ 200; show (cn5 18) ≤ 200; (first | omega | (have zz0 := Hid.u hi_cn; have zz1 := Hid.u hi_cn5; have zz2 := Hid.u hq_cn5; omega)))⟩, by rw [ht]; exact hP, hD⟩, hS.F ht⟩) hS.2.2 dX12_law_30
    ·
      have tc_3 : ((nI (cn 18)).toInt : Int) < v0.toInt := Int32.lt_iff_toInt_lt.mp (Int32.not_le.mp c_3)
      refine lv_iconst (v := (-1)) hx hb dX12_law_19 kic_m1 ?_
      refine lv_goto (tgt := 30) hx hb dX12_law_20 rfl ?_
      exact W.iret (v := (-1)) hx hb hr (fun t ht hW => ⟨⟨(-1), (cn, In, Fn), rfl, ⟨(Fr.mo Fr.rf (sbl rfl) (sbl rfl) (sbl rfl)), hI, (by show cn 18 ≤ 200; show (cn 18) ≤ 200; (first | omega | (have zz0 := Hid.u hi_cn; omega)))⟩, by rw [ht]; exact hP, hD⟩, hS.F ht⟩) hS.2.2 dX12_law_30
  ·
    have h_2 : ¬ (1 ≤ v0.toInt ∧ v0.toInt ≤ 160) := h_2
    refine lv_if_eq (tgt := 19) hx hb dX12_law_8 rfl (fun _ => ?_) (fun h => absurd h cq_eq_0_0)
    refine lv_iconst (v := (-1)) hx hb dX12_law_19 kic_m1 ?_
    refine lv_goto (tgt := 30) hx hb dX12_law_20 rfl ?_
    exact W.iret (v := (-1)) hx hb hr (fun t ht hW => ⟨⟨(-1), (cn, In, Fn), rfl, ⟨(Fr.mo Fr.rf (sbl rfl) (sbl rfl) (sbl rfl)), hI, (by show cn 18 ≤ 200; show (cn 18) ≤ 200; (first | omega | (have zz0 := Hid.u hi_cn; omega)))⟩, by rw [ht]; exact hP, hD⟩, hS.F ht⟩) hS.2.2 dX12_law_30
set_option maxRecDepth 100000 in
set_option maxHeartbeats 4000000 in
theorem q_driven8 (l : Launch) (D : va_G) (cI cB cZ : ClassId) (g : Nat → Nat) (cn : Nat → Nat) (In : Nat → Int32) (Fn : Nat → Nat → Int32) (v0 : Int32) (sz : Nat) (hI : IM cn Fn) (h18 : cn 18 ≤ 200) : Met l yX12_driven (CWS yX12_driven cX12_driven 7 (some .int)) (RM 1 0 0) (PBw [.ref (g 100), .int v0] D cI cB cZ (wM cI cB cZ g cn In Fn) sz) (va_Qi (fun (r : Int32) (u : (Nat → Nat) × (Nat → Int32) × (Nat → Nat → Int32)) => (fun r c2 I2 F2 => Fr [18] [] [] cn In Fn c2 I2 F2 ∧ IM c2 F2 ∧ (c2 18 ≤ 200)) r u.1 u.2.1 u.2.2) (fun (u : (Nat → Nat) × (Nat → Int32) × (Nat → Nat → Int32)) (t : State) => va_P D vwCl (wM cI cB cZ g u.1 u.2.1 u.2.2) t.heap ∧ va_D (va_A (wM cI cB cZ g cn In Fn) sz) (wM cI cB cZ g u.1 u.2.1 u.2.2)) (va_A (wM cI cB cZ g cn In Fn) sz)) 0 0 (va_A (wM cI cB cZ g cn In Fn) sz) := by
  refine en_w (fun A => (va_Qi (fun (r : Int32) (u : (Nat → Nat) × (Nat → Int32) × (Nat → Nat → Int32)) => (fun (r : Int32) (c2 : Nat → Nat) (I2 : Nat → Int32) (F2 : Nat → Nat → Int32) => Fr [18] [] [] cn In Fn c2 I2 F2 ∧ IM c2 F2 ∧ (c2 18 ≤ 200)) r u.1 u.2.1 u.2.2) (fun (u : (Nat → Nat) × (Nat → Int32) × (Nat → Nat → Int32)) (t : State) => va_P D vwCl (wM cI cB cZ g u.1 u.2.1 u.2.2) t.heap ∧ va_D A (wM cI cB cZ g u.1 u.2.1 u.2.2)) A)) rfl rfl pn_RX12 (Nat.le_of_ble_eq_true rfl) (fun p e s m below meth c A hx hb hml hown S hr hlocks hnm hA hP hK hD hS ls hl => ?_)
  have hl : lv_has ls 7 [(0, .ref (g 100)), (1, .int v0)] := hl
  have hi_cn : Hid (CB cn) := hI.b
  refine lv_iload_n hx hb (oc_27 0 shX12_driven_0) rfl (lvA1 hl) ?_
  refine lv_iconst (v := 0) hx hb (oc_3 1 (aq_1 shX12_driven_0)) kic_0 ?_
  refine lv_bipush (v := 20) hx hb (oc_16 2 (aq_2 shX12_driven_0) sgb_20) kbc_20 ?_
  refine vp_callSi (runS_r (As := [.int v0, .int 0, .int 20]) (rest := []) S (q_in l D cI cB cZ v0 0 20 ) kS_RX12_214 hK hP [] rfl ⟨Nat.le_of_ble_eq_true rfl, Nat.le_of_ble_eq_true rfl⟩ ⟨Nat.le_of_ble_eq_true rfl, Nat.le_of_ble_eq_true rfl⟩ rfl hl.1 rfl (Nat.le_of_ble_eq_true rfl) (oc_184 4 (aq_4 shX12_driven_0) uw_0_214)) (fun r_1 h_2 => ?_)
  rcases h_2 with ⟨rfl, h_2⟩ | ⟨rfl, h_2⟩
  ·
    have h_2 : 0 ≤ v0.toInt ∧ v0.toInt ≤ 20 := h_2
    refine lv_if_eq (tgt := 18) hx hb dX12_driven_7 rfl (fun h => absurd h cq_eq_1_0) (fun _ => ?_)
    refine lv_iload_n hx hb (oc_27 10 (aq_10 shX12_driven_0)) rfl (lvA1 hl) ?_
    refine lv_aload_n hx hb (oc_42 11 (aq_11 shX12_driven_0)) rfl (lvA0 hl) ?_
    refine gM_226 S hK hP (v := .int (nI (cn 18))) rfl (oc_180 12 (aq_12 shX12_driven_0) uw_0_226) ?_
    have : (nI (cn 18)).toInt = (((cn 18) : Nat) : Int) := nI_toInt (by (first | omega | (have zz0 := Hid.u hi_cn; omega)))
    refine lv_icmp_le (tgt := 20) hx hb (oc_164 15 (aq_15 shX12_driven_0) sgw_0_5) rfl (fun c_3 => ?_) (fun c_3 => ?_)
    ·
      have tc_3 : (v0.toInt : Int) ≤ (nI (cn 18)).toInt := Int32.le_iff_toInt_le.mp c_3
      obtain ⟨d0, hd0, rfl⟩ := nI_of (x := v0) (fun q => by have := Int32.lt_iff_toInt_lt.mp q; have e : (0 : Int32).toInt = 0 := rfl; (first | omega | (have zz0 := Hid.u hi_cn; omega)))
      have td0 : (nI d0).toInt = (d0 : Int) := nI_toInt hd0
      have zd0 : (nI d0).toInt.toNat = d0 := by (first | omega | (have zz0 := Hid.u hi_cn; omega))
      refine lv_aload_n hx hb (oc_42 20 (aq_20 shX12_driven_0)) rfl (lvA0 hl) ?_
      refine lv_iconst (v := 0) hx hb (oc_3 21 (aq_21 shX12_driven_0)) kic_0 ?_
      refine pM_226 S hK hP hD hS (a := 0) (cn2 := (va_up cn 18 0)) rfl rfl (oc_181 22 (aq_22 shX12_driven_0) uw_0_226) (fun H locs hP hD hS => ?_)
      refine lv_iconst (v := 0) hx hb (oc_3 25 shX12_driven_25) kic_0 ?_
      refine lv_istore_n (lv' := [(2, .int 0), (0, .ref (g 100)), (1, .int (nI d0))]) hx hb (oc_61 26 (aq_1 shX12_driven_25)) rfl hl (ltb rfl) rfl (fun ls hl => ?_)
      refine lv_iconst (v := 0) hx hb (oc_3 27 (aq_2 shX12_driven_25)) kic_0 ?_
      refine lv_istore_n (lv' := [(3, .int 0), (2, .int 0), (0, .ref (g 100)), (1, .int (nI d0))]) hx hb (oc_62 28 (aq_3 shX12_driven_25)) rfl hl (ltb rfl) rfl (fun ls hl => ?_)
      refine lv_iconst (v := 0) hx hb (oc_3 29 (aq_4 shX12_driven_25)) kic_0 ?_
      refine lv_istore (lv' := [(4, .int 0), (3, .int 0), (2, .int 0), (0, .ref (g 100)), (1, .int (nI d0))]) hx hb (oc_54 30 (aq_5 shX12_driven_25) ub_4) hl (ltb rfl) rfl (fun ls hl => ?_)
      refine lv_iconst (v := 0) hx hb (oc_3 32 (aq_7 shX12_driven_25)) kic_0 ?_
      refine lv_istore (lv' := [(5, .int 0), (4, .int 0), (3, .int 0), (2, .int 0), (0, .ref (g 100)), (1, .int (nI d0))]) hx hb (oc_54 33 (aq_8 shX12_driven_25) ub_5) hl (ltb rfl) rfl (fun ls hl => ?_)
      have lp_35 : ∀ (n : Nat) (i35 : Nat) (x35_2 : Int32) (x35_3 : Int32) (x35_4 : Int32) , d0 - i35 < n → (i35 ≤ d0) → ∀ ls : Array Slot, lv_has ls 7 [(5, .int (nI i35)), (4, .int x35_4), (3, .int x35_3), (2, .int x35_2), (0, .ref (g 100)), (1, .int (nI d0))] → W p l e (RM 1 0 0) s m ([.ref (g 100), .int (nI d0)]).toArray below meth c H locs 0 0 (MQ below (va_Qi (fun (r : Int32) (u : (Nat → Nat) × (Nat → Int32) × (Nat → Nat → Int32)) => (fun r c2 I2 F2 => Fr [18] [] [] cn In Fn c2 I2 F2 ∧ IM c2 F2 ∧ (c2 18 ≤ 200)) r u.1 u.2.1 u.2.2) (fun (u : (Nat → Nat) × (Nat → Int32) × (Nat → Nat → Int32)) (t : State) => va_P D vwCl (wM cI cB cZ g u.1 u.2.1 u.2.2) t.heap ∧ va_D A (wM cI cB cZ g u.1 u.2.1 u.2.2)) A) ([.ref (g 100), .int (nI d0)]).toArray s 0 0 A) (F0 m 35 ls []) := by
        intro n35
        induction n35 with
        | zero => intros; (first | omega | (have zz0 := Hid.u hi_cn; omega))
        | succ n35 ih35 =>
          intro i35 x35_2 x35_3 x35_4 hmu35 hinv35 ls hl
          have hr35 := hinv35
          have ti35 : (nI i35).toInt = (i35 : Int) := nI_toInt (by (first | omega | (have zz0 := Hid.u hi_cn; omega)))
          refine lv_iload hx hb (oc_21 35 (aq_10 shX12_driven_25) ub_5) (lvA0 hl) ?_
          refine lv_iload_n hx hb (oc_27 37 (aq_12 shX12_driven_25)) rfl (lvA5 hl) ?_
          refine lv_icmp_ge (tgt := 111) hx hb (oc_162 38 (aq_13 shX12_driven_25) sgw_0_73) rfl (fun c_4 => ?_) (fun c_4 => ?_)
          ·
            have tc_4 : ((nI d0).toInt : Int) ≤ (nI i35).toInt := Int32.le_iff_toInt_le.mp c_4
            refine lv_iload_n hx hb (oc_28 111 (aq_11 shX12_driven_100)) rfl (lvA3 hl) ?_
            refine lv_iload_n hx hb (oc_29 112 (aq_12 shX12_driven_100)) rfl (lvA2 hl) ?_
            refine lv_iadd hx hb (oc_96 113 (aq_13 shX12_driven_100)) ?_
            refine lv_iload hx hb (oc_21 114 (aq_14 shX12_driven_100) ub_4) (lvA1 hl) ?_
            refine lv_iadd hx hb (oc_96 116 (aq_16 shX12_driven_100)) ?_
            exact W.iret (v := ((x35_2 + x35_3) + x35_4)) hx hb hr (fun t ht hW => ⟨⟨((x35_2 + x35_3) + x35_4), ((va_up cn 18 0), In, Fn), rfl, ⟨(Fr.mo (Fr.c 18 Fr.rf) (sbl rfl) (sbl rfl) (sbl rfl)), (IM.fr (In := In) hI (Fr.c 18 Fr.rf) (by decide) (by decide)), (by show (va_up cn 18 0) 18 ≤ 200; show 0 ≤ 200; (first | omega | (have zz0 := Hid.u hi_cn; omega)))⟩, by rw [ht]; exact hP, hD⟩, hS.F ht⟩) hS.2.2 (oc_172 117 (aq_17 shX12_driven_100))
          ·
            have tc_4 : ((nI i35).toInt : Int) < (nI d0).toInt := Int32.lt_iff_toInt_lt.mp (Int32.not_le.mp c_4)
            refine lv_aload_n hx hb (oc_42 41 (aq_16 shX12_driven_25)) rfl (lvA4 hl) ?_
            refine gM_52 S hK hP (v := .ref (g 17)) rfl (oc_180 42 (aq_17 shX12_driven_25) uw_0_52) ?_
            refine lv_iload hx hb (oc_21 45 (aq_20 shX12_driven_25) ub_5) (lvA0 hl) ?_
            have kb_1 : i35 < 200 := by (first | omega | (have zz0 := Hid.u hi_cn; omega))
            refine ldM_17 hx hb hK hP (x := ((Fn 17) i35)) (vp_in_nI kb_1 (ltb rfl)) (nI_clamp (Nat.lt_trans kb_1 (ltb rfl))) rfl (oc_51 47 (aq_22 shX12_driven_25)) ?_
            refine lv_sipush (v := 255) hx hb (oc_17 48 (aq_23 shX12_driven_25) sgw_0_255) (by decide) ?_
            refine lv_iand hx hb (oc_126 51 shX12_driven_51) ?_
            refine lv_istore (lv' := [(6, .int (((Fn 17) i35) &&& 255)), (5, .int (nI i35)), (4, .int x35_4), (3, .int x35_3), (2, .int x35_2), (0, .ref (g 100)), (1, .int (nI d0))]) hx hb (oc_54 52 (aq_1 shX12_driven_51) ub_6) hl (ltb rfl) rfl (fun ls hl => ?_)
            refine lv_aload_n hx hb (oc_42 54 (aq_3 shX12_driven_51)) rfl (lvA5 hl) ?_
            refine lv_iload hx hb (oc_21 55 (aq_4 shX12_driven_51) ub_6) (lvA0 hl) ?_
            refine vp_callSi (runV_ra (As := [.int (((Fn 17) i35) &&& 255)]) (rest := []) S (q_isKitchen l D cI cB cZ g (va_up cn 18 0) In Fn (((Fn 17) i35) &&& 255) (IM.fr (In := In) hI (Fr.c 18 Fr.rf) (by decide) (by decide))) kV_RX12_218 hK hP 0 rfl rfl rfl ⟨Nat.le_of_ble_eq_true rfl, Nat.le_of_ble_eq_true rfl⟩ ⟨Nat.le_of_ble_eq_true rfl, Nat.le_of_ble_eq_true rfl⟩ rfl hl.1 rfl (Nat.le_of_ble_eq_true rfl) (oc_182 57 (aq_6 shX12_driven_51) uw_0_218)) (fun r_5 h_6 => ?_)
            rcases h_6 with ⟨rfl, h_6⟩ | ⟨rfl, h_6⟩
            ·
              have h_6 : 0 ≤ (((Fn 17) i35) &&& 255).toInt ∧ (((Fn 17) i35) &&& 255).toInt < ((cn 1) : Int) := h_6
              refine lv_if_ne (tgt := 65) hx hb dX12_driven_60 rfl (fun _ => ?_) (fun h => absurd h cq_eq_1_0)
              refine lv_iload_n hx hb (oc_28 65 (aq_14 shX12_driven_51)) rfl (lvA4 hl) ?_
              refine lv_iload_n hx hb (oc_29 66 (aq_15 shX12_driven_51)) rfl (lvA3 hl) ?_
              refine lv_iload hx hb (oc_21 67 (aq_16 shX12_driven_51) ub_4) (lvA2 hl) ?_
              refine lv_aload_n hx hb (oc_42 69 (aq_18 shX12_driven_51)) rfl (lvA5 hl) ?_
              refine gM_7 S hK hP (v := .ref (g 3)) rfl (oc_180 70 (aq_19 shX12_driven_51) uw_0_7) ?_
              refine lv_iload hx hb (oc_21 73 (aq_22 shX12_driven_51) ub_6) (lvA0 hl) ?_
              refine ldM_3 hx hb hK hP (x := ((Fn 3) ((((Fn 17) i35) &&& 255).toNatClampNeg))) (vp_in_iff.mpr ⟨by (first | omega | (have zz0 := Hid.u hi_cn; omega)), by (first | omega | (have zz0 := Hid.u hi_cn; omega))⟩) rfl rfl (oc_46 75 shX12_driven_75) ?_
              refine lv_aload_n hx hb (oc_42 76 (aq_1 shX12_driven_75)) rfl (lvA5 hl) ?_
              refine gM_13 S hK hP (v := .ref (g 4)) rfl (oc_180 77 (aq_2 shX12_driven_75) uw_0_13) ?_
              refine lv_iload hx hb (oc_21 80 (aq_5 shX12_driven_75) ub_6) (lvA0 hl) ?_
              refine ldM_4 hx hb hK hP (x := ((Fn 4) ((((Fn 17) i35) &&& 255).toNatClampNeg))) (vp_in_iff.mpr ⟨by (first | omega | (have zz0 := Hid.u hi_cn; omega)), by (first | omega | (have zz0 := Hid.u hi_cn; omega))⟩) rfl rfl (oc_46 82 (aq_7 shX12_driven_75)) ?_
              refine vp_callSi (runS_r (As := [.int x35_3, .int x35_4, .int ((Fn 3) ((((Fn 17) i35) &&& 255).toNatClampNeg)), .int ((Fn 4) ((((Fn 17) i35) &&& 255).toNatClampNeg))]) (rest := [.int x35_2]) S (q_apart l D cI cB cZ x35_3 x35_4 ((Fn 3) ((((Fn 17) i35) &&& 255).toNatClampNeg)) ((Fn 4) ((((Fn 17) i35) &&& 255).toNatClampNeg)) ) kS_RX12_360 hK hP [] rfl ⟨Nat.le_of_ble_eq_true rfl, Nat.le_of_ble_eq_true rfl⟩ ⟨Nat.le_of_ble_eq_true rfl, Nat.le_of_ble_eq_true rfl⟩ rfl hl.1 rfl (Nat.le_of_ble_eq_true rfl) (oc_184 83 (aq_8 shX12_driven_75) uw_1_104)) (fun r_7 h_8 => ?_)
              subst h_8
              refine lv_iadd hx hb (oc_96 86 (aq_11 shX12_driven_75)) ?_
              refine lv_istore_n (lv' := [(2, .int (x35_2 + (apM x35_3 x35_4 ((Fn 3) ((((Fn 17) i35) &&& 255).toNatClampNeg)) ((Fn 4) ((((Fn 17) i35) &&& 255).toNatClampNeg))))), (6, .int (((Fn 17) i35) &&& 255)), (5, .int (nI i35)), (4, .int x35_4), (3, .int x35_3), (0, .ref (g 100)), (1, .int (nI d0))]) hx hb (oc_61 87 (aq_12 shX12_driven_75)) rfl hl (ltb rfl) rfl (fun ls hl => ?_)
              refine lv_aload_n hx hb (oc_42 88 (aq_13 shX12_driven_75)) rfl (lvA5 hl) ?_
              refine gM_7 S hK hP (v := .ref (g 3)) rfl (oc_180 89 (aq_14 shX12_driven_75) uw_0_7) ?_
              refine lv_iload hx hb (oc_21 92 (aq_17 shX12_driven_75) ub_6) (lvA1 hl) ?_
              refine ldM_3 hx hb hK hP (x := ((Fn 3) ((((Fn 17) i35) &&& 255).toNatClampNeg))) (vp_in_iff.mpr ⟨by (first | omega | (have zz0 := Hid.u hi_cn; omega)), by (first | omega | (have zz0 := Hid.u hi_cn; omega))⟩) rfl rfl (oc_46 94 (aq_19 shX12_driven_75)) ?_
              refine lv_istore_n (lv' := [(3, .int ((Fn 3) ((((Fn 17) i35) &&& 255).toNatClampNeg))), (2, .int (x35_2 + (apM x35_3 x35_4 ((Fn 3) ((((Fn 17) i35) &&& 255).toNatClampNeg)) ((Fn 4) ((((Fn 17) i35) &&& 255).toNatClampNeg))))), (6, .int (((Fn 17) i35) &&& 255)), (5, .int (nI i35)), (4, .int x35_4), (0, .ref (g 100)), (1, .int (nI d0))]) hx hb (oc_62 95 (aq_20 shX12_driven_75)) rfl hl (ltb rfl) rfl (fun ls hl => ?_)
              refine lv_aload_n hx hb (oc_42 96 (aq_21 shX12_driven_75)) rfl (lvA5 hl) ?_
              refine gM_13 S hK hP (v := .ref (g 4)) rfl (oc_180 97 (aq_22 shX12_driven_75) uw_0_13) ?_
              refine lv_iload hx hb (oc_21 100 shX12_driven_100 ub_6) (lvA2 hl) ?_
              refine ldM_4 hx hb hK hP (x := ((Fn 4) ((((Fn 17) i35) &&& 255).toNatClampNeg))) (vp_in_iff.mpr ⟨by (first | omega | (have zz0 := Hid.u hi_cn; omega)), by (first | omega | (have zz0 := Hid.u hi_cn; omega))⟩) rfl rfl (oc_46 102 (aq_2 shX12_driven_100)) ?_
              refine lv_istore (lv' := [(4, .int ((Fn 4) ((((Fn 17) i35) &&& 255).toNatClampNeg))), (3, .int ((Fn 3) ((((Fn 17) i35) &&& 255).toNatClampNeg))), (2, .int (x35_2 + (apM x35_3 x35_4 ((Fn 3) ((((Fn 17) i35) &&& 255).toNatClampNeg)) ((Fn 4) ((((Fn 17) i35) &&& 255).toNatClampNeg))))), (6, .int (((Fn 17) i35) &&& 255)), (5, .int (nI i35)), (0, .ref (g 100)), (1, .int (nI d0))]) hx hb (oc_54 103 (aq_3 shX12_driven_100) ub_4) hl (ltb rfl) rfl (fun ls hl => ?_)
              refine lv_iinc (v := (nI (i35 + 1))) (lv' := [(5, .int (nI (i35 + 1))), (4, .int ((Fn 4) ((((Fn 17) i35) &&& 255).toNatClampNeg))), (3, .int ((Fn 3) ((((Fn 17) i35) &&& 255).toNatClampNeg))), (2, .int (x35_2 + (apM x35_3 x35_4 ((Fn 3) ((((Fn 17) i35) &&& 255).toNatClampNeg)) ((Fn 4) ((((Fn 17) i35) &&& 255).toNatClampNeg))))), (6, .int (((Fn 17) i35) &&& 255)), (0, .ref (g 100)), (1, .int (nI d0))]) hx hb (oc_132 105 (aq_5 shX12_driven_100) ub_5 sgb_1) hl (k := 4) rfl (nI_1 _) (ltb rfl) rfl (fun ls hl => ?_)
              refine lv_goto (tgt := 35) hx hb (oc_167 108 (aq_8 shX12_driven_100) sgw_255_183) rfl ?_
              exact ih35 (i35 + 1) (x35_2 + (apM x35_3 x35_4 ((Fn 3) ((((Fn 17) i35) &&& 255).toNatClampNeg)) ((Fn 4) ((((Fn 17) i35) &&& 255).toNatClampNeg)))) ((Fn 3) ((((Fn 17) i35) &&& 255).toNatClampNeg)) ((Fn 4) ((((Fn 17) i35) &&& 255).toNatClampNeg)) (by (first | omega | (have zz0 := Hid.u hi_cn; omega))) (by (first | omega | (have zz0 := Hid.u hi_cn; omega))) ls (lv_sub hl [0, 1, 2, 3, 5, 6] rfl)
            ·
              have h_6 : ¬ (0 ≤ (((Fn 17) i35) &&& 255).toInt ∧ (((Fn 17) i35) &&& 255).toInt < ((cn 1) : Int)) := h_6
              refine lv_if_ne (tgt := 65) hx hb dX12_driven_60 rfl (fun h => absurd h cq_eq_0_0) (fun _ => ?_)
              refine lv_iconst (v := (-1)) hx hb (oc_2 63 (aq_12 shX12_driven_51)) kic_m1 ?_
              exact W.iret (v := (-1)) hx hb hr (fun t ht hW => ⟨⟨(-1), ((va_up cn 18 0), In, Fn), rfl, ⟨(Fr.mo (Fr.c 18 Fr.rf) (sbl rfl) (sbl rfl) (sbl rfl)), (IM.fr (In := In) hI (Fr.c 18 Fr.rf) (by decide) (by decide)), (by show (va_up cn 18 0) 18 ≤ 200; show 0 ≤ 200; (first | omega | (have zz0 := Hid.u hi_cn; omega)))⟩, by rw [ht]; exact hP, hD⟩, hS.F ht⟩) hS.2.2 (oc_172 64 (aq_13 shX12_driven_51))
      exact lp_35 _ 0 0 0 0 (Nat.lt_succ_self _) (by (first | omega | (have zz0 := Hid.u hi_cn; omega))) ls (lv_sub hl [0, 1, 2, 3, 4, 5] rfl)
    ·
      have tc_3 : ((nI (cn 18)).toInt : Int) < v0.toInt := Int32.lt_iff_toInt_lt.mp (Int32.not_le.mp c_3)
      refine lv_iconst (v := (-1)) hx hb dX12_driven_18 kic_m1 ?_
      exact W.iret (v := (-1)) hx hb hr (fun t ht hW => ⟨⟨(-1), (cn, In, Fn), rfl, ⟨(Fr.mo Fr.rf (sbl rfl) (sbl rfl) (sbl rfl)), hI, (by show cn 18 ≤ 200; show (cn 18) ≤ 200; (first | omega | (have zz0 := Hid.u hi_cn; omega)))⟩, by rw [ht]; exact hP, hD⟩, hS.F ht⟩) hS.2.2 dX12_driven_19
  ·
    have h_2 : ¬ (0 ≤ v0.toInt ∧ v0.toInt ≤ 20) := h_2
    refine lv_if_eq (tgt := 18) hx hb dX12_driven_7 rfl (fun _ => ?_) (fun h => absurd h cq_eq_0_0)
    refine lv_iconst (v := (-1)) hx hb dX12_driven_18 kic_m1 ?_
    exact W.iret (v := (-1)) hx hb hr (fun t ht hW => ⟨⟨(-1), (cn, In, Fn), rfl, ⟨(Fr.mo Fr.rf (sbl rfl) (sbl rfl) (sbl rfl)), hI, (by show cn 18 ≤ 200; show (cn 18) ≤ 200; (first | omega | (have zz0 := Hid.u hi_cn; omega)))⟩, by rw [ht]; exact hP, hD⟩, hS.F ht⟩) hS.2.2 dX12_driven_19
set_option maxRecDepth 100000 in
set_option maxHeartbeats 4000000 in
theorem q_check8 (l : Launch) (D : va_G) (cI cB cZ : ClassId) (g : Nat → Nat) (cn : Nat → Nat) (In : Nat → Int32) (Fn : Nat → Nat → Int32) (v0 v1 : Int32) (sz : Nat) (hI : IM cn Fn) (h18 : cn 18 ≤ 200) : Met l yX12_check (CWS yX12_check cX12_check 5 (some .int)) (RM 1 0 0) (PBw [.ref (g 100), .int v0, .int v1] D cI cB cZ (wM cI cB cZ g cn In Fn) sz) (va_Qi (fun (r : Int32) (u : (Nat → Nat) × (Nat → Int32) × (Nat → Nat → Int32)) => (fun r c2 I2 F2 => Fr [18] [] [] cn In Fn c2 I2 F2 ∧ IM c2 F2 ∧ (c2 18 ≤ 200)) r u.1 u.2.1 u.2.2) (fun (u : (Nat → Nat) × (Nat → Int32) × (Nat → Nat → Int32)) (t : State) => va_P D vwCl (wM cI cB cZ g u.1 u.2.1 u.2.2) t.heap ∧ va_D (va_A (wM cI cB cZ g cn In Fn) sz) (wM cI cB cZ g u.1 u.2.1 u.2.2)) (va_A (wM cI cB cZ g cn In Fn) sz)) 0 0 (va_A (wM cI cB cZ g cn In Fn) sz) := by
  refine en_w (fun A => (va_Qi (fun (r : Int32) (u : (Nat → Nat) × (Nat → Int32) × (Nat → Nat → Int32)) => (fun (r : Int32) (c2 : Nat → Nat) (I2 : Nat → Int32) (F2 : Nat → Nat → Int32) => Fr [18] [] [] cn In Fn c2 I2 F2 ∧ IM c2 F2 ∧ (c2 18 ≤ 200)) r u.1 u.2.1 u.2.2) (fun (u : (Nat → Nat) × (Nat → Int32) × (Nat → Nat → Int32)) (t : State) => va_P D vwCl (wM cI cB cZ g u.1 u.2.1 u.2.2) t.heap ∧ va_D A (wM cI cB cZ g u.1 u.2.1 u.2.2)) A)) rfl rfl pn_RX12 (Nat.le_of_ble_eq_true rfl) (fun p e s m below meth c A hx hb hml hown S hr hlocks hnm hA hP hK hD hS ls hl => ?_)
  have hl : lv_has ls 5 [(0, .ref (g 100)), (1, .int v0), (2, .int v1)] := hl
  have hi_cn : Hid (CB cn) := hI.b
  refine lv_aload_n hx hb (oc_42 0 shX12_check_0) rfl (lvA0 hl) ?_
  refine lv_iload_n hx hb (oc_27 1 (aq_1 shX12_check_0)) rfl (lvA1 hl) ?_
  refine vp_callSi (runV_ra (As := [.int v0]) (rest := []) S (q_isKitchen l D cI cB cZ g cn In Fn v0 hI) kV_RX12_218 hK hP 0 rfl rfl rfl ⟨Nat.le_of_ble_eq_true rfl, Nat.le_of_ble_eq_true rfl⟩ ⟨Nat.le_of_ble_eq_true rfl, Nat.le_of_ble_eq_true rfl⟩ rfl hl.1 rfl (Nat.le_of_ble_eq_true rfl) (oc_182 2 (aq_2 shX12_check_0) uw_0_218)) (fun r_1 h_2 => ?_)
  rcases h_2 with ⟨rfl, h_2⟩ | ⟨rfl, h_2⟩
  ·
    have h_2 : 0 ≤ v0.toInt ∧ v0.toInt < ((cn 1) : Int) := h_2
    refine lv_if_eq (tgt := 23) hx hb dX12_check_5 rfl (fun h => absurd h cq_eq_1_0) (fun _ => ?_)
    refine lv_iload_n hx hb (oc_28 8 (aq_8 shX12_check_0)) rfl (lvA2 hl) ?_
    refine lv_if_lt (tgt := 23) hx hb (oc_155 9 (aq_9 shX12_check_0) sgw_0_14) rfl (fun c_3 => ?_) (fun c_3 => ?_)
    ·
      have tc_3 : (v1.toInt : Int) < 0 := Int32.lt_iff_toInt_lt.mp c_3
      refine lv_bipush (v := (-2)) hx hb dX12_check_23 kbc_m2 ?_
      exact W.iret (v := (-2)) hx hb hr (fun t ht hW => ⟨⟨(-2), (cn, In, Fn), rfl, ⟨(Fr.mo Fr.rf (sbl rfl) (sbl rfl) (sbl rfl)), hI, (by show cn 18 ≤ 200; show (cn 18) ≤ 200; (first | omega | (have zz0 := Hid.u hi_cn; omega)))⟩, by rw [ht]; exact hP, hD⟩, hS.F ht⟩) hS.2.2 dX12_check_25
    ·
      have tc_3 : (0 : Int) ≤ v1.toInt := Int32.le_iff_toInt_le.mp (Int32.not_lt.mp c_3)
      refine lv_iload_n hx hb (oc_28 12 (aq_12 shX12_check_0)) rfl (lvA2 hl) ?_
      refine lv_aload_n hx hb (oc_42 13 (aq_13 shX12_check_0)) rfl (lvA0 hl) ?_
      refine gM_226 S hK hP (v := .int (nI (cn 18))) rfl (oc_180 14 (aq_14 shX12_check_0) uw_0_226) ?_
      refine lv_bipush (v := 16) hx hb (oc_16 17 (aq_17 shX12_check_0) sgb_16) kbc_16 ?_
      refine lv_idiv hx hb (oc_108 19 (aq_19 shX12_check_0)) (by decide) ?_
      refine lv_topi (fun y_4 ey_4 => ?_)
      obtain rfl : y_4 = (nI ((cn 18) / 16)) := ey_4.trans (nI_div (by (first | omega | (have zz0 := Hid.u hi_cn; omega))) (by decide))
      have : (nI ((cn 18) / 16)).toInt = ((((cn 18) / 16) : Nat) : Int) := nI_toInt (by (first | omega | (have zz0 := Hid.u hi_cn; omega)))
      refine lv_icmp_le (tgt := 26) hx hb (oc_164 20 (aq_20 shX12_check_0) sgw_0_6) rfl (fun c_5 => ?_) (fun c_5 => ?_)
      ·
        have tc_5 : (v1.toInt : Int) ≤ (nI ((cn 18) / 16)).toInt := Int32.le_iff_toInt_le.mp c_5
        obtain ⟨d1, hd1, rfl⟩ := nI_of (x := v1) (fun q => by have := Int32.lt_iff_toInt_lt.mp q; have e : (0 : Int32).toInt = 0 := rfl; (first | omega | (have zz0 := Hid.u hi_cn; omega)))
        have td1 : (nI d1).toInt = (d1 : Int) := nI_toInt hd1
        have zd1 : (nI d1).toInt.toNat = d1 := by (first | omega | (have zz0 := Hid.u hi_cn; omega))
        refine lv_aload_n hx hb (oc_42 26 (aq_1 shX12_check_25)) rfl (lvA0 hl) ?_
        refine lv_iconst (v := 0) hx hb (oc_3 27 (aq_2 shX12_check_25)) kic_0 ?_
        refine pM_226 S hK hP hD hS (a := 0) (cn2 := (va_up cn 18 0)) rfl rfl (oc_181 28 (aq_3 shX12_check_25) uw_0_226) (fun H locs hP hD hS => ?_)
        refine lv_iconst (v := 0) hx hb (oc_3 31 (aq_6 shX12_check_25)) kic_0 ?_
        refine lv_istore_n (lv' := [(3, .int 0), (0, .ref (g 100)), (1, .int v0), (2, .int (nI d1))]) hx hb (oc_62 32 (aq_7 shX12_check_25)) rfl hl (ltb rfl) rfl (fun ls hl => ?_)
        refine lv_iconst (v := 0) hx hb (oc_3 33 (aq_8 shX12_check_25)) kic_0 ?_
        refine lv_istore (lv' := [(4, .int 0), (3, .int 0), (0, .ref (g 100)), (1, .int v0), (2, .int (nI d1))]) hx hb (oc_54 34 (aq_9 shX12_check_25) ub_4) hl (ltb rfl) rfl (fun ls hl => ?_)
        have lp_36 : ∀ (n : Nat) (i36 : Nat) (n36 : Nat) , cn 2 - i36 < n → (i36 ≤ cn 2 ∧ (n36 % 4 = 0 ∧ n36 ≤ 4 * d1)) → ∀ ls : Array Slot, lv_has ls 5 [(4, .int (nI i36)), (3, .int (nI n36)), (0, .ref (g 100)), (1, .int v0), (2, .int (nI d1))] → W p l e (RM 1 0 0) s m ([.ref (g 100), .int v0, .int (nI d1)]).toArray below meth c H locs 0 0 (MQ below (va_Qi (fun (r : Int32) (u : (Nat → Nat) × (Nat → Int32) × (Nat → Nat → Int32)) => (fun r c2 I2 F2 => Fr [18] [] [] cn In Fn c2 I2 F2 ∧ IM c2 F2 ∧ (c2 18 ≤ 200)) r u.1 u.2.1 u.2.2) (fun (u : (Nat → Nat) × (Nat → Int32) × (Nat → Nat → Int32)) (t : State) => va_P D vwCl (wM cI cB cZ g u.1 u.2.1 u.2.2) t.heap ∧ va_D A (wM cI cB cZ g u.1 u.2.1 u.2.2)) A) ([.ref (g 100), .int v0, .int (nI d1)]).toArray s 0 0 A) (F0 m 36 ls []) := by
          intro n36
          induction n36 with
          | zero => intros; (first | omega | (have zz0 := Hid.u hi_cn; omega))
          | succ n36 ih36 =>
            intro i36 n36 hmu36 hinv36 ls hl
            obtain ⟨hr36, hx36_0⟩ := hinv36
            have ti36 : (nI i36).toInt = (i36 : Int) := nI_toInt (by (first | omega | (have zz0 := Hid.u hi_cn; omega)))
            refine lv_iload hx hb (oc_21 36 (aq_11 shX12_check_25) ub_4) (lvA0 hl) ?_
            refine lv_aload_n hx hb (oc_42 38 (aq_13 shX12_check_25)) rfl (lvA2 hl) ?_
            refine gM_208 S hK hP (v := .int (nI (cn 2))) rfl (oc_180 39 (aq_14 shX12_check_25) uw_0_208) ?_
            have : (nI (cn 2)).toInt = (((cn 2) : Nat) : Int) := nI_toInt (by (first | omega | (have zz0 := Hid.u hi_cn; omega)))
            refine lv_icmp_ge (tgt := 151) hx hb (oc_162 42 (aq_17 shX12_check_25) sgw_0_109) rfl (fun c_6 => ?_) (fun c_6 => ?_)
            ·
              have tc_6 : ((nI (cn 2)).toInt : Int) ≤ (nI i36).toInt := Int32.le_iff_toInt_le.mp c_6
              refine lv_iload_n hx hb (oc_29 151 (aq_6 shX12_check_145)) rfl (lvA1 hl) ?_
              refine lv_iconst (v := 4) hx hb (oc_7 152 (aq_7 shX12_check_145)) kic_4 ?_
              refine lv_iload_n hx hb (oc_28 153 (aq_8 shX12_check_145)) rfl (lvA4 hl) ?_
              refine lv_imul hx hb (oc_104 154 (aq_9 shX12_check_145)) ?_
              refine lv_topi (fun y_7 ey_7 => ?_)
              obtain rfl : y_7 = (nI (4 * d1)) := ey_7.trans (pk_mul 4 d1)
              have : (nI n36).toInt = ((n36 : Nat) : Int) := nI_toInt (by (first | omega | (have zz0 := Hid.u hi_cn; omega)))
              have : (nI (4 * d1)).toInt = (((4 * d1) : Nat) : Int) := nI_toInt (by (first | omega | (have zz0 := Hid.u hi_cn; omega)))
              refine lv_icmp_ge (tgt := 162) hx hb (oc_162 155 (aq_10 shX12_check_145) sgw_0_7) rfl (fun c_8 => ?_) (fun c_8 => ?_)
              ·
                have tc_8 : ((nI (4 * d1)).toInt : Int) ≤ (nI n36).toInt := Int32.le_iff_toInt_le.mp c_8
                refine lv_iconst (v := (-1)) hx hb (oc_2 162 (aq_17 shX12_check_145)) kic_m1 ?_
                exact W.iret (v := (-1)) hx hb hr (fun t ht hW => ⟨⟨(-1), ((va_up cn 18 0), In, Fn), rfl, ⟨(Fr.mo (Fr.c 18 Fr.rf) (sbl rfl) (sbl rfl) (sbl rfl)), (IM.fr (In := In) hI (Fr.c 18 Fr.rf) (by decide) (by decide)), (by show (va_up cn 18 0) 18 ≤ 200; show 0 ≤ 200; (first | omega | (have zz0 := Hid.u hi_cn; omega)))⟩, by rw [ht]; exact hP, hD⟩, hS.F ht⟩) hS.2.2 dX12_check_163
              ·
                have tc_8 : ((nI n36).toInt : Int) < (nI (4 * d1)).toInt := Int32.lt_iff_toInt_lt.mp (Int32.not_le.mp c_8)
                refine lv_iload_n hx hb (oc_29 158 (aq_13 shX12_check_145)) rfl (lvA1 hl) ?_
                refine lv_goto (tgt := 163) hx hb (oc_167 159 (aq_14 shX12_check_145) sgw_0_4) rfl ?_
                exact W.iret (v := (nI n36)) hx hb hr (fun t ht hW => ⟨⟨(nI n36), ((va_up cn 18 0), In, Fn), rfl, ⟨(Fr.mo (Fr.c 18 Fr.rf) (sbl rfl) (sbl rfl) (sbl rfl)), (IM.fr (In := In) hI (Fr.c 18 Fr.rf) (by decide) (by decide)), (by show (va_up cn 18 0) 18 ≤ 200; show 0 ≤ 200; (first | omega | (have zz0 := Hid.u hi_cn; omega)))⟩, by rw [ht]; exact hP, hD⟩, hS.F ht⟩) hS.2.2 dX12_check_163
            ·
              have tc_6 : ((nI i36).toInt : Int) < (nI (cn 2)).toInt := Int32.lt_iff_toInt_lt.mp (Int32.not_le.mp c_6)
              refine lv_aload_n hx hb (oc_42 45 (aq_20 shX12_check_25)) rfl (lvA2 hl) ?_
              refine gM_25 S hK hP (v := .ref (g 8)) rfl (oc_180 46 (aq_21 shX12_check_25) uw_0_25) ?_
              refine lv_iload hx hb (oc_21 49 shX12_check_49 ub_4) (lvA0 hl) ?_
              have kb_1 : i36 < 60 := by (first | omega | (have zz0 := Hid.u hi_cn; omega))
              obtain ⟨a_9, ha_9, ea_9⟩ := hI.e8 i36 (by (first | omega | (have zz0 := Hid.u hi_cn; omega)))
              refine ldM_8 hx hb hK hP (x := (nI a_9)) (vp_in_nI kb_1 (ltb rfl)) (nI_clamp (Nat.lt_trans kb_1 (ltb rfl))) ea_9 (oc_46 51 (aq_2 shX12_check_49)) ?_
              refine lv_iload_n hx hb (oc_27 52 (aq_3 shX12_check_49)) rfl (lvA3 hl) ?_
              have : (nI a_9).toInt = ((a_9 : Nat) : Int) := nI_toInt (by (first | omega | (have zz0 := Hid.u hi_cn; omega)))
              refine lv_icmp_eq (tgt := 59) hx hb (oc_159 53 (aq_4 shX12_check_49) sgw_0_6) rfl (fun c_10 => ?_) (fun c_10 => ?_)
              ·
                have tc_10 : ((nI a_9).toInt : Int) = v0.toInt := congrArg Int32.toInt c_10
                refine lv_iload_n hx hb (oc_29 59 (aq_10 shX12_check_49)) rfl (lvA1 hl) ?_
                refine lv_iconst (v := 4) hx hb (oc_7 60 (aq_11 shX12_check_49)) kic_4 ?_
                refine lv_iload_n hx hb (oc_28 61 (aq_12 shX12_check_49)) rfl (lvA4 hl) ?_
                refine lv_imul hx hb (oc_104 62 (aq_13 shX12_check_49)) ?_
                refine lv_topi (fun y_11 ey_11 => ?_)
                obtain rfl : y_11 = (nI (4 * d1)) := ey_11.trans (pk_mul 4 d1)
                have : (nI n36).toInt = ((n36 : Nat) : Int) := nI_toInt (by (first | omega | (have zz0 := Hid.u hi_cn; omega)))
                have : (nI (4 * d1)).toInt = (((4 * d1) : Nat) : Int) := nI_toInt (by (first | omega | (have zz0 := Hid.u hi_cn; omega)))
                refine lv_icmp_eq (tgt := 76) hx hb (oc_159 63 (aq_14 shX12_check_49) sgw_0_13) rfl (fun c_12 => ?_) (fun c_12 => ?_)
                ·
                  have tc_12 : ((nI n36).toInt : Int) = (nI (4 * d1)).toInt := congrArg Int32.toInt c_12
                  refine lv_iload_n hx hb dX12_check_76 rfl (lvA1 hl) ?_
                  exact W.iret (v := (nI n36)) hx hb hr (fun t ht hW => ⟨⟨(nI n36), ((va_up cn 18 0), In, Fn), rfl, ⟨(Fr.mo (Fr.c 18 Fr.rf) (sbl rfl) (sbl rfl) (sbl rfl)), (IM.fr (In := In) hI (Fr.c 18 Fr.rf) (by decide) (by decide)), (by show (va_up cn 18 0) 18 ≤ 200; show 0 ≤ 200; (first | omega | (have zz0 := Hid.u hi_cn; omega)))⟩, by rw [ht]; exact hP, hD⟩, hS.F ht⟩) hS.2.2 dX12_check_77
                ·
                  have tc_12 : ((nI n36).toInt : Int) ≠ (nI (4 * d1)).toInt := fun q => c_12 (Int32.toInt_inj.mp q)
                  refine lv_aload_n hx hb (oc_42 66 (aq_17 shX12_check_49)) rfl (lvA2 hl) ?_
                  refine lv_iload_n hx hb (oc_29 67 (aq_18 shX12_check_49)) rfl (lvA1 hl) ?_
                  refine vp_callSi (runV_ra (As := [.int (nI n36)]) (rest := []) S (q_tapeNumber l D cI cB cZ g (va_up cn 18 0) In Fn n36 (IM.fr (In := In) hI (Fr.c 18 Fr.rf) (by decide) (by decide)) (show 4 * n36 + 4 ≤ 200 by (first | omega | (have zz0 := Hid.u hi_cn; omega)))) kV_RX12_481 hK hP 0 rfl rfl rfl ⟨Nat.le_of_ble_eq_true rfl, Nat.le_of_ble_eq_true rfl⟩ ⟨Nat.le_of_ble_eq_true rfl, Nat.le_of_ble_eq_true rfl⟩ rfl hl.1 rfl (Nat.le_of_ble_eq_true rfl) (oc_182 68 (aq_19 shX12_check_49) uw_1_225)) (fun r_13 h_14 => ?_)
                  refine lv_iload hx hb (oc_21 71 (aq_22 shX12_check_49) ub_4) (lvA0 hl) ?_
                  refine lv_icmp_eq (tgt := 78) hx hb (oc_159 73 shX12_check_73 sgw_0_5) rfl (fun c_15 => ?_) (fun c_15 => ?_)
                  ·
                    have tc_15 : (r_13.toInt : Int) = (nI i36).toInt := congrArg Int32.toInt c_15
                    refine lv_aload_n hx hb (oc_42 78 (aq_5 shX12_check_73)) rfl (lvA2 hl) ?_
                    refine lv_iload_n hx hb (oc_29 79 (aq_6 shX12_check_73)) rfl (lvA1 hl) ?_
                    refine lv_iconst (v := 1) hx hb (oc_4 80 (aq_7 shX12_check_73)) kic_1 ?_
                    refine lv_iadd hx hb (oc_96 81 (aq_8 shX12_check_73)) ?_
                    refine lv_topi (fun y_16 ey_16 => ?_)
                    obtain rfl : y_16 = (nI (n36 + 1)) := ey_16.trans (nI_add n36 1)
                    refine vp_callSi (runV_ra (As := [.int (nI (n36 + 1))]) (rest := []) S (q_tapeNumber l D cI cB cZ g (va_up cn 18 0) In Fn (n36 + 1) (IM.fr (In := In) hI (Fr.c 18 Fr.rf) (by decide) (by decide)) (show 4 * (n36 + 1) + 4 ≤ 200 by (first | omega | (have zz0 := Hid.u hi_cn; omega)))) kV_RX12_481 hK hP 0 rfl rfl rfl ⟨Nat.le_of_ble_eq_true rfl, Nat.le_of_ble_eq_true rfl⟩ ⟨Nat.le_of_ble_eq_true rfl, Nat.le_of_ble_eq_true rfl⟩ rfl hl.1 rfl (Nat.le_of_ble_eq_true rfl) (oc_182 82 (aq_9 shX12_check_73) uw_1_225)) (fun r_17 h_18 => ?_)
                    refine lv_aload_n hx hb (oc_42 85 (aq_12 shX12_check_73)) rfl (lvA2 hl) ?_
                    refine gM_28 S hK hP (v := .ref (g 9)) rfl (oc_180 86 (aq_13 shX12_check_73) uw_0_28) ?_
                    refine lv_iload hx hb (oc_21 89 (aq_16 shX12_check_73) ub_4) (lvA0 hl) ?_
                    obtain ⟨a_19, ha_19, ea_19⟩ := hI.e9 i36 (by (first | omega | (have zz0 := Hid.u hi_cn; omega)))
                    refine ldM_9 hx hb hK hP (x := (nI a_19)) (vp_in_nI kb_1 (ltb rfl)) (nI_clamp (Nat.lt_trans kb_1 (ltb rfl))) ea_19 (oc_46 91 (aq_18 shX12_check_73)) ?_
                    have : (nI a_19).toInt = ((a_19 : Nat) : Int) := nI_toInt (by (first | omega | (have zz0 := Hid.u hi_cn; omega)))
                    refine lv_icmp_eq (tgt := 99) hx hb (oc_159 92 (aq_19 shX12_check_73) sgw_0_7) rfl (fun c_20 => ?_) (fun c_20 => ?_)
                    ·
                      have tc_20 : (r_17.toInt : Int) = (nI a_19).toInt := congrArg Int32.toInt c_20
                      refine lv_aload_n hx hb (oc_42 99 (aq_2 shX12_check_97)) rfl (lvA2 hl) ?_
                      refine lv_iload_n hx hb (oc_29 100 (aq_3 shX12_check_97)) rfl (lvA1 hl) ?_
                      refine lv_iconst (v := 2) hx hb (oc_5 101 (aq_4 shX12_check_97)) kic_2 ?_
                      refine lv_iadd hx hb (oc_96 102 (aq_5 shX12_check_97)) ?_
                      refine lv_topi (fun y_21 ey_21 => ?_)
                      obtain rfl : y_21 = (nI (n36 + 2)) := ey_21.trans (nI_add n36 2)
                      refine vp_callSi (runV_ra (As := [.int (nI (n36 + 2))]) (rest := []) S (q_tapeNumber l D cI cB cZ g (va_up cn 18 0) In Fn (n36 + 2) (IM.fr (In := In) hI (Fr.c 18 Fr.rf) (by decide) (by decide)) (show 4 * (n36 + 2) + 4 ≤ 200 by (first | omega | (have zz0 := Hid.u hi_cn; omega)))) kV_RX12_481 hK hP 0 rfl rfl rfl ⟨Nat.le_of_ble_eq_true rfl, Nat.le_of_ble_eq_true rfl⟩ ⟨Nat.le_of_ble_eq_true rfl, Nat.le_of_ble_eq_true rfl⟩ rfl hl.1 rfl (Nat.le_of_ble_eq_true rfl) (oc_182 103 (aq_6 shX12_check_97) uw_1_225)) (fun r_22 h_23 => ?_)
                      refine lv_aload_n hx hb (oc_42 106 (aq_9 shX12_check_97)) rfl (lvA2 hl) ?_
                      refine gM_31 S hK hP (v := .ref (g 10)) rfl (oc_180 107 (aq_10 shX12_check_97) uw_0_31) ?_
                      refine lv_iload hx hb (oc_21 110 (aq_13 shX12_check_97) ub_4) (lvA0 hl) ?_
                      obtain ⟨a_24, ha_24, ea_24⟩ := hI.e10 i36 (by (first | omega | (have zz0 := Hid.u hi_cn; omega)))
                      refine ldM_10 hx hb hK hP (x := (nI a_24)) (vp_in_nI kb_1 (ltb rfl)) (nI_clamp (Nat.lt_trans kb_1 (ltb rfl))) ea_24 (oc_46 112 (aq_15 shX12_check_97)) ?_
                      have : (nI a_24).toInt = ((a_24 : Nat) : Int) := nI_toInt (by (first | omega | (have zz0 := Hid.u hi_cn; omega)))
                      refine lv_icmp_eq (tgt := 120) hx hb (oc_159 113 (aq_16 shX12_check_97) sgw_0_7) rfl (fun c_25 => ?_) (fun c_25 => ?_)
                      ·
                        have tc_25 : (r_22.toInt : Int) = (nI a_24).toInt := congrArg Int32.toInt c_25
                        refine lv_aload_n hx hb (oc_42 120 (aq_23 shX12_check_97)) rfl (lvA2 hl) ?_
                        refine lv_iload_n hx hb (oc_29 121 shX12_check_121) rfl (lvA1 hl) ?_
                        refine lv_iconst (v := 3) hx hb (oc_6 122 (aq_1 shX12_check_121)) kic_3 ?_
                        refine lv_iadd hx hb (oc_96 123 (aq_2 shX12_check_121)) ?_
                        refine lv_topi (fun y_26 ey_26 => ?_)
                        obtain rfl : y_26 = (nI (n36 + 3)) := ey_26.trans (nI_add n36 3)
                        refine vp_callSi (runV_ra (As := [.int (nI (n36 + 3))]) (rest := []) S (q_tapeNumber l D cI cB cZ g (va_up cn 18 0) In Fn (n36 + 3) (IM.fr (In := In) hI (Fr.c 18 Fr.rf) (by decide) (by decide)) (show 4 * (n36 + 3) + 4 ≤ 200 by (first | omega | (have zz0 := Hid.u hi_cn; omega)))) kV_RX12_481 hK hP 0 rfl rfl rfl ⟨Nat.le_of_ble_eq_true rfl, Nat.le_of_ble_eq_true rfl⟩ ⟨Nat.le_of_ble_eq_true rfl, Nat.le_of_ble_eq_true rfl⟩ rfl hl.1 rfl (Nat.le_of_ble_eq_true rfl) (oc_182 124 (aq_3 shX12_check_121) uw_1_225)) (fun r_27 h_28 => ?_)
                        refine lv_aload_n hx hb (oc_42 127 (aq_6 shX12_check_121)) rfl (lvA2 hl) ?_
                        refine gM_43 S hK hP (v := .ref (g 14)) rfl (oc_180 128 (aq_7 shX12_check_121) uw_0_43) ?_
                        refine lv_iload hx hb (oc_21 131 (aq_10 shX12_check_121) ub_4) (lvA0 hl) ?_
                        refine ldM_14 hx hb hK hP (x := ((Fn 14) i36)) (vp_in_nI kb_1 (ltb rfl)) (nI_clamp (Nat.lt_trans kb_1 (ltb rfl))) rfl (oc_46 133 (aq_12 shX12_check_121)) ?_
                        refine lv_icmp_eq (tgt := 141) hx hb (oc_159 134 (aq_13 shX12_check_121) sgw_0_7) rfl (fun c_29 => ?_) (fun c_29 => ?_)
                        ·
                          have tc_29 : (r_27.toInt : Int) = ((Fn 14) i36).toInt := congrArg Int32.toInt c_29
                          refine lv_iload_n hx hb (oc_29 141 (aq_20 shX12_check_121)) rfl (lvA1 hl) ?_
                          refine lv_iconst (v := 4) hx hb (oc_7 142 (aq_21 shX12_check_121)) kic_4 ?_
                          refine lv_iadd hx hb (oc_96 143 (aq_22 shX12_check_121)) ?_
                          refine lv_topi (fun y_30 ey_30 => ?_)
                          obtain rfl : y_30 = (nI (n36 + 4)) := ey_30.trans (nI_add n36 4)
                          refine lv_istore_n (lv' := [(3, .int (nI (n36 + 4))), (4, .int (nI i36)), (0, .ref (g 100)), (1, .int v0), (2, .int (nI d1))]) hx hb (oc_62 144 (aq_23 shX12_check_121)) rfl hl (ltb rfl) rfl (fun ls hl => ?_)
                          refine lv_iinc (v := (nI (i36 + 1))) (lv' := [(4, .int (nI (i36 + 1))), (3, .int (nI (n36 + 4))), (0, .ref (g 100)), (1, .int v0), (2, .int (nI d1))]) hx hb dX12_check_145 hl (k := 1) rfl (nI_1 _) (ltb rfl) rfl (fun ls hl => ?_)
                          refine lv_goto (tgt := 36) hx hb dX12_check_148 rfl ?_
                          exact ih36 (i36 + 1) (n36 + 4) (by (first | omega | (have zz0 := Hid.u hi_cn; omega))) ⟨(by (first | omega | (have zz0 := Hid.u hi_cn; omega))), ⟨by (first | omega | (have zz0 := Hid.u hi_cn; omega)), by (first | omega | (have zz0 := Hid.u hi_cn; omega))⟩⟩ ls (lv_sub hl [0, 1, 2, 3, 4] rfl)
                        ·
                          have tc_29 : (r_27.toInt : Int) ≠ ((Fn 14) i36).toInt := fun q => c_29 (Int32.toInt_inj.mp q)
                          refine lv_iload_n hx hb (oc_29 137 (aq_16 shX12_check_121)) rfl (lvA1 hl) ?_
                          refine lv_iconst (v := 3) hx hb (oc_6 138 (aq_17 shX12_check_121)) kic_3 ?_
                          refine lv_iadd hx hb (oc_96 139 (aq_18 shX12_check_121)) ?_
                          refine lv_topi (fun y_31 ey_31 => ?_)
                          obtain rfl : y_31 = (nI (n36 + 3)) := ey_31.trans (nI_add n36 3)
                          exact W.iret (v := (nI (n36 + 3))) hx hb hr (fun t ht hW => ⟨⟨(nI (n36 + 3)), ((va_up cn 18 0), In, Fn), rfl, ⟨(Fr.mo (Fr.c 18 Fr.rf) (sbl rfl) (sbl rfl) (sbl rfl)), (IM.fr (In := In) hI (Fr.c 18 Fr.rf) (by decide) (by decide)), (by show (va_up cn 18 0) 18 ≤ 200; show 0 ≤ 200; (first | omega | (have zz0 := Hid.u hi_cn; omega)))⟩, by rw [ht]; exact hP, hD⟩, hS.F ht⟩) hS.2.2 (oc_172 140 (aq_19 shX12_check_121))
                      ·
                        have tc_25 : (r_22.toInt : Int) ≠ (nI a_24).toInt := fun q => c_25 (Int32.toInt_inj.mp q)
                        refine lv_iload_n hx hb (oc_29 116 (aq_19 shX12_check_97)) rfl (lvA1 hl) ?_
                        refine lv_iconst (v := 2) hx hb (oc_5 117 (aq_20 shX12_check_97)) kic_2 ?_
                        refine lv_iadd hx hb (oc_96 118 (aq_21 shX12_check_97)) ?_
                        refine lv_topi (fun y_32 ey_32 => ?_)
                        obtain rfl : y_32 = (nI (n36 + 2)) := ey_32.trans (nI_add n36 2)
                        exact W.iret (v := (nI (n36 + 2))) hx hb hr (fun t ht hW => ⟨⟨(nI (n36 + 2)), ((va_up cn 18 0), In, Fn), rfl, ⟨(Fr.mo (Fr.c 18 Fr.rf) (sbl rfl) (sbl rfl) (sbl rfl)), (IM.fr (In := In) hI (Fr.c 18 Fr.rf) (by decide) (by decide)), (by show (va_up cn 18 0) 18 ≤ 200; show 0 ≤ 200; (first | omega | (have zz0 := Hid.u hi_cn; omega)))⟩, by rw [ht]; exact hP, hD⟩, hS.F ht⟩) hS.2.2 (oc_172 119 (aq_22 shX12_check_97))
                    ·
                      have tc_20 : (r_17.toInt : Int) ≠ (nI a_19).toInt := fun q => c_20 (Int32.toInt_inj.mp q)
                      refine lv_iload_n hx hb (oc_29 95 (aq_22 shX12_check_73)) rfl (lvA1 hl) ?_
                      refine lv_iconst (v := 1) hx hb (oc_4 96 (aq_23 shX12_check_73)) kic_1 ?_
                      refine lv_iadd hx hb (oc_96 97 shX12_check_97) ?_
                      refine lv_topi (fun y_33 ey_33 => ?_)
                      obtain rfl : y_33 = (nI (n36 + 1)) := ey_33.trans (nI_add n36 1)
                      exact W.iret (v := (nI (n36 + 1))) hx hb hr (fun t ht hW => ⟨⟨(nI (n36 + 1)), ((va_up cn 18 0), In, Fn), rfl, ⟨(Fr.mo (Fr.c 18 Fr.rf) (sbl rfl) (sbl rfl) (sbl rfl)), (IM.fr (In := In) hI (Fr.c 18 Fr.rf) (by decide) (by decide)), (by show (va_up cn 18 0) 18 ≤ 200; show 0 ≤ 200; (first | omega | (have zz0 := Hid.u hi_cn; omega)))⟩, by rw [ht]; exact hP, hD⟩, hS.F ht⟩) hS.2.2 (oc_172 98 (aq_1 shX12_check_97))
                  ·
                    have tc_15 : (r_13.toInt : Int) ≠ (nI i36).toInt := fun q => c_15 (Int32.toInt_inj.mp q)
                    refine lv_iload_n hx hb dX12_check_76 rfl (lvA1 hl) ?_
                    exact W.iret (v := (nI n36)) hx hb hr (fun t ht hW => ⟨⟨(nI n36), ((va_up cn 18 0), In, Fn), rfl, ⟨(Fr.mo (Fr.c 18 Fr.rf) (sbl rfl) (sbl rfl) (sbl rfl)), (IM.fr (In := In) hI (Fr.c 18 Fr.rf) (by decide) (by decide)), (by show (va_up cn 18 0) 18 ≤ 200; show 0 ≤ 200; (first | omega | (have zz0 := Hid.u hi_cn; omega)))⟩, by rw [ht]; exact hP, hD⟩, hS.F ht⟩) hS.2.2 dX12_check_77
              ·
                have tc_10 : ((nI a_9).toInt : Int) ≠ v0.toInt := fun q => c_10 (Int32.toInt_inj.mp q)
                refine lv_goto (tgt := 145) hx hb (oc_167 56 (aq_7 shX12_check_49) sgw_0_89) rfl ?_
                refine lv_iinc (v := (nI (i36 + 1))) (lv' := [(4, .int (nI (i36 + 1))), (3, .int (nI n36)), (0, .ref (g 100)), (1, .int v0), (2, .int (nI d1))]) hx hb dX12_check_145 hl (k := 0) rfl (nI_1 _) (ltb rfl) rfl (fun ls hl => ?_)
                refine lv_goto (tgt := 36) hx hb dX12_check_148 rfl ?_
                exact ih36 (i36 + 1) n36 (by (first | omega | (have zz0 := Hid.u hi_cn; omega))) ⟨(by (first | omega | (have zz0 := Hid.u hi_cn; omega))), ⟨by (first | omega | (have zz0 := Hid.u hi_cn; omega)), by (first | omega | (have zz0 := Hid.u hi_cn; omega))⟩⟩ ls (lv_sub hl [0, 1, 2, 3, 4] rfl)
        exact lp_36 _ 0 0 (Nat.lt_succ_self _) ⟨(by (first | omega | (have zz0 := Hid.u hi_cn; omega))), ⟨rfl, Nat.zero_le _⟩⟩ ls (lv_sub hl [0, 1, 2, 3, 4] rfl)
      ·
        have tc_5 : ((nI ((cn 18) / 16)).toInt : Int) < v1.toInt := Int32.lt_iff_toInt_lt.mp (Int32.not_le.mp c_5)
        refine lv_bipush (v := (-2)) hx hb dX12_check_23 kbc_m2 ?_
        exact W.iret (v := (-2)) hx hb hr (fun t ht hW => ⟨⟨(-2), (cn, In, Fn), rfl, ⟨(Fr.mo Fr.rf (sbl rfl) (sbl rfl) (sbl rfl)), hI, (by show cn 18 ≤ 200; show (cn 18) ≤ 200; (first | omega | (have zz0 := Hid.u hi_cn; omega)))⟩, by rw [ht]; exact hP, hD⟩, hS.F ht⟩) hS.2.2 dX12_check_25
  ·
    have h_2 : ¬ (0 ≤ v0.toInt ∧ v0.toInt < ((cn 1) : Int)) := h_2
    refine lv_if_eq (tgt := 23) hx hb dX12_check_5 rfl (fun _ => ?_) (fun h => absurd h cq_eq_0_0)
    refine lv_bipush (v := (-2)) hx hb dX12_check_23 kbc_m2 ?_
    exact W.iret (v := (-2)) hx hb hr (fun t ht hW => ⟨⟨(-2), (cn, In, Fn), rfl, ⟨(Fr.mo Fr.rf (sbl rfl) (sbl rfl) (sbl rfl)), hI, (by show cn 18 ≤ 200; show (cn 18) ≤ 200; (first | omega | (have zz0 := Hid.u hi_cn; omega)))⟩, by rw [ht]; exact hP, hD⟩, hS.F ht⟩) hS.2.2 dX12_check_25
set_option maxRecDepth 100000 in
set_option maxHeartbeats 4000000 in
theorem q_XsampleM (l : Launch) (D : va_G) (cI cB cZ : ClassId) (zz qq vv : Nat) (bt : Nat → Int32) (g : Nat → Nat) (ad : Nat → Nat → Nat) (cn : Nat → Nat) (In : Nat → Int32) (Fn : Nat → Nat → Int32) (v0 v1 : Int32) (sz : Nat) (hB : CBX cn) (hM : ∀ k : Nat, k < cn 12 → ∃ n : Nat, n ≤ 12 ∧ Fn 143 k = nI n) : Met l yX11_sample (CWS yX11_sample cX11_sample 4 (some .int)) (RM 4 0 0) (PBx [.ref (g 0), .int v0, .int v1] D cI cB cZ zz qq vv bt (wX cI (D.1 99) zz g ad cn In Fn) sz) (va_Qi (fun (r : Int32) (u : (Nat → Nat) × (Nat → Int32) × (Nat → Nat → Int32)) => (fun r c2 I2 F2 => Fr [] [] [143, 150] cn In Fn c2 I2 F2 ∧ CBX c2 ∧ (∀ k : Nat, k < c2 12 → ∃ n : Nat, n ≤ 12 ∧ F2 143 k = nI n)) r u.1 u.2.1 u.2.2) (fun (u : (Nat → Nat) × (Nat → Int32) × (Nat → Nat → Int32)) (t : State) => va_P D vwCl (wX cI (D.1 99) zz g ad u.1 u.2.1 u.2.2) t.heap ∧ va_D (va_A (wX cI (D.1 99) zz g ad cn In Fn) sz) (wX cI (D.1 99) zz g ad u.1 u.2.1 u.2.2)) (va_A (wX cI (D.1 99) zz g ad cn In Fn) sz)) 0 0 (va_A (wX cI (D.1 99) zz g ad cn In Fn) sz) := by
  refine en_x (fun A => (va_Qi (fun (r : Int32) (u : (Nat → Nat) × (Nat → Int32) × (Nat → Nat → Int32)) => (fun (r : Int32) (c2 : Nat → Nat) (I2 : Nat → Int32) (F2 : Nat → Nat → Int32) => Fr [] [] [143, 150] cn In Fn c2 I2 F2 ∧ CBX c2 ∧ (∀ k : Nat, k < c2 12 → ∃ n : Nat, n ≤ 12 ∧ F2 143 k = nI n)) r u.1 u.2.1 u.2.2) (fun (u : (Nat → Nat) × (Nat → Int32) × (Nat → Nat → Int32)) (t : State) => va_P D vwCl (wX cI (D.1 99) zz g ad u.1 u.2.1 u.2.2) t.heap ∧ va_D A (wX cI (D.1 99) zz g ad u.1 u.2.1 u.2.2)) A)) rfl rfl pn_RX11 (Nat.le_of_ble_eq_true rfl) (fun p e s m below meth c A hx hb hml hown S hr hlocks hnm hA hP hK hD hXS hS ls hl => ?_)
  have hl : lv_has ls 4 [(0, .ref (g 0)), (1, .int v0), (2, .int v1)] := hl
  have hb_cn : Hid (CBX cn) := hB
  replace hB : CBXh cn := hB
  refine lv_aload_n hx hb (oc_42 0 shX11_sample_0) rfl (lvA0 hl) ?_
  refine lv_iload_n hx hb (oc_27 1 (aq_1 shX11_sample_0)) rfl (lvA1 hl) ?_
  refine va_csq (runV_rxa (As := [.int v0]) (rest := []) S (q_XbatchAt l D cI cB cZ zz qq vv bt g ad cn In Fn v0 hB) kV_RX11_382 hK hXS hS hP 0 xo_0 rfl rfl ⟨Nat.le_of_ble_eq_true rfl, Nat.le_of_ble_eq_true rfl⟩ ⟨Nat.le_of_ble_eq_true rfl, Nat.le_of_ble_eq_true rfl⟩ rfl hl.1 rfl (Nat.le_of_ble_eq_true rfl) (oc_182 2 (aq_2 shX11_sample_0) uw_1_126)) (fun r_1 h_2 => ?_)
  rcases h_2 with ⟨mr_1, er_1, hr_1, rfl⟩ | ⟨hr_1, rfl⟩
  ·
    refine lv_astore_n (lv' := [(3, .ref (ad 12 mr_1)), (0, .ref (g 0)), (1, .int v0), (2, .int v1)]) hx hb dX11_sample_5 rfl hl (ltb rfl) rfl (fun ls hl => ?_)
    refine lv_aload_n hx hb dX11_sample_6 rfl (lvA0 hl) ?_
    refine lv_ifnull hx hb dX11_sample_7 ?_
    refine lv_iload_n hx hb (oc_28 10 (aq_10 shX11_sample_0)) rfl (lvA3 hl) ?_
    refine lv_iconst (v := 0) hx hb (oc_3 11 (aq_11 shX11_sample_0)) kic_0 ?_
    refine lv_sipush (v := 1000) hx hb (oc_17 12 (aq_12 shX11_sample_0) sgw_3_232) (by decide) ?_
    refine vp_callSi (runS_r (As := [.int v1, .int 0, .int 1000]) (rest := []) S (q_l_within l D cI cB cZ v1 0 1000) kS_RX11_80 hK hP [] rfl ⟨Nat.le_of_ble_eq_true rfl, Nat.le_of_ble_eq_true rfl⟩ ⟨Nat.le_of_ble_eq_true rfl, Nat.le_of_ble_eq_true rfl⟩ rfl hl.1 rfl (Nat.le_of_ble_eq_true rfl) (oc_184 15 (aq_15 shX11_sample_0) uw_0_80)) (fun r_3 h_4 => ?_)
    rcases h_4 with ⟨rfl, h_4⟩ | ⟨rfl, h_4⟩
    ·
      have h_4 : 0 ≤ v1.toInt ∧ v1.toInt ≤ 1000 := h_4
      refine lv_if_eq (tgt := 30) hx hb dX11_sample_18 rfl (fun h => absurd h cq_eq_1_0) (fun _ => ?_)
      refine lv_aload_n hx hb (oc_45 21 (aq_21 shX11_sample_0)) rfl (lvA0 hl) ?_
      have kf_1 : mr_1 < cn 12 := by (first | omega | (have zz0 := Hid.u hb_cn; omega))
      refine gf_RX11_441 S hK hP _ (xf_2 kf_1) (v := .int ((Fn 143) mr_1)) rfl (oc_180 22 (aq_22 shX11_sample_0) uw_1_185) ?_
      refine lv_bipush (v := 12) hx hb (oc_16 25 shX11_sample_25 sgb_12) kbc_12 ?_
      refine lv_icmp_lt (tgt := 32) hx hb (oc_161 27 (aq_2 shX11_sample_25) sgw_0_5) rfl (fun c_5 => ?_) (fun c_5 => ?_)
      ·
        have tc_5 : (((Fn 143) mr_1).toInt : Int) < 12 := Int32.lt_iff_toInt_lt.mp c_5
        obtain ⟨n9, hn9, en9⟩ := hM mr_1 (by (first | omega | (have zz0 := Hid.u hb_cn; omega)))
        have tn9 : (Fn 143 mr_1).toInt = (n9 : Int) := by rw [en9]; exact nI_toInt (by (first | omega | (have zz0 := Hid.u hb_cn; omega)))
        refine lv_aload_n hx hb (oc_45 32 (aq_7 shX11_sample_25)) rfl (lvA0 hl) ?_
        refine lv_iload_n hx hb (oc_28 33 (aq_8 shX11_sample_25)) rfl (lvA3 hl) ?_
        have hFc := free_all hD hS hA
        refine va_callv (runV_xa (As := [.int v1]) (rest := []) S (q_XaddSample l D cI cB cZ zz qq vv bt g ad cn In Fn mr_1 v1 s.heap.size hB (by (first | omega | (have zz0 := Hid.u hb_cn; omega)))) kV_RX11_444 hK hXS hS hFc hP hD _ (xf_2 kf_1) rfl rfl ⟨Nat.le_of_ble_eq_true rfl, Nat.le_of_ble_eq_true rfl⟩ ⟨Nat.le_of_ble_eq_true rfl, Nat.le_of_ble_eq_true rfl⟩ rfl hl.1 rfl (Nat.le_of_ble_eq_true rfl) (oc_182 34 (aq_9 shX11_sample_25) uw_1_188)) hS (fun q _ h => hFc q h) hFc (fun u t H1 locs ht hvm wh_7 hB1 hz1 hk1 hS => ?_)
        obtain ⟨cn7, In7, Fn7⟩ := u
        obtain ⟨hP1, hD1⟩ := hB1
        rw [ht] at hP1
        have hP : va_P D vwCl (wX cI (D.1 99) zz g ad cn7 In7 Fn7) H1 := hP1
        have hD : va_D A (wX cI (D.1 99) zz g ad cn7 In7 Fn7) := hD1.weaken (fun _ _ _ h => hFc _ h)
        generalize H1 = H at hP hS ⊢
        have vh_7 : (fun c2 I2 F2 => Fr [] [] [143, 150] cn In Fn c2 I2 F2 ∧ CBX c2 ∧ (F2 143 = upd ((Fn 143)) mr_1 ((Fn 143) mr_1 + 1))) cn7 In7 Fn7 := wh_7
        obtain ⟨hfc7, hIn7, h_7⟩ := vh_7
        obtain rfl : cn = cn7 := (funext (fun k => hfc7.1 k List.not_mem_nil)).symm
        obtain rfl : In = In7 := (funext (fun k => hfc7.2.1 k List.not_mem_nil)).symm
        have hf7 : Fr [] [] [143, 150] cn In Fn cn In Fn7 := Fr.mo (Fr.tr (Fr.rf (cn := cn) (In := In) (Fn := Fn)) hfc7) (sbl rfl) (sbl rfl) (sbl rfl)
        replace hIn7 : CBXh cn := hIn7
        refine lv_aload_n hx hb (oc_45 37 (aq_12 shX11_sample_25)) rfl (lvA0 hl) ?_
        refine gf_RX11_441 S hK hP _ (xf_2 kf_1) (v := .int ((Fn7 143) mr_1)) rfl (oc_180 38 (aq_13 shX11_sample_25) uw_1_185) ?_
        exact W.iret (v := ((Fn7 143) mr_1)) hx hb hr (fun t ht hW => ⟨⟨((Fn7 143) mr_1), (cn, In, Fn7), rfl, ⟨(Fr.mo hf7 (sbl rfl) (sbl rfl) (sbl rfl)), hIn7, (by show ∀ k : Nat, k < cn 12 → ∃ n : Nat, n ≤ 12 ∧ Fn7 143 k = nI n; intro j hj; rw [h_7]; exact (if q : j = mr_1 then (by subst q; exact ⟨n9 + 1, by (first | omega | (have zz0 := Hid.u hb_cn; omega)), by rw [upd_self, en9, nI_1]⟩) else (by rw [upd_nq q]; exact hM j hj)))⟩, by rw [ht]; exact hP, hD⟩, hS.F ht⟩) hS.2.2 (oc_172 41 (aq_16 shX11_sample_25))
      ·
        have tc_5 : (12 : Int) ≤ ((Fn 143) mr_1).toInt := Int32.le_iff_toInt_le.mp (Int32.not_lt.mp c_5)
        refine lv_iconst (v := (-1)) hx hb dX11_sample_30 kic_m1 ?_
        exact W.iret (v := (-1)) hx hb hr (fun t ht hW => ⟨⟨(-1), (cn, In, Fn), rfl, ⟨(Fr.mo Fr.rf (sbl rfl) (sbl rfl) (sbl rfl)), hB, (by show ∀ k : Nat, k < cn 12 → ∃ n : Nat, n ≤ 12 ∧ Fn 143 k = nI n; exact hM)⟩, by rw [ht]; exact hP, hD⟩, hS.F ht⟩) hS.2.2 dX11_sample_31
    ·
      have h_4 : ¬ (0 ≤ v1.toInt ∧ v1.toInt ≤ 1000) := h_4
      refine lv_if_eq (tgt := 30) hx hb dX11_sample_18 rfl (fun _ => ?_) (fun h => absurd h cq_eq_0_0)
      refine lv_iconst (v := (-1)) hx hb dX11_sample_30 kic_m1 ?_
      exact W.iret (v := (-1)) hx hb hr (fun t ht hW => ⟨⟨(-1), (cn, In, Fn), rfl, ⟨(Fr.mo Fr.rf (sbl rfl) (sbl rfl) (sbl rfl)), hB, (by show ∀ k : Nat, k < cn 12 → ∃ n : Nat, n ≤ 12 ∧ Fn 143 k = nI n; exact hM)⟩, by rw [ht]; exact hP, hD⟩, hS.F ht⟩) hS.2.2 dX11_sample_31
  ·
    refine lv_astore_nN (lv' := [(3, .null), (0, .ref (g 0)), (1, .int v0), (2, .int v1)]) hx hb dX11_sample_5 rfl hl (ltb rfl) rfl (fun ls hl => ?_)
    refine lv_aload_nN hx hb dX11_sample_6 rfl (lvA0 hl) ?_
    refine lv_ifnullN (tgt := 30) hx hb dX11_sample_7 rfl ?_
    refine lv_iconst (v := (-1)) hx hb dX11_sample_30 kic_m1 ?_
    exact W.iret (v := (-1)) hx hb hr (fun t ht hW => ⟨⟨(-1), (cn, In, Fn), rfl, ⟨(Fr.mo Fr.rf (sbl rfl) (sbl rfl) (sbl rfl)), hB, (by show ∀ k : Nat, k < cn 12 → ∃ n : Nat, n ≤ 12 ∧ Fn 143 k = nI n; exact hM)⟩, by rw [ht]; exact hP, hD⟩, hS.F ht⟩) hS.2.2 dX11_sample_31
