/-- the k-th drum's last move by the day t stands, and for at least v days -/
def SBP (f h g : Nat → Int32) (n : Nat) (t v : Int32) (k : Nat) : Prop := ∃ m : Nat, lat f g (nI k) t n = some m ∧ h m ≠ -1 ∧ v.toInt ≤ (t - g m).toInt
theorem SBP.eq {f h g f' h' g' : Nat → Int32} {n : Nat} {t v : Int32} {k : Nat} (e1 : ∀ i : Nat, i < n → f i = f' i) (e2 : ∀ i : Nat, i < n → h i = h' i) (e3 : ∀ i : Nat, i < n → g i = g' i) : SBP f h g n t v k ↔ SBP f' h' g' n t v k := by
  have el : lat f g (nI k) t n = lat f' g' (nI k) t n := lat_eq _ e1 e3
  constructor
  · rintro ⟨m, h1, h2, h3⟩
    have hl := lat_lt _ h1
    exact ⟨m, el.symm.trans h1, by rw [← e2 m hl]; exact h2, by rw [← e3 m hl]; exact h3⟩
  · rintro ⟨m, h1, h2, h3⟩
    have hl := lat_lt _ h1
    exact ⟨m, el.trans h1, by rw [e2 m hl]; exact h2, by rw [e3 m hl]; exact h3⟩



set_option maxRecDepth 100000 in
set_option maxHeartbeats 4000000 in
theorem q_Estale (l : Launch) (D : va_G) (cI cB cZ : ClassId) (zz qq vv : Nat) (bt : Nat → Int32) (g : Nat → Nat) (ad : Nat → Nat → Nat) (cn : Nat → Nat) (In : Nat → Int32) (Fn : Nat → Nat → Int32) (v0 : Int32) (hB : CBX cn) : Met l yX11_stale (CWS yX11_stale cX11_stale 6 (some .int)) (RM 4 0 0) (PBrx [.ref (g 0), .int v0] D cI cB cZ zz qq vv bt (wX cI (D.1 99) zz g ad cn In Fn)) (vp_Si (fun r => ((0 ≤ v0.toInt ∧ v0.toInt ≤ 399) ∧ BSB (SBP (Fn 180) (Fn 181) (Fn 182) (cn 15) (nI (cn 0)) v0) (cn 2) r) ∨ (¬ (0 ≤ v0.toInt ∧ v0.toInt ≤ 399) ∧ r = -1))) 0 0 (fun _ => False) := by
  refine en_rx rfl pn_RX11 (Nat.le_of_ble_eq_true rfl) (fun p e s m below meth c hx hb hml hown S hr hlocks hnm hP hK hXS hS ls hl => ?_)
  have hl : lv_has ls 6 [(0, .ref (g 0)), (1, .int v0)] := hl
  have hb_cn : Hid (CBX cn) := hB
  replace hB : CBXh cn := hB
  refine lv_iload_n hx hb (oc_27 0 shX11_stale_0) rfl (lvA1 hl) ?_
  refine lv_iconst (v := 0) hx hb (oc_3 1 (aq_1 shX11_stale_0)) kic_0 ?_
  refine lv_sipush (v := 399) hx hb (oc_17 2 (aq_2 shX11_stale_0) sgw_1_143) (by decide) ?_
  refine vp_callSi (runS_r (As := [.int v0, .int 0, .int 399]) (rest := []) S (q_l_within l D cI cB cZ v0 0 399) kS_RX11_80 hK hP [] rfl ⟨Nat.le_of_ble_eq_true rfl, Nat.le_of_ble_eq_true rfl⟩ ⟨Nat.le_of_ble_eq_true rfl, Nat.le_of_ble_eq_true rfl⟩ rfl hl.1 rfl (Nat.le_of_ble_eq_true rfl) (oc_184 5 (aq_5 shX11_stale_0) uw_0_80)) (fun r_1 h_2 => ?_)
  rcases h_2 with ⟨rfl, h_2⟩ | ⟨rfl, h_2⟩
  ·
    have h_2 : 0 ≤ v0.toInt ∧ v0.toInt ≤ 399 := h_2
    refine lv_if_ne (tgt := 13) hx hb dX11_stale_8 rfl (fun _ => ?_) (fun h => absurd h cq_eq_1_0)
    refine lv_iconst (v := 0) hx hb (oc_3 13 (aq_13 shX11_stale_0)) kic_0 ?_
    refine lv_istore_n (lv' := [(2, .int 0), (0, .ref (g 0)), (1, .int v0)]) hx hb (oc_61 14 (aq_14 shX11_stale_0)) rfl hl (ltb rfl) rfl (fun ls hl => ?_)
    refine lv_iconst (v := 0) hx hb (oc_3 15 (aq_15 shX11_stale_0)) kic_0 ?_
    refine lv_istore_n (lv' := [(3, .int 0), (2, .int 0), (0, .ref (g 0)), (1, .int v0)]) hx hb (oc_62 16 (aq_16 shX11_stale_0)) rfl hl (ltb rfl) rfl (fun ls hl => ?_)
    have lp_17 : ∀ (n : Nat) (i17 : Nat) (x17_2 : Int32) , cn 2 - i17 < n → (i17 ≤ cn 2 ∧ (BSB (SBP (Fn 180) (Fn 181) (Fn 182) (cn 15) (nI (cn 0)) v0) i17 x17_2)) → ∀ ls : Array Slot, lv_has ls 6 [(3, .int (nI i17)), (2, .int x17_2), (0, .ref (g 0)), (1, .int v0)] → W p l e (RM 4 0 0) s m ([.ref (g 0), .int v0]).toArray below meth c s.heap [] 0 0 (MQ below (vp_Si (fun r => ((0 ≤ v0.toInt ∧ v0.toInt ≤ 399) ∧ BSB (SBP (Fn 180) (Fn 181) (Fn 182) (cn 15) (nI (cn 0)) v0) (cn 2) r) ∨ (¬ (0 ≤ v0.toInt ∧ v0.toInt ≤ 399) ∧ r = -1))) ([.ref (g 0), .int v0]).toArray s 0 0 (fun _ => False)) (F0 m 17 ls []) := by
      intro n17
      induction n17 with
      | zero => intros; (first | omega | (have zz0 := Hid.u hb_cn; omega))
      | succ n17 ih17 =>
        intro i17 x17_2 hmu17 hinv17 ls hl
        obtain ⟨hr17, hx17_0⟩ := hinv17
        have ti17 : (nI i17).toInt = (i17 : Int) := nI_toInt (by (first | omega | (have zz0 := Hid.u hb_cn; omega)))
        refine lv_iload_n hx hb (oc_29 17 (aq_17 shX11_stale_0)) rfl (lvA0 hl) ?_
        refine lv_aload_n hx hb (oc_42 18 (aq_18 shX11_stale_0)) rfl (lvA2 hl) ?_
        refine gf_RX11_502 S hK hP 0 xo_0 (v := .int (nI (cn 2))) rfl (oc_180 19 (aq_19 shX11_stale_0) uw_1_246) ?_
        have : (nI (cn 2)).toInt = (((cn 2) : Nat) : Int) := nI_toInt (by (first | omega | (have zz0 := Hid.u hb_cn; omega)))
        refine lv_icmp_ge (tgt := 92) hx hb (oc_162 22 (aq_22 shX11_stale_0) sgw_0_70) rfl (fun c_3 => ?_) (fun c_3 => ?_)
        ·
          have tc_3 : ((nI (cn 2)).toInt : Int) ≤ (nI i17).toInt := Int32.le_iff_toInt_le.mp c_3
          refine lv_iload_n hx hb (oc_28 92 (aq_18 shX11_stale_74)) rfl (lvA1 hl) ?_
          exact W.iret (v := x17_2) hx hb hr (fun t ht hW => ⟨x17_2, rfl, (Or.inl ⟨by (first | omega | (have zz0 := Hid.u hb_cn; omega)), by have e9 : i17 = cn 2 := (by (first | omega | (have zz0 := Hid.u hb_cn; omega))); rw [← e9]; exact hx17_0⟩), ht⟩) (fun _ h => absurd h List.not_mem_nil) (oc_172 93 (aq_19 shX11_stale_74))
        ·
          have tc_3 : ((nI i17).toInt : Int) < (nI (cn 2)).toInt := Int32.lt_iff_toInt_lt.mp (Int32.not_le.mp c_3)
          refine lv_aload_n hx hb (oc_42 25 shX11_stale_25) rfl (lvA2 hl) ?_
          refine lv_iload_n hx hb (oc_29 26 (aq_1 shX11_stale_25)) rfl (lvA0 hl) ?_
          refine lv_aload_n hx hb (oc_42 27 (aq_2 shX11_stale_25)) rfl (lvA2 hl) ?_
          refine gf_RX11_103 S hK hP 0 xo_0 (v := .int (nI (cn 0))) rfl (oc_180 28 (aq_3 shX11_stale_25) uw_0_103) ?_
          refine va_csq (runV_rxa (As := [.int (nI i17), .int (nI (cn 0))]) (rest := []) S (q_EmoveBy l D cI cB cZ zz qq vv bt g ad cn In Fn (nI i17) (nI (cn 0)) hB) kV_RX11_509 hK hXS hS hP 0 xo_0 rfl rfl ⟨Nat.le_of_ble_eq_true rfl, Nat.le_of_ble_eq_true rfl⟩ ⟨Nat.le_of_ble_eq_true rfl, Nat.le_of_ble_eq_true rfl⟩ rfl hl.1 rfl (Nat.le_of_ble_eq_true rfl) (oc_182 31 (aq_6 shX11_stale_25) uw_1_253)) (fun r_4 h_5 => ?_)
          rcases h_5 with ⟨mr_4, er_4, hr_4, rfl⟩ | ⟨hr_4, rfl⟩
          ·
            refine lv_astore (lv' := [(4, .ref (ad 15 mr_4)), (3, .int (nI i17)), (2, .int x17_2), (0, .ref (g 0)), (1, .int v0)]) hx hb dX11_stale_34 hl (ltb rfl) rfl (fun ls hl => ?_)
            refine lv_aload hx hb dX11_stale_36 (lvA0 hl) ?_
            refine lv_ifnull hx hb dX11_stale_38 ?_
            refine lv_aload hx hb (oc_25 41 (aq_16 shX11_stale_25) ub_4) (lvA0 hl) ?_
            have kf_1 : mr_4 < cn 15 := by (first | omega | (have zz0 := Hid.u hb_cn; omega))
            refine gf_RX11_516 S hK hP _ (xf_5 kf_1) (v := .int ((Fn 181) mr_4)) rfl (oc_180 43 (aq_18 shX11_stale_25) uw_2_4) ?_
            refine lv_iconst (v := (-1)) hx hb (oc_2 46 (aq_21 shX11_stale_25)) kic_m1 ?_
            refine lv_icmp_eq (tgt := 54) hx hb (oc_159 47 (aq_22 shX11_stale_25) sgw_0_7) rfl (fun c_6 => ?_) (fun c_6 => ?_)
            ·
              have tc_6 : (((Fn 181) mr_4).toInt : Int) = (-1) := congrArg Int32.toInt c_6
              refine lv_iconst (v := 0) hx hb dX11_stale_54 kic_0 ?_
              refine lv_istore (lv' := [(5, .int 0), (4, .ref (ad 15 mr_4)), (3, .int (nI i17)), (2, .int x17_2), (0, .ref (g 0)), (1, .int v0)]) hx hb dX11_stale_55 hl (ltb rfl) rfl (fun ls hl => ?_)
              refine lv_iload_n hx hb dX11_stale_57 rfl (lvA3 hl) ?_
              refine lv_iload hx hb dX11_stale_58 (lvA0 hl) ?_
              refine lv_if_eq (tgt := 83) hx hb dX11_stale_60 rfl (fun _ => ?_) (fun h => absurd h cq_eq_0_0)
              refine lv_iconst (v := 0) hx hb dX11_stale_83 kic_0 ?_
              refine lv_ior hx hb dX11_stale_84 ?_
              refine lv_istore_n (lv' := [(2, .int (x17_2 ||| 0)), (5, .int 0), (4, .ref (ad 15 mr_4)), (3, .int (nI i17)), (0, .ref (g 0)), (1, .int v0)]) hx hb dX11_stale_85 rfl hl (ltb rfl) rfl (fun ls hl => ?_)
              refine lv_iinc (v := (nI (i17 + 1))) (lv' := [(3, .int (nI (i17 + 1))), (2, .int (x17_2 ||| 0)), (5, .int 0), (4, .ref (ad 15 mr_4)), (0, .ref (g 0)), (1, .int v0)]) hx hb dX11_stale_86 hl (k := 3) rfl (nI_1 _) (ltb rfl) rfl (fun ls hl => ?_)
              refine lv_goto (tgt := 17) hx hb dX11_stale_89 rfl ?_
              exact ih17 (i17 + 1) (x17_2 ||| 0) (by (first | omega | (have zz0 := Hid.u hb_cn; omega))) ⟨(by (first | omega | (have zz0 := Hid.u hb_cn; omega))), ⟨x17_2, hx17_0, Or.inr ⟨fun ⟨m9, h9, p9, q9⟩ => by have e9 := Option.some.inj (h9.symm.trans (show lat (Fn 180) (Fn 182) (nI i17) (nI (cn 0)) (cn 15) = some mr_4 by assumption)); rw [e9] at p9 q9; first | (first | omega | (have zz0 := Hid.u hb_cn; omega)) | exact p9 (m1_of (by (first | omega | (have zz0 := Hid.u hb_cn; omega)))), Int32.or_zero⟩⟩⟩ ls (lv_sub hl [0, 1, 4, 5] rfl)
            ·
              have tc_6 : (((Fn 181) mr_4).toInt : Int) ≠ (-1) := fun q => c_6 (Int32.toInt_inj.mp q)
              refine lv_iconst (v := 1) hx hb (oc_4 50 shX11_stale_50) kic_1 ?_
              refine lv_goto (tgt := 55) hx hb (oc_167 51 (aq_1 shX11_stale_50) sgw_0_4) rfl ?_
              refine lv_istore (lv' := [(5, .int 1), (4, .ref (ad 15 mr_4)), (3, .int (nI i17)), (2, .int x17_2), (0, .ref (g 0)), (1, .int v0)]) hx hb dX11_stale_55 hl (ltb rfl) rfl (fun ls hl => ?_)
              refine lv_iload_n hx hb dX11_stale_57 rfl (lvA3 hl) ?_
              refine lv_iload hx hb dX11_stale_58 (lvA0 hl) ?_
              refine lv_if_eq (tgt := 83) hx hb dX11_stale_60 rfl (fun h => absurd h cq_eq_1_0) (fun _ => ?_)
              refine lv_aload_n hx hb (oc_42 63 (aq_13 shX11_stale_50)) rfl (lvA4 hl) ?_
              refine gf_RX11_103 S hK hP 0 xo_0 (v := .int (nI (cn 0))) rfl (oc_180 64 (aq_14 shX11_stale_50) uw_0_103) ?_
              refine lv_aload hx hb (oc_25 67 (aq_17 shX11_stale_50) ub_4) (lvA1 hl) ?_
              refine gf_RX11_508 S hK hP _ (xf_5 kf_1) (v := .int ((Fn 182) mr_4)) rfl (oc_180 69 (aq_19 shX11_stale_50) uw_1_252) ?_
              refine lv_isub hx hb (oc_100 72 (aq_22 shX11_stale_50)) ?_
              refine lv_iload_n hx hb (oc_27 73 (aq_23 shX11_stale_50)) rfl (lvA5 hl) ?_
              refine lv_icmp_lt (tgt := 83) hx hb (oc_161 74 shX11_stale_74 sgw_0_9) rfl (fun c_7 => ?_) (fun c_7 => ?_)
              ·
                have tc_7 : (((nI (cn 0)) - ((Fn 182) mr_4)).toInt : Int) < v0.toInt := Int32.lt_iff_toInt_lt.mp c_7
                refine lv_iconst (v := 0) hx hb dX11_stale_83 kic_0 ?_
                refine lv_ior hx hb dX11_stale_84 ?_
                refine lv_istore_n (lv' := [(2, .int (x17_2 ||| 0)), (5, .int 1), (4, .ref (ad 15 mr_4)), (3, .int (nI i17)), (0, .ref (g 0)), (1, .int v0)]) hx hb dX11_stale_85 rfl hl (ltb rfl) rfl (fun ls hl => ?_)
                refine lv_iinc (v := (nI (i17 + 1))) (lv' := [(3, .int (nI (i17 + 1))), (2, .int (x17_2 ||| 0)), (5, .int 1), (4, .ref (ad 15 mr_4)), (0, .ref (g 0)), (1, .int v0)]) hx hb dX11_stale_86 hl (k := 3) rfl (nI_1 _) (ltb rfl) rfl (fun ls hl => ?_)
                refine lv_goto (tgt := 17) hx hb dX11_stale_89 rfl ?_
                exact ih17 (i17 + 1) (x17_2 ||| 0) (by (first | omega | (have zz0 := Hid.u hb_cn; omega))) ⟨(by (first | omega | (have zz0 := Hid.u hb_cn; omega))), ⟨x17_2, hx17_0, Or.inr ⟨fun ⟨m9, h9, p9, q9⟩ => by have e9 := Option.some.inj (h9.symm.trans (show lat (Fn 180) (Fn 182) (nI i17) (nI (cn 0)) (cn 15) = some mr_4 by assumption)); rw [e9] at p9 q9; first | (first | omega | (have zz0 := Hid.u hb_cn; omega)) | exact p9 (m1_of (by (first | omega | (have zz0 := Hid.u hb_cn; omega)))), Int32.or_zero⟩⟩⟩ ls (lv_sub hl [0, 1, 4, 5] rfl)
              ·
                have tc_7 : (v0.toInt : Int) ≤ ((nI (cn 0)) - ((Fn 182) mr_4)).toInt := Int32.le_iff_toInt_le.mp (Int32.not_lt.mp c_7)
                refine lv_iconst (v := 1) hx hb (oc_4 77 (aq_3 shX11_stale_74)) kic_1 ?_
                refine lv_iload_n hx hb (oc_29 78 (aq_4 shX11_stale_74)) rfl (lvA2 hl) ?_
                refine lv_ishl hx hb (oc_120 79 (aq_5 shX11_stale_74)) ?_
                refine lv_goto (tgt := 84) hx hb (oc_167 80 (aq_6 shX11_stale_74) sgw_0_4) rfl ?_
                refine lv_ior hx hb dX11_stale_84 ?_
                refine lv_istore_n (lv' := [(2, .int (x17_2 ||| (1 <<< ((nI i17) &&& 31)))), (5, .int 1), (4, .ref (ad 15 mr_4)), (3, .int (nI i17)), (0, .ref (g 0)), (1, .int v0)]) hx hb dX11_stale_85 rfl hl (ltb rfl) rfl (fun ls hl => ?_)
                refine lv_iinc (v := (nI (i17 + 1))) (lv' := [(3, .int (nI (i17 + 1))), (2, .int (x17_2 ||| (1 <<< ((nI i17) &&& 31)))), (5, .int 1), (4, .ref (ad 15 mr_4)), (0, .ref (g 0)), (1, .int v0)]) hx hb dX11_stale_86 hl (k := 3) rfl (nI_1 _) (ltb rfl) rfl (fun ls hl => ?_)
                refine lv_goto (tgt := 17) hx hb dX11_stale_89 rfl ?_
                exact ih17 (i17 + 1) (x17_2 ||| (1 <<< ((nI i17) &&& 31))) (by (first | omega | (have zz0 := Hid.u hb_cn; omega))) ⟨(by (first | omega | (have zz0 := Hid.u hb_cn; omega))), ⟨x17_2, hx17_0, Or.inl ⟨⟨mr_4, by assumption, fun q9 => by have := m1_to q9; (first | omega | (have zz0 := Hid.u hb_cn; omega)), by (first | omega | (have zz0 := Hid.u hb_cn; omega))⟩, rfl⟩⟩⟩ ls (lv_sub hl [0, 1, 4, 5] rfl)
          ·
            refine lv_astoreN (lv' := [(4, .null), (3, .int (nI i17)), (2, .int x17_2), (0, .ref (g 0)), (1, .int v0)]) hx hb dX11_stale_34 hl (ltb rfl) rfl (fun ls hl => ?_)
            refine lv_aloadN hx hb dX11_stale_36 (lvA0 hl) ?_
            refine lv_ifnullN (tgt := 54) hx hb dX11_stale_38 rfl ?_
            refine lv_iconst (v := 0) hx hb dX11_stale_54 kic_0 ?_
            refine lv_istore (lv' := [(5, .int 0), (4, .null), (3, .int (nI i17)), (2, .int x17_2), (0, .ref (g 0)), (1, .int v0)]) hx hb dX11_stale_55 hl (ltb rfl) rfl (fun ls hl => ?_)
            refine lv_iload_n hx hb dX11_stale_57 rfl (lvA3 hl) ?_
            refine lv_iload hx hb dX11_stale_58 (lvA0 hl) ?_
            refine lv_if_eq (tgt := 83) hx hb dX11_stale_60 rfl (fun _ => ?_) (fun h => absurd h cq_eq_0_0)
            refine lv_iconst (v := 0) hx hb dX11_stale_83 kic_0 ?_
            refine lv_ior hx hb dX11_stale_84 ?_
            refine lv_istore_n (lv' := [(2, .int (x17_2 ||| 0)), (5, .int 0), (4, .null), (3, .int (nI i17)), (0, .ref (g 0)), (1, .int v0)]) hx hb dX11_stale_85 rfl hl (ltb rfl) rfl (fun ls hl => ?_)
            refine lv_iinc (v := (nI (i17 + 1))) (lv' := [(3, .int (nI (i17 + 1))), (2, .int (x17_2 ||| 0)), (5, .int 0), (4, .null), (0, .ref (g 0)), (1, .int v0)]) hx hb dX11_stale_86 hl (k := 3) rfl (nI_1 _) (ltb rfl) rfl (fun ls hl => ?_)
            refine lv_goto (tgt := 17) hx hb dX11_stale_89 rfl ?_
            exact ih17 (i17 + 1) (x17_2 ||| 0) (by (first | omega | (have zz0 := Hid.u hb_cn; omega))) ⟨(by (first | omega | (have zz0 := Hid.u hb_cn; omega))), ⟨x17_2, hx17_0, Or.inr ⟨fun ⟨m9, h9, _⟩ => (by have e9 := h9.symm.trans (show lat (Fn 180) (Fn 182) (nI i17) (nI (cn 0)) (cn 15) = none by assumption); cases e9), Int32.or_zero⟩⟩⟩ ls (lv_sub hl [0, 1, 4, 5] rfl)
    exact lp_17 _ 0 0 (Nat.lt_succ_self _) ⟨(by (first | omega | (have zz0 := Hid.u hb_cn; omega))), rfl⟩ ls (lv_sub hl [0, 1, 2, 3] rfl)
  ·
    have h_2 : ¬ (0 ≤ v0.toInt ∧ v0.toInt ≤ 399) := h_2
    refine lv_if_ne (tgt := 13) hx hb dX11_stale_8 rfl (fun h => absurd h cq_eq_0_0) (fun _ => ?_)
    refine lv_iconst (v := (-1)) hx hb (oc_2 11 (aq_11 shX11_stale_0)) kic_m1 ?_
    exact W.iret (v := (-1)) hx hb hr (fun t ht hW => ⟨(-1), rfl, (Or.inr ⟨by (first | omega | (have zz0 := Hid.u hb_cn; omega)), rfl⟩), ht⟩) (fun _ h => absurd h List.not_mem_nil) (oc_172 12 (aq_12 shX11_stale_0))
set_option maxRecDepth 100000 in
set_option maxHeartbeats 4000000 in
theorem q_stale9 (l : Launch) (D : va_G) (cI cB cZ : ClassId) (g : Nat → Nat) (cn : Nat → Nat) (In : Nat → Int32) (Fn : Nat → Nat → Int32) (v0 : Int32) (hI : IM cn Fn) : Met l yX12_stale (CWS yX12_stale cX12_stale 5 (some .int)) (RM 1 0 0) (PBr [.ref (g 100), .int v0] D cI cB cZ (wM cI cB cZ g cn In Fn)) (vp_Si (fun r => ((0 ≤ v0.toInt ∧ v0.toInt ≤ 399) ∧ BSB (SBP (Fn 59) (Fn 60) (Fn 61) (cn 58) (nI (cn 0)) v0) (cn 57) r) ∨ (¬ (0 ≤ v0.toInt ∧ v0.toInt ≤ 399) ∧ r = -1))) 0 0 (fun _ => False) := by
  refine en_r rfl pn_RX12 (Nat.le_of_ble_eq_true rfl) (fun p e s m below meth c hx hb hml hown S hr hlocks hnm hP hK hS ls hl => ?_)
  have hl : lv_has ls 5 [(0, .ref (g 100)), (1, .int v0)] := hl
  have hi_cn : Hid (CB cn) := hI.b
  refine lv_iload_n hx hb (oc_27 0 shX12_stale_0) rfl (lvA1 hl) ?_
  refine vp_callSi (runS_r (As := [.int v0]) (rest := []) S (q_isDay l D cI cB cZ v0 ) kS_RX12_341 hK hP [] rfl ⟨Nat.le_of_ble_eq_true rfl, Nat.le_of_ble_eq_true rfl⟩ ⟨Nat.le_of_ble_eq_true rfl, Nat.le_of_ble_eq_true rfl⟩ rfl hl.1 rfl (Nat.le_of_ble_eq_true rfl) (oc_184 1 (aq_1 shX12_stale_0) uw_1_85)) (fun r_1 h_2 => ?_)
  rcases h_2 with ⟨rfl, h_2⟩ | ⟨rfl, h_2⟩
  ·
    have h_2 : 0 ≤ v0.toInt ∧ v0.toInt ≤ 399 := h_2
    refine lv_if_ne (tgt := 9) hx hb dX12_stale_4 rfl (fun _ => ?_) (fun h => absurd h cq_eq_1_0)
    refine lv_iconst (v := 0) hx hb (oc_3 9 (aq_9 shX12_stale_0)) kic_0 ?_
    refine lv_istore_n (lv' := [(2, .int 0), (0, .ref (g 100)), (1, .int v0)]) hx hb (oc_61 10 (aq_10 shX12_stale_0)) rfl hl (ltb rfl) rfl (fun ls hl => ?_)
    refine lv_iconst (v := 0) hx hb (oc_3 11 (aq_11 shX12_stale_0)) kic_0 ?_
    refine lv_istore_n (lv' := [(3, .int 0), (2, .int 0), (0, .ref (g 100)), (1, .int v0)]) hx hb (oc_62 12 (aq_12 shX12_stale_0)) rfl hl (ltb rfl) rfl (fun ls hl => ?_)
    have lp_13 : ∀ (n : Nat) (i13 : Nat) (x13_2 : Int32) , cn 57 - i13 < n → (i13 ≤ cn 57 ∧ (BSB (SBP (Fn 59) (Fn 60) (Fn 61) (cn 58) (nI (cn 0)) v0) i13 x13_2)) → ∀ ls : Array Slot, lv_has ls 5 [(3, .int (nI i13)), (2, .int x13_2), (0, .ref (g 100)), (1, .int v0)] → W p l e (RM 1 0 0) s m ([.ref (g 100), .int v0]).toArray below meth c s.heap [] 0 0 (MQ below (vp_Si (fun r => ((0 ≤ v0.toInt ∧ v0.toInt ≤ 399) ∧ BSB (SBP (Fn 59) (Fn 60) (Fn 61) (cn 58) (nI (cn 0)) v0) (cn 57) r) ∨ (¬ (0 ≤ v0.toInt ∧ v0.toInt ≤ 399) ∧ r = -1))) ([.ref (g 100), .int v0]).toArray s 0 0 (fun _ => False)) (F0 m 13 ls []) := by
      intro n13
      induction n13 with
      | zero => intros; (first | omega | (have zz0 := Hid.u hi_cn; omega))
      | succ n13 ih13 =>
        intro i13 x13_2 hmu13 hinv13 ls hl
        obtain ⟨hr13, hx13_0⟩ := hinv13
        have ti13 : (nI i13).toInt = (i13 : Int) := nI_toInt (by (first | omega | (have zz0 := Hid.u hi_cn; omega)))
        refine lv_iload_n hx hb (oc_29 13 (aq_13 shX12_stale_0)) rfl (lvA0 hl) ?_
        refine lv_aload_n hx hb (oc_42 14 (aq_14 shX12_stale_0)) rfl (lvA2 hl) ?_
        refine gM_407 S hK hP (v := .int (nI (cn 57))) rfl (oc_180 15 (aq_15 shX12_stale_0) uw_1_151) ?_
        have : (nI (cn 57)).toInt = (((cn 57) : Nat) : Int) := nI_toInt (by (first | omega | (have zz0 := Hid.u hi_cn; omega)))
        refine lv_icmp_ge (tgt := 77) hx hb (oc_162 18 (aq_18 shX12_stale_0) sgw_0_59) rfl (fun c_3 => ?_) (fun c_3 => ?_)
        ·
          have tc_3 : ((nI (cn 57)).toInt : Int) ≤ (nI i13).toInt := Int32.le_iff_toInt_le.mp c_3
          refine lv_iload_n hx hb (oc_28 77 (aq_3 shX12_stale_74)) rfl (lvA1 hl) ?_
          exact W.iret (v := x13_2) hx hb hr (fun t ht hW => ⟨x13_2, rfl, (Or.inl ⟨by (first | omega | (have zz0 := Hid.u hi_cn; omega)), by have e9 : i13 = cn 57 := (by (first | omega | (have zz0 := Hid.u hi_cn; omega))); rw [← e9]; exact hx13_0⟩), ht⟩) (fun _ h => absurd h List.not_mem_nil) (oc_172 78 (aq_4 shX12_stale_74))
        ·
          have tc_3 : ((nI i13).toInt : Int) < (nI (cn 57)).toInt := Int32.lt_iff_toInt_lt.mp (Int32.not_le.mp c_3)
          refine lv_aload_n hx hb (oc_42 21 (aq_21 shX12_stale_0)) rfl (lvA2 hl) ?_
          refine lv_iload_n hx hb (oc_29 22 (aq_22 shX12_stale_0)) rfl (lvA0 hl) ?_
          refine lv_aload_n hx hb (oc_42 23 (aq_23 shX12_stale_0)) rfl (lvA2 hl) ?_
          refine gM_211 S hK hP (v := .int (nI (cn 0))) rfl (oc_180 24 shX12_stale_24 uw_0_211) ?_
          refine vp_callSi (runV_ra (As := [.int (nI i13), .int (nI (cn 0))]) (rest := []) S (q_latest9 l D cI cB cZ g cn In Fn (nI i13) (nI (cn 0)) hI) kV_RX12_416 hK hP 0 rfl rfl rfl ⟨Nat.le_of_ble_eq_true rfl, Nat.le_of_ble_eq_true rfl⟩ ⟨Nat.le_of_ble_eq_true rfl, Nat.le_of_ble_eq_true rfl⟩ rfl hl.1 rfl (Nat.le_of_ble_eq_true rfl) (oc_182 27 (aq_3 shX12_stale_24) uw_1_160)) (fun r_4 h_5 => ?_)
          rcases h_5 with ⟨rfl, g8⟩ | ⟨m8, h8, rfl, g8⟩
          ·
            refine lv_istore (lv' := [(4, .int (-1)), (3, .int (nI i13)), (2, .int x13_2), (0, .ref (g 100)), (1, .int v0)]) hx hb dX12_stale_30 hl (ltb rfl) rfl (fun ls hl => ?_)
            refine lv_iload hx hb dX12_stale_32 (lvA0 hl) ?_
            refine lv_iconst (v := (-1)) hx hb dX12_stale_34 kic_m1 ?_
            refine lv_icmp_eq (tgt := 71) hx hb dX12_stale_35 rfl (fun _ => ?_) (fun h => absurd h cq_eq_m1_m1)
            refine lv_iinc (v := (nI (i13 + 1))) (lv' := [(3, .int (nI (i13 + 1))), (4, .int (-1)), (2, .int x13_2), (0, .ref (g 100)), (1, .int v0)]) hx hb dX12_stale_71 hl (k := 1) rfl (nI_1 _) (ltb rfl) rfl (fun ls hl => ?_)
            refine lv_goto (tgt := 13) hx hb dX12_stale_74 rfl ?_
            exact ih13 (i13 + 1) x13_2 (by (first | omega | (have zz0 := Hid.u hi_cn; omega))) ⟨(by (first | omega | (have zz0 := Hid.u hi_cn; omega))), ⟨x13_2, hx13_0, Or.inr ⟨fun ⟨m9, h9, _⟩ => (by have e9 := h9.symm.trans (show lat (Fn 59) (Fn 61) (nI i13) (nI (cn 0)) (cn 58) = none by assumption); cases e9), rfl⟩⟩⟩ ls (lv_sub hl [0, 2, 3, 4] rfl)
          ·
            have t8 : (nI m8).toInt = (m8 : Int) := nI_toInt (by (first | omega | (have zz0 := Hid.u hi_cn; omega)))
            refine lv_istore (lv' := [(4, .int (nI m8)), (3, .int (nI i13)), (2, .int x13_2), (0, .ref (g 100)), (1, .int v0)]) hx hb dX12_stale_30 hl (ltb rfl) rfl (fun ls hl => ?_)
            refine lv_iload hx hb dX12_stale_32 (lvA0 hl) ?_
            refine lv_iconst (v := (-1)) hx hb dX12_stale_34 kic_m1 ?_
            refine lv_icmp_eq (tgt := 71) hx hb dX12_stale_35 rfl (fun c_6 => False.elim (by have tc_6 : ((nI m8).toInt : Int) = (-1) := congrArg Int32.toInt c_6; (first | omega | (have zz0 := Hid.u hi_cn; omega)))) (fun c_6 => ?_)
            have tc_6 : ((nI m8).toInt : Int) ≠ (-1) := fun q => c_6 (Int32.toInt_inj.mp q)
            refine lv_aload_n hx hb (oc_42 38 (aq_14 shX12_stale_24)) rfl (lvA3 hl) ?_
            refine gM_132 S hK hP (v := .ref (g 60)) rfl (oc_180 39 (aq_15 shX12_stale_24) uw_0_132) ?_
            refine lv_iload hx hb (oc_21 42 (aq_18 shX12_stale_24) ub_4) (lvA0 hl) ?_
            have kb_1 : m8 < 60 := by (first | omega | (have zz0 := Hid.u hi_cn; omega))
            refine ldM_60 hx hb hK hP (x := ((Fn 60) m8)) (vp_in_nI kb_1 (ltb rfl)) (nI_clamp (Nat.lt_trans kb_1 (ltb rfl))) rfl (oc_46 44 (aq_20 shX12_stale_24)) ?_
            refine lv_iconst (v := (-1)) hx hb (oc_2 45 (aq_21 shX12_stale_24)) kic_m1 ?_
            refine lv_icmp_eq (tgt := 71) hx hb (oc_159 46 (aq_22 shX12_stale_24) sgw_0_25) rfl (fun c_7 => ?_) (fun c_7 => ?_)
            ·
              have tc_7 : (((Fn 60) m8).toInt : Int) = (-1) := congrArg Int32.toInt c_7
              refine lv_iinc (v := (nI (i13 + 1))) (lv' := [(3, .int (nI (i13 + 1))), (4, .int (nI m8)), (2, .int x13_2), (0, .ref (g 100)), (1, .int v0)]) hx hb dX12_stale_71 hl (k := 1) rfl (nI_1 _) (ltb rfl) rfl (fun ls hl => ?_)
              refine lv_goto (tgt := 13) hx hb dX12_stale_74 rfl ?_
              exact ih13 (i13 + 1) x13_2 (by (first | omega | (have zz0 := Hid.u hi_cn; omega))) ⟨(by (first | omega | (have zz0 := Hid.u hi_cn; omega))), ⟨x13_2, hx13_0, Or.inr ⟨fun ⟨m9, h9, p9, q9⟩ => by have e9 := Option.some.inj (h9.symm.trans (show lat (Fn 59) (Fn 61) (nI i13) (nI (cn 0)) (cn 58) = some m8 by assumption)); rw [e9] at p9 q9; first | (first | omega | (have zz0 := Hid.u hi_cn; omega)) | exact p9 (m1_of (by (first | omega | (have zz0 := Hid.u hi_cn; omega)))), rfl⟩⟩⟩ ls (lv_sub hl [0, 2, 3, 4] rfl)
            ·
              have tc_7 : (((Fn 60) m8).toInt : Int) ≠ (-1) := fun q => c_7 (Int32.toInt_inj.mp q)
              refine lv_aload_n hx hb (oc_42 49 shX12_stale_49) rfl (lvA3 hl) ?_
              refine gM_211 S hK hP (v := .int (nI (cn 0))) rfl (oc_180 50 (aq_1 shX12_stale_49) uw_0_211) ?_
              refine lv_aload_n hx hb (oc_42 53 (aq_4 shX12_stale_49)) rfl (lvA3 hl) ?_
              refine gM_135 S hK hP (v := .ref (g 61)) rfl (oc_180 54 (aq_5 shX12_stale_49) uw_0_135) ?_
              refine lv_iload hx hb (oc_21 57 (aq_8 shX12_stale_49) ub_4) (lvA0 hl) ?_
              refine ldM_61 hx hb hK hP (x := ((Fn 61) m8)) (vp_in_nI kb_1 (ltb rfl)) (nI_clamp (Nat.lt_trans kb_1 (ltb rfl))) rfl (oc_46 59 (aq_10 shX12_stale_49)) ?_
              refine lv_isub hx hb (oc_100 60 (aq_11 shX12_stale_49)) ?_
              refine lv_iload_n hx hb (oc_27 61 (aq_12 shX12_stale_49)) rfl (lvA4 hl) ?_
              refine lv_icmp_lt (tgt := 71) hx hb (oc_161 62 (aq_13 shX12_stale_49) sgw_0_9) rfl (fun c_8 => ?_) (fun c_8 => ?_)
              ·
                have tc_8 : (((nI (cn 0)) - ((Fn 61) m8)).toInt : Int) < v0.toInt := Int32.lt_iff_toInt_lt.mp c_8
                refine lv_iinc (v := (nI (i13 + 1))) (lv' := [(3, .int (nI (i13 + 1))), (4, .int (nI m8)), (2, .int x13_2), (0, .ref (g 100)), (1, .int v0)]) hx hb dX12_stale_71 hl (k := 1) rfl (nI_1 _) (ltb rfl) rfl (fun ls hl => ?_)
                refine lv_goto (tgt := 13) hx hb dX12_stale_74 rfl ?_
                exact ih13 (i13 + 1) x13_2 (by (first | omega | (have zz0 := Hid.u hi_cn; omega))) ⟨(by (first | omega | (have zz0 := Hid.u hi_cn; omega))), ⟨x13_2, hx13_0, Or.inr ⟨fun ⟨m9, h9, p9, q9⟩ => by have e9 := Option.some.inj (h9.symm.trans (show lat (Fn 59) (Fn 61) (nI i13) (nI (cn 0)) (cn 58) = some m8 by assumption)); rw [e9] at p9 q9; first | (first | omega | (have zz0 := Hid.u hi_cn; omega)) | exact p9 (m1_of (by (first | omega | (have zz0 := Hid.u hi_cn; omega)))), rfl⟩⟩⟩ ls (lv_sub hl [0, 2, 3, 4] rfl)
              ·
                have tc_8 : (v0.toInt : Int) ≤ ((nI (cn 0)) - ((Fn 61) m8)).toInt := Int32.le_iff_toInt_le.mp (Int32.not_lt.mp c_8)
                refine lv_iload_n hx hb (oc_28 65 (aq_16 shX12_stale_49)) rfl (lvA2 hl) ?_
                refine lv_iconst (v := 1) hx hb (oc_4 66 (aq_17 shX12_stale_49)) kic_1 ?_
                refine lv_iload_n hx hb (oc_29 67 (aq_18 shX12_stale_49)) rfl (lvA1 hl) ?_
                refine lv_ishl hx hb (oc_120 68 (aq_19 shX12_stale_49)) ?_
                refine lv_ior hx hb (oc_128 69 (aq_20 shX12_stale_49)) ?_
                refine lv_istore_n (lv' := [(2, .int (x13_2 ||| (1 <<< ((nI i13) &&& 31)))), (4, .int (nI m8)), (3, .int (nI i13)), (0, .ref (g 100)), (1, .int v0)]) hx hb (oc_61 70 (aq_21 shX12_stale_49)) rfl hl (ltb rfl) rfl (fun ls hl => ?_)
                refine lv_iinc (v := (nI (i13 + 1))) (lv' := [(3, .int (nI (i13 + 1))), (2, .int (x13_2 ||| (1 <<< ((nI i13) &&& 31)))), (4, .int (nI m8)), (0, .ref (g 100)), (1, .int v0)]) hx hb dX12_stale_71 hl (k := 2) rfl (nI_1 _) (ltb rfl) rfl (fun ls hl => ?_)
                refine lv_goto (tgt := 13) hx hb dX12_stale_74 rfl ?_
                exact ih13 (i13 + 1) (x13_2 ||| (1 <<< ((nI i13) &&& 31))) (by (first | omega | (have zz0 := Hid.u hi_cn; omega))) ⟨(by (first | omega | (have zz0 := Hid.u hi_cn; omega))), ⟨x13_2, hx13_0, Or.inl ⟨⟨m8, by assumption, fun q9 => by have := m1_to q9; (first | omega | (have zz0 := Hid.u hi_cn; omega)), by (first | omega | (have zz0 := Hid.u hi_cn; omega))⟩, rfl⟩⟩⟩ ls (lv_sub hl [0, 1, 3, 4] rfl)
    exact lp_13 _ 0 0 (Nat.lt_succ_self _) ⟨(by (first | omega | (have zz0 := Hid.u hi_cn; omega))), rfl⟩ ls (lv_sub hl [0, 1, 2, 3] rfl)
  ·
    have h_2 : ¬ (0 ≤ v0.toInt ∧ v0.toInt ≤ 399) := h_2
    refine lv_if_ne (tgt := 9) hx hb dX12_stale_4 rfl (fun h => absurd h cq_eq_0_0) (fun _ => ?_)
    refine lv_iconst (v := (-1)) hx hb (oc_2 7 (aq_7 shX12_stale_0)) kic_m1 ?_
    exact W.iret (v := (-1)) hx hb hr (fun t ht hW => ⟨(-1), rfl, (Or.inr ⟨by (first | omega | (have zz0 := Hid.u hi_cn; omega)), rfl⟩), ht⟩) (fun _ h => absurd h List.not_mem_nil) (oc_172 8 (aq_8 shX12_stale_0))
