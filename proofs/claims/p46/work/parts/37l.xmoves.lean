/-- the last below n with f v and g at most b -/
def lat (f g : Nat → Int32) (v b : Int32) : Nat → Option Nat
  | 0 => none
  | n + 1 => if f n = v ∧ (g n).toInt ≤ b.toInt then some n else lat f g v b n
section LAT
variable {f g f' g' : Nat → Int32} {v b : Int32} {n : Nat}
theorem lat_1 (h1 : f n = v) (h2 : (g n).toInt ≤ b.toInt) : lat f g v b (n + 1) = some n := if_pos ⟨h1, h2⟩
theorem lat_0 (h : ¬ f n = v) : lat f g v b (n + 1) = lat f g v b n := if_neg (fun q => h q.1)
theorem lat_00 (h : ¬ (g n).toInt ≤ b.toInt) : lat f g v b (n + 1) = lat f g v b n := if_neg (fun q => h q.2)
theorem lat_eq : ∀ n : Nat, (∀ i : Nat, i < n → f i = f' i) → (∀ i : Nat, i < n → g i = g' i) → lat f g v b n = lat f' g' v b n
  | 0, _, _ => rfl
  | n + 1, h, h2 => by unfold lat; rw [lat_eq n (fun i hi => h i (by omega)) (fun i hi => h2 i (by omega)), h n (by omega), h2 n (by omega)]
theorem lat_lt {m : Nat} : ∀ n : Nat, lat f g v b n = some m → m < n
  | n + 1, h => by
    unfold lat at h
    split at h
    · have := Option.some.inj h; omega
    · have := lat_lt n h; omega
end LAT



set_option maxRecDepth 100000 in
set_option maxHeartbeats 4000000 in
theorem q_EmoveBy (l : Launch) (D : va_G) (cI cB cZ : ClassId) (zz qq vv : Nat) (bt : Nat → Int32) (g : Nat → Nat) (ad : Nat → Nat → Nat) (cn : Nat → Nat) (In : Nat → Int32) (Fn : Nat → Nat → Int32) (v0 v1 : Int32) (hB : CBX cn) : Met l yX11_moveBy (CWS yX11_moveBy cX11_moveBy 6 (some (.object "OilHome$Move"))) (RM 3 0 0) (PBrx [.ref (g 0), .int v0, .int v1] D cI cB cZ zz qq vv bt (wX cI (D.1 99) zz g ad cn In Fn)) (va_Sq (fun r => (∃ m : Nat, lat (Fn 180) (Fn 182) v0 v1 (cn 15) = some m ∧ m < cn 15 ∧ r = some (ad 15 m)) ∨ (lat (Fn 180) (Fn 182) v0 v1 (cn 15) = none ∧ r = none))) 0 0 (fun _ => False) := by
  refine en_rx rfl pn_RX11 (Nat.le_of_ble_eq_true rfl) (fun p e s m below meth c hx hb hml hown S hr hlocks hnm hP hK hXS hS ls hl => ?_)
  have hl : lv_has ls 6 [(0, .ref (g 0)), (1, .int v0), (2, .int v1)] := hl
  have hb_cn : Hid (CBX cn) := hB
  replace hB : CBXh cn := hB
  refine lv_null hx hb (oc_1 0 shX11_moveBy_0) ?_
  refine lv_astore_nN (lv' := [(3, .null), (0, .ref (g 0)), (1, .int v0), (2, .int v1)]) hx hb (oc_78 1 (aq_1 shX11_moveBy_0)) rfl hl (ltb rfl) rfl (fun ls hl => ?_)
  refine lv_iconst (v := 0) hx hb (oc_3 2 (aq_2 shX11_moveBy_0)) kic_0 ?_
  refine lv_istore (lv' := [(4, .int 0), (3, .null), (0, .ref (g 0)), (1, .int v0), (2, .int v1)]) hx hb (oc_54 3 (aq_3 shX11_moveBy_0) ub_4) hl (ltb rfl) rfl (fun ls hl => ?_)
  have lp_5 : ∀ (n : Nat) (i5 : Nat) (x5_3 : Option Nat) , cn 15 - i5 < n → (i5 ≤ cn 15 ∧ ((x5_3 = none ∧ lat (Fn 180) (Fn 182) v0 v1 i5 = none) ∨ ∃ m : Nat, m < cn 15 ∧ x5_3 = some (ad 15 m) ∧ lat (Fn 180) (Fn 182) v0 v1 i5 = some m)) → ∀ ls : Array Slot, lv_has ls 6 [(4, .int (nI i5)), (3, (va_rf x5_3)), (0, .ref (g 0)), (1, .int v0), (2, .int v1)] → W p l e (RM 3 0 0) s m ([.ref (g 0), .int v0, .int v1]).toArray below meth c s.heap [] 0 0 (MQ below (va_Sq (fun r => (∃ m : Nat, lat (Fn 180) (Fn 182) v0 v1 (cn 15) = some m ∧ m < cn 15 ∧ r = some (ad 15 m)) ∨ (lat (Fn 180) (Fn 182) v0 v1 (cn 15) = none ∧ r = none))) ([.ref (g 0), .int v0, .int v1]).toArray s 0 0 (fun _ => False)) (F0 m 5 ls []) := by
    intro n5
    induction n5 with
    | zero => intros; (first | omega | (have zz0 := Hid.u hb_cn; omega))
    | succ n5 ih5 =>
      intro i5 x5_3 hmu5 hinv5 ls hl
      obtain ⟨hr5, hx5_0⟩ := hinv5
      have ti5 : (nI i5).toInt = (i5 : Int) := nI_toInt (by (first | omega | (have zz0 := Hid.u hb_cn; omega)))
      refine lv_iload hx hb (oc_21 5 (aq_5 shX11_moveBy_0) ub_4) (lvA0 hl) ?_
      refine lv_aload_n hx hb (oc_42 7 (aq_7 shX11_moveBy_0)) rfl (lvA2 hl) ?_
      refine gf_RX11_77 S hK hP 0 xo_0 (v := .ref (g 15)) rfl (oc_180 8 (aq_8 shX11_moveBy_0) uw_0_77) ?_
      refine vp_callSi (runV_r (As := []) (rest := [.int (nI i5)]) S (q_l_size l D cI cB cZ (g 15) (if (cn 15) = 0 then zz else ad 2 5) (In 15) (nI (cn 15))) kV_RX11_84 hK hP [29] (one_is xo_29) 29 xo_29 rfl rfl ⟨Nat.le_of_ble_eq_true rfl, Nat.le_of_ble_eq_true rfl⟩ ⟨Nat.le_of_ble_eq_true rfl, Nat.le_of_ble_eq_true rfl⟩ rfl hl.1 rfl (Nat.le_of_ble_eq_true rfl) (oc_182 11 (aq_11 shX11_moveBy_0) uw_0_84)) (fun r_1 h_2 => ?_)
      subst h_2
      have : (nI (cn 15)).toInt = (((cn 15) : Nat) : Int) := nI_toInt (by (first | omega | (have zz0 := Hid.u hb_cn; omega)))
      refine lv_icmp_ge (tgt := 58) hx hb (oc_162 14 (aq_14 shX11_moveBy_0) sgw_0_44) rfl (fun c_3 => ?_) (fun c_3 => ?_)
      ·
        have tc_3 : ((nI (cn 15)).toInt : Int) ≤ (nI i5).toInt := Int32.le_iff_toInt_le.mp c_3
        rcases hx5_0 with ⟨rfl, g9⟩ | ⟨m9, h9, rfl, g9⟩
        ·
          have hl : lv_has ls 6 [(4, .int (nI i5)), (3, .null), (0, .ref (g 0)), (1, .int v0), (2, .int v1)] := hl
          refine lv_aload_nN hx hb dX11_moveBy_58 rfl (lvA1 hl) ?_
          exact W.aret (v := .null) hx hb hr (Or.inl ⟨_, rfl⟩) (Or.inl rfl) (fun t ht hW => ⟨none, rfl, (Or.inr ⟨(by have e9 : i5 = cn 15 := (by (first | omega | (have zz0 := Hid.u hb_cn; omega))); rw [← e9]; exact g9), rfl⟩), ht⟩) (fun _ h => absurd h List.not_mem_nil) dX11_moveBy_59
        ·
          have hl : lv_has ls 6 [(4, .int (nI i5)), (3, .ref (ad 15 m9)), (0, .ref (g 0)), (1, .int v0), (2, .int v1)] := hl
          refine lv_aload_n hx hb dX11_moveBy_58 rfl (lvA1 hl) ?_
          exact W.aret (v := .ref (ad 15 m9)) hx hb hr (Or.inl ⟨_, rfl⟩) (Or.inr ⟨_, rfl⟩) (fun t ht hW => ⟨some (ad 15 m9), rfl, (Or.inl ⟨m9, (by have e9 : i5 = cn 15 := (by (first | omega | (have zz0 := Hid.u hb_cn; omega))); rw [← e9]; exact g9), h9, rfl⟩), ht⟩) (fun _ h => absurd h List.not_mem_nil) dX11_moveBy_59
      ·
        have tc_3 : ((nI i5).toInt : Int) < (nI (cn 15)).toInt := Int32.lt_iff_toInt_lt.mp (Int32.not_le.mp c_3)
        refine lv_aload_n hx hb (oc_42 17 (aq_17 shX11_moveBy_0)) rfl (lvA2 hl) ?_
        refine gf_RX11_77 S hK hP 0 xo_0 (v := .ref (g 15)) rfl (oc_180 18 (aq_18 shX11_moveBy_0) uw_0_77) ?_
        refine lv_iload hx hb (oc_21 21 (aq_21 shX11_moveBy_0) ub_4) (lvA0 hl) ?_
        refine va_csq (runV_rx (As := [.int (nI i5)]) (rest := []) S (q_l_get l D cI cB cZ zz qq vv bt (g 15) (ad 2 5) (cn 25) (cn 15) i5 (ad 15 i5) (In 15) (fun i => if i < (cn 15) then some (ad 15 i) else none) (by (first | omega | (have zz0 := Hid.u hb_cn; omega))) (if_pos (by (first | omega | (have zz0 := Hid.u hb_cn; omega)))) (by (first | omega | (have zz0 := Hid.u hb_cn; omega))) (by (first | omega | (have zz0 := Hid.u hb_cn; omega)))) kV_RX11_87 hK hXS hS hP _ (two_is (xl_5 (by (first | omega | (have zz0 := Hid.u hb_cn; omega)))) (xf_18 (k := 0) (by (first | omega | (have zz0 := Hid.u hb_cn; omega))))) (va_recv hK.1 hP (ci := 0) rfl xo_29) ⟨Nat.le_of_ble_eq_true rfl, Nat.le_of_ble_eq_true rfl⟩ ⟨Nat.le_of_ble_eq_true rfl, Nat.le_of_ble_eq_true rfl⟩ rfl hl.1 rfl (Nat.le_of_ble_eq_true rfl) (oc_182 23 (aq_23 shX11_moveBy_0) uw_0_87)) (fun r_4 h_5 => ?_)
        subst h_5
        have kf_1 : i5 < cn 15 := by (first | omega | (have zz0 := Hid.u hb_cn; omega))
        refine va_castS hx hb hown (S.2.2.2.2 _ (wk6_3 3 rfl rfl)) (xclass hK.1 (ci := 4) rfl) (va_recv hK.1 hP (ci := 4) rfl (xf_5 kf_1)) (oc_192 26 shX11_moveBy_26 uw_1_249) ?_
        refine lv_astore (lv' := [(5, .ref (ad 15 i5)), (4, .int (nI i5)), (3, (va_rf x5_3)), (0, .ref (g 0)), (1, .int v0), (2, .int v1)]) hx hb (oc_58 29 (aq_3 shX11_moveBy_26) ub_5) hl (ltb rfl) rfl (fun ls hl => ?_)
        refine lv_aload hx hb (oc_25 31 (aq_5 shX11_moveBy_26) ub_5) (lvA0 hl) ?_
        refine gf_RX11_507 S hK hP _ (xf_5 kf_1) (v := .int ((Fn 180) i5)) rfl (oc_180 33 (aq_7 shX11_moveBy_26) uw_1_251) ?_
        refine lv_iload_n hx hb (oc_27 36 (aq_10 shX11_moveBy_26)) rfl (lvA4 hl) ?_
        refine lv_icmp_ne (tgt := 52) hx hb (oc_160 37 (aq_11 shX11_moveBy_26) sgw_0_15) rfl (fun c_6 => ?_) (fun c_6 => ?_)
        ·
          have tc_6 : (((Fn 180) i5).toInt : Int) ≠ v0.toInt := fun q => c_6 (Int32.toInt_inj.mp q)
          rcases hx5_0 with ⟨rfl, g9⟩ | ⟨m9, h9, rfl, g9⟩
          ·
            have hl : lv_has ls 6 [(5, .ref (ad 15 i5)), (4, .int (nI i5)), (3, .null), (0, .ref (g 0)), (1, .int v0), (2, .int v1)] := hl
            refine lv_iinc (v := (nI (i5 + 1))) (lv' := [(4, .int (nI (i5 + 1))), (5, .ref (ad 15 i5)), (3, .null), (0, .ref (g 0)), (1, .int v0), (2, .int v1)]) hx hb dX11_moveBy_52 hl (k := 1) rfl (nI_1 _) (ltb rfl) rfl (fun ls hl => ?_)
            refine lv_goto (tgt := 5) hx hb dX11_moveBy_55 rfl ?_
            exact ih5 (i5 + 1) none (by (first | omega | (have zz0 := Hid.u hb_cn; omega))) ⟨(by (first | omega | (have zz0 := Hid.u hb_cn; omega))), (Or.inl ⟨rfl, (by first | exact (lat_0 (fun q9 => by have := congrArg Int32.toInt q9; (first | omega | (have zz0 := Hid.u hb_cn; omega)))).trans g9 | exact (lat_00 (by (first | omega | (have zz0 := Hid.u hb_cn; omega)))).trans g9)⟩)⟩ ls (lv_sub hl [0, 2, 3, 4, 5] rfl)
          ·
            have hl : lv_has ls 6 [(5, .ref (ad 15 i5)), (4, .int (nI i5)), (3, .ref (ad 15 m9)), (0, .ref (g 0)), (1, .int v0), (2, .int v1)] := hl
            refine lv_iinc (v := (nI (i5 + 1))) (lv' := [(4, .int (nI (i5 + 1))), (5, .ref (ad 15 i5)), (3, .ref (ad 15 m9)), (0, .ref (g 0)), (1, .int v0), (2, .int v1)]) hx hb dX11_moveBy_52 hl (k := 1) rfl (nI_1 _) (ltb rfl) rfl (fun ls hl => ?_)
            refine lv_goto (tgt := 5) hx hb dX11_moveBy_55 rfl ?_
            exact ih5 (i5 + 1) (some (ad 15 m9)) (by (first | omega | (have zz0 := Hid.u hb_cn; omega))) ⟨(by (first | omega | (have zz0 := Hid.u hb_cn; omega))), (Or.inr ⟨m9, h9, rfl, (by first | exact (lat_0 (fun q9 => by have := congrArg Int32.toInt q9; (first | omega | (have zz0 := Hid.u hb_cn; omega)))).trans g9 | exact (lat_00 (by (first | omega | (have zz0 := Hid.u hb_cn; omega)))).trans g9)⟩)⟩ ls (lv_sub hl [0, 2, 3, 4, 5] rfl)
        ·
          have tc_6 : (((Fn 180) i5).toInt : Int) = v0.toInt := congrArg Int32.toInt c_6
          refine lv_aload hx hb (oc_25 40 (aq_14 shX11_moveBy_26) ub_5) (lvA0 hl) ?_
          refine gf_RX11_508 S hK hP _ (xf_5 kf_1) (v := .int ((Fn 182) i5)) rfl (oc_180 42 (aq_16 shX11_moveBy_26) uw_1_252) ?_
          refine lv_iload_n hx hb (oc_28 45 (aq_19 shX11_moveBy_26)) rfl (lvA5 hl) ?_
          refine lv_icmp_gt (tgt := 52) hx hb (oc_163 46 (aq_20 shX11_moveBy_26) sgw_0_6) rfl (fun c_7 => ?_) (fun c_7 => ?_)
          ·
            have tc_7 : (v1.toInt : Int) < ((Fn 182) i5).toInt := Int32.lt_iff_toInt_lt.mp c_7
            rcases hx5_0 with ⟨rfl, g9⟩ | ⟨m9, h9, rfl, g9⟩
            ·
              have hl : lv_has ls 6 [(5, .ref (ad 15 i5)), (4, .int (nI i5)), (3, .null), (0, .ref (g 0)), (1, .int v0), (2, .int v1)] := hl
              refine lv_iinc (v := (nI (i5 + 1))) (lv' := [(4, .int (nI (i5 + 1))), (5, .ref (ad 15 i5)), (3, .null), (0, .ref (g 0)), (1, .int v0), (2, .int v1)]) hx hb dX11_moveBy_52 hl (k := 1) rfl (nI_1 _) (ltb rfl) rfl (fun ls hl => ?_)
              refine lv_goto (tgt := 5) hx hb dX11_moveBy_55 rfl ?_
              exact ih5 (i5 + 1) none (by (first | omega | (have zz0 := Hid.u hb_cn; omega))) ⟨(by (first | omega | (have zz0 := Hid.u hb_cn; omega))), (Or.inl ⟨rfl, (by first | exact (lat_0 (fun q9 => by have := congrArg Int32.toInt q9; (first | omega | (have zz0 := Hid.u hb_cn; omega)))).trans g9 | exact (lat_00 (by (first | omega | (have zz0 := Hid.u hb_cn; omega)))).trans g9)⟩)⟩ ls (lv_sub hl [0, 2, 3, 4, 5] rfl)
            ·
              have hl : lv_has ls 6 [(5, .ref (ad 15 i5)), (4, .int (nI i5)), (3, .ref (ad 15 m9)), (0, .ref (g 0)), (1, .int v0), (2, .int v1)] := hl
              refine lv_iinc (v := (nI (i5 + 1))) (lv' := [(4, .int (nI (i5 + 1))), (5, .ref (ad 15 i5)), (3, .ref (ad 15 m9)), (0, .ref (g 0)), (1, .int v0), (2, .int v1)]) hx hb dX11_moveBy_52 hl (k := 1) rfl (nI_1 _) (ltb rfl) rfl (fun ls hl => ?_)
              refine lv_goto (tgt := 5) hx hb dX11_moveBy_55 rfl ?_
              exact ih5 (i5 + 1) (some (ad 15 m9)) (by (first | omega | (have zz0 := Hid.u hb_cn; omega))) ⟨(by (first | omega | (have zz0 := Hid.u hb_cn; omega))), (Or.inr ⟨m9, h9, rfl, (by first | exact (lat_0 (fun q9 => by have := congrArg Int32.toInt q9; (first | omega | (have zz0 := Hid.u hb_cn; omega)))).trans g9 | exact (lat_00 (by (first | omega | (have zz0 := Hid.u hb_cn; omega)))).trans g9)⟩)⟩ ls (lv_sub hl [0, 2, 3, 4, 5] rfl)
          ·
            have tc_7 : (((Fn 182) i5).toInt : Int) ≤ v1.toInt := Int32.le_iff_toInt_le.mp (Int32.not_lt.mp c_7)
            refine lv_aload hx hb (oc_25 49 (aq_23 shX11_moveBy_26) ub_5) (lvA0 hl) ?_
            refine lv_astore_n (lv' := [(3, .ref (ad 15 i5)), (5, .ref (ad 15 i5)), (4, .int (nI i5)), (0, .ref (g 0)), (1, .int v0), (2, .int v1)]) hx hb (oc_78 51 shX11_moveBy_51) rfl hl (ltb rfl) rfl (fun ls hl => ?_)
            refine lv_iinc (v := (nI (i5 + 1))) (lv' := [(4, .int (nI (i5 + 1))), (3, .ref (ad 15 i5)), (5, .ref (ad 15 i5)), (0, .ref (g 0)), (1, .int v0), (2, .int v1)]) hx hb dX11_moveBy_52 hl (k := 2) rfl (nI_1 _) (ltb rfl) rfl (fun ls hl => ?_)
            refine lv_goto (tgt := 5) hx hb dX11_moveBy_55 rfl ?_
            exact ih5 (i5 + 1) (some (ad 15 i5)) (by (first | omega | (have zz0 := Hid.u hb_cn; omega))) ⟨(by (first | omega | (have zz0 := Hid.u hb_cn; omega))), (Or.inr ⟨i5, by (first | omega | (have zz0 := Hid.u hb_cn; omega)), rfl, lat_1 (Int32.toInt_inj.mp (by (first | omega | (have zz0 := Hid.u hb_cn; omega)))) (by (first | omega | (have zz0 := Hid.u hb_cn; omega)))⟩)⟩ ls (lv_sub hl [0, 1, 3, 4, 5] rfl)
  exact lp_5 _ 0 none (Nat.lt_succ_self _) ⟨(by (first | omega | (have zz0 := Hid.u hb_cn; omega))), (Or.inl ⟨rfl, rfl⟩)⟩ ls (lv_sub hl [0, 1, 2, 3, 4] rfl)
set_option maxRecDepth 100000 in
set_option maxHeartbeats 4000000 in
theorem q_latest9 (l : Launch) (D : va_G) (cI cB cZ : ClassId) (g : Nat → Nat) (cn : Nat → Nat) (In : Nat → Int32) (Fn : Nat → Nat → Int32) (v0 v1 : Int32) (hI : IM cn Fn) : Met l yX12_latest (CWS yX12_latest cX12_latest 5 (some .int)) (RM 0 0 0) (PBr [.ref (g 100), .int v0, .int v1] D cI cB cZ (wM cI cB cZ g cn In Fn)) (vp_Si (fun r => (r = -1 ∧ lat (Fn 59) (Fn 61) v0 v1 (cn 58) = none) ∨ ∃ m : Nat, m < cn 58 ∧ r = nI m ∧ lat (Fn 59) (Fn 61) v0 v1 (cn 58) = some m)) 0 0 (fun _ => False) := by
  refine en_r rfl pn_RX12 (Nat.le_of_ble_eq_true rfl) (fun p e s m below meth c hx hb hml hown S hr hlocks hnm hP hK hS ls hl => ?_)
  have hl : lv_has ls 5 [(0, .ref (g 100)), (1, .int v0), (2, .int v1)] := hl
  have hi_cn : Hid (CB cn) := hI.b
  refine lv_iconst (v := (-1)) hx hb (oc_2 0 shX12_latest_0) kic_m1 ?_
  refine lv_istore_n (lv' := [(3, .int (-1)), (0, .ref (g 100)), (1, .int v0), (2, .int v1)]) hx hb (oc_62 1 (aq_1 shX12_latest_0)) rfl hl (ltb rfl) rfl (fun ls hl => ?_)
  refine lv_iconst (v := 0) hx hb (oc_3 2 (aq_2 shX12_latest_0)) kic_0 ?_
  refine lv_istore (lv' := [(4, .int 0), (3, .int (-1)), (0, .ref (g 100)), (1, .int v0), (2, .int v1)]) hx hb (oc_54 3 (aq_3 shX12_latest_0) ub_4) hl (ltb rfl) rfl (fun ls hl => ?_)
  have lp_5 : ∀ (n : Nat) (i5 : Nat) (x5_3 : Int32) , cn 58 - i5 < n → (i5 ≤ cn 58 ∧ ((x5_3 = -1 ∧ lat (Fn 59) (Fn 61) v0 v1 i5 = none) ∨ ∃ m : Nat, m < cn 58 ∧ x5_3 = nI m ∧ lat (Fn 59) (Fn 61) v0 v1 i5 = some m)) → ∀ ls : Array Slot, lv_has ls 5 [(4, .int (nI i5)), (3, .int x5_3), (0, .ref (g 100)), (1, .int v0), (2, .int v1)] → W p l e (RM 0 0 0) s m ([.ref (g 100), .int v0, .int v1]).toArray below meth c s.heap [] 0 0 (MQ below (vp_Si (fun r => (r = -1 ∧ lat (Fn 59) (Fn 61) v0 v1 (cn 58) = none) ∨ ∃ m : Nat, m < cn 58 ∧ r = nI m ∧ lat (Fn 59) (Fn 61) v0 v1 (cn 58) = some m)) ([.ref (g 100), .int v0, .int v1]).toArray s 0 0 (fun _ => False)) (F0 m 5 ls []) := by
    intro n5
    induction n5 with
    | zero => intros; (first | omega | (have zz0 := Hid.u hi_cn; omega))
    | succ n5 ih5 =>
      intro i5 x5_3 hmu5 hinv5 ls hl
      obtain ⟨hr5, hx5_0⟩ := hinv5
      have ti5 : (nI i5).toInt = (i5 : Int) := nI_toInt (by (first | omega | (have zz0 := Hid.u hi_cn; omega)))
      refine lv_iload hx hb (oc_21 5 (aq_5 shX12_latest_0) ub_4) (lvA0 hl) ?_
      refine lv_aload_n hx hb (oc_42 7 (aq_7 shX12_latest_0)) rfl (lvA2 hl) ?_
      refine gM_410 S hK hP (v := .int (nI (cn 58))) rfl (oc_180 8 (aq_8 shX12_latest_0) uw_1_154) ?_
      have : (nI (cn 58)).toInt = (((cn 58) : Nat) : Int) := nI_toInt (by (first | omega | (have zz0 := Hid.u hi_cn; omega)))
      refine lv_icmp_ge (tgt := 45) hx hb (oc_162 11 (aq_11 shX12_latest_0) sgw_0_34) rfl (fun c_1 => ?_) (fun c_1 => ?_)
      ·
        have tc_1 : ((nI (cn 58)).toInt : Int) ≤ (nI i5).toInt := Int32.le_iff_toInt_le.mp c_1
        refine lv_iload_n hx hb (oc_29 45 (aq_20 shX12_latest_25)) rfl (lvA1 hl) ?_
        exact W.iret (v := x5_3) hx hb hr (fun t ht hW => ⟨x5_3, rfl, (by have e9 : i5 = cn 58 := (by (first | omega | (have zz0 := Hid.u hi_cn; omega))); rw [← e9]; rw [← e9] at hx5_0; exact hx5_0), ht⟩) (fun _ h => absurd h List.not_mem_nil) (oc_172 46 (aq_21 shX12_latest_25))
      ·
        have tc_1 : ((nI i5).toInt : Int) < (nI (cn 58)).toInt := Int32.lt_iff_toInt_lt.mp (Int32.not_le.mp c_1)
        refine lv_aload_n hx hb (oc_42 14 (aq_14 shX12_latest_0)) rfl (lvA2 hl) ?_
        refine gM_129 S hK hP (v := .ref (g 59)) rfl (oc_180 15 (aq_15 shX12_latest_0) uw_0_129) ?_
        refine lv_iload hx hb (oc_21 18 (aq_18 shX12_latest_0) ub_4) (lvA0 hl) ?_
        have kb_1 : i5 < 60 := by (first | omega | (have zz0 := Hid.u hi_cn; omega))
        refine ldM_59 hx hb hK hP (x := ((Fn 59) i5)) (vp_in_nI kb_1 (ltb rfl)) (nI_clamp (Nat.lt_trans kb_1 (ltb rfl))) rfl (oc_46 20 (aq_20 shX12_latest_0)) ?_
        refine lv_iload_n hx hb (oc_27 21 (aq_21 shX12_latest_0)) rfl (lvA3 hl) ?_
        refine lv_icmp_ne (tgt := 39) hx hb (oc_160 22 (aq_22 shX12_latest_0) sgw_0_17) rfl (fun c_2 => ?_) (fun c_2 => ?_)
        ·
          have tc_2 : (((Fn 59) i5).toInt : Int) ≠ v0.toInt := fun q => c_2 (Int32.toInt_inj.mp q)
          refine lv_iinc (v := (nI (i5 + 1))) (lv' := [(4, .int (nI (i5 + 1))), (3, .int x5_3), (0, .ref (g 100)), (1, .int v0), (2, .int v1)]) hx hb dX12_latest_39 hl (k := 0) rfl (nI_1 _) (ltb rfl) rfl (fun ls hl => ?_)
          refine lv_goto (tgt := 5) hx hb dX12_latest_42 rfl ?_
          exact ih5 (i5 + 1) x5_3 (by (first | omega | (have zz0 := Hid.u hi_cn; omega))) ⟨(by (first | omega | (have zz0 := Hid.u hi_cn; omega))), (by rcases hx5_0 with ⟨e9, g9⟩ | ⟨m9, h9, e9, g9⟩; exact Or.inl ⟨e9, (by first | exact (lat_0 (fun q9 => by have := congrArg Int32.toInt q9; (first | omega | (have zz0 := Hid.u hi_cn; omega)))).trans g9 | exact (lat_00 (by (first | omega | (have zz0 := Hid.u hi_cn; omega)))).trans g9)⟩; exact Or.inr ⟨m9, h9, e9, (by first | exact (lat_0 (fun q9 => by have := congrArg Int32.toInt q9; (first | omega | (have zz0 := Hid.u hi_cn; omega)))).trans g9 | exact (lat_00 (by (first | omega | (have zz0 := Hid.u hi_cn; omega)))).trans g9)⟩)⟩ ls (lv_sub hl [0, 1, 2, 3, 4] rfl)
        ·
          have tc_2 : (((Fn 59) i5).toInt : Int) = v0.toInt := congrArg Int32.toInt c_2
          refine lv_aload_n hx hb (oc_42 25 shX12_latest_25) rfl (lvA2 hl) ?_
          refine gM_135 S hK hP (v := .ref (g 61)) rfl (oc_180 26 (aq_1 shX12_latest_25) uw_0_135) ?_
          refine lv_iload hx hb (oc_21 29 (aq_4 shX12_latest_25) ub_4) (lvA0 hl) ?_
          refine ldM_61 hx hb hK hP (x := ((Fn 61) i5)) (vp_in_nI kb_1 (ltb rfl)) (nI_clamp (Nat.lt_trans kb_1 (ltb rfl))) rfl (oc_46 31 (aq_6 shX12_latest_25)) ?_
          refine lv_iload_n hx hb (oc_28 32 (aq_7 shX12_latest_25)) rfl (lvA4 hl) ?_
          refine lv_icmp_gt (tgt := 39) hx hb (oc_163 33 (aq_8 shX12_latest_25) sgw_0_6) rfl (fun c_3 => ?_) (fun c_3 => ?_)
          ·
            have tc_3 : (v1.toInt : Int) < ((Fn 61) i5).toInt := Int32.lt_iff_toInt_lt.mp c_3
            refine lv_iinc (v := (nI (i5 + 1))) (lv' := [(4, .int (nI (i5 + 1))), (3, .int x5_3), (0, .ref (g 100)), (1, .int v0), (2, .int v1)]) hx hb dX12_latest_39 hl (k := 0) rfl (nI_1 _) (ltb rfl) rfl (fun ls hl => ?_)
            refine lv_goto (tgt := 5) hx hb dX12_latest_42 rfl ?_
            exact ih5 (i5 + 1) x5_3 (by (first | omega | (have zz0 := Hid.u hi_cn; omega))) ⟨(by (first | omega | (have zz0 := Hid.u hi_cn; omega))), (by rcases hx5_0 with ⟨e9, g9⟩ | ⟨m9, h9, e9, g9⟩; exact Or.inl ⟨e9, (by first | exact (lat_0 (fun q9 => by have := congrArg Int32.toInt q9; (first | omega | (have zz0 := Hid.u hi_cn; omega)))).trans g9 | exact (lat_00 (by (first | omega | (have zz0 := Hid.u hi_cn; omega)))).trans g9)⟩; exact Or.inr ⟨m9, h9, e9, (by first | exact (lat_0 (fun q9 => by have := congrArg Int32.toInt q9; (first | omega | (have zz0 := Hid.u hi_cn; omega)))).trans g9 | exact (lat_00 (by (first | omega | (have zz0 := Hid.u hi_cn; omega)))).trans g9)⟩)⟩ ls (lv_sub hl [0, 1, 2, 3, 4] rfl)
          ·
            have tc_3 : (((Fn 61) i5).toInt : Int) ≤ v1.toInt := Int32.le_iff_toInt_le.mp (Int32.not_lt.mp c_3)
            refine lv_iload hx hb (oc_21 36 (aq_11 shX12_latest_25) ub_4) (lvA0 hl) ?_
            refine lv_istore_n (lv' := [(3, .int (nI i5)), (4, .int (nI i5)), (0, .ref (g 100)), (1, .int v0), (2, .int v1)]) hx hb (oc_62 38 (aq_13 shX12_latest_25)) rfl hl (ltb rfl) rfl (fun ls hl => ?_)
            refine lv_iinc (v := (nI (i5 + 1))) (lv' := [(4, .int (nI (i5 + 1))), (3, .int (nI i5)), (0, .ref (g 100)), (1, .int v0), (2, .int v1)]) hx hb dX12_latest_39 hl (k := 1) rfl (nI_1 _) (ltb rfl) rfl (fun ls hl => ?_)
            refine lv_goto (tgt := 5) hx hb dX12_latest_42 rfl ?_
            exact ih5 (i5 + 1) (nI i5) (by (first | omega | (have zz0 := Hid.u hi_cn; omega))) ⟨(by (first | omega | (have zz0 := Hid.u hi_cn; omega))), (Or.inr ⟨i5, by (first | omega | (have zz0 := Hid.u hi_cn; omega)), rfl, lat_1 (Int32.toInt_inj.mp (by (first | omega | (have zz0 := Hid.u hi_cn; omega)))) (by (first | omega | (have zz0 := Hid.u hi_cn; omega)))⟩)⟩ ls (lv_sub hl [0, 1, 2, 3, 4] rfl)
  exact lp_5 _ 0 (-1) (Nat.lt_succ_self _) ⟨(by (first | omega | (have zz0 := Hid.u hi_cn; omega))), (Or.inl ⟨rfl, rfl⟩)⟩ ls (lv_sub hl [0, 1, 2, 3, 4] rfl)
set_option maxRecDepth 100000 in
set_option maxHeartbeats 4000000 in
theorem q_Emoves (l : Launch) (D : va_G) (cI cB cZ : ClassId) (zz qq vv : Nat) (bt : Nat → Int32) (g : Nat → Nat) (ad : Nat → Nat → Nat) (cn : Nat → Nat) (In : Nat → Int32) (Fn : Nat → Nat → Int32) (v0 v1 v2 : Int32) (sz : Nat) (hB : CBX cn) : Met l yX11_moves (CWS yX11_moves cX11_moves 6 (some .boolean)) (RM 8 2 103) (PBx [.ref (g 0), .int v0, .int v1, .int v2] D cI cB cZ zz qq vv bt (wX cI (D.1 99) zz g ad cn In Fn) sz) (va_Qi (fun (r : Int32) (u : (Nat → Nat → Nat) × (Nat → Nat) × (Nat → Int32) × (Nat → Nat → Int32)) => (fun r a2 c2 I2 F2 => (r = 0 ∧ ¬ ((0 ≤ v0.toInt ∧ v0.toInt < (cn 2 : Int) ∧ -1 ≤ v1.toInt ∧ v1.toInt < (cn 10 : Int) ∧ 0 ≤ v2.toInt ∧ v2.toInt ≤ (cn 0 : Int) ∧ cn 15 < 60) ∧ (∀ m : Nat, lat (Fn 180) (Fn 182) v0 399 (cn 15) = some m → (Fn 182 m).toInt ≤ v2.toInt)) ∧ ad = a2 ∧ cn = c2 ∧ In = I2 ∧ Fn = F2) ∨ (r = 1 ∧ ((0 ≤ v0.toInt ∧ v0.toInt < (cn 2 : Int) ∧ -1 ≤ v1.toInt ∧ v1.toInt < (cn 10 : Int) ∧ 0 ≤ v2.toInt ∧ v2.toInt ≤ (cn 0 : Int) ∧ cn 15 < 60) ∧ (∀ m : Nat, lat (Fn 180) (Fn 182) v0 399 (cn 15) = some m → (Fn 182 m).toInt ≤ v2.toInt)) ∧ ∃ (q z c : Nat) (y : Int32), (cn 15 < c ∧ c ≤ 100) ∧ (adP ad 15 (cn 15) q 5 z) = a2 ∧ (va_up (va_up cn 15 ((cn 15) + 1)) 25 c) = c2 ∧ (va_up In 15 y) = I2 ∧ (va_up (va_up (va_up Fn 180 (upd (Fn 180) (cn 15) v0)) 181 (upd (Fn 181) (cn 15) v1)) 182 (upd (Fn 182) (cn 15) v2)) = F2)) r u.1 u.2.1 u.2.2.1 u.2.2.2) (fun (u : (Nat → Nat → Nat) × (Nat → Nat) × (Nat → Int32) × (Nat → Nat → Int32)) (t : State) => va_P D vwCl (wX cI (D.1 99) zz g u.1 u.2.1 u.2.2.1 u.2.2.2) t.heap ∧ va_D (va_A (wX cI (D.1 99) zz g ad cn In Fn) sz) (wX cI (D.1 99) zz g u.1 u.2.1 u.2.2.1 u.2.2.2)) (va_A (wX cI (D.1 99) zz g ad cn In Fn) sz)) 2 103 (va_A (wX cI (D.1 99) zz g ad cn In Fn) sz) := by
  refine en_x (fun A => (va_Qi (fun (r : Int32) (u : (Nat → Nat → Nat) × (Nat → Nat) × (Nat → Int32) × (Nat → Nat → Int32)) => (fun (r : Int32) (a2 : Nat → Nat → Nat) (c2 : Nat → Nat) (I2 : Nat → Int32) (F2 : Nat → Nat → Int32) => (r = 0 ∧ ¬ ((0 ≤ v0.toInt ∧ v0.toInt < (cn 2 : Int) ∧ -1 ≤ v1.toInt ∧ v1.toInt < (cn 10 : Int) ∧ 0 ≤ v2.toInt ∧ v2.toInt ≤ (cn 0 : Int) ∧ cn 15 < 60) ∧ (∀ m : Nat, lat (Fn 180) (Fn 182) v0 399 (cn 15) = some m → (Fn 182 m).toInt ≤ v2.toInt)) ∧ ad = a2 ∧ cn = c2 ∧ In = I2 ∧ Fn = F2) ∨ (r = 1 ∧ ((0 ≤ v0.toInt ∧ v0.toInt < (cn 2 : Int) ∧ -1 ≤ v1.toInt ∧ v1.toInt < (cn 10 : Int) ∧ 0 ≤ v2.toInt ∧ v2.toInt ≤ (cn 0 : Int) ∧ cn 15 < 60) ∧ (∀ m : Nat, lat (Fn 180) (Fn 182) v0 399 (cn 15) = some m → (Fn 182 m).toInt ≤ v2.toInt)) ∧ ∃ (q z c : Nat) (y : Int32), (cn 15 < c ∧ c ≤ 100) ∧ (adP ad 15 (cn 15) q 5 z) = a2 ∧ (va_up (va_up cn 15 ((cn 15) + 1)) 25 c) = c2 ∧ (va_up In 15 y) = I2 ∧ (va_up (va_up (va_up Fn 180 (upd (Fn 180) (cn 15) v0)) 181 (upd (Fn 181) (cn 15) v1)) 182 (upd (Fn 182) (cn 15) v2)) = F2)) r u.1 u.2.1 u.2.2.1 u.2.2.2) (fun (u : (Nat → Nat → Nat) × (Nat → Nat) × (Nat → Int32) × (Nat → Nat → Int32)) (t : State) => va_P D vwCl (wX cI (D.1 99) zz g u.1 u.2.1 u.2.2.1 u.2.2.2) t.heap ∧ va_D A (wX cI (D.1 99) zz g u.1 u.2.1 u.2.2.1 u.2.2.2)) A)) rfl rfl pn_RX11 (Nat.le_of_ble_eq_true rfl) (fun p e s m below meth c A hx hb hml hown S hr hlocks hnm hA hP hK hD hXS hS ls hl => ?_)
  have hl : lv_has ls 6 [(0, .ref (g 0)), (1, .int v0), (2, .int v1), (3, .int v2)] := hl
  refine lv_iload_n hx hb (oc_27 0 shX11_moves_0) rfl (lvA1 hl) ?_
  refine lv_iconst (v := 0) hx hb (oc_3 1 (aq_1 shX11_moves_0)) kic_0 ?_
  refine lv_aload_n hx hb (oc_42 2 (aq_2 shX11_moves_0)) rfl (lvA0 hl) ?_
  refine gf_RX11_502 S hK hP 0 xo_0 (v := .int (nI (cn 2))) rfl (oc_180 3 (aq_3 shX11_moves_0) uw_1_246) ?_
  refine lv_iconst (v := 1) hx hb (oc_4 6 (aq_6 shX11_moves_0)) kic_1 ?_
  refine lv_isub hx hb (oc_100 7 (aq_7 shX11_moves_0)) ?_
  have tm1 := nI_mt (c := cn 2) (by omega)
  refine vp_callSi (runS_r (As := [.int v0, .int 0, .int ((nI (cn 2)) - 1)]) (rest := []) S (q_l_within l D cI cB cZ v0 0 ((nI (cn 2)) - 1)) kS_RX11_80 hK hP [] rfl ⟨Nat.le_of_ble_eq_true rfl, Nat.le_of_ble_eq_true rfl⟩ ⟨Nat.le_of_ble_eq_true rfl, Nat.le_of_ble_eq_true rfl⟩ rfl hl.1 rfl (Nat.le_of_ble_eq_true rfl) (oc_184 8 (aq_8 shX11_moves_0) uw_0_80)) (fun r_1 h_2 => ?_)
  rcases h_2 with ⟨rfl, h_2⟩ | ⟨rfl, h_2⟩
  ·
    have h_2 : 0 ≤ v0.toInt ∧ v0.toInt ≤ ((nI (cn 2)) - 1).toInt := h_2
    refine lv_if_eq (tgt := 31) hx hb dX11_moves_11 rfl (fun h => absurd h cq_eq_1_0) (fun _ => ?_)
    refine lv_iload_n hx hb (oc_28 14 (aq_14 shX11_moves_0)) rfl (lvA2 hl) ?_
    refine lv_iconst (v := (-1)) hx hb (oc_2 15 (aq_15 shX11_moves_0)) kic_m1 ?_
    refine lv_icmp_eq (tgt := 27) hx hb (oc_159 16 (aq_16 shX11_moves_0) sgw_0_11) rfl (fun c_3 => ?_) (fun c_3 => ?_)
    ·
      have tc_3 : (v1.toInt : Int) = (-1) := congrArg Int32.toInt c_3
      refine lv_iconst (v := 1) hx hb dX11_moves_27 kic_1 ?_
      refine lv_goto (tgt := 32) hx hb dX11_moves_28 rfl ?_
      refine lv_istore (lv' := [(4, .int 1), (0, .ref (g 0)), (1, .int v0), (2, .int v1), (3, .int v2)]) hx hb dX11_moves_32 hl (ltb rfl) rfl (fun ls hl => ?_)
      refine lv_iload hx hb dX11_moves_34 (lvA0 hl) ?_
      refine lv_if_eq (tgt := 63) hx hb dX11_moves_36 rfl (fun h => absurd h cq_eq_1_0) (fun _ => ?_)
      refine lv_iload_n hx hb dX11_moves_39 rfl (lvA4 hl) ?_
      refine lv_iconst (v := 0) hx hb dX11_moves_40 kic_0 ?_
      refine lv_aload_n hx hb dX11_moves_41 rfl (lvA1 hl) ?_
      refine gf_RX11_103 S hK hP 0 xo_0 (v := .int (nI (cn 0))) rfl dX11_moves_42 ?_
      refine vp_callSi (runS_r (As := [.int v2, .int 0, .int (nI (cn 0))]) (rest := []) S (q_l_within l D cI cB cZ v2 0 (nI (cn 0))) kS_RX11_80 hK hP [] rfl ⟨Nat.le_of_ble_eq_true rfl, Nat.le_of_ble_eq_true rfl⟩ ⟨Nat.le_of_ble_eq_true rfl, Nat.le_of_ble_eq_true rfl⟩ rfl hl.1 rfl (Nat.le_of_ble_eq_true rfl) dX11_moves_45) (fun r_4 h_5 => ?_)
      have : (nI (cn 0)).toInt = (((cn 0) : Nat) : Int) := nI_toInt (by omega)
      rcases h_5 with ⟨rfl, h_5⟩ | ⟨rfl, h_5⟩
      ·
        have h_5 : 0 ≤ v2.toInt ∧ v2.toInt ≤ (nI (cn 0)).toInt := h_5
        refine lv_if_eq (tgt := 63) hx hb dX11_moves_48 rfl (fun h => absurd h cq_eq_1_0) (fun _ => ?_)
        refine lv_aload_n hx hb dX11_moves_51 rfl (lvA1 hl) ?_
        refine gf_RX11_77 S hK hP 0 xo_0 (v := .ref (g 15)) rfl dX11_moves_52 ?_
        refine vp_callSi (runV_r (As := []) (rest := []) S (q_l_size l D cI cB cZ (g 15) (if (cn 15) = 0 then zz else ad 2 5) (In 15) (nI (cn 15))) kV_RX11_84 hK hP [29] (one_is xo_29) 29 xo_29 rfl rfl ⟨Nat.le_of_ble_eq_true rfl, Nat.le_of_ble_eq_true rfl⟩ ⟨Nat.le_of_ble_eq_true rfl, Nat.le_of_ble_eq_true rfl⟩ rfl hl.1 rfl (Nat.le_of_ble_eq_true rfl) dX11_moves_55) (fun r_6 h_7 => ?_)
        subst h_7
        refine lv_bipush (v := 60) hx hb dX11_moves_58 kbc_60 ?_
        have : (nI (cn 15)).toInt = (((cn 15) : Nat) : Int) := nI_toInt (by omega)
        refine lv_icmp_lt (tgt := 65) hx hb dX11_moves_60 rfl (fun c_8 => ?_) (fun c_8 => ?_)
        ·
          have tc_8 : ((nI (cn 15)).toInt : Int) < 60 := Int32.lt_iff_toInt_lt.mp c_8
          refine lv_aload_n hx hb dX11_moves_65 rfl (lvA1 hl) ?_
          refine lv_iload_n hx hb dX11_moves_66 rfl (lvA2 hl) ?_
          refine lv_sipush (v := 399) hx hb dX11_moves_67 (by decide) ?_
          refine va_csq (runV_rxa (As := [.int v0, .int 399]) (rest := []) S (q_EmoveBy l D cI cB cZ zz qq vv bt g ad cn In Fn v0 399 hB) kV_RX11_509 hK hXS hS hP 0 xo_0 rfl rfl ⟨Nat.le_of_ble_eq_true rfl, Nat.le_of_ble_eq_true rfl⟩ ⟨Nat.le_of_ble_eq_true rfl, Nat.le_of_ble_eq_true rfl⟩ rfl hl.1 rfl (Nat.le_of_ble_eq_true rfl) dX11_moves_70) (fun r_9 h_10 => ?_)
          rcases h_10 with ⟨mr_9, er_9, hr_9, rfl⟩ | ⟨hr_9, rfl⟩
          ·
            refine lv_astore (lv' := [(5, .ref (ad 15 mr_9)), (4, .int 1), (0, .ref (g 0)), (1, .int v0), (2, .int v1), (3, .int v2)]) hx hb dX11_moves_73 hl (ltb rfl) rfl (fun ls hl => ?_)
            have k9 : ∀ m : Nat, lat (Fn 180) (Fn 182) v0 399 (cn 15) = some m → m = mr_9 := fun m hm => Option.some.inj (hm.symm.trans er_9)
            refine lv_aload hx hb dX11_moves_75 (lvA0 hl) ?_
            refine lv_ifnull hx hb dX11_moves_77 ?_
            refine lv_iload_n hx hb dX11_moves_80 rfl (lvA5 hl) ?_
            refine lv_aload hx hb dX11_moves_81 (lvA0 hl) ?_
            refine gf_RX11_508 S hK hP _ (xf_5 (by omega)) (v := .int ((Fn 182) mr_9)) rfl dX11_moves_83 ?_
            refine lv_icmp_ge (tgt := 91) hx hb dX11_moves_86 rfl (fun c_11 => ?_) (fun c_11 => ?_)
            ·
              have tc_11 : (((Fn 182) mr_9).toInt : Int) ≤ v2.toInt := Int32.le_iff_toInt_le.mp c_11
              refine lv_aload_n hx hb dX11_moves_91 rfl (lvA2 hl) ?_
              refine gf_RX11_77 S hK hP 0 xo_0 (v := .ref (g 15)) rfl dX11_moves_92 ?_
              refine va_new (ci := 4) (fs := [.int 0, .int 0, .int 0]) (C := RX3) (T := TX3) (N := 3) hx hb S.2.2.2.2 hin_RX3 tyX3 tyX3_ok hown (S.2.2.2.2 _ (wk6_3 3 rfl rfl)) (S.2.2.2.2 _ (wk6_3 4 rfl rfl)) (S.2.2.2.2 _ (wk1_2 2 rfl rfl)) hK.1 hP hD hS hA rfl (by decide +kernel) (Nat.le_of_ble_eq_true rfl) (Nat.le_of_ble_eq_true rfl) dX11_moves_95 (fun q95 H hP hD hS => ?_)
              have hP : va_P D vwCl ((wX cI (D.1 99) zz g ad cn In Fn) ++ ([(q95, .inr (4, [.int 0, .int 0, .int 0]))] : va_W)) H := hP
              have hD : va_D A ((wX cI (D.1 99) zz g ad cn In Fn) ++ ([(q95, .inr (4, [.int 0, .int 0, .int 0]))] : va_W)) := hD
              refine lv_dup hx hb dX11_moves_98 rfl ?_
              refine lv_iload_n hx hb dX11_moves_99 rfl (lvA3 hl) ?_
              refine lv_iload_n hx hb dX11_moves_100 rfl (lvA4 hl) ?_
              refine lv_iload_n hx hb dX11_moves_101 rfl (lvA5 hl) ?_
              have hFc := va_free (wc := [(q95, .inr (4, [.int 0, .int 0, .int 0]))]) hD hS hA [_] (one_im (exr (m := 0) rfl))
              refine va_callv (runI_w (As := [.int v0, .int v1, .int v2]) (rest := [.ref q95, .ref (g 15)]) S (q_l_Move l D cI cB cZ q95 v0 v1 v2 H.size) kI_RX11_513 hK hP hD [_] (one_is (exr (m := 0) rfl)) (one_im (exr (m := 0) rfl)) rfl ⟨Nat.le_of_ble_eq_true rfl, Nat.le_of_ble_eq_true rfl⟩ ⟨Nat.le_of_ble_eq_true rfl, Nat.le_of_ble_eq_true rfl⟩ rfl hl.1 rfl (Nat.le_of_ble_eq_true rfl) dX11_moves_102) hS (fun q _ h => hFc q h) hFc (fun u_12 t H1 locs ht hvm h_13 hB1 hz1 hk1 hS => ?_)
              obtain ⟨hP1, hD1⟩ := hB1
              rw [ht] at hP1
              obtain ⟨hP, hD⟩ := exjoin hP hD hk1 hFc hP1 hD1
              generalize H1 = H at hP hS ⊢
              have hP : va_P D vwCl ((wX cI (D.1 99) zz g ad cn In Fn) ++ ([(q95, .inr (4, [.int v0, .int v1, .int v2]))] : va_W)) H := hP
              have hD : va_D A ((wX cI (D.1 99) zz g ad cn In Fn) ++ ([(q95, .inr (4, [.int v0, .int v1, .int v2]))] : va_W)) := hD
              rcases Nat.eq_zero_or_pos (cn 15) with hz0 | hz0
              ·
                have hi9 : (wX cI (D.1 99) zz g ad cn In Fn)[29]? = _ := xlz_5 hz0
                have hp2P := pick2P hP (exl hi9) (exr (m := 0) rfl)
                have hp2D := pick2D hD (exl hi9) (exr (m := 0) rfl) (ne_ex hi9)
                have hFc := free_all hp2D hS hA
                refine va_calli (runV_xa (As := [.ref q95]) (rest := []) S (q_l_addZM l D cI cB cZ zz qq vv bt (g 15) q95 (In 15) v0 v1 v2 H.size) kV_RX11_110 hK hXS hS hFc hp2P hp2D 0 rfl rfl rfl ⟨Nat.le_of_ble_eq_true rfl, Nat.le_of_ble_eq_true rfl⟩ ⟨Nat.le_of_ble_eq_true rfl, Nat.le_of_ble_eq_true rfl⟩ rfl hl.1 rfl (Nat.le_of_ble_eq_true rfl) dX11_moves_105) hS (fun q _ h => hFc q h) hFc (fun r13 u13 t H1 locs ht hvm h13 hB1 hz1 hk1 hS => ?_)
                obtain ⟨hP1, hD1⟩ := hB1
                rw [ht] at hP1
                obtain rfl : r13 = 1 := h13
                obtain ⟨hP, hD⟩ := add0_join hP hD hi9 rfl hk1 hFc hP1 hD1 rfl (xu_5 (z := u13) (c := 10) (y := (In 15) + 1) (q := q95) (x0 := v0) (x1 := v1) (x2 := v2) hz0)
                have hP : va_P D vwCl (wX cI (D.1 99) zz g (adP ad 15 (cn 15) q95 5 u13) (va_up (va_up cn 15 ((cn 15) + 1)) 25 10) (va_up In 15 ((In 15) + 1)) (va_up (va_up (va_up Fn 180 (upd (Fn 180) (cn 15) v0)) 181 (upd (Fn 181) (cn 15) v1)) 182 (upd (Fn 182) (cn 15) v2))) H1 := hP
                have hD : va_D A (wX cI (D.1 99) zz g (adP ad 15 (cn 15) q95 5 u13) (va_up (va_up cn 15 ((cn 15) + 1)) 25 10) (va_up In 15 ((In 15) + 1)) (va_up (va_up (va_up Fn 180 (upd (Fn 180) (cn 15) v0)) 181 (upd (Fn 181) (cn 15) v1)) 182 (upd (Fn 182) (cn 15) v2))) := hD
                generalize H1 = H at hP hS ⊢
                refine W.widen (k := 2) (n := 103) (Nat.le_of_ble_eq_true rfl) (Nat.le_of_ble_eq_true rfl) ?_
                refine lv_pop hx hb dX11_moves_108 rfl ?_
                refine lv_iconst (v := 1) hx hb dX11_moves_109 kic_1 ?_
                exact W.zret (v := 1) hx hb hr rfl (fun t ht hW => ⟨⟨1, ((adP ad 15 (cn 15) q95 5 u13), (va_up (va_up cn 15 ((cn 15) + 1)) 25 10), (va_up In 15 ((In 15) + 1)), (va_up (va_up (va_up Fn 180 (upd (Fn 180) (cn 15) v0)) 181 (upd (Fn 181) (cn 15) v1)) 182 (upd (Fn 182) (cn 15) v2))), rfl, (Or.inr ⟨rfl, ⟨by omega, fun m9 hm9 => by rw [k9 m9 hm9]; omega⟩, q95, u13, 10, ((In 15) + 1), ⟨by omega, by omega⟩, rfl, rfl, rfl, rfl⟩), by rw [ht]; exact hP, hD⟩, hS.F ht⟩) hS.2.2 dX11_moves_110
              ·
                have hi9 : (wX cI (D.1 99) zz g ad cn In Fn)[29]? = _ := xl_5 hz0
                have hj9 : (wX cI (D.1 99) zz g ad cn In Fn)[_]? = _ := xf_18 (k := 0) (show 0 < min 1 (cn 15) by omega)
                obtain ⟨ws9, hp1, hp2⟩ := pickG (W := ((wX cI (D.1 99) zz g ad cn In Fn) ++ ([(q95, .inr (4, [.int v0, .int v1, .int v2]))] : va_W))) (exl hi9) (exl hj9) (exr (m := 0) rfl) (xij (by decide)) (ne_ex hi9) (ne_ex hj9)
                have hP9 := va_P_perm hp1 hP
                have hD9 := va_D_perm hp1 hD
                have hFc := free_all hD9 hS hA
                refine va_calli (runV_xa (As := [.ref q95]) (rest := []) S (q_l_addGM l D cI cB cZ zz qq vv bt (cn 25) (g 15) (ad 2 5) (cn 15) q95 (In 15) (ad 15) v0 v1 v2 ws9 H.size (by omega) (by omega) hz0 (by omega) (fun i hi => ⟨_, g_mem (hp1.mem_iff.mp (List.mem_of_getElem? (exl (xf_5 (k := i) hi)))) (by decide)⟩)) kV_RX11_110 hK hXS hS hFc hP9 hD9 0 rfl rfl rfl ⟨Nat.le_of_ble_eq_true rfl, Nat.le_of_ble_eq_true rfl⟩ ⟨Nat.le_of_ble_eq_true rfl, Nat.le_of_ble_eq_true rfl⟩ rfl hl.1 rfl (Nat.le_of_ble_eq_true rfl) dX11_moves_105) hS (fun q _ h => hFc q h) hFc (fun r13 u13 t H1 locs ht hvm h13 hB1 hz1 hk1 hS => ?_)
                obtain ⟨hP1, hD1⟩ := hB1
                rw [ht] at hP1
                obtain ⟨hr13, h13⟩ := h13
                obtain rfl : r13 = 1 := hr13
                obtain ⟨ua13, uc13⟩ := u13
                have hu13 : cn 15 < uc13 ∧ uc13 ≤ 100 := h13
                obtain ⟨hP, hD⟩ := addG_join hp2 hi9 hj9 hP1 hD1 hFc (xadd_5 (z := ua13) (c := uc13) (y := (In 15) + 1) (q := q95) (x0 := v0) (x1 := v1) (x2 := v2) hz0)
                have hP : va_P D vwCl (wX cI (D.1 99) zz g (adP ad 15 (cn 15) q95 5 ua13) (va_up (va_up cn 15 ((cn 15) + 1)) 25 uc13) (va_up In 15 ((In 15) + 1)) (va_up (va_up (va_up Fn 180 (upd (Fn 180) (cn 15) v0)) 181 (upd (Fn 181) (cn 15) v1)) 182 (upd (Fn 182) (cn 15) v2))) H1 := hP
                have hD : va_D A (wX cI (D.1 99) zz g (adP ad 15 (cn 15) q95 5 ua13) (va_up (va_up cn 15 ((cn 15) + 1)) 25 uc13) (va_up In 15 ((In 15) + 1)) (va_up (va_up (va_up Fn 180 (upd (Fn 180) (cn 15) v0)) 181 (upd (Fn 181) (cn 15) v1)) 182 (upd (Fn 182) (cn 15) v2))) := hD
                generalize H1 = H at hP hS ⊢
                refine lv_pop hx hb dX11_moves_108 rfl ?_
                refine lv_iconst (v := 1) hx hb dX11_moves_109 kic_1 ?_
                exact W.zret (v := 1) hx hb hr rfl (fun t ht hW => ⟨⟨1, ((adP ad 15 (cn 15) q95 5 ua13), (va_up (va_up cn 15 ((cn 15) + 1)) 25 uc13), (va_up In 15 ((In 15) + 1)), (va_up (va_up (va_up Fn 180 (upd (Fn 180) (cn 15) v0)) 181 (upd (Fn 181) (cn 15) v1)) 182 (upd (Fn 182) (cn 15) v2))), rfl, (Or.inr ⟨rfl, ⟨by omega, fun m9 hm9 => by rw [k9 m9 hm9]; omega⟩, q95, ua13, uc13, ((In 15) + 1), ⟨by omega, by omega⟩, rfl, rfl, rfl, rfl⟩), by rw [ht]; exact hP, hD⟩, hS.F ht⟩) hS.2.2 dX11_moves_110
            ·
              have tc_11 : (v2.toInt : Int) < ((Fn 182) mr_9).toInt := Int32.lt_iff_toInt_lt.mp (Int32.not_le.mp c_11)
              refine lv_iconst (v := 0) hx hb dX11_moves_89 kic_0 ?_
              refine W.widen (k := 2) (n := 103) (Nat.le_of_ble_eq_true rfl) (Nat.le_of_ble_eq_true rfl) ?_
              exact W.zret (v := 0) hx hb hr rfl (fun t ht hW => ⟨⟨0, (ad, cn, In, Fn), rfl, (Or.inl ⟨rfl, (fun w9 => by have w8 := w9.2 _ er_9; omega), rfl, rfl, rfl, rfl⟩), by rw [ht]; exact hP, hD⟩, hS.F ht⟩) hS.2.2 dX11_moves_90
          ·
            refine lv_astoreN (lv' := [(5, .null), (4, .int 1), (0, .ref (g 0)), (1, .int v0), (2, .int v1), (3, .int v2)]) hx hb dX11_moves_73 hl (ltb rfl) rfl (fun ls hl => ?_)
            have k9 : lat (Fn 180) (Fn 182) v0 399 (cn 15) = none := by assumption
            refine lv_aloadN hx hb dX11_moves_75 (lvA0 hl) ?_
            refine lv_ifnullN (tgt := 91) hx hb dX11_moves_77 rfl ?_
            refine lv_aload_n hx hb dX11_moves_91 rfl (lvA2 hl) ?_
            refine gf_RX11_77 S hK hP 0 xo_0 (v := .ref (g 15)) rfl dX11_moves_92 ?_
            refine va_new (ci := 4) (fs := [.int 0, .int 0, .int 0]) (C := RX3) (T := TX3) (N := 3) hx hb S.2.2.2.2 hin_RX3 tyX3 tyX3_ok hown (S.2.2.2.2 _ (wk6_3 3 rfl rfl)) (S.2.2.2.2 _ (wk6_3 4 rfl rfl)) (S.2.2.2.2 _ (wk1_2 2 rfl rfl)) hK.1 hP hD hS hA rfl (by decide +kernel) (Nat.le_of_ble_eq_true rfl) (Nat.le_of_ble_eq_true rfl) dX11_moves_95 (fun q95 H hP hD hS => ?_)
            have hP : va_P D vwCl ((wX cI (D.1 99) zz g ad cn In Fn) ++ ([(q95, .inr (4, [.int 0, .int 0, .int 0]))] : va_W)) H := hP
            have hD : va_D A ((wX cI (D.1 99) zz g ad cn In Fn) ++ ([(q95, .inr (4, [.int 0, .int 0, .int 0]))] : va_W)) := hD
            refine lv_dup hx hb dX11_moves_98 rfl ?_
            refine lv_iload_n hx hb dX11_moves_99 rfl (lvA3 hl) ?_
            refine lv_iload_n hx hb dX11_moves_100 rfl (lvA4 hl) ?_
            refine lv_iload_n hx hb dX11_moves_101 rfl (lvA5 hl) ?_
            have hFc := va_free (wc := [(q95, .inr (4, [.int 0, .int 0, .int 0]))]) hD hS hA [_] (one_im (exr (m := 0) rfl))
            refine va_callv (runI_w (As := [.int v0, .int v1, .int v2]) (rest := [.ref q95, .ref (g 15)]) S (q_l_Move l D cI cB cZ q95 v0 v1 v2 H.size) kI_RX11_513 hK hP hD [_] (one_is (exr (m := 0) rfl)) (one_im (exr (m := 0) rfl)) rfl ⟨Nat.le_of_ble_eq_true rfl, Nat.le_of_ble_eq_true rfl⟩ ⟨Nat.le_of_ble_eq_true rfl, Nat.le_of_ble_eq_true rfl⟩ rfl hl.1 rfl (Nat.le_of_ble_eq_true rfl) dX11_moves_102) hS (fun q _ h => hFc q h) hFc (fun u_15 t H1 locs ht hvm h_16 hB1 hz1 hk1 hS => ?_)
            obtain ⟨hP1, hD1⟩ := hB1
            rw [ht] at hP1
            obtain ⟨hP, hD⟩ := exjoin hP hD hk1 hFc hP1 hD1
            generalize H1 = H at hP hS ⊢
            have hP : va_P D vwCl ((wX cI (D.1 99) zz g ad cn In Fn) ++ ([(q95, .inr (4, [.int v0, .int v1, .int v2]))] : va_W)) H := hP
            have hD : va_D A ((wX cI (D.1 99) zz g ad cn In Fn) ++ ([(q95, .inr (4, [.int v0, .int v1, .int v2]))] : va_W)) := hD
            rcases Nat.eq_zero_or_pos (cn 15) with hz0 | hz0
            ·
              have hi9 : (wX cI (D.1 99) zz g ad cn In Fn)[29]? = _ := xlz_5 hz0
              have hp2P := pick2P hP (exl hi9) (exr (m := 0) rfl)
              have hp2D := pick2D hD (exl hi9) (exr (m := 0) rfl) (ne_ex hi9)
              have hFc := free_all hp2D hS hA
              refine va_calli (runV_xa (As := [.ref q95]) (rest := []) S (q_l_addZM l D cI cB cZ zz qq vv bt (g 15) q95 (In 15) v0 v1 v2 H.size) kV_RX11_110 hK hXS hS hFc hp2P hp2D 0 rfl rfl rfl ⟨Nat.le_of_ble_eq_true rfl, Nat.le_of_ble_eq_true rfl⟩ ⟨Nat.le_of_ble_eq_true rfl, Nat.le_of_ble_eq_true rfl⟩ rfl hl.1 rfl (Nat.le_of_ble_eq_true rfl) dX11_moves_105) hS (fun q _ h => hFc q h) hFc (fun r16 u16 t H1 locs ht hvm h16 hB1 hz1 hk1 hS => ?_)
              obtain ⟨hP1, hD1⟩ := hB1
              rw [ht] at hP1
              obtain rfl : r16 = 1 := h16
              obtain ⟨hP, hD⟩ := add0_join hP hD hi9 rfl hk1 hFc hP1 hD1 rfl (xu_5 (z := u16) (c := 10) (y := (In 15) + 1) (q := q95) (x0 := v0) (x1 := v1) (x2 := v2) hz0)
              have hP : va_P D vwCl (wX cI (D.1 99) zz g (adP ad 15 (cn 15) q95 5 u16) (va_up (va_up cn 15 ((cn 15) + 1)) 25 10) (va_up In 15 ((In 15) + 1)) (va_up (va_up (va_up Fn 180 (upd (Fn 180) (cn 15) v0)) 181 (upd (Fn 181) (cn 15) v1)) 182 (upd (Fn 182) (cn 15) v2))) H1 := hP
              have hD : va_D A (wX cI (D.1 99) zz g (adP ad 15 (cn 15) q95 5 u16) (va_up (va_up cn 15 ((cn 15) + 1)) 25 10) (va_up In 15 ((In 15) + 1)) (va_up (va_up (va_up Fn 180 (upd (Fn 180) (cn 15) v0)) 181 (upd (Fn 181) (cn 15) v1)) 182 (upd (Fn 182) (cn 15) v2))) := hD
              generalize H1 = H at hP hS ⊢
              refine W.widen (k := 2) (n := 103) (Nat.le_of_ble_eq_true rfl) (Nat.le_of_ble_eq_true rfl) ?_
              refine lv_pop hx hb dX11_moves_108 rfl ?_
              refine lv_iconst (v := 1) hx hb dX11_moves_109 kic_1 ?_
              exact W.zret (v := 1) hx hb hr rfl (fun t ht hW => ⟨⟨1, ((adP ad 15 (cn 15) q95 5 u16), (va_up (va_up cn 15 ((cn 15) + 1)) 25 10), (va_up In 15 ((In 15) + 1)), (va_up (va_up (va_up Fn 180 (upd (Fn 180) (cn 15) v0)) 181 (upd (Fn 181) (cn 15) v1)) 182 (upd (Fn 182) (cn 15) v2))), rfl, (Or.inr ⟨rfl, ⟨by omega, fun m9 hm9 => absurd (hm9.symm.trans k9) (fun q9 => by cases q9)⟩, q95, u16, 10, ((In 15) + 1), ⟨by omega, by omega⟩, rfl, rfl, rfl, rfl⟩), by rw [ht]; exact hP, hD⟩, hS.F ht⟩) hS.2.2 dX11_moves_110
            ·
              have hi9 : (wX cI (D.1 99) zz g ad cn In Fn)[29]? = _ := xl_5 hz0
              have hj9 : (wX cI (D.1 99) zz g ad cn In Fn)[_]? = _ := xf_18 (k := 0) (show 0 < min 1 (cn 15) by omega)
              obtain ⟨ws9, hp1, hp2⟩ := pickG (W := ((wX cI (D.1 99) zz g ad cn In Fn) ++ ([(q95, .inr (4, [.int v0, .int v1, .int v2]))] : va_W))) (exl hi9) (exl hj9) (exr (m := 0) rfl) (xij (by decide)) (ne_ex hi9) (ne_ex hj9)
              have hP9 := va_P_perm hp1 hP
              have hD9 := va_D_perm hp1 hD
              have hFc := free_all hD9 hS hA
              refine va_calli (runV_xa (As := [.ref q95]) (rest := []) S (q_l_addGM l D cI cB cZ zz qq vv bt (cn 25) (g 15) (ad 2 5) (cn 15) q95 (In 15) (ad 15) v0 v1 v2 ws9 H.size (by omega) (by omega) hz0 (by omega) (fun i hi => ⟨_, g_mem (hp1.mem_iff.mp (List.mem_of_getElem? (exl (xf_5 (k := i) hi)))) (by decide)⟩)) kV_RX11_110 hK hXS hS hFc hP9 hD9 0 rfl rfl rfl ⟨Nat.le_of_ble_eq_true rfl, Nat.le_of_ble_eq_true rfl⟩ ⟨Nat.le_of_ble_eq_true rfl, Nat.le_of_ble_eq_true rfl⟩ rfl hl.1 rfl (Nat.le_of_ble_eq_true rfl) dX11_moves_105) hS (fun q _ h => hFc q h) hFc (fun r16 u16 t H1 locs ht hvm h16 hB1 hz1 hk1 hS => ?_)
              obtain ⟨hP1, hD1⟩ := hB1
              rw [ht] at hP1
              obtain ⟨hr16, h16⟩ := h16
              obtain rfl : r16 = 1 := hr16
              obtain ⟨ua16, uc16⟩ := u16
              have hu16 : cn 15 < uc16 ∧ uc16 ≤ 100 := h16
              obtain ⟨hP, hD⟩ := addG_join hp2 hi9 hj9 hP1 hD1 hFc (xadd_5 (z := ua16) (c := uc16) (y := (In 15) + 1) (q := q95) (x0 := v0) (x1 := v1) (x2 := v2) hz0)
              have hP : va_P D vwCl (wX cI (D.1 99) zz g (adP ad 15 (cn 15) q95 5 ua16) (va_up (va_up cn 15 ((cn 15) + 1)) 25 uc16) (va_up In 15 ((In 15) + 1)) (va_up (va_up (va_up Fn 180 (upd (Fn 180) (cn 15) v0)) 181 (upd (Fn 181) (cn 15) v1)) 182 (upd (Fn 182) (cn 15) v2))) H1 := hP
              have hD : va_D A (wX cI (D.1 99) zz g (adP ad 15 (cn 15) q95 5 ua16) (va_up (va_up cn 15 ((cn 15) + 1)) 25 uc16) (va_up In 15 ((In 15) + 1)) (va_up (va_up (va_up Fn 180 (upd (Fn 180) (cn 15) v0)) 181 (upd (Fn 181) (cn 15) v1)) 182 (upd (Fn 182) (cn 15) v2))) := hD
              generalize H1 = H at hP hS ⊢
              refine lv_pop hx hb dX11_moves_108 rfl ?_
              refine lv_iconst (v := 1) hx hb dX11_moves_109 kic_1 ?_
              exact W.zret (v := 1) hx hb hr rfl (fun t ht hW => ⟨⟨1, ((adP ad 15 (cn 15) q95 5 ua16), (va_up (va_up cn 15 ((cn 15) + 1)) 25 uc16), (va_up In 15 ((In 15) + 1)), (va_up (va_up (va_up Fn 180 (upd (Fn 180) (cn 15) v0)) 181 (upd (Fn 181) (cn 15) v1)) 182 (upd (Fn 182) (cn 15) v2))), rfl, (Or.inr ⟨rfl, ⟨by omega, fun m9 hm9 => absurd (hm9.symm.trans k9) (fun q9 => by cases q9)⟩, q95, ua16, uc16, ((In 15) + 1), ⟨by omega, by omega⟩, rfl, rfl, rfl, rfl⟩), by rw [ht]; exact hP, hD⟩, hS.F ht⟩) hS.2.2 dX11_moves_110
        ·
          have tc_8 : (60 : Int) ≤ (nI (cn 15)).toInt := Int32.le_iff_toInt_le.mp (Int32.not_lt.mp c_8)
          refine lv_iconst (v := 0) hx hb dX11_moves_63 kic_0 ?_
          refine W.widen (k := 2) (n := 103) (Nat.le_of_ble_eq_true rfl) (Nat.le_of_ble_eq_true rfl) ?_
          exact W.zret (v := 0) hx hb hr rfl (fun t ht hW => ⟨⟨0, (ad, cn, In, Fn), rfl, (Or.inl ⟨rfl, (fun w9 => by have w8 := w9.1; omega), rfl, rfl, rfl, rfl⟩), by rw [ht]; exact hP, hD⟩, hS.F ht⟩) hS.2.2 dX11_moves_64
      ·
        have h_5 : ¬ (0 ≤ v2.toInt ∧ v2.toInt ≤ (nI (cn 0)).toInt) := h_5
        refine lv_if_eq (tgt := 63) hx hb dX11_moves_48 rfl (fun _ => ?_) (fun h => absurd h cq_eq_0_0)
        refine lv_iconst (v := 0) hx hb dX11_moves_63 kic_0 ?_
        refine W.widen (k := 2) (n := 103) (Nat.le_of_ble_eq_true rfl) (Nat.le_of_ble_eq_true rfl) ?_
        exact W.zret (v := 0) hx hb hr rfl (fun t ht hW => ⟨⟨0, (ad, cn, In, Fn), rfl, (Or.inl ⟨rfl, (fun w9 => by have w8 := w9.1; omega), rfl, rfl, rfl, rfl⟩), by rw [ht]; exact hP, hD⟩, hS.F ht⟩) hS.2.2 dX11_moves_64
    ·
      have tc_3 : (v1.toInt : Int) ≠ (-1) := fun q => c_3 (Int32.toInt_inj.mp q)
      refine lv_aload_n hx hb (oc_42 19 (aq_19 shX11_moves_0)) rfl (lvA0 hl) ?_
      refine lv_iload_n hx hb (oc_28 20 (aq_20 shX11_moves_0)) rfl (lvA2 hl) ?_
      refine va_csq (runV_rxa (As := [.int v1]) (rest := []) S (q_XkitchenAt l D cI cB cZ zz qq vv bt g ad cn In Fn v1 hB) kV_RX11_114 hK hXS hS hP 0 xo_0 rfl rfl ⟨Nat.le_of_ble_eq_true rfl, Nat.le_of_ble_eq_true rfl⟩ ⟨Nat.le_of_ble_eq_true rfl, Nat.le_of_ble_eq_true rfl⟩ rfl hl.1 rfl (Nat.le_of_ble_eq_true rfl) (oc_182 21 (aq_21 shX11_moves_0) uw_0_114)) (fun r_18 h_19 => ?_)
      rcases h_19 with ⟨mr_18, er_18, hr_18, rfl⟩ | ⟨hr_18, rfl⟩
      ·
        refine lv_ifnull hx hb dX11_moves_24 ?_
        refine lv_iconst (v := 1) hx hb dX11_moves_27 kic_1 ?_
        refine lv_goto (tgt := 32) hx hb dX11_moves_28 rfl ?_
        refine lv_istore (lv' := [(4, .int 1), (0, .ref (g 0)), (1, .int v0), (2, .int v1), (3, .int v2)]) hx hb dX11_moves_32 hl (ltb rfl) rfl (fun ls hl => ?_)
        refine lv_iload hx hb dX11_moves_34 (lvA0 hl) ?_
        refine lv_if_eq (tgt := 63) hx hb dX11_moves_36 rfl (fun h => absurd h cq_eq_1_0) (fun _ => ?_)
        refine lv_iload_n hx hb dX11_moves_39 rfl (lvA4 hl) ?_
        refine lv_iconst (v := 0) hx hb dX11_moves_40 kic_0 ?_
        refine lv_aload_n hx hb dX11_moves_41 rfl (lvA1 hl) ?_
        refine gf_RX11_103 S hK hP 0 xo_0 (v := .int (nI (cn 0))) rfl dX11_moves_42 ?_
        refine vp_callSi (runS_r (As := [.int v2, .int 0, .int (nI (cn 0))]) (rest := []) S (q_l_within l D cI cB cZ v2 0 (nI (cn 0))) kS_RX11_80 hK hP [] rfl ⟨Nat.le_of_ble_eq_true rfl, Nat.le_of_ble_eq_true rfl⟩ ⟨Nat.le_of_ble_eq_true rfl, Nat.le_of_ble_eq_true rfl⟩ rfl hl.1 rfl (Nat.le_of_ble_eq_true rfl) dX11_moves_45) (fun r_20 h_21 => ?_)
        have : (nI (cn 0)).toInt = (((cn 0) : Nat) : Int) := nI_toInt (by omega)
        rcases h_21 with ⟨rfl, h_21⟩ | ⟨rfl, h_21⟩
        ·
          have h_21 : 0 ≤ v2.toInt ∧ v2.toInt ≤ (nI (cn 0)).toInt := h_21
          refine lv_if_eq (tgt := 63) hx hb dX11_moves_48 rfl (fun h => absurd h cq_eq_1_0) (fun _ => ?_)
          refine lv_aload_n hx hb dX11_moves_51 rfl (lvA1 hl) ?_
          refine gf_RX11_77 S hK hP 0 xo_0 (v := .ref (g 15)) rfl dX11_moves_52 ?_
          refine vp_callSi (runV_r (As := []) (rest := []) S (q_l_size l D cI cB cZ (g 15) (if (cn 15) = 0 then zz else ad 2 5) (In 15) (nI (cn 15))) kV_RX11_84 hK hP [29] (one_is xo_29) 29 xo_29 rfl rfl ⟨Nat.le_of_ble_eq_true rfl, Nat.le_of_ble_eq_true rfl⟩ ⟨Nat.le_of_ble_eq_true rfl, Nat.le_of_ble_eq_true rfl⟩ rfl hl.1 rfl (Nat.le_of_ble_eq_true rfl) dX11_moves_55) (fun r_22 h_23 => ?_)
          subst h_23
          refine lv_bipush (v := 60) hx hb dX11_moves_58 kbc_60 ?_
          have : (nI (cn 15)).toInt = (((cn 15) : Nat) : Int) := nI_toInt (by omega)
          refine lv_icmp_lt (tgt := 65) hx hb dX11_moves_60 rfl (fun c_24 => ?_) (fun c_24 => ?_)
          ·
            have tc_24 : ((nI (cn 15)).toInt : Int) < 60 := Int32.lt_iff_toInt_lt.mp c_24
            refine lv_aload_n hx hb dX11_moves_65 rfl (lvA1 hl) ?_
            refine lv_iload_n hx hb dX11_moves_66 rfl (lvA2 hl) ?_
            refine lv_sipush (v := 399) hx hb dX11_moves_67 (by decide) ?_
            refine va_csq (runV_rxa (As := [.int v0, .int 399]) (rest := []) S (q_EmoveBy l D cI cB cZ zz qq vv bt g ad cn In Fn v0 399 hB) kV_RX11_509 hK hXS hS hP 0 xo_0 rfl rfl ⟨Nat.le_of_ble_eq_true rfl, Nat.le_of_ble_eq_true rfl⟩ ⟨Nat.le_of_ble_eq_true rfl, Nat.le_of_ble_eq_true rfl⟩ rfl hl.1 rfl (Nat.le_of_ble_eq_true rfl) dX11_moves_70) (fun r_25 h_26 => ?_)
            rcases h_26 with ⟨mr_25, er_25, hr_25, rfl⟩ | ⟨hr_25, rfl⟩
            ·
              refine lv_astore (lv' := [(5, .ref (ad 15 mr_25)), (4, .int 1), (0, .ref (g 0)), (1, .int v0), (2, .int v1), (3, .int v2)]) hx hb dX11_moves_73 hl (ltb rfl) rfl (fun ls hl => ?_)
              have k9 : ∀ m : Nat, lat (Fn 180) (Fn 182) v0 399 (cn 15) = some m → m = mr_25 := fun m hm => Option.some.inj (hm.symm.trans er_25)
              refine lv_aload hx hb dX11_moves_75 (lvA0 hl) ?_
              refine lv_ifnull hx hb dX11_moves_77 ?_
              refine lv_iload_n hx hb dX11_moves_80 rfl (lvA5 hl) ?_
              refine lv_aload hx hb dX11_moves_81 (lvA0 hl) ?_
              refine gf_RX11_508 S hK hP _ (xf_5 (by omega)) (v := .int ((Fn 182) mr_25)) rfl dX11_moves_83 ?_
              refine lv_icmp_ge (tgt := 91) hx hb dX11_moves_86 rfl (fun c_27 => ?_) (fun c_27 => ?_)
              ·
                have tc_27 : (((Fn 182) mr_25).toInt : Int) ≤ v2.toInt := Int32.le_iff_toInt_le.mp c_27
                refine lv_aload_n hx hb dX11_moves_91 rfl (lvA2 hl) ?_
                refine gf_RX11_77 S hK hP 0 xo_0 (v := .ref (g 15)) rfl dX11_moves_92 ?_
                refine va_new (ci := 4) (fs := [.int 0, .int 0, .int 0]) (C := RX3) (T := TX3) (N := 3) hx hb S.2.2.2.2 hin_RX3 tyX3 tyX3_ok hown (S.2.2.2.2 _ (wk6_3 3 rfl rfl)) (S.2.2.2.2 _ (wk6_3 4 rfl rfl)) (S.2.2.2.2 _ (wk1_2 2 rfl rfl)) hK.1 hP hD hS hA rfl (by decide +kernel) (Nat.le_of_ble_eq_true rfl) (Nat.le_of_ble_eq_true rfl) dX11_moves_95 (fun q95 H hP hD hS => ?_)
                have hP : va_P D vwCl ((wX cI (D.1 99) zz g ad cn In Fn) ++ ([(q95, .inr (4, [.int 0, .int 0, .int 0]))] : va_W)) H := hP
                have hD : va_D A ((wX cI (D.1 99) zz g ad cn In Fn) ++ ([(q95, .inr (4, [.int 0, .int 0, .int 0]))] : va_W)) := hD
                refine lv_dup hx hb dX11_moves_98 rfl ?_
                refine lv_iload_n hx hb dX11_moves_99 rfl (lvA3 hl) ?_
                refine lv_iload_n hx hb dX11_moves_100 rfl (lvA4 hl) ?_
                refine lv_iload_n hx hb dX11_moves_101 rfl (lvA5 hl) ?_
                have hFc := va_free (wc := [(q95, .inr (4, [.int 0, .int 0, .int 0]))]) hD hS hA [_] (one_im (exr (m := 0) rfl))
                refine va_callv (runI_w (As := [.int v0, .int v1, .int v2]) (rest := [.ref q95, .ref (g 15)]) S (q_l_Move l D cI cB cZ q95 v0 v1 v2 H.size) kI_RX11_513 hK hP hD [_] (one_is (exr (m := 0) rfl)) (one_im (exr (m := 0) rfl)) rfl ⟨Nat.le_of_ble_eq_true rfl, Nat.le_of_ble_eq_true rfl⟩ ⟨Nat.le_of_ble_eq_true rfl, Nat.le_of_ble_eq_true rfl⟩ rfl hl.1 rfl (Nat.le_of_ble_eq_true rfl) dX11_moves_102) hS (fun q _ h => hFc q h) hFc (fun u_28 t H1 locs ht hvm h_29 hB1 hz1 hk1 hS => ?_)
                obtain ⟨hP1, hD1⟩ := hB1
                rw [ht] at hP1
                obtain ⟨hP, hD⟩ := exjoin hP hD hk1 hFc hP1 hD1
                generalize H1 = H at hP hS ⊢
                have hP : va_P D vwCl ((wX cI (D.1 99) zz g ad cn In Fn) ++ ([(q95, .inr (4, [.int v0, .int v1, .int v2]))] : va_W)) H := hP
                have hD : va_D A ((wX cI (D.1 99) zz g ad cn In Fn) ++ ([(q95, .inr (4, [.int v0, .int v1, .int v2]))] : va_W)) := hD
                rcases Nat.eq_zero_or_pos (cn 15) with hz0 | hz0
                ·
                  have hi9 : (wX cI (D.1 99) zz g ad cn In Fn)[29]? = _ := xlz_5 hz0
                  have hp2P := pick2P hP (exl hi9) (exr (m := 0) rfl)
                  have hp2D := pick2D hD (exl hi9) (exr (m := 0) rfl) (ne_ex hi9)
                  have hFc := free_all hp2D hS hA
                  refine va_calli (runV_xa (As := [.ref q95]) (rest := []) S (q_l_addZM l D cI cB cZ zz qq vv bt (g 15) q95 (In 15) v0 v1 v2 H.size) kV_RX11_110 hK hXS hS hFc hp2P hp2D 0 rfl rfl rfl ⟨Nat.le_of_ble_eq_true rfl, Nat.le_of_ble_eq_true rfl⟩ ⟨Nat.le_of_ble_eq_true rfl, Nat.le_of_ble_eq_true rfl⟩ rfl hl.1 rfl (Nat.le_of_ble_eq_true rfl) dX11_moves_105) hS (fun q _ h => hFc q h) hFc (fun r29 u29 t H1 locs ht hvm h29 hB1 hz1 hk1 hS => ?_)
                  obtain ⟨hP1, hD1⟩ := hB1
                  rw [ht] at hP1
                  obtain rfl : r29 = 1 := h29
                  obtain ⟨hP, hD⟩ := add0_join hP hD hi9 rfl hk1 hFc hP1 hD1 rfl (xu_5 (z := u29) (c := 10) (y := (In 15) + 1) (q := q95) (x0 := v0) (x1 := v1) (x2 := v2) hz0)
                  have hP : va_P D vwCl (wX cI (D.1 99) zz g (adP ad 15 (cn 15) q95 5 u29) (va_up (va_up cn 15 ((cn 15) + 1)) 25 10) (va_up In 15 ((In 15) + 1)) (va_up (va_up (va_up Fn 180 (upd (Fn 180) (cn 15) v0)) 181 (upd (Fn 181) (cn 15) v1)) 182 (upd (Fn 182) (cn 15) v2))) H1 := hP
                  have hD : va_D A (wX cI (D.1 99) zz g (adP ad 15 (cn 15) q95 5 u29) (va_up (va_up cn 15 ((cn 15) + 1)) 25 10) (va_up In 15 ((In 15) + 1)) (va_up (va_up (va_up Fn 180 (upd (Fn 180) (cn 15) v0)) 181 (upd (Fn 181) (cn 15) v1)) 182 (upd (Fn 182) (cn 15) v2))) := hD
                  generalize H1 = H at hP hS ⊢
                  refine W.widen (k := 2) (n := 103) (Nat.le_of_ble_eq_true rfl) (Nat.le_of_ble_eq_true rfl) ?_
                  refine lv_pop hx hb dX11_moves_108 rfl ?_
                  refine lv_iconst (v := 1) hx hb dX11_moves_109 kic_1 ?_
                  exact W.zret (v := 1) hx hb hr rfl (fun t ht hW => ⟨⟨1, ((adP ad 15 (cn 15) q95 5 u29), (va_up (va_up cn 15 ((cn 15) + 1)) 25 10), (va_up In 15 ((In 15) + 1)), (va_up (va_up (va_up Fn 180 (upd (Fn 180) (cn 15) v0)) 181 (upd (Fn 181) (cn 15) v1)) 182 (upd (Fn 182) (cn 15) v2))), rfl, (Or.inr ⟨rfl, ⟨by omega, fun m9 hm9 => by rw [k9 m9 hm9]; omega⟩, q95, u29, 10, ((In 15) + 1), ⟨by omega, by omega⟩, rfl, rfl, rfl, rfl⟩), by rw [ht]; exact hP, hD⟩, hS.F ht⟩) hS.2.2 dX11_moves_110
                ·
                  have hi9 : (wX cI (D.1 99) zz g ad cn In Fn)[29]? = _ := xl_5 hz0
                  have hj9 : (wX cI (D.1 99) zz g ad cn In Fn)[_]? = _ := xf_18 (k := 0) (show 0 < min 1 (cn 15) by omega)
                  obtain ⟨ws9, hp1, hp2⟩ := pickG (W := ((wX cI (D.1 99) zz g ad cn In Fn) ++ ([(q95, .inr (4, [.int v0, .int v1, .int v2]))] : va_W))) (exl hi9) (exl hj9) (exr (m := 0) rfl) (xij (by decide)) (ne_ex hi9) (ne_ex hj9)
                  have hP9 := va_P_perm hp1 hP
                  have hD9 := va_D_perm hp1 hD
                  have hFc := free_all hD9 hS hA
                  refine va_calli (runV_xa (As := [.ref q95]) (rest := []) S (q_l_addGM l D cI cB cZ zz qq vv bt (cn 25) (g 15) (ad 2 5) (cn 15) q95 (In 15) (ad 15) v0 v1 v2 ws9 H.size (by omega) (by omega) hz0 (by omega) (fun i hi => ⟨_, g_mem (hp1.mem_iff.mp (List.mem_of_getElem? (exl (xf_5 (k := i) hi)))) (by decide)⟩)) kV_RX11_110 hK hXS hS hFc hP9 hD9 0 rfl rfl rfl ⟨Nat.le_of_ble_eq_true rfl, Nat.le_of_ble_eq_true rfl⟩ ⟨Nat.le_of_ble_eq_true rfl, Nat.le_of_ble_eq_true rfl⟩ rfl hl.1 rfl (Nat.le_of_ble_eq_true rfl) dX11_moves_105) hS (fun q _ h => hFc q h) hFc (fun r29 u29 t H1 locs ht hvm h29 hB1 hz1 hk1 hS => ?_)
                  obtain ⟨hP1, hD1⟩ := hB1
                  rw [ht] at hP1
                  obtain ⟨hr29, h29⟩ := h29
                  obtain rfl : r29 = 1 := hr29
                  obtain ⟨ua29, uc29⟩ := u29
                  have hu29 : cn 15 < uc29 ∧ uc29 ≤ 100 := h29
                  obtain ⟨hP, hD⟩ := addG_join hp2 hi9 hj9 hP1 hD1 hFc (xadd_5 (z := ua29) (c := uc29) (y := (In 15) + 1) (q := q95) (x0 := v0) (x1 := v1) (x2 := v2) hz0)
                  have hP : va_P D vwCl (wX cI (D.1 99) zz g (adP ad 15 (cn 15) q95 5 ua29) (va_up (va_up cn 15 ((cn 15) + 1)) 25 uc29) (va_up In 15 ((In 15) + 1)) (va_up (va_up (va_up Fn 180 (upd (Fn 180) (cn 15) v0)) 181 (upd (Fn 181) (cn 15) v1)) 182 (upd (Fn 182) (cn 15) v2))) H1 := hP
                  have hD : va_D A (wX cI (D.1 99) zz g (adP ad 15 (cn 15) q95 5 ua29) (va_up (va_up cn 15 ((cn 15) + 1)) 25 uc29) (va_up In 15 ((In 15) + 1)) (va_up (va_up (va_up Fn 180 (upd (Fn 180) (cn 15) v0)) 181 (upd (Fn 181) (cn 15) v1)) 182 (upd (Fn 182) (cn 15) v2))) := hD
                  generalize H1 = H at hP hS ⊢
                  refine lv_pop hx hb dX11_moves_108 rfl ?_
                  refine lv_iconst (v := 1) hx hb dX11_moves_109 kic_1 ?_
                  exact W.zret (v := 1) hx hb hr rfl (fun t ht hW => ⟨⟨1, ((adP ad 15 (cn 15) q95 5 ua29), (va_up (va_up cn 15 ((cn 15) + 1)) 25 uc29), (va_up In 15 ((In 15) + 1)), (va_up (va_up (va_up Fn 180 (upd (Fn 180) (cn 15) v0)) 181 (upd (Fn 181) (cn 15) v1)) 182 (upd (Fn 182) (cn 15) v2))), rfl, (Or.inr ⟨rfl, ⟨by omega, fun m9 hm9 => by rw [k9 m9 hm9]; omega⟩, q95, ua29, uc29, ((In 15) + 1), ⟨by omega, by omega⟩, rfl, rfl, rfl, rfl⟩), by rw [ht]; exact hP, hD⟩, hS.F ht⟩) hS.2.2 dX11_moves_110
              ·
                have tc_27 : (v2.toInt : Int) < ((Fn 182) mr_25).toInt := Int32.lt_iff_toInt_lt.mp (Int32.not_le.mp c_27)
                refine lv_iconst (v := 0) hx hb dX11_moves_89 kic_0 ?_
                refine W.widen (k := 2) (n := 103) (Nat.le_of_ble_eq_true rfl) (Nat.le_of_ble_eq_true rfl) ?_
                exact W.zret (v := 0) hx hb hr rfl (fun t ht hW => ⟨⟨0, (ad, cn, In, Fn), rfl, (Or.inl ⟨rfl, (fun w9 => by have w8 := w9.2 _ er_25; omega), rfl, rfl, rfl, rfl⟩), by rw [ht]; exact hP, hD⟩, hS.F ht⟩) hS.2.2 dX11_moves_90
            ·
              refine lv_astoreN (lv' := [(5, .null), (4, .int 1), (0, .ref (g 0)), (1, .int v0), (2, .int v1), (3, .int v2)]) hx hb dX11_moves_73 hl (ltb rfl) rfl (fun ls hl => ?_)
              have k9 : lat (Fn 180) (Fn 182) v0 399 (cn 15) = none := by assumption
              refine lv_aloadN hx hb dX11_moves_75 (lvA0 hl) ?_
              refine lv_ifnullN (tgt := 91) hx hb dX11_moves_77 rfl ?_
              refine lv_aload_n hx hb dX11_moves_91 rfl (lvA2 hl) ?_
              refine gf_RX11_77 S hK hP 0 xo_0 (v := .ref (g 15)) rfl dX11_moves_92 ?_
              refine va_new (ci := 4) (fs := [.int 0, .int 0, .int 0]) (C := RX3) (T := TX3) (N := 3) hx hb S.2.2.2.2 hin_RX3 tyX3 tyX3_ok hown (S.2.2.2.2 _ (wk6_3 3 rfl rfl)) (S.2.2.2.2 _ (wk6_3 4 rfl rfl)) (S.2.2.2.2 _ (wk1_2 2 rfl rfl)) hK.1 hP hD hS hA rfl (by decide +kernel) (Nat.le_of_ble_eq_true rfl) (Nat.le_of_ble_eq_true rfl) dX11_moves_95 (fun q95 H hP hD hS => ?_)
              have hP : va_P D vwCl ((wX cI (D.1 99) zz g ad cn In Fn) ++ ([(q95, .inr (4, [.int 0, .int 0, .int 0]))] : va_W)) H := hP
              have hD : va_D A ((wX cI (D.1 99) zz g ad cn In Fn) ++ ([(q95, .inr (4, [.int 0, .int 0, .int 0]))] : va_W)) := hD
              refine lv_dup hx hb dX11_moves_98 rfl ?_
              refine lv_iload_n hx hb dX11_moves_99 rfl (lvA3 hl) ?_
              refine lv_iload_n hx hb dX11_moves_100 rfl (lvA4 hl) ?_
              refine lv_iload_n hx hb dX11_moves_101 rfl (lvA5 hl) ?_
              have hFc := va_free (wc := [(q95, .inr (4, [.int 0, .int 0, .int 0]))]) hD hS hA [_] (one_im (exr (m := 0) rfl))
              refine va_callv (runI_w (As := [.int v0, .int v1, .int v2]) (rest := [.ref q95, .ref (g 15)]) S (q_l_Move l D cI cB cZ q95 v0 v1 v2 H.size) kI_RX11_513 hK hP hD [_] (one_is (exr (m := 0) rfl)) (one_im (exr (m := 0) rfl)) rfl ⟨Nat.le_of_ble_eq_true rfl, Nat.le_of_ble_eq_true rfl⟩ ⟨Nat.le_of_ble_eq_true rfl, Nat.le_of_ble_eq_true rfl⟩ rfl hl.1 rfl (Nat.le_of_ble_eq_true rfl) dX11_moves_102) hS (fun q _ h => hFc q h) hFc (fun u_31 t H1 locs ht hvm h_32 hB1 hz1 hk1 hS => ?_)
              obtain ⟨hP1, hD1⟩ := hB1
              rw [ht] at hP1
              obtain ⟨hP, hD⟩ := exjoin hP hD hk1 hFc hP1 hD1
              generalize H1 = H at hP hS ⊢
              have hP : va_P D vwCl ((wX cI (D.1 99) zz g ad cn In Fn) ++ ([(q95, .inr (4, [.int v0, .int v1, .int v2]))] : va_W)) H := hP
              have hD : va_D A ((wX cI (D.1 99) zz g ad cn In Fn) ++ ([(q95, .inr (4, [.int v0, .int v1, .int v2]))] : va_W)) := hD
              rcases Nat.eq_zero_or_pos (cn 15) with hz0 | hz0
              ·
                have hi9 : (wX cI (D.1 99) zz g ad cn In Fn)[29]? = _ := xlz_5 hz0
                have hp2P := pick2P hP (exl hi9) (exr (m := 0) rfl)
                have hp2D := pick2D hD (exl hi9) (exr (m := 0) rfl) (ne_ex hi9)
                have hFc := free_all hp2D hS hA
                refine va_calli (runV_xa (As := [.ref q95]) (rest := []) S (q_l_addZM l D cI cB cZ zz qq vv bt (g 15) q95 (In 15) v0 v1 v2 H.size) kV_RX11_110 hK hXS hS hFc hp2P hp2D 0 rfl rfl rfl ⟨Nat.le_of_ble_eq_true rfl, Nat.le_of_ble_eq_true rfl⟩ ⟨Nat.le_of_ble_eq_true rfl, Nat.le_of_ble_eq_true rfl⟩ rfl hl.1 rfl (Nat.le_of_ble_eq_true rfl) dX11_moves_105) hS (fun q _ h => hFc q h) hFc (fun r32 u32 t H1 locs ht hvm h32 hB1 hz1 hk1 hS => ?_)
                obtain ⟨hP1, hD1⟩ := hB1
                rw [ht] at hP1
                obtain rfl : r32 = 1 := h32
                obtain ⟨hP, hD⟩ := add0_join hP hD hi9 rfl hk1 hFc hP1 hD1 rfl (xu_5 (z := u32) (c := 10) (y := (In 15) + 1) (q := q95) (x0 := v0) (x1 := v1) (x2 := v2) hz0)
                have hP : va_P D vwCl (wX cI (D.1 99) zz g (adP ad 15 (cn 15) q95 5 u32) (va_up (va_up cn 15 ((cn 15) + 1)) 25 10) (va_up In 15 ((In 15) + 1)) (va_up (va_up (va_up Fn 180 (upd (Fn 180) (cn 15) v0)) 181 (upd (Fn 181) (cn 15) v1)) 182 (upd (Fn 182) (cn 15) v2))) H1 := hP
                have hD : va_D A (wX cI (D.1 99) zz g (adP ad 15 (cn 15) q95 5 u32) (va_up (va_up cn 15 ((cn 15) + 1)) 25 10) (va_up In 15 ((In 15) + 1)) (va_up (va_up (va_up Fn 180 (upd (Fn 180) (cn 15) v0)) 181 (upd (Fn 181) (cn 15) v1)) 182 (upd (Fn 182) (cn 15) v2))) := hD
                generalize H1 = H at hP hS ⊢
                refine W.widen (k := 2) (n := 103) (Nat.le_of_ble_eq_true rfl) (Nat.le_of_ble_eq_true rfl) ?_
                refine lv_pop hx hb dX11_moves_108 rfl ?_
                refine lv_iconst (v := 1) hx hb dX11_moves_109 kic_1 ?_
                exact W.zret (v := 1) hx hb hr rfl (fun t ht hW => ⟨⟨1, ((adP ad 15 (cn 15) q95 5 u32), (va_up (va_up cn 15 ((cn 15) + 1)) 25 10), (va_up In 15 ((In 15) + 1)), (va_up (va_up (va_up Fn 180 (upd (Fn 180) (cn 15) v0)) 181 (upd (Fn 181) (cn 15) v1)) 182 (upd (Fn 182) (cn 15) v2))), rfl, (Or.inr ⟨rfl, ⟨by omega, fun m9 hm9 => absurd (hm9.symm.trans k9) (fun q9 => by cases q9)⟩, q95, u32, 10, ((In 15) + 1), ⟨by omega, by omega⟩, rfl, rfl, rfl, rfl⟩), by rw [ht]; exact hP, hD⟩, hS.F ht⟩) hS.2.2 dX11_moves_110
              ·
                have hi9 : (wX cI (D.1 99) zz g ad cn In Fn)[29]? = _ := xl_5 hz0
                have hj9 : (wX cI (D.1 99) zz g ad cn In Fn)[_]? = _ := xf_18 (k := 0) (show 0 < min 1 (cn 15) by omega)
                obtain ⟨ws9, hp1, hp2⟩ := pickG (W := ((wX cI (D.1 99) zz g ad cn In Fn) ++ ([(q95, .inr (4, [.int v0, .int v1, .int v2]))] : va_W))) (exl hi9) (exl hj9) (exr (m := 0) rfl) (xij (by decide)) (ne_ex hi9) (ne_ex hj9)
                have hP9 := va_P_perm hp1 hP
                have hD9 := va_D_perm hp1 hD
                have hFc := free_all hD9 hS hA
                refine va_calli (runV_xa (As := [.ref q95]) (rest := []) S (q_l_addGM l D cI cB cZ zz qq vv bt (cn 25) (g 15) (ad 2 5) (cn 15) q95 (In 15) (ad 15) v0 v1 v2 ws9 H.size (by omega) (by omega) hz0 (by omega) (fun i hi => ⟨_, g_mem (hp1.mem_iff.mp (List.mem_of_getElem? (exl (xf_5 (k := i) hi)))) (by decide)⟩)) kV_RX11_110 hK hXS hS hFc hP9 hD9 0 rfl rfl rfl ⟨Nat.le_of_ble_eq_true rfl, Nat.le_of_ble_eq_true rfl⟩ ⟨Nat.le_of_ble_eq_true rfl, Nat.le_of_ble_eq_true rfl⟩ rfl hl.1 rfl (Nat.le_of_ble_eq_true rfl) dX11_moves_105) hS (fun q _ h => hFc q h) hFc (fun r32 u32 t H1 locs ht hvm h32 hB1 hz1 hk1 hS => ?_)
                obtain ⟨hP1, hD1⟩ := hB1
                rw [ht] at hP1
                obtain ⟨hr32, h32⟩ := h32
                obtain rfl : r32 = 1 := hr32
                obtain ⟨ua32, uc32⟩ := u32
                have hu32 : cn 15 < uc32 ∧ uc32 ≤ 100 := h32
                obtain ⟨hP, hD⟩ := addG_join hp2 hi9 hj9 hP1 hD1 hFc (xadd_5 (z := ua32) (c := uc32) (y := (In 15) + 1) (q := q95) (x0 := v0) (x1 := v1) (x2 := v2) hz0)
                have hP : va_P D vwCl (wX cI (D.1 99) zz g (adP ad 15 (cn 15) q95 5 ua32) (va_up (va_up cn 15 ((cn 15) + 1)) 25 uc32) (va_up In 15 ((In 15) + 1)) (va_up (va_up (va_up Fn 180 (upd (Fn 180) (cn 15) v0)) 181 (upd (Fn 181) (cn 15) v1)) 182 (upd (Fn 182) (cn 15) v2))) H1 := hP
                have hD : va_D A (wX cI (D.1 99) zz g (adP ad 15 (cn 15) q95 5 ua32) (va_up (va_up cn 15 ((cn 15) + 1)) 25 uc32) (va_up In 15 ((In 15) + 1)) (va_up (va_up (va_up Fn 180 (upd (Fn 180) (cn 15) v0)) 181 (upd (Fn 181) (cn 15) v1)) 182 (upd (Fn 182) (cn 15) v2))) := hD
                generalize H1 = H at hP hS ⊢
                refine lv_pop hx hb dX11_moves_108 rfl ?_
                refine lv_iconst (v := 1) hx hb dX11_moves_109 kic_1 ?_
                exact W.zret (v := 1) hx hb hr rfl (fun t ht hW => ⟨⟨1, ((adP ad 15 (cn 15) q95 5 ua32), (va_up (va_up cn 15 ((cn 15) + 1)) 25 uc32), (va_up In 15 ((In 15) + 1)), (va_up (va_up (va_up Fn 180 (upd (Fn 180) (cn 15) v0)) 181 (upd (Fn 181) (cn 15) v1)) 182 (upd (Fn 182) (cn 15) v2))), rfl, (Or.inr ⟨rfl, ⟨by omega, fun m9 hm9 => absurd (hm9.symm.trans k9) (fun q9 => by cases q9)⟩, q95, ua32, uc32, ((In 15) + 1), ⟨by omega, by omega⟩, rfl, rfl, rfl, rfl⟩), by rw [ht]; exact hP, hD⟩, hS.F ht⟩) hS.2.2 dX11_moves_110
          ·
            have tc_24 : (60 : Int) ≤ (nI (cn 15)).toInt := Int32.le_iff_toInt_le.mp (Int32.not_lt.mp c_24)
            refine lv_iconst (v := 0) hx hb dX11_moves_63 kic_0 ?_
            refine W.widen (k := 2) (n := 103) (Nat.le_of_ble_eq_true rfl) (Nat.le_of_ble_eq_true rfl) ?_
            exact W.zret (v := 0) hx hb hr rfl (fun t ht hW => ⟨⟨0, (ad, cn, In, Fn), rfl, (Or.inl ⟨rfl, (fun w9 => by have w8 := w9.1; omega), rfl, rfl, rfl, rfl⟩), by rw [ht]; exact hP, hD⟩, hS.F ht⟩) hS.2.2 dX11_moves_64
        ·
          have h_21 : ¬ (0 ≤ v2.toInt ∧ v2.toInt ≤ (nI (cn 0)).toInt) := h_21
          refine lv_if_eq (tgt := 63) hx hb dX11_moves_48 rfl (fun _ => ?_) (fun h => absurd h cq_eq_0_0)
          refine lv_iconst (v := 0) hx hb dX11_moves_63 kic_0 ?_
          refine W.widen (k := 2) (n := 103) (Nat.le_of_ble_eq_true rfl) (Nat.le_of_ble_eq_true rfl) ?_
          exact W.zret (v := 0) hx hb hr rfl (fun t ht hW => ⟨⟨0, (ad, cn, In, Fn), rfl, (Or.inl ⟨rfl, (fun w9 => by have w8 := w9.1; omega), rfl, rfl, rfl, rfl⟩), by rw [ht]; exact hP, hD⟩, hS.F ht⟩) hS.2.2 dX11_moves_64
      ·
        refine lv_ifnullN (tgt := 31) hx hb dX11_moves_24 rfl ?_
        refine lv_iconst (v := 0) hx hb dX11_moves_31 kic_0 ?_
        refine lv_istore (lv' := [(4, .int 0), (0, .ref (g 0)), (1, .int v0), (2, .int v1), (3, .int v2)]) hx hb dX11_moves_32 hl (ltb rfl) rfl (fun ls hl => ?_)
        refine lv_iload hx hb dX11_moves_34 (lvA0 hl) ?_
        refine lv_if_eq (tgt := 63) hx hb dX11_moves_36 rfl (fun _ => ?_) (fun h => absurd h cq_eq_0_0)
        refine lv_iconst (v := 0) hx hb dX11_moves_63 kic_0 ?_
        refine W.widen (k := 2) (n := 103) (Nat.le_of_ble_eq_true rfl) (Nat.le_of_ble_eq_true rfl) ?_
        exact W.zret (v := 0) hx hb hr rfl (fun t ht hW => ⟨⟨0, (ad, cn, In, Fn), rfl, (Or.inl ⟨rfl, (fun w9 => by have w8 := w9.1; omega), rfl, rfl, rfl, rfl⟩), by rw [ht]; exact hP, hD⟩, hS.F ht⟩) hS.2.2 dX11_moves_64
  ·
    have h_2 : ¬ (0 ≤ v0.toInt ∧ v0.toInt ≤ ((nI (cn 2)) - 1).toInt) := h_2
    refine lv_if_eq (tgt := 31) hx hb dX11_moves_11 rfl (fun _ => ?_) (fun h => absurd h cq_eq_0_0)
    refine lv_iconst (v := 0) hx hb dX11_moves_31 kic_0 ?_
    refine lv_istore (lv' := [(4, .int 0), (0, .ref (g 0)), (1, .int v0), (2, .int v1), (3, .int v2)]) hx hb dX11_moves_32 hl (ltb rfl) rfl (fun ls hl => ?_)
    refine lv_iload hx hb dX11_moves_34 (lvA0 hl) ?_
    refine lv_if_eq (tgt := 63) hx hb dX11_moves_36 rfl (fun _ => ?_) (fun h => absurd h cq_eq_0_0)
    refine lv_iconst (v := 0) hx hb dX11_moves_63 kic_0 ?_
    refine W.widen (k := 2) (n := 103) (Nat.le_of_ble_eq_true rfl) (Nat.le_of_ble_eq_true rfl) ?_
    exact W.zret (v := 0) hx hb hr rfl (fun t ht hW => ⟨⟨0, (ad, cn, In, Fn), rfl, (Or.inl ⟨rfl, (fun w9 => by have w8 := w9.1; omega), rfl, rfl, rfl, rfl⟩), by rw [ht]; exact hP, hD⟩, hS.F ht⟩) hS.2.2 dX11_moves_64
set_option maxRecDepth 100000 in
set_option maxHeartbeats 4000000 in
theorem q_moves9 (l : Launch) (D : va_G) (cI cB cZ : ClassId) (g : Nat → Nat) (cn : Nat → Nat) (In : Nat → Int32) (Fn : Nat → Nat → Int32) (v0 v1 v2 : Int32) (sz : Nat) (hI : IM cn Fn) : Met l yX12_moves (CWS yX12_moves cX12_moves 5 (some .boolean)) (RM 2 0 0) (PBw [.ref (g 100), .int v0, .int v1, .int v2] D cI cB cZ (wM cI cB cZ g cn In Fn) sz) (va_Qi (fun (r : Int32) (u : (Nat → Nat) × (Nat → Int32) × (Nat → Nat → Int32)) => (fun r c2 I2 F2 => (((0 ≤ v0.toInt ∧ v0.toInt < (cn 57 : Int) ∧ -1 ≤ v1.toInt ∧ v1.toInt < (cn 1 : Int) ∧ 0 ≤ v2.toInt ∧ v2.toInt ≤ (cn 0 : Int) ∧ cn 58 < 60) ∧ (∀ m : Nat, lat (Fn 59) (Fn 61) v0 399 (cn 58) = some m → (Fn 61 m).toInt ≤ v2.toInt)) ∧ r = 1 ∧ c2 = (va_up cn 58 (cn 58 + 1)) ∧ I2 = In ∧ F2 = (va_up (va_up (va_up Fn 59 (upd (Fn 59) (cn 58) v0)) 60 (upd (Fn 60) (cn 58) v1)) 61 (upd (Fn 61) (cn 58) v2))) ∨ ((¬ ((0 ≤ v0.toInt ∧ v0.toInt < (cn 57 : Int) ∧ -1 ≤ v1.toInt ∧ v1.toInt < (cn 1 : Int) ∧ 0 ≤ v2.toInt ∧ v2.toInt ≤ (cn 0 : Int) ∧ cn 58 < 60) ∧ (∀ m : Nat, lat (Fn 59) (Fn 61) v0 399 (cn 58) = some m → (Fn 61 m).toInt ≤ v2.toInt))) ∧ r = 0 ∧ c2 = cn ∧ I2 = In ∧ F2 = Fn)) r u.1 u.2.1 u.2.2) (fun (u : (Nat → Nat) × (Nat → Int32) × (Nat → Nat → Int32)) (t : State) => va_P D vwCl (wM cI cB cZ g u.1 u.2.1 u.2.2) t.heap ∧ va_D (va_A (wM cI cB cZ g cn In Fn) sz) (wM cI cB cZ g u.1 u.2.1 u.2.2)) (va_A (wM cI cB cZ g cn In Fn) sz)) 0 0 (va_A (wM cI cB cZ g cn In Fn) sz) := by
  refine en_w (fun A => (va_Qi (fun (r : Int32) (u : (Nat → Nat) × (Nat → Int32) × (Nat → Nat → Int32)) => (fun (r : Int32) (c2 : Nat → Nat) (I2 : Nat → Int32) (F2 : Nat → Nat → Int32) => (((0 ≤ v0.toInt ∧ v0.toInt < (cn 57 : Int) ∧ -1 ≤ v1.toInt ∧ v1.toInt < (cn 1 : Int) ∧ 0 ≤ v2.toInt ∧ v2.toInt ≤ (cn 0 : Int) ∧ cn 58 < 60) ∧ (∀ m : Nat, lat (Fn 59) (Fn 61) v0 399 (cn 58) = some m → (Fn 61 m).toInt ≤ v2.toInt)) ∧ r = 1 ∧ c2 = (va_up cn 58 (cn 58 + 1)) ∧ I2 = In ∧ F2 = (va_up (va_up (va_up Fn 59 (upd (Fn 59) (cn 58) v0)) 60 (upd (Fn 60) (cn 58) v1)) 61 (upd (Fn 61) (cn 58) v2))) ∨ ((¬ ((0 ≤ v0.toInt ∧ v0.toInt < (cn 57 : Int) ∧ -1 ≤ v1.toInt ∧ v1.toInt < (cn 1 : Int) ∧ 0 ≤ v2.toInt ∧ v2.toInt ≤ (cn 0 : Int) ∧ cn 58 < 60) ∧ (∀ m : Nat, lat (Fn 59) (Fn 61) v0 399 (cn 58) = some m → (Fn 61 m).toInt ≤ v2.toInt))) ∧ r = 0 ∧ c2 = cn ∧ I2 = In ∧ F2 = Fn)) r u.1 u.2.1 u.2.2) (fun (u : (Nat → Nat) × (Nat → Int32) × (Nat → Nat → Int32)) (t : State) => va_P D vwCl (wM cI cB cZ g u.1 u.2.1 u.2.2) t.heap ∧ va_D A (wM cI cB cZ g u.1 u.2.1 u.2.2)) A)) rfl rfl pn_RX12 (Nat.le_of_ble_eq_true rfl) (fun p e s m below meth c A hx hb hml hown S hr hlocks hnm hA hP hK hD hS ls hl => ?_)
  have hl : lv_has ls 5 [(0, .ref (g 100)), (1, .int v0), (2, .int v1), (3, .int v2)] := hl
  have hi_cn : Hid (CB cn) := hI.b
  refine lv_aload_n hx hb (oc_42 0 shX12_moves_0) rfl (lvA0 hl) ?_
  refine lv_iload_n hx hb (oc_27 1 (aq_1 shX12_moves_0)) rfl (lvA1 hl) ?_
  refine vp_callSi (runV_ra (As := [.int v0]) (rest := []) S (q_isDrum l D cI cB cZ g cn In Fn v0 hI) kV_RX12_413 hK hP 0 rfl rfl rfl ⟨Nat.le_of_ble_eq_true rfl, Nat.le_of_ble_eq_true rfl⟩ ⟨Nat.le_of_ble_eq_true rfl, Nat.le_of_ble_eq_true rfl⟩ rfl hl.1 rfl (Nat.le_of_ble_eq_true rfl) (oc_182 2 (aq_2 shX12_moves_0) uw_1_157)) (fun r_1 h_2 => ?_)
  rcases h_2 with ⟨rfl, h_2⟩ | ⟨rfl, h_2⟩
  ·
    have h_2 : 0 ≤ v0.toInt ∧ v0.toInt < ((cn 57) : Int) := h_2
    refine lv_if_eq (tgt := 42) hx hb dX12_moves_5 rfl (fun h => absurd h cq_eq_1_0) (fun _ => ?_)
    refine lv_iload_n hx hb (oc_28 8 (aq_8 shX12_moves_0)) rfl (lvA2 hl) ?_
    refine lv_iconst (v := (-1)) hx hb (oc_2 9 (aq_9 shX12_moves_0)) kic_m1 ?_
    refine lv_icmp_eq (tgt := 21) hx hb (oc_159 10 (aq_10 shX12_moves_0) sgw_0_11) rfl (fun c_3 => ?_) (fun c_3 => ?_)
    ·
      have tc_3 : (v1.toInt : Int) = (-1) := congrArg Int32.toInt c_3
      refine lv_iload_n hx hb dX12_moves_21 rfl (lvA3 hl) ?_
      refine lv_iconst (v := 0) hx hb dX12_moves_22 kic_0 ?_
      refine lv_aload_n hx hb dX12_moves_23 rfl (lvA0 hl) ?_
      refine gM_211 S hK hP (v := .int (nI (cn 0))) rfl dX12_moves_24 ?_
      refine vp_callSi (runS_r (As := [.int v2, .int 0, .int (nI (cn 0))]) (rest := []) S (q_in l D cI cB cZ v2 0 (nI (cn 0)) ) kS_RX12_214 hK hP [] rfl ⟨Nat.le_of_ble_eq_true rfl, Nat.le_of_ble_eq_true rfl⟩ ⟨Nat.le_of_ble_eq_true rfl, Nat.le_of_ble_eq_true rfl⟩ rfl hl.1 rfl (Nat.le_of_ble_eq_true rfl) dX12_moves_27) (fun r_4 h_5 => ?_)
      have : (nI (cn 0)).toInt = (((cn 0) : Nat) : Int) := nI_toInt (by (first | omega | (have zz0 := Hid.u hi_cn; omega)))
      rcases h_5 with ⟨rfl, h_5⟩ | ⟨rfl, h_5⟩
      ·
        have h_5 : 0 ≤ v2.toInt ∧ v2.toInt ≤ (nI (cn 0)).toInt := h_5
        refine lv_if_eq (tgt := 42) hx hb dX12_moves_30 rfl (fun h => absurd h cq_eq_1_0) (fun _ => ?_)
        refine lv_aload_n hx hb dX12_moves_33 rfl (lvA0 hl) ?_
        refine gM_410 S hK hP (v := .int (nI (cn 58))) rfl dX12_moves_34 ?_
        refine lv_bipush (v := 60) hx hb dX12_moves_37 kbc_60 ?_
        have : (nI (cn 58)).toInt = (((cn 58) : Nat) : Int) := nI_toInt (by (first | omega | (have zz0 := Hid.u hi_cn; omega)))
        refine lv_icmp_ne (tgt := 44) hx hb dX12_moves_39 rfl (fun c_6 => ?_) (fun c_6 => ?_)
        ·
          have tc_6 : ((nI (cn 58)).toInt : Int) ≠ 60 := fun q => c_6 (Int32.toInt_inj.mp q)
          refine lv_aload_n hx hb dX12_moves_44 rfl (lvA0 hl) ?_
          refine lv_iload_n hx hb dX12_moves_45 rfl (lvA1 hl) ?_
          refine lv_sipush (v := 399) hx hb dX12_moves_46 (by decide) ?_
          refine vp_callSi (runV_ra (As := [.int v0, .int 399]) (rest := []) S (q_latest9 l D cI cB cZ g cn In Fn v0 399 hI) kV_RX12_416 hK hP 0 rfl rfl rfl ⟨Nat.le_of_ble_eq_true rfl, Nat.le_of_ble_eq_true rfl⟩ ⟨Nat.le_of_ble_eq_true rfl, Nat.le_of_ble_eq_true rfl⟩ rfl hl.1 rfl (Nat.le_of_ble_eq_true rfl) dX12_moves_49) (fun r_7 h_8 => ?_)
          rcases h_8 with ⟨rfl, g8⟩ | ⟨m8, h8, rfl, g8⟩
          ·
            refine lv_istore (lv' := [(4, .int (-1)), (0, .ref (g 100)), (1, .int v0), (2, .int v1), (3, .int v2)]) hx hb dX12_moves_52 hl (ltb rfl) rfl (fun ls hl => ?_)
            refine lv_iload hx hb dX12_moves_54 (lvA0 hl) ?_
            refine lv_iconst (v := (-1)) hx hb dX12_moves_56 kic_m1 ?_
            refine lv_icmp_eq (tgt := 73) hx hb dX12_moves_57 rfl (fun _ => ?_) (fun h => absurd h cq_eq_m1_m1)
            refine lv_aload_n hx hb dX12_moves_73 rfl (lvA1 hl) ?_
            refine gM_129 S hK hP (v := .ref (g 59)) rfl dX12_moves_74 ?_
            refine lv_aload_n hx hb dX12_moves_77 rfl (lvA1 hl) ?_
            refine gM_410 S hK hP (v := .int (nI (cn 58))) rfl dX12_moves_78 ?_
            refine lv_iload_n hx hb dX12_moves_81 rfl (lvA2 hl) ?_
            have kb_1 : (cn 58) < 60 := by (first | omega | (have zz0 := Hid.u hi_cn; omega))
            refine stM_59 hx hb hK hP hD hS (Fn2 := (va_up Fn 59 (upd (Fn 59) (cn 58) v0))) (vp_in_nI kb_1 (ltb rfl)) (nI_clamp (Nat.lt_trans kb_1 (ltb rfl))) rfl dX12_moves_82 (fun H locs hP hD hS => ?_)
            refine lv_aload_n hx hb dX12_moves_83 rfl (lvA1 hl) ?_
            refine gM_132 S hK hP (v := .ref (g 60)) rfl dX12_moves_84 ?_
            refine lv_aload_n hx hb dX12_moves_87 rfl (lvA1 hl) ?_
            refine gM_410 S hK hP (v := .int (nI (cn 58))) rfl dX12_moves_88 ?_
            refine lv_iload_n hx hb dX12_moves_91 rfl (lvA3 hl) ?_
            refine stM_60 hx hb hK hP hD hS (Fn2 := (va_up (va_up Fn 59 (upd (Fn 59) (cn 58) v0)) 60 (upd (Fn 60) (cn 58) v1))) (vp_in_nI kb_1 (ltb rfl)) (nI_clamp (Nat.lt_trans kb_1 (ltb rfl))) rfl dX12_moves_92 (fun H locs hP hD hS => ?_)
            refine lv_aload_n hx hb dX12_moves_93 rfl (lvA1 hl) ?_
            refine gM_135 S hK hP (v := .ref (g 61)) rfl dX12_moves_94 ?_
            refine lv_aload_n hx hb dX12_moves_97 rfl (lvA1 hl) ?_
            refine gM_410 S hK hP (v := .int (nI (cn 58))) rfl dX12_moves_98 ?_
            refine lv_iload_n hx hb dX12_moves_101 rfl (lvA4 hl) ?_
            refine stM_61 hx hb hK hP hD hS (Fn2 := (va_up (va_up (va_up Fn 59 (upd (Fn 59) (cn 58) v0)) 60 (upd (Fn 60) (cn 58) v1)) 61 (upd (Fn 61) (cn 58) v2))) (vp_in_nI kb_1 (ltb rfl)) (nI_clamp (Nat.lt_trans kb_1 (ltb rfl))) rfl dX12_moves_102 (fun H locs hP hD hS => ?_)
            refine lv_aload_n hx hb dX12_moves_103 rfl (lvA1 hl) ?_
            refine lv_aload_n hx hb dX12_moves_104 rfl (lvA1 hl) ?_
            refine gM_410 S hK hP (v := .int (nI (cn 58))) rfl dX12_moves_105 ?_
            refine lv_iconst (v := 1) hx hb dX12_moves_108 kic_1 ?_
            refine lv_iadd hx hb dX12_moves_109 ?_
            refine lv_topi (fun y_9 ey_9 => ?_)
            obtain rfl : y_9 = (nI ((cn 58) + 1)) := ey_9.trans (nI_add (cn 58) 1)
            refine pM_410 S hK hP hD hS (a := ((cn 58) + 1)) (cn2 := (va_up cn 58 ((cn 58) + 1))) rfl rfl dX12_moves_110 (fun H locs hP hD hS => ?_)
            refine lv_iconst (v := 1) hx hb dX12_moves_113 kic_1 ?_
            exact W.zret (v := 1) hx hb hr rfl (fun t ht hW => ⟨⟨1, ((va_up cn 58 ((cn 58) + 1)), In, (va_up (va_up (va_up Fn 59 (upd (Fn 59) (cn 58) v0)) 60 (upd (Fn 60) (cn 58) v1)) 61 (upd (Fn 61) (cn 58) v2))), rfl, (Or.inl ⟨⟨by (first | omega | (have zz0 := Hid.u hi_cn; omega)), fun m9 hm9 => by exact absurd (hm9.symm.trans g8) (fun q9 => by cases q9)⟩, rfl, rfl, rfl, rfl⟩), by rw [ht]; exact hP, hD⟩, hS.F ht⟩) hS.2.2 dX12_moves_114
          ·
            have t8 : (nI m8).toInt = (m8 : Int) := nI_toInt (by (first | omega | (have zz0 := Hid.u hi_cn; omega)))
            refine lv_istore (lv' := [(4, .int (nI m8)), (0, .ref (g 100)), (1, .int v0), (2, .int v1), (3, .int v2)]) hx hb dX12_moves_52 hl (ltb rfl) rfl (fun ls hl => ?_)
            refine lv_iload hx hb dX12_moves_54 (lvA0 hl) ?_
            refine lv_iconst (v := (-1)) hx hb dX12_moves_56 kic_m1 ?_
            refine lv_icmp_eq (tgt := 73) hx hb dX12_moves_57 rfl (fun c_10 => False.elim (by have tc_10 : ((nI m8).toInt : Int) = (-1) := congrArg Int32.toInt c_10; (first | omega | (have zz0 := Hid.u hi_cn; omega)))) (fun c_10 => ?_)
            have tc_10 : ((nI m8).toInt : Int) ≠ (-1) := fun q => c_10 (Int32.toInt_inj.mp q)
            refine lv_aload_n hx hb dX12_moves_60 rfl (lvA1 hl) ?_
            refine gM_135 S hK hP (v := .ref (g 61)) rfl dX12_moves_61 ?_
            refine lv_iload hx hb dX12_moves_64 (lvA0 hl) ?_
            have kb_2 : m8 < 60 := by (first | omega | (have zz0 := Hid.u hi_cn; omega))
            refine ldM_61 hx hb hK hP (x := ((Fn 61) m8)) (vp_in_nI kb_2 (ltb rfl)) (nI_clamp (Nat.lt_trans kb_2 (ltb rfl))) rfl dX12_moves_66 ?_
            refine lv_iload_n hx hb dX12_moves_67 rfl (lvA4 hl) ?_
            refine lv_icmp_le (tgt := 73) hx hb dX12_moves_68 rfl (fun c_11 => ?_) (fun c_11 => ?_)
            ·
              have tc_11 : (((Fn 61) m8).toInt : Int) ≤ v2.toInt := Int32.le_iff_toInt_le.mp c_11
              refine lv_aload_n hx hb dX12_moves_73 rfl (lvA1 hl) ?_
              refine gM_129 S hK hP (v := .ref (g 59)) rfl dX12_moves_74 ?_
              refine lv_aload_n hx hb dX12_moves_77 rfl (lvA1 hl) ?_
              refine gM_410 S hK hP (v := .int (nI (cn 58))) rfl dX12_moves_78 ?_
              refine lv_iload_n hx hb dX12_moves_81 rfl (lvA2 hl) ?_
              have kb_3 : (cn 58) < 60 := by (first | omega | (have zz0 := Hid.u hi_cn; omega))
              refine stM_59 hx hb hK hP hD hS (Fn2 := (va_up Fn 59 (upd (Fn 59) (cn 58) v0))) (vp_in_nI kb_3 (ltb rfl)) (nI_clamp (Nat.lt_trans kb_3 (ltb rfl))) rfl dX12_moves_82 (fun H locs hP hD hS => ?_)
              refine lv_aload_n hx hb dX12_moves_83 rfl (lvA1 hl) ?_
              refine gM_132 S hK hP (v := .ref (g 60)) rfl dX12_moves_84 ?_
              refine lv_aload_n hx hb dX12_moves_87 rfl (lvA1 hl) ?_
              refine gM_410 S hK hP (v := .int (nI (cn 58))) rfl dX12_moves_88 ?_
              refine lv_iload_n hx hb dX12_moves_91 rfl (lvA3 hl) ?_
              refine stM_60 hx hb hK hP hD hS (Fn2 := (va_up (va_up Fn 59 (upd (Fn 59) (cn 58) v0)) 60 (upd (Fn 60) (cn 58) v1))) (vp_in_nI kb_3 (ltb rfl)) (nI_clamp (Nat.lt_trans kb_3 (ltb rfl))) rfl dX12_moves_92 (fun H locs hP hD hS => ?_)
              refine lv_aload_n hx hb dX12_moves_93 rfl (lvA1 hl) ?_
              refine gM_135 S hK hP (v := .ref (g 61)) rfl dX12_moves_94 ?_
              refine lv_aload_n hx hb dX12_moves_97 rfl (lvA1 hl) ?_
              refine gM_410 S hK hP (v := .int (nI (cn 58))) rfl dX12_moves_98 ?_
              refine lv_iload_n hx hb dX12_moves_101 rfl (lvA4 hl) ?_
              refine stM_61 hx hb hK hP hD hS (Fn2 := (va_up (va_up (va_up Fn 59 (upd (Fn 59) (cn 58) v0)) 60 (upd (Fn 60) (cn 58) v1)) 61 (upd (Fn 61) (cn 58) v2))) (vp_in_nI kb_3 (ltb rfl)) (nI_clamp (Nat.lt_trans kb_3 (ltb rfl))) rfl dX12_moves_102 (fun H locs hP hD hS => ?_)
              refine lv_aload_n hx hb dX12_moves_103 rfl (lvA1 hl) ?_
              refine lv_aload_n hx hb dX12_moves_104 rfl (lvA1 hl) ?_
              refine gM_410 S hK hP (v := .int (nI (cn 58))) rfl dX12_moves_105 ?_
              refine lv_iconst (v := 1) hx hb dX12_moves_108 kic_1 ?_
              refine lv_iadd hx hb dX12_moves_109 ?_
              refine lv_topi (fun y_12 ey_12 => ?_)
              obtain rfl : y_12 = (nI ((cn 58) + 1)) := ey_12.trans (nI_add (cn 58) 1)
              refine pM_410 S hK hP hD hS (a := ((cn 58) + 1)) (cn2 := (va_up cn 58 ((cn 58) + 1))) rfl rfl dX12_moves_110 (fun H locs hP hD hS => ?_)
              refine lv_iconst (v := 1) hx hb dX12_moves_113 kic_1 ?_
              exact W.zret (v := 1) hx hb hr rfl (fun t ht hW => ⟨⟨1, ((va_up cn 58 ((cn 58) + 1)), In, (va_up (va_up (va_up Fn 59 (upd (Fn 59) (cn 58) v0)) 60 (upd (Fn 60) (cn 58) v1)) 61 (upd (Fn 61) (cn 58) v2))), rfl, (Or.inl ⟨⟨by (first | omega | (have zz0 := Hid.u hi_cn; omega)), fun m9 hm9 => by have q9 := Option.some.inj (hm9.symm.trans g8); rw [q9]; (first | omega | (have zz0 := Hid.u hi_cn; omega))⟩, rfl, rfl, rfl, rfl⟩), by rw [ht]; exact hP, hD⟩, hS.F ht⟩) hS.2.2 dX12_moves_114
            ·
              have tc_11 : (v2.toInt : Int) < ((Fn 61) m8).toInt := Int32.lt_iff_toInt_lt.mp (Int32.not_le.mp c_11)
              refine lv_iconst (v := 0) hx hb dX12_moves_71 kic_0 ?_
              exact W.zret (v := 0) hx hb hr rfl (fun t ht hW => ⟨⟨0, (cn, In, Fn), rfl, (Or.inr ⟨(fun w9 => by have w8 := w9.2 _ g8; (first | omega | (have zz0 := Hid.u hi_cn; omega))), rfl, rfl, rfl, rfl⟩), by rw [ht]; exact hP, hD⟩, hS.F ht⟩) hS.2.2 dX12_moves_72
        ·
          have tc_6 : ((nI (cn 58)).toInt : Int) = 60 := congrArg Int32.toInt c_6
          refine lv_iconst (v := 0) hx hb dX12_moves_42 kic_0 ?_
          exact W.zret (v := 0) hx hb hr rfl (fun t ht hW => ⟨⟨0, (cn, In, Fn), rfl, (Or.inr ⟨(fun w9 => by have w8 := w9.1; (first | omega | (have zz0 := Hid.u hi_cn; omega))), rfl, rfl, rfl, rfl⟩), by rw [ht]; exact hP, hD⟩, hS.F ht⟩) hS.2.2 dX12_moves_43
      ·
        have h_5 : ¬ (0 ≤ v2.toInt ∧ v2.toInt ≤ (nI (cn 0)).toInt) := h_5
        refine lv_if_eq (tgt := 42) hx hb dX12_moves_30 rfl (fun _ => ?_) (fun h => absurd h cq_eq_0_0)
        refine lv_iconst (v := 0) hx hb dX12_moves_42 kic_0 ?_
        exact W.zret (v := 0) hx hb hr rfl (fun t ht hW => ⟨⟨0, (cn, In, Fn), rfl, (Or.inr ⟨(fun w9 => by have w8 := w9.1; (first | omega | (have zz0 := Hid.u hi_cn; omega))), rfl, rfl, rfl, rfl⟩), by rw [ht]; exact hP, hD⟩, hS.F ht⟩) hS.2.2 dX12_moves_43
    ·
      have tc_3 : (v1.toInt : Int) ≠ (-1) := fun q => c_3 (Int32.toInt_inj.mp q)
      refine lv_aload_n hx hb (oc_42 13 (aq_13 shX12_moves_0)) rfl (lvA0 hl) ?_
      refine lv_iload_n hx hb (oc_28 14 (aq_14 shX12_moves_0)) rfl (lvA2 hl) ?_
      refine vp_callSi (runV_ra (As := [.int v1]) (rest := []) S (q_isKitchen l D cI cB cZ g cn In Fn v1 hI) kV_RX12_218 hK hP 0 rfl rfl rfl ⟨Nat.le_of_ble_eq_true rfl, Nat.le_of_ble_eq_true rfl⟩ ⟨Nat.le_of_ble_eq_true rfl, Nat.le_of_ble_eq_true rfl⟩ rfl hl.1 rfl (Nat.le_of_ble_eq_true rfl) (oc_182 15 (aq_15 shX12_moves_0) uw_0_218)) (fun r_13 h_14 => ?_)
      rcases h_14 with ⟨rfl, h_14⟩ | ⟨rfl, h_14⟩
      ·
        have h_14 : 0 ≤ v1.toInt ∧ v1.toInt < ((cn 1) : Int) := h_14
        refine lv_if_eq (tgt := 42) hx hb dX12_moves_18 rfl (fun h => absurd h cq_eq_1_0) (fun _ => ?_)
        refine lv_iload_n hx hb dX12_moves_21 rfl (lvA3 hl) ?_
        refine lv_iconst (v := 0) hx hb dX12_moves_22 kic_0 ?_
        refine lv_aload_n hx hb dX12_moves_23 rfl (lvA0 hl) ?_
        refine gM_211 S hK hP (v := .int (nI (cn 0))) rfl dX12_moves_24 ?_
        refine vp_callSi (runS_r (As := [.int v2, .int 0, .int (nI (cn 0))]) (rest := []) S (q_in l D cI cB cZ v2 0 (nI (cn 0)) ) kS_RX12_214 hK hP [] rfl ⟨Nat.le_of_ble_eq_true rfl, Nat.le_of_ble_eq_true rfl⟩ ⟨Nat.le_of_ble_eq_true rfl, Nat.le_of_ble_eq_true rfl⟩ rfl hl.1 rfl (Nat.le_of_ble_eq_true rfl) dX12_moves_27) (fun r_15 h_16 => ?_)
        have : (nI (cn 0)).toInt = (((cn 0) : Nat) : Int) := nI_toInt (by (first | omega | (have zz0 := Hid.u hi_cn; omega)))
        rcases h_16 with ⟨rfl, h_16⟩ | ⟨rfl, h_16⟩
        ·
          have h_16 : 0 ≤ v2.toInt ∧ v2.toInt ≤ (nI (cn 0)).toInt := h_16
          refine lv_if_eq (tgt := 42) hx hb dX12_moves_30 rfl (fun h => absurd h cq_eq_1_0) (fun _ => ?_)
          refine lv_aload_n hx hb dX12_moves_33 rfl (lvA0 hl) ?_
          refine gM_410 S hK hP (v := .int (nI (cn 58))) rfl dX12_moves_34 ?_
          refine lv_bipush (v := 60) hx hb dX12_moves_37 kbc_60 ?_
          have : (nI (cn 58)).toInt = (((cn 58) : Nat) : Int) := nI_toInt (by (first | omega | (have zz0 := Hid.u hi_cn; omega)))
          refine lv_icmp_ne (tgt := 44) hx hb dX12_moves_39 rfl (fun c_17 => ?_) (fun c_17 => ?_)
          ·
            have tc_17 : ((nI (cn 58)).toInt : Int) ≠ 60 := fun q => c_17 (Int32.toInt_inj.mp q)
            refine lv_aload_n hx hb dX12_moves_44 rfl (lvA0 hl) ?_
            refine lv_iload_n hx hb dX12_moves_45 rfl (lvA1 hl) ?_
            refine lv_sipush (v := 399) hx hb dX12_moves_46 (by decide) ?_
            refine vp_callSi (runV_ra (As := [.int v0, .int 399]) (rest := []) S (q_latest9 l D cI cB cZ g cn In Fn v0 399 hI) kV_RX12_416 hK hP 0 rfl rfl rfl ⟨Nat.le_of_ble_eq_true rfl, Nat.le_of_ble_eq_true rfl⟩ ⟨Nat.le_of_ble_eq_true rfl, Nat.le_of_ble_eq_true rfl⟩ rfl hl.1 rfl (Nat.le_of_ble_eq_true rfl) dX12_moves_49) (fun r_18 h_19 => ?_)
            rcases h_19 with ⟨rfl, g8⟩ | ⟨m8, h8, rfl, g8⟩
            ·
              refine lv_istore (lv' := [(4, .int (-1)), (0, .ref (g 100)), (1, .int v0), (2, .int v1), (3, .int v2)]) hx hb dX12_moves_52 hl (ltb rfl) rfl (fun ls hl => ?_)
              refine lv_iload hx hb dX12_moves_54 (lvA0 hl) ?_
              refine lv_iconst (v := (-1)) hx hb dX12_moves_56 kic_m1 ?_
              refine lv_icmp_eq (tgt := 73) hx hb dX12_moves_57 rfl (fun _ => ?_) (fun h => absurd h cq_eq_m1_m1)
              refine lv_aload_n hx hb dX12_moves_73 rfl (lvA1 hl) ?_
              refine gM_129 S hK hP (v := .ref (g 59)) rfl dX12_moves_74 ?_
              refine lv_aload_n hx hb dX12_moves_77 rfl (lvA1 hl) ?_
              refine gM_410 S hK hP (v := .int (nI (cn 58))) rfl dX12_moves_78 ?_
              refine lv_iload_n hx hb dX12_moves_81 rfl (lvA2 hl) ?_
              have kb_4 : (cn 58) < 60 := by (first | omega | (have zz0 := Hid.u hi_cn; omega))
              refine stM_59 hx hb hK hP hD hS (Fn2 := (va_up Fn 59 (upd (Fn 59) (cn 58) v0))) (vp_in_nI kb_4 (ltb rfl)) (nI_clamp (Nat.lt_trans kb_4 (ltb rfl))) rfl dX12_moves_82 (fun H locs hP hD hS => ?_)
              refine lv_aload_n hx hb dX12_moves_83 rfl (lvA1 hl) ?_
              refine gM_132 S hK hP (v := .ref (g 60)) rfl dX12_moves_84 ?_
              refine lv_aload_n hx hb dX12_moves_87 rfl (lvA1 hl) ?_
              refine gM_410 S hK hP (v := .int (nI (cn 58))) rfl dX12_moves_88 ?_
              refine lv_iload_n hx hb dX12_moves_91 rfl (lvA3 hl) ?_
              refine stM_60 hx hb hK hP hD hS (Fn2 := (va_up (va_up Fn 59 (upd (Fn 59) (cn 58) v0)) 60 (upd (Fn 60) (cn 58) v1))) (vp_in_nI kb_4 (ltb rfl)) (nI_clamp (Nat.lt_trans kb_4 (ltb rfl))) rfl dX12_moves_92 (fun H locs hP hD hS => ?_)
              refine lv_aload_n hx hb dX12_moves_93 rfl (lvA1 hl) ?_
              refine gM_135 S hK hP (v := .ref (g 61)) rfl dX12_moves_94 ?_
              refine lv_aload_n hx hb dX12_moves_97 rfl (lvA1 hl) ?_
              refine gM_410 S hK hP (v := .int (nI (cn 58))) rfl dX12_moves_98 ?_
              refine lv_iload_n hx hb dX12_moves_101 rfl (lvA4 hl) ?_
              refine stM_61 hx hb hK hP hD hS (Fn2 := (va_up (va_up (va_up Fn 59 (upd (Fn 59) (cn 58) v0)) 60 (upd (Fn 60) (cn 58) v1)) 61 (upd (Fn 61) (cn 58) v2))) (vp_in_nI kb_4 (ltb rfl)) (nI_clamp (Nat.lt_trans kb_4 (ltb rfl))) rfl dX12_moves_102 (fun H locs hP hD hS => ?_)
              refine lv_aload_n hx hb dX12_moves_103 rfl (lvA1 hl) ?_
              refine lv_aload_n hx hb dX12_moves_104 rfl (lvA1 hl) ?_
              refine gM_410 S hK hP (v := .int (nI (cn 58))) rfl dX12_moves_105 ?_
              refine lv_iconst (v := 1) hx hb dX12_moves_108 kic_1 ?_
              refine lv_iadd hx hb dX12_moves_109 ?_
              refine lv_topi (fun y_20 ey_20 => ?_)
              obtain rfl : y_20 = (nI ((cn 58) + 1)) := ey_20.trans (nI_add (cn 58) 1)
              refine pM_410 S hK hP hD hS (a := ((cn 58) + 1)) (cn2 := (va_up cn 58 ((cn 58) + 1))) rfl rfl dX12_moves_110 (fun H locs hP hD hS => ?_)
              refine lv_iconst (v := 1) hx hb dX12_moves_113 kic_1 ?_
              exact W.zret (v := 1) hx hb hr rfl (fun t ht hW => ⟨⟨1, ((va_up cn 58 ((cn 58) + 1)), In, (va_up (va_up (va_up Fn 59 (upd (Fn 59) (cn 58) v0)) 60 (upd (Fn 60) (cn 58) v1)) 61 (upd (Fn 61) (cn 58) v2))), rfl, (Or.inl ⟨⟨by (first | omega | (have zz0 := Hid.u hi_cn; omega)), fun m9 hm9 => by exact absurd (hm9.symm.trans g8) (fun q9 => by cases q9)⟩, rfl, rfl, rfl, rfl⟩), by rw [ht]; exact hP, hD⟩, hS.F ht⟩) hS.2.2 dX12_moves_114
            ·
              have t8 : (nI m8).toInt = (m8 : Int) := nI_toInt (by (first | omega | (have zz0 := Hid.u hi_cn; omega)))
              refine lv_istore (lv' := [(4, .int (nI m8)), (0, .ref (g 100)), (1, .int v0), (2, .int v1), (3, .int v2)]) hx hb dX12_moves_52 hl (ltb rfl) rfl (fun ls hl => ?_)
              refine lv_iload hx hb dX12_moves_54 (lvA0 hl) ?_
              refine lv_iconst (v := (-1)) hx hb dX12_moves_56 kic_m1 ?_
              refine lv_icmp_eq (tgt := 73) hx hb dX12_moves_57 rfl (fun c_21 => False.elim (by have tc_21 : ((nI m8).toInt : Int) = (-1) := congrArg Int32.toInt c_21; (first | omega | (have zz0 := Hid.u hi_cn; omega)))) (fun c_21 => ?_)
              have tc_21 : ((nI m8).toInt : Int) ≠ (-1) := fun q => c_21 (Int32.toInt_inj.mp q)
              refine lv_aload_n hx hb dX12_moves_60 rfl (lvA1 hl) ?_
              refine gM_135 S hK hP (v := .ref (g 61)) rfl dX12_moves_61 ?_
              refine lv_iload hx hb dX12_moves_64 (lvA0 hl) ?_
              have kb_5 : m8 < 60 := by (first | omega | (have zz0 := Hid.u hi_cn; omega))
              refine ldM_61 hx hb hK hP (x := ((Fn 61) m8)) (vp_in_nI kb_5 (ltb rfl)) (nI_clamp (Nat.lt_trans kb_5 (ltb rfl))) rfl dX12_moves_66 ?_
              refine lv_iload_n hx hb dX12_moves_67 rfl (lvA4 hl) ?_
              refine lv_icmp_le (tgt := 73) hx hb dX12_moves_68 rfl (fun c_22 => ?_) (fun c_22 => ?_)
              ·
                have tc_22 : (((Fn 61) m8).toInt : Int) ≤ v2.toInt := Int32.le_iff_toInt_le.mp c_22
                refine lv_aload_n hx hb dX12_moves_73 rfl (lvA1 hl) ?_
                refine gM_129 S hK hP (v := .ref (g 59)) rfl dX12_moves_74 ?_
                refine lv_aload_n hx hb dX12_moves_77 rfl (lvA1 hl) ?_
                refine gM_410 S hK hP (v := .int (nI (cn 58))) rfl dX12_moves_78 ?_
                refine lv_iload_n hx hb dX12_moves_81 rfl (lvA2 hl) ?_
                have kb_6 : (cn 58) < 60 := by (first | omega | (have zz0 := Hid.u hi_cn; omega))
                refine stM_59 hx hb hK hP hD hS (Fn2 := (va_up Fn 59 (upd (Fn 59) (cn 58) v0))) (vp_in_nI kb_6 (ltb rfl)) (nI_clamp (Nat.lt_trans kb_6 (ltb rfl))) rfl dX12_moves_82 (fun H locs hP hD hS => ?_)
                refine lv_aload_n hx hb dX12_moves_83 rfl (lvA1 hl) ?_
                refine gM_132 S hK hP (v := .ref (g 60)) rfl dX12_moves_84 ?_
                refine lv_aload_n hx hb dX12_moves_87 rfl (lvA1 hl) ?_
                refine gM_410 S hK hP (v := .int (nI (cn 58))) rfl dX12_moves_88 ?_
                refine lv_iload_n hx hb dX12_moves_91 rfl (lvA3 hl) ?_
                refine stM_60 hx hb hK hP hD hS (Fn2 := (va_up (va_up Fn 59 (upd (Fn 59) (cn 58) v0)) 60 (upd (Fn 60) (cn 58) v1))) (vp_in_nI kb_6 (ltb rfl)) (nI_clamp (Nat.lt_trans kb_6 (ltb rfl))) rfl dX12_moves_92 (fun H locs hP hD hS => ?_)
                refine lv_aload_n hx hb dX12_moves_93 rfl (lvA1 hl) ?_
                refine gM_135 S hK hP (v := .ref (g 61)) rfl dX12_moves_94 ?_
                refine lv_aload_n hx hb dX12_moves_97 rfl (lvA1 hl) ?_
                refine gM_410 S hK hP (v := .int (nI (cn 58))) rfl dX12_moves_98 ?_
                refine lv_iload_n hx hb dX12_moves_101 rfl (lvA4 hl) ?_
                refine stM_61 hx hb hK hP hD hS (Fn2 := (va_up (va_up (va_up Fn 59 (upd (Fn 59) (cn 58) v0)) 60 (upd (Fn 60) (cn 58) v1)) 61 (upd (Fn 61) (cn 58) v2))) (vp_in_nI kb_6 (ltb rfl)) (nI_clamp (Nat.lt_trans kb_6 (ltb rfl))) rfl dX12_moves_102 (fun H locs hP hD hS => ?_)
                refine lv_aload_n hx hb dX12_moves_103 rfl (lvA1 hl) ?_
                refine lv_aload_n hx hb dX12_moves_104 rfl (lvA1 hl) ?_
                refine gM_410 S hK hP (v := .int (nI (cn 58))) rfl dX12_moves_105 ?_
                refine lv_iconst (v := 1) hx hb dX12_moves_108 kic_1 ?_
                refine lv_iadd hx hb dX12_moves_109 ?_
                refine lv_topi (fun y_23 ey_23 => ?_)
                obtain rfl : y_23 = (nI ((cn 58) + 1)) := ey_23.trans (nI_add (cn 58) 1)
                refine pM_410 S hK hP hD hS (a := ((cn 58) + 1)) (cn2 := (va_up cn 58 ((cn 58) + 1))) rfl rfl dX12_moves_110 (fun H locs hP hD hS => ?_)
                refine lv_iconst (v := 1) hx hb dX12_moves_113 kic_1 ?_
                exact W.zret (v := 1) hx hb hr rfl (fun t ht hW => ⟨⟨1, ((va_up cn 58 ((cn 58) + 1)), In, (va_up (va_up (va_up Fn 59 (upd (Fn 59) (cn 58) v0)) 60 (upd (Fn 60) (cn 58) v1)) 61 (upd (Fn 61) (cn 58) v2))), rfl, (Or.inl ⟨⟨by (first | omega | (have zz0 := Hid.u hi_cn; omega)), fun m9 hm9 => by have q9 := Option.some.inj (hm9.symm.trans g8); rw [q9]; (first | omega | (have zz0 := Hid.u hi_cn; omega))⟩, rfl, rfl, rfl, rfl⟩), by rw [ht]; exact hP, hD⟩, hS.F ht⟩) hS.2.2 dX12_moves_114
              ·
                have tc_22 : (v2.toInt : Int) < ((Fn 61) m8).toInt := Int32.lt_iff_toInt_lt.mp (Int32.not_le.mp c_22)
                refine lv_iconst (v := 0) hx hb dX12_moves_71 kic_0 ?_
                exact W.zret (v := 0) hx hb hr rfl (fun t ht hW => ⟨⟨0, (cn, In, Fn), rfl, (Or.inr ⟨(fun w9 => by have w8 := w9.2 _ g8; (first | omega | (have zz0 := Hid.u hi_cn; omega))), rfl, rfl, rfl, rfl⟩), by rw [ht]; exact hP, hD⟩, hS.F ht⟩) hS.2.2 dX12_moves_72
          ·
            have tc_17 : ((nI (cn 58)).toInt : Int) = 60 := congrArg Int32.toInt c_17
            refine lv_iconst (v := 0) hx hb dX12_moves_42 kic_0 ?_
            exact W.zret (v := 0) hx hb hr rfl (fun t ht hW => ⟨⟨0, (cn, In, Fn), rfl, (Or.inr ⟨(fun w9 => by have w8 := w9.1; (first | omega | (have zz0 := Hid.u hi_cn; omega))), rfl, rfl, rfl, rfl⟩), by rw [ht]; exact hP, hD⟩, hS.F ht⟩) hS.2.2 dX12_moves_43
        ·
          have h_16 : ¬ (0 ≤ v2.toInt ∧ v2.toInt ≤ (nI (cn 0)).toInt) := h_16
          refine lv_if_eq (tgt := 42) hx hb dX12_moves_30 rfl (fun _ => ?_) (fun h => absurd h cq_eq_0_0)
          refine lv_iconst (v := 0) hx hb dX12_moves_42 kic_0 ?_
          exact W.zret (v := 0) hx hb hr rfl (fun t ht hW => ⟨⟨0, (cn, In, Fn), rfl, (Or.inr ⟨(fun w9 => by have w8 := w9.1; (first | omega | (have zz0 := Hid.u hi_cn; omega))), rfl, rfl, rfl, rfl⟩), by rw [ht]; exact hP, hD⟩, hS.F ht⟩) hS.2.2 dX12_moves_43
      ·
        have h_14 : ¬ (0 ≤ v1.toInt ∧ v1.toInt < ((cn 1) : Int)) := h_14
        refine lv_if_eq (tgt := 42) hx hb dX12_moves_18 rfl (fun _ => ?_) (fun h => absurd h cq_eq_0_0)
        refine lv_iconst (v := 0) hx hb dX12_moves_42 kic_0 ?_
        exact W.zret (v := 0) hx hb hr rfl (fun t ht hW => ⟨⟨0, (cn, In, Fn), rfl, (Or.inr ⟨(fun w9 => by have w8 := w9.1; (first | omega | (have zz0 := Hid.u hi_cn; omega))), rfl, rfl, rfl, rfl⟩), by rw [ht]; exact hP, hD⟩, hS.F ht⟩) hS.2.2 dX12_moves_43
  ·
    have h_2 : ¬ (0 ≤ v0.toInt ∧ v0.toInt < ((cn 57) : Int)) := h_2
    refine lv_if_eq (tgt := 42) hx hb dX12_moves_5 rfl (fun _ => ?_) (fun h => absurd h cq_eq_0_0)
    refine lv_iconst (v := 0) hx hb dX12_moves_42 kic_0 ?_
    exact W.zret (v := 0) hx hb hr rfl (fun t ht hW => ⟨⟨0, (cn, In, Fn), rfl, (Or.inr ⟨(fun w9 => by have w8 := w9.1; (first | omega | (have zz0 := Hid.u hi_cn; omega))), rfl, rfl, rfl, rfl⟩), by rw [ht]; exact hP, hD⟩, hS.F ht⟩) hS.2.2 dX12_moves_43
