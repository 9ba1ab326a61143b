/-- the sum of p over the first n -/
def sg (p : Nat → Int32) : Nat → Int32
  | 0 => 0
  | n + 1 => sg p n + p n
theorem sg_1 {p : Nat → Int32} {x y : Int32} {n : Nat} (h : x = sg p n) (hp : p n = y) : x + y = sg p (n + 1) := by
  rw [h, ← hp]; rfl
theorem sg_eq {p q : Nat → Int32} : ∀ n : Nat, (∀ i : Nat, i < n → p i = q i) → sg p n = sg q n
  | 0, _ => rfl
  | n + 1, h => by show sg p n + p n = sg q n + q n; rw [sg_eq n (fun i hi => h i (by omega)), h n (by omega)]
/-- 1: f of the i-th is v, and on the day g of it dg is below b -/
def ltx (f g dg : Nat → Int32) (v b : Int32) (i : Nat) : Int32 := if f i = v ∧ (atM dg 400 (g i)).toInt < b.toInt then 1 else 0
section LTX
variable {f g dg : Nat → Int32} {v b : Int32} {i a : Nat}
theorem ltx_1 (h1 : f i = v) (h2 : (atM dg 400 (g i)).toInt < b.toInt) : ltx f g dg v b i = 1 := if_pos ⟨h1, h2⟩
theorem ltx_0 (h : ¬ f i = v) : ltx f g dg v b i = 0 := if_neg (fun q => h q.1)
theorem ltx_00 (h : ¬ (atM dg 400 (g i)).toInt < b.toInt) : ltx f g dg v b i = 0 := if_neg (fun q => h q.2)
theorem ltx_at (hg : g i = nI a) (ha : a < 400) : atM dg 400 (g i) = dg a := by rw [hg, atM_i ha (by decide)]
end LTX



set_option maxRecDepth 100000 in
set_option maxHeartbeats 4000000 in
theorem q_Elate (l : Launch) (D : va_G) (cI cB cZ : ClassId) (zz qq vv : Nat) (bt : Nat → Int32) (g : Nat → Nat) (ad : Nat → Nat → Nat) (cn : Nat → Nat) (In : Nat → Int32) (Fn : Nat → Nat → Int32) (v0 v1 : Int32) (hB : CBX cn) : Met l yX11_late (CWS yX11_late cX11_late 6 (some .int)) (RM 4 0 0) (PBrx [.ref (g 0), .int v0, .int v1] D cI cB cZ zz qq vv bt (wX cI (D.1 99) zz g ad cn In Fn)) (vp_Si (fun r => ((0 ≤ v0.toInt ∧ v0.toInt < (cn 10 : Int) ∧ -40 ≤ v1.toInt ∧ v1.toInt ≤ 41) ∧ r = sg (ltx (Fn 120) (Fn 121) (Fn 22) v0 v1) (cn 11)) ∨ (¬ (0 ≤ v0.toInt ∧ v0.toInt < (cn 10 : Int) ∧ -40 ≤ v1.toInt ∧ v1.toInt ≤ 41) ∧ r = -1))) 0 0 (fun _ => False) := by
  refine en_rx rfl pn_RX11 (Nat.le_of_ble_eq_true rfl) (fun p e s m below meth c hx hb hml hown S hr hlocks hnm hP hK hXS hS ls hl => ?_)
  have hl : lv_has ls 6 [(0, .ref (g 0)), (1, .int v0), (2, .int v1)] := hl
  have hb_cn : Hid (CBX cn) := hB
  replace hB : CBXh cn := hB
  refine lv_aload_n hx hb dX11_late_0 rfl (lvA0 hl) ?_
  refine lv_iload_n hx hb dX11_late_1 rfl (lvA1 hl) ?_
  refine va_csq (runV_rxa (As := [.int v0]) (rest := []) S (q_XkitchenAt l D cI cB cZ zz qq vv bt g ad cn In Fn v0 hB) kV_RX11_114 hK hXS hS hP 0 xo_0 rfl rfl ⟨Nat.le_of_ble_eq_true rfl, Nat.le_of_ble_eq_true rfl⟩ ⟨Nat.le_of_ble_eq_true rfl, Nat.le_of_ble_eq_true rfl⟩ rfl hl.1 rfl (Nat.le_of_ble_eq_true rfl) dX11_late_2) (fun r_1 h_2 => ?_)
  rcases h_2 with ⟨mr_1, er_1, hr_1, rfl⟩ | ⟨hr_1, rfl⟩
  ·
    refine lv_ifnull hx hb dX11_late_5 ?_
    refine lv_iload_n hx hb dX11_late_8 rfl (lvA2 hl) ?_
    refine lv_bipush (v := (-40)) hx hb dX11_late_9 kbc_m40 ?_
    refine lv_bipush (v := 41) hx hb dX11_late_11 kbc_41 ?_
    refine vp_callSi (runS_r (As := [.int v1, .int (-40), .int 41]) (rest := []) S (q_l_within l D cI cB cZ v1 (-40) 41) kS_RX11_80 hK hP [] rfl ⟨Nat.le_of_ble_eq_true rfl, Nat.le_of_ble_eq_true rfl⟩ ⟨Nat.le_of_ble_eq_true rfl, Nat.le_of_ble_eq_true rfl⟩ rfl hl.1 rfl (Nat.le_of_ble_eq_true rfl) dX11_late_13) (fun r_3 h_4 => ?_)
    rcases h_4 with ⟨rfl, h_4⟩ | ⟨rfl, h_4⟩
    ·
      have h_4 : (-40) ≤ v1.toInt ∧ v1.toInt ≤ 41 := h_4
      refine lv_if_ne (tgt := 21) hx hb dX11_late_16 rfl (fun _ => ?_) (fun h => absurd h cq_eq_1_0)
      refine lv_iconst (v := 0) hx hb dX11_late_21 kic_0 ?_
      refine lv_istore_n (lv' := [(3, .int 0), (0, .ref (g 0)), (1, .int v0), (2, .int v1)]) hx hb dX11_late_22 rfl hl (ltb rfl) rfl (fun ls hl => ?_)
      refine lv_iconst (v := 0) hx hb dX11_late_23 kic_0 ?_
      refine lv_istore (lv' := [(4, .int 0), (3, .int 0), (0, .ref (g 0)), (1, .int v0), (2, .int v1)]) hx hb dX11_late_24 hl (ltb rfl) rfl (fun ls hl => ?_)
      have lp_26 : ∀ (n : Nat) (i26 : Nat) (x26_3 : Int32) , cn 11 - i26 < n → (i26 ≤ cn 11 ∧ (x26_3 = sg (ltx (Fn 120) (Fn 121) (Fn 22) v0 v1) i26)) → ∀ ls : Array Slot, lv_has ls 6 [(4, .int (nI i26)), (3, .int x26_3), (0, .ref (g 0)), (1, .int v0), (2, .int v1)] → W p l e (RM 4 0 0) s m ([.ref (g 0), .int v0, .int v1]).toArray below meth c s.heap [] 0 0 (MQ below (vp_Si (fun r => ((0 ≤ v0.toInt ∧ v0.toInt < (cn 10 : Int) ∧ -40 ≤ v1.toInt ∧ v1.toInt ≤ 41) ∧ r = sg (ltx (Fn 120) (Fn 121) (Fn 22) v0 v1) (cn 11)) ∨ (¬ (0 ≤ v0.toInt ∧ v0.toInt < (cn 10 : Int) ∧ -40 ≤ v1.toInt ∧ v1.toInt ≤ 41) ∧ r = -1))) ([.ref (g 0), .int v0, .int v1]).toArray s 0 0 (fun _ => False)) (F0 m 26 ls []) := by
        intro n26
        induction n26 with
        | zero => intros; (first | omega | (have zz0 := Hid.u hb_cn; omega))
        | succ n26 ih26 =>
          intro i26 x26_3 hmu26 hinv26 ls hl
          obtain ⟨hr26, hx26_0⟩ := hinv26
          have ti26 : (nI i26).toInt = (i26 : Int) := nI_toInt (by (first | omega | (have zz0 := Hid.u hb_cn; omega)))
          refine lv_iload hx hb dX11_late_26 (lvA0 hl) ?_
          refine lv_aload_n hx hb dX11_late_28 rfl (lvA2 hl) ?_
          refine gf_RX11_65 S hK hP 0 xo_0 (v := .ref (g 11)) rfl dX11_late_29 ?_
          refine vp_callSi (runV_r (As := []) (rest := [.int (nI i26)]) S (q_l_size l D cI cB cZ (g 11) (if (cn 11) = 0 then zz else ad 2 1) (In 11) (nI (cn 11))) kV_RX11_84 hK hP [25] (one_is xo_25) 25 xo_25 rfl rfl ⟨Nat.le_of_ble_eq_true rfl, Nat.le_of_ble_eq_true rfl⟩ ⟨Nat.le_of_ble_eq_true rfl, Nat.le_of_ble_eq_true rfl⟩ rfl hl.1 rfl (Nat.le_of_ble_eq_true rfl) dX11_late_32) (fun r_5 h_6 => ?_)
          subst h_6
          have : (nI (cn 11)).toInt = (((cn 11) : Nat) : Int) := nI_toInt (by (first | omega | (have zz0 := Hid.u hb_cn; omega)))
          refine lv_icmp_ge (tgt := 88) hx hb dX11_late_35 rfl (fun c_7 => ?_) (fun c_7 => ?_)
          ·
            have tc_7 : ((nI (cn 11)).toInt : Int) ≤ (nI i26).toInt := Int32.le_iff_toInt_le.mp c_7
            refine lv_iload_n hx hb dX11_late_88 rfl (lvA1 hl) ?_
            exact W.iret (v := x26_3) hx hb hr (fun t ht hW => ⟨x26_3, rfl, (Or.inl ⟨by (first | omega | (have zz0 := Hid.u hb_cn; omega)), by have e9 : i26 = cn 11 := (by (first | omega | (have zz0 := Hid.u hb_cn; omega))); rw [← e9]; exact hx26_0⟩), ht⟩) (fun _ h => absurd h List.not_mem_nil) dX11_late_89
          ·
            have tc_7 : ((nI i26).toInt : Int) < (nI (cn 11)).toInt := Int32.lt_iff_toInt_lt.mp (Int32.not_le.mp c_7)
            refine lv_aload_n hx hb dX11_late_38 rfl (lvA2 hl) ?_
            refine gf_RX11_65 S hK hP 0 xo_0 (v := .ref (g 11)) rfl dX11_late_39 ?_
            refine lv_iload hx hb dX11_late_42 (lvA0 hl) ?_
            refine va_csq (runV_rx (As := [.int (nI i26)]) (rest := []) S (q_l_get l D cI cB cZ zz qq vv bt (g 11) (ad 2 1) (cn 21) (cn 11) i26 (ad 11 i26) (In 11) (fun i => if i < (cn 11) then some (ad 11 i) else none) (by (first | omega | (have zz0 := Hid.u hb_cn; omega))) (if_pos (by (first | omega | (have zz0 := Hid.u hb_cn; omega)))) (by (first | omega | (have zz0 := Hid.u hb_cn; omega))) (by (first | omega | (have zz0 := Hid.u hb_cn; omega)))) kV_RX11_87 hK hXS hS hP _ (two_is (xl_1 (by (first | omega | (have zz0 := Hid.u hb_cn; omega)))) (xf_14 (k := 0) (by (first | omega | (have zz0 := Hid.u hb_cn; omega))))) (va_recv hK.1 hP (ci := 0) rfl xo_25) ⟨Nat.le_of_ble_eq_true rfl, Nat.le_of_ble_eq_true rfl⟩ ⟨Nat.le_of_ble_eq_true rfl, Nat.le_of_ble_eq_true rfl⟩ rfl hl.1 rfl (Nat.le_of_ble_eq_true rfl) dX11_late_44) (fun r_8 h_9 => ?_)
            subst h_9
            have kf_1 : i26 < cn 11 := by (first | omega | (have zz0 := Hid.u hb_cn; omega))
            refine va_castS hx hb hown (S.2.2.2.2 _ (wk2_17 0 rfl rfl)) (xclass hK.1 (ci := 3) rfl) (va_recv hK.1 hP (ci := 3) rfl (xf_1 kf_1)) dX11_late_47 ?_
            refine lv_astore (lv' := [(5, .ref (ad 11 i26)), (4, .int (nI i26)), (3, .int x26_3), (0, .ref (g 0)), (1, .int v0), (2, .int v1)]) hx hb dX11_late_50 hl (ltb rfl) rfl (fun ls hl => ?_)
            refine lv_iload_n hx hb dX11_late_52 rfl (lvA2 hl) ?_
            refine lv_aload hx hb dX11_late_53 (lvA0 hl) ?_
            refine gf_RX11_211 S hK hP _ (xf_1 kf_1) (v := .int ((Fn 120) i26)) rfl dX11_late_55 ?_
            refine lv_iload_n hx hb dX11_late_58 rfl (lvA4 hl) ?_
            refine lv_icmp_ne (tgt := 79) hx hb dX11_late_59 rfl (fun c_10 => ?_) (fun c_10 => ?_)
            ·
              have tc_10 : (((Fn 120) i26).toInt : Int) ≠ v0.toInt := fun q => c_10 (Int32.toInt_inj.mp q)
              refine lv_iconst (v := 0) hx hb dX11_late_79 kic_0 ?_
              refine lv_iadd hx hb dX11_late_80 ?_
              refine lv_istore_n (lv' := [(3, .int (x26_3 + 0)), (5, .ref (ad 11 i26)), (4, .int (nI i26)), (0, .ref (g 0)), (1, .int v0), (2, .int v1)]) hx hb dX11_late_81 rfl hl (ltb rfl) rfl (fun ls hl => ?_)
              refine lv_iinc (v := (nI (i26 + 1))) (lv' := [(4, .int (nI (i26 + 1))), (3, .int (x26_3 + 0)), (5, .ref (ad 11 i26)), (0, .ref (g 0)), (1, .int v0), (2, .int v1)]) hx hb dX11_late_82 hl (k := 2) rfl (nI_1 _) (ltb rfl) rfl (fun ls hl => ?_)
              refine lv_goto (tgt := 26) hx hb dX11_late_85 rfl ?_
              exact ih26 (i26 + 1) (x26_3 + 0) (by (first | omega | (have zz0 := Hid.u hb_cn; omega))) ⟨(by (first | omega | (have zz0 := Hid.u hb_cn; omega))), (by refine sg_1 hx26_0 ?_; first | exact ltx_1 (Int32.toInt_inj.mp (by (first | omega | (have zz0 := Hid.u hb_cn; omega)))) (by (first | omega | (have zz0 := Hid.u hb_cn; omega))) | exact ltx_0 (fun q9 => by have := congrArg Int32.toInt q9; (first | omega | (have zz0 := Hid.u hb_cn; omega))) | exact ltx_00 (by (first | omega | (have zz0 := Hid.u hb_cn; omega))))⟩ ls (lv_sub hl [0, 1, 3, 4, 5] rfl)
            ·
              have tc_10 : (((Fn 120) i26).toInt : Int) = v0.toInt := congrArg Int32.toInt c_10
              refine lv_aload_n hx hb dX11_late_62 rfl (lvA3 hl) ?_
              refine lv_aload hx hb dX11_late_63 (lvA0 hl) ?_
              refine gf_RX11_196 S hK hP _ (xf_1 kf_1) (v := .int ((Fn 121) i26)) rfl dX11_late_65 ?_
              refine lv_iload_n hx hb dX11_late_68 rfl (lvA5 hl) ?_
              refine vp_callSi (runV_rxa (As := [.int ((Fn 121) i26), .int v1]) (rest := [.int x26_3]) S (q_Esets l D cI cB cZ zz qq vv bt g ad cn In Fn ((Fn 121) i26) v1 hB) kV_RX11_489 hK hXS hS hP 0 xo_0 rfl rfl ⟨Nat.le_of_ble_eq_true rfl, Nat.le_of_ble_eq_true rfl⟩ ⟨Nat.le_of_ble_eq_true rfl, Nat.le_of_ble_eq_true rfl⟩ rfl hl.1 rfl (Nat.le_of_ble_eq_true rfl) dX11_late_69) (fun r_11 h_12 => ?_)
              rcases h_12 with ⟨rfl, hq9⟩ | ⟨rfl, hq9⟩
              ·
                refine lv_if_eq (tgt := 79) hx hb dX11_late_72 rfl (fun h => absurd h cq_eq_1_0) (fun _ => ?_)
                refine lv_iconst (v := 1) hx hb dX11_late_75 kic_1 ?_
                refine lv_goto (tgt := 80) hx hb dX11_late_76 rfl ?_
                refine lv_iadd hx hb dX11_late_80 ?_
                refine lv_istore_n (lv' := [(3, .int (x26_3 + 1)), (5, .ref (ad 11 i26)), (4, .int (nI i26)), (0, .ref (g 0)), (1, .int v0), (2, .int v1)]) hx hb dX11_late_81 rfl hl (ltb rfl) rfl (fun ls hl => ?_)
                refine lv_iinc (v := (nI (i26 + 1))) (lv' := [(4, .int (nI (i26 + 1))), (3, .int (x26_3 + 1)), (5, .ref (ad 11 i26)), (0, .ref (g 0)), (1, .int v0), (2, .int v1)]) hx hb dX11_late_82 hl (k := 2) rfl (nI_1 _) (ltb rfl) rfl (fun ls hl => ?_)
                refine lv_goto (tgt := 26) hx hb dX11_late_85 rfl ?_
                exact ih26 (i26 + 1) (x26_3 + 1) (by (first | omega | (have zz0 := Hid.u hb_cn; omega))) ⟨(by (first | omega | (have zz0 := Hid.u hb_cn; omega))), (by refine sg_1 hx26_0 ?_; first | exact ltx_1 (Int32.toInt_inj.mp (by (first | omega | (have zz0 := Hid.u hb_cn; omega)))) (by (first | omega | (have zz0 := Hid.u hb_cn; omega))) | exact ltx_0 (fun q9 => by have := congrArg Int32.toInt q9; (first | omega | (have zz0 := Hid.u hb_cn; omega))) | exact ltx_00 (by (first | omega | (have zz0 := Hid.u hb_cn; omega))))⟩ ls (lv_sub hl [0, 1, 3, 4, 5] rfl)
              ·
                refine lv_if_eq (tgt := 79) hx hb dX11_late_72 rfl (fun _ => ?_) (fun h => absurd h cq_eq_0_0)
                refine lv_iconst (v := 0) hx hb dX11_late_79 kic_0 ?_
                refine lv_iadd hx hb dX11_late_80 ?_
                refine lv_istore_n (lv' := [(3, .int (x26_3 + 0)), (5, .ref (ad 11 i26)), (4, .int (nI i26)), (0, .ref (g 0)), (1, .int v0), (2, .int v1)]) hx hb dX11_late_81 rfl hl (ltb rfl) rfl (fun ls hl => ?_)
                refine lv_iinc (v := (nI (i26 + 1))) (lv' := [(4, .int (nI (i26 + 1))), (3, .int (x26_3 + 0)), (5, .ref (ad 11 i26)), (0, .ref (g 0)), (1, .int v0), (2, .int v1)]) hx hb dX11_late_82 hl (k := 2) rfl (nI_1 _) (ltb rfl) rfl (fun ls hl => ?_)
                refine lv_goto (tgt := 26) hx hb dX11_late_85 rfl ?_
                exact ih26 (i26 + 1) (x26_3 + 0) (by (first | omega | (have zz0 := Hid.u hb_cn; omega))) ⟨(by (first | omega | (have zz0 := Hid.u hb_cn; omega))), (by refine sg_1 hx26_0 ?_; first | exact ltx_1 (Int32.toInt_inj.mp (by (first | omega | (have zz0 := Hid.u hb_cn; omega)))) (by (first | omega | (have zz0 := Hid.u hb_cn; omega))) | exact ltx_0 (fun q9 => by have := congrArg Int32.toInt q9; (first | omega | (have zz0 := Hid.u hb_cn; omega))) | exact ltx_00 (by (first | omega | (have zz0 := Hid.u hb_cn; omega))))⟩ ls (lv_sub hl [0, 1, 3, 4, 5] rfl)
      exact lp_26 _ 0 0 (Nat.lt_succ_self _) ⟨(by (first | omega | (have zz0 := Hid.u hb_cn; omega))), rfl⟩ ls (lv_sub hl [0, 1, 2, 3, 4] rfl)
    ·
      have h_4 : ¬ ((-40) ≤ v1.toInt ∧ v1.toInt ≤ 41) := h_4
      refine lv_if_ne (tgt := 21) hx hb dX11_late_16 rfl (fun h => absurd h cq_eq_0_0) (fun _ => ?_)
      refine lv_iconst (v := (-1)) hx hb dX11_late_19 kic_m1 ?_
      exact W.iret (v := (-1)) hx hb hr (fun t ht hW => ⟨(-1), rfl, (Or.inr ⟨by (first | omega | (have zz0 := Hid.u hb_cn; omega)), rfl⟩), ht⟩) (fun _ h => absurd h List.not_mem_nil) dX11_late_20
  ·
    refine lv_ifnullN (tgt := 19) hx hb dX11_late_5 rfl ?_
    refine lv_iconst (v := (-1)) hx hb dX11_late_19 kic_m1 ?_
    exact W.iret (v := (-1)) hx hb hr (fun t ht hW => ⟨(-1), rfl, (Or.inr ⟨by (first | omega | (have zz0 := Hid.u hb_cn; omega)), rfl⟩), ht⟩) (fun _ h => absurd h List.not_mem_nil) dX11_late_20
set_option maxRecDepth 100000 in
set_option maxHeartbeats 4000000 in
theorem q_late9 (l : Launch) (D : va_G) (cI cB cZ : ClassId) (g : Nat → Nat) (cn : Nat → Nat) (In : Nat → Int32) (Fn : Nat → Nat → Int32) (v0 v1 : Int32) (hI : IM cn Fn) : Met l yX12_late (CWS yX12_late cX12_late 5 (some .int)) (RM 1 0 0) (PBr [.ref (g 100), .int v0, .int v1] D cI cB cZ (wM cI cB cZ g cn In Fn)) (vp_Si (fun r => ((0 ≤ v0.toInt ∧ v0.toInt < (cn 1 : Int) ∧ -40 ≤ v1.toInt ∧ v1.toInt ≤ 41) ∧ r = sg (ltx (Fn 8) (Fn 9) (Fn 90) v0 v1) (cn 2)) ∨ (¬ (0 ≤ v0.toInt ∧ v0.toInt < (cn 1 : Int) ∧ -40 ≤ v1.toInt ∧ v1.toInt ≤ 41) ∧ r = -1))) 0 0 (fun _ => False) := by
  refine en_r rfl pn_RX12 (Nat.le_of_ble_eq_true rfl) (fun p e s m below meth c hx hb hml hown S hr hlocks hnm hP hK hS ls hl => ?_)
  have hl : lv_has ls 5 [(0, .ref (g 100)), (1, .int v0), (2, .int v1)] := hl
  have hi_cn : Hid (CB cn) := hI.b
  refine lv_aload_n hx hb dX12_late_0 rfl (lvA0 hl) ?_
  refine lv_iload_n hx hb dX12_late_1 rfl (lvA1 hl) ?_
  refine vp_callSi (runV_ra (As := [.int v0]) (rest := []) S (q_isKitchen l D cI cB cZ g cn In Fn v0 hI) kV_RX12_218 hK hP 0 rfl rfl rfl ⟨Nat.le_of_ble_eq_true rfl, Nat.le_of_ble_eq_true rfl⟩ ⟨Nat.le_of_ble_eq_true rfl, Nat.le_of_ble_eq_true rfl⟩ rfl hl.1 rfl (Nat.le_of_ble_eq_true rfl) dX12_late_2) (fun r_1 h_2 => ?_)
  rcases h_2 with ⟨rfl, h_2⟩ | ⟨rfl, h_2⟩
  ·
    have h_2 : 0 ≤ v0.toInt ∧ v0.toInt < ((cn 1) : Int) := h_2
    refine lv_if_eq (tgt := 19) hx hb dX12_late_5 rfl (fun h => absurd h cq_eq_1_0) (fun _ => ?_)
    refine lv_iload_n hx hb dX12_late_8 rfl (lvA2 hl) ?_
    refine lv_bipush (v := (-40)) hx hb dX12_late_9 kbc_m40 ?_
    refine lv_bipush (v := 41) hx hb dX12_late_11 kbc_41 ?_
    refine vp_callSi (runS_r (As := [.int v1, .int (-40), .int 41]) (rest := []) S (q_in l D cI cB cZ v1 (-40) 41 ) kS_RX12_214 hK hP [] rfl ⟨Nat.le_of_ble_eq_true rfl, Nat.le_of_ble_eq_true rfl⟩ ⟨Nat.le_of_ble_eq_true rfl, Nat.le_of_ble_eq_true rfl⟩ rfl hl.1 rfl (Nat.le_of_ble_eq_true rfl) dX12_late_13) (fun r_3 h_4 => ?_)
    rcases h_4 with ⟨rfl, h_4⟩ | ⟨rfl, h_4⟩
    ·
      have h_4 : (-40) ≤ v1.toInt ∧ v1.toInt ≤ 41 := h_4
      refine lv_if_ne (tgt := 21) hx hb dX12_late_16 rfl (fun _ => ?_) (fun h => absurd h cq_eq_1_0)
      refine lv_iconst (v := 0) hx hb dX12_late_21 kic_0 ?_
      refine lv_istore_n (lv' := [(3, .int 0), (0, .ref (g 100)), (1, .int v0), (2, .int v1)]) hx hb dX12_late_22 rfl hl (ltb rfl) rfl (fun ls hl => ?_)
      refine lv_iconst (v := 0) hx hb dX12_late_23 kic_0 ?_
      refine lv_istore (lv' := [(4, .int 0), (3, .int 0), (0, .ref (g 100)), (1, .int v0), (2, .int v1)]) hx hb dX12_late_24 hl (ltb rfl) rfl (fun ls hl => ?_)
      have lp_26 : ∀ (n : Nat) (i26 : Nat) (x26_3 : Int32) , cn 2 - i26 < n → (i26 ≤ cn 2 ∧ (x26_3 = sg (ltx (Fn 8) (Fn 9) (Fn 90) v0 v1) i26)) → ∀ ls : Array Slot, lv_has ls 5 [(4, .int (nI i26)), (3, .int x26_3), (0, .ref (g 100)), (1, .int v0), (2, .int v1)] → W p l e (RM 1 0 0) s m ([.ref (g 100), .int v0, .int v1]).toArray below meth c s.heap [] 0 0 (MQ below (vp_Si (fun r => ((0 ≤ v0.toInt ∧ v0.toInt < (cn 1 : Int) ∧ -40 ≤ v1.toInt ∧ v1.toInt ≤ 41) ∧ r = sg (ltx (Fn 8) (Fn 9) (Fn 90) v0 v1) (cn 2)) ∨ (¬ (0 ≤ v0.toInt ∧ v0.toInt < (cn 1 : Int) ∧ -40 ≤ v1.toInt ∧ v1.toInt ≤ 41) ∧ r = -1))) ([.ref (g 100), .int v0, .int v1]).toArray s 0 0 (fun _ => False)) (F0 m 26 ls []) := by
        intro n26
        induction n26 with
        | zero => intros; (first | omega | (have zz0 := Hid.u hi_cn; omega))
        | succ n26 ih26 =>
          intro i26 x26_3 hmu26 hinv26 ls hl
          obtain ⟨hr26, hx26_0⟩ := hinv26
          have ti26 : (nI i26).toInt = (i26 : Int) := nI_toInt (by (first | omega | (have zz0 := Hid.u hi_cn; omega)))
          refine lv_iload hx hb dX12_late_26 (lvA0 hl) ?_
          refine lv_aload_n hx hb dX12_late_28 rfl (lvA2 hl) ?_
          refine gM_208 S hK hP (v := .int (nI (cn 2))) rfl dX12_late_29 ?_
          have : (nI (cn 2)).toInt = (((cn 2) : Nat) : Int) := nI_toInt (by (first | omega | (have zz0 := Hid.u hi_cn; omega)))
          refine lv_icmp_ge (tgt := 76) hx hb dX12_late_32 rfl (fun c_5 => ?_) (fun c_5 => ?_)
          ·
            have tc_5 : ((nI (cn 2)).toInt : Int) ≤ (nI i26).toInt := Int32.le_iff_toInt_le.mp c_5
            refine lv_iload_n hx hb dX12_late_76 rfl (lvA1 hl) ?_
            exact W.iret (v := x26_3) hx hb hr (fun t ht hW => ⟨x26_3, rfl, (Or.inl ⟨by (first | omega | (have zz0 := Hid.u hi_cn; omega)), by have e9 : i26 = cn 2 := (by (first | omega | (have zz0 := Hid.u hi_cn; omega))); rw [← e9]; exact hx26_0⟩), ht⟩) (fun _ h => absurd h List.not_mem_nil) dX12_late_77
          ·
            have tc_5 : ((nI i26).toInt : Int) < (nI (cn 2)).toInt := Int32.lt_iff_toInt_lt.mp (Int32.not_le.mp c_5)
            refine lv_iload_n hx hb dX12_late_35 rfl (lvA1 hl) ?_
            refine lv_aload_n hx hb dX12_late_36 rfl (lvA2 hl) ?_
            refine gM_25 S hK hP (v := .ref (g 8)) rfl dX12_late_37 ?_
            refine lv_iload hx hb dX12_late_40 (lvA0 hl) ?_
            have kb_1 : i26 < 60 := by (first | omega | (have zz0 := Hid.u hi_cn; omega))
            obtain ⟨a_6, ha_6, ea_6⟩ := hI.e8 i26 (by (first | omega | (have zz0 := Hid.u hi_cn; omega)))
            refine ldM_8 hx hb hK hP (x := (nI a_6)) (vp_in_nI kb_1 (ltb rfl)) (nI_clamp (Nat.lt_trans kb_1 (ltb rfl))) ea_6 dX12_late_42 ?_
            refine lv_iload_n hx hb dX12_late_43 rfl (lvA3 hl) ?_
            have : (nI a_6).toInt = ((a_6 : Nat) : Int) := nI_toInt (by (first | omega | (have zz0 := Hid.u hi_cn; omega)))
            refine lv_icmp_ne (tgt := 67) hx hb dX12_late_44 rfl (fun c_7 => ?_) (fun c_7 => ?_)
            ·
              have tc_7 : ((nI a_6).toInt : Int) ≠ v0.toInt := fun q => c_7 (Int32.toInt_inj.mp q)
              refine lv_iconst (v := 0) hx hb dX12_late_67 kic_0 ?_
              refine lv_iadd hx hb dX12_late_68 ?_
              refine lv_istore_n (lv' := [(3, .int (x26_3 + 0)), (4, .int (nI i26)), (0, .ref (g 100)), (1, .int v0), (2, .int v1)]) hx hb dX12_late_69 rfl hl (ltb rfl) rfl (fun ls hl => ?_)
              refine lv_iinc (v := (nI (i26 + 1))) (lv' := [(4, .int (nI (i26 + 1))), (3, .int (x26_3 + 0)), (0, .ref (g 100)), (1, .int v0), (2, .int v1)]) hx hb dX12_late_70 hl (k := 1) rfl (nI_1 _) (ltb rfl) rfl (fun ls hl => ?_)
              refine lv_goto (tgt := 26) hx hb dX12_late_73 rfl ?_
              exact ih26 (i26 + 1) (x26_3 + 0) (by (first | omega | (have zz0 := Hid.u hi_cn; omega))) ⟨(by (first | omega | (have zz0 := Hid.u hi_cn; omega))), (by refine sg_1 hx26_0 ?_; first | exact ltx_1 (by rw [ea_6]; exact Int32.toInt_inj.mp (by (first | omega | (have zz0 := Hid.u hi_cn; omega)))) (by rw [ltx_at (by assumption) (by (first | omega | (have zz0 := Hid.u hi_cn; omega)))]; (first | omega | (have zz0 := Hid.u hi_cn; omega))) | exact ltx_0 (fun q9 => by rw [ea_6] at q9; have := congrArg Int32.toInt q9; (first | omega | (have zz0 := Hid.u hi_cn; omega))) | exact ltx_00 (by rw [ltx_at (by assumption) (by (first | omega | (have zz0 := Hid.u hi_cn; omega)))]; (first | omega | (have zz0 := Hid.u hi_cn; omega))))⟩ ls (lv_sub hl [0, 1, 2, 3, 4] rfl)
            ·
              have tc_7 : ((nI a_6).toInt : Int) = v0.toInt := congrArg Int32.toInt c_7
              refine lv_aload_n hx hb dX12_late_47 rfl (lvA2 hl) ?_
              refine gM_201 S hK hP (v := .ref (g 90)) rfl dX12_late_48 ?_
              refine lv_aload_n hx hb dX12_late_51 rfl (lvA2 hl) ?_
              refine gM_28 S hK hP (v := .ref (g 9)) rfl dX12_late_52 ?_
              refine lv_iload hx hb dX12_late_55 (lvA0 hl) ?_
              obtain ⟨a_8, ha_8, ea_8⟩ := hI.e9 i26 (by (first | omega | (have zz0 := Hid.u hi_cn; omega)))
              refine ldM_9 hx hb hK hP (x := (nI a_8)) (vp_in_nI kb_1 (ltb rfl)) (nI_clamp (Nat.lt_trans kb_1 (ltb rfl))) ea_8 dX12_late_57 ?_
              have kb_2 : a_8 < 400 := by (first | omega | (have zz0 := Hid.u hi_cn; omega))
              refine ldM_90 hx hb hK hP (x := ((Fn 90) a_8)) (vp_in_nI kb_2 (ltb rfl)) (nI_clamp (Nat.lt_trans kb_2 (ltb rfl))) rfl dX12_late_58 ?_
              refine lv_iload_n hx hb dX12_late_59 rfl (lvA4 hl) ?_
              refine lv_icmp_ge (tgt := 67) hx hb dX12_late_60 rfl (fun c_9 => ?_) (fun c_9 => ?_)
              ·
                have tc_9 : (v1.toInt : Int) ≤ ((Fn 90) a_8).toInt := Int32.le_iff_toInt_le.mp c_9
                refine lv_iconst (v := 0) hx hb dX12_late_67 kic_0 ?_
                refine lv_iadd hx hb dX12_late_68 ?_
                refine lv_istore_n (lv' := [(3, .int (x26_3 + 0)), (4, .int (nI i26)), (0, .ref (g 100)), (1, .int v0), (2, .int v1)]) hx hb dX12_late_69 rfl hl (ltb rfl) rfl (fun ls hl => ?_)
                refine lv_iinc (v := (nI (i26 + 1))) (lv' := [(4, .int (nI (i26 + 1))), (3, .int (x26_3 + 0)), (0, .ref (g 100)), (1, .int v0), (2, .int v1)]) hx hb dX12_late_70 hl (k := 1) rfl (nI_1 _) (ltb rfl) rfl (fun ls hl => ?_)
                refine lv_goto (tgt := 26) hx hb dX12_late_73 rfl ?_
                exact ih26 (i26 + 1) (x26_3 + 0) (by (first | omega | (have zz0 := Hid.u hi_cn; omega))) ⟨(by (first | omega | (have zz0 := Hid.u hi_cn; omega))), (by refine sg_1 hx26_0 ?_; first | exact ltx_1 (by rw [ea_6]; exact Int32.toInt_inj.mp (by (first | omega | (have zz0 := Hid.u hi_cn; omega)))) (by rw [ltx_at (by assumption) (by (first | omega | (have zz0 := Hid.u hi_cn; omega)))]; (first | omega | (have zz0 := Hid.u hi_cn; omega))) | exact ltx_0 (fun q9 => by rw [ea_6] at q9; have := congrArg Int32.toInt q9; (first | omega | (have zz0 := Hid.u hi_cn; omega))) | exact ltx_00 (by rw [ltx_at (by assumption) (by (first | omega | (have zz0 := Hid.u hi_cn; omega)))]; (first | omega | (have zz0 := Hid.u hi_cn; omega))))⟩ ls (lv_sub hl [0, 1, 2, 3, 4] rfl)
              ·
                have tc_9 : (((Fn 90) a_8).toInt : Int) < v1.toInt := Int32.lt_iff_toInt_lt.mp (Int32.not_le.mp c_9)
                refine lv_iconst (v := 1) hx hb dX12_late_63 kic_1 ?_
                refine lv_goto (tgt := 68) hx hb dX12_late_64 rfl ?_
                refine lv_iadd hx hb dX12_late_68 ?_
                refine lv_istore_n (lv' := [(3, .int (x26_3 + 1)), (4, .int (nI i26)), (0, .ref (g 100)), (1, .int v0), (2, .int v1)]) hx hb dX12_late_69 rfl hl (ltb rfl) rfl (fun ls hl => ?_)
                refine lv_iinc (v := (nI (i26 + 1))) (lv' := [(4, .int (nI (i26 + 1))), (3, .int (x26_3 + 1)), (0, .ref (g 100)), (1, .int v0), (2, .int v1)]) hx hb dX12_late_70 hl (k := 1) rfl (nI_1 _) (ltb rfl) rfl (fun ls hl => ?_)
                refine lv_goto (tgt := 26) hx hb dX12_late_73 rfl ?_
                exact ih26 (i26 + 1) (x26_3 + 1) (by (first | omega | (have zz0 := Hid.u hi_cn; omega))) ⟨(by (first | omega | (have zz0 := Hid.u hi_cn; omega))), (by refine sg_1 hx26_0 ?_; first | exact ltx_1 (by rw [ea_6]; exact Int32.toInt_inj.mp (by (first | omega | (have zz0 := Hid.u hi_cn; omega)))) (by rw [ltx_at (by assumption) (by (first | omega | (have zz0 := Hid.u hi_cn; omega)))]; (first | omega | (have zz0 := Hid.u hi_cn; omega))) | exact ltx_0 (fun q9 => by rw [ea_6] at q9; have := congrArg Int32.toInt q9; (first | omega | (have zz0 := Hid.u hi_cn; omega))) | exact ltx_00 (by rw [ltx_at (by assumption) (by (first | omega | (have zz0 := Hid.u hi_cn; omega)))]; (first | omega | (have zz0 := Hid.u hi_cn; omega))))⟩ ls (lv_sub hl [0, 1, 2, 3, 4] rfl)
      exact lp_26 _ 0 0 (Nat.lt_succ_self _) ⟨(by (first | omega | (have zz0 := Hid.u hi_cn; omega))), rfl⟩ ls (lv_sub hl [0, 1, 2, 3, 4] rfl)
    ·
      have h_4 : ¬ ((-40) ≤ v1.toInt ∧ v1.toInt ≤ 41) := h_4
      refine lv_if_ne (tgt := 21) hx hb dX12_late_16 rfl (fun h => absurd h cq_eq_0_0) (fun _ => ?_)
      refine lv_iconst (v := (-1)) hx hb dX12_late_19 kic_m1 ?_
      exact W.iret (v := (-1)) hx hb hr (fun t ht hW => ⟨(-1), rfl, (Or.inr ⟨by (first | omega | (have zz0 := Hid.u hi_cn; omega)), rfl⟩), ht⟩) (fun _ h => absurd h List.not_mem_nil) dX12_late_20
  ·
    have h_2 : ¬ (0 ≤ v0.toInt ∧ v0.toInt < ((cn 1) : Int)) := h_2
    refine lv_if_eq (tgt := 19) hx hb dX12_late_5 rfl (fun _ => ?_) (fun h => absurd h cq_eq_0_0)
    refine lv_iconst (v := (-1)) hx hb dX12_late_19 kic_m1 ?_
    exact W.iret (v := (-1)) hx hb hr (fun t ht hW => ⟨(-1), rfl, (Or.inr ⟨by (first | omega | (have zz0 := Hid.u hi_cn; omega)), rfl⟩), ht⟩) (fun _ h => absurd h List.not_mem_nil) dX12_late_20
