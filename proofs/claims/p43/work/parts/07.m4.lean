theorem lrem_lt {x y : Int64} (h : ¬ y = 0) : (x - x / y * y).toInt.natAbs < y.toInt.natAbs := by
  have hy : y.toInt ≠ 0 := fun q => h (Int64.toInt_inj.mp q)
  have e : (x - x / y * y).toInt = (x.toInt.tmod y.toInt).bmod (2 ^ 64) := by
    rw [Int64.toInt_sub, Int64.toInt_mul, Int64.toInt_div]
    simp only [Int.bmod_mul_bmod, Int.sub_bmod_bmod]
    rw [Int.tmod_def, Int.mul_comm]
  have t : (x.toInt.tmod y.toInt).natAbs < y.toInt.natAbs := by
    rw [Int.natAbs_tmod]
    exact Nat.mod_lt _ (by omega)
  have b := Int64.toInt_lt y
  have b2 := Int64.le_toInt y
  rw [e, Int.bmod_eq_of_le (by omega) (by omega)]
  exact t
/-- the ways to choose, step by step -/
def chD (d : Nat) : Nat → Nat
  | 0 => 1
  | q + 1 => chD d q * (d + (q + 1)) / (q + 1)
theorem chD_ok {d q : Nat} (h : d + q ≤ 60) : 1 ≤ chD d q ∧ chD d q * (d + (q + 1)) < 2 ^ 63 := by
  have : ∀ d : Fin 61, ∀ q : Fin 61, d.val + q.val ≤ 60 → 1 ≤ chD d.val q.val ∧ chD d.val q.val * (d.val + (q.val + 1)) < 2 ^ 63 := by decide +kernel
  exact this ⟨d, by omega⟩ ⟨q, by omega⟩ h
theorem lN_big {n : Nat} (h : n < 2 ^ 63) : (lN n).toInt = (n : Int) := lg_ofNat_toInt (by omega)
theorem lN_div {a b : Nat} (ha : a < 2 ^ 63) (hb : b < 2 ^ 63) : lN a / lN b = lN (a / b) := by
  have h : a / b < 2 ^ 63 := Nat.lt_of_le_of_lt (Nat.div_le_self a b) ha
  apply Int64.toInt_inj.mp
  rw [Int64.toInt_div, lN_big ha, lN_big hb, lN_big h]
  rw [Int.tdiv_eq_ediv_of_nonneg (by omega)]
  have : ((a : Int) / (b : Int)) = ((a / b : Nat) : Int) := rfl
  rw [this]
  generalize a / b = z at h ⊢
  exact (Int.bmod_eq_of_le (by omega) (by omega))
theorem lN_ne {n : Nat} (h0 : 0 < n) (h : n < 2 ^ 63) : ¬ lN n = 0 := fun q => by
  have e := congrArg Int64.toInt q
  rw [lN_big h] at e
  have z : (0 : Int64).toInt = 0 := rfl
  omega



set_option maxRecDepth 100000 in
set_option maxHeartbeats 4000000 in
theorem q_choose (l : Launch) (D : va_G) (cI cB cZ : ClassId) (n0 : Nat) (v1 : Int32) (hn : n0 ≤ 60) : Met l yX12_choose (CWS yX12_choose cX12_choose 5 (some .long)) (RM 0 0 0) (PBr [.int (nI n0), .int v1] D cI cB cZ []) (vp_Sl (fun r => ∀ b : Nat, v1 = nI b → b ≤ n0 → r = lN (chD (n0 - b) b))) 0 0 (fun _ => False) := by
  refine en_r rfl pn_RX12 (Nat.le_of_ble_eq_true rfl) (fun p e s m below meth c hx hb hml hown S hr hlocks hnm hP hK hS ls hl => ?_)
  have hl : lv_has ls 5 [(0, .int (nI n0)), (1, .int v1)] := hl
  refine lv_iload_n hx hb (oc_27 0 shX12_choose_0) rfl (lvA1 hl) ?_
  refine lv_if_lt (tgt := 9) hx hb (oc_155 1 (aq_1 shX12_choose_0) sgw_0_8) rfl (fun c_1 => ?_) (fun c_1 => ?_)
  ·
    have tc_1 : (v1.toInt : Int) < 0 := Int32.lt_iff_toInt_lt.mp c_1
    refine lv_lconst (v := 0) hx hb (oc_9 9 (aq_9 shX12_choose_0)) (by decide) ?_
    exact W.lret (v := 0) hx hb hr (fun t ht hW => ⟨0, rfl, (fun b hb1 hb2 => by exfalso; have e1 := congrArg Int32.toInt hb1; rw [nI_toInt (n := b) (by omega)] at e1; omega), ht⟩) (fun _ h => absurd h List.not_mem_nil) (oc_173 10 (aq_10 shX12_choose_0))
  ·
    have tc_1 : (0 : Int) ≤ v1.toInt := Int32.le_iff_toInt_le.mp (Int32.not_lt.mp c_1)
    refine lv_iload_n hx hb (oc_27 4 (aq_4 shX12_choose_0)) rfl (lvA1 hl) ?_
    refine lv_iload_n hx hb (oc_26 5 (aq_5 shX12_choose_0)) rfl (lvA0 hl) ?_
    have : (nI n0).toInt = ((n0 : Nat) : Int) := nI_toInt (by omega)
    refine lv_icmp_le (tgt := 11) hx hb (oc_164 6 (aq_6 shX12_choose_0) sgw_0_5) rfl (fun c_2 => ?_) (fun c_2 => ?_)
    ·
      have tc_2 : (v1.toInt : Int) ≤ (nI n0).toInt := Int32.le_iff_toInt_le.mp c_2
      obtain ⟨d0, hd0, rfl⟩ := nI_of (x := v1) (fun q => by have := Int32.lt_iff_toInt_lt.mp q; have e : (0 : Int32).toInt = 0 := rfl; omega)
      have td0 : (nI d0).toInt = (d0 : Int) := nI_toInt hd0
      have zd0 : (nI d0).toInt.toNat = d0 := by omega
      refine lv_lconst (v := 1) hx hb (oc_10 11 (aq_11 shX12_choose_0)) (by decide) ?_
      refine lv_lstore_n (lv' := [(2, .long 1), (0, .int (nI n0)), (1, .int (nI d0))]) hx hb (oc_65 12 (aq_12 shX12_choose_0)) rfl hl (ltb rfl) rfl (fun ls hl => ?_)
      refine lv_iconst (v := 1) hx hb (oc_4 13 (aq_13 shX12_choose_0)) kic_1 ?_
      refine lv_istore (lv' := [(4, .int 1), (2, .long 1), (0, .int (nI n0)), (1, .int (nI d0))]) hx hb (oc_54 14 (aq_14 shX12_choose_0) ub_4) hl (ltb rfl) rfl (fun ls hl => ?_)
      have lp_16 : ∀ (n : Nat) (i16 : Nat) (x16_2 : Int64) , d0 + 1 - i16 < n → ((1 ≤ i16 ∧ i16 ≤ d0 + 1) ∧ (x16_2 = lN (chD (n0 - d0) (i16 - 1)))) → ∀ ls : Array Slot, lv_has ls 5 [(4, .int (nI i16)), (2, .long x16_2), (0, .int (nI n0)), (1, .int (nI d0))] → W p l e (RM 0 0 0) s m ([.int (nI n0), .int (nI d0)]).toArray below meth c s.heap [] 0 0 (MQ below (vp_Sl (fun r => ∀ b : Nat, (nI d0) = nI b → b ≤ n0 → r = lN (chD (n0 - b) b))) ([.int (nI n0), .int (nI d0)]).toArray s 0 0 (fun _ => False)) (F0 m 16 ls []) := by
        intro n16
        induction n16 with
        | zero => intros; omega
        | succ n16 ih16 =>
          intro i16 x16_2 hmu16 hinv16 ls hl
          obtain ⟨hr16, hx16_0⟩ := hinv16
          have ti16 : (nI i16).toInt = (i16 : Int) := nI_toInt (by omega)
          obtain ⟨j0, hj0⟩ : ∃ j0, i16 = j0 + 1 := ⟨i16 - 1, by omega⟩
          rw [show i16 - 1 = j0 by omega] at hx16_0
          subst hx16_0
          refine lv_iload hx hb (oc_21 16 (aq_16 shX12_choose_0) ub_4) (lvA0 hl) ?_
          refine lv_iload_n hx hb (oc_27 18 (aq_18 shX12_choose_0)) rfl (lvA3 hl) ?_
          refine lv_icmp_gt (tgt := 42) hx hb (oc_163 19 (aq_19 shX12_choose_0) sgw_0_23) rfl (fun c_3 => ?_) (fun c_3 => ?_)
          ·
            have tc_3 : ((nI d0).toInt : Int) < (nI i16).toInt := Int32.lt_iff_toInt_lt.mp c_3
            refine lv_lload_n hx hb (oc_32 42 (aq_18 shX12_choose_24)) rfl (lvA1 hl) ?_
            exact W.lret (v := (lN (chD (n0 - d0) j0))) hx hb hr (fun t ht hW => ⟨(lN (chD (n0 - d0) j0)), rfl, (fun b hb1 hb2 => by have e1 := congrArg Int32.toInt hb1; rw [nI_toInt hd0, nI_toInt (n := b) (by omega)] at e1; rw [show b = d0 by omega, show j0 = d0 by omega]), ht⟩) (fun _ h => absurd h List.not_mem_nil) (oc_173 43 (aq_19 shX12_choose_24))
          ·
            have tc_3 : ((nI i16).toInt : Int) ≤ (nI d0).toInt := Int32.le_iff_toInt_le.mp (Int32.not_lt.mp c_3)
            refine lv_lload_n hx hb (oc_32 22 (aq_22 shX12_choose_0)) rfl (lvA1 hl) ?_
            refine lv_iload_n hx hb (oc_26 23 (aq_23 shX12_choose_0)) rfl (lvA2 hl) ?_
            refine lv_iload_n hx hb (oc_27 24 shX12_choose_24) rfl (lvA3 hl) ?_
            refine lv_isub hx hb (oc_100 25 (aq_1 shX12_choose_24)) ?_
            refine lv_topi (fun y_4 ey_4 => ?_)
            obtain rfl : y_4 = (nI (n0 - d0)) := ey_4.trans (nI_sub (by omega))
            refine lv_iload hx hb (oc_21 26 (aq_2 shX12_choose_24) ub_4) (lvA0 hl) ?_
            refine lv_iadd hx hb (oc_96 28 (aq_4 shX12_choose_24)) ?_
            refine lv_topi (fun y_5 ey_5 => ?_)
            obtain rfl : y_5 = (nI ((n0 - d0) + i16)) := ey_5.trans (nI_add (n0 - d0) i16)
            refine lv_i2l (v := (lN ((n0 - d0) + i16))) hx hb (oc_133 29 (aq_5 shX12_choose_24)) (nI_l (by omega)) ?_
            refine lv_lmul hx hb (oc_105 30 (aq_6 shX12_choose_24)) ?_
            refine lv_topl (fun y_6 ey_6 => ?_)
            obtain rfl : y_6 = (lN ((chD (n0 - d0) j0) * ((n0 - d0) + i16))) := ey_6.trans (lN_mul _ _)
            refine lv_iload hx hb (oc_21 31 (aq_7 shX12_choose_24) ub_4) (lvA0 hl) ?_
            refine lv_i2l (v := (lN i16)) hx hb (oc_133 33 (aq_9 shX12_choose_24)) (nI_l (by omega)) ?_
            refine lv_ldiv hx hb (oc_109 34 (aq_10 shX12_choose_24)) (lN_ne (by omega) (by omega)) ?_
            refine lv_topl (fun y_7 ey_7 => ?_)
            obtain rfl : y_7 = (lN (chD (n0 - d0) (j0 + 1))) := ey_7.trans (by have q := chD_ok (d := n0 - d0) (q := j0) (by omega); rw [hj0]; exact lN_div q.2 (by omega))
            refine lv_lstore_n (lv' := [(2, .long (lN (chD (n0 - d0) (j0 + 1)))), (4, .int (nI i16)), (0, .int (nI n0)), (1, .int (nI d0))]) hx hb (oc_65 35 (aq_11 shX12_choose_24)) rfl hl (ltb rfl) rfl (fun ls hl => ?_)
            refine lv_iinc (v := (nI (i16 + 1))) (lv' := [(4, .int (nI (i16 + 1))), (2, .long (lN (chD (n0 - d0) (j0 + 1)))), (0, .int (nI n0)), (1, .int (nI d0))]) hx hb (oc_132 36 (aq_12 shX12_choose_24) ub_4 sgb_1) hl (k := 1) rfl (nI_1 _) (ltb rfl) rfl (fun ls hl => ?_)
            refine lv_goto (tgt := 16) hx hb (oc_167 39 (aq_15 shX12_choose_24) sgw_255_233) rfl ?_
            exact ih16 (i16 + 1) (lN (chD (n0 - d0) (j0 + 1))) (by omega) ⟨(by omega), (by rw [hj0]; rfl)⟩ ls (lv_sub hl [0, 1, 2, 3] rfl)
      exact lp_16 _ 1 1 (Nat.lt_succ_self _) ⟨(by omega), (show (1 : Int64) = lN (chD (n0 - d0) 0) from rfl)⟩ ls (lv_sub hl [0, 1, 2, 3] rfl)
    ·
      have tc_2 : ((nI n0).toInt : Int) < v1.toInt := Int32.lt_iff_toInt_lt.mp (Int32.not_le.mp c_2)
      refine lv_lconst (v := 0) hx hb (oc_9 9 (aq_9 shX12_choose_0)) (by decide) ?_
      exact W.lret (v := 0) hx hb hr (fun t ht hW => ⟨0, rfl, (fun b hb1 hb2 => by exfalso; have e1 := congrArg Int32.toInt hb1; rw [nI_toInt (n := b) (by omega)] at e1; omega), ht⟩) (fun _ h => absurd h List.not_mem_nil) (oc_173 10 (aq_10 shX12_choose_0))
set_option maxRecDepth 100000 in
set_option maxHeartbeats 4000000 in
theorem q_lacking (l : Launch) (D : va_G) (cI cB cZ : ClassId) (g : Nat → Nat) (cn : Nat → Nat) (In : Nat → Int32) (Fn : Nat → Nat → Int32)  (hI : IM cn Fn) : Met l yX12_lacking (CWS yX12_lacking cX12_lacking 3 (some .int)) (RM 0 0 0) (PBr [.ref (g 100)] D cI cB cZ (wM cI cB cZ g cn In Fn)) (vp_Si (fun r => ∃ n : Nat, n ≤ cn 2 ∧ r = nI n)) 0 0 (fun _ => False) := by
  refine en_r rfl pn_RX12 (Nat.le_of_ble_eq_true rfl) (fun p e s m below meth c hx hb hml hown S hr hlocks hnm hP hK hS ls hl => ?_)
  have hl : lv_has ls 3 [(0, .ref (g 100))] := hl
  have hi_cn : Hid (CB cn) := hI.b
  refine lv_iconst (v := 0) hx hb (oc_3 0 shX12_lacking_0) kic_0 ?_
  refine lv_istore_n (lv' := [(1, .int 0), (0, .ref (g 100))]) hx hb (oc_60 1 (aq_1 shX12_lacking_0)) rfl hl (ltb rfl) rfl (fun ls hl => ?_)
  refine lv_iconst (v := 0) hx hb (oc_3 2 (aq_2 shX12_lacking_0)) kic_0 ?_
  refine lv_istore_n (lv' := [(2, .int 0), (1, .int 0), (0, .ref (g 100))]) hx hb (oc_61 3 (aq_3 shX12_lacking_0)) rfl hl (ltb rfl) rfl (fun ls hl => ?_)
  have lp_4 : ∀ (n : Nat) (i4 : Nat) (n1 : Nat) , cn 2 - i4 < n → (i4 ≤ cn 2 ∧ (n1 ≤ i4)) → ∀ ls : Array Slot, lv_has ls 3 [(2, .int (nI i4)), (1, .int (nI n1)), (0, .ref (g 100))] → W p l e (RM 0 0 0) s m ([.ref (g 100)]).toArray below meth c s.heap [] 0 0 (MQ below (vp_Si (fun r => ∃ n : Nat, n ≤ cn 2 ∧ r = nI n)) ([.ref (g 100)]).toArray s 0 0 (fun _ => False)) (F0 m 4 ls []) := by
    intro n4
    induction n4 with
    | zero => intros; (first | omega | (have zz0 := Hid.u hi_cn; omega))
    | succ n4 ih4 =>
      intro i4 n1 hmu4 hinv4 ls hl
      obtain ⟨hr4, hx4_0⟩ := hinv4
      have ti4 : (nI i4).toInt = (i4 : Int) := nI_toInt (by (first | omega | (have zz0 := Hid.u hi_cn; omega)))
      refine lv_iload_n hx hb (oc_28 4 (aq_4 shX12_lacking_0)) rfl (lvA0 hl) ?_
      refine lv_aload_n hx hb (oc_42 5 (aq_5 shX12_lacking_0)) rfl (lvA2 hl) ?_
      refine gM_208 S hK hP (v := .int (nI (cn 2))) rfl (oc_180 6 (aq_6 shX12_lacking_0) uw_0_208) ?_
      have : (nI (cn 2)).toInt = (((cn 2) : Nat) : Int) := nI_toInt (by (first | omega | (have zz0 := Hid.u hi_cn; omega)))
      refine lv_icmp_ge (tgt := 35) hx hb (oc_162 9 (aq_9 shX12_lacking_0) sgw_0_26) rfl (fun c_1 => ?_) (fun c_1 => ?_)
      ·
        have tc_1 : ((nI (cn 2)).toInt : Int) ≤ (nI i4).toInt := Int32.le_iff_toInt_le.mp c_1
        refine lv_iload_n hx hb (oc_27 35 (aq_9 shX12_lacking_26)) rfl (lvA1 hl) ?_
        exact W.iret (v := (nI n1)) hx hb hr (fun t ht hW => ⟨(nI n1), rfl, ⟨n1, by (first | omega | (have zz0 := Hid.u hi_cn; omega)), rfl⟩, ht⟩) (fun _ h => absurd h List.not_mem_nil) (oc_172 36 (aq_10 shX12_lacking_26))
      ·
        have tc_1 : ((nI i4).toInt : Int) < (nI (cn 2)).toInt := Int32.lt_iff_toInt_lt.mp (Int32.not_le.mp c_1)
        refine lv_iload_n hx hb (oc_27 12 (aq_12 shX12_lacking_0)) rfl (lvA1 hl) ?_
        refine lv_aload_n hx hb (oc_42 13 (aq_13 shX12_lacking_0)) rfl (lvA2 hl) ?_
        refine gM_43 S hK hP (v := .ref (g 14)) rfl (oc_180 14 (aq_14 shX12_lacking_0) uw_0_43) ?_
        refine lv_iload_n hx hb (oc_28 17 (aq_17 shX12_lacking_0)) rfl (lvA0 hl) ?_
        have kb_1 : i4 < 60 := by (first | omega | (have zz0 := Hid.u hi_cn; omega))
        refine ldM_14 hx hb hK hP (x := ((Fn 14) i4)) (vp_in_nI kb_1 (ltb rfl)) (nI_clamp (Nat.lt_trans kb_1 (ltb rfl))) rfl (oc_46 18 (aq_18 shX12_lacking_0)) ?_
        refine lv_if_le (tgt := 26) hx hb (oc_158 19 (aq_19 shX12_lacking_0) sgw_0_7) rfl (fun c_2 => ?_) (fun c_2 => ?_)
        ·
          have tc_2 : (((Fn 14) i4).toInt : Int) ≤ 0 := Int32.le_iff_toInt_le.mp c_2
          refine lv_iconst (v := 0) hx hb (oc_3 26 shX12_lacking_26) kic_0 ?_
          refine lv_iadd hx hb (oc_96 27 (aq_1 shX12_lacking_26)) ?_
          refine lv_topi (fun y_3 ey_3 => ?_)
          obtain rfl : y_3 = (nI (n1 + 0)) := ey_3.trans (nI_add n1 0)
          refine lv_istore_n (lv' := [(1, .int (nI (n1 + 0))), (2, .int (nI i4)), (0, .ref (g 100))]) hx hb (oc_60 28 (aq_2 shX12_lacking_26)) rfl hl (ltb rfl) rfl (fun ls hl => ?_)
          refine lv_iinc (v := (nI (i4 + 1))) (lv' := [(2, .int (nI (i4 + 1))), (1, .int (nI (n1 + 0))), (0, .ref (g 100))]) hx hb (oc_132 29 (aq_3 shX12_lacking_26) ub_2 sgb_1) hl (k := 1) rfl (nI_1 _) (ltb rfl) rfl (fun ls hl => ?_)
          refine lv_goto (tgt := 4) hx hb (oc_167 32 (aq_6 shX12_lacking_26) sgw_255_228) rfl ?_
          exact ih4 (i4 + 1) (n1 + 0) (by (first | omega | (have zz0 := Hid.u hi_cn; omega))) ⟨(by (first | omega | (have zz0 := Hid.u hi_cn; omega))), (by (first | omega | (have zz0 := Hid.u hi_cn; omega)))⟩ ls (lv_sub hl [0, 1, 2] rfl)
        ·
          have tc_2 : (0 : Int) < ((Fn 14) i4).toInt := Int32.lt_iff_toInt_lt.mp (Int32.not_le.mp c_2)
          refine lv_iconst (v := 1) hx hb (oc_4 22 (aq_22 shX12_lacking_0)) kic_1 ?_
          refine lv_goto (tgt := 27) hx hb (oc_167 23 (aq_23 shX12_lacking_0) sgw_0_4) rfl ?_
          refine lv_iadd hx hb (oc_96 27 (aq_1 shX12_lacking_26)) ?_
          refine lv_topi (fun y_4 ey_4 => ?_)
          obtain rfl : y_4 = (nI (n1 + 1)) := ey_4.trans (nI_add n1 1)
          refine lv_istore_n (lv' := [(1, .int (nI (n1 + 1))), (2, .int (nI i4)), (0, .ref (g 100))]) hx hb (oc_60 28 (aq_2 shX12_lacking_26)) rfl hl (ltb rfl) rfl (fun ls hl => ?_)
          refine lv_iinc (v := (nI (i4 + 1))) (lv' := [(2, .int (nI (i4 + 1))), (1, .int (nI (n1 + 1))), (0, .ref (g 100))]) hx hb (oc_132 29 (aq_3 shX12_lacking_26) ub_2 sgb_1) hl (k := 1) rfl (nI_1 _) (ltb rfl) rfl (fun ls hl => ?_)
          refine lv_goto (tgt := 4) hx hb (oc_167 32 (aq_6 shX12_lacking_26) sgw_255_228) rfl ?_
          exact ih4 (i4 + 1) (n1 + 1) (by (first | omega | (have zz0 := Hid.u hi_cn; omega))) ⟨(by (first | omega | (have zz0 := Hid.u hi_cn; omega))), (by (first | omega | (have zz0 := Hid.u hi_cn; omega)))⟩ ls (lv_sub hl [0, 1, 2] rfl)
  exact lp_4 _ 0 0 (Nat.lt_succ_self _) ⟨(by (first | omega | (have zz0 := Hid.u hi_cn; omega))), (by (first | omega | (have zz0 := Hid.u hi_cn; omega)))⟩ ls (lv_sub hl [0, 1, 2] rfl)
set_option maxRecDepth 100000 in
set_option maxHeartbeats 4000000 in
theorem q_byLot (l : Launch) (D : va_G) (cI cB cZ : ClassId) (g : Nat → Nat) (cn : Nat → Nat) (In : Nat → Int32) (Fn : Nat → Nat → Int32) (a0 o0 b0 : Nat) (v3 : Int32) (hI : IM cn Fn) (ha : a0 ≤ cn 2) (ho : o0 ≤ cn 2) (hb0 : b0 ≤ o0) : Met l yX12_byLot (CWS yX12_byLot cX12_byLot 15 (some .long)) (RM 1 0 0) (PBr [.ref (g 100), .int (nI a0), .int (nI o0), .int (nI b0), .int v3] D cI cB cZ (wM cI cB cZ g cn In Fn)) (vp_Sl (fun _ => True)) 0 0 (fun _ => False) := by
  refine en_r rfl pn_RX12 (Nat.le_of_ble_eq_true rfl) (fun p e s m below meth c hx hb hml hown S hr hlocks hnm hP hK hS ls hl => ?_)
  have hl : lv_has ls 15 [(0, .ref (g 100)), (1, .int (nI a0)), (2, .int (nI o0)), (3, .int (nI b0)), (4, .int v3)] := hl
  have hi_cn : Hid (CB cn) := hI.b
  refine lv_iload hx hb (oc_21 0 shX12_byLot_0 ub_4) (lvA4 hl) ?_
  refine lv_iconst (v := 2) hx hb (oc_5 2 (aq_2 shX12_byLot_0)) kic_2 ?_
  refine lv_icmp_ne (tgt := 9) hx hb (oc_160 3 (aq_3 shX12_byLot_0) sgw_0_6) rfl (fun c_1 => ?_) (fun c_1 => ?_)
  ·
    have tc_1 : (v3.toInt : Int) ≠ 2 := fun q => c_1 (Int32.toInt_inj.mp q)
    refine lv_lconst (v := 0) hx hb (oc_9 9 (aq_9 shX12_byLot_0)) (by decide) ?_
    refine lv_lstore (lv' := [(5, .long 0), (0, .ref (g 100)), (1, .int (nI a0)), (2, .int (nI o0)), (3, .int (nI b0)), (4, .int v3)]) hx hb (oc_55 10 (aq_10 shX12_byLot_0) ub_5) hl (ltb rfl) rfl (fun ls hl => ?_)
    refine lv_iload_n hx hb (oc_29 12 (aq_12 shX12_byLot_0)) rfl (lvA4 hl) ?_
    refine lv_istore (lv' := [(7, .int (nI b0)), (5, .long 0), (0, .ref (g 100)), (1, .int (nI a0)), (2, .int (nI o0)), (3, .int (nI b0)), (4, .int v3)]) hx hb (oc_54 13 (aq_13 shX12_byLot_0) ub_7) hl (ltb rfl) rfl (fun ls hl => ?_)
    have lp_15 : ∀ (n : Nat) (i15 : Nat) (x15_5 : Int64) , o0 + 1 - i15 < n → (i15 ≤ o0 + 1) → ∀ ls : Array Slot, lv_has ls 15 [(7, .int (nI i15)), (5, .long x15_5), (0, .ref (g 100)), (1, .int (nI a0)), (2, .int (nI o0)), (3, .int (nI b0)), (4, .int v3)] → W p l e (RM 1 0 0) s m ([.ref (g 100), .int (nI a0), .int (nI o0), .int (nI b0), .int v3]).toArray below meth c s.heap [] 0 0 (MQ below (vp_Sl (fun _ => True)) ([.ref (g 100), .int (nI a0), .int (nI o0), .int (nI b0), .int v3]).toArray s 0 0 (fun _ => False)) (F0 m 15 ls []) := by
      intro n15
      induction n15 with
      | zero => intros; (first | omega | (have zz0 := Hid.u hi_cn; omega))
      | succ n15 ih15 =>
        intro i15 x15_5 hmu15 hinv15 ls hl
        have hr15 := hinv15
        have ti15 : (nI i15).toInt = (i15 : Int) := nI_toInt (by (first | omega | (have zz0 := Hid.u hi_cn; omega)))
        refine lv_iload hx hb (oc_21 15 (aq_15 shX12_byLot_0) ub_7) (lvA0 hl) ?_
        refine lv_iload_n hx hb (oc_28 17 (aq_17 shX12_byLot_0)) rfl (lvA4 hl) ?_
        have : (nI o0).toInt = ((o0 : Nat) : Int) := nI_toInt (by (first | omega | (have zz0 := Hid.u hi_cn; omega)))
        refine lv_icmp_gt (tgt := 52) hx hb (oc_163 18 (aq_18 shX12_byLot_0) sgw_0_34) rfl (fun c_2 => ?_) (fun c_2 => ?_)
        ·
          have tc_2 : ((nI o0).toInt : Int) < (nI i15).toInt := Int32.lt_iff_toInt_lt.mp c_2
          refine lv_aload_n hx hb (oc_42 52 (aq_3 shX12_byLot_49)) rfl (lvA2 hl) ?_
          refine gM_208 S hK hP (v := .int (nI (cn 2))) rfl (oc_180 53 (aq_4 shX12_byLot_49) uw_0_208) ?_
          refine lv_iload_n hx hb (oc_27 56 (aq_7 shX12_byLot_49)) rfl (lvA3 hl) ?_
          refine vp_callSl (runS_r (As := [.int (nI (cn 2)), .int (nI a0)]) (rest := []) S (q_choose l D cI cB cZ (cn 2) (nI a0) (by (first | omega | (have zz0 := Hid.u hi_cn; omega)))) kS_RX12_344 hK hP [] rfl ⟨Nat.le_of_ble_eq_true rfl, Nat.le_of_ble_eq_true rfl⟩ ⟨Nat.le_of_ble_eq_true rfl, Nat.le_of_ble_eq_true rfl⟩ rfl hl.1 rfl (Nat.le_of_ble_eq_true rfl) (oc_184 57 (aq_8 shX12_byLot_49) uw_1_88)) (fun r_3 h_4 => ?_)
          have hz : ¬ r_3 = 0 := by rw [h_4 a0 rfl (by (first | omega | (have zz0 := Hid.u hi_cn; omega)))]; exact lN_ne (chD_ok (by (first | omega | (have zz0 := Hid.u hi_cn; omega)))).1 (by have := (chD_ok (d := cn 2 - a0) (q := a0) (by (first | omega | (have zz0 := Hid.u hi_cn; omega)))).2; exact Nat.lt_of_le_of_lt (Nat.le_mul_of_pos_right _ (by (first | omega | (have zz0 := Hid.u hi_cn; omega)))) this)
          refine lv_lstore (lv' := [(7, .long r_3), (5, .long x15_5), (0, .ref (g 100)), (1, .int (nI a0)), (2, .int (nI o0)), (3, .int (nI b0)), (4, .int v3)]) hx hb (oc_55 60 (aq_11 shX12_byLot_49) ub_7) hl (ltb rfl) rfl (fun ls hl => ?_)
          refine lv_lload hx hb (oc_22 62 (aq_13 shX12_byLot_49) ub_5) (lvA1 hl) ?_
          refine lv_lstore (lv' := [(9, .long x15_5), (7, .long r_3), (5, .long x15_5), (0, .ref (g 100)), (1, .int (nI a0)), (2, .int (nI o0)), (3, .int (nI b0)), (4, .int v3)]) hx hb (oc_55 64 (aq_15 shX12_byLot_49) ub_9) hl (ltb rfl) rfl (fun ls hl => ?_)
          refine lv_lload hx hb (oc_22 66 (aq_17 shX12_byLot_49) ub_7) (lvA1 hl) ?_
          refine lv_lstore (lv' := [(11, .long r_3), (9, .long x15_5), (7, .long r_3), (5, .long x15_5), (0, .ref (g 100)), (1, .int (nI a0)), (2, .int (nI o0)), (3, .int (nI b0)), (4, .int v3)]) hx hb (oc_55 68 (aq_19 shX12_byLot_49) ub_11) hl (ltb rfl) rfl (fun ls hl => ?_)
          have lp_70 : ∀ (n : Nat) (x70_9 : Int64) (x70_11 : Int64) , x70_11.toInt.natAbs < n → ((¬ x70_9 = 0 ∨ ¬ x70_11 = 0)) → ∀ ls : Array Slot, lv_has ls 15 [(11, .long x70_11), (9, .long x70_9), (7, .long r_3), (5, .long x15_5), (0, .ref (g 100)), (1, .int (nI a0)), (2, .int (nI o0)), (3, .int (nI b0)), (4, .int v3)] → W p l e (RM 1 0 0) s m ([.ref (g 100), .int (nI a0), .int (nI o0), .int (nI b0), .int v3]).toArray below meth c s.heap [] 0 0 (MQ below (vp_Sl (fun _ => True)) ([.ref (g 100), .int (nI a0), .int (nI o0), .int (nI b0), .int v3]).toArray s 0 0 (fun _ => False)) (F0 m 70 ls []) := by
            intro n70
            induction n70 with
            | zero => intros; (first | omega | (have zz0 := Hid.u hi_cn; omega))
            | succ n70 ih70 =>
              intro x70_9 x70_11 hmu70 hinv70 ls hl
              have hx70_0 := hinv70
              refine lv_lload hx hb (oc_22 70 (aq_21 shX12_byLot_49) ub_11) (lvA0 hl) ?_
              refine lv_lconst (v := 0) hx hb (oc_9 72 (aq_23 shX12_byLot_49)) (by decide) ?_
              refine W.lcmp hx hb (oc_148 73 shX12_byLot_73) ?_
              refine lv_topi (fun y_5 ey_5 => ?_)
              have zy_5 : y_5 = 0 ↔ x70_11 = 0 := lcmp0 ey_5
              refine lv_if_eq (tgt := 95) hx hb (oc_153 74 (aq_1 shX12_byLot_73) sgw_0_21) rfl (fun c_6 => ?_) (fun c_6 => ?_)
              ·
                have tc_6 : (y_5.toInt : Int) = 0 := congrArg Int32.toInt c_6
                have hxx : ¬ x70_9 = 0 := hx70_0.resolve_right (fun q => q (Iff.mp (by assumption) (by assumption)))
                refine lv_iload hx hb (oc_21 95 (aq_22 shX12_byLot_73) ub_4) (lvA8 hl) ?_
                refine lv_if_ne (tgt := 108) hx hb (oc_154 97 shX12_byLot_97 sgw_0_11) rfl (fun c_7 => ?_) (fun c_7 => ?_)
                ·
                  have tc_7 : (v3.toInt : Int) ≠ 0 := fun q => c_7 (Int32.toInt_inj.mp q)
                  refine lv_lload hx hb (oc_22 108 (aq_11 shX12_byLot_97) ub_7) (lvA2 hl) ?_
                  refine lv_lload hx hb (oc_22 110 (aq_13 shX12_byLot_97) ub_9) (lvA1 hl) ?_
                  refine lv_ldiv hx hb (oc_109 112 (aq_15 shX12_byLot_97)) hxx ?_
                  exact W.lret (v := (r_3 / x70_9)) hx hb hr (fun t ht hW => ⟨(r_3 / x70_9), rfl, trivial, ht⟩) (fun _ h => absurd h List.not_mem_nil) (oc_173 113 (aq_16 shX12_byLot_97))
                ·
                  have tc_7 : (v3.toInt : Int) = 0 := congrArg Int32.toInt c_7
                  refine lv_lload hx hb (oc_22 100 (aq_3 shX12_byLot_97) ub_5) (lvA3 hl) ?_
                  refine lv_lload hx hb (oc_22 102 (aq_5 shX12_byLot_97) ub_9) (lvA1 hl) ?_
                  refine lv_ldiv hx hb (oc_109 104 (aq_7 shX12_byLot_97)) hxx ?_
                  refine lv_goto (tgt := 113) hx hb (oc_167 105 (aq_8 shX12_byLot_97) sgw_0_8) rfl ?_
                  exact W.lret (v := (x15_5 / x70_9)) hx hb hr (fun t ht hW => ⟨(x15_5 / x70_9), rfl, trivial, ht⟩) (fun _ h => absurd h List.not_mem_nil) (oc_173 113 (aq_16 shX12_byLot_97))
              ·
                have tc_6 : (y_5.toInt : Int) ≠ 0 := fun q => c_6 (Int32.toInt_inj.mp q)
                refine lv_lload hx hb (oc_22 77 (aq_4 shX12_byLot_73) ub_9) (lvA1 hl) ?_
                refine lv_lload hx hb (oc_22 79 (aq_6 shX12_byLot_73) ub_11) (lvA0 hl) ?_
                refine lv_lrem hx hb (oc_113 81 (aq_8 shX12_byLot_73)) (fun q => absurd (Iff.mpr (by assumption) q) (by assumption)) ?_
                have hlt := lrem_lt (x := x70_9) (y := x70_11) (fun q => absurd (Iff.mpr (by assumption) q) (by assumption))
                refine lv_lstore (lv' := [(13, .long (x70_9 - x70_9 / x70_11 * x70_11)), (11, .long x70_11), (9, .long x70_9), (7, .long r_3), (5, .long x15_5), (0, .ref (g 100)), (1, .int (nI a0)), (2, .int (nI o0)), (3, .int (nI b0)), (4, .int v3)]) hx hb (oc_55 82 (aq_9 shX12_byLot_73) ub_13) hl (ltb rfl) rfl (fun ls hl => ?_)
                refine lv_lload hx hb (oc_22 84 (aq_11 shX12_byLot_73) ub_11) (lvA1 hl) ?_
                refine lv_lstore (lv' := [(9, .long x70_11), (13, .long (x70_9 - x70_9 / x70_11 * x70_11)), (11, .long x70_11), (7, .long r_3), (5, .long x15_5), (0, .ref (g 100)), (1, .int (nI a0)), (2, .int (nI o0)), (3, .int (nI b0)), (4, .int v3)]) hx hb (oc_55 86 (aq_13 shX12_byLot_73) ub_9) hl (ltb rfl) rfl (fun ls hl => ?_)
                refine lv_lload hx hb (oc_22 88 (aq_15 shX12_byLot_73) ub_13) (lvA1 hl) ?_
                refine lv_lstore (lv' := [(11, .long (x70_9 - x70_9 / x70_11 * x70_11)), (9, .long x70_11), (13, .long (x70_9 - x70_9 / x70_11 * x70_11)), (7, .long r_3), (5, .long x15_5), (0, .ref (g 100)), (1, .int (nI a0)), (2, .int (nI o0)), (3, .int (nI b0)), (4, .int v3)]) hx hb (oc_55 90 (aq_17 shX12_byLot_73) ub_11) hl (ltb rfl) rfl (fun ls hl => ?_)
                refine lv_goto (tgt := 70) hx hb (oc_167 92 (aq_19 shX12_byLot_73) sgw_255_234) rfl ?_
                exact ih70 x70_11 (x70_9 - x70_9 / x70_11 * x70_11) (by (first | omega | (have zz0 := Hid.u hi_cn; omega))) (Or.inl (fun q => absurd (Iff.mpr (by assumption) q) (by assumption))) ls (lv_sub hl [0, 1, 3, 4, 5, 6, 7, 8, 9] rfl)
          exact lp_70 _ x15_5 r_3 (Nat.lt_succ_self _) (Or.inr hz) ls (lv_sub hl [0, 1, 2, 3, 4, 5, 6, 7, 8] rfl)
        ·
          have tc_2 : ((nI i15).toInt : Int) ≤ (nI o0).toInt := Int32.le_iff_toInt_le.mp (Int32.not_lt.mp c_2)
          refine lv_lload hx hb (oc_22 21 (aq_21 shX12_byLot_0) ub_5) (lvA1 hl) ?_
          refine lv_iload_n hx hb (oc_28 23 (aq_23 shX12_byLot_0)) rfl (lvA4 hl) ?_
          refine lv_iload hx hb (oc_21 24 shX12_byLot_24 ub_7) (lvA0 hl) ?_
          refine vp_callSl (runS_r (As := [.int (nI o0), .int (nI i15)]) (rest := [.long x15_5]) S (q_choose l D cI cB cZ o0 (nI i15) (by (first | omega | (have zz0 := Hid.u hi_cn; omega)))) kS_RX12_344 hK hP [] rfl ⟨Nat.le_of_ble_eq_true rfl, Nat.le_of_ble_eq_true rfl⟩ ⟨Nat.le_of_ble_eq_true rfl, Nat.le_of_ble_eq_true rfl⟩ rfl hl.1 rfl (Nat.le_of_ble_eq_true rfl) (oc_184 26 (aq_2 shX12_byLot_24) uw_1_88)) (fun r_8 h_9 => ?_)
          refine lv_aload_n hx hb (oc_42 29 (aq_5 shX12_byLot_24)) rfl (lvA2 hl) ?_
          refine gM_208 S hK hP (v := .int (nI (cn 2))) rfl (oc_180 30 (aq_6 shX12_byLot_24) uw_0_208) ?_
          refine lv_iload_n hx hb (oc_28 33 (aq_9 shX12_byLot_24)) rfl (lvA4 hl) ?_
          refine lv_isub hx hb (oc_100 34 (aq_10 shX12_byLot_24)) ?_
          refine lv_topi (fun y_10 ey_10 => ?_)
          obtain rfl : y_10 = (nI (cn 2 - o0)) := ey_10.trans (nI_sub (by (first | omega | (have zz0 := Hid.u hi_cn; omega))))
          refine lv_iload_n hx hb (oc_27 35 (aq_11 shX12_byLot_24)) rfl (lvA3 hl) ?_
          refine lv_iload hx hb (oc_21 36 (aq_12 shX12_byLot_24) ub_7) (lvA0 hl) ?_
          refine lv_isub hx hb (oc_100 38 (aq_14 shX12_byLot_24)) ?_
          refine vp_callSl (runS_r (As := [.int (nI (cn 2 - o0)), .int ((nI a0) - (nI i15))]) (rest := [.long r_8, .long x15_5]) S (q_choose l D cI cB cZ (cn 2 - o0) ((nI a0) - (nI i15)) (by (first | omega | (have zz0 := Hid.u hi_cn; omega)))) kS_RX12_344 hK hP [] rfl ⟨Nat.le_of_ble_eq_true rfl, Nat.le_of_ble_eq_true rfl⟩ ⟨Nat.le_of_ble_eq_true rfl, Nat.le_of_ble_eq_true rfl⟩ rfl hl.1 rfl (Nat.le_of_ble_eq_true rfl) (oc_184 39 (aq_15 shX12_byLot_24) uw_1_88)) (fun r_11 h_12 => ?_)
          refine lv_lmul hx hb (oc_105 42 (aq_18 shX12_byLot_24)) ?_
          refine lv_ladd hx hb (oc_97 43 (aq_19 shX12_byLot_24)) ?_
          refine lv_lstore (lv' := [(5, .long (x15_5 + (r_8 * r_11))), (7, .int (nI i15)), (0, .ref (g 100)), (1, .int (nI a0)), (2, .int (nI o0)), (3, .int (nI b0)), (4, .int v3)]) hx hb (oc_55 44 (aq_20 shX12_byLot_24) ub_5) hl (ltb rfl) rfl (fun ls hl => ?_)
          refine lv_iinc (v := (nI (i15 + 1))) (lv' := [(7, .int (nI (i15 + 1))), (5, .long (x15_5 + (r_8 * r_11))), (0, .ref (g 100)), (1, .int (nI a0)), (2, .int (nI o0)), (3, .int (nI b0)), (4, .int v3)]) hx hb (oc_132 46 (aq_22 shX12_byLot_24) ub_7 sgb_1) hl (k := 1) rfl (nI_1 _) (ltb rfl) rfl (fun ls hl => ?_)
          refine lv_goto (tgt := 15) hx hb (oc_167 49 shX12_byLot_49 sgw_255_222) rfl ?_
          exact ih15 (i15 + 1) (x15_5 + (r_8 * r_11)) (by (first | omega | (have zz0 := Hid.u hi_cn; omega))) (by (first | omega | (have zz0 := Hid.u hi_cn; omega))) ls (lv_sub hl [0, 1, 2, 3, 4, 5, 6] rfl)
    exact lp_15 _ b0 0 (Nat.lt_succ_self _) (by (first | omega | (have zz0 := Hid.u hi_cn; omega))) ls (lv_sub hl [0, 1, 2, 3, 4, 5, 6] rfl)
  ·
    have tc_1 : (v3.toInt : Int) = 2 := congrArg Int32.toInt c_1
    refine lv_iload_n hx hb (oc_29 6 (aq_6 shX12_byLot_0)) rfl (lvA3 hl) ?_
    refine lv_i2l (v := (lN b0)) hx hb (oc_133 7 (aq_7 shX12_byLot_0)) (nI_l (by (first | omega | (have zz0 := Hid.u hi_cn; omega)))) ?_
    exact W.lret (v := (lN b0)) hx hb hr (fun t ht hW => ⟨(lN b0), rfl, trivial, ht⟩) (fun _ h => absurd h List.not_mem_nil) (oc_173 8 (aq_8 shX12_byLot_0))
set_option maxRecDepth 100000 in
set_option maxHeartbeats 4000000 in
theorem q_beyond (l : Launch) (D : va_G) (cI cB cZ : ClassId) (g : Nat → Nat) (cn : Nat → Nat) (In : Nat → Int32) (Fn : Nat → Nat → Int32) (v0 v1 : Int32) (hI : IM cn Fn) : Met l yX12_beyond (CWS yX12_beyond cX12_beyond 6 (some .long)) (RM 2 0 0) (PBr [.ref (g 100), .int v0, .int v1] D cI cB cZ (wM cI cB cZ g cn In Fn)) (vp_Sl (fun _ => True)) 0 0 (fun _ => False) := by
  refine en_r rfl pn_RX12 (Nat.le_of_ble_eq_true rfl) (fun p e s m below meth c hx hb hml hown S hr hlocks hnm hP hK hS ls hl => ?_)
  have hl : lv_has ls 6 [(0, .ref (g 100)), (1, .int v0), (2, .int v1)] := hl
  have hi_cn : Hid (CB cn) := hI.b
  refine lv_iload_n hx hb (oc_27 0 shX12_beyond_0) rfl (lvA1 hl) ?_
  refine lv_iconst (v := 0) hx hb (oc_3 1 (aq_1 shX12_beyond_0)) kic_0 ?_
  refine lv_bipush (v := 6) hx hb (oc_16 2 (aq_2 shX12_beyond_0) sgb_6) kbc_6 ?_
  refine vp_callSi (runS_r (As := [.int v0, .int 0, .int 6]) (rest := []) S (q_in l D cI cB cZ v0 0 6 ) kS_RX12_214 hK hP [] rfl ⟨Nat.le_of_ble_eq_true rfl, Nat.le_of_ble_eq_true rfl⟩ ⟨Nat.le_of_ble_eq_true rfl, Nat.le_of_ble_eq_true rfl⟩ rfl hl.1 rfl (Nat.le_of_ble_eq_true rfl) (oc_184 4 (aq_4 shX12_beyond_0) uw_0_214)) (fun r_1 h_2 => ?_)
  rcases h_2 with ⟨rfl, h_2⟩ | ⟨rfl, h_2⟩
  ·
    have h_2 : 0 ≤ v0.toInt ∧ v0.toInt ≤ 6 := h_2
    refine lv_if_eq (tgt := 19) hx hb (oc_153 7 (aq_7 shX12_beyond_0) sgw_0_12) rfl (fun h => absurd h cq_eq_1_0) (fun _ => ?_)
    refine lv_iload_n hx hb (oc_28 10 (aq_10 shX12_beyond_0)) rfl (lvA2 hl) ?_
    refine lv_iconst (v := 0) hx hb (oc_3 11 (aq_11 shX12_beyond_0)) kic_0 ?_
    refine lv_iconst (v := 2) hx hb (oc_5 12 (aq_12 shX12_beyond_0)) kic_2 ?_
    refine vp_callSi (runS_r (As := [.int v1, .int 0, .int 2]) (rest := []) S (q_in l D cI cB cZ v1 0 2 ) kS_RX12_214 hK hP [] rfl ⟨Nat.le_of_ble_eq_true rfl, Nat.le_of_ble_eq_true rfl⟩ ⟨Nat.le_of_ble_eq_true rfl, Nat.le_of_ble_eq_true rfl⟩ rfl hl.1 rfl (Nat.le_of_ble_eq_true rfl) (oc_184 13 (aq_13 shX12_beyond_0) uw_0_214)) (fun r_3 h_4 => ?_)
    rcases h_4 with ⟨rfl, h_4⟩ | ⟨rfl, h_4⟩
    ·
      have h_4 : 0 ≤ v1.toInt ∧ v1.toInt ≤ 2 := h_4
      refine lv_if_ne (tgt := 23) hx hb (oc_154 16 (aq_16 shX12_beyond_0) sgw_0_7) rfl (fun _ => ?_) (fun h => absurd h cq_eq_1_0)
      refine lv_iconst (v := 0) hx hb (oc_3 23 (aq_23 shX12_beyond_0)) kic_0 ?_
      refine lv_istore_n (lv' := [(3, .int 0), (0, .ref (g 100)), (1, .int v0), (2, .int v1)]) hx hb (oc_62 24 shX12_beyond_24) rfl hl (ltb rfl) rfl (fun ls hl => ?_)
      refine lv_iconst (v := 0) hx hb (oc_3 25 (aq_1 shX12_beyond_24)) kic_0 ?_
      refine lv_istore (lv' := [(4, .int 0), (3, .int 0), (0, .ref (g 100)), (1, .int v0), (2, .int v1)]) hx hb (oc_54 26 (aq_2 shX12_beyond_24) ub_4) hl (ltb rfl) rfl (fun ls hl => ?_)
      refine lv_iconst (v := 0) hx hb (oc_3 28 (aq_4 shX12_beyond_24)) kic_0 ?_
      refine lv_istore (lv' := [(5, .int 0), (4, .int 0), (3, .int 0), (0, .ref (g 100)), (1, .int v0), (2, .int v1)]) hx hb (oc_54 29 (aq_5 shX12_beyond_24) ub_5) hl (ltb rfl) rfl (fun ls hl => ?_)
      have lp_31 : ∀ (n : Nat) (i31 : Nat) (n3 : Nat) (n4 : Nat) , cn 2 - i31 < n → (i31 ≤ cn 2 ∧ (n3 ≤ i31 ∧ n4 ≤ n3)) → ∀ ls : Array Slot, lv_has ls 6 [(5, .int (nI i31)), (4, .int (nI n4)), (3, .int (nI n3)), (0, .ref (g 100)), (1, .int v0), (2, .int v1)] → W p l e (RM 2 0 0) s m ([.ref (g 100), .int v0, .int v1]).toArray below meth c s.heap [] 0 0 (MQ below (vp_Sl (fun _ => True)) ([.ref (g 100), .int v0, .int v1]).toArray s 0 0 (fun _ => False)) (F0 m 31 ls []) := by
        intro n31
        induction n31 with
        | zero => intros; (first | omega | (have zz0 := Hid.u hi_cn; omega))
        | succ n31 ih31 =>
          intro i31 n3 n4 hmu31 hinv31 ls hl
          obtain ⟨hr31, hx31_0⟩ := hinv31
          have ti31 : (nI i31).toInt = (i31 : Int) := nI_toInt (by (first | omega | (have zz0 := Hid.u hi_cn; omega)))
          refine lv_iload hx hb (oc_21 31 (aq_7 shX12_beyond_24) ub_5) (lvA0 hl) ?_
          refine lv_aload_n hx hb (oc_42 33 (aq_9 shX12_beyond_24)) rfl (lvA3 hl) ?_
          refine gM_208 S hK hP (v := .int (nI (cn 2))) rfl (oc_180 34 (aq_10 shX12_beyond_24) uw_0_208) ?_
          have : (nI (cn 2)).toInt = (((cn 2) : Nat) : Int) := nI_toInt (by (first | omega | (have zz0 := Hid.u hi_cn; omega)))
          refine lv_icmp_ge (tgt := 87) hx hb (oc_162 37 (aq_13 shX12_beyond_24) sgw_0_50) rfl (fun c_5 => ?_) (fun c_5 => ?_)
          ·
            have tc_5 : ((nI (cn 2)).toInt : Int) ≤ (nI i31).toInt := Int32.le_iff_toInt_le.mp c_5
            refine lv_aload_n hx hb (oc_42 87 (aq_14 shX12_beyond_73)) rfl (lvA3 hl) ?_
            refine lv_aload_n hx hb (oc_42 88 (aq_15 shX12_beyond_73)) rfl (lvA3 hl) ?_
            refine vp_callSi (runV_ra (As := []) (rest := [.ref (g 100)]) S (q_lacking l D cI cB cZ g cn In Fn  hI) kV_RX12_350 hK hP 0 rfl rfl rfl ⟨Nat.le_of_ble_eq_true rfl, Nat.le_of_ble_eq_true rfl⟩ ⟨Nat.le_of_ble_eq_true rfl, Nat.le_of_ble_eq_true rfl⟩ rfl hl.1 rfl (Nat.le_of_ble_eq_true rfl) (oc_182 89 (aq_16 shX12_beyond_73) uw_1_94)) (fun r_6 h_7 => ?_)
            obtain ⟨mr_6, hr_6, rfl⟩ := h_7
            refine lv_iload_n hx hb (oc_29 92 (aq_19 shX12_beyond_73)) rfl (lvA2 hl) ?_
            refine lv_iload hx hb (oc_21 93 (aq_20 shX12_beyond_73) ub_4) (lvA1 hl) ?_
            refine lv_iload_n hx hb (oc_28 95 (aq_22 shX12_beyond_73)) rfl (lvA5 hl) ?_
            refine vp_callSl (runV_ra (As := [.int (nI mr_6), .int (nI n3), .int (nI n4), .int v1]) (rest := []) S (q_byLot l D cI cB cZ g cn In Fn mr_6 n3 n4 v1 hI (by (first | omega | (have zz0 := Hid.u hi_cn; omega))) (by (first | omega | (have zz0 := Hid.u hi_cn; omega))) (by (first | omega | (have zz0 := Hid.u hi_cn; omega)))) kV_RX12_353 hK hP 0 rfl rfl rfl ⟨Nat.le_of_ble_eq_true rfl, Nat.le_of_ble_eq_true rfl⟩ ⟨Nat.le_of_ble_eq_true rfl, Nat.le_of_ble_eq_true rfl⟩ rfl hl.1 rfl (Nat.le_of_ble_eq_true rfl) (oc_182 96 (aq_23 shX12_beyond_73) uw_1_97)) (fun r_8 h_9 => ?_)
            exact W.lret (v := r_8) hx hb hr (fun t ht hW => ⟨r_8, rfl, trivial, ht⟩) (fun _ h => absurd h List.not_mem_nil) (oc_173 99 shX12_beyond_99)
          ·
            have tc_5 : ((nI i31).toInt : Int) < (nI (cn 2)).toInt := Int32.lt_iff_toInt_lt.mp (Int32.not_le.mp c_5)
            refine lv_aload_n hx hb (oc_42 40 (aq_16 shX12_beyond_24)) rfl (lvA3 hl) ?_
            refine gM_28 S hK hP (v := .ref (g 9)) rfl (oc_180 41 (aq_17 shX12_beyond_24) uw_0_28) ?_
            refine lv_iload hx hb (oc_21 44 (aq_20 shX12_beyond_24) ub_5) (lvA0 hl) ?_
            have kb_1 : i31 < 60 := by (first | omega | (have zz0 := Hid.u hi_cn; omega))
            obtain ⟨a_10, ha_10, ea_10⟩ := hI.e9 i31 (by (first | omega | (have zz0 := Hid.u hi_cn; omega)))
            refine ldM_9 hx hb hK hP (x := (nI a_10)) (vp_in_nI kb_1 (ltb rfl)) (nI_clamp (Nat.lt_trans kb_1 (ltb rfl))) ea_10 (oc_46 46 (aq_22 shX12_beyond_24)) ?_
            refine lv_bipush (v := 7) hx hb (oc_16 47 (aq_23 shX12_beyond_24) sgb_7) kbc_7 ?_
            refine lv_irem hx hb (oc_112 49 shX12_beyond_49) (by decide) ?_
            refine lv_topi (fun y_11 ey_11 => ?_)
            obtain rfl : y_11 = (nI (a_10 % 7)) := ey_11.trans (nI_rem (by (first | omega | (have zz0 := Hid.u hi_cn; omega))) (by decide))
            refine lv_iload_n hx hb (oc_27 50 (aq_1 shX12_beyond_49)) rfl (lvA4 hl) ?_
            have : (nI (a_10 % 7)).toInt = (((a_10 % 7) : Nat) : Int) := nI_toInt (by (first | omega | (have zz0 := Hid.u hi_cn; omega)))
            refine lv_icmp_eq (tgt := 57) hx hb (oc_159 51 (aq_2 shX12_beyond_49) sgw_0_6) rfl (fun c_12 => ?_) (fun c_12 => ?_)
            ·
              have tc_12 : ((nI (a_10 % 7)).toInt : Int) = v0.toInt := congrArg Int32.toInt c_12
              refine lv_iload_n hx hb (oc_29 57 (aq_8 shX12_beyond_49)) rfl (lvA2 hl) ?_
              refine lv_iconst (v := 1) hx hb (oc_4 58 (aq_9 shX12_beyond_49)) kic_1 ?_
              refine lv_iadd hx hb (oc_96 59 (aq_10 shX12_beyond_49)) ?_
              refine lv_topi (fun y_13 ey_13 => ?_)
              obtain rfl : y_13 = (nI (n3 + 1)) := ey_13.trans (nI_add n3 1)
              refine lv_istore_n (lv' := [(3, .int (nI (n3 + 1))), (5, .int (nI i31)), (4, .int (nI n4)), (0, .ref (g 100)), (1, .int v0), (2, .int v1)]) hx hb (oc_62 60 (aq_11 shX12_beyond_49)) rfl hl (ltb rfl) rfl (fun ls hl => ?_)
              refine lv_iload hx hb (oc_21 61 (aq_12 shX12_beyond_49) ub_4) (lvA2 hl) ?_
              refine lv_aload_n hx hb (oc_42 63 (aq_14 shX12_beyond_49)) rfl (lvA3 hl) ?_
              refine gM_43 S hK hP (v := .ref (g 14)) rfl (oc_180 64 (aq_15 shX12_beyond_49) uw_0_43) ?_
              refine lv_iload hx hb (oc_21 67 (aq_18 shX12_beyond_49) ub_5) (lvA1 hl) ?_
              refine ldM_14 hx hb hK hP (x := ((Fn 14) i31)) (vp_in_nI kb_1 (ltb rfl)) (nI_clamp (Nat.lt_trans kb_1 (ltb rfl))) rfl (oc_46 69 (aq_20 shX12_beyond_49)) ?_
              refine lv_if_le (tgt := 77) hx hb (oc_158 70 (aq_21 shX12_beyond_49) sgw_0_7) rfl (fun c_14 => ?_) (fun c_14 => ?_)
              ·
                have tc_14 : (((Fn 14) i31).toInt : Int) ≤ 0 := Int32.le_iff_toInt_le.mp c_14
                refine lv_iconst (v := 0) hx hb (oc_3 77 (aq_4 shX12_beyond_73)) kic_0 ?_
                refine lv_iadd hx hb (oc_96 78 (aq_5 shX12_beyond_73)) ?_
                refine lv_topi (fun y_15 ey_15 => ?_)
                obtain rfl : y_15 = (nI (n4 + 0)) := ey_15.trans (nI_add n4 0)
                refine lv_istore (lv' := [(4, .int (nI (n4 + 0))), (3, .int (nI (n3 + 1))), (5, .int (nI i31)), (0, .ref (g 100)), (1, .int v0), (2, .int v1)]) hx hb (oc_54 79 (aq_6 shX12_beyond_73) ub_4) hl (ltb rfl) rfl (fun ls hl => ?_)
                refine lv_iinc (v := (nI (i31 + 1))) (lv' := [(5, .int (nI (i31 + 1))), (4, .int (nI (n4 + 0))), (3, .int (nI (n3 + 1))), (0, .ref (g 100)), (1, .int v0), (2, .int v1)]) hx hb (oc_132 81 (aq_8 shX12_beyond_73) ub_5 sgb_1) hl (k := 2) rfl (nI_1 _) (ltb rfl) rfl (fun ls hl => ?_)
                refine lv_goto (tgt := 31) hx hb (oc_167 84 (aq_11 shX12_beyond_73) sgw_255_203) rfl ?_
                exact ih31 (i31 + 1) (n3 + 1) (n4 + 0) (by (first | omega | (have zz0 := Hid.u hi_cn; omega))) ⟨(by (first | omega | (have zz0 := Hid.u hi_cn; omega))), ⟨by (first | omega | (have zz0 := Hid.u hi_cn; omega)), by (first | omega | (have zz0 := Hid.u hi_cn; omega))⟩⟩ ls (lv_sub hl [0, 1, 2, 3, 4, 5] rfl)
              ·
                have tc_14 : (0 : Int) < ((Fn 14) i31).toInt := Int32.lt_iff_toInt_lt.mp (Int32.not_le.mp c_14)
                refine lv_iconst (v := 1) hx hb (oc_4 73 shX12_beyond_73) kic_1 ?_
                refine lv_goto (tgt := 78) hx hb (oc_167 74 (aq_1 shX12_beyond_73) sgw_0_4) rfl ?_
                refine lv_iadd hx hb (oc_96 78 (aq_5 shX12_beyond_73)) ?_
                refine lv_topi (fun y_16 ey_16 => ?_)
                obtain rfl : y_16 = (nI (n4 + 1)) := ey_16.trans (nI_add n4 1)
                refine lv_istore (lv' := [(4, .int (nI (n4 + 1))), (3, .int (nI (n3 + 1))), (5, .int (nI i31)), (0, .ref (g 100)), (1, .int v0), (2, .int v1)]) hx hb (oc_54 79 (aq_6 shX12_beyond_73) ub_4) hl (ltb rfl) rfl (fun ls hl => ?_)
                refine lv_iinc (v := (nI (i31 + 1))) (lv' := [(5, .int (nI (i31 + 1))), (4, .int (nI (n4 + 1))), (3, .int (nI (n3 + 1))), (0, .ref (g 100)), (1, .int v0), (2, .int v1)]) hx hb (oc_132 81 (aq_8 shX12_beyond_73) ub_5 sgb_1) hl (k := 2) rfl (nI_1 _) (ltb rfl) rfl (fun ls hl => ?_)
                refine lv_goto (tgt := 31) hx hb (oc_167 84 (aq_11 shX12_beyond_73) sgw_255_203) rfl ?_
                exact ih31 (i31 + 1) (n3 + 1) (n4 + 1) (by (first | omega | (have zz0 := Hid.u hi_cn; omega))) ⟨(by (first | omega | (have zz0 := Hid.u hi_cn; omega))), ⟨by (first | omega | (have zz0 := Hid.u hi_cn; omega)), by (first | omega | (have zz0 := Hid.u hi_cn; omega))⟩⟩ ls (lv_sub hl [0, 1, 2, 3, 4, 5] rfl)
            ·
              have tc_12 : ((nI (a_10 % 7)).toInt : Int) ≠ v0.toInt := fun q => c_12 (Int32.toInt_inj.mp q)
              refine lv_goto (tgt := 81) hx hb (oc_167 54 (aq_5 shX12_beyond_49) sgw_0_27) rfl ?_
              refine lv_iinc (v := (nI (i31 + 1))) (lv' := [(5, .int (nI (i31 + 1))), (4, .int (nI n4)), (3, .int (nI n3)), (0, .ref (g 100)), (1, .int v0), (2, .int v1)]) hx hb (oc_132 81 (aq_8 shX12_beyond_73) ub_5 sgb_1) hl (k := 0) rfl (nI_1 _) (ltb rfl) rfl (fun ls hl => ?_)
              refine lv_goto (tgt := 31) hx hb (oc_167 84 (aq_11 shX12_beyond_73) sgw_255_203) rfl ?_
              exact ih31 (i31 + 1) n3 n4 (by (first | omega | (have zz0 := Hid.u hi_cn; omega))) ⟨(by (first | omega | (have zz0 := Hid.u hi_cn; omega))), ⟨by (first | omega | (have zz0 := Hid.u hi_cn; omega)), by (first | omega | (have zz0 := Hid.u hi_cn; omega))⟩⟩ ls (lv_sub hl [0, 1, 2, 3, 4, 5] rfl)
      exact lp_31 _ 0 0 0 (Nat.lt_succ_self _) ⟨(by (first | omega | (have zz0 := Hid.u hi_cn; omega))), ⟨by (first | omega | (have zz0 := Hid.u hi_cn; omega)), by (first | omega | (have zz0 := Hid.u hi_cn; omega))⟩⟩ ls (lv_sub hl [0, 1, 2, 3, 4, 5] rfl)
    ·
      have h_4 : ¬ (0 ≤ v1.toInt ∧ v1.toInt ≤ 2) := h_4
      refine lv_if_ne (tgt := 23) hx hb (oc_154 16 (aq_16 shX12_beyond_0) sgw_0_7) rfl (fun h => absurd h cq_eq_0_0) (fun _ => ?_)
      refine lv_ldc2 (v := (-1)) hx hb hown (S.2.2.2.2 _ (wk8_6 5 rfl rfl)) (oc_20 19 (aq_19 shX12_beyond_0) uw_1_92) ?_
      exact W.lret (v := (-1)) hx hb hr (fun t ht hW => ⟨(-1), rfl, trivial, ht⟩) (fun _ h => absurd h List.not_mem_nil) (oc_173 22 (aq_22 shX12_beyond_0))
  ·
    have h_2 : ¬ (0 ≤ v0.toInt ∧ v0.toInt ≤ 6) := h_2
    refine lv_if_eq (tgt := 19) hx hb (oc_153 7 (aq_7 shX12_beyond_0) sgw_0_12) rfl (fun _ => ?_) (fun h => absurd h cq_eq_0_0)
    refine lv_ldc2 (v := (-1)) hx hb hown (S.2.2.2.2 _ (wk8_6 5 rfl rfl)) (oc_20 19 (aq_19 shX12_beyond_0) uw_1_92) ?_
    exact W.lret (v := (-1)) hx hb hr (fun t ht hW => ⟨(-1), rfl, trivial, ht⟩) (fun _ h => absurd h List.not_mem_nil) (oc_173 22 (aq_22 shX12_beyond_0))
set_option maxRecDepth 100000 in
set_option maxHeartbeats 4000000 in
theorem q_streets (l : Launch) (D : va_G) (cI cB cZ : ClassId) (g : Nat → Nat) (cn : Nat → Nat) (In : Nat → Int32) (Fn : Nat → Nat → Int32) (v0 v1 : Int32) (hI : IM cn Fn) : Met l yX12_streets (CWS yX12_streets cX12_streets 6 (some .long)) (RM 2 0 0) (PBr [.ref (g 100), .int v0, .int v1] D cI cB cZ (wM cI cB cZ g cn In Fn)) (vp_Sl (fun _ => True)) 0 0 (fun _ => False) := by
  refine en_r rfl pn_RX12 (Nat.le_of_ble_eq_true rfl) (fun p e s m below meth c hx hb hml hown S hr hlocks hnm hP hK hS ls hl => ?_)
  have hl : lv_has ls 6 [(0, .ref (g 100)), (1, .int v0), (2, .int v1)] := hl
  have hi_cn : Hid (CB cn) := hI.b
  refine lv_iload_n hx hb (oc_27 0 shX12_streets_0) rfl (lvA1 hl) ?_
  refine lv_iconst (v := 0) hx hb (oc_3 1 (aq_1 shX12_streets_0)) kic_0 ?_
  refine lv_bipush (v := 9) hx hb (oc_16 2 (aq_2 shX12_streets_0) sgb_9) kbc_9 ?_
  refine vp_callSi (runS_r (As := [.int v0, .int 0, .int 9]) (rest := []) S (q_in l D cI cB cZ v0 0 9 ) kS_RX12_214 hK hP [] rfl ⟨Nat.le_of_ble_eq_true rfl, Nat.le_of_ble_eq_true rfl⟩ ⟨Nat.le_of_ble_eq_true rfl, Nat.le_of_ble_eq_true rfl⟩ rfl hl.1 rfl (Nat.le_of_ble_eq_true rfl) (oc_184 4 (aq_4 shX12_streets_0) uw_0_214)) (fun r_1 h_2 => ?_)
  rcases h_2 with ⟨rfl, h_2⟩ | ⟨rfl, h_2⟩
  ·
    have h_2 : 0 ≤ v0.toInt ∧ v0.toInt ≤ 9 := h_2
    refine lv_if_eq (tgt := 19) hx hb (oc_153 7 (aq_7 shX12_streets_0) sgw_0_12) rfl (fun h => absurd h cq_eq_1_0) (fun _ => ?_)
    refine lv_iload_n hx hb (oc_28 10 (aq_10 shX12_streets_0)) rfl (lvA2 hl) ?_
    refine lv_iconst (v := 0) hx hb (oc_3 11 (aq_11 shX12_streets_0)) kic_0 ?_
    refine lv_iconst (v := 2) hx hb (oc_5 12 (aq_12 shX12_streets_0)) kic_2 ?_
    refine vp_callSi (runS_r (As := [.int v1, .int 0, .int 2]) (rest := []) S (q_in l D cI cB cZ v1 0 2 ) kS_RX12_214 hK hP [] rfl ⟨Nat.le_of_ble_eq_true rfl, Nat.le_of_ble_eq_true rfl⟩ ⟨Nat.le_of_ble_eq_true rfl, Nat.le_of_ble_eq_true rfl⟩ rfl hl.1 rfl (Nat.le_of_ble_eq_true rfl) (oc_184 13 (aq_13 shX12_streets_0) uw_0_214)) (fun r_3 h_4 => ?_)
    rcases h_4 with ⟨rfl, h_4⟩ | ⟨rfl, h_4⟩
    ·
      have h_4 : 0 ≤ v1.toInt ∧ v1.toInt ≤ 2 := h_4
      refine lv_if_ne (tgt := 23) hx hb (oc_154 16 (aq_16 shX12_streets_0) sgw_0_7) rfl (fun _ => ?_) (fun h => absurd h cq_eq_1_0)
      refine lv_iconst (v := 0) hx hb (oc_3 23 (aq_23 shX12_streets_0)) kic_0 ?_
      refine lv_istore_n (lv' := [(3, .int 0), (0, .ref (g 100)), (1, .int v0), (2, .int v1)]) hx hb (oc_62 24 shX12_streets_24) rfl hl (ltb rfl) rfl (fun ls hl => ?_)
      refine lv_iconst (v := 0) hx hb (oc_3 25 (aq_1 shX12_streets_24)) kic_0 ?_
      refine lv_istore (lv' := [(4, .int 0), (3, .int 0), (0, .ref (g 100)), (1, .int v0), (2, .int v1)]) hx hb (oc_54 26 (aq_2 shX12_streets_24) ub_4) hl (ltb rfl) rfl (fun ls hl => ?_)
      refine lv_iconst (v := 0) hx hb (oc_3 28 (aq_4 shX12_streets_24)) kic_0 ?_
      refine lv_istore (lv' := [(5, .int 0), (4, .int 0), (3, .int 0), (0, .ref (g 100)), (1, .int v0), (2, .int v1)]) hx hb (oc_54 29 (aq_5 shX12_streets_24) ub_5) hl (ltb rfl) rfl (fun ls hl => ?_)
      have lp_31 : ∀ (n : Nat) (i31 : Nat) (n3 : Nat) (n4 : Nat) , cn 2 - i31 < n → (i31 ≤ cn 2 ∧ (n3 ≤ i31 ∧ n4 ≤ n3)) → ∀ ls : Array Slot, lv_has ls 6 [(5, .int (nI i31)), (4, .int (nI n4)), (3, .int (nI n3)), (0, .ref (g 100)), (1, .int v0), (2, .int v1)] → W p l e (RM 2 0 0) s m ([.ref (g 100), .int v0, .int v1]).toArray below meth c s.heap [] 0 0 (MQ below (vp_Sl (fun _ => True)) ([.ref (g 100), .int v0, .int v1]).toArray s 0 0 (fun _ => False)) (F0 m 31 ls []) := by
        intro n31
        induction n31 with
        | zero => intros; (first | omega | (have zz0 := Hid.u hi_cn; omega))
        | succ n31 ih31 =>
          intro i31 n3 n4 hmu31 hinv31 ls hl
          obtain ⟨hr31, hx31_0⟩ := hinv31
          have ti31 : (nI i31).toInt = (i31 : Int) := nI_toInt (by (first | omega | (have zz0 := Hid.u hi_cn; omega)))
          refine lv_iload hx hb (oc_21 31 (aq_7 shX12_streets_24) ub_5) (lvA0 hl) ?_
          refine lv_aload_n hx hb (oc_42 33 (aq_9 shX12_streets_24)) rfl (lvA3 hl) ?_
          refine gM_208 S hK hP (v := .int (nI (cn 2))) rfl (oc_180 34 (aq_10 shX12_streets_24) uw_0_208) ?_
          have : (nI (cn 2)).toInt = (((cn 2) : Nat) : Int) := nI_toInt (by (first | omega | (have zz0 := Hid.u hi_cn; omega)))
          refine lv_icmp_ge (tgt := 89) hx hb (oc_162 37 (aq_13 shX12_streets_24) sgw_0_52) rfl (fun c_5 => ?_) (fun c_5 => ?_)
          ·
            have tc_5 : ((nI (cn 2)).toInt : Int) ≤ (nI i31).toInt := Int32.le_iff_toInt_le.mp c_5
            refine lv_aload_n hx hb (oc_42 89 (aq_17 shX12_streets_72)) rfl (lvA3 hl) ?_
            refine lv_aload_n hx hb (oc_42 90 (aq_18 shX12_streets_72)) rfl (lvA3 hl) ?_
            refine vp_callSi (runV_ra (As := []) (rest := [.ref (g 100)]) S (q_lacking l D cI cB cZ g cn In Fn  hI) kV_RX12_350 hK hP 0 rfl rfl rfl ⟨Nat.le_of_ble_eq_true rfl, Nat.le_of_ble_eq_true rfl⟩ ⟨Nat.le_of_ble_eq_true rfl, Nat.le_of_ble_eq_true rfl⟩ rfl hl.1 rfl (Nat.le_of_ble_eq_true rfl) (oc_182 91 (aq_19 shX12_streets_72) uw_1_94)) (fun r_6 h_7 => ?_)
            obtain ⟨mr_6, hr_6, rfl⟩ := h_7
            refine lv_iload_n hx hb (oc_29 94 (aq_22 shX12_streets_72)) rfl (lvA2 hl) ?_
            refine lv_iload hx hb (oc_21 95 (aq_23 shX12_streets_72) ub_4) (lvA1 hl) ?_
            refine lv_iload_n hx hb (oc_28 97 shX12_streets_97) rfl (lvA5 hl) ?_
            refine vp_callSl (runV_ra (As := [.int (nI mr_6), .int (nI n3), .int (nI n4), .int v1]) (rest := []) S (q_byLot l D cI cB cZ g cn In Fn mr_6 n3 n4 v1 hI (by (first | omega | (have zz0 := Hid.u hi_cn; omega))) (by (first | omega | (have zz0 := Hid.u hi_cn; omega))) (by (first | omega | (have zz0 := Hid.u hi_cn; omega)))) kV_RX12_353 hK hP 0 rfl rfl rfl ⟨Nat.le_of_ble_eq_true rfl, Nat.le_of_ble_eq_true rfl⟩ ⟨Nat.le_of_ble_eq_true rfl, Nat.le_of_ble_eq_true rfl⟩ rfl hl.1 rfl (Nat.le_of_ble_eq_true rfl) (oc_182 98 (aq_1 shX12_streets_97) uw_1_97)) (fun r_8 h_9 => ?_)
            exact W.lret (v := r_8) hx hb hr (fun t ht hW => ⟨r_8, rfl, trivial, ht⟩) (fun _ h => absurd h List.not_mem_nil) (oc_173 101 (aq_4 shX12_streets_97))
          ·
            have tc_5 : ((nI i31).toInt : Int) < (nI (cn 2)).toInt := Int32.lt_iff_toInt_lt.mp (Int32.not_le.mp c_5)
            refine lv_aload_n hx hb (oc_42 40 (aq_16 shX12_streets_24)) rfl (lvA3 hl) ?_
            refine gM_95 S hK hP (v := .ref (g 40)) rfl (oc_180 41 (aq_17 shX12_streets_24) uw_0_95) ?_
            refine lv_aload_n hx hb (oc_42 44 (aq_20 shX12_streets_24)) rfl (lvA3 hl) ?_
            refine gM_25 S hK hP (v := .ref (g 8)) rfl (oc_180 45 (aq_21 shX12_streets_24) uw_0_25) ?_
            refine lv_iload hx hb (oc_21 48 shX12_streets_48 ub_5) (lvA0 hl) ?_
            have kb_1 : i31 < 60 := by (first | omega | (have zz0 := Hid.u hi_cn; omega))
            obtain ⟨a_10, ha_10, ea_10⟩ := hI.e8 i31 (by (first | omega | (have zz0 := Hid.u hi_cn; omega)))
            refine ldM_8 hx hb hK hP (x := (nI a_10)) (vp_in_nI kb_1 (ltb rfl)) (nI_clamp (Nat.lt_trans kb_1 (ltb rfl))) ea_10 (oc_46 50 (aq_2 shX12_streets_48)) ?_
            have kb_2 : a_10 < 10 := by (first | omega | (have zz0 := Hid.u hi_cn; omega))
            refine ldM_40 hx hb hK hP (x := ((Fn 40) a_10)) (vp_in_nI kb_2 (ltb rfl)) (nI_clamp (Nat.lt_trans kb_2 (ltb rfl))) rfl (oc_46 51 (aq_3 shX12_streets_48)) ?_
            refine lv_iload_n hx hb (oc_27 52 (aq_4 shX12_streets_48)) rfl (lvA4 hl) ?_
            refine lv_icmp_eq (tgt := 59) hx hb (oc_159 53 (aq_5 shX12_streets_48) sgw_0_6) rfl (fun c_11 => ?_) (fun c_11 => ?_)
            ·
              have tc_11 : (((Fn 40) a_10).toInt : Int) = v0.toInt := congrArg Int32.toInt c_11
              refine lv_iload_n hx hb (oc_29 59 (aq_11 shX12_streets_48)) rfl (lvA2 hl) ?_
              refine lv_iconst (v := 1) hx hb (oc_4 60 (aq_12 shX12_streets_48)) kic_1 ?_
              refine lv_iadd hx hb (oc_96 61 (aq_13 shX12_streets_48)) ?_
              refine lv_topi (fun y_12 ey_12 => ?_)
              obtain rfl : y_12 = (nI (n3 + 1)) := ey_12.trans (nI_add n3 1)
              refine lv_istore_n (lv' := [(3, .int (nI (n3 + 1))), (5, .int (nI i31)), (4, .int (nI n4)), (0, .ref (g 100)), (1, .int v0), (2, .int v1)]) hx hb (oc_62 62 (aq_14 shX12_streets_48)) rfl hl (ltb rfl) rfl (fun ls hl => ?_)
              refine lv_iload hx hb (oc_21 63 (aq_15 shX12_streets_48) ub_4) (lvA2 hl) ?_
              refine lv_aload_n hx hb (oc_42 65 (aq_17 shX12_streets_48)) rfl (lvA3 hl) ?_
              refine gM_43 S hK hP (v := .ref (g 14)) rfl (oc_180 66 (aq_18 shX12_streets_48) uw_0_43) ?_
              refine lv_iload hx hb (oc_21 69 (aq_21 shX12_streets_48) ub_5) (lvA1 hl) ?_
              refine ldM_14 hx hb hK hP (x := ((Fn 14) i31)) (vp_in_nI kb_1 (ltb rfl)) (nI_clamp (Nat.lt_trans kb_1 (ltb rfl))) rfl (oc_46 71 (aq_23 shX12_streets_48)) ?_
              refine lv_if_le (tgt := 79) hx hb (oc_158 72 shX12_streets_72 sgw_0_7) rfl (fun c_13 => ?_) (fun c_13 => ?_)
              ·
                have tc_13 : (((Fn 14) i31).toInt : Int) ≤ 0 := Int32.le_iff_toInt_le.mp c_13
                refine lv_iconst (v := 0) hx hb (oc_3 79 (aq_7 shX12_streets_72)) kic_0 ?_
                refine lv_iadd hx hb (oc_96 80 (aq_8 shX12_streets_72)) ?_
                refine lv_topi (fun y_14 ey_14 => ?_)
                obtain rfl : y_14 = (nI (n4 + 0)) := ey_14.trans (nI_add n4 0)
                refine lv_istore (lv' := [(4, .int (nI (n4 + 0))), (3, .int (nI (n3 + 1))), (5, .int (nI i31)), (0, .ref (g 100)), (1, .int v0), (2, .int v1)]) hx hb (oc_54 81 (aq_9 shX12_streets_72) ub_4) hl (ltb rfl) rfl (fun ls hl => ?_)
                refine lv_iinc (v := (nI (i31 + 1))) (lv' := [(5, .int (nI (i31 + 1))), (4, .int (nI (n4 + 0))), (3, .int (nI (n3 + 1))), (0, .ref (g 100)), (1, .int v0), (2, .int v1)]) hx hb (oc_132 83 (aq_11 shX12_streets_72) ub_5 sgb_1) hl (k := 2) rfl (nI_1 _) (ltb rfl) rfl (fun ls hl => ?_)
                refine lv_goto (tgt := 31) hx hb (oc_167 86 (aq_14 shX12_streets_72) sgw_255_201) rfl ?_
                exact ih31 (i31 + 1) (n3 + 1) (n4 + 0) (by (first | omega | (have zz0 := Hid.u hi_cn; omega))) ⟨(by (first | omega | (have zz0 := Hid.u hi_cn; omega))), ⟨by (first | omega | (have zz0 := Hid.u hi_cn; omega)), by (first | omega | (have zz0 := Hid.u hi_cn; omega))⟩⟩ ls (lv_sub hl [0, 1, 2, 3, 4, 5] rfl)
              ·
                have tc_13 : (0 : Int) < ((Fn 14) i31).toInt := Int32.lt_iff_toInt_lt.mp (Int32.not_le.mp c_13)
                refine lv_iconst (v := 1) hx hb (oc_4 75 (aq_3 shX12_streets_72)) kic_1 ?_
                refine lv_goto (tgt := 80) hx hb (oc_167 76 (aq_4 shX12_streets_72) sgw_0_4) rfl ?_
                refine lv_iadd hx hb (oc_96 80 (aq_8 shX12_streets_72)) ?_
                refine lv_topi (fun y_15 ey_15 => ?_)
                obtain rfl : y_15 = (nI (n4 + 1)) := ey_15.trans (nI_add n4 1)
                refine lv_istore (lv' := [(4, .int (nI (n4 + 1))), (3, .int (nI (n3 + 1))), (5, .int (nI i31)), (0, .ref (g 100)), (1, .int v0), (2, .int v1)]) hx hb (oc_54 81 (aq_9 shX12_streets_72) ub_4) hl (ltb rfl) rfl (fun ls hl => ?_)
                refine lv_iinc (v := (nI (i31 + 1))) (lv' := [(5, .int (nI (i31 + 1))), (4, .int (nI (n4 + 1))), (3, .int (nI (n3 + 1))), (0, .ref (g 100)), (1, .int v0), (2, .int v1)]) hx hb (oc_132 83 (aq_11 shX12_streets_72) ub_5 sgb_1) hl (k := 2) rfl (nI_1 _) (ltb rfl) rfl (fun ls hl => ?_)
                refine lv_goto (tgt := 31) hx hb (oc_167 86 (aq_14 shX12_streets_72) sgw_255_201) rfl ?_
                exact ih31 (i31 + 1) (n3 + 1) (n4 + 1) (by (first | omega | (have zz0 := Hid.u hi_cn; omega))) ⟨(by (first | omega | (have zz0 := Hid.u hi_cn; omega))), ⟨by (first | omega | (have zz0 := Hid.u hi_cn; omega)), by (first | omega | (have zz0 := Hid.u hi_cn; omega))⟩⟩ ls (lv_sub hl [0, 1, 2, 3, 4, 5] rfl)
            ·
              have tc_11 : (((Fn 40) a_10).toInt : Int) ≠ v0.toInt := fun q => c_11 (Int32.toInt_inj.mp q)
              refine lv_goto (tgt := 83) hx hb (oc_167 56 (aq_8 shX12_streets_48) sgw_0_27) rfl ?_
              refine lv_iinc (v := (nI (i31 + 1))) (lv' := [(5, .int (nI (i31 + 1))), (4, .int (nI n4)), (3, .int (nI n3)), (0, .ref (g 100)), (1, .int v0), (2, .int v1)]) hx hb (oc_132 83 (aq_11 shX12_streets_72) ub_5 sgb_1) hl (k := 0) rfl (nI_1 _) (ltb rfl) rfl (fun ls hl => ?_)
              refine lv_goto (tgt := 31) hx hb (oc_167 86 (aq_14 shX12_streets_72) sgw_255_201) rfl ?_
              exact ih31 (i31 + 1) n3 n4 (by (first | omega | (have zz0 := Hid.u hi_cn; omega))) ⟨(by (first | omega | (have zz0 := Hid.u hi_cn; omega))), ⟨by (first | omega | (have zz0 := Hid.u hi_cn; omega)), by (first | omega | (have zz0 := Hid.u hi_cn; omega))⟩⟩ ls (lv_sub hl [0, 1, 2, 3, 4, 5] rfl)
      exact lp_31 _ 0 0 0 (Nat.lt_succ_self _) ⟨(by (first | omega | (have zz0 := Hid.u hi_cn; omega))), ⟨by (first | omega | (have zz0 := Hid.u hi_cn; omega)), by (first | omega | (have zz0 := Hid.u hi_cn; omega))⟩⟩ ls (lv_sub hl [0, 1, 2, 3, 4, 5] rfl)
    ·
      have h_4 : ¬ (0 ≤ v1.toInt ∧ v1.toInt ≤ 2) := h_4
      refine lv_if_ne (tgt := 23) hx hb (oc_154 16 (aq_16 shX12_streets_0) sgw_0_7) rfl (fun h => absurd h cq_eq_0_0) (fun _ => ?_)
      refine lv_ldc2 (v := (-1)) hx hb hown (S.2.2.2.2 _ (wk8_6 5 rfl rfl)) (oc_20 19 (aq_19 shX12_streets_0) uw_1_92) ?_
      exact W.lret (v := (-1)) hx hb hr (fun t ht hW => ⟨(-1), rfl, trivial, ht⟩) (fun _ h => absurd h List.not_mem_nil) (oc_173 22 (aq_22 shX12_streets_0))
  ·
    have h_2 : ¬ (0 ≤ v0.toInt ∧ v0.toInt ≤ 9) := h_2
    refine lv_if_eq (tgt := 19) hx hb (oc_153 7 (aq_7 shX12_streets_0) sgw_0_12) rfl (fun _ => ?_) (fun h => absurd h cq_eq_0_0)
    refine lv_ldc2 (v := (-1)) hx hb hown (S.2.2.2.2 _ (wk8_6 5 rfl rfl)) (oc_20 19 (aq_19 shX12_streets_0) uw_1_92) ?_
    exact W.lret (v := (-1)) hx hb hr (fun t ht hW => ⟨(-1), rfl, trivial, ht⟩) (fun _ h => absurd h List.not_mem_nil) (oc_173 22 (aq_22 shX12_streets_0))
set_option maxRecDepth 100000 in
set_option maxHeartbeats 4000000 in
theorem q_cheat (l : Launch) (D : va_G) (cI cB cZ : ClassId) (g : Nat → Nat) (cn : Nat → Nat) (In : Nat → Int32) (Fn : Nat → Nat → Int32) (v0 v1 v2 : Int32) (hI : IM cn Fn) : Met l yX12_cheat (CWS yX12_cheat cX12_cheat 9 (some .long)) (RM 2 0 0) (PBr [.ref (g 100), .int v0, .int v1, .int v2] D cI cB cZ (wM cI cB cZ g cn In Fn)) (vp_Sl (fun _ => True)) 0 0 (fun _ => False) := by
  refine en_r rfl pn_RX12 (Nat.le_of_ble_eq_true rfl) (fun p e s m below meth c hx hb hml hown S hr hlocks hnm hP hK hS ls hl => ?_)
  have hl : lv_has ls 9 [(0, .ref (g 100)), (1, .int v0), (2, .int v1), (3, .int v2)] := hl
  have hi_cn : Hid (CB cn) := hI.b
  refine lv_aload_n hx hb (oc_42 0 shX12_cheat_0) rfl (lvA0 hl) ?_
  refine lv_iload_n hx hb (oc_27 1 (aq_1 shX12_cheat_0)) rfl (lvA1 hl) ?_
  refine vp_callSi (runV_ra (As := [.int v0]) (rest := []) S (q_isKitchen l D cI cB cZ g cn In Fn v0 hI) kV_RX12_218 hK hP 0 rfl rfl rfl ⟨Nat.le_of_ble_eq_true rfl, Nat.le_of_ble_eq_true rfl⟩ ⟨Nat.le_of_ble_eq_true rfl, Nat.le_of_ble_eq_true rfl⟩ rfl hl.1 rfl (Nat.le_of_ble_eq_true rfl) (oc_182 2 (aq_2 shX12_cheat_0) uw_0_218)) (fun r_1 h_2 => ?_)
  rcases h_2 with ⟨rfl, h_2⟩ | ⟨rfl, h_2⟩
  ·
    have h_2 : 0 ≤ v0.toInt ∧ v0.toInt < ((cn 1) : Int) := h_2
    refine lv_if_eq (tgt := 28) hx hb (oc_153 5 (aq_5 shX12_cheat_0) sgw_0_23) rfl (fun h => absurd h cq_eq_1_0) (fun _ => ?_)
    refine lv_iload_n hx hb (oc_28 8 (aq_8 shX12_cheat_0)) rfl (lvA2 hl) ?_
    refine lv_iconst (v := 0) hx hb (oc_3 9 (aq_9 shX12_cheat_0)) kic_0 ?_
    refine lv_sipush (v := 1000) hx hb (oc_17 10 (aq_10 shX12_cheat_0) sgw_3_232) (by decide) ?_
    refine vp_callSi (runS_r (As := [.int v1, .int 0, .int 1000]) (rest := []) S (q_in l D cI cB cZ v1 0 1000 ) kS_RX12_214 hK hP [] rfl ⟨Nat.le_of_ble_eq_true rfl, Nat.le_of_ble_eq_true rfl⟩ ⟨Nat.le_of_ble_eq_true rfl, Nat.le_of_ble_eq_true rfl⟩ rfl hl.1 rfl (Nat.le_of_ble_eq_true rfl) (oc_184 13 (aq_13 shX12_cheat_0) uw_0_214)) (fun r_3 h_4 => ?_)
    rcases h_4 with ⟨rfl, h_4⟩ | ⟨rfl, h_4⟩
    ·
      have h_4 : 0 ≤ v1.toInt ∧ v1.toInt ≤ 1000 := h_4
      refine lv_if_eq (tgt := 28) hx hb (oc_153 16 (aq_16 shX12_cheat_0) sgw_0_12) rfl (fun h => absurd h cq_eq_1_0) (fun _ => ?_)
      refine lv_iload_n hx hb (oc_29 19 (aq_19 shX12_cheat_0)) rfl (lvA3 hl) ?_
      refine lv_iconst (v := 0) hx hb (oc_3 20 (aq_20 shX12_cheat_0)) kic_0 ?_
      refine lv_iconst (v := 2) hx hb (oc_5 21 (aq_21 shX12_cheat_0)) kic_2 ?_
      refine vp_callSi (runS_r (As := [.int v2, .int 0, .int 2]) (rest := []) S (q_in l D cI cB cZ v2 0 2 ) kS_RX12_214 hK hP [] rfl ⟨Nat.le_of_ble_eq_true rfl, Nat.le_of_ble_eq_true rfl⟩ ⟨Nat.le_of_ble_eq_true rfl, Nat.le_of_ble_eq_true rfl⟩ rfl hl.1 rfl (Nat.le_of_ble_eq_true rfl) (oc_184 22 (aq_22 shX12_cheat_0) uw_0_214)) (fun r_5 h_6 => ?_)
      rcases h_6 with ⟨rfl, h_6⟩ | ⟨rfl, h_6⟩
      ·
        have h_6 : 0 ≤ v2.toInt ∧ v2.toInt ≤ 2 := h_6
        refine lv_if_ne (tgt := 32) hx hb (oc_154 25 shX12_cheat_25 sgw_0_7) rfl (fun _ => ?_) (fun h => absurd h cq_eq_1_0)
        refine lv_iconst (v := 0) hx hb (oc_3 32 (aq_7 shX12_cheat_25)) kic_0 ?_
        refine lv_istore (lv' := [(4, .int 0), (0, .ref (g 100)), (1, .int v0), (2, .int v1), (3, .int v2)]) hx hb (oc_54 33 (aq_8 shX12_cheat_25) ub_4) hl (ltb rfl) rfl (fun ls hl => ?_)
        refine lv_iconst (v := 0) hx hb (oc_3 35 (aq_10 shX12_cheat_25)) kic_0 ?_
        refine lv_istore (lv' := [(5, .int 0), (4, .int 0), (0, .ref (g 100)), (1, .int v0), (2, .int v1), (3, .int v2)]) hx hb (oc_54 36 (aq_11 shX12_cheat_25) ub_5) hl (ltb rfl) rfl (fun ls hl => ?_)
        refine lv_iconst (v := 0) hx hb (oc_3 38 (aq_13 shX12_cheat_25)) kic_0 ?_
        refine lv_istore (lv' := [(6, .int 0), (5, .int 0), (4, .int 0), (0, .ref (g 100)), (1, .int v0), (2, .int v1), (3, .int v2)]) hx hb (oc_54 39 (aq_14 shX12_cheat_25) ub_6) hl (ltb rfl) rfl (fun ls hl => ?_)
        refine lv_iconst (v := 0) hx hb (oc_3 41 (aq_16 shX12_cheat_25)) kic_0 ?_
        refine lv_istore (lv' := [(7, .int 0), (6, .int 0), (5, .int 0), (4, .int 0), (0, .ref (g 100)), (1, .int v0), (2, .int v1), (3, .int v2)]) hx hb (oc_54 42 (aq_17 shX12_cheat_25) ub_7) hl (ltb rfl) rfl (fun ls hl => ?_)
        have lp_44 : ∀ (n : Nat) (i44 : Nat) (n4 : Nat) (n5 : Nat) (n6 : Nat) , cn 2 - i44 < n → (i44 ≤ cn 2 ∧ (n4 ≤ i44 ∧ n5 ≤ i44 ∧ n6 ≤ n5)) → ∀ ls : Array Slot, lv_has ls 9 [(7, .int (nI i44)), (6, .int (nI n6)), (5, .int (nI n5)), (4, .int (nI n4)), (0, .ref (g 100)), (1, .int v0), (2, .int v1), (3, .int v2)] → W p l e (RM 2 0 0) s m ([.ref (g 100), .int v0, .int v1, .int v2]).toArray below meth c s.heap [] 0 0 (MQ below (vp_Sl (fun _ => True)) ([.ref (g 100), .int v0, .int v1, .int v2]).toArray s 0 0 (fun _ => False)) (F0 m 44 ls []) := by
          intro n44
          induction n44 with
          | zero => intros; (first | omega | (have zz0 := Hid.u hi_cn; omega))
          | succ n44 ih44 =>
            intro i44 n4 n5 n6 hmu44 hinv44 ls hl
            obtain ⟨hr44, hx44_0⟩ := hinv44
            have ti44 : (nI i44).toInt = (i44 : Int) := nI_toInt (by (first | omega | (have zz0 := Hid.u hi_cn; omega)))
            refine lv_iload hx hb (oc_21 44 (aq_19 shX12_cheat_25) ub_7) (lvA0 hl) ?_
            refine lv_aload_n hx hb (oc_42 46 (aq_21 shX12_cheat_25)) rfl (lvA4 hl) ?_
            refine gM_208 S hK hP (v := .int (nI (cn 2))) rfl (oc_180 47 (aq_22 shX12_cheat_25) uw_0_208) ?_
            have : (nI (cn 2)).toInt = (((cn 2) : Nat) : Int) := nI_toInt (by (first | omega | (have zz0 := Hid.u hi_cn; omega)))
            refine lv_icmp_ge (tgt := 139) hx hb (oc_162 50 shX12_cheat_50 sgw_0_89) rfl (fun c_7 => ?_) (fun c_7 => ?_)
            ·
              have tc_7 : ((nI (cn 2)).toInt : Int) ≤ (nI i44).toInt := Int32.le_iff_toInt_le.mp c_7
              refine lv_aload_n hx hb (oc_42 139 (aq_14 shX12_cheat_125)) rfl (lvA4 hl) ?_
              refine lv_iload hx hb (oc_21 140 (aq_15 shX12_cheat_125) ub_4) (lvA3 hl) ?_
              refine lv_iload hx hb (oc_21 142 (aq_17 shX12_cheat_125) ub_5) (lvA2 hl) ?_
              refine lv_iload hx hb (oc_21 144 (aq_19 shX12_cheat_125) ub_6) (lvA1 hl) ?_
              refine lv_iload_n hx hb (oc_29 146 (aq_21 shX12_cheat_125)) rfl (lvA7 hl) ?_
              refine vp_callSl (runV_ra (As := [.int (nI n4), .int (nI n5), .int (nI n6), .int v2]) (rest := []) S (q_byLot l D cI cB cZ g cn In Fn n4 n5 n6 v2 hI (by (first | omega | (have zz0 := Hid.u hi_cn; omega))) (by (first | omega | (have zz0 := Hid.u hi_cn; omega))) (by (first | omega | (have zz0 := Hid.u hi_cn; omega)))) kV_RX12_353 hK hP 0 rfl rfl rfl ⟨Nat.le_of_ble_eq_true rfl, Nat.le_of_ble_eq_true rfl⟩ ⟨Nat.le_of_ble_eq_true rfl, Nat.le_of_ble_eq_true rfl⟩ rfl hl.1 rfl (Nat.le_of_ble_eq_true rfl) (oc_182 147 (aq_22 shX12_cheat_125) uw_1_97)) (fun r_8 h_9 => ?_)
              exact W.lret (v := r_8) hx hb hr (fun t ht hW => ⟨r_8, rfl, trivial, ht⟩) (fun _ h => absurd h List.not_mem_nil) (oc_173 150 shX12_cheat_150)
            ·
              have tc_7 : ((nI i44).toInt : Int) < (nI (cn 2)).toInt := Int32.lt_iff_toInt_lt.mp (Int32.not_le.mp c_7)
              refine lv_aload_n hx hb (oc_42 53 (aq_3 shX12_cheat_50)) rfl (lvA4 hl) ?_
              refine gM_34 S hK hP (v := .ref (g 11)) rfl (oc_180 54 (aq_4 shX12_cheat_50) uw_0_34) ?_
              refine lv_iload hx hb (oc_21 57 (aq_7 shX12_cheat_50) ub_7) (lvA0 hl) ?_
              have kb_1 : i44 < 60 := by (first | omega | (have zz0 := Hid.u hi_cn; omega))
              refine ldM_11 hx hb hK hP (x := ((Fn 11) i44)) (vp_in_nI kb_1 (ltb rfl)) (nI_clamp (Nat.lt_trans kb_1 (ltb rfl))) rfl (oc_46 59 (aq_9 shX12_cheat_50)) ?_
              refine lv_iload_n hx hb (oc_28 60 (aq_10 shX12_cheat_50)) rfl (lvA6 hl) ?_
              refine lv_icmp_lt (tgt := 68) hx hb (oc_161 61 (aq_11 shX12_cheat_50) sgw_0_7) rfl (fun c_10 => ?_) (fun c_10 => ?_)
              ·
                have tc_10 : (((Fn 11) i44).toInt : Int) < v1.toInt := Int32.lt_iff_toInt_lt.mp c_10
                refine lv_iconst (v := 0) hx hb (oc_3 68 (aq_18 shX12_cheat_50)) kic_0 ?_
                refine lv_istore (lv' := [(8, .int 0), (7, .int (nI i44)), (6, .int (nI n6)), (5, .int (nI n5)), (4, .int (nI n4)), (0, .ref (g 100)), (1, .int v0), (2, .int v1), (3, .int v2)]) hx hb (oc_54 69 (aq_19 shX12_cheat_50) ub_8) hl (ltb rfl) rfl (fun ls hl => ?_)
                refine lv_iload hx hb (oc_21 71 (aq_21 shX12_cheat_50) ub_4) (lvA4 hl) ?_
                refine lv_iload hx hb (oc_21 73 (aq_23 shX12_cheat_50) ub_8) (lvA0 hl) ?_
                refine lv_if_eq (tgt := 82) hx hb (oc_153 75 shX12_cheat_75 sgw_0_7) rfl (fun _ => ?_) (fun h => absurd h cq_eq_0_0)
                refine lv_iconst (v := 0) hx hb (oc_3 82 (aq_7 shX12_cheat_75)) kic_0 ?_
                refine lv_iadd hx hb (oc_96 83 (aq_8 shX12_cheat_75)) ?_
                refine lv_topi (fun y_11 ey_11 => ?_)
                obtain rfl : y_11 = (nI (n4 + 0)) := ey_11.trans (nI_add n4 0)
                refine lv_istore (lv' := [(4, .int (nI (n4 + 0))), (8, .int 0), (7, .int (nI i44)), (6, .int (nI n6)), (5, .int (nI n5)), (0, .ref (g 100)), (1, .int v0), (2, .int v1), (3, .int v2)]) hx hb (oc_54 84 (aq_9 shX12_cheat_75) ub_4) hl (ltb rfl) rfl (fun ls hl => ?_)
                refine lv_iload hx hb (oc_21 86 (aq_11 shX12_cheat_75) ub_5) (lvA4 hl) ?_
                refine lv_aload_n hx hb (oc_42 88 (aq_13 shX12_cheat_75)) rfl (lvA5 hl) ?_
                refine gM_25 S hK hP (v := .ref (g 8)) rfl (oc_180 89 (aq_14 shX12_cheat_75) uw_0_25) ?_
                refine lv_iload hx hb (oc_21 92 (aq_17 shX12_cheat_75) ub_7) (lvA2 hl) ?_
                obtain ⟨a_12, ha_12, ea_12⟩ := hI.e8 i44 (by (first | omega | (have zz0 := Hid.u hi_cn; omega)))
                refine ldM_8 hx hb hK hP (x := (nI a_12)) (vp_in_nI kb_1 (ltb rfl)) (nI_clamp (Nat.lt_trans kb_1 (ltb rfl))) ea_12 (oc_46 94 (aq_19 shX12_cheat_75)) ?_
                refine lv_iload_n hx hb (oc_27 95 (aq_20 shX12_cheat_75)) rfl (lvA6 hl) ?_
                have : (nI a_12).toInt = ((a_12 : Nat) : Int) := nI_toInt (by (first | omega | (have zz0 := Hid.u hi_cn; omega)))
                refine lv_icmp_ne (tgt := 103) hx hb (oc_160 96 (aq_21 shX12_cheat_75) sgw_0_7) rfl (fun c_13 => ?_) (fun c_13 => ?_)
                ·
                  have tc_13 : ((nI a_12).toInt : Int) ≠ v0.toInt := fun q => c_13 (Int32.toInt_inj.mp q)
                  refine lv_iconst (v := 0) hx hb (oc_3 103 (aq_4 shX12_cheat_99)) kic_0 ?_
                  refine lv_iadd hx hb dX12_cheat_104 ?_
                  refine lv_topi (fun y_14 ey_14 => ?_)
                  obtain rfl : y_14 = (nI (n5 + 0)) := ey_14.trans (nI_add n5 0)
                  refine lv_istore (lv' := [(5, .int (nI (n5 + 0))), (4, .int (nI (n4 + 0))), (8, .int 0), (7, .int (nI i44)), (6, .int (nI n6)), (0, .ref (g 100)), (1, .int v0), (2, .int v1), (3, .int v2)]) hx hb dX12_cheat_105 hl (ltb rfl) rfl (fun ls hl => ?_)
                  refine lv_iload hx hb dX12_cheat_107 (lvA4 hl) ?_
                  refine lv_iload hx hb dX12_cheat_109 (lvA2 hl) ?_
                  refine lv_if_eq (tgt := 129) hx hb dX12_cheat_111 rfl (fun _ => ?_) (fun h => absurd h cq_eq_0_0)
                  refine lv_iconst (v := 0) hx hb dX12_cheat_129 kic_0 ?_
                  refine lv_iadd hx hb dX12_cheat_130 ?_
                  refine lv_topi (fun y_15 ey_15 => ?_)
                  obtain rfl : y_15 = (nI (n6 + 0)) := ey_15.trans (nI_add n6 0)
                  refine lv_istore (lv' := [(6, .int (nI (n6 + 0))), (5, .int (nI (n5 + 0))), (4, .int (nI (n4 + 0))), (8, .int 0), (7, .int (nI i44)), (0, .ref (g 100)), (1, .int v0), (2, .int v1), (3, .int v2)]) hx hb dX12_cheat_131 hl (ltb rfl) rfl (fun ls hl => ?_)
                  refine lv_iinc (v := (nI (i44 + 1))) (lv' := [(7, .int (nI (i44 + 1))), (6, .int (nI (n6 + 0))), (5, .int (nI (n5 + 0))), (4, .int (nI (n4 + 0))), (8, .int 0), (0, .ref (g 100)), (1, .int v0), (2, .int v1), (3, .int v2)]) hx hb dX12_cheat_133 hl (k := 4) rfl (nI_1 _) (ltb rfl) rfl (fun ls hl => ?_)
                  refine lv_goto (tgt := 44) hx hb dX12_cheat_136 rfl ?_
                  exact ih44 (i44 + 1) (n4 + 0) (n5 + 0) (n6 + 0) (by (first | omega | (have zz0 := Hid.u hi_cn; omega))) ⟨(by (first | omega | (have zz0 := Hid.u hi_cn; omega))), ⟨by (first | omega | (have zz0 := Hid.u hi_cn; omega)), by (first | omega | (have zz0 := Hid.u hi_cn; omega)), by (first | omega | (have zz0 := Hid.u hi_cn; omega))⟩⟩ ls (lv_sub hl [0, 1, 2, 3, 5, 6, 7, 8] rfl)
                ·
                  have tc_13 : ((nI a_12).toInt : Int) = v0.toInt := congrArg Int32.toInt c_13
                  refine lv_iconst (v := 1) hx hb (oc_4 99 shX12_cheat_99) kic_1 ?_
                  refine lv_goto (tgt := 104) hx hb (oc_167 100 (aq_1 shX12_cheat_99) sgw_0_4) rfl ?_
                  refine lv_iadd hx hb dX12_cheat_104 ?_
                  refine lv_topi (fun y_16 ey_16 => ?_)
                  obtain rfl : y_16 = (nI (n5 + 1)) := ey_16.trans (nI_add n5 1)
                  refine lv_istore (lv' := [(5, .int (nI (n5 + 1))), (4, .int (nI (n4 + 0))), (8, .int 0), (7, .int (nI i44)), (6, .int (nI n6)), (0, .ref (g 100)), (1, .int v0), (2, .int v1), (3, .int v2)]) hx hb dX12_cheat_105 hl (ltb rfl) rfl (fun ls hl => ?_)
                  refine lv_iload hx hb dX12_cheat_107 (lvA4 hl) ?_
                  refine lv_iload hx hb dX12_cheat_109 (lvA2 hl) ?_
                  refine lv_if_eq (tgt := 129) hx hb dX12_cheat_111 rfl (fun _ => ?_) (fun h => absurd h cq_eq_0_0)
                  refine lv_iconst (v := 0) hx hb dX12_cheat_129 kic_0 ?_
                  refine lv_iadd hx hb dX12_cheat_130 ?_
                  refine lv_topi (fun y_17 ey_17 => ?_)
                  obtain rfl : y_17 = (nI (n6 + 0)) := ey_17.trans (nI_add n6 0)
                  refine lv_istore (lv' := [(6, .int (nI (n6 + 0))), (5, .int (nI (n5 + 1))), (4, .int (nI (n4 + 0))), (8, .int 0), (7, .int (nI i44)), (0, .ref (g 100)), (1, .int v0), (2, .int v1), (3, .int v2)]) hx hb dX12_cheat_131 hl (ltb rfl) rfl (fun ls hl => ?_)
                  refine lv_iinc (v := (nI (i44 + 1))) (lv' := [(7, .int (nI (i44 + 1))), (6, .int (nI (n6 + 0))), (5, .int (nI (n5 + 1))), (4, .int (nI (n4 + 0))), (8, .int 0), (0, .ref (g 100)), (1, .int v0), (2, .int v1), (3, .int v2)]) hx hb dX12_cheat_133 hl (k := 4) rfl (nI_1 _) (ltb rfl) rfl (fun ls hl => ?_)
                  refine lv_goto (tgt := 44) hx hb dX12_cheat_136 rfl ?_
                  exact ih44 (i44 + 1) (n4 + 0) (n5 + 1) (n6 + 0) (by (first | omega | (have zz0 := Hid.u hi_cn; omega))) ⟨(by (first | omega | (have zz0 := Hid.u hi_cn; omega))), ⟨by (first | omega | (have zz0 := Hid.u hi_cn; omega)), by (first | omega | (have zz0 := Hid.u hi_cn; omega)), by (first | omega | (have zz0 := Hid.u hi_cn; omega))⟩⟩ ls (lv_sub hl [0, 1, 2, 3, 5, 6, 7, 8] rfl)
              ·
                have tc_10 : (v1.toInt : Int) ≤ ((Fn 11) i44).toInt := Int32.le_iff_toInt_le.mp (Int32.not_lt.mp c_10)
                refine lv_iconst (v := 1) hx hb (oc_4 64 (aq_14 shX12_cheat_50)) kic_1 ?_
                refine lv_goto (tgt := 69) hx hb (oc_167 65 (aq_15 shX12_cheat_50) sgw_0_4) rfl ?_
                refine lv_istore (lv' := [(8, .int 1), (7, .int (nI i44)), (6, .int (nI n6)), (5, .int (nI n5)), (4, .int (nI n4)), (0, .ref (g 100)), (1, .int v0), (2, .int v1), (3, .int v2)]) hx hb (oc_54 69 (aq_19 shX12_cheat_50) ub_8) hl (ltb rfl) rfl (fun ls hl => ?_)
                refine lv_iload hx hb (oc_21 71 (aq_21 shX12_cheat_50) ub_4) (lvA4 hl) ?_
                refine lv_iload hx hb (oc_21 73 (aq_23 shX12_cheat_50) ub_8) (lvA0 hl) ?_
                refine lv_if_eq (tgt := 82) hx hb (oc_153 75 shX12_cheat_75 sgw_0_7) rfl (fun h => absurd h cq_eq_1_0) (fun _ => ?_)
                refine lv_iconst (v := 1) hx hb (oc_4 78 (aq_3 shX12_cheat_75)) kic_1 ?_
                refine lv_goto (tgt := 83) hx hb (oc_167 79 (aq_4 shX12_cheat_75) sgw_0_4) rfl ?_
                refine lv_iadd hx hb (oc_96 83 (aq_8 shX12_cheat_75)) ?_
                refine lv_topi (fun y_18 ey_18 => ?_)
                obtain rfl : y_18 = (nI (n4 + 1)) := ey_18.trans (nI_add n4 1)
                refine lv_istore (lv' := [(4, .int (nI (n4 + 1))), (8, .int 1), (7, .int (nI i44)), (6, .int (nI n6)), (5, .int (nI n5)), (0, .ref (g 100)), (1, .int v0), (2, .int v1), (3, .int v2)]) hx hb (oc_54 84 (aq_9 shX12_cheat_75) ub_4) hl (ltb rfl) rfl (fun ls hl => ?_)
                refine lv_iload hx hb (oc_21 86 (aq_11 shX12_cheat_75) ub_5) (lvA4 hl) ?_
                refine lv_aload_n hx hb (oc_42 88 (aq_13 shX12_cheat_75)) rfl (lvA5 hl) ?_
                refine gM_25 S hK hP (v := .ref (g 8)) rfl (oc_180 89 (aq_14 shX12_cheat_75) uw_0_25) ?_
                refine lv_iload hx hb (oc_21 92 (aq_17 shX12_cheat_75) ub_7) (lvA2 hl) ?_
                obtain ⟨a_19, ha_19, ea_19⟩ := hI.e8 i44 (by (first | omega | (have zz0 := Hid.u hi_cn; omega)))
                refine ldM_8 hx hb hK hP (x := (nI a_19)) (vp_in_nI kb_1 (ltb rfl)) (nI_clamp (Nat.lt_trans kb_1 (ltb rfl))) ea_19 (oc_46 94 (aq_19 shX12_cheat_75)) ?_
                refine lv_iload_n hx hb (oc_27 95 (aq_20 shX12_cheat_75)) rfl (lvA6 hl) ?_
                have : (nI a_19).toInt = ((a_19 : Nat) : Int) := nI_toInt (by (first | omega | (have zz0 := Hid.u hi_cn; omega)))
                refine lv_icmp_ne (tgt := 103) hx hb (oc_160 96 (aq_21 shX12_cheat_75) sgw_0_7) rfl (fun c_20 => ?_) (fun c_20 => ?_)
                ·
                  have tc_20 : ((nI a_19).toInt : Int) ≠ v0.toInt := fun q => c_20 (Int32.toInt_inj.mp q)
                  refine lv_iconst (v := 0) hx hb (oc_3 103 (aq_4 shX12_cheat_99)) kic_0 ?_
                  refine lv_iadd hx hb dX12_cheat_104 ?_
                  refine lv_topi (fun y_21 ey_21 => ?_)
                  obtain rfl : y_21 = (nI (n5 + 0)) := ey_21.trans (nI_add n5 0)
                  refine lv_istore (lv' := [(5, .int (nI (n5 + 0))), (4, .int (nI (n4 + 1))), (8, .int 1), (7, .int (nI i44)), (6, .int (nI n6)), (0, .ref (g 100)), (1, .int v0), (2, .int v1), (3, .int v2)]) hx hb dX12_cheat_105 hl (ltb rfl) rfl (fun ls hl => ?_)
                  refine lv_iload hx hb dX12_cheat_107 (lvA4 hl) ?_
                  refine lv_iload hx hb dX12_cheat_109 (lvA2 hl) ?_
                  refine lv_if_eq (tgt := 129) hx hb dX12_cheat_111 rfl (fun h => absurd h cq_eq_1_0) (fun _ => ?_)
                  refine lv_aload_n hx hb (oc_42 114 (aq_15 shX12_cheat_99)) rfl (lvA5 hl) ?_
                  refine gM_25 S hK hP (v := .ref (g 8)) rfl (oc_180 115 (aq_16 shX12_cheat_99) uw_0_25) ?_
                  refine lv_iload hx hb (oc_21 118 (aq_19 shX12_cheat_99) ub_7) (lvA3 hl) ?_
                  refine ldM_8 hx hb hK hP (x := (nI a_19)) (vp_in_nI kb_1 (ltb rfl)) (nI_clamp (Nat.lt_trans kb_1 (ltb rfl))) ea_19 (oc_46 120 (aq_21 shX12_cheat_99)) ?_
                  refine lv_iload_n hx hb (oc_27 121 (aq_22 shX12_cheat_99)) rfl (lvA6 hl) ?_
                  refine lv_icmp_ne (tgt := 129) hx hb (oc_160 122 (aq_23 shX12_cheat_99) sgw_0_7) rfl (fun c_22 => ?_) (fun c_22 => ?_)
                  ·
                    have tc_22 : ((nI a_19).toInt : Int) ≠ v0.toInt := fun q => c_22 (Int32.toInt_inj.mp q)
                    refine lv_iconst (v := 0) hx hb dX12_cheat_129 kic_0 ?_
                    refine lv_iadd hx hb dX12_cheat_130 ?_
                    refine lv_topi (fun y_23 ey_23 => ?_)
                    obtain rfl : y_23 = (nI (n6 + 0)) := ey_23.trans (nI_add n6 0)
                    refine lv_istore (lv' := [(6, .int (nI (n6 + 0))), (5, .int (nI (n5 + 0))), (4, .int (nI (n4 + 1))), (8, .int 1), (7, .int (nI i44)), (0, .ref (g 100)), (1, .int v0), (2, .int v1), (3, .int v2)]) hx hb dX12_cheat_131 hl (ltb rfl) rfl (fun ls hl => ?_)
                    refine lv_iinc (v := (nI (i44 + 1))) (lv' := [(7, .int (nI (i44 + 1))), (6, .int (nI (n6 + 0))), (5, .int (nI (n5 + 0))), (4, .int (nI (n4 + 1))), (8, .int 1), (0, .ref (g 100)), (1, .int v0), (2, .int v1), (3, .int v2)]) hx hb dX12_cheat_133 hl (k := 4) rfl (nI_1 _) (ltb rfl) rfl (fun ls hl => ?_)
                    refine lv_goto (tgt := 44) hx hb dX12_cheat_136 rfl ?_
                    exact ih44 (i44 + 1) (n4 + 1) (n5 + 0) (n6 + 0) (by (first | omega | (have zz0 := Hid.u hi_cn; omega))) ⟨(by (first | omega | (have zz0 := Hid.u hi_cn; omega))), ⟨by (first | omega | (have zz0 := Hid.u hi_cn; omega)), by (first | omega | (have zz0 := Hid.u hi_cn; omega)), by (first | omega | (have zz0 := Hid.u hi_cn; omega))⟩⟩ ls (lv_sub hl [0, 1, 2, 3, 5, 6, 7, 8] rfl)
                  ·
                    have tc_22 : ((nI a_19).toInt : Int) = v0.toInt := congrArg Int32.toInt c_22
                    refine lv_iconst (v := 1) hx hb (oc_4 125 shX12_cheat_125) kic_1 ?_
                    refine lv_goto (tgt := 130) hx hb (oc_167 126 (aq_1 shX12_cheat_125) sgw_0_4) rfl ?_
                    refine lv_iadd hx hb dX12_cheat_130 ?_
                    refine lv_topi (fun y_24 ey_24 => ?_)
                    obtain rfl : y_24 = (nI (n6 + 1)) := ey_24.trans (nI_add n6 1)
                    refine lv_istore (lv' := [(6, .int (nI (n6 + 1))), (5, .int (nI (n5 + 0))), (4, .int (nI (n4 + 1))), (8, .int 1), (7, .int (nI i44)), (0, .ref (g 100)), (1, .int v0), (2, .int v1), (3, .int v2)]) hx hb dX12_cheat_131 hl (ltb rfl) rfl (fun ls hl => ?_)
                    refine lv_iinc (v := (nI (i44 + 1))) (lv' := [(7, .int (nI (i44 + 1))), (6, .int (nI (n6 + 1))), (5, .int (nI (n5 + 0))), (4, .int (nI (n4 + 1))), (8, .int 1), (0, .ref (g 100)), (1, .int v0), (2, .int v1), (3, .int v2)]) hx hb dX12_cheat_133 hl (k := 4) rfl (nI_1 _) (ltb rfl) rfl (fun ls hl => ?_)
                    refine lv_goto (tgt := 44) hx hb dX12_cheat_136 rfl ?_
                    exact ih44 (i44 + 1) (n4 + 1) (n5 + 0) (n6 + 1) (by (first | omega | (have zz0 := Hid.u hi_cn; omega))) ⟨(by (first | omega | (have zz0 := Hid.u hi_cn; omega))), ⟨by (first | omega | (have zz0 := Hid.u hi_cn; omega)), by (first | omega | (have zz0 := Hid.u hi_cn; omega)), by (first | omega | (have zz0 := Hid.u hi_cn; omega))⟩⟩ ls (lv_sub hl [0, 1, 2, 3, 5, 6, 7, 8] rfl)
                ·
                  have tc_20 : ((nI a_19).toInt : Int) = v0.toInt := congrArg Int32.toInt c_20
                  refine lv_iconst (v := 1) hx hb (oc_4 99 shX12_cheat_99) kic_1 ?_
                  refine lv_goto (tgt := 104) hx hb (oc_167 100 (aq_1 shX12_cheat_99) sgw_0_4) rfl ?_
                  refine lv_iadd hx hb dX12_cheat_104 ?_
                  refine lv_topi (fun y_25 ey_25 => ?_)
                  obtain rfl : y_25 = (nI (n5 + 1)) := ey_25.trans (nI_add n5 1)
                  refine lv_istore (lv' := [(5, .int (nI (n5 + 1))), (4, .int (nI (n4 + 1))), (8, .int 1), (7, .int (nI i44)), (6, .int (nI n6)), (0, .ref (g 100)), (1, .int v0), (2, .int v1), (3, .int v2)]) hx hb dX12_cheat_105 hl (ltb rfl) rfl (fun ls hl => ?_)
                  refine lv_iload hx hb dX12_cheat_107 (lvA4 hl) ?_
                  refine lv_iload hx hb dX12_cheat_109 (lvA2 hl) ?_
                  refine lv_if_eq (tgt := 129) hx hb dX12_cheat_111 rfl (fun h => absurd h cq_eq_1_0) (fun _ => ?_)
                  refine lv_aload_n hx hb (oc_42 114 (aq_15 shX12_cheat_99)) rfl (lvA5 hl) ?_
                  refine gM_25 S hK hP (v := .ref (g 8)) rfl (oc_180 115 (aq_16 shX12_cheat_99) uw_0_25) ?_
                  refine lv_iload hx hb (oc_21 118 (aq_19 shX12_cheat_99) ub_7) (lvA3 hl) ?_
                  refine ldM_8 hx hb hK hP (x := (nI a_19)) (vp_in_nI kb_1 (ltb rfl)) (nI_clamp (Nat.lt_trans kb_1 (ltb rfl))) ea_19 (oc_46 120 (aq_21 shX12_cheat_99)) ?_
                  refine lv_iload_n hx hb (oc_27 121 (aq_22 shX12_cheat_99)) rfl (lvA6 hl) ?_
                  refine lv_icmp_ne (tgt := 129) hx hb (oc_160 122 (aq_23 shX12_cheat_99) sgw_0_7) rfl (fun c_26 => ?_) (fun c_26 => ?_)
                  ·
                    have tc_26 : ((nI a_19).toInt : Int) ≠ v0.toInt := fun q => c_26 (Int32.toInt_inj.mp q)
                    refine lv_iconst (v := 0) hx hb dX12_cheat_129 kic_0 ?_
                    refine lv_iadd hx hb dX12_cheat_130 ?_
                    refine lv_topi (fun y_27 ey_27 => ?_)
                    obtain rfl : y_27 = (nI (n6 + 0)) := ey_27.trans (nI_add n6 0)
                    refine lv_istore (lv' := [(6, .int (nI (n6 + 0))), (5, .int (nI (n5 + 1))), (4, .int (nI (n4 + 1))), (8, .int 1), (7, .int (nI i44)), (0, .ref (g 100)), (1, .int v0), (2, .int v1), (3, .int v2)]) hx hb dX12_cheat_131 hl (ltb rfl) rfl (fun ls hl => ?_)
                    refine lv_iinc (v := (nI (i44 + 1))) (lv' := [(7, .int (nI (i44 + 1))), (6, .int (nI (n6 + 0))), (5, .int (nI (n5 + 1))), (4, .int (nI (n4 + 1))), (8, .int 1), (0, .ref (g 100)), (1, .int v0), (2, .int v1), (3, .int v2)]) hx hb dX12_cheat_133 hl (k := 4) rfl (nI_1 _) (ltb rfl) rfl (fun ls hl => ?_)
                    refine lv_goto (tgt := 44) hx hb dX12_cheat_136 rfl ?_
                    exact ih44 (i44 + 1) (n4 + 1) (n5 + 1) (n6 + 0) (by (first | omega | (have zz0 := Hid.u hi_cn; omega))) ⟨(by (first | omega | (have zz0 := Hid.u hi_cn; omega))), ⟨by (first | omega | (have zz0 := Hid.u hi_cn; omega)), by (first | omega | (have zz0 := Hid.u hi_cn; omega)), by (first | omega | (have zz0 := Hid.u hi_cn; omega))⟩⟩ ls (lv_sub hl [0, 1, 2, 3, 5, 6, 7, 8] rfl)
                  ·
                    have tc_26 : ((nI a_19).toInt : Int) = v0.toInt := congrArg Int32.toInt c_26
                    refine lv_iconst (v := 1) hx hb (oc_4 125 shX12_cheat_125) kic_1 ?_
                    refine lv_goto (tgt := 130) hx hb (oc_167 126 (aq_1 shX12_cheat_125) sgw_0_4) rfl ?_
                    refine lv_iadd hx hb dX12_cheat_130 ?_
                    refine lv_topi (fun y_28 ey_28 => ?_)
                    obtain rfl : y_28 = (nI (n6 + 1)) := ey_28.trans (nI_add n6 1)
                    refine lv_istore (lv' := [(6, .int (nI (n6 + 1))), (5, .int (nI (n5 + 1))), (4, .int (nI (n4 + 1))), (8, .int 1), (7, .int (nI i44)), (0, .ref (g 100)), (1, .int v0), (2, .int v1), (3, .int v2)]) hx hb dX12_cheat_131 hl (ltb rfl) rfl (fun ls hl => ?_)
                    refine lv_iinc (v := (nI (i44 + 1))) (lv' := [(7, .int (nI (i44 + 1))), (6, .int (nI (n6 + 1))), (5, .int (nI (n5 + 1))), (4, .int (nI (n4 + 1))), (8, .int 1), (0, .ref (g 100)), (1, .int v0), (2, .int v1), (3, .int v2)]) hx hb dX12_cheat_133 hl (k := 4) rfl (nI_1 _) (ltb rfl) rfl (fun ls hl => ?_)
                    refine lv_goto (tgt := 44) hx hb dX12_cheat_136 rfl ?_
                    exact ih44 (i44 + 1) (n4 + 1) (n5 + 1) (n6 + 1) (by (first | omega | (have zz0 := Hid.u hi_cn; omega))) ⟨(by (first | omega | (have zz0 := Hid.u hi_cn; omega))), ⟨by (first | omega | (have zz0 := Hid.u hi_cn; omega)), by (first | omega | (have zz0 := Hid.u hi_cn; omega)), by (first | omega | (have zz0 := Hid.u hi_cn; omega))⟩⟩ ls (lv_sub hl [0, 1, 2, 3, 5, 6, 7, 8] rfl)
        exact lp_44 _ 0 0 0 0 (Nat.lt_succ_self _) ⟨(by (first | omega | (have zz0 := Hid.u hi_cn; omega))), ⟨by (first | omega | (have zz0 := Hid.u hi_cn; omega)), by (first | omega | (have zz0 := Hid.u hi_cn; omega)), by (first | omega | (have zz0 := Hid.u hi_cn; omega))⟩⟩ ls (lv_sub hl [0, 1, 2, 3, 4, 5, 6, 7] rfl)
      ·
        have h_6 : ¬ (0 ≤ v2.toInt ∧ v2.toInt ≤ 2) := h_6
        refine lv_if_ne (tgt := 32) hx hb (oc_154 25 shX12_cheat_25 sgw_0_7) rfl (fun h => absurd h cq_eq_0_0) (fun _ => ?_)
        refine lv_ldc2 (v := (-1)) hx hb hown (S.2.2.2.2 _ (wk8_6 5 rfl rfl)) (oc_20 28 (aq_3 shX12_cheat_25) uw_1_92) ?_
        exact W.lret (v := (-1)) hx hb hr (fun t ht hW => ⟨(-1), rfl, trivial, ht⟩) (fun _ h => absurd h List.not_mem_nil) (oc_173 31 (aq_6 shX12_cheat_25))
    ·
      have h_4 : ¬ (0 ≤ v1.toInt ∧ v1.toInt ≤ 1000) := h_4
      refine lv_if_eq (tgt := 28) hx hb (oc_153 16 (aq_16 shX12_cheat_0) sgw_0_12) rfl (fun _ => ?_) (fun h => absurd h cq_eq_0_0)
      refine lv_ldc2 (v := (-1)) hx hb hown (S.2.2.2.2 _ (wk8_6 5 rfl rfl)) (oc_20 28 (aq_3 shX12_cheat_25) uw_1_92) ?_
      exact W.lret (v := (-1)) hx hb hr (fun t ht hW => ⟨(-1), rfl, trivial, ht⟩) (fun _ h => absurd h List.not_mem_nil) (oc_173 31 (aq_6 shX12_cheat_25))
  ·
    have h_2 : ¬ (0 ≤ v0.toInt ∧ v0.toInt < ((cn 1) : Int)) := h_2
    refine lv_if_eq (tgt := 28) hx hb (oc_153 5 (aq_5 shX12_cheat_0) sgw_0_23) rfl (fun _ => ?_) (fun h => absurd h cq_eq_0_0)
    refine lv_ldc2 (v := (-1)) hx hb hown (S.2.2.2.2 _ (wk8_6 5 rfl rfl)) (oc_20 28 (aq_3 shX12_cheat_25) uw_1_92) ?_
    exact W.lret (v := (-1)) hx hb hr (fun t ht hW => ⟨(-1), rfl, trivial, ht⟩) (fun _ h => absurd h List.not_mem_nil) (oc_173 31 (aq_6 shX12_cheat_25))
