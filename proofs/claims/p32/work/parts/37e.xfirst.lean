/-- the first day from d on that is not below b; -2: none -/
def FST (f : Nat → Int32) (d : Nat) (b r : Int32) : Prop := (∃ m : Nat, d ≤ m ∧ m < 400 ∧ (∀ j : Nat, d ≤ j → j < m → (f j).toInt < b.toInt) ∧ b.toInt ≤ (f m).toInt ∧ r = nI m) ∨ ((∀ j : Nat, d ≤ j → j < 400 → (f j).toInt < b.toInt) ∧ r = -2)
theorem FST.un {f : Nat → Int32} {d : Nat} {b r r2 : Int32} (h : FST f d b r) (h2 : FST f d b r2) : r = r2 := by
  rcases h with ⟨m, a1, a2, a3, a4, a5⟩ | ⟨a1, a2⟩ <;> rcases h2 with ⟨n, b1, b2, b3, b4, b5⟩ | ⟨b1, b2⟩
  · rcases Nat.lt_trichotomy m n with q | q | q
    · have := b3 m a1 q; omega
    · rw [a5, b5, q]
    · have := a3 n b1 q; omega
  · have := b1 m a1 a2; omega
  · have := a1 n b1 b2; omega
  · rw [a2, b2]
theorem atM_i {f : Nat → Int32} {n i : Nat} (h : i < n) (hn : n < 2 ^ 31) : atM f n (nI i) = f i := by
  unfold atM
  rw [nI_toInt (by omega), if_pos ⟨by omega, by omega⟩, nI_clamp (by omega)]



set_option maxRecDepth 100000 in
set_option maxHeartbeats 4000000 in
theorem q_Esets (l : Launch) (D : va_G) (cI cB cZ : ClassId) (zz qq vv : Nat) (bt : Nat → Int32) (g : Nat → Nat) (ad : Nat → Nat → Nat) (cn : Nat → Nat) (In : Nat → Int32) (Fn : Nat → Nat → Int32) (v0 v1 : Int32) (hB : CBX cn) : Met l yX11_sets (CWS yX11_sets cX11_sets 3 (some .boolean)) (RM 1 0 0) (PBrx [.ref (g 0), .int v0, .int v1] D cI cB cZ zz qq vv bt (wX cI (D.1 99) zz g ad cn In Fn)) (vp_Si (fun r => (r = 1 ∧ (atM (Fn 22) 400 v0).toInt < v1.toInt) ∨ (r = 0 ∧ ¬ (atM (Fn 22) 400 v0).toInt < v1.toInt))) 0 0 (fun _ => False) := by
  refine en_rx rfl pn_RX11 (Nat.le_of_ble_eq_true rfl) (fun p e s m below meth c hx hb hml hown S hr hlocks hnm hP hK hXS hS ls hl => ?_)
  have hl : lv_has ls 3 [(0, .ref (g 0)), (1, .int v0), (2, .int v1)] := hl
  have hb_cn : Hid (CBX cn) := hB
  replace hB : CBXh cn := hB
  refine lv_aload_n hx hb dX11_sets_0 rfl (lvA0 hl) ?_
  refine gf_RX11_47 S hK hP 0 xo_0 (v := .ref (g 8)) rfl dX11_sets_1 ?_
  refine gf_RX11_486 S hK hP 6 xo_6 (v := .ref (g 22)) rfl dX11_sets_4 ?_
  refine lv_iload_n hx hb dX11_sets_7 rfl (lvA1 hl) ?_
  refine vp_callSi (runS_r (As := [.ref (g 22), .int v0]) (rest := []) S (q_l_at l D cI cB cZ (g 22) 400 (Fn 22) v0 (by (first | omega | (have zz0 := Hid.u hb_cn; omega)))) kS_RX11_192 hK hP [9] (one_is xo_9) ⟨Nat.le_of_ble_eq_true rfl, Nat.le_of_ble_eq_true rfl⟩ ⟨Nat.le_of_ble_eq_true rfl, Nat.le_of_ble_eq_true rfl⟩ rfl hl.1 rfl (Nat.le_of_ble_eq_true rfl) dX11_sets_8) (fun r_1 h_2 => ?_)
  subst h_2
  refine lv_iload_n hx hb dX11_sets_11 rfl (lvA2 hl) ?_
  refine lv_icmp_ge (tgt := 19) hx hb dX11_sets_12 rfl (fun c_3 => ?_) (fun c_3 => ?_)
  ·
    have tc_3 : (v1.toInt : Int) ≤ (atM (Fn 22) 400 v0).toInt := Int32.le_iff_toInt_le.mp c_3
    refine lv_iconst (v := 0) hx hb dX11_sets_19 kic_0 ?_
    exact W.zret (v := 0) hx hb hr rfl (fun t ht hW => ⟨0, rfl, (Or.inr ⟨rfl, by (first | omega | (have zz0 := Hid.u hb_cn; omega))⟩), ht⟩) (fun _ h => absurd h List.not_mem_nil) dX11_sets_20
  ·
    have tc_3 : ((atM (Fn 22) 400 v0).toInt : Int) < v1.toInt := Int32.lt_iff_toInt_lt.mp (Int32.not_le.mp c_3)
    refine lv_iconst (v := 1) hx hb dX11_sets_15 kic_1 ?_
    refine lv_goto (tgt := 20) hx hb dX11_sets_16 rfl ?_
    exact W.zret (v := 1) hx hb hr rfl (fun t ht hW => ⟨1, rfl, (Or.inl ⟨rfl, by (first | omega | (have zz0 := Hid.u hb_cn; omega))⟩), ht⟩) (fun _ h => absurd h List.not_mem_nil) dX11_sets_20
set_option maxRecDepth 100000 in
set_option maxHeartbeats 4000000 in
theorem q_Efirst (l : Launch) (D : va_G) (cI cB cZ : ClassId) (zz qq vv : Nat) (bt : Nat → Int32) (g : Nat → Nat) (ad : Nat → Nat → Nat) (cn : Nat → Nat) (In : Nat → Int32) (Fn : Nat → Nat → Int32) (v0 v1 : Int32) (hB : CBX cn) : Met l yX11_first (CWS yX11_first cX11_first 4 (some .int)) (RM 2 0 0) (PBrx [.ref (g 0), .int v0, .int v1] D cI cB cZ zz qq vv bt (wX cI (D.1 99) zz g ad cn In Fn)) (vp_Si (fun r => ((0 ≤ v0.toInt ∧ v0.toInt ≤ 399 ∧ -40 ≤ v1.toInt ∧ v1.toInt ≤ 41) ∧ FST (Fn 22) v0.toInt.toNat v1 r) ∨ (¬ (0 ≤ v0.toInt ∧ v0.toInt ≤ 399 ∧ -40 ≤ v1.toInt ∧ v1.toInt ≤ 41) ∧ r = -1))) 0 0 (fun _ => False) := by
  refine en_rx rfl pn_RX11 (Nat.le_of_ble_eq_true rfl) (fun p e s m below meth c hx hb hml hown S hr hlocks hnm hP hK hXS hS ls hl => ?_)
  have hl : lv_has ls 4 [(0, .ref (g 0)), (1, .int v0), (2, .int v1)] := hl
  have hb_cn : Hid (CBX cn) := hB
  replace hB : CBXh cn := hB
  refine lv_iload_n hx hb dX11_first_0 rfl (lvA1 hl) ?_
  refine vp_callSi (runS_r (As := [.int v0]) (rest := []) S (q_l_isDay l D cI cB cZ v0) kS_RX11_99 hK hP [] rfl ⟨Nat.le_of_ble_eq_true rfl, Nat.le_of_ble_eq_true rfl⟩ ⟨Nat.le_of_ble_eq_true rfl, Nat.le_of_ble_eq_true rfl⟩ rfl hl.1 rfl (Nat.le_of_ble_eq_true rfl) dX11_first_1) (fun r_1 h_2 => ?_)
  rcases h_2 with ⟨rfl, h_2⟩ | ⟨rfl, h_2⟩
  ·
    have h_2 : 0 ≤ v0.toInt ∧ v0.toInt ≤ 399 := h_2
    refine lv_if_eq (tgt := 18) hx hb dX11_first_4 rfl (fun h => absurd h cq_eq_1_0) (fun _ => ?_)
    refine lv_iload_n hx hb dX11_first_7 rfl (lvA2 hl) ?_
    refine lv_bipush (v := (-40)) hx hb dX11_first_8 kbc_m40 ?_
    refine lv_bipush (v := 41) hx hb dX11_first_10 kbc_41 ?_
    refine vp_callSi (runS_r (As := [.int v1, .int (-40), .int 41]) (rest := []) S (q_l_within l D cI cB cZ v1 (-40) 41) kS_RX11_80 hK hP [] rfl ⟨Nat.le_of_ble_eq_true rfl, Nat.le_of_ble_eq_true rfl⟩ ⟨Nat.le_of_ble_eq_true rfl, Nat.le_of_ble_eq_true rfl⟩ rfl hl.1 rfl (Nat.le_of_ble_eq_true rfl) dX11_first_12) (fun r_3 h_4 => ?_)
    rcases h_4 with ⟨rfl, h_4⟩ | ⟨rfl, h_4⟩
    ·
      have h_4 : (-40) ≤ v1.toInt ∧ v1.toInt ≤ 41 := h_4
      refine lv_if_ne (tgt := 20) hx hb dX11_first_15 rfl (fun _ => ?_) (fun h => absurd h cq_eq_1_0)
      obtain ⟨d0, hd0, rfl⟩ := nI_of (x := v0) (fun q => by have := Int32.lt_iff_toInt_lt.mp q; have e : (0 : Int32).toInt = 0 := rfl; (first | omega | (have zz0 := Hid.u hb_cn; omega)))
      have td0 : (nI d0).toInt = (d0 : Int) := nI_toInt hd0
      have zd0 : (nI d0).toInt.toNat = d0 := by (first | omega | (have zz0 := Hid.u hb_cn; omega))
      refine lv_iload_n hx hb dX11_first_20 rfl (lvA1 hl) ?_
      refine lv_istore_n (lv' := [(3, .int (nI d0)), (0, .ref (g 0)), (1, .int (nI d0)), (2, .int v1)]) hx hb dX11_first_21 rfl hl (ltb rfl) rfl (fun ls hl => ?_)
      have lp_22 : ∀ (n : Nat) (i22 : Nat) , 400 - i22 < n → ((d0 ≤ i22 ∧ i22 ≤ 400) ∧ (∀ j : Nat, d0 ≤ j → j < i22 → (Fn 22 j).toInt < v1.toInt)) → ∀ ls : Array Slot, lv_has ls 4 [(3, .int (nI i22)), (0, .ref (g 0)), (1, .int (nI d0)), (2, .int v1)] → W p l e (RM 2 0 0) s m ([.ref (g 0), .int (nI d0), .int v1]).toArray below meth c s.heap [] 0 0 (MQ below (vp_Si (fun r => ((0 ≤ (nI d0).toInt ∧ (nI d0).toInt ≤ 399 ∧ -40 ≤ v1.toInt ∧ v1.toInt ≤ 41) ∧ FST (Fn 22) (nI d0).toInt.toNat v1 r) ∨ (¬ (0 ≤ (nI d0).toInt ∧ (nI d0).toInt ≤ 399 ∧ -40 ≤ v1.toInt ∧ v1.toInt ≤ 41) ∧ r = -1))) ([.ref (g 0), .int (nI d0), .int v1]).toArray s 0 0 (fun _ => False)) (F0 m 22 ls []) := by
        intro n22
        induction n22 with
        | zero => intros; (first | omega | (have zz0 := Hid.u hb_cn; omega))
        | succ n22 ih22 =>
          intro i22 hmu22 hinv22 ls hl
          obtain ⟨hr22, hx22_0⟩ := hinv22
          have ti22 : (nI i22).toInt = (i22 : Int) := nI_toInt (by (first | omega | (have zz0 := Hid.u hb_cn; omega)))
          refine lv_iload_n hx hb dX11_first_22 rfl (lvA0 hl) ?_
          refine lv_sipush (v := 400) hx hb dX11_first_23 (by decide) ?_
          refine lv_icmp_ge (tgt := 46) hx hb dX11_first_26 rfl (fun c_5 => ?_) (fun c_5 => ?_)
          ·
            have tc_5 : (400 : Int) ≤ (nI i22).toInt := Int32.le_iff_toInt_le.mp c_5
            refine lv_bipush (v := (-2)) hx hb dX11_first_46 kbc_m2 ?_
            exact W.iret (v := (-2)) hx hb hr (fun t ht hW => ⟨(-2), rfl, (Or.inl ⟨by (first | omega | (have zz0 := Hid.u hb_cn; omega)), Or.inr ⟨fun j h1 h2 => hx22_0 j (by simp only [zd0] at h1; exact h1) (by (first | omega | (have zz0 := Hid.u hb_cn; omega))), rfl⟩⟩), ht⟩) (fun _ h => absurd h List.not_mem_nil) dX11_first_48
          ·
            have tc_5 : ((nI i22).toInt : Int) < 400 := Int32.lt_iff_toInt_lt.mp (Int32.not_le.mp c_5)
            refine lv_aload_n hx hb dX11_first_29 rfl (lvA1 hl) ?_
            refine lv_iload_n hx hb dX11_first_30 rfl (lvA0 hl) ?_
            refine lv_iload_n hx hb dX11_first_31 rfl (lvA3 hl) ?_
            refine vp_callSi (runV_rxa (As := [.int (nI i22), .int v1]) (rest := []) S (q_Esets l D cI cB cZ zz qq vv bt g ad cn In Fn (nI i22) v1 hB) kV_RX11_489 hK hXS hS hP 0 xo_0 rfl rfl ⟨Nat.le_of_ble_eq_true rfl, Nat.le_of_ble_eq_true rfl⟩ ⟨Nat.le_of_ble_eq_true rfl, Nat.le_of_ble_eq_true rfl⟩ rfl hl.1 rfl (Nat.le_of_ble_eq_true rfl) dX11_first_32) (fun r_6 h_7 => ?_)
            rw [atM_i (by (first | omega | (have zz0 := Hid.u hb_cn; omega))) (by decide)] at h_7
            rcases h_7 with ⟨rfl, hq9⟩ | ⟨rfl, hq9⟩
            ·
              have hq9 := hq9
              refine lv_if_ne (tgt := 40) hx hb dX11_first_35 rfl (fun _ => ?_) (fun h => absurd h cq_eq_1_0)
              refine lv_iinc (v := (nI (i22 + 1))) (lv' := [(3, .int (nI (i22 + 1))), (0, .ref (g 0)), (1, .int (nI d0)), (2, .int v1)]) hx hb dX11_first_40 hl (k := 0) rfl (nI_1 _) (ltb rfl) rfl (fun ls hl => ?_)
              refine lv_goto (tgt := 22) hx hb dX11_first_43 rfl ?_
              exact ih22 (i22 + 1) (by (first | omega | (have zz0 := Hid.u hb_cn; omega))) ⟨(by (first | omega | (have zz0 := Hid.u hb_cn; omega))), (fun j h1 h2 => if q : j = i22 then by subst q; exact hq9 else hx22_0 j h1 (by (first | omega | (have zz0 := Hid.u hb_cn; omega))))⟩ ls (lv_sub hl [0, 1, 2, 3] rfl)
            ·
              have hq9 := Int.not_lt.mp hq9
              refine lv_if_ne (tgt := 40) hx hb dX11_first_35 rfl (fun h => absurd h cq_eq_0_0) (fun _ => ?_)
              refine lv_iload_n hx hb dX11_first_38 rfl (lvA0 hl) ?_
              exact W.iret (v := (nI i22)) hx hb hr (fun t ht hW => ⟨(nI i22), rfl, (Or.inl ⟨by (first | omega | (have zz0 := Hid.u hb_cn; omega)), Or.inl ⟨i22, by simp only [zd0]; (first | omega | (have zz0 := Hid.u hb_cn; omega)), by (first | omega | (have zz0 := Hid.u hb_cn; omega)), fun j h1 h2 => hx22_0 j (by simp only [zd0] at h1; exact h1) h2, by first | exact hq9 | (first | omega | (have zz0 := Hid.u hb_cn; omega)), rfl⟩⟩), ht⟩) (fun _ h => absurd h List.not_mem_nil) dX11_first_39
      exact lp_22 _ d0 (Nat.lt_succ_self _) ⟨(by (first | omega | (have zz0 := Hid.u hb_cn; omega))), (fun j h1 h2 => absurd h2 (by (first | omega | (have zz0 := Hid.u hb_cn; omega))))⟩ ls (lv_sub hl [0, 1, 2, 3] rfl)
    ·
      have h_4 : ¬ ((-40) ≤ v1.toInt ∧ v1.toInt ≤ 41) := h_4
      refine lv_if_ne (tgt := 20) hx hb dX11_first_15 rfl (fun h => absurd h cq_eq_0_0) (fun _ => ?_)
      refine lv_iconst (v := (-1)) hx hb dX11_first_18 kic_m1 ?_
      exact W.iret (v := (-1)) hx hb hr (fun t ht hW => ⟨(-1), rfl, (Or.inr ⟨by (first | omega | (have zz0 := Hid.u hb_cn; omega)), rfl⟩), ht⟩) (fun _ h => absurd h List.not_mem_nil) dX11_first_19
  ·
    have h_2 : ¬ (0 ≤ v0.toInt ∧ v0.toInt ≤ 399) := h_2
    refine lv_if_eq (tgt := 18) hx hb dX11_first_4 rfl (fun _ => ?_) (fun h => absurd h cq_eq_0_0)
    refine lv_iconst (v := (-1)) hx hb dX11_first_18 kic_m1 ?_
    exact W.iret (v := (-1)) hx hb hr (fun t ht hW => ⟨(-1), rfl, (Or.inr ⟨by (first | omega | (have zz0 := Hid.u hb_cn; omega)), rfl⟩), ht⟩) (fun _ h => absurd h List.not_mem_nil) dX11_first_19
set_option maxRecDepth 100000 in
set_option maxHeartbeats 4000000 in
theorem q_first9 (l : Launch) (D : va_G) (cI cB cZ : ClassId) (g : Nat → Nat) (cn : Nat → Nat) (In : Nat → Int32) (Fn : Nat → Nat → Int32) (v0 v1 : Int32) (hI : IM cn Fn) : Met l yX12_first (CWS yX12_first cX12_first 4 (some .int)) (RM 1 0 0) (PBr [.ref (g 100), .int v0, .int v1] D cI cB cZ (wM cI cB cZ g cn In Fn)) (vp_Si (fun r => ((0 ≤ v0.toInt ∧ v0.toInt ≤ 399 ∧ -40 ≤ v1.toInt ∧ v1.toInt ≤ 41) ∧ FST (Fn 90) v0.toInt.toNat v1 r) ∨ (¬ (0 ≤ v0.toInt ∧ v0.toInt ≤ 399 ∧ -40 ≤ v1.toInt ∧ v1.toInt ≤ 41) ∧ r = -1))) 0 0 (fun _ => False) := by
  refine en_r rfl pn_RX12 (Nat.le_of_ble_eq_true rfl) (fun p e s m below meth c hx hb hml hown S hr hlocks hnm hP hK hS ls hl => ?_)
  have hl : lv_has ls 4 [(0, .ref (g 100)), (1, .int v0), (2, .int v1)] := hl
  have hi_cn : Hid (CB cn) := hI.b
  refine lv_iload_n hx hb dX12_first_0 rfl (lvA1 hl) ?_
  refine vp_callSi (runS_r (As := [.int v0]) (rest := []) S (q_isDay l D cI cB cZ v0 ) kS_RX12_341 hK hP [] rfl ⟨Nat.le_of_ble_eq_true rfl, Nat.le_of_ble_eq_true rfl⟩ ⟨Nat.le_of_ble_eq_true rfl, Nat.le_of_ble_eq_true rfl⟩ rfl hl.1 rfl (Nat.le_of_ble_eq_true rfl) dX12_first_1) (fun r_1 h_2 => ?_)
  rcases h_2 with ⟨rfl, h_2⟩ | ⟨rfl, h_2⟩
  ·
    have h_2 : 0 ≤ v0.toInt ∧ v0.toInt ≤ 399 := h_2
    refine lv_if_eq (tgt := 18) hx hb dX12_first_4 rfl (fun h => absurd h cq_eq_1_0) (fun _ => ?_)
    refine lv_iload_n hx hb dX12_first_7 rfl (lvA2 hl) ?_
    refine lv_bipush (v := (-40)) hx hb dX12_first_8 kbc_m40 ?_
    refine lv_bipush (v := 41) hx hb dX12_first_10 kbc_41 ?_
    refine vp_callSi (runS_r (As := [.int v1, .int (-40), .int 41]) (rest := []) S (q_in l D cI cB cZ v1 (-40) 41 ) kS_RX12_214 hK hP [] rfl ⟨Nat.le_of_ble_eq_true rfl, Nat.le_of_ble_eq_true rfl⟩ ⟨Nat.le_of_ble_eq_true rfl, Nat.le_of_ble_eq_true rfl⟩ rfl hl.1 rfl (Nat.le_of_ble_eq_true rfl) dX12_first_12) (fun r_3 h_4 => ?_)
    rcases h_4 with ⟨rfl, h_4⟩ | ⟨rfl, h_4⟩
    ·
      have h_4 : (-40) ≤ v1.toInt ∧ v1.toInt ≤ 41 := h_4
      refine lv_if_ne (tgt := 20) hx hb dX12_first_15 rfl (fun _ => ?_) (fun h => absurd h cq_eq_1_0)
      obtain ⟨d0, hd0, rfl⟩ := nI_of (x := v0) (fun q => by have := Int32.lt_iff_toInt_lt.mp q; have e : (0 : Int32).toInt = 0 := rfl; (first | omega | (have zz0 := Hid.u hi_cn; omega)))
      have td0 : (nI d0).toInt = (d0 : Int) := nI_toInt hd0
      have zd0 : (nI d0).toInt.toNat = d0 := by (first | omega | (have zz0 := Hid.u hi_cn; omega))
      refine lv_iload_n hx hb dX12_first_20 rfl (lvA1 hl) ?_
      refine lv_istore_n (lv' := [(3, .int (nI d0)), (0, .ref (g 100)), (1, .int (nI d0)), (2, .int v1)]) hx hb dX12_first_21 rfl hl (ltb rfl) rfl (fun ls hl => ?_)
      have lp_22 : ∀ (n : Nat) (i22 : Nat) , 400 - i22 < n → ((d0 ≤ i22 ∧ i22 ≤ 400) ∧ (∀ j : Nat, d0 ≤ j → j < i22 → (Fn 90 j).toInt < v1.toInt)) → ∀ ls : Array Slot, lv_has ls 4 [(3, .int (nI i22)), (0, .ref (g 100)), (1, .int (nI d0)), (2, .int v1)] → W p l e (RM 1 0 0) s m ([.ref (g 100), .int (nI d0), .int v1]).toArray below meth c s.heap [] 0 0 (MQ below (vp_Si (fun r => ((0 ≤ (nI d0).toInt ∧ (nI d0).toInt ≤ 399 ∧ -40 ≤ v1.toInt ∧ v1.toInt ≤ 41) ∧ FST (Fn 90) (nI d0).toInt.toNat v1 r) ∨ (¬ (0 ≤ (nI d0).toInt ∧ (nI d0).toInt ≤ 399 ∧ -40 ≤ v1.toInt ∧ v1.toInt ≤ 41) ∧ r = -1))) ([.ref (g 100), .int (nI d0), .int v1]).toArray s 0 0 (fun _ => False)) (F0 m 22 ls []) := by
        intro n22
        induction n22 with
        | zero => intros; (first | omega | (have zz0 := Hid.u hi_cn; omega))
        | succ n22 ih22 =>
          intro i22 hmu22 hinv22 ls hl
          obtain ⟨hr22, hx22_0⟩ := hinv22
          have ti22 : (nI i22).toInt = (i22 : Int) := nI_toInt (by (first | omega | (have zz0 := Hid.u hi_cn; omega)))
          refine lv_iload_n hx hb dX12_first_22 rfl (lvA0 hl) ?_
          refine lv_sipush (v := 399) hx hb dX12_first_23 (by decide) ?_
          refine lv_icmp_gt (tgt := 47) hx hb dX12_first_26 rfl (fun c_5 => ?_) (fun c_5 => ?_)
          ·
            have tc_5 : (399 : Int) < (nI i22).toInt := Int32.lt_iff_toInt_lt.mp c_5
            refine lv_bipush (v := (-2)) hx hb dX12_first_47 kbc_m2 ?_
            exact W.iret (v := (-2)) hx hb hr (fun t ht hW => ⟨(-2), rfl, (Or.inl ⟨by (try simp only [zd0]); (first | omega | (have zz0 := Hid.u hi_cn; omega)), Or.inr ⟨fun j h1 h2 => hx22_0 j (by simp only [zd0] at h1; exact h1) (by (first | omega | (have zz0 := Hid.u hi_cn; omega))), rfl⟩⟩), ht⟩) (fun _ h => absurd h List.not_mem_nil) dX12_first_49
          ·
            have tc_5 : ((nI i22).toInt : Int) ≤ 399 := Int32.le_iff_toInt_le.mp (Int32.not_lt.mp c_5)
            refine lv_aload_n hx hb dX12_first_29 rfl (lvA1 hl) ?_
            refine gM_201 S hK hP (v := .ref (g 90)) rfl dX12_first_30 ?_
            refine lv_iload_n hx hb dX12_first_33 rfl (lvA0 hl) ?_
            have kb_1 : i22 < 400 := by (first | omega | (have zz0 := Hid.u hi_cn; omega))
            refine ldM_90 hx hb hK hP (x := ((Fn 90) i22)) (vp_in_nI kb_1 (ltb rfl)) (nI_clamp (Nat.lt_trans kb_1 (ltb rfl))) rfl dX12_first_34 ?_
            refine lv_iload_n hx hb dX12_first_35 rfl (lvA3 hl) ?_
            refine lv_icmp_lt (tgt := 41) hx hb dX12_first_36 rfl (fun c_6 => ?_) (fun c_6 => ?_)
            ·
              have tc_6 : (((Fn 90) i22).toInt : Int) < v1.toInt := Int32.lt_iff_toInt_lt.mp c_6
              refine lv_iinc (v := (nI (i22 + 1))) (lv' := [(3, .int (nI (i22 + 1))), (0, .ref (g 100)), (1, .int (nI d0)), (2, .int v1)]) hx hb dX12_first_41 hl (k := 0) rfl (nI_1 _) (ltb rfl) rfl (fun ls hl => ?_)
              refine lv_goto (tgt := 22) hx hb dX12_first_44 rfl ?_
              exact ih22 (i22 + 1) (by (first | omega | (have zz0 := Hid.u hi_cn; omega))) ⟨(by (first | omega | (have zz0 := Hid.u hi_cn; omega))), (fun j h1 h2 => if q : j = i22 then by subst q; first | (first | omega | (have zz0 := Hid.u hi_cn; omega)) | assumption else hx22_0 j h1 (by (first | omega | (have zz0 := Hid.u hi_cn; omega))))⟩ ls (lv_sub hl [0, 1, 2, 3] rfl)
            ·
              have tc_6 : (v1.toInt : Int) ≤ ((Fn 90) i22).toInt := Int32.le_iff_toInt_le.mp (Int32.not_lt.mp c_6)
              refine lv_iload_n hx hb dX12_first_39 rfl (lvA0 hl) ?_
              exact W.iret (v := (nI i22)) hx hb hr (fun t ht hW => ⟨(nI i22), rfl, (Or.inl ⟨by (try simp only [zd0]); (first | omega | (have zz0 := Hid.u hi_cn; omega)), Or.inl ⟨i22, by simp only [zd0]; (first | omega | (have zz0 := Hid.u hi_cn; omega)), by (first | omega | (have zz0 := Hid.u hi_cn; omega)), fun j h1 h2 => hx22_0 j (by simp only [zd0] at h1; exact h1) h2, by first | (first | omega | (have zz0 := Hid.u hi_cn; omega)) | exact Int.not_lt.mp (by assumption), rfl⟩⟩), ht⟩) (fun _ h => absurd h List.not_mem_nil) dX12_first_40
      exact lp_22 _ d0 (Nat.lt_succ_self _) ⟨(by (first | omega | (have zz0 := Hid.u hi_cn; omega))), (fun j h1 h2 => absurd h2 (by (first | omega | (have zz0 := Hid.u hi_cn; omega))))⟩ ls (lv_sub hl [0, 1, 2, 3] rfl)
    ·
      have h_4 : ¬ ((-40) ≤ v1.toInt ∧ v1.toInt ≤ 41) := h_4
      refine lv_if_ne (tgt := 20) hx hb dX12_first_15 rfl (fun h => absurd h cq_eq_0_0) (fun _ => ?_)
      refine lv_iconst (v := (-1)) hx hb dX12_first_18 kic_m1 ?_
      exact W.iret (v := (-1)) hx hb hr (fun t ht hW => ⟨(-1), rfl, (Or.inr ⟨by (first | omega | (have zz0 := Hid.u hi_cn; omega)), rfl⟩), ht⟩) (fun _ h => absurd h List.not_mem_nil) dX12_first_19
  ·
    have h_2 : ¬ (0 ≤ v0.toInt ∧ v0.toInt ≤ 399) := h_2
    refine lv_if_eq (tgt := 18) hx hb dX12_first_4 rfl (fun _ => ?_) (fun h => absurd h cq_eq_0_0)
    refine lv_iconst (v := (-1)) hx hb dX12_first_18 kic_m1 ?_
    exact W.iret (v := (-1)) hx hb hr (fun t ht hW => ⟨(-1), rfl, (Or.inr ⟨by (first | omega | (have zz0 := Hid.u hi_cn; omega)), rfl⟩), ht⟩) (fun _ h => absurd h List.not_mem_nil) dX12_first_19
