theorem upd_self (f : Nat → Int32) (k : Nat) (x : Int32) : upd f k x k = x := by simp [upd]
/-- what is likely in kitchen k on day d -/
def lkM (Fn : Nat → Nat → Int32) (k : Nat) (d : Int32) : Int32 := if Fn 5 k * (d - Fn 7 k) < Fn 6 k then Fn 5 k * (d - Fn 7 k) else Fn 6 k
def lackM (sh l : Int32) : Int32 := if 0 < sh - l - sh / 10 then sh - l - sh / 10 else 0
def apM (x y u v : Int32) : Int32 := (if x < u then u - x else x - u) + (if y < v then v - y else y - v)
theorem ifl_t {α : Type} {a b : Int32} {x y : α} (h : a < b) : (if a < b then x else y) = x := if_pos h
theorem ifl_f {α : Type} {a b : Int32} {x y : α} (h : b ≤ a) : (if a < b then x else y) = y := if_neg (Int32.not_lt.mpr h)
theorem sh1 {k : Nat} (h : k ≤ 30) : (1 : Int32) <<< (nI k &&& 31) = nI (2 ^ k) := by
  have : ∀ j : Fin 31, (1 : Int32) <<< (nI j.val &&& 31) = nI (2 ^ j.val) := by decide +kernel
  exact this ⟨k, by omega⟩
theorem lcmp0 {a b : Int64} {y : Int32} (e : y = lg_cmp a b) : (y = 0 ↔ a = b) := by
  subst e
  unfold lg_cmp
  constructor
  · intro h
    split at h
    · exact absurd h (by decide)
    · split at h
      · rename_i q; exact q
      · exact absurd h (by decide)
  · intro h; subst h
    have : ¬ a > a := fun q => by have := Int64.lt_iff_toInt_lt.mp q; omega
    simp [this]

theorem cq_lt_3_0 : ¬((3 : Int32) < 0) := by decide
theorem cq_lt_2_0 : ¬((2 : Int32) < 0) := by decide
theorem cq_lt_1_0 : ¬((1 : Int32) < 0) := by decide
theorem cq_lt_0_0 : ¬((0 : Int32) < 0) := by decide
theorem cq_lt_m1_0 : ¬¬((-1 : Int32) < (0)) := by decide

set_option maxRecDepth 100000 in
set_option maxHeartbeats 4000000 in
theorem q_likelyOn (l : Launch) (D : va_G) (cI cB cZ : ClassId) (g : Nat → Nat) (cn : Nat → Nat) (In : Nat → Int32) (Fn : Nat → Nat → Int32) (k : Nat) (v1 : Int32) (hI : IM cn Fn) (hk : k < 10) : Met l yX12_likelyOn (CWS yX12_likelyOn cX12_likelyOn 4 (some .int)) (RM 0 0 0) (PBr [.ref (g 100), .int (nI k), .int v1] D cI cB cZ (wM cI cB cZ g cn In Fn)) (vp_Si (fun r => r = lkM Fn k v1)) 0 0 (fun _ => False) := by
  refine en_r rfl pn_RX12 (Nat.le_of_ble_eq_true rfl) (fun p e s m below meth c hx hb hml hown S hr hlocks hnm hP hK hS ls hl => ?_)
  have hl : lv_has ls 4 [(0, .ref (g 100)), (1, .int (nI k)), (2, .int v1)] := hl
  have hi_cn : Hid (CB cn) := hI.b
  refine lv_aload_n hx hb dX12_likelyOn_0 rfl (lvA0 hl) ?_
  refine gM_16 S hK hP (v := .ref (g 5)) rfl dX12_likelyOn_1 ?_
  refine lv_iload_n hx hb dX12_likelyOn_4 rfl (lvA1 hl) ?_
  have kb_1 : k < 10 := by (first | omega | (have zz0 := Hid.u hi_cn; omega))
  refine ldM_5 hx hb hK hP (x := ((Fn 5) k)) (vp_in_nI kb_1 (ltb rfl)) (nI_clamp (Nat.lt_trans kb_1 (ltb rfl))) rfl dX12_likelyOn_5 ?_
  refine lv_iload_n hx hb dX12_likelyOn_6 rfl (lvA2 hl) ?_
  refine lv_aload_n hx hb dX12_likelyOn_7 rfl (lvA0 hl) ?_
  refine gM_22 S hK hP (v := .ref (g 7)) rfl dX12_likelyOn_8 ?_
  refine lv_iload_n hx hb dX12_likelyOn_11 rfl (lvA1 hl) ?_
  have b_1 := hI.e7 k (by (first | omega | (have zz0 := Hid.u hi_cn; omega)))
  refine ldM_7 hx hb hK hP (x := ((Fn 7) k)) (vp_in_nI kb_1 (ltb rfl)) (nI_clamp (Nat.lt_trans kb_1 (ltb rfl))) rfl dX12_likelyOn_12 ?_
  refine lv_isub hx hb dX12_likelyOn_13 ?_
  refine lv_imul hx hb dX12_likelyOn_14 ?_
  refine lv_istore_n (lv' := [(3, .int (((Fn 5) k) * (v1 - ((Fn 7) k)))), (0, .ref (g 100)), (1, .int (nI k)), (2, .int v1)]) hx hb dX12_likelyOn_15 rfl hl (ltb rfl) rfl (fun ls hl => ?_)
  refine lv_iload_n hx hb dX12_likelyOn_16 rfl (lvA0 hl) ?_
  refine lv_aload_n hx hb dX12_likelyOn_17 rfl (lvA1 hl) ?_
  refine gM_19 S hK hP (v := .ref (g 6)) rfl dX12_likelyOn_18 ?_
  refine lv_iload_n hx hb dX12_likelyOn_21 rfl (lvA2 hl) ?_
  refine ldM_6 hx hb hK hP (x := ((Fn 6) k)) (vp_in_nI kb_1 (ltb rfl)) (nI_clamp (Nat.lt_trans kb_1 (ltb rfl))) rfl dX12_likelyOn_22 ?_
  refine lv_icmp_ge (tgt := 30) hx hb dX12_likelyOn_23 rfl (fun c_2 => ?_) (fun c_2 => ?_)
  ·
    have tc_2 : (((Fn 6) k).toInt : Int) ≤ (((Fn 5) k) * (v1 - ((Fn 7) k))).toInt := Int32.le_iff_toInt_le.mp c_2
    refine lv_aload_n hx hb dX12_likelyOn_30 rfl (lvA1 hl) ?_
    refine gM_19 S hK hP (v := .ref (g 6)) rfl dX12_likelyOn_31 ?_
    refine lv_iload_n hx hb dX12_likelyOn_34 rfl (lvA2 hl) ?_
    refine ldM_6 hx hb hK hP (x := ((Fn 6) k)) (vp_in_nI kb_1 (ltb rfl)) (nI_clamp (Nat.lt_trans kb_1 (ltb rfl))) rfl dX12_likelyOn_35 ?_
    exact W.iret (v := ((Fn 6) k)) hx hb hr (fun t ht hW => ⟨((Fn 6) k), rfl, (by first | exact (ifl_t (by assumption)).symm | exact (ifl_f (by assumption)).symm | exact (ifl_t (Int32.not_le.mp (by assumption))).symm), ht⟩) (fun _ h => absurd h List.not_mem_nil) dX12_likelyOn_36
  ·
    have tc_2 : ((((Fn 5) k) * (v1 - ((Fn 7) k))).toInt : Int) < ((Fn 6) k).toInt := Int32.lt_iff_toInt_lt.mp (Int32.not_le.mp c_2)
    refine lv_iload_n hx hb dX12_likelyOn_26 rfl (lvA0 hl) ?_
    refine lv_goto (tgt := 36) hx hb dX12_likelyOn_27 rfl ?_
    exact W.iret (v := (((Fn 5) k) * (v1 - ((Fn 7) k)))) hx hb hr (fun t ht hW => ⟨(((Fn 5) k) * (v1 - ((Fn 7) k))), rfl, (by first | exact (ifl_t (by assumption)).symm | exact (ifl_f (by assumption)).symm | exact (ifl_t (Int32.not_le.mp (by assumption))).symm), ht⟩) (fun _ h => absurd h List.not_mem_nil) dX12_likelyOn_36
set_option maxRecDepth 100000 in
set_option maxHeartbeats 4000000 in
theorem q_likely (l : Launch) (D : va_G) (cI cB cZ : ClassId) (g : Nat → Nat) (cn : Nat → Nat) (In : Nat → Int32) (Fn : Nat → Nat → Int32) (v0 v1 : Int32) (hI : IM cn Fn) : Met l yX12_likely (CWS yX12_likely cX12_likely 3 (some .int)) (RM 1 0 0) (PBr [.ref (g 100), .int v0, .int v1] D cI cB cZ (wM cI cB cZ g cn In Fn)) (vp_Si (fun r => ((0 ≤ v0.toInt ∧ v0.toInt < (cn 1 : Int) ∧ (Fn 7 v0.toInt.toNat).toInt ≤ v1.toInt ∧ v1.toInt ≤ 399) ∧ r = lkM Fn v0.toInt.toNat v1) ∨ (¬ (0 ≤ v0.toInt ∧ v0.toInt < (cn 1 : Int) ∧ (Fn 7 v0.toInt.toNat).toInt ≤ v1.toInt ∧ v1.toInt ≤ 399) ∧ r = -1))) 0 0 (fun _ => False) := by
  refine en_r rfl pn_RX12 (Nat.le_of_ble_eq_true rfl) (fun p e s m below meth c hx hb hml hown S hr hlocks hnm hP hK hS ls hl => ?_)
  have hl : lv_has ls 3 [(0, .ref (g 100)), (1, .int v0), (2, .int v1)] := hl
  have hi_cn : Hid (CB cn) := hI.b
  refine lv_aload_n hx hb dX12_likely_0 rfl (lvA0 hl) ?_
  refine lv_iload_n hx hb dX12_likely_1 rfl (lvA1 hl) ?_
  refine vp_callSi (runV_ra (As := [.int v0]) (rest := []) S (q_isKitchen l D cI cB cZ g cn In Fn v0 hI) kV_RX12_218 hK hP 0 rfl rfl rfl ⟨Nat.le_of_ble_eq_true rfl, Nat.le_of_ble_eq_true rfl⟩ ⟨Nat.le_of_ble_eq_true rfl, Nat.le_of_ble_eq_true rfl⟩ rfl hl.1 rfl (Nat.le_of_ble_eq_true rfl) dX12_likely_2) (fun r_1 h_2 => ?_)
  rcases h_2 with ⟨rfl, h_2⟩ | ⟨rfl, h_2⟩
  ·
    have h_2 : 0 ≤ v0.toInt ∧ v0.toInt < ((cn 1) : Int) := h_2
    refine lv_if_eq (tgt := 24) hx hb dX12_likely_5 rfl (fun h => absurd h cq_eq_1_0) (fun _ => ?_)
    obtain ⟨d0, hd0, rfl⟩ := nI_of (x := v0) (fun q => by have := Int32.lt_iff_toInt_lt.mp q; have e : (0 : Int32).toInt = 0 := rfl; (first | omega | (have zz0 := Hid.u hi_cn; omega)))
    have td0 : (nI d0).toInt = (d0 : Int) := nI_toInt hd0
    have zd0 : (nI d0).toInt.toNat = d0 := by (first | omega | (have zz0 := Hid.u hi_cn; omega))
    refine lv_iload_n hx hb dX12_likely_8 rfl (lvA2 hl) ?_
    refine lv_aload_n hx hb dX12_likely_9 rfl (lvA0 hl) ?_
    refine gM_22 S hK hP (v := .ref (g 7)) rfl dX12_likely_10 ?_
    refine lv_iload_n hx hb dX12_likely_13 rfl (lvA1 hl) ?_
    have kb_1 : d0 < 10 := by (first | omega | (have zz0 := Hid.u hi_cn; omega))
    have b_3 := hI.e7 d0 (by (first | omega | (have zz0 := Hid.u hi_cn; omega)))
    refine ldM_7 hx hb hK hP (x := ((Fn 7) d0)) (vp_in_nI kb_1 (ltb rfl)) (nI_clamp (Nat.lt_trans kb_1 (ltb rfl))) rfl dX12_likely_14 ?_
    refine lv_sipush (v := 399) hx hb dX12_likely_15 (by decide) ?_
    refine vp_callSi (runS_r (As := [.int v1, .int ((Fn 7) d0), .int 399]) (rest := []) S (q_in l D cI cB cZ v1 ((Fn 7) d0) 399 ) kS_RX12_214 hK hP [] rfl ⟨Nat.le_of_ble_eq_true rfl, Nat.le_of_ble_eq_true rfl⟩ ⟨Nat.le_of_ble_eq_true rfl, Nat.le_of_ble_eq_true rfl⟩ rfl hl.1 rfl (Nat.le_of_ble_eq_true rfl) dX12_likely_18) (fun r_4 h_5 => ?_)
    rcases h_5 with ⟨rfl, h_5⟩ | ⟨rfl, h_5⟩
    ·
      have h_5 : ((Fn 7) d0).toInt ≤ v1.toInt ∧ v1.toInt ≤ 399 := h_5
      refine lv_if_ne (tgt := 28) hx hb dX12_likely_21 rfl (fun _ => ?_) (fun h => absurd h cq_eq_1_0)
      refine lv_aload_n hx hb dX12_likely_28 rfl (lvA0 hl) ?_
      refine lv_iload_n hx hb dX12_likely_29 rfl (lvA1 hl) ?_
      refine lv_iload_n hx hb dX12_likely_30 rfl (lvA2 hl) ?_
      refine vp_callSi (runV_ra (As := [.int (nI d0), .int v1]) (rest := []) S (q_likelyOn l D cI cB cZ g cn In Fn d0 v1 hI (by (first | omega | (have zz0 := Hid.u hi_cn; omega)))) kV_RX12_222 hK hP 0 rfl rfl rfl ⟨Nat.le_of_ble_eq_true rfl, Nat.le_of_ble_eq_true rfl⟩ ⟨Nat.le_of_ble_eq_true rfl, Nat.le_of_ble_eq_true rfl⟩ rfl hl.1 rfl (Nat.le_of_ble_eq_true rfl) dX12_likely_31) (fun r_6 h_7 => ?_)
      subst h_7
      exact W.iret (v := (lkM Fn d0 v1)) hx hb hr (fun t ht hW => ⟨(lkM Fn d0 v1), rfl, (Or.inl ⟨(by first | (first | omega | (have zz0 := Hid.u hi_cn; omega)) | (simp only [zd0]; (first | omega | (have zz0 := Hid.u hi_cn; omega)))), by rw [zd0]⟩), ht⟩) (fun _ h => absurd h List.not_mem_nil) dX12_likely_34
    ·
      have h_5 : ¬ (((Fn 7) d0).toInt ≤ v1.toInt ∧ v1.toInt ≤ 399) := h_5
      refine lv_if_ne (tgt := 28) hx hb dX12_likely_21 rfl (fun h => absurd h cq_eq_0_0) (fun _ => ?_)
      refine lv_iconst (v := (-1)) hx hb dX12_likely_24 kic_m1 ?_
      refine lv_goto (tgt := 34) hx hb dX12_likely_25 rfl ?_
      exact W.iret (v := (-1)) hx hb hr (fun t ht hW => ⟨(-1), rfl, (Or.inr ⟨(by first | (first | omega | (have zz0 := Hid.u hi_cn; omega)) | (simp only [zd0]; (first | omega | (have zz0 := Hid.u hi_cn; omega)))), rfl⟩), ht⟩) (fun _ h => absurd h List.not_mem_nil) dX12_likely_34
  ·
    have h_2 : ¬ (0 ≤ v0.toInt ∧ v0.toInt < ((cn 1) : Int)) := h_2
    refine lv_if_eq (tgt := 24) hx hb dX12_likely_5 rfl (fun _ => ?_) (fun h => absurd h cq_eq_0_0)
    refine lv_iconst (v := (-1)) hx hb dX12_likely_24 kic_m1 ?_
    refine lv_goto (tgt := 34) hx hb dX12_likely_25 rfl ?_
    exact W.iret (v := (-1)) hx hb hr (fun t ht hW => ⟨(-1), rfl, (Or.inr ⟨(by first | (first | omega | (have zz0 := Hid.u hi_cn; omega)) | (simp only [zd0]; (first | omega | (have zz0 := Hid.u hi_cn; omega)))), rfl⟩), ht⟩) (fun _ h => absurd h List.not_mem_nil) dX12_likely_34
set_option maxRecDepth 100000 in
set_option maxHeartbeats 4000000 in
theorem q_fetch (l : Launch) (D : va_G) (cI cB cZ : ClassId) (g : Nat → Nat) (cn : Nat → Nat) (In : Nat → Int32) (Fn : Nat → Nat → Int32) (v0 v1 v2 v3 v4 v5 : Int32) (sz : Nat) (hI : IM cn Fn) : Met l yX12_fetch (CWS yX12_fetch cX12_fetch 9 (some .int)) (RM 1 0 0) (PBw [.ref (g 100), .int v0, .int v1, .int v2, .int v3, .int v4, .int v5] D cI cB cZ (wM cI cB cZ g cn In Fn) sz) (va_Qi (fun (r : Int32) (u : (Nat → Nat) × (Nat → Int32) × (Nat → Nat → Int32)) => (fun r c2 I2 F2 => ((0 ≤ v0.toInt ∧ v0.toInt < (cn 1 : Int) ∧ (Fn 7 v0.toInt.toNat).toInt ≤ v1.toInt ∧ v1.toInt ≤ (cn 0 : Int) ∧ (0 ≤ v2.toInt ∧ v2.toInt ≤ 400) ∧ (0 ≤ v3.toInt ∧ v3.toInt ≤ 1000) ∧ (0 ≤ v4.toInt ∧ v4.toInt ≤ 1000) ∧ v1.toInt ≤ v5.toInt ∧ v5.toInt ≤ 399 ∧ cn 2 < 60) ∧ r = nI (cn 2) ∧ c2 = va_up cn 2 (cn 2 + 1) ∧ I2 = In ∧ F2 = (va_up (va_up (va_up (va_up (va_up (va_up (va_up (va_up (va_up (va_up Fn 8 (upd (Fn 8) (cn 2) v0)) 9 (upd (Fn 9) (cn 2) v1)) 10 (upd (Fn 10) (cn 2) v2)) 11 (upd (Fn 11) (cn 2) v3)) 12 (upd (Fn 12) (cn 2) v4)) 13 (upd (Fn 13) (cn 2) v5)) 14 (upd (Fn 14) (cn 2) (lackM (lkM Fn v0.toInt.toNat v1) v2))) 15 (upd (Fn 15) (cn 2) (-1))) 16 (upd (Fn 16) (cn 2) (Fn 7 v0.toInt.toNat))) 7 (upd (Fn 7) v0.toInt.toNat v1))) ∨ ((¬ (0 ≤ v0.toInt ∧ v0.toInt < (cn 1 : Int) ∧ (Fn 7 v0.toInt.toNat).toInt ≤ v1.toInt ∧ v1.toInt ≤ (cn 0 : Int) ∧ (0 ≤ v2.toInt ∧ v2.toInt ≤ 400) ∧ (0 ≤ v3.toInt ∧ v3.toInt ≤ 1000) ∧ (0 ≤ v4.toInt ∧ v4.toInt ≤ 1000) ∧ v1.toInt ≤ v5.toInt ∧ v5.toInt ≤ 399 ∧ cn 2 < 60)) ∧ r = -1 ∧ c2 = cn ∧ I2 = In ∧ F2 = Fn)) r u.1 u.2.1 u.2.2) (fun (u : (Nat → Nat) × (Nat → Int32) × (Nat → Nat → Int32)) (t : State) => va_P D vwCl (wM cI cB cZ g u.1 u.2.1 u.2.2) t.heap ∧ va_D (va_A (wM cI cB cZ g cn In Fn) sz) (wM cI cB cZ g u.1 u.2.1 u.2.2)) (va_A (wM cI cB cZ g cn In Fn) sz)) 0 0 (va_A (wM cI cB cZ g cn In Fn) sz) := by
  refine en_w (fun A => (va_Qi (fun (r : Int32) (u : (Nat → Nat) × (Nat → Int32) × (Nat → Nat → Int32)) => (fun (r : Int32) (c2 : Nat → Nat) (I2 : Nat → Int32) (F2 : Nat → Nat → Int32) => ((0 ≤ v0.toInt ∧ v0.toInt < (cn 1 : Int) ∧ (Fn 7 v0.toInt.toNat).toInt ≤ v1.toInt ∧ v1.toInt ≤ (cn 0 : Int) ∧ (0 ≤ v2.toInt ∧ v2.toInt ≤ 400) ∧ (0 ≤ v3.toInt ∧ v3.toInt ≤ 1000) ∧ (0 ≤ v4.toInt ∧ v4.toInt ≤ 1000) ∧ v1.toInt ≤ v5.toInt ∧ v5.toInt ≤ 399 ∧ cn 2 < 60) ∧ r = nI (cn 2) ∧ c2 = va_up cn 2 (cn 2 + 1) ∧ I2 = In ∧ F2 = (va_up (va_up (va_up (va_up (va_up (va_up (va_up (va_up (va_up (va_up Fn 8 (upd (Fn 8) (cn 2) v0)) 9 (upd (Fn 9) (cn 2) v1)) 10 (upd (Fn 10) (cn 2) v2)) 11 (upd (Fn 11) (cn 2) v3)) 12 (upd (Fn 12) (cn 2) v4)) 13 (upd (Fn 13) (cn 2) v5)) 14 (upd (Fn 14) (cn 2) (lackM (lkM Fn v0.toInt.toNat v1) v2))) 15 (upd (Fn 15) (cn 2) (-1))) 16 (upd (Fn 16) (cn 2) (Fn 7 v0.toInt.toNat))) 7 (upd (Fn 7) v0.toInt.toNat v1))) ∨ ((¬ (0 ≤ v0.toInt ∧ v0.toInt < (cn 1 : Int) ∧ (Fn 7 v0.toInt.toNat).toInt ≤ v1.toInt ∧ v1.toInt ≤ (cn 0 : Int) ∧ (0 ≤ v2.toInt ∧ v2.toInt ≤ 400) ∧ (0 ≤ v3.toInt ∧ v3.toInt ≤ 1000) ∧ (0 ≤ v4.toInt ∧ v4.toInt ≤ 1000) ∧ v1.toInt ≤ v5.toInt ∧ v5.toInt ≤ 399 ∧ cn 2 < 60)) ∧ r = -1 ∧ c2 = cn ∧ I2 = In ∧ F2 = Fn)) r u.1 u.2.1 u.2.2) (fun (u : (Nat → Nat) × (Nat → Int32) × (Nat → Nat → Int32)) (t : State) => va_P D vwCl (wM cI cB cZ g u.1 u.2.1 u.2.2) t.heap ∧ va_D A (wM cI cB cZ g u.1 u.2.1 u.2.2)) A)) rfl rfl pn_RX12 (Nat.le_of_ble_eq_true rfl) (fun p e s m below meth c A hx hb hml hown S hr hlocks hnm hA hP hK hD hS ls hl => ?_)
  have hl : lv_has ls 9 [(0, .ref (g 100)), (1, .int v0), (2, .int v1), (3, .int v2), (4, .int v3), (5, .int v4), (6, .int v5)] := hl
  have hi_cn : Hid (CB cn) := hI.b
  refine lv_aload_n hx hb dX12_fetch_0 rfl (lvA0 hl) ?_
  refine lv_iload_n hx hb dX12_fetch_1 rfl (lvA1 hl) ?_
  refine vp_callSi (runV_ra (As := [.int v0]) (rest := []) S (q_isKitchen l D cI cB cZ g cn In Fn v0 hI) kV_RX12_218 hK hP 0 rfl rfl rfl ⟨Nat.le_of_ble_eq_true rfl, Nat.le_of_ble_eq_true rfl⟩ ⟨Nat.le_of_ble_eq_true rfl, Nat.le_of_ble_eq_true rfl⟩ rfl hl.1 rfl (Nat.le_of_ble_eq_true rfl) dX12_fetch_2) (fun r_1 h_2 => ?_)
  rcases h_2 with ⟨rfl, h_2⟩ | ⟨rfl, h_2⟩
  ·
    have h_2 : 0 ≤ v0.toInt ∧ v0.toInt < ((cn 1) : Int) := h_2
    refine lv_if_eq (tgt := 81) hx hb dX12_fetch_5 rfl (fun h => absurd h cq_eq_1_0) (fun _ => ?_)
    obtain ⟨d0, hd0, rfl⟩ := nI_of (x := v0) (fun q => by have := Int32.lt_iff_toInt_lt.mp q; have e : (0 : Int32).toInt = 0 := rfl; (first | omega | (have zz0 := Hid.u hi_cn; omega)))
    have td0 : (nI d0).toInt = (d0 : Int) := nI_toInt hd0
    have zd0 : (nI d0).toInt.toNat = d0 := by (first | omega | (have zz0 := Hid.u hi_cn; omega))
    refine lv_iload_n hx hb dX12_fetch_8 rfl (lvA2 hl) ?_
    refine lv_aload_n hx hb dX12_fetch_9 rfl (lvA0 hl) ?_
    refine gM_22 S hK hP (v := .ref (g 7)) rfl dX12_fetch_10 ?_
    refine lv_iload_n hx hb dX12_fetch_13 rfl (lvA1 hl) ?_
    have kb_1 : d0 < 10 := by (first | omega | (have zz0 := Hid.u hi_cn; omega))
    have b_3 := hI.e7 d0 (by (first | omega | (have zz0 := Hid.u hi_cn; omega)))
    refine ldM_7 hx hb hK hP (x := ((Fn 7) d0)) (vp_in_nI kb_1 (ltb rfl)) (nI_clamp (Nat.lt_trans kb_1 (ltb rfl))) rfl dX12_fetch_14 ?_
    refine lv_aload_n hx hb dX12_fetch_15 rfl (lvA0 hl) ?_
    refine gM_211 S hK hP (v := .int (nI (cn 0))) rfl dX12_fetch_16 ?_
    refine vp_callSi (runS_r (As := [.int v1, .int ((Fn 7) d0), .int (nI (cn 0))]) (rest := []) S (q_in l D cI cB cZ v1 ((Fn 7) d0) (nI (cn 0)) ) kS_RX12_214 hK hP [] rfl ⟨Nat.le_of_ble_eq_true rfl, Nat.le_of_ble_eq_true rfl⟩ ⟨Nat.le_of_ble_eq_true rfl, Nat.le_of_ble_eq_true rfl⟩ rfl hl.1 rfl (Nat.le_of_ble_eq_true rfl) dX12_fetch_19) (fun r_4 h_5 => ?_)
    have : (nI (cn 0)).toInt = (((cn 0) : Nat) : Int) := nI_toInt (by (first | omega | (have zz0 := Hid.u hi_cn; omega)))
    rcases h_5 with ⟨rfl, h_5⟩ | ⟨rfl, h_5⟩
    ·
      have h_5 : ((Fn 7) d0).toInt ≤ v1.toInt ∧ v1.toInt ≤ (nI (cn 0)).toInt := h_5
      refine lv_if_eq (tgt := 81) hx hb dX12_fetch_22 rfl (fun h => absurd h cq_eq_1_0) (fun _ => ?_)
      refine lv_iload_n hx hb dX12_fetch_25 rfl (lvA3 hl) ?_
      refine lv_iconst (v := 0) hx hb dX12_fetch_26 kic_0 ?_
      refine lv_sipush (v := 400) hx hb dX12_fetch_27 (by decide) ?_
      refine vp_callSi (runS_r (As := [.int v2, .int 0, .int 400]) (rest := []) S (q_in l D cI cB cZ v2 0 400 ) kS_RX12_214 hK hP [] rfl ⟨Nat.le_of_ble_eq_true rfl, Nat.le_of_ble_eq_true rfl⟩ ⟨Nat.le_of_ble_eq_true rfl, Nat.le_of_ble_eq_true rfl⟩ rfl hl.1 rfl (Nat.le_of_ble_eq_true rfl) dX12_fetch_30) (fun r_6 h_7 => ?_)
      rcases h_7 with ⟨rfl, h_7⟩ | ⟨rfl, h_7⟩
      ·
        have h_7 : 0 ≤ v2.toInt ∧ v2.toInt ≤ 400 := h_7
        refine lv_if_eq (tgt := 81) hx hb dX12_fetch_33 rfl (fun h => absurd h cq_eq_1_0) (fun _ => ?_)
        refine lv_iload hx hb dX12_fetch_36 (lvA4 hl) ?_
        refine lv_iconst (v := 0) hx hb dX12_fetch_38 kic_0 ?_
        refine lv_sipush (v := 1000) hx hb dX12_fetch_39 (by decide) ?_
        refine vp_callSi (runS_r (As := [.int v3, .int 0, .int 1000]) (rest := []) S (q_in l D cI cB cZ v3 0 1000 ) kS_RX12_214 hK hP [] rfl ⟨Nat.le_of_ble_eq_true rfl, Nat.le_of_ble_eq_true rfl⟩ ⟨Nat.le_of_ble_eq_true rfl, Nat.le_of_ble_eq_true rfl⟩ rfl hl.1 rfl (Nat.le_of_ble_eq_true rfl) dX12_fetch_42) (fun r_8 h_9 => ?_)
        rcases h_9 with ⟨rfl, h_9⟩ | ⟨rfl, h_9⟩
        ·
          have h_9 : 0 ≤ v3.toInt ∧ v3.toInt ≤ 1000 := h_9
          refine lv_if_eq (tgt := 81) hx hb dX12_fetch_45 rfl (fun h => absurd h cq_eq_1_0) (fun _ => ?_)
          refine lv_iload hx hb dX12_fetch_48 (lvA5 hl) ?_
          refine lv_iconst (v := 0) hx hb dX12_fetch_50 kic_0 ?_
          refine lv_sipush (v := 1000) hx hb dX12_fetch_51 (by decide) ?_
          refine vp_callSi (runS_r (As := [.int v4, .int 0, .int 1000]) (rest := []) S (q_in l D cI cB cZ v4 0 1000 ) kS_RX12_214 hK hP [] rfl ⟨Nat.le_of_ble_eq_true rfl, Nat.le_of_ble_eq_true rfl⟩ ⟨Nat.le_of_ble_eq_true rfl, Nat.le_of_ble_eq_true rfl⟩ rfl hl.1 rfl (Nat.le_of_ble_eq_true rfl) dX12_fetch_54) (fun r_10 h_11 => ?_)
          rcases h_11 with ⟨rfl, h_11⟩ | ⟨rfl, h_11⟩
          ·
            have h_11 : 0 ≤ v4.toInt ∧ v4.toInt ≤ 1000 := h_11
            refine lv_if_eq (tgt := 81) hx hb dX12_fetch_57 rfl (fun h => absurd h cq_eq_1_0) (fun _ => ?_)
            refine lv_iload hx hb dX12_fetch_60 (lvA6 hl) ?_
            refine lv_iload_n hx hb dX12_fetch_62 rfl (lvA2 hl) ?_
            refine lv_sipush (v := 399) hx hb dX12_fetch_63 (by decide) ?_
            refine vp_callSi (runS_r (As := [.int v5, .int v1, .int 399]) (rest := []) S (q_in l D cI cB cZ v5 v1 399 ) kS_RX12_214 hK hP [] rfl ⟨Nat.le_of_ble_eq_true rfl, Nat.le_of_ble_eq_true rfl⟩ ⟨Nat.le_of_ble_eq_true rfl, Nat.le_of_ble_eq_true rfl⟩ rfl hl.1 rfl (Nat.le_of_ble_eq_true rfl) dX12_fetch_66) (fun r_12 h_13 => ?_)
            rcases h_13 with ⟨rfl, h_13⟩ | ⟨rfl, h_13⟩
            ·
              have h_13 : v1.toInt ≤ v5.toInt ∧ v5.toInt ≤ 399 := h_13
              refine lv_if_eq (tgt := 81) hx hb dX12_fetch_69 rfl (fun h => absurd h cq_eq_1_0) (fun _ => ?_)
              refine lv_aload_n hx hb dX12_fetch_72 rfl (lvA0 hl) ?_
              refine gM_208 S hK hP (v := .int (nI (cn 2))) rfl dX12_fetch_73 ?_
              refine lv_bipush (v := 60) hx hb dX12_fetch_76 kbc_60 ?_
              have : (nI (cn 2)).toInt = (((cn 2) : Nat) : Int) := nI_toInt (by (first | omega | (have zz0 := Hid.u hi_cn; omega)))
              refine lv_icmp_ne (tgt := 83) hx hb dX12_fetch_78 rfl (fun c_14 => ?_) (fun c_14 => ?_)
              ·
                have tc_14 : ((nI (cn 2)).toInt : Int) ≠ 60 := fun q => c_14 (Int32.toInt_inj.mp q)
                refine lv_aload_n hx hb dX12_fetch_83 rfl (lvA0 hl) ?_
                refine lv_iload_n hx hb dX12_fetch_84 rfl (lvA1 hl) ?_
                refine lv_iload_n hx hb dX12_fetch_85 rfl (lvA2 hl) ?_
                refine vp_callSi (runV_ra (As := [.int (nI d0), .int v1]) (rest := []) S (q_likelyOn l D cI cB cZ g cn In Fn d0 v1 hI (by (first | omega | (have zz0 := Hid.u hi_cn; omega)))) kV_RX12_222 hK hP 0 rfl rfl rfl ⟨Nat.le_of_ble_eq_true rfl, Nat.le_of_ble_eq_true rfl⟩ ⟨Nat.le_of_ble_eq_true rfl, Nat.le_of_ble_eq_true rfl⟩ rfl hl.1 rfl (Nat.le_of_ble_eq_true rfl) dX12_fetch_86) (fun r_15 h_16 => ?_)
                subst h_16
                refine lv_istore (lv' := [(7, .int (lkM Fn d0 v1)), (0, .ref (g 100)), (1, .int (nI d0)), (2, .int v1), (3, .int v2), (4, .int v3), (5, .int v4), (6, .int v5)]) hx hb dX12_fetch_89 hl (ltb rfl) rfl (fun ls hl => ?_)
                refine lv_iload hx hb dX12_fetch_91 (lvA0 hl) ?_
                refine lv_iload_n hx hb dX12_fetch_93 rfl (lvA4 hl) ?_
                refine lv_isub hx hb dX12_fetch_94 ?_
                refine lv_iload hx hb dX12_fetch_95 (lvA0 hl) ?_
                refine lv_bipush (v := 10) hx hb dX12_fetch_97 kbc_10 ?_
                refine lv_idiv hx hb dX12_fetch_99 (by decide) ?_
                refine lv_isub hx hb dX12_fetch_100 ?_
                refine lv_istore (lv' := [(8, .int (((lkM Fn d0 v1) - v2) - ((lkM Fn d0 v1) / 10))), (7, .int (lkM Fn d0 v1)), (0, .ref (g 100)), (1, .int (nI d0)), (2, .int v1), (3, .int v2), (4, .int v3), (5, .int v4), (6, .int v5)]) hx hb dX12_fetch_101 hl (ltb rfl) rfl (fun ls hl => ?_)
                refine lv_aload_n hx hb dX12_fetch_103 rfl (lvA2 hl) ?_
                refine gM_25 S hK hP (v := .ref (g 8)) rfl dX12_fetch_104 ?_
                refine lv_aload_n hx hb dX12_fetch_107 rfl (lvA2 hl) ?_
                refine gM_208 S hK hP (v := .int (nI (cn 2))) rfl dX12_fetch_108 ?_
                refine lv_iload_n hx hb dX12_fetch_111 rfl (lvA3 hl) ?_
                have kb_2 : (cn 2) < 60 := by (first | omega | (have zz0 := Hid.u hi_cn; omega))
                refine stM_8 hx hb hK hP hD hS (Fn2 := (va_up Fn 8 (upd (Fn 8) (cn 2) (nI d0)))) (vp_in_nI kb_2 (ltb rfl)) (nI_clamp (Nat.lt_trans kb_2 (ltb rfl))) rfl dX12_fetch_112 (fun H locs hP hD hS => ?_)
                refine lv_aload_n hx hb dX12_fetch_113 rfl (lvA2 hl) ?_
                refine gM_28 S hK hP (v := .ref (g 9)) rfl dX12_fetch_114 ?_
                refine lv_aload_n hx hb dX12_fetch_117 rfl (lvA2 hl) ?_
                refine gM_208 S hK hP (v := .int (nI (cn 2))) rfl dX12_fetch_118 ?_
                refine lv_iload_n hx hb dX12_fetch_121 rfl (lvA4 hl) ?_
                refine stM_9 hx hb hK hP hD hS (Fn2 := (va_up (va_up Fn 8 (upd (Fn 8) (cn 2) (nI d0))) 9 (upd (Fn 9) (cn 2) v1))) (vp_in_nI kb_2 (ltb rfl)) (nI_clamp (Nat.lt_trans kb_2 (ltb rfl))) rfl dX12_fetch_122 (fun H locs hP hD hS => ?_)
                refine lv_aload_n hx hb dX12_fetch_123 rfl (lvA2 hl) ?_
                refine gM_31 S hK hP (v := .ref (g 10)) rfl dX12_fetch_124 ?_
                refine lv_aload_n hx hb dX12_fetch_127 rfl (lvA2 hl) ?_
                refine gM_208 S hK hP (v := .int (nI (cn 2))) rfl dX12_fetch_128 ?_
                refine lv_iload_n hx hb dX12_fetch_131 rfl (lvA5 hl) ?_
                refine stM_10 hx hb hK hP hD hS (Fn2 := (va_up (va_up (va_up Fn 8 (upd (Fn 8) (cn 2) (nI d0))) 9 (upd (Fn 9) (cn 2) v1)) 10 (upd (Fn 10) (cn 2) v2))) (vp_in_nI kb_2 (ltb rfl)) (nI_clamp (Nat.lt_trans kb_2 (ltb rfl))) rfl dX12_fetch_132 (fun H locs hP hD hS => ?_)
                refine lv_aload_n hx hb dX12_fetch_133 rfl (lvA2 hl) ?_
                refine gM_34 S hK hP (v := .ref (g 11)) rfl dX12_fetch_134 ?_
                refine lv_aload_n hx hb dX12_fetch_137 rfl (lvA2 hl) ?_
                refine gM_208 S hK hP (v := .int (nI (cn 2))) rfl dX12_fetch_138 ?_
                refine lv_iload hx hb dX12_fetch_141 (lvA6 hl) ?_
                refine stM_11 hx hb hK hP hD hS (Fn2 := (va_up (va_up (va_up (va_up Fn 8 (upd (Fn 8) (cn 2) (nI d0))) 9 (upd (Fn 9) (cn 2) v1)) 10 (upd (Fn 10) (cn 2) v2)) 11 (upd (Fn 11) (cn 2) v3))) (vp_in_nI kb_2 (ltb rfl)) (nI_clamp (Nat.lt_trans kb_2 (ltb rfl))) rfl dX12_fetch_143 (fun H locs hP hD hS => ?_)
                refine lv_aload_n hx hb dX12_fetch_144 rfl (lvA2 hl) ?_
                refine gM_37 S hK hP (v := .ref (g 12)) rfl dX12_fetch_145 ?_
                refine lv_aload_n hx hb dX12_fetch_148 rfl (lvA2 hl) ?_
                refine gM_208 S hK hP (v := .int (nI (cn 2))) rfl dX12_fetch_149 ?_
                refine lv_iload hx hb dX12_fetch_152 (lvA7 hl) ?_
                refine stM_12 hx hb hK hP hD hS (Fn2 := (va_up (va_up (va_up (va_up (va_up Fn 8 (upd (Fn 8) (cn 2) (nI d0))) 9 (upd (Fn 9) (cn 2) v1)) 10 (upd (Fn 10) (cn 2) v2)) 11 (upd (Fn 11) (cn 2) v3)) 12 (upd (Fn 12) (cn 2) v4))) (vp_in_nI kb_2 (ltb rfl)) (nI_clamp (Nat.lt_trans kb_2 (ltb rfl))) rfl dX12_fetch_154 (fun H locs hP hD hS => ?_)
                refine lv_aload_n hx hb dX12_fetch_155 rfl (lvA2 hl) ?_
                refine gM_40 S hK hP (v := .ref (g 13)) rfl dX12_fetch_156 ?_
                refine lv_aload_n hx hb dX12_fetch_159 rfl (lvA2 hl) ?_
                refine gM_208 S hK hP (v := .int (nI (cn 2))) rfl dX12_fetch_160 ?_
                refine lv_iload hx hb dX12_fetch_163 (lvA8 hl) ?_
                refine stM_13 hx hb hK hP hD hS (Fn2 := (va_up (va_up (va_up (va_up (va_up (va_up Fn 8 (upd (Fn 8) (cn 2) (nI d0))) 9 (upd (Fn 9) (cn 2) v1)) 10 (upd (Fn 10) (cn 2) v2)) 11 (upd (Fn 11) (cn 2) v3)) 12 (upd (Fn 12) (cn 2) v4)) 13 (upd (Fn 13) (cn 2) v5))) (vp_in_nI kb_2 (ltb rfl)) (nI_clamp (Nat.lt_trans kb_2 (ltb rfl))) rfl dX12_fetch_165 (fun H locs hP hD hS => ?_)
                refine lv_aload_n hx hb dX12_fetch_166 rfl (lvA2 hl) ?_
                refine gM_43 S hK hP (v := .ref (g 14)) rfl dX12_fetch_167 ?_
                refine lv_aload_n hx hb dX12_fetch_170 rfl (lvA2 hl) ?_
                refine gM_208 S hK hP (v := .int (nI (cn 2))) rfl dX12_fetch_171 ?_
                refine lv_iload hx hb dX12_fetch_174 (lvA0 hl) ?_
                refine lv_if_le (tgt := 184) hx hb dX12_fetch_176 rfl (fun c_17 => ?_) (fun c_17 => ?_)
                ·
                  have tc_17 : ((((lkM Fn d0 v1) - v2) - ((lkM Fn d0 v1) / 10)).toInt : Int) ≤ 0 := Int32.le_iff_toInt_le.mp c_17
                  refine lv_iconst (v := 0) hx hb dX12_fetch_184 kic_0 ?_
                  refine stM_14 hx hb hK hP hD hS (Fn2 := (va_up (va_up (va_up (va_up (va_up (va_up (va_up Fn 8 (upd (Fn 8) (cn 2) (nI d0))) 9 (upd (Fn 9) (cn 2) v1)) 10 (upd (Fn 10) (cn 2) v2)) 11 (upd (Fn 11) (cn 2) v3)) 12 (upd (Fn 12) (cn 2) v4)) 13 (upd (Fn 13) (cn 2) v5)) 14 (upd (Fn 14) (cn 2) 0))) (vp_in_nI kb_2 (ltb rfl)) (nI_clamp (Nat.lt_trans kb_2 (ltb rfl))) rfl dX12_fetch_185 (fun H locs hP hD hS => ?_)
                  refine lv_aload_n hx hb dX12_fetch_186 rfl (lvA2 hl) ?_
                  refine gM_46 S hK hP (v := .ref (g 15)) rfl dX12_fetch_187 ?_
                  refine lv_aload_n hx hb dX12_fetch_190 rfl (lvA2 hl) ?_
                  refine gM_208 S hK hP (v := .int (nI (cn 2))) rfl dX12_fetch_191 ?_
                  refine lv_iconst (v := (-1)) hx hb dX12_fetch_194 kic_m1 ?_
                  refine stM_15 hx hb hK hP hD hS (Fn2 := (va_up (va_up (va_up (va_up (va_up (va_up (va_up (va_up Fn 8 (upd (Fn 8) (cn 2) (nI d0))) 9 (upd (Fn 9) (cn 2) v1)) 10 (upd (Fn 10) (cn 2) v2)) 11 (upd (Fn 11) (cn 2) v3)) 12 (upd (Fn 12) (cn 2) v4)) 13 (upd (Fn 13) (cn 2) v5)) 14 (upd (Fn 14) (cn 2) 0)) 15 (upd (Fn 15) (cn 2) (-1)))) (vp_in_nI kb_2 (ltb rfl)) (nI_clamp (Nat.lt_trans kb_2 (ltb rfl))) rfl dX12_fetch_195 (fun H locs hP hD hS => ?_)
                  refine lv_aload_n hx hb dX12_fetch_196 rfl (lvA2 hl) ?_
                  refine gM_49 S hK hP (v := .ref (g 16)) rfl dX12_fetch_197 ?_
                  refine lv_aload_n hx hb dX12_fetch_200 rfl (lvA2 hl) ?_
                  refine gM_208 S hK hP (v := .int (nI (cn 2))) rfl dX12_fetch_201 ?_
                  refine lv_aload_n hx hb dX12_fetch_204 rfl (lvA2 hl) ?_
                  refine gM_22 S hK hP (v := .ref (g 7)) rfl dX12_fetch_205 ?_
                  refine lv_iload_n hx hb dX12_fetch_208 rfl (lvA3 hl) ?_
                  have b_18 := hI.e7 d0 (by (first | omega | (have zz0 := Hid.u hi_cn; omega)))
                  refine ldM_7 hx hb hK hP (x := ((Fn 7) d0)) (vp_in_nI kb_1 (ltb rfl)) (nI_clamp (Nat.lt_trans kb_1 (ltb rfl))) rfl dX12_fetch_209 ?_
                  refine stM_16 hx hb hK hP hD hS (Fn2 := (va_up (va_up (va_up (va_up (va_up (va_up (va_up (va_up (va_up Fn 8 (upd (Fn 8) (cn 2) (nI d0))) 9 (upd (Fn 9) (cn 2) v1)) 10 (upd (Fn 10) (cn 2) v2)) 11 (upd (Fn 11) (cn 2) v3)) 12 (upd (Fn 12) (cn 2) v4)) 13 (upd (Fn 13) (cn 2) v5)) 14 (upd (Fn 14) (cn 2) 0)) 15 (upd (Fn 15) (cn 2) (-1))) 16 (upd (Fn 16) (cn 2) ((Fn 7) d0)))) (vp_in_nI kb_2 (ltb rfl)) (nI_clamp (Nat.lt_trans kb_2 (ltb rfl))) rfl dX12_fetch_210 (fun H locs hP hD hS => ?_)
                  refine lv_aload_n hx hb dX12_fetch_211 rfl (lvA2 hl) ?_
                  refine gM_22 S hK hP (v := .ref (g 7)) rfl dX12_fetch_212 ?_
                  refine lv_iload_n hx hb dX12_fetch_215 rfl (lvA3 hl) ?_
                  refine lv_iload_n hx hb dX12_fetch_216 rfl (lvA4 hl) ?_
                  refine stM_7 hx hb hK hP hD hS (Fn2 := (va_up (va_up (va_up (va_up (va_up (va_up (va_up (va_up (va_up (va_up Fn 8 (upd (Fn 8) (cn 2) (nI d0))) 9 (upd (Fn 9) (cn 2) v1)) 10 (upd (Fn 10) (cn 2) v2)) 11 (upd (Fn 11) (cn 2) v3)) 12 (upd (Fn 12) (cn 2) v4)) 13 (upd (Fn 13) (cn 2) v5)) 14 (upd (Fn 14) (cn 2) 0)) 15 (upd (Fn 15) (cn 2) (-1))) 16 (upd (Fn 16) (cn 2) ((Fn 7) d0))) 7 (upd (Fn 7) d0 v1))) (vp_in_nI kb_1 (ltb rfl)) (nI_clamp (Nat.lt_trans kb_1 (ltb rfl))) rfl dX12_fetch_217 (fun H locs hP hD hS => ?_)
                  refine lv_aload_n hx hb dX12_fetch_218 rfl (lvA2 hl) ?_
                  refine lv_aload_n hx hb dX12_fetch_219 rfl (lvA2 hl) ?_
                  refine gM_208 S hK hP (v := .int (nI (cn 2))) rfl dX12_fetch_220 ?_
                  refine lv_iconst (v := 1) hx hb dX12_fetch_223 kic_1 ?_
                  refine lv_iadd hx hb dX12_fetch_224 ?_
                  refine lv_topi (fun y_19 ey_19 => ?_)
                  obtain rfl : y_19 = (nI ((cn 2) + 1)) := ey_19.trans (nI_add (cn 2) 1)
                  refine pM_208 S hK hP hD hS (a := ((cn 2) + 1)) (cn2 := (va_up cn 2 ((cn 2) + 1))) rfl rfl dX12_fetch_225 (fun H locs hP hD hS => ?_)
                  refine lv_aload_n hx hb dX12_fetch_228 rfl (lvA2 hl) ?_
                  refine gM_208 S hK hP (v := .int (nI ((cn 2) + 1))) rfl dX12_fetch_229 ?_
                  refine lv_iconst (v := 1) hx hb dX12_fetch_232 kic_1 ?_
                  refine lv_isub hx hb dX12_fetch_233 ?_
                  refine lv_topi (fun y_20 ey_20 => ?_)
                  obtain rfl : y_20 = (nI (cn 2)) := ey_20.trans (nI_pred _)
                  exact W.iret (v := (nI (cn 2))) hx hb hr (fun t ht hW => ⟨⟨(nI (cn 2)), ((va_up cn 2 ((cn 2) + 1)), In, (va_up (va_up (va_up (va_up (va_up (va_up (va_up (va_up (va_up (va_up Fn 8 (upd (Fn 8) (cn 2) (nI d0))) 9 (upd (Fn 9) (cn 2) v1)) 10 (upd (Fn 10) (cn 2) v2)) 11 (upd (Fn 11) (cn 2) v3)) 12 (upd (Fn 12) (cn 2) v4)) 13 (upd (Fn 13) (cn 2) v5)) 14 (upd (Fn 14) (cn 2) 0)) 15 (upd (Fn 15) (cn 2) (-1))) 16 (upd (Fn 16) (cn 2) ((Fn 7) d0))) 7 (upd (Fn 7) d0 v1))), rfl, (Or.inl ⟨(by first | (first | omega | (have zz0 := Hid.u hi_cn; omega)) | (simp only [zd0]; (first | omega | (have zz0 := Hid.u hi_cn; omega)))), rfl, rfl, rfl, by simp only [zd0]; first | rw [lackM, if_pos (Int32.not_le.mp (by assumption))] | rw [lackM, if_neg (Int32.not_lt.mpr (by assumption))]⟩), by rw [ht]; exact hP, hD⟩, hS.F ht⟩) hS.2.2 dX12_fetch_234
                ·
                  have tc_17 : (0 : Int) < (((lkM Fn d0 v1) - v2) - ((lkM Fn d0 v1) / 10)).toInt := Int32.lt_iff_toInt_lt.mp (Int32.not_le.mp c_17)
                  refine lv_iload hx hb dX12_fetch_179 (lvA0 hl) ?_
                  refine lv_goto (tgt := 185) hx hb dX12_fetch_181 rfl ?_
                  refine stM_14 hx hb hK hP hD hS (Fn2 := (va_up (va_up (va_up (va_up (va_up (va_up (va_up Fn 8 (upd (Fn 8) (cn 2) (nI d0))) 9 (upd (Fn 9) (cn 2) v1)) 10 (upd (Fn 10) (cn 2) v2)) 11 (upd (Fn 11) (cn 2) v3)) 12 (upd (Fn 12) (cn 2) v4)) 13 (upd (Fn 13) (cn 2) v5)) 14 (upd (Fn 14) (cn 2) (((lkM Fn d0 v1) - v2) - ((lkM Fn d0 v1) / 10))))) (vp_in_nI kb_2 (ltb rfl)) (nI_clamp (Nat.lt_trans kb_2 (ltb rfl))) rfl dX12_fetch_185 (fun H locs hP hD hS => ?_)
                  refine lv_aload_n hx hb dX12_fetch_186 rfl (lvA2 hl) ?_
                  refine gM_46 S hK hP (v := .ref (g 15)) rfl dX12_fetch_187 ?_
                  refine lv_aload_n hx hb dX12_fetch_190 rfl (lvA2 hl) ?_
                  refine gM_208 S hK hP (v := .int (nI (cn 2))) rfl dX12_fetch_191 ?_
                  refine lv_iconst (v := (-1)) hx hb dX12_fetch_194 kic_m1 ?_
                  refine stM_15 hx hb hK hP hD hS (Fn2 := (va_up (va_up (va_up (va_up (va_up (va_up (va_up (va_up Fn 8 (upd (Fn 8) (cn 2) (nI d0))) 9 (upd (Fn 9) (cn 2) v1)) 10 (upd (Fn 10) (cn 2) v2)) 11 (upd (Fn 11) (cn 2) v3)) 12 (upd (Fn 12) (cn 2) v4)) 13 (upd (Fn 13) (cn 2) v5)) 14 (upd (Fn 14) (cn 2) (((lkM Fn d0 v1) - v2) - ((lkM Fn d0 v1) / 10)))) 15 (upd (Fn 15) (cn 2) (-1)))) (vp_in_nI kb_2 (ltb rfl)) (nI_clamp (Nat.lt_trans kb_2 (ltb rfl))) rfl dX12_fetch_195 (fun H locs hP hD hS => ?_)
                  refine lv_aload_n hx hb dX12_fetch_196 rfl (lvA2 hl) ?_
                  refine gM_49 S hK hP (v := .ref (g 16)) rfl dX12_fetch_197 ?_
                  refine lv_aload_n hx hb dX12_fetch_200 rfl (lvA2 hl) ?_
                  refine gM_208 S hK hP (v := .int (nI (cn 2))) rfl dX12_fetch_201 ?_
                  refine lv_aload_n hx hb dX12_fetch_204 rfl (lvA2 hl) ?_
                  refine gM_22 S hK hP (v := .ref (g 7)) rfl dX12_fetch_205 ?_
                  refine lv_iload_n hx hb dX12_fetch_208 rfl (lvA3 hl) ?_
                  have b_21 := hI.e7 d0 (by (first | omega | (have zz0 := Hid.u hi_cn; omega)))
                  refine ldM_7 hx hb hK hP (x := ((Fn 7) d0)) (vp_in_nI kb_1 (ltb rfl)) (nI_clamp (Nat.lt_trans kb_1 (ltb rfl))) rfl dX12_fetch_209 ?_
                  refine stM_16 hx hb hK hP hD hS (Fn2 := (va_up (va_up (va_up (va_up (va_up (va_up (va_up (va_up (va_up Fn 8 (upd (Fn 8) (cn 2) (nI d0))) 9 (upd (Fn 9) (cn 2) v1)) 10 (upd (Fn 10) (cn 2) v2)) 11 (upd (Fn 11) (cn 2) v3)) 12 (upd (Fn 12) (cn 2) v4)) 13 (upd (Fn 13) (cn 2) v5)) 14 (upd (Fn 14) (cn 2) (((lkM Fn d0 v1) - v2) - ((lkM Fn d0 v1) / 10)))) 15 (upd (Fn 15) (cn 2) (-1))) 16 (upd (Fn 16) (cn 2) ((Fn 7) d0)))) (vp_in_nI kb_2 (ltb rfl)) (nI_clamp (Nat.lt_trans kb_2 (ltb rfl))) rfl dX12_fetch_210 (fun H locs hP hD hS => ?_)
                  refine lv_aload_n hx hb dX12_fetch_211 rfl (lvA2 hl) ?_
                  refine gM_22 S hK hP (v := .ref (g 7)) rfl dX12_fetch_212 ?_
                  refine lv_iload_n hx hb dX12_fetch_215 rfl (lvA3 hl) ?_
                  refine lv_iload_n hx hb dX12_fetch_216 rfl (lvA4 hl) ?_
                  refine stM_7 hx hb hK hP hD hS (Fn2 := (va_up (va_up (va_up (va_up (va_up (va_up (va_up (va_up (va_up (va_up Fn 8 (upd (Fn 8) (cn 2) (nI d0))) 9 (upd (Fn 9) (cn 2) v1)) 10 (upd (Fn 10) (cn 2) v2)) 11 (upd (Fn 11) (cn 2) v3)) 12 (upd (Fn 12) (cn 2) v4)) 13 (upd (Fn 13) (cn 2) v5)) 14 (upd (Fn 14) (cn 2) (((lkM Fn d0 v1) - v2) - ((lkM Fn d0 v1) / 10)))) 15 (upd (Fn 15) (cn 2) (-1))) 16 (upd (Fn 16) (cn 2) ((Fn 7) d0))) 7 (upd (Fn 7) d0 v1))) (vp_in_nI kb_1 (ltb rfl)) (nI_clamp (Nat.lt_trans kb_1 (ltb rfl))) rfl dX12_fetch_217 (fun H locs hP hD hS => ?_)
                  refine lv_aload_n hx hb dX12_fetch_218 rfl (lvA2 hl) ?_
                  refine lv_aload_n hx hb dX12_fetch_219 rfl (lvA2 hl) ?_
                  refine gM_208 S hK hP (v := .int (nI (cn 2))) rfl dX12_fetch_220 ?_
                  refine lv_iconst (v := 1) hx hb dX12_fetch_223 kic_1 ?_
                  refine lv_iadd hx hb dX12_fetch_224 ?_
                  refine lv_topi (fun y_22 ey_22 => ?_)
                  obtain rfl : y_22 = (nI ((cn 2) + 1)) := ey_22.trans (nI_add (cn 2) 1)
                  refine pM_208 S hK hP hD hS (a := ((cn 2) + 1)) (cn2 := (va_up cn 2 ((cn 2) + 1))) rfl rfl dX12_fetch_225 (fun H locs hP hD hS => ?_)
                  refine lv_aload_n hx hb dX12_fetch_228 rfl (lvA2 hl) ?_
                  refine gM_208 S hK hP (v := .int (nI ((cn 2) + 1))) rfl dX12_fetch_229 ?_
                  refine lv_iconst (v := 1) hx hb dX12_fetch_232 kic_1 ?_
                  refine lv_isub hx hb dX12_fetch_233 ?_
                  refine lv_topi (fun y_23 ey_23 => ?_)
                  obtain rfl : y_23 = (nI (cn 2)) := ey_23.trans (nI_pred _)
                  exact W.iret (v := (nI (cn 2))) hx hb hr (fun t ht hW => ⟨⟨(nI (cn 2)), ((va_up cn 2 ((cn 2) + 1)), In, (va_up (va_up (va_up (va_up (va_up (va_up (va_up (va_up (va_up (va_up Fn 8 (upd (Fn 8) (cn 2) (nI d0))) 9 (upd (Fn 9) (cn 2) v1)) 10 (upd (Fn 10) (cn 2) v2)) 11 (upd (Fn 11) (cn 2) v3)) 12 (upd (Fn 12) (cn 2) v4)) 13 (upd (Fn 13) (cn 2) v5)) 14 (upd (Fn 14) (cn 2) (((lkM Fn d0 v1) - v2) - ((lkM Fn d0 v1) / 10)))) 15 (upd (Fn 15) (cn 2) (-1))) 16 (upd (Fn 16) (cn 2) ((Fn 7) d0))) 7 (upd (Fn 7) d0 v1))), rfl, (Or.inl ⟨(by first | (first | omega | (have zz0 := Hid.u hi_cn; omega)) | (simp only [zd0]; (first | omega | (have zz0 := Hid.u hi_cn; omega)))), rfl, rfl, rfl, by simp only [zd0]; first | rw [lackM, if_pos (Int32.not_le.mp (by assumption))] | rw [lackM, if_neg (Int32.not_lt.mpr (by assumption))]⟩), by rw [ht]; exact hP, hD⟩, hS.F ht⟩) hS.2.2 dX12_fetch_234
              ·
                have tc_14 : ((nI (cn 2)).toInt : Int) = 60 := congrArg Int32.toInt c_14
                refine lv_iconst (v := (-1)) hx hb dX12_fetch_81 kic_m1 ?_
                exact W.iret (v := (-1)) hx hb hr (fun t ht hW => ⟨⟨(-1), (cn, In, Fn), rfl, (Or.inr ⟨(by first | (first | omega | (have zz0 := Hid.u hi_cn; omega)) | (simp only [zd0]; (first | omega | (have zz0 := Hid.u hi_cn; omega)))), rfl, rfl, rfl, rfl⟩), by rw [ht]; exact hP, hD⟩, hS.F ht⟩) hS.2.2 dX12_fetch_82
            ·
              have h_13 : ¬ (v1.toInt ≤ v5.toInt ∧ v5.toInt ≤ 399) := h_13
              refine lv_if_eq (tgt := 81) hx hb dX12_fetch_69 rfl (fun _ => ?_) (fun h => absurd h cq_eq_0_0)
              refine lv_iconst (v := (-1)) hx hb dX12_fetch_81 kic_m1 ?_
              exact W.iret (v := (-1)) hx hb hr (fun t ht hW => ⟨⟨(-1), (cn, In, Fn), rfl, (Or.inr ⟨(by first | (first | omega | (have zz0 := Hid.u hi_cn; omega)) | (simp only [zd0]; (first | omega | (have zz0 := Hid.u hi_cn; omega)))), rfl, rfl, rfl, rfl⟩), by rw [ht]; exact hP, hD⟩, hS.F ht⟩) hS.2.2 dX12_fetch_82
          ·
            have h_11 : ¬ (0 ≤ v4.toInt ∧ v4.toInt ≤ 1000) := h_11
            refine lv_if_eq (tgt := 81) hx hb dX12_fetch_57 rfl (fun _ => ?_) (fun h => absurd h cq_eq_0_0)
            refine lv_iconst (v := (-1)) hx hb dX12_fetch_81 kic_m1 ?_
            exact W.iret (v := (-1)) hx hb hr (fun t ht hW => ⟨⟨(-1), (cn, In, Fn), rfl, (Or.inr ⟨(by first | (first | omega | (have zz0 := Hid.u hi_cn; omega)) | (simp only [zd0]; (first | omega | (have zz0 := Hid.u hi_cn; omega)))), rfl, rfl, rfl, rfl⟩), by rw [ht]; exact hP, hD⟩, hS.F ht⟩) hS.2.2 dX12_fetch_82
        ·
          have h_9 : ¬ (0 ≤ v3.toInt ∧ v3.toInt ≤ 1000) := h_9
          refine lv_if_eq (tgt := 81) hx hb dX12_fetch_45 rfl (fun _ => ?_) (fun h => absurd h cq_eq_0_0)
          refine lv_iconst (v := (-1)) hx hb dX12_fetch_81 kic_m1 ?_
          exact W.iret (v := (-1)) hx hb hr (fun t ht hW => ⟨⟨(-1), (cn, In, Fn), rfl, (Or.inr ⟨(by first | (first | omega | (have zz0 := Hid.u hi_cn; omega)) | (simp only [zd0]; (first | omega | (have zz0 := Hid.u hi_cn; omega)))), rfl, rfl, rfl, rfl⟩), by rw [ht]; exact hP, hD⟩, hS.F ht⟩) hS.2.2 dX12_fetch_82
      ·
        have h_7 : ¬ (0 ≤ v2.toInt ∧ v2.toInt ≤ 400) := h_7
        refine lv_if_eq (tgt := 81) hx hb dX12_fetch_33 rfl (fun _ => ?_) (fun h => absurd h cq_eq_0_0)
        refine lv_iconst (v := (-1)) hx hb dX12_fetch_81 kic_m1 ?_
        exact W.iret (v := (-1)) hx hb hr (fun t ht hW => ⟨⟨(-1), (cn, In, Fn), rfl, (Or.inr ⟨(by first | (first | omega | (have zz0 := Hid.u hi_cn; omega)) | (simp only [zd0]; (first | omega | (have zz0 := Hid.u hi_cn; omega)))), rfl, rfl, rfl, rfl⟩), by rw [ht]; exact hP, hD⟩, hS.F ht⟩) hS.2.2 dX12_fetch_82
    ·
      have h_5 : ¬ (((Fn 7) d0).toInt ≤ v1.toInt ∧ v1.toInt ≤ (nI (cn 0)).toInt) := h_5
      refine lv_if_eq (tgt := 81) hx hb dX12_fetch_22 rfl (fun _ => ?_) (fun h => absurd h cq_eq_0_0)
      refine lv_iconst (v := (-1)) hx hb dX12_fetch_81 kic_m1 ?_
      exact W.iret (v := (-1)) hx hb hr (fun t ht hW => ⟨⟨(-1), (cn, In, Fn), rfl, (Or.inr ⟨(by first | (first | omega | (have zz0 := Hid.u hi_cn; omega)) | (simp only [zd0]; (first | omega | (have zz0 := Hid.u hi_cn; omega)))), rfl, rfl, rfl, rfl⟩), by rw [ht]; exact hP, hD⟩, hS.F ht⟩) hS.2.2 dX12_fetch_82
  ·
    have h_2 : ¬ (0 ≤ v0.toInt ∧ v0.toInt < ((cn 1) : Int)) := h_2
    refine lv_if_eq (tgt := 81) hx hb dX12_fetch_5 rfl (fun _ => ?_) (fun h => absurd h cq_eq_0_0)
    refine lv_iconst (v := (-1)) hx hb dX12_fetch_81 kic_m1 ?_
    exact W.iret (v := (-1)) hx hb hr (fun t ht hW => ⟨⟨(-1), (cn, In, Fn), rfl, (Or.inr ⟨(by first | (first | omega | (have zz0 := Hid.u hi_cn; omega)) | (simp only [zd0]; (first | omega | (have zz0 := Hid.u hi_cn; omega)))), rfl, rfl, rfl, rfl⟩), by rw [ht]; exact hP, hD⟩, hS.F ht⟩) hS.2.2 dX12_fetch_82
set_option maxRecDepth 100000 in
set_option maxHeartbeats 4000000 in
theorem q_price (l : Launch) (D : va_G) (cI cB cZ : ClassId) (g : Nat → Nat) (cn : Nat → Nat) (In : Nat → Int32) (Fn : Nat → Nat → Int32) (v0 v1 : Int32) (sz : Nat) (hI : IM cn Fn) : Met l yX12_price (CWS yX12_price cX12_price 3 (some .boolean)) (RM 1 0 0) (PBw [.ref (g 100), .int v0, .int v1] D cI cB cZ (wM cI cB cZ g cn In Fn) sz) (va_Qi (fun (r : Int32) (u : (Nat → Nat) × (Nat → Int32) × (Nat → Nat → Int32)) => (fun r c2 I2 F2 => (((0 ≤ v0.toInt ∧ v0.toInt ≤ 57) ∧ (0 ≤ v1.toInt ∧ v1.toInt ≤ 1000)) ∧ r = 1 ∧ c2 = cn ∧ I2 = In ∧ F2 = (va_up Fn 39 (upd (Fn 39) v0.toInt.toNat v1))) ∨ ((¬ ((0 ≤ v0.toInt ∧ v0.toInt ≤ 57) ∧ (0 ≤ v1.toInt ∧ v1.toInt ≤ 1000))) ∧ r = 0 ∧ c2 = cn ∧ I2 = In ∧ F2 = Fn)) r u.1 u.2.1 u.2.2) (fun (u : (Nat → Nat) × (Nat → Int32) × (Nat → Nat → Int32)) (t : State) => va_P D vwCl (wM cI cB cZ g u.1 u.2.1 u.2.2) t.heap ∧ va_D (va_A (wM cI cB cZ g cn In Fn) sz) (wM cI cB cZ g u.1 u.2.1 u.2.2)) (va_A (wM cI cB cZ g cn In Fn) sz)) 0 0 (va_A (wM cI cB cZ g cn In Fn) sz) := by
  refine en_w (fun A => (va_Qi (fun (r : Int32) (u : (Nat → Nat) × (Nat → Int32) × (Nat → Nat → Int32)) => (fun (r : Int32) (c2 : Nat → Nat) (I2 : Nat → Int32) (F2 : Nat → Nat → Int32) => (((0 ≤ v0.toInt ∧ v0.toInt ≤ 57) ∧ (0 ≤ v1.toInt ∧ v1.toInt ≤ 1000)) ∧ r = 1 ∧ c2 = cn ∧ I2 = In ∧ F2 = (va_up Fn 39 (upd (Fn 39) v0.toInt.toNat v1))) ∨ ((¬ ((0 ≤ v0.toInt ∧ v0.toInt ≤ 57) ∧ (0 ≤ v1.toInt ∧ v1.toInt ≤ 1000))) ∧ r = 0 ∧ c2 = cn ∧ I2 = In ∧ F2 = Fn)) r u.1 u.2.1 u.2.2) (fun (u : (Nat → Nat) × (Nat → Int32) × (Nat → Nat → Int32)) (t : State) => va_P D vwCl (wM cI cB cZ g u.1 u.2.1 u.2.2) t.heap ∧ va_D A (wM cI cB cZ g u.1 u.2.1 u.2.2)) A)) rfl rfl pn_RX12 (Nat.le_of_ble_eq_true rfl) (fun p e s m below meth c A hx hb hml hown S hr hlocks hnm hA hP hK hD hS ls hl => ?_)
  have hl : lv_has ls 3 [(0, .ref (g 100)), (1, .int v0), (2, .int v1)] := hl
  have hi_cn : Hid (CB cn) := hI.b
  refine lv_iload_n hx hb dX12_price_0 rfl (lvA1 hl) ?_
  refine lv_iconst (v := 0) hx hb dX12_price_1 kic_0 ?_
  refine lv_bipush (v := 57) hx hb dX12_price_2 kbc_57 ?_
  refine vp_callSi (runS_r (As := [.int v0, .int 0, .int 57]) (rest := []) S (q_in l D cI cB cZ v0 0 57 ) kS_RX12_214 hK hP [] rfl ⟨Nat.le_of_ble_eq_true rfl, Nat.le_of_ble_eq_true rfl⟩ ⟨Nat.le_of_ble_eq_true rfl, Nat.le_of_ble_eq_true rfl⟩ rfl hl.1 rfl (Nat.le_of_ble_eq_true rfl) dX12_price_4) (fun r_1 h_2 => ?_)
  rcases h_2 with ⟨rfl, h_2⟩ | ⟨rfl, h_2⟩
  ·
    have h_2 : 0 ≤ v0.toInt ∧ v0.toInt ≤ 57 := h_2
    refine lv_if_eq (tgt := 21) hx hb dX12_price_7 rfl (fun h => absurd h cq_eq_1_0) (fun _ => ?_)
    obtain ⟨d0, hd0, rfl⟩ := nI_of (x := v0) (fun q => by have := Int32.lt_iff_toInt_lt.mp q; have e : (0 : Int32).toInt = 0 := rfl; (first | omega | (have zz0 := Hid.u hi_cn; omega)))
    have td0 : (nI d0).toInt = (d0 : Int) := nI_toInt hd0
    have zd0 : (nI d0).toInt.toNat = d0 := by (first | omega | (have zz0 := Hid.u hi_cn; omega))
    refine lv_iload_n hx hb dX12_price_10 rfl (lvA2 hl) ?_
    refine lv_iconst (v := 0) hx hb dX12_price_11 kic_0 ?_
    refine lv_sipush (v := 1000) hx hb dX12_price_12 (by decide) ?_
    refine vp_callSi (runS_r (As := [.int v1, .int 0, .int 1000]) (rest := []) S (q_in l D cI cB cZ v1 0 1000 ) kS_RX12_214 hK hP [] rfl ⟨Nat.le_of_ble_eq_true rfl, Nat.le_of_ble_eq_true rfl⟩ ⟨Nat.le_of_ble_eq_true rfl, Nat.le_of_ble_eq_true rfl⟩ rfl hl.1 rfl (Nat.le_of_ble_eq_true rfl) dX12_price_15) (fun r_3 h_4 => ?_)
    rcases h_4 with ⟨rfl, h_4⟩ | ⟨rfl, h_4⟩
    ·
      have h_4 : 0 ≤ v1.toInt ∧ v1.toInt ≤ 1000 := h_4
      refine lv_if_ne (tgt := 23) hx hb dX12_price_18 rfl (fun _ => ?_) (fun h => absurd h cq_eq_1_0)
      refine lv_aload_n hx hb dX12_price_23 rfl (lvA0 hl) ?_
      refine gM_92 S hK hP (v := .ref (g 39)) rfl dX12_price_24 ?_
      refine lv_iload_n hx hb dX12_price_27 rfl (lvA1 hl) ?_
      refine lv_iload_n hx hb dX12_price_28 rfl (lvA2 hl) ?_
      have kb_1 : d0 < 58 := by (first | omega | (have zz0 := Hid.u hi_cn; omega))
      refine stM_39 hx hb hK hP hD hS (Fn2 := (va_up Fn 39 (upd (Fn 39) d0 v1))) (vp_in_nI kb_1 (ltb rfl)) (nI_clamp (Nat.lt_trans kb_1 (ltb rfl))) rfl dX12_price_29 (fun H locs hP hD hS => ?_)
      refine lv_iconst (v := 1) hx hb dX12_price_30 kic_1 ?_
      exact W.zret (v := 1) hx hb hr rfl (fun t ht hW => ⟨⟨1, (cn, In, (va_up Fn 39 (upd (Fn 39) d0 v1))), rfl, (Or.inl ⟨(by first | (first | omega | (have zz0 := Hid.u hi_cn; omega)) | (simp only [zd0]; (first | omega | (have zz0 := Hid.u hi_cn; omega)))), rfl, rfl, rfl, by first | rfl | simp only [zd0, zd1] | simp only [zd0]⟩), by rw [ht]; exact hP, hD⟩, hS.F ht⟩) hS.2.2 dX12_price_31
    ·
      have h_4 : ¬ (0 ≤ v1.toInt ∧ v1.toInt ≤ 1000) := h_4
      refine lv_if_ne (tgt := 23) hx hb dX12_price_18 rfl (fun h => absurd h cq_eq_0_0) (fun _ => ?_)
      refine lv_iconst (v := 0) hx hb dX12_price_21 kic_0 ?_
      exact W.zret (v := 0) hx hb hr rfl (fun t ht hW => ⟨⟨0, (cn, In, Fn), rfl, (Or.inr ⟨(by first | (first | omega | (have zz0 := Hid.u hi_cn; omega)) | (simp only [zd0]; (first | omega | (have zz0 := Hid.u hi_cn; omega)))), rfl, rfl, rfl, rfl⟩), by rw [ht]; exact hP, hD⟩, hS.F ht⟩) hS.2.2 dX12_price_22
  ·
    have h_2 : ¬ (0 ≤ v0.toInt ∧ v0.toInt ≤ 57) := h_2
    refine lv_if_eq (tgt := 21) hx hb dX12_price_7 rfl (fun _ => ?_) (fun h => absurd h cq_eq_0_0)
    refine lv_iconst (v := 0) hx hb dX12_price_21 kic_0 ?_
    exact W.zret (v := 0) hx hb hr rfl (fun t ht hW => ⟨⟨0, (cn, In, Fn), rfl, (Or.inr ⟨(by first | (first | omega | (have zz0 := Hid.u hi_cn; omega)) | (simp only [zd0]; (first | omega | (have zz0 := Hid.u hi_cn; omega)))), rfl, rfl, rfl, rfl⟩), by rw [ht]; exact hP, hD⟩, hS.F ht⟩) hS.2.2 dX12_price_22
set_option maxRecDepth 100000 in
set_option maxHeartbeats 4000000 in
theorem q_street (l : Launch) (D : va_G) (cI cB cZ : ClassId) (g : Nat → Nat) (cn : Nat → Nat) (In : Nat → Int32) (Fn : Nat → Nat → Int32) (v0 v1 : Int32) (sz : Nat) (hI : IM cn Fn) : Met l yX12_street (CWS yX12_street cX12_street 3 (some .boolean)) (RM 1 0 0) (PBw [.ref (g 100), .int v0, .int v1] D cI cB cZ (wM cI cB cZ g cn In Fn) sz) (va_Qi (fun (r : Int32) (u : (Nat → Nat) × (Nat → Int32) × (Nat → Nat → Int32)) => (fun r c2 I2 F2 => (((0 ≤ v0.toInt ∧ v0.toInt < (cn 1 : Int)) ∧ (0 ≤ v1.toInt ∧ v1.toInt ≤ 9)) ∧ r = 1 ∧ c2 = cn ∧ I2 = In ∧ F2 = (va_up Fn 40 (upd (Fn 40) v0.toInt.toNat v1))) ∨ ((¬ ((0 ≤ v0.toInt ∧ v0.toInt < (cn 1 : Int)) ∧ (0 ≤ v1.toInt ∧ v1.toInt ≤ 9))) ∧ r = 0 ∧ c2 = cn ∧ I2 = In ∧ F2 = Fn)) r u.1 u.2.1 u.2.2) (fun (u : (Nat → Nat) × (Nat → Int32) × (Nat → Nat → Int32)) (t : State) => va_P D vwCl (wM cI cB cZ g u.1 u.2.1 u.2.2) t.heap ∧ va_D (va_A (wM cI cB cZ g cn In Fn) sz) (wM cI cB cZ g u.1 u.2.1 u.2.2)) (va_A (wM cI cB cZ g cn In Fn) sz)) 0 0 (va_A (wM cI cB cZ g cn In Fn) sz) := by
  refine en_w (fun A => (va_Qi (fun (r : Int32) (u : (Nat → Nat) × (Nat → Int32) × (Nat → Nat → Int32)) => (fun (r : Int32) (c2 : Nat → Nat) (I2 : Nat → Int32) (F2 : Nat → Nat → Int32) => (((0 ≤ v0.toInt ∧ v0.toInt < (cn 1 : Int)) ∧ (0 ≤ v1.toInt ∧ v1.toInt ≤ 9)) ∧ r = 1 ∧ c2 = cn ∧ I2 = In ∧ F2 = (va_up Fn 40 (upd (Fn 40) v0.toInt.toNat v1))) ∨ ((¬ ((0 ≤ v0.toInt ∧ v0.toInt < (cn 1 : Int)) ∧ (0 ≤ v1.toInt ∧ v1.toInt ≤ 9))) ∧ r = 0 ∧ c2 = cn ∧ I2 = In ∧ F2 = Fn)) r u.1 u.2.1 u.2.2) (fun (u : (Nat → Nat) × (Nat → Int32) × (Nat → Nat → Int32)) (t : State) => va_P D vwCl (wM cI cB cZ g u.1 u.2.1 u.2.2) t.heap ∧ va_D A (wM cI cB cZ g u.1 u.2.1 u.2.2)) A)) rfl rfl pn_RX12 (Nat.le_of_ble_eq_true rfl) (fun p e s m below meth c A hx hb hml hown S hr hlocks hnm hA hP hK hD hS ls hl => ?_)
  have hl : lv_has ls 3 [(0, .ref (g 100)), (1, .int v0), (2, .int v1)] := hl
  have hi_cn : Hid (CB cn) := hI.b
  refine lv_aload_n hx hb dX12_street_0 rfl (lvA0 hl) ?_
  refine lv_iload_n hx hb dX12_street_1 rfl (lvA1 hl) ?_
  refine vp_callSi (runV_ra (As := [.int v0]) (rest := []) S (q_isKitchen l D cI cB cZ g cn In Fn v0 hI) kV_RX12_218 hK hP 0 rfl rfl rfl ⟨Nat.le_of_ble_eq_true rfl, Nat.le_of_ble_eq_true rfl⟩ ⟨Nat.le_of_ble_eq_true rfl, Nat.le_of_ble_eq_true rfl⟩ rfl hl.1 rfl (Nat.le_of_ble_eq_true rfl) dX12_street_2) (fun r_1 h_2 => ?_)
  rcases h_2 with ⟨rfl, h_2⟩ | ⟨rfl, h_2⟩
  ·
    have h_2 : 0 ≤ v0.toInt ∧ v0.toInt < ((cn 1) : Int) := h_2
    refine lv_if_eq (tgt := 18) hx hb dX12_street_5 rfl (fun h => absurd h cq_eq_1_0) (fun _ => ?_)
    obtain ⟨d0, hd0, rfl⟩ := nI_of (x := v0) (fun q => by have := Int32.lt_iff_toInt_lt.mp q; have e : (0 : Int32).toInt = 0 := rfl; (first | omega | (have zz0 := Hid.u hi_cn; omega)))
    have td0 : (nI d0).toInt = (d0 : Int) := nI_toInt hd0
    have zd0 : (nI d0).toInt.toNat = d0 := by (first | omega | (have zz0 := Hid.u hi_cn; omega))
    refine lv_iload_n hx hb dX12_street_8 rfl (lvA2 hl) ?_
    refine lv_iconst (v := 0) hx hb dX12_street_9 kic_0 ?_
    refine lv_bipush (v := 9) hx hb dX12_street_10 kbc_9 ?_
    refine vp_callSi (runS_r (As := [.int v1, .int 0, .int 9]) (rest := []) S (q_in l D cI cB cZ v1 0 9 ) kS_RX12_214 hK hP [] rfl ⟨Nat.le_of_ble_eq_true rfl, Nat.le_of_ble_eq_true rfl⟩ ⟨Nat.le_of_ble_eq_true rfl, Nat.le_of_ble_eq_true rfl⟩ rfl hl.1 rfl (Nat.le_of_ble_eq_true rfl) dX12_street_12) (fun r_3 h_4 => ?_)
    rcases h_4 with ⟨rfl, h_4⟩ | ⟨rfl, h_4⟩
    ·
      have h_4 : 0 ≤ v1.toInt ∧ v1.toInt ≤ 9 := h_4
      refine lv_if_ne (tgt := 20) hx hb dX12_street_15 rfl (fun _ => ?_) (fun h => absurd h cq_eq_1_0)
      refine lv_aload_n hx hb dX12_street_20 rfl (lvA0 hl) ?_
      refine gM_95 S hK hP (v := .ref (g 40)) rfl dX12_street_21 ?_
      refine lv_iload_n hx hb dX12_street_24 rfl (lvA1 hl) ?_
      refine lv_iload_n hx hb dX12_street_25 rfl (lvA2 hl) ?_
      have kb_1 : d0 < 10 := by (first | omega | (have zz0 := Hid.u hi_cn; omega))
      refine stM_40 hx hb hK hP hD hS (Fn2 := (va_up Fn 40 (upd (Fn 40) d0 v1))) (vp_in_nI kb_1 (ltb rfl)) (nI_clamp (Nat.lt_trans kb_1 (ltb rfl))) rfl dX12_street_26 (fun H locs hP hD hS => ?_)
      refine lv_iconst (v := 1) hx hb dX12_street_27 kic_1 ?_
      exact W.zret (v := 1) hx hb hr rfl (fun t ht hW => ⟨⟨1, (cn, In, (va_up Fn 40 (upd (Fn 40) d0 v1))), rfl, (Or.inl ⟨(by first | (first | omega | (have zz0 := Hid.u hi_cn; omega)) | (simp only [zd0]; (first | omega | (have zz0 := Hid.u hi_cn; omega)))), rfl, rfl, rfl, by first | rfl | simp only [zd0, zd1] | simp only [zd0]⟩), by rw [ht]; exact hP, hD⟩, hS.F ht⟩) hS.2.2 dX12_street_28
    ·
      have h_4 : ¬ (0 ≤ v1.toInt ∧ v1.toInt ≤ 9) := h_4
      refine lv_if_ne (tgt := 20) hx hb dX12_street_15 rfl (fun h => absurd h cq_eq_0_0) (fun _ => ?_)
      refine lv_iconst (v := 0) hx hb dX12_street_18 kic_0 ?_
      exact W.zret (v := 0) hx hb hr rfl (fun t ht hW => ⟨⟨0, (cn, In, Fn), rfl, (Or.inr ⟨(by first | (first | omega | (have zz0 := Hid.u hi_cn; omega)) | (simp only [zd0]; (first | omega | (have zz0 := Hid.u hi_cn; omega)))), rfl, rfl, rfl, rfl⟩), by rw [ht]; exact hP, hD⟩, hS.F ht⟩) hS.2.2 dX12_street_19
  ·
    have h_2 : ¬ (0 ≤ v0.toInt ∧ v0.toInt < ((cn 1) : Int)) := h_2
    refine lv_if_eq (tgt := 18) hx hb dX12_street_5 rfl (fun _ => ?_) (fun h => absurd h cq_eq_0_0)
    refine lv_iconst (v := 0) hx hb dX12_street_18 kic_0 ?_
    exact W.zret (v := 0) hx hb hr rfl (fun t ht hW => ⟨⟨0, (cn, In, Fn), rfl, (Or.inr ⟨(by first | (first | omega | (have zz0 := Hid.u hi_cn; omega)) | (simp only [zd0]; (first | omega | (have zz0 := Hid.u hi_cn; omega)))), rfl, rfl, rfl, rfl⟩), by rw [ht]; exact hP, hD⟩, hS.F ht⟩) hS.2.2 dX12_street_19
set_option maxRecDepth 100000 in
set_option maxHeartbeats 4000000 in
theorem q_feast (l : Launch) (D : va_G) (cI cB cZ : ClassId) (g : Nat → Nat) (cn : Nat → Nat) (In : Nat → Int32) (Fn : Nat → Nat → Int32) (v0 v1 : Int32) (sz : Nat) (hI : IM cn Fn) : Met l yX12_feast (CWS yX12_feast cX12_feast 3 (some .boolean)) (RM 1 0 0) (PBw [.ref (g 100), .int v0, .int v1] D cI cB cZ (wM cI cB cZ g cn In Fn) sz) (va_Qi (fun (r : Int32) (u : (Nat → Nat) × (Nat → Int32) × (Nat → Nat → Int32)) => (fun r c2 I2 F2 => (((0 ≤ v0.toInt ∧ v0.toInt ≤ 399) ∧ (0 ≤ v1.toInt ∧ v1.toInt ≤ 300)) ∧ r = 1 ∧ c2 = cn ∧ I2 = In ∧ F2 = (va_up Fn 41 (upd (Fn 41) v0.toInt.toNat v1))) ∨ ((¬ ((0 ≤ v0.toInt ∧ v0.toInt ≤ 399) ∧ (0 ≤ v1.toInt ∧ v1.toInt ≤ 300))) ∧ r = 0 ∧ c2 = cn ∧ I2 = In ∧ F2 = Fn)) r u.1 u.2.1 u.2.2) (fun (u : (Nat → Nat) × (Nat → Int32) × (Nat → Nat → Int32)) (t : State) => va_P D vwCl (wM cI cB cZ g u.1 u.2.1 u.2.2) t.heap ∧ va_D (va_A (wM cI cB cZ g cn In Fn) sz) (wM cI cB cZ g u.1 u.2.1 u.2.2)) (va_A (wM cI cB cZ g cn In Fn) sz)) 0 0 (va_A (wM cI cB cZ g cn In Fn) sz) := by
  refine en_w (fun A => (va_Qi (fun (r : Int32) (u : (Nat → Nat) × (Nat → Int32) × (Nat → Nat → Int32)) => (fun (r : Int32) (c2 : Nat → Nat) (I2 : Nat → Int32) (F2 : Nat → Nat → Int32) => (((0 ≤ v0.toInt ∧ v0.toInt ≤ 399) ∧ (0 ≤ v1.toInt ∧ v1.toInt ≤ 300)) ∧ r = 1 ∧ c2 = cn ∧ I2 = In ∧ F2 = (va_up Fn 41 (upd (Fn 41) v0.toInt.toNat v1))) ∨ ((¬ ((0 ≤ v0.toInt ∧ v0.toInt ≤ 399) ∧ (0 ≤ v1.toInt ∧ v1.toInt ≤ 300))) ∧ r = 0 ∧ c2 = cn ∧ I2 = In ∧ F2 = Fn)) r u.1 u.2.1 u.2.2) (fun (u : (Nat → Nat) × (Nat → Int32) × (Nat → Nat → Int32)) (t : State) => va_P D vwCl (wM cI cB cZ g u.1 u.2.1 u.2.2) t.heap ∧ va_D A (wM cI cB cZ g u.1 u.2.1 u.2.2)) A)) rfl rfl pn_RX12 (Nat.le_of_ble_eq_true rfl) (fun p e s m below meth c A hx hb hml hown S hr hlocks hnm hA hP hK hD hS ls hl => ?_)
  have hl : lv_has ls 3 [(0, .ref (g 100)), (1, .int v0), (2, .int v1)] := hl
  have hi_cn : Hid (CB cn) := hI.b
  refine lv_iload_n hx hb dX12_feast_0 rfl (lvA1 hl) ?_
  refine vp_callSi (runS_r (As := [.int v0]) (rest := []) S (q_isDay l D cI cB cZ v0 ) kS_RX12_341 hK hP [] rfl ⟨Nat.le_of_ble_eq_true rfl, Nat.le_of_ble_eq_true rfl⟩ ⟨Nat.le_of_ble_eq_true rfl, Nat.le_of_ble_eq_true rfl⟩ rfl hl.1 rfl (Nat.le_of_ble_eq_true rfl) dX12_feast_1) (fun r_1 h_2 => ?_)
  rcases h_2 with ⟨rfl, h_2⟩ | ⟨rfl, h_2⟩
  ·
    have h_2 : 0 ≤ v0.toInt ∧ v0.toInt ≤ 399 := h_2
    refine lv_if_eq (tgt := 18) hx hb dX12_feast_4 rfl (fun h => absurd h cq_eq_1_0) (fun _ => ?_)
    obtain ⟨d0, hd0, rfl⟩ := nI_of (x := v0) (fun q => by have := Int32.lt_iff_toInt_lt.mp q; have e : (0 : Int32).toInt = 0 := rfl; (first | omega | (have zz0 := Hid.u hi_cn; omega)))
    have td0 : (nI d0).toInt = (d0 : Int) := nI_toInt hd0
    have zd0 : (nI d0).toInt.toNat = d0 := by (first | omega | (have zz0 := Hid.u hi_cn; omega))
    refine lv_iload_n hx hb dX12_feast_7 rfl (lvA2 hl) ?_
    refine lv_iconst (v := 0) hx hb dX12_feast_8 kic_0 ?_
    refine lv_sipush (v := 300) hx hb dX12_feast_9 (by decide) ?_
    refine vp_callSi (runS_r (As := [.int v1, .int 0, .int 300]) (rest := []) S (q_in l D cI cB cZ v1 0 300 ) kS_RX12_214 hK hP [] rfl ⟨Nat.le_of_ble_eq_true rfl, Nat.le_of_ble_eq_true rfl⟩ ⟨Nat.le_of_ble_eq_true rfl, Nat.le_of_ble_eq_true rfl⟩ rfl hl.1 rfl (Nat.le_of_ble_eq_true rfl) dX12_feast_12) (fun r_3 h_4 => ?_)
    rcases h_4 with ⟨rfl, h_4⟩ | ⟨rfl, h_4⟩
    ·
      have h_4 : 0 ≤ v1.toInt ∧ v1.toInt ≤ 300 := h_4
      refine lv_if_ne (tgt := 20) hx hb dX12_feast_15 rfl (fun _ => ?_) (fun h => absurd h cq_eq_1_0)
      refine lv_aload_n hx hb dX12_feast_20 rfl (lvA0 hl) ?_
      refine gM_98 S hK hP (v := .ref (g 41)) rfl dX12_feast_21 ?_
      refine lv_iload_n hx hb dX12_feast_24 rfl (lvA1 hl) ?_
      refine lv_iload_n hx hb dX12_feast_25 rfl (lvA2 hl) ?_
      have kb_1 : d0 < 400 := by (first | omega | (have zz0 := Hid.u hi_cn; omega))
      refine stM_41 hx hb hK hP hD hS (Fn2 := (va_up Fn 41 (upd (Fn 41) d0 v1))) (vp_in_nI kb_1 (ltb rfl)) (nI_clamp (Nat.lt_trans kb_1 (ltb rfl))) rfl dX12_feast_26 (fun H locs hP hD hS => ?_)
      refine lv_iconst (v := 1) hx hb dX12_feast_27 kic_1 ?_
      exact W.zret (v := 1) hx hb hr rfl (fun t ht hW => ⟨⟨1, (cn, In, (va_up Fn 41 (upd (Fn 41) d0 v1))), rfl, (Or.inl ⟨(by first | (first | omega | (have zz0 := Hid.u hi_cn; omega)) | (simp only [zd0]; (first | omega | (have zz0 := Hid.u hi_cn; omega)))), rfl, rfl, rfl, by first | rfl | simp only [zd0, zd1] | simp only [zd0]⟩), by rw [ht]; exact hP, hD⟩, hS.F ht⟩) hS.2.2 dX12_feast_28
    ·
      have h_4 : ¬ (0 ≤ v1.toInt ∧ v1.toInt ≤ 300) := h_4
      refine lv_if_ne (tgt := 20) hx hb dX12_feast_15 rfl (fun h => absurd h cq_eq_0_0) (fun _ => ?_)
      refine lv_iconst (v := 0) hx hb dX12_feast_18 kic_0 ?_
      exact W.zret (v := 0) hx hb hr rfl (fun t ht hW => ⟨⟨0, (cn, In, Fn), rfl, (Or.inr ⟨(by first | (first | omega | (have zz0 := Hid.u hi_cn; omega)) | (simp only [zd0]; (first | omega | (have zz0 := Hid.u hi_cn; omega)))), rfl, rfl, rfl, rfl⟩), by rw [ht]; exact hP, hD⟩, hS.F ht⟩) hS.2.2 dX12_feast_19
  ·
    have h_2 : ¬ (0 ≤ v0.toInt ∧ v0.toInt ≤ 399) := h_2
    refine lv_if_eq (tgt := 18) hx hb dX12_feast_4 rfl (fun _ => ?_) (fun h => absurd h cq_eq_0_0)
    refine lv_iconst (v := 0) hx hb dX12_feast_18 kic_0 ?_
    exact W.zret (v := 0) hx hb hr rfl (fun t ht hW => ⟨⟨0, (cn, In, Fn), rfl, (Or.inr ⟨(by first | (first | omega | (have zz0 := Hid.u hi_cn; omega)) | (simp only [zd0]; (first | omega | (have zz0 := Hid.u hi_cn; omega)))), rfl, rfl, rfl, rfl⟩), by rw [ht]; exact hP, hD⟩, hS.F ht⟩) hS.2.2 dX12_feast_19
set_option maxRecDepth 100000 in
set_option maxHeartbeats 4000000 in
theorem q_lorry (l : Launch) (D : va_G) (cI cB cZ : ClassId) (g : Nat → Nat) (cn : Nat → Nat) (In : Nat → Int32) (Fn : Nat → Nat → Int32) (v0 : Int32) (sz : Nat) (hI : IM cn Fn) : Met l yX12_lorry (CWS yX12_lorry cX12_lorry 2 (some .int)) (RM 1 0 0) (PBw [.ref (g 100), .int v0] D cI cB cZ (wM cI cB cZ g cn In Fn) sz) (va_Qi (fun (r : Int32) (u : (Nat → Nat) × (Nat → Int32) × (Nat → Nat → Int32)) => (fun r c2 I2 F2 => (((20 ≤ v0.toInt ∧ v0.toInt ≤ 2000) ∧ cn 46 < 3) ∧ r = nI (cn 46) ∧ c2 = va_up cn 46 (cn 46 + 1) ∧ I2 = In ∧ F2 = (va_up Fn 47 (upd (Fn 47) (cn 46) v0))) ∨ ((¬ ((20 ≤ v0.toInt ∧ v0.toInt ≤ 2000) ∧ cn 46 < 3)) ∧ r = -1 ∧ c2 = cn ∧ I2 = In ∧ F2 = Fn)) r u.1 u.2.1 u.2.2) (fun (u : (Nat → Nat) × (Nat → Int32) × (Nat → Nat → Int32)) (t : State) => va_P D vwCl (wM cI cB cZ g u.1 u.2.1 u.2.2) t.heap ∧ va_D (va_A (wM cI cB cZ g cn In Fn) sz) (wM cI cB cZ g u.1 u.2.1 u.2.2)) (va_A (wM cI cB cZ g cn In Fn) sz)) 0 0 (va_A (wM cI cB cZ g cn In Fn) sz) := by
  refine en_w (fun A => (va_Qi (fun (r : Int32) (u : (Nat → Nat) × (Nat → Int32) × (Nat → Nat → Int32)) => (fun (r : Int32) (c2 : Nat → Nat) (I2 : Nat → Int32) (F2 : Nat → Nat → Int32) => (((20 ≤ v0.toInt ∧ v0.toInt ≤ 2000) ∧ cn 46 < 3) ∧ r = nI (cn 46) ∧ c2 = va_up cn 46 (cn 46 + 1) ∧ I2 = In ∧ F2 = (va_up Fn 47 (upd (Fn 47) (cn 46) v0))) ∨ ((¬ ((20 ≤ v0.toInt ∧ v0.toInt ≤ 2000) ∧ cn 46 < 3)) ∧ r = -1 ∧ c2 = cn ∧ I2 = In ∧ F2 = Fn)) r u.1 u.2.1 u.2.2) (fun (u : (Nat → Nat) × (Nat → Int32) × (Nat → Nat → Int32)) (t : State) => va_P D vwCl (wM cI cB cZ g u.1 u.2.1 u.2.2) t.heap ∧ va_D A (wM cI cB cZ g u.1 u.2.1 u.2.2)) A)) rfl rfl pn_RX12 (Nat.le_of_ble_eq_true rfl) (fun p e s m below meth c A hx hb hml hown S hr hlocks hnm hA hP hK hD hS ls hl => ?_)
  have hl : lv_has ls 2 [(0, .ref (g 100)), (1, .int v0)] := hl
  have hi_cn : Hid (CB cn) := hI.b
  refine lv_iload_n hx hb dX12_lorry_0 rfl (lvA1 hl) ?_
  refine lv_bipush (v := 20) hx hb dX12_lorry_1 kbc_20 ?_
  refine lv_sipush (v := 2000) hx hb dX12_lorry_3 (by decide) ?_
  refine vp_callSi (runS_r (As := [.int v0, .int 20, .int 2000]) (rest := []) S (q_in l D cI cB cZ v0 20 2000 ) kS_RX12_214 hK hP [] rfl ⟨Nat.le_of_ble_eq_true rfl, Nat.le_of_ble_eq_true rfl⟩ ⟨Nat.le_of_ble_eq_true rfl, Nat.le_of_ble_eq_true rfl⟩ rfl hl.1 rfl (Nat.le_of_ble_eq_true rfl) dX12_lorry_6) (fun r_1 h_2 => ?_)
  rcases h_2 with ⟨rfl, h_2⟩ | ⟨rfl, h_2⟩
  ·
    have h_2 : 20 ≤ v0.toInt ∧ v0.toInt ≤ 2000 := h_2
    refine lv_if_eq (tgt := 20) hx hb dX12_lorry_9 rfl (fun h => absurd h cq_eq_1_0) (fun _ => ?_)
    refine lv_aload_n hx hb dX12_lorry_12 rfl (lvA0 hl) ?_
    refine gM_386 S hK hP (v := .int (nI (cn 46))) rfl dX12_lorry_13 ?_
    refine lv_iconst (v := 3) hx hb dX12_lorry_16 kic_3 ?_
    have : (nI (cn 46)).toInt = (((cn 46) : Nat) : Int) := nI_toInt (by (first | omega | (have zz0 := Hid.u hi_cn; omega)))
    refine lv_icmp_ne (tgt := 22) hx hb dX12_lorry_17 rfl (fun c_3 => ?_) (fun c_3 => ?_)
    ·
      have tc_3 : ((nI (cn 46)).toInt : Int) ≠ 3 := fun q => c_3 (Int32.toInt_inj.mp q)
      refine lv_aload_n hx hb dX12_lorry_22 rfl (lvA0 hl) ?_
      refine gM_107 S hK hP (v := .ref (g 47)) rfl dX12_lorry_23 ?_
      refine lv_aload_n hx hb dX12_lorry_26 rfl (lvA0 hl) ?_
      refine gM_386 S hK hP (v := .int (nI (cn 46))) rfl dX12_lorry_27 ?_
      refine lv_iload_n hx hb dX12_lorry_30 rfl (lvA1 hl) ?_
      have kb_1 : (cn 46) < 3 := by (first | omega | (have zz0 := Hid.u hi_cn; omega))
      refine stM_47 hx hb hK hP hD hS (Fn2 := (va_up Fn 47 (upd (Fn 47) (cn 46) v0))) (vp_in_nI kb_1 (ltb rfl)) (nI_clamp (Nat.lt_trans kb_1 (ltb rfl))) rfl dX12_lorry_31 (fun H locs hP hD hS => ?_)
      refine lv_aload_n hx hb dX12_lorry_32 rfl (lvA0 hl) ?_
      refine lv_aload_n hx hb dX12_lorry_33 rfl (lvA0 hl) ?_
      refine gM_386 S hK hP (v := .int (nI (cn 46))) rfl dX12_lorry_34 ?_
      refine lv_iconst (v := 1) hx hb dX12_lorry_37 kic_1 ?_
      refine lv_iadd hx hb dX12_lorry_38 ?_
      refine lv_topi (fun y_4 ey_4 => ?_)
      obtain rfl : y_4 = (nI ((cn 46) + 1)) := ey_4.trans (nI_add (cn 46) 1)
      refine pM_386 S hK hP hD hS (a := ((cn 46) + 1)) (cn2 := (va_up cn 46 ((cn 46) + 1))) rfl rfl dX12_lorry_39 (fun H locs hP hD hS => ?_)
      refine lv_aload_n hx hb dX12_lorry_42 rfl (lvA0 hl) ?_
      refine gM_386 S hK hP (v := .int (nI ((cn 46) + 1))) rfl dX12_lorry_43 ?_
      refine lv_iconst (v := 1) hx hb dX12_lorry_46 kic_1 ?_
      refine lv_isub hx hb dX12_lorry_47 ?_
      refine lv_topi (fun y_5 ey_5 => ?_)
      obtain rfl : y_5 = (nI (cn 46)) := ey_5.trans (nI_pred _)
      exact W.iret (v := (nI (cn 46))) hx hb hr (fun t ht hW => ⟨⟨(nI (cn 46)), ((va_up cn 46 ((cn 46) + 1)), In, (va_up Fn 47 (upd (Fn 47) (cn 46) v0))), rfl, (Or.inl ⟨(by first | (first | omega | (have zz0 := Hid.u hi_cn; omega)) | (simp only [zd0]; (first | omega | (have zz0 := Hid.u hi_cn; omega)))), rfl, rfl, rfl, by first | rfl | simp only [zd0, zd1] | simp only [zd0]⟩), by rw [ht]; exact hP, hD⟩, hS.F ht⟩) hS.2.2 dX12_lorry_48
    ·
      have tc_3 : ((nI (cn 46)).toInt : Int) = 3 := congrArg Int32.toInt c_3
      refine lv_iconst (v := (-1)) hx hb dX12_lorry_20 kic_m1 ?_
      exact W.iret (v := (-1)) hx hb hr (fun t ht hW => ⟨⟨(-1), (cn, In, Fn), rfl, (Or.inr ⟨(by first | (first | omega | (have zz0 := Hid.u hi_cn; omega)) | (simp only [zd0]; (first | omega | (have zz0 := Hid.u hi_cn; omega)))), rfl, rfl, rfl, rfl⟩), by rw [ht]; exact hP, hD⟩, hS.F ht⟩) hS.2.2 dX12_lorry_21
  ·
    have h_2 : ¬ (20 ≤ v0.toInt ∧ v0.toInt ≤ 2000) := h_2
    refine lv_if_eq (tgt := 20) hx hb dX12_lorry_9 rfl (fun _ => ?_) (fun h => absurd h cq_eq_0_0)
    refine lv_iconst (v := (-1)) hx hb dX12_lorry_20 kic_m1 ?_
    exact W.iret (v := (-1)) hx hb hr (fun t ht hW => ⟨⟨(-1), (cn, In, Fn), rfl, (Or.inr ⟨(by first | (first | omega | (have zz0 := Hid.u hi_cn; omega)) | (simp only [zd0]; (first | omega | (have zz0 := Hid.u hi_cn; omega)))), rfl, rfl, rfl, rfl⟩), by rw [ht]; exact hP, hD⟩, hS.F ht⟩) hS.2.2 dX12_lorry_21
set_option maxRecDepth 100000 in
set_option maxHeartbeats 4000000 in
theorem q_use (l : Launch) (D : va_G) (cI cB cZ : ClassId) (g : Nat → Nat) (cn : Nat → Nat) (In : Nat → Int32) (Fn : Nat → Nat → Int32) (v0 v1 : Int32) (sz : Nat) (hI : IM cn Fn) : Met l yX12_use (CWS yX12_use cX12_use 3 (some .boolean)) (RM 1 0 0) (PBw [.ref (g 100), .int v0, .int v1] D cI cB cZ (wM cI cB cZ g cn In Fn) sz) (va_Qi (fun (r : Int32) (u : (Nat → Nat) × (Nat → Int32) × (Nat → Nat → Int32)) => (fun r c2 I2 F2 => (((0 ≤ v0.toInt ∧ v0.toInt ≤ 9) ∧ (0 ≤ v1.toInt ∧ v1.toInt ≤ 3)) ∧ r = 1 ∧ c2 = cn ∧ I2 = In ∧ F2 = (va_up Fn 76 (upd (Fn 76) v0.toInt.toNat v1))) ∨ ((¬ ((0 ≤ v0.toInt ∧ v0.toInt ≤ 9) ∧ (0 ≤ v1.toInt ∧ v1.toInt ≤ 3))) ∧ r = 0 ∧ c2 = cn ∧ I2 = In ∧ F2 = Fn)) r u.1 u.2.1 u.2.2) (fun (u : (Nat → Nat) × (Nat → Int32) × (Nat → Nat → Int32)) (t : State) => va_P D vwCl (wM cI cB cZ g u.1 u.2.1 u.2.2) t.heap ∧ va_D (va_A (wM cI cB cZ g cn In Fn) sz) (wM cI cB cZ g u.1 u.2.1 u.2.2)) (va_A (wM cI cB cZ g cn In Fn) sz)) 0 0 (va_A (wM cI cB cZ g cn In Fn) sz) := by
  refine en_w (fun A => (va_Qi (fun (r : Int32) (u : (Nat → Nat) × (Nat → Int32) × (Nat → Nat → Int32)) => (fun (r : Int32) (c2 : Nat → Nat) (I2 : Nat → Int32) (F2 : Nat → Nat → Int32) => (((0 ≤ v0.toInt ∧ v0.toInt ≤ 9) ∧ (0 ≤ v1.toInt ∧ v1.toInt ≤ 3)) ∧ r = 1 ∧ c2 = cn ∧ I2 = In ∧ F2 = (va_up Fn 76 (upd (Fn 76) v0.toInt.toNat v1))) ∨ ((¬ ((0 ≤ v0.toInt ∧ v0.toInt ≤ 9) ∧ (0 ≤ v1.toInt ∧ v1.toInt ≤ 3))) ∧ r = 0 ∧ c2 = cn ∧ I2 = In ∧ F2 = Fn)) r u.1 u.2.1 u.2.2) (fun (u : (Nat → Nat) × (Nat → Int32) × (Nat → Nat → Int32)) (t : State) => va_P D vwCl (wM cI cB cZ g u.1 u.2.1 u.2.2) t.heap ∧ va_D A (wM cI cB cZ g u.1 u.2.1 u.2.2)) A)) rfl rfl pn_RX12 (Nat.le_of_ble_eq_true rfl) (fun p e s m below meth c A hx hb hml hown S hr hlocks hnm hA hP hK hD hS ls hl => ?_)
  have hl : lv_has ls 3 [(0, .ref (g 100)), (1, .int v0), (2, .int v1)] := hl
  have hi_cn : Hid (CB cn) := hI.b
  refine lv_iload_n hx hb dX12_use_0 rfl (lvA1 hl) ?_
  refine lv_iconst (v := 0) hx hb dX12_use_1 kic_0 ?_
  refine lv_bipush (v := 9) hx hb dX12_use_2 kbc_9 ?_
  refine vp_callSi (runS_r (As := [.int v0, .int 0, .int 9]) (rest := []) S (q_in l D cI cB cZ v0 0 9 ) kS_RX12_214 hK hP [] rfl ⟨Nat.le_of_ble_eq_true rfl, Nat.le_of_ble_eq_true rfl⟩ ⟨Nat.le_of_ble_eq_true rfl, Nat.le_of_ble_eq_true rfl⟩ rfl hl.1 rfl (Nat.le_of_ble_eq_true rfl) dX12_use_4) (fun r_1 h_2 => ?_)
  rcases h_2 with ⟨rfl, h_2⟩ | ⟨rfl, h_2⟩
  ·
    have h_2 : 0 ≤ v0.toInt ∧ v0.toInt ≤ 9 := h_2
    refine lv_if_eq (tgt := 19) hx hb dX12_use_7 rfl (fun h => absurd h cq_eq_1_0) (fun _ => ?_)
    obtain ⟨d0, hd0, rfl⟩ := nI_of (x := v0) (fun q => by have := Int32.lt_iff_toInt_lt.mp q; have e : (0 : Int32).toInt = 0 := rfl; (first | omega | (have zz0 := Hid.u hi_cn; omega)))
    have td0 : (nI d0).toInt = (d0 : Int) := nI_toInt hd0
    have zd0 : (nI d0).toInt.toNat = d0 := by (first | omega | (have zz0 := Hid.u hi_cn; omega))
    refine lv_iload_n hx hb dX12_use_10 rfl (lvA2 hl) ?_
    refine lv_iconst (v := 0) hx hb dX12_use_11 kic_0 ?_
    refine lv_iconst (v := 3) hx hb dX12_use_12 kic_3 ?_
    refine vp_callSi (runS_r (As := [.int v1, .int 0, .int 3]) (rest := []) S (q_in l D cI cB cZ v1 0 3 ) kS_RX12_214 hK hP [] rfl ⟨Nat.le_of_ble_eq_true rfl, Nat.le_of_ble_eq_true rfl⟩ ⟨Nat.le_of_ble_eq_true rfl, Nat.le_of_ble_eq_true rfl⟩ rfl hl.1 rfl (Nat.le_of_ble_eq_true rfl) dX12_use_13) (fun r_3 h_4 => ?_)
    rcases h_4 with ⟨rfl, h_4⟩ | ⟨rfl, h_4⟩
    ·
      have h_4 : 0 ≤ v1.toInt ∧ v1.toInt ≤ 3 := h_4
      refine lv_if_ne (tgt := 21) hx hb dX12_use_16 rfl (fun _ => ?_) (fun h => absurd h cq_eq_1_0)
      refine lv_aload_n hx hb dX12_use_21 rfl (lvA0 hl) ?_
      refine gM_162 S hK hP (v := .ref (g 76)) rfl dX12_use_22 ?_
      refine lv_iload_n hx hb dX12_use_25 rfl (lvA1 hl) ?_
      refine lv_iload_n hx hb dX12_use_26 rfl (lvA2 hl) ?_
      have kb_1 : d0 < 10 := by (first | omega | (have zz0 := Hid.u hi_cn; omega))
      refine stM_76 hx hb hK hP hD hS (Fn2 := (va_up Fn 76 (upd (Fn 76) d0 v1))) (vp_in_nI kb_1 (ltb rfl)) (nI_clamp (Nat.lt_trans kb_1 (ltb rfl))) rfl dX12_use_27 (fun H locs hP hD hS => ?_)
      refine lv_iconst (v := 1) hx hb dX12_use_28 kic_1 ?_
      exact W.zret (v := 1) hx hb hr rfl (fun t ht hW => ⟨⟨1, (cn, In, (va_up Fn 76 (upd (Fn 76) d0 v1))), rfl, (Or.inl ⟨(by first | (first | omega | (have zz0 := Hid.u hi_cn; omega)) | (simp only [zd0]; (first | omega | (have zz0 := Hid.u hi_cn; omega)))), rfl, rfl, rfl, by first | rfl | simp only [zd0, zd1] | simp only [zd0]⟩), by rw [ht]; exact hP, hD⟩, hS.F ht⟩) hS.2.2 dX12_use_29
    ·
      have h_4 : ¬ (0 ≤ v1.toInt ∧ v1.toInt ≤ 3) := h_4
      refine lv_if_ne (tgt := 21) hx hb dX12_use_16 rfl (fun h => absurd h cq_eq_0_0) (fun _ => ?_)
      refine lv_iconst (v := 0) hx hb dX12_use_19 kic_0 ?_
      exact W.zret (v := 0) hx hb hr rfl (fun t ht hW => ⟨⟨0, (cn, In, Fn), rfl, (Or.inr ⟨(by first | (first | omega | (have zz0 := Hid.u hi_cn; omega)) | (simp only [zd0]; (first | omega | (have zz0 := Hid.u hi_cn; omega)))), rfl, rfl, rfl, rfl⟩), by rw [ht]; exact hP, hD⟩, hS.F ht⟩) hS.2.2 dX12_use_20
  ·
    have h_2 : ¬ (0 ≤ v0.toInt ∧ v0.toInt ≤ 9) := h_2
    refine lv_if_eq (tgt := 19) hx hb dX12_use_7 rfl (fun _ => ?_) (fun h => absurd h cq_eq_0_0)
    refine lv_iconst (v := 0) hx hb dX12_use_19 kic_0 ?_
    exact W.zret (v := 0) hx hb hr rfl (fun t ht hW => ⟨⟨0, (cn, In, Fn), rfl, (Or.inr ⟨(by first | (first | omega | (have zz0 := Hid.u hi_cn; omega)) | (simp only [zd0]; (first | omega | (have zz0 := Hid.u hi_cn; omega)))), rfl, rfl, rfl, rfl⟩), by rw [ht]; exact hP, hD⟩, hS.F ht⟩) hS.2.2 dX12_use_20
set_option maxRecDepth 100000 in
set_option maxHeartbeats 4000000 in
theorem q_rate (l : Launch) (D : va_G) (cI cB cZ : ClassId) (g : Nat → Nat) (cn : Nat → Nat) (In : Nat → Int32) (Fn : Nat → Nat → Int32) (v0 v1 v2 : Int32) (sz : Nat) (hI : IM cn Fn) : Met l yX12_rate (CWS yX12_rate cX12_rate 4 (some .boolean)) (RM 1 0 0) (PBw [.ref (g 100), .int v0, .int v1, .int v2] D cI cB cZ (wM cI cB cZ g cn In Fn) sz) (va_Qi (fun (r : Int32) (u : (Nat → Nat) × (Nat → Int32) × (Nat → Nat → Int32)) => (fun r c2 I2 F2 => (((0 ≤ v0.toInt ∧ v0.toInt ≤ 3) ∧ (0 ≤ v1.toInt ∧ v1.toInt ≤ 57) ∧ (0 ≤ v2.toInt ∧ v2.toInt ≤ 1000)) ∧ r = 1 ∧ c2 = cn ∧ I2 = In ∧ F2 = (va_up Fn 77 (upd (Fn 77) (58 * v0.toInt.toNat + v1.toInt.toNat) v2))) ∨ ((¬ ((0 ≤ v0.toInt ∧ v0.toInt ≤ 3) ∧ (0 ≤ v1.toInt ∧ v1.toInt ≤ 57) ∧ (0 ≤ v2.toInt ∧ v2.toInt ≤ 1000))) ∧ r = 0 ∧ c2 = cn ∧ I2 = In ∧ F2 = Fn)) r u.1 u.2.1 u.2.2) (fun (u : (Nat → Nat) × (Nat → Int32) × (Nat → Nat → Int32)) (t : State) => va_P D vwCl (wM cI cB cZ g u.1 u.2.1 u.2.2) t.heap ∧ va_D (va_A (wM cI cB cZ g cn In Fn) sz) (wM cI cB cZ g u.1 u.2.1 u.2.2)) (va_A (wM cI cB cZ g cn In Fn) sz)) 0 0 (va_A (wM cI cB cZ g cn In Fn) sz) := by
  refine en_w (fun A => (va_Qi (fun (r : Int32) (u : (Nat → Nat) × (Nat → Int32) × (Nat → Nat → Int32)) => (fun (r : Int32) (c2 : Nat → Nat) (I2 : Nat → Int32) (F2 : Nat → Nat → Int32) => (((0 ≤ v0.toInt ∧ v0.toInt ≤ 3) ∧ (0 ≤ v1.toInt ∧ v1.toInt ≤ 57) ∧ (0 ≤ v2.toInt ∧ v2.toInt ≤ 1000)) ∧ r = 1 ∧ c2 = cn ∧ I2 = In ∧ F2 = (va_up Fn 77 (upd (Fn 77) (58 * v0.toInt.toNat + v1.toInt.toNat) v2))) ∨ ((¬ ((0 ≤ v0.toInt ∧ v0.toInt ≤ 3) ∧ (0 ≤ v1.toInt ∧ v1.toInt ≤ 57) ∧ (0 ≤ v2.toInt ∧ v2.toInt ≤ 1000))) ∧ r = 0 ∧ c2 = cn ∧ I2 = In ∧ F2 = Fn)) r u.1 u.2.1 u.2.2) (fun (u : (Nat → Nat) × (Nat → Int32) × (Nat → Nat → Int32)) (t : State) => va_P D vwCl (wM cI cB cZ g u.1 u.2.1 u.2.2) t.heap ∧ va_D A (wM cI cB cZ g u.1 u.2.1 u.2.2)) A)) rfl rfl pn_RX12 (Nat.le_of_ble_eq_true rfl) (fun p e s m below meth c A hx hb hml hown S hr hlocks hnm hA hP hK hD hS ls hl => ?_)
  have hl : lv_has ls 4 [(0, .ref (g 100)), (1, .int v0), (2, .int v1), (3, .int v2)] := hl
  have hi_cn : Hid (CB cn) := hI.b
  refine lv_iload_n hx hb dX12_rate_0 rfl (lvA1 hl) ?_
  refine lv_iconst (v := 0) hx hb dX12_rate_1 kic_0 ?_
  refine lv_iconst (v := 3) hx hb dX12_rate_2 kic_3 ?_
  refine vp_callSi (runS_r (As := [.int v0, .int 0, .int 3]) (rest := []) S (q_in l D cI cB cZ v0 0 3 ) kS_RX12_214 hK hP [] rfl ⟨Nat.le_of_ble_eq_true rfl, Nat.le_of_ble_eq_true rfl⟩ ⟨Nat.le_of_ble_eq_true rfl, Nat.le_of_ble_eq_true rfl⟩ rfl hl.1 rfl (Nat.le_of_ble_eq_true rfl) dX12_rate_3) (fun r_1 h_2 => ?_)
  rcases h_2 with ⟨rfl, h_2⟩ | ⟨rfl, h_2⟩
  ·
    have h_2 : 0 ≤ v0.toInt ∧ v0.toInt ≤ 3 := h_2
    refine lv_if_eq (tgt := 30) hx hb dX12_rate_6 rfl (fun h => absurd h cq_eq_1_0) (fun _ => ?_)
    obtain ⟨d0, hd0, rfl⟩ := nI_of (x := v0) (fun q => by have := Int32.lt_iff_toInt_lt.mp q; have e : (0 : Int32).toInt = 0 := rfl; (first | omega | (have zz0 := Hid.u hi_cn; omega)))
    have td0 : (nI d0).toInt = (d0 : Int) := nI_toInt hd0
    have zd0 : (nI d0).toInt.toNat = d0 := by (first | omega | (have zz0 := Hid.u hi_cn; omega))
    refine lv_iload_n hx hb dX12_rate_9 rfl (lvA2 hl) ?_
    refine lv_iconst (v := 0) hx hb dX12_rate_10 kic_0 ?_
    refine lv_bipush (v := 57) hx hb dX12_rate_11 kbc_57 ?_
    refine vp_callSi (runS_r (As := [.int v1, .int 0, .int 57]) (rest := []) S (q_in l D cI cB cZ v1 0 57 ) kS_RX12_214 hK hP [] rfl ⟨Nat.le_of_ble_eq_true rfl, Nat.le_of_ble_eq_true rfl⟩ ⟨Nat.le_of_ble_eq_true rfl, Nat.le_of_ble_eq_true rfl⟩ rfl hl.1 rfl (Nat.le_of_ble_eq_true rfl) dX12_rate_13) (fun r_3 h_4 => ?_)
    rcases h_4 with ⟨rfl, h_4⟩ | ⟨rfl, h_4⟩
    ·
      have h_4 : 0 ≤ v1.toInt ∧ v1.toInt ≤ 57 := h_4
      refine lv_if_eq (tgt := 30) hx hb dX12_rate_16 rfl (fun h => absurd h cq_eq_1_0) (fun _ => ?_)
      obtain ⟨d1, hd1, rfl⟩ := nI_of (x := v1) (fun q => by have := Int32.lt_iff_toInt_lt.mp q; have e : (0 : Int32).toInt = 0 := rfl; (first | omega | (have zz0 := Hid.u hi_cn; omega)))
      have td1 : (nI d1).toInt = (d1 : Int) := nI_toInt hd1
      have zd1 : (nI d1).toInt.toNat = d1 := by (first | omega | (have zz0 := Hid.u hi_cn; omega))
      refine lv_iload_n hx hb dX12_rate_19 rfl (lvA3 hl) ?_
      refine lv_iconst (v := 0) hx hb dX12_rate_20 kic_0 ?_
      refine lv_sipush (v := 1000) hx hb dX12_rate_21 (by decide) ?_
      refine vp_callSi (runS_r (As := [.int v2, .int 0, .int 1000]) (rest := []) S (q_in l D cI cB cZ v2 0 1000 ) kS_RX12_214 hK hP [] rfl ⟨Nat.le_of_ble_eq_true rfl, Nat.le_of_ble_eq_true rfl⟩ ⟨Nat.le_of_ble_eq_true rfl, Nat.le_of_ble_eq_true rfl⟩ rfl hl.1 rfl (Nat.le_of_ble_eq_true rfl) dX12_rate_24) (fun r_5 h_6 => ?_)
      rcases h_6 with ⟨rfl, h_6⟩ | ⟨rfl, h_6⟩
      ·
        have h_6 : 0 ≤ v2.toInt ∧ v2.toInt ≤ 1000 := h_6
        refine lv_if_ne (tgt := 32) hx hb dX12_rate_27 rfl (fun _ => ?_) (fun h => absurd h cq_eq_1_0)
        refine lv_aload_n hx hb dX12_rate_32 rfl (lvA0 hl) ?_
        refine gM_165 S hK hP (v := .ref (g 77)) rfl dX12_rate_33 ?_
        refine lv_bipush (v := 58) hx hb dX12_rate_36 kbc_58 ?_
        refine lv_iload_n hx hb dX12_rate_38 rfl (lvA1 hl) ?_
        refine lv_imul hx hb dX12_rate_39 ?_
        refine lv_topi (fun y_7 ey_7 => ?_)
        obtain rfl : y_7 = (nI (58 * d0)) := ey_7.trans (pk_mul 58 d0)
        refine lv_iload_n hx hb dX12_rate_40 rfl (lvA2 hl) ?_
        refine lv_iadd hx hb dX12_rate_41 ?_
        refine lv_topi (fun y_8 ey_8 => ?_)
        obtain rfl : y_8 = (nI ((58 * d0) + d1)) := ey_8.trans (nI_add (58 * d0) d1)
        refine lv_iload_n hx hb dX12_rate_42 rfl (lvA3 hl) ?_
        have kb_1 : ((58 * d0) + d1) < 232 := by (first | omega | (have zz0 := Hid.u hi_cn; omega))
        refine stM_77 hx hb hK hP hD hS (Fn2 := (va_up Fn 77 (upd (Fn 77) ((58 * d0) + d1) v2))) (vp_in_nI kb_1 (ltb rfl)) (nI_clamp (Nat.lt_trans kb_1 (ltb rfl))) rfl dX12_rate_43 (fun H locs hP hD hS => ?_)
        refine lv_iconst (v := 1) hx hb dX12_rate_44 kic_1 ?_
        exact W.zret (v := 1) hx hb hr rfl (fun t ht hW => ⟨⟨1, (cn, In, (va_up Fn 77 (upd (Fn 77) ((58 * d0) + d1) v2))), rfl, (Or.inl ⟨(by first | (first | omega | (have zz0 := Hid.u hi_cn; omega)) | (simp only [zd0]; (first | omega | (have zz0 := Hid.u hi_cn; omega)))), rfl, rfl, rfl, by first | rfl | simp only [zd0, zd1] | simp only [zd0]⟩), by rw [ht]; exact hP, hD⟩, hS.F ht⟩) hS.2.2 dX12_rate_45
      ·
        have h_6 : ¬ (0 ≤ v2.toInt ∧ v2.toInt ≤ 1000) := h_6
        refine lv_if_ne (tgt := 32) hx hb dX12_rate_27 rfl (fun h => absurd h cq_eq_0_0) (fun _ => ?_)
        refine lv_iconst (v := 0) hx hb dX12_rate_30 kic_0 ?_
        exact W.zret (v := 0) hx hb hr rfl (fun t ht hW => ⟨⟨0, (cn, In, Fn), rfl, (Or.inr ⟨(by first | (first | omega | (have zz0 := Hid.u hi_cn; omega)) | (simp only [zd0]; (first | omega | (have zz0 := Hid.u hi_cn; omega)))), rfl, rfl, rfl, rfl⟩), by rw [ht]; exact hP, hD⟩, hS.F ht⟩) hS.2.2 dX12_rate_31
    ·
      have h_4 : ¬ (0 ≤ v1.toInt ∧ v1.toInt ≤ 57) := h_4
      refine lv_if_eq (tgt := 30) hx hb dX12_rate_16 rfl (fun _ => ?_) (fun h => absurd h cq_eq_0_0)
      refine lv_iconst (v := 0) hx hb dX12_rate_30 kic_0 ?_
      exact W.zret (v := 0) hx hb hr rfl (fun t ht hW => ⟨⟨0, (cn, In, Fn), rfl, (Or.inr ⟨(by first | (first | omega | (have zz0 := Hid.u hi_cn; omega)) | (simp only [zd0]; (first | omega | (have zz0 := Hid.u hi_cn; omega)))), rfl, rfl, rfl, rfl⟩), by rw [ht]; exact hP, hD⟩, hS.F ht⟩) hS.2.2 dX12_rate_31
  ·
    have h_2 : ¬ (0 ≤ v0.toInt ∧ v0.toInt ≤ 3) := h_2
    refine lv_if_eq (tgt := 30) hx hb dX12_rate_6 rfl (fun _ => ?_) (fun h => absurd h cq_eq_0_0)
    refine lv_iconst (v := 0) hx hb dX12_rate_30 kic_0 ?_
    exact W.zret (v := 0) hx hb hr rfl (fun t ht hW => ⟨⟨0, (cn, In, Fn), rfl, (Or.inr ⟨(by first | (first | omega | (have zz0 := Hid.u hi_cn; omega)) | (simp only [zd0]; (first | omega | (have zz0 := Hid.u hi_cn; omega)))), rfl, rfl, rfl, rfl⟩), by rw [ht]; exact hP, hD⟩, hS.F ht⟩) hS.2.2 dX12_rate_31
set_option maxRecDepth 100000 in
set_option maxHeartbeats 4000000 in
theorem q_most (l : Launch) (D : va_G) (cI cB cZ : ClassId) (g : Nat → Nat) (cn : Nat → Nat) (In : Nat → Int32) (Fn : Nat → Nat → Int32) (v0 v1 : Int32) (sz : Nat) (hI : IM cn Fn) : Met l yX12_most (CWS yX12_most cX12_most 3 (some .boolean)) (RM 1 0 0) (PBw [.ref (g 100), .int v0, .int v1] D cI cB cZ (wM cI cB cZ g cn In Fn) sz) (va_Qi (fun (r : Int32) (u : (Nat → Nat) × (Nat → Int32) × (Nat → Nat → Int32)) => (fun r c2 I2 F2 => (((0 ≤ v0.toInt ∧ v0.toInt ≤ 9) ∧ (0 ≤ v1.toInt ∧ v1.toInt ≤ 100000)) ∧ r = 1 ∧ c2 = cn ∧ I2 = In ∧ F2 = (va_up Fn 78 (upd (Fn 78) v0.toInt.toNat v1))) ∨ ((¬ ((0 ≤ v0.toInt ∧ v0.toInt ≤ 9) ∧ (0 ≤ v1.toInt ∧ v1.toInt ≤ 100000))) ∧ r = 0 ∧ c2 = cn ∧ I2 = In ∧ F2 = Fn)) r u.1 u.2.1 u.2.2) (fun (u : (Nat → Nat) × (Nat → Int32) × (Nat → Nat → Int32)) (t : State) => va_P D vwCl (wM cI cB cZ g u.1 u.2.1 u.2.2) t.heap ∧ va_D (va_A (wM cI cB cZ g cn In Fn) sz) (wM cI cB cZ g u.1 u.2.1 u.2.2)) (va_A (wM cI cB cZ g cn In Fn) sz)) 0 0 (va_A (wM cI cB cZ g cn In Fn) sz) := by
  refine en_w (fun A => (va_Qi (fun (r : Int32) (u : (Nat → Nat) × (Nat → Int32) × (Nat → Nat → Int32)) => (fun (r : Int32) (c2 : Nat → Nat) (I2 : Nat → Int32) (F2 : Nat → Nat → Int32) => (((0 ≤ v0.toInt ∧ v0.toInt ≤ 9) ∧ (0 ≤ v1.toInt ∧ v1.toInt ≤ 100000)) ∧ r = 1 ∧ c2 = cn ∧ I2 = In ∧ F2 = (va_up Fn 78 (upd (Fn 78) v0.toInt.toNat v1))) ∨ ((¬ ((0 ≤ v0.toInt ∧ v0.toInt ≤ 9) ∧ (0 ≤ v1.toInt ∧ v1.toInt ≤ 100000))) ∧ r = 0 ∧ c2 = cn ∧ I2 = In ∧ F2 = Fn)) r u.1 u.2.1 u.2.2) (fun (u : (Nat → Nat) × (Nat → Int32) × (Nat → Nat → Int32)) (t : State) => va_P D vwCl (wM cI cB cZ g u.1 u.2.1 u.2.2) t.heap ∧ va_D A (wM cI cB cZ g u.1 u.2.1 u.2.2)) A)) rfl rfl pn_RX12 (Nat.le_of_ble_eq_true rfl) (fun p e s m below meth c A hx hb hml hown S hr hlocks hnm hA hP hK hD hS ls hl => ?_)
  have hl : lv_has ls 3 [(0, .ref (g 100)), (1, .int v0), (2, .int v1)] := hl
  have hi_cn : Hid (CB cn) := hI.b
  refine lv_iload_n hx hb dX12_most_0 rfl (lvA1 hl) ?_
  refine lv_iconst (v := 0) hx hb dX12_most_1 kic_0 ?_
  refine lv_bipush (v := 9) hx hb dX12_most_2 kbc_9 ?_
  refine vp_callSi (runS_r (As := [.int v0, .int 0, .int 9]) (rest := []) S (q_in l D cI cB cZ v0 0 9 ) kS_RX12_214 hK hP [] rfl ⟨Nat.le_of_ble_eq_true rfl, Nat.le_of_ble_eq_true rfl⟩ ⟨Nat.le_of_ble_eq_true rfl, Nat.le_of_ble_eq_true rfl⟩ rfl hl.1 rfl (Nat.le_of_ble_eq_true rfl) dX12_most_4) (fun r_1 h_2 => ?_)
  rcases h_2 with ⟨rfl, h_2⟩ | ⟨rfl, h_2⟩
  ·
    have h_2 : 0 ≤ v0.toInt ∧ v0.toInt ≤ 9 := h_2
    refine lv_if_eq (tgt := 21) hx hb dX12_most_7 rfl (fun h => absurd h cq_eq_1_0) (fun _ => ?_)
    obtain ⟨d0, hd0, rfl⟩ := nI_of (x := v0) (fun q => by have := Int32.lt_iff_toInt_lt.mp q; have e : (0 : Int32).toInt = 0 := rfl; (first | omega | (have zz0 := Hid.u hi_cn; omega)))
    have td0 : (nI d0).toInt = (d0 : Int) := nI_toInt hd0
    have zd0 : (nI d0).toInt.toNat = d0 := by (first | omega | (have zz0 := Hid.u hi_cn; omega))
    refine lv_iload_n hx hb dX12_most_10 rfl (lvA2 hl) ?_
    refine lv_iconst (v := 0) hx hb dX12_most_11 kic_0 ?_
    refine lv_ldcw (v := 100000) hx hb hown (S.2.2.2.2 _ (wk8_4 9 rfl rfl)) dX12_most_12 ?_
    refine vp_callSi (runS_r (As := [.int v1, .int 0, .int 100000]) (rest := []) S (q_in l D cI cB cZ v1 0 100000 ) kS_RX12_214 hK hP [] rfl ⟨Nat.le_of_ble_eq_true rfl, Nat.le_of_ble_eq_true rfl⟩ ⟨Nat.le_of_ble_eq_true rfl, Nat.le_of_ble_eq_true rfl⟩ rfl hl.1 rfl (Nat.le_of_ble_eq_true rfl) dX12_most_15) (fun r_3 h_4 => ?_)
    rcases h_4 with ⟨rfl, h_4⟩ | ⟨rfl, h_4⟩
    ·
      have h_4 : 0 ≤ v1.toInt ∧ v1.toInt ≤ 100000 := h_4
      refine lv_if_ne (tgt := 23) hx hb dX12_most_18 rfl (fun _ => ?_) (fun h => absurd h cq_eq_1_0)
      refine lv_aload_n hx hb dX12_most_23 rfl (lvA0 hl) ?_
      refine gM_168 S hK hP (v := .ref (g 78)) rfl dX12_most_24 ?_
      refine lv_iload_n hx hb dX12_most_27 rfl (lvA1 hl) ?_
      refine lv_iload_n hx hb dX12_most_28 rfl (lvA2 hl) ?_
      have kb_1 : d0 < 10 := by (first | omega | (have zz0 := Hid.u hi_cn; omega))
      refine stM_78 hx hb hK hP hD hS (Fn2 := (va_up Fn 78 (upd (Fn 78) d0 v1))) (vp_in_nI kb_1 (ltb rfl)) (nI_clamp (Nat.lt_trans kb_1 (ltb rfl))) rfl dX12_most_29 (fun H locs hP hD hS => ?_)
      refine lv_iconst (v := 1) hx hb dX12_most_30 kic_1 ?_
      exact W.zret (v := 1) hx hb hr rfl (fun t ht hW => ⟨⟨1, (cn, In, (va_up Fn 78 (upd (Fn 78) d0 v1))), rfl, (Or.inl ⟨(by first | (first | omega | (have zz0 := Hid.u hi_cn; omega)) | (simp only [zd0]; (first | omega | (have zz0 := Hid.u hi_cn; omega)))), rfl, rfl, rfl, by first | rfl | simp only [zd0, zd1] | simp only [zd0]⟩), by rw [ht]; exact hP, hD⟩, hS.F ht⟩) hS.2.2 dX12_most_31
    ·
      have h_4 : ¬ (0 ≤ v1.toInt ∧ v1.toInt ≤ 100000) := h_4
      refine lv_if_ne (tgt := 23) hx hb dX12_most_18 rfl (fun h => absurd h cq_eq_0_0) (fun _ => ?_)
      refine lv_iconst (v := 0) hx hb dX12_most_21 kic_0 ?_
      exact W.zret (v := 0) hx hb hr rfl (fun t ht hW => ⟨⟨0, (cn, In, Fn), rfl, (Or.inr ⟨(by first | (first | omega | (have zz0 := Hid.u hi_cn; omega)) | (simp only [zd0]; (first | omega | (have zz0 := Hid.u hi_cn; omega)))), rfl, rfl, rfl, rfl⟩), by rw [ht]; exact hP, hD⟩, hS.F ht⟩) hS.2.2 dX12_most_22
  ·
    have h_2 : ¬ (0 ≤ v0.toInt ∧ v0.toInt ≤ 9) := h_2
    refine lv_if_eq (tgt := 21) hx hb dX12_most_7 rfl (fun _ => ?_) (fun h => absurd h cq_eq_0_0)
    refine lv_iconst (v := 0) hx hb dX12_most_21 kic_0 ?_
    exact W.zret (v := 0) hx hb hr rfl (fun t ht hW => ⟨⟨0, (cn, In, Fn), rfl, (Or.inr ⟨(by first | (first | omega | (have zz0 := Hid.u hi_cn; omega)) | (simp only [zd0]; (first | omega | (have zz0 := Hid.u hi_cn; omega)))), rfl, rfl, rfl, rfl⟩), by rw [ht]; exact hP, hD⟩, hS.F ht⟩) hS.2.2 dX12_most_22
set_option maxRecDepth 100000 in
set_option maxHeartbeats 4000000 in
theorem q_offers (l : Launch) (D : va_G) (cI cB cZ : ClassId) (g : Nat → Nat) (cn : Nat → Nat) (In : Nat → Int32) (Fn : Nat → Nat → Int32) (v0 v1 v2 : Int32) (sz : Nat) (hI : IM cn Fn) : Met l yX12_offers (CWS yX12_offers cX12_offers 4 (some .boolean)) (RM 1 0 0) (PBw [.ref (g 100), .int v0, .int v1, .int v2] D cI cB cZ (wM cI cB cZ g cn In Fn) sz) (va_Qi (fun (r : Int32) (u : (Nat → Nat) × (Nat → Int32) × (Nat → Nat → Int32)) => (fun r c2 I2 F2 => (((0 ≤ v0.toInt ∧ v0.toInt < (cn 1 : Int)) ∧ (0 ≤ v1.toInt ∧ v1.toInt ≤ 200) ∧ (0 ≤ v2.toInt ∧ v2.toInt ≤ 200)) ∧ r = 1 ∧ c2 = cn ∧ I2 = In ∧ F2 = (va_up (va_up Fn 84 (upd (Fn 84) v0.toInt.toNat v1)) 85 (upd (Fn 85) v0.toInt.toNat v2))) ∨ ((¬ ((0 ≤ v0.toInt ∧ v0.toInt < (cn 1 : Int)) ∧ (0 ≤ v1.toInt ∧ v1.toInt ≤ 200) ∧ (0 ≤ v2.toInt ∧ v2.toInt ≤ 200))) ∧ r = 0 ∧ c2 = cn ∧ I2 = In ∧ F2 = Fn)) r u.1 u.2.1 u.2.2) (fun (u : (Nat → Nat) × (Nat → Int32) × (Nat → Nat → Int32)) (t : State) => va_P D vwCl (wM cI cB cZ g u.1 u.2.1 u.2.2) t.heap ∧ va_D (va_A (wM cI cB cZ g cn In Fn) sz) (wM cI cB cZ g u.1 u.2.1 u.2.2)) (va_A (wM cI cB cZ g cn In Fn) sz)) 0 0 (va_A (wM cI cB cZ g cn In Fn) sz) := by
  refine en_w (fun A => (va_Qi (fun (r : Int32) (u : (Nat → Nat) × (Nat → Int32) × (Nat → Nat → Int32)) => (fun (r : Int32) (c2 : Nat → Nat) (I2 : Nat → Int32) (F2 : Nat → Nat → Int32) => (((0 ≤ v0.toInt ∧ v0.toInt < (cn 1 : Int)) ∧ (0 ≤ v1.toInt ∧ v1.toInt ≤ 200) ∧ (0 ≤ v2.toInt ∧ v2.toInt ≤ 200)) ∧ r = 1 ∧ c2 = cn ∧ I2 = In ∧ F2 = (va_up (va_up Fn 84 (upd (Fn 84) v0.toInt.toNat v1)) 85 (upd (Fn 85) v0.toInt.toNat v2))) ∨ ((¬ ((0 ≤ v0.toInt ∧ v0.toInt < (cn 1 : Int)) ∧ (0 ≤ v1.toInt ∧ v1.toInt ≤ 200) ∧ (0 ≤ v2.toInt ∧ v2.toInt ≤ 200))) ∧ r = 0 ∧ c2 = cn ∧ I2 = In ∧ F2 = Fn)) r u.1 u.2.1 u.2.2) (fun (u : (Nat → Nat) × (Nat → Int32) × (Nat → Nat → Int32)) (t : State) => va_P D vwCl (wM cI cB cZ g u.1 u.2.1 u.2.2) t.heap ∧ va_D A (wM cI cB cZ g u.1 u.2.1 u.2.2)) A)) rfl rfl pn_RX12 (Nat.le_of_ble_eq_true rfl) (fun p e s m below meth c A hx hb hml hown S hr hlocks hnm hA hP hK hD hS ls hl => ?_)
  have hl : lv_has ls 4 [(0, .ref (g 100)), (1, .int v0), (2, .int v1), (3, .int v2)] := hl
  have hi_cn : Hid (CB cn) := hI.b
  refine lv_aload_n hx hb dX12_offers_0 rfl (lvA0 hl) ?_
  refine lv_iload_n hx hb dX12_offers_1 rfl (lvA1 hl) ?_
  refine vp_callSi (runV_ra (As := [.int v0]) (rest := []) S (q_isKitchen l D cI cB cZ g cn In Fn v0 hI) kV_RX12_218 hK hP 0 rfl rfl rfl ⟨Nat.le_of_ble_eq_true rfl, Nat.le_of_ble_eq_true rfl⟩ ⟨Nat.le_of_ble_eq_true rfl, Nat.le_of_ble_eq_true rfl⟩ rfl hl.1 rfl (Nat.le_of_ble_eq_true rfl) dX12_offers_2) (fun r_1 h_2 => ?_)
  rcases h_2 with ⟨rfl, h_2⟩ | ⟨rfl, h_2⟩
  ·
    have h_2 : 0 ≤ v0.toInt ∧ v0.toInt < ((cn 1) : Int) := h_2
    refine lv_if_eq (tgt := 30) hx hb dX12_offers_5 rfl (fun h => absurd h cq_eq_1_0) (fun _ => ?_)
    obtain ⟨d0, hd0, rfl⟩ := nI_of (x := v0) (fun q => by have := Int32.lt_iff_toInt_lt.mp q; have e : (0 : Int32).toInt = 0 := rfl; (first | omega | (have zz0 := Hid.u hi_cn; omega)))
    have td0 : (nI d0).toInt = (d0 : Int) := nI_toInt hd0
    have zd0 : (nI d0).toInt.toNat = d0 := by (first | omega | (have zz0 := Hid.u hi_cn; omega))
    refine lv_iload_n hx hb dX12_offers_8 rfl (lvA2 hl) ?_
    refine lv_iconst (v := 0) hx hb dX12_offers_9 kic_0 ?_
    refine lv_sipush (v := 200) hx hb dX12_offers_10 (by decide) ?_
    refine vp_callSi (runS_r (As := [.int v1, .int 0, .int 200]) (rest := []) S (q_in l D cI cB cZ v1 0 200 ) kS_RX12_214 hK hP [] rfl ⟨Nat.le_of_ble_eq_true rfl, Nat.le_of_ble_eq_true rfl⟩ ⟨Nat.le_of_ble_eq_true rfl, Nat.le_of_ble_eq_true rfl⟩ rfl hl.1 rfl (Nat.le_of_ble_eq_true rfl) dX12_offers_13) (fun r_3 h_4 => ?_)
    rcases h_4 with ⟨rfl, h_4⟩ | ⟨rfl, h_4⟩
    ·
      have h_4 : 0 ≤ v1.toInt ∧ v1.toInt ≤ 200 := h_4
      refine lv_if_eq (tgt := 30) hx hb dX12_offers_16 rfl (fun h => absurd h cq_eq_1_0) (fun _ => ?_)
      refine lv_iload_n hx hb dX12_offers_19 rfl (lvA3 hl) ?_
      refine lv_iconst (v := 0) hx hb dX12_offers_20 kic_0 ?_
      refine lv_sipush (v := 200) hx hb dX12_offers_21 (by decide) ?_
      refine vp_callSi (runS_r (As := [.int v2, .int 0, .int 200]) (rest := []) S (q_in l D cI cB cZ v2 0 200 ) kS_RX12_214 hK hP [] rfl ⟨Nat.le_of_ble_eq_true rfl, Nat.le_of_ble_eq_true rfl⟩ ⟨Nat.le_of_ble_eq_true rfl, Nat.le_of_ble_eq_true rfl⟩ rfl hl.1 rfl (Nat.le_of_ble_eq_true rfl) dX12_offers_24) (fun r_5 h_6 => ?_)
      rcases h_6 with ⟨rfl, h_6⟩ | ⟨rfl, h_6⟩
      ·
        have h_6 : 0 ≤ v2.toInt ∧ v2.toInt ≤ 200 := h_6
        refine lv_if_ne (tgt := 32) hx hb dX12_offers_27 rfl (fun _ => ?_) (fun h => absurd h cq_eq_1_0)
        refine lv_aload_n hx hb dX12_offers_32 rfl (lvA0 hl) ?_
        refine gM_183 S hK hP (v := .ref (g 84)) rfl dX12_offers_33 ?_
        refine lv_iload_n hx hb dX12_offers_36 rfl (lvA1 hl) ?_
        refine lv_iload_n hx hb dX12_offers_37 rfl (lvA2 hl) ?_
        have kb_1 : d0 < 10 := by (first | omega | (have zz0 := Hid.u hi_cn; omega))
        refine stM_84 hx hb hK hP hD hS (Fn2 := (va_up Fn 84 (upd (Fn 84) d0 v1))) (vp_in_nI kb_1 (ltb rfl)) (nI_clamp (Nat.lt_trans kb_1 (ltb rfl))) rfl dX12_offers_38 (fun H locs hP hD hS => ?_)
        refine lv_aload_n hx hb dX12_offers_39 rfl (lvA0 hl) ?_
        refine gM_186 S hK hP (v := .ref (g 85)) rfl dX12_offers_40 ?_
        refine lv_iload_n hx hb dX12_offers_43 rfl (lvA1 hl) ?_
        refine lv_iload_n hx hb dX12_offers_44 rfl (lvA3 hl) ?_
        refine stM_85 hx hb hK hP hD hS (Fn2 := (va_up (va_up Fn 84 (upd (Fn 84) d0 v1)) 85 (upd (Fn 85) d0 v2))) (vp_in_nI kb_1 (ltb rfl)) (nI_clamp (Nat.lt_trans kb_1 (ltb rfl))) rfl dX12_offers_45 (fun H locs hP hD hS => ?_)
        refine lv_iconst (v := 1) hx hb dX12_offers_46 kic_1 ?_
        exact W.zret (v := 1) hx hb hr rfl (fun t ht hW => ⟨⟨1, (cn, In, (va_up (va_up Fn 84 (upd (Fn 84) d0 v1)) 85 (upd (Fn 85) d0 v2))), rfl, (Or.inl ⟨(by first | (first | omega | (have zz0 := Hid.u hi_cn; omega)) | (simp only [zd0]; (first | omega | (have zz0 := Hid.u hi_cn; omega)))), rfl, rfl, rfl, by first | rfl | simp only [zd0, zd1] | simp only [zd0]⟩), by rw [ht]; exact hP, hD⟩, hS.F ht⟩) hS.2.2 dX12_offers_47
      ·
        have h_6 : ¬ (0 ≤ v2.toInt ∧ v2.toInt ≤ 200) := h_6
        refine lv_if_ne (tgt := 32) hx hb dX12_offers_27 rfl (fun h => absurd h cq_eq_0_0) (fun _ => ?_)
        refine lv_iconst (v := 0) hx hb dX12_offers_30 kic_0 ?_
        exact W.zret (v := 0) hx hb hr rfl (fun t ht hW => ⟨⟨0, (cn, In, Fn), rfl, (Or.inr ⟨(by first | (first | omega | (have zz0 := Hid.u hi_cn; omega)) | (simp only [zd0]; (first | omega | (have zz0 := Hid.u hi_cn; omega)))), rfl, rfl, rfl, rfl⟩), by rw [ht]; exact hP, hD⟩, hS.F ht⟩) hS.2.2 dX12_offers_31
    ·
      have h_4 : ¬ (0 ≤ v1.toInt ∧ v1.toInt ≤ 200) := h_4
      refine lv_if_eq (tgt := 30) hx hb dX12_offers_16 rfl (fun _ => ?_) (fun h => absurd h cq_eq_0_0)
      refine lv_iconst (v := 0) hx hb dX12_offers_30 kic_0 ?_
      exact W.zret (v := 0) hx hb hr rfl (fun t ht hW => ⟨⟨0, (cn, In, Fn), rfl, (Or.inr ⟨(by first | (first | omega | (have zz0 := Hid.u hi_cn; omega)) | (simp only [zd0]; (first | omega | (have zz0 := Hid.u hi_cn; omega)))), rfl, rfl, rfl, rfl⟩), by rw [ht]; exact hP, hD⟩, hS.F ht⟩) hS.2.2 dX12_offers_31
  ·
    have h_2 : ¬ (0 ≤ v0.toInt ∧ v0.toInt < ((cn 1) : Int)) := h_2
    refine lv_if_eq (tgt := 30) hx hb dX12_offers_5 rfl (fun _ => ?_) (fun h => absurd h cq_eq_0_0)
    refine lv_iconst (v := 0) hx hb dX12_offers_30 kic_0 ?_
    exact W.zret (v := 0) hx hb hr rfl (fun t ht hW => ⟨⟨0, (cn, In, Fn), rfl, (Or.inr ⟨(by first | (first | omega | (have zz0 := Hid.u hi_cn; omega)) | (simp only [zd0]; (first | omega | (have zz0 := Hid.u hi_cn; omega)))), rfl, rfl, rfl, rfl⟩), by rw [ht]; exact hP, hD⟩, hS.F ht⟩) hS.2.2 dX12_offers_31
set_option maxRecDepth 100000 in
set_option maxHeartbeats 4000000 in
theorem q_thefts (l : Launch) (D : va_G) (cI cB cZ : ClassId) (g : Nat → Nat) (cn : Nat → Nat) (In : Nat → Int32) (Fn : Nat → Nat → Int32) (v0 v1 : Int32) (sz : Nat) (hI : IM cn Fn) : Met l yX12_thefts (CWS yX12_thefts cX12_thefts 3 (some .boolean)) (RM 1 0 0) (PBw [.ref (g 100), .int v0, .int v1] D cI cB cZ (wM cI cB cZ g cn In Fn) sz) (va_Qi (fun (r : Int32) (u : (Nat → Nat) × (Nat → Int32) × (Nat → Nat → Int32)) => (fun r c2 I2 F2 => (((0 ≤ v0.toInt ∧ v0.toInt ≤ 23) ∧ (0 ≤ v1.toInt ∧ v1.toInt ≤ 1000)) ∧ r = 1 ∧ c2 = cn ∧ I2 = In ∧ F2 = (va_up Fn 86 (upd (Fn 86) v0.toInt.toNat v1))) ∨ ((¬ ((0 ≤ v0.toInt ∧ v0.toInt ≤ 23) ∧ (0 ≤ v1.toInt ∧ v1.toInt ≤ 1000))) ∧ r = 0 ∧ c2 = cn ∧ I2 = In ∧ F2 = Fn)) r u.1 u.2.1 u.2.2) (fun (u : (Nat → Nat) × (Nat → Int32) × (Nat → Nat → Int32)) (t : State) => va_P D vwCl (wM cI cB cZ g u.1 u.2.1 u.2.2) t.heap ∧ va_D (va_A (wM cI cB cZ g cn In Fn) sz) (wM cI cB cZ g u.1 u.2.1 u.2.2)) (va_A (wM cI cB cZ g cn In Fn) sz)) 0 0 (va_A (wM cI cB cZ g cn In Fn) sz) := by
  refine en_w (fun A => (va_Qi (fun (r : Int32) (u : (Nat → Nat) × (Nat → Int32) × (Nat → Nat → Int32)) => (fun (r : Int32) (c2 : Nat → Nat) (I2 : Nat → Int32) (F2 : Nat → Nat → Int32) => (((0 ≤ v0.toInt ∧ v0.toInt ≤ 23) ∧ (0 ≤ v1.toInt ∧ v1.toInt ≤ 1000)) ∧ r = 1 ∧ c2 = cn ∧ I2 = In ∧ F2 = (va_up Fn 86 (upd (Fn 86) v0.toInt.toNat v1))) ∨ ((¬ ((0 ≤ v0.toInt ∧ v0.toInt ≤ 23) ∧ (0 ≤ v1.toInt ∧ v1.toInt ≤ 1000))) ∧ r = 0 ∧ c2 = cn ∧ I2 = In ∧ F2 = Fn)) r u.1 u.2.1 u.2.2) (fun (u : (Nat → Nat) × (Nat → Int32) × (Nat → Nat → Int32)) (t : State) => va_P D vwCl (wM cI cB cZ g u.1 u.2.1 u.2.2) t.heap ∧ va_D A (wM cI cB cZ g u.1 u.2.1 u.2.2)) A)) rfl rfl pn_RX12 (Nat.le_of_ble_eq_true rfl) (fun p e s m below meth c A hx hb hml hown S hr hlocks hnm hA hP hK hD hS ls hl => ?_)
  have hl : lv_has ls 3 [(0, .ref (g 100)), (1, .int v0), (2, .int v1)] := hl
  have hi_cn : Hid (CB cn) := hI.b
  refine lv_iload_n hx hb dX12_thefts_0 rfl (lvA1 hl) ?_
  refine lv_iconst (v := 0) hx hb dX12_thefts_1 kic_0 ?_
  refine lv_bipush (v := 23) hx hb dX12_thefts_2 kbc_23 ?_
  refine vp_callSi (runS_r (As := [.int v0, .int 0, .int 23]) (rest := []) S (q_in l D cI cB cZ v0 0 23 ) kS_RX12_214 hK hP [] rfl ⟨Nat.le_of_ble_eq_true rfl, Nat.le_of_ble_eq_true rfl⟩ ⟨Nat.le_of_ble_eq_true rfl, Nat.le_of_ble_eq_true rfl⟩ rfl hl.1 rfl (Nat.le_of_ble_eq_true rfl) dX12_thefts_4) (fun r_1 h_2 => ?_)
  rcases h_2 with ⟨rfl, h_2⟩ | ⟨rfl, h_2⟩
  ·
    have h_2 : 0 ≤ v0.toInt ∧ v0.toInt ≤ 23 := h_2
    refine lv_if_eq (tgt := 21) hx hb dX12_thefts_7 rfl (fun h => absurd h cq_eq_1_0) (fun _ => ?_)
    obtain ⟨d0, hd0, rfl⟩ := nI_of (x := v0) (fun q => by have := Int32.lt_iff_toInt_lt.mp q; have e : (0 : Int32).toInt = 0 := rfl; (first | omega | (have zz0 := Hid.u hi_cn; omega)))
    have td0 : (nI d0).toInt = (d0 : Int) := nI_toInt hd0
    have zd0 : (nI d0).toInt.toNat = d0 := by (first | omega | (have zz0 := Hid.u hi_cn; omega))
    refine lv_iload_n hx hb dX12_thefts_10 rfl (lvA2 hl) ?_
    refine lv_iconst (v := 0) hx hb dX12_thefts_11 kic_0 ?_
    refine lv_sipush (v := 1000) hx hb dX12_thefts_12 (by decide) ?_
    refine vp_callSi (runS_r (As := [.int v1, .int 0, .int 1000]) (rest := []) S (q_in l D cI cB cZ v1 0 1000 ) kS_RX12_214 hK hP [] rfl ⟨Nat.le_of_ble_eq_true rfl, Nat.le_of_ble_eq_true rfl⟩ ⟨Nat.le_of_ble_eq_true rfl, Nat.le_of_ble_eq_true rfl⟩ rfl hl.1 rfl (Nat.le_of_ble_eq_true rfl) dX12_thefts_15) (fun r_3 h_4 => ?_)
    rcases h_4 with ⟨rfl, h_4⟩ | ⟨rfl, h_4⟩
    ·
      have h_4 : 0 ≤ v1.toInt ∧ v1.toInt ≤ 1000 := h_4
      refine lv_if_ne (tgt := 23) hx hb dX12_thefts_18 rfl (fun _ => ?_) (fun h => absurd h cq_eq_1_0)
      refine lv_aload_n hx hb dX12_thefts_23 rfl (lvA0 hl) ?_
      refine gM_189 S hK hP (v := .ref (g 86)) rfl dX12_thefts_24 ?_
      refine lv_iload_n hx hb dX12_thefts_27 rfl (lvA1 hl) ?_
      refine lv_iload_n hx hb dX12_thefts_28 rfl (lvA2 hl) ?_
      have kb_1 : d0 < 24 := by (first | omega | (have zz0 := Hid.u hi_cn; omega))
      refine stM_86 hx hb hK hP hD hS (Fn2 := (va_up Fn 86 (upd (Fn 86) d0 v1))) (vp_in_nI kb_1 (ltb rfl)) (nI_clamp (Nat.lt_trans kb_1 (ltb rfl))) rfl dX12_thefts_29 (fun H locs hP hD hS => ?_)
      refine lv_iconst (v := 1) hx hb dX12_thefts_30 kic_1 ?_
      exact W.zret (v := 1) hx hb hr rfl (fun t ht hW => ⟨⟨1, (cn, In, (va_up Fn 86 (upd (Fn 86) d0 v1))), rfl, (Or.inl ⟨(by first | (first | omega | (have zz0 := Hid.u hi_cn; omega)) | (simp only [zd0]; (first | omega | (have zz0 := Hid.u hi_cn; omega)))), rfl, rfl, rfl, by first | rfl | simp only [zd0, zd1] | simp only [zd0]⟩), by rw [ht]; exact hP, hD⟩, hS.F ht⟩) hS.2.2 dX12_thefts_31
    ·
      have h_4 : ¬ (0 ≤ v1.toInt ∧ v1.toInt ≤ 1000) := h_4
      refine lv_if_ne (tgt := 23) hx hb dX12_thefts_18 rfl (fun h => absurd h cq_eq_0_0) (fun _ => ?_)
      refine lv_iconst (v := 0) hx hb dX12_thefts_21 kic_0 ?_
      exact W.zret (v := 0) hx hb hr rfl (fun t ht hW => ⟨⟨0, (cn, In, Fn), rfl, (Or.inr ⟨(by first | (first | omega | (have zz0 := Hid.u hi_cn; omega)) | (simp only [zd0]; (first | omega | (have zz0 := Hid.u hi_cn; omega)))), rfl, rfl, rfl, rfl⟩), by rw [ht]; exact hP, hD⟩, hS.F ht⟩) hS.2.2 dX12_thefts_22
  ·
    have h_2 : ¬ (0 ≤ v0.toInt ∧ v0.toInt ≤ 23) := h_2
    refine lv_if_eq (tgt := 21) hx hb dX12_thefts_7 rfl (fun _ => ?_) (fun h => absurd h cq_eq_0_0)
    refine lv_iconst (v := 0) hx hb dX12_thefts_21 kic_0 ?_
    exact W.zret (v := 0) hx hb hr rfl (fun t ht hW => ⟨⟨0, (cn, In, Fn), rfl, (Or.inr ⟨(by first | (first | omega | (have zz0 := Hid.u hi_cn; omega)) | (simp only [zd0]; (first | omega | (have zz0 := Hid.u hi_cn; omega)))), rfl, rfl, rfl, rfl⟩), by rw [ht]; exact hP, hD⟩, hS.F ht⟩) hS.2.2 dX12_thefts_22
set_option maxRecDepth 100000 in
set_option maxHeartbeats 4000000 in
theorem q_sewer (l : Launch) (D : va_G) (cI cB cZ : ClassId) (g : Nat → Nat) (cn : Nat → Nat) (In : Nat → Int32) (Fn : Nat → Nat → Int32) (v0 v1 : Int32) (sz : Nat) (hI : IM cn Fn) : Met l yX12_sewer (CWS yX12_sewer cX12_sewer 3 (some .int)) (RM 1 0 0) (PBw [.ref (g 100), .int v0, .int v1] D cI cB cZ (wM cI cB cZ g cn In Fn) sz) (va_Qi (fun (r : Int32) (u : (Nat → Nat) × (Nat → Int32) × (Nat → Nat → Int32)) => (fun r c2 I2 F2 => (((0 ≤ v0.toInt ∧ v0.toInt ≤ 99) ∧ (0 ≤ v1.toInt ∧ v1.toInt ≤ 99) ∧ cn 83 < 10) ∧ r = nI (cn 83) ∧ c2 = va_up cn 83 (cn 83 + 1) ∧ I2 = In ∧ F2 = (va_up (va_up Fn 87 (upd (Fn 87) (cn 83) v0)) 88 (upd (Fn 88) (cn 83) v1))) ∨ ((¬ ((0 ≤ v0.toInt ∧ v0.toInt ≤ 99) ∧ (0 ≤ v1.toInt ∧ v1.toInt ≤ 99) ∧ cn 83 < 10)) ∧ r = -1 ∧ c2 = cn ∧ I2 = In ∧ F2 = Fn)) r u.1 u.2.1 u.2.2) (fun (u : (Nat → Nat) × (Nat → Int32) × (Nat → Nat → Int32)) (t : State) => va_P D vwCl (wM cI cB cZ g u.1 u.2.1 u.2.2) t.heap ∧ va_D (va_A (wM cI cB cZ g cn In Fn) sz) (wM cI cB cZ g u.1 u.2.1 u.2.2)) (va_A (wM cI cB cZ g cn In Fn) sz)) 0 0 (va_A (wM cI cB cZ g cn In Fn) sz) := by
  refine en_w (fun A => (va_Qi (fun (r : Int32) (u : (Nat → Nat) × (Nat → Int32) × (Nat → Nat → Int32)) => (fun (r : Int32) (c2 : Nat → Nat) (I2 : Nat → Int32) (F2 : Nat → Nat → Int32) => (((0 ≤ v0.toInt ∧ v0.toInt ≤ 99) ∧ (0 ≤ v1.toInt ∧ v1.toInt ≤ 99) ∧ cn 83 < 10) ∧ r = nI (cn 83) ∧ c2 = va_up cn 83 (cn 83 + 1) ∧ I2 = In ∧ F2 = (va_up (va_up Fn 87 (upd (Fn 87) (cn 83) v0)) 88 (upd (Fn 88) (cn 83) v1))) ∨ ((¬ ((0 ≤ v0.toInt ∧ v0.toInt ≤ 99) ∧ (0 ≤ v1.toInt ∧ v1.toInt ≤ 99) ∧ cn 83 < 10)) ∧ r = -1 ∧ c2 = cn ∧ I2 = In ∧ F2 = Fn)) r u.1 u.2.1 u.2.2) (fun (u : (Nat → Nat) × (Nat → Int32) × (Nat → Nat → Int32)) (t : State) => va_P D vwCl (wM cI cB cZ g u.1 u.2.1 u.2.2) t.heap ∧ va_D A (wM cI cB cZ g u.1 u.2.1 u.2.2)) A)) rfl rfl pn_RX12 (Nat.le_of_ble_eq_true rfl) (fun p e s m below meth c A hx hb hml hown S hr hlocks hnm hA hP hK hD hS ls hl => ?_)
  have hl : lv_has ls 3 [(0, .ref (g 100)), (1, .int v0), (2, .int v1)] := hl
  have hi_cn : Hid (CB cn) := hI.b
  refine lv_iload_n hx hb dX12_sewer_0 rfl (lvA1 hl) ?_
  refine lv_iconst (v := 0) hx hb dX12_sewer_1 kic_0 ?_
  refine lv_bipush (v := 99) hx hb dX12_sewer_2 kbc_99 ?_
  refine vp_callSi (runS_r (As := [.int v0, .int 0, .int 99]) (rest := []) S (q_in l D cI cB cZ v0 0 99 ) kS_RX12_214 hK hP [] rfl ⟨Nat.le_of_ble_eq_true rfl, Nat.le_of_ble_eq_true rfl⟩ ⟨Nat.le_of_ble_eq_true rfl, Nat.le_of_ble_eq_true rfl⟩ rfl hl.1 rfl (Nat.le_of_ble_eq_true rfl) dX12_sewer_4) (fun r_1 h_2 => ?_)
  rcases h_2 with ⟨rfl, h_2⟩ | ⟨rfl, h_2⟩
  ·
    have h_2 : 0 ≤ v0.toInt ∧ v0.toInt ≤ 99 := h_2
    refine lv_if_eq (tgt := 29) hx hb dX12_sewer_7 rfl (fun h => absurd h cq_eq_1_0) (fun _ => ?_)
    refine lv_iload_n hx hb dX12_sewer_10 rfl (lvA2 hl) ?_
    refine lv_iconst (v := 0) hx hb dX12_sewer_11 kic_0 ?_
    refine lv_bipush (v := 99) hx hb dX12_sewer_12 kbc_99 ?_
    refine vp_callSi (runS_r (As := [.int v1, .int 0, .int 99]) (rest := []) S (q_in l D cI cB cZ v1 0 99 ) kS_RX12_214 hK hP [] rfl ⟨Nat.le_of_ble_eq_true rfl, Nat.le_of_ble_eq_true rfl⟩ ⟨Nat.le_of_ble_eq_true rfl, Nat.le_of_ble_eq_true rfl⟩ rfl hl.1 rfl (Nat.le_of_ble_eq_true rfl) dX12_sewer_14) (fun r_3 h_4 => ?_)
    rcases h_4 with ⟨rfl, h_4⟩ | ⟨rfl, h_4⟩
    ·
      have h_4 : 0 ≤ v1.toInt ∧ v1.toInt ≤ 99 := h_4
      refine lv_if_eq (tgt := 29) hx hb dX12_sewer_17 rfl (fun h => absurd h cq_eq_1_0) (fun _ => ?_)
      refine lv_aload_n hx hb dX12_sewer_20 rfl (lvA0 hl) ?_
      refine gM_478 S hK hP (v := .int (nI (cn 83))) rfl dX12_sewer_21 ?_
      refine lv_bipush (v := 10) hx hb dX12_sewer_24 kbc_10 ?_
      have : (nI (cn 83)).toInt = (((cn 83) : Nat) : Int) := nI_toInt (by (first | omega | (have zz0 := Hid.u hi_cn; omega)))
      refine lv_icmp_ne (tgt := 31) hx hb dX12_sewer_26 rfl (fun c_5 => ?_) (fun c_5 => ?_)
      ·
        have tc_5 : ((nI (cn 83)).toInt : Int) ≠ 10 := fun q => c_5 (Int32.toInt_inj.mp q)
        refine lv_aload_n hx hb dX12_sewer_31 rfl (lvA0 hl) ?_
        refine gM_192 S hK hP (v := .ref (g 87)) rfl dX12_sewer_32 ?_
        refine lv_aload_n hx hb dX12_sewer_35 rfl (lvA0 hl) ?_
        refine gM_478 S hK hP (v := .int (nI (cn 83))) rfl dX12_sewer_36 ?_
        refine lv_iload_n hx hb dX12_sewer_39 rfl (lvA1 hl) ?_
        have kb_1 : (cn 83) < 10 := by (first | omega | (have zz0 := Hid.u hi_cn; omega))
        refine stM_87 hx hb hK hP hD hS (Fn2 := (va_up Fn 87 (upd (Fn 87) (cn 83) v0))) (vp_in_nI kb_1 (ltb rfl)) (nI_clamp (Nat.lt_trans kb_1 (ltb rfl))) rfl dX12_sewer_40 (fun H locs hP hD hS => ?_)
        refine lv_aload_n hx hb dX12_sewer_41 rfl (lvA0 hl) ?_
        refine gM_195 S hK hP (v := .ref (g 88)) rfl dX12_sewer_42 ?_
        refine lv_aload_n hx hb dX12_sewer_45 rfl (lvA0 hl) ?_
        refine gM_478 S hK hP (v := .int (nI (cn 83))) rfl dX12_sewer_46 ?_
        refine lv_iload_n hx hb dX12_sewer_49 rfl (lvA2 hl) ?_
        refine stM_88 hx hb hK hP hD hS (Fn2 := (va_up (va_up Fn 87 (upd (Fn 87) (cn 83) v0)) 88 (upd (Fn 88) (cn 83) v1))) (vp_in_nI kb_1 (ltb rfl)) (nI_clamp (Nat.lt_trans kb_1 (ltb rfl))) rfl dX12_sewer_50 (fun H locs hP hD hS => ?_)
        refine lv_aload_n hx hb dX12_sewer_51 rfl (lvA0 hl) ?_
        refine lv_aload_n hx hb dX12_sewer_52 rfl (lvA0 hl) ?_
        refine gM_478 S hK hP (v := .int (nI (cn 83))) rfl dX12_sewer_53 ?_
        refine lv_iconst (v := 1) hx hb dX12_sewer_56 kic_1 ?_
        refine lv_iadd hx hb dX12_sewer_57 ?_
        refine lv_topi (fun y_6 ey_6 => ?_)
        obtain rfl : y_6 = (nI ((cn 83) + 1)) := ey_6.trans (nI_add (cn 83) 1)
        refine pM_478 S hK hP hD hS (a := ((cn 83) + 1)) (cn2 := (va_up cn 83 ((cn 83) + 1))) rfl rfl dX12_sewer_58 (fun H locs hP hD hS => ?_)
        refine lv_aload_n hx hb dX12_sewer_61 rfl (lvA0 hl) ?_
        refine gM_478 S hK hP (v := .int (nI ((cn 83) + 1))) rfl dX12_sewer_62 ?_
        refine lv_iconst (v := 1) hx hb dX12_sewer_65 kic_1 ?_
        refine lv_isub hx hb dX12_sewer_66 ?_
        refine lv_topi (fun y_7 ey_7 => ?_)
        obtain rfl : y_7 = (nI (cn 83)) := ey_7.trans (nI_pred _)
        exact W.iret (v := (nI (cn 83))) hx hb hr (fun t ht hW => ⟨⟨(nI (cn 83)), ((va_up cn 83 ((cn 83) + 1)), In, (va_up (va_up Fn 87 (upd (Fn 87) (cn 83) v0)) 88 (upd (Fn 88) (cn 83) v1))), rfl, (Or.inl ⟨(by first | (first | omega | (have zz0 := Hid.u hi_cn; omega)) | (simp only [zd0]; (first | omega | (have zz0 := Hid.u hi_cn; omega)))), rfl, rfl, rfl, by first | rfl | simp only [zd0, zd1] | simp only [zd0]⟩), by rw [ht]; exact hP, hD⟩, hS.F ht⟩) hS.2.2 dX12_sewer_67
      ·
        have tc_5 : ((nI (cn 83)).toInt : Int) = 10 := congrArg Int32.toInt c_5
        refine lv_iconst (v := (-1)) hx hb dX12_sewer_29 kic_m1 ?_
        exact W.iret (v := (-1)) hx hb hr (fun t ht hW => ⟨⟨(-1), (cn, In, Fn), rfl, (Or.inr ⟨(by first | (first | omega | (have zz0 := Hid.u hi_cn; omega)) | (simp only [zd0]; (first | omega | (have zz0 := Hid.u hi_cn; omega)))), rfl, rfl, rfl, rfl⟩), by rw [ht]; exact hP, hD⟩, hS.F ht⟩) hS.2.2 dX12_sewer_30
    ·
      have h_4 : ¬ (0 ≤ v1.toInt ∧ v1.toInt ≤ 99) := h_4
      refine lv_if_eq (tgt := 29) hx hb dX12_sewer_17 rfl (fun _ => ?_) (fun h => absurd h cq_eq_0_0)
      refine lv_iconst (v := (-1)) hx hb dX12_sewer_29 kic_m1 ?_
      exact W.iret (v := (-1)) hx hb hr (fun t ht hW => ⟨⟨(-1), (cn, In, Fn), rfl, (Or.inr ⟨(by first | (first | omega | (have zz0 := Hid.u hi_cn; omega)) | (simp only [zd0]; (first | omega | (have zz0 := Hid.u hi_cn; omega)))), rfl, rfl, rfl, rfl⟩), by rw [ht]; exact hP, hD⟩, hS.F ht⟩) hS.2.2 dX12_sewer_30
  ·
    have h_2 : ¬ (0 ≤ v0.toInt ∧ v0.toInt ≤ 99) := h_2
    refine lv_if_eq (tgt := 29) hx hb dX12_sewer_7 rfl (fun _ => ?_) (fun h => absurd h cq_eq_0_0)
    refine lv_iconst (v := (-1)) hx hb dX12_sewer_29 kic_m1 ?_
    exact W.iret (v := (-1)) hx hb hr (fun t ht hW => ⟨⟨(-1), (cn, In, Fn), rfl, (Or.inr ⟨(by first | (first | omega | (have zz0 := Hid.u hi_cn; omega)) | (simp only [zd0]; (first | omega | (have zz0 := Hid.u hi_cn; omega)))), rfl, rfl, rfl, rfl⟩), by rw [ht]; exact hP, hD⟩, hS.F ht⟩) hS.2.2 dX12_sewer_30
set_option maxRecDepth 100000 in
set_option maxHeartbeats 4000000 in
theorem q_degrees (l : Launch) (D : va_G) (cI cB cZ : ClassId) (g : Nat → Nat) (cn : Nat → Nat) (In : Nat → Int32) (Fn : Nat → Nat → Int32) (v0 v1 : Int32) (sz : Nat) (hI : IM cn Fn) : Met l yX12_degrees (CWS yX12_degrees cX12_degrees 3 (some .boolean)) (RM 1 0 0) (PBw [.ref (g 100), .int v0, .int v1] D cI cB cZ (wM cI cB cZ g cn In Fn) sz) (va_Qi (fun (r : Int32) (u : (Nat → Nat) × (Nat → Int32) × (Nat → Nat → Int32)) => (fun r c2 I2 F2 => (((0 ≤ v0.toInt ∧ v0.toInt ≤ 399) ∧ ((-40) ≤ v1.toInt ∧ v1.toInt ≤ 40)) ∧ r = 1 ∧ c2 = cn ∧ I2 = In ∧ F2 = (va_up Fn 90 (upd (Fn 90) v0.toInt.toNat v1))) ∨ ((¬ ((0 ≤ v0.toInt ∧ v0.toInt ≤ 399) ∧ ((-40) ≤ v1.toInt ∧ v1.toInt ≤ 40))) ∧ r = 0 ∧ c2 = cn ∧ I2 = In ∧ F2 = Fn)) r u.1 u.2.1 u.2.2) (fun (u : (Nat → Nat) × (Nat → Int32) × (Nat → Nat → Int32)) (t : State) => va_P D vwCl (wM cI cB cZ g u.1 u.2.1 u.2.2) t.heap ∧ va_D (va_A (wM cI cB cZ g cn In Fn) sz) (wM cI cB cZ g u.1 u.2.1 u.2.2)) (va_A (wM cI cB cZ g cn In Fn) sz)) 0 0 (va_A (wM cI cB cZ g cn In Fn) sz) := by
  refine en_w (fun A => (va_Qi (fun (r : Int32) (u : (Nat → Nat) × (Nat → Int32) × (Nat → Nat → Int32)) => (fun (r : Int32) (c2 : Nat → Nat) (I2 : Nat → Int32) (F2 : Nat → Nat → Int32) => (((0 ≤ v0.toInt ∧ v0.toInt ≤ 399) ∧ ((-40) ≤ v1.toInt ∧ v1.toInt ≤ 40)) ∧ r = 1 ∧ c2 = cn ∧ I2 = In ∧ F2 = (va_up Fn 90 (upd (Fn 90) v0.toInt.toNat v1))) ∨ ((¬ ((0 ≤ v0.toInt ∧ v0.toInt ≤ 399) ∧ ((-40) ≤ v1.toInt ∧ v1.toInt ≤ 40))) ∧ r = 0 ∧ c2 = cn ∧ I2 = In ∧ F2 = Fn)) r u.1 u.2.1 u.2.2) (fun (u : (Nat → Nat) × (Nat → Int32) × (Nat → Nat → Int32)) (t : State) => va_P D vwCl (wM cI cB cZ g u.1 u.2.1 u.2.2) t.heap ∧ va_D A (wM cI cB cZ g u.1 u.2.1 u.2.2)) A)) rfl rfl pn_RX12 (Nat.le_of_ble_eq_true rfl) (fun p e s m below meth c A hx hb hml hown S hr hlocks hnm hA hP hK hD hS ls hl => ?_)
  have hl : lv_has ls 3 [(0, .ref (g 100)), (1, .int v0), (2, .int v1)] := hl
  have hi_cn : Hid (CB cn) := hI.b
  refine lv_iload_n hx hb dX12_degrees_0 rfl (lvA1 hl) ?_
  refine vp_callSi (runS_r (As := [.int v0]) (rest := []) S (q_isDay l D cI cB cZ v0 ) kS_RX12_341 hK hP [] rfl ⟨Nat.le_of_ble_eq_true rfl, Nat.le_of_ble_eq_true rfl⟩ ⟨Nat.le_of_ble_eq_true rfl, Nat.le_of_ble_eq_true rfl⟩ rfl hl.1 rfl (Nat.le_of_ble_eq_true rfl) dX12_degrees_1) (fun r_1 h_2 => ?_)
  rcases h_2 with ⟨rfl, h_2⟩ | ⟨rfl, h_2⟩
  ·
    have h_2 : 0 ≤ v0.toInt ∧ v0.toInt ≤ 399 := h_2
    refine lv_if_eq (tgt := 18) hx hb dX12_degrees_4 rfl (fun h => absurd h cq_eq_1_0) (fun _ => ?_)
    obtain ⟨d0, hd0, rfl⟩ := nI_of (x := v0) (fun q => by have := Int32.lt_iff_toInt_lt.mp q; have e : (0 : Int32).toInt = 0 := rfl; (first | omega | (have zz0 := Hid.u hi_cn; omega)))
    have td0 : (nI d0).toInt = (d0 : Int) := nI_toInt hd0
    have zd0 : (nI d0).toInt.toNat = d0 := by (first | omega | (have zz0 := Hid.u hi_cn; omega))
    refine lv_iload_n hx hb dX12_degrees_7 rfl (lvA2 hl) ?_
    refine lv_bipush (v := (-40)) hx hb dX12_degrees_8 kbc_m40 ?_
    refine lv_bipush (v := 40) hx hb dX12_degrees_10 kbc_40 ?_
    refine vp_callSi (runS_r (As := [.int v1, .int (-40), .int 40]) (rest := []) S (q_in l D cI cB cZ v1 (-40) 40 ) kS_RX12_214 hK hP [] rfl ⟨Nat.le_of_ble_eq_true rfl, Nat.le_of_ble_eq_true rfl⟩ ⟨Nat.le_of_ble_eq_true rfl, Nat.le_of_ble_eq_true rfl⟩ rfl hl.1 rfl (Nat.le_of_ble_eq_true rfl) dX12_degrees_12) (fun r_3 h_4 => ?_)
    rcases h_4 with ⟨rfl, h_4⟩ | ⟨rfl, h_4⟩
    ·
      have h_4 : (-40) ≤ v1.toInt ∧ v1.toInt ≤ 40 := h_4
      refine lv_if_ne (tgt := 20) hx hb dX12_degrees_15 rfl (fun _ => ?_) (fun h => absurd h cq_eq_1_0)
      refine lv_aload_n hx hb dX12_degrees_20 rfl (lvA0 hl) ?_
      refine gM_201 S hK hP (v := .ref (g 90)) rfl dX12_degrees_21 ?_
      refine lv_iload_n hx hb dX12_degrees_24 rfl (lvA1 hl) ?_
      refine lv_iload_n hx hb dX12_degrees_25 rfl (lvA2 hl) ?_
      have kb_1 : d0 < 400 := by (first | omega | (have zz0 := Hid.u hi_cn; omega))
      refine stM_90 hx hb hK hP hD hS (Fn2 := (va_up Fn 90 (upd (Fn 90) d0 v1))) (vp_in_nI kb_1 (ltb rfl)) (nI_clamp (Nat.lt_trans kb_1 (ltb rfl))) rfl dX12_degrees_26 (fun H locs hP hD hS => ?_)
      refine lv_iconst (v := 1) hx hb dX12_degrees_27 kic_1 ?_
      exact W.zret (v := 1) hx hb hr rfl (fun t ht hW => ⟨⟨1, (cn, In, (va_up Fn 90 (upd (Fn 90) d0 v1))), rfl, (Or.inl ⟨(by first | (first | omega | (have zz0 := Hid.u hi_cn; omega)) | (simp only [zd0]; (first | omega | (have zz0 := Hid.u hi_cn; omega)))), rfl, rfl, rfl, by first | rfl | simp only [zd0, zd1] | simp only [zd0]⟩), by rw [ht]; exact hP, hD⟩, hS.F ht⟩) hS.2.2 dX12_degrees_28
    ·
      have h_4 : ¬ ((-40) ≤ v1.toInt ∧ v1.toInt ≤ 40) := h_4
      refine lv_if_ne (tgt := 20) hx hb dX12_degrees_15 rfl (fun h => absurd h cq_eq_0_0) (fun _ => ?_)
      refine lv_iconst (v := 0) hx hb dX12_degrees_18 kic_0 ?_
      exact W.zret (v := 0) hx hb hr rfl (fun t ht hW => ⟨⟨0, (cn, In, Fn), rfl, (Or.inr ⟨(by first | (first | omega | (have zz0 := Hid.u hi_cn; omega)) | (simp only [zd0]; (first | omega | (have zz0 := Hid.u hi_cn; omega)))), rfl, rfl, rfl, rfl⟩), by rw [ht]; exact hP, hD⟩, hS.F ht⟩) hS.2.2 dX12_degrees_19
  ·
    have h_2 : ¬ (0 ≤ v0.toInt ∧ v0.toInt ≤ 399) := h_2
    refine lv_if_eq (tgt := 18) hx hb dX12_degrees_4 rfl (fun _ => ?_) (fun h => absurd h cq_eq_0_0)
    refine lv_iconst (v := 0) hx hb dX12_degrees_18 kic_0 ?_
    exact W.zret (v := 0) hx hb hr rfl (fun t ht hW => ⟨⟨0, (cn, In, Fn), rfl, (Or.inr ⟨(by first | (first | omega | (have zz0 := Hid.u hi_cn; omega)) | (simp only [zd0]; (first | omega | (have zz0 := Hid.u hi_cn; omega)))), rfl, rfl, rfl, rfl⟩), by rw [ht]; exact hP, hD⟩, hS.F ht⟩) hS.2.2 dX12_degrees_19
set_option maxRecDepth 100000 in
set_option maxHeartbeats 4000000 in
theorem q_drum (l : Launch) (D : va_G) (cI cB cZ : ClassId) (g : Nat → Nat) (cn : Nat → Nat) (In : Nat → Int32) (Fn : Nat → Nat → Int32)  (sz : Nat) (hI : IM cn Fn) : Met l yX12_drum (CWS yX12_drum cX12_drum 1 (some .int)) (RM 1 0 0) (PBw [.ref (g 100)] D cI cB cZ (wM cI cB cZ g cn In Fn) sz) (va_Qi (fun (r : Int32) (u : (Nat → Nat) × (Nat → Int32) × (Nat → Nat → Int32)) => (fun r c2 I2 F2 => ((cn 57 < 20) ∧ r = nI (cn 57) ∧ c2 = va_up cn 57 (cn 57 + 1) ∧ I2 = In ∧ F2 = Fn) ∨ ((¬ (cn 57 < 20)) ∧ r = -1 ∧ c2 = cn ∧ I2 = In ∧ F2 = Fn)) r u.1 u.2.1 u.2.2) (fun (u : (Nat → Nat) × (Nat → Int32) × (Nat → Nat → Int32)) (t : State) => va_P D vwCl (wM cI cB cZ g u.1 u.2.1 u.2.2) t.heap ∧ va_D (va_A (wM cI cB cZ g cn In Fn) sz) (wM cI cB cZ g u.1 u.2.1 u.2.2)) (va_A (wM cI cB cZ g cn In Fn) sz)) 0 0 (va_A (wM cI cB cZ g cn In Fn) sz) := by
  refine en_w (fun A => (va_Qi (fun (r : Int32) (u : (Nat → Nat) × (Nat → Int32) × (Nat → Nat → Int32)) => (fun (r : Int32) (c2 : Nat → Nat) (I2 : Nat → Int32) (F2 : Nat → Nat → Int32) => ((cn 57 < 20) ∧ r = nI (cn 57) ∧ c2 = va_up cn 57 (cn 57 + 1) ∧ I2 = In ∧ F2 = Fn) ∨ ((¬ (cn 57 < 20)) ∧ r = -1 ∧ c2 = cn ∧ I2 = In ∧ F2 = Fn)) r u.1 u.2.1 u.2.2) (fun (u : (Nat → Nat) × (Nat → Int32) × (Nat → Nat → Int32)) (t : State) => va_P D vwCl (wM cI cB cZ g u.1 u.2.1 u.2.2) t.heap ∧ va_D A (wM cI cB cZ g u.1 u.2.1 u.2.2)) A)) rfl rfl pn_RX12 (Nat.le_of_ble_eq_true rfl) (fun p e s m below meth c A hx hb hml hown S hr hlocks hnm hA hP hK hD hS ls hl => ?_)
  have hl : lv_has ls 1 [(0, .ref (g 100))] := hl
  have hi_cn : Hid (CB cn) := hI.b
  refine lv_aload_n hx hb dX12_drum_0 rfl (lvA0 hl) ?_
  refine gM_407 S hK hP (v := .int (nI (cn 57))) rfl dX12_drum_1 ?_
  refine lv_bipush (v := 20) hx hb dX12_drum_4 kbc_20 ?_
  have : (nI (cn 57)).toInt = (((cn 57) : Nat) : Int) := nI_toInt (by (first | omega | (have zz0 := Hid.u hi_cn; omega)))
  refine lv_icmp_ne (tgt := 11) hx hb dX12_drum_6 rfl (fun c_1 => ?_) (fun c_1 => ?_)
  ·
    have tc_1 : ((nI (cn 57)).toInt : Int) ≠ 20 := fun q => c_1 (Int32.toInt_inj.mp q)
    refine lv_aload_n hx hb dX12_drum_11 rfl (lvA0 hl) ?_
    refine lv_aload_n hx hb dX12_drum_12 rfl (lvA0 hl) ?_
    refine gM_407 S hK hP (v := .int (nI (cn 57))) rfl dX12_drum_13 ?_
    refine lv_iconst (v := 1) hx hb dX12_drum_16 kic_1 ?_
    refine lv_iadd hx hb dX12_drum_17 ?_
    refine lv_topi (fun y_2 ey_2 => ?_)
    obtain rfl : y_2 = (nI ((cn 57) + 1)) := ey_2.trans (nI_add (cn 57) 1)
    refine pM_407 S hK hP hD hS (a := ((cn 57) + 1)) (cn2 := (va_up cn 57 ((cn 57) + 1))) rfl rfl dX12_drum_18 (fun H locs hP hD hS => ?_)
    refine lv_aload_n hx hb dX12_drum_21 rfl (lvA0 hl) ?_
    refine gM_407 S hK hP (v := .int (nI ((cn 57) + 1))) rfl dX12_drum_22 ?_
    refine lv_iconst (v := 1) hx hb dX12_drum_25 kic_1 ?_
    refine lv_isub hx hb dX12_drum_26 ?_
    refine lv_topi (fun y_3 ey_3 => ?_)
    obtain rfl : y_3 = (nI (cn 57)) := ey_3.trans (nI_pred _)
    exact W.iret (v := (nI (cn 57))) hx hb hr (fun t ht hW => ⟨⟨(nI (cn 57)), ((va_up cn 57 ((cn 57) + 1)), In, Fn), rfl, (Or.inl ⟨(by first | (first | omega | (have zz0 := Hid.u hi_cn; omega)) | (simp only [zd0]; (first | omega | (have zz0 := Hid.u hi_cn; omega)))), rfl, rfl, rfl, by first | rfl | simp only [zd0, zd1] | simp only [zd0]⟩), by rw [ht]; exact hP, hD⟩, hS.F ht⟩) hS.2.2 dX12_drum_27
  ·
    have tc_1 : ((nI (cn 57)).toInt : Int) = 20 := congrArg Int32.toInt c_1
    refine lv_iconst (v := (-1)) hx hb dX12_drum_9 kic_m1 ?_
    exact W.iret (v := (-1)) hx hb hr (fun t ht hW => ⟨⟨(-1), (cn, In, Fn), rfl, (Or.inr ⟨(by first | (first | omega | (have zz0 := Hid.u hi_cn; omega)) | (simp only [zd0]; (first | omega | (have zz0 := Hid.u hi_cn; omega)))), rfl, rfl, rfl, rfl⟩), by rw [ht]; exact hP, hD⟩, hS.F ht⟩) hS.2.2 dX12_drum_10
set_option maxRecDepth 100000 in
set_option maxHeartbeats 4000000 in
theorem q_spill (l : Launch) (D : va_G) (cI cB cZ : ClassId) (g : Nat → Nat) (cn : Nat → Nat) (In : Nat → Int32) (Fn : Nat → Nat → Int32) (v0 v1 : Int32) (sz : Nat) (hI : IM cn Fn) : Met l yX12_spill (CWS yX12_spill cX12_spill 3 (some .int)) (RM 1 0 0) (PBw [.ref (g 100), .int v0, .int v1] D cI cB cZ (wM cI cB cZ g cn In Fn) sz) (va_Qi (fun (r : Int32) (u : (Nat → Nat) × (Nat → Int32) × (Nat → Nat → Int32)) => (fun r c2 I2 F2 => (((0 ≤ v0.toInt ∧ v0.toInt ≤ (cn 0 : Int)) ∧ (1 ≤ v1.toInt ∧ v1.toInt ≤ 400) ∧ cn 75 < 40) ∧ r = nI (cn 75 + 1) ∧ c2 = va_up cn 75 (cn 75 + 1) ∧ I2 = In ∧ F2 = (va_up (va_up Fn 81 (upd (Fn 81) (cn 75) v0)) 82 (upd (Fn 82) (cn 75) v1))) ∨ ((¬ ((0 ≤ v0.toInt ∧ v0.toInt ≤ (cn 0 : Int)) ∧ (1 ≤ v1.toInt ∧ v1.toInt ≤ 400) ∧ cn 75 < 40)) ∧ r = -1 ∧ c2 = cn ∧ I2 = In ∧ F2 = Fn)) r u.1 u.2.1 u.2.2) (fun (u : (Nat → Nat) × (Nat → Int32) × (Nat → Nat → Int32)) (t : State) => va_P D vwCl (wM cI cB cZ g u.1 u.2.1 u.2.2) t.heap ∧ va_D (va_A (wM cI cB cZ g cn In Fn) sz) (wM cI cB cZ g u.1 u.2.1 u.2.2)) (va_A (wM cI cB cZ g cn In Fn) sz)) 0 0 (va_A (wM cI cB cZ g cn In Fn) sz) := by
  refine en_w (fun A => (va_Qi (fun (r : Int32) (u : (Nat → Nat) × (Nat → Int32) × (Nat → Nat → Int32)) => (fun (r : Int32) (c2 : Nat → Nat) (I2 : Nat → Int32) (F2 : Nat → Nat → Int32) => (((0 ≤ v0.toInt ∧ v0.toInt ≤ (cn 0 : Int)) ∧ (1 ≤ v1.toInt ∧ v1.toInt ≤ 400) ∧ cn 75 < 40) ∧ r = nI (cn 75 + 1) ∧ c2 = va_up cn 75 (cn 75 + 1) ∧ I2 = In ∧ F2 = (va_up (va_up Fn 81 (upd (Fn 81) (cn 75) v0)) 82 (upd (Fn 82) (cn 75) v1))) ∨ ((¬ ((0 ≤ v0.toInt ∧ v0.toInt ≤ (cn 0 : Int)) ∧ (1 ≤ v1.toInt ∧ v1.toInt ≤ 400) ∧ cn 75 < 40)) ∧ r = -1 ∧ c2 = cn ∧ I2 = In ∧ F2 = Fn)) r u.1 u.2.1 u.2.2) (fun (u : (Nat → Nat) × (Nat → Int32) × (Nat → Nat → Int32)) (t : State) => va_P D vwCl (wM cI cB cZ g u.1 u.2.1 u.2.2) t.heap ∧ va_D A (wM cI cB cZ g u.1 u.2.1 u.2.2)) A)) rfl rfl pn_RX12 (Nat.le_of_ble_eq_true rfl) (fun p e s m below meth c A hx hb hml hown S hr hlocks hnm hA hP hK hD hS ls hl => ?_)
  have hl : lv_has ls 3 [(0, .ref (g 100)), (1, .int v0), (2, .int v1)] := hl
  have hi_cn : Hid (CB cn) := hI.b
  refine lv_iload_n hx hb dX12_spill_0 rfl (lvA1 hl) ?_
  refine lv_iconst (v := 0) hx hb dX12_spill_1 kic_0 ?_
  refine lv_aload_n hx hb dX12_spill_2 rfl (lvA0 hl) ?_
  refine gM_211 S hK hP (v := .int (nI (cn 0))) rfl dX12_spill_3 ?_
  refine vp_callSi (runS_r (As := [.int v0, .int 0, .int (nI (cn 0))]) (rest := []) S (q_in l D cI cB cZ v0 0 (nI (cn 0)) ) kS_RX12_214 hK hP [] rfl ⟨Nat.le_of_ble_eq_true rfl, Nat.le_of_ble_eq_true rfl⟩ ⟨Nat.le_of_ble_eq_true rfl, Nat.le_of_ble_eq_true rfl⟩ rfl hl.1 rfl (Nat.le_of_ble_eq_true rfl) dX12_spill_6) (fun r_1 h_2 => ?_)
  have : (nI (cn 0)).toInt = (((cn 0) : Nat) : Int) := nI_toInt (by (first | omega | (have zz0 := Hid.u hi_cn; omega)))
  rcases h_2 with ⟨rfl, h_2⟩ | ⟨rfl, h_2⟩
  ·
    have h_2 : 0 ≤ v0.toInt ∧ v0.toInt ≤ (nI (cn 0)).toInt := h_2
    refine lv_if_eq (tgt := 32) hx hb dX12_spill_9 rfl (fun h => absurd h cq_eq_1_0) (fun _ => ?_)
    refine lv_iload_n hx hb dX12_spill_12 rfl (lvA2 hl) ?_
    refine lv_iconst (v := 1) hx hb dX12_spill_13 kic_1 ?_
    refine lv_sipush (v := 400) hx hb dX12_spill_14 (by decide) ?_
    refine vp_callSi (runS_r (As := [.int v1, .int 1, .int 400]) (rest := []) S (q_in l D cI cB cZ v1 1 400 ) kS_RX12_214 hK hP [] rfl ⟨Nat.le_of_ble_eq_true rfl, Nat.le_of_ble_eq_true rfl⟩ ⟨Nat.le_of_ble_eq_true rfl, Nat.le_of_ble_eq_true rfl⟩ rfl hl.1 rfl (Nat.le_of_ble_eq_true rfl) dX12_spill_17) (fun r_3 h_4 => ?_)
    rcases h_4 with ⟨rfl, h_4⟩ | ⟨rfl, h_4⟩
    ·
      have h_4 : 1 ≤ v1.toInt ∧ v1.toInt ≤ 400 := h_4
      refine lv_if_eq (tgt := 32) hx hb dX12_spill_20 rfl (fun h => absurd h cq_eq_1_0) (fun _ => ?_)
      refine lv_aload_n hx hb dX12_spill_23 rfl (lvA0 hl) ?_
      refine gM_462 S hK hP (v := .int (nI (cn 75))) rfl dX12_spill_24 ?_
      refine lv_bipush (v := 40) hx hb dX12_spill_27 kbc_40 ?_
      have : (nI (cn 75)).toInt = (((cn 75) : Nat) : Int) := nI_toInt (by (first | omega | (have zz0 := Hid.u hi_cn; omega)))
      refine lv_icmp_ne (tgt := 34) hx hb dX12_spill_29 rfl (fun c_5 => ?_) (fun c_5 => ?_)
      ·
        have tc_5 : ((nI (cn 75)).toInt : Int) ≠ 40 := fun q => c_5 (Int32.toInt_inj.mp q)
        refine lv_aload_n hx hb dX12_spill_34 rfl (lvA0 hl) ?_
        refine gM_177 S hK hP (v := .ref (g 81)) rfl dX12_spill_35 ?_
        refine lv_aload_n hx hb dX12_spill_38 rfl (lvA0 hl) ?_
        refine gM_462 S hK hP (v := .int (nI (cn 75))) rfl dX12_spill_39 ?_
        refine lv_iload_n hx hb dX12_spill_42 rfl (lvA1 hl) ?_
        have kb_1 : (cn 75) < 40 := by (first | omega | (have zz0 := Hid.u hi_cn; omega))
        refine stM_81 hx hb hK hP hD hS (Fn2 := (va_up Fn 81 (upd (Fn 81) (cn 75) v0))) (vp_in_nI kb_1 (ltb rfl)) (nI_clamp (Nat.lt_trans kb_1 (ltb rfl))) rfl dX12_spill_43 (fun H locs hP hD hS => ?_)
        refine lv_aload_n hx hb dX12_spill_44 rfl (lvA0 hl) ?_
        refine gM_180 S hK hP (v := .ref (g 82)) rfl dX12_spill_45 ?_
        refine lv_aload_n hx hb dX12_spill_48 rfl (lvA0 hl) ?_
        refine gM_462 S hK hP (v := .int (nI (cn 75))) rfl dX12_spill_49 ?_
        refine lv_iload_n hx hb dX12_spill_52 rfl (lvA2 hl) ?_
        refine stM_82 hx hb hK hP hD hS (Fn2 := (va_up (va_up Fn 81 (upd (Fn 81) (cn 75) v0)) 82 (upd (Fn 82) (cn 75) v1))) (vp_in_nI kb_1 (ltb rfl)) (nI_clamp (Nat.lt_trans kb_1 (ltb rfl))) rfl dX12_spill_53 (fun H locs hP hD hS => ?_)
        refine lv_aload_n hx hb dX12_spill_54 rfl (lvA0 hl) ?_
        refine lv_aload_n hx hb dX12_spill_55 rfl (lvA0 hl) ?_
        refine gM_462 S hK hP (v := .int (nI (cn 75))) rfl dX12_spill_56 ?_
        refine lv_iconst (v := 1) hx hb dX12_spill_59 kic_1 ?_
        refine lv_iadd hx hb dX12_spill_60 ?_
        refine lv_topi (fun y_6 ey_6 => ?_)
        obtain rfl : y_6 = (nI ((cn 75) + 1)) := ey_6.trans (nI_add (cn 75) 1)
        refine pM_462 S hK hP hD hS (a := ((cn 75) + 1)) (cn2 := (va_up cn 75 ((cn 75) + 1))) rfl rfl dX12_spill_61 (fun H locs hP hD hS => ?_)
        refine lv_aload_n hx hb dX12_spill_64 rfl (lvA0 hl) ?_
        refine gM_462 S hK hP (v := .int (nI ((cn 75) + 1))) rfl dX12_spill_65 ?_
        exact W.iret (v := (nI ((cn 75) + 1))) hx hb hr (fun t ht hW => ⟨⟨(nI ((cn 75) + 1)), ((va_up cn 75 ((cn 75) + 1)), In, (va_up (va_up Fn 81 (upd (Fn 81) (cn 75) v0)) 82 (upd (Fn 82) (cn 75) v1))), rfl, (Or.inl ⟨(by first | (first | omega | (have zz0 := Hid.u hi_cn; omega)) | (simp only [zd0]; (first | omega | (have zz0 := Hid.u hi_cn; omega)))), rfl, rfl, rfl, by first | rfl | simp only [zd0, zd1] | simp only [zd0]⟩), by rw [ht]; exact hP, hD⟩, hS.F ht⟩) hS.2.2 dX12_spill_68
      ·
        have tc_5 : ((nI (cn 75)).toInt : Int) = 40 := congrArg Int32.toInt c_5
        refine lv_iconst (v := (-1)) hx hb dX12_spill_32 kic_m1 ?_
        exact W.iret (v := (-1)) hx hb hr (fun t ht hW => ⟨⟨(-1), (cn, In, Fn), rfl, (Or.inr ⟨(by first | (first | omega | (have zz0 := Hid.u hi_cn; omega)) | (simp only [zd0]; (first | omega | (have zz0 := Hid.u hi_cn; omega)))), rfl, rfl, rfl, rfl⟩), by rw [ht]; exact hP, hD⟩, hS.F ht⟩) hS.2.2 dX12_spill_33
    ·
      have h_4 : ¬ (1 ≤ v1.toInt ∧ v1.toInt ≤ 400) := h_4
      refine lv_if_eq (tgt := 32) hx hb dX12_spill_20 rfl (fun _ => ?_) (fun h => absurd h cq_eq_0_0)
      refine lv_iconst (v := (-1)) hx hb dX12_spill_32 kic_m1 ?_
      exact W.iret (v := (-1)) hx hb hr (fun t ht hW => ⟨⟨(-1), (cn, In, Fn), rfl, (Or.inr ⟨(by first | (first | omega | (have zz0 := Hid.u hi_cn; omega)) | (simp only [zd0]; (first | omega | (have zz0 := Hid.u hi_cn; omega)))), rfl, rfl, rfl, rfl⟩), by rw [ht]; exact hP, hD⟩, hS.F ht⟩) hS.2.2 dX12_spill_33
  ·
    have h_2 : ¬ (0 ≤ v0.toInt ∧ v0.toInt ≤ (nI (cn 0)).toInt) := h_2
    refine lv_if_eq (tgt := 32) hx hb dX12_spill_9 rfl (fun _ => ?_) (fun h => absurd h cq_eq_0_0)
    refine lv_iconst (v := (-1)) hx hb dX12_spill_32 kic_m1 ?_
    exact W.iret (v := (-1)) hx hb hr (fun t ht hW => ⟨⟨(-1), (cn, In, Fn), rfl, (Or.inr ⟨(by first | (first | omega | (have zz0 := Hid.u hi_cn; omega)) | (simp only [zd0]; (first | omega | (have zz0 := Hid.u hi_cn; omega)))), rfl, rfl, rfl, rfl⟩), by rw [ht]; exact hP, hD⟩, hS.F ht⟩) hS.2.2 dX12_spill_33
set_option maxRecDepth 100000 in
set_option maxHeartbeats 4000000 in
theorem q_blocked (l : Launch) (D : va_G) (cI cB cZ : ClassId) (g : Nat → Nat) (cn : Nat → Nat) (In : Nat → Int32) (Fn : Nat → Nat → Int32) (v0 : Int32) (sz : Nat) (hI : IM cn Fn) : Met l yX12_blocked (CWS yX12_blocked cX12_blocked 2 (some .int)) (RM 0 0 0) (PBw [.ref (g 100), .int v0] D cI cB cZ (wM cI cB cZ g cn In Fn) sz) (va_Qi (fun (r : Int32) (u : (Nat → Nat) × (Nat → Int32) × (Nat → Nat → Int32)) => (fun r c2 I2 F2 => ((0 ≤ v0.toInt ∧ v0.toInt < (cn 83 : Int)) ∧ r = Fn 89 v0.toInt.toNat + 1 ∧ c2 = cn ∧ I2 = In ∧ F2 = (va_up Fn 89 (upd (Fn 89) v0.toInt.toNat (Fn 89 v0.toInt.toNat + 1)))) ∨ ((¬ (0 ≤ v0.toInt ∧ v0.toInt < (cn 83 : Int))) ∧ r = -1 ∧ c2 = cn ∧ I2 = In ∧ F2 = Fn)) r u.1 u.2.1 u.2.2) (fun (u : (Nat → Nat) × (Nat → Int32) × (Nat → Nat → Int32)) (t : State) => va_P D vwCl (wM cI cB cZ g u.1 u.2.1 u.2.2) t.heap ∧ va_D (va_A (wM cI cB cZ g cn In Fn) sz) (wM cI cB cZ g u.1 u.2.1 u.2.2)) (va_A (wM cI cB cZ g cn In Fn) sz)) 0 0 (va_A (wM cI cB cZ g cn In Fn) sz) := by
  refine en_w (fun A => (va_Qi (fun (r : Int32) (u : (Nat → Nat) × (Nat → Int32) × (Nat → Nat → Int32)) => (fun (r : Int32) (c2 : Nat → Nat) (I2 : Nat → Int32) (F2 : Nat → Nat → Int32) => ((0 ≤ v0.toInt ∧ v0.toInt < (cn 83 : Int)) ∧ r = Fn 89 v0.toInt.toNat + 1 ∧ c2 = cn ∧ I2 = In ∧ F2 = (va_up Fn 89 (upd (Fn 89) v0.toInt.toNat (Fn 89 v0.toInt.toNat + 1)))) ∨ ((¬ (0 ≤ v0.toInt ∧ v0.toInt < (cn 83 : Int))) ∧ r = -1 ∧ c2 = cn ∧ I2 = In ∧ F2 = Fn)) r u.1 u.2.1 u.2.2) (fun (u : (Nat → Nat) × (Nat → Int32) × (Nat → Nat → Int32)) (t : State) => va_P D vwCl (wM cI cB cZ g u.1 u.2.1 u.2.2) t.heap ∧ va_D A (wM cI cB cZ g u.1 u.2.1 u.2.2)) A)) rfl rfl pn_RX12 (Nat.le_of_ble_eq_true rfl) (fun p e s m below meth c A hx hb hml hown S hr hlocks hnm hA hP hK hD hS ls hl => ?_)
  have hl : lv_has ls 2 [(0, .ref (g 100)), (1, .int v0)] := hl
  have hi_cn : Hid (CB cn) := hI.b
  refine lv_iload_n hx hb dX12_blocked_0 rfl (lvA1 hl) ?_
  refine lv_if_lt (tgt := 12) hx hb dX12_blocked_1 rfl (fun c_1 => ?_) (fun c_1 => ?_)
  ·
    have tc_1 : (v0.toInt : Int) < 0 := Int32.lt_iff_toInt_lt.mp c_1
    refine lv_iconst (v := (-1)) hx hb dX12_blocked_12 kic_m1 ?_
    exact W.iret (v := (-1)) hx hb hr (fun t ht hW => ⟨⟨(-1), (cn, In, Fn), rfl, (Or.inr ⟨(by first | (first | omega | (have zz0 := Hid.u hi_cn; omega)) | (simp only [zd0]; (first | omega | (have zz0 := Hid.u hi_cn; omega)))), rfl, rfl, rfl, rfl⟩), by rw [ht]; exact hP, hD⟩, hS.F ht⟩) hS.2.2 dX12_blocked_13
  ·
    have tc_1 : (0 : Int) ≤ v0.toInt := Int32.le_iff_toInt_le.mp (Int32.not_lt.mp c_1)
    refine lv_iload_n hx hb dX12_blocked_4 rfl (lvA1 hl) ?_
    refine lv_aload_n hx hb dX12_blocked_5 rfl (lvA0 hl) ?_
    refine gM_478 S hK hP (v := .int (nI (cn 83))) rfl dX12_blocked_6 ?_
    have : (nI (cn 83)).toInt = (((cn 83) : Nat) : Int) := nI_toInt (by (first | omega | (have zz0 := Hid.u hi_cn; omega)))
    refine lv_icmp_lt (tgt := 14) hx hb dX12_blocked_9 rfl (fun c_2 => ?_) (fun c_2 => ?_)
    ·
      have tc_2 : (v0.toInt : Int) < (nI (cn 83)).toInt := Int32.lt_iff_toInt_lt.mp c_2
      obtain ⟨d0, hd0, rfl⟩ := nI_of (x := v0) (fun q => by have := Int32.lt_iff_toInt_lt.mp q; have e : (0 : Int32).toInt = 0 := rfl; (first | omega | (have zz0 := Hid.u hi_cn; omega)))
      have td0 : (nI d0).toInt = (d0 : Int) := nI_toInt hd0
      have zd0 : (nI d0).toInt.toNat = d0 := by (first | omega | (have zz0 := Hid.u hi_cn; omega))
      refine lv_aload_n hx hb dX12_blocked_14 rfl (lvA0 hl) ?_
      refine gM_198 S hK hP (v := .ref (g 89)) rfl dX12_blocked_15 ?_
      refine lv_iload_n hx hb dX12_blocked_18 rfl (lvA1 hl) ?_
      refine lv_aload_n hx hb dX12_blocked_19 rfl (lvA0 hl) ?_
      refine gM_198 S hK hP (v := .ref (g 89)) rfl dX12_blocked_20 ?_
      refine lv_iload_n hx hb dX12_blocked_23 rfl (lvA1 hl) ?_
      have kb_1 : d0 < 10 := by (first | omega | (have zz0 := Hid.u hi_cn; omega))
      refine ldM_89 hx hb hK hP (x := ((Fn 89) d0)) (vp_in_nI kb_1 (ltb rfl)) (nI_clamp (Nat.lt_trans kb_1 (ltb rfl))) rfl dX12_blocked_24 ?_
      refine lv_iconst (v := 1) hx hb dX12_blocked_25 kic_1 ?_
      refine lv_iadd hx hb dX12_blocked_26 ?_
      refine stM_89 hx hb hK hP hD hS (Fn2 := (va_up Fn 89 (upd (Fn 89) d0 (((Fn 89) d0) + 1)))) (vp_in_nI kb_1 (ltb rfl)) (nI_clamp (Nat.lt_trans kb_1 (ltb rfl))) rfl dX12_blocked_27 (fun H locs hP hD hS => ?_)
      refine lv_aload_n hx hb dX12_blocked_28 rfl (lvA0 hl) ?_
      refine gM_198 S hK hP (v := .ref (g 89)) rfl dX12_blocked_29 ?_
      refine lv_iload_n hx hb dX12_blocked_32 rfl (lvA1 hl) ?_
      refine ldM_89 hx hb hK hP (x := ((upd (Fn 89) d0 (((Fn 89) d0) + 1)) d0)) (vp_in_nI kb_1 (ltb rfl)) (nI_clamp (Nat.lt_trans kb_1 (ltb rfl))) rfl dX12_blocked_33 ?_
      exact W.iret (v := ((upd (Fn 89) d0 (((Fn 89) d0) + 1)) d0)) hx hb hr (fun t ht hW => ⟨⟨((upd (Fn 89) d0 (((Fn 89) d0) + 1)) d0), (cn, In, (va_up Fn 89 (upd (Fn 89) d0 (((Fn 89) d0) + 1)))), rfl, (Or.inl ⟨(by first | (first | omega | (have zz0 := Hid.u hi_cn; omega)) | (simp only [zd0]; (first | omega | (have zz0 := Hid.u hi_cn; omega)))), by simp only [zd0, upd_self], rfl, rfl, by simp only [zd0]⟩), by rw [ht]; exact hP, hD⟩, hS.F ht⟩) hS.2.2 dX12_blocked_34
    ·
      have tc_2 : ((nI (cn 83)).toInt : Int) ≤ v0.toInt := Int32.le_iff_toInt_le.mp (Int32.not_lt.mp c_2)
      refine lv_iconst (v := (-1)) hx hb dX12_blocked_12 kic_m1 ?_
      exact W.iret (v := (-1)) hx hb hr (fun t ht hW => ⟨⟨(-1), (cn, In, Fn), rfl, (Or.inr ⟨(by first | (first | omega | (have zz0 := Hid.u hi_cn; omega)) | (simp only [zd0]; (first | omega | (have zz0 := Hid.u hi_cn; omega)))), rfl, rfl, rfl, rfl⟩), by rw [ht]; exact hP, hD⟩, hS.F ht⟩) hS.2.2 dX12_blocked_13
set_option maxRecDepth 100000 in
set_option maxHeartbeats 4000000 in
theorem q_off (l : Launch) (D : va_G) (cI cB cZ : ClassId) (g : Nat → Nat) (cn : Nat → Nat) (In : Nat → Int32) (Fn : Nat → Nat → Int32) (v0 v1 v2 : Int32) (sz : Nat) (hI : IM cn Fn) : Met l yX12_off (CWS yX12_off cX12_off 4 (some .boolean)) (RM 1 0 0) (PBw [.ref (g 100), .int v0, .int v1, .int v2] D cI cB cZ (wM cI cB cZ g cn In Fn) sz) (va_Qi (fun (r : Int32) (u : (Nat → Nat) × (Nat → Int32) × (Nat → Nat → Int32)) => (fun r c2 I2 F2 => ((0 ≤ v0.toInt ∧ v0.toInt < (cn 46 : Int) ∧ 0 ≤ v1.toInt ∧ v1.toInt ≤ 399 ∧ Fn 53 (400 * v0.toInt.toNat + v1.toInt.toNat) ≠ v2) ∧ r = 1 ∧ c2 = cn ∧ I2 = In ∧ F2 = (va_up Fn 53 (upd (Fn 53) (400 * v0.toInt.toNat + v1.toInt.toNat) (vp_nar .boolean v2)))) ∨ ((¬ (0 ≤ v0.toInt ∧ v0.toInt < (cn 46 : Int) ∧ 0 ≤ v1.toInt ∧ v1.toInt ≤ 399 ∧ Fn 53 (400 * v0.toInt.toNat + v1.toInt.toNat) ≠ v2)) ∧ r = 0 ∧ c2 = cn ∧ I2 = In ∧ F2 = Fn)) r u.1 u.2.1 u.2.2) (fun (u : (Nat → Nat) × (Nat → Int32) × (Nat → Nat → Int32)) (t : State) => va_P D vwCl (wM cI cB cZ g u.1 u.2.1 u.2.2) t.heap ∧ va_D (va_A (wM cI cB cZ g cn In Fn) sz) (wM cI cB cZ g u.1 u.2.1 u.2.2)) (va_A (wM cI cB cZ g cn In Fn) sz)) 0 0 (va_A (wM cI cB cZ g cn In Fn) sz) := by
  refine en_w (fun A => (va_Qi (fun (r : Int32) (u : (Nat → Nat) × (Nat → Int32) × (Nat → Nat → Int32)) => (fun (r : Int32) (c2 : Nat → Nat) (I2 : Nat → Int32) (F2 : Nat → Nat → Int32) => ((0 ≤ v0.toInt ∧ v0.toInt < (cn 46 : Int) ∧ 0 ≤ v1.toInt ∧ v1.toInt ≤ 399 ∧ Fn 53 (400 * v0.toInt.toNat + v1.toInt.toNat) ≠ v2) ∧ r = 1 ∧ c2 = cn ∧ I2 = In ∧ F2 = (va_up Fn 53 (upd (Fn 53) (400 * v0.toInt.toNat + v1.toInt.toNat) (vp_nar .boolean v2)))) ∨ ((¬ (0 ≤ v0.toInt ∧ v0.toInt < (cn 46 : Int) ∧ 0 ≤ v1.toInt ∧ v1.toInt ≤ 399 ∧ Fn 53 (400 * v0.toInt.toNat + v1.toInt.toNat) ≠ v2)) ∧ r = 0 ∧ c2 = cn ∧ I2 = In ∧ F2 = Fn)) r u.1 u.2.1 u.2.2) (fun (u : (Nat → Nat) × (Nat → Int32) × (Nat → Nat → Int32)) (t : State) => va_P D vwCl (wM cI cB cZ g u.1 u.2.1 u.2.2) t.heap ∧ va_D A (wM cI cB cZ g u.1 u.2.1 u.2.2)) A)) rfl rfl pn_RX12 (Nat.le_of_ble_eq_true rfl) (fun p e s m below meth c A hx hb hml hown S hr hlocks hnm hA hP hK hD hS ls hl => ?_)
  have hl : lv_has ls 4 [(0, .ref (g 100)), (1, .int v0), (2, .int v1), (3, .int v2)] := hl
  have hi_cn : Hid (CB cn) := hI.b
  refine lv_iload_n hx hb dX12_off_0 rfl (lvA1 hl) ?_
  refine lv_if_lt (tgt := 35) hx hb dX12_off_1 rfl (fun c_1 => ?_) (fun c_1 => ?_)
  ·
    have tc_1 : (v0.toInt : Int) < 0 := Int32.lt_iff_toInt_lt.mp c_1
    refine lv_iconst (v := 0) hx hb dX12_off_35 kic_0 ?_
    exact W.zret (v := 0) hx hb hr rfl (fun t ht hW => ⟨⟨0, (cn, In, Fn), rfl, (Or.inr ⟨(by first | (first | omega | (have zz0 := Hid.u hi_cn; omega)) | (simp only [zd0]; (first | omega | (have zz0 := Hid.u hi_cn; omega))) | (simp only [zd0, zd1]; intro q; exact q.2.2.2.2 (by assumption))), rfl, rfl, rfl, rfl⟩), by rw [ht]; exact hP, hD⟩, hS.F ht⟩) hS.2.2 dX12_off_36
  ·
    have tc_1 : (0 : Int) ≤ v0.toInt := Int32.le_iff_toInt_le.mp (Int32.not_lt.mp c_1)
    refine lv_iload_n hx hb dX12_off_4 rfl (lvA1 hl) ?_
    refine lv_aload_n hx hb dX12_off_5 rfl (lvA0 hl) ?_
    refine gM_386 S hK hP (v := .int (nI (cn 46))) rfl dX12_off_6 ?_
    have : (nI (cn 46)).toInt = (((cn 46) : Nat) : Int) := nI_toInt (by (first | omega | (have zz0 := Hid.u hi_cn; omega)))
    refine lv_icmp_ge (tgt := 35) hx hb dX12_off_9 rfl (fun c_2 => ?_) (fun c_2 => ?_)
    ·
      have tc_2 : ((nI (cn 46)).toInt : Int) ≤ v0.toInt := Int32.le_iff_toInt_le.mp c_2
      refine lv_iconst (v := 0) hx hb dX12_off_35 kic_0 ?_
      exact W.zret (v := 0) hx hb hr rfl (fun t ht hW => ⟨⟨0, (cn, In, Fn), rfl, (Or.inr ⟨(by first | (first | omega | (have zz0 := Hid.u hi_cn; omega)) | (simp only [zd0]; (first | omega | (have zz0 := Hid.u hi_cn; omega))) | (simp only [zd0, zd1]; intro q; exact q.2.2.2.2 (by assumption))), rfl, rfl, rfl, rfl⟩), by rw [ht]; exact hP, hD⟩, hS.F ht⟩) hS.2.2 dX12_off_36
    ·
      have tc_2 : (v0.toInt : Int) < (nI (cn 46)).toInt := Int32.lt_iff_toInt_lt.mp (Int32.not_le.mp c_2)
      obtain ⟨d0, hd0, rfl⟩ := nI_of (x := v0) (fun q => by have := Int32.lt_iff_toInt_lt.mp q; have e : (0 : Int32).toInt = 0 := rfl; (first | omega | (have zz0 := Hid.u hi_cn; omega)))
      have td0 : (nI d0).toInt = (d0 : Int) := nI_toInt hd0
      have zd0 : (nI d0).toInt.toNat = d0 := by (first | omega | (have zz0 := Hid.u hi_cn; omega))
      refine lv_iload_n hx hb dX12_off_12 rfl (lvA2 hl) ?_
      refine vp_callSi (runS_r (As := [.int v1]) (rest := []) S (q_isDay l D cI cB cZ v1 ) kS_RX12_341 hK hP [] rfl ⟨Nat.le_of_ble_eq_true rfl, Nat.le_of_ble_eq_true rfl⟩ ⟨Nat.le_of_ble_eq_true rfl, Nat.le_of_ble_eq_true rfl⟩ rfl hl.1 rfl (Nat.le_of_ble_eq_true rfl) dX12_off_13) (fun r_3 h_4 => ?_)
      rcases h_4 with ⟨rfl, h_4⟩ | ⟨rfl, h_4⟩
      ·
        have h_4 : 0 ≤ v1.toInt ∧ v1.toInt ≤ 399 := h_4
        refine lv_if_eq (tgt := 35) hx hb dX12_off_16 rfl (fun h => absurd h cq_eq_1_0) (fun _ => ?_)
        obtain ⟨d1, hd1, rfl⟩ := nI_of (x := v1) (fun q => by have := Int32.lt_iff_toInt_lt.mp q; have e : (0 : Int32).toInt = 0 := rfl; (first | omega | (have zz0 := Hid.u hi_cn; omega)))
        have td1 : (nI d1).toInt = (d1 : Int) := nI_toInt hd1
        have zd1 : (nI d1).toInt.toNat = d1 := by (first | omega | (have zz0 := Hid.u hi_cn; omega))
        refine lv_aload_n hx hb dX12_off_19 rfl (lvA0 hl) ?_
        refine gM_125 S hK hP (v := .ref (g 53)) rfl dX12_off_20 ?_
        refine lv_sipush (v := 400) hx hb dX12_off_23 (by decide) ?_
        refine lv_iload_n hx hb dX12_off_26 rfl (lvA1 hl) ?_
        refine lv_imul hx hb dX12_off_27 ?_
        refine lv_topi (fun y_5 ey_5 => ?_)
        obtain rfl : y_5 = (nI (400 * d0)) := ey_5.trans (pk_mul 400 d0)
        refine lv_iload_n hx hb dX12_off_28 rfl (lvA2 hl) ?_
        refine lv_iadd hx hb dX12_off_29 ?_
        refine lv_topi (fun y_6 ey_6 => ?_)
        obtain rfl : y_6 = (nI ((400 * d0) + d1)) := ey_6.trans (nI_add (400 * d0) d1)
        have kb_1 : ((400 * d0) + d1) < 1200 := by (first | omega | (have zz0 := Hid.u hi_cn; omega))
        refine ldM_53 hx hb hK hP (x := ((Fn 53) ((400 * d0) + d1))) (vp_in_nI kb_1 (ltb rfl)) (nI_clamp (Nat.lt_trans kb_1 (ltb rfl))) rfl dX12_off_30 ?_
        refine lv_iload_n hx hb dX12_off_31 rfl (lvA3 hl) ?_
        refine lv_icmp_ne (tgt := 37) hx hb dX12_off_32 rfl (fun c_7 => ?_) (fun c_7 => ?_)
        ·
          have tc_7 : (((Fn 53) ((400 * d0) + d1)).toInt : Int) ≠ v2.toInt := fun q => c_7 (Int32.toInt_inj.mp q)
          refine lv_aload_n hx hb dX12_off_37 rfl (lvA0 hl) ?_
          refine gM_125 S hK hP (v := .ref (g 53)) rfl dX12_off_38 ?_
          refine lv_sipush (v := 400) hx hb dX12_off_41 (by decide) ?_
          refine lv_iload_n hx hb dX12_off_44 rfl (lvA1 hl) ?_
          refine lv_imul hx hb dX12_off_45 ?_
          refine lv_topi (fun y_8 ey_8 => ?_)
          obtain rfl : y_8 = (nI (400 * d0)) := ey_8.trans (pk_mul 400 d0)
          refine lv_iload_n hx hb dX12_off_46 rfl (lvA2 hl) ?_
          refine lv_iadd hx hb dX12_off_47 ?_
          refine lv_topi (fun y_9 ey_9 => ?_)
          obtain rfl : y_9 = (nI ((400 * d0) + d1)) := ey_9.trans (nI_add (400 * d0) d1)
          refine lv_iload_n hx hb dX12_off_48 rfl (lvA3 hl) ?_
          refine stM_53 hx hb hK hP hD hS (Fn2 := (va_up Fn 53 (upd (Fn 53) ((400 * d0) + d1) (vp_nar .boolean v2)))) (vp_in_nI kb_1 (ltb rfl)) (nI_clamp (Nat.lt_trans kb_1 (ltb rfl))) rfl dX12_off_49 (fun H locs hP hD hS => ?_)
          refine lv_iconst (v := 1) hx hb dX12_off_50 kic_1 ?_
          exact W.zret (v := 1) hx hb hr rfl (fun t ht hW => ⟨⟨1, (cn, In, (va_up Fn 53 (upd (Fn 53) ((400 * d0) + d1) (vp_nar .boolean v2)))), rfl, (Or.inl ⟨⟨by (first | omega | (have zz0 := Hid.u hi_cn; omega)), by (first | omega | (have zz0 := Hid.u hi_cn; omega)), by (first | omega | (have zz0 := Hid.u hi_cn; omega)), by (first | omega | (have zz0 := Hid.u hi_cn; omega)), by simp only [zd0, zd1]; assumption⟩, rfl, rfl, rfl, by simp only [zd0, zd1]⟩), by rw [ht]; exact hP, hD⟩, hS.F ht⟩) hS.2.2 dX12_off_51
        ·
          have tc_7 : (((Fn 53) ((400 * d0) + d1)).toInt : Int) = v2.toInt := congrArg Int32.toInt c_7
          refine lv_iconst (v := 0) hx hb dX12_off_35 kic_0 ?_
          exact W.zret (v := 0) hx hb hr rfl (fun t ht hW => ⟨⟨0, (cn, In, Fn), rfl, (Or.inr ⟨(by first | (first | omega | (have zz0 := Hid.u hi_cn; omega)) | (simp only [zd0]; (first | omega | (have zz0 := Hid.u hi_cn; omega))) | (simp only [zd0, zd1]; intro q; exact q.2.2.2.2 (by assumption))), rfl, rfl, rfl, rfl⟩), by rw [ht]; exact hP, hD⟩, hS.F ht⟩) hS.2.2 dX12_off_36
      ·
        have h_4 : ¬ (0 ≤ v1.toInt ∧ v1.toInt ≤ 399) := h_4
        refine lv_if_eq (tgt := 35) hx hb dX12_off_16 rfl (fun _ => ?_) (fun h => absurd h cq_eq_0_0)
        refine lv_iconst (v := 0) hx hb dX12_off_35 kic_0 ?_
        exact W.zret (v := 0) hx hb hr rfl (fun t ht hW => ⟨⟨0, (cn, In, Fn), rfl, (Or.inr ⟨(by first | (first | omega | (have zz0 := Hid.u hi_cn; omega)) | (simp only [zd0]; (first | omega | (have zz0 := Hid.u hi_cn; omega))) | (simp only [zd0, zd1]; intro q; exact q.2.2.2.2 (by assumption))), rfl, rfl, rfl, rfl⟩), by rw [ht]; exact hP, hD⟩, hS.F ht⟩) hS.2.2 dX12_off_36
set_option maxRecDepth 100000 in
set_option maxHeartbeats 4000000 in
theorem q_missing (l : Launch) (D : va_G) (cI cB cZ : ClassId) (g : Nat → Nat) (cn : Nat → Nat) (In : Nat → Int32) (Fn : Nat → Nat → Int32) (v0 : Int32) (hI : IM cn Fn) : Met l yX12_missing (CWS yX12_missing cX12_missing 2 (some .int)) (RM 1 0 0) (PBr [.ref (g 100), .int v0] D cI cB cZ (wM cI cB cZ g cn In Fn)) (vp_Si (fun r => ((0 ≤ v0.toInt ∧ v0.toInt < (cn 2 : Int)) ∧ r = Fn 14 v0.toInt.toNat) ∨ (¬ (0 ≤ v0.toInt ∧ v0.toInt < (cn 2 : Int)) ∧ r = -1))) 0 0 (fun _ => False) := by
  refine en_r rfl pn_RX12 (Nat.le_of_ble_eq_true rfl) (fun p e s m below meth c hx hb hml hown S hr hlocks hnm hP hK hS ls hl => ?_)
  have hl : lv_has ls 2 [(0, .ref (g 100)), (1, .int v0)] := hl
  have hi_cn : Hid (CB cn) := hI.b
  refine lv_aload_n hx hb dX12_missing_0 rfl (lvA0 hl) ?_
  refine lv_iload_n hx hb dX12_missing_1 rfl (lvA1 hl) ?_
  refine vp_callSi (runV_ra (As := [.int v0]) (rest := []) S (q_isLoad l D cI cB cZ g cn In Fn v0 hI) kV_RX12_335 hK hP 0 rfl rfl rfl ⟨Nat.le_of_ble_eq_true rfl, Nat.le_of_ble_eq_true rfl⟩ ⟨Nat.le_of_ble_eq_true rfl, Nat.le_of_ble_eq_true rfl⟩ rfl hl.1 rfl (Nat.le_of_ble_eq_true rfl) dX12_missing_2) (fun r_1 h_2 => ?_)
  rcases h_2 with ⟨rfl, h_2⟩ | ⟨rfl, h_2⟩
  ·
    have h_2 : 0 ≤ v0.toInt ∧ v0.toInt < ((cn 2) : Int) := h_2
    refine lv_if_eq (tgt := 17) hx hb dX12_missing_5 rfl (fun h => absurd h cq_eq_1_0) (fun _ => ?_)
    obtain ⟨d0, hd0, rfl⟩ := nI_of (x := v0) (fun q => by have := Int32.lt_iff_toInt_lt.mp q; have e : (0 : Int32).toInt = 0 := rfl; (first | omega | (have zz0 := Hid.u hi_cn; omega)))
    have td0 : (nI d0).toInt = (d0 : Int) := nI_toInt hd0
    have zd0 : (nI d0).toInt.toNat = d0 := by (first | omega | (have zz0 := Hid.u hi_cn; omega))
    refine lv_aload_n hx hb dX12_missing_8 rfl (lvA0 hl) ?_
    refine gM_43 S hK hP (v := .ref (g 14)) rfl dX12_missing_9 ?_
    refine lv_iload_n hx hb dX12_missing_12 rfl (lvA1 hl) ?_
    have kb_1 : d0 < 60 := by (first | omega | (have zz0 := Hid.u hi_cn; omega))
    refine ldM_14 hx hb hK hP (x := ((Fn 14) d0)) (vp_in_nI kb_1 (ltb rfl)) (nI_clamp (Nat.lt_trans kb_1 (ltb rfl))) rfl dX12_missing_13 ?_
    refine lv_goto (tgt := 18) hx hb dX12_missing_14 rfl ?_
    exact W.iret (v := ((Fn 14) d0)) hx hb hr (fun t ht hW => ⟨((Fn 14) d0), rfl, (Or.inl ⟨(by first | (first | omega | (have zz0 := Hid.u hi_cn; omega)) | (simp only [zd0]; (first | omega | (have zz0 := Hid.u hi_cn; omega)))), by rw [zd0]⟩), ht⟩) (fun _ h => absurd h List.not_mem_nil) dX12_missing_18
  ·
    have h_2 : ¬ (0 ≤ v0.toInt ∧ v0.toInt < ((cn 2) : Int)) := h_2
    refine lv_if_eq (tgt := 17) hx hb dX12_missing_5 rfl (fun _ => ?_) (fun h => absurd h cq_eq_0_0)
    refine lv_iconst (v := (-1)) hx hb dX12_missing_17 kic_m1 ?_
    exact W.iret (v := (-1)) hx hb hr (fun t ht hW => ⟨(-1), rfl, (Or.inr ⟨(by first | (first | omega | (have zz0 := Hid.u hi_cn; omega)) | (simp only [zd0]; (first | omega | (have zz0 := Hid.u hi_cn; omega)))), rfl⟩), ht⟩) (fun _ h => absurd h List.not_mem_nil) dX12_missing_18
set_option maxRecDepth 100000 in
set_option maxHeartbeats 4000000 in
theorem q_types (l : Launch) (D : va_G) (cI cB cZ : ClassId) (g : Nat → Nat) (cn : Nat → Nat) (In : Nat → Int32) (Fn : Nat → Nat → Int32) (v0 : Int32) (sz : Nat) (hI : IM cn Fn) (ht : cn 18 + 4 ≤ 200) : Met l yX12_types (CWS yX12_types cX12_types 3 none) (RM 0 0 0) (PBw [.ref (g 100), .int v0] D cI cB cZ (wM cI cB cZ g cn In Fn) sz) (va_Qv (fun (u : (Nat → Nat) × (Nat → Int32) × (Nat → Nat → Int32)) => (fun c2 I2 F2 => Fr [18] [] [17] cn In Fn c2 I2 F2 ∧ IM c2 F2 ∧ (c2 18 = cn 18 + 4)) u.1 u.2.1 u.2.2) (fun (u : (Nat → Nat) × (Nat → Int32) × (Nat → Nat → Int32)) (t : State) => va_P D vwCl (wM cI cB cZ g u.1 u.2.1 u.2.2) t.heap ∧ va_D (va_A (wM cI cB cZ g cn In Fn) sz) (wM cI cB cZ g u.1 u.2.1 u.2.2)) (va_A (wM cI cB cZ g cn In Fn) sz)) 0 0 (va_A (wM cI cB cZ g cn In Fn) sz) := by
  refine en_w (fun A => (va_Qv (fun (u : (Nat → Nat) × (Nat → Int32) × (Nat → Nat → Int32)) => (fun (c2 : Nat → Nat) (I2 : Nat → Int32) (F2 : Nat → Nat → Int32) => Fr [18] [] [17] cn In Fn c2 I2 F2 ∧ IM c2 F2 ∧ (c2 18 = cn 18 + 4)) u.1 u.2.1 u.2.2) (fun (u : (Nat → Nat) × (Nat → Int32) × (Nat → Nat → Int32)) (t : State) => va_P D vwCl (wM cI cB cZ g u.1 u.2.1 u.2.2) t.heap ∧ va_D A (wM cI cB cZ g u.1 u.2.1 u.2.2)) A)) rfl rfl pn_RX12 (Nat.le_of_ble_eq_true rfl) (fun p e s m below meth c A hx hb hml hown S hr hlocks hnm hA hP hK hD hS ls hl => ?_)
  have hl : lv_has ls 3 [(0, .ref (g 100)), (1, .int v0)] := hl
  have hi_cn : Hid (CB cn) := hI.b
  refine lv_iconst (v := 3) hx hb dX12_types_0 kic_3 ?_
  refine lv_istore_n (lv' := [(2, .int 3), (0, .ref (g 100)), (1, .int v0)]) hx hb dX12_types_1 rfl hl (ltb rfl) rfl (fun ls hl => ?_)
  refine lv_iload_n hx hb dX12_types_2 rfl (lvA0 hl) ?_
  refine lv_if_lt (tgt := 38) hx hb dX12_types_3 rfl (fun h => absurd h cq_lt_3_0) (fun _ => ?_)
  refine lv_aload_n hx hb dX12_types_6 rfl (lvA1 hl) ?_
  refine gM_52 S hK hP (v := .ref (g 17)) rfl dX12_types_7 ?_
  refine lv_aload_n hx hb dX12_types_10 rfl (lvA1 hl) ?_
  refine gM_226 S hK hP (v := .int (nI (cn 18))) rfl dX12_types_11 ?_
  refine lv_iload_n hx hb dX12_types_14 rfl (lvA2 hl) ?_
  refine lv_bipush (v := 8) hx hb dX12_types_15 kbc_8 ?_
  refine lv_iload_n hx hb dX12_types_17 rfl (lvA0 hl) ?_
  refine lv_imul hx hb dX12_types_18 ?_
  refine lv_topi (fun y_1 ey_1 => ?_)
  obtain rfl : y_1 = 24 := ey_1.trans (by decide)
  refine lv_ishr hx hb dX12_types_19 ?_
  refine lv_i2b (v := (v0 >>> (24 &&& 31)).toInt8.toInt32) hx hb dX12_types_20 rfl ?_
  have kb_1 : (cn 18) < 200 := by (first | omega | (have zz0 := Hid.u hi_cn; omega))
  refine stM_17 hx hb hK hP hD hS (Fn2 := (va_up Fn 17 (upd (Fn 17) (cn 18) (vp_nar .byte (v0 >>> (24 &&& 31)).toInt8.toInt32)))) (vp_in_nI kb_1 (ltb rfl)) (nI_clamp (Nat.lt_trans kb_1 (ltb rfl))) rfl dX12_types_21 (fun H locs hP hD hS => ?_)
  refine lv_aload_n hx hb dX12_types_22 rfl (lvA1 hl) ?_
  refine lv_aload_n hx hb dX12_types_23 rfl (lvA1 hl) ?_
  refine gM_226 S hK hP (v := .int (nI (cn 18))) rfl dX12_types_24 ?_
  refine lv_iconst (v := 1) hx hb dX12_types_27 kic_1 ?_
  refine lv_iadd hx hb dX12_types_28 ?_
  refine lv_topi (fun y_2 ey_2 => ?_)
  obtain rfl : y_2 = (nI ((cn 18) + 1)) := ey_2.trans (nI_add (cn 18) 1)
  refine pM_226 S hK hP hD hS (a := ((cn 18) + 1)) (cn2 := (va_up cn 18 ((cn 18) + 1))) rfl rfl dX12_types_29 (fun H locs hP hD hS => ?_)
  refine lv_iinc (v := 2) (lv' := [(2, .int 2), (0, .ref (g 100)), (1, .int v0)]) hx hb dX12_types_32 hl (k := 0) rfl (by decide) (ltb rfl) rfl (fun ls hl => ?_)
  refine lv_goto (tgt := 2) hx hb dX12_types_35 rfl ?_
  refine lv_iload_n hx hb dX12_types_2 rfl (lvA0 hl) ?_
  refine lv_if_lt (tgt := 38) hx hb dX12_types_3 rfl (fun h => absurd h cq_lt_2_0) (fun _ => ?_)
  refine lv_aload_n hx hb dX12_types_6 rfl (lvA1 hl) ?_
  refine gM_52 S hK hP (v := .ref (g 17)) rfl dX12_types_7 ?_
  refine lv_aload_n hx hb dX12_types_10 rfl (lvA1 hl) ?_
  refine gM_226 S hK hP (v := .int (nI ((cn 18) + 1))) rfl dX12_types_11 ?_
  refine lv_iload_n hx hb dX12_types_14 rfl (lvA2 hl) ?_
  refine lv_bipush (v := 8) hx hb dX12_types_15 kbc_8 ?_
  refine lv_iload_n hx hb dX12_types_17 rfl (lvA0 hl) ?_
  refine lv_imul hx hb dX12_types_18 ?_
  refine lv_topi (fun y_3 ey_3 => ?_)
  obtain rfl : y_3 = 16 := ey_3.trans (by decide)
  refine lv_ishr hx hb dX12_types_19 ?_
  refine lv_i2b (v := (v0 >>> (16 &&& 31)).toInt8.toInt32) hx hb dX12_types_20 rfl ?_
  have kb_2 : ((cn 18) + 1) < 200 := by (first | omega | (have zz0 := Hid.u hi_cn; omega))
  refine stM_17 hx hb hK hP hD hS (Fn2 := (va_up Fn 17 (upd (upd (Fn 17) (cn 18) (vp_nar .byte (v0 >>> (24 &&& 31)).toInt8.toInt32)) ((cn 18) + 1) (vp_nar .byte (v0 >>> (16 &&& 31)).toInt8.toInt32)))) (vp_in_nI kb_2 (ltb rfl)) (nI_clamp (Nat.lt_trans kb_2 (ltb rfl))) (bx_uu _ _ _ _) dX12_types_21 (fun H locs hP hD hS => ?_)
  refine lv_aload_n hx hb dX12_types_22 rfl (lvA1 hl) ?_
  refine lv_aload_n hx hb dX12_types_23 rfl (lvA1 hl) ?_
  refine gM_226 S hK hP (v := .int (nI ((cn 18) + 1))) rfl dX12_types_24 ?_
  refine lv_iconst (v := 1) hx hb dX12_types_27 kic_1 ?_
  refine lv_iadd hx hb dX12_types_28 ?_
  refine lv_topi (fun y_4 ey_4 => ?_)
  obtain rfl : y_4 = (nI (((cn 18) + 1) + 1)) := ey_4.trans (nI_add ((cn 18) + 1) 1)
  refine pM_226 S hK hP hD hS (a := (((cn 18) + 1) + 1)) (cn2 := (va_up cn 18 (((cn 18) + 1) + 1))) rfl (bx_uu _ _ _ _) dX12_types_29 (fun H locs hP hD hS => ?_)
  refine lv_iinc (v := 1) (lv' := [(2, .int 1), (0, .ref (g 100)), (1, .int v0)]) hx hb dX12_types_32 hl (k := 0) rfl (by decide) (ltb rfl) rfl (fun ls hl => ?_)
  refine lv_goto (tgt := 2) hx hb dX12_types_35 rfl ?_
  refine lv_iload_n hx hb dX12_types_2 rfl (lvA0 hl) ?_
  refine lv_if_lt (tgt := 38) hx hb dX12_types_3 rfl (fun h => absurd h cq_lt_1_0) (fun _ => ?_)
  refine lv_aload_n hx hb dX12_types_6 rfl (lvA1 hl) ?_
  refine gM_52 S hK hP (v := .ref (g 17)) rfl dX12_types_7 ?_
  refine lv_aload_n hx hb dX12_types_10 rfl (lvA1 hl) ?_
  refine gM_226 S hK hP (v := .int (nI (((cn 18) + 1) + 1))) rfl dX12_types_11 ?_
  refine lv_iload_n hx hb dX12_types_14 rfl (lvA2 hl) ?_
  refine lv_bipush (v := 8) hx hb dX12_types_15 kbc_8 ?_
  refine lv_iload_n hx hb dX12_types_17 rfl (lvA0 hl) ?_
  refine lv_imul hx hb dX12_types_18 ?_
  refine lv_topi (fun y_5 ey_5 => ?_)
  obtain rfl : y_5 = 8 := ey_5.trans (by decide)
  refine lv_ishr hx hb dX12_types_19 ?_
  refine lv_i2b (v := (v0 >>> (8 &&& 31)).toInt8.toInt32) hx hb dX12_types_20 rfl ?_
  have kb_3 : (((cn 18) + 1) + 1) < 200 := by (first | omega | (have zz0 := Hid.u hi_cn; omega))
  refine stM_17 hx hb hK hP hD hS (Fn2 := (va_up Fn 17 (upd (upd (upd (Fn 17) (cn 18) (vp_nar .byte (v0 >>> (24 &&& 31)).toInt8.toInt32)) ((cn 18) + 1) (vp_nar .byte (v0 >>> (16 &&& 31)).toInt8.toInt32)) (((cn 18) + 1) + 1) (vp_nar .byte (v0 >>> (8 &&& 31)).toInt8.toInt32)))) (vp_in_nI kb_3 (ltb rfl)) (nI_clamp (Nat.lt_trans kb_3 (ltb rfl))) (bx_uu _ _ _ _) dX12_types_21 (fun H locs hP hD hS => ?_)
  refine lv_aload_n hx hb dX12_types_22 rfl (lvA1 hl) ?_
  refine lv_aload_n hx hb dX12_types_23 rfl (lvA1 hl) ?_
  refine gM_226 S hK hP (v := .int (nI (((cn 18) + 1) + 1))) rfl dX12_types_24 ?_
  refine lv_iconst (v := 1) hx hb dX12_types_27 kic_1 ?_
  refine lv_iadd hx hb dX12_types_28 ?_
  refine lv_topi (fun y_6 ey_6 => ?_)
  obtain rfl : y_6 = (nI ((((cn 18) + 1) + 1) + 1)) := ey_6.trans (nI_add (((cn 18) + 1) + 1) 1)
  refine pM_226 S hK hP hD hS (a := ((((cn 18) + 1) + 1) + 1)) (cn2 := (va_up cn 18 ((((cn 18) + 1) + 1) + 1))) rfl (bx_uu _ _ _ _) dX12_types_29 (fun H locs hP hD hS => ?_)
  refine lv_iinc (v := 0) (lv' := [(2, .int 0), (0, .ref (g 100)), (1, .int v0)]) hx hb dX12_types_32 hl (k := 0) rfl (by decide) (ltb rfl) rfl (fun ls hl => ?_)
  refine lv_goto (tgt := 2) hx hb dX12_types_35 rfl ?_
  refine lv_iload_n hx hb dX12_types_2 rfl (lvA0 hl) ?_
  refine lv_if_lt (tgt := 38) hx hb dX12_types_3 rfl (fun h => absurd h cq_lt_0_0) (fun _ => ?_)
  refine lv_aload_n hx hb dX12_types_6 rfl (lvA1 hl) ?_
  refine gM_52 S hK hP (v := .ref (g 17)) rfl dX12_types_7 ?_
  refine lv_aload_n hx hb dX12_types_10 rfl (lvA1 hl) ?_
  refine gM_226 S hK hP (v := .int (nI ((((cn 18) + 1) + 1) + 1))) rfl dX12_types_11 ?_
  refine lv_iload_n hx hb dX12_types_14 rfl (lvA2 hl) ?_
  refine lv_bipush (v := 8) hx hb dX12_types_15 kbc_8 ?_
  refine lv_iload_n hx hb dX12_types_17 rfl (lvA0 hl) ?_
  refine lv_imul hx hb dX12_types_18 ?_
  refine lv_topi (fun y_7 ey_7 => ?_)
  obtain rfl : y_7 = 0 := ey_7.trans (by decide)
  refine lv_ishr hx hb dX12_types_19 ?_
  refine lv_i2b (v := (v0 >>> (0 &&& 31)).toInt8.toInt32) hx hb dX12_types_20 rfl ?_
  have kb_4 : ((((cn 18) + 1) + 1) + 1) < 200 := by (first | omega | (have zz0 := Hid.u hi_cn; omega))
  refine stM_17 hx hb hK hP hD hS (Fn2 := (va_up Fn 17 (upd (upd (upd (upd (Fn 17) (cn 18) (vp_nar .byte (v0 >>> (24 &&& 31)).toInt8.toInt32)) ((cn 18) + 1) (vp_nar .byte (v0 >>> (16 &&& 31)).toInt8.toInt32)) (((cn 18) + 1) + 1) (vp_nar .byte (v0 >>> (8 &&& 31)).toInt8.toInt32)) ((((cn 18) + 1) + 1) + 1) (vp_nar .byte (v0 >>> (0 &&& 31)).toInt8.toInt32)))) (vp_in_nI kb_4 (ltb rfl)) (nI_clamp (Nat.lt_trans kb_4 (ltb rfl))) (bx_uu _ _ _ _) dX12_types_21 (fun H locs hP hD hS => ?_)
  refine lv_aload_n hx hb dX12_types_22 rfl (lvA1 hl) ?_
  refine lv_aload_n hx hb dX12_types_23 rfl (lvA1 hl) ?_
  refine gM_226 S hK hP (v := .int (nI ((((cn 18) + 1) + 1) + 1))) rfl dX12_types_24 ?_
  refine lv_iconst (v := 1) hx hb dX12_types_27 kic_1 ?_
  refine lv_iadd hx hb dX12_types_28 ?_
  refine lv_topi (fun y_8 ey_8 => ?_)
  obtain rfl : y_8 = (nI (((((cn 18) + 1) + 1) + 1) + 1)) := ey_8.trans (nI_add ((((cn 18) + 1) + 1) + 1) 1)
  refine pM_226 S hK hP hD hS (a := (((((cn 18) + 1) + 1) + 1) + 1)) (cn2 := (va_up cn 18 (((((cn 18) + 1) + 1) + 1) + 1))) rfl (bx_uu _ _ _ _) dX12_types_29 (fun H locs hP hD hS => ?_)
  refine lv_iinc (v := (-1)) (lv' := [(2, .int (-1)), (0, .ref (g 100)), (1, .int v0)]) hx hb dX12_types_32 hl (k := 0) rfl (by decide) (ltb rfl) rfl (fun ls hl => ?_)
  refine lv_goto (tgt := 2) hx hb dX12_types_35 rfl ?_
  refine lv_iload_n hx hb dX12_types_2 rfl (lvA0 hl) ?_
  refine lv_if_lt (tgt := 38) hx hb dX12_types_3 rfl (fun _ => ?_) (fun h => absurd h cq_lt_m1_0)
  exact W.vret hx hb hr (fun t ht hW => ⟨⟨((va_up cn 18 (((((cn 18) + 1) + 1) + 1) + 1)), In, (va_up Fn 17 (upd (upd (upd (upd (Fn 17) (cn 18) (vp_nar .byte (v0 >>> (24 &&& 31)).toInt8.toInt32)) ((cn 18) + 1) (vp_nar .byte (v0 >>> (16 &&& 31)).toInt8.toInt32)) (((cn 18) + 1) + 1) (vp_nar .byte (v0 >>> (8 &&& 31)).toInt8.toInt32)) ((((cn 18) + 1) + 1) + 1) (vp_nar .byte (v0 >>> (0 &&& 31)).toInt8.toInt32)))), rfl, ⟨(Fr.mo (Fr.f 17 (Fr.c 18 Fr.rf)) (sbl rfl) (sbl rfl) (sbl rfl)), (IM.fr (In := In) hI (Fr.f 17 (Fr.c 18 Fr.rf)) (by decide) (by decide)), (by show (va_up cn 18 (((((cn 18) + 1) + 1) + 1) + 1)) 18 = cn 18 + 4; rw [va_up_self])⟩, by rw [ht]; exact hP, hD⟩, hS.F ht⟩) hS.2.2 dX12_types_38
