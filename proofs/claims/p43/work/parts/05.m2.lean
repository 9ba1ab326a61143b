theorem upd_self (f : Nat → Int32) (k : Nat) (x : Int32) : upd f k x k = x := by simp [upd]
/-- what is likely in kitchen k on day d -/
def lkM (Fn : Nat → Nat → Int32) (k : Nat) (d : Int32) : Int32 := if Fn 5 k * (d - Fn 7 k) < Fn 6 k then Fn 5 k * (d - Fn 7 k) else Fn 6 k
def lackM (sh l : Int32) : Int32 := if 0 < sh - l - sh / 10 then sh - l - sh / 10 else 0
def apM (x y u v : Int32) : Int32 := (if x < u then u - x else x - u) + (if y < v then v - y else y - v)
theorem ifl_t {α : Type} {a b : Int32} {x y : α} (h : a < b) : (if a < b then x else y) = x := if_pos h
theorem ifl_f {α : Type} {a b : Int32} {x y : α} (h : b ≤ a) : (if a < b then x else y) = y := if_neg (Int32.not_lt.mpr h)
theorem sh1 {k : Nat} (h : k ≤ 30) : (1 : Int32) <<< (nI k &&& 31) = nI (2 ^ k) := by
  have : ∀ j : Fin 31, (1 : Int32) <<< (nI j.val &&& 31) = nI (2 ^ j.val) := by decide +kernel
  exact this ⟨k, by omega⟩
theorem lcmp0 {a b : Int64} {y : Int32} (e : y = lg_cmp a b) : (y = 0 ↔ a = b) := by
  subst e
  unfold lg_cmp
  constructor
  · intro h
    split at h
    · exact absurd h (by decide)
    · split at h
      · rename_i q; exact q
      · exact absurd h (by decide)
  · intro h; subst h
    have : ¬ a > a := fun q => by have := Int64.lt_iff_toInt_lt.mp q; omega
    simp [this]

theorem cq_lt_3_0 : ¬((3 : Int32) < 0) := by decide
theorem cq_lt_2_0 : ¬((2 : Int32) < 0) := by decide
theorem cq_lt_1_0 : ¬((1 : Int32) < 0) := by decide
theorem cq_lt_0_0 : ¬((0 : Int32) < 0) := by decide
theorem cq_lt_m1_0 : ¬¬((-1 : Int32) < (0)) := by decide

set_option maxRecDepth 100000 in
set_option maxHeartbeats 4000000 in
theorem q_likelyOn (l : Launch) (D : va_G) (cI cB cZ : ClassId) (g : Nat → Nat) (cn : Nat → Nat) (In : Nat → Int32) (Fn : Nat → Nat → Int32) (k : Nat) (v1 : Int32) (hI : IM cn Fn) (hk : k < 10) : Met l yX12_likelyOn (CWS yX12_likelyOn cX12_likelyOn 4 (some .int)) (RM 0 0 0) (PBr [.ref (g 100), .int (nI k), .int v1] D cI cB cZ (wM cI cB cZ g cn In Fn)) (vp_Si (fun r => r = lkM Fn k v1)) 0 0 (fun _ => False) := by
  refine en_r rfl pn_RX12 (Nat.le_of_ble_eq_true rfl) (fun p e s m below meth c hx hb hml hown S hr hlocks hnm hP hK hS ls hl => ?_)
  have hl : lv_has ls 4 [(0, .ref (g 100)), (1, .int (nI k)), (2, .int v1)] := hl
  have hi_cn : Hid (CB cn) := hI.b
  refine lv_aload_n hx hb (oc_42 0 shX12_likelyOn_0) rfl (lvA0 hl) ?_
  refine gM_16 S hK hP (v := .ref (g 5)) rfl (oc_180 1 (aq_1 shX12_likelyOn_0) uw_0_16) ?_
  refine lv_iload_n hx hb (oc_27 4 (aq_4 shX12_likelyOn_0)) rfl (lvA1 hl) ?_
  have kb_1 : k < 10 := by (first | omega | (have zz0 := Hid.u hi_cn; omega))
  refine ldM_5 hx hb hK hP (x := ((Fn 5) k)) (vp_in_nI kb_1 (ltb rfl)) (nI_clamp (Nat.lt_trans kb_1 (ltb rfl))) rfl (oc_46 5 (aq_5 shX12_likelyOn_0)) ?_
  refine lv_iload_n hx hb (oc_28 6 (aq_6 shX12_likelyOn_0)) rfl (lvA2 hl) ?_
  refine lv_aload_n hx hb (oc_42 7 (aq_7 shX12_likelyOn_0)) rfl (lvA0 hl) ?_
  refine gM_22 S hK hP (v := .ref (g 7)) rfl (oc_180 8 (aq_8 shX12_likelyOn_0) uw_0_22) ?_
  refine lv_iload_n hx hb (oc_27 11 (aq_11 shX12_likelyOn_0)) rfl (lvA1 hl) ?_
  have b_1 := hI.e7 k (by (first | omega | (have zz0 := Hid.u hi_cn; omega)))
  refine ldM_7 hx hb hK hP (x := ((Fn 7) k)) (vp_in_nI kb_1 (ltb rfl)) (nI_clamp (Nat.lt_trans kb_1 (ltb rfl))) rfl (oc_46 12 (aq_12 shX12_likelyOn_0)) ?_
  refine lv_isub hx hb (oc_100 13 (aq_13 shX12_likelyOn_0)) ?_
  refine lv_imul hx hb (oc_104 14 (aq_14 shX12_likelyOn_0)) ?_
  refine lv_istore_n (lv' := [(3, .int (((Fn 5) k) * (v1 - ((Fn 7) k)))), (0, .ref (g 100)), (1, .int (nI k)), (2, .int v1)]) hx hb (oc_62 15 (aq_15 shX12_likelyOn_0)) rfl hl (ltb rfl) rfl (fun ls hl => ?_)
  refine lv_iload_n hx hb (oc_29 16 (aq_16 shX12_likelyOn_0)) rfl (lvA0 hl) ?_
  refine lv_aload_n hx hb (oc_42 17 (aq_17 shX12_likelyOn_0)) rfl (lvA1 hl) ?_
  refine gM_19 S hK hP (v := .ref (g 6)) rfl (oc_180 18 (aq_18 shX12_likelyOn_0) uw_0_19) ?_
  refine lv_iload_n hx hb (oc_27 21 (aq_21 shX12_likelyOn_0)) rfl (lvA2 hl) ?_
  refine ldM_6 hx hb hK hP (x := ((Fn 6) k)) (vp_in_nI kb_1 (ltb rfl)) (nI_clamp (Nat.lt_trans kb_1 (ltb rfl))) rfl (oc_46 22 (aq_22 shX12_likelyOn_0)) ?_
  refine lv_icmp_ge (tgt := 30) hx hb (oc_162 23 (aq_23 shX12_likelyOn_0) sgw_0_7) rfl (fun c_2 => ?_) (fun c_2 => ?_)
  ·
    have tc_2 : (((Fn 6) k).toInt : Int) ≤ (((Fn 5) k) * (v1 - ((Fn 7) k))).toInt := Int32.le_iff_toInt_le.mp c_2
    refine lv_aload_n hx hb (oc_42 30 (aq_4 shX12_likelyOn_26)) rfl (lvA1 hl) ?_
    refine gM_19 S hK hP (v := .ref (g 6)) rfl (oc_180 31 (aq_5 shX12_likelyOn_26) uw_0_19) ?_
    refine lv_iload_n hx hb (oc_27 34 (aq_8 shX12_likelyOn_26)) rfl (lvA2 hl) ?_
    refine ldM_6 hx hb hK hP (x := ((Fn 6) k)) (vp_in_nI kb_1 (ltb rfl)) (nI_clamp (Nat.lt_trans kb_1 (ltb rfl))) rfl (oc_46 35 (aq_9 shX12_likelyOn_26)) ?_
    exact W.iret (v := ((Fn 6) k)) hx hb hr (fun t ht hW => ⟨((Fn 6) k), rfl, (by first | exact (ifl_t (by assumption)).symm | exact (ifl_f (by assumption)).symm | exact (ifl_t (Int32.not_le.mp (by assumption))).symm), ht⟩) (fun _ h => absurd h List.not_mem_nil) (oc_172 36 (aq_10 shX12_likelyOn_26))
  ·
    have tc_2 : ((((Fn 5) k) * (v1 - ((Fn 7) k))).toInt : Int) < ((Fn 6) k).toInt := Int32.lt_iff_toInt_lt.mp (Int32.not_le.mp c_2)
    refine lv_iload_n hx hb (oc_29 26 shX12_likelyOn_26) rfl (lvA0 hl) ?_
    refine lv_goto (tgt := 36) hx hb (oc_167 27 (aq_1 shX12_likelyOn_26) sgw_0_9) rfl ?_
    exact W.iret (v := (((Fn 5) k) * (v1 - ((Fn 7) k)))) hx hb hr (fun t ht hW => ⟨(((Fn 5) k) * (v1 - ((Fn 7) k))), rfl, (by first | exact (ifl_t (by assumption)).symm | exact (ifl_f (by assumption)).symm | exact (ifl_t (Int32.not_le.mp (by assumption))).symm), ht⟩) (fun _ h => absurd h List.not_mem_nil) (oc_172 36 (aq_10 shX12_likelyOn_26))
set_option maxRecDepth 100000 in
set_option maxHeartbeats 4000000 in
theorem q_likely (l : Launch) (D : va_G) (cI cB cZ : ClassId) (g : Nat → Nat) (cn : Nat → Nat) (In : Nat → Int32) (Fn : Nat → Nat → Int32) (v0 v1 : Int32) (hI : IM cn Fn) : Met l yX12_likely (CWS yX12_likely cX12_likely 3 (some .int)) (RM 1 0 0) (PBr [.ref (g 100), .int v0, .int v1] D cI cB cZ (wM cI cB cZ g cn In Fn)) (vp_Si (fun r => ((0 ≤ v0.toInt ∧ v0.toInt < (cn 1 : Int) ∧ (Fn 7 v0.toInt.toNat).toInt ≤ v1.toInt ∧ v1.toInt ≤ 399) ∧ r = lkM Fn v0.toInt.toNat v1) ∨ (¬ (0 ≤ v0.toInt ∧ v0.toInt < (cn 1 : Int) ∧ (Fn 7 v0.toInt.toNat).toInt ≤ v1.toInt ∧ v1.toInt ≤ 399) ∧ r = -1))) 0 0 (fun _ => False) := by
  refine en_r rfl pn_RX12 (Nat.le_of_ble_eq_true rfl) (fun p e s m below meth c hx hb hml hown S hr hlocks hnm hP hK hS ls hl => ?_)
  have hl : lv_has ls 3 [(0, .ref (g 100)), (1, .int v0), (2, .int v1)] := hl
  have hi_cn : Hid (CB cn) := hI.b
  refine lv_aload_n hx hb (oc_42 0 shX12_likely_0) rfl (lvA0 hl) ?_
  refine lv_iload_n hx hb (oc_27 1 (aq_1 shX12_likely_0)) rfl (lvA1 hl) ?_
  refine vp_callSi (runV_ra (As := [.int v0]) (rest := []) S (q_isKitchen l D cI cB cZ g cn In Fn v0 hI) kV_RX12_218 hK hP 0 rfl rfl rfl ⟨Nat.le_of_ble_eq_true rfl, Nat.le_of_ble_eq_true rfl⟩ ⟨Nat.le_of_ble_eq_true rfl, Nat.le_of_ble_eq_true rfl⟩ rfl hl.1 rfl (Nat.le_of_ble_eq_true rfl) (oc_182 2 (aq_2 shX12_likely_0) uw_0_218)) (fun r_1 h_2 => ?_)
  rcases h_2 with ⟨rfl, h_2⟩ | ⟨rfl, h_2⟩
  ·
    have h_2 : 0 ≤ v0.toInt ∧ v0.toInt < ((cn 1) : Int) := h_2
    refine lv_if_eq (tgt := 24) hx hb (oc_153 5 (aq_5 shX12_likely_0) sgw_0_19) rfl (fun h => absurd h cq_eq_1_0) (fun _ => ?_)
    obtain ⟨d0, hd0, rfl⟩ := nI_of (x := v0) (fun q => by have := Int32.lt_iff_toInt_lt.mp q; have e : (0 : Int32).toInt = 0 := rfl; (first | omega | (have zz0 := Hid.u hi_cn; omega)))
    have td0 : (nI d0).toInt = (d0 : Int) := nI_toInt hd0
    have zd0 : (nI d0).toInt.toNat = d0 := by (first | omega | (have zz0 := Hid.u hi_cn; omega))
    refine lv_iload_n hx hb (oc_28 8 (aq_8 shX12_likely_0)) rfl (lvA2 hl) ?_
    refine lv_aload_n hx hb (oc_42 9 (aq_9 shX12_likely_0)) rfl (lvA0 hl) ?_
    refine gM_22 S hK hP (v := .ref (g 7)) rfl (oc_180 10 (aq_10 shX12_likely_0) uw_0_22) ?_
    refine lv_iload_n hx hb (oc_27 13 (aq_13 shX12_likely_0)) rfl (lvA1 hl) ?_
    have kb_1 : d0 < 10 := by (first | omega | (have zz0 := Hid.u hi_cn; omega))
    have b_3 := hI.e7 d0 (by (first | omega | (have zz0 := Hid.u hi_cn; omega)))
    refine ldM_7 hx hb hK hP (x := ((Fn 7) d0)) (vp_in_nI kb_1 (ltb rfl)) (nI_clamp (Nat.lt_trans kb_1 (ltb rfl))) rfl (oc_46 14 (aq_14 shX12_likely_0)) ?_
    refine lv_sipush (v := 399) hx hb (oc_17 15 (aq_15 shX12_likely_0) sgw_1_143) (by decide) ?_
    refine vp_callSi (runS_r (As := [.int v1, .int ((Fn 7) d0), .int 399]) (rest := []) S (q_in l D cI cB cZ v1 ((Fn 7) d0) 399 ) kS_RX12_214 hK hP [] rfl ⟨Nat.le_of_ble_eq_true rfl, Nat.le_of_ble_eq_true rfl⟩ ⟨Nat.le_of_ble_eq_true rfl, Nat.le_of_ble_eq_true rfl⟩ rfl hl.1 rfl (Nat.le_of_ble_eq_true rfl) (oc_184 18 (aq_18 shX12_likely_0) uw_0_214)) (fun r_4 h_5 => ?_)
    rcases h_5 with ⟨rfl, h_5⟩ | ⟨rfl, h_5⟩
    ·
      have h_5 : ((Fn 7) d0).toInt ≤ v1.toInt ∧ v1.toInt ≤ 399 := h_5
      refine lv_if_ne (tgt := 28) hx hb (oc_154 21 (aq_21 shX12_likely_0) sgw_0_7) rfl (fun _ => ?_) (fun h => absurd h cq_eq_1_0)
      refine lv_aload_n hx hb (oc_42 28 (aq_4 shX12_likely_24)) rfl (lvA0 hl) ?_
      refine lv_iload_n hx hb (oc_27 29 (aq_5 shX12_likely_24)) rfl (lvA1 hl) ?_
      refine lv_iload_n hx hb (oc_28 30 (aq_6 shX12_likely_24)) rfl (lvA2 hl) ?_
      refine vp_callSi (runV_ra (As := [.int (nI d0), .int v1]) (rest := []) S (q_likelyOn l D cI cB cZ g cn In Fn d0 v1 hI (by (first | omega | (have zz0 := Hid.u hi_cn; omega)))) kV_RX12_222 hK hP 0 rfl rfl rfl ⟨Nat.le_of_ble_eq_true rfl, Nat.le_of_ble_eq_true rfl⟩ ⟨Nat.le_of_ble_eq_true rfl, Nat.le_of_ble_eq_true rfl⟩ rfl hl.1 rfl (Nat.le_of_ble_eq_true rfl) (oc_182 31 (aq_7 shX12_likely_24) uw_0_222)) (fun r_6 h_7 => ?_)
      subst h_7
      exact W.iret (v := (lkM Fn d0 v1)) hx hb hr (fun t ht hW => ⟨(lkM Fn d0 v1), rfl, (Or.inl ⟨(by first | (first | omega | (have zz0 := Hid.u hi_cn; omega)) | (simp only [zd0]; (first | omega | (have zz0 := Hid.u hi_cn; omega)))), by rw [zd0]⟩), ht⟩) (fun _ h => absurd h List.not_mem_nil) (oc_172 34 (aq_10 shX12_likely_24))
    ·
      have h_5 : ¬ (((Fn 7) d0).toInt ≤ v1.toInt ∧ v1.toInt ≤ 399) := h_5
      refine lv_if_ne (tgt := 28) hx hb (oc_154 21 (aq_21 shX12_likely_0) sgw_0_7) rfl (fun h => absurd h cq_eq_0_0) (fun _ => ?_)
      refine lv_iconst (v := (-1)) hx hb (oc_2 24 shX12_likely_24) kic_m1 ?_
      refine lv_goto (tgt := 34) hx hb (oc_167 25 (aq_1 shX12_likely_24) sgw_0_9) rfl ?_
      exact W.iret (v := (-1)) hx hb hr (fun t ht hW => ⟨(-1), rfl, (Or.inr ⟨(by first | (first | omega | (have zz0 := Hid.u hi_cn; omega)) | (simp only [zd0]; (first | omega | (have zz0 := Hid.u hi_cn; omega)))), rfl⟩), ht⟩) (fun _ h => absurd h List.not_mem_nil) (oc_172 34 (aq_10 shX12_likely_24))
  ·
    have h_2 : ¬ (0 ≤ v0.toInt ∧ v0.toInt < ((cn 1) : Int)) := h_2
    refine lv_if_eq (tgt := 24) hx hb (oc_153 5 (aq_5 shX12_likely_0) sgw_0_19) rfl (fun _ => ?_) (fun h => absurd h cq_eq_0_0)
    refine lv_iconst (v := (-1)) hx hb (oc_2 24 shX12_likely_24) kic_m1 ?_
    refine lv_goto (tgt := 34) hx hb (oc_167 25 (aq_1 shX12_likely_24) sgw_0_9) rfl ?_
    exact W.iret (v := (-1)) hx hb hr (fun t ht hW => ⟨(-1), rfl, (Or.inr ⟨(by first | (first | omega | (have zz0 := Hid.u hi_cn; omega)) | (simp only [zd0]; (first | omega | (have zz0 := Hid.u hi_cn; omega)))), rfl⟩), ht⟩) (fun _ h => absurd h List.not_mem_nil) (oc_172 34 (aq_10 shX12_likely_24))
set_option maxRecDepth 100000 in
set_option maxHeartbeats 4000000 in
theorem q_fetch (l : Launch) (D : va_G) (cI cB cZ : ClassId) (g : Nat → Nat) (cn : Nat → Nat) (In : Nat → Int32) (Fn : Nat → Nat → Int32) (v0 v1 v2 v3 v4 v5 : Int32) (sz : Nat) (hI : IM cn Fn) : Met l yX12_fetch (CWS yX12_fetch cX12_fetch 9 (some .int)) (RM 1 0 0) (PBw [.ref (g 100), .int v0, .int v1, .int v2, .int v3, .int v4, .int v5] D cI cB cZ (wM cI cB cZ g cn In Fn) sz) (va_Qi (fun (r : Int32) (u : (Nat → Nat) × (Nat → Int32) × (Nat → Nat → Int32)) => (fun r c2 I2 F2 => ((0 ≤ v0.toInt ∧ v0.toInt < (cn 1 : Int) ∧ (Fn 7 v0.toInt.toNat).toInt ≤ v1.toInt ∧ v1.toInt ≤ (cn 0 : Int) ∧ (0 ≤ v2.toInt ∧ v2.toInt ≤ 400) ∧ (0 ≤ v3.toInt ∧ v3.toInt ≤ 1000) ∧ (0 ≤ v4.toInt ∧ v4.toInt ≤ 1000) ∧ v1.toInt ≤ v5.toInt ∧ v5.toInt ≤ 399 ∧ cn 2 < 60) ∧ r = nI (cn 2) ∧ c2 = va_up cn 2 (cn 2 + 1) ∧ I2 = In ∧ F2 = (va_up (va_up (va_up (va_up (va_up (va_up (va_up (va_up (va_up (va_up Fn 8 (upd (Fn 8) (cn 2) v0)) 9 (upd (Fn 9) (cn 2) v1)) 10 (upd (Fn 10) (cn 2) v2)) 11 (upd (Fn 11) (cn 2) v3)) 12 (upd (Fn 12) (cn 2) v4)) 13 (upd (Fn 13) (cn 2) v5)) 14 (upd (Fn 14) (cn 2) (lackM (lkM Fn v0.toInt.toNat v1) v2))) 15 (upd (Fn 15) (cn 2) (-1))) 16 (upd (Fn 16) (cn 2) (Fn 7 v0.toInt.toNat))) 7 (upd (Fn 7) v0.toInt.toNat v1))) ∨ ((¬ (0 ≤ v0.toInt ∧ v0.toInt < (cn 1 : Int) ∧ (Fn 7 v0.toInt.toNat).toInt ≤ v1.toInt ∧ v1.toInt ≤ (cn 0 : Int) ∧ (0 ≤ v2.toInt ∧ v2.toInt ≤ 400) ∧ (0 ≤ v3.toInt ∧ v3.toInt ≤ 1000) ∧ (0 ≤ v4.toInt ∧ v4.toInt ≤ 1000) ∧ v1.toInt ≤ v5.toInt ∧ v5.toInt ≤ 399 ∧ cn 2 < 60)) ∧ r = -1 ∧ c2 = cn ∧ I2 = In ∧ F2 = Fn)) r u.1 u.2.1 u.2.2) (fun (u : (Nat → Nat) × (Nat → Int32) × (Nat → Nat → Int32)) (t : State) => va_P D vwCl (wM cI cB cZ g u.1 u.2.1 u.2.2) t.heap ∧ va_D (va_A (wM cI cB cZ g cn In Fn) sz) (wM cI cB cZ g u.1 u.2.1 u.2.2)) (va_A (wM cI cB cZ g cn In Fn) sz)) 0 0 (va_A (wM cI cB cZ g cn In Fn) sz) := by
  refine en_w (fun A => (va_Qi (fun (r : Int32) (u : (Nat → Nat) × (Nat → Int32) × (Nat → Nat → Int32)) => (fun (r : Int32) (c2 : Nat → Nat) (I2 : Nat → Int32) (F2 : Nat → Nat → Int32) => ((0 ≤ v0.toInt ∧ v0.toInt < (cn 1 : Int) ∧ (Fn 7 v0.toInt.toNat).toInt ≤ v1.toInt ∧ v1.toInt ≤ (cn 0 : Int) ∧ (0 ≤ v2.toInt ∧ v2.toInt ≤ 400) ∧ (0 ≤ v3.toInt ∧ v3.toInt ≤ 1000) ∧ (0 ≤ v4.toInt ∧ v4.toInt ≤ 1000) ∧ v1.toInt ≤ v5.toInt ∧ v5.toInt ≤ 399 ∧ cn 2 < 60) ∧ r = nI (cn 2) ∧ c2 = va_up cn 2 (cn 2 + 1) ∧ I2 = In ∧ F2 = (va_up (va_up (va_up (va_up (va_up (va_up (va_up (va_up (va_up (va_up Fn 8 (upd (Fn 8) (cn 2) v0)) 9 (upd (Fn 9) (cn 2) v1)) 10 (upd (Fn 10) (cn 2) v2)) 11 (upd (Fn 11) (cn 2) v3)) 12 (upd (Fn 12) (cn 2) v4)) 13 (upd (Fn 13) (cn 2) v5)) 14 (upd (Fn 14) (cn 2) (lackM (lkM Fn v0.toInt.toNat v1) v2))) 15 (upd (Fn 15) (cn 2) (-1))) 16 (upd (Fn 16) (cn 2) (Fn 7 v0.toInt.toNat))) 7 (upd (Fn 7) v0.toInt.toNat v1))) ∨ ((¬ (0 ≤ v0.toInt ∧ v0.toInt < (cn 1 : Int) ∧ (Fn 7 v0.toInt.toNat).toInt ≤ v1.toInt ∧ v1.toInt ≤ (cn 0 : Int) ∧ (0 ≤ v2.toInt ∧ v2.toInt ≤ 400) ∧ (0 ≤ v3.toInt ∧ v3.toInt ≤ 1000) ∧ (0 ≤ v4.toInt ∧ v4.toInt ≤ 1000) ∧ v1.toInt ≤ v5.toInt ∧ v5.toInt ≤ 399 ∧ cn 2 < 60)) ∧ r = -1 ∧ c2 = cn ∧ I2 = In ∧ F2 = Fn)) r u.1 u.2.1 u.2.2) (fun (u : (Nat → Nat) × (Nat → Int32) × (Nat → Nat → Int32)) (t : State) => va_P D vwCl (wM cI cB cZ g u.1 u.2.1 u.2.2) t.heap ∧ va_D A (wM cI cB cZ g u.1 u.2.1 u.2.2)) A)) rfl rfl pn_RX12 (Nat.le_of_ble_eq_true rfl) (fun p e s m below meth c A hx hb hml hown S hr hlocks hnm hA hP hK hD hS ls hl => ?_)
  have hl : lv_has ls 9 [(0, .ref (g 100)), (1, .int v0), (2, .int v1), (3, .int v2), (4, .int v3), (5, .int v4), (6, .int v5)] := hl
  have hi_cn : Hid (CB cn) := hI.b
  refine lv_aload_n hx hb (oc_42 0 shX12_fetch_0) rfl (lvA0 hl) ?_
  refine lv_iload_n hx hb (oc_27 1 (aq_1 shX12_fetch_0)) rfl (lvA1 hl) ?_
  refine vp_callSi (runV_ra (As := [.int v0]) (rest := []) S (q_isKitchen l D cI cB cZ g cn In Fn v0 hI) kV_RX12_218 hK hP 0 rfl rfl rfl ⟨Nat.le_of_ble_eq_true rfl, Nat.le_of_ble_eq_true rfl⟩ ⟨Nat.le_of_ble_eq_true rfl, Nat.le_of_ble_eq_true rfl⟩ rfl hl.1 rfl (Nat.le_of_ble_eq_true rfl) (oc_182 2 (aq_2 shX12_fetch_0) uw_0_218)) (fun r_1 h_2 => ?_)
  rcases h_2 with ⟨rfl, h_2⟩ | ⟨rfl, h_2⟩
  ·
    have h_2 : 0 ≤ v0.toInt ∧ v0.toInt < ((cn 1) : Int) := h_2
    refine lv_if_eq (tgt := 81) hx hb (oc_153 5 (aq_5 shX12_fetch_0) sgw_0_76) rfl (fun h => absurd h cq_eq_1_0) (fun _ => ?_)
    obtain ⟨d0, hd0, rfl⟩ := nI_of (x := v0) (fun q => by have := Int32.lt_iff_toInt_lt.mp q; have e : (0 : Int32).toInt = 0 := rfl; (first | omega | (have zz0 := Hid.u hi_cn; omega)))
    have td0 : (nI d0).toInt = (d0 : Int) := nI_toInt hd0
    have zd0 : (nI d0).toInt.toNat = d0 := by (first | omega | (have zz0 := Hid.u hi_cn; omega))
    refine lv_iload_n hx hb (oc_28 8 (aq_8 shX12_fetch_0)) rfl (lvA2 hl) ?_
    refine lv_aload_n hx hb (oc_42 9 (aq_9 shX12_fetch_0)) rfl (lvA0 hl) ?_
    refine gM_22 S hK hP (v := .ref (g 7)) rfl (oc_180 10 (aq_10 shX12_fetch_0) uw_0_22) ?_
    refine lv_iload_n hx hb (oc_27 13 (aq_13 shX12_fetch_0)) rfl (lvA1 hl) ?_
    have kb_1 : d0 < 10 := by (first | omega | (have zz0 := Hid.u hi_cn; omega))
    have b_3 := hI.e7 d0 (by (first | omega | (have zz0 := Hid.u hi_cn; omega)))
    refine ldM_7 hx hb hK hP (x := ((Fn 7) d0)) (vp_in_nI kb_1 (ltb rfl)) (nI_clamp (Nat.lt_trans kb_1 (ltb rfl))) rfl (oc_46 14 (aq_14 shX12_fetch_0)) ?_
    refine lv_aload_n hx hb (oc_42 15 (aq_15 shX12_fetch_0)) rfl (lvA0 hl) ?_
    refine gM_211 S hK hP (v := .int (nI (cn 0))) rfl (oc_180 16 (aq_16 shX12_fetch_0) uw_0_211) ?_
    refine vp_callSi (runS_r (As := [.int v1, .int ((Fn 7) d0), .int (nI (cn 0))]) (rest := []) S (q_in l D cI cB cZ v1 ((Fn 7) d0) (nI (cn 0)) ) kS_RX12_214 hK hP [] rfl ⟨Nat.le_of_ble_eq_true rfl, Nat.le_of_ble_eq_true rfl⟩ ⟨Nat.le_of_ble_eq_true rfl, Nat.le_of_ble_eq_true rfl⟩ rfl hl.1 rfl (Nat.le_of_ble_eq_true rfl) (oc_184 19 (aq_19 shX12_fetch_0) uw_0_214)) (fun r_4 h_5 => ?_)
    have : (nI (cn 0)).toInt = (((cn 0) : Nat) : Int) := nI_toInt (by (first | omega | (have zz0 := Hid.u hi_cn; omega)))
    rcases h_5 with ⟨rfl, h_5⟩ | ⟨rfl, h_5⟩
    ·
      have h_5 : ((Fn 7) d0).toInt ≤ v1.toInt ∧ v1.toInt ≤ (nI (cn 0)).toInt := h_5
      refine lv_if_eq (tgt := 81) hx hb (oc_153 22 (aq_22 shX12_fetch_0) sgw_0_59) rfl (fun h => absurd h cq_eq_1_0) (fun _ => ?_)
      refine lv_iload_n hx hb (oc_29 25 shX12_fetch_25) rfl (lvA3 hl) ?_
      refine lv_iconst (v := 0) hx hb (oc_3 26 (aq_1 shX12_fetch_25)) kic_0 ?_
      refine lv_sipush (v := 400) hx hb (oc_17 27 (aq_2 shX12_fetch_25) sgw_1_144) (by decide) ?_
      refine vp_callSi (runS_r (As := [.int v2, .int 0, .int 400]) (rest := []) S (q_in l D cI cB cZ v2 0 400 ) kS_RX12_214 hK hP [] rfl ⟨Nat.le_of_ble_eq_true rfl, Nat.le_of_ble_eq_true rfl⟩ ⟨Nat.le_of_ble_eq_true rfl, Nat.le_of_ble_eq_true rfl⟩ rfl hl.1 rfl (Nat.le_of_ble_eq_true rfl) (oc_184 30 (aq_5 shX12_fetch_25) uw_0_214)) (fun r_6 h_7 => ?_)
      rcases h_7 with ⟨rfl, h_7⟩ | ⟨rfl, h_7⟩
      ·
        have h_7 : 0 ≤ v2.toInt ∧ v2.toInt ≤ 400 := h_7
        refine lv_if_eq (tgt := 81) hx hb (oc_153 33 (aq_8 shX12_fetch_25) sgw_0_48) rfl (fun h => absurd h cq_eq_1_0) (fun _ => ?_)
        refine lv_iload hx hb (oc_21 36 (aq_11 shX12_fetch_25) ub_4) (lvA4 hl) ?_
        refine lv_iconst (v := 0) hx hb (oc_3 38 (aq_13 shX12_fetch_25)) kic_0 ?_
        refine lv_sipush (v := 1000) hx hb (oc_17 39 (aq_14 shX12_fetch_25) sgw_3_232) (by decide) ?_
        refine vp_callSi (runS_r (As := [.int v3, .int 0, .int 1000]) (rest := []) S (q_in l D cI cB cZ v3 0 1000 ) kS_RX12_214 hK hP [] rfl ⟨Nat.le_of_ble_eq_true rfl, Nat.le_of_ble_eq_true rfl⟩ ⟨Nat.le_of_ble_eq_true rfl, Nat.le_of_ble_eq_true rfl⟩ rfl hl.1 rfl (Nat.le_of_ble_eq_true rfl) (oc_184 42 (aq_17 shX12_fetch_25) uw_0_214)) (fun r_8 h_9 => ?_)
        rcases h_9 with ⟨rfl, h_9⟩ | ⟨rfl, h_9⟩
        ·
          have h_9 : 0 ≤ v3.toInt ∧ v3.toInt ≤ 1000 := h_9
          refine lv_if_eq (tgt := 81) hx hb (oc_153 45 (aq_20 shX12_fetch_25) sgw_0_36) rfl (fun h => absurd h cq_eq_1_0) (fun _ => ?_)
          refine lv_iload hx hb (oc_21 48 (aq_23 shX12_fetch_25) ub_5) (lvA5 hl) ?_
          refine lv_iconst (v := 0) hx hb (oc_3 50 shX12_fetch_50) kic_0 ?_
          refine lv_sipush (v := 1000) hx hb (oc_17 51 (aq_1 shX12_fetch_50) sgw_3_232) (by decide) ?_
          refine vp_callSi (runS_r (As := [.int v4, .int 0, .int 1000]) (rest := []) S (q_in l D cI cB cZ v4 0 1000 ) kS_RX12_214 hK hP [] rfl ⟨Nat.le_of_ble_eq_true rfl, Nat.le_of_ble_eq_true rfl⟩ ⟨Nat.le_of_ble_eq_true rfl, Nat.le_of_ble_eq_true rfl⟩ rfl hl.1 rfl (Nat.le_of_ble_eq_true rfl) (oc_184 54 (aq_4 shX12_fetch_50) uw_0_214)) (fun r_10 h_11 => ?_)
          rcases h_11 with ⟨rfl, h_11⟩ | ⟨rfl, h_11⟩
          ·
            have h_11 : 0 ≤ v4.toInt ∧ v4.toInt ≤ 1000 := h_11
            refine lv_if_eq (tgt := 81) hx hb (oc_153 57 (aq_7 shX12_fetch_50) sgw_0_24) rfl (fun h => absurd h cq_eq_1_0) (fun _ => ?_)
            refine lv_iload hx hb (oc_21 60 (aq_10 shX12_fetch_50) ub_6) (lvA6 hl) ?_
            refine lv_iload_n hx hb (oc_28 62 (aq_12 shX12_fetch_50)) rfl (lvA2 hl) ?_
            refine lv_sipush (v := 399) hx hb (oc_17 63 (aq_13 shX12_fetch_50) sgw_1_143) (by decide) ?_
            refine vp_callSi (runS_r (As := [.int v5, .int v1, .int 399]) (rest := []) S (q_in l D cI cB cZ v5 v1 399 ) kS_RX12_214 hK hP [] rfl ⟨Nat.le_of_ble_eq_true rfl, Nat.le_of_ble_eq_true rfl⟩ ⟨Nat.le_of_ble_eq_true rfl, Nat.le_of_ble_eq_true rfl⟩ rfl hl.1 rfl (Nat.le_of_ble_eq_true rfl) (oc_184 66 (aq_16 shX12_fetch_50) uw_0_214)) (fun r_12 h_13 => ?_)
            rcases h_13 with ⟨rfl, h_13⟩ | ⟨rfl, h_13⟩
            ·
              have h_13 : v1.toInt ≤ v5.toInt ∧ v5.toInt ≤ 399 := h_13
              refine lv_if_eq (tgt := 81) hx hb (oc_153 69 (aq_19 shX12_fetch_50) sgw_0_12) rfl (fun h => absurd h cq_eq_1_0) (fun _ => ?_)
              refine lv_aload_n hx hb (oc_42 72 (aq_22 shX12_fetch_50)) rfl (lvA0 hl) ?_
              refine gM_208 S hK hP (v := .int (nI (cn 2))) rfl (oc_180 73 (aq_23 shX12_fetch_50) uw_0_208) ?_
              refine lv_bipush (v := 60) hx hb (oc_16 76 shX12_fetch_76 sgb_60) kbc_60 ?_
              have : (nI (cn 2)).toInt = (((cn 2) : Nat) : Int) := nI_toInt (by (first | omega | (have zz0 := Hid.u hi_cn; omega)))
              refine lv_icmp_ne (tgt := 83) hx hb (oc_160 78 (aq_2 shX12_fetch_76) sgw_0_5) rfl (fun c_14 => ?_) (fun c_14 => ?_)
              ·
                have tc_14 : ((nI (cn 2)).toInt : Int) ≠ 60 := fun q => c_14 (Int32.toInt_inj.mp q)
                refine lv_aload_n hx hb (oc_42 83 (aq_7 shX12_fetch_76)) rfl (lvA0 hl) ?_
                refine lv_iload_n hx hb (oc_27 84 (aq_8 shX12_fetch_76)) rfl (lvA1 hl) ?_
                refine lv_iload_n hx hb (oc_28 85 (aq_9 shX12_fetch_76)) rfl (lvA2 hl) ?_
                refine vp_callSi (runV_ra (As := [.int (nI d0), .int v1]) (rest := []) S (q_likelyOn l D cI cB cZ g cn In Fn d0 v1 hI (by (first | omega | (have zz0 := Hid.u hi_cn; omega)))) kV_RX12_222 hK hP 0 rfl rfl rfl ⟨Nat.le_of_ble_eq_true rfl, Nat.le_of_ble_eq_true rfl⟩ ⟨Nat.le_of_ble_eq_true rfl, Nat.le_of_ble_eq_true rfl⟩ rfl hl.1 rfl (Nat.le_of_ble_eq_true rfl) (oc_182 86 (aq_10 shX12_fetch_76) uw_0_222)) (fun r_15 h_16 => ?_)
                subst h_16
                refine lv_istore (lv' := [(7, .int (lkM Fn d0 v1)), (0, .ref (g 100)), (1, .int (nI d0)), (2, .int v1), (3, .int v2), (4, .int v3), (5, .int v4), (6, .int v5)]) hx hb (oc_54 89 (aq_13 shX12_fetch_76) ub_7) hl (ltb rfl) rfl (fun ls hl => ?_)
                refine lv_iload hx hb (oc_21 91 (aq_15 shX12_fetch_76) ub_7) (lvA0 hl) ?_
                refine lv_iload_n hx hb (oc_29 93 (aq_17 shX12_fetch_76)) rfl (lvA4 hl) ?_
                refine lv_isub hx hb (oc_100 94 (aq_18 shX12_fetch_76)) ?_
                refine lv_iload hx hb (oc_21 95 (aq_19 shX12_fetch_76) ub_7) (lvA0 hl) ?_
                refine lv_bipush (v := 10) hx hb (oc_16 97 (aq_21 shX12_fetch_76) sgb_10) kbc_10 ?_
                refine lv_idiv hx hb (oc_108 99 (aq_23 shX12_fetch_76)) (by decide) ?_
                refine lv_isub hx hb (oc_100 100 shX12_fetch_100) ?_
                refine lv_istore (lv' := [(8, .int (((lkM Fn d0 v1) - v2) - ((lkM Fn d0 v1) / 10))), (7, .int (lkM Fn d0 v1)), (0, .ref (g 100)), (1, .int (nI d0)), (2, .int v1), (3, .int v2), (4, .int v3), (5, .int v4), (6, .int v5)]) hx hb (oc_54 101 (aq_1 shX12_fetch_100) ub_8) hl (ltb rfl) rfl (fun ls hl => ?_)
                refine lv_aload_n hx hb (oc_42 103 (aq_3 shX12_fetch_100)) rfl (lvA2 hl) ?_
                refine gM_25 S hK hP (v := .ref (g 8)) rfl (oc_180 104 (aq_4 shX12_fetch_100) uw_0_25) ?_
                refine lv_aload_n hx hb (oc_42 107 (aq_7 shX12_fetch_100)) rfl (lvA2 hl) ?_
                refine gM_208 S hK hP (v := .int (nI (cn 2))) rfl (oc_180 108 (aq_8 shX12_fetch_100) uw_0_208) ?_
                refine lv_iload_n hx hb (oc_27 111 (aq_11 shX12_fetch_100)) rfl (lvA3 hl) ?_
                have kb_2 : (cn 2) < 60 := by (first | omega | (have zz0 := Hid.u hi_cn; omega))
                refine stM_8 hx hb hK hP hD hS (Fn2 := (va_up Fn 8 (upd (Fn 8) (cn 2) (nI d0)))) (vp_in_nI kb_2 (ltb rfl)) (nI_clamp (Nat.lt_trans kb_2 (ltb rfl))) rfl (oc_79 112 (aq_12 shX12_fetch_100)) (fun H locs hP hD hS => ?_)
                refine lv_aload_n hx hb (oc_42 113 (aq_13 shX12_fetch_100)) rfl (lvA2 hl) ?_
                refine gM_28 S hK hP (v := .ref (g 9)) rfl (oc_180 114 (aq_14 shX12_fetch_100) uw_0_28) ?_
                refine lv_aload_n hx hb (oc_42 117 (aq_17 shX12_fetch_100)) rfl (lvA2 hl) ?_
                refine gM_208 S hK hP (v := .int (nI (cn 2))) rfl (oc_180 118 (aq_18 shX12_fetch_100) uw_0_208) ?_
                refine lv_iload_n hx hb (oc_28 121 (aq_21 shX12_fetch_100)) rfl (lvA4 hl) ?_
                refine stM_9 hx hb hK hP hD hS (Fn2 := (va_up (va_up Fn 8 (upd (Fn 8) (cn 2) (nI d0))) 9 (upd (Fn 9) (cn 2) v1))) (vp_in_nI kb_2 (ltb rfl)) (nI_clamp (Nat.lt_trans kb_2 (ltb rfl))) rfl (oc_79 122 (aq_22 shX12_fetch_100)) (fun H locs hP hD hS => ?_)
                refine lv_aload_n hx hb (oc_42 123 (aq_23 shX12_fetch_100)) rfl (lvA2 hl) ?_
                refine gM_31 S hK hP (v := .ref (g 10)) rfl (oc_180 124 shX12_fetch_124 uw_0_31) ?_
                refine lv_aload_n hx hb (oc_42 127 (aq_3 shX12_fetch_124)) rfl (lvA2 hl) ?_
                refine gM_208 S hK hP (v := .int (nI (cn 2))) rfl (oc_180 128 (aq_4 shX12_fetch_124) uw_0_208) ?_
                refine lv_iload_n hx hb (oc_29 131 (aq_7 shX12_fetch_124)) rfl (lvA5 hl) ?_
                refine stM_10 hx hb hK hP hD hS (Fn2 := (va_up (va_up (va_up Fn 8 (upd (Fn 8) (cn 2) (nI d0))) 9 (upd (Fn 9) (cn 2) v1)) 10 (upd (Fn 10) (cn 2) v2))) (vp_in_nI kb_2 (ltb rfl)) (nI_clamp (Nat.lt_trans kb_2 (ltb rfl))) rfl (oc_79 132 (aq_8 shX12_fetch_124)) (fun H locs hP hD hS => ?_)
                refine lv_aload_n hx hb (oc_42 133 (aq_9 shX12_fetch_124)) rfl (lvA2 hl) ?_
                refine gM_34 S hK hP (v := .ref (g 11)) rfl (oc_180 134 (aq_10 shX12_fetch_124) uw_0_34) ?_
                refine lv_aload_n hx hb (oc_42 137 (aq_13 shX12_fetch_124)) rfl (lvA2 hl) ?_
                refine gM_208 S hK hP (v := .int (nI (cn 2))) rfl (oc_180 138 (aq_14 shX12_fetch_124) uw_0_208) ?_
                refine lv_iload hx hb (oc_21 141 (aq_17 shX12_fetch_124) ub_4) (lvA6 hl) ?_
                refine stM_11 hx hb hK hP hD hS (Fn2 := (va_up (va_up (va_up (va_up Fn 8 (upd (Fn 8) (cn 2) (nI d0))) 9 (upd (Fn 9) (cn 2) v1)) 10 (upd (Fn 10) (cn 2) v2)) 11 (upd (Fn 11) (cn 2) v3))) (vp_in_nI kb_2 (ltb rfl)) (nI_clamp (Nat.lt_trans kb_2 (ltb rfl))) rfl (oc_79 143 (aq_19 shX12_fetch_124)) (fun H locs hP hD hS => ?_)
                refine lv_aload_n hx hb (oc_42 144 (aq_20 shX12_fetch_124)) rfl (lvA2 hl) ?_
                refine gM_37 S hK hP (v := .ref (g 12)) rfl (oc_180 145 (aq_21 shX12_fetch_124) uw_0_37) ?_
                refine lv_aload_n hx hb (oc_42 148 shX12_fetch_148) rfl (lvA2 hl) ?_
                refine gM_208 S hK hP (v := .int (nI (cn 2))) rfl (oc_180 149 (aq_1 shX12_fetch_148) uw_0_208) ?_
                refine lv_iload hx hb (oc_21 152 (aq_4 shX12_fetch_148) ub_5) (lvA7 hl) ?_
                refine stM_12 hx hb hK hP hD hS (Fn2 := (va_up (va_up (va_up (va_up (va_up Fn 8 (upd (Fn 8) (cn 2) (nI d0))) 9 (upd (Fn 9) (cn 2) v1)) 10 (upd (Fn 10) (cn 2) v2)) 11 (upd (Fn 11) (cn 2) v3)) 12 (upd (Fn 12) (cn 2) v4))) (vp_in_nI kb_2 (ltb rfl)) (nI_clamp (Nat.lt_trans kb_2 (ltb rfl))) rfl (oc_79 154 (aq_6 shX12_fetch_148)) (fun H locs hP hD hS => ?_)
                refine lv_aload_n hx hb (oc_42 155 (aq_7 shX12_fetch_148)) rfl (lvA2 hl) ?_
                refine gM_40 S hK hP (v := .ref (g 13)) rfl (oc_180 156 (aq_8 shX12_fetch_148) uw_0_40) ?_
                refine lv_aload_n hx hb (oc_42 159 (aq_11 shX12_fetch_148)) rfl (lvA2 hl) ?_
                refine gM_208 S hK hP (v := .int (nI (cn 2))) rfl (oc_180 160 (aq_12 shX12_fetch_148) uw_0_208) ?_
                refine lv_iload hx hb (oc_21 163 (aq_15 shX12_fetch_148) ub_6) (lvA8 hl) ?_
                refine stM_13 hx hb hK hP hD hS (Fn2 := (va_up (va_up (va_up (va_up (va_up (va_up Fn 8 (upd (Fn 8) (cn 2) (nI d0))) 9 (upd (Fn 9) (cn 2) v1)) 10 (upd (Fn 10) (cn 2) v2)) 11 (upd (Fn 11) (cn 2) v3)) 12 (upd (Fn 12) (cn 2) v4)) 13 (upd (Fn 13) (cn 2) v5))) (vp_in_nI kb_2 (ltb rfl)) (nI_clamp (Nat.lt_trans kb_2 (ltb rfl))) rfl (oc_79 165 (aq_17 shX12_fetch_148)) (fun H locs hP hD hS => ?_)
                refine lv_aload_n hx hb (oc_42 166 (aq_18 shX12_fetch_148)) rfl (lvA2 hl) ?_
                refine gM_43 S hK hP (v := .ref (g 14)) rfl (oc_180 167 (aq_19 shX12_fetch_148) uw_0_43) ?_
                refine lv_aload_n hx hb (oc_42 170 (aq_22 shX12_fetch_148)) rfl (lvA2 hl) ?_
                refine gM_208 S hK hP (v := .int (nI (cn 2))) rfl (oc_180 171 (aq_23 shX12_fetch_148) uw_0_208) ?_
                refine lv_iload hx hb (oc_21 174 shX12_fetch_174 ub_8) (lvA0 hl) ?_
                refine lv_if_le (tgt := 184) hx hb (oc_158 176 (aq_2 shX12_fetch_174) sgw_0_8) rfl (fun c_17 => ?_) (fun c_17 => ?_)
                ·
                  have tc_17 : ((((lkM Fn d0 v1) - v2) - ((lkM Fn d0 v1) / 10)).toInt : Int) ≤ 0 := Int32.le_iff_toInt_le.mp c_17
                  refine lv_iconst (v := 0) hx hb (oc_3 184 (aq_10 shX12_fetch_174)) kic_0 ?_
                  refine stM_14 hx hb hK hP hD hS (Fn2 := (va_up (va_up (va_up (va_up (va_up (va_up (va_up Fn 8 (upd (Fn 8) (cn 2) (nI d0))) 9 (upd (Fn 9) (cn 2) v1)) 10 (upd (Fn 10) (cn 2) v2)) 11 (upd (Fn 11) (cn 2) v3)) 12 (upd (Fn 12) (cn 2) v4)) 13 (upd (Fn 13) (cn 2) v5)) 14 (upd (Fn 14) (cn 2) 0))) (vp_in_nI kb_2 (ltb rfl)) (nI_clamp (Nat.lt_trans kb_2 (ltb rfl))) rfl (oc_79 185 (aq_11 shX12_fetch_174)) (fun H locs hP hD hS => ?_)
                  refine lv_aload_n hx hb (oc_42 186 (aq_12 shX12_fetch_174)) rfl (lvA2 hl) ?_
                  refine gM_46 S hK hP (v := .ref (g 15)) rfl (oc_180 187 (aq_13 shX12_fetch_174) uw_0_46) ?_
                  refine lv_aload_n hx hb (oc_42 190 (aq_16 shX12_fetch_174)) rfl (lvA2 hl) ?_
                  refine gM_208 S hK hP (v := .int (nI (cn 2))) rfl (oc_180 191 (aq_17 shX12_fetch_174) uw_0_208) ?_
                  refine lv_iconst (v := (-1)) hx hb (oc_2 194 (aq_20 shX12_fetch_174)) kic_m1 ?_
                  refine stM_15 hx hb hK hP hD hS (Fn2 := (va_up (va_up (va_up (va_up (va_up (va_up (va_up (va_up Fn 8 (upd (Fn 8) (cn 2) (nI d0))) 9 (upd (Fn 9) (cn 2) v1)) 10 (upd (Fn 10) (cn 2) v2)) 11 (upd (Fn 11) (cn 2) v3)) 12 (upd (Fn 12) (cn 2) v4)) 13 (upd (Fn 13) (cn 2) v5)) 14 (upd (Fn 14) (cn 2) 0)) 15 (upd (Fn 15) (cn 2) (-1)))) (vp_in_nI kb_2 (ltb rfl)) (nI_clamp (Nat.lt_trans kb_2 (ltb rfl))) rfl (oc_79 195 (aq_21 shX12_fetch_174)) (fun H locs hP hD hS => ?_)
                  refine lv_aload_n hx hb (oc_42 196 (aq_22 shX12_fetch_174)) rfl (lvA2 hl) ?_
                  refine gM_49 S hK hP (v := .ref (g 16)) rfl (oc_180 197 (aq_23 shX12_fetch_174) uw_0_49) ?_
                  refine lv_aload_n hx hb (oc_42 200 shX12_fetch_200) rfl (lvA2 hl) ?_
                  refine gM_208 S hK hP (v := .int (nI (cn 2))) rfl (oc_180 201 (aq_1 shX12_fetch_200) uw_0_208) ?_
                  refine lv_aload_n hx hb (oc_42 204 (aq_4 shX12_fetch_200)) rfl (lvA2 hl) ?_
                  refine gM_22 S hK hP (v := .ref (g 7)) rfl (oc_180 205 (aq_5 shX12_fetch_200) uw_0_22) ?_
                  refine lv_iload_n hx hb (oc_27 208 (aq_8 shX12_fetch_200)) rfl (lvA3 hl) ?_
                  have b_18 := hI.e7 d0 (by (first | omega | (have zz0 := Hid.u hi_cn; omega)))
                  refine ldM_7 hx hb hK hP (x := ((Fn 7) d0)) (vp_in_nI kb_1 (ltb rfl)) (nI_clamp (Nat.lt_trans kb_1 (ltb rfl))) rfl (oc_46 209 (aq_9 shX12_fetch_200)) ?_
                  refine stM_16 hx hb hK hP hD hS (Fn2 := (va_up (va_up (va_up (va_up (va_up (va_up (va_up (va_up (va_up Fn 8 (upd (Fn 8) (cn 2) (nI d0))) 9 (upd (Fn 9) (cn 2) v1)) 10 (upd (Fn 10) (cn 2) v2)) 11 (upd (Fn 11) (cn 2) v3)) 12 (upd (Fn 12) (cn 2) v4)) 13 (upd (Fn 13) (cn 2) v5)) 14 (upd (Fn 14) (cn 2) 0)) 15 (upd (Fn 15) (cn 2) (-1))) 16 (upd (Fn 16) (cn 2) ((Fn 7) d0)))) (vp_in_nI kb_2 (ltb rfl)) (nI_clamp (Nat.lt_trans kb_2 (ltb rfl))) rfl (oc_79 210 (aq_10 shX12_fetch_200)) (fun H locs hP hD hS => ?_)
                  refine lv_aload_n hx hb (oc_42 211 (aq_11 shX12_fetch_200)) rfl (lvA2 hl) ?_
                  refine gM_22 S hK hP (v := .ref (g 7)) rfl (oc_180 212 (aq_12 shX12_fetch_200) uw_0_22) ?_
                  refine lv_iload_n hx hb (oc_27 215 (aq_15 shX12_fetch_200)) rfl (lvA3 hl) ?_
                  refine lv_iload_n hx hb (oc_28 216 (aq_16 shX12_fetch_200)) rfl (lvA4 hl) ?_
                  refine stM_7 hx hb hK hP hD hS (Fn2 := (va_up (va_up (va_up (va_up (va_up (va_up (va_up (va_up (va_up (va_up Fn 8 (upd (Fn 8) (cn 2) (nI d0))) 9 (upd (Fn 9) (cn 2) v1)) 10 (upd (Fn 10) (cn 2) v2)) 11 (upd (Fn 11) (cn 2) v3)) 12 (upd (Fn 12) (cn 2) v4)) 13 (upd (Fn 13) (cn 2) v5)) 14 (upd (Fn 14) (cn 2) 0)) 15 (upd (Fn 15) (cn 2) (-1))) 16 (upd (Fn 16) (cn 2) ((Fn 7) d0))) 7 (upd (Fn 7) d0 v1))) (vp_in_nI kb_1 (ltb rfl)) (nI_clamp (Nat.lt_trans kb_1 (ltb rfl))) rfl (oc_79 217 (aq_17 shX12_fetch_200)) (fun H locs hP hD hS => ?_)
                  refine lv_aload_n hx hb (oc_42 218 (aq_18 shX12_fetch_200)) rfl (lvA2 hl) ?_
                  refine lv_aload_n hx hb (oc_42 219 (aq_19 shX12_fetch_200)) rfl (lvA2 hl) ?_
                  refine gM_208 S hK hP (v := .int (nI (cn 2))) rfl (oc_180 220 (aq_20 shX12_fetch_200) uw_0_208) ?_
                  refine lv_iconst (v := 1) hx hb (oc_4 223 (aq_23 shX12_fetch_200)) kic_1 ?_
                  refine lv_iadd hx hb (oc_96 224 shX12_fetch_224) ?_
                  refine lv_topi (fun y_19 ey_19 => ?_)
                  obtain rfl : y_19 = (nI ((cn 2) + 1)) := ey_19.trans (nI_add (cn 2) 1)
                  refine pM_208 S hK hP hD hS (a := ((cn 2) + 1)) (cn2 := (va_up cn 2 ((cn 2) + 1))) rfl rfl (oc_181 225 (aq_1 shX12_fetch_224) uw_0_208) (fun H locs hP hD hS => ?_)
                  refine lv_aload_n hx hb (oc_42 228 (aq_4 shX12_fetch_224)) rfl (lvA2 hl) ?_
                  refine gM_208 S hK hP (v := .int (nI ((cn 2) + 1))) rfl (oc_180 229 (aq_5 shX12_fetch_224) uw_0_208) ?_
                  refine lv_iconst (v := 1) hx hb (oc_4 232 (aq_8 shX12_fetch_224)) kic_1 ?_
                  refine lv_isub hx hb (oc_100 233 (aq_9 shX12_fetch_224)) ?_
                  refine lv_topi (fun y_20 ey_20 => ?_)
                  obtain rfl : y_20 = (nI (cn 2)) := ey_20.trans (nI_pred _)
                  exact W.iret (v := (nI (cn 2))) hx hb hr (fun t ht hW => ⟨⟨(nI (cn 2)), ((va_up cn 2 ((cn 2) + 1)), In, (va_up (va_up (va_up (va_up (va_up (va_up (va_up (va_up (va_up (va_up Fn 8 (upd (Fn 8) (cn 2) (nI d0))) 9 (upd (Fn 9) (cn 2) v1)) 10 (upd (Fn 10) (cn 2) v2)) 11 (upd (Fn 11) (cn 2) v3)) 12 (upd (Fn 12) (cn 2) v4)) 13 (upd (Fn 13) (cn 2) v5)) 14 (upd (Fn 14) (cn 2) 0)) 15 (upd (Fn 15) (cn 2) (-1))) 16 (upd (Fn 16) (cn 2) ((Fn 7) d0))) 7 (upd (Fn 7) d0 v1))), rfl, (Or.inl ⟨(by first | (first | omega | (have zz0 := Hid.u hi_cn; omega)) | (simp only [zd0]; (first | omega | (have zz0 := Hid.u hi_cn; omega)))), rfl, rfl, rfl, by simp only [zd0]; first | rw [lackM, if_pos (Int32.not_le.mp (by assumption))] | rw [lackM, if_neg (Int32.not_lt.mpr (by assumption))]⟩), by rw [ht]; exact hP, hD⟩, hS.F ht⟩) hS.2.2 (oc_172 234 (aq_10 shX12_fetch_224))
                ·
                  have tc_17 : (0 : Int) < (((lkM Fn d0 v1) - v2) - ((lkM Fn d0 v1) / 10)).toInt := Int32.lt_iff_toInt_lt.mp (Int32.not_le.mp c_17)
                  refine lv_iload hx hb (oc_21 179 (aq_5 shX12_fetch_174) ub_8) (lvA0 hl) ?_
                  refine lv_goto (tgt := 185) hx hb (oc_167 181 (aq_7 shX12_fetch_174) sgw_0_4) rfl ?_
                  refine stM_14 hx hb hK hP hD hS (Fn2 := (va_up (va_up (va_up (va_up (va_up (va_up (va_up Fn 8 (upd (Fn 8) (cn 2) (nI d0))) 9 (upd (Fn 9) (cn 2) v1)) 10 (upd (Fn 10) (cn 2) v2)) 11 (upd (Fn 11) (cn 2) v3)) 12 (upd (Fn 12) (cn 2) v4)) 13 (upd (Fn 13) (cn 2) v5)) 14 (upd (Fn 14) (cn 2) (((lkM Fn d0 v1) - v2) - ((lkM Fn d0 v1) / 10))))) (vp_in_nI kb_2 (ltb rfl)) (nI_clamp (Nat.lt_trans kb_2 (ltb rfl))) rfl (oc_79 185 (aq_11 shX12_fetch_174)) (fun H locs hP hD hS => ?_)
                  refine lv_aload_n hx hb (oc_42 186 (aq_12 shX12_fetch_174)) rfl (lvA2 hl) ?_
                  refine gM_46 S hK hP (v := .ref (g 15)) rfl (oc_180 187 (aq_13 shX12_fetch_174) uw_0_46) ?_
                  refine lv_aload_n hx hb (oc_42 190 (aq_16 shX12_fetch_174)) rfl (lvA2 hl) ?_
                  refine gM_208 S hK hP (v := .int (nI (cn 2))) rfl (oc_180 191 (aq_17 shX12_fetch_174) uw_0_208) ?_
                  refine lv_iconst (v := (-1)) hx hb (oc_2 194 (aq_20 shX12_fetch_174)) kic_m1 ?_
                  refine stM_15 hx hb hK hP hD hS (Fn2 := (va_up (va_up (va_up (va_up (va_up (va_up (va_up (va_up Fn 8 (upd (Fn 8) (cn 2) (nI d0))) 9 (upd (Fn 9) (cn 2) v1)) 10 (upd (Fn 10) (cn 2) v2)) 11 (upd (Fn 11) (cn 2) v3)) 12 (upd (Fn 12) (cn 2) v4)) 13 (upd (Fn 13) (cn 2) v5)) 14 (upd (Fn 14) (cn 2) (((lkM Fn d0 v1) - v2) - ((lkM Fn d0 v1) / 10)))) 15 (upd (Fn 15) (cn 2) (-1)))) (vp_in_nI kb_2 (ltb rfl)) (nI_clamp (Nat.lt_trans kb_2 (ltb rfl))) rfl (oc_79 195 (aq_21 shX12_fetch_174)) (fun H locs hP hD hS => ?_)
                  refine lv_aload_n hx hb (oc_42 196 (aq_22 shX12_fetch_174)) rfl (lvA2 hl) ?_
                  refine gM_49 S hK hP (v := .ref (g 16)) rfl (oc_180 197 (aq_23 shX12_fetch_174) uw_0_49) ?_
                  refine lv_aload_n hx hb (oc_42 200 shX12_fetch_200) rfl (lvA2 hl) ?_
                  refine gM_208 S hK hP (v := .int (nI (cn 2))) rfl (oc_180 201 (aq_1 shX12_fetch_200) uw_0_208) ?_
                  refine lv_aload_n hx hb (oc_42 204 (aq_4 shX12_fetch_200)) rfl (lvA2 hl) ?_
                  refine gM_22 S hK hP (v := .ref (g 7)) rfl (oc_180 205 (aq_5 shX12_fetch_200) uw_0_22) ?_
                  refine lv_iload_n hx hb (oc_27 208 (aq_8 shX12_fetch_200)) rfl (lvA3 hl) ?_
                  have b_21 := hI.e7 d0 (by (first | omega | (have zz0 := Hid.u hi_cn; omega)))
                  refine ldM_7 hx hb hK hP (x := ((Fn 7) d0)) (vp_in_nI kb_1 (ltb rfl)) (nI_clamp (Nat.lt_trans kb_1 (ltb rfl))) rfl (oc_46 209 (aq_9 shX12_fetch_200)) ?_
                  refine stM_16 hx hb hK hP hD hS (Fn2 := (va_up (va_up (va_up (va_up (va_up (va_up (va_up (va_up (va_up Fn 8 (upd (Fn 8) (cn 2) (nI d0))) 9 (upd (Fn 9) (cn 2) v1)) 10 (upd (Fn 10) (cn 2) v2)) 11 (upd (Fn 11) (cn 2) v3)) 12 (upd (Fn 12) (cn 2) v4)) 13 (upd (Fn 13) (cn 2) v5)) 14 (upd (Fn 14) (cn 2) (((lkM Fn d0 v1) - v2) - ((lkM Fn d0 v1) / 10)))) 15 (upd (Fn 15) (cn 2) (-1))) 16 (upd (Fn 16) (cn 2) ((Fn 7) d0)))) (vp_in_nI kb_2 (ltb rfl)) (nI_clamp (Nat.lt_trans kb_2 (ltb rfl))) rfl (oc_79 210 (aq_10 shX12_fetch_200)) (fun H locs hP hD hS => ?_)
                  refine lv_aload_n hx hb (oc_42 211 (aq_11 shX12_fetch_200)) rfl (lvA2 hl) ?_
                  refine gM_22 S hK hP (v := .ref (g 7)) rfl (oc_180 212 (aq_12 shX12_fetch_200) uw_0_22) ?_
                  refine lv_iload_n hx hb (oc_27 215 (aq_15 shX12_fetch_200)) rfl (lvA3 hl) ?_
                  refine lv_iload_n hx hb (oc_28 216 (aq_16 shX12_fetch_200)) rfl (lvA4 hl) ?_
                  refine stM_7 hx hb hK hP hD hS (Fn2 := (va_up (va_up (va_up (va_up (va_up (va_up (va_up (va_up (va_up (va_up Fn 8 (upd (Fn 8) (cn 2) (nI d0))) 9 (upd (Fn 9) (cn 2) v1)) 10 (upd (Fn 10) (cn 2) v2)) 11 (upd (Fn 11) (cn 2) v3)) 12 (upd (Fn 12) (cn 2) v4)) 13 (upd (Fn 13) (cn 2) v5)) 14 (upd (Fn 14) (cn 2) (((lkM Fn d0 v1) - v2) - ((lkM Fn d0 v1) / 10)))) 15 (upd (Fn 15) (cn 2) (-1))) 16 (upd (Fn 16) (cn 2) ((Fn 7) d0))) 7 (upd (Fn 7) d0 v1))) (vp_in_nI kb_1 (ltb rfl)) (nI_clamp (Nat.lt_trans kb_1 (ltb rfl))) rfl (oc_79 217 (aq_17 shX12_fetch_200)) (fun H locs hP hD hS => ?_)
                  refine lv_aload_n hx hb (oc_42 218 (aq_18 shX12_fetch_200)) rfl (lvA2 hl) ?_
                  refine lv_aload_n hx hb (oc_42 219 (aq_19 shX12_fetch_200)) rfl (lvA2 hl) ?_
                  refine gM_208 S hK hP (v := .int (nI (cn 2))) rfl (oc_180 220 (aq_20 shX12_fetch_200) uw_0_208) ?_
                  refine lv_iconst (v := 1) hx hb (oc_4 223 (aq_23 shX12_fetch_200)) kic_1 ?_
                  refine lv_iadd hx hb (oc_96 224 shX12_fetch_224) ?_
                  refine lv_topi (fun y_22 ey_22 => ?_)
                  obtain rfl : y_22 = (nI ((cn 2) + 1)) := ey_22.trans (nI_add (cn 2) 1)
                  refine pM_208 S hK hP hD hS (a := ((cn 2) + 1)) (cn2 := (va_up cn 2 ((cn 2) + 1))) rfl rfl (oc_181 225 (aq_1 shX12_fetch_224) uw_0_208) (fun H locs hP hD hS => ?_)
                  refine lv_aload_n hx hb (oc_42 228 (aq_4 shX12_fetch_224)) rfl (lvA2 hl) ?_
                  refine gM_208 S hK hP (v := .int (nI ((cn 2) + 1))) rfl (oc_180 229 (aq_5 shX12_fetch_224) uw_0_208) ?_
                  refine lv_iconst (v := 1) hx hb (oc_4 232 (aq_8 shX12_fetch_224)) kic_1 ?_
                  refine lv_isub hx hb (oc_100 233 (aq_9 shX12_fetch_224)) ?_
                  refine lv_topi (fun y_23 ey_23 => ?_)
                  obtain rfl : y_23 = (nI (cn 2)) := ey_23.trans (nI_pred _)
                  exact W.iret (v := (nI (cn 2))) hx hb hr (fun t ht hW => ⟨⟨(nI (cn 2)), ((va_up cn 2 ((cn 2) + 1)), In, (va_up (va_up (va_up (va_up (va_up (va_up (va_up (va_up (va_up (va_up Fn 8 (upd (Fn 8) (cn 2) (nI d0))) 9 (upd (Fn 9) (cn 2) v1)) 10 (upd (Fn 10) (cn 2) v2)) 11 (upd (Fn 11) (cn 2) v3)) 12 (upd (Fn 12) (cn 2) v4)) 13 (upd (Fn 13) (cn 2) v5)) 14 (upd (Fn 14) (cn 2) (((lkM Fn d0 v1) - v2) - ((lkM Fn d0 v1) / 10)))) 15 (upd (Fn 15) (cn 2) (-1))) 16 (upd (Fn 16) (cn 2) ((Fn 7) d0))) 7 (upd (Fn 7) d0 v1))), rfl, (Or.inl ⟨(by first | (first | omega | (have zz0 := Hid.u hi_cn; omega)) | (simp only [zd0]; (first | omega | (have zz0 := Hid.u hi_cn; omega)))), rfl, rfl, rfl, by simp only [zd0]; first | rw [lackM, if_pos (Int32.not_le.mp (by assumption))] | rw [lackM, if_neg (Int32.not_lt.mpr (by assumption))]⟩), by rw [ht]; exact hP, hD⟩, hS.F ht⟩) hS.2.2 (oc_172 234 (aq_10 shX12_fetch_224))
              ·
                have tc_14 : ((nI (cn 2)).toInt : Int) = 60 := congrArg Int32.toInt c_14
                refine lv_iconst (v := (-1)) hx hb dX12_fetch_81 kic_m1 ?_
                exact W.iret (v := (-1)) hx hb hr (fun t ht hW => ⟨⟨(-1), (cn, In, Fn), rfl, (Or.inr ⟨(by first | (first | omega | (have zz0 := Hid.u hi_cn; omega)) | (simp only [zd0]; (first | omega | (have zz0 := Hid.u hi_cn; omega)))), rfl, rfl, rfl, rfl⟩), by rw [ht]; exact hP, hD⟩, hS.F ht⟩) hS.2.2 dX12_fetch_82
            ·
              have h_13 : ¬ (v1.toInt ≤ v5.toInt ∧ v5.toInt ≤ 399) := h_13
              refine lv_if_eq (tgt := 81) hx hb (oc_153 69 (aq_19 shX12_fetch_50) sgw_0_12) rfl (fun _ => ?_) (fun h => absurd h cq_eq_0_0)
              refine lv_iconst (v := (-1)) hx hb dX12_fetch_81 kic_m1 ?_
              exact W.iret (v := (-1)) hx hb hr (fun t ht hW => ⟨⟨(-1), (cn, In, Fn), rfl, (Or.inr ⟨(by first | (first | omega | (have zz0 := Hid.u hi_cn; omega)) | (simp only [zd0]; (first | omega | (have zz0 := Hid.u hi_cn; omega)))), rfl, rfl, rfl, rfl⟩), by rw [ht]; exact hP, hD⟩, hS.F ht⟩) hS.2.2 dX12_fetch_82
          ·
            have h_11 : ¬ (0 ≤ v4.toInt ∧ v4.toInt ≤ 1000) := h_11
            refine lv_if_eq (tgt := 81) hx hb (oc_153 57 (aq_7 shX12_fetch_50) sgw_0_24) rfl (fun _ => ?_) (fun h => absurd h cq_eq_0_0)
            refine lv_iconst (v := (-1)) hx hb dX12_fetch_81 kic_m1 ?_
            exact W.iret (v := (-1)) hx hb hr (fun t ht hW => ⟨⟨(-1), (cn, In, Fn), rfl, (Or.inr ⟨(by first | (first | omega | (have zz0 := Hid.u hi_cn; omega)) | (simp only [zd0]; (first | omega | (have zz0 := Hid.u hi_cn; omega)))), rfl, rfl, rfl, rfl⟩), by rw [ht]; exact hP, hD⟩, hS.F ht⟩) hS.2.2 dX12_fetch_82
        ·
          have h_9 : ¬ (0 ≤ v3.toInt ∧ v3.toInt ≤ 1000) := h_9
          refine lv_if_eq (tgt := 81) hx hb (oc_153 45 (aq_20 shX12_fetch_25) sgw_0_36) rfl (fun _ => ?_) (fun h => absurd h cq_eq_0_0)
          refine lv_iconst (v := (-1)) hx hb dX12_fetch_81 kic_m1 ?_
          exact W.iret (v := (-1)) hx hb hr (fun t ht hW => ⟨⟨(-1), (cn, In, Fn), rfl, (Or.inr ⟨(by first | (first | omega | (have zz0 := Hid.u hi_cn; omega)) | (simp only [zd0]; (first | omega | (have zz0 := Hid.u hi_cn; omega)))), rfl, rfl, rfl, rfl⟩), by rw [ht]; exact hP, hD⟩, hS.F ht⟩) hS.2.2 dX12_fetch_82
      ·
        have h_7 : ¬ (0 ≤ v2.toInt ∧ v2.toInt ≤ 400) := h_7
        refine lv_if_eq (tgt := 81) hx hb (oc_153 33 (aq_8 shX12_fetch_25) sgw_0_48) rfl (fun _ => ?_) (fun h => absurd h cq_eq_0_0)
        refine lv_iconst (v := (-1)) hx hb dX12_fetch_81 kic_m1 ?_
        exact W.iret (v := (-1)) hx hb hr (fun t ht hW => ⟨⟨(-1), (cn, In, Fn), rfl, (Or.inr ⟨(by first | (first | omega | (have zz0 := Hid.u hi_cn; omega)) | (simp only [zd0]; (first | omega | (have zz0 := Hid.u hi_cn; omega)))), rfl, rfl, rfl, rfl⟩), by rw [ht]; exact hP, hD⟩, hS.F ht⟩) hS.2.2 dX12_fetch_82
    ·
      have h_5 : ¬ (((Fn 7) d0).toInt ≤ v1.toInt ∧ v1.toInt ≤ (nI (cn 0)).toInt) := h_5
      refine lv_if_eq (tgt := 81) hx hb (oc_153 22 (aq_22 shX12_fetch_0) sgw_0_59) rfl (fun _ => ?_) (fun h => absurd h cq_eq_0_0)
      refine lv_iconst (v := (-1)) hx hb dX12_fetch_81 kic_m1 ?_
      exact W.iret (v := (-1)) hx hb hr (fun t ht hW => ⟨⟨(-1), (cn, In, Fn), rfl, (Or.inr ⟨(by first | (first | omega | (have zz0 := Hid.u hi_cn; omega)) | (simp only [zd0]; (first | omega | (have zz0 := Hid.u hi_cn; omega)))), rfl, rfl, rfl, rfl⟩), by rw [ht]; exact hP, hD⟩, hS.F ht⟩) hS.2.2 dX12_fetch_82
  ·
    have h_2 : ¬ (0 ≤ v0.toInt ∧ v0.toInt < ((cn 1) : Int)) := h_2
    refine lv_if_eq (tgt := 81) hx hb (oc_153 5 (aq_5 shX12_fetch_0) sgw_0_76) rfl (fun _ => ?_) (fun h => absurd h cq_eq_0_0)
    refine lv_iconst (v := (-1)) hx hb dX12_fetch_81 kic_m1 ?_
    exact W.iret (v := (-1)) hx hb hr (fun t ht hW => ⟨⟨(-1), (cn, In, Fn), rfl, (Or.inr ⟨(by first | (first | omega | (have zz0 := Hid.u hi_cn; omega)) | (simp only [zd0]; (first | omega | (have zz0 := Hid.u hi_cn; omega)))), rfl, rfl, rfl, rfl⟩), by rw [ht]; exact hP, hD⟩, hS.F ht⟩) hS.2.2 dX12_fetch_82
set_option maxRecDepth 100000 in
set_option maxHeartbeats 4000000 in
theorem q_price (l : Launch) (D : va_G) (cI cB cZ : ClassId) (g : Nat → Nat) (cn : Nat → Nat) (In : Nat → Int32) (Fn : Nat → Nat → Int32) (v0 v1 : Int32) (sz : Nat) (hI : IM cn Fn) : Met l yX12_price (CWS yX12_price cX12_price 3 (some .boolean)) (RM 1 0 0) (PBw [.ref (g 100), .int v0, .int v1] D cI cB cZ (wM cI cB cZ g cn In Fn) sz) (va_Qi (fun (r : Int32) (u : (Nat → Nat) × (Nat → Int32) × (Nat → Nat → Int32)) => (fun r c2 I2 F2 => (((0 ≤ v0.toInt ∧ v0.toInt ≤ 57) ∧ (0 ≤ v1.toInt ∧ v1.toInt ≤ 1000)) ∧ r = 1 ∧ c2 = cn ∧ I2 = In ∧ F2 = (va_up Fn 39 (upd (Fn 39) v0.toInt.toNat v1))) ∨ ((¬ ((0 ≤ v0.toInt ∧ v0.toInt ≤ 57) ∧ (0 ≤ v1.toInt ∧ v1.toInt ≤ 1000))) ∧ r = 0 ∧ c2 = cn ∧ I2 = In ∧ F2 = Fn)) r u.1 u.2.1 u.2.2) (fun (u : (Nat → Nat) × (Nat → Int32) × (Nat → Nat → Int32)) (t : State) => va_P D vwCl (wM cI cB cZ g u.1 u.2.1 u.2.2) t.heap ∧ va_D (va_A (wM cI cB cZ g cn In Fn) sz) (wM cI cB cZ g u.1 u.2.1 u.2.2)) (va_A (wM cI cB cZ g cn In Fn) sz)) 0 0 (va_A (wM cI cB cZ g cn In Fn) sz) := by
  refine en_w (fun A => (va_Qi (fun (r : Int32) (u : (Nat → Nat) × (Nat → Int32) × (Nat → Nat → Int32)) => (fun (r : Int32) (c2 : Nat → Nat) (I2 : Nat → Int32) (F2 : Nat → Nat → Int32) => (((0 ≤ v0.toInt ∧ v0.toInt ≤ 57) ∧ (0 ≤ v1.toInt ∧ v1.toInt ≤ 1000)) ∧ r = 1 ∧ c2 = cn ∧ I2 = In ∧ F2 = (va_up Fn 39 (upd (Fn 39) v0.toInt.toNat v1))) ∨ ((¬ ((0 ≤ v0.toInt ∧ v0.toInt ≤ 57) ∧ (0 ≤ v1.toInt ∧ v1.toInt ≤ 1000))) ∧ r = 0 ∧ c2 = cn ∧ I2 = In ∧ F2 = Fn)) r u.1 u.2.1 u.2.2) (fun (u : (Nat → Nat) × (Nat → Int32) × (Nat → Nat → Int32)) (t : State) => va_P D vwCl (wM cI cB cZ g u.1 u.2.1 u.2.2) t.heap ∧ va_D A (wM cI cB cZ g u.1 u.2.1 u.2.2)) A)) rfl rfl pn_RX12 (Nat.le_of_ble_eq_true rfl) (fun p e s m below meth c A hx hb hml hown S hr hlocks hnm hA hP hK hD hS ls hl => ?_)
  have hl : lv_has ls 3 [(0, .ref (g 100)), (1, .int v0), (2, .int v1)] := hl
  have hi_cn : Hid (CB cn) := hI.b
  refine lv_iload_n hx hb (oc_27 0 shX12_price_0) rfl (lvA1 hl) ?_
  refine lv_iconst (v := 0) hx hb (oc_3 1 (aq_1 shX12_price_0)) kic_0 ?_
  refine lv_bipush (v := 57) hx hb (oc_16 2 (aq_2 shX12_price_0) sgb_57) kbc_57 ?_
  refine vp_callSi (runS_r (As := [.int v0, .int 0, .int 57]) (rest := []) S (q_in l D cI cB cZ v0 0 57 ) kS_RX12_214 hK hP [] rfl ⟨Nat.le_of_ble_eq_true rfl, Nat.le_of_ble_eq_true rfl⟩ ⟨Nat.le_of_ble_eq_true rfl, Nat.le_of_ble_eq_true rfl⟩ rfl hl.1 rfl (Nat.le_of_ble_eq_true rfl) (oc_184 4 (aq_4 shX12_price_0) uw_0_214)) (fun r_1 h_2 => ?_)
  rcases h_2 with ⟨rfl, h_2⟩ | ⟨rfl, h_2⟩
  ·
    have h_2 : 0 ≤ v0.toInt ∧ v0.toInt ≤ 57 := h_2
    refine lv_if_eq (tgt := 21) hx hb (oc_153 7 (aq_7 shX12_price_0) sgw_0_14) rfl (fun h => absurd h cq_eq_1_0) (fun _ => ?_)
    obtain ⟨d0, hd0, rfl⟩ := nI_of (x := v0) (fun q => by have := Int32.lt_iff_toInt_lt.mp q; have e : (0 : Int32).toInt = 0 := rfl; (first | omega | (have zz0 := Hid.u hi_cn; omega)))
    have td0 : (nI d0).toInt = (d0 : Int) := nI_toInt hd0
    have zd0 : (nI d0).toInt.toNat = d0 := by (first | omega | (have zz0 := Hid.u hi_cn; omega))
    refine lv_iload_n hx hb (oc_28 10 (aq_10 shX12_price_0)) rfl (lvA2 hl) ?_
    refine lv_iconst (v := 0) hx hb (oc_3 11 (aq_11 shX12_price_0)) kic_0 ?_
    refine lv_sipush (v := 1000) hx hb (oc_17 12 (aq_12 shX12_price_0) sgw_3_232) (by decide) ?_
    refine vp_callSi (runS_r (As := [.int v1, .int 0, .int 1000]) (rest := []) S (q_in l D cI cB cZ v1 0 1000 ) kS_RX12_214 hK hP [] rfl ⟨Nat.le_of_ble_eq_true rfl, Nat.le_of_ble_eq_true rfl⟩ ⟨Nat.le_of_ble_eq_true rfl, Nat.le_of_ble_eq_true rfl⟩ rfl hl.1 rfl (Nat.le_of_ble_eq_true rfl) (oc_184 15 (aq_15 shX12_price_0) uw_0_214)) (fun r_3 h_4 => ?_)
    rcases h_4 with ⟨rfl, h_4⟩ | ⟨rfl, h_4⟩
    ·
      have h_4 : 0 ≤ v1.toInt ∧ v1.toInt ≤ 1000 := h_4
      refine lv_if_ne (tgt := 23) hx hb (oc_154 18 (aq_18 shX12_price_0) sgw_0_5) rfl (fun _ => ?_) (fun h => absurd h cq_eq_1_0)
      refine lv_aload_n hx hb (oc_42 23 (aq_23 shX12_price_0)) rfl (lvA0 hl) ?_
      refine gM_92 S hK hP (v := .ref (g 39)) rfl (oc_180 24 shX12_price_24 uw_0_92) ?_
      refine lv_iload_n hx hb (oc_27 27 (aq_3 shX12_price_24)) rfl (lvA1 hl) ?_
      refine lv_iload_n hx hb (oc_28 28 (aq_4 shX12_price_24)) rfl (lvA2 hl) ?_
      have kb_1 : d0 < 58 := by (first | omega | (have zz0 := Hid.u hi_cn; omega))
      refine stM_39 hx hb hK hP hD hS (Fn2 := (va_up Fn 39 (upd (Fn 39) d0 v1))) (vp_in_nI kb_1 (ltb rfl)) (nI_clamp (Nat.lt_trans kb_1 (ltb rfl))) rfl (oc_79 29 (aq_5 shX12_price_24)) (fun H locs hP hD hS => ?_)
      refine lv_iconst (v := 1) hx hb (oc_4 30 (aq_6 shX12_price_24)) kic_1 ?_
      exact W.zret (v := 1) hx hb hr rfl (fun t ht hW => ⟨⟨1, (cn, In, (va_up Fn 39 (upd (Fn 39) d0 v1))), rfl, (Or.inl ⟨(by first | (first | omega | (have zz0 := Hid.u hi_cn; omega)) | (simp only [zd0]; (first | omega | (have zz0 := Hid.u hi_cn; omega)))), rfl, rfl, rfl, by first | rfl | simp only [zd0, zd1] | simp only [zd0]⟩), by rw [ht]; exact hP, hD⟩, hS.F ht⟩) hS.2.2 (oc_172 31 (aq_7 shX12_price_24))
    ·
      have h_4 : ¬ (0 ≤ v1.toInt ∧ v1.toInt ≤ 1000) := h_4
      refine lv_if_ne (tgt := 23) hx hb (oc_154 18 (aq_18 shX12_price_0) sgw_0_5) rfl (fun h => absurd h cq_eq_0_0) (fun _ => ?_)
      refine lv_iconst (v := 0) hx hb (oc_3 21 (aq_21 shX12_price_0)) kic_0 ?_
      exact W.zret (v := 0) hx hb hr rfl (fun t ht hW => ⟨⟨0, (cn, In, Fn), rfl, (Or.inr ⟨(by first | (first | omega | (have zz0 := Hid.u hi_cn; omega)) | (simp only [zd0]; (first | omega | (have zz0 := Hid.u hi_cn; omega)))), rfl, rfl, rfl, rfl⟩), by rw [ht]; exact hP, hD⟩, hS.F ht⟩) hS.2.2 (oc_172 22 (aq_22 shX12_price_0))
  ·
    have h_2 : ¬ (0 ≤ v0.toInt ∧ v0.toInt ≤ 57) := h_2
    refine lv_if_eq (tgt := 21) hx hb (oc_153 7 (aq_7 shX12_price_0) sgw_0_14) rfl (fun _ => ?_) (fun h => absurd h cq_eq_0_0)
    refine lv_iconst (v := 0) hx hb (oc_3 21 (aq_21 shX12_price_0)) kic_0 ?_
    exact W.zret (v := 0) hx hb hr rfl (fun t ht hW => ⟨⟨0, (cn, In, Fn), rfl, (Or.inr ⟨(by first | (first | omega | (have zz0 := Hid.u hi_cn; omega)) | (simp only [zd0]; (first | omega | (have zz0 := Hid.u hi_cn; omega)))), rfl, rfl, rfl, rfl⟩), by rw [ht]; exact hP, hD⟩, hS.F ht⟩) hS.2.2 (oc_172 22 (aq_22 shX12_price_0))
set_option maxRecDepth 100000 in
set_option maxHeartbeats 4000000 in
theorem q_street (l : Launch) (D : va_G) (cI cB cZ : ClassId) (g : Nat → Nat) (cn : Nat → Nat) (In : Nat → Int32) (Fn : Nat → Nat → Int32) (v0 v1 : Int32) (sz : Nat) (hI : IM cn Fn) : Met l yX12_street (CWS yX12_street cX12_street 3 (some .boolean)) (RM 1 0 0) (PBw [.ref (g 100), .int v0, .int v1] D cI cB cZ (wM cI cB cZ g cn In Fn) sz) (va_Qi (fun (r : Int32) (u : (Nat → Nat) × (Nat → Int32) × (Nat → Nat → Int32)) => (fun r c2 I2 F2 => (((0 ≤ v0.toInt ∧ v0.toInt < (cn 1 : Int)) ∧ (0 ≤ v1.toInt ∧ v1.toInt ≤ 9)) ∧ r = 1 ∧ c2 = cn ∧ I2 = In ∧ F2 = (va_up Fn 40 (upd (Fn 40) v0.toInt.toNat v1))) ∨ ((¬ ((0 ≤ v0.toInt ∧ v0.toInt < (cn 1 : Int)) ∧ (0 ≤ v1.toInt ∧ v1.toInt ≤ 9))) ∧ r = 0 ∧ c2 = cn ∧ I2 = In ∧ F2 = Fn)) r u.1 u.2.1 u.2.2) (fun (u : (Nat → Nat) × (Nat → Int32) × (Nat → Nat → Int32)) (t : State) => va_P D vwCl (wM cI cB cZ g u.1 u.2.1 u.2.2) t.heap ∧ va_D (va_A (wM cI cB cZ g cn In Fn) sz) (wM cI cB cZ g u.1 u.2.1 u.2.2)) (va_A (wM cI cB cZ g cn In Fn) sz)) 0 0 (va_A (wM cI cB cZ g cn In Fn) sz) := by
  refine en_w (fun A => (va_Qi (fun (r : Int32) (u : (Nat → Nat) × (Nat → Int32) × (Nat → Nat → Int32)) => (fun (r : Int32) (c2 : Nat → Nat) (I2 : Nat → Int32) (F2 : Nat → Nat → Int32) => (((0 ≤ v0.toInt ∧ v0.toInt < (cn 1 : Int)) ∧ (0 ≤ v1.toInt ∧ v1.toInt ≤ 9)) ∧ r = 1 ∧ c2 = cn ∧ I2 = In ∧ F2 = (va_up Fn 40 (upd (Fn 40) v0.toInt.toNat v1))) ∨ ((¬ ((0 ≤ v0.toInt ∧ v0.toInt < (cn 1 : Int)) ∧ (0 ≤ v1.toInt ∧ v1.toInt ≤ 9))) ∧ r = 0 ∧ c2 = cn ∧ I2 = In ∧ F2 = Fn)) r u.1 u.2.1 u.2.2) (fun (u : (Nat → Nat) × (Nat → Int32) × (Nat → Nat → Int32)) (t : State) => va_P D vwCl (wM cI cB cZ g u.1 u.2.1 u.2.2) t.heap ∧ va_D A (wM cI cB cZ g u.1 u.2.1 u.2.2)) A)) rfl rfl pn_RX12 (Nat.le_of_ble_eq_true rfl) (fun p e s m below meth c A hx hb hml hown S hr hlocks hnm hA hP hK hD hS ls hl => ?_)
  have hl : lv_has ls 3 [(0, .ref (g 100)), (1, .int v0), (2, .int v1)] := hl
  have hi_cn : Hid (CB cn) := hI.b
  refine lv_aload_n hx hb (oc_42 0 shX12_street_0) rfl (lvA0 hl) ?_
  refine lv_iload_n hx hb (oc_27 1 (aq_1 shX12_street_0)) rfl (lvA1 hl) ?_
  refine vp_callSi (runV_ra (As := [.int v0]) (rest := []) S (q_isKitchen l D cI cB cZ g cn In Fn v0 hI) kV_RX12_218 hK hP 0 rfl rfl rfl ⟨Nat.le_of_ble_eq_true rfl, Nat.le_of_ble_eq_true rfl⟩ ⟨Nat.le_of_ble_eq_true rfl, Nat.le_of_ble_eq_true rfl⟩ rfl hl.1 rfl (Nat.le_of_ble_eq_true rfl) (oc_182 2 (aq_2 shX12_street_0) uw_0_218)) (fun r_1 h_2 => ?_)
  rcases h_2 with ⟨rfl, h_2⟩ | ⟨rfl, h_2⟩
  ·
    have h_2 : 0 ≤ v0.toInt ∧ v0.toInt < ((cn 1) : Int) := h_2
    refine lv_if_eq (tgt := 18) hx hb (oc_153 5 (aq_5 shX12_street_0) sgw_0_13) rfl (fun h => absurd h cq_eq_1_0) (fun _ => ?_)
    obtain ⟨d0, hd0, rfl⟩ := nI_of (x := v0) (fun q => by have := Int32.lt_iff_toInt_lt.mp q; have e : (0 : Int32).toInt = 0 := rfl; (first | omega | (have zz0 := Hid.u hi_cn; omega)))
    have td0 : (nI d0).toInt = (d0 : Int) := nI_toInt hd0
    have zd0 : (nI d0).toInt.toNat = d0 := by (first | omega | (have zz0 := Hid.u hi_cn; omega))
    refine lv_iload_n hx hb (oc_28 8 (aq_8 shX12_street_0)) rfl (lvA2 hl) ?_
    refine lv_iconst (v := 0) hx hb (oc_3 9 (aq_9 shX12_street_0)) kic_0 ?_
    refine lv_bipush (v := 9) hx hb (oc_16 10 (aq_10 shX12_street_0) sgb_9) kbc_9 ?_
    refine vp_callSi (runS_r (As := [.int v1, .int 0, .int 9]) (rest := []) S (q_in l D cI cB cZ v1 0 9 ) kS_RX12_214 hK hP [] rfl ⟨Nat.le_of_ble_eq_true rfl, Nat.le_of_ble_eq_true rfl⟩ ⟨Nat.le_of_ble_eq_true rfl, Nat.le_of_ble_eq_true rfl⟩ rfl hl.1 rfl (Nat.le_of_ble_eq_true rfl) (oc_184 12 (aq_12 shX12_street_0) uw_0_214)) (fun r_3 h_4 => ?_)
    rcases h_4 with ⟨rfl, h_4⟩ | ⟨rfl, h_4⟩
    ·
      have h_4 : 0 ≤ v1.toInt ∧ v1.toInt ≤ 9 := h_4
      refine lv_if_ne (tgt := 20) hx hb (oc_154 15 (aq_15 shX12_street_0) sgw_0_5) rfl (fun _ => ?_) (fun h => absurd h cq_eq_1_0)
      refine lv_aload_n hx hb (oc_42 20 (aq_20 shX12_street_0)) rfl (lvA0 hl) ?_
      refine gM_95 S hK hP (v := .ref (g 40)) rfl (oc_180 21 (aq_21 shX12_street_0) uw_0_95) ?_
      refine lv_iload_n hx hb (oc_27 24 shX12_street_24) rfl (lvA1 hl) ?_
      refine lv_iload_n hx hb (oc_28 25 (aq_1 shX12_street_24)) rfl (lvA2 hl) ?_
      have kb_1 : d0 < 10 := by (first | omega | (have zz0 := Hid.u hi_cn; omega))
      refine stM_40 hx hb hK hP hD hS (Fn2 := (va_up Fn 40 (upd (Fn 40) d0 v1))) (vp_in_nI kb_1 (ltb rfl)) (nI_clamp (Nat.lt_trans kb_1 (ltb rfl))) rfl (oc_79 26 (aq_2 shX12_street_24)) (fun H locs hP hD hS => ?_)
      refine lv_iconst (v := 1) hx hb (oc_4 27 (aq_3 shX12_street_24)) kic_1 ?_
      exact W.zret (v := 1) hx hb hr rfl (fun t ht hW => ⟨⟨1, (cn, In, (va_up Fn 40 (upd (Fn 40) d0 v1))), rfl, (Or.inl ⟨(by first | (first | omega | (have zz0 := Hid.u hi_cn; omega)) | (simp only [zd0]; (first | omega | (have zz0 := Hid.u hi_cn; omega)))), rfl, rfl, rfl, by first | rfl | simp only [zd0, zd1] | simp only [zd0]⟩), by rw [ht]; exact hP, hD⟩, hS.F ht⟩) hS.2.2 (oc_172 28 (aq_4 shX12_street_24))
    ·
      have h_4 : ¬ (0 ≤ v1.toInt ∧ v1.toInt ≤ 9) := h_4
      refine lv_if_ne (tgt := 20) hx hb (oc_154 15 (aq_15 shX12_street_0) sgw_0_5) rfl (fun h => absurd h cq_eq_0_0) (fun _ => ?_)
      refine lv_iconst (v := 0) hx hb (oc_3 18 (aq_18 shX12_street_0)) kic_0 ?_
      exact W.zret (v := 0) hx hb hr rfl (fun t ht hW => ⟨⟨0, (cn, In, Fn), rfl, (Or.inr ⟨(by first | (first | omega | (have zz0 := Hid.u hi_cn; omega)) | (simp only [zd0]; (first | omega | (have zz0 := Hid.u hi_cn; omega)))), rfl, rfl, rfl, rfl⟩), by rw [ht]; exact hP, hD⟩, hS.F ht⟩) hS.2.2 (oc_172 19 (aq_19 shX12_street_0))
  ·
    have h_2 : ¬ (0 ≤ v0.toInt ∧ v0.toInt < ((cn 1) : Int)) := h_2
    refine lv_if_eq (tgt := 18) hx hb (oc_153 5 (aq_5 shX12_street_0) sgw_0_13) rfl (fun _ => ?_) (fun h => absurd h cq_eq_0_0)
    refine lv_iconst (v := 0) hx hb (oc_3 18 (aq_18 shX12_street_0)) kic_0 ?_
    exact W.zret (v := 0) hx hb hr rfl (fun t ht hW => ⟨⟨0, (cn, In, Fn), rfl, (Or.inr ⟨(by first | (first | omega | (have zz0 := Hid.u hi_cn; omega)) | (simp only [zd0]; (first | omega | (have zz0 := Hid.u hi_cn; omega)))), rfl, rfl, rfl, rfl⟩), by rw [ht]; exact hP, hD⟩, hS.F ht⟩) hS.2.2 (oc_172 19 (aq_19 shX12_street_0))
set_option maxRecDepth 100000 in
set_option maxHeartbeats 4000000 in
theorem q_feast (l : Launch) (D : va_G) (cI cB cZ : ClassId) (g : Nat → Nat) (cn : Nat → Nat) (In : Nat → Int32) (Fn : Nat → Nat → Int32) (v0 v1 : Int32) (sz : Nat) (hI : IM cn Fn) : Met l yX12_feast (CWS yX12_feast cX12_feast 3 (some .boolean)) (RM 1 0 0) (PBw [.ref (g 100), .int v0, .int v1] D cI cB cZ (wM cI cB cZ g cn In Fn) sz) (va_Qi (fun (r : Int32) (u : (Nat → Nat) × (Nat → Int32) × (Nat → Nat → Int32)) => (fun r c2 I2 F2 => (((0 ≤ v0.toInt ∧ v0.toInt ≤ 399) ∧ (0 ≤ v1.toInt ∧ v1.toInt ≤ 300)) ∧ r = 1 ∧ c2 = cn ∧ I2 = In ∧ F2 = (va_up Fn 41 (upd (Fn 41) v0.toInt.toNat v1))) ∨ ((¬ ((0 ≤ v0.toInt ∧ v0.toInt ≤ 399) ∧ (0 ≤ v1.toInt ∧ v1.toInt ≤ 300))) ∧ r = 0 ∧ c2 = cn ∧ I2 = In ∧ F2 = Fn)) r u.1 u.2.1 u.2.2) (fun (u : (Nat → Nat) × (Nat → Int32) × (Nat → Nat → Int32)) (t : State) => va_P D vwCl (wM cI cB cZ g u.1 u.2.1 u.2.2) t.heap ∧ va_D (va_A (wM cI cB cZ g cn In Fn) sz) (wM cI cB cZ g u.1 u.2.1 u.2.2)) (va_A (wM cI cB cZ g cn In Fn) sz)) 0 0 (va_A (wM cI cB cZ g cn In Fn) sz) := by
  refine en_w (fun A => (va_Qi (fun (r : Int32) (u : (Nat → Nat) × (Nat → Int32) × (Nat → Nat → Int32)) => (fun (r : Int32) (c2 : Nat → Nat) (I2 : Nat → Int32) (F2 : Nat → Nat → Int32) => (((0 ≤ v0.toInt ∧ v0.toInt ≤ 399) ∧ (0 ≤ v1.toInt ∧ v1.toInt ≤ 300)) ∧ r = 1 ∧ c2 = cn ∧ I2 = In ∧ F2 = (va_up Fn 41 (upd (Fn 41) v0.toInt.toNat v1))) ∨ ((¬ ((0 ≤ v0.toInt ∧ v0.toInt ≤ 399) ∧ (0 ≤ v1.toInt ∧ v1.toInt ≤ 300))) ∧ r = 0 ∧ c2 = cn ∧ I2 = In ∧ F2 = Fn)) r u.1 u.2.1 u.2.2) (fun (u : (Nat → Nat) × (Nat → Int32) × (Nat → Nat → Int32)) (t : State) => va_P D vwCl (wM cI cB cZ g u.1 u.2.1 u.2.2) t.heap ∧ va_D A (wM cI cB cZ g u.1 u.2.1 u.2.2)) A)) rfl rfl pn_RX12 (Nat.le_of_ble_eq_true rfl) (fun p e s m below meth c A hx hb hml hown S hr hlocks hnm hA hP hK hD hS ls hl => ?_)
  have hl : lv_has ls 3 [(0, .ref (g 100)), (1, .int v0), (2, .int v1)] := hl
  have hi_cn : Hid (CB cn) := hI.b
  refine lv_iload_n hx hb (oc_27 0 shX12_feast_0) rfl (lvA1 hl) ?_
  refine vp_callSi (runS_r (As := [.int v0]) (rest := []) S (q_isDay l D cI cB cZ v0 ) kS_RX12_341 hK hP [] rfl ⟨Nat.le_of_ble_eq_true rfl, Nat.le_of_ble_eq_true rfl⟩ ⟨Nat.le_of_ble_eq_true rfl, Nat.le_of_ble_eq_true rfl⟩ rfl hl.1 rfl (Nat.le_of_ble_eq_true rfl) (oc_184 1 (aq_1 shX12_feast_0) uw_1_85)) (fun r_1 h_2 => ?_)
  rcases h_2 with ⟨rfl, h_2⟩ | ⟨rfl, h_2⟩
  ·
    have h_2 : 0 ≤ v0.toInt ∧ v0.toInt ≤ 399 := h_2
    refine lv_if_eq (tgt := 18) hx hb (oc_153 4 (aq_4 shX12_feast_0) sgw_0_14) rfl (fun h => absurd h cq_eq_1_0) (fun _ => ?_)
    obtain ⟨d0, hd0, rfl⟩ := nI_of (x := v0) (fun q => by have := Int32.lt_iff_toInt_lt.mp q; have e : (0 : Int32).toInt = 0 := rfl; (first | omega | (have zz0 := Hid.u hi_cn; omega)))
    have td0 : (nI d0).toInt = (d0 : Int) := nI_toInt hd0
    have zd0 : (nI d0).toInt.toNat = d0 := by (first | omega | (have zz0 := Hid.u hi_cn; omega))
    refine lv_iload_n hx hb (oc_28 7 (aq_7 shX12_feast_0)) rfl (lvA2 hl) ?_
    refine lv_iconst (v := 0) hx hb (oc_3 8 (aq_8 shX12_feast_0)) kic_0 ?_
    refine lv_sipush (v := 300) hx hb (oc_17 9 (aq_9 shX12_feast_0) sgw_1_44) (by decide) ?_
    refine vp_callSi (runS_r (As := [.int v1, .int 0, .int 300]) (rest := []) S (q_in l D cI cB cZ v1 0 300 ) kS_RX12_214 hK hP [] rfl ⟨Nat.le_of_ble_eq_true rfl, Nat.le_of_ble_eq_true rfl⟩ ⟨Nat.le_of_ble_eq_true rfl, Nat.le_of_ble_eq_true rfl⟩ rfl hl.1 rfl (Nat.le_of_ble_eq_true rfl) (oc_184 12 (aq_12 shX12_feast_0) uw_0_214)) (fun r_3 h_4 => ?_)
    rcases h_4 with ⟨rfl, h_4⟩ | ⟨rfl, h_4⟩
    ·
      have h_4 : 0 ≤ v1.toInt ∧ v1.toInt ≤ 300 := h_4
      refine lv_if_ne (tgt := 20) hx hb (oc_154 15 (aq_15 shX12_feast_0) sgw_0_5) rfl (fun _ => ?_) (fun h => absurd h cq_eq_1_0)
      refine lv_aload_n hx hb (oc_42 20 (aq_20 shX12_feast_0)) rfl (lvA0 hl) ?_
      refine gM_98 S hK hP (v := .ref (g 41)) rfl (oc_180 21 (aq_21 shX12_feast_0) uw_0_98) ?_
      refine lv_iload_n hx hb (oc_27 24 shX12_feast_24) rfl (lvA1 hl) ?_
      refine lv_iload_n hx hb (oc_28 25 (aq_1 shX12_feast_24)) rfl (lvA2 hl) ?_
      have kb_1 : d0 < 400 := by (first | omega | (have zz0 := Hid.u hi_cn; omega))
      refine stM_41 hx hb hK hP hD hS (Fn2 := (va_up Fn 41 (upd (Fn 41) d0 v1))) (vp_in_nI kb_1 (ltb rfl)) (nI_clamp (Nat.lt_trans kb_1 (ltb rfl))) rfl (oc_79 26 (aq_2 shX12_feast_24)) (fun H locs hP hD hS => ?_)
      refine lv_iconst (v := 1) hx hb (oc_4 27 (aq_3 shX12_feast_24)) kic_1 ?_
      exact W.zret (v := 1) hx hb hr rfl (fun t ht hW => ⟨⟨1, (cn, In, (va_up Fn 41 (upd (Fn 41) d0 v1))), rfl, (Or.inl ⟨(by first | (first | omega | (have zz0 := Hid.u hi_cn; omega)) | (simp only [zd0]; (first | omega | (have zz0 := Hid.u hi_cn; omega)))), rfl, rfl, rfl, by first | rfl | simp only [zd0, zd1] | simp only [zd0]⟩), by rw [ht]; exact hP, hD⟩, hS.F ht⟩) hS.2.2 (oc_172 28 (aq_4 shX12_feast_24))
    ·
      have h_4 : ¬ (0 ≤ v1.toInt ∧ v1.toInt ≤ 300) := h_4
      refine lv_if_ne (tgt := 20) hx hb (oc_154 15 (aq_15 shX12_feast_0) sgw_0_5) rfl (fun h => absurd h cq_eq_0_0) (fun _ => ?_)
      refine lv_iconst (v := 0) hx hb (oc_3 18 (aq_18 shX12_feast_0)) kic_0 ?_
      exact W.zret (v := 0) hx hb hr rfl (fun t ht hW => ⟨⟨0, (cn, In, Fn), rfl, (Or.inr ⟨(by first | (first | omega | (have zz0 := Hid.u hi_cn; omega)) | (simp only [zd0]; (first | omega | (have zz0 := Hid.u hi_cn; omega)))), rfl, rfl, rfl, rfl⟩), by rw [ht]; exact hP, hD⟩, hS.F ht⟩) hS.2.2 (oc_172 19 (aq_19 shX12_feast_0))
  ·
    have h_2 : ¬ (0 ≤ v0.toInt ∧ v0.toInt ≤ 399) := h_2
    refine lv_if_eq (tgt := 18) hx hb (oc_153 4 (aq_4 shX12_feast_0) sgw_0_14) rfl (fun _ => ?_) (fun h => absurd h cq_eq_0_0)
    refine lv_iconst (v := 0) hx hb (oc_3 18 (aq_18 shX12_feast_0)) kic_0 ?_
    exact W.zret (v := 0) hx hb hr rfl (fun t ht hW => ⟨⟨0, (cn, In, Fn), rfl, (Or.inr ⟨(by first | (first | omega | (have zz0 := Hid.u hi_cn; omega)) | (simp only [zd0]; (first | omega | (have zz0 := Hid.u hi_cn; omega)))), rfl, rfl, rfl, rfl⟩), by rw [ht]; exact hP, hD⟩, hS.F ht⟩) hS.2.2 (oc_172 19 (aq_19 shX12_feast_0))
set_option maxRecDepth 100000 in
set_option maxHeartbeats 4000000 in
theorem q_lorry (l : Launch) (D : va_G) (cI cB cZ : ClassId) (g : Nat → Nat) (cn : Nat → Nat) (In : Nat → Int32) (Fn : Nat → Nat → Int32) (v0 : Int32) (sz : Nat) (hI : IM cn Fn) : Met l yX12_lorry (CWS yX12_lorry cX12_lorry 2 (some .int)) (RM 1 0 0) (PBw [.ref (g 100), .int v0] D cI cB cZ (wM cI cB cZ g cn In Fn) sz) (va_Qi (fun (r : Int32) (u : (Nat → Nat) × (Nat → Int32) × (Nat → Nat → Int32)) => (fun r c2 I2 F2 => (((20 ≤ v0.toInt ∧ v0.toInt ≤ 2000) ∧ cn 46 < 3) ∧ r = nI (cn 46) ∧ c2 = va_up cn 46 (cn 46 + 1) ∧ I2 = In ∧ F2 = (va_up Fn 47 (upd (Fn 47) (cn 46) v0))) ∨ ((¬ ((20 ≤ v0.toInt ∧ v0.toInt ≤ 2000) ∧ cn 46 < 3)) ∧ r = -1 ∧ c2 = cn ∧ I2 = In ∧ F2 = Fn)) r u.1 u.2.1 u.2.2) (fun (u : (Nat → Nat) × (Nat → Int32) × (Nat → Nat → Int32)) (t : State) => va_P D vwCl (wM cI cB cZ g u.1 u.2.1 u.2.2) t.heap ∧ va_D (va_A (wM cI cB cZ g cn In Fn) sz) (wM cI cB cZ g u.1 u.2.1 u.2.2)) (va_A (wM cI cB cZ g cn In Fn) sz)) 0 0 (va_A (wM cI cB cZ g cn In Fn) sz) := by
  refine en_w (fun A => (va_Qi (fun (r : Int32) (u : (Nat → Nat) × (Nat → Int32) × (Nat → Nat → Int32)) => (fun (r : Int32) (c2 : Nat → Nat) (I2 : Nat → Int32) (F2 : Nat → Nat → Int32) => (((20 ≤ v0.toInt ∧ v0.toInt ≤ 2000) ∧ cn 46 < 3) ∧ r = nI (cn 46) ∧ c2 = va_up cn 46 (cn 46 + 1) ∧ I2 = In ∧ F2 = (va_up Fn 47 (upd (Fn 47) (cn 46) v0))) ∨ ((¬ ((20 ≤ v0.toInt ∧ v0.toInt ≤ 2000) ∧ cn 46 < 3)) ∧ r = -1 ∧ c2 = cn ∧ I2 = In ∧ F2 = Fn)) r u.1 u.2.1 u.2.2) (fun (u : (Nat → Nat) × (Nat → Int32) × (Nat → Nat → Int32)) (t : State) => va_P D vwCl (wM cI cB cZ g u.1 u.2.1 u.2.2) t.heap ∧ va_D A (wM cI cB cZ g u.1 u.2.1 u.2.2)) A)) rfl rfl pn_RX12 (Nat.le_of_ble_eq_true rfl) (fun p e s m below meth c A hx hb hml hown S hr hlocks hnm hA hP hK hD hS ls hl => ?_)
  have hl : lv_has ls 2 [(0, .ref (g 100)), (1, .int v0)] := hl
  have hi_cn : Hid (CB cn) := hI.b
  refine lv_iload_n hx hb (oc_27 0 shX12_lorry_0) rfl (lvA1 hl) ?_
  refine lv_bipush (v := 20) hx hb (oc_16 1 (aq_1 shX12_lorry_0) sgb_20) kbc_20 ?_
  refine lv_sipush (v := 2000) hx hb (oc_17 3 (aq_3 shX12_lorry_0) sgw_7_208) (by decide) ?_
  refine vp_callSi (runS_r (As := [.int v0, .int 20, .int 2000]) (rest := []) S (q_in l D cI cB cZ v0 20 2000 ) kS_RX12_214 hK hP [] rfl ⟨Nat.le_of_ble_eq_true rfl, Nat.le_of_ble_eq_true rfl⟩ ⟨Nat.le_of_ble_eq_true rfl, Nat.le_of_ble_eq_true rfl⟩ rfl hl.1 rfl (Nat.le_of_ble_eq_true rfl) (oc_184 6 (aq_6 shX12_lorry_0) uw_0_214)) (fun r_1 h_2 => ?_)
  rcases h_2 with ⟨rfl, h_2⟩ | ⟨rfl, h_2⟩
  ·
    have h_2 : 20 ≤ v0.toInt ∧ v0.toInt ≤ 2000 := h_2
    refine lv_if_eq (tgt := 20) hx hb (oc_153 9 (aq_9 shX12_lorry_0) sgw_0_11) rfl (fun h => absurd h cq_eq_1_0) (fun _ => ?_)
    refine lv_aload_n hx hb (oc_42 12 (aq_12 shX12_lorry_0)) rfl (lvA0 hl) ?_
    refine gM_386 S hK hP (v := .int (nI (cn 46))) rfl (oc_180 13 (aq_13 shX12_lorry_0) uw_1_130) ?_
    refine lv_iconst (v := 3) hx hb (oc_6 16 (aq_16 shX12_lorry_0)) kic_3 ?_
    have : (nI (cn 46)).toInt = (((cn 46) : Nat) : Int) := nI_toInt (by (first | omega | (have zz0 := Hid.u hi_cn; omega)))
    refine lv_icmp_ne (tgt := 22) hx hb (oc_160 17 (aq_17 shX12_lorry_0) sgw_0_5) rfl (fun c_3 => ?_) (fun c_3 => ?_)
    ·
      have tc_3 : ((nI (cn 46)).toInt : Int) ≠ 3 := fun q => c_3 (Int32.toInt_inj.mp q)
      refine lv_aload_n hx hb (oc_42 22 (aq_22 shX12_lorry_0)) rfl (lvA0 hl) ?_
      refine gM_107 S hK hP (v := .ref (g 47)) rfl (oc_180 23 (aq_23 shX12_lorry_0) uw_0_107) ?_
      refine lv_aload_n hx hb (oc_42 26 shX12_lorry_26) rfl (lvA0 hl) ?_
      refine gM_386 S hK hP (v := .int (nI (cn 46))) rfl (oc_180 27 (aq_1 shX12_lorry_26) uw_1_130) ?_
      refine lv_iload_n hx hb (oc_27 30 (aq_4 shX12_lorry_26)) rfl (lvA1 hl) ?_
      have kb_1 : (cn 46) < 3 := by (first | omega | (have zz0 := Hid.u hi_cn; omega))
      refine stM_47 hx hb hK hP hD hS (Fn2 := (va_up Fn 47 (upd (Fn 47) (cn 46) v0))) (vp_in_nI kb_1 (ltb rfl)) (nI_clamp (Nat.lt_trans kb_1 (ltb rfl))) rfl (oc_79 31 (aq_5 shX12_lorry_26)) (fun H locs hP hD hS => ?_)
      refine lv_aload_n hx hb (oc_42 32 (aq_6 shX12_lorry_26)) rfl (lvA0 hl) ?_
      refine lv_aload_n hx hb (oc_42 33 (aq_7 shX12_lorry_26)) rfl (lvA0 hl) ?_
      refine gM_386 S hK hP (v := .int (nI (cn 46))) rfl (oc_180 34 (aq_8 shX12_lorry_26) uw_1_130) ?_
      refine lv_iconst (v := 1) hx hb (oc_4 37 (aq_11 shX12_lorry_26)) kic_1 ?_
      refine lv_iadd hx hb (oc_96 38 (aq_12 shX12_lorry_26)) ?_
      refine lv_topi (fun y_4 ey_4 => ?_)
      obtain rfl : y_4 = (nI ((cn 46) + 1)) := ey_4.trans (nI_add (cn 46) 1)
      refine pM_386 S hK hP hD hS (a := ((cn 46) + 1)) (cn2 := (va_up cn 46 ((cn 46) + 1))) rfl rfl (oc_181 39 (aq_13 shX12_lorry_26) uw_1_130) (fun H locs hP hD hS => ?_)
      refine lv_aload_n hx hb (oc_42 42 (aq_16 shX12_lorry_26)) rfl (lvA0 hl) ?_
      refine gM_386 S hK hP (v := .int (nI ((cn 46) + 1))) rfl (oc_180 43 (aq_17 shX12_lorry_26) uw_1_130) ?_
      refine lv_iconst (v := 1) hx hb (oc_4 46 (aq_20 shX12_lorry_26)) kic_1 ?_
      refine lv_isub hx hb (oc_100 47 (aq_21 shX12_lorry_26)) ?_
      refine lv_topi (fun y_5 ey_5 => ?_)
      obtain rfl : y_5 = (nI (cn 46)) := ey_5.trans (nI_pred _)
      exact W.iret (v := (nI (cn 46))) hx hb hr (fun t ht hW => ⟨⟨(nI (cn 46)), ((va_up cn 46 ((cn 46) + 1)), In, (va_up Fn 47 (upd (Fn 47) (cn 46) v0))), rfl, (Or.inl ⟨(by first | (first | omega | (have zz0 := Hid.u hi_cn; omega)) | (simp only [zd0]; (first | omega | (have zz0 := Hid.u hi_cn; omega)))), rfl, rfl, rfl, by first | rfl | simp only [zd0, zd1] | simp only [zd0]⟩), by rw [ht]; exact hP, hD⟩, hS.F ht⟩) hS.2.2 (oc_172 48 (aq_22 shX12_lorry_26))
    ·
      have tc_3 : ((nI (cn 46)).toInt : Int) = 3 := congrArg Int32.toInt c_3
      refine lv_iconst (v := (-1)) hx hb (oc_2 20 (aq_20 shX12_lorry_0)) kic_m1 ?_
      exact W.iret (v := (-1)) hx hb hr (fun t ht hW => ⟨⟨(-1), (cn, In, Fn), rfl, (Or.inr ⟨(by first | (first | omega | (have zz0 := Hid.u hi_cn; omega)) | (simp only [zd0]; (first | omega | (have zz0 := Hid.u hi_cn; omega)))), rfl, rfl, rfl, rfl⟩), by rw [ht]; exact hP, hD⟩, hS.F ht⟩) hS.2.2 (oc_172 21 (aq_21 shX12_lorry_0))
  ·
    have h_2 : ¬ (20 ≤ v0.toInt ∧ v0.toInt ≤ 2000) := h_2
    refine lv_if_eq (tgt := 20) hx hb (oc_153 9 (aq_9 shX12_lorry_0) sgw_0_11) rfl (fun _ => ?_) (fun h => absurd h cq_eq_0_0)
    refine lv_iconst (v := (-1)) hx hb (oc_2 20 (aq_20 shX12_lorry_0)) kic_m1 ?_
    exact W.iret (v := (-1)) hx hb hr (fun t ht hW => ⟨⟨(-1), (cn, In, Fn), rfl, (Or.inr ⟨(by first | (first | omega | (have zz0 := Hid.u hi_cn; omega)) | (simp only [zd0]; (first | omega | (have zz0 := Hid.u hi_cn; omega)))), rfl, rfl, rfl, rfl⟩), by rw [ht]; exact hP, hD⟩, hS.F ht⟩) hS.2.2 (oc_172 21 (aq_21 shX12_lorry_0))
set_option maxRecDepth 100000 in
set_option maxHeartbeats 4000000 in
theorem q_use (l : Launch) (D : va_G) (cI cB cZ : ClassId) (g : Nat → Nat) (cn : Nat → Nat) (In : Nat → Int32) (Fn : Nat → Nat → Int32) (v0 v1 : Int32) (sz : Nat) (hI : IM cn Fn) : Met l yX12_use (CWS yX12_use cX12_use 3 (some .boolean)) (RM 1 0 0) (PBw [.ref (g 100), .int v0, .int v1] D cI cB cZ (wM cI cB cZ g cn In Fn) sz) (va_Qi (fun (r : Int32) (u : (Nat → Nat) × (Nat → Int32) × (Nat → Nat → Int32)) => (fun r c2 I2 F2 => (((0 ≤ v0.toInt ∧ v0.toInt ≤ 9) ∧ (0 ≤ v1.toInt ∧ v1.toInt ≤ 3)) ∧ r = 1 ∧ c2 = cn ∧ I2 = In ∧ F2 = (va_up Fn 76 (upd (Fn 76) v0.toInt.toNat v1))) ∨ ((¬ ((0 ≤ v0.toInt ∧ v0.toInt ≤ 9) ∧ (0 ≤ v1.toInt ∧ v1.toInt ≤ 3))) ∧ r = 0 ∧ c2 = cn ∧ I2 = In ∧ F2 = Fn)) r u.1 u.2.1 u.2.2) (fun (u : (Nat → Nat) × (Nat → Int32) × (Nat → Nat → Int32)) (t : State) => va_P D vwCl (wM cI cB cZ g u.1 u.2.1 u.2.2) t.heap ∧ va_D (va_A (wM cI cB cZ g cn In Fn) sz) (wM cI cB cZ g u.1 u.2.1 u.2.2)) (va_A (wM cI cB cZ g cn In Fn) sz)) 0 0 (va_A (wM cI cB cZ g cn In Fn) sz) := by
  refine en_w (fun A => (va_Qi (fun (r : Int32) (u : (Nat → Nat) × (Nat → Int32) × (Nat → Nat → Int32)) => (fun (r : Int32) (c2 : Nat → Nat) (I2 : Nat → Int32) (F2 : Nat → Nat → Int32) => (((0 ≤ v0.toInt ∧ v0.toInt ≤ 9) ∧ (0 ≤ v1.toInt ∧ v1.toInt ≤ 3)) ∧ r = 1 ∧ c2 = cn ∧ I2 = In ∧ F2 = (va_up Fn 76 (upd (Fn 76) v0.toInt.toNat v1))) ∨ ((¬ ((0 ≤ v0.toInt ∧ v0.toInt ≤ 9) ∧ (0 ≤ v1.toInt ∧ v1.toInt ≤ 3))) ∧ r = 0 ∧ c2 = cn ∧ I2 = In ∧ F2 = Fn)) r u.1 u.2.1 u.2.2) (fun (u : (Nat → Nat) × (Nat → Int32) × (Nat → Nat → Int32)) (t : State) => va_P D vwCl (wM cI cB cZ g u.1 u.2.1 u.2.2) t.heap ∧ va_D A (wM cI cB cZ g u.1 u.2.1 u.2.2)) A)) rfl rfl pn_RX12 (Nat.le_of_ble_eq_true rfl) (fun p e s m below meth c A hx hb hml hown S hr hlocks hnm hA hP hK hD hS ls hl => ?_)
  have hl : lv_has ls 3 [(0, .ref (g 100)), (1, .int v0), (2, .int v1)] := hl
  have hi_cn : Hid (CB cn) := hI.b
  refine lv_iload_n hx hb (oc_27 0 shX12_use_0) rfl (lvA1 hl) ?_
  refine lv_iconst (v := 0) hx hb (oc_3 1 (aq_1 shX12_use_0)) kic_0 ?_
  refine lv_bipush (v := 9) hx hb (oc_16 2 (aq_2 shX12_use_0) sgb_9) kbc_9 ?_
  refine vp_callSi (runS_r (As := [.int v0, .int 0, .int 9]) (rest := []) S (q_in l D cI cB cZ v0 0 9 ) kS_RX12_214 hK hP [] rfl ⟨Nat.le_of_ble_eq_true rfl, Nat.le_of_ble_eq_true rfl⟩ ⟨Nat.le_of_ble_eq_true rfl, Nat.le_of_ble_eq_true rfl⟩ rfl hl.1 rfl (Nat.le_of_ble_eq_true rfl) (oc_184 4 (aq_4 shX12_use_0) uw_0_214)) (fun r_1 h_2 => ?_)
  rcases h_2 with ⟨rfl, h_2⟩ | ⟨rfl, h_2⟩
  ·
    have h_2 : 0 ≤ v0.toInt ∧ v0.toInt ≤ 9 := h_2
    refine lv_if_eq (tgt := 19) hx hb (oc_153 7 (aq_7 shX12_use_0) sgw_0_12) rfl (fun h => absurd h cq_eq_1_0) (fun _ => ?_)
    obtain ⟨d0, hd0, rfl⟩ := nI_of (x := v0) (fun q => by have := Int32.lt_iff_toInt_lt.mp q; have e : (0 : Int32).toInt = 0 := rfl; (first | omega | (have zz0 := Hid.u hi_cn; omega)))
    have td0 : (nI d0).toInt = (d0 : Int) := nI_toInt hd0
    have zd0 : (nI d0).toInt.toNat = d0 := by (first | omega | (have zz0 := Hid.u hi_cn; omega))
    refine lv_iload_n hx hb (oc_28 10 (aq_10 shX12_use_0)) rfl (lvA2 hl) ?_
    refine lv_iconst (v := 0) hx hb (oc_3 11 (aq_11 shX12_use_0)) kic_0 ?_
    refine lv_iconst (v := 3) hx hb (oc_6 12 (aq_12 shX12_use_0)) kic_3 ?_
    refine vp_callSi (runS_r (As := [.int v1, .int 0, .int 3]) (rest := []) S (q_in l D cI cB cZ v1 0 3 ) kS_RX12_214 hK hP [] rfl ⟨Nat.le_of_ble_eq_true rfl, Nat.le_of_ble_eq_true rfl⟩ ⟨Nat.le_of_ble_eq_true rfl, Nat.le_of_ble_eq_true rfl⟩ rfl hl.1 rfl (Nat.le_of_ble_eq_true rfl) (oc_184 13 (aq_13 shX12_use_0) uw_0_214)) (fun r_3 h_4 => ?_)
    rcases h_4 with ⟨rfl, h_4⟩ | ⟨rfl, h_4⟩
    ·
      have h_4 : 0 ≤ v1.toInt ∧ v1.toInt ≤ 3 := h_4
      refine lv_if_ne (tgt := 21) hx hb (oc_154 16 (aq_16 shX12_use_0) sgw_0_5) rfl (fun _ => ?_) (fun h => absurd h cq_eq_1_0)
      refine lv_aload_n hx hb (oc_42 21 (aq_21 shX12_use_0)) rfl (lvA0 hl) ?_
      refine gM_162 S hK hP (v := .ref (g 76)) rfl (oc_180 22 (aq_22 shX12_use_0) uw_0_162) ?_
      refine lv_iload_n hx hb (oc_27 25 shX12_use_25) rfl (lvA1 hl) ?_
      refine lv_iload_n hx hb (oc_28 26 (aq_1 shX12_use_25)) rfl (lvA2 hl) ?_
      have kb_1 : d0 < 10 := by (first | omega | (have zz0 := Hid.u hi_cn; omega))
      refine stM_76 hx hb hK hP hD hS (Fn2 := (va_up Fn 76 (upd (Fn 76) d0 v1))) (vp_in_nI kb_1 (ltb rfl)) (nI_clamp (Nat.lt_trans kb_1 (ltb rfl))) rfl (oc_79 27 (aq_2 shX12_use_25)) (fun H locs hP hD hS => ?_)
      refine lv_iconst (v := 1) hx hb (oc_4 28 (aq_3 shX12_use_25)) kic_1 ?_
      exact W.zret (v := 1) hx hb hr rfl (fun t ht hW => ⟨⟨1, (cn, In, (va_up Fn 76 (upd (Fn 76) d0 v1))), rfl, (Or.inl ⟨(by first | (first | omega | (have zz0 := Hid.u hi_cn; omega)) | (simp only [zd0]; (first | omega | (have zz0 := Hid.u hi_cn; omega)))), rfl, rfl, rfl, by first | rfl | simp only [zd0, zd1] | simp only [zd0]⟩), by rw [ht]; exact hP, hD⟩, hS.F ht⟩) hS.2.2 (oc_172 29 (aq_4 shX12_use_25))
    ·
      have h_4 : ¬ (0 ≤ v1.toInt ∧ v1.toInt ≤ 3) := h_4
      refine lv_if_ne (tgt := 21) hx hb (oc_154 16 (aq_16 shX12_use_0) sgw_0_5) rfl (fun h => absurd h cq_eq_0_0) (fun _ => ?_)
      refine lv_iconst (v := 0) hx hb (oc_3 19 (aq_19 shX12_use_0)) kic_0 ?_
      exact W.zret (v := 0) hx hb hr rfl (fun t ht hW => ⟨⟨0, (cn, In, Fn), rfl, (Or.inr ⟨(by first | (first | omega | (have zz0 := Hid.u hi_cn; omega)) | (simp only [zd0]; (first | omega | (have zz0 := Hid.u hi_cn; omega)))), rfl, rfl, rfl, rfl⟩), by rw [ht]; exact hP, hD⟩, hS.F ht⟩) hS.2.2 (oc_172 20 (aq_20 shX12_use_0))
  ·
    have h_2 : ¬ (0 ≤ v0.toInt ∧ v0.toInt ≤ 9) := h_2
    refine lv_if_eq (tgt := 19) hx hb (oc_153 7 (aq_7 shX12_use_0) sgw_0_12) rfl (fun _ => ?_) (fun h => absurd h cq_eq_0_0)
    refine lv_iconst (v := 0) hx hb (oc_3 19 (aq_19 shX12_use_0)) kic_0 ?_
    exact W.zret (v := 0) hx hb hr rfl (fun t ht hW => ⟨⟨0, (cn, In, Fn), rfl, (Or.inr ⟨(by first | (first | omega | (have zz0 := Hid.u hi_cn; omega)) | (simp only [zd0]; (first | omega | (have zz0 := Hid.u hi_cn; omega)))), rfl, rfl, rfl, rfl⟩), by rw [ht]; exact hP, hD⟩, hS.F ht⟩) hS.2.2 (oc_172 20 (aq_20 shX12_use_0))
set_option maxRecDepth 100000 in
set_option maxHeartbeats 4000000 in
theorem q_rate (l : Launch) (D : va_G) (cI cB cZ : ClassId) (g : Nat → Nat) (cn : Nat → Nat) (In : Nat → Int32) (Fn : Nat → Nat → Int32) (v0 v1 v2 : Int32) (sz : Nat) (hI : IM cn Fn) : Met l yX12_rate (CWS yX12_rate cX12_rate 4 (some .boolean)) (RM 1 0 0) (PBw [.ref (g 100), .int v0, .int v1, .int v2] D cI cB cZ (wM cI cB cZ g cn In Fn) sz) (va_Qi (fun (r : Int32) (u : (Nat → Nat) × (Nat → Int32) × (Nat → Nat → Int32)) => (fun r c2 I2 F2 => (((0 ≤ v0.toInt ∧ v0.toInt ≤ 3) ∧ (0 ≤ v1.toInt ∧ v1.toInt ≤ 57) ∧ (0 ≤ v2.toInt ∧ v2.toInt ≤ 1000)) ∧ r = 1 ∧ c2 = cn ∧ I2 = In ∧ F2 = (va_up Fn 77 (upd (Fn 77) (58 * v0.toInt.toNat + v1.toInt.toNat) v2))) ∨ ((¬ ((0 ≤ v0.toInt ∧ v0.toInt ≤ 3) ∧ (0 ≤ v1.toInt ∧ v1.toInt ≤ 57) ∧ (0 ≤ v2.toInt ∧ v2.toInt ≤ 1000))) ∧ r = 0 ∧ c2 = cn ∧ I2 = In ∧ F2 = Fn)) r u.1 u.2.1 u.2.2) (fun (u : (Nat → Nat) × (Nat → Int32) × (Nat → Nat → Int32)) (t : State) => va_P D vwCl (wM cI cB cZ g u.1 u.2.1 u.2.2) t.heap ∧ va_D (va_A (wM cI cB cZ g cn In Fn) sz) (wM cI cB cZ g u.1 u.2.1 u.2.2)) (va_A (wM cI cB cZ g cn In Fn) sz)) 0 0 (va_A (wM cI cB cZ g cn In Fn) sz) := by
  refine en_w (fun A => (va_Qi (fun (r : Int32) (u : (Nat → Nat) × (Nat → Int32) × (Nat → Nat → Int32)) => (fun (r : Int32) (c2 : Nat → Nat) (I2 : Nat → Int32) (F2 : Nat → Nat → Int32) => (((0 ≤ v0.toInt ∧ v0.toInt ≤ 3) ∧ (0 ≤ v1.toInt ∧ v1.toInt ≤ 57) ∧ (0 ≤ v2.toInt ∧ v2.toInt ≤ 1000)) ∧ r = 1 ∧ c2 = cn ∧ I2 = In ∧ F2 = (va_up Fn 77 (upd (Fn 77) (58 * v0.toInt.toNat + v1.toInt.toNat) v2))) ∨ ((¬ ((0 ≤ v0.toInt ∧ v0.toInt ≤ 3) ∧ (0 ≤ v1.toInt ∧ v1.toInt ≤ 57) ∧ (0 ≤ v2.toInt ∧ v2.toInt ≤ 1000))) ∧ r = 0 ∧ c2 = cn ∧ I2 = In ∧ F2 = Fn)) r u.1 u.2.1 u.2.2) (fun (u : (Nat → Nat) × (Nat → Int32) × (Nat → Nat → Int32)) (t : State) => va_P D vwCl (wM cI cB cZ g u.1 u.2.1 u.2.2) t.heap ∧ va_D A (wM cI cB cZ g u.1 u.2.1 u.2.2)) A)) rfl rfl pn_RX12 (Nat.le_of_ble_eq_true rfl) (fun p e s m below meth c A hx hb hml hown S hr hlocks hnm hA hP hK hD hS ls hl => ?_)
  have hl : lv_has ls 4 [(0, .ref (g 100)), (1, .int v0), (2, .int v1), (3, .int v2)] := hl
  have hi_cn : Hid (CB cn) := hI.b
  refine lv_iload_n hx hb (oc_27 0 shX12_rate_0) rfl (lvA1 hl) ?_
  refine lv_iconst (v := 0) hx hb (oc_3 1 (aq_1 shX12_rate_0)) kic_0 ?_
  refine lv_iconst (v := 3) hx hb (oc_6 2 (aq_2 shX12_rate_0)) kic_3 ?_
  refine vp_callSi (runS_r (As := [.int v0, .int 0, .int 3]) (rest := []) S (q_in l D cI cB cZ v0 0 3 ) kS_RX12_214 hK hP [] rfl ⟨Nat.le_of_ble_eq_true rfl, Nat.le_of_ble_eq_true rfl⟩ ⟨Nat.le_of_ble_eq_true rfl, Nat.le_of_ble_eq_true rfl⟩ rfl hl.1 rfl (Nat.le_of_ble_eq_true rfl) (oc_184 3 (aq_3 shX12_rate_0) uw_0_214)) (fun r_1 h_2 => ?_)
  rcases h_2 with ⟨rfl, h_2⟩ | ⟨rfl, h_2⟩
  ·
    have h_2 : 0 ≤ v0.toInt ∧ v0.toInt ≤ 3 := h_2
    refine lv_if_eq (tgt := 30) hx hb (oc_153 6 (aq_6 shX12_rate_0) sgw_0_24) rfl (fun h => absurd h cq_eq_1_0) (fun _ => ?_)
    obtain ⟨d0, hd0, rfl⟩ := nI_of (x := v0) (fun q => by have := Int32.lt_iff_toInt_lt.mp q; have e : (0 : Int32).toInt = 0 := rfl; (first | omega | (have zz0 := Hid.u hi_cn; omega)))
    have td0 : (nI d0).toInt = (d0 : Int) := nI_toInt hd0
    have zd0 : (nI d0).toInt.toNat = d0 := by (first | omega | (have zz0 := Hid.u hi_cn; omega))
    refine lv_iload_n hx hb (oc_28 9 (aq_9 shX12_rate_0)) rfl (lvA2 hl) ?_
    refine lv_iconst (v := 0) hx hb (oc_3 10 (aq_10 shX12_rate_0)) kic_0 ?_
    refine lv_bipush (v := 57) hx hb (oc_16 11 (aq_11 shX12_rate_0) sgb_57) kbc_57 ?_
    refine vp_callSi (runS_r (As := [.int v1, .int 0, .int 57]) (rest := []) S (q_in l D cI cB cZ v1 0 57 ) kS_RX12_214 hK hP [] rfl ⟨Nat.le_of_ble_eq_true rfl, Nat.le_of_ble_eq_true rfl⟩ ⟨Nat.le_of_ble_eq_true rfl, Nat.le_of_ble_eq_true rfl⟩ rfl hl.1 rfl (Nat.le_of_ble_eq_true rfl) (oc_184 13 (aq_13 shX12_rate_0) uw_0_214)) (fun r_3 h_4 => ?_)
    rcases h_4 with ⟨rfl, h_4⟩ | ⟨rfl, h_4⟩
    ·
      have h_4 : 0 ≤ v1.toInt ∧ v1.toInt ≤ 57 := h_4
      refine lv_if_eq (tgt := 30) hx hb (oc_153 16 (aq_16 shX12_rate_0) sgw_0_14) rfl (fun h => absurd h cq_eq_1_0) (fun _ => ?_)
      obtain ⟨d1, hd1, rfl⟩ := nI_of (x := v1) (fun q => by have := Int32.lt_iff_toInt_lt.mp q; have e : (0 : Int32).toInt = 0 := rfl; (first | omega | (have zz0 := Hid.u hi_cn; omega)))
      have td1 : (nI d1).toInt = (d1 : Int) := nI_toInt hd1
      have zd1 : (nI d1).toInt.toNat = d1 := by (first | omega | (have zz0 := Hid.u hi_cn; omega))
      refine lv_iload_n hx hb (oc_29 19 (aq_19 shX12_rate_0)) rfl (lvA3 hl) ?_
      refine lv_iconst (v := 0) hx hb (oc_3 20 (aq_20 shX12_rate_0)) kic_0 ?_
      refine lv_sipush (v := 1000) hx hb (oc_17 21 (aq_21 shX12_rate_0) sgw_3_232) (by decide) ?_
      refine vp_callSi (runS_r (As := [.int v2, .int 0, .int 1000]) (rest := []) S (q_in l D cI cB cZ v2 0 1000 ) kS_RX12_214 hK hP [] rfl ⟨Nat.le_of_ble_eq_true rfl, Nat.le_of_ble_eq_true rfl⟩ ⟨Nat.le_of_ble_eq_true rfl, Nat.le_of_ble_eq_true rfl⟩ rfl hl.1 rfl (Nat.le_of_ble_eq_true rfl) (oc_184 24 shX12_rate_24 uw_0_214)) (fun r_5 h_6 => ?_)
      rcases h_6 with ⟨rfl, h_6⟩ | ⟨rfl, h_6⟩
      ·
        have h_6 : 0 ≤ v2.toInt ∧ v2.toInt ≤ 1000 := h_6
        refine lv_if_ne (tgt := 32) hx hb (oc_154 27 (aq_3 shX12_rate_24) sgw_0_5) rfl (fun _ => ?_) (fun h => absurd h cq_eq_1_0)
        refine lv_aload_n hx hb (oc_42 32 (aq_8 shX12_rate_24)) rfl (lvA0 hl) ?_
        refine gM_165 S hK hP (v := .ref (g 77)) rfl (oc_180 33 (aq_9 shX12_rate_24) uw_0_165) ?_
        refine lv_bipush (v := 58) hx hb (oc_16 36 (aq_12 shX12_rate_24) sgb_58) kbc_58 ?_
        refine lv_iload_n hx hb (oc_27 38 (aq_14 shX12_rate_24)) rfl (lvA1 hl) ?_
        refine lv_imul hx hb (oc_104 39 (aq_15 shX12_rate_24)) ?_
        refine lv_topi (fun y_7 ey_7 => ?_)
        obtain rfl : y_7 = (nI (58 * d0)) := ey_7.trans (pk_mul 58 d0)
        refine lv_iload_n hx hb (oc_28 40 (aq_16 shX12_rate_24)) rfl (lvA2 hl) ?_
        refine lv_iadd hx hb (oc_96 41 (aq_17 shX12_rate_24)) ?_
        refine lv_topi (fun y_8 ey_8 => ?_)
        obtain rfl : y_8 = (nI ((58 * d0) + d1)) := ey_8.trans (nI_add (58 * d0) d1)
        refine lv_iload_n hx hb (oc_29 42 (aq_18 shX12_rate_24)) rfl (lvA3 hl) ?_
        have kb_1 : ((58 * d0) + d1) < 232 := by (first | omega | (have zz0 := Hid.u hi_cn; omega))
        refine stM_77 hx hb hK hP hD hS (Fn2 := (va_up Fn 77 (upd (Fn 77) ((58 * d0) + d1) v2))) (vp_in_nI kb_1 (ltb rfl)) (nI_clamp (Nat.lt_trans kb_1 (ltb rfl))) rfl (oc_79 43 (aq_19 shX12_rate_24)) (fun H locs hP hD hS => ?_)
        refine lv_iconst (v := 1) hx hb (oc_4 44 (aq_20 shX12_rate_24)) kic_1 ?_
        exact W.zret (v := 1) hx hb hr rfl (fun t ht hW => ⟨⟨1, (cn, In, (va_up Fn 77 (upd (Fn 77) ((58 * d0) + d1) v2))), rfl, (Or.inl ⟨(by first | (first | omega | (have zz0 := Hid.u hi_cn; omega)) | (simp only [zd0]; (first | omega | (have zz0 := Hid.u hi_cn; omega)))), rfl, rfl, rfl, by first | rfl | simp only [zd0, zd1] | simp only [zd0]⟩), by rw [ht]; exact hP, hD⟩, hS.F ht⟩) hS.2.2 (oc_172 45 (aq_21 shX12_rate_24))
      ·
        have h_6 : ¬ (0 ≤ v2.toInt ∧ v2.toInt ≤ 1000) := h_6
        refine lv_if_ne (tgt := 32) hx hb (oc_154 27 (aq_3 shX12_rate_24) sgw_0_5) rfl (fun h => absurd h cq_eq_0_0) (fun _ => ?_)
        refine lv_iconst (v := 0) hx hb (oc_3 30 (aq_6 shX12_rate_24)) kic_0 ?_
        exact W.zret (v := 0) hx hb hr rfl (fun t ht hW => ⟨⟨0, (cn, In, Fn), rfl, (Or.inr ⟨(by first | (first | omega | (have zz0 := Hid.u hi_cn; omega)) | (simp only [zd0]; (first | omega | (have zz0 := Hid.u hi_cn; omega)))), rfl, rfl, rfl, rfl⟩), by rw [ht]; exact hP, hD⟩, hS.F ht⟩) hS.2.2 (oc_172 31 (aq_7 shX12_rate_24))
    ·
      have h_4 : ¬ (0 ≤ v1.toInt ∧ v1.toInt ≤ 57) := h_4
      refine lv_if_eq (tgt := 30) hx hb (oc_153 16 (aq_16 shX12_rate_0) sgw_0_14) rfl (fun _ => ?_) (fun h => absurd h cq_eq_0_0)
      refine lv_iconst (v := 0) hx hb (oc_3 30 (aq_6 shX12_rate_24)) kic_0 ?_
      exact W.zret (v := 0) hx hb hr rfl (fun t ht hW => ⟨⟨0, (cn, In, Fn), rfl, (Or.inr ⟨(by first | (first | omega | (have zz0 := Hid.u hi_cn; omega)) | (simp only [zd0]; (first | omega | (have zz0 := Hid.u hi_cn; omega)))), rfl, rfl, rfl, rfl⟩), by rw [ht]; exact hP, hD⟩, hS.F ht⟩) hS.2.2 (oc_172 31 (aq_7 shX12_rate_24))
  ·
    have h_2 : ¬ (0 ≤ v0.toInt ∧ v0.toInt ≤ 3) := h_2
    refine lv_if_eq (tgt := 30) hx hb (oc_153 6 (aq_6 shX12_rate_0) sgw_0_24) rfl (fun _ => ?_) (fun h => absurd h cq_eq_0_0)
    refine lv_iconst (v := 0) hx hb (oc_3 30 (aq_6 shX12_rate_24)) kic_0 ?_
    exact W.zret (v := 0) hx hb hr rfl (fun t ht hW => ⟨⟨0, (cn, In, Fn), rfl, (Or.inr ⟨(by first | (first | omega | (have zz0 := Hid.u hi_cn; omega)) | (simp only [zd0]; (first | omega | (have zz0 := Hid.u hi_cn; omega)))), rfl, rfl, rfl, rfl⟩), by rw [ht]; exact hP, hD⟩, hS.F ht⟩) hS.2.2 (oc_172 31 (aq_7 shX12_rate_24))
set_option maxRecDepth 100000 in
set_option maxHeartbeats 4000000 in
theorem q_most (l : Launch) (D : va_G) (cI cB cZ : ClassId) (g : Nat → Nat) (cn : Nat → Nat) (In : Nat → Int32) (Fn : Nat → Nat → Int32) (v0 v1 : Int32) (sz : Nat) (hI : IM cn Fn) : Met l yX12_most (CWS yX12_most cX12_most 3 (some .boolean)) (RM 1 0 0) (PBw [.ref (g 100), .int v0, .int v1] D cI cB cZ (wM cI cB cZ g cn In Fn) sz) (va_Qi (fun (r : Int32) (u : (Nat → Nat) × (Nat → Int32) × (Nat → Nat → Int32)) => (fun r c2 I2 F2 => (((0 ≤ v0.toInt ∧ v0.toInt ≤ 9) ∧ (0 ≤ v1.toInt ∧ v1.toInt ≤ 100000)) ∧ r = 1 ∧ c2 = cn ∧ I2 = In ∧ F2 = (va_up Fn 78 (upd (Fn 78) v0.toInt.toNat v1))) ∨ ((¬ ((0 ≤ v0.toInt ∧ v0.toInt ≤ 9) ∧ (0 ≤ v1.toInt ∧ v1.toInt ≤ 100000))) ∧ r = 0 ∧ c2 = cn ∧ I2 = In ∧ F2 = Fn)) r u.1 u.2.1 u.2.2) (fun (u : (Nat → Nat) × (Nat → Int32) × (Nat → Nat → Int32)) (t : State) => va_P D vwCl (wM cI cB cZ g u.1 u.2.1 u.2.2) t.heap ∧ va_D (va_A (wM cI cB cZ g cn In Fn) sz) (wM cI cB cZ g u.1 u.2.1 u.2.2)) (va_A (wM cI cB cZ g cn In Fn) sz)) 0 0 (va_A (wM cI cB cZ g cn In Fn) sz) := by
  refine en_w (fun A => (va_Qi (fun (r : Int32) (u : (Nat → Nat) × (Nat → Int32) × (Nat → Nat → Int32)) => (fun (r : Int32) (c2 : Nat → Nat) (I2 : Nat → Int32) (F2 : Nat → Nat → Int32) => (((0 ≤ v0.toInt ∧ v0.toInt ≤ 9) ∧ (0 ≤ v1.toInt ∧ v1.toInt ≤ 100000)) ∧ r = 1 ∧ c2 = cn ∧ I2 = In ∧ F2 = (va_up Fn 78 (upd (Fn 78) v0.toInt.toNat v1))) ∨ ((¬ ((0 ≤ v0.toInt ∧ v0.toInt ≤ 9) ∧ (0 ≤ v1.toInt ∧ v1.toInt ≤ 100000))) ∧ r = 0 ∧ c2 = cn ∧ I2 = In ∧ F2 = Fn)) r u.1 u.2.1 u.2.2) (fun (u : (Nat → Nat) × (Nat → Int32) × (Nat → Nat → Int32)) (t : State) => va_P D vwCl (wM cI cB cZ g u.1 u.2.1 u.2.2) t.heap ∧ va_D A (wM cI cB cZ g u.1 u.2.1 u.2.2)) A)) rfl rfl pn_RX12 (Nat.le_of_ble_eq_true rfl) (fun p e s m below meth c A hx hb hml hown S hr hlocks hnm hA hP hK hD hS ls hl => ?_)
  have hl : lv_has ls 3 [(0, .ref (g 100)), (1, .int v0), (2, .int v1)] := hl
  have hi_cn : Hid (CB cn) := hI.b
  refine lv_iload_n hx hb (oc_27 0 shX12_most_0) rfl (lvA1 hl) ?_
  refine lv_iconst (v := 0) hx hb (oc_3 1 (aq_1 shX12_most_0)) kic_0 ?_
  refine lv_bipush (v := 9) hx hb (oc_16 2 (aq_2 shX12_most_0) sgb_9) kbc_9 ?_
  refine vp_callSi (runS_r (As := [.int v0, .int 0, .int 9]) (rest := []) S (q_in l D cI cB cZ v0 0 9 ) kS_RX12_214 hK hP [] rfl ⟨Nat.le_of_ble_eq_true rfl, Nat.le_of_ble_eq_true rfl⟩ ⟨Nat.le_of_ble_eq_true rfl, Nat.le_of_ble_eq_true rfl⟩ rfl hl.1 rfl (Nat.le_of_ble_eq_true rfl) (oc_184 4 (aq_4 shX12_most_0) uw_0_214)) (fun r_1 h_2 => ?_)
  rcases h_2 with ⟨rfl, h_2⟩ | ⟨rfl, h_2⟩
  ·
    have h_2 : 0 ≤ v0.toInt ∧ v0.toInt ≤ 9 := h_2
    refine lv_if_eq (tgt := 21) hx hb (oc_153 7 (aq_7 shX12_most_0) sgw_0_14) rfl (fun h => absurd h cq_eq_1_0) (fun _ => ?_)
    obtain ⟨d0, hd0, rfl⟩ := nI_of (x := v0) (fun q => by have := Int32.lt_iff_toInt_lt.mp q; have e : (0 : Int32).toInt = 0 := rfl; (first | omega | (have zz0 := Hid.u hi_cn; omega)))
    have td0 : (nI d0).toInt = (d0 : Int) := nI_toInt hd0
    have zd0 : (nI d0).toInt.toNat = d0 := by (first | omega | (have zz0 := Hid.u hi_cn; omega))
    refine lv_iload_n hx hb (oc_28 10 (aq_10 shX12_most_0)) rfl (lvA2 hl) ?_
    refine lv_iconst (v := 0) hx hb (oc_3 11 (aq_11 shX12_most_0)) kic_0 ?_
    refine lv_ldcw (v := 100000) hx hb hown (S.2.2.2.2 _ (wk8_4 9 rfl rfl)) (oc_19 12 (aq_12 shX12_most_0) uw_1_78) ?_
    refine vp_callSi (runS_r (As := [.int v1, .int 0, .int 100000]) (rest := []) S (q_in l D cI cB cZ v1 0 100000 ) kS_RX12_214 hK hP [] rfl ⟨Nat.le_of_ble_eq_true rfl, Nat.le_of_ble_eq_true rfl⟩ ⟨Nat.le_of_ble_eq_true rfl, Nat.le_of_ble_eq_true rfl⟩ rfl hl.1 rfl (Nat.le_of_ble_eq_true rfl) (oc_184 15 (aq_15 shX12_most_0) uw_0_214)) (fun r_3 h_4 => ?_)
    rcases h_4 with ⟨rfl, h_4⟩ | ⟨rfl, h_4⟩
    ·
      have h_4 : 0 ≤ v1.toInt ∧ v1.toInt ≤ 100000 := h_4
      refine lv_if_ne (tgt := 23) hx hb (oc_154 18 (aq_18 shX12_most_0) sgw_0_5) rfl (fun _ => ?_) (fun h => absurd h cq_eq_1_0)
      refine lv_aload_n hx hb (oc_42 23 (aq_23 shX12_most_0)) rfl (lvA0 hl) ?_
      refine gM_168 S hK hP (v := .ref (g 78)) rfl (oc_180 24 shX12_most_24 uw_0_168) ?_
      refine lv_iload_n hx hb (oc_27 27 (aq_3 shX12_most_24)) rfl (lvA1 hl) ?_
      refine lv_iload_n hx hb (oc_28 28 (aq_4 shX12_most_24)) rfl (lvA2 hl) ?_
      have kb_1 : d0 < 10 := by (first | omega | (have zz0 := Hid.u hi_cn; omega))
      refine stM_78 hx hb hK hP hD hS (Fn2 := (va_up Fn 78 (upd (Fn 78) d0 v1))) (vp_in_nI kb_1 (ltb rfl)) (nI_clamp (Nat.lt_trans kb_1 (ltb rfl))) rfl (oc_79 29 (aq_5 shX12_most_24)) (fun H locs hP hD hS => ?_)
      refine lv_iconst (v := 1) hx hb (oc_4 30 (aq_6 shX12_most_24)) kic_1 ?_
      exact W.zret (v := 1) hx hb hr rfl (fun t ht hW => ⟨⟨1, (cn, In, (va_up Fn 78 (upd (Fn 78) d0 v1))), rfl, (Or.inl ⟨(by first | (first | omega | (have zz0 := Hid.u hi_cn; omega)) | (simp only [zd0]; (first | omega | (have zz0 := Hid.u hi_cn; omega)))), rfl, rfl, rfl, by first | rfl | simp only [zd0, zd1] | simp only [zd0]⟩), by rw [ht]; exact hP, hD⟩, hS.F ht⟩) hS.2.2 (oc_172 31 (aq_7 shX12_most_24))
    ·
      have h_4 : ¬ (0 ≤ v1.toInt ∧ v1.toInt ≤ 100000) := h_4
      refine lv_if_ne (tgt := 23) hx hb (oc_154 18 (aq_18 shX12_most_0) sgw_0_5) rfl (fun h => absurd h cq_eq_0_0) (fun _ => ?_)
      refine lv_iconst (v := 0) hx hb (oc_3 21 (aq_21 shX12_most_0)) kic_0 ?_
      exact W.zret (v := 0) hx hb hr rfl (fun t ht hW => ⟨⟨0, (cn, In, Fn), rfl, (Or.inr ⟨(by first | (first | omega | (have zz0 := Hid.u hi_cn; omega)) | (simp only [zd0]; (first | omega | (have zz0 := Hid.u hi_cn; omega)))), rfl, rfl, rfl, rfl⟩), by rw [ht]; exact hP, hD⟩, hS.F ht⟩) hS.2.2 (oc_172 22 (aq_22 shX12_most_0))
  ·
    have h_2 : ¬ (0 ≤ v0.toInt ∧ v0.toInt ≤ 9) := h_2
    refine lv_if_eq (tgt := 21) hx hb (oc_153 7 (aq_7 shX12_most_0) sgw_0_14) rfl (fun _ => ?_) (fun h => absurd h cq_eq_0_0)
    refine lv_iconst (v := 0) hx hb (oc_3 21 (aq_21 shX12_most_0)) kic_0 ?_
    exact W.zret (v := 0) hx hb hr rfl (fun t ht hW => ⟨⟨0, (cn, In, Fn), rfl, (Or.inr ⟨(by first | (first | omega | (have zz0 := Hid.u hi_cn; omega)) | (simp only [zd0]; (first | omega | (have zz0 := Hid.u hi_cn; omega)))), rfl, rfl, rfl, rfl⟩), by rw [ht]; exact hP, hD⟩, hS.F ht⟩) hS.2.2 (oc_172 22 (aq_22 shX12_most_0))
set_option maxRecDepth 100000 in
set_option maxHeartbeats 4000000 in
theorem q_offers (l : Launch) (D : va_G) (cI cB cZ : ClassId) (g : Nat → Nat) (cn : Nat → Nat) (In : Nat → Int32) (Fn : Nat → Nat → Int32) (v0 v1 v2 : Int32) (sz : Nat) (hI : IM cn Fn) : Met l yX12_offers (CWS yX12_offers cX12_offers 4 (some .boolean)) (RM 1 0 0) (PBw [.ref (g 100), .int v0, .int v1, .int v2] D cI cB cZ (wM cI cB cZ g cn In Fn) sz) (va_Qi (fun (r : Int32) (u : (Nat → Nat) × (Nat → Int32) × (Nat → Nat → Int32)) => (fun r c2 I2 F2 => (((0 ≤ v0.toInt ∧ v0.toInt < (cn 1 : Int)) ∧ (0 ≤ v1.toInt ∧ v1.toInt ≤ 200) ∧ (0 ≤ v2.toInt ∧ v2.toInt ≤ 200)) ∧ r = 1 ∧ c2 = cn ∧ I2 = In ∧ F2 = (va_up (va_up Fn 84 (upd (Fn 84) v0.toInt.toNat v1)) 85 (upd (Fn 85) v0.toInt.toNat v2))) ∨ ((¬ ((0 ≤ v0.toInt ∧ v0.toInt < (cn 1 : Int)) ∧ (0 ≤ v1.toInt ∧ v1.toInt ≤ 200) ∧ (0 ≤ v2.toInt ∧ v2.toInt ≤ 200))) ∧ r = 0 ∧ c2 = cn ∧ I2 = In ∧ F2 = Fn)) r u.1 u.2.1 u.2.2) (fun (u : (Nat → Nat) × (Nat → Int32) × (Nat → Nat → Int32)) (t : State) => va_P D vwCl (wM cI cB cZ g u.1 u.2.1 u.2.2) t.heap ∧ va_D (va_A (wM cI cB cZ g cn In Fn) sz) (wM cI cB cZ g u.1 u.2.1 u.2.2)) (va_A (wM cI cB cZ g cn In Fn) sz)) 0 0 (va_A (wM cI cB cZ g cn In Fn) sz) := by
  refine en_w (fun A => (va_Qi (fun (r : Int32) (u : (Nat → Nat) × (Nat → Int32) × (Nat → Nat → Int32)) => (fun (r : Int32) (c2 : Nat → Nat) (I2 : Nat → Int32) (F2 : Nat → Nat → Int32) => (((0 ≤ v0.toInt ∧ v0.toInt < (cn 1 : Int)) ∧ (0 ≤ v1.toInt ∧ v1.toInt ≤ 200) ∧ (0 ≤ v2.toInt ∧ v2.toInt ≤ 200)) ∧ r = 1 ∧ c2 = cn ∧ I2 = In ∧ F2 = (va_up (va_up Fn 84 (upd (Fn 84) v0.toInt.toNat v1)) 85 (upd (Fn 85) v0.toInt.toNat v2))) ∨ ((¬ ((0 ≤ v0.toInt ∧ v0.toInt < (cn 1 : Int)) ∧ (0 ≤ v1.toInt ∧ v1.toInt ≤ 200) ∧ (0 ≤ v2.toInt ∧ v2.toInt ≤ 200))) ∧ r = 0 ∧ c2 = cn ∧ I2 = In ∧ F2 = Fn)) r u.1 u.2.1 u.2.2) (fun (u : (Nat → Nat) × (Nat → Int32) × (Nat → Nat → Int32)) (t : State) => va_P D vwCl (wM cI cB cZ g u.1 u.2.1 u.2.2) t.heap ∧ va_D A (wM cI cB cZ g u.1 u.2.1 u.2.2)) A)) rfl rfl pn_RX12 (Nat.le_of_ble_eq_true rfl) (fun p e s m below meth c A hx hb hml hown S hr hlocks hnm hA hP hK hD hS ls hl => ?_)
  have hl : lv_has ls 4 [(0, .ref (g 100)), (1, .int v0), (2, .int v1), (3, .int v2)] := hl
  have hi_cn : Hid (CB cn) := hI.b
  refine lv_aload_n hx hb (oc_42 0 shX12_offers_0) rfl (lvA0 hl) ?_
  refine lv_iload_n hx hb (oc_27 1 (aq_1 shX12_offers_0)) rfl (lvA1 hl) ?_
  refine vp_callSi (runV_ra (As := [.int v0]) (rest := []) S (q_isKitchen l D cI cB cZ g cn In Fn v0 hI) kV_RX12_218 hK hP 0 rfl rfl rfl ⟨Nat.le_of_ble_eq_true rfl, Nat.le_of_ble_eq_true rfl⟩ ⟨Nat.le_of_ble_eq_true rfl, Nat.le_of_ble_eq_true rfl⟩ rfl hl.1 rfl (Nat.le_of_ble_eq_true rfl) (oc_182 2 (aq_2 shX12_offers_0) uw_0_218)) (fun r_1 h_2 => ?_)
  rcases h_2 with ⟨rfl, h_2⟩ | ⟨rfl, h_2⟩
  ·
    have h_2 : 0 ≤ v0.toInt ∧ v0.toInt < ((cn 1) : Int) := h_2
    refine lv_if_eq (tgt := 30) hx hb (oc_153 5 (aq_5 shX12_offers_0) sgw_0_25) rfl (fun h => absurd h cq_eq_1_0) (fun _ => ?_)
    obtain ⟨d0, hd0, rfl⟩ := nI_of (x := v0) (fun q => by have := Int32.lt_iff_toInt_lt.mp q; have e : (0 : Int32).toInt = 0 := rfl; (first | omega | (have zz0 := Hid.u hi_cn; omega)))
    have td0 : (nI d0).toInt = (d0 : Int) := nI_toInt hd0
    have zd0 : (nI d0).toInt.toNat = d0 := by (first | omega | (have zz0 := Hid.u hi_cn; omega))
    refine lv_iload_n hx hb (oc_28 8 (aq_8 shX12_offers_0)) rfl (lvA2 hl) ?_
    refine lv_iconst (v := 0) hx hb (oc_3 9 (aq_9 shX12_offers_0)) kic_0 ?_
    refine lv_sipush (v := 200) hx hb (oc_17 10 (aq_10 shX12_offers_0) sgw_0_200) (by decide) ?_
    refine vp_callSi (runS_r (As := [.int v1, .int 0, .int 200]) (rest := []) S (q_in l D cI cB cZ v1 0 200 ) kS_RX12_214 hK hP [] rfl ⟨Nat.le_of_ble_eq_true rfl, Nat.le_of_ble_eq_true rfl⟩ ⟨Nat.le_of_ble_eq_true rfl, Nat.le_of_ble_eq_true rfl⟩ rfl hl.1 rfl (Nat.le_of_ble_eq_true rfl) (oc_184 13 (aq_13 shX12_offers_0) uw_0_214)) (fun r_3 h_4 => ?_)
    rcases h_4 with ⟨rfl, h_4⟩ | ⟨rfl, h_4⟩
    ·
      have h_4 : 0 ≤ v1.toInt ∧ v1.toInt ≤ 200 := h_4
      refine lv_if_eq (tgt := 30) hx hb (oc_153 16 (aq_16 shX12_offers_0) sgw_0_14) rfl (fun h => absurd h cq_eq_1_0) (fun _ => ?_)
      refine lv_iload_n hx hb (oc_29 19 (aq_19 shX12_offers_0)) rfl (lvA3 hl) ?_
      refine lv_iconst (v := 0) hx hb (oc_3 20 (aq_20 shX12_offers_0)) kic_0 ?_
      refine lv_sipush (v := 200) hx hb (oc_17 21 (aq_21 shX12_offers_0) sgw_0_200) (by decide) ?_
      refine vp_callSi (runS_r (As := [.int v2, .int 0, .int 200]) (rest := []) S (q_in l D cI cB cZ v2 0 200 ) kS_RX12_214 hK hP [] rfl ⟨Nat.le_of_ble_eq_true rfl, Nat.le_of_ble_eq_true rfl⟩ ⟨Nat.le_of_ble_eq_true rfl, Nat.le_of_ble_eq_true rfl⟩ rfl hl.1 rfl (Nat.le_of_ble_eq_true rfl) (oc_184 24 shX12_offers_24 uw_0_214)) (fun r_5 h_6 => ?_)
      rcases h_6 with ⟨rfl, h_6⟩ | ⟨rfl, h_6⟩
      ·
        have h_6 : 0 ≤ v2.toInt ∧ v2.toInt ≤ 200 := h_6
        refine lv_if_ne (tgt := 32) hx hb (oc_154 27 (aq_3 shX12_offers_24) sgw_0_5) rfl (fun _ => ?_) (fun h => absurd h cq_eq_1_0)
        refine lv_aload_n hx hb (oc_42 32 (aq_8 shX12_offers_24)) rfl (lvA0 hl) ?_
        refine gM_183 S hK hP (v := .ref (g 84)) rfl (oc_180 33 (aq_9 shX12_offers_24) uw_0_183) ?_
        refine lv_iload_n hx hb (oc_27 36 (aq_12 shX12_offers_24)) rfl (lvA1 hl) ?_
        refine lv_iload_n hx hb (oc_28 37 (aq_13 shX12_offers_24)) rfl (lvA2 hl) ?_
        have kb_1 : d0 < 10 := by (first | omega | (have zz0 := Hid.u hi_cn; omega))
        refine stM_84 hx hb hK hP hD hS (Fn2 := (va_up Fn 84 (upd (Fn 84) d0 v1))) (vp_in_nI kb_1 (ltb rfl)) (nI_clamp (Nat.lt_trans kb_1 (ltb rfl))) rfl (oc_79 38 (aq_14 shX12_offers_24)) (fun H locs hP hD hS => ?_)
        refine lv_aload_n hx hb (oc_42 39 (aq_15 shX12_offers_24)) rfl (lvA0 hl) ?_
        refine gM_186 S hK hP (v := .ref (g 85)) rfl (oc_180 40 (aq_16 shX12_offers_24) uw_0_186) ?_
        refine lv_iload_n hx hb (oc_27 43 (aq_19 shX12_offers_24)) rfl (lvA1 hl) ?_
        refine lv_iload_n hx hb (oc_29 44 (aq_20 shX12_offers_24)) rfl (lvA3 hl) ?_
        refine stM_85 hx hb hK hP hD hS (Fn2 := (va_up (va_up Fn 84 (upd (Fn 84) d0 v1)) 85 (upd (Fn 85) d0 v2))) (vp_in_nI kb_1 (ltb rfl)) (nI_clamp (Nat.lt_trans kb_1 (ltb rfl))) rfl (oc_79 45 (aq_21 shX12_offers_24)) (fun H locs hP hD hS => ?_)
        refine lv_iconst (v := 1) hx hb (oc_4 46 (aq_22 shX12_offers_24)) kic_1 ?_
        exact W.zret (v := 1) hx hb hr rfl (fun t ht hW => ⟨⟨1, (cn, In, (va_up (va_up Fn 84 (upd (Fn 84) d0 v1)) 85 (upd (Fn 85) d0 v2))), rfl, (Or.inl ⟨(by first | (first | omega | (have zz0 := Hid.u hi_cn; omega)) | (simp only [zd0]; (first | omega | (have zz0 := Hid.u hi_cn; omega)))), rfl, rfl, rfl, by first | rfl | simp only [zd0, zd1] | simp only [zd0]⟩), by rw [ht]; exact hP, hD⟩, hS.F ht⟩) hS.2.2 (oc_172 47 (aq_23 shX12_offers_24))
      ·
        have h_6 : ¬ (0 ≤ v2.toInt ∧ v2.toInt ≤ 200) := h_6
        refine lv_if_ne (tgt := 32) hx hb (oc_154 27 (aq_3 shX12_offers_24) sgw_0_5) rfl (fun h => absurd h cq_eq_0_0) (fun _ => ?_)
        refine lv_iconst (v := 0) hx hb (oc_3 30 (aq_6 shX12_offers_24)) kic_0 ?_
        exact W.zret (v := 0) hx hb hr rfl (fun t ht hW => ⟨⟨0, (cn, In, Fn), rfl, (Or.inr ⟨(by first | (first | omega | (have zz0 := Hid.u hi_cn; omega)) | (simp only [zd0]; (first | omega | (have zz0 := Hid.u hi_cn; omega)))), rfl, rfl, rfl, rfl⟩), by rw [ht]; exact hP, hD⟩, hS.F ht⟩) hS.2.2 (oc_172 31 (aq_7 shX12_offers_24))
    ·
      have h_4 : ¬ (0 ≤ v1.toInt ∧ v1.toInt ≤ 200) := h_4
      refine lv_if_eq (tgt := 30) hx hb (oc_153 16 (aq_16 shX12_offers_0) sgw_0_14) rfl (fun _ => ?_) (fun h => absurd h cq_eq_0_0)
      refine lv_iconst (v := 0) hx hb (oc_3 30 (aq_6 shX12_offers_24)) kic_0 ?_
      exact W.zret (v := 0) hx hb hr rfl (fun t ht hW => ⟨⟨0, (cn, In, Fn), rfl, (Or.inr ⟨(by first | (first | omega | (have zz0 := Hid.u hi_cn; omega)) | (simp only [zd0]; (first | omega | (have zz0 := Hid.u hi_cn; omega)))), rfl, rfl, rfl, rfl⟩), by rw [ht]; exact hP, hD⟩, hS.F ht⟩) hS.2.2 (oc_172 31 (aq_7 shX12_offers_24))
  ·
    have h_2 : ¬ (0 ≤ v0.toInt ∧ v0.toInt < ((cn 1) : Int)) := h_2
    refine lv_if_eq (tgt := 30) hx hb (oc_153 5 (aq_5 shX12_offers_0) sgw_0_25) rfl (fun _ => ?_) (fun h => absurd h cq_eq_0_0)
    refine lv_iconst (v := 0) hx hb (oc_3 30 (aq_6 shX12_offers_24)) kic_0 ?_
    exact W.zret (v := 0) hx hb hr rfl (fun t ht hW => ⟨⟨0, (cn, In, Fn), rfl, (Or.inr ⟨(by first | (first | omega | (have zz0 := Hid.u hi_cn; omega)) | (simp only [zd0]; (first | omega | (have zz0 := Hid.u hi_cn; omega)))), rfl, rfl, rfl, rfl⟩), by rw [ht]; exact hP, hD⟩, hS.F ht⟩) hS.2.2 (oc_172 31 (aq_7 shX12_offers_24))
set_option maxRecDepth 100000 in
set_option maxHeartbeats 4000000 in
theorem q_thefts (l : Launch) (D : va_G) (cI cB cZ : ClassId) (g : Nat → Nat) (cn : Nat → Nat) (In : Nat → Int32) (Fn : Nat → Nat → Int32) (v0 v1 : Int32) (sz : Nat) (hI : IM cn Fn) : Met l yX12_thefts (CWS yX12_thefts cX12_thefts 3 (some .boolean)) (RM 1 0 0) (PBw [.ref (g 100), .int v0, .int v1] D cI cB cZ (wM cI cB cZ g cn In Fn) sz) (va_Qi (fun (r : Int32) (u : (Nat → Nat) × (Nat → Int32) × (Nat → Nat → Int32)) => (fun r c2 I2 F2 => (((0 ≤ v0.toInt ∧ v0.toInt ≤ 23) ∧ (0 ≤ v1.toInt ∧ v1.toInt ≤ 1000)) ∧ r = 1 ∧ c2 = cn ∧ I2 = In ∧ F2 = (va_up Fn 86 (upd (Fn 86) v0.toInt.toNat v1))) ∨ ((¬ ((0 ≤ v0.toInt ∧ v0.toInt ≤ 23) ∧ (0 ≤ v1.toInt ∧ v1.toInt ≤ 1000))) ∧ r = 0 ∧ c2 = cn ∧ I2 = In ∧ F2 = Fn)) r u.1 u.2.1 u.2.2) (fun (u : (Nat → Nat) × (Nat → Int32) × (Nat → Nat → Int32)) (t : State) => va_P D vwCl (wM cI cB cZ g u.1 u.2.1 u.2.2) t.heap ∧ va_D (va_A (wM cI cB cZ g cn In Fn) sz) (wM cI cB cZ g u.1 u.2.1 u.2.2)) (va_A (wM cI cB cZ g cn In Fn) sz)) 0 0 (va_A (wM cI cB cZ g cn In Fn) sz) := by
  refine en_w (fun A => (va_Qi (fun (r : Int32) (u : (Nat → Nat) × (Nat → Int32) × (Nat → Nat → Int32)) => (fun (r : Int32) (c2 : Nat → Nat) (I2 : Nat → Int32) (F2 : Nat → Nat → Int32) => (((0 ≤ v0.toInt ∧ v0.toInt ≤ 23) ∧ (0 ≤ v1.toInt ∧ v1.toInt ≤ 1000)) ∧ r = 1 ∧ c2 = cn ∧ I2 = In ∧ F2 = (va_up Fn 86 (upd (Fn 86) v0.toInt.toNat v1))) ∨ ((¬ ((0 ≤ v0.toInt ∧ v0.toInt ≤ 23) ∧ (0 ≤ v1.toInt ∧ v1.toInt ≤ 1000))) ∧ r = 0 ∧ c2 = cn ∧ I2 = In ∧ F2 = Fn)) r u.1 u.2.1 u.2.2) (fun (u : (Nat → Nat) × (Nat → Int32) × (Nat → Nat → Int32)) (t : State) => va_P D vwCl (wM cI cB cZ g u.1 u.2.1 u.2.2) t.heap ∧ va_D A (wM cI cB cZ g u.1 u.2.1 u.2.2)) A)) rfl rfl pn_RX12 (Nat.le_of_ble_eq_true rfl) (fun p e s m below meth c A hx hb hml hown S hr hlocks hnm hA hP hK hD hS ls hl => ?_)
  have hl : lv_has ls 3 [(0, .ref (g 100)), (1, .int v0), (2, .int v1)] := hl
  have hi_cn : Hid (CB cn) := hI.b
  refine lv_iload_n hx hb (oc_27 0 shX12_thefts_0) rfl (lvA1 hl) ?_
  refine lv_iconst (v := 0) hx hb (oc_3 1 (aq_1 shX12_thefts_0)) kic_0 ?_
  refine lv_bipush (v := 23) hx hb (oc_16 2 (aq_2 shX12_thefts_0) sgb_23) kbc_23 ?_
  refine vp_callSi (runS_r (As := [.int v0, .int 0, .int 23]) (rest := []) S (q_in l D cI cB cZ v0 0 23 ) kS_RX12_214 hK hP [] rfl ⟨Nat.le_of_ble_eq_true rfl, Nat.le_of_ble_eq_true rfl⟩ ⟨Nat.le_of_ble_eq_true rfl, Nat.le_of_ble_eq_true rfl⟩ rfl hl.1 rfl (Nat.le_of_ble_eq_true rfl) (oc_184 4 (aq_4 shX12_thefts_0) uw_0_214)) (fun r_1 h_2 => ?_)
  rcases h_2 with ⟨rfl, h_2⟩ | ⟨rfl, h_2⟩
  ·
    have h_2 : 0 ≤ v0.toInt ∧ v0.toInt ≤ 23 := h_2
    refine lv_if_eq (tgt := 21) hx hb (oc_153 7 (aq_7 shX12_thefts_0) sgw_0_14) rfl (fun h => absurd h cq_eq_1_0) (fun _ => ?_)
    obtain ⟨d0, hd0, rfl⟩ := nI_of (x := v0) (fun q => by have := Int32.lt_iff_toInt_lt.mp q; have e : (0 : Int32).toInt = 0 := rfl; (first | omega | (have zz0 := Hid.u hi_cn; omega)))
    have td0 : (nI d0).toInt = (d0 : Int) := nI_toInt hd0
    have zd0 : (nI d0).toInt.toNat = d0 := by (first | omega | (have zz0 := Hid.u hi_cn; omega))
    refine lv_iload_n hx hb (oc_28 10 (aq_10 shX12_thefts_0)) rfl (lvA2 hl) ?_
    refine lv_iconst (v := 0) hx hb (oc_3 11 (aq_11 shX12_thefts_0)) kic_0 ?_
    refine lv_sipush (v := 1000) hx hb (oc_17 12 (aq_12 shX12_thefts_0) sgw_3_232) (by decide) ?_
    refine vp_callSi (runS_r (As := [.int v1, .int 0, .int 1000]) (rest := []) S (q_in l D cI cB cZ v1 0 1000 ) kS_RX12_214 hK hP [] rfl ⟨Nat.le_of_ble_eq_true rfl, Nat.le_of_ble_eq_true rfl⟩ ⟨Nat.le_of_ble_eq_true rfl, Nat.le_of_ble_eq_true rfl⟩ rfl hl.1 rfl (Nat.le_of_ble_eq_true rfl) (oc_184 15 (aq_15 shX12_thefts_0) uw_0_214)) (fun r_3 h_4 => ?_)
    rcases h_4 with ⟨rfl, h_4⟩ | ⟨rfl, h_4⟩
    ·
      have h_4 : 0 ≤ v1.toInt ∧ v1.toInt ≤ 1000 := h_4
      refine lv_if_ne (tgt := 23) hx hb (oc_154 18 (aq_18 shX12_thefts_0) sgw_0_5) rfl (fun _ => ?_) (fun h => absurd h cq_eq_1_0)
      refine lv_aload_n hx hb (oc_42 23 (aq_23 shX12_thefts_0)) rfl (lvA0 hl) ?_
      refine gM_189 S hK hP (v := .ref (g 86)) rfl (oc_180 24 shX12_thefts_24 uw_0_189) ?_
      refine lv_iload_n hx hb (oc_27 27 (aq_3 shX12_thefts_24)) rfl (lvA1 hl) ?_
      refine lv_iload_n hx hb (oc_28 28 (aq_4 shX12_thefts_24)) rfl (lvA2 hl) ?_
      have kb_1 : d0 < 24 := by (first | omega | (have zz0 := Hid.u hi_cn; omega))
      refine stM_86 hx hb hK hP hD hS (Fn2 := (va_up Fn 86 (upd (Fn 86) d0 v1))) (vp_in_nI kb_1 (ltb rfl)) (nI_clamp (Nat.lt_trans kb_1 (ltb rfl))) rfl (oc_79 29 (aq_5 shX12_thefts_24)) (fun H locs hP hD hS => ?_)
      refine lv_iconst (v := 1) hx hb (oc_4 30 (aq_6 shX12_thefts_24)) kic_1 ?_
      exact W.zret (v := 1) hx hb hr rfl (fun t ht hW => ⟨⟨1, (cn, In, (va_up Fn 86 (upd (Fn 86) d0 v1))), rfl, (Or.inl ⟨(by first | (first | omega | (have zz0 := Hid.u hi_cn; omega)) | (simp only [zd0]; (first | omega | (have zz0 := Hid.u hi_cn; omega)))), rfl, rfl, rfl, by first | rfl | simp only [zd0, zd1] | simp only [zd0]⟩), by rw [ht]; exact hP, hD⟩, hS.F ht⟩) hS.2.2 (oc_172 31 (aq_7 shX12_thefts_24))
    ·
      have h_4 : ¬ (0 ≤ v1.toInt ∧ v1.toInt ≤ 1000) := h_4
      refine lv_if_ne (tgt := 23) hx hb (oc_154 18 (aq_18 shX12_thefts_0) sgw_0_5) rfl (fun h => absurd h cq_eq_0_0) (fun _ => ?_)
      refine lv_iconst (v := 0) hx hb (oc_3 21 (aq_21 shX12_thefts_0)) kic_0 ?_
      exact W.zret (v := 0) hx hb hr rfl (fun t ht hW => ⟨⟨0, (cn, In, Fn), rfl, (Or.inr ⟨(by first | (first | omega | (have zz0 := Hid.u hi_cn; omega)) | (simp only [zd0]; (first | omega | (have zz0 := Hid.u hi_cn; omega)))), rfl, rfl, rfl, rfl⟩), by rw [ht]; exact hP, hD⟩, hS.F ht⟩) hS.2.2 (oc_172 22 (aq_22 shX12_thefts_0))
  ·
    have h_2 : ¬ (0 ≤ v0.toInt ∧ v0.toInt ≤ 23) := h_2
    refine lv_if_eq (tgt := 21) hx hb (oc_153 7 (aq_7 shX12_thefts_0) sgw_0_14) rfl (fun _ => ?_) (fun h => absurd h cq_eq_0_0)
    refine lv_iconst (v := 0) hx hb (oc_3 21 (aq_21 shX12_thefts_0)) kic_0 ?_
    exact W.zret (v := 0) hx hb hr rfl (fun t ht hW => ⟨⟨0, (cn, In, Fn), rfl, (Or.inr ⟨(by first | (first | omega | (have zz0 := Hid.u hi_cn; omega)) | (simp only [zd0]; (first | omega | (have zz0 := Hid.u hi_cn; omega)))), rfl, rfl, rfl, rfl⟩), by rw [ht]; exact hP, hD⟩, hS.F ht⟩) hS.2.2 (oc_172 22 (aq_22 shX12_thefts_0))
set_option maxRecDepth 100000 in
set_option maxHeartbeats 4000000 in
theorem q_sewer (l : Launch) (D : va_G) (cI cB cZ : ClassId) (g : Nat → Nat) (cn : Nat → Nat) (In : Nat → Int32) (Fn : Nat → Nat → Int32) (v0 v1 : Int32) (sz : Nat) (hI : IM cn Fn) : Met l yX12_sewer (CWS yX12_sewer cX12_sewer 3 (some .int)) (RM 1 0 0) (PBw [.ref (g 100), .int v0, .int v1] D cI cB cZ (wM cI cB cZ g cn In Fn) sz) (va_Qi (fun (r : Int32) (u : (Nat → Nat) × (Nat → Int32) × (Nat → Nat → Int32)) => (fun r c2 I2 F2 => (((0 ≤ v0.toInt ∧ v0.toInt ≤ 99) ∧ (0 ≤ v1.toInt ∧ v1.toInt ≤ 99) ∧ cn 83 < 10) ∧ r = nI (cn 83) ∧ c2 = va_up cn 83 (cn 83 + 1) ∧ I2 = In ∧ F2 = (va_up (va_up Fn 87 (upd (Fn 87) (cn 83) v0)) 88 (upd (Fn 88) (cn 83) v1))) ∨ ((¬ ((0 ≤ v0.toInt ∧ v0.toInt ≤ 99) ∧ (0 ≤ v1.toInt ∧ v1.toInt ≤ 99) ∧ cn 83 < 10)) ∧ r = -1 ∧ c2 = cn ∧ I2 = In ∧ F2 = Fn)) r u.1 u.2.1 u.2.2) (fun (u : (Nat → Nat) × (Nat → Int32) × (Nat → Nat → Int32)) (t : State) => va_P D vwCl (wM cI cB cZ g u.1 u.2.1 u.2.2) t.heap ∧ va_D (va_A (wM cI cB cZ g cn In Fn) sz) (wM cI cB cZ g u.1 u.2.1 u.2.2)) (va_A (wM cI cB cZ g cn In Fn) sz)) 0 0 (va_A (wM cI cB cZ g cn In Fn) sz) := by
  refine en_w (fun A => (va_Qi (fun (r : Int32) (u : (Nat → Nat) × (Nat → Int32) × (Nat → Nat → Int32)) => (fun (r : Int32) (c2 : Nat → Nat) (I2 : Nat → Int32) (F2 : Nat → Nat → Int32) => (((0 ≤ v0.toInt ∧ v0.toInt ≤ 99) ∧ (0 ≤ v1.toInt ∧ v1.toInt ≤ 99) ∧ cn 83 < 10) ∧ r = nI (cn 83) ∧ c2 = va_up cn 83 (cn 83 + 1) ∧ I2 = In ∧ F2 = (va_up (va_up Fn 87 (upd (Fn 87) (cn 83) v0)) 88 (upd (Fn 88) (cn 83) v1))) ∨ ((¬ ((0 ≤ v0.toInt ∧ v0.toInt ≤ 99) ∧ (0 ≤ v1.toInt ∧ v1.toInt ≤ 99) ∧ cn 83 < 10)) ∧ r = -1 ∧ c2 = cn ∧ I2 = In ∧ F2 = Fn)) r u.1 u.2.1 u.2.2) (fun (u : (Nat → Nat) × (Nat → Int32) × (Nat → Nat → Int32)) (t : State) => va_P D vwCl (wM cI cB cZ g u.1 u.2.1 u.2.2) t.heap ∧ va_D A (wM cI cB cZ g u.1 u.2.1 u.2.2)) A)) rfl rfl pn_RX12 (Nat.le_of_ble_eq_true rfl) (fun p e s m below meth c A hx hb hml hown S hr hlocks hnm hA hP hK hD hS ls hl => ?_)
  have hl : lv_has ls 3 [(0, .ref (g 100)), (1, .int v0), (2, .int v1)] := hl
  have hi_cn : Hid (CB cn) := hI.b
  refine lv_iload_n hx hb (oc_27 0 shX12_sewer_0) rfl (lvA1 hl) ?_
  refine lv_iconst (v := 0) hx hb (oc_3 1 (aq_1 shX12_sewer_0)) kic_0 ?_
  refine lv_bipush (v := 99) hx hb (oc_16 2 (aq_2 shX12_sewer_0) sgb_99) kbc_99 ?_
  refine vp_callSi (runS_r (As := [.int v0, .int 0, .int 99]) (rest := []) S (q_in l D cI cB cZ v0 0 99 ) kS_RX12_214 hK hP [] rfl ⟨Nat.le_of_ble_eq_true rfl, Nat.le_of_ble_eq_true rfl⟩ ⟨Nat.le_of_ble_eq_true rfl, Nat.le_of_ble_eq_true rfl⟩ rfl hl.1 rfl (Nat.le_of_ble_eq_true rfl) (oc_184 4 (aq_4 shX12_sewer_0) uw_0_214)) (fun r_1 h_2 => ?_)
  rcases h_2 with ⟨rfl, h_2⟩ | ⟨rfl, h_2⟩
  ·
    have h_2 : 0 ≤ v0.toInt ∧ v0.toInt ≤ 99 := h_2
    refine lv_if_eq (tgt := 29) hx hb (oc_153 7 (aq_7 shX12_sewer_0) sgw_0_22) rfl (fun h => absurd h cq_eq_1_0) (fun _ => ?_)
    refine lv_iload_n hx hb (oc_28 10 (aq_10 shX12_sewer_0)) rfl (lvA2 hl) ?_
    refine lv_iconst (v := 0) hx hb (oc_3 11 (aq_11 shX12_sewer_0)) kic_0 ?_
    refine lv_bipush (v := 99) hx hb (oc_16 12 (aq_12 shX12_sewer_0) sgb_99) kbc_99 ?_
    refine vp_callSi (runS_r (As := [.int v1, .int 0, .int 99]) (rest := []) S (q_in l D cI cB cZ v1 0 99 ) kS_RX12_214 hK hP [] rfl ⟨Nat.le_of_ble_eq_true rfl, Nat.le_of_ble_eq_true rfl⟩ ⟨Nat.le_of_ble_eq_true rfl, Nat.le_of_ble_eq_true rfl⟩ rfl hl.1 rfl (Nat.le_of_ble_eq_true rfl) (oc_184 14 (aq_14 shX12_sewer_0) uw_0_214)) (fun r_3 h_4 => ?_)
    rcases h_4 with ⟨rfl, h_4⟩ | ⟨rfl, h_4⟩
    ·
      have h_4 : 0 ≤ v1.toInt ∧ v1.toInt ≤ 99 := h_4
      refine lv_if_eq (tgt := 29) hx hb (oc_153 17 (aq_17 shX12_sewer_0) sgw_0_12) rfl (fun h => absurd h cq_eq_1_0) (fun _ => ?_)
      refine lv_aload_n hx hb (oc_42 20 (aq_20 shX12_sewer_0)) rfl (lvA0 hl) ?_
      refine gM_478 S hK hP (v := .int (nI (cn 83))) rfl (oc_180 21 (aq_21 shX12_sewer_0) uw_1_222) ?_
      refine lv_bipush (v := 10) hx hb (oc_16 24 shX12_sewer_24 sgb_10) kbc_10 ?_
      have : (nI (cn 83)).toInt = (((cn 83) : Nat) : Int) := nI_toInt (by (first | omega | (have zz0 := Hid.u hi_cn; omega)))
      refine lv_icmp_ne (tgt := 31) hx hb (oc_160 26 (aq_2 shX12_sewer_24) sgw_0_5) rfl (fun c_5 => ?_) (fun c_5 => ?_)
      ·
        have tc_5 : ((nI (cn 83)).toInt : Int) ≠ 10 := fun q => c_5 (Int32.toInt_inj.mp q)
        refine lv_aload_n hx hb (oc_42 31 (aq_7 shX12_sewer_24)) rfl (lvA0 hl) ?_
        refine gM_192 S hK hP (v := .ref (g 87)) rfl (oc_180 32 (aq_8 shX12_sewer_24) uw_0_192) ?_
        refine lv_aload_n hx hb (oc_42 35 (aq_11 shX12_sewer_24)) rfl (lvA0 hl) ?_
        refine gM_478 S hK hP (v := .int (nI (cn 83))) rfl (oc_180 36 (aq_12 shX12_sewer_24) uw_1_222) ?_
        refine lv_iload_n hx hb (oc_27 39 (aq_15 shX12_sewer_24)) rfl (lvA1 hl) ?_
        have kb_1 : (cn 83) < 10 := by (first | omega | (have zz0 := Hid.u hi_cn; omega))
        refine stM_87 hx hb hK hP hD hS (Fn2 := (va_up Fn 87 (upd (Fn 87) (cn 83) v0))) (vp_in_nI kb_1 (ltb rfl)) (nI_clamp (Nat.lt_trans kb_1 (ltb rfl))) rfl (oc_79 40 (aq_16 shX12_sewer_24)) (fun H locs hP hD hS => ?_)
        refine lv_aload_n hx hb (oc_42 41 (aq_17 shX12_sewer_24)) rfl (lvA0 hl) ?_
        refine gM_195 S hK hP (v := .ref (g 88)) rfl (oc_180 42 (aq_18 shX12_sewer_24) uw_0_195) ?_
        refine lv_aload_n hx hb (oc_42 45 (aq_21 shX12_sewer_24)) rfl (lvA0 hl) ?_
        refine gM_478 S hK hP (v := .int (nI (cn 83))) rfl (oc_180 46 (aq_22 shX12_sewer_24) uw_1_222) ?_
        refine lv_iload_n hx hb (oc_28 49 shX12_sewer_49) rfl (lvA2 hl) ?_
        refine stM_88 hx hb hK hP hD hS (Fn2 := (va_up (va_up Fn 87 (upd (Fn 87) (cn 83) v0)) 88 (upd (Fn 88) (cn 83) v1))) (vp_in_nI kb_1 (ltb rfl)) (nI_clamp (Nat.lt_trans kb_1 (ltb rfl))) rfl (oc_79 50 (aq_1 shX12_sewer_49)) (fun H locs hP hD hS => ?_)
        refine lv_aload_n hx hb (oc_42 51 (aq_2 shX12_sewer_49)) rfl (lvA0 hl) ?_
        refine lv_aload_n hx hb (oc_42 52 (aq_3 shX12_sewer_49)) rfl (lvA0 hl) ?_
        refine gM_478 S hK hP (v := .int (nI (cn 83))) rfl (oc_180 53 (aq_4 shX12_sewer_49) uw_1_222) ?_
        refine lv_iconst (v := 1) hx hb (oc_4 56 (aq_7 shX12_sewer_49)) kic_1 ?_
        refine lv_iadd hx hb (oc_96 57 (aq_8 shX12_sewer_49)) ?_
        refine lv_topi (fun y_6 ey_6 => ?_)
        obtain rfl : y_6 = (nI ((cn 83) + 1)) := ey_6.trans (nI_add (cn 83) 1)
        refine pM_478 S hK hP hD hS (a := ((cn 83) + 1)) (cn2 := (va_up cn 83 ((cn 83) + 1))) rfl rfl (oc_181 58 (aq_9 shX12_sewer_49) uw_1_222) (fun H locs hP hD hS => ?_)
        refine lv_aload_n hx hb (oc_42 61 (aq_12 shX12_sewer_49)) rfl (lvA0 hl) ?_
        refine gM_478 S hK hP (v := .int (nI ((cn 83) + 1))) rfl (oc_180 62 (aq_13 shX12_sewer_49) uw_1_222) ?_
        refine lv_iconst (v := 1) hx hb (oc_4 65 (aq_16 shX12_sewer_49)) kic_1 ?_
        refine lv_isub hx hb (oc_100 66 (aq_17 shX12_sewer_49)) ?_
        refine lv_topi (fun y_7 ey_7 => ?_)
        obtain rfl : y_7 = (nI (cn 83)) := ey_7.trans (nI_pred _)
        exact W.iret (v := (nI (cn 83))) hx hb hr (fun t ht hW => ⟨⟨(nI (cn 83)), ((va_up cn 83 ((cn 83) + 1)), In, (va_up (va_up Fn 87 (upd (Fn 87) (cn 83) v0)) 88 (upd (Fn 88) (cn 83) v1))), rfl, (Or.inl ⟨(by first | (first | omega | (have zz0 := Hid.u hi_cn; omega)) | (simp only [zd0]; (first | omega | (have zz0 := Hid.u hi_cn; omega)))), rfl, rfl, rfl, by first | rfl | simp only [zd0, zd1] | simp only [zd0]⟩), by rw [ht]; exact hP, hD⟩, hS.F ht⟩) hS.2.2 (oc_172 67 (aq_18 shX12_sewer_49))
      ·
        have tc_5 : ((nI (cn 83)).toInt : Int) = 10 := congrArg Int32.toInt c_5
        refine lv_iconst (v := (-1)) hx hb (oc_2 29 (aq_5 shX12_sewer_24)) kic_m1 ?_
        exact W.iret (v := (-1)) hx hb hr (fun t ht hW => ⟨⟨(-1), (cn, In, Fn), rfl, (Or.inr ⟨(by first | (first | omega | (have zz0 := Hid.u hi_cn; omega)) | (simp only [zd0]; (first | omega | (have zz0 := Hid.u hi_cn; omega)))), rfl, rfl, rfl, rfl⟩), by rw [ht]; exact hP, hD⟩, hS.F ht⟩) hS.2.2 (oc_172 30 (aq_6 shX12_sewer_24))
    ·
      have h_4 : ¬ (0 ≤ v1.toInt ∧ v1.toInt ≤ 99) := h_4
      refine lv_if_eq (tgt := 29) hx hb (oc_153 17 (aq_17 shX12_sewer_0) sgw_0_12) rfl (fun _ => ?_) (fun h => absurd h cq_eq_0_0)
      refine lv_iconst (v := (-1)) hx hb (oc_2 29 (aq_5 shX12_sewer_24)) kic_m1 ?_
      exact W.iret (v := (-1)) hx hb hr (fun t ht hW => ⟨⟨(-1), (cn, In, Fn), rfl, (Or.inr ⟨(by first | (first | omega | (have zz0 := Hid.u hi_cn; omega)) | (simp only [zd0]; (first | omega | (have zz0 := Hid.u hi_cn; omega)))), rfl, rfl, rfl, rfl⟩), by rw [ht]; exact hP, hD⟩, hS.F ht⟩) hS.2.2 (oc_172 30 (aq_6 shX12_sewer_24))
  ·
    have h_2 : ¬ (0 ≤ v0.toInt ∧ v0.toInt ≤ 99) := h_2
    refine lv_if_eq (tgt := 29) hx hb (oc_153 7 (aq_7 shX12_sewer_0) sgw_0_22) rfl (fun _ => ?_) (fun h => absurd h cq_eq_0_0)
    refine lv_iconst (v := (-1)) hx hb (oc_2 29 (aq_5 shX12_sewer_24)) kic_m1 ?_
    exact W.iret (v := (-1)) hx hb hr (fun t ht hW => ⟨⟨(-1), (cn, In, Fn), rfl, (Or.inr ⟨(by first | (first | omega | (have zz0 := Hid.u hi_cn; omega)) | (simp only [zd0]; (first | omega | (have zz0 := Hid.u hi_cn; omega)))), rfl, rfl, rfl, rfl⟩), by rw [ht]; exact hP, hD⟩, hS.F ht⟩) hS.2.2 (oc_172 30 (aq_6 shX12_sewer_24))
set_option maxRecDepth 100000 in
set_option maxHeartbeats 4000000 in
theorem q_degrees (l : Launch) (D : va_G) (cI cB cZ : ClassId) (g : Nat → Nat) (cn : Nat → Nat) (In : Nat → Int32) (Fn : Nat → Nat → Int32) (v0 v1 : Int32) (sz : Nat) (hI : IM cn Fn) : Met l yX12_degrees (CWS yX12_degrees cX12_degrees 3 (some .boolean)) (RM 1 0 0) (PBw [.ref (g 100), .int v0, .int v1] D cI cB cZ (wM cI cB cZ g cn In Fn) sz) (va_Qi (fun (r : Int32) (u : (Nat → Nat) × (Nat → Int32) × (Nat → Nat → Int32)) => (fun r c2 I2 F2 => (((0 ≤ v0.toInt ∧ v0.toInt ≤ 399) ∧ ((-40) ≤ v1.toInt ∧ v1.toInt ≤ 40)) ∧ r = 1 ∧ c2 = cn ∧ I2 = In ∧ F2 = (va_up Fn 90 (upd (Fn 90) v0.toInt.toNat v1))) ∨ ((¬ ((0 ≤ v0.toInt ∧ v0.toInt ≤ 399) ∧ ((-40) ≤ v1.toInt ∧ v1.toInt ≤ 40))) ∧ r = 0 ∧ c2 = cn ∧ I2 = In ∧ F2 = Fn)) r u.1 u.2.1 u.2.2) (fun (u : (Nat → Nat) × (Nat → Int32) × (Nat → Nat → Int32)) (t : State) => va_P D vwCl (wM cI cB cZ g u.1 u.2.1 u.2.2) t.heap ∧ va_D (va_A (wM cI cB cZ g cn In Fn) sz) (wM cI cB cZ g u.1 u.2.1 u.2.2)) (va_A (wM cI cB cZ g cn In Fn) sz)) 0 0 (va_A (wM cI cB cZ g cn In Fn) sz) := by
  refine en_w (fun A => (va_Qi (fun (r : Int32) (u : (Nat → Nat) × (Nat → Int32) × (Nat → Nat → Int32)) => (fun (r : Int32) (c2 : Nat → Nat) (I2 : Nat → Int32) (F2 : Nat → Nat → Int32) => (((0 ≤ v0.toInt ∧ v0.toInt ≤ 399) ∧ ((-40) ≤ v1.toInt ∧ v1.toInt ≤ 40)) ∧ r = 1 ∧ c2 = cn ∧ I2 = In ∧ F2 = (va_up Fn 90 (upd (Fn 90) v0.toInt.toNat v1))) ∨ ((¬ ((0 ≤ v0.toInt ∧ v0.toInt ≤ 399) ∧ ((-40) ≤ v1.toInt ∧ v1.toInt ≤ 40))) ∧ r = 0 ∧ c2 = cn ∧ I2 = In ∧ F2 = Fn)) r u.1 u.2.1 u.2.2) (fun (u : (Nat → Nat) × (Nat → Int32) × (Nat → Nat → Int32)) (t : State) => va_P D vwCl (wM cI cB cZ g u.1 u.2.1 u.2.2) t.heap ∧ va_D A (wM cI cB cZ g u.1 u.2.1 u.2.2)) A)) rfl rfl pn_RX12 (Nat.le_of_ble_eq_true rfl) (fun p e s m below meth c A hx hb hml hown S hr hlocks hnm hA hP hK hD hS ls hl => ?_)
  have hl : lv_has ls 3 [(0, .ref (g 100)), (1, .int v0), (2, .int v1)] := hl
  have hi_cn : Hid (CB cn) := hI.b
  refine lv_iload_n hx hb (oc_27 0 shX12_degrees_0) rfl (lvA1 hl) ?_
  refine vp_callSi (runS_r (As := [.int v0]) (rest := []) S (q_isDay l D cI cB cZ v0 ) kS_RX12_341 hK hP [] rfl ⟨Nat.le_of_ble_eq_true rfl, Nat.le_of_ble_eq_true rfl⟩ ⟨Nat.le_of_ble_eq_true rfl, Nat.le_of_ble_eq_true rfl⟩ rfl hl.1 rfl (Nat.le_of_ble_eq_true rfl) (oc_184 1 (aq_1 shX12_degrees_0) uw_1_85)) (fun r_1 h_2 => ?_)
  rcases h_2 with ⟨rfl, h_2⟩ | ⟨rfl, h_2⟩
  ·
    have h_2 : 0 ≤ v0.toInt ∧ v0.toInt ≤ 399 := h_2
    refine lv_if_eq (tgt := 18) hx hb (oc_153 4 (aq_4 shX12_degrees_0) sgw_0_14) rfl (fun h => absurd h cq_eq_1_0) (fun _ => ?_)
    obtain ⟨d0, hd0, rfl⟩ := nI_of (x := v0) (fun q => by have := Int32.lt_iff_toInt_lt.mp q; have e : (0 : Int32).toInt = 0 := rfl; (first | omega | (have zz0 := Hid.u hi_cn; omega)))
    have td0 : (nI d0).toInt = (d0 : Int) := nI_toInt hd0
    have zd0 : (nI d0).toInt.toNat = d0 := by (first | omega | (have zz0 := Hid.u hi_cn; omega))
    refine lv_iload_n hx hb (oc_28 7 (aq_7 shX12_degrees_0)) rfl (lvA2 hl) ?_
    refine lv_bipush (v := (-40)) hx hb (oc_16 8 (aq_8 shX12_degrees_0) sgb_216) kbc_m40 ?_
    refine lv_bipush (v := 40) hx hb (oc_16 10 (aq_10 shX12_degrees_0) sgb_40) kbc_40 ?_
    refine vp_callSi (runS_r (As := [.int v1, .int (-40), .int 40]) (rest := []) S (q_in l D cI cB cZ v1 (-40) 40 ) kS_RX12_214 hK hP [] rfl ⟨Nat.le_of_ble_eq_true rfl, Nat.le_of_ble_eq_true rfl⟩ ⟨Nat.le_of_ble_eq_true rfl, Nat.le_of_ble_eq_true rfl⟩ rfl hl.1 rfl (Nat.le_of_ble_eq_true rfl) (oc_184 12 (aq_12 shX12_degrees_0) uw_0_214)) (fun r_3 h_4 => ?_)
    rcases h_4 with ⟨rfl, h_4⟩ | ⟨rfl, h_4⟩
    ·
      have h_4 : (-40) ≤ v1.toInt ∧ v1.toInt ≤ 40 := h_4
      refine lv_if_ne (tgt := 20) hx hb (oc_154 15 (aq_15 shX12_degrees_0) sgw_0_5) rfl (fun _ => ?_) (fun h => absurd h cq_eq_1_0)
      refine lv_aload_n hx hb (oc_42 20 (aq_20 shX12_degrees_0)) rfl (lvA0 hl) ?_
      refine gM_201 S hK hP (v := .ref (g 90)) rfl (oc_180 21 (aq_21 shX12_degrees_0) uw_0_201) ?_
      refine lv_iload_n hx hb (oc_27 24 shX12_degrees_24) rfl (lvA1 hl) ?_
      refine lv_iload_n hx hb (oc_28 25 (aq_1 shX12_degrees_24)) rfl (lvA2 hl) ?_
      have kb_1 : d0 < 400 := by (first | omega | (have zz0 := Hid.u hi_cn; omega))
      refine stM_90 hx hb hK hP hD hS (Fn2 := (va_up Fn 90 (upd (Fn 90) d0 v1))) (vp_in_nI kb_1 (ltb rfl)) (nI_clamp (Nat.lt_trans kb_1 (ltb rfl))) rfl (oc_79 26 (aq_2 shX12_degrees_24)) (fun H locs hP hD hS => ?_)
      refine lv_iconst (v := 1) hx hb (oc_4 27 (aq_3 shX12_degrees_24)) kic_1 ?_
      exact W.zret (v := 1) hx hb hr rfl (fun t ht hW => ⟨⟨1, (cn, In, (va_up Fn 90 (upd (Fn 90) d0 v1))), rfl, (Or.inl ⟨(by first | (first | omega | (have zz0 := Hid.u hi_cn; omega)) | (simp only [zd0]; (first | omega | (have zz0 := Hid.u hi_cn; omega)))), rfl, rfl, rfl, by first | rfl | simp only [zd0, zd1] | simp only [zd0]⟩), by rw [ht]; exact hP, hD⟩, hS.F ht⟩) hS.2.2 (oc_172 28 (aq_4 shX12_degrees_24))
    ·
      have h_4 : ¬ ((-40) ≤ v1.toInt ∧ v1.toInt ≤ 40) := h_4
      refine lv_if_ne (tgt := 20) hx hb (oc_154 15 (aq_15 shX12_degrees_0) sgw_0_5) rfl (fun h => absurd h cq_eq_0_0) (fun _ => ?_)
      refine lv_iconst (v := 0) hx hb (oc_3 18 (aq_18 shX12_degrees_0)) kic_0 ?_
      exact W.zret (v := 0) hx hb hr rfl (fun t ht hW => ⟨⟨0, (cn, In, Fn), rfl, (Or.inr ⟨(by first | (first | omega | (have zz0 := Hid.u hi_cn; omega)) | (simp only [zd0]; (first | omega | (have zz0 := Hid.u hi_cn; omega)))), rfl, rfl, rfl, rfl⟩), by rw [ht]; exact hP, hD⟩, hS.F ht⟩) hS.2.2 (oc_172 19 (aq_19 shX12_degrees_0))
  ·
    have h_2 : ¬ (0 ≤ v0.toInt ∧ v0.toInt ≤ 399) := h_2
    refine lv_if_eq (tgt := 18) hx hb (oc_153 4 (aq_4 shX12_degrees_0) sgw_0_14) rfl (fun _ => ?_) (fun h => absurd h cq_eq_0_0)
    refine lv_iconst (v := 0) hx hb (oc_3 18 (aq_18 shX12_degrees_0)) kic_0 ?_
    exact W.zret (v := 0) hx hb hr rfl (fun t ht hW => ⟨⟨0, (cn, In, Fn), rfl, (Or.inr ⟨(by first | (first | omega | (have zz0 := Hid.u hi_cn; omega)) | (simp only [zd0]; (first | omega | (have zz0 := Hid.u hi_cn; omega)))), rfl, rfl, rfl, rfl⟩), by rw [ht]; exact hP, hD⟩, hS.F ht⟩) hS.2.2 (oc_172 19 (aq_19 shX12_degrees_0))
set_option maxRecDepth 100000 in
set_option maxHeartbeats 4000000 in
theorem q_drum (l : Launch) (D : va_G) (cI cB cZ : ClassId) (g : Nat → Nat) (cn : Nat → Nat) (In : Nat → Int32) (Fn : Nat → Nat → Int32)  (sz : Nat) (hI : IM cn Fn) : Met l yX12_drum (CWS yX12_drum cX12_drum 1 (some .int)) (RM 1 0 0) (PBw [.ref (g 100)] D cI cB cZ (wM cI cB cZ g cn In Fn) sz) (va_Qi (fun (r : Int32) (u : (Nat → Nat) × (Nat → Int32) × (Nat → Nat → Int32)) => (fun r c2 I2 F2 => ((cn 57 < 20) ∧ r = nI (cn 57) ∧ c2 = va_up cn 57 (cn 57 + 1) ∧ I2 = In ∧ F2 = Fn) ∨ ((¬ (cn 57 < 20)) ∧ r = -1 ∧ c2 = cn ∧ I2 = In ∧ F2 = Fn)) r u.1 u.2.1 u.2.2) (fun (u : (Nat → Nat) × (Nat → Int32) × (Nat → Nat → Int32)) (t : State) => va_P D vwCl (wM cI cB cZ g u.1 u.2.1 u.2.2) t.heap ∧ va_D (va_A (wM cI cB cZ g cn In Fn) sz) (wM cI cB cZ g u.1 u.2.1 u.2.2)) (va_A (wM cI cB cZ g cn In Fn) sz)) 0 0 (va_A (wM cI cB cZ g cn In Fn) sz) := by
  refine en_w (fun A => (va_Qi (fun (r : Int32) (u : (Nat → Nat) × (Nat → Int32) × (Nat → Nat → Int32)) => (fun (r : Int32) (c2 : Nat → Nat) (I2 : Nat → Int32) (F2 : Nat → Nat → Int32) => ((cn 57 < 20) ∧ r = nI (cn 57) ∧ c2 = va_up cn 57 (cn 57 + 1) ∧ I2 = In ∧ F2 = Fn) ∨ ((¬ (cn 57 < 20)) ∧ r = -1 ∧ c2 = cn ∧ I2 = In ∧ F2 = Fn)) r u.1 u.2.1 u.2.2) (fun (u : (Nat → Nat) × (Nat → Int32) × (Nat → Nat → Int32)) (t : State) => va_P D vwCl (wM cI cB cZ g u.1 u.2.1 u.2.2) t.heap ∧ va_D A (wM cI cB cZ g u.1 u.2.1 u.2.2)) A)) rfl rfl pn_RX12 (Nat.le_of_ble_eq_true rfl) (fun p e s m below meth c A hx hb hml hown S hr hlocks hnm hA hP hK hD hS ls hl => ?_)
  have hl : lv_has ls 1 [(0, .ref (g 100))] := hl
  have hi_cn : Hid (CB cn) := hI.b
  refine lv_aload_n hx hb (oc_42 0 shX12_drum_0) rfl (lvA0 hl) ?_
  refine gM_407 S hK hP (v := .int (nI (cn 57))) rfl (oc_180 1 (aq_1 shX12_drum_0) uw_1_151) ?_
  refine lv_bipush (v := 20) hx hb (oc_16 4 (aq_4 shX12_drum_0) sgb_20) kbc_20 ?_
  have : (nI (cn 57)).toInt = (((cn 57) : Nat) : Int) := nI_toInt (by (first | omega | (have zz0 := Hid.u hi_cn; omega)))
  refine lv_icmp_ne (tgt := 11) hx hb (oc_160 6 (aq_6 shX12_drum_0) sgw_0_5) rfl (fun c_1 => ?_) (fun c_1 => ?_)
  ·
    have tc_1 : ((nI (cn 57)).toInt : Int) ≠ 20 := fun q => c_1 (Int32.toInt_inj.mp q)
    refine lv_aload_n hx hb (oc_42 11 (aq_11 shX12_drum_0)) rfl (lvA0 hl) ?_
    refine lv_aload_n hx hb (oc_42 12 (aq_12 shX12_drum_0)) rfl (lvA0 hl) ?_
    refine gM_407 S hK hP (v := .int (nI (cn 57))) rfl (oc_180 13 (aq_13 shX12_drum_0) uw_1_151) ?_
    refine lv_iconst (v := 1) hx hb (oc_4 16 (aq_16 shX12_drum_0)) kic_1 ?_
    refine lv_iadd hx hb (oc_96 17 (aq_17 shX12_drum_0)) ?_
    refine lv_topi (fun y_2 ey_2 => ?_)
    obtain rfl : y_2 = (nI ((cn 57) + 1)) := ey_2.trans (nI_add (cn 57) 1)
    refine pM_407 S hK hP hD hS (a := ((cn 57) + 1)) (cn2 := (va_up cn 57 ((cn 57) + 1))) rfl rfl (oc_181 18 (aq_18 shX12_drum_0) uw_1_151) (fun H locs hP hD hS => ?_)
    refine lv_aload_n hx hb (oc_42 21 (aq_21 shX12_drum_0)) rfl (lvA0 hl) ?_
    refine gM_407 S hK hP (v := .int (nI ((cn 57) + 1))) rfl (oc_180 22 (aq_22 shX12_drum_0) uw_1_151) ?_
    refine lv_iconst (v := 1) hx hb (oc_4 25 shX12_drum_25) kic_1 ?_
    refine lv_isub hx hb (oc_100 26 (aq_1 shX12_drum_25)) ?_
    refine lv_topi (fun y_3 ey_3 => ?_)
    obtain rfl : y_3 = (nI (cn 57)) := ey_3.trans (nI_pred _)
    exact W.iret (v := (nI (cn 57))) hx hb hr (fun t ht hW => ⟨⟨(nI (cn 57)), ((va_up cn 57 ((cn 57) + 1)), In, Fn), rfl, (Or.inl ⟨(by first | (first | omega | (have zz0 := Hid.u hi_cn; omega)) | (simp only [zd0]; (first | omega | (have zz0 := Hid.u hi_cn; omega)))), rfl, rfl, rfl, by first | rfl | simp only [zd0, zd1] | simp only [zd0]⟩), by rw [ht]; exact hP, hD⟩, hS.F ht⟩) hS.2.2 (oc_172 27 (aq_2 shX12_drum_25))
  ·
    have tc_1 : ((nI (cn 57)).toInt : Int) = 20 := congrArg Int32.toInt c_1
    refine lv_iconst (v := (-1)) hx hb (oc_2 9 (aq_9 shX12_drum_0)) kic_m1 ?_
    exact W.iret (v := (-1)) hx hb hr (fun t ht hW => ⟨⟨(-1), (cn, In, Fn), rfl, (Or.inr ⟨(by first | (first | omega | (have zz0 := Hid.u hi_cn; omega)) | (simp only [zd0]; (first | omega | (have zz0 := Hid.u hi_cn; omega)))), rfl, rfl, rfl, rfl⟩), by rw [ht]; exact hP, hD⟩, hS.F ht⟩) hS.2.2 (oc_172 10 (aq_10 shX12_drum_0))
set_option maxRecDepth 100000 in
set_option maxHeartbeats 4000000 in
theorem q_spill (l : Launch) (D : va_G) (cI cB cZ : ClassId) (g : Nat → Nat) (cn : Nat → Nat) (In : Nat → Int32) (Fn : Nat → Nat → Int32) (v0 v1 : Int32) (sz : Nat) (hI : IM cn Fn) : Met l yX12_spill (CWS yX12_spill cX12_spill 3 (some .int)) (RM 1 0 0) (PBw [.ref (g 100), .int v0, .int v1] D cI cB cZ (wM cI cB cZ g cn In Fn) sz) (va_Qi (fun (r : Int32) (u : (Nat → Nat) × (Nat → Int32) × (Nat → Nat → Int32)) => (fun r c2 I2 F2 => (((0 ≤ v0.toInt ∧ v0.toInt ≤ (cn 0 : Int)) ∧ (1 ≤ v1.toInt ∧ v1.toInt ≤ 400) ∧ cn 75 < 40) ∧ r = nI (cn 75 + 1) ∧ c2 = va_up cn 75 (cn 75 + 1) ∧ I2 = In ∧ F2 = (va_up (va_up Fn 81 (upd (Fn 81) (cn 75) v0)) 82 (upd (Fn 82) (cn 75) v1))) ∨ ((¬ ((0 ≤ v0.toInt ∧ v0.toInt ≤ (cn 0 : Int)) ∧ (1 ≤ v1.toInt ∧ v1.toInt ≤ 400) ∧ cn 75 < 40)) ∧ r = -1 ∧ c2 = cn ∧ I2 = In ∧ F2 = Fn)) r u.1 u.2.1 u.2.2) (fun (u : (Nat → Nat) × (Nat → Int32) × (Nat → Nat → Int32)) (t : State) => va_P D vwCl (wM cI cB cZ g u.1 u.2.1 u.2.2) t.heap ∧ va_D (va_A (wM cI cB cZ g cn In Fn) sz) (wM cI cB cZ g u.1 u.2.1 u.2.2)) (va_A (wM cI cB cZ g cn In Fn) sz)) 0 0 (va_A (wM cI cB cZ g cn In Fn) sz) := by
  refine en_w (fun A => (va_Qi (fun (r : Int32) (u : (Nat → Nat) × (Nat → Int32) × (Nat → Nat → Int32)) => (fun (r : Int32) (c2 : Nat → Nat) (I2 : Nat → Int32) (F2 : Nat → Nat → Int32) => (((0 ≤ v0.toInt ∧ v0.toInt ≤ (cn 0 : Int)) ∧ (1 ≤ v1.toInt ∧ v1.toInt ≤ 400) ∧ cn 75 < 40) ∧ r = nI (cn 75 + 1) ∧ c2 = va_up cn 75 (cn 75 + 1) ∧ I2 = In ∧ F2 = (va_up (va_up Fn 81 (upd (Fn 81) (cn 75) v0)) 82 (upd (Fn 82) (cn 75) v1))) ∨ ((¬ ((0 ≤ v0.toInt ∧ v0.toInt ≤ (cn 0 : Int)) ∧ (1 ≤ v1.toInt ∧ v1.toInt ≤ 400) ∧ cn 75 < 40)) ∧ r = -1 ∧ c2 = cn ∧ I2 = In ∧ F2 = Fn)) r u.1 u.2.1 u.2.2) (fun (u : (Nat → Nat) × (Nat → Int32) × (Nat → Nat → Int32)) (t : State) => va_P D vwCl (wM cI cB cZ g u.1 u.2.1 u.2.2) t.heap ∧ va_D A (wM cI cB cZ g u.1 u.2.1 u.2.2)) A)) rfl rfl pn_RX12 (Nat.le_of_ble_eq_true rfl) (fun p e s m below meth c A hx hb hml hown S hr hlocks hnm hA hP hK hD hS ls hl => ?_)
  have hl : lv_has ls 3 [(0, .ref (g 100)), (1, .int v0), (2, .int v1)] := hl
  have hi_cn : Hid (CB cn) := hI.b
  refine lv_iload_n hx hb (oc_27 0 shX12_spill_0) rfl (lvA1 hl) ?_
  refine lv_iconst (v := 0) hx hb (oc_3 1 (aq_1 shX12_spill_0)) kic_0 ?_
  refine lv_aload_n hx hb (oc_42 2 (aq_2 shX12_spill_0)) rfl (lvA0 hl) ?_
  refine gM_211 S hK hP (v := .int (nI (cn 0))) rfl (oc_180 3 (aq_3 shX12_spill_0) uw_0_211) ?_
  refine vp_callSi (runS_r (As := [.int v0, .int 0, .int (nI (cn 0))]) (rest := []) S (q_in l D cI cB cZ v0 0 (nI (cn 0)) ) kS_RX12_214 hK hP [] rfl ⟨Nat.le_of_ble_eq_true rfl, Nat.le_of_ble_eq_true rfl⟩ ⟨Nat.le_of_ble_eq_true rfl, Nat.le_of_ble_eq_true rfl⟩ rfl hl.1 rfl (Nat.le_of_ble_eq_true rfl) (oc_184 6 (aq_6 shX12_spill_0) uw_0_214)) (fun r_1 h_2 => ?_)
  have : (nI (cn 0)).toInt = (((cn 0) : Nat) : Int) := nI_toInt (by (first | omega | (have zz0 := Hid.u hi_cn; omega)))
  rcases h_2 with ⟨rfl, h_2⟩ | ⟨rfl, h_2⟩
  ·
    have h_2 : 0 ≤ v0.toInt ∧ v0.toInt ≤ (nI (cn 0)).toInt := h_2
    refine lv_if_eq (tgt := 32) hx hb (oc_153 9 (aq_9 shX12_spill_0) sgw_0_23) rfl (fun h => absurd h cq_eq_1_0) (fun _ => ?_)
    refine lv_iload_n hx hb (oc_28 12 (aq_12 shX12_spill_0)) rfl (lvA2 hl) ?_
    refine lv_iconst (v := 1) hx hb (oc_4 13 (aq_13 shX12_spill_0)) kic_1 ?_
    refine lv_sipush (v := 400) hx hb (oc_17 14 (aq_14 shX12_spill_0) sgw_1_144) (by decide) ?_
    refine vp_callSi (runS_r (As := [.int v1, .int 1, .int 400]) (rest := []) S (q_in l D cI cB cZ v1 1 400 ) kS_RX12_214 hK hP [] rfl ⟨Nat.le_of_ble_eq_true rfl, Nat.le_of_ble_eq_true rfl⟩ ⟨Nat.le_of_ble_eq_true rfl, Nat.le_of_ble_eq_true rfl⟩ rfl hl.1 rfl (Nat.le_of_ble_eq_true rfl) (oc_184 17 (aq_17 shX12_spill_0) uw_0_214)) (fun r_3 h_4 => ?_)
    rcases h_4 with ⟨rfl, h_4⟩ | ⟨rfl, h_4⟩
    ·
      have h_4 : 1 ≤ v1.toInt ∧ v1.toInt ≤ 400 := h_4
      refine lv_if_eq (tgt := 32) hx hb (oc_153 20 (aq_20 shX12_spill_0) sgw_0_12) rfl (fun h => absurd h cq_eq_1_0) (fun _ => ?_)
      refine lv_aload_n hx hb (oc_42 23 (aq_23 shX12_spill_0)) rfl (lvA0 hl) ?_
      refine gM_462 S hK hP (v := .int (nI (cn 75))) rfl (oc_180 24 shX12_spill_24 uw_1_206) ?_
      refine lv_bipush (v := 40) hx hb (oc_16 27 (aq_3 shX12_spill_24) sgb_40) kbc_40 ?_
      have : (nI (cn 75)).toInt = (((cn 75) : Nat) : Int) := nI_toInt (by (first | omega | (have zz0 := Hid.u hi_cn; omega)))
      refine lv_icmp_ne (tgt := 34) hx hb (oc_160 29 (aq_5 shX12_spill_24) sgw_0_5) rfl (fun c_5 => ?_) (fun c_5 => ?_)
      ·
        have tc_5 : ((nI (cn 75)).toInt : Int) ≠ 40 := fun q => c_5 (Int32.toInt_inj.mp q)
        refine lv_aload_n hx hb (oc_42 34 (aq_10 shX12_spill_24)) rfl (lvA0 hl) ?_
        refine gM_177 S hK hP (v := .ref (g 81)) rfl (oc_180 35 (aq_11 shX12_spill_24) uw_0_177) ?_
        refine lv_aload_n hx hb (oc_42 38 (aq_14 shX12_spill_24)) rfl (lvA0 hl) ?_
        refine gM_462 S hK hP (v := .int (nI (cn 75))) rfl (oc_180 39 (aq_15 shX12_spill_24) uw_1_206) ?_
        refine lv_iload_n hx hb (oc_27 42 (aq_18 shX12_spill_24)) rfl (lvA1 hl) ?_
        have kb_1 : (cn 75) < 40 := by (first | omega | (have zz0 := Hid.u hi_cn; omega))
        refine stM_81 hx hb hK hP hD hS (Fn2 := (va_up Fn 81 (upd (Fn 81) (cn 75) v0))) (vp_in_nI kb_1 (ltb rfl)) (nI_clamp (Nat.lt_trans kb_1 (ltb rfl))) rfl (oc_79 43 (aq_19 shX12_spill_24)) (fun H locs hP hD hS => ?_)
        refine lv_aload_n hx hb (oc_42 44 (aq_20 shX12_spill_24)) rfl (lvA0 hl) ?_
        refine gM_180 S hK hP (v := .ref (g 82)) rfl (oc_180 45 (aq_21 shX12_spill_24) uw_0_180) ?_
        refine lv_aload_n hx hb (oc_42 48 shX12_spill_48) rfl (lvA0 hl) ?_
        refine gM_462 S hK hP (v := .int (nI (cn 75))) rfl (oc_180 49 (aq_1 shX12_spill_48) uw_1_206) ?_
        refine lv_iload_n hx hb (oc_28 52 (aq_4 shX12_spill_48)) rfl (lvA2 hl) ?_
        refine stM_82 hx hb hK hP hD hS (Fn2 := (va_up (va_up Fn 81 (upd (Fn 81) (cn 75) v0)) 82 (upd (Fn 82) (cn 75) v1))) (vp_in_nI kb_1 (ltb rfl)) (nI_clamp (Nat.lt_trans kb_1 (ltb rfl))) rfl (oc_79 53 (aq_5 shX12_spill_48)) (fun H locs hP hD hS => ?_)
        refine lv_aload_n hx hb (oc_42 54 (aq_6 shX12_spill_48)) rfl (lvA0 hl) ?_
        refine lv_aload_n hx hb (oc_42 55 (aq_7 shX12_spill_48)) rfl (lvA0 hl) ?_
        refine gM_462 S hK hP (v := .int (nI (cn 75))) rfl (oc_180 56 (aq_8 shX12_spill_48) uw_1_206) ?_
        refine lv_iconst (v := 1) hx hb (oc_4 59 (aq_11 shX12_spill_48)) kic_1 ?_
        refine lv_iadd hx hb (oc_96 60 (aq_12 shX12_spill_48)) ?_
        refine lv_topi (fun y_6 ey_6 => ?_)
        obtain rfl : y_6 = (nI ((cn 75) + 1)) := ey_6.trans (nI_add (cn 75) 1)
        refine pM_462 S hK hP hD hS (a := ((cn 75) + 1)) (cn2 := (va_up cn 75 ((cn 75) + 1))) rfl rfl (oc_181 61 (aq_13 shX12_spill_48) uw_1_206) (fun H locs hP hD hS => ?_)
        refine lv_aload_n hx hb (oc_42 64 (aq_16 shX12_spill_48)) rfl (lvA0 hl) ?_
        refine gM_462 S hK hP (v := .int (nI ((cn 75) + 1))) rfl (oc_180 65 (aq_17 shX12_spill_48) uw_1_206) ?_
        exact W.iret (v := (nI ((cn 75) + 1))) hx hb hr (fun t ht hW => ⟨⟨(nI ((cn 75) + 1)), ((va_up cn 75 ((cn 75) + 1)), In, (va_up (va_up Fn 81 (upd (Fn 81) (cn 75) v0)) 82 (upd (Fn 82) (cn 75) v1))), rfl, (Or.inl ⟨(by first | (first | omega | (have zz0 := Hid.u hi_cn; omega)) | (simp only [zd0]; (first | omega | (have zz0 := Hid.u hi_cn; omega)))), rfl, rfl, rfl, by first | rfl | simp only [zd0, zd1] | simp only [zd0]⟩), by rw [ht]; exact hP, hD⟩, hS.F ht⟩) hS.2.2 (oc_172 68 (aq_20 shX12_spill_48))
      ·
        have tc_5 : ((nI (cn 75)).toInt : Int) = 40 := congrArg Int32.toInt c_5
        refine lv_iconst (v := (-1)) hx hb (oc_2 32 (aq_8 shX12_spill_24)) kic_m1 ?_
        exact W.iret (v := (-1)) hx hb hr (fun t ht hW => ⟨⟨(-1), (cn, In, Fn), rfl, (Or.inr ⟨(by first | (first | omega | (have zz0 := Hid.u hi_cn; omega)) | (simp only [zd0]; (first | omega | (have zz0 := Hid.u hi_cn; omega)))), rfl, rfl, rfl, rfl⟩), by rw [ht]; exact hP, hD⟩, hS.F ht⟩) hS.2.2 (oc_172 33 (aq_9 shX12_spill_24))
    ·
      have h_4 : ¬ (1 ≤ v1.toInt ∧ v1.toInt ≤ 400) := h_4
      refine lv_if_eq (tgt := 32) hx hb (oc_153 20 (aq_20 shX12_spill_0) sgw_0_12) rfl (fun _ => ?_) (fun h => absurd h cq_eq_0_0)
      refine lv_iconst (v := (-1)) hx hb (oc_2 32 (aq_8 shX12_spill_24)) kic_m1 ?_
      exact W.iret (v := (-1)) hx hb hr (fun t ht hW => ⟨⟨(-1), (cn, In, Fn), rfl, (Or.inr ⟨(by first | (first | omega | (have zz0 := Hid.u hi_cn; omega)) | (simp only [zd0]; (first | omega | (have zz0 := Hid.u hi_cn; omega)))), rfl, rfl, rfl, rfl⟩), by rw [ht]; exact hP, hD⟩, hS.F ht⟩) hS.2.2 (oc_172 33 (aq_9 shX12_spill_24))
  ·
    have h_2 : ¬ (0 ≤ v0.toInt ∧ v0.toInt ≤ (nI (cn 0)).toInt) := h_2
    refine lv_if_eq (tgt := 32) hx hb (oc_153 9 (aq_9 shX12_spill_0) sgw_0_23) rfl (fun _ => ?_) (fun h => absurd h cq_eq_0_0)
    refine lv_iconst (v := (-1)) hx hb (oc_2 32 (aq_8 shX12_spill_24)) kic_m1 ?_
    exact W.iret (v := (-1)) hx hb hr (fun t ht hW => ⟨⟨(-1), (cn, In, Fn), rfl, (Or.inr ⟨(by first | (first | omega | (have zz0 := Hid.u hi_cn; omega)) | (simp only [zd0]; (first | omega | (have zz0 := Hid.u hi_cn; omega)))), rfl, rfl, rfl, rfl⟩), by rw [ht]; exact hP, hD⟩, hS.F ht⟩) hS.2.2 (oc_172 33 (aq_9 shX12_spill_24))
set_option maxRecDepth 100000 in
set_option maxHeartbeats 4000000 in
theorem q_blocked (l : Launch) (D : va_G) (cI cB cZ : ClassId) (g : Nat → Nat) (cn : Nat → Nat) (In : Nat → Int32) (Fn : Nat → Nat → Int32) (v0 : Int32) (sz : Nat) (hI : IM cn Fn) : Met l yX12_blocked (CWS yX12_blocked cX12_blocked 2 (some .int)) (RM 0 0 0) (PBw [.ref (g 100), .int v0] D cI cB cZ (wM cI cB cZ g cn In Fn) sz) (va_Qi (fun (r : Int32) (u : (Nat → Nat) × (Nat → Int32) × (Nat → Nat → Int32)) => (fun r c2 I2 F2 => ((0 ≤ v0.toInt ∧ v0.toInt < (cn 83 : Int)) ∧ r = Fn 89 v0.toInt.toNat + 1 ∧ c2 = cn ∧ I2 = In ∧ F2 = (va_up Fn 89 (upd (Fn 89) v0.toInt.toNat (Fn 89 v0.toInt.toNat + 1)))) ∨ ((¬ (0 ≤ v0.toInt ∧ v0.toInt < (cn 83 : Int))) ∧ r = -1 ∧ c2 = cn ∧ I2 = In ∧ F2 = Fn)) r u.1 u.2.1 u.2.2) (fun (u : (Nat → Nat) × (Nat → Int32) × (Nat → Nat → Int32)) (t : State) => va_P D vwCl (wM cI cB cZ g u.1 u.2.1 u.2.2) t.heap ∧ va_D (va_A (wM cI cB cZ g cn In Fn) sz) (wM cI cB cZ g u.1 u.2.1 u.2.2)) (va_A (wM cI cB cZ g cn In Fn) sz)) 0 0 (va_A (wM cI cB cZ g cn In Fn) sz) := by
  refine en_w (fun A => (va_Qi (fun (r : Int32) (u : (Nat → Nat) × (Nat → Int32) × (Nat → Nat → Int32)) => (fun (r : Int32) (c2 : Nat → Nat) (I2 : Nat → Int32) (F2 : Nat → Nat → Int32) => ((0 ≤ v0.toInt ∧ v0.toInt < (cn 83 : Int)) ∧ r = Fn 89 v0.toInt.toNat + 1 ∧ c2 = cn ∧ I2 = In ∧ F2 = (va_up Fn 89 (upd (Fn 89) v0.toInt.toNat (Fn 89 v0.toInt.toNat + 1)))) ∨ ((¬ (0 ≤ v0.toInt ∧ v0.toInt < (cn 83 : Int))) ∧ r = -1 ∧ c2 = cn ∧ I2 = In ∧ F2 = Fn)) r u.1 u.2.1 u.2.2) (fun (u : (Nat → Nat) × (Nat → Int32) × (Nat → Nat → Int32)) (t : State) => va_P D vwCl (wM cI cB cZ g u.1 u.2.1 u.2.2) t.heap ∧ va_D A (wM cI cB cZ g u.1 u.2.1 u.2.2)) A)) rfl rfl pn_RX12 (Nat.le_of_ble_eq_true rfl) (fun p e s m below meth c A hx hb hml hown S hr hlocks hnm hA hP hK hD hS ls hl => ?_)
  have hl : lv_has ls 2 [(0, .ref (g 100)), (1, .int v0)] := hl
  have hi_cn : Hid (CB cn) := hI.b
  refine lv_iload_n hx hb (oc_27 0 shX12_blocked_0) rfl (lvA1 hl) ?_
  refine lv_if_lt (tgt := 12) hx hb (oc_155 1 (aq_1 shX12_blocked_0) sgw_0_11) rfl (fun c_1 => ?_) (fun c_1 => ?_)
  ·
    have tc_1 : (v0.toInt : Int) < 0 := Int32.lt_iff_toInt_lt.mp c_1
    refine lv_iconst (v := (-1)) hx hb (oc_2 12 (aq_12 shX12_blocked_0)) kic_m1 ?_
    exact W.iret (v := (-1)) hx hb hr (fun t ht hW => ⟨⟨(-1), (cn, In, Fn), rfl, (Or.inr ⟨(by first | (first | omega | (have zz0 := Hid.u hi_cn; omega)) | (simp only [zd0]; (first | omega | (have zz0 := Hid.u hi_cn; omega)))), rfl, rfl, rfl, rfl⟩), by rw [ht]; exact hP, hD⟩, hS.F ht⟩) hS.2.2 (oc_172 13 (aq_13 shX12_blocked_0))
  ·
    have tc_1 : (0 : Int) ≤ v0.toInt := Int32.le_iff_toInt_le.mp (Int32.not_lt.mp c_1)
    refine lv_iload_n hx hb (oc_27 4 (aq_4 shX12_blocked_0)) rfl (lvA1 hl) ?_
    refine lv_aload_n hx hb (oc_42 5 (aq_5 shX12_blocked_0)) rfl (lvA0 hl) ?_
    refine gM_478 S hK hP (v := .int (nI (cn 83))) rfl (oc_180 6 (aq_6 shX12_blocked_0) uw_1_222) ?_
    have : (nI (cn 83)).toInt = (((cn 83) : Nat) : Int) := nI_toInt (by (first | omega | (have zz0 := Hid.u hi_cn; omega)))
    refine lv_icmp_lt (tgt := 14) hx hb (oc_161 9 (aq_9 shX12_blocked_0) sgw_0_5) rfl (fun c_2 => ?_) (fun c_2 => ?_)
    ·
      have tc_2 : (v0.toInt : Int) < (nI (cn 83)).toInt := Int32.lt_iff_toInt_lt.mp c_2
      obtain ⟨d0, hd0, rfl⟩ := nI_of (x := v0) (fun q => by have := Int32.lt_iff_toInt_lt.mp q; have e : (0 : Int32).toInt = 0 := rfl; (first | omega | (have zz0 := Hid.u hi_cn; omega)))
      have td0 : (nI d0).toInt = (d0 : Int) := nI_toInt hd0
      have zd0 : (nI d0).toInt.toNat = d0 := by (first | omega | (have zz0 := Hid.u hi_cn; omega))
      refine lv_aload_n hx hb (oc_42 14 (aq_14 shX12_blocked_0)) rfl (lvA0 hl) ?_
      refine gM_198 S hK hP (v := .ref (g 89)) rfl (oc_180 15 (aq_15 shX12_blocked_0) uw_0_198) ?_
      refine lv_iload_n hx hb (oc_27 18 (aq_18 shX12_blocked_0)) rfl (lvA1 hl) ?_
      refine lv_aload_n hx hb (oc_42 19 (aq_19 shX12_blocked_0)) rfl (lvA0 hl) ?_
      refine gM_198 S hK hP (v := .ref (g 89)) rfl (oc_180 20 (aq_20 shX12_blocked_0) uw_0_198) ?_
      refine lv_iload_n hx hb (oc_27 23 (aq_23 shX12_blocked_0)) rfl (lvA1 hl) ?_
      have kb_1 : d0 < 10 := by (first | omega | (have zz0 := Hid.u hi_cn; omega))
      refine ldM_89 hx hb hK hP (x := ((Fn 89) d0)) (vp_in_nI kb_1 (ltb rfl)) (nI_clamp (Nat.lt_trans kb_1 (ltb rfl))) rfl (oc_46 24 shX12_blocked_24) ?_
      refine lv_iconst (v := 1) hx hb (oc_4 25 (aq_1 shX12_blocked_24)) kic_1 ?_
      refine lv_iadd hx hb (oc_96 26 (aq_2 shX12_blocked_24)) ?_
      refine stM_89 hx hb hK hP hD hS (Fn2 := (va_up Fn 89 (upd (Fn 89) d0 (((Fn 89) d0) + 1)))) (vp_in_nI kb_1 (ltb rfl)) (nI_clamp (Nat.lt_trans kb_1 (ltb rfl))) rfl (oc_79 27 (aq_3 shX12_blocked_24)) (fun H locs hP hD hS => ?_)
      refine lv_aload_n hx hb (oc_42 28 (aq_4 shX12_blocked_24)) rfl (lvA0 hl) ?_
      refine gM_198 S hK hP (v := .ref (g 89)) rfl (oc_180 29 (aq_5 shX12_blocked_24) uw_0_198) ?_
      refine lv_iload_n hx hb (oc_27 32 (aq_8 shX12_blocked_24)) rfl (lvA1 hl) ?_
      refine ldM_89 hx hb hK hP (x := ((upd (Fn 89) d0 (((Fn 89) d0) + 1)) d0)) (vp_in_nI kb_1 (ltb rfl)) (nI_clamp (Nat.lt_trans kb_1 (ltb rfl))) rfl (oc_46 33 (aq_9 shX12_blocked_24)) ?_
      exact W.iret (v := ((upd (Fn 89) d0 (((Fn 89) d0) + 1)) d0)) hx hb hr (fun t ht hW => ⟨⟨((upd (Fn 89) d0 (((Fn 89) d0) + 1)) d0), (cn, In, (va_up Fn 89 (upd (Fn 89) d0 (((Fn 89) d0) + 1)))), rfl, (Or.inl ⟨(by first | (first | omega | (have zz0 := Hid.u hi_cn; omega)) | (simp only [zd0]; (first | omega | (have zz0 := Hid.u hi_cn; omega)))), by simp only [zd0, upd_self], rfl, rfl, by simp only [zd0]⟩), by rw [ht]; exact hP, hD⟩, hS.F ht⟩) hS.2.2 (oc_172 34 (aq_10 shX12_blocked_24))
    ·
      have tc_2 : ((nI (cn 83)).toInt : Int) ≤ v0.toInt := Int32.le_iff_toInt_le.mp (Int32.not_lt.mp c_2)
      refine lv_iconst (v := (-1)) hx hb (oc_2 12 (aq_12 shX12_blocked_0)) kic_m1 ?_
      exact W.iret (v := (-1)) hx hb hr (fun t ht hW => ⟨⟨(-1), (cn, In, Fn), rfl, (Or.inr ⟨(by first | (first | omega | (have zz0 := Hid.u hi_cn; omega)) | (simp only [zd0]; (first | omega | (have zz0 := Hid.u hi_cn; omega)))), rfl, rfl, rfl, rfl⟩), by rw [ht]; exact hP, hD⟩, hS.F ht⟩) hS.2.2 (oc_172 13 (aq_13 shX12_blocked_0))
set_option maxRecDepth 100000 in
set_option maxHeartbeats 4000000 in
theorem q_off (l : Launch) (D : va_G) (cI cB cZ : ClassId) (g : Nat → Nat) (cn : Nat → Nat) (In : Nat → Int32) (Fn : Nat → Nat → Int32) (v0 v1 v2 : Int32) (sz : Nat) (hI : IM cn Fn) : Met l yX12_off (CWS yX12_off cX12_off 4 (some .boolean)) (RM 1 0 0) (PBw [.ref (g 100), .int v0, .int v1, .int v2] D cI cB cZ (wM cI cB cZ g cn In Fn) sz) (va_Qi (fun (r : Int32) (u : (Nat → Nat) × (Nat → Int32) × (Nat → Nat → Int32)) => (fun r c2 I2 F2 => ((0 ≤ v0.toInt ∧ v0.toInt < (cn 46 : Int) ∧ 0 ≤ v1.toInt ∧ v1.toInt ≤ 399 ∧ Fn 53 (400 * v0.toInt.toNat + v1.toInt.toNat) ≠ v2) ∧ r = 1 ∧ c2 = cn ∧ I2 = In ∧ F2 = (va_up Fn 53 (upd (Fn 53) (400 * v0.toInt.toNat + v1.toInt.toNat) (vp_nar .boolean v2)))) ∨ ((¬ (0 ≤ v0.toInt ∧ v0.toInt < (cn 46 : Int) ∧ 0 ≤ v1.toInt ∧ v1.toInt ≤ 399 ∧ Fn 53 (400 * v0.toInt.toNat + v1.toInt.toNat) ≠ v2)) ∧ r = 0 ∧ c2 = cn ∧ I2 = In ∧ F2 = Fn)) r u.1 u.2.1 u.2.2) (fun (u : (Nat → Nat) × (Nat → Int32) × (Nat → Nat → Int32)) (t : State) => va_P D vwCl (wM cI cB cZ g u.1 u.2.1 u.2.2) t.heap ∧ va_D (va_A (wM cI cB cZ g cn In Fn) sz) (wM cI cB cZ g u.1 u.2.1 u.2.2)) (va_A (wM cI cB cZ g cn In Fn) sz)) 0 0 (va_A (wM cI cB cZ g cn In Fn) sz) := by
  refine en_w (fun A => (va_Qi (fun (r : Int32) (u : (Nat → Nat) × (Nat → Int32) × (Nat → Nat → Int32)) => (fun (r : Int32) (c2 : Nat → Nat) (I2 : Nat → Int32) (F2 : Nat → Nat → Int32) => ((0 ≤ v0.toInt ∧ v0.toInt < (cn 46 : Int) ∧ 0 ≤ v1.toInt ∧ v1.toInt ≤ 399 ∧ Fn 53 (400 * v0.toInt.toNat + v1.toInt.toNat) ≠ v2) ∧ r = 1 ∧ c2 = cn ∧ I2 = In ∧ F2 = (va_up Fn 53 (upd (Fn 53) (400 * v0.toInt.toNat + v1.toInt.toNat) (vp_nar .boolean v2)))) ∨ ((¬ (0 ≤ v0.toInt ∧ v0.toInt < (cn 46 : Int) ∧ 0 ≤ v1.toInt ∧ v1.toInt ≤ 399 ∧ Fn 53 (400 * v0.toInt.toNat + v1.toInt.toNat) ≠ v2)) ∧ r = 0 ∧ c2 = cn ∧ I2 = In ∧ F2 = Fn)) r u.1 u.2.1 u.2.2) (fun (u : (Nat → Nat) × (Nat → Int32) × (Nat → Nat → Int32)) (t : State) => va_P D vwCl (wM cI cB cZ g u.1 u.2.1 u.2.2) t.heap ∧ va_D A (wM cI cB cZ g u.1 u.2.1 u.2.2)) A)) rfl rfl pn_RX12 (Nat.le_of_ble_eq_true rfl) (fun p e s m below meth c A hx hb hml hown S hr hlocks hnm hA hP hK hD hS ls hl => ?_)
  have hl : lv_has ls 4 [(0, .ref (g 100)), (1, .int v0), (2, .int v1), (3, .int v2)] := hl
  have hi_cn : Hid (CB cn) := hI.b
  refine lv_iload_n hx hb (oc_27 0 shX12_off_0) rfl (lvA1 hl) ?_
  refine lv_if_lt (tgt := 35) hx hb (oc_155 1 (aq_1 shX12_off_0) sgw_0_34) rfl (fun c_1 => ?_) (fun c_1 => ?_)
  ·
    have tc_1 : (v0.toInt : Int) < 0 := Int32.lt_iff_toInt_lt.mp c_1
    refine lv_iconst (v := 0) hx hb dX12_off_35 kic_0 ?_
    exact W.zret (v := 0) hx hb hr rfl (fun t ht hW => ⟨⟨0, (cn, In, Fn), rfl, (Or.inr ⟨(by first | (first | omega | (have zz0 := Hid.u hi_cn; omega)) | (simp only [zd0]; (first | omega | (have zz0 := Hid.u hi_cn; omega))) | (simp only [zd0, zd1]; intro q; exact q.2.2.2.2 (by assumption))), rfl, rfl, rfl, rfl⟩), by rw [ht]; exact hP, hD⟩, hS.F ht⟩) hS.2.2 dX12_off_36
  ·
    have tc_1 : (0 : Int) ≤ v0.toInt := Int32.le_iff_toInt_le.mp (Int32.not_lt.mp c_1)
    refine lv_iload_n hx hb (oc_27 4 (aq_4 shX12_off_0)) rfl (lvA1 hl) ?_
    refine lv_aload_n hx hb (oc_42 5 (aq_5 shX12_off_0)) rfl (lvA0 hl) ?_
    refine gM_386 S hK hP (v := .int (nI (cn 46))) rfl (oc_180 6 (aq_6 shX12_off_0) uw_1_130) ?_
    have : (nI (cn 46)).toInt = (((cn 46) : Nat) : Int) := nI_toInt (by (first | omega | (have zz0 := Hid.u hi_cn; omega)))
    refine lv_icmp_ge (tgt := 35) hx hb (oc_162 9 (aq_9 shX12_off_0) sgw_0_26) rfl (fun c_2 => ?_) (fun c_2 => ?_)
    ·
      have tc_2 : ((nI (cn 46)).toInt : Int) ≤ v0.toInt := Int32.le_iff_toInt_le.mp c_2
      refine lv_iconst (v := 0) hx hb dX12_off_35 kic_0 ?_
      exact W.zret (v := 0) hx hb hr rfl (fun t ht hW => ⟨⟨0, (cn, In, Fn), rfl, (Or.inr ⟨(by first | (first | omega | (have zz0 := Hid.u hi_cn; omega)) | (simp only [zd0]; (first | omega | (have zz0 := Hid.u hi_cn; omega))) | (simp only [zd0, zd1]; intro q; exact q.2.2.2.2 (by assumption))), rfl, rfl, rfl, rfl⟩), by rw [ht]; exact hP, hD⟩, hS.F ht⟩) hS.2.2 dX12_off_36
    ·
      have tc_2 : (v0.toInt : Int) < (nI (cn 46)).toInt := Int32.lt_iff_toInt_lt.mp (Int32.not_le.mp c_2)
      obtain ⟨d0, hd0, rfl⟩ := nI_of (x := v0) (fun q => by have := Int32.lt_iff_toInt_lt.mp q; have e : (0 : Int32).toInt = 0 := rfl; (first | omega | (have zz0 := Hid.u hi_cn; omega)))
      have td0 : (nI d0).toInt = (d0 : Int) := nI_toInt hd0
      have zd0 : (nI d0).toInt.toNat = d0 := by (first | omega | (have zz0 := Hid.u hi_cn; omega))
      refine lv_iload_n hx hb (oc_28 12 (aq_12 shX12_off_0)) rfl (lvA2 hl) ?_
      refine vp_callSi (runS_r (As := [.int v1]) (rest := []) S (q_isDay l D cI cB cZ v1 ) kS_RX12_341 hK hP [] rfl ⟨Nat.le_of_ble_eq_true rfl, Nat.le_of_ble_eq_true rfl⟩ ⟨Nat.le_of_ble_eq_true rfl, Nat.le_of_ble_eq_true rfl⟩ rfl hl.1 rfl (Nat.le_of_ble_eq_true rfl) (oc_184 13 (aq_13 shX12_off_0) uw_1_85)) (fun r_3 h_4 => ?_)
      rcases h_4 with ⟨rfl, h_4⟩ | ⟨rfl, h_4⟩
      ·
        have h_4 : 0 ≤ v1.toInt ∧ v1.toInt ≤ 399 := h_4
        refine lv_if_eq (tgt := 35) hx hb (oc_153 16 (aq_16 shX12_off_0) sgw_0_19) rfl (fun h => absurd h cq_eq_1_0) (fun _ => ?_)
        obtain ⟨d1, hd1, rfl⟩ := nI_of (x := v1) (fun q => by have := Int32.lt_iff_toInt_lt.mp q; have e : (0 : Int32).toInt = 0 := rfl; (first | omega | (have zz0 := Hid.u hi_cn; omega)))
        have td1 : (nI d1).toInt = (d1 : Int) := nI_toInt hd1
        have zd1 : (nI d1).toInt.toNat = d1 := by (first | omega | (have zz0 := Hid.u hi_cn; omega))
        refine lv_aload_n hx hb (oc_42 19 (aq_19 shX12_off_0)) rfl (lvA0 hl) ?_
        refine gM_125 S hK hP (v := .ref (g 53)) rfl (oc_180 20 (aq_20 shX12_off_0) uw_0_125) ?_
        refine lv_sipush (v := 400) hx hb (oc_17 23 (aq_23 shX12_off_0) sgw_1_144) (by decide) ?_
        refine lv_iload_n hx hb (oc_27 26 shX12_off_26) rfl (lvA1 hl) ?_
        refine lv_imul hx hb (oc_104 27 (aq_1 shX12_off_26)) ?_
        refine lv_topi (fun y_5 ey_5 => ?_)
        obtain rfl : y_5 = (nI (400 * d0)) := ey_5.trans (pk_mul 400 d0)
        refine lv_iload_n hx hb (oc_28 28 (aq_2 shX12_off_26)) rfl (lvA2 hl) ?_
        refine lv_iadd hx hb (oc_96 29 (aq_3 shX12_off_26)) ?_
        refine lv_topi (fun y_6 ey_6 => ?_)
        obtain rfl : y_6 = (nI ((400 * d0) + d1)) := ey_6.trans (nI_add (400 * d0) d1)
        have kb_1 : ((400 * d0) + d1) < 1200 := by (first | omega | (have zz0 := Hid.u hi_cn; omega))
        refine ldM_53 hx hb hK hP (x := ((Fn 53) ((400 * d0) + d1))) (vp_in_nI kb_1 (ltb rfl)) (nI_clamp (Nat.lt_trans kb_1 (ltb rfl))) rfl (oc_51 30 (aq_4 shX12_off_26)) ?_
        refine lv_iload_n hx hb (oc_29 31 (aq_5 shX12_off_26)) rfl (lvA3 hl) ?_
        refine lv_icmp_ne (tgt := 37) hx hb (oc_160 32 (aq_6 shX12_off_26) sgw_0_5) rfl (fun c_7 => ?_) (fun c_7 => ?_)
        ·
          have tc_7 : (((Fn 53) ((400 * d0) + d1)).toInt : Int) ≠ v2.toInt := fun q => c_7 (Int32.toInt_inj.mp q)
          refine lv_aload_n hx hb (oc_42 37 (aq_11 shX12_off_26)) rfl (lvA0 hl) ?_
          refine gM_125 S hK hP (v := .ref (g 53)) rfl (oc_180 38 (aq_12 shX12_off_26) uw_0_125) ?_
          refine lv_sipush (v := 400) hx hb (oc_17 41 (aq_15 shX12_off_26) sgw_1_144) (by decide) ?_
          refine lv_iload_n hx hb (oc_27 44 (aq_18 shX12_off_26)) rfl (lvA1 hl) ?_
          refine lv_imul hx hb (oc_104 45 (aq_19 shX12_off_26)) ?_
          refine lv_topi (fun y_8 ey_8 => ?_)
          obtain rfl : y_8 = (nI (400 * d0)) := ey_8.trans (pk_mul 400 d0)
          refine lv_iload_n hx hb (oc_28 46 (aq_20 shX12_off_26)) rfl (lvA2 hl) ?_
          refine lv_iadd hx hb (oc_96 47 (aq_21 shX12_off_26)) ?_
          refine lv_topi (fun y_9 ey_9 => ?_)
          obtain rfl : y_9 = (nI ((400 * d0) + d1)) := ey_9.trans (nI_add (400 * d0) d1)
          refine lv_iload_n hx hb (oc_29 48 (aq_22 shX12_off_26)) rfl (lvA3 hl) ?_
          refine stM_53 hx hb hK hP hD hS (Fn2 := (va_up Fn 53 (upd (Fn 53) ((400 * d0) + d1) (vp_nar .boolean v2)))) (vp_in_nI kb_1 (ltb rfl)) (nI_clamp (Nat.lt_trans kb_1 (ltb rfl))) rfl (oc_84 49 (aq_23 shX12_off_26)) (fun H locs hP hD hS => ?_)
          refine lv_iconst (v := 1) hx hb (oc_4 50 shX12_off_50) kic_1 ?_
          exact W.zret (v := 1) hx hb hr rfl (fun t ht hW => ⟨⟨1, (cn, In, (va_up Fn 53 (upd (Fn 53) ((400 * d0) + d1) (vp_nar .boolean v2)))), rfl, (Or.inl ⟨⟨by (first | omega | (have zz0 := Hid.u hi_cn; omega)), by (first | omega | (have zz0 := Hid.u hi_cn; omega)), by (first | omega | (have zz0 := Hid.u hi_cn; omega)), by (first | omega | (have zz0 := Hid.u hi_cn; omega)), by simp only [zd0, zd1]; assumption⟩, rfl, rfl, rfl, by simp only [zd0, zd1]⟩), by rw [ht]; exact hP, hD⟩, hS.F ht⟩) hS.2.2 (oc_172 51 (aq_1 shX12_off_50))
        ·
          have tc_7 : (((Fn 53) ((400 * d0) + d1)).toInt : Int) = v2.toInt := congrArg Int32.toInt c_7
          refine lv_iconst (v := 0) hx hb dX12_off_35 kic_0 ?_
          exact W.zret (v := 0) hx hb hr rfl (fun t ht hW => ⟨⟨0, (cn, In, Fn), rfl, (Or.inr ⟨(by first | (first | omega | (have zz0 := Hid.u hi_cn; omega)) | (simp only [zd0]; (first | omega | (have zz0 := Hid.u hi_cn; omega))) | (simp only [zd0, zd1]; intro q; exact q.2.2.2.2 (by assumption))), rfl, rfl, rfl, rfl⟩), by rw [ht]; exact hP, hD⟩, hS.F ht⟩) hS.2.2 dX12_off_36
      ·
        have h_4 : ¬ (0 ≤ v1.toInt ∧ v1.toInt ≤ 399) := h_4
        refine lv_if_eq (tgt := 35) hx hb (oc_153 16 (aq_16 shX12_off_0) sgw_0_19) rfl (fun _ => ?_) (fun h => absurd h cq_eq_0_0)
        refine lv_iconst (v := 0) hx hb dX12_off_35 kic_0 ?_
        exact W.zret (v := 0) hx hb hr rfl (fun t ht hW => ⟨⟨0, (cn, In, Fn), rfl, (Or.inr ⟨(by first | (first | omega | (have zz0 := Hid.u hi_cn; omega)) | (simp only [zd0]; (first | omega | (have zz0 := Hid.u hi_cn; omega))) | (simp only [zd0, zd1]; intro q; exact q.2.2.2.2 (by assumption))), rfl, rfl, rfl, rfl⟩), by rw [ht]; exact hP, hD⟩, hS.F ht⟩) hS.2.2 dX12_off_36
set_option maxRecDepth 100000 in
set_option maxHeartbeats 4000000 in
theorem q_missing (l : Launch) (D : va_G) (cI cB cZ : ClassId) (g : Nat → Nat) (cn : Nat → Nat) (In : Nat → Int32) (Fn : Nat → Nat → Int32) (v0 : Int32) (hI : IM cn Fn) : Met l yX12_missing (CWS yX12_missing cX12_missing 2 (some .int)) (RM 1 0 0) (PBr [.ref (g 100), .int v0] D cI cB cZ (wM cI cB cZ g cn In Fn)) (vp_Si (fun r => ((0 ≤ v0.toInt ∧ v0.toInt < (cn 2 : Int)) ∧ r = Fn 14 v0.toInt.toNat) ∨ (¬ (0 ≤ v0.toInt ∧ v0.toInt < (cn 2 : Int)) ∧ r = -1))) 0 0 (fun _ => False) := by
  refine en_r rfl pn_RX12 (Nat.le_of_ble_eq_true rfl) (fun p e s m below meth c hx hb hml hown S hr hlocks hnm hP hK hS ls hl => ?_)
  have hl : lv_has ls 2 [(0, .ref (g 100)), (1, .int v0)] := hl
  have hi_cn : Hid (CB cn) := hI.b
  refine lv_aload_n hx hb (oc_42 0 shX12_missing_0) rfl (lvA0 hl) ?_
  refine lv_iload_n hx hb (oc_27 1 (aq_1 shX12_missing_0)) rfl (lvA1 hl) ?_
  refine vp_callSi (runV_ra (As := [.int v0]) (rest := []) S (q_isLoad l D cI cB cZ g cn In Fn v0 hI) kV_RX12_335 hK hP 0 rfl rfl rfl ⟨Nat.le_of_ble_eq_true rfl, Nat.le_of_ble_eq_true rfl⟩ ⟨Nat.le_of_ble_eq_true rfl, Nat.le_of_ble_eq_true rfl⟩ rfl hl.1 rfl (Nat.le_of_ble_eq_true rfl) (oc_182 2 (aq_2 shX12_missing_0) uw_1_79)) (fun r_1 h_2 => ?_)
  rcases h_2 with ⟨rfl, h_2⟩ | ⟨rfl, h_2⟩
  ·
    have h_2 : 0 ≤ v0.toInt ∧ v0.toInt < ((cn 2) : Int) := h_2
    refine lv_if_eq (tgt := 17) hx hb (oc_153 5 (aq_5 shX12_missing_0) sgw_0_12) rfl (fun h => absurd h cq_eq_1_0) (fun _ => ?_)
    obtain ⟨d0, hd0, rfl⟩ := nI_of (x := v0) (fun q => by have := Int32.lt_iff_toInt_lt.mp q; have e : (0 : Int32).toInt = 0 := rfl; (first | omega | (have zz0 := Hid.u hi_cn; omega)))
    have td0 : (nI d0).toInt = (d0 : Int) := nI_toInt hd0
    have zd0 : (nI d0).toInt.toNat = d0 := by (first | omega | (have zz0 := Hid.u hi_cn; omega))
    refine lv_aload_n hx hb (oc_42 8 (aq_8 shX12_missing_0)) rfl (lvA0 hl) ?_
    refine gM_43 S hK hP (v := .ref (g 14)) rfl (oc_180 9 (aq_9 shX12_missing_0) uw_0_43) ?_
    refine lv_iload_n hx hb (oc_27 12 (aq_12 shX12_missing_0)) rfl (lvA1 hl) ?_
    have kb_1 : d0 < 60 := by (first | omega | (have zz0 := Hid.u hi_cn; omega))
    refine ldM_14 hx hb hK hP (x := ((Fn 14) d0)) (vp_in_nI kb_1 (ltb rfl)) (nI_clamp (Nat.lt_trans kb_1 (ltb rfl))) rfl (oc_46 13 (aq_13 shX12_missing_0)) ?_
    refine lv_goto (tgt := 18) hx hb (oc_167 14 (aq_14 shX12_missing_0) sgw_0_4) rfl ?_
    exact W.iret (v := ((Fn 14) d0)) hx hb hr (fun t ht hW => ⟨((Fn 14) d0), rfl, (Or.inl ⟨(by first | (first | omega | (have zz0 := Hid.u hi_cn; omega)) | (simp only [zd0]; (first | omega | (have zz0 := Hid.u hi_cn; omega)))), by rw [zd0]⟩), ht⟩) (fun _ h => absurd h List.not_mem_nil) (oc_172 18 (aq_18 shX12_missing_0))
  ·
    have h_2 : ¬ (0 ≤ v0.toInt ∧ v0.toInt < ((cn 2) : Int)) := h_2
    refine lv_if_eq (tgt := 17) hx hb (oc_153 5 (aq_5 shX12_missing_0) sgw_0_12) rfl (fun _ => ?_) (fun h => absurd h cq_eq_0_0)
    refine lv_iconst (v := (-1)) hx hb (oc_2 17 (aq_17 shX12_missing_0)) kic_m1 ?_
    exact W.iret (v := (-1)) hx hb hr (fun t ht hW => ⟨(-1), rfl, (Or.inr ⟨(by first | (first | omega | (have zz0 := Hid.u hi_cn; omega)) | (simp only [zd0]; (first | omega | (have zz0 := Hid.u hi_cn; omega)))), rfl⟩), ht⟩) (fun _ h => absurd h List.not_mem_nil) (oc_172 18 (aq_18 shX12_missing_0))
set_option maxRecDepth 100000 in
set_option maxHeartbeats 4000000 in
theorem q_types (l : Launch) (D : va_G) (cI cB cZ : ClassId) (g : Nat → Nat) (cn : Nat → Nat) (In : Nat → Int32) (Fn : Nat → Nat → Int32) (v0 : Int32) (sz : Nat) (hI : IM cn Fn) (ht : cn 18 + 4 ≤ 200) : Met l yX12_types (CWS yX12_types cX12_types 3 none) (RM 0 0 0) (PBw [.ref (g 100), .int v0] D cI cB cZ (wM cI cB cZ g cn In Fn) sz) (va_Qv (fun (u : (Nat → Nat) × (Nat → Int32) × (Nat → Nat → Int32)) => (fun c2 I2 F2 => Fr [18] [] [17] cn In Fn c2 I2 F2 ∧ IM c2 F2 ∧ (c2 18 = cn 18 + 4)) u.1 u.2.1 u.2.2) (fun (u : (Nat → Nat) × (Nat → Int32) × (Nat → Nat → Int32)) (t : State) => va_P D vwCl (wM cI cB cZ g u.1 u.2.1 u.2.2) t.heap ∧ va_D (va_A (wM cI cB cZ g cn In Fn) sz) (wM cI cB cZ g u.1 u.2.1 u.2.2)) (va_A (wM cI cB cZ g cn In Fn) sz)) 0 0 (va_A (wM cI cB cZ g cn In Fn) sz) := by
  refine en_w (fun A => (va_Qv (fun (u : (Nat → Nat) × (Nat → Int32) × (Nat → Nat → Int32)) => (fun (c2 : Nat → Nat) (I2 : Nat → Int32) (F2 : Nat → Nat → Int32) => Fr [18] [] [17] cn In Fn c2 I2 F2 ∧ IM c2 F2 ∧ (c2 18 = cn 18 + 4)) u.1 u.2.1 u.2.2) (fun (u : (Nat → Nat) × (Nat → Int32) × (Nat → Nat → Int32)) (t : State) => va_P D vwCl (wM cI cB cZ g u.1 u.2.1 u.2.2) t.heap ∧ va_D A (wM cI cB cZ g u.1 u.2.1 u.2.2)) A)) rfl rfl pn_RX12 (Nat.le_of_ble_eq_true rfl) (fun p e s m below meth c A hx hb hml hown S hr hlocks hnm hA hP hK hD hS ls hl => ?_)
  have hl : lv_has ls 3 [(0, .ref (g 100)), (1, .int v0)] := hl
  have hi_cn : Hid (CB cn) := hI.b
  refine lv_iconst (v := 3) hx hb (oc_6 0 shX12_types_0) kic_3 ?_
  refine lv_istore_n (lv' := [(2, .int 3), (0, .ref (g 100)), (1, .int v0)]) hx hb (oc_61 1 (aq_1 shX12_types_0)) rfl hl (ltb rfl) rfl (fun ls hl => ?_)
  refine lv_iload_n hx hb dX12_types_2 rfl (lvA0 hl) ?_
  refine lv_if_lt (tgt := 38) hx hb dX12_types_3 rfl (fun h => absurd h cq_lt_3_0) (fun _ => ?_)
  refine lv_aload_n hx hb dX12_types_6 rfl (lvA1 hl) ?_
  refine gM_52 S hK hP (v := .ref (g 17)) rfl dX12_types_7 ?_
  refine lv_aload_n hx hb dX12_types_10 rfl (lvA1 hl) ?_
  refine gM_226 S hK hP (v := .int (nI (cn 18))) rfl dX12_types_11 ?_
  refine lv_iload_n hx hb dX12_types_14 rfl (lvA2 hl) ?_
  refine lv_bipush (v := 8) hx hb dX12_types_15 kbc_8 ?_
  refine lv_iload_n hx hb dX12_types_17 rfl (lvA0 hl) ?_
  refine lv_imul hx hb dX12_types_18 ?_
  refine lv_topi (fun y_1 ey_1 => ?_)
  obtain rfl : y_1 = 24 := ey_1.trans (by decide)
  refine lv_ishr hx hb dX12_types_19 ?_
  refine lv_i2b (v := (v0 >>> (24 &&& 31)).toInt8.toInt32) hx hb dX12_types_20 rfl ?_
  have kb_1 : (cn 18) < 200 := by (first | omega | (have zz0 := Hid.u hi_cn; omega))
  refine stM_17 hx hb hK hP hD hS (Fn2 := (va_up Fn 17 (upd (Fn 17) (cn 18) (vp_nar .byte (v0 >>> (24 &&& 31)).toInt8.toInt32)))) (vp_in_nI kb_1 (ltb rfl)) (nI_clamp (Nat.lt_trans kb_1 (ltb rfl))) rfl dX12_types_21 (fun H locs hP hD hS => ?_)
  refine lv_aload_n hx hb dX12_types_22 rfl (lvA1 hl) ?_
  refine lv_aload_n hx hb dX12_types_23 rfl (lvA1 hl) ?_
  refine gM_226 S hK hP (v := .int (nI (cn 18))) rfl dX12_types_24 ?_
  refine lv_iconst (v := 1) hx hb dX12_types_27 kic_1 ?_
  refine lv_iadd hx hb dX12_types_28 ?_
  refine lv_topi (fun y_2 ey_2 => ?_)
  obtain rfl : y_2 = (nI ((cn 18) + 1)) := ey_2.trans (nI_add (cn 18) 1)
  refine pM_226 S hK hP hD hS (a := ((cn 18) + 1)) (cn2 := (va_up cn 18 ((cn 18) + 1))) rfl rfl dX12_types_29 (fun H locs hP hD hS => ?_)
  refine lv_iinc (v := 2) (lv' := [(2, .int 2), (0, .ref (g 100)), (1, .int v0)]) hx hb dX12_types_32 hl (k := 0) rfl (by decide) (ltb rfl) rfl (fun ls hl => ?_)
  refine lv_goto (tgt := 2) hx hb dX12_types_35 rfl ?_
  refine lv_iload_n hx hb dX12_types_2 rfl (lvA0 hl) ?_
  refine lv_if_lt (tgt := 38) hx hb dX12_types_3 rfl (fun h => absurd h cq_lt_2_0) (fun _ => ?_)
  refine lv_aload_n hx hb dX12_types_6 rfl (lvA1 hl) ?_
  refine gM_52 S hK hP (v := .ref (g 17)) rfl dX12_types_7 ?_
  refine lv_aload_n hx hb dX12_types_10 rfl (lvA1 hl) ?_
  refine gM_226 S hK hP (v := .int (nI ((cn 18) + 1))) rfl dX12_types_11 ?_
  refine lv_iload_n hx hb dX12_types_14 rfl (lvA2 hl) ?_
  refine lv_bipush (v := 8) hx hb dX12_types_15 kbc_8 ?_
  refine lv_iload_n hx hb dX12_types_17 rfl (lvA0 hl) ?_
  refine lv_imul hx hb dX12_types_18 ?_
  refine lv_topi (fun y_3 ey_3 => ?_)
  obtain rfl : y_3 = 16 := ey_3.trans (by decide)
  refine lv_ishr hx hb dX12_types_19 ?_
  refine lv_i2b (v := (v0 >>> (16 &&& 31)).toInt8.toInt32) hx hb dX12_types_20 rfl ?_
  have kb_2 : ((cn 18) + 1) < 200 := by (first | omega | (have zz0 := Hid.u hi_cn; omega))
  refine stM_17 hx hb hK hP hD hS (Fn2 := (va_up Fn 17 (upd (upd (Fn 17) (cn 18) (vp_nar .byte (v0 >>> (24 &&& 31)).toInt8.toInt32)) ((cn 18) + 1) (vp_nar .byte (v0 >>> (16 &&& 31)).toInt8.toInt32)))) (vp_in_nI kb_2 (ltb rfl)) (nI_clamp (Nat.lt_trans kb_2 (ltb rfl))) (bx_uu _ _ _ _) dX12_types_21 (fun H locs hP hD hS => ?_)
  refine lv_aload_n hx hb dX12_types_22 rfl (lvA1 hl) ?_
  refine lv_aload_n hx hb dX12_types_23 rfl (lvA1 hl) ?_
  refine gM_226 S hK hP (v := .int (nI ((cn 18) + 1))) rfl dX12_types_24 ?_
  refine lv_iconst (v := 1) hx hb dX12_types_27 kic_1 ?_
  refine lv_iadd hx hb dX12_types_28 ?_
  refine lv_topi (fun y_4 ey_4 => ?_)
  obtain rfl : y_4 = (nI (((cn 18) + 1) + 1)) := ey_4.trans (nI_add ((cn 18) + 1) 1)
  refine pM_226 S hK hP hD hS (a := (((cn 18) + 1) + 1)) (cn2 := (va_up cn 18 (((cn 18) + 1) + 1))) rfl (bx_uu _ _ _ _) dX12_types_29 (fun H locs hP hD hS => ?_)
  refine lv_iinc (v := 1) (lv' := [(2, .int 1), (0, .ref (g 100)), (1, .int v0)]) hx hb dX12_types_32 hl (k := 0) rfl (by decide) (ltb rfl) rfl (fun ls hl => ?_)
  refine lv_goto (tgt := 2) hx hb dX12_types_35 rfl ?_
  refine lv_iload_n hx hb dX12_types_2 rfl (lvA0 hl) ?_
  refine lv_if_lt (tgt := 38) hx hb dX12_types_3 rfl (fun h => absurd h cq_lt_1_0) (fun _ => ?_)
  refine lv_aload_n hx hb dX12_types_6 rfl (lvA1 hl) ?_
  refine gM_52 S hK hP (v := .ref (g 17)) rfl dX12_types_7 ?_
  refine lv_aload_n hx hb dX12_types_10 rfl (lvA1 hl) ?_
  refine gM_226 S hK hP (v := .int (nI (((cn 18) + 1) + 1))) rfl dX12_types_11 ?_
  refine lv_iload_n hx hb dX12_types_14 rfl (lvA2 hl) ?_
  refine lv_bipush (v := 8) hx hb dX12_types_15 kbc_8 ?_
  refine lv_iload_n hx hb dX12_types_17 rfl (lvA0 hl) ?_
  refine lv_imul hx hb dX12_types_18 ?_
  refine lv_topi (fun y_5 ey_5 => ?_)
  obtain rfl : y_5 = 8 := ey_5.trans (by decide)
  refine lv_ishr hx hb dX12_types_19 ?_
  refine lv_i2b (v := (v0 >>> (8 &&& 31)).toInt8.toInt32) hx hb dX12_types_20 rfl ?_
  have kb_3 : (((cn 18) + 1) + 1) < 200 := by (first | omega | (have zz0 := Hid.u hi_cn; omega))
  refine stM_17 hx hb hK hP hD hS (Fn2 := (va_up Fn 17 (upd (upd (upd (Fn 17) (cn 18) (vp_nar .byte (v0 >>> (24 &&& 31)).toInt8.toInt32)) ((cn 18) + 1) (vp_nar .byte (v0 >>> (16 &&& 31)).toInt8.toInt32)) (((cn 18) + 1) + 1) (vp_nar .byte (v0 >>> (8 &&& 31)).toInt8.toInt32)))) (vp_in_nI kb_3 (ltb rfl)) (nI_clamp (Nat.lt_trans kb_3 (ltb rfl))) (bx_uu _ _ _ _) dX12_types_21 (fun H locs hP hD hS => ?_)
  refine lv_aload_n hx hb dX12_types_22 rfl (lvA1 hl) ?_
  refine lv_aload_n hx hb dX12_types_23 rfl (lvA1 hl) ?_
  refine gM_226 S hK hP (v := .int (nI (((cn 18) + 1) + 1))) rfl dX12_types_24 ?_
  refine lv_iconst (v := 1) hx hb dX12_types_27 kic_1 ?_
  refine lv_iadd hx hb dX12_types_28 ?_
  refine lv_topi (fun y_6 ey_6 => ?_)
  obtain rfl : y_6 = (nI ((((cn 18) + 1) + 1) + 1)) := ey_6.trans (nI_add (((cn 18) + 1) + 1) 1)
  refine pM_226 S hK hP hD hS (a := ((((cn 18) + 1) + 1) + 1)) (cn2 := (va_up cn 18 ((((cn 18) + 1) + 1) + 1))) rfl (bx_uu _ _ _ _) dX12_types_29 (fun H locs hP hD hS => ?_)
  refine lv_iinc (v := 0) (lv' := [(2, .int 0), (0, .ref (g 100)), (1, .int v0)]) hx hb dX12_types_32 hl (k := 0) rfl (by decide) (ltb rfl) rfl (fun ls hl => ?_)
  refine lv_goto (tgt := 2) hx hb dX12_types_35 rfl ?_
  refine lv_iload_n hx hb dX12_types_2 rfl (lvA0 hl) ?_
  refine lv_if_lt (tgt := 38) hx hb dX12_types_3 rfl (fun h => absurd h cq_lt_0_0) (fun _ => ?_)
  refine lv_aload_n hx hb dX12_types_6 rfl (lvA1 hl) ?_
  refine gM_52 S hK hP (v := .ref (g 17)) rfl dX12_types_7 ?_
  refine lv_aload_n hx hb dX12_types_10 rfl (lvA1 hl) ?_
  refine gM_226 S hK hP (v := .int (nI ((((cn 18) + 1) + 1) + 1))) rfl dX12_types_11 ?_
  refine lv_iload_n hx hb dX12_types_14 rfl (lvA2 hl) ?_
  refine lv_bipush (v := 8) hx hb dX12_types_15 kbc_8 ?_
  refine lv_iload_n hx hb dX12_types_17 rfl (lvA0 hl) ?_
  refine lv_imul hx hb dX12_types_18 ?_
  refine lv_topi (fun y_7 ey_7 => ?_)
  obtain rfl : y_7 = 0 := ey_7.trans (by decide)
  refine lv_ishr hx hb dX12_types_19 ?_
  refine lv_i2b (v := (v0 >>> (0 &&& 31)).toInt8.toInt32) hx hb dX12_types_20 rfl ?_
  have kb_4 : ((((cn 18) + 1) + 1) + 1) < 200 := by (first | omega | (have zz0 := Hid.u hi_cn; omega))
  refine stM_17 hx hb hK hP hD hS (Fn2 := (va_up Fn 17 (upd (upd (upd (upd (Fn 17) (cn 18) (vp_nar .byte (v0 >>> (24 &&& 31)).toInt8.toInt32)) ((cn 18) + 1) (vp_nar .byte (v0 >>> (16 &&& 31)).toInt8.toInt32)) (((cn 18) + 1) + 1) (vp_nar .byte (v0 >>> (8 &&& 31)).toInt8.toInt32)) ((((cn 18) + 1) + 1) + 1) (vp_nar .byte (v0 >>> (0 &&& 31)).toInt8.toInt32)))) (vp_in_nI kb_4 (ltb rfl)) (nI_clamp (Nat.lt_trans kb_4 (ltb rfl))) (bx_uu _ _ _ _) dX12_types_21 (fun H locs hP hD hS => ?_)
  refine lv_aload_n hx hb dX12_types_22 rfl (lvA1 hl) ?_
  refine lv_aload_n hx hb dX12_types_23 rfl (lvA1 hl) ?_
  refine gM_226 S hK hP (v := .int (nI ((((cn 18) + 1) + 1) + 1))) rfl dX12_types_24 ?_
  refine lv_iconst (v := 1) hx hb dX12_types_27 kic_1 ?_
  refine lv_iadd hx hb dX12_types_28 ?_
  refine lv_topi (fun y_8 ey_8 => ?_)
  obtain rfl : y_8 = (nI (((((cn 18) + 1) + 1) + 1) + 1)) := ey_8.trans (nI_add ((((cn 18) + 1) + 1) + 1) 1)
  refine pM_226 S hK hP hD hS (a := (((((cn 18) + 1) + 1) + 1) + 1)) (cn2 := (va_up cn 18 (((((cn 18) + 1) + 1) + 1) + 1))) rfl (bx_uu _ _ _ _) dX12_types_29 (fun H locs hP hD hS => ?_)
  refine lv_iinc (v := (-1)) (lv' := [(2, .int (-1)), (0, .ref (g 100)), (1, .int v0)]) hx hb dX12_types_32 hl (k := 0) rfl (by decide) (ltb rfl) rfl (fun ls hl => ?_)
  refine lv_goto (tgt := 2) hx hb dX12_types_35 rfl ?_
  refine lv_iload_n hx hb dX12_types_2 rfl (lvA0 hl) ?_
  refine lv_if_lt (tgt := 38) hx hb dX12_types_3 rfl (fun _ => ?_) (fun h => absurd h cq_lt_m1_0)
  exact W.vret hx hb hr (fun t ht hW => ⟨⟨((va_up cn 18 (((((cn 18) + 1) + 1) + 1) + 1)), In, (va_up Fn 17 (upd (upd (upd (upd (Fn 17) (cn 18) (vp_nar .byte (v0 >>> (24 &&& 31)).toInt8.toInt32)) ((cn 18) + 1) (vp_nar .byte (v0 >>> (16 &&& 31)).toInt8.toInt32)) (((cn 18) + 1) + 1) (vp_nar .byte (v0 >>> (8 &&& 31)).toInt8.toInt32)) ((((cn 18) + 1) + 1) + 1) (vp_nar .byte (v0 >>> (0 &&& 31)).toInt8.toInt32)))), rfl, ⟨(Fr.mo (Fr.f 17 (Fr.c 18 Fr.rf)) (sbl rfl) (sbl rfl) (sbl rfl)), (IM.fr (In := In) hI (Fr.f 17 (Fr.c 18 Fr.rf)) (by decide) (by decide)), (by show (va_up cn 18 (((((cn 18) + 1) + 1) + 1) + 1)) 18 = cn 18 + 4; rw [va_up_self])⟩, by rw [ht]; exact hP, hD⟩, hS.F ht⟩) hS.2.2 (oc_177 38 (aq_14 shX12_types_24))
