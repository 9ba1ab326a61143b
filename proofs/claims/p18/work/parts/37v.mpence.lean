/-- the reference's machine at k of text t, h on its stack -/
def MRI (o : OutT) (f : Nat → Int32) (a b t : Nat) (ty : Nat → List Bool) (W : Nat → Int32) (k h : Nat) : Prop := ∃ (kk : Nat) (s : List Int32), k = 180 * t + kk ∧ a ≤ kk ∧ kk ≤ b ∧ (EV o f a b kk s ∧ KS (ty kk) s) ∧ STK W s ∧ h = s.length
section MRIS
variable {o : OutT} {f W W2 : Nat → Int32} {a b t k h kk c v : Nat} {ty : Nat → List Bool} {s : List Int32} {x y : Int32} {q : Bool} {F F2 : Nat → Nat → Int32} {cl : ClsT}
theorem MRI.mk (hk : k = 180 * t + kk ∧ a ≤ kk ∧ kk ≤ b) (e : EV o f a b kk s ∧ KS (ty kk) s) (hW : STK W s) (hh : h = s.length) : MRI o f a b t ty W k h := ⟨kk, s, hk.1, hk.2.1, hk.2.2, e, hW, hh⟩
theorem MRI.start (hab : a < b) (ht : ty a = []) : MRI o f a b t ty W (180 * t + a) 0 := MRI.mk (kk := a) (s := []) ⟨rfl, Nat.le_refl _, by omega⟩ ⟨EV.start, by rw [ht]; exact trivial⟩ trivial rfl
theorem MRI.fin (h0 : MRI o f a b t ty W k h) (hk : 180 * t + b ≤ k) (ht : ty b = [q]) : W 0 = MV o f a b ∧ (q = true → MV o f a b = 0 ∨ MV o f a b = 1) := by
  obtain ⟨kk, s, e1, _, e3, e, hW, _⟩ := h0
  obtain rfl : kk = b := by omega
  have g := e.2
  rw [ht] at g
  obtain ⟨x, u, rfl, hx, hu⟩ := g.c
  cases u with
  | nil =>
    have m := e.1.fin (Nat.le_refl _)
    exact ⟨hW.1.trans m.symm, fun w => by rw [m]; exact hx w⟩
  | cons y u => exact hu.elim
theorem MTx.cf (h : MTx F t o cl) (e32 : F2 32 = F 32) (e33 : F2 33 = F 33) (e34 : F2 34 = F 34) (e35 : F2 35 = F 35) (e36 : F2 36 = F 36) : MTx F2 t o cl := by
  unfold MTx at *
  rw [e32, e33, e34, e35, e36]
  exact h
theorem MTx.st (h : MTx F t o cl) (e32 : F2 32 = F 32) (e : o[kk]? = some (c, v)) (hk : k = 180 * t + kk) : F2 32 k = nI ((c - 1) * 1048576 + v) := by
  rw [e32, hk]
  exact (h.2.1 kk _ e).2
theorem MTx.clp {z : Nat × Nat × Nat} (h : MTx F t o cl) (e : cl[k - 12 * t]? = some z) (hk : 12 * t ≤ k) (e34 : F2 34 = F 34) (e35 : F2 35 = F 35) (e36 : F2 36 = F 36) : F2 34 k = nI (180 * t + z.1) ∧ F2 35 k = nI (180 * t + z.2.1) ∧ F2 36 k = nI (180 * t + z.2.2) := by
  have g := h.2.2 _ z e
  rw [show 12 * t + (k - 12 * t) = k by omega] at g
  rw [e34, e35, e36]
  exact g
theorem STK.pu (hS : STK W s) (hk : k = s.length) : STK (upd W k x) (x :: s) := by
  subst hk
  exact hS.push
end MRIS
/-- litres of the loads ahead of a kitchen's -/
def ahdM (F : Nat → Nat → Int32) (n : Nat) : Int32 := sumI (fun i => if F 8 i = F 8 n then F 10 i else 0) n
/-- a load's letters, as the reference has them -/
def lfM (F : Nat → Nat → Int32) (n : Nat) : Nat → Int32 := lfx (F 10 n) (F 11 n) (F 12 n) (F 9 n) (F 8 n) (F 14 n) (ahdM F n) (F 39 ((F 9 n).toInt.toNat / 7))



set_option maxRecDepth 100000 in
set_option maxHeartbeats 4000000 in
theorem q_reckon9 (l : Launch) (D : va_G) (cI cB cZ : ClassId) (t0 : Nat) (v1 v2 : Int32) (ht0 : 2 ≤ t0 ∧ t0 ≤ 9) (hne : t0 = 5 ∨ t0 = 6 → ¬ v2 = 0) : Met l yX12_reckon (CWS yX12_reckon cX12_reckon 3 (some .int)) (RM 0 0 0) (PBr [.int (nI t0), .int v1, .int v2] D cI cB cZ []) (vp_Si (fun r => r = rk (t0 + 1) v1 v2)) 0 0 (fun _ => False) := by
  refine en_r rfl pn_RX12 (Nat.le_of_ble_eq_true rfl) (fun p e s m below meth c hx hb hml hown S hr hlocks hnm hP hK hS ls hl => ?_)
  have hl : lv_has ls 3 [(0, .int (nI t0)), (1, .int v1), (2, .int v2)] := hl
  rcases (by omega : t0 = 2 ∨ t0 = 3 ∨ t0 = 4 ∨ t0 = 5 ∨ t0 = 6 ∨ t0 = 7 ∨ t0 = 8 ∨ t0 = 9) with et0 | et0 | et0 | et0 | et0 | et0 | et0 | et0
  ·
    rw [et0] at hl
    have hl : lv_has ls 3 [(0, .int 2), (1, .int v1), (2, .int v2)] := hl
    refine lv_iload_n hx hb dX12_reckon_0 rfl (lvA0 hl) ?_
    refine lv_tableIn (tgt := 44) hx hb dX12_reckon_1 (by decide) (by decide) rfl (by decide) ?_
    refine lv_iload_n hx hb (oc_27 44 shX12_reckon_44) rfl (lvA1 hl) ?_
    refine lv_iload_n hx hb (oc_28 45 (aq_1 shX12_reckon_44)) rfl (lvA2 hl) ?_
    refine lv_iadd hx hb (oc_96 46 (aq_2 shX12_reckon_44)) ?_
    exact W.iret (v := (v1 + v2)) hx hb hr (fun t ht hW => ⟨(v1 + v2), rfl, (by rw [et0]; exact rfl), ht⟩) (fun _ h => absurd h List.not_mem_nil) (oc_172 47 (aq_3 shX12_reckon_44))
  ·
    rw [et0] at hl
    have hl : lv_has ls 3 [(0, .int 3), (1, .int v1), (2, .int v2)] := hl
    refine lv_iload_n hx hb dX12_reckon_0 rfl (lvA0 hl) ?_
    refine lv_tableIn (tgt := 48) hx hb dX12_reckon_1 (by decide) (by decide) rfl (by decide) ?_
    refine lv_iload_n hx hb (oc_27 48 (aq_4 shX12_reckon_44)) rfl (lvA1 hl) ?_
    refine lv_iload_n hx hb (oc_28 49 (aq_5 shX12_reckon_44)) rfl (lvA2 hl) ?_
    refine lv_isub hx hb (oc_100 50 (aq_6 shX12_reckon_44)) ?_
    exact W.iret (v := (v1 - v2)) hx hb hr (fun t ht hW => ⟨(v1 - v2), rfl, (by rw [et0]; exact rfl), ht⟩) (fun _ h => absurd h List.not_mem_nil) (oc_172 51 (aq_7 shX12_reckon_44))
  ·
    rw [et0] at hl
    have hl : lv_has ls 3 [(0, .int 4), (1, .int v1), (2, .int v2)] := hl
    refine lv_iload_n hx hb dX12_reckon_0 rfl (lvA0 hl) ?_
    refine lv_tableIn (tgt := 52) hx hb dX12_reckon_1 (by decide) (by decide) rfl (by decide) ?_
    refine lv_iload_n hx hb (oc_27 52 (aq_8 shX12_reckon_44)) rfl (lvA1 hl) ?_
    refine lv_iload_n hx hb (oc_28 53 (aq_9 shX12_reckon_44)) rfl (lvA2 hl) ?_
    refine lv_imul hx hb (oc_104 54 (aq_10 shX12_reckon_44)) ?_
    exact W.iret (v := (v1 * v2)) hx hb hr (fun t ht hW => ⟨(v1 * v2), rfl, (by rw [et0]; exact rfl), ht⟩) (fun _ h => absurd h List.not_mem_nil) (oc_172 55 (aq_11 shX12_reckon_44))
  ·
    rw [et0] at hl
    have hl : lv_has ls 3 [(0, .int 5), (1, .int v1), (2, .int v2)] := hl
    refine lv_iload_n hx hb dX12_reckon_0 rfl (lvA0 hl) ?_
    refine lv_tableIn (tgt := 56) hx hb dX12_reckon_1 (by decide) (by decide) rfl (by decide) ?_
    refine lv_iload_n hx hb (oc_27 56 (aq_12 shX12_reckon_44)) rfl (lvA1 hl) ?_
    refine lv_iload_n hx hb (oc_28 57 (aq_13 shX12_reckon_44)) rfl (lvA2 hl) ?_
    refine lv_idiv hx hb (oc_108 58 (aq_14 shX12_reckon_44)) (hne (Or.inl et0)) ?_
    exact W.iret (v := (v1 / v2)) hx hb hr (fun t ht hW => ⟨(v1 / v2), rfl, (by rw [et0]; exact rfl), ht⟩) (fun _ h => absurd h List.not_mem_nil) (oc_172 59 (aq_15 shX12_reckon_44))
  ·
    rw [et0] at hl
    have hl : lv_has ls 3 [(0, .int 6), (1, .int v1), (2, .int v2)] := hl
    refine lv_iload_n hx hb dX12_reckon_0 rfl (lvA0 hl) ?_
    refine lv_tableIn (tgt := 60) hx hb dX12_reckon_1 (by decide) (by decide) rfl (by decide) ?_
    refine lv_iload_n hx hb (oc_27 60 (aq_16 shX12_reckon_44)) rfl (lvA1 hl) ?_
    refine lv_iload_n hx hb (oc_28 61 (aq_17 shX12_reckon_44)) rfl (lvA2 hl) ?_
    refine lv_irem hx hb (oc_112 62 (aq_18 shX12_reckon_44)) (hne (Or.inr et0)) ?_
    exact W.iret (v := (v1 - v1 / v2 * v2)) hx hb hr (fun t ht hW => ⟨(v1 - v1 / v2 * v2), rfl, (by rw [et0]; exact rfl), ht⟩) (fun _ h => absurd h List.not_mem_nil) (oc_172 63 (aq_19 shX12_reckon_44))
  ·
    rw [et0] at hl
    have hl : lv_has ls 3 [(0, .int 7), (1, .int v1), (2, .int v2)] := hl
    refine lv_iload_n hx hb dX12_reckon_0 rfl (lvA0 hl) ?_
    refine lv_tableIn (tgt := 64) hx hb dX12_reckon_1 (by decide) (by decide) rfl (by decide) ?_
    refine lv_iload_n hx hb (oc_27 64 (aq_20 shX12_reckon_44)) rfl (lvA1 hl) ?_
    refine lv_iload_n hx hb (oc_28 65 (aq_21 shX12_reckon_44)) rfl (lvA2 hl) ?_
    refine lv_icmp_ge (tgt := 73) hx hb (oc_162 66 (aq_22 shX12_reckon_44) sgw_0_7) rfl (fun c_1 => ?_) (fun c_1 => ?_)
    ·
      have tc_1 : (v2.toInt : Int) ≤ v1.toInt := Int32.le_iff_toInt_le.mp c_1
      refine lv_iconst (v := 0) hx hb (oc_3 73 (aq_4 shX12_reckon_69)) kic_0 ?_
      exact W.iret (v := 0) hx hb hr (fun t ht hW => ⟨0, rfl, (by rw [et0]; exact (show (0 : Int32) = if v1 < v2 then (1 : Int32) else 0 from (if_neg (fun q => absurd (Int32.lt_iff_toInt_lt.mp q) (by omega))).symm)), ht⟩) (fun _ h => absurd h List.not_mem_nil) dX12_reckon_74
    ·
      have tc_1 : (v1.toInt : Int) < v2.toInt := Int32.lt_iff_toInt_lt.mp (Int32.not_le.mp c_1)
      refine lv_iconst (v := 1) hx hb (oc_4 69 shX12_reckon_69) kic_1 ?_
      refine lv_goto (tgt := 74) hx hb (oc_167 70 (aq_1 shX12_reckon_69) sgw_0_4) rfl ?_
      exact W.iret (v := 1) hx hb hr (fun t ht hW => ⟨1, rfl, (by rw [et0]; exact (show (1 : Int32) = if v1 < v2 then (1 : Int32) else 0 from (if_pos (Int32.lt_iff_toInt_lt.mpr (by omega))).symm)), ht⟩) (fun _ h => absurd h List.not_mem_nil) dX12_reckon_74
  ·
    rw [et0] at hl
    have hl : lv_has ls 3 [(0, .int 8), (1, .int v1), (2, .int v2)] := hl
    refine lv_iload_n hx hb dX12_reckon_0 rfl (lvA0 hl) ?_
    refine lv_tableIn (tgt := 75) hx hb dX12_reckon_1 (by decide) (by decide) rfl (by decide) ?_
    refine lv_iload_n hx hb (oc_27 75 (aq_6 shX12_reckon_69)) rfl (lvA1 hl) ?_
    refine lv_iload_n hx hb (oc_28 76 (aq_7 shX12_reckon_69)) rfl (lvA2 hl) ?_
    refine lv_icmp_le (tgt := 84) hx hb (oc_164 77 (aq_8 shX12_reckon_69) sgw_0_7) rfl (fun c_2 => ?_) (fun c_2 => ?_)
    ·
      have tc_2 : (v1.toInt : Int) ≤ v2.toInt := Int32.le_iff_toInt_le.mp c_2
      refine lv_iconst (v := 0) hx hb (oc_3 84 (aq_15 shX12_reckon_69)) kic_0 ?_
      exact W.iret (v := 0) hx hb hr (fun t ht hW => ⟨0, rfl, (by rw [et0]; exact (show (0 : Int32) = if v2 < v1 then (1 : Int32) else 0 from (if_neg (fun q => absurd (Int32.lt_iff_toInt_lt.mp q) (by omega))).symm)), ht⟩) (fun _ h => absurd h List.not_mem_nil) dX12_reckon_85
    ·
      have tc_2 : (v2.toInt : Int) < v1.toInt := Int32.lt_iff_toInt_lt.mp (Int32.not_le.mp c_2)
      refine lv_iconst (v := 1) hx hb (oc_4 80 (aq_11 shX12_reckon_69)) kic_1 ?_
      refine lv_goto (tgt := 85) hx hb (oc_167 81 (aq_12 shX12_reckon_69) sgw_0_4) rfl ?_
      exact W.iret (v := 1) hx hb hr (fun t ht hW => ⟨1, rfl, (by rw [et0]; exact (show (1 : Int32) = if v2 < v1 then (1 : Int32) else 0 from (if_pos (Int32.lt_iff_toInt_lt.mpr (by omega))).symm)), ht⟩) (fun _ h => absurd h List.not_mem_nil) dX12_reckon_85
  ·
    rw [et0] at hl
    have hl : lv_has ls 3 [(0, .int 9), (1, .int v1), (2, .int v2)] := hl
    refine lv_iload_n hx hb dX12_reckon_0 rfl (lvA0 hl) ?_
    refine lv_tableOut (tgt := 86) hx hb dX12_reckon_1 (by decide) (by decide) ?_
    refine lv_iload_n hx hb (oc_27 86 (aq_17 shX12_reckon_69)) rfl (lvA1 hl) ?_
    refine lv_iload_n hx hb (oc_28 87 (aq_18 shX12_reckon_69)) rfl (lvA2 hl) ?_
    refine lv_icmp_ne (tgt := 95) hx hb (oc_160 88 (aq_19 shX12_reckon_69) sgw_0_7) rfl (fun c_3 => ?_) (fun c_3 => ?_)
    ·
      have tc_3 : (v1.toInt : Int) ≠ v2.toInt := fun q => c_3 (Int32.toInt_inj.mp q)
      refine lv_iconst (v := 0) hx hb (oc_3 95 shX12_reckon_95) kic_0 ?_
      exact W.iret (v := 0) hx hb hr (fun t ht hW => ⟨0, rfl, (by rw [et0]; exact (show (0 : Int32) = if v1 = v2 then (1 : Int32) else 0 from (if_neg (fun q => absurd (congrArg Int32.toInt q) (by omega))).symm)), ht⟩) (fun _ h => absurd h List.not_mem_nil) dX12_reckon_96
    ·
      have tc_3 : (v1.toInt : Int) = v2.toInt := congrArg Int32.toInt c_3
      refine lv_iconst (v := 1) hx hb (oc_4 91 (aq_22 shX12_reckon_69)) kic_1 ?_
      refine lv_goto (tgt := 96) hx hb (oc_167 92 (aq_23 shX12_reckon_69) sgw_0_4) rfl ?_
      exact W.iret (v := 1) hx hb hr (fun t ht hW => ⟨1, rfl, (by rw [et0]; exact (show (1 : Int32) = if v1 = v2 then (1 : Int32) else 0 from (if_pos (Int32.toInt_inj.mp (by omega))).symm)), ht⟩) (fun _ h => absurd h List.not_mem_nil) dX12_reckon_96
set_option maxRecDepth 100000 in
set_option maxHeartbeats 4000000 in
theorem q_comesTo9 (l : Launch) (D : va_G) (cI cB cZ : ClassId) (g : Nat → Nat) (cn : Nat → Nat) (In : Nat → Int32) (Fn : Nat → Nat → Int32) (t0 a0 b0 a1 b1 : Nat) (o : OutT) (cl : ClsT) (tb : Bool) (sz : Nat) (hI : IM cn Fn) (hM : MTx Fn t0 o cl) (hseg : SgX 16 tb o a0 b0) (ht0 : t0 ≤ 10) (ho : o.length ≤ 160) (he : a1 = 180 * t0 + a0 ∧ b1 = 180 * t0 + b0) : Met l yX12_comesTo (CWS yX12_comesTo cX12_comesTo 8 (some .int)) (RM 1 0 0) (PBw [.ref (g 100), .int (nI a1), .int (nI b1)] D cI cB cZ (wM cI cB cZ g cn In Fn) sz) (va_Qi (fun (r : Int32) (u : (Nat → Nat) × (Nat → Int32) × (Nat → Nat → Int32)) => (fun r c2 I2 F2 => Fr [] [] [37] cn In Fn c2 I2 F2 ∧ IM c2 F2 ∧ (r = MV o (cut (Fn 38)) a0 b0 ∧ (tb = true → r = 0 ∨ r = 1))) r u.1 u.2.1 u.2.2) (fun (u : (Nat → Nat) × (Nat → Int32) × (Nat → Nat → Int32)) (t : State) => va_P D vwCl (wM cI cB cZ g u.1 u.2.1 u.2.2) t.heap ∧ va_D (va_A (wM cI cB cZ g cn In Fn) sz) (wM cI cB cZ g u.1 u.2.1 u.2.2)) (va_A (wM cI cB cZ g cn In Fn) sz)) 0 0 (va_A (wM cI cB cZ g cn In Fn) sz) := by
  refine en_w (fun A => (va_Qi (fun (r : Int32) (u : (Nat → Nat) × (Nat → Int32) × (Nat → Nat → Int32)) => (fun (r : Int32) (c2 : Nat → Nat) (I2 : Nat → Int32) (F2 : Nat → Nat → Int32) => Fr [] [] [37] cn In Fn c2 I2 F2 ∧ IM c2 F2 ∧ (r = MV o (cut (Fn 38)) a0 b0 ∧ (tb = true → r = 0 ∨ r = 1))) r u.1 u.2.1 u.2.2) (fun (u : (Nat → Nat) × (Nat → Int32) × (Nat → Nat → Int32)) (t : State) => va_P D vwCl (wM cI cB cZ g u.1 u.2.1 u.2.2) t.heap ∧ va_D A (wM cI cB cZ g u.1 u.2.1 u.2.2)) A)) rfl rfl pn_RX12 (Nat.le_of_ble_eq_true rfl) (fun p e s m below meth c A hx hb hml hown S hr hlocks hnm hA hP hK hD hS ls hl => ?_)
  have hl : lv_has ls 8 [(0, .ref (g 100)), (1, .int (nI a1)), (2, .int (nI b1))] := hl
  have hi_cn : Hid (CB cn) := hI.b
  obtain ⟨ea1, eb1⟩ := he
  obtain ⟨hab, hbl, ty, hta, htb, hst⟩ := hseg
  refine lv_iconst (v := 0) hx hb (oc_3 0 shX12_comesTo_0) kic_0 ?_
  refine lv_istore_n (lv' := [(3, .int 0), (0, .ref (g 100)), (1, .int (nI a1)), (2, .int (nI b1))]) hx hb (oc_62 1 (aq_1 shX12_comesTo_0)) rfl hl (ltb rfl) rfl (fun ls hl => ?_)
  refine lv_sipush (v := 180) hx hb (oc_17 2 (aq_2 shX12_comesTo_0) sgw_0_180) (by decide) ?_
  refine lv_iload_n hx hb (oc_27 5 (aq_5 shX12_comesTo_0)) rfl (lvA2 hl) ?_
  refine lv_sipush (v := 180) hx hb (oc_17 6 (aq_6 shX12_comesTo_0) sgw_0_180) (by decide) ?_
  refine lv_idiv hx hb (oc_108 9 (aq_9 shX12_comesTo_0)) (by decide) ?_
  refine lv_topi (fun y_1 ey_1 => ?_)
  obtain rfl : y_1 = (nI (a1 / 180)) := ey_1.trans (nI_div (by (first | omega | (have zz0 := Hid.u hi_cn; omega))) (by decide))
  refine lv_imul hx hb (oc_104 10 (aq_10 shX12_comesTo_0)) ?_
  refine lv_topi (fun y_2 ey_2 => ?_)
  obtain rfl : y_2 = (nI (180 * t0)) := ey_2.trans (by rw [show a1 / 180 = t0 by (first | omega | (have zz0 := Hid.u hi_cn; omega))]; exact pk_mul 180 t0)
  refine lv_istore (lv' := [(4, .int (nI (180 * t0))), (3, .int 0), (0, .ref (g 100)), (1, .int (nI a1)), (2, .int (nI b1))]) hx hb (oc_54 11 (aq_11 shX12_comesTo_0) ub_4) hl (ltb rfl) rfl (fun ls hl => ?_)
  refine lv_iload_n hx hb (oc_27 13 (aq_13 shX12_comesTo_0)) rfl (lvA3 hl) ?_
  refine lv_istore (lv' := [(5, .int (nI a1)), (4, .int (nI (180 * t0))), (3, .int 0), (0, .ref (g 100)), (1, .int (nI a1)), (2, .int (nI b1))]) hx hb (oc_54 14 (aq_14 shX12_comesTo_0) ub_5) hl (ltb rfl) rfl (fun ls hl => ?_)
  have lp_16 : ∀ (n : Nat) (s16 : Nat) (k16 : Nat) (F16 : Nat → Nat → Int32) (H : Heap) (locs : List Loc) , b1 - k16 < n → (Fr [] [] [37] cn In Fn cn In F16 ∧ IM cn F16 ∧ (k16 ≤ b1 ∧ s16 ≤ 17) ∧ (MRI o (cut (Fn 38)) a0 b0 t0 ty (F16 37) k16 s16)) → va_P D vwCl (wM cI cB cZ g cn In F16) H → va_D A (wM cI cB cZ g cn In F16) → va_S A s.heap H locs → ∀ ls : Array Slot, lv_has ls 8 [(5, .int (nI k16)), (4, .int (nI (180 * t0))), (3, .int (nI s16)), (0, .ref (g 100)), (1, .int (nI a1)), (2, .int (nI b1))] → W p l e (RM 1 0 0) s m ([.ref (g 100), .int (nI a1), .int (nI b1)]).toArray below meth c H locs 0 0 (MQ below (va_Qi (fun (r : Int32) (u : (Nat → Nat) × (Nat → Int32) × (Nat → Nat → Int32)) => (fun r c2 I2 F2 => Fr [] [] [37] cn In Fn c2 I2 F2 ∧ IM c2 F2 ∧ (r = MV o (cut (Fn 38)) a0 b0 ∧ (tb = true → r = 0 ∨ r = 1))) r u.1 u.2.1 u.2.2) (fun (u : (Nat → Nat) × (Nat → Int32) × (Nat → Nat → Int32)) (t : State) => va_P D vwCl (wM cI cB cZ g u.1 u.2.1 u.2.2) t.heap ∧ va_D A (wM cI cB cZ g u.1 u.2.1 u.2.2)) A) ([.ref (g 100), .int (nI a1), .int (nI b1)]).toArray s 0 0 A) (F0 m 16 ls []) := by
    intro n16
    induction n16 with
    | zero => intros; (first | omega | (have zz0 := Hid.u hi_cn; omega))
    | succ n16 ih16 =>
      intro s16 k16 F16 H locs hmu16 hinv16 hP hD hS ls hl
      obtain ⟨hfr16, hI16, hx16_0, hx16_1⟩ := hinv16
      have hi_cn : Hid (CB cn) := hI16.b
      refine lv_iload hx hb (oc_21 16 (aq_16 shX12_comesTo_0) ub_5) (lvA0 hl) ?_
      refine lv_iload_n hx hb (oc_28 18 (aq_18 shX12_comesTo_0)) rfl (lvA5 hl) ?_
      have : (nI k16).toInt = ((k16 : Nat) : Int) := nI_toInt (by (first | omega | (have zz0 := Hid.u hi_cn; omega)))
      have : (nI b1).toInt = ((b1 : Nat) : Int) := nI_toInt (by (first | omega | (have zz0 := Hid.u hi_cn; omega)))
      refine lv_icmp_ge (tgt := 235) hx hb (oc_162 19 (aq_19 shX12_comesTo_0) sgw_0_216) rfl (fun c_3 => ?_) (fun c_3 => ?_)
      ·
        have tc_3 : ((nI b1).toInt : Int) ≤ (nI k16).toInt := Int32.le_iff_toInt_le.mp c_3
        refine lv_aload_n hx hb (oc_42 235 (aq_16 shX12_comesTo_219)) rfl (lvA3 hl) ?_
        refine gM_86 S hK hP (v := .ref (g 37)) rfl (oc_180 236 (aq_17 shX12_comesTo_219) uw_0_86) ?_
        refine lv_iconst (v := 0) hx hb (oc_3 239 (aq_20 shX12_comesTo_219)) kic_0 ?_
        refine ldM_37 hx hb hK hP (x := ((F16 37) 0)) (by unfold vp_in; decide) (by decide) rfl (oc_46 240 (aq_21 shX12_comesTo_219)) ?_
        exact W.iret (v := ((F16 37) 0)) hx hb hr (fun t ht hW => ⟨⟨((F16 37) 0), (cn, In, F16), rfl, ⟨(Fr.mo hfr16 (sbl rfl) (sbl rfl) (sbl rfl)), hI16, (by show ((F16 37) 0) = MV o (cut (Fn 38)) a0 b0 ∧ (tb = true → ((F16 37) 0) = 0 ∨ ((F16 37) 0) = 1); exact (have e9 := hx16_1.fin (by (first | omega | (have zz0 := Hid.u hi_cn; omega))) htb; ⟨e9.1, fun w => by rw [e9.1]; exact e9.2 w⟩))⟩, by rw [ht]; exact hP, hD⟩, hS.F ht⟩) hS.2.2 (oc_172 241 (aq_22 shX12_comesTo_219))
      ·
        have tc_3 : ((nI k16).toInt : Int) < (nI b1).toInt := Int32.lt_iff_toInt_lt.mp (Int32.not_le.mp c_3)
        obtain ⟨kk, s9, ek9, hka, hkb, ⟨hE9, hQ9⟩, hS9, hl9⟩ := hx16_1
        obtain ⟨hd9, ⟨c9, v9⟩, ho9, hst9⟩ := hst kk (by (first | omega | (have zz0 := Hid.u hi_cn; omega))) (by (first | omega | (have zz0 := Hid.u hi_cn; omega)))
        have hl8 := hQ9.ln hd9
        obtain ⟨hcv, _⟩ := hM.2.1 kk _ ho9
        have hcv : 1 ≤ c9 ∧ c9 ≤ 13 ∧ v9 < 1048576 := hcv
        have hcode : F16 32 k16 = nI ((c9 - 1) * 1048576 + v9) := hM.st (hfr16.2.2 32 (nml rfl)) ho9 ek9
        refine lv_aload_n hx hb (oc_42 22 (aq_22 shX12_comesTo_0)) rfl (lvA3 hl) ?_
        refine gM_71 S hK hP (v := .ref (g 32)) rfl (oc_180 23 (aq_23 shX12_comesTo_0) uw_0_71) ?_
        refine lv_iload hx hb (oc_21 26 shX12_comesTo_26 ub_5) (lvA0 hl) ?_
        have kb_1 : k16 < 1980 := by (first | omega | (have zz0 := Hid.u hi_cn; omega))
        refine ldM_32 hx hb hK hP (x := ((F16 32) k16)) (vp_in_nI kb_1 (ltb rfl)) (nI_clamp (Nat.lt_trans kb_1 (ltb rfl))) rfl (oc_46 28 (aq_2 shX12_comesTo_26)) ?_
        refine lv_topi (fun y_4 ey_4 => ?_)
        obtain rfl : y_4 = (nI ((c9 - 1) * 1048576 + v9)) := ey_4.trans hcode
        refine lv_ldcw (v := 1048576) hx hb hown (S.2.2.2.2 _ (wk7_17 11 rfl rfl)) (oc_19 29 (aq_3 shX12_comesTo_26) uw_1_4) ?_
        refine lv_idiv hx hb (oc_108 32 (aq_6 shX12_comesTo_26)) (by decide) ?_
        refine lv_topi (fun y_5 ey_5 => ?_)
        obtain rfl : y_5 = (nI (c9 - 1)) := ey_5.trans ((nI_div (b := 1048576) (by (first | omega | (have zz0 := Hid.u hi_cn; omega))) (by decide)).trans (congrArg nI (by (first | omega | (have zz0 := Hid.u hi_cn; omega)))))
        refine lv_istore (lv' := [(6, .int (nI (c9 - 1))), (5, .int (nI k16)), (4, .int (nI (180 * t0))), (3, .int (nI s16)), (0, .ref (g 100)), (1, .int (nI a1)), (2, .int (nI b1))]) hx hb (oc_54 33 (aq_7 shX12_comesTo_26) ub_6) hl (ltb rfl) rfl (fun ls hl => ?_)
        refine lv_aload_n hx hb (oc_42 35 (aq_9 shX12_comesTo_26)) rfl (lvA4 hl) ?_
        refine gM_71 S hK hP (v := .ref (g 32)) rfl (oc_180 36 (aq_10 shX12_comesTo_26) uw_0_71) ?_
        refine lv_iload hx hb (oc_21 39 (aq_13 shX12_comesTo_26) ub_5) (lvA1 hl) ?_
        refine ldM_32 hx hb hK hP (x := ((F16 32) k16)) (vp_in_nI kb_1 (ltb rfl)) (nI_clamp (Nat.lt_trans kb_1 (ltb rfl))) rfl (oc_46 41 (aq_15 shX12_comesTo_26)) ?_
        refine lv_topi (fun y_6 ey_6 => ?_)
        obtain rfl : y_6 = (nI ((c9 - 1) * 1048576 + v9)) := ey_6.trans hcode
        refine lv_ldcw (v := 1048576) hx hb hown (S.2.2.2.2 _ (wk7_17 11 rfl rfl)) (oc_19 42 (aq_16 shX12_comesTo_26) uw_1_4) ?_
        refine lv_irem hx hb (oc_112 45 (aq_19 shX12_comesTo_26)) (by decide) ?_
        refine lv_topi (fun y_7 ey_7 => ?_)
        obtain rfl : y_7 = (nI v9) := ey_7.trans ((nI_rem (b := 1048576) (by (first | omega | (have zz0 := Hid.u hi_cn; omega))) (by decide)).trans (congrArg nI (by (first | omega | (have zz0 := Hid.u hi_cn; omega)))))
        refine lv_istore (lv' := [(7, .int (nI v9)), (6, .int (nI (c9 - 1))), (5, .int (nI k16)), (4, .int (nI (180 * t0))), (3, .int (nI s16)), (0, .ref (g 100)), (1, .int (nI a1)), (2, .int (nI b1))]) hx hb (oc_54 46 (aq_20 shX12_comesTo_26) ub_7) hl (ltb rfl) rfl (fun ls hl => ?_)
        rcases hst9.cs with ⟨rfl | ⟨rfl, hv11⟩, hl7, ht9⟩ | ⟨rfl, u9, ht8, ht9⟩ | ⟨rfl | rfl, hlt9, hle9, u9, ht8, ht9, ht7⟩ | ⟨hg1, hg2, xa, ya, wa, u9, ht8, ht9, ht7⟩
        ·
          have hl : lv_has ls 8 [(7, .int (nI v9)), (6, .int 0), (5, .int (nI k16)), (4, .int (nI (180 * t0))), (3, .int (nI s16)), (0, .ref (g 100)), (1, .int (nI a1)), (2, .int (nI b1))] := hl
          refine lv_iload hx hb dX12_comesTo_48 (lvA2 hl) ?_
          refine lv_iconst (v := 1) hx hb dX12_comesTo_50 kic_1 ?_
          refine lv_iadd hx hb dX12_comesTo_51 ?_
          refine lv_topi (fun y_8 ey_8 => ?_)
          obtain rfl : y_8 = (nI (k16 + 1)) := ey_8.trans (nI_add k16 1)
          refine lv_istore (lv' := [(5, .int (nI (k16 + 1))), (7, .int (nI v9)), (6, .int 0), (4, .int (nI (180 * t0))), (3, .int (nI s16)), (0, .ref (g 100)), (1, .int (nI a1)), (2, .int (nI b1))]) hx hb dX12_comesTo_52 hl (ltb rfl) rfl (fun ls hl => ?_)
          refine lv_iload hx hb dX12_comesTo_54 (lvA2 hl) ?_
          refine lv_if_eq (tgt := 65) hx hb dX12_comesTo_56 rfl (fun _ => ?_) (fun h => absurd h cq_eq_0_0)
          refine lv_aload_n hx hb dX12_comesTo_65 rfl (lvA5 hl) ?_
          refine gM_86 S hK hP (v := .ref (g 37)) rfl dX12_comesTo_66 ?_
          refine lv_iload_n hx hb dX12_comesTo_69 rfl (lvA4 hl) ?_
          refine lv_iload hx hb dX12_comesTo_70 (lvA2 hl) ?_
          refine lv_if_ne (tgt := 80) hx hb dX12_comesTo_72 rfl (fun h => absurd h cq_eq_0_0) (fun _ => ?_)
          refine lv_iload hx hb (oc_21 75 shX12_comesTo_75 ub_7) (lvA1 hl) ?_
          refine lv_goto (tgt := 87) hx hb (oc_167 77 (aq_2 shX12_comesTo_75) sgw_0_10) rfl ?_
          have kb_2 : s16 < 180 := by (first | omega | (have zz0 := Hid.u hi_cn; omega))
          refine stM_37 hx hb hK hP hD hS (Fn2 := (va_up F16 37 (upd (F16 37) s16 (nI v9)))) (vp_in_nI kb_2 (ltb rfl)) (nI_clamp (Nat.lt_trans kb_2 (ltb rfl))) rfl dX12_comesTo_87 (fun H locs hP hD hS => ?_)
          refine lv_iload_n hx hb dX12_comesTo_88 rfl (lvA4 hl) ?_
          refine lv_iconst (v := 1) hx hb dX12_comesTo_89 kic_1 ?_
          refine lv_iadd hx hb dX12_comesTo_90 ?_
          refine lv_topi (fun y_9 ey_9 => ?_)
          obtain rfl : y_9 = (nI (s16 + 1)) := ey_9.trans (nI_add s16 1)
          refine lv_istore_n (lv' := [(3, .int (nI (s16 + 1))), (5, .int (nI (k16 + 1))), (7, .int (nI v9)), (6, .int 0), (4, .int (nI (180 * t0))), (0, .ref (g 100)), (1, .int (nI a1)), (2, .int (nI b1))]) hx hb dX12_comesTo_91 rfl hl (ltb rfl) rfl (fun ls hl => ?_)
          refine lv_goto (tgt := 232) hx hb dX12_comesTo_92 rfl ?_
          refine lv_goto (tgt := 16) hx hb dX12_comesTo_232 rfl ?_
          exact ih16 (s16 + 1) (k16 + 1) (va_up F16 37 (upd (F16 37) s16 (nI v9))) _ _ (by (first | omega | (have zz0 := Hid.u hi_cn; omega))) ⟨(Fr.mo (Fr.f 37 hfr16) (sbl rfl) (sbl rfl) (sbl rfl)), (IM.fr (In := In) hI16 (Fr.f 37 Fr.rf) (by decide) (by decide)), ⟨by (first | omega | (have zz0 := Hid.u hi_cn; omega)), by (first | omega | (have zz0 := Hid.u hi_cn; omega))⟩, (MRI.mk (kk := kk + 1) ⟨by (first | omega | (have zz0 := Hid.u hi_cn; omega)), by (first | omega | (have zz0 := Hid.u hi_cn; omega)), by (first | omega | (have zz0 := Hid.u hi_cn; omega))⟩ (RN1 hE9 hQ9 (by (first | omega | (have zz0 := Hid.u hi_cn; omega))) ho9 ht9) (STK.pu hS9 hl9) (by show _ = s9.length + 1; (first | omega | (have zz0 := Hid.u hi_cn; omega))))⟩ hP hD hS ls (lv_sub hl [1, 4, 0, 5, 6, 7] rfl)
        ·
          have hl : lv_has ls 8 [(7, .int (nI v9)), (6, .int 1), (5, .int (nI k16)), (4, .int (nI (180 * t0))), (3, .int (nI s16)), (0, .ref (g 100)), (1, .int (nI a1)), (2, .int (nI b1))] := hl
          refine lv_iload hx hb dX12_comesTo_48 (lvA2 hl) ?_
          refine lv_iconst (v := 1) hx hb dX12_comesTo_50 kic_1 ?_
          refine lv_iadd hx hb dX12_comesTo_51 ?_
          refine lv_topi (fun y_10 ey_10 => ?_)
          obtain rfl : y_10 = (nI (k16 + 1)) := ey_10.trans (nI_add k16 1)
          refine lv_istore (lv' := [(5, .int (nI (k16 + 1))), (7, .int (nI v9)), (6, .int 1), (4, .int (nI (180 * t0))), (3, .int (nI s16)), (0, .ref (g 100)), (1, .int (nI a1)), (2, .int (nI b1))]) hx hb dX12_comesTo_52 hl (ltb rfl) rfl (fun ls hl => ?_)
          refine lv_iload hx hb dX12_comesTo_54 (lvA2 hl) ?_
          refine lv_if_eq (tgt := 65) hx hb dX12_comesTo_56 rfl (fun h => absurd h cq_eq_1_0) (fun _ => ?_)
          refine lv_iload hx hb dX12_comesTo_59 (lvA2 hl) ?_
          refine lv_iconst (v := 1) hx hb dX12_comesTo_61 kic_1 ?_
          refine lv_icmp_ne (tgt := 95) hx hb dX12_comesTo_62 rfl (fun h => absurd h cq_eq_1_1) (fun _ => ?_)
          refine lv_aload_n hx hb dX12_comesTo_65 rfl (lvA5 hl) ?_
          refine gM_86 S hK hP (v := .ref (g 37)) rfl dX12_comesTo_66 ?_
          refine lv_iload_n hx hb dX12_comesTo_69 rfl (lvA4 hl) ?_
          refine lv_iload hx hb dX12_comesTo_70 (lvA2 hl) ?_
          refine lv_if_ne (tgt := 80) hx hb dX12_comesTo_72 rfl (fun _ => ?_) (fun h => absurd h cq_eq_1_0)
          refine lv_aload_n hx hb (oc_42 80 (aq_5 shX12_comesTo_75)) rfl (lvA5 hl) ?_
          refine gM_89 S hK hP (v := .ref (g 38)) rfl (oc_180 81 (aq_6 shX12_comesTo_75) uw_0_89) ?_
          refine lv_iload hx hb (oc_21 84 (aq_9 shX12_comesTo_75) ub_7) (lvA1 hl) ?_
          have kb_3 : v9 < 11 := by (first | omega | (have zz0 := Hid.u hi_cn; omega))
          refine ldM_38 hx hb hK hP (x := ((F16 38) v9)) (vp_in_nI kb_3 (ltb rfl)) (nI_clamp (Nat.lt_trans kb_3 (ltb rfl))) rfl (oc_46 86 (aq_11 shX12_comesTo_75)) ?_
          refine lv_topi (fun y_11 ey_11 => ?_)
          obtain rfl : y_11 = ((Fn 38) v9) := ey_11.trans (congrFun (hfr16.2.2 38 (nml rfl)) v9)
          have kb_4 : s16 < 180 := by (first | omega | (have zz0 := Hid.u hi_cn; omega))
          refine stM_37 hx hb hK hP hD hS (Fn2 := (va_up F16 37 (upd (F16 37) s16 ((Fn 38) v9)))) (vp_in_nI kb_4 (ltb rfl)) (nI_clamp (Nat.lt_trans kb_4 (ltb rfl))) rfl dX12_comesTo_87 (fun H locs hP hD hS => ?_)
          refine lv_iload_n hx hb dX12_comesTo_88 rfl (lvA4 hl) ?_
          refine lv_iconst (v := 1) hx hb dX12_comesTo_89 kic_1 ?_
          refine lv_iadd hx hb dX12_comesTo_90 ?_
          refine lv_topi (fun y_12 ey_12 => ?_)
          obtain rfl : y_12 = (nI (s16 + 1)) := ey_12.trans (nI_add s16 1)
          refine lv_istore_n (lv' := [(3, .int (nI (s16 + 1))), (5, .int (nI (k16 + 1))), (7, .int (nI v9)), (6, .int 1), (4, .int (nI (180 * t0))), (0, .ref (g 100)), (1, .int (nI a1)), (2, .int (nI b1))]) hx hb dX12_comesTo_91 rfl hl (ltb rfl) rfl (fun ls hl => ?_)
          refine lv_goto (tgt := 232) hx hb dX12_comesTo_92 rfl ?_
          refine lv_goto (tgt := 16) hx hb dX12_comesTo_232 rfl ?_
          exact ih16 (s16 + 1) (k16 + 1) (va_up F16 37 (upd (F16 37) s16 ((Fn 38) v9))) _ _ (by (first | omega | (have zz0 := Hid.u hi_cn; omega))) ⟨(Fr.mo (Fr.f 37 hfr16) (sbl rfl) (sbl rfl) (sbl rfl)), (IM.fr (In := In) hI16 (Fr.f 37 Fr.rf) (by decide) (by decide)), ⟨by (first | omega | (have zz0 := Hid.u hi_cn; omega)), by (first | omega | (have zz0 := Hid.u hi_cn; omega))⟩, (MRI.mk (kk := kk + 1) ⟨by (first | omega | (have zz0 := Hid.u hi_cn; omega)), by (first | omega | (have zz0 := Hid.u hi_cn; omega)), by (first | omega | (have zz0 := Hid.u hi_cn; omega))⟩ (RN2 hE9 hQ9 (by (first | omega | (have zz0 := Hid.u hi_cn; omega))) ho9 hv11 ht9) (STK.pu hS9 hl9) (by show _ = s9.length + 1; (first | omega | (have zz0 := Hid.u hi_cn; omega))))⟩ hP hD hS ls (lv_sub hl [1, 4, 0, 5, 6, 7] rfl)
        ·
          obtain ⟨x9, s8, rfl, hx9, hk8⟩ := KS.c (t := true) (ty := u9) (by rw [← ht8]; exact hQ9)
          have e6 : (x9 :: s8).length = s8.length + 1 := rfl
          have hl : lv_has ls 8 [(7, .int (nI v9)), (6, .int 10), (5, .int (nI k16)), (4, .int (nI (180 * t0))), (3, .int (nI s16)), (0, .ref (g 100)), (1, .int (nI a1)), (2, .int (nI b1))] := hl
          refine lv_iload hx hb dX12_comesTo_48 (lvA2 hl) ?_
          refine lv_iconst (v := 1) hx hb dX12_comesTo_50 kic_1 ?_
          refine lv_iadd hx hb dX12_comesTo_51 ?_
          refine lv_topi (fun y_13 ey_13 => ?_)
          obtain rfl : y_13 = (nI (k16 + 1)) := ey_13.trans (nI_add k16 1)
          refine lv_istore (lv' := [(5, .int (nI (k16 + 1))), (7, .int (nI v9)), (6, .int 10), (4, .int (nI (180 * t0))), (3, .int (nI s16)), (0, .ref (g 100)), (1, .int (nI a1)), (2, .int (nI b1))]) hx hb dX12_comesTo_52 hl (ltb rfl) rfl (fun ls hl => ?_)
          refine lv_iload hx hb dX12_comesTo_54 (lvA2 hl) ?_
          refine lv_if_eq (tgt := 65) hx hb dX12_comesTo_56 rfl (fun h => absurd h cq_eq_10_0) (fun _ => ?_)
          refine lv_iload hx hb dX12_comesTo_59 (lvA2 hl) ?_
          refine lv_iconst (v := 1) hx hb dX12_comesTo_61 kic_1 ?_
          refine lv_icmp_ne (tgt := 95) hx hb dX12_comesTo_62 rfl (fun _ => ?_) (fun h => absurd h cq_eq_10_1)
          refine lv_iload hx hb dX12_comesTo_95 (lvA2 hl) ?_
          refine lv_bipush (v := 10) hx hb dX12_comesTo_97 kbc_10 ?_
          refine lv_icmp_ne (tgt := 123) hx hb dX12_comesTo_99 rfl (fun h => absurd h cq_eq_10_10) (fun _ => ?_)
          refine lv_aload_n hx hb (oc_42 102 (aq_3 shX12_comesTo_99)) rfl (lvA5 hl) ?_
          refine gM_86 S hK hP (v := .ref (g 37)) rfl (oc_180 103 (aq_4 shX12_comesTo_99) uw_0_86) ?_
          refine lv_iload_n hx hb (oc_29 106 (aq_7 shX12_comesTo_99)) rfl (lvA4 hl) ?_
          refine lv_iconst (v := 1) hx hb (oc_4 107 (aq_8 shX12_comesTo_99)) kic_1 ?_
          refine lv_isub hx hb (oc_100 108 (aq_9 shX12_comesTo_99)) ?_
          refine lv_topi (fun y_14 ey_14 => ?_)
          obtain rfl : y_14 = (nI (s16 - 1)) := ey_14.trans (nI_sub (b := 1) (by (first | omega | (have zz0 := Hid.u hi_cn; omega))))
          refine lv_iconst (v := 1) hx hb (oc_4 109 (aq_10 shX12_comesTo_99)) kic_1 ?_
          refine lv_aload_n hx hb (oc_42 110 (aq_11 shX12_comesTo_99)) rfl (lvA5 hl) ?_
          refine gM_86 S hK hP (v := .ref (g 37)) rfl (oc_180 111 (aq_12 shX12_comesTo_99) uw_0_86) ?_
          refine lv_iload_n hx hb (oc_29 114 (aq_15 shX12_comesTo_99)) rfl (lvA4 hl) ?_
          refine lv_iconst (v := 1) hx hb (oc_4 115 (aq_16 shX12_comesTo_99)) kic_1 ?_
          refine lv_isub hx hb (oc_100 116 (aq_17 shX12_comesTo_99)) ?_
          refine lv_topi (fun y_15 ey_15 => ?_)
          obtain rfl : y_15 = (nI (s16 - 1)) := ey_15.trans (nI_sub (b := 1) (by (first | omega | (have zz0 := Hid.u hi_cn; omega))))
          have kb_5 : (s16 - 1) < 180 := by (first | omega | (have zz0 := Hid.u hi_cn; omega))
          refine ldM_37 hx hb hK hP (x := ((F16 37) (s16 - 1))) (vp_in_nI kb_5 (ltb rfl)) (nI_clamp (Nat.lt_trans kb_5 (ltb rfl))) rfl (oc_46 117 (aq_18 shX12_comesTo_99)) ?_
          refine lv_topi (fun y_16 ey_16 => ?_)
          obtain rfl : x9 = y_16 := (ey_16.trans (by rw [show s16 - 1 = s8.length by (first | omega | (have zz0 := Hid.u hi_cn; omega))]; exact hS9.1)).symm
          refine lv_isub hx hb (oc_100 118 (aq_19 shX12_comesTo_99)) ?_
          refine stM_37 hx hb hK hP hD hS (Fn2 := (va_up F16 37 (upd (F16 37) (s16 - 1) (1 - x9)))) (vp_in_nI kb_5 (ltb rfl)) (nI_clamp (Nat.lt_trans kb_5 (ltb rfl))) rfl (oc_79 119 (aq_20 shX12_comesTo_99)) (fun H locs hP hD hS => ?_)
          refine lv_goto (tgt := 232) hx hb (oc_167 120 (aq_21 shX12_comesTo_99) sgw_0_112) rfl ?_
          refine lv_goto (tgt := 16) hx hb dX12_comesTo_232 rfl ?_
          exact ih16 s16 (k16 + 1) (va_up F16 37 (upd (F16 37) (s16 - 1) (1 - x9))) _ _ (by (first | omega | (have zz0 := Hid.u hi_cn; omega))) ⟨(Fr.mo (Fr.f 37 hfr16) (sbl rfl) (sbl rfl) (sbl rfl)), (IM.fr (In := In) hI16 (Fr.f 37 Fr.rf) (by decide) (by decide)), ⟨by (first | omega | (have zz0 := Hid.u hi_cn; omega)), by (first | omega | (have zz0 := Hid.u hi_cn; omega))⟩, (MRI.mk (kk := kk + 1) ⟨by (first | omega | (have zz0 := Hid.u hi_cn; omega)), by (first | omega | (have zz0 := Hid.u hi_cn; omega)), by (first | omega | (have zz0 := Hid.u hi_cn; omega))⟩ (RN11 hE9 hQ9 (by (first | omega | (have zz0 := Hid.u hi_cn; omega))) ho9 ht8 ht9) (STK.pu hS9.2 (by (first | omega | (have zz0 := Hid.u hi_cn; omega)))) (by show _ = s8.length + 1; (first | omega | (have zz0 := Hid.u hi_cn; omega))))⟩ hP hD hS ls (lv_sub hl [0, 3, 4, 5, 6, 7] rfl)
        ·
          obtain ⟨x9, s8, rfl, hx9, hk8⟩ := KS.c (t := true) (ty := u9) (by rw [← ht8]; exact hQ9)
          have e6 : (x9 :: s8).length = s8.length + 1 := rfl
          have hl : lv_has ls 8 [(7, .int (nI v9)), (6, .int 11), (5, .int (nI k16)), (4, .int (nI (180 * t0))), (3, .int (nI s16)), (0, .ref (g 100)), (1, .int (nI a1)), (2, .int (nI b1))] := hl
          refine lv_iload hx hb dX12_comesTo_48 (lvA2 hl) ?_
          refine lv_iconst (v := 1) hx hb dX12_comesTo_50 kic_1 ?_
          refine lv_iadd hx hb dX12_comesTo_51 ?_
          refine lv_topi (fun y_17 ey_17 => ?_)
          obtain rfl : y_17 = (nI (k16 + 1)) := ey_17.trans (nI_add k16 1)
          refine lv_istore (lv' := [(5, .int (nI (k16 + 1))), (7, .int (nI v9)), (6, .int 11), (4, .int (nI (180 * t0))), (3, .int (nI s16)), (0, .ref (g 100)), (1, .int (nI a1)), (2, .int (nI b1))]) hx hb dX12_comesTo_52 hl (ltb rfl) rfl (fun ls hl => ?_)
          refine lv_iload hx hb dX12_comesTo_54 (lvA2 hl) ?_
          refine lv_if_eq (tgt := 65) hx hb dX12_comesTo_56 rfl (fun h => absurd h cq_eq_11_0) (fun _ => ?_)
          refine lv_iload hx hb dX12_comesTo_59 (lvA2 hl) ?_
          refine lv_iconst (v := 1) hx hb dX12_comesTo_61 kic_1 ?_
          refine lv_icmp_ne (tgt := 95) hx hb dX12_comesTo_62 rfl (fun _ => ?_) (fun h => absurd h cq_eq_11_1)
          refine lv_iload hx hb dX12_comesTo_95 (lvA2 hl) ?_
          refine lv_bipush (v := 10) hx hb dX12_comesTo_97 kbc_10 ?_
          refine lv_icmp_ne (tgt := 123) hx hb dX12_comesTo_99 rfl (fun _ => ?_) (fun h => absurd h cq_eq_11_10)
          refine lv_iload hx hb dX12_comesTo_123 (lvA2 hl) ?_
          refine lv_bipush (v := 11) hx hb dX12_comesTo_125 kbc_11 ?_
          refine lv_icmp_eq (tgt := 137) hx hb dX12_comesTo_127 rfl (fun _ => ?_) (fun h => absurd h cq_eq_11_11)
          refine lv_aload_n hx hb dX12_comesTo_137 rfl (lvA5 hl) ?_
          refine gM_86 S hK hP (v := .ref (g 37)) rfl dX12_comesTo_138 ?_
          refine lv_iload_n hx hb dX12_comesTo_141 rfl (lvA4 hl) ?_
          refine lv_iconst (v := 1) hx hb dX12_comesTo_142 kic_1 ?_
          refine lv_isub hx hb dX12_comesTo_143 ?_
          refine lv_topi (fun y_18 ey_18 => ?_)
          obtain rfl : y_18 = (nI (s16 - 1)) := ey_18.trans (nI_sub (b := 1) (by (first | omega | (have zz0 := Hid.u hi_cn; omega))))
          have kb_6 : (s16 - 1) < 180 := by (first | omega | (have zz0 := Hid.u hi_cn; omega))
          refine ldM_37 hx hb hK hP (x := ((F16 37) (s16 - 1))) (vp_in_nI kb_6 (ltb rfl)) (nI_clamp (Nat.lt_trans kb_6 (ltb rfl))) rfl dX12_comesTo_144 ?_
          refine lv_topi (fun y_19 ey_19 => ?_)
          obtain rfl : x9 = y_19 := (ey_19.trans (by rw [show s16 - 1 = s8.length by (first | omega | (have zz0 := Hid.u hi_cn; omega))]; exact hS9.1)).symm
          refine lv_iload hx hb dX12_comesTo_145 (lvA2 hl) ?_
          refine lv_bipush (v := 12) hx hb dX12_comesTo_147 kbc_12 ?_
          refine lv_icmp_ne (tgt := 156) hx hb dX12_comesTo_149 rfl (fun _ => ?_) (fun h => absurd h cq_eq_11_12)
          refine lv_iconst (v := 0) hx hb (oc_3 156 (aq_9 shX12_comesTo_147)) kic_0 ?_
          refine lv_icmp_ne (tgt := 170) hx hb dX12_comesTo_157 rfl (fun c_20 => ?_) (fun c_20 => ?_)
          ·
            have tc_20 : (x9.toInt : Int) ≠ 0 := fun q => c_20 (Int32.toInt_inj.mp q)
            refine lv_iload_n hx hb dX12_comesTo_170 rfl (lvA4 hl) ?_
            refine lv_iconst (v := 1) hx hb dX12_comesTo_171 kic_1 ?_
            refine lv_isub hx hb dX12_comesTo_172 ?_
            refine lv_topi (fun y_21 ey_21 => ?_)
            obtain rfl : y_21 = (nI (s16 - 1)) := ey_21.trans (nI_sub (b := 1) (by (first | omega | (have zz0 := Hid.u hi_cn; omega))))
            refine lv_istore_n (lv' := [(3, .int (nI (s16 - 1))), (5, .int (nI (k16 + 1))), (7, .int (nI v9)), (6, .int 11), (4, .int (nI (180 * t0))), (0, .ref (g 100)), (1, .int (nI a1)), (2, .int (nI b1))]) hx hb dX12_comesTo_173 rfl hl (ltb rfl) rfl (fun ls hl => ?_)
            refine lv_goto (tgt := 232) hx hb dX12_comesTo_174 rfl ?_
            refine lv_goto (tgt := 16) hx hb dX12_comesTo_232 rfl ?_
            exact ih16 (s16 - 1) (k16 + 1) F16 _ _ (by (first | omega | (have zz0 := Hid.u hi_cn; omega))) ⟨(Fr.mo hfr16 (sbl rfl) (sbl rfl) (sbl rfl)), hI16, ⟨by (first | omega | (have zz0 := Hid.u hi_cn; omega)), by (first | omega | (have zz0 := Hid.u hi_cn; omega))⟩, (MRI.mk (kk := kk + 1) ⟨by (first | omega | (have zz0 := Hid.u hi_cn; omega)), by (first | omega | (have zz0 := Hid.u hi_cn; omega)), by (first | omega | (have zz0 := Hid.u hi_cn; omega))⟩ (RNn (Or.inl ⟨rfl, by first | assumption | exact fun q => absurd (congrArg Int32.toInt q) (by assumption)⟩) hE9 hQ9 (by (first | omega | (have zz0 := Hid.u hi_cn; omega))) ho9 ht8 ht9) hS9.2 (by (first | omega | (have zz0 := Hid.u hi_cn; omega))))⟩ hP hD hS ls (lv_sub hl [1, 4, 0, 5, 6, 7] rfl)
          ·
            have tc_20 : (x9.toInt : Int) = 0 := congrArg Int32.toInt c_20
            refine lv_iload hx hb dX12_comesTo_160 (lvA3 hl) ?_
            refine lv_iload hx hb dX12_comesTo_162 (lvA1 hl) ?_
            refine lv_iadd hx hb dX12_comesTo_164 ?_
            refine lv_topi (fun y_22 ey_22 => ?_)
            obtain rfl : y_22 = (nI ((180 * t0) + v9)) := ey_22.trans (nI_add (180 * t0) v9)
            refine lv_istore (lv' := [(5, .int (nI ((180 * t0) + v9))), (7, .int (nI v9)), (6, .int 11), (4, .int (nI (180 * t0))), (3, .int (nI s16)), (0, .ref (g 100)), (1, .int (nI a1)), (2, .int (nI b1))]) hx hb dX12_comesTo_165 hl (ltb rfl) rfl (fun ls hl => ?_)
            refine lv_goto (tgt := 232) hx hb dX12_comesTo_167 rfl ?_
            refine lv_goto (tgt := 16) hx hb dX12_comesTo_232 rfl ?_
            exact ih16 s16 ((180 * t0) + v9) F16 _ _ (by (first | omega | (have zz0 := Hid.u hi_cn; omega))) ⟨(Fr.mo hfr16 (sbl rfl) (sbl rfl) (sbl rfl)), hI16, ⟨by (first | omega | (have zz0 := Hid.u hi_cn; omega)), by (first | omega | (have zz0 := Hid.u hi_cn; omega))⟩, (MRI.mk (kk := v9) ⟨by (first | omega | (have zz0 := Hid.u hi_cn; omega)), by (first | omega | (have zz0 := Hid.u hi_cn; omega)), by (first | omega | (have zz0 := Hid.u hi_cn; omega))⟩ (RNj (Or.inl ⟨rfl, by first | assumption | exact Int32.toInt_inj.mp (by assumption)⟩) hE9 hQ9 (by (first | omega | (have zz0 := Hid.u hi_cn; omega))) ho9 hlt9 ht8 ht7) hS9 hl9)⟩ hP hD hS ls (lv_sub hl [0, 3, 4, 5, 6, 7] rfl)
        ·
          obtain ⟨x9, s8, rfl, hx9, hk8⟩ := KS.c (t := true) (ty := u9) (by rw [← ht8]; exact hQ9)
          have e6 : (x9 :: s8).length = s8.length + 1 := rfl
          have hl : lv_has ls 8 [(7, .int (nI v9)), (6, .int 12), (5, .int (nI k16)), (4, .int (nI (180 * t0))), (3, .int (nI s16)), (0, .ref (g 100)), (1, .int (nI a1)), (2, .int (nI b1))] := hl
          refine lv_iload hx hb dX12_comesTo_48 (lvA2 hl) ?_
          refine lv_iconst (v := 1) hx hb dX12_comesTo_50 kic_1 ?_
          refine lv_iadd hx hb dX12_comesTo_51 ?_
          refine lv_topi (fun y_23 ey_23 => ?_)
          obtain rfl : y_23 = (nI (k16 + 1)) := ey_23.trans (nI_add k16 1)
          refine lv_istore (lv' := [(5, .int (nI (k16 + 1))), (7, .int (nI v9)), (6, .int 12), (4, .int (nI (180 * t0))), (3, .int (nI s16)), (0, .ref (g 100)), (1, .int (nI a1)), (2, .int (nI b1))]) hx hb dX12_comesTo_52 hl (ltb rfl) rfl (fun ls hl => ?_)
          refine lv_iload hx hb dX12_comesTo_54 (lvA2 hl) ?_
          refine lv_if_eq (tgt := 65) hx hb dX12_comesTo_56 rfl (fun h => absurd h cq_eq_12_0) (fun _ => ?_)
          refine lv_iload hx hb dX12_comesTo_59 (lvA2 hl) ?_
          refine lv_iconst (v := 1) hx hb dX12_comesTo_61 kic_1 ?_
          refine lv_icmp_ne (tgt := 95) hx hb dX12_comesTo_62 rfl (fun _ => ?_) (fun h => absurd h cq_eq_12_1)
          refine lv_iload hx hb dX12_comesTo_95 (lvA2 hl) ?_
          refine lv_bipush (v := 10) hx hb dX12_comesTo_97 kbc_10 ?_
          refine lv_icmp_ne (tgt := 123) hx hb dX12_comesTo_99 rfl (fun _ => ?_) (fun h => absurd h cq_eq_12_10)
          refine lv_iload hx hb dX12_comesTo_123 (lvA2 hl) ?_
          refine lv_bipush (v := 11) hx hb dX12_comesTo_125 kbc_11 ?_
          refine lv_icmp_eq (tgt := 137) hx hb dX12_comesTo_127 rfl (fun h => absurd h cq_eq_12_11) (fun _ => ?_)
          refine lv_iload hx hb dX12_comesTo_130 (lvA2 hl) ?_
          refine lv_bipush (v := 12) hx hb dX12_comesTo_132 kbc_12 ?_
          refine lv_icmp_ne (tgt := 177) hx hb dX12_comesTo_134 rfl (fun h => absurd h cq_eq_12_12) (fun _ => ?_)
          refine lv_aload_n hx hb dX12_comesTo_137 rfl (lvA5 hl) ?_
          refine gM_86 S hK hP (v := .ref (g 37)) rfl dX12_comesTo_138 ?_
          refine lv_iload_n hx hb dX12_comesTo_141 rfl (lvA4 hl) ?_
          refine lv_iconst (v := 1) hx hb dX12_comesTo_142 kic_1 ?_
          refine lv_isub hx hb dX12_comesTo_143 ?_
          refine lv_topi (fun y_24 ey_24 => ?_)
          obtain rfl : y_24 = (nI (s16 - 1)) := ey_24.trans (nI_sub (b := 1) (by (first | omega | (have zz0 := Hid.u hi_cn; omega))))
          have kb_7 : (s16 - 1) < 180 := by (first | omega | (have zz0 := Hid.u hi_cn; omega))
          refine ldM_37 hx hb hK hP (x := ((F16 37) (s16 - 1))) (vp_in_nI kb_7 (ltb rfl)) (nI_clamp (Nat.lt_trans kb_7 (ltb rfl))) rfl dX12_comesTo_144 ?_
          refine lv_topi (fun y_25 ey_25 => ?_)
          obtain rfl : x9 = y_25 := (ey_25.trans (by rw [show s16 - 1 = s8.length by (first | omega | (have zz0 := Hid.u hi_cn; omega))]; exact hS9.1)).symm
          refine lv_iload hx hb dX12_comesTo_145 (lvA2 hl) ?_
          refine lv_bipush (v := 12) hx hb dX12_comesTo_147 kbc_12 ?_
          refine lv_icmp_ne (tgt := 156) hx hb dX12_comesTo_149 rfl (fun h => absurd h cq_eq_12_12) (fun _ => ?_)
          refine lv_iconst (v := 1) hx hb (oc_4 152 (aq_5 shX12_comesTo_147)) kic_1 ?_
          refine lv_goto (tgt := 157) hx hb (oc_167 153 (aq_6 shX12_comesTo_147) sgw_0_4) rfl ?_
          refine lv_icmp_ne (tgt := 170) hx hb dX12_comesTo_157 rfl (fun c_26 => ?_) (fun c_26 => ?_)
          ·
            have tc_26 : (x9.toInt : Int) ≠ 1 := fun q => c_26 (Int32.toInt_inj.mp q)
            refine lv_iload_n hx hb dX12_comesTo_170 rfl (lvA4 hl) ?_
            refine lv_iconst (v := 1) hx hb dX12_comesTo_171 kic_1 ?_
            refine lv_isub hx hb dX12_comesTo_172 ?_
            refine lv_topi (fun y_27 ey_27 => ?_)
            obtain rfl : y_27 = (nI (s16 - 1)) := ey_27.trans (nI_sub (b := 1) (by (first | omega | (have zz0 := Hid.u hi_cn; omega))))
            refine lv_istore_n (lv' := [(3, .int (nI (s16 - 1))), (5, .int (nI (k16 + 1))), (7, .int (nI v9)), (6, .int 12), (4, .int (nI (180 * t0))), (0, .ref (g 100)), (1, .int (nI a1)), (2, .int (nI b1))]) hx hb dX12_comesTo_173 rfl hl (ltb rfl) rfl (fun ls hl => ?_)
            refine lv_goto (tgt := 232) hx hb dX12_comesTo_174 rfl ?_
            refine lv_goto (tgt := 16) hx hb dX12_comesTo_232 rfl ?_
            exact ih16 (s16 - 1) (k16 + 1) F16 _ _ (by (first | omega | (have zz0 := Hid.u hi_cn; omega))) ⟨(Fr.mo hfr16 (sbl rfl) (sbl rfl) (sbl rfl)), hI16, ⟨by (first | omega | (have zz0 := Hid.u hi_cn; omega)), by (first | omega | (have zz0 := Hid.u hi_cn; omega))⟩, (MRI.mk (kk := kk + 1) ⟨by (first | omega | (have zz0 := Hid.u hi_cn; omega)), by (first | omega | (have zz0 := Hid.u hi_cn; omega)), by (first | omega | (have zz0 := Hid.u hi_cn; omega))⟩ (RNn (Or.inr ⟨rfl, by first | assumption | exact fun q => absurd (congrArg Int32.toInt q) (by assumption)⟩) hE9 hQ9 (by (first | omega | (have zz0 := Hid.u hi_cn; omega))) ho9 ht8 ht9) hS9.2 (by (first | omega | (have zz0 := Hid.u hi_cn; omega))))⟩ hP hD hS ls (lv_sub hl [1, 4, 0, 5, 6, 7] rfl)
          ·
            have tc_26 : (x9.toInt : Int) = 1 := congrArg Int32.toInt c_26
            refine lv_iload hx hb dX12_comesTo_160 (lvA3 hl) ?_
            refine lv_iload hx hb dX12_comesTo_162 (lvA1 hl) ?_
            refine lv_iadd hx hb dX12_comesTo_164 ?_
            refine lv_topi (fun y_28 ey_28 => ?_)
            obtain rfl : y_28 = (nI ((180 * t0) + v9)) := ey_28.trans (nI_add (180 * t0) v9)
            refine lv_istore (lv' := [(5, .int (nI ((180 * t0) + v9))), (7, .int (nI v9)), (6, .int 12), (4, .int (nI (180 * t0))), (3, .int (nI s16)), (0, .ref (g 100)), (1, .int (nI a1)), (2, .int (nI b1))]) hx hb dX12_comesTo_165 hl (ltb rfl) rfl (fun ls hl => ?_)
            refine lv_goto (tgt := 232) hx hb dX12_comesTo_167 rfl ?_
            refine lv_goto (tgt := 16) hx hb dX12_comesTo_232 rfl ?_
            exact ih16 s16 ((180 * t0) + v9) F16 _ _ (by (first | omega | (have zz0 := Hid.u hi_cn; omega))) ⟨(Fr.mo hfr16 (sbl rfl) (sbl rfl) (sbl rfl)), hI16, ⟨by (first | omega | (have zz0 := Hid.u hi_cn; omega)), by (first | omega | (have zz0 := Hid.u hi_cn; omega))⟩, (MRI.mk (kk := v9) ⟨by (first | omega | (have zz0 := Hid.u hi_cn; omega)), by (first | omega | (have zz0 := Hid.u hi_cn; omega)), by (first | omega | (have zz0 := Hid.u hi_cn; omega))⟩ (RNj (Or.inr ⟨rfl, by first | assumption | exact Int32.toInt_inj.mp (by assumption)⟩) hE9 hQ9 (by (first | omega | (have zz0 := Hid.u hi_cn; omega))) ho9 hlt9 ht8 ht7) hS9 hl9)⟩ hP hD hS ls (lv_sub hl [0, 3, 4, 5, 6, 7] rfl)
        ·
          obtain ⟨x9, s8, rfl, hx9, hk8⟩ := KS.c (t := xa) (ty := (ya :: u9)) (by rw [← ht8]; exact hQ9)
          obtain ⟨y9, s7, rfl, hy9, hk7⟩ := KS.c hk8
          have e6 : (x9 :: y9 :: s7).length = s7.length + 2 := rfl
          have e5 : (y9 :: s7).length = s7.length + 1 := rfl
          rcases (by (first | omega | (have zz0 := Hid.u hi_cn; omega)) : c9 = 3 ∨ c9 = 4 ∨ c9 = 5 ∨ c9 = 6 ∨ c9 = 7 ∨ c9 = 8 ∨ c9 = 9 ∨ c9 = 10) with rfl | rfl | rfl | rfl | rfl | rfl | rfl | rfl
          ·
            have hl : lv_has ls 8 [(7, .int (nI v9)), (6, .int 2), (5, .int (nI k16)), (4, .int (nI (180 * t0))), (3, .int (nI s16)), (0, .ref (g 100)), (1, .int (nI a1)), (2, .int (nI b1))] := hl
            refine lv_iload hx hb dX12_comesTo_48 (lvA2 hl) ?_
            refine lv_iconst (v := 1) hx hb dX12_comesTo_50 kic_1 ?_
            refine lv_iadd hx hb dX12_comesTo_51 ?_
            refine lv_topi (fun y_29 ey_29 => ?_)
            obtain rfl : y_29 = (nI (k16 + 1)) := ey_29.trans (nI_add k16 1)
            refine lv_istore (lv' := [(5, .int (nI (k16 + 1))), (7, .int (nI v9)), (6, .int 2), (4, .int (nI (180 * t0))), (3, .int (nI s16)), (0, .ref (g 100)), (1, .int (nI a1)), (2, .int (nI b1))]) hx hb dX12_comesTo_52 hl (ltb rfl) rfl (fun ls hl => ?_)
            refine lv_iload hx hb dX12_comesTo_54 (lvA2 hl) ?_
            refine lv_if_eq (tgt := 65) hx hb dX12_comesTo_56 rfl (fun h => absurd h cq_eq_2_0) (fun _ => ?_)
            refine lv_iload hx hb dX12_comesTo_59 (lvA2 hl) ?_
            refine lv_iconst (v := 1) hx hb dX12_comesTo_61 kic_1 ?_
            refine lv_icmp_ne (tgt := 95) hx hb dX12_comesTo_62 rfl (fun _ => ?_) (fun h => absurd h cq_eq_2_1)
            refine lv_iload hx hb dX12_comesTo_95 (lvA2 hl) ?_
            refine lv_bipush (v := 10) hx hb dX12_comesTo_97 kbc_10 ?_
            refine lv_icmp_ne (tgt := 123) hx hb dX12_comesTo_99 rfl (fun _ => ?_) (fun h => absurd h cq_eq_2_10)
            refine lv_iload hx hb dX12_comesTo_123 (lvA2 hl) ?_
            refine lv_bipush (v := 11) hx hb dX12_comesTo_125 kbc_11 ?_
            refine lv_icmp_eq (tgt := 137) hx hb dX12_comesTo_127 rfl (fun h => absurd h cq_eq_2_11) (fun _ => ?_)
            refine lv_iload hx hb dX12_comesTo_130 (lvA2 hl) ?_
            refine lv_bipush (v := 12) hx hb dX12_comesTo_132 kbc_12 ?_
            refine lv_icmp_ne (tgt := 177) hx hb dX12_comesTo_134 rfl (fun _ => ?_) (fun h => absurd h cq_eq_2_12)
            refine lv_iload_n hx hb dX12_comesTo_177 rfl (lvA4 hl) ?_
            refine lv_iconst (v := 1) hx hb dX12_comesTo_178 kic_1 ?_
            refine lv_isub hx hb dX12_comesTo_179 ?_
            refine lv_topi (fun y_30 ey_30 => ?_)
            obtain rfl : y_30 = (nI (s16 - 1)) := ey_30.trans (nI_sub (b := 1) (by (first | omega | (have zz0 := Hid.u hi_cn; omega))))
            refine lv_istore_n (lv' := [(3, .int (nI (s16 - 1))), (5, .int (nI (k16 + 1))), (7, .int (nI v9)), (6, .int 2), (4, .int (nI (180 * t0))), (0, .ref (g 100)), (1, .int (nI a1)), (2, .int (nI b1))]) hx hb dX12_comesTo_180 rfl hl (ltb rfl) rfl (fun ls hl => ?_)
            refine lv_iload hx hb dX12_comesTo_181 (lvA3 hl) ?_
            refine lv_iconst (v := 5) hx hb dX12_comesTo_183 kic_5 ?_
            refine lv_icmp_eq (tgt := 194) hx hb dX12_comesTo_184 rfl (fun h => absurd h cq_eq_2_5) (fun _ => ?_)
            refine lv_iload hx hb dX12_comesTo_187 (lvA3 hl) ?_
            refine lv_bipush (v := 6) hx hb dX12_comesTo_189 kbc_6 ?_
            refine lv_icmp_ne (tgt := 205) hx hb dX12_comesTo_191 rfl (fun _ => ?_) (fun h => absurd h cq_eq_2_6)
            refine lv_aload_n hx hb dX12_comesTo_205 rfl (lvA5 hl) ?_
            refine gM_86 S hK hP (v := .ref (g 37)) rfl dX12_comesTo_206 ?_
            refine lv_iload_n hx hb dX12_comesTo_209 rfl (lvA0 hl) ?_
            refine lv_iconst (v := 1) hx hb dX12_comesTo_210 kic_1 ?_
            refine lv_isub hx hb dX12_comesTo_211 ?_
            refine lv_topi (fun y_31 ey_31 => ?_)
            obtain rfl : y_31 = (nI ((s16 - 1) - 1)) := ey_31.trans (nI_sub (b := 1) (by (first | omega | (have zz0 := Hid.u hi_cn; omega))))
            refine lv_iload hx hb dX12_comesTo_212 (lvA3 hl) ?_
            refine lv_aload_n hx hb dX12_comesTo_214 rfl (lvA5 hl) ?_
            refine gM_86 S hK hP (v := .ref (g 37)) rfl dX12_comesTo_215 ?_
            refine lv_iload_n hx hb dX12_comesTo_218 rfl (lvA0 hl) ?_
            refine lv_iconst (v := 1) hx hb dX12_comesTo_219 kic_1 ?_
            refine lv_isub hx hb dX12_comesTo_220 ?_
            refine lv_topi (fun y_32 ey_32 => ?_)
            obtain rfl : y_32 = (nI ((s16 - 1) - 1)) := ey_32.trans (nI_sub (b := 1) (by (first | omega | (have zz0 := Hid.u hi_cn; omega))))
            have kb_8 : ((s16 - 1) - 1) < 180 := by (first | omega | (have zz0 := Hid.u hi_cn; omega))
            refine ldM_37 hx hb hK hP (x := ((F16 37) ((s16 - 1) - 1))) (vp_in_nI kb_8 (ltb rfl)) (nI_clamp (Nat.lt_trans kb_8 (ltb rfl))) rfl dX12_comesTo_221 ?_
            refine lv_topi (fun y_33 ey_33 => ?_)
            obtain rfl : y9 = y_33 := (ey_33.trans (by rw [show s16 - 1 - 1 = s7.length by (first | omega | (have zz0 := Hid.u hi_cn; omega))]; exact hS9.2.1)).symm
            refine lv_aload_n hx hb dX12_comesTo_222 rfl (lvA5 hl) ?_
            refine gM_86 S hK hP (v := .ref (g 37)) rfl dX12_comesTo_223 ?_
            refine lv_iload_n hx hb dX12_comesTo_226 rfl (lvA0 hl) ?_
            have kb_9 : (s16 - 1) < 180 := by (first | omega | (have zz0 := Hid.u hi_cn; omega))
            refine ldM_37 hx hb hK hP (x := ((F16 37) (s16 - 1))) (vp_in_nI kb_9 (ltb rfl)) (nI_clamp (Nat.lt_trans kb_9 (ltb rfl))) rfl dX12_comesTo_227 ?_
            refine lv_topi (fun y_34 ey_34 => ?_)
            obtain rfl : x9 = y_34 := (ey_34.trans (by rw [show s16 - 1 = (y9 :: s7).length by (first | omega | (have zz0 := Hid.u hi_cn; omega))]; exact hS9.1)).symm
            refine vp_callSi (runS_r (As := [.int 2, .int y9, .int x9]) (rest := [.int (nI ((s16 - 1) - 1)), .ref (g 37)]) S (q_reckon9 l D cI cB cZ 2 y9 x9 ⟨by decide, by decide⟩ (fun q => by rcases q with q | q <;> exact absurd q (by decide))) kS_RX12_327 hK hP [] rfl ⟨Nat.le_of_ble_eq_true rfl, Nat.le_of_ble_eq_true rfl⟩ ⟨Nat.le_of_ble_eq_true rfl, Nat.le_of_ble_eq_true rfl⟩ rfl hl.1 rfl (Nat.le_of_ble_eq_true rfl) dX12_comesTo_228) (fun r_35 h_36 => ?_)
            obtain rfl : r_35 = (rk 3 y9 x9) := h_36
            refine stM_37 hx hb hK hP hD hS (Fn2 := (va_up F16 37 (upd (F16 37) ((s16 - 1) - 1) (rk 3 y9 x9)))) (vp_in_nI kb_8 (ltb rfl)) (nI_clamp (Nat.lt_trans kb_8 (ltb rfl))) rfl dX12_comesTo_231 (fun H locs hP hD hS => ?_)
            refine lv_goto (tgt := 16) hx hb dX12_comesTo_232 rfl ?_
            exact ih16 (s16 - 1) (k16 + 1) (va_up F16 37 (upd (F16 37) ((s16 - 1) - 1) (rk 3 y9 x9))) _ _ (by (first | omega | (have zz0 := Hid.u hi_cn; omega))) ⟨(Fr.mo (Fr.f 37 hfr16) (sbl rfl) (sbl rfl) (sbl rfl)), (IM.fr (In := In) hI16 (Fr.f 37 Fr.rf) (by decide) (by decide)), ⟨by (first | omega | (have zz0 := Hid.u hi_cn; omega)), by (first | omega | (have zz0 := Hid.u hi_cn; omega))⟩, (MRI.mk (kk := kk + 1) ⟨by (first | omega | (have zz0 := Hid.u hi_cn; omega)), by (first | omega | (have zz0 := Hid.u hi_cn; omega)), by (first | omega | (have zz0 := Hid.u hi_cn; omega))⟩ (RNb ⟨by decide, by decide⟩ (fun q => by first | exact absurd q.1 (by decide) | exact absurd q.2 (by first | assumption | exact fun q => absurd (congrArg Int32.toInt q) (by assumption))) hE9 hQ9 (by (first | omega | (have zz0 := Hid.u hi_cn; omega))) ho9 ht8 ht9 ht7) (STK.pu hS9.2.2 (by (first | omega | (have zz0 := Hid.u hi_cn; omega)))) (by show _ = s7.length + 1; (first | omega | (have zz0 := Hid.u hi_cn; omega))))⟩ hP hD hS ls (lv_sub hl [1, 4, 0, 5, 6, 7] rfl)
          ·
            have hl : lv_has ls 8 [(7, .int (nI v9)), (6, .int 3), (5, .int (nI k16)), (4, .int (nI (180 * t0))), (3, .int (nI s16)), (0, .ref (g 100)), (1, .int (nI a1)), (2, .int (nI b1))] := hl
            refine lv_iload hx hb dX12_comesTo_48 (lvA2 hl) ?_
            refine lv_iconst (v := 1) hx hb dX12_comesTo_50 kic_1 ?_
            refine lv_iadd hx hb dX12_comesTo_51 ?_
            refine lv_topi (fun y_37 ey_37 => ?_)
            obtain rfl : y_37 = (nI (k16 + 1)) := ey_37.trans (nI_add k16 1)
            refine lv_istore (lv' := [(5, .int (nI (k16 + 1))), (7, .int (nI v9)), (6, .int 3), (4, .int (nI (180 * t0))), (3, .int (nI s16)), (0, .ref (g 100)), (1, .int (nI a1)), (2, .int (nI b1))]) hx hb dX12_comesTo_52 hl (ltb rfl) rfl (fun ls hl => ?_)
            refine lv_iload hx hb dX12_comesTo_54 (lvA2 hl) ?_
            refine lv_if_eq (tgt := 65) hx hb dX12_comesTo_56 rfl (fun h => absurd h cq_eq_3_0) (fun _ => ?_)
            refine lv_iload hx hb dX12_comesTo_59 (lvA2 hl) ?_
            refine lv_iconst (v := 1) hx hb dX12_comesTo_61 kic_1 ?_
            refine lv_icmp_ne (tgt := 95) hx hb dX12_comesTo_62 rfl (fun _ => ?_) (fun h => absurd h cq_eq_3_1)
            refine lv_iload hx hb dX12_comesTo_95 (lvA2 hl) ?_
            refine lv_bipush (v := 10) hx hb dX12_comesTo_97 kbc_10 ?_
            refine lv_icmp_ne (tgt := 123) hx hb dX12_comesTo_99 rfl (fun _ => ?_) (fun h => absurd h cq_eq_3_10)
            refine lv_iload hx hb dX12_comesTo_123 (lvA2 hl) ?_
            refine lv_bipush (v := 11) hx hb dX12_comesTo_125 kbc_11 ?_
            refine lv_icmp_eq (tgt := 137) hx hb dX12_comesTo_127 rfl (fun h => absurd h cq_eq_3_11) (fun _ => ?_)
            refine lv_iload hx hb dX12_comesTo_130 (lvA2 hl) ?_
            refine lv_bipush (v := 12) hx hb dX12_comesTo_132 kbc_12 ?_
            refine lv_icmp_ne (tgt := 177) hx hb dX12_comesTo_134 rfl (fun _ => ?_) (fun h => absurd h cq_eq_3_12)
            refine lv_iload_n hx hb dX12_comesTo_177 rfl (lvA4 hl) ?_
            refine lv_iconst (v := 1) hx hb dX12_comesTo_178 kic_1 ?_
            refine lv_isub hx hb dX12_comesTo_179 ?_
            refine lv_topi (fun y_38 ey_38 => ?_)
            obtain rfl : y_38 = (nI (s16 - 1)) := ey_38.trans (nI_sub (b := 1) (by (first | omega | (have zz0 := Hid.u hi_cn; omega))))
            refine lv_istore_n (lv' := [(3, .int (nI (s16 - 1))), (5, .int (nI (k16 + 1))), (7, .int (nI v9)), (6, .int 3), (4, .int (nI (180 * t0))), (0, .ref (g 100)), (1, .int (nI a1)), (2, .int (nI b1))]) hx hb dX12_comesTo_180 rfl hl (ltb rfl) rfl (fun ls hl => ?_)
            refine lv_iload hx hb dX12_comesTo_181 (lvA3 hl) ?_
            refine lv_iconst (v := 5) hx hb dX12_comesTo_183 kic_5 ?_
            refine lv_icmp_eq (tgt := 194) hx hb dX12_comesTo_184 rfl (fun h => absurd h cq_eq_3_5) (fun _ => ?_)
            refine lv_iload hx hb dX12_comesTo_187 (lvA3 hl) ?_
            refine lv_bipush (v := 6) hx hb dX12_comesTo_189 kbc_6 ?_
            refine lv_icmp_ne (tgt := 205) hx hb dX12_comesTo_191 rfl (fun _ => ?_) (fun h => absurd h cq_eq_3_6)
            refine lv_aload_n hx hb dX12_comesTo_205 rfl (lvA5 hl) ?_
            refine gM_86 S hK hP (v := .ref (g 37)) rfl dX12_comesTo_206 ?_
            refine lv_iload_n hx hb dX12_comesTo_209 rfl (lvA0 hl) ?_
            refine lv_iconst (v := 1) hx hb dX12_comesTo_210 kic_1 ?_
            refine lv_isub hx hb dX12_comesTo_211 ?_
            refine lv_topi (fun y_39 ey_39 => ?_)
            obtain rfl : y_39 = (nI ((s16 - 1) - 1)) := ey_39.trans (nI_sub (b := 1) (by (first | omega | (have zz0 := Hid.u hi_cn; omega))))
            refine lv_iload hx hb dX12_comesTo_212 (lvA3 hl) ?_
            refine lv_aload_n hx hb dX12_comesTo_214 rfl (lvA5 hl) ?_
            refine gM_86 S hK hP (v := .ref (g 37)) rfl dX12_comesTo_215 ?_
            refine lv_iload_n hx hb dX12_comesTo_218 rfl (lvA0 hl) ?_
            refine lv_iconst (v := 1) hx hb dX12_comesTo_219 kic_1 ?_
            refine lv_isub hx hb dX12_comesTo_220 ?_
            refine lv_topi (fun y_40 ey_40 => ?_)
            obtain rfl : y_40 = (nI ((s16 - 1) - 1)) := ey_40.trans (nI_sub (b := 1) (by (first | omega | (have zz0 := Hid.u hi_cn; omega))))
            have kb_10 : ((s16 - 1) - 1) < 180 := by (first | omega | (have zz0 := Hid.u hi_cn; omega))
            refine ldM_37 hx hb hK hP (x := ((F16 37) ((s16 - 1) - 1))) (vp_in_nI kb_10 (ltb rfl)) (nI_clamp (Nat.lt_trans kb_10 (ltb rfl))) rfl dX12_comesTo_221 ?_
            refine lv_topi (fun y_41 ey_41 => ?_)
            obtain rfl : y9 = y_41 := (ey_41.trans (by rw [show s16 - 1 - 1 = s7.length by (first | omega | (have zz0 := Hid.u hi_cn; omega))]; exact hS9.2.1)).symm
            refine lv_aload_n hx hb dX12_comesTo_222 rfl (lvA5 hl) ?_
            refine gM_86 S hK hP (v := .ref (g 37)) rfl dX12_comesTo_223 ?_
            refine lv_iload_n hx hb dX12_comesTo_226 rfl (lvA0 hl) ?_
            have kb_11 : (s16 - 1) < 180 := by (first | omega | (have zz0 := Hid.u hi_cn; omega))
            refine ldM_37 hx hb hK hP (x := ((F16 37) (s16 - 1))) (vp_in_nI kb_11 (ltb rfl)) (nI_clamp (Nat.lt_trans kb_11 (ltb rfl))) rfl dX12_comesTo_227 ?_
            refine lv_topi (fun y_42 ey_42 => ?_)
            obtain rfl : x9 = y_42 := (ey_42.trans (by rw [show s16 - 1 = (y9 :: s7).length by (first | omega | (have zz0 := Hid.u hi_cn; omega))]; exact hS9.1)).symm
            refine vp_callSi (runS_r (As := [.int 3, .int y9, .int x9]) (rest := [.int (nI ((s16 - 1) - 1)), .ref (g 37)]) S (q_reckon9 l D cI cB cZ 3 y9 x9 ⟨by decide, by decide⟩ (fun q => by rcases q with q | q <;> exact absurd q (by decide))) kS_RX12_327 hK hP [] rfl ⟨Nat.le_of_ble_eq_true rfl, Nat.le_of_ble_eq_true rfl⟩ ⟨Nat.le_of_ble_eq_true rfl, Nat.le_of_ble_eq_true rfl⟩ rfl hl.1 rfl (Nat.le_of_ble_eq_true rfl) dX12_comesTo_228) (fun r_43 h_44 => ?_)
            obtain rfl : r_43 = (rk 4 y9 x9) := h_44
            refine stM_37 hx hb hK hP hD hS (Fn2 := (va_up F16 37 (upd (F16 37) ((s16 - 1) - 1) (rk 4 y9 x9)))) (vp_in_nI kb_10 (ltb rfl)) (nI_clamp (Nat.lt_trans kb_10 (ltb rfl))) rfl dX12_comesTo_231 (fun H locs hP hD hS => ?_)
            refine lv_goto (tgt := 16) hx hb dX12_comesTo_232 rfl ?_
            exact ih16 (s16 - 1) (k16 + 1) (va_up F16 37 (upd (F16 37) ((s16 - 1) - 1) (rk 4 y9 x9))) _ _ (by (first | omega | (have zz0 := Hid.u hi_cn; omega))) ⟨(Fr.mo (Fr.f 37 hfr16) (sbl rfl) (sbl rfl) (sbl rfl)), (IM.fr (In := In) hI16 (Fr.f 37 Fr.rf) (by decide) (by decide)), ⟨by (first | omega | (have zz0 := Hid.u hi_cn; omega)), by (first | omega | (have zz0 := Hid.u hi_cn; omega))⟩, (MRI.mk (kk := kk + 1) ⟨by (first | omega | (have zz0 := Hid.u hi_cn; omega)), by (first | omega | (have zz0 := Hid.u hi_cn; omega)), by (first | omega | (have zz0 := Hid.u hi_cn; omega))⟩ (RNb ⟨by decide, by decide⟩ (fun q => by first | exact absurd q.1 (by decide) | exact absurd q.2 (by first | assumption | exact fun q => absurd (congrArg Int32.toInt q) (by assumption))) hE9 hQ9 (by (first | omega | (have zz0 := Hid.u hi_cn; omega))) ho9 ht8 ht9 ht7) (STK.pu hS9.2.2 (by (first | omega | (have zz0 := Hid.u hi_cn; omega)))) (by show _ = s7.length + 1; (first | omega | (have zz0 := Hid.u hi_cn; omega))))⟩ hP hD hS ls (lv_sub hl [1, 4, 0, 5, 6, 7] rfl)
          ·
            have hl : lv_has ls 8 [(7, .int (nI v9)), (6, .int 4), (5, .int (nI k16)), (4, .int (nI (180 * t0))), (3, .int (nI s16)), (0, .ref (g 100)), (1, .int (nI a1)), (2, .int (nI b1))] := hl
            refine lv_iload hx hb dX12_comesTo_48 (lvA2 hl) ?_
            refine lv_iconst (v := 1) hx hb dX12_comesTo_50 kic_1 ?_
            refine lv_iadd hx hb dX12_comesTo_51 ?_
            refine lv_topi (fun y_45 ey_45 => ?_)
            obtain rfl : y_45 = (nI (k16 + 1)) := ey_45.trans (nI_add k16 1)
            refine lv_istore (lv' := [(5, .int (nI (k16 + 1))), (7, .int (nI v9)), (6, .int 4), (4, .int (nI (180 * t0))), (3, .int (nI s16)), (0, .ref (g 100)), (1, .int (nI a1)), (2, .int (nI b1))]) hx hb dX12_comesTo_52 hl (ltb rfl) rfl (fun ls hl => ?_)
            refine lv_iload hx hb dX12_comesTo_54 (lvA2 hl) ?_
            refine lv_if_eq (tgt := 65) hx hb dX12_comesTo_56 rfl (fun h => absurd h cq_eq_4_0) (fun _ => ?_)
            refine lv_iload hx hb dX12_comesTo_59 (lvA2 hl) ?_
            refine lv_iconst (v := 1) hx hb dX12_comesTo_61 kic_1 ?_
            refine lv_icmp_ne (tgt := 95) hx hb dX12_comesTo_62 rfl (fun _ => ?_) (fun h => absurd h cq_eq_4_1)
            refine lv_iload hx hb dX12_comesTo_95 (lvA2 hl) ?_
            refine lv_bipush (v := 10) hx hb dX12_comesTo_97 kbc_10 ?_
            refine lv_icmp_ne (tgt := 123) hx hb dX12_comesTo_99 rfl (fun _ => ?_) (fun h => absurd h cq_eq_4_10)
            refine lv_iload hx hb dX12_comesTo_123 (lvA2 hl) ?_
            refine lv_bipush (v := 11) hx hb dX12_comesTo_125 kbc_11 ?_
            refine lv_icmp_eq (tgt := 137) hx hb dX12_comesTo_127 rfl (fun h => absurd h cq_eq_4_11) (fun _ => ?_)
            refine lv_iload hx hb dX12_comesTo_130 (lvA2 hl) ?_
            refine lv_bipush (v := 12) hx hb dX12_comesTo_132 kbc_12 ?_
            refine lv_icmp_ne (tgt := 177) hx hb dX12_comesTo_134 rfl (fun _ => ?_) (fun h => absurd h cq_eq_4_12)
            refine lv_iload_n hx hb dX12_comesTo_177 rfl (lvA4 hl) ?_
            refine lv_iconst (v := 1) hx hb dX12_comesTo_178 kic_1 ?_
            refine lv_isub hx hb dX12_comesTo_179 ?_
            refine lv_topi (fun y_46 ey_46 => ?_)
            obtain rfl : y_46 = (nI (s16 - 1)) := ey_46.trans (nI_sub (b := 1) (by (first | omega | (have zz0 := Hid.u hi_cn; omega))))
            refine lv_istore_n (lv' := [(3, .int (nI (s16 - 1))), (5, .int (nI (k16 + 1))), (7, .int (nI v9)), (6, .int 4), (4, .int (nI (180 * t0))), (0, .ref (g 100)), (1, .int (nI a1)), (2, .int (nI b1))]) hx hb dX12_comesTo_180 rfl hl (ltb rfl) rfl (fun ls hl => ?_)
            refine lv_iload hx hb dX12_comesTo_181 (lvA3 hl) ?_
            refine lv_iconst (v := 5) hx hb dX12_comesTo_183 kic_5 ?_
            refine lv_icmp_eq (tgt := 194) hx hb dX12_comesTo_184 rfl (fun h => absurd h cq_eq_4_5) (fun _ => ?_)
            refine lv_iload hx hb dX12_comesTo_187 (lvA3 hl) ?_
            refine lv_bipush (v := 6) hx hb dX12_comesTo_189 kbc_6 ?_
            refine lv_icmp_ne (tgt := 205) hx hb dX12_comesTo_191 rfl (fun _ => ?_) (fun h => absurd h cq_eq_4_6)
            refine lv_aload_n hx hb dX12_comesTo_205 rfl (lvA5 hl) ?_
            refine gM_86 S hK hP (v := .ref (g 37)) rfl dX12_comesTo_206 ?_
            refine lv_iload_n hx hb dX12_comesTo_209 rfl (lvA0 hl) ?_
            refine lv_iconst (v := 1) hx hb dX12_comesTo_210 kic_1 ?_
            refine lv_isub hx hb dX12_comesTo_211 ?_
            refine lv_topi (fun y_47 ey_47 => ?_)
            obtain rfl : y_47 = (nI ((s16 - 1) - 1)) := ey_47.trans (nI_sub (b := 1) (by (first | omega | (have zz0 := Hid.u hi_cn; omega))))
            refine lv_iload hx hb dX12_comesTo_212 (lvA3 hl) ?_
            refine lv_aload_n hx hb dX12_comesTo_214 rfl (lvA5 hl) ?_
            refine gM_86 S hK hP (v := .ref (g 37)) rfl dX12_comesTo_215 ?_
            refine lv_iload_n hx hb dX12_comesTo_218 rfl (lvA0 hl) ?_
            refine lv_iconst (v := 1) hx hb dX12_comesTo_219 kic_1 ?_
            refine lv_isub hx hb dX12_comesTo_220 ?_
            refine lv_topi (fun y_48 ey_48 => ?_)
            obtain rfl : y_48 = (nI ((s16 - 1) - 1)) := ey_48.trans (nI_sub (b := 1) (by (first | omega | (have zz0 := Hid.u hi_cn; omega))))
            have kb_12 : ((s16 - 1) - 1) < 180 := by (first | omega | (have zz0 := Hid.u hi_cn; omega))
            refine ldM_37 hx hb hK hP (x := ((F16 37) ((s16 - 1) - 1))) (vp_in_nI kb_12 (ltb rfl)) (nI_clamp (Nat.lt_trans kb_12 (ltb rfl))) rfl dX12_comesTo_221 ?_
            refine lv_topi (fun y_49 ey_49 => ?_)
            obtain rfl : y9 = y_49 := (ey_49.trans (by rw [show s16 - 1 - 1 = s7.length by (first | omega | (have zz0 := Hid.u hi_cn; omega))]; exact hS9.2.1)).symm
            refine lv_aload_n hx hb dX12_comesTo_222 rfl (lvA5 hl) ?_
            refine gM_86 S hK hP (v := .ref (g 37)) rfl dX12_comesTo_223 ?_
            refine lv_iload_n hx hb dX12_comesTo_226 rfl (lvA0 hl) ?_
            have kb_13 : (s16 - 1) < 180 := by (first | omega | (have zz0 := Hid.u hi_cn; omega))
            refine ldM_37 hx hb hK hP (x := ((F16 37) (s16 - 1))) (vp_in_nI kb_13 (ltb rfl)) (nI_clamp (Nat.lt_trans kb_13 (ltb rfl))) rfl dX12_comesTo_227 ?_
            refine lv_topi (fun y_50 ey_50 => ?_)
            obtain rfl : x9 = y_50 := (ey_50.trans (by rw [show s16 - 1 = (y9 :: s7).length by (first | omega | (have zz0 := Hid.u hi_cn; omega))]; exact hS9.1)).symm
            refine vp_callSi (runS_r (As := [.int 4, .int y9, .int x9]) (rest := [.int (nI ((s16 - 1) - 1)), .ref (g 37)]) S (q_reckon9 l D cI cB cZ 4 y9 x9 ⟨by decide, by decide⟩ (fun q => by rcases q with q | q <;> exact absurd q (by decide))) kS_RX12_327 hK hP [] rfl ⟨Nat.le_of_ble_eq_true rfl, Nat.le_of_ble_eq_true rfl⟩ ⟨Nat.le_of_ble_eq_true rfl, Nat.le_of_ble_eq_true rfl⟩ rfl hl.1 rfl (Nat.le_of_ble_eq_true rfl) dX12_comesTo_228) (fun r_51 h_52 => ?_)
            obtain rfl : r_51 = (rk 5 y9 x9) := h_52
            refine stM_37 hx hb hK hP hD hS (Fn2 := (va_up F16 37 (upd (F16 37) ((s16 - 1) - 1) (rk 5 y9 x9)))) (vp_in_nI kb_12 (ltb rfl)) (nI_clamp (Nat.lt_trans kb_12 (ltb rfl))) rfl dX12_comesTo_231 (fun H locs hP hD hS => ?_)
            refine lv_goto (tgt := 16) hx hb dX12_comesTo_232 rfl ?_
            exact ih16 (s16 - 1) (k16 + 1) (va_up F16 37 (upd (F16 37) ((s16 - 1) - 1) (rk 5 y9 x9))) _ _ (by (first | omega | (have zz0 := Hid.u hi_cn; omega))) ⟨(Fr.mo (Fr.f 37 hfr16) (sbl rfl) (sbl rfl) (sbl rfl)), (IM.fr (In := In) hI16 (Fr.f 37 Fr.rf) (by decide) (by decide)), ⟨by (first | omega | (have zz0 := Hid.u hi_cn; omega)), by (first | omega | (have zz0 := Hid.u hi_cn; omega))⟩, (MRI.mk (kk := kk + 1) ⟨by (first | omega | (have zz0 := Hid.u hi_cn; omega)), by (first | omega | (have zz0 := Hid.u hi_cn; omega)), by (first | omega | (have zz0 := Hid.u hi_cn; omega))⟩ (RNb ⟨by decide, by decide⟩ (fun q => by first | exact absurd q.1 (by decide) | exact absurd q.2 (by first | assumption | exact fun q => absurd (congrArg Int32.toInt q) (by assumption))) hE9 hQ9 (by (first | omega | (have zz0 := Hid.u hi_cn; omega))) ho9 ht8 ht9 ht7) (STK.pu hS9.2.2 (by (first | omega | (have zz0 := Hid.u hi_cn; omega)))) (by show _ = s7.length + 1; (first | omega | (have zz0 := Hid.u hi_cn; omega))))⟩ hP hD hS ls (lv_sub hl [1, 4, 0, 5, 6, 7] rfl)
          ·
            have hl : lv_has ls 8 [(7, .int (nI v9)), (6, .int 5), (5, .int (nI k16)), (4, .int (nI (180 * t0))), (3, .int (nI s16)), (0, .ref (g 100)), (1, .int (nI a1)), (2, .int (nI b1))] := hl
            refine lv_iload hx hb dX12_comesTo_48 (lvA2 hl) ?_
            refine lv_iconst (v := 1) hx hb dX12_comesTo_50 kic_1 ?_
            refine lv_iadd hx hb dX12_comesTo_51 ?_
            refine lv_topi (fun y_53 ey_53 => ?_)
            obtain rfl : y_53 = (nI (k16 + 1)) := ey_53.trans (nI_add k16 1)
            refine lv_istore (lv' := [(5, .int (nI (k16 + 1))), (7, .int (nI v9)), (6, .int 5), (4, .int (nI (180 * t0))), (3, .int (nI s16)), (0, .ref (g 100)), (1, .int (nI a1)), (2, .int (nI b1))]) hx hb dX12_comesTo_52 hl (ltb rfl) rfl (fun ls hl => ?_)
            refine lv_iload hx hb dX12_comesTo_54 (lvA2 hl) ?_
            refine lv_if_eq (tgt := 65) hx hb dX12_comesTo_56 rfl (fun h => absurd h cq_eq_5_0) (fun _ => ?_)
            refine lv_iload hx hb dX12_comesTo_59 (lvA2 hl) ?_
            refine lv_iconst (v := 1) hx hb dX12_comesTo_61 kic_1 ?_
            refine lv_icmp_ne (tgt := 95) hx hb dX12_comesTo_62 rfl (fun _ => ?_) (fun h => absurd h cq_eq_5_1)
            refine lv_iload hx hb dX12_comesTo_95 (lvA2 hl) ?_
            refine lv_bipush (v := 10) hx hb dX12_comesTo_97 kbc_10 ?_
            refine lv_icmp_ne (tgt := 123) hx hb dX12_comesTo_99 rfl (fun _ => ?_) (fun h => absurd h cq_eq_5_10)
            refine lv_iload hx hb dX12_comesTo_123 (lvA2 hl) ?_
            refine lv_bipush (v := 11) hx hb dX12_comesTo_125 kbc_11 ?_
            refine lv_icmp_eq (tgt := 137) hx hb dX12_comesTo_127 rfl (fun h => absurd h cq_eq_5_11) (fun _ => ?_)
            refine lv_iload hx hb dX12_comesTo_130 (lvA2 hl) ?_
            refine lv_bipush (v := 12) hx hb dX12_comesTo_132 kbc_12 ?_
            refine lv_icmp_ne (tgt := 177) hx hb dX12_comesTo_134 rfl (fun _ => ?_) (fun h => absurd h cq_eq_5_12)
            refine lv_iload_n hx hb dX12_comesTo_177 rfl (lvA4 hl) ?_
            refine lv_iconst (v := 1) hx hb dX12_comesTo_178 kic_1 ?_
            refine lv_isub hx hb dX12_comesTo_179 ?_
            refine lv_topi (fun y_54 ey_54 => ?_)
            obtain rfl : y_54 = (nI (s16 - 1)) := ey_54.trans (nI_sub (b := 1) (by (first | omega | (have zz0 := Hid.u hi_cn; omega))))
            refine lv_istore_n (lv' := [(3, .int (nI (s16 - 1))), (5, .int (nI (k16 + 1))), (7, .int (nI v9)), (6, .int 5), (4, .int (nI (180 * t0))), (0, .ref (g 100)), (1, .int (nI a1)), (2, .int (nI b1))]) hx hb dX12_comesTo_180 rfl hl (ltb rfl) rfl (fun ls hl => ?_)
            refine lv_iload hx hb dX12_comesTo_181 (lvA3 hl) ?_
            refine lv_iconst (v := 5) hx hb dX12_comesTo_183 kic_5 ?_
            refine lv_icmp_eq (tgt := 194) hx hb dX12_comesTo_184 rfl (fun _ => ?_) (fun h => absurd h cq_eq_5_5)
            refine lv_aload_n hx hb dX12_comesTo_194 rfl (lvA5 hl) ?_
            refine gM_86 S hK hP (v := .ref (g 37)) rfl dX12_comesTo_195 ?_
            refine lv_iload_n hx hb dX12_comesTo_198 rfl (lvA0 hl) ?_
            have kb_14 : (s16 - 1) < 180 := by (first | omega | (have zz0 := Hid.u hi_cn; omega))
            refine ldM_37 hx hb hK hP (x := ((F16 37) (s16 - 1))) (vp_in_nI kb_14 (ltb rfl)) (nI_clamp (Nat.lt_trans kb_14 (ltb rfl))) rfl dX12_comesTo_199 ?_
            refine lv_topi (fun y_55 ey_55 => ?_)
            obtain rfl : x9 = y_55 := (ey_55.trans (by rw [show s16 - 1 = (y9 :: s7).length by (first | omega | (have zz0 := Hid.u hi_cn; omega))]; exact hS9.1)).symm
            refine lv_if_ne (tgt := 205) hx hb dX12_comesTo_200 rfl (fun c_56 => ?_) (fun c_56 => ?_)
            ·
              have tc_56 : (x9.toInt : Int) ≠ 0 := fun q => c_56 (Int32.toInt_inj.mp q)
              refine lv_aload_n hx hb dX12_comesTo_205 rfl (lvA5 hl) ?_
              refine gM_86 S hK hP (v := .ref (g 37)) rfl dX12_comesTo_206 ?_
              refine lv_iload_n hx hb dX12_comesTo_209 rfl (lvA0 hl) ?_
              refine lv_iconst (v := 1) hx hb dX12_comesTo_210 kic_1 ?_
              refine lv_isub hx hb dX12_comesTo_211 ?_
              refine lv_topi (fun y_57 ey_57 => ?_)
              obtain rfl : y_57 = (nI ((s16 - 1) - 1)) := ey_57.trans (nI_sub (b := 1) (by (first | omega | (have zz0 := Hid.u hi_cn; omega))))
              refine lv_iload hx hb dX12_comesTo_212 (lvA3 hl) ?_
              refine lv_aload_n hx hb dX12_comesTo_214 rfl (lvA5 hl) ?_
              refine gM_86 S hK hP (v := .ref (g 37)) rfl dX12_comesTo_215 ?_
              refine lv_iload_n hx hb dX12_comesTo_218 rfl (lvA0 hl) ?_
              refine lv_iconst (v := 1) hx hb dX12_comesTo_219 kic_1 ?_
              refine lv_isub hx hb dX12_comesTo_220 ?_
              refine lv_topi (fun y_58 ey_58 => ?_)
              obtain rfl : y_58 = (nI ((s16 - 1) - 1)) := ey_58.trans (nI_sub (b := 1) (by (first | omega | (have zz0 := Hid.u hi_cn; omega))))
              have kb_15 : ((s16 - 1) - 1) < 180 := by (first | omega | (have zz0 := Hid.u hi_cn; omega))
              refine ldM_37 hx hb hK hP (x := ((F16 37) ((s16 - 1) - 1))) (vp_in_nI kb_15 (ltb rfl)) (nI_clamp (Nat.lt_trans kb_15 (ltb rfl))) rfl dX12_comesTo_221 ?_
              refine lv_topi (fun y_59 ey_59 => ?_)
              obtain rfl : y9 = y_59 := (ey_59.trans (by rw [show s16 - 1 - 1 = s7.length by (first | omega | (have zz0 := Hid.u hi_cn; omega))]; exact hS9.2.1)).symm
              refine lv_aload_n hx hb dX12_comesTo_222 rfl (lvA5 hl) ?_
              refine gM_86 S hK hP (v := .ref (g 37)) rfl dX12_comesTo_223 ?_
              refine lv_iload_n hx hb dX12_comesTo_226 rfl (lvA0 hl) ?_
              refine ldM_37 hx hb hK hP (x := ((F16 37) (s16 - 1))) (vp_in_nI kb_14 (ltb rfl)) (nI_clamp (Nat.lt_trans kb_14 (ltb rfl))) rfl dX12_comesTo_227 ?_
              refine lv_topi (fun y_60 ey_60 => ?_)
              obtain rfl : x9 = y_60 := (ey_60.trans (by rw [show s16 - 1 = (y9 :: s7).length by (first | omega | (have zz0 := Hid.u hi_cn; omega))]; exact hS9.1)).symm
              refine vp_callSi (runS_r (As := [.int 5, .int y9, .int x9]) (rest := [.int (nI ((s16 - 1) - 1)), .ref (g 37)]) S (q_reckon9 l D cI cB cZ 5 y9 x9 ⟨by decide, by decide⟩ (fun _ => by first | assumption | exact fun q => absurd (congrArg Int32.toInt q) (by assumption))) kS_RX12_327 hK hP [] rfl ⟨Nat.le_of_ble_eq_true rfl, Nat.le_of_ble_eq_true rfl⟩ ⟨Nat.le_of_ble_eq_true rfl, Nat.le_of_ble_eq_true rfl⟩ rfl hl.1 rfl (Nat.le_of_ble_eq_true rfl) dX12_comesTo_228) (fun r_61 h_62 => ?_)
              obtain rfl : r_61 = (rk 6 y9 x9) := h_62
              refine stM_37 hx hb hK hP hD hS (Fn2 := (va_up F16 37 (upd (F16 37) ((s16 - 1) - 1) (rk 6 y9 x9)))) (vp_in_nI kb_15 (ltb rfl)) (nI_clamp (Nat.lt_trans kb_15 (ltb rfl))) rfl dX12_comesTo_231 (fun H locs hP hD hS => ?_)
              refine lv_goto (tgt := 16) hx hb dX12_comesTo_232 rfl ?_
              exact ih16 (s16 - 1) (k16 + 1) (va_up F16 37 (upd (F16 37) ((s16 - 1) - 1) (rk 6 y9 x9))) _ _ (by (first | omega | (have zz0 := Hid.u hi_cn; omega))) ⟨(Fr.mo (Fr.f 37 hfr16) (sbl rfl) (sbl rfl) (sbl rfl)), (IM.fr (In := In) hI16 (Fr.f 37 Fr.rf) (by decide) (by decide)), ⟨by (first | omega | (have zz0 := Hid.u hi_cn; omega)), by (first | omega | (have zz0 := Hid.u hi_cn; omega))⟩, (MRI.mk (kk := kk + 1) ⟨by (first | omega | (have zz0 := Hid.u hi_cn; omega)), by (first | omega | (have zz0 := Hid.u hi_cn; omega)), by (first | omega | (have zz0 := Hid.u hi_cn; omega))⟩ (RNb ⟨by decide, by decide⟩ (fun q => by first | exact absurd q.1 (by decide) | exact absurd q.2 (by first | assumption | exact fun q => absurd (congrArg Int32.toInt q) (by assumption))) hE9 hQ9 (by (first | omega | (have zz0 := Hid.u hi_cn; omega))) ho9 ht8 ht9 ht7) (STK.pu hS9.2.2 (by (first | omega | (have zz0 := Hid.u hi_cn; omega)))) (by show _ = s7.length + 1; (first | omega | (have zz0 := Hid.u hi_cn; omega))))⟩ hP hD hS ls (lv_sub hl [1, 4, 0, 5, 6, 7] rfl)
            ·
              have tc_56 : (x9.toInt : Int) = 0 := congrArg Int32.toInt c_56
              refine lv_iconst (v := 0) hx hb dX12_comesTo_203 kic_0 ?_
              exact W.iret (v := 0) hx hb hr (fun t ht hW => ⟨⟨0, (cn, In, F16), rfl, ⟨(Fr.mo hfr16 (sbl rfl) (sbl rfl) (sbl rfl)), hI16, (by show 0 = MV o (cut (Fn 38)) a0 b0 ∧ (tb = true → 0 = 0 ∨ 0 = 1); exact (have e9 := RNr (c := 6) ⟨by decide, by first | assumption | exact Int32.toInt_inj.mp (by assumption)⟩ hE9 (by (first | omega | (have zz0 := Hid.u hi_cn; omega))) ho9; ⟨e9.symm, fun _ => Or.inl rfl⟩))⟩, by rw [ht]; exact hP, hD⟩, hS.F ht⟩) hS.2.2 dX12_comesTo_204
          ·
            have hl : lv_has ls 8 [(7, .int (nI v9)), (6, .int 6), (5, .int (nI k16)), (4, .int (nI (180 * t0))), (3, .int (nI s16)), (0, .ref (g 100)), (1, .int (nI a1)), (2, .int (nI b1))] := hl
            refine lv_iload hx hb dX12_comesTo_48 (lvA2 hl) ?_
            refine lv_iconst (v := 1) hx hb dX12_comesTo_50 kic_1 ?_
            refine lv_iadd hx hb dX12_comesTo_51 ?_
            refine lv_topi (fun y_63 ey_63 => ?_)
            obtain rfl : y_63 = (nI (k16 + 1)) := ey_63.trans (nI_add k16 1)
            refine lv_istore (lv' := [(5, .int (nI (k16 + 1))), (7, .int (nI v9)), (6, .int 6), (4, .int (nI (180 * t0))), (3, .int (nI s16)), (0, .ref (g 100)), (1, .int (nI a1)), (2, .int (nI b1))]) hx hb dX12_comesTo_52 hl (ltb rfl) rfl (fun ls hl => ?_)
            refine lv_iload hx hb dX12_comesTo_54 (lvA2 hl) ?_
            refine lv_if_eq (tgt := 65) hx hb dX12_comesTo_56 rfl (fun h => absurd h cq_eq_6_0) (fun _ => ?_)
            refine lv_iload hx hb dX12_comesTo_59 (lvA2 hl) ?_
            refine lv_iconst (v := 1) hx hb dX12_comesTo_61 kic_1 ?_
            refine lv_icmp_ne (tgt := 95) hx hb dX12_comesTo_62 rfl (fun _ => ?_) (fun h => absurd h cq_eq_6_1)
            refine lv_iload hx hb dX12_comesTo_95 (lvA2 hl) ?_
            refine lv_bipush (v := 10) hx hb dX12_comesTo_97 kbc_10 ?_
            refine lv_icmp_ne (tgt := 123) hx hb dX12_comesTo_99 rfl (fun _ => ?_) (fun h => absurd h cq_eq_6_10)
            refine lv_iload hx hb dX12_comesTo_123 (lvA2 hl) ?_
            refine lv_bipush (v := 11) hx hb dX12_comesTo_125 kbc_11 ?_
            refine lv_icmp_eq (tgt := 137) hx hb dX12_comesTo_127 rfl (fun h => absurd h cq_eq_6_11) (fun _ => ?_)
            refine lv_iload hx hb dX12_comesTo_130 (lvA2 hl) ?_
            refine lv_bipush (v := 12) hx hb dX12_comesTo_132 kbc_12 ?_
            refine lv_icmp_ne (tgt := 177) hx hb dX12_comesTo_134 rfl (fun _ => ?_) (fun h => absurd h cq_eq_6_12)
            refine lv_iload_n hx hb dX12_comesTo_177 rfl (lvA4 hl) ?_
            refine lv_iconst (v := 1) hx hb dX12_comesTo_178 kic_1 ?_
            refine lv_isub hx hb dX12_comesTo_179 ?_
            refine lv_topi (fun y_64 ey_64 => ?_)
            obtain rfl : y_64 = (nI (s16 - 1)) := ey_64.trans (nI_sub (b := 1) (by (first | omega | (have zz0 := Hid.u hi_cn; omega))))
            refine lv_istore_n (lv' := [(3, .int (nI (s16 - 1))), (5, .int (nI (k16 + 1))), (7, .int (nI v9)), (6, .int 6), (4, .int (nI (180 * t0))), (0, .ref (g 100)), (1, .int (nI a1)), (2, .int (nI b1))]) hx hb dX12_comesTo_180 rfl hl (ltb rfl) rfl (fun ls hl => ?_)
            refine lv_iload hx hb dX12_comesTo_181 (lvA3 hl) ?_
            refine lv_iconst (v := 5) hx hb dX12_comesTo_183 kic_5 ?_
            refine lv_icmp_eq (tgt := 194) hx hb dX12_comesTo_184 rfl (fun h => absurd h cq_eq_6_5) (fun _ => ?_)
            refine lv_iload hx hb dX12_comesTo_187 (lvA3 hl) ?_
            refine lv_bipush (v := 6) hx hb dX12_comesTo_189 kbc_6 ?_
            refine lv_icmp_ne (tgt := 205) hx hb dX12_comesTo_191 rfl (fun h => absurd h cq_eq_6_6) (fun _ => ?_)
            refine lv_aload_n hx hb dX12_comesTo_194 rfl (lvA5 hl) ?_
            refine gM_86 S hK hP (v := .ref (g 37)) rfl dX12_comesTo_195 ?_
            refine lv_iload_n hx hb dX12_comesTo_198 rfl (lvA0 hl) ?_
            have kb_16 : (s16 - 1) < 180 := by (first | omega | (have zz0 := Hid.u hi_cn; omega))
            refine ldM_37 hx hb hK hP (x := ((F16 37) (s16 - 1))) (vp_in_nI kb_16 (ltb rfl)) (nI_clamp (Nat.lt_trans kb_16 (ltb rfl))) rfl dX12_comesTo_199 ?_
            refine lv_topi (fun y_65 ey_65 => ?_)
            obtain rfl : x9 = y_65 := (ey_65.trans (by rw [show s16 - 1 = (y9 :: s7).length by (first | omega | (have zz0 := Hid.u hi_cn; omega))]; exact hS9.1)).symm
            refine lv_if_ne (tgt := 205) hx hb dX12_comesTo_200 rfl (fun c_66 => ?_) (fun c_66 => ?_)
            ·
              have tc_66 : (x9.toInt : Int) ≠ 0 := fun q => c_66 (Int32.toInt_inj.mp q)
              refine lv_aload_n hx hb dX12_comesTo_205 rfl (lvA5 hl) ?_
              refine gM_86 S hK hP (v := .ref (g 37)) rfl dX12_comesTo_206 ?_
              refine lv_iload_n hx hb dX12_comesTo_209 rfl (lvA0 hl) ?_
              refine lv_iconst (v := 1) hx hb dX12_comesTo_210 kic_1 ?_
              refine lv_isub hx hb dX12_comesTo_211 ?_
              refine lv_topi (fun y_67 ey_67 => ?_)
              obtain rfl : y_67 = (nI ((s16 - 1) - 1)) := ey_67.trans (nI_sub (b := 1) (by (first | omega | (have zz0 := Hid.u hi_cn; omega))))
              refine lv_iload hx hb dX12_comesTo_212 (lvA3 hl) ?_
              refine lv_aload_n hx hb dX12_comesTo_214 rfl (lvA5 hl) ?_
              refine gM_86 S hK hP (v := .ref (g 37)) rfl dX12_comesTo_215 ?_
              refine lv_iload_n hx hb dX12_comesTo_218 rfl (lvA0 hl) ?_
              refine lv_iconst (v := 1) hx hb dX12_comesTo_219 kic_1 ?_
              refine lv_isub hx hb dX12_comesTo_220 ?_
              refine lv_topi (fun y_68 ey_68 => ?_)
              obtain rfl : y_68 = (nI ((s16 - 1) - 1)) := ey_68.trans (nI_sub (b := 1) (by (first | omega | (have zz0 := Hid.u hi_cn; omega))))
              have kb_17 : ((s16 - 1) - 1) < 180 := by (first | omega | (have zz0 := Hid.u hi_cn; omega))
              refine ldM_37 hx hb hK hP (x := ((F16 37) ((s16 - 1) - 1))) (vp_in_nI kb_17 (ltb rfl)) (nI_clamp (Nat.lt_trans kb_17 (ltb rfl))) rfl dX12_comesTo_221 ?_
              refine lv_topi (fun y_69 ey_69 => ?_)
              obtain rfl : y9 = y_69 := (ey_69.trans (by rw [show s16 - 1 - 1 = s7.length by (first | omega | (have zz0 := Hid.u hi_cn; omega))]; exact hS9.2.1)).symm
              refine lv_aload_n hx hb dX12_comesTo_222 rfl (lvA5 hl) ?_
              refine gM_86 S hK hP (v := .ref (g 37)) rfl dX12_comesTo_223 ?_
              refine lv_iload_n hx hb dX12_comesTo_226 rfl (lvA0 hl) ?_
              refine ldM_37 hx hb hK hP (x := ((F16 37) (s16 - 1))) (vp_in_nI kb_16 (ltb rfl)) (nI_clamp (Nat.lt_trans kb_16 (ltb rfl))) rfl dX12_comesTo_227 ?_
              refine lv_topi (fun y_70 ey_70 => ?_)
              obtain rfl : x9 = y_70 := (ey_70.trans (by rw [show s16 - 1 = (y9 :: s7).length by (first | omega | (have zz0 := Hid.u hi_cn; omega))]; exact hS9.1)).symm
              refine vp_callSi (runS_r (As := [.int 6, .int y9, .int x9]) (rest := [.int (nI ((s16 - 1) - 1)), .ref (g 37)]) S (q_reckon9 l D cI cB cZ 6 y9 x9 ⟨by decide, by decide⟩ (fun _ => by first | assumption | exact fun q => absurd (congrArg Int32.toInt q) (by assumption))) kS_RX12_327 hK hP [] rfl ⟨Nat.le_of_ble_eq_true rfl, Nat.le_of_ble_eq_true rfl⟩ ⟨Nat.le_of_ble_eq_true rfl, Nat.le_of_ble_eq_true rfl⟩ rfl hl.1 rfl (Nat.le_of_ble_eq_true rfl) dX12_comesTo_228) (fun r_71 h_72 => ?_)
              obtain rfl : r_71 = (rk 7 y9 x9) := h_72
              refine stM_37 hx hb hK hP hD hS (Fn2 := (va_up F16 37 (upd (F16 37) ((s16 - 1) - 1) (rk 7 y9 x9)))) (vp_in_nI kb_17 (ltb rfl)) (nI_clamp (Nat.lt_trans kb_17 (ltb rfl))) rfl dX12_comesTo_231 (fun H locs hP hD hS => ?_)
              refine lv_goto (tgt := 16) hx hb dX12_comesTo_232 rfl ?_
              exact ih16 (s16 - 1) (k16 + 1) (va_up F16 37 (upd (F16 37) ((s16 - 1) - 1) (rk 7 y9 x9))) _ _ (by (first | omega | (have zz0 := Hid.u hi_cn; omega))) ⟨(Fr.mo (Fr.f 37 hfr16) (sbl rfl) (sbl rfl) (sbl rfl)), (IM.fr (In := In) hI16 (Fr.f 37 Fr.rf) (by decide) (by decide)), ⟨by (first | omega | (have zz0 := Hid.u hi_cn; omega)), by (first | omega | (have zz0 := Hid.u hi_cn; omega))⟩, (MRI.mk (kk := kk + 1) ⟨by (first | omega | (have zz0 := Hid.u hi_cn; omega)), by (first | omega | (have zz0 := Hid.u hi_cn; omega)), by (first | omega | (have zz0 := Hid.u hi_cn; omega))⟩ (RNb ⟨by decide, by decide⟩ (fun q => by first | exact absurd q.1 (by decide) | exact absurd q.2 (by first | assumption | exact fun q => absurd (congrArg Int32.toInt q) (by assumption))) hE9 hQ9 (by (first | omega | (have zz0 := Hid.u hi_cn; omega))) ho9 ht8 ht9 ht7) (STK.pu hS9.2.2 (by (first | omega | (have zz0 := Hid.u hi_cn; omega)))) (by show _ = s7.length + 1; (first | omega | (have zz0 := Hid.u hi_cn; omega))))⟩ hP hD hS ls (lv_sub hl [1, 4, 0, 5, 6, 7] rfl)
            ·
              have tc_66 : (x9.toInt : Int) = 0 := congrArg Int32.toInt c_66
              refine lv_iconst (v := 0) hx hb dX12_comesTo_203 kic_0 ?_
              exact W.iret (v := 0) hx hb hr (fun t ht hW => ⟨⟨0, (cn, In, F16), rfl, ⟨(Fr.mo hfr16 (sbl rfl) (sbl rfl) (sbl rfl)), hI16, (by show 0 = MV o (cut (Fn 38)) a0 b0 ∧ (tb = true → 0 = 0 ∨ 0 = 1); exact (have e9 := RNr (c := 7) ⟨by decide, by first | assumption | exact Int32.toInt_inj.mp (by assumption)⟩ hE9 (by (first | omega | (have zz0 := Hid.u hi_cn; omega))) ho9; ⟨e9.symm, fun _ => Or.inl rfl⟩))⟩, by rw [ht]; exact hP, hD⟩, hS.F ht⟩) hS.2.2 dX12_comesTo_204
          ·
            have hl : lv_has ls 8 [(7, .int (nI v9)), (6, .int 7), (5, .int (nI k16)), (4, .int (nI (180 * t0))), (3, .int (nI s16)), (0, .ref (g 100)), (1, .int (nI a1)), (2, .int (nI b1))] := hl
            refine lv_iload hx hb dX12_comesTo_48 (lvA2 hl) ?_
            refine lv_iconst (v := 1) hx hb dX12_comesTo_50 kic_1 ?_
            refine lv_iadd hx hb dX12_comesTo_51 ?_
            refine lv_topi (fun y_73 ey_73 => ?_)
            obtain rfl : y_73 = (nI (k16 + 1)) := ey_73.trans (nI_add k16 1)
            refine lv_istore (lv' := [(5, .int (nI (k16 + 1))), (7, .int (nI v9)), (6, .int 7), (4, .int (nI (180 * t0))), (3, .int (nI s16)), (0, .ref (g 100)), (1, .int (nI a1)), (2, .int (nI b1))]) hx hb dX12_comesTo_52 hl (ltb rfl) rfl (fun ls hl => ?_)
            refine lv_iload hx hb dX12_comesTo_54 (lvA2 hl) ?_
            refine lv_if_eq (tgt := 65) hx hb dX12_comesTo_56 rfl (fun h => absurd h cq_eq_7_0) (fun _ => ?_)
            refine lv_iload hx hb dX12_comesTo_59 (lvA2 hl) ?_
            refine lv_iconst (v := 1) hx hb dX12_comesTo_61 kic_1 ?_
            refine lv_icmp_ne (tgt := 95) hx hb dX12_comesTo_62 rfl (fun _ => ?_) (fun h => absurd h cq_eq_7_1)
            refine lv_iload hx hb dX12_comesTo_95 (lvA2 hl) ?_
            refine lv_bipush (v := 10) hx hb dX12_comesTo_97 kbc_10 ?_
            refine lv_icmp_ne (tgt := 123) hx hb dX12_comesTo_99 rfl (fun _ => ?_) (fun h => absurd h cq_eq_7_10)
            refine lv_iload hx hb dX12_comesTo_123 (lvA2 hl) ?_
            refine lv_bipush (v := 11) hx hb dX12_comesTo_125 kbc_11 ?_
            refine lv_icmp_eq (tgt := 137) hx hb dX12_comesTo_127 rfl (fun h => absurd h cq_eq_7_11) (fun _ => ?_)
            refine lv_iload hx hb dX12_comesTo_130 (lvA2 hl) ?_
            refine lv_bipush (v := 12) hx hb dX12_comesTo_132 kbc_12 ?_
            refine lv_icmp_ne (tgt := 177) hx hb dX12_comesTo_134 rfl (fun _ => ?_) (fun h => absurd h cq_eq_7_12)
            refine lv_iload_n hx hb dX12_comesTo_177 rfl (lvA4 hl) ?_
            refine lv_iconst (v := 1) hx hb dX12_comesTo_178 kic_1 ?_
            refine lv_isub hx hb dX12_comesTo_179 ?_
            refine lv_topi (fun y_74 ey_74 => ?_)
            obtain rfl : y_74 = (nI (s16 - 1)) := ey_74.trans (nI_sub (b := 1) (by (first | omega | (have zz0 := Hid.u hi_cn; omega))))
            refine lv_istore_n (lv' := [(3, .int (nI (s16 - 1))), (5, .int (nI (k16 + 1))), (7, .int (nI v9)), (6, .int 7), (4, .int (nI (180 * t0))), (0, .ref (g 100)), (1, .int (nI a1)), (2, .int (nI b1))]) hx hb dX12_comesTo_180 rfl hl (ltb rfl) rfl (fun ls hl => ?_)
            refine lv_iload hx hb dX12_comesTo_181 (lvA3 hl) ?_
            refine lv_iconst (v := 5) hx hb dX12_comesTo_183 kic_5 ?_
            refine lv_icmp_eq (tgt := 194) hx hb dX12_comesTo_184 rfl (fun h => absurd h cq_eq_7_5) (fun _ => ?_)
            refine lv_iload hx hb dX12_comesTo_187 (lvA3 hl) ?_
            refine lv_bipush (v := 6) hx hb dX12_comesTo_189 kbc_6 ?_
            refine lv_icmp_ne (tgt := 205) hx hb dX12_comesTo_191 rfl (fun _ => ?_) (fun h => absurd h cq_eq_7_6)
            refine lv_aload_n hx hb dX12_comesTo_205 rfl (lvA5 hl) ?_
            refine gM_86 S hK hP (v := .ref (g 37)) rfl dX12_comesTo_206 ?_
            refine lv_iload_n hx hb dX12_comesTo_209 rfl (lvA0 hl) ?_
            refine lv_iconst (v := 1) hx hb dX12_comesTo_210 kic_1 ?_
            refine lv_isub hx hb dX12_comesTo_211 ?_
            refine lv_topi (fun y_75 ey_75 => ?_)
            obtain rfl : y_75 = (nI ((s16 - 1) - 1)) := ey_75.trans (nI_sub (b := 1) (by (first | omega | (have zz0 := Hid.u hi_cn; omega))))
            refine lv_iload hx hb dX12_comesTo_212 (lvA3 hl) ?_
            refine lv_aload_n hx hb dX12_comesTo_214 rfl (lvA5 hl) ?_
            refine gM_86 S hK hP (v := .ref (g 37)) rfl dX12_comesTo_215 ?_
            refine lv_iload_n hx hb dX12_comesTo_218 rfl (lvA0 hl) ?_
            refine lv_iconst (v := 1) hx hb dX12_comesTo_219 kic_1 ?_
            refine lv_isub hx hb dX12_comesTo_220 ?_
            refine lv_topi (fun y_76 ey_76 => ?_)
            obtain rfl : y_76 = (nI ((s16 - 1) - 1)) := ey_76.trans (nI_sub (b := 1) (by (first | omega | (have zz0 := Hid.u hi_cn; omega))))
            have kb_18 : ((s16 - 1) - 1) < 180 := by (first | omega | (have zz0 := Hid.u hi_cn; omega))
            refine ldM_37 hx hb hK hP (x := ((F16 37) ((s16 - 1) - 1))) (vp_in_nI kb_18 (ltb rfl)) (nI_clamp (Nat.lt_trans kb_18 (ltb rfl))) rfl dX12_comesTo_221 ?_
            refine lv_topi (fun y_77 ey_77 => ?_)
            obtain rfl : y9 = y_77 := (ey_77.trans (by rw [show s16 - 1 - 1 = s7.length by (first | omega | (have zz0 := Hid.u hi_cn; omega))]; exact hS9.2.1)).symm
            refine lv_aload_n hx hb dX12_comesTo_222 rfl (lvA5 hl) ?_
            refine gM_86 S hK hP (v := .ref (g 37)) rfl dX12_comesTo_223 ?_
            refine lv_iload_n hx hb dX12_comesTo_226 rfl (lvA0 hl) ?_
            have kb_19 : (s16 - 1) < 180 := by (first | omega | (have zz0 := Hid.u hi_cn; omega))
            refine ldM_37 hx hb hK hP (x := ((F16 37) (s16 - 1))) (vp_in_nI kb_19 (ltb rfl)) (nI_clamp (Nat.lt_trans kb_19 (ltb rfl))) rfl dX12_comesTo_227 ?_
            refine lv_topi (fun y_78 ey_78 => ?_)
            obtain rfl : x9 = y_78 := (ey_78.trans (by rw [show s16 - 1 = (y9 :: s7).length by (first | omega | (have zz0 := Hid.u hi_cn; omega))]; exact hS9.1)).symm
            refine vp_callSi (runS_r (As := [.int 7, .int y9, .int x9]) (rest := [.int (nI ((s16 - 1) - 1)), .ref (g 37)]) S (q_reckon9 l D cI cB cZ 7 y9 x9 ⟨by decide, by decide⟩ (fun q => by rcases q with q | q <;> exact absurd q (by decide))) kS_RX12_327 hK hP [] rfl ⟨Nat.le_of_ble_eq_true rfl, Nat.le_of_ble_eq_true rfl⟩ ⟨Nat.le_of_ble_eq_true rfl, Nat.le_of_ble_eq_true rfl⟩ rfl hl.1 rfl (Nat.le_of_ble_eq_true rfl) dX12_comesTo_228) (fun r_79 h_80 => ?_)
            obtain rfl : r_79 = (rk 8 y9 x9) := h_80
            refine stM_37 hx hb hK hP hD hS (Fn2 := (va_up F16 37 (upd (F16 37) ((s16 - 1) - 1) (rk 8 y9 x9)))) (vp_in_nI kb_18 (ltb rfl)) (nI_clamp (Nat.lt_trans kb_18 (ltb rfl))) rfl dX12_comesTo_231 (fun H locs hP hD hS => ?_)
            refine lv_goto (tgt := 16) hx hb dX12_comesTo_232 rfl ?_
            exact ih16 (s16 - 1) (k16 + 1) (va_up F16 37 (upd (F16 37) ((s16 - 1) - 1) (rk 8 y9 x9))) _ _ (by (first | omega | (have zz0 := Hid.u hi_cn; omega))) ⟨(Fr.mo (Fr.f 37 hfr16) (sbl rfl) (sbl rfl) (sbl rfl)), (IM.fr (In := In) hI16 (Fr.f 37 Fr.rf) (by decide) (by decide)), ⟨by (first | omega | (have zz0 := Hid.u hi_cn; omega)), by (first | omega | (have zz0 := Hid.u hi_cn; omega))⟩, (MRI.mk (kk := kk + 1) ⟨by (first | omega | (have zz0 := Hid.u hi_cn; omega)), by (first | omega | (have zz0 := Hid.u hi_cn; omega)), by (first | omega | (have zz0 := Hid.u hi_cn; omega))⟩ (RNb ⟨by decide, by decide⟩ (fun q => by first | exact absurd q.1 (by decide) | exact absurd q.2 (by first | assumption | exact fun q => absurd (congrArg Int32.toInt q) (by assumption))) hE9 hQ9 (by (first | omega | (have zz0 := Hid.u hi_cn; omega))) ho9 ht8 ht9 ht7) (STK.pu hS9.2.2 (by (first | omega | (have zz0 := Hid.u hi_cn; omega)))) (by show _ = s7.length + 1; (first | omega | (have zz0 := Hid.u hi_cn; omega))))⟩ hP hD hS ls (lv_sub hl [1, 4, 0, 5, 6, 7] rfl)
          ·
            have hl : lv_has ls 8 [(7, .int (nI v9)), (6, .int 8), (5, .int (nI k16)), (4, .int (nI (180 * t0))), (3, .int (nI s16)), (0, .ref (g 100)), (1, .int (nI a1)), (2, .int (nI b1))] := hl
            refine lv_iload hx hb dX12_comesTo_48 (lvA2 hl) ?_
            refine lv_iconst (v := 1) hx hb dX12_comesTo_50 kic_1 ?_
            refine lv_iadd hx hb dX12_comesTo_51 ?_
            refine lv_topi (fun y_81 ey_81 => ?_)
            obtain rfl : y_81 = (nI (k16 + 1)) := ey_81.trans (nI_add k16 1)
            refine lv_istore (lv' := [(5, .int (nI (k16 + 1))), (7, .int (nI v9)), (6, .int 8), (4, .int (nI (180 * t0))), (3, .int (nI s16)), (0, .ref (g 100)), (1, .int (nI a1)), (2, .int (nI b1))]) hx hb dX12_comesTo_52 hl (ltb rfl) rfl (fun ls hl => ?_)
            refine lv_iload hx hb dX12_comesTo_54 (lvA2 hl) ?_
            refine lv_if_eq (tgt := 65) hx hb dX12_comesTo_56 rfl (fun h => absurd h cq_eq_8_0) (fun _ => ?_)
            refine lv_iload hx hb dX12_comesTo_59 (lvA2 hl) ?_
            refine lv_iconst (v := 1) hx hb dX12_comesTo_61 kic_1 ?_
            refine lv_icmp_ne (tgt := 95) hx hb dX12_comesTo_62 rfl (fun _ => ?_) (fun h => absurd h cq_eq_8_1)
            refine lv_iload hx hb dX12_comesTo_95 (lvA2 hl) ?_
            refine lv_bipush (v := 10) hx hb dX12_comesTo_97 kbc_10 ?_
            refine lv_icmp_ne (tgt := 123) hx hb dX12_comesTo_99 rfl (fun _ => ?_) (fun h => absurd h cq_eq_8_10)
            refine lv_iload hx hb dX12_comesTo_123 (lvA2 hl) ?_
            refine lv_bipush (v := 11) hx hb dX12_comesTo_125 kbc_11 ?_
            refine lv_icmp_eq (tgt := 137) hx hb dX12_comesTo_127 rfl (fun h => absurd h cq_eq_8_11) (fun _ => ?_)
            refine lv_iload hx hb dX12_comesTo_130 (lvA2 hl) ?_
            refine lv_bipush (v := 12) hx hb dX12_comesTo_132 kbc_12 ?_
            refine lv_icmp_ne (tgt := 177) hx hb dX12_comesTo_134 rfl (fun _ => ?_) (fun h => absurd h cq_eq_8_12)
            refine lv_iload_n hx hb dX12_comesTo_177 rfl (lvA4 hl) ?_
            refine lv_iconst (v := 1) hx hb dX12_comesTo_178 kic_1 ?_
            refine lv_isub hx hb dX12_comesTo_179 ?_
            refine lv_topi (fun y_82 ey_82 => ?_)
            obtain rfl : y_82 = (nI (s16 - 1)) := ey_82.trans (nI_sub (b := 1) (by (first | omega | (have zz0 := Hid.u hi_cn; omega))))
            refine lv_istore_n (lv' := [(3, .int (nI (s16 - 1))), (5, .int (nI (k16 + 1))), (7, .int (nI v9)), (6, .int 8), (4, .int (nI (180 * t0))), (0, .ref (g 100)), (1, .int (nI a1)), (2, .int (nI b1))]) hx hb dX12_comesTo_180 rfl hl (ltb rfl) rfl (fun ls hl => ?_)
            refine lv_iload hx hb dX12_comesTo_181 (lvA3 hl) ?_
            refine lv_iconst (v := 5) hx hb dX12_comesTo_183 kic_5 ?_
            refine lv_icmp_eq (tgt := 194) hx hb dX12_comesTo_184 rfl (fun h => absurd h cq_eq_8_5) (fun _ => ?_)
            refine lv_iload hx hb dX12_comesTo_187 (lvA3 hl) ?_
            refine lv_bipush (v := 6) hx hb dX12_comesTo_189 kbc_6 ?_
            refine lv_icmp_ne (tgt := 205) hx hb dX12_comesTo_191 rfl (fun _ => ?_) (fun h => absurd h cq_eq_8_6)
            refine lv_aload_n hx hb dX12_comesTo_205 rfl (lvA5 hl) ?_
            refine gM_86 S hK hP (v := .ref (g 37)) rfl dX12_comesTo_206 ?_
            refine lv_iload_n hx hb dX12_comesTo_209 rfl (lvA0 hl) ?_
            refine lv_iconst (v := 1) hx hb dX12_comesTo_210 kic_1 ?_
            refine lv_isub hx hb dX12_comesTo_211 ?_
            refine lv_topi (fun y_83 ey_83 => ?_)
            obtain rfl : y_83 = (nI ((s16 - 1) - 1)) := ey_83.trans (nI_sub (b := 1) (by (first | omega | (have zz0 := Hid.u hi_cn; omega))))
            refine lv_iload hx hb dX12_comesTo_212 (lvA3 hl) ?_
            refine lv_aload_n hx hb dX12_comesTo_214 rfl (lvA5 hl) ?_
            refine gM_86 S hK hP (v := .ref (g 37)) rfl dX12_comesTo_215 ?_
            refine lv_iload_n hx hb dX12_comesTo_218 rfl (lvA0 hl) ?_
            refine lv_iconst (v := 1) hx hb dX12_comesTo_219 kic_1 ?_
            refine lv_isub hx hb dX12_comesTo_220 ?_
            refine lv_topi (fun y_84 ey_84 => ?_)
            obtain rfl : y_84 = (nI ((s16 - 1) - 1)) := ey_84.trans (nI_sub (b := 1) (by (first | omega | (have zz0 := Hid.u hi_cn; omega))))
            have kb_20 : ((s16 - 1) - 1) < 180 := by (first | omega | (have zz0 := Hid.u hi_cn; omega))
            refine ldM_37 hx hb hK hP (x := ((F16 37) ((s16 - 1) - 1))) (vp_in_nI kb_20 (ltb rfl)) (nI_clamp (Nat.lt_trans kb_20 (ltb rfl))) rfl dX12_comesTo_221 ?_
            refine lv_topi (fun y_85 ey_85 => ?_)
            obtain rfl : y9 = y_85 := (ey_85.trans (by rw [show s16 - 1 - 1 = s7.length by (first | omega | (have zz0 := Hid.u hi_cn; omega))]; exact hS9.2.1)).symm
            refine lv_aload_n hx hb dX12_comesTo_222 rfl (lvA5 hl) ?_
            refine gM_86 S hK hP (v := .ref (g 37)) rfl dX12_comesTo_223 ?_
            refine lv_iload_n hx hb dX12_comesTo_226 rfl (lvA0 hl) ?_
            have kb_21 : (s16 - 1) < 180 := by (first | omega | (have zz0 := Hid.u hi_cn; omega))
            refine ldM_37 hx hb hK hP (x := ((F16 37) (s16 - 1))) (vp_in_nI kb_21 (ltb rfl)) (nI_clamp (Nat.lt_trans kb_21 (ltb rfl))) rfl dX12_comesTo_227 ?_
            refine lv_topi (fun y_86 ey_86 => ?_)
            obtain rfl : x9 = y_86 := (ey_86.trans (by rw [show s16 - 1 = (y9 :: s7).length by (first | omega | (have zz0 := Hid.u hi_cn; omega))]; exact hS9.1)).symm
            refine vp_callSi (runS_r (As := [.int 8, .int y9, .int x9]) (rest := [.int (nI ((s16 - 1) - 1)), .ref (g 37)]) S (q_reckon9 l D cI cB cZ 8 y9 x9 ⟨by decide, by decide⟩ (fun q => by rcases q with q | q <;> exact absurd q (by decide))) kS_RX12_327 hK hP [] rfl ⟨Nat.le_of_ble_eq_true rfl, Nat.le_of_ble_eq_true rfl⟩ ⟨Nat.le_of_ble_eq_true rfl, Nat.le_of_ble_eq_true rfl⟩ rfl hl.1 rfl (Nat.le_of_ble_eq_true rfl) dX12_comesTo_228) (fun r_87 h_88 => ?_)
            obtain rfl : r_87 = (rk 9 y9 x9) := h_88
            refine stM_37 hx hb hK hP hD hS (Fn2 := (va_up F16 37 (upd (F16 37) ((s16 - 1) - 1) (rk 9 y9 x9)))) (vp_in_nI kb_20 (ltb rfl)) (nI_clamp (Nat.lt_trans kb_20 (ltb rfl))) rfl dX12_comesTo_231 (fun H locs hP hD hS => ?_)
            refine lv_goto (tgt := 16) hx hb dX12_comesTo_232 rfl ?_
            exact ih16 (s16 - 1) (k16 + 1) (va_up F16 37 (upd (F16 37) ((s16 - 1) - 1) (rk 9 y9 x9))) _ _ (by (first | omega | (have zz0 := Hid.u hi_cn; omega))) ⟨(Fr.mo (Fr.f 37 hfr16) (sbl rfl) (sbl rfl) (sbl rfl)), (IM.fr (In := In) hI16 (Fr.f 37 Fr.rf) (by decide) (by decide)), ⟨by (first | omega | (have zz0 := Hid.u hi_cn; omega)), by (first | omega | (have zz0 := Hid.u hi_cn; omega))⟩, (MRI.mk (kk := kk + 1) ⟨by (first | omega | (have zz0 := Hid.u hi_cn; omega)), by (first | omega | (have zz0 := Hid.u hi_cn; omega)), by (first | omega | (have zz0 := Hid.u hi_cn; omega))⟩ (RNb ⟨by decide, by decide⟩ (fun q => by first | exact absurd q.1 (by decide) | exact absurd q.2 (by first | assumption | exact fun q => absurd (congrArg Int32.toInt q) (by assumption))) hE9 hQ9 (by (first | omega | (have zz0 := Hid.u hi_cn; omega))) ho9 ht8 ht9 ht7) (STK.pu hS9.2.2 (by (first | omega | (have zz0 := Hid.u hi_cn; omega)))) (by show _ = s7.length + 1; (first | omega | (have zz0 := Hid.u hi_cn; omega))))⟩ hP hD hS ls (lv_sub hl [1, 4, 0, 5, 6, 7] rfl)
          ·
            have hl : lv_has ls 8 [(7, .int (nI v9)), (6, .int 9), (5, .int (nI k16)), (4, .int (nI (180 * t0))), (3, .int (nI s16)), (0, .ref (g 100)), (1, .int (nI a1)), (2, .int (nI b1))] := hl
            refine lv_iload hx hb dX12_comesTo_48 (lvA2 hl) ?_
            refine lv_iconst (v := 1) hx hb dX12_comesTo_50 kic_1 ?_
            refine lv_iadd hx hb dX12_comesTo_51 ?_
            refine lv_topi (fun y_89 ey_89 => ?_)
            obtain rfl : y_89 = (nI (k16 + 1)) := ey_89.trans (nI_add k16 1)
            refine lv_istore (lv' := [(5, .int (nI (k16 + 1))), (7, .int (nI v9)), (6, .int 9), (4, .int (nI (180 * t0))), (3, .int (nI s16)), (0, .ref (g 100)), (1, .int (nI a1)), (2, .int (nI b1))]) hx hb dX12_comesTo_52 hl (ltb rfl) rfl (fun ls hl => ?_)
            refine lv_iload hx hb dX12_comesTo_54 (lvA2 hl) ?_
            refine lv_if_eq (tgt := 65) hx hb dX12_comesTo_56 rfl (fun h => absurd h cq_eq_9_0) (fun _ => ?_)
            refine lv_iload hx hb dX12_comesTo_59 (lvA2 hl) ?_
            refine lv_iconst (v := 1) hx hb dX12_comesTo_61 kic_1 ?_
            refine lv_icmp_ne (tgt := 95) hx hb dX12_comesTo_62 rfl (fun _ => ?_) (fun h => absurd h cq_eq_9_1)
            refine lv_iload hx hb dX12_comesTo_95 (lvA2 hl) ?_
            refine lv_bipush (v := 10) hx hb dX12_comesTo_97 kbc_10 ?_
            refine lv_icmp_ne (tgt := 123) hx hb dX12_comesTo_99 rfl (fun _ => ?_) (fun h => absurd h cq_eq_9_10)
            refine lv_iload hx hb dX12_comesTo_123 (lvA2 hl) ?_
            refine lv_bipush (v := 11) hx hb dX12_comesTo_125 kbc_11 ?_
            refine lv_icmp_eq (tgt := 137) hx hb dX12_comesTo_127 rfl (fun h => absurd h cq_eq_9_11) (fun _ => ?_)
            refine lv_iload hx hb dX12_comesTo_130 (lvA2 hl) ?_
            refine lv_bipush (v := 12) hx hb dX12_comesTo_132 kbc_12 ?_
            refine lv_icmp_ne (tgt := 177) hx hb dX12_comesTo_134 rfl (fun _ => ?_) (fun h => absurd h cq_eq_9_12)
            refine lv_iload_n hx hb dX12_comesTo_177 rfl (lvA4 hl) ?_
            refine lv_iconst (v := 1) hx hb dX12_comesTo_178 kic_1 ?_
            refine lv_isub hx hb dX12_comesTo_179 ?_
            refine lv_topi (fun y_90 ey_90 => ?_)
            obtain rfl : y_90 = (nI (s16 - 1)) := ey_90.trans (nI_sub (b := 1) (by (first | omega | (have zz0 := Hid.u hi_cn; omega))))
            refine lv_istore_n (lv' := [(3, .int (nI (s16 - 1))), (5, .int (nI (k16 + 1))), (7, .int (nI v9)), (6, .int 9), (4, .int (nI (180 * t0))), (0, .ref (g 100)), (1, .int (nI a1)), (2, .int (nI b1))]) hx hb dX12_comesTo_180 rfl hl (ltb rfl) rfl (fun ls hl => ?_)
            refine lv_iload hx hb dX12_comesTo_181 (lvA3 hl) ?_
            refine lv_iconst (v := 5) hx hb dX12_comesTo_183 kic_5 ?_
            refine lv_icmp_eq (tgt := 194) hx hb dX12_comesTo_184 rfl (fun h => absurd h cq_eq_9_5) (fun _ => ?_)
            refine lv_iload hx hb dX12_comesTo_187 (lvA3 hl) ?_
            refine lv_bipush (v := 6) hx hb dX12_comesTo_189 kbc_6 ?_
            refine lv_icmp_ne (tgt := 205) hx hb dX12_comesTo_191 rfl (fun _ => ?_) (fun h => absurd h cq_eq_9_6)
            refine lv_aload_n hx hb dX12_comesTo_205 rfl (lvA5 hl) ?_
            refine gM_86 S hK hP (v := .ref (g 37)) rfl dX12_comesTo_206 ?_
            refine lv_iload_n hx hb dX12_comesTo_209 rfl (lvA0 hl) ?_
            refine lv_iconst (v := 1) hx hb dX12_comesTo_210 kic_1 ?_
            refine lv_isub hx hb dX12_comesTo_211 ?_
            refine lv_topi (fun y_91 ey_91 => ?_)
            obtain rfl : y_91 = (nI ((s16 - 1) - 1)) := ey_91.trans (nI_sub (b := 1) (by (first | omega | (have zz0 := Hid.u hi_cn; omega))))
            refine lv_iload hx hb dX12_comesTo_212 (lvA3 hl) ?_
            refine lv_aload_n hx hb dX12_comesTo_214 rfl (lvA5 hl) ?_
            refine gM_86 S hK hP (v := .ref (g 37)) rfl dX12_comesTo_215 ?_
            refine lv_iload_n hx hb dX12_comesTo_218 rfl (lvA0 hl) ?_
            refine lv_iconst (v := 1) hx hb dX12_comesTo_219 kic_1 ?_
            refine lv_isub hx hb dX12_comesTo_220 ?_
            refine lv_topi (fun y_92 ey_92 => ?_)
            obtain rfl : y_92 = (nI ((s16 - 1) - 1)) := ey_92.trans (nI_sub (b := 1) (by (first | omega | (have zz0 := Hid.u hi_cn; omega))))
            have kb_22 : ((s16 - 1) - 1) < 180 := by (first | omega | (have zz0 := Hid.u hi_cn; omega))
            refine ldM_37 hx hb hK hP (x := ((F16 37) ((s16 - 1) - 1))) (vp_in_nI kb_22 (ltb rfl)) (nI_clamp (Nat.lt_trans kb_22 (ltb rfl))) rfl dX12_comesTo_221 ?_
            refine lv_topi (fun y_93 ey_93 => ?_)
            obtain rfl : y9 = y_93 := (ey_93.trans (by rw [show s16 - 1 - 1 = s7.length by (first | omega | (have zz0 := Hid.u hi_cn; omega))]; exact hS9.2.1)).symm
            refine lv_aload_n hx hb dX12_comesTo_222 rfl (lvA5 hl) ?_
            refine gM_86 S hK hP (v := .ref (g 37)) rfl dX12_comesTo_223 ?_
            refine lv_iload_n hx hb dX12_comesTo_226 rfl (lvA0 hl) ?_
            have kb_23 : (s16 - 1) < 180 := by (first | omega | (have zz0 := Hid.u hi_cn; omega))
            refine ldM_37 hx hb hK hP (x := ((F16 37) (s16 - 1))) (vp_in_nI kb_23 (ltb rfl)) (nI_clamp (Nat.lt_trans kb_23 (ltb rfl))) rfl dX12_comesTo_227 ?_
            refine lv_topi (fun y_94 ey_94 => ?_)
            obtain rfl : x9 = y_94 := (ey_94.trans (by rw [show s16 - 1 = (y9 :: s7).length by (first | omega | (have zz0 := Hid.u hi_cn; omega))]; exact hS9.1)).symm
            refine vp_callSi (runS_r (As := [.int 9, .int y9, .int x9]) (rest := [.int (nI ((s16 - 1) - 1)), .ref (g 37)]) S (q_reckon9 l D cI cB cZ 9 y9 x9 ⟨by decide, by decide⟩ (fun q => by rcases q with q | q <;> exact absurd q (by decide))) kS_RX12_327 hK hP [] rfl ⟨Nat.le_of_ble_eq_true rfl, Nat.le_of_ble_eq_true rfl⟩ ⟨Nat.le_of_ble_eq_true rfl, Nat.le_of_ble_eq_true rfl⟩ rfl hl.1 rfl (Nat.le_of_ble_eq_true rfl) dX12_comesTo_228) (fun r_95 h_96 => ?_)
            obtain rfl : r_95 = (rk 10 y9 x9) := h_96
            refine stM_37 hx hb hK hP hD hS (Fn2 := (va_up F16 37 (upd (F16 37) ((s16 - 1) - 1) (rk 10 y9 x9)))) (vp_in_nI kb_22 (ltb rfl)) (nI_clamp (Nat.lt_trans kb_22 (ltb rfl))) rfl dX12_comesTo_231 (fun H locs hP hD hS => ?_)
            refine lv_goto (tgt := 16) hx hb dX12_comesTo_232 rfl ?_
            exact ih16 (s16 - 1) (k16 + 1) (va_up F16 37 (upd (F16 37) ((s16 - 1) - 1) (rk 10 y9 x9))) _ _ (by (first | omega | (have zz0 := Hid.u hi_cn; omega))) ⟨(Fr.mo (Fr.f 37 hfr16) (sbl rfl) (sbl rfl) (sbl rfl)), (IM.fr (In := In) hI16 (Fr.f 37 Fr.rf) (by decide) (by decide)), ⟨by (first | omega | (have zz0 := Hid.u hi_cn; omega)), by (first | omega | (have zz0 := Hid.u hi_cn; omega))⟩, (MRI.mk (kk := kk + 1) ⟨by (first | omega | (have zz0 := Hid.u hi_cn; omega)), by (first | omega | (have zz0 := Hid.u hi_cn; omega)), by (first | omega | (have zz0 := Hid.u hi_cn; omega))⟩ (RNb ⟨by decide, by decide⟩ (fun q => by first | exact absurd q.1 (by decide) | exact absurd q.2 (by first | assumption | exact fun q => absurd (congrArg Int32.toInt q) (by assumption))) hE9 hQ9 (by (first | omega | (have zz0 := Hid.u hi_cn; omega))) ho9 ht8 ht9 ht7) (STK.pu hS9.2.2 (by (first | omega | (have zz0 := Hid.u hi_cn; omega)))) (by show _ = s7.length + 1; (first | omega | (have zz0 := Hid.u hi_cn; omega))))⟩ hP hD hS ls (lv_sub hl [1, 4, 0, 5, 6, 7] rfl)
  exact lp_16 _ 0 a1 Fn _ _ (Nat.lt_succ_self _) ⟨(Fr.mo Fr.rf (sbl rfl) (sbl rfl) (sbl rfl)), hI, ⟨by (first | omega | (have zz0 := Hid.u hi_cn; omega)), by (first | omega | (have zz0 := Hid.u hi_cn; omega))⟩, (by rw [ea1]; exact MRI.start hab hta)⟩ hP hD hS ls (lv_sub hl [0, 1, 2, 3, 4, 5] rfl)
