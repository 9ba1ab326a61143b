/-- what is counted: ten numbers of all, three of a kitchen, a batch's day, a proof's -/
def CNQ (L : List Int32) (nk nb np : Nat) (ck ek sk bd pd : Nat → Int32) (v r : Int32) : Prop :=
  (∃ k : Nat, k ≤ 9 ∧ v.toInt = (k : Int) ∧ r = L.getD k 0) ∨ (∃ k : Nat, k < nk ∧ v.toInt = 10 + (k : Int) ∧ r = ck k) ∨ (∃ k : Nat, k < nk ∧ v.toInt = 20 + (k : Int) ∧ r = ek k) ∨ (∃ k : Nat, k < nk ∧ v.toInt = 30 + (k : Int) ∧ r = sk k) ∨ (∃ k : Nat, k < nb ∧ v.toInt = 40 + (k : Int) ∧ r = bd k) ∨ (∃ k : Nat, k < np ∧ v.toInt = 50 + (k : Int) ∧ r = pd k) ∨ ((¬ (0 ≤ v.toInt ∧ v.toInt ≤ 9) ∧ ¬ (10 ≤ v.toInt ∧ v.toInt < 10 + (nk : Int)) ∧ ¬ (20 ≤ v.toInt ∧ v.toInt < 20 + (nk : Int)) ∧ ¬ (30 ≤ v.toInt ∧ v.toInt < 30 + (nk : Int)) ∧ ¬ (40 ≤ v.toInt ∧ v.toInt < 40 + (nb : Int)) ∧ ¬ (50 ≤ v.toInt ∧ v.toInt < 50 + (np : Int))) ∧ r = -1)
theorem CNQ.un {L : List Int32} {nk nb np : Nat} {ck ek sk bd pd c2 e2 s2 b2 p2 : Nat → Int32} {v r r2 : Int32} (hk : nk ≤ 10) (hb : nb ≤ 10) (f1 : ∀ k : Nat, k < nk → ck k = c2 k) (f2 : ∀ k : Nat, k < nk → ek k = e2 k) (f3 : ∀ k : Nat, k < nk → sk k = s2 k) (f4 : ∀ k : Nat, k < nb → bd k = b2 k) (f5 : ∀ k : Nat, k < np → pd k = p2 k) (a : CNQ L nk nb np ck ek sk bd pd v r) (b : CNQ L nk nb np c2 e2 s2 b2 p2 v r2) : r = r2 := by
  rcases a with ⟨k, hk1, e, er⟩ | ⟨k, hk1, e, er⟩ | ⟨k, hk1, e, er⟩ | ⟨k, hk1, e, er⟩ | ⟨k, hk1, e, er⟩ | ⟨k, hk1, e, er⟩ | ⟨e, er⟩ <;> rcases b with ⟨j, hj, d, dr⟩ | ⟨j, hj, d, dr⟩ | ⟨j, hj, d, dr⟩ | ⟨j, hj, d, dr⟩ | ⟨j, hj, d, dr⟩ | ⟨j, hj, d, dr⟩ | ⟨d, dr⟩
  · rw [er, dr, show k = j by omega]
  · exfalso; omega
  · exfalso; omega
  · exfalso; omega
  · exfalso; omega
  · exfalso; omega
  · exfalso; omega
  · exfalso; omega
  · rw [er, dr, show j = k by omega, f1 k hk1]
  · exfalso; omega
  · exfalso; omega
  · exfalso; omega
  · exfalso; omega
  · exfalso; omega
  · exfalso; omega
  · exfalso; omega
  · rw [er, dr, show j = k by omega, f2 k hk1]
  · exfalso; omega
  · exfalso; omega
  · exfalso; omega
  · exfalso; omega
  · exfalso; omega
  · exfalso; omega
  · exfalso; omega
  · rw [er, dr, show j = k by omega, f3 k hk1]
  · exfalso; omega
  · exfalso; omega
  · exfalso; omega
  · exfalso; omega
  · exfalso; omega
  · exfalso; omega
  · exfalso; omega
  · rw [er, dr, show j = k by omega, f4 k hk1]
  · exfalso; omega
  · exfalso; omega
  · exfalso; omega
  · exfalso; omega
  · exfalso; omega
  · exfalso; omega
  · exfalso; omega
  · rw [er, dr, show j = k by omega, f5 k hk1]
  · exfalso; omega
  · exfalso; omega
  · exfalso; omega
  · exfalso; omega
  · exfalso; omega
  · exfalso; omega
  · exfalso; omega
  · rw [er, dr]
/-- the kitchens' clauses of both are as many -/
def TKC (ad : Nat → Nat → Nat) (cn : Nat → Nat) (Fn F3 : Nat → Nat → Int32) : Prop := (∀ k : Nat, k < cn 10 → Fn 198 (ad 3 k) = F3 33 k) ∧ ∀ k : Nat, cn 10 ≤ k → k < 10 → F3 33 k = 0
def TXC (ad : Nat → Nat → Nat) (cn : Nat → Nat) (Fn F3 : Nat → Nat → Int32) : Prop := TXL ad cn Fn F3 ∧ TKC ad cn Fn F3
section TKCS
variable {ad a2 : Nat → Nat → Nat} {cn c2 : Nat → Nat} {Fn F2 F3 F4 : Nat → Nat → Int32} {M : Nat} {o : OutT} {cl : ClsT}
theorem TKC.cg (h : TKC ad cn Fn F3) (h3 : ∀ k : Nat, a2 3 k = ad 3 k) (e10 : c2 10 = cn 10) (f : F2 198 = Fn 198) (g : F4 33 = F3 33) : TKC a2 c2 F2 F4 := by
  refine ⟨fun k hk => ?_, fun k hk hk2 => ?_⟩
  · rw [e10] at hk
    rw [h3 k, f, g]
    exact h.1 k hk
  · rw [e10] at hk
    rw [g]
    exact h.2 k hk hk2
theorem TKC.keep (h : TKC ad cn Fn F3) (hT : ∀ k : Nat, k < cn 10 → ad 3 k < cn 6) (kp : KPT (cn 6) Fn F2) (h3 : ∀ k : Nat, a2 3 k = ad 3 k) (e10 : c2 10 = cn 10) (g : ∀ k : Nat, k < 10 → F4 33 k = F3 33 k) (hk10 : cn 10 ≤ 10) : TKC a2 c2 F2 F4 := by
  refine ⟨fun k hk => ?_, fun k hk hk2 => ?_⟩
  · rw [e10] at hk
    have t := hT k hk
    rw [h3 k, (kp (ad 3 k) (by omega)).2.1, g k (by omega)]
    exact h.1 k hk
  · rw [e10] at hk
    rw [g k hk2]
    exact h.2 k hk hk2
theorem TKC.kit (h : TKC ad cn Fn F3) (hT : ∀ k : Nat, k < cn 10 → ad 3 k < cn 6) (e198 : F2 198 = upd (Fn 198) (cn 6) 0) (h3n : a2 3 (cn 10) = cn 6) (h3 : ∀ k : Nat, k < cn 10 → a2 3 k = ad 3 k) (e10 : c2 10 = cn 10 + 1) (hk10 : cn 10 < 10) (g : F4 33 = F3 33) : TKC a2 c2 F2 F4 := by
  refine ⟨fun k hk => ?_, fun k hk hk2 => ?_⟩
  · rw [e10] at hk
    rw [e198, g]
    by_cases q : k = cn 10
    · rw [q, h3n, upd_self]
      exact (h.2 _ (Nat.le_refl _) hk10).symm
    · have t := hT k (by omega)
      rw [h3 k (by omega), upd_nq (by omega)]
      exact h.1 k (by omega)
  · rw [e10] at hk
    rw [g]
    exact h.2 k (by omega) hk2
theorem TKC.con (h : TKC ad cn Fn F3) (hT : ∀ k : Nat, k < cn 10 → ad 3 k < cn 6) (kp : KPT (cn 6) Fn F2) (hM : M < cn 10) (h3n : a2 3 M = cn 6) (h3 : ∀ k : Nat, ¬ k = M → a2 3 k = ad 3 k) (hx9 : XTx (cn 6) F2 o cl) (hm9 : MTx F4 M o cl) (e10 : c2 10 = cn 10) (g : ∀ t : Nat, ¬ t = M → F4 33 t = F3 33 t) : TKC a2 c2 F2 F4 := by
  refine ⟨fun k hk => ?_, fun k hk hk2 => ?_⟩
  · rw [e10] at hk
    by_cases q : k = M
    · rw [q, h3n]
      exact hx9.2.1.1.trans hm9.1.symm
    · have t := hT k hk
      rw [h3 k q, (kp (ad 3 k) (by omega)).2.1, g k q]
      exact h.1 k hk
  · rw [e10] at hk
    rw [g k (by omega)]
    exact h.2 k hk hk2
theorem TXC.cg (h : TXC ad cn Fn F3) (h4 : a2 4 0 = ad 4 0 ∧ ∀ k : Nat, a2 3 k = ad 3 k) (e10 : c2 10 = cn 10) (e11 : c2 11 = cn 11) (e12 : c2 12 = cn 12) (f : ∀ k : Nat, k ∈ [122, 123, 124, 129, 141, 142, 144, 146, 147, 195, 198, 199, 301, 302, 303, 304] → F2 k = Fn k) (g : ∀ k : Nat, k ∈ [15, 32, 33, 34, 35, 36, 64, 65] → F4 k = F3 k) : TXC a2 c2 F2 F4 := ⟨h.1.cg h4.1 e11 e12 f g, h.2.cg h4.2 e10 (f 198 (by decide)) (g 33 (by decide))⟩
theorem TKC.start {g f : Nat → Nat → Int32} (h10 : cn 10 = 0) (hz : ∀ k : Nat, f 33 k = 0) : TKC ad cn g f := ⟨fun k hk => by omega, fun k _ _ => hz k⟩
theorem TXL.lcl (h : TXL ad cn Fn F3) : Fn 198 (ad 4 0) = F3 33 10 := by
  obtain ⟨⟨o, cl, hx, hm⟩, -⟩ := h
  exact hx.1.2.1.1.trans hm.1.symm
end TKCS



set_option maxRecDepth 100000 in
set_option maxHeartbeats 4000000 in
theorem q_EcountOfAll (l : Launch) (D : va_G) (cI cB cZ : ClassId) (zz qq vv : Nat) (bt : Nat → Int32) (g : Nat → Nat) (ad : Nat → Nat → Nat) (cn : Nat → Nat) (In : Nat → Int32) (Fn : Nat → Nat → Int32) (v0 : Int32) (hB : CBX cn) (hT : (∀ k : Nat, k < cn 10 → ad 3 k < cn 6) ∧ ad 4 0 < cn 6 ∧ ad 4 1 < cn 6) (hv : 0 ≤ v0.toInt ∧ v0.toInt ≤ 9) : Met l yX11_countOfAll (CWS yX11_countOfAll cX11_countOfAll 2 (some .int)) (RM 2 0 0) (PBrx [.ref (g 0), .int v0] D cI cB cZ zz qq vv bt (wX cI (D.1 99) zz g ad cn In Fn)) (vp_Si (fun r => ∃ k : Nat, k ≤ 9 ∧ v0.toInt = (k : Int) ∧ r = ([(nI (cn 0)), (nI (cn 10)), (nI (cn 11)), (nI (cn 3)), (Fn 198 (ad 4 0)), (nI (cn 12)), (nI (cn 13)), (nI (cn 14)), (nI (cn 1)), (nI (cn 2))] : List Int32).getD k 0)) 0 0 (fun _ => False) := by
  refine en_rx rfl pn_RX11 (Nat.le_of_ble_eq_true rfl) (fun p e s m below meth c hx hb hml hown S hr hlocks hnm hP hK hXS hS ls hl => ?_)
  have hl : lv_has ls 2 [(0, .ref (g 0)), (1, .int v0)] := hl
  have hb_cn : Hid (CBX cn) := hB
  replace hB : CBXh cn := hB
  refine lv_iload_n hx hb (oc_27 0 shX11_countOfAll_0) rfl (lvA1 hl) ?_
  rcases (by (first | omega | (have zz0 := Hid.u hb_cn; omega)) : v0.toInt < 0 ∨ 8 < v0.toInt ∨ v0.toInt = 0 ∨ v0.toInt = 1 ∨ v0.toInt = 2 ∨ v0.toInt = 3 ∨ v0.toInt = 4 ∨ v0.toInt = 5 ∨ v0.toInt = 6 ∨ v0.toInt = 7 ∨ v0.toInt = 8) with c_1 | c_1 | c_1 | c_1 | c_1 | c_1 | c_1 | c_1 | c_1 | c_1 | c_1
  ·
    exfalso; (first | omega | (have zz0 := Hid.u hb_cn; omega))
  ·
    refine lv_tableOut (tgt := 118) hx hb dX11_countOfAll_1 (Or.inr c_1) (by decide) ?_
    refine lv_aload_n hx hb (oc_42 118 (aq_17 shX11_countOfAll_101)) rfl (lvA0 hl) ?_
    refine gf_RX11_502 S hK hP 0 xo_0 (v := .int (nI (cn 2))) rfl (oc_180 119 (aq_18 shX11_countOfAll_101) uw_1_246) ?_
    exact W.iret (v := (nI (cn 2))) hx hb hr (fun t ht hW => ⟨(nI (cn 2)), rfl, ⟨9, by (first | omega | (have zz0 := Hid.u hb_cn; omega)), by (first | omega | (have zz0 := Hid.u hb_cn; omega)), rfl⟩, ht⟩) (fun _ h => absurd h List.not_mem_nil) (oc_172 122 (aq_21 shX11_countOfAll_101))
  ·
    refine lv_tableIn (tgt := 52) (off := 51) hx hb dX11_countOfAll_1 (by (first | omega | (have zz0 := Hid.u hb_cn; omega))) (by (first | omega | (have zz0 := Hid.u hb_cn; omega))) (by rw [c_1]; rfl) (by decide) ?_
    refine lv_aload_n hx hb (oc_42 52 shX11_countOfAll_52) rfl (lvA0 hl) ?_
    refine gf_RX11_103 S hK hP 0 xo_0 (v := .int (nI (cn 0))) rfl (oc_180 53 (aq_1 shX11_countOfAll_52) uw_0_103) ?_
    exact W.iret (v := (nI (cn 0))) hx hb hr (fun t ht hW => ⟨(nI (cn 0)), rfl, ⟨0, by (first | omega | (have zz0 := Hid.u hb_cn; omega)), by (first | omega | (have zz0 := Hid.u hb_cn; omega)), rfl⟩, ht⟩) (fun _ h => absurd h List.not_mem_nil) (oc_172 56 (aq_4 shX11_countOfAll_52))
  ·
    refine lv_tableIn (tgt := 57) (off := 56) hx hb dX11_countOfAll_1 (by (first | omega | (have zz0 := Hid.u hb_cn; omega))) (by (first | omega | (have zz0 := Hid.u hb_cn; omega))) (by rw [c_1]; rfl) (by decide) ?_
    refine lv_aload_n hx hb (oc_42 57 (aq_5 shX11_countOfAll_52)) rfl (lvA0 hl) ?_
    refine gf_RX11_61 S hK hP 0 xo_0 (v := .ref (g 10)) rfl (oc_180 58 (aq_6 shX11_countOfAll_52) uw_0_61) ?_
    refine vp_callSi (runV_r (As := []) (rest := []) S (q_l_size l D cI cB cZ (g 10) (if (cn 10) = 0 then zz else ad 2 0) (In 10) (nI (cn 10))) kV_RX11_84 hK hP [24] (one_is xo_24) 24 xo_24 rfl rfl ⟨Nat.le_of_ble_eq_true rfl, Nat.le_of_ble_eq_true rfl⟩ ⟨Nat.le_of_ble_eq_true rfl, Nat.le_of_ble_eq_true rfl⟩ rfl hl.1 rfl (Nat.le_of_ble_eq_true rfl) (oc_182 61 (aq_9 shX11_countOfAll_52) uw_0_84)) (fun r_2 h_3 => ?_)
    subst h_3
    exact W.iret (v := (nI (cn 10))) hx hb hr (fun t ht hW => ⟨(nI (cn 10)), rfl, ⟨1, by (first | omega | (have zz0 := Hid.u hb_cn; omega)), by (first | omega | (have zz0 := Hid.u hb_cn; omega)), rfl⟩, ht⟩) (fun _ h => absurd h List.not_mem_nil) (oc_172 64 (aq_12 shX11_countOfAll_52))
  ·
    refine lv_tableIn (tgt := 65) (off := 64) hx hb dX11_countOfAll_1 (by (first | omega | (have zz0 := Hid.u hb_cn; omega))) (by (first | omega | (have zz0 := Hid.u hb_cn; omega))) (by rw [c_1]; rfl) (by decide) ?_
    refine lv_aload_n hx hb (oc_42 65 (aq_13 shX11_countOfAll_52)) rfl (lvA0 hl) ?_
    refine gf_RX11_65 S hK hP 0 xo_0 (v := .ref (g 11)) rfl (oc_180 66 (aq_14 shX11_countOfAll_52) uw_0_65) ?_
    refine vp_callSi (runV_r (As := []) (rest := []) S (q_l_size l D cI cB cZ (g 11) (if (cn 11) = 0 then zz else ad 2 1) (In 11) (nI (cn 11))) kV_RX11_84 hK hP [25] (one_is xo_25) 25 xo_25 rfl rfl ⟨Nat.le_of_ble_eq_true rfl, Nat.le_of_ble_eq_true rfl⟩ ⟨Nat.le_of_ble_eq_true rfl, Nat.le_of_ble_eq_true rfl⟩ rfl hl.1 rfl (Nat.le_of_ble_eq_true rfl) (oc_182 69 (aq_17 shX11_countOfAll_52) uw_0_84)) (fun r_4 h_5 => ?_)
    subst h_5
    exact W.iret (v := (nI (cn 11))) hx hb hr (fun t ht hW => ⟨(nI (cn 11)), rfl, ⟨2, by (first | omega | (have zz0 := Hid.u hb_cn; omega)), by (first | omega | (have zz0 := Hid.u hb_cn; omega)), rfl⟩, ht⟩) (fun _ h => absurd h List.not_mem_nil) (oc_172 72 (aq_20 shX11_countOfAll_52))
  ·
    refine lv_tableIn (tgt := 73) (off := 72) hx hb dX11_countOfAll_1 (by (first | omega | (have zz0 := Hid.u hb_cn; omega))) (by (first | omega | (have zz0 := Hid.u hb_cn; omega))) (by rw [c_1]; rfl) (by decide) ?_
    refine lv_aload_n hx hb (oc_42 73 (aq_21 shX11_countOfAll_52)) rfl (lvA0 hl) ?_
    refine gf_RX11_21 S hK hP 0 xo_0 (v := .ref (g 5)) rfl (oc_180 74 (aq_22 shX11_countOfAll_52) uw_0_21) ?_
    refine vp_callSi (runV_rxa (As := []) (rest := []) S (q_Xlength l D cI cB cZ zz qq vv bt g ad cn In Fn  hB) kV_RX11_152 hK hXS hS hP 1 xo_1 rfl rfl ⟨Nat.le_of_ble_eq_true rfl, Nat.le_of_ble_eq_true rfl⟩ ⟨Nat.le_of_ble_eq_true rfl, Nat.le_of_ble_eq_true rfl⟩ rfl hl.1 rfl (Nat.le_of_ble_eq_true rfl) (oc_182 77 shX11_countOfAll_77 uw_0_152)) (fun r_6 h_7 => ?_)
    subst h_7
    exact W.iret (v := (nI ((cn 3)))) hx hb hr (fun t ht hW => ⟨(nI ((cn 3))), rfl, ⟨3, by (first | omega | (have zz0 := Hid.u hb_cn; omega)), by (first | omega | (have zz0 := Hid.u hb_cn; omega)), rfl⟩, ht⟩) (fun _ h => absurd h List.not_mem_nil) (oc_172 80 (aq_3 shX11_countOfAll_77))
  ·
    refine lv_tableIn (tgt := 81) (off := 80) hx hb dX11_countOfAll_1 (by (first | omega | (have zz0 := Hid.u hb_cn; omega))) (by (first | omega | (have zz0 := Hid.u hb_cn; omega))) (by rw [c_1]; rfl) (by decide) ?_
    refine lv_aload_n hx hb (oc_42 81 (aq_4 shX11_countOfAll_77)) rfl (lvA0 hl) ?_
    refine gf_RX11_12 S hK hP 0 xo_0 (v := .ref (ad 5 (ad 4 0))) rfl (oc_180 82 (aq_5 shX11_countOfAll_77) uw_0_12) ?_
    refine gf_RX11_171 S hK hP _ (xf_7 hT.2.1) (v := .int ((Fn 198) (ad 4 0))) rfl (oc_180 85 (aq_8 shX11_countOfAll_77) uw_0_171) ?_
    exact W.iret (v := ((Fn 198) (ad 4 0))) hx hb hr (fun t ht hW => ⟨((Fn 198) (ad 4 0)), rfl, ⟨4, by (first | omega | (have zz0 := Hid.u hb_cn; omega)), by (first | omega | (have zz0 := Hid.u hb_cn; omega)), rfl⟩, ht⟩) (fun _ h => absurd h List.not_mem_nil) (oc_172 88 (aq_11 shX11_countOfAll_77))
  ·
    refine lv_tableIn (tgt := 89) (off := 88) hx hb dX11_countOfAll_1 (by (first | omega | (have zz0 := Hid.u hb_cn; omega))) (by (first | omega | (have zz0 := Hid.u hb_cn; omega))) (by rw [c_1]; rfl) (by decide) ?_
    refine lv_aload_n hx hb (oc_42 89 (aq_12 shX11_countOfAll_77)) rfl (lvA0 hl) ?_
    refine gf_RX11_68 S hK hP 0 xo_0 (v := .ref (g 12)) rfl (oc_180 90 (aq_13 shX11_countOfAll_77) uw_0_68) ?_
    refine vp_callSi (runV_r (As := []) (rest := []) S (q_l_size l D cI cB cZ (g 12) (if (cn 12) = 0 then zz else ad 2 2) (In 12) (nI (cn 12))) kV_RX11_84 hK hP [26] (one_is xo_26) 26 xo_26 rfl rfl ⟨Nat.le_of_ble_eq_true rfl, Nat.le_of_ble_eq_true rfl⟩ ⟨Nat.le_of_ble_eq_true rfl, Nat.le_of_ble_eq_true rfl⟩ rfl hl.1 rfl (Nat.le_of_ble_eq_true rfl) (oc_182 93 (aq_16 shX11_countOfAll_77) uw_0_84)) (fun r_8 h_9 => ?_)
    subst h_9
    exact W.iret (v := (nI (cn 12))) hx hb hr (fun t ht hW => ⟨(nI (cn 12)), rfl, ⟨5, by (first | omega | (have zz0 := Hid.u hb_cn; omega)), by (first | omega | (have zz0 := Hid.u hb_cn; omega)), rfl⟩, ht⟩) (fun _ h => absurd h List.not_mem_nil) (oc_172 96 (aq_19 shX11_countOfAll_77))
  ·
    refine lv_tableIn (tgt := 97) (off := 96) hx hb dX11_countOfAll_1 (by (first | omega | (have zz0 := Hid.u hb_cn; omega))) (by (first | omega | (have zz0 := Hid.u hb_cn; omega))) (by rw [c_1]; rfl) (by decide) ?_
    refine lv_aload_n hx hb (oc_42 97 (aq_20 shX11_countOfAll_77)) rfl (lvA0 hl) ?_
    refine gf_RX11_71 S hK hP 0 xo_0 (v := .ref (g 13)) rfl (oc_180 98 (aq_21 shX11_countOfAll_77) uw_0_71) ?_
    refine vp_callSi (runV_r (As := []) (rest := []) S (q_l_size l D cI cB cZ (g 13) (if (cn 13) = 0 then zz else ad 2 3) (In 13) (nI (cn 13))) kV_RX11_84 hK hP [27] (one_is xo_27) 27 xo_27 rfl rfl ⟨Nat.le_of_ble_eq_true rfl, Nat.le_of_ble_eq_true rfl⟩ ⟨Nat.le_of_ble_eq_true rfl, Nat.le_of_ble_eq_true rfl⟩ rfl hl.1 rfl (Nat.le_of_ble_eq_true rfl) (oc_182 101 shX11_countOfAll_101 uw_0_84)) (fun r_10 h_11 => ?_)
    subst h_11
    exact W.iret (v := (nI (cn 13))) hx hb hr (fun t ht hW => ⟨(nI (cn 13)), rfl, ⟨6, by (first | omega | (have zz0 := Hid.u hb_cn; omega)), by (first | omega | (have zz0 := Hid.u hb_cn; omega)), rfl⟩, ht⟩) (fun _ h => absurd h List.not_mem_nil) (oc_172 104 (aq_3 shX11_countOfAll_101))
  ·
    refine lv_tableIn (tgt := 105) (off := 104) hx hb dX11_countOfAll_1 (by (first | omega | (have zz0 := Hid.u hb_cn; omega))) (by (first | omega | (have zz0 := Hid.u hb_cn; omega))) (by rw [c_1]; rfl) (by decide) ?_
    refine lv_aload_n hx hb (oc_42 105 (aq_4 shX11_countOfAll_101)) rfl (lvA0 hl) ?_
    refine gf_RX11_74 S hK hP 0 xo_0 (v := .ref (g 14)) rfl (oc_180 106 (aq_5 shX11_countOfAll_101) uw_0_74) ?_
    refine vp_callSi (runV_r (As := []) (rest := []) S (q_l_size l D cI cB cZ (g 14) (if (cn 14) = 0 then zz else ad 2 4) (In 14) (nI (cn 14))) kV_RX11_84 hK hP [28] (one_is xo_28) 28 xo_28 rfl rfl ⟨Nat.le_of_ble_eq_true rfl, Nat.le_of_ble_eq_true rfl⟩ ⟨Nat.le_of_ble_eq_true rfl, Nat.le_of_ble_eq_true rfl⟩ rfl hl.1 rfl (Nat.le_of_ble_eq_true rfl) (oc_182 109 (aq_8 shX11_countOfAll_101) uw_0_84)) (fun r_12 h_13 => ?_)
    subst h_13
    exact W.iret (v := (nI (cn 14))) hx hb hr (fun t ht hW => ⟨(nI (cn 14)), rfl, ⟨7, by (first | omega | (have zz0 := Hid.u hb_cn; omega)), by (first | omega | (have zz0 := Hid.u hb_cn; omega)), rfl⟩, ht⟩) (fun _ h => absurd h List.not_mem_nil) (oc_172 112 (aq_11 shX11_countOfAll_101))
  ·
    refine lv_tableIn (tgt := 113) (off := 112) hx hb dX11_countOfAll_1 (by (first | omega | (have zz0 := Hid.u hb_cn; omega))) (by (first | omega | (have zz0 := Hid.u hb_cn; omega))) (by rw [c_1]; rfl) (by decide) ?_
    refine lv_aload_n hx hb (oc_42 113 (aq_12 shX11_countOfAll_101)) rfl (lvA0 hl) ?_
    refine gf_RX11_311 S hK hP 0 xo_0 (v := .int (nI (cn 1))) rfl (oc_180 114 (aq_13 shX11_countOfAll_101) uw_1_55) ?_
    exact W.iret (v := (nI (cn 1))) hx hb hr (fun t ht hW => ⟨(nI (cn 1)), rfl, ⟨8, by (first | omega | (have zz0 := Hid.u hb_cn; omega)), by (first | omega | (have zz0 := Hid.u hb_cn; omega)), rfl⟩, ht⟩) (fun _ h => absurd h List.not_mem_nil) (oc_172 117 (aq_16 shX11_countOfAll_101))
set_option maxRecDepth 100000 in
set_option maxHeartbeats 4000000 in
theorem q_EcofNull (l : Launch) (D : va_G) (cI cB cZ : ClassId) (zz qq vv : Nat) (bt : Nat → Int32) (g : Nat → Nat) (ad : Nat → Nat → Nat) (cn : Nat → Nat) (In : Nat → Int32) (Fn : Nat → Nat → Int32) (v0 : Int32) (hB : CBX cn) : Met l yX11_countOfKitchen (CWS yX11_countOfKitchen cX11_countOfKitchen 3 (some .int)) (RM 0 0 0) (PBrx [.ref (g 0), .null, .int v0] D cI cB cZ zz qq vv bt (wX cI (D.1 99) zz g ad cn In Fn)) (vp_Si (fun r => r = -1)) 0 0 (fun _ => False) := by
  refine en_rx rfl pn_RX11 (Nat.le_of_ble_eq_true rfl) (fun p e s m below meth c hx hb hml hown S hr hlocks hnm hP hK hXS hS ls hl => ?_)
  have hl : lv_has ls 3 [(0, .ref (g 0)), (1, .null), (2, .int v0)] := hl
  have hb_cn : Hid (CBX cn) := hB
  replace hB : CBXh cn := hB
  refine lv_aload_nN hx hb dX11_countOfKitchen_0 rfl (lvA1 hl) ?_
  refine lv_ifnonnullN hx hb dX11_countOfKitchen_1 ?_
  refine lv_iconst (v := (-1)) hx hb (oc_2 4 (aq_4 shX11_countOfKitchen_0)) kic_m1 ?_
  exact W.iret (v := (-1)) hx hb hr (fun t ht hW => ⟨(-1), rfl, rfl, ht⟩) (fun _ h => absurd h List.not_mem_nil) (oc_172 5 (aq_5 shX11_countOfKitchen_0))
set_option maxRecDepth 100000 in
set_option maxHeartbeats 4000000 in
theorem q_EcofKitchen (l : Launch) (D : va_G) (cI cB cZ : ClassId) (zz qq vv : Nat) (bt : Nat → Int32) (g : Nat → Nat) (ad : Nat → Nat → Nat) (cn : Nat → Nat) (In : Nat → Int32) (Fn : Nat → Nat → Int32) (k0 : Nat) (v0 : Int32) (hB : CBX cn) (hk : k0 < cn 10) (hT : (∀ k : Nat, k < cn 10 → ad 3 k < cn 6) ∧ ad 4 0 < cn 6 ∧ ad 4 1 < cn 6) : Met l yX11_countOfKitchen (CWS yX11_countOfKitchen cX11_countOfKitchen 3 (some .int)) (RM 0 0 0) (PBrx [.ref (g 0), .ref (ad 10 k0), .int v0] D cI cB cZ zz qq vv bt (wX cI (D.1 99) zz g ad cn In Fn)) (vp_Si (fun r => (v0.toInt = 1 ∧ r = Fn 198 (ad 3 k0)) ∨ (v0.toInt = 2 ∧ r = Fn 104 k0) ∨ (¬ v0.toInt = 1 ∧ ¬ v0.toInt = 2 ∧ r = Fn 109 k0))) 0 0 (fun _ => False) := by
  refine en_rx rfl pn_RX11 (Nat.le_of_ble_eq_true rfl) (fun p e s m below meth c hx hb hml hown S hr hlocks hnm hP hK hXS hS ls hl => ?_)
  have hl : lv_has ls 3 [(0, .ref (g 0)), (1, .ref (ad 10 k0)), (2, .int v0)] := hl
  have hb_cn : Hid (CBX cn) := hB
  replace hB : CBXh cn := hB
  refine lv_aload_n hx hb dX11_countOfKitchen_0 rfl (lvA1 hl) ?_
  refine lv_ifnonnull (tgt := 6) hx hb dX11_countOfKitchen_1 rfl ?_
  refine lv_iload_n hx hb (oc_28 6 (aq_6 shX11_countOfKitchen_0)) rfl (lvA2 hl) ?_
  refine lv_iconst (v := 1) hx hb (oc_4 7 (aq_7 shX11_countOfKitchen_0)) kic_1 ?_
  refine lv_icmp_ne (tgt := 21) hx hb (oc_160 8 (aq_8 shX11_countOfKitchen_0) sgw_0_13) rfl (fun c_1 => ?_) (fun c_1 => ?_)
  ·
    have tc_1 : (v0.toInt : Int) ≠ 1 := fun q => c_1 (Int32.toInt_inj.mp q)
    refine lv_iload_n hx hb (oc_28 21 (aq_21 shX11_countOfKitchen_0)) rfl (lvA2 hl) ?_
    refine lv_iconst (v := 2) hx hb (oc_5 22 (aq_22 shX11_countOfKitchen_0)) kic_2 ?_
    refine lv_icmp_ne (tgt := 33) hx hb (oc_160 23 (aq_23 shX11_countOfKitchen_0) sgw_0_10) rfl (fun c_2 => ?_) (fun c_2 => ?_)
    ·
      have tc_2 : (v0.toInt : Int) ≠ 2 := fun q => c_2 (Int32.toInt_inj.mp q)
      refine lv_aload_n hx hb (oc_43 33 (aq_7 shX11_countOfKitchen_26)) rfl (lvA1 hl) ?_
      refine gf_RX11_260 S hK hP _ (xf_0 hk) (v := .int ((Fn 109) k0)) rfl (oc_180 34 (aq_8 shX11_countOfKitchen_26) uw_1_4) ?_
      exact W.iret (v := ((Fn 109) k0)) hx hb hr (fun t ht hW => ⟨((Fn 109) k0), rfl, (Or.inr (Or.inr ⟨by (first | omega | (have zz0 := Hid.u hb_cn; omega)), by (first | omega | (have zz0 := Hid.u hb_cn; omega)), rfl⟩)), ht⟩) (fun _ h => absurd h List.not_mem_nil) dX11_countOfKitchen_37
    ·
      have tc_2 : (v0.toInt : Int) = 2 := congrArg Int32.toInt c_2
      refine lv_aload_n hx hb (oc_43 26 shX11_countOfKitchen_26) rfl (lvA1 hl) ?_
      refine gf_RX11_118 S hK hP _ (xf_0 hk) (v := .int ((Fn 104) k0)) rfl (oc_180 27 (aq_1 shX11_countOfKitchen_26) uw_0_118) ?_
      refine lv_goto (tgt := 37) hx hb (oc_167 30 (aq_4 shX11_countOfKitchen_26) sgw_0_7) rfl ?_
      exact W.iret (v := ((Fn 104) k0)) hx hb hr (fun t ht hW => ⟨((Fn 104) k0), rfl, (Or.inr (Or.inl ⟨by (first | omega | (have zz0 := Hid.u hb_cn; omega)), rfl⟩)), ht⟩) (fun _ h => absurd h List.not_mem_nil) dX11_countOfKitchen_37
  ·
    have tc_1 : (v0.toInt : Int) = 1 := congrArg Int32.toInt c_1
    refine lv_aload_n hx hb (oc_43 11 (aq_11 shX11_countOfKitchen_0)) rfl (lvA1 hl) ?_
    refine gf_RX11_168 S hK hP _ (xf_0 hk) (v := .ref (ad 5 (ad 3 k0))) rfl (oc_180 12 (aq_12 shX11_countOfKitchen_0) uw_0_168) ?_
    refine gf_RX11_171 S hK hP _ (xf_7 (hT.1 k0 (by (first | omega | (have zz0 := Hid.u hb_cn; omega))))) (v := .int ((Fn 198) (ad 3 k0))) rfl (oc_180 15 (aq_15 shX11_countOfKitchen_0) uw_0_171) ?_
    refine lv_goto (tgt := 37) hx hb (oc_167 18 (aq_18 shX11_countOfKitchen_0) sgw_0_19) rfl ?_
    exact W.iret (v := ((Fn 198) (ad 3 k0))) hx hb hr (fun t ht hW => ⟨((Fn 198) (ad 3 k0)), rfl, (Or.inl ⟨by (first | omega | (have zz0 := Hid.u hb_cn; omega)), rfl⟩), ht⟩) (fun _ h => absurd h List.not_mem_nil) dX11_countOfKitchen_37
set_option maxRecDepth 100000 in
set_option maxHeartbeats 4000000 in
theorem q_Ecount (l : Launch) (D : va_G) (cI cB cZ : ClassId) (zz qq vv : Nat) (bt : Nat → Int32) (g : Nat → Nat) (ad : Nat → Nat → Nat) (cn : Nat → Nat) (In : Nat → Int32) (Fn : Nat → Nat → Int32) (v0 : Int32) (hB : CBX cn) (hT : (∀ k : Nat, k < cn 10 → ad 3 k < cn 6) ∧ ad 4 0 < cn 6 ∧ ad 4 1 < cn 6) : Met l yX11_count (CWS yX11_count cX11_count 3 (some .int)) (RM 4 0 0) (PBrx [.ref (g 0), .int v0] D cI cB cZ zz qq vv bt (wX cI (D.1 99) zz g ad cn In Fn)) (vp_Si (fun r => CNQ ([(nI (cn 0)), (nI (cn 10)), (nI (cn 11)), (nI (cn 3)), (Fn 198 (ad 4 0)), (nI (cn 12)), (nI (cn 13)), (nI (cn 14)), (nI (cn 1)), (nI (cn 2))] : List Int32) (cn 10) (cn 12) (cn 13) (fun k9 => Fn 198 (ad 3 k9)) (Fn 104) (Fn 109) (Fn 147) (Fn 164) v0 r)) 0 0 (fun _ => False) := by
  refine en_rx rfl pn_RX11 (Nat.le_of_ble_eq_true rfl) (fun p e s m below meth c hx hb hml hown S hr hlocks hnm hP hK hXS hS ls hl => ?_)
  have hl : lv_has ls 3 [(0, .ref (g 0)), (1, .int v0)] := hl
  have hb_cn : Hid (CBX cn) := hB
  replace hB : CBXh cn := hB
  refine lv_iload_n hx hb (oc_27 0 shX11_count_0) rfl (lvA1 hl) ?_
  refine lv_iconst (v := 0) hx hb (oc_3 1 (aq_1 shX11_count_0)) kic_0 ?_
  refine lv_bipush (v := 9) hx hb (oc_16 2 (aq_2 shX11_count_0) sgb_9) kbc_9 ?_
  refine vp_callSi (runS_r (As := [.int v0, .int 0, .int 9]) (rest := []) S (q_l_within l D cI cB cZ v0 0 9) kS_RX11_80 hK hP [] rfl ⟨Nat.le_of_ble_eq_true rfl, Nat.le_of_ble_eq_true rfl⟩ ⟨Nat.le_of_ble_eq_true rfl, Nat.le_of_ble_eq_true rfl⟩ rfl hl.1 rfl (Nat.le_of_ble_eq_true rfl) (oc_184 4 (aq_4 shX11_count_0) uw_0_80)) (fun r_1 h_2 => ?_)
  rcases h_2 with ⟨rfl, h_2⟩ | ⟨rfl, h_2⟩
  ·
    have h_2 : 0 ≤ v0.toInt ∧ v0.toInt ≤ 9 := h_2
    refine lv_if_eq (tgt := 16) hx hb dX11_count_7 rfl (fun h => absurd h cq_eq_1_0) (fun _ => ?_)
    refine lv_aload_n hx hb (oc_42 10 (aq_10 shX11_count_0)) rfl (lvA0 hl) ?_
    refine lv_iload_n hx hb (oc_27 11 (aq_11 shX11_count_0)) rfl (lvA1 hl) ?_
    refine vp_callSi (runV_rxa (As := [.int v0]) (rest := []) S (q_EcountOfAll l D cI cB cZ zz qq vv bt g ad cn In Fn v0 hB hT ⟨by (first | omega | (have zz0 := Hid.u hb_cn; omega)), by (first | omega | (have zz0 := Hid.u hb_cn; omega))⟩) kV_RX11_533 hK hXS hS hP 0 xo_0 rfl rfl ⟨Nat.le_of_ble_eq_true rfl, Nat.le_of_ble_eq_true rfl⟩ ⟨Nat.le_of_ble_eq_true rfl, Nat.le_of_ble_eq_true rfl⟩ rfl hl.1 rfl (Nat.le_of_ble_eq_true rfl) (oc_182 12 (aq_12 shX11_count_0) uw_2_21)) (fun r_3 h_4 => ?_)
    exact W.iret (v := r_3) hx hb hr (fun t ht hW => ⟨r_3, rfl, (Or.inl (h_4)), ht⟩) (fun _ h => absurd h List.not_mem_nil) (oc_172 15 (aq_15 shX11_count_0))
  ·
    have h_2 : ¬ (0 ≤ v0.toInt ∧ v0.toInt ≤ 9) := h_2
    refine lv_if_eq (tgt := 16) hx hb dX11_count_7 rfl (fun _ => ?_) (fun h => absurd h cq_eq_0_0)
    refine lv_iload_n hx hb (oc_27 16 (aq_16 shX11_count_0)) rfl (lvA1 hl) ?_
    refine lv_bipush (v := 10) hx hb (oc_16 17 (aq_17 shX11_count_0) sgb_10) kbc_10 ?_
    refine lv_bipush (v := 39) hx hb (oc_16 19 (aq_19 shX11_count_0) sgb_39) kbc_39 ?_
    refine vp_callSi (runS_r (As := [.int v0, .int 10, .int 39]) (rest := []) S (q_l_within l D cI cB cZ v0 10 39) kS_RX11_80 hK hP [] rfl ⟨Nat.le_of_ble_eq_true rfl, Nat.le_of_ble_eq_true rfl⟩ ⟨Nat.le_of_ble_eq_true rfl, Nat.le_of_ble_eq_true rfl⟩ rfl hl.1 rfl (Nat.le_of_ble_eq_true rfl) (oc_184 21 (aq_21 shX11_count_0) uw_0_80)) (fun r_5 h_6 => ?_)
    rcases h_6 with ⟨rfl, h_6⟩ | ⟨rfl, h_6⟩
    ·
      have h_6 : 10 ≤ v0.toInt ∧ v0.toInt ≤ 39 := h_6
      refine lv_if_eq (tgt := 44) hx hb dX11_count_24 rfl (fun h => absurd h cq_eq_1_0) (fun _ => ?_)
      obtain ⟨d0, hd0, rfl⟩ := nI_of (x := v0) (fun q => by have := Int32.lt_iff_toInt_lt.mp q; have e : (0 : Int32).toInt = 0 := rfl; (first | omega | (have zz0 := Hid.u hb_cn; omega)))
      have td0 : (nI d0).toInt = (d0 : Int) := nI_toInt hd0
      have zd0 : (nI d0).toInt.toNat = d0 := by (first | omega | (have zz0 := Hid.u hb_cn; omega))
      refine lv_aload_n hx hb (oc_42 27 (aq_3 shX11_count_24)) rfl (lvA0 hl) ?_
      refine lv_aload_n hx hb (oc_42 28 (aq_4 shX11_count_24)) rfl (lvA0 hl) ?_
      refine lv_iload_n hx hb (oc_27 29 (aq_5 shX11_count_24)) rfl (lvA1 hl) ?_
      refine lv_bipush (v := 10) hx hb (oc_16 30 (aq_6 shX11_count_24) sgb_10) kbc_10 ?_
      refine lv_irem hx hb (oc_112 32 (aq_8 shX11_count_24)) (by decide) ?_
      refine lv_topi (fun y_7 ey_7 => ?_)
      obtain rfl : y_7 = (nI (d0 % 10)) := ey_7.trans (nI_rem (by (first | omega | (have zz0 := Hid.u hb_cn; omega))) (by decide))
      have t_d0m10 : (nI (d0 % 10)).toInt = ((d0 % 10 : Nat) : Int) := nI_toInt (by (first | omega | (have zz0 := Hid.u hb_cn; omega)))
      refine va_csq (runV_rxa (As := [.int (nI (d0 % 10))]) (rest := [.ref (g 0)]) S (q_XkitchenAt l D cI cB cZ zz qq vv bt g ad cn In Fn (nI (d0 % 10)) hB) kV_RX11_114 hK hXS hS hP 0 xo_0 rfl rfl ⟨Nat.le_of_ble_eq_true rfl, Nat.le_of_ble_eq_true rfl⟩ ⟨Nat.le_of_ble_eq_true rfl, Nat.le_of_ble_eq_true rfl⟩ rfl hl.1 rfl (Nat.le_of_ble_eq_true rfl) (oc_182 33 (aq_9 shX11_count_24) uw_0_114)) (fun r_8 h_9 => ?_)
      rcases h_9 with ⟨mr_8, er_8, hr_8, rfl⟩ | ⟨hr_8, rfl⟩
      ·
        refine lv_iload_n hx hb dX11_count_36 rfl (lvA1 hl) ?_
        refine lv_bipush (v := 10) hx hb dX11_count_37 kbc_10 ?_
        refine lv_idiv hx hb dX11_count_39 (by decide) ?_
        refine lv_topi (fun y_10 ey_10 => ?_)
        obtain rfl : y_10 = (nI (d0 / 10)) := ey_10.trans (nI_div (by (first | omega | (have zz0 := Hid.u hb_cn; omega))) (by decide))
        have t_d0q10 : (nI (d0 / 10)).toInt = ((d0 / 10 : Nat) : Int) := nI_toInt (by (first | omega | (have zz0 := Hid.u hb_cn; omega)))
        refine vp_callSi (runV_rxa (As := [.ref (ad 10 mr_8), .int (nI (d0 / 10))]) (rest := []) S (q_EcofKitchen l D cI cB cZ zz qq vv bt g ad cn In Fn mr_8 (nI (d0 / 10)) hB (by (first | omega | (have zz0 := Hid.u hb_cn; omega))) hT) kV_RX11_536 hK hXS hS hP 0 xo_0 rfl rfl ⟨Nat.le_of_ble_eq_true rfl, Nat.le_of_ble_eq_true rfl⟩ ⟨Nat.le_of_ble_eq_true rfl, Nat.le_of_ble_eq_true rfl⟩ rfl hl.1 rfl (Nat.le_of_ble_eq_true rfl) dX11_count_40) (fun r_11 h_12 => ?_)
        exact W.iret (v := r_11) hx hb hr (fun t ht hW => ⟨r_11, rfl, (h_12.elim (fun ⟨q1, q2⟩ => Or.inr (Or.inl (⟨mr_8, by (first | omega | (have zz0 := Hid.u hb_cn; omega)), by (first | omega | (have zz0 := Hid.u hb_cn; omega)), q2⟩))) (fun q => q.elim (fun ⟨q1, q2⟩ => Or.inr (Or.inr (Or.inl (⟨mr_8, by (first | omega | (have zz0 := Hid.u hb_cn; omega)), by (first | omega | (have zz0 := Hid.u hb_cn; omega)), q2⟩)))) (fun ⟨q1, q2, q3⟩ => Or.inr (Or.inr (Or.inr (Or.inl (⟨mr_8, by (first | omega | (have zz0 := Hid.u hb_cn; omega)), by (first | omega | (have zz0 := Hid.u hb_cn; omega)), q3⟩))))))), ht⟩) (fun _ h => absurd h List.not_mem_nil) dX11_count_43
      ·
        refine lv_iload_n hx hb dX11_count_36 rfl (lvA1 hl) ?_
        refine lv_bipush (v := 10) hx hb dX11_count_37 kbc_10 ?_
        refine lv_idiv hx hb dX11_count_39 (by decide) ?_
        refine lv_topi (fun y_13 ey_13 => ?_)
        obtain rfl : y_13 = (nI (d0 / 10)) := ey_13.trans (nI_div (by (first | omega | (have zz0 := Hid.u hb_cn; omega))) (by decide))
        have t_d0q10 : (nI (d0 / 10)).toInt = ((d0 / 10 : Nat) : Int) := nI_toInt (by (first | omega | (have zz0 := Hid.u hb_cn; omega)))
        refine vp_callSi (runV_rxa (As := [.null, .int (nI (d0 / 10))]) (rest := []) S (q_EcofNull l D cI cB cZ zz qq vv bt g ad cn In Fn (nI (d0 / 10)) hB) kV_RX11_536 hK hXS hS hP 0 xo_0 rfl rfl ⟨Nat.le_of_ble_eq_true rfl, Nat.le_of_ble_eq_true rfl⟩ ⟨Nat.le_of_ble_eq_true rfl, Nat.le_of_ble_eq_true rfl⟩ rfl hl.1 rfl (Nat.le_of_ble_eq_true rfl) dX11_count_40) (fun r_14 h_15 => ?_)
        subst h_15
        exact W.iret (v := (-1)) hx hb hr (fun t ht hW => ⟨(-1), rfl, (Or.inr (Or.inr (Or.inr (Or.inr (Or.inr (Or.inr (⟨⟨by (first | omega | (have zz0 := Hid.u hb_cn; omega)), by (first | omega | (have zz0 := Hid.u hb_cn; omega)), by (first | omega | (have zz0 := Hid.u hb_cn; omega)), by (first | omega | (have zz0 := Hid.u hb_cn; omega)), by (first | omega | (have zz0 := Hid.u hb_cn; omega)), by (first | omega | (have zz0 := Hid.u hb_cn; omega))⟩, rfl⟩))))))), ht⟩) (fun _ h => absurd h List.not_mem_nil) dX11_count_43
    ·
      have h_6 : ¬ (10 ≤ v0.toInt ∧ v0.toInt ≤ 39) := h_6
      refine lv_if_eq (tgt := 44) hx hb dX11_count_24 rfl (fun _ => ?_) (fun h => absurd h cq_eq_0_0)
      refine lv_iload_n hx hb (oc_27 44 (aq_20 shX11_count_24)) rfl (lvA1 hl) ?_
      refine lv_bipush (v := 40) hx hb (oc_16 45 (aq_21 shX11_count_24) sgb_40) kbc_40 ?_
      refine lv_bipush (v := 49) hx hb (oc_16 47 (aq_23 shX11_count_24) sgb_49) kbc_49 ?_
      refine vp_callSi (runS_r (As := [.int v0, .int 40, .int 49]) (rest := []) S (q_l_within l D cI cB cZ v0 40 49) kS_RX11_80 hK hP [] rfl ⟨Nat.le_of_ble_eq_true rfl, Nat.le_of_ble_eq_true rfl⟩ ⟨Nat.le_of_ble_eq_true rfl, Nat.le_of_ble_eq_true rfl⟩ rfl hl.1 rfl (Nat.le_of_ble_eq_true rfl) (oc_184 49 shX11_count_49 uw_0_80)) (fun r_16 h_17 => ?_)
      rcases h_17 with ⟨rfl, h_17⟩ | ⟨rfl, h_17⟩
      ·
        have h_17 : 40 ≤ v0.toInt ∧ v0.toInt ≤ 49 := h_17
        refine lv_if_eq (tgt := 77) hx hb dX11_count_52 rfl (fun h => absurd h cq_eq_1_0) (fun _ => ?_)
        obtain ⟨d0, hd0, rfl⟩ := nI_of (x := v0) (fun q => by have := Int32.lt_iff_toInt_lt.mp q; have e : (0 : Int32).toInt = 0 := rfl; (first | omega | (have zz0 := Hid.u hb_cn; omega)))
        have td0 : (nI d0).toInt = (d0 : Int) := nI_toInt hd0
        have zd0 : (nI d0).toInt.toNat = d0 := by (first | omega | (have zz0 := Hid.u hb_cn; omega))
        refine lv_aload_n hx hb (oc_42 55 (aq_6 shX11_count_49)) rfl (lvA0 hl) ?_
        refine lv_iload_n hx hb (oc_27 56 (aq_7 shX11_count_49)) rfl (lvA1 hl) ?_
        refine lv_bipush (v := 40) hx hb (oc_16 57 (aq_8 shX11_count_49) sgb_40) kbc_40 ?_
        refine lv_isub hx hb (oc_100 59 (aq_10 shX11_count_49)) ?_
        refine lv_topi (fun y_18 ey_18 => ?_)
        obtain rfl : y_18 = (nI (d0 - 40)) := ey_18.trans (nI_sub (b := 40) (by (first | omega | (have zz0 := Hid.u hb_cn; omega))))
        have t_d040 : (nI (d0 - 40)).toInt = ((d0 - 40 : Nat) : Int) := nI_toInt (by (first | omega | (have zz0 := Hid.u hb_cn; omega)))
        refine va_csq (runV_rxa (As := [.int (nI (d0 - 40))]) (rest := []) S (q_XbatchAt l D cI cB cZ zz qq vv bt g ad cn In Fn (nI (d0 - 40)) hB) kV_RX11_382 hK hXS hS hP 0 xo_0 rfl rfl ⟨Nat.le_of_ble_eq_true rfl, Nat.le_of_ble_eq_true rfl⟩ ⟨Nat.le_of_ble_eq_true rfl, Nat.le_of_ble_eq_true rfl⟩ rfl hl.1 rfl (Nat.le_of_ble_eq_true rfl) (oc_182 60 (aq_11 shX11_count_49) uw_1_126)) (fun r_19 h_20 => ?_)
        rcases h_20 with ⟨mr_19, er_19, hr_19, rfl⟩ | ⟨hr_19, rfl⟩
        ·
          refine lv_astore_n (lv' := [(2, .ref (ad 12 mr_19)), (0, .ref (g 0)), (1, .int (nI d0))]) hx hb dX11_count_63 rfl hl (ltb rfl) rfl (fun ls hl => ?_)
          refine lv_aload_n hx hb dX11_count_64 rfl (lvA0 hl) ?_
          refine lv_ifnonnull (tgt := 72) hx hb dX11_count_65 rfl ?_
          refine lv_aload_n hx hb (oc_44 72 (aq_23 shX11_count_49)) rfl (lvA0 hl) ?_
          have kf_1 : mr_19 < cn 12 := by (first | omega | (have zz0 := Hid.u hb_cn; omega))
          refine gf_RX11_381 S hK hP _ (xf_2 kf_1) (v := .int ((Fn 147) mr_19)) rfl (oc_180 73 shX11_count_73 uw_1_125) ?_
          exact W.iret (v := ((Fn 147) mr_19)) hx hb hr (fun t ht hW => ⟨((Fn 147) mr_19), rfl, (Or.inr (Or.inr (Or.inr (Or.inr (Or.inl (⟨mr_19, by (first | omega | (have zz0 := Hid.u hb_cn; omega)), by (first | omega | (have zz0 := Hid.u hb_cn; omega)), rfl⟩)))))), ht⟩) (fun _ h => absurd h List.not_mem_nil) dX11_count_76
        ·
          refine lv_astore_nN (lv' := [(2, .null), (0, .ref (g 0)), (1, .int (nI d0))]) hx hb dX11_count_63 rfl hl (ltb rfl) rfl (fun ls hl => ?_)
          refine lv_aload_nN hx hb dX11_count_64 rfl (lvA0 hl) ?_
          refine lv_ifnonnullN hx hb dX11_count_65 ?_
          refine lv_iconst (v := (-1)) hx hb (oc_2 68 (aq_19 shX11_count_49)) kic_m1 ?_
          refine lv_goto (tgt := 76) hx hb (oc_167 69 (aq_20 shX11_count_49) sgw_0_7) rfl ?_
          exact W.iret (v := (-1)) hx hb hr (fun t ht hW => ⟨(-1), rfl, (Or.inr (Or.inr (Or.inr (Or.inr (Or.inr (Or.inr (⟨⟨by (first | omega | (have zz0 := Hid.u hb_cn; omega)), by (first | omega | (have zz0 := Hid.u hb_cn; omega)), by (first | omega | (have zz0 := Hid.u hb_cn; omega)), by (first | omega | (have zz0 := Hid.u hb_cn; omega)), by (first | omega | (have zz0 := Hid.u hb_cn; omega)), by (first | omega | (have zz0 := Hid.u hb_cn; omega))⟩, rfl⟩))))))), ht⟩) (fun _ h => absurd h List.not_mem_nil) dX11_count_76
      ·
        have h_17 : ¬ (40 ≤ v0.toInt ∧ v0.toInt ≤ 49) := h_17
        refine lv_if_eq (tgt := 77) hx hb dX11_count_52 rfl (fun _ => ?_) (fun h => absurd h cq_eq_0_0)
        refine lv_iload_n hx hb (oc_27 77 (aq_4 shX11_count_73)) rfl (lvA1 hl) ?_
        refine lv_bipush (v := 50) hx hb (oc_16 78 (aq_5 shX11_count_73) sgb_50) kbc_50 ?_
        refine lv_icmp_ge (tgt := 87) hx hb (oc_162 80 (aq_7 shX11_count_73) sgw_0_7) rfl (fun c_21 => ?_) (fun c_21 => ?_)
        ·
          have tc_21 : (50 : Int) ≤ v0.toInt := Int32.le_iff_toInt_le.mp c_21
          obtain ⟨d0, hd0, rfl⟩ := nI_of (x := v0) (fun q => by have := Int32.lt_iff_toInt_lt.mp q; have e : (0 : Int32).toInt = 0 := rfl; (first | omega | (have zz0 := Hid.u hb_cn; omega)))
          have td0 : (nI d0).toInt = (d0 : Int) := nI_toInt hd0
          have zd0 : (nI d0).toInt.toNat = d0 := by (first | omega | (have zz0 := Hid.u hb_cn; omega))
          refine lv_aload_n hx hb (oc_42 87 (aq_14 shX11_count_73)) rfl (lvA0 hl) ?_
          refine lv_iload_n hx hb (oc_27 88 (aq_15 shX11_count_73)) rfl (lvA1 hl) ?_
          refine lv_bipush (v := 50) hx hb (oc_16 89 (aq_16 shX11_count_73) sgb_50) kbc_50 ?_
          refine lv_isub hx hb (oc_100 91 (aq_18 shX11_count_73)) ?_
          refine lv_topi (fun y_22 ey_22 => ?_)
          obtain rfl : y_22 = (nI (d0 - 50)) := ey_22.trans (nI_sub (b := 50) (by (first | omega | (have zz0 := Hid.u hb_cn; omega))))
          have t_d050 : (nI (d0 - 50)).toInt = ((d0 - 50 : Nat) : Int) := nI_toInt (by (first | omega | (have zz0 := Hid.u hb_cn; omega)))
          refine va_csq (runV_rxa (As := [.int (nI (d0 - 50))]) (rest := []) S (q_XproofAt l D cI cB cZ zz qq vv bt g ad cn In Fn (nI (d0 - 50)) hB) kV_RX11_422 hK hXS hS hP 0 xo_0 rfl rfl ⟨Nat.le_of_ble_eq_true rfl, Nat.le_of_ble_eq_true rfl⟩ ⟨Nat.le_of_ble_eq_true rfl, Nat.le_of_ble_eq_true rfl⟩ rfl hl.1 rfl (Nat.le_of_ble_eq_true rfl) (oc_182 92 (aq_19 shX11_count_73) uw_1_166)) (fun r_23 h_24 => ?_)
          rcases h_24 with ⟨mr_23, er_23, hr_23, rfl⟩ | ⟨hr_23, rfl⟩
          ·
            refine lv_astore_n (lv' := [(2, .ref (ad 13 mr_23)), (0, .ref (g 0)), (1, .int (nI d0))]) hx hb dX11_count_95 rfl hl (ltb rfl) rfl (fun ls hl => ?_)
            refine lv_aload_n hx hb dX11_count_96 rfl (lvA0 hl) ?_
            refine lv_ifnonnull (tgt := 104) hx hb dX11_count_97 rfl ?_
            refine lv_aload_n hx hb (oc_44 104 (aq_7 shX11_count_97)) rfl (lvA0 hl) ?_
            have kf_2 : mr_23 < cn 13 := by (first | omega | (have zz0 := Hid.u hb_cn; omega))
            refine gf_RX11_434 S hK hP _ (xf_3 kf_2) (v := .int ((Fn 164) mr_23)) rfl (oc_180 105 (aq_8 shX11_count_97) uw_1_178) ?_
            exact W.iret (v := ((Fn 164) mr_23)) hx hb hr (fun t ht hW => ⟨((Fn 164) mr_23), rfl, (Or.inr (Or.inr (Or.inr (Or.inr (Or.inr (Or.inl (⟨mr_23, by (first | omega | (have zz0 := Hid.u hb_cn; omega)), by (first | omega | (have zz0 := Hid.u hb_cn; omega)), rfl⟩))))))), ht⟩) (fun _ h => absurd h List.not_mem_nil) dX11_count_108
          ·
            refine lv_astore_nN (lv' := [(2, .null), (0, .ref (g 0)), (1, .int (nI d0))]) hx hb dX11_count_95 rfl hl (ltb rfl) rfl (fun ls hl => ?_)
            refine lv_aload_nN hx hb dX11_count_96 rfl (lvA0 hl) ?_
            refine lv_ifnonnullN hx hb dX11_count_97 ?_
            refine lv_iconst (v := (-1)) hx hb dX11_count_100 kic_m1 ?_
            refine lv_goto (tgt := 108) hx hb dX11_count_101 rfl ?_
            exact W.iret (v := (-1)) hx hb hr (fun t ht hW => ⟨(-1), rfl, (Or.inr (Or.inr (Or.inr (Or.inr (Or.inr (Or.inr (⟨⟨by (first | omega | (have zz0 := Hid.u hb_cn; omega)), by (first | omega | (have zz0 := Hid.u hb_cn; omega)), by (first | omega | (have zz0 := Hid.u hb_cn; omega)), by (first | omega | (have zz0 := Hid.u hb_cn; omega)), by (first | omega | (have zz0 := Hid.u hb_cn; omega)), by (first | omega | (have zz0 := Hid.u hb_cn; omega))⟩, rfl⟩))))))), ht⟩) (fun _ h => absurd h List.not_mem_nil) dX11_count_108
        ·
          have tc_21 : (v0.toInt : Int) < 50 := Int32.lt_iff_toInt_lt.mp (Int32.not_le.mp c_21)
          refine lv_null hx hb (oc_1 83 (aq_10 shX11_count_73)) ?_
          refine lv_goto (tgt := 95) hx hb (oc_167 84 (aq_11 shX11_count_73) sgw_0_11) rfl ?_
          refine lv_astore_nN (lv' := [(2, .null), (0, .ref (g 0)), (1, .int v0)]) hx hb dX11_count_95 rfl hl (ltb rfl) rfl (fun ls hl => ?_)
          refine lv_aload_nN hx hb dX11_count_96 rfl (lvA0 hl) ?_
          refine lv_ifnonnullN hx hb dX11_count_97 ?_
          refine lv_iconst (v := (-1)) hx hb dX11_count_100 kic_m1 ?_
          refine lv_goto (tgt := 108) hx hb dX11_count_101 rfl ?_
          exact W.iret (v := (-1)) hx hb hr (fun t ht hW => ⟨(-1), rfl, (Or.inr (Or.inr (Or.inr (Or.inr (Or.inr (Or.inr (⟨⟨by (first | omega | (have zz0 := Hid.u hb_cn; omega)), by (first | omega | (have zz0 := Hid.u hb_cn; omega)), by (first | omega | (have zz0 := Hid.u hb_cn; omega)), by (first | omega | (have zz0 := Hid.u hb_cn; omega)), by (first | omega | (have zz0 := Hid.u hb_cn; omega)), by (first | omega | (have zz0 := Hid.u hb_cn; omega))⟩, rfl⟩))))))), ht⟩) (fun _ h => absurd h List.not_mem_nil) dX11_count_108
set_option maxRecDepth 100000 in
set_option maxHeartbeats 4000000 in
theorem q_count9 (l : Launch) (D : va_G) (cI cB cZ : ClassId) (g : Nat → Nat) (cn : Nat → Nat) (In : Nat → Int32) (Fn : Nat → Nat → Int32) (v0 : Int32) (hI : IM cn Fn) : Met l yX12_count (CWS yX12_count cX12_count 2 (some .int)) (RM 1 0 0) (PBr [.ref (g 100), .int v0] D cI cB cZ (wM cI cB cZ g cn In Fn)) (vp_Si (fun r => CNQ ([(nI (cn 0)), (nI (cn 1)), (nI (cn 2)), (nI (cn 18)), (Fn 33 10), (nI (cn 62)), (nI (cn 63)), (nI (cn 83)), (nI (cn 46)), (nI (cn 57))] : List Int32) (cn 1) (cn 62) (cn 63) (Fn 33) (Fn 7) (Fn 40) (Fn 65) (Fn 66) v0 r)) 0 0 (fun _ => False) := by
  refine en_r rfl pn_RX12 (Nat.le_of_ble_eq_true rfl) (fun p e s m below meth c hx hb hml hown S hr hlocks hnm hP hK hS ls hl => ?_)
  have hl : lv_has ls 2 [(0, .ref (g 100)), (1, .int v0)] := hl
  have hi_cn : Hid (CB cn) := hI.b
  refine lv_iload_n hx hb (oc_27 0 shX12_count_0) rfl (lvA1 hl) ?_
  rcases (by (first | omega | (have zz0 := Hid.u hi_cn; omega)) : v0.toInt < 0 ∨ 9 < v0.toInt ∨ v0.toInt = 0 ∨ v0.toInt = 1 ∨ v0.toInt = 2 ∨ v0.toInt = 3 ∨ v0.toInt = 4 ∨ v0.toInt = 5 ∨ v0.toInt = 6 ∨ v0.toInt = 7 ∨ v0.toInt = 8 ∨ v0.toInt = 9) with c_1 | c_1 | c_1 | c_1 | c_1 | c_1 | c_1 | c_1 | c_1 | c_1 | c_1 | c_1
  ·
    refine lv_tableOut (tgt := 109) hx hb dX12_count_1 (Or.inl c_1) (by decide) ?_
    refine lv_iload_n hx hb dX12_count_109 rfl (lvA1 hl) ?_
    refine lv_bipush (v := 10) hx hb dX12_count_110 kbc_10 ?_
    refine lv_bipush (v := 9) hx hb dX12_count_112 kbc_9 ?_
    refine lv_aload_n hx hb dX12_count_114 rfl (lvA0 hl) ?_
    refine gM_204 S hK hP (v := .int (nI (cn 1))) rfl dX12_count_115 ?_
    refine lv_iadd hx hb dX12_count_118 ?_
    refine lv_topi (fun y_2 ey_2 => ?_)
    obtain rfl : y_2 = (nI (9 + (cn 1))) := ey_2.trans (nI_add 9 (cn 1))
    refine vp_callSi (runS_r (As := [.int v0, .int 10, .int (nI (9 + (cn 1)))]) (rest := []) S (q_in l D cI cB cZ v0 10 (nI (9 + (cn 1))) ) kS_RX12_214 hK hP [] rfl ⟨Nat.le_of_ble_eq_true rfl, Nat.le_of_ble_eq_true rfl⟩ ⟨Nat.le_of_ble_eq_true rfl, Nat.le_of_ble_eq_true rfl⟩ rfl hl.1 rfl (Nat.le_of_ble_eq_true rfl) dX12_count_119) (fun r_3 h_4 => ?_)
    have : (nI (9 + (cn 1))).toInt = (((9 + (cn 1)) : Nat) : Int) := nI_toInt (by (first | omega | (have zz0 := Hid.u hi_cn; omega)))
    rcases h_4 with ⟨rfl, h_4⟩ | ⟨rfl, h_4⟩
    ·
      have h_4 : 10 ≤ v0.toInt ∧ v0.toInt ≤ (nI (9 + (cn 1))).toInt := h_4
      refine lv_if_eq (tgt := 135) hx hb dX12_count_122 rfl (fun h => absurd h cq_eq_1_0) (fun _ => ?_)
      obtain ⟨d0, hd0, rfl⟩ := nI_of (x := v0) (fun q => by have := Int32.lt_iff_toInt_lt.mp q; have e : (0 : Int32).toInt = 0 := rfl; (first | omega | (have zz0 := Hid.u hi_cn; omega)))
      have td0 : (nI d0).toInt = (d0 : Int) := nI_toInt hd0
      have zd0 : (nI d0).toInt.toNat = d0 := by (first | omega | (have zz0 := Hid.u hi_cn; omega))
      refine lv_aload_n hx hb dX12_count_125 rfl (lvA0 hl) ?_
      refine gM_74 S hK hP (v := .ref (g 33)) rfl dX12_count_126 ?_
      refine lv_iload_n hx hb dX12_count_129 rfl (lvA1 hl) ?_
      refine lv_bipush (v := 10) hx hb dX12_count_130 kbc_10 ?_
      refine lv_isub hx hb dX12_count_132 ?_
      refine lv_topi (fun y_5 ey_5 => ?_)
      obtain rfl : y_5 = (nI (d0 - 10)) := ey_5.trans (nI_sub (b := 10) (by (first | omega | (have zz0 := Hid.u hi_cn; omega))))
      have kb_1 : (d0 - 10) < 11 := by (first | omega | (have zz0 := Hid.u hi_cn; omega))
      refine ldM_33 hx hb hK hP (x := ((Fn 33) (d0 - 10))) (vp_in_nI kb_1 (ltb rfl)) (nI_clamp (Nat.lt_trans kb_1 (ltb rfl))) rfl dX12_count_133 ?_
      exact W.iret (v := ((Fn 33) (d0 - 10))) hx hb hr (fun t ht hW => ⟨((Fn 33) (d0 - 10)), rfl, (Or.inr (Or.inl (⟨d0 - 10, by (first | omega | (have zz0 := Hid.u hi_cn; omega)), by (first | omega | (have zz0 := Hid.u hi_cn; omega)), rfl⟩))), ht⟩) (fun _ h => absurd h List.not_mem_nil) dX12_count_134
    ·
      have h_4 : ¬ (10 ≤ v0.toInt ∧ v0.toInt ≤ (nI (9 + (cn 1))).toInt) := h_4
      refine lv_if_eq (tgt := 135) hx hb dX12_count_122 rfl (fun _ => ?_) (fun h => absurd h cq_eq_0_0)
      refine lv_iload_n hx hb dX12_count_135 rfl (lvA1 hl) ?_
      refine lv_bipush (v := 20) hx hb dX12_count_136 kbc_20 ?_
      refine lv_bipush (v := 19) hx hb dX12_count_138 kbc_19 ?_
      refine lv_aload_n hx hb dX12_count_140 rfl (lvA0 hl) ?_
      refine gM_204 S hK hP (v := .int (nI (cn 1))) rfl dX12_count_141 ?_
      refine lv_iadd hx hb dX12_count_144 ?_
      refine lv_topi (fun y_6 ey_6 => ?_)
      obtain rfl : y_6 = (nI (19 + (cn 1))) := ey_6.trans (nI_add 19 (cn 1))
      refine vp_callSi (runS_r (As := [.int v0, .int 20, .int (nI (19 + (cn 1)))]) (rest := []) S (q_in l D cI cB cZ v0 20 (nI (19 + (cn 1))) ) kS_RX12_214 hK hP [] rfl ⟨Nat.le_of_ble_eq_true rfl, Nat.le_of_ble_eq_true rfl⟩ ⟨Nat.le_of_ble_eq_true rfl, Nat.le_of_ble_eq_true rfl⟩ rfl hl.1 rfl (Nat.le_of_ble_eq_true rfl) dX12_count_145) (fun r_7 h_8 => ?_)
      have : (nI (19 + (cn 1))).toInt = (((19 + (cn 1)) : Nat) : Int) := nI_toInt (by (first | omega | (have zz0 := Hid.u hi_cn; omega)))
      rcases h_8 with ⟨rfl, h_8⟩ | ⟨rfl, h_8⟩
      ·
        have h_8 : 20 ≤ v0.toInt ∧ v0.toInt ≤ (nI (19 + (cn 1))).toInt := h_8
        refine lv_if_eq (tgt := 161) hx hb dX12_count_148 rfl (fun h => absurd h cq_eq_1_0) (fun _ => ?_)
        obtain ⟨d0, hd0, rfl⟩ := nI_of (x := v0) (fun q => by have := Int32.lt_iff_toInt_lt.mp q; have e : (0 : Int32).toInt = 0 := rfl; (first | omega | (have zz0 := Hid.u hi_cn; omega)))
        have td0 : (nI d0).toInt = (d0 : Int) := nI_toInt hd0
        have zd0 : (nI d0).toInt.toNat = d0 := by (first | omega | (have zz0 := Hid.u hi_cn; omega))
        refine lv_aload_n hx hb dX12_count_151 rfl (lvA0 hl) ?_
        refine gM_22 S hK hP (v := .ref (g 7)) rfl dX12_count_152 ?_
        refine lv_iload_n hx hb dX12_count_155 rfl (lvA1 hl) ?_
        refine lv_bipush (v := 20) hx hb dX12_count_156 kbc_20 ?_
        refine lv_isub hx hb dX12_count_158 ?_
        refine lv_topi (fun y_9 ey_9 => ?_)
        obtain rfl : y_9 = (nI (d0 - 20)) := ey_9.trans (nI_sub (b := 20) (by (first | omega | (have zz0 := Hid.u hi_cn; omega))))
        have kb_2 : (d0 - 20) < 10 := by (first | omega | (have zz0 := Hid.u hi_cn; omega))
        have b_10 := hI.e7 (d0 - 20) (by (first | omega | (have zz0 := Hid.u hi_cn; omega)))
        refine ldM_7 hx hb hK hP (x := ((Fn 7) (d0 - 20))) (vp_in_nI kb_2 (ltb rfl)) (nI_clamp (Nat.lt_trans kb_2 (ltb rfl))) rfl dX12_count_159 ?_
        exact W.iret (v := ((Fn 7) (d0 - 20))) hx hb hr (fun t ht hW => ⟨((Fn 7) (d0 - 20)), rfl, (Or.inr (Or.inr (Or.inl (⟨d0 - 20, by (first | omega | (have zz0 := Hid.u hi_cn; omega)), by (first | omega | (have zz0 := Hid.u hi_cn; omega)), rfl⟩)))), ht⟩) (fun _ h => absurd h List.not_mem_nil) dX12_count_160
      ·
        have h_8 : ¬ (20 ≤ v0.toInt ∧ v0.toInt ≤ (nI (19 + (cn 1))).toInt) := h_8
        refine lv_if_eq (tgt := 161) hx hb dX12_count_148 rfl (fun _ => ?_) (fun h => absurd h cq_eq_0_0)
        refine lv_iload_n hx hb dX12_count_161 rfl (lvA1 hl) ?_
        refine lv_bipush (v := 30) hx hb dX12_count_162 kbc_30 ?_
        refine lv_bipush (v := 29) hx hb dX12_count_164 kbc_29 ?_
        refine lv_aload_n hx hb dX12_count_166 rfl (lvA0 hl) ?_
        refine gM_204 S hK hP (v := .int (nI (cn 1))) rfl dX12_count_167 ?_
        refine lv_iadd hx hb dX12_count_170 ?_
        refine lv_topi (fun y_11 ey_11 => ?_)
        obtain rfl : y_11 = (nI (29 + (cn 1))) := ey_11.trans (nI_add 29 (cn 1))
        refine vp_callSi (runS_r (As := [.int v0, .int 30, .int (nI (29 + (cn 1)))]) (rest := []) S (q_in l D cI cB cZ v0 30 (nI (29 + (cn 1))) ) kS_RX12_214 hK hP [] rfl ⟨Nat.le_of_ble_eq_true rfl, Nat.le_of_ble_eq_true rfl⟩ ⟨Nat.le_of_ble_eq_true rfl, Nat.le_of_ble_eq_true rfl⟩ rfl hl.1 rfl (Nat.le_of_ble_eq_true rfl) dX12_count_171) (fun r_12 h_13 => ?_)
        have : (nI (29 + (cn 1))).toInt = (((29 + (cn 1)) : Nat) : Int) := nI_toInt (by (first | omega | (have zz0 := Hid.u hi_cn; omega)))
        rcases h_13 with ⟨rfl, h_13⟩ | ⟨rfl, h_13⟩
        ·
          have h_13 : 30 ≤ v0.toInt ∧ v0.toInt ≤ (nI (29 + (cn 1))).toInt := h_13
          refine lv_if_eq (tgt := 187) hx hb dX12_count_174 rfl (fun h => absurd h cq_eq_1_0) (fun _ => ?_)
          obtain ⟨d0, hd0, rfl⟩ := nI_of (x := v0) (fun q => by have := Int32.lt_iff_toInt_lt.mp q; have e : (0 : Int32).toInt = 0 := rfl; (first | omega | (have zz0 := Hid.u hi_cn; omega)))
          have td0 : (nI d0).toInt = (d0 : Int) := nI_toInt hd0
          have zd0 : (nI d0).toInt.toNat = d0 := by (first | omega | (have zz0 := Hid.u hi_cn; omega))
          refine lv_aload_n hx hb dX12_count_177 rfl (lvA0 hl) ?_
          refine gM_95 S hK hP (v := .ref (g 40)) rfl dX12_count_178 ?_
          refine lv_iload_n hx hb dX12_count_181 rfl (lvA1 hl) ?_
          refine lv_bipush (v := 30) hx hb dX12_count_182 kbc_30 ?_
          refine lv_isub hx hb dX12_count_184 ?_
          refine lv_topi (fun y_14 ey_14 => ?_)
          obtain rfl : y_14 = (nI (d0 - 30)) := ey_14.trans (nI_sub (b := 30) (by (first | omega | (have zz0 := Hid.u hi_cn; omega))))
          have kb_3 : (d0 - 30) < 10 := by (first | omega | (have zz0 := Hid.u hi_cn; omega))
          refine ldM_40 hx hb hK hP (x := ((Fn 40) (d0 - 30))) (vp_in_nI kb_3 (ltb rfl)) (nI_clamp (Nat.lt_trans kb_3 (ltb rfl))) rfl dX12_count_185 ?_
          exact W.iret (v := ((Fn 40) (d0 - 30))) hx hb hr (fun t ht hW => ⟨((Fn 40) (d0 - 30)), rfl, (Or.inr (Or.inr (Or.inr (Or.inl (⟨d0 - 30, by (first | omega | (have zz0 := Hid.u hi_cn; omega)), by (first | omega | (have zz0 := Hid.u hi_cn; omega)), rfl⟩))))), ht⟩) (fun _ h => absurd h List.not_mem_nil) dX12_count_186
        ·
          have h_13 : ¬ (30 ≤ v0.toInt ∧ v0.toInt ≤ (nI (29 + (cn 1))).toInt) := h_13
          refine lv_if_eq (tgt := 187) hx hb dX12_count_174 rfl (fun _ => ?_) (fun h => absurd h cq_eq_0_0)
          refine lv_iload_n hx hb dX12_count_187 rfl (lvA1 hl) ?_
          refine lv_bipush (v := 40) hx hb dX12_count_188 kbc_40 ?_
          refine lv_bipush (v := 39) hx hb dX12_count_190 kbc_39 ?_
          refine lv_aload_n hx hb dX12_count_192 rfl (lvA0 hl) ?_
          refine gM_435 S hK hP (v := .int (nI (cn 62))) rfl dX12_count_193 ?_
          refine lv_iadd hx hb dX12_count_196 ?_
          refine lv_topi (fun y_15 ey_15 => ?_)
          obtain rfl : y_15 = (nI (39 + (cn 62))) := ey_15.trans (nI_add 39 (cn 62))
          refine vp_callSi (runS_r (As := [.int v0, .int 40, .int (nI (39 + (cn 62)))]) (rest := []) S (q_in l D cI cB cZ v0 40 (nI (39 + (cn 62))) ) kS_RX12_214 hK hP [] rfl ⟨Nat.le_of_ble_eq_true rfl, Nat.le_of_ble_eq_true rfl⟩ ⟨Nat.le_of_ble_eq_true rfl, Nat.le_of_ble_eq_true rfl⟩ rfl hl.1 rfl (Nat.le_of_ble_eq_true rfl) dX12_count_197) (fun r_16 h_17 => ?_)
          have : (nI (39 + (cn 62))).toInt = (((39 + (cn 62)) : Nat) : Int) := nI_toInt (by (first | omega | (have zz0 := Hid.u hi_cn; omega)))
          rcases h_17 with ⟨rfl, h_17⟩ | ⟨rfl, h_17⟩
          ·
            have h_17 : 40 ≤ v0.toInt ∧ v0.toInt ≤ (nI (39 + (cn 62))).toInt := h_17
            refine lv_if_eq (tgt := 213) hx hb dX12_count_200 rfl (fun h => absurd h cq_eq_1_0) (fun _ => ?_)
            obtain ⟨d0, hd0, rfl⟩ := nI_of (x := v0) (fun q => by have := Int32.lt_iff_toInt_lt.mp q; have e : (0 : Int32).toInt = 0 := rfl; (first | omega | (have zz0 := Hid.u hi_cn; omega)))
            have td0 : (nI d0).toInt = (d0 : Int) := nI_toInt hd0
            have zd0 : (nI d0).toInt.toNat = d0 := by (first | omega | (have zz0 := Hid.u hi_cn; omega))
            refine lv_aload_n hx hb dX12_count_203 rfl (lvA0 hl) ?_
            refine gM_141 S hK hP (v := .ref (g 65)) rfl dX12_count_204 ?_
            refine lv_iload_n hx hb dX12_count_207 rfl (lvA1 hl) ?_
            refine lv_bipush (v := 40) hx hb dX12_count_208 kbc_40 ?_
            refine lv_isub hx hb dX12_count_210 ?_
            refine lv_topi (fun y_18 ey_18 => ?_)
            obtain rfl : y_18 = (nI (d0 - 40)) := ey_18.trans (nI_sub (b := 40) (by (first | omega | (have zz0 := Hid.u hi_cn; omega))))
            have kb_4 : (d0 - 40) < 10 := by (first | omega | (have zz0 := Hid.u hi_cn; omega))
            refine ldM_65 hx hb hK hP (x := ((Fn 65) (d0 - 40))) (vp_in_nI kb_4 (ltb rfl)) (nI_clamp (Nat.lt_trans kb_4 (ltb rfl))) rfl dX12_count_211 ?_
            exact W.iret (v := ((Fn 65) (d0 - 40))) hx hb hr (fun t ht hW => ⟨((Fn 65) (d0 - 40)), rfl, (Or.inr (Or.inr (Or.inr (Or.inr (Or.inl (⟨d0 - 40, by (first | omega | (have zz0 := Hid.u hi_cn; omega)), by (first | omega | (have zz0 := Hid.u hi_cn; omega)), rfl⟩)))))), ht⟩) (fun _ h => absurd h List.not_mem_nil) dX12_count_212
          ·
            have h_17 : ¬ (40 ≤ v0.toInt ∧ v0.toInt ≤ (nI (39 + (cn 62))).toInt) := h_17
            refine lv_if_eq (tgt := 213) hx hb dX12_count_200 rfl (fun _ => ?_) (fun h => absurd h cq_eq_0_0)
            refine lv_iload_n hx hb dX12_count_213 rfl (lvA1 hl) ?_
            refine lv_bipush (v := 50) hx hb dX12_count_214 kbc_50 ?_
            refine lv_bipush (v := 49) hx hb dX12_count_216 kbc_49 ?_
            refine lv_aload_n hx hb dX12_count_218 rfl (lvA0 hl) ?_
            refine gM_447 S hK hP (v := .int (nI (cn 63))) rfl dX12_count_219 ?_
            refine lv_iadd hx hb dX12_count_222 ?_
            refine lv_topi (fun y_19 ey_19 => ?_)
            obtain rfl : y_19 = (nI (49 + (cn 63))) := ey_19.trans (nI_add 49 (cn 63))
            refine vp_callSi (runS_r (As := [.int v0, .int 50, .int (nI (49 + (cn 63)))]) (rest := []) S (q_in l D cI cB cZ v0 50 (nI (49 + (cn 63))) ) kS_RX12_214 hK hP [] rfl ⟨Nat.le_of_ble_eq_true rfl, Nat.le_of_ble_eq_true rfl⟩ ⟨Nat.le_of_ble_eq_true rfl, Nat.le_of_ble_eq_true rfl⟩ rfl hl.1 rfl (Nat.le_of_ble_eq_true rfl) dX12_count_223) (fun r_20 h_21 => ?_)
            have : (nI (49 + (cn 63))).toInt = (((49 + (cn 63)) : Nat) : Int) := nI_toInt (by (first | omega | (have zz0 := Hid.u hi_cn; omega)))
            rcases h_21 with ⟨rfl, h_21⟩ | ⟨rfl, h_21⟩
            ·
              have h_21 : 50 ≤ v0.toInt ∧ v0.toInt ≤ (nI (49 + (cn 63))).toInt := h_21
              refine lv_if_eq (tgt := 241) hx hb dX12_count_226 rfl (fun h => absurd h cq_eq_1_0) (fun _ => ?_)
              obtain ⟨d0, hd0, rfl⟩ := nI_of (x := v0) (fun q => by have := Int32.lt_iff_toInt_lt.mp q; have e : (0 : Int32).toInt = 0 := rfl; (first | omega | (have zz0 := Hid.u hi_cn; omega)))
              have td0 : (nI d0).toInt = (d0 : Int) := nI_toInt hd0
              have zd0 : (nI d0).toInt.toNat = d0 := by (first | omega | (have zz0 := Hid.u hi_cn; omega))
              refine lv_aload_n hx hb dX12_count_229 rfl (lvA0 hl) ?_
              refine gM_144 S hK hP (v := .ref (g 66)) rfl dX12_count_230 ?_
              refine lv_iload_n hx hb dX12_count_233 rfl (lvA1 hl) ?_
              refine lv_bipush (v := 50) hx hb dX12_count_234 kbc_50 ?_
              refine lv_isub hx hb dX12_count_236 ?_
              refine lv_topi (fun y_22 ey_22 => ?_)
              obtain rfl : y_22 = (nI (d0 - 50)) := ey_22.trans (nI_sub (b := 50) (by (first | omega | (have zz0 := Hid.u hi_cn; omega))))
              have kb_5 : (d0 - 50) < 40 := by (first | omega | (have zz0 := Hid.u hi_cn; omega))
              refine ldM_66 hx hb hK hP (x := ((Fn 66) (d0 - 50))) (vp_in_nI kb_5 (ltb rfl)) (nI_clamp (Nat.lt_trans kb_5 (ltb rfl))) rfl dX12_count_237 ?_
              refine lv_goto (tgt := 242) hx hb dX12_count_238 rfl ?_
              exact W.iret (v := ((Fn 66) (d0 - 50))) hx hb hr (fun t ht hW => ⟨((Fn 66) (d0 - 50)), rfl, (Or.inr (Or.inr (Or.inr (Or.inr (Or.inr (Or.inl (⟨d0 - 50, by (first | omega | (have zz0 := Hid.u hi_cn; omega)), by (first | omega | (have zz0 := Hid.u hi_cn; omega)), rfl⟩))))))), ht⟩) (fun _ h => absurd h List.not_mem_nil) dX12_count_242
            ·
              have h_21 : ¬ (50 ≤ v0.toInt ∧ v0.toInt ≤ (nI (49 + (cn 63))).toInt) := h_21
              refine lv_if_eq (tgt := 241) hx hb dX12_count_226 rfl (fun _ => ?_) (fun h => absurd h cq_eq_0_0)
              refine lv_iconst (v := (-1)) hx hb dX12_count_241 kic_m1 ?_
              exact W.iret (v := (-1)) hx hb hr (fun t ht hW => ⟨(-1), rfl, (Or.inr (Or.inr (Or.inr (Or.inr (Or.inr (Or.inr (⟨⟨by (first | omega | (have zz0 := Hid.u hi_cn; omega)), by (first | omega | (have zz0 := Hid.u hi_cn; omega)), by (first | omega | (have zz0 := Hid.u hi_cn; omega)), by (first | omega | (have zz0 := Hid.u hi_cn; omega)), by (first | omega | (have zz0 := Hid.u hi_cn; omega)), by (first | omega | (have zz0 := Hid.u hi_cn; omega))⟩, rfl⟩))))))), ht⟩) (fun _ h => absurd h List.not_mem_nil) dX12_count_242
  ·
    refine lv_tableOut (tgt := 109) hx hb dX12_count_1 (Or.inr c_1) (by decide) ?_
    refine lv_iload_n hx hb dX12_count_109 rfl (lvA1 hl) ?_
    refine lv_bipush (v := 10) hx hb dX12_count_110 kbc_10 ?_
    refine lv_bipush (v := 9) hx hb dX12_count_112 kbc_9 ?_
    refine lv_aload_n hx hb dX12_count_114 rfl (lvA0 hl) ?_
    refine gM_204 S hK hP (v := .int (nI (cn 1))) rfl dX12_count_115 ?_
    refine lv_iadd hx hb dX12_count_118 ?_
    refine lv_topi (fun y_23 ey_23 => ?_)
    obtain rfl : y_23 = (nI (9 + (cn 1))) := ey_23.trans (nI_add 9 (cn 1))
    refine vp_callSi (runS_r (As := [.int v0, .int 10, .int (nI (9 + (cn 1)))]) (rest := []) S (q_in l D cI cB cZ v0 10 (nI (9 + (cn 1))) ) kS_RX12_214 hK hP [] rfl ⟨Nat.le_of_ble_eq_true rfl, Nat.le_of_ble_eq_true rfl⟩ ⟨Nat.le_of_ble_eq_true rfl, Nat.le_of_ble_eq_true rfl⟩ rfl hl.1 rfl (Nat.le_of_ble_eq_true rfl) dX12_count_119) (fun r_24 h_25 => ?_)
    have : (nI (9 + (cn 1))).toInt = (((9 + (cn 1)) : Nat) : Int) := nI_toInt (by (first | omega | (have zz0 := Hid.u hi_cn; omega)))
    rcases h_25 with ⟨rfl, h_25⟩ | ⟨rfl, h_25⟩
    ·
      have h_25 : 10 ≤ v0.toInt ∧ v0.toInt ≤ (nI (9 + (cn 1))).toInt := h_25
      refine lv_if_eq (tgt := 135) hx hb dX12_count_122 rfl (fun h => absurd h cq_eq_1_0) (fun _ => ?_)
      obtain ⟨d0, hd0, rfl⟩ := nI_of (x := v0) (fun q => by have := Int32.lt_iff_toInt_lt.mp q; have e : (0 : Int32).toInt = 0 := rfl; (first | omega | (have zz0 := Hid.u hi_cn; omega)))
      have td0 : (nI d0).toInt = (d0 : Int) := nI_toInt hd0
      have zd0 : (nI d0).toInt.toNat = d0 := by (first | omega | (have zz0 := Hid.u hi_cn; omega))
      refine lv_aload_n hx hb dX12_count_125 rfl (lvA0 hl) ?_
      refine gM_74 S hK hP (v := .ref (g 33)) rfl dX12_count_126 ?_
      refine lv_iload_n hx hb dX12_count_129 rfl (lvA1 hl) ?_
      refine lv_bipush (v := 10) hx hb dX12_count_130 kbc_10 ?_
      refine lv_isub hx hb dX12_count_132 ?_
      refine lv_topi (fun y_26 ey_26 => ?_)
      obtain rfl : y_26 = (nI (d0 - 10)) := ey_26.trans (nI_sub (b := 10) (by (first | omega | (have zz0 := Hid.u hi_cn; omega))))
      have kb_6 : (d0 - 10) < 11 := by (first | omega | (have zz0 := Hid.u hi_cn; omega))
      refine ldM_33 hx hb hK hP (x := ((Fn 33) (d0 - 10))) (vp_in_nI kb_6 (ltb rfl)) (nI_clamp (Nat.lt_trans kb_6 (ltb rfl))) rfl dX12_count_133 ?_
      exact W.iret (v := ((Fn 33) (d0 - 10))) hx hb hr (fun t ht hW => ⟨((Fn 33) (d0 - 10)), rfl, (Or.inr (Or.inl (⟨d0 - 10, by (first | omega | (have zz0 := Hid.u hi_cn; omega)), by (first | omega | (have zz0 := Hid.u hi_cn; omega)), rfl⟩))), ht⟩) (fun _ h => absurd h List.not_mem_nil) dX12_count_134
    ·
      have h_25 : ¬ (10 ≤ v0.toInt ∧ v0.toInt ≤ (nI (9 + (cn 1))).toInt) := h_25
      refine lv_if_eq (tgt := 135) hx hb dX12_count_122 rfl (fun _ => ?_) (fun h => absurd h cq_eq_0_0)
      refine lv_iload_n hx hb dX12_count_135 rfl (lvA1 hl) ?_
      refine lv_bipush (v := 20) hx hb dX12_count_136 kbc_20 ?_
      refine lv_bipush (v := 19) hx hb dX12_count_138 kbc_19 ?_
      refine lv_aload_n hx hb dX12_count_140 rfl (lvA0 hl) ?_
      refine gM_204 S hK hP (v := .int (nI (cn 1))) rfl dX12_count_141 ?_
      refine lv_iadd hx hb dX12_count_144 ?_
      refine lv_topi (fun y_27 ey_27 => ?_)
      obtain rfl : y_27 = (nI (19 + (cn 1))) := ey_27.trans (nI_add 19 (cn 1))
      refine vp_callSi (runS_r (As := [.int v0, .int 20, .int (nI (19 + (cn 1)))]) (rest := []) S (q_in l D cI cB cZ v0 20 (nI (19 + (cn 1))) ) kS_RX12_214 hK hP [] rfl ⟨Nat.le_of_ble_eq_true rfl, Nat.le_of_ble_eq_true rfl⟩ ⟨Nat.le_of_ble_eq_true rfl, Nat.le_of_ble_eq_true rfl⟩ rfl hl.1 rfl (Nat.le_of_ble_eq_true rfl) dX12_count_145) (fun r_28 h_29 => ?_)
      have : (nI (19 + (cn 1))).toInt = (((19 + (cn 1)) : Nat) : Int) := nI_toInt (by (first | omega | (have zz0 := Hid.u hi_cn; omega)))
      rcases h_29 with ⟨rfl, h_29⟩ | ⟨rfl, h_29⟩
      ·
        have h_29 : 20 ≤ v0.toInt ∧ v0.toInt ≤ (nI (19 + (cn 1))).toInt := h_29
        refine lv_if_eq (tgt := 161) hx hb dX12_count_148 rfl (fun h => absurd h cq_eq_1_0) (fun _ => ?_)
        obtain ⟨d0, hd0, rfl⟩ := nI_of (x := v0) (fun q => by have := Int32.lt_iff_toInt_lt.mp q; have e : (0 : Int32).toInt = 0 := rfl; (first | omega | (have zz0 := Hid.u hi_cn; omega)))
        have td0 : (nI d0).toInt = (d0 : Int) := nI_toInt hd0
        have zd0 : (nI d0).toInt.toNat = d0 := by (first | omega | (have zz0 := Hid.u hi_cn; omega))
        refine lv_aload_n hx hb dX12_count_151 rfl (lvA0 hl) ?_
        refine gM_22 S hK hP (v := .ref (g 7)) rfl dX12_count_152 ?_
        refine lv_iload_n hx hb dX12_count_155 rfl (lvA1 hl) ?_
        refine lv_bipush (v := 20) hx hb dX12_count_156 kbc_20 ?_
        refine lv_isub hx hb dX12_count_158 ?_
        refine lv_topi (fun y_30 ey_30 => ?_)
        obtain rfl : y_30 = (nI (d0 - 20)) := ey_30.trans (nI_sub (b := 20) (by (first | omega | (have zz0 := Hid.u hi_cn; omega))))
        have kb_7 : (d0 - 20) < 10 := by (first | omega | (have zz0 := Hid.u hi_cn; omega))
        have b_31 := hI.e7 (d0 - 20) (by (first | omega | (have zz0 := Hid.u hi_cn; omega)))
        refine ldM_7 hx hb hK hP (x := ((Fn 7) (d0 - 20))) (vp_in_nI kb_7 (ltb rfl)) (nI_clamp (Nat.lt_trans kb_7 (ltb rfl))) rfl dX12_count_159 ?_
        exact W.iret (v := ((Fn 7) (d0 - 20))) hx hb hr (fun t ht hW => ⟨((Fn 7) (d0 - 20)), rfl, (Or.inr (Or.inr (Or.inl (⟨d0 - 20, by (first | omega | (have zz0 := Hid.u hi_cn; omega)), by (first | omega | (have zz0 := Hid.u hi_cn; omega)), rfl⟩)))), ht⟩) (fun _ h => absurd h List.not_mem_nil) dX12_count_160
      ·
        have h_29 : ¬ (20 ≤ v0.toInt ∧ v0.toInt ≤ (nI (19 + (cn 1))).toInt) := h_29
        refine lv_if_eq (tgt := 161) hx hb dX12_count_148 rfl (fun _ => ?_) (fun h => absurd h cq_eq_0_0)
        refine lv_iload_n hx hb dX12_count_161 rfl (lvA1 hl) ?_
        refine lv_bipush (v := 30) hx hb dX12_count_162 kbc_30 ?_
        refine lv_bipush (v := 29) hx hb dX12_count_164 kbc_29 ?_
        refine lv_aload_n hx hb dX12_count_166 rfl (lvA0 hl) ?_
        refine gM_204 S hK hP (v := .int (nI (cn 1))) rfl dX12_count_167 ?_
        refine lv_iadd hx hb dX12_count_170 ?_
        refine lv_topi (fun y_32 ey_32 => ?_)
        obtain rfl : y_32 = (nI (29 + (cn 1))) := ey_32.trans (nI_add 29 (cn 1))
        refine vp_callSi (runS_r (As := [.int v0, .int 30, .int (nI (29 + (cn 1)))]) (rest := []) S (q_in l D cI cB cZ v0 30 (nI (29 + (cn 1))) ) kS_RX12_214 hK hP [] rfl ⟨Nat.le_of_ble_eq_true rfl, Nat.le_of_ble_eq_true rfl⟩ ⟨Nat.le_of_ble_eq_true rfl, Nat.le_of_ble_eq_true rfl⟩ rfl hl.1 rfl (Nat.le_of_ble_eq_true rfl) dX12_count_171) (fun r_33 h_34 => ?_)
        have : (nI (29 + (cn 1))).toInt = (((29 + (cn 1)) : Nat) : Int) := nI_toInt (by (first | omega | (have zz0 := Hid.u hi_cn; omega)))
        rcases h_34 with ⟨rfl, h_34⟩ | ⟨rfl, h_34⟩
        ·
          have h_34 : 30 ≤ v0.toInt ∧ v0.toInt ≤ (nI (29 + (cn 1))).toInt := h_34
          refine lv_if_eq (tgt := 187) hx hb dX12_count_174 rfl (fun h => absurd h cq_eq_1_0) (fun _ => ?_)
          obtain ⟨d0, hd0, rfl⟩ := nI_of (x := v0) (fun q => by have := Int32.lt_iff_toInt_lt.mp q; have e : (0 : Int32).toInt = 0 := rfl; (first | omega | (have zz0 := Hid.u hi_cn; omega)))
          have td0 : (nI d0).toInt = (d0 : Int) := nI_toInt hd0
          have zd0 : (nI d0).toInt.toNat = d0 := by (first | omega | (have zz0 := Hid.u hi_cn; omega))
          refine lv_aload_n hx hb dX12_count_177 rfl (lvA0 hl) ?_
          refine gM_95 S hK hP (v := .ref (g 40)) rfl dX12_count_178 ?_
          refine lv_iload_n hx hb dX12_count_181 rfl (lvA1 hl) ?_
          refine lv_bipush (v := 30) hx hb dX12_count_182 kbc_30 ?_
          refine lv_isub hx hb dX12_count_184 ?_
          refine lv_topi (fun y_35 ey_35 => ?_)
          obtain rfl : y_35 = (nI (d0 - 30)) := ey_35.trans (nI_sub (b := 30) (by (first | omega | (have zz0 := Hid.u hi_cn; omega))))
          have kb_8 : (d0 - 30) < 10 := by (first | omega | (have zz0 := Hid.u hi_cn; omega))
          refine ldM_40 hx hb hK hP (x := ((Fn 40) (d0 - 30))) (vp_in_nI kb_8 (ltb rfl)) (nI_clamp (Nat.lt_trans kb_8 (ltb rfl))) rfl dX12_count_185 ?_
          exact W.iret (v := ((Fn 40) (d0 - 30))) hx hb hr (fun t ht hW => ⟨((Fn 40) (d0 - 30)), rfl, (Or.inr (Or.inr (Or.inr (Or.inl (⟨d0 - 30, by (first | omega | (have zz0 := Hid.u hi_cn; omega)), by (first | omega | (have zz0 := Hid.u hi_cn; omega)), rfl⟩))))), ht⟩) (fun _ h => absurd h List.not_mem_nil) dX12_count_186
        ·
          have h_34 : ¬ (30 ≤ v0.toInt ∧ v0.toInt ≤ (nI (29 + (cn 1))).toInt) := h_34
          refine lv_if_eq (tgt := 187) hx hb dX12_count_174 rfl (fun _ => ?_) (fun h => absurd h cq_eq_0_0)
          refine lv_iload_n hx hb dX12_count_187 rfl (lvA1 hl) ?_
          refine lv_bipush (v := 40) hx hb dX12_count_188 kbc_40 ?_
          refine lv_bipush (v := 39) hx hb dX12_count_190 kbc_39 ?_
          refine lv_aload_n hx hb dX12_count_192 rfl (lvA0 hl) ?_
          refine gM_435 S hK hP (v := .int (nI (cn 62))) rfl dX12_count_193 ?_
          refine lv_iadd hx hb dX12_count_196 ?_
          refine lv_topi (fun y_36 ey_36 => ?_)
          obtain rfl : y_36 = (nI (39 + (cn 62))) := ey_36.trans (nI_add 39 (cn 62))
          refine vp_callSi (runS_r (As := [.int v0, .int 40, .int (nI (39 + (cn 62)))]) (rest := []) S (q_in l D cI cB cZ v0 40 (nI (39 + (cn 62))) ) kS_RX12_214 hK hP [] rfl ⟨Nat.le_of_ble_eq_true rfl, Nat.le_of_ble_eq_true rfl⟩ ⟨Nat.le_of_ble_eq_true rfl, Nat.le_of_ble_eq_true rfl⟩ rfl hl.1 rfl (Nat.le_of_ble_eq_true rfl) dX12_count_197) (fun r_37 h_38 => ?_)
          have : (nI (39 + (cn 62))).toInt = (((39 + (cn 62)) : Nat) : Int) := nI_toInt (by (first | omega | (have zz0 := Hid.u hi_cn; omega)))
          rcases h_38 with ⟨rfl, h_38⟩ | ⟨rfl, h_38⟩
          ·
            have h_38 : 40 ≤ v0.toInt ∧ v0.toInt ≤ (nI (39 + (cn 62))).toInt := h_38
            refine lv_if_eq (tgt := 213) hx hb dX12_count_200 rfl (fun h => absurd h cq_eq_1_0) (fun _ => ?_)
            obtain ⟨d0, hd0, rfl⟩ := nI_of (x := v0) (fun q => by have := Int32.lt_iff_toInt_lt.mp q; have e : (0 : Int32).toInt = 0 := rfl; (first | omega | (have zz0 := Hid.u hi_cn; omega)))
            have td0 : (nI d0).toInt = (d0 : Int) := nI_toInt hd0
            have zd0 : (nI d0).toInt.toNat = d0 := by (first | omega | (have zz0 := Hid.u hi_cn; omega))
            refine lv_aload_n hx hb dX12_count_203 rfl (lvA0 hl) ?_
            refine gM_141 S hK hP (v := .ref (g 65)) rfl dX12_count_204 ?_
            refine lv_iload_n hx hb dX12_count_207 rfl (lvA1 hl) ?_
            refine lv_bipush (v := 40) hx hb dX12_count_208 kbc_40 ?_
            refine lv_isub hx hb dX12_count_210 ?_
            refine lv_topi (fun y_39 ey_39 => ?_)
            obtain rfl : y_39 = (nI (d0 - 40)) := ey_39.trans (nI_sub (b := 40) (by (first | omega | (have zz0 := Hid.u hi_cn; omega))))
            have kb_9 : (d0 - 40) < 10 := by (first | omega | (have zz0 := Hid.u hi_cn; omega))
            refine ldM_65 hx hb hK hP (x := ((Fn 65) (d0 - 40))) (vp_in_nI kb_9 (ltb rfl)) (nI_clamp (Nat.lt_trans kb_9 (ltb rfl))) rfl dX12_count_211 ?_
            exact W.iret (v := ((Fn 65) (d0 - 40))) hx hb hr (fun t ht hW => ⟨((Fn 65) (d0 - 40)), rfl, (Or.inr (Or.inr (Or.inr (Or.inr (Or.inl (⟨d0 - 40, by (first | omega | (have zz0 := Hid.u hi_cn; omega)), by (first | omega | (have zz0 := Hid.u hi_cn; omega)), rfl⟩)))))), ht⟩) (fun _ h => absurd h List.not_mem_nil) dX12_count_212
          ·
            have h_38 : ¬ (40 ≤ v0.toInt ∧ v0.toInt ≤ (nI (39 + (cn 62))).toInt) := h_38
            refine lv_if_eq (tgt := 213) hx hb dX12_count_200 rfl (fun _ => ?_) (fun h => absurd h cq_eq_0_0)
            refine lv_iload_n hx hb dX12_count_213 rfl (lvA1 hl) ?_
            refine lv_bipush (v := 50) hx hb dX12_count_214 kbc_50 ?_
            refine lv_bipush (v := 49) hx hb dX12_count_216 kbc_49 ?_
            refine lv_aload_n hx hb dX12_count_218 rfl (lvA0 hl) ?_
            refine gM_447 S hK hP (v := .int (nI (cn 63))) rfl dX12_count_219 ?_
            refine lv_iadd hx hb dX12_count_222 ?_
            refine lv_topi (fun y_40 ey_40 => ?_)
            obtain rfl : y_40 = (nI (49 + (cn 63))) := ey_40.trans (nI_add 49 (cn 63))
            refine vp_callSi (runS_r (As := [.int v0, .int 50, .int (nI (49 + (cn 63)))]) (rest := []) S (q_in l D cI cB cZ v0 50 (nI (49 + (cn 63))) ) kS_RX12_214 hK hP [] rfl ⟨Nat.le_of_ble_eq_true rfl, Nat.le_of_ble_eq_true rfl⟩ ⟨Nat.le_of_ble_eq_true rfl, Nat.le_of_ble_eq_true rfl⟩ rfl hl.1 rfl (Nat.le_of_ble_eq_true rfl) dX12_count_223) (fun r_41 h_42 => ?_)
            have : (nI (49 + (cn 63))).toInt = (((49 + (cn 63)) : Nat) : Int) := nI_toInt (by (first | omega | (have zz0 := Hid.u hi_cn; omega)))
            rcases h_42 with ⟨rfl, h_42⟩ | ⟨rfl, h_42⟩
            ·
              have h_42 : 50 ≤ v0.toInt ∧ v0.toInt ≤ (nI (49 + (cn 63))).toInt := h_42
              refine lv_if_eq (tgt := 241) hx hb dX12_count_226 rfl (fun h => absurd h cq_eq_1_0) (fun _ => ?_)
              obtain ⟨d0, hd0, rfl⟩ := nI_of (x := v0) (fun q => by have := Int32.lt_iff_toInt_lt.mp q; have e : (0 : Int32).toInt = 0 := rfl; (first | omega | (have zz0 := Hid.u hi_cn; omega)))
              have td0 : (nI d0).toInt = (d0 : Int) := nI_toInt hd0
              have zd0 : (nI d0).toInt.toNat = d0 := by (first | omega | (have zz0 := Hid.u hi_cn; omega))
              refine lv_aload_n hx hb dX12_count_229 rfl (lvA0 hl) ?_
              refine gM_144 S hK hP (v := .ref (g 66)) rfl dX12_count_230 ?_
              refine lv_iload_n hx hb dX12_count_233 rfl (lvA1 hl) ?_
              refine lv_bipush (v := 50) hx hb dX12_count_234 kbc_50 ?_
              refine lv_isub hx hb dX12_count_236 ?_
              refine lv_topi (fun y_43 ey_43 => ?_)
              obtain rfl : y_43 = (nI (d0 - 50)) := ey_43.trans (nI_sub (b := 50) (by (first | omega | (have zz0 := Hid.u hi_cn; omega))))
              have kb_10 : (d0 - 50) < 40 := by (first | omega | (have zz0 := Hid.u hi_cn; omega))
              refine ldM_66 hx hb hK hP (x := ((Fn 66) (d0 - 50))) (vp_in_nI kb_10 (ltb rfl)) (nI_clamp (Nat.lt_trans kb_10 (ltb rfl))) rfl dX12_count_237 ?_
              refine lv_goto (tgt := 242) hx hb dX12_count_238 rfl ?_
              exact W.iret (v := ((Fn 66) (d0 - 50))) hx hb hr (fun t ht hW => ⟨((Fn 66) (d0 - 50)), rfl, (Or.inr (Or.inr (Or.inr (Or.inr (Or.inr (Or.inl (⟨d0 - 50, by (first | omega | (have zz0 := Hid.u hi_cn; omega)), by (first | omega | (have zz0 := Hid.u hi_cn; omega)), rfl⟩))))))), ht⟩) (fun _ h => absurd h List.not_mem_nil) dX12_count_242
            ·
              have h_42 : ¬ (50 ≤ v0.toInt ∧ v0.toInt ≤ (nI (49 + (cn 63))).toInt) := h_42
              refine lv_if_eq (tgt := 241) hx hb dX12_count_226 rfl (fun _ => ?_) (fun h => absurd h cq_eq_0_0)
              refine lv_iconst (v := (-1)) hx hb dX12_count_241 kic_m1 ?_
              exact W.iret (v := (-1)) hx hb hr (fun t ht hW => ⟨(-1), rfl, (Or.inr (Or.inr (Or.inr (Or.inr (Or.inr (Or.inr (⟨⟨by (first | omega | (have zz0 := Hid.u hi_cn; omega)), by (first | omega | (have zz0 := Hid.u hi_cn; omega)), by (first | omega | (have zz0 := Hid.u hi_cn; omega)), by (first | omega | (have zz0 := Hid.u hi_cn; omega)), by (first | omega | (have zz0 := Hid.u hi_cn; omega)), by (first | omega | (have zz0 := Hid.u hi_cn; omega))⟩, rfl⟩))))))), ht⟩) (fun _ h => absurd h List.not_mem_nil) dX12_count_242
  ·
    refine lv_tableIn (tgt := 56) (off := 55) hx hb dX12_count_1 (by (first | omega | (have zz0 := Hid.u hi_cn; omega))) (by (first | omega | (have zz0 := Hid.u hi_cn; omega))) (by rw [c_1]; rfl) (by decide) ?_
    refine lv_aload_n hx hb (oc_42 56 shX12_count_56) rfl (lvA0 hl) ?_
    refine gM_211 S hK hP (v := .int (nI (cn 0))) rfl (oc_180 57 (aq_1 shX12_count_56) uw_0_211) ?_
    exact W.iret (v := (nI (cn 0))) hx hb hr (fun t ht hW => ⟨(nI (cn 0)), rfl, (Or.inl (⟨0, by (first | omega | (have zz0 := Hid.u hi_cn; omega)), by (first | omega | (have zz0 := Hid.u hi_cn; omega)), rfl⟩)), ht⟩) (fun _ h => absurd h List.not_mem_nil) (oc_172 60 (aq_4 shX12_count_56))
  ·
    refine lv_tableIn (tgt := 61) (off := 60) hx hb dX12_count_1 (by (first | omega | (have zz0 := Hid.u hi_cn; omega))) (by (first | omega | (have zz0 := Hid.u hi_cn; omega))) (by rw [c_1]; rfl) (by decide) ?_
    refine lv_aload_n hx hb (oc_42 61 (aq_5 shX12_count_56)) rfl (lvA0 hl) ?_
    refine gM_204 S hK hP (v := .int (nI (cn 1))) rfl (oc_180 62 (aq_6 shX12_count_56) uw_0_204) ?_
    exact W.iret (v := (nI (cn 1))) hx hb hr (fun t ht hW => ⟨(nI (cn 1)), rfl, (Or.inl (⟨1, by (first | omega | (have zz0 := Hid.u hi_cn; omega)), by (first | omega | (have zz0 := Hid.u hi_cn; omega)), rfl⟩)), ht⟩) (fun _ h => absurd h List.not_mem_nil) (oc_172 65 (aq_9 shX12_count_56))
  ·
    refine lv_tableIn (tgt := 66) (off := 65) hx hb dX12_count_1 (by (first | omega | (have zz0 := Hid.u hi_cn; omega))) (by (first | omega | (have zz0 := Hid.u hi_cn; omega))) (by rw [c_1]; rfl) (by decide) ?_
    refine lv_aload_n hx hb (oc_42 66 (aq_10 shX12_count_56)) rfl (lvA0 hl) ?_
    refine gM_208 S hK hP (v := .int (nI (cn 2))) rfl (oc_180 67 (aq_11 shX12_count_56) uw_0_208) ?_
    exact W.iret (v := (nI (cn 2))) hx hb hr (fun t ht hW => ⟨(nI (cn 2)), rfl, (Or.inl (⟨2, by (first | omega | (have zz0 := Hid.u hi_cn; omega)), by (first | omega | (have zz0 := Hid.u hi_cn; omega)), rfl⟩)), ht⟩) (fun _ h => absurd h List.not_mem_nil) (oc_172 70 (aq_14 shX12_count_56))
  ·
    refine lv_tableIn (tgt := 71) (off := 70) hx hb dX12_count_1 (by (first | omega | (have zz0 := Hid.u hi_cn; omega))) (by (first | omega | (have zz0 := Hid.u hi_cn; omega))) (by rw [c_1]; rfl) (by decide) ?_
    refine lv_aload_n hx hb (oc_42 71 (aq_15 shX12_count_56)) rfl (lvA0 hl) ?_
    refine gM_226 S hK hP (v := .int (nI (cn 18))) rfl (oc_180 72 (aq_16 shX12_count_56) uw_0_226) ?_
    exact W.iret (v := (nI (cn 18))) hx hb hr (fun t ht hW => ⟨(nI (cn 18)), rfl, (Or.inl (⟨3, by (first | omega | (have zz0 := Hid.u hi_cn; omega)), by (first | omega | (have zz0 := Hid.u hi_cn; omega)), rfl⟩)), ht⟩) (fun _ h => absurd h List.not_mem_nil) (oc_172 75 (aq_19 shX12_count_56))
  ·
    refine lv_tableIn (tgt := 76) (off := 75) hx hb dX12_count_1 (by (first | omega | (have zz0 := Hid.u hi_cn; omega))) (by (first | omega | (have zz0 := Hid.u hi_cn; omega))) (by rw [c_1]; rfl) (by decide) ?_
    refine lv_aload_n hx hb (oc_42 76 (aq_20 shX12_count_56)) rfl (lvA0 hl) ?_
    refine gM_74 S hK hP (v := .ref (g 33)) rfl (oc_180 77 (aq_21 shX12_count_56) uw_0_74) ?_
    refine lv_bipush (v := 10) hx hb (oc_16 80 shX12_count_80 sgb_10) kbc_10 ?_
    refine ldM_33 hx hb hK hP (x := ((Fn 33) 10)) (by unfold vp_in; decide) (by decide) rfl (oc_46 82 (aq_2 shX12_count_80)) ?_
    exact W.iret (v := ((Fn 33) 10)) hx hb hr (fun t ht hW => ⟨((Fn 33) 10), rfl, (Or.inl (⟨4, by (first | omega | (have zz0 := Hid.u hi_cn; omega)), by (first | omega | (have zz0 := Hid.u hi_cn; omega)), rfl⟩)), ht⟩) (fun _ h => absurd h List.not_mem_nil) (oc_172 83 (aq_3 shX12_count_80))
  ·
    refine lv_tableIn (tgt := 84) (off := 83) hx hb dX12_count_1 (by (first | omega | (have zz0 := Hid.u hi_cn; omega))) (by (first | omega | (have zz0 := Hid.u hi_cn; omega))) (by rw [c_1]; rfl) (by decide) ?_
    refine lv_aload_n hx hb (oc_42 84 (aq_4 shX12_count_80)) rfl (lvA0 hl) ?_
    refine gM_435 S hK hP (v := .int (nI (cn 62))) rfl (oc_180 85 (aq_5 shX12_count_80) uw_1_179) ?_
    exact W.iret (v := (nI (cn 62))) hx hb hr (fun t ht hW => ⟨(nI (cn 62)), rfl, (Or.inl (⟨5, by (first | omega | (have zz0 := Hid.u hi_cn; omega)), by (first | omega | (have zz0 := Hid.u hi_cn; omega)), rfl⟩)), ht⟩) (fun _ h => absurd h List.not_mem_nil) (oc_172 88 (aq_8 shX12_count_80))
  ·
    refine lv_tableIn (tgt := 89) (off := 88) hx hb dX12_count_1 (by (first | omega | (have zz0 := Hid.u hi_cn; omega))) (by (first | omega | (have zz0 := Hid.u hi_cn; omega))) (by rw [c_1]; rfl) (by decide) ?_
    refine lv_aload_n hx hb (oc_42 89 (aq_9 shX12_count_80)) rfl (lvA0 hl) ?_
    refine gM_447 S hK hP (v := .int (nI (cn 63))) rfl (oc_180 90 (aq_10 shX12_count_80) uw_1_191) ?_
    exact W.iret (v := (nI (cn 63))) hx hb hr (fun t ht hW => ⟨(nI (cn 63)), rfl, (Or.inl (⟨6, by (first | omega | (have zz0 := Hid.u hi_cn; omega)), by (first | omega | (have zz0 := Hid.u hi_cn; omega)), rfl⟩)), ht⟩) (fun _ h => absurd h List.not_mem_nil) (oc_172 93 (aq_13 shX12_count_80))
  ·
    refine lv_tableIn (tgt := 94) (off := 93) hx hb dX12_count_1 (by (first | omega | (have zz0 := Hid.u hi_cn; omega))) (by (first | omega | (have zz0 := Hid.u hi_cn; omega))) (by rw [c_1]; rfl) (by decide) ?_
    refine lv_aload_n hx hb (oc_42 94 (aq_14 shX12_count_80)) rfl (lvA0 hl) ?_
    refine gM_478 S hK hP (v := .int (nI (cn 83))) rfl (oc_180 95 (aq_15 shX12_count_80) uw_1_222) ?_
    exact W.iret (v := (nI (cn 83))) hx hb hr (fun t ht hW => ⟨(nI (cn 83)), rfl, (Or.inl (⟨7, by (first | omega | (have zz0 := Hid.u hi_cn; omega)), by (first | omega | (have zz0 := Hid.u hi_cn; omega)), rfl⟩)), ht⟩) (fun _ h => absurd h List.not_mem_nil) (oc_172 98 (aq_18 shX12_count_80))
  ·
    refine lv_tableIn (tgt := 99) (off := 98) hx hb dX12_count_1 (by (first | omega | (have zz0 := Hid.u hi_cn; omega))) (by (first | omega | (have zz0 := Hid.u hi_cn; omega))) (by rw [c_1]; rfl) (by decide) ?_
    refine lv_aload_n hx hb (oc_42 99 (aq_19 shX12_count_80)) rfl (lvA0 hl) ?_
    refine gM_386 S hK hP (v := .int (nI (cn 46))) rfl (oc_180 100 (aq_20 shX12_count_80) uw_1_130) ?_
    exact W.iret (v := (nI (cn 46))) hx hb hr (fun t ht hW => ⟨(nI (cn 46)), rfl, (Or.inl (⟨8, by (first | omega | (have zz0 := Hid.u hi_cn; omega)), by (first | omega | (have zz0 := Hid.u hi_cn; omega)), rfl⟩)), ht⟩) (fun _ h => absurd h List.not_mem_nil) (oc_172 103 (aq_23 shX12_count_80))
  ·
    refine lv_tableIn (tgt := 104) (off := 103) hx hb dX12_count_1 (by (first | omega | (have zz0 := Hid.u hi_cn; omega))) (by (first | omega | (have zz0 := Hid.u hi_cn; omega))) (by rw [c_1]; rfl) (by decide) ?_
    refine lv_aload_n hx hb (oc_42 104 shX12_count_104) rfl (lvA0 hl) ?_
    refine gM_407 S hK hP (v := .int (nI (cn 57))) rfl (oc_180 105 (aq_1 shX12_count_104) uw_1_151) ?_
    exact W.iret (v := (nI (cn 57))) hx hb hr (fun t ht hW => ⟨(nI (cn 57)), rfl, (Or.inl (⟨9, by (first | omega | (have zz0 := Hid.u hi_cn; omega)), by (first | omega | (have zz0 := Hid.u hi_cn; omega)), rfl⟩)), ht⟩) (fun _ h => absurd h List.not_mem_nil) (oc_172 108 (aq_4 shX12_count_104))
