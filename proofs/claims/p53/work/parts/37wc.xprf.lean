/-- the first below n of which P holds -/
def TWF (P : Nat → Prop) (n : Nat) (r : Int32) : Prop := (∃ p : Nat, p < n ∧ P p ∧ (∀ q : Nat, q < p → ¬ P q) ∧ r = nI p) ∨ ((∀ q : Nat, q < n → ¬ P q) ∧ r = -1)
theorem TWF.un {P Q : Nat → Prop} {n : Nat} {r r2 : Int32} (e : ∀ k : Nat, k < n → (P k ↔ Q k)) (a : TWF P n r) (b : TWF Q n r2) : r = r2 := by
  rcases a with ⟨p, a1, a2, a3, a4⟩ | ⟨a1, a2⟩ <;> rcases b with ⟨q, b1, b2, b3, b4⟩ | ⟨b1, b2⟩
  · rcases Nat.lt_trichotomy p q with w | w | w
    · exact absurd ((e p a1).mp a2) (b3 p w)
    · rw [a4, b4, w]
    · exact absurd ((e q b1).mpr b2) (a3 q w)
  · exact absurd ((e p a1).mp a2) (b1 p a1)
  · exact absurd ((e q b1).mpr b2) (a1 q b1)
  · rw [a2, b2]
theorem mxN {f : Nat → Int32} {s : Int32} (h : ∀ i : Nat, i < 20 → ∃ a : Nat, a ≤ 400 ∧ f i = nI a) : ∀ n : Nat, n ≤ 20 → mxI f s n = nI (mixN f s n)
  | 0, _ => rfl
  | n + 1, hn => by
    have ih := mxN (s := s) h n (by omega)
    obtain ⟨a, ha, e⟩ := h n (by omega)
    by_cases q : (s >>> (nI n &&& 31)) &&& 1 = 0
    · rw [mixN_0 q, ← ih]
      exact (mxI_k q rfl).symm
    · rw [mixN_1 q e (by omega), ← nI_add, ← ih, ← e]
      exact (mxI_s q rfl rfl).symm
section TXLR
variable {ad : Nat → Nat → Nat} {cn c3 : Nat → Nat} {Fn F3 : Nat → Nat → Int32} {j : Nat}
/-- a batch's sums, as the reference has them -/
theorem TXL.mx (h : TXL ad cn Fn F3) (e : ∀ i : Nat, i < cn 11 → Fn 122 i = F3 10 i) (hj : j < cn 12) : ∀ n : Nat, n ≤ 20 → mxI (Fn 122) (Fn 144 j) n = mxI (F3 10) (F3 64 j) n := by
  obtain ⟨-, -, hs⟩ := h
  obtain ⟨⟨a, -⟩, -, c⟩ := hs j hj
  intro n hn
  rw [← a]
  exact mxI_cg n (fun i hi w => e i (c i (by omega) w))
theorem TXL.lit (h : TXL ad cn Fn F3) (hM : IM c3 F3) (e : ∀ i : Nat, i < cn 11 → Fn 122 i = F3 10 i) (hj : j < cn 12) : Fn 146 j = nI (mixN (F3 10) (F3 64 j) 20) := by
  rw [(h.2.2 j hj).2.1.1, h.mx e hj 20 (Nat.le_refl _)]
  exact mxN (fun i hi => hM.e10 i (by omega)) 20 (Nat.le_refl _)
end TXLR



set_option maxRecDepth 100000 in
set_option maxHeartbeats 4000000 in
theorem q_Eproof (l : Launch) (D : va_G) (cI cB cZ : ClassId) (zz qq vv : Nat) (bt : Nat → Int32) (g : Nat → Nat) (ad : Nat → Nat → Nat) (cn : Nat → Nat) (In : Nat → Int32) (Fn : Nat → Nat → Int32) (v0 v1 v2 v3 : Int32) (sz : Nat) (hB : CBX cn) : Met l yX11_proof (CWS yX11_proof cX11_proof 6 (some .int)) (RM 8 2 105) (PBx [.ref (g 0), .int v0, .int v1, .int v2, .int v3] D cI cB cZ zz qq vv bt (wX cI (D.1 99) zz g ad cn In Fn) sz) (va_Qi (fun (r : Int32) (u : (Nat → Nat → Nat) × (Nat → Nat) × (Nat → Int32) × (Nat → Nat → Int32)) => (fun r a2 c2 I2 F2 => (r = (-1) ∧ ¬ (0 ≤ v0.toInt ∧ v0.toInt < (cn 12 : Int) ∧ 0 ≤ v1.toInt ∧ v1.toInt < v2.toInt ∧ v2.toInt ≤ (Fn 146 v0.toInt.toNat).toInt ∧ 0 ≤ v3.toInt ∧ v3.toInt ≤ 9 ∧ cn 13 < 40) ∧ ad = a2 ∧ cn = c2 ∧ In = I2 ∧ Fn = F2) ∨ (r = nI (cn 13) ∧ (0 ≤ v0.toInt ∧ v0.toInt < (cn 12 : Int) ∧ 0 ≤ v1.toInt ∧ v1.toInt < v2.toInt ∧ v2.toInt ≤ (Fn 146 v0.toInt.toNat).toInt ∧ 0 ≤ v3.toInt ∧ v3.toInt ≤ 9 ∧ cn 13 < 40) ∧ ∃ (q z c : Nat) (y : Int32), (cn 13 < c ∧ c ≤ 100) ∧ (adP ad 13 (cn 13) q 3 z) = a2 ∧ (va_up (va_up cn 13 ((cn 13) + 1)) 23 c) = c2 ∧ (va_up In 13 y) = I2 ∧ (va_up (va_up (va_up (va_up (va_up Fn 160 (upd (Fn 160) (cn 13) v0)) 161 (upd (Fn 161) (cn 13) v1)) 162 (upd (Fn 162) (cn 13) v2)) 163 (upd (Fn 163) (cn 13) v3)) 164 (upd (Fn 164) (cn 13) (nI (cn 0)))) = F2)) r u.1 u.2.1 u.2.2.1 u.2.2.2) (fun (u : (Nat → Nat → Nat) × (Nat → Nat) × (Nat → Int32) × (Nat → Nat → Int32)) (t : State) => va_P D vwCl (wX cI (D.1 99) zz g u.1 u.2.1 u.2.2.1 u.2.2.2) t.heap ∧ va_D (va_A (wX cI (D.1 99) zz g ad cn In Fn) sz) (wX cI (D.1 99) zz g u.1 u.2.1 u.2.2.1 u.2.2.2)) (va_A (wX cI (D.1 99) zz g ad cn In Fn) sz)) 2 105 (va_A (wX cI (D.1 99) zz g ad cn In Fn) sz) := by
  refine en_x (fun A => (va_Qi (fun (r : Int32) (u : (Nat → Nat → Nat) × (Nat → Nat) × (Nat → Int32) × (Nat → Nat → Int32)) => (fun (r : Int32) (a2 : Nat → Nat → Nat) (c2 : Nat → Nat) (I2 : Nat → Int32) (F2 : Nat → Nat → Int32) => (r = (-1) ∧ ¬ (0 ≤ v0.toInt ∧ v0.toInt < (cn 12 : Int) ∧ 0 ≤ v1.toInt ∧ v1.toInt < v2.toInt ∧ v2.toInt ≤ (Fn 146 v0.toInt.toNat).toInt ∧ 0 ≤ v3.toInt ∧ v3.toInt ≤ 9 ∧ cn 13 < 40) ∧ ad = a2 ∧ cn = c2 ∧ In = I2 ∧ Fn = F2) ∨ (r = nI (cn 13) ∧ (0 ≤ v0.toInt ∧ v0.toInt < (cn 12 : Int) ∧ 0 ≤ v1.toInt ∧ v1.toInt < v2.toInt ∧ v2.toInt ≤ (Fn 146 v0.toInt.toNat).toInt ∧ 0 ≤ v3.toInt ∧ v3.toInt ≤ 9 ∧ cn 13 < 40) ∧ ∃ (q z c : Nat) (y : Int32), (cn 13 < c ∧ c ≤ 100) ∧ (adP ad 13 (cn 13) q 3 z) = a2 ∧ (va_up (va_up cn 13 ((cn 13) + 1)) 23 c) = c2 ∧ (va_up In 13 y) = I2 ∧ (va_up (va_up (va_up (va_up (va_up Fn 160 (upd (Fn 160) (cn 13) v0)) 161 (upd (Fn 161) (cn 13) v1)) 162 (upd (Fn 162) (cn 13) v2)) 163 (upd (Fn 163) (cn 13) v3)) 164 (upd (Fn 164) (cn 13) (nI (cn 0)))) = F2)) r u.1 u.2.1 u.2.2.1 u.2.2.2) (fun (u : (Nat → Nat → Nat) × (Nat → Nat) × (Nat → Int32) × (Nat → Nat → Int32)) (t : State) => va_P D vwCl (wX cI (D.1 99) zz g u.1 u.2.1 u.2.2.1 u.2.2.2) t.heap ∧ va_D A (wX cI (D.1 99) zz g u.1 u.2.1 u.2.2.1 u.2.2.2)) A)) rfl rfl pn_RX11 (Nat.le_of_ble_eq_true rfl) (fun p e s m below meth c A hx hb hml hown S hr hlocks hnm hA hP hK hD hXS hS ls hl => ?_)
  have hl : lv_has ls 6 [(0, .ref (g 0)), (1, .int v0), (2, .int v1), (3, .int v2), (4, .int v3)] := hl
  refine lv_aload_n hx hb (oc_42 0 shX11_proof_0) rfl (lvA0 hl) ?_
  refine lv_iload_n hx hb (oc_27 1 (aq_1 shX11_proof_0)) rfl (lvA1 hl) ?_
  refine va_csq (runV_rxa (As := [.int v0]) (rest := []) S (q_XbatchAt l D cI cB cZ zz qq vv bt g ad cn In Fn v0 hB) kV_RX11_382 hK hXS hS hP 0 xo_0 rfl rfl ⟨Nat.le_of_ble_eq_true rfl, Nat.le_of_ble_eq_true rfl⟩ ⟨Nat.le_of_ble_eq_true rfl, Nat.le_of_ble_eq_true rfl⟩ rfl hl.1 rfl (Nat.le_of_ble_eq_true rfl) (oc_182 2 (aq_2 shX11_proof_0) uw_1_126)) (fun r_1 h_2 => ?_)
  rcases h_2 with ⟨mr_1, er_1, hr_1, rfl⟩ | ⟨hr_1, rfl⟩
  ·
    refine lv_astore (lv' := [(5, .ref (ad 12 mr_1)), (0, .ref (g 0)), (1, .int v0), (2, .int v1), (3, .int v2), (4, .int v3)]) hx hb dX11_proof_5 hl (ltb rfl) rfl (fun ls hl => ?_)
    refine lv_aload hx hb dX11_proof_7 (lvA0 hl) ?_
    refine lv_ifnull hx hb dX11_proof_9 ?_
    refine lv_iload_n hx hb (oc_28 12 (aq_12 shX11_proof_0)) rfl (lvA3 hl) ?_
    refine lv_if_lt (tgt := 53) hx hb (oc_155 13 (aq_13 shX11_proof_0) sgw_0_40) rfl (fun c_3 => ?_) (fun c_3 => ?_)
    ·
      have tc_3 : (v1.toInt : Int) < 0 := Int32.lt_iff_toInt_lt.mp c_3
      refine lv_iconst (v := (-1)) hx hb dX11_proof_53 kic_m1 ?_
      refine W.widen (k := 2) (n := 105) (Nat.le_of_ble_eq_true rfl) (Nat.le_of_ble_eq_true rfl) ?_
      exact W.iret (v := (-1)) hx hb hr (fun t ht hW => ⟨⟨(-1), (ad, cn, In, Fn), rfl, (Or.inl ⟨rfl, (fun w9 => by first | omega | (have e9 : v0.toInt.toNat = mr_1 := (by omega); rw [e9] at w9; omega)), rfl, rfl, rfl, rfl⟩), by rw [ht]; exact hP, hD⟩, hS.F ht⟩) hS.2.2 dX11_proof_54
    ·
      have tc_3 : (0 : Int) ≤ v1.toInt := Int32.le_iff_toInt_le.mp (Int32.not_lt.mp c_3)
      refine lv_iload_n hx hb (oc_28 16 (aq_16 shX11_proof_0)) rfl (lvA3 hl) ?_
      refine lv_iload_n hx hb (oc_29 17 (aq_17 shX11_proof_0)) rfl (lvA4 hl) ?_
      refine lv_icmp_ge (tgt := 53) hx hb (oc_162 18 (aq_18 shX11_proof_0) sgw_0_35) rfl (fun c_4 => ?_) (fun c_4 => ?_)
      ·
        have tc_4 : (v2.toInt : Int) ≤ v1.toInt := Int32.le_iff_toInt_le.mp c_4
        refine lv_iconst (v := (-1)) hx hb dX11_proof_53 kic_m1 ?_
        refine W.widen (k := 2) (n := 105) (Nat.le_of_ble_eq_true rfl) (Nat.le_of_ble_eq_true rfl) ?_
        exact W.iret (v := (-1)) hx hb hr (fun t ht hW => ⟨⟨(-1), (ad, cn, In, Fn), rfl, (Or.inl ⟨rfl, (fun w9 => by first | omega | (have e9 : v0.toInt.toNat = mr_1 := (by omega); rw [e9] at w9; omega)), rfl, rfl, rfl, rfl⟩), by rw [ht]; exact hP, hD⟩, hS.F ht⟩) hS.2.2 dX11_proof_54
      ·
        have tc_4 : (v1.toInt : Int) < v2.toInt := Int32.lt_iff_toInt_lt.mp (Int32.not_le.mp c_4)
        refine lv_iload_n hx hb (oc_29 21 (aq_21 shX11_proof_0)) rfl (lvA4 hl) ?_
        refine lv_aload hx hb (oc_25 22 (aq_22 shX11_proof_0) ub_5) (lvA0 hl) ?_
        refine gf_RX11_342 S hK hP _ (xf_2 (by omega)) (v := .int ((Fn 146) mr_1)) rfl (oc_180 24 shX11_proof_24 uw_1_86) ?_
        refine lv_icmp_gt (tgt := 53) hx hb (oc_163 27 (aq_3 shX11_proof_24) sgw_0_26) rfl (fun c_5 => ?_) (fun c_5 => ?_)
        ·
          have tc_5 : (((Fn 146) mr_1).toInt : Int) < v2.toInt := Int32.lt_iff_toInt_lt.mp c_5
          refine lv_iconst (v := (-1)) hx hb dX11_proof_53 kic_m1 ?_
          refine W.widen (k := 2) (n := 105) (Nat.le_of_ble_eq_true rfl) (Nat.le_of_ble_eq_true rfl) ?_
          exact W.iret (v := (-1)) hx hb hr (fun t ht hW => ⟨⟨(-1), (ad, cn, In, Fn), rfl, (Or.inl ⟨rfl, (fun w9 => by first | omega | (have e9 : v0.toInt.toNat = mr_1 := (by omega); rw [e9] at w9; omega)), rfl, rfl, rfl, rfl⟩), by rw [ht]; exact hP, hD⟩, hS.F ht⟩) hS.2.2 dX11_proof_54
        ·
          have tc_5 : (v2.toInt : Int) ≤ ((Fn 146) mr_1).toInt := Int32.le_iff_toInt_le.mp (Int32.not_lt.mp c_5)
          refine lv_iload hx hb (oc_21 30 (aq_6 shX11_proof_24) ub_4) (lvA5 hl) ?_
          refine lv_iconst (v := 0) hx hb (oc_3 32 (aq_8 shX11_proof_24)) kic_0 ?_
          refine lv_bipush (v := 9) hx hb (oc_16 33 (aq_9 shX11_proof_24) sgb_9) kbc_9 ?_
          refine vp_callSi (runS_r (As := [.int v3, .int 0, .int 9]) (rest := []) S (q_l_within l D cI cB cZ v3 0 9) kS_RX11_80 hK hP [] rfl ⟨Nat.le_of_ble_eq_true rfl, Nat.le_of_ble_eq_true rfl⟩ ⟨Nat.le_of_ble_eq_true rfl, Nat.le_of_ble_eq_true rfl⟩ rfl hl.1 rfl (Nat.le_of_ble_eq_true rfl) (oc_184 35 (aq_11 shX11_proof_24) uw_0_80)) (fun r_6 h_7 => ?_)
          rcases h_7 with ⟨rfl, h_7⟩ | ⟨rfl, h_7⟩
          ·
            have h_7 : 0 ≤ v3.toInt ∧ v3.toInt ≤ 9 := h_7
            refine lv_if_eq (tgt := 53) hx hb dX11_proof_38 rfl (fun h => absurd h cq_eq_1_0) (fun _ => ?_)
            refine lv_aload_n hx hb (oc_42 41 (aq_17 shX11_proof_24)) rfl (lvA1 hl) ?_
            refine gf_RX11_71 S hK hP 0 xo_0 (v := .ref (g 13)) rfl (oc_180 42 (aq_18 shX11_proof_24) uw_0_71) ?_
            refine vp_callSi (runV_r (As := []) (rest := []) S (q_l_size l D cI cB cZ (g 13) (if (cn 13) = 0 then zz else ad 2 3) (In 13) (nI (cn 13))) kV_RX11_84 hK hP [27] (one_is xo_27) 27 xo_27 rfl rfl ⟨Nat.le_of_ble_eq_true rfl, Nat.le_of_ble_eq_true rfl⟩ ⟨Nat.le_of_ble_eq_true rfl, Nat.le_of_ble_eq_true rfl⟩ rfl hl.1 rfl (Nat.le_of_ble_eq_true rfl) (oc_182 45 (aq_21 shX11_proof_24) uw_0_84)) (fun r_8 h_9 => ?_)
            subst h_9
            refine lv_bipush (v := 40) hx hb (oc_16 48 shX11_proof_48 sgb_40) kbc_40 ?_
            have : (nI (cn 13)).toInt = (((cn 13) : Nat) : Int) := nI_toInt (by omega)
            refine lv_icmp_lt (tgt := 55) hx hb (oc_161 50 (aq_2 shX11_proof_48) sgw_0_5) rfl (fun c_10 => ?_) (fun c_10 => ?_)
            ·
              have tc_10 : ((nI (cn 13)).toInt : Int) < 40 := Int32.lt_iff_toInt_lt.mp c_10
              refine lv_aload_n hx hb (oc_42 55 (aq_7 shX11_proof_48)) rfl (lvA1 hl) ?_
              refine gf_RX11_71 S hK hP 0 xo_0 (v := .ref (g 13)) rfl (oc_180 56 (aq_8 shX11_proof_48) uw_0_71) ?_
              refine va_new (ci := 5) (fs := [.int 0, .int 0, .int 0, .int 0, .int 0]) (C := RX4) (T := TX4) (N := 5) hx hb S.2.2.2.2 hin_RX4 tyX4 tyX4_ok hown (S.2.2.2.2 _ (wk5_4 7 rfl rfl)) (S.2.2.2.2 _ (wk5_6 0 rfl rfl)) (S.2.2.2.2 _ (wk1_2 0 rfl rfl)) hK.1 hP hD hS hA rfl (by decide +kernel) (Nat.le_of_ble_eq_true rfl) (Nat.le_of_ble_eq_true rfl) (oc_187 59 (aq_11 shX11_proof_48) uw_0_97) (fun q59 H hP hD hS => ?_)
              have hP : va_P D vwCl ((wX cI (D.1 99) zz g ad cn In Fn) ++ ([(q59, .inr (5, [.int 0, .int 0, .int 0, .int 0, .int 0]))] : va_W)) H := hP
              have hD : va_D A ((wX cI (D.1 99) zz g ad cn In Fn) ++ ([(q59, .inr (5, [.int 0, .int 0, .int 0, .int 0, .int 0]))] : va_W)) := hD
              refine lv_dup hx hb (oc_89 62 (aq_14 shX11_proof_48)) rfl ?_
              refine lv_iload_n hx hb (oc_27 63 (aq_15 shX11_proof_48)) rfl (lvA2 hl) ?_
              refine lv_iload_n hx hb (oc_28 64 (aq_16 shX11_proof_48)) rfl (lvA3 hl) ?_
              refine lv_iload_n hx hb (oc_29 65 (aq_17 shX11_proof_48)) rfl (lvA4 hl) ?_
              refine lv_iload hx hb (oc_21 66 (aq_18 shX11_proof_48) ub_4) (lvA5 hl) ?_
              refine lv_aload_n hx hb (oc_42 68 (aq_20 shX11_proof_48)) rfl (lvA1 hl) ?_
              refine gf_RX11_103 S hK hP _ (exl xo_0) (v := .int (nI (cn 0))) rfl (oc_180 69 (aq_21 shX11_proof_48) uw_0_103) ?_
              have hFc := va_free (wc := [(q59, .inr (5, [.int 0, .int 0, .int 0, .int 0, .int 0]))]) hD hS hA [_] (one_im (exr (m := 0) rfl))
              refine va_callv (runI_w (As := [.int v0, .int v1, .int v2, .int v3, .int (nI (cn 0))]) (rest := [.ref q59, .ref (g 13)]) S (q_l_Proof l D cI cB cZ q59 v0 v1 v2 v3 (nI (cn 0)) H.size) kI_RX11_399 hK hP hD [_] (one_is (exr (m := 0) rfl)) (one_im (exr (m := 0) rfl)) rfl ⟨Nat.le_of_ble_eq_true rfl, Nat.le_of_ble_eq_true rfl⟩ ⟨Nat.le_of_ble_eq_true rfl, Nat.le_of_ble_eq_true rfl⟩ rfl hl.1 rfl (Nat.le_of_ble_eq_true rfl) (oc_183 72 shX11_proof_72 uw_1_143)) hS (fun q _ h => hFc q h) hFc (fun u_11 t H1 locs ht hvm h_12 hB1 hz1 hk1 hS => ?_)
              obtain ⟨hP1, hD1⟩ := hB1
              rw [ht] at hP1
              obtain ⟨hP, hD⟩ := exjoin hP hD hk1 hFc hP1 hD1
              generalize H1 = H at hP hS ⊢
              have hP : va_P D vwCl ((wX cI (D.1 99) zz g ad cn In Fn) ++ ([(q59, .inr (5, [.int v0, .int v1, .int v2, .int v3, .int (nI (cn 0))]))] : va_W)) H := hP
              have hD : va_D A ((wX cI (D.1 99) zz g ad cn In Fn) ++ ([(q59, .inr (5, [.int v0, .int v1, .int v2, .int v3, .int (nI (cn 0))]))] : va_W)) := hD
              rcases Nat.eq_zero_or_pos (cn 13) with hz0 | hz0
              ·
                have hi9 : (wX cI (D.1 99) zz g ad cn In Fn)[27]? = _ := xlz_3 hz0
                have hp2P := pick2P hP (exl hi9) (exr (m := 0) rfl)
                have hp2D := pick2D hD (exl hi9) (exr (m := 0) rfl) (ne_ex hi9)
                have hFc := free_all hp2D hS hA
                refine va_calli (runV_xa (As := [.ref q59]) (rest := []) S (q_l_addZP l D cI cB cZ zz qq vv bt (g 13) q59 (In 13) v0 v1 v2 v3 (nI (cn 0)) H.size) kV_RX11_110 hK hXS hS hFc hp2P hp2D 0 rfl rfl rfl ⟨Nat.le_of_ble_eq_true rfl, Nat.le_of_ble_eq_true rfl⟩ ⟨Nat.le_of_ble_eq_true rfl, Nat.le_of_ble_eq_true rfl⟩ rfl hl.1 rfl (Nat.le_of_ble_eq_true rfl) dX11_proof_75) hS (fun q _ h => hFc q h) hFc (fun r12 u12 t H1 locs ht hvm h12 hB1 hz1 hk1 hS => ?_)
                obtain ⟨hP1, hD1⟩ := hB1
                rw [ht] at hP1
                obtain rfl : r12 = 1 := h12
                obtain ⟨hP, hD⟩ := add0_join hP hD hi9 rfl hk1 hFc hP1 hD1 rfl (xu_3 (z := u12) (c := 10) (y := (In 13) + 1) (q := q59) (x0 := v0) (x1 := v1) (x2 := v2) (x3 := v3) (x4 := (nI (cn 0))) hz0)
                have hP : va_P D vwCl (wX cI (D.1 99) zz g (adP ad 13 (cn 13) q59 3 u12) (va_up (va_up cn 13 ((cn 13) + 1)) 23 10) (va_up In 13 ((In 13) + 1)) (va_up (va_up (va_up (va_up (va_up Fn 160 (upd (Fn 160) (cn 13) v0)) 161 (upd (Fn 161) (cn 13) v1)) 162 (upd (Fn 162) (cn 13) v2)) 163 (upd (Fn 163) (cn 13) v3)) 164 (upd (Fn 164) (cn 13) (nI (cn 0))))) H1 := hP
                have hD : va_D A (wX cI (D.1 99) zz g (adP ad 13 (cn 13) q59 3 u12) (va_up (va_up cn 13 ((cn 13) + 1)) 23 10) (va_up In 13 ((In 13) + 1)) (va_up (va_up (va_up (va_up (va_up Fn 160 (upd (Fn 160) (cn 13) v0)) 161 (upd (Fn 161) (cn 13) v1)) 162 (upd (Fn 162) (cn 13) v2)) 163 (upd (Fn 163) (cn 13) v3)) 164 (upd (Fn 164) (cn 13) (nI (cn 0))))) := hD
                generalize H1 = H at hP hS ⊢
                refine W.widen (k := 2) (n := 105) (Nat.le_of_ble_eq_true rfl) (Nat.le_of_ble_eq_true rfl) ?_
                refine lv_pop hx hb dX11_proof_78 rfl ?_
                refine lv_aload_n hx hb dX11_proof_79 rfl (lvA1 hl) ?_
                refine gf_RX11_71 S hK hP 0 xo_0 (v := .ref (g 13)) rfl dX11_proof_80 ?_
                refine vp_callSi (runV_r (As := []) (rest := []) S (q_l_size l D cI cB cZ (g 13) (if ((cn 13) + 1) = 0 then zz else (adP ad 13 (cn 13) q59 3 u12) 2 3) ((In 13) + 1) (nI ((cn 13) + 1))) kV_RX11_84 hK hP [27] (one_is xo_27) 27 xo_27 rfl rfl ⟨Nat.le_of_ble_eq_true rfl, Nat.le_of_ble_eq_true rfl⟩ ⟨Nat.le_of_ble_eq_true rfl, Nat.le_of_ble_eq_true rfl⟩ rfl hl.1 rfl (Nat.le_of_ble_eq_true rfl) dX11_proof_83) (fun r_14 h_15 => ?_)
                subst h_15
                refine lv_iconst (v := 1) hx hb dX11_proof_86 kic_1 ?_
                refine lv_isub hx hb dX11_proof_87 ?_
                refine lv_topi (fun y_16 ey_16 => ?_)
                obtain rfl : y_16 = (nI (cn 13)) := ey_16.trans (nI_sub (b := 1) (by omega))
                exact W.iret (v := (nI (cn 13))) hx hb hr (fun t ht hW => ⟨⟨(nI (cn 13)), ((adP ad 13 (cn 13) q59 3 u12), (va_up (va_up cn 13 ((cn 13) + 1)) 23 10), (va_up In 13 ((In 13) + 1)), (va_up (va_up (va_up (va_up (va_up Fn 160 (upd (Fn 160) (cn 13) v0)) 161 (upd (Fn 161) (cn 13) v1)) 162 (upd (Fn 162) (cn 13) v2)) 163 (upd (Fn 163) (cn 13) v3)) 164 (upd (Fn 164) (cn 13) (nI (cn 0))))), rfl, (Or.inr ⟨rfl, (by have e9 : v0.toInt.toNat = mr_1 := (by omega); rw [e9]; omega), q59, u12, 10, ((In 13) + 1), ⟨by omega, by omega⟩, rfl, rfl, rfl, rfl⟩), by rw [ht]; exact hP, hD⟩, hS.F ht⟩) hS.2.2 dX11_proof_88
              ·
                have hi9 : (wX cI (D.1 99) zz g ad cn In Fn)[27]? = _ := xl_3 hz0
                have hj9 : (wX cI (D.1 99) zz g ad cn In Fn)[_]? = _ := xf_16 (k := 0) (show 0 < min 1 (cn 13) by omega)
                obtain ⟨ws9, hp1, hp2⟩ := pickG (W := ((wX cI (D.1 99) zz g ad cn In Fn) ++ ([(q59, .inr (5, [.int v0, .int v1, .int v2, .int v3, .int (nI (cn 0))]))] : va_W))) (exl hi9) (exl hj9) (exr (m := 0) rfl) (xij (by decide)) (ne_ex hi9) (ne_ex hj9)
                have hP9 := va_P_perm hp1 hP
                have hD9 := va_D_perm hp1 hD
                have hFc := free_all hD9 hS hA
                refine va_calli (runV_xa (As := [.ref q59]) (rest := []) S (q_l_addGP l D cI cB cZ zz qq vv bt (cn 23) (g 13) (ad 2 3) (cn 13) q59 (In 13) (ad 13) v0 v1 v2 v3 (nI (cn 0)) ws9 H.size (by omega) (by omega) hz0 (by omega) (fun i hi => ⟨_, g_mem (hp1.mem_iff.mp (List.mem_of_getElem? (exl (xf_3 (k := i) hi)))) (by decide)⟩)) kV_RX11_110 hK hXS hS hFc hP9 hD9 0 rfl rfl rfl ⟨Nat.le_of_ble_eq_true rfl, Nat.le_of_ble_eq_true rfl⟩ ⟨Nat.le_of_ble_eq_true rfl, Nat.le_of_ble_eq_true rfl⟩ rfl hl.1 rfl (Nat.le_of_ble_eq_true rfl) dX11_proof_75) hS (fun q _ h => hFc q h) hFc (fun r12 u12 t H1 locs ht hvm h12 hB1 hz1 hk1 hS => ?_)
                obtain ⟨hP1, hD1⟩ := hB1
                rw [ht] at hP1
                obtain ⟨hr12, h12⟩ := h12
                obtain rfl : r12 = 1 := hr12
                obtain ⟨ua12, uc12⟩ := u12
                have hu12 : cn 13 < uc12 ∧ uc12 ≤ 100 := h12
                obtain ⟨hP, hD⟩ := addG_join hp2 hi9 hj9 hP1 hD1 hFc (xadd_3 (z := ua12) (c := uc12) (y := (In 13) + 1) (q := q59) (x0 := v0) (x1 := v1) (x2 := v2) (x3 := v3) (x4 := (nI (cn 0))) hz0)
                have hP : va_P D vwCl (wX cI (D.1 99) zz g (adP ad 13 (cn 13) q59 3 ua12) (va_up (va_up cn 13 ((cn 13) + 1)) 23 uc12) (va_up In 13 ((In 13) + 1)) (va_up (va_up (va_up (va_up (va_up Fn 160 (upd (Fn 160) (cn 13) v0)) 161 (upd (Fn 161) (cn 13) v1)) 162 (upd (Fn 162) (cn 13) v2)) 163 (upd (Fn 163) (cn 13) v3)) 164 (upd (Fn 164) (cn 13) (nI (cn 0))))) H1 := hP
                have hD : va_D A (wX cI (D.1 99) zz g (adP ad 13 (cn 13) q59 3 ua12) (va_up (va_up cn 13 ((cn 13) + 1)) 23 uc12) (va_up In 13 ((In 13) + 1)) (va_up (va_up (va_up (va_up (va_up Fn 160 (upd (Fn 160) (cn 13) v0)) 161 (upd (Fn 161) (cn 13) v1)) 162 (upd (Fn 162) (cn 13) v2)) 163 (upd (Fn 163) (cn 13) v3)) 164 (upd (Fn 164) (cn 13) (nI (cn 0))))) := hD
                generalize H1 = H at hP hS ⊢
                refine lv_pop hx hb dX11_proof_78 rfl ?_
                refine lv_aload_n hx hb dX11_proof_79 rfl (lvA1 hl) ?_
                refine gf_RX11_71 S hK hP 0 xo_0 (v := .ref (g 13)) rfl dX11_proof_80 ?_
                refine vp_callSi (runV_r (As := []) (rest := []) S (q_l_size l D cI cB cZ (g 13) (if ((cn 13) + 1) = 0 then zz else (adP ad 13 (cn 13) q59 3 ua12) 2 3) ((In 13) + 1) (nI ((cn 13) + 1))) kV_RX11_84 hK hP [27] (one_is xo_27) 27 xo_27 rfl rfl ⟨Nat.le_of_ble_eq_true rfl, Nat.le_of_ble_eq_true rfl⟩ ⟨Nat.le_of_ble_eq_true rfl, Nat.le_of_ble_eq_true rfl⟩ rfl hl.1 rfl (Nat.le_of_ble_eq_true rfl) dX11_proof_83) (fun r_17 h_18 => ?_)
                subst h_18
                refine lv_iconst (v := 1) hx hb dX11_proof_86 kic_1 ?_
                refine lv_isub hx hb dX11_proof_87 ?_
                refine lv_topi (fun y_19 ey_19 => ?_)
                obtain rfl : y_19 = (nI (cn 13)) := ey_19.trans (nI_sub (b := 1) (by omega))
                exact W.iret (v := (nI (cn 13))) hx hb hr (fun t ht hW => ⟨⟨(nI (cn 13)), ((adP ad 13 (cn 13) q59 3 ua12), (va_up (va_up cn 13 ((cn 13) + 1)) 23 uc12), (va_up In 13 ((In 13) + 1)), (va_up (va_up (va_up (va_up (va_up Fn 160 (upd (Fn 160) (cn 13) v0)) 161 (upd (Fn 161) (cn 13) v1)) 162 (upd (Fn 162) (cn 13) v2)) 163 (upd (Fn 163) (cn 13) v3)) 164 (upd (Fn 164) (cn 13) (nI (cn 0))))), rfl, (Or.inr ⟨rfl, (by have e9 : v0.toInt.toNat = mr_1 := (by omega); rw [e9]; omega), q59, ua12, uc12, ((In 13) + 1), ⟨by omega, by omega⟩, rfl, rfl, rfl, rfl⟩), by rw [ht]; exact hP, hD⟩, hS.F ht⟩) hS.2.2 dX11_proof_88
            ·
              have tc_10 : (40 : Int) ≤ (nI (cn 13)).toInt := Int32.le_iff_toInt_le.mp (Int32.not_lt.mp c_10)
              refine lv_iconst (v := (-1)) hx hb dX11_proof_53 kic_m1 ?_
              refine W.widen (k := 2) (n := 105) (Nat.le_of_ble_eq_true rfl) (Nat.le_of_ble_eq_true rfl) ?_
              exact W.iret (v := (-1)) hx hb hr (fun t ht hW => ⟨⟨(-1), (ad, cn, In, Fn), rfl, (Or.inl ⟨rfl, (fun w9 => by first | omega | (have e9 : v0.toInt.toNat = mr_1 := (by omega); rw [e9] at w9; omega)), rfl, rfl, rfl, rfl⟩), by rw [ht]; exact hP, hD⟩, hS.F ht⟩) hS.2.2 dX11_proof_54
          ·
            have h_7 : ¬ (0 ≤ v3.toInt ∧ v3.toInt ≤ 9) := h_7
            refine lv_if_eq (tgt := 53) hx hb dX11_proof_38 rfl (fun _ => ?_) (fun h => absurd h cq_eq_0_0)
            refine lv_iconst (v := (-1)) hx hb dX11_proof_53 kic_m1 ?_
            refine W.widen (k := 2) (n := 105) (Nat.le_of_ble_eq_true rfl) (Nat.le_of_ble_eq_true rfl) ?_
            exact W.iret (v := (-1)) hx hb hr (fun t ht hW => ⟨⟨(-1), (ad, cn, In, Fn), rfl, (Or.inl ⟨rfl, (fun w9 => by first | omega | (have e9 : v0.toInt.toNat = mr_1 := (by omega); rw [e9] at w9; omega)), rfl, rfl, rfl, rfl⟩), by rw [ht]; exact hP, hD⟩, hS.F ht⟩) hS.2.2 dX11_proof_54
  ·
    refine lv_astoreN (lv' := [(5, .null), (0, .ref (g 0)), (1, .int v0), (2, .int v1), (3, .int v2), (4, .int v3)]) hx hb dX11_proof_5 hl (ltb rfl) rfl (fun ls hl => ?_)
    refine lv_aloadN hx hb dX11_proof_7 (lvA0 hl) ?_
    refine lv_ifnullN (tgt := 53) hx hb dX11_proof_9 rfl ?_
    refine lv_iconst (v := (-1)) hx hb dX11_proof_53 kic_m1 ?_
    refine W.widen (k := 2) (n := 105) (Nat.le_of_ble_eq_true rfl) (Nat.le_of_ble_eq_true rfl) ?_
    exact W.iret (v := (-1)) hx hb hr (fun t ht hW => ⟨⟨(-1), (ad, cn, In, Fn), rfl, (Or.inl ⟨rfl, (fun w9 => by first | omega | (have e9 : v0.toInt.toNat = mr_1 := (by omega); rw [e9] at w9; omega)), rfl, rfl, rfl, rfl⟩), by rw [ht]; exact hP, hD⟩, hS.F ht⟩) hS.2.2 dX11_proof_54
set_option maxRecDepth 100000 in
set_option maxHeartbeats 4000000 in
theorem q_Eplitres (l : Launch) (D : va_G) (cI cB cZ : ClassId) (zz qq vv : Nat) (bt : Nat → Int32) (g : Nat → Nat) (ad : Nat → Nat → Nat) (cn : Nat → Nat) (In : Nat → Int32) (Fn : Nat → Nat → Int32) (k0 : Nat) (hB : CBX cn) (hk : k0 < cn 13) : Met l yX4_litres (CWS yX4_litres cX4_litres 1 (some .int)) (RM 0 0 0) (PBrx [.ref (ad 13 k0)] D cI cB cZ zz qq vv bt (wX cI (D.1 99) zz g ad cn In Fn)) (vp_Si (fun r => r = Fn 162 k0 - Fn 161 k0)) 0 0 (fun _ => False) := by
  refine en_rx rfl pn_RX4 (Nat.le_of_ble_eq_true rfl) (fun p e s m below meth c hx hb hml hown S hr hlocks hnm hP hK hXS hS ls hl => ?_)
  have hl : lv_has ls 1 [(0, .ref (ad 13 k0))] := hl
  have hb_cn : Hid (CBX cn) := hB
  replace hB : CBXh cn := hB
  refine lv_aload_n hx hb (oc_42 0 shX4_litres_0) rfl (lvA0 hl) ?_
  refine gf_RX4_16 S hK hP _ (xf_3 hk) (v := .int ((Fn 162) k0)) rfl (oc_180 1 (aq_1 shX4_litres_0) uw_0_16) ?_
  refine lv_aload_n hx hb (oc_42 4 (aq_4 shX4_litres_0)) rfl (lvA0 hl) ?_
  refine gf_RX4_13 S hK hP _ (xf_3 hk) (v := .int ((Fn 161) k0)) rfl (oc_180 5 (aq_5 shX4_litres_0) uw_0_13) ?_
  refine lv_isub hx hb (oc_100 8 (aq_8 shX4_litres_0)) ?_
  exact W.iret (v := (((Fn 162) k0) - ((Fn 161) k0))) hx hb hr (fun t ht hW => ⟨(((Fn 162) k0) - ((Fn 161) k0)), rfl, rfl, ht⟩) (fun _ h => absurd h List.not_mem_nil) (oc_172 9 (aq_9 shX4_litres_0))
set_option maxRecDepth 100000 in
set_option maxHeartbeats 4000000 in
theorem q_EboughtIn (l : Launch) (D : va_G) (cI cB cZ : ClassId) (zz qq vv : Nat) (bt : Nat → Int32) (g : Nat → Nat) (ad : Nat → Nat → Nat) (cn : Nat → Nat) (In : Nat → Int32) (Fn : Nat → Nat → Int32) (v0 v1 : Int32) (hB : CBX cn) : Met l yX11_boughtIn (CWS yX11_boughtIn cX11_boughtIn 6 (some .int)) (RM 3 0 0) (PBrx [.ref (g 0), .int v0, .int v1] D cI cB cZ zz qq vv bt (wX cI (D.1 99) zz g ad cn In Fn)) (vp_Si (fun r => r = sg (fun p => if Fn 163 p = v1 ∧ Fn 164 p / 7 = v0 then Fn 162 p - Fn 161 p else 0) (cn 13))) 0 0 (fun _ => False) := by
  refine en_rx rfl pn_RX11 (Nat.le_of_ble_eq_true rfl) (fun p e s m below meth c hx hb hml hown S hr hlocks hnm hP hK hXS hS ls hl => ?_)
  have hl : lv_has ls 6 [(0, .ref (g 0)), (1, .int v0), (2, .int v1)] := hl
  have hb_cn : Hid (CBX cn) := hB
  replace hB : CBXh cn := hB
  refine lv_iconst (v := 0) hx hb (oc_3 0 shX11_boughtIn_0) kic_0 ?_
  refine lv_istore_n (lv' := [(3, .int 0), (0, .ref (g 0)), (1, .int v0), (2, .int v1)]) hx hb (oc_62 1 (aq_1 shX11_boughtIn_0)) rfl hl (ltb rfl) rfl (fun ls hl => ?_)
  refine lv_iconst (v := 0) hx hb (oc_3 2 (aq_2 shX11_boughtIn_0)) kic_0 ?_
  refine lv_istore (lv' := [(4, .int 0), (3, .int 0), (0, .ref (g 0)), (1, .int v0), (2, .int v1)]) hx hb (oc_54 3 (aq_3 shX11_boughtIn_0) ub_4) hl (ltb rfl) rfl (fun ls hl => ?_)
  have lp_5 : ∀ (n : Nat) (i5 : Nat) (x5_3 : Int32) , cn 13 - i5 < n → (i5 ≤ cn 13 ∧ (x5_3 = sg (fun p => if Fn 163 p = v1 ∧ Fn 164 p / 7 = v0 then Fn 162 p - Fn 161 p else 0) i5)) → ∀ ls : Array Slot, lv_has ls 6 [(4, .int (nI i5)), (3, .int x5_3), (0, .ref (g 0)), (1, .int v0), (2, .int v1)] → W p l e (RM 3 0 0) s m ([.ref (g 0), .int v0, .int v1]).toArray below meth c s.heap [] 0 0 (MQ below (vp_Si (fun r => r = sg (fun p => if Fn 163 p = v1 ∧ Fn 164 p / 7 = v0 then Fn 162 p - Fn 161 p else 0) (cn 13))) ([.ref (g 0), .int v0, .int v1]).toArray s 0 0 (fun _ => False)) (F0 m 5 ls []) := by
    intro n5
    induction n5 with
    | zero => intros; (first | omega | (have zz0 := Hid.u hb_cn; omega))
    | succ n5 ih5 =>
      intro i5 x5_3 hmu5 hinv5 ls hl
      obtain ⟨hr5, hx5_0⟩ := hinv5
      have ti5 : (nI i5).toInt = (i5 : Int) := nI_toInt (by (first | omega | (have zz0 := Hid.u hb_cn; omega)))
      refine lv_iload hx hb (oc_21 5 (aq_5 shX11_boughtIn_0) ub_4) (lvA0 hl) ?_
      refine lv_aload_n hx hb (oc_42 7 (aq_7 shX11_boughtIn_0)) rfl (lvA2 hl) ?_
      refine gf_RX11_71 S hK hP 0 xo_0 (v := .ref (g 13)) rfl (oc_180 8 (aq_8 shX11_boughtIn_0) uw_0_71) ?_
      refine vp_callSi (runV_r (As := []) (rest := [.int (nI i5)]) S (q_l_size l D cI cB cZ (g 13) (if (cn 13) = 0 then zz else ad 2 3) (In 13) (nI (cn 13))) kV_RX11_84 hK hP [27] (one_is xo_27) 27 xo_27 rfl rfl ⟨Nat.le_of_ble_eq_true rfl, Nat.le_of_ble_eq_true rfl⟩ ⟨Nat.le_of_ble_eq_true rfl, Nat.le_of_ble_eq_true rfl⟩ rfl hl.1 rfl (Nat.le_of_ble_eq_true rfl) (oc_182 11 (aq_11 shX11_boughtIn_0) uw_0_84)) (fun r_1 h_2 => ?_)
      subst h_2
      have : (nI (cn 13)).toInt = (((cn 13) : Nat) : Int) := nI_toInt (by (first | omega | (have zz0 := Hid.u hb_cn; omega)))
      refine lv_icmp_ge (tgt := 70) hx hb (oc_162 14 (aq_14 shX11_boughtIn_0) sgw_0_56) rfl (fun c_3 => ?_) (fun c_3 => ?_)
      ·
        have tc_3 : ((nI (cn 13)).toInt : Int) ≤ (nI i5).toInt := Int32.le_iff_toInt_le.mp c_3
        refine lv_iload_n hx hb (oc_29 70 (aq_20 shX11_boughtIn_50)) rfl (lvA1 hl) ?_
        exact W.iret (v := x5_3) hx hb hr (fun t ht hW => ⟨x5_3, rfl, (by have e9 : i5 = cn 13 := (by (first | omega | (have zz0 := Hid.u hb_cn; omega))); rw [← e9]; exact hx5_0), ht⟩) (fun _ h => absurd h List.not_mem_nil) (oc_172 71 (aq_21 shX11_boughtIn_50))
      ·
        have tc_3 : ((nI i5).toInt : Int) < (nI (cn 13)).toInt := Int32.lt_iff_toInt_lt.mp (Int32.not_le.mp c_3)
        refine lv_aload_n hx hb (oc_42 17 (aq_17 shX11_boughtIn_0)) rfl (lvA2 hl) ?_
        refine gf_RX11_71 S hK hP 0 xo_0 (v := .ref (g 13)) rfl (oc_180 18 (aq_18 shX11_boughtIn_0) uw_0_71) ?_
        refine lv_iload hx hb (oc_21 21 (aq_21 shX11_boughtIn_0) ub_4) (lvA0 hl) ?_
        refine va_csq (runV_rx (As := [.int (nI i5)]) (rest := []) S (q_l_get l D cI cB cZ zz qq vv bt (g 13) (ad 2 3) (cn 23) (cn 13) i5 (ad 13 i5) (In 13) (fun i => if i < (cn 13) then some (ad 13 i) else none) (by (first | omega | (have zz0 := Hid.u hb_cn; omega))) (if_pos (by (first | omega | (have zz0 := Hid.u hb_cn; omega)))) (by (first | omega | (have zz0 := Hid.u hb_cn; omega))) (by (first | omega | (have zz0 := Hid.u hb_cn; omega)))) kV_RX11_87 hK hXS hS hP _ (two_is (xl_3 (by (first | omega | (have zz0 := Hid.u hb_cn; omega)))) (xf_16 (k := 0) (by (first | omega | (have zz0 := Hid.u hb_cn; omega))))) (va_recv hK.1 hP (ci := 0) rfl xo_27) ⟨Nat.le_of_ble_eq_true rfl, Nat.le_of_ble_eq_true rfl⟩ ⟨Nat.le_of_ble_eq_true rfl, Nat.le_of_ble_eq_true rfl⟩ rfl hl.1 rfl (Nat.le_of_ble_eq_true rfl) (oc_182 23 (aq_23 shX11_boughtIn_0) uw_0_87)) (fun r_4 h_5 => ?_)
        subst h_5
        have kf_1 : i5 < cn 13 := by (first | omega | (have zz0 := Hid.u hb_cn; omega))
        refine va_castS hx hb hown (S.2.2.2.2 _ (wk5_4 7 rfl rfl)) (xclass hK.1 (ci := 5) rfl) (va_recv hK.1 hP (ci := 5) rfl (xf_3 kf_1)) (oc_192 26 shX11_boughtIn_26 uw_0_97) ?_
        refine lv_astore (lv' := [(5, .ref (ad 13 i5)), (4, .int (nI i5)), (3, .int x5_3), (0, .ref (g 0)), (1, .int v0), (2, .int v1)]) hx hb (oc_58 29 (aq_3 shX11_boughtIn_26) ub_5) hl (ltb rfl) rfl (fun ls hl => ?_)
        refine lv_iload_n hx hb (oc_29 31 (aq_5 shX11_boughtIn_26)) rfl (lvA2 hl) ?_
        refine lv_aload hx hb (oc_25 32 (aq_6 shX11_boughtIn_26) ub_5) (lvA0 hl) ?_
        refine gf_RX11_415 S hK hP _ (xf_3 kf_1) (v := .int ((Fn 163) i5)) rfl (oc_180 34 (aq_8 shX11_boughtIn_26) uw_1_159) ?_
        refine lv_iload_n hx hb (oc_28 37 (aq_11 shX11_boughtIn_26)) rfl (lvA5 hl) ?_
        refine lv_icmp_ne (tgt := 61) hx hb (oc_160 38 (aq_12 shX11_boughtIn_26) sgw_0_23) rfl (fun c_6 => ?_) (fun c_6 => ?_)
        ·
          have tc_6 : (((Fn 163) i5).toInt : Int) ≠ v1.toInt := fun q => c_6 (Int32.toInt_inj.mp q)
          refine lv_iconst (v := 0) hx hb dX11_boughtIn_61 kic_0 ?_
          refine lv_iadd hx hb dX11_boughtIn_62 ?_
          refine lv_istore_n (lv' := [(3, .int (x5_3 + 0)), (5, .ref (ad 13 i5)), (4, .int (nI i5)), (0, .ref (g 0)), (1, .int v0), (2, .int v1)]) hx hb dX11_boughtIn_63 rfl hl (ltb rfl) rfl (fun ls hl => ?_)
          refine lv_iinc (v := (nI (i5 + 1))) (lv' := [(4, .int (nI (i5 + 1))), (3, .int (x5_3 + 0)), (5, .ref (ad 13 i5)), (0, .ref (g 0)), (1, .int v0), (2, .int v1)]) hx hb dX11_boughtIn_64 hl (k := 2) rfl (nI_1 _) (ltb rfl) rfl (fun ls hl => ?_)
          refine lv_goto (tgt := 5) hx hb dX11_boughtIn_67 rfl ?_
          exact ih5 (i5 + 1) (x5_3 + 0) (by (first | omega | (have zz0 := Hid.u hb_cn; omega))) ⟨(by (first | omega | (have zz0 := Hid.u hb_cn; omega))), (by refine sg_1 hx5_0 ?_; first | exact if_pos ⟨(by first | assumption | exact Int32.toInt_inj.mp (by assumption)), (by first | assumption | exact Int32.toInt_inj.mp (by assumption))⟩ | exact if_neg (fun q9 => absurd q9.1 (by first | assumption | exact fun q => absurd (congrArg Int32.toInt q) (by assumption))) | exact if_neg (fun q9 => absurd q9.2 (by first | assumption | exact fun q => absurd (congrArg Int32.toInt q) (by assumption))))⟩ ls (lv_sub hl [0, 1, 3, 4, 5] rfl)
        ·
          have tc_6 : (((Fn 163) i5).toInt : Int) = v1.toInt := congrArg Int32.toInt c_6
          refine lv_aload hx hb (oc_25 41 (aq_15 shX11_boughtIn_26) ub_5) (lvA0 hl) ?_
          refine gf_RX11_434 S hK hP _ (xf_3 kf_1) (v := .int ((Fn 164) i5)) rfl (oc_180 43 (aq_17 shX11_boughtIn_26) uw_1_178) ?_
          refine lv_bipush (v := 7) hx hb (oc_16 46 (aq_20 shX11_boughtIn_26) sgb_7) kbc_7 ?_
          refine lv_idiv hx hb (oc_108 48 (aq_22 shX11_boughtIn_26)) (by decide) ?_
          refine lv_iload_n hx hb (oc_27 49 (aq_23 shX11_boughtIn_26)) rfl (lvA4 hl) ?_
          refine lv_icmp_ne (tgt := 61) hx hb (oc_160 50 shX11_boughtIn_50 sgw_0_11) rfl (fun c_7 => ?_) (fun c_7 => ?_)
          ·
            have tc_7 : ((((Fn 164) i5) / 7).toInt : Int) ≠ v0.toInt := fun q => c_7 (Int32.toInt_inj.mp q)
            refine lv_iconst (v := 0) hx hb dX11_boughtIn_61 kic_0 ?_
            refine lv_iadd hx hb dX11_boughtIn_62 ?_
            refine lv_istore_n (lv' := [(3, .int (x5_3 + 0)), (5, .ref (ad 13 i5)), (4, .int (nI i5)), (0, .ref (g 0)), (1, .int v0), (2, .int v1)]) hx hb dX11_boughtIn_63 rfl hl (ltb rfl) rfl (fun ls hl => ?_)
            refine lv_iinc (v := (nI (i5 + 1))) (lv' := [(4, .int (nI (i5 + 1))), (3, .int (x5_3 + 0)), (5, .ref (ad 13 i5)), (0, .ref (g 0)), (1, .int v0), (2, .int v1)]) hx hb dX11_boughtIn_64 hl (k := 2) rfl (nI_1 _) (ltb rfl) rfl (fun ls hl => ?_)
            refine lv_goto (tgt := 5) hx hb dX11_boughtIn_67 rfl ?_
            exact ih5 (i5 + 1) (x5_3 + 0) (by (first | omega | (have zz0 := Hid.u hb_cn; omega))) ⟨(by (first | omega | (have zz0 := Hid.u hb_cn; omega))), (by refine sg_1 hx5_0 ?_; first | exact if_pos ⟨(by first | assumption | exact Int32.toInt_inj.mp (by assumption)), (by first | assumption | exact Int32.toInt_inj.mp (by assumption))⟩ | exact if_neg (fun q9 => absurd q9.1 (by first | assumption | exact fun q => absurd (congrArg Int32.toInt q) (by assumption))) | exact if_neg (fun q9 => absurd q9.2 (by first | assumption | exact fun q => absurd (congrArg Int32.toInt q) (by assumption))))⟩ ls (lv_sub hl [0, 1, 3, 4, 5] rfl)
          ·
            have tc_7 : ((((Fn 164) i5) / 7).toInt : Int) = v0.toInt := congrArg Int32.toInt c_7
            refine lv_aload hx hb (oc_25 53 (aq_3 shX11_boughtIn_50) ub_5) (lvA0 hl) ?_
            refine vp_callSi (runV_rxa (As := []) (rest := [.int x5_3]) S (q_Eplitres l D cI cB cZ zz qq vv bt g ad cn In Fn i5 hB (by (first | omega | (have zz0 := Hid.u hb_cn; omega)))) kV_RX11_432 hK hXS hS hP _ (xf_3 kf_1) rfl rfl ⟨Nat.le_of_ble_eq_true rfl, Nat.le_of_ble_eq_true rfl⟩ ⟨Nat.le_of_ble_eq_true rfl, Nat.le_of_ble_eq_true rfl⟩ rfl hl.1 rfl (Nat.le_of_ble_eq_true rfl) (oc_182 55 (aq_5 shX11_boughtIn_50) uw_1_176)) (fun r_8 h_9 => ?_)
            subst h_9
            refine lv_goto (tgt := 62) hx hb (oc_167 58 (aq_8 shX11_boughtIn_50) sgw_0_4) rfl ?_
            refine lv_iadd hx hb dX11_boughtIn_62 ?_
            refine lv_istore_n (lv' := [(3, .int (x5_3 + (((Fn 162) i5 - (Fn 161) i5)))), (5, .ref (ad 13 i5)), (4, .int (nI i5)), (0, .ref (g 0)), (1, .int v0), (2, .int v1)]) hx hb dX11_boughtIn_63 rfl hl (ltb rfl) rfl (fun ls hl => ?_)
            refine lv_iinc (v := (nI (i5 + 1))) (lv' := [(4, .int (nI (i5 + 1))), (3, .int (x5_3 + (((Fn 162) i5 - (Fn 161) i5)))), (5, .ref (ad 13 i5)), (0, .ref (g 0)), (1, .int v0), (2, .int v1)]) hx hb dX11_boughtIn_64 hl (k := 2) rfl (nI_1 _) (ltb rfl) rfl (fun ls hl => ?_)
            refine lv_goto (tgt := 5) hx hb dX11_boughtIn_67 rfl ?_
            exact ih5 (i5 + 1) (x5_3 + (((Fn 162) i5 - (Fn 161) i5))) (by (first | omega | (have zz0 := Hid.u hb_cn; omega))) ⟨(by (first | omega | (have zz0 := Hid.u hb_cn; omega))), (by refine sg_1 hx5_0 ?_; first | exact if_pos ⟨(by first | assumption | exact Int32.toInt_inj.mp (by assumption)), (by first | assumption | exact Int32.toInt_inj.mp (by assumption))⟩ | exact if_neg (fun q9 => absurd q9.1 (by first | assumption | exact fun q => absurd (congrArg Int32.toInt q) (by assumption))) | exact if_neg (fun q9 => absurd q9.2 (by first | assumption | exact fun q => absurd (congrArg Int32.toInt q) (by assumption))))⟩ ls (lv_sub hl [0, 1, 3, 4, 5] rfl)
  exact lp_5 _ 0 0 (Nat.lt_succ_self _) ⟨(by (first | omega | (have zz0 := Hid.u hb_cn; omega))), rfl⟩ ls (lv_sub hl [0, 1, 2, 3, 4] rfl)
set_option maxRecDepth 100000 in
set_option maxHeartbeats 4000000 in
theorem q_Eoverdrawn (l : Launch) (D : va_G) (cI cB cZ : ClassId) (zz qq vv : Nat) (bt : Nat → Int32) (g : Nat → Nat) (ad : Nat → Nat → Nat) (cn : Nat → Nat) (In : Nat → Int32) (Fn : Nat → Nat → Int32) (v0 : Int32) (hB : CBX cn) : Met l yX11_overdrawn (CWS yX11_overdrawn cX11_overdrawn 4 (some .int)) (RM 4 0 0) (PBrx [.ref (g 0), .int v0] D cI cB cZ zz qq vv bt (wX cI (D.1 99) zz g ad cn In Fn)) (vp_Si (fun r => ((0 ≤ v0.toInt ∧ v0.toInt ≤ 57) ∧ BSB (fun k => (Fn 25 k).toInt < (sg (fun p => if Fn 163 p = (nI k) ∧ Fn 164 p / 7 = v0 then Fn 162 p - Fn 161 p else 0) (cn 13)).toInt) 10 r) ∨ (¬ (0 ≤ v0.toInt ∧ v0.toInt ≤ 57) ∧ r = -1))) 0 0 (fun _ => False) := by
  refine en_rx rfl pn_RX11 (Nat.le_of_ble_eq_true rfl) (fun p e s m below meth c hx hb hml hown S hr hlocks hnm hP hK hXS hS ls hl => ?_)
  have hl : lv_has ls 4 [(0, .ref (g 0)), (1, .int v0)] := hl
  have hb_cn : Hid (CBX cn) := hB
  replace hB : CBXh cn := hB
  refine lv_iload_n hx hb (oc_27 0 shX11_overdrawn_0) rfl (lvA1 hl) ?_
  refine lv_iconst (v := 0) hx hb (oc_3 1 (aq_1 shX11_overdrawn_0)) kic_0 ?_
  refine lv_bipush (v := 57) hx hb (oc_16 2 (aq_2 shX11_overdrawn_0) sgb_57) kbc_57 ?_
  refine vp_callSi (runS_r (As := [.int v0, .int 0, .int 57]) (rest := []) S (q_l_within l D cI cB cZ v0 0 57) kS_RX11_80 hK hP [] rfl ⟨Nat.le_of_ble_eq_true rfl, Nat.le_of_ble_eq_true rfl⟩ ⟨Nat.le_of_ble_eq_true rfl, Nat.le_of_ble_eq_true rfl⟩ rfl hl.1 rfl (Nat.le_of_ble_eq_true rfl) (oc_184 4 (aq_4 shX11_overdrawn_0) uw_0_80)) (fun r_1 h_2 => ?_)
  rcases h_2 with ⟨rfl, h_2⟩ | ⟨rfl, h_2⟩
  ·
    have h_2 : 0 ≤ v0.toInt ∧ v0.toInt ≤ 57 := h_2
    refine lv_if_ne (tgt := 12) hx hb dX11_overdrawn_7 rfl (fun _ => ?_) (fun h => absurd h cq_eq_1_0)
    refine lv_iconst (v := 0) hx hb (oc_3 12 (aq_12 shX11_overdrawn_0)) kic_0 ?_
    refine lv_istore_n (lv' := [(2, .int 0), (0, .ref (g 0)), (1, .int v0)]) hx hb (oc_61 13 (aq_13 shX11_overdrawn_0)) rfl hl (ltb rfl) rfl (fun ls hl => ?_)
    refine lv_iconst (v := 0) hx hb (oc_3 14 (aq_14 shX11_overdrawn_0)) kic_0 ?_
    refine lv_istore_n (lv' := [(3, .int 0), (2, .int 0), (0, .ref (g 0)), (1, .int v0)]) hx hb (oc_62 15 (aq_15 shX11_overdrawn_0)) rfl hl (ltb rfl) rfl (fun ls hl => ?_)
    have lp_16 : ∀ (n : Nat) (i16 : Nat) (x16_2 : Int32) , 10 - i16 < n → (i16 ≤ 10 ∧ (BSB (fun k => (Fn 25 k).toInt < (sg (fun p => if Fn 163 p = (nI k) ∧ Fn 164 p / 7 = v0 then Fn 162 p - Fn 161 p else 0) (cn 13)).toInt) i16 x16_2)) → ∀ ls : Array Slot, lv_has ls 4 [(3, .int (nI i16)), (2, .int x16_2), (0, .ref (g 0)), (1, .int v0)] → W p l e (RM 4 0 0) s m ([.ref (g 0), .int v0]).toArray below meth c s.heap [] 0 0 (MQ below (vp_Si (fun r => ((0 ≤ v0.toInt ∧ v0.toInt ≤ 57) ∧ BSB (fun k => (Fn 25 k).toInt < (sg (fun p => if Fn 163 p = (nI k) ∧ Fn 164 p / 7 = v0 then Fn 162 p - Fn 161 p else 0) (cn 13)).toInt) 10 r) ∨ (¬ (0 ≤ v0.toInt ∧ v0.toInt ≤ 57) ∧ r = -1))) ([.ref (g 0), .int v0]).toArray s 0 0 (fun _ => False)) (F0 m 16 ls []) := by
      intro n16
      induction n16 with
      | zero => intros; (first | omega | (have zz0 := Hid.u hb_cn; omega))
      | succ n16 ih16 =>
        intro i16 x16_2 hmu16 hinv16 ls hl
        obtain ⟨hr16, hx16_0⟩ := hinv16
        have ti16 : (nI i16).toInt = (i16 : Int) := nI_toInt (by (first | omega | (have zz0 := Hid.u hb_cn; omega)))
        refine lv_iload_n hx hb (oc_29 16 (aq_16 shX11_overdrawn_0)) rfl (lvA0 hl) ?_
        refine lv_bipush (v := 10) hx hb (oc_16 17 (aq_17 shX11_overdrawn_0) sgb_10) kbc_10 ?_
        refine lv_icmp_ge (tgt := 58) hx hb (oc_162 19 (aq_19 shX11_overdrawn_0) sgw_0_39) rfl (fun c_3 => ?_) (fun c_3 => ?_)
        ·
          have tc_3 : (10 : Int) ≤ (nI i16).toInt := Int32.le_iff_toInt_le.mp c_3
          refine lv_iload_n hx hb (oc_28 58 (aq_9 shX11_overdrawn_49)) rfl (lvA1 hl) ?_
          exact W.iret (v := x16_2) hx hb hr (fun t ht hW => ⟨x16_2, rfl, (Or.inl ⟨by (first | omega | (have zz0 := Hid.u hb_cn; omega)), by have e9 : i16 = 10 := (by (first | omega | (have zz0 := Hid.u hb_cn; omega))); rw [← e9]; exact hx16_0⟩), ht⟩) (fun _ h => absurd h List.not_mem_nil) (oc_172 59 (aq_10 shX11_overdrawn_49))
        ·
          have tc_3 : ((nI i16).toInt : Int) < 10 := Int32.lt_iff_toInt_lt.mp (Int32.not_le.mp c_3)
          refine lv_iload_n hx hb (oc_28 22 (aq_22 shX11_overdrawn_0)) rfl (lvA1 hl) ?_
          refine lv_aload_n hx hb (oc_42 23 (aq_23 shX11_overdrawn_0)) rfl (lvA2 hl) ?_
          refine lv_iload_n hx hb (oc_27 24 shX11_overdrawn_24) rfl (lvA3 hl) ?_
          refine lv_iload_n hx hb (oc_29 25 (aq_1 shX11_overdrawn_24)) rfl (lvA0 hl) ?_
          refine vp_callSi (runV_rxa (As := [.int v0, .int (nI i16)]) (rest := [.int x16_2]) S (q_EboughtIn l D cI cB cZ zz qq vv bt g ad cn In Fn v0 (nI i16) hB) kV_RX11_438 hK hXS hS hP 0 xo_0 rfl rfl ⟨Nat.le_of_ble_eq_true rfl, Nat.le_of_ble_eq_true rfl⟩ ⟨Nat.le_of_ble_eq_true rfl, Nat.le_of_ble_eq_true rfl⟩ rfl hl.1 rfl (Nat.le_of_ble_eq_true rfl) (oc_182 26 (aq_2 shX11_overdrawn_24) uw_1_182)) (fun r_4 h_5 => ?_)
          subst h_5
          refine lv_aload_n hx hb (oc_42 29 (aq_5 shX11_overdrawn_24)) rfl (lvA2 hl) ?_
          refine gf_RX11_47 S hK hP 0 xo_0 (v := .ref (g 8)) rfl (oc_180 30 (aq_6 shX11_overdrawn_24) uw_0_47) ?_
          refine gf_RX11_435 S hK hP 6 xo_6 (v := .ref (g 25)) rfl (oc_180 33 (aq_9 shX11_overdrawn_24) uw_1_179) ?_
          refine lv_iload_n hx hb (oc_29 36 (aq_12 shX11_overdrawn_24)) rfl (lvA0 hl) ?_
          refine vp_callSi (runS_r (As := [.ref (g 25), .int (nI i16)]) (rest := [.int ((sg (fun p => if (Fn 163) p = (nI i16) ∧ (Fn 164) p / 7 = v0 then (Fn 162) p - (Fn 161) p else 0) ((cn 13)))), .int x16_2]) S (q_l_at l D cI cB cZ (g 25) 10 (Fn 25) (nI i16) (by (first | omega | (have zz0 := Hid.u hb_cn; omega)))) kS_RX11_192 hK hP [12] (one_is xo_12) ⟨Nat.le_of_ble_eq_true rfl, Nat.le_of_ble_eq_true rfl⟩ ⟨Nat.le_of_ble_eq_true rfl, Nat.le_of_ble_eq_true rfl⟩ rfl hl.1 rfl (Nat.le_of_ble_eq_true rfl) (oc_184 37 (aq_13 shX11_overdrawn_24) uw_0_192)) (fun r_6 h_7 => ?_)
          obtain rfl : r_6 = Fn 25 i16 := h_7.trans (atM_j rfl (by (first | omega | (have zz0 := Hid.u hb_cn; omega))) (by decide))
          refine lv_icmp_le (tgt := 49) hx hb (oc_164 40 (aq_16 shX11_overdrawn_24) sgw_0_9) rfl (fun c_8 => ?_) (fun c_8 => ?_)
          ·
            have tc_8 : (((sg (fun p => if (Fn 163) p = (nI i16) ∧ (Fn 164) p / 7 = v0 then (Fn 162) p - (Fn 161) p else 0) ((cn 13)))).toInt : Int) ≤ (Fn 25 i16).toInt := Int32.le_iff_toInt_le.mp c_8
            refine lv_iconst (v := 0) hx hb (oc_3 49 shX11_overdrawn_49) kic_0 ?_
            refine lv_ior hx hb dX11_overdrawn_50 ?_
            refine lv_istore_n (lv' := [(2, .int (x16_2 ||| 0)), (3, .int (nI i16)), (0, .ref (g 0)), (1, .int v0)]) hx hb dX11_overdrawn_51 rfl hl (ltb rfl) rfl (fun ls hl => ?_)
            refine lv_iinc (v := (nI (i16 + 1))) (lv' := [(3, .int (nI (i16 + 1))), (2, .int (x16_2 ||| 0)), (0, .ref (g 0)), (1, .int v0)]) hx hb dX11_overdrawn_52 hl (k := 1) rfl (nI_1 _) (ltb rfl) rfl (fun ls hl => ?_)
            refine lv_goto (tgt := 16) hx hb dX11_overdrawn_55 rfl ?_
            exact ih16 (i16 + 1) (x16_2 ||| 0) (by (first | omega | (have zz0 := Hid.u hb_cn; omega))) ⟨(by (first | omega | (have zz0 := Hid.u hb_cn; omega))), (⟨x16_2, hx16_0, by first | exact Or.inl ⟨by assumption, rfl⟩ | exact Or.inr ⟨Int.not_lt.mpr (by assumption), Int32.or_zero⟩⟩)⟩ ls (lv_sub hl [0, 1, 2, 3] rfl)
          ·
            have tc_8 : ((Fn 25 i16).toInt : Int) < ((sg (fun p => if (Fn 163) p = (nI i16) ∧ (Fn 164) p / 7 = v0 then (Fn 162) p - (Fn 161) p else 0) ((cn 13)))).toInt := Int32.lt_iff_toInt_lt.mp (Int32.not_le.mp c_8)
            refine lv_iconst (v := 1) hx hb (oc_4 43 (aq_19 shX11_overdrawn_24)) kic_1 ?_
            refine lv_iload_n hx hb (oc_29 44 (aq_20 shX11_overdrawn_24)) rfl (lvA0 hl) ?_
            refine lv_ishl hx hb (oc_120 45 (aq_21 shX11_overdrawn_24)) ?_
            refine lv_goto (tgt := 50) hx hb (oc_167 46 (aq_22 shX11_overdrawn_24) sgw_0_4) rfl ?_
            refine lv_ior hx hb dX11_overdrawn_50 ?_
            refine lv_istore_n (lv' := [(2, .int (x16_2 ||| (1 <<< ((nI i16) &&& 31)))), (3, .int (nI i16)), (0, .ref (g 0)), (1, .int v0)]) hx hb dX11_overdrawn_51 rfl hl (ltb rfl) rfl (fun ls hl => ?_)
            refine lv_iinc (v := (nI (i16 + 1))) (lv' := [(3, .int (nI (i16 + 1))), (2, .int (x16_2 ||| (1 <<< ((nI i16) &&& 31)))), (0, .ref (g 0)), (1, .int v0)]) hx hb dX11_overdrawn_52 hl (k := 1) rfl (nI_1 _) (ltb rfl) rfl (fun ls hl => ?_)
            refine lv_goto (tgt := 16) hx hb dX11_overdrawn_55 rfl ?_
            exact ih16 (i16 + 1) (x16_2 ||| (1 <<< ((nI i16) &&& 31))) (by (first | omega | (have zz0 := Hid.u hb_cn; omega))) ⟨(by (first | omega | (have zz0 := Hid.u hb_cn; omega))), (⟨x16_2, hx16_0, by first | exact Or.inl ⟨by assumption, rfl⟩ | exact Or.inr ⟨Int.not_lt.mpr (by assumption), Int32.or_zero⟩⟩)⟩ ls (lv_sub hl [0, 1, 2, 3] rfl)
    exact lp_16 _ 0 0 (Nat.lt_succ_self _) ⟨(by (first | omega | (have zz0 := Hid.u hb_cn; omega))), rfl⟩ ls (lv_sub hl [0, 1, 2, 3] rfl)
  ·
    have h_2 : ¬ (0 ≤ v0.toInt ∧ v0.toInt ≤ 57) := h_2
    refine lv_if_ne (tgt := 12) hx hb dX11_overdrawn_7 rfl (fun h => absurd h cq_eq_0_0) (fun _ => ?_)
    refine lv_iconst (v := (-1)) hx hb (oc_2 10 (aq_10 shX11_overdrawn_0)) kic_m1 ?_
    exact W.iret (v := (-1)) hx hb hr (fun t ht hW => ⟨(-1), rfl, (Or.inr ⟨by (first | omega | (have zz0 := Hid.u hb_cn; omega)), rfl⟩), ht⟩) (fun _ h => absurd h List.not_mem_nil) (oc_172 11 (aq_11 shX11_overdrawn_0))
