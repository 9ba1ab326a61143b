/-- the first below n of which P holds -/
def TWF (P : Nat → Prop) (n : Nat) (r : Int32) : Prop := (∃ p : Nat, p < n ∧ P p ∧ (∀ q : Nat, q < p → ¬ P q) ∧ r = nI p) ∨ ((∀ q : Nat, q < n → ¬ P q) ∧ r = -1)
theorem TWF.un {P Q : Nat → Prop} {n : Nat} {r r2 : Int32} (e : ∀ k : Nat, k < n → (P k ↔ Q k)) (a : TWF P n r) (b : TWF Q n r2) : r = r2 := by
  rcases a with ⟨p, a1, a2, a3, a4⟩ | ⟨a1, a2⟩ <;> rcases b with ⟨q, b1, b2, b3, b4⟩ | ⟨b1, b2⟩
  · rcases Nat.lt_trichotomy p q with w | w | w
    · exact absurd ((e p a1).mp a2) (b3 p w)
    · rw [a4, b4, w]
    · exact absurd ((e q b1).mpr b2) (a3 q w)
  · exact absurd ((e p a1).mp a2) (b1 p a1)
  · exact absurd ((e q b1).mpr b2) (a1 q b1)
  · rw [a2, b2]
theorem mxN {f : Nat → Int32} {s : Int32} (h : ∀ i : Nat, i < 20 → ∃ a : Nat, a ≤ 400 ∧ f i = nI a) : ∀ n : Nat, n ≤ 20 → mxI f s n = nI (mixN f s n)
  | 0, _ => rfl
  | n + 1, hn => by
    have ih := mxN (s := s) h n (by omega)
    obtain ⟨a, ha, e⟩ := h n (by omega)
    by_cases q : (s >>> (nI n &&& 31)) &&& 1 = 0
    · rw [mixN_0 q, ← ih]
      exact (mxI_k q rfl).symm
    · rw [mixN_1 q e (by omega), ← nI_add, ← ih, ← e]
      exact (mxI_s q rfl rfl).symm
section TXLR
variable {ad : Nat → Nat → Nat} {cn c3 : Nat → Nat} {Fn F3 : Nat → Nat → Int32} {j : Nat}
/-- a batch's sums, as the reference has them -/
theorem TXL.mx (h : TXL ad cn Fn F3) (e : ∀ i : Nat, i < cn 11 → Fn 122 i = F3 10 i) (hj : j < cn 12) : ∀ n : Nat, n ≤ 20 → mxI (Fn 122) (Fn 144 j) n = mxI (F3 10) (F3 64 j) n := by
  obtain ⟨-, -, hs⟩ := h
  obtain ⟨⟨a, -⟩, -, c⟩ := hs j hj
  intro n hn
  rw [← a]
  exact mxI_cg n (fun i hi w => e i (c i (by omega) w))
theorem TXL.lit (h : TXL ad cn Fn F3) (hM : IM c3 F3) (e : ∀ i : Nat, i < cn 11 → Fn 122 i = F3 10 i) (hj : j < cn 12) : Fn 146 j = nI (mixN (F3 10) (F3 64 j) 20) := by
  rw [(h.2.2 j hj).2.1.1, h.mx e hj 20 (Nat.le_refl _)]
  exact mxN (fun i hi => hM.e10 i (by omega)) 20 (Nat.le_refl _)
end TXLR



set_option maxRecDepth 100000 in
set_option maxHeartbeats 4000000 in
theorem q_Eproof (l : Launch) (D : va_G) (cI cB cZ : ClassId) (zz qq vv : Nat) (bt : Nat → Int32) (g : Nat → Nat) (ad : Nat → Nat → Nat) (cn : Nat → Nat) (In : Nat → Int32) (Fn : Nat → Nat → Int32) (v0 v1 v2 v3 : Int32) (sz : Nat) (hB : CBX cn) : Met l yX11_proof (CWS yX11_proof cX11_proof 6 (some .int)) (RM 8 2 105) (PBx [.ref (g 0), .int v0, .int v1, .int v2, .int v3] D cI cB cZ zz qq vv bt (wX cI (D.1 99) zz g ad cn In Fn) sz) (va_Qi (fun (r : Int32) (u : (Nat → Nat → Nat) × (Nat → Nat) × (Nat → Int32) × (Nat → Nat → Int32)) => (fun r a2 c2 I2 F2 => (r = (-1) ∧ ¬ (0 ≤ v0.toInt ∧ v0.toInt < (cn 12 : Int) ∧ 0 ≤ v1.toInt ∧ v1.toInt < v2.toInt ∧ v2.toInt ≤ (Fn 146 v0.toInt.toNat).toInt ∧ 0 ≤ v3.toInt ∧ v3.toInt ≤ 9 ∧ cn 13 < 40) ∧ ad = a2 ∧ cn = c2 ∧ In = I2 ∧ Fn = F2) ∨ (r = nI (cn 13) ∧ (0 ≤ v0.toInt ∧ v0.toInt < (cn 12 : Int) ∧ 0 ≤ v1.toInt ∧ v1.toInt < v2.toInt ∧ v2.toInt ≤ (Fn 146 v0.toInt.toNat).toInt ∧ 0 ≤ v3.toInt ∧ v3.toInt ≤ 9 ∧ cn 13 < 40) ∧ ∃ (q z c : Nat) (y : Int32), (cn 13 < c ∧ c ≤ 100) ∧ (adP ad 13 (cn 13) q 3 z) = a2 ∧ (va_up (va_up cn 13 ((cn 13) + 1)) 23 c) = c2 ∧ (va_up In 13 y) = I2 ∧ (va_up (va_up (va_up (va_up (va_up Fn 160 (upd (Fn 160) (cn 13) v0)) 161 (upd (Fn 161) (cn 13) v1)) 162 (upd (Fn 162) (cn 13) v2)) 163 (upd (Fn 163) (cn 13) v3)) 164 (upd (Fn 164) (cn 13) (nI (cn 0)))) = F2)) r u.1 u.2.1 u.2.2.1 u.2.2.2) (fun (u : (Nat → Nat → Nat) × (Nat → Nat) × (Nat → Int32) × (Nat → Nat → Int32)) (t : State) => va_P D vwCl (wX cI (D.1 99) zz g u.1 u.2.1 u.2.2.1 u.2.2.2) t.heap ∧ va_D (va_A (wX cI (D.1 99) zz g ad cn In Fn) sz) (wX cI (D.1 99) zz g u.1 u.2.1 u.2.2.1 u.2.2.2)) (va_A (wX cI (D.1 99) zz g ad cn In Fn) sz)) 2 105 (va_A (wX cI (D.1 99) zz g ad cn In Fn) sz) := by
  refine en_x (fun A => (va_Qi (fun (r : Int32) (u : (Nat → Nat → Nat) × (Nat → Nat) × (Nat → Int32) × (Nat → Nat → Int32)) => (fun (r : Int32) (a2 : Nat → Nat → Nat) (c2 : Nat → Nat) (I2 : Nat → Int32) (F2 : Nat → Nat → Int32) => (r = (-1) ∧ ¬ (0 ≤ v0.toInt ∧ v0.toInt < (cn 12 : Int) ∧ 0 ≤ v1.toInt ∧ v1.toInt < v2.toInt ∧ v2.toInt ≤ (Fn 146 v0.toInt.toNat).toInt ∧ 0 ≤ v3.toInt ∧ v3.toInt ≤ 9 ∧ cn 13 < 40) ∧ ad = a2 ∧ cn = c2 ∧ In = I2 ∧ Fn = F2) ∨ (r = nI (cn 13) ∧ (0 ≤ v0.toInt ∧ v0.toInt < (cn 12 : Int) ∧ 0 ≤ v1.toInt ∧ v1.toInt < v2.toInt ∧ v2.toInt ≤ (Fn 146 v0.toInt.toNat).toInt ∧ 0 ≤ v3.toInt ∧ v3.toInt ≤ 9 ∧ cn 13 < 40) ∧ ∃ (q z c : Nat) (y : Int32), (cn 13 < c ∧ c ≤ 100) ∧ (adP ad 13 (cn 13) q 3 z) = a2 ∧ (va_up (va_up cn 13 ((cn 13) + 1)) 23 c) = c2 ∧ (va_up In 13 y) = I2 ∧ (va_up (va_up (va_up (va_up (va_up Fn 160 (upd (Fn 160) (cn 13) v0)) 161 (upd (Fn 161) (cn 13) v1)) 162 (upd (Fn 162) (cn 13) v2)) 163 (upd (Fn 163) (cn 13) v3)) 164 (upd (Fn 164) (cn 13) (nI (cn 0)))) = F2)) r u.1 u.2.1 u.2.2.1 u.2.2.2) (fun (u : (Nat → Nat → Nat) × (Nat → Nat) × (Nat → Int32) × (Nat → Nat → Int32)) (t : State) => va_P D vwCl (wX cI (D.1 99) zz g u.1 u.2.1 u.2.2.1 u.2.2.2) t.heap ∧ va_D A (wX cI (D.1 99) zz g u.1 u.2.1 u.2.2.1 u.2.2.2)) A)) rfl rfl pn_RX11 (Nat.le_of_ble_eq_true rfl) (fun p e s m below meth c A hx hb hml hown S hr hlocks hnm hA hP hK hD hXS hS ls hl => ?_)
  have hl : lv_has ls 6 [(0, .ref (g 0)), (1, .int v0), (2, .int v1), (3, .int v2), (4, .int v3)] := hl
  refine lv_aload_n hx hb (oc_42 0 shX11_proof_0) rfl (lvA0 hl) ?_
  refine lv_iload_n hx hb (oc_27 1 (aq_1 shX11_proof_0)) rfl (lvA1 hl) ?_
  refine va_csq (runV_rxa (As := [.int v0]) (rest := []) S (q_XbatchAt l D cI cB cZ zz qq vv bt g ad cn In Fn v0 hB) kV_RX11_382 hK hXS hS hP 0 xo_0 rfl rfl ⟨Nat.le_of_ble_eq_true rfl, Nat.le_of_ble_eq_true rfl⟩ ⟨Nat.le_of_ble_eq_true rfl, Nat.le_of_ble_eq_true rfl⟩ rfl hl.1 rfl (Nat.le_of_ble_eq_true rfl) (oc_182 2 (aq_2 shX11_proof_0) uw_1_126)) (fun r_1 h_2 => ?_)
  rcases h_2 with ⟨mr_1, er_1, hr_1, rfl⟩ | ⟨hr_1, rfl⟩
  ·
    refine lv_astore (lv' := [(5, .ref (ad 12 mr_1)), (0, .ref (g 0)), (1, .int v0), (2, .int v1), (3, .int v2), (4, .int v3)]) hx hb dX11_proof_5 hl (ltb rfl) rfl (fun ls hl => ?_)
    refine lv_aload hx hb dX11_proof_7 (lvA0 hl) ?_
    refine lv_ifnull hx hb dX11_proof_9 ?_
    refine lv_iload_n hx hb (oc_28 12 (aq_12 shX11_proof_0)) rfl (lvA3 hl) ?_
    refine lv_if_lt (tgt := 53) hx hb (oc_155 13 (aq_13 shX11_proof_0) sgw_0_40) rfl (fun c_3 => ?_) (fun c_3 => ?_)
    ·
      have tc_3 : (v1.toInt : Int) < 0 := Int32.lt_iff_toInt_lt.mp c_3
      refine lv_iconst (v := (-1)) hx hb dX11_proof_53 kic_m1 ?_
      refine W.widen (k := 2) (n := 105) (Nat.le_of_ble_eq_true rfl) (Nat.le_of_ble_eq_true rfl) ?_
      exact W.iret (v := (-1)) hx hb hr (fun t ht hW => ⟨⟨(-1), (ad, cn, In, Fn), rfl, (Or.inl ⟨rfl, (fun w9 => by first | omega | (have e9 : v0.toInt.toNat = mr_1 := (by omega); rw [e9] at w9; omega)), rfl, rfl, rfl, rfl⟩), by rw [ht]; exact hP, hD⟩, hS.F ht⟩) hS.2.2 dX11_proof_54
    ·
      have tc_3 : (0 : Int) ≤ v1.toInt := Int32.le_iff_toInt_le.mp (Int32.not_lt.mp c_3)
      refine lv_iload_n hx hb (oc_28 16 (aq_16 shX11_proof_0)) rfl (lvA3 hl) ?_
      refine lv_iload_n hx hb (oc_29 17 (aq_17 shX11_proof_0)) rfl (lvA4 hl) ?_
      refine lv_icmp_ge (tgt := 53) hx hb (oc_162 18 (aq_18 shX11_proof_0) sgw_0_35) rfl (fun c_4 => ?_) (fun c_4 => ?_)
      ·
        have tc_4 : (v2.toInt : Int) ≤ v1.toInt := Int32.le_iff_toInt_le.mp c_4
        refine lv_iconst (v := (-1)) hx hb dX11_proof_53 kic_m1 ?_
        refine W.widen (k := 2) (n := 105) (Nat.le_of_ble_eq_true rfl) (Nat.le_of_ble_eq_true rfl) ?_
        exact W.iret (v := (-1)) hx hb hr (fun t ht hW => ⟨⟨(-1), (ad, cn, In, Fn), rfl, (Or.inl ⟨rfl, (fun w9 => by first | omega | (have e9 : v0.toInt.toNat = mr_1 := (by omega); rw [e9] at w9; omega)), rfl, rfl, rfl, rfl⟩), by rw [ht]; exact hP, hD⟩, hS.F ht⟩) hS.2.2 dX11_proof_54
      ·
        have tc_4 : (v1.toInt : Int) < v2.toInt := Int32.lt_iff_toInt_lt.mp (Int32.not_le.mp c_4)
        refine lv_iload_n hx hb (oc_29 21 (aq_21 shX11_proof_0)) rfl (lvA4 hl) ?_
        refine lv_aload hx hb (oc_25 22 (aq_22 shX11_proof_0) ub_5) (lvA0 hl) ?_
        refine gf_RX11_342 S hK hP _ (xf_2 (by omega)) (v := .int ((Fn 146) mr_1)) rfl (oc_180 24 shX11_proof_24 uw_1_86) ?_
        refine lv_icmp_gt (tgt := 53) hx hb (oc_163 27 (aq_3 shX11_proof_24) sgw_0_26) rfl (fun c_5 => ?_) (fun c_5 => ?_)
        ·
          have tc_5 : (((Fn 146) mr_1).toInt : Int) < v2.toInt := Int32.lt_iff_toInt_lt.mp c_5
          refine lv_iconst (v := (-1)) hx hb dX11_proof_53 kic_m1 ?_
          refine W.widen (k := 2) (n := 105) (Nat.le_of_ble_eq_true rfl) (Nat.le_of_ble_eq_true rfl) ?_
          exact W.iret (v := (-1)) hx hb hr (fun t ht hW => ⟨⟨(-1), (ad, cn, In, Fn), rfl, (Or.inl ⟨rfl, (fun w9 => by first | omega | (have e9 : v0.toInt.toNat = mr_1 := (by omega); rw [e9] at w9; omega)), rfl, rfl, rfl, rfl⟩), by rw [ht]; exact hP, hD⟩, hS.F ht⟩) hS.2.2 dX11_proof_54
        ·
          have tc_5 : (v2.toInt : Int) ≤ ((Fn 146) mr_1).toInt := Int32.le_iff_toInt_le.mp (Int32.not_lt.mp c_5)
          refine lv_iload hx hb (oc_21 30 (aq_6 shX11_proof_24) ub_4) (lvA5 hl) ?_
          refine lv_iconst (v := 0) hx hb (oc_3 32 (aq_8 shX11_proof_24)) kic_0 ?_
          refine lv_bipush (v := 9) hx hb (oc_16 33 (aq_9 shX11_proof_24) sgb_9) kbc_9 ?_
          refine vp_callSi (runS_r (As := [.int v3, .int 0, .int 9]) (rest := []) S (q_l_within l D cI cB cZ v3 0 9) kS_RX11_80 hK hP [] rfl ⟨Nat.le_of_ble_eq_true rfl, Nat.le_of_ble_eq_true rfl⟩ ⟨Nat.le_of_ble_eq_true rfl, Nat.le_of_ble_eq_true rfl⟩ rfl hl.1 rfl (Nat.le_of_ble_eq_true rfl) (oc_184 35 (aq_11 shX11_proof_24) uw_0_80)) (fun r_6 h_7 => ?_)
          rcases h_7 with ⟨rfl, h_7⟩ | ⟨rfl, h_7⟩
          ·
            have h_7 : 0 ≤ v3.toInt ∧ v3.toInt ≤ 9 := h_7
            refine lv_if_eq (tgt := 53) hx hb dX11_proof_38 rfl (fun h => absurd h cq_eq_1_0) (fun _ => ?_)
            refine lv_aload_n hx hb (oc_42 41 (aq_17 shX11_proof_24)) rfl (lvA1 hl) ?_
            refine gf_RX11_71 S hK hP 0 xo_0 (v := .ref (g 13)) rfl (oc_180 42 (aq_18 shX11_proof_24) uw_0_71) ?_
            refine vp_callSi (runV_r (As := []) (rest := []) S (q_l_size l D cI cB cZ (g 13) (if (cn 13) = 0 then zz else ad 2 3) (In 13) (nI (cn 13))) kV_RX11_84 hK hP [27] (one_is xo_27) 27 xo_27 rfl rfl ⟨Nat.le_of_ble_eq_true rfl, Nat.le_of_ble_eq_true rfl⟩ ⟨Nat.le_of_ble_eq_true rfl, Nat.le_of_ble_eq_true rfl⟩ rfl hl.1 rfl (Nat.le_of_ble_eq_true rfl) (oc_182 45 (aq_21 shX11_proof_24) uw_0_84)) (fun r_8 h_9 => ?_)
            subst h_9
            refine lv_bipush (v := 40) hx hb (oc_16 48 shX11_proof_48 sgb_40) kbc_40 ?_
            have : (nI (cn 13)).toInt = (((cn 13) : Nat) : Int) := nI_toInt (by omega)
            refine lv_icmp_lt (tgt := 55) hx hb (oc_161 50 (aq_2 shX11_proof_48) sgw_0_5) rfl (fun c_10 => ?_) (fun c_10 => ?_)
            ·
              have tc_10 : ((nI (cn 13)).toInt : Int) < 40 := Int32.lt_iff_toInt_lt.mp c_10
              refine lv_aload_n hx hb (oc_42 55 (aq_7 shX11_proof_48)) rfl (lvA1 hl) ?_
              refine gf_RX11_71 S hK hP 0 xo_0 (v := .ref (g 13)) rfl (oc_180 56 (aq_8 shX11_proof_48) uw_0_71) ?_
              refine va_new (ci := 5) (fs := [.int 0, .int 0, .int 0, .int 0, .int 0]) (C := RX4) (T := TX4) (N := 5) hx hb S.2.2.2.2 hin_RX4 tyX4 tyX4_ok hown (S.2.2.2.2 _ (wk5_4 7 rfl rfl)) (S.2.2.2.2 _ (wk5_6 0 rfl rfl)) (S.2.2.2.2 _ (wk1_2 0 rfl rfl)) hK.1 hP hD hS hA rfl (by decide +kernel) (Nat.le_of_ble_eq_true rfl) (Nat.le_of_ble_eq_true rfl) (oc_187 59 (aq_11 shX11_proof_48) uw_0_97) (fun q59 H hP hD hS => ?_)
              have hP : va_P D vwCl ((wX cI (D.1 99) zz g ad cn In Fn) ++ ([(q59, .inr (5, [.int 0, .int 0, .int 0, .int 0, .int 0]))] : va_W)) H := hP
              have hD : va_D A ((wX cI (D.1 99) zz g ad cn In Fn) ++ ([(q59, .inr (5, [.int 0, .int 0, .int 0, .int 0, .int 0]))] : va_W)) := hD
              refine lv_dup hx hb (oc_89 62 (aq_14 shX11_proof_48)) rfl ?_
              refine lv_iload_n hx hb (oc_27 63 (aq_15 shX11_proof_48)) rfl (lvA2 hl) ?_
              refine lv_iload_n hx hb (oc_28 64 (aq_16 shX11_proof_48)) rfl (lvA3 hl) ?_
              refine lv_iload_n hx hb (oc_29 65 (aq_17 shX11_proof_48)) rfl (lvA4 hl) ?_
              refine lv_iload hx hb (oc_21 66 (aq_18 shX11_proof_48) ub_4) (lvA5 hl) ?_
              refine lv_aload_n hx hb (oc_42 68 (aq_20 shX11_proof_48)) rfl (lvA1 hl) ?_
              refine gf_RX11_103 S hK hP _ (exl xo_0) (v := .int (nI (cn 0))) rfl (oc_180 69 (aq_21 shX11_proof_48) uw_0_103) ?_
              have hFc := va_free (wc := [(q59, .inr (5, [.int 0, .int 0, .int 0, .int 0, .int 0]))]) hD hS hA [_] (one_im (exr (m := 0) rfl))
              refine va_callv (runI_w (As := [.int v0, .int v1, .int v2, .int v3, .int (nI (cn 0))]) (rest := [.ref q59, .ref (g 13)]) S (q_l_Proof l D cI cB cZ q59 v0 v1 v2 v3 (nI (cn 0)) H.size) kI_RX11_399 hK hP hD [_] (one_is (exr (m := 0) rfl)) (one_im (exr (m := 0) rfl)) rfl ⟨Nat.le_of_ble_eq_true rfl, Nat.le_of_ble_eq_true rfl⟩ ⟨Nat.le_of_ble_eq_true rfl, Nat.le_of_ble_eq_true rfl⟩ rfl hl.1 rfl (Nat.le_of_ble_eq_true rfl) (oc_183 72 shX11_proof_72 uw_1_143)) hS (fun q _ h => hFc q h) hFc (fun u_11 t H1 locs ht hvm h_12 hB1 hz1 hk1 hS => ?_)
              obtain ⟨hP1, hD1⟩ := hB1
              rw [ht] at hP1
              obtain ⟨hP, hD⟩ := exjoin hP hD hk1 hFc hP1 hD1
              generalize H1 = H at hP hS ⊢
              have hP : va_P D vwCl ((wX cI (D.1 99) zz g ad cn In Fn) ++ ([(q59, .inr (5, [.int v0, .int v1, .int v2, .int v3, .int (nI (cn 0))]))] : va_W)) H := hP
              have hD : va_D A ((wX cI (D.1 99) zz g ad cn In Fn) ++ ([(q59, .inr (5, [.int v0, .int v1, .int v2, .int v3, .int (nI (cn 0))]))] : va_W)) := hD
              rcases Nat.eq_zero_or_pos (cn 13) with hz0 | hz0
              ·
                have hi9 : (wX cI (D.1 99) zz g ad cn In Fn)[27]? = _ := xlz_3 hz0
                have hp2P := pick2P hP (exl hi9) (exr (m := 0) rfl)
                have hp2D := pick2D hD (exl hi9) (exr (m := 0) rfl) (ne_ex hi9)
                have hFc := free_all hp2D hS hA
                refine va_calli (runV_xa (As := [.ref q59]) (rest := []) S (q_l_addZP l D cI cB cZ zz qq vv bt (g 13) q59 (In 13) v0 v1 v2 v3 (nI (cn 0)) H.size) kV_RX11_110 hK hXS hS hFc hp2P hp2D 0 rfl rfl rfl ⟨Nat.le_of_ble_eq_true rfl, Nat.le_of_ble_eq_true rfl⟩ ⟨Nat.le_of_ble_eq_true rfl, Nat.le_of_ble_eq_true rfl⟩ rfl hl.1 rfl (Nat.le_of_ble_eq_true rfl) dX11_proof_75) hS (fun q _ h => hFc q h) hFc (fun r12 u12 t H1 locs ht hvm h12 hB1 hz1 hk1 hS => ?_)
                obtain ⟨hP1, hD1⟩ := hB1
                rw [ht] at hP1
                obtain rfl : r12 = 1 := h12
                obtain ⟨hP, hD⟩ := add0_join hP hD hi9 rfl hk1 hFc hP1 hD1 rfl (xu_3 (z := u12) (c := 10) (y := (In 13) + 1) (q := q59) (x0 := v0) (x1 := v1) (x2 := v2) (x3 := v3) (x4 := (nI (cn 0))) hz0)
                have hP : va_P D vwCl (wX cI (D.1 99) zz g (adP ad 13 (cn 13) q59 3 u12) (va_up (va_up cn 13 ((cn 13) + 1)) 23 10) (va_up In 13 ((In 13) + 1)) (va_up (va_up (va_up (va_up (va_up Fn 160 (upd (Fn 160) (cn 13) v0)) 161 (upd (Fn 161) (cn 13) v1)) 162 (upd (Fn 162) (cn 13) v2)) 163 (upd (Fn 163) (cn 13) v3)) 164 (upd (Fn 164) (cn 13) (nI (cn 0))))) H1 := hP
                have hD : va_D A (wX cI (D.1 99) zz g (adP ad 13 (cn 13) q59 3 u12) (va_up (va_up cn 13 ((cn 13) + 1)) 23 10) (va_up In 13 ((In 13) + 1)) (va_up (va_up (va_up (va_up (va_up Fn 160 (upd (Fn 160) (cn 13) v0)) 161 (upd (Fn 161) (cn 13) v1)) 162 (upd (Fn 162) (cn 13) v2)) 163 (upd (Fn 163) (cn 13) v3)) 164 (upd (Fn 164) (cn 13) (nI (cn 0))))) := hD
                generalize H1 = H at hP hS ⊢
                refine W.widen (k := 2) (n := 105) (Nat.le_of_ble_eq_true rfl) (Nat.le_of_ble_eq_true rfl) ?_
                refine lv_pop hx hb dX11_proof_78 rfl ?_
                refine lv_aload_n hx hb dX11_proof_79 rfl (lvA1 hl) ?_
                refine gf_RX11_71 S hK hP 0 xo_0 (v := .ref (g 13)) rfl dX11_proof_80 ?_
                refine vp_callSi (runV_r (As := []) (rest := []) S (q_l_size l D cI cB cZ (g 13) (if ((cn 13) + 1) = 0 then zz else (adP ad 13 (cn 13) q59 3 u12) 2 3) ((In 13) + 1) (nI ((cn 13) + 1))) kV_RX11_84 hK hP [27] (one_is xo_27) 27 xo_27 rfl rfl ⟨Nat.le_of_ble_eq_true rfl, Nat.le_of_ble_eq_true rfl⟩ ⟨Nat.le_of_ble_eq_true rfl, Nat.le_of_ble_eq_true rfl⟩ rfl hl.1 rfl (Nat.le_of_ble_eq_true rfl) dX11_proof_83) (fun r_14 h_15 => ?_)
                subst h_15
                refine lv_iconst (v := 1) hx hb dX11_proof_86 kic_1 ?_
                refine lv_isub hx hb dX11_proof_87 ?_
                refine lv_topi (fun y_16 ey_16 => ?_)
                obtain rfl : y_16 = (nI (cn 13)) := ey_16.trans (nI_sub (b := 1) (by omega))
                exact W.iret (v := (nI (cn 13))) hx hb hr (fun t ht hW => ⟨⟨(nI (cn 13)), ((adP ad 13 (cn 13) q59 3 u12), (va_up (va_up cn 13 ((cn 13) + 1)) 23 10), (va_up In 13 ((In 13) + 1)), (va_up (va_up (va_up (va_up (va_up Fn 160 (upd (Fn 160) (cn 13) v0)) 161 (upd (Fn 161) (cn 13) v1)) 162 (upd (Fn 162) (cn 13) v2)) 163 (upd (Fn 163) (cn 13) v3)) 164 (upd (Fn 164) (cn 13) (nI (cn 0))))), rfl, (Or.inr ⟨rfl, (by have e9 : v0.toInt.toNat = mr_1 := (by omega); rw [e9]; omega), q59, u12, 10, ((In 13) + 1), ⟨by omega, by omega⟩, rfl, rfl, rfl, rfl⟩), by rw [ht]; exact hP, hD⟩, hS.F ht⟩) hS.2.2 dX11_proof_88
              ·
                have hi9 : (wX cI (D.1 99) zz g ad cn In Fn)[27]? = _ := xl_3 hz0
                have hj9 : (wX cI (D.1 99) zz g ad cn In Fn)[_]? = _ := xf_16 (k := 0) (show 0 < min 1 (cn 13) by omega)
                obtain ⟨ws9, hp1, hp2⟩ := pickG (W := ((wX cI (D.1 99) zz g ad cn In Fn) ++ ([(q59, .inr (5, [.int v0, .int v1, .int v2, .int v3, .int (nI (cn 0))]))] : va_W))) (exl hi9) (exl hj9) (exr (m := 0) rfl) (xij (by decide)) (ne_ex hi9) (ne_ex hj9)
                have hP9 := va_P_perm hp1 hP
                have hD9 := va_D_perm hp1 hD
                have hFc := free_all hD9 hS hA
                refine va_calli (runV_xa (As := [.ref q59]) (rest := []) S (q_l_addGP l D cI cB cZ zz qq vv bt (cn 23) (g 13) (ad 2 3) (cn 13) q59 (In 13) (ad 13) v0 v1 v2 v3 (nI (cn 0)) ws9 H.size (by omega) (by omega) hz0 (by omega) (fun i hi => ⟨_, g_mem (hp1.mem_iff.mp (List.mem_of_getElem? (exl (xf_3 (k := i) hi)))) (by decide)⟩)) kV_RX11_110 hK hXS hS hFc hP9 hD9 0 rfl rfl rfl ⟨Nat.le_of_ble_eq_true rfl, Nat.le_of_ble_eq_true rfl⟩ ⟨Nat.le_of_ble_eq_true rfl, Nat.le_of_ble_eq_true rfl⟩ rfl hl.1 rfl (Nat.le_of_ble_eq_true rfl) dX11_proof_75) hS (fun q _ h => hFc q h) hFc (fun r12 u12 t H1 locs ht hvm h12 hB1 hz1 hk1 hS => ?_)
                obtain ⟨hP1, hD1⟩ := hB1
                rw [ht] at hP1
                obtain ⟨hr12, h12⟩ := h12
                obtain rfl : r12 = 1 := hr12
                obtain ⟨ua12, uc12⟩ := u12
                have hu12 : cn 13 < uc12 ∧ uc12 ≤ 100 := h12
                obtain ⟨hP, hD⟩ := addG_join hp2 hi9 hj9 hP1 hD1 hFc (xadd_3 (z := ua12) (c := uc12) (y := (In 13) + 1) (q := q59) (x0 := v0) (x1 := v1) (x2 := v2) (x3 := v3) (x4 := (nI (cn 0))) hz0)
                have hP : va_P D vwCl (wX cI (D.1 99) zz g (adP ad 13 (cn 13) q59 3 ua12) (va_up (va_up cn 13 ((cn 13) + 1)) 23 uc12) (va_up In 13 ((In 13) + 1)) (va_up (va_up (va_up (va_up (va_up Fn 160 (upd (Fn 160) (cn 13) v0)) 161 (upd (Fn 161) (cn 13) v1)) 162 (upd (Fn 162) (cn 13) v2)) 163 (upd (Fn 163) (cn 13) v3)) 164 (upd (Fn 164) (cn 13) (nI (cn 0))))) H1 := hP
                have hD : va_D A (wX cI (D.1 99) zz g (adP ad 13 (cn 13) q59 3 ua12) (va_up (va_up cn 13 ((cn 13) + 1)) 23 uc12) (va_up In 13 ((In 13) + 1)) (va_up (va_up (va_up (va_up (va_up Fn 160 (upd (Fn 160) (cn 13) v0)) 161 (upd (Fn 161) (cn 13) v1)) 162 (upd (Fn 162) (cn 13) v2)) 163 (upd (Fn 163) (cn 13) v3)) 164 (upd (Fn 164) (cn 13) (nI (cn 0))))) := hD
                generalize H1 = H at hP hS ⊢
                refine lv_pop hx hb dX11_proof_78 rfl ?_
                refine lv_aload_n hx hb dX11_proof_79 rfl (lvA1 hl) ?_
                refine gf_RX11_71 S hK hP 0 xo_0 (v := .ref (g 13)) rfl dX11_proof_80 ?_
                refine vp_callSi (runV_r (As := []) (rest := []) S (q_l_size l D cI cB cZ (g 13) (if ((cn 13) + 1) = 0 then zz else (adP ad 13 (cn 13) q59 3 ua12) 2 3) ((In 13) + 1) (nI ((cn 13) + 1))) kV_RX11_84 hK hP [27] (one_is xo_27) 27 xo_27 rfl rfl ⟨Nat.le_of_ble_eq_true rfl, Nat.le_of_ble_eq_true rfl⟩ ⟨Nat.le_of_ble_eq_true rfl, Nat.le_of_ble_eq_true rfl⟩ rfl hl.1 rfl (Nat.le_of_ble_eq_true rfl) dX11_proof_83) (fun r_17 h_18 => ?_)
                subst h_18
                refine lv_iconst (v := 1) hx hb dX11_proof_86 kic_1 ?_
                refine lv_isub hx hb dX11_proof_87 ?_
                refine lv_topi (fun y_19 ey_19 => ?_)
                obtain rfl : y_19 = (nI (cn 13)) := ey_19.trans (nI_sub (b := 1) (by omega))
                exact W.iret (v := (nI (cn 13))) hx hb hr (fun t ht hW => ⟨⟨(nI (cn 13)), ((adP ad 13 (cn 13) q59 3 ua12), (va_up (va_up cn 13 ((cn 13) + 1)) 23 uc12), (va_up In 13 ((In 13) + 1)), (va_up (va_up (va_up (va_up (va_up Fn 160 (upd (Fn 160) (cn 13) v0)) 161 (upd (Fn 161) (cn 13) v1)) 162 (upd (Fn 162) (cn 13) v2)) 163 (upd (Fn 163) (cn 13) v3)) 164 (upd (Fn 164) (cn 13) (nI (cn 0))))), rfl, (Or.inr ⟨rfl, (by have e9 : v0.toInt.toNat = mr_1 := (by omega); rw [e9]; omega), q59, ua12, uc12, ((In 13) + 1), ⟨by omega, by omega⟩, rfl, rfl, rfl, rfl⟩), by rw [ht]; exact hP, hD⟩, hS.F ht⟩) hS.2.2 dX11_proof_88
            ·
              have tc_10 : (40 : Int) ≤ (nI (cn 13)).toInt := Int32.le_iff_toInt_le.mp (Int32.not_lt.mp c_10)
              refine lv_iconst (v := (-1)) hx hb dX11_proof_53 kic_m1 ?_
              refine W.widen (k := 2) (n := 105) (Nat.le_of_ble_eq_true rfl) (Nat.le_of_ble_eq_true rfl) ?_
              exact W.iret (v := (-1)) hx hb hr (fun t ht hW => ⟨⟨(-1), (ad, cn, In, Fn), rfl, (Or.inl ⟨rfl, (fun w9 => by first | omega | (have e9 : v0.toInt.toNat = mr_1 := (by omega); rw [e9] at w9; omega)), rfl, rfl, rfl, rfl⟩), by rw [ht]; exact hP, hD⟩, hS.F ht⟩) hS.2.2 dX11_proof_54
          ·
            have h_7 : ¬ (0 ≤ v3.toInt ∧ v3.toInt ≤ 9) := h_7
            refine lv_if_eq (tgt := 53) hx hb dX11_proof_38 rfl (fun _ => ?_) (fun h => absurd h cq_eq_0_0)
            refine lv_iconst (v := (-1)) hx hb dX11_proof_53 kic_m1 ?_
            refine W.widen (k := 2) (n := 105) (Nat.le_of_ble_eq_true rfl) (Nat.le_of_ble_eq_true rfl) ?_
            exact W.iret (v := (-1)) hx hb hr (fun t ht hW => ⟨⟨(-1), (ad, cn, In, Fn), rfl, (Or.inl ⟨rfl, (fun w9 => by first | omega | (have e9 : v0.toInt.toNat = mr_1 := (by omega); rw [e9] at w9; omega)), rfl, rfl, rfl, rfl⟩), by rw [ht]; exact hP, hD⟩, hS.F ht⟩) hS.2.2 dX11_proof_54
  ·
    refine lv_astoreN (lv' := [(5, .null), (0, .ref (g 0)), (1, .int v0), (2, .int v1), (3, .int v2), (4, .int v3)]) hx hb dX11_proof_5 hl (ltb rfl) rfl (fun ls hl => ?_)
    refine lv_aloadN hx hb dX11_proof_7 (lvA0 hl) ?_
    refine lv_ifnullN (tgt := 53) hx hb dX11_proof_9 rfl ?_
    refine lv_iconst (v := (-1)) hx hb dX11_proof_53 kic_m1 ?_
    refine W.widen (k := 2) (n := 105) (Nat.le_of_ble_eq_true rfl) (Nat.le_of_ble_eq_true rfl) ?_
    exact W.iret (v := (-1)) hx hb hr (fun t ht hW => ⟨⟨(-1), (ad, cn, In, Fn), rfl, (Or.inl ⟨rfl, (fun w9 => by first | omega | (have e9 : v0.toInt.toNat = mr_1 := (by omega); rw [e9] at w9; omega)), rfl, rfl, rfl, rfl⟩), by rw [ht]; exact hP, hD⟩, hS.F ht⟩) hS.2.2 dX11_proof_54
