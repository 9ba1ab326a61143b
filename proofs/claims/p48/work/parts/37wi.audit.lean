/-- litre l is asked for (from a on, before b) and is of a load whose K is k -/
def AUQ (K L : Nat → Int32) (s k : Int32) (a b l : Nat) : Prop := (a ≤ l ∧ l < b) ∧ ∃ i : Nat, i < 20 ∧ (¬ (s >>> (nI i &&& 31)) &&& 1 = 0) ∧ (mixN L s i ≤ l ∧ l < mixN L s (i + 1)) ∧ K i = k
section AUS
variable {K L : Nat → Int32} {s k x : Int32} {a b l z i m : Nat} {P : Nat → Prop}
theorem au_one (h1 : mixN L s i ≤ l) (h2 : l < mixN L s (i + 1)) (h3 : mixN L s m ≤ l) (h4 : l < mixN L s (m + 1)) : i = m := by
  rcases Nat.lt_trichotomy i m with w | w | w
  · have := mixN_mo (f := L) (set := s) (show i + 1 ≤ m from w)
    omega
  · exact w
  · have := mixN_mo (f := L) (set := s) (show m + 1 ≤ i from w)
    omega
theorem au_bit (h1 : l < mixN L s (m + 1)) (h2 : ∀ q : Nat, q < m → ¬ l < mixN L s (q + 1)) : (¬ (s >>> (nI m &&& 31)) &&& 1 = 0) ∧ mixN L s m ≤ l := by
  have h3 : mixN L s m ≤ l := by
    cases m with
    | zero => exact Nat.zero_le _
    | succ q => exact Nat.not_lt.mp (h2 q (Nat.lt_succ_self q))
  exact ⟨fun w => by rw [mixN_0 w] at h1; omega, h3⟩
theorem au_yes (h : ∀ t : Nat, z ≤ t → t < z + l → (P t ↔ a ≤ t ∧ t < b)) (c : CNT P z x) : CNT P (z + l) (x + nI (min (z + l) b - max z a)) := by
  by_cases q : min (z + l) b ≤ max z a
  · rw [show min (z + l) b - max z a = 0 by omega, show nI 0 = 0 from rfl, Int32.add_zero]
    exact CNT.skip l (fun t h1 h2 w => by have := (h t h1 h2).mp w; omega) c
  · have c1 := CNT.skip (max z a - z) (fun t h1 h2 w => by have := (h t (by omega) (by omega)).mp w; omega) c
    rw [show z + (max z a - z) = max z a by omega] at c1
    have c2 := CNT.fill (min (z + l) b - max z a) (fun t h1 h2 => (h t (by omega) (by omega)).mpr ⟨by omega, by omega⟩) c1
    rw [show max z a + (min (z + l) b - max z a) = min (z + l) b by omega] at c2
    have c3 := CNT.skip (z + l - min (z + l) b) (fun t h1 h2 w => by have := (h t (by omega) (by omega)).mp w; omega) c2
    rw [show min (z + l) b + (z + l - min (z + l) b) = z + l by omega] at c3
    exact c3
theorem nI_min9 {a b : Nat} (ha : a < 2 ^ 31) (hb : b < 2 ^ 31) : (if nI b < nI a then nI b else nI a) = nI (min a b) := by
  by_cases q : nI b < nI a
  · have w := Int32.lt_iff_toInt_lt.mp q
    rw [nI_toInt ha, nI_toInt hb] at w
    rw [if_pos q, show min a b = b by omega]
  · have w : (nI a).toInt ≤ (nI b).toInt := Int.not_lt.mp (fun e => q (Int32.lt_iff_toInt_lt.mpr e))
    rw [nI_toInt ha, nI_toInt hb] at w
    rw [if_neg q, show min a b = a by omega]
theorem nI_mx9 {p q : Nat} (hp : p < 2 ^ 30) (hq : q < 2 ^ 30) : (if 0 < nI p - nI q then nI p - nI q else 0) = nI (p - q) := by
  have e : (nI p - nI q).toInt = (p : Int) - (q : Int) := by
    rw [Int32.toInt_sub, nI_toInt (by omega), nI_toInt (by omega)]
    exact Int.bmod_eq_of_le (by show -(2 ^ 31 : Int) ≤ (p : Int) - q; omega) (by show (p : Int) - q < (2 ^ 31 : Int); omega)
  have z0 : (0 : Int32).toInt = 0 := rfl
  by_cases w : 0 < nI p - nI q
  · have t := Int32.lt_iff_toInt_lt.mp w
    rw [if_pos w]
    exact nI_sub (by omega)
  · have t : ¬ (0 : Int32).toInt < (nI p - nI q).toInt := fun c => w (Int32.lt_iff_toInt_lt.mpr c)
    rw [if_neg w, show p - q = 0 by omega]
    rfl
/-- a load of the set: what it adds -/
theorem au_in (hz : z = mixN L s m) (hm : m < 20) (hb : ¬ (s >>> (nI m &&& 31)) &&& 1 = 0) (el : L m = nI l) (hl : l < 2 ^ 31) (hk : K m = k) (c : CNT (AUQ K L s k a b) z x) : CNT (AUQ K L s k a b) (z + l) (x + nI (min (z + l) b - max z a)) := by
  have e1 : mixN L s (m + 1) = z + l := by rw [hz]; exact mixN_1 hb el hl
  refine au_yes (fun t h1 h2 => ⟨fun w => w.1, fun w => ⟨w, m, hm, hb, ⟨by omega, by omega⟩, hk⟩⟩) c
theorem au_out (hz : z = mixN L s m) (hb : ¬ (s >>> (nI m &&& 31)) &&& 1 = 0) (el : L m = nI l) (hl : l < 2 ^ 31) (hk : ¬ K m = k) (c : CNT (AUQ K L s k a b) z x) : CNT (AUQ K L s k a b) (z + l) (x + 0) := by
  rw [Int32.add_zero]
  have e1 : mixN L s (m + 1) = z + l := by rw [hz]; exact mixN_1 hb el hl
  refine CNT.skip l (fun t h1 h2 w => ?_) c
  obtain ⟨-, i, hi, -, h3, h4⟩ := w
  have e := au_one h3.1 h3.2 (m := m) (by omega) (by omega)
  subst e
  exact hk h4
theorem au_step (hm : m < 20) (h1 : l < mixN L s (m + 1)) (h2 : ∀ q : Nat, q < m → ¬ l < mixN L s (q + 1)) (hab : a ≤ l ∧ l < b) : AUQ K L s k a b l ↔ K m = k := by
  obtain ⟨hb, h3⟩ := au_bit h1 h2
  constructor
  · rintro ⟨-, i, hi, -, h4, h5⟩
    have e := au_one h4.1 h4.2 h3 h1
    subst e
    exact h5
  · intro w
    exact ⟨hab, m, hm, hb, ⟨h3, h1⟩, w⟩
end AUS
theorem au_h1 {cn c3 : Nat → Nat} {Fn F3 : Nat → Nat → Int32} (hM : IM c3 F3) (e13 : cn 13 = c3 63) (e12 : cn 12 = c3 62) (e160 : ∀ k : Nat, k < cn 13 → Fn 160 k = F3 67 k) (e161 : ∀ k : Nat, k < cn 13 → Fn 161 k = F3 68 k) (e162 : ∀ k : Nat, k < cn 13 → Fn 162 k = F3 69 k) (eo : ∀ k : Nat, k < cn 13 → (Fn 161 k).toInt < (Fn 162 k).toInt) (h40 : cn 13 ≤ 40) : ∀ p : Nat, p < cn 13 → ∃ j a b : Nat, (j < cn 12 ∧ Fn 160 p = nI j) ∧ Fn 161 p = nI a ∧ Fn 162 p = nI b ∧ a < b ∧ b ≤ 8000 := fun p hp => by
  obtain ⟨j, hj, ej⟩ := hM.e67 p (by omega)
  obtain ⟨a, ha, ea⟩ := hM.e68 p (by omega)
  obtain ⟨b, hb, eb⟩ := hM.e69 p (by omega)
  have o := eo p hp
  rw [e161 p hp, e162 p hp, ea, eb, nI_toInt (by omega), nI_toInt (by omega)] at o
  exact ⟨j, a, b, ⟨by omega, (e160 p hp).trans ej⟩, (e161 p hp).trans ea, (e162 p hp).trans eb, by omega, hb⟩
theorem au_h2 {cn c3 : Nat → Nat} {Fn F3 : Nat → Nat → Int32} (hM : IM c3 F3) (e122 : ∀ k : Nat, k < cn 11 → Fn 122 k = F3 10 k) (h60 : cn 11 ≤ 60) : ∀ i : Nat, i < cn 11 → ∃ a : Nat, a ≤ 400 ∧ Fn 122 i = nI a := fun i hi => by
  obtain ⟨a, ha, ea⟩ := hM.e10 i (by omega)
  exact ⟨a, ha, (e122 i hi).trans ea⟩
theorem CNT.skip0 {P : Nat → Prop} {m : Nat} (h : ∀ l : Nat, l < m → ¬ P l) : CNT P m 0 := by
  have c := CNT.skip (P := P) (n := 0) (x := 0) m (fun l _ h2 => h l (by omega)) rfl
  rw [Nat.zero_add] at c
  exact c



set_option maxRecDepth 100000 in
set_option maxHeartbeats 4000000 in
theorem q_Eaudit (l : Launch) (D : va_G) (cI cB cZ : ClassId) (zz qq vv : Nat) (bt : Nat → Int32) (g : Nat → Nat) (ad : Nat → Nat → Nat) (cn : Nat → Nat) (In : Nat → Int32) (Fn : Nat → Nat → Int32) (v0 v1 : Int32) (hB : CBX cn) (hau : ∀ p : Nat, p < cn 13 → ∃ j a b : Nat, (j < cn 12 ∧ Fn 160 p = nI j) ∧ Fn 161 p = nI a ∧ Fn 162 p = nI b ∧ a < b ∧ b ≤ 8000) (hli : ∀ i : Nat, i < cn 11 → ∃ a : Nat, a ≤ 400 ∧ Fn 122 i = nI a) (hbi : ∀ j : Nat, j < cn 12 → ∀ i : Nat, i < 20 → ¬ (Fn 144 j >>> (nI i &&& 31)) &&& 1 = 0 → i < cn 11) : Met l yX11_audit (CWS yX11_audit cX11_audit 11 (some .int)) (RM 4 0 0) (PBrx [.ref (g 0), .int v0, .int v1] D cI cB cZ zz qq vv bt (wX cI (D.1 99) zz g ad cn In Fn)) (vp_Si (fun r => (((0 ≤ v0.toInt ∧ v0.toInt < (cn 13 : Int)) ∧ 0 ≤ v1.toInt ∧ v1.toInt < (cn 10 : Int)) ∧ CNT (AUQ (Fn 120) (Fn 122) (Fn 144 (Fn 160 v0.toInt.toNat).toInt.toNat) v1 (Fn 161 v0.toInt.toNat).toInt.toNat (Fn 162 v0.toInt.toNat).toInt.toNat) (mixN (Fn 122) (Fn 144 (Fn 160 v0.toInt.toNat).toInt.toNat) 20) r) ∨ (¬ ((0 ≤ v0.toInt ∧ v0.toInt < (cn 13 : Int)) ∧ 0 ≤ v1.toInt ∧ v1.toInt < (cn 10 : Int)) ∧ r = -1))) 0 0 (fun _ => False) := by
  refine en_rx rfl pn_RX11 (Nat.le_of_ble_eq_true rfl) (fun p e s m below meth c hx hb hml hown S hr hlocks hnm hP hK hXS hS ls hl => ?_)
  have hl : lv_has ls 11 [(0, .ref (g 0)), (1, .int v0), (2, .int v1)] := hl
  have hb_cn : Hid (CBX cn) := hB
  replace hB : CBXh cn := hB
  refine lv_aload_n hx hb (oc_42 0 shX11_audit_0) rfl (lvA0 hl) ?_
  refine lv_iload_n hx hb (oc_27 1 (aq_1 shX11_audit_0)) rfl (lvA1 hl) ?_
  refine va_csq (runV_rxa (As := [.int v0]) (rest := []) S (q_XproofAt l D cI cB cZ zz qq vv bt g ad cn In Fn v0 hB) kV_RX11_422 hK hXS hS hP 0 xo_0 rfl rfl ⟨Nat.le_of_ble_eq_true rfl, Nat.le_of_ble_eq_true rfl⟩ ⟨Nat.le_of_ble_eq_true rfl, Nat.le_of_ble_eq_true rfl⟩ rfl hl.1 rfl (Nat.le_of_ble_eq_true rfl) (oc_182 2 (aq_2 shX11_audit_0) uw_1_166)) (fun r_1 h_2 => ?_)
  rcases h_2 with ⟨m9, em9, hm9, rfl⟩ | ⟨hm9, rfl⟩
  ·
    obtain ⟨j9, a9, b9, ⟨hj9, ej9⟩, ea9, eb9, hab9, hb8⟩ := hau m9 hm9
    refine lv_astore_n (lv' := [(3, .ref (ad 13 m9)), (0, .ref (g 0)), (1, .int v0), (2, .int v1)]) hx hb dX11_audit_5 rfl hl (ltb rfl) rfl (fun ls hl => ?_)
    refine lv_aload_n hx hb dX11_audit_6 rfl (lvA0 hl) ?_
    refine lv_ifnonnull (tgt := 14) hx hb dX11_audit_7 rfl ?_
    refine lv_aload_n hx hb (oc_42 14 (aq_14 shX11_audit_0)) rfl (lvA1 hl) ?_
    refine lv_aload_n hx hb (oc_45 15 (aq_15 shX11_audit_0)) rfl (lvA0 hl) ?_
    have kf_1 : m9 < cn 13 := by (first | omega | (have zz0 := Hid.u hb_cn; omega))
    refine gf_RX11_402 S hK hP _ (xf_3 kf_1) (v := .int ((Fn 160) m9)) rfl (oc_180 16 (aq_16 shX11_audit_0) uw_1_146) ?_
    refine lv_topi (fun y_3 ey_3 => ?_)
    obtain rfl : y_3 = (nI j9) := ey_3.trans ej9
    refine va_csq (runV_rxa (As := [.int (nI j9)]) (rest := []) S (q_XbatchAt l D cI cB cZ zz qq vv bt g ad cn In Fn (nI j9) hB) kV_RX11_382 hK hXS hS hP 0 xo_0 rfl rfl ⟨Nat.le_of_ble_eq_true rfl, Nat.le_of_ble_eq_true rfl⟩ ⟨Nat.le_of_ble_eq_true rfl, Nat.le_of_ble_eq_true rfl⟩ rfl hl.1 rfl (Nat.le_of_ble_eq_true rfl) (oc_182 19 (aq_19 shX11_audit_0) uw_1_126)) (fun r_4 h_5 => ?_)
    rcases h_5 with ⟨m8, em8, hm8, rfl⟩ | ⟨hm8, rfl⟩
    ·
      have tj9 : (nI j9).toInt = (j9 : Int) := nI_toInt (by (first | omega | (have zz0 := Hid.u hb_cn; omega)))
      obtain rfl : j9 = m8 := (by (first | omega | (have zz0 := Hid.u hb_cn; omega)))
      refine lv_astore (lv' := [(4, .ref (ad 12 j9)), (3, .ref (ad 13 m9)), (0, .ref (g 0)), (1, .int v0), (2, .int v1)]) hx hb dX11_audit_22 hl (ltb rfl) rfl (fun ls hl => ?_)
      refine lv_aload_n hx hb dX11_audit_24 rfl (lvA1 hl) ?_
      refine lv_ifnull hx hb dX11_audit_25 ?_
      refine lv_aload hx hb (oc_25 28 (aq_4 shX11_audit_24) ub_4) (lvA0 hl) ?_
      refine lv_ifnull hx hb (oc_198 30 (aq_6 shX11_audit_24) sgw_0_11) ?_
      refine lv_aload_n hx hb (oc_42 33 (aq_9 shX11_audit_24)) rfl (lvA2 hl) ?_
      refine lv_iload_n hx hb (oc_28 34 (aq_10 shX11_audit_24)) rfl (lvA4 hl) ?_
      refine va_csq (runV_rxa (As := [.int v1]) (rest := []) S (q_XkitchenAt l D cI cB cZ zz qq vv bt g ad cn In Fn v1 hB) kV_RX11_114 hK hXS hS hP 0 xo_0 rfl rfl ⟨Nat.le_of_ble_eq_true rfl, Nat.le_of_ble_eq_true rfl⟩ ⟨Nat.le_of_ble_eq_true rfl, Nat.le_of_ble_eq_true rfl⟩ rfl hl.1 rfl (Nat.le_of_ble_eq_true rfl) (oc_182 35 (aq_11 shX11_audit_24) uw_0_114)) (fun r_6 h_7 => ?_)
      rcases h_7 with ⟨mr_6, er_6, hr_6, rfl⟩ | ⟨hr_6, rfl⟩
      ·
        refine lv_ifnonnull (tgt := 43) hx hb dX11_audit_38 rfl ?_
        refine lv_iconst (v := 0) hx hb (oc_3 43 (aq_19 shX11_audit_24)) kic_0 ?_
        refine lv_istore (lv' := [(5, .int 0), (4, .ref (ad 12 j9)), (3, .ref (ad 13 m9)), (0, .ref (g 0)), (1, .int v0), (2, .int v1)]) hx hb (oc_54 44 (aq_20 shX11_audit_24) ub_5) hl (ltb rfl) rfl (fun ls hl => ?_)
        refine lv_iconst (v := 0) hx hb (oc_3 46 (aq_22 shX11_audit_24)) kic_0 ?_
        refine lv_istore (lv' := [(6, .int 0), (5, .int 0), (4, .ref (ad 12 j9)), (3, .ref (ad 13 m9)), (0, .ref (g 0)), (1, .int v0), (2, .int v1)]) hx hb (oc_54 47 (aq_23 shX11_audit_24) ub_6) hl (ltb rfl) rfl (fun ls hl => ?_)
        refine lv_iconst (v := 0) hx hb (oc_3 49 shX11_audit_49) kic_0 ?_
        refine lv_istore (lv' := [(7, .int 0), (6, .int 0), (5, .int 0), (4, .ref (ad 12 j9)), (3, .ref (ad 13 m9)), (0, .ref (g 0)), (1, .int v0), (2, .int v1)]) hx hb (oc_54 50 (aq_1 shX11_audit_49) ub_7) hl (ltb rfl) rfl (fun ls hl => ?_)
        have lp_52 : ∀ (n : Nat) (i52 : Nat) (x52_5 : Int32) (z6 : Nat) , 20 - i52 < n → (i52 ≤ 20 ∧ (z6 = mixN (Fn 122) (Fn 144 j9) i52) ∧ (CNT (AUQ (Fn 120) (Fn 122) (Fn 144 j9) v1 a9 b9) z6 x52_5) ∧ (z6 ≤ 400 * i52)) → ∀ ls : Array Slot, lv_has ls 11 [(7, .int (nI i52)), (6, .int (nI z6)), (5, .int x52_5), (4, .ref (ad 12 j9)), (3, .ref (ad 13 m9)), (0, .ref (g 0)), (1, .int v0), (2, .int v1)] → W p l e (RM 4 0 0) s m ([.ref (g 0), .int v0, .int v1]).toArray below meth c s.heap [] 0 0 (MQ below (vp_Si (fun r => (((0 ≤ v0.toInt ∧ v0.toInt < (cn 13 : Int)) ∧ 0 ≤ v1.toInt ∧ v1.toInt < (cn 10 : Int)) ∧ CNT (AUQ (Fn 120) (Fn 122) (Fn 144 (Fn 160 v0.toInt.toNat).toInt.toNat) v1 (Fn 161 v0.toInt.toNat).toInt.toNat (Fn 162 v0.toInt.toNat).toInt.toNat) (mixN (Fn 122) (Fn 144 (Fn 160 v0.toInt.toNat).toInt.toNat) 20) r) ∨ (¬ ((0 ≤ v0.toInt ∧ v0.toInt < (cn 13 : Int)) ∧ 0 ≤ v1.toInt ∧ v1.toInt < (cn 10 : Int)) ∧ r = -1))) ([.ref (g 0), .int v0, .int v1]).toArray s 0 0 (fun _ => False)) (F0 m 52 ls []) := by
          intro n52
          induction n52 with
          | zero => intros; (first | omega | (have zz0 := Hid.u hb_cn; omega))
          | succ n52 ih52 =>
            intro i52 x52_5 z6 hmu52 hinv52 ls hl
            obtain ⟨hr52, hx52_0, hx52_1, hx52_2⟩ := hinv52
            have ti52 : (nI i52).toInt = (i52 : Int) := nI_toInt (by (first | omega | (have zz0 := Hid.u hb_cn; omega)))
            refine lv_iload hx hb (oc_21 52 (aq_3 shX11_audit_49) ub_7) (lvA0 hl) ?_
            refine lv_bipush (v := 20) hx hb (oc_16 54 (aq_5 shX11_audit_49) sgb_20) kbc_20 ?_
            refine lv_icmp_ge (tgt := 150) hx hb (oc_162 56 (aq_7 shX11_audit_49) sgw_0_94) rfl (fun c_8 => ?_) (fun c_8 => ?_)
            ·
              have tc_8 : (20 : Int) ≤ (nI i52).toInt := Int32.le_iff_toInt_le.mp c_8
              refine lv_iload hx hb (oc_21 150 (aq_3 shX11_audit_147) ub_5) (lvA2 hl) ?_
              exact W.iret (v := x52_5) hx hb hr (fun t ht hW => ⟨x52_5, rfl, (Or.inl ⟨by (first | omega | (have zz0 := Hid.u hb_cn; omega)), by have e9 : i52 = 20 := (by (first | omega | (have zz0 := Hid.u hb_cn; omega))); rw [show v0.toInt.toNat = m9 by (first | omega | (have zz0 := Hid.u hb_cn; omega)), ej9, ea9, eb9, nI_tn (by (first | omega | (have zz0 := Hid.u hb_cn; omega))), nI_tn (by (first | omega | (have zz0 := Hid.u hb_cn; omega))), nI_tn (by (first | omega | (have zz0 := Hid.u hb_cn; omega)))]; rw [e9] at hx52_0; rw [← hx52_0]; exact hx52_1⟩), ht⟩) (fun _ h => absurd h List.not_mem_nil) (oc_172 152 (aq_5 shX11_audit_147))
            ·
              have tc_8 : ((nI i52).toInt : Int) < 20 := Int32.lt_iff_toInt_lt.mp (Int32.not_le.mp c_8)
              refine lv_aload_n hx hb (oc_42 59 (aq_10 shX11_audit_49)) rfl (lvA5 hl) ?_
              refine lv_iload hx hb (oc_21 60 (aq_11 shX11_audit_49) ub_7) (lvA0 hl) ?_
              refine va_csq (runV_rxa (As := [.int (nI i52)]) (rest := []) S (q_XloadAt l D cI cB cZ zz qq vv bt g ad cn In Fn (nI i52) hB) kV_RX11_148 hK hXS hS hP 0 xo_0 rfl rfl ⟨Nat.le_of_ble_eq_true rfl, Nat.le_of_ble_eq_true rfl⟩ ⟨Nat.le_of_ble_eq_true rfl, Nat.le_of_ble_eq_true rfl⟩ rfl hl.1 rfl (Nat.le_of_ble_eq_true rfl) (oc_182 62 (aq_13 shX11_audit_49) uw_0_148)) (fun r_9 h_10 => ?_)
              rcases h_10 with ⟨m9, em9, hm9, rfl⟩ | ⟨hm9, rfl⟩
              ·
                obtain rfl : i52 = m9 := (by (first | omega | (have zz0 := Hid.u hb_cn; omega)))
                refine lv_astore (lv' := [(8, .ref (ad 11 i52)), (7, .int (nI i52)), (6, .int (nI z6)), (5, .int x52_5), (4, .ref (ad 12 j9)), (3, .ref (ad 13 m9)), (0, .ref (g 0)), (1, .int v0), (2, .int v1)]) hx hb dX11_audit_65 hl (ltb rfl) rfl (fun ls hl => ?_)
                refine lv_aload hx hb dX11_audit_67 (lvA0 hl) ?_
                refine lv_ifnull hx hb dX11_audit_69 ?_
                refine lv_aload hx hb (oc_25 72 (aq_23 shX11_audit_49) ub_4) (lvA4 hl) ?_
                refine lv_iload hx hb (oc_21 74 shX11_audit_74 ub_7) (lvA1 hl) ?_
                have kf_2 : j9 < cn 12 := by (first | omega | (have zz0 := Hid.u hb_cn; omega))
                refine vp_callSi (runV_rxa (As := [.int (nI i52)]) (rest := []) S (q_Ehas l D cI cB cZ zz qq vv bt g ad cn In Fn j9 (nI i52) hB (by (first | omega | (have zz0 := Hid.u hb_cn; omega)))) kV_RX11_378 hK hXS hS hP _ (xf_2 kf_2) rfl rfl ⟨Nat.le_of_ble_eq_true rfl, Nat.le_of_ble_eq_true rfl⟩ ⟨Nat.le_of_ble_eq_true rfl, Nat.le_of_ble_eq_true rfl⟩ rfl hl.1 rfl (Nat.le_of_ble_eq_true rfl) (oc_182 76 (aq_2 shX11_audit_74) uw_1_122)) (fun r_11 h_12 => ?_)
                rcases h_12 with ⟨rfl, h_12⟩ | ⟨rfl, h_12⟩
                ·
                  refine lv_if_ne (tgt := 85) hx hb dX11_audit_79 rfl (fun _ => ?_) (fun h => absurd h cq_eq_1_0)
                  refine lv_iload hx hb (oc_21 85 (aq_11 shX11_audit_74) ub_6) (lvA2 hl) ?_
                  refine lv_aload hx hb (oc_25 87 (aq_13 shX11_audit_74) ub_8) (lvA0 hl) ?_
                  have kf_3 : i52 < cn 11 := by (first | omega | (have zz0 := Hid.u hb_cn; omega))
                  refine gf_RX11_202 S hK hP _ (xf_1 kf_3) (v := .int ((Fn 122) i52)) rfl (oc_180 89 (aq_15 shX11_audit_74) uw_0_202) ?_
                  obtain ⟨l9, hl9, el9⟩ := hli i52 (by (first | omega | (have zz0 := Hid.u hb_cn; omega)))
                  refine lv_topi (fun y_13 ey_13 => ?_)
                  obtain rfl : y_13 = (nI l9) := ey_13.trans el9
                  refine lv_iadd hx hb (oc_96 92 (aq_18 shX11_audit_74)) ?_
                  refine lv_topi (fun y_14 ey_14 => ?_)
                  obtain rfl : y_14 = (nI (z6 + l9)) := ey_14.trans (nI_add z6 l9)
                  refine lv_istore (lv' := [(9, .int (nI (z6 + l9))), (8, .ref (ad 11 i52)), (7, .int (nI i52)), (6, .int (nI z6)), (5, .int x52_5), (4, .ref (ad 12 j9)), (3, .ref (ad 13 m9)), (0, .ref (g 0)), (1, .int v0), (2, .int v1)]) hx hb (oc_54 93 (aq_19 shX11_audit_74) ub_9) hl (ltb rfl) rfl (fun ls hl => ?_)
                  refine lv_iload hx hb (oc_21 95 (aq_21 shX11_audit_74) ub_9) (lvA0 hl) ?_
                  refine lv_aload_n hx hb (oc_45 97 (aq_23 shX11_audit_74)) rfl (lvA6 hl) ?_
                  refine gf_RX11_408 S hK hP _ (xf_3 kf_1) (v := .int ((Fn 162) m9)) rfl (oc_180 98 shX11_audit_98 uw_1_152) ?_
                  refine lv_topi (fun y_15 ey_15 => ?_)
                  obtain rfl : y_15 = (nI b9) := ey_15.trans eb9
                  refine va_mmin hx hb (by rw [hml]; exact hl.1.symm) hown (S.2.2.2.2 _ (wk4_3 7 rfl rfl)) (S.2.2.2.2 _ (wk2_13 10 rfl rfl)) (S.2.2.2.2 _ (wk1_0 3 rfl rfl)) (S.2.2.2.2 _ (wk2_13 11 rfl rfl)) (Nat.le_of_ble_eq_true rfl) (Nat.le_of_ble_eq_true rfl) (Nat.le_of_ble_eq_true rfl) (Nat.le_of_ble_eq_true rfl) (oc_184 101 (aq_3 shX11_audit_98) uw_0_227) ?_
                  refine lv_topi (fun y_16 ey_16 => ?_)
                  obtain rfl : y_16 = (nI (min (z6 + l9) b9)) := ey_16.trans (nI_min9 (by (first | omega | (have zz0 := Hid.u hb_cn; omega))) (by (first | omega | (have zz0 := Hid.u hb_cn; omega))))
                  refine lv_iload hx hb (oc_21 104 (aq_6 shX11_audit_98) ub_6) (lvA3 hl) ?_
                  refine lv_aload_n hx hb (oc_45 106 (aq_8 shX11_audit_98)) rfl (lvA6 hl) ?_
                  refine gf_RX11_405 S hK hP _ (xf_3 kf_1) (v := .int ((Fn 161) m9)) rfl (oc_180 107 (aq_9 shX11_audit_98) uw_1_149) ?_
                  refine lv_topi (fun y_17 ey_17 => ?_)
                  obtain rfl : y_17 = (nI a9) := ey_17.trans ea9
                  refine va_mmax hx hb (by rw [hml]; exact hl.1.symm) hown (S.2.2.2.2 _ (wk4_3 8 rfl rfl)) (S.2.2.2.2 _ (wk1_3 6 rfl rfl)) (S.2.2.2.2 _ (wk1_0 3 rfl rfl)) (S.2.2.2.2 _ (wk1_3 7 rfl rfl)) (Nat.le_of_ble_eq_true rfl) (Nat.le_of_ble_eq_true rfl) (Nat.le_of_ble_eq_true rfl) (Nat.le_of_ble_eq_true rfl) (oc_184 110 (aq_12 shX11_audit_98) uw_0_232) ?_
                  refine lv_topi (fun y_18 ey_18 => ?_)
                  obtain rfl : y_18 = (nI (max z6 a9)) := ey_18.trans (nI_max9 (by (first | omega | (have zz0 := Hid.u hb_cn; omega))) (by (first | omega | (have zz0 := Hid.u hb_cn; omega))))
                  refine lv_isub hx hb (oc_100 113 (aq_15 shX11_audit_98)) ?_
                  refine lv_istore (lv' := [(10, .int ((nI (min (z6 + l9) b9)) - (nI (max z6 a9)))), (9, .int (nI (z6 + l9))), (8, .ref (ad 11 i52)), (7, .int (nI i52)), (6, .int (nI z6)), (5, .int x52_5), (4, .ref (ad 12 j9)), (3, .ref (ad 13 m9)), (0, .ref (g 0)), (1, .int v0), (2, .int v1)]) hx hb (oc_54 114 (aq_16 shX11_audit_98) ub_10) hl (ltb rfl) rfl (fun ls hl => ?_)
                  refine lv_iload hx hb (oc_21 116 (aq_18 shX11_audit_98) ub_5) (lvA5 hl) ?_
                  refine lv_aload hx hb (oc_25 118 (aq_20 shX11_audit_98) ub_8) (lvA2 hl) ?_
                  refine gf_RX11_211 S hK hP _ (xf_1 kf_3) (v := .int ((Fn 120) i52)) rfl (oc_180 120 (aq_22 shX11_audit_98) uw_0_211) ?_
                  refine lv_iload_n hx hb (oc_28 123 shX11_audit_123) rfl (lvA10 hl) ?_
                  refine lv_icmp_ne (tgt := 136) hx hb (oc_160 124 (aq_1 shX11_audit_123) sgw_0_12) rfl (fun c_19 => ?_) (fun c_19 => ?_)
                  ·
                    have tc_19 : (((Fn 120) i52).toInt : Int) ≠ v1.toInt := fun q => c_19 (Int32.toInt_inj.mp q)
                    refine lv_iconst (v := 0) hx hb (oc_3 136 (aq_13 shX11_audit_123)) kic_0 ?_
                    refine lv_iadd hx hb dX11_audit_137 ?_
                    refine lv_istore (lv' := [(5, .int (x52_5 + 0)), (10, .int ((nI (min (z6 + l9) b9)) - (nI (max z6 a9)))), (9, .int (nI (z6 + l9))), (8, .ref (ad 11 i52)), (7, .int (nI i52)), (6, .int (nI z6)), (4, .ref (ad 12 j9)), (3, .ref (ad 13 m9)), (0, .ref (g 0)), (1, .int v0), (2, .int v1)]) hx hb dX11_audit_138 hl (ltb rfl) rfl (fun ls hl => ?_)
                    refine lv_iload hx hb dX11_audit_140 (lvA2 hl) ?_
                    refine lv_istore (lv' := [(6, .int (nI (z6 + l9))), (5, .int (x52_5 + 0)), (10, .int ((nI (min (z6 + l9) b9)) - (nI (max z6 a9)))), (9, .int (nI (z6 + l9))), (8, .ref (ad 11 i52)), (7, .int (nI i52)), (4, .ref (ad 12 j9)), (3, .ref (ad 13 m9)), (0, .ref (g 0)), (1, .int v0), (2, .int v1)]) hx hb dX11_audit_142 hl (ltb rfl) rfl (fun ls hl => ?_)
                    refine lv_iinc (v := (nI (i52 + 1))) (lv' := [(7, .int (nI (i52 + 1))), (6, .int (nI (z6 + l9))), (5, .int (x52_5 + 0)), (10, .int ((nI (min (z6 + l9) b9)) - (nI (max z6 a9)))), (9, .int (nI (z6 + l9))), (8, .ref (ad 11 i52)), (4, .ref (ad 12 j9)), (3, .ref (ad 13 m9)), (0, .ref (g 0)), (1, .int v0), (2, .int v1)]) hx hb dX11_audit_144 hl (k := 5) rfl (nI_1 _) (ltb rfl) rfl (fun ls hl => ?_)
                    refine lv_goto (tgt := 52) hx hb dX11_audit_147 rfl ?_
                    exact ih52 (i52 + 1) (x52_5 + 0) (z6 + l9) (by (first | omega | (have zz0 := Hid.u hb_cn; omega))) ⟨(by (first | omega | (have zz0 := Hid.u hb_cn; omega))), (by rw [hx52_0]; exact (mixN_1 h_12 el9 (by (first | omega | (have zz0 := Hid.u hb_cn; omega)))).symm), (by first | exact au_in hx52_0 (by (first | omega | (have zz0 := Hid.u hb_cn; omega))) h_12 el9 (by (first | omega | (have zz0 := Hid.u hb_cn; omega))) (by first | assumption | exact Int32.toInt_inj.mp (by assumption)) hx52_1 | exact au_out hx52_0 h_12 el9 (by (first | omega | (have zz0 := Hid.u hb_cn; omega))) (by first | assumption | exact fun q => absurd (congrArg Int32.toInt q) (by assumption)) hx52_1), (by (first | omega | (have zz0 := Hid.u hb_cn; omega)))⟩ ls (lv_sub hl [0, 1, 2, 6, 7, 8, 9, 10] rfl)
                  ·
                    have tc_19 : (((Fn 120) i52).toInt : Int) = v1.toInt := congrArg Int32.toInt c_19
                    refine lv_iconst (v := 0) hx hb (oc_3 127 (aq_4 shX11_audit_123)) kic_0 ?_
                    refine lv_iload hx hb (oc_21 128 (aq_5 shX11_audit_123) ub_10) (lvA0 hl) ?_
                    refine va_mmax hx hb (by rw [hml]; exact hl.1.symm) hown (S.2.2.2.2 _ (wk4_3 8 rfl rfl)) (S.2.2.2.2 _ (wk1_3 6 rfl rfl)) (S.2.2.2.2 _ (wk1_0 3 rfl rfl)) (S.2.2.2.2 _ (wk1_3 7 rfl rfl)) (Nat.le_of_ble_eq_true rfl) (Nat.le_of_ble_eq_true rfl) (Nat.le_of_ble_eq_true rfl) (Nat.le_of_ble_eq_true rfl) (oc_184 130 (aq_7 shX11_audit_123) uw_0_232) ?_
                    refine lv_topi (fun y_20 ey_20 => ?_)
                    obtain rfl : y_20 = (nI (min (z6 + l9) b9 - max z6 a9)) := ey_20.trans (nI_mx9 (by (first | omega | (have zz0 := Hid.u hb_cn; omega))) (by (first | omega | (have zz0 := Hid.u hb_cn; omega))))
                    refine lv_goto (tgt := 137) hx hb (oc_167 133 (aq_10 shX11_audit_123) sgw_0_4) rfl ?_
                    refine lv_iadd hx hb dX11_audit_137 ?_
                    refine lv_istore (lv' := [(5, .int (x52_5 + (nI (min (z6 + l9) b9 - max z6 a9)))), (10, .int ((nI (min (z6 + l9) b9)) - (nI (max z6 a9)))), (9, .int (nI (z6 + l9))), (8, .ref (ad 11 i52)), (7, .int (nI i52)), (6, .int (nI z6)), (4, .ref (ad 12 j9)), (3, .ref (ad 13 m9)), (0, .ref (g 0)), (1, .int v0), (2, .int v1)]) hx hb dX11_audit_138 hl (ltb rfl) rfl (fun ls hl => ?_)
                    refine lv_iload hx hb dX11_audit_140 (lvA2 hl) ?_
                    refine lv_istore (lv' := [(6, .int (nI (z6 + l9))), (5, .int (x52_5 + (nI (min (z6 + l9) b9 - max z6 a9)))), (10, .int ((nI (min (z6 + l9) b9)) - (nI (max z6 a9)))), (9, .int (nI (z6 + l9))), (8, .ref (ad 11 i52)), (7, .int (nI i52)), (4, .ref (ad 12 j9)), (3, .ref (ad 13 m9)), (0, .ref (g 0)), (1, .int v0), (2, .int v1)]) hx hb dX11_audit_142 hl (ltb rfl) rfl (fun ls hl => ?_)
                    refine lv_iinc (v := (nI (i52 + 1))) (lv' := [(7, .int (nI (i52 + 1))), (6, .int (nI (z6 + l9))), (5, .int (x52_5 + (nI (min (z6 + l9) b9 - max z6 a9)))), (10, .int ((nI (min (z6 + l9) b9)) - (nI (max z6 a9)))), (9, .int (nI (z6 + l9))), (8, .ref (ad 11 i52)), (4, .ref (ad 12 j9)), (3, .ref (ad 13 m9)), (0, .ref (g 0)), (1, .int v0), (2, .int v1)]) hx hb dX11_audit_144 hl (k := 5) rfl (nI_1 _) (ltb rfl) rfl (fun ls hl => ?_)
                    refine lv_goto (tgt := 52) hx hb dX11_audit_147 rfl ?_
                    exact ih52 (i52 + 1) (x52_5 + (nI (min (z6 + l9) b9 - max z6 a9))) (z6 + l9) (by (first | omega | (have zz0 := Hid.u hb_cn; omega))) ⟨(by (first | omega | (have zz0 := Hid.u hb_cn; omega))), (by rw [hx52_0]; exact (mixN_1 h_12 el9 (by (first | omega | (have zz0 := Hid.u hb_cn; omega)))).symm), (by first | exact au_in hx52_0 (by (first | omega | (have zz0 := Hid.u hb_cn; omega))) h_12 el9 (by (first | omega | (have zz0 := Hid.u hb_cn; omega))) (by first | assumption | exact Int32.toInt_inj.mp (by assumption)) hx52_1 | exact au_out hx52_0 h_12 el9 (by (first | omega | (have zz0 := Hid.u hb_cn; omega))) (by first | assumption | exact fun q => absurd (congrArg Int32.toInt q) (by assumption)) hx52_1), (by (first | omega | (have zz0 := Hid.u hb_cn; omega)))⟩ ls (lv_sub hl [0, 1, 2, 6, 7, 8, 9, 10] rfl)
                ·
                  refine lv_if_ne (tgt := 85) hx hb dX11_audit_79 rfl (fun h => absurd h cq_eq_0_0) (fun _ => ?_)
                  refine lv_goto (tgt := 144) hx hb (oc_167 82 (aq_8 shX11_audit_74) sgw_0_62) rfl ?_
                  refine lv_iinc (v := (nI (i52 + 1))) (lv' := [(7, .int (nI (i52 + 1))), (8, .ref (ad 11 i52)), (6, .int (nI z6)), (5, .int x52_5), (4, .ref (ad 12 j9)), (3, .ref (ad 13 m9)), (0, .ref (g 0)), (1, .int v0), (2, .int v1)]) hx hb dX11_audit_144 hl (k := 1) rfl (nI_1 _) (ltb rfl) rfl (fun ls hl => ?_)
                  refine lv_goto (tgt := 52) hx hb dX11_audit_147 rfl ?_
                  exact ih52 (i52 + 1) x52_5 z6 (by (first | omega | (have zz0 := Hid.u hb_cn; omega))) ⟨(by (first | omega | (have zz0 := Hid.u hb_cn; omega))), (by rw [mixN_0 h_12]; exact hx52_0), hx52_1, (by (first | omega | (have zz0 := Hid.u hb_cn; omega)))⟩ ls (lv_sub hl [0, 2, 3, 4, 5, 6, 7, 8] rfl)
              ·
                refine lv_astoreN (lv' := [(8, .null), (7, .int (nI i52)), (6, .int (nI z6)), (5, .int x52_5), (4, .ref (ad 12 j9)), (3, .ref (ad 13 m9)), (0, .ref (g 0)), (1, .int v0), (2, .int v1)]) hx hb dX11_audit_65 hl (ltb rfl) rfl (fun ls hl => ?_)
                refine lv_aloadN hx hb dX11_audit_67 (lvA0 hl) ?_
                refine lv_ifnullN (tgt := 144) hx hb dX11_audit_69 rfl ?_
                refine lv_iinc (v := (nI (i52 + 1))) (lv' := [(7, .int (nI (i52 + 1))), (8, .null), (6, .int (nI z6)), (5, .int x52_5), (4, .ref (ad 12 j9)), (3, .ref (ad 13 m9)), (0, .ref (g 0)), (1, .int v0), (2, .int v1)]) hx hb dX11_audit_144 hl (k := 1) rfl (nI_1 _) (ltb rfl) rfl (fun ls hl => ?_)
                refine lv_goto (tgt := 52) hx hb dX11_audit_147 rfl ?_
                exact ih52 (i52 + 1) x52_5 z6 (by (first | omega | (have zz0 := Hid.u hb_cn; omega))) ⟨(by (first | omega | (have zz0 := Hid.u hb_cn; omega))), (by rw [mixN_0 (Decidable.byContradiction (fun w9 => by have := hbi j9 hj9 i52 (by (first | omega | (have zz0 := Hid.u hb_cn; omega))) w9; (first | omega | (have zz0 := Hid.u hb_cn; omega))))]; exact hx52_0), hx52_1, (by (first | omega | (have zz0 := Hid.u hb_cn; omega)))⟩ ls (lv_sub hl [0, 2, 3, 4, 5, 6, 7, 8] rfl)
        exact lp_52 _ 0 0 0 (Nat.lt_succ_self _) ⟨(by (first | omega | (have zz0 := Hid.u hb_cn; omega))), rfl, rfl, (Nat.zero_le _)⟩ ls (lv_sub hl [0, 1, 2, 3, 4, 5, 6, 7] rfl)
      ·
        refine lv_ifnonnullN hx hb dX11_audit_38 ?_
        refine lv_iconst (v := (-1)) hx hb dX11_audit_41 kic_m1 ?_
        exact W.iret (v := (-1)) hx hb hr (fun t ht hW => ⟨(-1), rfl, (Or.inr ⟨by (first | omega | (have zz0 := Hid.u hb_cn; omega)), rfl⟩), ht⟩) (fun _ h => absurd h List.not_mem_nil) dX11_audit_42
    ·
      have tj9 : (nI j9).toInt = (j9 : Int) := nI_toInt (by (first | omega | (have zz0 := Hid.u hb_cn; omega)))
      exfalso; (first | omega | (have zz0 := Hid.u hb_cn; omega))
  ·
    refine lv_astore_nN (lv' := [(3, .null), (0, .ref (g 0)), (1, .int v0), (2, .int v1)]) hx hb dX11_audit_5 rfl hl (ltb rfl) rfl (fun ls hl => ?_)
    refine lv_aload_nN hx hb dX11_audit_6 rfl (lvA0 hl) ?_
    refine lv_ifnonnullN hx hb dX11_audit_7 ?_
    refine lv_null hx hb (oc_1 10 (aq_10 shX11_audit_0)) ?_
    refine lv_goto (tgt := 22) hx hb (oc_167 11 (aq_11 shX11_audit_0) sgw_0_11) rfl ?_
    refine lv_astoreN (lv' := [(4, .null), (3, .null), (0, .ref (g 0)), (1, .int v0), (2, .int v1)]) hx hb dX11_audit_22 hl (ltb rfl) rfl (fun ls hl => ?_)
    refine lv_aload_nN hx hb dX11_audit_24 rfl (lvA1 hl) ?_
    refine lv_ifnullN (tgt := 41) hx hb dX11_audit_25 rfl ?_
    refine lv_iconst (v := (-1)) hx hb dX11_audit_41 kic_m1 ?_
    exact W.iret (v := (-1)) hx hb hr (fun t ht hW => ⟨(-1), rfl, (Or.inr ⟨by (first | omega | (have zz0 := Hid.u hb_cn; omega)), rfl⟩), ht⟩) (fun _ h => absurd h List.not_mem_nil) dX11_audit_42
set_option maxRecDepth 100000 in
set_option maxHeartbeats 4000000 in
theorem q_audit9 (l : Launch) (D : va_G) (cI cB cZ : ClassId) (g : Nat → Nat) (cn : Nat → Nat) (In : Nat → Int32) (Fn : Nat → Nat → Int32) (v0 v1 : Int32) (hI : IM cn Fn) : Met l yX12_audit (CWS yX12_audit cX12_audit 5 (some .int)) (RM 1 0 0) (PBr [.ref (g 100), .int v0, .int v1] D cI cB cZ (wM cI cB cZ g cn In Fn)) (vp_Si (fun r => (((0 ≤ v0.toInt ∧ v0.toInt < (cn 63 : Int)) ∧ 0 ≤ v1.toInt ∧ v1.toInt < (cn 1 : Int)) ∧ ((Fn 68 v0.toInt.toNat).toInt.toNat ≤ (Fn 69 v0.toInt.toNat).toInt.toNat → CNT (AUQ (Fn 8) (Fn 10) (Fn 64 (Fn 67 v0.toInt.toNat).toInt.toNat) v1 (Fn 68 v0.toInt.toNat).toInt.toNat (Fn 69 v0.toInt.toNat).toInt.toNat) (Fn 69 v0.toInt.toNat).toInt.toNat r)) ∨ (¬ ((0 ≤ v0.toInt ∧ v0.toInt < (cn 63 : Int)) ∧ 0 ≤ v1.toInt ∧ v1.toInt < (cn 1 : Int)) ∧ r = -1))) 0 0 (fun _ => False) := by
  refine en_r rfl pn_RX12 (Nat.le_of_ble_eq_true rfl) (fun p e s m below meth c hx hb hml hown S hr hlocks hnm hP hK hS ls hl => ?_)
  have hl : lv_has ls 5 [(0, .ref (g 100)), (1, .int v0), (2, .int v1)] := hl
  have hi_cn : Hid (CB cn) := hI.b
  refine lv_aload_n hx hb (oc_42 0 shX12_audit_0) rfl (lvA0 hl) ?_
  refine lv_iload_n hx hb (oc_27 1 (aq_1 shX12_audit_0)) rfl (lvA1 hl) ?_
  refine vp_callSi (runV_ra (As := [.int v0]) (rest := []) S (q_isProof l D cI cB cZ g cn In Fn v0 hI) kV_RX12_459 hK hP 0 rfl rfl rfl ⟨Nat.le_of_ble_eq_true rfl, Nat.le_of_ble_eq_true rfl⟩ ⟨Nat.le_of_ble_eq_true rfl, Nat.le_of_ble_eq_true rfl⟩ rfl hl.1 rfl (Nat.le_of_ble_eq_true rfl) (oc_182 2 (aq_2 shX12_audit_0) uw_1_203)) (fun r_1 h_2 => ?_)
  rcases h_2 with ⟨rfl, h_2⟩ | ⟨rfl, h_2⟩
  ·
    have h_2 : 0 ≤ v0.toInt ∧ v0.toInt < ((cn 63) : Int) := h_2
    refine lv_if_eq (tgt := 16) hx hb dX12_audit_5 rfl (fun h => absurd h cq_eq_1_0) (fun _ => ?_)
    refine lv_aload_n hx hb (oc_42 8 (aq_8 shX12_audit_0)) rfl (lvA0 hl) ?_
    refine lv_iload_n hx hb (oc_28 9 (aq_9 shX12_audit_0)) rfl (lvA2 hl) ?_
    refine vp_callSi (runV_ra (As := [.int v1]) (rest := []) S (q_isKitchen l D cI cB cZ g cn In Fn v1 hI) kV_RX12_218 hK hP 0 rfl rfl rfl ⟨Nat.le_of_ble_eq_true rfl, Nat.le_of_ble_eq_true rfl⟩ ⟨Nat.le_of_ble_eq_true rfl, Nat.le_of_ble_eq_true rfl⟩ rfl hl.1 rfl (Nat.le_of_ble_eq_true rfl) (oc_182 10 (aq_10 shX12_audit_0) uw_0_218)) (fun r_3 h_4 => ?_)
    rcases h_4 with ⟨rfl, h_4⟩ | ⟨rfl, h_4⟩
    ·
      have h_4 : 0 ≤ v1.toInt ∧ v1.toInt < ((cn 1) : Int) := h_4
      refine lv_if_ne (tgt := 18) hx hb dX12_audit_13 rfl (fun _ => ?_) (fun h => absurd h cq_eq_1_0)
      obtain ⟨d0, hd0, rfl⟩ := nI_of (x := v0) (fun q => by have := Int32.lt_iff_toInt_lt.mp q; have e : (0 : Int32).toInt = 0 := rfl; (first | omega | (have zz0 := Hid.u hi_cn; omega)))
      have td0 : (nI d0).toInt = (d0 : Int) := nI_toInt hd0
      have zd0 : (nI d0).toInt.toNat = d0 := by (first | omega | (have zz0 := Hid.u hi_cn; omega))
      obtain ⟨b67, hb67, eb67⟩ := hI.e67 d0 (by (first | omega | (have zz0 := Hid.u hi_cn; omega)))
      obtain ⟨a68, ha68, ea68⟩ := hI.e68 d0 (by (first | omega | (have zz0 := Hid.u hi_cn; omega)))
      obtain ⟨b69, hb69, eb69⟩ := hI.e69 d0 (by (first | omega | (have zz0 := Hid.u hi_cn; omega)))
      refine lv_iconst (v := 0) hx hb (oc_3 18 (aq_18 shX12_audit_0)) kic_0 ?_
      refine lv_istore_n (lv' := [(3, .int 0), (0, .ref (g 100)), (1, .int (nI d0)), (2, .int v1)]) hx hb (oc_62 19 (aq_19 shX12_audit_0)) rfl hl (ltb rfl) rfl (fun ls hl => ?_)
      refine lv_aload_n hx hb (oc_42 20 (aq_20 shX12_audit_0)) rfl (lvA1 hl) ?_
      refine gM_150 S hK hP (v := .ref (g 68)) rfl (oc_180 21 (aq_21 shX12_audit_0) uw_0_150) ?_
      refine lv_iload_n hx hb (oc_27 24 shX12_audit_24) rfl (lvA2 hl) ?_
      have kb_1 : d0 < 40 := by (first | omega | (have zz0 := Hid.u hi_cn; omega))
      refine ldM_68 hx hb hK hP (x := (nI a68)) (vp_in_nI kb_1 (ltb rfl)) (nI_clamp (Nat.lt_trans kb_1 (ltb rfl))) ea68 (oc_46 25 (aq_1 shX12_audit_24)) ?_
      refine lv_istore (lv' := [(4, .int (nI a68)), (3, .int 0), (0, .ref (g 100)), (1, .int (nI d0)), (2, .int v1)]) hx hb (oc_54 26 (aq_2 shX12_audit_24) ub_4) hl (ltb rfl) rfl (fun ls hl => ?_)
      have lp_28 : ∀ (n : Nat) (i28 : Nat) (x28_3 : Int32) , b69 - i28 < n → ((a68 ≤ i28 ∧ i28 ≤ 8000 ∧ (a68 ≤ b69 → i28 ≤ b69)) ∧ (CNT (AUQ (Fn 8) (Fn 10) (Fn 64 b67) v1 a68 b69) i28 x28_3)) → ∀ ls : Array Slot, lv_has ls 5 [(4, .int (nI i28)), (3, .int x28_3), (0, .ref (g 100)), (1, .int (nI d0)), (2, .int v1)] → W p l e (RM 1 0 0) s m ([.ref (g 100), .int (nI d0), .int v1]).toArray below meth c s.heap [] 0 0 (MQ below (vp_Si (fun r => (((0 ≤ (nI d0).toInt ∧ (nI d0).toInt < (cn 63 : Int)) ∧ 0 ≤ v1.toInt ∧ v1.toInt < (cn 1 : Int)) ∧ ((Fn 68 (nI d0).toInt.toNat).toInt.toNat ≤ (Fn 69 (nI d0).toInt.toNat).toInt.toNat → CNT (AUQ (Fn 8) (Fn 10) (Fn 64 (Fn 67 (nI d0).toInt.toNat).toInt.toNat) v1 (Fn 68 (nI d0).toInt.toNat).toInt.toNat (Fn 69 (nI d0).toInt.toNat).toInt.toNat) (Fn 69 (nI d0).toInt.toNat).toInt.toNat r)) ∨ (¬ ((0 ≤ (nI d0).toInt ∧ (nI d0).toInt < (cn 63 : Int)) ∧ 0 ≤ v1.toInt ∧ v1.toInt < (cn 1 : Int)) ∧ r = -1))) ([.ref (g 100), .int (nI d0), .int v1]).toArray s 0 0 (fun _ => False)) (F0 m 28 ls []) := by
        intro n28
        induction n28 with
        | zero => intros; (first | omega | (have zz0 := Hid.u hi_cn; omega))
        | succ n28 ih28 =>
          intro i28 x28_3 hmu28 hinv28 ls hl
          obtain ⟨hr28, hx28_0⟩ := hinv28
          have ti28 : (nI i28).toInt = (i28 : Int) := nI_toInt (by (first | omega | (have zz0 := Hid.u hi_cn; omega)))
          refine lv_iload hx hb (oc_21 28 (aq_4 shX12_audit_24) ub_4) (lvA0 hl) ?_
          refine lv_aload_n hx hb (oc_42 30 (aq_6 shX12_audit_24)) rfl (lvA2 hl) ?_
          refine gM_153 S hK hP (v := .ref (g 69)) rfl (oc_180 31 (aq_7 shX12_audit_24) uw_0_153) ?_
          refine lv_iload_n hx hb (oc_27 34 (aq_10 shX12_audit_24)) rfl (lvA3 hl) ?_
          refine ldM_69 hx hb hK hP (x := (nI b69)) (vp_in_nI kb_1 (ltb rfl)) (nI_clamp (Nat.lt_trans kb_1 (ltb rfl))) eb69 (oc_46 35 (aq_11 shX12_audit_24)) ?_
          have : (nI b69).toInt = ((b69 : Nat) : Int) := nI_toInt (by (first | omega | (have zz0 := Hid.u hi_cn; omega)))
          refine lv_icmp_ge (tgt := 74) hx hb (oc_162 36 (aq_12 shX12_audit_24) sgw_0_38) rfl (fun c_5 => ?_) (fun c_5 => ?_)
          ·
            have tc_5 : ((nI b69).toInt : Int) ≤ (nI i28).toInt := Int32.le_iff_toInt_le.mp c_5
            refine lv_iload_n hx hb (oc_29 74 shX12_audit_74) rfl (lvA1 hl) ?_
            exact W.iret (v := x28_3) hx hb hr (fun t ht hW => ⟨x28_3, rfl, (Or.inl ⟨by (first | omega | (have zz0 := Hid.u hi_cn; omega)), fun hab => by simp only [zd0] at hab ⊢; rw [ea68, eb69, nI_tn (by (first | omega | (have zz0 := Hid.u hi_cn; omega))), nI_tn (by (first | omega | (have zz0 := Hid.u hi_cn; omega)))] at hab; rw [eb67, ea68, eb69, nI_tn (by (first | omega | (have zz0 := Hid.u hi_cn; omega))), nI_tn (by (first | omega | (have zz0 := Hid.u hi_cn; omega))), nI_tn (by (first | omega | (have zz0 := Hid.u hi_cn; omega)))]; have e9 : i28 = b69 := (by (first | omega | (have zz0 := Hid.u hi_cn; omega))); rw [← e9]; rw [← e9] at hx28_0; exact hx28_0⟩), ht⟩) (fun _ h => absurd h List.not_mem_nil) (oc_172 75 (aq_1 shX12_audit_74))
          ·
            have tc_5 : ((nI i28).toInt : Int) < (nI b69).toInt := Int32.lt_iff_toInt_lt.mp (Int32.not_le.mp c_5)
            refine lv_iload_n hx hb (oc_29 39 (aq_15 shX12_audit_24)) rfl (lvA1 hl) ?_
            refine lv_aload_n hx hb (oc_42 40 (aq_16 shX12_audit_24)) rfl (lvA2 hl) ?_
            refine gM_25 S hK hP (v := .ref (g 8)) rfl (oc_180 41 (aq_17 shX12_audit_24) uw_0_25) ?_
            refine lv_aload_n hx hb (oc_42 44 (aq_20 shX12_audit_24)) rfl (lvA2 hl) ?_
            refine lv_aload_n hx hb (oc_42 45 (aq_21 shX12_audit_24)) rfl (lvA2 hl) ?_
            refine gM_147 S hK hP (v := .ref (g 67)) rfl (oc_180 46 (aq_22 shX12_audit_24) uw_0_147) ?_
            refine lv_iload_n hx hb (oc_27 49 shX12_audit_49) rfl (lvA3 hl) ?_
            refine ldM_67 hx hb hK hP (x := (nI b67)) (vp_in_nI kb_1 (ltb rfl)) (nI_clamp (Nat.lt_trans kb_1 (ltb rfl))) eb67 (oc_46 50 (aq_1 shX12_audit_49)) ?_
            refine lv_iload hx hb (oc_21 51 (aq_2 shX12_audit_49) ub_4) (lvA0 hl) ?_
            refine vp_callSi (runV_ra (As := [.int (nI b67), .int (nI i28)]) (rest := [.ref (g 8), .int x28_3]) S (q_loadAt9 l D cI cB cZ g cn In Fn b67 i28 hI (by (first | omega | (have zz0 := Hid.u hi_cn; omega))) (by (first | omega | (have zz0 := Hid.u hi_cn; omega)))) kV_RX12_456 hK hP 0 rfl rfl rfl ⟨Nat.le_of_ble_eq_true rfl, Nat.le_of_ble_eq_true rfl⟩ ⟨Nat.le_of_ble_eq_true rfl, Nat.le_of_ble_eq_true rfl⟩ rfl hl.1 rfl (Nat.le_of_ble_eq_true rfl) (oc_182 53 (aq_4 shX12_audit_49) uw_1_200)) (fun r_6 h_7 => ?_)
            rcases h_7 with ⟨mr_6, hmr_6, hlt9, hmn9, rfl⟩ | ⟨hno9, rfl⟩
            ·
              have kb_2 : mr_6 < 60 := by (first | omega | (have zz0 := Hid.u hi_cn; omega))
              refine ldM_8 hx hb hK hP (x := ((Fn 8) mr_6)) (vp_in_nI kb_2 (ltb rfl)) (nI_clamp (Nat.lt_trans kb_2 (ltb rfl))) rfl (oc_46 56 (aq_7 shX12_audit_49)) ?_
              refine lv_iload_n hx hb (oc_28 57 (aq_8 shX12_audit_49)) rfl (lvA4 hl) ?_
              refine lv_icmp_ne (tgt := 65) hx hb (oc_160 58 (aq_9 shX12_audit_49) sgw_0_7) rfl (fun c_8 => ?_) (fun c_8 => ?_)
              ·
                have tc_8 : (((Fn 8) mr_6).toInt : Int) ≠ v1.toInt := fun q => c_8 (Int32.toInt_inj.mp q)
                refine lv_iconst (v := 0) hx hb (oc_3 65 (aq_16 shX12_audit_49)) kic_0 ?_
                refine lv_iadd hx hb dX12_audit_66 ?_
                refine lv_istore_n (lv' := [(3, .int (x28_3 + 0)), (4, .int (nI i28)), (0, .ref (g 100)), (1, .int (nI d0)), (2, .int v1)]) hx hb dX12_audit_67 rfl hl (ltb rfl) rfl (fun ls hl => ?_)
                refine lv_iinc (v := (nI (i28 + 1))) (lv' := [(4, .int (nI (i28 + 1))), (3, .int (x28_3 + 0)), (0, .ref (g 100)), (1, .int (nI d0)), (2, .int v1)]) hx hb dX12_audit_68 hl (k := 1) rfl (nI_1 _) (ltb rfl) rfl (fun ls hl => ?_)
                refine lv_goto (tgt := 28) hx hb dX12_audit_71 rfl ?_
                exact ih28 (i28 + 1) (x28_3 + 0) (by (first | omega | (have zz0 := Hid.u hi_cn; omega))) ⟨(by (first | omega | (have zz0 := Hid.u hi_cn; omega))), (⟨x28_3, hx28_0, by first | exact Or.inl ⟨(au_step (K := Fn 8) (k := v1) hmr_6 hlt9 hmn9 ⟨by (first | omega | (have zz0 := Hid.u hi_cn; omega)), by (first | omega | (have zz0 := Hid.u hi_cn; omega))⟩).mpr (by first | assumption | exact Int32.toInt_inj.mp (by assumption)), rfl⟩ | exact Or.inr ⟨fun w9 => absurd ((au_step (K := Fn 8) (k := v1) hmr_6 hlt9 hmn9 ⟨by (first | omega | (have zz0 := Hid.u hi_cn; omega)), by (first | omega | (have zz0 := Hid.u hi_cn; omega))⟩).mp w9) (by first | assumption | exact fun q => absurd (congrArg Int32.toInt q) (by assumption)), Int32.add_zero _⟩⟩)⟩ ls (lv_sub hl [0, 1, 2, 3, 4] rfl)
              ·
                have tc_8 : (((Fn 8) mr_6).toInt : Int) = v1.toInt := congrArg Int32.toInt c_8
                refine lv_iconst (v := 1) hx hb (oc_4 61 (aq_12 shX12_audit_49)) kic_1 ?_
                refine lv_goto (tgt := 66) hx hb (oc_167 62 (aq_13 shX12_audit_49) sgw_0_4) rfl ?_
                refine lv_iadd hx hb dX12_audit_66 ?_
                refine lv_istore_n (lv' := [(3, .int (x28_3 + 1)), (4, .int (nI i28)), (0, .ref (g 100)), (1, .int (nI d0)), (2, .int v1)]) hx hb dX12_audit_67 rfl hl (ltb rfl) rfl (fun ls hl => ?_)
                refine lv_iinc (v := (nI (i28 + 1))) (lv' := [(4, .int (nI (i28 + 1))), (3, .int (x28_3 + 1)), (0, .ref (g 100)), (1, .int (nI d0)), (2, .int v1)]) hx hb dX12_audit_68 hl (k := 1) rfl (nI_1 _) (ltb rfl) rfl (fun ls hl => ?_)
                refine lv_goto (tgt := 28) hx hb dX12_audit_71 rfl ?_
                exact ih28 (i28 + 1) (x28_3 + 1) (by (first | omega | (have zz0 := Hid.u hi_cn; omega))) ⟨(by (first | omega | (have zz0 := Hid.u hi_cn; omega))), (⟨x28_3, hx28_0, by first | exact Or.inl ⟨(au_step (K := Fn 8) (k := v1) hmr_6 hlt9 hmn9 ⟨by (first | omega | (have zz0 := Hid.u hi_cn; omega)), by (first | omega | (have zz0 := Hid.u hi_cn; omega))⟩).mpr (by first | assumption | exact Int32.toInt_inj.mp (by assumption)), rfl⟩ | exact Or.inr ⟨fun w9 => absurd ((au_step (K := Fn 8) (k := v1) hmr_6 hlt9 hmn9 ⟨by (first | omega | (have zz0 := Hid.u hi_cn; omega)), by (first | omega | (have zz0 := Hid.u hi_cn; omega))⟩).mp w9) (by first | assumption | exact fun q => absurd (congrArg Int32.toInt q) (by assumption)), Int32.add_zero _⟩⟩)⟩ ls (lv_sub hl [0, 1, 2, 3, 4] rfl)
            ·
              exfalso; have q9 := hI.pr d0 (by (first | omega | (have zz0 := Hid.u hi_cn; omega))); rw [eb69, eb67, nI_tn (by (first | omega | (have zz0 := Hid.u hi_cn; omega))), nI_tn (by (first | omega | (have zz0 := Hid.u hi_cn; omega)))] at q9; exact hno9 19 (by (first | omega | (have zz0 := Hid.u hi_cn; omega))) (by show i28 < mixN (Fn 10) (Fn 64 b67) 20; (first | omega | (have zz0 := Hid.u hi_cn; omega)))
      exact lp_28 _ a68 0 (Nat.lt_succ_self _) ⟨(by (first | omega | (have zz0 := Hid.u hi_cn; omega))), (CNT.skip0 (fun l h9 w9 => by have := w9.1; (first | omega | (have zz0 := Hid.u hi_cn; omega))))⟩ ls (lv_sub hl [0, 1, 2, 3, 4] rfl)
    ·
      have h_4 : ¬ (0 ≤ v1.toInt ∧ v1.toInt < ((cn 1) : Int)) := h_4
      refine lv_if_ne (tgt := 18) hx hb dX12_audit_13 rfl (fun h => absurd h cq_eq_0_0) (fun _ => ?_)
      refine lv_iconst (v := (-1)) hx hb dX12_audit_16 kic_m1 ?_
      exact W.iret (v := (-1)) hx hb hr (fun t ht hW => ⟨(-1), rfl, (Or.inr ⟨by (first | omega | (have zz0 := Hid.u hi_cn; omega)), rfl⟩), ht⟩) (fun _ h => absurd h List.not_mem_nil) dX12_audit_17
  ·
    have h_2 : ¬ (0 ≤ v0.toInt ∧ v0.toInt < ((cn 63) : Int)) := h_2
    refine lv_if_eq (tgt := 16) hx hb dX12_audit_5 rfl (fun _ => ?_) (fun h => absurd h cq_eq_0_0)
    refine lv_iconst (v := (-1)) hx hb dX12_audit_16 kic_m1 ?_
    exact W.iret (v := (-1)) hx hb hr (fun t ht hW => ⟨(-1), rfl, (Or.inr ⟨by (first | omega | (have zz0 := Hid.u hi_cn; omega)), rfl⟩), ht⟩) (fun _ h => absurd h List.not_mem_nil) dX12_audit_17
