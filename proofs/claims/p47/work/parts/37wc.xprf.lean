/-- the first below n of which P holds -/
def TWF (P : Nat → Prop) (n : Nat) (r : Int32) : Prop := (∃ p : Nat, p < n ∧ P p ∧ (∀ q : Nat, q < p → ¬ P q) ∧ r = nI p) ∨ ((∀ q : Nat, q < n → ¬ P q) ∧ r = -1)
theorem TWF.un {P Q : Nat → Prop} {n : Nat} {r r2 : Int32} (e : ∀ k : Nat, k < n → (P k ↔ Q k)) (a : TWF P n r) (b : TWF Q n r2) : r = r2 := by
  rcases a with ⟨p, a1, a2, a3, a4⟩ | ⟨a1, a2⟩ <;> rcases b with ⟨q, b1, b2, b3, b4⟩ | ⟨b1, b2⟩
  · rcases Nat.lt_trichotomy p q with w | w | w
    · exact absurd ((e p a1).mp a2) (b3 p w)
    · rw [a4, b4, w]
    · exact absurd ((e q b1).mpr b2) (a3 q w)
  · exact absurd ((e p a1).mp a2) (b1 p a1)
  · exact absurd ((e q b1).mpr b2) (a1 q b1)
  · rw [a2, b2]
theorem mxI_z {f : Nat → Int32} {s x : Int32} {n : Nat} (e : x = mxI f s n) (ez : f n = 0) : x + 0 = mxI f s (n + 1) := by
  rw [Int32.add_zero, e]
  show _ = if _ then _ else _
  split
  · rfl
  · rw [ez, Int32.add_zero]
theorem mxI_k0 {f : Nat → Int32} {s x : Int32} {n : Nat} (h : (s >>> (nI n &&& 31)) &&& 1 = 0) (e : x = mxI f s n) : x + 0 = mxI f s (n + 1) := by
  rw [Int32.add_zero]
  exact mxI_k h e
theorem mxN {f : Nat → Int32} {s : Int32} (h : ∀ i : Nat, i < 20 → ∃ a : Nat, a ≤ 400 ∧ f i = nI a) : ∀ n : Nat, n ≤ 20 → mxI f s n = nI (mixN f s n)
  | 0, _ => rfl
  | n + 1, hn => by
    have ih := mxN (s := s) h n (by omega)
    obtain ⟨a, ha, e⟩ := h n (by omega)
    by_cases q : (s >>> (nI n &&& 31)) &&& 1 = 0
    · rw [mixN_0 q, ← ih]
      exact (mxI_k q rfl).symm
    · rw [mixN_1 q e (by omega), ← nI_add, ← ih, ← e]
      exact (mxI_s q rfl rfl).symm
section TXLR
variable {ad : Nat → Nat → Nat} {cn c3 : Nat → Nat} {Fn F3 : Nat → Nat → Int32} {j : Nat}
/-- a batch's sums, as the reference has them -/
theorem TXL.mx (h : TXL ad cn Fn F3) (e : ∀ i : Nat, i < cn 11 → Fn 122 i = F3 10 i) (hj : j < cn 12) : ∀ n : Nat, n ≤ 20 → mxI (Fn 122) (Fn 144 j) n = mxI (F3 10) (F3 64 j) n := by
  obtain ⟨-, -, hs⟩ := h
  obtain ⟨⟨a, -⟩, -, c⟩ := hs j hj
  intro n hn
  rw [← a]
  exact mxI_cg n (fun i hi w => e i (c i (by omega) w))
theorem TXL.lit (h : TXL ad cn Fn F3) (hM : IM c3 F3) (e : ∀ i : Nat, i < cn 11 → Fn 122 i = F3 10 i) (hj : j < cn 12) : Fn 146 j = nI (mixN (F3 10) (F3 64 j) 20) := by
  rw [(h.2.2 j hj).2.1.1, h.mx e hj 20 (Nat.le_refl _)]
  exact mxN (fun i hi => hM.e10 i (by omega)) 20 (Nat.le_refl _)
end TXLR



set_option maxRecDepth 100000 in
set_option maxHeartbeats 4000000 in
theorem q_Ehas (l : Launch) (D : va_G) (cI cB cZ : ClassId) (zz qq vv : Nat) (bt : Nat → Int32) (g : Nat → Nat) (ad : Nat → Nat → Nat) (cn : Nat → Nat) (In : Nat → Int32) (Fn : Nat → Nat → Int32) (k0 : Nat) (v0 : Int32) (hB : CBX cn) (hk : k0 < cn 12) : Met l yX0_has (CWS yX0_has cX0_has 2 (some .boolean)) (RM 0 0 0) (PBrx [.ref (ad 12 k0), .int v0] D cI cB cZ zz qq vv bt (wX cI (D.1 99) zz g ad cn In Fn)) (vp_Si (fun r => (r = 1 ∧ ¬ (Fn 144 k0 >>> (v0 &&& 31)) &&& 1 = 0) ∨ (r = 0 ∧ (Fn 144 k0 >>> (v0 &&& 31)) &&& 1 = 0))) 0 0 (fun _ => False) := by
  refine en_rx rfl pn_RX0 (Nat.le_of_ble_eq_true rfl) (fun p e s m below meth c hx hb hml hown S hr hlocks hnm hP hK hXS hS ls hl => ?_)
  have hl : lv_has ls 2 [(0, .ref (ad 12 k0)), (1, .int v0)] := hl
  have hb_cn : Hid (CBX cn) := hB
  replace hB : CBXh cn := hB
  refine lv_aload_n hx hb (oc_42 0 shX0_has_0) rfl (lvA0 hl) ?_
  refine gf_RX0_13 S hK hP _ (xf_2 hk) (v := .int ((Fn 144) k0)) rfl (oc_180 1 (aq_1 shX0_has_0) uw_0_13) ?_
  refine lv_iload_n hx hb (oc_27 4 (aq_4 shX0_has_0)) rfl (lvA1 hl) ?_
  refine lv_ishr hx hb (oc_122 5 (aq_5 shX0_has_0)) ?_
  refine lv_iconst (v := 1) hx hb (oc_4 6 (aq_6 shX0_has_0)) kic_1 ?_
  refine lv_iand hx hb (oc_126 7 (aq_7 shX0_has_0)) ?_
  refine lv_if_eq (tgt := 15) hx hb (oc_153 8 (aq_8 shX0_has_0) sgw_0_7) rfl (fun c_1 => ?_) (fun c_1 => ?_)
  ·
    have tc_1 : (((((Fn 144) k0) >>> (v0 &&& 31)) &&& 1).toInt : Int) = 0 := congrArg Int32.toInt c_1
    refine lv_iconst (v := 0) hx hb (oc_3 15 (aq_15 shX0_has_0)) kic_0 ?_
    exact W.zret (v := 0) hx hb hr rfl (fun t ht hW => ⟨0, rfl, (Or.inr ⟨rfl, (by first | assumption | exact Int32.toInt_inj.mp (by assumption))⟩), ht⟩) (fun _ h => absurd h List.not_mem_nil) dX0_has_16
  ·
    have tc_1 : (((((Fn 144) k0) >>> (v0 &&& 31)) &&& 1).toInt : Int) ≠ 0 := fun q => c_1 (Int32.toInt_inj.mp q)
    refine lv_iconst (v := 1) hx hb (oc_4 11 (aq_11 shX0_has_0)) kic_1 ?_
    refine lv_goto (tgt := 16) hx hb (oc_167 12 (aq_12 shX0_has_0) sgw_0_4) rfl ?_
    exact W.zret (v := 1) hx hb hr rfl (fun t ht hW => ⟨1, rfl, (Or.inl ⟨rfl, (by first | assumption | exact fun q => absurd (congrArg Int32.toInt q) (by assumption))⟩), ht⟩) (fun _ h => absurd h List.not_mem_nil) dX0_has_16
set_option maxRecDepth 100000 in
set_option maxHeartbeats 4000000 in
theorem q_Ewhence (l : Launch) (D : va_G) (cI cB cZ : ClassId) (zz qq vv : Nat) (bt : Nat → Int32) (g : Nat → Nat) (ad : Nat → Nat → Nat) (cn : Nat → Nat) (In : Nat → Int32) (Fn : Nat → Nat → Int32) (v0 v1 : Int32) (hB : CBX cn) : Met l yX11_whence (CWS yX11_whence cX11_whence 7 (some .int)) (RM 4 0 0) (PBrx [.ref (g 0), .int v0, .int v1] D cI cB cZ zz qq vv bt (wX cI (D.1 99) zz g ad cn In Fn)) (vp_Si (fun r => ((0 ≤ v0.toInt ∧ v0.toInt < (cn 12 : Int) ∧ 0 ≤ v1.toInt ∧ v1.toInt < (Fn 146 v0.toInt.toNat).toInt) ∧ TWF (fun i => v1.toInt < (mxI (fun i => if i < cn 11 then Fn 122 i else 0) (Fn 144 v0.toInt.toNat) (i + 1)).toInt) 20 r) ∨ (¬ (0 ≤ v0.toInt ∧ v0.toInt < (cn 12 : Int) ∧ 0 ≤ v1.toInt ∧ v1.toInt < (Fn 146 v0.toInt.toNat).toInt) ∧ r = -1))) 0 0 (fun _ => False) := by
  refine en_rx rfl pn_RX11 (Nat.le_of_ble_eq_true rfl) (fun p e s m below meth c hx hb hml hown S hr hlocks hnm hP hK hXS hS ls hl => ?_)
  have hl : lv_has ls 7 [(0, .ref (g 0)), (1, .int v0), (2, .int v1)] := hl
  have hb_cn : Hid (CBX cn) := hB
  replace hB : CBXh cn := hB
  refine lv_aload_n hx hb (oc_42 0 shX11_whence_0) rfl (lvA0 hl) ?_
  refine lv_iload_n hx hb (oc_27 1 (aq_1 shX11_whence_0)) rfl (lvA1 hl) ?_
  refine va_csq (runV_rxa (As := [.int v0]) (rest := []) S (q_XbatchAt l D cI cB cZ zz qq vv bt g ad cn In Fn v0 hB) kV_RX11_382 hK hXS hS hP 0 xo_0 rfl rfl ⟨Nat.le_of_ble_eq_true rfl, Nat.le_of_ble_eq_true rfl⟩ ⟨Nat.le_of_ble_eq_true rfl, Nat.le_of_ble_eq_true rfl⟩ rfl hl.1 rfl (Nat.le_of_ble_eq_true rfl) (oc_182 2 (aq_2 shX11_whence_0) uw_1_126)) (fun r_1 h_2 => ?_)
  rcases h_2 with ⟨mr_1, er_1, hr_1, rfl⟩ | ⟨hr_1, rfl⟩
  ·
    refine lv_astore_n (lv' := [(3, .ref (ad 12 mr_1)), (0, .ref (g 0)), (1, .int v0), (2, .int v1)]) hx hb dX11_whence_5 rfl hl (ltb rfl) rfl (fun ls hl => ?_)
    refine lv_aload_n hx hb dX11_whence_6 rfl (lvA0 hl) ?_
    refine lv_ifnull hx hb dX11_whence_7 ?_
    refine lv_iload_n hx hb (oc_28 10 (aq_10 shX11_whence_0)) rfl (lvA3 hl) ?_
    refine lv_if_lt (tgt := 22) hx hb (oc_155 11 (aq_11 shX11_whence_0) sgw_0_11) rfl (fun c_3 => ?_) (fun c_3 => ?_)
    ·
      have tc_3 : (v1.toInt : Int) < 0 := Int32.lt_iff_toInt_lt.mp c_3
      refine lv_iconst (v := (-1)) hx hb dX11_whence_22 kic_m1 ?_
      exact W.iret (v := (-1)) hx hb hr (fun t ht hW => ⟨(-1), rfl, (Or.inr ⟨fun w9 => by first | (first | omega | (have zz0 := Hid.u hb_cn; omega)) | (rw [show v0.toInt.toNat = mr_1 by (first | omega | (have zz0 := Hid.u hb_cn; omega))] at w9; (first | omega | (have zz0 := Hid.u hb_cn; omega))), rfl⟩), ht⟩) (fun _ h => absurd h List.not_mem_nil) dX11_whence_23
    ·
      have tc_3 : (0 : Int) ≤ v1.toInt := Int32.le_iff_toInt_le.mp (Int32.not_lt.mp c_3)
      refine lv_iload_n hx hb (oc_28 14 (aq_14 shX11_whence_0)) rfl (lvA3 hl) ?_
      refine lv_aload_n hx hb (oc_45 15 (aq_15 shX11_whence_0)) rfl (lvA0 hl) ?_
      have kf_1 : mr_1 < cn 12 := by (first | omega | (have zz0 := Hid.u hb_cn; omega))
      refine gf_RX11_342 S hK hP _ (xf_2 kf_1) (v := .int ((Fn 146) mr_1)) rfl (oc_180 16 (aq_16 shX11_whence_0) uw_1_86) ?_
      refine lv_icmp_lt (tgt := 24) hx hb (oc_161 19 (aq_19 shX11_whence_0) sgw_0_5) rfl (fun c_4 => ?_) (fun c_4 => ?_)
      ·
        have tc_4 : (v1.toInt : Int) < ((Fn 146) mr_1).toInt := Int32.lt_iff_toInt_lt.mp c_4
        refine lv_iconst (v := 0) hx hb (oc_3 24 shX11_whence_24) kic_0 ?_
        refine lv_istore (lv' := [(4, .int 0), (3, .ref (ad 12 mr_1)), (0, .ref (g 0)), (1, .int v0), (2, .int v1)]) hx hb (oc_54 25 (aq_1 shX11_whence_24) ub_4) hl (ltb rfl) rfl (fun ls hl => ?_)
        refine lv_iconst (v := 0) hx hb (oc_3 27 (aq_3 shX11_whence_24)) kic_0 ?_
        refine lv_istore (lv' := [(5, .int 0), (4, .int 0), (3, .ref (ad 12 mr_1)), (0, .ref (g 0)), (1, .int v0), (2, .int v1)]) hx hb (oc_54 28 (aq_4 shX11_whence_24) ub_5) hl (ltb rfl) rfl (fun ls hl => ?_)
        have lp_30 : ∀ (n : Nat) (i30 : Nat) (x30_4 : Int32) , 20 - i30 < n → (i30 ≤ 20 ∧ (x30_4 = mxI (fun i => if i < cn 11 then Fn 122 i else 0) (Fn 144 mr_1) i30) ∧ (∀ q : Nat, q < i30 → ¬ ((fun i => v1.toInt < (mxI (fun i => if i < cn 11 then Fn 122 i else 0) (Fn 144 mr_1) (i + 1)).toInt)) q)) → ∀ ls : Array Slot, lv_has ls 7 [(5, .int (nI i30)), (4, .int x30_4), (3, .ref (ad 12 mr_1)), (0, .ref (g 0)), (1, .int v0), (2, .int v1)] → W p l e (RM 4 0 0) s m ([.ref (g 0), .int v0, .int v1]).toArray below meth c s.heap [] 0 0 (MQ below (vp_Si (fun r => ((0 ≤ v0.toInt ∧ v0.toInt < (cn 12 : Int) ∧ 0 ≤ v1.toInt ∧ v1.toInt < (Fn 146 v0.toInt.toNat).toInt) ∧ TWF (fun i => v1.toInt < (mxI (fun i => if i < cn 11 then Fn 122 i else 0) (Fn 144 v0.toInt.toNat) (i + 1)).toInt) 20 r) ∨ (¬ (0 ≤ v0.toInt ∧ v0.toInt < (cn 12 : Int) ∧ 0 ≤ v1.toInt ∧ v1.toInt < (Fn 146 v0.toInt.toNat).toInt) ∧ r = -1))) ([.ref (g 0), .int v0, .int v1]).toArray s 0 0 (fun _ => False)) (F0 m 30 ls []) := by
          intro n30
          induction n30 with
          | zero => intros; (first | omega | (have zz0 := Hid.u hb_cn; omega))
          | succ n30 ih30 =>
            intro i30 x30_4 hmu30 hinv30 ls hl
            obtain ⟨hr30, hx30_0, hx30_1⟩ := hinv30
            have ti30 : (nI i30).toInt = (i30 : Int) := nI_toInt (by (first | omega | (have zz0 := Hid.u hb_cn; omega)))
            refine lv_iload hx hb (oc_21 30 (aq_6 shX11_whence_24) ub_5) (lvA0 hl) ?_
            refine lv_bipush (v := 20) hx hb (oc_16 32 (aq_8 shX11_whence_24) sgb_20) kbc_20 ?_
            refine lv_icmp_ge (tgt := 88) hx hb (oc_162 34 (aq_10 shX11_whence_24) sgw_0_54) rfl (fun c_5 => ?_) (fun c_5 => ?_)
            ·
              have tc_5 : (20 : Int) ≤ (nI i30).toInt := Int32.le_iff_toInt_le.mp c_5
              refine lv_iconst (v := (-1)) hx hb (oc_2 88 (aq_15 shX11_whence_73)) kic_m1 ?_
              exact W.iret (v := (-1)) hx hb hr (fun t ht hW => ⟨(-1), rfl, (Or.inl ⟨(by have e9 : v0.toInt.toNat = mr_1 := (by (first | omega | (have zz0 := Hid.u hb_cn; omega))); rw [e9]; (first | omega | (have zz0 := Hid.u hb_cn; omega))), (by have e9 : v0.toInt.toNat = mr_1 := (by (first | omega | (have zz0 := Hid.u hb_cn; omega))); rw [e9]; exact Or.inr ⟨fun q hq => hx30_1 q (by (first | omega | (have zz0 := Hid.u hb_cn; omega))), rfl⟩)⟩), ht⟩) (fun _ h => absurd h List.not_mem_nil) (oc_172 89 (aq_16 shX11_whence_73))
            ·
              have tc_5 : ((nI i30).toInt : Int) < 20 := Int32.lt_iff_toInt_lt.mp (Int32.not_le.mp c_5)
              refine lv_aload_n hx hb (oc_42 37 (aq_13 shX11_whence_24)) rfl (lvA3 hl) ?_
              refine lv_iload hx hb (oc_21 38 (aq_14 shX11_whence_24) ub_5) (lvA0 hl) ?_
              refine va_csq (runV_rxa (As := [.int (nI i30)]) (rest := []) S (q_XloadAt l D cI cB cZ zz qq vv bt g ad cn In Fn (nI i30) hB) kV_RX11_148 hK hXS hS hP 0 xo_0 rfl rfl ⟨Nat.le_of_ble_eq_true rfl, Nat.le_of_ble_eq_true rfl⟩ ⟨Nat.le_of_ble_eq_true rfl, Nat.le_of_ble_eq_true rfl⟩ rfl hl.1 rfl (Nat.le_of_ble_eq_true rfl) (oc_182 40 (aq_16 shX11_whence_24) uw_0_148)) (fun r_6 h_7 => ?_)
              rcases h_7 with ⟨m9, em9, hm9, rfl⟩ | ⟨hm9, rfl⟩
              ·
                obtain rfl : i30 = m9 := (by (first | omega | (have zz0 := Hid.u hb_cn; omega)))
                refine lv_astore (lv' := [(6, .ref (ad 11 i30)), (5, .int (nI i30)), (4, .int x30_4), (3, .ref (ad 12 mr_1)), (0, .ref (g 0)), (1, .int v0), (2, .int v1)]) hx hb dX11_whence_43 hl (ltb rfl) rfl (fun ls hl => ?_)
                refine lv_iload hx hb dX11_whence_45 (lvA2 hl) ?_
                refine lv_aload hx hb dX11_whence_47 (lvA0 hl) ?_
                refine lv_ifnull hx hb dX11_whence_49 ?_
                refine lv_aload_n hx hb (oc_45 52 (aq_3 shX11_whence_49)) rfl (lvA3 hl) ?_
                refine lv_iload hx hb (oc_21 53 (aq_4 shX11_whence_49) ub_5) (lvA1 hl) ?_
                refine vp_callSi (runV_rxa (As := [.int (nI i30)]) (rest := [.int x30_4]) S (q_Ehas l D cI cB cZ zz qq vv bt g ad cn In Fn mr_1 (nI i30) hB (by (first | omega | (have zz0 := Hid.u hb_cn; omega)))) kV_RX11_378 hK hXS hS hP _ (xf_2 kf_1) rfl rfl ⟨Nat.le_of_ble_eq_true rfl, Nat.le_of_ble_eq_true rfl⟩ ⟨Nat.le_of_ble_eq_true rfl, Nat.le_of_ble_eq_true rfl⟩ rfl hl.1 rfl (Nat.le_of_ble_eq_true rfl) (oc_182 55 (aq_6 shX11_whence_49) uw_1_122)) (fun r_8 h_9 => ?_)
                rcases h_9 with ⟨rfl, h_9⟩ | ⟨rfl, h_9⟩
                ·
                  refine lv_if_eq (tgt := 69) hx hb dX11_whence_58 rfl (fun h => absurd h cq_eq_1_0) (fun _ => ?_)
                  refine lv_aload hx hb (oc_25 61 (aq_12 shX11_whence_49) ub_6) (lvA0 hl) ?_
                  have kf_2 : i30 < cn 11 := by (first | omega | (have zz0 := Hid.u hb_cn; omega))
                  refine gf_RX11_202 S hK hP _ (xf_1 kf_2) (v := .int ((Fn 122) i30)) rfl (oc_180 63 (aq_14 shX11_whence_49) uw_0_202) ?_
                  refine lv_goto (tgt := 70) hx hb (oc_167 66 (aq_17 shX11_whence_49) sgw_0_4) rfl ?_
                  refine lv_iadd hx hb dX11_whence_70 ?_
                  refine lv_istore (lv' := [(4, .int (x30_4 + ((Fn 122) i30))), (6, .ref (ad 11 i30)), (5, .int (nI i30)), (3, .ref (ad 12 mr_1)), (0, .ref (g 0)), (1, .int v0), (2, .int v1)]) hx hb dX11_whence_71 hl (ltb rfl) rfl (fun ls hl => ?_)
                  refine lv_iload_n hx hb dX11_whence_73 rfl (lvA6 hl) ?_
                  refine lv_iload hx hb dX11_whence_74 (lvA0 hl) ?_
                  refine lv_icmp_ge (tgt := 82) hx hb dX11_whence_76 rfl (fun c_10 => ?_) (fun c_10 => ?_)
                  ·
                    have tc_10 : ((x30_4 + ((Fn 122) i30)).toInt : Int) ≤ v1.toInt := Int32.le_iff_toInt_le.mp c_10
                    refine lv_iinc (v := (nI (i30 + 1))) (lv' := [(5, .int (nI (i30 + 1))), (4, .int (x30_4 + ((Fn 122) i30))), (6, .ref (ad 11 i30)), (3, .ref (ad 12 mr_1)), (0, .ref (g 0)), (1, .int v0), (2, .int v1)]) hx hb dX11_whence_82 hl (k := 2) rfl (nI_1 _) (ltb rfl) rfl (fun ls hl => ?_)
                    refine lv_goto (tgt := 30) hx hb dX11_whence_85 rfl ?_
                    exact ih30 (i30 + 1) (x30_4 + ((Fn 122) i30)) (by (first | omega | (have zz0 := Hid.u hb_cn; omega))) ⟨(by (first | omega | (have zz0 := Hid.u hb_cn; omega))), (mxI_s h_9 hx30_0 (if_pos (by (first | omega | (have zz0 := Hid.u hb_cn; omega))))), (fun q h9 => if q9 : q < i30 then hx30_1 q q9 else (by have e9 : q = i30 := (by (first | omega | (have zz0 := Hid.u hb_cn; omega))); rw [e9]; have e8 := (mxI_s h_9 hx30_0 (if_pos (by (first | omega | (have zz0 := Hid.u hb_cn; omega))))); show ¬ v1.toInt < (mxI _ _ (i30 + 1)).toInt; rw [← e8]; (first | omega | (have zz0 := Hid.u hb_cn; omega))))⟩ ls (lv_sub hl [0, 1, 3, 4, 5, 6] rfl)
                  ·
                    have tc_10 : (v1.toInt : Int) < (x30_4 + ((Fn 122) i30)).toInt := Int32.lt_iff_toInt_lt.mp (Int32.not_le.mp c_10)
                    refine lv_iload hx hb dX11_whence_79 (lvA2 hl) ?_
                    exact W.iret (v := (nI i30)) hx hb hr (fun t ht hW => ⟨(nI i30), rfl, (Or.inl ⟨(by have e9 : v0.toInt.toNat = mr_1 := (by (first | omega | (have zz0 := Hid.u hb_cn; omega))); rw [e9]; (first | omega | (have zz0 := Hid.u hb_cn; omega))), (by have e9 : v0.toInt.toNat = mr_1 := (by (first | omega | (have zz0 := Hid.u hb_cn; omega))); rw [e9]; exact Or.inl ⟨i30, by (first | omega | (have zz0 := Hid.u hb_cn; omega)), (by show v1.toInt < (mxI _ _ (i30 + 1)).toInt; rw [← (mxI_s h_9 hx30_0 (if_pos (by (first | omega | (have zz0 := Hid.u hb_cn; omega)))))]; (first | omega | (have zz0 := Hid.u hb_cn; omega))), hx30_1, rfl⟩)⟩), ht⟩) (fun _ h => absurd h List.not_mem_nil) dX11_whence_81
                ·
                  refine lv_if_eq (tgt := 69) hx hb dX11_whence_58 rfl (fun _ => ?_) (fun h => absurd h cq_eq_0_0)
                  refine lv_iconst (v := 0) hx hb dX11_whence_69 kic_0 ?_
                  refine lv_iadd hx hb dX11_whence_70 ?_
                  refine lv_istore (lv' := [(4, .int (x30_4 + 0)), (6, .ref (ad 11 i30)), (5, .int (nI i30)), (3, .ref (ad 12 mr_1)), (0, .ref (g 0)), (1, .int v0), (2, .int v1)]) hx hb dX11_whence_71 hl (ltb rfl) rfl (fun ls hl => ?_)
                  refine lv_iload_n hx hb dX11_whence_73 rfl (lvA6 hl) ?_
                  refine lv_iload hx hb dX11_whence_74 (lvA0 hl) ?_
                  refine lv_icmp_ge (tgt := 82) hx hb dX11_whence_76 rfl (fun c_11 => ?_) (fun c_11 => ?_)
                  ·
                    have tc_11 : ((x30_4 + 0).toInt : Int) ≤ v1.toInt := Int32.le_iff_toInt_le.mp c_11
                    refine lv_iinc (v := (nI (i30 + 1))) (lv' := [(5, .int (nI (i30 + 1))), (4, .int (x30_4 + 0)), (6, .ref (ad 11 i30)), (3, .ref (ad 12 mr_1)), (0, .ref (g 0)), (1, .int v0), (2, .int v1)]) hx hb dX11_whence_82 hl (k := 2) rfl (nI_1 _) (ltb rfl) rfl (fun ls hl => ?_)
                    refine lv_goto (tgt := 30) hx hb dX11_whence_85 rfl ?_
                    exact ih30 (i30 + 1) (x30_4 + 0) (by (first | omega | (have zz0 := Hid.u hb_cn; omega))) ⟨(by (first | omega | (have zz0 := Hid.u hb_cn; omega))), (mxI_k0 h_9 hx30_0), (fun q h9 => if q9 : q < i30 then hx30_1 q q9 else (by have e9 : q = i30 := (by (first | omega | (have zz0 := Hid.u hb_cn; omega))); rw [e9]; have e8 := (mxI_k0 h_9 hx30_0); show ¬ v1.toInt < (mxI _ _ (i30 + 1)).toInt; rw [← e8]; (first | omega | (have zz0 := Hid.u hb_cn; omega))))⟩ ls (lv_sub hl [0, 1, 3, 4, 5, 6] rfl)
                  ·
                    have tc_11 : (v1.toInt : Int) < (x30_4 + 0).toInt := Int32.lt_iff_toInt_lt.mp (Int32.not_le.mp c_11)
                    refine lv_iload hx hb dX11_whence_79 (lvA2 hl) ?_
                    exact W.iret (v := (nI i30)) hx hb hr (fun t ht hW => ⟨(nI i30), rfl, (Or.inl ⟨(by have e9 : v0.toInt.toNat = mr_1 := (by (first | omega | (have zz0 := Hid.u hb_cn; omega))); rw [e9]; (first | omega | (have zz0 := Hid.u hb_cn; omega))), (by have e9 : v0.toInt.toNat = mr_1 := (by (first | omega | (have zz0 := Hid.u hb_cn; omega))); rw [e9]; exact Or.inl ⟨i30, by (first | omega | (have zz0 := Hid.u hb_cn; omega)), (by show v1.toInt < (mxI _ _ (i30 + 1)).toInt; rw [← (mxI_k0 h_9 hx30_0)]; (first | omega | (have zz0 := Hid.u hb_cn; omega))), hx30_1, rfl⟩)⟩), ht⟩) (fun _ h => absurd h List.not_mem_nil) dX11_whence_81
              ·
                refine lv_astoreN (lv' := [(6, .null), (5, .int (nI i30)), (4, .int x30_4), (3, .ref (ad 12 mr_1)), (0, .ref (g 0)), (1, .int v0), (2, .int v1)]) hx hb dX11_whence_43 hl (ltb rfl) rfl (fun ls hl => ?_)
                refine lv_iload hx hb dX11_whence_45 (lvA2 hl) ?_
                refine lv_aloadN hx hb dX11_whence_47 (lvA0 hl) ?_
                refine lv_ifnullN (tgt := 69) hx hb dX11_whence_49 rfl ?_
                refine lv_iconst (v := 0) hx hb dX11_whence_69 kic_0 ?_
                refine lv_iadd hx hb dX11_whence_70 ?_
                refine lv_istore (lv' := [(4, .int (x30_4 + 0)), (6, .null), (5, .int (nI i30)), (3, .ref (ad 12 mr_1)), (0, .ref (g 0)), (1, .int v0), (2, .int v1)]) hx hb dX11_whence_71 hl (ltb rfl) rfl (fun ls hl => ?_)
                refine lv_iload_n hx hb dX11_whence_73 rfl (lvA6 hl) ?_
                refine lv_iload hx hb dX11_whence_74 (lvA0 hl) ?_
                refine lv_icmp_ge (tgt := 82) hx hb dX11_whence_76 rfl (fun c_12 => ?_) (fun c_12 => ?_)
                ·
                  have tc_12 : ((x30_4 + 0).toInt : Int) ≤ v1.toInt := Int32.le_iff_toInt_le.mp c_12
                  refine lv_iinc (v := (nI (i30 + 1))) (lv' := [(5, .int (nI (i30 + 1))), (4, .int (x30_4 + 0)), (6, .null), (3, .ref (ad 12 mr_1)), (0, .ref (g 0)), (1, .int v0), (2, .int v1)]) hx hb dX11_whence_82 hl (k := 2) rfl (nI_1 _) (ltb rfl) rfl (fun ls hl => ?_)
                  refine lv_goto (tgt := 30) hx hb dX11_whence_85 rfl ?_
                  exact ih30 (i30 + 1) (x30_4 + 0) (by (first | omega | (have zz0 := Hid.u hb_cn; omega))) ⟨(by (first | omega | (have zz0 := Hid.u hb_cn; omega))), (mxI_z hx30_0 (if_neg (by (first | omega | (have zz0 := Hid.u hb_cn; omega))))), (fun q h9 => if q9 : q < i30 then hx30_1 q q9 else (by have e9 : q = i30 := (by (first | omega | (have zz0 := Hid.u hb_cn; omega))); rw [e9]; have e8 := (mxI_z hx30_0 (if_neg (by (first | omega | (have zz0 := Hid.u hb_cn; omega))))); show ¬ v1.toInt < (mxI _ _ (i30 + 1)).toInt; rw [← e8]; (first | omega | (have zz0 := Hid.u hb_cn; omega))))⟩ ls (lv_sub hl [0, 1, 3, 4, 5, 6] rfl)
                ·
                  have tc_12 : (v1.toInt : Int) < (x30_4 + 0).toInt := Int32.lt_iff_toInt_lt.mp (Int32.not_le.mp c_12)
                  refine lv_iload hx hb dX11_whence_79 (lvA2 hl) ?_
                  exact W.iret (v := (nI i30)) hx hb hr (fun t ht hW => ⟨(nI i30), rfl, (Or.inl ⟨(by have e9 : v0.toInt.toNat = mr_1 := (by (first | omega | (have zz0 := Hid.u hb_cn; omega))); rw [e9]; (first | omega | (have zz0 := Hid.u hb_cn; omega))), (by have e9 : v0.toInt.toNat = mr_1 := (by (first | omega | (have zz0 := Hid.u hb_cn; omega))); rw [e9]; exact Or.inl ⟨i30, by (first | omega | (have zz0 := Hid.u hb_cn; omega)), (by show v1.toInt < (mxI _ _ (i30 + 1)).toInt; rw [← (mxI_z hx30_0 (if_neg (by (first | omega | (have zz0 := Hid.u hb_cn; omega)))))]; (first | omega | (have zz0 := Hid.u hb_cn; omega))), hx30_1, rfl⟩)⟩), ht⟩) (fun _ h => absurd h List.not_mem_nil) dX11_whence_81
        exact lp_30 _ 0 0 (Nat.lt_succ_self _) ⟨(by (first | omega | (have zz0 := Hid.u hb_cn; omega))), rfl, (fun q h9 => absurd h9 (Nat.not_lt_zero q))⟩ ls (lv_sub hl [0, 1, 2, 3, 4, 5] rfl)
      ·
        have tc_4 : (((Fn 146) mr_1).toInt : Int) ≤ v1.toInt := Int32.le_iff_toInt_le.mp (Int32.not_lt.mp c_4)
        refine lv_iconst (v := (-1)) hx hb dX11_whence_22 kic_m1 ?_
        exact W.iret (v := (-1)) hx hb hr (fun t ht hW => ⟨(-1), rfl, (Or.inr ⟨fun w9 => by first | (first | omega | (have zz0 := Hid.u hb_cn; omega)) | (rw [show v0.toInt.toNat = mr_1 by (first | omega | (have zz0 := Hid.u hb_cn; omega))] at w9; (first | omega | (have zz0 := Hid.u hb_cn; omega))), rfl⟩), ht⟩) (fun _ h => absurd h List.not_mem_nil) dX11_whence_23
  ·
    refine lv_astore_nN (lv' := [(3, .null), (0, .ref (g 0)), (1, .int v0), (2, .int v1)]) hx hb dX11_whence_5 rfl hl (ltb rfl) rfl (fun ls hl => ?_)
    refine lv_aload_nN hx hb dX11_whence_6 rfl (lvA0 hl) ?_
    refine lv_ifnullN (tgt := 22) hx hb dX11_whence_7 rfl ?_
    refine lv_iconst (v := (-1)) hx hb dX11_whence_22 kic_m1 ?_
    exact W.iret (v := (-1)) hx hb hr (fun t ht hW => ⟨(-1), rfl, (Or.inr ⟨fun w9 => by first | (first | omega | (have zz0 := Hid.u hb_cn; omega)) | (rw [show v0.toInt.toNat = mr_1 by (first | omega | (have zz0 := Hid.u hb_cn; omega))] at w9; (first | omega | (have zz0 := Hid.u hb_cn; omega))), rfl⟩), ht⟩) (fun _ h => absurd h List.not_mem_nil) dX11_whence_23
