/-- the four bytes of v behind n, as the class keeps them -/
def tpX (f : Nat → Int32) (n : Nat) (v : Int32) : Nat → Int32 := putM (putM (putM (putM f 200 (nI n) ((v >>> (24 &&& 31)) &&& 255)) 200 (nI (n + 1)) ((v >>> (16 &&& 31)) &&& 255)) 200 (nI (n + 1 + 1)) ((v >>> (8 &&& 31)) &&& 255)) 200 (nI (n + 1 + 1 + 1)) ((v >>> (0 &&& 31)) &&& 255)
/-- the same, as the reference keeps them -/
def tpM (f : Nat → Int32) (n : Nat) (v : Int32) : Nat → Int32 := upd (upd (upd (upd f n (vp_nar .byte (v >>> (24 &&& 31)).toInt8.toInt32)) (n + 1) (vp_nar .byte (v >>> (16 &&& 31)).toInt8.toInt32)) (n + 1 + 1) (vp_nar .byte (v >>> (8 &&& 31)).toInt8.toInt32)) (n + 1 + 1 + 1) (vp_nar .byte (v >>> (0 &&& 31)).toInt8.toInt32)
def tp5X (f : Nat → Int32) (n : Nat) (v0 v1 v2 v3 v4 : Int32) : Nat → Int32 := tpX (tpX (tpX (tpX (tpX f n v0) (n + 4) v1) (n + 4 + 4) v2) (n + 4 + 4 + 4) v3) (n + 4 + 4 + 4 + 4) v4
def tp5M (f : Nat → Int32) (n : Nat) (v0 v1 v2 v3 v4 : Int32) : Nat → Int32 := tpM (tpM (tpM (tpM (tpM f n v0) (n + 4) v1) (n + 4 + 4) v2) (n + 4 + 4 + 4) v3) (n + 4 + 4 + 4 + 4) v4
theorem byte_eq (x : Int32) : x &&& 255 = vp_nar .byte x.toInt8.toInt32 &&& 255 := by
  apply Int32.toBitVec_inj.mp
  show x.toBitVec &&& 255#32 = ((((x.toBitVec.signExtend 8).signExtend 32).signExtend 8).signExtend 32) &&& 255#32
  apply BitVec.eq_of_getLsbD_eq
  intro i hi
  have z : ∀ j : Fin 32, 8 ≤ j.val → (255#32).getLsbD j.val = false := by decide
  by_cases q : i < 8
  · simp only [BitVec.getLsbD_and, BitVec.getLsbD_signExtend]
    simp [q, hi, show i < 32 by omega]
  · simp only [BitVec.getLsbD_and]
    rw [z ⟨i, hi⟩ (by show 8 ≤ i; omega), Bool.and_false, Bool.and_false]
theorem tp_J {f h : Nat → Int32} {n : Nat} {v : Int32} (hn : n + 4 ≤ 200) (e : ∀ k : Nat, f k = h k &&& 255) : ∀ k : Nat, tpX f n v k = tpM h n v k &&& 255 := by
  intro k
  have P : ∀ (F : Nat → Int32) (m : Nat) (x : Int32), m < 200 → putM F 200 (nI m) x = upd F m x := fun F m x hm => by
    have t : (nI m).toInt = (m : Int) := nI_toInt (by omega)
    unfold putM
    rw [if_pos (by rw [t]; omega), nI_clamp (by omega)]
  unfold tpX tpM
  rw [P _ _ _ (by omega), P _ _ _ (by omega), P _ _ _ (by omega), P _ _ _ (by omega)]
  unfold upd
  by_cases q3 : k = n + 1 + 1 + 1
  · rw [if_pos q3, if_pos q3]; exact byte_eq _
  rw [if_neg q3, if_neg q3]
  by_cases q2 : k = n + 1 + 1
  · rw [if_pos q2, if_pos q2]; exact byte_eq _
  rw [if_neg q2, if_neg q2]
  by_cases q1 : k = n + 1
  · rw [if_pos q1, if_pos q1]; exact byte_eq _
  rw [if_neg q1, if_neg q1]
  by_cases q0 : k = n
  · rw [if_pos q0, if_pos q0]; exact byte_eq _
  rw [if_neg q0, if_neg q0]
  exact e k
theorem tp5_J {f h : Nat → Int32} {n : Nat} {v0 v1 v2 v3 v4 : Int32} (hn : n + 20 ≤ 200) (e : ∀ k : Nat, f k = h k &&& 255) : ∀ k : Nat, tp5X f n v0 v1 v2 v3 v4 k = tp5M h n v0 v1 v2 v3 v4 k &&& 255 := tp_J (by omega) (tp_J (by omega) (tp_J (by omega) (tp_J (by omega) (tp_J (by omega) e))))
/-- where one is behind i stops -/
def dpx (x t : Nat → Int32) : Nat → Int32
  | 0 => 0
  | j + 1 => x (t j).toInt.toNat
def dst (W : Int32 → Int32 → Int32 → Int32 → Int32) (x y t : Nat → Int32) (j : Nat) : Int32 := W (dpx x t j) (dpx y t j) (x (t j).toInt.toNat) (y (t j).toInt.toNat)
def DOK (t : Nat → Int32) (N j : Nat) : Prop := 0 ≤ (t j).toInt ∧ (t j).toInt < (N : Int)
/-- the way through the n stops of the tape, or -1 -/
def DRV (W : Int32 → Int32 → Int32 → Int32 → Int32) (fin : Int32 → Int32 → Int32 → Int32) (x y t : Nat → Int32) (N n : Nat) (r : Int32) : Prop := ((∀ j : Nat, j < n → DOK t N j) ∧ r = fin (sg (dst W x y t) n) (dpx x t n) (dpx y t n)) ∨ ((∃ j : Nat, j < n ∧ ¬ DOK t N j) ∧ r = -1)
/-- the m bytes behind a as a number -/
def tnr (t : Nat → Int32) (a : Nat) : Nat → Int32
  | 0 => 0
  | m + 1 => (tnr t a m <<< (8 &&& 31)) ||| t (a + m)
/-- which part of the p-th row is wrong; -1: none -/
def wrp (day lit mis t : Nat → Int32) (i p : Nat) : Int32 := if tnr t (4 * p) 4 = nI i then (if tnr t (4 * (p + 1)) 4 = day i then (if tnr t (4 * (p + 2)) 4 = lit i then (if tnr t (4 * (p + 3)) 4 = mis i then -1 else 3) else 2) else 1) else 0
/-- the first wrong place from the i-th load and the place p on -/
def chk (kit day lit mis t : Nat → Int32) (v : Int32) (n4 : Nat) : Nat → Nat → Nat → Int32
  | 0, _, p => if p < n4 then nI p else -1
  | f + 1, i, p => if kit i = v then (if n4 ≤ p then nI n4 else if wrp day lit mis t i p = -1 then chk kit day lit mis t v n4 f (i + 1) (p + 4) else nI p + wrp day lit mis t i p) else chk kit day lit mis t v n4 f (i + 1) p
section WRP
variable {kit day lit mis t : Nat → Int32} {v R : Int32} {n4 i p N : Nat}
end WRP
set_option maxRecDepth 100000 in
set_option maxHeartbeats 4000000 in
theorem q_Etadd (l : Launch) (D : va_G) (cI cB cZ : ClassId) (zz qq vv : Nat) (bt : Nat → Int32) (g : Nat → Nat) (ad : Nat → Nat → Nat) (cn : Nat → Nat) (In : Nat → Int32) (Fn : Nat → Nat → Int32) (v0 : Int32) (sz : Nat) (hB : CBX cn) (h4 : cn 3 + 4 ≤ 200) : Met l yX8_add (CWS yX8_add cX8_add 3 none) (RM 1 0 0) (PBx [.ref (g 5), .int v0] D cI cB cZ zz qq vv bt (wX cI (D.1 99) zz g ad cn In Fn) sz) (va_Qv (fun (u : (Nat → Nat) × (Nat → Int32) × (Nat → Nat → Int32)) => (fun c2 I2 F2 => Fr [3] [] [40] cn In Fn c2 I2 F2 ∧ CBX c2 ∧ (c2 3 = cn 3 + 4 ∧ F2 40 = tpX (Fn 40) (cn 3) v0)) u.1 u.2.1 u.2.2) (fun (u : (Nat → Nat) × (Nat → Int32) × (Nat → Nat → Int32)) (t : State) => va_P D vwCl (wX cI (D.1 99) zz g ad u.1 u.2.1 u.2.2) t.heap ∧ va_D (va_A (wX cI (D.1 99) zz g ad cn In Fn) sz) (wX cI (D.1 99) zz g ad u.1 u.2.1 u.2.2)) (va_A (wX cI (D.1 99) zz g ad cn In Fn) sz)) 0 0 (va_A (wX cI (D.1 99) zz g ad cn In Fn) sz) := by
  refine en_x (fun A => (va_Qv (fun (u : (Nat → Nat) × (Nat → Int32) × (Nat → Nat → Int32)) => (fun (c2 : Nat → Nat) (I2 : Nat → Int32) (F2 : Nat → Nat → Int32) => Fr [3] [] [40] cn In Fn c2 I2 F2 ∧ CBX c2 ∧ (c2 3 = cn 3 + 4 ∧ F2 40 = tpX (Fn 40) (cn 3) v0)) u.1 u.2.1 u.2.2) (fun (u : (Nat → Nat) × (Nat → Int32) × (Nat → Nat → Int32)) (t : State) => va_P D vwCl (wX cI (D.1 99) zz g ad u.1 u.2.1 u.2.2) t.heap ∧ va_D A (wX cI (D.1 99) zz g ad u.1 u.2.1 u.2.2)) A)) rfl rfl pn_RX8 (Nat.le_of_ble_eq_true rfl) (fun p e s m below meth c A hx hb hml hown S hr hlocks hnm hA hP hK hD hXS hS ls hl => ?_)
  have hl : lv_has ls 3 [(0, .ref (g 5)), (1, .int v0)] := hl
  have hb_cn : Hid (CBX cn) := hB
  replace hB : CBXh cn := hB
  refine lv_bipush (v := 24) hx hb (oc_16 0 shX8_add_0 sgb_24) kbc_24 ?_
  refine lv_istore_n (lv' := [(2, .int 24), (0, .ref (g 5)), (1, .int v0)]) hx hb (oc_61 2 (aq_2 shX8_add_0)) rfl hl (ltb rfl) rfl (fun ls hl => ?_)
  refine lv_iload_n hx hb dX8_add_3 rfl (lvA0 hl) ?_
  refine lv_if_lt (tgt := 47) hx hb dX8_add_4 rfl (fun h => absurd h cq_lt_24_0) (fun _ => ?_)
  refine lv_aload_n hx hb dX8_add_7 rfl (lvA1 hl) ?_
  refine gf_RX8_9 S hK hP 1 xo_1 (v := .ref (g 40)) rfl dX8_add_8 ?_
  refine lv_aload_n hx hb dX8_add_11 rfl (lvA1 hl) ?_
  refine gf_RX8_13 S hK hP 1 xo_1 (v := .int (nI (cn 3))) rfl dX8_add_12 ?_
  refine lv_iload_n hx hb dX8_add_15 rfl (lvA2 hl) ?_
  refine lv_iload_n hx hb dX8_add_16 rfl (lvA0 hl) ?_
  refine lv_ishr hx hb dX8_add_17 ?_
  refine lv_sipush (v := 255) hx hb dX8_add_18 (by decide) ?_
  refine lv_iand hx hb dX8_add_21 ?_
  have hFc := va_free (wc := [((g 40), .inl (cI, 200, .inl (Fn 40)))]) hD hS hA [2] (one_im xo_2)
  refine va_callv (runS_w (As := [.ref (g 40), .int (nI (cn 3)), .int ((v0 >>> (24 &&& 31)) &&& 255)]) (rest := []) S (q_l_put l D cI cB cZ (g 40) 200 (Fn 40) (nI (cn 3)) ((v0 >>> (24 &&& 31)) &&& 255) s.heap.size (by (first | omega | (have zz0 := Hid.u hb_cn; omega)))) kS_RX8_17 hK hP hD [2] (one_is xo_2) (one_im xo_2) rfl ⟨Nat.le_of_ble_eq_true rfl, Nat.le_of_ble_eq_true rfl⟩ ⟨Nat.le_of_ble_eq_true rfl, Nat.le_of_ble_eq_true rfl⟩ rfl hl.1 rfl (Nat.le_of_ble_eq_true rfl) dX8_add_22) hS (fun q _ h => hFc q h) hFc (fun u_3 t H1 locs ht hvm h_2 hB1 hz1 hk1 hS => ?_)
  obtain ⟨hP1, hD1⟩ := hB1
  rw [ht] at hP1
  obtain ⟨hP, hD⟩ := wset1 hP hD xo_2 hk1 hP1
  obtain rfl : u_3 = (putM (Fn 40) 200 (nI (cn 3)) ((v0 >>> (24 &&& 31)) &&& 255)) := h_2
  generalize H1 = H at hP hS ⊢
  have hP : va_P D vwCl (wX cI (D.1 99) zz g ad cn In (va_up Fn 40 (putM (Fn 40) 200 (nI (cn 3)) ((v0 >>> (24 &&& 31)) &&& 255)))) H := va_P_eq xsa_2 hP
  have hD : va_D A (wX cI (D.1 99) zz g ad cn In (va_up Fn 40 (putM (Fn 40) 200 (nI (cn 3)) ((v0 >>> (24 &&& 31)) &&& 255)))) := va_D_eq xsa_2 hD
  refine lv_aload_n hx hb dX8_add_25 rfl (lvA1 hl) ?_
  refine lv_aload_n hx hb dX8_add_26 rfl (lvA1 hl) ?_
  refine gf_RX8_13 S hK hP 1 xo_1 (v := .int (nI (cn 3))) rfl dX8_add_27 ?_
  refine lv_iconst (v := 1) hx hb dX8_add_30 kic_1 ?_
  refine lv_iadd hx hb dX8_add_31 ?_
  refine lv_topi (fun y_4 ey_4 => ?_)
  obtain rfl : y_4 = (nI ((cn 3) + 1)) := ey_4.trans (nI_add (cn 3) 1)
  refine lv_sipush (v := 200) hx hb dX8_add_32 (by decide) ?_
  refine va_mmin hx hb (by rw [hml]; exact hl.1.symm) hown (S.2.2.2.2 _ (wk3_3 10 rfl rfl)) (S.2.2.2.2 _ (wk2_13 10 rfl rfl)) (S.2.2.2.2 _ (wk1_0 3 rfl rfl)) (S.2.2.2.2 _ (wk2_13 11 rfl rfl)) (Nat.le_of_ble_eq_true rfl) (Nat.le_of_ble_eq_true rfl) (Nat.le_of_ble_eq_true rfl) (Nat.le_of_ble_eq_true rfl) dX8_add_35 ?_
  refine lv_topi (fun y_5 ey_5 => ?_)
  obtain rfl : y_5 = (nI ((cn 3) + 1)) := ey_5.trans (min200b (by (first | omega | (have zz0 := Hid.u hb_cn; omega))))
  refine pf_RX8_13 S hK hP hD hS 1 xo_1 (v := .int (nI ((cn 3) + 1))) (Nat.le_of_ble_eq_true rfl) rfl rfl dX8_add_38 (fun H locs hP hD hS => ?_)
  have hP : va_P D vwCl (wX cI (D.1 99) zz g ad (va_up cn 3 ((cn 3) + 1)) In (va_up Fn 40 (putM (Fn 40) 200 (nI (cn 3)) ((v0 >>> (24 &&& 31)) &&& 255)))) H := va_P_eq (xsf_1_1) hP
  have hD : va_D A (wX cI (D.1 99) zz g ad (va_up cn 3 ((cn 3) + 1)) In (va_up Fn 40 (putM (Fn 40) 200 (nI (cn 3)) ((v0 >>> (24 &&& 31)) &&& 255)))) := va_D_eq (xsf_1_1) hD
  refine lv_iinc (v := 16) (lv' := [(2, .int 16), (0, .ref (g 5)), (1, .int v0)]) hx hb dX8_add_41 hl (k := 0) rfl (by decide) (ltb rfl) rfl (fun ls hl => ?_)
  refine lv_goto (tgt := 3) hx hb dX8_add_44 rfl ?_
  refine lv_iload_n hx hb dX8_add_3 rfl (lvA0 hl) ?_
  refine lv_if_lt (tgt := 47) hx hb dX8_add_4 rfl (fun h => absurd h cq_lt_16_0) (fun _ => ?_)
  refine lv_aload_n hx hb dX8_add_7 rfl (lvA1 hl) ?_
  refine gf_RX8_9 S hK hP 1 xo_1 (v := .ref (g 40)) rfl dX8_add_8 ?_
  refine lv_aload_n hx hb dX8_add_11 rfl (lvA1 hl) ?_
  refine gf_RX8_13 S hK hP 1 xo_1 (v := .int (nI ((cn 3) + 1))) rfl dX8_add_12 ?_
  refine lv_iload_n hx hb dX8_add_15 rfl (lvA2 hl) ?_
  refine lv_iload_n hx hb dX8_add_16 rfl (lvA0 hl) ?_
  refine lv_ishr hx hb dX8_add_17 ?_
  refine lv_sipush (v := 255) hx hb dX8_add_18 (by decide) ?_
  refine lv_iand hx hb dX8_add_21 ?_
  have hFc := va_free (wc := [((g 40), .inl (cI, 200, .inl (putM (Fn 40) 200 (nI (cn 3)) ((v0 >>> (24 &&& 31)) &&& 255))))]) hD hS hA [2] (one_im xo_2)
  refine va_callv (runS_w (As := [.ref (g 40), .int (nI ((cn 3) + 1)), .int ((v0 >>> (16 &&& 31)) &&& 255)]) (rest := []) S (q_l_put l D cI cB cZ (g 40) 200 (putM (Fn 40) 200 (nI (cn 3)) ((v0 >>> (24 &&& 31)) &&& 255)) (nI ((cn 3) + 1)) ((v0 >>> (16 &&& 31)) &&& 255) H.size (by (first | omega | (have zz0 := Hid.u hb_cn; omega)))) kS_RX8_17 hK hP hD [2] (one_is xo_2) (one_im xo_2) rfl ⟨Nat.le_of_ble_eq_true rfl, Nat.le_of_ble_eq_true rfl⟩ ⟨Nat.le_of_ble_eq_true rfl, Nat.le_of_ble_eq_true rfl⟩ rfl hl.1 rfl (Nat.le_of_ble_eq_true rfl) dX8_add_22) hS (fun q _ h => hFc q h) hFc (fun u_8 t H1 locs ht hvm h_7 hB1 hz1 hk1 hS => ?_)
  obtain ⟨hP1, hD1⟩ := hB1
  rw [ht] at hP1
  obtain ⟨hP, hD⟩ := wset1 hP hD xo_2 hk1 hP1
  obtain rfl : u_8 = (putM (putM (Fn 40) 200 (nI (cn 3)) ((v0 >>> (24 &&& 31)) &&& 255)) 200 (nI ((cn 3) + 1)) ((v0 >>> (16 &&& 31)) &&& 255)) := h_7
  generalize H1 = H at hP hS ⊢
  have hP : va_P D vwCl (wX cI (D.1 99) zz g ad (va_up cn 3 ((cn 3) + 1)) In (va_up (va_up Fn 40 (putM (Fn 40) 200 (nI (cn 3)) ((v0 >>> (24 &&& 31)) &&& 255))) 40 (putM (putM (Fn 40) 200 (nI (cn 3)) ((v0 >>> (24 &&& 31)) &&& 255)) 200 (nI ((cn 3) + 1)) ((v0 >>> (16 &&& 31)) &&& 255)))) H := va_P_eq xsa_2 hP
  have hD : va_D A (wX cI (D.1 99) zz g ad (va_up cn 3 ((cn 3) + 1)) In (va_up (va_up Fn 40 (putM (Fn 40) 200 (nI (cn 3)) ((v0 >>> (24 &&& 31)) &&& 255))) 40 (putM (putM (Fn 40) 200 (nI (cn 3)) ((v0 >>> (24 &&& 31)) &&& 255)) 200 (nI ((cn 3) + 1)) ((v0 >>> (16 &&& 31)) &&& 255)))) := va_D_eq xsa_2 hD
  refine lv_aload_n hx hb dX8_add_25 rfl (lvA1 hl) ?_
  refine lv_aload_n hx hb dX8_add_26 rfl (lvA1 hl) ?_
  refine gf_RX8_13 S hK hP 1 xo_1 (v := .int (nI ((cn 3) + 1))) rfl dX8_add_27 ?_
  refine lv_iconst (v := 1) hx hb dX8_add_30 kic_1 ?_
  refine lv_iadd hx hb dX8_add_31 ?_
  refine lv_topi (fun y_9 ey_9 => ?_)
  obtain rfl : y_9 = (nI (((cn 3) + 1) + 1)) := ey_9.trans (nI_add ((cn 3) + 1) 1)
  refine lv_sipush (v := 200) hx hb dX8_add_32 (by decide) ?_
  refine va_mmin hx hb (by rw [hml]; exact hl.1.symm) hown (S.2.2.2.2 _ (wk3_3 10 rfl rfl)) (S.2.2.2.2 _ (wk2_13 10 rfl rfl)) (S.2.2.2.2 _ (wk1_0 3 rfl rfl)) (S.2.2.2.2 _ (wk2_13 11 rfl rfl)) (Nat.le_of_ble_eq_true rfl) (Nat.le_of_ble_eq_true rfl) (Nat.le_of_ble_eq_true rfl) (Nat.le_of_ble_eq_true rfl) dX8_add_35 ?_
  refine lv_topi (fun y_10 ey_10 => ?_)
  obtain rfl : y_10 = (nI (((cn 3) + 1) + 1)) := ey_10.trans (min200b (by (first | omega | (have zz0 := Hid.u hb_cn; omega))))
  refine pf_RX8_13 S hK hP hD hS 1 xo_1 (v := .int (nI (((cn 3) + 1) + 1))) (Nat.le_of_ble_eq_true rfl) rfl rfl dX8_add_38 (fun H locs hP hD hS => ?_)
  have hP : va_P D vwCl (wX cI (D.1 99) zz g ad (va_up (va_up cn 3 ((cn 3) + 1)) 3 (((cn 3) + 1) + 1)) In (va_up (va_up Fn 40 (putM (Fn 40) 200 (nI (cn 3)) ((v0 >>> (24 &&& 31)) &&& 255))) 40 (putM (putM (Fn 40) 200 (nI (cn 3)) ((v0 >>> (24 &&& 31)) &&& 255)) 200 (nI ((cn 3) + 1)) ((v0 >>> (16 &&& 31)) &&& 255)))) H := va_P_eq (xsf_1_1) hP
  have hD : va_D A (wX cI (D.1 99) zz g ad (va_up (va_up cn 3 ((cn 3) + 1)) 3 (((cn 3) + 1) + 1)) In (va_up (va_up Fn 40 (putM (Fn 40) 200 (nI (cn 3)) ((v0 >>> (24 &&& 31)) &&& 255))) 40 (putM (putM (Fn 40) 200 (nI (cn 3)) ((v0 >>> (24 &&& 31)) &&& 255)) 200 (nI ((cn 3) + 1)) ((v0 >>> (16 &&& 31)) &&& 255)))) := va_D_eq (xsf_1_1) hD
  refine lv_iinc (v := 8) (lv' := [(2, .int 8), (0, .ref (g 5)), (1, .int v0)]) hx hb dX8_add_41 hl (k := 0) rfl (by decide) (ltb rfl) rfl (fun ls hl => ?_)
  refine lv_goto (tgt := 3) hx hb dX8_add_44 rfl ?_
  refine lv_iload_n hx hb dX8_add_3 rfl (lvA0 hl) ?_
  refine lv_if_lt (tgt := 47) hx hb dX8_add_4 rfl (fun h => absurd h cq_lt_8_0) (fun _ => ?_)
  refine lv_aload_n hx hb dX8_add_7 rfl (lvA1 hl) ?_
  refine gf_RX8_9 S hK hP 1 xo_1 (v := .ref (g 40)) rfl dX8_add_8 ?_
  refine lv_aload_n hx hb dX8_add_11 rfl (lvA1 hl) ?_
  refine gf_RX8_13 S hK hP 1 xo_1 (v := .int (nI (((cn 3) + 1) + 1))) rfl dX8_add_12 ?_
  refine lv_iload_n hx hb dX8_add_15 rfl (lvA2 hl) ?_
  refine lv_iload_n hx hb dX8_add_16 rfl (lvA0 hl) ?_
  refine lv_ishr hx hb dX8_add_17 ?_
  refine lv_sipush (v := 255) hx hb dX8_add_18 (by decide) ?_
  refine lv_iand hx hb dX8_add_21 ?_
  have hFc := va_free (wc := [((g 40), .inl (cI, 200, .inl (putM (putM (Fn 40) 200 (nI (cn 3)) ((v0 >>> (24 &&& 31)) &&& 255)) 200 (nI ((cn 3) + 1)) ((v0 >>> (16 &&& 31)) &&& 255))))]) hD hS hA [2] (one_im xo_2)
  refine va_callv (runS_w (As := [.ref (g 40), .int (nI (((cn 3) + 1) + 1)), .int ((v0 >>> (8 &&& 31)) &&& 255)]) (rest := []) S (q_l_put l D cI cB cZ (g 40) 200 (putM (putM (Fn 40) 200 (nI (cn 3)) ((v0 >>> (24 &&& 31)) &&& 255)) 200 (nI ((cn 3) + 1)) ((v0 >>> (16 &&& 31)) &&& 255)) (nI (((cn 3) + 1) + 1)) ((v0 >>> (8 &&& 31)) &&& 255) H.size (by (first | omega | (have zz0 := Hid.u hb_cn; omega)))) kS_RX8_17 hK hP hD [2] (one_is xo_2) (one_im xo_2) rfl ⟨Nat.le_of_ble_eq_true rfl, Nat.le_of_ble_eq_true rfl⟩ ⟨Nat.le_of_ble_eq_true rfl, Nat.le_of_ble_eq_true rfl⟩ rfl hl.1 rfl (Nat.le_of_ble_eq_true rfl) dX8_add_22) hS (fun q _ h => hFc q h) hFc (fun u_13 t H1 locs ht hvm h_12 hB1 hz1 hk1 hS => ?_)
  obtain ⟨hP1, hD1⟩ := hB1
  rw [ht] at hP1
  obtain ⟨hP, hD⟩ := wset1 hP hD xo_2 hk1 hP1
  obtain rfl : u_13 = (putM (putM (putM (Fn 40) 200 (nI (cn 3)) ((v0 >>> (24 &&& 31)) &&& 255)) 200 (nI ((cn 3) + 1)) ((v0 >>> (16 &&& 31)) &&& 255)) 200 (nI (((cn 3) + 1) + 1)) ((v0 >>> (8 &&& 31)) &&& 255)) := h_12
  generalize H1 = H at hP hS ⊢
  have hP : va_P D vwCl (wX cI (D.1 99) zz g ad (va_up (va_up cn 3 ((cn 3) + 1)) 3 (((cn 3) + 1) + 1)) In (va_up (va_up (va_up Fn 40 (putM (Fn 40) 200 (nI (cn 3)) ((v0 >>> (24 &&& 31)) &&& 255))) 40 (putM (putM (Fn 40) 200 (nI (cn 3)) ((v0 >>> (24 &&& 31)) &&& 255)) 200 (nI ((cn 3) + 1)) ((v0 >>> (16 &&& 31)) &&& 255))) 40 (putM (putM (putM (Fn 40) 200 (nI (cn 3)) ((v0 >>> (24 &&& 31)) &&& 255)) 200 (nI ((cn 3) + 1)) ((v0 >>> (16 &&& 31)) &&& 255)) 200 (nI (((cn 3) + 1) + 1)) ((v0 >>> (8 &&& 31)) &&& 255)))) H := va_P_eq xsa_2 hP
  have hD : va_D A (wX cI (D.1 99) zz g ad (va_up (va_up cn 3 ((cn 3) + 1)) 3 (((cn 3) + 1) + 1)) In (va_up (va_up (va_up Fn 40 (putM (Fn 40) 200 (nI (cn 3)) ((v0 >>> (24 &&& 31)) &&& 255))) 40 (putM (putM (Fn 40) 200 (nI (cn 3)) ((v0 >>> (24 &&& 31)) &&& 255)) 200 (nI ((cn 3) + 1)) ((v0 >>> (16 &&& 31)) &&& 255))) 40 (putM (putM (putM (Fn 40) 200 (nI (cn 3)) ((v0 >>> (24 &&& 31)) &&& 255)) 200 (nI ((cn 3) + 1)) ((v0 >>> (16 &&& 31)) &&& 255)) 200 (nI (((cn 3) + 1) + 1)) ((v0 >>> (8 &&& 31)) &&& 255)))) := va_D_eq xsa_2 hD
  refine lv_aload_n hx hb dX8_add_25 rfl (lvA1 hl) ?_
  refine lv_aload_n hx hb dX8_add_26 rfl (lvA1 hl) ?_
  refine gf_RX8_13 S hK hP 1 xo_1 (v := .int (nI (((cn 3) + 1) + 1))) rfl dX8_add_27 ?_
  refine lv_iconst (v := 1) hx hb dX8_add_30 kic_1 ?_
  refine lv_iadd hx hb dX8_add_31 ?_
  refine lv_topi (fun y_14 ey_14 => ?_)
  obtain rfl : y_14 = (nI ((((cn 3) + 1) + 1) + 1)) := ey_14.trans (nI_add (((cn 3) + 1) + 1) 1)
  refine lv_sipush (v := 200) hx hb dX8_add_32 (by decide) ?_
  refine va_mmin hx hb (by rw [hml]; exact hl.1.symm) hown (S.2.2.2.2 _ (wk3_3 10 rfl rfl)) (S.2.2.2.2 _ (wk2_13 10 rfl rfl)) (S.2.2.2.2 _ (wk1_0 3 rfl rfl)) (S.2.2.2.2 _ (wk2_13 11 rfl rfl)) (Nat.le_of_ble_eq_true rfl) (Nat.le_of_ble_eq_true rfl) (Nat.le_of_ble_eq_true rfl) (Nat.le_of_ble_eq_true rfl) dX8_add_35 ?_
  refine lv_topi (fun y_15 ey_15 => ?_)
  obtain rfl : y_15 = (nI ((((cn 3) + 1) + 1) + 1)) := ey_15.trans (min200b (by (first | omega | (have zz0 := Hid.u hb_cn; omega))))
  refine pf_RX8_13 S hK hP hD hS 1 xo_1 (v := .int (nI ((((cn 3) + 1) + 1) + 1))) (Nat.le_of_ble_eq_true rfl) rfl rfl dX8_add_38 (fun H locs hP hD hS => ?_)
  have hP : va_P D vwCl (wX cI (D.1 99) zz g ad (va_up (va_up (va_up cn 3 ((cn 3) + 1)) 3 (((cn 3) + 1) + 1)) 3 ((((cn 3) + 1) + 1) + 1)) In (va_up (va_up (va_up Fn 40 (putM (Fn 40) 200 (nI (cn 3)) ((v0 >>> (24 &&& 31)) &&& 255))) 40 (putM (putM (Fn 40) 200 (nI (cn 3)) ((v0 >>> (24 &&& 31)) &&& 255)) 200 (nI ((cn 3) + 1)) ((v0 >>> (16 &&& 31)) &&& 255))) 40 (putM (putM (putM (Fn 40) 200 (nI (cn 3)) ((v0 >>> (24 &&& 31)) &&& 255)) 200 (nI ((cn 3) + 1)) ((v0 >>> (16 &&& 31)) &&& 255)) 200 (nI (((cn 3) + 1) + 1)) ((v0 >>> (8 &&& 31)) &&& 255)))) H := va_P_eq (xsf_1_1) hP
  have hD : va_D A (wX cI (D.1 99) zz g ad (va_up (va_up (va_up cn 3 ((cn 3) + 1)) 3 (((cn 3) + 1) + 1)) 3 ((((cn 3) + 1) + 1) + 1)) In (va_up (va_up (va_up Fn 40 (putM (Fn 40) 200 (nI (cn 3)) ((v0 >>> (24 &&& 31)) &&& 255))) 40 (putM (putM (Fn 40) 200 (nI (cn 3)) ((v0 >>> (24 &&& 31)) &&& 255)) 200 (nI ((cn 3) + 1)) ((v0 >>> (16 &&& 31)) &&& 255))) 40 (putM (putM (putM (Fn 40) 200 (nI (cn 3)) ((v0 >>> (24 &&& 31)) &&& 255)) 200 (nI ((cn 3) + 1)) ((v0 >>> (16 &&& 31)) &&& 255)) 200 (nI (((cn 3) + 1) + 1)) ((v0 >>> (8 &&& 31)) &&& 255)))) := va_D_eq (xsf_1_1) hD
  refine lv_iinc (v := 0) (lv' := [(2, .int 0), (0, .ref (g 5)), (1, .int v0)]) hx hb dX8_add_41 hl (k := 0) rfl (by decide) (ltb rfl) rfl (fun ls hl => ?_)
  refine lv_goto (tgt := 3) hx hb dX8_add_44 rfl ?_
  refine lv_iload_n hx hb dX8_add_3 rfl (lvA0 hl) ?_
  refine lv_if_lt (tgt := 47) hx hb dX8_add_4 rfl (fun h => absurd h cq_lt_0_0) (fun _ => ?_)
  refine lv_aload_n hx hb dX8_add_7 rfl (lvA1 hl) ?_
  refine gf_RX8_9 S hK hP 1 xo_1 (v := .ref (g 40)) rfl dX8_add_8 ?_
  refine lv_aload_n hx hb dX8_add_11 rfl (lvA1 hl) ?_
  refine gf_RX8_13 S hK hP 1 xo_1 (v := .int (nI ((((cn 3) + 1) + 1) + 1))) rfl dX8_add_12 ?_
  refine lv_iload_n hx hb dX8_add_15 rfl (lvA2 hl) ?_
  refine lv_iload_n hx hb dX8_add_16 rfl (lvA0 hl) ?_
  refine lv_ishr hx hb dX8_add_17 ?_
  refine lv_sipush (v := 255) hx hb dX8_add_18 (by decide) ?_
  refine lv_iand hx hb dX8_add_21 ?_
  have hFc := va_free (wc := [((g 40), .inl (cI, 200, .inl (putM (putM (putM (Fn 40) 200 (nI (cn 3)) ((v0 >>> (24 &&& 31)) &&& 255)) 200 (nI ((cn 3) + 1)) ((v0 >>> (16 &&& 31)) &&& 255)) 200 (nI (((cn 3) + 1) + 1)) ((v0 >>> (8 &&& 31)) &&& 255))))]) hD hS hA [2] (one_im xo_2)
  refine va_callv (runS_w (As := [.ref (g 40), .int (nI ((((cn 3) + 1) + 1) + 1)), .int ((v0 >>> (0 &&& 31)) &&& 255)]) (rest := []) S (q_l_put l D cI cB cZ (g 40) 200 (putM (putM (putM (Fn 40) 200 (nI (cn 3)) ((v0 >>> (24 &&& 31)) &&& 255)) 200 (nI ((cn 3) + 1)) ((v0 >>> (16 &&& 31)) &&& 255)) 200 (nI (((cn 3) + 1) + 1)) ((v0 >>> (8 &&& 31)) &&& 255)) (nI ((((cn 3) + 1) + 1) + 1)) ((v0 >>> (0 &&& 31)) &&& 255) H.size (by (first | omega | (have zz0 := Hid.u hb_cn; omega)))) kS_RX8_17 hK hP hD [2] (one_is xo_2) (one_im xo_2) rfl ⟨Nat.le_of_ble_eq_true rfl, Nat.le_of_ble_eq_true rfl⟩ ⟨Nat.le_of_ble_eq_true rfl, Nat.le_of_ble_eq_true rfl⟩ rfl hl.1 rfl (Nat.le_of_ble_eq_true rfl) dX8_add_22) hS (fun q _ h => hFc q h) hFc (fun u_18 t H1 locs ht hvm h_17 hB1 hz1 hk1 hS => ?_)
  obtain ⟨hP1, hD1⟩ := hB1
  rw [ht] at hP1
  obtain ⟨hP, hD⟩ := wset1 hP hD xo_2 hk1 hP1
  obtain rfl : u_18 = (putM (putM (putM (putM (Fn 40) 200 (nI (cn 3)) ((v0 >>> (24 &&& 31)) &&& 255)) 200 (nI ((cn 3) + 1)) ((v0 >>> (16 &&& 31)) &&& 255)) 200 (nI (((cn 3) + 1) + 1)) ((v0 >>> (8 &&& 31)) &&& 255)) 200 (nI ((((cn 3) + 1) + 1) + 1)) ((v0 >>> (0 &&& 31)) &&& 255)) := h_17
  generalize H1 = H at hP hS ⊢
  have hP : va_P D vwCl (wX cI (D.1 99) zz g ad (va_up (va_up (va_up cn 3 ((cn 3) + 1)) 3 (((cn 3) + 1) + 1)) 3 ((((cn 3) + 1) + 1) + 1)) In (va_up (va_up (va_up (va_up Fn 40 (putM (Fn 40) 200 (nI (cn 3)) ((v0 >>> (24 &&& 31)) &&& 255))) 40 (putM (putM (Fn 40) 200 (nI (cn 3)) ((v0 >>> (24 &&& 31)) &&& 255)) 200 (nI ((cn 3) + 1)) ((v0 >>> (16 &&& 31)) &&& 255))) 40 (putM (putM (putM (Fn 40) 200 (nI (cn 3)) ((v0 >>> (24 &&& 31)) &&& 255)) 200 (nI ((cn 3) + 1)) ((v0 >>> (16 &&& 31)) &&& 255)) 200 (nI (((cn 3) + 1) + 1)) ((v0 >>> (8 &&& 31)) &&& 255))) 40 (putM (putM (putM (putM (Fn 40) 200 (nI (cn 3)) ((v0 >>> (24 &&& 31)) &&& 255)) 200 (nI ((cn 3) + 1)) ((v0 >>> (16 &&& 31)) &&& 255)) 200 (nI (((cn 3) + 1) + 1)) ((v0 >>> (8 &&& 31)) &&& 255)) 200 (nI ((((cn 3) + 1) + 1) + 1)) ((v0 >>> (0 &&& 31)) &&& 255)))) H := va_P_eq xsa_2 hP
  have hD : va_D A (wX cI (D.1 99) zz g ad (va_up (va_up (va_up cn 3 ((cn 3) + 1)) 3 (((cn 3) + 1) + 1)) 3 ((((cn 3) + 1) + 1) + 1)) In (va_up (va_up (va_up (va_up Fn 40 (putM (Fn 40) 200 (nI (cn 3)) ((v0 >>> (24 &&& 31)) &&& 255))) 40 (putM (putM (Fn 40) 200 (nI (cn 3)) ((v0 >>> (24 &&& 31)) &&& 255)) 200 (nI ((cn 3) + 1)) ((v0 >>> (16 &&& 31)) &&& 255))) 40 (putM (putM (putM (Fn 40) 200 (nI (cn 3)) ((v0 >>> (24 &&& 31)) &&& 255)) 200 (nI ((cn 3) + 1)) ((v0 >>> (16 &&& 31)) &&& 255)) 200 (nI (((cn 3) + 1) + 1)) ((v0 >>> (8 &&& 31)) &&& 255))) 40 (putM (putM (putM (putM (Fn 40) 200 (nI (cn 3)) ((v0 >>> (24 &&& 31)) &&& 255)) 200 (nI ((cn 3) + 1)) ((v0 >>> (16 &&& 31)) &&& 255)) 200 (nI (((cn 3) + 1) + 1)) ((v0 >>> (8 &&& 31)) &&& 255)) 200 (nI ((((cn 3) + 1) + 1) + 1)) ((v0 >>> (0 &&& 31)) &&& 255)))) := va_D_eq xsa_2 hD
  refine lv_aload_n hx hb dX8_add_25 rfl (lvA1 hl) ?_
  refine lv_aload_n hx hb dX8_add_26 rfl (lvA1 hl) ?_
  refine gf_RX8_13 S hK hP 1 xo_1 (v := .int (nI ((((cn 3) + 1) + 1) + 1))) rfl dX8_add_27 ?_
  refine lv_iconst (v := 1) hx hb dX8_add_30 kic_1 ?_
  refine lv_iadd hx hb dX8_add_31 ?_
  refine lv_topi (fun y_19 ey_19 => ?_)
  obtain rfl : y_19 = (nI (((((cn 3) + 1) + 1) + 1) + 1)) := ey_19.trans (nI_add ((((cn 3) + 1) + 1) + 1) 1)
  refine lv_sipush (v := 200) hx hb dX8_add_32 (by decide) ?_
  refine va_mmin hx hb (by rw [hml]; exact hl.1.symm) hown (S.2.2.2.2 _ (wk3_3 10 rfl rfl)) (S.2.2.2.2 _ (wk2_13 10 rfl rfl)) (S.2.2.2.2 _ (wk1_0 3 rfl rfl)) (S.2.2.2.2 _ (wk2_13 11 rfl rfl)) (Nat.le_of_ble_eq_true rfl) (Nat.le_of_ble_eq_true rfl) (Nat.le_of_ble_eq_true rfl) (Nat.le_of_ble_eq_true rfl) dX8_add_35 ?_
  refine lv_topi (fun y_20 ey_20 => ?_)
  obtain rfl : y_20 = (nI (((((cn 3) + 1) + 1) + 1) + 1)) := ey_20.trans (min200b (by (first | omega | (have zz0 := Hid.u hb_cn; omega))))
  refine pf_RX8_13 S hK hP hD hS 1 xo_1 (v := .int (nI (((((cn 3) + 1) + 1) + 1) + 1))) (Nat.le_of_ble_eq_true rfl) rfl rfl dX8_add_38 (fun H locs hP hD hS => ?_)
  have hP : va_P D vwCl (wX cI (D.1 99) zz g ad (va_up (va_up (va_up (va_up cn 3 ((cn 3) + 1)) 3 (((cn 3) + 1) + 1)) 3 ((((cn 3) + 1) + 1) + 1)) 3 (((((cn 3) + 1) + 1) + 1) + 1)) In (va_up (va_up (va_up (va_up Fn 40 (putM (Fn 40) 200 (nI (cn 3)) ((v0 >>> (24 &&& 31)) &&& 255))) 40 (putM (putM (Fn 40) 200 (nI (cn 3)) ((v0 >>> (24 &&& 31)) &&& 255)) 200 (nI ((cn 3) + 1)) ((v0 >>> (16 &&& 31)) &&& 255))) 40 (putM (putM (putM (Fn 40) 200 (nI (cn 3)) ((v0 >>> (24 &&& 31)) &&& 255)) 200 (nI ((cn 3) + 1)) ((v0 >>> (16 &&& 31)) &&& 255)) 200 (nI (((cn 3) + 1) + 1)) ((v0 >>> (8 &&& 31)) &&& 255))) 40 (putM (putM (putM (putM (Fn 40) 200 (nI (cn 3)) ((v0 >>> (24 &&& 31)) &&& 255)) 200 (nI ((cn 3) + 1)) ((v0 >>> (16 &&& 31)) &&& 255)) 200 (nI (((cn 3) + 1) + 1)) ((v0 >>> (8 &&& 31)) &&& 255)) 200 (nI ((((cn 3) + 1) + 1) + 1)) ((v0 >>> (0 &&& 31)) &&& 255)))) H := va_P_eq (xsf_1_1) hP
  have hD : va_D A (wX cI (D.1 99) zz g ad (va_up (va_up (va_up (va_up cn 3 ((cn 3) + 1)) 3 (((cn 3) + 1) + 1)) 3 ((((cn 3) + 1) + 1) + 1)) 3 (((((cn 3) + 1) + 1) + 1) + 1)) In (va_up (va_up (va_up (va_up Fn 40 (putM (Fn 40) 200 (nI (cn 3)) ((v0 >>> (24 &&& 31)) &&& 255))) 40 (putM (putM (Fn 40) 200 (nI (cn 3)) ((v0 >>> (24 &&& 31)) &&& 255)) 200 (nI ((cn 3) + 1)) ((v0 >>> (16 &&& 31)) &&& 255))) 40 (putM (putM (putM (Fn 40) 200 (nI (cn 3)) ((v0 >>> (24 &&& 31)) &&& 255)) 200 (nI ((cn 3) + 1)) ((v0 >>> (16 &&& 31)) &&& 255)) 200 (nI (((cn 3) + 1) + 1)) ((v0 >>> (8 &&& 31)) &&& 255))) 40 (putM (putM (putM (putM (Fn 40) 200 (nI (cn 3)) ((v0 >>> (24 &&& 31)) &&& 255)) 200 (nI ((cn 3) + 1)) ((v0 >>> (16 &&& 31)) &&& 255)) 200 (nI (((cn 3) + 1) + 1)) ((v0 >>> (8 &&& 31)) &&& 255)) 200 (nI ((((cn 3) + 1) + 1) + 1)) ((v0 >>> (0 &&& 31)) &&& 255)))) := va_D_eq (xsf_1_1) hD
  refine lv_iinc (v := (-8)) (lv' := [(2, .int (-8)), (0, .ref (g 5)), (1, .int v0)]) hx hb dX8_add_41 hl (k := 0) rfl (by decide) (ltb rfl) rfl (fun ls hl => ?_)
  refine lv_goto (tgt := 3) hx hb dX8_add_44 rfl ?_
  refine lv_iload_n hx hb dX8_add_3 rfl (lvA0 hl) ?_
  refine lv_if_lt (tgt := 47) hx hb dX8_add_4 rfl (fun _ => ?_) (fun h => absurd h cq_lt_m8_0)
  exact W.vret hx hb hr (fun t ht hW => ⟨⟨((va_up (va_up (va_up (va_up cn 3 ((cn 3) + 1)) 3 (((cn 3) + 1) + 1)) 3 ((((cn 3) + 1) + 1) + 1)) 3 (((((cn 3) + 1) + 1) + 1) + 1)), In, (va_up (va_up (va_up (va_up Fn 40 (putM (Fn 40) 200 (nI (cn 3)) ((v0 >>> (24 &&& 31)) &&& 255))) 40 (putM (putM (Fn 40) 200 (nI (cn 3)) ((v0 >>> (24 &&& 31)) &&& 255)) 200 (nI ((cn 3) + 1)) ((v0 >>> (16 &&& 31)) &&& 255))) 40 (putM (putM (putM (Fn 40) 200 (nI (cn 3)) ((v0 >>> (24 &&& 31)) &&& 255)) 200 (nI ((cn 3) + 1)) ((v0 >>> (16 &&& 31)) &&& 255)) 200 (nI (((cn 3) + 1) + 1)) ((v0 >>> (8 &&& 31)) &&& 255))) 40 (putM (putM (putM (putM (Fn 40) 200 (nI (cn 3)) ((v0 >>> (24 &&& 31)) &&& 255)) 200 (nI ((cn 3) + 1)) ((v0 >>> (16 &&& 31)) &&& 255)) 200 (nI (((cn 3) + 1) + 1)) ((v0 >>> (8 &&& 31)) &&& 255)) 200 (nI ((((cn 3) + 1) + 1) + 1)) ((v0 >>> (0 &&& 31)) &&& 255)))), rfl, ⟨(Fr.mo (Fr.f 40 (Fr.f 40 (Fr.f 40 (Fr.f 40 (Fr.c 3 (Fr.c 3 (Fr.c 3 (Fr.c 3 Fr.rf)))))))) (sbl rfl) (sbl rfl) (sbl rfl)), (CBX.cg (c2 := (va_up (va_up (va_up (va_up cn 3 ((cn 3) + 1)) 3 (((cn 3) + 1) + 1)) 3 ((((cn 3) + 1) + 1) + 1)) 3 (((((cn 3) + 1) + 1) + 1) + 1))) (CBX.u3 (v := (((((cn 3) + 1) + 1) + 1) + 1)) hB (show (((((cn 3) + 1) + 1) + 1) + 1) ≤ 200 by (first | omega | (have zz0 := Hid.u hb_cn; omega)))) rfl rfl rfl rfl rfl rfl rfl rfl rfl rfl rfl rfl rfl rfl rfl rfl rfl rfl), (by show (va_up (va_up (va_up (va_up cn 3 ((cn 3) + 1)) 3 (((cn 3) + 1) + 1)) 3 ((((cn 3) + 1) + 1) + 1)) 3 (((((cn 3) + 1) + 1) + 1) + 1)) 3 = cn 3 + 4 ∧ (va_up (va_up (va_up (va_up Fn 40 (putM (Fn 40) 200 (nI (cn 3)) ((v0 >>> (24 &&& 31)) &&& 255))) 40 (putM (putM (Fn 40) 200 (nI (cn 3)) ((v0 >>> (24 &&& 31)) &&& 255)) 200 (nI ((cn 3) + 1)) ((v0 >>> (16 &&& 31)) &&& 255))) 40 (putM (putM (putM (Fn 40) 200 (nI (cn 3)) ((v0 >>> (24 &&& 31)) &&& 255)) 200 (nI ((cn 3) + 1)) ((v0 >>> (16 &&& 31)) &&& 255)) 200 (nI (((cn 3) + 1) + 1)) ((v0 >>> (8 &&& 31)) &&& 255))) 40 (putM (putM (putM (putM (Fn 40) 200 (nI (cn 3)) ((v0 >>> (24 &&& 31)) &&& 255)) 200 (nI ((cn 3) + 1)) ((v0 >>> (16 &&& 31)) &&& 255)) 200 (nI (((cn 3) + 1) + 1)) ((v0 >>> (8 &&& 31)) &&& 255)) 200 (nI ((((cn 3) + 1) + 1) + 1)) ((v0 >>> (0 &&& 31)) &&& 255))) 40 = tpX (Fn 40) (cn 3) v0; exact ⟨rfl, rfl⟩)⟩, by rw [ht]; exact hP, hD⟩, hS.F ht⟩) hS.2.2 (oc_177 47 (aq_22 shX8_add_25))
set_option maxRecDepth 100000 in
set_option maxHeartbeats 4000000 in
theorem q_types9 (l : Launch) (D : va_G) (cI cB cZ : ClassId) (g : Nat → Nat) (cn : Nat → Nat) (In : Nat → Int32) (Fn : Nat → Nat → Int32) (v0 : Int32) (sz : Nat) (hI : IM cn Fn) (ht : cn 18 + 4 ≤ 200) : Met l yX12_types (CWS yX12_types cX12_types 3 none) (RM 0 0 0) (PBw [.ref (g 100), .int v0] D cI cB cZ (wM cI cB cZ g cn In Fn) sz) (va_Qv (fun (u : (Nat → Nat) × (Nat → Int32) × (Nat → Nat → Int32)) => (fun c2 I2 F2 => Fr [18] [] [17] cn In Fn c2 I2 F2 ∧ IM c2 F2 ∧ (c2 18 = cn 18 + 4 ∧ F2 17 = tpM (Fn 17) (cn 18) v0)) u.1 u.2.1 u.2.2) (fun (u : (Nat → Nat) × (Nat → Int32) × (Nat → Nat → Int32)) (t : State) => va_P D vwCl (wM cI cB cZ g u.1 u.2.1 u.2.2) t.heap ∧ va_D (va_A (wM cI cB cZ g cn In Fn) sz) (wM cI cB cZ g u.1 u.2.1 u.2.2)) (va_A (wM cI cB cZ g cn In Fn) sz)) 0 0 (va_A (wM cI cB cZ g cn In Fn) sz) := by
  refine en_w (fun A => (va_Qv (fun (u : (Nat → Nat) × (Nat → Int32) × (Nat → Nat → Int32)) => (fun (c2 : Nat → Nat) (I2 : Nat → Int32) (F2 : Nat → Nat → Int32) => Fr [18] [] [17] cn In Fn c2 I2 F2 ∧ IM c2 F2 ∧ (c2 18 = cn 18 + 4 ∧ F2 17 = tpM (Fn 17) (cn 18) v0)) u.1 u.2.1 u.2.2) (fun (u : (Nat → Nat) × (Nat → Int32) × (Nat → Nat → Int32)) (t : State) => va_P D vwCl (wM cI cB cZ g u.1 u.2.1 u.2.2) t.heap ∧ va_D A (wM cI cB cZ g u.1 u.2.1 u.2.2)) A)) rfl rfl pn_RX12 (Nat.le_of_ble_eq_true rfl) (fun p e s m below meth c A hx hb hml hown S hr hlocks hnm hA hP hK hD hS ls hl => ?_)
  have hl : lv_has ls 3 [(0, .ref (g 100)), (1, .int v0)] := hl
  have hi_cn : Hid (CB cn) := hI.b
  refine lv_iconst (v := 3) hx hb (oc_6 0 shX12_types_0) kic_3 ?_
  refine lv_istore_n (lv' := [(2, .int 3), (0, .ref (g 100)), (1, .int v0)]) hx hb (oc_61 1 (aq_1 shX12_types_0)) rfl hl (ltb rfl) rfl (fun ls hl => ?_)
  refine lv_iload_n hx hb dX12_types_2 rfl (lvA0 hl) ?_
  refine lv_if_lt (tgt := 38) hx hb dX12_types_3 rfl (fun h => absurd h cq_lt_3_0) (fun _ => ?_)
  refine lv_aload_n hx hb dX12_types_6 rfl (lvA1 hl) ?_
  refine gM_52 S hK hP (v := .ref (g 17)) rfl dX12_types_7 ?_
  refine lv_aload_n hx hb dX12_types_10 rfl (lvA1 hl) ?_
  refine gM_226 S hK hP (v := .int (nI (cn 18))) rfl dX12_types_11 ?_
  refine lv_iload_n hx hb dX12_types_14 rfl (lvA2 hl) ?_
  refine lv_bipush (v := 8) hx hb dX12_types_15 kbc_8 ?_
  refine lv_iload_n hx hb dX12_types_17 rfl (lvA0 hl) ?_
  refine lv_imul hx hb dX12_types_18 ?_
  refine lv_topi (fun y_1 ey_1 => ?_)
  obtain rfl : y_1 = 24 := ey_1.trans (by decide)
  refine lv_ishr hx hb dX12_types_19 ?_
  refine lv_i2b (v := (v0 >>> (24 &&& 31)).toInt8.toInt32) hx hb dX12_types_20 rfl ?_
  have kb_1 : (cn 18) < 200 := by (first | omega | (have zz0 := Hid.u hi_cn; omega))
  refine stM_17 hx hb hK hP hD hS (Fn2 := (va_up Fn 17 (upd (Fn 17) (cn 18) (vp_nar .byte (v0 >>> (24 &&& 31)).toInt8.toInt32)))) (vp_in_nI kb_1 (ltb rfl)) (nI_clamp (Nat.lt_trans kb_1 (ltb rfl))) rfl dX12_types_21 (fun H locs hP hD hS => ?_)
  refine lv_aload_n hx hb dX12_types_22 rfl (lvA1 hl) ?_
  refine lv_aload_n hx hb dX12_types_23 rfl (lvA1 hl) ?_
  refine gM_226 S hK hP (v := .int (nI (cn 18))) rfl dX12_types_24 ?_
  refine lv_iconst (v := 1) hx hb dX12_types_27 kic_1 ?_
  refine lv_iadd hx hb dX12_types_28 ?_
  refine lv_topi (fun y_2 ey_2 => ?_)
  obtain rfl : y_2 = (nI ((cn 18) + 1)) := ey_2.trans (nI_add (cn 18) 1)
  refine pM_226 S hK hP hD hS (a := ((cn 18) + 1)) (cn2 := (va_up cn 18 ((cn 18) + 1))) rfl rfl dX12_types_29 (fun H locs hP hD hS => ?_)
  refine lv_iinc (v := 2) (lv' := [(2, .int 2), (0, .ref (g 100)), (1, .int v0)]) hx hb dX12_types_32 hl (k := 0) rfl (by decide) (ltb rfl) rfl (fun ls hl => ?_)
  refine lv_goto (tgt := 2) hx hb dX12_types_35 rfl ?_
  refine lv_iload_n hx hb dX12_types_2 rfl (lvA0 hl) ?_
  refine lv_if_lt (tgt := 38) hx hb dX12_types_3 rfl (fun h => absurd h cq_lt_2_0) (fun _ => ?_)
  refine lv_aload_n hx hb dX12_types_6 rfl (lvA1 hl) ?_
  refine gM_52 S hK hP (v := .ref (g 17)) rfl dX12_types_7 ?_
  refine lv_aload_n hx hb dX12_types_10 rfl (lvA1 hl) ?_
  refine gM_226 S hK hP (v := .int (nI ((cn 18) + 1))) rfl dX12_types_11 ?_
  refine lv_iload_n hx hb dX12_types_14 rfl (lvA2 hl) ?_
  refine lv_bipush (v := 8) hx hb dX12_types_15 kbc_8 ?_
  refine lv_iload_n hx hb dX12_types_17 rfl (lvA0 hl) ?_
  refine lv_imul hx hb dX12_types_18 ?_
  refine lv_topi (fun y_3 ey_3 => ?_)
  obtain rfl : y_3 = 16 := ey_3.trans (by decide)
  refine lv_ishr hx hb dX12_types_19 ?_
  refine lv_i2b (v := (v0 >>> (16 &&& 31)).toInt8.toInt32) hx hb dX12_types_20 rfl ?_
  have kb_2 : ((cn 18) + 1) < 200 := by (first | omega | (have zz0 := Hid.u hi_cn; omega))
  refine stM_17 hx hb hK hP hD hS (Fn2 := (va_up Fn 17 (upd (upd (Fn 17) (cn 18) (vp_nar .byte (v0 >>> (24 &&& 31)).toInt8.toInt32)) ((cn 18) + 1) (vp_nar .byte (v0 >>> (16 &&& 31)).toInt8.toInt32)))) (vp_in_nI kb_2 (ltb rfl)) (nI_clamp (Nat.lt_trans kb_2 (ltb rfl))) (bx_uu _ _ _ _) dX12_types_21 (fun H locs hP hD hS => ?_)
  refine lv_aload_n hx hb dX12_types_22 rfl (lvA1 hl) ?_
  refine lv_aload_n hx hb dX12_types_23 rfl (lvA1 hl) ?_
  refine gM_226 S hK hP (v := .int (nI ((cn 18) + 1))) rfl dX12_types_24 ?_
  refine lv_iconst (v := 1) hx hb dX12_types_27 kic_1 ?_
  refine lv_iadd hx hb dX12_types_28 ?_
  refine lv_topi (fun y_4 ey_4 => ?_)
  obtain rfl : y_4 = (nI (((cn 18) + 1) + 1)) := ey_4.trans (nI_add ((cn 18) + 1) 1)
  refine pM_226 S hK hP hD hS (a := (((cn 18) + 1) + 1)) (cn2 := (va_up cn 18 (((cn 18) + 1) + 1))) rfl (bx_uu _ _ _ _) dX12_types_29 (fun H locs hP hD hS => ?_)
  refine lv_iinc (v := 1) (lv' := [(2, .int 1), (0, .ref (g 100)), (1, .int v0)]) hx hb dX12_types_32 hl (k := 0) rfl (by decide) (ltb rfl) rfl (fun ls hl => ?_)
  refine lv_goto (tgt := 2) hx hb dX12_types_35 rfl ?_
  refine lv_iload_n hx hb dX12_types_2 rfl (lvA0 hl) ?_
  refine lv_if_lt (tgt := 38) hx hb dX12_types_3 rfl (fun h => absurd h cq_lt_1_0) (fun _ => ?_)
  refine lv_aload_n hx hb dX12_types_6 rfl (lvA1 hl) ?_
  refine gM_52 S hK hP (v := .ref (g 17)) rfl dX12_types_7 ?_
  refine lv_aload_n hx hb dX12_types_10 rfl (lvA1 hl) ?_
  refine gM_226 S hK hP (v := .int (nI (((cn 18) + 1) + 1))) rfl dX12_types_11 ?_
  refine lv_iload_n hx hb dX12_types_14 rfl (lvA2 hl) ?_
  refine lv_bipush (v := 8) hx hb dX12_types_15 kbc_8 ?_
  refine lv_iload_n hx hb dX12_types_17 rfl (lvA0 hl) ?_
  refine lv_imul hx hb dX12_types_18 ?_
  refine lv_topi (fun y_5 ey_5 => ?_)
  obtain rfl : y_5 = 8 := ey_5.trans (by decide)
  refine lv_ishr hx hb dX12_types_19 ?_
  refine lv_i2b (v := (v0 >>> (8 &&& 31)).toInt8.toInt32) hx hb dX12_types_20 rfl ?_
  have kb_3 : (((cn 18) + 1) + 1) < 200 := by (first | omega | (have zz0 := Hid.u hi_cn; omega))
  refine stM_17 hx hb hK hP hD hS (Fn2 := (va_up Fn 17 (upd (upd (upd (Fn 17) (cn 18) (vp_nar .byte (v0 >>> (24 &&& 31)).toInt8.toInt32)) ((cn 18) + 1) (vp_nar .byte (v0 >>> (16 &&& 31)).toInt8.toInt32)) (((cn 18) + 1) + 1) (vp_nar .byte (v0 >>> (8 &&& 31)).toInt8.toInt32)))) (vp_in_nI kb_3 (ltb rfl)) (nI_clamp (Nat.lt_trans kb_3 (ltb rfl))) (bx_uu _ _ _ _) dX12_types_21 (fun H locs hP hD hS => ?_)
  refine lv_aload_n hx hb dX12_types_22 rfl (lvA1 hl) ?_
  refine lv_aload_n hx hb dX12_types_23 rfl (lvA1 hl) ?_
  refine gM_226 S hK hP (v := .int (nI (((cn 18) + 1) + 1))) rfl dX12_types_24 ?_
  refine lv_iconst (v := 1) hx hb dX12_types_27 kic_1 ?_
  refine lv_iadd hx hb dX12_types_28 ?_
  refine lv_topi (fun y_6 ey_6 => ?_)
  obtain rfl : y_6 = (nI ((((cn 18) + 1) + 1) + 1)) := ey_6.trans (nI_add (((cn 18) + 1) + 1) 1)
  refine pM_226 S hK hP hD hS (a := ((((cn 18) + 1) + 1) + 1)) (cn2 := (va_up cn 18 ((((cn 18) + 1) + 1) + 1))) rfl (bx_uu _ _ _ _) dX12_types_29 (fun H locs hP hD hS => ?_)
  refine lv_iinc (v := 0) (lv' := [(2, .int 0), (0, .ref (g 100)), (1, .int v0)]) hx hb dX12_types_32 hl (k := 0) rfl (by decide) (ltb rfl) rfl (fun ls hl => ?_)
  refine lv_goto (tgt := 2) hx hb dX12_types_35 rfl ?_
  refine lv_iload_n hx hb dX12_types_2 rfl (lvA0 hl) ?_
  refine lv_if_lt (tgt := 38) hx hb dX12_types_3 rfl (fun h => absurd h cq_lt_0_0) (fun _ => ?_)
  refine lv_aload_n hx hb dX12_types_6 rfl (lvA1 hl) ?_
  refine gM_52 S hK hP (v := .ref (g 17)) rfl dX12_types_7 ?_
  refine lv_aload_n hx hb dX12_types_10 rfl (lvA1 hl) ?_
  refine gM_226 S hK hP (v := .int (nI ((((cn 18) + 1) + 1) + 1))) rfl dX12_types_11 ?_
  refine lv_iload_n hx hb dX12_types_14 rfl (lvA2 hl) ?_
  refine lv_bipush (v := 8) hx hb dX12_types_15 kbc_8 ?_
  refine lv_iload_n hx hb dX12_types_17 rfl (lvA0 hl) ?_
  refine lv_imul hx hb dX12_types_18 ?_
  refine lv_topi (fun y_7 ey_7 => ?_)
  obtain rfl : y_7 = 0 := ey_7.trans (by decide)
  refine lv_ishr hx hb dX12_types_19 ?_
  refine lv_i2b (v := (v0 >>> (0 &&& 31)).toInt8.toInt32) hx hb dX12_types_20 rfl ?_
  have kb_4 : ((((cn 18) + 1) + 1) + 1) < 200 := by (first | omega | (have zz0 := Hid.u hi_cn; omega))
  refine stM_17 hx hb hK hP hD hS (Fn2 := (va_up Fn 17 (upd (upd (upd (upd (Fn 17) (cn 18) (vp_nar .byte (v0 >>> (24 &&& 31)).toInt8.toInt32)) ((cn 18) + 1) (vp_nar .byte (v0 >>> (16 &&& 31)).toInt8.toInt32)) (((cn 18) + 1) + 1) (vp_nar .byte (v0 >>> (8 &&& 31)).toInt8.toInt32)) ((((cn 18) + 1) + 1) + 1) (vp_nar .byte (v0 >>> (0 &&& 31)).toInt8.toInt32)))) (vp_in_nI kb_4 (ltb rfl)) (nI_clamp (Nat.lt_trans kb_4 (ltb rfl))) (bx_uu _ _ _ _) dX12_types_21 (fun H locs hP hD hS => ?_)
  refine lv_aload_n hx hb dX12_types_22 rfl (lvA1 hl) ?_
  refine lv_aload_n hx hb dX12_types_23 rfl (lvA1 hl) ?_
  refine gM_226 S hK hP (v := .int (nI ((((cn 18) + 1) + 1) + 1))) rfl dX12_types_24 ?_
  refine lv_iconst (v := 1) hx hb dX12_types_27 kic_1 ?_
  refine lv_iadd hx hb dX12_types_28 ?_
  refine lv_topi (fun y_8 ey_8 => ?_)
  obtain rfl : y_8 = (nI (((((cn 18) + 1) + 1) + 1) + 1)) := ey_8.trans (nI_add ((((cn 18) + 1) + 1) + 1) 1)
  refine pM_226 S hK hP hD hS (a := (((((cn 18) + 1) + 1) + 1) + 1)) (cn2 := (va_up cn 18 (((((cn 18) + 1) + 1) + 1) + 1))) rfl (bx_uu _ _ _ _) dX12_types_29 (fun H locs hP hD hS => ?_)
  refine lv_iinc (v := (-1)) (lv' := [(2, .int (-1)), (0, .ref (g 100)), (1, .int v0)]) hx hb dX12_types_32 hl (k := 0) rfl (by decide) (ltb rfl) rfl (fun ls hl => ?_)
  refine lv_goto (tgt := 2) hx hb dX12_types_35 rfl ?_
  refine lv_iload_n hx hb dX12_types_2 rfl (lvA0 hl) ?_
  refine lv_if_lt (tgt := 38) hx hb dX12_types_3 rfl (fun _ => ?_) (fun h => absurd h cq_lt_m1_0)
  exact W.vret hx hb hr (fun t ht hW => ⟨⟨((va_up cn 18 (((((cn 18) + 1) + 1) + 1) + 1)), In, (va_up Fn 17 (upd (upd (upd (upd (Fn 17) (cn 18) (vp_nar .byte (v0 >>> (24 &&& 31)).toInt8.toInt32)) ((cn 18) + 1) (vp_nar .byte (v0 >>> (16 &&& 31)).toInt8.toInt32)) (((cn 18) + 1) + 1) (vp_nar .byte (v0 >>> (8 &&& 31)).toInt8.toInt32)) ((((cn 18) + 1) + 1) + 1) (vp_nar .byte (v0 >>> (0 &&& 31)).toInt8.toInt32)))), rfl, ⟨(Fr.mo (Fr.f 17 (Fr.c 18 Fr.rf)) (sbl rfl) (sbl rfl) (sbl rfl)), (IM.fr (In := In) hI (Fr.f 17 (Fr.c 18 Fr.rf)) (by decide) (by decide)), (by show (va_up cn 18 (((((cn 18) + 1) + 1) + 1) + 1)) 18 = cn 18 + 4 ∧ (va_up Fn 17 (upd (upd (upd (upd (Fn 17) (cn 18) (vp_nar .byte (v0 >>> (24 &&& 31)).toInt8.toInt32)) ((cn 18) + 1) (vp_nar .byte (v0 >>> (16 &&& 31)).toInt8.toInt32)) (((cn 18) + 1) + 1) (vp_nar .byte (v0 >>> (8 &&& 31)).toInt8.toInt32)) ((((cn 18) + 1) + 1) + 1) (vp_nar .byte (v0 >>> (0 &&& 31)).toInt8.toInt32))) 17 = tpM (Fn 17) (cn 18) v0; exact ⟨by rw [va_up_self], rfl⟩)⟩, by rw [ht]; exact hP, hD⟩, hS.F ht⟩) hS.2.2 (oc_177 38 (aq_14 shX12_types_24))
set_option maxRecDepth 100000 in
set_option maxHeartbeats 4000000 in
theorem q_Yfeed (l : Launch) (D : va_G) (cI cB cZ : ClassId) (zz qq vv : Nat) (bt : Nat → Int32) (g : Nat → Nat) (ad : Nat → Nat → Nat) (cn : Nat → Nat) (In : Nat → Int32) (Fn : Nat → Nat → Int32) (v0 v1 v2 v3 v4 : Int32) (sz : Nat) (hB : CBX cn) : Met l yX11_feed (CWS yX11_feed cX11_feed 6 (some .int)) (RM 2 0 0) (PBx [.ref (g 0), .int v0, .int v1, .int v2, .int v3, .int v4] D cI cB cZ zz qq vv bt (wX cI (D.1 99) zz g ad cn In Fn) sz) (va_Qi (fun (r : Int32) (u : (Nat → Nat) × (Nat → Int32) × (Nat → Nat → Int32)) => (fun r c2 I2 F2 => Fr [3] [] [40] cn In Fn c2 I2 F2 ∧ CBX c2 ∧ ((cn 3 + 20 ≤ 200 ∧ c2 3 = cn 3 + 20 ∧ (r : Int32).toInt = (cn 3 : Int) + 20 ∧ F2 40 = tp5X (Fn 40) (cn 3) v0 v1 v2 v3 v4) ∨ (¬ cn 3 + 20 ≤ 200 ∧ c2 3 = cn 3 ∧ (r : Int32).toInt = -1 ∧ F2 40 = Fn 40))) r u.1 u.2.1 u.2.2) (fun (u : (Nat → Nat) × (Nat → Int32) × (Nat → Nat → Int32)) (t : State) => va_P D vwCl (wX cI (D.1 99) zz g ad u.1 u.2.1 u.2.2) t.heap ∧ va_D (va_A (wX cI (D.1 99) zz g ad cn In Fn) sz) (wX cI (D.1 99) zz g ad u.1 u.2.1 u.2.2)) (va_A (wX cI (D.1 99) zz g ad cn In Fn) sz)) 0 0 (va_A (wX cI (D.1 99) zz g ad cn In Fn) sz) := by
  refine en_x (fun A => (va_Qi (fun (r : Int32) (u : (Nat → Nat) × (Nat → Int32) × (Nat → Nat → Int32)) => (fun (r : Int32) (c2 : Nat → Nat) (I2 : Nat → Int32) (F2 : Nat → Nat → Int32) => Fr [3] [] [40] cn In Fn c2 I2 F2 ∧ CBX c2 ∧ ((cn 3 + 20 ≤ 200 ∧ c2 3 = cn 3 + 20 ∧ (r : Int32).toInt = (cn 3 : Int) + 20 ∧ F2 40 = tp5X (Fn 40) (cn 3) v0 v1 v2 v3 v4) ∨ (¬ cn 3 + 20 ≤ 200 ∧ c2 3 = cn 3 ∧ (r : Int32).toInt = -1 ∧ F2 40 = Fn 40))) r u.1 u.2.1 u.2.2) (fun (u : (Nat → Nat) × (Nat → Int32) × (Nat → Nat → Int32)) (t : State) => va_P D vwCl (wX cI (D.1 99) zz g ad u.1 u.2.1 u.2.2) t.heap ∧ va_D A (wX cI (D.1 99) zz g ad u.1 u.2.1 u.2.2)) A)) rfl rfl pn_RX11 (Nat.le_of_ble_eq_true rfl) (fun p e s m below meth c A hx hb hml hown S hr hlocks hnm hA hP hK hD hXS hS ls hl => ?_)
  have hl : lv_has ls 6 [(0, .ref (g 0)), (1, .int v0), (2, .int v1), (3, .int v2), (4, .int v3), (5, .int v4)] := hl
  have hb_cn : Hid (CBX cn) := hB
  replace hB : CBXh cn := hB
  refine lv_aload_n hx hb (oc_42 0 shX11_feed_0) rfl (lvA0 hl) ?_
  refine gf_RX11_21 S hK hP 0 xo_0 (v := .ref (g 5)) rfl (oc_180 1 (aq_1 shX11_feed_0) uw_0_21) ?_
  refine vp_callSi (runV_rxa (As := []) (rest := []) S (q_Xlength l D cI cB cZ zz qq vv bt g ad cn In Fn  hB) kV_RX11_152 hK hXS hS hP 1 xo_1 rfl rfl ⟨Nat.le_of_ble_eq_true rfl, Nat.le_of_ble_eq_true rfl⟩ ⟨Nat.le_of_ble_eq_true rfl, Nat.le_of_ble_eq_true rfl⟩ rfl hl.1 rfl (Nat.le_of_ble_eq_true rfl) (oc_182 4 (aq_4 shX11_feed_0) uw_0_152)) (fun r_1 h_2 => ?_)
  subst h_2
  refine lv_bipush (v := 20) hx hb (oc_16 7 (aq_7 shX11_feed_0) sgb_20) kbc_20 ?_
  refine lv_iadd hx hb (oc_96 9 (aq_9 shX11_feed_0)) ?_
  refine lv_topi (fun y_3 ey_3 => ?_)
  obtain rfl : y_3 = (nI (((cn 3)) + 20)) := ey_3.trans (nI_add ((cn 3)) 20)
  refine lv_sipush (v := 200) hx hb (oc_17 10 (aq_10 shX11_feed_0) sgw_0_200) (by decide) ?_
  have : (nI (((cn 3)) + 20)).toInt = (((((cn 3)) + 20) : Nat) : Int) := nI_toInt (by (first | omega | (have zz0 := Hid.u hb_cn; omega)))
  refine lv_icmp_le (tgt := 18) hx hb (oc_164 13 (aq_13 shX11_feed_0) sgw_0_5) rfl (fun c_4 => ?_) (fun c_4 => ?_)
  ·
    have tc_4 : ((nI (((cn 3)) + 20)).toInt : Int) ≤ 200 := Int32.le_iff_toInt_le.mp c_4
    refine lv_aload_n hx hb (oc_42 18 (aq_18 shX11_feed_0)) rfl (lvA0 hl) ?_
    refine gf_RX11_21 S hK hP 0 xo_0 (v := .ref (g 5)) rfl (oc_180 19 (aq_19 shX11_feed_0) uw_0_21) ?_
    refine lv_iload_n hx hb (oc_27 22 (aq_22 shX11_feed_0)) rfl (lvA1 hl) ?_
    have hFc := free_all hD hS hA
    refine va_callv (runV_xa (As := [.int v0]) (rest := []) S (q_Etadd l D cI cB cZ zz qq vv bt g ad cn In Fn v0 s.heap.size hB (by (first | omega | (have zz0 := Hid.u hb_cn; omega)))) kV_RX11_153 hK hXS hS hFc hP hD 1 xo_1 rfl rfl ⟨Nat.le_of_ble_eq_true rfl, Nat.le_of_ble_eq_true rfl⟩ ⟨Nat.le_of_ble_eq_true rfl, Nat.le_of_ble_eq_true rfl⟩ rfl hl.1 rfl (Nat.le_of_ble_eq_true rfl) (oc_182 23 (aq_23 shX11_feed_0) uw_0_153)) hS (fun q _ h => hFc q h) hFc (fun u t H1 locs ht hvm wh_6 hB1 hz1 hk1 hS => ?_)
    obtain ⟨cn6, In6, Fn6⟩ := u
    obtain ⟨hP1, hD1⟩ := hB1
    rw [ht] at hP1
    have hP : va_P D vwCl (wX cI (D.1 99) zz g ad cn6 In6 Fn6) H1 := hP1
    have hD : va_D A (wX cI (D.1 99) zz g ad cn6 In6 Fn6) := hD1.weaken (fun _ _ _ h => hFc _ h)
    generalize H1 = H at hP hS ⊢
    have vh_6 : (fun c2 I2 F2 => Fr [3] [] [40] cn In Fn c2 I2 F2 ∧ CBX c2 ∧ (c2 3 = (cn 3) + 4 ∧ F2 40 = tpX ((Fn 40)) ((cn 3)) v0)) cn6 In6 Fn6 := wh_6
    obtain ⟨hfc6, hIn6, h_6⟩ := vh_6
    obtain rfl : In = In6 := (funext (fun k => hfc6.2.1 k List.not_mem_nil)).symm
    have hf6 : Fr [3] [] [40] cn In Fn cn6 In Fn6 := Fr.mo (Fr.tr (Fr.rf (cn := cn) (In := In) (Fn := Fn)) hfc6) (sbl rfl) (sbl rfl) (sbl rfl)
    have hb_cn6 : Hid (CBX cn6) := hIn6
    replace hIn6 : CBXh cn6 := hIn6
    have : cn6 6 = (cn 6) := hfc6.1 6 (nml rfl)
    have : cn6 31 = (cn 31) := hfc6.1 31 (nml rfl)
    have : cn6 32 = (cn 32) := hfc6.1 32 (nml rfl)
    have hq_cn6 : Hid (cn6 0 = (cn 0) ∧ cn6 1 = (cn 1) ∧ cn6 2 = (cn 2) ∧ cn6 4 = (cn 4) ∧ cn6 5 = (cn 5) ∧ cn6 10 = (cn 10) ∧ cn6 11 = (cn 11) ∧ cn6 12 = (cn 12) ∧ cn6 13 = (cn 13) ∧ cn6 14 = (cn 14) ∧ cn6 15 = (cn 15) ∧ cn6 20 = (cn 20) ∧ cn6 21 = (cn 21) ∧ cn6 22 = (cn 22) ∧ cn6 23 = (cn 23) ∧ cn6 24 = (cn 24) ∧ cn6 25 = (cn 25)) := Hid.i (p := cn6 0 = (cn 0) ∧ cn6 1 = (cn 1) ∧ cn6 2 = (cn 2) ∧ cn6 4 = (cn 4) ∧ cn6 5 = (cn 5) ∧ cn6 10 = (cn 10) ∧ cn6 11 = (cn 11) ∧ cn6 12 = (cn 12) ∧ cn6 13 = (cn 13) ∧ cn6 14 = (cn 14) ∧ cn6 15 = (cn 15) ∧ cn6 20 = (cn 20) ∧ cn6 21 = (cn 21) ∧ cn6 22 = (cn 22) ∧ cn6 23 = (cn 23) ∧ cn6 24 = (cn 24) ∧ cn6 25 = (cn 25)) ⟨hfc6.1 0 (nml rfl), hfc6.1 1 (nml rfl), hfc6.1 2 (nml rfl), hfc6.1 4 (nml rfl), hfc6.1 5 (nml rfl), hfc6.1 10 (nml rfl), hfc6.1 11 (nml rfl), hfc6.1 12 (nml rfl), hfc6.1 13 (nml rfl), hfc6.1 14 (nml rfl), hfc6.1 15 (nml rfl), hfc6.1 20 (nml rfl), hfc6.1 21 (nml rfl), hfc6.1 22 (nml rfl), hfc6.1 23 (nml rfl), hfc6.1 24 (nml rfl), hfc6.1 25 (nml rfl)⟩
    refine lv_aload_n hx hb (oc_42 26 shX11_feed_26) rfl (lvA0 hl) ?_
    refine gf_RX11_21 S hK hP 0 xo_0 (v := .ref (g 5)) rfl (oc_180 27 (aq_1 shX11_feed_26) uw_0_21) ?_
    refine lv_iload_n hx hb (oc_28 30 (aq_4 shX11_feed_26)) rfl (lvA2 hl) ?_
    have hFc := free_all hD hS hA
    refine va_callv (runV_xa (As := [.int v1]) (rest := []) S (q_Etadd l D cI cB cZ zz qq vv bt g ad cn6 In Fn6 v1 H.size hIn6 (by (first | omega | (have zz0 := Hid.u hb_cn; have zz1 := Hid.u hb_cn6; have zz2 := Hid.u hq_cn6; omega)))) kV_RX11_153 hK hXS hS hFc hP hD 1 xo_1 rfl rfl ⟨Nat.le_of_ble_eq_true rfl, Nat.le_of_ble_eq_true rfl⟩ ⟨Nat.le_of_ble_eq_true rfl, Nat.le_of_ble_eq_true rfl⟩ rfl hl.1 rfl (Nat.le_of_ble_eq_true rfl) (oc_182 31 (aq_5 shX11_feed_26) uw_0_153)) hS (fun q _ h => hFc q h) hFc (fun u t H1 locs ht hvm wh_8 hB1 hz1 hk1 hS => ?_)
    obtain ⟨cn8, In8, Fn8⟩ := u
    obtain ⟨hP1, hD1⟩ := hB1
    rw [ht] at hP1
    have hP : va_P D vwCl (wX cI (D.1 99) zz g ad cn8 In8 Fn8) H1 := hP1
    have hD : va_D A (wX cI (D.1 99) zz g ad cn8 In8 Fn8) := hD1.weaken (fun _ _ _ h => hFc _ h)
    generalize H1 = H at hP hS ⊢
    have vh_8 : (fun c2 I2 F2 => Fr [3] [] [40] cn6 In Fn6 c2 I2 F2 ∧ CBX c2 ∧ (c2 3 = (cn6 3) + 4 ∧ F2 40 = tpX ((Fn6 40)) ((cn6 3)) v1)) cn8 In8 Fn8 := wh_8
    obtain ⟨hfc8, hIn8, h_8⟩ := vh_8
    obtain rfl : In = In8 := (funext (fun k => hfc8.2.1 k List.not_mem_nil)).symm
    have hf8 : Fr [3] [] [40] cn In Fn cn8 In Fn8 := Fr.mo (Fr.tr hf6 hfc8) (sbl rfl) (sbl rfl) (sbl rfl)
    have hb_cn8 : Hid (CBX cn8) := hIn8
    replace hIn8 : CBXh cn8 := hIn8
    have : cn8 6 = (cn6 6) := hfc8.1 6 (nml rfl)
    have : cn8 31 = (cn6 31) := hfc8.1 31 (nml rfl)
    have : cn8 32 = (cn6 32) := hfc8.1 32 (nml rfl)
    have hq_cn8 : Hid (cn8 0 = (cn6 0) ∧ cn8 1 = (cn6 1) ∧ cn8 2 = (cn6 2) ∧ cn8 4 = (cn6 4) ∧ cn8 5 = (cn6 5) ∧ cn8 10 = (cn6 10) ∧ cn8 11 = (cn6 11) ∧ cn8 12 = (cn6 12) ∧ cn8 13 = (cn6 13) ∧ cn8 14 = (cn6 14) ∧ cn8 15 = (cn6 15) ∧ cn8 20 = (cn6 20) ∧ cn8 21 = (cn6 21) ∧ cn8 22 = (cn6 22) ∧ cn8 23 = (cn6 23) ∧ cn8 24 = (cn6 24) ∧ cn8 25 = (cn6 25)) := Hid.i (p := cn8 0 = (cn6 0) ∧ cn8 1 = (cn6 1) ∧ cn8 2 = (cn6 2) ∧ cn8 4 = (cn6 4) ∧ cn8 5 = (cn6 5) ∧ cn8 10 = (cn6 10) ∧ cn8 11 = (cn6 11) ∧ cn8 12 = (cn6 12) ∧ cn8 13 = (cn6 13) ∧ cn8 14 = (cn6 14) ∧ cn8 15 = (cn6 15) ∧ cn8 20 = (cn6 20) ∧ cn8 21 = (cn6 21) ∧ cn8 22 = (cn6 22) ∧ cn8 23 = (cn6 23) ∧ cn8 24 = (cn6 24) ∧ cn8 25 = (cn6 25)) ⟨hfc8.1 0 (nml rfl), hfc8.1 1 (nml rfl), hfc8.1 2 (nml rfl), hfc8.1 4 (nml rfl), hfc8.1 5 (nml rfl), hfc8.1 10 (nml rfl), hfc8.1 11 (nml rfl), hfc8.1 12 (nml rfl), hfc8.1 13 (nml rfl), hfc8.1 14 (nml rfl), hfc8.1 15 (nml rfl), hfc8.1 20 (nml rfl), hfc8.1 21 (nml rfl), hfc8.1 22 (nml rfl), hfc8.1 23 (nml rfl), hfc8.1 24 (nml rfl), hfc8.1 25 (nml rfl)⟩
    refine lv_aload_n hx hb (oc_42 34 (aq_8 shX11_feed_26)) rfl (lvA0 hl) ?_
    refine gf_RX11_21 S hK hP 0 xo_0 (v := .ref (g 5)) rfl (oc_180 35 (aq_9 shX11_feed_26) uw_0_21) ?_
    refine lv_iload_n hx hb (oc_29 38 (aq_12 shX11_feed_26)) rfl (lvA3 hl) ?_
    have hFc := free_all hD hS hA
    refine va_callv (runV_xa (As := [.int v2]) (rest := []) S (q_Etadd l D cI cB cZ zz qq vv bt g ad cn8 In Fn8 v2 H.size hIn8 (by (first | omega | (have zz0 := Hid.u hb_cn; have zz1 := Hid.u hb_cn6; have zz2 := Hid.u hb_cn8; have zz3 := Hid.u hq_cn6; have zz4 := Hid.u hq_cn8; omega)))) kV_RX11_153 hK hXS hS hFc hP hD 1 xo_1 rfl rfl ⟨Nat.le_of_ble_eq_true rfl, Nat.le_of_ble_eq_true rfl⟩ ⟨Nat.le_of_ble_eq_true rfl, Nat.le_of_ble_eq_true rfl⟩ rfl hl.1 rfl (Nat.le_of_ble_eq_true rfl) (oc_182 39 (aq_13 shX11_feed_26) uw_0_153)) hS (fun q _ h => hFc q h) hFc (fun u t H1 locs ht hvm wh_10 hB1 hz1 hk1 hS => ?_)
    obtain ⟨cn10, In10, Fn10⟩ := u
    obtain ⟨hP1, hD1⟩ := hB1
    rw [ht] at hP1
    have hP : va_P D vwCl (wX cI (D.1 99) zz g ad cn10 In10 Fn10) H1 := hP1
    have hD : va_D A (wX cI (D.1 99) zz g ad cn10 In10 Fn10) := hD1.weaken (fun _ _ _ h => hFc _ h)
    generalize H1 = H at hP hS ⊢
    have vh_10 : (fun c2 I2 F2 => Fr [3] [] [40] cn8 In Fn8 c2 I2 F2 ∧ CBX c2 ∧ (c2 3 = (cn8 3) + 4 ∧ F2 40 = tpX ((Fn8 40)) ((cn8 3)) v2)) cn10 In10 Fn10 := wh_10
    obtain ⟨hfc10, hIn10, h_10⟩ := vh_10
    obtain rfl : In = In10 := (funext (fun k => hfc10.2.1 k List.not_mem_nil)).symm
    have hf10 : Fr [3] [] [40] cn In Fn cn10 In Fn10 := Fr.mo (Fr.tr hf8 hfc10) (sbl rfl) (sbl rfl) (sbl rfl)
    have hb_cn10 : Hid (CBX cn10) := hIn10
    replace hIn10 : CBXh cn10 := hIn10
    have : cn10 6 = (cn8 6) := hfc10.1 6 (nml rfl)
    have : cn10 31 = (cn8 31) := hfc10.1 31 (nml rfl)
    have : cn10 32 = (cn8 32) := hfc10.1 32 (nml rfl)
    have hq_cn10 : Hid (cn10 0 = (cn8 0) ∧ cn10 1 = (cn8 1) ∧ cn10 2 = (cn8 2) ∧ cn10 4 = (cn8 4) ∧ cn10 5 = (cn8 5) ∧ cn10 10 = (cn8 10) ∧ cn10 11 = (cn8 11) ∧ cn10 12 = (cn8 12) ∧ cn10 13 = (cn8 13) ∧ cn10 14 = (cn8 14) ∧ cn10 15 = (cn8 15) ∧ cn10 20 = (cn8 20) ∧ cn10 21 = (cn8 21) ∧ cn10 22 = (cn8 22) ∧ cn10 23 = (cn8 23) ∧ cn10 24 = (cn8 24) ∧ cn10 25 = (cn8 25)) := Hid.i (p := cn10 0 = (cn8 0) ∧ cn10 1 = (cn8 1) ∧ cn10 2 = (cn8 2) ∧ cn10 4 = (cn8 4) ∧ cn10 5 = (cn8 5) ∧ cn10 10 = (cn8 10) ∧ cn10 11 = (cn8 11) ∧ cn10 12 = (cn8 12) ∧ cn10 13 = (cn8 13) ∧ cn10 14 = (cn8 14) ∧ cn10 15 = (cn8 15) ∧ cn10 20 = (cn8 20) ∧ cn10 21 = (cn8 21) ∧ cn10 22 = (cn8 22) ∧ cn10 23 = (cn8 23) ∧ cn10 24 = (cn8 24) ∧ cn10 25 = (cn8 25)) ⟨hfc10.1 0 (nml rfl), hfc10.1 1 (nml rfl), hfc10.1 2 (nml rfl), hfc10.1 4 (nml rfl), hfc10.1 5 (nml rfl), hfc10.1 10 (nml rfl), hfc10.1 11 (nml rfl), hfc10.1 12 (nml rfl), hfc10.1 13 (nml rfl), hfc10.1 14 (nml rfl), hfc10.1 15 (nml rfl), hfc10.1 20 (nml rfl), hfc10.1 21 (nml rfl), hfc10.1 22 (nml rfl), hfc10.1 23 (nml rfl), hfc10.1 24 (nml rfl), hfc10.1 25 (nml rfl)⟩
    refine lv_aload_n hx hb (oc_42 42 (aq_16 shX11_feed_26)) rfl (lvA0 hl) ?_
    refine gf_RX11_21 S hK hP 0 xo_0 (v := .ref (g 5)) rfl (oc_180 43 (aq_17 shX11_feed_26) uw_0_21) ?_
    refine lv_iload hx hb (oc_21 46 (aq_20 shX11_feed_26) ub_4) (lvA4 hl) ?_
    have hFc := free_all hD hS hA
    refine va_callv (runV_xa (As := [.int v3]) (rest := []) S (q_Etadd l D cI cB cZ zz qq vv bt g ad cn10 In Fn10 v3 H.size hIn10 (by (first | omega | (have zz0 := Hid.u hb_cn; have zz1 := Hid.u hb_cn10; have zz2 := Hid.u hb_cn6; have zz3 := Hid.u hb_cn8; have zz4 := Hid.u hq_cn10; have zz5 := Hid.u hq_cn6; have zz6 := Hid.u hq_cn8; omega)))) kV_RX11_153 hK hXS hS hFc hP hD 1 xo_1 rfl rfl ⟨Nat.le_of_ble_eq_true rfl, Nat.le_of_ble_eq_true rfl⟩ ⟨Nat.le_of_ble_eq_true rfl, Nat.le_of_ble_eq_true rfl⟩ rfl hl.1 rfl (Nat.le_of_ble_eq_true rfl) (oc_182 48 (aq_22 shX11_feed_26) uw_0_153)) hS (fun q _ h => hFc q h) hFc (fun u t H1 locs ht hvm wh_12 hB1 hz1 hk1 hS => ?_)
    obtain ⟨cn12, In12, Fn12⟩ := u
    obtain ⟨hP1, hD1⟩ := hB1
    rw [ht] at hP1
    have hP : va_P D vwCl (wX cI (D.1 99) zz g ad cn12 In12 Fn12) H1 := hP1
    have hD : va_D A (wX cI (D.1 99) zz g ad cn12 In12 Fn12) := hD1.weaken (fun _ _ _ h => hFc _ h)
    generalize H1 = H at hP hS ⊢
    have vh_12 : (fun c2 I2 F2 => Fr [3] [] [40] cn10 In Fn10 c2 I2 F2 ∧ CBX c2 ∧ (c2 3 = (cn10 3) + 4 ∧ F2 40 = tpX ((Fn10 40)) ((cn10 3)) v3)) cn12 In12 Fn12 := wh_12
    obtain ⟨hfc12, hIn12, h_12⟩ := vh_12
    obtain rfl : In = In12 := (funext (fun k => hfc12.2.1 k List.not_mem_nil)).symm
    have hf12 : Fr [3] [] [40] cn In Fn cn12 In Fn12 := Fr.mo (Fr.tr hf10 hfc12) (sbl rfl) (sbl rfl) (sbl rfl)
    have hb_cn12 : Hid (CBX cn12) := hIn12
    replace hIn12 : CBXh cn12 := hIn12
    have : cn12 6 = (cn10 6) := hfc12.1 6 (nml rfl)
    have : cn12 31 = (cn10 31) := hfc12.1 31 (nml rfl)
    have : cn12 32 = (cn10 32) := hfc12.1 32 (nml rfl)
    have hq_cn12 : Hid (cn12 0 = (cn10 0) ∧ cn12 1 = (cn10 1) ∧ cn12 2 = (cn10 2) ∧ cn12 4 = (cn10 4) ∧ cn12 5 = (cn10 5) ∧ cn12 10 = (cn10 10) ∧ cn12 11 = (cn10 11) ∧ cn12 12 = (cn10 12) ∧ cn12 13 = (cn10 13) ∧ cn12 14 = (cn10 14) ∧ cn12 15 = (cn10 15) ∧ cn12 20 = (cn10 20) ∧ cn12 21 = (cn10 21) ∧ cn12 22 = (cn10 22) ∧ cn12 23 = (cn10 23) ∧ cn12 24 = (cn10 24) ∧ cn12 25 = (cn10 25)) := Hid.i (p := cn12 0 = (cn10 0) ∧ cn12 1 = (cn10 1) ∧ cn12 2 = (cn10 2) ∧ cn12 4 = (cn10 4) ∧ cn12 5 = (cn10 5) ∧ cn12 10 = (cn10 10) ∧ cn12 11 = (cn10 11) ∧ cn12 12 = (cn10 12) ∧ cn12 13 = (cn10 13) ∧ cn12 14 = (cn10 14) ∧ cn12 15 = (cn10 15) ∧ cn12 20 = (cn10 20) ∧ cn12 21 = (cn10 21) ∧ cn12 22 = (cn10 22) ∧ cn12 23 = (cn10 23) ∧ cn12 24 = (cn10 24) ∧ cn12 25 = (cn10 25)) ⟨hfc12.1 0 (nml rfl), hfc12.1 1 (nml rfl), hfc12.1 2 (nml rfl), hfc12.1 4 (nml rfl), hfc12.1 5 (nml rfl), hfc12.1 10 (nml rfl), hfc12.1 11 (nml rfl), hfc12.1 12 (nml rfl), hfc12.1 13 (nml rfl), hfc12.1 14 (nml rfl), hfc12.1 15 (nml rfl), hfc12.1 20 (nml rfl), hfc12.1 21 (nml rfl), hfc12.1 22 (nml rfl), hfc12.1 23 (nml rfl), hfc12.1 24 (nml rfl), hfc12.1 25 (nml rfl)⟩
    refine lv_aload_n hx hb (oc_42 51 shX11_feed_51) rfl (lvA0 hl) ?_
    refine gf_RX11_21 S hK hP 0 xo_0 (v := .ref (g 5)) rfl (oc_180 52 (aq_1 shX11_feed_51) uw_0_21) ?_
    refine lv_iload hx hb (oc_21 55 (aq_4 shX11_feed_51) ub_5) (lvA5 hl) ?_
    have hFc := free_all hD hS hA
    refine va_callv (runV_xa (As := [.int v4]) (rest := []) S (q_Etadd l D cI cB cZ zz qq vv bt g ad cn12 In Fn12 v4 H.size hIn12 (by (first | omega | (have zz0 := Hid.u hb_cn; have zz1 := Hid.u hb_cn10; have zz2 := Hid.u hb_cn12; have zz3 := Hid.u hb_cn6; have zz4 := Hid.u hb_cn8; have zz5 := Hid.u hq_cn10; have zz6 := Hid.u hq_cn12; have zz7 := Hid.u hq_cn6; have zz8 := Hid.u hq_cn8; omega)))) kV_RX11_153 hK hXS hS hFc hP hD 1 xo_1 rfl rfl ⟨Nat.le_of_ble_eq_true rfl, Nat.le_of_ble_eq_true rfl⟩ ⟨Nat.le_of_ble_eq_true rfl, Nat.le_of_ble_eq_true rfl⟩ rfl hl.1 rfl (Nat.le_of_ble_eq_true rfl) (oc_182 57 (aq_6 shX11_feed_51) uw_0_153)) hS (fun q _ h => hFc q h) hFc (fun u t H1 locs ht hvm wh_14 hB1 hz1 hk1 hS => ?_)
    obtain ⟨cn14, In14, Fn14⟩ := u
    obtain ⟨hP1, hD1⟩ := hB1
    rw [ht] at hP1
    have hP : va_P D vwCl (wX cI (D.1 99) zz g ad cn14 In14 Fn14) H1 := hP1
    have hD : va_D A (wX cI (D.1 99) zz g ad cn14 In14 Fn14) := hD1.weaken (fun _ _ _ h => hFc _ h)
    generalize H1 = H at hP hS ⊢
    have vh_14 : (fun c2 I2 F2 => Fr [3] [] [40] cn12 In Fn12 c2 I2 F2 ∧ CBX c2 ∧ (c2 3 = (cn12 3) + 4 ∧ F2 40 = tpX ((Fn12 40)) ((cn12 3)) v4)) cn14 In14 Fn14 := wh_14
    obtain ⟨hfc14, hIn14, h_14⟩ := vh_14
    obtain rfl : In = In14 := (funext (fun k => hfc14.2.1 k List.not_mem_nil)).symm
    have hf14 : Fr [3] [] [40] cn In Fn cn14 In Fn14 := Fr.mo (Fr.tr hf12 hfc14) (sbl rfl) (sbl rfl) (sbl rfl)
    have hb_cn14 : Hid (CBX cn14) := hIn14
    replace hIn14 : CBXh cn14 := hIn14
    have : cn14 6 = (cn12 6) := hfc14.1 6 (nml rfl)
    have : cn14 31 = (cn12 31) := hfc14.1 31 (nml rfl)
    have : cn14 32 = (cn12 32) := hfc14.1 32 (nml rfl)
    have hq_cn14 : Hid (cn14 0 = (cn12 0) ∧ cn14 1 = (cn12 1) ∧ cn14 2 = (cn12 2) ∧ cn14 4 = (cn12 4) ∧ cn14 5 = (cn12 5) ∧ cn14 10 = (cn12 10) ∧ cn14 11 = (cn12 11) ∧ cn14 12 = (cn12 12) ∧ cn14 13 = (cn12 13) ∧ cn14 14 = (cn12 14) ∧ cn14 15 = (cn12 15) ∧ cn14 20 = (cn12 20) ∧ cn14 21 = (cn12 21) ∧ cn14 22 = (cn12 22) ∧ cn14 23 = (cn12 23) ∧ cn14 24 = (cn12 24) ∧ cn14 25 = (cn12 25)) := Hid.i (p := cn14 0 = (cn12 0) ∧ cn14 1 = (cn12 1) ∧ cn14 2 = (cn12 2) ∧ cn14 4 = (cn12 4) ∧ cn14 5 = (cn12 5) ∧ cn14 10 = (cn12 10) ∧ cn14 11 = (cn12 11) ∧ cn14 12 = (cn12 12) ∧ cn14 13 = (cn12 13) ∧ cn14 14 = (cn12 14) ∧ cn14 15 = (cn12 15) ∧ cn14 20 = (cn12 20) ∧ cn14 21 = (cn12 21) ∧ cn14 22 = (cn12 22) ∧ cn14 23 = (cn12 23) ∧ cn14 24 = (cn12 24) ∧ cn14 25 = (cn12 25)) ⟨hfc14.1 0 (nml rfl), hfc14.1 1 (nml rfl), hfc14.1 2 (nml rfl), hfc14.1 4 (nml rfl), hfc14.1 5 (nml rfl), hfc14.1 10 (nml rfl), hfc14.1 11 (nml rfl), hfc14.1 12 (nml rfl), hfc14.1 13 (nml rfl), hfc14.1 14 (nml rfl), hfc14.1 15 (nml rfl), hfc14.1 20 (nml rfl), hfc14.1 21 (nml rfl), hfc14.1 22 (nml rfl), hfc14.1 23 (nml rfl), hfc14.1 24 (nml rfl), hfc14.1 25 (nml rfl)⟩
    refine lv_aload_n hx hb (oc_42 60 (aq_9 shX11_feed_51)) rfl (lvA0 hl) ?_
    refine gf_RX11_21 S hK hP 0 xo_0 (v := .ref (g 5)) rfl (oc_180 61 (aq_10 shX11_feed_51) uw_0_21) ?_
    refine vp_callSi (runV_rxa (As := []) (rest := []) S (q_Xlength l D cI cB cZ zz qq vv bt g ad cn14 In Fn14  hIn14) kV_RX11_152 hK hXS hS hP 1 xo_1 rfl rfl ⟨Nat.le_of_ble_eq_true rfl, Nat.le_of_ble_eq_true rfl⟩ ⟨Nat.le_of_ble_eq_true rfl, Nat.le_of_ble_eq_true rfl⟩ rfl hl.1 rfl (Nat.le_of_ble_eq_true rfl) (oc_182 64 (aq_13 shX11_feed_51) uw_0_152)) (fun r_15 h_16 => ?_)
    subst h_16
    exact W.iret (v := (nI ((cn14 3)))) hx hb hr (fun t ht hW => ⟨⟨(nI ((cn14 3))), (cn14, In, Fn14), rfl, ⟨(Fr.mo hf14 (sbl rfl) (sbl rfl) (sbl rfl)), hIn14, (by show (cn 3 + 20 ≤ 200 ∧ cn14 3 = cn 3 + 20 ∧ ((nI ((cn14 3))) : Int32).toInt = (cn 3 : Int) + 20 ∧ Fn14 40 = tp5X (Fn 40) (cn 3) v0 v1 v2 v3 v4) ∨ (¬ cn 3 + 20 ≤ 200 ∧ cn14 3 = cn 3 ∧ ((nI ((cn14 3))) : Int32).toInt = -1 ∧ Fn14 40 = Fn 40); have t9 : (nI ((cn14 3))).toInt = ((((cn14 3)) : Nat) : Int) := nI_toInt (by (first | omega | (have zz0 := Hid.u hb_cn; have zz1 := Hid.u hb_cn10; have zz2 := Hid.u hb_cn12; have zz3 := Hid.u hb_cn14; have zz4 := Hid.u hb_cn6; have zz5 := Hid.u hb_cn8; have zz6 := Hid.u hq_cn10; have zz7 := Hid.u hq_cn12; have zz8 := Hid.u hq_cn14; have zz9 := Hid.u hq_cn6; have zz10 := Hid.u hq_cn8; omega))); exact Or.inl ⟨by (first | omega | (have zz0 := Hid.u hb_cn; have zz1 := Hid.u hb_cn10; have zz2 := Hid.u hb_cn12; have zz3 := Hid.u hb_cn14; have zz4 := Hid.u hb_cn6; have zz5 := Hid.u hb_cn8; have zz6 := Hid.u hq_cn10; have zz7 := Hid.u hq_cn12; have zz8 := Hid.u hq_cn14; have zz9 := Hid.u hq_cn6; have zz10 := Hid.u hq_cn8; omega)), by (first | omega | (have zz0 := Hid.u hb_cn; have zz1 := Hid.u hb_cn10; have zz2 := Hid.u hb_cn12; have zz3 := Hid.u hb_cn14; have zz4 := Hid.u hb_cn6; have zz5 := Hid.u hb_cn8; have zz6 := Hid.u hq_cn10; have zz7 := Hid.u hq_cn12; have zz8 := Hid.u hq_cn14; have zz9 := Hid.u hq_cn6; have zz10 := Hid.u hq_cn8; omega)), by (first | omega | (have zz0 := Hid.u hb_cn; have zz1 := Hid.u hb_cn10; have zz2 := Hid.u hb_cn12; have zz3 := Hid.u hb_cn14; have zz4 := Hid.u hb_cn6; have zz5 := Hid.u hb_cn8; have zz6 := Hid.u hq_cn10; have zz7 := Hid.u hq_cn12; have zz8 := Hid.u hq_cn14; have zz9 := Hid.u hq_cn6; have zz10 := Hid.u hq_cn8; omega)), by rw [h_14.2, h_12.2, h_10.2, h_8.2, h_6.2, h_12.1, h_10.1, h_8.1, h_6.1] <;> rfl⟩)⟩, by rw [ht]; exact hP, hD⟩, hS.F ht⟩) hS.2.2 (oc_172 67 (aq_16 shX11_feed_51))
  ·
    have tc_4 : (200 : Int) < (nI (((cn 3)) + 20)).toInt := Int32.lt_iff_toInt_lt.mp (Int32.not_le.mp c_4)
    refine lv_iconst (v := (-1)) hx hb (oc_2 16 (aq_16 shX11_feed_0)) kic_m1 ?_
    exact W.iret (v := (-1)) hx hb hr (fun t ht hW => ⟨⟨(-1), (cn, In, Fn), rfl, ⟨(Fr.mo Fr.rf (sbl rfl) (sbl rfl) (sbl rfl)), hB, (by show (cn 3 + 20 ≤ 200 ∧ cn 3 = cn 3 + 20 ∧ ((-1) : Int32).toInt = (cn 3 : Int) + 20 ∧ Fn 40 = tp5X (Fn 40) (cn 3) v0 v1 v2 v3 v4) ∨ (¬ cn 3 + 20 ≤ 200 ∧ cn 3 = cn 3 ∧ ((-1) : Int32).toInt = -1 ∧ Fn 40 = Fn 40); exact Or.inr ⟨by (first | omega | (have zz0 := Hid.u hb_cn; omega)), rfl, rfl, rfl⟩)⟩, by rw [ht]; exact hP, hD⟩, hS.F ht⟩) hS.2.2 (oc_172 17 (aq_17 shX11_feed_0))
set_option maxRecDepth 100000 in
set_option maxHeartbeats 4000000 in
theorem q_feed9y (l : Launch) (D : va_G) (cI cB cZ : ClassId) (g : Nat → Nat) (cn : Nat → Nat) (In : Nat → Int32) (Fn : Nat → Nat → Int32) (v0 v1 v2 v3 v4 : Int32) (sz : Nat) (hI : IM cn Fn) (h18 : cn 18 ≤ 200) : Met l yX12_feed (CWS yX12_feed cX12_feed 6 (some .int)) (RM 1 0 0) (PBw [.ref (g 100), .int v0, .int v1, .int v2, .int v3, .int v4] D cI cB cZ (wM cI cB cZ g cn In Fn) sz) (va_Qi (fun (r : Int32) (u : (Nat → Nat) × (Nat → Int32) × (Nat → Nat → Int32)) => (fun r c2 I2 F2 => Fr [18] [] [17] cn In Fn c2 I2 F2 ∧ IM c2 F2 ∧ ((cn 18 + 20 ≤ 200 ∧ c2 18 = cn 18 + 20 ∧ (r : Int32).toInt = (cn 18 : Int) + 20 ∧ F2 17 = tp5M (Fn 17) (cn 18) v0 v1 v2 v3 v4) ∨ (¬ cn 18 + 20 ≤ 200 ∧ c2 18 = cn 18 ∧ (r : Int32).toInt = -1 ∧ F2 17 = Fn 17))) r u.1 u.2.1 u.2.2) (fun (u : (Nat → Nat) × (Nat → Int32) × (Nat → Nat → Int32)) (t : State) => va_P D vwCl (wM cI cB cZ g u.1 u.2.1 u.2.2) t.heap ∧ va_D (va_A (wM cI cB cZ g cn In Fn) sz) (wM cI cB cZ g u.1 u.2.1 u.2.2)) (va_A (wM cI cB cZ g cn In Fn) sz)) 0 0 (va_A (wM cI cB cZ g cn In Fn) sz) := by
  refine en_w (fun A => (va_Qi (fun (r : Int32) (u : (Nat → Nat) × (Nat → Int32) × (Nat → Nat → Int32)) => (fun (r : Int32) (c2 : Nat → Nat) (I2 : Nat → Int32) (F2 : Nat → Nat → Int32) => Fr [18] [] [17] cn In Fn c2 I2 F2 ∧ IM c2 F2 ∧ ((cn 18 + 20 ≤ 200 ∧ c2 18 = cn 18 + 20 ∧ (r : Int32).toInt = (cn 18 : Int) + 20 ∧ F2 17 = tp5M (Fn 17) (cn 18) v0 v1 v2 v3 v4) ∨ (¬ cn 18 + 20 ≤ 200 ∧ c2 18 = cn 18 ∧ (r : Int32).toInt = -1 ∧ F2 17 = Fn 17))) r u.1 u.2.1 u.2.2) (fun (u : (Nat → Nat) × (Nat → Int32) × (Nat → Nat → Int32)) (t : State) => va_P D vwCl (wM cI cB cZ g u.1 u.2.1 u.2.2) t.heap ∧ va_D A (wM cI cB cZ g u.1 u.2.1 u.2.2)) A)) rfl rfl pn_RX12 (Nat.le_of_ble_eq_true rfl) (fun p e s m below meth c A hx hb hml hown S hr hlocks hnm hA hP hK hD hS ls hl => ?_)
  have hl : lv_has ls 6 [(0, .ref (g 100)), (1, .int v0), (2, .int v1), (3, .int v2), (4, .int v3), (5, .int v4)] := hl
  have hi_cn : Hid (CB cn) := hI.b
  refine lv_aload_n hx hb (oc_42 0 shX12_feed_0) rfl (lvA0 hl) ?_
  refine gM_226 S hK hP (v := .int (nI (cn 18))) rfl (oc_180 1 (aq_1 shX12_feed_0) uw_0_226) ?_
  refine lv_bipush (v := 20) hx hb (oc_16 4 (aq_4 shX12_feed_0) sgb_20) kbc_20 ?_
  refine lv_iadd hx hb (oc_96 6 (aq_6 shX12_feed_0)) ?_
  refine lv_topi (fun y_1 ey_1 => ?_)
  obtain rfl : y_1 = (nI ((cn 18) + 20)) := ey_1.trans (nI_add (cn 18) 20)
  refine lv_sipush (v := 200) hx hb (oc_17 7 (aq_7 shX12_feed_0) sgw_0_200) (by decide) ?_
  have : (nI ((cn 18) + 20)).toInt = ((((cn 18) + 20) : Nat) : Int) := nI_toInt (by (first | omega | (have zz0 := Hid.u hi_cn; omega)))
  refine lv_icmp_le (tgt := 15) hx hb (oc_164 10 (aq_10 shX12_feed_0) sgw_0_5) rfl (fun c_2 => ?_) (fun c_2 => ?_)
  ·
    have tc_2 : ((nI ((cn 18) + 20)).toInt : Int) ≤ 200 := Int32.le_iff_toInt_le.mp c_2
    refine lv_aload_n hx hb (oc_42 15 (aq_15 shX12_feed_0)) rfl (lvA0 hl) ?_
    refine lv_iload_n hx hb (oc_27 16 (aq_16 shX12_feed_0)) rfl (lvA1 hl) ?_
    have hFc := free_all hD hS hA
    refine va_callv (runV_a (As := [.int v0]) (rest := []) S (q_types9 l D cI cB cZ g cn In Fn v0 s.heap.size hI (by (first | omega | (have zz0 := Hid.u hi_cn; omega)))) kV_RX12_229 hK hP hD 0 rfl rfl rfl ⟨Nat.le_of_ble_eq_true rfl, Nat.le_of_ble_eq_true rfl⟩ ⟨Nat.le_of_ble_eq_true rfl, Nat.le_of_ble_eq_true rfl⟩ rfl hl.1 rfl (Nat.le_of_ble_eq_true rfl) (oc_182 17 (aq_17 shX12_feed_0) uw_0_229)) hS (fun q _ h => hFc q h) hFc (fun u t H1 locs ht hvm wh_4 hB hz1 hk1 hS => ?_)
    obtain ⟨cn4, In4, Fn4⟩ := u
    obtain ⟨hP1, hD1⟩ := hB
    rw [ht] at hP1
    have hP : va_P D vwCl (wM cI cB cZ g cn4 In4 Fn4) H1 := hP1
    have hD : va_D A (wM cI cB cZ g cn4 In4 Fn4) := hD1.weaken (fun _ _ _ h => hFc _ h)
    generalize H1 = H at hP hS ⊢
    have vh_4 : (fun c2 I2 F2 => Fr [18] [] [17] cn In Fn c2 I2 F2 ∧ IM c2 F2 ∧ (c2 18 = (cn 18) + 4 ∧ F2 17 = tpM ((Fn 17)) ((cn 18)) v0)) cn4 In4 Fn4 := wh_4
    obtain ⟨hfc4, hIn4, h_4⟩ := vh_4
    obtain rfl : In = In4 := (funext (fun k => hfc4.2.1 k List.not_mem_nil)).symm
    have hf4 : Fr [18] [] [17] cn In Fn cn4 In Fn4 := Fr.mo (Fr.tr (Fr.rf (cn := cn) (In := In) (Fn := Fn)) hfc4) (sbl rfl) (sbl rfl) (sbl rfl)
    have hi_cn4 : Hid (CB cn4) := hIn4.b
    have hq_cn4 := Hid.i (frq_18_0_1_2_46_57_58_62_63_75_83_44 hf4)
    refine lv_aload_n hx hb (oc_42 20 (aq_20 shX12_feed_0)) rfl (lvA0 hl) ?_
    refine lv_iload_n hx hb (oc_28 21 (aq_21 shX12_feed_0)) rfl (lvA2 hl) ?_
    have hFc := free_all hD hS hA
    refine va_callv (runV_a (As := [.int v1]) (rest := []) S (q_types9 l D cI cB cZ g cn4 In Fn4 v1 H.size hIn4 (by (first | omega | (have zz0 := Hid.u hi_cn; have zz1 := Hid.u hi_cn4; have zz2 := Hid.u hq_cn4; omega)))) kV_RX12_229 hK hP hD 0 rfl rfl rfl ⟨Nat.le_of_ble_eq_true rfl, Nat.le_of_ble_eq_true rfl⟩ ⟨Nat.le_of_ble_eq_true rfl, Nat.le_of_ble_eq_true rfl⟩ rfl hl.1 rfl (Nat.le_of_ble_eq_true rfl) (oc_182 22 (aq_22 shX12_feed_0) uw_0_229)) hS (fun q _ h => hFc q h) hFc (fun u t H1 locs ht hvm wh_6 hB hz1 hk1 hS => ?_)
    obtain ⟨cn6, In6, Fn6⟩ := u
    obtain ⟨hP1, hD1⟩ := hB
    rw [ht] at hP1
    have hP : va_P D vwCl (wM cI cB cZ g cn6 In6 Fn6) H1 := hP1
    have hD : va_D A (wM cI cB cZ g cn6 In6 Fn6) := hD1.weaken (fun _ _ _ h => hFc _ h)
    generalize H1 = H at hP hS ⊢
    have vh_6 : (fun c2 I2 F2 => Fr [18] [] [17] cn4 In Fn4 c2 I2 F2 ∧ IM c2 F2 ∧ (c2 18 = (cn4 18) + 4 ∧ F2 17 = tpM ((Fn4 17)) ((cn4 18)) v1)) cn6 In6 Fn6 := wh_6
    obtain ⟨hfc6, hIn6, h_6⟩ := vh_6
    obtain rfl : In = In6 := (funext (fun k => hfc6.2.1 k List.not_mem_nil)).symm
    have hf6 : Fr [18] [] [17] cn In Fn cn6 In Fn6 := Fr.mo (Fr.tr hf4 hfc6) (sbl rfl) (sbl rfl) (sbl rfl)
    have hi_cn6 : Hid (CB cn6) := hIn6.b
    have hq_cn6 := Hid.i (frq_18_0_1_2_46_57_58_62_63_75_83_44 hf6)
    refine lv_aload_n hx hb (oc_42 25 shX12_feed_25) rfl (lvA0 hl) ?_
    refine lv_iload_n hx hb (oc_29 26 (aq_1 shX12_feed_25)) rfl (lvA3 hl) ?_
    have hFc := free_all hD hS hA
    refine va_callv (runV_a (As := [.int v2]) (rest := []) S (q_types9 l D cI cB cZ g cn6 In Fn6 v2 H.size hIn6 (by (first | omega | (have zz0 := Hid.u hi_cn; have zz1 := Hid.u hi_cn4; have zz2 := Hid.u hi_cn6; have zz3 := Hid.u hq_cn4; have zz4 := Hid.u hq_cn6; omega)))) kV_RX12_229 hK hP hD 0 rfl rfl rfl ⟨Nat.le_of_ble_eq_true rfl, Nat.le_of_ble_eq_true rfl⟩ ⟨Nat.le_of_ble_eq_true rfl, Nat.le_of_ble_eq_true rfl⟩ rfl hl.1 rfl (Nat.le_of_ble_eq_true rfl) (oc_182 27 (aq_2 shX12_feed_25) uw_0_229)) hS (fun q _ h => hFc q h) hFc (fun u t H1 locs ht hvm wh_8 hB hz1 hk1 hS => ?_)
    obtain ⟨cn8, In8, Fn8⟩ := u
    obtain ⟨hP1, hD1⟩ := hB
    rw [ht] at hP1
    have hP : va_P D vwCl (wM cI cB cZ g cn8 In8 Fn8) H1 := hP1
    have hD : va_D A (wM cI cB cZ g cn8 In8 Fn8) := hD1.weaken (fun _ _ _ h => hFc _ h)
    generalize H1 = H at hP hS ⊢
    have vh_8 : (fun c2 I2 F2 => Fr [18] [] [17] cn6 In Fn6 c2 I2 F2 ∧ IM c2 F2 ∧ (c2 18 = (cn6 18) + 4 ∧ F2 17 = tpM ((Fn6 17)) ((cn6 18)) v2)) cn8 In8 Fn8 := wh_8
    obtain ⟨hfc8, hIn8, h_8⟩ := vh_8
    obtain rfl : In = In8 := (funext (fun k => hfc8.2.1 k List.not_mem_nil)).symm
    have hf8 : Fr [18] [] [17] cn In Fn cn8 In Fn8 := Fr.mo (Fr.tr hf6 hfc8) (sbl rfl) (sbl rfl) (sbl rfl)
    have hi_cn8 : Hid (CB cn8) := hIn8.b
    have hq_cn8 := Hid.i (frq_18_0_1_2_46_57_58_62_63_75_83_44 hf8)
    refine lv_aload_n hx hb (oc_42 30 (aq_5 shX12_feed_25)) rfl (lvA0 hl) ?_
    refine lv_iload hx hb (oc_21 31 (aq_6 shX12_feed_25) ub_4) (lvA4 hl) ?_
    have hFc := free_all hD hS hA
    refine va_callv (runV_a (As := [.int v3]) (rest := []) S (q_types9 l D cI cB cZ g cn8 In Fn8 v3 H.size hIn8 (by (first | omega | (have zz0 := Hid.u hi_cn; have zz1 := Hid.u hi_cn4; have zz2 := Hid.u hi_cn6; have zz3 := Hid.u hi_cn8; have zz4 := Hid.u hq_cn4; have zz5 := Hid.u hq_cn6; have zz6 := Hid.u hq_cn8; omega)))) kV_RX12_229 hK hP hD 0 rfl rfl rfl ⟨Nat.le_of_ble_eq_true rfl, Nat.le_of_ble_eq_true rfl⟩ ⟨Nat.le_of_ble_eq_true rfl, Nat.le_of_ble_eq_true rfl⟩ rfl hl.1 rfl (Nat.le_of_ble_eq_true rfl) (oc_182 33 (aq_8 shX12_feed_25) uw_0_229)) hS (fun q _ h => hFc q h) hFc (fun u t H1 locs ht hvm wh_10 hB hz1 hk1 hS => ?_)
    obtain ⟨cn10, In10, Fn10⟩ := u
    obtain ⟨hP1, hD1⟩ := hB
    rw [ht] at hP1
    have hP : va_P D vwCl (wM cI cB cZ g cn10 In10 Fn10) H1 := hP1
    have hD : va_D A (wM cI cB cZ g cn10 In10 Fn10) := hD1.weaken (fun _ _ _ h => hFc _ h)
    generalize H1 = H at hP hS ⊢
    have vh_10 : (fun c2 I2 F2 => Fr [18] [] [17] cn8 In Fn8 c2 I2 F2 ∧ IM c2 F2 ∧ (c2 18 = (cn8 18) + 4 ∧ F2 17 = tpM ((Fn8 17)) ((cn8 18)) v3)) cn10 In10 Fn10 := wh_10
    obtain ⟨hfc10, hIn10, h_10⟩ := vh_10
    obtain rfl : In = In10 := (funext (fun k => hfc10.2.1 k List.not_mem_nil)).symm
    have hf10 : Fr [18] [] [17] cn In Fn cn10 In Fn10 := Fr.mo (Fr.tr hf8 hfc10) (sbl rfl) (sbl rfl) (sbl rfl)
    have hi_cn10 : Hid (CB cn10) := hIn10.b
    have hq_cn10 := Hid.i (frq_18_0_1_2_46_57_58_62_63_75_83_44 hf10)
    refine lv_aload_n hx hb (oc_42 36 (aq_11 shX12_feed_25)) rfl (lvA0 hl) ?_
    refine lv_iload hx hb (oc_21 37 (aq_12 shX12_feed_25) ub_5) (lvA5 hl) ?_
    have hFc := free_all hD hS hA
    refine va_callv (runV_a (As := [.int v4]) (rest := []) S (q_types9 l D cI cB cZ g cn10 In Fn10 v4 H.size hIn10 (by (first | omega | (have zz0 := Hid.u hi_cn; have zz1 := Hid.u hi_cn10; have zz2 := Hid.u hi_cn4; have zz3 := Hid.u hi_cn6; have zz4 := Hid.u hi_cn8; have zz5 := Hid.u hq_cn10; have zz6 := Hid.u hq_cn4; have zz7 := Hid.u hq_cn6; have zz8 := Hid.u hq_cn8; omega)))) kV_RX12_229 hK hP hD 0 rfl rfl rfl ⟨Nat.le_of_ble_eq_true rfl, Nat.le_of_ble_eq_true rfl⟩ ⟨Nat.le_of_ble_eq_true rfl, Nat.le_of_ble_eq_true rfl⟩ rfl hl.1 rfl (Nat.le_of_ble_eq_true rfl) (oc_182 39 (aq_14 shX12_feed_25) uw_0_229)) hS (fun q _ h => hFc q h) hFc (fun u t H1 locs ht hvm wh_12 hB hz1 hk1 hS => ?_)
    obtain ⟨cn12, In12, Fn12⟩ := u
    obtain ⟨hP1, hD1⟩ := hB
    rw [ht] at hP1
    have hP : va_P D vwCl (wM cI cB cZ g cn12 In12 Fn12) H1 := hP1
    have hD : va_D A (wM cI cB cZ g cn12 In12 Fn12) := hD1.weaken (fun _ _ _ h => hFc _ h)
    generalize H1 = H at hP hS ⊢
    have vh_12 : (fun c2 I2 F2 => Fr [18] [] [17] cn10 In Fn10 c2 I2 F2 ∧ IM c2 F2 ∧ (c2 18 = (cn10 18) + 4 ∧ F2 17 = tpM ((Fn10 17)) ((cn10 18)) v4)) cn12 In12 Fn12 := wh_12
    obtain ⟨hfc12, hIn12, h_12⟩ := vh_12
    obtain rfl : In = In12 := (funext (fun k => hfc12.2.1 k List.not_mem_nil)).symm
    have hf12 : Fr [18] [] [17] cn In Fn cn12 In Fn12 := Fr.mo (Fr.tr hf10 hfc12) (sbl rfl) (sbl rfl) (sbl rfl)
    have hi_cn12 : Hid (CB cn12) := hIn12.b
    have hq_cn12 := Hid.i (frq_18_0_1_2_46_57_58_62_63_75_83_44 hf12)
    refine lv_aload_n hx hb (oc_42 42 (aq_17 shX12_feed_25)) rfl (lvA0 hl) ?_
    refine gM_226 S hK hP (v := .int (nI (cn12 18))) rfl (oc_180 43 (aq_18 shX12_feed_25) uw_0_226) ?_
    exact W.iret (v := (nI (cn12 18))) hx hb hr (fun t ht hW => ⟨⟨(nI (cn12 18)), (cn12, In, Fn12), rfl, ⟨(Fr.mo hf12 (sbl rfl) (sbl rfl) (sbl rfl)), hIn12, (by show (cn 18 + 20 ≤ 200 ∧ cn12 18 = cn 18 + 20 ∧ ((nI (cn12 18)) : Int32).toInt = (cn 18 : Int) + 20 ∧ Fn12 17 = tp5M (Fn 17) (cn 18) v0 v1 v2 v3 v4) ∨ (¬ cn 18 + 20 ≤ 200 ∧ cn12 18 = cn 18 ∧ ((nI (cn12 18)) : Int32).toInt = -1 ∧ Fn12 17 = Fn 17); have t9 : (nI (cn12 18)).toInt = (((cn12 18) : Nat) : Int) := nI_toInt (by (first | omega | (have zz0 := Hid.u hi_cn; have zz1 := Hid.u hi_cn10; have zz2 := Hid.u hi_cn12; have zz3 := Hid.u hi_cn4; have zz4 := Hid.u hi_cn6; have zz5 := Hid.u hi_cn8; have zz6 := Hid.u hq_cn10; have zz7 := Hid.u hq_cn12; have zz8 := Hid.u hq_cn4; have zz9 := Hid.u hq_cn6; have zz10 := Hid.u hq_cn8; omega))); exact Or.inl ⟨by (first | omega | (have zz0 := Hid.u hi_cn; have zz1 := Hid.u hi_cn10; have zz2 := Hid.u hi_cn12; have zz3 := Hid.u hi_cn4; have zz4 := Hid.u hi_cn6; have zz5 := Hid.u hi_cn8; have zz6 := Hid.u hq_cn10; have zz7 := Hid.u hq_cn12; have zz8 := Hid.u hq_cn4; have zz9 := Hid.u hq_cn6; have zz10 := Hid.u hq_cn8; omega)), by (first | omega | (have zz0 := Hid.u hi_cn; have zz1 := Hid.u hi_cn10; have zz2 := Hid.u hi_cn12; have zz3 := Hid.u hi_cn4; have zz4 := Hid.u hi_cn6; have zz5 := Hid.u hi_cn8; have zz6 := Hid.u hq_cn10; have zz7 := Hid.u hq_cn12; have zz8 := Hid.u hq_cn4; have zz9 := Hid.u hq_cn6; have zz10 := Hid.u hq_cn8; omega)), by (first | omega | (have zz0 := Hid.u hi_cn; have zz1 := Hid.u hi_cn10; have zz2 := Hid.u hi_cn12; have zz3 := Hid.u hi_cn4; have zz4 := Hid.u hi_cn6; have zz5 := Hid.u hi_cn8; have zz6 := Hid.u hq_cn10; have zz7 := Hid.u hq_cn12; have zz8 := Hid.u hq_cn4; have zz9 := Hid.u hq_cn6; have zz10 := Hid.u hq_cn8; omega)), by rw [h_12.2, h_10.2, h_8.2, h_6.2, h_4.2, h_10.1, h_8.1, h_6.1, h_4.1] <;> rfl⟩)⟩, by rw [ht]; exact hP, hD⟩, hS.F ht⟩) hS.2.2 (oc_172 46 (aq_21 shX12_feed_25))
  ·
    have tc_2 : (200 : Int) < (nI ((cn 18) + 20)).toInt := Int32.lt_iff_toInt_lt.mp (Int32.not_le.mp c_2)
    refine lv_iconst (v := (-1)) hx hb (oc_2 13 (aq_13 shX12_feed_0)) kic_m1 ?_
    exact W.iret (v := (-1)) hx hb hr (fun t ht hW => ⟨⟨(-1), (cn, In, Fn), rfl, ⟨(Fr.mo Fr.rf (sbl rfl) (sbl rfl) (sbl rfl)), hI, (by show (cn 18 + 20 ≤ 200 ∧ cn 18 = cn 18 + 20 ∧ ((-1) : Int32).toInt = (cn 18 : Int) + 20 ∧ Fn 17 = tp5M (Fn 17) (cn 18) v0 v1 v2 v3 v4) ∨ (¬ cn 18 + 20 ≤ 200 ∧ cn 18 = cn 18 ∧ ((-1) : Int32).toInt = -1 ∧ Fn 17 = Fn 17); exact Or.inr ⟨by (first | omega | (have zz0 := Hid.u hi_cn; omega)), rfl, rfl, rfl⟩)⟩, by rw [ht]; exact hP, hD⟩, hS.F ht⟩) hS.2.2 (oc_172 14 (aq_14 shX12_feed_0))
