/-- what is left of x behind n that go out -/
def dnI (f : Nat → Int32) (x : Int32) : Nat → Int32
  | 0 => x
  | n + 1 => dnI f x n - f n
theorem dnI_y {f : Nat → Int32} {x z y : Int32} {n : Nat} (h : x = dnI f z n) (e : f n = y) : x - y = dnI f z (n + 1) := by
  rw [h, ← e]
  rfl
theorem dnI_s {f : Nat → Int32} {x : Int32} : ∀ n : Nat, dnI f x n + sumI f n = x
  | 0 => Int32.add_zero x
  | n + 1 => by
    have ih := dnI_s (f := f) (x := x) n
    show dnI f x n - f n + (sumI f n + f n) = x
    rw [Int32.add_comm (sumI f n) (f n), ← Int32.add_assoc, Int32.sub_add_cancel]
    exact ih
theorem add_rc {a b c : Int32} (h : a + c = b + c) : a = b := by
  have t := congrArg (fun z => z - c) h
  have e : ∀ z : Int32, z + c - c = z := fun z => Int32.add_sub_cancel z c
  have t2 : a + c - c = b + c - c := t
  rw [e, e] at t2
  exact t2
/-- the first day on which there is less; -2 where there is none -/
def BLW (P : Nat → Prop) (n : Nat) (r : Int32) : Prop := (∃ p : Nat, p < n ∧ P p ∧ (∀ q : Nat, q < p → ¬ P q) ∧ r = nI p) ∨ ((∀ q : Nat, q < n → ¬ P q) ∧ r = -2)
theorem BLW.un {P Q : Nat → Prop} {n : Nat} {r r2 : Int32} (e : ∀ k : Nat, k < n → (P k ↔ Q k)) (a : BLW P n r) (b : BLW Q n r2) : r = r2 := by
  rcases a with ⟨p, a1, a2, a3, a4⟩ | ⟨a1, a2⟩ <;> rcases b with ⟨q, b1, b2, b3, b4⟩ | ⟨b1, b2⟩
  · rcases Nat.lt_trichotomy p q with w | w | w
    · exact absurd ((e p a1).mp a2) (b3 p w)
    · rw [a4, b4, w]
    · exact absurd ((e q b1).mpr b2) (a3 q w)
  · exact absurd ((e p a1).mp a2) (b1 p a1)
  · exact absurd ((e q b1).mpr b2) (a1 q b1)
  · rw [a2, b2]
/-- until a day: loads, spills, batches -/
def ldF (D L : Nat → Int32) (d : Nat) : Nat → Int32 := fun i => if (D i).toInt ≤ (d : Int) then L i else 0
def btF (D S L : Nat → Int32) (d : Nat) : Nat → Int32 := fun j => if (D j).toInt ≤ (d : Int) then nI (mixN L (S j) 20) else 0
/-- the stock on a day as the reference reckons it -/
def stkM (n s b : Nat) (lD lL sD sL bD bS : Nat → Int32) (d : Nat) : Int32 := dnI (btF bD bS lL d) (dnI (ldF sD sL d) (sumI (ldF lD lL d) n) s) b
/-- and as the class keeps it: days' changes -/
def STQ (C : Nat → Int32) (n s b : Nat) (lD lL sD sL bD bS : Nat → Int32) : Prop := ∀ d : Nat, d < 400 → sumI C (d + 1) + sumI (btF bD bS lL d) b + sumI (ldF sD sL d) s = sumI (ldF lD lL d) n
section STQS
variable {C : Nat → Int32} {n s b d : Nat} {lD lL sD sL bD bS : Nat → Int32}
theorem STQ.eq (h : STQ C n s b lD lL sD sL bD bS) (hd : d < 400) : sumI C (d + 1) = stkM n s b lD lL sD sL bD bS d := by
  have h1 := h d hd
  have h2 := dnI_s (f := btF bD bS lL d) (x := dnI (ldF sD sL d) (sumI (ldF lD lL d) n) s) b
  have h3 := dnI_s (f := ldF sD sL d) (x := sumI (ldF lD lL d) n) s
  unfold stkM
  apply add_rc (c := sumI (btF bD bS lL d) b)
  apply add_rc (c := sumI (ldF sD sL d) s)
  rw [h1, h2, h3]
theorem sumI_up {f : Nat → Int32} {k : Nat} {x : Int32} : ∀ m : Nat, sumI (upd f k (f k + x)) m = sumI f m + (if k < m then x else 0)
  | 0 => by
    rw [if_neg (Nat.not_lt_zero k)]
    exact (Int32.add_zero _).symm
  | m + 1 => by
    have ih := sumI_up (f := f) (k := k) (x := x) m
    show sumI (upd f k (f k + x)) m + upd f k (f k + x) m = sumI f m + f m + (if k < m + 1 then x else 0)
    rw [ih]
    by_cases q : m = k
    · subst q
      rw [upd_self, if_neg (Nat.lt_irrefl _), if_pos (Nat.lt_succ_self _), Int32.add_zero, Int32.add_assoc]
    · rw [show upd f k (f k + x) m = f m from if_neg q]
      by_cases l : k < m
      · rw [if_pos l, if_pos (by omega), Int32.add_assoc, Int32.add_comm x, ← Int32.add_assoc]
      · rw [if_neg l, if_neg (by omega), Int32.add_zero, Int32.add_zero]
theorem sumI_ld {D L : Nat → Int32} {v w : Int32} : sumI (ldF (upd D n v) (upd L n w) d) (n + 1) = sumI (ldF D L d) n + (if v.toInt ≤ (d : Int) then w else 0) := by
  show sumI (ldF (upd D n v) (upd L n w) d) n + ldF (upd D n v) (upd L n w) d n = _
  have e : sumI (ldF (upd D n v) (upd L n w) d) n = sumI (ldF D L d) n := sumI_cg n (fun i hi => by
    unfold ldF
    rw [upd_nq (by omega), upd_nq (by omega)])
  rw [e]
  unfold ldF
  rw [upd_self, upd_self]
theorem sumI_bt {D S L : Nat → Int32} {v w : Int32} : sumI (btF (upd D n v) (upd S n w) L d) (n + 1) = sumI (btF D S L d) n + (if v.toInt ≤ (d : Int) then nI (mixN L w 20) else 0) := by
  show sumI (btF (upd D n v) (upd S n w) L d) n + btF (upd D n v) (upd S n w) L d n = _
  have e : sumI (btF (upd D n v) (upd S n w) L d) n = sumI (btF D S L d) n := sumI_cg n (fun i hi => by
    unfold btF
    rw [upd_nq (by omega), upd_nq (by omega)])
  rw [e]
  unfold btF
  rw [upd_self, upd_self]
/-- a load more -/
theorem STQ.ld {v w : Int32} {k : Nat} (h : STQ C n s b lD lL sD sL bD bS) (hv : v.toInt = (k : Int)) (hb : ∀ j : Nat, j < b → mixN (upd lL n w) (bS j) 20 = mixN lL (bS j) 20) : STQ (upd C k (C k + w)) (n + 1) s b (upd lD n v) (upd lL n w) sD sL bD bS := fun d hd => by
  have e : sumI (btF bD bS (upd lL n w) d) b = sumI (btF bD bS lL d) b := sumI_cg b (fun j hj => by
    unfold btF
    rw [hb j hj])
  rw [e, sumI_up, sumI_ld, ← h d hd]
  have c : (if k < d + 1 then w else 0) = (if v.toInt ≤ (d : Int) then w else 0) := by
    by_cases q : k < d + 1
    · rw [if_pos q, if_pos (by omega)]
    · rw [if_neg q, if_neg (by omega)]
  rw [c, Int32.add_assoc, Int32.add_assoc, Int32.add_comm (if v.toInt ≤ (d : Int) then w else 0), ← Int32.add_assoc, ← Int32.add_assoc]
/-- a spill more -/
theorem STQ.sp {v w : Int32} {k : Nat} (h : STQ C n s b lD lL sD sL bD bS) (hv : v.toInt = (k : Int)) : STQ (upd C k (C k + -w)) n (s + 1) b lD lL (upd sD s v) (upd sL s w) bD bS := fun d hd => by
  rw [sumI_up, sumI_ld, ← h d hd]
  by_cases q : k < d + 1
  · rw [if_pos q, if_pos (by omega), ← Int32.sub_eq_add_neg]
    rw [← Int32.add_assoc, Int32.add_assoc (sumI C (d + 1) - w), Int32.add_comm (sumI C (d + 1) - w), Int32.add_assoc, Int32.sub_add_cancel, Int32.add_comm (sumI (btF bD bS lL d) b + sumI (ldF sD sL d) s), ← Int32.add_assoc]
  · rw [if_neg q, if_neg (by omega), Int32.add_zero, Int32.add_zero]
/-- a batch more -/
theorem STQ.bt {v u : Int32} {k : Nat} (h : STQ C n s b lD lL sD sL bD bS) (hv : v.toInt = (k : Int)) : STQ (upd C k (C k + -(nI (mixN lL u 20)))) n s (b + 1) lD lL sD sL (upd bD b v) (upd bS b u) := fun d hd => by
  rw [sumI_up, sumI_bt, ← h d hd]
  by_cases q : k < d + 1
  · rw [if_pos q, if_pos (by omega), ← Int32.sub_eq_add_neg]
    rw [← Int32.add_assoc, Int32.add_assoc (sumI C (d + 1) - nI (mixN lL u 20)), Int32.add_comm (sumI (btF bD bS lL d) b) (nI (mixN lL u 20)), ← Int32.add_assoc, Int32.sub_add_cancel]
  · rw [if_neg q, if_neg (by omega), Int32.add_zero, Int32.add_zero]
end STQS
theorem putM_at {f : Nat → Int32} {v w : Int32} {k : Nat} (hv : v.toInt = (k : Int)) (hk : k < 400) : putM f 400 v (atM f 400 v + w) = upd f k (f k + w) := by
  have ev : v = nI k := Int32.toInt_inj.mp (by rw [nI_toInt (by omega)]; exact hv)
  subst ev
  rw [atM_j rfl hk (by decide)]
  unfold putM
  rw [if_pos ⟨by omega, by omega⟩, nI_clamp (by omega)]
theorem mixN_c9 {f g : Nat → Int32} {s : Int32} : ∀ n : Nat, (∀ i : Nat, i < n → ¬ (s >>> (nI i &&& 31)) &&& 1 = 0 → f i = g i) → mixN f s n = mixN g s n
  | 0, _ => rfl
  | n + 1, h => by
    have ih := mixN_c9 n (fun i hi hb => h i (Nat.lt_succ_of_lt hi) hb)
    by_cases q : (s >>> (nI n &&& 31)) &&& 1 = 0
    · rw [mixN_0 q, mixN_0 q, ih]
    · unfold mixN
      rw [if_neg q, if_neg q, ih, h n (Nat.lt_succ_self n) q]
theorem STQ.start {lD lL sD sL bD bS : Nat → Int32} : STQ (fun _ => 0) 0 0 0 lD lL sD sL bD bS := fun d _ => by
  rw [sumI_0 (f := fun _ => (0 : Int32)) (d + 1) (fun _ _ => rfl)]
  rfl



set_option maxRecDepth 100000 in
set_option maxHeartbeats 4000000 in
theorem q_Ebelow (l : Launch) (D : va_G) (cI cB cZ : ClassId) (zz qq vv : Nat) (bt : Nat → Int32) (g : Nat → Nat) (ad : Nat → Nat → Nat) (cn : Nat → Nat) (In : Nat → Int32) (Fn : Nat → Nat → Int32) (v0 : Int32) (hB : CBX cn) : Met l yX11_below (CWS yX11_below cX11_below 4 (some .int)) (RM 2 0 0) (PBrx [.ref (g 0), .int v0] D cI cB cZ zz qq vv bt (wX cI (D.1 99) zz g ad cn In Fn)) (vp_Si (fun r => ((-10000 ≤ v0.toInt ∧ v0.toInt ≤ 10000) ∧ BLW (fun d => (sumI (Fn 29) (d + 1)).toInt < v0.toInt) (cn 0 + 1) r) ∨ (¬ (-10000 ≤ v0.toInt ∧ v0.toInt ≤ 10000) ∧ r = -1))) 0 0 (fun _ => False) := by
  refine en_rx rfl pn_RX11 (Nat.le_of_ble_eq_true rfl) (fun p e s m below meth c hx hb hml hown S hr hlocks hnm hP hK hXS hS ls hl => ?_)
  have hl : lv_has ls 4 [(0, .ref (g 0)), (1, .int v0)] := hl
  have hb_cn : Hid (CBX cn) := hB
  replace hB : CBXh cn := hB
  refine lv_iload_n hx hb (oc_27 0 shX11_below_0) rfl (lvA1 hl) ?_
  refine lv_sipush (v := (-10000)) hx hb (oc_17 1 (aq_1 shX11_below_0) sgw_216_240) (by decide) ?_
  refine lv_sipush (v := 10000) hx hb (oc_17 4 (aq_4 shX11_below_0) sgw_39_16) (by decide) ?_
  refine vp_callSi (runS_r (As := [.int v0, .int (-10000), .int 10000]) (rest := []) S (q_l_within l D cI cB cZ v0 (-10000) 10000) kS_RX11_80 hK hP [] rfl ⟨Nat.le_of_ble_eq_true rfl, Nat.le_of_ble_eq_true rfl⟩ ⟨Nat.le_of_ble_eq_true rfl, Nat.le_of_ble_eq_true rfl⟩ rfl hl.1 rfl (Nat.le_of_ble_eq_true rfl) (oc_184 7 (aq_7 shX11_below_0) uw_0_80)) (fun r_1 h_2 => ?_)
  rcases h_2 with ⟨rfl, h_2⟩ | ⟨rfl, h_2⟩
  ·
    have h_2 : (-10000) ≤ v0.toInt ∧ v0.toInt ≤ 10000 := h_2
    refine lv_if_ne (tgt := 15) hx hb dX11_below_10 rfl (fun _ => ?_) (fun h => absurd h cq_eq_1_0)
    refine lv_iconst (v := 0) hx hb (oc_3 15 (aq_15 shX11_below_0)) kic_0 ?_
    refine lv_istore_n (lv' := [(2, .int 0), (0, .ref (g 0)), (1, .int v0)]) hx hb (oc_61 16 (aq_16 shX11_below_0)) rfl hl (ltb rfl) rfl (fun ls hl => ?_)
    refine lv_iconst (v := 0) hx hb (oc_3 17 (aq_17 shX11_below_0)) kic_0 ?_
    refine lv_istore_n (lv' := [(3, .int 0), (2, .int 0), (0, .ref (g 0)), (1, .int v0)]) hx hb (oc_62 18 (aq_18 shX11_below_0)) rfl hl (ltb rfl) rfl (fun ls hl => ?_)
    have lp_19 : ∀ (n : Nat) (i19 : Nat) (x19_2 : Int32) , cn 0 + 1 - i19 < n → (i19 ≤ cn 0 + 1 ∧ (x19_2 = sumI (Fn 29) i19) ∧ (∀ q : Nat, q < i19 → ¬ ((fun d => (sumI (Fn 29) (d + 1)).toInt < v0.toInt)) q)) → ∀ ls : Array Slot, lv_has ls 4 [(3, .int (nI i19)), (2, .int x19_2), (0, .ref (g 0)), (1, .int v0)] → W p l e (RM 2 0 0) s m ([.ref (g 0), .int v0]).toArray below meth c s.heap [] 0 0 (MQ below (vp_Si (fun r => ((-10000 ≤ v0.toInt ∧ v0.toInt ≤ 10000) ∧ BLW (fun d => (sumI (Fn 29) (d + 1)).toInt < v0.toInt) (cn 0 + 1) r) ∨ (¬ (-10000 ≤ v0.toInt ∧ v0.toInt ≤ 10000) ∧ r = -1))) ([.ref (g 0), .int v0]).toArray s 0 0 (fun _ => False)) (F0 m 19 ls []) := by
      intro n19
      induction n19 with
      | zero => intros; (first | omega | (have zz0 := Hid.u hb_cn; omega))
      | succ n19 ih19 =>
        intro i19 x19_2 hmu19 hinv19 ls hl
        obtain ⟨hr19, hx19_0, hx19_1⟩ := hinv19
        have ti19 : (nI i19).toInt = (i19 : Int) := nI_toInt (by (first | omega | (have zz0 := Hid.u hb_cn; omega)))
        refine lv_iload_n hx hb (oc_29 19 (aq_19 shX11_below_0)) rfl (lvA0 hl) ?_
        refine lv_aload_n hx hb (oc_42 20 (aq_20 shX11_below_0)) rfl (lvA2 hl) ?_
        refine gf_RX11_103 S hK hP 0 xo_0 (v := .int (nI (cn 0))) rfl (oc_180 21 (aq_21 shX11_below_0) uw_0_103) ?_
        have : (nI (cn 0)).toInt = (((cn 0) : Nat) : Int) := nI_toInt (by (first | omega | (have zz0 := Hid.u hb_cn; omega)))
        refine lv_icmp_gt (tgt := 54) hx hb (oc_163 24 shX11_below_24 sgw_0_30) rfl (fun c_3 => ?_) (fun c_3 => ?_)
        ·
          have tc_3 : ((nI (cn 0)).toInt : Int) < (nI i19).toInt := Int32.lt_iff_toInt_lt.mp c_3
          refine lv_bipush (v := (-2)) hx hb (oc_16 54 (aq_6 shX11_below_48) sgb_254) kbc_m2 ?_
          exact W.iret (v := (-2)) hx hb hr (fun t ht hW => ⟨(-2), rfl, (Or.inl ⟨by (first | omega | (have zz0 := Hid.u hb_cn; omega)), Or.inr ⟨fun q hq => hx19_1 q (by (first | omega | (have zz0 := Hid.u hb_cn; omega))), rfl⟩⟩), ht⟩) (fun _ h => absurd h List.not_mem_nil) (oc_172 56 (aq_8 shX11_below_48))
        ·
          have tc_3 : ((nI i19).toInt : Int) ≤ (nI (cn 0)).toInt := Int32.le_iff_toInt_le.mp (Int32.not_lt.mp c_3)
          refine lv_iload_n hx hb (oc_28 27 (aq_3 shX11_below_24)) rfl (lvA1 hl) ?_
          refine lv_aload_n hx hb (oc_42 28 (aq_4 shX11_below_24)) rfl (lvA2 hl) ?_
          refine gf_RX11_47 S hK hP 0 xo_0 (v := .ref (g 8)) rfl (oc_180 29 (aq_5 shX11_below_24) uw_0_47) ?_
          refine gf_RX11_520 S hK hP 6 xo_6 (v := .ref (g 29)) rfl (oc_180 32 (aq_8 shX11_below_24) uw_2_8) ?_
          refine lv_iload_n hx hb (oc_29 35 (aq_11 shX11_below_24)) rfl (lvA0 hl) ?_
          refine vp_callSi (runS_r (As := [.ref (g 29), .int (nI i19)]) (rest := [.int x19_2]) S (q_l_at l D cI cB cZ (g 29) 400 (Fn 29) (nI i19) (by (first | omega | (have zz0 := Hid.u hb_cn; omega)))) kS_RX11_192 hK hP [16] (one_is xo_16) ⟨Nat.le_of_ble_eq_true rfl, Nat.le_of_ble_eq_true rfl⟩ ⟨Nat.le_of_ble_eq_true rfl, Nat.le_of_ble_eq_true rfl⟩ rfl hl.1 rfl (Nat.le_of_ble_eq_true rfl) (oc_184 36 (aq_12 shX11_below_24) uw_0_192)) (fun r_4 h_5 => ?_)
          obtain rfl : r_4 = Fn 29 i19 := h_5.trans (atM_j rfl (by (first | omega | (have zz0 := Hid.u hb_cn; omega))) (by decide))
          refine lv_iadd hx hb (oc_96 39 (aq_15 shX11_below_24)) ?_
          refine lv_istore_n (lv' := [(2, .int (x19_2 + (Fn 29 i19))), (3, .int (nI i19)), (0, .ref (g 0)), (1, .int v0)]) hx hb (oc_61 40 (aq_16 shX11_below_24)) rfl hl (ltb rfl) rfl (fun ls hl => ?_)
          refine lv_iload_n hx hb (oc_28 41 (aq_17 shX11_below_24)) rfl (lvA0 hl) ?_
          refine lv_iload_n hx hb (oc_27 42 (aq_18 shX11_below_24)) rfl (lvA3 hl) ?_
          refine lv_icmp_ge (tgt := 48) hx hb (oc_162 43 (aq_19 shX11_below_24) sgw_0_5) rfl (fun c_6 => ?_) (fun c_6 => ?_)
          ·
            have tc_6 : (v0.toInt : Int) ≤ (x19_2 + (Fn 29 i19)).toInt := Int32.le_iff_toInt_le.mp c_6
            refine lv_iinc (v := (nI (i19 + 1))) (lv' := [(3, .int (nI (i19 + 1))), (2, .int (x19_2 + (Fn 29 i19))), (0, .ref (g 0)), (1, .int v0)]) hx hb (oc_132 48 shX11_below_48 ub_3 sgb_1) hl (k := 1) rfl (nI_1 _) (ltb rfl) rfl (fun ls hl => ?_)
            refine lv_goto (tgt := 19) hx hb (oc_167 51 (aq_3 shX11_below_48) sgw_255_224) rfl ?_
            exact ih19 (i19 + 1) (x19_2 + (Fn 29 i19)) (by (first | omega | (have zz0 := Hid.u hb_cn; omega))) ⟨(by (first | omega | (have zz0 := Hid.u hb_cn; omega))), (sumI_y hx19_0 rfl), (fun q h9 => if q9 : q < i19 then hx19_1 q q9 else (by have e9 : q = i19 := (by (first | omega | (have zz0 := Hid.u hb_cn; omega))); rw [e9]; show ¬ (sumI (Fn 29) (i19 + 1)).toInt < v0.toInt; rw [← (show x19_2 + Fn 29 i19 = sumI (Fn 29) (i19 + 1) from sumI_y hx19_0 rfl)]; (first | omega | (have zz0 := Hid.u hb_cn; omega))))⟩ ls (lv_sub hl [0, 1, 2, 3] rfl)
          ·
            have tc_6 : ((x19_2 + (Fn 29 i19)).toInt : Int) < v0.toInt := Int32.lt_iff_toInt_lt.mp (Int32.not_le.mp c_6)
            refine lv_iload_n hx hb (oc_29 46 (aq_22 shX11_below_24)) rfl (lvA1 hl) ?_
            exact W.iret (v := (nI i19)) hx hb hr (fun t ht hW => ⟨(nI i19), rfl, (Or.inl ⟨by (first | omega | (have zz0 := Hid.u hb_cn; omega)), Or.inl ⟨i19, by (first | omega | (have zz0 := Hid.u hb_cn; omega)), (by show (sumI (Fn 29) (i19 + 1)).toInt < v0.toInt; rw [← (show x19_2 + Fn 29 i19 = sumI (Fn 29) (i19 + 1) from sumI_y hx19_0 rfl)]; (first | omega | (have zz0 := Hid.u hb_cn; omega))), hx19_1, rfl⟩⟩), ht⟩) (fun _ h => absurd h List.not_mem_nil) (oc_172 47 (aq_23 shX11_below_24))
    exact lp_19 _ 0 0 (Nat.lt_succ_self _) ⟨(by (first | omega | (have zz0 := Hid.u hb_cn; omega))), rfl, (fun q h9 => absurd h9 (Nat.not_lt_zero q))⟩ ls (lv_sub hl [0, 1, 2, 3] rfl)
  ·
    have h_2 : ¬ ((-10000) ≤ v0.toInt ∧ v0.toInt ≤ 10000) := h_2
    refine lv_if_ne (tgt := 15) hx hb dX11_below_10 rfl (fun h => absurd h cq_eq_0_0) (fun _ => ?_)
    refine lv_iconst (v := (-1)) hx hb (oc_2 13 (aq_13 shX11_below_0)) kic_m1 ?_
    exact W.iret (v := (-1)) hx hb hr (fun t ht hW => ⟨(-1), rfl, (Or.inr ⟨by (first | omega | (have zz0 := Hid.u hb_cn; omega)), rfl⟩), ht⟩) (fun _ h => absurd h List.not_mem_nil) (oc_172 14 (aq_14 shX11_below_0))
set_option maxRecDepth 100000 in
set_option maxHeartbeats 4000000 in
theorem q_stockOn9 (l : Launch) (D : va_G) (cI cB cZ : ClassId) (g : Nat → Nat) (cn : Nat → Nat) (In : Nat → Int32) (Fn : Nat → Nat → Int32) (d0 : Nat) (sz : Nat) (hI : IM cn Fn) (hd0 : d0 ≤ 399) : Met l yX12_stockOn (CWS yX12_stockOn cX12_stockOn 4 (some .int)) (RM 2 0 0) (PBw [.ref (g 100), .int (nI d0)] D cI cB cZ (wM cI cB cZ g cn In Fn) sz) (va_Qi (fun (r : Int32) (u : (Nat → Nat) × (Nat → Int32) × (Nat → Nat → Int32)) => (fun r c2 I2 F2 => Fr [] [71, 72, 73] [] cn In Fn c2 I2 F2 ∧ IM c2 F2 ∧ (r = stkM (cn 2) (cn 75) (cn 62) (Fn 9) (Fn 10) (Fn 81) (Fn 82) (Fn 65) (Fn 64) d0)) r u.1 u.2.1 u.2.2) (fun (u : (Nat → Nat) × (Nat → Int32) × (Nat → Nat → Int32)) (t : State) => va_P D vwCl (wM cI cB cZ g u.1 u.2.1 u.2.2) t.heap ∧ va_D (va_A (wM cI cB cZ g cn In Fn) sz) (wM cI cB cZ g u.1 u.2.1 u.2.2)) (va_A (wM cI cB cZ g cn In Fn) sz)) 0 0 (va_A (wM cI cB cZ g cn In Fn) sz) := by
  refine en_w (fun A => (va_Qi (fun (r : Int32) (u : (Nat → Nat) × (Nat → Int32) × (Nat → Nat → Int32)) => (fun (r : Int32) (c2 : Nat → Nat) (I2 : Nat → Int32) (F2 : Nat → Nat → Int32) => Fr [] [71, 72, 73] [] cn In Fn c2 I2 F2 ∧ IM c2 F2 ∧ (r = stkM (cn 2) (cn 75) (cn 62) (Fn 9) (Fn 10) (Fn 81) (Fn 82) (Fn 65) (Fn 64) d0)) r u.1 u.2.1 u.2.2) (fun (u : (Nat → Nat) × (Nat → Int32) × (Nat → Nat → Int32)) (t : State) => va_P D vwCl (wM cI cB cZ g u.1 u.2.1 u.2.2) t.heap ∧ va_D A (wM cI cB cZ g u.1 u.2.1 u.2.2)) A)) rfl rfl pn_RX12 (Nat.le_of_ble_eq_true rfl) (fun p e s m below meth c A hx hb hml hown S hr hlocks hnm hA hP hK hD hS ls hl => ?_)
  have hl : lv_has ls 4 [(0, .ref (g 100)), (1, .int (nI d0))] := hl
  have hi_cn : Hid (CB cn) := hI.b
  have tnd0 : (nI d0).toInt = (d0 : Int) := nI_toInt (by (first | omega | (have zz0 := Hid.u hi_cn; omega)))
  refine lv_iconst (v := 0) hx hb (oc_3 0 shX12_stockOn_0) kic_0 ?_
  refine lv_istore_n (lv' := [(2, .int 0), (0, .ref (g 100)), (1, .int (nI d0))]) hx hb (oc_61 1 (aq_1 shX12_stockOn_0)) rfl hl (ltb rfl) rfl (fun ls hl => ?_)
  refine lv_iconst (v := 0) hx hb (oc_3 2 (aq_2 shX12_stockOn_0)) kic_0 ?_
  refine lv_istore_n (lv' := [(3, .int 0), (2, .int 0), (0, .ref (g 100)), (1, .int (nI d0))]) hx hb (oc_62 3 (aq_3 shX12_stockOn_0)) rfl hl (ltb rfl) rfl (fun ls hl => ?_)
  have lp_4 : ∀ (n : Nat) (i4 : Nat) (x4_2 : Int32) , cn 2 - i4 < n → (i4 ≤ cn 2 ∧ (x4_2 = sumI (ldF (Fn 9) (Fn 10) d0) i4)) → ∀ ls : Array Slot, lv_has ls 4 [(3, .int (nI i4)), (2, .int x4_2), (0, .ref (g 100)), (1, .int (nI d0))] → W p l e (RM 2 0 0) s m ([.ref (g 100), .int (nI d0)]).toArray below meth c s.heap [] 0 0 (MQ below (va_Qi (fun (r : Int32) (u : (Nat → Nat) × (Nat → Int32) × (Nat → Nat → Int32)) => (fun r c2 I2 F2 => Fr [] [71, 72, 73] [] cn In Fn c2 I2 F2 ∧ IM c2 F2 ∧ (r = stkM (cn 2) (cn 75) (cn 62) (Fn 9) (Fn 10) (Fn 81) (Fn 82) (Fn 65) (Fn 64) d0)) r u.1 u.2.1 u.2.2) (fun (u : (Nat → Nat) × (Nat → Int32) × (Nat → Nat → Int32)) (t : State) => va_P D vwCl (wM cI cB cZ g u.1 u.2.1 u.2.2) t.heap ∧ va_D A (wM cI cB cZ g u.1 u.2.1 u.2.2)) A) ([.ref (g 100), .int (nI d0)]).toArray s 0 0 A) (F0 m 4 ls []) := by
    intro n4
    induction n4 with
    | zero => intros; (first | omega | (have zz0 := Hid.u hi_cn; omega))
    | succ n4 ih4 =>
      intro i4 x4_2 hmu4 hinv4 ls hl
      obtain ⟨hr4, hx4_0⟩ := hinv4
      have ti4 : (nI i4).toInt = (i4 : Int) := nI_toInt (by (first | omega | (have zz0 := Hid.u hi_cn; omega)))
      refine lv_iload_n hx hb (oc_29 4 (aq_4 shX12_stockOn_0)) rfl (lvA0 hl) ?_
      refine lv_aload_n hx hb (oc_42 5 (aq_5 shX12_stockOn_0)) rfl (lvA2 hl) ?_
      refine gM_208 S hK hP (v := .int (nI (cn 2))) rfl (oc_180 6 (aq_6 shX12_stockOn_0) uw_0_208) ?_
      have : (nI (cn 2)).toInt = (((cn 2) : Nat) : Int) := nI_toInt (by (first | omega | (have zz0 := Hid.u hi_cn; omega)))
      refine lv_icmp_ge (tgt := 41) hx hb (oc_162 9 (aq_9 shX12_stockOn_0) sgw_0_32) rfl (fun c_1 => ?_) (fun c_1 => ?_)
      ·
        have tc_1 : ((nI (cn 2)).toInt : Int) ≤ (nI i4).toInt := Int32.le_iff_toInt_le.mp c_1
        refine lv_iconst (v := 0) hx hb (oc_3 41 (aq_17 shX12_stockOn_24)) kic_0 ?_
        refine lv_istore_n (lv' := [(3, .int 0), (2, .int x4_2), (0, .ref (g 100)), (1, .int (nI d0))]) hx hb (oc_62 42 (aq_18 shX12_stockOn_24)) rfl hl (ltb rfl) rfl (fun ls hl => ?_)
        have lp_43 : ∀ (n : Nat) (i43 : Nat) (x43_2 : Int32) , cn 75 - i43 < n → (i43 ≤ cn 75 ∧ (x43_2 = dnI (ldF (Fn 81) (Fn 82) d0) (sumI (ldF (Fn 9) (Fn 10) d0) (cn 2)) i43)) → ∀ ls : Array Slot, lv_has ls 4 [(3, .int (nI i43)), (2, .int x43_2), (0, .ref (g 100)), (1, .int (nI d0))] → W p l e (RM 2 0 0) s m ([.ref (g 100), .int (nI d0)]).toArray below meth c s.heap [] 0 0 (MQ below (va_Qi (fun (r : Int32) (u : (Nat → Nat) × (Nat → Int32) × (Nat → Nat → Int32)) => (fun r c2 I2 F2 => Fr [] [71, 72, 73] [] cn In Fn c2 I2 F2 ∧ IM c2 F2 ∧ (r = stkM (cn 2) (cn 75) (cn 62) (Fn 9) (Fn 10) (Fn 81) (Fn 82) (Fn 65) (Fn 64) d0)) r u.1 u.2.1 u.2.2) (fun (u : (Nat → Nat) × (Nat → Int32) × (Nat → Nat → Int32)) (t : State) => va_P D vwCl (wM cI cB cZ g u.1 u.2.1 u.2.2) t.heap ∧ va_D A (wM cI cB cZ g u.1 u.2.1 u.2.2)) A) ([.ref (g 100), .int (nI d0)]).toArray s 0 0 A) (F0 m 43 ls []) := by
          intro n43
          induction n43 with
          | zero => intros; (first | omega | (have zz0 := Hid.u hi_cn; omega))
          | succ n43 ih43 =>
            intro i43 x43_2 hmu43 hinv43 ls hl
            obtain ⟨hr43, hx43_0⟩ := hinv43
            have ti43 : (nI i43).toInt = (i43 : Int) := nI_toInt (by (first | omega | (have zz0 := Hid.u hi_cn; omega)))
            refine lv_iload_n hx hb (oc_29 43 (aq_19 shX12_stockOn_24)) rfl (lvA0 hl) ?_
            refine lv_aload_n hx hb (oc_42 44 (aq_20 shX12_stockOn_24)) rfl (lvA2 hl) ?_
            refine gM_462 S hK hP (v := .int (nI (cn 75))) rfl (oc_180 45 (aq_21 shX12_stockOn_24) uw_1_206) ?_
            have : (nI (cn 75)).toInt = (((cn 75) : Nat) : Int) := nI_toInt (by (first | omega | (have zz0 := Hid.u hi_cn; omega)))
            refine lv_icmp_ge (tgt := 80) hx hb (oc_162 48 shX12_stockOn_48 sgw_0_32) rfl (fun c_2 => ?_) (fun c_2 => ?_)
            ·
              have tc_2 : ((nI (cn 75)).toInt : Int) ≤ (nI i43).toInt := Int32.le_iff_toInt_le.mp c_2
              refine lv_iconst (v := 0) hx hb (oc_3 80 (aq_8 shX12_stockOn_72)) kic_0 ?_
              refine lv_istore_n (lv' := [(3, .int 0), (2, .int x43_2), (0, .ref (g 100)), (1, .int (nI d0))]) hx hb (oc_62 81 (aq_9 shX12_stockOn_72)) rfl hl (ltb rfl) rfl (fun ls hl => ?_)
              have lp_82 : ∀ (n : Nat) (i82 : Nat) (x82_2 : Int32) (I82 : Nat → Int32) (H : Heap) (locs : List Loc) , cn 62 - i82 < n → (i82 ≤ cn 62 ∧ Fr [] [71, 72, 73] [] cn In Fn cn I82 Fn ∧ IM cn Fn ∧ (x82_2 = dnI (btF (Fn 65) (Fn 64) (Fn 10) d0) (dnI (ldF (Fn 81) (Fn 82) d0) (sumI (ldF (Fn 9) (Fn 10) d0) (cn 2)) (cn 75)) i82)) → va_P D vwCl (wM cI cB cZ g cn I82 Fn) H → va_D A (wM cI cB cZ g cn I82 Fn) → va_S A s.heap H locs → ∀ ls : Array Slot, lv_has ls 4 [(3, .int (nI i82)), (2, .int x82_2), (0, .ref (g 100)), (1, .int (nI d0))] → W p l e (RM 2 0 0) s m ([.ref (g 100), .int (nI d0)]).toArray below meth c H locs 0 0 (MQ below (va_Qi (fun (r : Int32) (u : (Nat → Nat) × (Nat → Int32) × (Nat → Nat → Int32)) => (fun r c2 I2 F2 => Fr [] [71, 72, 73] [] cn In Fn c2 I2 F2 ∧ IM c2 F2 ∧ (r = stkM (cn 2) (cn 75) (cn 62) (Fn 9) (Fn 10) (Fn 81) (Fn 82) (Fn 65) (Fn 64) d0)) r u.1 u.2.1 u.2.2) (fun (u : (Nat → Nat) × (Nat → Int32) × (Nat → Nat → Int32)) (t : State) => va_P D vwCl (wM cI cB cZ g u.1 u.2.1 u.2.2) t.heap ∧ va_D A (wM cI cB cZ g u.1 u.2.1 u.2.2)) A) ([.ref (g 100), .int (nI d0)]).toArray s 0 0 A) (F0 m 82 ls []) := by
                intro n82
                induction n82 with
                | zero => intros; (first | omega | (have zz0 := Hid.u hi_cn; omega))
                | succ n82 ih82 =>
                  intro i82 x82_2 I82 H locs hmu82 hinv82 hP hD hS ls hl
                  obtain ⟨hr82, hfr82, hI82, hx82_0⟩ := hinv82
                  have ti82 : (nI i82).toInt = (i82 : Int) := nI_toInt (by (first | omega | (have zz0 := Hid.u hi_cn; omega)))
                  have hi_cn : Hid (CB cn) := hI82.b
                  refine lv_iload_n hx hb (oc_29 82 (aq_10 shX12_stockOn_72)) rfl (lvA0 hl) ?_
                  refine lv_aload_n hx hb (oc_42 83 (aq_11 shX12_stockOn_72)) rfl (lvA2 hl) ?_
                  refine gM_435 S hK hP (v := .int (nI (cn 62))) rfl (oc_180 84 (aq_12 shX12_stockOn_72) uw_1_179) ?_
                  have : (nI (cn 62)).toInt = (((cn 62) : Nat) : Int) := nI_toInt (by (first | omega | (have zz0 := Hid.u hi_cn; omega)))
                  refine lv_icmp_ge (tgt := 118) hx hb (oc_162 87 (aq_15 shX12_stockOn_72) sgw_0_31) rfl (fun c_3 => ?_) (fun c_3 => ?_)
                  ·
                    have tc_3 : ((nI (cn 62)).toInt : Int) ≤ (nI i82).toInt := Int32.le_iff_toInt_le.mp c_3
                    refine lv_iload_n hx hb (oc_28 118 (aq_22 shX12_stockOn_96)) rfl (lvA1 hl) ?_
                    exact W.iret (v := x82_2) hx hb hr (fun t ht hW => ⟨⟨x82_2, (cn, I82, Fn), rfl, ⟨(Fr.mo hfr82 (sbl rfl) (sbl rfl) (sbl rfl)), hI82, (by show x82_2 = stkM (cn 2) (cn 75) (cn 62) (Fn 9) (Fn 10) (Fn 81) (Fn 82) (Fn 65) (Fn 64) d0; have e9 : i82 = cn 62 := (by (first | omega | (have zz0 := Hid.u hi_cn; omega))); unfold stkM; rw [← e9]; exact hx82_0)⟩, by rw [ht]; exact hP, hD⟩, hS.F ht⟩) hS.2.2 (oc_172 119 (aq_23 shX12_stockOn_96))
                  ·
                    have tc_3 : ((nI i82).toInt : Int) < (nI (cn 62)).toInt := Int32.lt_iff_toInt_lt.mp (Int32.not_le.mp c_3)
                    refine lv_iload_n hx hb (oc_28 90 (aq_18 shX12_stockOn_72)) rfl (lvA1 hl) ?_
                    refine lv_aload_n hx hb (oc_42 91 (aq_19 shX12_stockOn_72)) rfl (lvA2 hl) ?_
                    refine gM_141 S hK hP (v := .ref (g 65)) rfl (oc_180 92 (aq_20 shX12_stockOn_72) uw_0_141) ?_
                    refine lv_iload_n hx hb (oc_29 95 (aq_23 shX12_stockOn_72)) rfl (lvA0 hl) ?_
                    have kb_1 : i82 < 10 := by (first | omega | (have zz0 := Hid.u hi_cn; omega))
                    refine ldM_65 hx hb hK hP (x := ((Fn 65) i82)) (vp_in_nI kb_1 (ltb rfl)) (nI_clamp (Nat.lt_trans kb_1 (ltb rfl))) rfl (oc_46 96 shX12_stockOn_96) ?_
                    refine lv_iload_n hx hb (oc_27 97 (aq_1 shX12_stockOn_96)) rfl (lvA3 hl) ?_
                    have : (nI d0).toInt = ((d0 : Nat) : Int) := nI_toInt (by (first | omega | (have zz0 := Hid.u hi_cn; omega)))
                    refine lv_icmp_gt (tgt := 109) hx hb (oc_163 98 (aq_2 shX12_stockOn_96) sgw_0_11) rfl (fun c_4 => ?_) (fun c_4 => ?_)
                    ·
                      have tc_4 : ((nI d0).toInt : Int) < ((Fn 65) i82).toInt := Int32.lt_iff_toInt_lt.mp c_4
                      refine lv_iconst (v := 0) hx hb (oc_3 109 (aq_13 shX12_stockOn_96)) kic_0 ?_
                      refine lv_isub hx hb dX12_stockOn_110 ?_
                      refine lv_istore_n (lv' := [(2, .int (x82_2 - 0)), (3, .int (nI i82)), (0, .ref (g 100)), (1, .int (nI d0))]) hx hb dX12_stockOn_111 rfl hl (ltb rfl) rfl (fun ls hl => ?_)
                      refine lv_iinc (v := (nI (i82 + 1))) (lv' := [(3, .int (nI (i82 + 1))), (2, .int (x82_2 - 0)), (0, .ref (g 100)), (1, .int (nI d0))]) hx hb dX12_stockOn_112 hl (k := 1) rfl (nI_1 _) (ltb rfl) rfl (fun ls hl => ?_)
                      refine lv_goto (tgt := 82) hx hb dX12_stockOn_115 rfl ?_
                      exact ih82 (i82 + 1) (x82_2 - 0) I82 _ _ (by (first | omega | (have zz0 := Hid.u hi_cn; omega))) ⟨(by (first | omega | (have zz0 := Hid.u hi_cn; omega))), (Fr.mo hfr82 (sbl rfl) (sbl rfl) (sbl rfl)), hI82, (dnI_y hx82_0 (by first | exact if_pos (by (first | omega | (have zz0 := Hid.u hi_cn; omega))) | exact if_neg (by (first | omega | (have zz0 := Hid.u hi_cn; omega)))))⟩ hP hD hS ls (lv_sub hl [0, 1, 2, 3] rfl)
                    ·
                      have tc_4 : (((Fn 65) i82).toInt : Int) ≤ (nI d0).toInt := Int32.le_iff_toInt_le.mp (Int32.not_lt.mp c_4)
                      refine lv_aload_n hx hb (oc_42 101 (aq_5 shX12_stockOn_96)) rfl (lvA2 hl) ?_
                      refine lv_iload_n hx hb (oc_29 102 (aq_6 shX12_stockOn_96)) rfl (lvA0 hl) ?_
                      have hFc := free_all hD hS hA
                      refine va_calli (runV_a (As := [.int (nI i82)]) (rest := [.int x82_2]) S (q_litresOf l D cI cB cZ g cn I82 Fn i82 H.size hI82 (by (first | omega | (have zz0 := Hid.u hi_cn; omega)))) kV_RX12_444 hK hP hD 0 rfl rfl rfl ⟨Nat.le_of_ble_eq_true rfl, Nat.le_of_ble_eq_true rfl⟩ ⟨Nat.le_of_ble_eq_true rfl, Nat.le_of_ble_eq_true rfl⟩ rfl hl.1 rfl (Nat.le_of_ble_eq_true rfl) (oc_182 103 (aq_7 shX12_stockOn_96) uw_1_188)) hS (fun q _ h => hFc q h) hFc (fun r_5 u t H1 locs ht hvm wh_6 hB hz1 hk1 hS => ?_)
                      obtain ⟨cn6, In6, Fn6⟩ := u
                      obtain ⟨hP1, hD1⟩ := hB
                      rw [ht] at hP1
                      have hP : va_P D vwCl (wM cI cB cZ g cn6 In6 Fn6) H1 := hP1
                      have hD : va_D A (wM cI cB cZ g cn6 In6 Fn6) := hD1.weaken (fun _ _ _ h => hFc _ h)
                      generalize H1 = H at hP hS ⊢
                      have vh_6 : (fun r c2 I2 F2 => Fr [] [71, 72, 73] [] cn I82 Fn c2 I2 F2 ∧ IM c2 F2 ∧ (r = nI (mixN ((Fn 10)) ((Fn 64) i82) 20))) r_5 cn6 In6 Fn6 := wh_6
                      obtain ⟨hfc6, hIn6, h_6⟩ := vh_6
                      obtain rfl : cn = cn6 := (funext (fun k => hfc6.1 k List.not_mem_nil)).symm
                      obtain rfl : Fn = Fn6 := (funext (fun k => hfc6.2.2 k List.not_mem_nil)).symm
                      have hf6 : Fr [] [71, 72, 73] [] cn In Fn cn In6 Fn := Fr.mo (Fr.tr hfr82 hfc6) (sbl rfl) (sbl rfl) (sbl rfl)
                      have hi_cn : Hid (CB cn) := hIn6.b
                      subst h_6
                      refine lv_goto (tgt := 110) hx hb (oc_167 106 (aq_10 shX12_stockOn_96) sgw_0_4) rfl ?_
                      refine lv_isub hx hb dX12_stockOn_110 ?_
                      refine lv_istore_n (lv' := [(2, .int (x82_2 - (nI (mixN ((Fn 10)) ((Fn 64) i82) 20)))), (3, .int (nI i82)), (0, .ref (g 100)), (1, .int (nI d0))]) hx hb dX12_stockOn_111 rfl hl (ltb rfl) rfl (fun ls hl => ?_)
                      refine lv_iinc (v := (nI (i82 + 1))) (lv' := [(3, .int (nI (i82 + 1))), (2, .int (x82_2 - (nI (mixN ((Fn 10)) ((Fn 64) i82) 20)))), (0, .ref (g 100)), (1, .int (nI d0))]) hx hb dX12_stockOn_112 hl (k := 1) rfl (nI_1 _) (ltb rfl) rfl (fun ls hl => ?_)
                      refine lv_goto (tgt := 82) hx hb dX12_stockOn_115 rfl ?_
                      exact ih82 (i82 + 1) (x82_2 - (nI (mixN ((Fn 10)) ((Fn 64) i82) 20))) In6 _ _ (by (first | omega | (have zz0 := Hid.u hi_cn; omega))) ⟨(by (first | omega | (have zz0 := Hid.u hi_cn; omega))), (Fr.mo hf6 (sbl rfl) (sbl rfl) (sbl rfl)), hIn6, (dnI_y hx82_0 (by first | exact if_pos (by (first | omega | (have zz0 := Hid.u hi_cn; omega))) | exact if_neg (by (first | omega | (have zz0 := Hid.u hi_cn; omega)))))⟩ hP hD hS ls (lv_sub hl [0, 1, 2, 3] rfl)
              exact lp_82 _ 0 x43_2 In _ _ (Nat.lt_succ_self _) ⟨(by (first | omega | (have zz0 := Hid.u hi_cn; omega))), (Fr.mo Fr.rf (sbl rfl) (sbl rfl) (sbl rfl)), hI, (by have e9 : i43 = cn 75 := (by (first | omega | (have zz0 := Hid.u hi_cn; omega))); show x43_2 = dnI _ _ (cn 75); rw [← e9]; exact hx43_0)⟩ hP hD hS ls (lv_sub hl [0, 1, 2, 3] rfl)
            ·
              have tc_2 : ((nI i43).toInt : Int) < (nI (cn 75)).toInt := Int32.lt_iff_toInt_lt.mp (Int32.not_le.mp c_2)
              refine lv_iload_n hx hb (oc_28 51 (aq_3 shX12_stockOn_48)) rfl (lvA1 hl) ?_
              refine lv_aload_n hx hb (oc_42 52 (aq_4 shX12_stockOn_48)) rfl (lvA2 hl) ?_
              refine gM_177 S hK hP (v := .ref (g 81)) rfl (oc_180 53 (aq_5 shX12_stockOn_48) uw_0_177) ?_
              refine lv_iload_n hx hb (oc_29 56 (aq_8 shX12_stockOn_48)) rfl (lvA0 hl) ?_
              have kb_2 : i43 < 40 := by (first | omega | (have zz0 := Hid.u hi_cn; omega))
              refine ldM_81 hx hb hK hP (x := ((Fn 81) i43)) (vp_in_nI kb_2 (ltb rfl)) (nI_clamp (Nat.lt_trans kb_2 (ltb rfl))) rfl (oc_46 57 (aq_9 shX12_stockOn_48)) ?_
              refine lv_iload_n hx hb (oc_27 58 (aq_10 shX12_stockOn_48)) rfl (lvA3 hl) ?_
              have : (nI d0).toInt = ((d0 : Nat) : Int) := nI_toInt (by (first | omega | (have zz0 := Hid.u hi_cn; omega)))
              refine lv_icmp_gt (tgt := 71) hx hb (oc_163 59 (aq_11 shX12_stockOn_48) sgw_0_12) rfl (fun c_7 => ?_) (fun c_7 => ?_)
              ·
                have tc_7 : ((nI d0).toInt : Int) < ((Fn 81) i43).toInt := Int32.lt_iff_toInt_lt.mp c_7
                refine lv_iconst (v := 0) hx hb (oc_3 71 (aq_23 shX12_stockOn_48)) kic_0 ?_
                refine lv_isub hx hb dX12_stockOn_72 ?_
                refine lv_istore_n (lv' := [(2, .int (x43_2 - 0)), (3, .int (nI i43)), (0, .ref (g 100)), (1, .int (nI d0))]) hx hb dX12_stockOn_73 rfl hl (ltb rfl) rfl (fun ls hl => ?_)
                refine lv_iinc (v := (nI (i43 + 1))) (lv' := [(3, .int (nI (i43 + 1))), (2, .int (x43_2 - 0)), (0, .ref (g 100)), (1, .int (nI d0))]) hx hb dX12_stockOn_74 hl (k := 1) rfl (nI_1 _) (ltb rfl) rfl (fun ls hl => ?_)
                refine lv_goto (tgt := 43) hx hb dX12_stockOn_77 rfl ?_
                exact ih43 (i43 + 1) (x43_2 - 0) (by (first | omega | (have zz0 := Hid.u hi_cn; omega))) ⟨(by (first | omega | (have zz0 := Hid.u hi_cn; omega))), (dnI_y hx43_0 (by first | exact if_pos (by (first | omega | (have zz0 := Hid.u hi_cn; omega))) | exact if_neg (by (first | omega | (have zz0 := Hid.u hi_cn; omega)))))⟩ ls (lv_sub hl [0, 1, 2, 3] rfl)
              ·
                have tc_7 : (((Fn 81) i43).toInt : Int) ≤ (nI d0).toInt := Int32.le_iff_toInt_le.mp (Int32.not_lt.mp c_7)
                refine lv_aload_n hx hb (oc_42 62 (aq_14 shX12_stockOn_48)) rfl (lvA2 hl) ?_
                refine gM_180 S hK hP (v := .ref (g 82)) rfl (oc_180 63 (aq_15 shX12_stockOn_48) uw_0_180) ?_
                refine lv_iload_n hx hb (oc_29 66 (aq_18 shX12_stockOn_48)) rfl (lvA0 hl) ?_
                refine ldM_82 hx hb hK hP (x := ((Fn 82) i43)) (vp_in_nI kb_2 (ltb rfl)) (nI_clamp (Nat.lt_trans kb_2 (ltb rfl))) rfl (oc_46 67 (aq_19 shX12_stockOn_48)) ?_
                refine lv_goto (tgt := 72) hx hb (oc_167 68 (aq_20 shX12_stockOn_48) sgw_0_4) rfl ?_
                refine lv_isub hx hb dX12_stockOn_72 ?_
                refine lv_istore_n (lv' := [(2, .int (x43_2 - ((Fn 82) i43))), (3, .int (nI i43)), (0, .ref (g 100)), (1, .int (nI d0))]) hx hb dX12_stockOn_73 rfl hl (ltb rfl) rfl (fun ls hl => ?_)
                refine lv_iinc (v := (nI (i43 + 1))) (lv' := [(3, .int (nI (i43 + 1))), (2, .int (x43_2 - ((Fn 82) i43))), (0, .ref (g 100)), (1, .int (nI d0))]) hx hb dX12_stockOn_74 hl (k := 1) rfl (nI_1 _) (ltb rfl) rfl (fun ls hl => ?_)
                refine lv_goto (tgt := 43) hx hb dX12_stockOn_77 rfl ?_
                exact ih43 (i43 + 1) (x43_2 - ((Fn 82) i43)) (by (first | omega | (have zz0 := Hid.u hi_cn; omega))) ⟨(by (first | omega | (have zz0 := Hid.u hi_cn; omega))), (dnI_y hx43_0 (by first | exact if_pos (by (first | omega | (have zz0 := Hid.u hi_cn; omega))) | exact if_neg (by (first | omega | (have zz0 := Hid.u hi_cn; omega)))))⟩ ls (lv_sub hl [0, 1, 2, 3] rfl)
        exact lp_43 _ 0 x4_2 (Nat.lt_succ_self _) ⟨(by (first | omega | (have zz0 := Hid.u hi_cn; omega))), (by have e9 : i4 = cn 2 := (by (first | omega | (have zz0 := Hid.u hi_cn; omega))); show x4_2 = sumI _ (cn 2); rw [← e9]; exact hx4_0)⟩ ls (lv_sub hl [0, 1, 2, 3] rfl)
      ·
        have tc_1 : ((nI i4).toInt : Int) < (nI (cn 2)).toInt := Int32.lt_iff_toInt_lt.mp (Int32.not_le.mp c_1)
        refine lv_iload_n hx hb (oc_28 12 (aq_12 shX12_stockOn_0)) rfl (lvA1 hl) ?_
        refine lv_aload_n hx hb (oc_42 13 (aq_13 shX12_stockOn_0)) rfl (lvA2 hl) ?_
        refine gM_28 S hK hP (v := .ref (g 9)) rfl (oc_180 14 (aq_14 shX12_stockOn_0) uw_0_28) ?_
        refine lv_iload_n hx hb (oc_29 17 (aq_17 shX12_stockOn_0)) rfl (lvA0 hl) ?_
        have kb_3 : i4 < 60 := by (first | omega | (have zz0 := Hid.u hi_cn; omega))
        refine ldM_9 hx hb hK hP (x := ((Fn 9) i4)) (vp_in_nI kb_3 (ltb rfl)) (nI_clamp (Nat.lt_trans kb_3 (ltb rfl))) rfl (oc_46 18 (aq_18 shX12_stockOn_0)) ?_
        refine lv_iload_n hx hb (oc_27 19 (aq_19 shX12_stockOn_0)) rfl (lvA3 hl) ?_
        have : (nI d0).toInt = ((d0 : Nat) : Int) := nI_toInt (by (first | omega | (have zz0 := Hid.u hi_cn; omega)))
        refine lv_icmp_gt (tgt := 32) hx hb (oc_163 20 (aq_20 shX12_stockOn_0) sgw_0_12) rfl (fun c_8 => ?_) (fun c_8 => ?_)
        ·
          have tc_8 : ((nI d0).toInt : Int) < ((Fn 9) i4).toInt := Int32.lt_iff_toInt_lt.mp c_8
          refine lv_iconst (v := 0) hx hb (oc_3 32 (aq_8 shX12_stockOn_24)) kic_0 ?_
          refine lv_iadd hx hb dX12_stockOn_33 ?_
          refine lv_istore_n (lv' := [(2, .int (x4_2 + 0)), (3, .int (nI i4)), (0, .ref (g 100)), (1, .int (nI d0))]) hx hb dX12_stockOn_34 rfl hl (ltb rfl) rfl (fun ls hl => ?_)
          refine lv_iinc (v := (nI (i4 + 1))) (lv' := [(3, .int (nI (i4 + 1))), (2, .int (x4_2 + 0)), (0, .ref (g 100)), (1, .int (nI d0))]) hx hb dX12_stockOn_35 hl (k := 1) rfl (nI_1 _) (ltb rfl) rfl (fun ls hl => ?_)
          refine lv_goto (tgt := 4) hx hb dX12_stockOn_38 rfl ?_
          exact ih4 (i4 + 1) (x4_2 + 0) (by (first | omega | (have zz0 := Hid.u hi_cn; omega))) ⟨(by (first | omega | (have zz0 := Hid.u hi_cn; omega))), (sumI_y hx4_0 (by first | exact if_pos (by (first | omega | (have zz0 := Hid.u hi_cn; omega))) | exact if_neg (by (first | omega | (have zz0 := Hid.u hi_cn; omega)))))⟩ ls (lv_sub hl [0, 1, 2, 3] rfl)
        ·
          have tc_8 : (((Fn 9) i4).toInt : Int) ≤ (nI d0).toInt := Int32.le_iff_toInt_le.mp (Int32.not_lt.mp c_8)
          refine lv_aload_n hx hb (oc_42 23 (aq_23 shX12_stockOn_0)) rfl (lvA2 hl) ?_
          refine gM_31 S hK hP (v := .ref (g 10)) rfl (oc_180 24 shX12_stockOn_24 uw_0_31) ?_
          refine lv_iload_n hx hb (oc_29 27 (aq_3 shX12_stockOn_24)) rfl (lvA0 hl) ?_
          refine ldM_10 hx hb hK hP (x := ((Fn 10) i4)) (vp_in_nI kb_3 (ltb rfl)) (nI_clamp (Nat.lt_trans kb_3 (ltb rfl))) rfl (oc_46 28 (aq_4 shX12_stockOn_24)) ?_
          refine lv_goto (tgt := 33) hx hb (oc_167 29 (aq_5 shX12_stockOn_24) sgw_0_4) rfl ?_
          refine lv_iadd hx hb dX12_stockOn_33 ?_
          refine lv_istore_n (lv' := [(2, .int (x4_2 + ((Fn 10) i4))), (3, .int (nI i4)), (0, .ref (g 100)), (1, .int (nI d0))]) hx hb dX12_stockOn_34 rfl hl (ltb rfl) rfl (fun ls hl => ?_)
          refine lv_iinc (v := (nI (i4 + 1))) (lv' := [(3, .int (nI (i4 + 1))), (2, .int (x4_2 + ((Fn 10) i4))), (0, .ref (g 100)), (1, .int (nI d0))]) hx hb dX12_stockOn_35 hl (k := 1) rfl (nI_1 _) (ltb rfl) rfl (fun ls hl => ?_)
          refine lv_goto (tgt := 4) hx hb dX12_stockOn_38 rfl ?_
          exact ih4 (i4 + 1) (x4_2 + ((Fn 10) i4)) (by (first | omega | (have zz0 := Hid.u hi_cn; omega))) ⟨(by (first | omega | (have zz0 := Hid.u hi_cn; omega))), (sumI_y hx4_0 (by first | exact if_pos (by (first | omega | (have zz0 := Hid.u hi_cn; omega))) | exact if_neg (by (first | omega | (have zz0 := Hid.u hi_cn; omega)))))⟩ ls (lv_sub hl [0, 1, 2, 3] rfl)
  exact lp_4 _ 0 0 (Nat.lt_succ_self _) ⟨(by (first | omega | (have zz0 := Hid.u hi_cn; omega))), rfl⟩ ls (lv_sub hl [0, 1, 2, 3] rfl)
set_option maxRecDepth 100000 in
set_option maxHeartbeats 4000000 in
theorem q_below9 (l : Launch) (D : va_G) (cI cB cZ : ClassId) (g : Nat → Nat) (cn : Nat → Nat) (In : Nat → Int32) (Fn : Nat → Nat → Int32) (v0 : Int32) (sz : Nat) (hI : IM cn Fn) : Met l yX12_below (CWS yX12_below cX12_below 3 (some .int)) (RM 3 0 0) (PBw [.ref (g 100), .int v0] D cI cB cZ (wM cI cB cZ g cn In Fn) sz) (va_Qi (fun (r : Int32) (u : (Nat → Nat) × (Nat → Int32) × (Nat → Nat → Int32)) => (fun r c2 I2 F2 => Fr [] [71, 72, 73] [] cn In Fn c2 I2 F2 ∧ IM c2 F2 ∧ (((-10000 ≤ v0.toInt ∧ v0.toInt ≤ 10000) ∧ BLW (fun d => (stkM (cn 2) (cn 75) (cn 62) (Fn 9) (Fn 10) (Fn 81) (Fn 82) (Fn 65) (Fn 64) d).toInt < v0.toInt) (cn 0 + 1) r) ∨ (¬ (-10000 ≤ v0.toInt ∧ v0.toInt ≤ 10000) ∧ r = -1))) r u.1 u.2.1 u.2.2) (fun (u : (Nat → Nat) × (Nat → Int32) × (Nat → Nat → Int32)) (t : State) => va_P D vwCl (wM cI cB cZ g u.1 u.2.1 u.2.2) t.heap ∧ va_D (va_A (wM cI cB cZ g cn In Fn) sz) (wM cI cB cZ g u.1 u.2.1 u.2.2)) (va_A (wM cI cB cZ g cn In Fn) sz)) 0 0 (va_A (wM cI cB cZ g cn In Fn) sz) := by
  refine en_w (fun A => (va_Qi (fun (r : Int32) (u : (Nat → Nat) × (Nat → Int32) × (Nat → Nat → Int32)) => (fun (r : Int32) (c2 : Nat → Nat) (I2 : Nat → Int32) (F2 : Nat → Nat → Int32) => Fr [] [71, 72, 73] [] cn In Fn c2 I2 F2 ∧ IM c2 F2 ∧ (((-10000 ≤ v0.toInt ∧ v0.toInt ≤ 10000) ∧ BLW (fun d => (stkM (cn 2) (cn 75) (cn 62) (Fn 9) (Fn 10) (Fn 81) (Fn 82) (Fn 65) (Fn 64) d).toInt < v0.toInt) (cn 0 + 1) r) ∨ (¬ (-10000 ≤ v0.toInt ∧ v0.toInt ≤ 10000) ∧ r = -1))) r u.1 u.2.1 u.2.2) (fun (u : (Nat → Nat) × (Nat → Int32) × (Nat → Nat → Int32)) (t : State) => va_P D vwCl (wM cI cB cZ g u.1 u.2.1 u.2.2) t.heap ∧ va_D A (wM cI cB cZ g u.1 u.2.1 u.2.2)) A)) rfl rfl pn_RX12 (Nat.le_of_ble_eq_true rfl) (fun p e s m below meth c A hx hb hml hown S hr hlocks hnm hA hP hK hD hS ls hl => ?_)
  have hl : lv_has ls 3 [(0, .ref (g 100)), (1, .int v0)] := hl
  have hi_cn : Hid (CB cn) := hI.b
  refine lv_iload_n hx hb (oc_27 0 shX12_below_0) rfl (lvA1 hl) ?_
  refine lv_sipush (v := (-10000)) hx hb (oc_17 1 (aq_1 shX12_below_0) sgw_216_240) (by decide) ?_
  refine lv_sipush (v := 10000) hx hb (oc_17 4 (aq_4 shX12_below_0) sgw_39_16) (by decide) ?_
  refine vp_callSi (runS_r (As := [.int v0, .int (-10000), .int 10000]) (rest := []) S (q_in l D cI cB cZ v0 (-10000) 10000 ) kS_RX12_214 hK hP [] rfl ⟨Nat.le_of_ble_eq_true rfl, Nat.le_of_ble_eq_true rfl⟩ ⟨Nat.le_of_ble_eq_true rfl, Nat.le_of_ble_eq_true rfl⟩ rfl hl.1 rfl (Nat.le_of_ble_eq_true rfl) (oc_184 7 (aq_7 shX12_below_0) uw_0_214)) (fun r_1 h_2 => ?_)
  rcases h_2 with ⟨rfl, h_2⟩ | ⟨rfl, h_2⟩
  ·
    have h_2 : (-10000) ≤ v0.toInt ∧ v0.toInt ≤ 10000 := h_2
    refine lv_if_ne (tgt := 15) hx hb dX12_below_10 rfl (fun _ => ?_) (fun h => absurd h cq_eq_1_0)
    refine lv_iconst (v := 0) hx hb (oc_3 15 (aq_15 shX12_below_0)) kic_0 ?_
    refine lv_istore_n (lv' := [(2, .int 0), (0, .ref (g 100)), (1, .int v0)]) hx hb (oc_61 16 (aq_16 shX12_below_0)) rfl hl (ltb rfl) rfl (fun ls hl => ?_)
    have lp_17 : ∀ (n : Nat) (i17 : Nat) (I17 : Nat → Int32) (H : Heap) (locs : List Loc) , cn 0 + 1 - i17 < n → (i17 ≤ cn 0 + 1 ∧ Fr [] [71, 72, 73] [] cn In Fn cn I17 Fn ∧ IM cn Fn ∧ (∀ q : Nat, q < i17 → ¬ ((fun d => (stkM (cn 2) (cn 75) (cn 62) (Fn 9) (Fn 10) (Fn 81) (Fn 82) (Fn 65) (Fn 64) d).toInt < v0.toInt)) q)) → va_P D vwCl (wM cI cB cZ g cn I17 Fn) H → va_D A (wM cI cB cZ g cn I17 Fn) → va_S A s.heap H locs → ∀ ls : Array Slot, lv_has ls 3 [(2, .int (nI i17)), (0, .ref (g 100)), (1, .int v0)] → W p l e (RM 3 0 0) s m ([.ref (g 100), .int v0]).toArray below meth c H locs 0 0 (MQ below (va_Qi (fun (r : Int32) (u : (Nat → Nat) × (Nat → Int32) × (Nat → Nat → Int32)) => (fun r c2 I2 F2 => Fr [] [71, 72, 73] [] cn In Fn c2 I2 F2 ∧ IM c2 F2 ∧ (((-10000 ≤ v0.toInt ∧ v0.toInt ≤ 10000) ∧ BLW (fun d => (stkM (cn 2) (cn 75) (cn 62) (Fn 9) (Fn 10) (Fn 81) (Fn 82) (Fn 65) (Fn 64) d).toInt < v0.toInt) (cn 0 + 1) r) ∨ (¬ (-10000 ≤ v0.toInt ∧ v0.toInt ≤ 10000) ∧ r = -1))) r u.1 u.2.1 u.2.2) (fun (u : (Nat → Nat) × (Nat → Int32) × (Nat → Nat → Int32)) (t : State) => va_P D vwCl (wM cI cB cZ g u.1 u.2.1 u.2.2) t.heap ∧ va_D A (wM cI cB cZ g u.1 u.2.1 u.2.2)) A) ([.ref (g 100), .int v0]).toArray s 0 0 A) (F0 m 17 ls []) := by
      intro n17
      induction n17 with
      | zero => intros; (first | omega | (have zz0 := Hid.u hi_cn; omega))
      | succ n17 ih17 =>
        intro i17 I17 H locs hmu17 hinv17 hP hD hS ls hl
        obtain ⟨hr17, hfr17, hI17, hx17_0⟩ := hinv17
        have ti17 : (nI i17).toInt = (i17 : Int) := nI_toInt (by (first | omega | (have zz0 := Hid.u hi_cn; omega)))
        have hi_cn : Hid (CB cn) := hI17.b
        refine lv_iload_n hx hb (oc_28 17 (aq_17 shX12_below_0)) rfl (lvA0 hl) ?_
        refine lv_aload_n hx hb (oc_42 18 (aq_18 shX12_below_0)) rfl (lvA1 hl) ?_
        refine gM_211 S hK hP (v := .int (nI (cn 0))) rfl (oc_180 19 (aq_19 shX12_below_0) uw_0_211) ?_
        have : (nI (cn 0)).toInt = (((cn 0) : Nat) : Int) := nI_toInt (by (first | omega | (have zz0 := Hid.u hi_cn; omega)))
        refine lv_icmp_gt (tgt := 42) hx hb (oc_163 22 (aq_22 shX12_below_0) sgw_0_20) rfl (fun c_3 => ?_) (fun c_3 => ?_)
        ·
          have tc_3 : ((nI (cn 0)).toInt : Int) < (nI i17).toInt := Int32.lt_iff_toInt_lt.mp c_3
          refine lv_bipush (v := (-2)) hx hb (oc_16 42 (aq_17 shX12_below_25) sgb_254) kbc_m2 ?_
          exact W.iret (v := (-2)) hx hb hr (fun t ht hW => ⟨⟨(-2), (cn, I17, Fn), rfl, ⟨(Fr.mo hfr17 (sbl rfl) (sbl rfl) (sbl rfl)), hI17, (by show ((-10000 ≤ v0.toInt ∧ v0.toInt ≤ 10000) ∧ BLW (fun d => (stkM (cn 2) (cn 75) (cn 62) (Fn 9) (Fn 10) (Fn 81) (Fn 82) (Fn 65) (Fn 64) d).toInt < v0.toInt) (cn 0 + 1) (-2)) ∨ (¬ (-10000 ≤ v0.toInt ∧ v0.toInt ≤ 10000) ∧ (-2) = -1); exact Or.inl ⟨by (first | omega | (have zz0 := Hid.u hi_cn; omega)), Or.inr ⟨fun q hq => hx17_0 q (by (first | omega | (have zz0 := Hid.u hi_cn; omega))), rfl⟩⟩)⟩, by rw [ht]; exact hP, hD⟩, hS.F ht⟩) hS.2.2 (oc_172 44 (aq_19 shX12_below_25))
        ·
          have tc_3 : ((nI i17).toInt : Int) ≤ (nI (cn 0)).toInt := Int32.le_iff_toInt_le.mp (Int32.not_lt.mp c_3)
          refine lv_aload_n hx hb (oc_42 25 shX12_below_25) rfl (lvA1 hl) ?_
          refine lv_iload_n hx hb (oc_28 26 (aq_1 shX12_below_25)) rfl (lvA0 hl) ?_
          have hFc := free_all hD hS hA
          refine va_calli (runV_a (As := [.int (nI i17)]) (rest := []) S (q_stockOn9 l D cI cB cZ g cn I17 Fn i17 H.size hI17 (by (first | omega | (have zz0 := Hid.u hi_cn; omega)))) kV_RX12_465 hK hP hD 0 rfl rfl rfl ⟨Nat.le_of_ble_eq_true rfl, Nat.le_of_ble_eq_true rfl⟩ ⟨Nat.le_of_ble_eq_true rfl, Nat.le_of_ble_eq_true rfl⟩ rfl hl.1 rfl (Nat.le_of_ble_eq_true rfl) (oc_182 27 (aq_2 shX12_below_25) uw_1_209)) hS (fun q _ h => hFc q h) hFc (fun r_4 u t H1 locs ht hvm wh_5 hB hz1 hk1 hS => ?_)
          obtain ⟨cn5, In5, Fn5⟩ := u
          obtain ⟨hP1, hD1⟩ := hB
          rw [ht] at hP1
          have hP : va_P D vwCl (wM cI cB cZ g cn5 In5 Fn5) H1 := hP1
          have hD : va_D A (wM cI cB cZ g cn5 In5 Fn5) := hD1.weaken (fun _ _ _ h => hFc _ h)
          generalize H1 = H at hP hS ⊢
          have vh_5 : (fun r c2 I2 F2 => Fr [] [71, 72, 73] [] cn I17 Fn c2 I2 F2 ∧ IM c2 F2 ∧ (r = stkM ((cn 2)) ((cn 75)) ((cn 62)) ((Fn 9)) ((Fn 10)) ((Fn 81)) ((Fn 82)) ((Fn 65)) ((Fn 64)) i17)) r_4 cn5 In5 Fn5 := wh_5
          obtain ⟨hfc5, hIn5, h_5⟩ := vh_5
          obtain rfl : cn = cn5 := (funext (fun k => hfc5.1 k List.not_mem_nil)).symm
          obtain rfl : Fn = Fn5 := (funext (fun k => hfc5.2.2 k List.not_mem_nil)).symm
          have hf5 : Fr [] [71, 72, 73] [] cn In Fn cn In5 Fn := Fr.mo (Fr.tr hfr17 hfc5) (sbl rfl) (sbl rfl) (sbl rfl)
          have hi_cn : Hid (CB cn) := hIn5.b
          refine lv_iload_n hx hb (oc_27 30 (aq_5 shX12_below_25)) rfl (lvA2 hl) ?_
          refine lv_icmp_ge (tgt := 36) hx hb (oc_162 31 (aq_6 shX12_below_25) sgw_0_5) rfl (fun c_6 => ?_) (fun c_6 => ?_)
          ·
            have tc_6 : (v0.toInt : Int) ≤ r_4.toInt := Int32.le_iff_toInt_le.mp c_6
            refine lv_iinc (v := (nI (i17 + 1))) (lv' := [(2, .int (nI (i17 + 1))), (0, .ref (g 100)), (1, .int v0)]) hx hb (oc_132 36 (aq_11 shX12_below_25) ub_2 sgb_1) hl (k := 0) rfl (nI_1 _) (ltb rfl) rfl (fun ls hl => ?_)
            refine lv_goto (tgt := 17) hx hb (oc_167 39 (aq_14 shX12_below_25) sgw_255_234) rfl ?_
            exact ih17 (i17 + 1) In5 _ _ (by (first | omega | (have zz0 := Hid.u hi_cn; omega))) ⟨(by (first | omega | (have zz0 := Hid.u hi_cn; omega))), (Fr.mo hf5 (sbl rfl) (sbl rfl) (sbl rfl)), hIn5, (fun q h9 => if q9 : q < i17 then hx17_0 q q9 else (by have e9 : q = i17 := (by (first | omega | (have zz0 := Hid.u hi_cn; omega))); rw [e9]; show ¬ (stkM (cn 2) (cn 75) (cn 62) (Fn 9) (Fn 10) (Fn 81) (Fn 82) (Fn 65) (Fn 64) i17).toInt < v0.toInt; rw [← h_5]; (first | omega | (have zz0 := Hid.u hi_cn; omega))))⟩ hP hD hS ls (lv_sub hl [0, 1, 2] rfl)
          ·
            have tc_6 : (r_4.toInt : Int) < v0.toInt := Int32.lt_iff_toInt_lt.mp (Int32.not_le.mp c_6)
            refine lv_iload_n hx hb (oc_28 34 (aq_9 shX12_below_25)) rfl (lvA0 hl) ?_
            exact W.iret (v := (nI i17)) hx hb hr (fun t ht hW => ⟨⟨(nI i17), (cn, In5, Fn), rfl, ⟨(Fr.mo hf5 (sbl rfl) (sbl rfl) (sbl rfl)), hIn5, (by show ((-10000 ≤ v0.toInt ∧ v0.toInt ≤ 10000) ∧ BLW (fun d => (stkM (cn 2) (cn 75) (cn 62) (Fn 9) (Fn 10) (Fn 81) (Fn 82) (Fn 65) (Fn 64) d).toInt < v0.toInt) (cn 0 + 1) (nI i17)) ∨ (¬ (-10000 ≤ v0.toInt ∧ v0.toInt ≤ 10000) ∧ (nI i17) = -1); exact Or.inl ⟨by (first | omega | (have zz0 := Hid.u hi_cn; omega)), Or.inl ⟨i17, by (first | omega | (have zz0 := Hid.u hi_cn; omega)), (by show (stkM (cn 2) (cn 75) (cn 62) (Fn 9) (Fn 10) (Fn 81) (Fn 82) (Fn 65) (Fn 64) i17).toInt < v0.toInt; rw [← h_5]; (first | omega | (have zz0 := Hid.u hi_cn; omega))), hx17_0, rfl⟩⟩)⟩, by rw [ht]; exact hP, hD⟩, hS.F ht⟩) hS.2.2 (oc_172 35 (aq_10 shX12_below_25))
    exact lp_17 _ 0 In _ _ (Nat.lt_succ_self _) ⟨(by (first | omega | (have zz0 := Hid.u hi_cn; omega))), (Fr.mo Fr.rf (sbl rfl) (sbl rfl) (sbl rfl)), hI, (fun q h9 => absurd h9 (Nat.not_lt_zero q))⟩ hP hD hS ls (lv_sub hl [0, 1, 2] rfl)
  ·
    have h_2 : ¬ ((-10000) ≤ v0.toInt ∧ v0.toInt ≤ 10000) := h_2
    refine lv_if_ne (tgt := 15) hx hb dX12_below_10 rfl (fun h => absurd h cq_eq_0_0) (fun _ => ?_)
    refine lv_iconst (v := (-1)) hx hb (oc_2 13 (aq_13 shX12_below_0)) kic_m1 ?_
    exact W.iret (v := (-1)) hx hb hr (fun t ht hW => ⟨⟨(-1), (cn, In, Fn), rfl, ⟨(Fr.mo Fr.rf (sbl rfl) (sbl rfl) (sbl rfl)), hI, (by show ((-10000 ≤ v0.toInt ∧ v0.toInt ≤ 10000) ∧ BLW (fun d => (stkM (cn 2) (cn 75) (cn 62) (Fn 9) (Fn 10) (Fn 81) (Fn 82) (Fn 65) (Fn 64) d).toInt < v0.toInt) (cn 0 + 1) (-1)) ∨ (¬ (-10000 ≤ v0.toInt ∧ v0.toInt ≤ 10000) ∧ (-1) = -1); exact Or.inr ⟨by (first | omega | (have zz0 := Hid.u hi_cn; omega)), rfl⟩)⟩, by rw [ht]; exact hP, hD⟩, hS.F ht⟩) hS.2.2 (oc_172 14 (aq_14 shX12_below_0))
