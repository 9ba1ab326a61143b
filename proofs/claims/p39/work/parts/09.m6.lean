section
theorem nI_tn {n : Nat} (h : n < 2 ^ 31) : (nI n).toInt.toNat = n := by rw [nI_toInt h]; rfl
theorem nI_nz {n : Nat} (h : n < 2 ^ 31) (h0 : 0 < n) : ¬ nI n = 0 := fun q => by
  have e := congrArg Int32.toInt q
  rw [nI_toInt h] at e
  have z : (0 : Int32).toInt = 0 := rfl
  omega
theorem nI_m1 (n : Nat) : nI (n + 1) + (-1) = nI n := by
  rw [show nI (n + 1) = nI n + 1 from (nI_add n 1).symm, Int32.add_assoc, show (1 : Int32) + (-1) = 0 by decide]
  exact Int32.add_zero _
theorem bit01 (x : Int32) : x &&& 1 = 0 ∨ x &&& 1 = 1 := by
  have e : (x &&& 1).toBitVec.toNat < 2 := by
    rw [Int32.toBitVec_and, BitVec.toNat_and]
    have : (1 : Int32).toBitVec.toNat = 1 := rfl
    rw [this, Nat.and_one_is_mod]
    exact Nat.mod_lt _ (by omega)
  rcases (by omega : (x &&& 1).toBitVec.toNat = 0 ∨ (x &&& 1).toBitVec.toNat = 1) with h | h
  · exact Or.inl (Int32.toBitVec_inj.mp (BitVec.eq_of_toNat_eq h))
  · exact Or.inr (Int32.toBitVec_inj.mp (BitVec.eq_of_toNat_eq h))
theorem mixN_0 {f : Nat → Int32} {set : Int32} {n : Nat} (h : (set >>> (nI n &&& 31)) &&& 1 = 0) : mixN f set (n + 1) = mixN f set n := if_pos h
theorem mixN_1 {f : Nat → Int32} {set : Int32} {n a : Nat} (h : ¬ (set >>> (nI n &&& 31)) &&& 1 = 0) (e : f n = nI a) (ha : a < 2 ^ 31) : mixN f set (n + 1) = mixN f set n + a := by
  rw [mixN, if_neg h, e, nI_tn ha]
theorem mixN_le {f : Nat → Int32} {set : Int32} (h : ∀ i : Nat, i < 20 → ∃ n : Nat, n ≤ 400 ∧ f i = nI n) : ∀ n : Nat, n ≤ 20 → mixN f set n ≤ 400 * n
  | 0, _ => Nat.le_refl _
  | n + 1, hn => by
    have ih := mixN_le (f := f) (set := set) h n (by omega)
    obtain ⟨a, ha, e⟩ := h n (by omega)
    by_cases q : (set >>> (nI n &&& 31)) &&& 1 = 0
    · rw [mixN_0 q]; omega
    · rw [mixN_1 q e (by omega)]; omega
theorem IM.mx {cn : Nat → Nat} {Fn : Nat → Nat → Int32} (h : IM cn Fn) (set : Int32) : mixN (Fn 10) set 20 ≤ 8000 := mixN_le (fun i hi => h.e10 i (by omega)) 20 (Nat.le_refl _)
/-- who drives for whom -/
def ROW (A B k : Nat) (f : Nat → Int32) : Prop := ∀ a : Nat, k ≤ a → a < A → ∃ n : Nat, n < B ∧ f a = nI n
theorem ROW.top {A B : Nat} {f : Nat → Int32} : ROW A B A f := fun a h1 h2 => absurd h2 (by omega)
theorem ROW.up {A B j x : Nat} {f : Nat → Int32} (h : ROW A B (j + 1) f) (hx : x < B) : ROW A B j (upd f j (nI x)) := fun a h1 h2 => by
  by_cases e : a = j
  · subst e; exact ⟨x, hx, by simp [upd]⟩
  · obtain ⟨n, p, q⟩ := h a (by omega) h2
    exact ⟨n, p, by simp [upd, e, q]⟩
def LSet (f : Nat → Int32) : Prop := ∀ l : Nat, l < 3 → ∃ n : Nat, n ≤ 63 ∧ f l = nI n
theorem LSet.up {f : Nat → Int32} {a x : Nat} (h : LSet f) (hx : x ≤ 63) : LSet (upd f a (nI x)) := fun l hl => by
  by_cases e : l = a
  · subst e; exact ⟨x, hx, by simp [upd]⟩
  · obtain ⟨n, p, q⟩ := h l hl
    exact ⟨n, p, by simp [upd, e, q]⟩
theorem LSet.z (f : Nat → Int32) : LSet (upd (upd (upd f 0 0) 1 0) 2 0) := fun l hl => ⟨0, by omega, by
  rcases (by omega : l = 0 ∨ l = 1 ∨ l = 2) with rfl | rfl | rfl <;> rfl⟩
theorem p2b {n : Nat} (h : n ≤ 12) : 1 ≤ 2 ^ n ∧ 2 ^ n ≤ 4096 := by
  have : ∀ m : Fin 13, 1 ≤ 2 ^ m.val ∧ 2 ^ m.val ≤ 4096 := by decide +kernel
  exact this ⟨n, by omega⟩
theorem w3m {w i c : Nat} (h : w ≤ 3 ^ i) (hc : c ≤ 3) : w * c ≤ 3 ^ (i + 1) := by
  rw [Nat.pow_succ]; exact Nat.mul_le_mul h hc
theorem upd_keep {f g : Nat → Int32} {a b k : Nat} {x : Int32} (h : ∀ k : Nat, b ≤ k → f k = g k) (ha : a < b) (hk : b ≤ k) : upd f a x k = g k := by
  unfold upd; rw [if_neg (by omega)]; exact h k hk
theorem upd_copy {f g : Nat → Int32} {i k : Nat} {x : Int32} (h : ∀ k : Nat, k < i → f k = g k) (hx : x = g i) (hk : k < i + 1) : upd f i x k = g k := by
  unfold upd
  split
  · rename_i q; rw [q, hx]
  · exact h k (by omega)
theorem IM.bt {cn : Nat → Nat} {Fn : Nat → Nat → Int32} {v y : Int32} (h : IM cn Fn) (h10 : cn 62 < 10) (hs : ∀ i : Nat, i < 20 → ¬ (v >>> (nI i &&& 31)) &&& 1 = 0 → i < cn 2) : IM (va_up cn 62 (cn 62 + 1)) (va_up (va_up Fn 64 (upd (Fn 64) (cn 62) v)) 65 (upd (Fn 65) (cn 62) y)) := by
  obtain ⟨b, e7, e8, e9, e10, e16, e33, e66, e67, e68, e69, e70, e76, e79, e64, pr, cd⟩ := h
  refine ⟨⟨b.1, b.2.1, b.2.2.1, b.2.2.2.1, b.2.2.2.2.1, b.2.2.2.2.2.1, ?_, b.2.2.2.2.2.2.2⟩, e7, e8, e9, e10, e16, e33, e66, ?_, e68, e69, e70, e76, e79, ?_, ?_, cd⟩
  · show cn 62 + 1 ≤ 10; omega
  · intro i hi
    obtain ⟨n, p, q⟩ := e67 i hi
    exact ⟨n, (by show n < cn 62 + 1; omega), q⟩
  · intro j hj i hi hb
    have hj : j < cn 62 + 1 := hj
    have hb : ¬ (upd (Fn 64) (cn 62) v j >>> (nI i &&& 31)) &&& 1 = 0 := hb
    show i < cn 2
    unfold upd at hb
    split at hb
    · exact hs i hi hb
    · exact e64 j (by omega) i hi hb
  · intro q hq
    show (Fn 69 q).toInt.toNat ≤ mixN (Fn 10) (upd (Fn 64) (cn 62) v (Fn 67 q).toInt.toNat) 20
    obtain ⟨n, p, e⟩ := e67 q hq
    have b62 := b.2.2.2.2.2.2.1
    have := pr q hq
    rw [e, nI_tn (by omega)] at this ⊢
    unfold upd
    rw [if_neg (by omega)]
    exact this
theorem upd_ex {f : Nat → Int32} {P : Nat → Prop} {m k x : Nat} (h : ∀ i : Nat, i < m → ∃ n : Nat, P n ∧ f i = nI n) (hx : P x) : ∀ i : Nat, i < m → ∃ n : Nat, P n ∧ upd f k (nI x) i = nI n := fun i hi => by
  by_cases e : i = k
  · subst e; exact ⟨x, hx, by simp [upd]⟩
  · obtain ⟨n, p, q⟩ := h i hi
    exact ⟨n, p, by simp [upd, e, q]⟩
theorem upd_ex1 {f : Nat → Int32} {P : Nat → Prop} {m x : Nat} (h : ∀ i : Nat, i < m → ∃ n : Nat, P n ∧ f i = nI n) (hx : P x) : ∀ i : Nat, i < m + 1 → ∃ n : Nat, P n ∧ upd f m (nI x) i = nI n := fun i hi => by
  by_cases e : i = m
  · subst e; exact ⟨x, hx, by simp [upd]⟩
  · obtain ⟨n, p, q⟩ := h i (by omega)
    exact ⟨n, p, by simp [upd, e, q]⟩
theorem IM.pf {cn : Nat → Nat} {Fn : Nat → Nat → Int32} {d a b w n : Nat} (h : IM cn Fn) (h40 : cn 63 < 40) (hd : d < cn 62) (hab : a ≤ b) (hb : b ≤ mixN (Fn 10) (Fn 64 d) 20) (hw : w ≤ 9) (hn : n ≤ 399) : IM (va_up cn 63 (cn 63 + 1)) (va_up (va_up (va_up (va_up (va_up Fn 67 (upd (Fn 67) (cn 63) (nI d))) 68 (upd (Fn 68) (cn 63) (nI a))) 69 (upd (Fn 69) (cn 63) (nI b))) 70 (upd (Fn 70) (cn 63) (nI w))) 66 (upd (Fn 66) (cn 63) (nI n))) := by
  have hx := h.mx (Fn 64 d)
  obtain ⟨b0, e7, e8, e9, e10, e16, e33, e66, e67, e68, e69, e70, e76, e79, e64, pr, cd⟩ := h
  refine ⟨⟨b0.1, b0.2.1, b0.2.2.1, b0.2.2.2.1, b0.2.2.2.2.1, b0.2.2.2.2.2.1, b0.2.2.2.2.2.2.1, ?_, b0.2.2.2.2.2.2.2.2⟩, e7, e8, e9, e10, e16, e33, ?_, ?_, ?_, ?_, ?_, e76, e79, e64, ?_, cd⟩
  · show cn 63 + 1 ≤ 40; omega
  · exact upd_ex (P := fun n => n ≤ 399) e66 hn
  · exact upd_ex1 (P := fun n => n < cn 62) e67 hd
  · exact upd_ex (P := fun n => n ≤ 8000) e68 (by omega)
  · exact upd_ex (P := fun n => n ≤ 8000) e69 (by omega)
  · exact upd_ex (P := fun n => n ≤ 9) e70 hw
  · intro q hq
    have hq : q < cn 63 + 1 := hq
    show (upd (Fn 69) (cn 63) (nI b) q).toInt.toNat ≤ mixN (Fn 10) (Fn 64 (upd (Fn 67) (cn 63) (nI d) q).toInt.toNat) 20
    unfold upd
    have b62 := b0.2.2.2.2.2.2.1
    by_cases e : q = cn 63
    · rw [if_pos e, if_pos e, nI_tn (by omega), nI_tn (by omega)]; exact hb
    · rw [if_neg e, if_neg e]; exact pr q (by omega)

theorem cq_le_3_0 : ¬((3 : Int32) ≤ 0) := by decide
theorem cq_le_3_1 : ¬((3 : Int32) ≤ 1) := by decide
theorem cq_le_3_2 : ¬((3 : Int32) ≤ 2) := by decide
theorem cq_le_3_3 : ¬¬((3 : Int32) ≤ 3) := by decide

set_option maxRecDepth 100000 in
set_option maxHeartbeats 4000000 in
theorem q_goNights (l : Launch) (D : va_G) (cI cB cZ : ClassId) (g : Nat → Nat) (cn : Nat → Nat) (In : Nat → Int32) (Fn : Nat → Nat → Int32) (d0 n0 : Nat) (v2 : Int32) (sz : Nat) (hI : IM cn Fn) (hd : d0 + n0 ≤ 400) : Met l yX12_goNights (CWS yX12_goNights cX12_goNights 6 (some .boolean)) (RM 5 0 0) (PBw [.ref (g 100), .int (nI d0), .int (nI n0), .int v2] D cI cB cZ (wM cI cB cZ g cn In Fn) sz) (va_Qi (fun (r : Int32) (u : (Nat → Nat) × (Nat → Int32) × (Nat → Nat → Int32)) => (fun r c2 I2 F2 => Fr [44] [54, 55, 56] [7, 42, 43] cn In Fn c2 I2 F2 ∧ IM c2 F2 ∧ (∀ k : Nat, cn 1 ≤ k → F2 7 k = Fn 7 k)) r u.1 u.2.1 u.2.2) (fun (u : (Nat → Nat) × (Nat → Int32) × (Nat → Nat → Int32)) (t : State) => va_P D vwCl (wM cI cB cZ g u.1 u.2.1 u.2.2) t.heap ∧ va_D (va_A (wM cI cB cZ g cn In Fn) sz) (wM cI cB cZ g u.1 u.2.1 u.2.2)) (va_A (wM cI cB cZ g cn In Fn) sz)) 0 0 (va_A (wM cI cB cZ g cn In Fn) sz) := by
  refine en_w (fun A => (va_Qi (fun (r : Int32) (u : (Nat → Nat) × (Nat → Int32) × (Nat → Nat → Int32)) => (fun (r : Int32) (c2 : Nat → Nat) (I2 : Nat → Int32) (F2 : Nat → Nat → Int32) => Fr [44] [54, 55, 56] [7, 42, 43] cn In Fn c2 I2 F2 ∧ IM c2 F2 ∧ (∀ k : Nat, cn 1 ≤ k → F2 7 k = Fn 7 k)) r u.1 u.2.1 u.2.2) (fun (u : (Nat → Nat) × (Nat → Int32) × (Nat → Nat → Int32)) (t : State) => va_P D vwCl (wM cI cB cZ g u.1 u.2.1 u.2.2) t.heap ∧ va_D A (wM cI cB cZ g u.1 u.2.1 u.2.2)) A)) rfl rfl pn_RX12 (Nat.le_of_ble_eq_true rfl) (fun p e s m below meth c A hx hb hml hown S hr hlocks hnm hA hP hK hD hS ls hl => ?_)
  have hl : lv_has ls 6 [(0, .ref (g 100)), (1, .int (nI d0)), (2, .int (nI n0)), (3, .int v2)] := hl
  have hi_cn : Hid (CB cn) := hI.b
  refine lv_aload_n hx hb (oc_42 0 shX12_goNights_0) rfl (lvA0 hl) ?_
  refine lv_iconst (v := 0) hx hb (oc_3 1 (aq_1 shX12_goNights_0)) kic_0 ?_
  refine pM_395 S hK hP hD hS (In2 := (va_up In 54 0)) rfl (oc_181 2 (aq_2 shX12_goNights_0) uw_1_139) (fun H locs hP hD hS => ?_)
  refine lv_aload_n hx hb (oc_42 5 (aq_5 shX12_goNights_0)) rfl (lvA0 hl) ?_
  refine lv_iconst (v := 0) hx hb (oc_3 6 (aq_6 shX12_goNights_0)) kic_0 ?_
  refine pM_398 S hK hP hD hS (In2 := (va_up (va_up In 54 0) 55 0)) rfl (oc_181 7 (aq_7 shX12_goNights_0) uw_1_142) (fun H locs hP hD hS => ?_)
  refine lv_aload_n hx hb (oc_42 10 (aq_10 shX12_goNights_0)) rfl (lvA0 hl) ?_
  refine lv_iconst (v := 0) hx hb (oc_3 11 (aq_11 shX12_goNights_0)) kic_0 ?_
  refine pM_401 S hK hP hD hS (In2 := (va_up (va_up (va_up In 54 0) 55 0) 56 0)) rfl (oc_181 12 (aq_12 shX12_goNights_0) uw_1_145) (fun H locs hP hD hS => ?_)
  refine lv_iload_n hx hb (oc_27 15 (aq_15 shX12_goNights_0)) rfl (lvA1 hl) ?_
  refine lv_istore (lv' := [(4, .int (nI d0)), (0, .ref (g 100)), (1, .int (nI d0)), (2, .int (nI n0)), (3, .int v2)]) hx hb (oc_54 16 (aq_16 shX12_goNights_0) ub_4) hl (ltb rfl) rfl (fun ls hl => ?_)
  have lp_18 : ∀ (n : Nat) (i18 : Nat) (c18 : Nat → Nat) (I18 : Nat → Int32) (F18 : Nat → Nat → Int32) (H : Heap) (locs : List Loc) , d0 + n0 - i18 < n → (i18 ≤ d0 + n0 ∧ Fr [44] [54, 55, 56] [7, 42, 43] cn In Fn c18 I18 F18 ∧ IM c18 F18 ∧ (∀ k : Nat, cn 1 ≤ k → F18 7 k = Fn 7 k)) → va_P D vwCl (wM cI cB cZ g c18 I18 F18) H → va_D A (wM cI cB cZ g c18 I18 F18) → va_S A s.heap H locs → ∀ ls : Array Slot, lv_has ls 6 [(4, .int (nI i18)), (0, .ref (g 100)), (1, .int (nI d0)), (2, .int (nI n0)), (3, .int v2)] → W p l e (RM 5 0 0) s m ([.ref (g 100), .int (nI d0), .int (nI n0), .int v2]).toArray below meth c H locs 0 0 (MQ below (va_Qi (fun (r : Int32) (u : (Nat → Nat) × (Nat → Int32) × (Nat → Nat → Int32)) => (fun r c2 I2 F2 => Fr [44] [54, 55, 56] [7, 42, 43] cn In Fn c2 I2 F2 ∧ IM c2 F2 ∧ (∀ k : Nat, cn 1 ≤ k → F2 7 k = Fn 7 k)) r u.1 u.2.1 u.2.2) (fun (u : (Nat → Nat) × (Nat → Int32) × (Nat → Nat → Int32)) (t : State) => va_P D vwCl (wM cI cB cZ g u.1 u.2.1 u.2.2) t.heap ∧ va_D A (wM cI cB cZ g u.1 u.2.1 u.2.2)) A) ([.ref (g 100), .int (nI d0), .int (nI n0), .int v2]).toArray s 0 0 A) (F0 m 18 ls []) := by
    intro n18
    induction n18 with
    | zero => intros; (first | omega | (have zz0 := Hid.u hi_cn; omega))
    | succ n18 ih18 =>
      intro i18 c18 I18 F18 H locs hmu18 hinv18 hP hD hS ls hl
      obtain ⟨hr18, hfr18, hI18, hx18_0⟩ := hinv18
      have ti18 : (nI i18).toInt = (i18 : Int) := nI_toInt (by (first | omega | (have zz0 := Hid.u hi_cn; omega)))
      have hi_c18 : Hid (CB c18) := hI18.b
      have hq_c18 := Hid.i (frq_44_0_1_2_46_57_58_62_63_75_83 hfr18)
      refine lv_iload hx hb (oc_21 18 (aq_18 shX12_goNights_0) ub_4) (lvA0 hl) ?_
      refine lv_iload_n hx hb (oc_27 20 (aq_20 shX12_goNights_0)) rfl (lvA2 hl) ?_
      refine lv_iload_n hx hb (oc_28 21 (aq_21 shX12_goNights_0)) rfl (lvA3 hl) ?_
      refine lv_iadd hx hb (oc_96 22 (aq_22 shX12_goNights_0)) ?_
      refine lv_topi (fun y_1 ey_1 => ?_)
      obtain rfl : y_1 = (nI (d0 + n0)) := ey_1.trans (nI_add d0 n0)
      have : (nI (d0 + n0)).toInt = (((d0 + n0) : Nat) : Int) := nI_toInt (by (first | omega | (have zz0 := Hid.u hi_c18; have zz1 := Hid.u hi_cn; have zz2 := Hid.u hq_c18; omega)))
      refine lv_icmp_ge (tgt := 131) hx hb (oc_162 23 (aq_23 shX12_goNights_0) sgw_0_108) rfl (fun c_2 => ?_) (fun c_2 => ?_)
      ·
        have tc_2 : ((nI (d0 + n0)).toInt : Int) ≤ (nI i18).toInt := Int32.le_iff_toInt_le.mp c_2
        refine lv_iconst (v := 1) hx hb (oc_4 131 (aq_6 shX12_goNights_125)) kic_1 ?_
        exact W.zret (v := 1) hx hb hr rfl (fun t ht hW => ⟨⟨1, (c18, I18, F18), rfl, ⟨(Fr.mo hfr18 (sbl rfl) (sbl rfl) (sbl rfl)), hI18, (by show ∀ k : Nat, cn 1 ≤ k → F18 7 k = Fn 7 k; (first | exact hx18_0 | (intro k hk; exact (congrFun (hfc8.2.2 7 (nml rfl)) k).trans (hx18_0 k hk))))⟩, by rw [ht]; exact hP, hD⟩, hS.F ht⟩) hS.2.2 (oc_172 132 (aq_7 shX12_goNights_125))
      ·
        have tc_2 : ((nI i18).toInt : Int) < (nI (d0 + n0)).toInt := Int32.lt_iff_toInt_lt.mp (Int32.not_le.mp c_2)
        refine lv_aload_n hx hb (oc_42 26 shX12_goNights_26) rfl (lvA1 hl) ?_
        refine lv_iload hx hb (oc_21 27 (aq_1 shX12_goNights_26) ub_4) (lvA0 hl) ?_
        refine lv_iload_n hx hb (oc_29 29 (aq_3 shX12_goNights_26)) rfl (lvA4 hl) ?_
        refine lv_bipush (v := 8) hx hb (oc_16 30 (aq_4 shX12_goNights_26) sgb_8) kbc_8 ?_
        have hFc := free_all hD hS hA
        refine va_calli (runV_a (As := [.int (nI i18), .int v2, .int 8]) (rest := []) S (q_lays l D cI cB cZ g c18 I18 F18 (nI i18) v2 8 H.size hI18 (by (first | omega | (have zz0 := Hid.u hi_c18; have zz1 := Hid.u hi_cn; have zz2 := Hid.u hq_c18; omega)))) kV_RX12_380 hK hP hD 0 rfl rfl rfl ⟨Nat.le_of_ble_eq_true rfl, Nat.le_of_ble_eq_true rfl⟩ ⟨Nat.le_of_ble_eq_true rfl, Nat.le_of_ble_eq_true rfl⟩ rfl hl.1 rfl (Nat.le_of_ble_eq_true rfl) (oc_182 32 (aq_6 shX12_goNights_26) uw_1_124)) hS (fun q _ h => hFc q h) hFc (fun r_3 u t H1 locs ht hvm wh_4 hB hz1 hk1 hS => ?_)
        obtain ⟨cn4, In4, Fn4⟩ := u
        obtain ⟨hP1, hD1⟩ := hB
        rw [ht] at hP1
        have hP : va_P D vwCl (wM cI cB cZ g cn4 In4 Fn4) H1 := hP1
        have hD : va_D A (wM cI cB cZ g cn4 In4 Fn4) := hD1.weaken (fun _ _ _ h => hFc _ h)
        generalize H1 = H at hP hS ⊢
        have vh_4 : (fun r c2 I2 F2 => Fr [44] [] [42, 43] c18 I18 F18 c2 I2 F2 ∧ IM c2 F2 ∧ (r = 0 ∨ (r = 1 ∧ c2 44 ≤ 8 ∧ c2 44 ≤ 8 ∧ AK c2 F2))) r_3 cn4 In4 Fn4 := wh_4
        obtain ⟨hfc4, hIn4, h_4⟩ := vh_4
        obtain rfl : I18 = In4 := (funext (fun k => hfc4.2.1 k List.not_mem_nil)).symm
        have hf4 : Fr [44] [54, 55, 56] [7, 42, 43] cn In Fn cn4 I18 Fn4 := Fr.mo (Fr.tr hfr18 hfc4) (sbl rfl) (sbl rfl) (sbl rfl)
        have hi_cn4 : Hid (CB cn4) := hIn4.b
        have hq_cn4 := Hid.i (frq_44_0_1_2_46_57_58_62_63_75_83 hf4)
        rcases h_4 with rfl | ⟨rfl, kh_4⟩
        ·
          refine lv_if_ne (tgt := 40) hx hb (oc_154 35 (aq_9 shX12_goNights_26) sgw_0_5) rfl (fun h => absurd h cq_eq_0_0) (fun _ => ?_)
          refine lv_iconst (v := 0) hx hb (oc_3 38 (aq_12 shX12_goNights_26)) kic_0 ?_
          exact W.zret (v := 0) hx hb hr rfl (fun t ht hW => ⟨⟨0, (cn4, I18, Fn4), rfl, ⟨(Fr.mo hf4 (sbl rfl) (sbl rfl) (sbl rfl)), hIn4, (by show ∀ k : Nat, cn 1 ≤ k → Fn4 7 k = Fn 7 k; (first | exact hx18_0 | (intro k hk; exact (congrFun (hfc4.2.2 7 (nml rfl)) k).trans (hx18_0 k hk))))⟩, by rw [ht]; exact hP, hD⟩, hS.F ht⟩) hS.2.2 (oc_172 39 (aq_13 shX12_goNights_26))
        ·
          obtain ⟨hmkh_4, hlkh_4, hAKkh_4⟩ := kh_4
          refine lv_if_ne (tgt := 40) hx hb (oc_154 35 (aq_9 shX12_goNights_26) sgw_0_5) rfl (fun _ => ?_) (fun h => absurd h cq_eq_1_0)
          refine lv_aload_n hx hb (oc_42 40 (aq_14 shX12_goNights_26)) rfl (lvA1 hl) ?_
          refine lv_aload_n hx hb (oc_42 41 (aq_15 shX12_goNights_26)) rfl (lvA1 hl) ?_
          refine gM_395 S hK hP (v := .int (I18 54)) rfl (oc_180 42 (aq_16 shX12_goNights_26) uw_1_139) ?_
          refine lv_aload_n hx hb (oc_42 45 (aq_19 shX12_goNights_26)) rfl (lvA1 hl) ?_
          refine lv_iconst (v := 1) hx hb (oc_4 46 (aq_20 shX12_goNights_26)) kic_1 ?_
          refine lv_aload_n hx hb (oc_42 47 (aq_21 shX12_goNights_26)) rfl (lvA1 hl) ?_
          refine gM_364 S hK hP (v := .int (nI (cn4 44))) rfl (oc_180 48 (aq_22 shX12_goNights_26) uw_1_108) ?_
          refine lv_ishl hx hb (oc_120 51 shX12_goNights_51) ?_
          refine lv_topi (fun y_5 ey_5 => ?_)
          obtain rfl : y_5 = (nI (2 ^ (cn4 44))) := ey_5.trans (sh1 (by (first | omega | (have zz0 := Hid.u hi_c18; have zz1 := Hid.u hi_cn; have zz2 := Hid.u hi_cn4; have zz3 := Hid.u hq_c18; have zz4 := Hid.u hq_cn4; omega))))
          refine lv_iconst (v := 1) hx hb (oc_4 52 (aq_1 shX12_goNights_51)) kic_1 ?_
          refine lv_isub hx hb (oc_100 53 (aq_2 shX12_goNights_51)) ?_
          refine lv_topi (fun y_6 ey_6 => ?_)
          obtain rfl : y_6 = (nI (2 ^ (cn4 44) - 1)) := ey_6.trans (nI_sub (b := 1) (full_le (by (first | omega | (have zz0 := Hid.u hi_c18; have zz1 := Hid.u hi_cn; have zz2 := Hid.u hi_cn4; have zz3 := Hid.u hq_c18; have zz4 := Hid.u hq_cn4; omega)))).1)
          have h2p := full_le (m := (cn4 44)) (by (first | omega | (have zz0 := Hid.u hi_c18; have zz1 := Hid.u hi_cn; have zz2 := Hid.u hi_cn4; have zz3 := Hid.u hq_c18; have zz4 := Hid.u hq_cn4; omega)))
          refine vp_callSi (runV_ra (As := [.int (nI (2 ^ (cn4 44) - 1))]) (rest := [.int (I18 54), .ref (g 100)]) S (q_roundTo l D cI cB cZ g cn4 I18 Fn4 (2 ^ (cn4 44) - 1) hIn4 (by (first | omega | (have zz0 := Hid.u hi_c18; have zz1 := Hid.u hi_cn; have zz2 := Hid.u hi_cn4; have zz3 := Hid.u hq_c18; have zz4 := Hid.u hq_cn4; omega))) hAKkh_4 (by (first | omega | (have zz0 := Hid.u hi_c18; have zz1 := Hid.u hi_cn; have zz2 := Hid.u hi_cn4; have zz3 := Hid.u hq_c18; have zz4 := Hid.u hq_cn4; omega)))) kV_RX12_389 hK hP 0 rfl rfl rfl ⟨Nat.le_of_ble_eq_true rfl, Nat.le_of_ble_eq_true rfl⟩ ⟨Nat.le_of_ble_eq_true rfl, Nat.le_of_ble_eq_true rfl⟩ rfl hl.1 rfl (Nat.le_of_ble_eq_true rfl) (oc_182 54 (aq_3 shX12_goNights_51) uw_1_133)) (fun r_7 h_8 => ?_)
          refine lv_iadd hx hb (oc_96 57 (aq_6 shX12_goNights_51)) ?_
          refine pM_395 S hK hP hD hS (In2 := (va_up I18 54 ((I18 54) + r_7))) rfl (oc_181 58 (aq_7 shX12_goNights_51) uw_1_139) (fun H locs hP hD hS => ?_)
          have h7n : ∀ k : Nat, cn 1 ≤ k → Fn4 7 k = Fn 7 k := fun k hk => (congrFun (hfc4.2.2 7 (nml rfl)) k).trans (hx18_0 k hk)
          refine lv_iconst (v := 0) hx hb (oc_3 61 (aq_10 shX12_goNights_51)) kic_0 ?_
          refine lv_istore (lv' := [(5, .int 0), (4, .int (nI i18)), (0, .ref (g 100)), (1, .int (nI d0)), (2, .int (nI n0)), (3, .int v2)]) hx hb (oc_54 62 (aq_11 shX12_goNights_51) ub_5) hl (ltb rfl) rfl (fun ls hl => ?_)
          have lp_64 : ∀ (n : Nat) (i64 : Nat) (I64 : Nat → Int32) (F64 : Nat → Nat → Int32) (H : Heap) (locs : List Loc) , (cn4 44) - i64 < n → (i64 ≤ (cn4 44) ∧ Fr [44] [54, 55, 56] [7, 42, 43] cn In Fn cn4 I64 F64 ∧ IM cn4 F64 ∧ (AK cn4 F64) ∧ (∀ k : Nat, cn 1 ≤ k → F64 7 k = Fn 7 k)) → va_P D vwCl (wM cI cB cZ g cn4 I64 F64) H → va_D A (wM cI cB cZ g cn4 I64 F64) → va_S A s.heap H locs → ∀ ls : Array Slot, lv_has ls 6 [(5, .int (nI i64)), (4, .int (nI i18)), (0, .ref (g 100)), (1, .int (nI d0)), (2, .int (nI n0)), (3, .int v2)] → W p l e (RM 5 0 0) s m ([.ref (g 100), .int (nI d0), .int (nI n0), .int v2]).toArray below meth c H locs 0 0 (MQ below (va_Qi (fun (r : Int32) (u : (Nat → Nat) × (Nat → Int32) × (Nat → Nat → Int32)) => (fun r c2 I2 F2 => Fr [44] [54, 55, 56] [7, 42, 43] cn In Fn c2 I2 F2 ∧ IM c2 F2 ∧ (∀ k : Nat, cn 1 ≤ k → F2 7 k = Fn 7 k)) r u.1 u.2.1 u.2.2) (fun (u : (Nat → Nat) × (Nat → Int32) × (Nat → Nat → Int32)) (t : State) => va_P D vwCl (wM cI cB cZ g u.1 u.2.1 u.2.2) t.heap ∧ va_D A (wM cI cB cZ g u.1 u.2.1 u.2.2)) A) ([.ref (g 100), .int (nI d0), .int (nI n0), .int v2]).toArray s 0 0 A) (F0 m 64 ls []) := by
            intro n64
            induction n64 with
            | zero => intros; (first | omega | (have zz0 := Hid.u hi_c18; have zz1 := Hid.u hi_cn; have zz2 := Hid.u hi_cn4; have zz3 := Hid.u hq_c18; have zz4 := Hid.u hq_cn4; omega))
            | succ n64 ih64 =>
              intro i64 I64 F64 H locs hmu64 hinv64 hP hD hS ls hl
              obtain ⟨hr64, hfr64, hI64, hx64_0, hx64_1⟩ := hinv64
              have ti64 : (nI i64).toInt = (i64 : Int) := nI_toInt (by (first | omega | (have zz0 := Hid.u hi_c18; have zz1 := Hid.u hi_cn; have zz2 := Hid.u hi_cn4; have zz3 := Hid.u hq_c18; have zz4 := Hid.u hq_cn4; omega)))
              have hi_cn4 : Hid (CB cn4) := hI64.b
              have hq_cn4 := Hid.i (frq_44_0_1_2_46_57_58_62_63_75_83 hfr64)
              refine lv_iload hx hb (oc_21 64 (aq_13 shX12_goNights_51) ub_5) (lvA0 hl) ?_
              refine lv_aload_n hx hb (oc_42 66 (aq_15 shX12_goNights_51)) rfl (lvA2 hl) ?_
              refine gM_364 S hK hP (v := .int (nI (cn4 44))) rfl (oc_180 67 (aq_16 shX12_goNights_51) uw_1_108) ?_
              have : (nI (cn4 44)).toInt = (((cn4 44) : Nat) : Int) := nI_toInt (by (first | omega | (have zz0 := Hid.u hi_c18; have zz1 := Hid.u hi_cn; have zz2 := Hid.u hi_cn4; have zz3 := Hid.u hq_c18; have zz4 := Hid.u hq_cn4; omega)))
              refine lv_icmp_ge (tgt := 125) hx hb (oc_162 70 (aq_19 shX12_goNights_51) sgw_0_55) rfl (fun c_9 => ?_) (fun c_9 => ?_)
              ·
                have tc_9 : ((nI (cn4 44)).toInt : Int) ≤ (nI i64).toInt := Int32.le_iff_toInt_le.mp c_9
                refine lv_iinc (v := (nI (i18 + 1))) (lv' := [(4, .int (nI (i18 + 1))), (5, .int (nI i64)), (0, .ref (g 100)), (1, .int (nI d0)), (2, .int (nI n0)), (3, .int v2)]) hx hb (oc_132 125 shX12_goNights_125 ub_4 sgb_1) hl (k := 1) rfl (nI_1 _) (ltb rfl) rfl (fun ls hl => ?_)
                refine lv_goto (tgt := 18) hx hb (oc_167 128 (aq_3 shX12_goNights_125) sgw_255_146) rfl ?_
                exact ih18 (i18 + 1) cn4 I64 F64 _ _ (by (first | omega | (have zz0 := Hid.u hi_c18; have zz1 := Hid.u hi_cn; have zz2 := Hid.u hi_cn4; have zz3 := Hid.u hq_c18; have zz4 := Hid.u hq_cn4; omega))) ⟨(by (first | omega | (have zz0 := Hid.u hi_c18; have zz1 := Hid.u hi_cn; have zz2 := Hid.u hi_cn4; have zz3 := Hid.u hq_c18; have zz4 := Hid.u hq_cn4; omega))), (Fr.mo hfr64 (sbl rfl) (sbl rfl) (sbl rfl)), hI64, hx64_1⟩ hP hD hS ls (lv_sub hl [0, 2, 3, 4, 5] rfl)
              ·
                have tc_9 : ((nI i64).toInt : Int) < (nI (cn4 44)).toInt := Int32.lt_iff_toInt_lt.mp (Int32.not_le.mp c_9)
                refine lv_aload_n hx hb (oc_42 73 (aq_22 shX12_goNights_51)) rfl (lvA2 hl) ?_
                refine lv_aload_n hx hb (oc_42 74 (aq_23 shX12_goNights_51)) rfl (lvA2 hl) ?_
                refine gM_398 S hK hP (v := .int (I64 55)) rfl (oc_180 75 shX12_goNights_75 uw_1_142) ?_
                refine lv_aload_n hx hb (oc_42 78 (aq_3 shX12_goNights_75)) rfl (lvA2 hl) ?_
                refine lv_aload_n hx hb (oc_42 79 (aq_4 shX12_goNights_75)) rfl (lvA2 hl) ?_
                refine gM_101 S hK hP (v := .ref (g 42)) rfl (oc_180 80 (aq_5 shX12_goNights_75) uw_0_101) ?_
                refine lv_iload hx hb (oc_21 83 (aq_8 shX12_goNights_75) ub_5) (lvA0 hl) ?_
                have kb_1 : i64 < 10 := by (first | omega | (have zz0 := Hid.u hi_c18; have zz1 := Hid.u hi_cn; have zz2 := Hid.u hi_cn4; have zz3 := Hid.u hq_c18; have zz4 := Hid.u hq_cn4; omega))
                obtain ⟨a_10, ha_10, ea_10⟩ := hx64_0 i64 (by (first | omega | (have zz0 := Hid.u hi_c18; have zz1 := Hid.u hi_cn; have zz2 := Hid.u hi_cn4; have zz3 := Hid.u hq_c18; have zz4 := Hid.u hq_cn4; omega)))
                refine ldM_42 hx hb hK hP (x := (nI a_10)) (vp_in_nI kb_1 (ltb rfl)) (nI_clamp (Nat.lt_trans kb_1 (ltb rfl))) ea_10 (oc_46 85 (aq_10 shX12_goNights_75)) ?_
                refine lv_iload hx hb (oc_21 86 (aq_11 shX12_goNights_75) ub_4) (lvA1 hl) ?_
                refine vp_callSi (runV_ra (As := [.int (nI a_10), .int (nI i18)]) (rest := [.int (I64 55), .ref (g 100)]) S (q_likelyOn l D cI cB cZ g cn4 I64 F64 a_10 (nI i18) hI64 (by (first | omega | (have zz0 := Hid.u hi_c18; have zz1 := Hid.u hi_cn; have zz2 := Hid.u hi_cn4; have zz3 := Hid.u hq_c18; have zz4 := Hid.u hq_cn4; omega)))) kV_RX12_222 hK hP 0 rfl rfl rfl ⟨Nat.le_of_ble_eq_true rfl, Nat.le_of_ble_eq_true rfl⟩ ⟨Nat.le_of_ble_eq_true rfl, Nat.le_of_ble_eq_true rfl⟩ rfl hl.1 rfl (Nat.le_of_ble_eq_true rfl) (oc_182 88 (aq_13 shX12_goNights_75) uw_0_222)) (fun r_11 h_12 => ?_)
                subst h_12
                refine lv_iadd hx hb (oc_96 91 (aq_16 shX12_goNights_75)) ?_
                refine pM_398 S hK hP hD hS (In2 := (va_up I64 55 ((I64 55) + (lkM F64 a_10 (nI i18))))) rfl (oc_181 92 (aq_17 shX12_goNights_75) uw_1_142) (fun H locs hP hD hS => ?_)
                refine lv_aload_n hx hb (oc_42 95 (aq_20 shX12_goNights_75)) rfl (lvA2 hl) ?_
                refine lv_aload_n hx hb (oc_42 96 (aq_21 shX12_goNights_75)) rfl (lvA2 hl) ?_
                refine gM_401 S hK hP (v := .int (I64 56)) rfl (oc_180 97 (aq_22 shX12_goNights_75) uw_1_145) ?_
                refine lv_iconst (v := 1) hx hb (oc_4 100 shX12_goNights_100) kic_1 ?_
                refine lv_iadd hx hb (oc_96 101 (aq_1 shX12_goNights_100)) ?_
                refine pM_401 S hK hP hD hS (In2 := (va_up (va_up I64 55 ((I64 55) + (lkM F64 a_10 (nI i18)))) 56 ((I64 56) + 1))) rfl (oc_181 102 (aq_2 shX12_goNights_100) uw_1_145) (fun H locs hP hD hS => ?_)
                refine lv_aload_n hx hb (oc_42 105 (aq_5 shX12_goNights_100)) rfl (lvA2 hl) ?_
                refine gM_22 S hK hP (v := .ref (g 7)) rfl (oc_180 106 (aq_6 shX12_goNights_100) uw_0_22) ?_
                refine lv_aload_n hx hb (oc_42 109 (aq_9 shX12_goNights_100)) rfl (lvA2 hl) ?_
                refine gM_101 S hK hP (v := .ref (g 42)) rfl (oc_180 110 (aq_10 shX12_goNights_100) uw_0_101) ?_
                refine lv_iload hx hb (oc_21 113 (aq_13 shX12_goNights_100) ub_5) (lvA0 hl) ?_
                refine ldM_42 hx hb hK hP (x := (nI a_10)) (vp_in_nI kb_1 (ltb rfl)) (nI_clamp (Nat.lt_trans kb_1 (ltb rfl))) ea_10 (oc_46 115 (aq_15 shX12_goNights_100)) ?_
                refine lv_iload hx hb (oc_21 116 (aq_16 shX12_goNights_100) ub_4) (lvA1 hl) ?_
                have kb_2 : a_10 < 10 := by (first | omega | (have zz0 := Hid.u hi_c18; have zz1 := Hid.u hi_cn; have zz2 := Hid.u hi_cn4; have zz3 := Hid.u hq_c18; have zz4 := Hid.u hq_cn4; omega))
                refine stM_7 hx hb hK hP hD hS (Fn2 := (va_up F64 7 (upd (F64 7) a_10 (nI i18)))) (vp_in_nI kb_2 (ltb rfl)) (nI_clamp (Nat.lt_trans kb_2 (ltb rfl))) rfl (oc_79 118 (aq_18 shX12_goNights_100)) (fun H locs hP hD hS => ?_)
                refine lv_iinc (v := (nI (i64 + 1))) (lv' := [(5, .int (nI (i64 + 1))), (4, .int (nI i18)), (0, .ref (g 100)), (1, .int (nI d0)), (2, .int (nI n0)), (3, .int v2)]) hx hb (oc_132 119 (aq_19 shX12_goNights_100) ub_5 sgb_1) hl (k := 0) rfl (nI_1 _) (ltb rfl) rfl (fun ls hl => ?_)
                refine lv_goto (tgt := 64) hx hb (oc_167 122 (aq_22 shX12_goNights_100) sgw_255_198) rfl ?_
                exact ih64 (i64 + 1) (va_up (va_up I64 55 ((I64 55) + (lkM F64 a_10 (nI i18)))) 56 ((I64 56) + 1)) (va_up F64 7 (upd (F64 7) a_10 (nI i18))) _ _ (by (first | omega | (have zz0 := Hid.u hi_c18; have zz1 := Hid.u hi_cn; have zz2 := Hid.u hi_cn4; have zz3 := Hid.u hq_c18; have zz4 := Hid.u hq_cn4; omega))) ⟨(by (first | omega | (have zz0 := Hid.u hi_c18; have zz1 := Hid.u hi_cn; have zz2 := Hid.u hi_cn4; have zz3 := Hid.u hq_c18; have zz4 := Hid.u hq_cn4; omega))), (Fr.mo (Fr.f 7 (Fr.i 56 (Fr.i 55 hfr64))) (sbl rfl) (sbl rfl) (sbl rfl)), (IM.e7up hI64 (by (first | omega | (have zz0 := Hid.u hi_c18; have zz1 := Hid.u hi_cn; have zz2 := Hid.u hi_cn4; have zz3 := Hid.u hq_c18; have zz4 := Hid.u hq_cn4; omega))) (by (first | omega | (have zz0 := Hid.u hi_c18; have zz1 := Hid.u hi_cn; have zz2 := Hid.u hi_cn4; have zz3 := Hid.u hq_c18; have zz4 := Hid.u hq_cn4; omega)))), (AK.fr (In := I64) hx64_0 (Fr.f 7 Fr.rf) (by decide) (by decide)), (fun k hk => upd_keep (b := cn 1) hx64_1 (by (first | omega | (have zz0 := Hid.u hi_c18; have zz1 := Hid.u hi_cn; have zz2 := Hid.u hi_cn4; have zz3 := Hid.u hq_c18; have zz4 := Hid.u hq_cn4; omega))) hk)⟩ hP hD hS ls (lv_sub hl [0, 1, 2, 3, 4, 5] rfl)
          exact lp_64 _ 0 (va_up I18 54 ((I18 54) + r_7)) Fn4 _ _ (Nat.lt_succ_self _) ⟨(by (first | omega | (have zz0 := Hid.u hi_c18; have zz1 := Hid.u hi_cn; have zz2 := Hid.u hi_cn4; have zz3 := Hid.u hq_c18; have zz4 := Hid.u hq_cn4; omega))), (Fr.mo (Fr.i 54 hf4) (sbl rfl) (sbl rfl) (sbl rfl)), hIn4, hAKkh_4, h7n⟩ hP hD hS ls (lv_sub hl [0, 1, 2, 3, 4, 5] rfl)
  exact lp_18 _ d0 cn (va_up (va_up (va_up In 54 0) 55 0) 56 0) Fn _ _ (Nat.lt_succ_self _) ⟨(by (first | omega | (have zz0 := Hid.u hi_cn; omega))), (Fr.mo (Fr.i 56 (Fr.i 55 (Fr.i 54 Fr.rf))) (sbl rfl) (sbl rfl) (sbl rfl)), hI, (fun k hk => rfl)⟩ hP hD hS ls (lv_sub hl [0, 1, 2, 3, 4] rfl)
set_option maxRecDepth 100000 in
set_option maxHeartbeats 4000000 in
theorem q_nights (l : Launch) (D : va_G) (cI cB cZ : ClassId) (g : Nat → Nat) (cn : Nat → Nat) (In : Nat → Int32) (Fn : Nat → Nat → Int32) (v0 v1 v2 v3 : Int32) (sz : Nat) (hI : IM cn Fn) : Met l yX12_nights (CWS yX12_nights cX12_nights 7 (some .int)) (RM 6 0 0) (PBw [.ref (g 100), .int v0, .int v1, .int v2, .int v3] D cI cB cZ (wM cI cB cZ g cn In Fn) sz) (va_Qi (fun (r : Int32) (u : (Nat → Nat) × (Nat → Int32) × (Nat → Nat → Int32)) => (fun r c2 I2 F2 => Fr [44] [54, 55, 56] [7, 42, 43, 52] cn In Fn c2 I2 F2 ∧ IM c2 F2 ∧ (F2 7 = Fn 7)) r u.1 u.2.1 u.2.2) (fun (u : (Nat → Nat) × (Nat → Int32) × (Nat → Nat → Int32)) (t : State) => va_P D vwCl (wM cI cB cZ g u.1 u.2.1 u.2.2) t.heap ∧ va_D (va_A (wM cI cB cZ g cn In Fn) sz) (wM cI cB cZ g u.1 u.2.1 u.2.2)) (va_A (wM cI cB cZ g cn In Fn) sz)) 0 0 (va_A (wM cI cB cZ g cn In Fn) sz) := by
  refine en_w (fun A => (va_Qi (fun (r : Int32) (u : (Nat → Nat) × (Nat → Int32) × (Nat → Nat → Int32)) => (fun (r : Int32) (c2 : Nat → Nat) (I2 : Nat → Int32) (F2 : Nat → Nat → Int32) => Fr [44] [54, 55, 56] [7, 42, 43, 52] cn In Fn c2 I2 F2 ∧ IM c2 F2 ∧ (F2 7 = Fn 7)) r u.1 u.2.1 u.2.2) (fun (u : (Nat → Nat) × (Nat → Int32) × (Nat → Nat → Int32)) (t : State) => va_P D vwCl (wM cI cB cZ g u.1 u.2.1 u.2.2) t.heap ∧ va_D A (wM cI cB cZ g u.1 u.2.1 u.2.2)) A)) rfl rfl pn_RX12 (Nat.le_of_ble_eq_true rfl) (fun p e s m below meth c A hx hb hml hown S hr hlocks hnm hA hP hK hD hS ls hl => ?_)
  have hl : lv_has ls 7 [(0, .ref (g 100)), (1, .int v0), (2, .int v1), (3, .int v2), (4, .int v3)] := hl
  have hi_cn : Hid (CB cn) := hI.b
  refine lv_iload_n hx hb (oc_27 0 shX12_nights_0) rfl (lvA1 hl) ?_
  refine vp_callSi (runS_r (As := [.int v0]) (rest := []) S (q_isDay l D cI cB cZ v0 ) kS_RX12_341 hK hP [] rfl ⟨Nat.le_of_ble_eq_true rfl, Nat.le_of_ble_eq_true rfl⟩ ⟨Nat.le_of_ble_eq_true rfl, Nat.le_of_ble_eq_true rfl⟩ rfl hl.1 rfl (Nat.le_of_ble_eq_true rfl) (oc_184 1 (aq_1 shX12_nights_0) uw_1_85)) (fun r_1 h_2 => ?_)
  rcases h_2 with ⟨rfl, h_2⟩ | ⟨rfl, h_2⟩
  ·
    have h_2 : 0 ≤ v0.toInt ∧ v0.toInt ≤ 399 := h_2
    refine lv_if_eq (tgt := 49) hx hb dX12_nights_4 rfl (fun h => absurd h cq_eq_1_0) (fun _ => ?_)
    refine lv_iload_n hx hb (oc_28 7 (aq_7 shX12_nights_0)) rfl (lvA2 hl) ?_
    refine lv_iconst (v := 1) hx hb (oc_4 8 (aq_8 shX12_nights_0)) kic_1 ?_
    refine lv_bipush (v := 7) hx hb (oc_16 9 (aq_9 shX12_nights_0) sgb_7) kbc_7 ?_
    refine vp_callSi (runS_r (As := [.int v1, .int 1, .int 7]) (rest := []) S (q_in l D cI cB cZ v1 1 7 ) kS_RX12_214 hK hP [] rfl ⟨Nat.le_of_ble_eq_true rfl, Nat.le_of_ble_eq_true rfl⟩ ⟨Nat.le_of_ble_eq_true rfl, Nat.le_of_ble_eq_true rfl⟩ rfl hl.1 rfl (Nat.le_of_ble_eq_true rfl) (oc_184 11 (aq_11 shX12_nights_0) uw_0_214)) (fun r_3 h_4 => ?_)
    rcases h_4 with ⟨rfl, h_4⟩ | ⟨rfl, h_4⟩
    ·
      have h_4 : 1 ≤ v1.toInt ∧ v1.toInt ≤ 7 := h_4
      refine lv_if_eq (tgt := 49) hx hb dX12_nights_14 rfl (fun h => absurd h cq_eq_1_0) (fun _ => ?_)
      obtain ⟨d0, hd0, rfl⟩ := nI_of (x := v0) (fun q => by have := Int32.lt_iff_toInt_lt.mp q; have e : (0 : Int32).toInt = 0 := rfl; (first | omega | (have zz0 := Hid.u hi_cn; omega)))
      have td0 : (nI d0).toInt = (d0 : Int) := nI_toInt hd0
      have zd0 : (nI d0).toInt.toNat = d0 := by (first | omega | (have zz0 := Hid.u hi_cn; omega))
      obtain ⟨n0, hn0, rfl⟩ := nI_of (x := v1) (fun q => by have := Int32.lt_iff_toInt_lt.mp q; have e : (0 : Int32).toInt = 0 := rfl; (first | omega | (have zz0 := Hid.u hi_cn; omega)))
      have tn0 : (nI n0).toInt = (n0 : Int) := nI_toInt hn0
      have zn0 : (nI n0).toInt.toNat = n0 := by (first | omega | (have zz0 := Hid.u hi_cn; omega))
      refine lv_iload_n hx hb (oc_27 17 (aq_17 shX12_nights_0)) rfl (lvA1 hl) ?_
      refine lv_iload_n hx hb (oc_28 18 (aq_18 shX12_nights_0)) rfl (lvA2 hl) ?_
      refine lv_iadd hx hb (oc_96 19 (aq_19 shX12_nights_0)) ?_
      refine lv_topi (fun y_5 ey_5 => ?_)
      obtain rfl : y_5 = (nI (d0 + n0)) := ey_5.trans (nI_add d0 n0)
      refine lv_iconst (v := 1) hx hb (oc_4 20 (aq_20 shX12_nights_0)) kic_1 ?_
      refine lv_isub hx hb (oc_100 21 (aq_21 shX12_nights_0)) ?_
      refine lv_topi (fun y_6 ey_6 => ?_)
      obtain rfl : y_6 = (nI (d0 + n0 - 1)) := ey_6.trans (nI_sub (b := 1) (by (first | omega | (have zz0 := Hid.u hi_cn; omega))))
      refine lv_sipush (v := 399) hx hb (oc_17 22 (aq_22 shX12_nights_0) sgw_1_143) (by decide) ?_
      have : (nI (d0 + n0 - 1)).toInt = (((d0 + n0 - 1) : Nat) : Int) := nI_toInt (by (first | omega | (have zz0 := Hid.u hi_cn; omega)))
      refine lv_icmp_gt (tgt := 49) hx hb (oc_163 25 shX12_nights_25 sgw_0_24) rfl (fun c_7 => ?_) (fun c_7 => ?_)
      ·
        have tc_7 : (399 : Int) < (nI (d0 + n0 - 1)).toInt := Int32.lt_iff_toInt_lt.mp c_7
        refine lv_iconst (v := (-1)) hx hb dX12_nights_49 kic_m1 ?_
        exact W.iret (v := (-1)) hx hb hr (fun t ht hW => ⟨⟨(-1), (cn, In, Fn), rfl, ⟨(Fr.mo Fr.rf (sbl rfl) (sbl rfl) (sbl rfl)), hI, (by show Fn 7 = Fn 7; first | rfl | exact h7n)⟩, by rw [ht]; exact hP, hD⟩, hS.F ht⟩) hS.2.2 dX12_nights_50
      ·
        have tc_7 : ((nI (d0 + n0 - 1)).toInt : Int) ≤ 399 := Int32.le_iff_toInt_le.mp (Int32.not_lt.mp c_7)
        refine lv_iload_n hx hb (oc_29 28 (aq_3 shX12_nights_25)) rfl (lvA3 hl) ?_
        refine lv_iconst (v := 1) hx hb (oc_4 29 (aq_4 shX12_nights_25)) kic_1 ?_
        refine lv_sipush (v := 400) hx hb (oc_17 30 (aq_5 shX12_nights_25) sgw_1_144) (by decide) ?_
        refine vp_callSi (runS_r (As := [.int v2, .int 1, .int 400]) (rest := []) S (q_in l D cI cB cZ v2 1 400 ) kS_RX12_214 hK hP [] rfl ⟨Nat.le_of_ble_eq_true rfl, Nat.le_of_ble_eq_true rfl⟩ ⟨Nat.le_of_ble_eq_true rfl, Nat.le_of_ble_eq_true rfl⟩ rfl hl.1 rfl (Nat.le_of_ble_eq_true rfl) (oc_184 33 (aq_8 shX12_nights_25) uw_0_214)) (fun r_8 h_9 => ?_)
        rcases h_9 with ⟨rfl, h_9⟩ | ⟨rfl, h_9⟩
        ·
          have h_9 : 1 ≤ v2.toInt ∧ v2.toInt ≤ 400 := h_9
          refine lv_if_eq (tgt := 49) hx hb dX12_nights_36 rfl (fun h => absurd h cq_eq_1_0) (fun _ => ?_)
          refine lv_iload hx hb (oc_21 39 (aq_14 shX12_nights_25) ub_4) (lvA4 hl) ?_
          refine lv_iconst (v := 0) hx hb (oc_3 41 (aq_16 shX12_nights_25)) kic_0 ?_
          refine lv_iconst (v := 2) hx hb (oc_5 42 (aq_17 shX12_nights_25)) kic_2 ?_
          refine vp_callSi (runS_r (As := [.int v3, .int 0, .int 2]) (rest := []) S (q_in l D cI cB cZ v3 0 2 ) kS_RX12_214 hK hP [] rfl ⟨Nat.le_of_ble_eq_true rfl, Nat.le_of_ble_eq_true rfl⟩ ⟨Nat.le_of_ble_eq_true rfl, Nat.le_of_ble_eq_true rfl⟩ rfl hl.1 rfl (Nat.le_of_ble_eq_true rfl) (oc_184 43 (aq_18 shX12_nights_25) uw_0_214)) (fun r_10 h_11 => ?_)
          rcases h_11 with ⟨rfl, h_11⟩ | ⟨rfl, h_11⟩
          ·
            have h_11 : 0 ≤ v3.toInt ∧ v3.toInt ≤ 2 := h_11
            refine lv_if_ne (tgt := 51) hx hb dX12_nights_46 rfl (fun _ => ?_) (fun h => absurd h cq_eq_1_0)
            refine lv_iconst (v := 0) hx hb (oc_3 51 (aq_2 shX12_nights_49)) kic_0 ?_
            refine lv_istore (lv' := [(5, .int 0), (0, .ref (g 100)), (1, .int (nI d0)), (2, .int (nI n0)), (3, .int v2), (4, .int v3)]) hx hb (oc_54 52 (aq_3 shX12_nights_49) ub_5) hl (ltb rfl) rfl (fun ls hl => ?_)
            have lp_54 : ∀ (n : Nat) (i54 : Nat) (F54 : Nat → Nat → Int32) (H : Heap) (locs : List Loc) , cn 1 - i54 < n → (i54 ≤ cn 1 ∧ Fr [44] [54, 55, 56] [7, 42, 43, 52] cn In Fn cn In F54 ∧ IM cn F54 ∧ (∀ k : Nat, k < i54 → F54 52 k = Fn 7 k) ∧ (F54 7 = Fn 7)) → va_P D vwCl (wM cI cB cZ g cn In F54) H → va_D A (wM cI cB cZ g cn In F54) → va_S A s.heap H locs → ∀ ls : Array Slot, lv_has ls 7 [(5, .int (nI i54)), (0, .ref (g 100)), (1, .int (nI d0)), (2, .int (nI n0)), (3, .int v2), (4, .int v3)] → W p l e (RM 6 0 0) s m ([.ref (g 100), .int (nI d0), .int (nI n0), .int v2, .int v3]).toArray below meth c H locs 0 0 (MQ below (va_Qi (fun (r : Int32) (u : (Nat → Nat) × (Nat → Int32) × (Nat → Nat → Int32)) => (fun r c2 I2 F2 => Fr [44] [54, 55, 56] [7, 42, 43, 52] cn In Fn c2 I2 F2 ∧ IM c2 F2 ∧ (F2 7 = Fn 7)) r u.1 u.2.1 u.2.2) (fun (u : (Nat → Nat) × (Nat → Int32) × (Nat → Nat → Int32)) (t : State) => va_P D vwCl (wM cI cB cZ g u.1 u.2.1 u.2.2) t.heap ∧ va_D A (wM cI cB cZ g u.1 u.2.1 u.2.2)) A) ([.ref (g 100), .int (nI d0), .int (nI n0), .int v2, .int v3]).toArray s 0 0 A) (F0 m 54 ls []) := by
              intro n54
              induction n54 with
              | zero => intros; (first | omega | (have zz0 := Hid.u hi_cn; omega))
              | succ n54 ih54 =>
                intro i54 F54 H locs hmu54 hinv54 hP hD hS ls hl
                obtain ⟨hr54, hfr54, hI54, hx54_0, hx54_1⟩ := hinv54
                have ti54 : (nI i54).toInt = (i54 : Int) := nI_toInt (by (first | omega | (have zz0 := Hid.u hi_cn; omega)))
                have hi_cn : Hid (CB cn) := hI54.b
                refine lv_iload hx hb (oc_21 54 (aq_5 shX12_nights_49) ub_5) (lvA0 hl) ?_
                refine lv_aload_n hx hb (oc_42 56 (aq_7 shX12_nights_49)) rfl (lvA1 hl) ?_
                refine gM_204 S hK hP (v := .int (nI (cn 1))) rfl (oc_180 57 (aq_8 shX12_nights_49) uw_0_204) ?_
                have : (nI (cn 1)).toInt = (((cn 1) : Nat) : Int) := nI_toInt (by (first | omega | (have zz0 := Hid.u hi_cn; omega)))
                refine lv_icmp_ge (tgt := 83) hx hb (oc_162 60 (aq_11 shX12_nights_49) sgw_0_23) rfl (fun c_12 => ?_) (fun c_12 => ?_)
                ·
                  have tc_12 : ((nI (cn 1)).toInt : Int) ≤ (nI i54).toInt := Int32.le_iff_toInt_le.mp c_12
                  refine lv_aload_n hx hb (oc_42 83 (aq_10 shX12_nights_73)) rfl (lvA1 hl) ?_
                  refine lv_iload_n hx hb (oc_27 84 (aq_11 shX12_nights_73)) rfl (lvA2 hl) ?_
                  refine lv_iload_n hx hb (oc_28 85 (aq_12 shX12_nights_73)) rfl (lvA3 hl) ?_
                  refine lv_iload_n hx hb (oc_29 86 (aq_13 shX12_nights_73)) rfl (lvA4 hl) ?_
                  have hFc := free_all hD hS hA
                  refine va_calli (runV_a (As := [.int (nI d0), .int (nI n0), .int v2]) (rest := []) S (q_goNights l D cI cB cZ g cn In F54 d0 n0 v2 H.size hI54 (by (first | omega | (have zz0 := Hid.u hi_cn; omega)))) kV_RX12_404 hK hP hD 0 rfl rfl rfl ⟨Nat.le_of_ble_eq_true rfl, Nat.le_of_ble_eq_true rfl⟩ ⟨Nat.le_of_ble_eq_true rfl, Nat.le_of_ble_eq_true rfl⟩ rfl hl.1 rfl (Nat.le_of_ble_eq_true rfl) (oc_182 87 (aq_14 shX12_nights_73) uw_1_148)) hS (fun q _ h => hFc q h) hFc (fun r_13 u t H1 locs ht hvm wh_14 hB hz1 hk1 hS => ?_)
                  obtain ⟨cn14, In14, Fn14⟩ := u
                  obtain ⟨hP1, hD1⟩ := hB
                  rw [ht] at hP1
                  have hP : va_P D vwCl (wM cI cB cZ g cn14 In14 Fn14) H1 := hP1
                  have hD : va_D A (wM cI cB cZ g cn14 In14 Fn14) := hD1.weaken (fun _ _ _ h => hFc _ h)
                  generalize H1 = H at hP hS ⊢
                  have vh_14 : (fun r c2 I2 F2 => Fr [44] [54, 55, 56] [7, 42, 43] cn In F54 c2 I2 F2 ∧ IM c2 F2 ∧ (∀ k : Nat, (cn 1) ≤ k → F2 7 k = (F54 7) k)) r_13 cn14 In14 Fn14 := wh_14
                  obtain ⟨hfc14, hIn14, h_14⟩ := vh_14
                  have hf14 : Fr [44] [54, 55, 56] [7, 42, 43, 52] cn In Fn cn14 In14 Fn14 := Fr.mo (Fr.tr hfr54 hfc14) (sbl rfl) (sbl rfl) (sbl rfl)
                  have hi_cn14 : Hid (CB cn14) := hIn14.b
                  have hq_cn14 := Hid.i (frq_44_0_1_2_46_57_58_62_63_75_83 hf14)
                  refine lv_istore (lv' := [(5, .int r_13), (0, .ref (g 100)), (1, .int (nI d0)), (2, .int (nI n0)), (3, .int v2), (4, .int v3)]) hx hb (oc_54 90 (aq_17 shX12_nights_73) ub_5) hl (ltb rfl) rfl (fun ls hl => ?_)
                  have hn1 : ∀ k : Nat, cn 1 ≤ k → Fn14 7 k = Fn 7 k := fun k hk => ((h_14 : ∀ k : Nat, cn 1 ≤ k → Fn14 7 k = F54 7 k) k hk).trans (congrFun hx54_1 k)
                  have hn2 : ∀ k : Nat, k < cn 1 → Fn14 52 k = Fn 7 k := fun k hk => (congrFun (hfc14.2.2 52 (nml rfl)) k).trans (hx54_0 k (by (first | omega | (have zz0 := Hid.u hi_cn; have zz1 := Hid.u hi_cn14; have zz2 := Hid.u hq_cn14; omega))))
                  refine lv_iconst (v := 0) hx hb (oc_3 92 (aq_19 shX12_nights_73)) kic_0 ?_
                  refine lv_istore (lv' := [(6, .int 0), (5, .int r_13), (0, .ref (g 100)), (1, .int (nI d0)), (2, .int (nI n0)), (3, .int v2), (4, .int v3)]) hx hb (oc_54 93 (aq_20 shX12_nights_73) ub_6) hl (ltb rfl) rfl (fun ls hl => ?_)
                  have lp_95 : ∀ (n : Nat) (i95 : Nat) (F95 : Nat → Nat → Int32) (H : Heap) (locs : List Loc) , (cn14 1) - i95 < n → (i95 ≤ (cn14 1) ∧ Fr [44] [54, 55, 56] [7, 42, 43, 52] cn In Fn cn14 In14 F95 ∧ IM cn14 F95 ∧ (∀ k : Nat, k < i95 → F95 7 k = Fn 7 k) ∧ (∀ k : Nat, cn 1 ≤ k → F95 7 k = Fn 7 k) ∧ (∀ k : Nat, k < cn 1 → F95 52 k = Fn 7 k)) → va_P D vwCl (wM cI cB cZ g cn14 In14 F95) H → va_D A (wM cI cB cZ g cn14 In14 F95) → va_S A s.heap H locs → ∀ ls : Array Slot, lv_has ls 7 [(6, .int (nI i95)), (5, .int r_13), (0, .ref (g 100)), (1, .int (nI d0)), (2, .int (nI n0)), (3, .int v2), (4, .int v3)] → W p l e (RM 6 0 0) s m ([.ref (g 100), .int (nI d0), .int (nI n0), .int v2, .int v3]).toArray below meth c H locs 0 0 (MQ below (va_Qi (fun (r : Int32) (u : (Nat → Nat) × (Nat → Int32) × (Nat → Nat → Int32)) => (fun r c2 I2 F2 => Fr [44] [54, 55, 56] [7, 42, 43, 52] cn In Fn c2 I2 F2 ∧ IM c2 F2 ∧ (F2 7 = Fn 7)) r u.1 u.2.1 u.2.2) (fun (u : (Nat → Nat) × (Nat → Int32) × (Nat → Nat → Int32)) (t : State) => va_P D vwCl (wM cI cB cZ g u.1 u.2.1 u.2.2) t.heap ∧ va_D A (wM cI cB cZ g u.1 u.2.1 u.2.2)) A) ([.ref (g 100), .int (nI d0), .int (nI n0), .int v2, .int v3]).toArray s 0 0 A) (F0 m 95 ls []) := by
                    intro n95
                    induction n95 with
                    | zero => intros; (first | omega | (have zz0 := Hid.u hi_cn; have zz1 := Hid.u hi_cn14; have zz2 := Hid.u hq_cn14; omega))
                    | succ n95 ih95 =>
                      intro i95 F95 H locs hmu95 hinv95 hP hD hS ls hl
                      obtain ⟨hr95, hfr95, hI95, hx95_0, hx95_1, hx95_2⟩ := hinv95
                      have ti95 : (nI i95).toInt = (i95 : Int) := nI_toInt (by (first | omega | (have zz0 := Hid.u hi_cn; have zz1 := Hid.u hi_cn14; have zz2 := Hid.u hq_cn14; omega)))
                      have hi_cn14 : Hid (CB cn14) := hI95.b
                      have hq_cn14 := Hid.i (frq_44_0_1_2_46_57_58_62_63_75_83 hfr95)
                      refine lv_iload hx hb (oc_21 95 (aq_22 shX12_nights_73) ub_6) (lvA0 hl) ?_
                      refine lv_aload_n hx hb (oc_42 97 shX12_nights_97) rfl (lvA2 hl) ?_
                      refine gM_204 S hK hP (v := .int (nI (cn14 1))) rfl (oc_180 98 (aq_1 shX12_nights_97) uw_0_204) ?_
                      have : (nI (cn14 1)).toInt = (((cn14 1) : Nat) : Int) := nI_toInt (by (first | omega | (have zz0 := Hid.u hi_cn; have zz1 := Hid.u hi_cn14; have zz2 := Hid.u hq_cn14; omega)))
                      refine lv_icmp_ge (tgt := 124) hx hb (oc_162 101 (aq_4 shX12_nights_97) sgw_0_23) rfl (fun c_15 => ?_) (fun c_15 => ?_)
                      ·
                        have tc_15 : ((nI (cn14 1)).toInt : Int) ≤ (nI i95).toInt := Int32.le_iff_toInt_le.mp c_15
                        have h7n : F95 7 = Fn 7 := funext (fun k => if q : k < cn 1 then hx95_0 k (by (first | omega | (have zz0 := Hid.u hi_cn; have zz1 := Hid.u hi_cn14; have zz2 := Hid.u hq_cn14; omega))) else hx95_1 k (by (first | omega | (have zz0 := Hid.u hi_cn; have zz1 := Hid.u hi_cn14; have zz2 := Hid.u hq_cn14; omega))))
                        refine lv_iload hx hb (oc_21 124 (aq_3 shX12_nights_121) ub_5) (lvA1 hl) ?_
                        refine lv_if_ne (tgt := 134) hx hb (oc_154 126 (aq_5 shX12_nights_121) sgw_0_8) rfl (fun c_16 => ?_) (fun c_16 => ?_)
                        ·
                          have tc_16 : (r_13.toInt : Int) ≠ 0 := fun q => c_16 (Int32.toInt_inj.mp q)
                          refine lv_iload hx hb (oc_21 134 (aq_13 shX12_nights_121) ub_4) (lvA6 hl) ?_
                          refine lv_if_ne (tgt := 146) hx hb (oc_154 136 (aq_15 shX12_nights_121) sgw_0_10) rfl (fun c_17 => ?_) (fun c_17 => ?_)
                          ·
                            have tc_17 : (v3.toInt : Int) ≠ 0 := fun q => c_17 (Int32.toInt_inj.mp q)
                            refine lv_iload hx hb (oc_21 146 shX12_nights_146 ub_4) (lvA6 hl) ?_
                            refine lv_iconst (v := 1) hx hb (oc_4 148 (aq_2 shX12_nights_146)) kic_1 ?_
                            refine lv_icmp_ne (tgt := 159) hx hb (oc_160 149 (aq_3 shX12_nights_146) sgw_0_10) rfl (fun c_18 => ?_) (fun c_18 => ?_)
                            ·
                              have tc_18 : (v3.toInt : Int) ≠ 1 := fun q => c_18 (Int32.toInt_inj.mp q)
                              refine lv_aload_n hx hb (oc_42 159 (aq_13 shX12_nights_146)) rfl (lvA2 hl) ?_
                              refine gM_401 S hK hP (v := .int (In14 56)) rfl (oc_180 160 (aq_14 shX12_nights_146) uw_1_145) ?_
                              exact W.iret (v := (In14 56)) hx hb hr (fun t ht hW => ⟨⟨(In14 56), (cn14, In14, F95), rfl, ⟨(Fr.mo hfr95 (sbl rfl) (sbl rfl) (sbl rfl)), hI95, (by show F95 7 = Fn 7; first | rfl | exact h7n)⟩, by rw [ht]; exact hP, hD⟩, hS.F ht⟩) hS.2.2 dX12_nights_163
                            ·
                              have tc_18 : (v3.toInt : Int) = 1 := congrArg Int32.toInt c_18
                              refine lv_aload_n hx hb (oc_42 152 (aq_6 shX12_nights_146)) rfl (lvA2 hl) ?_
                              refine gM_398 S hK hP (v := .int (In14 55)) rfl (oc_180 153 (aq_7 shX12_nights_146) uw_1_142) ?_
                              refine lv_goto (tgt := 163) hx hb (oc_167 156 (aq_10 shX12_nights_146) sgw_0_7) rfl ?_
                              exact W.iret (v := (In14 55)) hx hb hr (fun t ht hW => ⟨⟨(In14 55), (cn14, In14, F95), rfl, ⟨(Fr.mo hfr95 (sbl rfl) (sbl rfl) (sbl rfl)), hI95, (by show F95 7 = Fn 7; first | rfl | exact h7n)⟩, by rw [ht]; exact hP, hD⟩, hS.F ht⟩) hS.2.2 dX12_nights_163
                          ·
                            have tc_17 : (v3.toInt : Int) = 0 := congrArg Int32.toInt c_17
                            refine lv_aload_n hx hb (oc_42 139 (aq_18 shX12_nights_121)) rfl (lvA2 hl) ?_
                            refine gM_395 S hK hP (v := .int (In14 54)) rfl (oc_180 140 (aq_19 shX12_nights_121) uw_1_139) ?_
                            refine lv_goto (tgt := 163) hx hb (oc_167 143 (aq_22 shX12_nights_121) sgw_0_20) rfl ?_
                            exact W.iret (v := (In14 54)) hx hb hr (fun t ht hW => ⟨⟨(In14 54), (cn14, In14, F95), rfl, ⟨(Fr.mo hfr95 (sbl rfl) (sbl rfl) (sbl rfl)), hI95, (by show F95 7 = Fn 7; first | rfl | exact h7n)⟩, by rw [ht]; exact hP, hD⟩, hS.F ht⟩) hS.2.2 dX12_nights_163
                        ·
                          have tc_16 : (r_13.toInt : Int) = 0 := congrArg Int32.toInt c_16
                          refine lv_bipush (v := (-2)) hx hb (oc_16 129 (aq_8 shX12_nights_121) sgb_254) kbc_m2 ?_
                          refine lv_goto (tgt := 163) hx hb (oc_167 131 (aq_10 shX12_nights_121) sgw_0_32) rfl ?_
                          exact W.iret (v := (-2)) hx hb hr (fun t ht hW => ⟨⟨(-2), (cn14, In14, F95), rfl, ⟨(Fr.mo hfr95 (sbl rfl) (sbl rfl) (sbl rfl)), hI95, (by show F95 7 = Fn 7; first | rfl | exact h7n)⟩, by rw [ht]; exact hP, hD⟩, hS.F ht⟩) hS.2.2 dX12_nights_163
                      ·
                        have tc_15 : ((nI i95).toInt : Int) < (nI (cn14 1)).toInt := Int32.lt_iff_toInt_lt.mp (Int32.not_le.mp c_15)
                        refine lv_aload_n hx hb (oc_42 104 (aq_7 shX12_nights_97)) rfl (lvA2 hl) ?_
                        refine gM_22 S hK hP (v := .ref (g 7)) rfl (oc_180 105 (aq_8 shX12_nights_97) uw_0_22) ?_
                        refine lv_iload hx hb (oc_21 108 (aq_11 shX12_nights_97) ub_6) (lvA0 hl) ?_
                        refine lv_aload_n hx hb (oc_42 110 (aq_13 shX12_nights_97)) rfl (lvA2 hl) ?_
                        refine gM_122 S hK hP (v := .ref (g 52)) rfl (oc_180 111 (aq_14 shX12_nights_97) uw_0_122) ?_
                        refine lv_iload hx hb (oc_21 114 (aq_17 shX12_nights_97) ub_6) (lvA0 hl) ?_
                        have kb_1 : i95 < 10 := by (first | omega | (have zz0 := Hid.u hi_cn; have zz1 := Hid.u hi_cn14; have zz2 := Hid.u hq_cn14; omega))
                        refine ldM_52 hx hb hK hP (x := ((F95 52) i95)) (vp_in_nI kb_1 (ltb rfl)) (nI_clamp (Nat.lt_trans kb_1 (ltb rfl))) rfl (oc_46 116 (aq_19 shX12_nights_97)) ?_
                        refine stM_7 hx hb hK hP hD hS (Fn2 := (va_up F95 7 (upd (F95 7) i95 ((F95 52) i95)))) (vp_in_nI kb_1 (ltb rfl)) (nI_clamp (Nat.lt_trans kb_1 (ltb rfl))) rfl (oc_79 117 (aq_20 shX12_nights_97)) (fun H locs hP hD hS => ?_)
                        refine lv_iinc (v := (nI (i95 + 1))) (lv' := [(6, .int (nI (i95 + 1))), (5, .int r_13), (0, .ref (g 100)), (1, .int (nI d0)), (2, .int (nI n0)), (3, .int v2), (4, .int v3)]) hx hb (oc_132 118 (aq_21 shX12_nights_97) ub_6 sgb_1) hl (k := 0) rfl (nI_1 _) (ltb rfl) rfl (fun ls hl => ?_)
                        refine lv_goto (tgt := 95) hx hb (oc_167 121 shX12_nights_121 sgw_255_230) rfl ?_
                        exact ih95 (i95 + 1) (va_up F95 7 (upd (F95 7) i95 ((F95 52) i95))) _ _ (by (first | omega | (have zz0 := Hid.u hi_cn; have zz1 := Hid.u hi_cn14; have zz2 := Hid.u hq_cn14; omega))) ⟨(by (first | omega | (have zz0 := Hid.u hi_cn; have zz1 := Hid.u hi_cn14; have zz2 := Hid.u hq_cn14; omega))), (Fr.mo (Fr.f 7 hfr95) (sbl rfl) (sbl rfl) (sbl rfl)), (IM.e7up hI95 (by rw [hx95_2 i95 (by (first | omega | (have zz0 := Hid.u hi_cn; have zz1 := Hid.u hi_cn14; have zz2 := Hid.u hq_cn14; omega)))]; exact (hI.e7 i95 (by (first | omega | (have zz0 := Hid.u hi_cn; have zz1 := Hid.u hi_cn14; have zz2 := Hid.u hq_cn14; omega)))).1) (by rw [hx95_2 i95 (by (first | omega | (have zz0 := Hid.u hi_cn; have zz1 := Hid.u hi_cn14; have zz2 := Hid.u hq_cn14; omega)))]; exact (hI.e7 i95 (by (first | omega | (have zz0 := Hid.u hi_cn; have zz1 := Hid.u hi_cn14; have zz2 := Hid.u hq_cn14; omega)))).2)), (fun k hk => upd_copy hx95_0 (hx95_2 i95 (by (first | omega | (have zz0 := Hid.u hi_cn; have zz1 := Hid.u hi_cn14; have zz2 := Hid.u hq_cn14; omega)))) hk), (fun k hk => upd_keep (b := cn 1) hx95_1 (by (first | omega | (have zz0 := Hid.u hi_cn; have zz1 := Hid.u hi_cn14; have zz2 := Hid.u hq_cn14; omega))) hk), hx95_2⟩ hP hD hS ls (lv_sub hl [0, 1, 2, 3, 4, 5, 6] rfl)
                  exact lp_95 _ 0 Fn14 _ _ (Nat.lt_succ_self _) ⟨(by (first | omega | (have zz0 := Hid.u hi_cn; have zz1 := Hid.u hi_cn14; have zz2 := Hid.u hq_cn14; omega))), (Fr.mo hf14 (sbl rfl) (sbl rfl) (sbl rfl)), hIn14, (fun k hk => absurd hk (Nat.not_lt_zero k)), hn1, hn2⟩ hP hD hS ls (lv_sub hl [0, 1, 2, 3, 4, 5, 6] rfl)
                ·
                  have tc_12 : ((nI i54).toInt : Int) < (nI (cn 1)).toInt := Int32.lt_iff_toInt_lt.mp (Int32.not_le.mp c_12)
                  refine lv_aload_n hx hb (oc_42 63 (aq_14 shX12_nights_49)) rfl (lvA1 hl) ?_
                  refine gM_122 S hK hP (v := .ref (g 52)) rfl (oc_180 64 (aq_15 shX12_nights_49) uw_0_122) ?_
                  refine lv_iload hx hb (oc_21 67 (aq_18 shX12_nights_49) ub_5) (lvA0 hl) ?_
                  refine lv_aload_n hx hb (oc_42 69 (aq_20 shX12_nights_49)) rfl (lvA1 hl) ?_
                  refine gM_22 S hK hP (v := .ref (g 7)) rfl (oc_180 70 (aq_21 shX12_nights_49) uw_0_22) ?_
                  refine lv_iload hx hb (oc_21 73 shX12_nights_73 ub_5) (lvA0 hl) ?_
                  have kb_2 : i54 < 10 := by (first | omega | (have zz0 := Hid.u hi_cn; omega))
                  have b_19 := hI54.e7 i54 (by (first | omega | (have zz0 := Hid.u hi_cn; omega)))
                  refine ldM_7 hx hb hK hP (x := ((F54 7) i54)) (vp_in_nI kb_2 (ltb rfl)) (nI_clamp (Nat.lt_trans kb_2 (ltb rfl))) rfl (oc_46 75 (aq_2 shX12_nights_73)) ?_
                  refine stM_52 hx hb hK hP hD hS (Fn2 := (va_up F54 52 (upd (F54 52) i54 ((F54 7) i54)))) (vp_in_nI kb_2 (ltb rfl)) (nI_clamp (Nat.lt_trans kb_2 (ltb rfl))) rfl (oc_79 76 (aq_3 shX12_nights_73)) (fun H locs hP hD hS => ?_)
                  refine lv_iinc (v := (nI (i54 + 1))) (lv' := [(5, .int (nI (i54 + 1))), (0, .ref (g 100)), (1, .int (nI d0)), (2, .int (nI n0)), (3, .int v2), (4, .int v3)]) hx hb (oc_132 77 (aq_4 shX12_nights_73) ub_5 sgb_1) hl (k := 0) rfl (nI_1 _) (ltb rfl) rfl (fun ls hl => ?_)
                  refine lv_goto (tgt := 54) hx hb (oc_167 80 (aq_7 shX12_nights_73) sgw_255_230) rfl ?_
                  exact ih54 (i54 + 1) (va_up F54 52 (upd (F54 52) i54 ((F54 7) i54))) _ _ (by (first | omega | (have zz0 := Hid.u hi_cn; omega))) ⟨(by (first | omega | (have zz0 := Hid.u hi_cn; omega))), (Fr.mo (Fr.f 52 hfr54) (sbl rfl) (sbl rfl) (sbl rfl)), (IM.fr (In := In) hI54 (Fr.f 52 Fr.rf) (by decide) (by decide)), (fun k hk => upd_copy hx54_0 (congrFun hx54_1 i54) hk), hx54_1⟩ hP hD hS ls (lv_sub hl [0, 1, 2, 3, 4, 5] rfl)
            exact lp_54 _ 0 Fn _ _ (Nat.lt_succ_self _) ⟨(by (first | omega | (have zz0 := Hid.u hi_cn; omega))), (Fr.mo Fr.rf (sbl rfl) (sbl rfl) (sbl rfl)), hI, (fun k hk => absurd hk (Nat.not_lt_zero k)), rfl⟩ hP hD hS ls (lv_sub hl [0, 1, 2, 3, 4, 5] rfl)
          ·
            have h_11 : ¬ (0 ≤ v3.toInt ∧ v3.toInt ≤ 2) := h_11
            refine lv_if_ne (tgt := 51) hx hb dX12_nights_46 rfl (fun h => absurd h cq_eq_0_0) (fun _ => ?_)
            refine lv_iconst (v := (-1)) hx hb dX12_nights_49 kic_m1 ?_
            exact W.iret (v := (-1)) hx hb hr (fun t ht hW => ⟨⟨(-1), (cn, In, Fn), rfl, ⟨(Fr.mo Fr.rf (sbl rfl) (sbl rfl) (sbl rfl)), hI, (by show Fn 7 = Fn 7; first | rfl | exact h7n)⟩, by rw [ht]; exact hP, hD⟩, hS.F ht⟩) hS.2.2 dX12_nights_50
        ·
          have h_9 : ¬ (1 ≤ v2.toInt ∧ v2.toInt ≤ 400) := h_9
          refine lv_if_eq (tgt := 49) hx hb dX12_nights_36 rfl (fun _ => ?_) (fun h => absurd h cq_eq_0_0)
          refine lv_iconst (v := (-1)) hx hb dX12_nights_49 kic_m1 ?_
          exact W.iret (v := (-1)) hx hb hr (fun t ht hW => ⟨⟨(-1), (cn, In, Fn), rfl, ⟨(Fr.mo Fr.rf (sbl rfl) (sbl rfl) (sbl rfl)), hI, (by show Fn 7 = Fn 7; first | rfl | exact h7n)⟩, by rw [ht]; exact hP, hD⟩, hS.F ht⟩) hS.2.2 dX12_nights_50
    ·
      have h_4 : ¬ (1 ≤ v1.toInt ∧ v1.toInt ≤ 7) := h_4
      refine lv_if_eq (tgt := 49) hx hb dX12_nights_14 rfl (fun _ => ?_) (fun h => absurd h cq_eq_0_0)
      refine lv_iconst (v := (-1)) hx hb dX12_nights_49 kic_m1 ?_
      exact W.iret (v := (-1)) hx hb hr (fun t ht hW => ⟨⟨(-1), (cn, In, Fn), rfl, ⟨(Fr.mo Fr.rf (sbl rfl) (sbl rfl) (sbl rfl)), hI, (by show Fn 7 = Fn 7; first | rfl | exact h7n)⟩, by rw [ht]; exact hP, hD⟩, hS.F ht⟩) hS.2.2 dX12_nights_50
  ·
    have h_2 : ¬ (0 ≤ v0.toInt ∧ v0.toInt ≤ 399) := h_2
    refine lv_if_eq (tgt := 49) hx hb dX12_nights_4 rfl (fun _ => ?_) (fun h => absurd h cq_eq_0_0)
    refine lv_iconst (v := (-1)) hx hb dX12_nights_49 kic_m1 ?_
    exact W.iret (v := (-1)) hx hb hr (fun t ht hW => ⟨⟨(-1), (cn, In, Fn), rfl, ⟨(Fr.mo Fr.rf (sbl rfl) (sbl rfl) (sbl rfl)), hI, (by show Fn 7 = Fn 7; first | rfl | exact h7n)⟩, by rw [ht]; exact hP, hD⟩, hS.F ht⟩) hS.2.2 dX12_nights_50
set_option maxRecDepth 100000 in
set_option maxHeartbeats 4000000 in
theorem q_mixes (l : Launch) (D : va_G) (cI cB cZ : ClassId) (g : Nat → Nat) (cn : Nat → Nat) (In : Nat → Int32) (Fn : Nat → Nat → Int32) (v0 : Int32) (sz : Nat) (hI : IM cn Fn) : Met l yX12_mixes (CWS yX12_mixes cX12_mixes 5 none) (RM 0 0 0) (PBw [.ref (g 100), .int v0] D cI cB cZ (wM cI cB cZ g cn In Fn) sz) (va_Qv (fun (u : (Nat → Nat) × (Nat → Int32) × (Nat → Nat → Int32)) => (fun c2 I2 F2 => Fr [] [71, 72, 73] [] cn In Fn c2 I2 F2 ∧ IM c2 F2 ∧ (I2 71 = nI (mixN (Fn 10) v0 20))) u.1 u.2.1 u.2.2) (fun (u : (Nat → Nat) × (Nat → Int32) × (Nat → Nat → Int32)) (t : State) => va_P D vwCl (wM cI cB cZ g u.1 u.2.1 u.2.2) t.heap ∧ va_D (va_A (wM cI cB cZ g cn In Fn) sz) (wM cI cB cZ g u.1 u.2.1 u.2.2)) (va_A (wM cI cB cZ g cn In Fn) sz)) 0 0 (va_A (wM cI cB cZ g cn In Fn) sz) := by
  refine en_w (fun A => (va_Qv (fun (u : (Nat → Nat) × (Nat → Int32) × (Nat → Nat → Int32)) => (fun (c2 : Nat → Nat) (I2 : Nat → Int32) (F2 : Nat → Nat → Int32) => Fr [] [71, 72, 73] [] cn In Fn c2 I2 F2 ∧ IM c2 F2 ∧ (I2 71 = nI (mixN (Fn 10) v0 20))) u.1 u.2.1 u.2.2) (fun (u : (Nat → Nat) × (Nat → Int32) × (Nat → Nat → Int32)) (t : State) => va_P D vwCl (wM cI cB cZ g u.1 u.2.1 u.2.2) t.heap ∧ va_D A (wM cI cB cZ g u.1 u.2.1 u.2.2)) A)) rfl rfl pn_RX12 (Nat.le_of_ble_eq_true rfl) (fun p e s m below meth c A hx hb hml hown S hr hlocks hnm hA hP hK hD hS ls hl => ?_)
  have hl : lv_has ls 5 [(0, .ref (g 100)), (1, .int v0)] := hl
  have hi_cn : Hid (CB cn) := hI.b
  refine lv_iconst (v := 0) hx hb (oc_3 0 shX12_mixes_0) kic_0 ?_
  refine lv_istore_n (lv' := [(2, .int 0), (0, .ref (g 100)), (1, .int v0)]) hx hb (oc_61 1 (aq_1 shX12_mixes_0)) rfl hl (ltb rfl) rfl (fun ls hl => ?_)
  refine lv_iconst (v := 0) hx hb (oc_3 2 (aq_2 shX12_mixes_0)) kic_0 ?_
  refine lv_istore_n (lv' := [(3, .int 0), (2, .int 0), (0, .ref (g 100)), (1, .int v0)]) hx hb (oc_62 3 (aq_3 shX12_mixes_0)) rfl hl (ltb rfl) rfl (fun ls hl => ?_)
  refine lv_aload_n hx hb (oc_42 4 (aq_4 shX12_mixes_0)) rfl (lvA2 hl) ?_
  refine lv_iconst (v := 0) hx hb (oc_3 5 (aq_5 shX12_mixes_0)) kic_0 ?_
  refine pM_419 S hK hP hD hS (In2 := (va_up In 71 0)) rfl (oc_181 6 (aq_6 shX12_mixes_0) uw_1_163) (fun H locs hP hD hS => ?_)
  refine lv_iconst (v := 0) hx hb (oc_3 9 (aq_9 shX12_mixes_0)) kic_0 ?_
  refine lv_istore (lv' := [(4, .int 0), (3, .int 0), (2, .int 0), (0, .ref (g 100)), (1, .int v0)]) hx hb (oc_54 10 (aq_10 shX12_mixes_0) ub_4) hl (ltb rfl) rfl (fun ls hl => ?_)
  have lp_12 : ∀ (n : Nat) (i12 : Nat) (x12_2 : Int32) (x12_3 : Int32) (I12 : Nat → Int32) (H : Heap) (locs : List Loc) , 20 - i12 < n → (i12 ≤ 20 ∧ Fr [] [71, 72, 73] [] cn In Fn cn I12 Fn ∧ IM cn Fn ∧ (I12 71 = nI (mixN (Fn 10) v0 i12))) → va_P D vwCl (wM cI cB cZ g cn I12 Fn) H → va_D A (wM cI cB cZ g cn I12 Fn) → va_S A s.heap H locs → ∀ ls : Array Slot, lv_has ls 5 [(4, .int (nI i12)), (3, .int x12_3), (2, .int x12_2), (0, .ref (g 100)), (1, .int v0)] → W p l e (RM 0 0 0) s m ([.ref (g 100), .int v0]).toArray below meth c H locs 0 0 (MQ below (va_Qv (fun (u : (Nat → Nat) × (Nat → Int32) × (Nat → Nat → Int32)) => (fun c2 I2 F2 => Fr [] [71, 72, 73] [] cn In Fn c2 I2 F2 ∧ IM c2 F2 ∧ (I2 71 = nI (mixN (Fn 10) v0 20))) u.1 u.2.1 u.2.2) (fun (u : (Nat → Nat) × (Nat → Int32) × (Nat → Nat → Int32)) (t : State) => va_P D vwCl (wM cI cB cZ g u.1 u.2.1 u.2.2) t.heap ∧ va_D A (wM cI cB cZ g u.1 u.2.1 u.2.2)) A) ([.ref (g 100), .int v0]).toArray s 0 0 A) (F0 m 12 ls []) := by
    intro n12
    induction n12 with
    | zero => intros; (first | omega | (have zz0 := Hid.u hi_cn; omega))
    | succ n12 ih12 =>
      intro i12 x12_2 x12_3 I12 H locs hmu12 hinv12 hP hD hS ls hl
      obtain ⟨hr12, hfr12, hI12, hx12_0⟩ := hinv12
      have ti12 : (nI i12).toInt = (i12 : Int) := nI_toInt (by (first | omega | (have zz0 := Hid.u hi_cn; omega)))
      have hi_cn : Hid (CB cn) := hI12.b
      refine lv_iload hx hb (oc_21 12 (aq_12 shX12_mixes_0) ub_4) (lvA0 hl) ?_
      refine lv_bipush (v := 20) hx hb (oc_16 14 (aq_14 shX12_mixes_0) sgb_20) kbc_20 ?_
      refine lv_icmp_ge (tgt := 89) hx hb (oc_162 16 (aq_16 shX12_mixes_0) sgw_0_73) rfl (fun c_1 => ?_) (fun c_1 => ?_)
      ·
        have tc_1 : (20 : Int) ≤ (nI i12).toInt := Int32.le_iff_toInt_le.mp c_1
        refine lv_aload_n hx hb (oc_42 89 (aq_17 shX12_mixes_72)) rfl (lvA3 hl) ?_
        refine lv_aload_n hx hb (oc_42 90 (aq_18 shX12_mixes_72)) rfl (lvA3 hl) ?_
        refine gM_419 S hK hP (v := .int (I12 71)) rfl (oc_180 91 (aq_19 shX12_mixes_72) uw_1_163) ?_
        refine lv_if_ne (tgt := 101) hx hb (oc_154 94 (aq_22 shX12_mixes_72) sgw_0_7) rfl (fun c_2 => ?_) (fun c_2 => ?_)
        ·
          have tc_2 : ((I12 71).toInt : Int) ≠ 0 := fun q => c_2 (Int32.toInt_inj.mp q)
          refine lv_iload_n hx hb (oc_28 101 (aq_4 shX12_mixes_97)) rfl (lvA2 hl) ?_
          refine lv_aload_n hx hb (oc_42 102 (aq_5 shX12_mixes_97)) rfl (lvA3 hl) ?_
          refine gM_419 S hK hP (v := .int (I12 71)) rfl (oc_180 103 (aq_6 shX12_mixes_97) uw_1_163) ?_
          refine lv_idiv hx hb (oc_108 106 (aq_9 shX12_mixes_97)) (by assumption) ?_
          refine pM_422 S hK hP hD hS (In2 := (va_up I12 72 (x12_2 / (I12 71)))) rfl (oc_181 107 (aq_10 shX12_mixes_97) uw_1_166) (fun H locs hP hD hS => ?_)
          refine lv_aload_n hx hb (oc_42 110 (aq_13 shX12_mixes_97)) rfl (lvA3 hl) ?_
          refine lv_aload_n hx hb (oc_42 111 (aq_14 shX12_mixes_97)) rfl (lvA3 hl) ?_
          refine gM_419 S hK hP (v := .int (I12 71)) rfl (oc_180 112 (aq_15 shX12_mixes_97) uw_1_163) ?_
          refine lv_if_ne (tgt := 122) hx hb (oc_154 115 (aq_18 shX12_mixes_97) sgw_0_7) rfl (fun c_3 => ?_) (fun c_3 => ?_)
          ·
            have tc_3 : ((I12 71).toInt : Int) ≠ 0 := fun q => c_3 (Int32.toInt_inj.mp q)
            refine lv_iload_n hx hb (oc_29 122 shX12_mixes_122) rfl (lvA1 hl) ?_
            refine lv_aload_n hx hb (oc_42 123 (aq_1 shX12_mixes_122)) rfl (lvA3 hl) ?_
            refine gM_419 S hK hP (v := .int (I12 71)) rfl (oc_180 124 (aq_2 shX12_mixes_122) uw_1_163) ?_
            refine lv_idiv hx hb (oc_108 127 (aq_5 shX12_mixes_122)) (by assumption) ?_
            refine pM_425 S hK hP hD hS (In2 := (va_up (va_up I12 72 (x12_2 / (I12 71))) 73 (x12_3 / (I12 71)))) rfl (oc_181 128 (aq_6 shX12_mixes_122) uw_1_169) (fun H locs hP hD hS => ?_)
            exact W.vret hx hb hr (fun t ht hW => ⟨⟨(cn, (va_up (va_up I12 72 (x12_2 / (I12 71))) 73 (x12_3 / (I12 71))), Fn), rfl, ⟨(Fr.mo (Fr.i 73 (Fr.i 72 hfr12)) (sbl rfl) (sbl rfl) (sbl rfl)), hI12, (by show (va_up (va_up I12 72 (x12_2 / (I12 71))) 73 (x12_3 / (I12 71))) 71 = nI (mixN (Fn 10) v0 20); rw [show (20 : Nat) = i12 by (first | omega | (have zz0 := Hid.u hi_cn; omega))]; exact hx12_0)⟩, by rw [ht]; exact hP, hD⟩, hS.F ht⟩) hS.2.2 (oc_177 131 (aq_9 shX12_mixes_122))
          ·
            have tc_3 : ((I12 71).toInt : Int) = 0 := congrArg Int32.toInt c_3
            refine lv_iconst (v := 0) hx hb (oc_3 118 (aq_21 shX12_mixes_97)) kic_0 ?_
            refine lv_goto (tgt := 128) hx hb (oc_167 119 (aq_22 shX12_mixes_97) sgw_0_9) rfl ?_
            refine pM_425 S hK hP hD hS (In2 := (va_up (va_up I12 72 (x12_2 / (I12 71))) 73 0)) rfl (oc_181 128 (aq_6 shX12_mixes_122) uw_1_169) (fun H locs hP hD hS => ?_)
            exact W.vret hx hb hr (fun t ht hW => ⟨⟨(cn, (va_up (va_up I12 72 (x12_2 / (I12 71))) 73 0), Fn), rfl, ⟨(Fr.mo (Fr.i 73 (Fr.i 72 hfr12)) (sbl rfl) (sbl rfl) (sbl rfl)), hI12, (by show (va_up (va_up I12 72 (x12_2 / (I12 71))) 73 0) 71 = nI (mixN (Fn 10) v0 20); rw [show (20 : Nat) = i12 by (first | omega | (have zz0 := Hid.u hi_cn; omega))]; exact hx12_0)⟩, by rw [ht]; exact hP, hD⟩, hS.F ht⟩) hS.2.2 (oc_177 131 (aq_9 shX12_mixes_122))
        ·
          have tc_2 : ((I12 71).toInt : Int) = 0 := congrArg Int32.toInt c_2
          refine lv_iconst (v := 0) hx hb (oc_3 97 shX12_mixes_97) kic_0 ?_
          refine lv_goto (tgt := 107) hx hb (oc_167 98 (aq_1 shX12_mixes_97) sgw_0_9) rfl ?_
          refine pM_422 S hK hP hD hS (In2 := (va_up I12 72 0)) rfl (oc_181 107 (aq_10 shX12_mixes_97) uw_1_166) (fun H locs hP hD hS => ?_)
          refine lv_aload_n hx hb (oc_42 110 (aq_13 shX12_mixes_97)) rfl (lvA3 hl) ?_
          refine lv_aload_n hx hb (oc_42 111 (aq_14 shX12_mixes_97)) rfl (lvA3 hl) ?_
          refine gM_419 S hK hP (v := .int (I12 71)) rfl (oc_180 112 (aq_15 shX12_mixes_97) uw_1_163) ?_
          refine lv_if_ne (tgt := 122) hx hb (oc_154 115 (aq_18 shX12_mixes_97) sgw_0_7) rfl (fun c_4 => False.elim (by have tc_4 : ((I12 71).toInt : Int) ≠ 0 := fun q => c_4 (Int32.toInt_inj.mp q); (first | omega | (have zz0 := Hid.u hi_cn; omega)))) (fun c_4 => ?_)
          have tc_4 : ((I12 71).toInt : Int) = 0 := congrArg Int32.toInt c_4
          refine lv_iconst (v := 0) hx hb (oc_3 118 (aq_21 shX12_mixes_97)) kic_0 ?_
          refine lv_goto (tgt := 128) hx hb (oc_167 119 (aq_22 shX12_mixes_97) sgw_0_9) rfl ?_
          refine pM_425 S hK hP hD hS (In2 := (va_up (va_up I12 72 0) 73 0)) rfl (oc_181 128 (aq_6 shX12_mixes_122) uw_1_169) (fun H locs hP hD hS => ?_)
          exact W.vret hx hb hr (fun t ht hW => ⟨⟨(cn, (va_up (va_up I12 72 0) 73 0), Fn), rfl, ⟨(Fr.mo (Fr.i 73 (Fr.i 72 hfr12)) (sbl rfl) (sbl rfl) (sbl rfl)), hI12, (by show (va_up (va_up I12 72 0) 73 0) 71 = nI (mixN (Fn 10) v0 20); rw [show (20 : Nat) = i12 by (first | omega | (have zz0 := Hid.u hi_cn; omega))]; exact hx12_0)⟩, by rw [ht]; exact hP, hD⟩, hS.F ht⟩) hS.2.2 (oc_177 131 (aq_9 shX12_mixes_122))
      ·
        have tc_1 : ((nI i12).toInt : Int) < 20 := Int32.lt_iff_toInt_lt.mp (Int32.not_le.mp c_1)
        refine lv_iload_n hx hb (oc_27 19 (aq_19 shX12_mixes_0)) rfl (lvA4 hl) ?_
        refine lv_iload hx hb (oc_21 20 (aq_20 shX12_mixes_0) ub_4) (lvA0 hl) ?_
        refine lv_ishr hx hb (oc_122 22 (aq_22 shX12_mixes_0)) ?_
        refine lv_iconst (v := 1) hx hb (oc_4 23 (aq_23 shX12_mixes_0)) kic_1 ?_
        refine lv_iand hx hb (oc_126 24 shX12_mixes_24) ?_
        refine lv_if_ne (tgt := 31) hx hb (oc_154 25 (aq_1 shX12_mixes_24) sgw_0_6) rfl (fun c_5 => ?_) (fun c_5 => ?_)
        ·
          have tc_5 : (((v0 >>> ((nI i12) &&& 31)) &&& 1).toInt : Int) ≠ 0 := fun q => c_5 (Int32.toInt_inj.mp q)
          refine lv_aload_n hx hb (oc_42 31 (aq_7 shX12_mixes_24)) rfl (lvA3 hl) ?_
          refine lv_aload_n hx hb (oc_42 32 (aq_8 shX12_mixes_24)) rfl (lvA3 hl) ?_
          refine gM_419 S hK hP (v := .int (I12 71)) rfl (oc_180 33 (aq_9 shX12_mixes_24) uw_1_163) ?_
          refine lv_aload_n hx hb (oc_42 36 (aq_12 shX12_mixes_24)) rfl (lvA3 hl) ?_
          refine gM_31 S hK hP (v := .ref (g 10)) rfl (oc_180 37 (aq_13 shX12_mixes_24) uw_0_31) ?_
          refine lv_iload hx hb (oc_21 40 (aq_16 shX12_mixes_24) ub_4) (lvA0 hl) ?_
          have kb_1 : i12 < 60 := by (first | omega | (have zz0 := Hid.u hi_cn; omega))
          obtain ⟨a_6, ha_6, ea_6⟩ := hI12.e10 i12 (by (first | omega | (have zz0 := Hid.u hi_cn; omega)))
          refine ldM_10 hx hb hK hP (x := (nI a_6)) (vp_in_nI kb_1 (ltb rfl)) (nI_clamp (Nat.lt_trans kb_1 (ltb rfl))) ea_6 (oc_46 42 (aq_18 shX12_mixes_24)) ?_
          refine lv_iadd hx hb (oc_96 43 (aq_19 shX12_mixes_24)) ?_
          refine lv_topi (fun y_7 ey_7 => ?_)
          obtain rfl : y_7 = (nI (mixN (Fn 10) v0 i12 + a_6)) := ey_7.trans (by rw [hx12_0, nI_add])
          refine pM_419 S hK hP hD hS (In2 := (va_up I12 71 (nI (mixN (Fn 10) v0 i12 + a_6)))) rfl (oc_181 44 (aq_20 shX12_mixes_24) uw_1_163) (fun H locs hP hD hS => ?_)
          refine lv_iload_n hx hb (oc_28 47 (aq_23 shX12_mixes_24)) rfl (lvA2 hl) ?_
          refine lv_aload_n hx hb (oc_42 48 shX12_mixes_48) rfl (lvA3 hl) ?_
          refine gM_31 S hK hP (v := .ref (g 10)) rfl (oc_180 49 (aq_1 shX12_mixes_48) uw_0_31) ?_
          refine lv_iload hx hb (oc_21 52 (aq_4 shX12_mixes_48) ub_4) (lvA0 hl) ?_
          refine ldM_10 hx hb hK hP (x := (nI a_6)) (vp_in_nI kb_1 (ltb rfl)) (nI_clamp (Nat.lt_trans kb_1 (ltb rfl))) ea_6 (oc_46 54 (aq_6 shX12_mixes_48)) ?_
          refine lv_aload_n hx hb (oc_42 55 (aq_7 shX12_mixes_48)) rfl (lvA3 hl) ?_
          refine gM_34 S hK hP (v := .ref (g 11)) rfl (oc_180 56 (aq_8 shX12_mixes_48) uw_0_34) ?_
          refine lv_iload hx hb (oc_21 59 (aq_11 shX12_mixes_48) ub_4) (lvA0 hl) ?_
          refine ldM_11 hx hb hK hP (x := ((Fn 11) i12)) (vp_in_nI kb_1 (ltb rfl)) (nI_clamp (Nat.lt_trans kb_1 (ltb rfl))) rfl (oc_46 61 (aq_13 shX12_mixes_48)) ?_
          refine lv_imul hx hb (oc_104 62 (aq_14 shX12_mixes_48)) ?_
          refine lv_iadd hx hb (oc_96 63 (aq_15 shX12_mixes_48)) ?_
          refine lv_istore_n (lv' := [(2, .int (x12_2 + ((nI a_6) * ((Fn 11) i12)))), (4, .int (nI i12)), (3, .int x12_3), (0, .ref (g 100)), (1, .int v0)]) hx hb (oc_61 64 (aq_16 shX12_mixes_48)) rfl hl (ltb rfl) rfl (fun ls hl => ?_)
          refine lv_iload_n hx hb (oc_29 65 (aq_17 shX12_mixes_48)) rfl (lvA2 hl) ?_
          refine lv_aload_n hx hb (oc_42 66 (aq_18 shX12_mixes_48)) rfl (lvA3 hl) ?_
          refine gM_31 S hK hP (v := .ref (g 10)) rfl (oc_180 67 (aq_19 shX12_mixes_48) uw_0_31) ?_
          refine lv_iload hx hb (oc_21 70 (aq_22 shX12_mixes_48) ub_4) (lvA1 hl) ?_
          refine ldM_10 hx hb hK hP (x := (nI a_6)) (vp_in_nI kb_1 (ltb rfl)) (nI_clamp (Nat.lt_trans kb_1 (ltb rfl))) ea_6 (oc_46 72 shX12_mixes_72) ?_
          refine lv_aload_n hx hb (oc_42 73 (aq_1 shX12_mixes_72)) rfl (lvA3 hl) ?_
          refine gM_37 S hK hP (v := .ref (g 12)) rfl (oc_180 74 (aq_2 shX12_mixes_72) uw_0_37) ?_
          refine lv_iload hx hb (oc_21 77 (aq_5 shX12_mixes_72) ub_4) (lvA1 hl) ?_
          refine ldM_12 hx hb hK hP (x := ((Fn 12) i12)) (vp_in_nI kb_1 (ltb rfl)) (nI_clamp (Nat.lt_trans kb_1 (ltb rfl))) rfl (oc_46 79 (aq_7 shX12_mixes_72)) ?_
          refine lv_imul hx hb (oc_104 80 (aq_8 shX12_mixes_72)) ?_
          refine lv_iadd hx hb (oc_96 81 (aq_9 shX12_mixes_72)) ?_
          refine lv_istore_n (lv' := [(3, .int (x12_3 + ((nI a_6) * ((Fn 12) i12)))), (2, .int (x12_2 + ((nI a_6) * ((Fn 11) i12)))), (4, .int (nI i12)), (0, .ref (g 100)), (1, .int v0)]) hx hb (oc_62 82 (aq_10 shX12_mixes_72)) rfl hl (ltb rfl) rfl (fun ls hl => ?_)
          refine lv_iinc (v := (nI (i12 + 1))) (lv' := [(4, .int (nI (i12 + 1))), (3, .int (x12_3 + ((nI a_6) * ((Fn 12) i12)))), (2, .int (x12_2 + ((nI a_6) * ((Fn 11) i12)))), (0, .ref (g 100)), (1, .int v0)]) hx hb (oc_132 83 (aq_11 shX12_mixes_72) ub_4 sgb_1) hl (k := 2) rfl (nI_1 _) (ltb rfl) rfl (fun ls hl => ?_)
          refine lv_goto (tgt := 12) hx hb (oc_167 86 (aq_14 shX12_mixes_72) sgw_255_182) rfl ?_
          exact ih12 (i12 + 1) (x12_2 + ((nI a_6) * ((Fn 11) i12))) (x12_3 + ((nI a_6) * ((Fn 12) i12))) (va_up I12 71 (nI (mixN (Fn 10) v0 i12 + a_6))) _ _ (by (first | omega | (have zz0 := Hid.u hi_cn; omega))) ⟨(by (first | omega | (have zz0 := Hid.u hi_cn; omega))), (Fr.mo (Fr.i 71 hfr12) (sbl rfl) (sbl rfl) (sbl rfl)), hI12, (by show nI (mixN (Fn 10) v0 i12 + a_6) = _; exact congrArg nI (mixN_1 (by assumption) ea_6 (by (first | omega | (have zz0 := Hid.u hi_cn; omega)))).symm)⟩ hP hD hS ls (lv_sub hl [0, 1, 2, 3, 4] rfl)
        ·
          have tc_5 : (((v0 >>> ((nI i12) &&& 31)) &&& 1).toInt : Int) = 0 := congrArg Int32.toInt c_5
          refine lv_goto (tgt := 83) hx hb (oc_167 28 (aq_4 shX12_mixes_24) sgw_0_55) rfl ?_
          refine lv_iinc (v := (nI (i12 + 1))) (lv' := [(4, .int (nI (i12 + 1))), (3, .int x12_3), (2, .int x12_2), (0, .ref (g 100)), (1, .int v0)]) hx hb (oc_132 83 (aq_11 shX12_mixes_72) ub_4 sgb_1) hl (k := 0) rfl (nI_1 _) (ltb rfl) rfl (fun ls hl => ?_)
          refine lv_goto (tgt := 12) hx hb (oc_167 86 (aq_14 shX12_mixes_72) sgw_255_182) rfl ?_
          exact ih12 (i12 + 1) x12_2 x12_3 I12 _ _ (by (first | omega | (have zz0 := Hid.u hi_cn; omega))) ⟨(by (first | omega | (have zz0 := Hid.u hi_cn; omega))), (Fr.mo hfr12 (sbl rfl) (sbl rfl) (sbl rfl)), hI12, (hx12_0.trans (congrArg nI (mixN_0 (by assumption)).symm))⟩ hP hD hS ls (lv_sub hl [0, 1, 2, 3, 4] rfl)
  exact lp_12 _ 0 0 0 (va_up In 71 0) _ _ (Nat.lt_succ_self _) ⟨(by (first | omega | (have zz0 := Hid.u hi_cn; omega))), (Fr.mo (Fr.i 71 Fr.rf) (sbl rfl) (sbl rfl) (sbl rfl)), hI, rfl⟩ hP hD hS ls (lv_sub hl [0, 1, 2, 3, 4] rfl)
set_option maxRecDepth 100000 in
set_option maxHeartbeats 4000000 in
theorem q_litresOf (l : Launch) (D : va_G) (cI cB cZ : ClassId) (g : Nat → Nat) (cn : Nat → Nat) (In : Nat → Int32) (Fn : Nat → Nat → Int32) (b0 : Nat) (sz : Nat) (hI : IM cn Fn) (hb0 : b0 < 10) : Met l yX12_litresOf (CWS yX12_litresOf cX12_litresOf 2 (some .int)) (RM 1 0 0) (PBw [.ref (g 100), .int (nI b0)] D cI cB cZ (wM cI cB cZ g cn In Fn) sz) (va_Qi (fun (r : Int32) (u : (Nat → Nat) × (Nat → Int32) × (Nat → Nat → Int32)) => (fun r c2 I2 F2 => Fr [] [71, 72, 73] [] cn In Fn c2 I2 F2 ∧ IM c2 F2 ∧ (r = nI (mixN (Fn 10) (Fn 64 b0) 20))) r u.1 u.2.1 u.2.2) (fun (u : (Nat → Nat) × (Nat → Int32) × (Nat → Nat → Int32)) (t : State) => va_P D vwCl (wM cI cB cZ g u.1 u.2.1 u.2.2) t.heap ∧ va_D (va_A (wM cI cB cZ g cn In Fn) sz) (wM cI cB cZ g u.1 u.2.1 u.2.2)) (va_A (wM cI cB cZ g cn In Fn) sz)) 0 0 (va_A (wM cI cB cZ g cn In Fn) sz) := by
  refine en_w (fun A => (va_Qi (fun (r : Int32) (u : (Nat → Nat) × (Nat → Int32) × (Nat → Nat → Int32)) => (fun (r : Int32) (c2 : Nat → Nat) (I2 : Nat → Int32) (F2 : Nat → Nat → Int32) => Fr [] [71, 72, 73] [] cn In Fn c2 I2 F2 ∧ IM c2 F2 ∧ (r = nI (mixN (Fn 10) (Fn 64 b0) 20))) r u.1 u.2.1 u.2.2) (fun (u : (Nat → Nat) × (Nat → Int32) × (Nat → Nat → Int32)) (t : State) => va_P D vwCl (wM cI cB cZ g u.1 u.2.1 u.2.2) t.heap ∧ va_D A (wM cI cB cZ g u.1 u.2.1 u.2.2)) A)) rfl rfl pn_RX12 (Nat.le_of_ble_eq_true rfl) (fun p e s m below meth c A hx hb hml hown S hr hlocks hnm hA hP hK hD hS ls hl => ?_)
  have hl : lv_has ls 2 [(0, .ref (g 100)), (1, .int (nI b0))] := hl
  have hi_cn : Hid (CB cn) := hI.b
  refine lv_aload_n hx hb (oc_42 0 shX12_litresOf_0) rfl (lvA0 hl) ?_
  refine lv_aload_n hx hb (oc_42 1 (aq_1 shX12_litresOf_0)) rfl (lvA0 hl) ?_
  refine gM_138 S hK hP (v := .ref (g 64)) rfl (oc_180 2 (aq_2 shX12_litresOf_0) uw_0_138) ?_
  refine lv_iload_n hx hb (oc_27 5 (aq_5 shX12_litresOf_0)) rfl (lvA1 hl) ?_
  have kb_1 : b0 < 10 := by (first | omega | (have zz0 := Hid.u hi_cn; omega))
  refine ldM_64 hx hb hK hP (x := ((Fn 64) b0)) (vp_in_nI kb_1 (ltb rfl)) (nI_clamp (Nat.lt_trans kb_1 (ltb rfl))) rfl (oc_46 6 (aq_6 shX12_litresOf_0)) ?_
  have hFc := free_all hD hS hA
  refine va_callv (runV_a (As := [.int ((Fn 64) b0)]) (rest := []) S (q_mixes l D cI cB cZ g cn In Fn ((Fn 64) b0) s.heap.size hI) kV_RX12_428 hK hP hD 0 rfl rfl rfl ⟨Nat.le_of_ble_eq_true rfl, Nat.le_of_ble_eq_true rfl⟩ ⟨Nat.le_of_ble_eq_true rfl, Nat.le_of_ble_eq_true rfl⟩ rfl hl.1 rfl (Nat.le_of_ble_eq_true rfl) (oc_182 7 (aq_7 shX12_litresOf_0) uw_1_172)) hS (fun q _ h => hFc q h) hFc (fun u t H1 locs ht hvm wh_2 hB hz1 hk1 hS => ?_)
  obtain ⟨cn2, In2, Fn2⟩ := u
  obtain ⟨hP1, hD1⟩ := hB
  rw [ht] at hP1
  have hP : va_P D vwCl (wM cI cB cZ g cn2 In2 Fn2) H1 := hP1
  have hD : va_D A (wM cI cB cZ g cn2 In2 Fn2) := hD1.weaken (fun _ _ _ h => hFc _ h)
  generalize H1 = H at hP hS ⊢
  have vh_2 : (fun c2 I2 F2 => Fr [] [71, 72, 73] [] cn In Fn c2 I2 F2 ∧ IM c2 F2 ∧ (I2 71 = nI (mixN ((Fn 10)) ((Fn 64) b0) 20))) cn2 In2 Fn2 := wh_2
  obtain ⟨hfc2, hIn2, h_2⟩ := vh_2
  obtain rfl : cn = cn2 := (funext (fun k => hfc2.1 k List.not_mem_nil)).symm
  obtain rfl : Fn = Fn2 := (funext (fun k => hfc2.2.2 k List.not_mem_nil)).symm
  have hf2 : Fr [] [71, 72, 73] [] cn In Fn cn In2 Fn := Fr.mo (Fr.tr (Fr.rf (cn := cn) (In := In) (Fn := Fn)) hfc2) (sbl rfl) (sbl rfl) (sbl rfl)
  have hi_cn : Hid (CB cn) := hIn2.b
  refine lv_aload_n hx hb (oc_42 10 (aq_10 shX12_litresOf_0)) rfl (lvA0 hl) ?_
  refine gM_419 S hK hP (v := .int (In2 71)) rfl (oc_180 11 (aq_11 shX12_litresOf_0) uw_1_163) ?_
  exact W.iret (v := (In2 71)) hx hb hr (fun t ht hW => ⟨⟨(In2 71), (cn, In2, Fn), rfl, ⟨(Fr.mo hf2 (sbl rfl) (sbl rfl) (sbl rfl)), hIn2, (by show (In2 71) = nI (mixN (Fn 10) (Fn 64 b0) 20); exact h_2)⟩, by rw [ht]; exact hP, hD⟩, hS.F ht⟩) hS.2.2 (oc_172 14 (aq_14 shX12_litresOf_0))
set_option maxRecDepth 100000 in
set_option maxHeartbeats 4000000 in
theorem q_proved (l : Launch) (D : va_G) (cI cB cZ : ClassId) (g : Nat → Nat) (cn : Nat → Nat) (In : Nat → Int32) (Fn : Nat → Nat → Int32) (b0 : Nat) (v1 : Int32) (sz : Nat) (hI : IM cn Fn) (hb0 : b0 < 10) : Met l yX12_proved (CWS yX12_proved cX12_proved 8 (some .int)) (RM 2 0 0) (PBw [.ref (g 100), .int (nI b0), .int v1] D cI cB cZ (wM cI cB cZ g cn In Fn) sz) (va_Qi (fun (r : Int32) (u : (Nat → Nat) × (Nat → Int32) × (Nat → Nat → Int32)) => (fun r c2 I2 F2 => Fr [] [71, 72, 73] [] cn In Fn c2 I2 F2 ∧ IM c2 F2 ∧ (True)) r u.1 u.2.1 u.2.2) (fun (u : (Nat → Nat) × (Nat → Int32) × (Nat → Nat → Int32)) (t : State) => va_P D vwCl (wM cI cB cZ g u.1 u.2.1 u.2.2) t.heap ∧ va_D (va_A (wM cI cB cZ g cn In Fn) sz) (wM cI cB cZ g u.1 u.2.1 u.2.2)) (va_A (wM cI cB cZ g cn In Fn) sz)) 0 0 (va_A (wM cI cB cZ g cn In Fn) sz) := by
  refine en_w (fun A => (va_Qi (fun (r : Int32) (u : (Nat → Nat) × (Nat → Int32) × (Nat → Nat → Int32)) => (fun (r : Int32) (c2 : Nat → Nat) (I2 : Nat → Int32) (F2 : Nat → Nat → Int32) => Fr [] [71, 72, 73] [] cn In Fn c2 I2 F2 ∧ IM c2 F2 ∧ (True)) r u.1 u.2.1 u.2.2) (fun (u : (Nat → Nat) × (Nat → Int32) × (Nat → Nat → Int32)) (t : State) => va_P D vwCl (wM cI cB cZ g u.1 u.2.1 u.2.2) t.heap ∧ va_D A (wM cI cB cZ g u.1 u.2.1 u.2.2)) A)) rfl rfl pn_RX12 (Nat.le_of_ble_eq_true rfl) (fun p e s m below meth c A hx hb hml hown S hr hlocks hnm hA hP hK hD hS ls hl => ?_)
  have hl : lv_has ls 8 [(0, .ref (g 100)), (1, .int (nI b0)), (2, .int v1)] := hl
  have hi_cn : Hid (CB cn) := hI.b
  refine lv_iconst (v := 0) hx hb (oc_3 0 shX12_proved_0) kic_0 ?_
  refine lv_istore_n (lv' := [(3, .int 0), (0, .ref (g 100)), (1, .int (nI b0)), (2, .int v1)]) hx hb (oc_62 1 (aq_1 shX12_proved_0)) rfl hl (ltb rfl) rfl (fun ls hl => ?_)
  refine lv_aload_n hx hb (oc_42 2 (aq_2 shX12_proved_0)) rfl (lvA1 hl) ?_
  refine lv_iload_n hx hb (oc_27 3 (aq_3 shX12_proved_0)) rfl (lvA2 hl) ?_
  have hFc := free_all hD hS hA
  refine va_calli (runV_a (As := [.int (nI b0)]) (rest := []) S (q_litresOf l D cI cB cZ g cn In Fn b0 s.heap.size hI (by (first | omega | (have zz0 := Hid.u hi_cn; omega)))) kV_RX12_444 hK hP hD 0 rfl rfl rfl ⟨Nat.le_of_ble_eq_true rfl, Nat.le_of_ble_eq_true rfl⟩ ⟨Nat.le_of_ble_eq_true rfl, Nat.le_of_ble_eq_true rfl⟩ rfl hl.1 rfl (Nat.le_of_ble_eq_true rfl) (oc_182 4 (aq_4 shX12_proved_0) uw_1_188)) hS (fun q _ h => hFc q h) hFc (fun r_1 u t H1 locs ht hvm wh_2 hB hz1 hk1 hS => ?_)
  obtain ⟨cn2, In2, Fn2⟩ := u
  obtain ⟨hP1, hD1⟩ := hB
  rw [ht] at hP1
  have hP : va_P D vwCl (wM cI cB cZ g cn2 In2 Fn2) H1 := hP1
  have hD : va_D A (wM cI cB cZ g cn2 In2 Fn2) := hD1.weaken (fun _ _ _ h => hFc _ h)
  generalize H1 = H at hP hS ⊢
  have vh_2 : (fun r c2 I2 F2 => Fr [] [71, 72, 73] [] cn In Fn c2 I2 F2 ∧ IM c2 F2 ∧ (r = nI (mixN ((Fn 10)) ((Fn 64) b0) 20))) r_1 cn2 In2 Fn2 := wh_2
  obtain ⟨hfc2, hIn2, h_2⟩ := vh_2
  obtain rfl : cn = cn2 := (funext (fun k => hfc2.1 k List.not_mem_nil)).symm
  obtain rfl : Fn = Fn2 := (funext (fun k => hfc2.2.2 k List.not_mem_nil)).symm
  have hf2 : Fr [] [71, 72, 73] [] cn In Fn cn In2 Fn := Fr.mo (Fr.tr (Fr.rf (cn := cn) (In := In) (Fn := Fn)) hfc2) (sbl rfl) (sbl rfl) (sbl rfl)
  have hi_cn : Hid (CB cn) := hIn2.b
  subst h_2
  refine lv_istore (lv' := [(4, .int (nI (mixN ((Fn 10)) ((Fn 64) b0) 20))), (3, .int 0), (0, .ref (g 100)), (1, .int (nI b0)), (2, .int v1)]) hx hb (oc_54 7 (aq_7 shX12_proved_0) ub_4) hl (ltb rfl) rfl (fun ls hl => ?_)
  have hmx := IM.mx hI (Fn 64 b0)
  refine lv_iconst (v := 0) hx hb (oc_3 9 (aq_9 shX12_proved_0)) kic_0 ?_
  refine lv_istore (lv' := [(5, .int 0), (4, .int (nI (mixN ((Fn 10)) ((Fn 64) b0) 20))), (3, .int 0), (0, .ref (g 100)), (1, .int (nI b0)), (2, .int v1)]) hx hb (oc_54 10 (aq_10 shX12_proved_0) ub_5) hl (ltb rfl) rfl (fun ls hl => ?_)
  have lp_12 : ∀ (n : Nat) (i12 : Nat) (x12_3 : Int32) , mixN (Fn 10) (Fn 64 b0) 20 - i12 < n → (i12 ≤ mixN (Fn 10) (Fn 64 b0) 20) → ∀ ls : Array Slot, lv_has ls 8 [(5, .int (nI i12)), (4, .int (nI (mixN ((Fn 10)) ((Fn 64) b0) 20))), (3, .int x12_3), (0, .ref (g 100)), (1, .int (nI b0)), (2, .int v1)] → W p l e (RM 2 0 0) s m ([.ref (g 100), .int (nI b0), .int v1]).toArray below meth c H locs 0 0 (MQ below (va_Qi (fun (r : Int32) (u : (Nat → Nat) × (Nat → Int32) × (Nat → Nat → Int32)) => (fun r c2 I2 F2 => Fr [] [71, 72, 73] [] cn In Fn c2 I2 F2 ∧ IM c2 F2 ∧ (True)) r u.1 u.2.1 u.2.2) (fun (u : (Nat → Nat) × (Nat → Int32) × (Nat → Nat → Int32)) (t : State) => va_P D vwCl (wM cI cB cZ g u.1 u.2.1 u.2.2) t.heap ∧ va_D A (wM cI cB cZ g u.1 u.2.1 u.2.2)) A) ([.ref (g 100), .int (nI b0), .int v1]).toArray s 0 0 A) (F0 m 12 ls []) := by
    intro n12
    induction n12 with
    | zero => intros; (first | omega | (have zz0 := Hid.u hi_cn; omega))
    | succ n12 ih12 =>
      intro i12 x12_3 hmu12 hinv12 ls hl
      have hr12 := hinv12
      have ti12 : (nI i12).toInt = (i12 : Int) := nI_toInt (by (first | omega | (have zz0 := Hid.u hi_cn; omega)))
      refine lv_iload hx hb (oc_21 12 (aq_12 shX12_proved_0) ub_5) (lvA0 hl) ?_
      refine lv_iload hx hb (oc_21 14 (aq_14 shX12_proved_0) ub_4) (lvA1 hl) ?_
      have : (nI (mixN ((Fn 10)) ((Fn 64) b0) 20)).toInt = (((mixN ((Fn 10)) ((Fn 64) b0) 20) : Nat) : Int) := nI_toInt (by (first | omega | (have zz0 := Hid.u hi_cn; omega)))
      refine lv_icmp_ge (tgt := 122) hx hb (oc_162 16 (aq_16 shX12_proved_0) sgw_0_106) rfl (fun c_3 => ?_) (fun c_3 => ?_)
      ·
        have tc_3 : ((nI (mixN ((Fn 10)) ((Fn 64) b0) 20)).toInt : Int) ≤ (nI i12).toInt := Int32.le_iff_toInt_le.mp c_3
        refine lv_iload_n hx hb (oc_29 122 (aq_22 shX12_proved_100)) rfl (lvA2 hl) ?_
        exact W.iret (v := x12_3) hx hb hr (fun t ht hW => ⟨⟨x12_3, (cn, In2, Fn), rfl, ⟨(Fr.mo hf2 (sbl rfl) (sbl rfl) (sbl rfl)), hIn2, trivial⟩, by rw [ht]; exact hP, hD⟩, hS.F ht⟩) hS.2.2 (oc_172 123 (aq_23 shX12_proved_100))
      ·
        have tc_3 : ((nI i12).toInt : Int) < (nI (mixN ((Fn 10)) ((Fn 64) b0) 20)).toInt := Int32.lt_iff_toInt_lt.mp (Int32.not_le.mp c_3)
        refine lv_iconst (v := 0) hx hb (oc_3 19 (aq_19 shX12_proved_0)) kic_0 ?_
        refine lv_istore (lv' := [(6, .int 0), (5, .int (nI i12)), (4, .int (nI (mixN ((Fn 10)) ((Fn 64) b0) 20))), (3, .int x12_3), (0, .ref (g 100)), (1, .int (nI b0)), (2, .int v1)]) hx hb (oc_54 20 (aq_20 shX12_proved_0) ub_6) hl (ltb rfl) rfl (fun ls hl => ?_)
        refine lv_iconst (v := 0) hx hb (oc_3 22 (aq_22 shX12_proved_0)) kic_0 ?_
        refine lv_istore (lv' := [(7, .int 0), (6, .int 0), (5, .int (nI i12)), (4, .int (nI (mixN ((Fn 10)) ((Fn 64) b0) 20))), (3, .int x12_3), (0, .ref (g 100)), (1, .int (nI b0)), (2, .int v1)]) hx hb (oc_54 23 (aq_23 shX12_proved_0) ub_7) hl (ltb rfl) rfl (fun ls hl => ?_)
        have lp_25 : ∀ (n : Nat) (i25 : Nat) (x25_6 : Int32) , cn 63 - i25 < n → (i25 ≤ cn 63) → ∀ ls : Array Slot, lv_has ls 8 [(7, .int (nI i25)), (6, .int x25_6), (5, .int (nI i12)), (4, .int (nI (mixN ((Fn 10)) ((Fn 64) b0) 20))), (3, .int x12_3), (0, .ref (g 100)), (1, .int (nI b0)), (2, .int v1)] → W p l e (RM 2 0 0) s m ([.ref (g 100), .int (nI b0), .int v1]).toArray below meth c H locs 0 0 (MQ below (va_Qi (fun (r : Int32) (u : (Nat → Nat) × (Nat → Int32) × (Nat → Nat → Int32)) => (fun r c2 I2 F2 => Fr [] [71, 72, 73] [] cn In Fn c2 I2 F2 ∧ IM c2 F2 ∧ (True)) r u.1 u.2.1 u.2.2) (fun (u : (Nat → Nat) × (Nat → Int32) × (Nat → Nat → Int32)) (t : State) => va_P D vwCl (wM cI cB cZ g u.1 u.2.1 u.2.2) t.heap ∧ va_D A (wM cI cB cZ g u.1 u.2.1 u.2.2)) A) ([.ref (g 100), .int (nI b0), .int v1]).toArray s 0 0 A) (F0 m 25 ls []) := by
          intro n25
          induction n25 with
          | zero => intros; (first | omega | (have zz0 := Hid.u hi_cn; omega))
          | succ n25 ih25 =>
            intro i25 x25_6 hmu25 hinv25 ls hl
            have hr25 := hinv25
            have ti25 : (nI i25).toInt = (i25 : Int) := nI_toInt (by (first | omega | (have zz0 := Hid.u hi_cn; omega)))
            refine lv_iload hx hb (oc_21 25 shX12_proved_25 ub_7) (lvA0 hl) ?_
            refine lv_aload_n hx hb (oc_42 27 (aq_2 shX12_proved_25)) rfl (lvA5 hl) ?_
            refine gM_447 S hK hP (v := .int (nI (cn 63))) rfl (oc_180 28 (aq_3 shX12_proved_25) uw_1_191) ?_
            have : (nI (cn 63)).toInt = (((cn 63) : Nat) : Int) := nI_toInt (by (first | omega | (have zz0 := Hid.u hi_cn; omega)))
            refine lv_icmp_ge (tgt := 103) hx hb (oc_162 31 (aq_6 shX12_proved_25) sgw_0_72) rfl (fun c_4 => ?_) (fun c_4 => ?_)
            ·
              have tc_4 : ((nI (cn 63)).toInt : Int) ≤ (nI i25).toInt := Int32.le_iff_toInt_le.mp c_4
              refine lv_iload_n hx hb (oc_29 103 (aq_3 shX12_proved_100)) rfl (lvA4 hl) ?_
              refine lv_iload hx hb (oc_21 104 (aq_4 shX12_proved_100) ub_6) (lvA1 hl) ?_
              refine lv_if_eq (tgt := 113) hx hb (oc_153 106 (aq_6 shX12_proved_100) sgw_0_7) rfl (fun c_5 => ?_) (fun c_5 => ?_)
              ·
                have tc_5 : (x25_6.toInt : Int) = 0 := congrArg Int32.toInt c_5
                refine lv_iconst (v := 0) hx hb (oc_3 113 (aq_13 shX12_proved_100)) kic_0 ?_
                refine lv_iadd hx hb (oc_96 114 (aq_14 shX12_proved_100)) ?_
                refine lv_istore_n (lv' := [(3, .int (x12_3 + 0)), (7, .int (nI i25)), (6, .int x25_6), (5, .int (nI i12)), (4, .int (nI (mixN ((Fn 10)) ((Fn 64) b0) 20))), (0, .ref (g 100)), (1, .int (nI b0)), (2, .int v1)]) hx hb (oc_62 115 (aq_15 shX12_proved_100)) rfl hl (ltb rfl) rfl (fun ls hl => ?_)
                refine lv_iinc (v := (nI (i12 + 1))) (lv' := [(5, .int (nI (i12 + 1))), (3, .int (x12_3 + 0)), (7, .int (nI i25)), (6, .int x25_6), (4, .int (nI (mixN ((Fn 10)) ((Fn 64) b0) 20))), (0, .ref (g 100)), (1, .int (nI b0)), (2, .int v1)]) hx hb (oc_132 116 (aq_16 shX12_proved_100) ub_5 sgb_1) hl (k := 3) rfl (nI_1 _) (ltb rfl) rfl (fun ls hl => ?_)
                refine lv_goto (tgt := 12) hx hb (oc_167 119 (aq_19 shX12_proved_100) sgw_255_149) rfl ?_
                exact ih12 (i12 + 1) (x12_3 + 0) (by (first | omega | (have zz0 := Hid.u hi_cn; omega))) (by (first | omega | (have zz0 := Hid.u hi_cn; omega))) ls (lv_sub hl [0, 4, 1, 5, 6, 7] rfl)
              ·
                have tc_5 : (x25_6.toInt : Int) ≠ 0 := fun q => c_5 (Int32.toInt_inj.mp q)
                refine lv_iconst (v := 1) hx hb (oc_4 109 (aq_9 shX12_proved_100)) kic_1 ?_
                refine lv_goto (tgt := 114) hx hb (oc_167 110 (aq_10 shX12_proved_100) sgw_0_4) rfl ?_
                refine lv_iadd hx hb (oc_96 114 (aq_14 shX12_proved_100)) ?_
                refine lv_istore_n (lv' := [(3, .int (x12_3 + 1)), (7, .int (nI i25)), (6, .int x25_6), (5, .int (nI i12)), (4, .int (nI (mixN ((Fn 10)) ((Fn 64) b0) 20))), (0, .ref (g 100)), (1, .int (nI b0)), (2, .int v1)]) hx hb (oc_62 115 (aq_15 shX12_proved_100)) rfl hl (ltb rfl) rfl (fun ls hl => ?_)
                refine lv_iinc (v := (nI (i12 + 1))) (lv' := [(5, .int (nI (i12 + 1))), (3, .int (x12_3 + 1)), (7, .int (nI i25)), (6, .int x25_6), (4, .int (nI (mixN ((Fn 10)) ((Fn 64) b0) 20))), (0, .ref (g 100)), (1, .int (nI b0)), (2, .int v1)]) hx hb (oc_132 116 (aq_16 shX12_proved_100) ub_5 sgb_1) hl (k := 3) rfl (nI_1 _) (ltb rfl) rfl (fun ls hl => ?_)
                refine lv_goto (tgt := 12) hx hb (oc_167 119 (aq_19 shX12_proved_100) sgw_255_149) rfl ?_
                exact ih12 (i12 + 1) (x12_3 + 1) (by (first | omega | (have zz0 := Hid.u hi_cn; omega))) (by (first | omega | (have zz0 := Hid.u hi_cn; omega))) ls (lv_sub hl [0, 4, 1, 5, 6, 7] rfl)
            ·
              have tc_4 : ((nI i25).toInt : Int) < (nI (cn 63)).toInt := Int32.lt_iff_toInt_lt.mp (Int32.not_le.mp c_4)
              refine lv_iload hx hb (oc_21 34 (aq_9 shX12_proved_25) ub_6) (lvA1 hl) ?_
              refine lv_if_ne (tgt := 90) hx hb (oc_154 36 (aq_11 shX12_proved_25) sgw_0_54) rfl (fun c_6 => ?_) (fun c_6 => ?_)
              ·
                have tc_6 : (x25_6.toInt : Int) ≠ 0 := fun q => c_6 (Int32.toInt_inj.mp q)
                refine lv_iconst (v := 1) hx hb (oc_4 90 (aq_16 shX12_proved_74)) kic_1 ?_
                refine lv_goto (tgt := 95) hx hb (oc_167 91 (aq_17 shX12_proved_74) sgw_0_4) rfl ?_
                refine lv_istore (lv' := [(6, .int 1), (7, .int (nI i25)), (5, .int (nI i12)), (4, .int (nI (mixN ((Fn 10)) ((Fn 64) b0) 20))), (3, .int x12_3), (0, .ref (g 100)), (1, .int (nI b0)), (2, .int v1)]) hx hb dX12_proved_95 hl (ltb rfl) rfl (fun ls hl => ?_)
                refine lv_iinc (v := (nI (i25 + 1))) (lv' := [(7, .int (nI (i25 + 1))), (6, .int 1), (5, .int (nI i12)), (4, .int (nI (mixN ((Fn 10)) ((Fn 64) b0) 20))), (3, .int x12_3), (0, .ref (g 100)), (1, .int (nI b0)), (2, .int v1)]) hx hb dX12_proved_97 hl (k := 1) rfl (nI_1 _) (ltb rfl) rfl (fun ls hl => ?_)
                refine lv_goto (tgt := 25) hx hb dX12_proved_100 rfl ?_
                exact ih25 (i25 + 1) 1 (by (first | omega | (have zz0 := Hid.u hi_cn; omega))) (by (first | omega | (have zz0 := Hid.u hi_cn; omega))) ls (lv_sub hl [0, 1, 2, 3, 4, 5, 6, 7] rfl)
              ·
                have tc_6 : (x25_6.toInt : Int) = 0 := congrArg Int32.toInt c_6
                refine lv_aload_n hx hb (oc_42 39 (aq_14 shX12_proved_25)) rfl (lvA5 hl) ?_
                refine gM_147 S hK hP (v := .ref (g 67)) rfl (oc_180 40 (aq_15 shX12_proved_25) uw_0_147) ?_
                refine lv_iload hx hb (oc_21 43 (aq_18 shX12_proved_25) ub_7) (lvA0 hl) ?_
                have kb_1 : i25 < 40 := by (first | omega | (have zz0 := Hid.u hi_cn; omega))
                obtain ⟨a_7, ha_7, ea_7⟩ := hIn2.e67 i25 (by (first | omega | (have zz0 := Hid.u hi_cn; omega)))
                refine ldM_67 hx hb hK hP (x := (nI a_7)) (vp_in_nI kb_1 (ltb rfl)) (nI_clamp (Nat.lt_trans kb_1 (ltb rfl))) ea_7 (oc_46 45 (aq_20 shX12_proved_25)) ?_
                refine lv_iload_n hx hb (oc_27 46 (aq_21 shX12_proved_25)) rfl (lvA6 hl) ?_
                have : (nI a_7).toInt = ((a_7 : Nat) : Int) := nI_toInt (by (first | omega | (have zz0 := Hid.u hi_cn; omega)))
                have : (nI b0).toInt = ((b0 : Nat) : Int) := nI_toInt (by (first | omega | (have zz0 := Hid.u hi_cn; omega)))
                refine lv_icmp_ne (tgt := 94) hx hb (oc_160 47 (aq_22 shX12_proved_25) sgw_0_47) rfl (fun c_8 => ?_) (fun c_8 => ?_)
                ·
                  have tc_8 : ((nI a_7).toInt : Int) ≠ (nI b0).toInt := fun q => c_8 (Int32.toInt_inj.mp q)
                  refine lv_iconst (v := 0) hx hb dX12_proved_94 kic_0 ?_
                  refine lv_istore (lv' := [(6, .int 0), (7, .int (nI i25)), (5, .int (nI i12)), (4, .int (nI (mixN ((Fn 10)) ((Fn 64) b0) 20))), (3, .int x12_3), (0, .ref (g 100)), (1, .int (nI b0)), (2, .int v1)]) hx hb dX12_proved_95 hl (ltb rfl) rfl (fun ls hl => ?_)
                  refine lv_iinc (v := (nI (i25 + 1))) (lv' := [(7, .int (nI (i25 + 1))), (6, .int 0), (5, .int (nI i12)), (4, .int (nI (mixN ((Fn 10)) ((Fn 64) b0) 20))), (3, .int x12_3), (0, .ref (g 100)), (1, .int (nI b0)), (2, .int v1)]) hx hb dX12_proved_97 hl (k := 1) rfl (nI_1 _) (ltb rfl) rfl (fun ls hl => ?_)
                  refine lv_goto (tgt := 25) hx hb dX12_proved_100 rfl ?_
                  exact ih25 (i25 + 1) 0 (by (first | omega | (have zz0 := Hid.u hi_cn; omega))) (by (first | omega | (have zz0 := Hid.u hi_cn; omega))) ls (lv_sub hl [0, 1, 2, 3, 4, 5, 6, 7] rfl)
                ·
                  have tc_8 : ((nI a_7).toInt : Int) = (nI b0).toInt := congrArg Int32.toInt c_8
                  refine lv_iload hx hb (oc_21 50 shX12_proved_50 ub_5) (lvA2 hl) ?_
                  refine lv_aload_n hx hb (oc_42 52 (aq_2 shX12_proved_50)) rfl (lvA5 hl) ?_
                  refine gM_150 S hK hP (v := .ref (g 68)) rfl (oc_180 53 (aq_3 shX12_proved_50) uw_0_150) ?_
                  refine lv_iload hx hb (oc_21 56 (aq_6 shX12_proved_50) ub_7) (lvA0 hl) ?_
                  obtain ⟨a_9, ha_9, ea_9⟩ := hIn2.e68 i25 (by (first | omega | (have zz0 := Hid.u hi_cn; omega)))
                  refine ldM_68 hx hb hK hP (x := (nI a_9)) (vp_in_nI kb_1 (ltb rfl)) (nI_clamp (Nat.lt_trans kb_1 (ltb rfl))) ea_9 (oc_46 58 (aq_8 shX12_proved_50)) ?_
                  have : (nI a_9).toInt = ((a_9 : Nat) : Int) := nI_toInt (by (first | omega | (have zz0 := Hid.u hi_cn; omega)))
                  refine lv_icmp_lt (tgt := 94) hx hb (oc_161 59 (aq_9 shX12_proved_50) sgw_0_35) rfl (fun c_10 => ?_) (fun c_10 => ?_)
                  ·
                    have tc_10 : ((nI i12).toInt : Int) < (nI a_9).toInt := Int32.lt_iff_toInt_lt.mp c_10
                    refine lv_iconst (v := 0) hx hb dX12_proved_94 kic_0 ?_
                    refine lv_istore (lv' := [(6, .int 0), (7, .int (nI i25)), (5, .int (nI i12)), (4, .int (nI (mixN ((Fn 10)) ((Fn 64) b0) 20))), (3, .int x12_3), (0, .ref (g 100)), (1, .int (nI b0)), (2, .int v1)]) hx hb dX12_proved_95 hl (ltb rfl) rfl (fun ls hl => ?_)
                    refine lv_iinc (v := (nI (i25 + 1))) (lv' := [(7, .int (nI (i25 + 1))), (6, .int 0), (5, .int (nI i12)), (4, .int (nI (mixN ((Fn 10)) ((Fn 64) b0) 20))), (3, .int x12_3), (0, .ref (g 100)), (1, .int (nI b0)), (2, .int v1)]) hx hb dX12_proved_97 hl (k := 1) rfl (nI_1 _) (ltb rfl) rfl (fun ls hl => ?_)
                    refine lv_goto (tgt := 25) hx hb dX12_proved_100 rfl ?_
                    exact ih25 (i25 + 1) 0 (by (first | omega | (have zz0 := Hid.u hi_cn; omega))) (by (first | omega | (have zz0 := Hid.u hi_cn; omega))) ls (lv_sub hl [0, 1, 2, 3, 4, 5, 6, 7] rfl)
                  ·
                    have tc_10 : ((nI a_9).toInt : Int) ≤ (nI i12).toInt := Int32.le_iff_toInt_le.mp (Int32.not_lt.mp c_10)
                    refine lv_iload hx hb (oc_21 62 (aq_12 shX12_proved_50) ub_5) (lvA2 hl) ?_
                    refine lv_aload_n hx hb (oc_42 64 (aq_14 shX12_proved_50)) rfl (lvA5 hl) ?_
                    refine gM_153 S hK hP (v := .ref (g 69)) rfl (oc_180 65 (aq_15 shX12_proved_50) uw_0_153) ?_
                    refine lv_iload hx hb (oc_21 68 (aq_18 shX12_proved_50) ub_7) (lvA0 hl) ?_
                    obtain ⟨a_11, ha_11, ea_11⟩ := hIn2.e69 i25 (by (first | omega | (have zz0 := Hid.u hi_cn; omega)))
                    refine ldM_69 hx hb hK hP (x := (nI a_11)) (vp_in_nI kb_1 (ltb rfl)) (nI_clamp (Nat.lt_trans kb_1 (ltb rfl))) ea_11 (oc_46 70 (aq_20 shX12_proved_50)) ?_
                    have : (nI a_11).toInt = ((a_11 : Nat) : Int) := nI_toInt (by (first | omega | (have zz0 := Hid.u hi_cn; omega)))
                    refine lv_icmp_ge (tgt := 94) hx hb (oc_162 71 (aq_21 shX12_proved_50) sgw_0_23) rfl (fun c_12 => ?_) (fun c_12 => ?_)
                    ·
                      have tc_12 : ((nI a_11).toInt : Int) ≤ (nI i12).toInt := Int32.le_iff_toInt_le.mp c_12
                      refine lv_iconst (v := 0) hx hb dX12_proved_94 kic_0 ?_
                      refine lv_istore (lv' := [(6, .int 0), (7, .int (nI i25)), (5, .int (nI i12)), (4, .int (nI (mixN ((Fn 10)) ((Fn 64) b0) 20))), (3, .int x12_3), (0, .ref (g 100)), (1, .int (nI b0)), (2, .int v1)]) hx hb dX12_proved_95 hl (ltb rfl) rfl (fun ls hl => ?_)
                      refine lv_iinc (v := (nI (i25 + 1))) (lv' := [(7, .int (nI (i25 + 1))), (6, .int 0), (5, .int (nI i12)), (4, .int (nI (mixN ((Fn 10)) ((Fn 64) b0) 20))), (3, .int x12_3), (0, .ref (g 100)), (1, .int (nI b0)), (2, .int v1)]) hx hb dX12_proved_97 hl (k := 1) rfl (nI_1 _) (ltb rfl) rfl (fun ls hl => ?_)
                      refine lv_goto (tgt := 25) hx hb dX12_proved_100 rfl ?_
                      exact ih25 (i25 + 1) 0 (by (first | omega | (have zz0 := Hid.u hi_cn; omega))) (by (first | omega | (have zz0 := Hid.u hi_cn; omega))) ls (lv_sub hl [0, 1, 2, 3, 4, 5, 6, 7] rfl)
                    ·
                      have tc_12 : ((nI i12).toInt : Int) < (nI a_11).toInt := Int32.lt_iff_toInt_lt.mp (Int32.not_le.mp c_12)
                      refine lv_iload_n hx hb (oc_28 74 shX12_proved_74) rfl (lvA7 hl) ?_
                      refine lv_iconst (v := (-1)) hx hb (oc_2 75 (aq_1 shX12_proved_74)) kic_m1 ?_
                      refine lv_icmp_eq (tgt := 90) hx hb (oc_159 76 (aq_2 shX12_proved_74) sgw_0_14) rfl (fun c_13 => ?_) (fun c_13 => ?_)
                      ·
                        have tc_13 : (v1.toInt : Int) = (-1) := congrArg Int32.toInt c_13
                        refine lv_iconst (v := 1) hx hb (oc_4 90 (aq_16 shX12_proved_74)) kic_1 ?_
                        refine lv_goto (tgt := 95) hx hb (oc_167 91 (aq_17 shX12_proved_74) sgw_0_4) rfl ?_
                        refine lv_istore (lv' := [(6, .int 1), (7, .int (nI i25)), (5, .int (nI i12)), (4, .int (nI (mixN ((Fn 10)) ((Fn 64) b0) 20))), (3, .int x12_3), (0, .ref (g 100)), (1, .int (nI b0)), (2, .int v1)]) hx hb dX12_proved_95 hl (ltb rfl) rfl (fun ls hl => ?_)
                        refine lv_iinc (v := (nI (i25 + 1))) (lv' := [(7, .int (nI (i25 + 1))), (6, .int 1), (5, .int (nI i12)), (4, .int (nI (mixN ((Fn 10)) ((Fn 64) b0) 20))), (3, .int x12_3), (0, .ref (g 100)), (1, .int (nI b0)), (2, .int v1)]) hx hb dX12_proved_97 hl (k := 1) rfl (nI_1 _) (ltb rfl) rfl (fun ls hl => ?_)
                        refine lv_goto (tgt := 25) hx hb dX12_proved_100 rfl ?_
                        exact ih25 (i25 + 1) 1 (by (first | omega | (have zz0 := Hid.u hi_cn; omega))) (by (first | omega | (have zz0 := Hid.u hi_cn; omega))) ls (lv_sub hl [0, 1, 2, 3, 4, 5, 6, 7] rfl)
                      ·
                        have tc_13 : (v1.toInt : Int) ≠ (-1) := fun q => c_13 (Int32.toInt_inj.mp q)
                        refine lv_aload_n hx hb (oc_42 79 (aq_5 shX12_proved_74)) rfl (lvA5 hl) ?_
                        refine gM_156 S hK hP (v := .ref (g 70)) rfl (oc_180 80 (aq_6 shX12_proved_74) uw_0_156) ?_
                        refine lv_iload hx hb (oc_21 83 (aq_9 shX12_proved_74) ub_7) (lvA0 hl) ?_
                        obtain ⟨a_14, ha_14, ea_14⟩ := hIn2.e70 i25 (by (first | omega | (have zz0 := Hid.u hi_cn; omega)))
                        refine ldM_70 hx hb hK hP (x := (nI a_14)) (vp_in_nI kb_1 (ltb rfl)) (nI_clamp (Nat.lt_trans kb_1 (ltb rfl))) ea_14 (oc_46 85 (aq_11 shX12_proved_74)) ?_
                        refine lv_iload_n hx hb (oc_28 86 (aq_12 shX12_proved_74)) rfl (lvA7 hl) ?_
                        have : (nI a_14).toInt = ((a_14 : Nat) : Int) := nI_toInt (by (first | omega | (have zz0 := Hid.u hi_cn; omega)))
                        refine lv_icmp_ne (tgt := 94) hx hb (oc_160 87 (aq_13 shX12_proved_74) sgw_0_7) rfl (fun c_15 => ?_) (fun c_15 => ?_)
                        ·
                          have tc_15 : ((nI a_14).toInt : Int) ≠ v1.toInt := fun q => c_15 (Int32.toInt_inj.mp q)
                          refine lv_iconst (v := 0) hx hb dX12_proved_94 kic_0 ?_
                          refine lv_istore (lv' := [(6, .int 0), (7, .int (nI i25)), (5, .int (nI i12)), (4, .int (nI (mixN ((Fn 10)) ((Fn 64) b0) 20))), (3, .int x12_3), (0, .ref (g 100)), (1, .int (nI b0)), (2, .int v1)]) hx hb dX12_proved_95 hl (ltb rfl) rfl (fun ls hl => ?_)
                          refine lv_iinc (v := (nI (i25 + 1))) (lv' := [(7, .int (nI (i25 + 1))), (6, .int 0), (5, .int (nI i12)), (4, .int (nI (mixN ((Fn 10)) ((Fn 64) b0) 20))), (3, .int x12_3), (0, .ref (g 100)), (1, .int (nI b0)), (2, .int v1)]) hx hb dX12_proved_97 hl (k := 1) rfl (nI_1 _) (ltb rfl) rfl (fun ls hl => ?_)
                          refine lv_goto (tgt := 25) hx hb dX12_proved_100 rfl ?_
                          exact ih25 (i25 + 1) 0 (by (first | omega | (have zz0 := Hid.u hi_cn; omega))) (by (first | omega | (have zz0 := Hid.u hi_cn; omega))) ls (lv_sub hl [0, 1, 2, 3, 4, 5, 6, 7] rfl)
                        ·
                          have tc_15 : ((nI a_14).toInt : Int) = v1.toInt := congrArg Int32.toInt c_15
                          refine lv_iconst (v := 1) hx hb (oc_4 90 (aq_16 shX12_proved_74)) kic_1 ?_
                          refine lv_goto (tgt := 95) hx hb (oc_167 91 (aq_17 shX12_proved_74) sgw_0_4) rfl ?_
                          refine lv_istore (lv' := [(6, .int 1), (7, .int (nI i25)), (5, .int (nI i12)), (4, .int (nI (mixN ((Fn 10)) ((Fn 64) b0) 20))), (3, .int x12_3), (0, .ref (g 100)), (1, .int (nI b0)), (2, .int v1)]) hx hb dX12_proved_95 hl (ltb rfl) rfl (fun ls hl => ?_)
                          refine lv_iinc (v := (nI (i25 + 1))) (lv' := [(7, .int (nI (i25 + 1))), (6, .int 1), (5, .int (nI i12)), (4, .int (nI (mixN ((Fn 10)) ((Fn 64) b0) 20))), (3, .int x12_3), (0, .ref (g 100)), (1, .int (nI b0)), (2, .int v1)]) hx hb dX12_proved_97 hl (k := 1) rfl (nI_1 _) (ltb rfl) rfl (fun ls hl => ?_)
                          refine lv_goto (tgt := 25) hx hb dX12_proved_100 rfl ?_
                          exact ih25 (i25 + 1) 1 (by (first | omega | (have zz0 := Hid.u hi_cn; omega))) (by (first | omega | (have zz0 := Hid.u hi_cn; omega))) ls (lv_sub hl [0, 1, 2, 3, 4, 5, 6, 7] rfl)
        exact lp_25 _ 0 0 (Nat.lt_succ_self _) (by (first | omega | (have zz0 := Hid.u hi_cn; omega))) ls (lv_sub hl [0, 1, 2, 3, 4, 5, 6, 7] rfl)
  exact lp_12 _ 0 0 (Nat.lt_succ_self _) (by (first | omega | (have zz0 := Hid.u hi_cn; omega))) ls (lv_sub hl [0, 1, 2, 3, 4, 5] rfl)
set_option maxRecDepth 100000 in
set_option maxHeartbeats 4000000 in
theorem q_batchIs (l : Launch) (D : va_G) (cI cB cZ : ClassId) (g : Nat → Nat) (cn : Nat → Nat) (In : Nat → Int32) (Fn : Nat → Nat → Int32) (v0 v1 : Int32) (sz : Nat) (hI : IM cn Fn) : Met l yX12_batchIs (CWS yX12_batchIs cX12_batchIs 3 (some .int)) (RM 3 0 0) (PBw [.ref (g 100), .int v0, .int v1] D cI cB cZ (wM cI cB cZ g cn In Fn) sz) (va_Qi (fun (r : Int32) (u : (Nat → Nat) × (Nat → Int32) × (Nat → Nat → Int32)) => (fun r c2 I2 F2 => Fr [] [71, 72, 73] [] cn In Fn c2 I2 F2 ∧ IM c2 F2 ∧ (True)) r u.1 u.2.1 u.2.2) (fun (u : (Nat → Nat) × (Nat → Int32) × (Nat → Nat → Int32)) (t : State) => va_P D vwCl (wM cI cB cZ g u.1 u.2.1 u.2.2) t.heap ∧ va_D (va_A (wM cI cB cZ g cn In Fn) sz) (wM cI cB cZ g u.1 u.2.1 u.2.2)) (va_A (wM cI cB cZ g cn In Fn) sz)) 0 0 (va_A (wM cI cB cZ g cn In Fn) sz) := by
  refine en_w (fun A => (va_Qi (fun (r : Int32) (u : (Nat → Nat) × (Nat → Int32) × (Nat → Nat → Int32)) => (fun (r : Int32) (c2 : Nat → Nat) (I2 : Nat → Int32) (F2 : Nat → Nat → Int32) => Fr [] [71, 72, 73] [] cn In Fn c2 I2 F2 ∧ IM c2 F2 ∧ (True)) r u.1 u.2.1 u.2.2) (fun (u : (Nat → Nat) × (Nat → Int32) × (Nat → Nat → Int32)) (t : State) => va_P D vwCl (wM cI cB cZ g u.1 u.2.1 u.2.2) t.heap ∧ va_D A (wM cI cB cZ g u.1 u.2.1 u.2.2)) A)) rfl rfl pn_RX12 (Nat.le_of_ble_eq_true rfl) (fun p e s m below meth c A hx hb hml hown S hr hlocks hnm hA hP hK hD hS ls hl => ?_)
  have hl : lv_has ls 3 [(0, .ref (g 100)), (1, .int v0), (2, .int v1)] := hl
  have hi_cn : Hid (CB cn) := hI.b
  refine lv_aload_n hx hb (oc_42 0 shX12_batchIs_0) rfl (lvA0 hl) ?_
  refine lv_iload_n hx hb (oc_27 1 (aq_1 shX12_batchIs_0)) rfl (lvA1 hl) ?_
  refine vp_callSi (runV_ra (As := [.int v0]) (rest := []) S (q_isBatch l D cI cB cZ g cn In Fn v0 hI) kV_RX12_450 hK hP 0 rfl rfl rfl ⟨Nat.le_of_ble_eq_true rfl, Nat.le_of_ble_eq_true rfl⟩ ⟨Nat.le_of_ble_eq_true rfl, Nat.le_of_ble_eq_true rfl⟩ rfl hl.1 rfl (Nat.le_of_ble_eq_true rfl) (oc_182 2 (aq_2 shX12_batchIs_0) uw_1_194)) (fun r_1 h_2 => ?_)
  rcases h_2 with ⟨rfl, h_2⟩ | ⟨rfl, h_2⟩
  ·
    have h_2 : 0 ≤ v0.toInt ∧ v0.toInt < ((cn 62) : Int) := h_2
    refine lv_if_eq (tgt := 17) hx hb (oc_153 5 (aq_5 shX12_batchIs_0) sgw_0_12) rfl (fun h => absurd h cq_eq_1_0) (fun _ => ?_)
    refine lv_iload_n hx hb (oc_28 8 (aq_8 shX12_batchIs_0)) rfl (lvA2 hl) ?_
    refine lv_iconst (v := 0) hx hb (oc_3 9 (aq_9 shX12_batchIs_0)) kic_0 ?_
    refine lv_iconst (v := 4) hx hb (oc_7 10 (aq_10 shX12_batchIs_0)) kic_4 ?_
    refine vp_callSi (runS_r (As := [.int v1, .int 0, .int 4]) (rest := []) S (q_in l D cI cB cZ v1 0 4 ) kS_RX12_214 hK hP [] rfl ⟨Nat.le_of_ble_eq_true rfl, Nat.le_of_ble_eq_true rfl⟩ ⟨Nat.le_of_ble_eq_true rfl, Nat.le_of_ble_eq_true rfl⟩ rfl hl.1 rfl (Nat.le_of_ble_eq_true rfl) (oc_184 11 (aq_11 shX12_batchIs_0) uw_0_214)) (fun r_3 h_4 => ?_)
    rcases h_4 with ⟨rfl, h_4⟩ | ⟨rfl, h_4⟩
    ·
      have h_4 : 0 ≤ v1.toInt ∧ v1.toInt ≤ 4 := h_4
      refine lv_if_ne (tgt := 19) hx hb (oc_154 14 (aq_14 shX12_batchIs_0) sgw_0_5) rfl (fun _ => ?_) (fun h => absurd h cq_eq_1_0)
      obtain ⟨d0, hd0, rfl⟩ := nI_of (x := v0) (fun q => by have := Int32.lt_iff_toInt_lt.mp q; have e : (0 : Int32).toInt = 0 := rfl; (first | omega | (have zz0 := Hid.u hi_cn; omega)))
      have td0 : (nI d0).toInt = (d0 : Int) := nI_toInt hd0
      have zd0 : (nI d0).toInt.toNat = d0 := by (first | omega | (have zz0 := Hid.u hi_cn; omega))
      refine lv_aload_n hx hb (oc_42 19 (aq_19 shX12_batchIs_0)) rfl (lvA0 hl) ?_
      refine lv_aload_n hx hb (oc_42 20 (aq_20 shX12_batchIs_0)) rfl (lvA0 hl) ?_
      refine gM_138 S hK hP (v := .ref (g 64)) rfl (oc_180 21 (aq_21 shX12_batchIs_0) uw_0_138) ?_
      refine lv_iload_n hx hb (oc_27 24 shX12_batchIs_24) rfl (lvA1 hl) ?_
      have kb_1 : d0 < 10 := by (first | omega | (have zz0 := Hid.u hi_cn; omega))
      refine ldM_64 hx hb hK hP (x := ((Fn 64) d0)) (vp_in_nI kb_1 (ltb rfl)) (nI_clamp (Nat.lt_trans kb_1 (ltb rfl))) rfl (oc_46 25 (aq_1 shX12_batchIs_24)) ?_
      have hFc := free_all hD hS hA
      refine va_callv (runV_a (As := [.int ((Fn 64) d0)]) (rest := []) S (q_mixes l D cI cB cZ g cn In Fn ((Fn 64) d0) s.heap.size hI) kV_RX12_428 hK hP hD 0 rfl rfl rfl ⟨Nat.le_of_ble_eq_true rfl, Nat.le_of_ble_eq_true rfl⟩ ⟨Nat.le_of_ble_eq_true rfl, Nat.le_of_ble_eq_true rfl⟩ rfl hl.1 rfl (Nat.le_of_ble_eq_true rfl) (oc_182 26 (aq_2 shX12_batchIs_24) uw_1_172)) hS (fun q _ h => hFc q h) hFc (fun u t H1 locs ht hvm wh_6 hB hz1 hk1 hS => ?_)
      obtain ⟨cn6, In6, Fn6⟩ := u
      obtain ⟨hP1, hD1⟩ := hB
      rw [ht] at hP1
      have hP : va_P D vwCl (wM cI cB cZ g cn6 In6 Fn6) H1 := hP1
      have hD : va_D A (wM cI cB cZ g cn6 In6 Fn6) := hD1.weaken (fun _ _ _ h => hFc _ h)
      generalize H1 = H at hP hS ⊢
      have vh_6 : (fun c2 I2 F2 => Fr [] [71, 72, 73] [] cn In Fn c2 I2 F2 ∧ IM c2 F2 ∧ (I2 71 = nI (mixN ((Fn 10)) ((Fn 64) d0) 20))) cn6 In6 Fn6 := wh_6
      obtain ⟨hfc6, hIn6, h_6⟩ := vh_6
      obtain rfl : cn = cn6 := (funext (fun k => hfc6.1 k List.not_mem_nil)).symm
      obtain rfl : Fn = Fn6 := (funext (fun k => hfc6.2.2 k List.not_mem_nil)).symm
      have hf6 : Fr [] [71, 72, 73] [] cn In Fn cn In6 Fn := Fr.mo (Fr.tr (Fr.rf (cn := cn) (In := In) (Fn := Fn)) hfc6) (sbl rfl) (sbl rfl) (sbl rfl)
      have hi_cn : Hid (CB cn) := hIn6.b
      refine lv_iload_n hx hb (oc_28 29 (aq_5 shX12_batchIs_24)) rfl (lvA2 hl) ?_
      rcases (by (first | omega | (have zz0 := Hid.u hi_cn; omega)) : v1.toInt < 0 ∨ 3 < v1.toInt ∨ v1.toInt = 0 ∨ v1.toInt = 1 ∨ v1.toInt = 2 ∨ v1.toInt = 3) with c_7 | c_7 | c_7 | c_7 | c_7 | c_7
      ·
        exfalso; (first | omega | (have zz0 := Hid.u hi_cn; omega))
      ·
        refine lv_tableOut (tgt := 88) hx hb dX12_batchIs_30 (Or.inr c_7) (by decide) ?_
        refine lv_aload_n hx hb (oc_42 88 (aq_2 shX12_batchIs_86)) rfl (lvA0 hl) ?_
        refine gM_138 S hK hP (v := .ref (g 64)) rfl (oc_180 89 (aq_3 shX12_batchIs_86) uw_0_138) ?_
        refine lv_iload_n hx hb (oc_27 92 (aq_6 shX12_batchIs_86)) rfl (lvA1 hl) ?_
        refine ldM_64 hx hb hK hP (x := ((Fn 64) d0)) (vp_in_nI kb_1 (ltb rfl)) (nI_clamp (Nat.lt_trans kb_1 (ltb rfl))) rfl (oc_46 93 (aq_7 shX12_batchIs_86)) ?_
        exact W.iret (v := ((Fn 64) d0)) hx hb hr (fun t ht hW => ⟨⟨((Fn 64) d0), (cn, In6, Fn), rfl, ⟨(Fr.mo hf6 (sbl rfl) (sbl rfl) (sbl rfl)), hIn6, trivial⟩, by rw [ht]; exact hP, hD⟩, hS.F ht⟩) hS.2.2 (oc_172 94 (aq_8 shX12_batchIs_86))
      ·
        refine lv_tableIn (tgt := 60) (off := 30) hx hb dX12_batchIs_30 (by (first | omega | (have zz0 := Hid.u hi_cn; omega))) (by (first | omega | (have zz0 := Hid.u hi_cn; omega))) (by rw [c_7]; rfl) (by decide) ?_
        refine lv_aload_n hx hb (oc_42 60 shX12_batchIs_60) rfl (lvA0 hl) ?_
        refine gM_419 S hK hP (v := .int (In6 71)) rfl (oc_180 61 (aq_1 shX12_batchIs_60) uw_1_163) ?_
        exact W.iret (v := (In6 71)) hx hb hr (fun t ht hW => ⟨⟨(In6 71), (cn, In6, Fn), rfl, ⟨(Fr.mo hf6 (sbl rfl) (sbl rfl) (sbl rfl)), hIn6, trivial⟩, by rw [ht]; exact hP, hD⟩, hS.F ht⟩) hS.2.2 (oc_172 64 (aq_4 shX12_batchIs_60))
      ·
        refine lv_tableIn (tgt := 65) (off := 35) hx hb dX12_batchIs_30 (by (first | omega | (have zz0 := Hid.u hi_cn; omega))) (by (first | omega | (have zz0 := Hid.u hi_cn; omega))) (by rw [c_7]; rfl) (by decide) ?_
        refine lv_aload_n hx hb (oc_42 65 (aq_5 shX12_batchIs_60)) rfl (lvA0 hl) ?_
        refine gM_422 S hK hP (v := .int (In6 72)) rfl (oc_180 66 (aq_6 shX12_batchIs_60) uw_1_166) ?_
        exact W.iret (v := (In6 72)) hx hb hr (fun t ht hW => ⟨⟨(In6 72), (cn, In6, Fn), rfl, ⟨(Fr.mo hf6 (sbl rfl) (sbl rfl) (sbl rfl)), hIn6, trivial⟩, by rw [ht]; exact hP, hD⟩, hS.F ht⟩) hS.2.2 (oc_172 69 (aq_9 shX12_batchIs_60))
      ·
        refine lv_tableIn (tgt := 70) (off := 40) hx hb dX12_batchIs_30 (by (first | omega | (have zz0 := Hid.u hi_cn; omega))) (by (first | omega | (have zz0 := Hid.u hi_cn; omega))) (by rw [c_7]; rfl) (by decide) ?_
        refine lv_aload_n hx hb (oc_42 70 (aq_10 shX12_batchIs_60)) rfl (lvA0 hl) ?_
        refine gM_425 S hK hP (v := .int (In6 73)) rfl (oc_180 71 (aq_11 shX12_batchIs_60) uw_1_169) ?_
        exact W.iret (v := (In6 73)) hx hb hr (fun t ht hW => ⟨⟨(In6 73), (cn, In6, Fn), rfl, ⟨(Fr.mo hf6 (sbl rfl) (sbl rfl) (sbl rfl)), hIn6, trivial⟩, by rw [ht]; exact hP, hD⟩, hS.F ht⟩) hS.2.2 (oc_172 74 (aq_14 shX12_batchIs_60))
      ·
        refine lv_tableIn (tgt := 75) (off := 45) hx hb dX12_batchIs_30 (by (first | omega | (have zz0 := Hid.u hi_cn; omega))) (by (first | omega | (have zz0 := Hid.u hi_cn; omega))) (by rw [c_7]; rfl) (by decide) ?_
        refine lv_aload_n hx hb (oc_42 75 (aq_15 shX12_batchIs_60)) rfl (lvA0 hl) ?_
        refine lv_iload_n hx hb (oc_27 76 (aq_16 shX12_batchIs_60)) rfl (lvA1 hl) ?_
        have hFc := free_all hD hS hA
        refine va_calli (runV_a (As := [.int (nI d0)]) (rest := []) S (q_litresOf l D cI cB cZ g cn In6 Fn d0 H.size hIn6 (by (first | omega | (have zz0 := Hid.u hi_cn; omega)))) kV_RX12_444 hK hP hD 0 rfl rfl rfl ⟨Nat.le_of_ble_eq_true rfl, Nat.le_of_ble_eq_true rfl⟩ ⟨Nat.le_of_ble_eq_true rfl, Nat.le_of_ble_eq_true rfl⟩ rfl hl.1 rfl (Nat.le_of_ble_eq_true rfl) (oc_182 77 (aq_17 shX12_batchIs_60) uw_1_188)) hS (fun q _ h => hFc q h) hFc (fun r_8 u t H1 locs ht hvm wh_9 hB hz1 hk1 hS => ?_)
        obtain ⟨cn9, In9, Fn9⟩ := u
        obtain ⟨hP1, hD1⟩ := hB
        rw [ht] at hP1
        have hP : va_P D vwCl (wM cI cB cZ g cn9 In9 Fn9) H1 := hP1
        have hD : va_D A (wM cI cB cZ g cn9 In9 Fn9) := hD1.weaken (fun _ _ _ h => hFc _ h)
        generalize H1 = H at hP hS ⊢
        have vh_9 : (fun r c2 I2 F2 => Fr [] [71, 72, 73] [] cn In6 Fn c2 I2 F2 ∧ IM c2 F2 ∧ (r = nI (mixN ((Fn 10)) ((Fn 64) d0) 20))) r_8 cn9 In9 Fn9 := wh_9
        obtain ⟨hfc9, hIn9, h_9⟩ := vh_9
        obtain rfl : cn = cn9 := (funext (fun k => hfc9.1 k List.not_mem_nil)).symm
        obtain rfl : Fn = Fn9 := (funext (fun k => hfc9.2.2 k List.not_mem_nil)).symm
        have hf9 : Fr [] [71, 72, 73] [] cn In Fn cn In9 Fn := Fr.mo (Fr.tr hf6 hfc9) (sbl rfl) (sbl rfl) (sbl rfl)
        have hi_cn : Hid (CB cn) := hIn9.b
        subst h_9
        refine lv_aload_n hx hb (oc_42 80 (aq_20 shX12_batchIs_60)) rfl (lvA0 hl) ?_
        refine lv_iload_n hx hb (oc_27 81 (aq_21 shX12_batchIs_60)) rfl (lvA1 hl) ?_
        refine lv_iconst (v := (-1)) hx hb (oc_2 82 (aq_22 shX12_batchIs_60)) kic_m1 ?_
        have hFc := free_all hD hS hA
        refine va_calli (runV_a (As := [.int (nI d0), .int (-1)]) (rest := [.int (nI (mixN ((Fn 10)) ((Fn 64) d0) 20))]) S (q_proved l D cI cB cZ g cn In9 Fn d0 (-1) H.size hIn9 (by (first | omega | (have zz0 := Hid.u hi_cn; omega)))) kV_RX12_453 hK hP hD 0 rfl rfl rfl ⟨Nat.le_of_ble_eq_true rfl, Nat.le_of_ble_eq_true rfl⟩ ⟨Nat.le_of_ble_eq_true rfl, Nat.le_of_ble_eq_true rfl⟩ rfl hl.1 rfl (Nat.le_of_ble_eq_true rfl) (oc_182 83 (aq_23 shX12_batchIs_60) uw_1_197)) hS (fun q _ h => hFc q h) hFc (fun r_10 u t H1 locs ht hvm wh_11 hB hz1 hk1 hS => ?_)
        obtain ⟨cn11, In11, Fn11⟩ := u
        obtain ⟨hP1, hD1⟩ := hB
        rw [ht] at hP1
        have hP : va_P D vwCl (wM cI cB cZ g cn11 In11 Fn11) H1 := hP1
        have hD : va_D A (wM cI cB cZ g cn11 In11 Fn11) := hD1.weaken (fun _ _ _ h => hFc _ h)
        generalize H1 = H at hP hS ⊢
        have vh_11 : (fun r c2 I2 F2 => Fr [] [71, 72, 73] [] cn In9 Fn c2 I2 F2 ∧ IM c2 F2 ∧ (True)) r_10 cn11 In11 Fn11 := wh_11
        obtain ⟨hfc11, hIn11, h_11⟩ := vh_11
        obtain rfl : cn = cn11 := (funext (fun k => hfc11.1 k List.not_mem_nil)).symm
        obtain rfl : Fn = Fn11 := (funext (fun k => hfc11.2.2 k List.not_mem_nil)).symm
        have hf11 : Fr [] [71, 72, 73] [] cn In Fn cn In11 Fn := Fr.mo (Fr.tr hf9 hfc11) (sbl rfl) (sbl rfl) (sbl rfl)
        have hi_cn : Hid (CB cn) := hIn11.b
        refine lv_isub hx hb (oc_100 86 shX12_batchIs_86) ?_
        exact W.iret (v := ((nI (mixN ((Fn 10)) ((Fn 64) d0) 20)) - r_10)) hx hb hr (fun t ht hW => ⟨⟨((nI (mixN ((Fn 10)) ((Fn 64) d0) 20)) - r_10), (cn, In11, Fn), rfl, ⟨(Fr.mo hf11 (sbl rfl) (sbl rfl) (sbl rfl)), hIn11, trivial⟩, by rw [ht]; exact hP, hD⟩, hS.F ht⟩) hS.2.2 (oc_172 87 (aq_1 shX12_batchIs_86))
    ·
      have h_4 : ¬ (0 ≤ v1.toInt ∧ v1.toInt ≤ 4) := h_4
      refine lv_if_ne (tgt := 19) hx hb (oc_154 14 (aq_14 shX12_batchIs_0) sgw_0_5) rfl (fun h => absurd h cq_eq_0_0) (fun _ => ?_)
      refine lv_iconst (v := (-1)) hx hb (oc_2 17 (aq_17 shX12_batchIs_0)) kic_m1 ?_
      exact W.iret (v := (-1)) hx hb hr (fun t ht hW => ⟨⟨(-1), (cn, In, Fn), rfl, ⟨(Fr.mo Fr.rf (sbl rfl) (sbl rfl) (sbl rfl)), hI, trivial⟩, by rw [ht]; exact hP, hD⟩, hS.F ht⟩) hS.2.2 (oc_172 18 (aq_18 shX12_batchIs_0))
  ·
    have h_2 : ¬ (0 ≤ v0.toInt ∧ v0.toInt < ((cn 62) : Int)) := h_2
    refine lv_if_eq (tgt := 17) hx hb (oc_153 5 (aq_5 shX12_batchIs_0) sgw_0_12) rfl (fun _ => ?_) (fun h => absurd h cq_eq_0_0)
    refine lv_iconst (v := (-1)) hx hb (oc_2 17 (aq_17 shX12_batchIs_0)) kic_m1 ?_
    exact W.iret (v := (-1)) hx hb hr (fun t ht hW => ⟨⟨(-1), (cn, In, Fn), rfl, ⟨(Fr.mo Fr.rf (sbl rfl) (sbl rfl) (sbl rfl)), hI, trivial⟩, by rw [ht]; exact hP, hD⟩, hS.F ht⟩) hS.2.2 (oc_172 18 (aq_18 shX12_batchIs_0))
set_option maxRecDepth 100000 in
set_option maxHeartbeats 4000000 in
theorem q_bought (l : Launch) (D : va_G) (cI cB cZ : ClassId) (g : Nat → Nat) (cn : Nat → Nat) (In : Nat → Int32) (Fn : Nat → Nat → Int32) (v0 v1 : Int32) (sz : Nat) (hI : IM cn Fn) : Met l yX12_bought (CWS yX12_bought cX12_bought 3 (some .int)) (RM 3 0 0) (PBw [.ref (g 100), .int v0, .int v1] D cI cB cZ (wM cI cB cZ g cn In Fn) sz) (va_Qi (fun (r : Int32) (u : (Nat → Nat) × (Nat → Int32) × (Nat → Nat → Int32)) => (fun r c2 I2 F2 => Fr [] [71, 72, 73] [] cn In Fn c2 I2 F2 ∧ IM c2 F2 ∧ (True)) r u.1 u.2.1 u.2.2) (fun (u : (Nat → Nat) × (Nat → Int32) × (Nat → Nat → Int32)) (t : State) => va_P D vwCl (wM cI cB cZ g u.1 u.2.1 u.2.2) t.heap ∧ va_D (va_A (wM cI cB cZ g cn In Fn) sz) (wM cI cB cZ g u.1 u.2.1 u.2.2)) (va_A (wM cI cB cZ g cn In Fn) sz)) 0 0 (va_A (wM cI cB cZ g cn In Fn) sz) := by
  refine en_w (fun A => (va_Qi (fun (r : Int32) (u : (Nat → Nat) × (Nat → Int32) × (Nat → Nat → Int32)) => (fun (r : Int32) (c2 : Nat → Nat) (I2 : Nat → Int32) (F2 : Nat → Nat → Int32) => Fr [] [71, 72, 73] [] cn In Fn c2 I2 F2 ∧ IM c2 F2 ∧ (True)) r u.1 u.2.1 u.2.2) (fun (u : (Nat → Nat) × (Nat → Int32) × (Nat → Nat → Int32)) (t : State) => va_P D vwCl (wM cI cB cZ g u.1 u.2.1 u.2.2) t.heap ∧ va_D A (wM cI cB cZ g u.1 u.2.1 u.2.2)) A)) rfl rfl pn_RX12 (Nat.le_of_ble_eq_true rfl) (fun p e s m below meth c A hx hb hml hown S hr hlocks hnm hA hP hK hD hS ls hl => ?_)
  have hl : lv_has ls 3 [(0, .ref (g 100)), (1, .int v0), (2, .int v1)] := hl
  have hi_cn : Hid (CB cn) := hI.b
  refine lv_aload_n hx hb (oc_42 0 shX12_bought_0) rfl (lvA0 hl) ?_
  refine lv_iload_n hx hb (oc_27 1 (aq_1 shX12_bought_0)) rfl (lvA1 hl) ?_
  refine vp_callSi (runV_ra (As := [.int v0]) (rest := []) S (q_isBatch l D cI cB cZ g cn In Fn v0 hI) kV_RX12_450 hK hP 0 rfl rfl rfl ⟨Nat.le_of_ble_eq_true rfl, Nat.le_of_ble_eq_true rfl⟩ ⟨Nat.le_of_ble_eq_true rfl, Nat.le_of_ble_eq_true rfl⟩ rfl hl.1 rfl (Nat.le_of_ble_eq_true rfl) (oc_182 2 (aq_2 shX12_bought_0) uw_1_194)) (fun r_1 h_2 => ?_)
  rcases h_2 with ⟨rfl, h_2⟩ | ⟨rfl, h_2⟩
  ·
    have h_2 : 0 ≤ v0.toInt ∧ v0.toInt < ((cn 62) : Int) := h_2
    refine lv_if_eq (tgt := 27) hx hb (oc_153 5 (aq_5 shX12_bought_0) sgw_0_22) rfl (fun h => absurd h cq_eq_1_0) (fun _ => ?_)
    refine lv_iload_n hx hb (oc_28 8 (aq_8 shX12_bought_0)) rfl (lvA2 hl) ?_
    refine lv_iconst (v := 0) hx hb (oc_3 9 (aq_9 shX12_bought_0)) kic_0 ?_
    refine lv_bipush (v := 9) hx hb (oc_16 10 (aq_10 shX12_bought_0) sgb_9) kbc_9 ?_
    refine vp_callSi (runS_r (As := [.int v1, .int 0, .int 9]) (rest := []) S (q_in l D cI cB cZ v1 0 9 ) kS_RX12_214 hK hP [] rfl ⟨Nat.le_of_ble_eq_true rfl, Nat.le_of_ble_eq_true rfl⟩ ⟨Nat.le_of_ble_eq_true rfl, Nat.le_of_ble_eq_true rfl⟩ rfl hl.1 rfl (Nat.le_of_ble_eq_true rfl) (oc_184 12 (aq_12 shX12_bought_0) uw_0_214)) (fun r_3 h_4 => ?_)
    rcases h_4 with ⟨rfl, h_4⟩ | ⟨rfl, h_4⟩
    ·
      have h_4 : 0 ≤ v1.toInt ∧ v1.toInt ≤ 9 := h_4
      refine lv_if_eq (tgt := 27) hx hb (oc_153 15 (aq_15 shX12_bought_0) sgw_0_12) rfl (fun h => absurd h cq_eq_1_0) (fun _ => ?_)
      obtain ⟨d0, hd0, rfl⟩ := nI_of (x := v0) (fun q => by have := Int32.lt_iff_toInt_lt.mp q; have e : (0 : Int32).toInt = 0 := rfl; (first | omega | (have zz0 := Hid.u hi_cn; omega)))
      have td0 : (nI d0).toInt = (d0 : Int) := nI_toInt hd0
      have zd0 : (nI d0).toInt.toNat = d0 := by (first | omega | (have zz0 := Hid.u hi_cn; omega))
      refine lv_aload_n hx hb (oc_42 18 (aq_18 shX12_bought_0)) rfl (lvA0 hl) ?_
      refine lv_iload_n hx hb (oc_27 19 (aq_19 shX12_bought_0)) rfl (lvA1 hl) ?_
      refine lv_iload_n hx hb (oc_28 20 (aq_20 shX12_bought_0)) rfl (lvA2 hl) ?_
      have hFc := free_all hD hS hA
      refine va_calli (runV_a (As := [.int (nI d0), .int v1]) (rest := []) S (q_proved l D cI cB cZ g cn In Fn d0 v1 s.heap.size hI (by (first | omega | (have zz0 := Hid.u hi_cn; omega)))) kV_RX12_453 hK hP hD 0 rfl rfl rfl ⟨Nat.le_of_ble_eq_true rfl, Nat.le_of_ble_eq_true rfl⟩ ⟨Nat.le_of_ble_eq_true rfl, Nat.le_of_ble_eq_true rfl⟩ rfl hl.1 rfl (Nat.le_of_ble_eq_true rfl) (oc_182 21 (aq_21 shX12_bought_0) uw_1_197)) hS (fun q _ h => hFc q h) hFc (fun r_5 u t H1 locs ht hvm wh_6 hB hz1 hk1 hS => ?_)
      obtain ⟨cn6, In6, Fn6⟩ := u
      obtain ⟨hP1, hD1⟩ := hB
      rw [ht] at hP1
      have hP : va_P D vwCl (wM cI cB cZ g cn6 In6 Fn6) H1 := hP1
      have hD : va_D A (wM cI cB cZ g cn6 In6 Fn6) := hD1.weaken (fun _ _ _ h => hFc _ h)
      generalize H1 = H at hP hS ⊢
      have vh_6 : (fun r c2 I2 F2 => Fr [] [71, 72, 73] [] cn In Fn c2 I2 F2 ∧ IM c2 F2 ∧ (True)) r_5 cn6 In6 Fn6 := wh_6
      obtain ⟨hfc6, hIn6, h_6⟩ := vh_6
      obtain rfl : cn = cn6 := (funext (fun k => hfc6.1 k List.not_mem_nil)).symm
      obtain rfl : Fn = Fn6 := (funext (fun k => hfc6.2.2 k List.not_mem_nil)).symm
      have hf6 : Fr [] [71, 72, 73] [] cn In Fn cn In6 Fn := Fr.mo (Fr.tr (Fr.rf (cn := cn) (In := In) (Fn := Fn)) hfc6) (sbl rfl) (sbl rfl) (sbl rfl)
      have hi_cn : Hid (CB cn) := hIn6.b
      refine lv_goto (tgt := 28) hx hb (oc_167 24 shX12_bought_24 sgw_0_4) rfl ?_
      exact W.iret (v := r_5) hx hb hr (fun t ht hW => ⟨⟨r_5, (cn, In6, Fn), rfl, ⟨(Fr.mo hf6 (sbl rfl) (sbl rfl) (sbl rfl)), hIn6, trivial⟩, by rw [ht]; exact hP, hD⟩, hS.F ht⟩) hS.2.2 (oc_172 28 (aq_4 shX12_bought_24))
    ·
      have h_4 : ¬ (0 ≤ v1.toInt ∧ v1.toInt ≤ 9) := h_4
      refine lv_if_eq (tgt := 27) hx hb (oc_153 15 (aq_15 shX12_bought_0) sgw_0_12) rfl (fun _ => ?_) (fun h => absurd h cq_eq_0_0)
      refine lv_iconst (v := (-1)) hx hb (oc_2 27 (aq_3 shX12_bought_24)) kic_m1 ?_
      exact W.iret (v := (-1)) hx hb hr (fun t ht hW => ⟨⟨(-1), (cn, In, Fn), rfl, ⟨(Fr.mo Fr.rf (sbl rfl) (sbl rfl) (sbl rfl)), hI, trivial⟩, by rw [ht]; exact hP, hD⟩, hS.F ht⟩) hS.2.2 (oc_172 28 (aq_4 shX12_bought_24))
  ·
    have h_2 : ¬ (0 ≤ v0.toInt ∧ v0.toInt < ((cn 62) : Int)) := h_2
    refine lv_if_eq (tgt := 27) hx hb (oc_153 5 (aq_5 shX12_bought_0) sgw_0_22) rfl (fun _ => ?_) (fun h => absurd h cq_eq_0_0)
    refine lv_iconst (v := (-1)) hx hb (oc_2 27 (aq_3 shX12_bought_24)) kic_m1 ?_
    exact W.iret (v := (-1)) hx hb hr (fun t ht hW => ⟨⟨(-1), (cn, In, Fn), rfl, ⟨(Fr.mo Fr.rf (sbl rfl) (sbl rfl) (sbl rfl)), hI, trivial⟩, by rw [ht]; exact hP, hD⟩, hS.F ht⟩) hS.2.2 (oc_172 28 (aq_4 shX12_bought_24))
set_option maxRecDepth 100000 in
set_option maxHeartbeats 4000000 in
theorem q_loadAt (l : Launch) (D : va_G) (cI cB cZ : ClassId) (g : Nat → Nat) (cn : Nat → Nat) (In : Nat → Int32) (Fn : Nat → Nat → Int32) (b0 l0 : Nat) (hI : IM cn Fn) (hb0 : b0 < 10) (hl0 : l0 < 2147483648) : Met l yX12_loadAt (CWS yX12_loadAt cX12_loadAt 5 (some .int)) (RM 0 0 0) (PBr [.ref (g 100), .int (nI b0), .int (nI l0)] D cI cB cZ (wM cI cB cZ g cn In Fn)) (vp_Si (fun r => (r = -1 ∧ mixN (Fn 10) (Fn 64 b0) 20 ≤ l0) ∨ ∃ n : Nat, n < 20 ∧ r = nI n)) 0 0 (fun _ => False) := by
  refine en_r rfl pn_RX12 (Nat.le_of_ble_eq_true rfl) (fun p e s m below meth c hx hb hml hown S hr hlocks hnm hP hK hS ls hl => ?_)
  have hl : lv_has ls 5 [(0, .ref (g 100)), (1, .int (nI b0)), (2, .int (nI l0))] := hl
  have hi_cn : Hid (CB cn) := hI.b
  refine lv_iload_n hx hb (oc_28 0 shX12_loadAt_0) rfl (lvA2 hl) ?_
  refine lv_istore_n (lv' := [(3, .int (nI l0)), (0, .ref (g 100)), (1, .int (nI b0)), (2, .int (nI l0))]) hx hb (oc_62 1 (aq_1 shX12_loadAt_0)) rfl hl (ltb rfl) rfl (fun ls hl => ?_)
  refine lv_iconst (v := 0) hx hb (oc_3 2 (aq_2 shX12_loadAt_0)) kic_0 ?_
  refine lv_istore (lv' := [(4, .int 0), (3, .int (nI l0)), (0, .ref (g 100)), (1, .int (nI b0)), (2, .int (nI l0))]) hx hb (oc_54 3 (aq_3 shX12_loadAt_0) ub_4) hl (ltb rfl) rfl (fun ls hl => ?_)
  have lp_5 : ∀ (n : Nat) (i5 : Nat) (n5 : Nat) , 20 - i5 < n → (i5 ≤ 20 ∧ (l0 = n5 + mixN (Fn 10) (Fn 64 b0) i5)) → ∀ ls : Array Slot, lv_has ls 5 [(4, .int (nI i5)), (3, .int (nI n5)), (0, .ref (g 100)), (1, .int (nI b0)), (2, .int (nI l0))] → W p l e (RM 0 0 0) s m ([.ref (g 100), .int (nI b0), .int (nI l0)]).toArray below meth c s.heap [] 0 0 (MQ below (vp_Si (fun r => (r = -1 ∧ mixN (Fn 10) (Fn 64 b0) 20 ≤ l0) ∨ ∃ n : Nat, n < 20 ∧ r = nI n)) ([.ref (g 100), .int (nI b0), .int (nI l0)]).toArray s 0 0 (fun _ => False)) (F0 m 5 ls []) := by
    intro n5
    induction n5 with
    | zero => intros; (first | omega | (have zz0 := Hid.u hi_cn; omega))
    | succ n5 ih5 =>
      intro i5 n5 hmu5 hinv5 ls hl
      obtain ⟨hr5, hx5_0⟩ := hinv5
      have ti5 : (nI i5).toInt = (i5 : Int) := nI_toInt (by (first | omega | (have zz0 := Hid.u hi_cn; omega)))
      refine lv_iload hx hb (oc_21 5 (aq_5 shX12_loadAt_0) ub_4) (lvA0 hl) ?_
      refine lv_bipush (v := 20) hx hb (oc_16 7 (aq_7 shX12_loadAt_0) sgb_20) kbc_20 ?_
      refine lv_icmp_ge (tgt := 59) hx hb (oc_162 9 (aq_9 shX12_loadAt_0) sgw_0_50) rfl (fun c_1 => ?_) (fun c_1 => ?_)
      ·
        have tc_1 : (20 : Int) ≤ (nI i5).toInt := Int32.le_iff_toInt_le.mp c_1
        refine lv_iconst (v := (-1)) hx hb (oc_2 59 (aq_9 shX12_loadAt_50)) kic_m1 ?_
        exact W.iret (v := (-1)) hx hb hr (fun t ht hW => ⟨(-1), rfl, (Or.inl ⟨rfl, by rw [show (20 : Nat) = i5 by (first | omega | (have zz0 := Hid.u hi_cn; omega))]; (first | omega | (have zz0 := Hid.u hi_cn; omega))⟩), ht⟩) (fun _ h => absurd h List.not_mem_nil) (oc_172 60 (aq_10 shX12_loadAt_50))
      ·
        have tc_1 : ((nI i5).toInt : Int) < 20 := Int32.lt_iff_toInt_lt.mp (Int32.not_le.mp c_1)
        refine lv_aload_n hx hb (oc_42 12 (aq_12 shX12_loadAt_0)) rfl (lvA2 hl) ?_
        refine gM_138 S hK hP (v := .ref (g 64)) rfl (oc_180 13 (aq_13 shX12_loadAt_0) uw_0_138) ?_
        refine lv_iload_n hx hb (oc_27 16 (aq_16 shX12_loadAt_0)) rfl (lvA3 hl) ?_
        have kb_1 : b0 < 10 := by (first | omega | (have zz0 := Hid.u hi_cn; omega))
        refine ldM_64 hx hb hK hP (x := ((Fn 64) b0)) (vp_in_nI kb_1 (ltb rfl)) (nI_clamp (Nat.lt_trans kb_1 (ltb rfl))) rfl (oc_46 17 (aq_17 shX12_loadAt_0)) ?_
        refine lv_iload hx hb (oc_21 18 (aq_18 shX12_loadAt_0) ub_4) (lvA0 hl) ?_
        refine lv_ishr hx hb (oc_122 20 (aq_20 shX12_loadAt_0)) ?_
        refine lv_iconst (v := 1) hx hb (oc_4 21 (aq_21 shX12_loadAt_0)) kic_1 ?_
        refine lv_iand hx hb (oc_126 22 (aq_22 shX12_loadAt_0)) ?_
        refine lv_if_ne (tgt := 29) hx hb (oc_154 23 (aq_23 shX12_loadAt_0) sgw_0_6) rfl (fun c_2 => ?_) (fun c_2 => ?_)
        ·
          have tc_2 : (((((Fn 64) b0) >>> ((nI i5) &&& 31)) &&& 1).toInt : Int) ≠ 0 := fun q => c_2 (Int32.toInt_inj.mp q)
          refine lv_iload_n hx hb (oc_29 29 (aq_3 shX12_loadAt_26)) rfl (lvA1 hl) ?_
          refine lv_aload_n hx hb (oc_42 30 (aq_4 shX12_loadAt_26)) rfl (lvA2 hl) ?_
          refine gM_31 S hK hP (v := .ref (g 10)) rfl (oc_180 31 (aq_5 shX12_loadAt_26) uw_0_31) ?_
          refine lv_iload hx hb (oc_21 34 (aq_8 shX12_loadAt_26) ub_4) (lvA0 hl) ?_
          have kb_2 : i5 < 60 := by (first | omega | (have zz0 := Hid.u hi_cn; omega))
          obtain ⟨a_3, ha_3, ea_3⟩ := hI.e10 i5 (by (first | omega | (have zz0 := Hid.u hi_cn; omega)))
          refine ldM_10 hx hb hK hP (x := (nI a_3)) (vp_in_nI kb_2 (ltb rfl)) (nI_clamp (Nat.lt_trans kb_2 (ltb rfl))) ea_3 (oc_46 36 (aq_10 shX12_loadAt_26)) ?_
          have : (nI n5).toInt = ((n5 : Nat) : Int) := nI_toInt (by (first | omega | (have zz0 := Hid.u hi_cn; omega)))
          have : (nI a_3).toInt = ((a_3 : Nat) : Int) := nI_toInt (by (first | omega | (have zz0 := Hid.u hi_cn; omega)))
          refine lv_icmp_ge (tgt := 43) hx hb (oc_162 37 (aq_11 shX12_loadAt_26) sgw_0_6) rfl (fun c_4 => ?_) (fun c_4 => ?_)
          ·
            have tc_4 : ((nI a_3).toInt : Int) ≤ (nI n5).toInt := Int32.le_iff_toInt_le.mp c_4
            refine lv_iload_n hx hb (oc_29 43 (aq_17 shX12_loadAt_26)) rfl (lvA1 hl) ?_
            refine lv_aload_n hx hb (oc_42 44 (aq_18 shX12_loadAt_26)) rfl (lvA2 hl) ?_
            refine gM_31 S hK hP (v := .ref (g 10)) rfl (oc_180 45 (aq_19 shX12_loadAt_26) uw_0_31) ?_
            refine lv_iload hx hb (oc_21 48 (aq_22 shX12_loadAt_26) ub_4) (lvA0 hl) ?_
            refine ldM_10 hx hb hK hP (x := (nI a_3)) (vp_in_nI kb_2 (ltb rfl)) (nI_clamp (Nat.lt_trans kb_2 (ltb rfl))) ea_3 (oc_46 50 shX12_loadAt_50) ?_
            refine lv_isub hx hb (oc_100 51 (aq_1 shX12_loadAt_50)) ?_
            refine lv_topi (fun y_5 ey_5 => ?_)
            obtain rfl : y_5 = (nI (n5 - a_3)) := ey_5.trans (nI_sub (by (first | omega | (have zz0 := Hid.u hi_cn; omega))))
            refine lv_istore_n (lv' := [(3, .int (nI (n5 - a_3))), (4, .int (nI i5)), (0, .ref (g 100)), (1, .int (nI b0)), (2, .int (nI l0))]) hx hb (oc_62 52 (aq_2 shX12_loadAt_50)) rfl hl (ltb rfl) rfl (fun ls hl => ?_)
            refine lv_iinc (v := (nI (i5 + 1))) (lv' := [(4, .int (nI (i5 + 1))), (3, .int (nI (n5 - a_3))), (0, .ref (g 100)), (1, .int (nI b0)), (2, .int (nI l0))]) hx hb (oc_132 53 (aq_3 shX12_loadAt_50) ub_4 sgb_1) hl (k := 1) rfl (nI_1 _) (ltb rfl) rfl (fun ls hl => ?_)
            refine lv_goto (tgt := 5) hx hb (oc_167 56 (aq_6 shX12_loadAt_50) sgw_255_205) rfl ?_
            exact ih5 (i5 + 1) (n5 - a_3) (by (first | omega | (have zz0 := Hid.u hi_cn; omega))) ⟨(by (first | omega | (have zz0 := Hid.u hi_cn; omega))), (by first | (rw [mixN_0 (by assumption)]; (first | omega | (have zz0 := Hid.u hi_cn; omega))) | (rw [mixN_1 (by assumption) (by assumption) (by (first | omega | (have zz0 := Hid.u hi_cn; omega)))]; (first | omega | (have zz0 := Hid.u hi_cn; omega))))⟩ ls (lv_sub hl [0, 1, 2, 3, 4] rfl)
          ·
            have tc_4 : ((nI n5).toInt : Int) < (nI a_3).toInt := Int32.lt_iff_toInt_lt.mp (Int32.not_le.mp c_4)
            refine lv_iload hx hb (oc_21 40 (aq_14 shX12_loadAt_26) ub_4) (lvA0 hl) ?_
            exact W.iret (v := (nI i5)) hx hb hr (fun t ht hW => ⟨(nI i5), rfl, (Or.inr ⟨i5, by (first | omega | (have zz0 := Hid.u hi_cn; omega)), rfl⟩), ht⟩) (fun _ h => absurd h List.not_mem_nil) (oc_172 42 (aq_16 shX12_loadAt_26))
        ·
          have tc_2 : (((((Fn 64) b0) >>> ((nI i5) &&& 31)) &&& 1).toInt : Int) = 0 := congrArg Int32.toInt c_2
          refine lv_goto (tgt := 53) hx hb (oc_167 26 shX12_loadAt_26 sgw_0_27) rfl ?_
          refine lv_iinc (v := (nI (i5 + 1))) (lv' := [(4, .int (nI (i5 + 1))), (3, .int (nI n5)), (0, .ref (g 100)), (1, .int (nI b0)), (2, .int (nI l0))]) hx hb (oc_132 53 (aq_3 shX12_loadAt_50) ub_4 sgb_1) hl (k := 0) rfl (nI_1 _) (ltb rfl) rfl (fun ls hl => ?_)
          refine lv_goto (tgt := 5) hx hb (oc_167 56 (aq_6 shX12_loadAt_50) sgw_255_205) rfl ?_
          exact ih5 (i5 + 1) n5 (by (first | omega | (have zz0 := Hid.u hi_cn; omega))) ⟨(by (first | omega | (have zz0 := Hid.u hi_cn; omega))), (by first | (rw [mixN_0 (by assumption)]; (first | omega | (have zz0 := Hid.u hi_cn; omega))) | (rw [mixN_1 (by assumption) (by assumption) (by (first | omega | (have zz0 := Hid.u hi_cn; omega)))]; (first | omega | (have zz0 := Hid.u hi_cn; omega))))⟩ ls (lv_sub hl [0, 1, 2, 3, 4] rfl)
  exact lp_5 _ 0 l0 (Nat.lt_succ_self _) ⟨(by (first | omega | (have zz0 := Hid.u hi_cn; omega))), rfl⟩ ls (lv_sub hl [0, 1, 2, 3, 4] rfl)
set_option maxRecDepth 100000 in
set_option maxHeartbeats 4000000 in
theorem q_whence (l : Launch) (D : va_G) (cI cB cZ : ClassId) (g : Nat → Nat) (cn : Nat → Nat) (In : Nat → Int32) (Fn : Nat → Nat → Int32) (v0 v1 : Int32) (sz : Nat) (hI : IM cn Fn) : Met l yX12_whence (CWS yX12_whence cX12_whence 3 (some .int)) (RM 2 0 0) (PBw [.ref (g 100), .int v0, .int v1] D cI cB cZ (wM cI cB cZ g cn In Fn) sz) (va_Qi (fun (r : Int32) (u : (Nat → Nat) × (Nat → Int32) × (Nat → Nat → Int32)) => (fun r c2 I2 F2 => Fr [] [71, 72, 73] [] cn In Fn c2 I2 F2 ∧ IM c2 F2 ∧ (True)) r u.1 u.2.1 u.2.2) (fun (u : (Nat → Nat) × (Nat → Int32) × (Nat → Nat → Int32)) (t : State) => va_P D vwCl (wM cI cB cZ g u.1 u.2.1 u.2.2) t.heap ∧ va_D (va_A (wM cI cB cZ g cn In Fn) sz) (wM cI cB cZ g u.1 u.2.1 u.2.2)) (va_A (wM cI cB cZ g cn In Fn) sz)) 0 0 (va_A (wM cI cB cZ g cn In Fn) sz) := by
  refine en_w (fun A => (va_Qi (fun (r : Int32) (u : (Nat → Nat) × (Nat → Int32) × (Nat → Nat → Int32)) => (fun (r : Int32) (c2 : Nat → Nat) (I2 : Nat → Int32) (F2 : Nat → Nat → Int32) => Fr [] [71, 72, 73] [] cn In Fn c2 I2 F2 ∧ IM c2 F2 ∧ (True)) r u.1 u.2.1 u.2.2) (fun (u : (Nat → Nat) × (Nat → Int32) × (Nat → Nat → Int32)) (t : State) => va_P D vwCl (wM cI cB cZ g u.1 u.2.1 u.2.2) t.heap ∧ va_D A (wM cI cB cZ g u.1 u.2.1 u.2.2)) A)) rfl rfl pn_RX12 (Nat.le_of_ble_eq_true rfl) (fun p e s m below meth c A hx hb hml hown S hr hlocks hnm hA hP hK hD hS ls hl => ?_)
  have hl : lv_has ls 3 [(0, .ref (g 100)), (1, .int v0), (2, .int v1)] := hl
  have hi_cn : Hid (CB cn) := hI.b
  refine lv_aload_n hx hb (oc_42 0 shX12_whence_0) rfl (lvA0 hl) ?_
  refine lv_iload_n hx hb (oc_27 1 (aq_1 shX12_whence_0)) rfl (lvA1 hl) ?_
  refine vp_callSi (runV_ra (As := [.int v0]) (rest := []) S (q_isBatch l D cI cB cZ g cn In Fn v0 hI) kV_RX12_450 hK hP 0 rfl rfl rfl ⟨Nat.le_of_ble_eq_true rfl, Nat.le_of_ble_eq_true rfl⟩ ⟨Nat.le_of_ble_eq_true rfl, Nat.le_of_ble_eq_true rfl⟩ rfl hl.1 rfl (Nat.le_of_ble_eq_true rfl) (oc_182 2 (aq_2 shX12_whence_0) uw_1_194)) (fun r_1 h_2 => ?_)
  rcases h_2 with ⟨rfl, h_2⟩ | ⟨rfl, h_2⟩
  ·
    have h_2 : 0 ≤ v0.toInt ∧ v0.toInt < ((cn 62) : Int) := h_2
    refine lv_if_eq (tgt := 32) hx hb (oc_153 5 (aq_5 shX12_whence_0) sgw_0_27) rfl (fun h => absurd h cq_eq_1_0) (fun _ => ?_)
    obtain ⟨d0, hd0, rfl⟩ := nI_of (x := v0) (fun q => by have := Int32.lt_iff_toInt_lt.mp q; have e : (0 : Int32).toInt = 0 := rfl; (first | omega | (have zz0 := Hid.u hi_cn; omega)))
    have td0 : (nI d0).toInt = (d0 : Int) := nI_toInt hd0
    have zd0 : (nI d0).toInt.toNat = d0 := by (first | omega | (have zz0 := Hid.u hi_cn; omega))
    refine lv_iload_n hx hb (oc_28 8 (aq_8 shX12_whence_0)) rfl (lvA2 hl) ?_
    refine lv_iconst (v := 0) hx hb (oc_3 9 (aq_9 shX12_whence_0)) kic_0 ?_
    refine lv_aload_n hx hb (oc_42 10 (aq_10 shX12_whence_0)) rfl (lvA0 hl) ?_
    refine lv_iload_n hx hb (oc_27 11 (aq_11 shX12_whence_0)) rfl (lvA1 hl) ?_
    have hFc := free_all hD hS hA
    refine va_calli (runV_a (As := [.int (nI d0)]) (rest := [.int 0, .int v1]) S (q_litresOf l D cI cB cZ g cn In Fn d0 s.heap.size hI (by (first | omega | (have zz0 := Hid.u hi_cn; omega)))) kV_RX12_444 hK hP hD 0 rfl rfl rfl ⟨Nat.le_of_ble_eq_true rfl, Nat.le_of_ble_eq_true rfl⟩ ⟨Nat.le_of_ble_eq_true rfl, Nat.le_of_ble_eq_true rfl⟩ rfl hl.1 rfl (Nat.le_of_ble_eq_true rfl) (oc_182 12 (aq_12 shX12_whence_0) uw_1_188)) hS (fun q _ h => hFc q h) hFc (fun r_3 u t H1 locs ht hvm wh_4 hB hz1 hk1 hS => ?_)
    obtain ⟨cn4, In4, Fn4⟩ := u
    obtain ⟨hP1, hD1⟩ := hB
    rw [ht] at hP1
    have hP : va_P D vwCl (wM cI cB cZ g cn4 In4 Fn4) H1 := hP1
    have hD : va_D A (wM cI cB cZ g cn4 In4 Fn4) := hD1.weaken (fun _ _ _ h => hFc _ h)
    generalize H1 = H at hP hS ⊢
    have vh_4 : (fun r c2 I2 F2 => Fr [] [71, 72, 73] [] cn In Fn c2 I2 F2 ∧ IM c2 F2 ∧ (r = nI (mixN ((Fn 10)) ((Fn 64) d0) 20))) r_3 cn4 In4 Fn4 := wh_4
    obtain ⟨hfc4, hIn4, h_4⟩ := vh_4
    obtain rfl : cn = cn4 := (funext (fun k => hfc4.1 k List.not_mem_nil)).symm
    obtain rfl : Fn = Fn4 := (funext (fun k => hfc4.2.2 k List.not_mem_nil)).symm
    have hf4 : Fr [] [71, 72, 73] [] cn In Fn cn In4 Fn := Fr.mo (Fr.tr (Fr.rf (cn := cn) (In := In) (Fn := Fn)) hfc4) (sbl rfl) (sbl rfl) (sbl rfl)
    have hi_cn : Hid (CB cn) := hIn4.b
    subst h_4
    refine lv_iconst (v := 1) hx hb (oc_4 15 (aq_15 shX12_whence_0)) kic_1 ?_
    refine lv_isub hx hb (oc_100 16 (aq_16 shX12_whence_0)) ?_
    refine vp_callSi (runS_r (As := [.int v1, .int 0, .int ((nI (mixN ((Fn 10)) ((Fn 64) d0) 20)) - 1)]) (rest := []) S (q_in l D cI cB cZ v1 0 ((nI (mixN ((Fn 10)) ((Fn 64) d0) 20)) - 1) ) kS_RX12_214 hK hP [] rfl ⟨Nat.le_of_ble_eq_true rfl, Nat.le_of_ble_eq_true rfl⟩ ⟨Nat.le_of_ble_eq_true rfl, Nat.le_of_ble_eq_true rfl⟩ rfl hl.1 rfl (Nat.le_of_ble_eq_true rfl) (oc_184 17 (aq_17 shX12_whence_0) uw_0_214)) (fun r_5 h_6 => ?_)
    rcases h_6 with ⟨rfl, h_6⟩ | ⟨rfl, h_6⟩
    ·
      have h_6 : 0 ≤ v1.toInt ∧ v1.toInt ≤ ((nI (mixN ((Fn 10)) ((Fn 64) d0) 20)) - 1).toInt := h_6
      refine lv_if_eq (tgt := 32) hx hb (oc_153 20 (aq_20 shX12_whence_0) sgw_0_12) rfl (fun h => absurd h cq_eq_1_0) (fun _ => ?_)
      obtain ⟨d1, hd1, rfl⟩ := nI_of (x := v1) (fun q => by have := Int32.lt_iff_toInt_lt.mp q; have e : (0 : Int32).toInt = 0 := rfl; (first | omega | (have zz0 := Hid.u hi_cn; omega)))
      have td1 : (nI d1).toInt = (d1 : Int) := nI_toInt hd1
      have zd1 : (nI d1).toInt.toNat = d1 := by (first | omega | (have zz0 := Hid.u hi_cn; omega))
      refine lv_aload_n hx hb (oc_42 23 (aq_23 shX12_whence_0)) rfl (lvA0 hl) ?_
      refine lv_iload_n hx hb (oc_27 24 shX12_whence_24) rfl (lvA1 hl) ?_
      refine lv_iload_n hx hb (oc_28 25 (aq_1 shX12_whence_24)) rfl (lvA2 hl) ?_
      refine vp_callSi (runV_ra (As := [.int (nI d0), .int (nI d1)]) (rest := []) S (q_loadAt l D cI cB cZ g cn In4 Fn d0 d1 hIn4 (by (first | omega | (have zz0 := Hid.u hi_cn; omega))) (by (first | omega | (have zz0 := Hid.u hi_cn; omega)))) kV_RX12_456 hK hP 0 rfl rfl rfl ⟨Nat.le_of_ble_eq_true rfl, Nat.le_of_ble_eq_true rfl⟩ ⟨Nat.le_of_ble_eq_true rfl, Nat.le_of_ble_eq_true rfl⟩ rfl hl.1 rfl (Nat.le_of_ble_eq_true rfl) (oc_182 26 (aq_2 shX12_whence_24) uw_1_200)) (fun r_7 h_8 => ?_)
      rcases h_8 with ⟨rfl, kh_8⟩ | ⟨mr_7, hr_7, rfl⟩
      ·
        refine lv_goto (tgt := 33) hx hb (oc_167 29 (aq_5 shX12_whence_24) sgw_0_4) rfl ?_
        exact W.iret (v := (-1)) hx hb hr (fun t ht hW => ⟨⟨(-1), (cn, In4, Fn), rfl, ⟨(Fr.mo hf4 (sbl rfl) (sbl rfl) (sbl rfl)), hIn4, trivial⟩, by rw [ht]; exact hP, hD⟩, hS.F ht⟩) hS.2.2 dX12_whence_33
      ·
        refine lv_goto (tgt := 33) hx hb (oc_167 29 (aq_5 shX12_whence_24) sgw_0_4) rfl ?_
        exact W.iret (v := (nI mr_7)) hx hb hr (fun t ht hW => ⟨⟨(nI mr_7), (cn, In4, Fn), rfl, ⟨(Fr.mo hf4 (sbl rfl) (sbl rfl) (sbl rfl)), hIn4, trivial⟩, by rw [ht]; exact hP, hD⟩, hS.F ht⟩) hS.2.2 dX12_whence_33
    ·
      have h_6 : ¬ (0 ≤ v1.toInt ∧ v1.toInt ≤ ((nI (mixN ((Fn 10)) ((Fn 64) d0) 20)) - 1).toInt) := h_6
      refine lv_if_eq (tgt := 32) hx hb (oc_153 20 (aq_20 shX12_whence_0) sgw_0_12) rfl (fun _ => ?_) (fun h => absurd h cq_eq_0_0)
      refine lv_iconst (v := (-1)) hx hb (oc_2 32 (aq_8 shX12_whence_24)) kic_m1 ?_
      exact W.iret (v := (-1)) hx hb hr (fun t ht hW => ⟨⟨(-1), (cn, In4, Fn), rfl, ⟨(Fr.mo hf4 (sbl rfl) (sbl rfl) (sbl rfl)), hIn4, trivial⟩, by rw [ht]; exact hP, hD⟩, hS.F ht⟩) hS.2.2 dX12_whence_33
  ·
    have h_2 : ¬ (0 ≤ v0.toInt ∧ v0.toInt < ((cn 62) : Int)) := h_2
    refine lv_if_eq (tgt := 32) hx hb (oc_153 5 (aq_5 shX12_whence_0) sgw_0_27) rfl (fun _ => ?_) (fun h => absurd h cq_eq_0_0)
    refine lv_iconst (v := (-1)) hx hb (oc_2 32 (aq_8 shX12_whence_24)) kic_m1 ?_
    exact W.iret (v := (-1)) hx hb hr (fun t ht hW => ⟨⟨(-1), (cn, In, Fn), rfl, ⟨(Fr.mo Fr.rf (sbl rfl) (sbl rfl) (sbl rfl)), hI, trivial⟩, by rw [ht]; exact hP, hD⟩, hS.F ht⟩) hS.2.2 dX12_whence_33
set_option maxRecDepth 100000 in
set_option maxHeartbeats 4000000 in
theorem q_audit (l : Launch) (D : va_G) (cI cB cZ : ClassId) (g : Nat → Nat) (cn : Nat → Nat) (In : Nat → Int32) (Fn : Nat → Nat → Int32) (v0 v1 : Int32) (hI : IM cn Fn) : Met l yX12_audit (CWS yX12_audit cX12_audit 5 (some .int)) (RM 1 0 0) (PBr [.ref (g 100), .int v0, .int v1] D cI cB cZ (wM cI cB cZ g cn In Fn)) (vp_Si (fun _ => True)) 0 0 (fun _ => False) := by
  refine en_r rfl pn_RX12 (Nat.le_of_ble_eq_true rfl) (fun p e s m below meth c hx hb hml hown S hr hlocks hnm hP hK hS ls hl => ?_)
  have hl : lv_has ls 5 [(0, .ref (g 100)), (1, .int v0), (2, .int v1)] := hl
  have hi_cn : Hid (CB cn) := hI.b
  refine lv_aload_n hx hb (oc_42 0 shX12_audit_0) rfl (lvA0 hl) ?_
  refine lv_iload_n hx hb (oc_27 1 (aq_1 shX12_audit_0)) rfl (lvA1 hl) ?_
  refine vp_callSi (runV_ra (As := [.int v0]) (rest := []) S (q_isProof l D cI cB cZ g cn In Fn v0 hI) kV_RX12_459 hK hP 0 rfl rfl rfl ⟨Nat.le_of_ble_eq_true rfl, Nat.le_of_ble_eq_true rfl⟩ ⟨Nat.le_of_ble_eq_true rfl, Nat.le_of_ble_eq_true rfl⟩ rfl hl.1 rfl (Nat.le_of_ble_eq_true rfl) (oc_182 2 (aq_2 shX12_audit_0) uw_1_203)) (fun r_1 h_2 => ?_)
  rcases h_2 with ⟨rfl, h_2⟩ | ⟨rfl, h_2⟩
  ·
    have h_2 : 0 ≤ v0.toInt ∧ v0.toInt < ((cn 63) : Int) := h_2
    refine lv_if_eq (tgt := 16) hx hb (oc_153 5 (aq_5 shX12_audit_0) sgw_0_11) rfl (fun h => absurd h cq_eq_1_0) (fun _ => ?_)
    refine lv_aload_n hx hb (oc_42 8 (aq_8 shX12_audit_0)) rfl (lvA0 hl) ?_
    refine lv_iload_n hx hb (oc_28 9 (aq_9 shX12_audit_0)) rfl (lvA2 hl) ?_
    refine vp_callSi (runV_ra (As := [.int v1]) (rest := []) S (q_isKitchen l D cI cB cZ g cn In Fn v1 hI) kV_RX12_218 hK hP 0 rfl rfl rfl ⟨Nat.le_of_ble_eq_true rfl, Nat.le_of_ble_eq_true rfl⟩ ⟨Nat.le_of_ble_eq_true rfl, Nat.le_of_ble_eq_true rfl⟩ rfl hl.1 rfl (Nat.le_of_ble_eq_true rfl) (oc_182 10 (aq_10 shX12_audit_0) uw_0_218)) (fun r_3 h_4 => ?_)
    rcases h_4 with ⟨rfl, h_4⟩ | ⟨rfl, h_4⟩
    ·
      have h_4 : 0 ≤ v1.toInt ∧ v1.toInt < ((cn 1) : Int) := h_4
      refine lv_if_ne (tgt := 18) hx hb (oc_154 13 (aq_13 shX12_audit_0) sgw_0_5) rfl (fun _ => ?_) (fun h => absurd h cq_eq_1_0)
      obtain ⟨d0, hd0, rfl⟩ := nI_of (x := v0) (fun q => by have := Int32.lt_iff_toInt_lt.mp q; have e : (0 : Int32).toInt = 0 := rfl; (first | omega | (have zz0 := Hid.u hi_cn; omega)))
      have td0 : (nI d0).toInt = (d0 : Int) := nI_toInt hd0
      have zd0 : (nI d0).toInt.toNat = d0 := by (first | omega | (have zz0 := Hid.u hi_cn; omega))
      obtain ⟨b69, hb69, eb69⟩ := hI.e69 d0 (by (first | omega | (have zz0 := Hid.u hi_cn; omega)))
      refine lv_iconst (v := 0) hx hb (oc_3 18 (aq_18 shX12_audit_0)) kic_0 ?_
      refine lv_istore_n (lv' := [(3, .int 0), (0, .ref (g 100)), (1, .int (nI d0)), (2, .int v1)]) hx hb (oc_62 19 (aq_19 shX12_audit_0)) rfl hl (ltb rfl) rfl (fun ls hl => ?_)
      refine lv_aload_n hx hb (oc_42 20 (aq_20 shX12_audit_0)) rfl (lvA1 hl) ?_
      refine gM_150 S hK hP (v := .ref (g 68)) rfl (oc_180 21 (aq_21 shX12_audit_0) uw_0_150) ?_
      refine lv_iload_n hx hb (oc_27 24 shX12_audit_24) rfl (lvA2 hl) ?_
      have kb_1 : d0 < 40 := by (first | omega | (have zz0 := Hid.u hi_cn; omega))
      obtain ⟨a_5, ha_5, ea_5⟩ := hI.e68 d0 (by (first | omega | (have zz0 := Hid.u hi_cn; omega)))
      refine ldM_68 hx hb hK hP (x := (nI a_5)) (vp_in_nI kb_1 (ltb rfl)) (nI_clamp (Nat.lt_trans kb_1 (ltb rfl))) ea_5 (oc_46 25 (aq_1 shX12_audit_24)) ?_
      refine lv_istore (lv' := [(4, .int (nI a_5)), (3, .int 0), (0, .ref (g 100)), (1, .int (nI d0)), (2, .int v1)]) hx hb (oc_54 26 (aq_2 shX12_audit_24) ub_4) hl (ltb rfl) rfl (fun ls hl => ?_)
      have lp_28 : ∀ (n : Nat) (i28 : Nat) (x28_3 : Int32) , b69 - i28 < n → ((i28 ≤ 8000)) → ∀ ls : Array Slot, lv_has ls 5 [(4, .int (nI i28)), (3, .int x28_3), (0, .ref (g 100)), (1, .int (nI d0)), (2, .int v1)] → W p l e (RM 1 0 0) s m ([.ref (g 100), .int (nI d0), .int v1]).toArray below meth c s.heap [] 0 0 (MQ below (vp_Si (fun _ => True)) ([.ref (g 100), .int (nI d0), .int v1]).toArray s 0 0 (fun _ => False)) (F0 m 28 ls []) := by
        intro n28
        induction n28 with
        | zero => intros; (first | omega | (have zz0 := Hid.u hi_cn; omega))
        | succ n28 ih28 =>
          intro i28 x28_3 hmu28 hinv28 ls hl
          have hr28 := hinv28
          have ti28 : (nI i28).toInt = (i28 : Int) := nI_toInt (by (first | omega | (have zz0 := Hid.u hi_cn; omega)))
          refine lv_iload hx hb (oc_21 28 (aq_4 shX12_audit_24) ub_4) (lvA0 hl) ?_
          refine lv_aload_n hx hb (oc_42 30 (aq_6 shX12_audit_24)) rfl (lvA2 hl) ?_
          refine gM_153 S hK hP (v := .ref (g 69)) rfl (oc_180 31 (aq_7 shX12_audit_24) uw_0_153) ?_
          refine lv_iload_n hx hb (oc_27 34 (aq_10 shX12_audit_24)) rfl (lvA3 hl) ?_
          refine ldM_69 hx hb hK hP (x := (nI b69)) (vp_in_nI kb_1 (ltb rfl)) (nI_clamp (Nat.lt_trans kb_1 (ltb rfl))) eb69 (oc_46 35 (aq_11 shX12_audit_24)) ?_
          have : (nI b69).toInt = ((b69 : Nat) : Int) := nI_toInt (by (first | omega | (have zz0 := Hid.u hi_cn; omega)))
          refine lv_icmp_ge (tgt := 74) hx hb (oc_162 36 (aq_12 shX12_audit_24) sgw_0_38) rfl (fun c_6 => ?_) (fun c_6 => ?_)
          ·
            have tc_6 : ((nI b69).toInt : Int) ≤ (nI i28).toInt := Int32.le_iff_toInt_le.mp c_6
            refine lv_iload_n hx hb (oc_29 74 shX12_audit_74) rfl (lvA1 hl) ?_
            exact W.iret (v := x28_3) hx hb hr (fun t ht hW => ⟨x28_3, rfl, trivial, ht⟩) (fun _ h => absurd h List.not_mem_nil) (oc_172 75 (aq_1 shX12_audit_74))
          ·
            have tc_6 : ((nI i28).toInt : Int) < (nI b69).toInt := Int32.lt_iff_toInt_lt.mp (Int32.not_le.mp c_6)
            refine lv_iload_n hx hb (oc_29 39 (aq_15 shX12_audit_24)) rfl (lvA1 hl) ?_
            refine lv_aload_n hx hb (oc_42 40 (aq_16 shX12_audit_24)) rfl (lvA2 hl) ?_
            refine gM_25 S hK hP (v := .ref (g 8)) rfl (oc_180 41 (aq_17 shX12_audit_24) uw_0_25) ?_
            refine lv_aload_n hx hb (oc_42 44 (aq_20 shX12_audit_24)) rfl (lvA2 hl) ?_
            refine lv_aload_n hx hb (oc_42 45 (aq_21 shX12_audit_24)) rfl (lvA2 hl) ?_
            refine gM_147 S hK hP (v := .ref (g 67)) rfl (oc_180 46 (aq_22 shX12_audit_24) uw_0_147) ?_
            refine lv_iload_n hx hb (oc_27 49 shX12_audit_49) rfl (lvA3 hl) ?_
            obtain ⟨a_7, ha_7, ea_7⟩ := hI.e67 d0 (by (first | omega | (have zz0 := Hid.u hi_cn; omega)))
            refine ldM_67 hx hb hK hP (x := (nI a_7)) (vp_in_nI kb_1 (ltb rfl)) (nI_clamp (Nat.lt_trans kb_1 (ltb rfl))) ea_7 (oc_46 50 (aq_1 shX12_audit_49)) ?_
            refine lv_iload hx hb (oc_21 51 (aq_2 shX12_audit_49) ub_4) (lvA0 hl) ?_
            refine vp_callSi (runV_ra (As := [.int (nI a_7), .int (nI i28)]) (rest := [.ref (g 8), .int x28_3]) S (q_loadAt l D cI cB cZ g cn In Fn a_7 i28 hI (by (first | omega | (have zz0 := Hid.u hi_cn; omega))) (by (first | omega | (have zz0 := Hid.u hi_cn; omega)))) kV_RX12_456 hK hP 0 rfl rfl rfl ⟨Nat.le_of_ble_eq_true rfl, Nat.le_of_ble_eq_true rfl⟩ ⟨Nat.le_of_ble_eq_true rfl, Nat.le_of_ble_eq_true rfl⟩ rfl hl.1 rfl (Nat.le_of_ble_eq_true rfl) (oc_182 53 (aq_4 shX12_audit_49) uw_1_200)) (fun r_8 h_9 => ?_)
            rcases h_9 with ⟨rfl, kh_9⟩ | ⟨mr_8, hr_8, rfl⟩
            · exfalso; have q := hI.pr d0 (by (first | omega | (have zz0 := Hid.u hi_cn; omega))); rw [eb69, ea_7, nI_tn (by (first | omega | (have zz0 := Hid.u hi_cn; omega))), nI_tn (by (first | omega | (have zz0 := Hid.u hi_cn; omega)))] at q; (first | omega | (have zz0 := Hid.u hi_cn; omega))
            have kb_2 : mr_8 < 60 := by (first | omega | (have zz0 := Hid.u hi_cn; omega))
            refine ldM_8 hx hb hK hP (x := ((Fn 8) mr_8)) (vp_in_nI kb_2 (ltb rfl)) (nI_clamp (Nat.lt_trans kb_2 (ltb rfl))) rfl (oc_46 56 (aq_7 shX12_audit_49)) ?_
            refine lv_iload_n hx hb (oc_28 57 (aq_8 shX12_audit_49)) rfl (lvA4 hl) ?_
            refine lv_icmp_ne (tgt := 65) hx hb (oc_160 58 (aq_9 shX12_audit_49) sgw_0_7) rfl (fun c_10 => ?_) (fun c_10 => ?_)
            ·
              have tc_10 : (((Fn 8) mr_8).toInt : Int) ≠ v1.toInt := fun q => c_10 (Int32.toInt_inj.mp q)
              refine lv_iconst (v := 0) hx hb (oc_3 65 (aq_16 shX12_audit_49)) kic_0 ?_
              refine lv_iadd hx hb (oc_96 66 (aq_17 shX12_audit_49)) ?_
              refine lv_istore_n (lv' := [(3, .int (x28_3 + 0)), (4, .int (nI i28)), (0, .ref (g 100)), (1, .int (nI d0)), (2, .int v1)]) hx hb (oc_62 67 (aq_18 shX12_audit_49)) rfl hl (ltb rfl) rfl (fun ls hl => ?_)
              refine lv_iinc (v := (nI (i28 + 1))) (lv' := [(4, .int (nI (i28 + 1))), (3, .int (x28_3 + 0)), (0, .ref (g 100)), (1, .int (nI d0)), (2, .int v1)]) hx hb (oc_132 68 (aq_19 shX12_audit_49) ub_4 sgb_1) hl (k := 1) rfl (nI_1 _) (ltb rfl) rfl (fun ls hl => ?_)
              refine lv_goto (tgt := 28) hx hb (oc_167 71 (aq_22 shX12_audit_49) sgw_255_213) rfl ?_
              exact ih28 (i28 + 1) (x28_3 + 0) (by (first | omega | (have zz0 := Hid.u hi_cn; omega))) (by (first | omega | (have zz0 := Hid.u hi_cn; omega))) ls (lv_sub hl [0, 1, 2, 3, 4] rfl)
            ·
              have tc_10 : (((Fn 8) mr_8).toInt : Int) = v1.toInt := congrArg Int32.toInt c_10
              refine lv_iconst (v := 1) hx hb (oc_4 61 (aq_12 shX12_audit_49)) kic_1 ?_
              refine lv_goto (tgt := 66) hx hb (oc_167 62 (aq_13 shX12_audit_49) sgw_0_4) rfl ?_
              refine lv_iadd hx hb (oc_96 66 (aq_17 shX12_audit_49)) ?_
              refine lv_istore_n (lv' := [(3, .int (x28_3 + 1)), (4, .int (nI i28)), (0, .ref (g 100)), (1, .int (nI d0)), (2, .int v1)]) hx hb (oc_62 67 (aq_18 shX12_audit_49)) rfl hl (ltb rfl) rfl (fun ls hl => ?_)
              refine lv_iinc (v := (nI (i28 + 1))) (lv' := [(4, .int (nI (i28 + 1))), (3, .int (x28_3 + 1)), (0, .ref (g 100)), (1, .int (nI d0)), (2, .int v1)]) hx hb (oc_132 68 (aq_19 shX12_audit_49) ub_4 sgb_1) hl (k := 1) rfl (nI_1 _) (ltb rfl) rfl (fun ls hl => ?_)
              refine lv_goto (tgt := 28) hx hb (oc_167 71 (aq_22 shX12_audit_49) sgw_255_213) rfl ?_
              exact ih28 (i28 + 1) (x28_3 + 1) (by (first | omega | (have zz0 := Hid.u hi_cn; omega))) (by (first | omega | (have zz0 := Hid.u hi_cn; omega))) ls (lv_sub hl [0, 1, 2, 3, 4] rfl)
      exact lp_28 _ a_5 0 (Nat.lt_succ_self _) (by (first | omega | (have zz0 := Hid.u hi_cn; omega))) ls (lv_sub hl [0, 1, 2, 3, 4] rfl)
    ·
      have h_4 : ¬ (0 ≤ v1.toInt ∧ v1.toInt < ((cn 1) : Int)) := h_4
      refine lv_if_ne (tgt := 18) hx hb (oc_154 13 (aq_13 shX12_audit_0) sgw_0_5) rfl (fun h => absurd h cq_eq_0_0) (fun _ => ?_)
      refine lv_iconst (v := (-1)) hx hb (oc_2 16 (aq_16 shX12_audit_0)) kic_m1 ?_
      exact W.iret (v := (-1)) hx hb hr (fun t ht hW => ⟨(-1), rfl, trivial, ht⟩) (fun _ h => absurd h List.not_mem_nil) (oc_172 17 (aq_17 shX12_audit_0))
  ·
    have h_2 : ¬ (0 ≤ v0.toInt ∧ v0.toInt < ((cn 63) : Int)) := h_2
    refine lv_if_eq (tgt := 16) hx hb (oc_153 5 (aq_5 shX12_audit_0) sgw_0_11) rfl (fun _ => ?_) (fun h => absurd h cq_eq_0_0)
    refine lv_iconst (v := (-1)) hx hb (oc_2 16 (aq_16 shX12_audit_0)) kic_m1 ?_
    exact W.iret (v := (-1)) hx hb hr (fun t ht hW => ⟨(-1), rfl, trivial, ht⟩) (fun _ h => absurd h List.not_mem_nil) (oc_172 17 (aq_17 shX12_audit_0))
set_option maxRecDepth 100000 in
set_option maxHeartbeats 4000000 in
theorem q_proof (l : Launch) (D : va_G) (cI cB cZ : ClassId) (g : Nat → Nat) (cn : Nat → Nat) (In : Nat → Int32) (Fn : Nat → Nat → Int32) (v0 v1 v2 v3 : Int32) (sz : Nat) (hI : IM cn Fn) : Met l yX12_proof (CWS yX12_proof cX12_proof 5 (some .int)) (RM 2 0 0) (PBw [.ref (g 100), .int v0, .int v1, .int v2, .int v3] D cI cB cZ (wM cI cB cZ g cn In Fn) sz) (va_Qi (fun (r : Int32) (u : (Nat → Nat) × (Nat → Int32) × (Nat → Nat → Int32)) => (fun r c2 I2 F2 => Fr [63] [71, 72, 73] [66, 67, 68, 69, 70] cn In Fn c2 I2 F2 ∧ IM c2 F2 ∧ (((0 ≤ v0.toInt ∧ v0.toInt < (cn 62 : Int) ∧ 0 ≤ v1.toInt ∧ v1.toInt < v2.toInt ∧ v2.toInt ≤ ((mixN (Fn 10) (Fn 64 v0.toInt.toNat) 20 : Nat) : Int) ∧ (0 ≤ v3.toInt ∧ v3.toInt ≤ 9) ∧ cn 63 < 40) ∧ r = nI (cn 63) ∧ c2 = va_up cn 63 (cn 63 + 1) ∧ F2 = (va_up (va_up (va_up (va_up (va_up Fn 67 (upd (Fn 67) (cn 63) v0)) 68 (upd (Fn 68) (cn 63) v1)) 69 (upd (Fn 69) (cn 63) v2)) 70 (upd (Fn 70) (cn 63) v3)) 66 (upd (Fn 66) (cn 63) (nI (cn 0))))) ∨ (¬ (0 ≤ v0.toInt ∧ v0.toInt < (cn 62 : Int) ∧ 0 ≤ v1.toInt ∧ v1.toInt < v2.toInt ∧ v2.toInt ≤ ((mixN (Fn 10) (Fn 64 v0.toInt.toNat) 20 : Nat) : Int) ∧ (0 ≤ v3.toInt ∧ v3.toInt ≤ 9) ∧ cn 63 < 40) ∧ r = -1 ∧ c2 = cn ∧ F2 = Fn))) r u.1 u.2.1 u.2.2) (fun (u : (Nat → Nat) × (Nat → Int32) × (Nat → Nat → Int32)) (t : State) => va_P D vwCl (wM cI cB cZ g u.1 u.2.1 u.2.2) t.heap ∧ va_D (va_A (wM cI cB cZ g cn In Fn) sz) (wM cI cB cZ g u.1 u.2.1 u.2.2)) (va_A (wM cI cB cZ g cn In Fn) sz)) 0 0 (va_A (wM cI cB cZ g cn In Fn) sz) := by
  refine en_w (fun A => (va_Qi (fun (r : Int32) (u : (Nat → Nat) × (Nat → Int32) × (Nat → Nat → Int32)) => (fun (r : Int32) (c2 : Nat → Nat) (I2 : Nat → Int32) (F2 : Nat → Nat → Int32) => Fr [63] [71, 72, 73] [66, 67, 68, 69, 70] cn In Fn c2 I2 F2 ∧ IM c2 F2 ∧ (((0 ≤ v0.toInt ∧ v0.toInt < (cn 62 : Int) ∧ 0 ≤ v1.toInt ∧ v1.toInt < v2.toInt ∧ v2.toInt ≤ ((mixN (Fn 10) (Fn 64 v0.toInt.toNat) 20 : Nat) : Int) ∧ (0 ≤ v3.toInt ∧ v3.toInt ≤ 9) ∧ cn 63 < 40) ∧ r = nI (cn 63) ∧ c2 = va_up cn 63 (cn 63 + 1) ∧ F2 = (va_up (va_up (va_up (va_up (va_up Fn 67 (upd (Fn 67) (cn 63) v0)) 68 (upd (Fn 68) (cn 63) v1)) 69 (upd (Fn 69) (cn 63) v2)) 70 (upd (Fn 70) (cn 63) v3)) 66 (upd (Fn 66) (cn 63) (nI (cn 0))))) ∨ (¬ (0 ≤ v0.toInt ∧ v0.toInt < (cn 62 : Int) ∧ 0 ≤ v1.toInt ∧ v1.toInt < v2.toInt ∧ v2.toInt ≤ ((mixN (Fn 10) (Fn 64 v0.toInt.toNat) 20 : Nat) : Int) ∧ (0 ≤ v3.toInt ∧ v3.toInt ≤ 9) ∧ cn 63 < 40) ∧ r = -1 ∧ c2 = cn ∧ F2 = Fn))) r u.1 u.2.1 u.2.2) (fun (u : (Nat → Nat) × (Nat → Int32) × (Nat → Nat → Int32)) (t : State) => va_P D vwCl (wM cI cB cZ g u.1 u.2.1 u.2.2) t.heap ∧ va_D A (wM cI cB cZ g u.1 u.2.1 u.2.2)) A)) rfl rfl pn_RX12 (Nat.le_of_ble_eq_true rfl) (fun p e s m below meth c A hx hb hml hown S hr hlocks hnm hA hP hK hD hS ls hl => ?_)
  have hl : lv_has ls 5 [(0, .ref (g 100)), (1, .int v0), (2, .int v1), (3, .int v2), (4, .int v3)] := hl
  have hi_cn : Hid (CB cn) := hI.b
  refine lv_aload_n hx hb (oc_42 0 shX12_proof_0) rfl (lvA0 hl) ?_
  refine lv_iload_n hx hb (oc_27 1 (aq_1 shX12_proof_0)) rfl (lvA1 hl) ?_
  refine vp_callSi (runV_ra (As := [.int v0]) (rest := []) S (q_isBatch l D cI cB cZ g cn In Fn v0 hI) kV_RX12_450 hK hP 0 rfl rfl rfl ⟨Nat.le_of_ble_eq_true rfl, Nat.le_of_ble_eq_true rfl⟩ ⟨Nat.le_of_ble_eq_true rfl, Nat.le_of_ble_eq_true rfl⟩ rfl hl.1 rfl (Nat.le_of_ble_eq_true rfl) (oc_182 2 (aq_2 shX12_proof_0) uw_1_194)) (fun r_1 h_2 => ?_)
  rcases h_2 with ⟨rfl, h_2⟩ | ⟨rfl, h_2⟩
  ·
    have h_2 : 0 ≤ v0.toInt ∧ v0.toInt < ((cn 62) : Int) := h_2
    refine lv_if_eq (tgt := 46) hx hb (oc_153 5 (aq_5 shX12_proof_0) sgw_0_41) rfl (fun h => absurd h cq_eq_1_0) (fun _ => ?_)
    obtain ⟨d0, hd0, rfl⟩ := nI_of (x := v0) (fun q => by have := Int32.lt_iff_toInt_lt.mp q; have e : (0 : Int32).toInt = 0 := rfl; (first | omega | (have zz0 := Hid.u hi_cn; omega)))
    have td0 : (nI d0).toInt = (d0 : Int) := nI_toInt hd0
    have zd0 : (nI d0).toInt.toNat = d0 := by (first | omega | (have zz0 := Hid.u hi_cn; omega))
    refine lv_iload_n hx hb (oc_28 8 (aq_8 shX12_proof_0)) rfl (lvA2 hl) ?_
    refine lv_if_lt (tgt := 46) hx hb (oc_155 9 (aq_9 shX12_proof_0) sgw_0_37) rfl (fun c_3 => ?_) (fun c_3 => ?_)
    ·
      have tc_3 : (v1.toInt : Int) < 0 := Int32.lt_iff_toInt_lt.mp c_3
      refine lv_iconst (v := (-1)) hx hb dX12_proof_46 kic_m1 ?_
      exact W.iret (v := (-1)) hx hb hr (fun t ht hW => ⟨⟨(-1), (cn, In, Fn), rfl, ⟨(Fr.mo Fr.rf (sbl rfl) (sbl rfl) (sbl rfl)), hI, (by show ((0 ≤ (nI d0).toInt ∧ (nI d0).toInt < (cn 62 : Int) ∧ 0 ≤ v1.toInt ∧ v1.toInt < v2.toInt ∧ v2.toInt ≤ ((mixN (Fn 10) (Fn 64 (nI d0).toInt.toNat) 20 : Nat) : Int) ∧ (0 ≤ v3.toInt ∧ v3.toInt ≤ 9) ∧ cn 63 < 40) ∧ (-1) = nI (cn 63) ∧ cn = va_up cn 63 (cn 63 + 1) ∧ Fn = (va_up (va_up (va_up (va_up (va_up Fn 67 (upd (Fn 67) (cn 63) (nI d0))) 68 (upd (Fn 68) (cn 63) v1)) 69 (upd (Fn 69) (cn 63) v2)) 70 (upd (Fn 70) (cn 63) v3)) 66 (upd (Fn 66) (cn 63) (nI (cn 0))))) ∨ (¬ (0 ≤ (nI d0).toInt ∧ (nI d0).toInt < (cn 62 : Int) ∧ 0 ≤ v1.toInt ∧ v1.toInt < v2.toInt ∧ v2.toInt ≤ ((mixN (Fn 10) (Fn 64 (nI d0).toInt.toNat) 20 : Nat) : Int) ∧ (0 ≤ v3.toInt ∧ v3.toInt ≤ 9) ∧ cn 63 < 40) ∧ (-1) = -1 ∧ cn = cn ∧ Fn = Fn); exact Or.inr ⟨(by first | (first | omega | (have zz0 := Hid.u hi_cn; omega)) | (simp only [zd0]; (first | omega | (have zz0 := Hid.u hi_cn; omega)))), rfl, rfl, rfl⟩)⟩, by rw [ht]; exact hP, hD⟩, hS.F ht⟩) hS.2.2 dX12_proof_47
    ·
      have tc_3 : (0 : Int) ≤ v1.toInt := Int32.le_iff_toInt_le.mp (Int32.not_lt.mp c_3)
      obtain ⟨d1, hd1, rfl⟩ := nI_of (x := v1) (fun q => by have := Int32.lt_iff_toInt_lt.mp q; have e : (0 : Int32).toInt = 0 := rfl; (first | omega | (have zz0 := Hid.u hi_cn; omega)))
      have td1 : (nI d1).toInt = (d1 : Int) := nI_toInt hd1
      have zd1 : (nI d1).toInt.toNat = d1 := by (first | omega | (have zz0 := Hid.u hi_cn; omega))
      refine lv_iload_n hx hb (oc_29 12 (aq_12 shX12_proof_0)) rfl (lvA3 hl) ?_
      refine lv_iload_n hx hb (oc_28 13 (aq_13 shX12_proof_0)) rfl (lvA2 hl) ?_
      refine lv_icmp_le (tgt := 46) hx hb (oc_164 14 (aq_14 shX12_proof_0) sgw_0_32) rfl (fun c_4 => ?_) (fun c_4 => ?_)
      ·
        have tc_4 : (v2.toInt : Int) ≤ (nI d1).toInt := Int32.le_iff_toInt_le.mp c_4
        refine lv_iconst (v := (-1)) hx hb dX12_proof_46 kic_m1 ?_
        exact W.iret (v := (-1)) hx hb hr (fun t ht hW => ⟨⟨(-1), (cn, In, Fn), rfl, ⟨(Fr.mo Fr.rf (sbl rfl) (sbl rfl) (sbl rfl)), hI, (by show ((0 ≤ (nI d0).toInt ∧ (nI d0).toInt < (cn 62 : Int) ∧ 0 ≤ (nI d1).toInt ∧ (nI d1).toInt < v2.toInt ∧ v2.toInt ≤ ((mixN (Fn 10) (Fn 64 (nI d0).toInt.toNat) 20 : Nat) : Int) ∧ (0 ≤ v3.toInt ∧ v3.toInt ≤ 9) ∧ cn 63 < 40) ∧ (-1) = nI (cn 63) ∧ cn = va_up cn 63 (cn 63 + 1) ∧ Fn = (va_up (va_up (va_up (va_up (va_up Fn 67 (upd (Fn 67) (cn 63) (nI d0))) 68 (upd (Fn 68) (cn 63) (nI d1))) 69 (upd (Fn 69) (cn 63) v2)) 70 (upd (Fn 70) (cn 63) v3)) 66 (upd (Fn 66) (cn 63) (nI (cn 0))))) ∨ (¬ (0 ≤ (nI d0).toInt ∧ (nI d0).toInt < (cn 62 : Int) ∧ 0 ≤ (nI d1).toInt ∧ (nI d1).toInt < v2.toInt ∧ v2.toInt ≤ ((mixN (Fn 10) (Fn 64 (nI d0).toInt.toNat) 20 : Nat) : Int) ∧ (0 ≤ v3.toInt ∧ v3.toInt ≤ 9) ∧ cn 63 < 40) ∧ (-1) = -1 ∧ cn = cn ∧ Fn = Fn); exact Or.inr ⟨(by first | (first | omega | (have zz0 := Hid.u hi_cn; omega)) | (simp only [zd0]; (first | omega | (have zz0 := Hid.u hi_cn; omega)))), rfl, rfl, rfl⟩)⟩, by rw [ht]; exact hP, hD⟩, hS.F ht⟩) hS.2.2 dX12_proof_47
      ·
        have tc_4 : ((nI d1).toInt : Int) < v2.toInt := Int32.lt_iff_toInt_lt.mp (Int32.not_le.mp c_4)
        obtain ⟨d2, hd2, rfl⟩ := nI_of (x := v2) (fun q => by have := Int32.lt_iff_toInt_lt.mp q; have e : (0 : Int32).toInt = 0 := rfl; (first | omega | (have zz0 := Hid.u hi_cn; omega)))
        have td2 : (nI d2).toInt = (d2 : Int) := nI_toInt hd2
        have zd2 : (nI d2).toInt.toNat = d2 := by (first | omega | (have zz0 := Hid.u hi_cn; omega))
        refine lv_iload_n hx hb (oc_29 17 (aq_17 shX12_proof_0)) rfl (lvA3 hl) ?_
        refine lv_aload_n hx hb (oc_42 18 (aq_18 shX12_proof_0)) rfl (lvA0 hl) ?_
        refine lv_iload_n hx hb (oc_27 19 (aq_19 shX12_proof_0)) rfl (lvA1 hl) ?_
        have hFc := free_all hD hS hA
        refine va_calli (runV_a (As := [.int (nI d0)]) (rest := [.int (nI d2)]) S (q_litresOf l D cI cB cZ g cn In Fn d0 s.heap.size hI (by (first | omega | (have zz0 := Hid.u hi_cn; omega)))) kV_RX12_444 hK hP hD 0 rfl rfl rfl ⟨Nat.le_of_ble_eq_true rfl, Nat.le_of_ble_eq_true rfl⟩ ⟨Nat.le_of_ble_eq_true rfl, Nat.le_of_ble_eq_true rfl⟩ rfl hl.1 rfl (Nat.le_of_ble_eq_true rfl) (oc_182 20 (aq_20 shX12_proof_0) uw_1_188)) hS (fun q _ h => hFc q h) hFc (fun r_5 u t H1 locs ht hvm wh_6 hB hz1 hk1 hS => ?_)
        obtain ⟨cn6, In6, Fn6⟩ := u
        obtain ⟨hP1, hD1⟩ := hB
        rw [ht] at hP1
        have hP : va_P D vwCl (wM cI cB cZ g cn6 In6 Fn6) H1 := hP1
        have hD : va_D A (wM cI cB cZ g cn6 In6 Fn6) := hD1.weaken (fun _ _ _ h => hFc _ h)
        generalize H1 = H at hP hS ⊢
        have vh_6 : (fun r c2 I2 F2 => Fr [] [71, 72, 73] [] cn In Fn c2 I2 F2 ∧ IM c2 F2 ∧ (r = nI (mixN ((Fn 10)) ((Fn 64) d0) 20))) r_5 cn6 In6 Fn6 := wh_6
        obtain ⟨hfc6, hIn6, h_6⟩ := vh_6
        obtain rfl : cn = cn6 := (funext (fun k => hfc6.1 k List.not_mem_nil)).symm
        obtain rfl : Fn = Fn6 := (funext (fun k => hfc6.2.2 k List.not_mem_nil)).symm
        have hf6 : Fr [63] [71, 72, 73] [66, 67, 68, 69, 70] cn In Fn cn In6 Fn := Fr.mo (Fr.tr (Fr.rf (cn := cn) (In := In) (Fn := Fn)) hfc6) (sbl rfl) (sbl rfl) (sbl rfl)
        have hi_cn : Hid (CB cn) := hIn6.b
        subst h_6
        have hmx := IM.mx hI (Fn 64 d0)
        have : (nI (mixN ((Fn 10)) ((Fn 64) d0) 20)).toInt = (((mixN ((Fn 10)) ((Fn 64) d0) 20) : Nat) : Int) := nI_toInt (by (first | omega | (have zz0 := Hid.u hi_cn; omega)))
        refine lv_icmp_gt (tgt := 46) hx hb (oc_163 23 (aq_23 shX12_proof_0) sgw_0_23) rfl (fun c_7 => ?_) (fun c_7 => ?_)
        ·
          have tc_7 : ((nI (mixN ((Fn 10)) ((Fn 64) d0) 20)).toInt : Int) < (nI d2).toInt := Int32.lt_iff_toInt_lt.mp c_7
          refine lv_iconst (v := (-1)) hx hb dX12_proof_46 kic_m1 ?_
          exact W.iret (v := (-1)) hx hb hr (fun t ht hW => ⟨⟨(-1), (cn, In6, Fn), rfl, ⟨(Fr.mo hf6 (sbl rfl) (sbl rfl) (sbl rfl)), hIn6, (by show ((0 ≤ (nI d0).toInt ∧ (nI d0).toInt < (cn 62 : Int) ∧ 0 ≤ (nI d1).toInt ∧ (nI d1).toInt < (nI d2).toInt ∧ (nI d2).toInt ≤ ((mixN (Fn 10) (Fn 64 (nI d0).toInt.toNat) 20 : Nat) : Int) ∧ (0 ≤ v3.toInt ∧ v3.toInt ≤ 9) ∧ cn 63 < 40) ∧ (-1) = nI (cn 63) ∧ cn = va_up cn 63 (cn 63 + 1) ∧ Fn = (va_up (va_up (va_up (va_up (va_up Fn 67 (upd (Fn 67) (cn 63) (nI d0))) 68 (upd (Fn 68) (cn 63) (nI d1))) 69 (upd (Fn 69) (cn 63) (nI d2))) 70 (upd (Fn 70) (cn 63) v3)) 66 (upd (Fn 66) (cn 63) (nI (cn 0))))) ∨ (¬ (0 ≤ (nI d0).toInt ∧ (nI d0).toInt < (cn 62 : Int) ∧ 0 ≤ (nI d1).toInt ∧ (nI d1).toInt < (nI d2).toInt ∧ (nI d2).toInt ≤ ((mixN (Fn 10) (Fn 64 (nI d0).toInt.toNat) 20 : Nat) : Int) ∧ (0 ≤ v3.toInt ∧ v3.toInt ≤ 9) ∧ cn 63 < 40) ∧ (-1) = -1 ∧ cn = cn ∧ Fn = Fn); exact Or.inr ⟨(by first | (first | omega | (have zz0 := Hid.u hi_cn; omega)) | (simp only [zd0]; (first | omega | (have zz0 := Hid.u hi_cn; omega)))), rfl, rfl, rfl⟩)⟩, by rw [ht]; exact hP, hD⟩, hS.F ht⟩) hS.2.2 dX12_proof_47
        ·
          have tc_7 : ((nI d2).toInt : Int) ≤ (nI (mixN ((Fn 10)) ((Fn 64) d0) 20)).toInt := Int32.le_iff_toInt_le.mp (Int32.not_lt.mp c_7)
          refine lv_iload hx hb (oc_21 26 shX12_proof_26 ub_4) (lvA4 hl) ?_
          refine lv_iconst (v := 0) hx hb (oc_3 28 (aq_2 shX12_proof_26)) kic_0 ?_
          refine lv_bipush (v := 9) hx hb (oc_16 29 (aq_3 shX12_proof_26) sgb_9) kbc_9 ?_
          refine vp_callSi (runS_r (As := [.int v3, .int 0, .int 9]) (rest := []) S (q_in l D cI cB cZ v3 0 9 ) kS_RX12_214 hK hP [] rfl ⟨Nat.le_of_ble_eq_true rfl, Nat.le_of_ble_eq_true rfl⟩ ⟨Nat.le_of_ble_eq_true rfl, Nat.le_of_ble_eq_true rfl⟩ rfl hl.1 rfl (Nat.le_of_ble_eq_true rfl) (oc_184 31 (aq_5 shX12_proof_26) uw_0_214)) (fun r_8 h_9 => ?_)
          rcases h_9 with ⟨rfl, h_9⟩ | ⟨rfl, h_9⟩
          ·
            have h_9 : 0 ≤ v3.toInt ∧ v3.toInt ≤ 9 := h_9
            refine lv_if_eq (tgt := 46) hx hb (oc_153 34 (aq_8 shX12_proof_26) sgw_0_12) rfl (fun h => absurd h cq_eq_1_0) (fun _ => ?_)
            obtain ⟨d3, hd3, rfl⟩ := nI_of (x := v3) (fun q => by have := Int32.lt_iff_toInt_lt.mp q; have e : (0 : Int32).toInt = 0 := rfl; (first | omega | (have zz0 := Hid.u hi_cn; omega)))
            have td3 : (nI d3).toInt = (d3 : Int) := nI_toInt hd3
            have zd3 : (nI d3).toInt.toNat = d3 := by (first | omega | (have zz0 := Hid.u hi_cn; omega))
            refine lv_aload_n hx hb (oc_42 37 (aq_11 shX12_proof_26)) rfl (lvA0 hl) ?_
            refine gM_447 S hK hP (v := .int (nI (cn 63))) rfl (oc_180 38 (aq_12 shX12_proof_26) uw_1_191) ?_
            refine lv_bipush (v := 40) hx hb (oc_16 41 (aq_15 shX12_proof_26) sgb_40) kbc_40 ?_
            have : (nI (cn 63)).toInt = (((cn 63) : Nat) : Int) := nI_toInt (by (first | omega | (have zz0 := Hid.u hi_cn; omega)))
            refine lv_icmp_ne (tgt := 48) hx hb (oc_160 43 (aq_17 shX12_proof_26) sgw_0_5) rfl (fun c_10 => ?_) (fun c_10 => ?_)
            ·
              have tc_10 : ((nI (cn 63)).toInt : Int) ≠ 40 := fun q => c_10 (Int32.toInt_inj.mp q)
              refine lv_aload_n hx hb (oc_42 48 (aq_22 shX12_proof_26)) rfl (lvA0 hl) ?_
              refine gM_147 S hK hP (v := .ref (g 67)) rfl (oc_180 49 (aq_23 shX12_proof_26) uw_0_147) ?_
              refine lv_aload_n hx hb (oc_42 52 shX12_proof_52) rfl (lvA0 hl) ?_
              refine gM_447 S hK hP (v := .int (nI (cn 63))) rfl (oc_180 53 (aq_1 shX12_proof_52) uw_1_191) ?_
              refine lv_iload_n hx hb (oc_27 56 (aq_4 shX12_proof_52)) rfl (lvA1 hl) ?_
              have kb_1 : (cn 63) < 40 := by (first | omega | (have zz0 := Hid.u hi_cn; omega))
              refine stM_67 hx hb hK hP hD hS (Fn2 := (va_up Fn 67 (upd (Fn 67) (cn 63) (nI d0)))) (vp_in_nI kb_1 (ltb rfl)) (nI_clamp (Nat.lt_trans kb_1 (ltb rfl))) rfl (oc_79 57 (aq_5 shX12_proof_52)) (fun H locs hP hD hS => ?_)
              refine lv_aload_n hx hb (oc_42 58 (aq_6 shX12_proof_52)) rfl (lvA0 hl) ?_
              refine gM_150 S hK hP (v := .ref (g 68)) rfl (oc_180 59 (aq_7 shX12_proof_52) uw_0_150) ?_
              refine lv_aload_n hx hb (oc_42 62 (aq_10 shX12_proof_52)) rfl (lvA0 hl) ?_
              refine gM_447 S hK hP (v := .int (nI (cn 63))) rfl (oc_180 63 (aq_11 shX12_proof_52) uw_1_191) ?_
              refine lv_iload_n hx hb (oc_28 66 (aq_14 shX12_proof_52)) rfl (lvA2 hl) ?_
              refine stM_68 hx hb hK hP hD hS (Fn2 := (va_up (va_up Fn 67 (upd (Fn 67) (cn 63) (nI d0))) 68 (upd (Fn 68) (cn 63) (nI d1)))) (vp_in_nI kb_1 (ltb rfl)) (nI_clamp (Nat.lt_trans kb_1 (ltb rfl))) rfl (oc_79 67 (aq_15 shX12_proof_52)) (fun H locs hP hD hS => ?_)
              refine lv_aload_n hx hb (oc_42 68 (aq_16 shX12_proof_52)) rfl (lvA0 hl) ?_
              refine gM_153 S hK hP (v := .ref (g 69)) rfl (oc_180 69 (aq_17 shX12_proof_52) uw_0_153) ?_
              refine lv_aload_n hx hb (oc_42 72 (aq_20 shX12_proof_52)) rfl (lvA0 hl) ?_
              refine gM_447 S hK hP (v := .int (nI (cn 63))) rfl (oc_180 73 (aq_21 shX12_proof_52) uw_1_191) ?_
              refine lv_iload_n hx hb (oc_29 76 shX12_proof_76) rfl (lvA3 hl) ?_
              refine stM_69 hx hb hK hP hD hS (Fn2 := (va_up (va_up (va_up Fn 67 (upd (Fn 67) (cn 63) (nI d0))) 68 (upd (Fn 68) (cn 63) (nI d1))) 69 (upd (Fn 69) (cn 63) (nI d2)))) (vp_in_nI kb_1 (ltb rfl)) (nI_clamp (Nat.lt_trans kb_1 (ltb rfl))) rfl (oc_79 77 (aq_1 shX12_proof_76)) (fun H locs hP hD hS => ?_)
              refine lv_aload_n hx hb (oc_42 78 (aq_2 shX12_proof_76)) rfl (lvA0 hl) ?_
              refine gM_156 S hK hP (v := .ref (g 70)) rfl (oc_180 79 (aq_3 shX12_proof_76) uw_0_156) ?_
              refine lv_aload_n hx hb (oc_42 82 (aq_6 shX12_proof_76)) rfl (lvA0 hl) ?_
              refine gM_447 S hK hP (v := .int (nI (cn 63))) rfl (oc_180 83 (aq_7 shX12_proof_76) uw_1_191) ?_
              refine lv_iload hx hb (oc_21 86 (aq_10 shX12_proof_76) ub_4) (lvA4 hl) ?_
              refine stM_70 hx hb hK hP hD hS (Fn2 := (va_up (va_up (va_up (va_up Fn 67 (upd (Fn 67) (cn 63) (nI d0))) 68 (upd (Fn 68) (cn 63) (nI d1))) 69 (upd (Fn 69) (cn 63) (nI d2))) 70 (upd (Fn 70) (cn 63) (nI d3)))) (vp_in_nI kb_1 (ltb rfl)) (nI_clamp (Nat.lt_trans kb_1 (ltb rfl))) rfl (oc_79 88 (aq_12 shX12_proof_76)) (fun H locs hP hD hS => ?_)
              refine lv_aload_n hx hb (oc_42 89 (aq_13 shX12_proof_76)) rfl (lvA0 hl) ?_
              refine gM_144 S hK hP (v := .ref (g 66)) rfl (oc_180 90 (aq_14 shX12_proof_76) uw_0_144) ?_
              refine lv_aload_n hx hb (oc_42 93 (aq_17 shX12_proof_76)) rfl (lvA0 hl) ?_
              refine gM_447 S hK hP (v := .int (nI (cn 63))) rfl (oc_180 94 (aq_18 shX12_proof_76) uw_1_191) ?_
              refine lv_aload_n hx hb (oc_42 97 (aq_21 shX12_proof_76)) rfl (lvA0 hl) ?_
              refine gM_211 S hK hP (v := .int (nI (cn 0))) rfl (oc_180 98 (aq_22 shX12_proof_76) uw_0_211) ?_
              refine stM_66 hx hb hK hP hD hS (Fn2 := (va_up (va_up (va_up (va_up (va_up Fn 67 (upd (Fn 67) (cn 63) (nI d0))) 68 (upd (Fn 68) (cn 63) (nI d1))) 69 (upd (Fn 69) (cn 63) (nI d2))) 70 (upd (Fn 70) (cn 63) (nI d3))) 66 (upd (Fn 66) (cn 63) (nI (cn 0))))) (vp_in_nI kb_1 (ltb rfl)) (nI_clamp (Nat.lt_trans kb_1 (ltb rfl))) rfl (oc_79 101 shX12_proof_101) (fun H locs hP hD hS => ?_)
              refine lv_aload_n hx hb (oc_42 102 (aq_1 shX12_proof_101)) rfl (lvA0 hl) ?_
              refine lv_aload_n hx hb (oc_42 103 (aq_2 shX12_proof_101)) rfl (lvA0 hl) ?_
              refine gM_447 S hK hP (v := .int (nI (cn 63))) rfl (oc_180 104 (aq_3 shX12_proof_101) uw_1_191) ?_
              refine lv_iconst (v := 1) hx hb (oc_4 107 (aq_6 shX12_proof_101)) kic_1 ?_
              refine lv_iadd hx hb (oc_96 108 (aq_7 shX12_proof_101)) ?_
              refine lv_topi (fun y_11 ey_11 => ?_)
              obtain rfl : y_11 = (nI ((cn 63) + 1)) := ey_11.trans (nI_add (cn 63) 1)
              refine pM_447 S hK hP hD hS (a := ((cn 63) + 1)) (cn2 := (va_up cn 63 ((cn 63) + 1))) rfl rfl (oc_181 109 (aq_8 shX12_proof_101) uw_1_191) (fun H locs hP hD hS => ?_)
              refine lv_aload_n hx hb (oc_42 112 (aq_11 shX12_proof_101)) rfl (lvA0 hl) ?_
              refine gM_447 S hK hP (v := .int (nI ((cn 63) + 1))) rfl (oc_180 113 (aq_12 shX12_proof_101) uw_1_191) ?_
              refine lv_iconst (v := 1) hx hb (oc_4 116 (aq_15 shX12_proof_101)) kic_1 ?_
              refine lv_isub hx hb (oc_100 117 (aq_16 shX12_proof_101)) ?_
              refine lv_topi (fun y_12 ey_12 => ?_)
              obtain rfl : y_12 = (nI (cn 63)) := ey_12.trans (nI_pred _)
              exact W.iret (v := (nI (cn 63))) hx hb hr (fun t ht hW => ⟨⟨(nI (cn 63)), ((va_up cn 63 ((cn 63) + 1)), In6, (va_up (va_up (va_up (va_up (va_up Fn 67 (upd (Fn 67) (cn 63) (nI d0))) 68 (upd (Fn 68) (cn 63) (nI d1))) 69 (upd (Fn 69) (cn 63) (nI d2))) 70 (upd (Fn 70) (cn 63) (nI d3))) 66 (upd (Fn 66) (cn 63) (nI (cn 0))))), rfl, ⟨(Fr.mo (Fr.f 66 (Fr.f 70 (Fr.f 69 (Fr.f 68 (Fr.f 67 (Fr.c 63 hf6)))))) (sbl rfl) (sbl rfl) (sbl rfl)), (IM.pf hI (by (first | omega | (have zz0 := Hid.u hi_cn; omega))) (d := d0) (a := d1) (b := d2) (w := d3) (n := cn 0) (by (first | omega | (have zz0 := Hid.u hi_cn; omega))) (by (first | omega | (have zz0 := Hid.u hi_cn; omega))) (by (first | omega | (have zz0 := Hid.u hi_cn; omega))) (by (first | omega | (have zz0 := Hid.u hi_cn; omega))) (by (first | omega | (have zz0 := Hid.u hi_cn; omega)))), (by show ((0 ≤ (nI d0).toInt ∧ (nI d0).toInt < (cn 62 : Int) ∧ 0 ≤ (nI d1).toInt ∧ (nI d1).toInt < (nI d2).toInt ∧ (nI d2).toInt ≤ ((mixN (Fn 10) (Fn 64 (nI d0).toInt.toNat) 20 : Nat) : Int) ∧ (0 ≤ (nI d3).toInt ∧ (nI d3).toInt ≤ 9) ∧ cn 63 < 40) ∧ (nI (cn 63)) = nI (cn 63) ∧ (va_up cn 63 ((cn 63) + 1)) = va_up cn 63 (cn 63 + 1) ∧ (va_up (va_up (va_up (va_up (va_up Fn 67 (upd (Fn 67) (cn 63) (nI d0))) 68 (upd (Fn 68) (cn 63) (nI d1))) 69 (upd (Fn 69) (cn 63) (nI d2))) 70 (upd (Fn 70) (cn 63) (nI d3))) 66 (upd (Fn 66) (cn 63) (nI (cn 0)))) = (va_up (va_up (va_up (va_up (va_up Fn 67 (upd (Fn 67) (cn 63) (nI d0))) 68 (upd (Fn 68) (cn 63) (nI d1))) 69 (upd (Fn 69) (cn 63) (nI d2))) 70 (upd (Fn 70) (cn 63) (nI d3))) 66 (upd (Fn 66) (cn 63) (nI (cn 0))))) ∨ (¬ (0 ≤ (nI d0).toInt ∧ (nI d0).toInt < (cn 62 : Int) ∧ 0 ≤ (nI d1).toInt ∧ (nI d1).toInt < (nI d2).toInt ∧ (nI d2).toInt ≤ ((mixN (Fn 10) (Fn 64 (nI d0).toInt.toNat) 20 : Nat) : Int) ∧ (0 ≤ (nI d3).toInt ∧ (nI d3).toInt ≤ 9) ∧ cn 63 < 40) ∧ (nI (cn 63)) = -1 ∧ (va_up cn 63 ((cn 63) + 1)) = cn ∧ (va_up (va_up (va_up (va_up (va_up Fn 67 (upd (Fn 67) (cn 63) (nI d0))) 68 (upd (Fn 68) (cn 63) (nI d1))) 69 (upd (Fn 69) (cn 63) (nI d2))) 70 (upd (Fn 70) (cn 63) (nI d3))) 66 (upd (Fn 66) (cn 63) (nI (cn 0)))) = Fn); exact Or.inl ⟨⟨by (first | omega | (have zz0 := Hid.u hi_cn; omega)), by (first | omega | (have zz0 := Hid.u hi_cn; omega)), by (first | omega | (have zz0 := Hid.u hi_cn; omega)), by (first | omega | (have zz0 := Hid.u hi_cn; omega)), by simp only [zd0]; (first | omega | (have zz0 := Hid.u hi_cn; omega)), by (first | omega | (have zz0 := Hid.u hi_cn; omega)), by (first | omega | (have zz0 := Hid.u hi_cn; omega))⟩, rfl, rfl, rfl⟩)⟩, by rw [ht]; exact hP, hD⟩, hS.F ht⟩) hS.2.2 (oc_172 118 (aq_17 shX12_proof_101))
            ·
              have tc_10 : ((nI (cn 63)).toInt : Int) = 40 := congrArg Int32.toInt c_10
              refine lv_iconst (v := (-1)) hx hb dX12_proof_46 kic_m1 ?_
              exact W.iret (v := (-1)) hx hb hr (fun t ht hW => ⟨⟨(-1), (cn, In6, Fn), rfl, ⟨(Fr.mo hf6 (sbl rfl) (sbl rfl) (sbl rfl)), hIn6, (by show ((0 ≤ (nI d0).toInt ∧ (nI d0).toInt < (cn 62 : Int) ∧ 0 ≤ (nI d1).toInt ∧ (nI d1).toInt < (nI d2).toInt ∧ (nI d2).toInt ≤ ((mixN (Fn 10) (Fn 64 (nI d0).toInt.toNat) 20 : Nat) : Int) ∧ (0 ≤ (nI d3).toInt ∧ (nI d3).toInt ≤ 9) ∧ cn 63 < 40) ∧ (-1) = nI (cn 63) ∧ cn = va_up cn 63 (cn 63 + 1) ∧ Fn = (va_up (va_up (va_up (va_up (va_up Fn 67 (upd (Fn 67) (cn 63) (nI d0))) 68 (upd (Fn 68) (cn 63) (nI d1))) 69 (upd (Fn 69) (cn 63) (nI d2))) 70 (upd (Fn 70) (cn 63) (nI d3))) 66 (upd (Fn 66) (cn 63) (nI (cn 0))))) ∨ (¬ (0 ≤ (nI d0).toInt ∧ (nI d0).toInt < (cn 62 : Int) ∧ 0 ≤ (nI d1).toInt ∧ (nI d1).toInt < (nI d2).toInt ∧ (nI d2).toInt ≤ ((mixN (Fn 10) (Fn 64 (nI d0).toInt.toNat) 20 : Nat) : Int) ∧ (0 ≤ (nI d3).toInt ∧ (nI d3).toInt ≤ 9) ∧ cn 63 < 40) ∧ (-1) = -1 ∧ cn = cn ∧ Fn = Fn); exact Or.inr ⟨(by first | (first | omega | (have zz0 := Hid.u hi_cn; omega)) | (simp only [zd0]; (first | omega | (have zz0 := Hid.u hi_cn; omega)))), rfl, rfl, rfl⟩)⟩, by rw [ht]; exact hP, hD⟩, hS.F ht⟩) hS.2.2 dX12_proof_47
          ·
            have h_9 : ¬ (0 ≤ v3.toInt ∧ v3.toInt ≤ 9) := h_9
            refine lv_if_eq (tgt := 46) hx hb (oc_153 34 (aq_8 shX12_proof_26) sgw_0_12) rfl (fun _ => ?_) (fun h => absurd h cq_eq_0_0)
            refine lv_iconst (v := (-1)) hx hb dX12_proof_46 kic_m1 ?_
            exact W.iret (v := (-1)) hx hb hr (fun t ht hW => ⟨⟨(-1), (cn, In6, Fn), rfl, ⟨(Fr.mo hf6 (sbl rfl) (sbl rfl) (sbl rfl)), hIn6, (by show ((0 ≤ (nI d0).toInt ∧ (nI d0).toInt < (cn 62 : Int) ∧ 0 ≤ (nI d1).toInt ∧ (nI d1).toInt < (nI d2).toInt ∧ (nI d2).toInt ≤ ((mixN (Fn 10) (Fn 64 (nI d0).toInt.toNat) 20 : Nat) : Int) ∧ (0 ≤ v3.toInt ∧ v3.toInt ≤ 9) ∧ cn 63 < 40) ∧ (-1) = nI (cn 63) ∧ cn = va_up cn 63 (cn 63 + 1) ∧ Fn = (va_up (va_up (va_up (va_up (va_up Fn 67 (upd (Fn 67) (cn 63) (nI d0))) 68 (upd (Fn 68) (cn 63) (nI d1))) 69 (upd (Fn 69) (cn 63) (nI d2))) 70 (upd (Fn 70) (cn 63) v3)) 66 (upd (Fn 66) (cn 63) (nI (cn 0))))) ∨ (¬ (0 ≤ (nI d0).toInt ∧ (nI d0).toInt < (cn 62 : Int) ∧ 0 ≤ (nI d1).toInt ∧ (nI d1).toInt < (nI d2).toInt ∧ (nI d2).toInt ≤ ((mixN (Fn 10) (Fn 64 (nI d0).toInt.toNat) 20 : Nat) : Int) ∧ (0 ≤ v3.toInt ∧ v3.toInt ≤ 9) ∧ cn 63 < 40) ∧ (-1) = -1 ∧ cn = cn ∧ Fn = Fn); exact Or.inr ⟨(by first | (first | omega | (have zz0 := Hid.u hi_cn; omega)) | (simp only [zd0]; (first | omega | (have zz0 := Hid.u hi_cn; omega)))), rfl, rfl, rfl⟩)⟩, by rw [ht]; exact hP, hD⟩, hS.F ht⟩) hS.2.2 dX12_proof_47
  ·
    have h_2 : ¬ (0 ≤ v0.toInt ∧ v0.toInt < ((cn 62) : Int)) := h_2
    refine lv_if_eq (tgt := 46) hx hb (oc_153 5 (aq_5 shX12_proof_0) sgw_0_41) rfl (fun _ => ?_) (fun h => absurd h cq_eq_0_0)
    refine lv_iconst (v := (-1)) hx hb dX12_proof_46 kic_m1 ?_
    exact W.iret (v := (-1)) hx hb hr (fun t ht hW => ⟨⟨(-1), (cn, In, Fn), rfl, ⟨(Fr.mo Fr.rf (sbl rfl) (sbl rfl) (sbl rfl)), hI, (by show ((0 ≤ v0.toInt ∧ v0.toInt < (cn 62 : Int) ∧ 0 ≤ v1.toInt ∧ v1.toInt < v2.toInt ∧ v2.toInt ≤ ((mixN (Fn 10) (Fn 64 v0.toInt.toNat) 20 : Nat) : Int) ∧ (0 ≤ v3.toInt ∧ v3.toInt ≤ 9) ∧ cn 63 < 40) ∧ (-1) = nI (cn 63) ∧ cn = va_up cn 63 (cn 63 + 1) ∧ Fn = (va_up (va_up (va_up (va_up (va_up Fn 67 (upd (Fn 67) (cn 63) v0)) 68 (upd (Fn 68) (cn 63) v1)) 69 (upd (Fn 69) (cn 63) v2)) 70 (upd (Fn 70) (cn 63) v3)) 66 (upd (Fn 66) (cn 63) (nI (cn 0))))) ∨ (¬ (0 ≤ v0.toInt ∧ v0.toInt < (cn 62 : Int) ∧ 0 ≤ v1.toInt ∧ v1.toInt < v2.toInt ∧ v2.toInt ≤ ((mixN (Fn 10) (Fn 64 v0.toInt.toNat) 20 : Nat) : Int) ∧ (0 ≤ v3.toInt ∧ v3.toInt ≤ 9) ∧ cn 63 < 40) ∧ (-1) = -1 ∧ cn = cn ∧ Fn = Fn); exact Or.inr ⟨(by first | (first | omega | (have zz0 := Hid.u hi_cn; omega)) | (simp only [zd0]; (first | omega | (have zz0 := Hid.u hi_cn; omega)))), rfl, rfl, rfl⟩)⟩, by rw [ht]; exact hP, hD⟩, hS.F ht⟩) hS.2.2 dX12_proof_47
set_option maxRecDepth 100000 in
set_option maxHeartbeats 4000000 in
theorem q_stockOn (l : Launch) (D : va_G) (cI cB cZ : ClassId) (g : Nat → Nat) (cn : Nat → Nat) (In : Nat → Int32) (Fn : Nat → Nat → Int32) (v0 : Int32) (sz : Nat) (hI : IM cn Fn) : Met l yX12_stockOn (CWS yX12_stockOn cX12_stockOn 4 (some .int)) (RM 2 0 0) (PBw [.ref (g 100), .int v0] D cI cB cZ (wM cI cB cZ g cn In Fn) sz) (va_Qi (fun (r : Int32) (u : (Nat → Nat) × (Nat → Int32) × (Nat → Nat → Int32)) => (fun r c2 I2 F2 => Fr [] [71, 72, 73] [] cn In Fn c2 I2 F2 ∧ IM c2 F2 ∧ (True)) r u.1 u.2.1 u.2.2) (fun (u : (Nat → Nat) × (Nat → Int32) × (Nat → Nat → Int32)) (t : State) => va_P D vwCl (wM cI cB cZ g u.1 u.2.1 u.2.2) t.heap ∧ va_D (va_A (wM cI cB cZ g cn In Fn) sz) (wM cI cB cZ g u.1 u.2.1 u.2.2)) (va_A (wM cI cB cZ g cn In Fn) sz)) 0 0 (va_A (wM cI cB cZ g cn In Fn) sz) := by
  refine en_w (fun A => (va_Qi (fun (r : Int32) (u : (Nat → Nat) × (Nat → Int32) × (Nat → Nat → Int32)) => (fun (r : Int32) (c2 : Nat → Nat) (I2 : Nat → Int32) (F2 : Nat → Nat → Int32) => Fr [] [71, 72, 73] [] cn In Fn c2 I2 F2 ∧ IM c2 F2 ∧ (True)) r u.1 u.2.1 u.2.2) (fun (u : (Nat → Nat) × (Nat → Int32) × (Nat → Nat → Int32)) (t : State) => va_P D vwCl (wM cI cB cZ g u.1 u.2.1 u.2.2) t.heap ∧ va_D A (wM cI cB cZ g u.1 u.2.1 u.2.2)) A)) rfl rfl pn_RX12 (Nat.le_of_ble_eq_true rfl) (fun p e s m below meth c A hx hb hml hown S hr hlocks hnm hA hP hK hD hS ls hl => ?_)
  have hl : lv_has ls 4 [(0, .ref (g 100)), (1, .int v0)] := hl
  have hi_cn : Hid (CB cn) := hI.b
  refine lv_iconst (v := 0) hx hb (oc_3 0 shX12_stockOn_0) kic_0 ?_
  refine lv_istore_n (lv' := [(2, .int 0), (0, .ref (g 100)), (1, .int v0)]) hx hb (oc_61 1 (aq_1 shX12_stockOn_0)) rfl hl (ltb rfl) rfl (fun ls hl => ?_)
  refine lv_iconst (v := 0) hx hb (oc_3 2 (aq_2 shX12_stockOn_0)) kic_0 ?_
  refine lv_istore_n (lv' := [(3, .int 0), (2, .int 0), (0, .ref (g 100)), (1, .int v0)]) hx hb (oc_62 3 (aq_3 shX12_stockOn_0)) rfl hl (ltb rfl) rfl (fun ls hl => ?_)
  have lp_4 : ∀ (n : Nat) (i4 : Nat) (x4_2 : Int32) , cn 2 - i4 < n → (i4 ≤ cn 2) → ∀ ls : Array Slot, lv_has ls 4 [(3, .int (nI i4)), (2, .int x4_2), (0, .ref (g 100)), (1, .int v0)] → W p l e (RM 2 0 0) s m ([.ref (g 100), .int v0]).toArray below meth c s.heap [] 0 0 (MQ below (va_Qi (fun (r : Int32) (u : (Nat → Nat) × (Nat → Int32) × (Nat → Nat → Int32)) => (fun r c2 I2 F2 => Fr [] [71, 72, 73] [] cn In Fn c2 I2 F2 ∧ IM c2 F2 ∧ (True)) r u.1 u.2.1 u.2.2) (fun (u : (Nat → Nat) × (Nat → Int32) × (Nat → Nat → Int32)) (t : State) => va_P D vwCl (wM cI cB cZ g u.1 u.2.1 u.2.2) t.heap ∧ va_D A (wM cI cB cZ g u.1 u.2.1 u.2.2)) A) ([.ref (g 100), .int v0]).toArray s 0 0 A) (F0 m 4 ls []) := by
    intro n4
    induction n4 with
    | zero => intros; (first | omega | (have zz0 := Hid.u hi_cn; omega))
    | succ n4 ih4 =>
      intro i4 x4_2 hmu4 hinv4 ls hl
      have hr4 := hinv4
      have ti4 : (nI i4).toInt = (i4 : Int) := nI_toInt (by (first | omega | (have zz0 := Hid.u hi_cn; omega)))
      refine lv_iload_n hx hb (oc_29 4 (aq_4 shX12_stockOn_0)) rfl (lvA0 hl) ?_
      refine lv_aload_n hx hb (oc_42 5 (aq_5 shX12_stockOn_0)) rfl (lvA2 hl) ?_
      refine gM_208 S hK hP (v := .int (nI (cn 2))) rfl (oc_180 6 (aq_6 shX12_stockOn_0) uw_0_208) ?_
      have : (nI (cn 2)).toInt = (((cn 2) : Nat) : Int) := nI_toInt (by (first | omega | (have zz0 := Hid.u hi_cn; omega)))
      refine lv_icmp_ge (tgt := 41) hx hb (oc_162 9 (aq_9 shX12_stockOn_0) sgw_0_32) rfl (fun c_1 => ?_) (fun c_1 => ?_)
      ·
        have tc_1 : ((nI (cn 2)).toInt : Int) ≤ (nI i4).toInt := Int32.le_iff_toInt_le.mp c_1
        refine lv_iconst (v := 0) hx hb (oc_3 41 (aq_17 shX12_stockOn_24)) kic_0 ?_
        refine lv_istore_n (lv' := [(3, .int 0), (2, .int x4_2), (0, .ref (g 100)), (1, .int v0)]) hx hb (oc_62 42 (aq_18 shX12_stockOn_24)) rfl hl (ltb rfl) rfl (fun ls hl => ?_)
        have lp_43 : ∀ (n : Nat) (i43 : Nat) (x43_2 : Int32) , cn 75 - i43 < n → (i43 ≤ cn 75) → ∀ ls : Array Slot, lv_has ls 4 [(3, .int (nI i43)), (2, .int x43_2), (0, .ref (g 100)), (1, .int v0)] → W p l e (RM 2 0 0) s m ([.ref (g 100), .int v0]).toArray below meth c s.heap [] 0 0 (MQ below (va_Qi (fun (r : Int32) (u : (Nat → Nat) × (Nat → Int32) × (Nat → Nat → Int32)) => (fun r c2 I2 F2 => Fr [] [71, 72, 73] [] cn In Fn c2 I2 F2 ∧ IM c2 F2 ∧ (True)) r u.1 u.2.1 u.2.2) (fun (u : (Nat → Nat) × (Nat → Int32) × (Nat → Nat → Int32)) (t : State) => va_P D vwCl (wM cI cB cZ g u.1 u.2.1 u.2.2) t.heap ∧ va_D A (wM cI cB cZ g u.1 u.2.1 u.2.2)) A) ([.ref (g 100), .int v0]).toArray s 0 0 A) (F0 m 43 ls []) := by
          intro n43
          induction n43 with
          | zero => intros; (first | omega | (have zz0 := Hid.u hi_cn; omega))
          | succ n43 ih43 =>
            intro i43 x43_2 hmu43 hinv43 ls hl
            have hr43 := hinv43
            have ti43 : (nI i43).toInt = (i43 : Int) := nI_toInt (by (first | omega | (have zz0 := Hid.u hi_cn; omega)))
            refine lv_iload_n hx hb (oc_29 43 (aq_19 shX12_stockOn_24)) rfl (lvA0 hl) ?_
            refine lv_aload_n hx hb (oc_42 44 (aq_20 shX12_stockOn_24)) rfl (lvA2 hl) ?_
            refine gM_462 S hK hP (v := .int (nI (cn 75))) rfl (oc_180 45 (aq_21 shX12_stockOn_24) uw_1_206) ?_
            have : (nI (cn 75)).toInt = (((cn 75) : Nat) : Int) := nI_toInt (by (first | omega | (have zz0 := Hid.u hi_cn; omega)))
            refine lv_icmp_ge (tgt := 80) hx hb (oc_162 48 shX12_stockOn_48 sgw_0_32) rfl (fun c_2 => ?_) (fun c_2 => ?_)
            ·
              have tc_2 : ((nI (cn 75)).toInt : Int) ≤ (nI i43).toInt := Int32.le_iff_toInt_le.mp c_2
              refine lv_iconst (v := 0) hx hb (oc_3 80 (aq_8 shX12_stockOn_72)) kic_0 ?_
              refine lv_istore_n (lv' := [(3, .int 0), (2, .int x43_2), (0, .ref (g 100)), (1, .int v0)]) hx hb (oc_62 81 (aq_9 shX12_stockOn_72)) rfl hl (ltb rfl) rfl (fun ls hl => ?_)
              have lp_82 : ∀ (n : Nat) (i82 : Nat) (x82_2 : Int32) (I82 : Nat → Int32) (H : Heap) (locs : List Loc) , cn 62 - i82 < n → (i82 ≤ cn 62 ∧ Fr [] [71, 72, 73] [] cn In Fn cn I82 Fn ∧ IM cn Fn) → va_P D vwCl (wM cI cB cZ g cn I82 Fn) H → va_D A (wM cI cB cZ g cn I82 Fn) → va_S A s.heap H locs → ∀ ls : Array Slot, lv_has ls 4 [(3, .int (nI i82)), (2, .int x82_2), (0, .ref (g 100)), (1, .int v0)] → W p l e (RM 2 0 0) s m ([.ref (g 100), .int v0]).toArray below meth c H locs 0 0 (MQ below (va_Qi (fun (r : Int32) (u : (Nat → Nat) × (Nat → Int32) × (Nat → Nat → Int32)) => (fun r c2 I2 F2 => Fr [] [71, 72, 73] [] cn In Fn c2 I2 F2 ∧ IM c2 F2 ∧ (True)) r u.1 u.2.1 u.2.2) (fun (u : (Nat → Nat) × (Nat → Int32) × (Nat → Nat → Int32)) (t : State) => va_P D vwCl (wM cI cB cZ g u.1 u.2.1 u.2.2) t.heap ∧ va_D A (wM cI cB cZ g u.1 u.2.1 u.2.2)) A) ([.ref (g 100), .int v0]).toArray s 0 0 A) (F0 m 82 ls []) := by
                intro n82
                induction n82 with
                | zero => intros; (first | omega | (have zz0 := Hid.u hi_cn; omega))
                | succ n82 ih82 =>
                  intro i82 x82_2 I82 H locs hmu82 hinv82 hP hD hS ls hl
                  obtain ⟨hr82, hfr82, hI82⟩ := hinv82
                  have ti82 : (nI i82).toInt = (i82 : Int) := nI_toInt (by (first | omega | (have zz0 := Hid.u hi_cn; omega)))
                  have hi_cn : Hid (CB cn) := hI82.b
                  refine lv_iload_n hx hb (oc_29 82 (aq_10 shX12_stockOn_72)) rfl (lvA0 hl) ?_
                  refine lv_aload_n hx hb (oc_42 83 (aq_11 shX12_stockOn_72)) rfl (lvA2 hl) ?_
                  refine gM_435 S hK hP (v := .int (nI (cn 62))) rfl (oc_180 84 (aq_12 shX12_stockOn_72) uw_1_179) ?_
                  have : (nI (cn 62)).toInt = (((cn 62) : Nat) : Int) := nI_toInt (by (first | omega | (have zz0 := Hid.u hi_cn; omega)))
                  refine lv_icmp_ge (tgt := 118) hx hb (oc_162 87 (aq_15 shX12_stockOn_72) sgw_0_31) rfl (fun c_3 => ?_) (fun c_3 => ?_)
                  ·
                    have tc_3 : ((nI (cn 62)).toInt : Int) ≤ (nI i82).toInt := Int32.le_iff_toInt_le.mp c_3
                    refine lv_iload_n hx hb (oc_28 118 (aq_22 shX12_stockOn_96)) rfl (lvA1 hl) ?_
                    exact W.iret (v := x82_2) hx hb hr (fun t ht hW => ⟨⟨x82_2, (cn, I82, Fn), rfl, ⟨(Fr.mo hfr82 (sbl rfl) (sbl rfl) (sbl rfl)), hI82, trivial⟩, by rw [ht]; exact hP, hD⟩, hS.F ht⟩) hS.2.2 (oc_172 119 (aq_23 shX12_stockOn_96))
                  ·
                    have tc_3 : ((nI i82).toInt : Int) < (nI (cn 62)).toInt := Int32.lt_iff_toInt_lt.mp (Int32.not_le.mp c_3)
                    refine lv_iload_n hx hb (oc_28 90 (aq_18 shX12_stockOn_72)) rfl (lvA1 hl) ?_
                    refine lv_aload_n hx hb (oc_42 91 (aq_19 shX12_stockOn_72)) rfl (lvA2 hl) ?_
                    refine gM_141 S hK hP (v := .ref (g 65)) rfl (oc_180 92 (aq_20 shX12_stockOn_72) uw_0_141) ?_
                    refine lv_iload_n hx hb (oc_29 95 (aq_23 shX12_stockOn_72)) rfl (lvA0 hl) ?_
                    have kb_1 : i82 < 10 := by (first | omega | (have zz0 := Hid.u hi_cn; omega))
                    refine ldM_65 hx hb hK hP (x := ((Fn 65) i82)) (vp_in_nI kb_1 (ltb rfl)) (nI_clamp (Nat.lt_trans kb_1 (ltb rfl))) rfl (oc_46 96 shX12_stockOn_96) ?_
                    refine lv_iload_n hx hb (oc_27 97 (aq_1 shX12_stockOn_96)) rfl (lvA3 hl) ?_
                    refine lv_icmp_gt (tgt := 109) hx hb (oc_163 98 (aq_2 shX12_stockOn_96) sgw_0_11) rfl (fun c_4 => ?_) (fun c_4 => ?_)
                    ·
                      have tc_4 : (v0.toInt : Int) < ((Fn 65) i82).toInt := Int32.lt_iff_toInt_lt.mp c_4
                      refine lv_iconst (v := 0) hx hb (oc_3 109 (aq_13 shX12_stockOn_96)) kic_0 ?_
                      refine lv_isub hx hb (oc_100 110 (aq_14 shX12_stockOn_96)) ?_
                      refine lv_istore_n (lv' := [(2, .int (x82_2 - 0)), (3, .int (nI i82)), (0, .ref (g 100)), (1, .int v0)]) hx hb (oc_61 111 (aq_15 shX12_stockOn_96)) rfl hl (ltb rfl) rfl (fun ls hl => ?_)
                      refine lv_iinc (v := (nI (i82 + 1))) (lv' := [(3, .int (nI (i82 + 1))), (2, .int (x82_2 - 0)), (0, .ref (g 100)), (1, .int v0)]) hx hb (oc_132 112 (aq_16 shX12_stockOn_96) ub_3 sgb_1) hl (k := 1) rfl (nI_1 _) (ltb rfl) rfl (fun ls hl => ?_)
                      refine lv_goto (tgt := 82) hx hb (oc_167 115 (aq_19 shX12_stockOn_96) sgw_255_223) rfl ?_
                      exact ih82 (i82 + 1) (x82_2 - 0) I82 _ _ (by (first | omega | (have zz0 := Hid.u hi_cn; omega))) ⟨(by (first | omega | (have zz0 := Hid.u hi_cn; omega))), (Fr.mo hfr82 (sbl rfl) (sbl rfl) (sbl rfl)), hI82⟩ hP hD hS ls (lv_sub hl [0, 1, 2, 3] rfl)
                    ·
                      have tc_4 : (((Fn 65) i82).toInt : Int) ≤ v0.toInt := Int32.le_iff_toInt_le.mp (Int32.not_lt.mp c_4)
                      refine lv_aload_n hx hb (oc_42 101 (aq_5 shX12_stockOn_96)) rfl (lvA2 hl) ?_
                      refine lv_iload_n hx hb (oc_29 102 (aq_6 shX12_stockOn_96)) rfl (lvA0 hl) ?_
                      have hFc := free_all hD hS hA
                      refine va_calli (runV_a (As := [.int (nI i82)]) (rest := [.int x82_2]) S (q_litresOf l D cI cB cZ g cn I82 Fn i82 H.size hI82 (by (first | omega | (have zz0 := Hid.u hi_cn; omega)))) kV_RX12_444 hK hP hD 0 rfl rfl rfl ⟨Nat.le_of_ble_eq_true rfl, Nat.le_of_ble_eq_true rfl⟩ ⟨Nat.le_of_ble_eq_true rfl, Nat.le_of_ble_eq_true rfl⟩ rfl hl.1 rfl (Nat.le_of_ble_eq_true rfl) (oc_182 103 (aq_7 shX12_stockOn_96) uw_1_188)) hS (fun q _ h => hFc q h) hFc (fun r_5 u t H1 locs ht hvm wh_6 hB hz1 hk1 hS => ?_)
                      obtain ⟨cn6, In6, Fn6⟩ := u
                      obtain ⟨hP1, hD1⟩ := hB
                      rw [ht] at hP1
                      have hP : va_P D vwCl (wM cI cB cZ g cn6 In6 Fn6) H1 := hP1
                      have hD : va_D A (wM cI cB cZ g cn6 In6 Fn6) := hD1.weaken (fun _ _ _ h => hFc _ h)
                      generalize H1 = H at hP hS ⊢
                      have vh_6 : (fun r c2 I2 F2 => Fr [] [71, 72, 73] [] cn I82 Fn c2 I2 F2 ∧ IM c2 F2 ∧ (r = nI (mixN ((Fn 10)) ((Fn 64) i82) 20))) r_5 cn6 In6 Fn6 := wh_6
                      obtain ⟨hfc6, hIn6, h_6⟩ := vh_6
                      obtain rfl : cn = cn6 := (funext (fun k => hfc6.1 k List.not_mem_nil)).symm
                      obtain rfl : Fn = Fn6 := (funext (fun k => hfc6.2.2 k List.not_mem_nil)).symm
                      have hf6 : Fr [] [71, 72, 73] [] cn In Fn cn In6 Fn := Fr.mo (Fr.tr hfr82 hfc6) (sbl rfl) (sbl rfl) (sbl rfl)
                      have hi_cn : Hid (CB cn) := hIn6.b
                      subst h_6
                      refine lv_goto (tgt := 110) hx hb (oc_167 106 (aq_10 shX12_stockOn_96) sgw_0_4) rfl ?_
                      refine lv_isub hx hb (oc_100 110 (aq_14 shX12_stockOn_96)) ?_
                      refine lv_istore_n (lv' := [(2, .int (x82_2 - (nI (mixN ((Fn 10)) ((Fn 64) i82) 20)))), (3, .int (nI i82)), (0, .ref (g 100)), (1, .int v0)]) hx hb (oc_61 111 (aq_15 shX12_stockOn_96)) rfl hl (ltb rfl) rfl (fun ls hl => ?_)
                      refine lv_iinc (v := (nI (i82 + 1))) (lv' := [(3, .int (nI (i82 + 1))), (2, .int (x82_2 - (nI (mixN ((Fn 10)) ((Fn 64) i82) 20)))), (0, .ref (g 100)), (1, .int v0)]) hx hb (oc_132 112 (aq_16 shX12_stockOn_96) ub_3 sgb_1) hl (k := 1) rfl (nI_1 _) (ltb rfl) rfl (fun ls hl => ?_)
                      refine lv_goto (tgt := 82) hx hb (oc_167 115 (aq_19 shX12_stockOn_96) sgw_255_223) rfl ?_
                      exact ih82 (i82 + 1) (x82_2 - (nI (mixN ((Fn 10)) ((Fn 64) i82) 20))) In6 _ _ (by (first | omega | (have zz0 := Hid.u hi_cn; omega))) ⟨(by (first | omega | (have zz0 := Hid.u hi_cn; omega))), (Fr.mo hf6 (sbl rfl) (sbl rfl) (sbl rfl)), hIn6⟩ hP hD hS ls (lv_sub hl [0, 1, 2, 3] rfl)
              exact lp_82 _ 0 x43_2 In _ _ (Nat.lt_succ_self _) ⟨(by (first | omega | (have zz0 := Hid.u hi_cn; omega))), (Fr.mo Fr.rf (sbl rfl) (sbl rfl) (sbl rfl)), hI⟩ hP hD hS ls (lv_sub hl [0, 1, 2, 3] rfl)
            ·
              have tc_2 : ((nI i43).toInt : Int) < (nI (cn 75)).toInt := Int32.lt_iff_toInt_lt.mp (Int32.not_le.mp c_2)
              refine lv_iload_n hx hb (oc_28 51 (aq_3 shX12_stockOn_48)) rfl (lvA1 hl) ?_
              refine lv_aload_n hx hb (oc_42 52 (aq_4 shX12_stockOn_48)) rfl (lvA2 hl) ?_
              refine gM_177 S hK hP (v := .ref (g 81)) rfl (oc_180 53 (aq_5 shX12_stockOn_48) uw_0_177) ?_
              refine lv_iload_n hx hb (oc_29 56 (aq_8 shX12_stockOn_48)) rfl (lvA0 hl) ?_
              have kb_2 : i43 < 40 := by (first | omega | (have zz0 := Hid.u hi_cn; omega))
              refine ldM_81 hx hb hK hP (x := ((Fn 81) i43)) (vp_in_nI kb_2 (ltb rfl)) (nI_clamp (Nat.lt_trans kb_2 (ltb rfl))) rfl (oc_46 57 (aq_9 shX12_stockOn_48)) ?_
              refine lv_iload_n hx hb (oc_27 58 (aq_10 shX12_stockOn_48)) rfl (lvA3 hl) ?_
              refine lv_icmp_gt (tgt := 71) hx hb (oc_163 59 (aq_11 shX12_stockOn_48) sgw_0_12) rfl (fun c_7 => ?_) (fun c_7 => ?_)
              ·
                have tc_7 : (v0.toInt : Int) < ((Fn 81) i43).toInt := Int32.lt_iff_toInt_lt.mp c_7
                refine lv_iconst (v := 0) hx hb (oc_3 71 (aq_23 shX12_stockOn_48)) kic_0 ?_
                refine lv_isub hx hb (oc_100 72 shX12_stockOn_72) ?_
                refine lv_istore_n (lv' := [(2, .int (x43_2 - 0)), (3, .int (nI i43)), (0, .ref (g 100)), (1, .int v0)]) hx hb (oc_61 73 (aq_1 shX12_stockOn_72)) rfl hl (ltb rfl) rfl (fun ls hl => ?_)
                refine lv_iinc (v := (nI (i43 + 1))) (lv' := [(3, .int (nI (i43 + 1))), (2, .int (x43_2 - 0)), (0, .ref (g 100)), (1, .int v0)]) hx hb (oc_132 74 (aq_2 shX12_stockOn_72) ub_3 sgb_1) hl (k := 1) rfl (nI_1 _) (ltb rfl) rfl (fun ls hl => ?_)
                refine lv_goto (tgt := 43) hx hb (oc_167 77 (aq_5 shX12_stockOn_72) sgw_255_222) rfl ?_
                exact ih43 (i43 + 1) (x43_2 - 0) (by (first | omega | (have zz0 := Hid.u hi_cn; omega))) (by (first | omega | (have zz0 := Hid.u hi_cn; omega))) ls (lv_sub hl [0, 1, 2, 3] rfl)
              ·
                have tc_7 : (((Fn 81) i43).toInt : Int) ≤ v0.toInt := Int32.le_iff_toInt_le.mp (Int32.not_lt.mp c_7)
                refine lv_aload_n hx hb (oc_42 62 (aq_14 shX12_stockOn_48)) rfl (lvA2 hl) ?_
                refine gM_180 S hK hP (v := .ref (g 82)) rfl (oc_180 63 (aq_15 shX12_stockOn_48) uw_0_180) ?_
                refine lv_iload_n hx hb (oc_29 66 (aq_18 shX12_stockOn_48)) rfl (lvA0 hl) ?_
                refine ldM_82 hx hb hK hP (x := ((Fn 82) i43)) (vp_in_nI kb_2 (ltb rfl)) (nI_clamp (Nat.lt_trans kb_2 (ltb rfl))) rfl (oc_46 67 (aq_19 shX12_stockOn_48)) ?_
                refine lv_goto (tgt := 72) hx hb (oc_167 68 (aq_20 shX12_stockOn_48) sgw_0_4) rfl ?_
                refine lv_isub hx hb (oc_100 72 shX12_stockOn_72) ?_
                refine lv_istore_n (lv' := [(2, .int (x43_2 - ((Fn 82) i43))), (3, .int (nI i43)), (0, .ref (g 100)), (1, .int v0)]) hx hb (oc_61 73 (aq_1 shX12_stockOn_72)) rfl hl (ltb rfl) rfl (fun ls hl => ?_)
                refine lv_iinc (v := (nI (i43 + 1))) (lv' := [(3, .int (nI (i43 + 1))), (2, .int (x43_2 - ((Fn 82) i43))), (0, .ref (g 100)), (1, .int v0)]) hx hb (oc_132 74 (aq_2 shX12_stockOn_72) ub_3 sgb_1) hl (k := 1) rfl (nI_1 _) (ltb rfl) rfl (fun ls hl => ?_)
                refine lv_goto (tgt := 43) hx hb (oc_167 77 (aq_5 shX12_stockOn_72) sgw_255_222) rfl ?_
                exact ih43 (i43 + 1) (x43_2 - ((Fn 82) i43)) (by (first | omega | (have zz0 := Hid.u hi_cn; omega))) (by (first | omega | (have zz0 := Hid.u hi_cn; omega))) ls (lv_sub hl [0, 1, 2, 3] rfl)
        exact lp_43 _ 0 x4_2 (Nat.lt_succ_self _) (by (first | omega | (have zz0 := Hid.u hi_cn; omega))) ls (lv_sub hl [0, 1, 2, 3] rfl)
      ·
        have tc_1 : ((nI i4).toInt : Int) < (nI (cn 2)).toInt := Int32.lt_iff_toInt_lt.mp (Int32.not_le.mp c_1)
        refine lv_iload_n hx hb (oc_28 12 (aq_12 shX12_stockOn_0)) rfl (lvA1 hl) ?_
        refine lv_aload_n hx hb (oc_42 13 (aq_13 shX12_stockOn_0)) rfl (lvA2 hl) ?_
        refine gM_28 S hK hP (v := .ref (g 9)) rfl (oc_180 14 (aq_14 shX12_stockOn_0) uw_0_28) ?_
        refine lv_iload_n hx hb (oc_29 17 (aq_17 shX12_stockOn_0)) rfl (lvA0 hl) ?_
        have kb_3 : i4 < 60 := by (first | omega | (have zz0 := Hid.u hi_cn; omega))
        obtain ⟨a_8, ha_8, ea_8⟩ := hI.e9 i4 (by (first | omega | (have zz0 := Hid.u hi_cn; omega)))
        refine ldM_9 hx hb hK hP (x := (nI a_8)) (vp_in_nI kb_3 (ltb rfl)) (nI_clamp (Nat.lt_trans kb_3 (ltb rfl))) ea_8 (oc_46 18 (aq_18 shX12_stockOn_0)) ?_
        refine lv_iload_n hx hb (oc_27 19 (aq_19 shX12_stockOn_0)) rfl (lvA3 hl) ?_
        have : (nI a_8).toInt = ((a_8 : Nat) : Int) := nI_toInt (by (first | omega | (have zz0 := Hid.u hi_cn; omega)))
        refine lv_icmp_gt (tgt := 32) hx hb (oc_163 20 (aq_20 shX12_stockOn_0) sgw_0_12) rfl (fun c_9 => ?_) (fun c_9 => ?_)
        ·
          have tc_9 : (v0.toInt : Int) < (nI a_8).toInt := Int32.lt_iff_toInt_lt.mp c_9
          refine lv_iconst (v := 0) hx hb (oc_3 32 (aq_8 shX12_stockOn_24)) kic_0 ?_
          refine lv_iadd hx hb (oc_96 33 (aq_9 shX12_stockOn_24)) ?_
          refine lv_istore_n (lv' := [(2, .int (x4_2 + 0)), (3, .int (nI i4)), (0, .ref (g 100)), (1, .int v0)]) hx hb (oc_61 34 (aq_10 shX12_stockOn_24)) rfl hl (ltb rfl) rfl (fun ls hl => ?_)
          refine lv_iinc (v := (nI (i4 + 1))) (lv' := [(3, .int (nI (i4 + 1))), (2, .int (x4_2 + 0)), (0, .ref (g 100)), (1, .int v0)]) hx hb (oc_132 35 (aq_11 shX12_stockOn_24) ub_3 sgb_1) hl (k := 1) rfl (nI_1 _) (ltb rfl) rfl (fun ls hl => ?_)
          refine lv_goto (tgt := 4) hx hb (oc_167 38 (aq_14 shX12_stockOn_24) sgw_255_222) rfl ?_
          exact ih4 (i4 + 1) (x4_2 + 0) (by (first | omega | (have zz0 := Hid.u hi_cn; omega))) (by (first | omega | (have zz0 := Hid.u hi_cn; omega))) ls (lv_sub hl [0, 1, 2, 3] rfl)
        ·
          have tc_9 : ((nI a_8).toInt : Int) ≤ v0.toInt := Int32.le_iff_toInt_le.mp (Int32.not_lt.mp c_9)
          refine lv_aload_n hx hb (oc_42 23 (aq_23 shX12_stockOn_0)) rfl (lvA2 hl) ?_
          refine gM_31 S hK hP (v := .ref (g 10)) rfl (oc_180 24 shX12_stockOn_24 uw_0_31) ?_
          refine lv_iload_n hx hb (oc_29 27 (aq_3 shX12_stockOn_24)) rfl (lvA0 hl) ?_
          obtain ⟨a_10, ha_10, ea_10⟩ := hI.e10 i4 (by (first | omega | (have zz0 := Hid.u hi_cn; omega)))
          refine ldM_10 hx hb hK hP (x := (nI a_10)) (vp_in_nI kb_3 (ltb rfl)) (nI_clamp (Nat.lt_trans kb_3 (ltb rfl))) ea_10 (oc_46 28 (aq_4 shX12_stockOn_24)) ?_
          refine lv_goto (tgt := 33) hx hb (oc_167 29 (aq_5 shX12_stockOn_24) sgw_0_4) rfl ?_
          refine lv_iadd hx hb (oc_96 33 (aq_9 shX12_stockOn_24)) ?_
          refine lv_istore_n (lv' := [(2, .int (x4_2 + (nI a_10))), (3, .int (nI i4)), (0, .ref (g 100)), (1, .int v0)]) hx hb (oc_61 34 (aq_10 shX12_stockOn_24)) rfl hl (ltb rfl) rfl (fun ls hl => ?_)
          refine lv_iinc (v := (nI (i4 + 1))) (lv' := [(3, .int (nI (i4 + 1))), (2, .int (x4_2 + (nI a_10))), (0, .ref (g 100)), (1, .int v0)]) hx hb (oc_132 35 (aq_11 shX12_stockOn_24) ub_3 sgb_1) hl (k := 1) rfl (nI_1 _) (ltb rfl) rfl (fun ls hl => ?_)
          refine lv_goto (tgt := 4) hx hb (oc_167 38 (aq_14 shX12_stockOn_24) sgw_255_222) rfl ?_
          exact ih4 (i4 + 1) (x4_2 + (nI a_10)) (by (first | omega | (have zz0 := Hid.u hi_cn; omega))) (by (first | omega | (have zz0 := Hid.u hi_cn; omega))) ls (lv_sub hl [0, 1, 2, 3] rfl)
  exact lp_4 _ 0 0 (Nat.lt_succ_self _) (by (first | omega | (have zz0 := Hid.u hi_cn; omega))) ls (lv_sub hl [0, 1, 2, 3] rfl)
set_option maxRecDepth 100000 in
set_option maxHeartbeats 4000000 in
theorem q_stock (l : Launch) (D : va_G) (cI cB cZ : ClassId) (g : Nat → Nat) (cn : Nat → Nat) (In : Nat → Int32) (Fn : Nat → Nat → Int32) (v0 : Int32) (sz : Nat) (hI : IM cn Fn) : Met l yX12_stock (CWS yX12_stock cX12_stock 2 (some .int)) (RM 3 0 0) (PBw [.ref (g 100), .int v0] D cI cB cZ (wM cI cB cZ g cn In Fn) sz) (va_Qi (fun (r : Int32) (u : (Nat → Nat) × (Nat → Int32) × (Nat → Nat → Int32)) => (fun r c2 I2 F2 => Fr [] [71, 72, 73] [] cn In Fn c2 I2 F2 ∧ IM c2 F2 ∧ (True)) r u.1 u.2.1 u.2.2) (fun (u : (Nat → Nat) × (Nat → Int32) × (Nat → Nat → Int32)) (t : State) => va_P D vwCl (wM cI cB cZ g u.1 u.2.1 u.2.2) t.heap ∧ va_D (va_A (wM cI cB cZ g cn In Fn) sz) (wM cI cB cZ g u.1 u.2.1 u.2.2)) (va_A (wM cI cB cZ g cn In Fn) sz)) 0 0 (va_A (wM cI cB cZ g cn In Fn) sz) := by
  refine en_w (fun A => (va_Qi (fun (r : Int32) (u : (Nat → Nat) × (Nat → Int32) × (Nat → Nat → Int32)) => (fun (r : Int32) (c2 : Nat → Nat) (I2 : Nat → Int32) (F2 : Nat → Nat → Int32) => Fr [] [71, 72, 73] [] cn In Fn c2 I2 F2 ∧ IM c2 F2 ∧ (True)) r u.1 u.2.1 u.2.2) (fun (u : (Nat → Nat) × (Nat → Int32) × (Nat → Nat → Int32)) (t : State) => va_P D vwCl (wM cI cB cZ g u.1 u.2.1 u.2.2) t.heap ∧ va_D A (wM cI cB cZ g u.1 u.2.1 u.2.2)) A)) rfl rfl pn_RX12 (Nat.le_of_ble_eq_true rfl) (fun p e s m below meth c A hx hb hml hown S hr hlocks hnm hA hP hK hD hS ls hl => ?_)
  have hl : lv_has ls 2 [(0, .ref (g 100)), (1, .int v0)] := hl
  have hi_cn : Hid (CB cn) := hI.b
  refine lv_iload_n hx hb (oc_27 0 shX12_stock_0) rfl (lvA1 hl) ?_
  refine vp_callSi (runS_r (As := [.int v0]) (rest := []) S (q_isDay l D cI cB cZ v0 ) kS_RX12_341 hK hP [] rfl ⟨Nat.le_of_ble_eq_true rfl, Nat.le_of_ble_eq_true rfl⟩ ⟨Nat.le_of_ble_eq_true rfl, Nat.le_of_ble_eq_true rfl⟩ rfl hl.1 rfl (Nat.le_of_ble_eq_true rfl) (oc_184 1 (aq_1 shX12_stock_0) uw_1_85)) (fun r_1 h_2 => ?_)
  rcases h_2 with ⟨rfl, h_2⟩ | ⟨rfl, h_2⟩
  ·
    have h_2 : 0 ≤ v0.toInt ∧ v0.toInt ≤ 399 := h_2
    refine lv_if_eq (tgt := 15) hx hb (oc_153 4 (aq_4 shX12_stock_0) sgw_0_11) rfl (fun h => absurd h cq_eq_1_0) (fun _ => ?_)
    refine lv_aload_n hx hb (oc_42 7 (aq_7 shX12_stock_0)) rfl (lvA0 hl) ?_
    refine lv_iload_n hx hb (oc_27 8 (aq_8 shX12_stock_0)) rfl (lvA1 hl) ?_
    have hFc := free_all hD hS hA
    refine va_calli (runV_a (As := [.int v0]) (rest := []) S (q_stockOn l D cI cB cZ g cn In Fn v0 s.heap.size hI) kV_RX12_465 hK hP hD 0 rfl rfl rfl ⟨Nat.le_of_ble_eq_true rfl, Nat.le_of_ble_eq_true rfl⟩ ⟨Nat.le_of_ble_eq_true rfl, Nat.le_of_ble_eq_true rfl⟩ rfl hl.1 rfl (Nat.le_of_ble_eq_true rfl) (oc_182 9 (aq_9 shX12_stock_0) uw_1_209)) hS (fun q _ h => hFc q h) hFc (fun r_3 u t H1 locs ht hvm wh_4 hB hz1 hk1 hS => ?_)
    obtain ⟨cn4, In4, Fn4⟩ := u
    obtain ⟨hP1, hD1⟩ := hB
    rw [ht] at hP1
    have hP : va_P D vwCl (wM cI cB cZ g cn4 In4 Fn4) H1 := hP1
    have hD : va_D A (wM cI cB cZ g cn4 In4 Fn4) := hD1.weaken (fun _ _ _ h => hFc _ h)
    generalize H1 = H at hP hS ⊢
    have vh_4 : (fun r c2 I2 F2 => Fr [] [71, 72, 73] [] cn In Fn c2 I2 F2 ∧ IM c2 F2 ∧ (True)) r_3 cn4 In4 Fn4 := wh_4
    obtain ⟨hfc4, hIn4, h_4⟩ := vh_4
    obtain rfl : cn = cn4 := (funext (fun k => hfc4.1 k List.not_mem_nil)).symm
    obtain rfl : Fn = Fn4 := (funext (fun k => hfc4.2.2 k List.not_mem_nil)).symm
    have hf4 : Fr [] [71, 72, 73] [] cn In Fn cn In4 Fn := Fr.mo (Fr.tr (Fr.rf (cn := cn) (In := In) (Fn := Fn)) hfc4) (sbl rfl) (sbl rfl) (sbl rfl)
    have hi_cn : Hid (CB cn) := hIn4.b
    refine lv_goto (tgt := 18) hx hb (oc_167 12 (aq_12 shX12_stock_0) sgw_0_6) rfl ?_
    exact W.iret (v := r_3) hx hb hr (fun t ht hW => ⟨⟨r_3, (cn, In4, Fn), rfl, ⟨(Fr.mo hf4 (sbl rfl) (sbl rfl) (sbl rfl)), hIn4, trivial⟩, by rw [ht]; exact hP, hD⟩, hS.F ht⟩) hS.2.2 (oc_172 18 (aq_18 shX12_stock_0))
  ·
    have h_2 : ¬ (0 ≤ v0.toInt ∧ v0.toInt ≤ 399) := h_2
    refine lv_if_eq (tgt := 15) hx hb (oc_153 4 (aq_4 shX12_stock_0) sgw_0_11) rfl (fun _ => ?_) (fun h => absurd h cq_eq_0_0)
    refine lv_ldcw (v := (-1000000)) hx hb hown (S.2.2.2.2 _ (wk9_5 5 rfl rfl)) (oc_19 15 (aq_15 shX12_stock_0) uw_1_212) ?_
    exact W.iret (v := (-1000000)) hx hb hr (fun t ht hW => ⟨⟨(-1000000), (cn, In, Fn), rfl, ⟨(Fr.mo Fr.rf (sbl rfl) (sbl rfl) (sbl rfl)), hI, trivial⟩, by rw [ht]; exact hP, hD⟩, hS.F ht⟩) hS.2.2 (oc_172 18 (aq_18 shX12_stock_0))
set_option maxRecDepth 100000 in
set_option maxHeartbeats 4000000 in
theorem q_below (l : Launch) (D : va_G) (cI cB cZ : ClassId) (g : Nat → Nat) (cn : Nat → Nat) (In : Nat → Int32) (Fn : Nat → Nat → Int32) (v0 : Int32) (sz : Nat) (hI : IM cn Fn) : Met l yX12_below (CWS yX12_below cX12_below 3 (some .int)) (RM 3 0 0) (PBw [.ref (g 100), .int v0] D cI cB cZ (wM cI cB cZ g cn In Fn) sz) (va_Qi (fun (r : Int32) (u : (Nat → Nat) × (Nat → Int32) × (Nat → Nat → Int32)) => (fun r c2 I2 F2 => Fr [] [71, 72, 73] [] cn In Fn c2 I2 F2 ∧ IM c2 F2 ∧ (True)) r u.1 u.2.1 u.2.2) (fun (u : (Nat → Nat) × (Nat → Int32) × (Nat → Nat → Int32)) (t : State) => va_P D vwCl (wM cI cB cZ g u.1 u.2.1 u.2.2) t.heap ∧ va_D (va_A (wM cI cB cZ g cn In Fn) sz) (wM cI cB cZ g u.1 u.2.1 u.2.2)) (va_A (wM cI cB cZ g cn In Fn) sz)) 0 0 (va_A (wM cI cB cZ g cn In Fn) sz) := by
  refine en_w (fun A => (va_Qi (fun (r : Int32) (u : (Nat → Nat) × (Nat → Int32) × (Nat → Nat → Int32)) => (fun (r : Int32) (c2 : Nat → Nat) (I2 : Nat → Int32) (F2 : Nat → Nat → Int32) => Fr [] [71, 72, 73] [] cn In Fn c2 I2 F2 ∧ IM c2 F2 ∧ (True)) r u.1 u.2.1 u.2.2) (fun (u : (Nat → Nat) × (Nat → Int32) × (Nat → Nat → Int32)) (t : State) => va_P D vwCl (wM cI cB cZ g u.1 u.2.1 u.2.2) t.heap ∧ va_D A (wM cI cB cZ g u.1 u.2.1 u.2.2)) A)) rfl rfl pn_RX12 (Nat.le_of_ble_eq_true rfl) (fun p e s m below meth c A hx hb hml hown S hr hlocks hnm hA hP hK hD hS ls hl => ?_)
  have hl : lv_has ls 3 [(0, .ref (g 100)), (1, .int v0)] := hl
  have hi_cn : Hid (CB cn) := hI.b
  refine lv_iload_n hx hb (oc_27 0 shX12_below_0) rfl (lvA1 hl) ?_
  refine lv_sipush (v := (-10000)) hx hb (oc_17 1 (aq_1 shX12_below_0) sgw_216_240) (by decide) ?_
  refine lv_sipush (v := 10000) hx hb (oc_17 4 (aq_4 shX12_below_0) sgw_39_16) (by decide) ?_
  refine vp_callSi (runS_r (As := [.int v0, .int (-10000), .int 10000]) (rest := []) S (q_in l D cI cB cZ v0 (-10000) 10000 ) kS_RX12_214 hK hP [] rfl ⟨Nat.le_of_ble_eq_true rfl, Nat.le_of_ble_eq_true rfl⟩ ⟨Nat.le_of_ble_eq_true rfl, Nat.le_of_ble_eq_true rfl⟩ rfl hl.1 rfl (Nat.le_of_ble_eq_true rfl) (oc_184 7 (aq_7 shX12_below_0) uw_0_214)) (fun r_1 h_2 => ?_)
  rcases h_2 with ⟨rfl, h_2⟩ | ⟨rfl, h_2⟩
  ·
    have h_2 : (-10000) ≤ v0.toInt ∧ v0.toInt ≤ 10000 := h_2
    refine lv_if_ne (tgt := 15) hx hb (oc_154 10 (aq_10 shX12_below_0) sgw_0_5) rfl (fun _ => ?_) (fun h => absurd h cq_eq_1_0)
    refine lv_iconst (v := 0) hx hb (oc_3 15 (aq_15 shX12_below_0)) kic_0 ?_
    refine lv_istore_n (lv' := [(2, .int 0), (0, .ref (g 100)), (1, .int v0)]) hx hb (oc_61 16 (aq_16 shX12_below_0)) rfl hl (ltb rfl) rfl (fun ls hl => ?_)
    have lp_17 : ∀ (n : Nat) (i17 : Nat) (I17 : Nat → Int32) (H : Heap) (locs : List Loc) , cn 0 + 1 - i17 < n → (i17 ≤ cn 0 + 1 ∧ Fr [] [71, 72, 73] [] cn In Fn cn I17 Fn ∧ IM cn Fn) → va_P D vwCl (wM cI cB cZ g cn I17 Fn) H → va_D A (wM cI cB cZ g cn I17 Fn) → va_S A s.heap H locs → ∀ ls : Array Slot, lv_has ls 3 [(2, .int (nI i17)), (0, .ref (g 100)), (1, .int v0)] → W p l e (RM 3 0 0) s m ([.ref (g 100), .int v0]).toArray below meth c H locs 0 0 (MQ below (va_Qi (fun (r : Int32) (u : (Nat → Nat) × (Nat → Int32) × (Nat → Nat → Int32)) => (fun r c2 I2 F2 => Fr [] [71, 72, 73] [] cn In Fn c2 I2 F2 ∧ IM c2 F2 ∧ (True)) r u.1 u.2.1 u.2.2) (fun (u : (Nat → Nat) × (Nat → Int32) × (Nat → Nat → Int32)) (t : State) => va_P D vwCl (wM cI cB cZ g u.1 u.2.1 u.2.2) t.heap ∧ va_D A (wM cI cB cZ g u.1 u.2.1 u.2.2)) A) ([.ref (g 100), .int v0]).toArray s 0 0 A) (F0 m 17 ls []) := by
      intro n17
      induction n17 with
      | zero => intros; (first | omega | (have zz0 := Hid.u hi_cn; omega))
      | succ n17 ih17 =>
        intro i17 I17 H locs hmu17 hinv17 hP hD hS ls hl
        obtain ⟨hr17, hfr17, hI17⟩ := hinv17
        have ti17 : (nI i17).toInt = (i17 : Int) := nI_toInt (by (first | omega | (have zz0 := Hid.u hi_cn; omega)))
        have hi_cn : Hid (CB cn) := hI17.b
        refine lv_iload_n hx hb (oc_28 17 (aq_17 shX12_below_0)) rfl (lvA0 hl) ?_
        refine lv_aload_n hx hb (oc_42 18 (aq_18 shX12_below_0)) rfl (lvA1 hl) ?_
        refine gM_211 S hK hP (v := .int (nI (cn 0))) rfl (oc_180 19 (aq_19 shX12_below_0) uw_0_211) ?_
        have : (nI (cn 0)).toInt = (((cn 0) : Nat) : Int) := nI_toInt (by (first | omega | (have zz0 := Hid.u hi_cn; omega)))
        refine lv_icmp_gt (tgt := 42) hx hb (oc_163 22 (aq_22 shX12_below_0) sgw_0_20) rfl (fun c_3 => ?_) (fun c_3 => ?_)
        ·
          have tc_3 : ((nI (cn 0)).toInt : Int) < (nI i17).toInt := Int32.lt_iff_toInt_lt.mp c_3
          refine lv_bipush (v := (-2)) hx hb (oc_16 42 (aq_17 shX12_below_25) sgb_254) kbc_m2 ?_
          exact W.iret (v := (-2)) hx hb hr (fun t ht hW => ⟨⟨(-2), (cn, I17, Fn), rfl, ⟨(Fr.mo hfr17 (sbl rfl) (sbl rfl) (sbl rfl)), hI17, trivial⟩, by rw [ht]; exact hP, hD⟩, hS.F ht⟩) hS.2.2 (oc_172 44 (aq_19 shX12_below_25))
        ·
          have tc_3 : ((nI i17).toInt : Int) ≤ (nI (cn 0)).toInt := Int32.le_iff_toInt_le.mp (Int32.not_lt.mp c_3)
          refine lv_aload_n hx hb (oc_42 25 shX12_below_25) rfl (lvA1 hl) ?_
          refine lv_iload_n hx hb (oc_28 26 (aq_1 shX12_below_25)) rfl (lvA0 hl) ?_
          have hFc := free_all hD hS hA
          refine va_calli (runV_a (As := [.int (nI i17)]) (rest := []) S (q_stockOn l D cI cB cZ g cn I17 Fn (nI i17) H.size hI17) kV_RX12_465 hK hP hD 0 rfl rfl rfl ⟨Nat.le_of_ble_eq_true rfl, Nat.le_of_ble_eq_true rfl⟩ ⟨Nat.le_of_ble_eq_true rfl, Nat.le_of_ble_eq_true rfl⟩ rfl hl.1 rfl (Nat.le_of_ble_eq_true rfl) (oc_182 27 (aq_2 shX12_below_25) uw_1_209)) hS (fun q _ h => hFc q h) hFc (fun r_4 u t H1 locs ht hvm wh_5 hB hz1 hk1 hS => ?_)
          obtain ⟨cn5, In5, Fn5⟩ := u
          obtain ⟨hP1, hD1⟩ := hB
          rw [ht] at hP1
          have hP : va_P D vwCl (wM cI cB cZ g cn5 In5 Fn5) H1 := hP1
          have hD : va_D A (wM cI cB cZ g cn5 In5 Fn5) := hD1.weaken (fun _ _ _ h => hFc _ h)
          generalize H1 = H at hP hS ⊢
          have vh_5 : (fun r c2 I2 F2 => Fr [] [71, 72, 73] [] cn I17 Fn c2 I2 F2 ∧ IM c2 F2 ∧ (True)) r_4 cn5 In5 Fn5 := wh_5
          obtain ⟨hfc5, hIn5, h_5⟩ := vh_5
          obtain rfl : cn = cn5 := (funext (fun k => hfc5.1 k List.not_mem_nil)).symm
          obtain rfl : Fn = Fn5 := (funext (fun k => hfc5.2.2 k List.not_mem_nil)).symm
          have hf5 : Fr [] [71, 72, 73] [] cn In Fn cn In5 Fn := Fr.mo (Fr.tr hfr17 hfc5) (sbl rfl) (sbl rfl) (sbl rfl)
          have hi_cn : Hid (CB cn) := hIn5.b
          refine lv_iload_n hx hb (oc_27 30 (aq_5 shX12_below_25)) rfl (lvA2 hl) ?_
          refine lv_icmp_ge (tgt := 36) hx hb (oc_162 31 (aq_6 shX12_below_25) sgw_0_5) rfl (fun c_6 => ?_) (fun c_6 => ?_)
          ·
            have tc_6 : (v0.toInt : Int) ≤ r_4.toInt := Int32.le_iff_toInt_le.mp c_6
            refine lv_iinc (v := (nI (i17 + 1))) (lv' := [(2, .int (nI (i17 + 1))), (0, .ref (g 100)), (1, .int v0)]) hx hb (oc_132 36 (aq_11 shX12_below_25) ub_2 sgb_1) hl (k := 0) rfl (nI_1 _) (ltb rfl) rfl (fun ls hl => ?_)
            refine lv_goto (tgt := 17) hx hb (oc_167 39 (aq_14 shX12_below_25) sgw_255_234) rfl ?_
            exact ih17 (i17 + 1) In5 _ _ (by (first | omega | (have zz0 := Hid.u hi_cn; omega))) ⟨(by (first | omega | (have zz0 := Hid.u hi_cn; omega))), (Fr.mo hf5 (sbl rfl) (sbl rfl) (sbl rfl)), hIn5⟩ hP hD hS ls (lv_sub hl [0, 1, 2] rfl)
          ·
            have tc_6 : (r_4.toInt : Int) < v0.toInt := Int32.lt_iff_toInt_lt.mp (Int32.not_le.mp c_6)
            refine lv_iload_n hx hb (oc_28 34 (aq_9 shX12_below_25)) rfl (lvA0 hl) ?_
            exact W.iret (v := (nI i17)) hx hb hr (fun t ht hW => ⟨⟨(nI i17), (cn, In5, Fn), rfl, ⟨(Fr.mo hf5 (sbl rfl) (sbl rfl) (sbl rfl)), hIn5, trivial⟩, by rw [ht]; exact hP, hD⟩, hS.F ht⟩) hS.2.2 (oc_172 35 (aq_10 shX12_below_25))
    exact lp_17 _ 0 In _ _ (Nat.lt_succ_self _) ⟨(by (first | omega | (have zz0 := Hid.u hi_cn; omega))), (Fr.mo Fr.rf (sbl rfl) (sbl rfl) (sbl rfl)), hI⟩ hP hD hS ls (lv_sub hl [0, 1, 2] rfl)
  ·
    have h_2 : ¬ ((-10000) ≤ v0.toInt ∧ v0.toInt ≤ 10000) := h_2
    refine lv_if_ne (tgt := 15) hx hb (oc_154 10 (aq_10 shX12_below_0) sgw_0_5) rfl (fun h => absurd h cq_eq_0_0) (fun _ => ?_)
    refine lv_iconst (v := (-1)) hx hb (oc_2 13 (aq_13 shX12_below_0)) kic_m1 ?_
    exact W.iret (v := (-1)) hx hb hr (fun t ht hW => ⟨⟨(-1), (cn, In, Fn), rfl, ⟨(Fr.mo Fr.rf (sbl rfl) (sbl rfl) (sbl rfl)), hI, trivial⟩, by rw [ht]; exact hP, hD⟩, hS.F ht⟩) hS.2.2 (oc_172 14 (aq_14 shX12_below_0))
end

section
theorem IM.cd1 {cn : Nat → Nat} {Fn : Nat → Nat → Int32} {t i q : Nat} (h : IM cn Fn) (ht : t ≤ 10) (e : Fn 33 t = nI q) (hq : q ≤ 12) (h1 : 12 * t ≤ i) (h2 : i < 12 * t + q) : ClOK (Fn 32) (180 * t) (Fn 34 i) (Fn 35 i) (Fn 36 i) := by
  have k := h.cd t ht (i - 12 * t) (by rw [e, nI_tn (by omega)]; omega)
  rw [show 12 * t + (i - 12 * t) = i by omega] at k
  exact k

theorem cq_eq_1_1 : ¬¬((1 : Int32) = 1) := by decide
theorem cq_eq_10_0 : ¬((10 : Int32) = 0) := by decide
theorem cq_eq_10_1 : ¬((10 : Int32) = 1) := by decide
theorem cq_eq_10_10 : ¬¬((10 : Int32) = 10) := by decide
theorem cq_eq_11_0 : ¬((11 : Int32) = 0) := by decide
theorem cq_eq_11_1 : ¬((11 : Int32) = 1) := by decide
theorem cq_eq_11_10 : ¬((11 : Int32) = 10) := by decide
theorem cq_eq_11_11 : ¬¬((11 : Int32) = 11) := by decide
theorem cq_eq_11_12 : ¬((11 : Int32) = 12) := by decide
theorem cq_eq_12_0 : ¬((12 : Int32) = 0) := by decide
theorem cq_eq_12_1 : ¬((12 : Int32) = 1) := by decide
theorem cq_eq_12_10 : ¬((12 : Int32) = 10) := by decide
theorem cq_eq_12_11 : ¬((12 : Int32) = 11) := by decide
theorem cq_eq_12_12 : ¬¬((12 : Int32) = 12) := by decide
theorem cq_eq_2_0 : ¬((2 : Int32) = 0) := by decide
theorem cq_eq_2_1 : ¬((2 : Int32) = 1) := by decide
theorem cq_eq_2_10 : ¬((2 : Int32) = 10) := by decide
theorem cq_eq_2_11 : ¬((2 : Int32) = 11) := by decide
theorem cq_eq_2_12 : ¬((2 : Int32) = 12) := by decide
theorem cq_eq_2_5 : ¬((2 : Int32) = 5) := by decide
theorem cq_eq_2_6 : ¬((2 : Int32) = 6) := by decide
theorem cq_eq_3_0 : ¬((3 : Int32) = 0) := by decide
theorem cq_eq_3_1 : ¬((3 : Int32) = 1) := by decide
theorem cq_eq_3_10 : ¬((3 : Int32) = 10) := by decide
theorem cq_eq_3_11 : ¬((3 : Int32) = 11) := by decide
theorem cq_eq_3_12 : ¬((3 : Int32) = 12) := by decide
theorem cq_eq_3_5 : ¬((3 : Int32) = 5) := by decide
theorem cq_eq_3_6 : ¬((3 : Int32) = 6) := by decide
theorem cq_eq_4_0 : ¬((4 : Int32) = 0) := by decide
theorem cq_eq_4_1 : ¬((4 : Int32) = 1) := by decide
theorem cq_eq_4_10 : ¬((4 : Int32) = 10) := by decide
theorem cq_eq_4_11 : ¬((4 : Int32) = 11) := by decide
theorem cq_eq_4_12 : ¬((4 : Int32) = 12) := by decide
theorem cq_eq_4_5 : ¬((4 : Int32) = 5) := by decide
theorem cq_eq_4_6 : ¬((4 : Int32) = 6) := by decide
theorem cq_eq_5_0 : ¬((5 : Int32) = 0) := by decide
theorem cq_eq_5_1 : ¬((5 : Int32) = 1) := by decide
theorem cq_eq_5_10 : ¬((5 : Int32) = 10) := by decide
theorem cq_eq_5_11 : ¬((5 : Int32) = 11) := by decide
theorem cq_eq_5_12 : ¬((5 : Int32) = 12) := by decide
theorem cq_eq_5_5 : ¬¬((5 : Int32) = 5) := by decide
theorem cq_eq_6_0 : ¬((6 : Int32) = 0) := by decide
theorem cq_eq_6_1 : ¬((6 : Int32) = 1) := by decide
theorem cq_eq_6_10 : ¬((6 : Int32) = 10) := by decide
theorem cq_eq_6_11 : ¬((6 : Int32) = 11) := by decide
theorem cq_eq_6_12 : ¬((6 : Int32) = 12) := by decide
theorem cq_eq_6_5 : ¬((6 : Int32) = 5) := by decide
theorem cq_eq_6_6 : ¬¬((6 : Int32) = 6) := by decide
theorem cq_eq_7_0 : ¬((7 : Int32) = 0) := by decide
theorem cq_eq_7_1 : ¬((7 : Int32) = 1) := by decide
theorem cq_eq_7_10 : ¬((7 : Int32) = 10) := by decide
theorem cq_eq_7_11 : ¬((7 : Int32) = 11) := by decide
theorem cq_eq_7_12 : ¬((7 : Int32) = 12) := by decide
theorem cq_eq_7_5 : ¬((7 : Int32) = 5) := by decide
theorem cq_eq_7_6 : ¬((7 : Int32) = 6) := by decide
theorem cq_eq_8_0 : ¬((8 : Int32) = 0) := by decide
theorem cq_eq_8_1 : ¬((8 : Int32) = 1) := by decide
theorem cq_eq_8_10 : ¬((8 : Int32) = 10) := by decide
theorem cq_eq_8_11 : ¬((8 : Int32) = 11) := by decide
theorem cq_eq_8_12 : ¬((8 : Int32) = 12) := by decide
theorem cq_eq_8_5 : ¬((8 : Int32) = 5) := by decide
theorem cq_eq_8_6 : ¬((8 : Int32) = 6) := by decide
theorem cq_eq_9_0 : ¬((9 : Int32) = 0) := by decide
theorem cq_eq_9_1 : ¬((9 : Int32) = 1) := by decide
theorem cq_eq_9_10 : ¬((9 : Int32) = 10) := by decide
theorem cq_eq_9_11 : ¬((9 : Int32) = 11) := by decide
theorem cq_eq_9_12 : ¬((9 : Int32) = 12) := by decide
theorem cq_eq_9_5 : ¬((9 : Int32) = 5) := by decide
theorem cq_eq_9_6 : ¬((9 : Int32) = 6) := by decide
theorem frq_18_0_1_2_46_57_58_62_63_75_83_44 {li lf : List Nat} {cn c2 : Nat → Nat} {In I2 : Nat → Int32} {Fn F2 : Nat → Nat → Int32} (h : Fr [18] li lf cn In Fn c2 I2 F2) : c2 0 = cn 0 ∧ c2 1 = cn 1 ∧ c2 2 = cn 2 ∧ c2 46 = cn 46 ∧ c2 57 = cn 57 ∧ c2 58 = cn 58 ∧ c2 62 = cn 62 ∧ c2 63 = cn 63 ∧ c2 75 = cn 75 ∧ c2 83 = cn 83 ∧ c2 44 = cn 44 := ⟨h.1 0 (nml rfl), h.1 1 (nml rfl), h.1 2 (nml rfl), h.1 46 (nml rfl), h.1 57 (nml rfl), h.1 58 (nml rfl), h.1 62 (nml rfl), h.1 63 (nml rfl), h.1 75 (nml rfl), h.1 83 (nml rfl), h.1 44 (nml rfl)⟩

set_option maxRecDepth 100000 in
set_option maxHeartbeats 4000000 in
theorem q_reckon (l : Launch) (D : va_G) (cI cB cZ : ClassId) (v0 v1 v2 : Int32) (hne : v0 = 5 ∨ v0 = 6 → ¬ v2 = 0) : Met l yX12_reckon (CWS yX12_reckon cX12_reckon 3 (some .int)) (RM 0 0 0) (PBr [.int v0, .int v1, .int v2] D cI cB cZ []) (vp_Si (fun _ => True)) 0 0 (fun _ => False) := by
  refine en_r rfl pn_RX12 (Nat.le_of_ble_eq_true rfl) (fun p e s m below meth c hx hb hml hown S hr hlocks hnm hP hK hS ls hl => ?_)
  have hl : lv_has ls 3 [(0, .int v0), (1, .int v1), (2, .int v2)] := hl
  refine lv_iload_n hx hb (oc_26 0 shX12_reckon_0) rfl (lvA0 hl) ?_
  rcases (by omega : v0.toInt < 2 ∨ 8 < v0.toInt ∨ v0.toInt = 2 ∨ v0.toInt = 3 ∨ v0.toInt = 4 ∨ v0.toInt = 5 ∨ v0.toInt = 6 ∨ v0.toInt = 7 ∨ v0.toInt = 8) with c_1 | c_1 | c_1 | c_1 | c_1 | c_1 | c_1 | c_1 | c_1
  ·
    refine lv_tableOut (tgt := 86) hx hb dX12_reckon_1 (Or.inl c_1) (by decide) ?_
    refine lv_iload_n hx hb (oc_27 86 (aq_17 shX12_reckon_69)) rfl (lvA1 hl) ?_
    refine lv_iload_n hx hb (oc_28 87 (aq_18 shX12_reckon_69)) rfl (lvA2 hl) ?_
    refine lv_icmp_ne (tgt := 95) hx hb (oc_160 88 (aq_19 shX12_reckon_69) sgw_0_7) rfl (fun c_2 => ?_) (fun c_2 => ?_)
    ·
      have tc_2 : (v1.toInt : Int) ≠ v2.toInt := fun q => c_2 (Int32.toInt_inj.mp q)
      refine lv_iconst (v := 0) hx hb (oc_3 95 shX12_reckon_95) kic_0 ?_
      exact W.iret (v := 0) hx hb hr (fun t ht hW => ⟨0, rfl, trivial, ht⟩) (fun _ h => absurd h List.not_mem_nil) dX12_reckon_96
    ·
      have tc_2 : (v1.toInt : Int) = v2.toInt := congrArg Int32.toInt c_2
      refine lv_iconst (v := 1) hx hb (oc_4 91 (aq_22 shX12_reckon_69)) kic_1 ?_
      refine lv_goto (tgt := 96) hx hb (oc_167 92 (aq_23 shX12_reckon_69) sgw_0_4) rfl ?_
      exact W.iret (v := 1) hx hb hr (fun t ht hW => ⟨1, rfl, trivial, ht⟩) (fun _ h => absurd h List.not_mem_nil) dX12_reckon_96
  ·
    refine lv_tableOut (tgt := 86) hx hb dX12_reckon_1 (Or.inr c_1) (by decide) ?_
    refine lv_iload_n hx hb (oc_27 86 (aq_17 shX12_reckon_69)) rfl (lvA1 hl) ?_
    refine lv_iload_n hx hb (oc_28 87 (aq_18 shX12_reckon_69)) rfl (lvA2 hl) ?_
    refine lv_icmp_ne (tgt := 95) hx hb (oc_160 88 (aq_19 shX12_reckon_69) sgw_0_7) rfl (fun c_3 => ?_) (fun c_3 => ?_)
    ·
      have tc_3 : (v1.toInt : Int) ≠ v2.toInt := fun q => c_3 (Int32.toInt_inj.mp q)
      refine lv_iconst (v := 0) hx hb (oc_3 95 shX12_reckon_95) kic_0 ?_
      exact W.iret (v := 0) hx hb hr (fun t ht hW => ⟨0, rfl, trivial, ht⟩) (fun _ h => absurd h List.not_mem_nil) dX12_reckon_96
    ·
      have tc_3 : (v1.toInt : Int) = v2.toInt := congrArg Int32.toInt c_3
      refine lv_iconst (v := 1) hx hb (oc_4 91 (aq_22 shX12_reckon_69)) kic_1 ?_
      refine lv_goto (tgt := 96) hx hb (oc_167 92 (aq_23 shX12_reckon_69) sgw_0_4) rfl ?_
      exact W.iret (v := 1) hx hb hr (fun t ht hW => ⟨1, rfl, trivial, ht⟩) (fun _ h => absurd h List.not_mem_nil) dX12_reckon_96
  ·
    refine lv_tableIn (tgt := 44) (off := 43) hx hb dX12_reckon_1 (by omega) (by omega) (by rw [c_1]; rfl) (by decide) ?_
    refine lv_iload_n hx hb (oc_27 44 shX12_reckon_44) rfl (lvA1 hl) ?_
    refine lv_iload_n hx hb (oc_28 45 (aq_1 shX12_reckon_44)) rfl (lvA2 hl) ?_
    refine lv_iadd hx hb (oc_96 46 (aq_2 shX12_reckon_44)) ?_
    exact W.iret (v := (v1 + v2)) hx hb hr (fun t ht hW => ⟨(v1 + v2), rfl, trivial, ht⟩) (fun _ h => absurd h List.not_mem_nil) (oc_172 47 (aq_3 shX12_reckon_44))
  ·
    refine lv_tableIn (tgt := 48) (off := 47) hx hb dX12_reckon_1 (by omega) (by omega) (by rw [c_1]; rfl) (by decide) ?_
    refine lv_iload_n hx hb (oc_27 48 (aq_4 shX12_reckon_44)) rfl (lvA1 hl) ?_
    refine lv_iload_n hx hb (oc_28 49 (aq_5 shX12_reckon_44)) rfl (lvA2 hl) ?_
    refine lv_isub hx hb (oc_100 50 (aq_6 shX12_reckon_44)) ?_
    exact W.iret (v := (v1 - v2)) hx hb hr (fun t ht hW => ⟨(v1 - v2), rfl, trivial, ht⟩) (fun _ h => absurd h List.not_mem_nil) (oc_172 51 (aq_7 shX12_reckon_44))
  ·
    refine lv_tableIn (tgt := 52) (off := 51) hx hb dX12_reckon_1 (by omega) (by omega) (by rw [c_1]; rfl) (by decide) ?_
    refine lv_iload_n hx hb (oc_27 52 (aq_8 shX12_reckon_44)) rfl (lvA1 hl) ?_
    refine lv_iload_n hx hb (oc_28 53 (aq_9 shX12_reckon_44)) rfl (lvA2 hl) ?_
    refine lv_imul hx hb (oc_104 54 (aq_10 shX12_reckon_44)) ?_
    exact W.iret (v := (v1 * v2)) hx hb hr (fun t ht hW => ⟨(v1 * v2), rfl, trivial, ht⟩) (fun _ h => absurd h List.not_mem_nil) (oc_172 55 (aq_11 shX12_reckon_44))
  ·
    refine lv_tableIn (tgt := 56) (off := 55) hx hb dX12_reckon_1 (by omega) (by omega) (by rw [c_1]; rfl) (by decide) ?_
    refine lv_iload_n hx hb (oc_27 56 (aq_12 shX12_reckon_44)) rfl (lvA1 hl) ?_
    refine lv_iload_n hx hb (oc_28 57 (aq_13 shX12_reckon_44)) rfl (lvA2 hl) ?_
    refine lv_idiv hx hb (oc_108 58 (aq_14 shX12_reckon_44)) (hne (Or.inl (Int32.toInt_inj.mp c_1))) ?_
    exact W.iret (v := (v1 / v2)) hx hb hr (fun t ht hW => ⟨(v1 / v2), rfl, trivial, ht⟩) (fun _ h => absurd h List.not_mem_nil) (oc_172 59 (aq_15 shX12_reckon_44))
  ·
    refine lv_tableIn (tgt := 60) (off := 59) hx hb dX12_reckon_1 (by omega) (by omega) (by rw [c_1]; rfl) (by decide) ?_
    refine lv_iload_n hx hb (oc_27 60 (aq_16 shX12_reckon_44)) rfl (lvA1 hl) ?_
    refine lv_iload_n hx hb (oc_28 61 (aq_17 shX12_reckon_44)) rfl (lvA2 hl) ?_
    refine lv_irem hx hb (oc_112 62 (aq_18 shX12_reckon_44)) (hne (Or.inr (Int32.toInt_inj.mp c_1))) ?_
    exact W.iret (v := (v1 - v1 / v2 * v2)) hx hb hr (fun t ht hW => ⟨(v1 - v1 / v2 * v2), rfl, trivial, ht⟩) (fun _ h => absurd h List.not_mem_nil) (oc_172 63 (aq_19 shX12_reckon_44))
  ·
    refine lv_tableIn (tgt := 64) (off := 63) hx hb dX12_reckon_1 (by omega) (by omega) (by rw [c_1]; rfl) (by decide) ?_
    refine lv_iload_n hx hb (oc_27 64 (aq_20 shX12_reckon_44)) rfl (lvA1 hl) ?_
    refine lv_iload_n hx hb (oc_28 65 (aq_21 shX12_reckon_44)) rfl (lvA2 hl) ?_
    refine lv_icmp_ge (tgt := 73) hx hb (oc_162 66 (aq_22 shX12_reckon_44) sgw_0_7) rfl (fun c_4 => ?_) (fun c_4 => ?_)
    ·
      have tc_4 : (v2.toInt : Int) ≤ v1.toInt := Int32.le_iff_toInt_le.mp c_4
      refine lv_iconst (v := 0) hx hb (oc_3 73 (aq_4 shX12_reckon_69)) kic_0 ?_
      exact W.iret (v := 0) hx hb hr (fun t ht hW => ⟨0, rfl, trivial, ht⟩) (fun _ h => absurd h List.not_mem_nil) (oc_172 74 (aq_5 shX12_reckon_69))
    ·
      have tc_4 : (v1.toInt : Int) < v2.toInt := Int32.lt_iff_toInt_lt.mp (Int32.not_le.mp c_4)
      refine lv_iconst (v := 1) hx hb (oc_4 69 shX12_reckon_69) kic_1 ?_
      refine lv_goto (tgt := 74) hx hb (oc_167 70 (aq_1 shX12_reckon_69) sgw_0_4) rfl ?_
      exact W.iret (v := 1) hx hb hr (fun t ht hW => ⟨1, rfl, trivial, ht⟩) (fun _ h => absurd h List.not_mem_nil) (oc_172 74 (aq_5 shX12_reckon_69))
  ·
    refine lv_tableIn (tgt := 75) (off := 74) hx hb dX12_reckon_1 (by omega) (by omega) (by rw [c_1]; rfl) (by decide) ?_
    refine lv_iload_n hx hb (oc_27 75 (aq_6 shX12_reckon_69)) rfl (lvA1 hl) ?_
    refine lv_iload_n hx hb (oc_28 76 (aq_7 shX12_reckon_69)) rfl (lvA2 hl) ?_
    refine lv_icmp_le (tgt := 84) hx hb (oc_164 77 (aq_8 shX12_reckon_69) sgw_0_7) rfl (fun c_5 => ?_) (fun c_5 => ?_)
    ·
      have tc_5 : (v1.toInt : Int) ≤ v2.toInt := Int32.le_iff_toInt_le.mp c_5
      refine lv_iconst (v := 0) hx hb (oc_3 84 (aq_15 shX12_reckon_69)) kic_0 ?_
      exact W.iret (v := 0) hx hb hr (fun t ht hW => ⟨0, rfl, trivial, ht⟩) (fun _ h => absurd h List.not_mem_nil) (oc_172 85 (aq_16 shX12_reckon_69))
    ·
      have tc_5 : (v2.toInt : Int) < v1.toInt := Int32.lt_iff_toInt_lt.mp (Int32.not_le.mp c_5)
      refine lv_iconst (v := 1) hx hb (oc_4 80 (aq_11 shX12_reckon_69)) kic_1 ?_
      refine lv_goto (tgt := 85) hx hb (oc_167 81 (aq_12 shX12_reckon_69) sgw_0_4) rfl ?_
      exact W.iret (v := 1) hx hb hr (fun t ht hW => ⟨1, rfl, trivial, ht⟩) (fun _ h => absurd h List.not_mem_nil) (oc_172 85 (aq_16 shX12_reckon_69))
set_option maxRecDepth 100000 in
set_option maxHeartbeats 4000000 in
theorem q_comesTo (l : Launch) (D : va_G) (cI cB cZ : ClassId) (g : Nat → Nat) (cn : Nat → Nat) (In : Nat → Int32) (Fn : Nat → Nat → Int32) (t0 a0 b0 : Nat) (sz : Nat) (hI : IM cn Fn) (hseg : SegOK (Fn 32) (180 * t0) a0 b0) (ht0 : t0 ≤ 10) (ha0 : 180 * t0 ≤ a0) (hat : a0 < 180 * t0 + 180) (hab : a0 ≤ b0) (hb0 : b0 ≤ 180 * t0 + 180) : Met l yX12_comesTo (CWS yX12_comesTo cX12_comesTo 8 (some .int)) (RM 1 0 0) (PBw [.ref (g 100), .int (nI a0), .int (nI b0)] D cI cB cZ (wM cI cB cZ g cn In Fn) sz) (va_Qi (fun (r : Int32) (u : (Nat → Nat) × (Nat → Int32) × (Nat → Nat → Int32)) => (fun r c2 I2 F2 => Fr [] [] [37] cn In Fn c2 I2 F2 ∧ IM c2 F2 ∧ (True)) r u.1 u.2.1 u.2.2) (fun (u : (Nat → Nat) × (Nat → Int32) × (Nat → Nat → Int32)) (t : State) => va_P D vwCl (wM cI cB cZ g u.1 u.2.1 u.2.2) t.heap ∧ va_D (va_A (wM cI cB cZ g cn In Fn) sz) (wM cI cB cZ g u.1 u.2.1 u.2.2)) (va_A (wM cI cB cZ g cn In Fn) sz)) 0 0 (va_A (wM cI cB cZ g cn In Fn) sz) := by
  refine en_w (fun A => (va_Qi (fun (r : Int32) (u : (Nat → Nat) × (Nat → Int32) × (Nat → Nat → Int32)) => (fun (r : Int32) (c2 : Nat → Nat) (I2 : Nat → Int32) (F2 : Nat → Nat → Int32) => Fr [] [] [37] cn In Fn c2 I2 F2 ∧ IM c2 F2 ∧ (True)) r u.1 u.2.1 u.2.2) (fun (u : (Nat → Nat) × (Nat → Int32) × (Nat → Nat → Int32)) (t : State) => va_P D vwCl (wM cI cB cZ g u.1 u.2.1 u.2.2) t.heap ∧ va_D A (wM cI cB cZ g u.1 u.2.1 u.2.2)) A)) rfl rfl pn_RX12 (Nat.le_of_ble_eq_true rfl) (fun p e s m below meth c A hx hb hml hown S hr hlocks hnm hA hP hK hD hS ls hl => ?_)
  have hl : lv_has ls 8 [(0, .ref (g 100)), (1, .int (nI a0)), (2, .int (nI b0))] := hl
  have hi_cn : Hid (CB cn) := hI.b
  obtain ⟨ht, hh0, hst⟩ := hseg
  refine lv_iconst (v := 0) hx hb (oc_3 0 shX12_comesTo_0) kic_0 ?_
  refine lv_istore_n (lv' := [(3, .int 0), (0, .ref (g 100)), (1, .int (nI a0)), (2, .int (nI b0))]) hx hb (oc_62 1 (aq_1 shX12_comesTo_0)) rfl hl (ltb rfl) rfl (fun ls hl => ?_)
  refine lv_sipush (v := 180) hx hb (oc_17 2 (aq_2 shX12_comesTo_0) sgw_0_180) (by decide) ?_
  refine lv_iload_n hx hb (oc_27 5 (aq_5 shX12_comesTo_0)) rfl (lvA2 hl) ?_
  refine lv_sipush (v := 180) hx hb (oc_17 6 (aq_6 shX12_comesTo_0) sgw_0_180) (by decide) ?_
  refine lv_idiv hx hb (oc_108 9 (aq_9 shX12_comesTo_0)) (by decide) ?_
  refine lv_topi (fun y_1 ey_1 => ?_)
  obtain rfl : y_1 = (nI (a0 / 180)) := ey_1.trans (nI_div (by (first | omega | (have zz0 := Hid.u hi_cn; omega))) (by decide))
  refine lv_imul hx hb (oc_104 10 (aq_10 shX12_comesTo_0)) ?_
  refine lv_topi (fun y_2 ey_2 => ?_)
  obtain rfl : y_2 = (nI (180 * t0)) := ey_2.trans (by rw [show a0 / 180 = t0 by (first | omega | (have zz0 := Hid.u hi_cn; omega))]; exact pk_mul 180 t0)
  refine lv_istore (lv' := [(4, .int (nI (180 * t0))), (3, .int 0), (0, .ref (g 100)), (1, .int (nI a0)), (2, .int (nI b0))]) hx hb (oc_54 11 (aq_11 shX12_comesTo_0) ub_4) hl (ltb rfl) rfl (fun ls hl => ?_)
  refine lv_iload_n hx hb (oc_27 13 (aq_13 shX12_comesTo_0)) rfl (lvA3 hl) ?_
  refine lv_istore (lv' := [(5, .int (nI a0)), (4, .int (nI (180 * t0))), (3, .int 0), (0, .ref (g 100)), (1, .int (nI a0)), (2, .int (nI b0))]) hx hb (oc_54 14 (aq_14 shX12_comesTo_0) ub_5) hl (ltb rfl) rfl (fun ls hl => ?_)
  have lp_16 : ∀ (n : Nat) (s16 : Nat) (k16 : Nat) (F16 : Nat → Nat → Int32) (H : Heap) (locs : List Loc) , b0 - k16 < n → (Fr [] [] [37] cn In Fn cn In F16 ∧ IM cn F16 ∧ (a0 ≤ k16 ∧ k16 ≤ b0 ∧ s16 = ht k16)) → va_P D vwCl (wM cI cB cZ g cn In F16) H → va_D A (wM cI cB cZ g cn In F16) → va_S A s.heap H locs → ∀ ls : Array Slot, lv_has ls 8 [(5, .int (nI k16)), (4, .int (nI (180 * t0))), (3, .int (nI s16)), (0, .ref (g 100)), (1, .int (nI a0)), (2, .int (nI b0))] → W p l e (RM 1 0 0) s m ([.ref (g 100), .int (nI a0), .int (nI b0)]).toArray below meth c H locs 0 0 (MQ below (va_Qi (fun (r : Int32) (u : (Nat → Nat) × (Nat → Int32) × (Nat → Nat → Int32)) => (fun r c2 I2 F2 => Fr [] [] [37] cn In Fn c2 I2 F2 ∧ IM c2 F2 ∧ (True)) r u.1 u.2.1 u.2.2) (fun (u : (Nat → Nat) × (Nat → Int32) × (Nat → Nat → Int32)) (t : State) => va_P D vwCl (wM cI cB cZ g u.1 u.2.1 u.2.2) t.heap ∧ va_D A (wM cI cB cZ g u.1 u.2.1 u.2.2)) A) ([.ref (g 100), .int (nI a0), .int (nI b0)]).toArray s 0 0 A) (F0 m 16 ls []) := by
    intro n16
    induction n16 with
    | zero => intros; (first | omega | (have zz0 := Hid.u hi_cn; omega))
    | succ n16 ih16 =>
      intro s16 k16 F16 H locs hmu16 hinv16 hP hD hS ls hl
      obtain ⟨hfr16, hI16, hx16_0⟩ := hinv16
      have hi_cn : Hid (CB cn) := hI16.b
      refine lv_iload hx hb (oc_21 16 (aq_16 shX12_comesTo_0) ub_5) (lvA0 hl) ?_
      refine lv_iload_n hx hb (oc_28 18 (aq_18 shX12_comesTo_0)) rfl (lvA5 hl) ?_
      have : (nI k16).toInt = ((k16 : Nat) : Int) := nI_toInt (by (first | omega | (have zz0 := Hid.u hi_cn; omega)))
      have : (nI b0).toInt = ((b0 : Nat) : Int) := nI_toInt (by (first | omega | (have zz0 := Hid.u hi_cn; omega)))
      refine lv_icmp_ge (tgt := 235) hx hb (oc_162 19 (aq_19 shX12_comesTo_0) sgw_0_216) rfl (fun c_3 => ?_) (fun c_3 => ?_)
      ·
        have tc_3 : ((nI b0).toInt : Int) ≤ (nI k16).toInt := Int32.le_iff_toInt_le.mp c_3
        refine lv_aload_n hx hb (oc_42 235 (aq_16 shX12_comesTo_219)) rfl (lvA3 hl) ?_
        refine gM_86 S hK hP (v := .ref (g 37)) rfl (oc_180 236 (aq_17 shX12_comesTo_219) uw_0_86) ?_
        refine lv_iconst (v := 0) hx hb (oc_3 239 (aq_20 shX12_comesTo_219)) kic_0 ?_
        refine ldM_37 hx hb hK hP (x := ((F16 37) 0)) (by unfold vp_in; decide) (by decide) rfl (oc_46 240 (aq_21 shX12_comesTo_219)) ?_
        exact W.iret (v := ((F16 37) 0)) hx hb hr (fun t ht hW => ⟨⟨((F16 37) 0), (cn, In, F16), rfl, ⟨(Fr.mo hfr16 (sbl rfl) (sbl rfl) (sbl rfl)), hI16, trivial⟩, by rw [ht]; exact hP, hD⟩, hS.F ht⟩) hS.2.2 (oc_172 241 (aq_22 shX12_comesTo_219))
      ·
        have tc_3 : ((nI k16).toInt : Int) < (nI b0).toInt := Int32.lt_iff_toInt_lt.mp (Int32.not_le.mp c_3)
        obtain ⟨op, v, hC, hv20, hh, hcase⟩ := hst k16 (by (first | omega | (have zz0 := Hid.u hi_cn; omega))) (by (first | omega | (have zz0 := Hid.u hi_cn; omega)))
        have hop : op ≤ 12 := by (first | omega | (have zz0 := Hid.u hi_cn; omega))
        refine lv_aload_n hx hb (oc_42 22 (aq_22 shX12_comesTo_0)) rfl (lvA3 hl) ?_
        refine gM_71 S hK hP (v := .ref (g 32)) rfl (oc_180 23 (aq_23 shX12_comesTo_0) uw_0_71) ?_
        refine lv_iload hx hb (oc_21 26 shX12_comesTo_26 ub_5) (lvA0 hl) ?_
        have kb_1 : k16 < 1980 := by (first | omega | (have zz0 := Hid.u hi_cn; omega))
        refine ldM_32 hx hb hK hP (x := ((F16 32) k16)) (vp_in_nI kb_1 (ltb rfl)) (nI_clamp (Nat.lt_trans kb_1 (ltb rfl))) rfl (oc_46 28 (aq_2 shX12_comesTo_26)) ?_
        refine lv_topi (fun y_4 ey_4 => ?_)
        obtain rfl : y_4 = (nI (op * 1048576 + v)) := ey_4.trans ((congrFun (hfr16.2.2 32 (nml rfl)) k16).trans hC)
        refine lv_ldcw (v := 1048576) hx hb hown (S.2.2.2.2 _ (wk7_17 11 rfl rfl)) (oc_19 29 (aq_3 shX12_comesTo_26) uw_1_4) ?_
        refine lv_idiv hx hb (oc_108 32 (aq_6 shX12_comesTo_26)) (by decide) ?_
        refine lv_topi (fun y_5 ey_5 => ?_)
        obtain rfl : y_5 = (nI op) := ey_5.trans ((nI_div (b := 1048576) (by (first | omega | (have zz0 := Hid.u hi_cn; omega))) (by decide)).trans (congrArg nI (by (first | omega | (have zz0 := Hid.u hi_cn; omega)))))
        refine lv_istore (lv' := [(6, .int (nI op)), (5, .int (nI k16)), (4, .int (nI (180 * t0))), (3, .int (nI s16)), (0, .ref (g 100)), (1, .int (nI a0)), (2, .int (nI b0))]) hx hb (oc_54 33 (aq_7 shX12_comesTo_26) ub_6) hl (ltb rfl) rfl (fun ls hl => ?_)
        refine lv_aload_n hx hb (oc_42 35 (aq_9 shX12_comesTo_26)) rfl (lvA4 hl) ?_
        refine gM_71 S hK hP (v := .ref (g 32)) rfl (oc_180 36 (aq_10 shX12_comesTo_26) uw_0_71) ?_
        refine lv_iload hx hb (oc_21 39 (aq_13 shX12_comesTo_26) ub_5) (lvA1 hl) ?_
        refine ldM_32 hx hb hK hP (x := ((F16 32) k16)) (vp_in_nI kb_1 (ltb rfl)) (nI_clamp (Nat.lt_trans kb_1 (ltb rfl))) rfl (oc_46 41 (aq_15 shX12_comesTo_26)) ?_
        refine lv_topi (fun y_6 ey_6 => ?_)
        obtain rfl : y_6 = (nI (op * 1048576 + v)) := ey_6.trans ((congrFun (hfr16.2.2 32 (nml rfl)) k16).trans hC)
        refine lv_ldcw (v := 1048576) hx hb hown (S.2.2.2.2 _ (wk7_17 11 rfl rfl)) (oc_19 42 (aq_16 shX12_comesTo_26) uw_1_4) ?_
        refine lv_irem hx hb (oc_112 45 (aq_19 shX12_comesTo_26)) (by decide) ?_
        refine lv_topi (fun y_7 ey_7 => ?_)
        obtain rfl : y_7 = (nI v) := ey_7.trans ((nI_rem (b := 1048576) (by (first | omega | (have zz0 := Hid.u hi_cn; omega))) (by decide)).trans (congrArg nI (by (first | omega | (have zz0 := Hid.u hi_cn; omega)))))
        refine lv_istore (lv' := [(7, .int (nI v)), (6, .int (nI op)), (5, .int (nI k16)), (4, .int (nI (180 * t0))), (3, .int (nI s16)), (0, .ref (g 100)), (1, .int (nI a0)), (2, .int (nI b0))]) hx hb (oc_54 46 (aq_20 shX12_comesTo_26) ub_7) hl (ltb rfl) rfl (fun ls hl => ?_)
        rcases hcase with ⟨rfl, h1, h2⟩ | ⟨rfl, hv11, h1, h2⟩ | ⟨rfl, h1, h2⟩ | ⟨hop2, h1, h2, h3, h4, h5⟩ | ⟨h2op, h9, h1, h2⟩
        ·
          have hl : lv_has ls 8 [(7, .int (nI v)), (6, .int 0), (5, .int (nI k16)), (4, .int (nI (180 * t0))), (3, .int (nI s16)), (0, .ref (g 100)), (1, .int (nI a0)), (2, .int (nI b0))] := hl
          refine lv_iload hx hb dX12_comesTo_48 (lvA2 hl) ?_
          refine lv_iconst (v := 1) hx hb dX12_comesTo_50 kic_1 ?_
          refine lv_iadd hx hb dX12_comesTo_51 ?_
          refine lv_topi (fun y_8 ey_8 => ?_)
          obtain rfl : y_8 = (nI (k16 + 1)) := ey_8.trans (nI_add k16 1)
          refine lv_istore (lv' := [(5, .int (nI (k16 + 1))), (7, .int (nI v)), (6, .int 0), (4, .int (nI (180 * t0))), (3, .int (nI s16)), (0, .ref (g 100)), (1, .int (nI a0)), (2, .int (nI b0))]) hx hb dX12_comesTo_52 hl (ltb rfl) rfl (fun ls hl => ?_)
          refine lv_iload hx hb dX12_comesTo_54 (lvA2 hl) ?_
          refine lv_if_eq (tgt := 65) hx hb dX12_comesTo_56 rfl (fun _ => ?_) (fun h => absurd h cq_eq_0_0)
          refine lv_aload_n hx hb (oc_42 65 (aq_15 shX12_comesTo_50)) rfl (lvA5 hl) ?_
          refine gM_86 S hK hP (v := .ref (g 37)) rfl (oc_180 66 (aq_16 shX12_comesTo_50) uw_0_86) ?_
          refine lv_iload_n hx hb (oc_29 69 (aq_19 shX12_comesTo_50)) rfl (lvA4 hl) ?_
          refine lv_iload hx hb (oc_21 70 (aq_20 shX12_comesTo_50) ub_6) (lvA2 hl) ?_
          refine lv_if_ne (tgt := 80) hx hb (oc_154 72 (aq_22 shX12_comesTo_50) sgw_0_8) rfl (fun h => absurd h cq_eq_0_0) (fun _ => ?_)
          refine lv_iload hx hb (oc_21 75 shX12_comesTo_75 ub_7) (lvA1 hl) ?_
          refine lv_goto (tgt := 87) hx hb (oc_167 77 (aq_2 shX12_comesTo_75) sgw_0_10) rfl ?_
          have kb_2 : s16 < 180 := by (first | omega | (have zz0 := Hid.u hi_cn; omega))
          refine stM_37 hx hb hK hP hD hS (Fn2 := (va_up F16 37 (upd (F16 37) s16 (nI v)))) (vp_in_nI kb_2 (ltb rfl)) (nI_clamp (Nat.lt_trans kb_2 (ltb rfl))) rfl (oc_79 87 (aq_12 shX12_comesTo_75)) (fun H locs hP hD hS => ?_)
          refine lv_iload_n hx hb (oc_29 88 (aq_13 shX12_comesTo_75)) rfl (lvA4 hl) ?_
          refine lv_iconst (v := 1) hx hb (oc_4 89 (aq_14 shX12_comesTo_75)) kic_1 ?_
          refine lv_iadd hx hb (oc_96 90 (aq_15 shX12_comesTo_75)) ?_
          refine lv_topi (fun y_9 ey_9 => ?_)
          obtain rfl : y_9 = (nI (s16 + 1)) := ey_9.trans (nI_add s16 1)
          refine lv_istore_n (lv' := [(3, .int (nI (s16 + 1))), (5, .int (nI (k16 + 1))), (7, .int (nI v)), (6, .int 0), (4, .int (nI (180 * t0))), (0, .ref (g 100)), (1, .int (nI a0)), (2, .int (nI b0))]) hx hb (oc_62 91 (aq_16 shX12_comesTo_75)) rfl hl (ltb rfl) rfl (fun ls hl => ?_)
          refine lv_goto (tgt := 232) hx hb (oc_167 92 (aq_17 shX12_comesTo_75) sgw_0_140) rfl ?_
          refine lv_goto (tgt := 16) hx hb dX12_comesTo_232 rfl ?_
          exact ih16 (s16 + 1) (k16 + 1) (va_up F16 37 (upd (F16 37) s16 (nI v))) _ _ (by (first | omega | (have zz0 := Hid.u hi_cn; omega))) ⟨(Fr.mo (Fr.f 37 hfr16) (sbl rfl) (sbl rfl) (sbl rfl)), (IM.fr (In := In) hI16 (Fr.f 37 Fr.rf) (by decide) (by decide)), ⟨by (first | omega | (have zz0 := Hid.u hi_cn; omega)), by (first | omega | (have zz0 := Hid.u hi_cn; omega)), by (first | omega | (have zz0 := Hid.u hi_cn; omega))⟩⟩ hP hD hS ls (lv_sub hl [1, 4, 0, 5, 6, 7] rfl)
        ·
          have hl : lv_has ls 8 [(7, .int (nI v)), (6, .int 1), (5, .int (nI k16)), (4, .int (nI (180 * t0))), (3, .int (nI s16)), (0, .ref (g 100)), (1, .int (nI a0)), (2, .int (nI b0))] := hl
          refine lv_iload hx hb dX12_comesTo_48 (lvA2 hl) ?_
          refine lv_iconst (v := 1) hx hb dX12_comesTo_50 kic_1 ?_
          refine lv_iadd hx hb dX12_comesTo_51 ?_
          refine lv_topi (fun y_10 ey_10 => ?_)
          obtain rfl : y_10 = (nI (k16 + 1)) := ey_10.trans (nI_add k16 1)
          refine lv_istore (lv' := [(5, .int (nI (k16 + 1))), (7, .int (nI v)), (6, .int 1), (4, .int (nI (180 * t0))), (3, .int (nI s16)), (0, .ref (g 100)), (1, .int (nI a0)), (2, .int (nI b0))]) hx hb dX12_comesTo_52 hl (ltb rfl) rfl (fun ls hl => ?_)
          refine lv_iload hx hb dX12_comesTo_54 (lvA2 hl) ?_
          refine lv_if_eq (tgt := 65) hx hb dX12_comesTo_56 rfl (fun h => absurd h cq_eq_1_0) (fun _ => ?_)
          refine lv_iload hx hb dX12_comesTo_59 (lvA2 hl) ?_
          refine lv_iconst (v := 1) hx hb dX12_comesTo_61 kic_1 ?_
          refine lv_icmp_ne (tgt := 95) hx hb dX12_comesTo_62 rfl (fun h => absurd h cq_eq_1_1) (fun _ => ?_)
          refine lv_aload_n hx hb (oc_42 65 (aq_15 shX12_comesTo_50)) rfl (lvA5 hl) ?_
          refine gM_86 S hK hP (v := .ref (g 37)) rfl (oc_180 66 (aq_16 shX12_comesTo_50) uw_0_86) ?_
          refine lv_iload_n hx hb (oc_29 69 (aq_19 shX12_comesTo_50)) rfl (lvA4 hl) ?_
          refine lv_iload hx hb (oc_21 70 (aq_20 shX12_comesTo_50) ub_6) (lvA2 hl) ?_
          refine lv_if_ne (tgt := 80) hx hb (oc_154 72 (aq_22 shX12_comesTo_50) sgw_0_8) rfl (fun _ => ?_) (fun h => absurd h cq_eq_1_0)
          refine lv_aload_n hx hb (oc_42 80 (aq_5 shX12_comesTo_75)) rfl (lvA5 hl) ?_
          refine gM_89 S hK hP (v := .ref (g 38)) rfl (oc_180 81 (aq_6 shX12_comesTo_75) uw_0_89) ?_
          refine lv_iload hx hb (oc_21 84 (aq_9 shX12_comesTo_75) ub_7) (lvA1 hl) ?_
          have kb_3 : v < 11 := by (first | omega | (have zz0 := Hid.u hi_cn; omega))
          refine ldM_38 hx hb hK hP (x := ((F16 38) v)) (vp_in_nI kb_3 (ltb rfl)) (nI_clamp (Nat.lt_trans kb_3 (ltb rfl))) rfl (oc_46 86 (aq_11 shX12_comesTo_75)) ?_
          have kb_4 : s16 < 180 := by (first | omega | (have zz0 := Hid.u hi_cn; omega))
          refine stM_37 hx hb hK hP hD hS (Fn2 := (va_up F16 37 (upd (F16 37) s16 ((F16 38) v)))) (vp_in_nI kb_4 (ltb rfl)) (nI_clamp (Nat.lt_trans kb_4 (ltb rfl))) rfl (oc_79 87 (aq_12 shX12_comesTo_75)) (fun H locs hP hD hS => ?_)
          refine lv_iload_n hx hb (oc_29 88 (aq_13 shX12_comesTo_75)) rfl (lvA4 hl) ?_
          refine lv_iconst (v := 1) hx hb (oc_4 89 (aq_14 shX12_comesTo_75)) kic_1 ?_
          refine lv_iadd hx hb (oc_96 90 (aq_15 shX12_comesTo_75)) ?_
          refine lv_topi (fun y_11 ey_11 => ?_)
          obtain rfl : y_11 = (nI (s16 + 1)) := ey_11.trans (nI_add s16 1)
          refine lv_istore_n (lv' := [(3, .int (nI (s16 + 1))), (5, .int (nI (k16 + 1))), (7, .int (nI v)), (6, .int 1), (4, .int (nI (180 * t0))), (0, .ref (g 100)), (1, .int (nI a0)), (2, .int (nI b0))]) hx hb (oc_62 91 (aq_16 shX12_comesTo_75)) rfl hl (ltb rfl) rfl (fun ls hl => ?_)
          refine lv_goto (tgt := 232) hx hb (oc_167 92 (aq_17 shX12_comesTo_75) sgw_0_140) rfl ?_
          refine lv_goto (tgt := 16) hx hb dX12_comesTo_232 rfl ?_
          exact ih16 (s16 + 1) (k16 + 1) (va_up F16 37 (upd (F16 37) s16 ((F16 38) v))) _ _ (by (first | omega | (have zz0 := Hid.u hi_cn; omega))) ⟨(Fr.mo (Fr.f 37 hfr16) (sbl rfl) (sbl rfl) (sbl rfl)), (IM.fr (In := In) hI16 (Fr.f 37 Fr.rf) (by decide) (by decide)), ⟨by (first | omega | (have zz0 := Hid.u hi_cn; omega)), by (first | omega | (have zz0 := Hid.u hi_cn; omega)), by (first | omega | (have zz0 := Hid.u hi_cn; omega))⟩⟩ hP hD hS ls (lv_sub hl [1, 4, 0, 5, 6, 7] rfl)
        ·
          have hl : lv_has ls 8 [(7, .int (nI v)), (6, .int 10), (5, .int (nI k16)), (4, .int (nI (180 * t0))), (3, .int (nI s16)), (0, .ref (g 100)), (1, .int (nI a0)), (2, .int (nI b0))] := hl
          refine lv_iload hx hb dX12_comesTo_48 (lvA2 hl) ?_
          refine lv_iconst (v := 1) hx hb dX12_comesTo_50 kic_1 ?_
          refine lv_iadd hx hb dX12_comesTo_51 ?_
          refine lv_topi (fun y_12 ey_12 => ?_)
          obtain rfl : y_12 = (nI (k16 + 1)) := ey_12.trans (nI_add k16 1)
          refine lv_istore (lv' := [(5, .int (nI (k16 + 1))), (7, .int (nI v)), (6, .int 10), (4, .int (nI (180 * t0))), (3, .int (nI s16)), (0, .ref (g 100)), (1, .int (nI a0)), (2, .int (nI b0))]) hx hb dX12_comesTo_52 hl (ltb rfl) rfl (fun ls hl => ?_)
          refine lv_iload hx hb dX12_comesTo_54 (lvA2 hl) ?_
          refine lv_if_eq (tgt := 65) hx hb dX12_comesTo_56 rfl (fun h => absurd h cq_eq_10_0) (fun _ => ?_)
          refine lv_iload hx hb dX12_comesTo_59 (lvA2 hl) ?_
          refine lv_iconst (v := 1) hx hb dX12_comesTo_61 kic_1 ?_
          refine lv_icmp_ne (tgt := 95) hx hb dX12_comesTo_62 rfl (fun _ => ?_) (fun h => absurd h cq_eq_10_1)
          refine lv_iload hx hb dX12_comesTo_95 (lvA2 hl) ?_
          refine lv_bipush (v := 10) hx hb dX12_comesTo_97 kbc_10 ?_
          refine lv_icmp_ne (tgt := 123) hx hb dX12_comesTo_99 rfl (fun h => absurd h cq_eq_10_10) (fun _ => ?_)
          refine lv_aload_n hx hb (oc_42 102 (aq_3 shX12_comesTo_99)) rfl (lvA5 hl) ?_
          refine gM_86 S hK hP (v := .ref (g 37)) rfl (oc_180 103 (aq_4 shX12_comesTo_99) uw_0_86) ?_
          refine lv_iload_n hx hb (oc_29 106 (aq_7 shX12_comesTo_99)) rfl (lvA4 hl) ?_
          refine lv_iconst (v := 1) hx hb (oc_4 107 (aq_8 shX12_comesTo_99)) kic_1 ?_
          refine lv_isub hx hb (oc_100 108 (aq_9 shX12_comesTo_99)) ?_
          refine lv_topi (fun y_13 ey_13 => ?_)
          obtain rfl : y_13 = (nI (s16 - 1)) := ey_13.trans (nI_sub (b := 1) (by (first | omega | (have zz0 := Hid.u hi_cn; omega))))
          refine lv_iconst (v := 1) hx hb (oc_4 109 (aq_10 shX12_comesTo_99)) kic_1 ?_
          refine lv_aload_n hx hb (oc_42 110 (aq_11 shX12_comesTo_99)) rfl (lvA5 hl) ?_
          refine gM_86 S hK hP (v := .ref (g 37)) rfl (oc_180 111 (aq_12 shX12_comesTo_99) uw_0_86) ?_
          refine lv_iload_n hx hb (oc_29 114 (aq_15 shX12_comesTo_99)) rfl (lvA4 hl) ?_
          refine lv_iconst (v := 1) hx hb (oc_4 115 (aq_16 shX12_comesTo_99)) kic_1 ?_
          refine lv_isub hx hb (oc_100 116 (aq_17 shX12_comesTo_99)) ?_
          refine lv_topi (fun y_14 ey_14 => ?_)
          obtain rfl : y_14 = (nI (s16 - 1)) := ey_14.trans (nI_sub (b := 1) (by (first | omega | (have zz0 := Hid.u hi_cn; omega))))
          have kb_5 : (s16 - 1) < 180 := by (first | omega | (have zz0 := Hid.u hi_cn; omega))
          refine ldM_37 hx hb hK hP (x := ((F16 37) (s16 - 1))) (vp_in_nI kb_5 (ltb rfl)) (nI_clamp (Nat.lt_trans kb_5 (ltb rfl))) rfl (oc_46 117 (aq_18 shX12_comesTo_99)) ?_
          refine lv_isub hx hb (oc_100 118 (aq_19 shX12_comesTo_99)) ?_
          refine stM_37 hx hb hK hP hD hS (Fn2 := (va_up F16 37 (upd (F16 37) (s16 - 1) (1 - ((F16 37) (s16 - 1)))))) (vp_in_nI kb_5 (ltb rfl)) (nI_clamp (Nat.lt_trans kb_5 (ltb rfl))) rfl (oc_79 119 (aq_20 shX12_comesTo_99)) (fun H locs hP hD hS => ?_)
          refine lv_goto (tgt := 232) hx hb (oc_167 120 (aq_21 shX12_comesTo_99) sgw_0_112) rfl ?_
          refine lv_goto (tgt := 16) hx hb dX12_comesTo_232 rfl ?_
          exact ih16 s16 (k16 + 1) (va_up F16 37 (upd (F16 37) (s16 - 1) (1 - ((F16 37) (s16 - 1))))) _ _ (by (first | omega | (have zz0 := Hid.u hi_cn; omega))) ⟨(Fr.mo (Fr.f 37 hfr16) (sbl rfl) (sbl rfl) (sbl rfl)), (IM.fr (In := In) hI16 (Fr.f 37 Fr.rf) (by decide) (by decide)), ⟨by (first | omega | (have zz0 := Hid.u hi_cn; omega)), by (first | omega | (have zz0 := Hid.u hi_cn; omega)), by (first | omega | (have zz0 := Hid.u hi_cn; omega))⟩⟩ hP hD hS ls (lv_sub hl [0, 3, 4, 5, 6, 7] rfl)
        ·
          rcases hop2 with rfl | rfl
          ·
            have hl : lv_has ls 8 [(7, .int (nI v)), (6, .int 11), (5, .int (nI k16)), (4, .int (nI (180 * t0))), (3, .int (nI s16)), (0, .ref (g 100)), (1, .int (nI a0)), (2, .int (nI b0))] := hl
            refine lv_iload hx hb dX12_comesTo_48 (lvA2 hl) ?_
            refine lv_iconst (v := 1) hx hb dX12_comesTo_50 kic_1 ?_
            refine lv_iadd hx hb dX12_comesTo_51 ?_
            refine lv_topi (fun y_15 ey_15 => ?_)
            obtain rfl : y_15 = (nI (k16 + 1)) := ey_15.trans (nI_add k16 1)
            refine lv_istore (lv' := [(5, .int (nI (k16 + 1))), (7, .int (nI v)), (6, .int 11), (4, .int (nI (180 * t0))), (3, .int (nI s16)), (0, .ref (g 100)), (1, .int (nI a0)), (2, .int (nI b0))]) hx hb dX12_comesTo_52 hl (ltb rfl) rfl (fun ls hl => ?_)
            refine lv_iload hx hb dX12_comesTo_54 (lvA2 hl) ?_
            refine lv_if_eq (tgt := 65) hx hb dX12_comesTo_56 rfl (fun h => absurd h cq_eq_11_0) (fun _ => ?_)
            refine lv_iload hx hb dX12_comesTo_59 (lvA2 hl) ?_
            refine lv_iconst (v := 1) hx hb dX12_comesTo_61 kic_1 ?_
            refine lv_icmp_ne (tgt := 95) hx hb dX12_comesTo_62 rfl (fun _ => ?_) (fun h => absurd h cq_eq_11_1)
            refine lv_iload hx hb dX12_comesTo_95 (lvA2 hl) ?_
            refine lv_bipush (v := 10) hx hb dX12_comesTo_97 kbc_10 ?_
            refine lv_icmp_ne (tgt := 123) hx hb dX12_comesTo_99 rfl (fun _ => ?_) (fun h => absurd h cq_eq_11_10)
            refine lv_iload hx hb dX12_comesTo_123 (lvA2 hl) ?_
            refine lv_bipush (v := 11) hx hb dX12_comesTo_125 kbc_11 ?_
            refine lv_icmp_eq (tgt := 137) hx hb dX12_comesTo_127 rfl (fun _ => ?_) (fun h => absurd h cq_eq_11_11)
            refine lv_aload_n hx hb (oc_42 137 (aq_14 shX12_comesTo_123)) rfl (lvA5 hl) ?_
            refine gM_86 S hK hP (v := .ref (g 37)) rfl (oc_180 138 (aq_15 shX12_comesTo_123) uw_0_86) ?_
            refine lv_iload_n hx hb (oc_29 141 (aq_18 shX12_comesTo_123)) rfl (lvA4 hl) ?_
            refine lv_iconst (v := 1) hx hb (oc_4 142 (aq_19 shX12_comesTo_123)) kic_1 ?_
            refine lv_isub hx hb (oc_100 143 (aq_20 shX12_comesTo_123)) ?_
            refine lv_topi (fun y_16 ey_16 => ?_)
            obtain rfl : y_16 = (nI (s16 - 1)) := ey_16.trans (nI_sub (b := 1) (by (first | omega | (have zz0 := Hid.u hi_cn; omega))))
            have kb_6 : (s16 - 1) < 180 := by (first | omega | (have zz0 := Hid.u hi_cn; omega))
            refine ldM_37 hx hb hK hP (x := ((F16 37) (s16 - 1))) (vp_in_nI kb_6 (ltb rfl)) (nI_clamp (Nat.lt_trans kb_6 (ltb rfl))) rfl (oc_46 144 (aq_21 shX12_comesTo_123)) ?_
            refine lv_iload hx hb (oc_21 145 (aq_22 shX12_comesTo_123) ub_6) (lvA2 hl) ?_
            refine lv_bipush (v := 12) hx hb (oc_16 147 shX12_comesTo_147 sgb_12) kbc_12 ?_
            refine lv_icmp_ne (tgt := 156) hx hb (oc_160 149 (aq_2 shX12_comesTo_147) sgw_0_7) rfl (fun _ => ?_) (fun h => absurd h cq_eq_11_12)
            refine lv_iconst (v := 0) hx hb (oc_3 156 (aq_9 shX12_comesTo_147)) kic_0 ?_
            refine lv_icmp_ne (tgt := 170) hx hb (oc_160 157 (aq_10 shX12_comesTo_147) sgw_0_13) rfl (fun c_17 => ?_) (fun c_17 => ?_)
            ·
              have tc_17 : (((F16 37) (s16 - 1)).toInt : Int) ≠ 0 := fun q => c_17 (Int32.toInt_inj.mp q)
              refine lv_iload_n hx hb (oc_29 170 (aq_23 shX12_comesTo_147)) rfl (lvA4 hl) ?_
              refine lv_iconst (v := 1) hx hb (oc_4 171 shX12_comesTo_171) kic_1 ?_
              refine lv_isub hx hb (oc_100 172 (aq_1 shX12_comesTo_171)) ?_
              refine lv_topi (fun y_18 ey_18 => ?_)
              obtain rfl : y_18 = (nI (s16 - 1)) := ey_18.trans (nI_sub (b := 1) (by (first | omega | (have zz0 := Hid.u hi_cn; omega))))
              refine lv_istore_n (lv' := [(3, .int (nI (s16 - 1))), (5, .int (nI (k16 + 1))), (7, .int (nI v)), (6, .int 11), (4, .int (nI (180 * t0))), (0, .ref (g 100)), (1, .int (nI a0)), (2, .int (nI b0))]) hx hb (oc_62 173 (aq_2 shX12_comesTo_171)) rfl hl (ltb rfl) rfl (fun ls hl => ?_)
              refine lv_goto (tgt := 232) hx hb (oc_167 174 (aq_3 shX12_comesTo_171) sgw_0_58) rfl ?_
              refine lv_goto (tgt := 16) hx hb dX12_comesTo_232 rfl ?_
              exact ih16 (s16 - 1) (k16 + 1) F16 _ _ (by (first | omega | (have zz0 := Hid.u hi_cn; omega))) ⟨(Fr.mo hfr16 (sbl rfl) (sbl rfl) (sbl rfl)), hI16, ⟨by (first | omega | (have zz0 := Hid.u hi_cn; omega)), by (first | omega | (have zz0 := Hid.u hi_cn; omega)), by (first | omega | (have zz0 := Hid.u hi_cn; omega))⟩⟩ hP hD hS ls (lv_sub hl [1, 4, 0, 5, 6, 7] rfl)
            ·
              have tc_17 : (((F16 37) (s16 - 1)).toInt : Int) = 0 := congrArg Int32.toInt c_17
              refine lv_iload hx hb (oc_21 160 (aq_13 shX12_comesTo_147) ub_4) (lvA3 hl) ?_
              refine lv_iload hx hb (oc_21 162 (aq_15 shX12_comesTo_147) ub_7) (lvA1 hl) ?_
              refine lv_iadd hx hb (oc_96 164 (aq_17 shX12_comesTo_147)) ?_
              refine lv_topi (fun y_19 ey_19 => ?_)
              obtain rfl : y_19 = (nI ((180 * t0) + v)) := ey_19.trans (nI_add (180 * t0) v)
              refine lv_istore (lv' := [(5, .int (nI ((180 * t0) + v))), (7, .int (nI v)), (6, .int 11), (4, .int (nI (180 * t0))), (3, .int (nI s16)), (0, .ref (g 100)), (1, .int (nI a0)), (2, .int (nI b0))]) hx hb (oc_54 165 (aq_18 shX12_comesTo_147) ub_5) hl (ltb rfl) rfl (fun ls hl => ?_)
              refine lv_goto (tgt := 232) hx hb (oc_167 167 (aq_20 shX12_comesTo_147) sgw_0_65) rfl ?_
              refine lv_goto (tgt := 16) hx hb dX12_comesTo_232 rfl ?_
              exact ih16 s16 ((180 * t0) + v) F16 _ _ (by (first | omega | (have zz0 := Hid.u hi_cn; omega))) ⟨(Fr.mo hfr16 (sbl rfl) (sbl rfl) (sbl rfl)), hI16, ⟨by (first | omega | (have zz0 := Hid.u hi_cn; omega)), by (first | omega | (have zz0 := Hid.u hi_cn; omega)), by (first | omega | (have zz0 := Hid.u hi_cn; omega))⟩⟩ hP hD hS ls (lv_sub hl [0, 3, 4, 5, 6, 7] rfl)
          ·
            have hl : lv_has ls 8 [(7, .int (nI v)), (6, .int 12), (5, .int (nI k16)), (4, .int (nI (180 * t0))), (3, .int (nI s16)), (0, .ref (g 100)), (1, .int (nI a0)), (2, .int (nI b0))] := hl
            refine lv_iload hx hb dX12_comesTo_48 (lvA2 hl) ?_
            refine lv_iconst (v := 1) hx hb dX12_comesTo_50 kic_1 ?_
            refine lv_iadd hx hb dX12_comesTo_51 ?_
            refine lv_topi (fun y_20 ey_20 => ?_)
            obtain rfl : y_20 = (nI (k16 + 1)) := ey_20.trans (nI_add k16 1)
            refine lv_istore (lv' := [(5, .int (nI (k16 + 1))), (7, .int (nI v)), (6, .int 12), (4, .int (nI (180 * t0))), (3, .int (nI s16)), (0, .ref (g 100)), (1, .int (nI a0)), (2, .int (nI b0))]) hx hb dX12_comesTo_52 hl (ltb rfl) rfl (fun ls hl => ?_)
            refine lv_iload hx hb dX12_comesTo_54 (lvA2 hl) ?_
            refine lv_if_eq (tgt := 65) hx hb dX12_comesTo_56 rfl (fun h => absurd h cq_eq_12_0) (fun _ => ?_)
            refine lv_iload hx hb dX12_comesTo_59 (lvA2 hl) ?_
            refine lv_iconst (v := 1) hx hb dX12_comesTo_61 kic_1 ?_
            refine lv_icmp_ne (tgt := 95) hx hb dX12_comesTo_62 rfl (fun _ => ?_) (fun h => absurd h cq_eq_12_1)
            refine lv_iload hx hb dX12_comesTo_95 (lvA2 hl) ?_
            refine lv_bipush (v := 10) hx hb dX12_comesTo_97 kbc_10 ?_
            refine lv_icmp_ne (tgt := 123) hx hb dX12_comesTo_99 rfl (fun _ => ?_) (fun h => absurd h cq_eq_12_10)
            refine lv_iload hx hb dX12_comesTo_123 (lvA2 hl) ?_
            refine lv_bipush (v := 11) hx hb dX12_comesTo_125 kbc_11 ?_
            refine lv_icmp_eq (tgt := 137) hx hb dX12_comesTo_127 rfl (fun h => absurd h cq_eq_12_11) (fun _ => ?_)
            refine lv_iload hx hb dX12_comesTo_130 (lvA2 hl) ?_
            refine lv_bipush (v := 12) hx hb dX12_comesTo_132 kbc_12 ?_
            refine lv_icmp_ne (tgt := 177) hx hb dX12_comesTo_134 rfl (fun h => absurd h cq_eq_12_12) (fun _ => ?_)
            refine lv_aload_n hx hb (oc_42 137 (aq_14 shX12_comesTo_123)) rfl (lvA5 hl) ?_
            refine gM_86 S hK hP (v := .ref (g 37)) rfl (oc_180 138 (aq_15 shX12_comesTo_123) uw_0_86) ?_
            refine lv_iload_n hx hb (oc_29 141 (aq_18 shX12_comesTo_123)) rfl (lvA4 hl) ?_
            refine lv_iconst (v := 1) hx hb (oc_4 142 (aq_19 shX12_comesTo_123)) kic_1 ?_
            refine lv_isub hx hb (oc_100 143 (aq_20 shX12_comesTo_123)) ?_
            refine lv_topi (fun y_21 ey_21 => ?_)
            obtain rfl : y_21 = (nI (s16 - 1)) := ey_21.trans (nI_sub (b := 1) (by (first | omega | (have zz0 := Hid.u hi_cn; omega))))
            have kb_7 : (s16 - 1) < 180 := by (first | omega | (have zz0 := Hid.u hi_cn; omega))
            refine ldM_37 hx hb hK hP (x := ((F16 37) (s16 - 1))) (vp_in_nI kb_7 (ltb rfl)) (nI_clamp (Nat.lt_trans kb_7 (ltb rfl))) rfl (oc_46 144 (aq_21 shX12_comesTo_123)) ?_
            refine lv_iload hx hb (oc_21 145 (aq_22 shX12_comesTo_123) ub_6) (lvA2 hl) ?_
            refine lv_bipush (v := 12) hx hb (oc_16 147 shX12_comesTo_147 sgb_12) kbc_12 ?_
            refine lv_icmp_ne (tgt := 156) hx hb (oc_160 149 (aq_2 shX12_comesTo_147) sgw_0_7) rfl (fun h => absurd h cq_eq_12_12) (fun _ => ?_)
            refine lv_iconst (v := 1) hx hb (oc_4 152 (aq_5 shX12_comesTo_147)) kic_1 ?_
            refine lv_goto (tgt := 157) hx hb (oc_167 153 (aq_6 shX12_comesTo_147) sgw_0_4) rfl ?_
            refine lv_icmp_ne (tgt := 170) hx hb (oc_160 157 (aq_10 shX12_comesTo_147) sgw_0_13) rfl (fun c_22 => ?_) (fun c_22 => ?_)
            ·
              have tc_22 : (((F16 37) (s16 - 1)).toInt : Int) ≠ 1 := fun q => c_22 (Int32.toInt_inj.mp q)
              refine lv_iload_n hx hb (oc_29 170 (aq_23 shX12_comesTo_147)) rfl (lvA4 hl) ?_
              refine lv_iconst (v := 1) hx hb (oc_4 171 shX12_comesTo_171) kic_1 ?_
              refine lv_isub hx hb (oc_100 172 (aq_1 shX12_comesTo_171)) ?_
              refine lv_topi (fun y_23 ey_23 => ?_)
              obtain rfl : y_23 = (nI (s16 - 1)) := ey_23.trans (nI_sub (b := 1) (by (first | omega | (have zz0 := Hid.u hi_cn; omega))))
              refine lv_istore_n (lv' := [(3, .int (nI (s16 - 1))), (5, .int (nI (k16 + 1))), (7, .int (nI v)), (6, .int 12), (4, .int (nI (180 * t0))), (0, .ref (g 100)), (1, .int (nI a0)), (2, .int (nI b0))]) hx hb (oc_62 173 (aq_2 shX12_comesTo_171)) rfl hl (ltb rfl) rfl (fun ls hl => ?_)
              refine lv_goto (tgt := 232) hx hb (oc_167 174 (aq_3 shX12_comesTo_171) sgw_0_58) rfl ?_
              refine lv_goto (tgt := 16) hx hb dX12_comesTo_232 rfl ?_
              exact ih16 (s16 - 1) (k16 + 1) F16 _ _ (by (first | omega | (have zz0 := Hid.u hi_cn; omega))) ⟨(Fr.mo hfr16 (sbl rfl) (sbl rfl) (sbl rfl)), hI16, ⟨by (first | omega | (have zz0 := Hid.u hi_cn; omega)), by (first | omega | (have zz0 := Hid.u hi_cn; omega)), by (first | omega | (have zz0 := Hid.u hi_cn; omega))⟩⟩ hP hD hS ls (lv_sub hl [1, 4, 0, 5, 6, 7] rfl)
            ·
              have tc_22 : (((F16 37) (s16 - 1)).toInt : Int) = 1 := congrArg Int32.toInt c_22
              refine lv_iload hx hb (oc_21 160 (aq_13 shX12_comesTo_147) ub_4) (lvA3 hl) ?_
              refine lv_iload hx hb (oc_21 162 (aq_15 shX12_comesTo_147) ub_7) (lvA1 hl) ?_
              refine lv_iadd hx hb (oc_96 164 (aq_17 shX12_comesTo_147)) ?_
              refine lv_topi (fun y_24 ey_24 => ?_)
              obtain rfl : y_24 = (nI ((180 * t0) + v)) := ey_24.trans (nI_add (180 * t0) v)
              refine lv_istore (lv' := [(5, .int (nI ((180 * t0) + v))), (7, .int (nI v)), (6, .int 12), (4, .int (nI (180 * t0))), (3, .int (nI s16)), (0, .ref (g 100)), (1, .int (nI a0)), (2, .int (nI b0))]) hx hb (oc_54 165 (aq_18 shX12_comesTo_147) ub_5) hl (ltb rfl) rfl (fun ls hl => ?_)
              refine lv_goto (tgt := 232) hx hb (oc_167 167 (aq_20 shX12_comesTo_147) sgw_0_65) rfl ?_
              refine lv_goto (tgt := 16) hx hb dX12_comesTo_232 rfl ?_
              exact ih16 s16 ((180 * t0) + v) F16 _ _ (by (first | omega | (have zz0 := Hid.u hi_cn; omega))) ⟨(Fr.mo hfr16 (sbl rfl) (sbl rfl) (sbl rfl)), hI16, ⟨by (first | omega | (have zz0 := Hid.u hi_cn; omega)), by (first | omega | (have zz0 := Hid.u hi_cn; omega)), by (first | omega | (have zz0 := Hid.u hi_cn; omega))⟩⟩ hP hD hS ls (lv_sub hl [0, 3, 4, 5, 6, 7] rfl)
        ·
          rcases (by (first | omega | (have zz0 := Hid.u hi_cn; omega)) : op = 2 ∨ op = 3 ∨ op = 4 ∨ op = 5 ∨ op = 6 ∨ op = 7 ∨ op = 8 ∨ op = 9) with rfl | rfl | rfl | rfl | rfl | rfl | rfl | rfl
          ·
            have hl : lv_has ls 8 [(7, .int (nI v)), (6, .int 2), (5, .int (nI k16)), (4, .int (nI (180 * t0))), (3, .int (nI s16)), (0, .ref (g 100)), (1, .int (nI a0)), (2, .int (nI b0))] := hl
            refine lv_iload hx hb dX12_comesTo_48 (lvA2 hl) ?_
            refine lv_iconst (v := 1) hx hb dX12_comesTo_50 kic_1 ?_
            refine lv_iadd hx hb dX12_comesTo_51 ?_
            refine lv_topi (fun y_25 ey_25 => ?_)
            obtain rfl : y_25 = (nI (k16 + 1)) := ey_25.trans (nI_add k16 1)
            refine lv_istore (lv' := [(5, .int (nI (k16 + 1))), (7, .int (nI v)), (6, .int 2), (4, .int (nI (180 * t0))), (3, .int (nI s16)), (0, .ref (g 100)), (1, .int (nI a0)), (2, .int (nI b0))]) hx hb dX12_comesTo_52 hl (ltb rfl) rfl (fun ls hl => ?_)
            refine lv_iload hx hb dX12_comesTo_54 (lvA2 hl) ?_
            refine lv_if_eq (tgt := 65) hx hb dX12_comesTo_56 rfl (fun h => absurd h cq_eq_2_0) (fun _ => ?_)
            refine lv_iload hx hb dX12_comesTo_59 (lvA2 hl) ?_
            refine lv_iconst (v := 1) hx hb dX12_comesTo_61 kic_1 ?_
            refine lv_icmp_ne (tgt := 95) hx hb dX12_comesTo_62 rfl (fun _ => ?_) (fun h => absurd h cq_eq_2_1)
            refine lv_iload hx hb dX12_comesTo_95 (lvA2 hl) ?_
            refine lv_bipush (v := 10) hx hb dX12_comesTo_97 kbc_10 ?_
            refine lv_icmp_ne (tgt := 123) hx hb dX12_comesTo_99 rfl (fun _ => ?_) (fun h => absurd h cq_eq_2_10)
            refine lv_iload hx hb dX12_comesTo_123 (lvA2 hl) ?_
            refine lv_bipush (v := 11) hx hb dX12_comesTo_125 kbc_11 ?_
            refine lv_icmp_eq (tgt := 137) hx hb dX12_comesTo_127 rfl (fun h => absurd h cq_eq_2_11) (fun _ => ?_)
            refine lv_iload hx hb dX12_comesTo_130 (lvA2 hl) ?_
            refine lv_bipush (v := 12) hx hb dX12_comesTo_132 kbc_12 ?_
            refine lv_icmp_ne (tgt := 177) hx hb dX12_comesTo_134 rfl (fun _ => ?_) (fun h => absurd h cq_eq_2_12)
            refine lv_iload_n hx hb dX12_comesTo_177 rfl (lvA4 hl) ?_
            refine lv_iconst (v := 1) hx hb dX12_comesTo_178 kic_1 ?_
            refine lv_isub hx hb dX12_comesTo_179 ?_
            refine lv_topi (fun y_26 ey_26 => ?_)
            obtain rfl : y_26 = (nI (s16 - 1)) := ey_26.trans (nI_sub (b := 1) (by (first | omega | (have zz0 := Hid.u hi_cn; omega))))
            refine lv_istore_n (lv' := [(3, .int (nI (s16 - 1))), (5, .int (nI (k16 + 1))), (7, .int (nI v)), (6, .int 2), (4, .int (nI (180 * t0))), (0, .ref (g 100)), (1, .int (nI a0)), (2, .int (nI b0))]) hx hb dX12_comesTo_180 rfl hl (ltb rfl) rfl (fun ls hl => ?_)
            refine lv_iload hx hb dX12_comesTo_181 (lvA3 hl) ?_
            refine lv_iconst (v := 5) hx hb dX12_comesTo_183 kic_5 ?_
            refine lv_icmp_eq (tgt := 194) hx hb dX12_comesTo_184 rfl (fun h => absurd h cq_eq_2_5) (fun _ => ?_)
            refine lv_iload hx hb dX12_comesTo_187 (lvA3 hl) ?_
            refine lv_bipush (v := 6) hx hb dX12_comesTo_189 kbc_6 ?_
            refine lv_icmp_ne (tgt := 205) hx hb dX12_comesTo_191 rfl (fun _ => ?_) (fun h => absurd h cq_eq_2_6)
            refine lv_aload_n hx hb dX12_comesTo_205 rfl (lvA5 hl) ?_
            refine gM_86 S hK hP (v := .ref (g 37)) rfl dX12_comesTo_206 ?_
            refine lv_iload_n hx hb dX12_comesTo_209 rfl (lvA0 hl) ?_
            refine lv_iconst (v := 1) hx hb dX12_comesTo_210 kic_1 ?_
            refine lv_isub hx hb dX12_comesTo_211 ?_
            refine lv_topi (fun y_27 ey_27 => ?_)
            obtain rfl : y_27 = (nI ((s16 - 1) - 1)) := ey_27.trans (nI_sub (b := 1) (by (first | omega | (have zz0 := Hid.u hi_cn; omega))))
            refine lv_iload hx hb dX12_comesTo_212 (lvA3 hl) ?_
            refine lv_aload_n hx hb dX12_comesTo_214 rfl (lvA5 hl) ?_
            refine gM_86 S hK hP (v := .ref (g 37)) rfl dX12_comesTo_215 ?_
            refine lv_iload_n hx hb dX12_comesTo_218 rfl (lvA0 hl) ?_
            refine lv_iconst (v := 1) hx hb dX12_comesTo_219 kic_1 ?_
            refine lv_isub hx hb dX12_comesTo_220 ?_
            refine lv_topi (fun y_28 ey_28 => ?_)
            obtain rfl : y_28 = (nI ((s16 - 1) - 1)) := ey_28.trans (nI_sub (b := 1) (by (first | omega | (have zz0 := Hid.u hi_cn; omega))))
            have kb_8 : ((s16 - 1) - 1) < 180 := by (first | omega | (have zz0 := Hid.u hi_cn; omega))
            refine ldM_37 hx hb hK hP (x := ((F16 37) ((s16 - 1) - 1))) (vp_in_nI kb_8 (ltb rfl)) (nI_clamp (Nat.lt_trans kb_8 (ltb rfl))) rfl dX12_comesTo_221 ?_
            refine lv_aload_n hx hb dX12_comesTo_222 rfl (lvA5 hl) ?_
            refine gM_86 S hK hP (v := .ref (g 37)) rfl dX12_comesTo_223 ?_
            refine lv_iload_n hx hb dX12_comesTo_226 rfl (lvA0 hl) ?_
            have kb_9 : (s16 - 1) < 180 := by (first | omega | (have zz0 := Hid.u hi_cn; omega))
            refine ldM_37 hx hb hK hP (x := ((F16 37) (s16 - 1))) (vp_in_nI kb_9 (ltb rfl)) (nI_clamp (Nat.lt_trans kb_9 (ltb rfl))) rfl dX12_comesTo_227 ?_
            refine vp_callSi (runS_r (As := [.int 2, .int ((F16 37) ((s16 - 1) - 1)), .int ((F16 37) (s16 - 1))]) (rest := [.int (nI ((s16 - 1) - 1)), .ref (g 37)]) S (q_reckon l D cI cB cZ 2 ((F16 37) ((s16 - 1) - 1)) ((F16 37) (s16 - 1)) (fun q => by rcases q with q | q <;> exact absurd q (by decide))) kS_RX12_327 hK hP [] rfl ⟨Nat.le_of_ble_eq_true rfl, Nat.le_of_ble_eq_true rfl⟩ ⟨Nat.le_of_ble_eq_true rfl, Nat.le_of_ble_eq_true rfl⟩ rfl hl.1 rfl (Nat.le_of_ble_eq_true rfl) dX12_comesTo_228) (fun r_29 h_30 => ?_)
            refine stM_37 hx hb hK hP hD hS (Fn2 := (va_up F16 37 (upd (F16 37) ((s16 - 1) - 1) r_29))) (vp_in_nI kb_8 (ltb rfl)) (nI_clamp (Nat.lt_trans kb_8 (ltb rfl))) rfl dX12_comesTo_231 (fun H locs hP hD hS => ?_)
            refine lv_goto (tgt := 16) hx hb dX12_comesTo_232 rfl ?_
            exact ih16 (s16 - 1) (k16 + 1) (va_up F16 37 (upd (F16 37) ((s16 - 1) - 1) r_29)) _ _ (by (first | omega | (have zz0 := Hid.u hi_cn; omega))) ⟨(Fr.mo (Fr.f 37 hfr16) (sbl rfl) (sbl rfl) (sbl rfl)), (IM.fr (In := In) hI16 (Fr.f 37 Fr.rf) (by decide) (by decide)), ⟨by (first | omega | (have zz0 := Hid.u hi_cn; omega)), by (first | omega | (have zz0 := Hid.u hi_cn; omega)), by (first | omega | (have zz0 := Hid.u hi_cn; omega))⟩⟩ hP hD hS ls (lv_sub hl [1, 4, 0, 5, 6, 7] rfl)
          ·
            have hl : lv_has ls 8 [(7, .int (nI v)), (6, .int 3), (5, .int (nI k16)), (4, .int (nI (180 * t0))), (3, .int (nI s16)), (0, .ref (g 100)), (1, .int (nI a0)), (2, .int (nI b0))] := hl
            refine lv_iload hx hb dX12_comesTo_48 (lvA2 hl) ?_
            refine lv_iconst (v := 1) hx hb dX12_comesTo_50 kic_1 ?_
            refine lv_iadd hx hb dX12_comesTo_51 ?_
            refine lv_topi (fun y_31 ey_31 => ?_)
            obtain rfl : y_31 = (nI (k16 + 1)) := ey_31.trans (nI_add k16 1)
            refine lv_istore (lv' := [(5, .int (nI (k16 + 1))), (7, .int (nI v)), (6, .int 3), (4, .int (nI (180 * t0))), (3, .int (nI s16)), (0, .ref (g 100)), (1, .int (nI a0)), (2, .int (nI b0))]) hx hb dX12_comesTo_52 hl (ltb rfl) rfl (fun ls hl => ?_)
            refine lv_iload hx hb dX12_comesTo_54 (lvA2 hl) ?_
            refine lv_if_eq (tgt := 65) hx hb dX12_comesTo_56 rfl (fun h => absurd h cq_eq_3_0) (fun _ => ?_)
            refine lv_iload hx hb dX12_comesTo_59 (lvA2 hl) ?_
            refine lv_iconst (v := 1) hx hb dX12_comesTo_61 kic_1 ?_
            refine lv_icmp_ne (tgt := 95) hx hb dX12_comesTo_62 rfl (fun _ => ?_) (fun h => absurd h cq_eq_3_1)
            refine lv_iload hx hb dX12_comesTo_95 (lvA2 hl) ?_
            refine lv_bipush (v := 10) hx hb dX12_comesTo_97 kbc_10 ?_
            refine lv_icmp_ne (tgt := 123) hx hb dX12_comesTo_99 rfl (fun _ => ?_) (fun h => absurd h cq_eq_3_10)
            refine lv_iload hx hb dX12_comesTo_123 (lvA2 hl) ?_
            refine lv_bipush (v := 11) hx hb dX12_comesTo_125 kbc_11 ?_
            refine lv_icmp_eq (tgt := 137) hx hb dX12_comesTo_127 rfl (fun h => absurd h cq_eq_3_11) (fun _ => ?_)
            refine lv_iload hx hb dX12_comesTo_130 (lvA2 hl) ?_
            refine lv_bipush (v := 12) hx hb dX12_comesTo_132 kbc_12 ?_
            refine lv_icmp_ne (tgt := 177) hx hb dX12_comesTo_134 rfl (fun _ => ?_) (fun h => absurd h cq_eq_3_12)
            refine lv_iload_n hx hb dX12_comesTo_177 rfl (lvA4 hl) ?_
            refine lv_iconst (v := 1) hx hb dX12_comesTo_178 kic_1 ?_
            refine lv_isub hx hb dX12_comesTo_179 ?_
            refine lv_topi (fun y_32 ey_32 => ?_)
            obtain rfl : y_32 = (nI (s16 - 1)) := ey_32.trans (nI_sub (b := 1) (by (first | omega | (have zz0 := Hid.u hi_cn; omega))))
            refine lv_istore_n (lv' := [(3, .int (nI (s16 - 1))), (5, .int (nI (k16 + 1))), (7, .int (nI v)), (6, .int 3), (4, .int (nI (180 * t0))), (0, .ref (g 100)), (1, .int (nI a0)), (2, .int (nI b0))]) hx hb dX12_comesTo_180 rfl hl (ltb rfl) rfl (fun ls hl => ?_)
            refine lv_iload hx hb dX12_comesTo_181 (lvA3 hl) ?_
            refine lv_iconst (v := 5) hx hb dX12_comesTo_183 kic_5 ?_
            refine lv_icmp_eq (tgt := 194) hx hb dX12_comesTo_184 rfl (fun h => absurd h cq_eq_3_5) (fun _ => ?_)
            refine lv_iload hx hb dX12_comesTo_187 (lvA3 hl) ?_
            refine lv_bipush (v := 6) hx hb dX12_comesTo_189 kbc_6 ?_
            refine lv_icmp_ne (tgt := 205) hx hb dX12_comesTo_191 rfl (fun _ => ?_) (fun h => absurd h cq_eq_3_6)
            refine lv_aload_n hx hb dX12_comesTo_205 rfl (lvA5 hl) ?_
            refine gM_86 S hK hP (v := .ref (g 37)) rfl dX12_comesTo_206 ?_
            refine lv_iload_n hx hb dX12_comesTo_209 rfl (lvA0 hl) ?_
            refine lv_iconst (v := 1) hx hb dX12_comesTo_210 kic_1 ?_
            refine lv_isub hx hb dX12_comesTo_211 ?_
            refine lv_topi (fun y_33 ey_33 => ?_)
            obtain rfl : y_33 = (nI ((s16 - 1) - 1)) := ey_33.trans (nI_sub (b := 1) (by (first | omega | (have zz0 := Hid.u hi_cn; omega))))
            refine lv_iload hx hb dX12_comesTo_212 (lvA3 hl) ?_
            refine lv_aload_n hx hb dX12_comesTo_214 rfl (lvA5 hl) ?_
            refine gM_86 S hK hP (v := .ref (g 37)) rfl dX12_comesTo_215 ?_
            refine lv_iload_n hx hb dX12_comesTo_218 rfl (lvA0 hl) ?_
            refine lv_iconst (v := 1) hx hb dX12_comesTo_219 kic_1 ?_
            refine lv_isub hx hb dX12_comesTo_220 ?_
            refine lv_topi (fun y_34 ey_34 => ?_)
            obtain rfl : y_34 = (nI ((s16 - 1) - 1)) := ey_34.trans (nI_sub (b := 1) (by (first | omega | (have zz0 := Hid.u hi_cn; omega))))
            have kb_10 : ((s16 - 1) - 1) < 180 := by (first | omega | (have zz0 := Hid.u hi_cn; omega))
            refine ldM_37 hx hb hK hP (x := ((F16 37) ((s16 - 1) - 1))) (vp_in_nI kb_10 (ltb rfl)) (nI_clamp (Nat.lt_trans kb_10 (ltb rfl))) rfl dX12_comesTo_221 ?_
            refine lv_aload_n hx hb dX12_comesTo_222 rfl (lvA5 hl) ?_
            refine gM_86 S hK hP (v := .ref (g 37)) rfl dX12_comesTo_223 ?_
            refine lv_iload_n hx hb dX12_comesTo_226 rfl (lvA0 hl) ?_
            have kb_11 : (s16 - 1) < 180 := by (first | omega | (have zz0 := Hid.u hi_cn; omega))
            refine ldM_37 hx hb hK hP (x := ((F16 37) (s16 - 1))) (vp_in_nI kb_11 (ltb rfl)) (nI_clamp (Nat.lt_trans kb_11 (ltb rfl))) rfl dX12_comesTo_227 ?_
            refine vp_callSi (runS_r (As := [.int 3, .int ((F16 37) ((s16 - 1) - 1)), .int ((F16 37) (s16 - 1))]) (rest := [.int (nI ((s16 - 1) - 1)), .ref (g 37)]) S (q_reckon l D cI cB cZ 3 ((F16 37) ((s16 - 1) - 1)) ((F16 37) (s16 - 1)) (fun q => by rcases q with q | q <;> exact absurd q (by decide))) kS_RX12_327 hK hP [] rfl ⟨Nat.le_of_ble_eq_true rfl, Nat.le_of_ble_eq_true rfl⟩ ⟨Nat.le_of_ble_eq_true rfl, Nat.le_of_ble_eq_true rfl⟩ rfl hl.1 rfl (Nat.le_of_ble_eq_true rfl) dX12_comesTo_228) (fun r_35 h_36 => ?_)
            refine stM_37 hx hb hK hP hD hS (Fn2 := (va_up F16 37 (upd (F16 37) ((s16 - 1) - 1) r_35))) (vp_in_nI kb_10 (ltb rfl)) (nI_clamp (Nat.lt_trans kb_10 (ltb rfl))) rfl dX12_comesTo_231 (fun H locs hP hD hS => ?_)
            refine lv_goto (tgt := 16) hx hb dX12_comesTo_232 rfl ?_
            exact ih16 (s16 - 1) (k16 + 1) (va_up F16 37 (upd (F16 37) ((s16 - 1) - 1) r_35)) _ _ (by (first | omega | (have zz0 := Hid.u hi_cn; omega))) ⟨(Fr.mo (Fr.f 37 hfr16) (sbl rfl) (sbl rfl) (sbl rfl)), (IM.fr (In := In) hI16 (Fr.f 37 Fr.rf) (by decide) (by decide)), ⟨by (first | omega | (have zz0 := Hid.u hi_cn; omega)), by (first | omega | (have zz0 := Hid.u hi_cn; omega)), by (first | omega | (have zz0 := Hid.u hi_cn; omega))⟩⟩ hP hD hS ls (lv_sub hl [1, 4, 0, 5, 6, 7] rfl)
          ·
            have hl : lv_has ls 8 [(7, .int (nI v)), (6, .int 4), (5, .int (nI k16)), (4, .int (nI (180 * t0))), (3, .int (nI s16)), (0, .ref (g 100)), (1, .int (nI a0)), (2, .int (nI b0))] := hl
            refine lv_iload hx hb dX12_comesTo_48 (lvA2 hl) ?_
            refine lv_iconst (v := 1) hx hb dX12_comesTo_50 kic_1 ?_
            refine lv_iadd hx hb dX12_comesTo_51 ?_
            refine lv_topi (fun y_37 ey_37 => ?_)
            obtain rfl : y_37 = (nI (k16 + 1)) := ey_37.trans (nI_add k16 1)
            refine lv_istore (lv' := [(5, .int (nI (k16 + 1))), (7, .int (nI v)), (6, .int 4), (4, .int (nI (180 * t0))), (3, .int (nI s16)), (0, .ref (g 100)), (1, .int (nI a0)), (2, .int (nI b0))]) hx hb dX12_comesTo_52 hl (ltb rfl) rfl (fun ls hl => ?_)
            refine lv_iload hx hb dX12_comesTo_54 (lvA2 hl) ?_
            refine lv_if_eq (tgt := 65) hx hb dX12_comesTo_56 rfl (fun h => absurd h cq_eq_4_0) (fun _ => ?_)
            refine lv_iload hx hb dX12_comesTo_59 (lvA2 hl) ?_
            refine lv_iconst (v := 1) hx hb dX12_comesTo_61 kic_1 ?_
            refine lv_icmp_ne (tgt := 95) hx hb dX12_comesTo_62 rfl (fun _ => ?_) (fun h => absurd h cq_eq_4_1)
            refine lv_iload hx hb dX12_comesTo_95 (lvA2 hl) ?_
            refine lv_bipush (v := 10) hx hb dX12_comesTo_97 kbc_10 ?_
            refine lv_icmp_ne (tgt := 123) hx hb dX12_comesTo_99 rfl (fun _ => ?_) (fun h => absurd h cq_eq_4_10)
            refine lv_iload hx hb dX12_comesTo_123 (lvA2 hl) ?_
            refine lv_bipush (v := 11) hx hb dX12_comesTo_125 kbc_11 ?_
            refine lv_icmp_eq (tgt := 137) hx hb dX12_comesTo_127 rfl (fun h => absurd h cq_eq_4_11) (fun _ => ?_)
            refine lv_iload hx hb dX12_comesTo_130 (lvA2 hl) ?_
            refine lv_bipush (v := 12) hx hb dX12_comesTo_132 kbc_12 ?_
            refine lv_icmp_ne (tgt := 177) hx hb dX12_comesTo_134 rfl (fun _ => ?_) (fun h => absurd h cq_eq_4_12)
            refine lv_iload_n hx hb dX12_comesTo_177 rfl (lvA4 hl) ?_
            refine lv_iconst (v := 1) hx hb dX12_comesTo_178 kic_1 ?_
            refine lv_isub hx hb dX12_comesTo_179 ?_
            refine lv_topi (fun y_38 ey_38 => ?_)
            obtain rfl : y_38 = (nI (s16 - 1)) := ey_38.trans (nI_sub (b := 1) (by (first | omega | (have zz0 := Hid.u hi_cn; omega))))
            refine lv_istore_n (lv' := [(3, .int (nI (s16 - 1))), (5, .int (nI (k16 + 1))), (7, .int (nI v)), (6, .int 4), (4, .int (nI (180 * t0))), (0, .ref (g 100)), (1, .int (nI a0)), (2, .int (nI b0))]) hx hb dX12_comesTo_180 rfl hl (ltb rfl) rfl (fun ls hl => ?_)
            refine lv_iload hx hb dX12_comesTo_181 (lvA3 hl) ?_
            refine lv_iconst (v := 5) hx hb dX12_comesTo_183 kic_5 ?_
            refine lv_icmp_eq (tgt := 194) hx hb dX12_comesTo_184 rfl (fun h => absurd h cq_eq_4_5) (fun _ => ?_)
            refine lv_iload hx hb dX12_comesTo_187 (lvA3 hl) ?_
            refine lv_bipush (v := 6) hx hb dX12_comesTo_189 kbc_6 ?_
            refine lv_icmp_ne (tgt := 205) hx hb dX12_comesTo_191 rfl (fun _ => ?_) (fun h => absurd h cq_eq_4_6)
            refine lv_aload_n hx hb dX12_comesTo_205 rfl (lvA5 hl) ?_
            refine gM_86 S hK hP (v := .ref (g 37)) rfl dX12_comesTo_206 ?_
            refine lv_iload_n hx hb dX12_comesTo_209 rfl (lvA0 hl) ?_
            refine lv_iconst (v := 1) hx hb dX12_comesTo_210 kic_1 ?_
            refine lv_isub hx hb dX12_comesTo_211 ?_
            refine lv_topi (fun y_39 ey_39 => ?_)
            obtain rfl : y_39 = (nI ((s16 - 1) - 1)) := ey_39.trans (nI_sub (b := 1) (by (first | omega | (have zz0 := Hid.u hi_cn; omega))))
            refine lv_iload hx hb dX12_comesTo_212 (lvA3 hl) ?_
            refine lv_aload_n hx hb dX12_comesTo_214 rfl (lvA5 hl) ?_
            refine gM_86 S hK hP (v := .ref (g 37)) rfl dX12_comesTo_215 ?_
            refine lv_iload_n hx hb dX12_comesTo_218 rfl (lvA0 hl) ?_
            refine lv_iconst (v := 1) hx hb dX12_comesTo_219 kic_1 ?_
            refine lv_isub hx hb dX12_comesTo_220 ?_
            refine lv_topi (fun y_40 ey_40 => ?_)
            obtain rfl : y_40 = (nI ((s16 - 1) - 1)) := ey_40.trans (nI_sub (b := 1) (by (first | omega | (have zz0 := Hid.u hi_cn; omega))))
            have kb_12 : ((s16 - 1) - 1) < 180 := by (first | omega | (have zz0 := Hid.u hi_cn; omega))
            refine ldM_37 hx hb hK hP (x := ((F16 37) ((s16 - 1) - 1))) (vp_in_nI kb_12 (ltb rfl)) (nI_clamp (Nat.lt_trans kb_12 (ltb rfl))) rfl dX12_comesTo_221 ?_
            refine lv_aload_n hx hb dX12_comesTo_222 rfl (lvA5 hl) ?_
            refine gM_86 S hK hP (v := .ref (g 37)) rfl dX12_comesTo_223 ?_
            refine lv_iload_n hx hb dX12_comesTo_226 rfl (lvA0 hl) ?_
            have kb_13 : (s16 - 1) < 180 := by (first | omega | (have zz0 := Hid.u hi_cn; omega))
            refine ldM_37 hx hb hK hP (x := ((F16 37) (s16 - 1))) (vp_in_nI kb_13 (ltb rfl)) (nI_clamp (Nat.lt_trans kb_13 (ltb rfl))) rfl dX12_comesTo_227 ?_
            refine vp_callSi (runS_r (As := [.int 4, .int ((F16 37) ((s16 - 1) - 1)), .int ((F16 37) (s16 - 1))]) (rest := [.int (nI ((s16 - 1) - 1)), .ref (g 37)]) S (q_reckon l D cI cB cZ 4 ((F16 37) ((s16 - 1) - 1)) ((F16 37) (s16 - 1)) (fun q => by rcases q with q | q <;> exact absurd q (by decide))) kS_RX12_327 hK hP [] rfl ⟨Nat.le_of_ble_eq_true rfl, Nat.le_of_ble_eq_true rfl⟩ ⟨Nat.le_of_ble_eq_true rfl, Nat.le_of_ble_eq_true rfl⟩ rfl hl.1 rfl (Nat.le_of_ble_eq_true rfl) dX12_comesTo_228) (fun r_41 h_42 => ?_)
            refine stM_37 hx hb hK hP hD hS (Fn2 := (va_up F16 37 (upd (F16 37) ((s16 - 1) - 1) r_41))) (vp_in_nI kb_12 (ltb rfl)) (nI_clamp (Nat.lt_trans kb_12 (ltb rfl))) rfl dX12_comesTo_231 (fun H locs hP hD hS => ?_)
            refine lv_goto (tgt := 16) hx hb dX12_comesTo_232 rfl ?_
            exact ih16 (s16 - 1) (k16 + 1) (va_up F16 37 (upd (F16 37) ((s16 - 1) - 1) r_41)) _ _ (by (first | omega | (have zz0 := Hid.u hi_cn; omega))) ⟨(Fr.mo (Fr.f 37 hfr16) (sbl rfl) (sbl rfl) (sbl rfl)), (IM.fr (In := In) hI16 (Fr.f 37 Fr.rf) (by decide) (by decide)), ⟨by (first | omega | (have zz0 := Hid.u hi_cn; omega)), by (first | omega | (have zz0 := Hid.u hi_cn; omega)), by (first | omega | (have zz0 := Hid.u hi_cn; omega))⟩⟩ hP hD hS ls (lv_sub hl [1, 4, 0, 5, 6, 7] rfl)
          ·
            have hl : lv_has ls 8 [(7, .int (nI v)), (6, .int 5), (5, .int (nI k16)), (4, .int (nI (180 * t0))), (3, .int (nI s16)), (0, .ref (g 100)), (1, .int (nI a0)), (2, .int (nI b0))] := hl
            refine lv_iload hx hb dX12_comesTo_48 (lvA2 hl) ?_
            refine lv_iconst (v := 1) hx hb dX12_comesTo_50 kic_1 ?_
            refine lv_iadd hx hb dX12_comesTo_51 ?_
            refine lv_topi (fun y_43 ey_43 => ?_)
            obtain rfl : y_43 = (nI (k16 + 1)) := ey_43.trans (nI_add k16 1)
            refine lv_istore (lv' := [(5, .int (nI (k16 + 1))), (7, .int (nI v)), (6, .int 5), (4, .int (nI (180 * t0))), (3, .int (nI s16)), (0, .ref (g 100)), (1, .int (nI a0)), (2, .int (nI b0))]) hx hb dX12_comesTo_52 hl (ltb rfl) rfl (fun ls hl => ?_)
            refine lv_iload hx hb dX12_comesTo_54 (lvA2 hl) ?_
            refine lv_if_eq (tgt := 65) hx hb dX12_comesTo_56 rfl (fun h => absurd h cq_eq_5_0) (fun _ => ?_)
            refine lv_iload hx hb dX12_comesTo_59 (lvA2 hl) ?_
            refine lv_iconst (v := 1) hx hb dX12_comesTo_61 kic_1 ?_
            refine lv_icmp_ne (tgt := 95) hx hb dX12_comesTo_62 rfl (fun _ => ?_) (fun h => absurd h cq_eq_5_1)
            refine lv_iload hx hb dX12_comesTo_95 (lvA2 hl) ?_
            refine lv_bipush (v := 10) hx hb dX12_comesTo_97 kbc_10 ?_
            refine lv_icmp_ne (tgt := 123) hx hb dX12_comesTo_99 rfl (fun _ => ?_) (fun h => absurd h cq_eq_5_10)
            refine lv_iload hx hb dX12_comesTo_123 (lvA2 hl) ?_
            refine lv_bipush (v := 11) hx hb dX12_comesTo_125 kbc_11 ?_
            refine lv_icmp_eq (tgt := 137) hx hb dX12_comesTo_127 rfl (fun h => absurd h cq_eq_5_11) (fun _ => ?_)
            refine lv_iload hx hb dX12_comesTo_130 (lvA2 hl) ?_
            refine lv_bipush (v := 12) hx hb dX12_comesTo_132 kbc_12 ?_
            refine lv_icmp_ne (tgt := 177) hx hb dX12_comesTo_134 rfl (fun _ => ?_) (fun h => absurd h cq_eq_5_12)
            refine lv_iload_n hx hb dX12_comesTo_177 rfl (lvA4 hl) ?_
            refine lv_iconst (v := 1) hx hb dX12_comesTo_178 kic_1 ?_
            refine lv_isub hx hb dX12_comesTo_179 ?_
            refine lv_topi (fun y_44 ey_44 => ?_)
            obtain rfl : y_44 = (nI (s16 - 1)) := ey_44.trans (nI_sub (b := 1) (by (first | omega | (have zz0 := Hid.u hi_cn; omega))))
            refine lv_istore_n (lv' := [(3, .int (nI (s16 - 1))), (5, .int (nI (k16 + 1))), (7, .int (nI v)), (6, .int 5), (4, .int (nI (180 * t0))), (0, .ref (g 100)), (1, .int (nI a0)), (2, .int (nI b0))]) hx hb dX12_comesTo_180 rfl hl (ltb rfl) rfl (fun ls hl => ?_)
            refine lv_iload hx hb dX12_comesTo_181 (lvA3 hl) ?_
            refine lv_iconst (v := 5) hx hb dX12_comesTo_183 kic_5 ?_
            refine lv_icmp_eq (tgt := 194) hx hb dX12_comesTo_184 rfl (fun _ => ?_) (fun h => absurd h cq_eq_5_5)
            refine lv_aload_n hx hb (oc_42 194 (aq_23 shX12_comesTo_171)) rfl (lvA5 hl) ?_
            refine gM_86 S hK hP (v := .ref (g 37)) rfl (oc_180 195 shX12_comesTo_195 uw_0_86) ?_
            refine lv_iload_n hx hb (oc_29 198 (aq_3 shX12_comesTo_195)) rfl (lvA0 hl) ?_
            have kb_14 : (s16 - 1) < 180 := by (first | omega | (have zz0 := Hid.u hi_cn; omega))
            refine ldM_37 hx hb hK hP (x := ((F16 37) (s16 - 1))) (vp_in_nI kb_14 (ltb rfl)) (nI_clamp (Nat.lt_trans kb_14 (ltb rfl))) rfl (oc_46 199 (aq_4 shX12_comesTo_195)) ?_
            refine lv_if_ne (tgt := 205) hx hb (oc_154 200 (aq_5 shX12_comesTo_195) sgw_0_5) rfl (fun c_45 => ?_) (fun c_45 => ?_)
            ·
              have tc_45 : (((F16 37) (s16 - 1)).toInt : Int) ≠ 0 := fun q => c_45 (Int32.toInt_inj.mp q)
              refine lv_aload_n hx hb dX12_comesTo_205 rfl (lvA5 hl) ?_
              refine gM_86 S hK hP (v := .ref (g 37)) rfl dX12_comesTo_206 ?_
              refine lv_iload_n hx hb dX12_comesTo_209 rfl (lvA0 hl) ?_
              refine lv_iconst (v := 1) hx hb dX12_comesTo_210 kic_1 ?_
              refine lv_isub hx hb dX12_comesTo_211 ?_
              refine lv_topi (fun y_46 ey_46 => ?_)
              obtain rfl : y_46 = (nI ((s16 - 1) - 1)) := ey_46.trans (nI_sub (b := 1) (by (first | omega | (have zz0 := Hid.u hi_cn; omega))))
              refine lv_iload hx hb dX12_comesTo_212 (lvA3 hl) ?_
              refine lv_aload_n hx hb dX12_comesTo_214 rfl (lvA5 hl) ?_
              refine gM_86 S hK hP (v := .ref (g 37)) rfl dX12_comesTo_215 ?_
              refine lv_iload_n hx hb dX12_comesTo_218 rfl (lvA0 hl) ?_
              refine lv_iconst (v := 1) hx hb dX12_comesTo_219 kic_1 ?_
              refine lv_isub hx hb dX12_comesTo_220 ?_
              refine lv_topi (fun y_47 ey_47 => ?_)
              obtain rfl : y_47 = (nI ((s16 - 1) - 1)) := ey_47.trans (nI_sub (b := 1) (by (first | omega | (have zz0 := Hid.u hi_cn; omega))))
              have kb_15 : ((s16 - 1) - 1) < 180 := by (first | omega | (have zz0 := Hid.u hi_cn; omega))
              refine ldM_37 hx hb hK hP (x := ((F16 37) ((s16 - 1) - 1))) (vp_in_nI kb_15 (ltb rfl)) (nI_clamp (Nat.lt_trans kb_15 (ltb rfl))) rfl dX12_comesTo_221 ?_
              refine lv_aload_n hx hb dX12_comesTo_222 rfl (lvA5 hl) ?_
              refine gM_86 S hK hP (v := .ref (g 37)) rfl dX12_comesTo_223 ?_
              refine lv_iload_n hx hb dX12_comesTo_226 rfl (lvA0 hl) ?_
              refine ldM_37 hx hb hK hP (x := ((F16 37) (s16 - 1))) (vp_in_nI kb_14 (ltb rfl)) (nI_clamp (Nat.lt_trans kb_14 (ltb rfl))) rfl dX12_comesTo_227 ?_
              refine vp_callSi (runS_r (As := [.int 5, .int ((F16 37) ((s16 - 1) - 1)), .int ((F16 37) (s16 - 1))]) (rest := [.int (nI ((s16 - 1) - 1)), .ref (g 37)]) S (q_reckon l D cI cB cZ 5 ((F16 37) ((s16 - 1) - 1)) ((F16 37) (s16 - 1)) (fun _ => by assumption)) kS_RX12_327 hK hP [] rfl ⟨Nat.le_of_ble_eq_true rfl, Nat.le_of_ble_eq_true rfl⟩ ⟨Nat.le_of_ble_eq_true rfl, Nat.le_of_ble_eq_true rfl⟩ rfl hl.1 rfl (Nat.le_of_ble_eq_true rfl) dX12_comesTo_228) (fun r_48 h_49 => ?_)
              refine stM_37 hx hb hK hP hD hS (Fn2 := (va_up F16 37 (upd (F16 37) ((s16 - 1) - 1) r_48))) (vp_in_nI kb_15 (ltb rfl)) (nI_clamp (Nat.lt_trans kb_15 (ltb rfl))) rfl dX12_comesTo_231 (fun H locs hP hD hS => ?_)
              refine lv_goto (tgt := 16) hx hb dX12_comesTo_232 rfl ?_
              exact ih16 (s16 - 1) (k16 + 1) (va_up F16 37 (upd (F16 37) ((s16 - 1) - 1) r_48)) _ _ (by (first | omega | (have zz0 := Hid.u hi_cn; omega))) ⟨(Fr.mo (Fr.f 37 hfr16) (sbl rfl) (sbl rfl) (sbl rfl)), (IM.fr (In := In) hI16 (Fr.f 37 Fr.rf) (by decide) (by decide)), ⟨by (first | omega | (have zz0 := Hid.u hi_cn; omega)), by (first | omega | (have zz0 := Hid.u hi_cn; omega)), by (first | omega | (have zz0 := Hid.u hi_cn; omega))⟩⟩ hP hD hS ls (lv_sub hl [1, 4, 0, 5, 6, 7] rfl)
            ·
              have tc_45 : (((F16 37) (s16 - 1)).toInt : Int) = 0 := congrArg Int32.toInt c_45
              refine lv_iconst (v := 0) hx hb (oc_3 203 (aq_8 shX12_comesTo_195)) kic_0 ?_
              exact W.iret (v := 0) hx hb hr (fun t ht hW => ⟨⟨0, (cn, In, F16), rfl, ⟨(Fr.mo hfr16 (sbl rfl) (sbl rfl) (sbl rfl)), hI16, trivial⟩, by rw [ht]; exact hP, hD⟩, hS.F ht⟩) hS.2.2 (oc_172 204 (aq_9 shX12_comesTo_195))
          ·
            have hl : lv_has ls 8 [(7, .int (nI v)), (6, .int 6), (5, .int (nI k16)), (4, .int (nI (180 * t0))), (3, .int (nI s16)), (0, .ref (g 100)), (1, .int (nI a0)), (2, .int (nI b0))] := hl
            refine lv_iload hx hb dX12_comesTo_48 (lvA2 hl) ?_
            refine lv_iconst (v := 1) hx hb dX12_comesTo_50 kic_1 ?_
            refine lv_iadd hx hb dX12_comesTo_51 ?_
            refine lv_topi (fun y_50 ey_50 => ?_)
            obtain rfl : y_50 = (nI (k16 + 1)) := ey_50.trans (nI_add k16 1)
            refine lv_istore (lv' := [(5, .int (nI (k16 + 1))), (7, .int (nI v)), (6, .int 6), (4, .int (nI (180 * t0))), (3, .int (nI s16)), (0, .ref (g 100)), (1, .int (nI a0)), (2, .int (nI b0))]) hx hb dX12_comesTo_52 hl (ltb rfl) rfl (fun ls hl => ?_)
            refine lv_iload hx hb dX12_comesTo_54 (lvA2 hl) ?_
            refine lv_if_eq (tgt := 65) hx hb dX12_comesTo_56 rfl (fun h => absurd h cq_eq_6_0) (fun _ => ?_)
            refine lv_iload hx hb dX12_comesTo_59 (lvA2 hl) ?_
            refine lv_iconst (v := 1) hx hb dX12_comesTo_61 kic_1 ?_
            refine lv_icmp_ne (tgt := 95) hx hb dX12_comesTo_62 rfl (fun _ => ?_) (fun h => absurd h cq_eq_6_1)
            refine lv_iload hx hb dX12_comesTo_95 (lvA2 hl) ?_
            refine lv_bipush (v := 10) hx hb dX12_comesTo_97 kbc_10 ?_
            refine lv_icmp_ne (tgt := 123) hx hb dX12_comesTo_99 rfl (fun _ => ?_) (fun h => absurd h cq_eq_6_10)
            refine lv_iload hx hb dX12_comesTo_123 (lvA2 hl) ?_
            refine lv_bipush (v := 11) hx hb dX12_comesTo_125 kbc_11 ?_
            refine lv_icmp_eq (tgt := 137) hx hb dX12_comesTo_127 rfl (fun h => absurd h cq_eq_6_11) (fun _ => ?_)
            refine lv_iload hx hb dX12_comesTo_130 (lvA2 hl) ?_
            refine lv_bipush (v := 12) hx hb dX12_comesTo_132 kbc_12 ?_
            refine lv_icmp_ne (tgt := 177) hx hb dX12_comesTo_134 rfl (fun _ => ?_) (fun h => absurd h cq_eq_6_12)
            refine lv_iload_n hx hb dX12_comesTo_177 rfl (lvA4 hl) ?_
            refine lv_iconst (v := 1) hx hb dX12_comesTo_178 kic_1 ?_
            refine lv_isub hx hb dX12_comesTo_179 ?_
            refine lv_topi (fun y_51 ey_51 => ?_)
            obtain rfl : y_51 = (nI (s16 - 1)) := ey_51.trans (nI_sub (b := 1) (by (first | omega | (have zz0 := Hid.u hi_cn; omega))))
            refine lv_istore_n (lv' := [(3, .int (nI (s16 - 1))), (5, .int (nI (k16 + 1))), (7, .int (nI v)), (6, .int 6), (4, .int (nI (180 * t0))), (0, .ref (g 100)), (1, .int (nI a0)), (2, .int (nI b0))]) hx hb dX12_comesTo_180 rfl hl (ltb rfl) rfl (fun ls hl => ?_)
            refine lv_iload hx hb dX12_comesTo_181 (lvA3 hl) ?_
            refine lv_iconst (v := 5) hx hb dX12_comesTo_183 kic_5 ?_
            refine lv_icmp_eq (tgt := 194) hx hb dX12_comesTo_184 rfl (fun h => absurd h cq_eq_6_5) (fun _ => ?_)
            refine lv_iload hx hb dX12_comesTo_187 (lvA3 hl) ?_
            refine lv_bipush (v := 6) hx hb dX12_comesTo_189 kbc_6 ?_
            refine lv_icmp_ne (tgt := 205) hx hb dX12_comesTo_191 rfl (fun h => absurd h cq_eq_6_6) (fun _ => ?_)
            refine lv_aload_n hx hb (oc_42 194 (aq_23 shX12_comesTo_171)) rfl (lvA5 hl) ?_
            refine gM_86 S hK hP (v := .ref (g 37)) rfl (oc_180 195 shX12_comesTo_195 uw_0_86) ?_
            refine lv_iload_n hx hb (oc_29 198 (aq_3 shX12_comesTo_195)) rfl (lvA0 hl) ?_
            have kb_16 : (s16 - 1) < 180 := by (first | omega | (have zz0 := Hid.u hi_cn; omega))
            refine ldM_37 hx hb hK hP (x := ((F16 37) (s16 - 1))) (vp_in_nI kb_16 (ltb rfl)) (nI_clamp (Nat.lt_trans kb_16 (ltb rfl))) rfl (oc_46 199 (aq_4 shX12_comesTo_195)) ?_
            refine lv_if_ne (tgt := 205) hx hb (oc_154 200 (aq_5 shX12_comesTo_195) sgw_0_5) rfl (fun c_52 => ?_) (fun c_52 => ?_)
            ·
              have tc_52 : (((F16 37) (s16 - 1)).toInt : Int) ≠ 0 := fun q => c_52 (Int32.toInt_inj.mp q)
              refine lv_aload_n hx hb dX12_comesTo_205 rfl (lvA5 hl) ?_
              refine gM_86 S hK hP (v := .ref (g 37)) rfl dX12_comesTo_206 ?_
              refine lv_iload_n hx hb dX12_comesTo_209 rfl (lvA0 hl) ?_
              refine lv_iconst (v := 1) hx hb dX12_comesTo_210 kic_1 ?_
              refine lv_isub hx hb dX12_comesTo_211 ?_
              refine lv_topi (fun y_53 ey_53 => ?_)
              obtain rfl : y_53 = (nI ((s16 - 1) - 1)) := ey_53.trans (nI_sub (b := 1) (by (first | omega | (have zz0 := Hid.u hi_cn; omega))))
              refine lv_iload hx hb dX12_comesTo_212 (lvA3 hl) ?_
              refine lv_aload_n hx hb dX12_comesTo_214 rfl (lvA5 hl) ?_
              refine gM_86 S hK hP (v := .ref (g 37)) rfl dX12_comesTo_215 ?_
              refine lv_iload_n hx hb dX12_comesTo_218 rfl (lvA0 hl) ?_
              refine lv_iconst (v := 1) hx hb dX12_comesTo_219 kic_1 ?_
              refine lv_isub hx hb dX12_comesTo_220 ?_
              refine lv_topi (fun y_54 ey_54 => ?_)
              obtain rfl : y_54 = (nI ((s16 - 1) - 1)) := ey_54.trans (nI_sub (b := 1) (by (first | omega | (have zz0 := Hid.u hi_cn; omega))))
              have kb_17 : ((s16 - 1) - 1) < 180 := by (first | omega | (have zz0 := Hid.u hi_cn; omega))
              refine ldM_37 hx hb hK hP (x := ((F16 37) ((s16 - 1) - 1))) (vp_in_nI kb_17 (ltb rfl)) (nI_clamp (Nat.lt_trans kb_17 (ltb rfl))) rfl dX12_comesTo_221 ?_
              refine lv_aload_n hx hb dX12_comesTo_222 rfl (lvA5 hl) ?_
              refine gM_86 S hK hP (v := .ref (g 37)) rfl dX12_comesTo_223 ?_
              refine lv_iload_n hx hb dX12_comesTo_226 rfl (lvA0 hl) ?_
              refine ldM_37 hx hb hK hP (x := ((F16 37) (s16 - 1))) (vp_in_nI kb_16 (ltb rfl)) (nI_clamp (Nat.lt_trans kb_16 (ltb rfl))) rfl dX12_comesTo_227 ?_
              refine vp_callSi (runS_r (As := [.int 6, .int ((F16 37) ((s16 - 1) - 1)), .int ((F16 37) (s16 - 1))]) (rest := [.int (nI ((s16 - 1) - 1)), .ref (g 37)]) S (q_reckon l D cI cB cZ 6 ((F16 37) ((s16 - 1) - 1)) ((F16 37) (s16 - 1)) (fun _ => by assumption)) kS_RX12_327 hK hP [] rfl ⟨Nat.le_of_ble_eq_true rfl, Nat.le_of_ble_eq_true rfl⟩ ⟨Nat.le_of_ble_eq_true rfl, Nat.le_of_ble_eq_true rfl⟩ rfl hl.1 rfl (Nat.le_of_ble_eq_true rfl) dX12_comesTo_228) (fun r_55 h_56 => ?_)
              refine stM_37 hx hb hK hP hD hS (Fn2 := (va_up F16 37 (upd (F16 37) ((s16 - 1) - 1) r_55))) (vp_in_nI kb_17 (ltb rfl)) (nI_clamp (Nat.lt_trans kb_17 (ltb rfl))) rfl dX12_comesTo_231 (fun H locs hP hD hS => ?_)
              refine lv_goto (tgt := 16) hx hb dX12_comesTo_232 rfl ?_
              exact ih16 (s16 - 1) (k16 + 1) (va_up F16 37 (upd (F16 37) ((s16 - 1) - 1) r_55)) _ _ (by (first | omega | (have zz0 := Hid.u hi_cn; omega))) ⟨(Fr.mo (Fr.f 37 hfr16) (sbl rfl) (sbl rfl) (sbl rfl)), (IM.fr (In := In) hI16 (Fr.f 37 Fr.rf) (by decide) (by decide)), ⟨by (first | omega | (have zz0 := Hid.u hi_cn; omega)), by (first | omega | (have zz0 := Hid.u hi_cn; omega)), by (first | omega | (have zz0 := Hid.u hi_cn; omega))⟩⟩ hP hD hS ls (lv_sub hl [1, 4, 0, 5, 6, 7] rfl)
            ·
              have tc_52 : (((F16 37) (s16 - 1)).toInt : Int) = 0 := congrArg Int32.toInt c_52
              refine lv_iconst (v := 0) hx hb (oc_3 203 (aq_8 shX12_comesTo_195)) kic_0 ?_
              exact W.iret (v := 0) hx hb hr (fun t ht hW => ⟨⟨0, (cn, In, F16), rfl, ⟨(Fr.mo hfr16 (sbl rfl) (sbl rfl) (sbl rfl)), hI16, trivial⟩, by rw [ht]; exact hP, hD⟩, hS.F ht⟩) hS.2.2 (oc_172 204 (aq_9 shX12_comesTo_195))
          ·
            have hl : lv_has ls 8 [(7, .int (nI v)), (6, .int 7), (5, .int (nI k16)), (4, .int (nI (180 * t0))), (3, .int (nI s16)), (0, .ref (g 100)), (1, .int (nI a0)), (2, .int (nI b0))] := hl
            refine lv_iload hx hb dX12_comesTo_48 (lvA2 hl) ?_
            refine lv_iconst (v := 1) hx hb dX12_comesTo_50 kic_1 ?_
            refine lv_iadd hx hb dX12_comesTo_51 ?_
            refine lv_topi (fun y_57 ey_57 => ?_)
            obtain rfl : y_57 = (nI (k16 + 1)) := ey_57.trans (nI_add k16 1)
            refine lv_istore (lv' := [(5, .int (nI (k16 + 1))), (7, .int (nI v)), (6, .int 7), (4, .int (nI (180 * t0))), (3, .int (nI s16)), (0, .ref (g 100)), (1, .int (nI a0)), (2, .int (nI b0))]) hx hb dX12_comesTo_52 hl (ltb rfl) rfl (fun ls hl => ?_)
            refine lv_iload hx hb dX12_comesTo_54 (lvA2 hl) ?_
            refine lv_if_eq (tgt := 65) hx hb dX12_comesTo_56 rfl (fun h => absurd h cq_eq_7_0) (fun _ => ?_)
            refine lv_iload hx hb dX12_comesTo_59 (lvA2 hl) ?_
            refine lv_iconst (v := 1) hx hb dX12_comesTo_61 kic_1 ?_
            refine lv_icmp_ne (tgt := 95) hx hb dX12_comesTo_62 rfl (fun _ => ?_) (fun h => absurd h cq_eq_7_1)
            refine lv_iload hx hb dX12_comesTo_95 (lvA2 hl) ?_
            refine lv_bipush (v := 10) hx hb dX12_comesTo_97 kbc_10 ?_
            refine lv_icmp_ne (tgt := 123) hx hb dX12_comesTo_99 rfl (fun _ => ?_) (fun h => absurd h cq_eq_7_10)
            refine lv_iload hx hb dX12_comesTo_123 (lvA2 hl) ?_
            refine lv_bipush (v := 11) hx hb dX12_comesTo_125 kbc_11 ?_
            refine lv_icmp_eq (tgt := 137) hx hb dX12_comesTo_127 rfl (fun h => absurd h cq_eq_7_11) (fun _ => ?_)
            refine lv_iload hx hb dX12_comesTo_130 (lvA2 hl) ?_
            refine lv_bipush (v := 12) hx hb dX12_comesTo_132 kbc_12 ?_
            refine lv_icmp_ne (tgt := 177) hx hb dX12_comesTo_134 rfl (fun _ => ?_) (fun h => absurd h cq_eq_7_12)
            refine lv_iload_n hx hb dX12_comesTo_177 rfl (lvA4 hl) ?_
            refine lv_iconst (v := 1) hx hb dX12_comesTo_178 kic_1 ?_
            refine lv_isub hx hb dX12_comesTo_179 ?_
            refine lv_topi (fun y_58 ey_58 => ?_)
            obtain rfl : y_58 = (nI (s16 - 1)) := ey_58.trans (nI_sub (b := 1) (by (first | omega | (have zz0 := Hid.u hi_cn; omega))))
            refine lv_istore_n (lv' := [(3, .int (nI (s16 - 1))), (5, .int (nI (k16 + 1))), (7, .int (nI v)), (6, .int 7), (4, .int (nI (180 * t0))), (0, .ref (g 100)), (1, .int (nI a0)), (2, .int (nI b0))]) hx hb dX12_comesTo_180 rfl hl (ltb rfl) rfl (fun ls hl => ?_)
            refine lv_iload hx hb dX12_comesTo_181 (lvA3 hl) ?_
            refine lv_iconst (v := 5) hx hb dX12_comesTo_183 kic_5 ?_
            refine lv_icmp_eq (tgt := 194) hx hb dX12_comesTo_184 rfl (fun h => absurd h cq_eq_7_5) (fun _ => ?_)
            refine lv_iload hx hb dX12_comesTo_187 (lvA3 hl) ?_
            refine lv_bipush (v := 6) hx hb dX12_comesTo_189 kbc_6 ?_
            refine lv_icmp_ne (tgt := 205) hx hb dX12_comesTo_191 rfl (fun _ => ?_) (fun h => absurd h cq_eq_7_6)
            refine lv_aload_n hx hb dX12_comesTo_205 rfl (lvA5 hl) ?_
            refine gM_86 S hK hP (v := .ref (g 37)) rfl dX12_comesTo_206 ?_
            refine lv_iload_n hx hb dX12_comesTo_209 rfl (lvA0 hl) ?_
            refine lv_iconst (v := 1) hx hb dX12_comesTo_210 kic_1 ?_
            refine lv_isub hx hb dX12_comesTo_211 ?_
            refine lv_topi (fun y_59 ey_59 => ?_)
            obtain rfl : y_59 = (nI ((s16 - 1) - 1)) := ey_59.trans (nI_sub (b := 1) (by (first | omega | (have zz0 := Hid.u hi_cn; omega))))
            refine lv_iload hx hb dX12_comesTo_212 (lvA3 hl) ?_
            refine lv_aload_n hx hb dX12_comesTo_214 rfl (lvA5 hl) ?_
            refine gM_86 S hK hP (v := .ref (g 37)) rfl dX12_comesTo_215 ?_
            refine lv_iload_n hx hb dX12_comesTo_218 rfl (lvA0 hl) ?_
            refine lv_iconst (v := 1) hx hb dX12_comesTo_219 kic_1 ?_
            refine lv_isub hx hb dX12_comesTo_220 ?_
            refine lv_topi (fun y_60 ey_60 => ?_)
            obtain rfl : y_60 = (nI ((s16 - 1) - 1)) := ey_60.trans (nI_sub (b := 1) (by (first | omega | (have zz0 := Hid.u hi_cn; omega))))
            have kb_18 : ((s16 - 1) - 1) < 180 := by (first | omega | (have zz0 := Hid.u hi_cn; omega))
            refine ldM_37 hx hb hK hP (x := ((F16 37) ((s16 - 1) - 1))) (vp_in_nI kb_18 (ltb rfl)) (nI_clamp (Nat.lt_trans kb_18 (ltb rfl))) rfl dX12_comesTo_221 ?_
            refine lv_aload_n hx hb dX12_comesTo_222 rfl (lvA5 hl) ?_
            refine gM_86 S hK hP (v := .ref (g 37)) rfl dX12_comesTo_223 ?_
            refine lv_iload_n hx hb dX12_comesTo_226 rfl (lvA0 hl) ?_
            have kb_19 : (s16 - 1) < 180 := by (first | omega | (have zz0 := Hid.u hi_cn; omega))
            refine ldM_37 hx hb hK hP (x := ((F16 37) (s16 - 1))) (vp_in_nI kb_19 (ltb rfl)) (nI_clamp (Nat.lt_trans kb_19 (ltb rfl))) rfl dX12_comesTo_227 ?_
            refine vp_callSi (runS_r (As := [.int 7, .int ((F16 37) ((s16 - 1) - 1)), .int ((F16 37) (s16 - 1))]) (rest := [.int (nI ((s16 - 1) - 1)), .ref (g 37)]) S (q_reckon l D cI cB cZ 7 ((F16 37) ((s16 - 1) - 1)) ((F16 37) (s16 - 1)) (fun q => by rcases q with q | q <;> exact absurd q (by decide))) kS_RX12_327 hK hP [] rfl ⟨Nat.le_of_ble_eq_true rfl, Nat.le_of_ble_eq_true rfl⟩ ⟨Nat.le_of_ble_eq_true rfl, Nat.le_of_ble_eq_true rfl⟩ rfl hl.1 rfl (Nat.le_of_ble_eq_true rfl) dX12_comesTo_228) (fun r_61 h_62 => ?_)
            refine stM_37 hx hb hK hP hD hS (Fn2 := (va_up F16 37 (upd (F16 37) ((s16 - 1) - 1) r_61))) (vp_in_nI kb_18 (ltb rfl)) (nI_clamp (Nat.lt_trans kb_18 (ltb rfl))) rfl dX12_comesTo_231 (fun H locs hP hD hS => ?_)
            refine lv_goto (tgt := 16) hx hb dX12_comesTo_232 rfl ?_
            exact ih16 (s16 - 1) (k16 + 1) (va_up F16 37 (upd (F16 37) ((s16 - 1) - 1) r_61)) _ _ (by (first | omega | (have zz0 := Hid.u hi_cn; omega))) ⟨(Fr.mo (Fr.f 37 hfr16) (sbl rfl) (sbl rfl) (sbl rfl)), (IM.fr (In := In) hI16 (Fr.f 37 Fr.rf) (by decide) (by decide)), ⟨by (first | omega | (have zz0 := Hid.u hi_cn; omega)), by (first | omega | (have zz0 := Hid.u hi_cn; omega)), by (first | omega | (have zz0 := Hid.u hi_cn; omega))⟩⟩ hP hD hS ls (lv_sub hl [1, 4, 0, 5, 6, 7] rfl)
          ·
            have hl : lv_has ls 8 [(7, .int (nI v)), (6, .int 8), (5, .int (nI k16)), (4, .int (nI (180 * t0))), (3, .int (nI s16)), (0, .ref (g 100)), (1, .int (nI a0)), (2, .int (nI b0))] := hl
            refine lv_iload hx hb dX12_comesTo_48 (lvA2 hl) ?_
            refine lv_iconst (v := 1) hx hb dX12_comesTo_50 kic_1 ?_
            refine lv_iadd hx hb dX12_comesTo_51 ?_
            refine lv_topi (fun y_63 ey_63 => ?_)
            obtain rfl : y_63 = (nI (k16 + 1)) := ey_63.trans (nI_add k16 1)
            refine lv_istore (lv' := [(5, .int (nI (k16 + 1))), (7, .int (nI v)), (6, .int 8), (4, .int (nI (180 * t0))), (3, .int (nI s16)), (0, .ref (g 100)), (1, .int (nI a0)), (2, .int (nI b0))]) hx hb dX12_comesTo_52 hl (ltb rfl) rfl (fun ls hl => ?_)
            refine lv_iload hx hb dX12_comesTo_54 (lvA2 hl) ?_
            refine lv_if_eq (tgt := 65) hx hb dX12_comesTo_56 rfl (fun h => absurd h cq_eq_8_0) (fun _ => ?_)
            refine lv_iload hx hb dX12_comesTo_59 (lvA2 hl) ?_
            refine lv_iconst (v := 1) hx hb dX12_comesTo_61 kic_1 ?_
            refine lv_icmp_ne (tgt := 95) hx hb dX12_comesTo_62 rfl (fun _ => ?_) (fun h => absurd h cq_eq_8_1)
            refine lv_iload hx hb dX12_comesTo_95 (lvA2 hl) ?_
            refine lv_bipush (v := 10) hx hb dX12_comesTo_97 kbc_10 ?_
            refine lv_icmp_ne (tgt := 123) hx hb dX12_comesTo_99 rfl (fun _ => ?_) (fun h => absurd h cq_eq_8_10)
            refine lv_iload hx hb dX12_comesTo_123 (lvA2 hl) ?_
            refine lv_bipush (v := 11) hx hb dX12_comesTo_125 kbc_11 ?_
            refine lv_icmp_eq (tgt := 137) hx hb dX12_comesTo_127 rfl (fun h => absurd h cq_eq_8_11) (fun _ => ?_)
            refine lv_iload hx hb dX12_comesTo_130 (lvA2 hl) ?_
            refine lv_bipush (v := 12) hx hb dX12_comesTo_132 kbc_12 ?_
            refine lv_icmp_ne (tgt := 177) hx hb dX12_comesTo_134 rfl (fun _ => ?_) (fun h => absurd h cq_eq_8_12)
            refine lv_iload_n hx hb dX12_comesTo_177 rfl (lvA4 hl) ?_
            refine lv_iconst (v := 1) hx hb dX12_comesTo_178 kic_1 ?_
            refine lv_isub hx hb dX12_comesTo_179 ?_
            refine lv_topi (fun y_64 ey_64 => ?_)
            obtain rfl : y_64 = (nI (s16 - 1)) := ey_64.trans (nI_sub (b := 1) (by (first | omega | (have zz0 := Hid.u hi_cn; omega))))
            refine lv_istore_n (lv' := [(3, .int (nI (s16 - 1))), (5, .int (nI (k16 + 1))), (7, .int (nI v)), (6, .int 8), (4, .int (nI (180 * t0))), (0, .ref (g 100)), (1, .int (nI a0)), (2, .int (nI b0))]) hx hb dX12_comesTo_180 rfl hl (ltb rfl) rfl (fun ls hl => ?_)
            refine lv_iload hx hb dX12_comesTo_181 (lvA3 hl) ?_
            refine lv_iconst (v := 5) hx hb dX12_comesTo_183 kic_5 ?_
            refine lv_icmp_eq (tgt := 194) hx hb dX12_comesTo_184 rfl (fun h => absurd h cq_eq_8_5) (fun _ => ?_)
            refine lv_iload hx hb dX12_comesTo_187 (lvA3 hl) ?_
            refine lv_bipush (v := 6) hx hb dX12_comesTo_189 kbc_6 ?_
            refine lv_icmp_ne (tgt := 205) hx hb dX12_comesTo_191 rfl (fun _ => ?_) (fun h => absurd h cq_eq_8_6)
            refine lv_aload_n hx hb dX12_comesTo_205 rfl (lvA5 hl) ?_
            refine gM_86 S hK hP (v := .ref (g 37)) rfl dX12_comesTo_206 ?_
            refine lv_iload_n hx hb dX12_comesTo_209 rfl (lvA0 hl) ?_
            refine lv_iconst (v := 1) hx hb dX12_comesTo_210 kic_1 ?_
            refine lv_isub hx hb dX12_comesTo_211 ?_
            refine lv_topi (fun y_65 ey_65 => ?_)
            obtain rfl : y_65 = (nI ((s16 - 1) - 1)) := ey_65.trans (nI_sub (b := 1) (by (first | omega | (have zz0 := Hid.u hi_cn; omega))))
            refine lv_iload hx hb dX12_comesTo_212 (lvA3 hl) ?_
            refine lv_aload_n hx hb dX12_comesTo_214 rfl (lvA5 hl) ?_
            refine gM_86 S hK hP (v := .ref (g 37)) rfl dX12_comesTo_215 ?_
            refine lv_iload_n hx hb dX12_comesTo_218 rfl (lvA0 hl) ?_
            refine lv_iconst (v := 1) hx hb dX12_comesTo_219 kic_1 ?_
            refine lv_isub hx hb dX12_comesTo_220 ?_
            refine lv_topi (fun y_66 ey_66 => ?_)
            obtain rfl : y_66 = (nI ((s16 - 1) - 1)) := ey_66.trans (nI_sub (b := 1) (by (first | omega | (have zz0 := Hid.u hi_cn; omega))))
            have kb_20 : ((s16 - 1) - 1) < 180 := by (first | omega | (have zz0 := Hid.u hi_cn; omega))
            refine ldM_37 hx hb hK hP (x := ((F16 37) ((s16 - 1) - 1))) (vp_in_nI kb_20 (ltb rfl)) (nI_clamp (Nat.lt_trans kb_20 (ltb rfl))) rfl dX12_comesTo_221 ?_
            refine lv_aload_n hx hb dX12_comesTo_222 rfl (lvA5 hl) ?_
            refine gM_86 S hK hP (v := .ref (g 37)) rfl dX12_comesTo_223 ?_
            refine lv_iload_n hx hb dX12_comesTo_226 rfl (lvA0 hl) ?_
            have kb_21 : (s16 - 1) < 180 := by (first | omega | (have zz0 := Hid.u hi_cn; omega))
            refine ldM_37 hx hb hK hP (x := ((F16 37) (s16 - 1))) (vp_in_nI kb_21 (ltb rfl)) (nI_clamp (Nat.lt_trans kb_21 (ltb rfl))) rfl dX12_comesTo_227 ?_
            refine vp_callSi (runS_r (As := [.int 8, .int ((F16 37) ((s16 - 1) - 1)), .int ((F16 37) (s16 - 1))]) (rest := [.int (nI ((s16 - 1) - 1)), .ref (g 37)]) S (q_reckon l D cI cB cZ 8 ((F16 37) ((s16 - 1) - 1)) ((F16 37) (s16 - 1)) (fun q => by rcases q with q | q <;> exact absurd q (by decide))) kS_RX12_327 hK hP [] rfl ⟨Nat.le_of_ble_eq_true rfl, Nat.le_of_ble_eq_true rfl⟩ ⟨Nat.le_of_ble_eq_true rfl, Nat.le_of_ble_eq_true rfl⟩ rfl hl.1 rfl (Nat.le_of_ble_eq_true rfl) dX12_comesTo_228) (fun r_67 h_68 => ?_)
            refine stM_37 hx hb hK hP hD hS (Fn2 := (va_up F16 37 (upd (F16 37) ((s16 - 1) - 1) r_67))) (vp_in_nI kb_20 (ltb rfl)) (nI_clamp (Nat.lt_trans kb_20 (ltb rfl))) rfl dX12_comesTo_231 (fun H locs hP hD hS => ?_)
            refine lv_goto (tgt := 16) hx hb dX12_comesTo_232 rfl ?_
            exact ih16 (s16 - 1) (k16 + 1) (va_up F16 37 (upd (F16 37) ((s16 - 1) - 1) r_67)) _ _ (by (first | omega | (have zz0 := Hid.u hi_cn; omega))) ⟨(Fr.mo (Fr.f 37 hfr16) (sbl rfl) (sbl rfl) (sbl rfl)), (IM.fr (In := In) hI16 (Fr.f 37 Fr.rf) (by decide) (by decide)), ⟨by (first | omega | (have zz0 := Hid.u hi_cn; omega)), by (first | omega | (have zz0 := Hid.u hi_cn; omega)), by (first | omega | (have zz0 := Hid.u hi_cn; omega))⟩⟩ hP hD hS ls (lv_sub hl [1, 4, 0, 5, 6, 7] rfl)
          ·
            have hl : lv_has ls 8 [(7, .int (nI v)), (6, .int 9), (5, .int (nI k16)), (4, .int (nI (180 * t0))), (3, .int (nI s16)), (0, .ref (g 100)), (1, .int (nI a0)), (2, .int (nI b0))] := hl
            refine lv_iload hx hb dX12_comesTo_48 (lvA2 hl) ?_
            refine lv_iconst (v := 1) hx hb dX12_comesTo_50 kic_1 ?_
            refine lv_iadd hx hb dX12_comesTo_51 ?_
            refine lv_topi (fun y_69 ey_69 => ?_)
            obtain rfl : y_69 = (nI (k16 + 1)) := ey_69.trans (nI_add k16 1)
            refine lv_istore (lv' := [(5, .int (nI (k16 + 1))), (7, .int (nI v)), (6, .int 9), (4, .int (nI (180 * t0))), (3, .int (nI s16)), (0, .ref (g 100)), (1, .int (nI a0)), (2, .int (nI b0))]) hx hb dX12_comesTo_52 hl (ltb rfl) rfl (fun ls hl => ?_)
            refine lv_iload hx hb dX12_comesTo_54 (lvA2 hl) ?_
            refine lv_if_eq (tgt := 65) hx hb dX12_comesTo_56 rfl (fun h => absurd h cq_eq_9_0) (fun _ => ?_)
            refine lv_iload hx hb dX12_comesTo_59 (lvA2 hl) ?_
            refine lv_iconst (v := 1) hx hb dX12_comesTo_61 kic_1 ?_
            refine lv_icmp_ne (tgt := 95) hx hb dX12_comesTo_62 rfl (fun _ => ?_) (fun h => absurd h cq_eq_9_1)
            refine lv_iload hx hb dX12_comesTo_95 (lvA2 hl) ?_
            refine lv_bipush (v := 10) hx hb dX12_comesTo_97 kbc_10 ?_
            refine lv_icmp_ne (tgt := 123) hx hb dX12_comesTo_99 rfl (fun _ => ?_) (fun h => absurd h cq_eq_9_10)
            refine lv_iload hx hb dX12_comesTo_123 (lvA2 hl) ?_
            refine lv_bipush (v := 11) hx hb dX12_comesTo_125 kbc_11 ?_
            refine lv_icmp_eq (tgt := 137) hx hb dX12_comesTo_127 rfl (fun h => absurd h cq_eq_9_11) (fun _ => ?_)
            refine lv_iload hx hb dX12_comesTo_130 (lvA2 hl) ?_
            refine lv_bipush (v := 12) hx hb dX12_comesTo_132 kbc_12 ?_
            refine lv_icmp_ne (tgt := 177) hx hb dX12_comesTo_134 rfl (fun _ => ?_) (fun h => absurd h cq_eq_9_12)
            refine lv_iload_n hx hb dX12_comesTo_177 rfl (lvA4 hl) ?_
            refine lv_iconst (v := 1) hx hb dX12_comesTo_178 kic_1 ?_
            refine lv_isub hx hb dX12_comesTo_179 ?_
            refine lv_topi (fun y_70 ey_70 => ?_)
            obtain rfl : y_70 = (nI (s16 - 1)) := ey_70.trans (nI_sub (b := 1) (by (first | omega | (have zz0 := Hid.u hi_cn; omega))))
            refine lv_istore_n (lv' := [(3, .int (nI (s16 - 1))), (5, .int (nI (k16 + 1))), (7, .int (nI v)), (6, .int 9), (4, .int (nI (180 * t0))), (0, .ref (g 100)), (1, .int (nI a0)), (2, .int (nI b0))]) hx hb dX12_comesTo_180 rfl hl (ltb rfl) rfl (fun ls hl => ?_)
            refine lv_iload hx hb dX12_comesTo_181 (lvA3 hl) ?_
            refine lv_iconst (v := 5) hx hb dX12_comesTo_183 kic_5 ?_
            refine lv_icmp_eq (tgt := 194) hx hb dX12_comesTo_184 rfl (fun h => absurd h cq_eq_9_5) (fun _ => ?_)
            refine lv_iload hx hb dX12_comesTo_187 (lvA3 hl) ?_
            refine lv_bipush (v := 6) hx hb dX12_comesTo_189 kbc_6 ?_
            refine lv_icmp_ne (tgt := 205) hx hb dX12_comesTo_191 rfl (fun _ => ?_) (fun h => absurd h cq_eq_9_6)
            refine lv_aload_n hx hb dX12_comesTo_205 rfl (lvA5 hl) ?_
            refine gM_86 S hK hP (v := .ref (g 37)) rfl dX12_comesTo_206 ?_
            refine lv_iload_n hx hb dX12_comesTo_209 rfl (lvA0 hl) ?_
            refine lv_iconst (v := 1) hx hb dX12_comesTo_210 kic_1 ?_
            refine lv_isub hx hb dX12_comesTo_211 ?_
            refine lv_topi (fun y_71 ey_71 => ?_)
            obtain rfl : y_71 = (nI ((s16 - 1) - 1)) := ey_71.trans (nI_sub (b := 1) (by (first | omega | (have zz0 := Hid.u hi_cn; omega))))
            refine lv_iload hx hb dX12_comesTo_212 (lvA3 hl) ?_
            refine lv_aload_n hx hb dX12_comesTo_214 rfl (lvA5 hl) ?_
            refine gM_86 S hK hP (v := .ref (g 37)) rfl dX12_comesTo_215 ?_
            refine lv_iload_n hx hb dX12_comesTo_218 rfl (lvA0 hl) ?_
            refine lv_iconst (v := 1) hx hb dX12_comesTo_219 kic_1 ?_
            refine lv_isub hx hb dX12_comesTo_220 ?_
            refine lv_topi (fun y_72 ey_72 => ?_)
            obtain rfl : y_72 = (nI ((s16 - 1) - 1)) := ey_72.trans (nI_sub (b := 1) (by (first | omega | (have zz0 := Hid.u hi_cn; omega))))
            have kb_22 : ((s16 - 1) - 1) < 180 := by (first | omega | (have zz0 := Hid.u hi_cn; omega))
            refine ldM_37 hx hb hK hP (x := ((F16 37) ((s16 - 1) - 1))) (vp_in_nI kb_22 (ltb rfl)) (nI_clamp (Nat.lt_trans kb_22 (ltb rfl))) rfl dX12_comesTo_221 ?_
            refine lv_aload_n hx hb dX12_comesTo_222 rfl (lvA5 hl) ?_
            refine gM_86 S hK hP (v := .ref (g 37)) rfl dX12_comesTo_223 ?_
            refine lv_iload_n hx hb dX12_comesTo_226 rfl (lvA0 hl) ?_
            have kb_23 : (s16 - 1) < 180 := by (first | omega | (have zz0 := Hid.u hi_cn; omega))
            refine ldM_37 hx hb hK hP (x := ((F16 37) (s16 - 1))) (vp_in_nI kb_23 (ltb rfl)) (nI_clamp (Nat.lt_trans kb_23 (ltb rfl))) rfl dX12_comesTo_227 ?_
            refine vp_callSi (runS_r (As := [.int 9, .int ((F16 37) ((s16 - 1) - 1)), .int ((F16 37) (s16 - 1))]) (rest := [.int (nI ((s16 - 1) - 1)), .ref (g 37)]) S (q_reckon l D cI cB cZ 9 ((F16 37) ((s16 - 1) - 1)) ((F16 37) (s16 - 1)) (fun q => by rcases q with q | q <;> exact absurd q (by decide))) kS_RX12_327 hK hP [] rfl ⟨Nat.le_of_ble_eq_true rfl, Nat.le_of_ble_eq_true rfl⟩ ⟨Nat.le_of_ble_eq_true rfl, Nat.le_of_ble_eq_true rfl⟩ rfl hl.1 rfl (Nat.le_of_ble_eq_true rfl) dX12_comesTo_228) (fun r_73 h_74 => ?_)
            refine stM_37 hx hb hK hP hD hS (Fn2 := (va_up F16 37 (upd (F16 37) ((s16 - 1) - 1) r_73))) (vp_in_nI kb_22 (ltb rfl)) (nI_clamp (Nat.lt_trans kb_22 (ltb rfl))) rfl dX12_comesTo_231 (fun H locs hP hD hS => ?_)
            refine lv_goto (tgt := 16) hx hb dX12_comesTo_232 rfl ?_
            exact ih16 (s16 - 1) (k16 + 1) (va_up F16 37 (upd (F16 37) ((s16 - 1) - 1) r_73)) _ _ (by (first | omega | (have zz0 := Hid.u hi_cn; omega))) ⟨(Fr.mo (Fr.f 37 hfr16) (sbl rfl) (sbl rfl) (sbl rfl)), (IM.fr (In := In) hI16 (Fr.f 37 Fr.rf) (by decide) (by decide)), ⟨by (first | omega | (have zz0 := Hid.u hi_cn; omega)), by (first | omega | (have zz0 := Hid.u hi_cn; omega)), by (first | omega | (have zz0 := Hid.u hi_cn; omega))⟩⟩ hP hD hS ls (lv_sub hl [1, 4, 0, 5, 6, 7] rfl)
  exact lp_16 _ 0 a0 Fn _ _ (Nat.lt_succ_self _) ⟨(Fr.mo Fr.rf (sbl rfl) (sbl rfl) (sbl rfl)), hI, ⟨Nat.le_refl _, hab, hh0.symm⟩⟩ hP hD hS ls (lv_sub hl [0, 1, 2, 3, 4, 5] rfl)
set_option maxRecDepth 100000 in
set_option maxHeartbeats 4000000 in
theorem q_penceFor (l : Launch) (D : va_G) (cI cB cZ : ClassId) (g : Nat → Nat) (cn : Nat → Nat) (In : Nat → Int32) (Fn : Nat → Nat → Int32) (n0 k0 : Nat) (sz : Nat) (hI : IM cn Fn) (hn0 : n0 < cn 2) (hk0 : k0 ≤ 9) : Met l yX12_penceFor (CWS yX12_penceFor cX12_penceFor 7 (some .int)) (RM 2 0 0) (PBw [.ref (g 100), .int (nI n0), .int (nI k0)] D cI cB cZ (wM cI cB cZ g cn In Fn) sz) (va_Qi (fun (r : Int32) (u : (Nat → Nat) × (Nat → Int32) × (Nat → Nat → Int32)) => (fun r c2 I2 F2 => Fr [] [] [37, 38] cn In Fn c2 I2 F2 ∧ IM c2 F2 ∧ (True)) r u.1 u.2.1 u.2.2) (fun (u : (Nat → Nat) × (Nat → Int32) × (Nat → Nat → Int32)) (t : State) => va_P D vwCl (wM cI cB cZ g u.1 u.2.1 u.2.2) t.heap ∧ va_D (va_A (wM cI cB cZ g cn In Fn) sz) (wM cI cB cZ g u.1 u.2.1 u.2.2)) (va_A (wM cI cB cZ g cn In Fn) sz)) 0 0 (va_A (wM cI cB cZ g cn In Fn) sz) := by
  refine en_w (fun A => (va_Qi (fun (r : Int32) (u : (Nat → Nat) × (Nat → Int32) × (Nat → Nat → Int32)) => (fun (r : Int32) (c2 : Nat → Nat) (I2 : Nat → Int32) (F2 : Nat → Nat → Int32) => Fr [] [] [37, 38] cn In Fn c2 I2 F2 ∧ IM c2 F2 ∧ (True)) r u.1 u.2.1 u.2.2) (fun (u : (Nat → Nat) × (Nat → Int32) × (Nat → Nat → Int32)) (t : State) => va_P D vwCl (wM cI cB cZ g u.1 u.2.1 u.2.2) t.heap ∧ va_D A (wM cI cB cZ g u.1 u.2.1 u.2.2)) A)) rfl rfl pn_RX12 (Nat.le_of_ble_eq_true rfl) (fun p e s m below meth c A hx hb hml hown S hr hlocks hnm hA hP hK hD hS ls hl => ?_)
  have hl : lv_has ls 7 [(0, .ref (g 100)), (1, .int (nI n0)), (2, .int (nI k0))] := hl
  have hi_cn : Hid (CB cn) := hI.b
  refine lv_aload_n hx hb (oc_42 0 shX12_penceFor_0) rfl (lvA0 hl) ?_
  refine gM_25 S hK hP (v := .ref (g 8)) rfl (oc_180 1 (aq_1 shX12_penceFor_0) uw_0_25) ?_
  refine lv_iload_n hx hb (oc_27 4 (aq_4 shX12_penceFor_0)) rfl (lvA1 hl) ?_
  have kb_1 : n0 < 60 := by (first | omega | (have zz0 := Hid.u hi_cn; omega))
  obtain ⟨a_1, ha_1, ea_1⟩ := hI.e8 n0 (by (first | omega | (have zz0 := Hid.u hi_cn; omega)))
  refine ldM_8 hx hb hK hP (x := (nI a_1)) (vp_in_nI kb_1 (ltb rfl)) (nI_clamp (Nat.lt_trans kb_1 (ltb rfl))) ea_1 (oc_46 5 (aq_5 shX12_penceFor_0)) ?_
  refine lv_istore_n (lv' := [(3, .int (nI a_1)), (0, .ref (g 100)), (1, .int (nI n0)), (2, .int (nI k0))]) hx hb (oc_62 6 (aq_6 shX12_penceFor_0)) rfl hl (ltb rfl) rfl (fun ls hl => ?_)
  refine lv_iconst (v := 0) hx hb (oc_3 7 (aq_7 shX12_penceFor_0)) kic_0 ?_
  refine lv_istore (lv' := [(4, .int 0), (3, .int (nI a_1)), (0, .ref (g 100)), (1, .int (nI n0)), (2, .int (nI k0))]) hx hb (oc_54 8 (aq_8 shX12_penceFor_0) ub_4) hl (ltb rfl) rfl (fun ls hl => ?_)
  refine lv_iconst (v := 0) hx hb (oc_3 10 (aq_10 shX12_penceFor_0)) kic_0 ?_
  refine lv_istore (lv' := [(5, .int 0), (4, .int 0), (3, .int (nI a_1)), (0, .ref (g 100)), (1, .int (nI n0)), (2, .int (nI k0))]) hx hb (oc_54 11 (aq_11 shX12_penceFor_0) ub_5) hl (ltb rfl) rfl (fun ls hl => ?_)
  have lp_13 : ∀ (n : Nat) (i13 : Nat) (x13_4 : Int32) , n0 - i13 < n → (i13 ≤ n0) → ∀ ls : Array Slot, lv_has ls 7 [(5, .int (nI i13)), (4, .int x13_4), (3, .int (nI a_1)), (0, .ref (g 100)), (1, .int (nI n0)), (2, .int (nI k0))] → W p l e (RM 2 0 0) s m ([.ref (g 100), .int (nI n0), .int (nI k0)]).toArray below meth c s.heap [] 0 0 (MQ below (va_Qi (fun (r : Int32) (u : (Nat → Nat) × (Nat → Int32) × (Nat → Nat → Int32)) => (fun r c2 I2 F2 => Fr [] [] [37, 38] cn In Fn c2 I2 F2 ∧ IM c2 F2 ∧ (True)) r u.1 u.2.1 u.2.2) (fun (u : (Nat → Nat) × (Nat → Int32) × (Nat → Nat → Int32)) (t : State) => va_P D vwCl (wM cI cB cZ g u.1 u.2.1 u.2.2) t.heap ∧ va_D A (wM cI cB cZ g u.1 u.2.1 u.2.2)) A) ([.ref (g 100), .int (nI n0), .int (nI k0)]).toArray s 0 0 A) (F0 m 13 ls []) := by
    intro n13
    induction n13 with
    | zero => intros; (first | omega | (have zz0 := Hid.u hi_cn; omega))
    | succ n13 ih13 =>
      intro i13 x13_4 hmu13 hinv13 ls hl
      have hr13 := hinv13
      have ti13 : (nI i13).toInt = (i13 : Int) := nI_toInt (by (first | omega | (have zz0 := Hid.u hi_cn; omega)))
      refine lv_iload hx hb (oc_21 13 (aq_13 shX12_penceFor_0) ub_5) (lvA0 hl) ?_
      refine lv_iload_n hx hb (oc_27 15 (aq_15 shX12_penceFor_0)) rfl (lvA4 hl) ?_
      have : (nI n0).toInt = ((n0 : Nat) : Int) := nI_toInt (by (first | omega | (have zz0 := Hid.u hi_cn; omega)))
      refine lv_icmp_ge (tgt := 52) hx hb (oc_162 16 (aq_16 shX12_penceFor_0) sgw_0_36) rfl (fun c_2 => ?_) (fun c_2 => ?_)
      ·
        have tc_2 : ((nI n0).toInt : Int) ≤ (nI i13).toInt := Int32.le_iff_toInt_le.mp c_2
        refine lv_aload_n hx hb (oc_42 52 (aq_3 shX12_penceFor_49)) rfl (lvA3 hl) ?_
        refine gM_89 S hK hP (v := .ref (g 38)) rfl (oc_180 53 (aq_4 shX12_penceFor_49) uw_0_89) ?_
        refine lv_iconst (v := 0) hx hb (oc_3 56 (aq_7 shX12_penceFor_49)) kic_0 ?_
        refine lv_aload_n hx hb (oc_42 57 (aq_8 shX12_penceFor_49)) rfl (lvA3 hl) ?_
        refine gM_31 S hK hP (v := .ref (g 10)) rfl (oc_180 58 (aq_9 shX12_penceFor_49) uw_0_31) ?_
        refine lv_iload_n hx hb (oc_27 61 (aq_12 shX12_penceFor_49)) rfl (lvA4 hl) ?_
        obtain ⟨a_3, ha_3, ea_3⟩ := hI.e10 n0 (by (first | omega | (have zz0 := Hid.u hi_cn; omega)))
        refine ldM_10 hx hb hK hP (x := (nI a_3)) (vp_in_nI kb_1 (ltb rfl)) (nI_clamp (Nat.lt_trans kb_1 (ltb rfl))) ea_3 (oc_46 62 (aq_13 shX12_penceFor_49)) ?_
        refine stM_38 hx hb hK hP hD hS (Fn2 := (va_up Fn 38 (upd (Fn 38) 0 (nI a_3)))) (by unfold vp_in; decide) (by decide) rfl (oc_79 63 (aq_14 shX12_penceFor_49)) (fun H locs hP hD hS => ?_)
        refine lv_aload_n hx hb (oc_42 64 (aq_15 shX12_penceFor_49)) rfl (lvA3 hl) ?_
        refine gM_89 S hK hP (v := .ref (g 38)) rfl (oc_180 65 (aq_16 shX12_penceFor_49) uw_0_89) ?_
        refine lv_iconst (v := 1) hx hb (oc_4 68 (aq_19 shX12_penceFor_49)) kic_1 ?_
        refine lv_aload_n hx hb (oc_42 69 (aq_20 shX12_penceFor_49)) rfl (lvA3 hl) ?_
        refine gM_34 S hK hP (v := .ref (g 11)) rfl (oc_180 70 (aq_21 shX12_penceFor_49) uw_0_34) ?_
        refine lv_iload_n hx hb (oc_27 73 shX12_penceFor_73) rfl (lvA4 hl) ?_
        refine ldM_11 hx hb hK hP (x := ((Fn 11) n0)) (vp_in_nI kb_1 (ltb rfl)) (nI_clamp (Nat.lt_trans kb_1 (ltb rfl))) rfl (oc_46 74 (aq_1 shX12_penceFor_73)) ?_
        refine stM_38 hx hb hK hP hD hS (Fn2 := (va_up Fn 38 (upd (upd (Fn 38) 0 (nI a_3)) 1 ((Fn 11) n0)))) (by unfold vp_in; decide) (by decide) (bx_uu _ _ _ _) (oc_79 75 (aq_2 shX12_penceFor_73)) (fun H locs hP hD hS => ?_)
        refine lv_aload_n hx hb (oc_42 76 (aq_3 shX12_penceFor_73)) rfl (lvA3 hl) ?_
        refine gM_89 S hK hP (v := .ref (g 38)) rfl (oc_180 77 (aq_4 shX12_penceFor_73) uw_0_89) ?_
        refine lv_iconst (v := 2) hx hb (oc_5 80 (aq_7 shX12_penceFor_73)) kic_2 ?_
        refine lv_aload_n hx hb (oc_42 81 (aq_8 shX12_penceFor_73)) rfl (lvA3 hl) ?_
        refine gM_37 S hK hP (v := .ref (g 12)) rfl (oc_180 82 (aq_9 shX12_penceFor_73) uw_0_37) ?_
        refine lv_iload_n hx hb (oc_27 85 (aq_12 shX12_penceFor_73)) rfl (lvA4 hl) ?_
        refine ldM_12 hx hb hK hP (x := ((Fn 12) n0)) (vp_in_nI kb_1 (ltb rfl)) (nI_clamp (Nat.lt_trans kb_1 (ltb rfl))) rfl (oc_46 86 (aq_13 shX12_penceFor_73)) ?_
        refine stM_38 hx hb hK hP hD hS (Fn2 := (va_up Fn 38 (upd (upd (upd (Fn 38) 0 (nI a_3)) 1 ((Fn 11) n0)) 2 ((Fn 12) n0)))) (by unfold vp_in; decide) (by decide) (bx_uu _ _ _ _) (oc_79 87 (aq_14 shX12_penceFor_73)) (fun H locs hP hD hS => ?_)
        refine lv_aload_n hx hb (oc_42 88 (aq_15 shX12_penceFor_73)) rfl (lvA3 hl) ?_
        refine gM_89 S hK hP (v := .ref (g 38)) rfl (oc_180 89 (aq_16 shX12_penceFor_73) uw_0_89) ?_
        refine lv_iconst (v := 3) hx hb (oc_6 92 (aq_19 shX12_penceFor_73)) kic_3 ?_
        refine lv_aload_n hx hb (oc_42 93 (aq_20 shX12_penceFor_73)) rfl (lvA3 hl) ?_
        refine gM_28 S hK hP (v := .ref (g 9)) rfl (oc_180 94 (aq_21 shX12_penceFor_73) uw_0_28) ?_
        refine lv_iload_n hx hb (oc_27 97 shX12_penceFor_97) rfl (lvA4 hl) ?_
        obtain ⟨a_4, ha_4, ea_4⟩ := hI.e9 n0 (by (first | omega | (have zz0 := Hid.u hi_cn; omega)))
        refine ldM_9 hx hb hK hP (x := (nI a_4)) (vp_in_nI kb_1 (ltb rfl)) (nI_clamp (Nat.lt_trans kb_1 (ltb rfl))) ea_4 (oc_46 98 (aq_1 shX12_penceFor_97)) ?_
        refine stM_38 hx hb hK hP hD hS (Fn2 := (va_up Fn 38 (upd (upd (upd (upd (Fn 38) 0 (nI a_3)) 1 ((Fn 11) n0)) 2 ((Fn 12) n0)) 3 (nI a_4)))) (by unfold vp_in; decide) (by decide) (bx_uu _ _ _ _) (oc_79 99 (aq_2 shX12_penceFor_97)) (fun H locs hP hD hS => ?_)
        refine lv_aload_n hx hb (oc_42 100 (aq_3 shX12_penceFor_97)) rfl (lvA3 hl) ?_
        refine gM_89 S hK hP (v := .ref (g 38)) rfl (oc_180 101 (aq_4 shX12_penceFor_97) uw_0_89) ?_
        refine lv_iconst (v := 4) hx hb (oc_7 104 (aq_7 shX12_penceFor_97)) kic_4 ?_
        refine lv_aload_n hx hb (oc_42 105 (aq_8 shX12_penceFor_97)) rfl (lvA3 hl) ?_
        refine gM_28 S hK hP (v := .ref (g 9)) rfl (oc_180 106 (aq_9 shX12_penceFor_97) uw_0_28) ?_
        refine lv_iload_n hx hb (oc_27 109 (aq_12 shX12_penceFor_97)) rfl (lvA4 hl) ?_
        refine ldM_9 hx hb hK hP (x := (nI a_4)) (vp_in_nI kb_1 (ltb rfl)) (nI_clamp (Nat.lt_trans kb_1 (ltb rfl))) ea_4 (oc_46 110 (aq_13 shX12_penceFor_97)) ?_
        refine lv_bipush (v := 7) hx hb (oc_16 111 (aq_14 shX12_penceFor_97) sgb_7) kbc_7 ?_
        refine lv_idiv hx hb (oc_108 113 (aq_16 shX12_penceFor_97)) (by decide) ?_
        refine lv_topi (fun y_5 ey_5 => ?_)
        obtain rfl : y_5 = (nI (a_4 / 7)) := ey_5.trans (nI_div (by (first | omega | (have zz0 := Hid.u hi_cn; omega))) (by decide))
        refine stM_38 hx hb hK hP hD hS (Fn2 := (va_up Fn 38 (upd (upd (upd (upd (upd (Fn 38) 0 (nI a_3)) 1 ((Fn 11) n0)) 2 ((Fn 12) n0)) 3 (nI a_4)) 4 (nI (a_4 / 7))))) (by unfold vp_in; decide) (by decide) (bx_uu _ _ _ _) (oc_79 114 (aq_17 shX12_penceFor_97)) (fun H locs hP hD hS => ?_)
        refine lv_aload_n hx hb (oc_42 115 (aq_18 shX12_penceFor_97)) rfl (lvA3 hl) ?_
        refine gM_89 S hK hP (v := .ref (g 38)) rfl (oc_180 116 (aq_19 shX12_penceFor_97) uw_0_89) ?_
        refine lv_iconst (v := 5) hx hb (oc_8 119 (aq_22 shX12_penceFor_97)) kic_5 ?_
        refine lv_aload_n hx hb (oc_42 120 (aq_23 shX12_penceFor_97)) rfl (lvA3 hl) ?_
        refine gM_28 S hK hP (v := .ref (g 9)) rfl (oc_180 121 shX12_penceFor_121 uw_0_28) ?_
        refine lv_iload_n hx hb (oc_27 124 (aq_3 shX12_penceFor_121)) rfl (lvA4 hl) ?_
        refine ldM_9 hx hb hK hP (x := (nI a_4)) (vp_in_nI kb_1 (ltb rfl)) (nI_clamp (Nat.lt_trans kb_1 (ltb rfl))) ea_4 (oc_46 125 (aq_4 shX12_penceFor_121)) ?_
        refine lv_bipush (v := 7) hx hb (oc_16 126 (aq_5 shX12_penceFor_121) sgb_7) kbc_7 ?_
        refine lv_irem hx hb (oc_112 128 (aq_7 shX12_penceFor_121)) (by decide) ?_
        refine lv_topi (fun y_6 ey_6 => ?_)
        obtain rfl : y_6 = (nI (a_4 % 7)) := ey_6.trans (nI_rem (by (first | omega | (have zz0 := Hid.u hi_cn; omega))) (by decide))
        refine stM_38 hx hb hK hP hD hS (Fn2 := (va_up Fn 38 (upd (upd (upd (upd (upd (upd (Fn 38) 0 (nI a_3)) 1 ((Fn 11) n0)) 2 ((Fn 12) n0)) 3 (nI a_4)) 4 (nI (a_4 / 7))) 5 (nI (a_4 % 7))))) (by unfold vp_in; decide) (by decide) (bx_uu _ _ _ _) (oc_79 129 (aq_8 shX12_penceFor_121)) (fun H locs hP hD hS => ?_)
        refine lv_aload_n hx hb (oc_42 130 (aq_9 shX12_penceFor_121)) rfl (lvA3 hl) ?_
        refine gM_89 S hK hP (v := .ref (g 38)) rfl (oc_180 131 (aq_10 shX12_penceFor_121) uw_0_89) ?_
        refine lv_bipush (v := 6) hx hb (oc_16 134 (aq_13 shX12_penceFor_121) sgb_6) kbc_6 ?_
        refine lv_iload_n hx hb (oc_29 136 (aq_15 shX12_penceFor_121)) rfl (lvA2 hl) ?_
        refine stM_38 hx hb hK hP hD hS (Fn2 := (va_up Fn 38 (upd (upd (upd (upd (upd (upd (upd (Fn 38) 0 (nI a_3)) 1 ((Fn 11) n0)) 2 ((Fn 12) n0)) 3 (nI a_4)) 4 (nI (a_4 / 7))) 5 (nI (a_4 % 7))) 6 (nI a_1)))) (by unfold vp_in; decide) (by decide) (bx_uu _ _ _ _) (oc_79 137 (aq_16 shX12_penceFor_121)) (fun H locs hP hD hS => ?_)
        refine lv_aload_n hx hb (oc_42 138 (aq_17 shX12_penceFor_121)) rfl (lvA3 hl) ?_
        refine gM_89 S hK hP (v := .ref (g 38)) rfl (oc_180 139 (aq_18 shX12_penceFor_121) uw_0_89) ?_
        refine lv_bipush (v := 7) hx hb (oc_16 142 (aq_21 shX12_penceFor_121) sgb_7) kbc_7 ?_
        refine lv_aload_n hx hb (oc_42 144 (aq_23 shX12_penceFor_121)) rfl (lvA3 hl) ?_
        refine gM_43 S hK hP (v := .ref (g 14)) rfl (oc_180 145 shX12_penceFor_145 uw_0_43) ?_
        refine lv_iload_n hx hb (oc_27 148 (aq_3 shX12_penceFor_145)) rfl (lvA4 hl) ?_
        refine ldM_14 hx hb hK hP (x := ((Fn 14) n0)) (vp_in_nI kb_1 (ltb rfl)) (nI_clamp (Nat.lt_trans kb_1 (ltb rfl))) rfl (oc_46 149 (aq_4 shX12_penceFor_145)) ?_
        refine stM_38 hx hb hK hP hD hS (Fn2 := (va_up Fn 38 (upd (upd (upd (upd (upd (upd (upd (upd (Fn 38) 0 (nI a_3)) 1 ((Fn 11) n0)) 2 ((Fn 12) n0)) 3 (nI a_4)) 4 (nI (a_4 / 7))) 5 (nI (a_4 % 7))) 6 (nI a_1)) 7 ((Fn 14) n0)))) (by unfold vp_in; decide) (by decide) (bx_uu _ _ _ _) (oc_79 150 (aq_5 shX12_penceFor_145)) (fun H locs hP hD hS => ?_)
        refine lv_aload_n hx hb (oc_42 151 (aq_6 shX12_penceFor_145)) rfl (lvA3 hl) ?_
        refine gM_89 S hK hP (v := .ref (g 38)) rfl (oc_180 152 (aq_7 shX12_penceFor_145) uw_0_89) ?_
        refine lv_bipush (v := 8) hx hb (oc_16 155 (aq_10 shX12_penceFor_145) sgb_8) kbc_8 ?_
        refine lv_iload hx hb (oc_21 157 (aq_12 shX12_penceFor_145) ub_4) (lvA1 hl) ?_
        refine stM_38 hx hb hK hP hD hS (Fn2 := (va_up Fn 38 (upd (upd (upd (upd (upd (upd (upd (upd (upd (Fn 38) 0 (nI a_3)) 1 ((Fn 11) n0)) 2 ((Fn 12) n0)) 3 (nI a_4)) 4 (nI (a_4 / 7))) 5 (nI (a_4 % 7))) 6 (nI a_1)) 7 ((Fn 14) n0)) 8 x13_4))) (by unfold vp_in; decide) (by decide) (bx_uu _ _ _ _) (oc_79 159 (aq_14 shX12_penceFor_145)) (fun H locs hP hD hS => ?_)
        refine lv_aload_n hx hb (oc_42 160 (aq_15 shX12_penceFor_145)) rfl (lvA3 hl) ?_
        refine gM_89 S hK hP (v := .ref (g 38)) rfl (oc_180 161 (aq_16 shX12_penceFor_145) uw_0_89) ?_
        refine lv_bipush (v := 9) hx hb (oc_16 164 (aq_19 shX12_penceFor_145) sgb_9) kbc_9 ?_
        refine lv_aload_n hx hb (oc_42 166 (aq_21 shX12_penceFor_145)) rfl (lvA3 hl) ?_
        refine gM_92 S hK hP (v := .ref (g 39)) rfl (oc_180 167 (aq_22 shX12_penceFor_145) uw_0_92) ?_
        refine lv_aload_n hx hb (oc_42 170 shX12_penceFor_170) rfl (lvA3 hl) ?_
        refine gM_28 S hK hP (v := .ref (g 9)) rfl (oc_180 171 (aq_1 shX12_penceFor_170) uw_0_28) ?_
        refine lv_iload_n hx hb (oc_27 174 (aq_4 shX12_penceFor_170)) rfl (lvA4 hl) ?_
        refine ldM_9 hx hb hK hP (x := (nI a_4)) (vp_in_nI kb_1 (ltb rfl)) (nI_clamp (Nat.lt_trans kb_1 (ltb rfl))) ea_4 (oc_46 175 (aq_5 shX12_penceFor_170)) ?_
        refine lv_bipush (v := 7) hx hb (oc_16 176 (aq_6 shX12_penceFor_170) sgb_7) kbc_7 ?_
        refine lv_idiv hx hb (oc_108 178 (aq_8 shX12_penceFor_170)) (by decide) ?_
        refine lv_topi (fun y_7 ey_7 => ?_)
        obtain rfl : y_7 = (nI (a_4 / 7)) := ey_7.trans (nI_div (by (first | omega | (have zz0 := Hid.u hi_cn; omega))) (by decide))
        have kb_2 : (a_4 / 7) < 58 := by (first | omega | (have zz0 := Hid.u hi_cn; omega))
        refine ldM_39 hx hb hK hP (x := ((Fn 39) (a_4 / 7))) (vp_in_nI kb_2 (ltb rfl)) (nI_clamp (Nat.lt_trans kb_2 (ltb rfl))) rfl (oc_46 179 (aq_9 shX12_penceFor_170)) ?_
        refine stM_38 hx hb hK hP hD hS (Fn2 := (va_up Fn 38 (upd (upd (upd (upd (upd (upd (upd (upd (upd (upd (Fn 38) 0 (nI a_3)) 1 ((Fn 11) n0)) 2 ((Fn 12) n0)) 3 (nI a_4)) 4 (nI (a_4 / 7))) 5 (nI (a_4 % 7))) 6 (nI a_1)) 7 ((Fn 14) n0)) 8 x13_4) 9 ((Fn 39) (a_4 / 7))))) (by unfold vp_in; decide) (by decide) (bx_uu _ _ _ _) (oc_79 180 (aq_10 shX12_penceFor_170)) (fun H locs hP hD hS => ?_)
        refine lv_aload_n hx hb (oc_42 181 (aq_11 shX12_penceFor_170)) rfl (lvA3 hl) ?_
        refine gM_89 S hK hP (v := .ref (g 38)) rfl (oc_180 182 (aq_12 shX12_penceFor_170) uw_0_89) ?_
        refine lv_bipush (v := 10) hx hb (oc_16 185 (aq_15 shX12_penceFor_170) sgb_10) kbc_10 ?_
        refine lv_iconst (v := 0) hx hb (oc_3 187 (aq_17 shX12_penceFor_170)) kic_0 ?_
        refine stM_38 hx hb hK hP hD hS (Fn2 := (va_up Fn 38 (upd (upd (upd (upd (upd (upd (upd (upd (upd (upd (upd (Fn 38) 0 (nI a_3)) 1 ((Fn 11) n0)) 2 ((Fn 12) n0)) 3 (nI a_4)) 4 (nI (a_4 / 7))) 5 (nI (a_4 % 7))) 6 (nI a_1)) 7 ((Fn 14) n0)) 8 x13_4) 9 ((Fn 39) (a_4 / 7))) 10 0))) (by unfold vp_in; decide) (by decide) (bx_uu _ _ _ _) (oc_79 188 (aq_18 shX12_penceFor_170)) (fun H locs hP hD hS => ?_)
        obtain ⟨q33, hq33, eq33⟩ := hI.e33 k0 (by (first | omega | (have zz0 := Hid.u hi_cn; omega)))
        refine lv_bipush (v := 12) hx hb (oc_16 189 (aq_19 shX12_penceFor_170) sgb_12) kbc_12 ?_
        refine lv_iload_n hx hb (oc_28 191 (aq_21 shX12_penceFor_170)) rfl (lvA5 hl) ?_
        refine lv_imul hx hb (oc_104 192 (aq_22 shX12_penceFor_170)) ?_
        refine lv_topi (fun y_8 ey_8 => ?_)
        obtain rfl : y_8 = (nI (12 * k0)) := ey_8.trans (pk_mul 12 k0)
        refine lv_istore (lv' := [(5, .int (nI (12 * k0))), (4, .int x13_4), (3, .int (nI a_1)), (0, .ref (g 100)), (1, .int (nI n0)), (2, .int (nI k0))]) hx hb (oc_54 193 (aq_23 shX12_penceFor_170) ub_5) hl (ltb rfl) rfl (fun ls hl => ?_)
        have lp_195 : ∀ (n : Nat) (i195 : Nat) (F195 : Nat → Nat → Int32) (H : Heap) (locs : List Loc) , 12 * k0 + q33 - i195 < n → ((12 * k0 ≤ i195 ∧ i195 ≤ 12 * k0 + q33) ∧ Fr [] [] [37, 38] cn In Fn cn In F195 ∧ IM cn F195) → va_P D vwCl (wM cI cB cZ g cn In F195) H → va_D A (wM cI cB cZ g cn In F195) → va_S A s.heap H locs → ∀ ls : Array Slot, lv_has ls 7 [(5, .int (nI i195)), (4, .int x13_4), (3, .int (nI a_1)), (0, .ref (g 100)), (1, .int (nI n0)), (2, .int (nI k0))] → W p l e (RM 2 0 0) s m ([.ref (g 100), .int (nI n0), .int (nI k0)]).toArray below meth c H locs 0 0 (MQ below (va_Qi (fun (r : Int32) (u : (Nat → Nat) × (Nat → Int32) × (Nat → Nat → Int32)) => (fun r c2 I2 F2 => Fr [] [] [37, 38] cn In Fn c2 I2 F2 ∧ IM c2 F2 ∧ (True)) r u.1 u.2.1 u.2.2) (fun (u : (Nat → Nat) × (Nat → Int32) × (Nat → Nat → Int32)) (t : State) => va_P D vwCl (wM cI cB cZ g u.1 u.2.1 u.2.2) t.heap ∧ va_D A (wM cI cB cZ g u.1 u.2.1 u.2.2)) A) ([.ref (g 100), .int (nI n0), .int (nI k0)]).toArray s 0 0 A) (F0 m 195 ls []) := by
          intro n195
          induction n195 with
          | zero => intros; (first | omega | (have zz0 := Hid.u hi_cn; omega))
          | succ n195 ih195 =>
            intro i195 F195 H locs hmu195 hinv195 hP hD hS ls hl
            obtain ⟨hr195, hfr195, hI195⟩ := hinv195
            have ti195 : (nI i195).toInt = (i195 : Int) := nI_toInt (by (first | omega | (have zz0 := Hid.u hi_cn; omega)))
            have hi_cn : Hid (CB cn) := hI195.b
            have eq33 : F195 33 k0 = nI q33 := (congrFun (hfr195.2.2 33 (nml rfl)) k0).trans eq33
            refine lv_iload hx hb (oc_21 195 shX12_penceFor_195 ub_5) (lvA0 hl) ?_
            refine lv_bipush (v := 12) hx hb (oc_16 197 (aq_2 shX12_penceFor_195) sgb_12) kbc_12 ?_
            refine lv_iload_n hx hb (oc_28 199 (aq_4 shX12_penceFor_195)) rfl (lvA5 hl) ?_
            refine lv_imul hx hb (oc_104 200 (aq_5 shX12_penceFor_195)) ?_
            refine lv_topi (fun y_9 ey_9 => ?_)
            obtain rfl : y_9 = (nI (12 * k0)) := ey_9.trans (pk_mul 12 k0)
            refine lv_aload_n hx hb (oc_42 201 (aq_6 shX12_penceFor_195)) rfl (lvA3 hl) ?_
            refine gM_74 S hK hP (v := .ref (g 33)) rfl (oc_180 202 (aq_7 shX12_penceFor_195) uw_0_74) ?_
            refine lv_iload_n hx hb (oc_28 205 (aq_10 shX12_penceFor_195)) rfl (lvA5 hl) ?_
            have kb_3 : k0 < 11 := by (first | omega | (have zz0 := Hid.u hi_cn; omega))
            refine ldM_33 hx hb hK hP (x := (nI q33)) (vp_in_nI kb_3 (ltb rfl)) (nI_clamp (Nat.lt_trans kb_3 (ltb rfl))) eq33 (oc_46 206 (aq_11 shX12_penceFor_195)) ?_
            refine lv_iadd hx hb (oc_96 207 (aq_12 shX12_penceFor_195)) ?_
            refine lv_topi (fun y_10 ey_10 => ?_)
            obtain rfl : y_10 = (nI ((12 * k0) + q33)) := ey_10.trans (nI_add (12 * k0) q33)
            have : (nI ((12 * k0) + q33)).toInt = ((((12 * k0) + q33) : Nat) : Int) := nI_toInt (by (first | omega | (have zz0 := Hid.u hi_cn; omega)))
            refine lv_icmp_ge (tgt := 288) hx hb (oc_162 208 (aq_13 shX12_penceFor_195) sgw_0_80) rfl (fun c_11 => ?_) (fun c_11 => ?_)
            ·
              have tc_11 : ((nI ((12 * k0) + q33)).toInt : Int) ≤ (nI i195).toInt := Int32.le_iff_toInt_le.mp c_11
              refine lv_iconst (v := 0) hx hb (oc_3 288 (aq_21 shX12_penceFor_267)) kic_0 ?_
              exact W.iret (v := 0) hx hb hr (fun t ht hW => ⟨⟨0, (cn, In, F195), rfl, ⟨(Fr.mo hfr195 (sbl rfl) (sbl rfl) (sbl rfl)), hI195, trivial⟩, by rw [ht]; exact hP, hD⟩, hS.F ht⟩) hS.2.2 (oc_172 289 (aq_22 shX12_penceFor_267))
            ·
              have tc_11 : ((nI i195).toInt : Int) < (nI ((12 * k0) + q33)).toInt := Int32.lt_iff_toInt_lt.mp (Int32.not_le.mp c_11)
              obtain ⟨a9, m9, b9, ea9, em9, eb9, k1, k2, k3, k4, k5, sgA, sgB⟩ := IM.cd1 hI195 (t := k0) (by (first | omega | (have zz0 := Hid.u hi_cn; omega))) eq33 hq33 (by (first | omega | (have zz0 := Hid.u hi_cn; omega))) (i := i195) (by (first | omega | (have zz0 := Hid.u hi_cn; omega)))
              refine lv_aload_n hx hb (oc_42 211 (aq_16 shX12_penceFor_195)) rfl (lvA3 hl) ?_
              refine lv_aload_n hx hb (oc_42 212 (aq_17 shX12_penceFor_195)) rfl (lvA3 hl) ?_
              refine gM_80 S hK hP (v := .ref (g 35)) rfl (oc_180 213 (aq_18 shX12_penceFor_195) uw_0_80) ?_
              refine lv_iload hx hb (oc_21 216 (aq_21 shX12_penceFor_195) ub_5) (lvA0 hl) ?_
              have kb_4 : i195 < 132 := by (first | omega | (have zz0 := Hid.u hi_cn; omega))
              refine ldM_35 hx hb hK hP (x := ((F195 35) i195)) (vp_in_nI kb_4 (ltb rfl)) (nI_clamp (Nat.lt_trans kb_4 (ltb rfl))) rfl (oc_46 218 (aq_23 shX12_penceFor_195)) ?_
              refine lv_topi (fun y_12 ey_12 => ?_)
              obtain rfl : y_12 = (nI m9) := ey_12.trans em9
              refine lv_aload_n hx hb (oc_42 219 shX12_penceFor_219) rfl (lvA3 hl) ?_
              refine gM_83 S hK hP (v := .ref (g 36)) rfl (oc_180 220 (aq_1 shX12_penceFor_219) uw_0_83) ?_
              refine lv_iload hx hb (oc_21 223 (aq_4 shX12_penceFor_219) ub_5) (lvA0 hl) ?_
              refine ldM_36 hx hb hK hP (x := ((F195 36) i195)) (vp_in_nI kb_4 (ltb rfl)) (nI_clamp (Nat.lt_trans kb_4 (ltb rfl))) rfl (oc_46 225 (aq_6 shX12_penceFor_219)) ?_
              refine lv_topi (fun y_13 ey_13 => ?_)
              obtain rfl : y_13 = (nI b9) := ey_13.trans eb9
              have hFc := free_all hD hS hA
              refine va_calli (runV_a (As := [.int (nI m9), .int (nI b9)]) (rest := []) S (q_comesTo l D cI cB cZ g cn In F195 k0 m9 b9 H.size hI195 sgB (by (first | omega | (have zz0 := Hid.u hi_cn; omega))) (by (first | omega | (have zz0 := Hid.u hi_cn; omega))) (by (first | omega | (have zz0 := Hid.u hi_cn; omega))) (by (first | omega | (have zz0 := Hid.u hi_cn; omega))) (by (first | omega | (have zz0 := Hid.u hi_cn; omega)))) kV_RX12_331 hK hP hD 0 rfl rfl rfl ⟨Nat.le_of_ble_eq_true rfl, Nat.le_of_ble_eq_true rfl⟩ ⟨Nat.le_of_ble_eq_true rfl, Nat.le_of_ble_eq_true rfl⟩ rfl hl.1 rfl (Nat.le_of_ble_eq_true rfl) (oc_182 226 (aq_7 shX12_penceFor_219) uw_1_75)) hS (fun q _ h => hFc q h) hFc (fun r_14 u t H1 locs ht hvm wh_15 hB hz1 hk1 hS => ?_)
              obtain ⟨cn15, In15, Fn15⟩ := u
              obtain ⟨hP1, hD1⟩ := hB
              rw [ht] at hP1
              have hP : va_P D vwCl (wM cI cB cZ g cn15 In15 Fn15) H1 := hP1
              have hD : va_D A (wM cI cB cZ g cn15 In15 Fn15) := hD1.weaken (fun _ _ _ h => hFc _ h)
              generalize H1 = H at hP hS ⊢
              have vh_15 : (fun r c2 I2 F2 => Fr [] [] [37] cn In F195 c2 I2 F2 ∧ IM c2 F2 ∧ (True)) r_14 cn15 In15 Fn15 := wh_15
              obtain ⟨hfc15, hIn15, h_15⟩ := vh_15
              obtain rfl : cn = cn15 := (funext (fun k => hfc15.1 k List.not_mem_nil)).symm
              obtain rfl : In = In15 := (funext (fun k => hfc15.2.1 k List.not_mem_nil)).symm
              have hf15 : Fr [] [] [37, 38] cn In Fn cn In Fn15 := Fr.mo (Fr.tr hfr195 hfc15) (sbl rfl) (sbl rfl) (sbl rfl)
              have hi_cn : Hid (CB cn) := hIn15.b
              refine lv_iconst (v := 1) hx hb (oc_4 229 (aq_10 shX12_penceFor_219)) kic_1 ?_
              refine lv_icmp_eq (tgt := 236) hx hb (oc_159 230 (aq_11 shX12_penceFor_219) sgw_0_6) rfl (fun c_16 => ?_) (fun c_16 => ?_)
              ·
                have tc_16 : (r_14.toInt : Int) = 1 := congrArg Int32.toInt c_16
                refine lv_aload_n hx hb (oc_42 236 (aq_17 shX12_penceFor_219)) rfl (lvA3 hl) ?_
                refine lv_aload_n hx hb (oc_42 237 (aq_18 shX12_penceFor_219)) rfl (lvA3 hl) ?_
                refine gM_77 S hK hP (v := .ref (g 34)) rfl (oc_180 238 (aq_19 shX12_penceFor_219) uw_0_77) ?_
                refine lv_iload hx hb (oc_21 241 (aq_22 shX12_penceFor_219) ub_5) (lvA0 hl) ?_
                refine ldM_34 hx hb hK hP (x := ((Fn15 34) i195)) (vp_in_nI kb_4 (ltb rfl)) (nI_clamp (Nat.lt_trans kb_4 (ltb rfl))) rfl (oc_46 243 shX12_penceFor_243) ?_
                refine lv_topi (fun y_17 ey_17 => ?_)
                obtain rfl : y_17 = (nI a9) := ey_17.trans ((congrFun (hfc15.2.2 34 (nml rfl)) i195).trans ea9)
                refine lv_aload_n hx hb (oc_42 244 (aq_1 shX12_penceFor_243)) rfl (lvA3 hl) ?_
                refine gM_80 S hK hP (v := .ref (g 35)) rfl (oc_180 245 (aq_2 shX12_penceFor_243) uw_0_80) ?_
                refine lv_iload hx hb (oc_21 248 (aq_5 shX12_penceFor_243) ub_5) (lvA0 hl) ?_
                refine ldM_35 hx hb hK hP (x := ((Fn15 35) i195)) (vp_in_nI kb_4 (ltb rfl)) (nI_clamp (Nat.lt_trans kb_4 (ltb rfl))) rfl (oc_46 250 (aq_7 shX12_penceFor_243)) ?_
                refine lv_topi (fun y_18 ey_18 => ?_)
                obtain rfl : y_18 = (nI m9) := ey_18.trans ((congrFun (hfc15.2.2 35 (nml rfl)) i195).trans em9)
                have hFc := free_all hD hS hA
                refine va_calli (runV_a (As := [.int (nI a9), .int (nI m9)]) (rest := []) S (q_comesTo l D cI cB cZ g cn In Fn15 k0 a9 m9 H.size hIn15 (by rw [hfc15.2.2 32 (nml rfl)]; exact sgA) (by (first | omega | (have zz0 := Hid.u hi_cn; omega))) (by (first | omega | (have zz0 := Hid.u hi_cn; omega))) (by (first | omega | (have zz0 := Hid.u hi_cn; omega))) (by (first | omega | (have zz0 := Hid.u hi_cn; omega))) (by (first | omega | (have zz0 := Hid.u hi_cn; omega)))) kV_RX12_331 hK hP hD 0 rfl rfl rfl ⟨Nat.le_of_ble_eq_true rfl, Nat.le_of_ble_eq_true rfl⟩ ⟨Nat.le_of_ble_eq_true rfl, Nat.le_of_ble_eq_true rfl⟩ rfl hl.1 rfl (Nat.le_of_ble_eq_true rfl) (oc_182 251 (aq_8 shX12_penceFor_243) uw_1_75)) hS (fun q _ h => hFc q h) hFc (fun r_19 u t H1 locs ht hvm wh_20 hB hz1 hk1 hS => ?_)
                obtain ⟨cn20, In20, Fn20⟩ := u
                obtain ⟨hP1, hD1⟩ := hB
                rw [ht] at hP1
                have hP : va_P D vwCl (wM cI cB cZ g cn20 In20 Fn20) H1 := hP1
                have hD : va_D A (wM cI cB cZ g cn20 In20 Fn20) := hD1.weaken (fun _ _ _ h => hFc _ h)
                generalize H1 = H at hP hS ⊢
                have vh_20 : (fun r c2 I2 F2 => Fr [] [] [37] cn In Fn15 c2 I2 F2 ∧ IM c2 F2 ∧ (True)) r_19 cn20 In20 Fn20 := wh_20
                obtain ⟨hfc20, hIn20, h_20⟩ := vh_20
                obtain rfl : cn = cn20 := (funext (fun k => hfc20.1 k List.not_mem_nil)).symm
                obtain rfl : In = In20 := (funext (fun k => hfc20.2.1 k List.not_mem_nil)).symm
                have hf20 : Fr [] [] [37, 38] cn In Fn cn In Fn20 := Fr.mo (Fr.tr hf15 hfc20) (sbl rfl) (sbl rfl) (sbl rfl)
                have hi_cn : Hid (CB cn) := hIn20.b
                refine lv_istore (lv' := [(6, .int r_19), (5, .int (nI i195)), (4, .int x13_4), (3, .int (nI a_1)), (0, .ref (g 100)), (1, .int (nI n0)), (2, .int (nI k0))]) hx hb (oc_54 254 (aq_11 shX12_penceFor_243) ub_6) hl (ltb rfl) rfl (fun ls hl => ?_)
                refine lv_iload hx hb (oc_21 256 (aq_13 shX12_penceFor_243) ub_6) (lvA0 hl) ?_
                refine lv_if_ge (tgt := 265) hx hb (oc_156 258 (aq_15 shX12_penceFor_243) sgw_0_7) rfl (fun c_21 => ?_) (fun c_21 => ?_)
                ·
                  have tc_21 : (0 : Int) ≤ r_19.toInt := Int32.le_iff_toInt_le.mp c_21
                  refine lv_iload hx hb (oc_21 265 (aq_22 shX12_penceFor_243) ub_6) (lvA0 hl) ?_
                  refine lv_ldcw (v := 100000) hx hb hown (S.2.2.2.2 _ (wk8_4 9 rfl rfl)) (oc_19 267 shX12_penceFor_267 uw_1_78) ?_
                  refine lv_icmp_le (tgt := 279) hx hb (oc_164 270 (aq_3 shX12_penceFor_267) sgw_0_9) rfl (fun c_22 => ?_) (fun c_22 => ?_)
                  ·
                    have tc_22 : (r_19.toInt : Int) ≤ 100000 := Int32.le_iff_toInt_le.mp c_22
                    refine lv_iload hx hb (oc_21 279 (aq_12 shX12_penceFor_267) ub_6) (lvA0 hl) ?_
                    exact W.iret (v := r_19) hx hb hr (fun t ht hW => ⟨⟨r_19, (cn, In, Fn20), rfl, ⟨(Fr.mo hf20 (sbl rfl) (sbl rfl) (sbl rfl)), hIn20, trivial⟩, by rw [ht]; exact hP, hD⟩, hS.F ht⟩) hS.2.2 (oc_172 281 (aq_14 shX12_penceFor_267))
                  ·
                    have tc_22 : (100000 : Int) < r_19.toInt := Int32.lt_iff_toInt_lt.mp (Int32.not_le.mp c_22)
                    refine lv_ldcw (v := 100000) hx hb hown (S.2.2.2.2 _ (wk8_4 9 rfl rfl)) (oc_19 273 (aq_6 shX12_penceFor_267) uw_1_78) ?_
                    refine lv_goto (tgt := 281) hx hb (oc_167 276 (aq_9 shX12_penceFor_267) sgw_0_5) rfl ?_
                    exact W.iret (v := 100000) hx hb hr (fun t ht hW => ⟨⟨100000, (cn, In, Fn20), rfl, ⟨(Fr.mo hf20 (sbl rfl) (sbl rfl) (sbl rfl)), hIn20, trivial⟩, by rw [ht]; exact hP, hD⟩, hS.F ht⟩) hS.2.2 (oc_172 281 (aq_14 shX12_penceFor_267))
                ·
                  have tc_21 : (r_19.toInt : Int) < 0 := Int32.lt_iff_toInt_lt.mp (Int32.not_le.mp c_21)
                  refine lv_iconst (v := 0) hx hb (oc_3 261 (aq_18 shX12_penceFor_243)) kic_0 ?_
                  refine lv_goto (tgt := 281) hx hb (oc_167 262 (aq_19 shX12_penceFor_243) sgw_0_19) rfl ?_
                  exact W.iret (v := 0) hx hb hr (fun t ht hW => ⟨⟨0, (cn, In, Fn20), rfl, ⟨(Fr.mo hf20 (sbl rfl) (sbl rfl) (sbl rfl)), hIn20, trivial⟩, by rw [ht]; exact hP, hD⟩, hS.F ht⟩) hS.2.2 (oc_172 281 (aq_14 shX12_penceFor_267))
              ·
                have tc_16 : (r_14.toInt : Int) ≠ 1 := fun q => c_16 (Int32.toInt_inj.mp q)
                refine lv_goto (tgt := 282) hx hb (oc_167 233 (aq_14 shX12_penceFor_219) sgw_0_49) rfl ?_
                refine lv_iinc (v := (nI (i195 + 1))) (lv' := [(5, .int (nI (i195 + 1))), (4, .int x13_4), (3, .int (nI a_1)), (0, .ref (g 100)), (1, .int (nI n0)), (2, .int (nI k0))]) hx hb (oc_132 282 (aq_15 shX12_penceFor_267) ub_5 sgb_1) hl (k := 0) rfl (nI_1 _) (ltb rfl) rfl (fun ls hl => ?_)
                refine lv_goto (tgt := 195) hx hb (oc_167 285 (aq_18 shX12_penceFor_267) sgw_255_166) rfl ?_
                exact ih195 (i195 + 1) Fn15 _ _ (by (first | omega | (have zz0 := Hid.u hi_cn; omega))) ⟨(by (first | omega | (have zz0 := Hid.u hi_cn; omega))), (Fr.mo hf15 (sbl rfl) (sbl rfl) (sbl rfl)), hIn15⟩ hP hD hS ls (lv_sub hl [0, 1, 2, 3, 4, 5] rfl)
        exact lp_195 _ (12 * k0) (va_up Fn 38 (upd (upd (upd (upd (upd (upd (upd (upd (upd (upd (upd (Fn 38) 0 (nI a_3)) 1 ((Fn 11) n0)) 2 ((Fn 12) n0)) 3 (nI a_4)) 4 (nI (a_4 / 7))) 5 (nI (a_4 % 7))) 6 (nI a_1)) 7 ((Fn 14) n0)) 8 x13_4) 9 ((Fn 39) (a_4 / 7))) 10 0)) _ _ (Nat.lt_succ_self _) ⟨(by (first | omega | (have zz0 := Hid.u hi_cn; omega))), (Fr.mo (Fr.f 38 Fr.rf) (sbl rfl) (sbl rfl) (sbl rfl)), (IM.fr (In := In) hI (Fr.f 38 Fr.rf) (by decide) (by decide))⟩ hP hD hS ls (lv_sub hl [0, 1, 2, 3, 4, 5] rfl)
      ·
        have tc_2 : ((nI i13).toInt : Int) < (nI n0).toInt := Int32.lt_iff_toInt_lt.mp (Int32.not_le.mp c_2)
        refine lv_iload hx hb (oc_21 19 (aq_19 shX12_penceFor_0) ub_4) (lvA1 hl) ?_
        refine lv_aload_n hx hb (oc_42 21 (aq_21 shX12_penceFor_0)) rfl (lvA3 hl) ?_
        refine gM_25 S hK hP (v := .ref (g 8)) rfl (oc_180 22 (aq_22 shX12_penceFor_0) uw_0_25) ?_
        refine lv_iload hx hb (oc_21 25 shX12_penceFor_25 ub_5) (lvA0 hl) ?_
        have kb_5 : i13 < 60 := by (first | omega | (have zz0 := Hid.u hi_cn; omega))
        obtain ⟨a_23, ha_23, ea_23⟩ := hI.e8 i13 (by (first | omega | (have zz0 := Hid.u hi_cn; omega)))
        refine ldM_8 hx hb hK hP (x := (nI a_23)) (vp_in_nI kb_5 (ltb rfl)) (nI_clamp (Nat.lt_trans kb_5 (ltb rfl))) ea_23 (oc_46 27 (aq_2 shX12_penceFor_25)) ?_
        refine lv_iload_n hx hb (oc_29 28 (aq_3 shX12_penceFor_25)) rfl (lvA2 hl) ?_
        have : (nI a_23).toInt = ((a_23 : Nat) : Int) := nI_toInt (by (first | omega | (have zz0 := Hid.u hi_cn; omega)))
        have : (nI a_1).toInt = ((a_1 : Nat) : Int) := nI_toInt (by (first | omega | (have zz0 := Hid.u hi_cn; omega)))
        refine lv_icmp_ne (tgt := 42) hx hb (oc_160 29 (aq_4 shX12_penceFor_25) sgw_0_13) rfl (fun c_24 => ?_) (fun c_24 => ?_)
        ·
          have tc_24 : ((nI a_23).toInt : Int) ≠ (nI a_1).toInt := fun q => c_24 (Int32.toInt_inj.mp q)
          refine lv_iconst (v := 0) hx hb (oc_3 42 (aq_17 shX12_penceFor_25)) kic_0 ?_
          refine lv_iadd hx hb (oc_96 43 (aq_18 shX12_penceFor_25)) ?_
          refine lv_istore (lv' := [(4, .int (x13_4 + 0)), (5, .int (nI i13)), (3, .int (nI a_1)), (0, .ref (g 100)), (1, .int (nI n0)), (2, .int (nI k0))]) hx hb (oc_54 44 (aq_19 shX12_penceFor_25) ub_4) hl (ltb rfl) rfl (fun ls hl => ?_)
          refine lv_iinc (v := (nI (i13 + 1))) (lv' := [(5, .int (nI (i13 + 1))), (4, .int (x13_4 + 0)), (3, .int (nI a_1)), (0, .ref (g 100)), (1, .int (nI n0)), (2, .int (nI k0))]) hx hb (oc_132 46 (aq_21 shX12_penceFor_25) ub_5 sgb_1) hl (k := 1) rfl (nI_1 _) (ltb rfl) rfl (fun ls hl => ?_)
          refine lv_goto (tgt := 13) hx hb (oc_167 49 shX12_penceFor_49 sgw_255_220) rfl ?_
          exact ih13 (i13 + 1) (x13_4 + 0) (by (first | omega | (have zz0 := Hid.u hi_cn; omega))) (by (first | omega | (have zz0 := Hid.u hi_cn; omega))) ls (lv_sub hl [0, 1, 2, 3, 4, 5] rfl)
        ·
          have tc_24 : ((nI a_23).toInt : Int) = (nI a_1).toInt := congrArg Int32.toInt c_24
          refine lv_aload_n hx hb (oc_42 32 (aq_7 shX12_penceFor_25)) rfl (lvA3 hl) ?_
          refine gM_31 S hK hP (v := .ref (g 10)) rfl (oc_180 33 (aq_8 shX12_penceFor_25) uw_0_31) ?_
          refine lv_iload hx hb (oc_21 36 (aq_11 shX12_penceFor_25) ub_5) (lvA0 hl) ?_
          obtain ⟨a_25, ha_25, ea_25⟩ := hI.e10 i13 (by (first | omega | (have zz0 := Hid.u hi_cn; omega)))
          refine ldM_10 hx hb hK hP (x := (nI a_25)) (vp_in_nI kb_5 (ltb rfl)) (nI_clamp (Nat.lt_trans kb_5 (ltb rfl))) ea_25 (oc_46 38 (aq_13 shX12_penceFor_25)) ?_
          refine lv_goto (tgt := 43) hx hb (oc_167 39 (aq_14 shX12_penceFor_25) sgw_0_4) rfl ?_
          refine lv_iadd hx hb (oc_96 43 (aq_18 shX12_penceFor_25)) ?_
          refine lv_istore (lv' := [(4, .int (x13_4 + (nI a_25))), (5, .int (nI i13)), (3, .int (nI a_1)), (0, .ref (g 100)), (1, .int (nI n0)), (2, .int (nI k0))]) hx hb (oc_54 44 (aq_19 shX12_penceFor_25) ub_4) hl (ltb rfl) rfl (fun ls hl => ?_)
          refine lv_iinc (v := (nI (i13 + 1))) (lv' := [(5, .int (nI (i13 + 1))), (4, .int (x13_4 + (nI a_25))), (3, .int (nI a_1)), (0, .ref (g 100)), (1, .int (nI n0)), (2, .int (nI k0))]) hx hb (oc_132 46 (aq_21 shX12_penceFor_25) ub_5 sgb_1) hl (k := 1) rfl (nI_1 _) (ltb rfl) rfl (fun ls hl => ?_)
          refine lv_goto (tgt := 13) hx hb (oc_167 49 shX12_penceFor_49 sgw_255_220) rfl ?_
          exact ih13 (i13 + 1) (x13_4 + (nI a_25)) (by (first | omega | (have zz0 := Hid.u hi_cn; omega))) (by (first | omega | (have zz0 := Hid.u hi_cn; omega))) ls (lv_sub hl [0, 1, 2, 3, 4, 5] rfl)
  exact lp_13 _ 0 0 (Nat.lt_succ_self _) (by (first | omega | (have zz0 := Hid.u hi_cn; omega))) ls (lv_sub hl [0, 1, 2, 3, 4, 5] rfl)
set_option maxRecDepth 100000 in
set_option maxHeartbeats 4000000 in
theorem q_pence (l : Launch) (D : va_G) (cI cB cZ : ClassId) (g : Nat → Nat) (cn : Nat → Nat) (In : Nat → Int32) (Fn : Nat → Nat → Int32) (v0 : Int32) (sz : Nat) (hI : IM cn Fn) : Met l yX12_pence (CWS yX12_pence cX12_pence 2 (some .int)) (RM 3 0 0) (PBw [.ref (g 100), .int v0] D cI cB cZ (wM cI cB cZ g cn In Fn) sz) (va_Qi (fun (r : Int32) (u : (Nat → Nat) × (Nat → Int32) × (Nat → Nat → Int32)) => (fun r c2 I2 F2 => Fr [] [] [37, 38] cn In Fn c2 I2 F2 ∧ IM c2 F2 ∧ (True)) r u.1 u.2.1 u.2.2) (fun (u : (Nat → Nat) × (Nat → Int32) × (Nat → Nat → Int32)) (t : State) => va_P D vwCl (wM cI cB cZ g u.1 u.2.1 u.2.2) t.heap ∧ va_D (va_A (wM cI cB cZ g cn In Fn) sz) (wM cI cB cZ g u.1 u.2.1 u.2.2)) (va_A (wM cI cB cZ g cn In Fn) sz)) 0 0 (va_A (wM cI cB cZ g cn In Fn) sz) := by
  refine en_w (fun A => (va_Qi (fun (r : Int32) (u : (Nat → Nat) × (Nat → Int32) × (Nat → Nat → Int32)) => (fun (r : Int32) (c2 : Nat → Nat) (I2 : Nat → Int32) (F2 : Nat → Nat → Int32) => Fr [] [] [37, 38] cn In Fn c2 I2 F2 ∧ IM c2 F2 ∧ (True)) r u.1 u.2.1 u.2.2) (fun (u : (Nat → Nat) × (Nat → Int32) × (Nat → Nat → Int32)) (t : State) => va_P D vwCl (wM cI cB cZ g u.1 u.2.1 u.2.2) t.heap ∧ va_D A (wM cI cB cZ g u.1 u.2.1 u.2.2)) A)) rfl rfl pn_RX12 (Nat.le_of_ble_eq_true rfl) (fun p e s m below meth c A hx hb hml hown S hr hlocks hnm hA hP hK hD hS ls hl => ?_)
  have hl : lv_has ls 2 [(0, .ref (g 100)), (1, .int v0)] := hl
  have hi_cn : Hid (CB cn) := hI.b
  refine lv_aload_n hx hb (oc_42 0 shX12_pence_0) rfl (lvA0 hl) ?_
  refine lv_iload_n hx hb (oc_27 1 (aq_1 shX12_pence_0)) rfl (lvA1 hl) ?_
  refine vp_callSi (runV_ra (As := [.int v0]) (rest := []) S (q_isLoad l D cI cB cZ g cn In Fn v0 hI) kV_RX12_335 hK hP 0 rfl rfl rfl ⟨Nat.le_of_ble_eq_true rfl, Nat.le_of_ble_eq_true rfl⟩ ⟨Nat.le_of_ble_eq_true rfl, Nat.le_of_ble_eq_true rfl⟩ rfl hl.1 rfl (Nat.le_of_ble_eq_true rfl) (oc_182 2 (aq_2 shX12_pence_0) uw_1_79)) (fun r_1 h_2 => ?_)
  rcases h_2 with ⟨rfl, h_2⟩ | ⟨rfl, h_2⟩
  ·
    have h_2 : 0 ≤ v0.toInt ∧ v0.toInt < ((cn 2) : Int) := h_2
    refine lv_if_eq (tgt := 22) hx hb (oc_153 5 (aq_5 shX12_pence_0) sgw_0_17) rfl (fun h => absurd h cq_eq_1_0) (fun _ => ?_)
    obtain ⟨d0, hd0, rfl⟩ := nI_of (x := v0) (fun q => by have := Int32.lt_iff_toInt_lt.mp q; have e : (0 : Int32).toInt = 0 := rfl; (first | omega | (have zz0 := Hid.u hi_cn; omega)))
    have td0 : (nI d0).toInt = (d0 : Int) := nI_toInt hd0
    have zd0 : (nI d0).toInt.toNat = d0 := by (first | omega | (have zz0 := Hid.u hi_cn; omega))
    refine lv_aload_n hx hb (oc_42 8 (aq_8 shX12_pence_0)) rfl (lvA0 hl) ?_
    refine lv_iload_n hx hb (oc_27 9 (aq_9 shX12_pence_0)) rfl (lvA1 hl) ?_
    refine lv_aload_n hx hb (oc_42 10 (aq_10 shX12_pence_0)) rfl (lvA0 hl) ?_
    refine gM_25 S hK hP (v := .ref (g 8)) rfl (oc_180 11 (aq_11 shX12_pence_0) uw_0_25) ?_
    refine lv_iload_n hx hb (oc_27 14 (aq_14 shX12_pence_0)) rfl (lvA1 hl) ?_
    have kb_1 : d0 < 60 := by (first | omega | (have zz0 := Hid.u hi_cn; omega))
    obtain ⟨a_3, ha_3, ea_3⟩ := hI.e8 d0 (by (first | omega | (have zz0 := Hid.u hi_cn; omega)))
    refine ldM_8 hx hb hK hP (x := (nI a_3)) (vp_in_nI kb_1 (ltb rfl)) (nI_clamp (Nat.lt_trans kb_1 (ltb rfl))) ea_3 (oc_46 15 (aq_15 shX12_pence_0)) ?_
    have hFc := free_all hD hS hA
    refine va_calli (runV_a (As := [.int (nI d0), .int (nI a_3)]) (rest := []) S (q_penceFor l D cI cB cZ g cn In Fn d0 a_3 s.heap.size hI (by (first | omega | (have zz0 := Hid.u hi_cn; omega))) (by (first | omega | (have zz0 := Hid.u hi_cn; omega)))) kV_RX12_338 hK hP hD 0 rfl rfl rfl ⟨Nat.le_of_ble_eq_true rfl, Nat.le_of_ble_eq_true rfl⟩ ⟨Nat.le_of_ble_eq_true rfl, Nat.le_of_ble_eq_true rfl⟩ rfl hl.1 rfl (Nat.le_of_ble_eq_true rfl) (oc_182 16 (aq_16 shX12_pence_0) uw_1_82)) hS (fun q _ h => hFc q h) hFc (fun r_4 u t H1 locs ht hvm wh_5 hB hz1 hk1 hS => ?_)
    obtain ⟨cn5, In5, Fn5⟩ := u
    obtain ⟨hP1, hD1⟩ := hB
    rw [ht] at hP1
    have hP : va_P D vwCl (wM cI cB cZ g cn5 In5 Fn5) H1 := hP1
    have hD : va_D A (wM cI cB cZ g cn5 In5 Fn5) := hD1.weaken (fun _ _ _ h => hFc _ h)
    generalize H1 = H at hP hS ⊢
    have vh_5 : (fun r c2 I2 F2 => Fr [] [] [37, 38] cn In Fn c2 I2 F2 ∧ IM c2 F2 ∧ (True)) r_4 cn5 In5 Fn5 := wh_5
    obtain ⟨hfc5, hIn5, h_5⟩ := vh_5
    obtain rfl : cn = cn5 := (funext (fun k => hfc5.1 k List.not_mem_nil)).symm
    obtain rfl : In = In5 := (funext (fun k => hfc5.2.1 k List.not_mem_nil)).symm
    have hf5 : Fr [] [] [37, 38] cn In Fn cn In Fn5 := Fr.mo (Fr.tr (Fr.rf (cn := cn) (In := In) (Fn := Fn)) hfc5) (sbl rfl) (sbl rfl) (sbl rfl)
    have hi_cn : Hid (CB cn) := hIn5.b
    refine lv_goto (tgt := 23) hx hb (oc_167 19 (aq_19 shX12_pence_0) sgw_0_4) rfl ?_
    exact W.iret (v := r_4) hx hb hr (fun t ht hW => ⟨⟨r_4, (cn, In, Fn5), rfl, ⟨(Fr.mo hf5 (sbl rfl) (sbl rfl) (sbl rfl)), hIn5, trivial⟩, by rw [ht]; exact hP, hD⟩, hS.F ht⟩) hS.2.2 (oc_172 23 (aq_23 shX12_pence_0))
  ·
    have h_2 : ¬ (0 ≤ v0.toInt ∧ v0.toInt < ((cn 2) : Int)) := h_2
    refine lv_if_eq (tgt := 22) hx hb (oc_153 5 (aq_5 shX12_pence_0) sgw_0_17) rfl (fun _ => ?_) (fun h => absurd h cq_eq_0_0)
    refine lv_iconst (v := (-1)) hx hb (oc_2 22 (aq_22 shX12_pence_0)) kic_m1 ?_
    exact W.iret (v := (-1)) hx hb hr (fun t ht hW => ⟨⟨(-1), (cn, In, Fn), rfl, ⟨(Fr.mo Fr.rf (sbl rfl) (sbl rfl) (sbl rfl)), hI, trivial⟩, by rw [ht]; exact hP, hD⟩, hS.F ht⟩) hS.2.2 (oc_172 23 (aq_23 shX12_pence_0))
set_option maxRecDepth 100000 in
set_option maxHeartbeats 4000000 in
theorem q_paid (l : Launch) (D : va_G) (cI cB cZ : ClassId) (g : Nat → Nat) (cn : Nat → Nat) (In : Nat → Int32) (Fn : Nat → Nat → Int32) (v0 v1 : Int32) (sz : Nat) (hI : IM cn Fn) : Met l yX12_paid (CWS yX12_paid cX12_paid 5 (some .int)) (RM 3 0 0) (PBw [.ref (g 100), .int v0, .int v1] D cI cB cZ (wM cI cB cZ g cn In Fn) sz) (va_Qi (fun (r : Int32) (u : (Nat → Nat) × (Nat → Int32) × (Nat → Nat → Int32)) => (fun r c2 I2 F2 => Fr [] [] [37, 38] cn In Fn c2 I2 F2 ∧ IM c2 F2 ∧ (True)) r u.1 u.2.1 u.2.2) (fun (u : (Nat → Nat) × (Nat → Int32) × (Nat → Nat → Int32)) (t : State) => va_P D vwCl (wM cI cB cZ g u.1 u.2.1 u.2.2) t.heap ∧ va_D (va_A (wM cI cB cZ g cn In Fn) sz) (wM cI cB cZ g u.1 u.2.1 u.2.2)) (va_A (wM cI cB cZ g cn In Fn) sz)) 0 0 (va_A (wM cI cB cZ g cn In Fn) sz) := by
  refine en_w (fun A => (va_Qi (fun (r : Int32) (u : (Nat → Nat) × (Nat → Int32) × (Nat → Nat → Int32)) => (fun (r : Int32) (c2 : Nat → Nat) (I2 : Nat → Int32) (F2 : Nat → Nat → Int32) => Fr [] [] [37, 38] cn In Fn c2 I2 F2 ∧ IM c2 F2 ∧ (True)) r u.1 u.2.1 u.2.2) (fun (u : (Nat → Nat) × (Nat → Int32) × (Nat → Nat → Int32)) (t : State) => va_P D vwCl (wM cI cB cZ g u.1 u.2.1 u.2.2) t.heap ∧ va_D A (wM cI cB cZ g u.1 u.2.1 u.2.2)) A)) rfl rfl pn_RX12 (Nat.le_of_ble_eq_true rfl) (fun p e s m below meth c A hx hb hml hown S hr hlocks hnm hA hP hK hD hS ls hl => ?_)
  have hl : lv_has ls 5 [(0, .ref (g 100)), (1, .int v0), (2, .int v1)] := hl
  have hi_cn : Hid (CB cn) := hI.b
  refine lv_aload_n hx hb (oc_42 0 shX12_paid_0) rfl (lvA0 hl) ?_
  refine lv_iload_n hx hb (oc_27 1 (aq_1 shX12_paid_0)) rfl (lvA1 hl) ?_
  refine vp_callSi (runV_ra (As := [.int v0]) (rest := []) S (q_isKitchen l D cI cB cZ g cn In Fn v0 hI) kV_RX12_218 hK hP 0 rfl rfl rfl ⟨Nat.le_of_ble_eq_true rfl, Nat.le_of_ble_eq_true rfl⟩ ⟨Nat.le_of_ble_eq_true rfl, Nat.le_of_ble_eq_true rfl⟩ rfl hl.1 rfl (Nat.le_of_ble_eq_true rfl) (oc_182 2 (aq_2 shX12_paid_0) uw_0_218)) (fun r_1 h_2 => ?_)
  rcases h_2 with ⟨rfl, h_2⟩ | ⟨rfl, h_2⟩
  ·
    have h_2 : 0 ≤ v0.toInt ∧ v0.toInt < ((cn 1) : Int) := h_2
    refine lv_if_eq (tgt := 15) hx hb (oc_153 5 (aq_5 shX12_paid_0) sgw_0_10) rfl (fun h => absurd h cq_eq_1_0) (fun _ => ?_)
    obtain ⟨d0, hd0, rfl⟩ := nI_of (x := v0) (fun q => by have := Int32.lt_iff_toInt_lt.mp q; have e : (0 : Int32).toInt = 0 := rfl; (first | omega | (have zz0 := Hid.u hi_cn; omega)))
    have td0 : (nI d0).toInt = (d0 : Int) := nI_toInt hd0
    have zd0 : (nI d0).toInt.toNat = d0 := by (first | omega | (have zz0 := Hid.u hi_cn; omega))
    refine lv_iload_n hx hb (oc_28 8 (aq_8 shX12_paid_0)) rfl (lvA2 hl) ?_
    refine vp_callSi (runS_r (As := [.int v1]) (rest := []) S (q_isDay l D cI cB cZ v1 ) kS_RX12_341 hK hP [] rfl ⟨Nat.le_of_ble_eq_true rfl, Nat.le_of_ble_eq_true rfl⟩ ⟨Nat.le_of_ble_eq_true rfl, Nat.le_of_ble_eq_true rfl⟩ rfl hl.1 rfl (Nat.le_of_ble_eq_true rfl) (oc_184 9 (aq_9 shX12_paid_0) uw_1_85)) (fun r_3 h_4 => ?_)
    rcases h_4 with ⟨rfl, h_4⟩ | ⟨rfl, h_4⟩
    ·
      have h_4 : 0 ≤ v1.toInt ∧ v1.toInt ≤ 399 := h_4
      refine lv_if_ne (tgt := 17) hx hb (oc_154 12 (aq_12 shX12_paid_0) sgw_0_5) rfl (fun _ => ?_) (fun h => absurd h cq_eq_1_0)
      refine lv_iconst (v := 0) hx hb (oc_3 17 (aq_17 shX12_paid_0)) kic_0 ?_
      refine lv_istore_n (lv' := [(3, .int 0), (0, .ref (g 100)), (1, .int (nI d0)), (2, .int v1)]) hx hb (oc_62 18 (aq_18 shX12_paid_0)) rfl hl (ltb rfl) rfl (fun ls hl => ?_)
      refine lv_iconst (v := 0) hx hb (oc_3 19 (aq_19 shX12_paid_0)) kic_0 ?_
      refine lv_istore (lv' := [(4, .int 0), (3, .int 0), (0, .ref (g 100)), (1, .int (nI d0)), (2, .int v1)]) hx hb (oc_54 20 (aq_20 shX12_paid_0) ub_4) hl (ltb rfl) rfl (fun ls hl => ?_)
      have lp_22 : ∀ (n : Nat) (i22 : Nat) (x22_3 : Int32) (F22 : Nat → Nat → Int32) (H : Heap) (locs : List Loc) , cn 2 - i22 < n → (i22 ≤ cn 2 ∧ Fr [] [] [37, 38] cn In Fn cn In F22 ∧ IM cn F22) → va_P D vwCl (wM cI cB cZ g cn In F22) H → va_D A (wM cI cB cZ g cn In F22) → va_S A s.heap H locs → ∀ ls : Array Slot, lv_has ls 5 [(4, .int (nI i22)), (3, .int x22_3), (0, .ref (g 100)), (1, .int (nI d0)), (2, .int v1)] → W p l e (RM 3 0 0) s m ([.ref (g 100), .int (nI d0), .int v1]).toArray below meth c H locs 0 0 (MQ below (va_Qi (fun (r : Int32) (u : (Nat → Nat) × (Nat → Int32) × (Nat → Nat → Int32)) => (fun r c2 I2 F2 => Fr [] [] [37, 38] cn In Fn c2 I2 F2 ∧ IM c2 F2 ∧ (True)) r u.1 u.2.1 u.2.2) (fun (u : (Nat → Nat) × (Nat → Int32) × (Nat → Nat → Int32)) (t : State) => va_P D vwCl (wM cI cB cZ g u.1 u.2.1 u.2.2) t.heap ∧ va_D A (wM cI cB cZ g u.1 u.2.1 u.2.2)) A) ([.ref (g 100), .int (nI d0), .int v1]).toArray s 0 0 A) (F0 m 22 ls []) := by
        intro n22
        induction n22 with
        | zero => intros; (first | omega | (have zz0 := Hid.u hi_cn; omega))
        | succ n22 ih22 =>
          intro i22 x22_3 F22 H locs hmu22 hinv22 hP hD hS ls hl
          obtain ⟨hr22, hfr22, hI22⟩ := hinv22
          have ti22 : (nI i22).toInt = (i22 : Int) := nI_toInt (by (first | omega | (have zz0 := Hid.u hi_cn; omega)))
          have hi_cn : Hid (CB cn) := hI22.b
          refine lv_iload hx hb (oc_21 22 (aq_22 shX12_paid_0) ub_4) (lvA0 hl) ?_
          refine lv_aload_n hx hb (oc_42 24 shX12_paid_24) rfl (lvA2 hl) ?_
          refine gM_208 S hK hP (v := .int (nI (cn 2))) rfl (oc_180 25 (aq_1 shX12_paid_24) uw_0_208) ?_
          have : (nI (cn 2)).toInt = (((cn 2) : Nat) : Int) := nI_toInt (by (first | omega | (have zz0 := Hid.u hi_cn; omega)))
          refine lv_icmp_ge (tgt := 73) hx hb (oc_162 28 (aq_4 shX12_paid_24) sgw_0_45) rfl (fun c_5 => ?_) (fun c_5 => ?_)
          ·
            have tc_5 : ((nI (cn 2)).toInt : Int) ≤ (nI i22).toInt := Int32.le_iff_toInt_le.mp c_5
            refine lv_iload_n hx hb (oc_29 73 shX12_paid_73) rfl (lvA1 hl) ?_
            exact W.iret (v := x22_3) hx hb hr (fun t ht hW => ⟨⟨x22_3, (cn, In, F22), rfl, ⟨(Fr.mo hfr22 (sbl rfl) (sbl rfl) (sbl rfl)), hI22, trivial⟩, by rw [ht]; exact hP, hD⟩, hS.F ht⟩) hS.2.2 (oc_172 74 (aq_1 shX12_paid_73))
          ·
            have tc_5 : ((nI i22).toInt : Int) < (nI (cn 2)).toInt := Int32.lt_iff_toInt_lt.mp (Int32.not_le.mp c_5)
            refine lv_iload_n hx hb (oc_29 31 (aq_7 shX12_paid_24)) rfl (lvA1 hl) ?_
            refine lv_aload_n hx hb (oc_42 32 (aq_8 shX12_paid_24)) rfl (lvA2 hl) ?_
            refine gM_25 S hK hP (v := .ref (g 8)) rfl (oc_180 33 (aq_9 shX12_paid_24) uw_0_25) ?_
            refine lv_iload hx hb (oc_21 36 (aq_12 shX12_paid_24) ub_4) (lvA0 hl) ?_
            have kb_1 : i22 < 60 := by (first | omega | (have zz0 := Hid.u hi_cn; omega))
            obtain ⟨a_6, ha_6, ea_6⟩ := hI22.e8 i22 (by (first | omega | (have zz0 := Hid.u hi_cn; omega)))
            refine ldM_8 hx hb hK hP (x := (nI a_6)) (vp_in_nI kb_1 (ltb rfl)) (nI_clamp (Nat.lt_trans kb_1 (ltb rfl))) ea_6 (oc_46 38 (aq_14 shX12_paid_24)) ?_
            refine lv_iload_n hx hb (oc_27 39 (aq_15 shX12_paid_24)) rfl (lvA3 hl) ?_
            have : (nI a_6).toInt = ((a_6 : Nat) : Int) := nI_toInt (by (first | omega | (have zz0 := Hid.u hi_cn; omega)))
            refine lv_icmp_ne (tgt := 64) hx hb (oc_160 40 (aq_16 shX12_paid_24) sgw_0_24) rfl (fun c_7 => ?_) (fun c_7 => ?_)
            ·
              have tc_7 : ((nI a_6).toInt : Int) ≠ (nI d0).toInt := fun q => c_7 (Int32.toInt_inj.mp q)
              refine lv_iconst (v := 0) hx hb (oc_3 64 (aq_15 shX12_paid_49)) kic_0 ?_
              refine lv_iadd hx hb (oc_96 65 (aq_16 shX12_paid_49)) ?_
              refine lv_istore_n (lv' := [(3, .int (x22_3 + 0)), (4, .int (nI i22)), (0, .ref (g 100)), (1, .int (nI d0)), (2, .int v1)]) hx hb (oc_62 66 (aq_17 shX12_paid_49)) rfl hl (ltb rfl) rfl (fun ls hl => ?_)
              refine lv_iinc (v := (nI (i22 + 1))) (lv' := [(4, .int (nI (i22 + 1))), (3, .int (x22_3 + 0)), (0, .ref (g 100)), (1, .int (nI d0)), (2, .int v1)]) hx hb (oc_132 67 (aq_18 shX12_paid_49) ub_4 sgb_1) hl (k := 1) rfl (nI_1 _) (ltb rfl) rfl (fun ls hl => ?_)
              refine lv_goto (tgt := 22) hx hb (oc_167 70 (aq_21 shX12_paid_49) sgw_255_208) rfl ?_
              exact ih22 (i22 + 1) (x22_3 + 0) F22 _ _ (by (first | omega | (have zz0 := Hid.u hi_cn; omega))) ⟨(by (first | omega | (have zz0 := Hid.u hi_cn; omega))), (Fr.mo hfr22 (sbl rfl) (sbl rfl) (sbl rfl)), hI22⟩ hP hD hS ls (lv_sub hl [0, 1, 2, 3, 4] rfl)
            ·
              have tc_7 : ((nI a_6).toInt : Int) = (nI d0).toInt := congrArg Int32.toInt c_7
              refine lv_aload_n hx hb (oc_42 43 (aq_19 shX12_paid_24)) rfl (lvA2 hl) ?_
              refine gM_40 S hK hP (v := .ref (g 13)) rfl (oc_180 44 (aq_20 shX12_paid_24) uw_0_40) ?_
              refine lv_iload hx hb (oc_21 47 (aq_23 shX12_paid_24) ub_4) (lvA0 hl) ?_
              refine ldM_13 hx hb hK hP (x := ((F22 13) i22)) (vp_in_nI kb_1 (ltb rfl)) (nI_clamp (Nat.lt_trans kb_1 (ltb rfl))) rfl (oc_46 49 shX12_paid_49) ?_
              refine lv_iload_n hx hb (oc_28 50 (aq_1 shX12_paid_49)) rfl (lvA4 hl) ?_
              refine lv_icmp_gt (tgt := 64) hx hb (oc_163 51 (aq_2 shX12_paid_49) sgw_0_13) rfl (fun c_8 => ?_) (fun c_8 => ?_)
              ·
                have tc_8 : (v1.toInt : Int) < ((F22 13) i22).toInt := Int32.lt_iff_toInt_lt.mp c_8
                refine lv_iconst (v := 0) hx hb (oc_3 64 (aq_15 shX12_paid_49)) kic_0 ?_
                refine lv_iadd hx hb (oc_96 65 (aq_16 shX12_paid_49)) ?_
                refine lv_istore_n (lv' := [(3, .int (x22_3 + 0)), (4, .int (nI i22)), (0, .ref (g 100)), (1, .int (nI d0)), (2, .int v1)]) hx hb (oc_62 66 (aq_17 shX12_paid_49)) rfl hl (ltb rfl) rfl (fun ls hl => ?_)
                refine lv_iinc (v := (nI (i22 + 1))) (lv' := [(4, .int (nI (i22 + 1))), (3, .int (x22_3 + 0)), (0, .ref (g 100)), (1, .int (nI d0)), (2, .int v1)]) hx hb (oc_132 67 (aq_18 shX12_paid_49) ub_4 sgb_1) hl (k := 1) rfl (nI_1 _) (ltb rfl) rfl (fun ls hl => ?_)
                refine lv_goto (tgt := 22) hx hb (oc_167 70 (aq_21 shX12_paid_49) sgw_255_208) rfl ?_
                exact ih22 (i22 + 1) (x22_3 + 0) F22 _ _ (by (first | omega | (have zz0 := Hid.u hi_cn; omega))) ⟨(by (first | omega | (have zz0 := Hid.u hi_cn; omega))), (Fr.mo hfr22 (sbl rfl) (sbl rfl) (sbl rfl)), hI22⟩ hP hD hS ls (lv_sub hl [0, 1, 2, 3, 4] rfl)
              ·
                have tc_8 : (((F22 13) i22).toInt : Int) ≤ v1.toInt := Int32.le_iff_toInt_le.mp (Int32.not_lt.mp c_8)
                refine lv_aload_n hx hb (oc_42 54 (aq_5 shX12_paid_49)) rfl (lvA2 hl) ?_
                refine lv_iload hx hb (oc_21 55 (aq_6 shX12_paid_49) ub_4) (lvA0 hl) ?_
                refine lv_iload_n hx hb (oc_27 57 (aq_8 shX12_paid_49)) rfl (lvA3 hl) ?_
                have hFc := free_all hD hS hA
                refine va_calli (runV_a (As := [.int (nI i22), .int (nI d0)]) (rest := [.int x22_3]) S (q_penceFor l D cI cB cZ g cn In F22 i22 d0 H.size hI22 (by (first | omega | (have zz0 := Hid.u hi_cn; omega))) (by (first | omega | (have zz0 := Hid.u hi_cn; omega)))) kV_RX12_338 hK hP hD 0 rfl rfl rfl ⟨Nat.le_of_ble_eq_true rfl, Nat.le_of_ble_eq_true rfl⟩ ⟨Nat.le_of_ble_eq_true rfl, Nat.le_of_ble_eq_true rfl⟩ rfl hl.1 rfl (Nat.le_of_ble_eq_true rfl) (oc_182 58 (aq_9 shX12_paid_49) uw_1_82)) hS (fun q _ h => hFc q h) hFc (fun r_9 u t H1 locs ht hvm wh_10 hB hz1 hk1 hS => ?_)
                obtain ⟨cn10, In10, Fn10⟩ := u
                obtain ⟨hP1, hD1⟩ := hB
                rw [ht] at hP1
                have hP : va_P D vwCl (wM cI cB cZ g cn10 In10 Fn10) H1 := hP1
                have hD : va_D A (wM cI cB cZ g cn10 In10 Fn10) := hD1.weaken (fun _ _ _ h => hFc _ h)
                generalize H1 = H at hP hS ⊢
                have vh_10 : (fun r c2 I2 F2 => Fr [] [] [37, 38] cn In F22 c2 I2 F2 ∧ IM c2 F2 ∧ (True)) r_9 cn10 In10 Fn10 := wh_10
                obtain ⟨hfc10, hIn10, h_10⟩ := vh_10
                obtain rfl : cn = cn10 := (funext (fun k => hfc10.1 k List.not_mem_nil)).symm
                obtain rfl : In = In10 := (funext (fun k => hfc10.2.1 k List.not_mem_nil)).symm
                have hf10 : Fr [] [] [37, 38] cn In Fn cn In Fn10 := Fr.mo (Fr.tr hfr22 hfc10) (sbl rfl) (sbl rfl) (sbl rfl)
                have hi_cn : Hid (CB cn) := hIn10.b
                refine lv_goto (tgt := 65) hx hb (oc_167 61 (aq_12 shX12_paid_49) sgw_0_4) rfl ?_
                refine lv_iadd hx hb (oc_96 65 (aq_16 shX12_paid_49)) ?_
                refine lv_istore_n (lv' := [(3, .int (x22_3 + r_9)), (4, .int (nI i22)), (0, .ref (g 100)), (1, .int (nI d0)), (2, .int v1)]) hx hb (oc_62 66 (aq_17 shX12_paid_49)) rfl hl (ltb rfl) rfl (fun ls hl => ?_)
                refine lv_iinc (v := (nI (i22 + 1))) (lv' := [(4, .int (nI (i22 + 1))), (3, .int (x22_3 + r_9)), (0, .ref (g 100)), (1, .int (nI d0)), (2, .int v1)]) hx hb (oc_132 67 (aq_18 shX12_paid_49) ub_4 sgb_1) hl (k := 1) rfl (nI_1 _) (ltb rfl) rfl (fun ls hl => ?_)
                refine lv_goto (tgt := 22) hx hb (oc_167 70 (aq_21 shX12_paid_49) sgw_255_208) rfl ?_
                exact ih22 (i22 + 1) (x22_3 + r_9) Fn10 _ _ (by (first | omega | (have zz0 := Hid.u hi_cn; omega))) ⟨(by (first | omega | (have zz0 := Hid.u hi_cn; omega))), (Fr.mo hf10 (sbl rfl) (sbl rfl) (sbl rfl)), hIn10⟩ hP hD hS ls (lv_sub hl [0, 1, 2, 3, 4] rfl)
      exact lp_22 _ 0 0 Fn _ _ (Nat.lt_succ_self _) ⟨(by (first | omega | (have zz0 := Hid.u hi_cn; omega))), (Fr.mo Fr.rf (sbl rfl) (sbl rfl) (sbl rfl)), hI⟩ hP hD hS ls (lv_sub hl [0, 1, 2, 3, 4] rfl)
    ·
      have h_4 : ¬ (0 ≤ v1.toInt ∧ v1.toInt ≤ 399) := h_4
      refine lv_if_ne (tgt := 17) hx hb (oc_154 12 (aq_12 shX12_paid_0) sgw_0_5) rfl (fun h => absurd h cq_eq_0_0) (fun _ => ?_)
      refine lv_iconst (v := (-1)) hx hb (oc_2 15 (aq_15 shX12_paid_0)) kic_m1 ?_
      exact W.iret (v := (-1)) hx hb hr (fun t ht hW => ⟨⟨(-1), (cn, In, Fn), rfl, ⟨(Fr.mo Fr.rf (sbl rfl) (sbl rfl) (sbl rfl)), hI, trivial⟩, by rw [ht]; exact hP, hD⟩, hS.F ht⟩) hS.2.2 (oc_172 16 (aq_16 shX12_paid_0))
  ·
    have h_2 : ¬ (0 ≤ v0.toInt ∧ v0.toInt < ((cn 1) : Int)) := h_2
    refine lv_if_eq (tgt := 15) hx hb (oc_153 5 (aq_5 shX12_paid_0) sgw_0_10) rfl (fun _ => ?_) (fun h => absurd h cq_eq_0_0)
    refine lv_iconst (v := (-1)) hx hb (oc_2 15 (aq_15 shX12_paid_0)) kic_m1 ?_
    exact W.iret (v := (-1)) hx hb hr (fun t ht hW => ⟨⟨(-1), (cn, In, Fn), rfl, ⟨(Fr.mo Fr.rf (sbl rfl) (sbl rfl) (sbl rfl)), hI, trivial⟩, by rw [ht]; exact hP, hD⟩, hS.F ht⟩) hS.2.2 (oc_172 16 (aq_16 shX12_paid_0))
set_option maxRecDepth 100000 in
set_option maxHeartbeats 4000000 in
theorem q_asIf (l : Launch) (D : va_G) (cI cB cZ : ClassId) (g : Nat → Nat) (cn : Nat → Nat) (In : Nat → Int32) (Fn : Nat → Nat → Int32) (v0 v1 : Int32) (sz : Nat) (hI : IM cn Fn) : Met l yX12_asIf (CWS yX12_asIf cX12_asIf 5 (some .int)) (RM 3 0 0) (PBw [.ref (g 100), .int v0, .int v1] D cI cB cZ (wM cI cB cZ g cn In Fn) sz) (va_Qi (fun (r : Int32) (u : (Nat → Nat) × (Nat → Int32) × (Nat → Nat → Int32)) => (fun r c2 I2 F2 => Fr [] [] [37, 38] cn In Fn c2 I2 F2 ∧ IM c2 F2 ∧ (True)) r u.1 u.2.1 u.2.2) (fun (u : (Nat → Nat) × (Nat → Int32) × (Nat → Nat → Int32)) (t : State) => va_P D vwCl (wM cI cB cZ g u.1 u.2.1 u.2.2) t.heap ∧ va_D (va_A (wM cI cB cZ g cn In Fn) sz) (wM cI cB cZ g u.1 u.2.1 u.2.2)) (va_A (wM cI cB cZ g cn In Fn) sz)) 0 0 (va_A (wM cI cB cZ g cn In Fn) sz) := by
  refine en_w (fun A => (va_Qi (fun (r : Int32) (u : (Nat → Nat) × (Nat → Int32) × (Nat → Nat → Int32)) => (fun (r : Int32) (c2 : Nat → Nat) (I2 : Nat → Int32) (F2 : Nat → Nat → Int32) => Fr [] [] [37, 38] cn In Fn c2 I2 F2 ∧ IM c2 F2 ∧ (True)) r u.1 u.2.1 u.2.2) (fun (u : (Nat → Nat) × (Nat → Int32) × (Nat → Nat → Int32)) (t : State) => va_P D vwCl (wM cI cB cZ g u.1 u.2.1 u.2.2) t.heap ∧ va_D A (wM cI cB cZ g u.1 u.2.1 u.2.2)) A)) rfl rfl pn_RX12 (Nat.le_of_ble_eq_true rfl) (fun p e s m below meth c A hx hb hml hown S hr hlocks hnm hA hP hK hD hS ls hl => ?_)
  have hl : lv_has ls 5 [(0, .ref (g 100)), (1, .int v0), (2, .int v1)] := hl
  have hi_cn : Hid (CB cn) := hI.b
  refine lv_aload_n hx hb (oc_42 0 shX12_asIf_0) rfl (lvA0 hl) ?_
  refine lv_iload_n hx hb (oc_27 1 (aq_1 shX12_asIf_0)) rfl (lvA1 hl) ?_
  refine vp_callSi (runV_ra (As := [.int v0]) (rest := []) S (q_isKitchen l D cI cB cZ g cn In Fn v0 hI) kV_RX12_218 hK hP 0 rfl rfl rfl ⟨Nat.le_of_ble_eq_true rfl, Nat.le_of_ble_eq_true rfl⟩ ⟨Nat.le_of_ble_eq_true rfl, Nat.le_of_ble_eq_true rfl⟩ rfl hl.1 rfl (Nat.le_of_ble_eq_true rfl) (oc_182 2 (aq_2 shX12_asIf_0) uw_0_218)) (fun r_1 h_2 => ?_)
  rcases h_2 with ⟨rfl, h_2⟩ | ⟨rfl, h_2⟩
  ·
    have h_2 : 0 ≤ v0.toInt ∧ v0.toInt < ((cn 1) : Int) := h_2
    refine lv_if_eq (tgt := 16) hx hb (oc_153 5 (aq_5 shX12_asIf_0) sgw_0_11) rfl (fun h => absurd h cq_eq_1_0) (fun _ => ?_)
    refine lv_aload_n hx hb (oc_42 8 (aq_8 shX12_asIf_0)) rfl (lvA0 hl) ?_
    refine lv_iload_n hx hb (oc_28 9 (aq_9 shX12_asIf_0)) rfl (lvA2 hl) ?_
    refine vp_callSi (runV_ra (As := [.int v1]) (rest := []) S (q_isKitchen l D cI cB cZ g cn In Fn v1 hI) kV_RX12_218 hK hP 0 rfl rfl rfl ⟨Nat.le_of_ble_eq_true rfl, Nat.le_of_ble_eq_true rfl⟩ ⟨Nat.le_of_ble_eq_true rfl, Nat.le_of_ble_eq_true rfl⟩ rfl hl.1 rfl (Nat.le_of_ble_eq_true rfl) (oc_182 10 (aq_10 shX12_asIf_0) uw_0_218)) (fun r_3 h_4 => ?_)
    rcases h_4 with ⟨rfl, h_4⟩ | ⟨rfl, h_4⟩
    ·
      have h_4 : 0 ≤ v1.toInt ∧ v1.toInt < ((cn 1) : Int) := h_4
      refine lv_if_ne (tgt := 18) hx hb (oc_154 13 (aq_13 shX12_asIf_0) sgw_0_5) rfl (fun _ => ?_) (fun h => absurd h cq_eq_1_0)
      obtain ⟨d0, hd0, rfl⟩ := nI_of (x := v0) (fun q => by have := Int32.lt_iff_toInt_lt.mp q; have e : (0 : Int32).toInt = 0 := rfl; (first | omega | (have zz0 := Hid.u hi_cn; omega)))
      have td0 : (nI d0).toInt = (d0 : Int) := nI_toInt hd0
      have zd0 : (nI d0).toInt.toNat = d0 := by (first | omega | (have zz0 := Hid.u hi_cn; omega))
      obtain ⟨d1, hd1, rfl⟩ := nI_of (x := v1) (fun q => by have := Int32.lt_iff_toInt_lt.mp q; have e : (0 : Int32).toInt = 0 := rfl; (first | omega | (have zz0 := Hid.u hi_cn; omega)))
      have td1 : (nI d1).toInt = (d1 : Int) := nI_toInt hd1
      have zd1 : (nI d1).toInt.toNat = d1 := by (first | omega | (have zz0 := Hid.u hi_cn; omega))
      refine lv_iconst (v := 0) hx hb (oc_3 18 (aq_18 shX12_asIf_0)) kic_0 ?_
      refine lv_istore_n (lv' := [(3, .int 0), (0, .ref (g 100)), (1, .int (nI d0)), (2, .int (nI d1))]) hx hb (oc_62 19 (aq_19 shX12_asIf_0)) rfl hl (ltb rfl) rfl (fun ls hl => ?_)
      refine lv_iconst (v := 0) hx hb (oc_3 20 (aq_20 shX12_asIf_0)) kic_0 ?_
      refine lv_istore (lv' := [(4, .int 0), (3, .int 0), (0, .ref (g 100)), (1, .int (nI d0)), (2, .int (nI d1))]) hx hb (oc_54 21 (aq_21 shX12_asIf_0) ub_4) hl (ltb rfl) rfl (fun ls hl => ?_)
      have lp_23 : ∀ (n : Nat) (i23 : Nat) (x23_3 : Int32) (F23 : Nat → Nat → Int32) (H : Heap) (locs : List Loc) , cn 2 - i23 < n → (i23 ≤ cn 2 ∧ Fr [] [] [37, 38] cn In Fn cn In F23 ∧ IM cn F23) → va_P D vwCl (wM cI cB cZ g cn In F23) H → va_D A (wM cI cB cZ g cn In F23) → va_S A s.heap H locs → ∀ ls : Array Slot, lv_has ls 5 [(4, .int (nI i23)), (3, .int x23_3), (0, .ref (g 100)), (1, .int (nI d0)), (2, .int (nI d1))] → W p l e (RM 3 0 0) s m ([.ref (g 100), .int (nI d0), .int (nI d1)]).toArray below meth c H locs 0 0 (MQ below (va_Qi (fun (r : Int32) (u : (Nat → Nat) × (Nat → Int32) × (Nat → Nat → Int32)) => (fun r c2 I2 F2 => Fr [] [] [37, 38] cn In Fn c2 I2 F2 ∧ IM c2 F2 ∧ (True)) r u.1 u.2.1 u.2.2) (fun (u : (Nat → Nat) × (Nat → Int32) × (Nat → Nat → Int32)) (t : State) => va_P D vwCl (wM cI cB cZ g u.1 u.2.1 u.2.2) t.heap ∧ va_D A (wM cI cB cZ g u.1 u.2.1 u.2.2)) A) ([.ref (g 100), .int (nI d0), .int (nI d1)]).toArray s 0 0 A) (F0 m 23 ls []) := by
        intro n23
        induction n23 with
        | zero => intros; (first | omega | (have zz0 := Hid.u hi_cn; omega))
        | succ n23 ih23 =>
          intro i23 x23_3 F23 H locs hmu23 hinv23 hP hD hS ls hl
          obtain ⟨hr23, hfr23, hI23⟩ := hinv23
          have ti23 : (nI i23).toInt = (i23 : Int) := nI_toInt (by (first | omega | (have zz0 := Hid.u hi_cn; omega)))
          have hi_cn : Hid (CB cn) := hI23.b
          refine lv_iload hx hb (oc_21 23 (aq_23 shX12_asIf_0) ub_4) (lvA0 hl) ?_
          refine lv_aload_n hx hb (oc_42 25 shX12_asIf_25) rfl (lvA2 hl) ?_
          refine gM_208 S hK hP (v := .int (nI (cn 2))) rfl (oc_180 26 (aq_1 shX12_asIf_25) uw_0_208) ?_
          have : (nI (cn 2)).toInt = (((cn 2) : Nat) : Int) := nI_toInt (by (first | omega | (have zz0 := Hid.u hi_cn; omega)))
          refine lv_icmp_ge (tgt := 63) hx hb (oc_162 29 (aq_4 shX12_asIf_25) sgw_0_34) rfl (fun c_5 => ?_) (fun c_5 => ?_)
          ·
            have tc_5 : ((nI (cn 2)).toInt : Int) ≤ (nI i23).toInt := Int32.le_iff_toInt_le.mp c_5
            refine lv_iload_n hx hb (oc_29 63 (aq_12 shX12_asIf_51)) rfl (lvA1 hl) ?_
            exact W.iret (v := x23_3) hx hb hr (fun t ht hW => ⟨⟨x23_3, (cn, In, F23), rfl, ⟨(Fr.mo hfr23 (sbl rfl) (sbl rfl) (sbl rfl)), hI23, trivial⟩, by rw [ht]; exact hP, hD⟩, hS.F ht⟩) hS.2.2 (oc_172 64 (aq_13 shX12_asIf_51))
          ·
            have tc_5 : ((nI i23).toInt : Int) < (nI (cn 2)).toInt := Int32.lt_iff_toInt_lt.mp (Int32.not_le.mp c_5)
            refine lv_iload_n hx hb (oc_29 32 (aq_7 shX12_asIf_25)) rfl (lvA1 hl) ?_
            refine lv_aload_n hx hb (oc_42 33 (aq_8 shX12_asIf_25)) rfl (lvA2 hl) ?_
            refine gM_25 S hK hP (v := .ref (g 8)) rfl (oc_180 34 (aq_9 shX12_asIf_25) uw_0_25) ?_
            refine lv_iload hx hb (oc_21 37 (aq_12 shX12_asIf_25) ub_4) (lvA0 hl) ?_
            have kb_1 : i23 < 60 := by (first | omega | (have zz0 := Hid.u hi_cn; omega))
            obtain ⟨a_6, ha_6, ea_6⟩ := hI23.e8 i23 (by (first | omega | (have zz0 := Hid.u hi_cn; omega)))
            refine ldM_8 hx hb hK hP (x := (nI a_6)) (vp_in_nI kb_1 (ltb rfl)) (nI_clamp (Nat.lt_trans kb_1 (ltb rfl))) ea_6 (oc_46 39 (aq_14 shX12_asIf_25)) ?_
            refine lv_iload_n hx hb (oc_27 40 (aq_15 shX12_asIf_25)) rfl (lvA3 hl) ?_
            have : (nI a_6).toInt = ((a_6 : Nat) : Int) := nI_toInt (by (first | omega | (have zz0 := Hid.u hi_cn; omega)))
            refine lv_icmp_ne (tgt := 54) hx hb (oc_160 41 (aq_16 shX12_asIf_25) sgw_0_13) rfl (fun c_7 => ?_) (fun c_7 => ?_)
            ·
              have tc_7 : ((nI a_6).toInt : Int) ≠ (nI d0).toInt := fun q => c_7 (Int32.toInt_inj.mp q)
              refine lv_iconst (v := 0) hx hb (oc_3 54 (aq_3 shX12_asIf_51)) kic_0 ?_
              refine lv_iadd hx hb (oc_96 55 (aq_4 shX12_asIf_51)) ?_
              refine lv_istore_n (lv' := [(3, .int (x23_3 + 0)), (4, .int (nI i23)), (0, .ref (g 100)), (1, .int (nI d0)), (2, .int (nI d1))]) hx hb (oc_62 56 (aq_5 shX12_asIf_51)) rfl hl (ltb rfl) rfl (fun ls hl => ?_)
              refine lv_iinc (v := (nI (i23 + 1))) (lv' := [(4, .int (nI (i23 + 1))), (3, .int (x23_3 + 0)), (0, .ref (g 100)), (1, .int (nI d0)), (2, .int (nI d1))]) hx hb (oc_132 57 (aq_6 shX12_asIf_51) ub_4 sgb_1) hl (k := 1) rfl (nI_1 _) (ltb rfl) rfl (fun ls hl => ?_)
              refine lv_goto (tgt := 23) hx hb (oc_167 60 (aq_9 shX12_asIf_51) sgw_255_219) rfl ?_
              exact ih23 (i23 + 1) (x23_3 + 0) F23 _ _ (by (first | omega | (have zz0 := Hid.u hi_cn; omega))) ⟨(by (first | omega | (have zz0 := Hid.u hi_cn; omega))), (Fr.mo hfr23 (sbl rfl) (sbl rfl) (sbl rfl)), hI23⟩ hP hD hS ls (lv_sub hl [0, 1, 2, 3, 4] rfl)
            ·
              have tc_7 : ((nI a_6).toInt : Int) = (nI d0).toInt := congrArg Int32.toInt c_7
              refine lv_aload_n hx hb (oc_42 44 (aq_19 shX12_asIf_25)) rfl (lvA2 hl) ?_
              refine lv_iload hx hb (oc_21 45 (aq_20 shX12_asIf_25) ub_4) (lvA0 hl) ?_
              refine lv_iload_n hx hb (oc_28 47 (aq_22 shX12_asIf_25)) rfl (lvA4 hl) ?_
              have hFc := free_all hD hS hA
              refine va_calli (runV_a (As := [.int (nI i23), .int (nI d1)]) (rest := [.int x23_3]) S (q_penceFor l D cI cB cZ g cn In F23 i23 d1 H.size hI23 (by (first | omega | (have zz0 := Hid.u hi_cn; omega))) (by (first | omega | (have zz0 := Hid.u hi_cn; omega)))) kV_RX12_338 hK hP hD 0 rfl rfl rfl ⟨Nat.le_of_ble_eq_true rfl, Nat.le_of_ble_eq_true rfl⟩ ⟨Nat.le_of_ble_eq_true rfl, Nat.le_of_ble_eq_true rfl⟩ rfl hl.1 rfl (Nat.le_of_ble_eq_true rfl) (oc_182 48 (aq_23 shX12_asIf_25) uw_1_82)) hS (fun q _ h => hFc q h) hFc (fun r_8 u t H1 locs ht hvm wh_9 hB hz1 hk1 hS => ?_)
              obtain ⟨cn9, In9, Fn9⟩ := u
              obtain ⟨hP1, hD1⟩ := hB
              rw [ht] at hP1
              have hP : va_P D vwCl (wM cI cB cZ g cn9 In9 Fn9) H1 := hP1
              have hD : va_D A (wM cI cB cZ g cn9 In9 Fn9) := hD1.weaken (fun _ _ _ h => hFc _ h)
              generalize H1 = H at hP hS ⊢
              have vh_9 : (fun r c2 I2 F2 => Fr [] [] [37, 38] cn In F23 c2 I2 F2 ∧ IM c2 F2 ∧ (True)) r_8 cn9 In9 Fn9 := wh_9
              obtain ⟨hfc9, hIn9, h_9⟩ := vh_9
              obtain rfl : cn = cn9 := (funext (fun k => hfc9.1 k List.not_mem_nil)).symm
              obtain rfl : In = In9 := (funext (fun k => hfc9.2.1 k List.not_mem_nil)).symm
              have hf9 : Fr [] [] [37, 38] cn In Fn cn In Fn9 := Fr.mo (Fr.tr hfr23 hfc9) (sbl rfl) (sbl rfl) (sbl rfl)
              have hi_cn : Hid (CB cn) := hIn9.b
              refine lv_goto (tgt := 55) hx hb (oc_167 51 shX12_asIf_51 sgw_0_4) rfl ?_
              refine lv_iadd hx hb (oc_96 55 (aq_4 shX12_asIf_51)) ?_
              refine lv_istore_n (lv' := [(3, .int (x23_3 + r_8)), (4, .int (nI i23)), (0, .ref (g 100)), (1, .int (nI d0)), (2, .int (nI d1))]) hx hb (oc_62 56 (aq_5 shX12_asIf_51)) rfl hl (ltb rfl) rfl (fun ls hl => ?_)
              refine lv_iinc (v := (nI (i23 + 1))) (lv' := [(4, .int (nI (i23 + 1))), (3, .int (x23_3 + r_8)), (0, .ref (g 100)), (1, .int (nI d0)), (2, .int (nI d1))]) hx hb (oc_132 57 (aq_6 shX12_asIf_51) ub_4 sgb_1) hl (k := 1) rfl (nI_1 _) (ltb rfl) rfl (fun ls hl => ?_)
              refine lv_goto (tgt := 23) hx hb (oc_167 60 (aq_9 shX12_asIf_51) sgw_255_219) rfl ?_
              exact ih23 (i23 + 1) (x23_3 + r_8) Fn9 _ _ (by (first | omega | (have zz0 := Hid.u hi_cn; omega))) ⟨(by (first | omega | (have zz0 := Hid.u hi_cn; omega))), (Fr.mo hf9 (sbl rfl) (sbl rfl) (sbl rfl)), hIn9⟩ hP hD hS ls (lv_sub hl [0, 1, 2, 3, 4] rfl)
      exact lp_23 _ 0 0 Fn _ _ (Nat.lt_succ_self _) ⟨(by (first | omega | (have zz0 := Hid.u hi_cn; omega))), (Fr.mo Fr.rf (sbl rfl) (sbl rfl) (sbl rfl)), hI⟩ hP hD hS ls (lv_sub hl [0, 1, 2, 3, 4] rfl)
    ·
      have h_4 : ¬ (0 ≤ v1.toInt ∧ v1.toInt < ((cn 1) : Int)) := h_4
      refine lv_if_ne (tgt := 18) hx hb (oc_154 13 (aq_13 shX12_asIf_0) sgw_0_5) rfl (fun h => absurd h cq_eq_0_0) (fun _ => ?_)
      refine lv_iconst (v := (-1)) hx hb (oc_2 16 (aq_16 shX12_asIf_0)) kic_m1 ?_
      exact W.iret (v := (-1)) hx hb hr (fun t ht hW => ⟨⟨(-1), (cn, In, Fn), rfl, ⟨(Fr.mo Fr.rf (sbl rfl) (sbl rfl) (sbl rfl)), hI, trivial⟩, by rw [ht]; exact hP, hD⟩, hS.F ht⟩) hS.2.2 (oc_172 17 (aq_17 shX12_asIf_0))
  ·
    have h_2 : ¬ (0 ≤ v0.toInt ∧ v0.toInt < ((cn 1) : Int)) := h_2
    refine lv_if_eq (tgt := 16) hx hb (oc_153 5 (aq_5 shX12_asIf_0) sgw_0_11) rfl (fun _ => ?_) (fun h => absurd h cq_eq_0_0)
    refine lv_iconst (v := (-1)) hx hb (oc_2 16 (aq_16 shX12_asIf_0)) kic_m1 ?_
    exact W.iret (v := (-1)) hx hb hr (fun t ht hW => ⟨⟨(-1), (cn, In, Fn), rfl, ⟨(Fr.mo Fr.rf (sbl rfl) (sbl rfl) (sbl rfl)), hI, trivial⟩, by rw [ht]; exact hP, hD⟩, hS.F ht⟩) hS.2.2 (oc_172 17 (aq_17 shX12_asIf_0))
set_option maxRecDepth 100000 in
set_option maxHeartbeats 4000000 in
theorem q_whyNot (l : Launch) (D : va_G) (cI cB cZ : ClassId) (g : Nat → Nat) (cn : Nat → Nat) (In : Nat → Int32) (Fn : Nat → Nat → Int32) (v0 : Int32) (sz : Nat) (hI : IM cn Fn) : Met l yX12_whyNot (CWS yX12_whyNot cX12_whyNot 3 (some .int)) (RM 2 0 0) (PBw [.ref (g 100), .int v0] D cI cB cZ (wM cI cB cZ g cn In Fn) sz) (va_Qi (fun (r : Int32) (u : (Nat → Nat) × (Nat → Int32) × (Nat → Nat → Int32)) => (fun r c2 I2 F2 => Fr [] [71, 72, 73] [37, 38] cn In Fn c2 I2 F2 ∧ IM c2 F2 ∧ (True)) r u.1 u.2.1 u.2.2) (fun (u : (Nat → Nat) × (Nat → Int32) × (Nat → Nat → Int32)) (t : State) => va_P D vwCl (wM cI cB cZ g u.1 u.2.1 u.2.2) t.heap ∧ va_D (va_A (wM cI cB cZ g cn In Fn) sz) (wM cI cB cZ g u.1 u.2.1 u.2.2)) (va_A (wM cI cB cZ g cn In Fn) sz)) 0 0 (va_A (wM cI cB cZ g cn In Fn) sz) := by
  refine en_w (fun A => (va_Qi (fun (r : Int32) (u : (Nat → Nat) × (Nat → Int32) × (Nat → Nat → Int32)) => (fun (r : Int32) (c2 : Nat → Nat) (I2 : Nat → Int32) (F2 : Nat → Nat → Int32) => Fr [] [71, 72, 73] [37, 38] cn In Fn c2 I2 F2 ∧ IM c2 F2 ∧ (True)) r u.1 u.2.1 u.2.2) (fun (u : (Nat → Nat) × (Nat → Int32) × (Nat → Nat → Int32)) (t : State) => va_P D vwCl (wM cI cB cZ g u.1 u.2.1 u.2.2) t.heap ∧ va_D A (wM cI cB cZ g u.1 u.2.1 u.2.2)) A)) rfl rfl pn_RX12 (Nat.le_of_ble_eq_true rfl) (fun p e s m below meth c A hx hb hml hown S hr hlocks hnm hA hP hK hD hS ls hl => ?_)
  have hl : lv_has ls 3 [(0, .ref (g 100)), (1, .int v0)] := hl
  have hi_cn : Hid (CB cn) := hI.b
  refine lv_aload_n hx hb (oc_42 0 shX12_whyNot_0) rfl (lvA0 hl) ?_
  refine lv_iload_n hx hb (oc_27 1 (aq_1 shX12_whyNot_0)) rfl (lvA1 hl) ?_
  have hFc := free_all hD hS hA
  refine va_callv (runV_a (As := [.int v0]) (rest := []) S (q_mixes l D cI cB cZ g cn In Fn v0 s.heap.size hI) kV_RX12_428 hK hP hD 0 rfl rfl rfl ⟨Nat.le_of_ble_eq_true rfl, Nat.le_of_ble_eq_true rfl⟩ ⟨Nat.le_of_ble_eq_true rfl, Nat.le_of_ble_eq_true rfl⟩ rfl hl.1 rfl (Nat.le_of_ble_eq_true rfl) (oc_182 2 (aq_2 shX12_whyNot_0) uw_1_172)) hS (fun q _ h => hFc q h) hFc (fun u t H1 locs ht hvm wh_2 hB hz1 hk1 hS => ?_)
  obtain ⟨cn2, In2, Fn2⟩ := u
  obtain ⟨hP1, hD1⟩ := hB
  rw [ht] at hP1
  have hP : va_P D vwCl (wM cI cB cZ g cn2 In2 Fn2) H1 := hP1
  have hD : va_D A (wM cI cB cZ g cn2 In2 Fn2) := hD1.weaken (fun _ _ _ h => hFc _ h)
  generalize H1 = H at hP hS ⊢
  have vh_2 : (fun c2 I2 F2 => Fr [] [71, 72, 73] [] cn In Fn c2 I2 F2 ∧ IM c2 F2 ∧ (I2 71 = nI (mixN ((Fn 10)) v0 20))) cn2 In2 Fn2 := wh_2
  obtain ⟨hfc2, hIn2, h_2⟩ := vh_2
  obtain rfl : cn = cn2 := (funext (fun k => hfc2.1 k List.not_mem_nil)).symm
  obtain rfl : Fn = Fn2 := (funext (fun k => hfc2.2.2 k List.not_mem_nil)).symm
  have hf2 : Fr [] [71, 72, 73] [37, 38] cn In Fn cn In2 Fn := Fr.mo (Fr.tr (Fr.rf (cn := cn) (In := In) (Fn := Fn)) hfc2) (sbl rfl) (sbl rfl) (sbl rfl)
  have hi_cn : Hid (CB cn) := hIn2.b
  refine lv_aload_n hx hb (oc_42 5 (aq_5 shX12_whyNot_0)) rfl (lvA0 hl) ?_
  refine gM_89 S hK hP (v := .ref (g 38)) rfl (oc_180 6 (aq_6 shX12_whyNot_0) uw_0_89) ?_
  refine lv_iconst (v := 0) hx hb (oc_3 9 (aq_9 shX12_whyNot_0)) kic_0 ?_
  refine lv_aload_n hx hb (oc_42 10 (aq_10 shX12_whyNot_0)) rfl (lvA0 hl) ?_
  refine gM_419 S hK hP (v := .int (In2 71)) rfl (oc_180 11 (aq_11 shX12_whyNot_0) uw_1_163) ?_
  refine stM_38 hx hb hK hP hD hS (Fn2 := (va_up Fn 38 (upd (Fn 38) 0 (In2 71)))) (by unfold vp_in; decide) (by decide) rfl (oc_79 14 (aq_14 shX12_whyNot_0)) (fun H locs hP hD hS => ?_)
  refine lv_aload_n hx hb (oc_42 15 (aq_15 shX12_whyNot_0)) rfl (lvA0 hl) ?_
  refine gM_89 S hK hP (v := .ref (g 38)) rfl (oc_180 16 (aq_16 shX12_whyNot_0) uw_0_89) ?_
  refine lv_iconst (v := 1) hx hb (oc_4 19 (aq_19 shX12_whyNot_0)) kic_1 ?_
  refine lv_aload_n hx hb (oc_42 20 (aq_20 shX12_whyNot_0)) rfl (lvA0 hl) ?_
  refine gM_422 S hK hP (v := .int (In2 72)) rfl (oc_180 21 (aq_21 shX12_whyNot_0) uw_1_166) ?_
  refine stM_38 hx hb hK hP hD hS (Fn2 := (va_up Fn 38 (upd (upd (Fn 38) 0 (In2 71)) 1 (In2 72)))) (by unfold vp_in; decide) (by decide) (bx_uu _ _ _ _) (oc_79 24 shX12_whyNot_24) (fun H locs hP hD hS => ?_)
  refine lv_aload_n hx hb (oc_42 25 (aq_1 shX12_whyNot_24)) rfl (lvA0 hl) ?_
  refine gM_89 S hK hP (v := .ref (g 38)) rfl (oc_180 26 (aq_2 shX12_whyNot_24) uw_0_89) ?_
  refine lv_iconst (v := 2) hx hb (oc_5 29 (aq_5 shX12_whyNot_24)) kic_2 ?_
  refine lv_aload_n hx hb (oc_42 30 (aq_6 shX12_whyNot_24)) rfl (lvA0 hl) ?_
  refine gM_425 S hK hP (v := .int (In2 73)) rfl (oc_180 31 (aq_7 shX12_whyNot_24) uw_1_169) ?_
  refine stM_38 hx hb hK hP hD hS (Fn2 := (va_up Fn 38 (upd (upd (upd (Fn 38) 0 (In2 71)) 1 (In2 72)) 2 (In2 73)))) (by unfold vp_in; decide) (by decide) (bx_uu _ _ _ _) (oc_79 34 (aq_10 shX12_whyNot_24)) (fun H locs hP hD hS => ?_)
  refine lv_aload_n hx hb (oc_42 35 (aq_11 shX12_whyNot_24)) rfl (lvA0 hl) ?_
  refine gM_89 S hK hP (v := .ref (g 38)) rfl (oc_180 36 (aq_12 shX12_whyNot_24) uw_0_89) ?_
  refine lv_iconst (v := 3) hx hb (oc_6 39 (aq_15 shX12_whyNot_24)) kic_3 ?_
  refine lv_aload_n hx hb (oc_42 40 (aq_16 shX12_whyNot_24)) rfl (lvA0 hl) ?_
  refine gM_211 S hK hP (v := .int (nI (cn 0))) rfl (oc_180 41 (aq_17 shX12_whyNot_24) uw_0_211) ?_
  refine stM_38 hx hb hK hP hD hS (Fn2 := (va_up Fn 38 (upd (upd (upd (upd (Fn 38) 0 (In2 71)) 1 (In2 72)) 2 (In2 73)) 3 (nI (cn 0))))) (by unfold vp_in; decide) (by decide) (bx_uu _ _ _ _) (oc_79 44 (aq_20 shX12_whyNot_24)) (fun H locs hP hD hS => ?_)
  refine lv_aload_n hx hb (oc_42 45 (aq_21 shX12_whyNot_24)) rfl (lvA0 hl) ?_
  refine gM_89 S hK hP (v := .ref (g 38)) rfl (oc_180 46 (aq_22 shX12_whyNot_24) uw_0_89) ?_
  refine lv_iconst (v := 4) hx hb (oc_7 49 shX12_whyNot_49) kic_4 ?_
  refine lv_aload_n hx hb (oc_42 50 (aq_1 shX12_whyNot_49)) rfl (lvA0 hl) ?_
  refine gM_211 S hK hP (v := .int (nI (cn 0))) rfl (oc_180 51 (aq_2 shX12_whyNot_49) uw_0_211) ?_
  refine lv_bipush (v := 7) hx hb (oc_16 54 (aq_5 shX12_whyNot_49) sgb_7) kbc_7 ?_
  refine lv_idiv hx hb (oc_108 56 (aq_7 shX12_whyNot_49)) (by decide) ?_
  refine lv_topi (fun y_3 ey_3 => ?_)
  obtain rfl : y_3 = (nI ((cn 0) / 7)) := ey_3.trans (nI_div (by (first | omega | (have zz0 := Hid.u hi_cn; omega))) (by decide))
  refine stM_38 hx hb hK hP hD hS (Fn2 := (va_up Fn 38 (upd (upd (upd (upd (upd (Fn 38) 0 (In2 71)) 1 (In2 72)) 2 (In2 73)) 3 (nI (cn 0))) 4 (nI ((cn 0) / 7))))) (by unfold vp_in; decide) (by decide) (bx_uu _ _ _ _) (oc_79 57 (aq_8 shX12_whyNot_49)) (fun H locs hP hD hS => ?_)
  refine lv_aload_n hx hb (oc_42 58 (aq_9 shX12_whyNot_49)) rfl (lvA0 hl) ?_
  refine gM_89 S hK hP (v := .ref (g 38)) rfl (oc_180 59 (aq_10 shX12_whyNot_49) uw_0_89) ?_
  refine lv_iconst (v := 5) hx hb (oc_8 62 (aq_13 shX12_whyNot_49)) kic_5 ?_
  refine lv_aload_n hx hb (oc_42 63 (aq_14 shX12_whyNot_49)) rfl (lvA0 hl) ?_
  refine gM_211 S hK hP (v := .int (nI (cn 0))) rfl (oc_180 64 (aq_15 shX12_whyNot_49) uw_0_211) ?_
  refine lv_bipush (v := 7) hx hb (oc_16 67 (aq_18 shX12_whyNot_49) sgb_7) kbc_7 ?_
  refine lv_irem hx hb (oc_112 69 (aq_20 shX12_whyNot_49)) (by decide) ?_
  refine lv_topi (fun y_4 ey_4 => ?_)
  obtain rfl : y_4 = (nI ((cn 0) % 7)) := ey_4.trans (nI_rem (by (first | omega | (have zz0 := Hid.u hi_cn; omega))) (by decide))
  refine stM_38 hx hb hK hP hD hS (Fn2 := (va_up Fn 38 (upd (upd (upd (upd (upd (upd (Fn 38) 0 (In2 71)) 1 (In2 72)) 2 (In2 73)) 3 (nI (cn 0))) 4 (nI ((cn 0) / 7))) 5 (nI ((cn 0) % 7))))) (by unfold vp_in; decide) (by decide) (bx_uu _ _ _ _) (oc_79 70 (aq_21 shX12_whyNot_49)) (fun H locs hP hD hS => ?_)
  refine lv_aload_n hx hb (oc_42 71 (aq_22 shX12_whyNot_49)) rfl (lvA0 hl) ?_
  refine gM_89 S hK hP (v := .ref (g 38)) rfl (oc_180 72 (aq_23 shX12_whyNot_49) uw_0_89) ?_
  refine lv_bipush (v := 6) hx hb (oc_16 75 shX12_whyNot_75 sgb_6) kbc_6 ?_
  refine lv_iconst (v := 0) hx hb (oc_3 77 (aq_2 shX12_whyNot_75)) kic_0 ?_
  refine stM_38 hx hb hK hP hD hS (Fn2 := (va_up Fn 38 (upd (upd (upd (upd (upd (upd (upd (Fn 38) 0 (In2 71)) 1 (In2 72)) 2 (In2 73)) 3 (nI (cn 0))) 4 (nI ((cn 0) / 7))) 5 (nI ((cn 0) % 7))) 6 0))) (by unfold vp_in; decide) (by decide) (bx_uu _ _ _ _) (oc_79 78 (aq_3 shX12_whyNot_75)) (fun H locs hP hD hS => ?_)
  refine lv_aload_n hx hb (oc_42 79 (aq_4 shX12_whyNot_75)) rfl (lvA0 hl) ?_
  refine gM_89 S hK hP (v := .ref (g 38)) rfl (oc_180 80 (aq_5 shX12_whyNot_75) uw_0_89) ?_
  refine lv_bipush (v := 7) hx hb (oc_16 83 (aq_8 shX12_whyNot_75) sgb_7) kbc_7 ?_
  refine lv_iconst (v := 0) hx hb (oc_3 85 (aq_10 shX12_whyNot_75)) kic_0 ?_
  refine stM_38 hx hb hK hP hD hS (Fn2 := (va_up Fn 38 (upd (upd (upd (upd (upd (upd (upd (upd (Fn 38) 0 (In2 71)) 1 (In2 72)) 2 (In2 73)) 3 (nI (cn 0))) 4 (nI ((cn 0) / 7))) 5 (nI ((cn 0) % 7))) 6 0) 7 0))) (by unfold vp_in; decide) (by decide) (bx_uu _ _ _ _) (oc_79 86 (aq_11 shX12_whyNot_75)) (fun H locs hP hD hS => ?_)
  refine lv_aload_n hx hb (oc_42 87 (aq_12 shX12_whyNot_75)) rfl (lvA0 hl) ?_
  refine gM_89 S hK hP (v := .ref (g 38)) rfl (oc_180 88 (aq_13 shX12_whyNot_75) uw_0_89) ?_
  refine lv_bipush (v := 8) hx hb (oc_16 91 (aq_16 shX12_whyNot_75) sgb_8) kbc_8 ?_
  refine lv_iconst (v := 0) hx hb (oc_3 93 (aq_18 shX12_whyNot_75)) kic_0 ?_
  refine stM_38 hx hb hK hP hD hS (Fn2 := (va_up Fn 38 (upd (upd (upd (upd (upd (upd (upd (upd (upd (Fn 38) 0 (In2 71)) 1 (In2 72)) 2 (In2 73)) 3 (nI (cn 0))) 4 (nI ((cn 0) / 7))) 5 (nI ((cn 0) % 7))) 6 0) 7 0) 8 0))) (by unfold vp_in; decide) (by decide) (bx_uu _ _ _ _) (oc_79 94 (aq_19 shX12_whyNot_75)) (fun H locs hP hD hS => ?_)
  refine lv_aload_n hx hb (oc_42 95 (aq_20 shX12_whyNot_75)) rfl (lvA0 hl) ?_
  refine gM_89 S hK hP (v := .ref (g 38)) rfl (oc_180 96 (aq_21 shX12_whyNot_75) uw_0_89) ?_
  refine lv_bipush (v := 9) hx hb (oc_16 99 shX12_whyNot_99 sgb_9) kbc_9 ?_
  refine lv_aload_n hx hb (oc_42 101 (aq_2 shX12_whyNot_99)) rfl (lvA0 hl) ?_
  refine gM_92 S hK hP (v := .ref (g 39)) rfl (oc_180 102 (aq_3 shX12_whyNot_99) uw_0_92) ?_
  refine lv_aload_n hx hb (oc_42 105 (aq_6 shX12_whyNot_99)) rfl (lvA0 hl) ?_
  refine gM_211 S hK hP (v := .int (nI (cn 0))) rfl (oc_180 106 (aq_7 shX12_whyNot_99) uw_0_211) ?_
  refine lv_bipush (v := 7) hx hb (oc_16 109 (aq_10 shX12_whyNot_99) sgb_7) kbc_7 ?_
  refine lv_idiv hx hb (oc_108 111 (aq_12 shX12_whyNot_99)) (by decide) ?_
  refine lv_topi (fun y_5 ey_5 => ?_)
  obtain rfl : y_5 = (nI ((cn 0) / 7)) := ey_5.trans (nI_div (by (first | omega | (have zz0 := Hid.u hi_cn; omega))) (by decide))
  have kb_1 : ((cn 0) / 7) < 58 := by (first | omega | (have zz0 := Hid.u hi_cn; omega))
  refine ldM_39 hx hb hK hP (x := ((Fn 39) ((cn 0) / 7))) (vp_in_nI kb_1 (ltb rfl)) (nI_clamp (Nat.lt_trans kb_1 (ltb rfl))) rfl (oc_46 112 (aq_13 shX12_whyNot_99)) ?_
  refine stM_38 hx hb hK hP hD hS (Fn2 := (va_up Fn 38 (upd (upd (upd (upd (upd (upd (upd (upd (upd (upd (Fn 38) 0 (In2 71)) 1 (In2 72)) 2 (In2 73)) 3 (nI (cn 0))) 4 (nI ((cn 0) / 7))) 5 (nI ((cn 0) % 7))) 6 0) 7 0) 8 0) 9 ((Fn 39) ((cn 0) / 7))))) (by unfold vp_in; decide) (by decide) (bx_uu _ _ _ _) (oc_79 113 (aq_14 shX12_whyNot_99)) (fun H locs hP hD hS => ?_)
  refine lv_aload_n hx hb (oc_42 114 (aq_15 shX12_whyNot_99)) rfl (lvA0 hl) ?_
  refine gM_89 S hK hP (v := .ref (g 38)) rfl (oc_180 115 (aq_16 shX12_whyNot_99) uw_0_89) ?_
  refine lv_bipush (v := 10) hx hb (oc_16 118 (aq_19 shX12_whyNot_99) sgb_10) kbc_10 ?_
  refine lv_iload_n hx hb (oc_27 120 (aq_21 shX12_whyNot_99)) rfl (lvA1 hl) ?_
  refine vp_callSi (runS_r (As := [.int v0]) (rest := [.int 10, .ref (g 38)]) S (q_bits l D cI cB cZ v0 ) kS_RX12_431 hK hP [] rfl ⟨Nat.le_of_ble_eq_true rfl, Nat.le_of_ble_eq_true rfl⟩ ⟨Nat.le_of_ble_eq_true rfl, Nat.le_of_ble_eq_true rfl⟩ rfl hl.1 rfl (Nat.le_of_ble_eq_true rfl) (oc_184 121 (aq_22 shX12_whyNot_99) uw_1_175)) (fun r_6 h_7 => ?_)
  refine stM_38 hx hb hK hP hD hS (Fn2 := (va_up Fn 38 (upd (upd (upd (upd (upd (upd (upd (upd (upd (upd (upd (Fn 38) 0 (In2 71)) 1 (In2 72)) 2 (In2 73)) 3 (nI (cn 0))) 4 (nI ((cn 0) / 7))) 5 (nI ((cn 0) % 7))) 6 0) 7 0) 8 0) 9 ((Fn 39) ((cn 0) / 7))) 10 r_6))) (by unfold vp_in; decide) (by decide) (bx_uu _ _ _ _) (oc_79 124 shX12_whyNot_124) (fun H locs hP hD hS => ?_)
  obtain ⟨q33, hq33, eq33⟩ := hIn2.e33 10 (by (first | omega | (have zz0 := Hid.u hi_cn; omega)))
  refine lv_bipush (v := 120) hx hb (oc_16 125 (aq_1 shX12_whyNot_124) sgb_120) kbc_120 ?_
  refine lv_istore_n (lv' := [(2, .int 120), (0, .ref (g 100)), (1, .int v0)]) hx hb (oc_61 127 (aq_3 shX12_whyNot_124)) rfl hl (ltb rfl) rfl (fun ls hl => ?_)
  have lp_128 : ∀ (n : Nat) (i128 : Nat) (F128 : Nat → Nat → Int32) (H : Heap) (locs : List Loc) , 120 + q33 - i128 < n → ((120 ≤ i128 ∧ i128 ≤ 120 + q33) ∧ Fr [] [71, 72, 73] [37, 38] cn In Fn cn In2 F128 ∧ IM cn F128) → va_P D vwCl (wM cI cB cZ g cn In2 F128) H → va_D A (wM cI cB cZ g cn In2 F128) → va_S A s.heap H locs → ∀ ls : Array Slot, lv_has ls 3 [(2, .int (nI i128)), (0, .ref (g 100)), (1, .int v0)] → W p l e (RM 2 0 0) s m ([.ref (g 100), .int v0]).toArray below meth c H locs 0 0 (MQ below (va_Qi (fun (r : Int32) (u : (Nat → Nat) × (Nat → Int32) × (Nat → Nat → Int32)) => (fun r c2 I2 F2 => Fr [] [71, 72, 73] [37, 38] cn In Fn c2 I2 F2 ∧ IM c2 F2 ∧ (True)) r u.1 u.2.1 u.2.2) (fun (u : (Nat → Nat) × (Nat → Int32) × (Nat → Nat → Int32)) (t : State) => va_P D vwCl (wM cI cB cZ g u.1 u.2.1 u.2.2) t.heap ∧ va_D A (wM cI cB cZ g u.1 u.2.1 u.2.2)) A) ([.ref (g 100), .int v0]).toArray s 0 0 A) (F0 m 128 ls []) := by
    intro n128
    induction n128 with
    | zero => intros; (first | omega | (have zz0 := Hid.u hi_cn; omega))
    | succ n128 ih128 =>
      intro i128 F128 H locs hmu128 hinv128 hP hD hS ls hl
      obtain ⟨hr128, hfr128, hI128⟩ := hinv128
      have ti128 : (nI i128).toInt = (i128 : Int) := nI_toInt (by (first | omega | (have zz0 := Hid.u hi_cn; omega)))
      have hi_cn : Hid (CB cn) := hI128.b
      have eq33 : F128 33 10 = nI q33 := (congrFun (hfr128.2.2 33 (nml rfl)) 10).trans eq33
      refine lv_iload_n hx hb (oc_28 128 (aq_4 shX12_whyNot_124)) rfl (lvA0 hl) ?_
      refine lv_bipush (v := 120) hx hb (oc_16 129 (aq_5 shX12_whyNot_124) sgb_120) kbc_120 ?_
      refine lv_aload_n hx hb (oc_42 131 (aq_7 shX12_whyNot_124)) rfl (lvA1 hl) ?_
      refine gM_74 S hK hP (v := .ref (g 33)) rfl (oc_180 132 (aq_8 shX12_whyNot_124) uw_0_74) ?_
      refine lv_bipush (v := 10) hx hb (oc_16 135 (aq_11 shX12_whyNot_124) sgb_10) kbc_10 ?_
      refine ldM_33 hx hb hK hP (x := (nI q33)) (by unfold vp_in; decide) (by decide) eq33 (oc_46 137 (aq_13 shX12_whyNot_124)) ?_
      refine lv_iadd hx hb (oc_96 138 (aq_14 shX12_whyNot_124)) ?_
      refine lv_topi (fun y_8 ey_8 => ?_)
      obtain rfl : y_8 = (nI (120 + q33)) := ey_8.trans (nI_add 120 q33)
      have : (nI (120 + q33)).toInt = (((120 + q33) : Nat) : Int) := nI_toInt (by (first | omega | (have zz0 := Hid.u hi_cn; omega)))
      refine lv_icmp_ge (tgt := 173) hx hb (oc_162 139 (aq_15 shX12_whyNot_124) sgw_0_34) rfl (fun c_9 => ?_) (fun c_9 => ?_)
      ·
        have tc_9 : ((nI (120 + q33)).toInt : Int) ≤ (nI i128).toInt := Int32.le_iff_toInt_le.mp c_9
        refine lv_iconst (v := (-1)) hx hb (oc_2 173 shX12_whyNot_173) kic_m1 ?_
        exact W.iret (v := (-1)) hx hb hr (fun t ht hW => ⟨⟨(-1), (cn, In2, F128), rfl, ⟨(Fr.mo hfr128 (sbl rfl) (sbl rfl) (sbl rfl)), hI128, trivial⟩, by rw [ht]; exact hP, hD⟩, hS.F ht⟩) hS.2.2 (oc_172 174 (aq_1 shX12_whyNot_173))
      ·
        have tc_9 : ((nI i128).toInt : Int) < (nI (120 + q33)).toInt := Int32.lt_iff_toInt_lt.mp (Int32.not_le.mp c_9)
        obtain ⟨a9, m9, b9, ea9, em9, eb9, k1, k2, k3, k4, k5, sgA, sgB⟩ := IM.cd1 hI128 (t := 10) (by (first | omega | (have zz0 := Hid.u hi_cn; omega))) eq33 hq33 (by (first | omega | (have zz0 := Hid.u hi_cn; omega))) (i := i128) (by (first | omega | (have zz0 := Hid.u hi_cn; omega)))
        refine lv_aload_n hx hb (oc_42 142 (aq_18 shX12_whyNot_124)) rfl (lvA1 hl) ?_
        refine lv_aload_n hx hb (oc_42 143 (aq_19 shX12_whyNot_124)) rfl (lvA1 hl) ?_
        refine gM_80 S hK hP (v := .ref (g 35)) rfl (oc_180 144 (aq_20 shX12_whyNot_124) uw_0_80) ?_
        refine lv_iload_n hx hb (oc_28 147 (aq_23 shX12_whyNot_124)) rfl (lvA0 hl) ?_
        have kb_2 : i128 < 132 := by (first | omega | (have zz0 := Hid.u hi_cn; omega))
        refine ldM_35 hx hb hK hP (x := ((F128 35) i128)) (vp_in_nI kb_2 (ltb rfl)) (nI_clamp (Nat.lt_trans kb_2 (ltb rfl))) rfl (oc_46 148 shX12_whyNot_148) ?_
        refine lv_topi (fun y_10 ey_10 => ?_)
        obtain rfl : y_10 = (nI m9) := ey_10.trans em9
        refine lv_aload_n hx hb (oc_42 149 (aq_1 shX12_whyNot_148)) rfl (lvA1 hl) ?_
        refine gM_83 S hK hP (v := .ref (g 36)) rfl (oc_180 150 (aq_2 shX12_whyNot_148) uw_0_83) ?_
        refine lv_iload_n hx hb (oc_28 153 (aq_5 shX12_whyNot_148)) rfl (lvA0 hl) ?_
        refine ldM_36 hx hb hK hP (x := ((F128 36) i128)) (vp_in_nI kb_2 (ltb rfl)) (nI_clamp (Nat.lt_trans kb_2 (ltb rfl))) rfl (oc_46 154 (aq_6 shX12_whyNot_148)) ?_
        refine lv_topi (fun y_11 ey_11 => ?_)
        obtain rfl : y_11 = (nI b9) := ey_11.trans eb9
        have hFc := free_all hD hS hA
        refine va_calli (runV_a (As := [.int (nI m9), .int (nI b9)]) (rest := []) S (q_comesTo l D cI cB cZ g cn In2 F128 10 m9 b9 H.size hI128 sgB (by (first | omega | (have zz0 := Hid.u hi_cn; omega))) (by (first | omega | (have zz0 := Hid.u hi_cn; omega))) (by (first | omega | (have zz0 := Hid.u hi_cn; omega))) (by (first | omega | (have zz0 := Hid.u hi_cn; omega))) (by (first | omega | (have zz0 := Hid.u hi_cn; omega)))) kV_RX12_331 hK hP hD 0 rfl rfl rfl ⟨Nat.le_of_ble_eq_true rfl, Nat.le_of_ble_eq_true rfl⟩ ⟨Nat.le_of_ble_eq_true rfl, Nat.le_of_ble_eq_true rfl⟩ rfl hl.1 rfl (Nat.le_of_ble_eq_true rfl) (oc_182 155 (aq_7 shX12_whyNot_148) uw_1_75)) hS (fun q _ h => hFc q h) hFc (fun r_12 u t H1 locs ht hvm wh_13 hB hz1 hk1 hS => ?_)
        obtain ⟨cn13, In13, Fn13⟩ := u
        obtain ⟨hP1, hD1⟩ := hB
        rw [ht] at hP1
        have hP : va_P D vwCl (wM cI cB cZ g cn13 In13 Fn13) H1 := hP1
        have hD : va_D A (wM cI cB cZ g cn13 In13 Fn13) := hD1.weaken (fun _ _ _ h => hFc _ h)
        generalize H1 = H at hP hS ⊢
        have vh_13 : (fun r c2 I2 F2 => Fr [] [] [37] cn In2 F128 c2 I2 F2 ∧ IM c2 F2 ∧ (True)) r_12 cn13 In13 Fn13 := wh_13
        obtain ⟨hfc13, hIn13, h_13⟩ := vh_13
        obtain rfl : cn = cn13 := (funext (fun k => hfc13.1 k List.not_mem_nil)).symm
        obtain rfl : In2 = In13 := (funext (fun k => hfc13.2.1 k List.not_mem_nil)).symm
        have hf13 : Fr [] [71, 72, 73] [37, 38] cn In Fn cn In2 Fn13 := Fr.mo (Fr.tr hfr128 hfc13) (sbl rfl) (sbl rfl) (sbl rfl)
        have hi_cn : Hid (CB cn) := hIn13.b
        refine lv_iconst (v := 1) hx hb (oc_4 158 (aq_10 shX12_whyNot_148)) kic_1 ?_
        refine lv_icmp_eq (tgt := 167) hx hb (oc_159 159 (aq_11 shX12_whyNot_148) sgw_0_8) rfl (fun c_14 => ?_) (fun c_14 => ?_)
        ·
          have tc_14 : (r_12.toInt : Int) = 1 := congrArg Int32.toInt c_14
          refine lv_iinc (v := (nI (i128 + 1))) (lv' := [(2, .int (nI (i128 + 1))), (0, .ref (g 100)), (1, .int v0)]) hx hb (oc_132 167 (aq_19 shX12_whyNot_148) ub_2 sgb_1) hl (k := 0) rfl (nI_1 _) (ltb rfl) rfl (fun ls hl => ?_)
          refine lv_goto (tgt := 128) hx hb (oc_167 170 (aq_22 shX12_whyNot_148) sgw_255_214) rfl ?_
          exact ih128 (i128 + 1) Fn13 _ _ (by (first | omega | (have zz0 := Hid.u hi_cn; omega))) ⟨(by (first | omega | (have zz0 := Hid.u hi_cn; omega))), (Fr.mo hf13 (sbl rfl) (sbl rfl) (sbl rfl)), hIn13⟩ hP hD hS ls (lv_sub hl [0, 1, 2] rfl)
        ·
          have tc_14 : (r_12.toInt : Int) ≠ 1 := fun q => c_14 (Int32.toInt_inj.mp q)
          refine lv_iload_n hx hb (oc_28 162 (aq_14 shX12_whyNot_148)) rfl (lvA0 hl) ?_
          refine lv_bipush (v := 120) hx hb (oc_16 163 (aq_15 shX12_whyNot_148) sgb_120) kbc_120 ?_
          refine lv_isub hx hb (oc_100 165 (aq_17 shX12_whyNot_148)) ?_
          exact W.iret (v := ((nI i128) - 120)) hx hb hr (fun t ht hW => ⟨⟨((nI i128) - 120), (cn, In2, Fn13), rfl, ⟨(Fr.mo hf13 (sbl rfl) (sbl rfl) (sbl rfl)), hIn13, trivial⟩, by rw [ht]; exact hP, hD⟩, hS.F ht⟩) hS.2.2 (oc_172 166 (aq_18 shX12_whyNot_148))
  exact lp_128 _ 120 (va_up Fn 38 (upd (upd (upd (upd (upd (upd (upd (upd (upd (upd (upd (Fn 38) 0 (In2 71)) 1 (In2 72)) 2 (In2 73)) 3 (nI (cn 0))) 4 (nI ((cn 0) / 7))) 5 (nI ((cn 0) % 7))) 6 0) 7 0) 8 0) 9 ((Fn 39) ((cn 0) / 7))) 10 r_6)) _ _ (Nat.lt_succ_self _) ⟨(by (first | omega | (have zz0 := Hid.u hi_cn; omega))), (Fr.mo (Fr.f 38 hf2) (sbl rfl) (sbl rfl) (sbl rfl)), (IM.fr (In := In2) hIn2 (Fr.f 38 Fr.rf) (by decide) (by decide))⟩ hP hD hS ls (lv_sub hl [0, 1, 2] rfl)
set_option maxRecDepth 100000 in
set_option maxHeartbeats 4000000 in
theorem q_batch (l : Launch) (D : va_G) (cI cB cZ : ClassId) (g : Nat → Nat) (cn : Nat → Nat) (In : Nat → Int32) (Fn : Nat → Nat → Int32) (v0 : Int32) (sz : Nat) (hI : IM cn Fn) : Met l yX12_batch (CWS yX12_batch cX12_batch 4 (some .int)) (RM 3 0 0) (PBw [.ref (g 100), .int v0] D cI cB cZ (wM cI cB cZ g cn In Fn) sz) (va_Qi (fun (r : Int32) (u : (Nat → Nat) × (Nat → Int32) × (Nat → Nat → Int32)) => (fun r c2 I2 F2 => Fr [62] [71, 72, 73] [15, 37, 38, 64, 65] cn In Fn c2 I2 F2 ∧ IM c2 F2 ∧ (True)) r u.1 u.2.1 u.2.2) (fun (u : (Nat → Nat) × (Nat → Int32) × (Nat → Nat → Int32)) (t : State) => va_P D vwCl (wM cI cB cZ g u.1 u.2.1 u.2.2) t.heap ∧ va_D (va_A (wM cI cB cZ g cn In Fn) sz) (wM cI cB cZ g u.1 u.2.1 u.2.2)) (va_A (wM cI cB cZ g cn In Fn) sz)) 0 0 (va_A (wM cI cB cZ g cn In Fn) sz) := by
  refine en_w (fun A => (va_Qi (fun (r : Int32) (u : (Nat → Nat) × (Nat → Int32) × (Nat → Nat → Int32)) => (fun (r : Int32) (c2 : Nat → Nat) (I2 : Nat → Int32) (F2 : Nat → Nat → Int32) => Fr [62] [71, 72, 73] [15, 37, 38, 64, 65] cn In Fn c2 I2 F2 ∧ IM c2 F2 ∧ (True)) r u.1 u.2.1 u.2.2) (fun (u : (Nat → Nat) × (Nat → Int32) × (Nat → Nat → Int32)) (t : State) => va_P D vwCl (wM cI cB cZ g u.1 u.2.1 u.2.2) t.heap ∧ va_D A (wM cI cB cZ g u.1 u.2.1 u.2.2)) A)) rfl rfl pn_RX12 (Nat.le_of_ble_eq_true rfl) (fun p e s m below meth c A hx hb hml hown S hr hlocks hnm hA hP hK hD hS ls hl => ?_)
  have hl : lv_has ls 4 [(0, .ref (g 100)), (1, .int v0)] := hl
  have hi_cn : Hid (CB cn) := hI.b
  refine lv_iload_n hx hb (oc_27 0 shX12_batch_0) rfl (lvA1 hl) ?_
  refine lv_iconst (v := 1) hx hb (oc_4 1 (aq_1 shX12_batch_0)) kic_1 ?_
  refine lv_ldcw (v := 1048575) hx hb hown (S.2.2.2.2 _ (wk8_16 9 rfl rfl)) (oc_19 2 (aq_2 shX12_batch_0) uw_1_178) ?_
  refine vp_callSi (runS_r (As := [.int v0, .int 1, .int 1048575]) (rest := []) S (q_in l D cI cB cZ v0 1 1048575 ) kS_RX12_214 hK hP [] rfl ⟨Nat.le_of_ble_eq_true rfl, Nat.le_of_ble_eq_true rfl⟩ ⟨Nat.le_of_ble_eq_true rfl, Nat.le_of_ble_eq_true rfl⟩ rfl hl.1 rfl (Nat.le_of_ble_eq_true rfl) (oc_184 5 (aq_5 shX12_batch_0) uw_0_214)) (fun r_1 h_2 => ?_)
  rcases h_2 with ⟨rfl, h_2⟩ | ⟨rfl, h_2⟩
  ·
    have h_2 : 1 ≤ v0.toInt ∧ v0.toInt ≤ 1048575 := h_2
    refine lv_if_eq (tgt := 20) hx hb (oc_153 8 (aq_8 shX12_batch_0) sgw_0_12) rfl (fun h => absurd h cq_eq_1_0) (fun _ => ?_)
    refine lv_aload_n hx hb (oc_42 11 (aq_11 shX12_batch_0)) rfl (lvA0 hl) ?_
    refine gM_435 S hK hP (v := .int (nI (cn 62))) rfl (oc_180 12 (aq_12 shX12_batch_0) uw_1_179) ?_
    refine lv_bipush (v := 10) hx hb (oc_16 15 (aq_15 shX12_batch_0) sgb_10) kbc_10 ?_
    have : (nI (cn 62)).toInt = (((cn 62) : Nat) : Int) := nI_toInt (by (first | omega | (have zz0 := Hid.u hi_cn; omega)))
    refine lv_icmp_ne (tgt := 22) hx hb (oc_160 17 (aq_17 shX12_batch_0) sgw_0_5) rfl (fun c_3 => ?_) (fun c_3 => ?_)
    ·
      have tc_3 : ((nI (cn 62)).toInt : Int) ≠ 10 := fun q => c_3 (Int32.toInt_inj.mp q)
      refine lv_iconst (v := 0) hx hb (oc_3 22 (aq_22 shX12_batch_0)) kic_0 ?_
      refine lv_istore_n (lv' := [(2, .int 0), (0, .ref (g 100)), (1, .int v0)]) hx hb (oc_61 23 (aq_23 shX12_batch_0)) rfl hl (ltb rfl) rfl (fun ls hl => ?_)
      have lp_24 : ∀ (n : Nat) (i24 : Nat) , 20 - i24 < n → (i24 ≤ 20 ∧ (∀ i : Nat, i < i24 → ¬ (v0 >>> (nI i &&& 31)) &&& 1 = 0 → i < cn 2)) → ∀ ls : Array Slot, lv_has ls 4 [(2, .int (nI i24)), (0, .ref (g 100)), (1, .int v0)] → W p l e (RM 3 0 0) s m ([.ref (g 100), .int v0]).toArray below meth c s.heap [] 0 0 (MQ below (va_Qi (fun (r : Int32) (u : (Nat → Nat) × (Nat → Int32) × (Nat → Nat → Int32)) => (fun r c2 I2 F2 => Fr [62] [71, 72, 73] [15, 37, 38, 64, 65] cn In Fn c2 I2 F2 ∧ IM c2 F2 ∧ (True)) r u.1 u.2.1 u.2.2) (fun (u : (Nat → Nat) × (Nat → Int32) × (Nat → Nat → Int32)) (t : State) => va_P D vwCl (wM cI cB cZ g u.1 u.2.1 u.2.2) t.heap ∧ va_D A (wM cI cB cZ g u.1 u.2.1 u.2.2)) A) ([.ref (g 100), .int v0]).toArray s 0 0 A) (F0 m 24 ls []) := by
        intro n24
        induction n24 with
        | zero => intros; (first | omega | (have zz0 := Hid.u hi_cn; omega))
        | succ n24 ih24 =>
          intro i24 hmu24 hinv24 ls hl
          obtain ⟨hr24, hx24_0⟩ := hinv24
          have ti24 : (nI i24).toInt = (i24 : Int) := nI_toInt (by (first | omega | (have zz0 := Hid.u hi_cn; omega)))
          refine lv_iload_n hx hb (oc_28 24 shX12_batch_24) rfl (lvA0 hl) ?_
          refine lv_bipush (v := 20) hx hb (oc_16 25 (aq_1 shX12_batch_24) sgb_20) kbc_20 ?_
          refine lv_icmp_ge (tgt := 55) hx hb (oc_162 27 (aq_3 shX12_batch_24) sgw_0_28) rfl (fun c_4 => ?_) (fun c_4 => ?_)
          ·
            have tc_4 : (20 : Int) ≤ (nI i24).toInt := Int32.le_iff_toInt_le.mp c_4
            refine lv_aload_n hx hb (oc_42 55 (aq_7 shX12_batch_48)) rfl (lvA1 hl) ?_
            refine lv_iload_n hx hb (oc_27 56 (aq_8 shX12_batch_48)) rfl (lvA2 hl) ?_
            have hFc := free_all hD hS hA
            refine va_calli (runV_a (As := [.int v0]) (rest := []) S (q_whyNot l D cI cB cZ g cn In Fn v0 s.heap.size hI) kV_RX12_441 hK hP hD 0 rfl rfl rfl ⟨Nat.le_of_ble_eq_true rfl, Nat.le_of_ble_eq_true rfl⟩ ⟨Nat.le_of_ble_eq_true rfl, Nat.le_of_ble_eq_true rfl⟩ rfl hl.1 rfl (Nat.le_of_ble_eq_true rfl) (oc_182 57 (aq_9 shX12_batch_48) uw_1_185)) hS (fun q _ h => hFc q h) hFc (fun r_5 u t H1 locs ht hvm wh_6 hB hz1 hk1 hS => ?_)
            obtain ⟨cn6, In6, Fn6⟩ := u
            obtain ⟨hP1, hD1⟩ := hB
            rw [ht] at hP1
            have hP : va_P D vwCl (wM cI cB cZ g cn6 In6 Fn6) H1 := hP1
            have hD : va_D A (wM cI cB cZ g cn6 In6 Fn6) := hD1.weaken (fun _ _ _ h => hFc _ h)
            generalize H1 = H at hP hS ⊢
            have vh_6 : (fun r c2 I2 F2 => Fr [] [71, 72, 73] [37, 38] cn In Fn c2 I2 F2 ∧ IM c2 F2 ∧ (True)) r_5 cn6 In6 Fn6 := wh_6
            obtain ⟨hfc6, hIn6, h_6⟩ := vh_6
            obtain rfl : cn = cn6 := (funext (fun k => hfc6.1 k List.not_mem_nil)).symm
            have hf6 : Fr [62] [71, 72, 73] [15, 37, 38, 64, 65] cn In Fn cn In6 Fn6 := Fr.mo (Fr.tr (Fr.rf (cn := cn) (In := In) (Fn := Fn)) hfc6) (sbl rfl) (sbl rfl) (sbl rfl)
            have hi_cn : Hid (CB cn) := hIn6.b
            refine lv_istore_n (lv' := [(2, .int r_5), (0, .ref (g 100)), (1, .int v0)]) hx hb (oc_61 60 (aq_12 shX12_batch_48)) rfl hl (ltb rfl) rfl (fun ls hl => ?_)
            refine lv_iload_n hx hb (oc_28 61 (aq_13 shX12_batch_48)) rfl (lvA0 hl) ?_
            refine lv_iconst (v := (-1)) hx hb (oc_2 62 (aq_14 shX12_batch_48)) kic_m1 ?_
            refine lv_icmp_eq (tgt := 71) hx hb (oc_159 63 (aq_15 shX12_batch_48) sgw_0_8) rfl (fun c_7 => ?_) (fun c_7 => ?_)
            ·
              have tc_7 : (r_5.toInt : Int) = (-1) := congrArg Int32.toInt c_7
              refine lv_iconst (v := 0) hx hb (oc_3 71 (aq_23 shX12_batch_48)) kic_0 ?_
              refine lv_istore_n (lv' := [(3, .int 0), (2, .int r_5), (0, .ref (g 100)), (1, .int v0)]) hx hb (oc_62 72 shX12_batch_72) rfl hl (ltb rfl) rfl (fun ls hl => ?_)
              have lp_73 : ∀ (n : Nat) (i73 : Nat) (F73 : Nat → Nat → Int32) (H : Heap) (locs : List Loc) , 20 - i73 < n → (i73 ≤ 20 ∧ Fr [62] [71, 72, 73] [15, 37, 38, 64, 65] cn In Fn cn In6 F73 ∧ IM cn F73) → va_P D vwCl (wM cI cB cZ g cn In6 F73) H → va_D A (wM cI cB cZ g cn In6 F73) → va_S A s.heap H locs → ∀ ls : Array Slot, lv_has ls 4 [(3, .int (nI i73)), (2, .int r_5), (0, .ref (g 100)), (1, .int v0)] → W p l e (RM 3 0 0) s m ([.ref (g 100), .int v0]).toArray below meth c H locs 0 0 (MQ below (va_Qi (fun (r : Int32) (u : (Nat → Nat) × (Nat → Int32) × (Nat → Nat → Int32)) => (fun r c2 I2 F2 => Fr [62] [71, 72, 73] [15, 37, 38, 64, 65] cn In Fn c2 I2 F2 ∧ IM c2 F2 ∧ (True)) r u.1 u.2.1 u.2.2) (fun (u : (Nat → Nat) × (Nat → Int32) × (Nat → Nat → Int32)) (t : State) => va_P D vwCl (wM cI cB cZ g u.1 u.2.1 u.2.2) t.heap ∧ va_D A (wM cI cB cZ g u.1 u.2.1 u.2.2)) A) ([.ref (g 100), .int v0]).toArray s 0 0 A) (F0 m 73 ls []) := by
                intro n73
                induction n73 with
                | zero => intros; (first | omega | (have zz0 := Hid.u hi_cn; omega))
                | succ n73 ih73 =>
                  intro i73 F73 H locs hmu73 hinv73 hP hD hS ls hl
                  obtain ⟨hr73, hfr73, hI73⟩ := hinv73
                  have ti73 : (nI i73).toInt = (i73 : Int) := nI_toInt (by (first | omega | (have zz0 := Hid.u hi_cn; omega)))
                  have hi_cn : Hid (CB cn) := hI73.b
                  refine lv_iload_n hx hb (oc_29 73 (aq_1 shX12_batch_72)) rfl (lvA0 hl) ?_
                  refine lv_bipush (v := 20) hx hb (oc_16 74 (aq_2 shX12_batch_72) sgb_20) kbc_20 ?_
                  refine lv_icmp_ge (tgt := 104) hx hb (oc_162 76 (aq_4 shX12_batch_72) sgw_0_28) rfl (fun c_8 => ?_) (fun c_8 => ?_)
                  ·
                    have tc_8 : (20 : Int) ≤ (nI i73).toInt := Int32.le_iff_toInt_le.mp c_8
                    refine lv_aload_n hx hb (oc_42 104 (aq_7 shX12_batch_97)) rfl (lvA2 hl) ?_
                    refine gM_138 S hK hP (v := .ref (g 64)) rfl (oc_180 105 (aq_8 shX12_batch_97) uw_0_138) ?_
                    refine lv_aload_n hx hb (oc_42 108 (aq_11 shX12_batch_97)) rfl (lvA2 hl) ?_
                    refine gM_435 S hK hP (v := .int (nI (cn 62))) rfl (oc_180 109 (aq_12 shX12_batch_97) uw_1_179) ?_
                    refine lv_iload_n hx hb (oc_27 112 (aq_15 shX12_batch_97)) rfl (lvA3 hl) ?_
                    have kb_1 : (cn 62) < 10 := by (first | omega | (have zz0 := Hid.u hi_cn; omega))
                    refine stM_64 hx hb hK hP hD hS (Fn2 := (va_up F73 64 (upd (F73 64) (cn 62) v0))) (vp_in_nI kb_1 (ltb rfl)) (nI_clamp (Nat.lt_trans kb_1 (ltb rfl))) rfl (oc_79 113 (aq_16 shX12_batch_97)) (fun H locs hP hD hS => ?_)
                    refine lv_aload_n hx hb (oc_42 114 (aq_17 shX12_batch_97)) rfl (lvA2 hl) ?_
                    refine gM_141 S hK hP (v := .ref (g 65)) rfl (oc_180 115 (aq_18 shX12_batch_97) uw_0_141) ?_
                    refine lv_aload_n hx hb (oc_42 118 (aq_21 shX12_batch_97)) rfl (lvA2 hl) ?_
                    refine gM_435 S hK hP (v := .int (nI (cn 62))) rfl (oc_180 119 (aq_22 shX12_batch_97) uw_1_179) ?_
                    refine lv_aload_n hx hb (oc_42 122 shX12_batch_122) rfl (lvA2 hl) ?_
                    refine gM_211 S hK hP (v := .int (nI (cn 0))) rfl (oc_180 123 (aq_1 shX12_batch_122) uw_0_211) ?_
                    refine stM_65 hx hb hK hP hD hS (Fn2 := (va_up (va_up F73 64 (upd (F73 64) (cn 62) v0)) 65 (upd (F73 65) (cn 62) (nI (cn 0))))) (vp_in_nI kb_1 (ltb rfl)) (nI_clamp (Nat.lt_trans kb_1 (ltb rfl))) rfl (oc_79 126 (aq_4 shX12_batch_122)) (fun H locs hP hD hS => ?_)
                    refine lv_aload_n hx hb (oc_42 127 (aq_5 shX12_batch_122)) rfl (lvA2 hl) ?_
                    refine lv_aload_n hx hb (oc_42 128 (aq_6 shX12_batch_122)) rfl (lvA2 hl) ?_
                    refine gM_435 S hK hP (v := .int (nI (cn 62))) rfl (oc_180 129 (aq_7 shX12_batch_122) uw_1_179) ?_
                    refine lv_iconst (v := 1) hx hb (oc_4 132 (aq_10 shX12_batch_122)) kic_1 ?_
                    refine lv_iadd hx hb (oc_96 133 (aq_11 shX12_batch_122)) ?_
                    refine lv_topi (fun y_9 ey_9 => ?_)
                    obtain rfl : y_9 = (nI ((cn 62) + 1)) := ey_9.trans (nI_add (cn 62) 1)
                    refine pM_435 S hK hP hD hS (a := ((cn 62) + 1)) (cn2 := (va_up cn 62 ((cn 62) + 1))) rfl rfl (oc_181 134 (aq_12 shX12_batch_122) uw_1_179) (fun H locs hP hD hS => ?_)
                    refine lv_aload_n hx hb (oc_42 137 (aq_15 shX12_batch_122)) rfl (lvA2 hl) ?_
                    refine gM_435 S hK hP (v := .int (nI ((cn 62) + 1))) rfl (oc_180 138 (aq_16 shX12_batch_122) uw_1_179) ?_
                    refine lv_iconst (v := 1) hx hb (oc_4 141 (aq_19 shX12_batch_122)) kic_1 ?_
                    refine lv_isub hx hb (oc_100 142 (aq_20 shX12_batch_122)) ?_
                    refine lv_topi (fun y_10 ey_10 => ?_)
                    obtain rfl : y_10 = (nI (cn 62)) := ey_10.trans (nI_pred _)
                    exact W.iret (v := (nI (cn 62))) hx hb hr (fun t ht hW => ⟨⟨(nI (cn 62)), ((va_up cn 62 ((cn 62) + 1)), In6, (va_up (va_up F73 64 (upd (F73 64) (cn 62) v0)) 65 (upd (F73 65) (cn 62) (nI (cn 0))))), rfl, ⟨(Fr.mo (Fr.f 65 (Fr.f 64 (Fr.c 62 hfr73))) (sbl rfl) (sbl rfl) (sbl rfl)), (IM.bt hI73 (by (first | omega | (have zz0 := Hid.u hi_cn; omega))) (v := v0) (fun i hi hb => by have := hx24_0 i (by (first | omega | (have zz0 := Hid.u hi_cn; omega))) hb; (first | omega | (have zz0 := Hid.u hi_cn; omega)))), trivial⟩, by rw [ht]; exact hP, hD⟩, hS.F ht⟩) hS.2.2 (oc_172 143 (aq_21 shX12_batch_122))
                  ·
                    have tc_8 : ((nI i73).toInt : Int) < 20 := Int32.lt_iff_toInt_lt.mp (Int32.not_le.mp c_8)
                    refine lv_iload_n hx hb (oc_27 79 (aq_7 shX12_batch_72)) rfl (lvA3 hl) ?_
                    refine lv_iload_n hx hb (oc_29 80 (aq_8 shX12_batch_72)) rfl (lvA0 hl) ?_
                    refine lv_ishr hx hb (oc_122 81 (aq_9 shX12_batch_72)) ?_
                    refine lv_iconst (v := 1) hx hb (oc_4 82 (aq_10 shX12_batch_72)) kic_1 ?_
                    refine lv_iand hx hb (oc_126 83 (aq_11 shX12_batch_72)) ?_
                    refine lv_iconst (v := 1) hx hb (oc_4 84 (aq_12 shX12_batch_72)) kic_1 ?_
                    refine lv_icmp_ne (tgt := 98) hx hb (oc_160 85 (aq_13 shX12_batch_72) sgw_0_13) rfl (fun c_11 => ?_) (fun c_11 => ?_)
                    ·
                      have tc_11 : (((v0 >>> ((nI i73) &&& 31)) &&& 1).toInt : Int) ≠ 1 := fun q => c_11 (Int32.toInt_inj.mp q)
                      refine lv_iinc (v := (nI (i73 + 1))) (lv' := [(3, .int (nI (i73 + 1))), (2, .int r_5), (0, .ref (g 100)), (1, .int v0)]) hx hb (oc_132 98 (aq_1 shX12_batch_97) ub_3 sgb_1) hl (k := 0) rfl (nI_1 _) (ltb rfl) rfl (fun ls hl => ?_)
                      refine lv_goto (tgt := 73) hx hb (oc_167 101 (aq_4 shX12_batch_97) sgw_255_228) rfl ?_
                      exact ih73 (i73 + 1) F73 _ _ (by (first | omega | (have zz0 := Hid.u hi_cn; omega))) ⟨(by (first | omega | (have zz0 := Hid.u hi_cn; omega))), (Fr.mo hfr73 (sbl rfl) (sbl rfl) (sbl rfl)), hI73⟩ hP hD hS ls (lv_sub hl [0, 1, 2, 3] rfl)
                    ·
                      have tc_11 : (((v0 >>> ((nI i73) &&& 31)) &&& 1).toInt : Int) = 1 := congrArg Int32.toInt c_11
                      refine lv_aload_n hx hb (oc_42 88 (aq_16 shX12_batch_72)) rfl (lvA2 hl) ?_
                      refine gM_46 S hK hP (v := .ref (g 15)) rfl (oc_180 89 (aq_17 shX12_batch_72) uw_0_46) ?_
                      refine lv_iload_n hx hb (oc_29 92 (aq_20 shX12_batch_72)) rfl (lvA0 hl) ?_
                      refine lv_aload_n hx hb (oc_42 93 (aq_21 shX12_batch_72)) rfl (lvA2 hl) ?_
                      refine gM_435 S hK hP (v := .int (nI (cn 62))) rfl (oc_180 94 (aq_22 shX12_batch_72) uw_1_179) ?_
                      have kb_2 : i73 < 60 := by (first | omega | (have zz0 := Hid.u hi_cn; omega))
                      refine stM_15 hx hb hK hP hD hS (Fn2 := (va_up F73 15 (upd (F73 15) i73 (nI (cn 62))))) (vp_in_nI kb_2 (ltb rfl)) (nI_clamp (Nat.lt_trans kb_2 (ltb rfl))) rfl (oc_79 97 shX12_batch_97) (fun H locs hP hD hS => ?_)
                      refine lv_iinc (v := (nI (i73 + 1))) (lv' := [(3, .int (nI (i73 + 1))), (2, .int r_5), (0, .ref (g 100)), (1, .int v0)]) hx hb (oc_132 98 (aq_1 shX12_batch_97) ub_3 sgb_1) hl (k := 0) rfl (nI_1 _) (ltb rfl) rfl (fun ls hl => ?_)
                      refine lv_goto (tgt := 73) hx hb (oc_167 101 (aq_4 shX12_batch_97) sgw_255_228) rfl ?_
                      exact ih73 (i73 + 1) (va_up F73 15 (upd (F73 15) i73 (nI (cn 62)))) _ _ (by (first | omega | (have zz0 := Hid.u hi_cn; omega))) ⟨(by (first | omega | (have zz0 := Hid.u hi_cn; omega))), (Fr.mo (Fr.f 15 hfr73) (sbl rfl) (sbl rfl) (sbl rfl)), (IM.fr (In := In6) hI73 (Fr.f 15 Fr.rf) (by decide) (by decide))⟩ hP hD hS ls (lv_sub hl [0, 1, 2, 3] rfl)
              exact lp_73 _ 0 Fn6 _ _ (Nat.lt_succ_self _) ⟨(by (first | omega | (have zz0 := Hid.u hi_cn; omega))), (Fr.mo hf6 (sbl rfl) (sbl rfl) (sbl rfl)), hIn6⟩ hP hD hS ls (lv_sub hl [0, 1, 2, 3] rfl)
            ·
              have tc_7 : (r_5.toInt : Int) ≠ (-1) := fun q => c_7 (Int32.toInt_inj.mp q)
              refine lv_bipush (v := (-10)) hx hb (oc_16 66 (aq_18 shX12_batch_48) sgb_246) kbc_m10 ?_
              refine lv_iload_n hx hb (oc_28 68 (aq_20 shX12_batch_48)) rfl (lvA0 hl) ?_
              refine lv_isub hx hb (oc_100 69 (aq_21 shX12_batch_48)) ?_
              exact W.iret (v := ((-10) - r_5)) hx hb hr (fun t ht hW => ⟨⟨((-10) - r_5), (cn, In6, Fn6), rfl, ⟨(Fr.mo hf6 (sbl rfl) (sbl rfl) (sbl rfl)), hIn6, trivial⟩, by rw [ht]; exact hP, hD⟩, hS.F ht⟩) hS.2.2 (oc_172 70 (aq_22 shX12_batch_48))
          ·
            have tc_4 : ((nI i24).toInt : Int) < 20 := Int32.lt_iff_toInt_lt.mp (Int32.not_le.mp c_4)
            refine lv_iload_n hx hb (oc_27 30 (aq_6 shX12_batch_24)) rfl (lvA2 hl) ?_
            refine lv_iload_n hx hb (oc_28 31 (aq_7 shX12_batch_24)) rfl (lvA0 hl) ?_
            refine lv_ishr hx hb (oc_122 32 (aq_8 shX12_batch_24)) ?_
            refine lv_iconst (v := 1) hx hb (oc_4 33 (aq_9 shX12_batch_24)) kic_1 ?_
            refine lv_iand hx hb (oc_126 34 (aq_10 shX12_batch_24)) ?_
            refine lv_iconst (v := 1) hx hb (oc_4 35 (aq_11 shX12_batch_24)) kic_1 ?_
            refine lv_icmp_ne (tgt := 49) hx hb (oc_160 36 (aq_12 shX12_batch_24) sgw_0_13) rfl (fun c_12 => ?_) (fun c_12 => ?_)
            ·
              have tc_12 : (((v0 >>> ((nI i24) &&& 31)) &&& 1).toInt : Int) ≠ 1 := fun q => c_12 (Int32.toInt_inj.mp q)
              refine lv_iinc (v := (nI (i24 + 1))) (lv' := [(2, .int (nI (i24 + 1))), (0, .ref (g 100)), (1, .int v0)]) hx hb (oc_132 49 (aq_1 shX12_batch_48) ub_2 sgb_1) hl (k := 0) rfl (nI_1 _) (ltb rfl) rfl (fun ls hl => ?_)
              refine lv_goto (tgt := 24) hx hb (oc_167 52 (aq_4 shX12_batch_48) sgw_255_228) rfl ?_
              exact ih24 (i24 + 1) (by (first | omega | (have zz0 := Hid.u hi_cn; omega))) ⟨(by (first | omega | (have zz0 := Hid.u hi_cn; omega))), (fun i hi hb => if q : i < i24 then hx24_0 i q hb else (by have e9 : i = i24 := (by (first | omega | (have zz0 := Hid.u hi_cn; omega))); rw [e9] at hb ⊢; first | (first | omega | (have zz0 := Hid.u hi_cn; omega)) | exact absurd ((bit01 _).resolve_right (by assumption)) hb))⟩ ls (lv_sub hl [0, 1, 2] rfl)
            ·
              have tc_12 : (((v0 >>> ((nI i24) &&& 31)) &&& 1).toInt : Int) = 1 := congrArg Int32.toInt c_12
              refine lv_aload_n hx hb (oc_42 39 (aq_15 shX12_batch_24)) rfl (lvA1 hl) ?_
              refine lv_iload_n hx hb (oc_28 40 (aq_16 shX12_batch_24)) rfl (lvA0 hl) ?_
              refine vp_callSi (runV_ra (As := [.int (nI i24)]) (rest := []) S (q_isFree l D cI cB cZ g cn In Fn (nI i24) hI) kV_RX12_438 hK hP 0 rfl rfl rfl ⟨Nat.le_of_ble_eq_true rfl, Nat.le_of_ble_eq_true rfl⟩ ⟨Nat.le_of_ble_eq_true rfl, Nat.le_of_ble_eq_true rfl⟩ rfl hl.1 rfl (Nat.le_of_ble_eq_true rfl) (oc_182 41 (aq_17 shX12_batch_24) uw_1_182)) (fun r_13 h_14 => ?_)
              rcases h_14 with rfl | ⟨rfl, h_14⟩
              ·
                refine lv_if_ne (tgt := 49) hx hb (oc_154 44 (aq_20 shX12_batch_24) sgw_0_5) rfl (fun h => absurd h cq_eq_0_0) (fun _ => ?_)
                refine lv_iconst (v := (-1)) hx hb (oc_2 47 (aq_23 shX12_batch_24)) kic_m1 ?_
                exact W.iret (v := (-1)) hx hb hr (fun t ht hW => ⟨⟨(-1), (cn, In, Fn), rfl, ⟨(Fr.mo Fr.rf (sbl rfl) (sbl rfl) (sbl rfl)), hI, trivial⟩, by rw [ht]; exact hP, hD⟩, hS.F ht⟩) hS.2.2 (oc_172 48 shX12_batch_48)
              ·
                have h_14 : 0 ≤ (nI i24).toInt ∧ (nI i24).toInt < ((cn 2) : Int) := h_14
                refine lv_if_ne (tgt := 49) hx hb (oc_154 44 (aq_20 shX12_batch_24) sgw_0_5) rfl (fun _ => ?_) (fun h => absurd h cq_eq_1_0)
                refine lv_iinc (v := (nI (i24 + 1))) (lv' := [(2, .int (nI (i24 + 1))), (0, .ref (g 100)), (1, .int v0)]) hx hb (oc_132 49 (aq_1 shX12_batch_48) ub_2 sgb_1) hl (k := 0) rfl (nI_1 _) (ltb rfl) rfl (fun ls hl => ?_)
                refine lv_goto (tgt := 24) hx hb (oc_167 52 (aq_4 shX12_batch_48) sgw_255_228) rfl ?_
                exact ih24 (i24 + 1) (by (first | omega | (have zz0 := Hid.u hi_cn; omega))) ⟨(by (first | omega | (have zz0 := Hid.u hi_cn; omega))), (fun i hi hb => if q : i < i24 then hx24_0 i q hb else (by have e9 : i = i24 := (by (first | omega | (have zz0 := Hid.u hi_cn; omega))); rw [e9] at hb ⊢; first | (first | omega | (have zz0 := Hid.u hi_cn; omega)) | exact absurd ((bit01 _).resolve_right (by assumption)) hb))⟩ ls (lv_sub hl [0, 1, 2] rfl)
      exact lp_24 _ 0 (Nat.lt_succ_self _) ⟨(by (first | omega | (have zz0 := Hid.u hi_cn; omega))), (fun i hi => absurd hi (Nat.not_lt_zero i))⟩ ls (lv_sub hl [0, 1, 2] rfl)
    ·
      have tc_3 : ((nI (cn 62)).toInt : Int) = 10 := congrArg Int32.toInt c_3
      refine lv_iconst (v := (-1)) hx hb (oc_2 20 (aq_20 shX12_batch_0)) kic_m1 ?_
      exact W.iret (v := (-1)) hx hb hr (fun t ht hW => ⟨⟨(-1), (cn, In, Fn), rfl, ⟨(Fr.mo Fr.rf (sbl rfl) (sbl rfl) (sbl rfl)), hI, trivial⟩, by rw [ht]; exact hP, hD⟩, hS.F ht⟩) hS.2.2 (oc_172 21 (aq_21 shX12_batch_0))
  ·
    have h_2 : ¬ (1 ≤ v0.toInt ∧ v0.toInt ≤ 1048575) := h_2
    refine lv_if_eq (tgt := 20) hx hb (oc_153 8 (aq_8 shX12_batch_0) sgw_0_12) rfl (fun _ => ?_) (fun h => absurd h cq_eq_0_0)
    refine lv_iconst (v := (-1)) hx hb (oc_2 20 (aq_20 shX12_batch_0)) kic_m1 ?_
    exact W.iret (v := (-1)) hx hb hr (fun t ht hW => ⟨⟨(-1), (cn, In, Fn), rfl, ⟨(Fr.mo Fr.rf (sbl rfl) (sbl rfl) (sbl rfl)), hI, trivial⟩, by rw [ht]; exact hP, hD⟩, hS.F ht⟩) hS.2.2 (oc_172 21 (aq_21 shX12_batch_0))
set_option maxRecDepth 100000 in
set_option maxHeartbeats 4000000 in
theorem q_blend (l : Launch) (D : va_G) (cI cB cZ : ClassId) (g : Nat → Nat) (cn : Nat → Nat) (In : Nat → Int32) (Fn : Nat → Nat → Int32)  (sz : Nat) (hI : IM cn Fn) : Met l yX12_blend (CWS yX12_blend cX12_blend 7 (some .int)) (RM 3 0 0) (PBw [.ref (g 100)] D cI cB cZ (wM cI cB cZ g cn In Fn) sz) (va_Qi (fun (r : Int32) (u : (Nat → Nat) × (Nat → Int32) × (Nat → Nat → Int32)) => (fun r c2 I2 F2 => Fr [] [71, 72, 73] [37, 38, 74] cn In Fn c2 I2 F2 ∧ IM c2 F2 ∧ (True)) r u.1 u.2.1 u.2.2) (fun (u : (Nat → Nat) × (Nat → Int32) × (Nat → Nat → Int32)) (t : State) => va_P D vwCl (wM cI cB cZ g u.1 u.2.1 u.2.2) t.heap ∧ va_D (va_A (wM cI cB cZ g cn In Fn) sz) (wM cI cB cZ g u.1 u.2.1 u.2.2)) (va_A (wM cI cB cZ g cn In Fn) sz)) 0 0 (va_A (wM cI cB cZ g cn In Fn) sz) := by
  refine en_w (fun A => (va_Qi (fun (r : Int32) (u : (Nat → Nat) × (Nat → Int32) × (Nat → Nat → Int32)) => (fun (r : Int32) (c2 : Nat → Nat) (I2 : Nat → Int32) (F2 : Nat → Nat → Int32) => Fr [] [71, 72, 73] [37, 38, 74] cn In Fn c2 I2 F2 ∧ IM c2 F2 ∧ (True)) r u.1 u.2.1 u.2.2) (fun (u : (Nat → Nat) × (Nat → Int32) × (Nat → Nat → Int32)) (t : State) => va_P D vwCl (wM cI cB cZ g u.1 u.2.1 u.2.2) t.heap ∧ va_D A (wM cI cB cZ g u.1 u.2.1 u.2.2)) A)) rfl rfl pn_RX12 (Nat.le_of_ble_eq_true rfl) (fun p e s m below meth c A hx hb hml hown S hr hlocks hnm hA hP hK hD hS ls hl => ?_)
  have hl : lv_has ls 7 [(0, .ref (g 100))] := hl
  have hi_cn : Hid (CB cn) := hI.b
  refine lv_iconst (v := 0) hx hb (oc_3 0 shX12_blend_0) kic_0 ?_
  refine lv_istore_n (lv' := [(1, .int 0), (0, .ref (g 100))]) hx hb (oc_60 1 (aq_1 shX12_blend_0)) rfl hl (ltb rfl) rfl (fun ls hl => ?_)
  refine lv_iconst (v := 0) hx hb (oc_3 2 (aq_2 shX12_blend_0)) kic_0 ?_
  refine lv_istore_n (lv' := [(2, .int 0), (1, .int 0), (0, .ref (g 100))]) hx hb (oc_61 3 (aq_3 shX12_blend_0)) rfl hl (ltb rfl) rfl (fun ls hl => ?_)
  have lp_4 : ∀ (n : Nat) (i4 : Nat) (n4 : Nat) (F4 : Nat → Nat → Int32) (H : Heap) (locs : List Loc) , 20 - i4 < n → (i4 ≤ 20 ∧ Fr [] [71, 72, 73] [37, 38, 74] cn In Fn cn In F4 ∧ IM cn F4 ∧ (n4 ≤ i4 ∧ n4 ≤ 12)) → va_P D vwCl (wM cI cB cZ g cn In F4) H → va_D A (wM cI cB cZ g cn In F4) → va_S A s.heap H locs → ∀ ls : Array Slot, lv_has ls 7 [(2, .int (nI i4)), (1, .int (nI n4)), (0, .ref (g 100))] → W p l e (RM 3 0 0) s m ([.ref (g 100)]).toArray below meth c H locs 0 0 (MQ below (va_Qi (fun (r : Int32) (u : (Nat → Nat) × (Nat → Int32) × (Nat → Nat → Int32)) => (fun r c2 I2 F2 => Fr [] [71, 72, 73] [37, 38, 74] cn In Fn c2 I2 F2 ∧ IM c2 F2 ∧ (True)) r u.1 u.2.1 u.2.2) (fun (u : (Nat → Nat) × (Nat → Int32) × (Nat → Nat → Int32)) (t : State) => va_P D vwCl (wM cI cB cZ g u.1 u.2.1 u.2.2) t.heap ∧ va_D A (wM cI cB cZ g u.1 u.2.1 u.2.2)) A) ([.ref (g 100)]).toArray s 0 0 A) (F0 m 4 ls []) := by
    intro n4
    induction n4 with
    | zero => intros; (first | omega | (have zz0 := Hid.u hi_cn; omega))
    | succ n4 ih4 =>
      intro i4 n4 F4 H locs hmu4 hinv4 hP hD hS ls hl
      obtain ⟨hr4, hfr4, hI4, hx4_0⟩ := hinv4
      have ti4 : (nI i4).toInt = (i4 : Int) := nI_toInt (by (first | omega | (have zz0 := Hid.u hi_cn; omega)))
      have hi_cn : Hid (CB cn) := hI4.b
      refine lv_iload_n hx hb (oc_28 4 (aq_4 shX12_blend_0)) rfl (lvA0 hl) ?_
      refine lv_bipush (v := 20) hx hb (oc_16 5 (aq_5 shX12_blend_0) sgb_20) kbc_20 ?_
      refine lv_icmp_ge (tgt := 44) hx hb (oc_162 7 (aq_7 shX12_blend_0) sgw_0_37) rfl (fun c_1 => ?_) (fun c_1 => ?_)
      ·
        have tc_1 : (20 : Int) ≤ (nI i4).toInt := Int32.le_iff_toInt_le.mp c_1
        have h2p := p2b (n := n4) (by (first | omega | (have zz0 := Hid.u hi_cn; omega)))
        refine lv_iconst (v := 0) hx hb (oc_3 44 (aq_20 shX12_blend_24)) kic_0 ?_
        refine lv_istore_n (lv' := [(2, .int 0), (1, .int (nI n4)), (0, .ref (g 100))]) hx hb (oc_61 45 (aq_21 shX12_blend_24)) rfl hl (ltb rfl) rfl (fun ls hl => ?_)
        refine lv_iconst (v := 0) hx hb (oc_3 46 (aq_22 shX12_blend_24)) kic_0 ?_
        refine lv_istore_n (lv' := [(3, .int 0), (2, .int 0), (1, .int (nI n4)), (0, .ref (g 100))]) hx hb (oc_62 47 (aq_23 shX12_blend_24)) rfl hl (ltb rfl) rfl (fun ls hl => ?_)
        refine lv_iconst (v := 1) hx hb (oc_4 48 shX12_blend_48) kic_1 ?_
        refine lv_istore (lv' := [(4, .int 1), (3, .int 0), (2, .int 0), (1, .int (nI n4)), (0, .ref (g 100))]) hx hb (oc_54 49 (aq_1 shX12_blend_48) ub_4) hl (ltb rfl) rfl (fun ls hl => ?_)
        have lp_51 : ∀ (n : Nat) (i51 : Nat) (x51_2 : Int32) (x51_3 : Int32) (I51 : Nat → Int32) (F51 : Nat → Nat → Int32) (H : Heap) (locs : List Loc) , 2 ^ n4 - i51 < n → (i51 ≤ 2 ^ n4 ∧ Fr [] [71, 72, 73] [37, 38, 74] cn In Fn cn I51 F51 ∧ IM cn F51) → va_P D vwCl (wM cI cB cZ g cn I51 F51) H → va_D A (wM cI cB cZ g cn I51 F51) → va_S A s.heap H locs → ∀ ls : Array Slot, lv_has ls 7 [(4, .int (nI i51)), (3, .int x51_3), (2, .int x51_2), (1, .int (nI n4)), (0, .ref (g 100))] → W p l e (RM 3 0 0) s m ([.ref (g 100)]).toArray below meth c H locs 0 0 (MQ below (va_Qi (fun (r : Int32) (u : (Nat → Nat) × (Nat → Int32) × (Nat → Nat → Int32)) => (fun r c2 I2 F2 => Fr [] [71, 72, 73] [37, 38, 74] cn In Fn c2 I2 F2 ∧ IM c2 F2 ∧ (True)) r u.1 u.2.1 u.2.2) (fun (u : (Nat → Nat) × (Nat → Int32) × (Nat → Nat → Int32)) (t : State) => va_P D vwCl (wM cI cB cZ g u.1 u.2.1 u.2.2) t.heap ∧ va_D A (wM cI cB cZ g u.1 u.2.1 u.2.2)) A) ([.ref (g 100)]).toArray s 0 0 A) (F0 m 51 ls []) := by
          intro n51
          induction n51 with
          | zero => intros; (first | omega | (have zz0 := Hid.u hi_cn; omega))
          | succ n51 ih51 =>
            intro i51 x51_2 x51_3 I51 F51 H locs hmu51 hinv51 hP hD hS ls hl
            obtain ⟨hr51, hfr51, hI51⟩ := hinv51
            have ti51 : (nI i51).toInt = (i51 : Int) := nI_toInt (by (first | omega | (have zz0 := Hid.u hi_cn; omega)))
            have hi_cn : Hid (CB cn) := hI51.b
            refine lv_iload hx hb (oc_21 51 (aq_3 shX12_blend_48) ub_4) (lvA0 hl) ?_
            refine lv_iconst (v := 1) hx hb (oc_4 53 (aq_5 shX12_blend_48)) kic_1 ?_
            refine lv_iload_n hx hb (oc_27 54 (aq_6 shX12_blend_48)) rfl (lvA3 hl) ?_
            refine lv_ishl hx hb (oc_120 55 (aq_7 shX12_blend_48)) ?_
            refine lv_topi (fun y_2 ey_2 => ?_)
            obtain rfl : y_2 = (nI (2 ^ n4)) := ey_2.trans (sh1 (by (first | omega | (have zz0 := Hid.u hi_cn; omega))))
            have : (nI (2 ^ n4)).toInt = (((2 ^ n4) : Nat) : Int) := nI_toInt (by (first | omega | (have zz0 := Hid.u hi_cn; omega)))
            refine lv_icmp_ge (tgt := 166) hx hb (oc_162 56 (aq_8 shX12_blend_48) sgw_0_110) rfl (fun c_3 => ?_) (fun c_3 => ?_)
            ·
              have tc_3 : ((nI (2 ^ n4)).toInt : Int) ≤ (nI i51).toInt := Int32.le_iff_toInt_le.mp c_3
              refine lv_iload_n hx hb (oc_28 166 (aq_20 shX12_blend_146)) rfl (lvA2 hl) ?_
              exact W.iret (v := x51_2) hx hb hr (fun t ht hW => ⟨⟨x51_2, (cn, I51, F51), rfl, ⟨(Fr.mo hfr51 (sbl rfl) (sbl rfl) (sbl rfl)), hI51, trivial⟩, by rw [ht]; exact hP, hD⟩, hS.F ht⟩) hS.2.2 (oc_172 167 (aq_21 shX12_blend_146))
            ·
              have tc_3 : ((nI i51).toInt : Int) < (nI (2 ^ n4)).toInt := Int32.lt_iff_toInt_lt.mp (Int32.not_le.mp c_3)
              refine lv_iconst (v := 0) hx hb (oc_3 59 (aq_11 shX12_blend_48)) kic_0 ?_
              refine lv_istore (lv' := [(5, .int 0), (4, .int (nI i51)), (3, .int x51_3), (2, .int x51_2), (1, .int (nI n4)), (0, .ref (g 100))]) hx hb (oc_54 60 (aq_12 shX12_blend_48) ub_5) hl (ltb rfl) rfl (fun ls hl => ?_)
              refine lv_iconst (v := 0) hx hb (oc_3 62 (aq_14 shX12_blend_48)) kic_0 ?_
              refine lv_istore (lv' := [(6, .int 0), (5, .int 0), (4, .int (nI i51)), (3, .int x51_3), (2, .int x51_2), (1, .int (nI n4)), (0, .ref (g 100))]) hx hb (oc_54 63 (aq_15 shX12_blend_48) ub_6) hl (ltb rfl) rfl (fun ls hl => ?_)
              have lp_65 : ∀ (n : Nat) (i65 : Nat) (x65_5 : Int32) , n4 - i65 < n → (i65 ≤ n4) → ∀ ls : Array Slot, lv_has ls 7 [(6, .int (nI i65)), (5, .int x65_5), (4, .int (nI i51)), (3, .int x51_3), (2, .int x51_2), (1, .int (nI n4)), (0, .ref (g 100))] → W p l e (RM 3 0 0) s m ([.ref (g 100)]).toArray below meth c H locs 0 0 (MQ below (va_Qi (fun (r : Int32) (u : (Nat → Nat) × (Nat → Int32) × (Nat → Nat → Int32)) => (fun r c2 I2 F2 => Fr [] [71, 72, 73] [37, 38, 74] cn In Fn c2 I2 F2 ∧ IM c2 F2 ∧ (True)) r u.1 u.2.1 u.2.2) (fun (u : (Nat → Nat) × (Nat → Int32) × (Nat → Nat → Int32)) (t : State) => va_P D vwCl (wM cI cB cZ g u.1 u.2.1 u.2.2) t.heap ∧ va_D A (wM cI cB cZ g u.1 u.2.1 u.2.2)) A) ([.ref (g 100)]).toArray s 0 0 A) (F0 m 65 ls []) := by
                intro n65
                induction n65 with
                | zero => intros; (first | omega | (have zz0 := Hid.u hi_cn; omega))
                | succ n65 ih65 =>
                  intro i65 x65_5 hmu65 hinv65 ls hl
                  have hr65 := hinv65
                  have ti65 : (nI i65).toInt = (i65 : Int) := nI_toInt (by (first | omega | (have zz0 := Hid.u hi_cn; omega)))
                  refine lv_iload hx hb (oc_21 65 (aq_17 shX12_blend_48) ub_6) (lvA0 hl) ?_
                  refine lv_iload_n hx hb (oc_27 67 (aq_19 shX12_blend_48)) rfl (lvA5 hl) ?_
                  have : (nI n4).toInt = ((n4 : Nat) : Int) := nI_toInt (by (first | omega | (have zz0 := Hid.u hi_cn; omega)))
                  refine lv_icmp_ge (tgt := 107) hx hb (oc_162 68 (aq_20 shX12_blend_48) sgw_0_39) rfl (fun c_4 => ?_) (fun c_4 => ?_)
                  ·
                    have tc_4 : ((nI n4).toInt : Int) ≤ (nI i65).toInt := Int32.le_iff_toInt_le.mp c_4
                    refine lv_aload_n hx hb (oc_42 107 (aq_10 shX12_blend_97)) rfl (lvA6 hl) ?_
                    refine lv_iload hx hb (oc_21 108 (aq_11 shX12_blend_97) ub_5) (lvA1 hl) ?_
                    have hFc := free_all hD hS hA
                    refine va_calli (runV_a (As := [.int x65_5]) (rest := []) S (q_whyNot l D cI cB cZ g cn I51 F51 x65_5 H.size hI51) kV_RX12_441 hK hP hD 0 rfl rfl rfl ⟨Nat.le_of_ble_eq_true rfl, Nat.le_of_ble_eq_true rfl⟩ ⟨Nat.le_of_ble_eq_true rfl, Nat.le_of_ble_eq_true rfl⟩ rfl hl.1 rfl (Nat.le_of_ble_eq_true rfl) (oc_182 110 (aq_13 shX12_blend_97) uw_1_185)) hS (fun q _ h => hFc q h) hFc (fun r_5 u t H1 locs ht hvm wh_6 hB hz1 hk1 hS => ?_)
                    obtain ⟨cn6, In6, Fn6⟩ := u
                    obtain ⟨hP1, hD1⟩ := hB
                    rw [ht] at hP1
                    have hP : va_P D vwCl (wM cI cB cZ g cn6 In6 Fn6) H1 := hP1
                    have hD : va_D A (wM cI cB cZ g cn6 In6 Fn6) := hD1.weaken (fun _ _ _ h => hFc _ h)
                    generalize H1 = H at hP hS ⊢
                    have vh_6 : (fun r c2 I2 F2 => Fr [] [71, 72, 73] [37, 38] cn I51 F51 c2 I2 F2 ∧ IM c2 F2 ∧ (True)) r_5 cn6 In6 Fn6 := wh_6
                    obtain ⟨hfc6, hIn6, h_6⟩ := vh_6
                    obtain rfl : cn = cn6 := (funext (fun k => hfc6.1 k List.not_mem_nil)).symm
                    have hf6 : Fr [] [71, 72, 73] [37, 38, 74] cn In Fn cn In6 Fn6 := Fr.mo (Fr.tr hfr51 hfc6) (sbl rfl) (sbl rfl) (sbl rfl)
                    have hi_cn : Hid (CB cn) := hIn6.b
                    refine lv_iconst (v := (-1)) hx hb (oc_2 113 (aq_16 shX12_blend_97)) kic_m1 ?_
                    refine lv_icmp_ne (tgt := 160) hx hb (oc_160 114 (aq_17 shX12_blend_97) sgw_0_46) rfl (fun c_7 => ?_) (fun c_7 => ?_)
                    ·
                      have tc_7 : (r_5.toInt : Int) ≠ (-1) := fun q => c_7 (Int32.toInt_inj.mp q)
                      refine lv_iinc (v := (nI (i51 + 1))) (lv' := [(4, .int (nI (i51 + 1))), (6, .int (nI i65)), (5, .int x65_5), (3, .int x51_3), (2, .int x51_2), (1, .int (nI n4)), (0, .ref (g 100))]) hx hb dX12_blend_160 hl (k := 2) rfl (nI_1 _) (ltb rfl) rfl (fun ls hl => ?_)
                      refine lv_goto (tgt := 51) hx hb dX12_blend_163 rfl ?_
                      exact ih51 (i51 + 1) x51_2 x51_3 In6 Fn6 _ _ (by (first | omega | (have zz0 := Hid.u hi_cn; omega))) ⟨(by (first | omega | (have zz0 := Hid.u hi_cn; omega))), (Fr.mo hf6 (sbl rfl) (sbl rfl) (sbl rfl)), hIn6⟩ hP hD hS ls (lv_sub hl [0, 3, 4, 5, 6] rfl)
                    ·
                      have tc_7 : (r_5.toInt : Int) = (-1) := congrArg Int32.toInt c_7
                      refine lv_iload_n hx hb (oc_28 117 (aq_20 shX12_blend_97)) rfl (lvA4 hl) ?_
                      refine lv_if_eq (tgt := 152) hx hb (oc_153 118 (aq_21 shX12_blend_97) sgw_0_34) rfl (fun c_8 => ?_) (fun c_8 => ?_)
                      ·
                        have tc_8 : (x51_2.toInt : Int) = 0 := congrArg Int32.toInt c_8
                        refine lv_iload hx hb dX12_blend_152 (lvA1 hl) ?_
                        refine lv_istore_n (lv' := [(2, .int x65_5), (6, .int (nI i65)), (5, .int x65_5), (4, .int (nI i51)), (3, .int x51_3), (1, .int (nI n4)), (0, .ref (g 100))]) hx hb dX12_blend_154 rfl hl (ltb rfl) rfl (fun ls hl => ?_)
                        refine lv_aload_n hx hb dX12_blend_155 rfl (lvA6 hl) ?_
                        refine gM_419 S hK hP (v := .int (In6 71)) rfl dX12_blend_156 ?_
                        refine lv_istore_n (lv' := [(3, .int (In6 71)), (2, .int x65_5), (6, .int (nI i65)), (5, .int x65_5), (4, .int (nI i51)), (1, .int (nI n4)), (0, .ref (g 100))]) hx hb dX12_blend_159 rfl hl (ltb rfl) rfl (fun ls hl => ?_)
                        refine lv_iinc (v := (nI (i51 + 1))) (lv' := [(4, .int (nI (i51 + 1))), (3, .int (In6 71)), (2, .int x65_5), (6, .int (nI i65)), (5, .int x65_5), (1, .int (nI n4)), (0, .ref (g 100))]) hx hb dX12_blend_160 hl (k := 4) rfl (nI_1 _) (ltb rfl) rfl (fun ls hl => ?_)
                        refine lv_goto (tgt := 51) hx hb dX12_blend_163 rfl ?_
                        exact ih51 (i51 + 1) x65_5 (In6 71) In6 Fn6 _ _ (by (first | omega | (have zz0 := Hid.u hi_cn; omega))) ⟨(by (first | omega | (have zz0 := Hid.u hi_cn; omega))), (Fr.mo hf6 (sbl rfl) (sbl rfl) (sbl rfl)), hIn6⟩ hP hD hS ls (lv_sub hl [0, 1, 2, 5, 6] rfl)
                      ·
                        have tc_8 : (x51_2.toInt : Int) ≠ 0 := fun q => c_8 (Int32.toInt_inj.mp q)
                        refine lv_aload_n hx hb (oc_42 121 shX12_blend_121) rfl (lvA6 hl) ?_
                        refine gM_419 S hK hP (v := .int (In6 71)) rfl (oc_180 122 (aq_1 shX12_blend_121) uw_1_163) ?_
                        refine lv_iload_n hx hb (oc_29 125 (aq_4 shX12_blend_121)) rfl (lvA3 hl) ?_
                        refine lv_icmp_lt (tgt := 160) hx hb (oc_161 126 (aq_5 shX12_blend_121) sgw_0_34) rfl (fun c_9 => ?_) (fun c_9 => ?_)
                        ·
                          have tc_9 : ((In6 71).toInt : Int) < x51_3.toInt := Int32.lt_iff_toInt_lt.mp c_9
                          refine lv_iinc (v := (nI (i51 + 1))) (lv' := [(4, .int (nI (i51 + 1))), (6, .int (nI i65)), (5, .int x65_5), (3, .int x51_3), (2, .int x51_2), (1, .int (nI n4)), (0, .ref (g 100))]) hx hb dX12_blend_160 hl (k := 2) rfl (nI_1 _) (ltb rfl) rfl (fun ls hl => ?_)
                          refine lv_goto (tgt := 51) hx hb dX12_blend_163 rfl ?_
                          exact ih51 (i51 + 1) x51_2 x51_3 In6 Fn6 _ _ (by (first | omega | (have zz0 := Hid.u hi_cn; omega))) ⟨(by (first | omega | (have zz0 := Hid.u hi_cn; omega))), (Fr.mo hf6 (sbl rfl) (sbl rfl) (sbl rfl)), hIn6⟩ hP hD hS ls (lv_sub hl [0, 3, 4, 5, 6] rfl)
                        ·
                          have tc_9 : (x51_3.toInt : Int) ≤ (In6 71).toInt := Int32.le_iff_toInt_le.mp (Int32.not_lt.mp c_9)
                          refine lv_aload_n hx hb (oc_42 129 (aq_8 shX12_blend_121)) rfl (lvA6 hl) ?_
                          refine gM_419 S hK hP (v := .int (In6 71)) rfl (oc_180 130 (aq_9 shX12_blend_121) uw_1_163) ?_
                          refine lv_iload_n hx hb (oc_29 133 (aq_12 shX12_blend_121)) rfl (lvA3 hl) ?_
                          refine lv_icmp_ne (tgt := 152) hx hb (oc_160 134 (aq_13 shX12_blend_121) sgw_0_18) rfl (fun c_10 => ?_) (fun c_10 => ?_)
                          ·
                            have tc_10 : ((In6 71).toInt : Int) ≠ x51_3.toInt := fun q => c_10 (Int32.toInt_inj.mp q)
                            refine lv_iload hx hb dX12_blend_152 (lvA1 hl) ?_
                            refine lv_istore_n (lv' := [(2, .int x65_5), (6, .int (nI i65)), (5, .int x65_5), (4, .int (nI i51)), (3, .int x51_3), (1, .int (nI n4)), (0, .ref (g 100))]) hx hb dX12_blend_154 rfl hl (ltb rfl) rfl (fun ls hl => ?_)
                            refine lv_aload_n hx hb dX12_blend_155 rfl (lvA6 hl) ?_
                            refine gM_419 S hK hP (v := .int (In6 71)) rfl dX12_blend_156 ?_
                            refine lv_istore_n (lv' := [(3, .int (In6 71)), (2, .int x65_5), (6, .int (nI i65)), (5, .int x65_5), (4, .int (nI i51)), (1, .int (nI n4)), (0, .ref (g 100))]) hx hb dX12_blend_159 rfl hl (ltb rfl) rfl (fun ls hl => ?_)
                            refine lv_iinc (v := (nI (i51 + 1))) (lv' := [(4, .int (nI (i51 + 1))), (3, .int (In6 71)), (2, .int x65_5), (6, .int (nI i65)), (5, .int x65_5), (1, .int (nI n4)), (0, .ref (g 100))]) hx hb dX12_blend_160 hl (k := 4) rfl (nI_1 _) (ltb rfl) rfl (fun ls hl => ?_)
                            refine lv_goto (tgt := 51) hx hb dX12_blend_163 rfl ?_
                            exact ih51 (i51 + 1) x65_5 (In6 71) In6 Fn6 _ _ (by (first | omega | (have zz0 := Hid.u hi_cn; omega))) ⟨(by (first | omega | (have zz0 := Hid.u hi_cn; omega))), (Fr.mo hf6 (sbl rfl) (sbl rfl) (sbl rfl)), hIn6⟩ hP hD hS ls (lv_sub hl [0, 1, 2, 5, 6] rfl)
                          ·
                            have tc_10 : ((In6 71).toInt : Int) = x51_3.toInt := congrArg Int32.toInt c_10
                            refine lv_iload hx hb (oc_21 137 (aq_16 shX12_blend_121) ub_5) (lvA1 hl) ?_
                            refine vp_callSi (runS_r (As := [.int x65_5]) (rest := []) S (q_bits l D cI cB cZ x65_5 ) kS_RX12_431 hK hP [] rfl ⟨Nat.le_of_ble_eq_true rfl, Nat.le_of_ble_eq_true rfl⟩ ⟨Nat.le_of_ble_eq_true rfl, Nat.le_of_ble_eq_true rfl⟩ rfl hl.1 rfl (Nat.le_of_ble_eq_true rfl) (oc_184 139 (aq_18 shX12_blend_121) uw_1_175)) (fun r_11 h_12 => ?_)
                            refine lv_iload_n hx hb (oc_28 142 (aq_21 shX12_blend_121)) rfl (lvA4 hl) ?_
                            refine vp_callSi (runS_r (As := [.int x51_2]) (rest := [.int r_11]) S (q_bits l D cI cB cZ x51_2 ) kS_RX12_431 hK hP [] rfl ⟨Nat.le_of_ble_eq_true rfl, Nat.le_of_ble_eq_true rfl⟩ ⟨Nat.le_of_ble_eq_true rfl, Nat.le_of_ble_eq_true rfl⟩ rfl hl.1 rfl (Nat.le_of_ble_eq_true rfl) (oc_184 143 (aq_22 shX12_blend_121) uw_1_175)) (fun r_13 h_14 => ?_)
                            refine lv_icmp_lt (tgt := 152) hx hb (oc_161 146 shX12_blend_146 sgw_0_6) rfl (fun c_15 => ?_) (fun c_15 => ?_)
                            ·
                              have tc_15 : (r_11.toInt : Int) < r_13.toInt := Int32.lt_iff_toInt_lt.mp c_15
                              refine lv_iload hx hb dX12_blend_152 (lvA1 hl) ?_
                              refine lv_istore_n (lv' := [(2, .int x65_5), (6, .int (nI i65)), (5, .int x65_5), (4, .int (nI i51)), (3, .int x51_3), (1, .int (nI n4)), (0, .ref (g 100))]) hx hb dX12_blend_154 rfl hl (ltb rfl) rfl (fun ls hl => ?_)
                              refine lv_aload_n hx hb dX12_blend_155 rfl (lvA6 hl) ?_
                              refine gM_419 S hK hP (v := .int (In6 71)) rfl dX12_blend_156 ?_
                              refine lv_istore_n (lv' := [(3, .int (In6 71)), (2, .int x65_5), (6, .int (nI i65)), (5, .int x65_5), (4, .int (nI i51)), (1, .int (nI n4)), (0, .ref (g 100))]) hx hb dX12_blend_159 rfl hl (ltb rfl) rfl (fun ls hl => ?_)
                              refine lv_iinc (v := (nI (i51 + 1))) (lv' := [(4, .int (nI (i51 + 1))), (3, .int (In6 71)), (2, .int x65_5), (6, .int (nI i65)), (5, .int x65_5), (1, .int (nI n4)), (0, .ref (g 100))]) hx hb dX12_blend_160 hl (k := 4) rfl (nI_1 _) (ltb rfl) rfl (fun ls hl => ?_)
                              refine lv_goto (tgt := 51) hx hb dX12_blend_163 rfl ?_
                              exact ih51 (i51 + 1) x65_5 (In6 71) In6 Fn6 _ _ (by (first | omega | (have zz0 := Hid.u hi_cn; omega))) ⟨(by (first | omega | (have zz0 := Hid.u hi_cn; omega))), (Fr.mo hf6 (sbl rfl) (sbl rfl) (sbl rfl)), hIn6⟩ hP hD hS ls (lv_sub hl [0, 1, 2, 5, 6] rfl)
                            ·
                              have tc_15 : (r_13.toInt : Int) ≤ r_11.toInt := Int32.le_iff_toInt_le.mp (Int32.not_lt.mp c_15)
                              refine lv_goto (tgt := 160) hx hb (oc_167 149 (aq_3 shX12_blend_146) sgw_0_11) rfl ?_
                              refine lv_iinc (v := (nI (i51 + 1))) (lv' := [(4, .int (nI (i51 + 1))), (6, .int (nI i65)), (5, .int x65_5), (3, .int x51_3), (2, .int x51_2), (1, .int (nI n4)), (0, .ref (g 100))]) hx hb dX12_blend_160 hl (k := 2) rfl (nI_1 _) (ltb rfl) rfl (fun ls hl => ?_)
                              refine lv_goto (tgt := 51) hx hb dX12_blend_163 rfl ?_
                              exact ih51 (i51 + 1) x51_2 x51_3 In6 Fn6 _ _ (by (first | omega | (have zz0 := Hid.u hi_cn; omega))) ⟨(by (first | omega | (have zz0 := Hid.u hi_cn; omega))), (Fr.mo hf6 (sbl rfl) (sbl rfl) (sbl rfl)), hIn6⟩ hP hD hS ls (lv_sub hl [0, 3, 4, 5, 6] rfl)
                  ·
                    have tc_4 : ((nI i65).toInt : Int) < (nI n4).toInt := Int32.lt_iff_toInt_lt.mp (Int32.not_le.mp c_4)
                    refine lv_iload hx hb (oc_21 71 (aq_23 shX12_blend_48) ub_4) (lvA2 hl) ?_
                    refine lv_iload hx hb (oc_21 73 shX12_blend_73 ub_6) (lvA0 hl) ?_
                    refine lv_ishr hx hb (oc_122 75 (aq_2 shX12_blend_73)) ?_
                    refine lv_iconst (v := 1) hx hb (oc_4 76 (aq_3 shX12_blend_73)) kic_1 ?_
                    refine lv_iand hx hb (oc_126 77 (aq_4 shX12_blend_73)) ?_
                    refine lv_iconst (v := 1) hx hb (oc_4 78 (aq_5 shX12_blend_73)) kic_1 ?_
                    refine lv_icmp_ne (tgt := 97) hx hb (oc_160 79 (aq_6 shX12_blend_73) sgw_0_18) rfl (fun c_16 => ?_) (fun c_16 => ?_)
                    ·
                      have tc_16 : ((((nI i51) >>> ((nI i65) &&& 31)) &&& 1).toInt : Int) ≠ 1 := fun q => c_16 (Int32.toInt_inj.mp q)
                      refine lv_iload hx hb (oc_21 97 shX12_blend_97 ub_5) (lvA1 hl) ?_
                      refine lv_istore (lv' := [(5, .int x65_5), (6, .int (nI i65)), (4, .int (nI i51)), (3, .int x51_3), (2, .int x51_2), (1, .int (nI n4)), (0, .ref (g 100))]) hx hb dX12_blend_99 hl (ltb rfl) rfl (fun ls hl => ?_)
                      refine lv_iinc (v := (nI (i65 + 1))) (lv' := [(6, .int (nI (i65 + 1))), (5, .int x65_5), (4, .int (nI i51)), (3, .int x51_3), (2, .int x51_2), (1, .int (nI n4)), (0, .ref (g 100))]) hx hb dX12_blend_101 hl (k := 1) rfl (nI_1 _) (ltb rfl) rfl (fun ls hl => ?_)
                      refine lv_goto (tgt := 65) hx hb dX12_blend_104 rfl ?_
                      exact ih65 (i65 + 1) x65_5 (by (first | omega | (have zz0 := Hid.u hi_cn; omega))) (by (first | omega | (have zz0 := Hid.u hi_cn; omega))) ls (lv_sub hl [0, 1, 2, 3, 4, 5, 6] rfl)
                    ·
                      have tc_16 : ((((nI i51) >>> ((nI i65) &&& 31)) &&& 1).toInt : Int) = 1 := congrArg Int32.toInt c_16
                      refine lv_iload hx hb (oc_21 82 (aq_9 shX12_blend_73) ub_5) (lvA1 hl) ?_
                      refine lv_iconst (v := 1) hx hb (oc_4 84 (aq_11 shX12_blend_73)) kic_1 ?_
                      refine lv_aload_n hx hb (oc_42 85 (aq_12 shX12_blend_73)) rfl (lvA6 hl) ?_
                      refine gM_159 S hK hP (v := .ref (g 74)) rfl (oc_180 86 (aq_13 shX12_blend_73) uw_0_159) ?_
                      refine lv_iload hx hb (oc_21 89 (aq_16 shX12_blend_73) ub_6) (lvA0 hl) ?_
                      have kb_1 : i65 < 12 := by (first | omega | (have zz0 := Hid.u hi_cn; omega))
                      refine ldM_74 hx hb hK hP (x := ((F51 74) i65)) (vp_in_nI kb_1 (ltb rfl)) (nI_clamp (Nat.lt_trans kb_1 (ltb rfl))) rfl (oc_46 91 (aq_18 shX12_blend_73)) ?_
                      refine lv_ishl hx hb (oc_120 92 (aq_19 shX12_blend_73)) ?_
                      refine lv_ior hx hb (oc_128 93 (aq_20 shX12_blend_73)) ?_
                      refine lv_goto (tgt := 99) hx hb (oc_167 94 (aq_21 shX12_blend_73) sgw_0_5) rfl ?_
                      refine lv_istore (lv' := [(5, .int (x65_5 ||| (1 <<< (((F51 74) i65) &&& 31)))), (6, .int (nI i65)), (4, .int (nI i51)), (3, .int x51_3), (2, .int x51_2), (1, .int (nI n4)), (0, .ref (g 100))]) hx hb dX12_blend_99 hl (ltb rfl) rfl (fun ls hl => ?_)
                      refine lv_iinc (v := (nI (i65 + 1))) (lv' := [(6, .int (nI (i65 + 1))), (5, .int (x65_5 ||| (1 <<< (((F51 74) i65) &&& 31)))), (4, .int (nI i51)), (3, .int x51_3), (2, .int x51_2), (1, .int (nI n4)), (0, .ref (g 100))]) hx hb dX12_blend_101 hl (k := 1) rfl (nI_1 _) (ltb rfl) rfl (fun ls hl => ?_)
                      refine lv_goto (tgt := 65) hx hb dX12_blend_104 rfl ?_
                      exact ih65 (i65 + 1) (x65_5 ||| (1 <<< (((F51 74) i65) &&& 31))) (by (first | omega | (have zz0 := Hid.u hi_cn; omega))) (by (first | omega | (have zz0 := Hid.u hi_cn; omega))) ls (lv_sub hl [0, 1, 2, 3, 4, 5, 6] rfl)
              exact lp_65 _ 0 0 (Nat.lt_succ_self _) (by (first | omega | (have zz0 := Hid.u hi_cn; omega))) ls (lv_sub hl [0, 1, 2, 3, 4, 5, 6] rfl)
        exact lp_51 _ 1 0 0 In F4 _ _ (Nat.lt_succ_self _) ⟨(by (first | omega | (have zz0 := Hid.u hi_cn; omega))), (Fr.mo hfr4 (sbl rfl) (sbl rfl) (sbl rfl)), hI4⟩ hP hD hS ls (lv_sub hl [0, 1, 2, 3, 4] rfl)
      ·
        have tc_1 : ((nI i4).toInt : Int) < 20 := Int32.lt_iff_toInt_lt.mp (Int32.not_le.mp c_1)
        refine lv_iload_n hx hb (oc_27 10 (aq_10 shX12_blend_0)) rfl (lvA1 hl) ?_
        refine lv_bipush (v := 12) hx hb (oc_16 11 (aq_11 shX12_blend_0) sgb_12) kbc_12 ?_
        have : (nI n4).toInt = ((n4 : Nat) : Int) := nI_toInt (by (first | omega | (have zz0 := Hid.u hi_cn; omega)))
        refine lv_icmp_ge (tgt := 44) hx hb (oc_162 13 (aq_13 shX12_blend_0) sgw_0_31) rfl (fun c_17 => ?_) (fun c_17 => ?_)
        ·
          have tc_17 : (12 : Int) ≤ (nI n4).toInt := Int32.le_iff_toInt_le.mp c_17
          have h2p := p2b (n := n4) (by (first | omega | (have zz0 := Hid.u hi_cn; omega)))
          refine lv_iconst (v := 0) hx hb (oc_3 44 (aq_20 shX12_blend_24)) kic_0 ?_
          refine lv_istore_n (lv' := [(2, .int 0), (1, .int (nI n4)), (0, .ref (g 100))]) hx hb (oc_61 45 (aq_21 shX12_blend_24)) rfl hl (ltb rfl) rfl (fun ls hl => ?_)
          refine lv_iconst (v := 0) hx hb (oc_3 46 (aq_22 shX12_blend_24)) kic_0 ?_
          refine lv_istore_n (lv' := [(3, .int 0), (2, .int 0), (1, .int (nI n4)), (0, .ref (g 100))]) hx hb (oc_62 47 (aq_23 shX12_blend_24)) rfl hl (ltb rfl) rfl (fun ls hl => ?_)
          refine lv_iconst (v := 1) hx hb (oc_4 48 shX12_blend_48) kic_1 ?_
          refine lv_istore (lv' := [(4, .int 1), (3, .int 0), (2, .int 0), (1, .int (nI n4)), (0, .ref (g 100))]) hx hb (oc_54 49 (aq_1 shX12_blend_48) ub_4) hl (ltb rfl) rfl (fun ls hl => ?_)
          have lp_51 : ∀ (n : Nat) (i51 : Nat) (x51_2 : Int32) (x51_3 : Int32) (I51 : Nat → Int32) (F51 : Nat → Nat → Int32) (H : Heap) (locs : List Loc) , 2 ^ n4 - i51 < n → (i51 ≤ 2 ^ n4 ∧ Fr [] [71, 72, 73] [37, 38, 74] cn In Fn cn I51 F51 ∧ IM cn F51) → va_P D vwCl (wM cI cB cZ g cn I51 F51) H → va_D A (wM cI cB cZ g cn I51 F51) → va_S A s.heap H locs → ∀ ls : Array Slot, lv_has ls 7 [(4, .int (nI i51)), (3, .int x51_3), (2, .int x51_2), (1, .int (nI n4)), (0, .ref (g 100))] → W p l e (RM 3 0 0) s m ([.ref (g 100)]).toArray below meth c H locs 0 0 (MQ below (va_Qi (fun (r : Int32) (u : (Nat → Nat) × (Nat → Int32) × (Nat → Nat → Int32)) => (fun r c2 I2 F2 => Fr [] [71, 72, 73] [37, 38, 74] cn In Fn c2 I2 F2 ∧ IM c2 F2 ∧ (True)) r u.1 u.2.1 u.2.2) (fun (u : (Nat → Nat) × (Nat → Int32) × (Nat → Nat → Int32)) (t : State) => va_P D vwCl (wM cI cB cZ g u.1 u.2.1 u.2.2) t.heap ∧ va_D A (wM cI cB cZ g u.1 u.2.1 u.2.2)) A) ([.ref (g 100)]).toArray s 0 0 A) (F0 m 51 ls []) := by
            intro n51
            induction n51 with
            | zero => intros; (first | omega | (have zz0 := Hid.u hi_cn; omega))
            | succ n51 ih51 =>
              intro i51 x51_2 x51_3 I51 F51 H locs hmu51 hinv51 hP hD hS ls hl
              obtain ⟨hr51, hfr51, hI51⟩ := hinv51
              have ti51 : (nI i51).toInt = (i51 : Int) := nI_toInt (by (first | omega | (have zz0 := Hid.u hi_cn; omega)))
              have hi_cn : Hid (CB cn) := hI51.b
              refine lv_iload hx hb (oc_21 51 (aq_3 shX12_blend_48) ub_4) (lvA0 hl) ?_
              refine lv_iconst (v := 1) hx hb (oc_4 53 (aq_5 shX12_blend_48)) kic_1 ?_
              refine lv_iload_n hx hb (oc_27 54 (aq_6 shX12_blend_48)) rfl (lvA3 hl) ?_
              refine lv_ishl hx hb (oc_120 55 (aq_7 shX12_blend_48)) ?_
              refine lv_topi (fun y_18 ey_18 => ?_)
              obtain rfl : y_18 = (nI (2 ^ n4)) := ey_18.trans (sh1 (by (first | omega | (have zz0 := Hid.u hi_cn; omega))))
              have : (nI (2 ^ n4)).toInt = (((2 ^ n4) : Nat) : Int) := nI_toInt (by (first | omega | (have zz0 := Hid.u hi_cn; omega)))
              refine lv_icmp_ge (tgt := 166) hx hb (oc_162 56 (aq_8 shX12_blend_48) sgw_0_110) rfl (fun c_19 => ?_) (fun c_19 => ?_)
              ·
                have tc_19 : ((nI (2 ^ n4)).toInt : Int) ≤ (nI i51).toInt := Int32.le_iff_toInt_le.mp c_19
                refine lv_iload_n hx hb (oc_28 166 (aq_20 shX12_blend_146)) rfl (lvA2 hl) ?_
                exact W.iret (v := x51_2) hx hb hr (fun t ht hW => ⟨⟨x51_2, (cn, I51, F51), rfl, ⟨(Fr.mo hfr51 (sbl rfl) (sbl rfl) (sbl rfl)), hI51, trivial⟩, by rw [ht]; exact hP, hD⟩, hS.F ht⟩) hS.2.2 (oc_172 167 (aq_21 shX12_blend_146))
              ·
                have tc_19 : ((nI i51).toInt : Int) < (nI (2 ^ n4)).toInt := Int32.lt_iff_toInt_lt.mp (Int32.not_le.mp c_19)
                refine lv_iconst (v := 0) hx hb (oc_3 59 (aq_11 shX12_blend_48)) kic_0 ?_
                refine lv_istore (lv' := [(5, .int 0), (4, .int (nI i51)), (3, .int x51_3), (2, .int x51_2), (1, .int (nI n4)), (0, .ref (g 100))]) hx hb (oc_54 60 (aq_12 shX12_blend_48) ub_5) hl (ltb rfl) rfl (fun ls hl => ?_)
                refine lv_iconst (v := 0) hx hb (oc_3 62 (aq_14 shX12_blend_48)) kic_0 ?_
                refine lv_istore (lv' := [(6, .int 0), (5, .int 0), (4, .int (nI i51)), (3, .int x51_3), (2, .int x51_2), (1, .int (nI n4)), (0, .ref (g 100))]) hx hb (oc_54 63 (aq_15 shX12_blend_48) ub_6) hl (ltb rfl) rfl (fun ls hl => ?_)
                have lp_65 : ∀ (n : Nat) (i65 : Nat) (x65_5 : Int32) , n4 - i65 < n → (i65 ≤ n4) → ∀ ls : Array Slot, lv_has ls 7 [(6, .int (nI i65)), (5, .int x65_5), (4, .int (nI i51)), (3, .int x51_3), (2, .int x51_2), (1, .int (nI n4)), (0, .ref (g 100))] → W p l e (RM 3 0 0) s m ([.ref (g 100)]).toArray below meth c H locs 0 0 (MQ below (va_Qi (fun (r : Int32) (u : (Nat → Nat) × (Nat → Int32) × (Nat → Nat → Int32)) => (fun r c2 I2 F2 => Fr [] [71, 72, 73] [37, 38, 74] cn In Fn c2 I2 F2 ∧ IM c2 F2 ∧ (True)) r u.1 u.2.1 u.2.2) (fun (u : (Nat → Nat) × (Nat → Int32) × (Nat → Nat → Int32)) (t : State) => va_P D vwCl (wM cI cB cZ g u.1 u.2.1 u.2.2) t.heap ∧ va_D A (wM cI cB cZ g u.1 u.2.1 u.2.2)) A) ([.ref (g 100)]).toArray s 0 0 A) (F0 m 65 ls []) := by
                  intro n65
                  induction n65 with
                  | zero => intros; (first | omega | (have zz0 := Hid.u hi_cn; omega))
                  | succ n65 ih65 =>
                    intro i65 x65_5 hmu65 hinv65 ls hl
                    have hr65 := hinv65
                    have ti65 : (nI i65).toInt = (i65 : Int) := nI_toInt (by (first | omega | (have zz0 := Hid.u hi_cn; omega)))
                    refine lv_iload hx hb (oc_21 65 (aq_17 shX12_blend_48) ub_6) (lvA0 hl) ?_
                    refine lv_iload_n hx hb (oc_27 67 (aq_19 shX12_blend_48)) rfl (lvA5 hl) ?_
                    refine lv_icmp_ge (tgt := 107) hx hb (oc_162 68 (aq_20 shX12_blend_48) sgw_0_39) rfl (fun c_20 => ?_) (fun c_20 => ?_)
                    ·
                      have tc_20 : ((nI n4).toInt : Int) ≤ (nI i65).toInt := Int32.le_iff_toInt_le.mp c_20
                      refine lv_aload_n hx hb (oc_42 107 (aq_10 shX12_blend_97)) rfl (lvA6 hl) ?_
                      refine lv_iload hx hb (oc_21 108 (aq_11 shX12_blend_97) ub_5) (lvA1 hl) ?_
                      have hFc := free_all hD hS hA
                      refine va_calli (runV_a (As := [.int x65_5]) (rest := []) S (q_whyNot l D cI cB cZ g cn I51 F51 x65_5 H.size hI51) kV_RX12_441 hK hP hD 0 rfl rfl rfl ⟨Nat.le_of_ble_eq_true rfl, Nat.le_of_ble_eq_true rfl⟩ ⟨Nat.le_of_ble_eq_true rfl, Nat.le_of_ble_eq_true rfl⟩ rfl hl.1 rfl (Nat.le_of_ble_eq_true rfl) (oc_182 110 (aq_13 shX12_blend_97) uw_1_185)) hS (fun q _ h => hFc q h) hFc (fun r_21 u t H1 locs ht hvm wh_22 hB hz1 hk1 hS => ?_)
                      obtain ⟨cn22, In22, Fn22⟩ := u
                      obtain ⟨hP1, hD1⟩ := hB
                      rw [ht] at hP1
                      have hP : va_P D vwCl (wM cI cB cZ g cn22 In22 Fn22) H1 := hP1
                      have hD : va_D A (wM cI cB cZ g cn22 In22 Fn22) := hD1.weaken (fun _ _ _ h => hFc _ h)
                      generalize H1 = H at hP hS ⊢
                      have vh_22 : (fun r c2 I2 F2 => Fr [] [71, 72, 73] [37, 38] cn I51 F51 c2 I2 F2 ∧ IM c2 F2 ∧ (True)) r_21 cn22 In22 Fn22 := wh_22
                      obtain ⟨hfc22, hIn22, h_22⟩ := vh_22
                      obtain rfl : cn = cn22 := (funext (fun k => hfc22.1 k List.not_mem_nil)).symm
                      have hf22 : Fr [] [71, 72, 73] [37, 38, 74] cn In Fn cn In22 Fn22 := Fr.mo (Fr.tr hfr51 hfc22) (sbl rfl) (sbl rfl) (sbl rfl)
                      have hi_cn : Hid (CB cn) := hIn22.b
                      refine lv_iconst (v := (-1)) hx hb (oc_2 113 (aq_16 shX12_blend_97)) kic_m1 ?_
                      refine lv_icmp_ne (tgt := 160) hx hb (oc_160 114 (aq_17 shX12_blend_97) sgw_0_46) rfl (fun c_23 => ?_) (fun c_23 => ?_)
                      ·
                        have tc_23 : (r_21.toInt : Int) ≠ (-1) := fun q => c_23 (Int32.toInt_inj.mp q)
                        refine lv_iinc (v := (nI (i51 + 1))) (lv' := [(4, .int (nI (i51 + 1))), (6, .int (nI i65)), (5, .int x65_5), (3, .int x51_3), (2, .int x51_2), (1, .int (nI n4)), (0, .ref (g 100))]) hx hb dX12_blend_160 hl (k := 2) rfl (nI_1 _) (ltb rfl) rfl (fun ls hl => ?_)
                        refine lv_goto (tgt := 51) hx hb dX12_blend_163 rfl ?_
                        exact ih51 (i51 + 1) x51_2 x51_3 In22 Fn22 _ _ (by (first | omega | (have zz0 := Hid.u hi_cn; omega))) ⟨(by (first | omega | (have zz0 := Hid.u hi_cn; omega))), (Fr.mo hf22 (sbl rfl) (sbl rfl) (sbl rfl)), hIn22⟩ hP hD hS ls (lv_sub hl [0, 3, 4, 5, 6] rfl)
                      ·
                        have tc_23 : (r_21.toInt : Int) = (-1) := congrArg Int32.toInt c_23
                        refine lv_iload_n hx hb (oc_28 117 (aq_20 shX12_blend_97)) rfl (lvA4 hl) ?_
                        refine lv_if_eq (tgt := 152) hx hb (oc_153 118 (aq_21 shX12_blend_97) sgw_0_34) rfl (fun c_24 => ?_) (fun c_24 => ?_)
                        ·
                          have tc_24 : (x51_2.toInt : Int) = 0 := congrArg Int32.toInt c_24
                          refine lv_iload hx hb dX12_blend_152 (lvA1 hl) ?_
                          refine lv_istore_n (lv' := [(2, .int x65_5), (6, .int (nI i65)), (5, .int x65_5), (4, .int (nI i51)), (3, .int x51_3), (1, .int (nI n4)), (0, .ref (g 100))]) hx hb dX12_blend_154 rfl hl (ltb rfl) rfl (fun ls hl => ?_)
                          refine lv_aload_n hx hb dX12_blend_155 rfl (lvA6 hl) ?_
                          refine gM_419 S hK hP (v := .int (In22 71)) rfl dX12_blend_156 ?_
                          refine lv_istore_n (lv' := [(3, .int (In22 71)), (2, .int x65_5), (6, .int (nI i65)), (5, .int x65_5), (4, .int (nI i51)), (1, .int (nI n4)), (0, .ref (g 100))]) hx hb dX12_blend_159 rfl hl (ltb rfl) rfl (fun ls hl => ?_)
                          refine lv_iinc (v := (nI (i51 + 1))) (lv' := [(4, .int (nI (i51 + 1))), (3, .int (In22 71)), (2, .int x65_5), (6, .int (nI i65)), (5, .int x65_5), (1, .int (nI n4)), (0, .ref (g 100))]) hx hb dX12_blend_160 hl (k := 4) rfl (nI_1 _) (ltb rfl) rfl (fun ls hl => ?_)
                          refine lv_goto (tgt := 51) hx hb dX12_blend_163 rfl ?_
                          exact ih51 (i51 + 1) x65_5 (In22 71) In22 Fn22 _ _ (by (first | omega | (have zz0 := Hid.u hi_cn; omega))) ⟨(by (first | omega | (have zz0 := Hid.u hi_cn; omega))), (Fr.mo hf22 (sbl rfl) (sbl rfl) (sbl rfl)), hIn22⟩ hP hD hS ls (lv_sub hl [0, 1, 2, 5, 6] rfl)
                        ·
                          have tc_24 : (x51_2.toInt : Int) ≠ 0 := fun q => c_24 (Int32.toInt_inj.mp q)
                          refine lv_aload_n hx hb (oc_42 121 shX12_blend_121) rfl (lvA6 hl) ?_
                          refine gM_419 S hK hP (v := .int (In22 71)) rfl (oc_180 122 (aq_1 shX12_blend_121) uw_1_163) ?_
                          refine lv_iload_n hx hb (oc_29 125 (aq_4 shX12_blend_121)) rfl (lvA3 hl) ?_
                          refine lv_icmp_lt (tgt := 160) hx hb (oc_161 126 (aq_5 shX12_blend_121) sgw_0_34) rfl (fun c_25 => ?_) (fun c_25 => ?_)
                          ·
                            have tc_25 : ((In22 71).toInt : Int) < x51_3.toInt := Int32.lt_iff_toInt_lt.mp c_25
                            refine lv_iinc (v := (nI (i51 + 1))) (lv' := [(4, .int (nI (i51 + 1))), (6, .int (nI i65)), (5, .int x65_5), (3, .int x51_3), (2, .int x51_2), (1, .int (nI n4)), (0, .ref (g 100))]) hx hb dX12_blend_160 hl (k := 2) rfl (nI_1 _) (ltb rfl) rfl (fun ls hl => ?_)
                            refine lv_goto (tgt := 51) hx hb dX12_blend_163 rfl ?_
                            exact ih51 (i51 + 1) x51_2 x51_3 In22 Fn22 _ _ (by (first | omega | (have zz0 := Hid.u hi_cn; omega))) ⟨(by (first | omega | (have zz0 := Hid.u hi_cn; omega))), (Fr.mo hf22 (sbl rfl) (sbl rfl) (sbl rfl)), hIn22⟩ hP hD hS ls (lv_sub hl [0, 3, 4, 5, 6] rfl)
                          ·
                            have tc_25 : (x51_3.toInt : Int) ≤ (In22 71).toInt := Int32.le_iff_toInt_le.mp (Int32.not_lt.mp c_25)
                            refine lv_aload_n hx hb (oc_42 129 (aq_8 shX12_blend_121)) rfl (lvA6 hl) ?_
                            refine gM_419 S hK hP (v := .int (In22 71)) rfl (oc_180 130 (aq_9 shX12_blend_121) uw_1_163) ?_
                            refine lv_iload_n hx hb (oc_29 133 (aq_12 shX12_blend_121)) rfl (lvA3 hl) ?_
                            refine lv_icmp_ne (tgt := 152) hx hb (oc_160 134 (aq_13 shX12_blend_121) sgw_0_18) rfl (fun c_26 => ?_) (fun c_26 => ?_)
                            ·
                              have tc_26 : ((In22 71).toInt : Int) ≠ x51_3.toInt := fun q => c_26 (Int32.toInt_inj.mp q)
                              refine lv_iload hx hb dX12_blend_152 (lvA1 hl) ?_
                              refine lv_istore_n (lv' := [(2, .int x65_5), (6, .int (nI i65)), (5, .int x65_5), (4, .int (nI i51)), (3, .int x51_3), (1, .int (nI n4)), (0, .ref (g 100))]) hx hb dX12_blend_154 rfl hl (ltb rfl) rfl (fun ls hl => ?_)
                              refine lv_aload_n hx hb dX12_blend_155 rfl (lvA6 hl) ?_
                              refine gM_419 S hK hP (v := .int (In22 71)) rfl dX12_blend_156 ?_
                              refine lv_istore_n (lv' := [(3, .int (In22 71)), (2, .int x65_5), (6, .int (nI i65)), (5, .int x65_5), (4, .int (nI i51)), (1, .int (nI n4)), (0, .ref (g 100))]) hx hb dX12_blend_159 rfl hl (ltb rfl) rfl (fun ls hl => ?_)
                              refine lv_iinc (v := (nI (i51 + 1))) (lv' := [(4, .int (nI (i51 + 1))), (3, .int (In22 71)), (2, .int x65_5), (6, .int (nI i65)), (5, .int x65_5), (1, .int (nI n4)), (0, .ref (g 100))]) hx hb dX12_blend_160 hl (k := 4) rfl (nI_1 _) (ltb rfl) rfl (fun ls hl => ?_)
                              refine lv_goto (tgt := 51) hx hb dX12_blend_163 rfl ?_
                              exact ih51 (i51 + 1) x65_5 (In22 71) In22 Fn22 _ _ (by (first | omega | (have zz0 := Hid.u hi_cn; omega))) ⟨(by (first | omega | (have zz0 := Hid.u hi_cn; omega))), (Fr.mo hf22 (sbl rfl) (sbl rfl) (sbl rfl)), hIn22⟩ hP hD hS ls (lv_sub hl [0, 1, 2, 5, 6] rfl)
                            ·
                              have tc_26 : ((In22 71).toInt : Int) = x51_3.toInt := congrArg Int32.toInt c_26
                              refine lv_iload hx hb (oc_21 137 (aq_16 shX12_blend_121) ub_5) (lvA1 hl) ?_
                              refine vp_callSi (runS_r (As := [.int x65_5]) (rest := []) S (q_bits l D cI cB cZ x65_5 ) kS_RX12_431 hK hP [] rfl ⟨Nat.le_of_ble_eq_true rfl, Nat.le_of_ble_eq_true rfl⟩ ⟨Nat.le_of_ble_eq_true rfl, Nat.le_of_ble_eq_true rfl⟩ rfl hl.1 rfl (Nat.le_of_ble_eq_true rfl) (oc_184 139 (aq_18 shX12_blend_121) uw_1_175)) (fun r_27 h_28 => ?_)
                              refine lv_iload_n hx hb (oc_28 142 (aq_21 shX12_blend_121)) rfl (lvA4 hl) ?_
                              refine vp_callSi (runS_r (As := [.int x51_2]) (rest := [.int r_27]) S (q_bits l D cI cB cZ x51_2 ) kS_RX12_431 hK hP [] rfl ⟨Nat.le_of_ble_eq_true rfl, Nat.le_of_ble_eq_true rfl⟩ ⟨Nat.le_of_ble_eq_true rfl, Nat.le_of_ble_eq_true rfl⟩ rfl hl.1 rfl (Nat.le_of_ble_eq_true rfl) (oc_184 143 (aq_22 shX12_blend_121) uw_1_175)) (fun r_29 h_30 => ?_)
                              refine lv_icmp_lt (tgt := 152) hx hb (oc_161 146 shX12_blend_146 sgw_0_6) rfl (fun c_31 => ?_) (fun c_31 => ?_)
                              ·
                                have tc_31 : (r_27.toInt : Int) < r_29.toInt := Int32.lt_iff_toInt_lt.mp c_31
                                refine lv_iload hx hb dX12_blend_152 (lvA1 hl) ?_
                                refine lv_istore_n (lv' := [(2, .int x65_5), (6, .int (nI i65)), (5, .int x65_5), (4, .int (nI i51)), (3, .int x51_3), (1, .int (nI n4)), (0, .ref (g 100))]) hx hb dX12_blend_154 rfl hl (ltb rfl) rfl (fun ls hl => ?_)
                                refine lv_aload_n hx hb dX12_blend_155 rfl (lvA6 hl) ?_
                                refine gM_419 S hK hP (v := .int (In22 71)) rfl dX12_blend_156 ?_
                                refine lv_istore_n (lv' := [(3, .int (In22 71)), (2, .int x65_5), (6, .int (nI i65)), (5, .int x65_5), (4, .int (nI i51)), (1, .int (nI n4)), (0, .ref (g 100))]) hx hb dX12_blend_159 rfl hl (ltb rfl) rfl (fun ls hl => ?_)
                                refine lv_iinc (v := (nI (i51 + 1))) (lv' := [(4, .int (nI (i51 + 1))), (3, .int (In22 71)), (2, .int x65_5), (6, .int (nI i65)), (5, .int x65_5), (1, .int (nI n4)), (0, .ref (g 100))]) hx hb dX12_blend_160 hl (k := 4) rfl (nI_1 _) (ltb rfl) rfl (fun ls hl => ?_)
                                refine lv_goto (tgt := 51) hx hb dX12_blend_163 rfl ?_
                                exact ih51 (i51 + 1) x65_5 (In22 71) In22 Fn22 _ _ (by (first | omega | (have zz0 := Hid.u hi_cn; omega))) ⟨(by (first | omega | (have zz0 := Hid.u hi_cn; omega))), (Fr.mo hf22 (sbl rfl) (sbl rfl) (sbl rfl)), hIn22⟩ hP hD hS ls (lv_sub hl [0, 1, 2, 5, 6] rfl)
                              ·
                                have tc_31 : (r_29.toInt : Int) ≤ r_27.toInt := Int32.le_iff_toInt_le.mp (Int32.not_lt.mp c_31)
                                refine lv_goto (tgt := 160) hx hb (oc_167 149 (aq_3 shX12_blend_146) sgw_0_11) rfl ?_
                                refine lv_iinc (v := (nI (i51 + 1))) (lv' := [(4, .int (nI (i51 + 1))), (6, .int (nI i65)), (5, .int x65_5), (3, .int x51_3), (2, .int x51_2), (1, .int (nI n4)), (0, .ref (g 100))]) hx hb dX12_blend_160 hl (k := 2) rfl (nI_1 _) (ltb rfl) rfl (fun ls hl => ?_)
                                refine lv_goto (tgt := 51) hx hb dX12_blend_163 rfl ?_
                                exact ih51 (i51 + 1) x51_2 x51_3 In22 Fn22 _ _ (by (first | omega | (have zz0 := Hid.u hi_cn; omega))) ⟨(by (first | omega | (have zz0 := Hid.u hi_cn; omega))), (Fr.mo hf22 (sbl rfl) (sbl rfl) (sbl rfl)), hIn22⟩ hP hD hS ls (lv_sub hl [0, 3, 4, 5, 6] rfl)
                    ·
                      have tc_20 : ((nI i65).toInt : Int) < (nI n4).toInt := Int32.lt_iff_toInt_lt.mp (Int32.not_le.mp c_20)
                      refine lv_iload hx hb (oc_21 71 (aq_23 shX12_blend_48) ub_4) (lvA2 hl) ?_
                      refine lv_iload hx hb (oc_21 73 shX12_blend_73 ub_6) (lvA0 hl) ?_
                      refine lv_ishr hx hb (oc_122 75 (aq_2 shX12_blend_73)) ?_
                      refine lv_iconst (v := 1) hx hb (oc_4 76 (aq_3 shX12_blend_73)) kic_1 ?_
                      refine lv_iand hx hb (oc_126 77 (aq_4 shX12_blend_73)) ?_
                      refine lv_iconst (v := 1) hx hb (oc_4 78 (aq_5 shX12_blend_73)) kic_1 ?_
                      refine lv_icmp_ne (tgt := 97) hx hb (oc_160 79 (aq_6 shX12_blend_73) sgw_0_18) rfl (fun c_32 => ?_) (fun c_32 => ?_)
                      ·
                        have tc_32 : ((((nI i51) >>> ((nI i65) &&& 31)) &&& 1).toInt : Int) ≠ 1 := fun q => c_32 (Int32.toInt_inj.mp q)
                        refine lv_iload hx hb (oc_21 97 shX12_blend_97 ub_5) (lvA1 hl) ?_
                        refine lv_istore (lv' := [(5, .int x65_5), (6, .int (nI i65)), (4, .int (nI i51)), (3, .int x51_3), (2, .int x51_2), (1, .int (nI n4)), (0, .ref (g 100))]) hx hb dX12_blend_99 hl (ltb rfl) rfl (fun ls hl => ?_)
                        refine lv_iinc (v := (nI (i65 + 1))) (lv' := [(6, .int (nI (i65 + 1))), (5, .int x65_5), (4, .int (nI i51)), (3, .int x51_3), (2, .int x51_2), (1, .int (nI n4)), (0, .ref (g 100))]) hx hb dX12_blend_101 hl (k := 1) rfl (nI_1 _) (ltb rfl) rfl (fun ls hl => ?_)
                        refine lv_goto (tgt := 65) hx hb dX12_blend_104 rfl ?_
                        exact ih65 (i65 + 1) x65_5 (by (first | omega | (have zz0 := Hid.u hi_cn; omega))) (by (first | omega | (have zz0 := Hid.u hi_cn; omega))) ls (lv_sub hl [0, 1, 2, 3, 4, 5, 6] rfl)
                      ·
                        have tc_32 : ((((nI i51) >>> ((nI i65) &&& 31)) &&& 1).toInt : Int) = 1 := congrArg Int32.toInt c_32
                        refine lv_iload hx hb (oc_21 82 (aq_9 shX12_blend_73) ub_5) (lvA1 hl) ?_
                        refine lv_iconst (v := 1) hx hb (oc_4 84 (aq_11 shX12_blend_73)) kic_1 ?_
                        refine lv_aload_n hx hb (oc_42 85 (aq_12 shX12_blend_73)) rfl (lvA6 hl) ?_
                        refine gM_159 S hK hP (v := .ref (g 74)) rfl (oc_180 86 (aq_13 shX12_blend_73) uw_0_159) ?_
                        refine lv_iload hx hb (oc_21 89 (aq_16 shX12_blend_73) ub_6) (lvA0 hl) ?_
                        have kb_2 : i65 < 12 := by (first | omega | (have zz0 := Hid.u hi_cn; omega))
                        refine ldM_74 hx hb hK hP (x := ((F51 74) i65)) (vp_in_nI kb_2 (ltb rfl)) (nI_clamp (Nat.lt_trans kb_2 (ltb rfl))) rfl (oc_46 91 (aq_18 shX12_blend_73)) ?_
                        refine lv_ishl hx hb (oc_120 92 (aq_19 shX12_blend_73)) ?_
                        refine lv_ior hx hb (oc_128 93 (aq_20 shX12_blend_73)) ?_
                        refine lv_goto (tgt := 99) hx hb (oc_167 94 (aq_21 shX12_blend_73) sgw_0_5) rfl ?_
                        refine lv_istore (lv' := [(5, .int (x65_5 ||| (1 <<< (((F51 74) i65) &&& 31)))), (6, .int (nI i65)), (4, .int (nI i51)), (3, .int x51_3), (2, .int x51_2), (1, .int (nI n4)), (0, .ref (g 100))]) hx hb dX12_blend_99 hl (ltb rfl) rfl (fun ls hl => ?_)
                        refine lv_iinc (v := (nI (i65 + 1))) (lv' := [(6, .int (nI (i65 + 1))), (5, .int (x65_5 ||| (1 <<< (((F51 74) i65) &&& 31)))), (4, .int (nI i51)), (3, .int x51_3), (2, .int x51_2), (1, .int (nI n4)), (0, .ref (g 100))]) hx hb dX12_blend_101 hl (k := 1) rfl (nI_1 _) (ltb rfl) rfl (fun ls hl => ?_)
                        refine lv_goto (tgt := 65) hx hb dX12_blend_104 rfl ?_
                        exact ih65 (i65 + 1) (x65_5 ||| (1 <<< (((F51 74) i65) &&& 31))) (by (first | omega | (have zz0 := Hid.u hi_cn; omega))) (by (first | omega | (have zz0 := Hid.u hi_cn; omega))) ls (lv_sub hl [0, 1, 2, 3, 4, 5, 6] rfl)
                exact lp_65 _ 0 0 (Nat.lt_succ_self _) (by (first | omega | (have zz0 := Hid.u hi_cn; omega))) ls (lv_sub hl [0, 1, 2, 3, 4, 5, 6] rfl)
          exact lp_51 _ 1 0 0 In F4 _ _ (Nat.lt_succ_self _) ⟨(by (first | omega | (have zz0 := Hid.u hi_cn; omega))), (Fr.mo hfr4 (sbl rfl) (sbl rfl) (sbl rfl)), hI4⟩ hP hD hS ls (lv_sub hl [0, 1, 2, 3, 4] rfl)
        ·
          have tc_17 : ((nI n4).toInt : Int) < 12 := Int32.lt_iff_toInt_lt.mp (Int32.not_le.mp c_17)
          refine lv_aload_n hx hb (oc_42 16 (aq_16 shX12_blend_0)) rfl (lvA2 hl) ?_
          refine lv_iload_n hx hb (oc_28 17 (aq_17 shX12_blend_0)) rfl (lvA0 hl) ?_
          refine vp_callSi (runV_ra (As := [.int (nI i4)]) (rest := []) S (q_isFree l D cI cB cZ g cn In F4 (nI i4) hI4) kV_RX12_438 hK hP 0 rfl rfl rfl ⟨Nat.le_of_ble_eq_true rfl, Nat.le_of_ble_eq_true rfl⟩ ⟨Nat.le_of_ble_eq_true rfl, Nat.le_of_ble_eq_true rfl⟩ rfl hl.1 rfl (Nat.le_of_ble_eq_true rfl) (oc_182 18 (aq_18 shX12_blend_0) uw_1_182)) (fun r_33 h_34 => ?_)
          rcases h_34 with rfl | ⟨rfl, h_34⟩
          ·
            refine lv_if_ne (tgt := 27) hx hb (oc_154 21 (aq_21 shX12_blend_0) sgw_0_6) rfl (fun h => absurd h cq_eq_0_0) (fun _ => ?_)
            refine lv_goto (tgt := 38) hx hb (oc_167 24 shX12_blend_24 sgw_0_14) rfl ?_
            refine lv_iinc (v := (nI (i4 + 1))) (lv' := [(2, .int (nI (i4 + 1))), (1, .int (nI n4)), (0, .ref (g 100))]) hx hb (oc_132 38 (aq_14 shX12_blend_24) ub_2 sgb_1) hl (k := 0) rfl (nI_1 _) (ltb rfl) rfl (fun ls hl => ?_)
            refine lv_goto (tgt := 4) hx hb (oc_167 41 (aq_17 shX12_blend_24) sgw_255_219) rfl ?_
            exact ih4 (i4 + 1) n4 F4 _ _ (by (first | omega | (have zz0 := Hid.u hi_cn; omega))) ⟨(by (first | omega | (have zz0 := Hid.u hi_cn; omega))), (Fr.mo hfr4 (sbl rfl) (sbl rfl) (sbl rfl)), hI4, ⟨by (first | omega | (have zz0 := Hid.u hi_cn; omega)), by (first | omega | (have zz0 := Hid.u hi_cn; omega))⟩⟩ hP hD hS ls (lv_sub hl [0, 1, 2] rfl)
          ·
            have h_34 : 0 ≤ (nI i4).toInt ∧ (nI i4).toInt < ((cn 2) : Int) := h_34
            refine lv_if_ne (tgt := 27) hx hb (oc_154 21 (aq_21 shX12_blend_0) sgw_0_6) rfl (fun _ => ?_) (fun h => absurd h cq_eq_1_0)
            refine lv_aload_n hx hb (oc_42 27 (aq_3 shX12_blend_24)) rfl (lvA2 hl) ?_
            refine gM_159 S hK hP (v := .ref (g 74)) rfl (oc_180 28 (aq_4 shX12_blend_24) uw_0_159) ?_
            refine lv_iload_n hx hb (oc_27 31 (aq_7 shX12_blend_24)) rfl (lvA1 hl) ?_
            refine lv_iload_n hx hb (oc_28 32 (aq_8 shX12_blend_24)) rfl (lvA0 hl) ?_
            have kb_3 : n4 < 12 := by (first | omega | (have zz0 := Hid.u hi_cn; omega))
            refine stM_74 hx hb hK hP hD hS (Fn2 := (va_up F4 74 (upd (F4 74) n4 (nI i4)))) (vp_in_nI kb_3 (ltb rfl)) (nI_clamp (Nat.lt_trans kb_3 (ltb rfl))) rfl (oc_79 33 (aq_9 shX12_blend_24)) (fun H locs hP hD hS => ?_)
            refine lv_iload_n hx hb (oc_27 34 (aq_10 shX12_blend_24)) rfl (lvA1 hl) ?_
            refine lv_iconst (v := 1) hx hb (oc_4 35 (aq_11 shX12_blend_24)) kic_1 ?_
            refine lv_iadd hx hb (oc_96 36 (aq_12 shX12_blend_24)) ?_
            refine lv_topi (fun y_35 ey_35 => ?_)
            obtain rfl : y_35 = (nI (n4 + 1)) := ey_35.trans (nI_add n4 1)
            refine lv_istore_n (lv' := [(1, .int (nI (n4 + 1))), (2, .int (nI i4)), (0, .ref (g 100))]) hx hb (oc_60 37 (aq_13 shX12_blend_24)) rfl hl (ltb rfl) rfl (fun ls hl => ?_)
            refine lv_iinc (v := (nI (i4 + 1))) (lv' := [(2, .int (nI (i4 + 1))), (1, .int (nI (n4 + 1))), (0, .ref (g 100))]) hx hb (oc_132 38 (aq_14 shX12_blend_24) ub_2 sgb_1) hl (k := 1) rfl (nI_1 _) (ltb rfl) rfl (fun ls hl => ?_)
            refine lv_goto (tgt := 4) hx hb (oc_167 41 (aq_17 shX12_blend_24) sgw_255_219) rfl ?_
            exact ih4 (i4 + 1) (n4 + 1) (va_up F4 74 (upd (F4 74) n4 (nI i4))) _ _ (by (first | omega | (have zz0 := Hid.u hi_cn; omega))) ⟨(by (first | omega | (have zz0 := Hid.u hi_cn; omega))), (Fr.mo (Fr.f 74 hfr4) (sbl rfl) (sbl rfl) (sbl rfl)), (IM.fr (In := In) hI4 (Fr.f 74 Fr.rf) (by decide) (by decide)), ⟨by (first | omega | (have zz0 := Hid.u hi_cn; omega)), by (first | omega | (have zz0 := Hid.u hi_cn; omega))⟩⟩ hP hD hS ls (lv_sub hl [0, 1, 2] rfl)
  exact lp_4 _ 0 0 Fn _ _ (Nat.lt_succ_self _) ⟨(by (first | omega | (have zz0 := Hid.u hi_cn; omega))), (Fr.mo Fr.rf (sbl rfl) (sbl rfl) (sbl rfl)), hI, ⟨Nat.le_refl _, by (first | omega | (have zz0 := Hid.u hi_cn; omega))⟩⟩ hP hD hS ls (lv_sub hl [0, 1, 2] rfl)
set_option maxRecDepth 100000 in
set_option maxHeartbeats 4000000 in
theorem q_feed (l : Launch) (D : va_G) (cI cB cZ : ClassId) (g : Nat → Nat) (cn : Nat → Nat) (In : Nat → Int32) (Fn : Nat → Nat → Int32) (v0 v1 v2 v3 v4 : Int32) (sz : Nat) (hI : IM cn Fn) (h18 : cn 18 ≤ 200) : Met l yX12_feed (CWS yX12_feed cX12_feed 6 (some .int)) (RM 1 0 0) (PBw [.ref (g 100), .int v0, .int v1, .int v2, .int v3, .int v4] D cI cB cZ (wM cI cB cZ g cn In Fn) sz) (va_Qi (fun (r : Int32) (u : (Nat → Nat) × (Nat → Int32) × (Nat → Nat → Int32)) => (fun r c2 I2 F2 => Fr [18] [] [17] cn In Fn c2 I2 F2 ∧ IM c2 F2 ∧ (c2 18 ≤ 200)) r u.1 u.2.1 u.2.2) (fun (u : (Nat → Nat) × (Nat → Int32) × (Nat → Nat → Int32)) (t : State) => va_P D vwCl (wM cI cB cZ g u.1 u.2.1 u.2.2) t.heap ∧ va_D (va_A (wM cI cB cZ g cn In Fn) sz) (wM cI cB cZ g u.1 u.2.1 u.2.2)) (va_A (wM cI cB cZ g cn In Fn) sz)) 0 0 (va_A (wM cI cB cZ g cn In Fn) sz) := by
  refine en_w (fun A => (va_Qi (fun (r : Int32) (u : (Nat → Nat) × (Nat → Int32) × (Nat → Nat → Int32)) => (fun (r : Int32) (c2 : Nat → Nat) (I2 : Nat → Int32) (F2 : Nat → Nat → Int32) => Fr [18] [] [17] cn In Fn c2 I2 F2 ∧ IM c2 F2 ∧ (c2 18 ≤ 200)) r u.1 u.2.1 u.2.2) (fun (u : (Nat → Nat) × (Nat → Int32) × (Nat → Nat → Int32)) (t : State) => va_P D vwCl (wM cI cB cZ g u.1 u.2.1 u.2.2) t.heap ∧ va_D A (wM cI cB cZ g u.1 u.2.1 u.2.2)) A)) rfl rfl pn_RX12 (Nat.le_of_ble_eq_true rfl) (fun p e s m below meth c A hx hb hml hown S hr hlocks hnm hA hP hK hD hS ls hl => ?_)
  have hl : lv_has ls 6 [(0, .ref (g 100)), (1, .int v0), (2, .int v1), (3, .int v2), (4, .int v3), (5, .int v4)] := hl
  have hi_cn : Hid (CB cn) := hI.b
  refine lv_aload_n hx hb (oc_42 0 shX12_feed_0) rfl (lvA0 hl) ?_
  refine gM_226 S hK hP (v := .int (nI (cn 18))) rfl (oc_180 1 (aq_1 shX12_feed_0) uw_0_226) ?_
  refine lv_bipush (v := 20) hx hb (oc_16 4 (aq_4 shX12_feed_0) sgb_20) kbc_20 ?_
  refine lv_iadd hx hb (oc_96 6 (aq_6 shX12_feed_0)) ?_
  refine lv_topi (fun y_1 ey_1 => ?_)
  obtain rfl : y_1 = (nI ((cn 18) + 20)) := ey_1.trans (nI_add (cn 18) 20)
  refine lv_sipush (v := 200) hx hb (oc_17 7 (aq_7 shX12_feed_0) sgw_0_200) (by decide) ?_
  have : (nI ((cn 18) + 20)).toInt = ((((cn 18) + 20) : Nat) : Int) := nI_toInt (by (first | omega | (have zz0 := Hid.u hi_cn; omega)))
  refine lv_icmp_le (tgt := 15) hx hb (oc_164 10 (aq_10 shX12_feed_0) sgw_0_5) rfl (fun c_2 => ?_) (fun c_2 => ?_)
  ·
    have tc_2 : ((nI ((cn 18) + 20)).toInt : Int) ≤ 200 := Int32.le_iff_toInt_le.mp c_2
    refine lv_aload_n hx hb (oc_42 15 (aq_15 shX12_feed_0)) rfl (lvA0 hl) ?_
    refine lv_iload_n hx hb (oc_27 16 (aq_16 shX12_feed_0)) rfl (lvA1 hl) ?_
    have hFc := free_all hD hS hA
    refine va_callv (runV_a (As := [.int v0]) (rest := []) S (q_types l D cI cB cZ g cn In Fn v0 s.heap.size hI (by (first | omega | (have zz0 := Hid.u hi_cn; omega)))) kV_RX12_229 hK hP hD 0 rfl rfl rfl ⟨Nat.le_of_ble_eq_true rfl, Nat.le_of_ble_eq_true rfl⟩ ⟨Nat.le_of_ble_eq_true rfl, Nat.le_of_ble_eq_true rfl⟩ rfl hl.1 rfl (Nat.le_of_ble_eq_true rfl) (oc_182 17 (aq_17 shX12_feed_0) uw_0_229)) hS (fun q _ h => hFc q h) hFc (fun u t H1 locs ht hvm wh_4 hB hz1 hk1 hS => ?_)
    obtain ⟨cn4, In4, Fn4⟩ := u
    obtain ⟨hP1, hD1⟩ := hB
    rw [ht] at hP1
    have hP : va_P D vwCl (wM cI cB cZ g cn4 In4 Fn4) H1 := hP1
    have hD : va_D A (wM cI cB cZ g cn4 In4 Fn4) := hD1.weaken (fun _ _ _ h => hFc _ h)
    generalize H1 = H at hP hS ⊢
    have vh_4 : (fun c2 I2 F2 => Fr [18] [] [17] cn In Fn c2 I2 F2 ∧ IM c2 F2 ∧ (c2 18 = (cn 18) + 4)) cn4 In4 Fn4 := wh_4
    obtain ⟨hfc4, hIn4, h_4⟩ := vh_4
    obtain rfl : In = In4 := (funext (fun k => hfc4.2.1 k List.not_mem_nil)).symm
    have hf4 : Fr [18] [] [17] cn In Fn cn4 In Fn4 := Fr.mo (Fr.tr (Fr.rf (cn := cn) (In := In) (Fn := Fn)) hfc4) (sbl rfl) (sbl rfl) (sbl rfl)
    have hi_cn4 : Hid (CB cn4) := hIn4.b
    have hq_cn4 := Hid.i (frq_18_0_1_2_46_57_58_62_63_75_83_44 hf4)
    refine lv_aload_n hx hb (oc_42 20 (aq_20 shX12_feed_0)) rfl (lvA0 hl) ?_
    refine lv_iload_n hx hb (oc_28 21 (aq_21 shX12_feed_0)) rfl (lvA2 hl) ?_
    have hFc := free_all hD hS hA
    refine va_callv (runV_a (As := [.int v1]) (rest := []) S (q_types l D cI cB cZ g cn4 In Fn4 v1 H.size hIn4 (by (first | omega | (have zz0 := Hid.u hi_cn; have zz1 := Hid.u hi_cn4; have zz2 := Hid.u hq_cn4; omega)))) kV_RX12_229 hK hP hD 0 rfl rfl rfl ⟨Nat.le_of_ble_eq_true rfl, Nat.le_of_ble_eq_true rfl⟩ ⟨Nat.le_of_ble_eq_true rfl, Nat.le_of_ble_eq_true rfl⟩ rfl hl.1 rfl (Nat.le_of_ble_eq_true rfl) (oc_182 22 (aq_22 shX12_feed_0) uw_0_229)) hS (fun q _ h => hFc q h) hFc (fun u t H1 locs ht hvm wh_6 hB hz1 hk1 hS => ?_)
    obtain ⟨cn6, In6, Fn6⟩ := u
    obtain ⟨hP1, hD1⟩ := hB
    rw [ht] at hP1
    have hP : va_P D vwCl (wM cI cB cZ g cn6 In6 Fn6) H1 := hP1
    have hD : va_D A (wM cI cB cZ g cn6 In6 Fn6) := hD1.weaken (fun _ _ _ h => hFc _ h)
    generalize H1 = H at hP hS ⊢
    have vh_6 : (fun c2 I2 F2 => Fr [18] [] [17] cn4 In Fn4 c2 I2 F2 ∧ IM c2 F2 ∧ (c2 18 = (cn4 18) + 4)) cn6 In6 Fn6 := wh_6
    obtain ⟨hfc6, hIn6, h_6⟩ := vh_6
    obtain rfl : In = In6 := (funext (fun k => hfc6.2.1 k List.not_mem_nil)).symm
    have hf6 : Fr [18] [] [17] cn In Fn cn6 In Fn6 := Fr.mo (Fr.tr hf4 hfc6) (sbl rfl) (sbl rfl) (sbl rfl)
    have hi_cn6 : Hid (CB cn6) := hIn6.b
    have hq_cn6 := Hid.i (frq_18_0_1_2_46_57_58_62_63_75_83_44 hf6)
    refine lv_aload_n hx hb (oc_42 25 shX12_feed_25) rfl (lvA0 hl) ?_
    refine lv_iload_n hx hb (oc_29 26 (aq_1 shX12_feed_25)) rfl (lvA3 hl) ?_
    have hFc := free_all hD hS hA
    refine va_callv (runV_a (As := [.int v2]) (rest := []) S (q_types l D cI cB cZ g cn6 In Fn6 v2 H.size hIn6 (by (first | omega | (have zz0 := Hid.u hi_cn; have zz1 := Hid.u hi_cn4; have zz2 := Hid.u hi_cn6; have zz3 := Hid.u hq_cn4; have zz4 := Hid.u hq_cn6; omega)))) kV_RX12_229 hK hP hD 0 rfl rfl rfl ⟨Nat.le_of_ble_eq_true rfl, Nat.le_of_ble_eq_true rfl⟩ ⟨Nat.le_of_ble_eq_true rfl, Nat.le_of_ble_eq_true rfl⟩ rfl hl.1 rfl (Nat.le_of_ble_eq_true rfl) (oc_182 27 (aq_2 shX12_feed_25) uw_0_229)) hS (fun q _ h => hFc q h) hFc (fun u t H1 locs ht hvm wh_8 hB hz1 hk1 hS => ?_)
    obtain ⟨cn8, In8, Fn8⟩ := u
    obtain ⟨hP1, hD1⟩ := hB
    rw [ht] at hP1
    have hP : va_P D vwCl (wM cI cB cZ g cn8 In8 Fn8) H1 := hP1
    have hD : va_D A (wM cI cB cZ g cn8 In8 Fn8) := hD1.weaken (fun _ _ _ h => hFc _ h)
    generalize H1 = H at hP hS ⊢
    have vh_8 : (fun c2 I2 F2 => Fr [18] [] [17] cn6 In Fn6 c2 I2 F2 ∧ IM c2 F2 ∧ (c2 18 = (cn6 18) + 4)) cn8 In8 Fn8 := wh_8
    obtain ⟨hfc8, hIn8, h_8⟩ := vh_8
    obtain rfl : In = In8 := (funext (fun k => hfc8.2.1 k List.not_mem_nil)).symm
    have hf8 : Fr [18] [] [17] cn In Fn cn8 In Fn8 := Fr.mo (Fr.tr hf6 hfc8) (sbl rfl) (sbl rfl) (sbl rfl)
    have hi_cn8 : Hid (CB cn8) := hIn8.b
    have hq_cn8 := Hid.i (frq_18_0_1_2_46_57_58_62_63_75_83_44 hf8)
    refine lv_aload_n hx hb (oc_42 30 (aq_5 shX12_feed_25)) rfl (lvA0 hl) ?_
    refine lv_iload hx hb (oc_21 31 (aq_6 shX12_feed_25) ub_4) (lvA4 hl) ?_
    have hFc := free_all hD hS hA
    refine va_callv (runV_a (As := [.int v3]) (rest := []) S (q_types l D cI cB cZ g cn8 In Fn8 v3 H.size hIn8 (by (first | omega | (have zz0 := Hid.u hi_cn; have zz1 := Hid.u hi_cn4; have zz2 := Hid.u hi_cn6; have zz3 := Hid.u hi_cn8; have zz4 := Hid.u hq_cn4; have zz5 := Hid.u hq_cn6; have zz6 := Hid.u hq_cn8; omega)))) kV_RX12_229 hK hP hD 0 rfl rfl rfl ⟨Nat.le_of_ble_eq_true rfl, Nat.le_of_ble_eq_true rfl⟩ ⟨Nat.le_of_ble_eq_true rfl, Nat.le_of_ble_eq_true rfl⟩ rfl hl.1 rfl (Nat.le_of_ble_eq_true rfl) (oc_182 33 (aq_8 shX12_feed_25) uw_0_229)) hS (fun q _ h => hFc q h) hFc (fun u t H1 locs ht hvm wh_10 hB hz1 hk1 hS => ?_)
    obtain ⟨cn10, In10, Fn10⟩ := u
    obtain ⟨hP1, hD1⟩ := hB
    rw [ht] at hP1
    have hP : va_P D vwCl (wM cI cB cZ g cn10 In10 Fn10) H1 := hP1
    have hD : va_D A (wM cI cB cZ g cn10 In10 Fn10) := hD1.weaken (fun _ _ _ h => hFc _ h)
    generalize H1 = H at hP hS ⊢
    have vh_10 : (fun c2 I2 F2 => Fr [18] [] [17] cn8 In Fn8 c2 I2 F2 ∧ IM c2 F2 ∧ (c2 18 = (cn8 18) + 4)) cn10 In10 Fn10 := wh_10
    obtain ⟨hfc10, hIn10, h_10⟩ := vh_10
    obtain rfl : In = In10 := (funext (fun k => hfc10.2.1 k List.not_mem_nil)).symm
    have hf10 : Fr [18] [] [17] cn In Fn cn10 In Fn10 := Fr.mo (Fr.tr hf8 hfc10) (sbl rfl) (sbl rfl) (sbl rfl)
    have hi_cn10 : Hid (CB cn10) := hIn10.b
    have hq_cn10 := Hid.i (frq_18_0_1_2_46_57_58_62_63_75_83_44 hf10)
    refine lv_aload_n hx hb (oc_42 36 (aq_11 shX12_feed_25)) rfl (lvA0 hl) ?_
    refine lv_iload hx hb (oc_21 37 (aq_12 shX12_feed_25) ub_5) (lvA5 hl) ?_
    have hFc := free_all hD hS hA
    refine va_callv (runV_a (As := [.int v4]) (rest := []) S (q_types l D cI cB cZ g cn10 In Fn10 v4 H.size hIn10 (by (first | omega | (have zz0 := Hid.u hi_cn; have zz1 := Hid.u hi_cn10; have zz2 := Hid.u hi_cn4; have zz3 := Hid.u hi_cn6; have zz4 := Hid.u hi_cn8; have zz5 := Hid.u hq_cn10; have zz6 := Hid.u hq_cn4; have zz7 := Hid.u hq_cn6; have zz8 := Hid.u hq_cn8; omega)))) kV_RX12_229 hK hP hD 0 rfl rfl rfl ⟨Nat.le_of_ble_eq_true rfl, Nat.le_of_ble_eq_true rfl⟩ ⟨Nat.le_of_ble_eq_true rfl, Nat.le_of_ble_eq_true rfl⟩ rfl hl.1 rfl (Nat.le_of_ble_eq_true rfl) (oc_182 39 (aq_14 shX12_feed_25) uw_0_229)) hS (fun q _ h => hFc q h) hFc (fun u t H1 locs ht hvm wh_12 hB hz1 hk1 hS => ?_)
    obtain ⟨cn12, In12, Fn12⟩ := u
    obtain ⟨hP1, hD1⟩ := hB
    rw [ht] at hP1
    have hP : va_P D vwCl (wM cI cB cZ g cn12 In12 Fn12) H1 := hP1
    have hD : va_D A (wM cI cB cZ g cn12 In12 Fn12) := hD1.weaken (fun _ _ _ h => hFc _ h)
    generalize H1 = H at hP hS ⊢
    have vh_12 : (fun c2 I2 F2 => Fr [18] [] [17] cn10 In Fn10 c2 I2 F2 ∧ IM c2 F2 ∧ (c2 18 = (cn10 18) + 4)) cn12 In12 Fn12 := wh_12
    obtain ⟨hfc12, hIn12, h_12⟩ := vh_12
    obtain rfl : In = In12 := (funext (fun k => hfc12.2.1 k List.not_mem_nil)).symm
    have hf12 : Fr [18] [] [17] cn In Fn cn12 In Fn12 := Fr.mo (Fr.tr hf10 hfc12) (sbl rfl) (sbl rfl) (sbl rfl)
    have hi_cn12 : Hid (CB cn12) := hIn12.b
    have hq_cn12 := Hid.i (frq_18_0_1_2_46_57_58_62_63_75_83_44 hf12)
    refine lv_aload_n hx hb (oc_42 42 (aq_17 shX12_feed_25)) rfl (lvA0 hl) ?_
    refine gM_226 S hK hP (v := .int (nI (cn12 18))) rfl (oc_180 43 (aq_18 shX12_feed_25) uw_0_226) ?_
    exact W.iret (v := (nI (cn12 18))) hx hb hr (fun t ht hW => ⟨⟨(nI (cn12 18)), (cn12, In, Fn12), rfl, ⟨(Fr.mo hf12 (sbl rfl) (sbl rfl) (sbl rfl)), hIn12, (by show cn12 18 ≤ 200; (first | omega | (have zz0 := Hid.u hi_cn; have zz1 := Hid.u hi_cn10; have zz2 := Hid.u hi_cn12; have zz3 := Hid.u hi_cn4; have zz4 := Hid.u hi_cn6; have zz5 := Hid.u hi_cn8; have zz6 := Hid.u hq_cn10; have zz7 := Hid.u hq_cn12; have zz8 := Hid.u hq_cn4; have zz9 := Hid.u hq_cn6; have zz10 := Hid.u hq_cn8; omega)))⟩, by rw [ht]; exact hP, hD⟩, hS.F ht⟩) hS.2.2 (oc_172 46 (aq_21 shX12_feed_25))
  ·
    have tc_2 : (200 : Int) < (nI ((cn 18) + 20)).toInt := Int32.lt_iff_toInt_lt.mp (Int32.not_le.mp c_2)
    refine lv_iconst (v := (-1)) hx hb (oc_2 13 (aq_13 shX12_feed_0)) kic_m1 ?_
    exact W.iret (v := (-1)) hx hb hr (fun t ht hW => ⟨⟨(-1), (cn, In, Fn), rfl, ⟨(Fr.mo Fr.rf (sbl rfl) (sbl rfl) (sbl rfl)), hI, (by show cn 18 ≤ 200; (first | omega | (have zz0 := Hid.u hi_cn; omega)))⟩, by rw [ht]; exact hP, hD⟩, hS.F ht⟩) hS.2.2 (oc_172 14 (aq_14 shX12_feed_0))
end

section
/-- a waiting sign's kind and its number -/
def kd (x : Int32) : Nat := x.toInt.toNat / 1048576
def vl (x : Int32) : Nat := x.toInt.toNat % 1048576
theorem kd_nI {k v : Nat} (hk : k ≤ 14) (hv : v < 1048576) : kd (nI (k * 1048576 + v)) = k := by
  unfold kd; rw [nI_tn (by omega)]; omega
theorem kd_nI0 {k : Nat} (hk : k ≤ 14) : kd (nI (k * 1048576)) = k := by
  have := kd_nI (k := k) (v := 0) hk (by decide)
  rw [Nat.add_zero] at this; exact this
theorem vl_nI {k v : Nat} (hk : k ≤ 14) (hv : v < 1048576) : vl (nI (k * 1048576 + v)) = v := by
  unfold vl; rw [nI_tn (by omega)]; omega
def WKk (x : Int32) : Prop := ∃ k v : Nat, x = nI (k * 1048576 + v) ∧ v < 1048576 ∧ 2 ≤ k ∧ k ≤ 14
theorem WKk.k {x : Int32} (h : WKk x) : 2 ≤ kd x ∧ kd x ≤ 14 := by
  obtain ⟨k, v, rfl, h1, h2, h3⟩ := h
  rw [kd_nI h3 h1]; exact ⟨h2, h3⟩
theorem WKk.e {x : Int32} (h : WKk x) : x = nI (kd x * 1048576 + vl x) := by
  obtain ⟨k, v, rfl, h1, h2, h3⟩ := h
  rw [kd_nI h3 h1, vl_nI h3 h1]
theorem vl_lt (x : Int32) : vl x < 1048576 := Nat.mod_lt _ (by decide)
theorem WKk.div {x : Int32} (h : WKk x) : x / 1048576 = nI (kd x) := by
  have e := h.e
  have k := h.k
  have l := vl_lt x
  generalize kd x = a at e k ⊢
  generalize vl x = b at e l
  subst e
  exact (nI_div (b := 1048576) (by omega) (by decide)).trans (congrArg nI (by omega))
theorem WKk.rem {x : Int32} (h : WKk x) : x - x / 1048576 * 1048576 = nI (vl x) := by
  have e := h.e
  have k := h.k
  have l := vl_lt x
  generalize kd x = a at e k
  generalize vl x = b at e l ⊢
  subst e
  exact (nI_rem (b := 1048576) (by omega) (by decide)).trans (congrArg nI (by omega))
theorem WKk.mk {k v : Nat} (h1 : 2 ≤ k) (h2 : k ≤ 14) (hv : v < 1048576) : WKk (nI (k * 1048576 + v)) := ⟨k, v, rfl, hv, h1, h2⟩
/-- the waiting signs that will give a code -/
def pot (f : Nat → Int32) : Nat → Nat
  | 0 => 0
  | n + 1 => pot f n + (if kd (f n) ≤ 10 then 1 else 0)
theorem pot_cg {f g : Nat → Int32} : ∀ {n : Nat}, (∀ i : Nat, i < n → f i = g i) → pot f n = pot g n
  | 0, _ => rfl
  | n + 1, h => by rw [pot, pot, pot_cg (n := n) (fun i hi => h i (by omega)), h n (by omega)]
theorem pot_up {f : Nat → Int32} {n m : Nat} {x : Int32} (h : n ≤ m) : pot (upd f m x) n = pot f n := pot_cg (fun i hi => by unfold upd; rw [if_neg (by omega)])
theorem pot_1 {f : Nat → Int32} {n : Nat} (h : kd (f n) ≤ 10) : pot f (n + 1) = pot f n + 1 := by rw [pot, if_pos h]
theorem pot_2 {f : Nat → Int32} {n : Nat} (h : ¬ kd (f n) ≤ 10) : pot f (n + 1) = pot f n := by rw [pot, if_neg h]; rfl
theorem pot_mo {f : Nat → Int32} : ∀ {n m : Nat}, n ≤ m → pot f n ≤ pot f m := by
  intro n m h
  induction m with
  | zero => rw [show n = 0 by omega]; exact Nat.le_refl _
  | succ m ih =>
    by_cases e : n = m + 1
    · rw [e]; exact Nat.le_refl _
    · have := ih (by omega); rw [pot]; omega
def JOK (C : Nat → Int32) (ht : Nat → Nat) (a cm v : Nat) : Prop := a ≤ v ∧ v < cm ∧ ht v = 1 ∧ ht (v + 1) = 0 ∧ ∃ op y : Nat, (op = 11 ∨ op = 12) ∧ y < 1048576 ∧ C v = nI (op * 1048576 + y)
def PJ (C W : Nat → Int32) (ht : Nat → Nat) (w k : Nat) : Prop := ht k = 1 ∧ ht (k + 1) = 0 ∧ (∃ op y : Nat, (op = 11 ∨ op = 12) ∧ y < 1048576 ∧ C k = nI (op * 1048576 + y)) ∧ ∃ i : Nat, i < w ∧ 11 ≤ kd (W i) ∧ kd (W i) ≤ 12 ∧ vl (W i) = k
/-- where reading stands: pl of ln, cm codes, w waiting, codes C, waiting W, the piece from a, the stack's height h, s bytes to spare -/
def PBk (pl ln cm w : Nat) (C W : Nat → Int32) (a h s : Nat) : Prop :=
  pl ≤ ln ∧ ln ≤ 160 ∧ w ≤ pl ∧ cm + pot W w + s ≤ pl ∧ a ≤ cm ∧ h + a ≤ cm ∧ (∀ i : Nat, i < w → WKk (W i)) ∧
  ∃ ht : Nat → Nat, ht a = 0 ∧ ht cm = h ∧ (∀ k : Nat, a ≤ k → k < cm → StOK C ht 0 cm k ∨ PJ C W ht w k) ∧ ∀ i : Nat, i < w → 11 ≤ kd (W i) → kd (W i) ≤ 12 → JOK C ht a cm (vl (W i))
theorem PBk.f {pl ln cm w a h s : Nat} {C W : Nat → Int32} (H : PBk pl ln cm w C W a h s) : pl ≤ ln ∧ ln ≤ 160 ∧ w ≤ pl ∧ cm + pot W w + s ≤ pl ∧ a ≤ cm ∧ h + a ≤ cm := ⟨H.1, H.2.1, H.2.2.1, H.2.2.2.1, H.2.2.2.2.1, H.2.2.2.2.2.1⟩
theorem PBk.w {pl ln cm w a h s : Nat} {C W : Nat → Int32} (H : PBk pl ln cm w C W a h s) : ∀ i : Nat, i < w → WKk (W i) := H.2.2.2.2.2.2.1
theorem StOK.cg {C C' : Nat → Int32} {ht ht' : Nat → Nat} {b b' k : Nat} (H : StOK C ht 0 b k) (hk : k < b) (hC : C' k = C k) (hh : ∀ j : Nat, j ≤ b → ht' j = ht j) (hb : b ≤ b') : StOK C' ht' 0 b' k := by
  obtain ⟨op, v, e, hv, h180, hc⟩ := H
  have e0 := hh k (by omega)
  have e1 := hh (k + 1) (by omega)
  refine ⟨op, v, by rw [hC]; exact e, hv, by omega, ?_⟩
  rcases hc with hc | hc | hc | ⟨h1, h2, h3, h4, h5, h6⟩ | hc
  · exact Or.inl ⟨hc.1, by omega, by omega⟩
  · exact Or.inr (Or.inl ⟨hc.1, hc.2.1, by omega, by omega⟩)
  · exact Or.inr (Or.inr (Or.inl ⟨hc.1, by omega, by omega⟩))
  · exact Or.inr (Or.inr (Or.inr (Or.inl ⟨h1, by omega, by omega, h4, by omega, by rw [hh (0 + v) (by omega), e0]; exact h6⟩)))
  · exact Or.inr (Or.inr (Or.inr (Or.inr ⟨hc.1, hc.2.1, by omega, by omega⟩)))
theorem PBk.pl {pl pl' ln cm w a h s s' : Nat} {C W : Nat → Int32} (H : PBk pl ln cm w C W a h s) (h1 : pl ≤ pl') (h2 : pl' ≤ ln) (h3 : s' + pl ≤ s + pl') : PBk pl' ln cm w C W a h s' := by
  obtain ⟨k1, k2, k3, k4, k5, k6, k7⟩ := H
  exact ⟨h2, k2, by omega, by omega, k5, k6, k7⟩
/-- one code more; the last waiting sign may have gone -/
theorem PBk.code {pl pl' ln cm w w' a h h' s s' o x : Nat} {C W : Nat → Int32} (H : PBk pl ln cm w C W a h s) (hp : pl ≤ pl') (hl : pl' ≤ ln) (hw : w' = w ∨ (w = w' + 1 ∧ kd (W w') ≤ 10)) (hx : x < 1048576) (hs : (o = 0 ∧ h' = h + 1) ∨ (o = 1 ∧ x < 11 ∧ h' = h + 1) ∨ (o = 10 ∧ 1 ≤ h ∧ h' = h) ∨ (2 ≤ o ∧ o ≤ 9 ∧ 2 ≤ h ∧ h' + 1 = h)) (hq : cm + 1 + pot W w' + s' ≤ pl') : PBk pl' ln (cm + 1) w' (upd C cm (nI (o * 1048576 + x))) W a h' s' := by
  obtain ⟨k1, k2, k3, k4, k5, k6, kw, ht, ha, hh, hc, hj⟩ := H
  have up : ∀ j : Nat, j < cm → upd C cm (nI (o * 1048576 + x)) j = C j := fun j hj => by unfold upd; rw [if_neg (by omega)]
  have hu : ∀ j : Nat, j ≤ cm → va_up ht (cm + 1) h' j = ht j := fun j hj => va_up_ne _ _ (by omega)
  refine ⟨hl, k2, by omega, hq, by omega, by omega, fun i hi => kw i (by omega), va_up ht (cm + 1) h', ?_, va_up_self _ _ _, ?_, ?_⟩
  · rw [hu a k5]; exact ha
  · intro k q1 q2
    by_cases e : k = cm
    · subst e
      refine Or.inl ⟨o, x, by simp [upd], hx, by rw [hu k (Nat.le_refl _)]; omega, ?_⟩
      rw [hu k (Nat.le_refl _), va_up_self, hh]
      rcases hs with q | q | q | q
      · exact Or.inl ⟨q.1, by omega, q.2⟩
      · exact Or.inr (Or.inl ⟨q.1, q.2.1, by omega, q.2.2⟩)
      · exact Or.inr (Or.inr (Or.inl ⟨q.1, q.2.1, q.2.2⟩))
      · exact Or.inr (Or.inr (Or.inr (Or.inr ⟨q.1, q.2.1, q.2.2.1, q.2.2.2⟩)))
    · rcases hc k q1 (by omega) with q | ⟨p1, p2, p3, i, p4, p5, p6, p7⟩
      · exact Or.inl (q.cg (by omega) (up k (by omega)) hu (by omega))
      · refine Or.inr ⟨by rw [hu k (by omega)]; exact p1, by rw [hu (k + 1) (by omega)]; exact p2, by rw [up k (by omega)]; exact p3, i, ?_, p5, p6, p7⟩
        rcases hw with rfl | ⟨rfl, q⟩
        · exact p4
        · have : i ≠ w' := fun z => by subst z; omega
          omega
  · intro i hi q1 q2
    obtain ⟨p1, p2, p3, p4, p5⟩ := hj i (by omega) q1 q2
    exact ⟨p1, by omega, by rw [hu _ (by omega)]; exact p3, by rw [hu _ (by omega)]; exact p4, by rw [up _ p2]; exact p5⟩
/-- a waiting sign goes without a code -/
theorem PBk.pop {pl pl' ln cm w a h s s' : Nat} {C W : Nat → Int32} (H : PBk pl ln cm (w + 1) C W a h s) (hp : pl ≤ pl') (hl : pl' ≤ ln) (hk : ¬ (11 ≤ kd (W w) ∧ kd (W w) ≤ 12)) (hq : s' + pl ≤ s + pl') : PBk pl' ln cm w C W a h s' := by
  obtain ⟨k1, k2, k3, k4, k5, k6, kw, ht, ha, hh, hc, hj⟩ := H
  have := pot_mo (f := W) (n := w) (m := w + 1) (by omega)
  refine ⟨hl, k2, by omega, by omega, k5, k6, fun i hi => kw i (by omega), ht, ha, hh, ?_, fun i hi => hj i (by omega)⟩
  intro k q1 q2
  rcases hc k q1 q2 with q | ⟨p1, p2, p3, i, p4, p5, p6, p7⟩
  · exact Or.inl q
  · refine Or.inr ⟨p1, p2, p3, i, ?_, p5, p6, p7⟩
    have : i ≠ w := fun z => by subst z; exact hk ⟨p5, p6⟩
    omega
/-- a sign waits -/
theorem PBk.push {pl ln cm w a h s s' k : Nat} {C W : Nat → Int32} (H : PBk pl ln cm w C W a h s) (hl : pl + 1 ≤ ln) (h2 : 2 ≤ k) (h3 : k ≤ 14) (h4 : ¬ (11 ≤ k ∧ k ≤ 12)) (hq : s' + (if k ≤ 10 then 1 else 0) ≤ s + 1) : PBk (pl + 1) ln cm (w + 1) C (upd W w (nI (k * 1048576))) a h s' := by
  obtain ⟨k1, k2, k3, k4, k5, k6, kw, ht, ha, hh, hc, hj⟩ := H
  have uw : ∀ i : Nat, i < w → upd W w (nI (k * 1048576)) i = W i := fun i hi => by unfold upd; rw [if_neg (by omega)]
  have us : upd W w (nI (k * 1048576)) w = nI (k * 1048576 + 0) := by simp [upd]
  have ek : kd (upd W w (nI (k * 1048576)) w) = k := by rw [us]; exact kd_nI h3 (by decide)
  have ep : pot (upd W w (nI (k * 1048576))) (w + 1) = pot W w + (if k ≤ 10 then 1 else 0) := by rw [pot, ek, pot_up (Nat.le_refl _)]
  refine ⟨hl, k2, by omega, by rw [ep]; omega, k5, k6, ?_, ht, ha, hh, ?_, ?_⟩
  · intro i hi
    by_cases e : i = w
    · subst e; rw [us]; exact WKk.mk h2 h3 (by decide)
    · rw [uw i (by omega)]; exact kw i (by omega)
  · intro j q1 q2
    rcases hc j q1 q2 with q | ⟨p1, p2, p3, i, p4, p5, p6, p7⟩
    · exact Or.inl q
    · exact Or.inr ⟨p1, p2, p3, i, by omega, by rw [uw i p4]; exact p5, by rw [uw i p4]; exact p6, by rw [uw i p4]; exact p7⟩
  · intro i hi q1 q2
    by_cases e : i = w
    · subst e; rw [ek] at q1 q2; exact absurd ⟨q1, q2⟩ h4
    · rw [uw i (by omega)] at q1 q2 ⊢; exact hj i (by omega) q1 q2
/-- a jump -/
theorem PBk.jump {pl ln cm w a s k : Nat} {C W : Nat → Int32} (H : PBk pl ln cm w C W a 1 s) (hl : pl + 1 ≤ ln) (hk : k = 11 ∨ k = 12) : PBk (pl + 1) ln (cm + 1) (w + 1) (upd C cm (nI (k * 1048576 + 0))) (upd W w (nI (1048576 * k + cm))) a 0 s := by
  obtain ⟨k1, k2, k3, k4, k5, k6, kw, ht, ha, hh, hc, hj⟩ := H
  have cb : cm < 1048576 := by omega
  rw [Nat.mul_comm 1048576 k]
  have up : ∀ j : Nat, j < cm → upd C cm (nI (k * 1048576 + 0)) j = C j := fun j hj => by unfold upd; rw [if_neg (by omega)]
  have uc : upd C cm (nI (k * 1048576 + 0)) cm = nI (k * 1048576 + 0) := by simp [upd]
  have hu : ∀ j : Nat, j ≤ cm → va_up ht (cm + 1) 0 j = ht j := fun j hj => va_up_ne _ _ (by omega)
  have uw : ∀ i : Nat, i < w → upd W w (nI (k * 1048576 + cm)) i = W i := fun i hi => by unfold upd; rw [if_neg (by omega)]
  have us : upd W w (nI (k * 1048576 + cm)) w = nI (k * 1048576 + cm) := by simp [upd]
  have ek : kd (upd W w (nI (k * 1048576 + cm)) w) = k := by rw [us]; exact kd_nI (by omega) cb
  have ev : vl (upd W w (nI (k * 1048576 + cm)) w) = cm := by rw [us]; exact vl_nI (by omega) cb
  have ep : pot (upd W w (nI (k * 1048576 + cm))) (w + 1) = pot W w := by rw [pot, ek, pot_up (Nat.le_refl _), if_neg (by omega)]; rfl
  refine ⟨hl, k2, by omega, by rw [ep]; omega, by omega, by omega, ?_, va_up ht (cm + 1) 0, ?_, va_up_self _ _ _, ?_, ?_⟩
  · intro i hi
    by_cases e : i = w
    · subst e; rw [us]; exact WKk.mk (by omega) (by omega) cb
    · rw [uw i (by omega)]; exact kw i (by omega)
  · rw [hu a k5]; exact ha
  · intro j q1 q2
    by_cases e : j = cm
    · subst e
      exact Or.inr ⟨by rw [hu j (Nat.le_refl _)]; exact hh, va_up_self _ _ _, ⟨k, 0, hk, by decide, uc⟩, w, by omega, by rw [ek]; omega, by rw [ek]; omega, ev⟩
    · rcases hc j q1 (by omega) with q | ⟨p1, p2, p3, i, p4, p5, p6, p7⟩
      · exact Or.inl (q.cg (by omega) (up j (by omega)) hu (by omega))
      · exact Or.inr ⟨by rw [hu j (by omega)]; exact p1, by rw [hu (j + 1) (by omega)]; exact p2, by rw [up j (by omega)]; exact p3, i, by omega, by rw [uw i p4]; exact p5, by rw [uw i p4]; exact p6, by rw [uw i p4]; exact p7⟩
  · intro i hi q1 q2
    by_cases e : i = w
    · subst e
      rw [ev]
      exact ⟨k5, by omega, by rw [hu cm (Nat.le_refl _)]; exact hh, va_up_self _ _ _, k, 0, hk, by decide, uc⟩
    · rw [uw i (by omega)] at q1 q2 ⊢
      obtain ⟨p1, p2, p3, p4, p5⟩ := hj i (by omega) q1 q2
      exact ⟨p1, by omega, by rw [hu _ (by omega)]; exact p3, by rw [hu _ (by omega)]; exact p4, by rw [up _ p2]; exact p5⟩
theorem PBk.jo {pl ln cm w a h s : Nat} {C W : Nat → Int32} (H : PBk pl ln cm (w + 1) C W a h s) (h1 : 11 ≤ kd (W w)) (h2 : kd (W w) ≤ 12) : ∃ op y : Nat, (op = 11 ∨ op = 12) ∧ y < 1048576 ∧ a ≤ vl (W w) ∧ vl (W w) < cm ∧ C (vl (W w)) = nI (op * 1048576 + y) := by
  obtain ⟨k1, k2, k3, k4, k5, k6, kw, ht, ha, hh, hc, hj⟩ := H
  obtain ⟨p1, p2, p3, p4, op, y, p5, p6, p7⟩ := hj w (by omega) h1 h2
  exact ⟨op, y, p5, p6, p1, p2, p7⟩
/-- a jump's end -/
theorem PBk.land {pl ln cm w a s op : Nat} {C W : Nat → Int32} (H : PBk pl ln cm (w + 1) C W a 1 s) (h1 : 11 ≤ kd (W w)) (h2 : kd (W w) ≤ 12) (hop : op = 11 ∨ op = 12) : PBk pl ln cm w (upd C (vl (W w)) (nI (1048576 * op + cm))) W a 1 s := by
  obtain ⟨k1, k2, k3, k4, k5, k6, kw, ht, ha, hh, hc, hj⟩ := H
  obtain ⟨j1, j2, j3, j4, j5⟩ := hj w (by omega) h1 h2
  have := pot_mo (f := W) (n := w) (m := w + 1) (by omega)
  rw [Nat.mul_comm 1048576 op]
  generalize hv : vl (W w) = v at j1 j2 j3 j4 j5 ⊢
  have up : ∀ j : Nat, j ≠ v → upd C v (nI (op * 1048576 + cm)) j = C j := fun j hj => by unfold upd; rw [if_neg hj]
  have uv : upd C v (nI (op * 1048576 + cm)) v = nI (op * 1048576 + cm) := by simp [upd]
  refine ⟨k1, k2, by omega, by omega, k5, k6, fun i hi => kw i (by omega), ht, ha, hh, ?_, ?_⟩
  · intro k q1 q2
    by_cases e : k = v
    · subst e
      exact Or.inl ⟨op, cm, uv, by omega, by omega, Or.inr (Or.inr (Or.inr (Or.inl ⟨hop, by omega, by omega, by omega, by omega, by rw [Nat.zero_add, hh]; omega⟩)))⟩
    · rcases hc k q1 q2 with q | ⟨p1, p2, p3, i, p4, p5, p6, p7⟩
      · exact Or.inl (q.cg q2 (up k e) (fun _ _ => rfl) (Nat.le_refl _))
      · by_cases z : i = w
        · subst z; exact absurd (p7.symm.trans hv) e
        · exact Or.inr ⟨p1, p2, by rw [up k e]; exact p3, i, by omega, p5, p6, p7⟩
  · intro i hi q1 q2
    obtain ⟨p1, p2, p3, p4, p5⟩ := hj i (by omega) q1 q2
    refine ⟨p1, p2, p3, p4, ?_⟩
    by_cases e : vl (W i) = v
    · rw [e, uv]; exact ⟨op, cm, hop, by omega, rfl⟩
    · rw [up _ e]; exact p5
/-- within a sum that began with w0 waiting -/
def PSx (pl ln cm w : Nat) (C W : Nat → Int32) (a G w0 s : Nat) : Prop := ∃ h : Nat, PBk pl ln cm w C W a h s ∧ h + pot W w0 = G + pot W w ∧ w0 ≤ w ∧ (∀ i : Nat, w0 ≤ i → i < w → kd (W i) ≤ 6 ∨ kd (W i) = 14) ∧ (0 < w0 → 10 ≤ kd (W (w0 - 1)) ∧ kd (W (w0 - 1)) ≤ 13)
section SUMS
variable {pl pl' ln cm w a G w0 s n o x : Nat} {C W : Nat → Int32}
theorem PSx.f (H : PSx pl ln cm w C W a G w0 s) : pl ≤ ln ∧ ln ≤ 160 ∧ w ≤ pl ∧ cm + pot W w + s ≤ pl ∧ a ≤ cm ∧ w0 ≤ w := by
  obtain ⟨h, H, h1, h2, h3, h4⟩ := H
  have := H.f
  omega
theorem PSx.wk (H : PSx pl ln cm w C W a G w0 s) : ∀ i : Nat, i < w → WKk (W i) := by
  obtain ⟨h, H, h1, h2, h3, h4⟩ := H
  exact H.w
theorem PSx.start {h : Nat} (H : PBk pl ln cm w C W a h s) (hB : 0 < w → 10 ≤ kd (W (w - 1)) ∧ kd (W (w - 1)) ≤ 13) : PSx pl ln cm w C W a h w s := ⟨h, H, rfl, Nat.le_refl _, fun i h1 h2 => absurd h2 (by omega), hB⟩
theorem PSx.fin (H : PSx pl ln cm w C W a G w s) : PBk pl ln cm w C W a G s := by
  obtain ⟨h, H, h1, h2, h3, h4⟩ := H
  rw [show G = h by omega]; exact H
theorem PSx.factor (H : PSx pl ln cm w C W a G w0 s) (hp : pl < pl') (hl : pl' ≤ ln) (ho : o = 0 ∨ (o = 1 ∧ x < 11)) (hx : x < 1048576) : PSx pl' ln (cm + 1) w (upd C cm (nI (o * 1048576 + x))) W a (G + 1) w0 s := by
  obtain ⟨h, H, h1, h2, h3, h4⟩ := H
  have f := H.f
  exact ⟨h + 1, H.code (by omega) hl (Or.inl rfl) hx (ho.elim (fun q => Or.inl ⟨q, rfl⟩) (fun q => Or.inr (Or.inl ⟨q.1, q.2, rfl⟩))) (by omega), by omega, h2, h3, h4⟩
theorem PSx.top (H : PSx pl ln cm (w + 1) C W a G w0 s) (hk : kd (W w) ≤ 6) : w0 ≤ w := by
  obtain ⟨h, H, h1, h2, h3, h4⟩ := H
  by_cases e : w0 = w + 1
  · subst e
    have := h4 (by omega)
    rw [show w + 1 - 1 = w by omega] at this
    omega
  · omega
theorem PSx.popop (H : PSx pl ln cm (w + 1) C W a (G + 1) w0 s) (hk : kd (W w) ≤ 6) : PSx pl ln (cm + 1) w (upd C cm (nI (kd (W w) * 1048576 + 0))) W a (G + 1) w0 s := by
  have ht := H.top hk
  obtain ⟨h, H, h1, h2, h3, h4⟩ := H
  have f := H.f
  have p1 := pot_1 (f := W) (n := w) (by omega)
  have p2 := pot_mo (f := W) ht
  have k := (H.w w (by omega)).k
  exact ⟨h - 1, H.code (Nat.le_refl _) f.1 (Or.inr ⟨rfl, by omega⟩) (by decide) (Or.inr (Or.inr (Or.inr ⟨k.1, by omega, by omega, by omega⟩))) (by omega), by omega, ht, fun i q1 q2 => h3 i q1 (by omega), h4⟩
theorem PSx.pop14 (H : PSx pl ln cm (w + 1) C W a G w0 s) (hw : w0 ≤ w) (hk : kd (W w) = 14) (hl : pl + 1 ≤ ln) : PSx (pl + 1) ln cm w C W a G w0 s := by
  obtain ⟨h, H, h1, h2, h3, h4⟩ := H
  have p1 := pot_2 (f := W) (n := w) (by omega)
  exact ⟨h, H.pop (by omega) hl (by omega) (by omega), by omega, hw, fun i q1 q2 => h3 i q1 (by omega), h4⟩
theorem PSx.push14 (H : PSx pl ln cm w C W a G w0 s) (hl : pl + 1 ≤ ln) : PSx (pl + 1) ln cm (w + 1) C (upd W w (nI (14 * 1048576))) a G w0 s := by
  obtain ⟨h, H, h1, h2, h3, h4⟩ := H
  have uw : ∀ i : Nat, i < w → upd W w (nI (14 * 1048576)) i = W i := fun i hi => by unfold upd; rw [if_neg (by omega)]
  have ek : kd (upd W w (nI (14 * 1048576)) w) = 14 := by
    have : upd W w (nI (14 * 1048576)) w = nI (14 * 1048576 + 0) := by simp [upd]
    rw [this]; exact kd_nI (by decide) (by decide)
  have p0 := pot_up (f := W) (x := nI (14 * 1048576)) h2
  have p1 := pot_up (f := W) (x := nI (14 * 1048576)) (Nat.le_refl w)
  have p2 := pot_2 (f := upd W w (nI (14 * 1048576))) (n := w) (by omega)
  refine ⟨h, H.push hl (by decide) (by decide) (by omega) (by simp), by omega, by omega, ?_, ?_⟩
  · intro i q1 q2
    by_cases e : i = w
    · subst e; exact Or.inr ek
    · rw [uw i (by omega)]; exact h3 i q1 (by omega)
  · intro q; rw [uw (w0 - 1) (by omega)]; exact h4 q
theorem PSx.pushop (H : PSx pl ln cm w C W a (G + 1) w0 s) (hl : pl + 1 ≤ ln) (h2 : 2 ≤ n) (h6 : n ≤ 6) : PSx (pl + 1) ln cm (w + 1) C (upd W w (nI (n * 1048576))) a G w0 s := by
  obtain ⟨h, H, k1, k2, h3, h4⟩ := H
  have uw : ∀ i : Nat, i < w → upd W w (nI (n * 1048576)) i = W i := fun i hi => by unfold upd; rw [if_neg (by omega)]
  have ek : kd (upd W w (nI (n * 1048576)) w) = n := by
    have : upd W w (nI (n * 1048576)) w = nI (n * 1048576 + 0) := by simp [upd]
    rw [this]; exact kd_nI (by omega) (by decide)
  have p0 := pot_up (f := W) (x := nI (n * 1048576)) k2
  have p1 := pot_up (f := W) (x := nI (n * 1048576)) (Nat.le_refl w)
  have p2 := pot_1 (f := upd W w (nI (n * 1048576))) (n := w) (by omega)
  refine ⟨h, H.push hl h2 (by omega) (by omega) (by rw [if_pos (by omega)]; omega), by omega, by omega, ?_, ?_⟩
  · intro i q1 q2
    by_cases e : i = w
    · subst e; exact Or.inl (by omega)
    · rw [uw i (by omega)]; exact h3 i q1 (by omega)
  · intro q; rw [uw (w0 - 1) (by omega)]; exact h4 q
end SUMS
theorem top14 {W : Nat → Int32} {w0 w w' : Nat} (h : ∃ i : Nat, w0 ≤ i ∧ i < w ∧ kd (W i) = 14) (h1 : ∀ i : Nat, w' ≤ i → i < w → kd (W i) ≤ 6) (h2 : w' = w0 ∨ kd (W (w' - 1)) = 14) (h3 : w0 ≤ w') : w0 < w' ∧ kd (W (w' - 1)) = 14 := by
  obtain ⟨i, a, b, e⟩ := h
  rcases h2 with h2 | h2
  · have := h1 i (by omega) b; omega
  · refine ⟨?_, h2⟩
    by_cases z : w' = w0
    · have := h1 i (by omega) b; omega
    · omega
theorem ha255 (x : Int32) : 0 ≤ (x &&& 255).toInt ∧ (x &&& 255).toInt ≤ 255 := by
  have e : (x &&& 255).toBitVec.toNat ≤ 255 := by
    rw [Int32.toBitVec_and, BitVec.toNat_and]
    exact Nat.and_le_right
  have e2 : (x &&& 255).toInt = ((x &&& 255).toBitVec.toNat : Int) := by
    show (x &&& 255).toBitVec.toInt = _
    rw [BitVec.toInt_eq_toNat_of_lt (by omega)]
  omega
/-- the byte that is read next -/
def hereM (cn : Nat → Nat) (Fn : Nat → Nat → Int32) : Int32 := if cn 19 < cn 20 then Fn 17 (cn 19) &&& 255 else -1
theorem hereM_cg {cn c2 : Nat → Nat} {Fn F2 : Nat → Nat → Int32} (h1 : c2 19 = cn 19) (h2 : c2 20 = cn 20) (h3 : F2 17 = Fn 17) : hereM c2 F2 = hereM cn Fn := by unfold hereM; rw [h1, h2, h3]
theorem nI_ofT {x : Int32} {n : Nat} (h : x.toInt = (n : Int)) (hn : n < 2 ^ 31) : x = nI n := Int32.toInt_inj.mp (h.trans (nI_toInt hn).symm)
theorem SegOK.cg {C C' : Nat → Int32} {a b : Nat} (h : SegOK C 0 a b) (e : ∀ k : Nat, k < b → C' k = C k) : SegOK C' 0 a b := by
  obtain ⟨ht, h0, hs⟩ := h
  exact ⟨ht, h0, fun k q1 q2 => (hs k q1 q2).cg q2 (e k q2) (fun _ _ => rfl) (Nat.le_refl _)⟩
theorem PBk.seg {pl ln cm a h s : Nat} {C W : Nat → Int32} (H : PBk pl ln cm 0 C W a h s) : SegOK C 0 a cm := by
  obtain ⟨k1, k2, k3, k4, k5, k6, kw, ht, ha, hh, hc, hj⟩ := H
  refine ⟨ht, ha, fun k q1 q2 => ?_⟩
  rcases hc k q1 q2 with q | ⟨p1, p2, p3, i, p4, p5⟩
  · exact q
  · omega
theorem PBk.new {pl ln cm s : Nat} {C W : Nat → Int32} (h1 : pl ≤ ln) (h2 : ln ≤ 160) (h3 : cm + s ≤ pl) : PBk pl ln cm 0 C W cm 0 s := ⟨h1, h2, Nat.zero_le _, by rw [pot]; omega, Nat.le_refl _, by omega, fun i hi => absurd hi (Nat.not_lt_zero i), fun _ => 0, rfl, rfl, fun k q1 q2 => absurd q2 (by omega), fun i hi => absurd hi (Nat.not_lt_zero i)⟩
/-- the waiting signs of a condition -/
def CK (w : Nat) (W : Nat → Int32) : Prop := 0 < w ∧ kd (W 0) = 13 ∧ ∀ i : Nat, i < w → 10 ≤ kd (W i) ∧ kd (W i) ≤ 13
theorem CK.push {w k : Nat} {W : Nat → Int32} (h : CK w W) (h1 : 10 ≤ k) (h2 : k ≤ 13) : CK (w + 1) (upd W w (nI (k * 1048576))) := by
  obtain ⟨a, b, c⟩ := h
  have e : kd (nI (k * 1048576)) = k := kd_nI0 (by omega)
  have e0 : upd W w (nI (k * 1048576)) 0 = W 0 := by unfold upd; rw [if_neg (by omega)]
  refine ⟨by omega, by rw [e0]; exact b, fun i hi => ?_⟩
  by_cases z : i = w
  · subst z; rw [show upd W i (nI (k * 1048576)) i = nI (k * 1048576) by simp [upd], e]; exact ⟨h1, h2⟩
  · rw [show upd W w (nI (k * 1048576)) i = W i by simp [upd, z]]; exact c i (by omega)
theorem CK.jump {w k v : Nat} {W : Nat → Int32} (h : CK w W) (h1 : k = 11 ∨ k = 12) (hv : v < 1048576) : CK (w + 1) (upd W w (nI (1048576 * k + v))) := by
  obtain ⟨a, b, c⟩ := h
  rw [Nat.mul_comm 1048576 k]
  have e : kd (nI (k * 1048576 + v)) = k := kd_nI (by omega) hv
  have e0 : upd W w (nI (k * 1048576 + v)) 0 = W 0 := by unfold upd; rw [if_neg (by omega)]
  refine ⟨by omega, by rw [e0]; exact b, fun i hi => ?_⟩
  by_cases z : i = w
  · subst z; rw [show upd W i (nI (k * 1048576 + v)) i = nI (k * 1048576 + v) by simp [upd], e]; omega
  · rw [show upd W w (nI (k * 1048576 + v)) i = W i by simp [upd, z]]; exact c i (by omega)
theorem CK.start (W : Nat → Int32) : CK 1 (upd W 0 (nI (13 * 1048576))) := by
  have e : kd (upd W 0 (nI (13 * 1048576)) 0) = 13 := by rw [show upd W 0 (nI (13 * 1048576)) 0 = nI (13 * 1048576 + 0) by simp [upd]]; exact kd_nI (by decide) (by decide)
  refine ⟨by decide, e, fun i hi => ?_⟩
  obtain rfl : i = 0 := by omega
  omega
theorem CK.less {w w' : Nat} {W : Nat → Int32} (h : CK w W) (h1 : w' ≤ w) (h2 : 0 < w') : CK w' W := ⟨h2, h.2.1, fun i hi => h.2.2 i (by omega)⟩
theorem CK.cg {w : Nat} {W W' : Nat → Int32} (h : CK w W) (e : ∀ i : Nat, i < w → W' i = W i) : CK w W' := ⟨h.1, by rw [e 0 h.1]; exact h.2.1, fun i hi => by rw [e i hi]; exact h.2.2 i hi⟩
/-- a clause that was read -/
def CLr (C : Nat → Int32) (cm : Nat) (x y z : Int32) : Prop := ∃ a h b : Nat, x = nI a ∧ y = nI h ∧ z = nI b ∧ a ≤ h ∧ h ≤ b ∧ b ≤ cm ∧ SegOK C 0 a h ∧ SegOK C 0 h b
theorem CLr.cg {C C' : Nat → Int32} {cm cm' : Nat} {x y z : Int32} (h : CLr C cm x y z) (e : ∀ k : Nat, k < cm → C' k = C k) (hc : cm ≤ cm') : CLr C' cm' x y z := by
  obtain ⟨a, g, b, e1, e2, e3, h1, h2, h3, s1, s2⟩ := h
  exact ⟨a, g, b, e1, e2, e3, h1, h2, by omega, s1.cg (fun k hk => e k (by omega)), s2.cg (fun k hk => e k (by omega))⟩
theorem SegOK.mv {C C' : Nat → Int32} {a b t : Nat} (h : SegOK C 0 a b) (e : ∀ k : Nat, k < b → C' (t + k) = C k) : SegOK C' t (t + a) (t + b) := by
  obtain ⟨ht, h0, hs⟩ := h
  refine ⟨fun j => ht (j - t), by show ht (t + a - t) = 0; rw [show t + a - t = a by omega]; exact h0, fun k q1 q2 => ?_⟩
  obtain ⟨op, v, ec, hv, h180, hc⟩ := hs (k - t) (by omega) (by omega)
  have e1 : k + 1 - t = k - t + 1 := by omega
  refine ⟨op, v, by rw [← ec, ← e (k - t) (by omega), show t + (k - t) = k by omega], hv, h180, ?_⟩
  dsimp only
  rw [e1]
  rcases hc with hc | hc | hc | ⟨g1, g2, g3, g4, g5, g6⟩ | hc
  · exact Or.inl hc
  · exact Or.inr (Or.inl hc)
  · exact Or.inr (Or.inr (Or.inl hc))
  · exact Or.inr (Or.inr (Or.inr (Or.inl ⟨g1, g2, g3, by omega, by omega, by rw [show t + v - t = 0 + v by omega]; exact g6⟩)))
  · exact Or.inr (Or.inr (Or.inr (Or.inr hc)))
theorem upd_lt {f : Nat → Int32} {i k : Nat} {x : Int32} (h : i < k) : upd f k x i = f i := by unfold upd; rw [if_neg (by omega)]
theorem upd_nq {f : Nat → Int32} {i k : Nat} {x : Int32} (h : i ≠ k) : upd f k x i = f i := by unfold upd; rw [if_neg h]
section LESS
variable {pl pl' ln cm w a G w0 s s' op : Nat} {C W : Nat → Int32}
theorem PSx.popop' (H : PSx pl ln cm w C W a (G + 1) w0 s) (h0 : 0 < w) (hk : kd (W (w - 1)) ≤ 6) : PSx pl ln (cm + 1) (w - 1) (upd C cm (nI (kd (W (w - 1)) * 1048576 + 0))) W a (G + 1) w0 s := by
  obtain ⟨j, rfl⟩ : ∃ j, w = j + 1 := ⟨w - 1, by omega⟩
  exact H.popop hk
theorem PSx.pop14' (H : PSx pl ln cm w C W a G w0 s) (hw : w0 < w) (hk : kd (W (w - 1)) = 14) (hl : pl + 1 ≤ ln) : PSx (pl + 1) ln cm (w - 1) C W a G w0 s := by
  obtain ⟨j, rfl⟩ : ∃ j, w = j + 1 := ⟨w - 1, by omega⟩
  exact H.pop14 (by omega) hk hl
theorem PSx.kt (H : PSx pl ln cm w C W a G w0 s) : w = w0 ∨ kd (W (w - 1)) ≤ 6 ∨ kd (W (w - 1)) = 14 := by
  obtain ⟨h, H, h1, h2, h3, h4⟩ := H
  by_cases e : w = w0
  · exact Or.inl e
  · exact Or.inr (h3 (w - 1) (by omega) (by omega))
theorem PSx.fin' (H : PSx pl ln cm w C W a G w0 s) (e : w = w0) : PBk pl ln cm w C W a G s := by subst e; exact H.fin
theorem PBk.code10 (H : PBk pl ln cm w C W a 1 s) (h0 : 0 < w) (hk : kd (W (w - 1)) = 10) : PBk pl ln (cm + 1) (w - 1) (upd C cm (nI (10 * 1048576 + 0))) W a 1 s := by
  obtain ⟨j, rfl⟩ : ∃ j, w = j + 1 := ⟨w - 1, by omega⟩
  have f := H.f
  have hk : kd (W j) = 10 := hk
  have p1 := pot_1 (f := W) (n := j) (by omega)
  exact H.code (Nat.le_refl _) f.1 (Or.inr ⟨rfl, by show kd (W j) ≤ 10; omega⟩) (by decide) (Or.inr (Or.inr (Or.inl ⟨rfl, by decide, rfl⟩))) (by show cm + 1 + pot W j + s ≤ pl; omega)
theorem PBk.pop' {h : Nat} (H : PBk pl ln cm w C W a h s) (h0 : 0 < w) (hp : pl ≤ pl') (hl : pl' ≤ ln) (hk : ¬ (11 ≤ kd (W (w - 1)) ∧ kd (W (w - 1)) ≤ 12)) (hq : s' + pl ≤ s + pl') : PBk pl' ln cm (w - 1) C W a h s' := by
  obtain ⟨j, rfl⟩ : ∃ j, w = j + 1 := ⟨w - 1, by omega⟩
  exact H.pop hp hl hk hq
theorem PBk.jo' {h : Nat} (H : PBk pl ln cm w C W a h s) (h0 : 0 < w) (h1 : 11 ≤ kd (W (w - 1))) (h2 : kd (W (w - 1)) ≤ 12) : ∃ op y : Nat, (op = 11 ∨ op = 12) ∧ y < 1048576 ∧ a ≤ vl (W (w - 1)) ∧ vl (W (w - 1)) < cm ∧ C (vl (W (w - 1))) = nI (op * 1048576 + y) := by
  obtain ⟨j, rfl⟩ : ∃ j, w = j + 1 := ⟨w - 1, by omega⟩
  exact H.jo h1 h2
theorem PBk.land' (H : PBk pl ln cm w C W a 1 s) (h0 : 0 < w) (h1 : 11 ≤ kd (W (w - 1))) (h2 : kd (W (w - 1)) ≤ 12) (hop : op = 11 ∨ op = 12) : PBk pl ln cm (w - 1) (upd C (vl (W (w - 1))) (nI (1048576 * op + cm))) W a 1 s := by
  obtain ⟨j, rfl⟩ : ∃ j, w = j + 1 := ⟨w - 1, by omega⟩
  exact H.land h1 h2 hop
theorem PBk.seg' {h : Nat} (H : PBk pl ln cm w C W a h s) (e : w = 0) : SegOK C 0 a cm := by subst e; exact H.seg
theorem CK.pop' (h : CK w W) (hk : ¬ kd (W (w - 1)) = 13) : CK (w - 1) W := by
  obtain ⟨h1, h2, h3⟩ := h
  refine ⟨?_, h2, fun i hi => h3 i (by omega)⟩
  by_cases e : w = 1
  · subst e; exact absurd h2 hk
  · omega
end LESS
theorem no14 {W : Nat → Int32} {w0 w w' : Nat} (h : ¬ ∃ i : Nat, w0 ≤ i ∧ i < w ∧ kd (W i) = 14) (h2 : w' = w0 ∨ kd (W (w' - 1)) = 14) (h3 : w0 ≤ w') (h4 : w' ≤ w) : w' = w0 := by
  rcases h2 with h2 | h2
  · exact h2
  · by_cases e : w' = w0
    · exact e
    · exact absurd ⟨w' - 1, by omega, by omega, h2⟩ h
theorem SegOK.nil (C : Nat → Int32) (a : Nat) : SegOK C 0 a a := ⟨fun _ => 0, rfl, fun k q1 q2 => absurd q2 (by omega)⟩
/-- the clauses that were read -/
def ALL (C : Nat → Int32) (cm n : Nat) (f g h : Nat → Int32) : Prop := ∀ j : Nat, j < n → CLr C cm (f j) (g j) (h j)
theorem ALL.add {C C' : Nat → Int32} {cm m cm' n : Nat} {f g h : Nat → Int32} (H : ALL C cm n f g h) (e : ∀ k : Nat, k < cm → C' k = C k) (h1 : cm ≤ m) (h2 : m ≤ cm') (s1 : SegOK C' 0 cm m) (s2 : SegOK C' 0 m cm') : ALL C' cm' (n + 1) (upd f n (nI cm)) (upd g n (nI m)) (upd h n (nI cm')) := fun j hj => by
  by_cases z : j = n
  · subst z
    rw [show upd f j (nI cm) j = nI cm by simp [upd], show upd g j (nI m) j = nI m by simp [upd], show upd h j (nI cm') j = nI cm' by simp [upd]]
    exact ⟨cm, m, cm', rfl, rfl, rfl, h1, h2, Nat.le_refl _, s1, s2⟩
  · rw [upd_nq z, upd_nq z, upd_nq z]
    exact (H j (by omega)).cg e (by omega)
theorem IM.rd {cn c2 : Nat → Nat} {Fn F2 : Nat → Nat → Int32} {t sm : Nat} (h : IM cn Fn) (hc : ∀ k : Nat, k ∈ [0,1,2,46,57,58,62,63,75,83] → c2 k = cn k) (hF : ∀ k : Nat, k ∈ [7,8,9,10,16,64,66,67,68,69,70,76,79] → F2 k = Fn k) (hsm : sm ≤ 12) (e33 : F2 33 = upd (Fn 33) t (nI sm))
    (h32 : ∀ j : Nat, j < 180 * t ∨ 180 * t + 180 ≤ j → F2 32 j = Fn 32 j) (h34 : ∀ j : Nat, j < 12 * t ∨ 12 * t + 12 ≤ j → F2 34 j = Fn 34 j ∧ F2 35 j = Fn 35 j ∧ F2 36 j = Fn 36 j) (hn : ∀ q : Nat, q < sm → ClOK (F2 32) (180 * t) (F2 34 (12 * t + q)) (F2 35 (12 * t + q)) (F2 36 (12 * t + q))) : IM c2 F2 := by
  obtain ⟨b, e7, e8, e9, e10, e16, e33', e66, e67, e68, e69, e70, e76, e79, e64, pr, cd⟩ := h
  unfold IM CB
  rw [hc 0 (by decide), hc 1 (by decide), hc 2 (by decide), hc 46 (by decide), hc 57 (by decide), hc 58 (by decide), hc 62 (by decide), hc 63 (by decide), hc 75 (by decide), hc 83 (by decide), hF 7 (by decide), hF 8 (by decide), hF 9 (by decide), hF 10 (by decide), hF 16 (by decide), hF 64 (by decide), hF 66 (by decide), hF 67 (by decide), hF 68 (by decide), hF 69 (by decide), hF 70 (by decide), hF 76 (by decide), hF 79 (by decide)]
  refine ⟨b, e7, e8, e9, e10, e16, ?_, e66, e67, e68, e69, e70, e76, e79, e64, pr, ?_⟩
  · rw [e33]; exact upd_ex (P := fun n => n ≤ 12) e33' hsm
  · intro u hu q hq
    by_cases z : u = t
    · subst z
      rw [e33, show upd (Fn 33) u (nI sm) u = nI sm by simp [upd], nI_tn (by omega)] at hq
      exact hn q hq
    · rw [e33, upd_nq z] at hq
      obtain ⟨n, n12, en⟩ := e33' u (by omega)
      have k := cd u hu q hq
      rw [en, nI_tn (by omega)] at hq
      obtain ⟨x1, x2, x3⟩ := h34 (12 * u + q) (by omega)
      rw [x1, x2, x3]
      obtain ⟨a, g, b', q1, q2, q3, k1, k2, k3, k4, k5, s1, s2⟩ := k
      have cg : ∀ {x y : Nat}, 180 * u ≤ x → y ≤ 180 * u + 180 → SegOK (Fn 32) (180 * u) x y → SegOK (F2 32) (180 * u) x y := by
        intro x y hx hy hs
        obtain ⟨ht, h0, hs⟩ := hs
        refine ⟨ht, h0, fun k p1 p2 => ?_⟩
        obtain ⟨op, v, ec, r⟩ := hs k p1 p2
        exact ⟨op, v, by rw [h32 k (by omega)]; exact ec, r⟩
      exact ⟨a, g, b', q1, q2, q3, k1, k2, k3, k4, k5, cg k1 (by omega) s1, cg (by omega) k5 s2⟩

theorem frq_19_26_0_1_2_46_57_58_62_63_75_83_44 {li lf : List Nat} {cn c2 : Nat → Nat} {In I2 : Nat → Int32} {Fn F2 : Nat → Nat → Int32} (h : Fr [19, 26] li lf cn In Fn c2 I2 F2) : c2 0 = cn 0 ∧ c2 1 = cn 1 ∧ c2 2 = cn 2 ∧ c2 46 = cn 46 ∧ c2 57 = cn 57 ∧ c2 58 = cn 58 ∧ c2 62 = cn 62 ∧ c2 63 = cn 63 ∧ c2 75 = cn 75 ∧ c2 83 = cn 83 ∧ c2 44 = cn 44 := ⟨h.1 0 (nml rfl), h.1 1 (nml rfl), h.1 2 (nml rfl), h.1 46 (nml rfl), h.1 57 (nml rfl), h.1 58 (nml rfl), h.1 62 (nml rfl), h.1 63 (nml rfl), h.1 75 (nml rfl), h.1 83 (nml rfl), h.1 44 (nml rfl)⟩
theorem frq_23_24_0_1_2_46_57_58_62_63_75_83_44 {li lf : List Nat} {cn c2 : Nat → Nat} {In I2 : Nat → Int32} {Fn F2 : Nat → Nat → Int32} (h : Fr [23, 24] li lf cn In Fn c2 I2 F2) : c2 0 = cn 0 ∧ c2 1 = cn 1 ∧ c2 2 = cn 2 ∧ c2 46 = cn 46 ∧ c2 57 = cn 57 ∧ c2 58 = cn 58 ∧ c2 62 = cn 62 ∧ c2 63 = cn 63 ∧ c2 75 = cn 75 ∧ c2 83 = cn 83 ∧ c2 44 = cn 44 := ⟨h.1 0 (nml rfl), h.1 1 (nml rfl), h.1 2 (nml rfl), h.1 46 (nml rfl), h.1 57 (nml rfl), h.1 58 (nml rfl), h.1 62 (nml rfl), h.1 63 (nml rfl), h.1 75 (nml rfl), h.1 83 (nml rfl), h.1 44 (nml rfl)⟩
theorem frq_19_23_24_26_0_1_2_46_57_58_62_63_75_83_44 {li lf : List Nat} {cn c2 : Nat → Nat} {In I2 : Nat → Int32} {Fn F2 : Nat → Nat → Int32} (h : Fr [19, 23, 24, 26] li lf cn In Fn c2 I2 F2) : c2 0 = cn 0 ∧ c2 1 = cn 1 ∧ c2 2 = cn 2 ∧ c2 46 = cn 46 ∧ c2 57 = cn 57 ∧ c2 58 = cn 58 ∧ c2 62 = cn 62 ∧ c2 63 = cn 63 ∧ c2 75 = cn 75 ∧ c2 83 = cn 83 ∧ c2 44 = cn 44 := ⟨h.1 0 (nml rfl), h.1 1 (nml rfl), h.1 2 (nml rfl), h.1 46 (nml rfl), h.1 57 (nml rfl), h.1 58 (nml rfl), h.1 62 (nml rfl), h.1 63 (nml rfl), h.1 75 (nml rfl), h.1 83 (nml rfl), h.1 44 (nml rfl)⟩

set_option maxRecDepth 100000 in
set_option maxHeartbeats 4000000 in
theorem q_here (l : Launch) (D : va_G) (cI cB cZ : ClassId) (g : Nat → Nat) (cn : Nat → Nat) (In : Nat → Int32) (Fn : Nat → Nat → Int32)  (hI : IM cn Fn) (hp : cn 19 ≤ cn 20) (hn : cn 20 ≤ 160) : Met l yX12_here (CWS yX12_here cX12_here 1 (some .int)) (RM 0 0 0) (PBr [.ref (g 100)] D cI cB cZ (wM cI cB cZ g cn In Fn)) (vp_Si (fun r => r = hereM cn Fn ∧ r.toInt = (hereM cn Fn).toInt ∧ ((r.toInt = -1 ∧ cn 20 ≤ cn 19) ∨ (0 ≤ r.toInt ∧ r.toInt ≤ 255 ∧ cn 19 < cn 20)))) 0 0 (fun _ => False) := by
  refine en_r rfl pn_RX12 (Nat.le_of_ble_eq_true rfl) (fun p e s m below meth c hx hb hml hown S hr hlocks hnm hP hK hS ls hl => ?_)
  have hl : lv_has ls 1 [(0, .ref (g 100))] := hl
  have hi_cn : Hid (CB cn) := hI.b
  refine lv_aload_n hx hb (oc_42 0 shX12_here_0) rfl (lvA0 hl) ?_
  refine gM_233 S hK hP (v := .int (nI (cn 19))) rfl (oc_180 1 (aq_1 shX12_here_0) uw_0_233) ?_
  refine lv_aload_n hx hb (oc_42 4 (aq_4 shX12_here_0)) rfl (lvA0 hl) ?_
  refine gM_236 S hK hP (v := .int (nI (cn 20))) rfl (oc_180 5 (aq_5 shX12_here_0) uw_0_236) ?_
  have : (nI (cn 19)).toInt = (((cn 19) : Nat) : Int) := nI_toInt (by (first | omega | (have zz0 := Hid.u hi_cn; omega)))
  have : (nI (cn 20)).toInt = (((cn 20) : Nat) : Int) := nI_toInt (by (first | omega | (have zz0 := Hid.u hi_cn; omega)))
  refine lv_icmp_ge (tgt := 27) hx hb (oc_162 8 (aq_8 shX12_here_0) sgw_0_19) rfl (fun c_1 => ?_) (fun c_1 => ?_)
  ·
    have tc_1 : ((nI (cn 20)).toInt : Int) ≤ (nI (cn 19)).toInt := Int32.le_iff_toInt_le.mp c_1
    refine lv_iconst (v := (-1)) hx hb (oc_2 27 (aq_3 shX12_here_24)) kic_m1 ?_
    exact W.iret (v := (-1)) hx hb hr (fun t ht hW => ⟨(-1), rfl, (by have e : (-1 : Int32) = hereM cn Fn := (if_neg (by (first | omega | (have zz0 := Hid.u hi_cn; omega)))).symm; exact ⟨e, congrArg Int32.toInt e, Or.inl ⟨rfl, by (first | omega | (have zz0 := Hid.u hi_cn; omega))⟩⟩), ht⟩) (fun _ h => absurd h List.not_mem_nil) (oc_172 28 (aq_4 shX12_here_24))
  ·
    have tc_1 : ((nI (cn 19)).toInt : Int) < (nI (cn 20)).toInt := Int32.lt_iff_toInt_lt.mp (Int32.not_le.mp c_1)
    refine lv_aload_n hx hb (oc_42 11 (aq_11 shX12_here_0)) rfl (lvA0 hl) ?_
    refine gM_52 S hK hP (v := .ref (g 17)) rfl (oc_180 12 (aq_12 shX12_here_0) uw_0_52) ?_
    refine lv_aload_n hx hb (oc_42 15 (aq_15 shX12_here_0)) rfl (lvA0 hl) ?_
    refine gM_233 S hK hP (v := .int (nI (cn 19))) rfl (oc_180 16 (aq_16 shX12_here_0) uw_0_233) ?_
    have kb_1 : (cn 19) < 200 := by (first | omega | (have zz0 := Hid.u hi_cn; omega))
    refine ldM_17 hx hb hK hP (x := ((Fn 17) (cn 19))) (vp_in_nI kb_1 (ltb rfl)) (nI_clamp (Nat.lt_trans kb_1 (ltb rfl))) rfl (oc_51 19 (aq_19 shX12_here_0)) ?_
    refine lv_sipush (v := 255) hx hb (oc_17 20 (aq_20 shX12_here_0) sgw_0_255) (by decide) ?_
    refine lv_iand hx hb (oc_126 23 (aq_23 shX12_here_0)) ?_
    refine lv_goto (tgt := 28) hx hb (oc_167 24 shX12_here_24 sgw_0_4) rfl ?_
    exact W.iret (v := (((Fn 17) (cn 19)) &&& 255)) hx hb hr (fun t ht hW => ⟨(((Fn 17) (cn 19)) &&& 255), rfl, (by have e : (((Fn 17) (cn 19)) &&& 255) = hereM cn Fn := (if_pos (by (first | omega | (have zz0 := Hid.u hi_cn; omega)))).symm; have b := ha255 (Fn 17 (cn 19)); exact ⟨e, congrArg Int32.toInt e, Or.inr ⟨b.1, b.2, by (first | omega | (have zz0 := Hid.u hi_cn; omega))⟩⟩), ht⟩) (fun _ h => absurd h List.not_mem_nil) (oc_172 28 (aq_4 shX12_here_24))
set_option maxRecDepth 100000 in
set_option maxHeartbeats 4000000 in
theorem q_isDigit (l : Launch) (D : va_G) (cI cB cZ : ClassId) (g : Nat → Nat) (cn : Nat → Nat) (In : Nat → Int32) (Fn : Nat → Nat → Int32)  (hI : IM cn Fn) (hp : cn 19 ≤ cn 20) (hn : cn 20 ≤ 160) : Met l yX12_isDigit (CWS yX12_isDigit cX12_isDigit 1 (some .boolean)) (RM 1 0 0) (PBr [.ref (g 100)] D cI cB cZ (wM cI cB cZ g cn In Fn)) (vp_Si (fun r => (r = 1 ∧ (cn 19 < cn 20 ∧ 48 ≤ (hereM cn Fn).toInt ∧ (hereM cn Fn).toInt ≤ 57)) ∨ (r = 0 ∧ ¬ (cn 19 < cn 20 ∧ 48 ≤ (hereM cn Fn).toInt ∧ (hereM cn Fn).toInt ≤ 57)))) 0 0 (fun _ => False) := by
  refine en_r rfl pn_RX12 (Nat.le_of_ble_eq_true rfl) (fun p e s m below meth c hx hb hml hown S hr hlocks hnm hP hK hS ls hl => ?_)
  have hl : lv_has ls 1 [(0, .ref (g 100))] := hl
  have hi_cn : Hid (CB cn) := hI.b
  refine lv_aload_n hx hb (oc_42 0 shX12_isDigit_0) rfl (lvA0 hl) ?_
  refine vp_callSi (runV_ra (As := []) (rest := []) S (q_here l D cI cB cZ g cn In Fn  hI (by (first | omega | (have zz0 := Hid.u hi_cn; omega))) (by (first | omega | (have zz0 := Hid.u hi_cn; omega)))) kV_RX12_239 hK hP 0 rfl rfl rfl ⟨Nat.le_of_ble_eq_true rfl, Nat.le_of_ble_eq_true rfl⟩ ⟨Nat.le_of_ble_eq_true rfl, Nat.le_of_ble_eq_true rfl⟩ rfl hl.1 rfl (Nat.le_of_ble_eq_true rfl) (oc_182 1 (aq_1 shX12_isDigit_0) uw_0_239)) (fun r_1 h_2 => ?_)
  refine lv_bipush (v := 48) hx hb (oc_16 4 (aq_4 shX12_isDigit_0) sgb_48) kbc_48 ?_
  refine lv_icmp_lt (tgt := 22) hx hb (oc_161 6 (aq_6 shX12_isDigit_0) sgw_0_16) rfl (fun c_3 => ?_) (fun c_3 => ?_)
  ·
    have tc_3 : (r_1.toInt : Int) < 48 := Int32.lt_iff_toInt_lt.mp c_3
    refine lv_iconst (v := 0) hx hb (oc_3 22 (aq_22 shX12_isDigit_0)) kic_0 ?_
    exact W.zret (v := 0) hx hb hr rfl (fun t ht hW => ⟨0, rfl, (Or.inr ⟨rfl, by (first | omega | (have zz0 := Hid.u hi_cn; omega))⟩), ht⟩) (fun _ h => absurd h List.not_mem_nil) (oc_172 23 (aq_23 shX12_isDigit_0))
  ·
    have tc_3 : (48 : Int) ≤ r_1.toInt := Int32.le_iff_toInt_le.mp (Int32.not_lt.mp c_3)
    refine lv_aload_n hx hb (oc_42 9 (aq_9 shX12_isDigit_0)) rfl (lvA0 hl) ?_
    refine vp_callSi (runV_ra (As := []) (rest := []) S (q_here l D cI cB cZ g cn In Fn  hI (by (first | omega | (have zz0 := Hid.u hi_cn; omega))) (by (first | omega | (have zz0 := Hid.u hi_cn; omega)))) kV_RX12_239 hK hP 0 rfl rfl rfl ⟨Nat.le_of_ble_eq_true rfl, Nat.le_of_ble_eq_true rfl⟩ ⟨Nat.le_of_ble_eq_true rfl, Nat.le_of_ble_eq_true rfl⟩ rfl hl.1 rfl (Nat.le_of_ble_eq_true rfl) (oc_182 10 (aq_10 shX12_isDigit_0) uw_0_239)) (fun r_4 h_5 => ?_)
    refine lv_bipush (v := 57) hx hb (oc_16 13 (aq_13 shX12_isDigit_0) sgb_57) kbc_57 ?_
    refine lv_icmp_gt (tgt := 22) hx hb (oc_163 15 (aq_15 shX12_isDigit_0) sgw_0_7) rfl (fun c_6 => ?_) (fun c_6 => ?_)
    ·
      have tc_6 : (57 : Int) < r_4.toInt := Int32.lt_iff_toInt_lt.mp c_6
      refine lv_iconst (v := 0) hx hb (oc_3 22 (aq_22 shX12_isDigit_0)) kic_0 ?_
      exact W.zret (v := 0) hx hb hr rfl (fun t ht hW => ⟨0, rfl, (Or.inr ⟨rfl, by (first | omega | (have zz0 := Hid.u hi_cn; omega))⟩), ht⟩) (fun _ h => absurd h List.not_mem_nil) (oc_172 23 (aq_23 shX12_isDigit_0))
    ·
      have tc_6 : (r_4.toInt : Int) ≤ 57 := Int32.le_iff_toInt_le.mp (Int32.not_lt.mp c_6)
      refine lv_iconst (v := 1) hx hb (oc_4 18 (aq_18 shX12_isDigit_0)) kic_1 ?_
      refine lv_goto (tgt := 23) hx hb (oc_167 19 (aq_19 shX12_isDigit_0) sgw_0_4) rfl ?_
      exact W.zret (v := 1) hx hb hr rfl (fun t ht hW => ⟨1, rfl, (Or.inl ⟨rfl, by (first | omega | (have zz0 := Hid.u hi_cn; omega))⟩), ht⟩) (fun _ h => absurd h List.not_mem_nil) (oc_172 23 (aq_23 shX12_isDigit_0))
set_option maxRecDepth 100000 in
set_option maxHeartbeats 4000000 in
theorem q_wrong (l : Launch) (D : va_G) (cI cB cZ : ClassId) (g : Nat → Nat) (cn : Nat → Nat) (In : Nat → Int32) (Fn : Nat → Nat → Int32) (v0 v1 : Int32) (sz : Nat) (hI : IM cn Fn) : Met l yX12_wrong (CWS yX12_wrong cX12_wrong 3 (some .boolean)) (RM 0 0 0) (PBw [.ref (g 100), .int v0, .int v1] D cI cB cZ (wM cI cB cZ g cn In Fn) sz) (va_Qi (fun (r : Int32) (u : (Nat → Nat) × (Nat → Int32) × (Nat → Nat → Int32)) => (fun r c2 I2 F2 => (∀ k : Nat, k ∉ [21] → I2 k = In k) ∧ ((r = 0 ∧ (True) ∧ cn = c2 ∧ Fn = F2))) r u.1 u.2.1 u.2.2) (fun (u : (Nat → Nat) × (Nat → Int32) × (Nat → Nat → Int32)) (t : State) => va_P D vwCl (wM cI cB cZ g u.1 u.2.1 u.2.2) t.heap ∧ va_D (va_A (wM cI cB cZ g cn In Fn) sz) (wM cI cB cZ g u.1 u.2.1 u.2.2)) (va_A (wM cI cB cZ g cn In Fn) sz)) 0 0 (va_A (wM cI cB cZ g cn In Fn) sz) := by
  refine en_w (fun A => (va_Qi (fun (r : Int32) (u : (Nat → Nat) × (Nat → Int32) × (Nat → Nat → Int32)) => (fun (r : Int32) (c2 : Nat → Nat) (I2 : Nat → Int32) (F2 : Nat → Nat → Int32) => (∀ k : Nat, k ∉ [21] → I2 k = In k) ∧ ((r = 0 ∧ (True) ∧ cn = c2 ∧ Fn = F2))) r u.1 u.2.1 u.2.2) (fun (u : (Nat → Nat) × (Nat → Int32) × (Nat → Nat → Int32)) (t : State) => va_P D vwCl (wM cI cB cZ g u.1 u.2.1 u.2.2) t.heap ∧ va_D A (wM cI cB cZ g u.1 u.2.1 u.2.2)) A)) rfl rfl pn_RX12 (Nat.le_of_ble_eq_true rfl) (fun p e s m below meth c A hx hb hml hown S hr hlocks hnm hA hP hK hD hS ls hl => ?_)
  have hl : lv_has ls 3 [(0, .ref (g 100)), (1, .int v0), (2, .int v1)] := hl
  have hi_cn : Hid (CB cn) := hI.b
  refine lv_aload_n hx hb (oc_42 0 shX12_wrong_0) rfl (lvA0 hl) ?_
  refine lv_sipush (v := (-1000)) hx hb (oc_17 1 (aq_1 shX12_wrong_0) sgw_252_24) (by decide) ?_
  refine lv_iload_n hx hb (oc_27 4 (aq_4 shX12_wrong_0)) rfl (lvA1 hl) ?_
  refine lv_imul hx hb (oc_104 5 (aq_5 shX12_wrong_0)) ?_
  refine lv_iload_n hx hb (oc_28 6 (aq_6 shX12_wrong_0)) rfl (lvA2 hl) ?_
  refine lv_isub hx hb (oc_100 7 (aq_7 shX12_wrong_0)) ?_
  refine pM_243 S hK hP hD hS (In2 := (va_up In 21 (((-1000) * v0) - v1))) rfl (oc_181 8 (aq_8 shX12_wrong_0) uw_0_243) (fun H locs hP hD hS => ?_)
  refine lv_iconst (v := 0) hx hb (oc_3 11 (aq_11 shX12_wrong_0)) kic_0 ?_
  exact W.zret (v := 0) hx hb hr rfl (fun t ht hW => ⟨⟨0, (cn, (va_up In 21 (((-1000) * v0) - v1)), Fn), rfl, ⟨(show Fr [] [21] [] cn In Fn cn (va_up In 21 (((-1000) * v0) - v1)) Fn from Fr.mo (Fr.i 21 (Fr.rf (cn := cn) (In := In) (Fn := Fn))) (sbl rfl) (sbl rfl) (sbl rfl)).2.1, ⟨rfl, (by first | trivial | (first | omega | (have zz0 := Hid.u hi_cn; omega))), rfl, rfl⟩⟩, by rw [ht]; exact hP, hD⟩, hS.F ht⟩) hS.2.2 (oc_172 12 (aq_12 shX12_wrong_0))
set_option maxRecDepth 100000 in
set_option maxHeartbeats 4000000 in
theorem q_takes (l : Launch) (D : va_G) (cI cB cZ : ClassId) (g : Nat → Nat) (cn : Nat → Nat) (In : Nat → Int32) (Fn : Nat → Nat → Int32) (v0 : Int32) (sz : Nat) (hI : IM cn Fn) (hp : cn 19 ≤ cn 20) (hn : cn 20 ≤ 160) (hv0 : 0 ≤ v0.toInt) : Met l yX12_takes (CWS yX12_takes cX12_takes 2 (some .boolean)) (RM 1 0 0) (PBw [.ref (g 100), .int v0] D cI cB cZ (wM cI cB cZ g cn In Fn) sz) (va_Qi (fun (r : Int32) (u : (Nat → Nat) × (Nat → Int32) × (Nat → Nat → Int32)) => (fun r c2 I2 F2 => (∀ k : Nat, k ∉ [21] → I2 k = In k) ∧ ((r = 0 ∧ (True) ∧ cn = c2 ∧ Fn = F2) ∨ (r = 1 ∧ (cn 19 < cn 20) ∧ (va_up cn 19 (cn 19 + 1)) = c2 ∧ Fn = F2))) r u.1 u.2.1 u.2.2) (fun (u : (Nat → Nat) × (Nat → Int32) × (Nat → Nat → Int32)) (t : State) => va_P D vwCl (wM cI cB cZ g u.1 u.2.1 u.2.2) t.heap ∧ va_D (va_A (wM cI cB cZ g cn In Fn) sz) (wM cI cB cZ g u.1 u.2.1 u.2.2)) (va_A (wM cI cB cZ g cn In Fn) sz)) 0 0 (va_A (wM cI cB cZ g cn In Fn) sz) := by
  refine en_w (fun A => (va_Qi (fun (r : Int32) (u : (Nat → Nat) × (Nat → Int32) × (Nat → Nat → Int32)) => (fun (r : Int32) (c2 : Nat → Nat) (I2 : Nat → Int32) (F2 : Nat → Nat → Int32) => (∀ k : Nat, k ∉ [21] → I2 k = In k) ∧ ((r = 0 ∧ (True) ∧ cn = c2 ∧ Fn = F2) ∨ (r = 1 ∧ (cn 19 < cn 20) ∧ (va_up cn 19 (cn 19 + 1)) = c2 ∧ Fn = F2))) r u.1 u.2.1 u.2.2) (fun (u : (Nat → Nat) × (Nat → Int32) × (Nat → Nat → Int32)) (t : State) => va_P D vwCl (wM cI cB cZ g u.1 u.2.1 u.2.2) t.heap ∧ va_D A (wM cI cB cZ g u.1 u.2.1 u.2.2)) A)) rfl rfl pn_RX12 (Nat.le_of_ble_eq_true rfl) (fun p e s m below meth c A hx hb hml hown S hr hlocks hnm hA hP hK hD hS ls hl => ?_)
  have hl : lv_has ls 2 [(0, .ref (g 100)), (1, .int v0)] := hl
  have hi_cn : Hid (CB cn) := hI.b
  refine lv_aload_n hx hb (oc_42 0 shX12_takes_0) rfl (lvA0 hl) ?_
  refine vp_callSi (runV_ra (As := []) (rest := []) S (q_here l D cI cB cZ g cn In Fn  hI (by (first | omega | (have zz0 := Hid.u hi_cn; omega))) (by (first | omega | (have zz0 := Hid.u hi_cn; omega)))) kV_RX12_239 hK hP 0 rfl rfl rfl ⟨Nat.le_of_ble_eq_true rfl, Nat.le_of_ble_eq_true rfl⟩ ⟨Nat.le_of_ble_eq_true rfl, Nat.le_of_ble_eq_true rfl⟩ rfl hl.1 rfl (Nat.le_of_ble_eq_true rfl) (oc_182 1 (aq_1 shX12_takes_0) uw_0_239)) (fun r_1 h_2 => ?_)
  refine lv_iload_n hx hb (oc_27 4 (aq_4 shX12_takes_0)) rfl (lvA1 hl) ?_
  refine lv_icmp_eq (tgt := 18) hx hb (oc_159 5 (aq_5 shX12_takes_0) sgw_0_13) rfl (fun c_3 => ?_) (fun c_3 => ?_)
  ·
    have tc_3 : (r_1.toInt : Int) = v0.toInt := congrArg Int32.toInt c_3
    refine lv_aload_n hx hb (oc_42 18 (aq_18 shX12_takes_0)) rfl (lvA0 hl) ?_
    refine lv_aload_n hx hb (oc_42 19 (aq_19 shX12_takes_0)) rfl (lvA0 hl) ?_
    refine gM_233 S hK hP (v := .int (nI (cn 19))) rfl (oc_180 20 (aq_20 shX12_takes_0) uw_0_233) ?_
    refine lv_iconst (v := 1) hx hb (oc_4 23 (aq_23 shX12_takes_0)) kic_1 ?_
    refine lv_iadd hx hb (oc_96 24 shX12_takes_24) ?_
    refine lv_topi (fun y_4 ey_4 => ?_)
    obtain rfl : y_4 = (nI ((cn 19) + 1)) := ey_4.trans (nI_add (cn 19) 1)
    refine pM_233 S hK hP hD hS (a := ((cn 19) + 1)) (cn2 := (va_up cn 19 ((cn 19) + 1))) rfl rfl (oc_181 25 (aq_1 shX12_takes_24) uw_0_233) (fun H locs hP hD hS => ?_)
    refine lv_iconst (v := 1) hx hb (oc_4 28 (aq_4 shX12_takes_24)) kic_1 ?_
    exact W.zret (v := 1) hx hb hr rfl (fun t ht hW => ⟨⟨1, ((va_up cn 19 ((cn 19) + 1)), In, Fn), rfl, ⟨(show Fr [19] [21] [] cn In Fn (va_up cn 19 ((cn 19) + 1)) In Fn from Fr.mo (Fr.c 19 (Fr.rf (cn := cn) (In := In) (Fn := Fn))) (sbl rfl) (sbl rfl) (sbl rfl)).2.1, (Or.inr ⟨rfl, (by first | trivial | (first | omega | (have zz0 := Hid.u hi_cn; omega))), rfl, rfl⟩)⟩, by rw [ht]; exact hP, hD⟩, hS.F ht⟩) hS.2.2 (oc_172 29 (aq_5 shX12_takes_24))
  ·
    have tc_3 : (r_1.toInt : Int) ≠ v0.toInt := fun q => c_3 (Int32.toInt_inj.mp q)
    refine lv_aload_n hx hb (oc_42 8 (aq_8 shX12_takes_0)) rfl (lvA0 hl) ?_
    refine lv_iconst (v := 1) hx hb (oc_4 9 (aq_9 shX12_takes_0)) kic_1 ?_
    refine lv_aload_n hx hb (oc_42 10 (aq_10 shX12_takes_0)) rfl (lvA0 hl) ?_
    refine gM_233 S hK hP (v := .int (nI (cn 19))) rfl (oc_180 11 (aq_11 shX12_takes_0) uw_0_233) ?_
    have hFc := free_all hD hS hA
    refine va_calli (runV_a (As := [.int 1, .int (nI (cn 19))]) (rest := []) S (q_wrong l D cI cB cZ g cn In Fn 1 (nI (cn 19)) s.heap.size hI) kV_RX12_246 hK hP hD 0 rfl rfl rfl ⟨Nat.le_of_ble_eq_true rfl, Nat.le_of_ble_eq_true rfl⟩ ⟨Nat.le_of_ble_eq_true rfl, Nat.le_of_ble_eq_true rfl⟩ rfl hl.1 rfl (Nat.le_of_ble_eq_true rfl) (oc_182 14 (aq_14 shX12_takes_0) uw_0_246)) hS (fun q _ h => hFc q h) hFc (fun r_5 u t H1 locs ht hvm wh_6 hB hz1 hk1 hS => ?_)
    obtain ⟨cn6, In6, Fn6⟩ := u
    obtain ⟨hP1, hD1⟩ := hB
    rw [ht] at hP1
    have vh_6 : (fun r c2 I2 F2 => (∀ k : Nat, k ∉ [21] → I2 k = In k) ∧ ((r = 0 ∧ (True) ∧ cn = c2 ∧ Fn = F2))) r_5 cn6 In6 Fn6 := wh_6
    obtain ⟨hI6_, vh_6⟩ := vh_6
    obtain ⟨rfl, h_6, rfl, rfl⟩ := vh_6
    have hf6 : Fr [19] [21] [] cn In Fn cn In6 Fn := Fr.mo (Fr.tr (Fr.rf (cn := cn) (In := In) (Fn := Fn)) (show Fr [] [21] [] cn In Fn cn In6 Fn from ⟨fun _ _ => rfl, hI6_, fun _ _ => rfl⟩)) (sbl rfl) (sbl rfl) (sbl rfl)
    have hP : va_P D vwCl (wM cI cB cZ g cn In6 Fn) H1 := hP1
    have hD : va_D A (wM cI cB cZ g cn In6 Fn) := hD1.weaken (fun _ _ _ h => hFc _ h)
    generalize H1 = H at hP hS ⊢
    exact W.zret (v := 0) hx hb hr rfl (fun t ht hW => ⟨⟨0, (cn, In6, Fn), rfl, ⟨(show Fr [19] [21] [] cn In Fn cn In6 Fn from Fr.mo hf6 (sbl rfl) (sbl rfl) (sbl rfl)).2.1, (Or.inl ⟨rfl, (by first | trivial | (first | omega | (have zz0 := Hid.u hi_cn; omega))), rfl, rfl⟩)⟩, by rw [ht]; exact hP, hD⟩, hS.F ht⟩) hS.2.2 (oc_172 17 (aq_17 shX12_takes_0))
set_option maxRecDepth 100000 in
set_option maxHeartbeats 4000000 in
theorem q_readsNumber (l : Launch) (D : va_G) (cI cB cZ : ClassId) (g : Nat → Nat) (cn : Nat → Nat) (In : Nat → Int32) (Fn : Nat → Nat → Int32)  (sz : Nat) (hI : IM cn Fn) (hp : cn 19 ≤ cn 20) (hn : cn 20 ≤ 160) (hdg : cn 19 < cn 20 ∧ 48 ≤ (hereM cn Fn).toInt ∧ (hereM cn Fn).toInt ≤ 57) : Met l yX12_readsNumber (CWS yX12_readsNumber cX12_readsNumber 2 (some .boolean)) (RM 2 0 0) (PBw [.ref (g 100)] D cI cB cZ (wM cI cB cZ g cn In Fn) sz) (va_Qi (fun (r : Int32) (u : (Nat → Nat) × (Nat → Int32) × (Nat → Nat → Int32)) => (fun r c2 I2 F2 => Fr [19, 26] [21, 22] [] cn In Fn c2 I2 F2 ∧ IM c2 F2 ∧ (r = 0 ∨ (r = 1 ∧ cn 19 < c2 19 ∧ c2 19 ≤ cn 20 ∧ c2 26 < 1000000))) r u.1 u.2.1 u.2.2) (fun (u : (Nat → Nat) × (Nat → Int32) × (Nat → Nat → Int32)) (t : State) => va_P D vwCl (wM cI cB cZ g u.1 u.2.1 u.2.2) t.heap ∧ va_D (va_A (wM cI cB cZ g cn In Fn) sz) (wM cI cB cZ g u.1 u.2.1 u.2.2)) (va_A (wM cI cB cZ g cn In Fn) sz)) 0 0 (va_A (wM cI cB cZ g cn In Fn) sz) := by
  refine en_w (fun A => (va_Qi (fun (r : Int32) (u : (Nat → Nat) × (Nat → Int32) × (Nat → Nat → Int32)) => (fun (r : Int32) (c2 : Nat → Nat) (I2 : Nat → Int32) (F2 : Nat → Nat → Int32) => Fr [19, 26] [21, 22] [] cn In Fn c2 I2 F2 ∧ IM c2 F2 ∧ (r = 0 ∨ (r = 1 ∧ cn 19 < c2 19 ∧ c2 19 ≤ cn 20 ∧ c2 26 < 1000000))) r u.1 u.2.1 u.2.2) (fun (u : (Nat → Nat) × (Nat → Int32) × (Nat → Nat → Int32)) (t : State) => va_P D vwCl (wM cI cB cZ g u.1 u.2.1 u.2.2) t.heap ∧ va_D A (wM cI cB cZ g u.1 u.2.1 u.2.2)) A)) rfl rfl pn_RX12 (Nat.le_of_ble_eq_true rfl) (fun p e s m below meth c A hx hb hml hown S hr hlocks hnm hA hP hK hD hS ls hl => ?_)
  have hl : lv_has ls 2 [(0, .ref (g 100))] := hl
  have hi_cn : Hid (CB cn) := hI.b
  refine lv_aload_n hx hb (oc_42 0 shX12_readsNumber_0) rfl (lvA0 hl) ?_
  refine gM_233 S hK hP (v := .int (nI (cn 19))) rfl (oc_180 1 (aq_1 shX12_readsNumber_0) uw_0_233) ?_
  refine lv_istore_n (lv' := [(1, .int (nI (cn 19))), (0, .ref (g 100))]) hx hb (oc_60 4 (aq_4 shX12_readsNumber_0)) rfl hl (ltb rfl) rfl (fun ls hl => ?_)
  refine lv_aload_n hx hb (oc_42 5 (aq_5 shX12_readsNumber_0)) rfl (lvA1 hl) ?_
  refine lv_iconst (v := 0) hx hb (oc_3 6 (aq_6 shX12_readsNumber_0)) kic_0 ?_
  refine pM_250 S hK hP hD hS (a := 0) (cn2 := (va_up cn 26 0)) rfl rfl (oc_181 7 (aq_7 shX12_readsNumber_0) uw_0_250) (fun H locs hP hD hS => ?_)
  have lp_10 : ∀ (n : Nat)  (c10 : Nat → Nat) (I10 : Nat → Int32) (H : Heap) (locs : List Loc) , cn 20 - c10 19 < n → (Fr [19, 26] [21, 22] [] cn In Fn c10 I10 Fn ∧ IM c10 Fn ∧ (cn 19 ≤ c10 19 ∧ c10 19 ≤ cn 19 + 6 ∧ c10 26 < 10 ^ (c10 19 - cn 19)) ∧ (c10 19 ≤ cn 20)) → va_P D vwCl (wM cI cB cZ g c10 I10 Fn) H → va_D A (wM cI cB cZ g c10 I10 Fn) → va_S A s.heap H locs → ∀ ls : Array Slot, lv_has ls 2 [(1, .int (nI (cn 19))), (0, .ref (g 100))] → W p l e (RM 2 0 0) s m ([.ref (g 100)]).toArray below meth c H locs 0 0 (MQ below (va_Qi (fun (r : Int32) (u : (Nat → Nat) × (Nat → Int32) × (Nat → Nat → Int32)) => (fun r c2 I2 F2 => Fr [19, 26] [21, 22] [] cn In Fn c2 I2 F2 ∧ IM c2 F2 ∧ (r = 0 ∨ (r = 1 ∧ cn 19 < c2 19 ∧ c2 19 ≤ cn 20 ∧ c2 26 < 1000000))) r u.1 u.2.1 u.2.2) (fun (u : (Nat → Nat) × (Nat → Int32) × (Nat → Nat → Int32)) (t : State) => va_P D vwCl (wM cI cB cZ g u.1 u.2.1 u.2.2) t.heap ∧ va_D A (wM cI cB cZ g u.1 u.2.1 u.2.2)) A) ([.ref (g 100)]).toArray s 0 0 A) (F0 m 10 ls []) := by
    intro n10
    induction n10 with
    | zero => intros; (first | omega | (have zz0 := Hid.u hi_cn; omega))
    | succ n10 ih10 =>
      intro  c10 I10 H locs hmu10 hinv10 hP hD hS ls hl
      obtain ⟨hfr10, hI10, hx10_0, hx10_1⟩ := hinv10
      have hi_c10 : Hid (CB c10) := hI10.b
      have : c10 20 = cn 20 := hfr10.1 20 (nml rfl)
      have : c10 23 = cn 23 := hfr10.1 23 (nml rfl)
      have : c10 24 = cn 24 := hfr10.1 24 (nml rfl)
      have : c10 25 = cn 25 := hfr10.1 25 (nml rfl)
      have hq_c10 := Hid.i (frq_19_26_0_1_2_46_57_58_62_63_75_83_44 hfr10)
      refine lv_aload_n hx hb (oc_42 10 (aq_10 shX12_readsNumber_0)) rfl (lvA1 hl) ?_
      refine vp_callSi (runV_ra (As := []) (rest := []) S (q_isDigit l D cI cB cZ g c10 I10 Fn  hI10 (by (first | omega | (have zz0 := Hid.u hi_c10; have zz1 := Hid.u hi_cn; have zz2 := Hid.u hq_c10; omega))) (by (first | omega | (have zz0 := Hid.u hi_c10; have zz1 := Hid.u hi_cn; have zz2 := Hid.u hq_c10; omega)))) kV_RX12_253 hK hP 0 rfl rfl rfl ⟨Nat.le_of_ble_eq_true rfl, Nat.le_of_ble_eq_true rfl⟩ ⟨Nat.le_of_ble_eq_true rfl, Nat.le_of_ble_eq_true rfl⟩ rfl hl.1 rfl (Nat.le_of_ble_eq_true rfl) (oc_182 11 (aq_11 shX12_readsNumber_0) uw_0_253)) (fun r_1 h_2 => ?_)
      rcases h_2 with ⟨rfl, h_2⟩ | ⟨rfl, h_2⟩
      ·
        have h_2 : (c10 19) < (c10 20) ∧ 48 ≤ (hereM c10 Fn).toInt ∧ (hereM c10 Fn).toInt ≤ 57 := h_2
        refine lv_if_eq (tgt := 70) hx hb (oc_153 14 (aq_14 shX12_readsNumber_0) sgw_0_56) rfl (fun h => absurd h cq_eq_1_0) (fun _ => ?_)
        refine lv_aload_n hx hb (oc_42 17 (aq_17 shX12_readsNumber_0)) rfl (lvA1 hl) ?_
        refine gM_233 S hK hP (v := .int (nI (c10 19))) rfl (oc_180 18 (aq_18 shX12_readsNumber_0) uw_0_233) ?_
        refine lv_iload_n hx hb (oc_27 21 (aq_21 shX12_readsNumber_0)) rfl (lvA0 hl) ?_
        refine lv_bipush (v := 6) hx hb (oc_16 22 (aq_22 shX12_readsNumber_0) sgb_6) kbc_6 ?_
        refine lv_iadd hx hb (oc_96 24 shX12_readsNumber_24) ?_
        refine lv_topi (fun y_3 ey_3 => ?_)
        obtain rfl : y_3 = (nI ((cn 19) + 6)) := ey_3.trans (nI_add (cn 19) 6)
        have : (nI (c10 19)).toInt = (((c10 19) : Nat) : Int) := nI_toInt (by (first | omega | (have zz0 := Hid.u hi_c10; have zz1 := Hid.u hi_cn; have zz2 := Hid.u hq_c10; omega)))
        have : (nI ((cn 19) + 6)).toInt = ((((cn 19) + 6) : Nat) : Int) := nI_toInt (by (first | omega | (have zz0 := Hid.u hi_c10; have zz1 := Hid.u hi_cn; have zz2 := Hid.u hq_c10; omega)))
        refine lv_icmp_ne (tgt := 38) hx hb (oc_160 25 (aq_1 shX12_readsNumber_24) sgw_0_13) rfl (fun c_4 => ?_) (fun c_4 => ?_)
        ·
          have tc_4 : ((nI (c10 19)).toInt : Int) ≠ (nI ((cn 19) + 6)).toInt := fun q => c_4 (Int32.toInt_inj.mp q)
          refine lv_aload_n hx hb (oc_42 38 (aq_14 shX12_readsNumber_24)) rfl (lvA1 hl) ?_
          refine lv_bipush (v := 10) hx hb (oc_16 39 (aq_15 shX12_readsNumber_24) sgb_10) kbc_10 ?_
          refine lv_aload_n hx hb (oc_42 41 (aq_17 shX12_readsNumber_24)) rfl (lvA1 hl) ?_
          refine gM_250 S hK hP (v := .int (nI (c10 26))) rfl (oc_180 42 (aq_18 shX12_readsNumber_24) uw_0_250) ?_
          refine lv_imul hx hb (oc_104 45 (aq_21 shX12_readsNumber_24)) ?_
          refine lv_topi (fun y_5 ey_5 => ?_)
          obtain rfl : y_5 = (nI (10 * (c10 26))) := ey_5.trans (pk_mul 10 (c10 26))
          refine lv_aload_n hx hb (oc_42 46 (aq_22 shX12_readsNumber_24)) rfl (lvA1 hl) ?_
          refine vp_callSi (runV_ra (As := []) (rest := [.int (nI (10 * (c10 26))), .ref (g 100)]) S (q_here l D cI cB cZ g c10 I10 Fn  hI10 (by (first | omega | (have zz0 := Hid.u hi_c10; have zz1 := Hid.u hi_cn; have zz2 := Hid.u hq_c10; omega))) (by (first | omega | (have zz0 := Hid.u hi_c10; have zz1 := Hid.u hi_cn; have zz2 := Hid.u hq_c10; omega)))) kV_RX12_239 hK hP 0 rfl rfl rfl ⟨Nat.le_of_ble_eq_true rfl, Nat.le_of_ble_eq_true rfl⟩ ⟨Nat.le_of_ble_eq_true rfl, Nat.le_of_ble_eq_true rfl⟩ rfl hl.1 rfl (Nat.le_of_ble_eq_true rfl) (oc_182 47 (aq_23 shX12_readsNumber_24) uw_0_239)) (fun r_6 h_7 => ?_)
          have hd10 : ∃ d : Nat, 48 ≤ d ∧ d ≤ 57 ∧ r_6 = nI d := ⟨r_6.toInt.toNat, by (first | omega | (have zz0 := Hid.u hi_c10; have zz1 := Hid.u hi_cn; have zz2 := Hid.u hq_c10; omega)), by (first | omega | (have zz0 := Hid.u hi_c10; have zz1 := Hid.u hi_cn; have zz2 := Hid.u hq_c10; omega)), nI_ofT (by (first | omega | (have zz0 := Hid.u hi_c10; have zz1 := Hid.u hi_cn; have zz2 := Hid.u hq_c10; omega))) (by (first | omega | (have zz0 := Hid.u hi_c10; have zz1 := Hid.u hi_cn; have zz2 := Hid.u hq_c10; omega)))⟩
          obtain ⟨d10, hd48, hd57, hdr⟩ := hd10
          obtain rfl : r_6 = nI d10 := hdr
          refine lv_iadd hx hb (oc_96 50 shX12_readsNumber_50) ?_
          refine lv_topi (fun y_8 ey_8 => ?_)
          obtain rfl : y_8 = (nI ((10 * (c10 26)) + d10)) := ey_8.trans (nI_add (10 * (c10 26)) d10)
          refine lv_bipush (v := 48) hx hb (oc_16 51 (aq_1 shX12_readsNumber_50) sgb_48) kbc_48 ?_
          refine lv_isub hx hb (oc_100 53 (aq_3 shX12_readsNumber_50)) ?_
          refine lv_topi (fun y_9 ey_9 => ?_)
          obtain rfl : y_9 = (nI (10 * c10 26 + d10 - 48)) := ey_9.trans (nI_sub (b := 48) (by (first | omega | (have zz0 := Hid.u hi_c10; have zz1 := Hid.u hi_cn; have zz2 := Hid.u hq_c10; omega))))
          refine pM_250 S hK hP hD hS (a := (10 * c10 26 + d10 - 48)) (cn2 := (va_up c10 26 (10 * c10 26 + d10 - 48))) rfl rfl (oc_181 54 (aq_4 shX12_readsNumber_50) uw_0_250) (fun H locs hP hD hS => ?_)
          refine lv_aload_n hx hb (oc_42 57 (aq_7 shX12_readsNumber_50)) rfl (lvA1 hl) ?_
          refine lv_aload_n hx hb (oc_42 58 (aq_8 shX12_readsNumber_50)) rfl (lvA1 hl) ?_
          refine gM_233 S hK hP (v := .int (nI (c10 19))) rfl (oc_180 59 (aq_9 shX12_readsNumber_50) uw_0_233) ?_
          refine lv_iconst (v := 1) hx hb (oc_4 62 (aq_12 shX12_readsNumber_50)) kic_1 ?_
          refine lv_iadd hx hb (oc_96 63 (aq_13 shX12_readsNumber_50)) ?_
          refine lv_topi (fun y_10 ey_10 => ?_)
          obtain rfl : y_10 = (nI ((c10 19) + 1)) := ey_10.trans (nI_add (c10 19) 1)
          refine pM_233 S hK hP hD hS (a := ((c10 19) + 1)) (cn2 := (va_up (va_up c10 26 (10 * c10 26 + d10 - 48)) 19 ((c10 19) + 1))) rfl rfl (oc_181 64 (aq_14 shX12_readsNumber_50) uw_0_233) (fun H locs hP hD hS => ?_)
          refine lv_goto (tgt := 10) hx hb (oc_167 67 (aq_17 shX12_readsNumber_50) sgw_255_199) rfl ?_
          exact ih10  (va_up (va_up c10 26 (10 * c10 26 + d10 - 48)) 19 ((c10 19) + 1)) I10 _ _ (show cn 20 - ((c10 19) + 1) < n10 by (first | omega | (have zz0 := Hid.u hi_c10; have zz1 := Hid.u hi_cn; have zz2 := Hid.u hq_c10; omega))) ⟨(Fr.mo (Fr.c 19 (Fr.c 26 hfr10)) (sbl rfl) (sbl rfl) (sbl rfl)), (IM.fr (In := I10) hI10 (Fr.c 19 (Fr.c 26 Fr.rf)) (by decide) (by decide)), ⟨by show cn 19 ≤ c10 19 + 1; (first | omega | (have zz0 := Hid.u hi_c10; have zz1 := Hid.u hi_cn; have zz2 := Hid.u hq_c10; omega)), by show c10 19 + 1 ≤ cn 19 + 6; (first | omega | (have zz0 := Hid.u hi_c10; have zz1 := Hid.u hi_cn; have zz2 := Hid.u hq_c10; omega)), by show 10 * c10 26 + d10 - 48 < 10 ^ (c10 19 + 1 - cn 19); rw [show c10 19 + 1 - cn 19 = c10 19 - cn 19 + 1 by (first | omega | (have zz0 := Hid.u hi_c10; have zz1 := Hid.u hi_cn; have zz2 := Hid.u hq_c10; omega)), Nat.pow_succ]; (first | omega | (have zz0 := Hid.u hi_c10; have zz1 := Hid.u hi_cn; have zz2 := Hid.u hq_c10; omega))⟩, (by show c10 19 + 1 ≤ cn 20; (first | omega | (have zz0 := Hid.u hi_c10; have zz1 := Hid.u hi_cn; have zz2 := Hid.u hq_c10; omega)))⟩ hP hD hS ls (lv_sub hl [0, 1] rfl)
        ·
          have tc_4 : ((nI (c10 19)).toInt : Int) = (nI ((cn 19) + 6)).toInt := congrArg Int32.toInt c_4
          refine lv_aload_n hx hb (oc_42 28 (aq_4 shX12_readsNumber_24)) rfl (lvA1 hl) ?_
          refine lv_iconst (v := 2) hx hb (oc_5 29 (aq_5 shX12_readsNumber_24)) kic_2 ?_
          refine lv_aload_n hx hb (oc_42 30 (aq_6 shX12_readsNumber_24)) rfl (lvA1 hl) ?_
          refine gM_233 S hK hP (v := .int (nI (c10 19))) rfl (oc_180 31 (aq_7 shX12_readsNumber_24) uw_0_233) ?_
          have hFc := free_all hD hS hA
          refine va_calli (runV_a (As := [.int 2, .int (nI (c10 19))]) (rest := []) S (q_wrong l D cI cB cZ g c10 I10 Fn 2 (nI (c10 19)) H.size hI10) kV_RX12_246 hK hP hD 0 rfl rfl rfl ⟨Nat.le_of_ble_eq_true rfl, Nat.le_of_ble_eq_true rfl⟩ ⟨Nat.le_of_ble_eq_true rfl, Nat.le_of_ble_eq_true rfl⟩ rfl hl.1 rfl (Nat.le_of_ble_eq_true rfl) (oc_182 34 (aq_10 shX12_readsNumber_24) uw_0_246)) hS (fun q _ h => hFc q h) hFc (fun r_11 u t H1 locs ht hvm wh_12 hB hz1 hk1 hS => ?_)
          obtain ⟨cn12, In12, Fn12⟩ := u
          obtain ⟨hP1, hD1⟩ := hB
          rw [ht] at hP1
          have vh_12 : (fun r c2 I2 F2 => (∀ k : Nat, k ∉ [21] → I2 k = I10 k) ∧ ((r = 0 ∧ (True) ∧ c10 = c2 ∧ Fn = F2))) r_11 cn12 In12 Fn12 := wh_12
          obtain ⟨hI12_, vh_12⟩ := vh_12
          obtain ⟨rfl, h_12, rfl, rfl⟩ := vh_12
          have hf12 : Fr [19, 26] [21, 22] [] cn In Fn c10 In12 Fn := Fr.mo (Fr.tr hfr10 (show Fr [] [21] [] c10 I10 Fn c10 In12 Fn from ⟨fun _ _ => rfl, hI12_, fun _ _ => rfl⟩)) (sbl rfl) (sbl rfl) (sbl rfl)
          have hP : va_P D vwCl (wM cI cB cZ g c10 In12 Fn) H1 := hP1
          have hD : va_D A (wM cI cB cZ g c10 In12 Fn) := hD1.weaken (fun _ _ _ h => hFc _ h)
          generalize H1 = H at hP hS ⊢
          exact W.zret (v := 0) hx hb hr rfl (fun t ht hW => ⟨⟨0, (c10, In12, Fn), rfl, ⟨(Fr.mo hf12 (sbl rfl) (sbl rfl) (sbl rfl)), hI10, (by show 0 = 0 ∨ (0 = 1 ∧ cn 19 < c10 19 ∧ c10 19 ≤ cn 20 ∧ c10 26 < 1000000); exact Or.inl rfl)⟩, by rw [ht]; exact hP, hD⟩, hS.F ht⟩) hS.2.2 (oc_172 37 (aq_13 shX12_readsNumber_24))
      ·
        have h_2 : ¬ ((c10 19) < (c10 20) ∧ 48 ≤ (hereM c10 Fn).toInt ∧ (hereM c10 Fn).toInt ≤ 57) := h_2
        refine lv_if_eq (tgt := 70) hx hb (oc_153 14 (aq_14 shX12_readsNumber_0) sgw_0_56) rfl (fun _ => ?_) (fun h => absurd h cq_eq_0_0)
        have hc6 : c10 26 < 1000000 := Nat.lt_of_lt_of_le hx10_0.2.2 (show 10 ^ (c10 19 - cn 19) ≤ 10 ^ 6 from Nat.pow_le_pow_right (by (first | omega | (have zz0 := Hid.u hi_c10; have zz1 := Hid.u hi_cn; have zz2 := Hid.u hq_c10; omega))) (by (first | omega | (have zz0 := Hid.u hi_c10; have zz1 := Hid.u hi_cn; have zz2 := Hid.u hq_c10; omega))))
        refine lv_iconst (v := 1) hx hb (oc_4 70 (aq_20 shX12_readsNumber_50)) kic_1 ?_
        exact W.zret (v := 1) hx hb hr rfl (fun t ht hW => ⟨⟨1, (c10, I10, Fn), rfl, ⟨(Fr.mo hfr10 (sbl rfl) (sbl rfl) (sbl rfl)), hI10, (by show 1 = 0 ∨ (1 = 1 ∧ cn 19 < c10 19 ∧ c10 19 ≤ cn 20 ∧ c10 26 < 1000000); exact Or.inr ⟨rfl, by by_cases z : c10 19 = cn 19; (have e := congrArg Int32.toInt (hereM_cg (Fn := Fn) (F2 := Fn) z (hfr10.1 20 (nml rfl)) rfl); (first | omega | (have zz0 := Hid.u hi_c10; have zz1 := Hid.u hi_cn; have zz2 := Hid.u hq_c10; omega))); (first | omega | (have zz0 := Hid.u hi_c10; have zz1 := Hid.u hi_cn; have zz2 := Hid.u hq_c10; omega)), by (first | omega | (have zz0 := Hid.u hi_c10; have zz1 := Hid.u hi_cn; have zz2 := Hid.u hq_c10; omega)), hc6⟩)⟩, by rw [ht]; exact hP, hD⟩, hS.F ht⟩) hS.2.2 (oc_172 71 (aq_21 shX12_readsNumber_50))
  exact lp_10 _  (va_up cn 26 0) In _ _ (Nat.lt_succ_self _) ⟨(Fr.mo (Fr.c 26 Fr.rf) (sbl rfl) (sbl rfl) (sbl rfl)), (IM.fr (In := In) hI (Fr.c 26 Fr.rf) (by decide) (by decide)), ⟨Nat.le_refl _, by show cn 19 ≤ cn 19 + 6; (first | omega | (have zz0 := Hid.u hi_cn; omega)), by show 0 < 10 ^ (cn 19 - cn 19); rw [Nat.sub_self]; decide⟩, (by show cn 19 ≤ cn 20; (first | omega | (have zz0 := Hid.u hi_cn; omega)))⟩ hP hD hS ls (lv_sub hl [0, 1] rfl)
set_option maxRecDepth 100000 in
set_option maxHeartbeats 4000000 in
theorem q_says (l : Launch) (D : va_G) (cI cB cZ : ClassId) (g : Nat → Nat) (cn : Nat → Nat) (In : Nat → Int32) (Fn : Nat → Nat → Int32) (o0 x0 : Nat) (sz : Nat) (hI : IM cn Fn) (h23 : cn 23 < 180) : Met l yX12_says (CWS yX12_says cX12_says 3 none) (RM 0 0 0) (PBw [.ref (g 100), .int (nI o0), .int (nI x0)] D cI cB cZ (wM cI cB cZ g cn In Fn) sz) (va_Qv (fun (u : (Nat → Nat) × (Nat → Int32) × (Nat → Nat → Int32)) => (fun c2 I2 F2 => (∀ k : Nat, k ∉ [] → I2 k = In k) ∧ (((True) ∧ (va_up cn 23 (cn 23 + 1)) = c2 ∧ (va_up Fn 27 (upd (Fn 27) (cn 23) (nI (o0 * 1048576 + x0)))) = F2))) u.1 u.2.1 u.2.2) (fun (u : (Nat → Nat) × (Nat → Int32) × (Nat → Nat → Int32)) (t : State) => va_P D vwCl (wM cI cB cZ g u.1 u.2.1 u.2.2) t.heap ∧ va_D (va_A (wM cI cB cZ g cn In Fn) sz) (wM cI cB cZ g u.1 u.2.1 u.2.2)) (va_A (wM cI cB cZ g cn In Fn) sz)) 0 0 (va_A (wM cI cB cZ g cn In Fn) sz) := by
  refine en_w (fun A => (va_Qv (fun (u : (Nat → Nat) × (Nat → Int32) × (Nat → Nat → Int32)) => (fun (c2 : Nat → Nat) (I2 : Nat → Int32) (F2 : Nat → Nat → Int32) => (∀ k : Nat, k ∉ [] → I2 k = In k) ∧ (((True) ∧ (va_up cn 23 (cn 23 + 1)) = c2 ∧ (va_up Fn 27 (upd (Fn 27) (cn 23) (nI (o0 * 1048576 + x0)))) = F2))) u.1 u.2.1 u.2.2) (fun (u : (Nat → Nat) × (Nat → Int32) × (Nat → Nat → Int32)) (t : State) => va_P D vwCl (wM cI cB cZ g u.1 u.2.1 u.2.2) t.heap ∧ va_D A (wM cI cB cZ g u.1 u.2.1 u.2.2)) A)) rfl rfl pn_RX12 (Nat.le_of_ble_eq_true rfl) (fun p e s m below meth c A hx hb hml hown S hr hlocks hnm hA hP hK hD hS ls hl => ?_)
  have hl : lv_has ls 3 [(0, .ref (g 100)), (1, .int (nI o0)), (2, .int (nI x0))] := hl
  have hi_cn : Hid (CB cn) := hI.b
  refine lv_aload_n hx hb (oc_42 0 shX12_says_0) rfl (lvA0 hl) ?_
  refine gM_56 S hK hP (v := .ref (g 27)) rfl (oc_180 1 (aq_1 shX12_says_0) uw_0_56) ?_
  refine lv_aload_n hx hb (oc_42 4 (aq_4 shX12_says_0)) rfl (lvA0 hl) ?_
  refine gM_257 S hK hP (v := .int (nI (cn 23))) rfl (oc_180 5 (aq_5 shX12_says_0) uw_1_1) ?_
  refine lv_ldcw (v := 1048576) hx hb hown (S.2.2.2.2 _ (wk7_17 11 rfl rfl)) (oc_19 8 (aq_8 shX12_says_0) uw_1_4) ?_
  refine lv_iload_n hx hb (oc_27 11 (aq_11 shX12_says_0)) rfl (lvA1 hl) ?_
  refine lv_imul hx hb (oc_104 12 (aq_12 shX12_says_0)) ?_
  refine lv_topi (fun y_1 ey_1 => ?_)
  obtain rfl : y_1 = (nI (o0 * 1048576)) := ey_1.trans ((pk_mul 1048576 o0).trans (congrArg nI (Nat.mul_comm _ _)))
  refine lv_iload_n hx hb (oc_28 13 (aq_13 shX12_says_0)) rfl (lvA2 hl) ?_
  refine lv_iadd hx hb (oc_96 14 (aq_14 shX12_says_0)) ?_
  refine lv_topi (fun y_2 ey_2 => ?_)
  obtain rfl : y_2 = (nI ((o0 * 1048576) + x0)) := ey_2.trans (nI_add (o0 * 1048576) x0)
  have kb_1 : (cn 23) < 180 := by (first | omega | (have zz0 := Hid.u hi_cn; omega))
  refine stM_27 hx hb hK hP hD hS (Fn2 := (va_up Fn 27 (upd (Fn 27) (cn 23) (nI ((o0 * 1048576) + x0))))) (vp_in_nI kb_1 (ltb rfl)) (nI_clamp (Nat.lt_trans kb_1 (ltb rfl))) rfl (oc_79 15 (aq_15 shX12_says_0)) (fun H locs hP hD hS => ?_)
  refine lv_aload_n hx hb (oc_42 16 (aq_16 shX12_says_0)) rfl (lvA0 hl) ?_
  refine lv_aload_n hx hb (oc_42 17 (aq_17 shX12_says_0)) rfl (lvA0 hl) ?_
  refine gM_257 S hK hP (v := .int (nI (cn 23))) rfl (oc_180 18 (aq_18 shX12_says_0) uw_1_1) ?_
  refine lv_iconst (v := 1) hx hb (oc_4 21 (aq_21 shX12_says_0)) kic_1 ?_
  refine lv_iadd hx hb (oc_96 22 (aq_22 shX12_says_0)) ?_
  refine lv_topi (fun y_3 ey_3 => ?_)
  obtain rfl : y_3 = (nI ((cn 23) + 1)) := ey_3.trans (nI_add (cn 23) 1)
  refine pM_257 S hK hP hD hS (a := ((cn 23) + 1)) (cn2 := (va_up cn 23 ((cn 23) + 1))) rfl rfl (oc_181 23 (aq_23 shX12_says_0) uw_1_1) (fun H locs hP hD hS => ?_)
  exact W.vret hx hb hr (fun t ht hW => ⟨⟨((va_up cn 23 ((cn 23) + 1)), In, (va_up Fn 27 (upd (Fn 27) (cn 23) (nI ((o0 * 1048576) + x0))))), rfl, ⟨(show Fr [23] [] [27] cn In Fn (va_up cn 23 ((cn 23) + 1)) In (va_up Fn 27 (upd (Fn 27) (cn 23) (nI ((o0 * 1048576) + x0)))) from Fr.mo (Fr.f 27 (Fr.c 23 (Fr.rf (cn := cn) (In := In) (Fn := Fn)))) (sbl rfl) (sbl rfl) (sbl rfl)).2.1, ⟨(by first | trivial | (first | omega | (have zz0 := Hid.u hi_cn; omega))), rfl, rfl⟩⟩, by rw [ht]; exact hP, hD⟩, hS.F ht⟩) hS.2.2 (oc_177 26 shX12_says_26)
set_option maxRecDepth 100000 in
set_option maxHeartbeats 4000000 in
theorem q_opens (l : Launch) (D : va_G) (cI cB cZ : ClassId) (g : Nat → Nat) (cn : Nat → Nat) (In : Nat → Int32) (Fn : Nat → Nat → Int32) (k0 : Nat) (sz : Nat) (hI : IM cn Fn) (h24 : cn 24 < 180) : Met l yX12_opens (CWS yX12_opens cX12_opens 2 (some .boolean)) (RM 1 0 0) (PBw [.ref (g 100), .int (nI k0)] D cI cB cZ (wM cI cB cZ g cn In Fn) sz) (va_Qi (fun (r : Int32) (u : (Nat → Nat) × (Nat → Int32) × (Nat → Nat → Int32)) => (fun r c2 I2 F2 => (∀ k : Nat, k ∉ [21, 22] → I2 k = In k) ∧ ((r = 0 ∧ (True) ∧ cn = c2 ∧ Fn = F2) ∨ (r = 1 ∧ (True) ∧ (va_up (va_up cn 24 (cn 24 + 1)) 19 (cn 19 + 1)) = c2 ∧ (va_up Fn 28 (upd (Fn 28) (cn 24) (nI (k0 * 1048576)))) = F2))) r u.1 u.2.1 u.2.2) (fun (u : (Nat → Nat) × (Nat → Int32) × (Nat → Nat → Int32)) (t : State) => va_P D vwCl (wM cI cB cZ g u.1 u.2.1 u.2.2) t.heap ∧ va_D (va_A (wM cI cB cZ g cn In Fn) sz) (wM cI cB cZ g u.1 u.2.1 u.2.2)) (va_A (wM cI cB cZ g cn In Fn) sz)) 0 0 (va_A (wM cI cB cZ g cn In Fn) sz) := by
  refine en_w (fun A => (va_Qi (fun (r : Int32) (u : (Nat → Nat) × (Nat → Int32) × (Nat → Nat → Int32)) => (fun (r : Int32) (c2 : Nat → Nat) (I2 : Nat → Int32) (F2 : Nat → Nat → Int32) => (∀ k : Nat, k ∉ [21, 22] → I2 k = In k) ∧ ((r = 0 ∧ (True) ∧ cn = c2 ∧ Fn = F2) ∨ (r = 1 ∧ (True) ∧ (va_up (va_up cn 24 (cn 24 + 1)) 19 (cn 19 + 1)) = c2 ∧ (va_up Fn 28 (upd (Fn 28) (cn 24) (nI (k0 * 1048576)))) = F2))) r u.1 u.2.1 u.2.2) (fun (u : (Nat → Nat) × (Nat → Int32) × (Nat → Nat → Int32)) (t : State) => va_P D vwCl (wM cI cB cZ g u.1 u.2.1 u.2.2) t.heap ∧ va_D A (wM cI cB cZ g u.1 u.2.1 u.2.2)) A)) rfl rfl pn_RX12 (Nat.le_of_ble_eq_true rfl) (fun p e s m below meth c A hx hb hml hown S hr hlocks hnm hA hP hK hD hS ls hl => ?_)
  have hl : lv_has ls 2 [(0, .ref (g 100)), (1, .int (nI k0))] := hl
  have hi_cn : Hid (CB cn) := hI.b
  refine lv_aload_n hx hb (oc_42 0 shX12_opens_0) rfl (lvA0 hl) ?_
  refine gM_261 S hK hP (v := .int (In 22)) rfl (oc_180 1 (aq_1 shX12_opens_0) uw_1_5) ?_
  refine lv_bipush (v := 6) hx hb (oc_16 4 (aq_4 shX12_opens_0) sgb_6) kbc_6 ?_
  refine lv_icmp_ne (tgt := 19) hx hb (oc_160 6 (aq_6 shX12_opens_0) sgw_0_13) rfl (fun c_1 => ?_) (fun c_1 => ?_)
  ·
    have tc_1 : ((In 22).toInt : Int) ≠ 6 := fun q => c_1 (Int32.toInt_inj.mp q)
    refine lv_aload_n hx hb (oc_42 19 (aq_19 shX12_opens_0)) rfl (lvA0 hl) ?_
    refine lv_aload_n hx hb (oc_42 20 (aq_20 shX12_opens_0)) rfl (lvA0 hl) ?_
    refine gM_261 S hK hP (v := .int (In 22)) rfl (oc_180 21 (aq_21 shX12_opens_0) uw_1_5) ?_
    refine lv_iconst (v := 1) hx hb (oc_4 24 shX12_opens_24) kic_1 ?_
    refine lv_iadd hx hb (oc_96 25 (aq_1 shX12_opens_24)) ?_
    refine pM_261 S hK hP hD hS (In2 := (va_up In 22 ((In 22) + 1))) rfl (oc_181 26 (aq_2 shX12_opens_24) uw_1_5) (fun H locs hP hD hS => ?_)
    refine lv_aload_n hx hb (oc_42 29 (aq_5 shX12_opens_24)) rfl (lvA0 hl) ?_
    refine gM_59 S hK hP (v := .ref (g 28)) rfl (oc_180 30 (aq_6 shX12_opens_24) uw_0_59) ?_
    refine lv_aload_n hx hb (oc_42 33 (aq_9 shX12_opens_24)) rfl (lvA0 hl) ?_
    refine gM_264 S hK hP (v := .int (nI (cn 24))) rfl (oc_180 34 (aq_10 shX12_opens_24) uw_1_8) ?_
    refine lv_ldcw (v := 1048576) hx hb hown (S.2.2.2.2 _ (wk7_17 11 rfl rfl)) (oc_19 37 (aq_13 shX12_opens_24) uw_1_4) ?_
    refine lv_iload_n hx hb (oc_27 40 (aq_16 shX12_opens_24)) rfl (lvA1 hl) ?_
    refine lv_imul hx hb (oc_104 41 (aq_17 shX12_opens_24)) ?_
    refine lv_topi (fun y_2 ey_2 => ?_)
    obtain rfl : y_2 = (nI (k0 * 1048576)) := ey_2.trans ((pk_mul 1048576 k0).trans (congrArg nI (Nat.mul_comm _ _)))
    have kb_1 : (cn 24) < 180 := by (first | omega | (have zz0 := Hid.u hi_cn; omega))
    refine stM_28 hx hb hK hP hD hS (Fn2 := (va_up Fn 28 (upd (Fn 28) (cn 24) (nI (k0 * 1048576))))) (vp_in_nI kb_1 (ltb rfl)) (nI_clamp (Nat.lt_trans kb_1 (ltb rfl))) rfl (oc_79 42 (aq_18 shX12_opens_24)) (fun H locs hP hD hS => ?_)
    refine lv_aload_n hx hb (oc_42 43 (aq_19 shX12_opens_24)) rfl (lvA0 hl) ?_
    refine lv_aload_n hx hb (oc_42 44 (aq_20 shX12_opens_24)) rfl (lvA0 hl) ?_
    refine gM_264 S hK hP (v := .int (nI (cn 24))) rfl (oc_180 45 (aq_21 shX12_opens_24) uw_1_8) ?_
    refine lv_iconst (v := 1) hx hb (oc_4 48 shX12_opens_48) kic_1 ?_
    refine lv_iadd hx hb (oc_96 49 (aq_1 shX12_opens_48)) ?_
    refine lv_topi (fun y_3 ey_3 => ?_)
    obtain rfl : y_3 = (nI ((cn 24) + 1)) := ey_3.trans (nI_add (cn 24) 1)
    refine pM_264 S hK hP hD hS (a := ((cn 24) + 1)) (cn2 := (va_up cn 24 ((cn 24) + 1))) rfl rfl (oc_181 50 (aq_2 shX12_opens_48) uw_1_8) (fun H locs hP hD hS => ?_)
    refine lv_aload_n hx hb (oc_42 53 (aq_5 shX12_opens_48)) rfl (lvA0 hl) ?_
    refine lv_aload_n hx hb (oc_42 54 (aq_6 shX12_opens_48)) rfl (lvA0 hl) ?_
    refine gM_233 S hK hP (v := .int (nI (cn 19))) rfl (oc_180 55 (aq_7 shX12_opens_48) uw_0_233) ?_
    refine lv_iconst (v := 1) hx hb (oc_4 58 (aq_10 shX12_opens_48)) kic_1 ?_
    refine lv_iadd hx hb (oc_96 59 (aq_11 shX12_opens_48)) ?_
    refine lv_topi (fun y_4 ey_4 => ?_)
    obtain rfl : y_4 = (nI ((cn 19) + 1)) := ey_4.trans (nI_add (cn 19) 1)
    refine pM_233 S hK hP hD hS (a := ((cn 19) + 1)) (cn2 := (va_up (va_up cn 24 ((cn 24) + 1)) 19 ((cn 19) + 1))) rfl rfl (oc_181 60 (aq_12 shX12_opens_48) uw_0_233) (fun H locs hP hD hS => ?_)
    refine lv_iconst (v := 1) hx hb (oc_4 63 (aq_15 shX12_opens_48)) kic_1 ?_
    exact W.zret (v := 1) hx hb hr rfl (fun t ht hW => ⟨⟨1, ((va_up (va_up cn 24 ((cn 24) + 1)) 19 ((cn 19) + 1)), (va_up In 22 ((In 22) + 1)), (va_up Fn 28 (upd (Fn 28) (cn 24) (nI (k0 * 1048576))))), rfl, ⟨(show Fr [19, 24] [21, 22] [28] cn In Fn (va_up (va_up cn 24 ((cn 24) + 1)) 19 ((cn 19) + 1)) (va_up In 22 ((In 22) + 1)) (va_up Fn 28 (upd (Fn 28) (cn 24) (nI (k0 * 1048576)))) from Fr.mo (Fr.f 28 (Fr.i 22 (Fr.c 19 (Fr.c 24 (Fr.rf (cn := cn) (In := In) (Fn := Fn)))))) (sbl rfl) (sbl rfl) (sbl rfl)).2.1, (Or.inr ⟨rfl, (by first | trivial | (first | omega | (have zz0 := Hid.u hi_cn; omega))), rfl, rfl⟩)⟩, by rw [ht]; exact hP, hD⟩, hS.F ht⟩) hS.2.2 (oc_172 64 (aq_16 shX12_opens_48))
  ·
    have tc_1 : ((In 22).toInt : Int) = 6 := congrArg Int32.toInt c_1
    refine lv_aload_n hx hb (oc_42 9 (aq_9 shX12_opens_0)) rfl (lvA0 hl) ?_
    refine lv_iconst (v := 5) hx hb (oc_8 10 (aq_10 shX12_opens_0)) kic_5 ?_
    refine lv_aload_n hx hb (oc_42 11 (aq_11 shX12_opens_0)) rfl (lvA0 hl) ?_
    refine gM_233 S hK hP (v := .int (nI (cn 19))) rfl (oc_180 12 (aq_12 shX12_opens_0) uw_0_233) ?_
    have hFc := free_all hD hS hA
    refine va_calli (runV_a (As := [.int 5, .int (nI (cn 19))]) (rest := []) S (q_wrong l D cI cB cZ g cn In Fn 5 (nI (cn 19)) s.heap.size hI) kV_RX12_246 hK hP hD 0 rfl rfl rfl ⟨Nat.le_of_ble_eq_true rfl, Nat.le_of_ble_eq_true rfl⟩ ⟨Nat.le_of_ble_eq_true rfl, Nat.le_of_ble_eq_true rfl⟩ rfl hl.1 rfl (Nat.le_of_ble_eq_true rfl) (oc_182 15 (aq_15 shX12_opens_0) uw_0_246)) hS (fun q _ h => hFc q h) hFc (fun r_5 u t H1 locs ht hvm wh_6 hB hz1 hk1 hS => ?_)
    obtain ⟨cn6, In6, Fn6⟩ := u
    obtain ⟨hP1, hD1⟩ := hB
    rw [ht] at hP1
    have vh_6 : (fun r c2 I2 F2 => (∀ k : Nat, k ∉ [21] → I2 k = In k) ∧ ((r = 0 ∧ (True) ∧ cn = c2 ∧ Fn = F2))) r_5 cn6 In6 Fn6 := wh_6
    obtain ⟨hI6_, vh_6⟩ := vh_6
    obtain ⟨rfl, h_6, rfl, rfl⟩ := vh_6
    have hf6 : Fr [19, 24] [21, 22] [28] cn In Fn cn In6 Fn := Fr.mo (Fr.tr (Fr.rf (cn := cn) (In := In) (Fn := Fn)) (show Fr [] [21] [] cn In Fn cn In6 Fn from ⟨fun _ _ => rfl, hI6_, fun _ _ => rfl⟩)) (sbl rfl) (sbl rfl) (sbl rfl)
    have hP : va_P D vwCl (wM cI cB cZ g cn In6 Fn) H1 := hP1
    have hD : va_D A (wM cI cB cZ g cn In6 Fn) := hD1.weaken (fun _ _ _ h => hFc _ h)
    generalize H1 = H at hP hS ⊢
    exact W.zret (v := 0) hx hb hr rfl (fun t ht hW => ⟨⟨0, (cn, In6, Fn), rfl, ⟨(show Fr [19, 24] [21, 22] [28] cn In Fn cn In6 Fn from Fr.mo hf6 (sbl rfl) (sbl rfl) (sbl rfl)).2.1, (Or.inl ⟨rfl, (by first | trivial | (first | omega | (have zz0 := Hid.u hi_cn; omega))), rfl, rfl⟩)⟩, by rw [ht]; exact hP, hD⟩, hS.F ht⟩) hS.2.2 (oc_172 18 (aq_18 shX12_opens_0))
set_option maxRecDepth 100000 in
set_option maxHeartbeats 4000000 in
theorem q_top (l : Launch) (D : va_G) (cI cB cZ : ClassId) (g : Nat → Nat) (cn : Nat → Nat) (In : Nat → Int32) (Fn : Nat → Nat → Int32)  (hI : IM cn Fn) (hw : ∀ i : Nat, i < cn 24 → WKk (Fn 28 i)) (h24 : cn 24 ≤ 180) : Met l yX12_top (CWS yX12_top cX12_top 1 (some .int)) (RM 0 0 0) (PBr [.ref (g 100)] D cI cB cZ (wM cI cB cZ g cn In Fn)) (vp_Si (fun r => (cn 24 = 0 ∧ r.toInt = -1) ∨ (0 < cn 24 ∧ r.toInt = ((kd (Fn 28 (cn 24 - 1)) : Nat) : Int) ∧ 2 ≤ kd (Fn 28 (cn 24 - 1)) ∧ kd (Fn 28 (cn 24 - 1)) ≤ 14))) 0 0 (fun _ => False) := by
  refine en_r rfl pn_RX12 (Nat.le_of_ble_eq_true rfl) (fun p e s m below meth c hx hb hml hown S hr hlocks hnm hP hK hS ls hl => ?_)
  have hl : lv_has ls 1 [(0, .ref (g 100))] := hl
  have hi_cn : Hid (CB cn) := hI.b
  refine lv_aload_n hx hb (oc_42 0 shX12_top_0) rfl (lvA0 hl) ?_
  refine gM_264 S hK hP (v := .int (nI (cn 24))) rfl (oc_180 1 (aq_1 shX12_top_0) uw_1_8) ?_
  have : (nI (cn 24)).toInt = (((cn 24) : Nat) : Int) := nI_toInt (by (first | omega | (have zz0 := Hid.u hi_cn; omega)))
  refine lv_if_ne (tgt := 11) hx hb (oc_154 4 (aq_4 shX12_top_0) sgw_0_7) rfl (fun c_1 => ?_) (fun c_1 => ?_)
  ·
    have tc_1 : ((nI (cn 24)).toInt : Int) ≠ 0 := fun q => c_1 (Int32.toInt_inj.mp q)
    refine lv_aload_n hx hb (oc_42 11 (aq_11 shX12_top_0)) rfl (lvA0 hl) ?_
    refine gM_59 S hK hP (v := .ref (g 28)) rfl (oc_180 12 (aq_12 shX12_top_0) uw_0_59) ?_
    refine lv_aload_n hx hb (oc_42 15 (aq_15 shX12_top_0)) rfl (lvA0 hl) ?_
    refine gM_264 S hK hP (v := .int (nI (cn 24))) rfl (oc_180 16 (aq_16 shX12_top_0) uw_1_8) ?_
    refine lv_iconst (v := 1) hx hb (oc_4 19 (aq_19 shX12_top_0)) kic_1 ?_
    refine lv_isub hx hb (oc_100 20 (aq_20 shX12_top_0)) ?_
    refine lv_topi (fun y_2 ey_2 => ?_)
    obtain rfl : y_2 = (nI (cn 24 - 1)) := ey_2.trans (nI_sub (b := 1) (by (first | omega | (have zz0 := Hid.u hi_cn; omega))))
    have kb_1 : (cn 24 - 1) < 180 := by (first | omega | (have zz0 := Hid.u hi_cn; omega))
    refine ldM_28 hx hb hK hP (x := ((Fn 28) (cn 24 - 1))) (vp_in_nI kb_1 (ltb rfl)) (nI_clamp (Nat.lt_trans kb_1 (ltb rfl))) rfl (oc_46 21 (aq_21 shX12_top_0)) ?_
    refine lv_ldcw (v := 1048576) hx hb hown (S.2.2.2.2 _ (wk7_17 11 rfl rfl)) (oc_19 22 (aq_22 shX12_top_0) uw_1_4) ?_
    refine lv_idiv hx hb (oc_108 25 shX12_top_25) (by decide) ?_
    refine lv_topi (fun y_3 ey_3 => ?_)
    obtain rfl : y_3 = (nI (kd (Fn 28 (cn 24 - 1)))) := ey_3.trans ((hw (cn 24 - 1) (by (first | omega | (have zz0 := Hid.u hi_cn; omega)))).div)
    exact W.iret (v := (nI (kd (Fn 28 (cn 24 - 1))))) hx hb hr (fun t ht hW => ⟨(nI (kd (Fn 28 (cn 24 - 1)))), rfl, (by have k := (hw (cn 24 - 1) (by (first | omega | (have zz0 := Hid.u hi_cn; omega)))).k; exact Or.inr ⟨by (first | omega | (have zz0 := Hid.u hi_cn; omega)), nI_toInt (by (first | omega | (have zz0 := Hid.u hi_cn; omega))), k.1, k.2⟩), ht⟩) (fun _ h => absurd h List.not_mem_nil) (oc_172 26 (aq_1 shX12_top_25))
  ·
    have tc_1 : ((nI (cn 24)).toInt : Int) = 0 := congrArg Int32.toInt c_1
    refine lv_iconst (v := (-1)) hx hb (oc_2 7 (aq_7 shX12_top_0)) kic_m1 ?_
    refine lv_goto (tgt := 26) hx hb (oc_167 8 (aq_8 shX12_top_0) sgw_0_18) rfl ?_
    exact W.iret (v := (-1)) hx hb hr (fun t ht hW => ⟨(-1), rfl, (Or.inl ⟨by (first | omega | (have zz0 := Hid.u hi_cn; omega)), rfl⟩), ht⟩) (fun _ h => absurd h List.not_mem_nil) (oc_172 26 (aq_1 shX12_top_25))
set_option maxRecDepth 100000 in
set_option maxHeartbeats 4000000 in
theorem q_factOf (l : Launch) (D : va_G) (cI cB cZ : ClassId) (v0 : Int32)  : Met l yX12_factOf (CWS yX12_factOf cX12_factOf 1 (some .int)) (RM 0 0 0) (PBr [.int v0] D cI cB cZ []) (vp_Si (fun r => r = -1 ∨ ∃ n : Nat, n ≤ 10 ∧ 97 ≤ v0.toInt ∧ r = nI n)) 0 0 (fun _ => False) := by
  refine en_r rfl pn_RX12 (Nat.le_of_ble_eq_true rfl) (fun p e s m below meth c hx hb hml hown S hr hlocks hnm hP hK hS ls hl => ?_)
  have hl : lv_has ls 1 [(0, .int v0)] := hl
  refine lv_iload_n hx hb (oc_26 0 shX12_factOf_0) rfl (lvA0 hl) ?_
  rcases (by omega : v0.toInt < 97 ∨ 119 < v0.toInt ∨ v0.toInt = 97 ∨ v0.toInt = 98 ∨ v0.toInt = 99 ∨ v0.toInt = 100 ∨ v0.toInt = 101 ∨ v0.toInt = 102 ∨ v0.toInt = 103 ∨ v0.toInt = 104 ∨ v0.toInt = 105 ∨ v0.toInt = 106 ∨ v0.toInt = 107 ∨ v0.toInt = 108 ∨ v0.toInt = 109 ∨ v0.toInt = 110 ∨ v0.toInt = 111 ∨ v0.toInt = 112 ∨ v0.toInt = 113 ∨ v0.toInt = 114 ∨ v0.toInt = 115 ∨ v0.toInt = 116 ∨ v0.toInt = 117 ∨ v0.toInt = 118 ∨ v0.toInt = 119) with c_1 | c_1 | c_1 | c_1 | c_1 | c_1 | c_1 | c_1 | c_1 | c_1 | c_1 | c_1 | c_1 | c_1 | c_1 | c_1 | c_1 | c_1 | c_1 | c_1 | c_1 | c_1 | c_1 | c_1 | c_1
  ·
    refine lv_tableOut (tgt := 135) hx hb dX12_factOf_1 (Or.inl c_1) (by decide) ?_
    refine lv_iconst (v := (-1)) hx hb dX12_factOf_135 kic_m1 ?_
    exact W.iret (v := (-1)) hx hb hr (fun t ht hW => ⟨(-1), rfl, (Or.inl rfl), ht⟩) (fun _ h => absurd h List.not_mem_nil) dX12_factOf_136
  ·
    refine lv_tableOut (tgt := 135) hx hb dX12_factOf_1 (Or.inr c_1) (by decide) ?_
    refine lv_iconst (v := (-1)) hx hb dX12_factOf_135 kic_m1 ?_
    exact W.iret (v := (-1)) hx hb hr (fun t ht hW => ⟨(-1), rfl, (Or.inl rfl), ht⟩) (fun _ h => absurd h List.not_mem_nil) dX12_factOf_136
  ·
    refine lv_tableIn (tgt := 112) (off := 111) hx hb dX12_factOf_1 (by omega) (by omega) (by rw [c_1]; rfl) (by decide) ?_
    refine lv_iconst (v := 2) hx hb (oc_5 112 (aq_4 shX12_factOf_108)) kic_2 ?_
    exact W.iret (v := 2) hx hb hr (fun t ht hW => ⟨2, rfl, (Or.inr ⟨2, by decide, by omega, rfl⟩), ht⟩) (fun _ h => absurd h List.not_mem_nil) (oc_172 113 (aq_5 shX12_factOf_108))
  ·
    refine lv_tableIn (tgt := 135) (off := 134) hx hb dX12_factOf_1 (by omega) (by omega) (by rw [c_1]; rfl) (by decide) ?_
    refine lv_iconst (v := (-1)) hx hb dX12_factOf_135 kic_m1 ?_
    exact W.iret (v := (-1)) hx hb hr (fun t ht hW => ⟨(-1), rfl, (Or.inl rfl), ht⟩) (fun _ h => absurd h List.not_mem_nil) dX12_factOf_136
  ·
    refine lv_tableIn (tgt := 135) (off := 134) hx hb dX12_factOf_1 (by omega) (by omega) (by rw [c_1]; rfl) (by decide) ?_
    refine lv_iconst (v := (-1)) hx hb dX12_factOf_135 kic_m1 ?_
    exact W.iret (v := (-1)) hx hb hr (fun t ht hW => ⟨(-1), rfl, (Or.inl rfl), ht⟩) (fun _ h => absurd h List.not_mem_nil) dX12_factOf_136
  ·
    refine lv_tableIn (tgt := 114) (off := 113) hx hb dX12_factOf_1 (by omega) (by omega) (by rw [c_1]; rfl) (by decide) ?_
    refine lv_iconst (v := 3) hx hb (oc_6 114 (aq_6 shX12_factOf_108)) kic_3 ?_
    exact W.iret (v := 3) hx hb hr (fun t ht hW => ⟨3, rfl, (Or.inr ⟨3, by decide, by omega, rfl⟩), ht⟩) (fun _ h => absurd h List.not_mem_nil) (oc_172 115 (aq_7 shX12_factOf_108))
  ·
    refine lv_tableIn (tgt := 135) (off := 134) hx hb dX12_factOf_1 (by omega) (by omega) (by rw [c_1]; rfl) (by decide) ?_
    refine lv_iconst (v := (-1)) hx hb dX12_factOf_135 kic_m1 ?_
    exact W.iret (v := (-1)) hx hb hr (fun t ht hW => ⟨(-1), rfl, (Or.inl rfl), ht⟩) (fun _ h => absurd h List.not_mem_nil) dX12_factOf_136
  ·
    refine lv_tableIn (tgt := 110) (off := 109) hx hb dX12_factOf_1 (by omega) (by omega) (by rw [c_1]; rfl) (by decide) ?_
    refine lv_iconst (v := 1) hx hb (oc_4 110 (aq_2 shX12_factOf_108)) kic_1 ?_
    exact W.iret (v := 1) hx hb hr (fun t ht hW => ⟨1, rfl, (Or.inr ⟨1, by decide, by omega, rfl⟩), ht⟩) (fun _ h => absurd h List.not_mem_nil) (oc_172 111 (aq_3 shX12_factOf_108))
  ·
    refine lv_tableIn (tgt := 118) (off := 117) hx hb dX12_factOf_1 (by omega) (by omega) (by rw [c_1]; rfl) (by decide) ?_
    refine lv_iconst (v := 5) hx hb (oc_8 118 (aq_10 shX12_factOf_108)) kic_5 ?_
    exact W.iret (v := 5) hx hb hr (fun t ht hW => ⟨5, rfl, (Or.inr ⟨5, by decide, by omega, rfl⟩), ht⟩) (fun _ h => absurd h List.not_mem_nil) (oc_172 119 (aq_11 shX12_factOf_108))
  ·
    refine lv_tableIn (tgt := 135) (off := 134) hx hb dX12_factOf_1 (by omega) (by omega) (by rw [c_1]; rfl) (by decide) ?_
    refine lv_iconst (v := (-1)) hx hb dX12_factOf_135 kic_m1 ?_
    exact W.iret (v := (-1)) hx hb hr (fun t ht hW => ⟨(-1), rfl, (Or.inl rfl), ht⟩) (fun _ h => absurd h List.not_mem_nil) dX12_factOf_136
  ·
    refine lv_tableIn (tgt := 135) (off := 134) hx hb dX12_factOf_1 (by omega) (by omega) (by rw [c_1]; rfl) (by decide) ?_
    refine lv_iconst (v := (-1)) hx hb dX12_factOf_135 kic_m1 ?_
    exact W.iret (v := (-1)) hx hb hr (fun t ht hW => ⟨(-1), rfl, (Or.inl rfl), ht⟩) (fun _ h => absurd h List.not_mem_nil) dX12_factOf_136
  ·
    refine lv_tableIn (tgt := 135) (off := 134) hx hb dX12_factOf_1 (by omega) (by omega) (by rw [c_1]; rfl) (by decide) ?_
    refine lv_iconst (v := (-1)) hx hb dX12_factOf_135 kic_m1 ?_
    exact W.iret (v := (-1)) hx hb hr (fun t ht hW => ⟨(-1), rfl, (Or.inl rfl), ht⟩) (fun _ h => absurd h List.not_mem_nil) dX12_factOf_136
  ·
    refine lv_tableIn (tgt := 120) (off := 119) hx hb dX12_factOf_1 (by omega) (by omega) (by rw [c_1]; rfl) (by decide) ?_
    refine lv_bipush (v := 6) hx hb (oc_16 120 (aq_12 shX12_factOf_108) sgb_6) kbc_6 ?_
    exact W.iret (v := 6) hx hb hr (fun t ht hW => ⟨6, rfl, (Or.inr ⟨6, by decide, by omega, rfl⟩), ht⟩) (fun _ h => absurd h List.not_mem_nil) (oc_172 122 (aq_14 shX12_factOf_108))
  ·
    refine lv_tableIn (tgt := 135) (off := 134) hx hb dX12_factOf_1 (by omega) (by omega) (by rw [c_1]; rfl) (by decide) ?_
    refine lv_iconst (v := (-1)) hx hb dX12_factOf_135 kic_m1 ?_
    exact W.iret (v := (-1)) hx hb hr (fun t ht hW => ⟨(-1), rfl, (Or.inl rfl), ht⟩) (fun _ h => absurd h List.not_mem_nil) dX12_factOf_136
  ·
    refine lv_tableIn (tgt := 123) (off := 122) hx hb dX12_factOf_1 (by omega) (by omega) (by rw [c_1]; rfl) (by decide) ?_
    refine lv_bipush (v := 7) hx hb (oc_16 123 (aq_15 shX12_factOf_108) sgb_7) kbc_7 ?_
    exact W.iret (v := 7) hx hb hr (fun t ht hW => ⟨7, rfl, (Or.inr ⟨7, by decide, by omega, rfl⟩), ht⟩) (fun _ h => absurd h List.not_mem_nil) (oc_172 125 (aq_17 shX12_factOf_108))
  ·
    refine lv_tableIn (tgt := 132) (off := 131) hx hb dX12_factOf_1 (by omega) (by omega) (by rw [c_1]; rfl) (by decide) ?_
    refine lv_bipush (v := 10) hx hb (oc_16 132 shX12_factOf_132 sgb_10) kbc_10 ?_
    exact W.iret (v := 10) hx hb hr (fun t ht hW => ⟨10, rfl, (Or.inr ⟨10, by decide, by omega, rfl⟩), ht⟩) (fun _ h => absurd h List.not_mem_nil) (oc_172 134 (aq_2 shX12_factOf_132))
  ·
    refine lv_tableIn (tgt := 129) (off := 128) hx hb dX12_factOf_1 (by omega) (by omega) (by rw [c_1]; rfl) (by decide) ?_
    refine lv_bipush (v := 9) hx hb (oc_16 129 (aq_21 shX12_factOf_108) sgb_9) kbc_9 ?_
    exact W.iret (v := 9) hx hb hr (fun t ht hW => ⟨9, rfl, (Or.inr ⟨9, by decide, by omega, rfl⟩), ht⟩) (fun _ h => absurd h List.not_mem_nil) (oc_172 131 (aq_23 shX12_factOf_108))
  ·
    refine lv_tableIn (tgt := 135) (off := 134) hx hb dX12_factOf_1 (by omega) (by omega) (by rw [c_1]; rfl) (by decide) ?_
    refine lv_iconst (v := (-1)) hx hb dX12_factOf_135 kic_m1 ?_
    exact W.iret (v := (-1)) hx hb hr (fun t ht hW => ⟨(-1), rfl, (Or.inl rfl), ht⟩) (fun _ h => absurd h List.not_mem_nil) dX12_factOf_136
  ·
    refine lv_tableIn (tgt := 108) (off := 107) hx hb dX12_factOf_1 (by omega) (by omega) (by rw [c_1]; rfl) (by decide) ?_
    refine lv_iconst (v := 0) hx hb (oc_3 108 shX12_factOf_108) kic_0 ?_
    exact W.iret (v := 0) hx hb hr (fun t ht hW => ⟨0, rfl, (Or.inr ⟨0, by decide, by omega, rfl⟩), ht⟩) (fun _ h => absurd h List.not_mem_nil) (oc_172 109 (aq_1 shX12_factOf_108))
  ·
    refine lv_tableIn (tgt := 135) (off := 134) hx hb dX12_factOf_1 (by omega) (by omega) (by rw [c_1]; rfl) (by decide) ?_
    refine lv_iconst (v := (-1)) hx hb dX12_factOf_135 kic_m1 ?_
    exact W.iret (v := (-1)) hx hb hr (fun t ht hW => ⟨(-1), rfl, (Or.inl rfl), ht⟩) (fun _ h => absurd h List.not_mem_nil) dX12_factOf_136
  ·
    refine lv_tableIn (tgt := 126) (off := 125) hx hb dX12_factOf_1 (by omega) (by omega) (by rw [c_1]; rfl) (by decide) ?_
    refine lv_bipush (v := 8) hx hb (oc_16 126 (aq_18 shX12_factOf_108) sgb_8) kbc_8 ?_
    exact W.iret (v := 8) hx hb hr (fun t ht hW => ⟨8, rfl, (Or.inr ⟨8, by decide, by omega, rfl⟩), ht⟩) (fun _ h => absurd h List.not_mem_nil) (oc_172 128 (aq_20 shX12_factOf_108))
  ·
    refine lv_tableIn (tgt := 135) (off := 134) hx hb dX12_factOf_1 (by omega) (by omega) (by rw [c_1]; rfl) (by decide) ?_
    refine lv_iconst (v := (-1)) hx hb dX12_factOf_135 kic_m1 ?_
    exact W.iret (v := (-1)) hx hb hr (fun t ht hW => ⟨(-1), rfl, (Or.inl rfl), ht⟩) (fun _ h => absurd h List.not_mem_nil) dX12_factOf_136
  ·
    refine lv_tableIn (tgt := 135) (off := 134) hx hb dX12_factOf_1 (by omega) (by omega) (by rw [c_1]; rfl) (by decide) ?_
    refine lv_iconst (v := (-1)) hx hb dX12_factOf_135 kic_m1 ?_
    exact W.iret (v := (-1)) hx hb hr (fun t ht hW => ⟨(-1), rfl, (Or.inl rfl), ht⟩) (fun _ h => absurd h List.not_mem_nil) dX12_factOf_136
  ·
    refine lv_tableIn (tgt := 135) (off := 134) hx hb dX12_factOf_1 (by omega) (by omega) (by rw [c_1]; rfl) (by decide) ?_
    refine lv_iconst (v := (-1)) hx hb dX12_factOf_135 kic_m1 ?_
    exact W.iret (v := (-1)) hx hb hr (fun t ht hW => ⟨(-1), rfl, (Or.inl rfl), ht⟩) (fun _ h => absurd h List.not_mem_nil) dX12_factOf_136
  ·
    refine lv_tableIn (tgt := 116) (off := 115) hx hb dX12_factOf_1 (by omega) (by omega) (by rw [c_1]; rfl) (by decide) ?_
    refine lv_iconst (v := 4) hx hb (oc_7 116 (aq_8 shX12_factOf_108)) kic_4 ?_
    exact W.iret (v := 4) hx hb hr (fun t ht hW => ⟨4, rfl, (Or.inr ⟨4, by decide, by omega, rfl⟩), ht⟩) (fun _ h => absurd h List.not_mem_nil) (oc_172 117 (aq_9 shX12_factOf_108))
set_option maxRecDepth 100000 in
set_option maxHeartbeats 4000000 in
theorem q_sumSign (l : Launch) (D : va_G) (cI cB cZ : ClassId) (v0 : Int32)  : Met l yX12_sumSign (CWS yX12_sumSign cX12_sumSign 1 (some .int)) (RM 0 0 0) (PBr [.int v0] D cI cB cZ []) (vp_Si (fun r => r = -1 ∨ ∃ n : Nat, (2 ≤ n ∧ n ≤ 6) ∧ 37 ≤ v0.toInt ∧ r = nI n)) 0 0 (fun _ => False) := by
  refine en_r rfl pn_RX12 (Nat.le_of_ble_eq_true rfl) (fun p e s m below meth c hx hb hml hown S hr hlocks hnm hP hK hS ls hl => ?_)
  have hl : lv_has ls 1 [(0, .int v0)] := hl
  refine lv_iload_n hx hb (oc_26 0 shX12_sumSign_0) rfl (lvA0 hl) ?_
  refine lv_bipush (v := 43) hx hb (oc_16 1 (aq_1 shX12_sumSign_0) sgb_43) kbc_43 ?_
  refine lv_icmp_ne (tgt := 10) hx hb (oc_160 3 (aq_3 shX12_sumSign_0) sgw_0_7) rfl (fun c_1 => ?_) (fun c_1 => ?_)
  ·
    have tc_1 : (v0.toInt : Int) ≠ 43 := fun q => c_1 (Int32.toInt_inj.mp q)
    refine lv_iload_n hx hb (oc_26 10 (aq_10 shX12_sumSign_0)) rfl (lvA0 hl) ?_
    refine lv_bipush (v := 45) hx hb (oc_16 11 (aq_11 shX12_sumSign_0) sgb_45) kbc_45 ?_
    refine lv_icmp_ne (tgt := 20) hx hb (oc_160 13 (aq_13 shX12_sumSign_0) sgw_0_7) rfl (fun c_2 => ?_) (fun c_2 => ?_)
    ·
      have tc_2 : (v0.toInt : Int) ≠ 45 := fun q => c_2 (Int32.toInt_inj.mp q)
      refine lv_iload_n hx hb (oc_26 20 (aq_20 shX12_sumSign_0)) rfl (lvA0 hl) ?_
      refine lv_bipush (v := 42) hx hb (oc_16 21 (aq_21 shX12_sumSign_0) sgb_42) kbc_42 ?_
      refine lv_icmp_ne (tgt := 30) hx hb (oc_160 23 (aq_23 shX12_sumSign_0) sgw_0_7) rfl (fun c_3 => ?_) (fun c_3 => ?_)
      ·
        have tc_3 : (v0.toInt : Int) ≠ 42 := fun q => c_3 (Int32.toInt_inj.mp q)
        refine lv_iload_n hx hb (oc_26 30 (aq_4 shX12_sumSign_26)) rfl (lvA0 hl) ?_
        refine lv_bipush (v := 47) hx hb (oc_16 31 (aq_5 shX12_sumSign_26) sgb_47) kbc_47 ?_
        refine lv_icmp_ne (tgt := 40) hx hb (oc_160 33 (aq_7 shX12_sumSign_26) sgw_0_7) rfl (fun c_4 => ?_) (fun c_4 => ?_)
        ·
          have tc_4 : (v0.toInt : Int) ≠ 47 := fun q => c_4 (Int32.toInt_inj.mp q)
          refine lv_iload_n hx hb (oc_26 40 (aq_14 shX12_sumSign_26)) rfl (lvA0 hl) ?_
          refine lv_bipush (v := 37) hx hb (oc_16 41 (aq_15 shX12_sumSign_26) sgb_37) kbc_37 ?_
          refine lv_icmp_ne (tgt := 51) hx hb (oc_160 43 (aq_17 shX12_sumSign_26) sgw_0_8) rfl (fun c_5 => ?_) (fun c_5 => ?_)
          ·
            have tc_5 : (v0.toInt : Int) ≠ 37 := fun q => c_5 (Int32.toInt_inj.mp q)
            refine lv_iconst (v := (-1)) hx hb (oc_2 51 shX12_sumSign_51) kic_m1 ?_
            exact W.iret (v := (-1)) hx hb hr (fun t ht hW => ⟨(-1), rfl, (Or.inl rfl), ht⟩) (fun _ h => absurd h List.not_mem_nil) dX12_sumSign_52
          ·
            have tc_5 : (v0.toInt : Int) = 37 := congrArg Int32.toInt c_5
            refine lv_bipush (v := 6) hx hb (oc_16 46 (aq_20 shX12_sumSign_26) sgb_6) kbc_6 ?_
            refine lv_goto (tgt := 52) hx hb (oc_167 48 (aq_22 shX12_sumSign_26) sgw_0_4) rfl ?_
            exact W.iret (v := 6) hx hb hr (fun t ht hW => ⟨6, rfl, (Or.inr ⟨6, by decide, by omega, rfl⟩), ht⟩) (fun _ h => absurd h List.not_mem_nil) dX12_sumSign_52
        ·
          have tc_4 : (v0.toInt : Int) = 47 := congrArg Int32.toInt c_4
          refine lv_iconst (v := 5) hx hb (oc_8 36 (aq_10 shX12_sumSign_26)) kic_5 ?_
          refine lv_goto (tgt := 52) hx hb (oc_167 37 (aq_11 shX12_sumSign_26) sgw_0_15) rfl ?_
          exact W.iret (v := 5) hx hb hr (fun t ht hW => ⟨5, rfl, (Or.inr ⟨5, by decide, by omega, rfl⟩), ht⟩) (fun _ h => absurd h List.not_mem_nil) dX12_sumSign_52
      ·
        have tc_3 : (v0.toInt : Int) = 42 := congrArg Int32.toInt c_3
        refine lv_iconst (v := 4) hx hb (oc_7 26 shX12_sumSign_26) kic_4 ?_
        refine lv_goto (tgt := 52) hx hb (oc_167 27 (aq_1 shX12_sumSign_26) sgw_0_25) rfl ?_
        exact W.iret (v := 4) hx hb hr (fun t ht hW => ⟨4, rfl, (Or.inr ⟨4, by decide, by omega, rfl⟩), ht⟩) (fun _ h => absurd h List.not_mem_nil) dX12_sumSign_52
    ·
      have tc_2 : (v0.toInt : Int) = 45 := congrArg Int32.toInt c_2
      refine lv_iconst (v := 3) hx hb (oc_6 16 (aq_16 shX12_sumSign_0)) kic_3 ?_
      refine lv_goto (tgt := 52) hx hb (oc_167 17 (aq_17 shX12_sumSign_0) sgw_0_35) rfl ?_
      exact W.iret (v := 3) hx hb hr (fun t ht hW => ⟨3, rfl, (Or.inr ⟨3, by decide, by omega, rfl⟩), ht⟩) (fun _ h => absurd h List.not_mem_nil) dX12_sumSign_52
  ·
    have tc_1 : (v0.toInt : Int) = 43 := congrArg Int32.toInt c_1
    refine lv_iconst (v := 2) hx hb (oc_5 6 (aq_6 shX12_sumSign_0)) kic_2 ?_
    refine lv_goto (tgt := 52) hx hb (oc_167 7 (aq_7 shX12_sumSign_0) sgw_0_45) rfl ?_
    exact W.iret (v := 2) hx hb hr (fun t ht hW => ⟨2, rfl, (Or.inr ⟨2, by decide, by omega, rfl⟩), ht⟩) (fun _ h => absurd h List.not_mem_nil) dX12_sumSign_52
set_option maxRecDepth 100000 in
set_option maxHeartbeats 4000000 in
theorem q_closesSums (l : Launch) (D : va_G) (cI cB cZ : ClassId) (g : Nat → Nat) (cn : Nat → Nat) (In : Nat → Int32) (Fn : Nat → Nat → Int32) (a0 G0 w0 s0 : Nat) (v0 : Int32) (sz : Nat) (hI : IM cn Fn) (hPS : PSx (cn 19) (cn 20) (cn 23) (cn 24) (Fn 27) (Fn 28) a0 (G0 + 1) w0 s0) : Met l yX12_closesSums (CWS yX12_closesSums cX12_closesSums 2 none) (RM 1 0 0) (PBw [.ref (g 100), .int v0] D cI cB cZ (wM cI cB cZ g cn In Fn) sz) (va_Qv (fun (u : (Nat → Nat) × (Nat → Int32) × (Nat → Nat → Int32)) => (fun c2 I2 F2 => Fr [23, 24] [] [27] cn In Fn c2 I2 F2 ∧ IM c2 F2 ∧ ((PSx (c2 19) (c2 20) (c2 23) (c2 24) (F2 27) (F2 28) a0 (G0 + 1) w0 s0) ∧ c2 24 ≤ cn 24 ∧ (∀ k : Nat, k < a0 → F2 27 k = Fn 27 k) ∧ (∀ i : Nat, c2 24 ≤ i → i < cn 24 → kd (F2 28 i) ≤ 6) ∧ (¬ (v0 : Int32) = 0 → c2 24 = w0 ∨ kd (F2 28 (c2 24 - 1)) = 14))) u.1 u.2.1 u.2.2) (fun (u : (Nat → Nat) × (Nat → Int32) × (Nat → Nat → Int32)) (t : State) => va_P D vwCl (wM cI cB cZ g u.1 u.2.1 u.2.2) t.heap ∧ va_D (va_A (wM cI cB cZ g cn In Fn) sz) (wM cI cB cZ g u.1 u.2.1 u.2.2)) (va_A (wM cI cB cZ g cn In Fn) sz)) 0 0 (va_A (wM cI cB cZ g cn In Fn) sz) := by
  refine en_w (fun A => (va_Qv (fun (u : (Nat → Nat) × (Nat → Int32) × (Nat → Nat → Int32)) => (fun (c2 : Nat → Nat) (I2 : Nat → Int32) (F2 : Nat → Nat → Int32) => Fr [23, 24] [] [27] cn In Fn c2 I2 F2 ∧ IM c2 F2 ∧ ((PSx (c2 19) (c2 20) (c2 23) (c2 24) (F2 27) (F2 28) a0 (G0 + 1) w0 s0) ∧ c2 24 ≤ cn 24 ∧ (∀ k : Nat, k < a0 → F2 27 k = Fn 27 k) ∧ (∀ i : Nat, c2 24 ≤ i → i < cn 24 → kd (F2 28 i) ≤ 6) ∧ (¬ (v0 : Int32) = 0 → c2 24 = w0 ∨ kd (F2 28 (c2 24 - 1)) = 14))) u.1 u.2.1 u.2.2) (fun (u : (Nat → Nat) × (Nat → Int32) × (Nat → Nat → Int32)) (t : State) => va_P D vwCl (wM cI cB cZ g u.1 u.2.1 u.2.2) t.heap ∧ va_D A (wM cI cB cZ g u.1 u.2.1 u.2.2)) A)) rfl rfl pn_RX12 (Nat.le_of_ble_eq_true rfl) (fun p e s m below meth c A hx hb hml hown S hr hlocks hnm hA hP hK hD hS ls hl => ?_)
  have hl : lv_has ls 2 [(0, .ref (g 100)), (1, .int v0)] := hl
  have hi_cn : Hid (CB cn) := hI.b
  have lp_0 : ∀ (n : Nat)  (cz : Nat → Nat) (Fz : Nat → Nat → Int32) (H : Heap) (locs : List Loc) , cz 24 < n → (Fr [23, 24] [] [27] cn In Fn cz In Fz ∧ IM cz Fz ∧ ((PSx (cz 19) (cz 20) (cz 23) (cz 24) (Fz 27) (Fz 28) a0 (G0 + 1) w0 s0)) ∧ (cz 24 ≤ cn 24) ∧ ((∀ k : Nat, k < a0 → Fz 27 k = Fn 27 k)) ∧ ((∀ i : Nat, cz 24 ≤ i → i < cn 24 → kd (Fz 28 i) ≤ 6))) → va_P D vwCl (wM cI cB cZ g cz In Fz) H → va_D A (wM cI cB cZ g cz In Fz) → va_S A s.heap H locs → ∀ ls : Array Slot, lv_has ls 2 [(0, .ref (g 100)), (1, .int v0)] → W p l e (RM 1 0 0) s m ([.ref (g 100), .int v0]).toArray below meth c H locs 0 0 (MQ below (va_Qv (fun (u : (Nat → Nat) × (Nat → Int32) × (Nat → Nat → Int32)) => (fun c2 I2 F2 => Fr [23, 24] [] [27] cn In Fn c2 I2 F2 ∧ IM c2 F2 ∧ ((PSx (c2 19) (c2 20) (c2 23) (c2 24) (F2 27) (F2 28) a0 (G0 + 1) w0 s0) ∧ c2 24 ≤ cn 24 ∧ (∀ k : Nat, k < a0 → F2 27 k = Fn 27 k) ∧ (∀ i : Nat, c2 24 ≤ i → i < cn 24 → kd (F2 28 i) ≤ 6) ∧ (¬ (v0 : Int32) = 0 → c2 24 = w0 ∨ kd (F2 28 (c2 24 - 1)) = 14))) u.1 u.2.1 u.2.2) (fun (u : (Nat → Nat) × (Nat → Int32) × (Nat → Nat → Int32)) (t : State) => va_P D vwCl (wM cI cB cZ g u.1 u.2.1 u.2.2) t.heap ∧ va_D A (wM cI cB cZ g u.1 u.2.1 u.2.2)) A) ([.ref (g 100), .int v0]).toArray s 0 0 A) (F0 m 0 ls []) := by
    intro n0
    induction n0 with
    | zero => intros; (first | omega | (have zz0 := Hid.u hi_cn; omega))
    | succ n0 ih0 =>
      intro  cz Fz H locs hmu0 hinv0 hP hD hS ls hl
      obtain ⟨hfr0, hI0, hx0_0, hx0_1, hx0_2, hx0_3⟩ := hinv0
      have hi_cz : Hid (CB cz) := hI0.b
      have : cz 19 = cn 19 := hfr0.1 19 (nml rfl)
      have : cz 20 = cn 20 := hfr0.1 20 (nml rfl)
      have : cz 25 = cn 25 := hfr0.1 25 (nml rfl)
      have hq_cz := Hid.i (frq_23_24_0_1_2_46_57_58_62_63_75_83_44 hfr0)
      have hf0 := hx0_0.f
      have hk0 := hx0_0.kt
      refine lv_aload_n hx hb (oc_42 0 shX12_closesSums_0) rfl (lvA0 hl) ?_
      refine vp_callSi (runV_ra (As := []) (rest := []) S (q_top l D cI cB cZ g cz In Fz  hI0 hx0_0.wk (by (first | omega | (have zz0 := Hid.u hi_cn; have zz1 := Hid.u hi_cz; have zz2 := Hid.u hq_cz; omega)))) kV_RX12_267 hK hP 0 rfl rfl rfl ⟨Nat.le_of_ble_eq_true rfl, Nat.le_of_ble_eq_true rfl⟩ ⟨Nat.le_of_ble_eq_true rfl, Nat.le_of_ble_eq_true rfl⟩ rfl hl.1 rfl (Nat.le_of_ble_eq_true rfl) (oc_182 1 (aq_1 shX12_closesSums_0) uw_1_11)) (fun r_1 h_2 => ?_)
      refine lv_iconst (v := 4) hx hb (oc_7 4 (aq_4 shX12_closesSums_0)) kic_4 ?_
      refine lv_icmp_lt (tgt := 17) hx hb (oc_161 5 (aq_5 shX12_closesSums_0) sgw_0_12) rfl (fun c_3 => ?_) (fun c_3 => ?_)
      ·
        have tc_3 : (r_1.toInt : Int) < 4 := Int32.lt_iff_toInt_lt.mp c_3
        refine lv_iload_n hx hb (oc_27 17 (aq_17 shX12_closesSums_0)) rfl (lvA1 hl) ?_
        refine lv_if_eq (tgt := 59) hx hb (oc_153 18 (aq_18 shX12_closesSums_0) sgw_0_41) rfl (fun c_4 => ?_) (fun c_4 => ?_)
        ·
          have tc_4 : (v0.toInt : Int) = 0 := congrArg Int32.toInt c_4
          exact W.vret hx hb hr (fun t ht hW => ⟨⟨(cz, In, Fz), rfl, ⟨(Fr.mo hfr0 (sbl rfl) (sbl rfl) (sbl rfl)), hI0, (by show (PSx (cz 19) (cz 20) (cz 23) (cz 24) (Fz 27) (Fz 28) a0 (G0 + 1) w0 s0) ∧ cz 24 ≤ cn 24 ∧ (∀ k : Nat, k < a0 → Fz 27 k = Fn 27 k) ∧ (∀ i : Nat, cz 24 ≤ i → i < cn 24 → kd (Fz 28 i) ≤ 6) ∧ (¬ (v0 : Int32) = 0 → cz 24 = w0 ∨ kd (Fz 28 (cz 24 - 1)) = 14); exact ⟨hx0_0, hx0_1, hx0_2, hx0_3, fun hz => by first | (first | omega | (have zz0 := Hid.u hi_cn; have zz1 := Hid.u hi_cz; have zz2 := Hid.u hq_cz; omega)) | exact absurd (by assumption) hz⟩)⟩, by rw [ht]; exact hP, hD⟩, hS.F ht⟩) hS.2.2 dX12_closesSums_59
        ·
          have tc_4 : (v0.toInt : Int) ≠ 0 := fun q => c_4 (Int32.toInt_inj.mp q)
          refine lv_aload_n hx hb (oc_42 21 (aq_21 shX12_closesSums_0)) rfl (lvA0 hl) ?_
          refine vp_callSi (runV_ra (As := []) (rest := []) S (q_top l D cI cB cZ g cz In Fz  hI0 hx0_0.wk (by (first | omega | (have zz0 := Hid.u hi_cn; have zz1 := Hid.u hi_cz; have zz2 := Hid.u hq_cz; omega)))) kV_RX12_267 hK hP 0 rfl rfl rfl ⟨Nat.le_of_ble_eq_true rfl, Nat.le_of_ble_eq_true rfl⟩ ⟨Nat.le_of_ble_eq_true rfl, Nat.le_of_ble_eq_true rfl⟩ rfl hl.1 rfl (Nat.le_of_ble_eq_true rfl) (oc_182 22 (aq_22 shX12_closesSums_0) uw_1_11)) (fun r_5 h_6 => ?_)
          refine lv_iconst (v := 2) hx hb (oc_5 25 shX12_closesSums_25) kic_2 ?_
          refine lv_icmp_eq (tgt := 37) hx hb (oc_159 26 (aq_1 shX12_closesSums_25) sgw_0_11) rfl (fun c_7 => ?_) (fun c_7 => ?_)
          ·
            have tc_7 : (r_5.toInt : Int) = 2 := congrArg Int32.toInt c_7
            refine lv_aload_n hx hb dX12_closesSums_37 rfl (lvA0 hl) ?_
            refine lv_aload_n hx hb dX12_closesSums_38 rfl (lvA0 hl) ?_
            refine vp_callSi (runV_ra (As := []) (rest := [.ref (g 100)]) S (q_top l D cI cB cZ g cz In Fz  hI0 hx0_0.wk (by (first | omega | (have zz0 := Hid.u hi_cn; have zz1 := Hid.u hi_cz; have zz2 := Hid.u hq_cz; omega)))) kV_RX12_267 hK hP 0 rfl rfl rfl ⟨Nat.le_of_ble_eq_true rfl, Nat.le_of_ble_eq_true rfl⟩ ⟨Nat.le_of_ble_eq_true rfl, Nat.le_of_ble_eq_true rfl⟩ rfl hl.1 rfl (Nat.le_of_ble_eq_true rfl) dX12_closesSums_39) (fun r_8 h_9 => ?_)
            obtain rfl : r_8 = nI (kd (Fz 28 (cz 24 - 1))) := nI_ofT (by (first | omega | (have zz0 := Hid.u hi_cn; have zz1 := Hid.u hi_cz; have zz2 := Hid.u hq_cz; omega))) (by (first | omega | (have zz0 := Hid.u hi_cn; have zz1 := Hid.u hi_cz; have zz2 := Hid.u hq_cz; omega)))
            refine lv_iconst (v := 0) hx hb dX12_closesSums_42 kic_0 ?_
            have hFc := free_all hD hS hA
            refine va_callv (runV_a (As := [.int (nI (kd (Fz 28 (cz 24 - 1)))), .int 0]) (rest := []) S (q_says l D cI cB cZ g cz In Fz (kd (Fz 28 (cz 24 - 1))) 0 H.size hI0 (by (first | omega | (have zz0 := Hid.u hi_cn; have zz1 := Hid.u hi_cz; have zz2 := Hid.u hq_cz; omega)))) kV_RX12_270 hK hP hD 0 rfl rfl rfl ⟨Nat.le_of_ble_eq_true rfl, Nat.le_of_ble_eq_true rfl⟩ ⟨Nat.le_of_ble_eq_true rfl, Nat.le_of_ble_eq_true rfl⟩ rfl hl.1 rfl (Nat.le_of_ble_eq_true rfl) dX12_closesSums_43) hS (fun q _ h => hFc q h) hFc (fun u t H1 locs ht hvm wh_11 hB hz1 hk1 hS => ?_)
            obtain ⟨cn11, In11, Fn11⟩ := u
            obtain ⟨hP1, hD1⟩ := hB
            rw [ht] at hP1
            have vh_11 : (fun c2 I2 F2 => (∀ k : Nat, k ∉ [] → I2 k = In k) ∧ (((True) ∧ (va_up cz 23 ((cz 23) + 1)) = c2 ∧ (va_up Fz 27 (upd ((Fz 27)) ((cz 23)) (nI ((kd (Fz 28 (cz 24 - 1))) * 1048576 + 0)))) = F2))) cn11 In11 Fn11 := wh_11
            obtain ⟨hI11_, vh_11⟩ := vh_11
            obtain ⟨h_11, rfl, rfl⟩ := vh_11
            obtain rfl : In = In11 := (funext (fun k => hI11_ k List.not_mem_nil)).symm
            have hP : va_P D vwCl (wM cI cB cZ g (va_up cz 23 ((cz 23) + 1)) In (va_up Fz 27 (upd ((Fz 27)) ((cz 23)) (nI ((kd (Fz 28 (cz 24 - 1))) * 1048576 + 0))))) H1 := hP1
            have hD : va_D A (wM cI cB cZ g (va_up cz 23 ((cz 23) + 1)) In (va_up Fz 27 (upd ((Fz 27)) ((cz 23)) (nI ((kd (Fz 28 (cz 24 - 1))) * 1048576 + 0))))) := hD1.weaken (fun _ _ _ h => hFc _ h)
            generalize H1 = H at hP hS ⊢
            refine lv_aload_n hx hb dX12_closesSums_46 rfl (lvA0 hl) ?_
            refine lv_aload_n hx hb dX12_closesSums_47 rfl (lvA0 hl) ?_
            refine gM_264 S hK hP (v := .int (nI (cz 24))) rfl dX12_closesSums_48 ?_
            refine lv_iconst (v := 1) hx hb dX12_closesSums_51 kic_1 ?_
            refine lv_isub hx hb dX12_closesSums_52 ?_
            refine lv_topi (fun y_12 ey_12 => ?_)
            obtain rfl : y_12 = (nI (cz 24 - 1)) := ey_12.trans (nI_sub (b := 1) (by (first | omega | (have zz0 := Hid.u hi_cn; have zz1 := Hid.u hi_cz; have zz2 := Hid.u hq_cz; omega))))
            refine pM_264 S hK hP hD hS (a := (cz 24 - 1)) (cn2 := (va_up (va_up cz 23 ((cz 23) + 1)) 24 (cz 24 - 1))) rfl rfl dX12_closesSums_53 (fun H locs hP hD hS => ?_)
            refine lv_goto (tgt := 0) hx hb dX12_closesSums_56 rfl ?_
            exact ih0  (va_up (va_up cz 23 ((cz 23) + 1)) 24 (cz 24 - 1)) (va_up Fz 27 (upd ((Fz 27)) ((cz 23)) (nI ((kd (Fz 28 (cz 24 - 1))) * 1048576 + 0)))) _ _ (show (cz 24 - 1) < n0 by (first | omega | (have zz0 := Hid.u hi_cn; have zz1 := Hid.u hi_cz; have zz2 := Hid.u hq_cz; omega))) ⟨(Fr.mo (Fr.f 27 (Fr.c 24 (Fr.c 23 hfr0))) (sbl rfl) (sbl rfl) (sbl rfl)), (IM.fr (In := In) hI0 (Fr.f 27 (Fr.c 24 (Fr.c 23 Fr.rf))) (by decide) (by decide)), (by have q := PSx.popop' hx0_0 (by (first | omega | (have zz0 := Hid.u hi_cn; have zz1 := Hid.u hi_cz; have zz2 := Hid.u hq_cz; omega))) (by (first | omega | (have zz0 := Hid.u hi_cn; have zz1 := Hid.u hi_cz; have zz2 := Hid.u hq_cz; omega))); exact q), (by show cz 24 - 1 ≤ cn 24; (first | omega | (have zz0 := Hid.u hi_cn; have zz1 := Hid.u hi_cz; have zz2 := Hid.u hq_cz; omega))), (fun k hk => (upd_lt (by (first | omega | (have zz0 := Hid.u hi_cn; have zz1 := Hid.u hi_cz; have zz2 := Hid.u hq_cz; omega)))).trans (hx0_2 k hk)), (fun i h1 h2 => by have h1 : cz 24 - 1 ≤ i := h1; show kd (Fz 28 i) ≤ 6; by_cases e : i = cz 24 - 1; (rw [e]; (first | omega | (have zz0 := Hid.u hi_cn; have zz1 := Hid.u hi_cz; have zz2 := Hid.u hq_cz; omega))); exact hx0_3 i (by (first | omega | (have zz0 := Hid.u hi_cn; have zz1 := Hid.u hi_cz; have zz2 := Hid.u hq_cz; omega))) h2)⟩ hP hD hS ls (lv_sub hl [0, 1] rfl)
          ·
            have tc_7 : (r_5.toInt : Int) ≠ 2 := fun q => c_7 (Int32.toInt_inj.mp q)
            refine lv_aload_n hx hb (oc_42 29 (aq_4 shX12_closesSums_25)) rfl (lvA0 hl) ?_
            refine vp_callSi (runV_ra (As := []) (rest := []) S (q_top l D cI cB cZ g cz In Fz  hI0 hx0_0.wk (by (first | omega | (have zz0 := Hid.u hi_cn; have zz1 := Hid.u hi_cz; have zz2 := Hid.u hq_cz; omega)))) kV_RX12_267 hK hP 0 rfl rfl rfl ⟨Nat.le_of_ble_eq_true rfl, Nat.le_of_ble_eq_true rfl⟩ ⟨Nat.le_of_ble_eq_true rfl, Nat.le_of_ble_eq_true rfl⟩ rfl hl.1 rfl (Nat.le_of_ble_eq_true rfl) (oc_182 30 (aq_5 shX12_closesSums_25) uw_1_11)) (fun r_13 h_14 => ?_)
            refine lv_iconst (v := 3) hx hb (oc_6 33 (aq_8 shX12_closesSums_25)) kic_3 ?_
            refine lv_icmp_ne (tgt := 59) hx hb (oc_160 34 (aq_9 shX12_closesSums_25) sgw_0_25) rfl (fun c_15 => ?_) (fun c_15 => ?_)
            ·
              have tc_15 : (r_13.toInt : Int) ≠ 3 := fun q => c_15 (Int32.toInt_inj.mp q)
              exact W.vret hx hb hr (fun t ht hW => ⟨⟨(cz, In, Fz), rfl, ⟨(Fr.mo hfr0 (sbl rfl) (sbl rfl) (sbl rfl)), hI0, (by show (PSx (cz 19) (cz 20) (cz 23) (cz 24) (Fz 27) (Fz 28) a0 (G0 + 1) w0 s0) ∧ cz 24 ≤ cn 24 ∧ (∀ k : Nat, k < a0 → Fz 27 k = Fn 27 k) ∧ (∀ i : Nat, cz 24 ≤ i → i < cn 24 → kd (Fz 28 i) ≤ 6) ∧ (¬ (v0 : Int32) = 0 → cz 24 = w0 ∨ kd (Fz 28 (cz 24 - 1)) = 14); exact ⟨hx0_0, hx0_1, hx0_2, hx0_3, fun hz => by first | (first | omega | (have zz0 := Hid.u hi_cn; have zz1 := Hid.u hi_cz; have zz2 := Hid.u hq_cz; omega)) | exact absurd (by assumption) hz⟩)⟩, by rw [ht]; exact hP, hD⟩, hS.F ht⟩) hS.2.2 dX12_closesSums_59
            ·
              have tc_15 : (r_13.toInt : Int) = 3 := congrArg Int32.toInt c_15
              refine lv_aload_n hx hb dX12_closesSums_37 rfl (lvA0 hl) ?_
              refine lv_aload_n hx hb dX12_closesSums_38 rfl (lvA0 hl) ?_
              refine vp_callSi (runV_ra (As := []) (rest := [.ref (g 100)]) S (q_top l D cI cB cZ g cz In Fz  hI0 hx0_0.wk (by (first | omega | (have zz0 := Hid.u hi_cn; have zz1 := Hid.u hi_cz; have zz2 := Hid.u hq_cz; omega)))) kV_RX12_267 hK hP 0 rfl rfl rfl ⟨Nat.le_of_ble_eq_true rfl, Nat.le_of_ble_eq_true rfl⟩ ⟨Nat.le_of_ble_eq_true rfl, Nat.le_of_ble_eq_true rfl⟩ rfl hl.1 rfl (Nat.le_of_ble_eq_true rfl) dX12_closesSums_39) (fun r_16 h_17 => ?_)
              obtain rfl : r_16 = nI (kd (Fz 28 (cz 24 - 1))) := nI_ofT (by (first | omega | (have zz0 := Hid.u hi_cn; have zz1 := Hid.u hi_cz; have zz2 := Hid.u hq_cz; omega))) (by (first | omega | (have zz0 := Hid.u hi_cn; have zz1 := Hid.u hi_cz; have zz2 := Hid.u hq_cz; omega)))
              refine lv_iconst (v := 0) hx hb dX12_closesSums_42 kic_0 ?_
              have hFc := free_all hD hS hA
              refine va_callv (runV_a (As := [.int (nI (kd (Fz 28 (cz 24 - 1)))), .int 0]) (rest := []) S (q_says l D cI cB cZ g cz In Fz (kd (Fz 28 (cz 24 - 1))) 0 H.size hI0 (by (first | omega | (have zz0 := Hid.u hi_cn; have zz1 := Hid.u hi_cz; have zz2 := Hid.u hq_cz; omega)))) kV_RX12_270 hK hP hD 0 rfl rfl rfl ⟨Nat.le_of_ble_eq_true rfl, Nat.le_of_ble_eq_true rfl⟩ ⟨Nat.le_of_ble_eq_true rfl, Nat.le_of_ble_eq_true rfl⟩ rfl hl.1 rfl (Nat.le_of_ble_eq_true rfl) dX12_closesSums_43) hS (fun q _ h => hFc q h) hFc (fun u t H1 locs ht hvm wh_19 hB hz1 hk1 hS => ?_)
              obtain ⟨cn19, In19, Fn19⟩ := u
              obtain ⟨hP1, hD1⟩ := hB
              rw [ht] at hP1
              have vh_19 : (fun c2 I2 F2 => (∀ k : Nat, k ∉ [] → I2 k = In k) ∧ (((True) ∧ (va_up cz 23 ((cz 23) + 1)) = c2 ∧ (va_up Fz 27 (upd ((Fz 27)) ((cz 23)) (nI ((kd (Fz 28 (cz 24 - 1))) * 1048576 + 0)))) = F2))) cn19 In19 Fn19 := wh_19
              obtain ⟨hI19_, vh_19⟩ := vh_19
              obtain ⟨h_19, rfl, rfl⟩ := vh_19
              obtain rfl : In = In19 := (funext (fun k => hI19_ k List.not_mem_nil)).symm
              have hP : va_P D vwCl (wM cI cB cZ g (va_up cz 23 ((cz 23) + 1)) In (va_up Fz 27 (upd ((Fz 27)) ((cz 23)) (nI ((kd (Fz 28 (cz 24 - 1))) * 1048576 + 0))))) H1 := hP1
              have hD : va_D A (wM cI cB cZ g (va_up cz 23 ((cz 23) + 1)) In (va_up Fz 27 (upd ((Fz 27)) ((cz 23)) (nI ((kd (Fz 28 (cz 24 - 1))) * 1048576 + 0))))) := hD1.weaken (fun _ _ _ h => hFc _ h)
              generalize H1 = H at hP hS ⊢
              refine lv_aload_n hx hb dX12_closesSums_46 rfl (lvA0 hl) ?_
              refine lv_aload_n hx hb dX12_closesSums_47 rfl (lvA0 hl) ?_
              refine gM_264 S hK hP (v := .int (nI (cz 24))) rfl dX12_closesSums_48 ?_
              refine lv_iconst (v := 1) hx hb dX12_closesSums_51 kic_1 ?_
              refine lv_isub hx hb dX12_closesSums_52 ?_
              refine lv_topi (fun y_20 ey_20 => ?_)
              obtain rfl : y_20 = (nI (cz 24 - 1)) := ey_20.trans (nI_sub (b := 1) (by (first | omega | (have zz0 := Hid.u hi_cn; have zz1 := Hid.u hi_cz; have zz2 := Hid.u hq_cz; omega))))
              refine pM_264 S hK hP hD hS (a := (cz 24 - 1)) (cn2 := (va_up (va_up cz 23 ((cz 23) + 1)) 24 (cz 24 - 1))) rfl rfl dX12_closesSums_53 (fun H locs hP hD hS => ?_)
              refine lv_goto (tgt := 0) hx hb dX12_closesSums_56 rfl ?_
              exact ih0  (va_up (va_up cz 23 ((cz 23) + 1)) 24 (cz 24 - 1)) (va_up Fz 27 (upd ((Fz 27)) ((cz 23)) (nI ((kd (Fz 28 (cz 24 - 1))) * 1048576 + 0)))) _ _ (show (cz 24 - 1) < n0 by (first | omega | (have zz0 := Hid.u hi_cn; have zz1 := Hid.u hi_cz; have zz2 := Hid.u hq_cz; omega))) ⟨(Fr.mo (Fr.f 27 (Fr.c 24 (Fr.c 23 hfr0))) (sbl rfl) (sbl rfl) (sbl rfl)), (IM.fr (In := In) hI0 (Fr.f 27 (Fr.c 24 (Fr.c 23 Fr.rf))) (by decide) (by decide)), (by have q := PSx.popop' hx0_0 (by (first | omega | (have zz0 := Hid.u hi_cn; have zz1 := Hid.u hi_cz; have zz2 := Hid.u hq_cz; omega))) (by (first | omega | (have zz0 := Hid.u hi_cn; have zz1 := Hid.u hi_cz; have zz2 := Hid.u hq_cz; omega))); exact q), (by show cz 24 - 1 ≤ cn 24; (first | omega | (have zz0 := Hid.u hi_cn; have zz1 := Hid.u hi_cz; have zz2 := Hid.u hq_cz; omega))), (fun k hk => (upd_lt (by (first | omega | (have zz0 := Hid.u hi_cn; have zz1 := Hid.u hi_cz; have zz2 := Hid.u hq_cz; omega)))).trans (hx0_2 k hk)), (fun i h1 h2 => by have h1 : cz 24 - 1 ≤ i := h1; show kd (Fz 28 i) ≤ 6; by_cases e : i = cz 24 - 1; (rw [e]; (first | omega | (have zz0 := Hid.u hi_cn; have zz1 := Hid.u hi_cz; have zz2 := Hid.u hq_cz; omega))); exact hx0_3 i (by (first | omega | (have zz0 := Hid.u hi_cn; have zz1 := Hid.u hi_cz; have zz2 := Hid.u hq_cz; omega))) h2)⟩ hP hD hS ls (lv_sub hl [0, 1] rfl)
      ·
        have tc_3 : (4 : Int) ≤ r_1.toInt := Int32.le_iff_toInt_le.mp (Int32.not_lt.mp c_3)
        refine lv_aload_n hx hb (oc_42 8 (aq_8 shX12_closesSums_0)) rfl (lvA0 hl) ?_
        refine vp_callSi (runV_ra (As := []) (rest := []) S (q_top l D cI cB cZ g cz In Fz  hI0 hx0_0.wk (by (first | omega | (have zz0 := Hid.u hi_cn; have zz1 := Hid.u hi_cz; have zz2 := Hid.u hq_cz; omega)))) kV_RX12_267 hK hP 0 rfl rfl rfl ⟨Nat.le_of_ble_eq_true rfl, Nat.le_of_ble_eq_true rfl⟩ ⟨Nat.le_of_ble_eq_true rfl, Nat.le_of_ble_eq_true rfl⟩ rfl hl.1 rfl (Nat.le_of_ble_eq_true rfl) (oc_182 9 (aq_9 shX12_closesSums_0) uw_1_11)) (fun r_21 h_22 => ?_)
        refine lv_bipush (v := 6) hx hb (oc_16 12 (aq_12 shX12_closesSums_0) sgb_6) kbc_6 ?_
        refine lv_icmp_le (tgt := 37) hx hb (oc_164 14 (aq_14 shX12_closesSums_0) sgw_0_23) rfl (fun c_23 => ?_) (fun c_23 => ?_)
        ·
          have tc_23 : (r_21.toInt : Int) ≤ 6 := Int32.le_iff_toInt_le.mp c_23
          refine lv_aload_n hx hb dX12_closesSums_37 rfl (lvA0 hl) ?_
          refine lv_aload_n hx hb dX12_closesSums_38 rfl (lvA0 hl) ?_
          refine vp_callSi (runV_ra (As := []) (rest := [.ref (g 100)]) S (q_top l D cI cB cZ g cz In Fz  hI0 hx0_0.wk (by (first | omega | (have zz0 := Hid.u hi_cn; have zz1 := Hid.u hi_cz; have zz2 := Hid.u hq_cz; omega)))) kV_RX12_267 hK hP 0 rfl rfl rfl ⟨Nat.le_of_ble_eq_true rfl, Nat.le_of_ble_eq_true rfl⟩ ⟨Nat.le_of_ble_eq_true rfl, Nat.le_of_ble_eq_true rfl⟩ rfl hl.1 rfl (Nat.le_of_ble_eq_true rfl) dX12_closesSums_39) (fun r_24 h_25 => ?_)
          obtain rfl : r_24 = nI (kd (Fz 28 (cz 24 - 1))) := nI_ofT (by (first | omega | (have zz0 := Hid.u hi_cn; have zz1 := Hid.u hi_cz; have zz2 := Hid.u hq_cz; omega))) (by (first | omega | (have zz0 := Hid.u hi_cn; have zz1 := Hid.u hi_cz; have zz2 := Hid.u hq_cz; omega)))
          refine lv_iconst (v := 0) hx hb dX12_closesSums_42 kic_0 ?_
          have hFc := free_all hD hS hA
          refine va_callv (runV_a (As := [.int (nI (kd (Fz 28 (cz 24 - 1)))), .int 0]) (rest := []) S (q_says l D cI cB cZ g cz In Fz (kd (Fz 28 (cz 24 - 1))) 0 H.size hI0 (by (first | omega | (have zz0 := Hid.u hi_cn; have zz1 := Hid.u hi_cz; have zz2 := Hid.u hq_cz; omega)))) kV_RX12_270 hK hP hD 0 rfl rfl rfl ⟨Nat.le_of_ble_eq_true rfl, Nat.le_of_ble_eq_true rfl⟩ ⟨Nat.le_of_ble_eq_true rfl, Nat.le_of_ble_eq_true rfl⟩ rfl hl.1 rfl (Nat.le_of_ble_eq_true rfl) dX12_closesSums_43) hS (fun q _ h => hFc q h) hFc (fun u t H1 locs ht hvm wh_27 hB hz1 hk1 hS => ?_)
          obtain ⟨cn27, In27, Fn27⟩ := u
          obtain ⟨hP1, hD1⟩ := hB
          rw [ht] at hP1
          have vh_27 : (fun c2 I2 F2 => (∀ k : Nat, k ∉ [] → I2 k = In k) ∧ (((True) ∧ (va_up cz 23 ((cz 23) + 1)) = c2 ∧ (va_up Fz 27 (upd ((Fz 27)) ((cz 23)) (nI ((kd (Fz 28 (cz 24 - 1))) * 1048576 + 0)))) = F2))) cn27 In27 Fn27 := wh_27
          obtain ⟨hI27_, vh_27⟩ := vh_27
          obtain ⟨h_27, rfl, rfl⟩ := vh_27
          obtain rfl : In = In27 := (funext (fun k => hI27_ k List.not_mem_nil)).symm
          have hP : va_P D vwCl (wM cI cB cZ g (va_up cz 23 ((cz 23) + 1)) In (va_up Fz 27 (upd ((Fz 27)) ((cz 23)) (nI ((kd (Fz 28 (cz 24 - 1))) * 1048576 + 0))))) H1 := hP1
          have hD : va_D A (wM cI cB cZ g (va_up cz 23 ((cz 23) + 1)) In (va_up Fz 27 (upd ((Fz 27)) ((cz 23)) (nI ((kd (Fz 28 (cz 24 - 1))) * 1048576 + 0))))) := hD1.weaken (fun _ _ _ h => hFc _ h)
          generalize H1 = H at hP hS ⊢
          refine lv_aload_n hx hb dX12_closesSums_46 rfl (lvA0 hl) ?_
          refine lv_aload_n hx hb dX12_closesSums_47 rfl (lvA0 hl) ?_
          refine gM_264 S hK hP (v := .int (nI (cz 24))) rfl dX12_closesSums_48 ?_
          refine lv_iconst (v := 1) hx hb dX12_closesSums_51 kic_1 ?_
          refine lv_isub hx hb dX12_closesSums_52 ?_
          refine lv_topi (fun y_28 ey_28 => ?_)
          obtain rfl : y_28 = (nI (cz 24 - 1)) := ey_28.trans (nI_sub (b := 1) (by (first | omega | (have zz0 := Hid.u hi_cn; have zz1 := Hid.u hi_cz; have zz2 := Hid.u hq_cz; omega))))
          refine pM_264 S hK hP hD hS (a := (cz 24 - 1)) (cn2 := (va_up (va_up cz 23 ((cz 23) + 1)) 24 (cz 24 - 1))) rfl rfl dX12_closesSums_53 (fun H locs hP hD hS => ?_)
          refine lv_goto (tgt := 0) hx hb dX12_closesSums_56 rfl ?_
          exact ih0  (va_up (va_up cz 23 ((cz 23) + 1)) 24 (cz 24 - 1)) (va_up Fz 27 (upd ((Fz 27)) ((cz 23)) (nI ((kd (Fz 28 (cz 24 - 1))) * 1048576 + 0)))) _ _ (show (cz 24 - 1) < n0 by (first | omega | (have zz0 := Hid.u hi_cn; have zz1 := Hid.u hi_cz; have zz2 := Hid.u hq_cz; omega))) ⟨(Fr.mo (Fr.f 27 (Fr.c 24 (Fr.c 23 hfr0))) (sbl rfl) (sbl rfl) (sbl rfl)), (IM.fr (In := In) hI0 (Fr.f 27 (Fr.c 24 (Fr.c 23 Fr.rf))) (by decide) (by decide)), (by have q := PSx.popop' hx0_0 (by (first | omega | (have zz0 := Hid.u hi_cn; have zz1 := Hid.u hi_cz; have zz2 := Hid.u hq_cz; omega))) (by (first | omega | (have zz0 := Hid.u hi_cn; have zz1 := Hid.u hi_cz; have zz2 := Hid.u hq_cz; omega))); exact q), (by show cz 24 - 1 ≤ cn 24; (first | omega | (have zz0 := Hid.u hi_cn; have zz1 := Hid.u hi_cz; have zz2 := Hid.u hq_cz; omega))), (fun k hk => (upd_lt (by (first | omega | (have zz0 := Hid.u hi_cn; have zz1 := Hid.u hi_cz; have zz2 := Hid.u hq_cz; omega)))).trans (hx0_2 k hk)), (fun i h1 h2 => by have h1 : cz 24 - 1 ≤ i := h1; show kd (Fz 28 i) ≤ 6; by_cases e : i = cz 24 - 1; (rw [e]; (first | omega | (have zz0 := Hid.u hi_cn; have zz1 := Hid.u hi_cz; have zz2 := Hid.u hq_cz; omega))); exact hx0_3 i (by (first | omega | (have zz0 := Hid.u hi_cn; have zz1 := Hid.u hi_cz; have zz2 := Hid.u hq_cz; omega))) h2)⟩ hP hD hS ls (lv_sub hl [0, 1] rfl)
        ·
          have tc_23 : (6 : Int) < r_21.toInt := Int32.lt_iff_toInt_lt.mp (Int32.not_le.mp c_23)
          refine lv_iload_n hx hb (oc_27 17 (aq_17 shX12_closesSums_0)) rfl (lvA1 hl) ?_
          refine lv_if_eq (tgt := 59) hx hb (oc_153 18 (aq_18 shX12_closesSums_0) sgw_0_41) rfl (fun c_29 => ?_) (fun c_29 => ?_)
          ·
            have tc_29 : (v0.toInt : Int) = 0 := congrArg Int32.toInt c_29
            exact W.vret hx hb hr (fun t ht hW => ⟨⟨(cz, In, Fz), rfl, ⟨(Fr.mo hfr0 (sbl rfl) (sbl rfl) (sbl rfl)), hI0, (by show (PSx (cz 19) (cz 20) (cz 23) (cz 24) (Fz 27) (Fz 28) a0 (G0 + 1) w0 s0) ∧ cz 24 ≤ cn 24 ∧ (∀ k : Nat, k < a0 → Fz 27 k = Fn 27 k) ∧ (∀ i : Nat, cz 24 ≤ i → i < cn 24 → kd (Fz 28 i) ≤ 6) ∧ (¬ (v0 : Int32) = 0 → cz 24 = w0 ∨ kd (Fz 28 (cz 24 - 1)) = 14); exact ⟨hx0_0, hx0_1, hx0_2, hx0_3, fun hz => by first | (first | omega | (have zz0 := Hid.u hi_cn; have zz1 := Hid.u hi_cz; have zz2 := Hid.u hq_cz; omega)) | exact absurd (by assumption) hz⟩)⟩, by rw [ht]; exact hP, hD⟩, hS.F ht⟩) hS.2.2 dX12_closesSums_59
          ·
            have tc_29 : (v0.toInt : Int) ≠ 0 := fun q => c_29 (Int32.toInt_inj.mp q)
            refine lv_aload_n hx hb (oc_42 21 (aq_21 shX12_closesSums_0)) rfl (lvA0 hl) ?_
            refine vp_callSi (runV_ra (As := []) (rest := []) S (q_top l D cI cB cZ g cz In Fz  hI0 hx0_0.wk (by (first | omega | (have zz0 := Hid.u hi_cn; have zz1 := Hid.u hi_cz; have zz2 := Hid.u hq_cz; omega)))) kV_RX12_267 hK hP 0 rfl rfl rfl ⟨Nat.le_of_ble_eq_true rfl, Nat.le_of_ble_eq_true rfl⟩ ⟨Nat.le_of_ble_eq_true rfl, Nat.le_of_ble_eq_true rfl⟩ rfl hl.1 rfl (Nat.le_of_ble_eq_true rfl) (oc_182 22 (aq_22 shX12_closesSums_0) uw_1_11)) (fun r_30 h_31 => ?_)
            refine lv_iconst (v := 2) hx hb (oc_5 25 shX12_closesSums_25) kic_2 ?_
            refine lv_icmp_eq (tgt := 37) hx hb (oc_159 26 (aq_1 shX12_closesSums_25) sgw_0_11) rfl (fun c_32 => ?_) (fun c_32 => ?_)
            ·
              have tc_32 : (r_30.toInt : Int) = 2 := congrArg Int32.toInt c_32
              refine lv_aload_n hx hb dX12_closesSums_37 rfl (lvA0 hl) ?_
              refine lv_aload_n hx hb dX12_closesSums_38 rfl (lvA0 hl) ?_
              refine vp_callSi (runV_ra (As := []) (rest := [.ref (g 100)]) S (q_top l D cI cB cZ g cz In Fz  hI0 hx0_0.wk (by (first | omega | (have zz0 := Hid.u hi_cn; have zz1 := Hid.u hi_cz; have zz2 := Hid.u hq_cz; omega)))) kV_RX12_267 hK hP 0 rfl rfl rfl ⟨Nat.le_of_ble_eq_true rfl, Nat.le_of_ble_eq_true rfl⟩ ⟨Nat.le_of_ble_eq_true rfl, Nat.le_of_ble_eq_true rfl⟩ rfl hl.1 rfl (Nat.le_of_ble_eq_true rfl) dX12_closesSums_39) (fun r_33 h_34 => ?_)
              obtain rfl : r_33 = nI (kd (Fz 28 (cz 24 - 1))) := nI_ofT (by (first | omega | (have zz0 := Hid.u hi_cn; have zz1 := Hid.u hi_cz; have zz2 := Hid.u hq_cz; omega))) (by (first | omega | (have zz0 := Hid.u hi_cn; have zz1 := Hid.u hi_cz; have zz2 := Hid.u hq_cz; omega)))
              refine lv_iconst (v := 0) hx hb dX12_closesSums_42 kic_0 ?_
              have hFc := free_all hD hS hA
              refine va_callv (runV_a (As := [.int (nI (kd (Fz 28 (cz 24 - 1)))), .int 0]) (rest := []) S (q_says l D cI cB cZ g cz In Fz (kd (Fz 28 (cz 24 - 1))) 0 H.size hI0 (by (first | omega | (have zz0 := Hid.u hi_cn; have zz1 := Hid.u hi_cz; have zz2 := Hid.u hq_cz; omega)))) kV_RX12_270 hK hP hD 0 rfl rfl rfl ⟨Nat.le_of_ble_eq_true rfl, Nat.le_of_ble_eq_true rfl⟩ ⟨Nat.le_of_ble_eq_true rfl, Nat.le_of_ble_eq_true rfl⟩ rfl hl.1 rfl (Nat.le_of_ble_eq_true rfl) dX12_closesSums_43) hS (fun q _ h => hFc q h) hFc (fun u t H1 locs ht hvm wh_36 hB hz1 hk1 hS => ?_)
              obtain ⟨cn36, In36, Fn36⟩ := u
              obtain ⟨hP1, hD1⟩ := hB
              rw [ht] at hP1
              have vh_36 : (fun c2 I2 F2 => (∀ k : Nat, k ∉ [] → I2 k = In k) ∧ (((True) ∧ (va_up cz 23 ((cz 23) + 1)) = c2 ∧ (va_up Fz 27 (upd ((Fz 27)) ((cz 23)) (nI ((kd (Fz 28 (cz 24 - 1))) * 1048576 + 0)))) = F2))) cn36 In36 Fn36 := wh_36
              obtain ⟨hI36_, vh_36⟩ := vh_36
              obtain ⟨h_36, rfl, rfl⟩ := vh_36
              obtain rfl : In = In36 := (funext (fun k => hI36_ k List.not_mem_nil)).symm
              have hP : va_P D vwCl (wM cI cB cZ g (va_up cz 23 ((cz 23) + 1)) In (va_up Fz 27 (upd ((Fz 27)) ((cz 23)) (nI ((kd (Fz 28 (cz 24 - 1))) * 1048576 + 0))))) H1 := hP1
              have hD : va_D A (wM cI cB cZ g (va_up cz 23 ((cz 23) + 1)) In (va_up Fz 27 (upd ((Fz 27)) ((cz 23)) (nI ((kd (Fz 28 (cz 24 - 1))) * 1048576 + 0))))) := hD1.weaken (fun _ _ _ h => hFc _ h)
              generalize H1 = H at hP hS ⊢
              refine lv_aload_n hx hb dX12_closesSums_46 rfl (lvA0 hl) ?_
              refine lv_aload_n hx hb dX12_closesSums_47 rfl (lvA0 hl) ?_
              refine gM_264 S hK hP (v := .int (nI (cz 24))) rfl dX12_closesSums_48 ?_
              refine lv_iconst (v := 1) hx hb dX12_closesSums_51 kic_1 ?_
              refine lv_isub hx hb dX12_closesSums_52 ?_
              refine lv_topi (fun y_37 ey_37 => ?_)
              obtain rfl : y_37 = (nI (cz 24 - 1)) := ey_37.trans (nI_sub (b := 1) (by (first | omega | (have zz0 := Hid.u hi_cn; have zz1 := Hid.u hi_cz; have zz2 := Hid.u hq_cz; omega))))
              refine pM_264 S hK hP hD hS (a := (cz 24 - 1)) (cn2 := (va_up (va_up cz 23 ((cz 23) + 1)) 24 (cz 24 - 1))) rfl rfl dX12_closesSums_53 (fun H locs hP hD hS => ?_)
              refine lv_goto (tgt := 0) hx hb dX12_closesSums_56 rfl ?_
              exact ih0  (va_up (va_up cz 23 ((cz 23) + 1)) 24 (cz 24 - 1)) (va_up Fz 27 (upd ((Fz 27)) ((cz 23)) (nI ((kd (Fz 28 (cz 24 - 1))) * 1048576 + 0)))) _ _ (show (cz 24 - 1) < n0 by (first | omega | (have zz0 := Hid.u hi_cn; have zz1 := Hid.u hi_cz; have zz2 := Hid.u hq_cz; omega))) ⟨(Fr.mo (Fr.f 27 (Fr.c 24 (Fr.c 23 hfr0))) (sbl rfl) (sbl rfl) (sbl rfl)), (IM.fr (In := In) hI0 (Fr.f 27 (Fr.c 24 (Fr.c 23 Fr.rf))) (by decide) (by decide)), (by have q := PSx.popop' hx0_0 (by (first | omega | (have zz0 := Hid.u hi_cn; have zz1 := Hid.u hi_cz; have zz2 := Hid.u hq_cz; omega))) (by (first | omega | (have zz0 := Hid.u hi_cn; have zz1 := Hid.u hi_cz; have zz2 := Hid.u hq_cz; omega))); exact q), (by show cz 24 - 1 ≤ cn 24; (first | omega | (have zz0 := Hid.u hi_cn; have zz1 := Hid.u hi_cz; have zz2 := Hid.u hq_cz; omega))), (fun k hk => (upd_lt (by (first | omega | (have zz0 := Hid.u hi_cn; have zz1 := Hid.u hi_cz; have zz2 := Hid.u hq_cz; omega)))).trans (hx0_2 k hk)), (fun i h1 h2 => by have h1 : cz 24 - 1 ≤ i := h1; show kd (Fz 28 i) ≤ 6; by_cases e : i = cz 24 - 1; (rw [e]; (first | omega | (have zz0 := Hid.u hi_cn; have zz1 := Hid.u hi_cz; have zz2 := Hid.u hq_cz; omega))); exact hx0_3 i (by (first | omega | (have zz0 := Hid.u hi_cn; have zz1 := Hid.u hi_cz; have zz2 := Hid.u hq_cz; omega))) h2)⟩ hP hD hS ls (lv_sub hl [0, 1] rfl)
            ·
              have tc_32 : (r_30.toInt : Int) ≠ 2 := fun q => c_32 (Int32.toInt_inj.mp q)
              refine lv_aload_n hx hb (oc_42 29 (aq_4 shX12_closesSums_25)) rfl (lvA0 hl) ?_
              refine vp_callSi (runV_ra (As := []) (rest := []) S (q_top l D cI cB cZ g cz In Fz  hI0 hx0_0.wk (by (first | omega | (have zz0 := Hid.u hi_cn; have zz1 := Hid.u hi_cz; have zz2 := Hid.u hq_cz; omega)))) kV_RX12_267 hK hP 0 rfl rfl rfl ⟨Nat.le_of_ble_eq_true rfl, Nat.le_of_ble_eq_true rfl⟩ ⟨Nat.le_of_ble_eq_true rfl, Nat.le_of_ble_eq_true rfl⟩ rfl hl.1 rfl (Nat.le_of_ble_eq_true rfl) (oc_182 30 (aq_5 shX12_closesSums_25) uw_1_11)) (fun r_38 h_39 => ?_)
              refine lv_iconst (v := 3) hx hb (oc_6 33 (aq_8 shX12_closesSums_25)) kic_3 ?_
              refine lv_icmp_ne (tgt := 59) hx hb (oc_160 34 (aq_9 shX12_closesSums_25) sgw_0_25) rfl (fun c_40 => ?_) (fun c_40 => ?_)
              ·
                have tc_40 : (r_38.toInt : Int) ≠ 3 := fun q => c_40 (Int32.toInt_inj.mp q)
                exact W.vret hx hb hr (fun t ht hW => ⟨⟨(cz, In, Fz), rfl, ⟨(Fr.mo hfr0 (sbl rfl) (sbl rfl) (sbl rfl)), hI0, (by show (PSx (cz 19) (cz 20) (cz 23) (cz 24) (Fz 27) (Fz 28) a0 (G0 + 1) w0 s0) ∧ cz 24 ≤ cn 24 ∧ (∀ k : Nat, k < a0 → Fz 27 k = Fn 27 k) ∧ (∀ i : Nat, cz 24 ≤ i → i < cn 24 → kd (Fz 28 i) ≤ 6) ∧ (¬ (v0 : Int32) = 0 → cz 24 = w0 ∨ kd (Fz 28 (cz 24 - 1)) = 14); exact ⟨hx0_0, hx0_1, hx0_2, hx0_3, fun hz => by first | (first | omega | (have zz0 := Hid.u hi_cn; have zz1 := Hid.u hi_cz; have zz2 := Hid.u hq_cz; omega)) | exact absurd (by assumption) hz⟩)⟩, by rw [ht]; exact hP, hD⟩, hS.F ht⟩) hS.2.2 dX12_closesSums_59
              ·
                have tc_40 : (r_38.toInt : Int) = 3 := congrArg Int32.toInt c_40
                refine lv_aload_n hx hb dX12_closesSums_37 rfl (lvA0 hl) ?_
                refine lv_aload_n hx hb dX12_closesSums_38 rfl (lvA0 hl) ?_
                refine vp_callSi (runV_ra (As := []) (rest := [.ref (g 100)]) S (q_top l D cI cB cZ g cz In Fz  hI0 hx0_0.wk (by (first | omega | (have zz0 := Hid.u hi_cn; have zz1 := Hid.u hi_cz; have zz2 := Hid.u hq_cz; omega)))) kV_RX12_267 hK hP 0 rfl rfl rfl ⟨Nat.le_of_ble_eq_true rfl, Nat.le_of_ble_eq_true rfl⟩ ⟨Nat.le_of_ble_eq_true rfl, Nat.le_of_ble_eq_true rfl⟩ rfl hl.1 rfl (Nat.le_of_ble_eq_true rfl) dX12_closesSums_39) (fun r_41 h_42 => ?_)
                obtain rfl : r_41 = nI (kd (Fz 28 (cz 24 - 1))) := nI_ofT (by (first | omega | (have zz0 := Hid.u hi_cn; have zz1 := Hid.u hi_cz; have zz2 := Hid.u hq_cz; omega))) (by (first | omega | (have zz0 := Hid.u hi_cn; have zz1 := Hid.u hi_cz; have zz2 := Hid.u hq_cz; omega)))
                refine lv_iconst (v := 0) hx hb dX12_closesSums_42 kic_0 ?_
                have hFc := free_all hD hS hA
                refine va_callv (runV_a (As := [.int (nI (kd (Fz 28 (cz 24 - 1)))), .int 0]) (rest := []) S (q_says l D cI cB cZ g cz In Fz (kd (Fz 28 (cz 24 - 1))) 0 H.size hI0 (by (first | omega | (have zz0 := Hid.u hi_cn; have zz1 := Hid.u hi_cz; have zz2 := Hid.u hq_cz; omega)))) kV_RX12_270 hK hP hD 0 rfl rfl rfl ⟨Nat.le_of_ble_eq_true rfl, Nat.le_of_ble_eq_true rfl⟩ ⟨Nat.le_of_ble_eq_true rfl, Nat.le_of_ble_eq_true rfl⟩ rfl hl.1 rfl (Nat.le_of_ble_eq_true rfl) dX12_closesSums_43) hS (fun q _ h => hFc q h) hFc (fun u t H1 locs ht hvm wh_44 hB hz1 hk1 hS => ?_)
                obtain ⟨cn44, In44, Fn44⟩ := u
                obtain ⟨hP1, hD1⟩ := hB
                rw [ht] at hP1
                have vh_44 : (fun c2 I2 F2 => (∀ k : Nat, k ∉ [] → I2 k = In k) ∧ (((True) ∧ (va_up cz 23 ((cz 23) + 1)) = c2 ∧ (va_up Fz 27 (upd ((Fz 27)) ((cz 23)) (nI ((kd (Fz 28 (cz 24 - 1))) * 1048576 + 0)))) = F2))) cn44 In44 Fn44 := wh_44
                obtain ⟨hI44_, vh_44⟩ := vh_44
                obtain ⟨h_44, rfl, rfl⟩ := vh_44
                obtain rfl : In = In44 := (funext (fun k => hI44_ k List.not_mem_nil)).symm
                have hP : va_P D vwCl (wM cI cB cZ g (va_up cz 23 ((cz 23) + 1)) In (va_up Fz 27 (upd ((Fz 27)) ((cz 23)) (nI ((kd (Fz 28 (cz 24 - 1))) * 1048576 + 0))))) H1 := hP1
                have hD : va_D A (wM cI cB cZ g (va_up cz 23 ((cz 23) + 1)) In (va_up Fz 27 (upd ((Fz 27)) ((cz 23)) (nI ((kd (Fz 28 (cz 24 - 1))) * 1048576 + 0))))) := hD1.weaken (fun _ _ _ h => hFc _ h)
                generalize H1 = H at hP hS ⊢
                refine lv_aload_n hx hb dX12_closesSums_46 rfl (lvA0 hl) ?_
                refine lv_aload_n hx hb dX12_closesSums_47 rfl (lvA0 hl) ?_
                refine gM_264 S hK hP (v := .int (nI (cz 24))) rfl dX12_closesSums_48 ?_
                refine lv_iconst (v := 1) hx hb dX12_closesSums_51 kic_1 ?_
                refine lv_isub hx hb dX12_closesSums_52 ?_
                refine lv_topi (fun y_45 ey_45 => ?_)
                obtain rfl : y_45 = (nI (cz 24 - 1)) := ey_45.trans (nI_sub (b := 1) (by (first | omega | (have zz0 := Hid.u hi_cn; have zz1 := Hid.u hi_cz; have zz2 := Hid.u hq_cz; omega))))
                refine pM_264 S hK hP hD hS (a := (cz 24 - 1)) (cn2 := (va_up (va_up cz 23 ((cz 23) + 1)) 24 (cz 24 - 1))) rfl rfl dX12_closesSums_53 (fun H locs hP hD hS => ?_)
                refine lv_goto (tgt := 0) hx hb dX12_closesSums_56 rfl ?_
                exact ih0  (va_up (va_up cz 23 ((cz 23) + 1)) 24 (cz 24 - 1)) (va_up Fz 27 (upd ((Fz 27)) ((cz 23)) (nI ((kd (Fz 28 (cz 24 - 1))) * 1048576 + 0)))) _ _ (show (cz 24 - 1) < n0 by (first | omega | (have zz0 := Hid.u hi_cn; have zz1 := Hid.u hi_cz; have zz2 := Hid.u hq_cz; omega))) ⟨(Fr.mo (Fr.f 27 (Fr.c 24 (Fr.c 23 hfr0))) (sbl rfl) (sbl rfl) (sbl rfl)), (IM.fr (In := In) hI0 (Fr.f 27 (Fr.c 24 (Fr.c 23 Fr.rf))) (by decide) (by decide)), (by have q := PSx.popop' hx0_0 (by (first | omega | (have zz0 := Hid.u hi_cn; have zz1 := Hid.u hi_cz; have zz2 := Hid.u hq_cz; omega))) (by (first | omega | (have zz0 := Hid.u hi_cn; have zz1 := Hid.u hi_cz; have zz2 := Hid.u hq_cz; omega))); exact q), (by show cz 24 - 1 ≤ cn 24; (first | omega | (have zz0 := Hid.u hi_cn; have zz1 := Hid.u hi_cz; have zz2 := Hid.u hq_cz; omega))), (fun k hk => (upd_lt (by (first | omega | (have zz0 := Hid.u hi_cn; have zz1 := Hid.u hi_cz; have zz2 := Hid.u hq_cz; omega)))).trans (hx0_2 k hk)), (fun i h1 h2 => by have h1 : cz 24 - 1 ≤ i := h1; show kd (Fz 28 i) ≤ 6; by_cases e : i = cz 24 - 1; (rw [e]; (first | omega | (have zz0 := Hid.u hi_cn; have zz1 := Hid.u hi_cz; have zz2 := Hid.u hq_cz; omega))); exact hx0_3 i (by (first | omega | (have zz0 := Hid.u hi_cn; have zz1 := Hid.u hi_cz; have zz2 := Hid.u hq_cz; omega))) h2)⟩ hP hD hS ls (lv_sub hl [0, 1] rfl)
  exact lp_0 _  cn Fn _ _ (Nat.lt_succ_self _) ⟨(Fr.mo Fr.rf (sbl rfl) (sbl rfl) (sbl rfl)), hI, hPS, (Nat.le_refl _), (fun k hk => rfl), (fun i h1 h2 => absurd (Nat.lt_of_lt_of_le h2 h1) (Nat.lt_irrefl _))⟩ hP hD hS ls (lv_sub hl [0, 1] rfl)
set_option maxRecDepth 100000 in
set_option maxHeartbeats 4000000 in
theorem q_readsFactor (l : Launch) (D : va_G) (cI cB cZ : ClassId) (g : Nat → Nat) (cn : Nat → Nat) (In : Nat → Int32) (Fn : Nat → Nat → Int32) (a0 G0 w0 s0 : Nat) (sz : Nat) (hI : IM cn Fn) (hPS : PSx (cn 19) (cn 20) (cn 23) (cn 24) (Fn 27) (Fn 28) a0 G0 w0 s0) : Met l yX12_readsFactor (CWS yX12_readsFactor cX12_readsFactor 2 (some .boolean)) (RM 3 0 0) (PBw [.ref (g 100)] D cI cB cZ (wM cI cB cZ g cn In Fn) sz) (va_Qi (fun (r : Int32) (u : (Nat → Nat) × (Nat → Int32) × (Nat → Nat → Int32)) => (fun r c2 I2 F2 => Fr [19, 23, 24, 26] [21, 22] [27, 28] cn In Fn c2 I2 F2 ∧ IM c2 F2 ∧ (r = 0 ∨ (r = 1 ∧ PSx (c2 19) (c2 20) (c2 23) (c2 24) (F2 27) (F2 28) a0 (G0 + 1) w0 s0 ∧ (∀ k : Nat, k < a0 → F2 27 k = Fn 27 k) ∧ (∀ i : Nat, i < w0 → F2 28 i = Fn 28 i) ∧ cn 19 < c2 19))) r u.1 u.2.1 u.2.2) (fun (u : (Nat → Nat) × (Nat → Int32) × (Nat → Nat → Int32)) (t : State) => va_P D vwCl (wM cI cB cZ g u.1 u.2.1 u.2.2) t.heap ∧ va_D (va_A (wM cI cB cZ g cn In Fn) sz) (wM cI cB cZ g u.1 u.2.1 u.2.2)) (va_A (wM cI cB cZ g cn In Fn) sz)) 0 0 (va_A (wM cI cB cZ g cn In Fn) sz) := by
  refine en_w (fun A => (va_Qi (fun (r : Int32) (u : (Nat → Nat) × (Nat → Int32) × (Nat → Nat → Int32)) => (fun (r : Int32) (c2 : Nat → Nat) (I2 : Nat → Int32) (F2 : Nat → Nat → Int32) => Fr [19, 23, 24, 26] [21, 22] [27, 28] cn In Fn c2 I2 F2 ∧ IM c2 F2 ∧ (r = 0 ∨ (r = 1 ∧ PSx (c2 19) (c2 20) (c2 23) (c2 24) (F2 27) (F2 28) a0 (G0 + 1) w0 s0 ∧ (∀ k : Nat, k < a0 → F2 27 k = Fn 27 k) ∧ (∀ i : Nat, i < w0 → F2 28 i = Fn 28 i) ∧ cn 19 < c2 19))) r u.1 u.2.1 u.2.2) (fun (u : (Nat → Nat) × (Nat → Int32) × (Nat → Nat → Int32)) (t : State) => va_P D vwCl (wM cI cB cZ g u.1 u.2.1 u.2.2) t.heap ∧ va_D A (wM cI cB cZ g u.1 u.2.1 u.2.2)) A)) rfl rfl pn_RX12 (Nat.le_of_ble_eq_true rfl) (fun p e s m below meth c A hx hb hml hown S hr hlocks hnm hA hP hK hD hS ls hl => ?_)
  have hl : lv_has ls 2 [(0, .ref (g 100))] := hl
  have hi_cn : Hid (CB cn) := hI.b
  have lp_0 : ∀ (n : Nat)  (cz : Nat → Nat) (Iz : Nat → Int32) (Fz : Nat → Nat → Int32) (H : Heap) (locs : List Loc) , cn 20 - cz 19 < n → (Fr [19, 23, 24, 26] [21, 22] [27, 28] cn In Fn cz Iz Fz ∧ IM cz Fz ∧ (PSx (cz 19) (cz 20) (cz 23) (cz 24) (Fz 27) (Fz 28) a0 G0 w0 s0) ∧ (∀ k : Nat, k < a0 → Fz 27 k = Fn 27 k) ∧ (∀ i : Nat, i < w0 → Fz 28 i = Fn 28 i) ∧ (cn 19 ≤ cz 19)) → va_P D vwCl (wM cI cB cZ g cz Iz Fz) H → va_D A (wM cI cB cZ g cz Iz Fz) → va_S A s.heap H locs → ∀ ls : Array Slot, lv_has ls 2 [(0, .ref (g 100))] → W p l e (RM 3 0 0) s m ([.ref (g 100)]).toArray below meth c H locs 0 0 (MQ below (va_Qi (fun (r : Int32) (u : (Nat → Nat) × (Nat → Int32) × (Nat → Nat → Int32)) => (fun r c2 I2 F2 => Fr [19, 23, 24, 26] [21, 22] [27, 28] cn In Fn c2 I2 F2 ∧ IM c2 F2 ∧ (r = 0 ∨ (r = 1 ∧ PSx (c2 19) (c2 20) (c2 23) (c2 24) (F2 27) (F2 28) a0 (G0 + 1) w0 s0 ∧ (∀ k : Nat, k < a0 → F2 27 k = Fn 27 k) ∧ (∀ i : Nat, i < w0 → F2 28 i = Fn 28 i) ∧ cn 19 < c2 19))) r u.1 u.2.1 u.2.2) (fun (u : (Nat → Nat) × (Nat → Int32) × (Nat → Nat → Int32)) (t : State) => va_P D vwCl (wM cI cB cZ g u.1 u.2.1 u.2.2) t.heap ∧ va_D A (wM cI cB cZ g u.1 u.2.1 u.2.2)) A) ([.ref (g 100)]).toArray s 0 0 A) (F0 m 0 ls []) := by
    intro n0
    induction n0 with
    | zero => intros; (first | omega | (have zz0 := Hid.u hi_cn; omega))
    | succ n0 ih0 =>
      intro  cz Iz Fz H locs hmu0 hinv0 hP hD hS ls hl
      obtain ⟨hfr0, hI0, hx0_0, hx0_1, hx0_2, hx0_3⟩ := hinv0
      have hi_cz : Hid (CB cz) := hI0.b
      have : cz 20 = cn 20 := hfr0.1 20 (nml rfl)
      have : cz 25 = cn 25 := hfr0.1 25 (nml rfl)
      have hq_cz := Hid.i (frq_19_23_24_26_0_1_2_46_57_58_62_63_75_83_44 hfr0)
      have hf0 := hx0_0.f
      refine lv_aload_n hx hb (oc_42 0 shX12_readsFactor_0) rfl (lvA0 hl) ?_
      refine vp_callSi (runV_ra (As := []) (rest := []) S (q_here l D cI cB cZ g cz Iz Fz  hI0 (by (first | omega | (have zz0 := Hid.u hi_cn; have zz1 := Hid.u hi_cz; have zz2 := Hid.u hq_cz; omega))) (by (first | omega | (have zz0 := Hid.u hi_cn; have zz1 := Hid.u hi_cz; have zz2 := Hid.u hq_cz; omega)))) kV_RX12_239 hK hP 0 rfl rfl rfl ⟨Nat.le_of_ble_eq_true rfl, Nat.le_of_ble_eq_true rfl⟩ ⟨Nat.le_of_ble_eq_true rfl, Nat.le_of_ble_eq_true rfl⟩ rfl hl.1 rfl (Nat.le_of_ble_eq_true rfl) (oc_182 1 (aq_1 shX12_readsFactor_0) uw_0_239)) (fun r_1 h_2 => ?_)
      refine lv_bipush (v := 91) hx hb (oc_16 4 (aq_4 shX12_readsFactor_0) sgb_91) kbc_91 ?_
      refine lv_icmp_ne (tgt := 20) hx hb (oc_160 6 (aq_6 shX12_readsFactor_0) sgw_0_14) rfl (fun c_3 => ?_) (fun c_3 => ?_)
      ·
        have tc_3 : (r_1.toInt : Int) ≠ 91 := fun q => c_3 (Int32.toInt_inj.mp q)
        refine lv_aload_n hx hb (oc_42 20 (aq_20 shX12_readsFactor_0)) rfl (lvA0 hl) ?_
        refine vp_callSi (runV_ra (As := []) (rest := []) S (q_isDigit l D cI cB cZ g cz Iz Fz  hI0 (by (first | omega | (have zz0 := Hid.u hi_cn; have zz1 := Hid.u hi_cz; have zz2 := Hid.u hq_cz; omega))) (by (first | omega | (have zz0 := Hid.u hi_cn; have zz1 := Hid.u hi_cz; have zz2 := Hid.u hq_cz; omega)))) kV_RX12_253 hK hP 0 rfl rfl rfl ⟨Nat.le_of_ble_eq_true rfl, Nat.le_of_ble_eq_true rfl⟩ ⟨Nat.le_of_ble_eq_true rfl, Nat.le_of_ble_eq_true rfl⟩ rfl hl.1 rfl (Nat.le_of_ble_eq_true rfl) (oc_182 21 (aq_21 shX12_readsFactor_0) uw_0_253)) (fun r_4 h_5 => ?_)
        rcases h_5 with ⟨rfl, h_5⟩ | ⟨rfl, h_5⟩
        ·
          have h_5 : (cz 19) < (cz 20) ∧ 48 ≤ (hereM cz Fz).toInt ∧ (hereM cz Fz).toInt ≤ 57 := h_5
          refine lv_if_eq (tgt := 47) hx hb (oc_153 24 shX12_readsFactor_24 sgw_0_23) rfl (fun h => absurd h cq_eq_1_0) (fun _ => ?_)
          refine lv_aload_n hx hb (oc_42 27 (aq_3 shX12_readsFactor_24)) rfl (lvA0 hl) ?_
          have hFc := free_all hD hS hA
          refine va_calli (runV_a (As := []) (rest := []) S (q_readsNumber l D cI cB cZ g cz Iz Fz  H.size hI0 (by (first | omega | (have zz0 := Hid.u hi_cn; have zz1 := Hid.u hi_cz; have zz2 := Hid.u hq_cz; omega))) (by (first | omega | (have zz0 := Hid.u hi_cn; have zz1 := Hid.u hi_cz; have zz2 := Hid.u hq_cz; omega))) (by assumption)) kV_RX12_277 hK hP hD 0 rfl rfl rfl ⟨Nat.le_of_ble_eq_true rfl, Nat.le_of_ble_eq_true rfl⟩ ⟨Nat.le_of_ble_eq_true rfl, Nat.le_of_ble_eq_true rfl⟩ rfl hl.1 rfl (Nat.le_of_ble_eq_true rfl) (oc_182 28 (aq_4 shX12_readsFactor_24) uw_1_21)) hS (fun q _ h => hFc q h) hFc (fun r_6 u t H1 locs ht hvm wh_7 hB hz1 hk1 hS => ?_)
          obtain ⟨cn7, In7, Fn7⟩ := u
          obtain ⟨hP1, hD1⟩ := hB
          rw [ht] at hP1
          have hP : va_P D vwCl (wM cI cB cZ g cn7 In7 Fn7) H1 := hP1
          have hD : va_D A (wM cI cB cZ g cn7 In7 Fn7) := hD1.weaken (fun _ _ _ h => hFc _ h)
          generalize H1 = H at hP hS ⊢
          have vh_7 : (fun r c2 I2 F2 => Fr [19, 26] [21, 22] [] cz Iz Fz c2 I2 F2 ∧ IM c2 F2 ∧ (r = 0 ∨ (r = 1 ∧ (cz 19) < c2 19 ∧ c2 19 ≤ (cz 20) ∧ c2 26 < 1000000))) r_6 cn7 In7 Fn7 := wh_7
          obtain ⟨hfc7, hIn7, h_7⟩ := vh_7
          obtain rfl : Fz = Fn7 := (funext (fun k => hfc7.2.2 k List.not_mem_nil)).symm
          have hf7 : Fr [19, 23, 24, 26] [21, 22] [27, 28] cn In Fn cn7 In7 Fz := Fr.mo (Fr.tr hfr0 hfc7) (sbl rfl) (sbl rfl) (sbl rfl)
          have hi_cn7 : Hid (CB cn7) := hIn7.b
          have : cn7 20 = cn 20 := hf7.1 20 (nml rfl)
          have : cn7 25 = cn 25 := hf7.1 25 (nml rfl)
          have hq_cn7 := Hid.i (frq_19_23_24_26_0_1_2_46_57_58_62_63_75_83_44 hf7)
          have : cn7 20 = (cz 20) := hfc7.1 20 (nml rfl)
          have : cn7 23 = (cz 23) := hfc7.1 23 (nml rfl)
          have : cn7 24 = (cz 24) := hfc7.1 24 (nml rfl)
          have : cn7 25 = (cz 25) := hfc7.1 25 (nml rfl)
          rcases h_7 with rfl | ⟨rfl, kh_7⟩
          ·
            refine lv_if_ne (tgt := 36) hx hb (oc_154 31 (aq_7 shX12_readsFactor_24) sgw_0_5) rfl (fun h => absurd h cq_eq_0_0) (fun _ => ?_)
            refine lv_iconst (v := 0) hx hb (oc_3 34 (aq_10 shX12_readsFactor_24)) kic_0 ?_
            exact W.zret (v := 0) hx hb hr rfl (fun t ht hW => ⟨⟨0, (cn7, In7, Fz), rfl, ⟨(Fr.mo hf7 (sbl rfl) (sbl rfl) (sbl rfl)), hIn7, (by show 0 = 0 ∨ (0 = 1 ∧ PSx (cn7 19) (cn7 20) (cn7 23) (cn7 24) (Fz 27) (Fz 28) a0 (G0 + 1) w0 s0 ∧ (∀ k : Nat, k < a0 → Fz 27 k = Fn 27 k) ∧ (∀ i : Nat, i < w0 → Fz 28 i = Fn 28 i) ∧ cn 19 < cn7 19); exact Or.inl rfl)⟩, by rw [ht]; exact hP, hD⟩, hS.F ht⟩) hS.2.2 (oc_172 35 (aq_11 shX12_readsFactor_24))
          ·
            obtain ⟨kh_7a, kh_7b, kh_7c⟩ := kh_7
            refine lv_if_ne (tgt := 36) hx hb (oc_154 31 (aq_7 shX12_readsFactor_24) sgw_0_5) rfl (fun _ => ?_) (fun h => absurd h cq_eq_1_0)
            refine lv_aload_n hx hb (oc_42 36 (aq_12 shX12_readsFactor_24)) rfl (lvA0 hl) ?_
            refine lv_iconst (v := 0) hx hb (oc_3 37 (aq_13 shX12_readsFactor_24)) kic_0 ?_
            refine lv_aload_n hx hb (oc_42 38 (aq_14 shX12_readsFactor_24)) rfl (lvA0 hl) ?_
            refine gM_250 S hK hP (v := .int (nI (cn7 26))) rfl (oc_180 39 (aq_15 shX12_readsFactor_24) uw_0_250) ?_
            have hFc := free_all hD hS hA
            refine va_callv (runV_a (As := [.int 0, .int (nI (cn7 26))]) (rest := []) S (q_says l D cI cB cZ g cn7 In7 Fz 0 (cn7 26) H.size hIn7 (by (first | omega | (have zz0 := Hid.u hi_cn; have zz1 := Hid.u hi_cn7; have zz2 := Hid.u hi_cz; have zz3 := Hid.u hq_cn7; have zz4 := Hid.u hq_cz; omega)))) kV_RX12_270 hK hP hD 0 rfl rfl rfl ⟨Nat.le_of_ble_eq_true rfl, Nat.le_of_ble_eq_true rfl⟩ ⟨Nat.le_of_ble_eq_true rfl, Nat.le_of_ble_eq_true rfl⟩ rfl hl.1 rfl (Nat.le_of_ble_eq_true rfl) (oc_182 42 (aq_18 shX12_readsFactor_24) uw_1_14)) hS (fun q _ h => hFc q h) hFc (fun u t H1 locs ht hvm wh_9 hB hz1 hk1 hS => ?_)
            obtain ⟨cn9, In9, Fn9⟩ := u
            obtain ⟨hP1, hD1⟩ := hB
            rw [ht] at hP1
            have vh_9 : (fun c2 I2 F2 => (∀ k : Nat, k ∉ [] → I2 k = In7 k) ∧ (((True) ∧ (va_up cn7 23 ((cn7 23) + 1)) = c2 ∧ (va_up Fz 27 (upd ((Fz 27)) ((cn7 23)) (nI (0 * 1048576 + (cn7 26))))) = F2))) cn9 In9 Fn9 := wh_9
            obtain ⟨hI9_, vh_9⟩ := vh_9
            obtain ⟨h_9, rfl, rfl⟩ := vh_9
            obtain rfl : In7 = In9 := (funext (fun k => hI9_ k List.not_mem_nil)).symm
            have hP : va_P D vwCl (wM cI cB cZ g (va_up cn7 23 ((cn7 23) + 1)) In7 (va_up Fz 27 (upd ((Fz 27)) ((cn7 23)) (nI (0 * 1048576 + (cn7 26)))))) H1 := hP1
            have hD : va_D A (wM cI cB cZ g (va_up cn7 23 ((cn7 23) + 1)) In7 (va_up Fz 27 (upd ((Fz 27)) ((cn7 23)) (nI (0 * 1048576 + (cn7 26)))))) := hD1.weaken (fun _ _ _ h => hFc _ h)
            generalize H1 = H at hP hS ⊢
            refine lv_iconst (v := 1) hx hb (oc_4 45 (aq_21 shX12_readsFactor_24)) kic_1 ?_
            exact W.zret (v := 1) hx hb hr rfl (fun t ht hW => ⟨⟨1, ((va_up cn7 23 ((cn7 23) + 1)), In7, (va_up Fz 27 (upd ((Fz 27)) ((cn7 23)) (nI (0 * 1048576 + (cn7 26)))))), rfl, ⟨(Fr.mo (Fr.f 27 (Fr.c 23 hf7)) (sbl rfl) (sbl rfl) (sbl rfl)), (IM.fr (In := In7) hIn7 (Fr.f 27 (Fr.c 23 Fr.rf)) (by decide) (by decide)), (by show 1 = 0 ∨ (1 = 1 ∧ PSx ((va_up cn7 23 ((cn7 23) + 1)) 19) ((va_up cn7 23 ((cn7 23) + 1)) 20) ((va_up cn7 23 ((cn7 23) + 1)) 23) ((va_up cn7 23 ((cn7 23) + 1)) 24) ((va_up Fz 27 (upd ((Fz 27)) ((cn7 23)) (nI (0 * 1048576 + (cn7 26))))) 27) ((va_up Fz 27 (upd ((Fz 27)) ((cn7 23)) (nI (0 * 1048576 + (cn7 26))))) 28) a0 (G0 + 1) w0 s0 ∧ (∀ k : Nat, k < a0 → (va_up Fz 27 (upd ((Fz 27)) ((cn7 23)) (nI (0 * 1048576 + (cn7 26))))) 27 k = Fn 27 k) ∧ (∀ i : Nat, i < w0 → (va_up Fz 27 (upd ((Fz 27)) ((cn7 23)) (nI (0 * 1048576 + (cn7 26))))) 28 i = Fn 28 i) ∧ cn 19 < (va_up cn7 23 ((cn7 23) + 1)) 19); exact Or.inr ⟨rfl, (by have q := PSx.factor hx0_0 (pl' := cn7 19) (o := 0) (x := cn7 26) (by (first | omega | (have zz0 := Hid.u hi_cn; have zz1 := Hid.u hi_cn7; have zz2 := Hid.u hi_cz; have zz3 := Hid.u hq_cn7; have zz4 := Hid.u hq_cz; omega))) (by (first | omega | (have zz0 := Hid.u hi_cn; have zz1 := Hid.u hi_cn7; have zz2 := Hid.u hi_cz; have zz3 := Hid.u hq_cn7; have zz4 := Hid.u hq_cz; omega))) (Or.inl rfl) (by (first | omega | (have zz0 := Hid.u hi_cn; have zz1 := Hid.u hi_cn7; have zz2 := Hid.u hi_cz; have zz3 := Hid.u hq_cn7; have zz4 := Hid.u hq_cz; omega))); rw [← (show cn7 20 = cz 20 by (first | omega | (have zz0 := Hid.u hi_cn; have zz1 := Hid.u hi_cn7; have zz2 := Hid.u hi_cz; have zz3 := Hid.u hq_cn7; have zz4 := Hid.u hq_cz; omega))), ← (show cn7 23 = cz 23 by (first | omega | (have zz0 := Hid.u hi_cn; have zz1 := Hid.u hi_cn7; have zz2 := Hid.u hi_cz; have zz3 := Hid.u hq_cn7; have zz4 := Hid.u hq_cz; omega))), ← (show cn7 24 = cz 24 by (first | omega | (have zz0 := Hid.u hi_cn; have zz1 := Hid.u hi_cn7; have zz2 := Hid.u hi_cz; have zz3 := Hid.u hq_cn7; have zz4 := Hid.u hq_cz; omega)))] at q; exact q), fun k hk => (upd_lt (by (first | omega | (have zz0 := Hid.u hi_cn; have zz1 := Hid.u hi_cn7; have zz2 := Hid.u hi_cz; have zz3 := Hid.u hq_cn7; have zz4 := Hid.u hq_cz; omega)))).trans (hx0_1 k hk), hx0_2, (by show cn 19 < cn7 19; (first | omega | (have zz0 := Hid.u hi_cn; have zz1 := Hid.u hi_cn7; have zz2 := Hid.u hi_cz; have zz3 := Hid.u hq_cn7; have zz4 := Hid.u hq_cz; omega)))⟩)⟩, by rw [ht]; exact hP, hD⟩, hS.F ht⟩) hS.2.2 (oc_172 46 (aq_22 shX12_readsFactor_24))
        ·
          have h_5 : ¬ ((cz 19) < (cz 20) ∧ 48 ≤ (hereM cz Fz).toInt ∧ (hereM cz Fz).toInt ≤ 57) := h_5
          refine lv_if_eq (tgt := 47) hx hb (oc_153 24 shX12_readsFactor_24 sgw_0_23) rfl (fun _ => ?_) (fun h => absurd h cq_eq_0_0)
          refine lv_aload_n hx hb (oc_42 47 (aq_23 shX12_readsFactor_24)) rfl (lvA0 hl) ?_
          refine vp_callSi (runV_ra (As := []) (rest := []) S (q_here l D cI cB cZ g cz Iz Fz  hI0 (by (first | omega | (have zz0 := Hid.u hi_cn; have zz1 := Hid.u hi_cz; have zz2 := Hid.u hq_cz; omega))) (by (first | omega | (have zz0 := Hid.u hi_cn; have zz1 := Hid.u hi_cz; have zz2 := Hid.u hq_cz; omega)))) kV_RX12_239 hK hP 0 rfl rfl rfl ⟨Nat.le_of_ble_eq_true rfl, Nat.le_of_ble_eq_true rfl⟩ ⟨Nat.le_of_ble_eq_true rfl, Nat.le_of_ble_eq_true rfl⟩ rfl hl.1 rfl (Nat.le_of_ble_eq_true rfl) (oc_182 48 shX12_readsFactor_48 uw_0_239)) (fun r_10 h_11 => ?_)
          refine vp_callSi (runS_r (As := [.int r_10]) (rest := []) S (q_factOf l D cI cB cZ r_10 ) kS_RX12_280 hK hP [] rfl ⟨Nat.le_of_ble_eq_true rfl, Nat.le_of_ble_eq_true rfl⟩ ⟨Nat.le_of_ble_eq_true rfl, Nat.le_of_ble_eq_true rfl⟩ rfl hl.1 rfl (Nat.le_of_ble_eq_true rfl) (oc_184 51 (aq_3 shX12_readsFactor_48) uw_1_24)) (fun r_12 h_13 => ?_)
          rcases h_13 with rfl | ⟨mr_12, hmr_12, hvr_12, rfl⟩
          ·
            refine lv_istore_n (lv' := [(1, .int (-1)), (0, .ref (g 100))]) hx hb (oc_60 54 (aq_6 shX12_readsFactor_48)) rfl hl (ltb rfl) rfl (fun ls hl => ?_)
            refine lv_iload_n hx hb (oc_27 55 (aq_7 shX12_readsFactor_48)) rfl (lvA0 hl) ?_
            refine lv_iconst (v := (-1)) hx hb (oc_2 56 (aq_8 shX12_readsFactor_48)) kic_m1 ?_
            refine lv_icmp_ne (tgt := 70) hx hb (oc_160 57 (aq_9 shX12_readsFactor_48) sgw_0_13) rfl (fun h => absurd h cq_eq_m1_m1) (fun _ => ?_)
            refine lv_aload_n hx hb (oc_42 60 (aq_12 shX12_readsFactor_48)) rfl (lvA1 hl) ?_
            refine lv_iconst (v := 1) hx hb (oc_4 61 (aq_13 shX12_readsFactor_48)) kic_1 ?_
            refine lv_aload_n hx hb (oc_42 62 (aq_14 shX12_readsFactor_48)) rfl (lvA1 hl) ?_
            refine gM_233 S hK hP (v := .int (nI (cz 19))) rfl (oc_180 63 (aq_15 shX12_readsFactor_48) uw_0_233) ?_
            have hFc := free_all hD hS hA
            refine va_calli (runV_a (As := [.int 1, .int (nI (cz 19))]) (rest := []) S (q_wrong l D cI cB cZ g cz Iz Fz 1 (nI (cz 19)) H.size hI0) kV_RX12_246 hK hP hD 0 rfl rfl rfl ⟨Nat.le_of_ble_eq_true rfl, Nat.le_of_ble_eq_true rfl⟩ ⟨Nat.le_of_ble_eq_true rfl, Nat.le_of_ble_eq_true rfl⟩ rfl hl.1 rfl (Nat.le_of_ble_eq_true rfl) (oc_182 66 (aq_18 shX12_readsFactor_48) uw_0_246)) hS (fun q _ h => hFc q h) hFc (fun r_14 u t H1 locs ht hvm wh_15 hB hz1 hk1 hS => ?_)
            obtain ⟨cn15, In15, Fn15⟩ := u
            obtain ⟨hP1, hD1⟩ := hB
            rw [ht] at hP1
            have vh_15 : (fun r c2 I2 F2 => (∀ k : Nat, k ∉ [21] → I2 k = Iz k) ∧ ((r = 0 ∧ (True) ∧ cz = c2 ∧ Fz = F2))) r_14 cn15 In15 Fn15 := wh_15
            obtain ⟨hI15_, vh_15⟩ := vh_15
            obtain ⟨rfl, h_15, rfl, rfl⟩ := vh_15
            have hf15 : Fr [19, 23, 24, 26] [21, 22] [27, 28] cn In Fn cz In15 Fz := Fr.mo (Fr.tr hfr0 (show Fr [] [21] [] cz Iz Fz cz In15 Fz from ⟨fun _ _ => rfl, hI15_, fun _ _ => rfl⟩)) (sbl rfl) (sbl rfl) (sbl rfl)
            have hP : va_P D vwCl (wM cI cB cZ g cz In15 Fz) H1 := hP1
            have hD : va_D A (wM cI cB cZ g cz In15 Fz) := hD1.weaken (fun _ _ _ h => hFc _ h)
            generalize H1 = H at hP hS ⊢
            exact W.zret (v := 0) hx hb hr rfl (fun t ht hW => ⟨⟨0, (cz, In15, Fz), rfl, ⟨(Fr.mo hf15 (sbl rfl) (sbl rfl) (sbl rfl)), hI0, (by show 0 = 0 ∨ (0 = 1 ∧ PSx (cz 19) (cz 20) (cz 23) (cz 24) (Fz 27) (Fz 28) a0 (G0 + 1) w0 s0 ∧ (∀ k : Nat, k < a0 → Fz 27 k = Fn 27 k) ∧ (∀ i : Nat, i < w0 → Fz 28 i = Fn 28 i) ∧ cn 19 < cz 19); exact Or.inl rfl)⟩, by rw [ht]; exact hP, hD⟩, hS.F ht⟩) hS.2.2 (oc_172 69 (aq_21 shX12_readsFactor_48))
          ·
            refine lv_istore_n (lv' := [(1, .int (nI mr_12)), (0, .ref (g 100))]) hx hb (oc_60 54 (aq_6 shX12_readsFactor_48)) rfl hl (ltb rfl) rfl (fun ls hl => ?_)
            refine lv_iload_n hx hb (oc_27 55 (aq_7 shX12_readsFactor_48)) rfl (lvA0 hl) ?_
            refine lv_iconst (v := (-1)) hx hb (oc_2 56 (aq_8 shX12_readsFactor_48)) kic_m1 ?_
            have : (nI mr_12).toInt = ((mr_12 : Nat) : Int) := nI_toInt (by (first | omega | (have zz0 := Hid.u hi_cn; have zz1 := Hid.u hi_cz; have zz2 := Hid.u hq_cz; omega)))
            refine lv_icmp_ne (tgt := 70) hx hb (oc_160 57 (aq_9 shX12_readsFactor_48) sgw_0_13) rfl (fun c_16 => ?_) (fun c_16 => False.elim (by have tc_16 : ((nI mr_12).toInt : Int) = (-1) := congrArg Int32.toInt c_16; (first | omega | (have zz0 := Hid.u hi_cn; have zz1 := Hid.u hi_cz; have zz2 := Hid.u hq_cz; omega))))
            have tc_16 : ((nI mr_12).toInt : Int) ≠ (-1) := fun q => c_16 (Int32.toInt_inj.mp q)
            refine lv_aload_n hx hb (oc_42 70 (aq_22 shX12_readsFactor_48)) rfl (lvA1 hl) ?_
            refine lv_iconst (v := 1) hx hb (oc_4 71 (aq_23 shX12_readsFactor_48)) kic_1 ?_
            refine lv_iload_n hx hb (oc_27 72 shX12_readsFactor_72) rfl (lvA0 hl) ?_
            have hFc := free_all hD hS hA
            refine va_callv (runV_a (As := [.int 1, .int (nI mr_12)]) (rest := []) S (q_says l D cI cB cZ g cz Iz Fz 1 mr_12 H.size hI0 (by (first | omega | (have zz0 := Hid.u hi_cn; have zz1 := Hid.u hi_cz; have zz2 := Hid.u hq_cz; omega)))) kV_RX12_270 hK hP hD 0 rfl rfl rfl ⟨Nat.le_of_ble_eq_true rfl, Nat.le_of_ble_eq_true rfl⟩ ⟨Nat.le_of_ble_eq_true rfl, Nat.le_of_ble_eq_true rfl⟩ rfl hl.1 rfl (Nat.le_of_ble_eq_true rfl) (oc_182 73 (aq_1 shX12_readsFactor_72) uw_1_14)) hS (fun q _ h => hFc q h) hFc (fun u t H1 locs ht hvm wh_18 hB hz1 hk1 hS => ?_)
            obtain ⟨cn18, In18, Fn18⟩ := u
            obtain ⟨hP1, hD1⟩ := hB
            rw [ht] at hP1
            have vh_18 : (fun c2 I2 F2 => (∀ k : Nat, k ∉ [] → I2 k = Iz k) ∧ (((True) ∧ (va_up cz 23 ((cz 23) + 1)) = c2 ∧ (va_up Fz 27 (upd ((Fz 27)) ((cz 23)) (nI (1 * 1048576 + mr_12)))) = F2))) cn18 In18 Fn18 := wh_18
            obtain ⟨hI18_, vh_18⟩ := vh_18
            obtain ⟨h_18, rfl, rfl⟩ := vh_18
            obtain rfl : Iz = In18 := (funext (fun k => hI18_ k List.not_mem_nil)).symm
            have hP : va_P D vwCl (wM cI cB cZ g (va_up cz 23 ((cz 23) + 1)) Iz (va_up Fz 27 (upd ((Fz 27)) ((cz 23)) (nI (1 * 1048576 + mr_12))))) H1 := hP1
            have hD : va_D A (wM cI cB cZ g (va_up cz 23 ((cz 23) + 1)) Iz (va_up Fz 27 (upd ((Fz 27)) ((cz 23)) (nI (1 * 1048576 + mr_12))))) := hD1.weaken (fun _ _ _ h => hFc _ h)
            generalize H1 = H at hP hS ⊢
            refine lv_aload_n hx hb (oc_42 76 (aq_4 shX12_readsFactor_72)) rfl (lvA1 hl) ?_
            refine lv_aload_n hx hb (oc_42 77 (aq_5 shX12_readsFactor_72)) rfl (lvA1 hl) ?_
            refine gM_233 S hK hP (v := .int (nI (cz 19))) rfl (oc_180 78 (aq_6 shX12_readsFactor_72) uw_0_233) ?_
            refine lv_iconst (v := 1) hx hb (oc_4 81 (aq_9 shX12_readsFactor_72)) kic_1 ?_
            refine lv_iadd hx hb (oc_96 82 (aq_10 shX12_readsFactor_72)) ?_
            refine lv_topi (fun y_19 ey_19 => ?_)
            obtain rfl : y_19 = (nI ((cz 19) + 1)) := ey_19.trans (nI_add (cz 19) 1)
            refine pM_233 S hK hP hD hS (a := ((cz 19) + 1)) (cn2 := (va_up (va_up cz 23 ((cz 23) + 1)) 19 ((cz 19) + 1))) rfl rfl (oc_181 83 (aq_11 shX12_readsFactor_72) uw_0_233) (fun H locs hP hD hS => ?_)
            refine lv_iconst (v := 1) hx hb (oc_4 86 (aq_14 shX12_readsFactor_72)) kic_1 ?_
            exact W.zret (v := 1) hx hb hr rfl (fun t ht hW => ⟨⟨1, ((va_up (va_up cz 23 ((cz 23) + 1)) 19 ((cz 19) + 1)), Iz, (va_up Fz 27 (upd ((Fz 27)) ((cz 23)) (nI (1 * 1048576 + mr_12))))), rfl, ⟨(Fr.mo (Fr.f 27 (Fr.c 19 (Fr.c 23 hfr0))) (sbl rfl) (sbl rfl) (sbl rfl)), (IM.fr (In := Iz) hI0 (Fr.f 27 (Fr.c 19 (Fr.c 23 Fr.rf))) (by decide) (by decide)), (by show 1 = 0 ∨ (1 = 1 ∧ PSx ((va_up (va_up cz 23 ((cz 23) + 1)) 19 ((cz 19) + 1)) 19) ((va_up (va_up cz 23 ((cz 23) + 1)) 19 ((cz 19) + 1)) 20) ((va_up (va_up cz 23 ((cz 23) + 1)) 19 ((cz 19) + 1)) 23) ((va_up (va_up cz 23 ((cz 23) + 1)) 19 ((cz 19) + 1)) 24) ((va_up Fz 27 (upd ((Fz 27)) ((cz 23)) (nI (1 * 1048576 + mr_12)))) 27) ((va_up Fz 27 (upd ((Fz 27)) ((cz 23)) (nI (1 * 1048576 + mr_12)))) 28) a0 (G0 + 1) w0 s0 ∧ (∀ k : Nat, k < a0 → (va_up Fz 27 (upd ((Fz 27)) ((cz 23)) (nI (1 * 1048576 + mr_12)))) 27 k = Fn 27 k) ∧ (∀ i : Nat, i < w0 → (va_up Fz 27 (upd ((Fz 27)) ((cz 23)) (nI (1 * 1048576 + mr_12)))) 28 i = Fn 28 i) ∧ cn 19 < (va_up (va_up cz 23 ((cz 23) + 1)) 19 ((cz 19) + 1)) 19); exact Or.inr ⟨rfl, (by have q := PSx.factor hx0_0 (pl' := cz 19 + 1) (o := 1) (x := mr_12) (by (first | omega | (have zz0 := Hid.u hi_cn; have zz1 := Hid.u hi_cz; have zz2 := Hid.u hq_cz; omega))) (by (first | omega | (have zz0 := Hid.u hi_cn; have zz1 := Hid.u hi_cz; have zz2 := Hid.u hq_cz; omega))) (Or.inr ⟨rfl, by (first | omega | (have zz0 := Hid.u hi_cn; have zz1 := Hid.u hi_cz; have zz2 := Hid.u hq_cz; omega))⟩) (by (first | omega | (have zz0 := Hid.u hi_cn; have zz1 := Hid.u hi_cz; have zz2 := Hid.u hq_cz; omega))); exact q), fun k hk => (upd_lt (by (first | omega | (have zz0 := Hid.u hi_cn; have zz1 := Hid.u hi_cz; have zz2 := Hid.u hq_cz; omega)))).trans (hx0_1 k hk), hx0_2, (by show cn 19 < cz 19 + 1; (first | omega | (have zz0 := Hid.u hi_cn; have zz1 := Hid.u hi_cz; have zz2 := Hid.u hq_cz; omega)))⟩)⟩, by rw [ht]; exact hP, hD⟩, hS.F ht⟩) hS.2.2 (oc_172 87 (aq_15 shX12_readsFactor_72))
      ·
        have tc_3 : (r_1.toInt : Int) = 91 := congrArg Int32.toInt c_3
        refine lv_aload_n hx hb (oc_42 9 (aq_9 shX12_readsFactor_0)) rfl (lvA0 hl) ?_
        refine lv_bipush (v := 14) hx hb (oc_16 10 (aq_10 shX12_readsFactor_0) sgb_14) kbc_14 ?_
        have hFc := free_all hD hS hA
        refine va_calli (runV_a (As := [.int 14]) (rest := []) S (q_opens l D cI cB cZ g cz Iz Fz 14 H.size hI0 (by (first | omega | (have zz0 := Hid.u hi_cn; have zz1 := Hid.u hi_cz; have zz2 := Hid.u hq_cz; omega)))) kV_RX12_274 hK hP hD 0 rfl rfl rfl ⟨Nat.le_of_ble_eq_true rfl, Nat.le_of_ble_eq_true rfl⟩ ⟨Nat.le_of_ble_eq_true rfl, Nat.le_of_ble_eq_true rfl⟩ rfl hl.1 rfl (Nat.le_of_ble_eq_true rfl) (oc_182 12 (aq_12 shX12_readsFactor_0) uw_1_18)) hS (fun q _ h => hFc q h) hFc (fun r_20 u t H1 locs ht hvm wh_21 hB hz1 hk1 hS => ?_)
        obtain ⟨cn21, In21, Fn21⟩ := u
        obtain ⟨hP1, hD1⟩ := hB
        rw [ht] at hP1
        have vh_21 : (fun r c2 I2 F2 => (∀ k : Nat, k ∉ [21, 22] → I2 k = Iz k) ∧ ((r = 0 ∧ (True) ∧ cz = c2 ∧ Fz = F2) ∨ (r = 1 ∧ (True) ∧ (va_up (va_up cz 24 ((cz 24) + 1)) 19 ((cz 19) + 1)) = c2 ∧ (va_up Fz 28 (upd ((Fz 28)) ((cz 24)) (nI (14 * 1048576)))) = F2))) r_20 cn21 In21 Fn21 := wh_21
        obtain ⟨hI21_, vh_21⟩ := vh_21
        rcases vh_21 with ⟨rfl, h_21, rfl, rfl⟩ | ⟨rfl, h_21, rfl, rfl⟩
        ·
          have hf21 : Fr [19, 23, 24, 26] [21, 22] [27, 28] cn In Fn cz In21 Fz := Fr.mo (Fr.tr hfr0 (show Fr [] [21, 22] [] cz Iz Fz cz In21 Fz from ⟨fun _ _ => rfl, hI21_, fun _ _ => rfl⟩)) (sbl rfl) (sbl rfl) (sbl rfl)
          have hP : va_P D vwCl (wM cI cB cZ g cz In21 Fz) H1 := hP1
          have hD : va_D A (wM cI cB cZ g cz In21 Fz) := hD1.weaken (fun _ _ _ h => hFc _ h)
          generalize H1 = H at hP hS ⊢
          refine lv_if_ne (tgt := 0) hx hb (oc_154 15 (aq_15 shX12_readsFactor_0) sgw_255_241) rfl (fun h => absurd h cq_eq_0_0) (fun _ => ?_)
          refine lv_iconst (v := 0) hx hb (oc_3 18 (aq_18 shX12_readsFactor_0)) kic_0 ?_
          exact W.zret (v := 0) hx hb hr rfl (fun t ht hW => ⟨⟨0, (cz, In21, Fz), rfl, ⟨(Fr.mo hf21 (sbl rfl) (sbl rfl) (sbl rfl)), hI0, (by show 0 = 0 ∨ (0 = 1 ∧ PSx (cz 19) (cz 20) (cz 23) (cz 24) (Fz 27) (Fz 28) a0 (G0 + 1) w0 s0 ∧ (∀ k : Nat, k < a0 → Fz 27 k = Fn 27 k) ∧ (∀ i : Nat, i < w0 → Fz 28 i = Fn 28 i) ∧ cn 19 < cz 19); exact Or.inl rfl)⟩, by rw [ht]; exact hP, hD⟩, hS.F ht⟩) hS.2.2 (oc_172 19 (aq_19 shX12_readsFactor_0))
        ·
          have hf21 : Fr [19, 23, 24, 26] [21, 22] [27, 28] cn In Fn cz In21 Fz := Fr.mo (Fr.tr hfr0 (show Fr [] [21, 22] [] cz Iz Fz cz In21 Fz from ⟨fun _ _ => rfl, hI21_, fun _ _ => rfl⟩)) (sbl rfl) (sbl rfl) (sbl rfl)
          have hP : va_P D vwCl (wM cI cB cZ g (va_up (va_up cz 24 ((cz 24) + 1)) 19 ((cz 19) + 1)) In21 (va_up Fz 28 (upd ((Fz 28)) ((cz 24)) (nI (14 * 1048576))))) H1 := hP1
          have hD : va_D A (wM cI cB cZ g (va_up (va_up cz 24 ((cz 24) + 1)) 19 ((cz 19) + 1)) In21 (va_up Fz 28 (upd ((Fz 28)) ((cz 24)) (nI (14 * 1048576))))) := hD1.weaken (fun _ _ _ h => hFc _ h)
          generalize H1 = H at hP hS ⊢
          refine lv_if_ne (tgt := 0) hx hb (oc_154 15 (aq_15 shX12_readsFactor_0) sgw_255_241) rfl (fun _ => ?_) (fun h => absurd h cq_eq_1_0)
          exact ih0  (va_up (va_up cz 24 ((cz 24) + 1)) 19 ((cz 19) + 1)) In21 (va_up Fz 28 (upd ((Fz 28)) ((cz 24)) (nI (14 * 1048576)))) _ _ (show cn 20 - ((cz 19) + 1) < n0 by (first | omega | (have zz0 := Hid.u hi_cn; have zz1 := Hid.u hi_cz; have zz2 := Hid.u hq_cz; omega))) ⟨(Fr.mo (Fr.f 28 (Fr.c 19 (Fr.c 24 hf21))) (sbl rfl) (sbl rfl) (sbl rfl)), (IM.fr (In := In21) hI0 (Fr.f 28 (Fr.c 19 (Fr.c 24 Fr.rf))) (by decide) (by decide)), (by have q := PSx.push14 hx0_0 (by (first | omega | (have zz0 := Hid.u hi_cn; have zz1 := Hid.u hi_cz; have zz2 := Hid.u hq_cz; omega))); exact q), hx0_1, (fun i hi => (upd_lt (by (first | omega | (have zz0 := Hid.u hi_cn; have zz1 := Hid.u hi_cz; have zz2 := Hid.u hq_cz; omega)))).trans (hx0_2 i hi)), (by show cn 19 ≤ cz 19 + 1; (first | omega | (have zz0 := Hid.u hi_cn; have zz1 := Hid.u hi_cz; have zz2 := Hid.u hq_cz; omega)))⟩ hP hD hS ls (lv_sub hl [0] rfl)
  exact lp_0 _  cn In Fn _ _ (Nat.lt_succ_self _) ⟨(Fr.mo Fr.rf (sbl rfl) (sbl rfl) (sbl rfl)), hI, hPS, (fun k hk => rfl), (fun i hi => rfl), (Nat.le_refl _)⟩ hP hD hS ls (lv_sub hl [0] rfl)
set_option maxRecDepth 100000 in
set_option maxHeartbeats 4000000 in
theorem q_hasOpenSum (l : Launch) (D : va_G) (cI cB cZ : ClassId) (g : Nat → Nat) (cn : Nat → Nat) (In : Nat → Int32) (Fn : Nat → Nat → Int32) (w0 : Nat) (hI : IM cn Fn) (hw : ∀ i : Nat, i < cn 24 → WKk (Fn 28 i)) (h24 : cn 24 ≤ 180) (hwle : w0 ≤ cn 24) : Met l yX12_hasOpenSum (CWS yX12_hasOpenSum cX12_hasOpenSum 3 (some .boolean)) (RM 0 0 0) (PBr [.ref (g 100), .int (nI w0)] D cI cB cZ (wM cI cB cZ g cn In Fn)) (vp_Si (fun r => (r = 1 ∧ (∃ i : Nat, w0 ≤ i ∧ i < cn 24 ∧ kd (Fn 28 i) = 14)) ∨ (r = 0 ∧ ¬ (∃ i : Nat, w0 ≤ i ∧ i < cn 24 ∧ kd (Fn 28 i) = 14)))) 0 0 (fun _ => False) := by
  refine en_r rfl pn_RX12 (Nat.le_of_ble_eq_true rfl) (fun p e s m below meth c hx hb hml hown S hr hlocks hnm hP hK hS ls hl => ?_)
  have hl : lv_has ls 3 [(0, .ref (g 100)), (1, .int (nI w0))] := hl
  have hi_cn : Hid (CB cn) := hI.b
  refine lv_iload_n hx hb (oc_27 0 shX12_hasOpenSum_0) rfl (lvA1 hl) ?_
  refine lv_istore_n (lv' := [(2, .int (nI w0)), (0, .ref (g 100)), (1, .int (nI w0))]) hx hb (oc_61 1 (aq_1 shX12_hasOpenSum_0)) rfl hl (ltb rfl) rfl (fun ls hl => ?_)
  have lp_2 : ∀ (n : Nat) (i2 : Nat) , cn 24 - i2 < n → ((w0 ≤ i2 ∧ i2 ≤ cn 24) ∧ (∀ i : Nat, w0 ≤ i → i < i2 → ¬ kd (Fn 28 i) = 14)) → ∀ ls : Array Slot, lv_has ls 3 [(2, .int (nI i2)), (0, .ref (g 100)), (1, .int (nI w0))] → W p l e (RM 0 0 0) s m ([.ref (g 100), .int (nI w0)]).toArray below meth c s.heap [] 0 0 (MQ below (vp_Si (fun r => (r = 1 ∧ (∃ i : Nat, w0 ≤ i ∧ i < cn 24 ∧ kd (Fn 28 i) = 14)) ∨ (r = 0 ∧ ¬ (∃ i : Nat, w0 ≤ i ∧ i < cn 24 ∧ kd (Fn 28 i) = 14)))) ([.ref (g 100), .int (nI w0)]).toArray s 0 0 (fun _ => False)) (F0 m 2 ls []) := by
    intro n2
    induction n2 with
    | zero => intros; (first | omega | (have zz0 := Hid.u hi_cn; omega))
    | succ n2 ih2 =>
      intro i2 hmu2 hinv2 ls hl
      obtain ⟨hr2, hx2_0⟩ := hinv2
      have ti2 : (nI i2).toInt = (i2 : Int) := nI_toInt (by (first | omega | (have zz0 := Hid.u hi_cn; omega)))
      refine lv_iload_n hx hb (oc_28 2 (aq_2 shX12_hasOpenSum_0)) rfl (lvA0 hl) ?_
      refine lv_aload_n hx hb (oc_42 3 (aq_3 shX12_hasOpenSum_0)) rfl (lvA1 hl) ?_
      refine gM_264 S hK hP (v := .int (nI (cn 24))) rfl (oc_180 4 (aq_4 shX12_hasOpenSum_0) uw_1_8) ?_
      have : (nI (cn 24)).toInt = (((cn 24) : Nat) : Int) := nI_toInt (by (first | omega | (have zz0 := Hid.u hi_cn; omega)))
      refine lv_icmp_ge (tgt := 33) hx hb (oc_162 7 (aq_7 shX12_hasOpenSum_0) sgw_0_26) rfl (fun c_1 => ?_) (fun c_1 => ?_)
      ·
        have tc_1 : ((nI (cn 24)).toInt : Int) ≤ (nI i2).toInt := Int32.le_iff_toInt_le.mp c_1
        refine lv_iconst (v := 0) hx hb (oc_3 33 (aq_8 shX12_hasOpenSum_25)) kic_0 ?_
        exact W.zret (v := 0) hx hb hr rfl (fun t ht hW => ⟨0, rfl, (Or.inr ⟨rfl, fun ⟨i, h1, h2, h3⟩ => hx2_0 i h1 (by (first | omega | (have zz0 := Hid.u hi_cn; omega))) h3⟩), ht⟩) (fun _ h => absurd h List.not_mem_nil) (oc_172 34 (aq_9 shX12_hasOpenSum_25))
      ·
        have tc_1 : ((nI i2).toInt : Int) < (nI (cn 24)).toInt := Int32.lt_iff_toInt_lt.mp (Int32.not_le.mp c_1)
        refine lv_aload_n hx hb (oc_42 10 (aq_10 shX12_hasOpenSum_0)) rfl (lvA1 hl) ?_
        refine gM_59 S hK hP (v := .ref (g 28)) rfl (oc_180 11 (aq_11 shX12_hasOpenSum_0) uw_0_59) ?_
        refine lv_iload_n hx hb (oc_28 14 (aq_14 shX12_hasOpenSum_0)) rfl (lvA0 hl) ?_
        have kb_1 : i2 < 180 := by (first | omega | (have zz0 := Hid.u hi_cn; omega))
        refine ldM_28 hx hb hK hP (x := ((Fn 28) i2)) (vp_in_nI kb_1 (ltb rfl)) (nI_clamp (Nat.lt_trans kb_1 (ltb rfl))) rfl (oc_46 15 (aq_15 shX12_hasOpenSum_0)) ?_
        refine lv_ldcw (v := 1048576) hx hb hown (S.2.2.2.2 _ (wk7_17 11 rfl rfl)) (oc_19 16 (aq_16 shX12_hasOpenSum_0) uw_1_4) ?_
        refine lv_idiv hx hb (oc_108 19 (aq_19 shX12_hasOpenSum_0)) (by decide) ?_
        refine lv_topi (fun y_2 ey_2 => ?_)
        obtain rfl : y_2 = (nI (kd (Fn 28 i2))) := ey_2.trans ((hw i2 (by (first | omega | (have zz0 := Hid.u hi_cn; omega)))).div)
        have hki := (hw i2 (by (first | omega | (have zz0 := Hid.u hi_cn; omega)))).k
        refine lv_bipush (v := 14) hx hb (oc_16 20 (aq_20 shX12_hasOpenSum_0) sgb_14) kbc_14 ?_
        have : (nI (kd (Fn 28 i2))).toInt = (((kd (Fn 28 i2)) : Nat) : Int) := nI_toInt (by (first | omega | (have zz0 := Hid.u hi_cn; omega)))
        refine lv_icmp_ne (tgt := 27) hx hb (oc_160 22 (aq_22 shX12_hasOpenSum_0) sgw_0_5) rfl (fun c_3 => ?_) (fun c_3 => ?_)
        ·
          have tc_3 : ((nI (kd (Fn 28 i2))).toInt : Int) ≠ 14 := fun q => c_3 (Int32.toInt_inj.mp q)
          refine lv_iinc (v := (nI (i2 + 1))) (lv' := [(2, .int (nI (i2 + 1))), (0, .ref (g 100)), (1, .int (nI w0))]) hx hb (oc_132 27 (aq_2 shX12_hasOpenSum_25) ub_2 sgb_1) hl (k := 0) rfl (nI_1 _) (ltb rfl) rfl (fun ls hl => ?_)
          refine lv_goto (tgt := 2) hx hb (oc_167 30 (aq_5 shX12_hasOpenSum_25) sgw_255_228) rfl ?_
          exact ih2 (i2 + 1) (by (first | omega | (have zz0 := Hid.u hi_cn; omega))) ⟨(by (first | omega | (have zz0 := Hid.u hi_cn; omega))), (fun i h1 h2 => by by_cases e : i = i2; (rw [e]; (first | omega | (have zz0 := Hid.u hi_cn; omega))); exact hx2_0 i h1 (by (first | omega | (have zz0 := Hid.u hi_cn; omega))))⟩ ls (lv_sub hl [0, 1, 2] rfl)
        ·
          have tc_3 : ((nI (kd (Fn 28 i2))).toInt : Int) = 14 := congrArg Int32.toInt c_3
          refine lv_iconst (v := 1) hx hb (oc_4 25 shX12_hasOpenSum_25) kic_1 ?_
          exact W.zret (v := 1) hx hb hr rfl (fun t ht hW => ⟨1, rfl, (Or.inl ⟨rfl, i2, by (first | omega | (have zz0 := Hid.u hi_cn; omega)), by (first | omega | (have zz0 := Hid.u hi_cn; omega)), by (first | omega | (have zz0 := Hid.u hi_cn; omega))⟩), ht⟩) (fun _ h => absurd h List.not_mem_nil) (oc_172 26 (aq_1 shX12_hasOpenSum_25))
  exact lp_2 _ w0 (Nat.lt_succ_self _) ⟨(by (first | omega | (have zz0 := Hid.u hi_cn; omega))), (fun i h1 h2 => absurd h2 (by (first | omega | (have zz0 := Hid.u hi_cn; omega))))⟩ ls (lv_sub hl [0, 1, 2] rfl)
set_option maxRecDepth 100000 in
set_option maxHeartbeats 4000000 in
theorem q_readsSum (l : Launch) (D : va_G) (cI cB cZ : ClassId) (g : Nat → Nat) (cn : Nat → Nat) (In : Nat → Int32) (Fn : Nat → Nat → Int32) (a0 H0 s0 : Nat) (sz : Nat) (hI : IM cn Fn) (hPS : PBk (cn 19) (cn 20) (cn 23) (cn 24) (Fn 27) (Fn 28) a0 H0 s0) (hB : 0 < cn 24 → 10 ≤ kd (Fn 28 (cn 24 - 1)) ∧ kd (Fn 28 (cn 24 - 1)) ≤ 13) : Met l yX12_readsSum (CWS yX12_readsSum cX12_readsSum 3 (some .boolean)) (RM 4 0 0) (PBw [.ref (g 100)] D cI cB cZ (wM cI cB cZ g cn In Fn) sz) (va_Qi (fun (r : Int32) (u : (Nat → Nat) × (Nat → Int32) × (Nat → Nat → Int32)) => (fun r c2 I2 F2 => Fr [19, 23, 24, 26] [21, 22] [27, 28] cn In Fn c2 I2 F2 ∧ IM c2 F2 ∧ (r = 0 ∨ (r = 1 ∧ PBk (c2 19) (c2 20) (c2 23) (c2 24) (F2 27) (F2 28) a0 (H0 + 1) s0 ∧ c2 24 = cn 24 ∧ (∀ k : Nat, k < a0 → F2 27 k = Fn 27 k) ∧ (∀ i : Nat, i < cn 24 → F2 28 i = Fn 28 i) ∧ cn 19 < c2 19))) r u.1 u.2.1 u.2.2) (fun (u : (Nat → Nat) × (Nat → Int32) × (Nat → Nat → Int32)) (t : State) => va_P D vwCl (wM cI cB cZ g u.1 u.2.1 u.2.2) t.heap ∧ va_D (va_A (wM cI cB cZ g cn In Fn) sz) (wM cI cB cZ g u.1 u.2.1 u.2.2)) (va_A (wM cI cB cZ g cn In Fn) sz)) 0 0 (va_A (wM cI cB cZ g cn In Fn) sz) := by
  refine en_w (fun A => (va_Qi (fun (r : Int32) (u : (Nat → Nat) × (Nat → Int32) × (Nat → Nat → Int32)) => (fun (r : Int32) (c2 : Nat → Nat) (I2 : Nat → Int32) (F2 : Nat → Nat → Int32) => Fr [19, 23, 24, 26] [21, 22] [27, 28] cn In Fn c2 I2 F2 ∧ IM c2 F2 ∧ (r = 0 ∨ (r = 1 ∧ PBk (c2 19) (c2 20) (c2 23) (c2 24) (F2 27) (F2 28) a0 (H0 + 1) s0 ∧ c2 24 = cn 24 ∧ (∀ k : Nat, k < a0 → F2 27 k = Fn 27 k) ∧ (∀ i : Nat, i < cn 24 → F2 28 i = Fn 28 i) ∧ cn 19 < c2 19))) r u.1 u.2.1 u.2.2) (fun (u : (Nat → Nat) × (Nat → Int32) × (Nat → Nat → Int32)) (t : State) => va_P D vwCl (wM cI cB cZ g u.1 u.2.1 u.2.2) t.heap ∧ va_D A (wM cI cB cZ g u.1 u.2.1 u.2.2)) A)) rfl rfl pn_RX12 (Nat.le_of_ble_eq_true rfl) (fun p e s m below meth c A hx hb hml hown S hr hlocks hnm hA hP hK hD hS ls hl => ?_)
  have hl : lv_has ls 3 [(0, .ref (g 100))] := hl
  have hi_cn : Hid (CB cn) := hI.b
  have hf0 := hPS.f
  refine lv_aload_n hx hb (oc_42 0 shX12_readsSum_0) rfl (lvA0 hl) ?_
  refine gM_264 S hK hP (v := .int (nI (cn 24))) rfl (oc_180 1 (aq_1 shX12_readsSum_0) uw_1_8) ?_
  refine lv_istore_n (lv' := [(1, .int (nI (cn 24))), (0, .ref (g 100))]) hx hb (oc_60 4 (aq_4 shX12_readsSum_0)) rfl hl (ltb rfl) rfl (fun ls hl => ?_)
  refine lv_aload_n hx hb (oc_42 5 (aq_5 shX12_readsSum_0)) rfl (lvA1 hl) ?_
  have hFc := free_all hD hS hA
  refine va_calli (runV_a (As := []) (rest := []) S (q_readsFactor l D cI cB cZ g cn In Fn a0 H0 (cn 24) s0 s.heap.size hI (PSx.start hPS hB)) kV_RX12_284 hK hP hD 0 rfl rfl rfl ⟨Nat.le_of_ble_eq_true rfl, Nat.le_of_ble_eq_true rfl⟩ ⟨Nat.le_of_ble_eq_true rfl, Nat.le_of_ble_eq_true rfl⟩ rfl hl.1 rfl (Nat.le_of_ble_eq_true rfl) (oc_182 6 (aq_6 shX12_readsSum_0) uw_1_28)) hS (fun q _ h => hFc q h) hFc (fun r_1 u t H1 locs ht hvm wh_2 hB hz1 hk1 hS => ?_)
  obtain ⟨cn2, In2, Fn2⟩ := u
  obtain ⟨hP1, hD1⟩ := hB
  rw [ht] at hP1
  have hP : va_P D vwCl (wM cI cB cZ g cn2 In2 Fn2) H1 := hP1
  have hD : va_D A (wM cI cB cZ g cn2 In2 Fn2) := hD1.weaken (fun _ _ _ h => hFc _ h)
  generalize H1 = H at hP hS ⊢
  have vh_2 : (fun r c2 I2 F2 => Fr [19, 23, 24, 26] [21, 22] [27, 28] cn In Fn c2 I2 F2 ∧ IM c2 F2 ∧ (r = 0 ∨ (r = 1 ∧ PSx (c2 19) (c2 20) (c2 23) (c2 24) (F2 27) (F2 28) a0 (H0 + 1) (cn 24) s0 ∧ (∀ k : Nat, k < a0 → F2 27 k = (Fn 27) k) ∧ (∀ i : Nat, i < (cn 24) → F2 28 i = (Fn 28) i) ∧ (cn 19) < c2 19))) r_1 cn2 In2 Fn2 := wh_2
  obtain ⟨hfc2, hIn2, h_2⟩ := vh_2
  have hf2 : Fr [19, 23, 24, 26] [21, 22] [27, 28] cn In Fn cn2 In2 Fn2 := Fr.mo (Fr.tr (Fr.rf (cn := cn) (In := In) (Fn := Fn)) hfc2) (sbl rfl) (sbl rfl) (sbl rfl)
  have hi_cn2 : Hid (CB cn2) := hIn2.b
  have : cn2 20 = cn 20 := hf2.1 20 (nml rfl)
  have : cn2 25 = cn 25 := hf2.1 25 (nml rfl)
  have hq_cn2 := Hid.i (frq_19_23_24_26_0_1_2_46_57_58_62_63_75_83_44 hf2)
  have : cn2 20 = (cn 20) := hfc2.1 20 (nml rfl)
  have : cn2 25 = (cn 25) := hfc2.1 25 (nml rfl)
  rcases h_2 with rfl | ⟨rfl, kh_2⟩
  ·
    refine lv_if_ne (tgt := 14) hx hb (oc_154 9 (aq_9 shX12_readsSum_0) sgw_0_5) rfl (fun h => absurd h cq_eq_0_0) (fun _ => ?_)
    refine lv_iconst (v := 0) hx hb (oc_3 12 (aq_12 shX12_readsSum_0)) kic_0 ?_
    exact W.zret (v := 0) hx hb hr rfl (fun t ht hW => ⟨⟨0, (cn2, In2, Fn2), rfl, ⟨(Fr.mo hf2 (sbl rfl) (sbl rfl) (sbl rfl)), hIn2, (by show 0 = 0 ∨ (0 = 1 ∧ PBk (cn2 19) (cn2 20) (cn2 23) (cn2 24) (Fn2 27) (Fn2 28) a0 (H0 + 1) s0 ∧ cn2 24 = cn 24 ∧ (∀ k : Nat, k < a0 → Fn2 27 k = Fn 27 k) ∧ (∀ i : Nat, i < cn 24 → Fn2 28 i = Fn 28 i) ∧ cn 19 < cn2 19); exact Or.inl rfl)⟩, by rw [ht]; exact hP, hD⟩, hS.F ht⟩) hS.2.2 (oc_172 13 (aq_13 shX12_readsSum_0))
  ·
    obtain ⟨kh_2a, kh_2b, kh_2c, kh_2d⟩ := kh_2
    have kh_2f := kh_2a.f
    refine lv_if_ne (tgt := 14) hx hb (oc_154 9 (aq_9 shX12_readsSum_0) sgw_0_5) rfl (fun _ => ?_) (fun h => absurd h cq_eq_1_0)
    have lp_14 : ∀ (n : Nat)  (c14 : Nat → Nat) (I14 : Nat → Int32) (F14 : Nat → Nat → Int32) (H : Heap) (locs : List Loc) , cn 20 - c14 19 < n → (Fr [19, 23, 24, 26] [21, 22] [27, 28] cn In Fn c14 I14 F14 ∧ IM c14 F14 ∧ (PSx (c14 19) (c14 20) (c14 23) (c14 24) (F14 27) (F14 28) a0 (H0 + 1) (cn 24) s0) ∧ (∀ k : Nat, k < a0 → F14 27 k = Fn 27 k) ∧ (∀ i : Nat, i < cn 24 → F14 28 i = Fn 28 i) ∧ (cn 19 < c14 19)) → va_P D vwCl (wM cI cB cZ g c14 I14 F14) H → va_D A (wM cI cB cZ g c14 I14 F14) → va_S A s.heap H locs → ∀ ls : Array Slot, lv_has ls 3 [(1, .int (nI (cn 24))), (0, .ref (g 100))] → W p l e (RM 4 0 0) s m ([.ref (g 100)]).toArray below meth c H locs 0 0 (MQ below (va_Qi (fun (r : Int32) (u : (Nat → Nat) × (Nat → Int32) × (Nat → Nat → Int32)) => (fun r c2 I2 F2 => Fr [19, 23, 24, 26] [21, 22] [27, 28] cn In Fn c2 I2 F2 ∧ IM c2 F2 ∧ (r = 0 ∨ (r = 1 ∧ PBk (c2 19) (c2 20) (c2 23) (c2 24) (F2 27) (F2 28) a0 (H0 + 1) s0 ∧ c2 24 = cn 24 ∧ (∀ k : Nat, k < a0 → F2 27 k = Fn 27 k) ∧ (∀ i : Nat, i < cn 24 → F2 28 i = Fn 28 i) ∧ cn 19 < c2 19))) r u.1 u.2.1 u.2.2) (fun (u : (Nat → Nat) × (Nat → Int32) × (Nat → Nat → Int32)) (t : State) => va_P D vwCl (wM cI cB cZ g u.1 u.2.1 u.2.2) t.heap ∧ va_D A (wM cI cB cZ g u.1 u.2.1 u.2.2)) A) ([.ref (g 100)]).toArray s 0 0 A) (F0 m 14 ls []) := by
      intro n14
      induction n14 with
      | zero => intros; (first | omega | (have zz0 := Hid.u hi_cn; have zz1 := Hid.u hi_cn2; have zz2 := Hid.u hq_cn2; omega))
      | succ n14 ih14 =>
        intro  c14 I14 F14 H locs hmu14 hinv14 hP hD hS ls hl
        obtain ⟨hfr14, hI14, hx14_0, hx14_1, hx14_2, hx14_3⟩ := hinv14
        have hi_c14 : Hid (CB c14) := hI14.b
        have : c14 20 = cn 20 := hfr14.1 20 (nml rfl)
        have : c14 25 = cn 25 := hfr14.1 25 (nml rfl)
        have hq_c14 := Hid.i (frq_19_23_24_26_0_1_2_46_57_58_62_63_75_83_44 hfr14)
        have hf14 := hx14_0.f
        refine lv_aload_n hx hb (oc_42 14 (aq_14 shX12_readsSum_0)) rfl (lvA1 hl) ?_
        refine vp_callSi (runV_ra (As := []) (rest := []) S (q_here l D cI cB cZ g c14 I14 F14  hI14 (by (first | omega | (have zz0 := Hid.u hi_c14; have zz1 := Hid.u hi_cn; have zz2 := Hid.u hi_cn2; have zz3 := Hid.u hq_c14; have zz4 := Hid.u hq_cn2; omega))) (by (first | omega | (have zz0 := Hid.u hi_c14; have zz1 := Hid.u hi_cn; have zz2 := Hid.u hi_cn2; have zz3 := Hid.u hq_c14; have zz4 := Hid.u hq_cn2; omega)))) kV_RX12_239 hK hP 0 rfl rfl rfl ⟨Nat.le_of_ble_eq_true rfl, Nat.le_of_ble_eq_true rfl⟩ ⟨Nat.le_of_ble_eq_true rfl, Nat.le_of_ble_eq_true rfl⟩ rfl hl.1 rfl (Nat.le_of_ble_eq_true rfl) (oc_182 15 (aq_15 shX12_readsSum_0) uw_0_239)) (fun r_3 h_4 => ?_)
        refine vp_callSi (runS_r (As := [.int r_3]) (rest := []) S (q_sumSign l D cI cB cZ r_3 ) kS_RX12_287 hK hP [] rfl ⟨Nat.le_of_ble_eq_true rfl, Nat.le_of_ble_eq_true rfl⟩ ⟨Nat.le_of_ble_eq_true rfl, Nat.le_of_ble_eq_true rfl⟩ rfl hl.1 rfl (Nat.le_of_ble_eq_true rfl) (oc_184 18 (aq_18 shX12_readsSum_0) uw_1_31)) (fun r_5 h_6 => ?_)
        rcases h_6 with rfl | ⟨mr_5, hmr_5, hvr_5, rfl⟩
        ·
          refine lv_istore_n (lv' := [(2, .int (-1)), (1, .int (nI (cn 24))), (0, .ref (g 100))]) hx hb (oc_61 21 (aq_21 shX12_readsSum_0)) rfl hl (ltb rfl) rfl (fun ls hl => ?_)
          refine lv_iload_n hx hb (oc_28 22 (aq_22 shX12_readsSum_0)) rfl (lvA0 hl) ?_
          refine lv_iconst (v := (-1)) hx hb (oc_2 23 (aq_23 shX12_readsSum_0)) kic_m1 ?_
          refine lv_icmp_eq (tgt := 84) hx hb (oc_159 24 shX12_readsSum_24 sgw_0_60) rfl (fun _ => ?_) (fun h => absurd h cq_eq_m1_m1)
          refine lv_aload_n hx hb (oc_42 84 (aq_9 shX12_readsSum_75)) rfl (lvA2 hl) ?_
          refine vp_callSi (runV_ra (As := []) (rest := []) S (q_here l D cI cB cZ g c14 I14 F14  hI14 (by (first | omega | (have zz0 := Hid.u hi_c14; have zz1 := Hid.u hi_cn; have zz2 := Hid.u hi_cn2; have zz3 := Hid.u hq_c14; have zz4 := Hid.u hq_cn2; omega))) (by (first | omega | (have zz0 := Hid.u hi_c14; have zz1 := Hid.u hi_cn; have zz2 := Hid.u hi_cn2; have zz3 := Hid.u hq_c14; have zz4 := Hid.u hq_cn2; omega)))) kV_RX12_239 hK hP 0 rfl rfl rfl ⟨Nat.le_of_ble_eq_true rfl, Nat.le_of_ble_eq_true rfl⟩ ⟨Nat.le_of_ble_eq_true rfl, Nat.le_of_ble_eq_true rfl⟩ rfl hl.1 rfl (Nat.le_of_ble_eq_true rfl) (oc_182 85 (aq_10 shX12_readsSum_75) uw_0_239)) (fun r_7 h_8 => ?_)
          refine lv_bipush (v := 93) hx hb (oc_16 88 (aq_13 shX12_readsSum_75) sgb_93) kbc_93 ?_
          refine lv_icmp_ne (tgt := 139) hx hb (oc_160 90 (aq_15 shX12_readsSum_75) sgw_0_49) rfl (fun c_9 => ?_) (fun c_9 => ?_)
          ·
            have tc_9 : (r_7.toInt : Int) ≠ 93 := fun q => c_9 (Int32.toInt_inj.mp q)
            refine lv_aload_n hx hb (oc_42 139 (aq_13 shX12_readsSum_126)) rfl (lvA2 hl) ?_
            refine lv_iload_n hx hb (oc_27 140 (aq_14 shX12_readsSum_126)) rfl (lvA1 hl) ?_
            refine vp_callSi (runV_ra (As := [.int (nI (cn 24))]) (rest := []) S (q_hasOpenSum l D cI cB cZ g c14 I14 F14 (cn 24) hI14 hx14_0.wk (by (first | omega | (have zz0 := Hid.u hi_c14; have zz1 := Hid.u hi_cn; have zz2 := Hid.u hi_cn2; have zz3 := Hid.u hq_c14; have zz4 := Hid.u hq_cn2; omega))) (by (first | omega | (have zz0 := Hid.u hi_c14; have zz1 := Hid.u hi_cn; have zz2 := Hid.u hi_cn2; have zz3 := Hid.u hq_c14; have zz4 := Hid.u hq_cn2; omega)))) kV_RX12_294 hK hP 0 rfl rfl rfl ⟨Nat.le_of_ble_eq_true rfl, Nat.le_of_ble_eq_true rfl⟩ ⟨Nat.le_of_ble_eq_true rfl, Nat.le_of_ble_eq_true rfl⟩ rfl hl.1 rfl (Nat.le_of_ble_eq_true rfl) (oc_182 141 (aq_15 shX12_readsSum_126) uw_1_38)) (fun r_10 h_11 => ?_)
            rcases h_11 with ⟨rfl, h_11⟩ | ⟨rfl, h_11⟩
            ·
              refine lv_if_eq (tgt := 157) hx hb dX12_readsSum_144 rfl (fun h => absurd h cq_eq_1_0) (fun _ => ?_)
              refine lv_aload_n hx hb (oc_42 147 (aq_21 shX12_readsSum_126)) rfl (lvA2 hl) ?_
              refine lv_iconst (v := 1) hx hb (oc_4 148 (aq_22 shX12_readsSum_126)) kic_1 ?_
              refine lv_aload_n hx hb (oc_42 149 (aq_23 shX12_readsSum_126)) rfl (lvA2 hl) ?_
              refine gM_233 S hK hP (v := .int (nI (c14 19))) rfl (oc_180 150 shX12_readsSum_150 uw_0_233) ?_
              have hFc := free_all hD hS hA
              refine va_calli (runV_a (As := [.int 1, .int (nI (c14 19))]) (rest := []) S (q_wrong l D cI cB cZ g c14 I14 F14 1 (nI (c14 19)) H.size hI14) kV_RX12_246 hK hP hD 0 rfl rfl rfl ⟨Nat.le_of_ble_eq_true rfl, Nat.le_of_ble_eq_true rfl⟩ ⟨Nat.le_of_ble_eq_true rfl, Nat.le_of_ble_eq_true rfl⟩ rfl hl.1 rfl (Nat.le_of_ble_eq_true rfl) (oc_182 153 (aq_3 shX12_readsSum_150) uw_0_246)) hS (fun q _ h => hFc q h) hFc (fun r_12 u t H1 locs ht hvm wh_13 hB hz1 hk1 hS => ?_)
              obtain ⟨cn13, In13, Fn13⟩ := u
              obtain ⟨hP1, hD1⟩ := hB
              rw [ht] at hP1
              have vh_13 : (fun r c2 I2 F2 => (∀ k : Nat, k ∉ [21] → I2 k = I14 k) ∧ ((r = 0 ∧ (True) ∧ c14 = c2 ∧ F14 = F2))) r_12 cn13 In13 Fn13 := wh_13
              obtain ⟨hI13_, vh_13⟩ := vh_13
              obtain ⟨rfl, h_13, rfl, rfl⟩ := vh_13
              have hf13 : Fr [19, 23, 24, 26] [21, 22] [27, 28] cn In Fn c14 In13 F14 := Fr.mo (Fr.tr hfr14 (show Fr [] [21] [] c14 I14 F14 c14 In13 F14 from ⟨fun _ _ => rfl, hI13_, fun _ _ => rfl⟩)) (sbl rfl) (sbl rfl) (sbl rfl)
              have hP : va_P D vwCl (wM cI cB cZ g c14 In13 F14) H1 := hP1
              have hD : va_D A (wM cI cB cZ g c14 In13 F14) := hD1.weaken (fun _ _ _ h => hFc _ h)
              generalize H1 = H at hP hS ⊢
              exact W.zret (v := 0) hx hb hr rfl (fun t ht hW => ⟨⟨0, (c14, In13, F14), rfl, ⟨(Fr.mo hf13 (sbl rfl) (sbl rfl) (sbl rfl)), hI14, (by show 0 = 0 ∨ (0 = 1 ∧ PBk (c14 19) (c14 20) (c14 23) (c14 24) (F14 27) (F14 28) a0 (H0 + 1) s0 ∧ c14 24 = cn 24 ∧ (∀ k : Nat, k < a0 → F14 27 k = Fn 27 k) ∧ (∀ i : Nat, i < cn 24 → F14 28 i = Fn 28 i) ∧ cn 19 < c14 19); exact Or.inl rfl)⟩, by rw [ht]; exact hP, hD⟩, hS.F ht⟩) hS.2.2 (oc_172 156 (aq_6 shX12_readsSum_150))
            ·
              refine lv_if_eq (tgt := 157) hx hb dX12_readsSum_144 rfl (fun _ => ?_) (fun h => absurd h cq_eq_0_0)
              refine lv_aload_n hx hb (oc_42 157 (aq_7 shX12_readsSum_150)) rfl (lvA2 hl) ?_
              refine lv_iconst (v := 1) hx hb (oc_4 158 (aq_8 shX12_readsSum_150)) kic_1 ?_
              have hFc := free_all hD hS hA
              refine va_callv (runV_a (As := [.int 1]) (rest := []) S (q_closesSums l D cI cB cZ g c14 I14 F14 a0 H0 (cn 24) s0 1 H.size hI14 hx14_0) kV_RX12_290 hK hP hD 0 rfl rfl rfl ⟨Nat.le_of_ble_eq_true rfl, Nat.le_of_ble_eq_true rfl⟩ ⟨Nat.le_of_ble_eq_true rfl, Nat.le_of_ble_eq_true rfl⟩ rfl hl.1 rfl (Nat.le_of_ble_eq_true rfl) (oc_182 159 (aq_9 shX12_readsSum_150) uw_1_34)) hS (fun q _ h => hFc q h) hFc (fun u t H1 locs ht hvm wh_15 hB hz1 hk1 hS => ?_)
              obtain ⟨cn15, In15, Fn15⟩ := u
              obtain ⟨hP1, hD1⟩ := hB
              rw [ht] at hP1
              have hP : va_P D vwCl (wM cI cB cZ g cn15 In15 Fn15) H1 := hP1
              have hD : va_D A (wM cI cB cZ g cn15 In15 Fn15) := hD1.weaken (fun _ _ _ h => hFc _ h)
              generalize H1 = H at hP hS ⊢
              have vh_15 : (fun c2 I2 F2 => Fr [23, 24] [] [27] c14 I14 F14 c2 I2 F2 ∧ IM c2 F2 ∧ ((PSx (c2 19) (c2 20) (c2 23) (c2 24) (F2 27) (F2 28) a0 (H0 + 1) (cn 24) s0) ∧ c2 24 ≤ (c14 24) ∧ (∀ k : Nat, k < a0 → F2 27 k = (F14 27) k) ∧ (∀ i : Nat, c2 24 ≤ i → i < (c14 24) → kd (F2 28 i) ≤ 6) ∧ (¬ (1 : Int32) = 0 → c2 24 = (cn 24) ∨ kd (F2 28 (c2 24 - 1)) = 14))) cn15 In15 Fn15 := wh_15
              obtain ⟨hfc15, hIn15, h_15⟩ := vh_15
              obtain rfl : I14 = In15 := (funext (fun k => hfc15.2.1 k List.not_mem_nil)).symm
              have hf15 : Fr [19, 23, 24, 26] [21, 22] [27, 28] cn In Fn cn15 I14 Fn15 := Fr.mo (Fr.tr hfr14 hfc15) (sbl rfl) (sbl rfl) (sbl rfl)
              have hi_cn15 : Hid (CB cn15) := hIn15.b
              have : cn15 20 = cn 20 := hf15.1 20 (nml rfl)
              have : cn15 25 = cn 25 := hf15.1 25 (nml rfl)
              have hq_cn15 := Hid.i (frq_19_23_24_26_0_1_2_46_57_58_62_63_75_83_44 hf15)
              have : cn15 19 = (c14 19) := hfc15.1 19 (nml rfl)
              have : cn15 20 = (c14 20) := hfc15.1 20 (nml rfl)
              have : cn15 25 = (c14 25) := hfc15.1 25 (nml rfl)
              obtain ⟨h_15a, h_15b, h_15c, h_15d, h_15e⟩ := h_15
              have h_15f := h_15a.f
              have e28_15 : Fn15 28 = F14 28 := hfc15.2.2 28 (nml rfl)
              have sd15 : ∀ k : Nat, k < a0 → Fn15 27 k = Fn 27 k := fun k hk => (h_15c k hk).trans (hx14_1 k hk)
              have wt15 : ∀ i : Nat, i < (cn 24) → Fn15 28 i = Fn 28 i := fun i hi => (congrFun e28_15 i).trans (hx14_2 i hi)
              have hw14 : cn15 24 = cn 24 := no14 (W := Fn15 28) (w := c14 24) (by rw [e28_15]; exact h_11) (h_15e (by decide)) (by (first | omega | (have zz0 := Hid.u hi_c14; have zz1 := Hid.u hi_cn; have zz2 := Hid.u hi_cn15; have zz3 := Hid.u hi_cn2; have zz4 := Hid.u hq_c14; have zz5 := Hid.u hq_cn15; have zz6 := Hid.u hq_cn2; omega))) (by (first | omega | (have zz0 := Hid.u hi_c14; have zz1 := Hid.u hi_cn; have zz2 := Hid.u hi_cn15; have zz3 := Hid.u hi_cn2; have zz4 := Hid.u hq_c14; have zz5 := Hid.u hq_cn15; have zz6 := Hid.u hq_cn2; omega)))
              refine lv_iconst (v := 1) hx hb (oc_4 162 (aq_12 shX12_readsSum_150)) kic_1 ?_
              exact W.zret (v := 1) hx hb hr rfl (fun t ht hW => ⟨⟨1, (cn15, I14, Fn15), rfl, ⟨(Fr.mo hf15 (sbl rfl) (sbl rfl) (sbl rfl)), hIn15, (by show 1 = 0 ∨ (1 = 1 ∧ PBk (cn15 19) (cn15 20) (cn15 23) (cn15 24) (Fn15 27) (Fn15 28) a0 (H0 + 1) s0 ∧ cn15 24 = cn 24 ∧ (∀ k : Nat, k < a0 → Fn15 27 k = Fn 27 k) ∧ (∀ i : Nat, i < cn 24 → Fn15 28 i = Fn 28 i) ∧ cn 19 < cn15 19); exact Or.inr ⟨rfl, PSx.fin' h_15a hw14, hw14, sd15, wt15, by (first | omega | (have zz0 := Hid.u hi_c14; have zz1 := Hid.u hi_cn; have zz2 := Hid.u hi_cn15; have zz3 := Hid.u hi_cn2; have zz4 := Hid.u hq_c14; have zz5 := Hid.u hq_cn15; have zz6 := Hid.u hq_cn2; omega))⟩)⟩, by rw [ht]; exact hP, hD⟩, hS.F ht⟩) hS.2.2 (oc_172 163 (aq_13 shX12_readsSum_150))
          ·
            have tc_9 : (r_7.toInt : Int) = 93 := congrArg Int32.toInt c_9
            refine lv_aload_n hx hb (oc_42 93 (aq_18 shX12_readsSum_75)) rfl (lvA2 hl) ?_
            refine lv_iload_n hx hb (oc_27 94 (aq_19 shX12_readsSum_75)) rfl (lvA1 hl) ?_
            refine vp_callSi (runV_ra (As := [.int (nI (cn 24))]) (rest := []) S (q_hasOpenSum l D cI cB cZ g c14 I14 F14 (cn 24) hI14 hx14_0.wk (by (first | omega | (have zz0 := Hid.u hi_c14; have zz1 := Hid.u hi_cn; have zz2 := Hid.u hi_cn2; have zz3 := Hid.u hq_c14; have zz4 := Hid.u hq_cn2; omega))) (by (first | omega | (have zz0 := Hid.u hi_c14; have zz1 := Hid.u hi_cn; have zz2 := Hid.u hi_cn2; have zz3 := Hid.u hq_c14; have zz4 := Hid.u hq_cn2; omega)))) kV_RX12_294 hK hP 0 rfl rfl rfl ⟨Nat.le_of_ble_eq_true rfl, Nat.le_of_ble_eq_true rfl⟩ ⟨Nat.le_of_ble_eq_true rfl, Nat.le_of_ble_eq_true rfl⟩ rfl hl.1 rfl (Nat.le_of_ble_eq_true rfl) (oc_182 95 (aq_20 shX12_readsSum_75) uw_1_38)) (fun r_16 h_17 => ?_)
            rcases h_17 with ⟨rfl, h_17⟩ | ⟨rfl, h_17⟩
            ·
              refine lv_if_eq (tgt := 139) hx hb (oc_153 98 (aq_23 shX12_readsSum_75) sgw_0_41) rfl (fun h => absurd h cq_eq_1_0) (fun _ => ?_)
              refine lv_aload_n hx hb (oc_42 101 shX12_readsSum_101) rfl (lvA2 hl) ?_
              refine lv_iconst (v := 1) hx hb (oc_4 102 (aq_1 shX12_readsSum_101)) kic_1 ?_
              have hFc := free_all hD hS hA
              refine va_callv (runV_a (As := [.int 1]) (rest := []) S (q_closesSums l D cI cB cZ g c14 I14 F14 a0 H0 (cn 24) s0 1 H.size hI14 hx14_0) kV_RX12_290 hK hP hD 0 rfl rfl rfl ⟨Nat.le_of_ble_eq_true rfl, Nat.le_of_ble_eq_true rfl⟩ ⟨Nat.le_of_ble_eq_true rfl, Nat.le_of_ble_eq_true rfl⟩ rfl hl.1 rfl (Nat.le_of_ble_eq_true rfl) (oc_182 103 (aq_2 shX12_readsSum_101) uw_1_34)) hS (fun q _ h => hFc q h) hFc (fun u t H1 locs ht hvm wh_19 hB hz1 hk1 hS => ?_)
              obtain ⟨cn19, In19, Fn19⟩ := u
              obtain ⟨hP1, hD1⟩ := hB
              rw [ht] at hP1
              have hP : va_P D vwCl (wM cI cB cZ g cn19 In19 Fn19) H1 := hP1
              have hD : va_D A (wM cI cB cZ g cn19 In19 Fn19) := hD1.weaken (fun _ _ _ h => hFc _ h)
              generalize H1 = H at hP hS ⊢
              have vh_19 : (fun c2 I2 F2 => Fr [23, 24] [] [27] c14 I14 F14 c2 I2 F2 ∧ IM c2 F2 ∧ ((PSx (c2 19) (c2 20) (c2 23) (c2 24) (F2 27) (F2 28) a0 (H0 + 1) (cn 24) s0) ∧ c2 24 ≤ (c14 24) ∧ (∀ k : Nat, k < a0 → F2 27 k = (F14 27) k) ∧ (∀ i : Nat, c2 24 ≤ i → i < (c14 24) → kd (F2 28 i) ≤ 6) ∧ (¬ (1 : Int32) = 0 → c2 24 = (cn 24) ∨ kd (F2 28 (c2 24 - 1)) = 14))) cn19 In19 Fn19 := wh_19
              obtain ⟨hfc19, hIn19, h_19⟩ := vh_19
              obtain rfl : I14 = In19 := (funext (fun k => hfc19.2.1 k List.not_mem_nil)).symm
              have hf19 : Fr [19, 23, 24, 26] [21, 22] [27, 28] cn In Fn cn19 I14 Fn19 := Fr.mo (Fr.tr hfr14 hfc19) (sbl rfl) (sbl rfl) (sbl rfl)
              have hi_cn19 : Hid (CB cn19) := hIn19.b
              have : cn19 20 = cn 20 := hf19.1 20 (nml rfl)
              have : cn19 25 = cn 25 := hf19.1 25 (nml rfl)
              have hq_cn19 := Hid.i (frq_19_23_24_26_0_1_2_46_57_58_62_63_75_83_44 hf19)
              have : cn19 19 = (c14 19) := hfc19.1 19 (nml rfl)
              have : cn19 20 = (c14 20) := hfc19.1 20 (nml rfl)
              have : cn19 25 = (c14 25) := hfc19.1 25 (nml rfl)
              obtain ⟨h_19a, h_19b, h_19c, h_19d, h_19e⟩ := h_19
              have h_19f := h_19a.f
              have e28_19 : Fn19 28 = F14 28 := hfc19.2.2 28 (nml rfl)
              have sd19 : ∀ k : Nat, k < a0 → Fn19 27 k = Fn 27 k := fun k hk => (h_19c k hk).trans (hx14_1 k hk)
              have wt19 : ∀ i : Nat, i < (cn 24) → Fn19 28 i = Fn 28 i := fun i hi => (congrFun e28_19 i).trans (hx14_2 i hi)
              have ht14 := top14 (W := Fn19 28) (w' := cn19 24) (by rw [e28_19]; exact h_17) h_19d (h_19e (by decide)) (by (first | omega | (have zz0 := Hid.u hi_c14; have zz1 := Hid.u hi_cn; have zz2 := Hid.u hi_cn19; have zz3 := Hid.u hi_cn2; have zz4 := Hid.u hq_c14; have zz5 := Hid.u hq_cn19; have zz6 := Hid.u hq_cn2; omega)))
              refine lv_aload_n hx hb (oc_42 106 (aq_5 shX12_readsSum_101)) rfl (lvA2 hl) ?_
              refine lv_aload_n hx hb (oc_42 107 (aq_6 shX12_readsSum_101)) rfl (lvA2 hl) ?_
              refine gM_264 S hK hP (v := .int (nI (cn19 24))) rfl (oc_180 108 (aq_7 shX12_readsSum_101) uw_1_8) ?_
              refine lv_iconst (v := 1) hx hb (oc_4 111 (aq_10 shX12_readsSum_101)) kic_1 ?_
              refine lv_isub hx hb (oc_100 112 (aq_11 shX12_readsSum_101)) ?_
              refine lv_topi (fun y_20 ey_20 => ?_)
              obtain rfl : y_20 = (nI ((cn19 24) - 1)) := ey_20.trans (nI_sub (b := 1) (by (first | omega | (have zz0 := Hid.u hi_c14; have zz1 := Hid.u hi_cn; have zz2 := Hid.u hi_cn19; have zz3 := Hid.u hi_cn2; have zz4 := Hid.u hq_c14; have zz5 := Hid.u hq_cn19; have zz6 := Hid.u hq_cn2; omega))))
              refine pM_264 S hK hP hD hS (a := ((cn19 24) - 1)) (cn2 := (va_up cn19 24 ((cn19 24) - 1))) rfl rfl (oc_181 113 (aq_12 shX12_readsSum_101) uw_1_8) (fun H locs hP hD hS => ?_)
              refine lv_aload_n hx hb (oc_42 116 (aq_15 shX12_readsSum_101)) rfl (lvA2 hl) ?_
              refine lv_aload_n hx hb (oc_42 117 (aq_16 shX12_readsSum_101)) rfl (lvA2 hl) ?_
              refine gM_261 S hK hP (v := .int (I14 22)) rfl (oc_180 118 (aq_17 shX12_readsSum_101) uw_1_5) ?_
              refine lv_iconst (v := 1) hx hb (oc_4 121 (aq_20 shX12_readsSum_101)) kic_1 ?_
              refine lv_isub hx hb (oc_100 122 (aq_21 shX12_readsSum_101)) ?_
              refine pM_261 S hK hP hD hS (In2 := (va_up I14 22 ((I14 22) - 1))) rfl (oc_181 123 (aq_22 shX12_readsSum_101) uw_1_5) (fun H locs hP hD hS => ?_)
              refine lv_aload_n hx hb (oc_42 126 shX12_readsSum_126) rfl (lvA2 hl) ?_
              refine lv_aload_n hx hb (oc_42 127 (aq_1 shX12_readsSum_126)) rfl (lvA2 hl) ?_
              refine gM_233 S hK hP (v := .int (nI (cn19 19))) rfl (oc_180 128 (aq_2 shX12_readsSum_126) uw_0_233) ?_
              refine lv_iconst (v := 1) hx hb (oc_4 131 (aq_5 shX12_readsSum_126)) kic_1 ?_
              refine lv_iadd hx hb (oc_96 132 (aq_6 shX12_readsSum_126)) ?_
              refine lv_topi (fun y_21 ey_21 => ?_)
              obtain rfl : y_21 = (nI ((cn19 19) + 1)) := ey_21.trans (nI_add (cn19 19) 1)
              refine pM_233 S hK hP hD hS (a := ((cn19 19) + 1)) (cn2 := (va_up (va_up cn19 24 ((cn19 24) - 1)) 19 ((cn19 19) + 1))) rfl rfl (oc_181 133 (aq_7 shX12_readsSum_126) uw_0_233) (fun H locs hP hD hS => ?_)
              refine lv_goto (tgt := 164) hx hb (oc_167 136 (aq_10 shX12_readsSum_126) sgw_0_28) rfl ?_
              refine lv_goto (tgt := 14) hx hb (oc_167 164 (aq_14 shX12_readsSum_150) sgw_255_106) rfl ?_
              exact ih14  (va_up (va_up cn19 24 ((cn19 24) - 1)) 19 ((cn19 19) + 1)) (va_up I14 22 ((I14 22) - 1)) Fn19 _ _ (show cn 20 - ((cn19 19) + 1) < n14 by (first | omega | (have zz0 := Hid.u hi_c14; have zz1 := Hid.u hi_cn; have zz2 := Hid.u hi_cn19; have zz3 := Hid.u hi_cn2; have zz4 := Hid.u hq_c14; have zz5 := Hid.u hq_cn19; have zz6 := Hid.u hq_cn2; omega))) ⟨(Fr.mo (Fr.i 22 (Fr.c 19 (Fr.c 24 hf19))) (sbl rfl) (sbl rfl) (sbl rfl)), (IM.fr (In := I14) hIn19 (Fr.c 19 (Fr.c 24 Fr.rf)) (by decide) (by decide)), (by have q := PSx.pop14' h_19a ht14.1 ht14.2 (by (first | omega | (have zz0 := Hid.u hi_c14; have zz1 := Hid.u hi_cn; have zz2 := Hid.u hi_cn19; have zz3 := Hid.u hi_cn2; have zz4 := Hid.u hq_c14; have zz5 := Hid.u hq_cn19; have zz6 := Hid.u hq_cn2; omega))); exact q), sd19, wt19, (by show cn 19 < cn19 19 + 1; (first | omega | (have zz0 := Hid.u hi_c14; have zz1 := Hid.u hi_cn; have zz2 := Hid.u hi_cn19; have zz3 := Hid.u hi_cn2; have zz4 := Hid.u hq_c14; have zz5 := Hid.u hq_cn19; have zz6 := Hid.u hq_cn2; omega)))⟩ hP hD hS ls (lv_sub hl [1, 2] rfl)
            ·
              refine lv_if_eq (tgt := 139) hx hb (oc_153 98 (aq_23 shX12_readsSum_75) sgw_0_41) rfl (fun _ => ?_) (fun h => absurd h cq_eq_0_0)
              refine lv_aload_n hx hb (oc_42 139 (aq_13 shX12_readsSum_126)) rfl (lvA2 hl) ?_
              refine lv_iload_n hx hb (oc_27 140 (aq_14 shX12_readsSum_126)) rfl (lvA1 hl) ?_
              refine vp_callSi (runV_ra (As := [.int (nI (cn 24))]) (rest := []) S (q_hasOpenSum l D cI cB cZ g c14 I14 F14 (cn 24) hI14 hx14_0.wk (by (first | omega | (have zz0 := Hid.u hi_c14; have zz1 := Hid.u hi_cn; have zz2 := Hid.u hi_cn2; have zz3 := Hid.u hq_c14; have zz4 := Hid.u hq_cn2; omega))) (by (first | omega | (have zz0 := Hid.u hi_c14; have zz1 := Hid.u hi_cn; have zz2 := Hid.u hi_cn2; have zz3 := Hid.u hq_c14; have zz4 := Hid.u hq_cn2; omega)))) kV_RX12_294 hK hP 0 rfl rfl rfl ⟨Nat.le_of_ble_eq_true rfl, Nat.le_of_ble_eq_true rfl⟩ ⟨Nat.le_of_ble_eq_true rfl, Nat.le_of_ble_eq_true rfl⟩ rfl hl.1 rfl (Nat.le_of_ble_eq_true rfl) (oc_182 141 (aq_15 shX12_readsSum_126) uw_1_38)) (fun r_22 h_23 => ?_)
              rcases h_23 with ⟨rfl, h_23⟩ | ⟨rfl, h_23⟩
              ·
                refine lv_if_eq (tgt := 157) hx hb dX12_readsSum_144 rfl (fun h => absurd h cq_eq_1_0) (fun _ => ?_)
                refine lv_aload_n hx hb (oc_42 147 (aq_21 shX12_readsSum_126)) rfl (lvA2 hl) ?_
                refine lv_iconst (v := 1) hx hb (oc_4 148 (aq_22 shX12_readsSum_126)) kic_1 ?_
                refine lv_aload_n hx hb (oc_42 149 (aq_23 shX12_readsSum_126)) rfl (lvA2 hl) ?_
                refine gM_233 S hK hP (v := .int (nI (c14 19))) rfl (oc_180 150 shX12_readsSum_150 uw_0_233) ?_
                have hFc := free_all hD hS hA
                refine va_calli (runV_a (As := [.int 1, .int (nI (c14 19))]) (rest := []) S (q_wrong l D cI cB cZ g c14 I14 F14 1 (nI (c14 19)) H.size hI14) kV_RX12_246 hK hP hD 0 rfl rfl rfl ⟨Nat.le_of_ble_eq_true rfl, Nat.le_of_ble_eq_true rfl⟩ ⟨Nat.le_of_ble_eq_true rfl, Nat.le_of_ble_eq_true rfl⟩ rfl hl.1 rfl (Nat.le_of_ble_eq_true rfl) (oc_182 153 (aq_3 shX12_readsSum_150) uw_0_246)) hS (fun q _ h => hFc q h) hFc (fun r_24 u t H1 locs ht hvm wh_25 hB hz1 hk1 hS => ?_)
                obtain ⟨cn25, In25, Fn25⟩ := u
                obtain ⟨hP1, hD1⟩ := hB
                rw [ht] at hP1
                have vh_25 : (fun r c2 I2 F2 => (∀ k : Nat, k ∉ [21] → I2 k = I14 k) ∧ ((r = 0 ∧ (True) ∧ c14 = c2 ∧ F14 = F2))) r_24 cn25 In25 Fn25 := wh_25
                obtain ⟨hI25_, vh_25⟩ := vh_25
                obtain ⟨rfl, h_25, rfl, rfl⟩ := vh_25
                have hf25 : Fr [19, 23, 24, 26] [21, 22] [27, 28] cn In Fn c14 In25 F14 := Fr.mo (Fr.tr hfr14 (show Fr [] [21] [] c14 I14 F14 c14 In25 F14 from ⟨fun _ _ => rfl, hI25_, fun _ _ => rfl⟩)) (sbl rfl) (sbl rfl) (sbl rfl)
                have hP : va_P D vwCl (wM cI cB cZ g c14 In25 F14) H1 := hP1
                have hD : va_D A (wM cI cB cZ g c14 In25 F14) := hD1.weaken (fun _ _ _ h => hFc _ h)
                generalize H1 = H at hP hS ⊢
                exact W.zret (v := 0) hx hb hr rfl (fun t ht hW => ⟨⟨0, (c14, In25, F14), rfl, ⟨(Fr.mo hf25 (sbl rfl) (sbl rfl) (sbl rfl)), hI14, (by show 0 = 0 ∨ (0 = 1 ∧ PBk (c14 19) (c14 20) (c14 23) (c14 24) (F14 27) (F14 28) a0 (H0 + 1) s0 ∧ c14 24 = cn 24 ∧ (∀ k : Nat, k < a0 → F14 27 k = Fn 27 k) ∧ (∀ i : Nat, i < cn 24 → F14 28 i = Fn 28 i) ∧ cn 19 < c14 19); exact Or.inl rfl)⟩, by rw [ht]; exact hP, hD⟩, hS.F ht⟩) hS.2.2 (oc_172 156 (aq_6 shX12_readsSum_150))
              ·
                refine lv_if_eq (tgt := 157) hx hb dX12_readsSum_144 rfl (fun _ => ?_) (fun h => absurd h cq_eq_0_0)
                refine lv_aload_n hx hb (oc_42 157 (aq_7 shX12_readsSum_150)) rfl (lvA2 hl) ?_
                refine lv_iconst (v := 1) hx hb (oc_4 158 (aq_8 shX12_readsSum_150)) kic_1 ?_
                have hFc := free_all hD hS hA
                refine va_callv (runV_a (As := [.int 1]) (rest := []) S (q_closesSums l D cI cB cZ g c14 I14 F14 a0 H0 (cn 24) s0 1 H.size hI14 hx14_0) kV_RX12_290 hK hP hD 0 rfl rfl rfl ⟨Nat.le_of_ble_eq_true rfl, Nat.le_of_ble_eq_true rfl⟩ ⟨Nat.le_of_ble_eq_true rfl, Nat.le_of_ble_eq_true rfl⟩ rfl hl.1 rfl (Nat.le_of_ble_eq_true rfl) (oc_182 159 (aq_9 shX12_readsSum_150) uw_1_34)) hS (fun q _ h => hFc q h) hFc (fun u t H1 locs ht hvm wh_27 hB hz1 hk1 hS => ?_)
                obtain ⟨cn27, In27, Fn27⟩ := u
                obtain ⟨hP1, hD1⟩ := hB
                rw [ht] at hP1
                have hP : va_P D vwCl (wM cI cB cZ g cn27 In27 Fn27) H1 := hP1
                have hD : va_D A (wM cI cB cZ g cn27 In27 Fn27) := hD1.weaken (fun _ _ _ h => hFc _ h)
                generalize H1 = H at hP hS ⊢
                have vh_27 : (fun c2 I2 F2 => Fr [23, 24] [] [27] c14 I14 F14 c2 I2 F2 ∧ IM c2 F2 ∧ ((PSx (c2 19) (c2 20) (c2 23) (c2 24) (F2 27) (F2 28) a0 (H0 + 1) (cn 24) s0) ∧ c2 24 ≤ (c14 24) ∧ (∀ k : Nat, k < a0 → F2 27 k = (F14 27) k) ∧ (∀ i : Nat, c2 24 ≤ i → i < (c14 24) → kd (F2 28 i) ≤ 6) ∧ (¬ (1 : Int32) = 0 → c2 24 = (cn 24) ∨ kd (F2 28 (c2 24 - 1)) = 14))) cn27 In27 Fn27 := wh_27
                obtain ⟨hfc27, hIn27, h_27⟩ := vh_27
                obtain rfl : I14 = In27 := (funext (fun k => hfc27.2.1 k List.not_mem_nil)).symm
                have hf27 : Fr [19, 23, 24, 26] [21, 22] [27, 28] cn In Fn cn27 I14 Fn27 := Fr.mo (Fr.tr hfr14 hfc27) (sbl rfl) (sbl rfl) (sbl rfl)
                have hi_cn27 : Hid (CB cn27) := hIn27.b
                have : cn27 20 = cn 20 := hf27.1 20 (nml rfl)
                have : cn27 25 = cn 25 := hf27.1 25 (nml rfl)
                have hq_cn27 := Hid.i (frq_19_23_24_26_0_1_2_46_57_58_62_63_75_83_44 hf27)
                have : cn27 19 = (c14 19) := hfc27.1 19 (nml rfl)
                have : cn27 20 = (c14 20) := hfc27.1 20 (nml rfl)
                have : cn27 25 = (c14 25) := hfc27.1 25 (nml rfl)
                obtain ⟨h_27a, h_27b, h_27c, h_27d, h_27e⟩ := h_27
                have h_27f := h_27a.f
                have e28_27 : Fn27 28 = F14 28 := hfc27.2.2 28 (nml rfl)
                have sd27 : ∀ k : Nat, k < a0 → Fn27 27 k = Fn 27 k := fun k hk => (h_27c k hk).trans (hx14_1 k hk)
                have wt27 : ∀ i : Nat, i < (cn 24) → Fn27 28 i = Fn 28 i := fun i hi => (congrFun e28_27 i).trans (hx14_2 i hi)
                have hw14 : cn27 24 = cn 24 := no14 (W := Fn27 28) (w := c14 24) (by rw [e28_27]; exact h_23) (h_27e (by decide)) (by (first | omega | (have zz0 := Hid.u hi_c14; have zz1 := Hid.u hi_cn; have zz2 := Hid.u hi_cn2; have zz3 := Hid.u hi_cn27; have zz4 := Hid.u hq_c14; have zz5 := Hid.u hq_cn2; have zz6 := Hid.u hq_cn27; omega))) (by (first | omega | (have zz0 := Hid.u hi_c14; have zz1 := Hid.u hi_cn; have zz2 := Hid.u hi_cn2; have zz3 := Hid.u hi_cn27; have zz4 := Hid.u hq_c14; have zz5 := Hid.u hq_cn2; have zz6 := Hid.u hq_cn27; omega)))
                refine lv_iconst (v := 1) hx hb (oc_4 162 (aq_12 shX12_readsSum_150)) kic_1 ?_
                exact W.zret (v := 1) hx hb hr rfl (fun t ht hW => ⟨⟨1, (cn27, I14, Fn27), rfl, ⟨(Fr.mo hf27 (sbl rfl) (sbl rfl) (sbl rfl)), hIn27, (by show 1 = 0 ∨ (1 = 1 ∧ PBk (cn27 19) (cn27 20) (cn27 23) (cn27 24) (Fn27 27) (Fn27 28) a0 (H0 + 1) s0 ∧ cn27 24 = cn 24 ∧ (∀ k : Nat, k < a0 → Fn27 27 k = Fn 27 k) ∧ (∀ i : Nat, i < cn 24 → Fn27 28 i = Fn 28 i) ∧ cn 19 < cn27 19); exact Or.inr ⟨rfl, PSx.fin' h_27a hw14, hw14, sd27, wt27, by (first | omega | (have zz0 := Hid.u hi_c14; have zz1 := Hid.u hi_cn; have zz2 := Hid.u hi_cn2; have zz3 := Hid.u hi_cn27; have zz4 := Hid.u hq_c14; have zz5 := Hid.u hq_cn2; have zz6 := Hid.u hq_cn27; omega))⟩)⟩, by rw [ht]; exact hP, hD⟩, hS.F ht⟩) hS.2.2 (oc_172 163 (aq_13 shX12_readsSum_150))
        ·
          refine lv_istore_n (lv' := [(2, .int (nI mr_5)), (1, .int (nI (cn 24))), (0, .ref (g 100))]) hx hb (oc_61 21 (aq_21 shX12_readsSum_0)) rfl hl (ltb rfl) rfl (fun ls hl => ?_)
          refine lv_iload_n hx hb (oc_28 22 (aq_22 shX12_readsSum_0)) rfl (lvA0 hl) ?_
          refine lv_iconst (v := (-1)) hx hb (oc_2 23 (aq_23 shX12_readsSum_0)) kic_m1 ?_
          have : (nI mr_5).toInt = ((mr_5 : Nat) : Int) := nI_toInt (by (first | omega | (have zz0 := Hid.u hi_c14; have zz1 := Hid.u hi_cn; have zz2 := Hid.u hi_cn2; have zz3 := Hid.u hq_c14; have zz4 := Hid.u hq_cn2; omega)))
          refine lv_icmp_eq (tgt := 84) hx hb (oc_159 24 shX12_readsSum_24 sgw_0_60) rfl (fun c_28 => False.elim (by have tc_28 : ((nI mr_5).toInt : Int) = (-1) := congrArg Int32.toInt c_28; (first | omega | (have zz0 := Hid.u hi_c14; have zz1 := Hid.u hi_cn; have zz2 := Hid.u hi_cn2; have zz3 := Hid.u hq_c14; have zz4 := Hid.u hq_cn2; omega)))) (fun c_28 => ?_)
          have tc_28 : ((nI mr_5).toInt : Int) ≠ (-1) := fun q => c_28 (Int32.toInt_inj.mp q)
          refine lv_aload_n hx hb (oc_42 27 (aq_3 shX12_readsSum_24)) rfl (lvA2 hl) ?_
          refine lv_iload_n hx hb (oc_28 28 (aq_4 shX12_readsSum_24)) rfl (lvA0 hl) ?_
          refine lv_iconst (v := 4) hx hb (oc_7 29 (aq_5 shX12_readsSum_24)) kic_4 ?_
          refine lv_icmp_ge (tgt := 37) hx hb (oc_162 30 (aq_6 shX12_readsSum_24) sgw_0_7) rfl (fun c_29 => ?_) (fun c_29 => ?_)
          ·
            have tc_29 : (4 : Int) ≤ (nI mr_5).toInt := Int32.le_iff_toInt_le.mp c_29
            refine lv_iconst (v := 0) hx hb (oc_3 37 (aq_13 shX12_readsSum_24)) kic_0 ?_
            have hFc := free_all hD hS hA
            refine va_callv (runV_a (As := [.int 0]) (rest := []) S (q_closesSums l D cI cB cZ g c14 I14 F14 a0 H0 (cn 24) s0 0 H.size hI14 hx14_0) kV_RX12_290 hK hP hD 0 rfl rfl rfl ⟨Nat.le_of_ble_eq_true rfl, Nat.le_of_ble_eq_true rfl⟩ ⟨Nat.le_of_ble_eq_true rfl, Nat.le_of_ble_eq_true rfl⟩ rfl hl.1 rfl (Nat.le_of_ble_eq_true rfl) (oc_182 38 (aq_14 shX12_readsSum_24) uw_1_34)) hS (fun q _ h => hFc q h) hFc (fun u t H1 locs ht hvm wh_31 hB hz1 hk1 hS => ?_)
            obtain ⟨cn31, In31, Fn31⟩ := u
            obtain ⟨hP1, hD1⟩ := hB
            rw [ht] at hP1
            have hP : va_P D vwCl (wM cI cB cZ g cn31 In31 Fn31) H1 := hP1
            have hD : va_D A (wM cI cB cZ g cn31 In31 Fn31) := hD1.weaken (fun _ _ _ h => hFc _ h)
            generalize H1 = H at hP hS ⊢
            have vh_31 : (fun c2 I2 F2 => Fr [23, 24] [] [27] c14 I14 F14 c2 I2 F2 ∧ IM c2 F2 ∧ ((PSx (c2 19) (c2 20) (c2 23) (c2 24) (F2 27) (F2 28) a0 (H0 + 1) (cn 24) s0) ∧ c2 24 ≤ (c14 24) ∧ (∀ k : Nat, k < a0 → F2 27 k = (F14 27) k) ∧ (∀ i : Nat, c2 24 ≤ i → i < (c14 24) → kd (F2 28 i) ≤ 6) ∧ (¬ (0 : Int32) = 0 → c2 24 = (cn 24) ∨ kd (F2 28 (c2 24 - 1)) = 14))) cn31 In31 Fn31 := wh_31
            obtain ⟨hfc31, hIn31, h_31⟩ := vh_31
            obtain rfl : I14 = In31 := (funext (fun k => hfc31.2.1 k List.not_mem_nil)).symm
            have hf31 : Fr [19, 23, 24, 26] [21, 22] [27, 28] cn In Fn cn31 I14 Fn31 := Fr.mo (Fr.tr hfr14 hfc31) (sbl rfl) (sbl rfl) (sbl rfl)
            have hi_cn31 : Hid (CB cn31) := hIn31.b
            have : cn31 20 = cn 20 := hf31.1 20 (nml rfl)
            have : cn31 25 = cn 25 := hf31.1 25 (nml rfl)
            have hq_cn31 := Hid.i (frq_19_23_24_26_0_1_2_46_57_58_62_63_75_83_44 hf31)
            have : cn31 19 = (c14 19) := hfc31.1 19 (nml rfl)
            have : cn31 20 = (c14 20) := hfc31.1 20 (nml rfl)
            have : cn31 25 = (c14 25) := hfc31.1 25 (nml rfl)
            obtain ⟨h_31a, h_31b, h_31c, h_31d, h_31e⟩ := h_31
            have h_31f := h_31a.f
            have e28_31 : Fn31 28 = F14 28 := hfc31.2.2 28 (nml rfl)
            have sd31 : ∀ k : Nat, k < a0 → Fn31 27 k = Fn 27 k := fun k hk => (h_31c k hk).trans (hx14_1 k hk)
            have wt31 : ∀ i : Nat, i < (cn 24) → Fn31 28 i = Fn 28 i := fun i hi => (congrFun e28_31 i).trans (hx14_2 i hi)
            refine lv_aload_n hx hb (oc_42 41 (aq_17 shX12_readsSum_24)) rfl (lvA2 hl) ?_
            refine gM_59 S hK hP (v := .ref (g 28)) rfl (oc_180 42 (aq_18 shX12_readsSum_24) uw_0_59) ?_
            refine lv_aload_n hx hb (oc_42 45 (aq_21 shX12_readsSum_24)) rfl (lvA2 hl) ?_
            refine gM_264 S hK hP (v := .int (nI (cn31 24))) rfl (oc_180 46 (aq_22 shX12_readsSum_24) uw_1_8) ?_
            refine lv_ldcw (v := 1048576) hx hb hown (S.2.2.2.2 _ (wk7_17 11 rfl rfl)) (oc_19 49 shX12_readsSum_49 uw_1_4) ?_
            refine lv_iload_n hx hb (oc_28 52 (aq_3 shX12_readsSum_49)) rfl (lvA0 hl) ?_
            refine lv_imul hx hb (oc_104 53 (aq_4 shX12_readsSum_49)) ?_
            refine lv_topi (fun y_32 ey_32 => ?_)
            obtain rfl : y_32 = (nI (mr_5 * 1048576)) := ey_32.trans ((pk_mul 1048576 mr_5).trans (congrArg nI (Nat.mul_comm _ _)))
            have kb_1 : (cn31 24) < 180 := by (first | omega | (have zz0 := Hid.u hi_c14; have zz1 := Hid.u hi_cn; have zz2 := Hid.u hi_cn2; have zz3 := Hid.u hi_cn31; have zz4 := Hid.u hq_c14; have zz5 := Hid.u hq_cn2; have zz6 := Hid.u hq_cn31; omega))
            refine stM_28 hx hb hK hP hD hS (Fn2 := (va_up Fn31 28 (upd (Fn31 28) (cn31 24) (nI (mr_5 * 1048576))))) (vp_in_nI kb_1 (ltb rfl)) (nI_clamp (Nat.lt_trans kb_1 (ltb rfl))) rfl (oc_79 54 (aq_5 shX12_readsSum_49)) (fun H locs hP hD hS => ?_)
            refine lv_aload_n hx hb (oc_42 55 (aq_6 shX12_readsSum_49)) rfl (lvA2 hl) ?_
            refine lv_aload_n hx hb (oc_42 56 (aq_7 shX12_readsSum_49)) rfl (lvA2 hl) ?_
            refine gM_264 S hK hP (v := .int (nI (cn31 24))) rfl (oc_180 57 (aq_8 shX12_readsSum_49) uw_1_8) ?_
            refine lv_iconst (v := 1) hx hb (oc_4 60 (aq_11 shX12_readsSum_49)) kic_1 ?_
            refine lv_iadd hx hb (oc_96 61 (aq_12 shX12_readsSum_49)) ?_
            refine lv_topi (fun y_33 ey_33 => ?_)
            obtain rfl : y_33 = (nI ((cn31 24) + 1)) := ey_33.trans (nI_add (cn31 24) 1)
            refine pM_264 S hK hP hD hS (a := ((cn31 24) + 1)) (cn2 := (va_up cn31 24 ((cn31 24) + 1))) rfl rfl (oc_181 62 (aq_13 shX12_readsSum_49) uw_1_8) (fun H locs hP hD hS => ?_)
            refine lv_aload_n hx hb (oc_42 65 (aq_16 shX12_readsSum_49)) rfl (lvA2 hl) ?_
            refine lv_aload_n hx hb (oc_42 66 (aq_17 shX12_readsSum_49)) rfl (lvA2 hl) ?_
            refine gM_233 S hK hP (v := .int (nI (cn31 19))) rfl (oc_180 67 (aq_18 shX12_readsSum_49) uw_0_233) ?_
            refine lv_iconst (v := 1) hx hb (oc_4 70 (aq_21 shX12_readsSum_49)) kic_1 ?_
            refine lv_iadd hx hb (oc_96 71 (aq_22 shX12_readsSum_49)) ?_
            refine lv_topi (fun y_34 ey_34 => ?_)
            obtain rfl : y_34 = (nI ((cn31 19) + 1)) := ey_34.trans (nI_add (cn31 19) 1)
            refine pM_233 S hK hP hD hS (a := ((cn31 19) + 1)) (cn2 := (va_up (va_up cn31 24 ((cn31 24) + 1)) 19 ((cn31 19) + 1))) rfl rfl (oc_181 72 (aq_23 shX12_readsSum_49) uw_0_233) (fun H locs hP hD hS => ?_)
            refine lv_aload_n hx hb (oc_42 75 shX12_readsSum_75) rfl (lvA2 hl) ?_
            have hFc := free_all hD hS hA
            refine va_calli (runV_a (As := []) (rest := []) S (q_readsFactor l D cI cB cZ g (va_up (va_up cn31 24 ((cn31 24) + 1)) 19 ((cn31 19) + 1)) I14 (va_up Fn31 28 (upd (Fn31 28) (cn31 24) (nI (mr_5 * 1048576)))) a0 H0 (cn 24) s0 H.size (IM.fr (In := I14) hIn31 (Fr.f 28 (Fr.c 19 (Fr.c 24 Fr.rf))) (by decide) (by decide)) (by have q := PSx.pushop (n := mr_5) h_31a (by (first | omega | (have zz0 := Hid.u hi_c14; have zz1 := Hid.u hi_cn; have zz2 := Hid.u hi_cn2; have zz3 := Hid.u hi_cn31; have zz4 := Hid.u hq_c14; have zz5 := Hid.u hq_cn2; have zz6 := Hid.u hq_cn31; omega))) (by (first | omega | (have zz0 := Hid.u hi_c14; have zz1 := Hid.u hi_cn; have zz2 := Hid.u hi_cn2; have zz3 := Hid.u hi_cn31; have zz4 := Hid.u hq_c14; have zz5 := Hid.u hq_cn2; have zz6 := Hid.u hq_cn31; omega))) (by (first | omega | (have zz0 := Hid.u hi_c14; have zz1 := Hid.u hi_cn; have zz2 := Hid.u hi_cn2; have zz3 := Hid.u hi_cn31; have zz4 := Hid.u hq_c14; have zz5 := Hid.u hq_cn2; have zz6 := Hid.u hq_cn31; omega))); exact q)) kV_RX12_284 hK hP hD 0 rfl rfl rfl ⟨Nat.le_of_ble_eq_true rfl, Nat.le_of_ble_eq_true rfl⟩ ⟨Nat.le_of_ble_eq_true rfl, Nat.le_of_ble_eq_true rfl⟩ rfl hl.1 rfl (Nat.le_of_ble_eq_true rfl) (oc_182 76 (aq_1 shX12_readsSum_75) uw_1_28)) hS (fun q _ h => hFc q h) hFc (fun r_35 u t H1 locs ht hvm wh_36 hB hz1 hk1 hS => ?_)
            obtain ⟨cn36, In36, Fn36⟩ := u
            obtain ⟨hP1, hD1⟩ := hB
            rw [ht] at hP1
            have hP : va_P D vwCl (wM cI cB cZ g cn36 In36 Fn36) H1 := hP1
            have hD : va_D A (wM cI cB cZ g cn36 In36 Fn36) := hD1.weaken (fun _ _ _ h => hFc _ h)
            generalize H1 = H at hP hS ⊢
            have vh_36 : (fun r c2 I2 F2 => Fr [19, 23, 24, 26] [21, 22] [27, 28] (va_up (va_up cn31 24 ((cn31 24) + 1)) 19 ((cn31 19) + 1)) I14 (va_up Fn31 28 (upd (Fn31 28) (cn31 24) (nI (mr_5 * 1048576)))) c2 I2 F2 ∧ IM c2 F2 ∧ (r = 0 ∨ (r = 1 ∧ PSx (c2 19) (c2 20) (c2 23) (c2 24) (F2 27) (F2 28) a0 (H0 + 1) (cn 24) s0 ∧ (∀ k : Nat, k < a0 → F2 27 k = (Fn31 27) k) ∧ (∀ i : Nat, i < (cn 24) → F2 28 i = (upd (Fn31 28) (cn31 24) (nI (mr_5 * 1048576))) i) ∧ ((cn31 19) + 1) < c2 19))) r_35 cn36 In36 Fn36 := wh_36
            obtain ⟨hfc36, hIn36, h_36⟩ := vh_36
            have hf36 : Fr [19, 23, 24, 26] [21, 22] [27, 28] cn In Fn cn36 In36 Fn36 := Fr.mo (Fr.tr (Fr.f 28 (Fr.c 19 (Fr.c 24 hf31))) hfc36) (sbl rfl) (sbl rfl) (sbl rfl)
            have hi_cn36 : Hid (CB cn36) := hIn36.b
            have : cn36 20 = cn 20 := hf36.1 20 (nml rfl)
            have : cn36 25 = cn 25 := hf36.1 25 (nml rfl)
            have hq_cn36 := Hid.i (frq_19_23_24_26_0_1_2_46_57_58_62_63_75_83_44 hf36)
            have : cn36 20 = (cn31 20) := hfc36.1 20 (nml rfl)
            have : cn36 25 = (cn31 25) := hfc36.1 25 (nml rfl)
            rcases h_36 with rfl | ⟨rfl, kh_36⟩
            ·
              refine lv_if_ne (tgt := 164) hx hb dX12_readsSum_79 rfl (fun h => absurd h cq_eq_0_0) (fun _ => ?_)
              refine lv_iconst (v := 0) hx hb (oc_3 82 (aq_7 shX12_readsSum_75)) kic_0 ?_
              exact W.zret (v := 0) hx hb hr rfl (fun t ht hW => ⟨⟨0, (cn36, In36, Fn36), rfl, ⟨(Fr.mo hf36 (sbl rfl) (sbl rfl) (sbl rfl)), hIn36, (by show 0 = 0 ∨ (0 = 1 ∧ PBk (cn36 19) (cn36 20) (cn36 23) (cn36 24) (Fn36 27) (Fn36 28) a0 (H0 + 1) s0 ∧ cn36 24 = cn 24 ∧ (∀ k : Nat, k < a0 → Fn36 27 k = Fn 27 k) ∧ (∀ i : Nat, i < cn 24 → Fn36 28 i = Fn 28 i) ∧ cn 19 < cn36 19); exact Or.inl rfl)⟩, by rw [ht]; exact hP, hD⟩, hS.F ht⟩) hS.2.2 (oc_172 83 (aq_8 shX12_readsSum_75))
            ·
              obtain ⟨kh_36a, kh_36b, kh_36c, kh_36d⟩ := kh_36
              have kh_36f := kh_36a.f
              refine lv_if_ne (tgt := 164) hx hb dX12_readsSum_79 rfl (fun _ => ?_) (fun h => absurd h cq_eq_1_0)
              refine lv_goto (tgt := 14) hx hb (oc_167 164 (aq_14 shX12_readsSum_150) sgw_255_106) rfl ?_
              exact ih14  cn36 In36 Fn36 _ _ (show cn 20 - (cn36 19) < n14 by (first | omega | (have zz0 := Hid.u hi_c14; have zz1 := Hid.u hi_cn; have zz2 := Hid.u hi_cn2; have zz3 := Hid.u hi_cn31; have zz4 := Hid.u hi_cn36; have zz5 := Hid.u hq_c14; have zz6 := Hid.u hq_cn2; have zz7 := Hid.u hq_cn31; have zz8 := Hid.u hq_cn36; omega))) ⟨(Fr.mo hf36 (sbl rfl) (sbl rfl) (sbl rfl)), hIn36, kh_36a, (fun k hk => (kh_36b k hk).trans (sd31 k hk)), (fun i hi => (kh_36c i hi).trans ((upd_lt (by (first | omega | (have zz0 := Hid.u hi_c14; have zz1 := Hid.u hi_cn; have zz2 := Hid.u hi_cn2; have zz3 := Hid.u hi_cn31; have zz4 := Hid.u hi_cn36; have zz5 := Hid.u hq_c14; have zz6 := Hid.u hq_cn2; have zz7 := Hid.u hq_cn31; have zz8 := Hid.u hq_cn36; omega)))).trans (wt31 i hi))), (by (first | omega | (have zz0 := Hid.u hi_c14; have zz1 := Hid.u hi_cn; have zz2 := Hid.u hi_cn2; have zz3 := Hid.u hi_cn31; have zz4 := Hid.u hi_cn36; have zz5 := Hid.u hq_c14; have zz6 := Hid.u hq_cn2; have zz7 := Hid.u hq_cn31; have zz8 := Hid.u hq_cn36; omega)))⟩ hP hD hS ls (lv_sub hl [1, 2] rfl)
          ·
            have tc_29 : ((nI mr_5).toInt : Int) < 4 := Int32.lt_iff_toInt_lt.mp (Int32.not_le.mp c_29)
            refine lv_iconst (v := 1) hx hb (oc_4 33 (aq_9 shX12_readsSum_24)) kic_1 ?_
            refine lv_goto (tgt := 38) hx hb (oc_167 34 (aq_10 shX12_readsSum_24) sgw_0_4) rfl ?_
            have hFc := free_all hD hS hA
            refine va_callv (runV_a (As := [.int 1]) (rest := []) S (q_closesSums l D cI cB cZ g c14 I14 F14 a0 H0 (cn 24) s0 1 H.size hI14 hx14_0) kV_RX12_290 hK hP hD 0 rfl rfl rfl ⟨Nat.le_of_ble_eq_true rfl, Nat.le_of_ble_eq_true rfl⟩ ⟨Nat.le_of_ble_eq_true rfl, Nat.le_of_ble_eq_true rfl⟩ rfl hl.1 rfl (Nat.le_of_ble_eq_true rfl) (oc_182 38 (aq_14 shX12_readsSum_24) uw_1_34)) hS (fun q _ h => hFc q h) hFc (fun u t H1 locs ht hvm wh_38 hB hz1 hk1 hS => ?_)
            obtain ⟨cn38, In38, Fn38⟩ := u
            obtain ⟨hP1, hD1⟩ := hB
            rw [ht] at hP1
            have hP : va_P D vwCl (wM cI cB cZ g cn38 In38 Fn38) H1 := hP1
            have hD : va_D A (wM cI cB cZ g cn38 In38 Fn38) := hD1.weaken (fun _ _ _ h => hFc _ h)
            generalize H1 = H at hP hS ⊢
            have vh_38 : (fun c2 I2 F2 => Fr [23, 24] [] [27] c14 I14 F14 c2 I2 F2 ∧ IM c2 F2 ∧ ((PSx (c2 19) (c2 20) (c2 23) (c2 24) (F2 27) (F2 28) a0 (H0 + 1) (cn 24) s0) ∧ c2 24 ≤ (c14 24) ∧ (∀ k : Nat, k < a0 → F2 27 k = (F14 27) k) ∧ (∀ i : Nat, c2 24 ≤ i → i < (c14 24) → kd (F2 28 i) ≤ 6) ∧ (¬ (1 : Int32) = 0 → c2 24 = (cn 24) ∨ kd (F2 28 (c2 24 - 1)) = 14))) cn38 In38 Fn38 := wh_38
            obtain ⟨hfc38, hIn38, h_38⟩ := vh_38
            obtain rfl : I14 = In38 := (funext (fun k => hfc38.2.1 k List.not_mem_nil)).symm
            have hf38 : Fr [19, 23, 24, 26] [21, 22] [27, 28] cn In Fn cn38 I14 Fn38 := Fr.mo (Fr.tr hfr14 hfc38) (sbl rfl) (sbl rfl) (sbl rfl)
            have hi_cn38 : Hid (CB cn38) := hIn38.b
            have : cn38 20 = cn 20 := hf38.1 20 (nml rfl)
            have : cn38 25 = cn 25 := hf38.1 25 (nml rfl)
            have hq_cn38 := Hid.i (frq_19_23_24_26_0_1_2_46_57_58_62_63_75_83_44 hf38)
            have : cn38 19 = (c14 19) := hfc38.1 19 (nml rfl)
            have : cn38 20 = (c14 20) := hfc38.1 20 (nml rfl)
            have : cn38 25 = (c14 25) := hfc38.1 25 (nml rfl)
            obtain ⟨h_38a, h_38b, h_38c, h_38d, h_38e⟩ := h_38
            have h_38f := h_38a.f
            have e28_38 : Fn38 28 = F14 28 := hfc38.2.2 28 (nml rfl)
            have sd38 : ∀ k : Nat, k < a0 → Fn38 27 k = Fn 27 k := fun k hk => (h_38c k hk).trans (hx14_1 k hk)
            have wt38 : ∀ i : Nat, i < (cn 24) → Fn38 28 i = Fn 28 i := fun i hi => (congrFun e28_38 i).trans (hx14_2 i hi)
            refine lv_aload_n hx hb (oc_42 41 (aq_17 shX12_readsSum_24)) rfl (lvA2 hl) ?_
            refine gM_59 S hK hP (v := .ref (g 28)) rfl (oc_180 42 (aq_18 shX12_readsSum_24) uw_0_59) ?_
            refine lv_aload_n hx hb (oc_42 45 (aq_21 shX12_readsSum_24)) rfl (lvA2 hl) ?_
            refine gM_264 S hK hP (v := .int (nI (cn38 24))) rfl (oc_180 46 (aq_22 shX12_readsSum_24) uw_1_8) ?_
            refine lv_ldcw (v := 1048576) hx hb hown (S.2.2.2.2 _ (wk7_17 11 rfl rfl)) (oc_19 49 shX12_readsSum_49 uw_1_4) ?_
            refine lv_iload_n hx hb (oc_28 52 (aq_3 shX12_readsSum_49)) rfl (lvA0 hl) ?_
            refine lv_imul hx hb (oc_104 53 (aq_4 shX12_readsSum_49)) ?_
            refine lv_topi (fun y_39 ey_39 => ?_)
            obtain rfl : y_39 = (nI (mr_5 * 1048576)) := ey_39.trans ((pk_mul 1048576 mr_5).trans (congrArg nI (Nat.mul_comm _ _)))
            have kb_2 : (cn38 24) < 180 := by (first | omega | (have zz0 := Hid.u hi_c14; have zz1 := Hid.u hi_cn; have zz2 := Hid.u hi_cn2; have zz3 := Hid.u hi_cn38; have zz4 := Hid.u hq_c14; have zz5 := Hid.u hq_cn2; have zz6 := Hid.u hq_cn38; omega))
            refine stM_28 hx hb hK hP hD hS (Fn2 := (va_up Fn38 28 (upd (Fn38 28) (cn38 24) (nI (mr_5 * 1048576))))) (vp_in_nI kb_2 (ltb rfl)) (nI_clamp (Nat.lt_trans kb_2 (ltb rfl))) rfl (oc_79 54 (aq_5 shX12_readsSum_49)) (fun H locs hP hD hS => ?_)
            refine lv_aload_n hx hb (oc_42 55 (aq_6 shX12_readsSum_49)) rfl (lvA2 hl) ?_
            refine lv_aload_n hx hb (oc_42 56 (aq_7 shX12_readsSum_49)) rfl (lvA2 hl) ?_
            refine gM_264 S hK hP (v := .int (nI (cn38 24))) rfl (oc_180 57 (aq_8 shX12_readsSum_49) uw_1_8) ?_
            refine lv_iconst (v := 1) hx hb (oc_4 60 (aq_11 shX12_readsSum_49)) kic_1 ?_
            refine lv_iadd hx hb (oc_96 61 (aq_12 shX12_readsSum_49)) ?_
            refine lv_topi (fun y_40 ey_40 => ?_)
            obtain rfl : y_40 = (nI ((cn38 24) + 1)) := ey_40.trans (nI_add (cn38 24) 1)
            refine pM_264 S hK hP hD hS (a := ((cn38 24) + 1)) (cn2 := (va_up cn38 24 ((cn38 24) + 1))) rfl rfl (oc_181 62 (aq_13 shX12_readsSum_49) uw_1_8) (fun H locs hP hD hS => ?_)
            refine lv_aload_n hx hb (oc_42 65 (aq_16 shX12_readsSum_49)) rfl (lvA2 hl) ?_
            refine lv_aload_n hx hb (oc_42 66 (aq_17 shX12_readsSum_49)) rfl (lvA2 hl) ?_
            refine gM_233 S hK hP (v := .int (nI (cn38 19))) rfl (oc_180 67 (aq_18 shX12_readsSum_49) uw_0_233) ?_
            refine lv_iconst (v := 1) hx hb (oc_4 70 (aq_21 shX12_readsSum_49)) kic_1 ?_
            refine lv_iadd hx hb (oc_96 71 (aq_22 shX12_readsSum_49)) ?_
            refine lv_topi (fun y_41 ey_41 => ?_)
            obtain rfl : y_41 = (nI ((cn38 19) + 1)) := ey_41.trans (nI_add (cn38 19) 1)
            refine pM_233 S hK hP hD hS (a := ((cn38 19) + 1)) (cn2 := (va_up (va_up cn38 24 ((cn38 24) + 1)) 19 ((cn38 19) + 1))) rfl rfl (oc_181 72 (aq_23 shX12_readsSum_49) uw_0_233) (fun H locs hP hD hS => ?_)
            refine lv_aload_n hx hb (oc_42 75 shX12_readsSum_75) rfl (lvA2 hl) ?_
            have hFc := free_all hD hS hA
            refine va_calli (runV_a (As := []) (rest := []) S (q_readsFactor l D cI cB cZ g (va_up (va_up cn38 24 ((cn38 24) + 1)) 19 ((cn38 19) + 1)) I14 (va_up Fn38 28 (upd (Fn38 28) (cn38 24) (nI (mr_5 * 1048576)))) a0 H0 (cn 24) s0 H.size (IM.fr (In := I14) hIn38 (Fr.f 28 (Fr.c 19 (Fr.c 24 Fr.rf))) (by decide) (by decide)) (by have q := PSx.pushop (n := mr_5) h_38a (by (first | omega | (have zz0 := Hid.u hi_c14; have zz1 := Hid.u hi_cn; have zz2 := Hid.u hi_cn2; have zz3 := Hid.u hi_cn38; have zz4 := Hid.u hq_c14; have zz5 := Hid.u hq_cn2; have zz6 := Hid.u hq_cn38; omega))) (by (first | omega | (have zz0 := Hid.u hi_c14; have zz1 := Hid.u hi_cn; have zz2 := Hid.u hi_cn2; have zz3 := Hid.u hi_cn38; have zz4 := Hid.u hq_c14; have zz5 := Hid.u hq_cn2; have zz6 := Hid.u hq_cn38; omega))) (by (first | omega | (have zz0 := Hid.u hi_c14; have zz1 := Hid.u hi_cn; have zz2 := Hid.u hi_cn2; have zz3 := Hid.u hi_cn38; have zz4 := Hid.u hq_c14; have zz5 := Hid.u hq_cn2; have zz6 := Hid.u hq_cn38; omega))); exact q)) kV_RX12_284 hK hP hD 0 rfl rfl rfl ⟨Nat.le_of_ble_eq_true rfl, Nat.le_of_ble_eq_true rfl⟩ ⟨Nat.le_of_ble_eq_true rfl, Nat.le_of_ble_eq_true rfl⟩ rfl hl.1 rfl (Nat.le_of_ble_eq_true rfl) (oc_182 76 (aq_1 shX12_readsSum_75) uw_1_28)) hS (fun q _ h => hFc q h) hFc (fun r_42 u t H1 locs ht hvm wh_43 hB hz1 hk1 hS => ?_)
            obtain ⟨cn43, In43, Fn43⟩ := u
            obtain ⟨hP1, hD1⟩ := hB
            rw [ht] at hP1
            have hP : va_P D vwCl (wM cI cB cZ g cn43 In43 Fn43) H1 := hP1
            have hD : va_D A (wM cI cB cZ g cn43 In43 Fn43) := hD1.weaken (fun _ _ _ h => hFc _ h)
            generalize H1 = H at hP hS ⊢
            have vh_43 : (fun r c2 I2 F2 => Fr [19, 23, 24, 26] [21, 22] [27, 28] (va_up (va_up cn38 24 ((cn38 24) + 1)) 19 ((cn38 19) + 1)) I14 (va_up Fn38 28 (upd (Fn38 28) (cn38 24) (nI (mr_5 * 1048576)))) c2 I2 F2 ∧ IM c2 F2 ∧ (r = 0 ∨ (r = 1 ∧ PSx (c2 19) (c2 20) (c2 23) (c2 24) (F2 27) (F2 28) a0 (H0 + 1) (cn 24) s0 ∧ (∀ k : Nat, k < a0 → F2 27 k = (Fn38 27) k) ∧ (∀ i : Nat, i < (cn 24) → F2 28 i = (upd (Fn38 28) (cn38 24) (nI (mr_5 * 1048576))) i) ∧ ((cn38 19) + 1) < c2 19))) r_42 cn43 In43 Fn43 := wh_43
            obtain ⟨hfc43, hIn43, h_43⟩ := vh_43
            have hf43 : Fr [19, 23, 24, 26] [21, 22] [27, 28] cn In Fn cn43 In43 Fn43 := Fr.mo (Fr.tr (Fr.f 28 (Fr.c 19 (Fr.c 24 hf38))) hfc43) (sbl rfl) (sbl rfl) (sbl rfl)
            have hi_cn43 : Hid (CB cn43) := hIn43.b
            have : cn43 20 = cn 20 := hf43.1 20 (nml rfl)
            have : cn43 25 = cn 25 := hf43.1 25 (nml rfl)
            have hq_cn43 := Hid.i (frq_19_23_24_26_0_1_2_46_57_58_62_63_75_83_44 hf43)
            have : cn43 20 = (cn38 20) := hfc43.1 20 (nml rfl)
            have : cn43 25 = (cn38 25) := hfc43.1 25 (nml rfl)
            rcases h_43 with rfl | ⟨rfl, kh_43⟩
            ·
              refine lv_if_ne (tgt := 164) hx hb dX12_readsSum_79 rfl (fun h => absurd h cq_eq_0_0) (fun _ => ?_)
              refine lv_iconst (v := 0) hx hb (oc_3 82 (aq_7 shX12_readsSum_75)) kic_0 ?_
              exact W.zret (v := 0) hx hb hr rfl (fun t ht hW => ⟨⟨0, (cn43, In43, Fn43), rfl, ⟨(Fr.mo hf43 (sbl rfl) (sbl rfl) (sbl rfl)), hIn43, (by show 0 = 0 ∨ (0 = 1 ∧ PBk (cn43 19) (cn43 20) (cn43 23) (cn43 24) (Fn43 27) (Fn43 28) a0 (H0 + 1) s0 ∧ cn43 24 = cn 24 ∧ (∀ k : Nat, k < a0 → Fn43 27 k = Fn 27 k) ∧ (∀ i : Nat, i < cn 24 → Fn43 28 i = Fn 28 i) ∧ cn 19 < cn43 19); exact Or.inl rfl)⟩, by rw [ht]; exact hP, hD⟩, hS.F ht⟩) hS.2.2 (oc_172 83 (aq_8 shX12_readsSum_75))
            ·
              obtain ⟨kh_43a, kh_43b, kh_43c, kh_43d⟩ := kh_43
              have kh_43f := kh_43a.f
              refine lv_if_ne (tgt := 164) hx hb dX12_readsSum_79 rfl (fun _ => ?_) (fun h => absurd h cq_eq_1_0)
              refine lv_goto (tgt := 14) hx hb (oc_167 164 (aq_14 shX12_readsSum_150) sgw_255_106) rfl ?_
              exact ih14  cn43 In43 Fn43 _ _ (show cn 20 - (cn43 19) < n14 by (first | omega | (have zz0 := Hid.u hi_c14; have zz1 := Hid.u hi_cn; have zz2 := Hid.u hi_cn2; have zz3 := Hid.u hi_cn38; have zz4 := Hid.u hi_cn43; have zz5 := Hid.u hq_c14; have zz6 := Hid.u hq_cn2; have zz7 := Hid.u hq_cn38; have zz8 := Hid.u hq_cn43; omega))) ⟨(Fr.mo hf43 (sbl rfl) (sbl rfl) (sbl rfl)), hIn43, kh_43a, (fun k hk => (kh_43b k hk).trans (sd38 k hk)), (fun i hi => (kh_43c i hi).trans ((upd_lt (by (first | omega | (have zz0 := Hid.u hi_c14; have zz1 := Hid.u hi_cn; have zz2 := Hid.u hi_cn2; have zz3 := Hid.u hi_cn38; have zz4 := Hid.u hi_cn43; have zz5 := Hid.u hq_c14; have zz6 := Hid.u hq_cn2; have zz7 := Hid.u hq_cn38; have zz8 := Hid.u hq_cn43; omega)))).trans (wt38 i hi))), (by (first | omega | (have zz0 := Hid.u hi_c14; have zz1 := Hid.u hi_cn; have zz2 := Hid.u hi_cn2; have zz3 := Hid.u hi_cn38; have zz4 := Hid.u hi_cn43; have zz5 := Hid.u hq_c14; have zz6 := Hid.u hq_cn2; have zz7 := Hid.u hq_cn38; have zz8 := Hid.u hq_cn43; omega)))⟩ hP hD hS ls (lv_sub hl [1, 2] rfl)
    exact lp_14 _  cn2 In2 Fn2 _ _ (Nat.lt_succ_self _) ⟨(Fr.mo hf2 (sbl rfl) (sbl rfl) (sbl rfl)), hIn2, kh_2a, kh_2b, kh_2c, kh_2d⟩ hP hD hS ls (lv_sub hl [0, 1] rfl)
end

section
theorem nin31 {k : Nat} (h : 32 ≤ k) : k ∉ [27, 28, 29, 30, 31] := by
  intro q
  simp at q
  omega
theorem new_cl {C D f34 f35 f36 : Nat → Int32} {t cm n a g b : Nat} (H : ∀ q : Nat, q < n → ClOK D (180 * t) (f34 (12 * t + q)) (f35 (12 * t + q)) (f36 (12 * t + q))) (e : ∀ k : Nat, k < cm → D (180 * t + k) = C k) (hcm : cm ≤ 160) (k1 : a ≤ g) (k2 : g ≤ b) (k3 : b ≤ cm) (s1 : SegOK C 0 a g) (s2 : SegOK C 0 g b) : ∀ q : Nat, q < n + 1 → ClOK D (180 * t) (upd f34 (12 * t + n) (nI (180 * t + a)) (12 * t + q)) (upd f35 (12 * t + n) (nI (180 * t + g)) (12 * t + q)) (upd f36 (12 * t + n) (nI (180 * t + b)) (12 * t + q)) := fun q hq => by
  by_cases z : q = n
  · subst z
    rw [show upd f34 (12 * t + q) (nI (180 * t + a)) (12 * t + q) = nI (180 * t + a) by simp [upd], show upd f35 (12 * t + q) (nI (180 * t + g)) (12 * t + q) = nI (180 * t + g) by simp [upd], show upd f36 (12 * t + q) (nI (180 * t + b)) (12 * t + q) = nI (180 * t + b) by simp [upd]]
    exact ⟨180 * t + a, 180 * t + g, 180 * t + b, rfl, rfl, rfl, by omega, by omega, by omega, by omega, by omega, s1.mv (fun k hk => e k (by omega)), s2.mv (fun k hk => e k (by omega))⟩
  · rw [upd_nq (by omega), upd_nq (by omega), upd_nq (by omega)]
    exact H q (by omega)

theorem frq_24_0_1_2_46_57_58_62_63_75_83_44 {li lf : List Nat} {cn c2 : Nat → Nat} {In I2 : Nat → Int32} {Fn F2 : Nat → Nat → Int32} (h : Fr [24] li lf cn In Fn c2 I2 F2) : c2 0 = cn 0 ∧ c2 1 = cn 1 ∧ c2 2 = cn 2 ∧ c2 46 = cn 46 ∧ c2 57 = cn 57 ∧ c2 58 = cn 58 ∧ c2 62 = cn 62 ∧ c2 63 = cn 63 ∧ c2 75 = cn 75 ∧ c2 83 = cn 83 ∧ c2 44 = cn 44 := ⟨h.1 0 (nml rfl), h.1 1 (nml rfl), h.1 2 (nml rfl), h.1 46 (nml rfl), h.1 57 (nml rfl), h.1 58 (nml rfl), h.1 62 (nml rfl), h.1 63 (nml rfl), h.1 75 (nml rfl), h.1 83 (nml rfl), h.1 44 (nml rfl)⟩
theorem cq_eq_9_m1 : ¬((9 : Int32) = (-1)) := by decide
theorem cq_eq_8_m1 : ¬((8 : Int32) = (-1)) := by decide
theorem cq_eq_7_m1 : ¬((7 : Int32) = (-1)) := by decide
theorem frq_19_23_24_25_26_0_1_2_46_57_58_62_63_75_83_44 {li lf : List Nat} {cn c2 : Nat → Nat} {In I2 : Nat → Int32} {Fn F2 : Nat → Nat → Int32} (h : Fr [19, 23, 24, 25, 26] li lf cn In Fn c2 I2 F2) : c2 0 = cn 0 ∧ c2 1 = cn 1 ∧ c2 2 = cn 2 ∧ c2 46 = cn 46 ∧ c2 57 = cn 57 ∧ c2 58 = cn 58 ∧ c2 62 = cn 62 ∧ c2 63 = cn 63 ∧ c2 75 = cn 75 ∧ c2 83 = cn 83 ∧ c2 44 = cn 44 := ⟨h.1 0 (nml rfl), h.1 1 (nml rfl), h.1 2 (nml rfl), h.1 46 (nml rfl), h.1 57 (nml rfl), h.1 58 (nml rfl), h.1 62 (nml rfl), h.1 63 (nml rfl), h.1 75 (nml rfl), h.1 83 (nml rfl), h.1 44 (nml rfl)⟩
theorem frq_18_19_20_23_24_25_26_0_1_2_46_57_58_62_63_75_83_44 {li lf : List Nat} {cn c2 : Nat → Nat} {In I2 : Nat → Int32} {Fn F2 : Nat → Nat → Int32} (h : Fr [18, 19, 20, 23, 24, 25, 26] li lf cn In Fn c2 I2 F2) : c2 0 = cn 0 ∧ c2 1 = cn 1 ∧ c2 2 = cn 2 ∧ c2 46 = cn 46 ∧ c2 57 = cn 57 ∧ c2 58 = cn 58 ∧ c2 62 = cn 62 ∧ c2 63 = cn 63 ∧ c2 75 = cn 75 ∧ c2 83 = cn 83 ∧ c2 44 = cn 44 := ⟨h.1 0 (nml rfl), h.1 1 (nml rfl), h.1 2 (nml rfl), h.1 46 (nml rfl), h.1 57 (nml rfl), h.1 58 (nml rfl), h.1 62 (nml rfl), h.1 63 (nml rfl), h.1 75 (nml rfl), h.1 83 (nml rfl), h.1 44 (nml rfl)⟩

set_option maxRecDepth 100000 in
set_option maxHeartbeats 4000000 in
theorem q_endsPiece (l : Launch) (D : va_G) (cI cB cZ : ClassId) (g : Nat → Nat) (cn : Nat → Nat) (In : Nat → Int32) (Fn : Nat → Nat → Int32) (a0 s0 : Nat) (sz : Nat) (hI : IM cn Fn) (hPS : PBk (cn 19) (cn 20) (cn 23) (cn 24) (Fn 27) (Fn 28) a0 1 s0) (hC : CK (cn 24) (Fn 28)) : Met l yX12_endsPiece (CWS yX12_endsPiece cX12_endsPiece 1 none) (RM 1 0 0) (PBw [.ref (g 100)] D cI cB cZ (wM cI cB cZ g cn In Fn) sz) (va_Qv (fun (u : (Nat → Nat) × (Nat → Int32) × (Nat → Nat → Int32)) => (fun c2 I2 F2 => Fr [23, 24] [22] [27] cn In Fn c2 I2 F2 ∧ IM c2 F2 ∧ ((PBk (c2 19) (c2 20) (c2 23) (c2 24) (F2 27) (F2 28) a0 1 s0) ∧ (CK (c2 24) (F2 28)) ∧ (∀ k : Nat, k < a0 → F2 27 k = Fn 27 k))) u.1 u.2.1 u.2.2) (fun (u : (Nat → Nat) × (Nat → Int32) × (Nat → Nat → Int32)) (t : State) => va_P D vwCl (wM cI cB cZ g u.1 u.2.1 u.2.2) t.heap ∧ va_D (va_A (wM cI cB cZ g cn In Fn) sz) (wM cI cB cZ g u.1 u.2.1 u.2.2)) (va_A (wM cI cB cZ g cn In Fn) sz)) 0 0 (va_A (wM cI cB cZ g cn In Fn) sz) := by
  refine en_w (fun A => (va_Qv (fun (u : (Nat → Nat) × (Nat → Int32) × (Nat → Nat → Int32)) => (fun (c2 : Nat → Nat) (I2 : Nat → Int32) (F2 : Nat → Nat → Int32) => Fr [23, 24] [22] [27] cn In Fn c2 I2 F2 ∧ IM c2 F2 ∧ ((PBk (c2 19) (c2 20) (c2 23) (c2 24) (F2 27) (F2 28) a0 1 s0) ∧ (CK (c2 24) (F2 28)) ∧ (∀ k : Nat, k < a0 → F2 27 k = Fn 27 k))) u.1 u.2.1 u.2.2) (fun (u : (Nat → Nat) × (Nat → Int32) × (Nat → Nat → Int32)) (t : State) => va_P D vwCl (wM cI cB cZ g u.1 u.2.1 u.2.2) t.heap ∧ va_D A (wM cI cB cZ g u.1 u.2.1 u.2.2)) A)) rfl rfl pn_RX12 (Nat.le_of_ble_eq_true rfl) (fun p e s m below meth c A hx hb hml hown S hr hlocks hnm hA hP hK hD hS ls hl => ?_)
  have hl : lv_has ls 1 [(0, .ref (g 100))] := hl
  have hi_cn : Hid (CB cn) := hI.b
  have lp_0 : ∀ (n : Nat)  (cz : Nat → Nat) (Iz : Nat → Int32) (Fz : Nat → Nat → Int32) (H : Heap) (locs : List Loc) , cz 24 < n → (Fr [23, 24] [22] [27] cn In Fn cz Iz Fz ∧ IM cz Fz ∧ ((PBk (cz 19) (cz 20) (cz 23) (cz 24) (Fz 27) (Fz 28) a0 1 s0)) ∧ ((CK (cz 24) (Fz 28))) ∧ ((∀ k : Nat, k < a0 → Fz 27 k = Fn 27 k))) → va_P D vwCl (wM cI cB cZ g cz Iz Fz) H → va_D A (wM cI cB cZ g cz Iz Fz) → va_S A s.heap H locs → ∀ ls : Array Slot, lv_has ls 1 [(0, .ref (g 100))] → W p l e (RM 1 0 0) s m ([.ref (g 100)]).toArray below meth c H locs 0 0 (MQ below (va_Qv (fun (u : (Nat → Nat) × (Nat → Int32) × (Nat → Nat → Int32)) => (fun c2 I2 F2 => Fr [23, 24] [22] [27] cn In Fn c2 I2 F2 ∧ IM c2 F2 ∧ ((PBk (c2 19) (c2 20) (c2 23) (c2 24) (F2 27) (F2 28) a0 1 s0) ∧ (CK (c2 24) (F2 28)) ∧ (∀ k : Nat, k < a0 → F2 27 k = Fn 27 k))) u.1 u.2.1 u.2.2) (fun (u : (Nat → Nat) × (Nat → Int32) × (Nat → Nat → Int32)) (t : State) => va_P D vwCl (wM cI cB cZ g u.1 u.2.1 u.2.2) t.heap ∧ va_D A (wM cI cB cZ g u.1 u.2.1 u.2.2)) A) ([.ref (g 100)]).toArray s 0 0 A) (F0 m 0 ls []) := by
    intro n0
    induction n0 with
    | zero => intros; (first | omega | (have zz0 := Hid.u hi_cn; omega))
    | succ n0 ih0 =>
      intro  cz Iz Fz H locs hmu0 hinv0 hP hD hS ls hl
      obtain ⟨hfr0, hI0, hx0_0, hx0_1, hx0_2⟩ := hinv0
      have hi_cz : Hid (CB cz) := hI0.b
      have : cz 19 = cn 19 := hfr0.1 19 (nml rfl)
      have : cz 20 = cn 20 := hfr0.1 20 (nml rfl)
      have : cz 25 = cn 25 := hfr0.1 25 (nml rfl)
      have hq_cz := Hid.i (frq_23_24_0_1_2_46_57_58_62_63_75_83_44 hfr0)
      have hf0 := hx0_0.f
      have hc0 := hx0_1.1
      refine lv_aload_n hx hb (oc_42 0 shX12_endsPiece_0) rfl (lvA0 hl) ?_
      refine vp_callSi (runV_ra (As := []) (rest := []) S (q_top l D cI cB cZ g cz Iz Fz  hI0 hx0_0.w (by (first | omega | (have zz0 := Hid.u hi_cn; have zz1 := Hid.u hi_cz; have zz2 := Hid.u hq_cz; omega)))) kV_RX12_267 hK hP 0 rfl rfl rfl ⟨Nat.le_of_ble_eq_true rfl, Nat.le_of_ble_eq_true rfl⟩ ⟨Nat.le_of_ble_eq_true rfl, Nat.le_of_ble_eq_true rfl⟩ rfl hl.1 rfl (Nat.le_of_ble_eq_true rfl) (oc_182 1 (aq_1 shX12_endsPiece_0) uw_1_11)) (fun r_1 h_2 => ?_)
      refine lv_bipush (v := 10) hx hb (oc_16 4 (aq_4 shX12_endsPiece_0) sgb_10) kbc_10 ?_
      refine lv_icmp_ne (tgt := 39) hx hb (oc_160 6 (aq_6 shX12_endsPiece_0) sgw_0_33) rfl (fun c_3 => ?_) (fun c_3 => ?_)
      ·
        have tc_3 : (r_1.toInt : Int) ≠ 10 := fun q => c_3 (Int32.toInt_inj.mp q)
        exact W.vret hx hb hr (fun t ht hW => ⟨⟨(cz, Iz, Fz), rfl, ⟨(Fr.mo hfr0 (sbl rfl) (sbl rfl) (sbl rfl)), hI0, (by show (PBk (cz 19) (cz 20) (cz 23) (cz 24) (Fz 27) (Fz 28) a0 1 s0) ∧ (CK (cz 24) (Fz 28)) ∧ (∀ k : Nat, k < a0 → Fz 27 k = Fn 27 k); exact ⟨hx0_0, hx0_1, hx0_2⟩)⟩, by rw [ht]; exact hP, hD⟩, hS.F ht⟩) hS.2.2 (oc_177 39 (aq_13 shX12_endsPiece_26))
      ·
        have tc_3 : (r_1.toInt : Int) = 10 := congrArg Int32.toInt c_3
        refine lv_aload_n hx hb (oc_42 9 (aq_9 shX12_endsPiece_0)) rfl (lvA0 hl) ?_
        refine lv_bipush (v := 10) hx hb (oc_16 10 (aq_10 shX12_endsPiece_0) sgb_10) kbc_10 ?_
        refine lv_iconst (v := 0) hx hb (oc_3 12 (aq_12 shX12_endsPiece_0)) kic_0 ?_
        have hFc := free_all hD hS hA
        refine va_callv (runV_a (As := [.int 10, .int 0]) (rest := []) S (q_says l D cI cB cZ g cz Iz Fz 10 0 H.size hI0 (by (first | omega | (have zz0 := Hid.u hi_cn; have zz1 := Hid.u hi_cz; have zz2 := Hid.u hq_cz; omega)))) kV_RX12_270 hK hP hD 0 rfl rfl rfl ⟨Nat.le_of_ble_eq_true rfl, Nat.le_of_ble_eq_true rfl⟩ ⟨Nat.le_of_ble_eq_true rfl, Nat.le_of_ble_eq_true rfl⟩ rfl hl.1 rfl (Nat.le_of_ble_eq_true rfl) (oc_182 13 (aq_13 shX12_endsPiece_0) uw_1_14)) hS (fun q _ h => hFc q h) hFc (fun u t H1 locs ht hvm wh_5 hB hz1 hk1 hS => ?_)
        obtain ⟨cn5, In5, Fn5⟩ := u
        obtain ⟨hP1, hD1⟩ := hB
        rw [ht] at hP1
        have vh_5 : (fun c2 I2 F2 => (∀ k : Nat, k ∉ [] → I2 k = Iz k) ∧ (((True) ∧ (va_up cz 23 ((cz 23) + 1)) = c2 ∧ (va_up Fz 27 (upd ((Fz 27)) ((cz 23)) (nI (10 * 1048576 + 0)))) = F2))) cn5 In5 Fn5 := wh_5
        obtain ⟨hI5_, vh_5⟩ := vh_5
        obtain ⟨h_5, rfl, rfl⟩ := vh_5
        obtain rfl : Iz = In5 := (funext (fun k => hI5_ k List.not_mem_nil)).symm
        have hP : va_P D vwCl (wM cI cB cZ g (va_up cz 23 ((cz 23) + 1)) Iz (va_up Fz 27 (upd ((Fz 27)) ((cz 23)) (nI (10 * 1048576 + 0))))) H1 := hP1
        have hD : va_D A (wM cI cB cZ g (va_up cz 23 ((cz 23) + 1)) Iz (va_up Fz 27 (upd ((Fz 27)) ((cz 23)) (nI (10 * 1048576 + 0))))) := hD1.weaken (fun _ _ _ h => hFc _ h)
        generalize H1 = H at hP hS ⊢
        refine lv_aload_n hx hb (oc_42 16 (aq_16 shX12_endsPiece_0)) rfl (lvA0 hl) ?_
        refine lv_aload_n hx hb (oc_42 17 (aq_17 shX12_endsPiece_0)) rfl (lvA0 hl) ?_
        refine gM_264 S hK hP (v := .int (nI (cz 24))) rfl (oc_180 18 (aq_18 shX12_endsPiece_0) uw_1_8) ?_
        refine lv_iconst (v := 1) hx hb (oc_4 21 (aq_21 shX12_endsPiece_0)) kic_1 ?_
        refine lv_isub hx hb (oc_100 22 (aq_22 shX12_endsPiece_0)) ?_
        refine lv_topi (fun y_6 ey_6 => ?_)
        obtain rfl : y_6 = (nI (cz 24 - 1)) := ey_6.trans (nI_sub (b := 1) (by (first | omega | (have zz0 := Hid.u hi_cn; have zz1 := Hid.u hi_cz; have zz2 := Hid.u hq_cz; omega))))
        refine pM_264 S hK hP hD hS (a := (cz 24 - 1)) (cn2 := (va_up (va_up cz 23 ((cz 23) + 1)) 24 (cz 24 - 1))) rfl rfl (oc_181 23 (aq_23 shX12_endsPiece_0) uw_1_8) (fun H locs hP hD hS => ?_)
        refine lv_aload_n hx hb (oc_42 26 shX12_endsPiece_26) rfl (lvA0 hl) ?_
        refine lv_aload_n hx hb (oc_42 27 (aq_1 shX12_endsPiece_26)) rfl (lvA0 hl) ?_
        refine gM_261 S hK hP (v := .int (Iz 22)) rfl (oc_180 28 (aq_2 shX12_endsPiece_26) uw_1_5) ?_
        refine lv_iconst (v := 1) hx hb (oc_4 31 (aq_5 shX12_endsPiece_26)) kic_1 ?_
        refine lv_isub hx hb (oc_100 32 (aq_6 shX12_endsPiece_26)) ?_
        refine pM_261 S hK hP hD hS (In2 := (va_up Iz 22 ((Iz 22) - 1))) rfl (oc_181 33 (aq_7 shX12_endsPiece_26) uw_1_5) (fun H locs hP hD hS => ?_)
        refine lv_goto (tgt := 0) hx hb (oc_167 36 (aq_10 shX12_endsPiece_26) sgw_255_220) rfl ?_
        exact ih0  (va_up (va_up cz 23 ((cz 23) + 1)) 24 (cz 24 - 1)) (va_up Iz 22 ((Iz 22) - 1)) (va_up Fz 27 (upd ((Fz 27)) ((cz 23)) (nI (10 * 1048576 + 0)))) _ _ (show (cz 24 - 1) < n0 by (first | omega | (have zz0 := Hid.u hi_cn; have zz1 := Hid.u hi_cz; have zz2 := Hid.u hq_cz; omega))) ⟨(Fr.mo (Fr.f 27 (Fr.i 22 (Fr.c 24 (Fr.c 23 hfr0)))) (sbl rfl) (sbl rfl) (sbl rfl)), (IM.fr (In := Iz) hI0 (Fr.f 27 (Fr.c 24 (Fr.c 23 Fr.rf))) (by decide) (by decide)), (by have q := PBk.code10 hx0_0 (by (first | omega | (have zz0 := Hid.u hi_cn; have zz1 := Hid.u hi_cz; have zz2 := Hid.u hq_cz; omega))) (by (first | omega | (have zz0 := Hid.u hi_cn; have zz1 := Hid.u hi_cz; have zz2 := Hid.u hq_cz; omega))); exact q), (by have q := CK.pop' hx0_1 (by (first | omega | (have zz0 := Hid.u hi_cn; have zz1 := Hid.u hi_cz; have zz2 := Hid.u hq_cz; omega))); exact q), (fun k hk => (upd_lt (by (first | omega | (have zz0 := Hid.u hi_cn; have zz1 := Hid.u hi_cz; have zz2 := Hid.u hq_cz; omega)))).trans (hx0_2 k hk))⟩ hP hD hS ls (lv_sub hl [0] rfl)
  exact lp_0 _  cn In Fn _ _ (Nat.lt_succ_self _) ⟨(Fr.mo Fr.rf (sbl rfl) (sbl rfl) (sbl rfl)), hI, hPS, hC, (fun k hk => rfl)⟩ hP hD hS ls (lv_sub hl [0] rfl)
set_option maxRecDepth 100000 in
set_option maxHeartbeats 4000000 in
theorem q_lands (l : Launch) (D : va_G) (cI cB cZ : ClassId) (g : Nat → Nat) (cn : Nat → Nat) (In : Nat → Int32) (Fn : Nat → Nat → Int32) (a0 s0 : Nat) (v0 : Int32) (sz : Nat) (hI : IM cn Fn) (hPS : PBk (cn 19) (cn 20) (cn 23) (cn 24) (Fn 27) (Fn 28) a0 1 s0) (hC : CK (cn 24) (Fn 28)) : Met l yX12_lands (CWS yX12_lands cX12_lands 3 none) (RM 1 0 0) (PBw [.ref (g 100), .int v0] D cI cB cZ (wM cI cB cZ g cn In Fn) sz) (va_Qv (fun (u : (Nat → Nat) × (Nat → Int32) × (Nat → Nat → Int32)) => (fun c2 I2 F2 => Fr [24] [] [27] cn In Fn c2 I2 F2 ∧ IM c2 F2 ∧ ((PBk (c2 19) (c2 20) (c2 23) (c2 24) (F2 27) (F2 28) a0 1 s0) ∧ (CK (c2 24) (F2 28)) ∧ (∀ k : Nat, k < a0 → F2 27 k = Fn 27 k) ∧ (¬ (v0 : Int32) = 0 → ¬ (11 ≤ kd (F2 28 (c2 24 - 1)) ∧ kd (F2 28 (c2 24 - 1)) ≤ 12)))) u.1 u.2.1 u.2.2) (fun (u : (Nat → Nat) × (Nat → Int32) × (Nat → Nat → Int32)) (t : State) => va_P D vwCl (wM cI cB cZ g u.1 u.2.1 u.2.2) t.heap ∧ va_D (va_A (wM cI cB cZ g cn In Fn) sz) (wM cI cB cZ g u.1 u.2.1 u.2.2)) (va_A (wM cI cB cZ g cn In Fn) sz)) 0 0 (va_A (wM cI cB cZ g cn In Fn) sz) := by
  refine en_w (fun A => (va_Qv (fun (u : (Nat → Nat) × (Nat → Int32) × (Nat → Nat → Int32)) => (fun (c2 : Nat → Nat) (I2 : Nat → Int32) (F2 : Nat → Nat → Int32) => Fr [24] [] [27] cn In Fn c2 I2 F2 ∧ IM c2 F2 ∧ ((PBk (c2 19) (c2 20) (c2 23) (c2 24) (F2 27) (F2 28) a0 1 s0) ∧ (CK (c2 24) (F2 28)) ∧ (∀ k : Nat, k < a0 → F2 27 k = Fn 27 k) ∧ (¬ (v0 : Int32) = 0 → ¬ (11 ≤ kd (F2 28 (c2 24 - 1)) ∧ kd (F2 28 (c2 24 - 1)) ≤ 12)))) u.1 u.2.1 u.2.2) (fun (u : (Nat → Nat) × (Nat → Int32) × (Nat → Nat → Int32)) (t : State) => va_P D vwCl (wM cI cB cZ g u.1 u.2.1 u.2.2) t.heap ∧ va_D A (wM cI cB cZ g u.1 u.2.1 u.2.2)) A)) rfl rfl pn_RX12 (Nat.le_of_ble_eq_true rfl) (fun p e s m below meth c A hx hb hml hown S hr hlocks hnm hA hP hK hD hS ls hl => ?_)
  have hl : lv_has ls 3 [(0, .ref (g 100)), (1, .int v0)] := hl
  have hi_cn : Hid (CB cn) := hI.b
  have lp_0 : ∀ (n : Nat)  (cz : Nat → Nat) (Fz : Nat → Nat → Int32) (H : Heap) (locs : List Loc) , cz 24 < n → (Fr [24] [] [27] cn In Fn cz In Fz ∧ IM cz Fz ∧ ((PBk (cz 19) (cz 20) (cz 23) (cz 24) (Fz 27) (Fz 28) a0 1 s0)) ∧ ((CK (cz 24) (Fz 28))) ∧ ((∀ k : Nat, k < a0 → Fz 27 k = Fn 27 k))) → va_P D vwCl (wM cI cB cZ g cz In Fz) H → va_D A (wM cI cB cZ g cz In Fz) → va_S A s.heap H locs → ∀ ls : Array Slot, lv_has ls 3 [(0, .ref (g 100)), (1, .int v0)] → W p l e (RM 1 0 0) s m ([.ref (g 100), .int v0]).toArray below meth c H locs 0 0 (MQ below (va_Qv (fun (u : (Nat → Nat) × (Nat → Int32) × (Nat → Nat → Int32)) => (fun c2 I2 F2 => Fr [24] [] [27] cn In Fn c2 I2 F2 ∧ IM c2 F2 ∧ ((PBk (c2 19) (c2 20) (c2 23) (c2 24) (F2 27) (F2 28) a0 1 s0) ∧ (CK (c2 24) (F2 28)) ∧ (∀ k : Nat, k < a0 → F2 27 k = Fn 27 k) ∧ (¬ (v0 : Int32) = 0 → ¬ (11 ≤ kd (F2 28 (c2 24 - 1)) ∧ kd (F2 28 (c2 24 - 1)) ≤ 12)))) u.1 u.2.1 u.2.2) (fun (u : (Nat → Nat) × (Nat → Int32) × (Nat → Nat → Int32)) (t : State) => va_P D vwCl (wM cI cB cZ g u.1 u.2.1 u.2.2) t.heap ∧ va_D A (wM cI cB cZ g u.1 u.2.1 u.2.2)) A) ([.ref (g 100), .int v0]).toArray s 0 0 A) (F0 m 0 ls []) := by
    intro n0
    induction n0 with
    | zero => intros; (first | omega | (have zz0 := Hid.u hi_cn; omega))
    | succ n0 ih0 =>
      intro  cz Fz H locs hmu0 hinv0 hP hD hS ls hl
      obtain ⟨hfr0, hI0, hx0_0, hx0_1, hx0_2⟩ := hinv0
      have hi_cz : Hid (CB cz) := hI0.b
      have : cz 19 = cn 19 := hfr0.1 19 (nml rfl)
      have : cz 20 = cn 20 := hfr0.1 20 (nml rfl)
      have : cz 23 = cn 23 := hfr0.1 23 (nml rfl)
      have : cz 25 = cn 25 := hfr0.1 25 (nml rfl)
      have hq_cz := Hid.i (frq_24_0_1_2_46_57_58_62_63_75_83_44 hfr0)
      have hf0 := hx0_0.f
      have hc0 := hx0_1.1
      refine lv_aload_n hx hb (oc_42 0 shX12_lands_0) rfl (lvA0 hl) ?_
      refine vp_callSi (runV_ra (As := []) (rest := []) S (q_top l D cI cB cZ g cz In Fz  hI0 hx0_0.w (by (first | omega | (have zz0 := Hid.u hi_cn; have zz1 := Hid.u hi_cz; have zz2 := Hid.u hq_cz; omega)))) kV_RX12_267 hK hP 0 rfl rfl rfl ⟨Nat.le_of_ble_eq_true rfl, Nat.le_of_ble_eq_true rfl⟩ ⟨Nat.le_of_ble_eq_true rfl, Nat.le_of_ble_eq_true rfl⟩ rfl hl.1 rfl (Nat.le_of_ble_eq_true rfl) (oc_182 1 (aq_1 shX12_lands_0) uw_1_11)) (fun r_1 h_2 => ?_)
      refine lv_bipush (v := 11) hx hb (oc_16 4 (aq_4 shX12_lands_0) sgb_11) kbc_11 ?_
      refine lv_icmp_eq (tgt := 22) hx hb (oc_159 6 (aq_6 shX12_lands_0) sgw_0_16) rfl (fun c_3 => ?_) (fun c_3 => ?_)
      ·
        have tc_3 : (r_1.toInt : Int) = 11 := congrArg Int32.toInt c_3
        refine lv_aload_n hx hb (oc_42 22 (aq_22 shX12_lands_0)) rfl (lvA0 hl) ?_
        refine gM_59 S hK hP (v := .ref (g 28)) rfl (oc_180 23 (aq_23 shX12_lands_0) uw_0_59) ?_
        refine lv_aload_n hx hb (oc_42 26 shX12_lands_26) rfl (lvA0 hl) ?_
        refine gM_264 S hK hP (v := .int (nI (cz 24))) rfl (oc_180 27 (aq_1 shX12_lands_26) uw_1_8) ?_
        refine lv_iconst (v := 1) hx hb (oc_4 30 (aq_4 shX12_lands_26)) kic_1 ?_
        refine lv_isub hx hb (oc_100 31 (aq_5 shX12_lands_26)) ?_
        refine lv_topi (fun y_4 ey_4 => ?_)
        obtain rfl : y_4 = (nI (cz 24 - 1)) := ey_4.trans (nI_sub (b := 1) (by (first | omega | (have zz0 := Hid.u hi_cn; have zz1 := Hid.u hi_cz; have zz2 := Hid.u hq_cz; omega))))
        have kb_1 : (cz 24 - 1) < 180 := by (first | omega | (have zz0 := Hid.u hi_cn; have zz1 := Hid.u hi_cz; have zz2 := Hid.u hq_cz; omega))
        refine ldM_28 hx hb hK hP (x := ((Fz 28) (cz 24 - 1))) (vp_in_nI kb_1 (ltb rfl)) (nI_clamp (Nat.lt_trans kb_1 (ltb rfl))) rfl (oc_46 32 (aq_6 shX12_lands_26)) ?_
        refine lv_ldcw (v := 1048576) hx hb hown (S.2.2.2.2 _ (wk7_17 11 rfl rfl)) (oc_19 33 (aq_7 shX12_lands_26) uw_1_4) ?_
        refine lv_irem hx hb (oc_112 36 (aq_10 shX12_lands_26)) (by decide) ?_
        refine lv_topi (fun y_5 ey_5 => ?_)
        obtain rfl : y_5 = (nI (vl (Fz 28 (cz 24 - 1)))) := ey_5.trans (WKk.rem (hx0_0.w _ (by (first | omega | (have zz0 := Hid.u hi_cn; have zz1 := Hid.u hi_cz; have zz2 := Hid.u hq_cz; omega)))))
        refine lv_istore_n (lv' := [(2, .int (nI (vl (Fz 28 (cz 24 - 1))))), (0, .ref (g 100)), (1, .int v0)]) hx hb (oc_61 37 (aq_11 shX12_lands_26)) rfl hl (ltb rfl) rfl (fun ls hl => ?_)
        obtain ⟨op, y, hop, hy, hva, hvc, hC⟩ := PBk.jo' hx0_0 (by (first | omega | (have zz0 := Hid.u hi_cn; have zz1 := Hid.u hi_cz; have zz2 := Hid.u hq_cz; omega))) (by (first | omega | (have zz0 := Hid.u hi_cn; have zz1 := Hid.u hi_cz; have zz2 := Hid.u hq_cz; omega))) (by (first | omega | (have zz0 := Hid.u hi_cn; have zz1 := Hid.u hi_cz; have zz2 := Hid.u hq_cz; omega)))
        refine lv_aload_n hx hb (oc_42 38 (aq_12 shX12_lands_26)) rfl (lvA1 hl) ?_
        refine gM_56 S hK hP (v := .ref (g 27)) rfl (oc_180 39 (aq_13 shX12_lands_26) uw_0_56) ?_
        refine lv_iload_n hx hb (oc_28 42 (aq_16 shX12_lands_26)) rfl (lvA0 hl) ?_
        refine lv_ldcw (v := 1048576) hx hb hown (S.2.2.2.2 _ (wk7_17 11 rfl rfl)) (oc_19 43 (aq_17 shX12_lands_26) uw_1_4) ?_
        refine lv_aload_n hx hb (oc_42 46 (aq_20 shX12_lands_26)) rfl (lvA1 hl) ?_
        refine gM_56 S hK hP (v := .ref (g 27)) rfl (oc_180 47 (aq_21 shX12_lands_26) uw_0_56) ?_
        refine lv_iload_n hx hb (oc_28 50 shX12_lands_50) rfl (lvA0 hl) ?_
        have kb_2 : (vl (Fz 28 (cz 24 - 1))) < 180 := by (first | omega | (have zz0 := Hid.u hi_cn; have zz1 := Hid.u hi_cz; have zz2 := Hid.u hq_cz; omega))
        refine ldM_27 hx hb hK hP (x := ((Fz 27) (vl (Fz 28 (cz 24 - 1))))) (vp_in_nI kb_2 (ltb rfl)) (nI_clamp (Nat.lt_trans kb_2 (ltb rfl))) rfl (oc_46 51 (aq_1 shX12_lands_50)) ?_
        refine lv_topi (fun y_6 ey_6 => ?_)
        obtain rfl : y_6 = (nI (op * 1048576 + y)) := ey_6.trans hC
        refine lv_ldcw (v := 1048576) hx hb hown (S.2.2.2.2 _ (wk7_17 11 rfl rfl)) (oc_19 52 (aq_2 shX12_lands_50) uw_1_4) ?_
        refine lv_idiv hx hb (oc_108 55 (aq_5 shX12_lands_50)) (by decide) ?_
        refine lv_topi (fun y_7 ey_7 => ?_)
        obtain rfl : y_7 = (nI op) := ey_7.trans ((nI_div (b := 1048576) (by (first | omega | (have zz0 := Hid.u hi_cn; have zz1 := Hid.u hi_cz; have zz2 := Hid.u hq_cz; omega))) (by decide)).trans (congrArg nI (by (first | omega | (have zz0 := Hid.u hi_cn; have zz1 := Hid.u hi_cz; have zz2 := Hid.u hq_cz; omega)))))
        refine lv_imul hx hb (oc_104 56 (aq_6 shX12_lands_50)) ?_
        refine lv_topi (fun y_8 ey_8 => ?_)
        obtain rfl : y_8 = (nI (1048576 * op)) := ey_8.trans (pk_mul 1048576 op)
        refine lv_aload_n hx hb (oc_42 57 (aq_7 shX12_lands_50)) rfl (lvA1 hl) ?_
        refine gM_257 S hK hP (v := .int (nI (cz 23))) rfl (oc_180 58 (aq_8 shX12_lands_50) uw_1_1) ?_
        refine lv_iadd hx hb (oc_96 61 (aq_11 shX12_lands_50)) ?_
        refine lv_topi (fun y_9 ey_9 => ?_)
        obtain rfl : y_9 = (nI ((1048576 * op) + (cz 23))) := ey_9.trans (nI_add (1048576 * op) (cz 23))
        refine stM_27 hx hb hK hP hD hS (Fn2 := (va_up Fz 27 (upd (Fz 27) (vl (Fz 28 (cz 24 - 1))) (nI ((1048576 * op) + (cz 23)))))) (vp_in_nI kb_2 (ltb rfl)) (nI_clamp (Nat.lt_trans kb_2 (ltb rfl))) rfl (oc_79 62 (aq_12 shX12_lands_50)) (fun H locs hP hD hS => ?_)
        refine lv_aload_n hx hb (oc_42 63 (aq_13 shX12_lands_50)) rfl (lvA1 hl) ?_
        refine lv_aload_n hx hb (oc_42 64 (aq_14 shX12_lands_50)) rfl (lvA1 hl) ?_
        refine gM_264 S hK hP (v := .int (nI (cz 24))) rfl (oc_180 65 (aq_15 shX12_lands_50) uw_1_8) ?_
        refine lv_iconst (v := 1) hx hb (oc_4 68 (aq_18 shX12_lands_50)) kic_1 ?_
        refine lv_isub hx hb (oc_100 69 (aq_19 shX12_lands_50)) ?_
        refine lv_topi (fun y_10 ey_10 => ?_)
        obtain rfl : y_10 = (nI (cz 24 - 1)) := ey_10.trans (nI_sub (b := 1) (by (first | omega | (have zz0 := Hid.u hi_cn; have zz1 := Hid.u hi_cz; have zz2 := Hid.u hq_cz; omega))))
        refine pM_264 S hK hP hD hS (a := (cz 24 - 1)) (cn2 := (va_up cz 24 (cz 24 - 1))) rfl rfl (oc_181 70 (aq_20 shX12_lands_50) uw_1_8) (fun H locs hP hD hS => ?_)
        refine lv_goto (tgt := 0) hx hb (oc_167 73 (aq_23 shX12_lands_50) sgw_255_183) rfl ?_
        exact ih0  (va_up cz 24 (cz 24 - 1)) (va_up Fz 27 (upd (Fz 27) (vl (Fz 28 (cz 24 - 1))) (nI ((1048576 * op) + (cz 23))))) _ _ (show (cz 24 - 1) < n0 by (first | omega | (have zz0 := Hid.u hi_cn; have zz1 := Hid.u hi_cz; have zz2 := Hid.u hq_cz; omega))) ⟨(Fr.mo (Fr.f 27 (Fr.c 24 hfr0)) (sbl rfl) (sbl rfl) (sbl rfl)), (IM.fr (In := In) hI0 (Fr.f 27 (Fr.c 24 Fr.rf)) (by decide) (by decide)), (by have q := PBk.land' hx0_0 (by (first | omega | (have zz0 := Hid.u hi_cn; have zz1 := Hid.u hi_cz; have zz2 := Hid.u hq_cz; omega))) (by (first | omega | (have zz0 := Hid.u hi_cn; have zz1 := Hid.u hi_cz; have zz2 := Hid.u hq_cz; omega))) (by (first | omega | (have zz0 := Hid.u hi_cn; have zz1 := Hid.u hi_cz; have zz2 := Hid.u hq_cz; omega))) hop; exact q), (by have q := CK.pop' hx0_1 (by (first | omega | (have zz0 := Hid.u hi_cn; have zz1 := Hid.u hi_cz; have zz2 := Hid.u hq_cz; omega))); exact q), (fun k hk => (upd_nq (by (first | omega | (have zz0 := Hid.u hi_cn; have zz1 := Hid.u hi_cz; have zz2 := Hid.u hq_cz; omega)))).trans (hx0_2 k hk))⟩ hP hD hS ls (lv_sub hl [1, 2] rfl)
      ·
        have tc_3 : (r_1.toInt : Int) ≠ 11 := fun q => c_3 (Int32.toInt_inj.mp q)
        refine lv_iload_n hx hb (oc_27 9 (aq_9 shX12_lands_0)) rfl (lvA1 hl) ?_
        refine lv_if_eq (tgt := 76) hx hb (oc_153 10 (aq_10 shX12_lands_0) sgw_0_66) rfl (fun c_11 => ?_) (fun c_11 => ?_)
        ·
          have tc_11 : (v0.toInt : Int) = 0 := congrArg Int32.toInt c_11
          exact W.vret hx hb hr (fun t ht hW => ⟨⟨(cz, In, Fz), rfl, ⟨(Fr.mo hfr0 (sbl rfl) (sbl rfl) (sbl rfl)), hI0, (by show (PBk (cz 19) (cz 20) (cz 23) (cz 24) (Fz 27) (Fz 28) a0 1 s0) ∧ (CK (cz 24) (Fz 28)) ∧ (∀ k : Nat, k < a0 → Fz 27 k = Fn 27 k) ∧ (¬ (v0 : Int32) = 0 → ¬ (11 ≤ kd (Fz 28 (cz 24 - 1)) ∧ kd (Fz 28 (cz 24 - 1)) ≤ 12)); exact ⟨hx0_0, hx0_1, hx0_2, fun hz => by first | (first | omega | (have zz0 := Hid.u hi_cn; have zz1 := Hid.u hi_cz; have zz2 := Hid.u hq_cz; omega)) | exact absurd (by assumption) hz⟩)⟩, by rw [ht]; exact hP, hD⟩, hS.F ht⟩) hS.2.2 (oc_177 76 shX12_lands_76)
        ·
          have tc_11 : (v0.toInt : Int) ≠ 0 := fun q => c_11 (Int32.toInt_inj.mp q)
          refine lv_aload_n hx hb (oc_42 13 (aq_13 shX12_lands_0)) rfl (lvA0 hl) ?_
          refine vp_callSi (runV_ra (As := []) (rest := []) S (q_top l D cI cB cZ g cz In Fz  hI0 hx0_0.w (by (first | omega | (have zz0 := Hid.u hi_cn; have zz1 := Hid.u hi_cz; have zz2 := Hid.u hq_cz; omega)))) kV_RX12_267 hK hP 0 rfl rfl rfl ⟨Nat.le_of_ble_eq_true rfl, Nat.le_of_ble_eq_true rfl⟩ ⟨Nat.le_of_ble_eq_true rfl, Nat.le_of_ble_eq_true rfl⟩ rfl hl.1 rfl (Nat.le_of_ble_eq_true rfl) (oc_182 14 (aq_14 shX12_lands_0) uw_1_11)) (fun r_12 h_13 => ?_)
          refine lv_bipush (v := 12) hx hb (oc_16 17 (aq_17 shX12_lands_0) sgb_12) kbc_12 ?_
          refine lv_icmp_ne (tgt := 76) hx hb (oc_160 19 (aq_19 shX12_lands_0) sgw_0_57) rfl (fun c_14 => ?_) (fun c_14 => ?_)
          ·
            have tc_14 : (r_12.toInt : Int) ≠ 12 := fun q => c_14 (Int32.toInt_inj.mp q)
            exact W.vret hx hb hr (fun t ht hW => ⟨⟨(cz, In, Fz), rfl, ⟨(Fr.mo hfr0 (sbl rfl) (sbl rfl) (sbl rfl)), hI0, (by show (PBk (cz 19) (cz 20) (cz 23) (cz 24) (Fz 27) (Fz 28) a0 1 s0) ∧ (CK (cz 24) (Fz 28)) ∧ (∀ k : Nat, k < a0 → Fz 27 k = Fn 27 k) ∧ (¬ (v0 : Int32) = 0 → ¬ (11 ≤ kd (Fz 28 (cz 24 - 1)) ∧ kd (Fz 28 (cz 24 - 1)) ≤ 12)); exact ⟨hx0_0, hx0_1, hx0_2, fun hz => by first | (first | omega | (have zz0 := Hid.u hi_cn; have zz1 := Hid.u hi_cz; have zz2 := Hid.u hq_cz; omega)) | exact absurd (by assumption) hz⟩)⟩, by rw [ht]; exact hP, hD⟩, hS.F ht⟩) hS.2.2 (oc_177 76 shX12_lands_76)
          ·
            have tc_14 : (r_12.toInt : Int) = 12 := congrArg Int32.toInt c_14
            refine lv_aload_n hx hb (oc_42 22 (aq_22 shX12_lands_0)) rfl (lvA0 hl) ?_
            refine gM_59 S hK hP (v := .ref (g 28)) rfl (oc_180 23 (aq_23 shX12_lands_0) uw_0_59) ?_
            refine lv_aload_n hx hb (oc_42 26 shX12_lands_26) rfl (lvA0 hl) ?_
            refine gM_264 S hK hP (v := .int (nI (cz 24))) rfl (oc_180 27 (aq_1 shX12_lands_26) uw_1_8) ?_
            refine lv_iconst (v := 1) hx hb (oc_4 30 (aq_4 shX12_lands_26)) kic_1 ?_
            refine lv_isub hx hb (oc_100 31 (aq_5 shX12_lands_26)) ?_
            refine lv_topi (fun y_15 ey_15 => ?_)
            obtain rfl : y_15 = (nI (cz 24 - 1)) := ey_15.trans (nI_sub (b := 1) (by (first | omega | (have zz0 := Hid.u hi_cn; have zz1 := Hid.u hi_cz; have zz2 := Hid.u hq_cz; omega))))
            have kb_3 : (cz 24 - 1) < 180 := by (first | omega | (have zz0 := Hid.u hi_cn; have zz1 := Hid.u hi_cz; have zz2 := Hid.u hq_cz; omega))
            refine ldM_28 hx hb hK hP (x := ((Fz 28) (cz 24 - 1))) (vp_in_nI kb_3 (ltb rfl)) (nI_clamp (Nat.lt_trans kb_3 (ltb rfl))) rfl (oc_46 32 (aq_6 shX12_lands_26)) ?_
            refine lv_ldcw (v := 1048576) hx hb hown (S.2.2.2.2 _ (wk7_17 11 rfl rfl)) (oc_19 33 (aq_7 shX12_lands_26) uw_1_4) ?_
            refine lv_irem hx hb (oc_112 36 (aq_10 shX12_lands_26)) (by decide) ?_
            refine lv_topi (fun y_16 ey_16 => ?_)
            obtain rfl : y_16 = (nI (vl (Fz 28 (cz 24 - 1)))) := ey_16.trans (WKk.rem (hx0_0.w _ (by (first | omega | (have zz0 := Hid.u hi_cn; have zz1 := Hid.u hi_cz; have zz2 := Hid.u hq_cz; omega)))))
            refine lv_istore_n (lv' := [(2, .int (nI (vl (Fz 28 (cz 24 - 1))))), (0, .ref (g 100)), (1, .int v0)]) hx hb (oc_61 37 (aq_11 shX12_lands_26)) rfl hl (ltb rfl) rfl (fun ls hl => ?_)
            obtain ⟨op, y, hop, hy, hva, hvc, hC⟩ := PBk.jo' hx0_0 (by (first | omega | (have zz0 := Hid.u hi_cn; have zz1 := Hid.u hi_cz; have zz2 := Hid.u hq_cz; omega))) (by (first | omega | (have zz0 := Hid.u hi_cn; have zz1 := Hid.u hi_cz; have zz2 := Hid.u hq_cz; omega))) (by (first | omega | (have zz0 := Hid.u hi_cn; have zz1 := Hid.u hi_cz; have zz2 := Hid.u hq_cz; omega)))
            refine lv_aload_n hx hb (oc_42 38 (aq_12 shX12_lands_26)) rfl (lvA1 hl) ?_
            refine gM_56 S hK hP (v := .ref (g 27)) rfl (oc_180 39 (aq_13 shX12_lands_26) uw_0_56) ?_
            refine lv_iload_n hx hb (oc_28 42 (aq_16 shX12_lands_26)) rfl (lvA0 hl) ?_
            refine lv_ldcw (v := 1048576) hx hb hown (S.2.2.2.2 _ (wk7_17 11 rfl rfl)) (oc_19 43 (aq_17 shX12_lands_26) uw_1_4) ?_
            refine lv_aload_n hx hb (oc_42 46 (aq_20 shX12_lands_26)) rfl (lvA1 hl) ?_
            refine gM_56 S hK hP (v := .ref (g 27)) rfl (oc_180 47 (aq_21 shX12_lands_26) uw_0_56) ?_
            refine lv_iload_n hx hb (oc_28 50 shX12_lands_50) rfl (lvA0 hl) ?_
            have kb_4 : (vl (Fz 28 (cz 24 - 1))) < 180 := by (first | omega | (have zz0 := Hid.u hi_cn; have zz1 := Hid.u hi_cz; have zz2 := Hid.u hq_cz; omega))
            refine ldM_27 hx hb hK hP (x := ((Fz 27) (vl (Fz 28 (cz 24 - 1))))) (vp_in_nI kb_4 (ltb rfl)) (nI_clamp (Nat.lt_trans kb_4 (ltb rfl))) rfl (oc_46 51 (aq_1 shX12_lands_50)) ?_
            refine lv_topi (fun y_17 ey_17 => ?_)
            obtain rfl : y_17 = (nI (op * 1048576 + y)) := ey_17.trans hC
            refine lv_ldcw (v := 1048576) hx hb hown (S.2.2.2.2 _ (wk7_17 11 rfl rfl)) (oc_19 52 (aq_2 shX12_lands_50) uw_1_4) ?_
            refine lv_idiv hx hb (oc_108 55 (aq_5 shX12_lands_50)) (by decide) ?_
            refine lv_topi (fun y_18 ey_18 => ?_)
            obtain rfl : y_18 = (nI op) := ey_18.trans ((nI_div (b := 1048576) (by (first | omega | (have zz0 := Hid.u hi_cn; have zz1 := Hid.u hi_cz; have zz2 := Hid.u hq_cz; omega))) (by decide)).trans (congrArg nI (by (first | omega | (have zz0 := Hid.u hi_cn; have zz1 := Hid.u hi_cz; have zz2 := Hid.u hq_cz; omega)))))
            refine lv_imul hx hb (oc_104 56 (aq_6 shX12_lands_50)) ?_
            refine lv_topi (fun y_19 ey_19 => ?_)
            obtain rfl : y_19 = (nI (1048576 * op)) := ey_19.trans (pk_mul 1048576 op)
            refine lv_aload_n hx hb (oc_42 57 (aq_7 shX12_lands_50)) rfl (lvA1 hl) ?_
            refine gM_257 S hK hP (v := .int (nI (cz 23))) rfl (oc_180 58 (aq_8 shX12_lands_50) uw_1_1) ?_
            refine lv_iadd hx hb (oc_96 61 (aq_11 shX12_lands_50)) ?_
            refine lv_topi (fun y_20 ey_20 => ?_)
            obtain rfl : y_20 = (nI ((1048576 * op) + (cz 23))) := ey_20.trans (nI_add (1048576 * op) (cz 23))
            refine stM_27 hx hb hK hP hD hS (Fn2 := (va_up Fz 27 (upd (Fz 27) (vl (Fz 28 (cz 24 - 1))) (nI ((1048576 * op) + (cz 23)))))) (vp_in_nI kb_4 (ltb rfl)) (nI_clamp (Nat.lt_trans kb_4 (ltb rfl))) rfl (oc_79 62 (aq_12 shX12_lands_50)) (fun H locs hP hD hS => ?_)
            refine lv_aload_n hx hb (oc_42 63 (aq_13 shX12_lands_50)) rfl (lvA1 hl) ?_
            refine lv_aload_n hx hb (oc_42 64 (aq_14 shX12_lands_50)) rfl (lvA1 hl) ?_
            refine gM_264 S hK hP (v := .int (nI (cz 24))) rfl (oc_180 65 (aq_15 shX12_lands_50) uw_1_8) ?_
            refine lv_iconst (v := 1) hx hb (oc_4 68 (aq_18 shX12_lands_50)) kic_1 ?_
            refine lv_isub hx hb (oc_100 69 (aq_19 shX12_lands_50)) ?_
            refine lv_topi (fun y_21 ey_21 => ?_)
            obtain rfl : y_21 = (nI (cz 24 - 1)) := ey_21.trans (nI_sub (b := 1) (by (first | omega | (have zz0 := Hid.u hi_cn; have zz1 := Hid.u hi_cz; have zz2 := Hid.u hq_cz; omega))))
            refine pM_264 S hK hP hD hS (a := (cz 24 - 1)) (cn2 := (va_up cz 24 (cz 24 - 1))) rfl rfl (oc_181 70 (aq_20 shX12_lands_50) uw_1_8) (fun H locs hP hD hS => ?_)
            refine lv_goto (tgt := 0) hx hb (oc_167 73 (aq_23 shX12_lands_50) sgw_255_183) rfl ?_
            exact ih0  (va_up cz 24 (cz 24 - 1)) (va_up Fz 27 (upd (Fz 27) (vl (Fz 28 (cz 24 - 1))) (nI ((1048576 * op) + (cz 23))))) _ _ (show (cz 24 - 1) < n0 by (first | omega | (have zz0 := Hid.u hi_cn; have zz1 := Hid.u hi_cz; have zz2 := Hid.u hq_cz; omega))) ⟨(Fr.mo (Fr.f 27 (Fr.c 24 hfr0)) (sbl rfl) (sbl rfl) (sbl rfl)), (IM.fr (In := In) hI0 (Fr.f 27 (Fr.c 24 Fr.rf)) (by decide) (by decide)), (by have q := PBk.land' hx0_0 (by (first | omega | (have zz0 := Hid.u hi_cn; have zz1 := Hid.u hi_cz; have zz2 := Hid.u hq_cz; omega))) (by (first | omega | (have zz0 := Hid.u hi_cn; have zz1 := Hid.u hi_cz; have zz2 := Hid.u hq_cz; omega))) (by (first | omega | (have zz0 := Hid.u hi_cn; have zz1 := Hid.u hi_cz; have zz2 := Hid.u hq_cz; omega))) hop; exact q), (by have q := CK.pop' hx0_1 (by (first | omega | (have zz0 := Hid.u hi_cn; have zz1 := Hid.u hi_cz; have zz2 := Hid.u hq_cz; omega))); exact q), (fun k hk => (upd_nq (by (first | omega | (have zz0 := Hid.u hi_cn; have zz1 := Hid.u hi_cz; have zz2 := Hid.u hq_cz; omega)))).trans (hx0_2 k hk))⟩ hP hD hS ls (lv_sub hl [1, 2] rfl)
  exact lp_0 _  cn Fn _ _ (Nat.lt_succ_self _) ⟨(Fr.mo Fr.rf (sbl rfl) (sbl rfl) (sbl rfl)), hI, hPS, hC, (fun k hk => rfl)⟩ hP hD hS ls (lv_sub hl [0, 1] rfl)
set_option maxRecDepth 100000 in
set_option maxHeartbeats 4000000 in
theorem q_jumps (l : Launch) (D : va_G) (cI cB cZ : ClassId) (g : Nat → Nat) (cn : Nat → Nat) (In : Nat → Int32) (Fn : Nat → Nat → Int32) (k0 : Nat) (sz : Nat) (hI : IM cn Fn) (h24 : cn 24 < 180) (h23 : cn 23 < 180) : Met l yX12_jumps (CWS yX12_jumps cX12_jumps 2 none) (RM 1 0 0) (PBw [.ref (g 100), .int (nI k0)] D cI cB cZ (wM cI cB cZ g cn In Fn) sz) (va_Qv (fun (u : (Nat → Nat) × (Nat → Int32) × (Nat → Nat → Int32)) => (fun c2 I2 F2 => (∀ k : Nat, k ∉ [] → I2 k = In k) ∧ (((True) ∧ (va_up (va_up (va_up cn 24 (cn 24 + 1)) 23 (cn 23 + 1)) 19 (cn 19 + 1)) = c2 ∧ (va_up (va_up Fn 28 (upd (Fn 28) (cn 24) (nI (1048576 * k0 + cn 23)))) 27 (upd (Fn 27) (cn 23) (nI (k0 * 1048576 + 0)))) = F2))) u.1 u.2.1 u.2.2) (fun (u : (Nat → Nat) × (Nat → Int32) × (Nat → Nat → Int32)) (t : State) => va_P D vwCl (wM cI cB cZ g u.1 u.2.1 u.2.2) t.heap ∧ va_D (va_A (wM cI cB cZ g cn In Fn) sz) (wM cI cB cZ g u.1 u.2.1 u.2.2)) (va_A (wM cI cB cZ g cn In Fn) sz)) 0 0 (va_A (wM cI cB cZ g cn In Fn) sz) := by
  refine en_w (fun A => (va_Qv (fun (u : (Nat → Nat) × (Nat → Int32) × (Nat → Nat → Int32)) => (fun (c2 : Nat → Nat) (I2 : Nat → Int32) (F2 : Nat → Nat → Int32) => (∀ k : Nat, k ∉ [] → I2 k = In k) ∧ (((True) ∧ (va_up (va_up (va_up cn 24 (cn 24 + 1)) 23 (cn 23 + 1)) 19 (cn 19 + 1)) = c2 ∧ (va_up (va_up Fn 28 (upd (Fn 28) (cn 24) (nI (1048576 * k0 + cn 23)))) 27 (upd (Fn 27) (cn 23) (nI (k0 * 1048576 + 0)))) = F2))) u.1 u.2.1 u.2.2) (fun (u : (Nat → Nat) × (Nat → Int32) × (Nat → Nat → Int32)) (t : State) => va_P D vwCl (wM cI cB cZ g u.1 u.2.1 u.2.2) t.heap ∧ va_D A (wM cI cB cZ g u.1 u.2.1 u.2.2)) A)) rfl rfl pn_RX12 (Nat.le_of_ble_eq_true rfl) (fun p e s m below meth c A hx hb hml hown S hr hlocks hnm hA hP hK hD hS ls hl => ?_)
  have hl : lv_has ls 2 [(0, .ref (g 100)), (1, .int (nI k0))] := hl
  have hi_cn : Hid (CB cn) := hI.b
  refine lv_aload_n hx hb (oc_42 0 shX12_jumps_0) rfl (lvA0 hl) ?_
  refine gM_59 S hK hP (v := .ref (g 28)) rfl (oc_180 1 (aq_1 shX12_jumps_0) uw_0_59) ?_
  refine lv_aload_n hx hb (oc_42 4 (aq_4 shX12_jumps_0)) rfl (lvA0 hl) ?_
  refine gM_264 S hK hP (v := .int (nI (cn 24))) rfl (oc_180 5 (aq_5 shX12_jumps_0) uw_1_8) ?_
  refine lv_ldcw (v := 1048576) hx hb hown (S.2.2.2.2 _ (wk7_17 11 rfl rfl)) (oc_19 8 (aq_8 shX12_jumps_0) uw_1_4) ?_
  refine lv_iload_n hx hb (oc_27 11 (aq_11 shX12_jumps_0)) rfl (lvA1 hl) ?_
  refine lv_imul hx hb (oc_104 12 (aq_12 shX12_jumps_0)) ?_
  refine lv_topi (fun y_1 ey_1 => ?_)
  obtain rfl : y_1 = (nI (1048576 * k0)) := ey_1.trans (pk_mul 1048576 k0)
  refine lv_aload_n hx hb (oc_42 13 (aq_13 shX12_jumps_0)) rfl (lvA0 hl) ?_
  refine gM_257 S hK hP (v := .int (nI (cn 23))) rfl (oc_180 14 (aq_14 shX12_jumps_0) uw_1_1) ?_
  refine lv_iadd hx hb (oc_96 17 (aq_17 shX12_jumps_0)) ?_
  refine lv_topi (fun y_2 ey_2 => ?_)
  obtain rfl : y_2 = (nI ((1048576 * k0) + (cn 23))) := ey_2.trans (nI_add (1048576 * k0) (cn 23))
  have kb_1 : (cn 24) < 180 := by (first | omega | (have zz0 := Hid.u hi_cn; omega))
  refine stM_28 hx hb hK hP hD hS (Fn2 := (va_up Fn 28 (upd (Fn 28) (cn 24) (nI ((1048576 * k0) + (cn 23)))))) (vp_in_nI kb_1 (ltb rfl)) (nI_clamp (Nat.lt_trans kb_1 (ltb rfl))) rfl (oc_79 18 (aq_18 shX12_jumps_0)) (fun H locs hP hD hS => ?_)
  refine lv_aload_n hx hb (oc_42 19 (aq_19 shX12_jumps_0)) rfl (lvA0 hl) ?_
  refine lv_aload_n hx hb (oc_42 20 (aq_20 shX12_jumps_0)) rfl (lvA0 hl) ?_
  refine gM_264 S hK hP (v := .int (nI (cn 24))) rfl (oc_180 21 (aq_21 shX12_jumps_0) uw_1_8) ?_
  refine lv_iconst (v := 1) hx hb (oc_4 24 shX12_jumps_24) kic_1 ?_
  refine lv_iadd hx hb (oc_96 25 (aq_1 shX12_jumps_24)) ?_
  refine lv_topi (fun y_3 ey_3 => ?_)
  obtain rfl : y_3 = (nI ((cn 24) + 1)) := ey_3.trans (nI_add (cn 24) 1)
  refine pM_264 S hK hP hD hS (a := ((cn 24) + 1)) (cn2 := (va_up cn 24 ((cn 24) + 1))) rfl rfl (oc_181 26 (aq_2 shX12_jumps_24) uw_1_8) (fun H locs hP hD hS => ?_)
  refine lv_aload_n hx hb (oc_42 29 (aq_5 shX12_jumps_24)) rfl (lvA0 hl) ?_
  refine lv_iload_n hx hb (oc_27 30 (aq_6 shX12_jumps_24)) rfl (lvA1 hl) ?_
  refine lv_iconst (v := 0) hx hb (oc_3 31 (aq_7 shX12_jumps_24)) kic_0 ?_
  have hFc := free_all hD hS hA
  refine va_callv (runV_a (As := [.int (nI k0), .int 0]) (rest := []) S (q_says l D cI cB cZ g (va_up cn 24 ((cn 24) + 1)) In (va_up Fn 28 (upd (Fn 28) (cn 24) (nI ((1048576 * k0) + (cn 23))))) k0 0 H.size (IM.fr (In := In) hI (Fr.f 28 (Fr.c 24 Fr.rf)) (by decide) (by decide)) (show (cn 23) < 180 by (first | omega | (have zz0 := Hid.u hi_cn; omega)))) kV_RX12_270 hK hP hD 0 rfl rfl rfl ⟨Nat.le_of_ble_eq_true rfl, Nat.le_of_ble_eq_true rfl⟩ ⟨Nat.le_of_ble_eq_true rfl, Nat.le_of_ble_eq_true rfl⟩ rfl hl.1 rfl (Nat.le_of_ble_eq_true rfl) (oc_182 32 (aq_8 shX12_jumps_24) uw_1_14)) hS (fun q _ h => hFc q h) hFc (fun u t H1 locs ht hvm wh_5 hB hz1 hk1 hS => ?_)
  obtain ⟨cn5, In5, Fn5⟩ := u
  obtain ⟨hP1, hD1⟩ := hB
  rw [ht] at hP1
  have vh_5 : (fun c2 I2 F2 => (∀ k : Nat, k ∉ [] → I2 k = In k) ∧ (((True) ∧ (va_up (va_up cn 24 ((cn 24) + 1)) 23 ((cn 23) + 1)) = c2 ∧ (va_up (va_up Fn 28 (upd (Fn 28) (cn 24) (nI ((1048576 * k0) + (cn 23))))) 27 (upd ((Fn 27)) ((cn 23)) (nI (k0 * 1048576 + 0)))) = F2))) cn5 In5 Fn5 := wh_5
  obtain ⟨hI5_, vh_5⟩ := vh_5
  obtain ⟨h_5, rfl, rfl⟩ := vh_5
  obtain rfl : In = In5 := (funext (fun k => hI5_ k List.not_mem_nil)).symm
  have hP : va_P D vwCl (wM cI cB cZ g (va_up (va_up cn 24 ((cn 24) + 1)) 23 ((cn 23) + 1)) In (va_up (va_up Fn 28 (upd (Fn 28) (cn 24) (nI ((1048576 * k0) + (cn 23))))) 27 (upd ((Fn 27)) ((cn 23)) (nI (k0 * 1048576 + 0))))) H1 := hP1
  have hD : va_D A (wM cI cB cZ g (va_up (va_up cn 24 ((cn 24) + 1)) 23 ((cn 23) + 1)) In (va_up (va_up Fn 28 (upd (Fn 28) (cn 24) (nI ((1048576 * k0) + (cn 23))))) 27 (upd ((Fn 27)) ((cn 23)) (nI (k0 * 1048576 + 0))))) := hD1.weaken (fun _ _ _ h => hFc _ h)
  generalize H1 = H at hP hS ⊢
  refine lv_aload_n hx hb (oc_42 35 (aq_11 shX12_jumps_24)) rfl (lvA0 hl) ?_
  refine lv_aload_n hx hb (oc_42 36 (aq_12 shX12_jumps_24)) rfl (lvA0 hl) ?_
  refine gM_233 S hK hP (v := .int (nI (cn 19))) rfl (oc_180 37 (aq_13 shX12_jumps_24) uw_0_233) ?_
  refine lv_iconst (v := 1) hx hb (oc_4 40 (aq_16 shX12_jumps_24)) kic_1 ?_
  refine lv_iadd hx hb (oc_96 41 (aq_17 shX12_jumps_24)) ?_
  refine lv_topi (fun y_6 ey_6 => ?_)
  obtain rfl : y_6 = (nI ((cn 19) + 1)) := ey_6.trans (nI_add (cn 19) 1)
  refine pM_233 S hK hP hD hS (a := ((cn 19) + 1)) (cn2 := (va_up (va_up (va_up cn 24 ((cn 24) + 1)) 23 ((cn 23) + 1)) 19 ((cn 19) + 1))) rfl rfl (oc_181 42 (aq_18 shX12_jumps_24) uw_0_233) (fun H locs hP hD hS => ?_)
  exact W.vret hx hb hr (fun t ht hW => ⟨⟨((va_up (va_up (va_up cn 24 ((cn 24) + 1)) 23 ((cn 23) + 1)) 19 ((cn 19) + 1)), In, (va_up (va_up Fn 28 (upd (Fn 28) (cn 24) (nI ((1048576 * k0) + (cn 23))))) 27 (upd ((Fn 27)) ((cn 23)) (nI (k0 * 1048576 + 0))))), rfl, ⟨(show Fr [19, 23, 24] [] [27, 28] cn In Fn (va_up (va_up (va_up cn 24 ((cn 24) + 1)) 23 ((cn 23) + 1)) 19 ((cn 19) + 1)) In (va_up (va_up Fn 28 (upd (Fn 28) (cn 24) (nI ((1048576 * k0) + (cn 23))))) 27 (upd ((Fn 27)) ((cn 23)) (nI (k0 * 1048576 + 0)))) from Fr.mo (Fr.f 27 (Fr.f 28 (Fr.c 19 (Fr.c 23 (Fr.c 24 (Fr.rf (cn := cn) (In := In) (Fn := Fn))))))) (sbl rfl) (sbl rfl) (sbl rfl)).2.1, ⟨(by first | trivial | (first | omega | (have zz0 := Hid.u hi_cn; omega))), rfl, rfl⟩⟩, by rw [ht]; exact hP, hD⟩, hS.F ht⟩) hS.2.2 (oc_177 45 (aq_21 shX12_jumps_24))
set_option maxRecDepth 100000 in
set_option maxHeartbeats 4000000 in
theorem q_readsCompared (l : Launch) (D : va_G) (cI cB cZ : ClassId) (g : Nat → Nat) (cn : Nat → Nat) (In : Nat → Int32) (Fn : Nat → Nat → Int32) (a0 s0 : Nat) (sz : Nat) (hI : IM cn Fn) (hPS : PBk (cn 19) (cn 20) (cn 23) (cn 24) (Fn 27) (Fn 28) a0 0 s0) (hC : CK (cn 24) (Fn 28)) : Met l yX12_readsCompared (CWS yX12_readsCompared cX12_readsCompared 2 (some .boolean)) (RM 5 0 0) (PBw [.ref (g 100)] D cI cB cZ (wM cI cB cZ g cn In Fn) sz) (va_Qi (fun (r : Int32) (u : (Nat → Nat) × (Nat → Int32) × (Nat → Nat → Int32)) => (fun r c2 I2 F2 => Fr [19, 23, 24, 26] [21, 22] [27, 28] cn In Fn c2 I2 F2 ∧ IM c2 F2 ∧ (r = 0 ∨ (r = 1 ∧ PBk (c2 19) (c2 20) (c2 23) (c2 24) (F2 27) (F2 28) a0 1 s0 ∧ CK (c2 24) (F2 28) ∧ (∀ k : Nat, k < a0 → F2 27 k = Fn 27 k) ∧ cn 19 < c2 19))) r u.1 u.2.1 u.2.2) (fun (u : (Nat → Nat) × (Nat → Int32) × (Nat → Nat → Int32)) (t : State) => va_P D vwCl (wM cI cB cZ g u.1 u.2.1 u.2.2) t.heap ∧ va_D (va_A (wM cI cB cZ g cn In Fn) sz) (wM cI cB cZ g u.1 u.2.1 u.2.2)) (va_A (wM cI cB cZ g cn In Fn) sz)) 0 0 (va_A (wM cI cB cZ g cn In Fn) sz) := by
  refine en_w (fun A => (va_Qi (fun (r : Int32) (u : (Nat → Nat) × (Nat → Int32) × (Nat → Nat → Int32)) => (fun (r : Int32) (c2 : Nat → Nat) (I2 : Nat → Int32) (F2 : Nat → Nat → Int32) => Fr [19, 23, 24, 26] [21, 22] [27, 28] cn In Fn c2 I2 F2 ∧ IM c2 F2 ∧ (r = 0 ∨ (r = 1 ∧ PBk (c2 19) (c2 20) (c2 23) (c2 24) (F2 27) (F2 28) a0 1 s0 ∧ CK (c2 24) (F2 28) ∧ (∀ k : Nat, k < a0 → F2 27 k = Fn 27 k) ∧ cn 19 < c2 19))) r u.1 u.2.1 u.2.2) (fun (u : (Nat → Nat) × (Nat → Int32) × (Nat → Nat → Int32)) (t : State) => va_P D vwCl (wM cI cB cZ g u.1 u.2.1 u.2.2) t.heap ∧ va_D A (wM cI cB cZ g u.1 u.2.1 u.2.2)) A)) rfl rfl pn_RX12 (Nat.le_of_ble_eq_true rfl) (fun p e s m below meth c A hx hb hml hown S hr hlocks hnm hA hP hK hD hS ls hl => ?_)
  have hl : lv_has ls 2 [(0, .ref (g 100))] := hl
  have hi_cn : Hid (CB cn) := hI.b
  have hf0 := hPS.f
  have hc0 := hC.1
  refine lv_aload_n hx hb (oc_42 0 shX12_readsCompared_0) rfl (lvA0 hl) ?_
  have hFc := free_all hD hS hA
  refine va_calli (runV_a (As := []) (rest := []) S (q_readsSum l D cI cB cZ g cn In Fn a0 0 s0 s.heap.size hI hPS (fun _ => hC.2.2 _ (by (first | omega | (have zz0 := Hid.u hi_cn; omega))))) kV_RX12_297 hK hP hD 0 rfl rfl rfl ⟨Nat.le_of_ble_eq_true rfl, Nat.le_of_ble_eq_true rfl⟩ ⟨Nat.le_of_ble_eq_true rfl, Nat.le_of_ble_eq_true rfl⟩ rfl hl.1 rfl (Nat.le_of_ble_eq_true rfl) (oc_182 1 (aq_1 shX12_readsCompared_0) uw_1_41)) hS (fun q _ h => hFc q h) hFc (fun r_1 u t H1 locs ht hvm wh_2 hB hz1 hk1 hS => ?_)
  obtain ⟨cn2, In2, Fn2⟩ := u
  obtain ⟨hP1, hD1⟩ := hB
  rw [ht] at hP1
  have hP : va_P D vwCl (wM cI cB cZ g cn2 In2 Fn2) H1 := hP1
  have hD : va_D A (wM cI cB cZ g cn2 In2 Fn2) := hD1.weaken (fun _ _ _ h => hFc _ h)
  generalize H1 = H at hP hS ⊢
  have vh_2 : (fun r c2 I2 F2 => Fr [19, 23, 24, 26] [21, 22] [27, 28] cn In Fn c2 I2 F2 ∧ IM c2 F2 ∧ (r = 0 ∨ (r = 1 ∧ PBk (c2 19) (c2 20) (c2 23) (c2 24) (F2 27) (F2 28) a0 (0 + 1) s0 ∧ c2 24 = (cn 24) ∧ (∀ k : Nat, k < a0 → F2 27 k = (Fn 27) k) ∧ (∀ i : Nat, i < (cn 24) → F2 28 i = (Fn 28) i) ∧ (cn 19) < c2 19))) r_1 cn2 In2 Fn2 := wh_2
  obtain ⟨hfc2, hIn2, h_2⟩ := vh_2
  have hf2 : Fr [19, 23, 24, 26] [21, 22] [27, 28] cn In Fn cn2 In2 Fn2 := Fr.mo (Fr.tr (Fr.rf (cn := cn) (In := In) (Fn := Fn)) hfc2) (sbl rfl) (sbl rfl) (sbl rfl)
  have hi_cn2 : Hid (CB cn2) := hIn2.b
  have : cn2 20 = cn 20 := hf2.1 20 (nml rfl)
  have : cn2 25 = cn 25 := hf2.1 25 (nml rfl)
  have hq_cn2 := Hid.i (frq_19_23_24_26_0_1_2_46_57_58_62_63_75_83_44 hf2)
  have : cn2 20 = (cn 20) := hfc2.1 20 (nml rfl)
  have : cn2 25 = (cn 25) := hfc2.1 25 (nml rfl)
  rcases h_2 with rfl | ⟨rfl, kh_2⟩
  ·
    refine lv_if_ne (tgt := 9) hx hb (oc_154 4 (aq_4 shX12_readsCompared_0) sgw_0_5) rfl (fun h => absurd h cq_eq_0_0) (fun _ => ?_)
    refine lv_iconst (v := 0) hx hb (oc_3 7 (aq_7 shX12_readsCompared_0)) kic_0 ?_
    exact W.zret (v := 0) hx hb hr rfl (fun t ht hW => ⟨⟨0, (cn2, In2, Fn2), rfl, ⟨(Fr.mo hf2 (sbl rfl) (sbl rfl) (sbl rfl)), hIn2, (by show 0 = 0 ∨ (0 = 1 ∧ PBk (cn2 19) (cn2 20) (cn2 23) (cn2 24) (Fn2 27) (Fn2 28) a0 1 s0 ∧ CK (cn2 24) (Fn2 28) ∧ (∀ k : Nat, k < a0 → Fn2 27 k = Fn 27 k) ∧ cn 19 < cn2 19); exact Or.inl rfl)⟩, by rw [ht]; exact hP, hD⟩, hS.F ht⟩) hS.2.2 (oc_172 8 (aq_8 shX12_readsCompared_0))
  ·
    obtain ⟨kh_2a, kh_2e, kh_2b, kh_2c, kh_2d⟩ := kh_2
    have kh_2f := kh_2a.f
    refine lv_if_ne (tgt := 9) hx hb (oc_154 4 (aq_4 shX12_readsCompared_0) sgw_0_5) rfl (fun _ => ?_) (fun h => absurd h cq_eq_1_0)
    have hC1 : CK (cn2 24) (Fn2 28) := by rw [kh_2e]; exact CK.cg hC kh_2c
    have hC1w := hC1.1
    refine lv_aload_n hx hb (oc_42 9 (aq_9 shX12_readsCompared_0)) rfl (lvA0 hl) ?_
    refine vp_callSi (runV_ra (As := []) (rest := []) S (q_here l D cI cB cZ g cn2 In2 Fn2  hIn2 (by (first | omega | (have zz0 := Hid.u hi_cn; have zz1 := Hid.u hi_cn2; have zz2 := Hid.u hq_cn2; omega))) (by (first | omega | (have zz0 := Hid.u hi_cn; have zz1 := Hid.u hi_cn2; have zz2 := Hid.u hq_cn2; omega)))) kV_RX12_239 hK hP 0 rfl rfl rfl ⟨Nat.le_of_ble_eq_true rfl, Nat.le_of_ble_eq_true rfl⟩ ⟨Nat.le_of_ble_eq_true rfl, Nat.le_of_ble_eq_true rfl⟩ rfl hl.1 rfl (Nat.le_of_ble_eq_true rfl) (oc_182 10 (aq_10 shX12_readsCompared_0) uw_0_239)) (fun r_3 h_4 => ?_)
    refine lv_bipush (v := 60) hx hb (oc_16 13 (aq_13 shX12_readsCompared_0) sgb_60) kbc_60 ?_
    refine lv_icmp_ne (tgt := 23) hx hb (oc_160 15 (aq_15 shX12_readsCompared_0) sgw_0_8) rfl (fun c_5 => ?_) (fun c_5 => ?_)
    ·
      have tc_5 : (r_3.toInt : Int) ≠ 60 := fun q => c_5 (Int32.toInt_inj.mp q)
      refine lv_aload_n hx hb (oc_42 23 (aq_23 shX12_readsCompared_0)) rfl (lvA0 hl) ?_
      refine vp_callSi (runV_ra (As := []) (rest := []) S (q_here l D cI cB cZ g cn2 In2 Fn2  hIn2 (by (first | omega | (have zz0 := Hid.u hi_cn; have zz1 := Hid.u hi_cn2; have zz2 := Hid.u hq_cn2; omega))) (by (first | omega | (have zz0 := Hid.u hi_cn; have zz1 := Hid.u hi_cn2; have zz2 := Hid.u hq_cn2; omega)))) kV_RX12_239 hK hP 0 rfl rfl rfl ⟨Nat.le_of_ble_eq_true rfl, Nat.le_of_ble_eq_true rfl⟩ ⟨Nat.le_of_ble_eq_true rfl, Nat.le_of_ble_eq_true rfl⟩ rfl hl.1 rfl (Nat.le_of_ble_eq_true rfl) (oc_182 24 shX12_readsCompared_24 uw_0_239)) (fun r_6 h_7 => ?_)
      refine lv_bipush (v := 62) hx hb (oc_16 27 (aq_3 shX12_readsCompared_24) sgb_62) kbc_62 ?_
      refine lv_icmp_ne (tgt := 37) hx hb (oc_160 29 (aq_5 shX12_readsCompared_24) sgw_0_8) rfl (fun c_8 => ?_) (fun c_8 => ?_)
      ·
        have tc_8 : (r_6.toInt : Int) ≠ 62 := fun q => c_8 (Int32.toInt_inj.mp q)
        refine lv_aload_n hx hb (oc_42 37 (aq_13 shX12_readsCompared_24)) rfl (lvA0 hl) ?_
        refine vp_callSi (runV_ra (As := []) (rest := []) S (q_here l D cI cB cZ g cn2 In2 Fn2  hIn2 (by (first | omega | (have zz0 := Hid.u hi_cn; have zz1 := Hid.u hi_cn2; have zz2 := Hid.u hq_cn2; omega))) (by (first | omega | (have zz0 := Hid.u hi_cn; have zz1 := Hid.u hi_cn2; have zz2 := Hid.u hq_cn2; omega)))) kV_RX12_239 hK hP 0 rfl rfl rfl ⟨Nat.le_of_ble_eq_true rfl, Nat.le_of_ble_eq_true rfl⟩ ⟨Nat.le_of_ble_eq_true rfl, Nat.le_of_ble_eq_true rfl⟩ rfl hl.1 rfl (Nat.le_of_ble_eq_true rfl) (oc_182 38 (aq_14 shX12_readsCompared_24) uw_0_239)) (fun r_9 h_10 => ?_)
        refine lv_bipush (v := 61) hx hb (oc_16 41 (aq_17 shX12_readsCompared_24) sgb_61) kbc_61 ?_
        refine lv_icmp_ne (tgt := 51) hx hb (oc_160 43 (aq_19 shX12_readsCompared_24) sgw_0_8) rfl (fun c_11 => ?_) (fun c_11 => ?_)
        ·
          have tc_11 : (r_9.toInt : Int) ≠ 61 := fun q => c_11 (Int32.toInt_inj.mp q)
          refine lv_iconst (v := (-1)) hx hb (oc_2 51 (aq_3 shX12_readsCompared_48)) kic_m1 ?_
          refine lv_istore_n (lv' := [(1, .int (-1)), (0, .ref (g 100))]) hx hb dX12_readsCompared_52 rfl hl (ltb rfl) rfl (fun ls hl => ?_)
          refine lv_iload_n hx hb dX12_readsCompared_53 rfl (lvA0 hl) ?_
          refine lv_iconst (v := (-1)) hx hb dX12_readsCompared_54 kic_m1 ?_
          refine lv_icmp_ne (tgt := 68) hx hb dX12_readsCompared_55 rfl (fun h => absurd h cq_eq_m1_m1) (fun _ => ?_)
          refine lv_aload_n hx hb (oc_42 58 (aq_10 shX12_readsCompared_48)) rfl (lvA1 hl) ?_
          refine lv_iconst (v := 1) hx hb (oc_4 59 (aq_11 shX12_readsCompared_48)) kic_1 ?_
          refine lv_aload_n hx hb (oc_42 60 (aq_12 shX12_readsCompared_48)) rfl (lvA1 hl) ?_
          refine gM_233 S hK hP (v := .int (nI (cn2 19))) rfl (oc_180 61 (aq_13 shX12_readsCompared_48) uw_0_233) ?_
          have hFc := free_all hD hS hA
          refine va_calli (runV_a (As := [.int 1, .int (nI (cn2 19))]) (rest := []) S (q_wrong l D cI cB cZ g cn2 In2 Fn2 1 (nI (cn2 19)) H.size hIn2) kV_RX12_246 hK hP hD 0 rfl rfl rfl ⟨Nat.le_of_ble_eq_true rfl, Nat.le_of_ble_eq_true rfl⟩ ⟨Nat.le_of_ble_eq_true rfl, Nat.le_of_ble_eq_true rfl⟩ rfl hl.1 rfl (Nat.le_of_ble_eq_true rfl) (oc_182 64 (aq_16 shX12_readsCompared_48) uw_0_246)) hS (fun q _ h => hFc q h) hFc (fun r_12 u t H1 locs ht hvm wh_13 hB hz1 hk1 hS => ?_)
          obtain ⟨cn13, In13, Fn13⟩ := u
          obtain ⟨hP1, hD1⟩ := hB
          rw [ht] at hP1
          have vh_13 : (fun r c2 I2 F2 => (∀ k : Nat, k ∉ [21] → I2 k = In2 k) ∧ ((r = 0 ∧ (True) ∧ cn2 = c2 ∧ Fn2 = F2))) r_12 cn13 In13 Fn13 := wh_13
          obtain ⟨hI13_, vh_13⟩ := vh_13
          obtain ⟨rfl, h_13, rfl, rfl⟩ := vh_13
          have hf13 : Fr [19, 23, 24, 26] [21, 22] [27, 28] cn In Fn cn2 In13 Fn2 := Fr.mo (Fr.tr hf2 (show Fr [] [21] [] cn2 In2 Fn2 cn2 In13 Fn2 from ⟨fun _ _ => rfl, hI13_, fun _ _ => rfl⟩)) (sbl rfl) (sbl rfl) (sbl rfl)
          have hP : va_P D vwCl (wM cI cB cZ g cn2 In13 Fn2) H1 := hP1
          have hD : va_D A (wM cI cB cZ g cn2 In13 Fn2) := hD1.weaken (fun _ _ _ h => hFc _ h)
          generalize H1 = H at hP hS ⊢
          exact W.zret (v := 0) hx hb hr rfl (fun t ht hW => ⟨⟨0, (cn2, In13, Fn2), rfl, ⟨(Fr.mo hf13 (sbl rfl) (sbl rfl) (sbl rfl)), hIn2, (by show 0 = 0 ∨ (0 = 1 ∧ PBk (cn2 19) (cn2 20) (cn2 23) (cn2 24) (Fn2 27) (Fn2 28) a0 1 s0 ∧ CK (cn2 24) (Fn2 28) ∧ (∀ k : Nat, k < a0 → Fn2 27 k = Fn 27 k) ∧ cn 19 < cn2 19); exact Or.inl rfl)⟩, by rw [ht]; exact hP, hD⟩, hS.F ht⟩) hS.2.2 (oc_172 67 (aq_19 shX12_readsCompared_48))
        ·
          have tc_11 : (r_9.toInt : Int) = 61 := congrArg Int32.toInt c_11
          refine lv_bipush (v := 9) hx hb (oc_16 46 (aq_22 shX12_readsCompared_24) sgb_9) kbc_9 ?_
          refine lv_goto (tgt := 52) hx hb (oc_167 48 shX12_readsCompared_48 sgw_0_4) rfl ?_
          refine lv_istore_n (lv' := [(1, .int 9), (0, .ref (g 100))]) hx hb dX12_readsCompared_52 rfl hl (ltb rfl) rfl (fun ls hl => ?_)
          refine lv_iload_n hx hb dX12_readsCompared_53 rfl (lvA0 hl) ?_
          refine lv_iconst (v := (-1)) hx hb dX12_readsCompared_54 kic_m1 ?_
          refine lv_icmp_ne (tgt := 68) hx hb dX12_readsCompared_55 rfl (fun _ => ?_) (fun h => absurd h cq_eq_9_m1)
          refine lv_aload_n hx hb (oc_42 68 (aq_20 shX12_readsCompared_48)) rfl (lvA1 hl) ?_
          refine lv_aload_n hx hb (oc_42 69 (aq_21 shX12_readsCompared_48)) rfl (lvA1 hl) ?_
          refine gM_233 S hK hP (v := .int (nI (cn2 19))) rfl (oc_180 70 (aq_22 shX12_readsCompared_48) uw_0_233) ?_
          refine lv_iconst (v := 1) hx hb (oc_4 73 shX12_readsCompared_73) kic_1 ?_
          refine lv_iadd hx hb (oc_96 74 (aq_1 shX12_readsCompared_73)) ?_
          refine lv_topi (fun y_14 ey_14 => ?_)
          obtain rfl : y_14 = (nI ((cn2 19) + 1)) := ey_14.trans (nI_add (cn2 19) 1)
          refine pM_233 S hK hP hD hS (a := ((cn2 19) + 1)) (cn2 := (va_up cn2 19 ((cn2 19) + 1))) rfl rfl (oc_181 75 (aq_2 shX12_readsCompared_73) uw_0_233) (fun H locs hP hD hS => ?_)
          refine lv_aload_n hx hb (oc_42 78 (aq_5 shX12_readsCompared_73)) rfl (lvA1 hl) ?_
          have hFc := free_all hD hS hA
          refine va_calli (runV_a (As := []) (rest := []) S (q_readsSum l D cI cB cZ g (va_up cn2 19 ((cn2 19) + 1)) In2 Fn2 a0 1 (s0 + 1) H.size (IM.fr (In := In2) hIn2 (Fr.c 19 Fr.rf) (by decide) (by decide)) (by have q := PBk.pl (pl' := cn2 19 + 1) (s' := s0 + 1) kh_2a (by (first | omega | (have zz0 := Hid.u hi_cn; have zz1 := Hid.u hi_cn2; have zz2 := Hid.u hq_cn2; omega))) (by (first | omega | (have zz0 := Hid.u hi_cn; have zz1 := Hid.u hi_cn2; have zz2 := Hid.u hq_cn2; omega))) (by (first | omega | (have zz0 := Hid.u hi_cn; have zz1 := Hid.u hi_cn2; have zz2 := Hid.u hq_cn2; omega))); exact q) (show 0 < cn2 24 → 10 ≤ kd (Fn2 28 (cn2 24 - 1)) ∧ kd (Fn2 28 (cn2 24 - 1)) ≤ 13 from fun _ => hC1.2.2 _ (by (first | omega | (have zz0 := Hid.u hi_cn; have zz1 := Hid.u hi_cn2; have zz2 := Hid.u hq_cn2; omega))))) kV_RX12_297 hK hP hD 0 rfl rfl rfl ⟨Nat.le_of_ble_eq_true rfl, Nat.le_of_ble_eq_true rfl⟩ ⟨Nat.le_of_ble_eq_true rfl, Nat.le_of_ble_eq_true rfl⟩ rfl hl.1 rfl (Nat.le_of_ble_eq_true rfl) (oc_182 79 (aq_6 shX12_readsCompared_73) uw_1_41)) hS (fun q _ h => hFc q h) hFc (fun r_15 u t H1 locs ht hvm wh_16 hB hz1 hk1 hS => ?_)
          obtain ⟨cn16, In16, Fn16⟩ := u
          obtain ⟨hP1, hD1⟩ := hB
          rw [ht] at hP1
          have hP : va_P D vwCl (wM cI cB cZ g cn16 In16 Fn16) H1 := hP1
          have hD : va_D A (wM cI cB cZ g cn16 In16 Fn16) := hD1.weaken (fun _ _ _ h => hFc _ h)
          generalize H1 = H at hP hS ⊢
          have vh_16 : (fun r c2 I2 F2 => Fr [19, 23, 24, 26] [21, 22] [27, 28] (va_up cn2 19 ((cn2 19) + 1)) In2 Fn2 c2 I2 F2 ∧ IM c2 F2 ∧ (r = 0 ∨ (r = 1 ∧ PBk (c2 19) (c2 20) (c2 23) (c2 24) (F2 27) (F2 28) a0 (1 + 1) (s0 + 1) ∧ c2 24 = (cn2 24) ∧ (∀ k : Nat, k < a0 → F2 27 k = (Fn2 27) k) ∧ (∀ i : Nat, i < (cn2 24) → F2 28 i = (Fn2 28) i) ∧ ((cn2 19) + 1) < c2 19))) r_15 cn16 In16 Fn16 := wh_16
          obtain ⟨hfc16, hIn16, h_16⟩ := vh_16
          have hf16 : Fr [19, 23, 24, 26] [21, 22] [27, 28] cn In Fn cn16 In16 Fn16 := Fr.mo (Fr.tr (Fr.c 19 hf2) hfc16) (sbl rfl) (sbl rfl) (sbl rfl)
          have hi_cn16 : Hid (CB cn16) := hIn16.b
          have : cn16 20 = cn 20 := hf16.1 20 (nml rfl)
          have : cn16 25 = cn 25 := hf16.1 25 (nml rfl)
          have hq_cn16 := Hid.i (frq_19_23_24_26_0_1_2_46_57_58_62_63_75_83_44 hf16)
          have : cn16 20 = (cn2 20) := hfc16.1 20 (nml rfl)
          have : cn16 25 = (cn2 25) := hfc16.1 25 (nml rfl)
          rcases h_16 with rfl | ⟨rfl, kh_16⟩
          ·
            refine lv_if_ne (tgt := 87) hx hb dX12_readsCompared_82 rfl (fun h => absurd h cq_eq_0_0) (fun _ => ?_)
            refine lv_iconst (v := 0) hx hb (oc_3 85 (aq_12 shX12_readsCompared_73)) kic_0 ?_
            exact W.zret (v := 0) hx hb hr rfl (fun t ht hW => ⟨⟨0, (cn16, In16, Fn16), rfl, ⟨(Fr.mo hf16 (sbl rfl) (sbl rfl) (sbl rfl)), hIn16, (by show 0 = 0 ∨ (0 = 1 ∧ PBk (cn16 19) (cn16 20) (cn16 23) (cn16 24) (Fn16 27) (Fn16 28) a0 1 s0 ∧ CK (cn16 24) (Fn16 28) ∧ (∀ k : Nat, k < a0 → Fn16 27 k = Fn 27 k) ∧ cn 19 < cn16 19); exact Or.inl rfl)⟩, by rw [ht]; exact hP, hD⟩, hS.F ht⟩) hS.2.2 (oc_172 86 (aq_13 shX12_readsCompared_73))
          ·
            obtain ⟨kh_16a, kh_16e, kh_16b, kh_16c, kh_16d⟩ := kh_16
            have kh_16f := kh_16a.f
            refine lv_if_ne (tgt := 87) hx hb dX12_readsCompared_82 rfl (fun _ => ?_) (fun h => absurd h cq_eq_1_0)
            have hC2 : CK (cn16 24) (Fn16 28) := by rw [kh_16e]; exact CK.cg hC1 (fun i hi => kh_16c i hi)
            have hC2w := hC2.1
            refine lv_aload_n hx hb (oc_42 87 (aq_14 shX12_readsCompared_73)) rfl (lvA1 hl) ?_
            refine lv_iload_n hx hb (oc_27 88 (aq_15 shX12_readsCompared_73)) rfl (lvA0 hl) ?_
            refine lv_iconst (v := 0) hx hb (oc_3 89 (aq_16 shX12_readsCompared_73)) kic_0 ?_
            have hFc := free_all hD hS hA
            refine va_callv (runV_a (As := [.int 9, .int 0]) (rest := []) S (q_says l D cI cB cZ g cn16 In16 Fn16 9 0 H.size hIn16 (by (first | omega | (have zz0 := Hid.u hi_cn; have zz1 := Hid.u hi_cn16; have zz2 := Hid.u hi_cn2; have zz3 := Hid.u hq_cn16; have zz4 := Hid.u hq_cn2; omega)))) kV_RX12_270 hK hP hD 0 rfl rfl rfl ⟨Nat.le_of_ble_eq_true rfl, Nat.le_of_ble_eq_true rfl⟩ ⟨Nat.le_of_ble_eq_true rfl, Nat.le_of_ble_eq_true rfl⟩ rfl hl.1 rfl (Nat.le_of_ble_eq_true rfl) (oc_182 90 (aq_17 shX12_readsCompared_73) uw_1_14)) hS (fun q _ h => hFc q h) hFc (fun u t H1 locs ht hvm wh_18 hB hz1 hk1 hS => ?_)
            obtain ⟨cn18, In18, Fn18⟩ := u
            obtain ⟨hP1, hD1⟩ := hB
            rw [ht] at hP1
            have vh_18 : (fun c2 I2 F2 => (∀ k : Nat, k ∉ [] → I2 k = In16 k) ∧ (((True) ∧ (va_up cn16 23 ((cn16 23) + 1)) = c2 ∧ (va_up Fn16 27 (upd ((Fn16 27)) ((cn16 23)) (nI (9 * 1048576 + 0)))) = F2))) cn18 In18 Fn18 := wh_18
            obtain ⟨hI18_, vh_18⟩ := vh_18
            obtain ⟨h_18, rfl, rfl⟩ := vh_18
            obtain rfl : In16 = In18 := (funext (fun k => hI18_ k List.not_mem_nil)).symm
            have hP : va_P D vwCl (wM cI cB cZ g (va_up cn16 23 ((cn16 23) + 1)) In16 (va_up Fn16 27 (upd ((Fn16 27)) ((cn16 23)) (nI (9 * 1048576 + 0))))) H1 := hP1
            have hD : va_D A (wM cI cB cZ g (va_up cn16 23 ((cn16 23) + 1)) In16 (va_up Fn16 27 (upd ((Fn16 27)) ((cn16 23)) (nI (9 * 1048576 + 0))))) := hD1.weaken (fun _ _ _ h => hFc _ h)
            generalize H1 = H at hP hS ⊢
            refine lv_aload_n hx hb (oc_42 93 (aq_20 shX12_readsCompared_73)) rfl (lvA1 hl) ?_
            have hFc := free_all hD hS hA
            refine va_callv (runV_a (As := []) (rest := []) S (q_endsPiece l D cI cB cZ g (va_up cn16 23 ((cn16 23) + 1)) In16 (va_up Fn16 27 (upd ((Fn16 27)) ((cn16 23)) (nI (9 * 1048576 + 0)))) a0 s0 H.size (IM.fr (In := In16) hIn16 (Fr.f 27 (Fr.c 23 Fr.rf)) (by decide) (by decide)) (by have q := PBk.code (o := 9) (x := 0) (w' := cn16 24) (h' := 1) (s' := s0) kh_16a (Nat.le_refl _) (by (first | omega | (have zz0 := Hid.u hi_cn; have zz1 := Hid.u hi_cn16; have zz2 := Hid.u hi_cn2; have zz3 := Hid.u hq_cn16; have zz4 := Hid.u hq_cn2; omega))) (Or.inl rfl) (by decide) (Or.inr (Or.inr (Or.inr ⟨by decide, by decide, by decide, rfl⟩))) (by (first | omega | (have zz0 := Hid.u hi_cn; have zz1 := Hid.u hi_cn16; have zz2 := Hid.u hi_cn2; have zz3 := Hid.u hq_cn16; have zz4 := Hid.u hq_cn2; omega))); exact q) hC2) kV_RX12_300 hK hP hD 0 rfl rfl rfl ⟨Nat.le_of_ble_eq_true rfl, Nat.le_of_ble_eq_true rfl⟩ ⟨Nat.le_of_ble_eq_true rfl, Nat.le_of_ble_eq_true rfl⟩ rfl hl.1 rfl (Nat.le_of_ble_eq_true rfl) (oc_182 94 (aq_21 shX12_readsCompared_73) uw_1_44)) hS (fun q _ h => hFc q h) hFc (fun u t H1 locs ht hvm wh_20 hB hz1 hk1 hS => ?_)
            obtain ⟨cn20, In20, Fn20⟩ := u
            obtain ⟨hP1, hD1⟩ := hB
            rw [ht] at hP1
            have hP : va_P D vwCl (wM cI cB cZ g cn20 In20 Fn20) H1 := hP1
            have hD : va_D A (wM cI cB cZ g cn20 In20 Fn20) := hD1.weaken (fun _ _ _ h => hFc _ h)
            generalize H1 = H at hP hS ⊢
            have vh_20 : (fun c2 I2 F2 => Fr [23, 24] [22] [27] (va_up cn16 23 ((cn16 23) + 1)) In16 (va_up Fn16 27 (upd ((Fn16 27)) ((cn16 23)) (nI (9 * 1048576 + 0)))) c2 I2 F2 ∧ IM c2 F2 ∧ ((PBk (c2 19) (c2 20) (c2 23) (c2 24) (F2 27) (F2 28) a0 1 s0) ∧ (CK (c2 24) (F2 28)) ∧ (∀ k : Nat, k < a0 → F2 27 k = (upd ((Fn16 27)) ((cn16 23)) (nI (9 * 1048576 + 0))) k))) cn20 In20 Fn20 := wh_20
            obtain ⟨hfc20, hIn20, h_20⟩ := vh_20
            have hf20 : Fr [19, 23, 24, 26] [21, 22] [27, 28] cn In Fn cn20 In20 Fn20 := Fr.mo (Fr.tr (Fr.f 27 (Fr.c 23 hf16)) hfc20) (sbl rfl) (sbl rfl) (sbl rfl)
            have hi_cn20 : Hid (CB cn20) := hIn20.b
            have : cn20 20 = cn 20 := hf20.1 20 (nml rfl)
            have : cn20 25 = cn 25 := hf20.1 25 (nml rfl)
            have hq_cn20 := Hid.i (frq_19_23_24_26_0_1_2_46_57_58_62_63_75_83_44 hf20)
            have : cn20 19 = (cn16 19) := hfc20.1 19 (nml rfl)
            have : cn20 20 = (cn16 20) := hfc20.1 20 (nml rfl)
            have : cn20 25 = (cn16 25) := hfc20.1 25 (nml rfl)
            obtain ⟨h_20a, h_20b, h_20c⟩ := h_20
            have h_20f := h_20a.f
            refine lv_iconst (v := 1) hx hb (oc_4 97 shX12_readsCompared_97) kic_1 ?_
            exact W.zret (v := 1) hx hb hr rfl (fun t ht hW => ⟨⟨1, (cn20, In20, Fn20), rfl, ⟨(Fr.mo hf20 (sbl rfl) (sbl rfl) (sbl rfl)), hIn20, (by show 1 = 0 ∨ (1 = 1 ∧ PBk (cn20 19) (cn20 20) (cn20 23) (cn20 24) (Fn20 27) (Fn20 28) a0 1 s0 ∧ CK (cn20 24) (Fn20 28) ∧ (∀ k : Nat, k < a0 → Fn20 27 k = Fn 27 k) ∧ cn 19 < cn20 19); exact Or.inr ⟨rfl, h_20a, h_20b, fun k hk => (h_20c k hk).trans ((upd_lt (by (first | omega | (have zz0 := Hid.u hi_cn; have zz1 := Hid.u hi_cn16; have zz2 := Hid.u hi_cn2; have zz3 := Hid.u hi_cn20; have zz4 := Hid.u hq_cn16; have zz5 := Hid.u hq_cn2; have zz6 := Hid.u hq_cn20; omega)))).trans ((kh_16b k hk).trans (kh_2b k hk))), by (first | omega | (have zz0 := Hid.u hi_cn; have zz1 := Hid.u hi_cn16; have zz2 := Hid.u hi_cn2; have zz3 := Hid.u hi_cn20; have zz4 := Hid.u hq_cn16; have zz5 := Hid.u hq_cn2; have zz6 := Hid.u hq_cn20; omega))⟩)⟩, by rw [ht]; exact hP, hD⟩, hS.F ht⟩) hS.2.2 (oc_172 98 (aq_1 shX12_readsCompared_97))
      ·
        have tc_8 : (r_6.toInt : Int) = 62 := congrArg Int32.toInt c_8
        refine lv_bipush (v := 8) hx hb (oc_16 32 (aq_8 shX12_readsCompared_24) sgb_8) kbc_8 ?_
        refine lv_goto (tgt := 52) hx hb (oc_167 34 (aq_10 shX12_readsCompared_24) sgw_0_18) rfl ?_
        refine lv_istore_n (lv' := [(1, .int 8), (0, .ref (g 100))]) hx hb dX12_readsCompared_52 rfl hl (ltb rfl) rfl (fun ls hl => ?_)
        refine lv_iload_n hx hb dX12_readsCompared_53 rfl (lvA0 hl) ?_
        refine lv_iconst (v := (-1)) hx hb dX12_readsCompared_54 kic_m1 ?_
        refine lv_icmp_ne (tgt := 68) hx hb dX12_readsCompared_55 rfl (fun _ => ?_) (fun h => absurd h cq_eq_8_m1)
        refine lv_aload_n hx hb (oc_42 68 (aq_20 shX12_readsCompared_48)) rfl (lvA1 hl) ?_
        refine lv_aload_n hx hb (oc_42 69 (aq_21 shX12_readsCompared_48)) rfl (lvA1 hl) ?_
        refine gM_233 S hK hP (v := .int (nI (cn2 19))) rfl (oc_180 70 (aq_22 shX12_readsCompared_48) uw_0_233) ?_
        refine lv_iconst (v := 1) hx hb (oc_4 73 shX12_readsCompared_73) kic_1 ?_
        refine lv_iadd hx hb (oc_96 74 (aq_1 shX12_readsCompared_73)) ?_
        refine lv_topi (fun y_21 ey_21 => ?_)
        obtain rfl : y_21 = (nI ((cn2 19) + 1)) := ey_21.trans (nI_add (cn2 19) 1)
        refine pM_233 S hK hP hD hS (a := ((cn2 19) + 1)) (cn2 := (va_up cn2 19 ((cn2 19) + 1))) rfl rfl (oc_181 75 (aq_2 shX12_readsCompared_73) uw_0_233) (fun H locs hP hD hS => ?_)
        refine lv_aload_n hx hb (oc_42 78 (aq_5 shX12_readsCompared_73)) rfl (lvA1 hl) ?_
        have hFc := free_all hD hS hA
        refine va_calli (runV_a (As := []) (rest := []) S (q_readsSum l D cI cB cZ g (va_up cn2 19 ((cn2 19) + 1)) In2 Fn2 a0 1 (s0 + 1) H.size (IM.fr (In := In2) hIn2 (Fr.c 19 Fr.rf) (by decide) (by decide)) (by have q := PBk.pl (pl' := cn2 19 + 1) (s' := s0 + 1) kh_2a (by (first | omega | (have zz0 := Hid.u hi_cn; have zz1 := Hid.u hi_cn2; have zz2 := Hid.u hq_cn2; omega))) (by (first | omega | (have zz0 := Hid.u hi_cn; have zz1 := Hid.u hi_cn2; have zz2 := Hid.u hq_cn2; omega))) (by (first | omega | (have zz0 := Hid.u hi_cn; have zz1 := Hid.u hi_cn2; have zz2 := Hid.u hq_cn2; omega))); exact q) (show 0 < cn2 24 → 10 ≤ kd (Fn2 28 (cn2 24 - 1)) ∧ kd (Fn2 28 (cn2 24 - 1)) ≤ 13 from fun _ => hC1.2.2 _ (by (first | omega | (have zz0 := Hid.u hi_cn; have zz1 := Hid.u hi_cn2; have zz2 := Hid.u hq_cn2; omega))))) kV_RX12_297 hK hP hD 0 rfl rfl rfl ⟨Nat.le_of_ble_eq_true rfl, Nat.le_of_ble_eq_true rfl⟩ ⟨Nat.le_of_ble_eq_true rfl, Nat.le_of_ble_eq_true rfl⟩ rfl hl.1 rfl (Nat.le_of_ble_eq_true rfl) (oc_182 79 (aq_6 shX12_readsCompared_73) uw_1_41)) hS (fun q _ h => hFc q h) hFc (fun r_22 u t H1 locs ht hvm wh_23 hB hz1 hk1 hS => ?_)
        obtain ⟨cn23, In23, Fn23⟩ := u
        obtain ⟨hP1, hD1⟩ := hB
        rw [ht] at hP1
        have hP : va_P D vwCl (wM cI cB cZ g cn23 In23 Fn23) H1 := hP1
        have hD : va_D A (wM cI cB cZ g cn23 In23 Fn23) := hD1.weaken (fun _ _ _ h => hFc _ h)
        generalize H1 = H at hP hS ⊢
        have vh_23 : (fun r c2 I2 F2 => Fr [19, 23, 24, 26] [21, 22] [27, 28] (va_up cn2 19 ((cn2 19) + 1)) In2 Fn2 c2 I2 F2 ∧ IM c2 F2 ∧ (r = 0 ∨ (r = 1 ∧ PBk (c2 19) (c2 20) (c2 23) (c2 24) (F2 27) (F2 28) a0 (1 + 1) (s0 + 1) ∧ c2 24 = (cn2 24) ∧ (∀ k : Nat, k < a0 → F2 27 k = (Fn2 27) k) ∧ (∀ i : Nat, i < (cn2 24) → F2 28 i = (Fn2 28) i) ∧ ((cn2 19) + 1) < c2 19))) r_22 cn23 In23 Fn23 := wh_23
        obtain ⟨hfc23, hIn23, h_23⟩ := vh_23
        have hf23 : Fr [19, 23, 24, 26] [21, 22] [27, 28] cn In Fn cn23 In23 Fn23 := Fr.mo (Fr.tr (Fr.c 19 hf2) hfc23) (sbl rfl) (sbl rfl) (sbl rfl)
        have hi_cn23 : Hid (CB cn23) := hIn23.b
        have : cn23 20 = cn 20 := hf23.1 20 (nml rfl)
        have : cn23 25 = cn 25 := hf23.1 25 (nml rfl)
        have hq_cn23 := Hid.i (frq_19_23_24_26_0_1_2_46_57_58_62_63_75_83_44 hf23)
        have : cn23 20 = (cn2 20) := hfc23.1 20 (nml rfl)
        have : cn23 25 = (cn2 25) := hfc23.1 25 (nml rfl)
        rcases h_23 with rfl | ⟨rfl, kh_23⟩
        ·
          refine lv_if_ne (tgt := 87) hx hb dX12_readsCompared_82 rfl (fun h => absurd h cq_eq_0_0) (fun _ => ?_)
          refine lv_iconst (v := 0) hx hb (oc_3 85 (aq_12 shX12_readsCompared_73)) kic_0 ?_
          exact W.zret (v := 0) hx hb hr rfl (fun t ht hW => ⟨⟨0, (cn23, In23, Fn23), rfl, ⟨(Fr.mo hf23 (sbl rfl) (sbl rfl) (sbl rfl)), hIn23, (by show 0 = 0 ∨ (0 = 1 ∧ PBk (cn23 19) (cn23 20) (cn23 23) (cn23 24) (Fn23 27) (Fn23 28) a0 1 s0 ∧ CK (cn23 24) (Fn23 28) ∧ (∀ k : Nat, k < a0 → Fn23 27 k = Fn 27 k) ∧ cn 19 < cn23 19); exact Or.inl rfl)⟩, by rw [ht]; exact hP, hD⟩, hS.F ht⟩) hS.2.2 (oc_172 86 (aq_13 shX12_readsCompared_73))
        ·
          obtain ⟨kh_23a, kh_23e, kh_23b, kh_23c, kh_23d⟩ := kh_23
          have kh_23f := kh_23a.f
          refine lv_if_ne (tgt := 87) hx hb dX12_readsCompared_82 rfl (fun _ => ?_) (fun h => absurd h cq_eq_1_0)
          have hC2 : CK (cn23 24) (Fn23 28) := by rw [kh_23e]; exact CK.cg hC1 (fun i hi => kh_23c i hi)
          have hC2w := hC2.1
          refine lv_aload_n hx hb (oc_42 87 (aq_14 shX12_readsCompared_73)) rfl (lvA1 hl) ?_
          refine lv_iload_n hx hb (oc_27 88 (aq_15 shX12_readsCompared_73)) rfl (lvA0 hl) ?_
          refine lv_iconst (v := 0) hx hb (oc_3 89 (aq_16 shX12_readsCompared_73)) kic_0 ?_
          have hFc := free_all hD hS hA
          refine va_callv (runV_a (As := [.int 8, .int 0]) (rest := []) S (q_says l D cI cB cZ g cn23 In23 Fn23 8 0 H.size hIn23 (by (first | omega | (have zz0 := Hid.u hi_cn; have zz1 := Hid.u hi_cn2; have zz2 := Hid.u hi_cn23; have zz3 := Hid.u hq_cn2; have zz4 := Hid.u hq_cn23; omega)))) kV_RX12_270 hK hP hD 0 rfl rfl rfl ⟨Nat.le_of_ble_eq_true rfl, Nat.le_of_ble_eq_true rfl⟩ ⟨Nat.le_of_ble_eq_true rfl, Nat.le_of_ble_eq_true rfl⟩ rfl hl.1 rfl (Nat.le_of_ble_eq_true rfl) (oc_182 90 (aq_17 shX12_readsCompared_73) uw_1_14)) hS (fun q _ h => hFc q h) hFc (fun u t H1 locs ht hvm wh_25 hB hz1 hk1 hS => ?_)
          obtain ⟨cn25, In25, Fn25⟩ := u
          obtain ⟨hP1, hD1⟩ := hB
          rw [ht] at hP1
          have vh_25 : (fun c2 I2 F2 => (∀ k : Nat, k ∉ [] → I2 k = In23 k) ∧ (((True) ∧ (va_up cn23 23 ((cn23 23) + 1)) = c2 ∧ (va_up Fn23 27 (upd ((Fn23 27)) ((cn23 23)) (nI (8 * 1048576 + 0)))) = F2))) cn25 In25 Fn25 := wh_25
          obtain ⟨hI25_, vh_25⟩ := vh_25
          obtain ⟨h_25, rfl, rfl⟩ := vh_25
          obtain rfl : In23 = In25 := (funext (fun k => hI25_ k List.not_mem_nil)).symm
          have hP : va_P D vwCl (wM cI cB cZ g (va_up cn23 23 ((cn23 23) + 1)) In23 (va_up Fn23 27 (upd ((Fn23 27)) ((cn23 23)) (nI (8 * 1048576 + 0))))) H1 := hP1
          have hD : va_D A (wM cI cB cZ g (va_up cn23 23 ((cn23 23) + 1)) In23 (va_up Fn23 27 (upd ((Fn23 27)) ((cn23 23)) (nI (8 * 1048576 + 0))))) := hD1.weaken (fun _ _ _ h => hFc _ h)
          generalize H1 = H at hP hS ⊢
          refine lv_aload_n hx hb (oc_42 93 (aq_20 shX12_readsCompared_73)) rfl (lvA1 hl) ?_
          have hFc := free_all hD hS hA
          refine va_callv (runV_a (As := []) (rest := []) S (q_endsPiece l D cI cB cZ g (va_up cn23 23 ((cn23 23) + 1)) In23 (va_up Fn23 27 (upd ((Fn23 27)) ((cn23 23)) (nI (8 * 1048576 + 0)))) a0 s0 H.size (IM.fr (In := In23) hIn23 (Fr.f 27 (Fr.c 23 Fr.rf)) (by decide) (by decide)) (by have q := PBk.code (o := 8) (x := 0) (w' := cn23 24) (h' := 1) (s' := s0) kh_23a (Nat.le_refl _) (by (first | omega | (have zz0 := Hid.u hi_cn; have zz1 := Hid.u hi_cn2; have zz2 := Hid.u hi_cn23; have zz3 := Hid.u hq_cn2; have zz4 := Hid.u hq_cn23; omega))) (Or.inl rfl) (by decide) (Or.inr (Or.inr (Or.inr ⟨by decide, by decide, by decide, rfl⟩))) (by (first | omega | (have zz0 := Hid.u hi_cn; have zz1 := Hid.u hi_cn2; have zz2 := Hid.u hi_cn23; have zz3 := Hid.u hq_cn2; have zz4 := Hid.u hq_cn23; omega))); exact q) hC2) kV_RX12_300 hK hP hD 0 rfl rfl rfl ⟨Nat.le_of_ble_eq_true rfl, Nat.le_of_ble_eq_true rfl⟩ ⟨Nat.le_of_ble_eq_true rfl, Nat.le_of_ble_eq_true rfl⟩ rfl hl.1 rfl (Nat.le_of_ble_eq_true rfl) (oc_182 94 (aq_21 shX12_readsCompared_73) uw_1_44)) hS (fun q _ h => hFc q h) hFc (fun u t H1 locs ht hvm wh_27 hB hz1 hk1 hS => ?_)
          obtain ⟨cn27, In27, Fn27⟩ := u
          obtain ⟨hP1, hD1⟩ := hB
          rw [ht] at hP1
          have hP : va_P D vwCl (wM cI cB cZ g cn27 In27 Fn27) H1 := hP1
          have hD : va_D A (wM cI cB cZ g cn27 In27 Fn27) := hD1.weaken (fun _ _ _ h => hFc _ h)
          generalize H1 = H at hP hS ⊢
          have vh_27 : (fun c2 I2 F2 => Fr [23, 24] [22] [27] (va_up cn23 23 ((cn23 23) + 1)) In23 (va_up Fn23 27 (upd ((Fn23 27)) ((cn23 23)) (nI (8 * 1048576 + 0)))) c2 I2 F2 ∧ IM c2 F2 ∧ ((PBk (c2 19) (c2 20) (c2 23) (c2 24) (F2 27) (F2 28) a0 1 s0) ∧ (CK (c2 24) (F2 28)) ∧ (∀ k : Nat, k < a0 → F2 27 k = (upd ((Fn23 27)) ((cn23 23)) (nI (8 * 1048576 + 0))) k))) cn27 In27 Fn27 := wh_27
          obtain ⟨hfc27, hIn27, h_27⟩ := vh_27
          have hf27 : Fr [19, 23, 24, 26] [21, 22] [27, 28] cn In Fn cn27 In27 Fn27 := Fr.mo (Fr.tr (Fr.f 27 (Fr.c 23 hf23)) hfc27) (sbl rfl) (sbl rfl) (sbl rfl)
          have hi_cn27 : Hid (CB cn27) := hIn27.b
          have : cn27 20 = cn 20 := hf27.1 20 (nml rfl)
          have : cn27 25 = cn 25 := hf27.1 25 (nml rfl)
          have hq_cn27 := Hid.i (frq_19_23_24_26_0_1_2_46_57_58_62_63_75_83_44 hf27)
          have : cn27 19 = (cn23 19) := hfc27.1 19 (nml rfl)
          have : cn27 20 = (cn23 20) := hfc27.1 20 (nml rfl)
          have : cn27 25 = (cn23 25) := hfc27.1 25 (nml rfl)
          obtain ⟨h_27a, h_27b, h_27c⟩ := h_27
          have h_27f := h_27a.f
          refine lv_iconst (v := 1) hx hb (oc_4 97 shX12_readsCompared_97) kic_1 ?_
          exact W.zret (v := 1) hx hb hr rfl (fun t ht hW => ⟨⟨1, (cn27, In27, Fn27), rfl, ⟨(Fr.mo hf27 (sbl rfl) (sbl rfl) (sbl rfl)), hIn27, (by show 1 = 0 ∨ (1 = 1 ∧ PBk (cn27 19) (cn27 20) (cn27 23) (cn27 24) (Fn27 27) (Fn27 28) a0 1 s0 ∧ CK (cn27 24) (Fn27 28) ∧ (∀ k : Nat, k < a0 → Fn27 27 k = Fn 27 k) ∧ cn 19 < cn27 19); exact Or.inr ⟨rfl, h_27a, h_27b, fun k hk => (h_27c k hk).trans ((upd_lt (by (first | omega | (have zz0 := Hid.u hi_cn; have zz1 := Hid.u hi_cn2; have zz2 := Hid.u hi_cn23; have zz3 := Hid.u hi_cn27; have zz4 := Hid.u hq_cn2; have zz5 := Hid.u hq_cn23; have zz6 := Hid.u hq_cn27; omega)))).trans ((kh_23b k hk).trans (kh_2b k hk))), by (first | omega | (have zz0 := Hid.u hi_cn; have zz1 := Hid.u hi_cn2; have zz2 := Hid.u hi_cn23; have zz3 := Hid.u hi_cn27; have zz4 := Hid.u hq_cn2; have zz5 := Hid.u hq_cn23; have zz6 := Hid.u hq_cn27; omega))⟩)⟩, by rw [ht]; exact hP, hD⟩, hS.F ht⟩) hS.2.2 (oc_172 98 (aq_1 shX12_readsCompared_97))
    ·
      have tc_5 : (r_3.toInt : Int) = 60 := congrArg Int32.toInt c_5
      refine lv_bipush (v := 7) hx hb (oc_16 18 (aq_18 shX12_readsCompared_0) sgb_7) kbc_7 ?_
      refine lv_goto (tgt := 52) hx hb (oc_167 20 (aq_20 shX12_readsCompared_0) sgw_0_32) rfl ?_
      refine lv_istore_n (lv' := [(1, .int 7), (0, .ref (g 100))]) hx hb dX12_readsCompared_52 rfl hl (ltb rfl) rfl (fun ls hl => ?_)
      refine lv_iload_n hx hb dX12_readsCompared_53 rfl (lvA0 hl) ?_
      refine lv_iconst (v := (-1)) hx hb dX12_readsCompared_54 kic_m1 ?_
      refine lv_icmp_ne (tgt := 68) hx hb dX12_readsCompared_55 rfl (fun _ => ?_) (fun h => absurd h cq_eq_7_m1)
      refine lv_aload_n hx hb (oc_42 68 (aq_20 shX12_readsCompared_48)) rfl (lvA1 hl) ?_
      refine lv_aload_n hx hb (oc_42 69 (aq_21 shX12_readsCompared_48)) rfl (lvA1 hl) ?_
      refine gM_233 S hK hP (v := .int (nI (cn2 19))) rfl (oc_180 70 (aq_22 shX12_readsCompared_48) uw_0_233) ?_
      refine lv_iconst (v := 1) hx hb (oc_4 73 shX12_readsCompared_73) kic_1 ?_
      refine lv_iadd hx hb (oc_96 74 (aq_1 shX12_readsCompared_73)) ?_
      refine lv_topi (fun y_28 ey_28 => ?_)
      obtain rfl : y_28 = (nI ((cn2 19) + 1)) := ey_28.trans (nI_add (cn2 19) 1)
      refine pM_233 S hK hP hD hS (a := ((cn2 19) + 1)) (cn2 := (va_up cn2 19 ((cn2 19) + 1))) rfl rfl (oc_181 75 (aq_2 shX12_readsCompared_73) uw_0_233) (fun H locs hP hD hS => ?_)
      refine lv_aload_n hx hb (oc_42 78 (aq_5 shX12_readsCompared_73)) rfl (lvA1 hl) ?_
      have hFc := free_all hD hS hA
      refine va_calli (runV_a (As := []) (rest := []) S (q_readsSum l D cI cB cZ g (va_up cn2 19 ((cn2 19) + 1)) In2 Fn2 a0 1 (s0 + 1) H.size (IM.fr (In := In2) hIn2 (Fr.c 19 Fr.rf) (by decide) (by decide)) (by have q := PBk.pl (pl' := cn2 19 + 1) (s' := s0 + 1) kh_2a (by (first | omega | (have zz0 := Hid.u hi_cn; have zz1 := Hid.u hi_cn2; have zz2 := Hid.u hq_cn2; omega))) (by (first | omega | (have zz0 := Hid.u hi_cn; have zz1 := Hid.u hi_cn2; have zz2 := Hid.u hq_cn2; omega))) (by (first | omega | (have zz0 := Hid.u hi_cn; have zz1 := Hid.u hi_cn2; have zz2 := Hid.u hq_cn2; omega))); exact q) (show 0 < cn2 24 → 10 ≤ kd (Fn2 28 (cn2 24 - 1)) ∧ kd (Fn2 28 (cn2 24 - 1)) ≤ 13 from fun _ => hC1.2.2 _ (by (first | omega | (have zz0 := Hid.u hi_cn; have zz1 := Hid.u hi_cn2; have zz2 := Hid.u hq_cn2; omega))))) kV_RX12_297 hK hP hD 0 rfl rfl rfl ⟨Nat.le_of_ble_eq_true rfl, Nat.le_of_ble_eq_true rfl⟩ ⟨Nat.le_of_ble_eq_true rfl, Nat.le_of_ble_eq_true rfl⟩ rfl hl.1 rfl (Nat.le_of_ble_eq_true rfl) (oc_182 79 (aq_6 shX12_readsCompared_73) uw_1_41)) hS (fun q _ h => hFc q h) hFc (fun r_29 u t H1 locs ht hvm wh_30 hB hz1 hk1 hS => ?_)
      obtain ⟨cn30, In30, Fn30⟩ := u
      obtain ⟨hP1, hD1⟩ := hB
      rw [ht] at hP1
      have hP : va_P D vwCl (wM cI cB cZ g cn30 In30 Fn30) H1 := hP1
      have hD : va_D A (wM cI cB cZ g cn30 In30 Fn30) := hD1.weaken (fun _ _ _ h => hFc _ h)
      generalize H1 = H at hP hS ⊢
      have vh_30 : (fun r c2 I2 F2 => Fr [19, 23, 24, 26] [21, 22] [27, 28] (va_up cn2 19 ((cn2 19) + 1)) In2 Fn2 c2 I2 F2 ∧ IM c2 F2 ∧ (r = 0 ∨ (r = 1 ∧ PBk (c2 19) (c2 20) (c2 23) (c2 24) (F2 27) (F2 28) a0 (1 + 1) (s0 + 1) ∧ c2 24 = (cn2 24) ∧ (∀ k : Nat, k < a0 → F2 27 k = (Fn2 27) k) ∧ (∀ i : Nat, i < (cn2 24) → F2 28 i = (Fn2 28) i) ∧ ((cn2 19) + 1) < c2 19))) r_29 cn30 In30 Fn30 := wh_30
      obtain ⟨hfc30, hIn30, h_30⟩ := vh_30
      have hf30 : Fr [19, 23, 24, 26] [21, 22] [27, 28] cn In Fn cn30 In30 Fn30 := Fr.mo (Fr.tr (Fr.c 19 hf2) hfc30) (sbl rfl) (sbl rfl) (sbl rfl)
      have hi_cn30 : Hid (CB cn30) := hIn30.b
      have : cn30 20 = cn 20 := hf30.1 20 (nml rfl)
      have : cn30 25 = cn 25 := hf30.1 25 (nml rfl)
      have hq_cn30 := Hid.i (frq_19_23_24_26_0_1_2_46_57_58_62_63_75_83_44 hf30)
      have : cn30 20 = (cn2 20) := hfc30.1 20 (nml rfl)
      have : cn30 25 = (cn2 25) := hfc30.1 25 (nml rfl)
      rcases h_30 with rfl | ⟨rfl, kh_30⟩
      ·
        refine lv_if_ne (tgt := 87) hx hb dX12_readsCompared_82 rfl (fun h => absurd h cq_eq_0_0) (fun _ => ?_)
        refine lv_iconst (v := 0) hx hb (oc_3 85 (aq_12 shX12_readsCompared_73)) kic_0 ?_
        exact W.zret (v := 0) hx hb hr rfl (fun t ht hW => ⟨⟨0, (cn30, In30, Fn30), rfl, ⟨(Fr.mo hf30 (sbl rfl) (sbl rfl) (sbl rfl)), hIn30, (by show 0 = 0 ∨ (0 = 1 ∧ PBk (cn30 19) (cn30 20) (cn30 23) (cn30 24) (Fn30 27) (Fn30 28) a0 1 s0 ∧ CK (cn30 24) (Fn30 28) ∧ (∀ k : Nat, k < a0 → Fn30 27 k = Fn 27 k) ∧ cn 19 < cn30 19); exact Or.inl rfl)⟩, by rw [ht]; exact hP, hD⟩, hS.F ht⟩) hS.2.2 (oc_172 86 (aq_13 shX12_readsCompared_73))
      ·
        obtain ⟨kh_30a, kh_30e, kh_30b, kh_30c, kh_30d⟩ := kh_30
        have kh_30f := kh_30a.f
        refine lv_if_ne (tgt := 87) hx hb dX12_readsCompared_82 rfl (fun _ => ?_) (fun h => absurd h cq_eq_1_0)
        have hC2 : CK (cn30 24) (Fn30 28) := by rw [kh_30e]; exact CK.cg hC1 (fun i hi => kh_30c i hi)
        have hC2w := hC2.1
        refine lv_aload_n hx hb (oc_42 87 (aq_14 shX12_readsCompared_73)) rfl (lvA1 hl) ?_
        refine lv_iload_n hx hb (oc_27 88 (aq_15 shX12_readsCompared_73)) rfl (lvA0 hl) ?_
        refine lv_iconst (v := 0) hx hb (oc_3 89 (aq_16 shX12_readsCompared_73)) kic_0 ?_
        have hFc := free_all hD hS hA
        refine va_callv (runV_a (As := [.int 7, .int 0]) (rest := []) S (q_says l D cI cB cZ g cn30 In30 Fn30 7 0 H.size hIn30 (by (first | omega | (have zz0 := Hid.u hi_cn; have zz1 := Hid.u hi_cn2; have zz2 := Hid.u hi_cn30; have zz3 := Hid.u hq_cn2; have zz4 := Hid.u hq_cn30; omega)))) kV_RX12_270 hK hP hD 0 rfl rfl rfl ⟨Nat.le_of_ble_eq_true rfl, Nat.le_of_ble_eq_true rfl⟩ ⟨Nat.le_of_ble_eq_true rfl, Nat.le_of_ble_eq_true rfl⟩ rfl hl.1 rfl (Nat.le_of_ble_eq_true rfl) (oc_182 90 (aq_17 shX12_readsCompared_73) uw_1_14)) hS (fun q _ h => hFc q h) hFc (fun u t H1 locs ht hvm wh_32 hB hz1 hk1 hS => ?_)
        obtain ⟨cn32, In32, Fn32⟩ := u
        obtain ⟨hP1, hD1⟩ := hB
        rw [ht] at hP1
        have vh_32 : (fun c2 I2 F2 => (∀ k : Nat, k ∉ [] → I2 k = In30 k) ∧ (((True) ∧ (va_up cn30 23 ((cn30 23) + 1)) = c2 ∧ (va_up Fn30 27 (upd ((Fn30 27)) ((cn30 23)) (nI (7 * 1048576 + 0)))) = F2))) cn32 In32 Fn32 := wh_32
        obtain ⟨hI32_, vh_32⟩ := vh_32
        obtain ⟨h_32, rfl, rfl⟩ := vh_32
        obtain rfl : In30 = In32 := (funext (fun k => hI32_ k List.not_mem_nil)).symm
        have hP : va_P D vwCl (wM cI cB cZ g (va_up cn30 23 ((cn30 23) + 1)) In30 (va_up Fn30 27 (upd ((Fn30 27)) ((cn30 23)) (nI (7 * 1048576 + 0))))) H1 := hP1
        have hD : va_D A (wM cI cB cZ g (va_up cn30 23 ((cn30 23) + 1)) In30 (va_up Fn30 27 (upd ((Fn30 27)) ((cn30 23)) (nI (7 * 1048576 + 0))))) := hD1.weaken (fun _ _ _ h => hFc _ h)
        generalize H1 = H at hP hS ⊢
        refine lv_aload_n hx hb (oc_42 93 (aq_20 shX12_readsCompared_73)) rfl (lvA1 hl) ?_
        have hFc := free_all hD hS hA
        refine va_callv (runV_a (As := []) (rest := []) S (q_endsPiece l D cI cB cZ g (va_up cn30 23 ((cn30 23) + 1)) In30 (va_up Fn30 27 (upd ((Fn30 27)) ((cn30 23)) (nI (7 * 1048576 + 0)))) a0 s0 H.size (IM.fr (In := In30) hIn30 (Fr.f 27 (Fr.c 23 Fr.rf)) (by decide) (by decide)) (by have q := PBk.code (o := 7) (x := 0) (w' := cn30 24) (h' := 1) (s' := s0) kh_30a (Nat.le_refl _) (by (first | omega | (have zz0 := Hid.u hi_cn; have zz1 := Hid.u hi_cn2; have zz2 := Hid.u hi_cn30; have zz3 := Hid.u hq_cn2; have zz4 := Hid.u hq_cn30; omega))) (Or.inl rfl) (by decide) (Or.inr (Or.inr (Or.inr ⟨by decide, by decide, by decide, rfl⟩))) (by (first | omega | (have zz0 := Hid.u hi_cn; have zz1 := Hid.u hi_cn2; have zz2 := Hid.u hi_cn30; have zz3 := Hid.u hq_cn2; have zz4 := Hid.u hq_cn30; omega))); exact q) hC2) kV_RX12_300 hK hP hD 0 rfl rfl rfl ⟨Nat.le_of_ble_eq_true rfl, Nat.le_of_ble_eq_true rfl⟩ ⟨Nat.le_of_ble_eq_true rfl, Nat.le_of_ble_eq_true rfl⟩ rfl hl.1 rfl (Nat.le_of_ble_eq_true rfl) (oc_182 94 (aq_21 shX12_readsCompared_73) uw_1_44)) hS (fun q _ h => hFc q h) hFc (fun u t H1 locs ht hvm wh_34 hB hz1 hk1 hS => ?_)
        obtain ⟨cn34, In34, Fn34⟩ := u
        obtain ⟨hP1, hD1⟩ := hB
        rw [ht] at hP1
        have hP : va_P D vwCl (wM cI cB cZ g cn34 In34 Fn34) H1 := hP1
        have hD : va_D A (wM cI cB cZ g cn34 In34 Fn34) := hD1.weaken (fun _ _ _ h => hFc _ h)
        generalize H1 = H at hP hS ⊢
        have vh_34 : (fun c2 I2 F2 => Fr [23, 24] [22] [27] (va_up cn30 23 ((cn30 23) + 1)) In30 (va_up Fn30 27 (upd ((Fn30 27)) ((cn30 23)) (nI (7 * 1048576 + 0)))) c2 I2 F2 ∧ IM c2 F2 ∧ ((PBk (c2 19) (c2 20) (c2 23) (c2 24) (F2 27) (F2 28) a0 1 s0) ∧ (CK (c2 24) (F2 28)) ∧ (∀ k : Nat, k < a0 → F2 27 k = (upd ((Fn30 27)) ((cn30 23)) (nI (7 * 1048576 + 0))) k))) cn34 In34 Fn34 := wh_34
        obtain ⟨hfc34, hIn34, h_34⟩ := vh_34
        have hf34 : Fr [19, 23, 24, 26] [21, 22] [27, 28] cn In Fn cn34 In34 Fn34 := Fr.mo (Fr.tr (Fr.f 27 (Fr.c 23 hf30)) hfc34) (sbl rfl) (sbl rfl) (sbl rfl)
        have hi_cn34 : Hid (CB cn34) := hIn34.b
        have : cn34 20 = cn 20 := hf34.1 20 (nml rfl)
        have : cn34 25 = cn 25 := hf34.1 25 (nml rfl)
        have hq_cn34 := Hid.i (frq_19_23_24_26_0_1_2_46_57_58_62_63_75_83_44 hf34)
        have : cn34 19 = (cn30 19) := hfc34.1 19 (nml rfl)
        have : cn34 20 = (cn30 20) := hfc34.1 20 (nml rfl)
        have : cn34 25 = (cn30 25) := hfc34.1 25 (nml rfl)
        obtain ⟨h_34a, h_34b, h_34c⟩ := h_34
        have h_34f := h_34a.f
        refine lv_iconst (v := 1) hx hb (oc_4 97 shX12_readsCompared_97) kic_1 ?_
        exact W.zret (v := 1) hx hb hr rfl (fun t ht hW => ⟨⟨1, (cn34, In34, Fn34), rfl, ⟨(Fr.mo hf34 (sbl rfl) (sbl rfl) (sbl rfl)), hIn34, (by show 1 = 0 ∨ (1 = 1 ∧ PBk (cn34 19) (cn34 20) (cn34 23) (cn34 24) (Fn34 27) (Fn34 28) a0 1 s0 ∧ CK (cn34 24) (Fn34 28) ∧ (∀ k : Nat, k < a0 → Fn34 27 k = Fn 27 k) ∧ cn 19 < cn34 19); exact Or.inr ⟨rfl, h_34a, h_34b, fun k hk => (h_34c k hk).trans ((upd_lt (by (first | omega | (have zz0 := Hid.u hi_cn; have zz1 := Hid.u hi_cn2; have zz2 := Hid.u hi_cn30; have zz3 := Hid.u hi_cn34; have zz4 := Hid.u hq_cn2; have zz5 := Hid.u hq_cn30; have zz6 := Hid.u hq_cn34; omega)))).trans ((kh_30b k hk).trans (kh_2b k hk))), by (first | omega | (have zz0 := Hid.u hi_cn; have zz1 := Hid.u hi_cn2; have zz2 := Hid.u hi_cn30; have zz3 := Hid.u hi_cn34; have zz4 := Hid.u hq_cn2; have zz5 := Hid.u hq_cn30; have zz6 := Hid.u hq_cn34; omega))⟩)⟩, by rw [ht]; exact hP, hD⟩, hS.F ht⟩) hS.2.2 (oc_172 98 (aq_1 shX12_readsCompared_97))
set_option maxRecDepth 100000 in
set_option maxHeartbeats 4000000 in
theorem q_readsCondition (l : Launch) (D : va_G) (cI cB cZ : ClassId) (g : Nat → Nat) (cn : Nat → Nat) (In : Nat → Int32) (Fn : Nat → Nat → Int32)  (sz : Nat) (hI : IM cn Fn) (hp : cn 19 ≤ cn 20) (hn : cn 20 ≤ 160) (h23 : cn 23 ≤ cn 19) : Met l yX12_readsCondition (CWS yX12_readsCondition cX12_readsCondition 1 (some .boolean)) (RM 6 0 0) (PBw [.ref (g 100)] D cI cB cZ (wM cI cB cZ g cn In Fn) sz) (va_Qi (fun (r : Int32) (u : (Nat → Nat) × (Nat → Int32) × (Nat → Nat → Int32)) => (fun r c2 I2 F2 => Fr [19, 23, 24, 26] [21, 22] [27, 28] cn In Fn c2 I2 F2 ∧ IM c2 F2 ∧ (r = 0 ∨ (r = 1 ∧ SegOK (F2 27) 0 (cn 23) (c2 23) ∧ cn 23 ≤ c2 23 ∧ c2 23 ≤ c2 19 ∧ (cn 19 ≤ c2 19 ∧ c2 19 ≤ cn 20) ∧ (∀ k : Nat, k < cn 23 → F2 27 k = Fn 27 k)))) r u.1 u.2.1 u.2.2) (fun (u : (Nat → Nat) × (Nat → Int32) × (Nat → Nat → Int32)) (t : State) => va_P D vwCl (wM cI cB cZ g u.1 u.2.1 u.2.2) t.heap ∧ va_D (va_A (wM cI cB cZ g cn In Fn) sz) (wM cI cB cZ g u.1 u.2.1 u.2.2)) (va_A (wM cI cB cZ g cn In Fn) sz)) 0 0 (va_A (wM cI cB cZ g cn In Fn) sz) := by
  refine en_w (fun A => (va_Qi (fun (r : Int32) (u : (Nat → Nat) × (Nat → Int32) × (Nat → Nat → Int32)) => (fun (r : Int32) (c2 : Nat → Nat) (I2 : Nat → Int32) (F2 : Nat → Nat → Int32) => Fr [19, 23, 24, 26] [21, 22] [27, 28] cn In Fn c2 I2 F2 ∧ IM c2 F2 ∧ (r = 0 ∨ (r = 1 ∧ SegOK (F2 27) 0 (cn 23) (c2 23) ∧ cn 23 ≤ c2 23 ∧ c2 23 ≤ c2 19 ∧ (cn 19 ≤ c2 19 ∧ c2 19 ≤ cn 20) ∧ (∀ k : Nat, k < cn 23 → F2 27 k = Fn 27 k)))) r u.1 u.2.1 u.2.2) (fun (u : (Nat → Nat) × (Nat → Int32) × (Nat → Nat → Int32)) (t : State) => va_P D vwCl (wM cI cB cZ g u.1 u.2.1 u.2.2) t.heap ∧ va_D A (wM cI cB cZ g u.1 u.2.1 u.2.2)) A)) rfl rfl pn_RX12 (Nat.le_of_ble_eq_true rfl) (fun p e s m below meth c A hx hb hml hown S hr hlocks hnm hA hP hK hD hS ls hl => ?_)
  have hl : lv_has ls 1 [(0, .ref (g 100))] := hl
  have hi_cn : Hid (CB cn) := hI.b
  refine lv_aload_n hx hb (oc_42 0 shX12_readsCondition_0) rfl (lvA0 hl) ?_
  refine vp_callSi (runV_ra (As := []) (rest := []) S (q_here l D cI cB cZ g cn In Fn  hI (by (first | omega | (have zz0 := Hid.u hi_cn; omega))) (by (first | omega | (have zz0 := Hid.u hi_cn; omega)))) kV_RX12_239 hK hP 0 rfl rfl rfl ⟨Nat.le_of_ble_eq_true rfl, Nat.le_of_ble_eq_true rfl⟩ ⟨Nat.le_of_ble_eq_true rfl, Nat.le_of_ble_eq_true rfl⟩ rfl hl.1 rfl (Nat.le_of_ble_eq_true rfl) (oc_182 1 (aq_1 shX12_readsCondition_0) uw_0_239)) (fun r_1 h_2 => ?_)
  refine lv_bipush (v := 40) hx hb (oc_16 4 (aq_4 shX12_readsCondition_0) sgb_40) kbc_40 ?_
  refine lv_icmp_eq (tgt := 19) hx hb (oc_159 6 (aq_6 shX12_readsCondition_0) sgw_0_13) rfl (fun c_3 => ?_) (fun c_3 => ?_)
  ·
    have tc_3 : (r_1.toInt : Int) = 40 := congrArg Int32.toInt c_3
    refine lv_aload_n hx hb (oc_42 19 (aq_19 shX12_readsCondition_0)) rfl (lvA0 hl) ?_
    refine lv_iconst (v := 0) hx hb (oc_3 20 (aq_20 shX12_readsCondition_0)) kic_0 ?_
    refine pM_261 S hK hP hD hS (In2 := (va_up In 22 0)) rfl (oc_181 21 (aq_21 shX12_readsCondition_0) uw_1_5) (fun H locs hP hD hS => ?_)
    refine lv_aload_n hx hb (oc_42 24 shX12_readsCondition_24) rfl (lvA0 hl) ?_
    refine lv_iconst (v := 0) hx hb (oc_3 25 (aq_1 shX12_readsCondition_24)) kic_0 ?_
    refine pM_264 S hK hP hD hS (a := 0) (cn2 := (va_up cn 24 0)) rfl rfl (oc_181 26 (aq_2 shX12_readsCondition_24) uw_1_8) (fun H locs hP hD hS => ?_)
    refine lv_aload_n hx hb (oc_42 29 (aq_5 shX12_readsCondition_24)) rfl (lvA0 hl) ?_
    refine lv_bipush (v := 13) hx hb (oc_16 30 (aq_6 shX12_readsCondition_24) sgb_13) kbc_13 ?_
    have hFc := free_all hD hS hA
    refine va_calli (runV_a (As := [.int 13]) (rest := []) S (q_opens l D cI cB cZ g (va_up cn 24 0) (va_up In 22 0) Fn 13 H.size (IM.fr (In := In) hI (Fr.c 24 Fr.rf) (by decide) (by decide)) (show 0 < 180 by (first | omega | (have zz0 := Hid.u hi_cn; omega)))) kV_RX12_274 hK hP hD 0 rfl rfl rfl ⟨Nat.le_of_ble_eq_true rfl, Nat.le_of_ble_eq_true rfl⟩ ⟨Nat.le_of_ble_eq_true rfl, Nat.le_of_ble_eq_true rfl⟩ rfl hl.1 rfl (Nat.le_of_ble_eq_true rfl) (oc_182 32 (aq_8 shX12_readsCondition_24) uw_1_18)) hS (fun q _ h => hFc q h) hFc (fun r_4 u t H1 locs ht hvm wh_5 hB hz1 hk1 hS => ?_)
    obtain ⟨cn5, In5, Fn5⟩ := u
    obtain ⟨hP1, hD1⟩ := hB
    rw [ht] at hP1
    have vh_5 : (fun r c2 I2 F2 => (∀ k : Nat, k ∉ [21, 22] → I2 k = (va_up In 22 0) k) ∧ ((r = 0 ∧ (True) ∧ (va_up cn 24 0) = c2 ∧ Fn = F2) ∨ (r = 1 ∧ (True) ∧ (va_up (va_up (va_up cn 24 0) 24 (0 + 1)) 19 ((cn 19) + 1)) = c2 ∧ (va_up Fn 28 (upd ((Fn 28)) (0) (nI (13 * 1048576)))) = F2))) r_4 cn5 In5 Fn5 := wh_5
    obtain ⟨hI5_, vh_5⟩ := vh_5
    rcases vh_5 with ⟨rfl, h_5, rfl, rfl⟩ | ⟨rfl, h_5, rfl, rfl⟩
    ·
      have hf5 : Fr [19, 23, 24, 26] [21, 22] [27, 28] cn In Fn cn In5 Fn := Fr.mo (Fr.tr (Fr.i 22 (Fr.rf (cn := cn) (In := In) (Fn := Fn))) (show Fr [] [21, 22] [] cn (va_up In 22 0) Fn cn In5 Fn from ⟨fun _ _ => rfl, hI5_, fun _ _ => rfl⟩)) (sbl rfl) (sbl rfl) (sbl rfl)
      have hP : va_P D vwCl (wM cI cB cZ g (va_up cn 24 0) In5 Fn) H1 := hP1
      have hD : va_D A (wM cI cB cZ g (va_up cn 24 0) In5 Fn) := hD1.weaken (fun _ _ _ h => hFc _ h)
      generalize H1 = H at hP hS ⊢
      refine lv_if_ne (tgt := 40) hx hb (oc_154 35 (aq_11 shX12_readsCondition_24) sgw_0_5) rfl (fun h => absurd h cq_eq_0_0) (fun _ => ?_)
      refine lv_iconst (v := 0) hx hb (oc_3 38 (aq_14 shX12_readsCondition_24)) kic_0 ?_
      exact W.zret (v := 0) hx hb hr rfl (fun t ht hW => ⟨⟨0, ((va_up cn 24 0), In5, Fn), rfl, ⟨(Fr.mo (Fr.c 24 hf5) (sbl rfl) (sbl rfl) (sbl rfl)), (IM.fr (In := In5) hI (Fr.c 24 Fr.rf) (by decide) (by decide)), (by show 0 = 0 ∨ (0 = 1 ∧ SegOK (Fn 27) 0 (cn 23) ((va_up cn 24 0) 23) ∧ cn 23 ≤ (va_up cn 24 0) 23 ∧ (va_up cn 24 0) 23 ≤ (va_up cn 24 0) 19 ∧ (cn 19 ≤ (va_up cn 24 0) 19 ∧ (va_up cn 24 0) 19 ≤ cn 20) ∧ (∀ k : Nat, k < cn 23 → Fn 27 k = Fn 27 k)); exact Or.inl rfl)⟩, by rw [ht]; exact hP, hD⟩, hS.F ht⟩) hS.2.2 (oc_172 39 (aq_15 shX12_readsCondition_24))
    ·
      have hf5 : Fr [19, 23, 24, 26] [21, 22] [27, 28] cn In Fn cn In5 Fn := Fr.mo (Fr.tr (Fr.i 22 (Fr.rf (cn := cn) (In := In) (Fn := Fn))) (show Fr [] [21, 22] [] cn (va_up In 22 0) Fn cn In5 Fn from ⟨fun _ _ => rfl, hI5_, fun _ _ => rfl⟩)) (sbl rfl) (sbl rfl) (sbl rfl)
      have hP : va_P D vwCl (wM cI cB cZ g (va_up (va_up (va_up cn 24 0) 24 (0 + 1)) 19 ((cn 19) + 1)) In5 (va_up Fn 28 (upd ((Fn 28)) (0) (nI (13 * 1048576))))) H1 := hP1
      have hD : va_D A (wM cI cB cZ g (va_up (va_up (va_up cn 24 0) 24 (0 + 1)) 19 ((cn 19) + 1)) In5 (va_up Fn 28 (upd ((Fn 28)) (0) (nI (13 * 1048576))))) := hD1.weaken (fun _ _ _ h => hFc _ h)
      generalize H1 = H at hP hS ⊢
      refine lv_if_ne (tgt := 40) hx hb (oc_154 35 (aq_11 shX12_readsCondition_24) sgw_0_5) rfl (fun _ => ?_) (fun h => absurd h cq_eq_1_0)
      have lp_40 : ∀ (n : Nat)  (c40 : Nat → Nat) (I40 : Nat → Int32) (F40 : Nat → Nat → Int32) (H : Heap) (locs : List Loc) , cn 20 - c40 19 < n → (Fr [19, 23, 24, 26] [21, 22] [27, 28] cn In Fn c40 I40 F40 ∧ IM c40 F40 ∧ ((PBk (c40 19) (c40 20) (c40 23) (c40 24) (F40 27) (F40 28) (cn 23) 0 0)) ∧ ((CK (c40 24) (F40 28))) ∧ ((∀ k : Nat, k < cn 23 → F40 27 k = Fn 27 k)) ∧ (cn 19 ≤ c40 19)) → va_P D vwCl (wM cI cB cZ g c40 I40 F40) H → va_D A (wM cI cB cZ g c40 I40 F40) → va_S A s.heap H locs → ∀ ls : Array Slot, lv_has ls 1 [(0, .ref (g 100))] → W p l e (RM 6 0 0) s m ([.ref (g 100)]).toArray below meth c H locs 0 0 (MQ below (va_Qi (fun (r : Int32) (u : (Nat → Nat) × (Nat → Int32) × (Nat → Nat → Int32)) => (fun r c2 I2 F2 => Fr [19, 23, 24, 26] [21, 22] [27, 28] cn In Fn c2 I2 F2 ∧ IM c2 F2 ∧ (r = 0 ∨ (r = 1 ∧ SegOK (F2 27) 0 (cn 23) (c2 23) ∧ cn 23 ≤ c2 23 ∧ c2 23 ≤ c2 19 ∧ (cn 19 ≤ c2 19 ∧ c2 19 ≤ cn 20) ∧ (∀ k : Nat, k < cn 23 → F2 27 k = Fn 27 k)))) r u.1 u.2.1 u.2.2) (fun (u : (Nat → Nat) × (Nat → Int32) × (Nat → Nat → Int32)) (t : State) => va_P D vwCl (wM cI cB cZ g u.1 u.2.1 u.2.2) t.heap ∧ va_D A (wM cI cB cZ g u.1 u.2.1 u.2.2)) A) ([.ref (g 100)]).toArray s 0 0 A) (F0 m 40 ls []) := by
        intro n40
        induction n40 with
        | zero => intros; (first | omega | (have zz0 := Hid.u hi_cn; omega))
        | succ n40 ih40 =>
          intro  c40 I40 F40 H locs hmu40 hinv40 hP hD hS ls hl
          obtain ⟨hfr40, hI40, hx40_0, hx40_1, hx40_2, hx40_3⟩ := hinv40
          have hi_c40 : Hid (CB c40) := hI40.b
          have : c40 20 = cn 20 := hfr40.1 20 (nml rfl)
          have : c40 25 = cn 25 := hfr40.1 25 (nml rfl)
          have hq_c40 := Hid.i (frq_19_23_24_26_0_1_2_46_57_58_62_63_75_83_44 hfr40)
          have hf40 := hx40_0.f
          have hc40 := hx40_1.1
          refine lv_aload_n hx hb (oc_42 40 (aq_16 shX12_readsCondition_24)) rfl (lvA0 hl) ?_
          refine vp_callSi (runV_ra (As := []) (rest := []) S (q_here l D cI cB cZ g c40 I40 F40  hI40 (by (first | omega | (have zz0 := Hid.u hi_c40; have zz1 := Hid.u hi_cn; have zz2 := Hid.u hq_c40; omega))) (by (first | omega | (have zz0 := Hid.u hi_c40; have zz1 := Hid.u hi_cn; have zz2 := Hid.u hq_c40; omega)))) kV_RX12_239 hK hP 0 rfl rfl rfl ⟨Nat.le_of_ble_eq_true rfl, Nat.le_of_ble_eq_true rfl⟩ ⟨Nat.le_of_ble_eq_true rfl, Nat.le_of_ble_eq_true rfl⟩ rfl hl.1 rfl (Nat.le_of_ble_eq_true rfl) (oc_182 41 (aq_17 shX12_readsCondition_24) uw_0_239)) (fun r_6 h_7 => ?_)
          refine lv_bipush (v := 33) hx hb (oc_16 44 (aq_20 shX12_readsCondition_24) sgb_33) kbc_33 ?_
          refine lv_icmp_eq (tgt := 58) hx hb (oc_159 46 (aq_22 shX12_readsCondition_24) sgw_0_12) rfl (fun c_8 => ?_) (fun c_8 => ?_)
          ·
            have tc_8 : (r_6.toInt : Int) = 33 := congrArg Int32.toInt c_8
            refine lv_aload_n hx hb (oc_42 58 (aq_9 shX12_readsCondition_49)) rfl (lvA0 hl) ?_
            refine lv_aload_n hx hb (oc_42 59 (aq_10 shX12_readsCondition_49)) rfl (lvA0 hl) ?_
            refine vp_callSi (runV_ra (As := []) (rest := [.ref (g 100)]) S (q_here l D cI cB cZ g c40 I40 F40  hI40 (by (first | omega | (have zz0 := Hid.u hi_c40; have zz1 := Hid.u hi_cn; have zz2 := Hid.u hq_c40; omega))) (by (first | omega | (have zz0 := Hid.u hi_c40; have zz1 := Hid.u hi_cn; have zz2 := Hid.u hq_c40; omega)))) kV_RX12_239 hK hP 0 rfl rfl rfl ⟨Nat.le_of_ble_eq_true rfl, Nat.le_of_ble_eq_true rfl⟩ ⟨Nat.le_of_ble_eq_true rfl, Nat.le_of_ble_eq_true rfl⟩ rfl hl.1 rfl (Nat.le_of_ble_eq_true rfl) (oc_182 60 (aq_11 shX12_readsCondition_49) uw_0_239)) (fun r_9 h_10 => ?_)
            refine lv_bipush (v := 33) hx hb (oc_16 63 (aq_14 shX12_readsCondition_49) sgb_33) kbc_33 ?_
            refine lv_icmp_ne (tgt := 73) hx hb (oc_160 65 (aq_16 shX12_readsCondition_49) sgw_0_8) rfl (fun c_11 => ?_) (fun c_11 => ?_)
            ·
              have tc_11 : (r_9.toInt : Int) ≠ 33 := fun q => c_11 (Int32.toInt_inj.mp q)
              refine lv_bipush (v := 13) hx hb (oc_16 73 shX12_readsCondition_73 sgb_13) kbc_13 ?_
              have hFc := free_all hD hS hA
              refine va_calli (runV_a (As := [.int 13]) (rest := []) S (q_opens l D cI cB cZ g c40 I40 F40 13 H.size hI40 (by (first | omega | (have zz0 := Hid.u hi_c40; have zz1 := Hid.u hi_cn; have zz2 := Hid.u hq_c40; omega)))) kV_RX12_274 hK hP hD 0 rfl rfl rfl ⟨Nat.le_of_ble_eq_true rfl, Nat.le_of_ble_eq_true rfl⟩ ⟨Nat.le_of_ble_eq_true rfl, Nat.le_of_ble_eq_true rfl⟩ rfl hl.1 rfl (Nat.le_of_ble_eq_true rfl) dX12_readsCondition_75) hS (fun q _ h => hFc q h) hFc (fun r_12 u t H1 locs ht hvm wh_13 hB hz1 hk1 hS => ?_)
              obtain ⟨cn13, In13, Fn13⟩ := u
              obtain ⟨hP1, hD1⟩ := hB
              rw [ht] at hP1
              have vh_13 : (fun r c2 I2 F2 => (∀ k : Nat, k ∉ [21, 22] → I2 k = I40 k) ∧ ((r = 0 ∧ (True) ∧ c40 = c2 ∧ F40 = F2) ∨ (r = 1 ∧ (True) ∧ (va_up (va_up c40 24 ((c40 24) + 1)) 19 ((c40 19) + 1)) = c2 ∧ (va_up F40 28 (upd ((F40 28)) ((c40 24)) (nI (13 * 1048576)))) = F2))) r_12 cn13 In13 Fn13 := wh_13
              obtain ⟨hI13_, vh_13⟩ := vh_13
              rcases vh_13 with ⟨rfl, h_13, rfl, rfl⟩ | ⟨rfl, h_13, rfl, rfl⟩
              ·
                have hf13 : Fr [19, 23, 24, 26] [21, 22] [27, 28] cn In Fn c40 In13 F40 := Fr.mo (Fr.tr hfr40 (show Fr [] [21, 22] [] c40 I40 F40 c40 In13 F40 from ⟨fun _ _ => rfl, hI13_, fun _ _ => rfl⟩)) (sbl rfl) (sbl rfl) (sbl rfl)
                have hP : va_P D vwCl (wM cI cB cZ g c40 In13 F40) H1 := hP1
                have hD : va_D A (wM cI cB cZ g c40 In13 F40) := hD1.weaken (fun _ _ _ h => hFc _ h)
                generalize H1 = H at hP hS ⊢
                refine lv_if_ne (tgt := 40) hx hb dX12_readsCondition_78 rfl (fun h => absurd h cq_eq_0_0) (fun _ => ?_)
                refine lv_iconst (v := 0) hx hb dX12_readsCondition_81 kic_0 ?_
                exact W.zret (v := 0) hx hb hr rfl (fun t ht hW => ⟨⟨0, (c40, In13, F40), rfl, ⟨(Fr.mo hf13 (sbl rfl) (sbl rfl) (sbl rfl)), hI40, (by show 0 = 0 ∨ (0 = 1 ∧ SegOK (F40 27) 0 (cn 23) (c40 23) ∧ cn 23 ≤ c40 23 ∧ c40 23 ≤ c40 19 ∧ (cn 19 ≤ c40 19 ∧ c40 19 ≤ cn 20) ∧ (∀ k : Nat, k < cn 23 → F40 27 k = Fn 27 k)); exact Or.inl rfl)⟩, by rw [ht]; exact hP, hD⟩, hS.F ht⟩) hS.2.2 dX12_readsCondition_82
              ·
                have hf13 : Fr [19, 23, 24, 26] [21, 22] [27, 28] cn In Fn c40 In13 F40 := Fr.mo (Fr.tr hfr40 (show Fr [] [21, 22] [] c40 I40 F40 c40 In13 F40 from ⟨fun _ _ => rfl, hI13_, fun _ _ => rfl⟩)) (sbl rfl) (sbl rfl) (sbl rfl)
                have hP : va_P D vwCl (wM cI cB cZ g (va_up (va_up c40 24 ((c40 24) + 1)) 19 ((c40 19) + 1)) In13 (va_up F40 28 (upd ((F40 28)) ((c40 24)) (nI (13 * 1048576))))) H1 := hP1
                have hD : va_D A (wM cI cB cZ g (va_up (va_up c40 24 ((c40 24) + 1)) 19 ((c40 19) + 1)) In13 (va_up F40 28 (upd ((F40 28)) ((c40 24)) (nI (13 * 1048576))))) := hD1.weaken (fun _ _ _ h => hFc _ h)
                generalize H1 = H at hP hS ⊢
                refine lv_if_ne (tgt := 40) hx hb dX12_readsCondition_78 rfl (fun _ => ?_) (fun h => absurd h cq_eq_1_0)
                exact ih40  (va_up (va_up c40 24 ((c40 24) + 1)) 19 ((c40 19) + 1)) In13 (va_up F40 28 (upd ((F40 28)) ((c40 24)) (nI (13 * 1048576)))) _ _ (show cn 20 - ((c40 19) + 1) < n40 by (first | omega | (have zz0 := Hid.u hi_c40; have zz1 := Hid.u hi_cn; have zz2 := Hid.u hq_c40; omega))) ⟨(Fr.mo (Fr.f 28 (Fr.c 19 (Fr.c 24 hf13))) (sbl rfl) (sbl rfl) (sbl rfl)), (IM.fr (In := In13) hI40 (Fr.f 28 (Fr.c 19 (Fr.c 24 Fr.rf))) (by decide) (by decide)), (by have q := PBk.push (k := 13) (s' := 0) hx40_0 (by (first | omega | (have zz0 := Hid.u hi_c40; have zz1 := Hid.u hi_cn; have zz2 := Hid.u hq_c40; omega))) (by decide) (by decide) (by decide) (by decide); exact q), (by have q := CK.push (k := 13) hx40_1 (by decide) (by decide); exact q), hx40_2, (by show cn 19 ≤ c40 19 + 1; (first | omega | (have zz0 := Hid.u hi_c40; have zz1 := Hid.u hi_cn; have zz2 := Hid.u hq_c40; omega)))⟩ hP hD hS ls (lv_sub hl [0] rfl)
            ·
              have tc_11 : (r_9.toInt : Int) = 33 := congrArg Int32.toInt c_11
              refine lv_bipush (v := 10) hx hb (oc_16 68 (aq_19 shX12_readsCondition_49) sgb_10) kbc_10 ?_
              refine lv_goto (tgt := 75) hx hb (oc_167 70 (aq_21 shX12_readsCondition_49) sgw_0_5) rfl ?_
              have hFc := free_all hD hS hA
              refine va_calli (runV_a (As := [.int 10]) (rest := []) S (q_opens l D cI cB cZ g c40 I40 F40 10 H.size hI40 (by (first | omega | (have zz0 := Hid.u hi_c40; have zz1 := Hid.u hi_cn; have zz2 := Hid.u hq_c40; omega)))) kV_RX12_274 hK hP hD 0 rfl rfl rfl ⟨Nat.le_of_ble_eq_true rfl, Nat.le_of_ble_eq_true rfl⟩ ⟨Nat.le_of_ble_eq_true rfl, Nat.le_of_ble_eq_true rfl⟩ rfl hl.1 rfl (Nat.le_of_ble_eq_true rfl) dX12_readsCondition_75) hS (fun q _ h => hFc q h) hFc (fun r_14 u t H1 locs ht hvm wh_15 hB hz1 hk1 hS => ?_)
              obtain ⟨cn15, In15, Fn15⟩ := u
              obtain ⟨hP1, hD1⟩ := hB
              rw [ht] at hP1
              have vh_15 : (fun r c2 I2 F2 => (∀ k : Nat, k ∉ [21, 22] → I2 k = I40 k) ∧ ((r = 0 ∧ (True) ∧ c40 = c2 ∧ F40 = F2) ∨ (r = 1 ∧ (True) ∧ (va_up (va_up c40 24 ((c40 24) + 1)) 19 ((c40 19) + 1)) = c2 ∧ (va_up F40 28 (upd ((F40 28)) ((c40 24)) (nI (10 * 1048576)))) = F2))) r_14 cn15 In15 Fn15 := wh_15
              obtain ⟨hI15_, vh_15⟩ := vh_15
              rcases vh_15 with ⟨rfl, h_15, rfl, rfl⟩ | ⟨rfl, h_15, rfl, rfl⟩
              ·
                have hf15 : Fr [19, 23, 24, 26] [21, 22] [27, 28] cn In Fn c40 In15 F40 := Fr.mo (Fr.tr hfr40 (show Fr [] [21, 22] [] c40 I40 F40 c40 In15 F40 from ⟨fun _ _ => rfl, hI15_, fun _ _ => rfl⟩)) (sbl rfl) (sbl rfl) (sbl rfl)
                have hP : va_P D vwCl (wM cI cB cZ g c40 In15 F40) H1 := hP1
                have hD : va_D A (wM cI cB cZ g c40 In15 F40) := hD1.weaken (fun _ _ _ h => hFc _ h)
                generalize H1 = H at hP hS ⊢
                refine lv_if_ne (tgt := 40) hx hb dX12_readsCondition_78 rfl (fun h => absurd h cq_eq_0_0) (fun _ => ?_)
                refine lv_iconst (v := 0) hx hb dX12_readsCondition_81 kic_0 ?_
                exact W.zret (v := 0) hx hb hr rfl (fun t ht hW => ⟨⟨0, (c40, In15, F40), rfl, ⟨(Fr.mo hf15 (sbl rfl) (sbl rfl) (sbl rfl)), hI40, (by show 0 = 0 ∨ (0 = 1 ∧ SegOK (F40 27) 0 (cn 23) (c40 23) ∧ cn 23 ≤ c40 23 ∧ c40 23 ≤ c40 19 ∧ (cn 19 ≤ c40 19 ∧ c40 19 ≤ cn 20) ∧ (∀ k : Nat, k < cn 23 → F40 27 k = Fn 27 k)); exact Or.inl rfl)⟩, by rw [ht]; exact hP, hD⟩, hS.F ht⟩) hS.2.2 dX12_readsCondition_82
              ·
                have hf15 : Fr [19, 23, 24, 26] [21, 22] [27, 28] cn In Fn c40 In15 F40 := Fr.mo (Fr.tr hfr40 (show Fr [] [21, 22] [] c40 I40 F40 c40 In15 F40 from ⟨fun _ _ => rfl, hI15_, fun _ _ => rfl⟩)) (sbl rfl) (sbl rfl) (sbl rfl)
                have hP : va_P D vwCl (wM cI cB cZ g (va_up (va_up c40 24 ((c40 24) + 1)) 19 ((c40 19) + 1)) In15 (va_up F40 28 (upd ((F40 28)) ((c40 24)) (nI (10 * 1048576))))) H1 := hP1
                have hD : va_D A (wM cI cB cZ g (va_up (va_up c40 24 ((c40 24) + 1)) 19 ((c40 19) + 1)) In15 (va_up F40 28 (upd ((F40 28)) ((c40 24)) (nI (10 * 1048576))))) := hD1.weaken (fun _ _ _ h => hFc _ h)
                generalize H1 = H at hP hS ⊢
                refine lv_if_ne (tgt := 40) hx hb dX12_readsCondition_78 rfl (fun _ => ?_) (fun h => absurd h cq_eq_1_0)
                exact ih40  (va_up (va_up c40 24 ((c40 24) + 1)) 19 ((c40 19) + 1)) In15 (va_up F40 28 (upd ((F40 28)) ((c40 24)) (nI (10 * 1048576)))) _ _ (show cn 20 - ((c40 19) + 1) < n40 by (first | omega | (have zz0 := Hid.u hi_c40; have zz1 := Hid.u hi_cn; have zz2 := Hid.u hq_c40; omega))) ⟨(Fr.mo (Fr.f 28 (Fr.c 19 (Fr.c 24 hf15))) (sbl rfl) (sbl rfl) (sbl rfl)), (IM.fr (In := In15) hI40 (Fr.f 28 (Fr.c 19 (Fr.c 24 Fr.rf))) (by decide) (by decide)), (by have q := PBk.push (k := 10) (s' := 0) hx40_0 (by (first | omega | (have zz0 := Hid.u hi_c40; have zz1 := Hid.u hi_cn; have zz2 := Hid.u hq_c40; omega))) (by decide) (by decide) (by decide) (by decide); exact q), (by have q := CK.push (k := 10) hx40_1 (by decide) (by decide); exact q), hx40_2, (by show cn 19 ≤ c40 19 + 1; (first | omega | (have zz0 := Hid.u hi_c40; have zz1 := Hid.u hi_cn; have zz2 := Hid.u hq_c40; omega)))⟩ hP hD hS ls (lv_sub hl [0] rfl)
          ·
            have tc_8 : (r_6.toInt : Int) ≠ 33 := fun q => c_8 (Int32.toInt_inj.mp q)
            refine lv_aload_n hx hb (oc_42 49 shX12_readsCondition_49) rfl (lvA0 hl) ?_
            refine vp_callSi (runV_ra (As := []) (rest := []) S (q_here l D cI cB cZ g c40 I40 F40  hI40 (by (first | omega | (have zz0 := Hid.u hi_c40; have zz1 := Hid.u hi_cn; have zz2 := Hid.u hq_c40; omega))) (by (first | omega | (have zz0 := Hid.u hi_c40; have zz1 := Hid.u hi_cn; have zz2 := Hid.u hq_c40; omega)))) kV_RX12_239 hK hP 0 rfl rfl rfl ⟨Nat.le_of_ble_eq_true rfl, Nat.le_of_ble_eq_true rfl⟩ ⟨Nat.le_of_ble_eq_true rfl, Nat.le_of_ble_eq_true rfl⟩ rfl hl.1 rfl (Nat.le_of_ble_eq_true rfl) (oc_182 50 (aq_1 shX12_readsCondition_49) uw_0_239)) (fun r_16 h_17 => ?_)
            refine lv_bipush (v := 40) hx hb (oc_16 53 (aq_4 shX12_readsCondition_49) sgb_40) kbc_40 ?_
            refine lv_icmp_ne (tgt := 83) hx hb (oc_160 55 (aq_6 shX12_readsCondition_49) sgw_0_28) rfl (fun c_18 => ?_) (fun c_18 => ?_)
            ·
              have tc_18 : (r_16.toInt : Int) ≠ 40 := fun q => c_18 (Int32.toInt_inj.mp q)
              refine lv_aload_n hx hb (oc_42 83 (aq_10 shX12_readsCondition_73)) rfl (lvA0 hl) ?_
              have hFc := free_all hD hS hA
              refine va_calli (runV_a (As := []) (rest := []) S (q_readsCompared l D cI cB cZ g c40 I40 F40 (cn 23) 0 H.size hI40 hx40_0 hx40_1) kV_RX12_303 hK hP hD 0 rfl rfl rfl ⟨Nat.le_of_ble_eq_true rfl, Nat.le_of_ble_eq_true rfl⟩ ⟨Nat.le_of_ble_eq_true rfl, Nat.le_of_ble_eq_true rfl⟩ rfl hl.1 rfl (Nat.le_of_ble_eq_true rfl) (oc_182 84 (aq_11 shX12_readsCondition_73) uw_1_47)) hS (fun q _ h => hFc q h) hFc (fun r_19 u t H1 locs ht hvm wh_20 hB hz1 hk1 hS => ?_)
              obtain ⟨cn20, In20, Fn20⟩ := u
              obtain ⟨hP1, hD1⟩ := hB
              rw [ht] at hP1
              have hP : va_P D vwCl (wM cI cB cZ g cn20 In20 Fn20) H1 := hP1
              have hD : va_D A (wM cI cB cZ g cn20 In20 Fn20) := hD1.weaken (fun _ _ _ h => hFc _ h)
              generalize H1 = H at hP hS ⊢
              have vh_20 : (fun r c2 I2 F2 => Fr [19, 23, 24, 26] [21, 22] [27, 28] c40 I40 F40 c2 I2 F2 ∧ IM c2 F2 ∧ (r = 0 ∨ (r = 1 ∧ PBk (c2 19) (c2 20) (c2 23) (c2 24) (F2 27) (F2 28) (cn 23) 1 0 ∧ CK (c2 24) (F2 28) ∧ (∀ k : Nat, k < (cn 23) → F2 27 k = (F40 27) k) ∧ (c40 19) < c2 19))) r_19 cn20 In20 Fn20 := wh_20
              obtain ⟨hfc20, hIn20, h_20⟩ := vh_20
              have hf20 : Fr [19, 23, 24, 26] [21, 22] [27, 28] cn In Fn cn20 In20 Fn20 := Fr.mo (Fr.tr hfr40 hfc20) (sbl rfl) (sbl rfl) (sbl rfl)
              have hi_cn20 : Hid (CB cn20) := hIn20.b
              have : cn20 20 = cn 20 := hf20.1 20 (nml rfl)
              have : cn20 25 = cn 25 := hf20.1 25 (nml rfl)
              have hq_cn20 := Hid.i (frq_19_23_24_26_0_1_2_46_57_58_62_63_75_83_44 hf20)
              have : cn20 20 = (c40 20) := hfc20.1 20 (nml rfl)
              have : cn20 25 = (c40 25) := hfc20.1 25 (nml rfl)
              rcases h_20 with rfl | ⟨rfl, kh_20⟩
              ·
                refine lv_if_ne (tgt := 92) hx hb (oc_154 87 (aq_14 shX12_readsCondition_73) sgw_0_5) rfl (fun h => absurd h cq_eq_0_0) (fun _ => ?_)
                refine lv_iconst (v := 0) hx hb (oc_3 90 (aq_17 shX12_readsCondition_73)) kic_0 ?_
                exact W.zret (v := 0) hx hb hr rfl (fun t ht hW => ⟨⟨0, (cn20, In20, Fn20), rfl, ⟨(Fr.mo hf20 (sbl rfl) (sbl rfl) (sbl rfl)), hIn20, (by show 0 = 0 ∨ (0 = 1 ∧ SegOK (Fn20 27) 0 (cn 23) (cn20 23) ∧ cn 23 ≤ cn20 23 ∧ cn20 23 ≤ cn20 19 ∧ (cn 19 ≤ cn20 19 ∧ cn20 19 ≤ cn 20) ∧ (∀ k : Nat, k < cn 23 → Fn20 27 k = Fn 27 k)); exact Or.inl rfl)⟩, by rw [ht]; exact hP, hD⟩, hS.F ht⟩) hS.2.2 (oc_172 91 (aq_18 shX12_readsCondition_73))
              ·
                obtain ⟨kh_20a, kh_20b, kh_20c, kh_20d⟩ := kh_20
                have kh_20f := kh_20a.f
                refine lv_if_ne (tgt := 92) hx hb (oc_154 87 (aq_14 shX12_readsCondition_73) sgw_0_5) rfl (fun _ => ?_) (fun h => absurd h cq_eq_1_0)
                have lp_92 : ∀ (n : Nat)  (c92 : Nat → Nat) (I92 : Nat → Int32) (F92 : Nat → Nat → Int32) (H : Heap) (locs : List Loc) , cn 20 - c92 19 < n → (Fr [19, 23, 24, 26] [21, 22] [27, 28] cn In Fn c92 I92 F92 ∧ IM c92 F92 ∧ ((PBk (c92 19) (c92 20) (c92 23) (c92 24) (F92 27) (F92 28) (cn 23) 1 0)) ∧ ((CK (c92 24) (F92 28))) ∧ ((∀ k : Nat, k < cn 23 → F92 27 k = Fn 27 k)) ∧ (c40 19 < c92 19)) → va_P D vwCl (wM cI cB cZ g c92 I92 F92) H → va_D A (wM cI cB cZ g c92 I92 F92) → va_S A s.heap H locs → ∀ ls : Array Slot, lv_has ls 1 [(0, .ref (g 100))] → W p l e (RM 6 0 0) s m ([.ref (g 100)]).toArray below meth c H locs 0 0 (MQ below (va_Qi (fun (r : Int32) (u : (Nat → Nat) × (Nat → Int32) × (Nat → Nat → Int32)) => (fun r c2 I2 F2 => Fr [19, 23, 24, 26] [21, 22] [27, 28] cn In Fn c2 I2 F2 ∧ IM c2 F2 ∧ (r = 0 ∨ (r = 1 ∧ SegOK (F2 27) 0 (cn 23) (c2 23) ∧ cn 23 ≤ c2 23 ∧ c2 23 ≤ c2 19 ∧ (cn 19 ≤ c2 19 ∧ c2 19 ≤ cn 20) ∧ (∀ k : Nat, k < cn 23 → F2 27 k = Fn 27 k)))) r u.1 u.2.1 u.2.2) (fun (u : (Nat → Nat) × (Nat → Int32) × (Nat → Nat → Int32)) (t : State) => va_P D vwCl (wM cI cB cZ g u.1 u.2.1 u.2.2) t.heap ∧ va_D A (wM cI cB cZ g u.1 u.2.1 u.2.2)) A) ([.ref (g 100)]).toArray s 0 0 A) (F0 m 92 ls []) := by
                  intro n92
                  induction n92 with
                  | zero => intros; (first | omega | (have zz0 := Hid.u hi_c40; have zz1 := Hid.u hi_cn; have zz2 := Hid.u hi_cn20; have zz3 := Hid.u hq_c40; have zz4 := Hid.u hq_cn20; omega))
                  | succ n92 ih92 =>
                    intro  c92 I92 F92 H locs hmu92 hinv92 hP hD hS ls hl
                    obtain ⟨hfr92, hI92, hx92_0, hx92_1, hx92_2, hx92_3⟩ := hinv92
                    have hi_c92 : Hid (CB c92) := hI92.b
                    have : c92 20 = cn 20 := hfr92.1 20 (nml rfl)
                    have : c92 25 = cn 25 := hfr92.1 25 (nml rfl)
                    have hq_c92 := Hid.i (frq_19_23_24_26_0_1_2_46_57_58_62_63_75_83_44 hfr92)
                    have hf92 := hx92_0.f
                    have hc92 := hx92_1.1
                    refine lv_aload_n hx hb (oc_42 92 (aq_19 shX12_readsCondition_73)) rfl (lvA0 hl) ?_
                    refine vp_callSi (runV_ra (As := []) (rest := []) S (q_here l D cI cB cZ g c92 I92 F92  hI92 (by (first | omega | (have zz0 := Hid.u hi_c40; have zz1 := Hid.u hi_c92; have zz2 := Hid.u hi_cn; have zz3 := Hid.u hi_cn20; have zz4 := Hid.u hq_c40; have zz5 := Hid.u hq_c92; have zz6 := Hid.u hq_cn20; omega))) (by (first | omega | (have zz0 := Hid.u hi_c40; have zz1 := Hid.u hi_c92; have zz2 := Hid.u hi_cn; have zz3 := Hid.u hi_cn20; have zz4 := Hid.u hq_c40; have zz5 := Hid.u hq_c92; have zz6 := Hid.u hq_cn20; omega)))) kV_RX12_239 hK hP 0 rfl rfl rfl ⟨Nat.le_of_ble_eq_true rfl, Nat.le_of_ble_eq_true rfl⟩ ⟨Nat.le_of_ble_eq_true rfl, Nat.le_of_ble_eq_true rfl⟩ rfl hl.1 rfl (Nat.le_of_ble_eq_true rfl) (oc_182 93 (aq_20 shX12_readsCondition_73) uw_0_239)) (fun r_21 h_22 => ?_)
                    refine lv_bipush (v := 41) hx hb (oc_16 96 (aq_23 shX12_readsCondition_73) sgb_41) kbc_41 ?_
                    refine lv_icmp_ne (tgt := 152) hx hb (oc_160 98 shX12_readsCondition_98 sgw_0_54) rfl (fun c_23 => ?_) (fun c_23 => ?_)
                    ·
                      have tc_23 : (r_21.toInt : Int) ≠ 41 := fun q => c_23 (Int32.toInt_inj.mp q)
                      refine lv_aload_n hx hb (oc_42 152 (aq_6 shX12_readsCondition_146)) rfl (lvA0 hl) ?_
                      refine vp_callSi (runV_ra (As := []) (rest := []) S (q_here l D cI cB cZ g c92 I92 F92  hI92 (by (first | omega | (have zz0 := Hid.u hi_c40; have zz1 := Hid.u hi_c92; have zz2 := Hid.u hi_cn; have zz3 := Hid.u hi_cn20; have zz4 := Hid.u hq_c40; have zz5 := Hid.u hq_c92; have zz6 := Hid.u hq_cn20; omega))) (by (first | omega | (have zz0 := Hid.u hi_c40; have zz1 := Hid.u hi_c92; have zz2 := Hid.u hi_cn; have zz3 := Hid.u hi_cn20; have zz4 := Hid.u hq_c40; have zz5 := Hid.u hq_c92; have zz6 := Hid.u hq_cn20; omega)))) kV_RX12_239 hK hP 0 rfl rfl rfl ⟨Nat.le_of_ble_eq_true rfl, Nat.le_of_ble_eq_true rfl⟩ ⟨Nat.le_of_ble_eq_true rfl, Nat.le_of_ble_eq_true rfl⟩ rfl hl.1 rfl (Nat.le_of_ble_eq_true rfl) (oc_182 153 (aq_7 shX12_readsCondition_146) uw_0_239)) (fun r_24 h_25 => ?_)
                      refine lv_bipush (v := 38) hx hb (oc_16 156 (aq_10 shX12_readsCondition_146) sgb_38) kbc_38 ?_
                      refine lv_icmp_eq (tgt := 180) hx hb (oc_159 158 (aq_12 shX12_readsCondition_146) sgw_0_22) rfl (fun c_26 => ?_) (fun c_26 => ?_)
                      ·
                        have tc_26 : (r_24.toInt : Int) = 38 := congrArg Int32.toInt c_26
                        refine lv_aload_n hx hb (oc_42 180 (aq_10 shX12_readsCondition_170)) rfl (lvA0 hl) ?_
                        refine lv_aload_n hx hb (oc_42 181 (aq_11 shX12_readsCondition_170)) rfl (lvA0 hl) ?_
                        refine vp_callSi (runV_ra (As := []) (rest := [.ref (g 100)]) S (q_here l D cI cB cZ g c92 I92 F92  hI92 (by (first | omega | (have zz0 := Hid.u hi_c40; have zz1 := Hid.u hi_c92; have zz2 := Hid.u hi_cn; have zz3 := Hid.u hi_cn20; have zz4 := Hid.u hq_c40; have zz5 := Hid.u hq_c92; have zz6 := Hid.u hq_cn20; omega))) (by (first | omega | (have zz0 := Hid.u hi_c40; have zz1 := Hid.u hi_c92; have zz2 := Hid.u hi_cn; have zz3 := Hid.u hi_cn20; have zz4 := Hid.u hq_c40; have zz5 := Hid.u hq_c92; have zz6 := Hid.u hq_cn20; omega)))) kV_RX12_239 hK hP 0 rfl rfl rfl ⟨Nat.le_of_ble_eq_true rfl, Nat.le_of_ble_eq_true rfl⟩ ⟨Nat.le_of_ble_eq_true rfl, Nat.le_of_ble_eq_true rfl⟩ rfl hl.1 rfl (Nat.le_of_ble_eq_true rfl) (oc_182 182 (aq_12 shX12_readsCondition_170) uw_0_239)) (fun r_27 h_28 => ?_)
                        refine lv_bipush (v := 124) hx hb (oc_16 185 (aq_15 shX12_readsCondition_170) sgb_124) kbc_124 ?_
                        refine lv_icmp_ne (tgt := 194) hx hb (oc_160 187 (aq_17 shX12_readsCondition_170) sgw_0_7) rfl (fun c_29 => ?_) (fun c_29 => ?_)
                        ·
                          have tc_29 : (r_27.toInt : Int) ≠ 124 := fun q => c_29 (Int32.toInt_inj.mp q)
                          refine lv_iconst (v := 0) hx hb (oc_3 194 shX12_readsCondition_194) kic_0 ?_
                          have hFc := free_all hD hS hA
                          refine va_callv (runV_a (As := [.int 0]) (rest := []) S (q_lands l D cI cB cZ g c92 I92 F92 (cn 23) 0 0 H.size hI92 hx92_0 hx92_1) kV_RX12_306 hK hP hD 0 rfl rfl rfl ⟨Nat.le_of_ble_eq_true rfl, Nat.le_of_ble_eq_true rfl⟩ ⟨Nat.le_of_ble_eq_true rfl, Nat.le_of_ble_eq_true rfl⟩ rfl hl.1 rfl (Nat.le_of_ble_eq_true rfl) dX12_readsCondition_195) hS (fun q _ h => hFc q h) hFc (fun u t H1 locs ht hvm wh_31 hB hz1 hk1 hS => ?_)
                          obtain ⟨cn31, In31, Fn31⟩ := u
                          obtain ⟨hP1, hD1⟩ := hB
                          rw [ht] at hP1
                          have hP : va_P D vwCl (wM cI cB cZ g cn31 In31 Fn31) H1 := hP1
                          have hD : va_D A (wM cI cB cZ g cn31 In31 Fn31) := hD1.weaken (fun _ _ _ h => hFc _ h)
                          generalize H1 = H at hP hS ⊢
                          have vh_31 : (fun c2 I2 F2 => Fr [24] [] [27] c92 I92 F92 c2 I2 F2 ∧ IM c2 F2 ∧ ((PBk (c2 19) (c2 20) (c2 23) (c2 24) (F2 27) (F2 28) (cn 23) 1 0) ∧ (CK (c2 24) (F2 28)) ∧ (∀ k : Nat, k < (cn 23) → F2 27 k = (F92 27) k) ∧ (¬ (0 : Int32) = 0 → ¬ (11 ≤ kd (F2 28 (c2 24 - 1)) ∧ kd (F2 28 (c2 24 - 1)) ≤ 12)))) cn31 In31 Fn31 := wh_31
                          obtain ⟨hfc31, hIn31, h_31⟩ := vh_31
                          obtain rfl : I92 = In31 := (funext (fun k => hfc31.2.1 k List.not_mem_nil)).symm
                          have hf31 : Fr [19, 23, 24, 26] [21, 22] [27, 28] cn In Fn cn31 I92 Fn31 := Fr.mo (Fr.tr hfr92 hfc31) (sbl rfl) (sbl rfl) (sbl rfl)
                          have hi_cn31 : Hid (CB cn31) := hIn31.b
                          have : cn31 20 = cn 20 := hf31.1 20 (nml rfl)
                          have : cn31 25 = cn 25 := hf31.1 25 (nml rfl)
                          have hq_cn31 := Hid.i (frq_19_23_24_26_0_1_2_46_57_58_62_63_75_83_44 hf31)
                          have : cn31 19 = (c92 19) := hfc31.1 19 (nml rfl)
                          have : cn31 20 = (c92 20) := hfc31.1 20 (nml rfl)
                          have : cn31 23 = (c92 23) := hfc31.1 23 (nml rfl)
                          have : cn31 25 = (c92 25) := hfc31.1 25 (nml rfl)
                          obtain ⟨h_31a, h_31b, h_31c, h_31d⟩ := h_31
                          have h_31f := h_31a.f
                          have hldc := h_31b.1
                          refine lv_aload_n hx hb dX12_readsCondition_198 rfl (lvA0 hl) ?_
                          refine lv_aload_n hx hb dX12_readsCondition_199 rfl (lvA0 hl) ?_
                          refine vp_callSi (runV_ra (As := []) (rest := [.ref (g 100)]) S (q_here l D cI cB cZ g cn31 I92 Fn31  hIn31 (by (first | omega | (have zz0 := Hid.u hi_c40; have zz1 := Hid.u hi_c92; have zz2 := Hid.u hi_cn; have zz3 := Hid.u hi_cn20; have zz4 := Hid.u hi_cn31; have zz5 := Hid.u hq_c40; have zz6 := Hid.u hq_c92; have zz7 := Hid.u hq_cn20; have zz8 := Hid.u hq_cn31; omega))) (by (first | omega | (have zz0 := Hid.u hi_c40; have zz1 := Hid.u hi_c92; have zz2 := Hid.u hi_cn; have zz3 := Hid.u hi_cn20; have zz4 := Hid.u hi_cn31; have zz5 := Hid.u hq_c40; have zz6 := Hid.u hq_c92; have zz7 := Hid.u hq_cn20; have zz8 := Hid.u hq_cn31; omega)))) kV_RX12_239 hK hP 0 rfl rfl rfl ⟨Nat.le_of_ble_eq_true rfl, Nat.le_of_ble_eq_true rfl⟩ ⟨Nat.le_of_ble_eq_true rfl, Nat.le_of_ble_eq_true rfl⟩ rfl hl.1 rfl (Nat.le_of_ble_eq_true rfl) dX12_readsCondition_200) (fun r_32 h_33 => ?_)
                          refine lv_bipush (v := 38) hx hb dX12_readsCondition_203 kbc_38 ?_
                          refine lv_icmp_ne (tgt := 213) hx hb dX12_readsCondition_205 rfl (fun c_34 => ?_) (fun c_34 => ?_)
                          ·
                            have tc_34 : (r_32.toInt : Int) ≠ 38 := fun q => c_34 (Int32.toInt_inj.mp q)
                            refine lv_bipush (v := 12) hx hb dX12_readsCondition_213 kbc_12 ?_
                            have hFc := free_all hD hS hA
                            refine va_callv (runV_a (As := [.int 12]) (rest := []) S (q_jumps l D cI cB cZ g cn31 I92 Fn31 12 H.size hIn31 (by (first | omega | (have zz0 := Hid.u hi_c40; have zz1 := Hid.u hi_c92; have zz2 := Hid.u hi_cn; have zz3 := Hid.u hi_cn20; have zz4 := Hid.u hi_cn31; have zz5 := Hid.u hq_c40; have zz6 := Hid.u hq_c92; have zz7 := Hid.u hq_cn20; have zz8 := Hid.u hq_cn31; omega))) (by (first | omega | (have zz0 := Hid.u hi_c40; have zz1 := Hid.u hi_c92; have zz2 := Hid.u hi_cn; have zz3 := Hid.u hi_cn20; have zz4 := Hid.u hi_cn31; have zz5 := Hid.u hq_c40; have zz6 := Hid.u hq_c92; have zz7 := Hid.u hq_cn20; have zz8 := Hid.u hq_cn31; omega)))) kV_RX12_309 hK hP hD 0 rfl rfl rfl ⟨Nat.le_of_ble_eq_true rfl, Nat.le_of_ble_eq_true rfl⟩ ⟨Nat.le_of_ble_eq_true rfl, Nat.le_of_ble_eq_true rfl⟩ rfl hl.1 rfl (Nat.le_of_ble_eq_true rfl) dX12_readsCondition_215) hS (fun q _ h => hFc q h) hFc (fun u t H1 locs ht hvm wh_36 hB hz1 hk1 hS => ?_)
                            obtain ⟨cn36, In36, Fn36⟩ := u
                            obtain ⟨hP1, hD1⟩ := hB
                            rw [ht] at hP1
                            have vh_36 : (fun c2 I2 F2 => (∀ k : Nat, k ∉ [] → I2 k = I92 k) ∧ (((True) ∧ (va_up (va_up (va_up cn31 24 ((cn31 24) + 1)) 23 ((cn31 23) + 1)) 19 ((cn31 19) + 1)) = c2 ∧ (va_up (va_up Fn31 28 (upd ((Fn31 28)) ((cn31 24)) (nI (1048576 * 12 + (cn31 23))))) 27 (upd ((Fn31 27)) ((cn31 23)) (nI (12 * 1048576 + 0)))) = F2))) cn36 In36 Fn36 := wh_36
                            obtain ⟨hI36_, vh_36⟩ := vh_36
                            obtain ⟨h_36, rfl, rfl⟩ := vh_36
                            obtain rfl : I92 = In36 := (funext (fun k => hI36_ k List.not_mem_nil)).symm
                            have hP : va_P D vwCl (wM cI cB cZ g (va_up (va_up (va_up cn31 24 ((cn31 24) + 1)) 23 ((cn31 23) + 1)) 19 ((cn31 19) + 1)) I92 (va_up (va_up Fn31 28 (upd ((Fn31 28)) ((cn31 24)) (nI (1048576 * 12 + (cn31 23))))) 27 (upd ((Fn31 27)) ((cn31 23)) (nI (12 * 1048576 + 0))))) H1 := hP1
                            have hD : va_D A (wM cI cB cZ g (va_up (va_up (va_up cn31 24 ((cn31 24) + 1)) 23 ((cn31 23) + 1)) 19 ((cn31 19) + 1)) I92 (va_up (va_up Fn31 28 (upd ((Fn31 28)) ((cn31 24)) (nI (1048576 * 12 + (cn31 23))))) 27 (upd ((Fn31 27)) ((cn31 23)) (nI (12 * 1048576 + 0))))) := hD1.weaken (fun _ _ _ h => hFc _ h)
                            generalize H1 = H at hP hS ⊢
                            refine lv_goto (tgt := 40) hx hb dX12_readsCondition_218 rfl ?_
                            exact ih40  (va_up (va_up (va_up cn31 24 ((cn31 24) + 1)) 23 ((cn31 23) + 1)) 19 ((cn31 19) + 1)) I92 (va_up (va_up Fn31 28 (upd ((Fn31 28)) ((cn31 24)) (nI (1048576 * 12 + (cn31 23))))) 27 (upd ((Fn31 27)) ((cn31 23)) (nI (12 * 1048576 + 0)))) _ _ (show cn 20 - ((cn31 19) + 1) < n40 by (first | omega | (have zz0 := Hid.u hi_c40; have zz1 := Hid.u hi_c92; have zz2 := Hid.u hi_cn; have zz3 := Hid.u hi_cn20; have zz4 := Hid.u hi_cn31; have zz5 := Hid.u hq_c40; have zz6 := Hid.u hq_c92; have zz7 := Hid.u hq_cn20; have zz8 := Hid.u hq_cn31; omega))) ⟨(Fr.mo (Fr.f 27 (Fr.f 28 (Fr.c 19 (Fr.c 23 (Fr.c 24 hf31))))) (sbl rfl) (sbl rfl) (sbl rfl)), (IM.fr (In := I92) hIn31 (Fr.f 27 (Fr.f 28 (Fr.c 19 (Fr.c 23 (Fr.c 24 Fr.rf))))) (by decide) (by decide)), (by have q := PBk.jump (k := 12) h_31a (by (first | omega | (have zz0 := Hid.u hi_c40; have zz1 := Hid.u hi_c92; have zz2 := Hid.u hi_cn; have zz3 := Hid.u hi_cn20; have zz4 := Hid.u hi_cn31; have zz5 := Hid.u hq_c40; have zz6 := Hid.u hq_c92; have zz7 := Hid.u hq_cn20; have zz8 := Hid.u hq_cn31; omega))) (by decide); exact q), (by have q := CK.jump (k := 12) (v := cn31 23) h_31b (by decide) (by (first | omega | (have zz0 := Hid.u hi_c40; have zz1 := Hid.u hi_c92; have zz2 := Hid.u hi_cn; have zz3 := Hid.u hi_cn20; have zz4 := Hid.u hi_cn31; have zz5 := Hid.u hq_c40; have zz6 := Hid.u hq_c92; have zz7 := Hid.u hq_cn20; have zz8 := Hid.u hq_cn31; omega))); exact q), (fun k hk => (upd_lt (by (first | omega | (have zz0 := Hid.u hi_c40; have zz1 := Hid.u hi_c92; have zz2 := Hid.u hi_cn; have zz3 := Hid.u hi_cn20; have zz4 := Hid.u hi_cn31; have zz5 := Hid.u hq_c40; have zz6 := Hid.u hq_c92; have zz7 := Hid.u hq_cn20; have zz8 := Hid.u hq_cn31; omega)))).trans ((h_31c k hk).trans (hx92_2 k hk))), (by show cn 19 ≤ cn31 19 + 1; (first | omega | (have zz0 := Hid.u hi_c40; have zz1 := Hid.u hi_c92; have zz2 := Hid.u hi_cn; have zz3 := Hid.u hi_cn20; have zz4 := Hid.u hi_cn31; have zz5 := Hid.u hq_c40; have zz6 := Hid.u hq_c92; have zz7 := Hid.u hq_cn20; have zz8 := Hid.u hq_cn31; omega)))⟩ hP hD hS ls (lv_sub hl [0] rfl)
                          ·
                            have tc_34 : (r_32.toInt : Int) = 38 := congrArg Int32.toInt c_34
                            refine lv_bipush (v := 11) hx hb dX12_readsCondition_208 kbc_11 ?_
                            refine lv_goto (tgt := 215) hx hb dX12_readsCondition_210 rfl ?_
                            have hFc := free_all hD hS hA
                            refine va_callv (runV_a (As := [.int 11]) (rest := []) S (q_jumps l D cI cB cZ g cn31 I92 Fn31 11 H.size hIn31 (by (first | omega | (have zz0 := Hid.u hi_c40; have zz1 := Hid.u hi_c92; have zz2 := Hid.u hi_cn; have zz3 := Hid.u hi_cn20; have zz4 := Hid.u hi_cn31; have zz5 := Hid.u hq_c40; have zz6 := Hid.u hq_c92; have zz7 := Hid.u hq_cn20; have zz8 := Hid.u hq_cn31; omega))) (by (first | omega | (have zz0 := Hid.u hi_c40; have zz1 := Hid.u hi_c92; have zz2 := Hid.u hi_cn; have zz3 := Hid.u hi_cn20; have zz4 := Hid.u hi_cn31; have zz5 := Hid.u hq_c40; have zz6 := Hid.u hq_c92; have zz7 := Hid.u hq_cn20; have zz8 := Hid.u hq_cn31; omega)))) kV_RX12_309 hK hP hD 0 rfl rfl rfl ⟨Nat.le_of_ble_eq_true rfl, Nat.le_of_ble_eq_true rfl⟩ ⟨Nat.le_of_ble_eq_true rfl, Nat.le_of_ble_eq_true rfl⟩ rfl hl.1 rfl (Nat.le_of_ble_eq_true rfl) dX12_readsCondition_215) hS (fun q _ h => hFc q h) hFc (fun u t H1 locs ht hvm wh_38 hB hz1 hk1 hS => ?_)
                            obtain ⟨cn38, In38, Fn38⟩ := u
                            obtain ⟨hP1, hD1⟩ := hB
                            rw [ht] at hP1
                            have vh_38 : (fun c2 I2 F2 => (∀ k : Nat, k ∉ [] → I2 k = I92 k) ∧ (((True) ∧ (va_up (va_up (va_up cn31 24 ((cn31 24) + 1)) 23 ((cn31 23) + 1)) 19 ((cn31 19) + 1)) = c2 ∧ (va_up (va_up Fn31 28 (upd ((Fn31 28)) ((cn31 24)) (nI (1048576 * 11 + (cn31 23))))) 27 (upd ((Fn31 27)) ((cn31 23)) (nI (11 * 1048576 + 0)))) = F2))) cn38 In38 Fn38 := wh_38
                            obtain ⟨hI38_, vh_38⟩ := vh_38
                            obtain ⟨h_38, rfl, rfl⟩ := vh_38
                            obtain rfl : I92 = In38 := (funext (fun k => hI38_ k List.not_mem_nil)).symm
                            have hP : va_P D vwCl (wM cI cB cZ g (va_up (va_up (va_up cn31 24 ((cn31 24) + 1)) 23 ((cn31 23) + 1)) 19 ((cn31 19) + 1)) I92 (va_up (va_up Fn31 28 (upd ((Fn31 28)) ((cn31 24)) (nI (1048576 * 11 + (cn31 23))))) 27 (upd ((Fn31 27)) ((cn31 23)) (nI (11 * 1048576 + 0))))) H1 := hP1
                            have hD : va_D A (wM cI cB cZ g (va_up (va_up (va_up cn31 24 ((cn31 24) + 1)) 23 ((cn31 23) + 1)) 19 ((cn31 19) + 1)) I92 (va_up (va_up Fn31 28 (upd ((Fn31 28)) ((cn31 24)) (nI (1048576 * 11 + (cn31 23))))) 27 (upd ((Fn31 27)) ((cn31 23)) (nI (11 * 1048576 + 0))))) := hD1.weaken (fun _ _ _ h => hFc _ h)
                            generalize H1 = H at hP hS ⊢
                            refine lv_goto (tgt := 40) hx hb dX12_readsCondition_218 rfl ?_
                            exact ih40  (va_up (va_up (va_up cn31 24 ((cn31 24) + 1)) 23 ((cn31 23) + 1)) 19 ((cn31 19) + 1)) I92 (va_up (va_up Fn31 28 (upd ((Fn31 28)) ((cn31 24)) (nI (1048576 * 11 + (cn31 23))))) 27 (upd ((Fn31 27)) ((cn31 23)) (nI (11 * 1048576 + 0)))) _ _ (show cn 20 - ((cn31 19) + 1) < n40 by (first | omega | (have zz0 := Hid.u hi_c40; have zz1 := Hid.u hi_c92; have zz2 := Hid.u hi_cn; have zz3 := Hid.u hi_cn20; have zz4 := Hid.u hi_cn31; have zz5 := Hid.u hq_c40; have zz6 := Hid.u hq_c92; have zz7 := Hid.u hq_cn20; have zz8 := Hid.u hq_cn31; omega))) ⟨(Fr.mo (Fr.f 27 (Fr.f 28 (Fr.c 19 (Fr.c 23 (Fr.c 24 hf31))))) (sbl rfl) (sbl rfl) (sbl rfl)), (IM.fr (In := I92) hIn31 (Fr.f 27 (Fr.f 28 (Fr.c 19 (Fr.c 23 (Fr.c 24 Fr.rf))))) (by decide) (by decide)), (by have q := PBk.jump (k := 11) h_31a (by (first | omega | (have zz0 := Hid.u hi_c40; have zz1 := Hid.u hi_c92; have zz2 := Hid.u hi_cn; have zz3 := Hid.u hi_cn20; have zz4 := Hid.u hi_cn31; have zz5 := Hid.u hq_c40; have zz6 := Hid.u hq_c92; have zz7 := Hid.u hq_cn20; have zz8 := Hid.u hq_cn31; omega))) (by decide); exact q), (by have q := CK.jump (k := 11) (v := cn31 23) h_31b (by decide) (by (first | omega | (have zz0 := Hid.u hi_c40; have zz1 := Hid.u hi_c92; have zz2 := Hid.u hi_cn; have zz3 := Hid.u hi_cn20; have zz4 := Hid.u hi_cn31; have zz5 := Hid.u hq_c40; have zz6 := Hid.u hq_c92; have zz7 := Hid.u hq_cn20; have zz8 := Hid.u hq_cn31; omega))); exact q), (fun k hk => (upd_lt (by (first | omega | (have zz0 := Hid.u hi_c40; have zz1 := Hid.u hi_c92; have zz2 := Hid.u hi_cn; have zz3 := Hid.u hi_cn20; have zz4 := Hid.u hi_cn31; have zz5 := Hid.u hq_c40; have zz6 := Hid.u hq_c92; have zz7 := Hid.u hq_cn20; have zz8 := Hid.u hq_cn31; omega)))).trans ((h_31c k hk).trans (hx92_2 k hk))), (by show cn 19 ≤ cn31 19 + 1; (first | omega | (have zz0 := Hid.u hi_c40; have zz1 := Hid.u hi_c92; have zz2 := Hid.u hi_cn; have zz3 := Hid.u hi_cn20; have zz4 := Hid.u hi_cn31; have zz5 := Hid.u hq_c40; have zz6 := Hid.u hq_c92; have zz7 := Hid.u hq_cn20; have zz8 := Hid.u hq_cn31; omega)))⟩ hP hD hS ls (lv_sub hl [0] rfl)
                        ·
                          have tc_29 : (r_27.toInt : Int) = 124 := congrArg Int32.toInt c_29
                          refine lv_iconst (v := 1) hx hb (oc_4 190 (aq_20 shX12_readsCondition_170)) kic_1 ?_
                          refine lv_goto (tgt := 195) hx hb (oc_167 191 (aq_21 shX12_readsCondition_170) sgw_0_4) rfl ?_
                          have hFc := free_all hD hS hA
                          refine va_callv (runV_a (As := [.int 1]) (rest := []) S (q_lands l D cI cB cZ g c92 I92 F92 (cn 23) 0 1 H.size hI92 hx92_0 hx92_1) kV_RX12_306 hK hP hD 0 rfl rfl rfl ⟨Nat.le_of_ble_eq_true rfl, Nat.le_of_ble_eq_true rfl⟩ ⟨Nat.le_of_ble_eq_true rfl, Nat.le_of_ble_eq_true rfl⟩ rfl hl.1 rfl (Nat.le_of_ble_eq_true rfl) dX12_readsCondition_195) hS (fun q _ h => hFc q h) hFc (fun u t H1 locs ht hvm wh_40 hB hz1 hk1 hS => ?_)
                          obtain ⟨cn40, In40, Fn40⟩ := u
                          obtain ⟨hP1, hD1⟩ := hB
                          rw [ht] at hP1
                          have hP : va_P D vwCl (wM cI cB cZ g cn40 In40 Fn40) H1 := hP1
                          have hD : va_D A (wM cI cB cZ g cn40 In40 Fn40) := hD1.weaken (fun _ _ _ h => hFc _ h)
                          generalize H1 = H at hP hS ⊢
                          have vh_40 : (fun c2 I2 F2 => Fr [24] [] [27] c92 I92 F92 c2 I2 F2 ∧ IM c2 F2 ∧ ((PBk (c2 19) (c2 20) (c2 23) (c2 24) (F2 27) (F2 28) (cn 23) 1 0) ∧ (CK (c2 24) (F2 28)) ∧ (∀ k : Nat, k < (cn 23) → F2 27 k = (F92 27) k) ∧ (¬ (1 : Int32) = 0 → ¬ (11 ≤ kd (F2 28 (c2 24 - 1)) ∧ kd (F2 28 (c2 24 - 1)) ≤ 12)))) cn40 In40 Fn40 := wh_40
                          obtain ⟨hfc40, hIn40, h_40⟩ := vh_40
                          obtain rfl : I92 = In40 := (funext (fun k => hfc40.2.1 k List.not_mem_nil)).symm
                          have hf40 : Fr [19, 23, 24, 26] [21, 22] [27, 28] cn In Fn cn40 I92 Fn40 := Fr.mo (Fr.tr hfr92 hfc40) (sbl rfl) (sbl rfl) (sbl rfl)
                          have hi_cn40 : Hid (CB cn40) := hIn40.b
                          have : cn40 20 = cn 20 := hf40.1 20 (nml rfl)
                          have : cn40 25 = cn 25 := hf40.1 25 (nml rfl)
                          have hq_cn40 := Hid.i (frq_19_23_24_26_0_1_2_46_57_58_62_63_75_83_44 hf40)
                          have : cn40 19 = (c92 19) := hfc40.1 19 (nml rfl)
                          have : cn40 20 = (c92 20) := hfc40.1 20 (nml rfl)
                          have : cn40 23 = (c92 23) := hfc40.1 23 (nml rfl)
                          have : cn40 25 = (c92 25) := hfc40.1 25 (nml rfl)
                          obtain ⟨h_40a, h_40b, h_40c, h_40d⟩ := h_40
                          have h_40f := h_40a.f
                          have hldc := h_40b.1
                          refine lv_aload_n hx hb dX12_readsCondition_198 rfl (lvA0 hl) ?_
                          refine lv_aload_n hx hb dX12_readsCondition_199 rfl (lvA0 hl) ?_
                          refine vp_callSi (runV_ra (As := []) (rest := [.ref (g 100)]) S (q_here l D cI cB cZ g cn40 I92 Fn40  hIn40 (by (first | omega | (have zz0 := Hid.u hi_c40; have zz1 := Hid.u hi_c92; have zz2 := Hid.u hi_cn; have zz3 := Hid.u hi_cn20; have zz4 := Hid.u hi_cn40; have zz5 := Hid.u hq_c40; have zz6 := Hid.u hq_c92; have zz7 := Hid.u hq_cn20; have zz8 := Hid.u hq_cn40; omega))) (by (first | omega | (have zz0 := Hid.u hi_c40; have zz1 := Hid.u hi_c92; have zz2 := Hid.u hi_cn; have zz3 := Hid.u hi_cn20; have zz4 := Hid.u hi_cn40; have zz5 := Hid.u hq_c40; have zz6 := Hid.u hq_c92; have zz7 := Hid.u hq_cn20; have zz8 := Hid.u hq_cn40; omega)))) kV_RX12_239 hK hP 0 rfl rfl rfl ⟨Nat.le_of_ble_eq_true rfl, Nat.le_of_ble_eq_true rfl⟩ ⟨Nat.le_of_ble_eq_true rfl, Nat.le_of_ble_eq_true rfl⟩ rfl hl.1 rfl (Nat.le_of_ble_eq_true rfl) dX12_readsCondition_200) (fun r_41 h_42 => ?_)
                          refine lv_bipush (v := 38) hx hb dX12_readsCondition_203 kbc_38 ?_
                          refine lv_icmp_ne (tgt := 213) hx hb dX12_readsCondition_205 rfl (fun c_43 => ?_) (fun c_43 => ?_)
                          ·
                            have tc_43 : (r_41.toInt : Int) ≠ 38 := fun q => c_43 (Int32.toInt_inj.mp q)
                            refine lv_bipush (v := 12) hx hb dX12_readsCondition_213 kbc_12 ?_
                            have hFc := free_all hD hS hA
                            refine va_callv (runV_a (As := [.int 12]) (rest := []) S (q_jumps l D cI cB cZ g cn40 I92 Fn40 12 H.size hIn40 (by (first | omega | (have zz0 := Hid.u hi_c40; have zz1 := Hid.u hi_c92; have zz2 := Hid.u hi_cn; have zz3 := Hid.u hi_cn20; have zz4 := Hid.u hi_cn40; have zz5 := Hid.u hq_c40; have zz6 := Hid.u hq_c92; have zz7 := Hid.u hq_cn20; have zz8 := Hid.u hq_cn40; omega))) (by (first | omega | (have zz0 := Hid.u hi_c40; have zz1 := Hid.u hi_c92; have zz2 := Hid.u hi_cn; have zz3 := Hid.u hi_cn20; have zz4 := Hid.u hi_cn40; have zz5 := Hid.u hq_c40; have zz6 := Hid.u hq_c92; have zz7 := Hid.u hq_cn20; have zz8 := Hid.u hq_cn40; omega)))) kV_RX12_309 hK hP hD 0 rfl rfl rfl ⟨Nat.le_of_ble_eq_true rfl, Nat.le_of_ble_eq_true rfl⟩ ⟨Nat.le_of_ble_eq_true rfl, Nat.le_of_ble_eq_true rfl⟩ rfl hl.1 rfl (Nat.le_of_ble_eq_true rfl) dX12_readsCondition_215) hS (fun q _ h => hFc q h) hFc (fun u t H1 locs ht hvm wh_45 hB hz1 hk1 hS => ?_)
                            obtain ⟨cn45, In45, Fn45⟩ := u
                            obtain ⟨hP1, hD1⟩ := hB
                            rw [ht] at hP1
                            have vh_45 : (fun c2 I2 F2 => (∀ k : Nat, k ∉ [] → I2 k = I92 k) ∧ (((True) ∧ (va_up (va_up (va_up cn40 24 ((cn40 24) + 1)) 23 ((cn40 23) + 1)) 19 ((cn40 19) + 1)) = c2 ∧ (va_up (va_up Fn40 28 (upd ((Fn40 28)) ((cn40 24)) (nI (1048576 * 12 + (cn40 23))))) 27 (upd ((Fn40 27)) ((cn40 23)) (nI (12 * 1048576 + 0)))) = F2))) cn45 In45 Fn45 := wh_45
                            obtain ⟨hI45_, vh_45⟩ := vh_45
                            obtain ⟨h_45, rfl, rfl⟩ := vh_45
                            obtain rfl : I92 = In45 := (funext (fun k => hI45_ k List.not_mem_nil)).symm
                            have hP : va_P D vwCl (wM cI cB cZ g (va_up (va_up (va_up cn40 24 ((cn40 24) + 1)) 23 ((cn40 23) + 1)) 19 ((cn40 19) + 1)) I92 (va_up (va_up Fn40 28 (upd ((Fn40 28)) ((cn40 24)) (nI (1048576 * 12 + (cn40 23))))) 27 (upd ((Fn40 27)) ((cn40 23)) (nI (12 * 1048576 + 0))))) H1 := hP1
                            have hD : va_D A (wM cI cB cZ g (va_up (va_up (va_up cn40 24 ((cn40 24) + 1)) 23 ((cn40 23) + 1)) 19 ((cn40 19) + 1)) I92 (va_up (va_up Fn40 28 (upd ((Fn40 28)) ((cn40 24)) (nI (1048576 * 12 + (cn40 23))))) 27 (upd ((Fn40 27)) ((cn40 23)) (nI (12 * 1048576 + 0))))) := hD1.weaken (fun _ _ _ h => hFc _ h)
                            generalize H1 = H at hP hS ⊢
                            refine lv_goto (tgt := 40) hx hb dX12_readsCondition_218 rfl ?_
                            exact ih40  (va_up (va_up (va_up cn40 24 ((cn40 24) + 1)) 23 ((cn40 23) + 1)) 19 ((cn40 19) + 1)) I92 (va_up (va_up Fn40 28 (upd ((Fn40 28)) ((cn40 24)) (nI (1048576 * 12 + (cn40 23))))) 27 (upd ((Fn40 27)) ((cn40 23)) (nI (12 * 1048576 + 0)))) _ _ (show cn 20 - ((cn40 19) + 1) < n40 by (first | omega | (have zz0 := Hid.u hi_c40; have zz1 := Hid.u hi_c92; have zz2 := Hid.u hi_cn; have zz3 := Hid.u hi_cn20; have zz4 := Hid.u hi_cn40; have zz5 := Hid.u hq_c40; have zz6 := Hid.u hq_c92; have zz7 := Hid.u hq_cn20; have zz8 := Hid.u hq_cn40; omega))) ⟨(Fr.mo (Fr.f 27 (Fr.f 28 (Fr.c 19 (Fr.c 23 (Fr.c 24 hf40))))) (sbl rfl) (sbl rfl) (sbl rfl)), (IM.fr (In := I92) hIn40 (Fr.f 27 (Fr.f 28 (Fr.c 19 (Fr.c 23 (Fr.c 24 Fr.rf))))) (by decide) (by decide)), (by have q := PBk.jump (k := 12) h_40a (by (first | omega | (have zz0 := Hid.u hi_c40; have zz1 := Hid.u hi_c92; have zz2 := Hid.u hi_cn; have zz3 := Hid.u hi_cn20; have zz4 := Hid.u hi_cn40; have zz5 := Hid.u hq_c40; have zz6 := Hid.u hq_c92; have zz7 := Hid.u hq_cn20; have zz8 := Hid.u hq_cn40; omega))) (by decide); exact q), (by have q := CK.jump (k := 12) (v := cn40 23) h_40b (by decide) (by (first | omega | (have zz0 := Hid.u hi_c40; have zz1 := Hid.u hi_c92; have zz2 := Hid.u hi_cn; have zz3 := Hid.u hi_cn20; have zz4 := Hid.u hi_cn40; have zz5 := Hid.u hq_c40; have zz6 := Hid.u hq_c92; have zz7 := Hid.u hq_cn20; have zz8 := Hid.u hq_cn40; omega))); exact q), (fun k hk => (upd_lt (by (first | omega | (have zz0 := Hid.u hi_c40; have zz1 := Hid.u hi_c92; have zz2 := Hid.u hi_cn; have zz3 := Hid.u hi_cn20; have zz4 := Hid.u hi_cn40; have zz5 := Hid.u hq_c40; have zz6 := Hid.u hq_c92; have zz7 := Hid.u hq_cn20; have zz8 := Hid.u hq_cn40; omega)))).trans ((h_40c k hk).trans (hx92_2 k hk))), (by show cn 19 ≤ cn40 19 + 1; (first | omega | (have zz0 := Hid.u hi_c40; have zz1 := Hid.u hi_c92; have zz2 := Hid.u hi_cn; have zz3 := Hid.u hi_cn20; have zz4 := Hid.u hi_cn40; have zz5 := Hid.u hq_c40; have zz6 := Hid.u hq_c92; have zz7 := Hid.u hq_cn20; have zz8 := Hid.u hq_cn40; omega)))⟩ hP hD hS ls (lv_sub hl [0] rfl)
                          ·
                            have tc_43 : (r_41.toInt : Int) = 38 := congrArg Int32.toInt c_43
                            refine lv_bipush (v := 11) hx hb dX12_readsCondition_208 kbc_11 ?_
                            refine lv_goto (tgt := 215) hx hb dX12_readsCondition_210 rfl ?_
                            have hFc := free_all hD hS hA
                            refine va_callv (runV_a (As := [.int 11]) (rest := []) S (q_jumps l D cI cB cZ g cn40 I92 Fn40 11 H.size hIn40 (by (first | omega | (have zz0 := Hid.u hi_c40; have zz1 := Hid.u hi_c92; have zz2 := Hid.u hi_cn; have zz3 := Hid.u hi_cn20; have zz4 := Hid.u hi_cn40; have zz5 := Hid.u hq_c40; have zz6 := Hid.u hq_c92; have zz7 := Hid.u hq_cn20; have zz8 := Hid.u hq_cn40; omega))) (by (first | omega | (have zz0 := Hid.u hi_c40; have zz1 := Hid.u hi_c92; have zz2 := Hid.u hi_cn; have zz3 := Hid.u hi_cn20; have zz4 := Hid.u hi_cn40; have zz5 := Hid.u hq_c40; have zz6 := Hid.u hq_c92; have zz7 := Hid.u hq_cn20; have zz8 := Hid.u hq_cn40; omega)))) kV_RX12_309 hK hP hD 0 rfl rfl rfl ⟨Nat.le_of_ble_eq_true rfl, Nat.le_of_ble_eq_true rfl⟩ ⟨Nat.le_of_ble_eq_true rfl, Nat.le_of_ble_eq_true rfl⟩ rfl hl.1 rfl (Nat.le_of_ble_eq_true rfl) dX12_readsCondition_215) hS (fun q _ h => hFc q h) hFc (fun u t H1 locs ht hvm wh_47 hB hz1 hk1 hS => ?_)
                            obtain ⟨cn47, In47, Fn47⟩ := u
                            obtain ⟨hP1, hD1⟩ := hB
                            rw [ht] at hP1
                            have vh_47 : (fun c2 I2 F2 => (∀ k : Nat, k ∉ [] → I2 k = I92 k) ∧ (((True) ∧ (va_up (va_up (va_up cn40 24 ((cn40 24) + 1)) 23 ((cn40 23) + 1)) 19 ((cn40 19) + 1)) = c2 ∧ (va_up (va_up Fn40 28 (upd ((Fn40 28)) ((cn40 24)) (nI (1048576 * 11 + (cn40 23))))) 27 (upd ((Fn40 27)) ((cn40 23)) (nI (11 * 1048576 + 0)))) = F2))) cn47 In47 Fn47 := wh_47
                            obtain ⟨hI47_, vh_47⟩ := vh_47
                            obtain ⟨h_47, rfl, rfl⟩ := vh_47
                            obtain rfl : I92 = In47 := (funext (fun k => hI47_ k List.not_mem_nil)).symm
                            have hP : va_P D vwCl (wM cI cB cZ g (va_up (va_up (va_up cn40 24 ((cn40 24) + 1)) 23 ((cn40 23) + 1)) 19 ((cn40 19) + 1)) I92 (va_up (va_up Fn40 28 (upd ((Fn40 28)) ((cn40 24)) (nI (1048576 * 11 + (cn40 23))))) 27 (upd ((Fn40 27)) ((cn40 23)) (nI (11 * 1048576 + 0))))) H1 := hP1
                            have hD : va_D A (wM cI cB cZ g (va_up (va_up (va_up cn40 24 ((cn40 24) + 1)) 23 ((cn40 23) + 1)) 19 ((cn40 19) + 1)) I92 (va_up (va_up Fn40 28 (upd ((Fn40 28)) ((cn40 24)) (nI (1048576 * 11 + (cn40 23))))) 27 (upd ((Fn40 27)) ((cn40 23)) (nI (11 * 1048576 + 0))))) := hD1.weaken (fun _ _ _ h => hFc _ h)
                            generalize H1 = H at hP hS ⊢
                            refine lv_goto (tgt := 40) hx hb dX12_readsCondition_218 rfl ?_
                            exact ih40  (va_up (va_up (va_up cn40 24 ((cn40 24) + 1)) 23 ((cn40 23) + 1)) 19 ((cn40 19) + 1)) I92 (va_up (va_up Fn40 28 (upd ((Fn40 28)) ((cn40 24)) (nI (1048576 * 11 + (cn40 23))))) 27 (upd ((Fn40 27)) ((cn40 23)) (nI (11 * 1048576 + 0)))) _ _ (show cn 20 - ((cn40 19) + 1) < n40 by (first | omega | (have zz0 := Hid.u hi_c40; have zz1 := Hid.u hi_c92; have zz2 := Hid.u hi_cn; have zz3 := Hid.u hi_cn20; have zz4 := Hid.u hi_cn40; have zz5 := Hid.u hq_c40; have zz6 := Hid.u hq_c92; have zz7 := Hid.u hq_cn20; have zz8 := Hid.u hq_cn40; omega))) ⟨(Fr.mo (Fr.f 27 (Fr.f 28 (Fr.c 19 (Fr.c 23 (Fr.c 24 hf40))))) (sbl rfl) (sbl rfl) (sbl rfl)), (IM.fr (In := I92) hIn40 (Fr.f 27 (Fr.f 28 (Fr.c 19 (Fr.c 23 (Fr.c 24 Fr.rf))))) (by decide) (by decide)), (by have q := PBk.jump (k := 11) h_40a (by (first | omega | (have zz0 := Hid.u hi_c40; have zz1 := Hid.u hi_c92; have zz2 := Hid.u hi_cn; have zz3 := Hid.u hi_cn20; have zz4 := Hid.u hi_cn40; have zz5 := Hid.u hq_c40; have zz6 := Hid.u hq_c92; have zz7 := Hid.u hq_cn20; have zz8 := Hid.u hq_cn40; omega))) (by decide); exact q), (by have q := CK.jump (k := 11) (v := cn40 23) h_40b (by decide) (by (first | omega | (have zz0 := Hid.u hi_c40; have zz1 := Hid.u hi_c92; have zz2 := Hid.u hi_cn; have zz3 := Hid.u hi_cn20; have zz4 := Hid.u hi_cn40; have zz5 := Hid.u hq_c40; have zz6 := Hid.u hq_c92; have zz7 := Hid.u hq_cn20; have zz8 := Hid.u hq_cn40; omega))); exact q), (fun k hk => (upd_lt (by (first | omega | (have zz0 := Hid.u hi_c40; have zz1 := Hid.u hi_c92; have zz2 := Hid.u hi_cn; have zz3 := Hid.u hi_cn20; have zz4 := Hid.u hi_cn40; have zz5 := Hid.u hq_c40; have zz6 := Hid.u hq_c92; have zz7 := Hid.u hq_cn20; have zz8 := Hid.u hq_cn40; omega)))).trans ((h_40c k hk).trans (hx92_2 k hk))), (by show cn 19 ≤ cn40 19 + 1; (first | omega | (have zz0 := Hid.u hi_c40; have zz1 := Hid.u hi_c92; have zz2 := Hid.u hi_cn; have zz3 := Hid.u hi_cn20; have zz4 := Hid.u hi_cn40; have zz5 := Hid.u hq_c40; have zz6 := Hid.u hq_c92; have zz7 := Hid.u hq_cn20; have zz8 := Hid.u hq_cn40; omega)))⟩ hP hD hS ls (lv_sub hl [0] rfl)
                      ·
                        have tc_26 : (r_24.toInt : Int) ≠ 38 := fun q => c_26 (Int32.toInt_inj.mp q)
                        refine lv_aload_n hx hb (oc_42 161 (aq_15 shX12_readsCondition_146)) rfl (lvA0 hl) ?_
                        refine vp_callSi (runV_ra (As := []) (rest := []) S (q_here l D cI cB cZ g c92 I92 F92  hI92 (by (first | omega | (have zz0 := Hid.u hi_c40; have zz1 := Hid.u hi_c92; have zz2 := Hid.u hi_cn; have zz3 := Hid.u hi_cn20; have zz4 := Hid.u hq_c40; have zz5 := Hid.u hq_c92; have zz6 := Hid.u hq_cn20; omega))) (by (first | omega | (have zz0 := Hid.u hi_c40; have zz1 := Hid.u hi_c92; have zz2 := Hid.u hi_cn; have zz3 := Hid.u hi_cn20; have zz4 := Hid.u hq_c40; have zz5 := Hid.u hq_c92; have zz6 := Hid.u hq_cn20; omega)))) kV_RX12_239 hK hP 0 rfl rfl rfl ⟨Nat.le_of_ble_eq_true rfl, Nat.le_of_ble_eq_true rfl⟩ ⟨Nat.le_of_ble_eq_true rfl, Nat.le_of_ble_eq_true rfl⟩ rfl hl.1 rfl (Nat.le_of_ble_eq_true rfl) (oc_182 162 (aq_16 shX12_readsCondition_146) uw_0_239)) (fun r_48 h_49 => ?_)
                        refine lv_bipush (v := 124) hx hb (oc_16 165 (aq_19 shX12_readsCondition_146) sgb_124) kbc_124 ?_
                        refine lv_icmp_eq (tgt := 180) hx hb (oc_159 167 (aq_21 shX12_readsCondition_146) sgw_0_13) rfl (fun c_50 => ?_) (fun c_50 => ?_)
                        ·
                          have tc_50 : (r_48.toInt : Int) = 124 := congrArg Int32.toInt c_50
                          refine lv_aload_n hx hb (oc_42 180 (aq_10 shX12_readsCondition_170)) rfl (lvA0 hl) ?_
                          refine lv_aload_n hx hb (oc_42 181 (aq_11 shX12_readsCondition_170)) rfl (lvA0 hl) ?_
                          refine vp_callSi (runV_ra (As := []) (rest := [.ref (g 100)]) S (q_here l D cI cB cZ g c92 I92 F92  hI92 (by (first | omega | (have zz0 := Hid.u hi_c40; have zz1 := Hid.u hi_c92; have zz2 := Hid.u hi_cn; have zz3 := Hid.u hi_cn20; have zz4 := Hid.u hq_c40; have zz5 := Hid.u hq_c92; have zz6 := Hid.u hq_cn20; omega))) (by (first | omega | (have zz0 := Hid.u hi_c40; have zz1 := Hid.u hi_c92; have zz2 := Hid.u hi_cn; have zz3 := Hid.u hi_cn20; have zz4 := Hid.u hq_c40; have zz5 := Hid.u hq_c92; have zz6 := Hid.u hq_cn20; omega)))) kV_RX12_239 hK hP 0 rfl rfl rfl ⟨Nat.le_of_ble_eq_true rfl, Nat.le_of_ble_eq_true rfl⟩ ⟨Nat.le_of_ble_eq_true rfl, Nat.le_of_ble_eq_true rfl⟩ rfl hl.1 rfl (Nat.le_of_ble_eq_true rfl) (oc_182 182 (aq_12 shX12_readsCondition_170) uw_0_239)) (fun r_51 h_52 => ?_)
                          refine lv_bipush (v := 124) hx hb (oc_16 185 (aq_15 shX12_readsCondition_170) sgb_124) kbc_124 ?_
                          refine lv_icmp_ne (tgt := 194) hx hb (oc_160 187 (aq_17 shX12_readsCondition_170) sgw_0_7) rfl (fun c_53 => ?_) (fun c_53 => ?_)
                          ·
                            have tc_53 : (r_51.toInt : Int) ≠ 124 := fun q => c_53 (Int32.toInt_inj.mp q)
                            refine lv_iconst (v := 0) hx hb (oc_3 194 shX12_readsCondition_194) kic_0 ?_
                            have hFc := free_all hD hS hA
                            refine va_callv (runV_a (As := [.int 0]) (rest := []) S (q_lands l D cI cB cZ g c92 I92 F92 (cn 23) 0 0 H.size hI92 hx92_0 hx92_1) kV_RX12_306 hK hP hD 0 rfl rfl rfl ⟨Nat.le_of_ble_eq_true rfl, Nat.le_of_ble_eq_true rfl⟩ ⟨Nat.le_of_ble_eq_true rfl, Nat.le_of_ble_eq_true rfl⟩ rfl hl.1 rfl (Nat.le_of_ble_eq_true rfl) dX12_readsCondition_195) hS (fun q _ h => hFc q h) hFc (fun u t H1 locs ht hvm wh_55 hB hz1 hk1 hS => ?_)
                            obtain ⟨cn55, In55, Fn55⟩ := u
                            obtain ⟨hP1, hD1⟩ := hB
                            rw [ht] at hP1
                            have hP : va_P D vwCl (wM cI cB cZ g cn55 In55 Fn55) H1 := hP1
                            have hD : va_D A (wM cI cB cZ g cn55 In55 Fn55) := hD1.weaken (fun _ _ _ h => hFc _ h)
                            generalize H1 = H at hP hS ⊢
                            have vh_55 : (fun c2 I2 F2 => Fr [24] [] [27] c92 I92 F92 c2 I2 F2 ∧ IM c2 F2 ∧ ((PBk (c2 19) (c2 20) (c2 23) (c2 24) (F2 27) (F2 28) (cn 23) 1 0) ∧ (CK (c2 24) (F2 28)) ∧ (∀ k : Nat, k < (cn 23) → F2 27 k = (F92 27) k) ∧ (¬ (0 : Int32) = 0 → ¬ (11 ≤ kd (F2 28 (c2 24 - 1)) ∧ kd (F2 28 (c2 24 - 1)) ≤ 12)))) cn55 In55 Fn55 := wh_55
                            obtain ⟨hfc55, hIn55, h_55⟩ := vh_55
                            obtain rfl : I92 = In55 := (funext (fun k => hfc55.2.1 k List.not_mem_nil)).symm
                            have hf55 : Fr [19, 23, 24, 26] [21, 22] [27, 28] cn In Fn cn55 I92 Fn55 := Fr.mo (Fr.tr hfr92 hfc55) (sbl rfl) (sbl rfl) (sbl rfl)
                            have hi_cn55 : Hid (CB cn55) := hIn55.b
                            have : cn55 20 = cn 20 := hf55.1 20 (nml rfl)
                            have : cn55 25 = cn 25 := hf55.1 25 (nml rfl)
                            have hq_cn55 := Hid.i (frq_19_23_24_26_0_1_2_46_57_58_62_63_75_83_44 hf55)
                            have : cn55 19 = (c92 19) := hfc55.1 19 (nml rfl)
                            have : cn55 20 = (c92 20) := hfc55.1 20 (nml rfl)
                            have : cn55 23 = (c92 23) := hfc55.1 23 (nml rfl)
                            have : cn55 25 = (c92 25) := hfc55.1 25 (nml rfl)
                            obtain ⟨h_55a, h_55b, h_55c, h_55d⟩ := h_55
                            have h_55f := h_55a.f
                            have hldc := h_55b.1
                            refine lv_aload_n hx hb dX12_readsCondition_198 rfl (lvA0 hl) ?_
                            refine lv_aload_n hx hb dX12_readsCondition_199 rfl (lvA0 hl) ?_
                            refine vp_callSi (runV_ra (As := []) (rest := [.ref (g 100)]) S (q_here l D cI cB cZ g cn55 I92 Fn55  hIn55 (by (first | omega | (have zz0 := Hid.u hi_c40; have zz1 := Hid.u hi_c92; have zz2 := Hid.u hi_cn; have zz3 := Hid.u hi_cn20; have zz4 := Hid.u hi_cn55; have zz5 := Hid.u hq_c40; have zz6 := Hid.u hq_c92; have zz7 := Hid.u hq_cn20; have zz8 := Hid.u hq_cn55; omega))) (by (first | omega | (have zz0 := Hid.u hi_c40; have zz1 := Hid.u hi_c92; have zz2 := Hid.u hi_cn; have zz3 := Hid.u hi_cn20; have zz4 := Hid.u hi_cn55; have zz5 := Hid.u hq_c40; have zz6 := Hid.u hq_c92; have zz7 := Hid.u hq_cn20; have zz8 := Hid.u hq_cn55; omega)))) kV_RX12_239 hK hP 0 rfl rfl rfl ⟨Nat.le_of_ble_eq_true rfl, Nat.le_of_ble_eq_true rfl⟩ ⟨Nat.le_of_ble_eq_true rfl, Nat.le_of_ble_eq_true rfl⟩ rfl hl.1 rfl (Nat.le_of_ble_eq_true rfl) dX12_readsCondition_200) (fun r_56 h_57 => ?_)
                            refine lv_bipush (v := 38) hx hb dX12_readsCondition_203 kbc_38 ?_
                            refine lv_icmp_ne (tgt := 213) hx hb dX12_readsCondition_205 rfl (fun c_58 => ?_) (fun c_58 => ?_)
                            ·
                              have tc_58 : (r_56.toInt : Int) ≠ 38 := fun q => c_58 (Int32.toInt_inj.mp q)
                              refine lv_bipush (v := 12) hx hb dX12_readsCondition_213 kbc_12 ?_
                              have hFc := free_all hD hS hA
                              refine va_callv (runV_a (As := [.int 12]) (rest := []) S (q_jumps l D cI cB cZ g cn55 I92 Fn55 12 H.size hIn55 (by (first | omega | (have zz0 := Hid.u hi_c40; have zz1 := Hid.u hi_c92; have zz2 := Hid.u hi_cn; have zz3 := Hid.u hi_cn20; have zz4 := Hid.u hi_cn55; have zz5 := Hid.u hq_c40; have zz6 := Hid.u hq_c92; have zz7 := Hid.u hq_cn20; have zz8 := Hid.u hq_cn55; omega))) (by (first | omega | (have zz0 := Hid.u hi_c40; have zz1 := Hid.u hi_c92; have zz2 := Hid.u hi_cn; have zz3 := Hid.u hi_cn20; have zz4 := Hid.u hi_cn55; have zz5 := Hid.u hq_c40; have zz6 := Hid.u hq_c92; have zz7 := Hid.u hq_cn20; have zz8 := Hid.u hq_cn55; omega)))) kV_RX12_309 hK hP hD 0 rfl rfl rfl ⟨Nat.le_of_ble_eq_true rfl, Nat.le_of_ble_eq_true rfl⟩ ⟨Nat.le_of_ble_eq_true rfl, Nat.le_of_ble_eq_true rfl⟩ rfl hl.1 rfl (Nat.le_of_ble_eq_true rfl) dX12_readsCondition_215) hS (fun q _ h => hFc q h) hFc (fun u t H1 locs ht hvm wh_60 hB hz1 hk1 hS => ?_)
                              obtain ⟨cn60, In60, Fn60⟩ := u
                              obtain ⟨hP1, hD1⟩ := hB
                              rw [ht] at hP1
                              have vh_60 : (fun c2 I2 F2 => (∀ k : Nat, k ∉ [] → I2 k = I92 k) ∧ (((True) ∧ (va_up (va_up (va_up cn55 24 ((cn55 24) + 1)) 23 ((cn55 23) + 1)) 19 ((cn55 19) + 1)) = c2 ∧ (va_up (va_up Fn55 28 (upd ((Fn55 28)) ((cn55 24)) (nI (1048576 * 12 + (cn55 23))))) 27 (upd ((Fn55 27)) ((cn55 23)) (nI (12 * 1048576 + 0)))) = F2))) cn60 In60 Fn60 := wh_60
                              obtain ⟨hI60_, vh_60⟩ := vh_60
                              obtain ⟨h_60, rfl, rfl⟩ := vh_60
                              obtain rfl : I92 = In60 := (funext (fun k => hI60_ k List.not_mem_nil)).symm
                              have hP : va_P D vwCl (wM cI cB cZ g (va_up (va_up (va_up cn55 24 ((cn55 24) + 1)) 23 ((cn55 23) + 1)) 19 ((cn55 19) + 1)) I92 (va_up (va_up Fn55 28 (upd ((Fn55 28)) ((cn55 24)) (nI (1048576 * 12 + (cn55 23))))) 27 (upd ((Fn55 27)) ((cn55 23)) (nI (12 * 1048576 + 0))))) H1 := hP1
                              have hD : va_D A (wM cI cB cZ g (va_up (va_up (va_up cn55 24 ((cn55 24) + 1)) 23 ((cn55 23) + 1)) 19 ((cn55 19) + 1)) I92 (va_up (va_up Fn55 28 (upd ((Fn55 28)) ((cn55 24)) (nI (1048576 * 12 + (cn55 23))))) 27 (upd ((Fn55 27)) ((cn55 23)) (nI (12 * 1048576 + 0))))) := hD1.weaken (fun _ _ _ h => hFc _ h)
                              generalize H1 = H at hP hS ⊢
                              refine lv_goto (tgt := 40) hx hb dX12_readsCondition_218 rfl ?_
                              exact ih40  (va_up (va_up (va_up cn55 24 ((cn55 24) + 1)) 23 ((cn55 23) + 1)) 19 ((cn55 19) + 1)) I92 (va_up (va_up Fn55 28 (upd ((Fn55 28)) ((cn55 24)) (nI (1048576 * 12 + (cn55 23))))) 27 (upd ((Fn55 27)) ((cn55 23)) (nI (12 * 1048576 + 0)))) _ _ (show cn 20 - ((cn55 19) + 1) < n40 by (first | omega | (have zz0 := Hid.u hi_c40; have zz1 := Hid.u hi_c92; have zz2 := Hid.u hi_cn; have zz3 := Hid.u hi_cn20; have zz4 := Hid.u hi_cn55; have zz5 := Hid.u hq_c40; have zz6 := Hid.u hq_c92; have zz7 := Hid.u hq_cn20; have zz8 := Hid.u hq_cn55; omega))) ⟨(Fr.mo (Fr.f 27 (Fr.f 28 (Fr.c 19 (Fr.c 23 (Fr.c 24 hf55))))) (sbl rfl) (sbl rfl) (sbl rfl)), (IM.fr (In := I92) hIn55 (Fr.f 27 (Fr.f 28 (Fr.c 19 (Fr.c 23 (Fr.c 24 Fr.rf))))) (by decide) (by decide)), (by have q := PBk.jump (k := 12) h_55a (by (first | omega | (have zz0 := Hid.u hi_c40; have zz1 := Hid.u hi_c92; have zz2 := Hid.u hi_cn; have zz3 := Hid.u hi_cn20; have zz4 := Hid.u hi_cn55; have zz5 := Hid.u hq_c40; have zz6 := Hid.u hq_c92; have zz7 := Hid.u hq_cn20; have zz8 := Hid.u hq_cn55; omega))) (by decide); exact q), (by have q := CK.jump (k := 12) (v := cn55 23) h_55b (by decide) (by (first | omega | (have zz0 := Hid.u hi_c40; have zz1 := Hid.u hi_c92; have zz2 := Hid.u hi_cn; have zz3 := Hid.u hi_cn20; have zz4 := Hid.u hi_cn55; have zz5 := Hid.u hq_c40; have zz6 := Hid.u hq_c92; have zz7 := Hid.u hq_cn20; have zz8 := Hid.u hq_cn55; omega))); exact q), (fun k hk => (upd_lt (by (first | omega | (have zz0 := Hid.u hi_c40; have zz1 := Hid.u hi_c92; have zz2 := Hid.u hi_cn; have zz3 := Hid.u hi_cn20; have zz4 := Hid.u hi_cn55; have zz5 := Hid.u hq_c40; have zz6 := Hid.u hq_c92; have zz7 := Hid.u hq_cn20; have zz8 := Hid.u hq_cn55; omega)))).trans ((h_55c k hk).trans (hx92_2 k hk))), (by show cn 19 ≤ cn55 19 + 1; (first | omega | (have zz0 := Hid.u hi_c40; have zz1 := Hid.u hi_c92; have zz2 := Hid.u hi_cn; have zz3 := Hid.u hi_cn20; have zz4 := Hid.u hi_cn55; have zz5 := Hid.u hq_c40; have zz6 := Hid.u hq_c92; have zz7 := Hid.u hq_cn20; have zz8 := Hid.u hq_cn55; omega)))⟩ hP hD hS ls (lv_sub hl [0] rfl)
                            ·
                              have tc_58 : (r_56.toInt : Int) = 38 := congrArg Int32.toInt c_58
                              refine lv_bipush (v := 11) hx hb dX12_readsCondition_208 kbc_11 ?_
                              refine lv_goto (tgt := 215) hx hb dX12_readsCondition_210 rfl ?_
                              have hFc := free_all hD hS hA
                              refine va_callv (runV_a (As := [.int 11]) (rest := []) S (q_jumps l D cI cB cZ g cn55 I92 Fn55 11 H.size hIn55 (by (first | omega | (have zz0 := Hid.u hi_c40; have zz1 := Hid.u hi_c92; have zz2 := Hid.u hi_cn; have zz3 := Hid.u hi_cn20; have zz4 := Hid.u hi_cn55; have zz5 := Hid.u hq_c40; have zz6 := Hid.u hq_c92; have zz7 := Hid.u hq_cn20; have zz8 := Hid.u hq_cn55; omega))) (by (first | omega | (have zz0 := Hid.u hi_c40; have zz1 := Hid.u hi_c92; have zz2 := Hid.u hi_cn; have zz3 := Hid.u hi_cn20; have zz4 := Hid.u hi_cn55; have zz5 := Hid.u hq_c40; have zz6 := Hid.u hq_c92; have zz7 := Hid.u hq_cn20; have zz8 := Hid.u hq_cn55; omega)))) kV_RX12_309 hK hP hD 0 rfl rfl rfl ⟨Nat.le_of_ble_eq_true rfl, Nat.le_of_ble_eq_true rfl⟩ ⟨Nat.le_of_ble_eq_true rfl, Nat.le_of_ble_eq_true rfl⟩ rfl hl.1 rfl (Nat.le_of_ble_eq_true rfl) dX12_readsCondition_215) hS (fun q _ h => hFc q h) hFc (fun u t H1 locs ht hvm wh_62 hB hz1 hk1 hS => ?_)
                              obtain ⟨cn62, In62, Fn62⟩ := u
                              obtain ⟨hP1, hD1⟩ := hB
                              rw [ht] at hP1
                              have vh_62 : (fun c2 I2 F2 => (∀ k : Nat, k ∉ [] → I2 k = I92 k) ∧ (((True) ∧ (va_up (va_up (va_up cn55 24 ((cn55 24) + 1)) 23 ((cn55 23) + 1)) 19 ((cn55 19) + 1)) = c2 ∧ (va_up (va_up Fn55 28 (upd ((Fn55 28)) ((cn55 24)) (nI (1048576 * 11 + (cn55 23))))) 27 (upd ((Fn55 27)) ((cn55 23)) (nI (11 * 1048576 + 0)))) = F2))) cn62 In62 Fn62 := wh_62
                              obtain ⟨hI62_, vh_62⟩ := vh_62
                              obtain ⟨h_62, rfl, rfl⟩ := vh_62
                              obtain rfl : I92 = In62 := (funext (fun k => hI62_ k List.not_mem_nil)).symm
                              have hP : va_P D vwCl (wM cI cB cZ g (va_up (va_up (va_up cn55 24 ((cn55 24) + 1)) 23 ((cn55 23) + 1)) 19 ((cn55 19) + 1)) I92 (va_up (va_up Fn55 28 (upd ((Fn55 28)) ((cn55 24)) (nI (1048576 * 11 + (cn55 23))))) 27 (upd ((Fn55 27)) ((cn55 23)) (nI (11 * 1048576 + 0))))) H1 := hP1
                              have hD : va_D A (wM cI cB cZ g (va_up (va_up (va_up cn55 24 ((cn55 24) + 1)) 23 ((cn55 23) + 1)) 19 ((cn55 19) + 1)) I92 (va_up (va_up Fn55 28 (upd ((Fn55 28)) ((cn55 24)) (nI (1048576 * 11 + (cn55 23))))) 27 (upd ((Fn55 27)) ((cn55 23)) (nI (11 * 1048576 + 0))))) := hD1.weaken (fun _ _ _ h => hFc _ h)
                              generalize H1 = H at hP hS ⊢
                              refine lv_goto (tgt := 40) hx hb dX12_readsCondition_218 rfl ?_
                              exact ih40  (va_up (va_up (va_up cn55 24 ((cn55 24) + 1)) 23 ((cn55 23) + 1)) 19 ((cn55 19) + 1)) I92 (va_up (va_up Fn55 28 (upd ((Fn55 28)) ((cn55 24)) (nI (1048576 * 11 + (cn55 23))))) 27 (upd ((Fn55 27)) ((cn55 23)) (nI (11 * 1048576 + 0)))) _ _ (show cn 20 - ((cn55 19) + 1) < n40 by (first | omega | (have zz0 := Hid.u hi_c40; have zz1 := Hid.u hi_c92; have zz2 := Hid.u hi_cn; have zz3 := Hid.u hi_cn20; have zz4 := Hid.u hi_cn55; have zz5 := Hid.u hq_c40; have zz6 := Hid.u hq_c92; have zz7 := Hid.u hq_cn20; have zz8 := Hid.u hq_cn55; omega))) ⟨(Fr.mo (Fr.f 27 (Fr.f 28 (Fr.c 19 (Fr.c 23 (Fr.c 24 hf55))))) (sbl rfl) (sbl rfl) (sbl rfl)), (IM.fr (In := I92) hIn55 (Fr.f 27 (Fr.f 28 (Fr.c 19 (Fr.c 23 (Fr.c 24 Fr.rf))))) (by decide) (by decide)), (by have q := PBk.jump (k := 11) h_55a (by (first | omega | (have zz0 := Hid.u hi_c40; have zz1 := Hid.u hi_c92; have zz2 := Hid.u hi_cn; have zz3 := Hid.u hi_cn20; have zz4 := Hid.u hi_cn55; have zz5 := Hid.u hq_c40; have zz6 := Hid.u hq_c92; have zz7 := Hid.u hq_cn20; have zz8 := Hid.u hq_cn55; omega))) (by decide); exact q), (by have q := CK.jump (k := 11) (v := cn55 23) h_55b (by decide) (by (first | omega | (have zz0 := Hid.u hi_c40; have zz1 := Hid.u hi_c92; have zz2 := Hid.u hi_cn; have zz3 := Hid.u hi_cn20; have zz4 := Hid.u hi_cn55; have zz5 := Hid.u hq_c40; have zz6 := Hid.u hq_c92; have zz7 := Hid.u hq_cn20; have zz8 := Hid.u hq_cn55; omega))); exact q), (fun k hk => (upd_lt (by (first | omega | (have zz0 := Hid.u hi_c40; have zz1 := Hid.u hi_c92; have zz2 := Hid.u hi_cn; have zz3 := Hid.u hi_cn20; have zz4 := Hid.u hi_cn55; have zz5 := Hid.u hq_c40; have zz6 := Hid.u hq_c92; have zz7 := Hid.u hq_cn20; have zz8 := Hid.u hq_cn55; omega)))).trans ((h_55c k hk).trans (hx92_2 k hk))), (by show cn 19 ≤ cn55 19 + 1; (first | omega | (have zz0 := Hid.u hi_c40; have zz1 := Hid.u hi_c92; have zz2 := Hid.u hi_cn; have zz3 := Hid.u hi_cn20; have zz4 := Hid.u hi_cn55; have zz5 := Hid.u hq_c40; have zz6 := Hid.u hq_c92; have zz7 := Hid.u hq_cn20; have zz8 := Hid.u hq_cn55; omega)))⟩ hP hD hS ls (lv_sub hl [0] rfl)
                          ·
                            have tc_53 : (r_51.toInt : Int) = 124 := congrArg Int32.toInt c_53
                            refine lv_iconst (v := 1) hx hb (oc_4 190 (aq_20 shX12_readsCondition_170)) kic_1 ?_
                            refine lv_goto (tgt := 195) hx hb (oc_167 191 (aq_21 shX12_readsCondition_170) sgw_0_4) rfl ?_
                            have hFc := free_all hD hS hA
                            refine va_callv (runV_a (As := [.int 1]) (rest := []) S (q_lands l D cI cB cZ g c92 I92 F92 (cn 23) 0 1 H.size hI92 hx92_0 hx92_1) kV_RX12_306 hK hP hD 0 rfl rfl rfl ⟨Nat.le_of_ble_eq_true rfl, Nat.le_of_ble_eq_true rfl⟩ ⟨Nat.le_of_ble_eq_true rfl, Nat.le_of_ble_eq_true rfl⟩ rfl hl.1 rfl (Nat.le_of_ble_eq_true rfl) dX12_readsCondition_195) hS (fun q _ h => hFc q h) hFc (fun u t H1 locs ht hvm wh_64 hB hz1 hk1 hS => ?_)
                            obtain ⟨cn64, In64, Fn64⟩ := u
                            obtain ⟨hP1, hD1⟩ := hB
                            rw [ht] at hP1
                            have hP : va_P D vwCl (wM cI cB cZ g cn64 In64 Fn64) H1 := hP1
                            have hD : va_D A (wM cI cB cZ g cn64 In64 Fn64) := hD1.weaken (fun _ _ _ h => hFc _ h)
                            generalize H1 = H at hP hS ⊢
                            have vh_64 : (fun c2 I2 F2 => Fr [24] [] [27] c92 I92 F92 c2 I2 F2 ∧ IM c2 F2 ∧ ((PBk (c2 19) (c2 20) (c2 23) (c2 24) (F2 27) (F2 28) (cn 23) 1 0) ∧ (CK (c2 24) (F2 28)) ∧ (∀ k : Nat, k < (cn 23) → F2 27 k = (F92 27) k) ∧ (¬ (1 : Int32) = 0 → ¬ (11 ≤ kd (F2 28 (c2 24 - 1)) ∧ kd (F2 28 (c2 24 - 1)) ≤ 12)))) cn64 In64 Fn64 := wh_64
                            obtain ⟨hfc64, hIn64, h_64⟩ := vh_64
                            obtain rfl : I92 = In64 := (funext (fun k => hfc64.2.1 k List.not_mem_nil)).symm
                            have hf64 : Fr [19, 23, 24, 26] [21, 22] [27, 28] cn In Fn cn64 I92 Fn64 := Fr.mo (Fr.tr hfr92 hfc64) (sbl rfl) (sbl rfl) (sbl rfl)
                            have hi_cn64 : Hid (CB cn64) := hIn64.b
                            have : cn64 20 = cn 20 := hf64.1 20 (nml rfl)
                            have : cn64 25 = cn 25 := hf64.1 25 (nml rfl)
                            have hq_cn64 := Hid.i (frq_19_23_24_26_0_1_2_46_57_58_62_63_75_83_44 hf64)
                            have : cn64 19 = (c92 19) := hfc64.1 19 (nml rfl)
                            have : cn64 20 = (c92 20) := hfc64.1 20 (nml rfl)
                            have : cn64 23 = (c92 23) := hfc64.1 23 (nml rfl)
                            have : cn64 25 = (c92 25) := hfc64.1 25 (nml rfl)
                            obtain ⟨h_64a, h_64b, h_64c, h_64d⟩ := h_64
                            have h_64f := h_64a.f
                            have hldc := h_64b.1
                            refine lv_aload_n hx hb dX12_readsCondition_198 rfl (lvA0 hl) ?_
                            refine lv_aload_n hx hb dX12_readsCondition_199 rfl (lvA0 hl) ?_
                            refine vp_callSi (runV_ra (As := []) (rest := [.ref (g 100)]) S (q_here l D cI cB cZ g cn64 I92 Fn64  hIn64 (by (first | omega | (have zz0 := Hid.u hi_c40; have zz1 := Hid.u hi_c92; have zz2 := Hid.u hi_cn; have zz3 := Hid.u hi_cn20; have zz4 := Hid.u hi_cn64; have zz5 := Hid.u hq_c40; have zz6 := Hid.u hq_c92; have zz7 := Hid.u hq_cn20; have zz8 := Hid.u hq_cn64; omega))) (by (first | omega | (have zz0 := Hid.u hi_c40; have zz1 := Hid.u hi_c92; have zz2 := Hid.u hi_cn; have zz3 := Hid.u hi_cn20; have zz4 := Hid.u hi_cn64; have zz5 := Hid.u hq_c40; have zz6 := Hid.u hq_c92; have zz7 := Hid.u hq_cn20; have zz8 := Hid.u hq_cn64; omega)))) kV_RX12_239 hK hP 0 rfl rfl rfl ⟨Nat.le_of_ble_eq_true rfl, Nat.le_of_ble_eq_true rfl⟩ ⟨Nat.le_of_ble_eq_true rfl, Nat.le_of_ble_eq_true rfl⟩ rfl hl.1 rfl (Nat.le_of_ble_eq_true rfl) dX12_readsCondition_200) (fun r_65 h_66 => ?_)
                            refine lv_bipush (v := 38) hx hb dX12_readsCondition_203 kbc_38 ?_
                            refine lv_icmp_ne (tgt := 213) hx hb dX12_readsCondition_205 rfl (fun c_67 => ?_) (fun c_67 => ?_)
                            ·
                              have tc_67 : (r_65.toInt : Int) ≠ 38 := fun q => c_67 (Int32.toInt_inj.mp q)
                              refine lv_bipush (v := 12) hx hb dX12_readsCondition_213 kbc_12 ?_
                              have hFc := free_all hD hS hA
                              refine va_callv (runV_a (As := [.int 12]) (rest := []) S (q_jumps l D cI cB cZ g cn64 I92 Fn64 12 H.size hIn64 (by (first | omega | (have zz0 := Hid.u hi_c40; have zz1 := Hid.u hi_c92; have zz2 := Hid.u hi_cn; have zz3 := Hid.u hi_cn20; have zz4 := Hid.u hi_cn64; have zz5 := Hid.u hq_c40; have zz6 := Hid.u hq_c92; have zz7 := Hid.u hq_cn20; have zz8 := Hid.u hq_cn64; omega))) (by (first | omega | (have zz0 := Hid.u hi_c40; have zz1 := Hid.u hi_c92; have zz2 := Hid.u hi_cn; have zz3 := Hid.u hi_cn20; have zz4 := Hid.u hi_cn64; have zz5 := Hid.u hq_c40; have zz6 := Hid.u hq_c92; have zz7 := Hid.u hq_cn20; have zz8 := Hid.u hq_cn64; omega)))) kV_RX12_309 hK hP hD 0 rfl rfl rfl ⟨Nat.le_of_ble_eq_true rfl, Nat.le_of_ble_eq_true rfl⟩ ⟨Nat.le_of_ble_eq_true rfl, Nat.le_of_ble_eq_true rfl⟩ rfl hl.1 rfl (Nat.le_of_ble_eq_true rfl) dX12_readsCondition_215) hS (fun q _ h => hFc q h) hFc (fun u t H1 locs ht hvm wh_69 hB hz1 hk1 hS => ?_)
                              obtain ⟨cn69, In69, Fn69⟩ := u
                              obtain ⟨hP1, hD1⟩ := hB
                              rw [ht] at hP1
                              have vh_69 : (fun c2 I2 F2 => (∀ k : Nat, k ∉ [] → I2 k = I92 k) ∧ (((True) ∧ (va_up (va_up (va_up cn64 24 ((cn64 24) + 1)) 23 ((cn64 23) + 1)) 19 ((cn64 19) + 1)) = c2 ∧ (va_up (va_up Fn64 28 (upd ((Fn64 28)) ((cn64 24)) (nI (1048576 * 12 + (cn64 23))))) 27 (upd ((Fn64 27)) ((cn64 23)) (nI (12 * 1048576 + 0)))) = F2))) cn69 In69 Fn69 := wh_69
                              obtain ⟨hI69_, vh_69⟩ := vh_69
                              obtain ⟨h_69, rfl, rfl⟩ := vh_69
                              obtain rfl : I92 = In69 := (funext (fun k => hI69_ k List.not_mem_nil)).symm
                              have hP : va_P D vwCl (wM cI cB cZ g (va_up (va_up (va_up cn64 24 ((cn64 24) + 1)) 23 ((cn64 23) + 1)) 19 ((cn64 19) + 1)) I92 (va_up (va_up Fn64 28 (upd ((Fn64 28)) ((cn64 24)) (nI (1048576 * 12 + (cn64 23))))) 27 (upd ((Fn64 27)) ((cn64 23)) (nI (12 * 1048576 + 0))))) H1 := hP1
                              have hD : va_D A (wM cI cB cZ g (va_up (va_up (va_up cn64 24 ((cn64 24) + 1)) 23 ((cn64 23) + 1)) 19 ((cn64 19) + 1)) I92 (va_up (va_up Fn64 28 (upd ((Fn64 28)) ((cn64 24)) (nI (1048576 * 12 + (cn64 23))))) 27 (upd ((Fn64 27)) ((cn64 23)) (nI (12 * 1048576 + 0))))) := hD1.weaken (fun _ _ _ h => hFc _ h)
                              generalize H1 = H at hP hS ⊢
                              refine lv_goto (tgt := 40) hx hb dX12_readsCondition_218 rfl ?_
                              exact ih40  (va_up (va_up (va_up cn64 24 ((cn64 24) + 1)) 23 ((cn64 23) + 1)) 19 ((cn64 19) + 1)) I92 (va_up (va_up Fn64 28 (upd ((Fn64 28)) ((cn64 24)) (nI (1048576 * 12 + (cn64 23))))) 27 (upd ((Fn64 27)) ((cn64 23)) (nI (12 * 1048576 + 0)))) _ _ (show cn 20 - ((cn64 19) + 1) < n40 by (first | omega | (have zz0 := Hid.u hi_c40; have zz1 := Hid.u hi_c92; have zz2 := Hid.u hi_cn; have zz3 := Hid.u hi_cn20; have zz4 := Hid.u hi_cn64; have zz5 := Hid.u hq_c40; have zz6 := Hid.u hq_c92; have zz7 := Hid.u hq_cn20; have zz8 := Hid.u hq_cn64; omega))) ⟨(Fr.mo (Fr.f 27 (Fr.f 28 (Fr.c 19 (Fr.c 23 (Fr.c 24 hf64))))) (sbl rfl) (sbl rfl) (sbl rfl)), (IM.fr (In := I92) hIn64 (Fr.f 27 (Fr.f 28 (Fr.c 19 (Fr.c 23 (Fr.c 24 Fr.rf))))) (by decide) (by decide)), (by have q := PBk.jump (k := 12) h_64a (by (first | omega | (have zz0 := Hid.u hi_c40; have zz1 := Hid.u hi_c92; have zz2 := Hid.u hi_cn; have zz3 := Hid.u hi_cn20; have zz4 := Hid.u hi_cn64; have zz5 := Hid.u hq_c40; have zz6 := Hid.u hq_c92; have zz7 := Hid.u hq_cn20; have zz8 := Hid.u hq_cn64; omega))) (by decide); exact q), (by have q := CK.jump (k := 12) (v := cn64 23) h_64b (by decide) (by (first | omega | (have zz0 := Hid.u hi_c40; have zz1 := Hid.u hi_c92; have zz2 := Hid.u hi_cn; have zz3 := Hid.u hi_cn20; have zz4 := Hid.u hi_cn64; have zz5 := Hid.u hq_c40; have zz6 := Hid.u hq_c92; have zz7 := Hid.u hq_cn20; have zz8 := Hid.u hq_cn64; omega))); exact q), (fun k hk => (upd_lt (by (first | omega | (have zz0 := Hid.u hi_c40; have zz1 := Hid.u hi_c92; have zz2 := Hid.u hi_cn; have zz3 := Hid.u hi_cn20; have zz4 := Hid.u hi_cn64; have zz5 := Hid.u hq_c40; have zz6 := Hid.u hq_c92; have zz7 := Hid.u hq_cn20; have zz8 := Hid.u hq_cn64; omega)))).trans ((h_64c k hk).trans (hx92_2 k hk))), (by show cn 19 ≤ cn64 19 + 1; (first | omega | (have zz0 := Hid.u hi_c40; have zz1 := Hid.u hi_c92; have zz2 := Hid.u hi_cn; have zz3 := Hid.u hi_cn20; have zz4 := Hid.u hi_cn64; have zz5 := Hid.u hq_c40; have zz6 := Hid.u hq_c92; have zz7 := Hid.u hq_cn20; have zz8 := Hid.u hq_cn64; omega)))⟩ hP hD hS ls (lv_sub hl [0] rfl)
                            ·
                              have tc_67 : (r_65.toInt : Int) = 38 := congrArg Int32.toInt c_67
                              refine lv_bipush (v := 11) hx hb dX12_readsCondition_208 kbc_11 ?_
                              refine lv_goto (tgt := 215) hx hb dX12_readsCondition_210 rfl ?_
                              have hFc := free_all hD hS hA
                              refine va_callv (runV_a (As := [.int 11]) (rest := []) S (q_jumps l D cI cB cZ g cn64 I92 Fn64 11 H.size hIn64 (by (first | omega | (have zz0 := Hid.u hi_c40; have zz1 := Hid.u hi_c92; have zz2 := Hid.u hi_cn; have zz3 := Hid.u hi_cn20; have zz4 := Hid.u hi_cn64; have zz5 := Hid.u hq_c40; have zz6 := Hid.u hq_c92; have zz7 := Hid.u hq_cn20; have zz8 := Hid.u hq_cn64; omega))) (by (first | omega | (have zz0 := Hid.u hi_c40; have zz1 := Hid.u hi_c92; have zz2 := Hid.u hi_cn; have zz3 := Hid.u hi_cn20; have zz4 := Hid.u hi_cn64; have zz5 := Hid.u hq_c40; have zz6 := Hid.u hq_c92; have zz7 := Hid.u hq_cn20; have zz8 := Hid.u hq_cn64; omega)))) kV_RX12_309 hK hP hD 0 rfl rfl rfl ⟨Nat.le_of_ble_eq_true rfl, Nat.le_of_ble_eq_true rfl⟩ ⟨Nat.le_of_ble_eq_true rfl, Nat.le_of_ble_eq_true rfl⟩ rfl hl.1 rfl (Nat.le_of_ble_eq_true rfl) dX12_readsCondition_215) hS (fun q _ h => hFc q h) hFc (fun u t H1 locs ht hvm wh_71 hB hz1 hk1 hS => ?_)
                              obtain ⟨cn71, In71, Fn71⟩ := u
                              obtain ⟨hP1, hD1⟩ := hB
                              rw [ht] at hP1
                              have vh_71 : (fun c2 I2 F2 => (∀ k : Nat, k ∉ [] → I2 k = I92 k) ∧ (((True) ∧ (va_up (va_up (va_up cn64 24 ((cn64 24) + 1)) 23 ((cn64 23) + 1)) 19 ((cn64 19) + 1)) = c2 ∧ (va_up (va_up Fn64 28 (upd ((Fn64 28)) ((cn64 24)) (nI (1048576 * 11 + (cn64 23))))) 27 (upd ((Fn64 27)) ((cn64 23)) (nI (11 * 1048576 + 0)))) = F2))) cn71 In71 Fn71 := wh_71
                              obtain ⟨hI71_, vh_71⟩ := vh_71
                              obtain ⟨h_71, rfl, rfl⟩ := vh_71
                              obtain rfl : I92 = In71 := (funext (fun k => hI71_ k List.not_mem_nil)).symm
                              have hP : va_P D vwCl (wM cI cB cZ g (va_up (va_up (va_up cn64 24 ((cn64 24) + 1)) 23 ((cn64 23) + 1)) 19 ((cn64 19) + 1)) I92 (va_up (va_up Fn64 28 (upd ((Fn64 28)) ((cn64 24)) (nI (1048576 * 11 + (cn64 23))))) 27 (upd ((Fn64 27)) ((cn64 23)) (nI (11 * 1048576 + 0))))) H1 := hP1
                              have hD : va_D A (wM cI cB cZ g (va_up (va_up (va_up cn64 24 ((cn64 24) + 1)) 23 ((cn64 23) + 1)) 19 ((cn64 19) + 1)) I92 (va_up (va_up Fn64 28 (upd ((Fn64 28)) ((cn64 24)) (nI (1048576 * 11 + (cn64 23))))) 27 (upd ((Fn64 27)) ((cn64 23)) (nI (11 * 1048576 + 0))))) := hD1.weaken (fun _ _ _ h => hFc _ h)
                              generalize H1 = H at hP hS ⊢
                              refine lv_goto (tgt := 40) hx hb dX12_readsCondition_218 rfl ?_
                              exact ih40  (va_up (va_up (va_up cn64 24 ((cn64 24) + 1)) 23 ((cn64 23) + 1)) 19 ((cn64 19) + 1)) I92 (va_up (va_up Fn64 28 (upd ((Fn64 28)) ((cn64 24)) (nI (1048576 * 11 + (cn64 23))))) 27 (upd ((Fn64 27)) ((cn64 23)) (nI (11 * 1048576 + 0)))) _ _ (show cn 20 - ((cn64 19) + 1) < n40 by (first | omega | (have zz0 := Hid.u hi_c40; have zz1 := Hid.u hi_c92; have zz2 := Hid.u hi_cn; have zz3 := Hid.u hi_cn20; have zz4 := Hid.u hi_cn64; have zz5 := Hid.u hq_c40; have zz6 := Hid.u hq_c92; have zz7 := Hid.u hq_cn20; have zz8 := Hid.u hq_cn64; omega))) ⟨(Fr.mo (Fr.f 27 (Fr.f 28 (Fr.c 19 (Fr.c 23 (Fr.c 24 hf64))))) (sbl rfl) (sbl rfl) (sbl rfl)), (IM.fr (In := I92) hIn64 (Fr.f 27 (Fr.f 28 (Fr.c 19 (Fr.c 23 (Fr.c 24 Fr.rf))))) (by decide) (by decide)), (by have q := PBk.jump (k := 11) h_64a (by (first | omega | (have zz0 := Hid.u hi_c40; have zz1 := Hid.u hi_c92; have zz2 := Hid.u hi_cn; have zz3 := Hid.u hi_cn20; have zz4 := Hid.u hi_cn64; have zz5 := Hid.u hq_c40; have zz6 := Hid.u hq_c92; have zz7 := Hid.u hq_cn20; have zz8 := Hid.u hq_cn64; omega))) (by decide); exact q), (by have q := CK.jump (k := 11) (v := cn64 23) h_64b (by decide) (by (first | omega | (have zz0 := Hid.u hi_c40; have zz1 := Hid.u hi_c92; have zz2 := Hid.u hi_cn; have zz3 := Hid.u hi_cn20; have zz4 := Hid.u hi_cn64; have zz5 := Hid.u hq_c40; have zz6 := Hid.u hq_c92; have zz7 := Hid.u hq_cn20; have zz8 := Hid.u hq_cn64; omega))); exact q), (fun k hk => (upd_lt (by (first | omega | (have zz0 := Hid.u hi_c40; have zz1 := Hid.u hi_c92; have zz2 := Hid.u hi_cn; have zz3 := Hid.u hi_cn20; have zz4 := Hid.u hi_cn64; have zz5 := Hid.u hq_c40; have zz6 := Hid.u hq_c92; have zz7 := Hid.u hq_cn20; have zz8 := Hid.u hq_cn64; omega)))).trans ((h_64c k hk).trans (hx92_2 k hk))), (by show cn 19 ≤ cn64 19 + 1; (first | omega | (have zz0 := Hid.u hi_c40; have zz1 := Hid.u hi_c92; have zz2 := Hid.u hi_cn; have zz3 := Hid.u hi_cn20; have zz4 := Hid.u hi_cn64; have zz5 := Hid.u hq_c40; have zz6 := Hid.u hq_c92; have zz7 := Hid.u hq_cn20; have zz8 := Hid.u hq_cn64; omega)))⟩ hP hD hS ls (lv_sub hl [0] rfl)
                        ·
                          have tc_50 : (r_48.toInt : Int) ≠ 124 := fun q => c_50 (Int32.toInt_inj.mp q)
                          refine lv_aload_n hx hb (oc_42 170 shX12_readsCondition_170) rfl (lvA0 hl) ?_
                          refine lv_iconst (v := 1) hx hb (oc_4 171 (aq_1 shX12_readsCondition_170)) kic_1 ?_
                          refine lv_aload_n hx hb (oc_42 172 (aq_2 shX12_readsCondition_170)) rfl (lvA0 hl) ?_
                          refine gM_233 S hK hP (v := .int (nI (c92 19))) rfl (oc_180 173 (aq_3 shX12_readsCondition_170) uw_0_233) ?_
                          have hFc := free_all hD hS hA
                          refine va_calli (runV_a (As := [.int 1, .int (nI (c92 19))]) (rest := []) S (q_wrong l D cI cB cZ g c92 I92 F92 1 (nI (c92 19)) H.size hI92) kV_RX12_246 hK hP hD 0 rfl rfl rfl ⟨Nat.le_of_ble_eq_true rfl, Nat.le_of_ble_eq_true rfl⟩ ⟨Nat.le_of_ble_eq_true rfl, Nat.le_of_ble_eq_true rfl⟩ rfl hl.1 rfl (Nat.le_of_ble_eq_true rfl) (oc_182 176 (aq_6 shX12_readsCondition_170) uw_0_246)) hS (fun q _ h => hFc q h) hFc (fun r_72 u t H1 locs ht hvm wh_73 hB hz1 hk1 hS => ?_)
                          obtain ⟨cn73, In73, Fn73⟩ := u
                          obtain ⟨hP1, hD1⟩ := hB
                          rw [ht] at hP1
                          have vh_73 : (fun r c2 I2 F2 => (∀ k : Nat, k ∉ [21] → I2 k = I92 k) ∧ ((r = 0 ∧ (True) ∧ c92 = c2 ∧ F92 = F2))) r_72 cn73 In73 Fn73 := wh_73
                          obtain ⟨hI73_, vh_73⟩ := vh_73
                          obtain ⟨rfl, h_73, rfl, rfl⟩ := vh_73
                          have hf73 : Fr [19, 23, 24, 26] [21, 22] [27, 28] cn In Fn c92 In73 F92 := Fr.mo (Fr.tr hfr92 (show Fr [] [21] [] c92 I92 F92 c92 In73 F92 from ⟨fun _ _ => rfl, hI73_, fun _ _ => rfl⟩)) (sbl rfl) (sbl rfl) (sbl rfl)
                          have hP : va_P D vwCl (wM cI cB cZ g c92 In73 F92) H1 := hP1
                          have hD : va_D A (wM cI cB cZ g c92 In73 F92) := hD1.weaken (fun _ _ _ h => hFc _ h)
                          generalize H1 = H at hP hS ⊢
                          exact W.zret (v := 0) hx hb hr rfl (fun t ht hW => ⟨⟨0, (c92, In73, F92), rfl, ⟨(Fr.mo hf73 (sbl rfl) (sbl rfl) (sbl rfl)), hI92, (by show 0 = 0 ∨ (0 = 1 ∧ SegOK (F92 27) 0 (cn 23) (c92 23) ∧ cn 23 ≤ c92 23 ∧ c92 23 ≤ c92 19 ∧ (cn 19 ≤ c92 19 ∧ c92 19 ≤ cn 20) ∧ (∀ k : Nat, k < cn 23 → F92 27 k = Fn 27 k)); exact Or.inl rfl)⟩, by rw [ht]; exact hP, hD⟩, hS.F ht⟩) hS.2.2 (oc_172 179 (aq_9 shX12_readsCondition_170))
                    ·
                      have tc_23 : (r_21.toInt : Int) = 41 := congrArg Int32.toInt c_23
                      refine lv_aload_n hx hb (oc_42 101 (aq_3 shX12_readsCondition_98)) rfl (lvA0 hl) ?_
                      refine lv_iconst (v := 1) hx hb (oc_4 102 (aq_4 shX12_readsCondition_98)) kic_1 ?_
                      have hFc := free_all hD hS hA
                      refine va_callv (runV_a (As := [.int 1]) (rest := []) S (q_lands l D cI cB cZ g c92 I92 F92 (cn 23) 0 1 H.size hI92 hx92_0 hx92_1) kV_RX12_306 hK hP hD 0 rfl rfl rfl ⟨Nat.le_of_ble_eq_true rfl, Nat.le_of_ble_eq_true rfl⟩ ⟨Nat.le_of_ble_eq_true rfl, Nat.le_of_ble_eq_true rfl⟩ rfl hl.1 rfl (Nat.le_of_ble_eq_true rfl) (oc_182 103 (aq_5 shX12_readsCondition_98) uw_1_50)) hS (fun q _ h => hFc q h) hFc (fun u t H1 locs ht hvm wh_75 hB hz1 hk1 hS => ?_)
                      obtain ⟨cn75, In75, Fn75⟩ := u
                      obtain ⟨hP1, hD1⟩ := hB
                      rw [ht] at hP1
                      have hP : va_P D vwCl (wM cI cB cZ g cn75 In75 Fn75) H1 := hP1
                      have hD : va_D A (wM cI cB cZ g cn75 In75 Fn75) := hD1.weaken (fun _ _ _ h => hFc _ h)
                      generalize H1 = H at hP hS ⊢
                      have vh_75 : (fun c2 I2 F2 => Fr [24] [] [27] c92 I92 F92 c2 I2 F2 ∧ IM c2 F2 ∧ ((PBk (c2 19) (c2 20) (c2 23) (c2 24) (F2 27) (F2 28) (cn 23) 1 0) ∧ (CK (c2 24) (F2 28)) ∧ (∀ k : Nat, k < (cn 23) → F2 27 k = (F92 27) k) ∧ (¬ (1 : Int32) = 0 → ¬ (11 ≤ kd (F2 28 (c2 24 - 1)) ∧ kd (F2 28 (c2 24 - 1)) ≤ 12)))) cn75 In75 Fn75 := wh_75
                      obtain ⟨hfc75, hIn75, h_75⟩ := vh_75
                      obtain rfl : I92 = In75 := (funext (fun k => hfc75.2.1 k List.not_mem_nil)).symm
                      have hf75 : Fr [19, 23, 24, 26] [21, 22] [27, 28] cn In Fn cn75 I92 Fn75 := Fr.mo (Fr.tr hfr92 hfc75) (sbl rfl) (sbl rfl) (sbl rfl)
                      have hi_cn75 : Hid (CB cn75) := hIn75.b
                      have : cn75 20 = cn 20 := hf75.1 20 (nml rfl)
                      have : cn75 25 = cn 25 := hf75.1 25 (nml rfl)
                      have hq_cn75 := Hid.i (frq_19_23_24_26_0_1_2_46_57_58_62_63_75_83_44 hf75)
                      have : cn75 19 = (c92 19) := hfc75.1 19 (nml rfl)
                      have : cn75 20 = (c92 20) := hfc75.1 20 (nml rfl)
                      have : cn75 23 = (c92 23) := hfc75.1 23 (nml rfl)
                      have : cn75 25 = (c92 25) := hfc75.1 25 (nml rfl)
                      obtain ⟨h_75a, h_75b, h_75c, h_75d⟩ := h_75
                      have h_75f := h_75a.f
                      have hldc := h_75b.1
                      refine lv_aload_n hx hb (oc_42 106 (aq_8 shX12_readsCondition_98)) rfl (lvA0 hl) ?_
                      refine lv_aload_n hx hb (oc_42 107 (aq_9 shX12_readsCondition_98)) rfl (lvA0 hl) ?_
                      refine gM_264 S hK hP (v := .int (nI (cn75 24))) rfl (oc_180 108 (aq_10 shX12_readsCondition_98) uw_1_8) ?_
                      refine lv_iconst (v := 1) hx hb (oc_4 111 (aq_13 shX12_readsCondition_98)) kic_1 ?_
                      refine lv_isub hx hb (oc_100 112 (aq_14 shX12_readsCondition_98)) ?_
                      refine lv_topi (fun y_76 ey_76 => ?_)
                      obtain rfl : y_76 = (nI ((cn75 24) - 1)) := ey_76.trans (nI_sub (b := 1) (by (first | omega | (have zz0 := Hid.u hi_c40; have zz1 := Hid.u hi_c92; have zz2 := Hid.u hi_cn; have zz3 := Hid.u hi_cn20; have zz4 := Hid.u hi_cn75; have zz5 := Hid.u hq_c40; have zz6 := Hid.u hq_c92; have zz7 := Hid.u hq_cn20; have zz8 := Hid.u hq_cn75; omega))))
                      refine pM_264 S hK hP hD hS (a := ((cn75 24) - 1)) (cn2 := (va_up cn75 24 ((cn75 24) - 1))) rfl rfl (oc_181 113 (aq_15 shX12_readsCondition_98) uw_1_8) (fun H locs hP hD hS => ?_)
                      refine lv_aload_n hx hb (oc_42 116 (aq_18 shX12_readsCondition_98)) rfl (lvA0 hl) ?_
                      refine lv_aload_n hx hb (oc_42 117 (aq_19 shX12_readsCondition_98)) rfl (lvA0 hl) ?_
                      refine gM_261 S hK hP (v := .int (I92 22)) rfl (oc_180 118 (aq_20 shX12_readsCondition_98) uw_1_5) ?_
                      refine lv_iconst (v := 1) hx hb (oc_4 121 (aq_23 shX12_readsCondition_98)) kic_1 ?_
                      refine lv_isub hx hb (oc_100 122 shX12_readsCondition_122) ?_
                      refine pM_261 S hK hP hD hS (In2 := (va_up I92 22 ((I92 22) - 1))) rfl (oc_181 123 (aq_1 shX12_readsCondition_122) uw_1_5) (fun H locs hP hD hS => ?_)
                      refine lv_aload_n hx hb (oc_42 126 (aq_4 shX12_readsCondition_122)) rfl (lvA0 hl) ?_
                      refine lv_aload_n hx hb (oc_42 127 (aq_5 shX12_readsCondition_122)) rfl (lvA0 hl) ?_
                      refine gM_233 S hK hP (v := .int (nI (cn75 19))) rfl (oc_180 128 (aq_6 shX12_readsCondition_122) uw_0_233) ?_
                      refine lv_iconst (v := 1) hx hb (oc_4 131 (aq_9 shX12_readsCondition_122)) kic_1 ?_
                      refine lv_iadd hx hb (oc_96 132 (aq_10 shX12_readsCondition_122)) ?_
                      refine lv_topi (fun y_77 ey_77 => ?_)
                      obtain rfl : y_77 = (nI ((cn75 19) + 1)) := ey_77.trans (nI_add (cn75 19) 1)
                      refine pM_233 S hK hP hD hS (a := ((cn75 19) + 1)) (cn2 := (va_up (va_up cn75 24 ((cn75 24) - 1)) 19 ((cn75 19) + 1))) rfl rfl (oc_181 133 (aq_11 shX12_readsCondition_122) uw_0_233) (fun H locs hP hD hS => ?_)
                      refine lv_aload_n hx hb (oc_42 136 (aq_14 shX12_readsCondition_122)) rfl (lvA0 hl) ?_
                      refine gM_264 S hK hP (v := .int (nI ((cn75 24) - 1))) rfl (oc_180 137 (aq_15 shX12_readsCondition_122) uw_1_8) ?_
                      have : (nI ((cn75 24) - 1)).toInt = ((((cn75 24) - 1) : Nat) : Int) := nI_toInt (by (first | omega | (have zz0 := Hid.u hi_c40; have zz1 := Hid.u hi_c92; have zz2 := Hid.u hi_cn; have zz3 := Hid.u hi_cn20; have zz4 := Hid.u hi_cn75; have zz5 := Hid.u hq_c40; have zz6 := Hid.u hq_c92; have zz7 := Hid.u hq_cn20; have zz8 := Hid.u hq_cn75; omega)))
                      refine lv_if_ne (tgt := 145) hx hb (oc_154 140 (aq_18 shX12_readsCondition_122) sgw_0_5) rfl (fun c_78 => ?_) (fun c_78 => ?_)
                      ·
                        have tc_78 : ((nI ((cn75 24) - 1)).toInt : Int) ≠ 0 := fun q => c_78 (Int32.toInt_inj.mp q)
                        refine lv_aload_n hx hb (oc_42 145 (aq_23 shX12_readsCondition_122)) rfl (lvA0 hl) ?_
                        have hFc := free_all hD hS hA
                        refine va_callv (runV_a (As := []) (rest := []) S (q_endsPiece l D cI cB cZ g (va_up (va_up cn75 24 ((cn75 24) - 1)) 19 ((cn75 19) + 1)) (va_up I92 22 ((I92 22) - 1)) Fn75 (cn 23) 0 H.size (IM.fr (In := I92) hIn75 (Fr.c 19 (Fr.c 24 Fr.rf)) (by decide) (by decide)) (by have q := PBk.pop' (pl' := cn75 19 + 1) (s' := 0) h_75a (by (first | omega | (have zz0 := Hid.u hi_c40; have zz1 := Hid.u hi_c92; have zz2 := Hid.u hi_cn; have zz3 := Hid.u hi_cn20; have zz4 := Hid.u hi_cn75; have zz5 := Hid.u hq_c40; have zz6 := Hid.u hq_c92; have zz7 := Hid.u hq_cn20; have zz8 := Hid.u hq_cn75; omega))) (by (first | omega | (have zz0 := Hid.u hi_c40; have zz1 := Hid.u hi_c92; have zz2 := Hid.u hi_cn; have zz3 := Hid.u hi_cn20; have zz4 := Hid.u hi_cn75; have zz5 := Hid.u hq_c40; have zz6 := Hid.u hq_c92; have zz7 := Hid.u hq_cn20; have zz8 := Hid.u hq_cn75; omega))) (by (first | omega | (have zz0 := Hid.u hi_c40; have zz1 := Hid.u hi_c92; have zz2 := Hid.u hi_cn; have zz3 := Hid.u hi_cn20; have zz4 := Hid.u hi_cn75; have zz5 := Hid.u hq_c40; have zz6 := Hid.u hq_c92; have zz7 := Hid.u hq_cn20; have zz8 := Hid.u hq_cn75; omega))) (h_75d (by decide)) (by (first | omega | (have zz0 := Hid.u hi_c40; have zz1 := Hid.u hi_c92; have zz2 := Hid.u hi_cn; have zz3 := Hid.u hi_cn20; have zz4 := Hid.u hi_cn75; have zz5 := Hid.u hq_c40; have zz6 := Hid.u hq_c92; have zz7 := Hid.u hq_cn20; have zz8 := Hid.u hq_cn75; omega))); exact q) (CK.less (w' := cn75 24 - 1) h_75b (by (first | omega | (have zz0 := Hid.u hi_c40; have zz1 := Hid.u hi_c92; have zz2 := Hid.u hi_cn; have zz3 := Hid.u hi_cn20; have zz4 := Hid.u hi_cn75; have zz5 := Hid.u hq_c40; have zz6 := Hid.u hq_c92; have zz7 := Hid.u hq_cn20; have zz8 := Hid.u hq_cn75; omega))) (by (first | omega | (have zz0 := Hid.u hi_c40; have zz1 := Hid.u hi_c92; have zz2 := Hid.u hi_cn; have zz3 := Hid.u hi_cn20; have zz4 := Hid.u hi_cn75; have zz5 := Hid.u hq_c40; have zz6 := Hid.u hq_c92; have zz7 := Hid.u hq_cn20; have zz8 := Hid.u hq_cn75; omega))))) kV_RX12_300 hK hP hD 0 rfl rfl rfl ⟨Nat.le_of_ble_eq_true rfl, Nat.le_of_ble_eq_true rfl⟩ ⟨Nat.le_of_ble_eq_true rfl, Nat.le_of_ble_eq_true rfl⟩ rfl hl.1 rfl (Nat.le_of_ble_eq_true rfl) (oc_182 146 shX12_readsCondition_146 uw_1_44)) hS (fun q _ h => hFc q h) hFc (fun u t H1 locs ht hvm wh_80 hB hz1 hk1 hS => ?_)
                        obtain ⟨cn80, In80, Fn80⟩ := u
                        obtain ⟨hP1, hD1⟩ := hB
                        rw [ht] at hP1
                        have hP : va_P D vwCl (wM cI cB cZ g cn80 In80 Fn80) H1 := hP1
                        have hD : va_D A (wM cI cB cZ g cn80 In80 Fn80) := hD1.weaken (fun _ _ _ h => hFc _ h)
                        generalize H1 = H at hP hS ⊢
                        have vh_80 : (fun c2 I2 F2 => Fr [23, 24] [22] [27] (va_up (va_up cn75 24 ((cn75 24) - 1)) 19 ((cn75 19) + 1)) (va_up I92 22 ((I92 22) - 1)) Fn75 c2 I2 F2 ∧ IM c2 F2 ∧ ((PBk (c2 19) (c2 20) (c2 23) (c2 24) (F2 27) (F2 28) (cn 23) 1 0) ∧ (CK (c2 24) (F2 28)) ∧ (∀ k : Nat, k < (cn 23) → F2 27 k = (Fn75 27) k))) cn80 In80 Fn80 := wh_80
                        obtain ⟨hfc80, hIn80, h_80⟩ := vh_80
                        have hf80 : Fr [19, 23, 24, 26] [21, 22] [27, 28] cn In Fn cn80 In80 Fn80 := Fr.mo (Fr.tr (Fr.i 22 (Fr.c 19 (Fr.c 24 hf75))) hfc80) (sbl rfl) (sbl rfl) (sbl rfl)
                        have hi_cn80 : Hid (CB cn80) := hIn80.b
                        have : cn80 20 = cn 20 := hf80.1 20 (nml rfl)
                        have : cn80 25 = cn 25 := hf80.1 25 (nml rfl)
                        have hq_cn80 := Hid.i (frq_19_23_24_26_0_1_2_46_57_58_62_63_75_83_44 hf80)
                        have : cn80 19 = ((cn75 19) + 1) := hfc80.1 19 (nml rfl)
                        have : cn80 20 = (cn75 20) := hfc80.1 20 (nml rfl)
                        have : cn80 25 = (cn75 25) := hfc80.1 25 (nml rfl)
                        obtain ⟨h_80a, h_80b, h_80c⟩ := h_80
                        have h_80f := h_80a.f
                        refine lv_goto (tgt := 92) hx hb (oc_167 149 (aq_3 shX12_readsCondition_146) sgw_255_199) rfl ?_
                        exact ih92  cn80 In80 Fn80 _ _ (show cn 20 - (cn80 19) < n92 by (first | omega | (have zz0 := Hid.u hi_c40; have zz1 := Hid.u hi_c92; have zz2 := Hid.u hi_cn; have zz3 := Hid.u hi_cn20; have zz4 := Hid.u hi_cn75; have zz5 := Hid.u hi_cn80; have zz6 := Hid.u hq_c40; have zz7 := Hid.u hq_c92; have zz8 := Hid.u hq_cn20; have zz9 := Hid.u hq_cn75; have zz10 := Hid.u hq_cn80; omega))) ⟨(Fr.mo hf80 (sbl rfl) (sbl rfl) (sbl rfl)), hIn80, h_80a, h_80b, (fun k hk => (h_80c k hk).trans ((h_75c k hk).trans (hx92_2 k hk))), (by (first | omega | (have zz0 := Hid.u hi_c40; have zz1 := Hid.u hi_c92; have zz2 := Hid.u hi_cn; have zz3 := Hid.u hi_cn20; have zz4 := Hid.u hi_cn75; have zz5 := Hid.u hi_cn80; have zz6 := Hid.u hq_c40; have zz7 := Hid.u hq_c92; have zz8 := Hid.u hq_cn20; have zz9 := Hid.u hq_cn75; have zz10 := Hid.u hq_cn80; omega)))⟩ hP hD hS ls (lv_sub hl [0] rfl)
                      ·
                        have tc_78 : ((nI ((cn75 24) - 1)).toInt : Int) = 0 := congrArg Int32.toInt c_78
                        refine lv_iconst (v := 1) hx hb (oc_4 143 (aq_21 shX12_readsCondition_122)) kic_1 ?_
                        exact W.zret (v := 1) hx hb hr rfl (fun t ht hW => ⟨⟨1, ((va_up (va_up cn75 24 ((cn75 24) - 1)) 19 ((cn75 19) + 1)), (va_up I92 22 ((I92 22) - 1)), Fn75), rfl, ⟨(Fr.mo (Fr.i 22 (Fr.c 19 (Fr.c 24 hf75))) (sbl rfl) (sbl rfl) (sbl rfl)), (IM.fr (In := I92) hIn75 (Fr.c 19 (Fr.c 24 Fr.rf)) (by decide) (by decide)), (by show 1 = 0 ∨ (1 = 1 ∧ SegOK (Fn75 27) 0 (cn 23) ((va_up (va_up cn75 24 ((cn75 24) - 1)) 19 ((cn75 19) + 1)) 23) ∧ cn 23 ≤ (va_up (va_up cn75 24 ((cn75 24) - 1)) 19 ((cn75 19) + 1)) 23 ∧ (va_up (va_up cn75 24 ((cn75 24) - 1)) 19 ((cn75 19) + 1)) 23 ≤ (va_up (va_up cn75 24 ((cn75 24) - 1)) 19 ((cn75 19) + 1)) 19 ∧ (cn 19 ≤ (va_up (va_up cn75 24 ((cn75 24) - 1)) 19 ((cn75 19) + 1)) 19 ∧ (va_up (va_up cn75 24 ((cn75 24) - 1)) 19 ((cn75 19) + 1)) 19 ≤ cn 20) ∧ (∀ k : Nat, k < cn 23 → Fn75 27 k = Fn 27 k)); exact Or.inr ⟨rfl, (PBk.pop' (pl' := cn75 19 + 1) (s' := 0) h_75a (by (first | omega | (have zz0 := Hid.u hi_c40; have zz1 := Hid.u hi_c92; have zz2 := Hid.u hi_cn; have zz3 := Hid.u hi_cn20; have zz4 := Hid.u hi_cn75; have zz5 := Hid.u hq_c40; have zz6 := Hid.u hq_c92; have zz7 := Hid.u hq_cn20; have zz8 := Hid.u hq_cn75; omega))) (by (first | omega | (have zz0 := Hid.u hi_c40; have zz1 := Hid.u hi_c92; have zz2 := Hid.u hi_cn; have zz3 := Hid.u hi_cn20; have zz4 := Hid.u hi_cn75; have zz5 := Hid.u hq_c40; have zz6 := Hid.u hq_c92; have zz7 := Hid.u hq_cn20; have zz8 := Hid.u hq_cn75; omega))) (by (first | omega | (have zz0 := Hid.u hi_c40; have zz1 := Hid.u hi_c92; have zz2 := Hid.u hi_cn; have zz3 := Hid.u hi_cn20; have zz4 := Hid.u hi_cn75; have zz5 := Hid.u hq_c40; have zz6 := Hid.u hq_c92; have zz7 := Hid.u hq_cn20; have zz8 := Hid.u hq_cn75; omega))) (h_75d (by decide)) (by (first | omega | (have zz0 := Hid.u hi_c40; have zz1 := Hid.u hi_c92; have zz2 := Hid.u hi_cn; have zz3 := Hid.u hi_cn20; have zz4 := Hid.u hi_cn75; have zz5 := Hid.u hq_c40; have zz6 := Hid.u hq_c92; have zz7 := Hid.u hq_cn20; have zz8 := Hid.u hq_cn75; omega)))).seg' (by (first | omega | (have zz0 := Hid.u hi_c40; have zz1 := Hid.u hi_c92; have zz2 := Hid.u hi_cn; have zz3 := Hid.u hi_cn20; have zz4 := Hid.u hi_cn75; have zz5 := Hid.u hq_c40; have zz6 := Hid.u hq_c92; have zz7 := Hid.u hq_cn20; have zz8 := Hid.u hq_cn75; omega))), (by show cn 23 ≤ cn75 23; (first | omega | (have zz0 := Hid.u hi_c40; have zz1 := Hid.u hi_c92; have zz2 := Hid.u hi_cn; have zz3 := Hid.u hi_cn20; have zz4 := Hid.u hi_cn75; have zz5 := Hid.u hq_c40; have zz6 := Hid.u hq_c92; have zz7 := Hid.u hq_cn20; have zz8 := Hid.u hq_cn75; omega))), (by show cn75 23 ≤ cn75 19 + 1; (first | omega | (have zz0 := Hid.u hi_c40; have zz1 := Hid.u hi_c92; have zz2 := Hid.u hi_cn; have zz3 := Hid.u hi_cn20; have zz4 := Hid.u hi_cn75; have zz5 := Hid.u hq_c40; have zz6 := Hid.u hq_c92; have zz7 := Hid.u hq_cn20; have zz8 := Hid.u hq_cn75; omega))), ⟨by show cn 19 ≤ cn75 19 + 1; (first | omega | (have zz0 := Hid.u hi_c40; have zz1 := Hid.u hi_c92; have zz2 := Hid.u hi_cn; have zz3 := Hid.u hi_cn20; have zz4 := Hid.u hi_cn75; have zz5 := Hid.u hq_c40; have zz6 := Hid.u hq_c92; have zz7 := Hid.u hq_cn20; have zz8 := Hid.u hq_cn75; omega)), by show cn75 19 + 1 ≤ cn 20; (first | omega | (have zz0 := Hid.u hi_c40; have zz1 := Hid.u hi_c92; have zz2 := Hid.u hi_cn; have zz3 := Hid.u hi_cn20; have zz4 := Hid.u hi_cn75; have zz5 := Hid.u hq_c40; have zz6 := Hid.u hq_c92; have zz7 := Hid.u hq_cn20; have zz8 := Hid.u hq_cn75; omega))⟩, (fun k hk => (h_75c k hk).trans (hx92_2 k hk))⟩)⟩, by rw [ht]; exact hP, hD⟩, hS.F ht⟩) hS.2.2 (oc_172 144 (aq_22 shX12_readsCondition_122))
                exact lp_92 _  cn20 In20 Fn20 _ _ (Nat.lt_succ_self _) ⟨(Fr.mo hf20 (sbl rfl) (sbl rfl) (sbl rfl)), hIn20, kh_20a, kh_20b, (fun k hk => (kh_20c k hk).trans (hx40_2 k hk)), (by (first | omega | (have zz0 := Hid.u hi_c40; have zz1 := Hid.u hi_cn; have zz2 := Hid.u hi_cn20; have zz3 := Hid.u hq_c40; have zz4 := Hid.u hq_cn20; omega)))⟩ hP hD hS ls (lv_sub hl [0] rfl)
            ·
              have tc_18 : (r_16.toInt : Int) = 40 := congrArg Int32.toInt c_18
              refine lv_aload_n hx hb (oc_42 58 (aq_9 shX12_readsCondition_49)) rfl (lvA0 hl) ?_
              refine lv_aload_n hx hb (oc_42 59 (aq_10 shX12_readsCondition_49)) rfl (lvA0 hl) ?_
              refine vp_callSi (runV_ra (As := []) (rest := [.ref (g 100)]) S (q_here l D cI cB cZ g c40 I40 F40  hI40 (by (first | omega | (have zz0 := Hid.u hi_c40; have zz1 := Hid.u hi_cn; have zz2 := Hid.u hq_c40; omega))) (by (first | omega | (have zz0 := Hid.u hi_c40; have zz1 := Hid.u hi_cn; have zz2 := Hid.u hq_c40; omega)))) kV_RX12_239 hK hP 0 rfl rfl rfl ⟨Nat.le_of_ble_eq_true rfl, Nat.le_of_ble_eq_true rfl⟩ ⟨Nat.le_of_ble_eq_true rfl, Nat.le_of_ble_eq_true rfl⟩ rfl hl.1 rfl (Nat.le_of_ble_eq_true rfl) (oc_182 60 (aq_11 shX12_readsCondition_49) uw_0_239)) (fun r_81 h_82 => ?_)
              refine lv_bipush (v := 33) hx hb (oc_16 63 (aq_14 shX12_readsCondition_49) sgb_33) kbc_33 ?_
              refine lv_icmp_ne (tgt := 73) hx hb (oc_160 65 (aq_16 shX12_readsCondition_49) sgw_0_8) rfl (fun c_83 => ?_) (fun c_83 => ?_)
              ·
                have tc_83 : (r_81.toInt : Int) ≠ 33 := fun q => c_83 (Int32.toInt_inj.mp q)
                refine lv_bipush (v := 13) hx hb (oc_16 73 shX12_readsCondition_73 sgb_13) kbc_13 ?_
                have hFc := free_all hD hS hA
                refine va_calli (runV_a (As := [.int 13]) (rest := []) S (q_opens l D cI cB cZ g c40 I40 F40 13 H.size hI40 (by (first | omega | (have zz0 := Hid.u hi_c40; have zz1 := Hid.u hi_cn; have zz2 := Hid.u hq_c40; omega)))) kV_RX12_274 hK hP hD 0 rfl rfl rfl ⟨Nat.le_of_ble_eq_true rfl, Nat.le_of_ble_eq_true rfl⟩ ⟨Nat.le_of_ble_eq_true rfl, Nat.le_of_ble_eq_true rfl⟩ rfl hl.1 rfl (Nat.le_of_ble_eq_true rfl) dX12_readsCondition_75) hS (fun q _ h => hFc q h) hFc (fun r_84 u t H1 locs ht hvm wh_85 hB hz1 hk1 hS => ?_)
                obtain ⟨cn85, In85, Fn85⟩ := u
                obtain ⟨hP1, hD1⟩ := hB
                rw [ht] at hP1
                have vh_85 : (fun r c2 I2 F2 => (∀ k : Nat, k ∉ [21, 22] → I2 k = I40 k) ∧ ((r = 0 ∧ (True) ∧ c40 = c2 ∧ F40 = F2) ∨ (r = 1 ∧ (True) ∧ (va_up (va_up c40 24 ((c40 24) + 1)) 19 ((c40 19) + 1)) = c2 ∧ (va_up F40 28 (upd ((F40 28)) ((c40 24)) (nI (13 * 1048576)))) = F2))) r_84 cn85 In85 Fn85 := wh_85
                obtain ⟨hI85_, vh_85⟩ := vh_85
                rcases vh_85 with ⟨rfl, h_85, rfl, rfl⟩ | ⟨rfl, h_85, rfl, rfl⟩
                ·
                  have hf85 : Fr [19, 23, 24, 26] [21, 22] [27, 28] cn In Fn c40 In85 F40 := Fr.mo (Fr.tr hfr40 (show Fr [] [21, 22] [] c40 I40 F40 c40 In85 F40 from ⟨fun _ _ => rfl, hI85_, fun _ _ => rfl⟩)) (sbl rfl) (sbl rfl) (sbl rfl)
                  have hP : va_P D vwCl (wM cI cB cZ g c40 In85 F40) H1 := hP1
                  have hD : va_D A (wM cI cB cZ g c40 In85 F40) := hD1.weaken (fun _ _ _ h => hFc _ h)
                  generalize H1 = H at hP hS ⊢
                  refine lv_if_ne (tgt := 40) hx hb dX12_readsCondition_78 rfl (fun h => absurd h cq_eq_0_0) (fun _ => ?_)
                  refine lv_iconst (v := 0) hx hb dX12_readsCondition_81 kic_0 ?_
                  exact W.zret (v := 0) hx hb hr rfl (fun t ht hW => ⟨⟨0, (c40, In85, F40), rfl, ⟨(Fr.mo hf85 (sbl rfl) (sbl rfl) (sbl rfl)), hI40, (by show 0 = 0 ∨ (0 = 1 ∧ SegOK (F40 27) 0 (cn 23) (c40 23) ∧ cn 23 ≤ c40 23 ∧ c40 23 ≤ c40 19 ∧ (cn 19 ≤ c40 19 ∧ c40 19 ≤ cn 20) ∧ (∀ k : Nat, k < cn 23 → F40 27 k = Fn 27 k)); exact Or.inl rfl)⟩, by rw [ht]; exact hP, hD⟩, hS.F ht⟩) hS.2.2 dX12_readsCondition_82
                ·
                  have hf85 : Fr [19, 23, 24, 26] [21, 22] [27, 28] cn In Fn c40 In85 F40 := Fr.mo (Fr.tr hfr40 (show Fr [] [21, 22] [] c40 I40 F40 c40 In85 F40 from ⟨fun _ _ => rfl, hI85_, fun _ _ => rfl⟩)) (sbl rfl) (sbl rfl) (sbl rfl)
                  have hP : va_P D vwCl (wM cI cB cZ g (va_up (va_up c40 24 ((c40 24) + 1)) 19 ((c40 19) + 1)) In85 (va_up F40 28 (upd ((F40 28)) ((c40 24)) (nI (13 * 1048576))))) H1 := hP1
                  have hD : va_D A (wM cI cB cZ g (va_up (va_up c40 24 ((c40 24) + 1)) 19 ((c40 19) + 1)) In85 (va_up F40 28 (upd ((F40 28)) ((c40 24)) (nI (13 * 1048576))))) := hD1.weaken (fun _ _ _ h => hFc _ h)
                  generalize H1 = H at hP hS ⊢
                  refine lv_if_ne (tgt := 40) hx hb dX12_readsCondition_78 rfl (fun _ => ?_) (fun h => absurd h cq_eq_1_0)
                  exact ih40  (va_up (va_up c40 24 ((c40 24) + 1)) 19 ((c40 19) + 1)) In85 (va_up F40 28 (upd ((F40 28)) ((c40 24)) (nI (13 * 1048576)))) _ _ (show cn 20 - ((c40 19) + 1) < n40 by (first | omega | (have zz0 := Hid.u hi_c40; have zz1 := Hid.u hi_cn; have zz2 := Hid.u hq_c40; omega))) ⟨(Fr.mo (Fr.f 28 (Fr.c 19 (Fr.c 24 hf85))) (sbl rfl) (sbl rfl) (sbl rfl)), (IM.fr (In := In85) hI40 (Fr.f 28 (Fr.c 19 (Fr.c 24 Fr.rf))) (by decide) (by decide)), (by have q := PBk.push (k := 13) (s' := 0) hx40_0 (by (first | omega | (have zz0 := Hid.u hi_c40; have zz1 := Hid.u hi_cn; have zz2 := Hid.u hq_c40; omega))) (by decide) (by decide) (by decide) (by decide); exact q), (by have q := CK.push (k := 13) hx40_1 (by decide) (by decide); exact q), hx40_2, (by show cn 19 ≤ c40 19 + 1; (first | omega | (have zz0 := Hid.u hi_c40; have zz1 := Hid.u hi_cn; have zz2 := Hid.u hq_c40; omega)))⟩ hP hD hS ls (lv_sub hl [0] rfl)
              ·
                have tc_83 : (r_81.toInt : Int) = 33 := congrArg Int32.toInt c_83
                refine lv_bipush (v := 10) hx hb (oc_16 68 (aq_19 shX12_readsCondition_49) sgb_10) kbc_10 ?_
                refine lv_goto (tgt := 75) hx hb (oc_167 70 (aq_21 shX12_readsCondition_49) sgw_0_5) rfl ?_
                have hFc := free_all hD hS hA
                refine va_calli (runV_a (As := [.int 10]) (rest := []) S (q_opens l D cI cB cZ g c40 I40 F40 10 H.size hI40 (by (first | omega | (have zz0 := Hid.u hi_c40; have zz1 := Hid.u hi_cn; have zz2 := Hid.u hq_c40; omega)))) kV_RX12_274 hK hP hD 0 rfl rfl rfl ⟨Nat.le_of_ble_eq_true rfl, Nat.le_of_ble_eq_true rfl⟩ ⟨Nat.le_of_ble_eq_true rfl, Nat.le_of_ble_eq_true rfl⟩ rfl hl.1 rfl (Nat.le_of_ble_eq_true rfl) dX12_readsCondition_75) hS (fun q _ h => hFc q h) hFc (fun r_86 u t H1 locs ht hvm wh_87 hB hz1 hk1 hS => ?_)
                obtain ⟨cn87, In87, Fn87⟩ := u
                obtain ⟨hP1, hD1⟩ := hB
                rw [ht] at hP1
                have vh_87 : (fun r c2 I2 F2 => (∀ k : Nat, k ∉ [21, 22] → I2 k = I40 k) ∧ ((r = 0 ∧ (True) ∧ c40 = c2 ∧ F40 = F2) ∨ (r = 1 ∧ (True) ∧ (va_up (va_up c40 24 ((c40 24) + 1)) 19 ((c40 19) + 1)) = c2 ∧ (va_up F40 28 (upd ((F40 28)) ((c40 24)) (nI (10 * 1048576)))) = F2))) r_86 cn87 In87 Fn87 := wh_87
                obtain ⟨hI87_, vh_87⟩ := vh_87
                rcases vh_87 with ⟨rfl, h_87, rfl, rfl⟩ | ⟨rfl, h_87, rfl, rfl⟩
                ·
                  have hf87 : Fr [19, 23, 24, 26] [21, 22] [27, 28] cn In Fn c40 In87 F40 := Fr.mo (Fr.tr hfr40 (show Fr [] [21, 22] [] c40 I40 F40 c40 In87 F40 from ⟨fun _ _ => rfl, hI87_, fun _ _ => rfl⟩)) (sbl rfl) (sbl rfl) (sbl rfl)
                  have hP : va_P D vwCl (wM cI cB cZ g c40 In87 F40) H1 := hP1
                  have hD : va_D A (wM cI cB cZ g c40 In87 F40) := hD1.weaken (fun _ _ _ h => hFc _ h)
                  generalize H1 = H at hP hS ⊢
                  refine lv_if_ne (tgt := 40) hx hb dX12_readsCondition_78 rfl (fun h => absurd h cq_eq_0_0) (fun _ => ?_)
                  refine lv_iconst (v := 0) hx hb dX12_readsCondition_81 kic_0 ?_
                  exact W.zret (v := 0) hx hb hr rfl (fun t ht hW => ⟨⟨0, (c40, In87, F40), rfl, ⟨(Fr.mo hf87 (sbl rfl) (sbl rfl) (sbl rfl)), hI40, (by show 0 = 0 ∨ (0 = 1 ∧ SegOK (F40 27) 0 (cn 23) (c40 23) ∧ cn 23 ≤ c40 23 ∧ c40 23 ≤ c40 19 ∧ (cn 19 ≤ c40 19 ∧ c40 19 ≤ cn 20) ∧ (∀ k : Nat, k < cn 23 → F40 27 k = Fn 27 k)); exact Or.inl rfl)⟩, by rw [ht]; exact hP, hD⟩, hS.F ht⟩) hS.2.2 dX12_readsCondition_82
                ·
                  have hf87 : Fr [19, 23, 24, 26] [21, 22] [27, 28] cn In Fn c40 In87 F40 := Fr.mo (Fr.tr hfr40 (show Fr [] [21, 22] [] c40 I40 F40 c40 In87 F40 from ⟨fun _ _ => rfl, hI87_, fun _ _ => rfl⟩)) (sbl rfl) (sbl rfl) (sbl rfl)
                  have hP : va_P D vwCl (wM cI cB cZ g (va_up (va_up c40 24 ((c40 24) + 1)) 19 ((c40 19) + 1)) In87 (va_up F40 28 (upd ((F40 28)) ((c40 24)) (nI (10 * 1048576))))) H1 := hP1
                  have hD : va_D A (wM cI cB cZ g (va_up (va_up c40 24 ((c40 24) + 1)) 19 ((c40 19) + 1)) In87 (va_up F40 28 (upd ((F40 28)) ((c40 24)) (nI (10 * 1048576))))) := hD1.weaken (fun _ _ _ h => hFc _ h)
                  generalize H1 = H at hP hS ⊢
                  refine lv_if_ne (tgt := 40) hx hb dX12_readsCondition_78 rfl (fun _ => ?_) (fun h => absurd h cq_eq_1_0)
                  exact ih40  (va_up (va_up c40 24 ((c40 24) + 1)) 19 ((c40 19) + 1)) In87 (va_up F40 28 (upd ((F40 28)) ((c40 24)) (nI (10 * 1048576)))) _ _ (show cn 20 - ((c40 19) + 1) < n40 by (first | omega | (have zz0 := Hid.u hi_c40; have zz1 := Hid.u hi_cn; have zz2 := Hid.u hq_c40; omega))) ⟨(Fr.mo (Fr.f 28 (Fr.c 19 (Fr.c 24 hf87))) (sbl rfl) (sbl rfl) (sbl rfl)), (IM.fr (In := In87) hI40 (Fr.f 28 (Fr.c 19 (Fr.c 24 Fr.rf))) (by decide) (by decide)), (by have q := PBk.push (k := 10) (s' := 0) hx40_0 (by (first | omega | (have zz0 := Hid.u hi_c40; have zz1 := Hid.u hi_cn; have zz2 := Hid.u hq_c40; omega))) (by decide) (by decide) (by decide) (by decide); exact q), (by have q := CK.push (k := 10) hx40_1 (by decide) (by decide); exact q), hx40_2, (by show cn 19 ≤ c40 19 + 1; (first | omega | (have zz0 := Hid.u hi_c40; have zz1 := Hid.u hi_cn; have zz2 := Hid.u hq_c40; omega)))⟩ hP hD hS ls (lv_sub hl [0] rfl)
      exact lp_40 _  (va_up (va_up (va_up cn 24 0) 24 (0 + 1)) 19 ((cn 19) + 1)) In5 (va_up Fn 28 (upd ((Fn 28)) (0) (nI (13 * 1048576)))) _ _ (Nat.lt_succ_self _) ⟨(Fr.mo (Fr.f 28 (Fr.c 19 (Fr.c 24 (Fr.c 24 hf5)))) (sbl rfl) (sbl rfl) (sbl rfl)), (IM.fr (In := In5) hI (Fr.f 28 (Fr.c 19 (Fr.c 24 (Fr.c 24 Fr.rf)))) (by decide) (by decide)), (by have q := PBk.push (k := 13) (s' := 0) (PBk.new (W := Fn 28) (C := Fn 27) (s := 0) hp hn h23) (by (first | omega | (have zz0 := Hid.u hi_cn; omega))) (by decide) (by decide) (by decide) (by decide); exact q), (by have q := CK.start (Fn 28); exact q), (fun k hk => rfl), (by show cn 19 ≤ cn 19 + 1; (first | omega | (have zz0 := Hid.u hi_cn; omega)))⟩ hP hD hS ls (lv_sub hl [0] rfl)
  ·
    have tc_3 : (r_1.toInt : Int) ≠ 40 := fun q => c_3 (Int32.toInt_inj.mp q)
    refine lv_aload_n hx hb (oc_42 9 (aq_9 shX12_readsCondition_0)) rfl (lvA0 hl) ?_
    refine lv_iconst (v := 1) hx hb (oc_4 10 (aq_10 shX12_readsCondition_0)) kic_1 ?_
    refine lv_aload_n hx hb (oc_42 11 (aq_11 shX12_readsCondition_0)) rfl (lvA0 hl) ?_
    refine gM_233 S hK hP (v := .int (nI (cn 19))) rfl (oc_180 12 (aq_12 shX12_readsCondition_0) uw_0_233) ?_
    have hFc := free_all hD hS hA
    refine va_calli (runV_a (As := [.int 1, .int (nI (cn 19))]) (rest := []) S (q_wrong l D cI cB cZ g cn In Fn 1 (nI (cn 19)) s.heap.size hI) kV_RX12_246 hK hP hD 0 rfl rfl rfl ⟨Nat.le_of_ble_eq_true rfl, Nat.le_of_ble_eq_true rfl⟩ ⟨Nat.le_of_ble_eq_true rfl, Nat.le_of_ble_eq_true rfl⟩ rfl hl.1 rfl (Nat.le_of_ble_eq_true rfl) (oc_182 15 (aq_15 shX12_readsCondition_0) uw_0_246)) hS (fun q _ h => hFc q h) hFc (fun r_88 u t H1 locs ht hvm wh_89 hB hz1 hk1 hS => ?_)
    obtain ⟨cn89, In89, Fn89⟩ := u
    obtain ⟨hP1, hD1⟩ := hB
    rw [ht] at hP1
    have vh_89 : (fun r c2 I2 F2 => (∀ k : Nat, k ∉ [21] → I2 k = In k) ∧ ((r = 0 ∧ (True) ∧ cn = c2 ∧ Fn = F2))) r_88 cn89 In89 Fn89 := wh_89
    obtain ⟨hI89_, vh_89⟩ := vh_89
    obtain ⟨rfl, h_89, rfl, rfl⟩ := vh_89
    have hf89 : Fr [19, 23, 24, 26] [21, 22] [27, 28] cn In Fn cn In89 Fn := Fr.mo (Fr.tr (Fr.rf (cn := cn) (In := In) (Fn := Fn)) (show Fr [] [21] [] cn In Fn cn In89 Fn from ⟨fun _ _ => rfl, hI89_, fun _ _ => rfl⟩)) (sbl rfl) (sbl rfl) (sbl rfl)
    have hP : va_P D vwCl (wM cI cB cZ g cn In89 Fn) H1 := hP1
    have hD : va_D A (wM cI cB cZ g cn In89 Fn) := hD1.weaken (fun _ _ _ h => hFc _ h)
    generalize H1 = H at hP hS ⊢
    exact W.zret (v := 0) hx hb hr rfl (fun t ht hW => ⟨⟨0, (cn, In89, Fn), rfl, ⟨(Fr.mo hf89 (sbl rfl) (sbl rfl) (sbl rfl)), hI, (by show 0 = 0 ∨ (0 = 1 ∧ SegOK (Fn 27) 0 (cn 23) (cn 23) ∧ cn 23 ≤ cn 23 ∧ cn 23 ≤ cn 19 ∧ (cn 19 ≤ cn 19 ∧ cn 19 ≤ cn 20) ∧ (∀ k : Nat, k < cn 23 → Fn 27 k = Fn 27 k)); exact Or.inl rfl)⟩, by rw [ht]; exact hP, hD⟩, hS.F ht⟩) hS.2.2 (oc_172 18 (aq_18 shX12_readsCondition_0))
set_option maxRecDepth 100000 in
set_option maxHeartbeats 4000000 in
theorem q_readsClause (l : Launch) (D : va_G) (cI cB cZ : ClassId) (g : Nat → Nat) (cn : Nat → Nat) (In : Nat → Int32) (Fn : Nat → Nat → Int32) (v0 : Int32) (sz : Nat) (hI : IM cn Fn) (hp : cn 19 ≤ cn 20) (hn : cn 20 ≤ 160) (h23 : cn 23 ≤ cn 19) (h25 : cn 25 ≤ 12) (hL : ALL (Fn 27) (cn 23) (cn 25) (Fn 29) (Fn 30) (Fn 31)) : Met l yX12_readsClause (CWS yX12_readsClause cX12_readsClause 2 (some .boolean)) (RM 7 0 0) (PBw [.ref (g 100), .int v0] D cI cB cZ (wM cI cB cZ g cn In Fn) sz) (va_Qi (fun (r : Int32) (u : (Nat → Nat) × (Nat → Int32) × (Nat → Nat → Int32)) => (fun r c2 I2 F2 => Fr [19, 23, 24, 25, 26] [21, 22] [27, 28, 29, 30, 31] cn In Fn c2 I2 F2 ∧ IM c2 F2 ∧ (r = 0 ∨ (r = 1 ∧ cn 19 < c2 19 ∧ c2 19 ≤ cn 20 ∧ c2 23 ≤ c2 19 ∧ c2 25 ≤ 12 ∧ ALL (F2 27) (c2 23) (c2 25) (F2 29) (F2 30) (F2 31)))) r u.1 u.2.1 u.2.2) (fun (u : (Nat → Nat) × (Nat → Int32) × (Nat → Nat → Int32)) (t : State) => va_P D vwCl (wM cI cB cZ g u.1 u.2.1 u.2.2) t.heap ∧ va_D (va_A (wM cI cB cZ g cn In Fn) sz) (wM cI cB cZ g u.1 u.2.1 u.2.2)) (va_A (wM cI cB cZ g cn In Fn) sz)) 0 0 (va_A (wM cI cB cZ g cn In Fn) sz) := by
  refine en_w (fun A => (va_Qi (fun (r : Int32) (u : (Nat → Nat) × (Nat → Int32) × (Nat → Nat → Int32)) => (fun (r : Int32) (c2 : Nat → Nat) (I2 : Nat → Int32) (F2 : Nat → Nat → Int32) => Fr [19, 23, 24, 25, 26] [21, 22] [27, 28, 29, 30, 31] cn In Fn c2 I2 F2 ∧ IM c2 F2 ∧ (r = 0 ∨ (r = 1 ∧ cn 19 < c2 19 ∧ c2 19 ≤ cn 20 ∧ c2 23 ≤ c2 19 ∧ c2 25 ≤ 12 ∧ ALL (F2 27) (c2 23) (c2 25) (F2 29) (F2 30) (F2 31)))) r u.1 u.2.1 u.2.2) (fun (u : (Nat → Nat) × (Nat → Int32) × (Nat → Nat → Int32)) (t : State) => va_P D vwCl (wM cI cB cZ g u.1 u.2.1 u.2.2) t.heap ∧ va_D A (wM cI cB cZ g u.1 u.2.1 u.2.2)) A)) rfl rfl pn_RX12 (Nat.le_of_ble_eq_true rfl) (fun p e s m below meth c A hx hb hml hown S hr hlocks hnm hA hP hK hD hS ls hl => ?_)
  have hl : lv_has ls 2 [(0, .ref (g 100)), (1, .int v0)] := hl
  have hi_cn : Hid (CB cn) := hI.b
  refine lv_aload_n hx hb (oc_42 0 shX12_readsClause_0) rfl (lvA0 hl) ?_
  refine vp_callSi (runV_ra (As := []) (rest := []) S (q_here l D cI cB cZ g cn In Fn  hI (by (first | omega | (have zz0 := Hid.u hi_cn; omega))) (by (first | omega | (have zz0 := Hid.u hi_cn; omega)))) kV_RX12_239 hK hP 0 rfl rfl rfl ⟨Nat.le_of_ble_eq_true rfl, Nat.le_of_ble_eq_true rfl⟩ ⟨Nat.le_of_ble_eq_true rfl, Nat.le_of_ble_eq_true rfl⟩ rfl hl.1 rfl (Nat.le_of_ble_eq_true rfl) (oc_182 1 (aq_1 shX12_readsClause_0) uw_0_239)) (fun r_1 h_2 => ?_)
  refine lv_iload_n hx hb (oc_27 4 (aq_4 shX12_readsClause_0)) rfl (lvA1 hl) ?_
  refine lv_if_eq (tgt := 13) hx hb (oc_153 5 (aq_5 shX12_readsClause_0) sgw_0_8) rfl (fun c_3 => ?_) (fun c_3 => ?_)
  ·
    have tc_3 : (v0.toInt : Int) = 0 := congrArg Int32.toInt c_3
    refine lv_bipush (v := 112) hx hb (oc_16 13 (aq_13 shX12_readsClause_0) sgb_112) kbc_112 ?_
    refine lv_icmp_eq (tgt := 28) hx hb (oc_159 15 (aq_15 shX12_readsClause_0) sgw_0_13) rfl (fun c_4 => ?_) (fun c_4 => ?_)
    ·
      have tc_4 : (r_1.toInt : Int) = 112 := congrArg Int32.toInt c_4
      refine lv_aload_n hx hb (oc_42 28 (aq_4 shX12_readsClause_24)) rfl (lvA0 hl) ?_
      refine gM_312 S hK hP (v := .int (nI (cn 25))) rfl (oc_180 29 (aq_5 shX12_readsClause_24) uw_1_56) ?_
      refine lv_bipush (v := 12) hx hb (oc_16 32 (aq_8 shX12_readsClause_24) sgb_12) kbc_12 ?_
      have : (nI (cn 25)).toInt = (((cn 25) : Nat) : Int) := nI_toInt (by (first | omega | (have zz0 := Hid.u hi_cn; omega)))
      refine lv_icmp_ne (tgt := 47) hx hb (oc_160 34 (aq_10 shX12_readsClause_24) sgw_0_13) rfl (fun c_5 => ?_) (fun c_5 => ?_)
      ·
        have tc_5 : ((nI (cn 25)).toInt : Int) ≠ 12 := fun q => c_5 (Int32.toInt_inj.mp q)
        refine lv_aload_n hx hb (oc_42 47 (aq_23 shX12_readsClause_24)) rfl (lvA0 hl) ?_
        refine lv_aload_n hx hb (oc_42 48 shX12_readsClause_48) rfl (lvA0 hl) ?_
        refine gM_233 S hK hP (v := .int (nI (cn 19))) rfl (oc_180 49 (aq_1 shX12_readsClause_48) uw_0_233) ?_
        refine lv_iconst (v := 1) hx hb (oc_4 52 (aq_4 shX12_readsClause_48)) kic_1 ?_
        refine lv_iadd hx hb (oc_96 53 (aq_5 shX12_readsClause_48)) ?_
        refine lv_topi (fun y_6 ey_6 => ?_)
        obtain rfl : y_6 = (nI ((cn 19) + 1)) := ey_6.trans (nI_add (cn 19) 1)
        refine pM_233 S hK hP hD hS (a := ((cn 19) + 1)) (cn2 := (va_up cn 19 ((cn 19) + 1))) rfl rfl (oc_181 54 (aq_6 shX12_readsClause_48) uw_0_233) (fun H locs hP hD hS => ?_)
        refine lv_aload_n hx hb (oc_42 57 (aq_9 shX12_readsClause_48)) rfl (lvA0 hl) ?_
        refine gM_62 S hK hP (v := .ref (g 29)) rfl (oc_180 58 (aq_10 shX12_readsClause_48) uw_0_62) ?_
        refine lv_aload_n hx hb (oc_42 61 (aq_13 shX12_readsClause_48)) rfl (lvA0 hl) ?_
        refine gM_312 S hK hP (v := .int (nI (cn 25))) rfl (oc_180 62 (aq_14 shX12_readsClause_48) uw_1_56) ?_
        refine lv_aload_n hx hb (oc_42 65 (aq_17 shX12_readsClause_48)) rfl (lvA0 hl) ?_
        refine gM_257 S hK hP (v := .int (nI (cn 23))) rfl (oc_180 66 (aq_18 shX12_readsClause_48) uw_1_1) ?_
        have kb_1 : (cn 25) < 12 := by (first | omega | (have zz0 := Hid.u hi_cn; omega))
        refine stM_29 hx hb hK hP hD hS (Fn2 := (va_up Fn 29 (upd (Fn 29) (cn 25) (nI (cn 23))))) (vp_in_nI kb_1 (ltb rfl)) (nI_clamp (Nat.lt_trans kb_1 (ltb rfl))) rfl (oc_79 69 (aq_21 shX12_readsClause_48)) (fun H locs hP hD hS => ?_)
        refine lv_aload_n hx hb (oc_42 70 (aq_22 shX12_readsClause_48)) rfl (lvA0 hl) ?_
        refine lv_iconst (v := 0) hx hb (oc_3 71 (aq_23 shX12_readsClause_48)) kic_0 ?_
        refine pM_261 S hK hP hD hS (In2 := (va_up In 22 0)) rfl (oc_181 72 shX12_readsClause_72 uw_1_5) (fun H locs hP hD hS => ?_)
        refine lv_aload_n hx hb (oc_42 75 (aq_3 shX12_readsClause_72)) rfl (lvA0 hl) ?_
        refine lv_iconst (v := 0) hx hb (oc_3 76 (aq_4 shX12_readsClause_72)) kic_0 ?_
        refine pM_264 S hK hP hD hS (a := 0) (cn2 := (va_up (va_up cn 19 ((cn 19) + 1)) 24 0)) rfl rfl (oc_181 77 (aq_5 shX12_readsClause_72) uw_1_8) (fun H locs hP hD hS => ?_)
        refine lv_iload_n hx hb (oc_27 80 (aq_8 shX12_readsClause_72)) rfl (lvA1 hl) ?_
        refine lv_if_ne (tgt := 93) hx hb (oc_154 81 (aq_9 shX12_readsClause_72) sgw_0_12) rfl (fun c_7 => False.elim (by have tc_7 : (v0.toInt : Int) ≠ 0 := fun q => c_7 (Int32.toInt_inj.mp q); (first | omega | (have zz0 := Hid.u hi_cn; omega)))) (fun c_7 => ?_)
        have tc_7 : (v0.toInt : Int) = 0 := congrArg Int32.toInt c_7
        refine lv_aload_n hx hb (oc_42 84 (aq_12 shX12_readsClause_72)) rfl (lvA0 hl) ?_
        have hFc := free_all hD hS hA
        refine va_calli (runV_a (As := []) (rest := []) S (q_readsSum l D cI cB cZ g (va_up (va_up cn 19 ((cn 19) + 1)) 24 0) (va_up In 22 0) (va_up Fn 29 (upd (Fn 29) (cn 25) (nI (cn 23)))) (cn 23) 0 0 H.size (IM.fr (In := In) hI (Fr.f 29 (Fr.c 24 (Fr.c 19 Fr.rf))) (by decide) (by decide)) (by have q := PBk.new (pl := cn 19 + 1) (ln := cn 20) (cm := cn 23) (s := 0) (C := Fn 27) (W := Fn 28) (by (first | omega | (have zz0 := Hid.u hi_cn; omega))) (by (first | omega | (have zz0 := Hid.u hi_cn; omega))) (by (first | omega | (have zz0 := Hid.u hi_cn; omega))); exact q) (fun h => absurd h (Nat.lt_irrefl 0))) kV_RX12_297 hK hP hD 0 rfl rfl rfl ⟨Nat.le_of_ble_eq_true rfl, Nat.le_of_ble_eq_true rfl⟩ ⟨Nat.le_of_ble_eq_true rfl, Nat.le_of_ble_eq_true rfl⟩ rfl hl.1 rfl (Nat.le_of_ble_eq_true rfl) (oc_182 85 (aq_13 shX12_readsClause_72) uw_1_41)) hS (fun q _ h => hFc q h) hFc (fun r_8 u t H1 locs ht hvm wh_9 hB hz1 hk1 hS => ?_)
        obtain ⟨cn9, In9, Fn9⟩ := u
        obtain ⟨hP1, hD1⟩ := hB
        rw [ht] at hP1
        have hP : va_P D vwCl (wM cI cB cZ g cn9 In9 Fn9) H1 := hP1
        have hD : va_D A (wM cI cB cZ g cn9 In9 Fn9) := hD1.weaken (fun _ _ _ h => hFc _ h)
        generalize H1 = H at hP hS ⊢
        have vh_9 : (fun r c2 I2 F2 => Fr [19, 23, 24, 26] [21, 22] [27, 28] (va_up (va_up cn 19 ((cn 19) + 1)) 24 0) (va_up In 22 0) (va_up Fn 29 (upd (Fn 29) (cn 25) (nI (cn 23)))) c2 I2 F2 ∧ IM c2 F2 ∧ (r = 0 ∨ (r = 1 ∧ PBk (c2 19) (c2 20) (c2 23) (c2 24) (F2 27) (F2 28) (cn 23) (0 + 1) 0 ∧ c2 24 = 0 ∧ (∀ k : Nat, k < (cn 23) → F2 27 k = (Fn 27) k) ∧ (∀ i : Nat, i < 0 → F2 28 i = (Fn 28) i) ∧ ((cn 19) + 1) < c2 19))) r_8 cn9 In9 Fn9 := wh_9
        obtain ⟨hfc9, hIn9, h_9⟩ := vh_9
        have hf9 : Fr [19, 23, 24, 25, 26] [21, 22] [27, 28, 29, 30, 31] cn In Fn cn9 In9 Fn9 := Fr.mo (Fr.tr (Fr.f 29 (Fr.i 22 (Fr.c 24 (Fr.c 19 (Fr.rf (cn := cn) (In := In) (Fn := Fn)))))) hfc9) (sbl rfl) (sbl rfl) (sbl rfl)
        have hi_cn9 : Hid (CB cn9) := hIn9.b
        have : cn9 20 = cn 20 := hf9.1 20 (nml rfl)
        have hq_cn9 := Hid.i (frq_19_23_24_25_26_0_1_2_46_57_58_62_63_75_83_44 hf9)
        have : cn9 20 = (cn 20) := hfc9.1 20 (nml rfl)
        have : cn9 25 = (cn 25) := hfc9.1 25 (nml rfl)
        rcases h_9 with rfl | ⟨rfl, kh_9⟩
        ·
          refine lv_if_ne (tgt := 93) hx hb dX12_readsClause_88 rfl (fun h => absurd h cq_eq_0_0) (fun _ => ?_)
          refine lv_iconst (v := 0) hx hb (oc_3 91 (aq_19 shX12_readsClause_72)) kic_0 ?_
          exact W.zret (v := 0) hx hb hr rfl (fun t ht hW => ⟨⟨0, (cn9, In9, Fn9), rfl, ⟨(Fr.mo hf9 (sbl rfl) (sbl rfl) (sbl rfl)), hIn9, (by show 0 = 0 ∨ (0 = 1 ∧ cn 19 < cn9 19 ∧ cn9 19 ≤ cn 20 ∧ cn9 23 ≤ cn9 19 ∧ cn9 25 ≤ 12 ∧ ALL (Fn9 27) (cn9 23) (cn9 25) (Fn9 29) (Fn9 30) (Fn9 31)); exact Or.inl rfl)⟩, by rw [ht]; exact hP, hD⟩, hS.F ht⟩) hS.2.2 (oc_172 92 (aq_20 shX12_readsClause_72))
        ·
          obtain ⟨kh_9a, kh_9e, kh_9b, kh_9c, kh_9d⟩ := kh_9
          have kh_9f := kh_9a.f
          refine lv_if_ne (tgt := 93) hx hb dX12_readsClause_88 rfl (fun _ => ?_) (fun h => absurd h cq_eq_1_0)
          have hseg1 : SegOK (Fn9 27) 0 (cn 23) (cn9 23) := PBk.seg' kh_9a kh_9e
          have e29a : Fn9 29 = upd (Fn 29) (cn 25) (nI (cn 23)) := hfc9.2.2 29 (nml rfl)
          have e30a : Fn9 30 = Fn 30 := hfc9.2.2 30 (nml rfl)
          have e31a : Fn9 31 = Fn 31 := hfc9.2.2 31 (nml rfl)
          have esaid : ∀ k : Nat, k < cn 23 → Fn9 27 k = Fn 27 k := kh_9b
          refine lv_aload_n hx hb (oc_42 93 (aq_21 shX12_readsClause_72)) rfl (lvA0 hl) ?_
          refine gM_65 S hK hP (v := .ref (g 30)) rfl (oc_180 94 (aq_22 shX12_readsClause_72) uw_0_65) ?_
          refine lv_aload_n hx hb (oc_42 97 shX12_readsClause_97) rfl (lvA0 hl) ?_
          refine gM_312 S hK hP (v := .int (nI (cn9 25))) rfl (oc_180 98 (aq_1 shX12_readsClause_97) uw_1_56) ?_
          refine lv_aload_n hx hb (oc_42 101 (aq_4 shX12_readsClause_97)) rfl (lvA0 hl) ?_
          refine gM_257 S hK hP (v := .int (nI (cn9 23))) rfl (oc_180 102 (aq_5 shX12_readsClause_97) uw_1_1) ?_
          have kb_2 : (cn9 25) < 12 := by (first | omega | (have zz0 := Hid.u hi_cn; have zz1 := Hid.u hi_cn9; have zz2 := Hid.u hq_cn9; omega))
          refine stM_30 hx hb hK hP hD hS (Fn2 := (va_up Fn9 30 (upd (Fn9 30) (cn9 25) (nI (cn9 23))))) (vp_in_nI kb_2 (ltb rfl)) (nI_clamp (Nat.lt_trans kb_2 (ltb rfl))) rfl (oc_79 105 (aq_8 shX12_readsClause_97)) (fun H locs hP hD hS => ?_)
          refine lv_aload_n hx hb (oc_42 106 (aq_9 shX12_readsClause_97)) rfl (lvA0 hl) ?_
          have hFc := free_all hD hS hA
          refine va_calli (runV_a (As := []) (rest := []) S (q_readsCondition l D cI cB cZ g cn9 In9 (va_up Fn9 30 (upd (Fn9 30) (cn9 25) (nI (cn9 23))))  H.size (IM.fr (In := In9) hIn9 (Fr.f 30 Fr.rf) (by decide) (by decide)) (by (first | omega | (have zz0 := Hid.u hi_cn; have zz1 := Hid.u hi_cn9; have zz2 := Hid.u hq_cn9; omega))) (by (first | omega | (have zz0 := Hid.u hi_cn; have zz1 := Hid.u hi_cn9; have zz2 := Hid.u hq_cn9; omega))) (by (first | omega | (have zz0 := Hid.u hi_cn; have zz1 := Hid.u hi_cn9; have zz2 := Hid.u hq_cn9; omega)))) kV_RX12_315 hK hP hD 0 rfl rfl rfl ⟨Nat.le_of_ble_eq_true rfl, Nat.le_of_ble_eq_true rfl⟩ ⟨Nat.le_of_ble_eq_true rfl, Nat.le_of_ble_eq_true rfl⟩ rfl hl.1 rfl (Nat.le_of_ble_eq_true rfl) (oc_182 107 (aq_10 shX12_readsClause_97) uw_1_59)) hS (fun q _ h => hFc q h) hFc (fun r_10 u t H1 locs ht hvm wh_11 hB hz1 hk1 hS => ?_)
          obtain ⟨cn11, In11, Fn11⟩ := u
          obtain ⟨hP1, hD1⟩ := hB
          rw [ht] at hP1
          have hP : va_P D vwCl (wM cI cB cZ g cn11 In11 Fn11) H1 := hP1
          have hD : va_D A (wM cI cB cZ g cn11 In11 Fn11) := hD1.weaken (fun _ _ _ h => hFc _ h)
          generalize H1 = H at hP hS ⊢
          have vh_11 : (fun r c2 I2 F2 => Fr [19, 23, 24, 26] [21, 22] [27, 28] cn9 In9 (va_up Fn9 30 (upd (Fn9 30) (cn9 25) (nI (cn9 23)))) c2 I2 F2 ∧ IM c2 F2 ∧ (r = 0 ∨ (r = 1 ∧ SegOK (F2 27) 0 ((cn9 23)) (c2 23) ∧ (cn9 23) ≤ c2 23 ∧ c2 23 ≤ c2 19 ∧ ((cn9 19) ≤ c2 19 ∧ c2 19 ≤ (cn9 20)) ∧ (∀ k : Nat, k < (cn9 23) → F2 27 k = (Fn9 27) k)))) r_10 cn11 In11 Fn11 := wh_11
          obtain ⟨hfc11, hIn11, h_11⟩ := vh_11
          have hf11 : Fr [19, 23, 24, 25, 26] [21, 22] [27, 28, 29, 30, 31] cn In Fn cn11 In11 Fn11 := Fr.mo (Fr.tr (Fr.f 30 hf9) hfc11) (sbl rfl) (sbl rfl) (sbl rfl)
          have hi_cn11 : Hid (CB cn11) := hIn11.b
          have : cn11 20 = cn 20 := hf11.1 20 (nml rfl)
          have hq_cn11 := Hid.i (frq_19_23_24_25_26_0_1_2_46_57_58_62_63_75_83_44 hf11)
          have : cn11 20 = (cn9 20) := hfc11.1 20 (nml rfl)
          have : cn11 25 = (cn9 25) := hfc11.1 25 (nml rfl)
          rcases h_11 with rfl | ⟨rfl, kh_11⟩
          ·
            refine lv_if_ne (tgt := 115) hx hb dX12_readsClause_110 rfl (fun h => absurd h cq_eq_0_0) (fun _ => ?_)
            refine lv_iconst (v := 0) hx hb (oc_3 113 (aq_16 shX12_readsClause_97)) kic_0 ?_
            exact W.zret (v := 0) hx hb hr rfl (fun t ht hW => ⟨⟨0, (cn11, In11, Fn11), rfl, ⟨(Fr.mo hf11 (sbl rfl) (sbl rfl) (sbl rfl)), hIn11, (by show 0 = 0 ∨ (0 = 1 ∧ cn 19 < cn11 19 ∧ cn11 19 ≤ cn 20 ∧ cn11 23 ≤ cn11 19 ∧ cn11 25 ≤ 12 ∧ ALL (Fn11 27) (cn11 23) (cn11 25) (Fn11 29) (Fn11 30) (Fn11 31)); exact Or.inl rfl)⟩, by rw [ht]; exact hP, hD⟩, hS.F ht⟩) hS.2.2 (oc_172 114 (aq_17 shX12_readsClause_97))
          ·
            obtain ⟨kh_11a, kh_11b, kh_11c, kh_11d, kh_11e⟩ := kh_11
            refine lv_if_ne (tgt := 115) hx hb dX12_readsClause_110 rfl (fun _ => ?_) (fun h => absurd h cq_eq_1_0)
            have e29 : Fn11 29 = upd (Fn 29) (cn 25) (nI (cn 23)) := (hfc11.2.2 29 (nml rfl)).trans e29a
            have e30 : Fn11 30 = upd (Fn 30) (cn 25) (nI (cn9 23)) := (hfc11.2.2 30 (nml rfl)).trans (by show upd (Fn9 30) (cn9 25) _ = _; rw [e30a, show cn9 25 = cn 25 by (first | omega | (have zz0 := Hid.u hi_cn; have zz1 := Hid.u hi_cn11; have zz2 := Hid.u hi_cn9; have zz3 := Hid.u hq_cn11; have zz4 := Hid.u hq_cn9; omega))])
            have e31 : Fn11 31 = Fn 31 := (hfc11.2.2 31 (nml rfl)).trans e31a
            have esd : ∀ k : Nat, k < cn 23 → Fn11 27 k = Fn 27 k := fun k hk => (kh_11e k (by (first | omega | (have zz0 := Hid.u hi_cn; have zz1 := Hid.u hi_cn11; have zz2 := Hid.u hi_cn9; have zz3 := Hid.u hq_cn11; have zz4 := Hid.u hq_cn9; omega)))).trans (esaid k hk)
            have hall : ALL (Fn11 27) (cn11 23) (cn11 25 + 1) (Fn11 29) (Fn11 30) (upd (Fn11 31) (cn11 25) (nI (cn11 23))) := by rw [e29, e30, e31, show cn11 25 = cn 25 by (first | omega | (have zz0 := Hid.u hi_cn; have zz1 := Hid.u hi_cn11; have zz2 := Hid.u hi_cn9; have zz3 := Hid.u hq_cn11; have zz4 := Hid.u hq_cn9; omega))]; exact ALL.add hL esd (by (first | omega | (have zz0 := Hid.u hi_cn; have zz1 := Hid.u hi_cn11; have zz2 := Hid.u hi_cn9; have zz3 := Hid.u hq_cn11; have zz4 := Hid.u hq_cn9; omega))) (by (first | omega | (have zz0 := Hid.u hi_cn; have zz1 := Hid.u hi_cn11; have zz2 := Hid.u hi_cn9; have zz3 := Hid.u hq_cn11; have zz4 := Hid.u hq_cn9; omega))) (SegOK.cg hseg1 (fun k hk => kh_11e k hk)) kh_11a
            refine lv_aload_n hx hb (oc_42 115 (aq_18 shX12_readsClause_97)) rfl (lvA0 hl) ?_
            refine gM_68 S hK hP (v := .ref (g 31)) rfl (oc_180 116 (aq_19 shX12_readsClause_97) uw_0_68) ?_
            refine lv_aload_n hx hb (oc_42 119 (aq_22 shX12_readsClause_97)) rfl (lvA0 hl) ?_
            refine gM_312 S hK hP (v := .int (nI (cn11 25))) rfl (oc_180 120 (aq_23 shX12_readsClause_97) uw_1_56) ?_
            refine lv_aload_n hx hb (oc_42 123 shX12_readsClause_123) rfl (lvA0 hl) ?_
            refine gM_257 S hK hP (v := .int (nI (cn11 23))) rfl (oc_180 124 (aq_1 shX12_readsClause_123) uw_1_1) ?_
            have kb_3 : (cn11 25) < 12 := by (first | omega | (have zz0 := Hid.u hi_cn; have zz1 := Hid.u hi_cn11; have zz2 := Hid.u hi_cn9; have zz3 := Hid.u hq_cn11; have zz4 := Hid.u hq_cn9; omega))
            refine stM_31 hx hb hK hP hD hS (Fn2 := (va_up Fn11 31 (upd (Fn11 31) (cn11 25) (nI (cn11 23))))) (vp_in_nI kb_3 (ltb rfl)) (nI_clamp (Nat.lt_trans kb_3 (ltb rfl))) rfl (oc_79 127 (aq_4 shX12_readsClause_123)) (fun H locs hP hD hS => ?_)
            refine lv_aload_n hx hb (oc_42 128 (aq_5 shX12_readsClause_123)) rfl (lvA0 hl) ?_
            refine lv_aload_n hx hb (oc_42 129 (aq_6 shX12_readsClause_123)) rfl (lvA0 hl) ?_
            refine gM_312 S hK hP (v := .int (nI (cn11 25))) rfl (oc_180 130 (aq_7 shX12_readsClause_123) uw_1_56) ?_
            refine lv_iconst (v := 1) hx hb (oc_4 133 (aq_10 shX12_readsClause_123)) kic_1 ?_
            refine lv_iadd hx hb (oc_96 134 (aq_11 shX12_readsClause_123)) ?_
            refine lv_topi (fun y_12 ey_12 => ?_)
            obtain rfl : y_12 = (nI ((cn11 25) + 1)) := ey_12.trans (nI_add (cn11 25) 1)
            refine pM_312 S hK hP hD hS (a := ((cn11 25) + 1)) (cn2 := (va_up cn11 25 ((cn11 25) + 1))) rfl rfl (oc_181 135 (aq_12 shX12_readsClause_123) uw_1_56) (fun H locs hP hD hS => ?_)
            refine lv_iconst (v := 1) hx hb (oc_4 138 (aq_15 shX12_readsClause_123)) kic_1 ?_
            exact W.zret (v := 1) hx hb hr rfl (fun t ht hW => ⟨⟨1, ((va_up cn11 25 ((cn11 25) + 1)), In11, (va_up Fn11 31 (upd (Fn11 31) (cn11 25) (nI (cn11 23))))), rfl, ⟨(Fr.mo (Fr.f 31 (Fr.c 25 hf11)) (sbl rfl) (sbl rfl) (sbl rfl)), (IM.fr (In := In11) hIn11 (Fr.f 31 (Fr.c 25 Fr.rf)) (by decide) (by decide)), (by show 1 = 0 ∨ (1 = 1 ∧ cn 19 < (va_up cn11 25 ((cn11 25) + 1)) 19 ∧ (va_up cn11 25 ((cn11 25) + 1)) 19 ≤ cn 20 ∧ (va_up cn11 25 ((cn11 25) + 1)) 23 ≤ (va_up cn11 25 ((cn11 25) + 1)) 19 ∧ (va_up cn11 25 ((cn11 25) + 1)) 25 ≤ 12 ∧ ALL ((va_up Fn11 31 (upd (Fn11 31) (cn11 25) (nI (cn11 23)))) 27) ((va_up cn11 25 ((cn11 25) + 1)) 23) ((va_up cn11 25 ((cn11 25) + 1)) 25) ((va_up Fn11 31 (upd (Fn11 31) (cn11 25) (nI (cn11 23)))) 29) ((va_up Fn11 31 (upd (Fn11 31) (cn11 25) (nI (cn11 23)))) 30) ((va_up Fn11 31 (upd (Fn11 31) (cn11 25) (nI (cn11 23)))) 31)); exact Or.inr ⟨rfl, (by show cn 19 < cn11 19; (first | omega | (have zz0 := Hid.u hi_cn; have zz1 := Hid.u hi_cn11; have zz2 := Hid.u hi_cn9; have zz3 := Hid.u hq_cn11; have zz4 := Hid.u hq_cn9; omega))), (by show cn11 19 ≤ cn 20; (first | omega | (have zz0 := Hid.u hi_cn; have zz1 := Hid.u hi_cn11; have zz2 := Hid.u hi_cn9; have zz3 := Hid.u hq_cn11; have zz4 := Hid.u hq_cn9; omega))), (by show cn11 23 ≤ cn11 19; (first | omega | (have zz0 := Hid.u hi_cn; have zz1 := Hid.u hi_cn11; have zz2 := Hid.u hi_cn9; have zz3 := Hid.u hq_cn11; have zz4 := Hid.u hq_cn9; omega))), (by show cn11 25 + 1 ≤ 12; (first | omega | (have zz0 := Hid.u hi_cn; have zz1 := Hid.u hi_cn11; have zz2 := Hid.u hi_cn9; have zz3 := Hid.u hq_cn11; have zz4 := Hid.u hq_cn9; omega))), hall⟩)⟩, by rw [ht]; exact hP, hD⟩, hS.F ht⟩) hS.2.2 (oc_172 139 (aq_16 shX12_readsClause_123))
      ·
        have tc_5 : ((nI (cn 25)).toInt : Int) = 12 := congrArg Int32.toInt c_5
        refine lv_aload_n hx hb (oc_42 37 (aq_13 shX12_readsClause_24)) rfl (lvA0 hl) ?_
        refine lv_iconst (v := 4) hx hb (oc_7 38 (aq_14 shX12_readsClause_24)) kic_4 ?_
        refine lv_aload_n hx hb (oc_42 39 (aq_15 shX12_readsClause_24)) rfl (lvA0 hl) ?_
        refine gM_233 S hK hP (v := .int (nI (cn 19))) rfl (oc_180 40 (aq_16 shX12_readsClause_24) uw_0_233) ?_
        have hFc := free_all hD hS hA
        refine va_calli (runV_a (As := [.int 4, .int (nI (cn 19))]) (rest := []) S (q_wrong l D cI cB cZ g cn In Fn 4 (nI (cn 19)) s.heap.size hI) kV_RX12_246 hK hP hD 0 rfl rfl rfl ⟨Nat.le_of_ble_eq_true rfl, Nat.le_of_ble_eq_true rfl⟩ ⟨Nat.le_of_ble_eq_true rfl, Nat.le_of_ble_eq_true rfl⟩ rfl hl.1 rfl (Nat.le_of_ble_eq_true rfl) (oc_182 43 (aq_19 shX12_readsClause_24) uw_0_246)) hS (fun q _ h => hFc q h) hFc (fun r_13 u t H1 locs ht hvm wh_14 hB hz1 hk1 hS => ?_)
        obtain ⟨cn14, In14, Fn14⟩ := u
        obtain ⟨hP1, hD1⟩ := hB
        rw [ht] at hP1
        have vh_14 : (fun r c2 I2 F2 => (∀ k : Nat, k ∉ [21] → I2 k = In k) ∧ ((r = 0 ∧ (True) ∧ cn = c2 ∧ Fn = F2))) r_13 cn14 In14 Fn14 := wh_14
        obtain ⟨hI14_, vh_14⟩ := vh_14
        obtain ⟨rfl, h_14, rfl, rfl⟩ := vh_14
        have hf14 : Fr [19, 23, 24, 25, 26] [21, 22] [27, 28, 29, 30, 31] cn In Fn cn In14 Fn := Fr.mo (Fr.tr (Fr.rf (cn := cn) (In := In) (Fn := Fn)) (show Fr [] [21] [] cn In Fn cn In14 Fn from ⟨fun _ _ => rfl, hI14_, fun _ _ => rfl⟩)) (sbl rfl) (sbl rfl) (sbl rfl)
        have hP : va_P D vwCl (wM cI cB cZ g cn In14 Fn) H1 := hP1
        have hD : va_D A (wM cI cB cZ g cn In14 Fn) := hD1.weaken (fun _ _ _ h => hFc _ h)
        generalize H1 = H at hP hS ⊢
        exact W.zret (v := 0) hx hb hr rfl (fun t ht hW => ⟨⟨0, (cn, In14, Fn), rfl, ⟨(Fr.mo hf14 (sbl rfl) (sbl rfl) (sbl rfl)), hI, (by show 0 = 0 ∨ (0 = 1 ∧ cn 19 < cn 19 ∧ cn 19 ≤ cn 20 ∧ cn 23 ≤ cn 19 ∧ cn 25 ≤ 12 ∧ ALL (Fn 27) (cn 23) (cn 25) (Fn 29) (Fn 30) (Fn 31)); exact Or.inl rfl)⟩, by rw [ht]; exact hP, hD⟩, hS.F ht⟩) hS.2.2 (oc_172 46 (aq_22 shX12_readsClause_24))
    ·
      have tc_4 : (r_1.toInt : Int) ≠ 112 := fun q => c_4 (Int32.toInt_inj.mp q)
      refine lv_aload_n hx hb (oc_42 18 (aq_18 shX12_readsClause_0)) rfl (lvA0 hl) ?_
      refine lv_iconst (v := 1) hx hb (oc_4 19 (aq_19 shX12_readsClause_0)) kic_1 ?_
      refine lv_aload_n hx hb (oc_42 20 (aq_20 shX12_readsClause_0)) rfl (lvA0 hl) ?_
      refine gM_233 S hK hP (v := .int (nI (cn 19))) rfl (oc_180 21 (aq_21 shX12_readsClause_0) uw_0_233) ?_
      have hFc := free_all hD hS hA
      refine va_calli (runV_a (As := [.int 1, .int (nI (cn 19))]) (rest := []) S (q_wrong l D cI cB cZ g cn In Fn 1 (nI (cn 19)) s.heap.size hI) kV_RX12_246 hK hP hD 0 rfl rfl rfl ⟨Nat.le_of_ble_eq_true rfl, Nat.le_of_ble_eq_true rfl⟩ ⟨Nat.le_of_ble_eq_true rfl, Nat.le_of_ble_eq_true rfl⟩ rfl hl.1 rfl (Nat.le_of_ble_eq_true rfl) (oc_182 24 shX12_readsClause_24 uw_0_246)) hS (fun q _ h => hFc q h) hFc (fun r_15 u t H1 locs ht hvm wh_16 hB hz1 hk1 hS => ?_)
      obtain ⟨cn16, In16, Fn16⟩ := u
      obtain ⟨hP1, hD1⟩ := hB
      rw [ht] at hP1
      have vh_16 : (fun r c2 I2 F2 => (∀ k : Nat, k ∉ [21] → I2 k = In k) ∧ ((r = 0 ∧ (True) ∧ cn = c2 ∧ Fn = F2))) r_15 cn16 In16 Fn16 := wh_16
      obtain ⟨hI16_, vh_16⟩ := vh_16
      obtain ⟨rfl, h_16, rfl, rfl⟩ := vh_16
      have hf16 : Fr [19, 23, 24, 25, 26] [21, 22] [27, 28, 29, 30, 31] cn In Fn cn In16 Fn := Fr.mo (Fr.tr (Fr.rf (cn := cn) (In := In) (Fn := Fn)) (show Fr [] [21] [] cn In Fn cn In16 Fn from ⟨fun _ _ => rfl, hI16_, fun _ _ => rfl⟩)) (sbl rfl) (sbl rfl) (sbl rfl)
      have hP : va_P D vwCl (wM cI cB cZ g cn In16 Fn) H1 := hP1
      have hD : va_D A (wM cI cB cZ g cn In16 Fn) := hD1.weaken (fun _ _ _ h => hFc _ h)
      generalize H1 = H at hP hS ⊢
      exact W.zret (v := 0) hx hb hr rfl (fun t ht hW => ⟨⟨0, (cn, In16, Fn), rfl, ⟨(Fr.mo hf16 (sbl rfl) (sbl rfl) (sbl rfl)), hI, (by show 0 = 0 ∨ (0 = 1 ∧ cn 19 < cn 19 ∧ cn 19 ≤ cn 20 ∧ cn 23 ≤ cn 19 ∧ cn 25 ≤ 12 ∧ ALL (Fn 27) (cn 23) (cn 25) (Fn 29) (Fn 30) (Fn 31)); exact Or.inl rfl)⟩, by rw [ht]; exact hP, hD⟩, hS.F ht⟩) hS.2.2 (oc_172 27 (aq_3 shX12_readsClause_24))
  ·
    have tc_3 : (v0.toInt : Int) ≠ 0 := fun q => c_3 (Int32.toInt_inj.mp q)
    refine lv_bipush (v := 108) hx hb (oc_16 8 (aq_8 shX12_readsClause_0) sgb_108) kbc_108 ?_
    refine lv_goto (tgt := 15) hx hb (oc_167 10 (aq_10 shX12_readsClause_0) sgw_0_5) rfl ?_
    refine lv_icmp_eq (tgt := 28) hx hb (oc_159 15 (aq_15 shX12_readsClause_0) sgw_0_13) rfl (fun c_17 => ?_) (fun c_17 => ?_)
    ·
      have tc_17 : (r_1.toInt : Int) = 108 := congrArg Int32.toInt c_17
      refine lv_aload_n hx hb (oc_42 28 (aq_4 shX12_readsClause_24)) rfl (lvA0 hl) ?_
      refine gM_312 S hK hP (v := .int (nI (cn 25))) rfl (oc_180 29 (aq_5 shX12_readsClause_24) uw_1_56) ?_
      refine lv_bipush (v := 12) hx hb (oc_16 32 (aq_8 shX12_readsClause_24) sgb_12) kbc_12 ?_
      have : (nI (cn 25)).toInt = (((cn 25) : Nat) : Int) := nI_toInt (by (first | omega | (have zz0 := Hid.u hi_cn; omega)))
      refine lv_icmp_ne (tgt := 47) hx hb (oc_160 34 (aq_10 shX12_readsClause_24) sgw_0_13) rfl (fun c_18 => ?_) (fun c_18 => ?_)
      ·
        have tc_18 : ((nI (cn 25)).toInt : Int) ≠ 12 := fun q => c_18 (Int32.toInt_inj.mp q)
        refine lv_aload_n hx hb (oc_42 47 (aq_23 shX12_readsClause_24)) rfl (lvA0 hl) ?_
        refine lv_aload_n hx hb (oc_42 48 shX12_readsClause_48) rfl (lvA0 hl) ?_
        refine gM_233 S hK hP (v := .int (nI (cn 19))) rfl (oc_180 49 (aq_1 shX12_readsClause_48) uw_0_233) ?_
        refine lv_iconst (v := 1) hx hb (oc_4 52 (aq_4 shX12_readsClause_48)) kic_1 ?_
        refine lv_iadd hx hb (oc_96 53 (aq_5 shX12_readsClause_48)) ?_
        refine lv_topi (fun y_19 ey_19 => ?_)
        obtain rfl : y_19 = (nI ((cn 19) + 1)) := ey_19.trans (nI_add (cn 19) 1)
        refine pM_233 S hK hP hD hS (a := ((cn 19) + 1)) (cn2 := (va_up cn 19 ((cn 19) + 1))) rfl rfl (oc_181 54 (aq_6 shX12_readsClause_48) uw_0_233) (fun H locs hP hD hS => ?_)
        refine lv_aload_n hx hb (oc_42 57 (aq_9 shX12_readsClause_48)) rfl (lvA0 hl) ?_
        refine gM_62 S hK hP (v := .ref (g 29)) rfl (oc_180 58 (aq_10 shX12_readsClause_48) uw_0_62) ?_
        refine lv_aload_n hx hb (oc_42 61 (aq_13 shX12_readsClause_48)) rfl (lvA0 hl) ?_
        refine gM_312 S hK hP (v := .int (nI (cn 25))) rfl (oc_180 62 (aq_14 shX12_readsClause_48) uw_1_56) ?_
        refine lv_aload_n hx hb (oc_42 65 (aq_17 shX12_readsClause_48)) rfl (lvA0 hl) ?_
        refine gM_257 S hK hP (v := .int (nI (cn 23))) rfl (oc_180 66 (aq_18 shX12_readsClause_48) uw_1_1) ?_
        have kb_4 : (cn 25) < 12 := by (first | omega | (have zz0 := Hid.u hi_cn; omega))
        refine stM_29 hx hb hK hP hD hS (Fn2 := (va_up Fn 29 (upd (Fn 29) (cn 25) (nI (cn 23))))) (vp_in_nI kb_4 (ltb rfl)) (nI_clamp (Nat.lt_trans kb_4 (ltb rfl))) rfl (oc_79 69 (aq_21 shX12_readsClause_48)) (fun H locs hP hD hS => ?_)
        refine lv_aload_n hx hb (oc_42 70 (aq_22 shX12_readsClause_48)) rfl (lvA0 hl) ?_
        refine lv_iconst (v := 0) hx hb (oc_3 71 (aq_23 shX12_readsClause_48)) kic_0 ?_
        refine pM_261 S hK hP hD hS (In2 := (va_up In 22 0)) rfl (oc_181 72 shX12_readsClause_72 uw_1_5) (fun H locs hP hD hS => ?_)
        refine lv_aload_n hx hb (oc_42 75 (aq_3 shX12_readsClause_72)) rfl (lvA0 hl) ?_
        refine lv_iconst (v := 0) hx hb (oc_3 76 (aq_4 shX12_readsClause_72)) kic_0 ?_
        refine pM_264 S hK hP hD hS (a := 0) (cn2 := (va_up (va_up cn 19 ((cn 19) + 1)) 24 0)) rfl rfl (oc_181 77 (aq_5 shX12_readsClause_72) uw_1_8) (fun H locs hP hD hS => ?_)
        refine lv_iload_n hx hb (oc_27 80 (aq_8 shX12_readsClause_72)) rfl (lvA1 hl) ?_
        refine lv_if_ne (tgt := 93) hx hb (oc_154 81 (aq_9 shX12_readsClause_72) sgw_0_12) rfl (fun c_20 => ?_) (fun c_20 => ?_)
        ·
          have tc_20 : (v0.toInt : Int) ≠ 0 := fun q => c_20 (Int32.toInt_inj.mp q)
          have hseg1 := SegOK.nil (Fn 27) (cn 23)
          refine lv_aload_n hx hb (oc_42 93 (aq_21 shX12_readsClause_72)) rfl (lvA0 hl) ?_
          refine gM_65 S hK hP (v := .ref (g 30)) rfl (oc_180 94 (aq_22 shX12_readsClause_72) uw_0_65) ?_
          refine lv_aload_n hx hb (oc_42 97 shX12_readsClause_97) rfl (lvA0 hl) ?_
          refine gM_312 S hK hP (v := .int (nI (cn 25))) rfl (oc_180 98 (aq_1 shX12_readsClause_97) uw_1_56) ?_
          refine lv_aload_n hx hb (oc_42 101 (aq_4 shX12_readsClause_97)) rfl (lvA0 hl) ?_
          refine gM_257 S hK hP (v := .int (nI (cn 23))) rfl (oc_180 102 (aq_5 shX12_readsClause_97) uw_1_1) ?_
          refine stM_30 hx hb hK hP hD hS (Fn2 := (va_up (va_up Fn 29 (upd (Fn 29) (cn 25) (nI (cn 23)))) 30 (upd (Fn 30) (cn 25) (nI (cn 23))))) (vp_in_nI kb_4 (ltb rfl)) (nI_clamp (Nat.lt_trans kb_4 (ltb rfl))) rfl (oc_79 105 (aq_8 shX12_readsClause_97)) (fun H locs hP hD hS => ?_)
          refine lv_aload_n hx hb (oc_42 106 (aq_9 shX12_readsClause_97)) rfl (lvA0 hl) ?_
          have hFc := free_all hD hS hA
          refine va_calli (runV_a (As := []) (rest := []) S (q_readsCondition l D cI cB cZ g (va_up (va_up cn 19 ((cn 19) + 1)) 24 0) (va_up In 22 0) (va_up (va_up Fn 29 (upd (Fn 29) (cn 25) (nI (cn 23)))) 30 (upd (Fn 30) (cn 25) (nI (cn 23))))  H.size (IM.fr (In := In) hI (Fr.f 30 (Fr.f 29 (Fr.c 24 (Fr.c 19 Fr.rf)))) (by decide) (by decide)) (show ((cn 19) + 1) ≤ (cn 20) by (first | omega | (have zz0 := Hid.u hi_cn; omega))) (show (cn 20) ≤ 160 by (first | omega | (have zz0 := Hid.u hi_cn; omega))) (show (cn 23) ≤ ((cn 19) + 1) by (first | omega | (have zz0 := Hid.u hi_cn; omega)))) kV_RX12_315 hK hP hD 0 rfl rfl rfl ⟨Nat.le_of_ble_eq_true rfl, Nat.le_of_ble_eq_true rfl⟩ ⟨Nat.le_of_ble_eq_true rfl, Nat.le_of_ble_eq_true rfl⟩ rfl hl.1 rfl (Nat.le_of_ble_eq_true rfl) (oc_182 107 (aq_10 shX12_readsClause_97) uw_1_59)) hS (fun q _ h => hFc q h) hFc (fun r_21 u t H1 locs ht hvm wh_22 hB hz1 hk1 hS => ?_)
          obtain ⟨cn22, In22, Fn22⟩ := u
          obtain ⟨hP1, hD1⟩ := hB
          rw [ht] at hP1
          have hP : va_P D vwCl (wM cI cB cZ g cn22 In22 Fn22) H1 := hP1
          have hD : va_D A (wM cI cB cZ g cn22 In22 Fn22) := hD1.weaken (fun _ _ _ h => hFc _ h)
          generalize H1 = H at hP hS ⊢
          have vh_22 : (fun r c2 I2 F2 => Fr [19, 23, 24, 26] [21, 22] [27, 28] (va_up (va_up cn 19 ((cn 19) + 1)) 24 0) (va_up In 22 0) (va_up (va_up Fn 29 (upd (Fn 29) (cn 25) (nI (cn 23)))) 30 (upd (Fn 30) (cn 25) (nI (cn 23)))) c2 I2 F2 ∧ IM c2 F2 ∧ (r = 0 ∨ (r = 1 ∧ SegOK (F2 27) 0 ((cn 23)) (c2 23) ∧ (cn 23) ≤ c2 23 ∧ c2 23 ≤ c2 19 ∧ (((cn 19) + 1) ≤ c2 19 ∧ c2 19 ≤ (cn 20)) ∧ (∀ k : Nat, k < (cn 23) → F2 27 k = (Fn 27) k)))) r_21 cn22 In22 Fn22 := wh_22
          obtain ⟨hfc22, hIn22, h_22⟩ := vh_22
          have hf22 : Fr [19, 23, 24, 25, 26] [21, 22] [27, 28, 29, 30, 31] cn In Fn cn22 In22 Fn22 := Fr.mo (Fr.tr (Fr.f 30 (Fr.f 29 (Fr.i 22 (Fr.c 24 (Fr.c 19 (Fr.rf (cn := cn) (In := In) (Fn := Fn))))))) hfc22) (sbl rfl) (sbl rfl) (sbl rfl)
          have hi_cn22 : Hid (CB cn22) := hIn22.b
          have : cn22 20 = cn 20 := hf22.1 20 (nml rfl)
          have hq_cn22 := Hid.i (frq_19_23_24_25_26_0_1_2_46_57_58_62_63_75_83_44 hf22)
          have : cn22 20 = (cn 20) := hfc22.1 20 (nml rfl)
          have : cn22 25 = (cn 25) := hfc22.1 25 (nml rfl)
          rcases h_22 with rfl | ⟨rfl, kh_22⟩
          ·
            refine lv_if_ne (tgt := 115) hx hb dX12_readsClause_110 rfl (fun h => absurd h cq_eq_0_0) (fun _ => ?_)
            refine lv_iconst (v := 0) hx hb (oc_3 113 (aq_16 shX12_readsClause_97)) kic_0 ?_
            exact W.zret (v := 0) hx hb hr rfl (fun t ht hW => ⟨⟨0, (cn22, In22, Fn22), rfl, ⟨(Fr.mo hf22 (sbl rfl) (sbl rfl) (sbl rfl)), hIn22, (by show 0 = 0 ∨ (0 = 1 ∧ cn 19 < cn22 19 ∧ cn22 19 ≤ cn 20 ∧ cn22 23 ≤ cn22 19 ∧ cn22 25 ≤ 12 ∧ ALL (Fn22 27) (cn22 23) (cn22 25) (Fn22 29) (Fn22 30) (Fn22 31)); exact Or.inl rfl)⟩, by rw [ht]; exact hP, hD⟩, hS.F ht⟩) hS.2.2 (oc_172 114 (aq_17 shX12_readsClause_97))
          ·
            obtain ⟨kh_22a, kh_22b, kh_22c, kh_22d, kh_22e⟩ := kh_22
            refine lv_if_ne (tgt := 115) hx hb dX12_readsClause_110 rfl (fun _ => ?_) (fun h => absurd h cq_eq_1_0)
            have e29 : Fn22 29 = upd (Fn 29) (cn 25) (nI (cn 23)) := hfc22.2.2 29 (nml rfl)
            have e30 : Fn22 30 = upd (Fn 30) (cn 25) (nI (cn 23)) := hfc22.2.2 30 (nml rfl)
            have e31 : Fn22 31 = Fn 31 := hfc22.2.2 31 (nml rfl)
            have esd : ∀ k : Nat, k < cn 23 → Fn22 27 k = Fn 27 k := kh_22e
            have hall : ALL (Fn22 27) (cn22 23) (cn22 25 + 1) (Fn22 29) (Fn22 30) (upd (Fn22 31) (cn22 25) (nI (cn22 23))) := by rw [e29, e30, e31, show cn22 25 = cn 25 by (first | omega | (have zz0 := Hid.u hi_cn; have zz1 := Hid.u hi_cn22; have zz2 := Hid.u hq_cn22; omega))]; exact ALL.add hL esd (by (first | omega | (have zz0 := Hid.u hi_cn; have zz1 := Hid.u hi_cn22; have zz2 := Hid.u hq_cn22; omega))) (by (first | omega | (have zz0 := Hid.u hi_cn; have zz1 := Hid.u hi_cn22; have zz2 := Hid.u hq_cn22; omega))) (SegOK.cg hseg1 (fun k hk => kh_22e k hk)) kh_22a
            refine lv_aload_n hx hb (oc_42 115 (aq_18 shX12_readsClause_97)) rfl (lvA0 hl) ?_
            refine gM_68 S hK hP (v := .ref (g 31)) rfl (oc_180 116 (aq_19 shX12_readsClause_97) uw_0_68) ?_
            refine lv_aload_n hx hb (oc_42 119 (aq_22 shX12_readsClause_97)) rfl (lvA0 hl) ?_
            refine gM_312 S hK hP (v := .int (nI (cn22 25))) rfl (oc_180 120 (aq_23 shX12_readsClause_97) uw_1_56) ?_
            refine lv_aload_n hx hb (oc_42 123 shX12_readsClause_123) rfl (lvA0 hl) ?_
            refine gM_257 S hK hP (v := .int (nI (cn22 23))) rfl (oc_180 124 (aq_1 shX12_readsClause_123) uw_1_1) ?_
            have kb_5 : (cn22 25) < 12 := by (first | omega | (have zz0 := Hid.u hi_cn; have zz1 := Hid.u hi_cn22; have zz2 := Hid.u hq_cn22; omega))
            refine stM_31 hx hb hK hP hD hS (Fn2 := (va_up Fn22 31 (upd (Fn22 31) (cn22 25) (nI (cn22 23))))) (vp_in_nI kb_5 (ltb rfl)) (nI_clamp (Nat.lt_trans kb_5 (ltb rfl))) rfl (oc_79 127 (aq_4 shX12_readsClause_123)) (fun H locs hP hD hS => ?_)
            refine lv_aload_n hx hb (oc_42 128 (aq_5 shX12_readsClause_123)) rfl (lvA0 hl) ?_
            refine lv_aload_n hx hb (oc_42 129 (aq_6 shX12_readsClause_123)) rfl (lvA0 hl) ?_
            refine gM_312 S hK hP (v := .int (nI (cn22 25))) rfl (oc_180 130 (aq_7 shX12_readsClause_123) uw_1_56) ?_
            refine lv_iconst (v := 1) hx hb (oc_4 133 (aq_10 shX12_readsClause_123)) kic_1 ?_
            refine lv_iadd hx hb (oc_96 134 (aq_11 shX12_readsClause_123)) ?_
            refine lv_topi (fun y_23 ey_23 => ?_)
            obtain rfl : y_23 = (nI ((cn22 25) + 1)) := ey_23.trans (nI_add (cn22 25) 1)
            refine pM_312 S hK hP hD hS (a := ((cn22 25) + 1)) (cn2 := (va_up cn22 25 ((cn22 25) + 1))) rfl rfl (oc_181 135 (aq_12 shX12_readsClause_123) uw_1_56) (fun H locs hP hD hS => ?_)
            refine lv_iconst (v := 1) hx hb (oc_4 138 (aq_15 shX12_readsClause_123)) kic_1 ?_
            exact W.zret (v := 1) hx hb hr rfl (fun t ht hW => ⟨⟨1, ((va_up cn22 25 ((cn22 25) + 1)), In22, (va_up Fn22 31 (upd (Fn22 31) (cn22 25) (nI (cn22 23))))), rfl, ⟨(Fr.mo (Fr.f 31 (Fr.c 25 hf22)) (sbl rfl) (sbl rfl) (sbl rfl)), (IM.fr (In := In22) hIn22 (Fr.f 31 (Fr.c 25 Fr.rf)) (by decide) (by decide)), (by show 1 = 0 ∨ (1 = 1 ∧ cn 19 < (va_up cn22 25 ((cn22 25) + 1)) 19 ∧ (va_up cn22 25 ((cn22 25) + 1)) 19 ≤ cn 20 ∧ (va_up cn22 25 ((cn22 25) + 1)) 23 ≤ (va_up cn22 25 ((cn22 25) + 1)) 19 ∧ (va_up cn22 25 ((cn22 25) + 1)) 25 ≤ 12 ∧ ALL ((va_up Fn22 31 (upd (Fn22 31) (cn22 25) (nI (cn22 23)))) 27) ((va_up cn22 25 ((cn22 25) + 1)) 23) ((va_up cn22 25 ((cn22 25) + 1)) 25) ((va_up Fn22 31 (upd (Fn22 31) (cn22 25) (nI (cn22 23)))) 29) ((va_up Fn22 31 (upd (Fn22 31) (cn22 25) (nI (cn22 23)))) 30) ((va_up Fn22 31 (upd (Fn22 31) (cn22 25) (nI (cn22 23)))) 31)); exact Or.inr ⟨rfl, (by show cn 19 < cn22 19; (first | omega | (have zz0 := Hid.u hi_cn; have zz1 := Hid.u hi_cn22; have zz2 := Hid.u hq_cn22; omega))), (by show cn22 19 ≤ cn 20; (first | omega | (have zz0 := Hid.u hi_cn; have zz1 := Hid.u hi_cn22; have zz2 := Hid.u hq_cn22; omega))), (by show cn22 23 ≤ cn22 19; (first | omega | (have zz0 := Hid.u hi_cn; have zz1 := Hid.u hi_cn22; have zz2 := Hid.u hq_cn22; omega))), (by show cn22 25 + 1 ≤ 12; (first | omega | (have zz0 := Hid.u hi_cn; have zz1 := Hid.u hi_cn22; have zz2 := Hid.u hq_cn22; omega))), hall⟩)⟩, by rw [ht]; exact hP, hD⟩, hS.F ht⟩) hS.2.2 (oc_172 139 (aq_16 shX12_readsClause_123))
        ·
          have tc_20 : (v0.toInt : Int) = 0 := congrArg Int32.toInt c_20
          refine lv_aload_n hx hb (oc_42 84 (aq_12 shX12_readsClause_72)) rfl (lvA0 hl) ?_
          have hFc := free_all hD hS hA
          refine va_calli (runV_a (As := []) (rest := []) S (q_readsSum l D cI cB cZ g (va_up (va_up cn 19 ((cn 19) + 1)) 24 0) (va_up In 22 0) (va_up Fn 29 (upd (Fn 29) (cn 25) (nI (cn 23)))) (cn 23) 0 0 H.size (IM.fr (In := In) hI (Fr.f 29 (Fr.c 24 (Fr.c 19 Fr.rf))) (by decide) (by decide)) (by have q := PBk.new (pl := cn 19 + 1) (ln := cn 20) (cm := cn 23) (s := 0) (C := Fn 27) (W := Fn 28) (by (first | omega | (have zz0 := Hid.u hi_cn; omega))) (by (first | omega | (have zz0 := Hid.u hi_cn; omega))) (by (first | omega | (have zz0 := Hid.u hi_cn; omega))); exact q) (fun h => absurd h (Nat.lt_irrefl 0))) kV_RX12_297 hK hP hD 0 rfl rfl rfl ⟨Nat.le_of_ble_eq_true rfl, Nat.le_of_ble_eq_true rfl⟩ ⟨Nat.le_of_ble_eq_true rfl, Nat.le_of_ble_eq_true rfl⟩ rfl hl.1 rfl (Nat.le_of_ble_eq_true rfl) (oc_182 85 (aq_13 shX12_readsClause_72) uw_1_41)) hS (fun q _ h => hFc q h) hFc (fun r_24 u t H1 locs ht hvm wh_25 hB hz1 hk1 hS => ?_)
          obtain ⟨cn25, In25, Fn25⟩ := u
          obtain ⟨hP1, hD1⟩ := hB
          rw [ht] at hP1
          have hP : va_P D vwCl (wM cI cB cZ g cn25 In25 Fn25) H1 := hP1
          have hD : va_D A (wM cI cB cZ g cn25 In25 Fn25) := hD1.weaken (fun _ _ _ h => hFc _ h)
          generalize H1 = H at hP hS ⊢
          have vh_25 : (fun r c2 I2 F2 => Fr [19, 23, 24, 26] [21, 22] [27, 28] (va_up (va_up cn 19 ((cn 19) + 1)) 24 0) (va_up In 22 0) (va_up Fn 29 (upd (Fn 29) (cn 25) (nI (cn 23)))) c2 I2 F2 ∧ IM c2 F2 ∧ (r = 0 ∨ (r = 1 ∧ PBk (c2 19) (c2 20) (c2 23) (c2 24) (F2 27) (F2 28) (cn 23) (0 + 1) 0 ∧ c2 24 = 0 ∧ (∀ k : Nat, k < (cn 23) → F2 27 k = (Fn 27) k) ∧ (∀ i : Nat, i < 0 → F2 28 i = (Fn 28) i) ∧ ((cn 19) + 1) < c2 19))) r_24 cn25 In25 Fn25 := wh_25
          obtain ⟨hfc25, hIn25, h_25⟩ := vh_25
          have hf25 : Fr [19, 23, 24, 25, 26] [21, 22] [27, 28, 29, 30, 31] cn In Fn cn25 In25 Fn25 := Fr.mo (Fr.tr (Fr.f 29 (Fr.i 22 (Fr.c 24 (Fr.c 19 (Fr.rf (cn := cn) (In := In) (Fn := Fn)))))) hfc25) (sbl rfl) (sbl rfl) (sbl rfl)
          have hi_cn25 : Hid (CB cn25) := hIn25.b
          have : cn25 20 = cn 20 := hf25.1 20 (nml rfl)
          have hq_cn25 := Hid.i (frq_19_23_24_25_26_0_1_2_46_57_58_62_63_75_83_44 hf25)
          have : cn25 20 = (cn 20) := hfc25.1 20 (nml rfl)
          have : cn25 25 = (cn 25) := hfc25.1 25 (nml rfl)
          rcases h_25 with rfl | ⟨rfl, kh_25⟩
          ·
            refine lv_if_ne (tgt := 93) hx hb dX12_readsClause_88 rfl (fun h => absurd h cq_eq_0_0) (fun _ => ?_)
            refine lv_iconst (v := 0) hx hb (oc_3 91 (aq_19 shX12_readsClause_72)) kic_0 ?_
            exact W.zret (v := 0) hx hb hr rfl (fun t ht hW => ⟨⟨0, (cn25, In25, Fn25), rfl, ⟨(Fr.mo hf25 (sbl rfl) (sbl rfl) (sbl rfl)), hIn25, (by show 0 = 0 ∨ (0 = 1 ∧ cn 19 < cn25 19 ∧ cn25 19 ≤ cn 20 ∧ cn25 23 ≤ cn25 19 ∧ cn25 25 ≤ 12 ∧ ALL (Fn25 27) (cn25 23) (cn25 25) (Fn25 29) (Fn25 30) (Fn25 31)); exact Or.inl rfl)⟩, by rw [ht]; exact hP, hD⟩, hS.F ht⟩) hS.2.2 (oc_172 92 (aq_20 shX12_readsClause_72))
          ·
            obtain ⟨kh_25a, kh_25e, kh_25b, kh_25c, kh_25d⟩ := kh_25
            have kh_25f := kh_25a.f
            refine lv_if_ne (tgt := 93) hx hb dX12_readsClause_88 rfl (fun _ => ?_) (fun h => absurd h cq_eq_1_0)
            have hseg1 : SegOK (Fn25 27) 0 (cn 23) (cn25 23) := PBk.seg' kh_25a kh_25e
            have e29a : Fn25 29 = upd (Fn 29) (cn 25) (nI (cn 23)) := hfc25.2.2 29 (nml rfl)
            have e30a : Fn25 30 = Fn 30 := hfc25.2.2 30 (nml rfl)
            have e31a : Fn25 31 = Fn 31 := hfc25.2.2 31 (nml rfl)
            have esaid : ∀ k : Nat, k < cn 23 → Fn25 27 k = Fn 27 k := kh_25b
            refine lv_aload_n hx hb (oc_42 93 (aq_21 shX12_readsClause_72)) rfl (lvA0 hl) ?_
            refine gM_65 S hK hP (v := .ref (g 30)) rfl (oc_180 94 (aq_22 shX12_readsClause_72) uw_0_65) ?_
            refine lv_aload_n hx hb (oc_42 97 shX12_readsClause_97) rfl (lvA0 hl) ?_
            refine gM_312 S hK hP (v := .int (nI (cn25 25))) rfl (oc_180 98 (aq_1 shX12_readsClause_97) uw_1_56) ?_
            refine lv_aload_n hx hb (oc_42 101 (aq_4 shX12_readsClause_97)) rfl (lvA0 hl) ?_
            refine gM_257 S hK hP (v := .int (nI (cn25 23))) rfl (oc_180 102 (aq_5 shX12_readsClause_97) uw_1_1) ?_
            have kb_6 : (cn25 25) < 12 := by (first | omega | (have zz0 := Hid.u hi_cn; have zz1 := Hid.u hi_cn25; have zz2 := Hid.u hq_cn25; omega))
            refine stM_30 hx hb hK hP hD hS (Fn2 := (va_up Fn25 30 (upd (Fn25 30) (cn25 25) (nI (cn25 23))))) (vp_in_nI kb_6 (ltb rfl)) (nI_clamp (Nat.lt_trans kb_6 (ltb rfl))) rfl (oc_79 105 (aq_8 shX12_readsClause_97)) (fun H locs hP hD hS => ?_)
            refine lv_aload_n hx hb (oc_42 106 (aq_9 shX12_readsClause_97)) rfl (lvA0 hl) ?_
            have hFc := free_all hD hS hA
            refine va_calli (runV_a (As := []) (rest := []) S (q_readsCondition l D cI cB cZ g cn25 In25 (va_up Fn25 30 (upd (Fn25 30) (cn25 25) (nI (cn25 23))))  H.size (IM.fr (In := In25) hIn25 (Fr.f 30 Fr.rf) (by decide) (by decide)) (by (first | omega | (have zz0 := Hid.u hi_cn; have zz1 := Hid.u hi_cn25; have zz2 := Hid.u hq_cn25; omega))) (by (first | omega | (have zz0 := Hid.u hi_cn; have zz1 := Hid.u hi_cn25; have zz2 := Hid.u hq_cn25; omega))) (by (first | omega | (have zz0 := Hid.u hi_cn; have zz1 := Hid.u hi_cn25; have zz2 := Hid.u hq_cn25; omega)))) kV_RX12_315 hK hP hD 0 rfl rfl rfl ⟨Nat.le_of_ble_eq_true rfl, Nat.le_of_ble_eq_true rfl⟩ ⟨Nat.le_of_ble_eq_true rfl, Nat.le_of_ble_eq_true rfl⟩ rfl hl.1 rfl (Nat.le_of_ble_eq_true rfl) (oc_182 107 (aq_10 shX12_readsClause_97) uw_1_59)) hS (fun q _ h => hFc q h) hFc (fun r_26 u t H1 locs ht hvm wh_27 hB hz1 hk1 hS => ?_)
            obtain ⟨cn27, In27, Fn27⟩ := u
            obtain ⟨hP1, hD1⟩ := hB
            rw [ht] at hP1
            have hP : va_P D vwCl (wM cI cB cZ g cn27 In27 Fn27) H1 := hP1
            have hD : va_D A (wM cI cB cZ g cn27 In27 Fn27) := hD1.weaken (fun _ _ _ h => hFc _ h)
            generalize H1 = H at hP hS ⊢
            have vh_27 : (fun r c2 I2 F2 => Fr [19, 23, 24, 26] [21, 22] [27, 28] cn25 In25 (va_up Fn25 30 (upd (Fn25 30) (cn25 25) (nI (cn25 23)))) c2 I2 F2 ∧ IM c2 F2 ∧ (r = 0 ∨ (r = 1 ∧ SegOK (F2 27) 0 ((cn25 23)) (c2 23) ∧ (cn25 23) ≤ c2 23 ∧ c2 23 ≤ c2 19 ∧ ((cn25 19) ≤ c2 19 ∧ c2 19 ≤ (cn25 20)) ∧ (∀ k : Nat, k < (cn25 23) → F2 27 k = (Fn25 27) k)))) r_26 cn27 In27 Fn27 := wh_27
            obtain ⟨hfc27, hIn27, h_27⟩ := vh_27
            have hf27 : Fr [19, 23, 24, 25, 26] [21, 22] [27, 28, 29, 30, 31] cn In Fn cn27 In27 Fn27 := Fr.mo (Fr.tr (Fr.f 30 hf25) hfc27) (sbl rfl) (sbl rfl) (sbl rfl)
            have hi_cn27 : Hid (CB cn27) := hIn27.b
            have : cn27 20 = cn 20 := hf27.1 20 (nml rfl)
            have hq_cn27 := Hid.i (frq_19_23_24_25_26_0_1_2_46_57_58_62_63_75_83_44 hf27)
            have : cn27 20 = (cn25 20) := hfc27.1 20 (nml rfl)
            have : cn27 25 = (cn25 25) := hfc27.1 25 (nml rfl)
            rcases h_27 with rfl | ⟨rfl, kh_27⟩
            ·
              refine lv_if_ne (tgt := 115) hx hb dX12_readsClause_110 rfl (fun h => absurd h cq_eq_0_0) (fun _ => ?_)
              refine lv_iconst (v := 0) hx hb (oc_3 113 (aq_16 shX12_readsClause_97)) kic_0 ?_
              exact W.zret (v := 0) hx hb hr rfl (fun t ht hW => ⟨⟨0, (cn27, In27, Fn27), rfl, ⟨(Fr.mo hf27 (sbl rfl) (sbl rfl) (sbl rfl)), hIn27, (by show 0 = 0 ∨ (0 = 1 ∧ cn 19 < cn27 19 ∧ cn27 19 ≤ cn 20 ∧ cn27 23 ≤ cn27 19 ∧ cn27 25 ≤ 12 ∧ ALL (Fn27 27) (cn27 23) (cn27 25) (Fn27 29) (Fn27 30) (Fn27 31)); exact Or.inl rfl)⟩, by rw [ht]; exact hP, hD⟩, hS.F ht⟩) hS.2.2 (oc_172 114 (aq_17 shX12_readsClause_97))
            ·
              obtain ⟨kh_27a, kh_27b, kh_27c, kh_27d, kh_27e⟩ := kh_27
              refine lv_if_ne (tgt := 115) hx hb dX12_readsClause_110 rfl (fun _ => ?_) (fun h => absurd h cq_eq_1_0)
              have e29 : Fn27 29 = upd (Fn 29) (cn 25) (nI (cn 23)) := (hfc27.2.2 29 (nml rfl)).trans e29a
              have e30 : Fn27 30 = upd (Fn 30) (cn 25) (nI (cn25 23)) := (hfc27.2.2 30 (nml rfl)).trans (by show upd (Fn25 30) (cn25 25) _ = _; rw [e30a, show cn25 25 = cn 25 by (first | omega | (have zz0 := Hid.u hi_cn; have zz1 := Hid.u hi_cn25; have zz2 := Hid.u hi_cn27; have zz3 := Hid.u hq_cn25; have zz4 := Hid.u hq_cn27; omega))])
              have e31 : Fn27 31 = Fn 31 := (hfc27.2.2 31 (nml rfl)).trans e31a
              have esd : ∀ k : Nat, k < cn 23 → Fn27 27 k = Fn 27 k := fun k hk => (kh_27e k (by (first | omega | (have zz0 := Hid.u hi_cn; have zz1 := Hid.u hi_cn25; have zz2 := Hid.u hi_cn27; have zz3 := Hid.u hq_cn25; have zz4 := Hid.u hq_cn27; omega)))).trans (esaid k hk)
              have hall : ALL (Fn27 27) (cn27 23) (cn27 25 + 1) (Fn27 29) (Fn27 30) (upd (Fn27 31) (cn27 25) (nI (cn27 23))) := by rw [e29, e30, e31, show cn27 25 = cn 25 by (first | omega | (have zz0 := Hid.u hi_cn; have zz1 := Hid.u hi_cn25; have zz2 := Hid.u hi_cn27; have zz3 := Hid.u hq_cn25; have zz4 := Hid.u hq_cn27; omega))]; exact ALL.add hL esd (by (first | omega | (have zz0 := Hid.u hi_cn; have zz1 := Hid.u hi_cn25; have zz2 := Hid.u hi_cn27; have zz3 := Hid.u hq_cn25; have zz4 := Hid.u hq_cn27; omega))) (by (first | omega | (have zz0 := Hid.u hi_cn; have zz1 := Hid.u hi_cn25; have zz2 := Hid.u hi_cn27; have zz3 := Hid.u hq_cn25; have zz4 := Hid.u hq_cn27; omega))) (SegOK.cg hseg1 (fun k hk => kh_27e k hk)) kh_27a
              refine lv_aload_n hx hb (oc_42 115 (aq_18 shX12_readsClause_97)) rfl (lvA0 hl) ?_
              refine gM_68 S hK hP (v := .ref (g 31)) rfl (oc_180 116 (aq_19 shX12_readsClause_97) uw_0_68) ?_
              refine lv_aload_n hx hb (oc_42 119 (aq_22 shX12_readsClause_97)) rfl (lvA0 hl) ?_
              refine gM_312 S hK hP (v := .int (nI (cn27 25))) rfl (oc_180 120 (aq_23 shX12_readsClause_97) uw_1_56) ?_
              refine lv_aload_n hx hb (oc_42 123 shX12_readsClause_123) rfl (lvA0 hl) ?_
              refine gM_257 S hK hP (v := .int (nI (cn27 23))) rfl (oc_180 124 (aq_1 shX12_readsClause_123) uw_1_1) ?_
              have kb_7 : (cn27 25) < 12 := by (first | omega | (have zz0 := Hid.u hi_cn; have zz1 := Hid.u hi_cn25; have zz2 := Hid.u hi_cn27; have zz3 := Hid.u hq_cn25; have zz4 := Hid.u hq_cn27; omega))
              refine stM_31 hx hb hK hP hD hS (Fn2 := (va_up Fn27 31 (upd (Fn27 31) (cn27 25) (nI (cn27 23))))) (vp_in_nI kb_7 (ltb rfl)) (nI_clamp (Nat.lt_trans kb_7 (ltb rfl))) rfl (oc_79 127 (aq_4 shX12_readsClause_123)) (fun H locs hP hD hS => ?_)
              refine lv_aload_n hx hb (oc_42 128 (aq_5 shX12_readsClause_123)) rfl (lvA0 hl) ?_
              refine lv_aload_n hx hb (oc_42 129 (aq_6 shX12_readsClause_123)) rfl (lvA0 hl) ?_
              refine gM_312 S hK hP (v := .int (nI (cn27 25))) rfl (oc_180 130 (aq_7 shX12_readsClause_123) uw_1_56) ?_
              refine lv_iconst (v := 1) hx hb (oc_4 133 (aq_10 shX12_readsClause_123)) kic_1 ?_
              refine lv_iadd hx hb (oc_96 134 (aq_11 shX12_readsClause_123)) ?_
              refine lv_topi (fun y_28 ey_28 => ?_)
              obtain rfl : y_28 = (nI ((cn27 25) + 1)) := ey_28.trans (nI_add (cn27 25) 1)
              refine pM_312 S hK hP hD hS (a := ((cn27 25) + 1)) (cn2 := (va_up cn27 25 ((cn27 25) + 1))) rfl rfl (oc_181 135 (aq_12 shX12_readsClause_123) uw_1_56) (fun H locs hP hD hS => ?_)
              refine lv_iconst (v := 1) hx hb (oc_4 138 (aq_15 shX12_readsClause_123)) kic_1 ?_
              exact W.zret (v := 1) hx hb hr rfl (fun t ht hW => ⟨⟨1, ((va_up cn27 25 ((cn27 25) + 1)), In27, (va_up Fn27 31 (upd (Fn27 31) (cn27 25) (nI (cn27 23))))), rfl, ⟨(Fr.mo (Fr.f 31 (Fr.c 25 hf27)) (sbl rfl) (sbl rfl) (sbl rfl)), (IM.fr (In := In27) hIn27 (Fr.f 31 (Fr.c 25 Fr.rf)) (by decide) (by decide)), (by show 1 = 0 ∨ (1 = 1 ∧ cn 19 < (va_up cn27 25 ((cn27 25) + 1)) 19 ∧ (va_up cn27 25 ((cn27 25) + 1)) 19 ≤ cn 20 ∧ (va_up cn27 25 ((cn27 25) + 1)) 23 ≤ (va_up cn27 25 ((cn27 25) + 1)) 19 ∧ (va_up cn27 25 ((cn27 25) + 1)) 25 ≤ 12 ∧ ALL ((va_up Fn27 31 (upd (Fn27 31) (cn27 25) (nI (cn27 23)))) 27) ((va_up cn27 25 ((cn27 25) + 1)) 23) ((va_up cn27 25 ((cn27 25) + 1)) 25) ((va_up Fn27 31 (upd (Fn27 31) (cn27 25) (nI (cn27 23)))) 29) ((va_up Fn27 31 (upd (Fn27 31) (cn27 25) (nI (cn27 23)))) 30) ((va_up Fn27 31 (upd (Fn27 31) (cn27 25) (nI (cn27 23)))) 31)); exact Or.inr ⟨rfl, (by show cn 19 < cn27 19; (first | omega | (have zz0 := Hid.u hi_cn; have zz1 := Hid.u hi_cn25; have zz2 := Hid.u hi_cn27; have zz3 := Hid.u hq_cn25; have zz4 := Hid.u hq_cn27; omega))), (by show cn27 19 ≤ cn 20; (first | omega | (have zz0 := Hid.u hi_cn; have zz1 := Hid.u hi_cn25; have zz2 := Hid.u hi_cn27; have zz3 := Hid.u hq_cn25; have zz4 := Hid.u hq_cn27; omega))), (by show cn27 23 ≤ cn27 19; (first | omega | (have zz0 := Hid.u hi_cn; have zz1 := Hid.u hi_cn25; have zz2 := Hid.u hi_cn27; have zz3 := Hid.u hq_cn25; have zz4 := Hid.u hq_cn27; omega))), (by show cn27 25 + 1 ≤ 12; (first | omega | (have zz0 := Hid.u hi_cn; have zz1 := Hid.u hi_cn25; have zz2 := Hid.u hi_cn27; have zz3 := Hid.u hq_cn25; have zz4 := Hid.u hq_cn27; omega))), hall⟩)⟩, by rw [ht]; exact hP, hD⟩, hS.F ht⟩) hS.2.2 (oc_172 139 (aq_16 shX12_readsClause_123))
      ·
        have tc_18 : ((nI (cn 25)).toInt : Int) = 12 := congrArg Int32.toInt c_18
        refine lv_aload_n hx hb (oc_42 37 (aq_13 shX12_readsClause_24)) rfl (lvA0 hl) ?_
        refine lv_iconst (v := 4) hx hb (oc_7 38 (aq_14 shX12_readsClause_24)) kic_4 ?_
        refine lv_aload_n hx hb (oc_42 39 (aq_15 shX12_readsClause_24)) rfl (lvA0 hl) ?_
        refine gM_233 S hK hP (v := .int (nI (cn 19))) rfl (oc_180 40 (aq_16 shX12_readsClause_24) uw_0_233) ?_
        have hFc := free_all hD hS hA
        refine va_calli (runV_a (As := [.int 4, .int (nI (cn 19))]) (rest := []) S (q_wrong l D cI cB cZ g cn In Fn 4 (nI (cn 19)) s.heap.size hI) kV_RX12_246 hK hP hD 0 rfl rfl rfl ⟨Nat.le_of_ble_eq_true rfl, Nat.le_of_ble_eq_true rfl⟩ ⟨Nat.le_of_ble_eq_true rfl, Nat.le_of_ble_eq_true rfl⟩ rfl hl.1 rfl (Nat.le_of_ble_eq_true rfl) (oc_182 43 (aq_19 shX12_readsClause_24) uw_0_246)) hS (fun q _ h => hFc q h) hFc (fun r_29 u t H1 locs ht hvm wh_30 hB hz1 hk1 hS => ?_)
        obtain ⟨cn30, In30, Fn30⟩ := u
        obtain ⟨hP1, hD1⟩ := hB
        rw [ht] at hP1
        have vh_30 : (fun r c2 I2 F2 => (∀ k : Nat, k ∉ [21] → I2 k = In k) ∧ ((r = 0 ∧ (True) ∧ cn = c2 ∧ Fn = F2))) r_29 cn30 In30 Fn30 := wh_30
        obtain ⟨hI30_, vh_30⟩ := vh_30
        obtain ⟨rfl, h_30, rfl, rfl⟩ := vh_30
        have hf30 : Fr [19, 23, 24, 25, 26] [21, 22] [27, 28, 29, 30, 31] cn In Fn cn In30 Fn := Fr.mo (Fr.tr (Fr.rf (cn := cn) (In := In) (Fn := Fn)) (show Fr [] [21] [] cn In Fn cn In30 Fn from ⟨fun _ _ => rfl, hI30_, fun _ _ => rfl⟩)) (sbl rfl) (sbl rfl) (sbl rfl)
        have hP : va_P D vwCl (wM cI cB cZ g cn In30 Fn) H1 := hP1
        have hD : va_D A (wM cI cB cZ g cn In30 Fn) := hD1.weaken (fun _ _ _ h => hFc _ h)
        generalize H1 = H at hP hS ⊢
        exact W.zret (v := 0) hx hb hr rfl (fun t ht hW => ⟨⟨0, (cn, In30, Fn), rfl, ⟨(Fr.mo hf30 (sbl rfl) (sbl rfl) (sbl rfl)), hI, (by show 0 = 0 ∨ (0 = 1 ∧ cn 19 < cn 19 ∧ cn 19 ≤ cn 20 ∧ cn 23 ≤ cn 19 ∧ cn 25 ≤ 12 ∧ ALL (Fn 27) (cn 23) (cn 25) (Fn 29) (Fn 30) (Fn 31)); exact Or.inl rfl)⟩, by rw [ht]; exact hP, hD⟩, hS.F ht⟩) hS.2.2 (oc_172 46 (aq_22 shX12_readsClause_24))
    ·
      have tc_17 : (r_1.toInt : Int) ≠ 108 := fun q => c_17 (Int32.toInt_inj.mp q)
      refine lv_aload_n hx hb (oc_42 18 (aq_18 shX12_readsClause_0)) rfl (lvA0 hl) ?_
      refine lv_iconst (v := 1) hx hb (oc_4 19 (aq_19 shX12_readsClause_0)) kic_1 ?_
      refine lv_aload_n hx hb (oc_42 20 (aq_20 shX12_readsClause_0)) rfl (lvA0 hl) ?_
      refine gM_233 S hK hP (v := .int (nI (cn 19))) rfl (oc_180 21 (aq_21 shX12_readsClause_0) uw_0_233) ?_
      have hFc := free_all hD hS hA
      refine va_calli (runV_a (As := [.int 1, .int (nI (cn 19))]) (rest := []) S (q_wrong l D cI cB cZ g cn In Fn 1 (nI (cn 19)) s.heap.size hI) kV_RX12_246 hK hP hD 0 rfl rfl rfl ⟨Nat.le_of_ble_eq_true rfl, Nat.le_of_ble_eq_true rfl⟩ ⟨Nat.le_of_ble_eq_true rfl, Nat.le_of_ble_eq_true rfl⟩ rfl hl.1 rfl (Nat.le_of_ble_eq_true rfl) (oc_182 24 shX12_readsClause_24 uw_0_246)) hS (fun q _ h => hFc q h) hFc (fun r_31 u t H1 locs ht hvm wh_32 hB hz1 hk1 hS => ?_)
      obtain ⟨cn32, In32, Fn32⟩ := u
      obtain ⟨hP1, hD1⟩ := hB
      rw [ht] at hP1
      have vh_32 : (fun r c2 I2 F2 => (∀ k : Nat, k ∉ [21] → I2 k = In k) ∧ ((r = 0 ∧ (True) ∧ cn = c2 ∧ Fn = F2))) r_31 cn32 In32 Fn32 := wh_32
      obtain ⟨hI32_, vh_32⟩ := vh_32
      obtain ⟨rfl, h_32, rfl, rfl⟩ := vh_32
      have hf32 : Fr [19, 23, 24, 25, 26] [21, 22] [27, 28, 29, 30, 31] cn In Fn cn In32 Fn := Fr.mo (Fr.tr (Fr.rf (cn := cn) (In := In) (Fn := Fn)) (show Fr [] [21] [] cn In Fn cn In32 Fn from ⟨fun _ _ => rfl, hI32_, fun _ _ => rfl⟩)) (sbl rfl) (sbl rfl) (sbl rfl)
      have hP : va_P D vwCl (wM cI cB cZ g cn In32 Fn) H1 := hP1
      have hD : va_D A (wM cI cB cZ g cn In32 Fn) := hD1.weaken (fun _ _ _ h => hFc _ h)
      generalize H1 = H at hP hS ⊢
      exact W.zret (v := 0) hx hb hr rfl (fun t ht hW => ⟨⟨0, (cn, In32, Fn), rfl, ⟨(Fr.mo hf32 (sbl rfl) (sbl rfl) (sbl rfl)), hI, (by show 0 = 0 ∨ (0 = 1 ∧ cn 19 < cn 19 ∧ cn 19 ≤ cn 20 ∧ cn 23 ≤ cn 19 ∧ cn 25 ≤ 12 ∧ ALL (Fn 27) (cn 23) (cn 25) (Fn 29) (Fn 30) (Fn 31)); exact Or.inl rfl)⟩, by rw [ht]; exact hP, hD⟩, hS.F ht⟩) hS.2.2 (oc_172 27 (aq_3 shX12_readsClause_24))
end
