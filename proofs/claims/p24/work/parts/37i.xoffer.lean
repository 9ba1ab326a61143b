/-- who comes at v: bits of those whose f and g are not above it -/
def cmb (f g : Nat → Int32) (v : Int32) : Nat → Int32
  | 0 => 0
  | n + 1 => if (f n).toInt ≤ v.toInt ∧ (g n).toInt ≤ v.toInt then cmb f g v n ||| (1 <<< ((nI n) &&& 31)) else cmb f g v n
def cmN (f g : Nat → Int32) (v : Int32) : Nat → Nat
  | 0 => 0
  | n + 1 => if (f n).toInt ≤ v.toInt ∧ (g n).toInt ≤ v.toInt then cmN f g v n + 2 ^ n else cmN f g v n
theorem cmN_lt {f g : Nat → Int32} {v : Int32} : ∀ n : Nat, cmN f g v n < 2 ^ n
  | 0 => by show 0 < 1; omega
  | n + 1 => by
    have h := cmN_lt (f := f) (g := g) (v := v) n
    unfold cmN
    rw [Nat.pow_succ]
    split <;> omega
theorem or_nI {n : Nat} (hn : n < 10) {m : Nat} (hm : m < 2 ^ n) : nI m ||| (1 <<< ((nI n) &&& 31)) = nI (m + 2 ^ n) := by
  have h := (by decide +kernel : ∀ n : Nat, n < 10 → ∀ m : Nat, m < 2 ^ n → nI m ||| (1 <<< ((nI n) &&& 31)) = nI (m + 2 ^ n))
  exact h n hn m hm
theorem bit_nI {m i : Nat} (hm : m < 1024) (hi : i < 10) : (nI m >>> ((nI i) &&& 31)) &&& 1 = nI (m / 2 ^ i % 2) := by
  have h := (by decide +kernel : ∀ i : Nat, i < 10 → ∀ m : Nat, m < 1024 → (nI m >>> ((nI i) &&& 31)) &&& 1 = nI (m / 2 ^ i % 2))
  exact h i hi m hm
theorem cmb_nI {f g : Nat → Int32} {v : Int32} : ∀ n : Nat, n ≤ 10 → cmb f g v n = nI (cmN f g v n)
  | 0, _ => rfl
  | n + 1, h => by
    have ih := cmb_nI (f := f) (g := g) (v := v) n (by omega)
    unfold cmb cmN
    split
    · rw [ih, or_nI (by omega) (cmN_lt n)]
    · exact ih
theorem cmN_bit {f g : Nat → Int32} {v : Int32} {i : Nat} : ∀ n : Nat, i < n → cmN f g v n / 2 ^ i % 2 = if (f i).toInt ≤ v.toInt ∧ (g i).toInt ≤ v.toInt then 1 else 0
  | n + 1, h => by
    have hl := cmN_lt (f := f) (g := g) (v := v) n
    unfold cmN
    by_cases e : i = n
    · subst e
      split
      · rw [Nat.add_div_right _ (Nat.two_pow_pos i), Nat.div_eq_of_lt hl]
      · rw [Nat.div_eq_of_lt hl]
    · have ih := cmN_bit (f := f) (g := g) (v := v) n (show i < n by omega)
      split
      · obtain ⟨k, rfl⟩ : ∃ k, n = i + 1 + k := ⟨n - i - 1, by omega⟩
        rw [show 2 ^ (i + 1 + k) = 2 ^ i * (2 * 2 ^ k) by rw [Nat.pow_add, Nat.pow_succ, Nat.mul_assoc], Nat.add_mul_div_left _ _ (Nat.two_pow_pos i), Nat.add_mul_mod_self_left]
        exact ih
      · exact ih
theorem cmb_bit {f g : Nat → Int32} {v : Int32} {i n : Nat} (hn : n ≤ 10) (hi : i < n) : (cmb f g v n >>> ((nI i) &&& 31)) &&& 1 = if (f i).toInt ≤ v.toInt ∧ (g i).toInt ≤ v.toInt then 1 else 0 := by
  rw [cmb_nI n hn, bit_nI (Nat.lt_of_lt_of_le (cmN_lt n) (Nat.pow_le_pow_right (by decide) hn)) (by omega), cmN_bit n hi]
  split <;> rfl
theorem cmb_1 {f g : Nat → Int32} {v x : Int32} {n : Nat} (h : x = cmb f g v n) (c : (f n).toInt ≤ v.toInt ∧ (g n).toInt ≤ v.toInt) : x ||| (1 <<< ((nI n) &&& 31)) = cmb f g v (n + 1) := by rw [h]; exact (if_pos c).symm
theorem cmb_0 {f g : Nat → Int32} {v x : Int32} {n : Nat} (h : x = cmb f g v n) (c : ¬ ((f n).toInt ≤ v.toInt ∧ (g n).toInt ≤ v.toInt)) : x = cmb f g v (n + 1) := by rw [h]; exact (if_neg c).symm
theorem cmb_00 {f g : Nat → Int32} {v x : Int32} {n : Nat} (h : x = cmb f g v n) (c : ¬ ((f n).toInt ≤ v.toInt ∧ (g n).toInt ≤ v.toInt)) : x ||| 0 = cmb f g v (n + 1) := by rw [Int32.or_zero]; exact cmb_0 h c
theorem cmb_eq {f g f' g' : Nat → Int32} {v : Int32} : ∀ n : Nat, (∀ i : Nat, i < n → f i = f' i) → (∀ i : Nat, i < n → g i = g' i) → cmb f g v n = cmb f' g' v n
  | 0, _, _ => rfl
  | n + 1, h, h2 => by unfold cmb; rw [cmb_eq n (fun i hi => h i (by omega)) (fun i hi => h2 i (by omega)), h n (by omega), h2 n (by omega)]
/-- what the i-th gives at price v, told d -/
def wof (f g h : Nat → Int32) (v d : Int32) (i : Nat) : Int32 := if (f i).toInt ≤ v.toInt ∧ (g i).toInt ≤ v.toInt then h i * (d - v) else 0
theorem wof_1 {f g h : Nat → Int32} {v d : Int32} {i : Nat} (c : (f i).toInt ≤ v.toInt ∧ (g i).toInt ≤ v.toInt) : wof f g h v d i = h i * (d - v) := if_pos c
theorem wof_0 {f g h : Nat → Int32} {v d : Int32} {i : Nat} (c : ¬ ((f i).toInt ≤ v.toInt ∧ (g i).toInt ≤ v.toInt)) : wof f g h v d i = 0 := if_neg c
theorem wof_b {f g h : Nat → Int32} {v d : Int32} {i n : Nat} (hn : n ≤ 10) (hi : i < n) : wof f g h v d i = (((cmb f g v n >>> ((nI i) &&& 31)) &&& 1) * h i) * (d - v) := by
  rw [cmb_bit hn hi]
  unfold wof
  split
  · rw [Int32.one_mul]
  · rw [Int32.zero_mul, Int32.zero_mul]
/-- the first of the prices that are worth most; v: 0 the price, 1 its worth, else who comes -/
def OFS (W C : Nat → Int32) (v r : Int32) : Prop := ∃ h : Nat, h ≤ 200 ∧ (∀ j : Nat, j ≤ 200 → (W j).toInt ≤ (W h).toInt) ∧ (∀ j : Nat, j < h → (W j).toInt < (W h).toInt) ∧ ((v.toInt = 0 ∧ r = nI h) ∨ (v.toInt = 1 ∧ r = W h) ∨ (v.toInt ≠ 0 ∧ v.toInt ≠ 1 ∧ r = C h))
theorem OFS.un {W C W2 C2 : Nat → Int32} {v r r2 : Int32} (eW : W = W2) (eC : C = C2) (a : OFS W C v r) (b : OFS W2 C2 v r2) : r = r2 := by
  subst eW eC
  obtain ⟨h, h1, h2, h3, h4⟩ := a
  obtain ⟨k, k1, k2, k3, k4⟩ := b
  have e : h = k := by
    rcases Nat.lt_trichotomy h k with q | q | q
    · have := k3 h q; have := h2 k k1; omega
    · exact q
    · have := h3 k q; have := k2 h h1; omega
  subst e
  rcases h4 with ⟨a1, a2⟩ | ⟨a1, a2⟩ | ⟨a1, a1', a2⟩ <;> rcases k4 with ⟨b1, b2⟩ | ⟨b1, b2⟩ | ⟨b1, b1', b2⟩ <;> first | (rw [a2, b2]; done) | (exfalso; omega)



set_option maxRecDepth 100000 in
set_option maxHeartbeats 4000000 in
theorem q_EcomesFor (l : Launch) (D : va_G) (cI cB cZ : ClassId) (zz qq vv : Nat) (bt : Nat → Int32) (g : Nat → Nat) (ad : Nat → Nat → Nat) (cn : Nat → Nat) (In : Nat → Int32) (Fn : Nat → Nat → Int32) (k0 : Nat) (v0 : Int32) (hB : CBX cn) (hk : k0 < cn 10) : Met l yX1_comesFor (CWS yX1_comesFor cX1_comesFor 2 (some .boolean)) (RM 0 0 0) (PBrx [.ref (ad 10 k0), .int v0] D cI cB cZ zz qq vv bt (wX cI (D.1 99) zz g ad cn In Fn)) (vp_Si (fun r => (r = 1 ∧ (Fn 107 k0).toInt ≤ v0.toInt ∧ (Fn 108 k0).toInt ≤ v0.toInt) ∨ (r = 0 ∧ ¬ ((Fn 107 k0).toInt ≤ v0.toInt ∧ (Fn 108 k0).toInt ≤ v0.toInt)))) 0 0 (fun _ => False) := by
  refine Met.ofW (cc := cX1_comesFor) (maxL := 2) (ret := (some .boolean)) (by decide) rfl ?_
  intro p e s m args below meth c s₁ B hml hv
  obtain ⟨rfl, hP, hK, hXS⟩ := hv
  have hS : va_S (fun _ => False) s.heap s.heap [] := va_S.rf
  have hx := B.exec
  have hb := B.bytes
  have hr := B.returns
  have hts := atoms_spec (ws := (CWS yX1_comesFor cX1_comesFor 2 (some .boolean))) B.pre
  have hown : s.vm.findClass RX1 = some m.cls := findClass_of_methodNamed B.named
  have hlocks := B.notSynchronized
  have S : SF p m c cX1_comesFor 2 s ([.ref (ad 10 k0), .int v0]).toArray RX1 := ⟨hx, hb, hml, hown, fun w h => hts w (List.mem_cons_of_mem _ h)⟩
  have hl := lv_entry ([.ref (ad 10 k0), .int v0]) (n := 2) (Nat.le_of_ble_eq_true rfl)
  rw [lg_entry_eq]
  generalize (lg_sl ([.ref (ad 10 k0), .int v0]) ++ List.replicate (2 - (lg_sl ([.ref (ad 10 k0), .int v0])).length) Slot.unset).toArray = ls at hl ⊢
  have hl : lv_has ls 2 [(0, .ref (ad 10 k0)), (1, .int v0)] := hl
  have hb_cn : Hid (CBX cn) := hB
  replace hB : CBXh cn := hB
  refine lv_iload_n hx hb dX1_comesFor_0 rfl (lv_at hl 1 rfl) ?_
  refine lv_aload_n hx hb dX1_comesFor_1 rfl (lv_at hl 0 rfl) ?_
  refine gf_RX1_37 S hK hP _ (xf_0 (by (first | omega | (have zz0 := Hid.u hb_cn; omega)))) (v := .int ((Fn 107) k0)) rfl dX1_comesFor_2 ?_
  refine lv_icmp_lt (tgt := 20) hx hb dX1_comesFor_5 rfl (fun c_1 => ?_) (fun c_1 => ?_)
  ·
    have tc_1 : (v0.toInt : Int) < ((Fn 107) k0).toInt := Int32.lt_iff_toInt_lt.mp c_1
    refine lv_iconst (v := 0) hx hb dX1_comesFor_20 kic_0 ?_
    exact W.zret (v := 0) hx hb hr rfl (fun t ht hW => ⟨0, rfl, (Or.inr ⟨rfl, by (first | omega | (have zz0 := Hid.u hb_cn; omega))⟩), ht⟩) (fun _ h => absurd h List.not_mem_nil) dX1_comesFor_21
  ·
    have tc_1 : (((Fn 107) k0).toInt : Int) ≤ v0.toInt := Int32.le_iff_toInt_le.mp (Int32.not_lt.mp c_1)
    refine lv_iload_n hx hb dX1_comesFor_8 rfl (lv_at hl 1 rfl) ?_
    refine lv_aload_n hx hb dX1_comesFor_9 rfl (lv_at hl 0 rfl) ?_
    refine gf_RX1_40 S hK hP _ (xf_0 (by (first | omega | (have zz0 := Hid.u hb_cn; omega)))) (v := .int ((Fn 108) k0)) rfl dX1_comesFor_10 ?_
    refine lv_icmp_lt (tgt := 20) hx hb dX1_comesFor_13 rfl (fun c_2 => ?_) (fun c_2 => ?_)
    ·
      have tc_2 : (v0.toInt : Int) < ((Fn 108) k0).toInt := Int32.lt_iff_toInt_lt.mp c_2
      refine lv_iconst (v := 0) hx hb dX1_comesFor_20 kic_0 ?_
      exact W.zret (v := 0) hx hb hr rfl (fun t ht hW => ⟨0, rfl, (Or.inr ⟨rfl, by (first | omega | (have zz0 := Hid.u hb_cn; omega))⟩), ht⟩) (fun _ h => absurd h List.not_mem_nil) dX1_comesFor_21
    ·
      have tc_2 : (((Fn 108) k0).toInt : Int) ≤ v0.toInt := Int32.le_iff_toInt_le.mp (Int32.not_lt.mp c_2)
      refine lv_iconst (v := 1) hx hb dX1_comesFor_16 kic_1 ?_
      refine lv_goto (tgt := 21) hx hb dX1_comesFor_17 rfl ?_
      exact W.zret (v := 1) hx hb hr rfl (fun t ht hW => ⟨1, rfl, (Or.inl ⟨rfl, by (first | omega | (have zz0 := Hid.u hb_cn; omega))⟩), ht⟩) (fun _ h => absurd h List.not_mem_nil) dX1_comesFor_21
set_option maxRecDepth 100000 in
set_option maxHeartbeats 4000000 in
theorem q_Ecomers (l : Launch) (D : va_G) (cI cB cZ : ClassId) (zz qq vv : Nat) (bt : Nat → Int32) (g : Nat → Nat) (ad : Nat → Nat → Nat) (cn : Nat → Nat) (In : Nat → Int32) (Fn : Nat → Nat → Int32) (v0 : Int32) (hB : CBX cn) : Met l yX11_comers (CWS yX11_comers cX11_comers 4 (some .int)) (RM 3 0 0) (PBrx [.ref (g 0), .int v0] D cI cB cZ zz qq vv bt (wX cI (D.1 99) zz g ad cn In Fn)) (vp_Si (fun r => r = cmb (Fn 107) (Fn 108) v0 (cn 10))) 0 0 (fun _ => False) := by
  refine Met.ofW (cc := cX11_comers) (maxL := 4) (ret := (some .int)) (by decide) rfl ?_
  intro p e s m args below meth c s₁ B hml hv
  obtain ⟨rfl, hP, hK, hXS⟩ := hv
  have hS : va_S (fun _ => False) s.heap s.heap [] := va_S.rf
  have hx := B.exec
  have hb := B.bytes
  have hr := B.returns
  have hts := atoms_spec (ws := (CWS yX11_comers cX11_comers 4 (some .int))) B.pre
  have hown : s.vm.findClass RX11 = some m.cls := findClass_of_methodNamed B.named
  have hlocks := B.notSynchronized
  have S : SF p m c cX11_comers 4 s ([.ref (g 0), .int v0]).toArray RX11 := ⟨hx, hb, hml, hown, fun w h => hts w (List.mem_cons_of_mem _ h)⟩
  have hl := lv_entry ([.ref (g 0), .int v0]) (n := 4) (Nat.le_of_ble_eq_true rfl)
  rw [lg_entry_eq]
  generalize (lg_sl ([.ref (g 0), .int v0]) ++ List.replicate (4 - (lg_sl ([.ref (g 0), .int v0])).length) Slot.unset).toArray = ls at hl ⊢
  have hl : lv_has ls 4 [(0, .ref (g 0)), (1, .int v0)] := hl
  have hb_cn : Hid (CBX cn) := hB
  replace hB : CBXh cn := hB
  refine lv_iconst (v := 0) hx hb dX11_comers_0 kic_0 ?_
  refine lv_istore_n (lv' := [(2, .int 0), (0, .ref (g 0)), (1, .int v0)]) hx hb dX11_comers_1 rfl hl (by decide) rfl (fun ls hl => ?_)
  refine lv_iconst (v := 0) hx hb dX11_comers_2 kic_0 ?_
  refine lv_istore_n (lv' := [(3, .int 0), (2, .int 0), (0, .ref (g 0)), (1, .int v0)]) hx hb dX11_comers_3 rfl hl (by decide) rfl (fun ls hl => ?_)
  have lp_4 : ∀ (n : Nat) (i4 : Nat) (x4_2 : Int32) , cn 10 - i4 < n → (i4 ≤ cn 10 ∧ (x4_2 = cmb (Fn 107) (Fn 108) v0 i4)) → ∀ ls : Array Slot, lv_has ls 4 [(3, .int (nI i4)), (2, .int x4_2), (0, .ref (g 0)), (1, .int v0)] → W p l e (RM 3 0 0) s m ([.ref (g 0), .int v0]).toArray below meth c s.heap [] 0 0 (MQ below (vp_Si (fun r => r = cmb (Fn 107) (Fn 108) v0 (cn 10))) ([.ref (g 0), .int v0]).toArray s 0 0 (fun _ => False)) (F0 m 4 ls []) := by
    intro n4
    induction n4 with
    | zero => intros; (first | omega | (have zz0 := Hid.u hb_cn; omega))
    | succ n4 ih4 =>
      intro i4 x4_2 hmu4 hinv4 ls hl
      obtain ⟨hr4, hx4_0⟩ := hinv4
      have ti4 : (nI i4).toInt = (i4 : Int) := nI_toInt (by (first | omega | (have zz0 := Hid.u hb_cn; omega)))
      refine lv_iload_n hx hb dX11_comers_4 rfl (lv_at hl 0 rfl) ?_
      refine lv_aload_n hx hb dX11_comers_5 rfl (lv_at hl 2 rfl) ?_
      refine gf_RX11_61 S hK hP 0 xo_0 (v := .ref (g 10)) rfl dX11_comers_6 ?_
      refine vp_callSi (runV_r (As := []) (rest := [.int (nI i4)]) S (q_l_size l D cI cB cZ (g 10) (if (cn 10) = 0 then zz else ad 2 0) (In 10) (nI (cn 10))) kV_RX11_84 hK hP [24] (one_is xo_24) 24 xo_24 rfl rfl ⟨Nat.le_of_ble_eq_true rfl, Nat.le_of_ble_eq_true rfl⟩ ⟨Nat.le_of_ble_eq_true rfl, Nat.le_of_ble_eq_true rfl⟩ rfl hl.1 rfl (Nat.le_of_ble_eq_true rfl) dX11_comers_9) (fun r_1 h_2 => ?_)
      subst h_2
      have : (nI (cn 10)).toInt = (((cn 10) : Nat) : Int) := nI_toInt (by (first | omega | (have zz0 := Hid.u hb_cn; omega)))
      refine lv_icmp_ge (tgt := 49) hx hb dX11_comers_12 rfl (fun c_3 => ?_) (fun c_3 => ?_)
      ·
        have tc_3 : ((nI (cn 10)).toInt : Int) ≤ (nI i4).toInt := Int32.le_iff_toInt_le.mp c_3
        refine lv_iload_n hx hb dX11_comers_49 rfl (lv_at hl 1 rfl) ?_
        exact W.iret (v := x4_2) hx hb hr (fun t ht hW => ⟨x4_2, rfl, (by have e9 : i4 = cn 10 := (by (first | omega | (have zz0 := Hid.u hb_cn; omega))); rw [← e9]; exact hx4_0), ht⟩) (fun _ h => absurd h List.not_mem_nil) dX11_comers_50
      ·
        have tc_3 : ((nI i4).toInt : Int) < (nI (cn 10)).toInt := Int32.lt_iff_toInt_lt.mp (Int32.not_le.mp c_3)
        refine lv_iload_n hx hb dX11_comers_15 rfl (lv_at hl 1 rfl) ?_
        refine lv_aload_n hx hb dX11_comers_16 rfl (lv_at hl 2 rfl) ?_
        refine gf_RX11_61 S hK hP 0 xo_0 (v := .ref (g 10)) rfl dX11_comers_17 ?_
        refine lv_iload_n hx hb dX11_comers_20 rfl (lv_at hl 0 rfl) ?_
        refine va_csq (runV_rx (As := [.int (nI i4)]) (rest := [.int x4_2]) S (q_l_get l D cI cB cZ zz qq vv bt (g 10) (ad 2 0) (cn 20) (cn 10) i4 (ad 10 i4) (In 10) (fun i => if i < (cn 10) then some (ad 10 i) else none) (by (first | omega | (have zz0 := Hid.u hb_cn; omega))) (if_pos (by (first | omega | (have zz0 := Hid.u hb_cn; omega)))) (by (first | omega | (have zz0 := Hid.u hb_cn; omega))) (by (first | omega | (have zz0 := Hid.u hb_cn; omega)))) kV_RX11_87 hK hXS hS hP _ (two_is (xl_0 (by (first | omega | (have zz0 := Hid.u hb_cn; omega)))) (xf_13 (k := 0) (by (first | omega | (have zz0 := Hid.u hb_cn; omega))))) (va_recv hK.1 hP (ci := 0) rfl xo_24) ⟨Nat.le_of_ble_eq_true rfl, Nat.le_of_ble_eq_true rfl⟩ ⟨Nat.le_of_ble_eq_true rfl, Nat.le_of_ble_eq_true rfl⟩ rfl hl.1 rfl (Nat.le_of_ble_eq_true rfl) dX11_comers_21) (fun r_4 h_5 => ?_)
        subst h_5
        refine va_castS hx hb hown (S.2.2.2.2 _ (wT_t2 63 rfl rfl)) (xclass hK.1 (ci := 2) rfl) (va_recv hK.1 hP (ci := 2) rfl (xf_0 (by (first | omega | (have zz0 := Hid.u hb_cn; omega))))) dX11_comers_24 ?_
        refine lv_iload_n hx hb dX11_comers_27 rfl (lv_at hl 3 rfl) ?_
        refine vp_callSi (runV_rxa (As := [.int v0]) (rest := [.int x4_2]) S (q_EcomesFor l D cI cB cZ zz qq vv bt g ad cn In Fn i4 v0 hB (by (first | omega | (have zz0 := Hid.u hb_cn; omega)))) kV_RX11_456 hK hXS hS hP _ (xf_0 (by (first | omega | (have zz0 := Hid.u hb_cn; omega)))) rfl rfl ⟨Nat.le_of_ble_eq_true rfl, Nat.le_of_ble_eq_true rfl⟩ ⟨Nat.le_of_ble_eq_true rfl, Nat.le_of_ble_eq_true rfl⟩ rfl hl.1 rfl (Nat.le_of_ble_eq_true rfl) dX11_comers_28) (fun r_6 h_7 => ?_)
        rcases h_7 with ⟨rfl, hq9⟩ | ⟨rfl, hq9⟩
        ·
          refine lv_if_eq (tgt := 40) hx hb dX11_comers_31 rfl (fun h => absurd h (by decide)) (fun _ => ?_)
          refine lv_iconst (v := 1) hx hb dX11_comers_34 kic_1 ?_
          refine lv_iload_n hx hb dX11_comers_35 rfl (lv_at hl 0 rfl) ?_
          refine lv_ishl hx hb dX11_comers_36 ?_
          refine lv_goto (tgt := 41) hx hb dX11_comers_37 rfl ?_
          refine lv_ior hx hb dX11_comers_41 ?_
          refine lv_istore_n (lv' := [(2, .int (x4_2 ||| (1 <<< ((nI i4) &&& 31)))), (3, .int (nI i4)), (0, .ref (g 0)), (1, .int v0)]) hx hb dX11_comers_42 rfl hl (by decide) rfl (fun ls hl => ?_)
          refine lv_iinc (v := (nI (i4 + 1))) (lv' := [(3, .int (nI (i4 + 1))), (2, .int (x4_2 ||| (1 <<< ((nI i4) &&& 31)))), (0, .ref (g 0)), (1, .int v0)]) hx hb dX11_comers_43 hl (k := 1) rfl (nI_1 _) (by decide) rfl (fun ls hl => ?_)
          refine lv_goto (tgt := 4) hx hb dX11_comers_46 rfl ?_
          exact ih4 (i4 + 1) (x4_2 ||| (1 <<< ((nI i4) &&& 31))) (by (first | omega | (have zz0 := Hid.u hb_cn; omega))) ⟨(by (first | omega | (have zz0 := Hid.u hb_cn; omega))), (by first | exact cmb_1 hx4_0 (by (first | omega | (have zz0 := Hid.u hb_cn; omega))) | exact cmb_00 hx4_0 (by (first | omega | (have zz0 := Hid.u hb_cn; omega))) | exact cmb_0 hx4_0 (by (first | omega | (have zz0 := Hid.u hb_cn; omega))))⟩ ls (lv_sub hl [0, 1, 2, 3] rfl)
        ·
          refine lv_if_eq (tgt := 40) hx hb dX11_comers_31 rfl (fun _ => ?_) (fun h => absurd h (by decide))
          refine lv_iconst (v := 0) hx hb dX11_comers_40 kic_0 ?_
          refine lv_ior hx hb dX11_comers_41 ?_
          refine lv_istore_n (lv' := [(2, .int (x4_2 ||| 0)), (3, .int (nI i4)), (0, .ref (g 0)), (1, .int v0)]) hx hb dX11_comers_42 rfl hl (by decide) rfl (fun ls hl => ?_)
          refine lv_iinc (v := (nI (i4 + 1))) (lv' := [(3, .int (nI (i4 + 1))), (2, .int (x4_2 ||| 0)), (0, .ref (g 0)), (1, .int v0)]) hx hb dX11_comers_43 hl (k := 1) rfl (nI_1 _) (by decide) rfl (fun ls hl => ?_)
          refine lv_goto (tgt := 4) hx hb dX11_comers_46 rfl ?_
          exact ih4 (i4 + 1) (x4_2 ||| 0) (by (first | omega | (have zz0 := Hid.u hb_cn; omega))) ⟨(by (first | omega | (have zz0 := Hid.u hb_cn; omega))), (by first | exact cmb_1 hx4_0 (by (first | omega | (have zz0 := Hid.u hb_cn; omega))) | exact cmb_00 hx4_0 (by (first | omega | (have zz0 := Hid.u hb_cn; omega))) | exact cmb_0 hx4_0 (by (first | omega | (have zz0 := Hid.u hb_cn; omega))))⟩ ls (lv_sub hl [0, 1, 2, 3] rfl)
  exact lp_4 _ 0 0 (Nat.lt_succ_self _) ⟨(by (first | omega | (have zz0 := Hid.u hb_cn; omega))), rfl⟩ ls (lv_sub hl [0, 1, 2, 3] rfl)
set_option maxRecDepth 100000 in
set_option maxHeartbeats 4000000 in
theorem q_comers9 (l : Launch) (D : va_G) (cI cB cZ : ClassId) (g : Nat → Nat) (cn : Nat → Nat) (In : Nat → Int32) (Fn : Nat → Nat → Int32) (v0 : Int32) (hI : IM cn Fn) : Met l yX12_comers (CWS yX12_comers cX12_comers 4 (some .int)) (RM 0 0 0) (PBr [.ref (g 100), .int v0] D cI cB cZ (wM cI cB cZ g cn In Fn)) (vp_Si (fun r => r = cmb (Fn 84) (Fn 85) v0 (cn 1))) 0 0 (fun _ => False) := by
  refine Met.ofW (cc := cX12_comers) (maxL := 4) (ret := (some .int)) (by decide) rfl ?_
  intro p e s m args below meth c s₁ B hml hv
  obtain ⟨rfl, hP, hK⟩ := hv
  have hx := B.exec
  have hb := B.bytes
  have hr := B.returns
  have hts := atoms_spec (ws := (CWS yX12_comers cX12_comers 4 (some .int))) B.pre
  have hown : s.vm.findClass RX12 = some m.cls := findClass_of_methodNamed B.named
  have hlocks := B.notSynchronized
  have S : SF p m c cX12_comers 4 s ([.ref (g 100), .int v0]).toArray RX12 := ⟨hx, hb, hml, hown, fun w h => hts w (List.mem_cons_of_mem _ h)⟩
  have hl := lv_entry ([.ref (g 100), .int v0]) (n := 4) (Nat.le_of_ble_eq_true rfl)
  rw [lg_entry_eq]
  generalize (lg_sl ([.ref (g 100), .int v0]) ++ List.replicate (4 - (lg_sl ([.ref (g 100), .int v0])).length) Slot.unset).toArray = ls at hl ⊢
  have hl : lv_has ls 4 [(0, .ref (g 100)), (1, .int v0)] := hl
  have hi_cn : Hid (CB cn) := hI.b
  refine lv_iconst (v := 0) hx hb dX12_comers_0 kic_0 ?_
  refine lv_istore_n (lv' := [(2, .int 0), (0, .ref (g 100)), (1, .int v0)]) hx hb dX12_comers_1 rfl hl (by decide) rfl (fun ls hl => ?_)
  refine lv_iconst (v := 0) hx hb dX12_comers_2 kic_0 ?_
  refine lv_istore_n (lv' := [(3, .int 0), (2, .int 0), (0, .ref (g 100)), (1, .int v0)]) hx hb dX12_comers_3 rfl hl (by decide) rfl (fun ls hl => ?_)
  have lp_4 : ∀ (n : Nat) (i4 : Nat) (x4_2 : Int32) , cn 1 - i4 < n → (i4 ≤ cn 1 ∧ (x4_2 = cmb (Fn 84) (Fn 85) v0 i4)) → ∀ ls : Array Slot, lv_has ls 4 [(3, .int (nI i4)), (2, .int x4_2), (0, .ref (g 100)), (1, .int v0)] → W p l e (RM 0 0 0) s m ([.ref (g 100), .int v0]).toArray below meth c s.heap [] 0 0 (MQ below (vp_Si (fun r => r = cmb (Fn 84) (Fn 85) v0 (cn 1))) ([.ref (g 100), .int v0]).toArray s 0 0 (fun _ => False)) (F0 m 4 ls []) := by
    intro n4
    induction n4 with
    | zero => intros; (first | omega | (have zz0 := Hid.u hi_cn; omega))
    | succ n4 ih4 =>
      intro i4 x4_2 hmu4 hinv4 ls hl
      obtain ⟨hr4, hx4_0⟩ := hinv4
      have ti4 : (nI i4).toInt = (i4 : Int) := nI_toInt (by (first | omega | (have zz0 := Hid.u hi_cn; omega)))
      refine lv_iload_n hx hb dX12_comers_4 rfl (lv_at hl 0 rfl) ?_
      refine lv_aload_n hx hb dX12_comers_5 rfl (lv_at hl 2 rfl) ?_
      refine gM_204 S hK hP (v := .int (nI (cn 1))) rfl dX12_comers_6 ?_
      have : (nI (cn 1)).toInt = (((cn 1) : Nat) : Int) := nI_toInt (by (first | omega | (have zz0 := Hid.u hi_cn; omega)))
      refine lv_icmp_ge (tgt := 48) hx hb dX12_comers_9 rfl (fun c_1 => ?_) (fun c_1 => ?_)
      ·
        have tc_1 : ((nI (cn 1)).toInt : Int) ≤ (nI i4).toInt := Int32.le_iff_toInt_le.mp c_1
        refine lv_iload_n hx hb dX12_comers_48 rfl (lv_at hl 1 rfl) ?_
        exact W.iret (v := x4_2) hx hb hr (fun t ht hW => ⟨x4_2, rfl, (by have e9 : i4 = cn 1 := (by (first | omega | (have zz0 := Hid.u hi_cn; omega))); rw [← e9]; exact hx4_0), ht⟩) (fun _ h => absurd h List.not_mem_nil) dX12_comers_49
      ·
        have tc_1 : ((nI i4).toInt : Int) < (nI (cn 1)).toInt := Int32.lt_iff_toInt_lt.mp (Int32.not_le.mp c_1)
        refine lv_aload_n hx hb dX12_comers_12 rfl (lv_at hl 2 rfl) ?_
        refine gM_183 S hK hP (v := .ref (g 84)) rfl dX12_comers_13 ?_
        refine lv_iload_n hx hb dX12_comers_16 rfl (lv_at hl 0 rfl) ?_
        refine ldM_84 hx hb hK hP (x := ((Fn 84) i4)) (vp_in_nI (by (first | omega | (have zz0 := Hid.u hi_cn; omega))) (by decide)) (nI_clamp (by (first | omega | (have zz0 := Hid.u hi_cn; omega)))) rfl dX12_comers_17 ?_
        refine lv_iload_n hx hb dX12_comers_18 rfl (lv_at hl 3 rfl) ?_
        refine lv_icmp_gt (tgt := 40) hx hb dX12_comers_19 rfl (fun c_2 => ?_) (fun c_2 => ?_)
        ·
          have tc_2 : (v0.toInt : Int) < ((Fn 84) i4).toInt := Int32.lt_iff_toInt_lt.mp c_2
          refine lv_iload_n hx hb dX12_comers_40 rfl (lv_at hl 1 rfl) ?_
          refine lv_istore_n (lv' := [(2, .int x4_2), (3, .int (nI i4)), (0, .ref (g 100)), (1, .int v0)]) hx hb dX12_comers_41 rfl hl (by decide) rfl (fun ls hl => ?_)
          refine lv_iinc (v := (nI (i4 + 1))) (lv' := [(3, .int (nI (i4 + 1))), (2, .int x4_2), (0, .ref (g 100)), (1, .int v0)]) hx hb dX12_comers_42 hl (k := 1) rfl (nI_1 _) (by decide) rfl (fun ls hl => ?_)
          refine lv_goto (tgt := 4) hx hb dX12_comers_45 rfl ?_
          exact ih4 (i4 + 1) x4_2 (by (first | omega | (have zz0 := Hid.u hi_cn; omega))) ⟨(by (first | omega | (have zz0 := Hid.u hi_cn; omega))), (by first | exact cmb_1 hx4_0 (by (first | omega | (have zz0 := Hid.u hi_cn; omega))) | exact cmb_00 hx4_0 (by (first | omega | (have zz0 := Hid.u hi_cn; omega))) | exact cmb_0 hx4_0 (by (first | omega | (have zz0 := Hid.u hi_cn; omega))))⟩ ls (lv_sub hl [0, 1, 2, 3] rfl)
        ·
          have tc_2 : (((Fn 84) i4).toInt : Int) ≤ v0.toInt := Int32.le_iff_toInt_le.mp (Int32.not_lt.mp c_2)
          refine lv_aload_n hx hb dX12_comers_22 rfl (lv_at hl 2 rfl) ?_
          refine gM_186 S hK hP (v := .ref (g 85)) rfl dX12_comers_23 ?_
          refine lv_iload_n hx hb dX12_comers_26 rfl (lv_at hl 0 rfl) ?_
          refine ldM_85 hx hb hK hP (x := ((Fn 85) i4)) (vp_in_nI (by (first | omega | (have zz0 := Hid.u hi_cn; omega))) (by decide)) (nI_clamp (by (first | omega | (have zz0 := Hid.u hi_cn; omega)))) rfl dX12_comers_27 ?_
          refine lv_iload_n hx hb dX12_comers_28 rfl (lv_at hl 3 rfl) ?_
          refine lv_icmp_gt (tgt := 40) hx hb dX12_comers_29 rfl (fun c_3 => ?_) (fun c_3 => ?_)
          ·
            have tc_3 : (v0.toInt : Int) < ((Fn 85) i4).toInt := Int32.lt_iff_toInt_lt.mp c_3
            refine lv_iload_n hx hb dX12_comers_40 rfl (lv_at hl 1 rfl) ?_
            refine lv_istore_n (lv' := [(2, .int x4_2), (3, .int (nI i4)), (0, .ref (g 100)), (1, .int v0)]) hx hb dX12_comers_41 rfl hl (by decide) rfl (fun ls hl => ?_)
            refine lv_iinc (v := (nI (i4 + 1))) (lv' := [(3, .int (nI (i4 + 1))), (2, .int x4_2), (0, .ref (g 100)), (1, .int v0)]) hx hb dX12_comers_42 hl (k := 1) rfl (nI_1 _) (by decide) rfl (fun ls hl => ?_)
            refine lv_goto (tgt := 4) hx hb dX12_comers_45 rfl ?_
            exact ih4 (i4 + 1) x4_2 (by (first | omega | (have zz0 := Hid.u hi_cn; omega))) ⟨(by (first | omega | (have zz0 := Hid.u hi_cn; omega))), (by first | exact cmb_1 hx4_0 (by (first | omega | (have zz0 := Hid.u hi_cn; omega))) | exact cmb_00 hx4_0 (by (first | omega | (have zz0 := Hid.u hi_cn; omega))) | exact cmb_0 hx4_0 (by (first | omega | (have zz0 := Hid.u hi_cn; omega))))⟩ ls (lv_sub hl [0, 1, 2, 3] rfl)
          ·
            have tc_3 : (((Fn 85) i4).toInt : Int) ≤ v0.toInt := Int32.le_iff_toInt_le.mp (Int32.not_lt.mp c_3)
            refine lv_iload_n hx hb dX12_comers_32 rfl (lv_at hl 1 rfl) ?_
            refine lv_iconst (v := 1) hx hb dX12_comers_33 kic_1 ?_
            refine lv_iload_n hx hb dX12_comers_34 rfl (lv_at hl 0 rfl) ?_
            refine lv_ishl hx hb dX12_comers_35 ?_
            refine lv_ior hx hb dX12_comers_36 ?_
            refine lv_goto (tgt := 41) hx hb dX12_comers_37 rfl ?_
            refine lv_istore_n (lv' := [(2, .int (x4_2 ||| (1 <<< ((nI i4) &&& 31)))), (3, .int (nI i4)), (0, .ref (g 100)), (1, .int v0)]) hx hb dX12_comers_41 rfl hl (by decide) rfl (fun ls hl => ?_)
            refine lv_iinc (v := (nI (i4 + 1))) (lv' := [(3, .int (nI (i4 + 1))), (2, .int (x4_2 ||| (1 <<< ((nI i4) &&& 31)))), (0, .ref (g 100)), (1, .int v0)]) hx hb dX12_comers_42 hl (k := 1) rfl (nI_1 _) (by decide) rfl (fun ls hl => ?_)
            refine lv_goto (tgt := 4) hx hb dX12_comers_45 rfl ?_
            exact ih4 (i4 + 1) (x4_2 ||| (1 <<< ((nI i4) &&& 31))) (by (first | omega | (have zz0 := Hid.u hi_cn; omega))) ⟨(by (first | omega | (have zz0 := Hid.u hi_cn; omega))), (by first | exact cmb_1 hx4_0 (by (first | omega | (have zz0 := Hid.u hi_cn; omega))) | exact cmb_00 hx4_0 (by (first | omega | (have zz0 := Hid.u hi_cn; omega))) | exact cmb_0 hx4_0 (by (first | omega | (have zz0 := Hid.u hi_cn; omega))))⟩ ls (lv_sub hl [0, 1, 2, 3] rfl)
  exact lp_4 _ 0 0 (Nat.lt_succ_self _) ⟨(by (first | omega | (have zz0 := Hid.u hi_cn; omega))), rfl⟩ ls (lv_sub hl [0, 1, 2, 3] rfl)
set_option maxRecDepth 100000 in
set_option maxHeartbeats 4000000 in
theorem q_EworthOf (l : Launch) (D : va_G) (cI cB cZ : ClassId) (zz qq vv : Nat) (bt : Nat → Int32) (g : Nat → Nat) (ad : Nat → Nat → Nat) (cn : Nat → Nat) (In : Nat → Int32) (Fn : Nat → Nat → Int32) (v0 v1 : Int32) (hB : CBX cn) : Met l yX11_worthOf (CWS yX11_worthOf cX11_worthOf 6 (some .int)) (RM 3 0 0) (PBrx [.ref (g 0), .int v0, .int v1] D cI cB cZ zz qq vv bt (wX cI (D.1 99) zz g ad cn In Fn)) (vp_Si (fun r => r = (sg (wof (Fn 107) (Fn 108) (Fn 102) v0 v1) (cn 10)))) 0 0 (fun _ => False) := by
  refine Met.ofW (cc := cX11_worthOf) (maxL := 6) (ret := (some .int)) (by decide) rfl ?_
  intro p e s m args below meth c s₁ B hml hv
  obtain ⟨rfl, hP, hK, hXS⟩ := hv
  have hS : va_S (fun _ => False) s.heap s.heap [] := va_S.rf
  have hx := B.exec
  have hb := B.bytes
  have hr := B.returns
  have hts := atoms_spec (ws := (CWS yX11_worthOf cX11_worthOf 6 (some .int))) B.pre
  have hown : s.vm.findClass RX11 = some m.cls := findClass_of_methodNamed B.named
  have hlocks := B.notSynchronized
  have S : SF p m c cX11_worthOf 6 s ([.ref (g 0), .int v0, .int v1]).toArray RX11 := ⟨hx, hb, hml, hown, fun w h => hts w (List.mem_cons_of_mem _ h)⟩
  have hl := lv_entry ([.ref (g 0), .int v0, .int v1]) (n := 6) (Nat.le_of_ble_eq_true rfl)
  rw [lg_entry_eq]
  generalize (lg_sl ([.ref (g 0), .int v0, .int v1]) ++ List.replicate (6 - (lg_sl ([.ref (g 0), .int v0, .int v1])).length) Slot.unset).toArray = ls at hl ⊢
  have hl : lv_has ls 6 [(0, .ref (g 0)), (1, .int v0), (2, .int v1)] := hl
  have hb_cn : Hid (CBX cn) := hB
  replace hB : CBXh cn := hB
  refine lv_iconst (v := 0) hx hb dX11_worthOf_0 kic_0 ?_
  refine lv_istore_n (lv' := [(3, .int 0), (0, .ref (g 0)), (1, .int v0), (2, .int v1)]) hx hb dX11_worthOf_1 rfl hl (by decide) rfl (fun ls hl => ?_)
  refine lv_iconst (v := 0) hx hb dX11_worthOf_2 kic_0 ?_
  refine lv_istore (lv' := [(4, .int 0), (3, .int 0), (0, .ref (g 0)), (1, .int v0), (2, .int v1)]) hx hb dX11_worthOf_3 hl (by decide) rfl (fun ls hl => ?_)
  have lp_5 : ∀ (n : Nat) (i5 : Nat) (x5_3 : Int32) , cn 10 - i5 < n → (i5 ≤ cn 10 ∧ (x5_3 = sg (wof (Fn 107) (Fn 108) (Fn 102) v0 v1) i5)) → ∀ ls : Array Slot, lv_has ls 6 [(4, .int (nI i5)), (3, .int x5_3), (0, .ref (g 0)), (1, .int v0), (2, .int v1)] → W p l e (RM 3 0 0) s m ([.ref (g 0), .int v0, .int v1]).toArray below meth c s.heap [] 0 0 (MQ below (vp_Si (fun r => r = (sg (wof (Fn 107) (Fn 108) (Fn 102) v0 v1) (cn 10)))) ([.ref (g 0), .int v0, .int v1]).toArray s 0 0 (fun _ => False)) (F0 m 5 ls []) := by
    intro n5
    induction n5 with
    | zero => intros; (first | omega | (have zz0 := Hid.u hb_cn; omega))
    | succ n5 ih5 =>
      intro i5 x5_3 hmu5 hinv5 ls hl
      obtain ⟨hr5, hx5_0⟩ := hinv5
      have ti5 : (nI i5).toInt = (i5 : Int) := nI_toInt (by (first | omega | (have zz0 := Hid.u hb_cn; omega)))
      refine lv_iload hx hb dX11_worthOf_5 (lv_at hl 0 rfl) ?_
      refine lv_aload_n hx hb dX11_worthOf_7 rfl (lv_at hl 2 rfl) ?_
      refine gf_RX11_61 S hK hP 0 xo_0 (v := .ref (g 10)) rfl dX11_worthOf_8 ?_
      refine vp_callSi (runV_r (As := []) (rest := [.int (nI i5)]) S (q_l_size l D cI cB cZ (g 10) (if (cn 10) = 0 then zz else ad 2 0) (In 10) (nI (cn 10))) kV_RX11_84 hK hP [24] (one_is xo_24) 24 xo_24 rfl rfl ⟨Nat.le_of_ble_eq_true rfl, Nat.le_of_ble_eq_true rfl⟩ ⟨Nat.le_of_ble_eq_true rfl, Nat.le_of_ble_eq_true rfl⟩ rfl hl.1 rfl (Nat.le_of_ble_eq_true rfl) dX11_worthOf_11) (fun r_1 h_2 => ?_)
      subst h_2
      have : (nI (cn 10)).toInt = (((cn 10) : Nat) : Int) := nI_toInt (by (first | omega | (have zz0 := Hid.u hb_cn; omega)))
      refine lv_icmp_ge (tgt := 62) hx hb dX11_worthOf_14 rfl (fun c_3 => ?_) (fun c_3 => ?_)
      ·
        have tc_3 : ((nI (cn 10)).toInt : Int) ≤ (nI i5).toInt := Int32.le_iff_toInt_le.mp c_3
        refine lv_iload_n hx hb dX11_worthOf_62 rfl (lv_at hl 1 rfl) ?_
        exact W.iret (v := x5_3) hx hb hr (fun t ht hW => ⟨x5_3, rfl, (by have e9 : i5 = cn 10 := (by (first | omega | (have zz0 := Hid.u hb_cn; omega))); rw [← e9]; exact hx5_0), ht⟩) (fun _ h => absurd h List.not_mem_nil) dX11_worthOf_63
      ·
        have tc_3 : ((nI i5).toInt : Int) < (nI (cn 10)).toInt := Int32.lt_iff_toInt_lt.mp (Int32.not_le.mp c_3)
        refine lv_aload_n hx hb dX11_worthOf_17 rfl (lv_at hl 2 rfl) ?_
        refine gf_RX11_61 S hK hP 0 xo_0 (v := .ref (g 10)) rfl dX11_worthOf_18 ?_
        refine lv_iload hx hb dX11_worthOf_21 (lv_at hl 0 rfl) ?_
        refine va_csq (runV_rx (As := [.int (nI i5)]) (rest := []) S (q_l_get l D cI cB cZ zz qq vv bt (g 10) (ad 2 0) (cn 20) (cn 10) i5 (ad 10 i5) (In 10) (fun i => if i < (cn 10) then some (ad 10 i) else none) (by (first | omega | (have zz0 := Hid.u hb_cn; omega))) (if_pos (by (first | omega | (have zz0 := Hid.u hb_cn; omega)))) (by (first | omega | (have zz0 := Hid.u hb_cn; omega))) (by (first | omega | (have zz0 := Hid.u hb_cn; omega)))) kV_RX11_87 hK hXS hS hP _ (two_is (xl_0 (by (first | omega | (have zz0 := Hid.u hb_cn; omega)))) (xf_13 (k := 0) (by (first | omega | (have zz0 := Hid.u hb_cn; omega))))) (va_recv hK.1 hP (ci := 0) rfl xo_24) ⟨Nat.le_of_ble_eq_true rfl, Nat.le_of_ble_eq_true rfl⟩ ⟨Nat.le_of_ble_eq_true rfl, Nat.le_of_ble_eq_true rfl⟩ rfl hl.1 rfl (Nat.le_of_ble_eq_true rfl) dX11_worthOf_23) (fun r_4 h_5 => ?_)
        subst h_5
        refine va_castS hx hb hown (S.2.2.2.2 _ (wT_t2 63 rfl rfl)) (xclass hK.1 (ci := 2) rfl) (va_recv hK.1 hP (ci := 2) rfl (xf_0 (by (first | omega | (have zz0 := Hid.u hb_cn; omega))))) dX11_worthOf_26 ?_
        refine lv_astore (lv' := [(5, .ref (ad 10 i5)), (4, .int (nI i5)), (3, .int x5_3), (0, .ref (g 0)), (1, .int v0), (2, .int v1)]) hx hb dX11_worthOf_29 hl (by decide) rfl (fun ls hl => ?_)
        refine lv_iload_n hx hb dX11_worthOf_31 rfl (lv_at hl 2 rfl) ?_
        refine lv_aload hx hb dX11_worthOf_32 (lv_at hl 0 rfl) ?_
        refine lv_iload_n hx hb dX11_worthOf_34 rfl (lv_at hl 4 rfl) ?_
        refine vp_callSi (runV_rxa (As := [.int v0]) (rest := [.int x5_3]) S (q_EcomesFor l D cI cB cZ zz qq vv bt g ad cn In Fn i5 v0 hB (by (first | omega | (have zz0 := Hid.u hb_cn; omega)))) kV_RX11_456 hK hXS hS hP _ (xf_0 (by (first | omega | (have zz0 := Hid.u hb_cn; omega)))) rfl rfl ⟨Nat.le_of_ble_eq_true rfl, Nat.le_of_ble_eq_true rfl⟩ ⟨Nat.le_of_ble_eq_true rfl, Nat.le_of_ble_eq_true rfl⟩ rfl hl.1 rfl (Nat.le_of_ble_eq_true rfl) dX11_worthOf_35) (fun r_6 h_7 => ?_)
        rcases h_7 with ⟨rfl, hq9⟩ | ⟨rfl, hq9⟩
        ·
          refine lv_if_eq (tgt := 53) hx hb dX11_worthOf_38 rfl (fun h => absurd h (by decide)) (fun _ => ?_)
          refine lv_aload hx hb dX11_worthOf_41 (lv_at hl 0 rfl) ?_
          refine gf_RX11_459 S hK hP _ (xf_0 (by (first | omega | (have zz0 := Hid.u hb_cn; omega)))) (v := .int ((Fn 102) i5)) rfl dX11_worthOf_43 ?_
          refine lv_iload_n hx hb dX11_worthOf_46 rfl (lv_at hl 5 rfl) ?_
          refine lv_iload_n hx hb dX11_worthOf_47 rfl (lv_at hl 4 rfl) ?_
          refine lv_isub hx hb dX11_worthOf_48 ?_
          refine lv_imul hx hb dX11_worthOf_49 ?_
          refine lv_goto (tgt := 54) hx hb dX11_worthOf_50 rfl ?_
          refine lv_iadd hx hb dX11_worthOf_54 ?_
          refine lv_istore_n (lv' := [(3, .int (x5_3 + (((Fn 102) i5) * (v1 - v0)))), (5, .ref (ad 10 i5)), (4, .int (nI i5)), (0, .ref (g 0)), (1, .int v0), (2, .int v1)]) hx hb dX11_worthOf_55 rfl hl (by decide) rfl (fun ls hl => ?_)
          refine lv_iinc (v := (nI (i5 + 1))) (lv' := [(4, .int (nI (i5 + 1))), (3, .int (x5_3 + (((Fn 102) i5) * (v1 - v0)))), (5, .ref (ad 10 i5)), (0, .ref (g 0)), (1, .int v0), (2, .int v1)]) hx hb dX11_worthOf_56 hl (k := 2) rfl (nI_1 _) (by decide) rfl (fun ls hl => ?_)
          refine lv_goto (tgt := 5) hx hb dX11_worthOf_59 rfl ?_
          exact ih5 (i5 + 1) (x5_3 + (((Fn 102) i5) * (v1 - v0))) (by (first | omega | (have zz0 := Hid.u hb_cn; omega))) ⟨(by (first | omega | (have zz0 := Hid.u hb_cn; omega))), (by refine sg_1 hx5_0 ?_; first | exact wof_1 (by (first | omega | (have zz0 := Hid.u hb_cn; omega))) | exact wof_0 (by (first | omega | (have zz0 := Hid.u hb_cn; omega))))⟩ ls (lv_sub hl [0, 1, 3, 4, 5] rfl)
        ·
          refine lv_if_eq (tgt := 53) hx hb dX11_worthOf_38 rfl (fun _ => ?_) (fun h => absurd h (by decide))
          refine lv_iconst (v := 0) hx hb dX11_worthOf_53 kic_0 ?_
          refine lv_iadd hx hb dX11_worthOf_54 ?_
          refine lv_istore_n (lv' := [(3, .int (x5_3 + 0)), (5, .ref (ad 10 i5)), (4, .int (nI i5)), (0, .ref (g 0)), (1, .int v0), (2, .int v1)]) hx hb dX11_worthOf_55 rfl hl (by decide) rfl (fun ls hl => ?_)
          refine lv_iinc (v := (nI (i5 + 1))) (lv' := [(4, .int (nI (i5 + 1))), (3, .int (x5_3 + 0)), (5, .ref (ad 10 i5)), (0, .ref (g 0)), (1, .int v0), (2, .int v1)]) hx hb dX11_worthOf_56 hl (k := 2) rfl (nI_1 _) (by decide) rfl (fun ls hl => ?_)
          refine lv_goto (tgt := 5) hx hb dX11_worthOf_59 rfl ?_
          exact ih5 (i5 + 1) (x5_3 + 0) (by (first | omega | (have zz0 := Hid.u hb_cn; omega))) ⟨(by (first | omega | (have zz0 := Hid.u hb_cn; omega))), (by refine sg_1 hx5_0 ?_; first | exact wof_1 (by (first | omega | (have zz0 := Hid.u hb_cn; omega))) | exact wof_0 (by (first | omega | (have zz0 := Hid.u hb_cn; omega))))⟩ ls (lv_sub hl [0, 1, 3, 4, 5] rfl)
  exact lp_5 _ 0 0 (Nat.lt_succ_self _) ⟨(by (first | omega | (have zz0 := Hid.u hb_cn; omega))), rfl⟩ ls (lv_sub hl [0, 1, 2, 3, 4] rfl)
set_option maxRecDepth 100000 in
set_option maxHeartbeats 4000000 in
theorem q_worthOf9 (l : Launch) (D : va_G) (cI cB cZ : ClassId) (g : Nat → Nat) (cn : Nat → Nat) (In : Nat → Int32) (Fn : Nat → Nat → Int32) (v0 v1 : Int32) (hI : IM cn Fn) : Met l yX12_worthOf (CWS yX12_worthOf cX12_worthOf 6 (some .int)) (RM 1 0 0) (PBr [.ref (g 100), .int v0, .int v1] D cI cB cZ (wM cI cB cZ g cn In Fn)) (vp_Si (fun r => r = (sg (wof (Fn 84) (Fn 85) (Fn 5) v0 v1) (cn 1)))) 0 0 (fun _ => False) := by
  refine Met.ofW (cc := cX12_worthOf) (maxL := 6) (ret := (some .int)) (by decide) rfl ?_
  intro p e s m args below meth c s₁ B hml hv
  obtain ⟨rfl, hP, hK⟩ := hv
  have hx := B.exec
  have hb := B.bytes
  have hr := B.returns
  have hts := atoms_spec (ws := (CWS yX12_worthOf cX12_worthOf 6 (some .int))) B.pre
  have hown : s.vm.findClass RX12 = some m.cls := findClass_of_methodNamed B.named
  have hlocks := B.notSynchronized
  have S : SF p m c cX12_worthOf 6 s ([.ref (g 100), .int v0, .int v1]).toArray RX12 := ⟨hx, hb, hml, hown, fun w h => hts w (List.mem_cons_of_mem _ h)⟩
  have hl := lv_entry ([.ref (g 100), .int v0, .int v1]) (n := 6) (Nat.le_of_ble_eq_true rfl)
  rw [lg_entry_eq]
  generalize (lg_sl ([.ref (g 100), .int v0, .int v1]) ++ List.replicate (6 - (lg_sl ([.ref (g 100), .int v0, .int v1])).length) Slot.unset).toArray = ls at hl ⊢
  have hl : lv_has ls 6 [(0, .ref (g 100)), (1, .int v0), (2, .int v1)] := hl
  have hi_cn : Hid (CB cn) := hI.b
  refine lv_aload_n hx hb dX12_worthOf_0 rfl (lv_at hl 0 rfl) ?_
  refine lv_iload_n hx hb dX12_worthOf_1 rfl (lv_at hl 1 rfl) ?_
  refine vp_callSi (runV_ra (As := [.int v0]) (rest := []) S (q_comers9 l D cI cB cZ g cn In Fn v0 hI) kV_RX12_469 hK hP 0 rfl rfl rfl ⟨Nat.le_of_ble_eq_true rfl, Nat.le_of_ble_eq_true rfl⟩ ⟨Nat.le_of_ble_eq_true rfl, Nat.le_of_ble_eq_true rfl⟩ rfl hl.1 rfl (Nat.le_of_ble_eq_true rfl) dX12_worthOf_2) (fun r_1 h_2 => ?_)
  subst h_2
  refine lv_istore_n (lv' := [(3, .int ((cmb ((Fn 84)) ((Fn 85)) v0 ((cn 1))))), (0, .ref (g 100)), (1, .int v0), (2, .int v1)]) hx hb dX12_worthOf_5 rfl hl (by decide) rfl (fun ls hl => ?_)
  refine lv_iconst (v := 0) hx hb dX12_worthOf_6 kic_0 ?_
  refine lv_istore (lv' := [(4, .int 0), (3, .int ((cmb ((Fn 84)) ((Fn 85)) v0 ((cn 1))))), (0, .ref (g 100)), (1, .int v0), (2, .int v1)]) hx hb dX12_worthOf_7 hl (by decide) rfl (fun ls hl => ?_)
  refine lv_iconst (v := 0) hx hb dX12_worthOf_9 kic_0 ?_
  refine lv_istore (lv' := [(5, .int 0), (4, .int 0), (3, .int ((cmb ((Fn 84)) ((Fn 85)) v0 ((cn 1))))), (0, .ref (g 100)), (1, .int v0), (2, .int v1)]) hx hb dX12_worthOf_10 hl (by decide) rfl (fun ls hl => ?_)
  have lp_12 : ∀ (n : Nat) (i12 : Nat) (x12_4 : Int32) , cn 1 - i12 < n → (i12 ≤ cn 1 ∧ (x12_4 = sg (wof (Fn 84) (Fn 85) (Fn 5) v0 v1) i12)) → ∀ ls : Array Slot, lv_has ls 6 [(5, .int (nI i12)), (4, .int x12_4), (3, .int ((cmb ((Fn 84)) ((Fn 85)) v0 ((cn 1))))), (0, .ref (g 100)), (1, .int v0), (2, .int v1)] → W p l e (RM 1 0 0) s m ([.ref (g 100), .int v0, .int v1]).toArray below meth c s.heap [] 0 0 (MQ below (vp_Si (fun r => r = (sg (wof (Fn 84) (Fn 85) (Fn 5) v0 v1) (cn 1)))) ([.ref (g 100), .int v0, .int v1]).toArray s 0 0 (fun _ => False)) (F0 m 12 ls []) := by
    intro n12
    induction n12 with
    | zero => intros; (first | omega | (have zz0 := Hid.u hi_cn; omega))
    | succ n12 ih12 =>
      intro i12 x12_4 hmu12 hinv12 ls hl
      obtain ⟨hr12, hx12_0⟩ := hinv12
      have ti12 : (nI i12).toInt = (i12 : Int) := nI_toInt (by (first | omega | (have zz0 := Hid.u hi_cn; omega)))
      refine lv_iload hx hb dX12_worthOf_12 (lv_at hl 0 rfl) ?_
      refine lv_aload_n hx hb dX12_worthOf_14 rfl (lv_at hl 3 rfl) ?_
      refine gM_204 S hK hP (v := .int (nI (cn 1))) rfl dX12_worthOf_15 ?_
      have : (nI (cn 1)).toInt = (((cn 1) : Nat) : Int) := nI_toInt (by (first | omega | (have zz0 := Hid.u hi_cn; omega)))
      refine lv_icmp_ge (tgt := 50) hx hb dX12_worthOf_18 rfl (fun c_3 => ?_) (fun c_3 => ?_)
      ·
        have tc_3 : ((nI (cn 1)).toInt : Int) ≤ (nI i12).toInt := Int32.le_iff_toInt_le.mp c_3
        refine lv_iload hx hb dX12_worthOf_50 (lv_at hl 1 rfl) ?_
        exact W.iret (v := x12_4) hx hb hr (fun t ht hW => ⟨x12_4, rfl, (by have e9 : i12 = cn 1 := (by (first | omega | (have zz0 := Hid.u hi_cn; omega))); rw [← e9]; exact hx12_0), ht⟩) (fun _ h => absurd h List.not_mem_nil) dX12_worthOf_52
      ·
        have tc_3 : ((nI i12).toInt : Int) < (nI (cn 1)).toInt := Int32.lt_iff_toInt_lt.mp (Int32.not_le.mp c_3)
        refine lv_iload hx hb dX12_worthOf_21 (lv_at hl 1 rfl) ?_
        refine lv_iload_n hx hb dX12_worthOf_23 rfl (lv_at hl 2 rfl) ?_
        refine lv_iload hx hb dX12_worthOf_24 (lv_at hl 0 rfl) ?_
        refine lv_ishr hx hb dX12_worthOf_26 ?_
        refine lv_iconst (v := 1) hx hb dX12_worthOf_27 kic_1 ?_
        refine lv_iand hx hb dX12_worthOf_28 ?_
        refine lv_aload_n hx hb dX12_worthOf_29 rfl (lv_at hl 3 rfl) ?_
        refine gM_16 S hK hP (v := .ref (g 5)) rfl dX12_worthOf_30 ?_
        refine lv_iload hx hb dX12_worthOf_33 (lv_at hl 0 rfl) ?_
        refine ldM_5 hx hb hK hP (x := ((Fn 5) i12)) (vp_in_nI (by (first | omega | (have zz0 := Hid.u hi_cn; omega))) (by decide)) (nI_clamp (by (first | omega | (have zz0 := Hid.u hi_cn; omega)))) rfl dX12_worthOf_35 ?_
        refine lv_imul hx hb dX12_worthOf_36 ?_
        refine lv_iload_n hx hb dX12_worthOf_37 rfl (lv_at hl 5 rfl) ?_
        refine lv_iload_n hx hb dX12_worthOf_38 rfl (lv_at hl 4 rfl) ?_
        refine lv_isub hx hb dX12_worthOf_39 ?_
        refine lv_imul hx hb dX12_worthOf_40 ?_
        refine lv_iadd hx hb dX12_worthOf_41 ?_
        refine lv_istore (lv' := [(4, .int (x12_4 + ((((((cmb ((Fn 84)) ((Fn 85)) v0 ((cn 1)))) >>> ((nI i12) &&& 31)) &&& 1) * ((Fn 5) i12)) * (v1 - v0)))), (5, .int (nI i12)), (3, .int ((cmb ((Fn 84)) ((Fn 85)) v0 ((cn 1))))), (0, .ref (g 100)), (1, .int v0), (2, .int v1)]) hx hb dX12_worthOf_42 hl (by decide) rfl (fun ls hl => ?_)
        refine lv_iinc (v := (nI (i12 + 1))) (lv' := [(5, .int (nI (i12 + 1))), (4, .int (x12_4 + ((((((cmb ((Fn 84)) ((Fn 85)) v0 ((cn 1)))) >>> ((nI i12) &&& 31)) &&& 1) * ((Fn 5) i12)) * (v1 - v0)))), (3, .int ((cmb ((Fn 84)) ((Fn 85)) v0 ((cn 1))))), (0, .ref (g 100)), (1, .int v0), (2, .int v1)]) hx hb dX12_worthOf_44 hl (k := 1) rfl (nI_1 _) (by decide) rfl (fun ls hl => ?_)
        refine lv_goto (tgt := 12) hx hb dX12_worthOf_47 rfl ?_
        exact ih12 (i12 + 1) (x12_4 + ((((((cmb ((Fn 84)) ((Fn 85)) v0 ((cn 1)))) >>> ((nI i12) &&& 31)) &&& 1) * ((Fn 5) i12)) * (v1 - v0))) (by (first | omega | (have zz0 := Hid.u hi_cn; omega))) ⟨(by (first | omega | (have zz0 := Hid.u hi_cn; omega))), (by refine sg_1 hx12_0 ?_; exact wof_b (by (first | omega | (have zz0 := Hid.u hi_cn; omega))) (by (first | omega | (have zz0 := Hid.u hi_cn; omega))))⟩ ls (lv_sub hl [0, 1, 2, 3, 4, 5] rfl)
  exact lp_12 _ 0 0 (Nat.lt_succ_self _) ⟨(by (first | omega | (have zz0 := Hid.u hi_cn; omega))), rfl⟩ ls (lv_sub hl [0, 1, 2, 3, 4, 5] rfl)
set_option maxRecDepth 100000 in
set_option maxHeartbeats 4000000 in
theorem q_Eworth (l : Launch) (D : va_G) (cI cB cZ : ClassId) (zz qq vv : Nat) (bt : Nat → Int32) (g : Nat → Nat) (ad : Nat → Nat → Nat) (cn : Nat → Nat) (In : Nat → Int32) (Fn : Nat → Nat → Int32) (v0 v1 : Int32) (hB : CBX cn) : Met l yX11_worth (CWS yX11_worth cX11_worth 3 (some .int)) (RM 4 0 0) (PBrx [.ref (g 0), .int v0, .int v1] D cI cB cZ zz qq vv bt (wX cI (D.1 99) zz g ad cn In Fn)) (vp_Si (fun r => ((0 ≤ v0.toInt ∧ v0.toInt ≤ 200 ∧ 0 ≤ v1.toInt ∧ v1.toInt ≤ 1000) ∧ r = (sg (wof (Fn 107) (Fn 108) (Fn 102) v0 v1) (cn 10))) ∨ (¬ (0 ≤ v0.toInt ∧ v0.toInt ≤ 200 ∧ 0 ≤ v1.toInt ∧ v1.toInt ≤ 1000) ∧ r = -1000000))) 0 0 (fun _ => False) := by
  refine Met.ofW (cc := cX11_worth) (maxL := 3) (ret := (some .int)) (by decide) rfl ?_
  intro p e s m args below meth c s₁ B hml hv
  obtain ⟨rfl, hP, hK, hXS⟩ := hv
  have hS : va_S (fun _ => False) s.heap s.heap [] := va_S.rf
  have hx := B.exec
  have hb := B.bytes
  have hr := B.returns
  have hts := atoms_spec (ws := (CWS yX11_worth cX11_worth 3 (some .int))) B.pre
  have hown : s.vm.findClass RX11 = some m.cls := findClass_of_methodNamed B.named
  have hlocks := B.notSynchronized
  have S : SF p m c cX11_worth 3 s ([.ref (g 0), .int v0, .int v1]).toArray RX11 := ⟨hx, hb, hml, hown, fun w h => hts w (List.mem_cons_of_mem _ h)⟩
  have hl := lv_entry ([.ref (g 0), .int v0, .int v1]) (n := 3) (Nat.le_of_ble_eq_true rfl)
  rw [lg_entry_eq]
  generalize (lg_sl ([.ref (g 0), .int v0, .int v1]) ++ List.replicate (3 - (lg_sl ([.ref (g 0), .int v0, .int v1])).length) Slot.unset).toArray = ls at hl ⊢
  have hl : lv_has ls 3 [(0, .ref (g 0)), (1, .int v0), (2, .int v1)] := hl
  have hb_cn : Hid (CBX cn) := hB
  replace hB : CBXh cn := hB
  refine lv_iload_n hx hb dX11_worth_0 rfl (lv_at hl 1 rfl) ?_
  refine lv_iconst (v := 0) hx hb dX11_worth_1 kic_0 ?_
  refine lv_sipush (v := 200) hx hb dX11_worth_2 (by decide) ?_
  refine vp_callSi (runS_r (As := [.int v0, .int 0, .int 200]) (rest := []) S (q_l_within l D cI cB cZ v0 0 200) kS_RX11_80 hK hP [] rfl ⟨Nat.le_of_ble_eq_true rfl, Nat.le_of_ble_eq_true rfl⟩ ⟨Nat.le_of_ble_eq_true rfl, Nat.le_of_ble_eq_true rfl⟩ rfl hl.1 rfl (Nat.le_of_ble_eq_true rfl) dX11_worth_5) (fun r_1 h_2 => ?_)
  rcases h_2 with ⟨rfl, h_2⟩ | ⟨rfl, h_2⟩
  ·
    have h_2 : 0 ≤ v0.toInt ∧ v0.toInt ≤ 200 := h_2
    refine lv_if_eq (tgt := 31) hx hb dX11_worth_8 rfl (fun h => absurd h (by decide)) (fun _ => ?_)
    refine lv_iload_n hx hb dX11_worth_11 rfl (lv_at hl 2 rfl) ?_
    refine lv_iconst (v := 0) hx hb dX11_worth_12 kic_0 ?_
    refine lv_sipush (v := 1000) hx hb dX11_worth_13 (by decide) ?_
    refine vp_callSi (runS_r (As := [.int v1, .int 0, .int 1000]) (rest := []) S (q_l_within l D cI cB cZ v1 0 1000) kS_RX11_80 hK hP [] rfl ⟨Nat.le_of_ble_eq_true rfl, Nat.le_of_ble_eq_true rfl⟩ ⟨Nat.le_of_ble_eq_true rfl, Nat.le_of_ble_eq_true rfl⟩ rfl hl.1 rfl (Nat.le_of_ble_eq_true rfl) dX11_worth_16) (fun r_3 h_4 => ?_)
    rcases h_4 with ⟨rfl, h_4⟩ | ⟨rfl, h_4⟩
    ·
      have h_4 : 0 ≤ v1.toInt ∧ v1.toInt ≤ 1000 := h_4
      refine lv_if_eq (tgt := 31) hx hb dX11_worth_19 rfl (fun h => absurd h (by decide)) (fun _ => ?_)
      refine lv_aload_n hx hb dX11_worth_22 rfl (lv_at hl 0 rfl) ?_
      refine lv_iload_n hx hb dX11_worth_23 rfl (lv_at hl 1 rfl) ?_
      refine lv_iload_n hx hb dX11_worth_24 rfl (lv_at hl 2 rfl) ?_
      refine vp_callSi (runV_rxa (As := [.int v0, .int v1]) (rest := []) S (q_EworthOf l D cI cB cZ zz qq vv bt g ad cn In Fn v0 v1 hB) kV_RX11_460 hK hXS hS hP 0 xo_0 rfl rfl ⟨Nat.le_of_ble_eq_true rfl, Nat.le_of_ble_eq_true rfl⟩ ⟨Nat.le_of_ble_eq_true rfl, Nat.le_of_ble_eq_true rfl⟩ rfl hl.1 rfl (Nat.le_of_ble_eq_true rfl) dX11_worth_25) (fun r_5 h_6 => ?_)
      subst h_6
      refine lv_goto (tgt := 34) hx hb dX11_worth_28 rfl ?_
      exact W.iret (v := ((sg (wof ((Fn 107)) ((Fn 108)) ((Fn 102)) v0 v1) ((cn 10))))) hx hb hr (fun t ht hW => ⟨((sg (wof ((Fn 107)) ((Fn 108)) ((Fn 102)) v0 v1) ((cn 10)))), rfl, (Or.inl ⟨by (first | omega | (have zz0 := Hid.u hb_cn; omega)), rfl⟩), ht⟩) (fun _ h => absurd h List.not_mem_nil) dX11_worth_34
    ·
      have h_4 : ¬ (0 ≤ v1.toInt ∧ v1.toInt ≤ 1000) := h_4
      refine lv_if_eq (tgt := 31) hx hb dX11_worth_19 rfl (fun _ => ?_) (fun h => absurd h (by decide))
      refine lv_ldcw (v := (-1000000)) hx hb hown (S.2.2.2.2 _ (wT_t5 184 rfl rfl)) dX11_worth_31 ?_
      exact W.iret (v := (-1000000)) hx hb hr (fun t ht hW => ⟨(-1000000), rfl, (Or.inr ⟨by (first | omega | (have zz0 := Hid.u hb_cn; omega)), by first | rfl | decide⟩), ht⟩) (fun _ h => absurd h List.not_mem_nil) dX11_worth_34
  ·
    have h_2 : ¬ (0 ≤ v0.toInt ∧ v0.toInt ≤ 200) := h_2
    refine lv_if_eq (tgt := 31) hx hb dX11_worth_8 rfl (fun _ => ?_) (fun h => absurd h (by decide))
    refine lv_ldcw (v := (-1000000)) hx hb hown (S.2.2.2.2 _ (wT_t5 184 rfl rfl)) dX11_worth_31 ?_
    exact W.iret (v := (-1000000)) hx hb hr (fun t ht hW => ⟨(-1000000), rfl, (Or.inr ⟨by (first | omega | (have zz0 := Hid.u hb_cn; omega)), by first | rfl | decide⟩), ht⟩) (fun _ h => absurd h List.not_mem_nil) dX11_worth_34
set_option maxRecDepth 100000 in
set_option maxHeartbeats 4000000 in
theorem q_worth9 (l : Launch) (D : va_G) (cI cB cZ : ClassId) (g : Nat → Nat) (cn : Nat → Nat) (In : Nat → Int32) (Fn : Nat → Nat → Int32) (v0 v1 : Int32) (hI : IM cn Fn) : Met l yX12_worth (CWS yX12_worth cX12_worth 3 (some .int)) (RM 2 0 0) (PBr [.ref (g 100), .int v0, .int v1] D cI cB cZ (wM cI cB cZ g cn In Fn)) (vp_Si (fun r => ((0 ≤ v0.toInt ∧ v0.toInt ≤ 200 ∧ 0 ≤ v1.toInt ∧ v1.toInt ≤ 1000) ∧ r = (sg (wof (Fn 84) (Fn 85) (Fn 5) v0 v1) (cn 1))) ∨ (¬ (0 ≤ v0.toInt ∧ v0.toInt ≤ 200 ∧ 0 ≤ v1.toInt ∧ v1.toInt ≤ 1000) ∧ r = -1000000))) 0 0 (fun _ => False) := by
  refine Met.ofW (cc := cX12_worth) (maxL := 3) (ret := (some .int)) (by decide) rfl ?_
  intro p e s m args below meth c s₁ B hml hv
  obtain ⟨rfl, hP, hK⟩ := hv
  have hx := B.exec
  have hb := B.bytes
  have hr := B.returns
  have hts := atoms_spec (ws := (CWS yX12_worth cX12_worth 3 (some .int))) B.pre
  have hown : s.vm.findClass RX12 = some m.cls := findClass_of_methodNamed B.named
  have hlocks := B.notSynchronized
  have S : SF p m c cX12_worth 3 s ([.ref (g 100), .int v0, .int v1]).toArray RX12 := ⟨hx, hb, hml, hown, fun w h => hts w (List.mem_cons_of_mem _ h)⟩
  have hl := lv_entry ([.ref (g 100), .int v0, .int v1]) (n := 3) (Nat.le_of_ble_eq_true rfl)
  rw [lg_entry_eq]
  generalize (lg_sl ([.ref (g 100), .int v0, .int v1]) ++ List.replicate (3 - (lg_sl ([.ref (g 100), .int v0, .int v1])).length) Slot.unset).toArray = ls at hl ⊢
  have hl : lv_has ls 3 [(0, .ref (g 100)), (1, .int v0), (2, .int v1)] := hl
  have hi_cn : Hid (CB cn) := hI.b
  refine lv_iload_n hx hb dX12_worth_0 rfl (lv_at hl 1 rfl) ?_
  refine lv_iconst (v := 0) hx hb dX12_worth_1 kic_0 ?_
  refine lv_sipush (v := 200) hx hb dX12_worth_2 (by decide) ?_
  refine vp_callSi (runS_r (As := [.int v0, .int 0, .int 200]) (rest := []) S (q_in l D cI cB cZ v0 0 200 ) kS_RX12_214 hK hP [] rfl ⟨Nat.le_of_ble_eq_true rfl, Nat.le_of_ble_eq_true rfl⟩ ⟨Nat.le_of_ble_eq_true rfl, Nat.le_of_ble_eq_true rfl⟩ rfl hl.1 rfl (Nat.le_of_ble_eq_true rfl) dX12_worth_5) (fun r_1 h_2 => ?_)
  rcases h_2 with ⟨rfl, h_2⟩ | ⟨rfl, h_2⟩
  ·
    have h_2 : 0 ≤ v0.toInt ∧ v0.toInt ≤ 200 := h_2
    refine lv_if_eq (tgt := 31) hx hb dX12_worth_8 rfl (fun h => absurd h (by decide)) (fun _ => ?_)
    refine lv_iload_n hx hb dX12_worth_11 rfl (lv_at hl 2 rfl) ?_
    refine lv_iconst (v := 0) hx hb dX12_worth_12 kic_0 ?_
    refine lv_sipush (v := 1000) hx hb dX12_worth_13 (by decide) ?_
    refine vp_callSi (runS_r (As := [.int v1, .int 0, .int 1000]) (rest := []) S (q_in l D cI cB cZ v1 0 1000 ) kS_RX12_214 hK hP [] rfl ⟨Nat.le_of_ble_eq_true rfl, Nat.le_of_ble_eq_true rfl⟩ ⟨Nat.le_of_ble_eq_true rfl, Nat.le_of_ble_eq_true rfl⟩ rfl hl.1 rfl (Nat.le_of_ble_eq_true rfl) dX12_worth_16) (fun r_3 h_4 => ?_)
    rcases h_4 with ⟨rfl, h_4⟩ | ⟨rfl, h_4⟩
    ·
      have h_4 : 0 ≤ v1.toInt ∧ v1.toInt ≤ 1000 := h_4
      refine lv_if_eq (tgt := 31) hx hb dX12_worth_19 rfl (fun h => absurd h (by decide)) (fun _ => ?_)
      refine lv_aload_n hx hb dX12_worth_22 rfl (lv_at hl 0 rfl) ?_
      refine lv_iload_n hx hb dX12_worth_23 rfl (lv_at hl 1 rfl) ?_
      refine lv_iload_n hx hb dX12_worth_24 rfl (lv_at hl 2 rfl) ?_
      refine vp_callSi (runV_ra (As := [.int v0, .int v1]) (rest := []) S (q_worthOf9 l D cI cB cZ g cn In Fn v0 v1 hI) kV_RX12_472 hK hP 0 rfl rfl rfl ⟨Nat.le_of_ble_eq_true rfl, Nat.le_of_ble_eq_true rfl⟩ ⟨Nat.le_of_ble_eq_true rfl, Nat.le_of_ble_eq_true rfl⟩ rfl hl.1 rfl (Nat.le_of_ble_eq_true rfl) dX12_worth_25) (fun r_5 h_6 => ?_)
      subst h_6
      refine lv_goto (tgt := 34) hx hb dX12_worth_28 rfl ?_
      exact W.iret (v := ((sg (wof ((Fn 84)) ((Fn 85)) ((Fn 5)) v0 v1) ((cn 1))))) hx hb hr (fun t ht hW => ⟨((sg (wof ((Fn 84)) ((Fn 85)) ((Fn 5)) v0 v1) ((cn 1)))), rfl, (Or.inl ⟨by (first | omega | (have zz0 := Hid.u hi_cn; omega)), rfl⟩), ht⟩) (fun _ h => absurd h List.not_mem_nil) dX12_worth_34
    ·
      have h_4 : ¬ (0 ≤ v1.toInt ∧ v1.toInt ≤ 1000) := h_4
      refine lv_if_eq (tgt := 31) hx hb dX12_worth_19 rfl (fun _ => ?_) (fun h => absurd h (by decide))
      refine lv_ldcw (v := (-1000000)) hx hb hown (S.2.2.2.2 _ (wT_t9 65 rfl rfl)) dX12_worth_31 ?_
      exact W.iret (v := (-1000000)) hx hb hr (fun t ht hW => ⟨(-1000000), rfl, (Or.inr ⟨by (first | omega | (have zz0 := Hid.u hi_cn; omega)), by first | rfl | decide⟩), ht⟩) (fun _ h => absurd h List.not_mem_nil) dX12_worth_34
  ·
    have h_2 : ¬ (0 ≤ v0.toInt ∧ v0.toInt ≤ 200) := h_2
    refine lv_if_eq (tgt := 31) hx hb dX12_worth_8 rfl (fun _ => ?_) (fun h => absurd h (by decide))
    refine lv_ldcw (v := (-1000000)) hx hb hown (S.2.2.2.2 _ (wT_t9 65 rfl rfl)) dX12_worth_31 ?_
    exact W.iret (v := (-1000000)) hx hb hr (fun t ht hW => ⟨(-1000000), rfl, (Or.inr ⟨by (first | omega | (have zz0 := Hid.u hi_cn; omega)), by first | rfl | decide⟩), ht⟩) (fun _ h => absurd h List.not_mem_nil) dX12_worth_34
set_option maxRecDepth 100000 in
set_option maxHeartbeats 4000000 in
theorem q_Eoffer (l : Launch) (D : va_G) (cI cB cZ : ClassId) (zz qq vv : Nat) (bt : Nat → Int32) (g : Nat → Nat) (ad : Nat → Nat → Nat) (cn : Nat → Nat) (In : Nat → Int32) (Fn : Nat → Nat → Int32) (v0 v1 : Int32) (hB : CBX cn) : Met l yX11_offer (CWS yX11_offer cX11_offer 7 (some .int)) (RM 4 0 0) (PBrx [.ref (g 0), .int v0, .int v1] D cI cB cZ zz qq vv bt (wX cI (D.1 99) zz g ad cn In Fn)) (vp_Si (fun r => ((0 ≤ v0.toInt ∧ v0.toInt ≤ 1000 ∧ 0 ≤ v1.toInt ∧ v1.toInt ≤ 2) ∧ OFS (fun j => (sg (wof (Fn 107) (Fn 108) (Fn 102) (nI j) v0) (cn 10))) (fun j => cmb (Fn 107) (Fn 108) (nI j) (cn 10)) v1 r) ∨ (¬ (0 ≤ v0.toInt ∧ v0.toInt ≤ 1000 ∧ 0 ≤ v1.toInt ∧ v1.toInt ≤ 2) ∧ r = -1))) 0 0 (fun _ => False) := by
  refine Met.ofW (cc := cX11_offer) (maxL := 7) (ret := (some .int)) (by decide) rfl ?_
  intro p e s m args below meth c s₁ B hml hv
  obtain ⟨rfl, hP, hK, hXS⟩ := hv
  have hS : va_S (fun _ => False) s.heap s.heap [] := va_S.rf
  have hx := B.exec
  have hb := B.bytes
  have hr := B.returns
  have hts := atoms_spec (ws := (CWS yX11_offer cX11_offer 7 (some .int))) B.pre
  have hown : s.vm.findClass RX11 = some m.cls := findClass_of_methodNamed B.named
  have hlocks := B.notSynchronized
  have S : SF p m c cX11_offer 7 s ([.ref (g 0), .int v0, .int v1]).toArray RX11 := ⟨hx, hb, hml, hown, fun w h => hts w (List.mem_cons_of_mem _ h)⟩
  have hl := lv_entry ([.ref (g 0), .int v0, .int v1]) (n := 7) (Nat.le_of_ble_eq_true rfl)
  rw [lg_entry_eq]
  generalize (lg_sl ([.ref (g 0), .int v0, .int v1]) ++ List.replicate (7 - (lg_sl ([.ref (g 0), .int v0, .int v1])).length) Slot.unset).toArray = ls at hl ⊢
  have hl : lv_has ls 7 [(0, .ref (g 0)), (1, .int v0), (2, .int v1)] := hl
  have hb_cn : Hid (CBX cn) := hB
  replace hB : CBXh cn := hB
  refine lv_iload_n hx hb dX11_offer_0 rfl (lv_at hl 1 rfl) ?_
  refine lv_iconst (v := 0) hx hb dX11_offer_1 kic_0 ?_
  refine lv_sipush (v := 1000) hx hb dX11_offer_2 (by decide) ?_
  refine vp_callSi (runS_r (As := [.int v0, .int 0, .int 1000]) (rest := []) S (q_l_within l D cI cB cZ v0 0 1000) kS_RX11_80 hK hP [] rfl ⟨Nat.le_of_ble_eq_true rfl, Nat.le_of_ble_eq_true rfl⟩ ⟨Nat.le_of_ble_eq_true rfl, Nat.le_of_ble_eq_true rfl⟩ rfl hl.1 rfl (Nat.le_of_ble_eq_true rfl) dX11_offer_5) (fun r_1 h_2 => ?_)
  rcases h_2 with ⟨rfl, h_2⟩ | ⟨rfl, h_2⟩
  ·
    have h_2 : 0 ≤ v0.toInt ∧ v0.toInt ≤ 1000 := h_2
    refine lv_if_eq (tgt := 20) hx hb dX11_offer_8 rfl (fun h => absurd h (by decide)) (fun _ => ?_)
    refine lv_iload_n hx hb dX11_offer_11 rfl (lv_at hl 2 rfl) ?_
    refine lv_iconst (v := 0) hx hb dX11_offer_12 kic_0 ?_
    refine lv_iconst (v := 2) hx hb dX11_offer_13 kic_2 ?_
    refine vp_callSi (runS_r (As := [.int v1, .int 0, .int 2]) (rest := []) S (q_l_within l D cI cB cZ v1 0 2) kS_RX11_80 hK hP [] rfl ⟨Nat.le_of_ble_eq_true rfl, Nat.le_of_ble_eq_true rfl⟩ ⟨Nat.le_of_ble_eq_true rfl, Nat.le_of_ble_eq_true rfl⟩ rfl hl.1 rfl (Nat.le_of_ble_eq_true rfl) dX11_offer_14) (fun r_3 h_4 => ?_)
    rcases h_4 with ⟨rfl, h_4⟩ | ⟨rfl, h_4⟩
    ·
      have h_4 : 0 ≤ v1.toInt ∧ v1.toInt ≤ 2 := h_4
      refine lv_if_ne (tgt := 22) hx hb dX11_offer_17 rfl (fun _ => ?_) (fun h => absurd h (by decide))
      refine lv_iconst (v := 0) hx hb dX11_offer_22 kic_0 ?_
      refine lv_istore_n (lv' := [(3, .int 0), (0, .ref (g 0)), (1, .int v0), (2, .int v1)]) hx hb dX11_offer_23 rfl hl (by decide) rfl (fun ls hl => ?_)
      refine lv_aload_n hx hb dX11_offer_24 rfl (lv_at hl 1 rfl) ?_
      refine lv_iconst (v := 0) hx hb dX11_offer_25 kic_0 ?_
      refine lv_iload_n hx hb dX11_offer_26 rfl (lv_at hl 2 rfl) ?_
      refine vp_callSi (runV_rxa (As := [.int 0, .int v0]) (rest := []) S (q_EworthOf l D cI cB cZ zz qq vv bt g ad cn In Fn 0 v0 hB) kV_RX11_460 hK hXS hS hP 0 xo_0 rfl rfl ⟨Nat.le_of_ble_eq_true rfl, Nat.le_of_ble_eq_true rfl⟩ ⟨Nat.le_of_ble_eq_true rfl, Nat.le_of_ble_eq_true rfl⟩ rfl hl.1 rfl (Nat.le_of_ble_eq_true rfl) dX11_offer_27) (fun r_5 h_6 => ?_)
      subst h_6
      refine lv_istore (lv' := [(4, .int ((sg (wof ((Fn 107)) ((Fn 108)) ((Fn 102)) 0 v0) ((cn 10))))), (3, .int 0), (0, .ref (g 0)), (1, .int v0), (2, .int v1)]) hx hb dX11_offer_30 hl (by decide) rfl (fun ls hl => ?_)
      refine lv_iconst (v := 1) hx hb dX11_offer_32 kic_1 ?_
      refine lv_istore (lv' := [(5, .int 1), (4, .int ((sg (wof ((Fn 107)) ((Fn 108)) ((Fn 102)) 0 v0) ((cn 10))))), (3, .int 0), (0, .ref (g 0)), (1, .int v0), (2, .int v1)]) hx hb dX11_offer_33 hl (by decide) rfl (fun ls hl => ?_)
      have lp_35 : ∀ (n : Nat) (i35 : Nat) (x35_4 : Int32) (b35 : Nat) , 201 - i35 < n → ((1 ≤ i35 ∧ i35 ≤ 201) ∧ (x35_4 = (sg (wof (Fn 107) (Fn 108) (Fn 102) (nI b35) v0) (cn 10))) ∧ (b35 < i35) ∧ (∀ j : Nat, j < i35 → (sg (wof (Fn 107) (Fn 108) (Fn 102) (nI j) v0) (cn 10)).toInt ≤ (sg (wof (Fn 107) (Fn 108) (Fn 102) (nI b35) v0) (cn 10)).toInt) ∧ (∀ j : Nat, j < b35 → (sg (wof (Fn 107) (Fn 108) (Fn 102) (nI j) v0) (cn 10)).toInt < (sg (wof (Fn 107) (Fn 108) (Fn 102) (nI b35) v0) (cn 10)).toInt)) → ∀ ls : Array Slot, lv_has ls 7 [(5, .int (nI i35)), (4, .int x35_4), (3, .int (nI b35)), (0, .ref (g 0)), (1, .int v0), (2, .int v1)] → W p l e (RM 4 0 0) s m ([.ref (g 0), .int v0, .int v1]).toArray below meth c s.heap [] 0 0 (MQ below (vp_Si (fun r => ((0 ≤ v0.toInt ∧ v0.toInt ≤ 1000 ∧ 0 ≤ v1.toInt ∧ v1.toInt ≤ 2) ∧ OFS (fun j => (sg (wof (Fn 107) (Fn 108) (Fn 102) (nI j) v0) (cn 10))) (fun j => cmb (Fn 107) (Fn 108) (nI j) (cn 10)) v1 r) ∨ (¬ (0 ≤ v0.toInt ∧ v0.toInt ≤ 1000 ∧ 0 ≤ v1.toInt ∧ v1.toInt ≤ 2) ∧ r = -1))) ([.ref (g 0), .int v0, .int v1]).toArray s 0 0 (fun _ => False)) (F0 m 35 ls []) := by
        intro n35
        induction n35 with
        | zero => intros; (first | omega | (have zz0 := Hid.u hb_cn; omega))
        | succ n35 ih35 =>
          intro i35 x35_4 b35 hmu35 hinv35 ls hl
          obtain ⟨hr35, hx35_0, hx35_1, hx35_2, hx35_3⟩ := hinv35
          have ti35 : (nI i35).toInt = (i35 : Int) := nI_toInt (by (first | omega | (have zz0 := Hid.u hb_cn; omega)))
          have tx9 : x35_4.toInt = (sg (wof (Fn 107) (Fn 108) (Fn 102) (nI b35) v0) (cn 10)).toInt := by rw [hx35_0]
          refine lv_iload hx hb dX11_offer_35 (lv_at hl 0 rfl) ?_
          refine lv_sipush (v := 200) hx hb dX11_offer_37 (by decide) ?_
          refine lv_icmp_gt (tgt := 72) hx hb dX11_offer_40 rfl (fun c_7 => ?_) (fun c_7 => ?_)
          ·
            have tc_7 : (200 : Int) < (nI i35).toInt := Int32.lt_iff_toInt_lt.mp c_7
            refine lv_iload_n hx hb dX11_offer_72 rfl (lv_at hl 5 rfl) ?_
            refine lv_if_ne (tgt := 80) hx hb dX11_offer_73 rfl (fun c_8 => ?_) (fun c_8 => ?_)
            ·
              have tc_8 : (v1.toInt : Int) ≠ 0 := fun q => c_8 (Int32.toInt_inj.mp q)
              refine lv_iload_n hx hb dX11_offer_80 rfl (lv_at hl 5 rfl) ?_
              refine lv_iconst (v := 1) hx hb dX11_offer_81 kic_1 ?_
              refine lv_icmp_ne (tgt := 90) hx hb dX11_offer_82 rfl (fun c_9 => ?_) (fun c_9 => ?_)
              ·
                have tc_9 : (v1.toInt : Int) ≠ 1 := fun q => c_9 (Int32.toInt_inj.mp q)
                refine lv_aload_n hx hb dX11_offer_90 rfl (lv_at hl 3 rfl) ?_
                refine lv_iload_n hx hb dX11_offer_91 rfl (lv_at hl 2 rfl) ?_
                refine vp_callSi (runV_rxa (As := [.int (nI b35)]) (rest := []) S (q_Ecomers l D cI cB cZ zz qq vv bt g ad cn In Fn (nI b35) hB) kV_RX11_464 hK hXS hS hP 0 xo_0 rfl rfl ⟨Nat.le_of_ble_eq_true rfl, Nat.le_of_ble_eq_true rfl⟩ ⟨Nat.le_of_ble_eq_true rfl, Nat.le_of_ble_eq_true rfl⟩ rfl hl.1 rfl (Nat.le_of_ble_eq_true rfl) dX11_offer_92) (fun r_10 h_11 => ?_)
                subst h_11
                exact W.iret (v := ((cmb ((Fn 107)) ((Fn 108)) (nI b35) ((cn 10))))) hx hb hr (fun t ht hW => ⟨((cmb ((Fn 107)) ((Fn 108)) (nI b35) ((cn 10)))), rfl, (Or.inl ⟨by (first | omega | (have zz0 := Hid.u hb_cn; omega)), b35, by (first | omega | (have zz0 := Hid.u hb_cn; omega)), fun j h9 => hx35_2 j (by (first | omega | (have zz0 := Hid.u hb_cn; omega))), fun j h9 => hx35_3 j h9, Or.inr (Or.inr ⟨by (first | omega | (have zz0 := Hid.u hb_cn; omega)), by (first | omega | (have zz0 := Hid.u hb_cn; omega)), rfl⟩)⟩), ht⟩) (fun _ h => absurd h List.not_mem_nil) dX11_offer_95
              ·
                have tc_9 : (v1.toInt : Int) = 1 := congrArg Int32.toInt c_9
                refine lv_iload hx hb dX11_offer_85 (lv_at hl 1 rfl) ?_
                refine lv_goto (tgt := 95) hx hb dX11_offer_87 rfl ?_
                exact W.iret (v := x35_4) hx hb hr (fun t ht hW => ⟨x35_4, rfl, (Or.inl ⟨by (first | omega | (have zz0 := Hid.u hb_cn; omega)), b35, by (first | omega | (have zz0 := Hid.u hb_cn; omega)), fun j h9 => hx35_2 j (by (first | omega | (have zz0 := Hid.u hb_cn; omega))), fun j h9 => hx35_3 j h9, Or.inr (Or.inl ⟨by (first | omega | (have zz0 := Hid.u hb_cn; omega)), by first | rfl | exact hx35_0⟩)⟩), ht⟩) (fun _ h => absurd h List.not_mem_nil) dX11_offer_95
            ·
              have tc_8 : (v1.toInt : Int) = 0 := congrArg Int32.toInt c_8
              refine lv_iload_n hx hb dX11_offer_76 rfl (lv_at hl 2 rfl) ?_
              refine lv_goto (tgt := 95) hx hb dX11_offer_77 rfl ?_
              exact W.iret (v := (nI b35)) hx hb hr (fun t ht hW => ⟨(nI b35), rfl, (Or.inl ⟨by (first | omega | (have zz0 := Hid.u hb_cn; omega)), b35, by (first | omega | (have zz0 := Hid.u hb_cn; omega)), fun j h9 => hx35_2 j (by (first | omega | (have zz0 := Hid.u hb_cn; omega))), fun j h9 => hx35_3 j h9, Or.inl ⟨by (first | omega | (have zz0 := Hid.u hb_cn; omega)), rfl⟩⟩), ht⟩) (fun _ h => absurd h List.not_mem_nil) dX11_offer_95
          ·
            have tc_7 : ((nI i35).toInt : Int) ≤ 200 := Int32.le_iff_toInt_le.mp (Int32.not_lt.mp c_7)
            refine lv_aload_n hx hb dX11_offer_43 rfl (lv_at hl 3 rfl) ?_
            refine lv_iload hx hb dX11_offer_44 (lv_at hl 0 rfl) ?_
            refine lv_iload_n hx hb dX11_offer_46 rfl (lv_at hl 4 rfl) ?_
            refine vp_callSi (runV_rxa (As := [.int (nI i35), .int v0]) (rest := []) S (q_EworthOf l D cI cB cZ zz qq vv bt g ad cn In Fn (nI i35) v0 hB) kV_RX11_460 hK hXS hS hP 0 xo_0 rfl rfl ⟨Nat.le_of_ble_eq_true rfl, Nat.le_of_ble_eq_true rfl⟩ ⟨Nat.le_of_ble_eq_true rfl, Nat.le_of_ble_eq_true rfl⟩ rfl hl.1 rfl (Nat.le_of_ble_eq_true rfl) dX11_offer_47) (fun r_12 h_13 => ?_)
            subst h_13
            refine lv_istore (lv' := [(6, .int ((sg (wof ((Fn 107)) ((Fn 108)) ((Fn 102)) (nI i35) v0) ((cn 10))))), (5, .int (nI i35)), (4, .int x35_4), (3, .int (nI b35)), (0, .ref (g 0)), (1, .int v0), (2, .int v1)]) hx hb dX11_offer_50 hl (by decide) rfl (fun ls hl => ?_)
            refine lv_iload hx hb dX11_offer_52 (lv_at hl 0 rfl) ?_
            refine lv_iload hx hb dX11_offer_54 (lv_at hl 2 rfl) ?_
            refine lv_icmp_le (tgt := 66) hx hb dX11_offer_56 rfl (fun c_14 => ?_) (fun c_14 => ?_)
            ·
              have tc_14 : (((sg (wof ((Fn 107)) ((Fn 108)) ((Fn 102)) (nI i35) v0) ((cn 10)))).toInt : Int) ≤ x35_4.toInt := Int32.le_iff_toInt_le.mp c_14
              refine lv_iinc (v := (nI (i35 + 1))) (lv' := [(5, .int (nI (i35 + 1))), (6, .int ((sg (wof ((Fn 107)) ((Fn 108)) ((Fn 102)) (nI i35) v0) ((cn 10))))), (4, .int x35_4), (3, .int (nI b35)), (0, .ref (g 0)), (1, .int v0), (2, .int v1)]) hx hb dX11_offer_66 hl (k := 1) rfl (nI_1 _) (by decide) rfl (fun ls hl => ?_)
              refine lv_goto (tgt := 35) hx hb dX11_offer_69 rfl ?_
              exact ih35 (i35 + 1) x35_4 b35 (by (first | omega | (have zz0 := Hid.u hb_cn; omega))) ⟨(by (first | omega | (have zz0 := Hid.u hb_cn; omega))), (by first | rfl | exact hx35_0), (by (first | omega | (have zz0 := Hid.u hb_cn; omega))), (fun j h9 => if q9 : j < i35 then (by have := hx35_2 j q9; (first | omega | (have zz0 := Hid.u hb_cn; omega))) else (by have e9 : j = i35 := (by (first | omega | (have zz0 := Hid.u hb_cn; omega))); subst e9; (first | omega | (have zz0 := Hid.u hb_cn; omega)))), (fun j h9 => by first | exact hx35_3 j h9 | (have := hx35_2 j h9; (first | omega | (have zz0 := Hid.u hb_cn; omega))))⟩ ls (lv_sub hl [0, 2, 3, 4, 5, 6] rfl)
            ·
              have tc_14 : (x35_4.toInt : Int) < ((sg (wof ((Fn 107)) ((Fn 108)) ((Fn 102)) (nI i35) v0) ((cn 10)))).toInt := Int32.lt_iff_toInt_lt.mp (Int32.not_le.mp c_14)
              refine lv_iload hx hb dX11_offer_59 (lv_at hl 1 rfl) ?_
              refine lv_istore_n (lv' := [(3, .int (nI i35)), (6, .int ((sg (wof ((Fn 107)) ((Fn 108)) ((Fn 102)) (nI i35) v0) ((cn 10))))), (5, .int (nI i35)), (4, .int x35_4), (0, .ref (g 0)), (1, .int v0), (2, .int v1)]) hx hb dX11_offer_61 rfl hl (by decide) rfl (fun ls hl => ?_)
              refine lv_iload hx hb dX11_offer_62 (lv_at hl 1 rfl) ?_
              refine lv_istore (lv' := [(4, .int ((sg (wof ((Fn 107)) ((Fn 108)) ((Fn 102)) (nI i35) v0) ((cn 10))))), (3, .int (nI i35)), (6, .int ((sg (wof ((Fn 107)) ((Fn 108)) ((Fn 102)) (nI i35) v0) ((cn 10))))), (5, .int (nI i35)), (0, .ref (g 0)), (1, .int v0), (2, .int v1)]) hx hb dX11_offer_64 hl (by decide) rfl (fun ls hl => ?_)
              refine lv_iinc (v := (nI (i35 + 1))) (lv' := [(5, .int (nI (i35 + 1))), (4, .int ((sg (wof ((Fn 107)) ((Fn 108)) ((Fn 102)) (nI i35) v0) ((cn 10))))), (3, .int (nI i35)), (6, .int ((sg (wof ((Fn 107)) ((Fn 108)) ((Fn 102)) (nI i35) v0) ((cn 10))))), (0, .ref (g 0)), (1, .int v0), (2, .int v1)]) hx hb dX11_offer_66 hl (k := 3) rfl (nI_1 _) (by decide) rfl (fun ls hl => ?_)
              refine lv_goto (tgt := 35) hx hb dX11_offer_69 rfl ?_
              exact ih35 (i35 + 1) ((sg (wof ((Fn 107)) ((Fn 108)) ((Fn 102)) (nI i35) v0) ((cn 10)))) i35 (by (first | omega | (have zz0 := Hid.u hb_cn; omega))) ⟨(by (first | omega | (have zz0 := Hid.u hb_cn; omega))), (by first | rfl | exact hx35_0), (by (first | omega | (have zz0 := Hid.u hb_cn; omega))), (fun j h9 => if q9 : j < i35 then (by have := hx35_2 j q9; (first | omega | (have zz0 := Hid.u hb_cn; omega))) else (by have e9 : j = i35 := (by (first | omega | (have zz0 := Hid.u hb_cn; omega))); subst e9; (first | omega | (have zz0 := Hid.u hb_cn; omega)))), (fun j h9 => by first | exact hx35_3 j h9 | (have := hx35_2 j h9; (first | omega | (have zz0 := Hid.u hb_cn; omega))))⟩ ls (lv_sub hl [0, 1, 2, 4, 5, 6] rfl)
      exact lp_35 _ 1 ((sg (wof ((Fn 107)) ((Fn 108)) ((Fn 102)) 0 v0) ((cn 10)))) 0 (Nat.lt_succ_self _) ⟨(by (first | omega | (have zz0 := Hid.u hb_cn; omega))), rfl, (by (first | omega | (have zz0 := Hid.u hb_cn; omega))), (fun j h9 => by have e9 : j = 0 := (by (first | omega | (have zz0 := Hid.u hb_cn; omega))); subst e9; (first | omega | (have zz0 := Hid.u hb_cn; omega))), (fun j h9 => by (first | omega | (have zz0 := Hid.u hb_cn; omega)))⟩ ls (lv_sub hl [0, 1, 2, 3, 4, 5] rfl)
    ·
      have h_4 : ¬ (0 ≤ v1.toInt ∧ v1.toInt ≤ 2) := h_4
      refine lv_if_ne (tgt := 22) hx hb dX11_offer_17 rfl (fun h => absurd h (by decide)) (fun _ => ?_)
      refine lv_iconst (v := (-1)) hx hb dX11_offer_20 kic_m1 ?_
      exact W.iret (v := (-1)) hx hb hr (fun t ht hW => ⟨(-1), rfl, (Or.inr ⟨by (first | omega | (have zz0 := Hid.u hb_cn; omega)), rfl⟩), ht⟩) (fun _ h => absurd h List.not_mem_nil) dX11_offer_21
  ·
    have h_2 : ¬ (0 ≤ v0.toInt ∧ v0.toInt ≤ 1000) := h_2
    refine lv_if_eq (tgt := 20) hx hb dX11_offer_8 rfl (fun _ => ?_) (fun h => absurd h (by decide))
    refine lv_iconst (v := (-1)) hx hb dX11_offer_20 kic_m1 ?_
    exact W.iret (v := (-1)) hx hb hr (fun t ht hW => ⟨(-1), rfl, (Or.inr ⟨by (first | omega | (have zz0 := Hid.u hb_cn; omega)), rfl⟩), ht⟩) (fun _ h => absurd h List.not_mem_nil) dX11_offer_21
set_option maxRecDepth 100000 in
set_option maxHeartbeats 4000000 in
theorem q_offer9 (l : Launch) (D : va_G) (cI cB cZ : ClassId) (g : Nat → Nat) (cn : Nat → Nat) (In : Nat → Int32) (Fn : Nat → Nat → Int32) (v0 v1 : Int32) (hI : IM cn Fn) : Met l yX12_offer (CWS yX12_offer cX12_offer 5 (some .int)) (RM 2 0 0) (PBr [.ref (g 100), .int v0, .int v1] D cI cB cZ (wM cI cB cZ g cn In Fn)) (vp_Si (fun r => ((0 ≤ v0.toInt ∧ v0.toInt ≤ 1000 ∧ 0 ≤ v1.toInt ∧ v1.toInt ≤ 2) ∧ OFS (fun j => (sg (wof (Fn 84) (Fn 85) (Fn 5) (nI j) v0) (cn 1))) (fun j => cmb (Fn 84) (Fn 85) (nI j) (cn 1)) v1 r) ∨ (¬ (0 ≤ v0.toInt ∧ v0.toInt ≤ 1000 ∧ 0 ≤ v1.toInt ∧ v1.toInt ≤ 2) ∧ r = -1))) 0 0 (fun _ => False) := by
  refine Met.ofW (cc := cX12_offer) (maxL := 5) (ret := (some .int)) (by decide) rfl ?_
  intro p e s m args below meth c s₁ B hml hv
  obtain ⟨rfl, hP, hK⟩ := hv
  have hx := B.exec
  have hb := B.bytes
  have hr := B.returns
  have hts := atoms_spec (ws := (CWS yX12_offer cX12_offer 5 (some .int))) B.pre
  have hown : s.vm.findClass RX12 = some m.cls := findClass_of_methodNamed B.named
  have hlocks := B.notSynchronized
  have S : SF p m c cX12_offer 5 s ([.ref (g 100), .int v0, .int v1]).toArray RX12 := ⟨hx, hb, hml, hown, fun w h => hts w (List.mem_cons_of_mem _ h)⟩
  have hl := lv_entry ([.ref (g 100), .int v0, .int v1]) (n := 5) (Nat.le_of_ble_eq_true rfl)
  rw [lg_entry_eq]
  generalize (lg_sl ([.ref (g 100), .int v0, .int v1]) ++ List.replicate (5 - (lg_sl ([.ref (g 100), .int v0, .int v1])).length) Slot.unset).toArray = ls at hl ⊢
  have hl : lv_has ls 5 [(0, .ref (g 100)), (1, .int v0), (2, .int v1)] := hl
  have hi_cn : Hid (CB cn) := hI.b
  refine lv_iload_n hx hb dX12_offer_0 rfl (lv_at hl 1 rfl) ?_
  refine lv_iconst (v := 0) hx hb dX12_offer_1 kic_0 ?_
  refine lv_sipush (v := 1000) hx hb dX12_offer_2 (by decide) ?_
  refine vp_callSi (runS_r (As := [.int v0, .int 0, .int 1000]) (rest := []) S (q_in l D cI cB cZ v0 0 1000 ) kS_RX12_214 hK hP [] rfl ⟨Nat.le_of_ble_eq_true rfl, Nat.le_of_ble_eq_true rfl⟩ ⟨Nat.le_of_ble_eq_true rfl, Nat.le_of_ble_eq_true rfl⟩ rfl hl.1 rfl (Nat.le_of_ble_eq_true rfl) dX12_offer_5) (fun r_1 h_2 => ?_)
  rcases h_2 with ⟨rfl, h_2⟩ | ⟨rfl, h_2⟩
  ·
    have h_2 : 0 ≤ v0.toInt ∧ v0.toInt ≤ 1000 := h_2
    refine lv_if_eq (tgt := 20) hx hb dX12_offer_8 rfl (fun h => absurd h (by decide)) (fun _ => ?_)
    refine lv_iload_n hx hb dX12_offer_11 rfl (lv_at hl 2 rfl) ?_
    refine lv_iconst (v := 0) hx hb dX12_offer_12 kic_0 ?_
    refine lv_iconst (v := 2) hx hb dX12_offer_13 kic_2 ?_
    refine vp_callSi (runS_r (As := [.int v1, .int 0, .int 2]) (rest := []) S (q_in l D cI cB cZ v1 0 2 ) kS_RX12_214 hK hP [] rfl ⟨Nat.le_of_ble_eq_true rfl, Nat.le_of_ble_eq_true rfl⟩ ⟨Nat.le_of_ble_eq_true rfl, Nat.le_of_ble_eq_true rfl⟩ rfl hl.1 rfl (Nat.le_of_ble_eq_true rfl) dX12_offer_14) (fun r_3 h_4 => ?_)
    rcases h_4 with ⟨rfl, h_4⟩ | ⟨rfl, h_4⟩
    ·
      have h_4 : 0 ≤ v1.toInt ∧ v1.toInt ≤ 2 := h_4
      refine lv_if_ne (tgt := 22) hx hb dX12_offer_17 rfl (fun _ => ?_) (fun h => absurd h (by decide))
      refine lv_iconst (v := 0) hx hb dX12_offer_22 kic_0 ?_
      refine lv_istore_n (lv' := [(3, .int 0), (0, .ref (g 100)), (1, .int v0), (2, .int v1)]) hx hb dX12_offer_23 rfl hl (by decide) rfl (fun ls hl => ?_)
      refine lv_iconst (v := 1) hx hb dX12_offer_24 kic_1 ?_
      refine lv_istore (lv' := [(4, .int 1), (3, .int 0), (0, .ref (g 100)), (1, .int v0), (2, .int v1)]) hx hb dX12_offer_25 hl (by decide) rfl (fun ls hl => ?_)
      have lp_27 : ∀ (n : Nat) (i27 : Nat) (b27 : Nat) , 201 - i27 < n → ((1 ≤ i27 ∧ i27 ≤ 201) ∧ (b27 < i27) ∧ (∀ j : Nat, j < i27 → (sg (wof (Fn 84) (Fn 85) (Fn 5) (nI j) v0) (cn 1)).toInt ≤ (sg (wof (Fn 84) (Fn 85) (Fn 5) (nI b27) v0) (cn 1)).toInt) ∧ (∀ j : Nat, j < b27 → (sg (wof (Fn 84) (Fn 85) (Fn 5) (nI j) v0) (cn 1)).toInt < (sg (wof (Fn 84) (Fn 85) (Fn 5) (nI b27) v0) (cn 1)).toInt)) → ∀ ls : Array Slot, lv_has ls 5 [(4, .int (nI i27)), (3, .int (nI b27)), (0, .ref (g 100)), (1, .int v0), (2, .int v1)] → W p l e (RM 2 0 0) s m ([.ref (g 100), .int v0, .int v1]).toArray below meth c s.heap [] 0 0 (MQ below (vp_Si (fun r => ((0 ≤ v0.toInt ∧ v0.toInt ≤ 1000 ∧ 0 ≤ v1.toInt ∧ v1.toInt ≤ 2) ∧ OFS (fun j => (sg (wof (Fn 84) (Fn 85) (Fn 5) (nI j) v0) (cn 1))) (fun j => cmb (Fn 84) (Fn 85) (nI j) (cn 1)) v1 r) ∨ (¬ (0 ≤ v0.toInt ∧ v0.toInt ≤ 1000 ∧ 0 ≤ v1.toInt ∧ v1.toInt ≤ 2) ∧ r = -1))) ([.ref (g 100), .int v0, .int v1]).toArray s 0 0 (fun _ => False)) (F0 m 27 ls []) := by
        intro n27
        induction n27 with
        | zero => intros; (first | omega | (have zz0 := Hid.u hi_cn; omega))
        | succ n27 ih27 =>
          intro i27 b27 hmu27 hinv27 ls hl
          obtain ⟨hr27, hx27_0, hx27_1, hx27_2⟩ := hinv27
          have ti27 : (nI i27).toInt = (i27 : Int) := nI_toInt (by (first | omega | (have zz0 := Hid.u hi_cn; omega)))
          refine lv_iload hx hb dX12_offer_27 (lv_at hl 0 rfl) ?_
          refine lv_sipush (v := 200) hx hb dX12_offer_29 (by decide) ?_
          refine lv_icmp_gt (tgt := 64) hx hb dX12_offer_32 rfl (fun c_5 => ?_) (fun c_5 => ?_)
          ·
            have tc_5 : (200 : Int) < (nI i27).toInt := Int32.lt_iff_toInt_lt.mp c_5
            refine lv_iload_n hx hb dX12_offer_64 rfl (lv_at hl 4 rfl) ?_
            refine lv_if_ne (tgt := 72) hx hb dX12_offer_65 rfl (fun c_6 => ?_) (fun c_6 => ?_)
            ·
              have tc_6 : (v1.toInt : Int) ≠ 0 := fun q => c_6 (Int32.toInt_inj.mp q)
              refine lv_iload_n hx hb dX12_offer_72 rfl (lv_at hl 4 rfl) ?_
              refine lv_iconst (v := 1) hx hb dX12_offer_73 kic_1 ?_
              refine lv_icmp_ne (tgt := 86) hx hb dX12_offer_74 rfl (fun c_7 => ?_) (fun c_7 => ?_)
              ·
                have tc_7 : (v1.toInt : Int) ≠ 1 := fun q => c_7 (Int32.toInt_inj.mp q)
                refine lv_aload_n hx hb dX12_offer_86 rfl (lv_at hl 2 rfl) ?_
                refine lv_iload_n hx hb dX12_offer_87 rfl (lv_at hl 1 rfl) ?_
                refine vp_callSi (runV_ra (As := [.int (nI b27)]) (rest := []) S (q_comers9 l D cI cB cZ g cn In Fn (nI b27) hI) kV_RX12_469 hK hP 0 rfl rfl rfl ⟨Nat.le_of_ble_eq_true rfl, Nat.le_of_ble_eq_true rfl⟩ ⟨Nat.le_of_ble_eq_true rfl, Nat.le_of_ble_eq_true rfl⟩ rfl hl.1 rfl (Nat.le_of_ble_eq_true rfl) dX12_offer_88) (fun r_8 h_9 => ?_)
                subst h_9
                exact W.iret (v := ((cmb ((Fn 84)) ((Fn 85)) (nI b27) ((cn 1))))) hx hb hr (fun t ht hW => ⟨((cmb ((Fn 84)) ((Fn 85)) (nI b27) ((cn 1)))), rfl, (Or.inl ⟨by (first | omega | (have zz0 := Hid.u hi_cn; omega)), b27, by (first | omega | (have zz0 := Hid.u hi_cn; omega)), fun j h9 => hx27_1 j (by (first | omega | (have zz0 := Hid.u hi_cn; omega))), fun j h9 => hx27_2 j h9, Or.inr (Or.inr ⟨by (first | omega | (have zz0 := Hid.u hi_cn; omega)), by (first | omega | (have zz0 := Hid.u hi_cn; omega)), rfl⟩)⟩), ht⟩) (fun _ h => absurd h List.not_mem_nil) dX12_offer_91
              ·
                have tc_7 : (v1.toInt : Int) = 1 := congrArg Int32.toInt c_7
                refine lv_aload_n hx hb dX12_offer_77 rfl (lv_at hl 2 rfl) ?_
                refine lv_iload_n hx hb dX12_offer_78 rfl (lv_at hl 1 rfl) ?_
                refine lv_iload_n hx hb dX12_offer_79 rfl (lv_at hl 3 rfl) ?_
                refine vp_callSi (runV_ra (As := [.int (nI b27), .int v0]) (rest := []) S (q_worthOf9 l D cI cB cZ g cn In Fn (nI b27) v0 hI) kV_RX12_472 hK hP 0 rfl rfl rfl ⟨Nat.le_of_ble_eq_true rfl, Nat.le_of_ble_eq_true rfl⟩ ⟨Nat.le_of_ble_eq_true rfl, Nat.le_of_ble_eq_true rfl⟩ rfl hl.1 rfl (Nat.le_of_ble_eq_true rfl) dX12_offer_80) (fun r_10 h_11 => ?_)
                subst h_11
                refine lv_goto (tgt := 91) hx hb dX12_offer_83 rfl ?_
                exact W.iret (v := ((sg (wof ((Fn 84)) ((Fn 85)) ((Fn 5)) (nI b27) v0) ((cn 1))))) hx hb hr (fun t ht hW => ⟨((sg (wof ((Fn 84)) ((Fn 85)) ((Fn 5)) (nI b27) v0) ((cn 1)))), rfl, (Or.inl ⟨by (first | omega | (have zz0 := Hid.u hi_cn; omega)), b27, by (first | omega | (have zz0 := Hid.u hi_cn; omega)), fun j h9 => hx27_1 j (by (first | omega | (have zz0 := Hid.u hi_cn; omega))), fun j h9 => hx27_2 j h9, Or.inr (Or.inl ⟨by (first | omega | (have zz0 := Hid.u hi_cn; omega)), by first | rfl | exact hx27_0⟩)⟩), ht⟩) (fun _ h => absurd h List.not_mem_nil) dX12_offer_91
            ·
              have tc_6 : (v1.toInt : Int) = 0 := congrArg Int32.toInt c_6
              refine lv_iload_n hx hb dX12_offer_68 rfl (lv_at hl 1 rfl) ?_
              refine lv_goto (tgt := 91) hx hb dX12_offer_69 rfl ?_
              exact W.iret (v := (nI b27)) hx hb hr (fun t ht hW => ⟨(nI b27), rfl, (Or.inl ⟨by (first | omega | (have zz0 := Hid.u hi_cn; omega)), b27, by (first | omega | (have zz0 := Hid.u hi_cn; omega)), fun j h9 => hx27_1 j (by (first | omega | (have zz0 := Hid.u hi_cn; omega))), fun j h9 => hx27_2 j h9, Or.inl ⟨by (first | omega | (have zz0 := Hid.u hi_cn; omega)), rfl⟩⟩), ht⟩) (fun _ h => absurd h List.not_mem_nil) dX12_offer_91
          ·
            have tc_5 : ((nI i27).toInt : Int) ≤ 200 := Int32.le_iff_toInt_le.mp (Int32.not_lt.mp c_5)
            refine lv_aload_n hx hb dX12_offer_35 rfl (lv_at hl 2 rfl) ?_
            refine lv_iload hx hb dX12_offer_36 (lv_at hl 0 rfl) ?_
            refine lv_iload_n hx hb dX12_offer_38 rfl (lv_at hl 3 rfl) ?_
            refine vp_callSi (runV_ra (As := [.int (nI i27), .int v0]) (rest := []) S (q_worthOf9 l D cI cB cZ g cn In Fn (nI i27) v0 hI) kV_RX12_472 hK hP 0 rfl rfl rfl ⟨Nat.le_of_ble_eq_true rfl, Nat.le_of_ble_eq_true rfl⟩ ⟨Nat.le_of_ble_eq_true rfl, Nat.le_of_ble_eq_true rfl⟩ rfl hl.1 rfl (Nat.le_of_ble_eq_true rfl) dX12_offer_39) (fun r_12 h_13 => ?_)
            subst h_13
            refine lv_aload_n hx hb dX12_offer_42 rfl (lv_at hl 2 rfl) ?_
            refine lv_iload_n hx hb dX12_offer_43 rfl (lv_at hl 1 rfl) ?_
            refine lv_iload_n hx hb dX12_offer_44 rfl (lv_at hl 3 rfl) ?_
            refine vp_callSi (runV_ra (As := [.int (nI b27), .int v0]) (rest := [.int ((sg (wof ((Fn 84)) ((Fn 85)) ((Fn 5)) (nI i27) v0) ((cn 1))))]) S (q_worthOf9 l D cI cB cZ g cn In Fn (nI b27) v0 hI) kV_RX12_472 hK hP 0 rfl rfl rfl ⟨Nat.le_of_ble_eq_true rfl, Nat.le_of_ble_eq_true rfl⟩ ⟨Nat.le_of_ble_eq_true rfl, Nat.le_of_ble_eq_true rfl⟩ rfl hl.1 rfl (Nat.le_of_ble_eq_true rfl) dX12_offer_45) (fun r_14 h_15 => ?_)
            subst h_15
            refine lv_icmp_le (tgt := 56) hx hb dX12_offer_48 rfl (fun c_16 => ?_) (fun c_16 => ?_)
            ·
              have tc_16 : (((sg (wof ((Fn 84)) ((Fn 85)) ((Fn 5)) (nI i27) v0) ((cn 1)))).toInt : Int) ≤ ((sg (wof ((Fn 84)) ((Fn 85)) ((Fn 5)) (nI b27) v0) ((cn 1)))).toInt := Int32.le_iff_toInt_le.mp c_16
              refine lv_iload_n hx hb dX12_offer_56 rfl (lv_at hl 1 rfl) ?_
              refine lv_istore_n (lv' := [(3, .int (nI b27)), (4, .int (nI i27)), (0, .ref (g 100)), (1, .int v0), (2, .int v1)]) hx hb dX12_offer_57 rfl hl (by decide) rfl (fun ls hl => ?_)
              refine lv_iinc (v := (nI (i27 + 1))) (lv' := [(4, .int (nI (i27 + 1))), (3, .int (nI b27)), (0, .ref (g 100)), (1, .int v0), (2, .int v1)]) hx hb dX12_offer_58 hl (k := 1) rfl (nI_1 _) (by decide) rfl (fun ls hl => ?_)
              refine lv_goto (tgt := 27) hx hb dX12_offer_61 rfl ?_
              exact ih27 (i27 + 1) b27 (by (first | omega | (have zz0 := Hid.u hi_cn; omega))) ⟨(by (first | omega | (have zz0 := Hid.u hi_cn; omega))), (by (first | omega | (have zz0 := Hid.u hi_cn; omega))), (fun j h9 => if q9 : j < i27 then (by have := hx27_1 j q9; (first | omega | (have zz0 := Hid.u hi_cn; omega))) else (by have e9 : j = i27 := (by (first | omega | (have zz0 := Hid.u hi_cn; omega))); subst e9; (first | omega | (have zz0 := Hid.u hi_cn; omega)))), (fun j h9 => by first | exact hx27_2 j h9 | (have := hx27_1 j h9; (first | omega | (have zz0 := Hid.u hi_cn; omega))))⟩ ls (lv_sub hl [0, 1, 2, 3, 4] rfl)
            ·
              have tc_16 : (((sg (wof ((Fn 84)) ((Fn 85)) ((Fn 5)) (nI b27) v0) ((cn 1)))).toInt : Int) < ((sg (wof ((Fn 84)) ((Fn 85)) ((Fn 5)) (nI i27) v0) ((cn 1)))).toInt := Int32.lt_iff_toInt_lt.mp (Int32.not_le.mp c_16)
              refine lv_iload hx hb dX12_offer_51 (lv_at hl 0 rfl) ?_
              refine lv_goto (tgt := 57) hx hb dX12_offer_53 rfl ?_
              refine lv_istore_n (lv' := [(3, .int (nI i27)), (4, .int (nI i27)), (0, .ref (g 100)), (1, .int v0), (2, .int v1)]) hx hb dX12_offer_57 rfl hl (by decide) rfl (fun ls hl => ?_)
              refine lv_iinc (v := (nI (i27 + 1))) (lv' := [(4, .int (nI (i27 + 1))), (3, .int (nI i27)), (0, .ref (g 100)), (1, .int v0), (2, .int v1)]) hx hb dX12_offer_58 hl (k := 1) rfl (nI_1 _) (by decide) rfl (fun ls hl => ?_)
              refine lv_goto (tgt := 27) hx hb dX12_offer_61 rfl ?_
              exact ih27 (i27 + 1) i27 (by (first | omega | (have zz0 := Hid.u hi_cn; omega))) ⟨(by (first | omega | (have zz0 := Hid.u hi_cn; omega))), (by (first | omega | (have zz0 := Hid.u hi_cn; omega))), (fun j h9 => if q9 : j < i27 then (by have := hx27_1 j q9; (first | omega | (have zz0 := Hid.u hi_cn; omega))) else (by have e9 : j = i27 := (by (first | omega | (have zz0 := Hid.u hi_cn; omega))); subst e9; (first | omega | (have zz0 := Hid.u hi_cn; omega)))), (fun j h9 => by first | exact hx27_2 j h9 | (have := hx27_1 j h9; (first | omega | (have zz0 := Hid.u hi_cn; omega))))⟩ ls (lv_sub hl [0, 1, 2, 3, 4] rfl)
      exact lp_27 _ 1 0 (Nat.lt_succ_self _) ⟨(by (first | omega | (have zz0 := Hid.u hi_cn; omega))), (by (first | omega | (have zz0 := Hid.u hi_cn; omega))), (fun j h9 => by have e9 : j = 0 := (by (first | omega | (have zz0 := Hid.u hi_cn; omega))); subst e9; (first | omega | (have zz0 := Hid.u hi_cn; omega))), (fun j h9 => by (first | omega | (have zz0 := Hid.u hi_cn; omega)))⟩ ls (lv_sub hl [0, 1, 2, 3, 4] rfl)
    ·
      have h_4 : ¬ (0 ≤ v1.toInt ∧ v1.toInt ≤ 2) := h_4
      refine lv_if_ne (tgt := 22) hx hb dX12_offer_17 rfl (fun h => absurd h (by decide)) (fun _ => ?_)
      refine lv_iconst (v := (-1)) hx hb dX12_offer_20 kic_m1 ?_
      exact W.iret (v := (-1)) hx hb hr (fun t ht hW => ⟨(-1), rfl, (Or.inr ⟨by (first | omega | (have zz0 := Hid.u hi_cn; omega)), rfl⟩), ht⟩) (fun _ h => absurd h List.not_mem_nil) dX12_offer_21
  ·
    have h_2 : ¬ (0 ≤ v0.toInt ∧ v0.toInt ≤ 1000) := h_2
    refine lv_if_eq (tgt := 20) hx hb dX12_offer_8 rfl (fun _ => ?_) (fun h => absurd h (by decide))
    refine lv_iconst (v := (-1)) hx hb dX12_offer_20 kic_m1 ?_
    exact W.iret (v := (-1)) hx hb hr (fun t ht hW => ⟨(-1), rfl, (Or.inr ⟨by (first | omega | (have zz0 := Hid.u hi_cn; omega)), rfl⟩), ht⟩) (fun _ h => absurd h List.not_mem_nil) dX12_offer_21
