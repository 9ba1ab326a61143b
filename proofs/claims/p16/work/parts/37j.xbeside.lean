def wyX (x y u v : Int32) : Int32 := (if 0 ≤ (x - u) then (x - u) else 0 - (x - u)) + (if 0 ≤ (y - v) then (y - v) else 0 - (y - v))
theorem ab_eq {x u : Int32} (h1 : 0 ≤ x.toInt) (h2 : x.toInt ≤ 99) (h3 : 0 ≤ u.toInt) (h4 : u.toInt ≤ 99) : (if 0 ≤ (x - u) then (x - u) else 0 - (x - u)) = (if x < u then u - x else x - u) := by
  have e : (x - u).toInt = x.toInt - u.toInt := by
    rw [Int32.toInt_sub]
    exact Int.bmod_eq_of_le (by show -(2 ^ 31 : Int) ≤ x.toInt - u.toInt; omega) (by show x.toInt - u.toInt < (2 ^ 31 : Int); omega)
  have z : (0 : Int32).toInt = 0 := rfl
  by_cases q : x < u
  · have q2 := Int32.lt_iff_toInt_lt.mp q
    rw [if_pos q, if_neg (fun w => by have := Int32.le_iff_toInt_le.mp w; omega), Int32.zero_sub, Int32.neg_sub]
  · have q2 : u.toInt ≤ x.toInt := Int.not_lt.mp (fun w => q (Int32.lt_iff_toInt_lt.mpr w))
    rw [if_neg q, if_pos (Int32.le_iff_toInt_le.mpr (by omega))]
/-- the k-th gives nothing and one of the n is no further than v, with b at least -/
def BP (W : Int32 → Int32 → Int32 → Int32 → Int32) (u x y f g h : Nat → Int32) (n : Nat) (v b : Int32) (k : Nat) : Prop := u k = 0 ∧ ∃ j : Nat, j < n ∧ b.toInt ≤ (h j).toInt ∧ (W (x k) (y k) (f j) (g j)).toInt ≤ v.toInt
/-- the bits of those of which P holds -/
def BSB (P : Nat → Prop) : Nat → Int32 → Prop
  | 0, r => r = 0
  | n + 1, r => ∃ x : Int32, BSB P n x ∧ ((P n ∧ r = x ||| (1 <<< ((nI n) &&& 31))) ∨ (¬ P n ∧ r = x))
theorem BSB.un {P Q : Nat → Prop} : ∀ {n : Nat} {r r2 : Int32}, (∀ k : Nat, k < n → (P k ↔ Q k)) → BSB P n r → BSB Q n r2 → r = r2
  | 0, _, _, _, h, h2 => Eq.trans h (Eq.symm h2)
  | n + 1, r, r2, e, ⟨x, a, b⟩, ⟨y, a2, b2⟩ => by
    have exy := BSB.un (fun k hk => e k (by omega)) a a2
    have en := e n (by omega)
    subst exy
    rcases b with ⟨p, b⟩ | ⟨p, b⟩ <;> rcases b2 with ⟨q, b2⟩ | ⟨q, b2⟩
    · rw [b, b2]
    · exact absurd (en.mp p) q
    · exact absurd (en.mpr q) p
    · rw [b, b2]
theorem i0_of {x : Int32} (h : x.toInt = 0) : x = 0 := Int32.toInt_inj.mp h
theorem i0_to {x : Int32} (h : x = 0) : x.toInt = 0 := by subst h; rfl
theorem or_or {x b : Int32} : x ||| b ||| b = x ||| b := by rw [Int32.or_assoc, Int32.or_self]



set_option maxRecDepth 100000 in
set_option maxHeartbeats 4000000 in
theorem q_Eway (l : Launch) (D : va_G) (cI cB cZ : ClassId) (v0 v1 v2 v3 : Int32)  : Met l yX10_way (CWS yX10_way cX10_way 4 (some .int)) (RM 1 0 0) (PBr [.int v0, .int v1, .int v2, .int v3] D cI cB cZ []) (vp_Si (fun r => r = wyX v0 v1 v2 v3)) 0 0 (fun _ => False) := by
  refine Met.ofW (cc := cX10_way) (maxL := 4) (ret := (some .int)) (by decide) rfl ?_
  intro p e s m args below meth c s₁ B hml hv
  obtain ⟨rfl, hP, hK⟩ := hv
  have hx := B.exec
  have hb := B.bytes
  have hr := B.returns
  have hts := atoms_spec (ws := (CWS yX10_way cX10_way 4 (some .int))) B.pre
  have hown : s.vm.findClass RX10 = some m.cls := findClass_of_methodNamed B.named
  have hlocks := B.notSynchronized
  have S : SF p m c cX10_way 4 s ([.int v0, .int v1, .int v2, .int v3]).toArray RX10 := ⟨hx, hb, hml, hown, fun w h => hts w (List.mem_cons_of_mem _ h)⟩
  have hl := lv_entry ([.int v0, .int v1, .int v2, .int v3]) (n := 4) (Nat.le_of_ble_eq_true rfl)
  rw [lg_entry_eq]
  generalize (lg_sl ([.int v0, .int v1, .int v2, .int v3]) ++ List.replicate (4 - (lg_sl ([.int v0, .int v1, .int v2, .int v3])).length) Slot.unset).toArray = ls at hl ⊢
  have hl : lv_has ls 4 [(0, .int v0), (1, .int v1), (2, .int v2), (3, .int v3)] := hl
  refine lv_iload_n hx hb dX10_way_0 rfl (lvA0 hl) ?_
  refine lv_iload_n hx hb dX10_way_1 rfl (lvA2 hl) ?_
  refine lv_isub hx hb dX10_way_2 ?_
  refine va_mabs hx hb (by rw [hml]; exact hl.1.symm) hown (S.2.2.2.2 _ (wk4_10 4 rfl rfl)) (S.2.2.2.2 _ (wk4_10 5 rfl rfl)) (S.2.2.2.2 _ (wk1_0 3 rfl rfl)) (S.2.2.2.2 _ (wk4_10 6 rfl rfl)) (Nat.le_of_ble_eq_true rfl) (Nat.le_of_ble_eq_true rfl) (Nat.le_of_ble_eq_true rfl) (Nat.le_of_ble_eq_true rfl) dX10_way_3 ?_
  refine lv_iload_n hx hb dX10_way_6 rfl (lvA1 hl) ?_
  refine lv_iload_n hx hb dX10_way_7 rfl (lvA3 hl) ?_
  refine lv_isub hx hb dX10_way_8 ?_
  refine va_mabs hx hb (by rw [hml]; exact hl.1.symm) hown (S.2.2.2.2 _ (wk4_10 4 rfl rfl)) (S.2.2.2.2 _ (wk4_10 5 rfl rfl)) (S.2.2.2.2 _ (wk1_0 3 rfl rfl)) (S.2.2.2.2 _ (wk4_10 6 rfl rfl)) (Nat.le_of_ble_eq_true rfl) (Nat.le_of_ble_eq_true rfl) (Nat.le_of_ble_eq_true rfl) (Nat.le_of_ble_eq_true rfl) dX10_way_9 ?_
  refine lv_iadd hx hb dX10_way_12 ?_
  exact W.iret (v := ((if 0 ≤ (v0 - v2) then (v0 - v2) else 0 - (v0 - v2)) + (if 0 ≤ (v1 - v3) then (v1 - v3) else 0 - (v1 - v3)))) hx hb hr (fun t ht hW => ⟨((if 0 ≤ (v0 - v2) then (v0 - v2) else 0 - (v0 - v2)) + (if 0 ≤ (v1 - v3) then (v1 - v3) else 0 - (v1 - v3))), rfl, rfl, ht⟩) (fun _ h => absurd h List.not_mem_nil) dX10_way_13
set_option maxRecDepth 100000 in
set_option maxHeartbeats 4000000 in
theorem q_EisBeside (l : Launch) (D : va_G) (cI cB cZ : ClassId) (zz qq vv : Nat) (bt : Nat → Int32) (g : Nat → Nat) (ad : Nat → Nat → Nat) (cn : Nat → Nat) (In : Nat → Int32) (Fn : Nat → Nat → Int32) (k0 : Nat) (v1 v2 : Int32) (hB : CBX cn) (hk : k0 < cn 10) : Met l yX11_isBeside (CWS yX11_isBeside cX11_isBeside 6 (some .boolean)) (RM 3 0 0) (PBrx [.ref (g 0), .ref (ad 10 k0), .int v1, .int v2] D cI cB cZ zz qq vv bt (wX cI (D.1 99) zz g ad cn In Fn)) (vp_Si (fun r => (r = 1 ∧ ∃ j : Nat, j < cn 14 ∧ v2.toInt ≤ (Fn 172 j).toInt ∧ (wyX (Fn 100 k0) (Fn 101 k0) (Fn 170 j) (Fn 171 j)).toInt ≤ v1.toInt) ∨ (r = 0 ∧ ¬ ∃ j : Nat, j < cn 14 ∧ v2.toInt ≤ (Fn 172 j).toInt ∧ (wyX (Fn 100 k0) (Fn 101 k0) (Fn 170 j) (Fn 171 j)).toInt ≤ v1.toInt))) 0 0 (fun _ => False) := by
  refine Met.ofW (cc := cX11_isBeside) (maxL := 6) (ret := (some .boolean)) (by decide) rfl ?_
  intro p e s m args below meth c s₁ B hml hv
  obtain ⟨rfl, hP, hK, hXS⟩ := hv
  have hS : va_S (fun _ => False) s.heap s.heap [] := va_S.rf
  have hx := B.exec
  have hb := B.bytes
  have hr := B.returns
  have hts := atoms_spec (ws := (CWS yX11_isBeside cX11_isBeside 6 (some .boolean))) B.pre
  have hown : s.vm.findClass RX11 = some m.cls := findClass_of_methodNamed B.named
  have hlocks := B.notSynchronized
  have S : SF p m c cX11_isBeside 6 s ([.ref (g 0), .ref (ad 10 k0), .int v1, .int v2]).toArray RX11 := ⟨hx, hb, hml, hown, fun w h => hts w (List.mem_cons_of_mem _ h)⟩
  have hl := lv_entry ([.ref (g 0), .ref (ad 10 k0), .int v1, .int v2]) (n := 6) (Nat.le_of_ble_eq_true rfl)
  rw [lg_entry_eq]
  generalize (lg_sl ([.ref (g 0), .ref (ad 10 k0), .int v1, .int v2]) ++ List.replicate (6 - (lg_sl ([.ref (g 0), .ref (ad 10 k0), .int v1, .int v2])).length) Slot.unset).toArray = ls at hl ⊢
  have hl : lv_has ls 6 [(0, .ref (g 0)), (1, .ref (ad 10 k0)), (2, .int v1), (3, .int v2)] := hl
  have hb_cn : Hid (CBX cn) := hB
  replace hB : CBXh cn := hB
  refine lv_iconst (v := 0) hx hb dX11_isBeside_0 kic_0 ?_
  refine lv_istore (lv' := [(4, .int 0), (0, .ref (g 0)), (1, .ref (ad 10 k0)), (2, .int v1), (3, .int v2)]) hx hb dX11_isBeside_1 hl (ltb rfl) rfl (fun ls hl => ?_)
  have lp_3 : ∀ (n : Nat) (i3 : Nat) , cn 14 - i3 < n → (i3 ≤ cn 14 ∧ (∀ j : Nat, j < i3 → ¬ (v2.toInt ≤ (Fn 172 j).toInt ∧ (wyX (Fn 100 k0) (Fn 101 k0) (Fn 170 j) (Fn 171 j)).toInt ≤ v1.toInt))) → ∀ ls : Array Slot, lv_has ls 6 [(4, .int (nI i3)), (0, .ref (g 0)), (1, .ref (ad 10 k0)), (2, .int v1), (3, .int v2)] → W p l e (RM 3 0 0) s m ([.ref (g 0), .ref (ad 10 k0), .int v1, .int v2]).toArray below meth c s.heap [] 0 0 (MQ below (vp_Si (fun r => (r = 1 ∧ ∃ j : Nat, j < cn 14 ∧ v2.toInt ≤ (Fn 172 j).toInt ∧ (wyX (Fn 100 k0) (Fn 101 k0) (Fn 170 j) (Fn 171 j)).toInt ≤ v1.toInt) ∨ (r = 0 ∧ ¬ ∃ j : Nat, j < cn 14 ∧ v2.toInt ≤ (Fn 172 j).toInt ∧ (wyX (Fn 100 k0) (Fn 101 k0) (Fn 170 j) (Fn 171 j)).toInt ≤ v1.toInt))) ([.ref (g 0), .ref (ad 10 k0), .int v1, .int v2]).toArray s 0 0 (fun _ => False)) (F0 m 3 ls []) := by
    intro n3
    induction n3 with
    | zero => intros; (first | omega | (have zz0 := Hid.u hb_cn; omega))
    | succ n3 ih3 =>
      intro i3 hmu3 hinv3 ls hl
      obtain ⟨hr3, hx3_0⟩ := hinv3
      have ti3 : (nI i3).toInt = (i3 : Int) := nI_toInt (by (first | omega | (have zz0 := Hid.u hb_cn; omega)))
      refine lv_iload hx hb dX11_isBeside_3 (lvA0 hl) ?_
      refine lv_aload_n hx hb dX11_isBeside_5 rfl (lvA1 hl) ?_
      refine gf_RX11_74 S hK hP 0 xo_0 (v := .ref (g 14)) rfl dX11_isBeside_6 ?_
      refine vp_callSi (runV_r (As := []) (rest := [.int (nI i3)]) S (q_l_size l D cI cB cZ (g 14) (if (cn 14) = 0 then zz else ad 2 4) (In 14) (nI (cn 14))) kV_RX11_84 hK hP [28] (one_is xo_28) 28 xo_28 rfl rfl ⟨Nat.le_of_ble_eq_true rfl, Nat.le_of_ble_eq_true rfl⟩ ⟨Nat.le_of_ble_eq_true rfl, Nat.le_of_ble_eq_true rfl⟩ rfl hl.1 rfl (Nat.le_of_ble_eq_true rfl) dX11_isBeside_9) (fun r_1 h_2 => ?_)
      subst h_2
      have : (nI (cn 14)).toInt = (((cn 14) : Nat) : Int) := nI_toInt (by (first | omega | (have zz0 := Hid.u hb_cn; omega)))
      refine lv_icmp_ge (tgt := 71) hx hb dX11_isBeside_12 rfl (fun c_3 => ?_) (fun c_3 => ?_)
      ·
        have tc_3 : ((nI (cn 14)).toInt : Int) ≤ (nI i3).toInt := Int32.le_iff_toInt_le.mp c_3
        refine lv_iconst (v := 0) hx hb dX11_isBeside_71 kic_0 ?_
        exact W.zret (v := 0) hx hb hr rfl (fun t ht hW => ⟨0, rfl, (Or.inr ⟨rfl, fun ⟨j, h1, h2, h3⟩ => hx3_0 j (by (first | omega | (have zz0 := Hid.u hb_cn; omega))) ⟨h2, h3⟩⟩), ht⟩) (fun _ h => absurd h List.not_mem_nil) dX11_isBeside_72
      ·
        have tc_3 : ((nI i3).toInt : Int) < (nI (cn 14)).toInt := Int32.lt_iff_toInt_lt.mp (Int32.not_le.mp c_3)
        refine lv_aload_n hx hb dX11_isBeside_15 rfl (lvA1 hl) ?_
        refine gf_RX11_74 S hK hP 0 xo_0 (v := .ref (g 14)) rfl dX11_isBeside_16 ?_
        refine lv_iload hx hb dX11_isBeside_19 (lvA0 hl) ?_
        refine va_csq (runV_rx (As := [.int (nI i3)]) (rest := []) S (q_l_get l D cI cB cZ zz qq vv bt (g 14) (ad 2 4) (cn 24) (cn 14) i3 (ad 14 i3) (In 14) (fun i => if i < (cn 14) then some (ad 14 i) else none) (by (first | omega | (have zz0 := Hid.u hb_cn; omega))) (if_pos (by (first | omega | (have zz0 := Hid.u hb_cn; omega)))) (by (first | omega | (have zz0 := Hid.u hb_cn; omega))) (by (first | omega | (have zz0 := Hid.u hb_cn; omega)))) kV_RX11_87 hK hXS hS hP _ (two_is (xl_4 (by (first | omega | (have zz0 := Hid.u hb_cn; omega)))) (xf_17 (k := 0) (by (first | omega | (have zz0 := Hid.u hb_cn; omega))))) (va_recv hK.1 hP (ci := 0) rfl xo_28) ⟨Nat.le_of_ble_eq_true rfl, Nat.le_of_ble_eq_true rfl⟩ ⟨Nat.le_of_ble_eq_true rfl, Nat.le_of_ble_eq_true rfl⟩ rfl hl.1 rfl (Nat.le_of_ble_eq_true rfl) dX11_isBeside_21) (fun r_4 h_5 => ?_)
        subst h_5
        have kf_1 : i3 < cn 14 := by (first | omega | (have zz0 := Hid.u hb_cn; omega))
        refine va_castS hx hb hown (S.2.2.2.2 _ (wk5_17 5 rfl rfl)) (xclass hK.1 (ci := 7) rfl) (va_recv hK.1 hP (ci := 7) rfl (xf_4 kf_1)) dX11_isBeside_24 ?_
        refine lv_astore (lv' := [(5, .ref (ad 14 i3)), (4, .int (nI i3)), (0, .ref (g 0)), (1, .ref (ad 10 k0)), (2, .int v1), (3, .int v2)]) hx hb dX11_isBeside_27 hl (ltb rfl) rfl (fun ls hl => ?_)
        refine lv_aload hx hb dX11_isBeside_29 (lvA0 hl) ?_
        refine gf_RX11_477 S hK hP _ (xf_4 kf_1) (v := .int ((Fn 172) i3)) rfl dX11_isBeside_31 ?_
        refine lv_iload_n hx hb dX11_isBeside_34 rfl (lvA5 hl) ?_
        refine lv_icmp_lt (tgt := 65) hx hb dX11_isBeside_35 rfl (fun c_6 => ?_) (fun c_6 => ?_)
        ·
          have tc_6 : (((Fn 172) i3).toInt : Int) < v2.toInt := Int32.lt_iff_toInt_lt.mp c_6
          refine lv_iinc (v := (nI (i3 + 1))) (lv' := [(4, .int (nI (i3 + 1))), (5, .ref (ad 14 i3)), (0, .ref (g 0)), (1, .ref (ad 10 k0)), (2, .int v1), (3, .int v2)]) hx hb dX11_isBeside_65 hl (k := 1) rfl (nI_1 _) (ltb rfl) rfl (fun ls hl => ?_)
          refine lv_goto (tgt := 3) hx hb dX11_isBeside_68 rfl ?_
          exact ih3 (i3 + 1) (by (first | omega | (have zz0 := Hid.u hb_cn; omega))) ⟨(by (first | omega | (have zz0 := Hid.u hb_cn; omega))), (fun j h9 => if q9 : j < i3 then hx3_0 j q9 else (by have e9 : j = i3 := (by (first | omega | (have zz0 := Hid.u hb_cn; omega))); subst e9; (first | omega | (have zz0 := Hid.u hb_cn; omega))))⟩ ls (lv_sub hl [0, 2, 3, 4, 5] rfl)
        ·
          have tc_6 : (v2.toInt : Int) ≤ ((Fn 172) i3).toInt := Int32.le_iff_toInt_le.mp (Int32.not_lt.mp c_6)
          refine lv_aload_n hx hb dX11_isBeside_38 rfl (lvA3 hl) ?_
          refine gf_RX11_293 S hK hP _ (xf_0 hk) (v := .int ((Fn 100) k0)) rfl dX11_isBeside_39 ?_
          refine lv_aload_n hx hb dX11_isBeside_42 rfl (lvA3 hl) ?_
          refine gf_RX11_296 S hK hP _ (xf_0 hk) (v := .int ((Fn 101) k0)) rfl dX11_isBeside_43 ?_
          refine lv_aload hx hb dX11_isBeside_46 (lvA0 hl) ?_
          refine gf_RX11_480 S hK hP _ (xf_4 kf_1) (v := .int ((Fn 170) i3)) rfl dX11_isBeside_48 ?_
          refine lv_aload hx hb dX11_isBeside_51 (lvA0 hl) ?_
          refine gf_RX11_481 S hK hP _ (xf_4 kf_1) (v := .int ((Fn 171) i3)) rfl dX11_isBeside_53 ?_
          refine vp_callSi (runS_r (As := [.int ((Fn 100) k0), .int ((Fn 101) k0), .int ((Fn 170) i3), .int ((Fn 171) i3)]) (rest := []) S (q_Eway l D cI cB cZ ((Fn 100) k0) ((Fn 101) k0) ((Fn 170) i3) ((Fn 171) i3) ) kS_RX11_299 hK hP [] rfl ⟨Nat.le_of_ble_eq_true rfl, Nat.le_of_ble_eq_true rfl⟩ ⟨Nat.le_of_ble_eq_true rfl, Nat.le_of_ble_eq_true rfl⟩ rfl hl.1 rfl (Nat.le_of_ble_eq_true rfl) dX11_isBeside_56) (fun r_7 h_8 => ?_)
          subst h_8
          refine lv_iload_n hx hb dX11_isBeside_59 rfl (lvA4 hl) ?_
          refine lv_icmp_gt (tgt := 65) hx hb dX11_isBeside_60 rfl (fun c_9 => ?_) (fun c_9 => ?_)
          ·
            have tc_9 : (v1.toInt : Int) < ((wyX ((Fn 100) k0) ((Fn 101) k0) ((Fn 170) i3) ((Fn 171) i3))).toInt := Int32.lt_iff_toInt_lt.mp c_9
            refine lv_iinc (v := (nI (i3 + 1))) (lv' := [(4, .int (nI (i3 + 1))), (5, .ref (ad 14 i3)), (0, .ref (g 0)), (1, .ref (ad 10 k0)), (2, .int v1), (3, .int v2)]) hx hb dX11_isBeside_65 hl (k := 1) rfl (nI_1 _) (ltb rfl) rfl (fun ls hl => ?_)
            refine lv_goto (tgt := 3) hx hb dX11_isBeside_68 rfl ?_
            exact ih3 (i3 + 1) (by (first | omega | (have zz0 := Hid.u hb_cn; omega))) ⟨(by (first | omega | (have zz0 := Hid.u hb_cn; omega))), (fun j h9 => if q9 : j < i3 then hx3_0 j q9 else (by have e9 : j = i3 := (by (first | omega | (have zz0 := Hid.u hb_cn; omega))); subst e9; (first | omega | (have zz0 := Hid.u hb_cn; omega))))⟩ ls (lv_sub hl [0, 2, 3, 4, 5] rfl)
          ·
            have tc_9 : (((wyX ((Fn 100) k0) ((Fn 101) k0) ((Fn 170) i3) ((Fn 171) i3))).toInt : Int) ≤ v1.toInt := Int32.le_iff_toInt_le.mp (Int32.not_lt.mp c_9)
            refine lv_iconst (v := 1) hx hb dX11_isBeside_63 kic_1 ?_
            exact W.zret (v := 1) hx hb hr rfl (fun t ht hW => ⟨1, rfl, (Or.inl ⟨rfl, i3, by (first | omega | (have zz0 := Hid.u hb_cn; omega)), by (first | omega | (have zz0 := Hid.u hb_cn; omega)), by (first | omega | (have zz0 := Hid.u hb_cn; omega))⟩), ht⟩) (fun _ h => absurd h List.not_mem_nil) dX11_isBeside_64
  exact lp_3 _ 0 (Nat.lt_succ_self _) ⟨(by (first | omega | (have zz0 := Hid.u hb_cn; omega))), (fun j h9 => absurd h9 (by (first | omega | (have zz0 := Hid.u hb_cn; omega))))⟩ ls (lv_sub hl [0, 1, 2, 3, 4] rfl)
set_option maxRecDepth 100000 in
set_option maxHeartbeats 4000000 in
theorem q_Ebeside (l : Launch) (D : va_G) (cI cB cZ : ClassId) (zz qq vv : Nat) (bt : Nat → Int32) (g : Nat → Nat) (ad : Nat → Nat → Nat) (cn : Nat → Nat) (In : Nat → Int32) (Fn : Nat → Nat → Int32) (v0 v1 : Int32) (hB : CBX cn) : Met l yX11_beside (CWS yX11_beside cX11_beside 6 (some .int)) (RM 4 0 0) (PBrx [.ref (g 0), .int v0, .int v1] D cI cB cZ zz qq vv bt (wX cI (D.1 99) zz g ad cn In Fn)) (vp_Si (fun r => ((0 ≤ v0.toInt ∧ v0.toInt ≤ 198 ∧ 1 ≤ v1.toInt ∧ v1.toInt ≤ 1000) ∧ BSB (BP wyX (Fn 102) (Fn 100) (Fn 101) (Fn 170) (Fn 171) (Fn 172) (cn 14) v0 v1) (cn 10) r) ∨ (¬ (0 ≤ v0.toInt ∧ v0.toInt ≤ 198 ∧ 1 ≤ v1.toInt ∧ v1.toInt ≤ 1000) ∧ r = -1))) 0 0 (fun _ => False) := by
  refine Met.ofW (cc := cX11_beside) (maxL := 6) (ret := (some .int)) (by decide) rfl ?_
  intro p e s m args below meth c s₁ B hml hv
  obtain ⟨rfl, hP, hK, hXS⟩ := hv
  have hS : va_S (fun _ => False) s.heap s.heap [] := va_S.rf
  have hx := B.exec
  have hb := B.bytes
  have hr := B.returns
  have hts := atoms_spec (ws := (CWS yX11_beside cX11_beside 6 (some .int))) B.pre
  have hown : s.vm.findClass RX11 = some m.cls := findClass_of_methodNamed B.named
  have hlocks := B.notSynchronized
  have S : SF p m c cX11_beside 6 s ([.ref (g 0), .int v0, .int v1]).toArray RX11 := ⟨hx, hb, hml, hown, fun w h => hts w (List.mem_cons_of_mem _ h)⟩
  have hl := lv_entry ([.ref (g 0), .int v0, .int v1]) (n := 6) (Nat.le_of_ble_eq_true rfl)
  rw [lg_entry_eq]
  generalize (lg_sl ([.ref (g 0), .int v0, .int v1]) ++ List.replicate (6 - (lg_sl ([.ref (g 0), .int v0, .int v1])).length) Slot.unset).toArray = ls at hl ⊢
  have hl : lv_has ls 6 [(0, .ref (g 0)), (1, .int v0), (2, .int v1)] := hl
  have hb_cn : Hid (CBX cn) := hB
  replace hB : CBXh cn := hB
  refine lv_iload_n hx hb dX11_beside_0 rfl (lvA1 hl) ?_
  refine lv_iconst (v := 0) hx hb dX11_beside_1 kic_0 ?_
  refine lv_sipush (v := 198) hx hb dX11_beside_2 (by decide) ?_
  refine vp_callSi (runS_r (As := [.int v0, .int 0, .int 198]) (rest := []) S (q_l_within l D cI cB cZ v0 0 198) kS_RX11_80 hK hP [] rfl ⟨Nat.le_of_ble_eq_true rfl, Nat.le_of_ble_eq_true rfl⟩ ⟨Nat.le_of_ble_eq_true rfl, Nat.le_of_ble_eq_true rfl⟩ rfl hl.1 rfl (Nat.le_of_ble_eq_true rfl) dX11_beside_5) (fun r_1 h_2 => ?_)
  rcases h_2 with ⟨rfl, h_2⟩ | ⟨rfl, h_2⟩
  ·
    have h_2 : 0 ≤ v0.toInt ∧ v0.toInt ≤ 198 := h_2
    refine lv_if_eq (tgt := 22) hx hb dX11_beside_8 rfl (fun h => absurd h cq_eq_1_0) (fun _ => ?_)
    refine lv_iload_n hx hb dX11_beside_11 rfl (lvA2 hl) ?_
    refine lv_iconst (v := 1) hx hb dX11_beside_12 kic_1 ?_
    refine lv_sipush (v := 1000) hx hb dX11_beside_13 (by decide) ?_
    refine vp_callSi (runS_r (As := [.int v1, .int 1, .int 1000]) (rest := []) S (q_l_within l D cI cB cZ v1 1 1000) kS_RX11_80 hK hP [] rfl ⟨Nat.le_of_ble_eq_true rfl, Nat.le_of_ble_eq_true rfl⟩ ⟨Nat.le_of_ble_eq_true rfl, Nat.le_of_ble_eq_true rfl⟩ rfl hl.1 rfl (Nat.le_of_ble_eq_true rfl) dX11_beside_16) (fun r_3 h_4 => ?_)
    rcases h_4 with ⟨rfl, h_4⟩ | ⟨rfl, h_4⟩
    ·
      have h_4 : 1 ≤ v1.toInt ∧ v1.toInt ≤ 1000 := h_4
      refine lv_if_ne (tgt := 24) hx hb dX11_beside_19 rfl (fun _ => ?_) (fun h => absurd h cq_eq_1_0)
      refine lv_iconst (v := 0) hx hb dX11_beside_24 kic_0 ?_
      refine lv_istore_n (lv' := [(3, .int 0), (0, .ref (g 0)), (1, .int v0), (2, .int v1)]) hx hb dX11_beside_25 rfl hl (ltb rfl) rfl (fun ls hl => ?_)
      refine lv_iconst (v := 0) hx hb dX11_beside_26 kic_0 ?_
      refine lv_istore (lv' := [(4, .int 0), (3, .int 0), (0, .ref (g 0)), (1, .int v0), (2, .int v1)]) hx hb dX11_beside_27 hl (ltb rfl) rfl (fun ls hl => ?_)
      have lp_29 : ∀ (n : Nat) (i29 : Nat) (x29_3 : Int32) , cn 10 - i29 < n → (i29 ≤ cn 10 ∧ (BSB (BP wyX (Fn 102) (Fn 100) (Fn 101) (Fn 170) (Fn 171) (Fn 172) (cn 14) v0 v1) i29 x29_3)) → ∀ ls : Array Slot, lv_has ls 6 [(4, .int (nI i29)), (3, .int x29_3), (0, .ref (g 0)), (1, .int v0), (2, .int v1)] → W p l e (RM 4 0 0) s m ([.ref (g 0), .int v0, .int v1]).toArray below meth c s.heap [] 0 0 (MQ below (vp_Si (fun r => ((0 ≤ v0.toInt ∧ v0.toInt ≤ 198 ∧ 1 ≤ v1.toInt ∧ v1.toInt ≤ 1000) ∧ BSB (BP wyX (Fn 102) (Fn 100) (Fn 101) (Fn 170) (Fn 171) (Fn 172) (cn 14) v0 v1) (cn 10) r) ∨ (¬ (0 ≤ v0.toInt ∧ v0.toInt ≤ 198 ∧ 1 ≤ v1.toInt ∧ v1.toInt ≤ 1000) ∧ r = -1))) ([.ref (g 0), .int v0, .int v1]).toArray s 0 0 (fun _ => False)) (F0 m 29 ls []) := by
        intro n29
        induction n29 with
        | zero => intros; (first | omega | (have zz0 := Hid.u hb_cn; omega))
        | succ n29 ih29 =>
          intro i29 x29_3 hmu29 hinv29 ls hl
          obtain ⟨hr29, hx29_0⟩ := hinv29
          have ti29 : (nI i29).toInt = (i29 : Int) := nI_toInt (by (first | omega | (have zz0 := Hid.u hb_cn; omega)))
          refine lv_iload hx hb dX11_beside_29 (lvA0 hl) ?_
          refine lv_aload_n hx hb dX11_beside_31 rfl (lvA2 hl) ?_
          refine gf_RX11_61 S hK hP 0 xo_0 (v := .ref (g 10)) rfl dX11_beside_32 ?_
          refine vp_callSi (runV_r (As := []) (rest := [.int (nI i29)]) S (q_l_size l D cI cB cZ (g 10) (if (cn 10) = 0 then zz else ad 2 0) (In 10) (nI (cn 10))) kV_RX11_84 hK hP [24] (one_is xo_24) 24 xo_24 rfl rfl ⟨Nat.le_of_ble_eq_true rfl, Nat.le_of_ble_eq_true rfl⟩ ⟨Nat.le_of_ble_eq_true rfl, Nat.le_of_ble_eq_true rfl⟩ rfl hl.1 rfl (Nat.le_of_ble_eq_true rfl) dX11_beside_35) (fun r_5 h_6 => ?_)
          subst h_6
          have : (nI (cn 10)).toInt = (((cn 10) : Nat) : Int) := nI_toInt (by (first | omega | (have zz0 := Hid.u hb_cn; omega)))
          refine lv_icmp_ge (tgt := 91) hx hb dX11_beside_38 rfl (fun c_7 => ?_) (fun c_7 => ?_)
          ·
            have tc_7 : ((nI (cn 10)).toInt : Int) ≤ (nI i29).toInt := Int32.le_iff_toInt_le.mp c_7
            refine lv_iload_n hx hb dX11_beside_91 rfl (lvA1 hl) ?_
            exact W.iret (v := x29_3) hx hb hr (fun t ht hW => ⟨x29_3, rfl, (Or.inl ⟨by (first | omega | (have zz0 := Hid.u hb_cn; omega)), by have e9 : i29 = cn 10 := (by (first | omega | (have zz0 := Hid.u hb_cn; omega))); rw [← e9]; exact hx29_0⟩), ht⟩) (fun _ h => absurd h List.not_mem_nil) dX11_beside_92
          ·
            have tc_7 : ((nI i29).toInt : Int) < (nI (cn 10)).toInt := Int32.lt_iff_toInt_lt.mp (Int32.not_le.mp c_7)
            refine lv_aload_n hx hb dX11_beside_41 rfl (lvA2 hl) ?_
            refine gf_RX11_61 S hK hP 0 xo_0 (v := .ref (g 10)) rfl dX11_beside_42 ?_
            refine lv_iload hx hb dX11_beside_45 (lvA0 hl) ?_
            refine va_csq (runV_rx (As := [.int (nI i29)]) (rest := []) S (q_l_get l D cI cB cZ zz qq vv bt (g 10) (ad 2 0) (cn 20) (cn 10) i29 (ad 10 i29) (In 10) (fun i => if i < (cn 10) then some (ad 10 i) else none) (by (first | omega | (have zz0 := Hid.u hb_cn; omega))) (if_pos (by (first | omega | (have zz0 := Hid.u hb_cn; omega)))) (by (first | omega | (have zz0 := Hid.u hb_cn; omega))) (by (first | omega | (have zz0 := Hid.u hb_cn; omega)))) kV_RX11_87 hK hXS hS hP _ (two_is (xl_0 (by (first | omega | (have zz0 := Hid.u hb_cn; omega)))) (xf_13 (k := 0) (by (first | omega | (have zz0 := Hid.u hb_cn; omega))))) (va_recv hK.1 hP (ci := 0) rfl xo_24) ⟨Nat.le_of_ble_eq_true rfl, Nat.le_of_ble_eq_true rfl⟩ ⟨Nat.le_of_ble_eq_true rfl, Nat.le_of_ble_eq_true rfl⟩ rfl hl.1 rfl (Nat.le_of_ble_eq_true rfl) dX11_beside_47) (fun r_8 h_9 => ?_)
            subst h_9
            have kf_1 : i29 < cn 10 := by (first | omega | (have zz0 := Hid.u hb_cn; omega))
            refine va_castS hx hb hown (S.2.2.2.2 _ (wk2_5 3 rfl rfl)) (xclass hK.1 (ci := 2) rfl) (va_recv hK.1 hP (ci := 2) rfl (xf_0 kf_1)) dX11_beside_50 ?_
            refine lv_astore (lv' := [(5, .ref (ad 10 i29)), (4, .int (nI i29)), (3, .int x29_3), (0, .ref (g 0)), (1, .int v0), (2, .int v1)]) hx hb dX11_beside_53 hl (ltb rfl) rfl (fun ls hl => ?_)
            refine lv_iload_n hx hb dX11_beside_55 rfl (lvA2 hl) ?_
            refine lv_aload hx hb dX11_beside_56 (lvA0 hl) ?_
            refine gf_RX11_459 S hK hP _ (xf_0 kf_1) (v := .int ((Fn 102) i29)) rfl dX11_beside_58 ?_
            refine lv_if_ne (tgt := 82) hx hb dX11_beside_61 rfl (fun c_10 => ?_) (fun c_10 => ?_)
            ·
              have tc_10 : (((Fn 102) i29).toInt : Int) ≠ 0 := fun q => c_10 (Int32.toInt_inj.mp q)
              refine lv_iconst (v := 0) hx hb dX11_beside_82 kic_0 ?_
              refine lv_ior hx hb dX11_beside_83 ?_
              refine lv_istore_n (lv' := [(3, .int (x29_3 ||| 0)), (5, .ref (ad 10 i29)), (4, .int (nI i29)), (0, .ref (g 0)), (1, .int v0), (2, .int v1)]) hx hb dX11_beside_84 rfl hl (ltb rfl) rfl (fun ls hl => ?_)
              refine lv_iinc (v := (nI (i29 + 1))) (lv' := [(4, .int (nI (i29 + 1))), (3, .int (x29_3 ||| 0)), (5, .ref (ad 10 i29)), (0, .ref (g 0)), (1, .int v0), (2, .int v1)]) hx hb dX11_beside_85 hl (k := 2) rfl (nI_1 _) (ltb rfl) rfl (fun ls hl => ?_)
              refine lv_goto (tgt := 29) hx hb dX11_beside_88 rfl ?_
              exact ih29 (i29 + 1) (x29_3 ||| 0) (by (first | omega | (have zz0 := Hid.u hb_cn; omega))) ⟨(by (first | omega | (have zz0 := Hid.u hb_cn; omega))), (⟨x29_3, hx29_0, by first | exact Or.inl ⟨⟨i0_of (by (first | omega | (have zz0 := Hid.u hb_cn; omega))), hq9⟩, rfl⟩ | exact Or.inr ⟨fun w9 => hq9 w9.2, Int32.or_zero⟩ | exact Or.inr ⟨fun w9 => by have := i0_to w9.1; (first | omega | (have zz0 := Hid.u hb_cn; omega)), Int32.or_zero⟩⟩)⟩ ls (lv_sub hl [0, 1, 3, 4, 5] rfl)
            ·
              have tc_10 : (((Fn 102) i29).toInt : Int) = 0 := congrArg Int32.toInt c_10
              refine lv_aload_n hx hb dX11_beside_64 rfl (lvA3 hl) ?_
              refine lv_aload hx hb dX11_beside_65 (lvA0 hl) ?_
              refine lv_iload_n hx hb dX11_beside_67 rfl (lvA4 hl) ?_
              refine lv_iload_n hx hb dX11_beside_68 rfl (lvA5 hl) ?_
              refine vp_callSi (runV_rxa (As := [.ref (ad 10 i29), .int v0, .int v1]) (rest := [.int x29_3]) S (q_EisBeside l D cI cB cZ zz qq vv bt g ad cn In Fn i29 v0 v1 hB (by (first | omega | (have zz0 := Hid.u hb_cn; omega)))) kV_RX11_482 hK hXS hS hP 0 xo_0 rfl rfl ⟨Nat.le_of_ble_eq_true rfl, Nat.le_of_ble_eq_true rfl⟩ ⟨Nat.le_of_ble_eq_true rfl, Nat.le_of_ble_eq_true rfl⟩ rfl hl.1 rfl (Nat.le_of_ble_eq_true rfl) dX11_beside_69) (fun r_11 h_12 => ?_)
              rcases h_12 with ⟨rfl, hq9⟩ | ⟨rfl, hq9⟩
              ·
                refine lv_if_eq (tgt := 82) hx hb dX11_beside_72 rfl (fun h => absurd h cq_eq_1_0) (fun _ => ?_)
                refine lv_iconst (v := 1) hx hb dX11_beside_75 kic_1 ?_
                refine lv_iload hx hb dX11_beside_76 (lvA1 hl) ?_
                refine lv_ishl hx hb dX11_beside_78 ?_
                refine lv_goto (tgt := 83) hx hb dX11_beside_79 rfl ?_
                refine lv_ior hx hb dX11_beside_83 ?_
                refine lv_istore_n (lv' := [(3, .int (x29_3 ||| (1 <<< ((nI i29) &&& 31)))), (5, .ref (ad 10 i29)), (4, .int (nI i29)), (0, .ref (g 0)), (1, .int v0), (2, .int v1)]) hx hb dX11_beside_84 rfl hl (ltb rfl) rfl (fun ls hl => ?_)
                refine lv_iinc (v := (nI (i29 + 1))) (lv' := [(4, .int (nI (i29 + 1))), (3, .int (x29_3 ||| (1 <<< ((nI i29) &&& 31)))), (5, .ref (ad 10 i29)), (0, .ref (g 0)), (1, .int v0), (2, .int v1)]) hx hb dX11_beside_85 hl (k := 2) rfl (nI_1 _) (ltb rfl) rfl (fun ls hl => ?_)
                refine lv_goto (tgt := 29) hx hb dX11_beside_88 rfl ?_
                exact ih29 (i29 + 1) (x29_3 ||| (1 <<< ((nI i29) &&& 31))) (by (first | omega | (have zz0 := Hid.u hb_cn; omega))) ⟨(by (first | omega | (have zz0 := Hid.u hb_cn; omega))), (⟨x29_3, hx29_0, by first | exact Or.inl ⟨⟨i0_of (by (first | omega | (have zz0 := Hid.u hb_cn; omega))), hq9⟩, rfl⟩ | exact Or.inr ⟨fun w9 => hq9 w9.2, Int32.or_zero⟩ | exact Or.inr ⟨fun w9 => by have := i0_to w9.1; (first | omega | (have zz0 := Hid.u hb_cn; omega)), Int32.or_zero⟩⟩)⟩ ls (lv_sub hl [0, 1, 3, 4, 5] rfl)
              ·
                refine lv_if_eq (tgt := 82) hx hb dX11_beside_72 rfl (fun _ => ?_) (fun h => absurd h cq_eq_0_0)
                refine lv_iconst (v := 0) hx hb dX11_beside_82 kic_0 ?_
                refine lv_ior hx hb dX11_beside_83 ?_
                refine lv_istore_n (lv' := [(3, .int (x29_3 ||| 0)), (5, .ref (ad 10 i29)), (4, .int (nI i29)), (0, .ref (g 0)), (1, .int v0), (2, .int v1)]) hx hb dX11_beside_84 rfl hl (ltb rfl) rfl (fun ls hl => ?_)
                refine lv_iinc (v := (nI (i29 + 1))) (lv' := [(4, .int (nI (i29 + 1))), (3, .int (x29_3 ||| 0)), (5, .ref (ad 10 i29)), (0, .ref (g 0)), (1, .int v0), (2, .int v1)]) hx hb dX11_beside_85 hl (k := 2) rfl (nI_1 _) (ltb rfl) rfl (fun ls hl => ?_)
                refine lv_goto (tgt := 29) hx hb dX11_beside_88 rfl ?_
                exact ih29 (i29 + 1) (x29_3 ||| 0) (by (first | omega | (have zz0 := Hid.u hb_cn; omega))) ⟨(by (first | omega | (have zz0 := Hid.u hb_cn; omega))), (⟨x29_3, hx29_0, by first | exact Or.inl ⟨⟨i0_of (by (first | omega | (have zz0 := Hid.u hb_cn; omega))), hq9⟩, rfl⟩ | exact Or.inr ⟨fun w9 => hq9 w9.2, Int32.or_zero⟩ | exact Or.inr ⟨fun w9 => by have := i0_to w9.1; (first | omega | (have zz0 := Hid.u hb_cn; omega)), Int32.or_zero⟩⟩)⟩ ls (lv_sub hl [0, 1, 3, 4, 5] rfl)
      exact lp_29 _ 0 0 (Nat.lt_succ_self _) ⟨(by (first | omega | (have zz0 := Hid.u hb_cn; omega))), rfl⟩ ls (lv_sub hl [0, 1, 2, 3, 4] rfl)
    ·
      have h_4 : ¬ (1 ≤ v1.toInt ∧ v1.toInt ≤ 1000) := h_4
      refine lv_if_ne (tgt := 24) hx hb dX11_beside_19 rfl (fun h => absurd h cq_eq_0_0) (fun _ => ?_)
      refine lv_iconst (v := (-1)) hx hb dX11_beside_22 kic_m1 ?_
      exact W.iret (v := (-1)) hx hb hr (fun t ht hW => ⟨(-1), rfl, (Or.inr ⟨by (first | omega | (have zz0 := Hid.u hb_cn; omega)), rfl⟩), ht⟩) (fun _ h => absurd h List.not_mem_nil) dX11_beside_23
  ·
    have h_2 : ¬ (0 ≤ v0.toInt ∧ v0.toInt ≤ 198) := h_2
    refine lv_if_eq (tgt := 22) hx hb dX11_beside_8 rfl (fun _ => ?_) (fun h => absurd h cq_eq_0_0)
    refine lv_iconst (v := (-1)) hx hb dX11_beside_22 kic_m1 ?_
    exact W.iret (v := (-1)) hx hb hr (fun t ht hW => ⟨(-1), rfl, (Or.inr ⟨by (first | omega | (have zz0 := Hid.u hb_cn; omega)), rfl⟩), ht⟩) (fun _ h => absurd h List.not_mem_nil) dX11_beside_23
set_option maxRecDepth 100000 in
set_option maxHeartbeats 4000000 in
theorem q_beside9 (l : Launch) (D : va_G) (cI cB cZ : ClassId) (g : Nat → Nat) (cn : Nat → Nat) (In : Nat → Int32) (Fn : Nat → Nat → Int32) (v0 v1 : Int32) (hI : IM cn Fn) : Met l yX12_beside (CWS yX12_beside cX12_beside 6 (some .int)) (RM 1 0 0) (PBr [.ref (g 100), .int v0, .int v1] D cI cB cZ (wM cI cB cZ g cn In Fn)) (vp_Si (fun r => ((0 ≤ v0.toInt ∧ v0.toInt ≤ 198 ∧ 1 ≤ v1.toInt ∧ v1.toInt ≤ 1000) ∧ BSB (BP apM (Fn 5) (Fn 3) (Fn 4) (Fn 87) (Fn 88) (Fn 89) (cn 83) v0 v1) (cn 1) r) ∨ (¬ (0 ≤ v0.toInt ∧ v0.toInt ≤ 198 ∧ 1 ≤ v1.toInt ∧ v1.toInt ≤ 1000) ∧ r = -1))) 0 0 (fun _ => False) := by
  refine Met.ofW (cc := cX12_beside) (maxL := 6) (ret := (some .int)) (by decide) rfl ?_
  intro p e s m args below meth c s₁ B hml hv
  obtain ⟨rfl, hP, hK⟩ := hv
  have hx := B.exec
  have hb := B.bytes
  have hr := B.returns
  have hts := atoms_spec (ws := (CWS yX12_beside cX12_beside 6 (some .int))) B.pre
  have hown : s.vm.findClass RX12 = some m.cls := findClass_of_methodNamed B.named
  have hlocks := B.notSynchronized
  have S : SF p m c cX12_beside 6 s ([.ref (g 100), .int v0, .int v1]).toArray RX12 := ⟨hx, hb, hml, hown, fun w h => hts w (List.mem_cons_of_mem _ h)⟩
  have hl := lv_entry ([.ref (g 100), .int v0, .int v1]) (n := 6) (Nat.le_of_ble_eq_true rfl)
  rw [lg_entry_eq]
  generalize (lg_sl ([.ref (g 100), .int v0, .int v1]) ++ List.replicate (6 - (lg_sl ([.ref (g 100), .int v0, .int v1])).length) Slot.unset).toArray = ls at hl ⊢
  have hl : lv_has ls 6 [(0, .ref (g 100)), (1, .int v0), (2, .int v1)] := hl
  have hi_cn : Hid (CB cn) := hI.b
  refine lv_iload_n hx hb dX12_beside_0 rfl (lvA1 hl) ?_
  refine lv_iconst (v := 0) hx hb dX12_beside_1 kic_0 ?_
  refine lv_sipush (v := 198) hx hb dX12_beside_2 (by decide) ?_
  refine vp_callSi (runS_r (As := [.int v0, .int 0, .int 198]) (rest := []) S (q_in l D cI cB cZ v0 0 198 ) kS_RX12_214 hK hP [] rfl ⟨Nat.le_of_ble_eq_true rfl, Nat.le_of_ble_eq_true rfl⟩ ⟨Nat.le_of_ble_eq_true rfl, Nat.le_of_ble_eq_true rfl⟩ rfl hl.1 rfl (Nat.le_of_ble_eq_true rfl) dX12_beside_5) (fun r_1 h_2 => ?_)
  rcases h_2 with ⟨rfl, h_2⟩ | ⟨rfl, h_2⟩
  ·
    have h_2 : 0 ≤ v0.toInt ∧ v0.toInt ≤ 198 := h_2
    refine lv_if_eq (tgt := 22) hx hb dX12_beside_8 rfl (fun h => absurd h cq_eq_1_0) (fun _ => ?_)
    refine lv_iload_n hx hb dX12_beside_11 rfl (lvA2 hl) ?_
    refine lv_iconst (v := 1) hx hb dX12_beside_12 kic_1 ?_
    refine lv_sipush (v := 1000) hx hb dX12_beside_13 (by decide) ?_
    refine vp_callSi (runS_r (As := [.int v1, .int 1, .int 1000]) (rest := []) S (q_in l D cI cB cZ v1 1 1000 ) kS_RX12_214 hK hP [] rfl ⟨Nat.le_of_ble_eq_true rfl, Nat.le_of_ble_eq_true rfl⟩ ⟨Nat.le_of_ble_eq_true rfl, Nat.le_of_ble_eq_true rfl⟩ rfl hl.1 rfl (Nat.le_of_ble_eq_true rfl) dX12_beside_16) (fun r_3 h_4 => ?_)
    rcases h_4 with ⟨rfl, h_4⟩ | ⟨rfl, h_4⟩
    ·
      have h_4 : 1 ≤ v1.toInt ∧ v1.toInt ≤ 1000 := h_4
      refine lv_if_ne (tgt := 24) hx hb dX12_beside_19 rfl (fun _ => ?_) (fun h => absurd h cq_eq_1_0)
      refine lv_iconst (v := 0) hx hb dX12_beside_24 kic_0 ?_
      refine lv_istore_n (lv' := [(3, .int 0), (0, .ref (g 100)), (1, .int v0), (2, .int v1)]) hx hb dX12_beside_25 rfl hl (ltb rfl) rfl (fun ls hl => ?_)
      refine lv_iconst (v := 0) hx hb dX12_beside_26 kic_0 ?_
      refine lv_istore (lv' := [(4, .int 0), (3, .int 0), (0, .ref (g 100)), (1, .int v0), (2, .int v1)]) hx hb dX12_beside_27 hl (ltb rfl) rfl (fun ls hl => ?_)
      have lp_29 : ∀ (n : Nat) (i29 : Nat) (x29_3 : Int32) , cn 1 - i29 < n → (i29 ≤ cn 1 ∧ (BSB (BP apM (Fn 5) (Fn 3) (Fn 4) (Fn 87) (Fn 88) (Fn 89) (cn 83) v0 v1) i29 x29_3)) → ∀ ls : Array Slot, lv_has ls 6 [(4, .int (nI i29)), (3, .int x29_3), (0, .ref (g 100)), (1, .int v0), (2, .int v1)] → W p l e (RM 1 0 0) s m ([.ref (g 100), .int v0, .int v1]).toArray below meth c s.heap [] 0 0 (MQ below (vp_Si (fun r => ((0 ≤ v0.toInt ∧ v0.toInt ≤ 198 ∧ 1 ≤ v1.toInt ∧ v1.toInt ≤ 1000) ∧ BSB (BP apM (Fn 5) (Fn 3) (Fn 4) (Fn 87) (Fn 88) (Fn 89) (cn 83) v0 v1) (cn 1) r) ∨ (¬ (0 ≤ v0.toInt ∧ v0.toInt ≤ 198 ∧ 1 ≤ v1.toInt ∧ v1.toInt ≤ 1000) ∧ r = -1))) ([.ref (g 100), .int v0, .int v1]).toArray s 0 0 (fun _ => False)) (F0 m 29 ls []) := by
        intro n29
        induction n29 with
        | zero => intros; (first | omega | (have zz0 := Hid.u hi_cn; omega))
        | succ n29 ih29 =>
          intro i29 x29_3 hmu29 hinv29 ls hl
          obtain ⟨hr29, hx29_0⟩ := hinv29
          have ti29 : (nI i29).toInt = (i29 : Int) := nI_toInt (by (first | omega | (have zz0 := Hid.u hi_cn; omega)))
          refine lv_iload hx hb dX12_beside_29 (lvA0 hl) ?_
          refine lv_aload_n hx hb dX12_beside_31 rfl (lvA2 hl) ?_
          refine gM_204 S hK hP (v := .int (nI (cn 1))) rfl dX12_beside_32 ?_
          have : (nI (cn 1)).toInt = (((cn 1) : Nat) : Int) := nI_toInt (by (first | omega | (have zz0 := Hid.u hi_cn; omega)))
          refine lv_icmp_ge (tgt := 125) hx hb dX12_beside_35 rfl (fun c_5 => ?_) (fun c_5 => ?_)
          ·
            have tc_5 : ((nI (cn 1)).toInt : Int) ≤ (nI i29).toInt := Int32.le_iff_toInt_le.mp c_5
            refine lv_iload_n hx hb dX12_beside_125 rfl (lvA1 hl) ?_
            exact W.iret (v := x29_3) hx hb hr (fun t ht hW => ⟨x29_3, rfl, (Or.inl ⟨by (first | omega | (have zz0 := Hid.u hi_cn; omega)), by have e9 : i29 = cn 1 := (by (first | omega | (have zz0 := Hid.u hi_cn; omega))); rw [← e9]; exact hx29_0⟩), ht⟩) (fun _ h => absurd h List.not_mem_nil) dX12_beside_126
          ·
            have tc_5 : ((nI i29).toInt : Int) < (nI (cn 1)).toInt := Int32.lt_iff_toInt_lt.mp (Int32.not_le.mp c_5)
            refine lv_iconst (v := 0) hx hb dX12_beside_38 kic_0 ?_
            refine lv_istore (lv' := [(5, .int 0), (4, .int (nI i29)), (3, .int x29_3), (0, .ref (g 100)), (1, .int v0), (2, .int v1)]) hx hb dX12_beside_39 hl (ltb rfl) rfl (fun ls hl => ?_)
            have lp_41 : ∀ (n : Nat) (i41 : Nat) (x41_3 : Int32) , cn 83 - i41 < n → (i41 ≤ cn 83 ∧ ((x41_3 = x29_3 ∧ ∀ j : Nat, j < i41 → ¬ ((Fn 5 i29) = 0 ∧ v1.toInt ≤ (Fn 89 j).toInt ∧ (apM (Fn 3 i29) (Fn 4 i29) (Fn 87 j) (Fn 88 j)).toInt ≤ v0.toInt)) ∨ (x41_3 = x29_3 ||| (1 <<< ((nI i29) &&& 31)) ∧ ∃ j : Nat, j < i41 ∧ ((Fn 5 i29) = 0 ∧ v1.toInt ≤ (Fn 89 j).toInt ∧ (apM (Fn 3 i29) (Fn 4 i29) (Fn 87 j) (Fn 88 j)).toInt ≤ v0.toInt)))) → ∀ ls : Array Slot, lv_has ls 6 [(5, .int (nI i41)), (4, .int (nI i29)), (3, .int x41_3), (0, .ref (g 100)), (1, .int v0), (2, .int v1)] → W p l e (RM 1 0 0) s m ([.ref (g 100), .int v0, .int v1]).toArray below meth c s.heap [] 0 0 (MQ below (vp_Si (fun r => ((0 ≤ v0.toInt ∧ v0.toInt ≤ 198 ∧ 1 ≤ v1.toInt ∧ v1.toInt ≤ 1000) ∧ BSB (BP apM (Fn 5) (Fn 3) (Fn 4) (Fn 87) (Fn 88) (Fn 89) (cn 83) v0 v1) (cn 1) r) ∨ (¬ (0 ≤ v0.toInt ∧ v0.toInt ≤ 198 ∧ 1 ≤ v1.toInt ∧ v1.toInt ≤ 1000) ∧ r = -1))) ([.ref (g 100), .int v0, .int v1]).toArray s 0 0 (fun _ => False)) (F0 m 41 ls []) := by
              intro n41
              induction n41 with
              | zero => intros; (first | omega | (have zz0 := Hid.u hi_cn; omega))
              | succ n41 ih41 =>
                intro i41 x41_3 hmu41 hinv41 ls hl
                obtain ⟨hr41, hx41_0⟩ := hinv41
                have ti41 : (nI i41).toInt = (i41 : Int) := nI_toInt (by (first | omega | (have zz0 := Hid.u hi_cn; omega)))
                refine lv_iload hx hb dX12_beside_41 (lvA0 hl) ?_
                refine lv_aload_n hx hb dX12_beside_43 rfl (lvA3 hl) ?_
                refine gM_478 S hK hP (v := .int (nI (cn 83))) rfl dX12_beside_44 ?_
                have : (nI (cn 83)).toInt = (((cn 83) : Nat) : Int) := nI_toInt (by (first | omega | (have zz0 := Hid.u hi_cn; omega)))
                refine lv_icmp_ge (tgt := 119) hx hb dX12_beside_47 rfl (fun c_6 => ?_) (fun c_6 => ?_)
                ·
                  have tc_6 : ((nI (cn 83)).toInt : Int) ≤ (nI i41).toInt := Int32.le_iff_toInt_le.mp c_6
                  refine lv_iinc (v := (nI (i29 + 1))) (lv' := [(4, .int (nI (i29 + 1))), (5, .int (nI i41)), (3, .int x41_3), (0, .ref (g 100)), (1, .int v0), (2, .int v1)]) hx hb dX12_beside_119 hl (k := 1) rfl (nI_1 _) (ltb rfl) rfl (fun ls hl => ?_)
                  refine lv_goto (tgt := 29) hx hb dX12_beside_122 rfl ?_
                  exact ih29 (i29 + 1) x41_3 (by (first | omega | (have zz0 := Hid.u hi_cn; omega))) ⟨(by (first | omega | (have zz0 := Hid.u hi_cn; omega))), (by rcases hx41_0 with ⟨e8, h8⟩ | ⟨e8, j8, h8, h7⟩; exact ⟨x29_3, hx29_0, Or.inr ⟨fun w9 => by obtain ⟨u9, j9, a9, b9, c9⟩ := w9; exact h8 j9 (by (first | omega | (have zz0 := Hid.u hi_cn; omega))) ⟨u9, b9, c9⟩, e8⟩⟩; exact ⟨x29_3, hx29_0, Or.inl ⟨⟨h7.1, j8, by (first | omega | (have zz0 := Hid.u hi_cn; omega)), h7.2.1, h7.2.2⟩, e8⟩⟩)⟩ ls (lv_sub hl [0, 2, 3, 4, 5] rfl)
                ·
                  have tc_6 : ((nI i41).toInt : Int) < (nI (cn 83)).toInt := Int32.lt_iff_toInt_lt.mp (Int32.not_le.mp c_6)
                  refine lv_aload_n hx hb dX12_beside_50 rfl (lvA3 hl) ?_
                  refine gM_16 S hK hP (v := .ref (g 5)) rfl dX12_beside_51 ?_
                  refine lv_iload hx hb dX12_beside_54 (lvA1 hl) ?_
                  have kb_1 : i29 < 10 := by (first | omega | (have zz0 := Hid.u hi_cn; omega))
                  refine ldM_5 hx hb hK hP (x := ((Fn 5) i29)) (vp_in_nI kb_1 (ltb rfl)) (nI_clamp (Nat.lt_trans kb_1 (ltb rfl))) rfl dX12_beside_56 ?_
                  refine lv_if_ne (tgt := 113) hx hb dX12_beside_57 rfl (fun c_7 => ?_) (fun c_7 => ?_)
                  ·
                    have tc_7 : (((Fn 5) i29).toInt : Int) ≠ 0 := fun q => c_7 (Int32.toInt_inj.mp q)
                    refine lv_iinc (v := (nI (i41 + 1))) (lv' := [(5, .int (nI (i41 + 1))), (4, .int (nI i29)), (3, .int x41_3), (0, .ref (g 100)), (1, .int v0), (2, .int v1)]) hx hb dX12_beside_113 hl (k := 0) rfl (nI_1 _) (ltb rfl) rfl (fun ls hl => ?_)
                    refine lv_goto (tgt := 41) hx hb dX12_beside_116 rfl ?_
                    exact ih41 (i41 + 1) x41_3 (by (first | omega | (have zz0 := Hid.u hi_cn; omega))) ⟨(by (first | omega | (have zz0 := Hid.u hi_cn; omega))), (by rcases hx41_0 with ⟨e8, h8⟩ | ⟨e8, j8, h8, h7⟩; (first | exact Or.inr ⟨by rw [e8], i41, by (first | omega | (have zz0 := Hid.u hi_cn; omega)), i0_of (by (first | omega | (have zz0 := Hid.u hi_cn; omega))), by (first | omega | (have zz0 := Hid.u hi_cn; omega)), by (first | omega | (have zz0 := Hid.u hi_cn; omega))⟩ | exact Or.inl ⟨e8, fun j h9 => if q9 : j < i41 then h8 j q9 else (by have e9 : j = i41 := (by (first | omega | (have zz0 := Hid.u hi_cn; omega))); subst e9; exact (fun w9 => by first | (first | omega | (have zz0 := Hid.u hi_cn; omega)) | (have := i0_to w9.1; (first | omega | (have zz0 := Hid.u hi_cn; omega)))))⟩); (first | exact Or.inr ⟨by rw [e8, or_or], j8, by (first | omega | (have zz0 := Hid.u hi_cn; omega)), h7⟩ | exact Or.inr ⟨e8, j8, by (first | omega | (have zz0 := Hid.u hi_cn; omega)), h7⟩))⟩ ls (lv_sub hl [0, 1, 2, 3, 4, 5] rfl)
                  ·
                    have tc_7 : (((Fn 5) i29).toInt : Int) = 0 := congrArg Int32.toInt c_7
                    refine lv_aload_n hx hb dX12_beside_60 rfl (lvA3 hl) ?_
                    refine gM_198 S hK hP (v := .ref (g 89)) rfl dX12_beside_61 ?_
                    refine lv_iload hx hb dX12_beside_64 (lvA0 hl) ?_
                    have kb_2 : i41 < 10 := by (first | omega | (have zz0 := Hid.u hi_cn; omega))
                    refine ldM_89 hx hb hK hP (x := ((Fn 89) i41)) (vp_in_nI kb_2 (ltb rfl)) (nI_clamp (Nat.lt_trans kb_2 (ltb rfl))) rfl dX12_beside_66 ?_
                    refine lv_iload_n hx hb dX12_beside_67 rfl (lvA5 hl) ?_
                    refine lv_icmp_lt (tgt := 113) hx hb dX12_beside_68 rfl (fun c_8 => ?_) (fun c_8 => ?_)
                    ·
                      have tc_8 : (((Fn 89) i41).toInt : Int) < v1.toInt := Int32.lt_iff_toInt_lt.mp c_8
                      refine lv_iinc (v := (nI (i41 + 1))) (lv' := [(5, .int (nI (i41 + 1))), (4, .int (nI i29)), (3, .int x41_3), (0, .ref (g 100)), (1, .int v0), (2, .int v1)]) hx hb dX12_beside_113 hl (k := 0) rfl (nI_1 _) (ltb rfl) rfl (fun ls hl => ?_)
                      refine lv_goto (tgt := 41) hx hb dX12_beside_116 rfl ?_
                      exact ih41 (i41 + 1) x41_3 (by (first | omega | (have zz0 := Hid.u hi_cn; omega))) ⟨(by (first | omega | (have zz0 := Hid.u hi_cn; omega))), (by rcases hx41_0 with ⟨e8, h8⟩ | ⟨e8, j8, h8, h7⟩; (first | exact Or.inr ⟨by rw [e8], i41, by (first | omega | (have zz0 := Hid.u hi_cn; omega)), i0_of (by (first | omega | (have zz0 := Hid.u hi_cn; omega))), by (first | omega | (have zz0 := Hid.u hi_cn; omega)), by (first | omega | (have zz0 := Hid.u hi_cn; omega))⟩ | exact Or.inl ⟨e8, fun j h9 => if q9 : j < i41 then h8 j q9 else (by have e9 : j = i41 := (by (first | omega | (have zz0 := Hid.u hi_cn; omega))); subst e9; exact (fun w9 => by first | (first | omega | (have zz0 := Hid.u hi_cn; omega)) | (have := i0_to w9.1; (first | omega | (have zz0 := Hid.u hi_cn; omega)))))⟩); (first | exact Or.inr ⟨by rw [e8, or_or], j8, by (first | omega | (have zz0 := Hid.u hi_cn; omega)), h7⟩ | exact Or.inr ⟨e8, j8, by (first | omega | (have zz0 := Hid.u hi_cn; omega)), h7⟩))⟩ ls (lv_sub hl [0, 1, 2, 3, 4, 5] rfl)
                    ·
                      have tc_8 : (v1.toInt : Int) ≤ ((Fn 89) i41).toInt := Int32.le_iff_toInt_le.mp (Int32.not_lt.mp c_8)
                      refine lv_aload_n hx hb dX12_beside_71 rfl (lvA3 hl) ?_
                      refine gM_7 S hK hP (v := .ref (g 3)) rfl dX12_beside_72 ?_
                      refine lv_iload hx hb dX12_beside_75 (lvA1 hl) ?_
                      refine ldM_3 hx hb hK hP (x := ((Fn 3) i29)) (vp_in_nI kb_1 (ltb rfl)) (nI_clamp (Nat.lt_trans kb_1 (ltb rfl))) rfl dX12_beside_77 ?_
                      refine lv_aload_n hx hb dX12_beside_78 rfl (lvA3 hl) ?_
                      refine gM_13 S hK hP (v := .ref (g 4)) rfl dX12_beside_79 ?_
                      refine lv_iload hx hb dX12_beside_82 (lvA1 hl) ?_
                      refine ldM_4 hx hb hK hP (x := ((Fn 4) i29)) (vp_in_nI kb_1 (ltb rfl)) (nI_clamp (Nat.lt_trans kb_1 (ltb rfl))) rfl dX12_beside_84 ?_
                      refine lv_aload_n hx hb dX12_beside_85 rfl (lvA3 hl) ?_
                      refine gM_192 S hK hP (v := .ref (g 87)) rfl dX12_beside_86 ?_
                      refine lv_iload hx hb dX12_beside_89 (lvA0 hl) ?_
                      refine ldM_87 hx hb hK hP (x := ((Fn 87) i41)) (vp_in_nI kb_2 (ltb rfl)) (nI_clamp (Nat.lt_trans kb_2 (ltb rfl))) rfl dX12_beside_91 ?_
                      refine lv_aload_n hx hb dX12_beside_92 rfl (lvA3 hl) ?_
                      refine gM_195 S hK hP (v := .ref (g 88)) rfl dX12_beside_93 ?_
                      refine lv_iload hx hb dX12_beside_96 (lvA0 hl) ?_
                      refine ldM_88 hx hb hK hP (x := ((Fn 88) i41)) (vp_in_nI kb_2 (ltb rfl)) (nI_clamp (Nat.lt_trans kb_2 (ltb rfl))) rfl dX12_beside_98 ?_
                      refine vp_callSi (runS_r (As := [.int ((Fn 3) i29), .int ((Fn 4) i29), .int ((Fn 87) i41), .int ((Fn 88) i41)]) (rest := []) S (q_apart l D cI cB cZ ((Fn 3) i29) ((Fn 4) i29) ((Fn 87) i41) ((Fn 88) i41) ) kS_RX12_360 hK hP [] rfl ⟨Nat.le_of_ble_eq_true rfl, Nat.le_of_ble_eq_true rfl⟩ ⟨Nat.le_of_ble_eq_true rfl, Nat.le_of_ble_eq_true rfl⟩ rfl hl.1 rfl (Nat.le_of_ble_eq_true rfl) dX12_beside_99) (fun r_9 h_10 => ?_)
                      subst h_10
                      refine lv_iload_n hx hb dX12_beside_102 rfl (lvA4 hl) ?_
                      refine lv_icmp_gt (tgt := 113) hx hb dX12_beside_103 rfl (fun c_11 => ?_) (fun c_11 => ?_)
                      ·
                        have tc_11 : (v0.toInt : Int) < (apM ((Fn 3) i29) ((Fn 4) i29) ((Fn 87) i41) ((Fn 88) i41)).toInt := Int32.lt_iff_toInt_lt.mp c_11
                        refine lv_iinc (v := (nI (i41 + 1))) (lv' := [(5, .int (nI (i41 + 1))), (4, .int (nI i29)), (3, .int x41_3), (0, .ref (g 100)), (1, .int v0), (2, .int v1)]) hx hb dX12_beside_113 hl (k := 0) rfl (nI_1 _) (ltb rfl) rfl (fun ls hl => ?_)
                        refine lv_goto (tgt := 41) hx hb dX12_beside_116 rfl ?_
                        exact ih41 (i41 + 1) x41_3 (by (first | omega | (have zz0 := Hid.u hi_cn; omega))) ⟨(by (first | omega | (have zz0 := Hid.u hi_cn; omega))), (by rcases hx41_0 with ⟨e8, h8⟩ | ⟨e8, j8, h8, h7⟩; (first | exact Or.inr ⟨by rw [e8], i41, by (first | omega | (have zz0 := Hid.u hi_cn; omega)), i0_of (by (first | omega | (have zz0 := Hid.u hi_cn; omega))), by (first | omega | (have zz0 := Hid.u hi_cn; omega)), by (first | omega | (have zz0 := Hid.u hi_cn; omega))⟩ | exact Or.inl ⟨e8, fun j h9 => if q9 : j < i41 then h8 j q9 else (by have e9 : j = i41 := (by (first | omega | (have zz0 := Hid.u hi_cn; omega))); subst e9; exact (fun w9 => by first | (first | omega | (have zz0 := Hid.u hi_cn; omega)) | (have := i0_to w9.1; (first | omega | (have zz0 := Hid.u hi_cn; omega)))))⟩); (first | exact Or.inr ⟨by rw [e8, or_or], j8, by (first | omega | (have zz0 := Hid.u hi_cn; omega)), h7⟩ | exact Or.inr ⟨e8, j8, by (first | omega | (have zz0 := Hid.u hi_cn; omega)), h7⟩))⟩ ls (lv_sub hl [0, 1, 2, 3, 4, 5] rfl)
                      ·
                        have tc_11 : ((apM ((Fn 3) i29) ((Fn 4) i29) ((Fn 87) i41) ((Fn 88) i41)).toInt : Int) ≤ v0.toInt := Int32.le_iff_toInt_le.mp (Int32.not_lt.mp c_11)
                        refine lv_iload_n hx hb dX12_beside_106 rfl (lvA2 hl) ?_
                        refine lv_iconst (v := 1) hx hb dX12_beside_107 kic_1 ?_
                        refine lv_iload hx hb dX12_beside_108 (lvA1 hl) ?_
                        refine lv_ishl hx hb dX12_beside_110 ?_
                        refine lv_ior hx hb dX12_beside_111 ?_
                        refine lv_istore_n (lv' := [(3, .int (x41_3 ||| (1 <<< ((nI i29) &&& 31)))), (5, .int (nI i41)), (4, .int (nI i29)), (0, .ref (g 100)), (1, .int v0), (2, .int v1)]) hx hb dX12_beside_112 rfl hl (ltb rfl) rfl (fun ls hl => ?_)
                        refine lv_iinc (v := (nI (i41 + 1))) (lv' := [(5, .int (nI (i41 + 1))), (3, .int (x41_3 ||| (1 <<< ((nI i29) &&& 31)))), (4, .int (nI i29)), (0, .ref (g 100)), (1, .int v0), (2, .int v1)]) hx hb dX12_beside_113 hl (k := 1) rfl (nI_1 _) (ltb rfl) rfl (fun ls hl => ?_)
                        refine lv_goto (tgt := 41) hx hb dX12_beside_116 rfl ?_
                        exact ih41 (i41 + 1) (x41_3 ||| (1 <<< ((nI i29) &&& 31))) (by (first | omega | (have zz0 := Hid.u hi_cn; omega))) ⟨(by (first | omega | (have zz0 := Hid.u hi_cn; omega))), (by rcases hx41_0 with ⟨e8, h8⟩ | ⟨e8, j8, h8, h7⟩; (first | exact Or.inr ⟨by rw [e8], i41, by (first | omega | (have zz0 := Hid.u hi_cn; omega)), i0_of (by (first | omega | (have zz0 := Hid.u hi_cn; omega))), by (first | omega | (have zz0 := Hid.u hi_cn; omega)), by (first | omega | (have zz0 := Hid.u hi_cn; omega))⟩ | exact Or.inl ⟨e8, fun j h9 => if q9 : j < i41 then h8 j q9 else (by have e9 : j = i41 := (by (first | omega | (have zz0 := Hid.u hi_cn; omega))); subst e9; exact (fun w9 => by first | (first | omega | (have zz0 := Hid.u hi_cn; omega)) | (have := i0_to w9.1; (first | omega | (have zz0 := Hid.u hi_cn; omega)))))⟩); (first | exact Or.inr ⟨by rw [e8, or_or], j8, by (first | omega | (have zz0 := Hid.u hi_cn; omega)), h7⟩ | exact Or.inr ⟨e8, j8, by (first | omega | (have zz0 := Hid.u hi_cn; omega)), h7⟩))⟩ ls (lv_sub hl [0, 2, 1, 3, 4, 5] rfl)
            exact lp_41 _ 0 x29_3 (Nat.lt_succ_self _) ⟨(by (first | omega | (have zz0 := Hid.u hi_cn; omega))), (Or.inl ⟨rfl, fun j h9 => absurd h9 (by (first | omega | (have zz0 := Hid.u hi_cn; omega)))⟩)⟩ ls (lv_sub hl [0, 1, 2, 3, 4, 5] rfl)
      exact lp_29 _ 0 0 (Nat.lt_succ_self _) ⟨(by (first | omega | (have zz0 := Hid.u hi_cn; omega))), rfl⟩ ls (lv_sub hl [0, 1, 2, 3, 4] rfl)
    ·
      have h_4 : ¬ (1 ≤ v1.toInt ∧ v1.toInt ≤ 1000) := h_4
      refine lv_if_ne (tgt := 24) hx hb dX12_beside_19 rfl (fun h => absurd h cq_eq_0_0) (fun _ => ?_)
      refine lv_iconst (v := (-1)) hx hb dX12_beside_22 kic_m1 ?_
      exact W.iret (v := (-1)) hx hb hr (fun t ht hW => ⟨(-1), rfl, (Or.inr ⟨by (first | omega | (have zz0 := Hid.u hi_cn; omega)), rfl⟩), ht⟩) (fun _ h => absurd h List.not_mem_nil) dX12_beside_23
  ·
    have h_2 : ¬ (0 ≤ v0.toInt ∧ v0.toInt ≤ 198) := h_2
    refine lv_if_eq (tgt := 22) hx hb dX12_beside_8 rfl (fun _ => ?_) (fun h => absurd h cq_eq_0_0)
    refine lv_iconst (v := (-1)) hx hb dX12_beside_22 kic_m1 ?_
    exact W.iret (v := (-1)) hx hb hr (fun t ht hW => ⟨(-1), rfl, (Or.inr ⟨by (first | omega | (have zz0 := Hid.u hi_cn; omega)), rfl⟩), ht⟩) (fun _ h => absurd h List.not_mem_nil) dX12_beside_23
