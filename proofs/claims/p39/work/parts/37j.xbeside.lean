def wyX (x y u v : Int32) : Int32 := (if 0 ≤ (x - u) then (x - u) else 0 - (x - u)) + (if 0 ≤ (y - v) then (y - v) else 0 - (y - v))
theorem ab_eq {x u : Int32} (h1 : 0 ≤ x.toInt) (h2 : x.toInt ≤ 99) (h3 : 0 ≤ u.toInt) (h4 : u.toInt ≤ 99) : (if 0 ≤ (x - u) then (x - u) else 0 - (x - u)) = (if x < u then u - x else x - u) := by
  have e : (x - u).toInt = x.toInt - u.toInt := by
    rw [Int32.toInt_sub]
    exact Int.bmod_eq_of_le (by show -(2 ^ 31 : Int) ≤ x.toInt - u.toInt; omega) (by show x.toInt - u.toInt < (2 ^ 31 : Int); omega)
  have z : (0 : Int32).toInt = 0 := rfl
  by_cases q : x < u
  · have q2 := Int32.lt_iff_toInt_lt.mp q
    rw [if_pos q, if_neg (fun w => by have := Int32.le_iff_toInt_le.mp w; omega), Int32.zero_sub, Int32.neg_sub]
  · have q2 : u.toInt ≤ x.toInt := Int.not_lt.mp (fun w => q (Int32.lt_iff_toInt_lt.mpr w))
    rw [if_neg q, if_pos (Int32.le_iff_toInt_le.mpr (by omega))]
/-- the k-th gives nothing and one of the n is no further than v, with b at least -/
def BP (W : Int32 → Int32 → Int32 → Int32 → Int32) (u x y f g h : Nat → Int32) (n : Nat) (v b : Int32) (k : Nat) : Prop := u k = 0 ∧ ∃ j : Nat, j < n ∧ b.toInt ≤ (h j).toInt ∧ (W (x k) (y k) (f j) (g j)).toInt ≤ v.toInt
/-- the bits of those of which P holds -/
def BSB (P : Nat → Prop) : Nat → Int32 → Prop
  | 0, r => r = 0
  | n + 1, r => ∃ x : Int32, BSB P n x ∧ ((P n ∧ r = x ||| (1 <<< ((nI n) &&& 31))) ∨ (¬ P n ∧ r = x))
theorem BSB.un {P Q : Nat → Prop} : ∀ {n : Nat} {r r2 : Int32}, (∀ k : Nat, k < n → (P k ↔ Q k)) → BSB P n r → BSB Q n r2 → r = r2
  | 0, _, _, _, h, h2 => Eq.trans h (Eq.symm h2)
  | n + 1, r, r2, e, ⟨x, a, b⟩, ⟨y, a2, b2⟩ => by
    have exy := BSB.un (fun k hk => e k (by omega)) a a2
    have en := e n (by omega)
    subst exy
    rcases b with ⟨p, b⟩ | ⟨p, b⟩ <;> rcases b2 with ⟨q, b2⟩ | ⟨q, b2⟩
    · rw [b, b2]
    · exact absurd (en.mp p) q
    · exact absurd (en.mpr q) p
    · rw [b, b2]
set_option maxRecDepth 100000 in
set_option maxHeartbeats 4000000 in
theorem q_Eway (l : Launch) (D : va_G) (cI cB cZ : ClassId) (v0 v1 v2 v3 : Int32)  : Met l yX10_way (CWS yX10_way cX10_way 4 (some .int)) (RM 1 0 0) (PBr [.int v0, .int v1, .int v2, .int v3] D cI cB cZ []) (vp_Si (fun r => r = wyX v0 v1 v2 v3)) 0 0 (fun _ => False) := by
  refine en_r rfl pn_RX10 (Nat.le_of_ble_eq_true rfl) (fun p e s m below meth c hx hb hml hown S hr hlocks hnm hP hK hS ls hl => ?_)
  have hl : lv_has ls 4 [(0, .int v0), (1, .int v1), (2, .int v2), (3, .int v3)] := hl
  refine lv_iload_n hx hb (oc_26 0 shX10_way_0) rfl (lvA0 hl) ?_
  refine lv_iload_n hx hb (oc_28 1 (aq_1 shX10_way_0)) rfl (lvA2 hl) ?_
  refine lv_isub hx hb (oc_100 2 (aq_2 shX10_way_0)) ?_
  refine va_mabs hx hb (by rw [hml]; exact hl.1.symm) hown (S.2.2.2.2 _ (wk4_10 4 rfl rfl)) (S.2.2.2.2 _ (wk4_10 5 rfl rfl)) (S.2.2.2.2 _ (wk1_0 3 rfl rfl)) (S.2.2.2.2 _ (wk4_10 6 rfl rfl)) (Nat.le_of_ble_eq_true rfl) (Nat.le_of_ble_eq_true rfl) (Nat.le_of_ble_eq_true rfl) (Nat.le_of_ble_eq_true rfl) (oc_184 3 (aq_3 shX10_way_0) uw_0_30) ?_
  refine lv_iload_n hx hb (oc_27 6 (aq_6 shX10_way_0)) rfl (lvA1 hl) ?_
  refine lv_iload_n hx hb (oc_29 7 (aq_7 shX10_way_0)) rfl (lvA3 hl) ?_
  refine lv_isub hx hb (oc_100 8 (aq_8 shX10_way_0)) ?_
  refine va_mabs hx hb (by rw [hml]; exact hl.1.symm) hown (S.2.2.2.2 _ (wk4_10 4 rfl rfl)) (S.2.2.2.2 _ (wk4_10 5 rfl rfl)) (S.2.2.2.2 _ (wk1_0 3 rfl rfl)) (S.2.2.2.2 _ (wk4_10 6 rfl rfl)) (Nat.le_of_ble_eq_true rfl) (Nat.le_of_ble_eq_true rfl) (Nat.le_of_ble_eq_true rfl) (Nat.le_of_ble_eq_true rfl) (oc_184 9 (aq_9 shX10_way_0) uw_0_30) ?_
  refine lv_iadd hx hb (oc_96 12 (aq_12 shX10_way_0)) ?_
  exact W.iret (v := ((if 0 ≤ (v0 - v2) then (v0 - v2) else 0 - (v0 - v2)) + (if 0 ≤ (v1 - v3) then (v1 - v3) else 0 - (v1 - v3)))) hx hb hr (fun t ht hW => ⟨((if 0 ≤ (v0 - v2) then (v0 - v2) else 0 - (v0 - v2)) + (if 0 ≤ (v1 - v3) then (v1 - v3) else 0 - (v1 - v3))), rfl, rfl, ht⟩) (fun _ h => absurd h List.not_mem_nil) (oc_172 13 (aq_13 shX10_way_0))
