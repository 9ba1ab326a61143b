/-- the first day from d on that is not below b; -2: none -/
def FST (f : Nat → Int32) (d : Nat) (b r : Int32) : Prop := (∃ m : Nat, d ≤ m ∧ m < 400 ∧ (∀ j : Nat, d ≤ j → j < m → (f j).toInt < b.toInt) ∧ b.toInt ≤ (f m).toInt ∧ r = nI m) ∨ ((∀ j : Nat, d ≤ j → j < 400 → (f j).toInt < b.toInt) ∧ r = -2)
theorem atM_i {f : Nat → Int32} {n i : Nat} (h : i < n) (hn : n < 2 ^ 31) : atM f n (nI i) = f i := by
  unfold atM
  rw [nI_toInt (by omega), if_pos ⟨by omega, by omega⟩, nI_clamp (by omega)]



set_option maxRecDepth 100000 in
set_option maxHeartbeats 4000000 in
theorem q_Esets (l : Launch) (D : va_G) (cI cB cZ : ClassId) (zz qq vv : Nat) (bt : Nat → Int32) (g : Nat → Nat) (ad : Nat → Nat → Nat) (cn : Nat → Nat) (In : Nat → Int32) (Fn : Nat → Nat → Int32) (v0 v1 : Int32) (hB : CBX cn) : Met l yX11_sets (CWS yX11_sets cX11_sets 3 (some .boolean)) (RM 1 0 0) (PBrx [.ref (g 0), .int v0, .int v1] D cI cB cZ zz qq vv bt (wX cI (D.1 99) zz g ad cn In Fn)) (vp_Si (fun r => (r = 1 ∧ (atM (Fn 22) 400 v0).toInt < v1.toInt) ∨ (r = 0 ∧ ¬ (atM (Fn 22) 400 v0).toInt < v1.toInt))) 0 0 (fun _ => False) := by
  refine en_rx rfl pn_RX11 (Nat.le_of_ble_eq_true rfl) (fun p e s m below meth c hx hb hml hown S hr hlocks hnm hP hK hXS hS ls hl => ?_)
  have hl : lv_has ls 3 [(0, .ref (g 0)), (1, .int v0), (2, .int v1)] := hl
  have hb_cn : Hid (CBX cn) := hB
  replace hB : CBXh cn := hB
  refine lv_aload_n hx hb dX11_sets_0 rfl (lvA0 hl) ?_
  refine gf_RX11_47 S hK hP 0 xo_0 (v := .ref (g 8)) rfl dX11_sets_1 ?_
  refine gf_RX11_486 S hK hP 6 xo_6 (v := .ref (g 22)) rfl dX11_sets_4 ?_
  refine lv_iload_n hx hb dX11_sets_7 rfl (lvA1 hl) ?_
  refine vp_callSi (runS_r (As := [.ref (g 22), .int v0]) (rest := []) S (q_l_at l D cI cB cZ (g 22) 400 (Fn 22) v0 (by (first | omega | (have zz0 := Hid.u hb_cn; omega)))) kS_RX11_192 hK hP [9] (one_is xo_9) ⟨Nat.le_of_ble_eq_true rfl, Nat.le_of_ble_eq_true rfl⟩ ⟨Nat.le_of_ble_eq_true rfl, Nat.le_of_ble_eq_true rfl⟩ rfl hl.1 rfl (Nat.le_of_ble_eq_true rfl) dX11_sets_8) (fun r_1 h_2 => ?_)
  subst h_2
  refine lv_iload_n hx hb dX11_sets_11 rfl (lvA2 hl) ?_
  refine lv_icmp_ge (tgt := 19) hx hb dX11_sets_12 rfl (fun c_3 => ?_) (fun c_3 => ?_)
  ·
    have tc_3 : (v1.toInt : Int) ≤ (atM (Fn 22) 400 v0).toInt := Int32.le_iff_toInt_le.mp c_3
    refine lv_iconst (v := 0) hx hb dX11_sets_19 kic_0 ?_
    exact W.zret (v := 0) hx hb hr rfl (fun t ht hW => ⟨0, rfl, (Or.inr ⟨rfl, by (first | omega | (have zz0 := Hid.u hb_cn; omega))⟩), ht⟩) (fun _ h => absurd h List.not_mem_nil) dX11_sets_20
  ·
    have tc_3 : ((atM (Fn 22) 400 v0).toInt : Int) < v1.toInt := Int32.lt_iff_toInt_lt.mp (Int32.not_le.mp c_3)
    refine lv_iconst (v := 1) hx hb dX11_sets_15 kic_1 ?_
    refine lv_goto (tgt := 20) hx hb dX11_sets_16 rfl ?_
    exact W.zret (v := 1) hx hb hr rfl (fun t ht hW => ⟨1, rfl, (Or.inl ⟨rfl, by (first | omega | (have zz0 := Hid.u hb_cn; omega))⟩), ht⟩) (fun _ h => absurd h List.not_mem_nil) dX11_sets_20
