set_option maxRecDepth 100000 in
set_option maxHeartbeats 4000000 in
theorem q_Xcomers (l : Launch) (D : va_G) (cI cB cZ : ClassId) (zz qq vv : Nat) (bt : Nat → Int32) (g : Nat → Nat) (ad : Nat → Nat → Nat) (cn : Nat → Nat) (In : Nat → Int32) (Fn : Nat → Nat → Int32) (v0 : Int32) (hB : CBX cn) : Met l yX11_comers (CWS yX11_comers cX11_comers 4 (some .int)) (RM 3 0 0) (PBrx [.ref (g 0), .int v0] D cI cB cZ zz qq vv bt (wX cI (D.1 99) zz g ad cn In Fn)) (vp_Si (fun _ => True)) 0 0 (fun _ => False) := by
  refine Met.ofW (cc := cX11_comers) (maxL := 4) (ret := (some .int)) (by decide) rfl ?_
  intro p e s m args below meth c s₁ B hml hv
  obtain ⟨rfl, hP, hK, hXS⟩ := hv
  have hS : va_S (fun _ => False) s.heap s.heap [] := va_S.rf
  have hx := B.exec
  have hb := B.bytes
  have hr := B.returns
  have hts := atoms_spec (ws := (CWS yX11_comers cX11_comers 4 (some .int))) B.pre
  have hown : s.vm.findClass RX11 = some m.cls := findClass_of_methodNamed B.named
  have hlocks := B.notSynchronized
  have S : SF p m c cX11_comers 4 s ([.ref (g 0), .int v0]).toArray RX11 := ⟨hx, hb, hml, hown, fun w h => hts w (List.mem_cons_of_mem _ h)⟩
  have hl := lv_entry ([.ref (g 0), .int v0]) (n := 4) (Nat.le_of_ble_eq_true rfl)
  rw [lg_entry_eq]
  generalize (lg_sl ([.ref (g 0), .int v0]) ++ List.replicate (4 - (lg_sl ([.ref (g 0), .int v0])).length) Slot.unset).toArray = ls at hl ⊢
  have hl : lv_has ls 4 [(0, .ref (g 0)), (1, .int v0)] := hl
  refine lv_iconst (v := 0) hx hb dX11_comers_0 (by decide) ?_
  refine lv_istore_n (lv' := [(2, .int 0), (0, .ref (g 0)), (1, .int v0)]) hx hb dX11_comers_1 rfl hl (by decide) rfl (fun ls hl => ?_)
  refine lv_iconst (v := 0) hx hb dX11_comers_2 (by decide) ?_
  refine lv_istore_n (lv' := [(3, .int 0), (2, .int 0), (0, .ref (g 0)), (1, .int v0)]) hx hb dX11_comers_3 rfl hl (by decide) rfl (fun ls hl => ?_)
  have lp_4 : ∀ (n : Nat) (i4 : Nat) (x4_2 : Int32) , cn 10 - i4 < n → (i4 ≤ cn 10) → ∀ ls : Array Slot, lv_has ls 4 [(3, .int (nI i4)), (2, .int x4_2), (0, .ref (g 0)), (1, .int v0)] → W p l e (RM 3 0 0) s m ([.ref (g 0), .int v0]).toArray below meth c s.heap [] 0 0 (MQ below (vp_Si (fun _ => True)) ([.ref (g 0), .int v0]).toArray s 0 0 (fun _ => False)) (F0 m 4 ls []) := by
    intro n4
    induction n4 with
    | zero => intros; omega
    | succ n4 ih4 =>
      intro i4 x4_2 hmu4 hinv4 ls hl
      have hr4 := hinv4
      have ti4 : (nI i4).toInt = (i4 : Int) := nI_toInt (by omega)
      refine lv_iload_n hx hb dX11_comers_4 rfl (lv_at hl 0 rfl) ?_
      refine lv_aload_n hx hb dX11_comers_5 rfl (lv_at hl 2 rfl) ?_
      refine gf_RX11_61 S hK hP 0 xo_0 (v := .ref (g 10)) rfl dX11_comers_6 ?_
      refine vp_callSi (runV_r (As := []) (rest := [.int (nI i4)]) S (q_l_size l D cI cB cZ (g 10) (if (cn 10) = 0 then zz else ad 2 0) (In 10) (nI (cn 10))) kV_RX11_84 hK hP [24] (one_is xo_24) 24 xo_24 rfl rfl ⟨Nat.le_of_ble_eq_true rfl, Nat.le_of_ble_eq_true rfl⟩ ⟨Nat.le_of_ble_eq_true rfl, Nat.le_of_ble_eq_true rfl⟩ rfl hl.1 rfl (Nat.le_of_ble_eq_true rfl) dX11_comers_9) (fun r_1 h_2 => ?_)
      subst h_2
      have : (nI (cn 10)).toInt = (((cn 10) : Nat) : Int) := nI_toInt (by omega)
      refine lv_icmp_ge (tgt := 49) hx hb dX11_comers_12 (by decide) (fun c_3 => ?_) (fun c_3 => ?_)
      ·
        have tc_3 : ((nI (cn 10)).toInt : Int) ≤ (nI i4).toInt := Int32.le_iff_toInt_le.mp c_3
        refine lv_iload_n hx hb dX11_comers_49 rfl (lv_at hl 1 rfl) ?_
        exact W.iret (v := x4_2) hx hb hr (fun t ht hW => ⟨x4_2, rfl, trivial, ht⟩) (fun _ h => absurd h List.not_mem_nil) dX11_comers_50
      ·
        have tc_3 : ((nI i4).toInt : Int) < (nI (cn 10)).toInt := Int32.lt_iff_toInt_lt.mp (Int32.not_le.mp c_3)
        refine lv_iload_n hx hb dX11_comers_15 rfl (lv_at hl 1 rfl) ?_
        refine lv_aload_n hx hb dX11_comers_16 rfl (lv_at hl 2 rfl) ?_
        refine gf_RX11_61 S hK hP 0 xo_0 (v := .ref (g 10)) rfl dX11_comers_17 ?_
        refine lv_iload_n hx hb dX11_comers_20 rfl (lv_at hl 0 rfl) ?_
        refine va_csq (runV_rx (As := [.int (nI i4)]) (rest := [.int x4_2]) S (q_l_get l D cI cB cZ zz qq vv bt (g 10) (ad 2 0) (cn 20) (cn 10) i4 (ad 10 i4) (In 10) (fun i => if i < (cn 10) then some (ad 10 i) else none) (by omega) (if_pos (by omega)) (by omega) (by omega)) kV_RX11_87 hK hXS hS hP _ (two_is (xl_0 (by omega)) (xf_13 (k := 0) (by omega))) (va_recv hK.1 hP (ci := 0) rfl xo_24) ⟨Nat.le_of_ble_eq_true rfl, Nat.le_of_ble_eq_true rfl⟩ ⟨Nat.le_of_ble_eq_true rfl, Nat.le_of_ble_eq_true rfl⟩ rfl hl.1 rfl (Nat.le_of_ble_eq_true rfl) dX11_comers_21) (fun r_4 h_5 => ?_)
        subst h_5
        refine va_castS hx hb hown (S.2.2.2.2 _ (wT_t2 63 rfl rfl)) (xclass hK.1 (ci := 2) rfl) (va_recv hK.1 hP (ci := 2) rfl (xf_0 (by omega))) dX11_comers_24 ?_
        refine lv_iload_n hx hb dX11_comers_27 rfl (lv_at hl 3 rfl) ?_
        refine vp_callSi (runV_rxa (As := [.int v0]) (rest := [.int x4_2]) S (q_XcomesFor l D cI cB cZ zz qq vv bt g ad cn In Fn i4 v0 hB (by omega)) kV_RX11_456 hK hXS hS hP _ (xf_0 (by omega)) rfl rfl ⟨Nat.le_of_ble_eq_true rfl, Nat.le_of_ble_eq_true rfl⟩ ⟨Nat.le_of_ble_eq_true rfl, Nat.le_of_ble_eq_true rfl⟩ rfl hl.1 rfl (Nat.le_of_ble_eq_true rfl) dX11_comers_28) (fun r_6 h_7 => ?_)
        rcases h_7 with rfl | rfl
        ·
          refine lv_if_eq (tgt := 40) hx hb dX11_comers_31 (by decide) (fun _ => ?_) (fun h => absurd h (by decide))
          refine lv_iconst (v := 0) hx hb dX11_comers_40 (by decide) ?_
          refine lv_ior hx hb dX11_comers_41 ?_
          refine lv_istore_n (lv' := [(2, .int (x4_2 ||| 0)), (3, .int (nI i4)), (0, .ref (g 0)), (1, .int v0)]) hx hb dX11_comers_42 rfl hl (by decide) rfl (fun ls hl => ?_)
          refine lv_iinc (v := (nI (i4 + 1))) (lv' := [(3, .int (nI (i4 + 1))), (2, .int (x4_2 ||| 0)), (0, .ref (g 0)), (1, .int v0)]) hx hb dX11_comers_43 hl (k := 1) rfl (nI_1 _) (by decide) rfl (fun ls hl => ?_)
          refine lv_goto (tgt := 4) hx hb dX11_comers_46 (by decide) ?_
          exact ih4 (i4 + 1) (x4_2 ||| 0) (by omega) (by omega) ls (lv_sub hl [0, 1, 2, 3] rfl)
        ·
          refine lv_if_eq (tgt := 40) hx hb dX11_comers_31 (by decide) (fun h => absurd h (by decide)) (fun _ => ?_)
          refine lv_iconst (v := 1) hx hb dX11_comers_34 (by decide) ?_
          refine lv_iload_n hx hb dX11_comers_35 rfl (lv_at hl 0 rfl) ?_
          refine lv_ishl hx hb dX11_comers_36 ?_
          refine lv_goto (tgt := 41) hx hb dX11_comers_37 (by decide) ?_
          refine lv_ior hx hb dX11_comers_41 ?_
          refine lv_istore_n (lv' := [(2, .int (x4_2 ||| (1 <<< ((nI i4) &&& 31)))), (3, .int (nI i4)), (0, .ref (g 0)), (1, .int v0)]) hx hb dX11_comers_42 rfl hl (by decide) rfl (fun ls hl => ?_)
          refine lv_iinc (v := (nI (i4 + 1))) (lv' := [(3, .int (nI (i4 + 1))), (2, .int (x4_2 ||| (1 <<< ((nI i4) &&& 31)))), (0, .ref (g 0)), (1, .int v0)]) hx hb dX11_comers_43 hl (k := 1) rfl (nI_1 _) (by decide) rfl (fun ls hl => ?_)
          refine lv_goto (tgt := 4) hx hb dX11_comers_46 (by decide) ?_
          exact ih4 (i4 + 1) (x4_2 ||| (1 <<< ((nI i4) &&& 31))) (by omega) (by omega) ls (lv_sub hl [0, 1, 2, 3] rfl)
  exact lp_4 _ 0 0 (Nat.lt_succ_self _) (by omega) ls (lv_sub hl [0, 1, 2, 3] rfl)
