set_option maxRecDepth 100000 in
set_option maxHeartbeats 4000000 in
theorem q_Xdivisor (l : Launch) (D : va_G) (cI cB cZ : ClassId) (v0 v1 : Int64)  : Met l yX11_divisor (CWS yX11_divisor cX11_divisor 7 (some .long)) (RM 0 0 0) (PBr [.long v0, .long v1] D cI cB cZ []) (vp_Sl (fun _ => True)) 0 0 (fun _ => False) := by
  refine Met.ofW (cc := cX11_divisor) (maxL := 7) (ret := (some .long)) (by decide) rfl ?_
  intro p e s m args below meth c s₁ B hml hv
  obtain ⟨rfl, hP, hK⟩ := hv
  have hx := B.exec
  have hb := B.bytes
  have hr := B.returns
  have hts := atoms_spec (ws := (CWS yX11_divisor cX11_divisor 7 (some .long))) B.pre
  have hown : s.vm.findClass RX11 = some m.cls := findClass_of_methodNamed B.named
  have hlocks := B.notSynchronized
  have S : SF p m c cX11_divisor 7 s ([.long v0, .long v1]).toArray RX11 := ⟨hx, hb, hml, hown, fun w h => hts w (List.mem_cons_of_mem _ h)⟩
  have hl := lv_entry ([.long v0, .long v1]) (n := 7) (Nat.le_of_ble_eq_true rfl)
  rw [lg_entry_eq]
  generalize (lg_sl ([.long v0, .long v1]) ++ List.replicate (7 - (lg_sl ([.long v0, .long v1])).length) Slot.unset).toArray = ls at hl ⊢
  have hl : lv_has ls 7 [(0, .long v0), (2, .long v1)] := hl
  refine lv_iconst (v := 0) hx hb dX11_divisor_0 (by decide) ?_
  refine lv_istore (lv' := [(4, .int 0), (0, .long v0), (2, .long v1)]) hx hb dX11_divisor_1 hl (by decide) rfl (fun ls hl => ?_)
  have lp_3 : ∀ (n : Nat) (i3 : Nat) (x3_0 : Int64) (x3_2 : Int64) , 200 - i3 < n → (i3 ≤ 200) → ∀ ls : Array Slot, lv_has ls 7 [(4, .int (nI i3)), (0, .long x3_0), (2, .long x3_2)] → W p l e (RM 0 0 0) s m ([.long v0, .long v1]).toArray below meth c s.heap [] 0 0 (MQ below (vp_Sl (fun _ => True)) ([.long v0, .long v1]).toArray s 0 0 (fun _ => False)) (F0 m 3 ls []) := by
    intro n3
    induction n3 with
    | zero => intros; omega
    | succ n3 ih3 =>
      intro i3 x3_0 x3_2 hmu3 hinv3 ls hl
      have hr3 := hinv3
      have ti3 : (nI i3).toInt = (i3 : Int) := nI_toInt (by omega)
      refine lv_iload hx hb dX11_divisor_3 (lv_at hl 0 rfl) ?_
      refine lv_sipush (v := 200) hx hb dX11_divisor_5 (by decide) ?_
      refine lv_icmp_ge (tgt := 33) hx hb dX11_divisor_8 (by decide) (fun c_1 => ?_) (fun c_1 => ?_)
      ·
        have tc_1 : (200 : Int) ≤ (nI i3).toInt := Int32.le_iff_toInt_le.mp c_1
        refine lv_lload_n hx hb dX11_divisor_33 rfl (lv_at hl 1 rfl) ?_
        exact W.lret (v := x3_0) hx hb hr (fun t ht hW => ⟨x3_0, rfl, trivial, ht⟩) (fun _ h => absurd h List.not_mem_nil) dX11_divisor_34
      ·
        have tc_1 : ((nI i3).toInt : Int) < 200 := Int32.lt_iff_toInt_lt.mp (Int32.not_le.mp c_1)
        refine lv_lload_n hx hb dX11_divisor_11 rfl (lv_at hl 2 rfl) ?_
        refine lv_lconst (v := 0) hx hb dX11_divisor_12 (by decide) ?_
        refine W.lcmp hx hb dX11_divisor_13 ?_
        refine lv_topi (fun y_2 ey_2 => ?_)
        have zy_2 : y_2 = 0 ↔ x3_2 = 0 := lcmp0 ey_2
        refine lv_if_eq (tgt := 33) hx hb dX11_divisor_14 (by decide) (fun c_3 => ?_) (fun c_3 => ?_)
        ·
          have tc_3 : (y_2.toInt : Int) = 0 := congrArg Int32.toInt c_3
          refine lv_lload_n hx hb dX11_divisor_33 rfl (lv_at hl 1 rfl) ?_
          exact W.lret (v := x3_0) hx hb hr (fun t ht hW => ⟨x3_0, rfl, trivial, ht⟩) (fun _ h => absurd h List.not_mem_nil) dX11_divisor_34
        ·
          have tc_3 : (y_2.toInt : Int) ≠ 0 := fun q => c_3 (Int32.toInt_inj.mp q)
          refine lv_lload_n hx hb dX11_divisor_17 rfl (lv_at hl 1 rfl) ?_
          refine lv_lload_n hx hb dX11_divisor_18 rfl (lv_at hl 2 rfl) ?_
          refine lv_lrem hx hb dX11_divisor_19 (fun q => absurd (Iff.mpr (by assumption) q) (by assumption)) ?_
          refine lv_lstore (lv' := [(5, .long (x3_0 - x3_0 / x3_2 * x3_2)), (4, .int (nI i3)), (0, .long x3_0), (2, .long x3_2)]) hx hb dX11_divisor_20 hl (by decide) rfl (fun ls hl => ?_)
          refine lv_lload_n hx hb dX11_divisor_22 rfl (lv_at hl 3 rfl) ?_
          refine lv_lstore_n (lv' := [(0, .long x3_2), (5, .long (x3_0 - x3_0 / x3_2 * x3_2)), (4, .int (nI i3)), (2, .long x3_2)]) hx hb dX11_divisor_23 rfl hl (by decide) rfl (fun ls hl => ?_)
          refine lv_lload hx hb dX11_divisor_24 (lv_at hl 1 rfl) ?_
          refine lv_lstore_n (lv' := [(2, .long (x3_0 - x3_0 / x3_2 * x3_2)), (0, .long x3_2), (5, .long (x3_0 - x3_0 / x3_2 * x3_2)), (4, .int (nI i3))]) hx hb dX11_divisor_26 rfl hl (by decide) rfl (fun ls hl => ?_)
          refine lv_iinc (v := (nI (i3 + 1))) (lv' := [(4, .int (nI (i3 + 1))), (2, .long (x3_0 - x3_0 / x3_2 * x3_2)), (0, .long x3_2), (5, .long (x3_0 - x3_0 / x3_2 * x3_2))]) hx hb dX11_divisor_27 hl (k := 3) rfl (nI_1 _) (by decide) rfl (fun ls hl => ?_)
          refine lv_goto (tgt := 3) hx hb dX11_divisor_30 (by decide) ?_
          exact ih3 (i3 + 1) x3_2 (x3_0 - x3_0 / x3_2 * x3_2) (by omega) (by omega) ls (lv_sub hl [0, 2, 1] rfl)
  exact lp_3 _ 0 v0 v1 (Nat.lt_succ_self _) (by omega) ls (lv_sub hl [0, 1, 2] rfl)
