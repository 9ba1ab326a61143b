set_option maxRecDepth 100000 in
set_option maxHeartbeats 4000000 in
theorem q_XshortOf (l : Launch) (D : va_G) (cI cB cZ : ClassId) (zz qq vv : Nat) (bt : Nat → Int32) (g : Nat → Nat) (ad : Nat → Nat → Nat) (cn : Nat → Nat) (In : Nat → Int32) (Fn : Nat → Nat → Int32) (k0 : Nat) (v0 : Int32) (hB : CBX cn) (hk : k0 < cn 11) : Met l yX2_shortOf (CWS yX2_shortOf cX2_shortOf 2 (some .int)) (RM 1 0 0) (PBrx [.ref (ad 11 k0), .int v0] D cI cB cZ zz qq vv bt (wX cI (D.1 99) zz g ad cn In Fn)) (vp_Si (fun _ => True)) 0 0 (fun _ => False) := by
  refine Met.ofW (cc := cX2_shortOf) (maxL := 2) (ret := (some .int)) (by decide) rfl ?_
  intro p e s m args below meth c s₁ B hml hv
  obtain ⟨rfl, hP, hK, hXS⟩ := hv
  have hS : va_S (fun _ => False) s.heap s.heap [] := va_S.rf
  have hx := B.exec
  have hb := B.bytes
  have hr := B.returns
  have hts := atoms_spec (ws := (CWS yX2_shortOf cX2_shortOf 2 (some .int))) B.pre
  have hown : s.vm.findClass RX2 = some m.cls := findClass_of_methodNamed B.named
  have hlocks := B.notSynchronized
  have S : SF p m c cX2_shortOf 2 s ([.ref (ad 11 k0), .int v0]).toArray RX2 := ⟨hx, hb, hml, hown, fun w h => hts w (List.mem_cons_of_mem _ h)⟩
  have hl := lv_entry ([.ref (ad 11 k0), .int v0]) (n := 2) (Nat.le_of_ble_eq_true rfl)
  rw [lg_entry_eq]
  generalize (lg_sl ([.ref (ad 11 k0), .int v0]) ++ List.replicate (2 - (lg_sl ([.ref (ad 11 k0), .int v0])).length) Slot.unset).toArray = ls at hl ⊢
  have hl : lv_has ls 2 [(0, .ref (ad 11 k0)), (1, .int v0)] := hl
  refine lv_iconst (v := 0) hx hb dX2_shortOf_0 (by decide) ?_
  refine lv_iload_n hx hb dX2_shortOf_1 rfl (lv_at hl 1 rfl) ?_
  refine lv_aload_n hx hb dX2_shortOf_2 rfl (lv_at hl 0 rfl) ?_
  refine gf_RX2_16 S hK hP _ (xf_1 (by omega)) (v := .int ((Fn 122) k0)) rfl dX2_shortOf_3 ?_
  refine lv_isub hx hb dX2_shortOf_6 ?_
  refine lv_iload_n hx hb dX2_shortOf_7 rfl (lv_at hl 1 rfl) ?_
  refine lv_bipush (v := 10) hx hb dX2_shortOf_8 (by decide) ?_
  refine lv_idiv hx hb dX2_shortOf_10 (by decide) ?_
  refine lv_isub hx hb dX2_shortOf_11 ?_
  refine va_mmax hx hb (by rw [hml]; exact hl.1.symm) hown (S.2.2.2.2 _ (wT_t3 14 rfl rfl)) (S.2.2.2.2 _ (wT_t1 42 rfl rfl)) (S.2.2.2.2 _ (wT_t1 3 rfl rfl)) (S.2.2.2.2 _ (wT_t1 43 rfl rfl)) (Nat.le_of_ble_eq_true rfl) (Nat.le_of_ble_eq_true rfl) (Nat.le_of_ble_eq_true rfl) (Nat.le_of_ble_eq_true rfl) dX2_shortOf_12 ?_
  exact W.iret (v := (if 0 < ((v0 - ((Fn 122) k0)) - (v0 / 10)) then ((v0 - ((Fn 122) k0)) - (v0 / 10)) else 0)) hx hb hr (fun t ht hW => ⟨(if 0 < ((v0 - ((Fn 122) k0)) - (v0 / 10)) then ((v0 - ((Fn 122) k0)) - (v0 / 10)) else 0), rfl, trivial, ht⟩) (fun _ h => absurd h List.not_mem_nil) dX2_shortOf_15
