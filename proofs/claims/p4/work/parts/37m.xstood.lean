def stv (h : Nat → Int32) : Option Nat → Int32
  | none => -2
  | some m => if h m = -1 then -2 else h m
section STV
variable {h h' : Nat → Int32} {o : Option Nat} {m n : Nat}
theorem stv_n (e : o = none) : stv h o = -2 := by subst e; rfl
theorem stv_1 (e : o = some m) (q : h m = -1) : stv h o = -2 := by subst e; exact if_pos q
theorem stv_2 (e : o = some m) (q : ¬ h m = -1) : stv h o = h m := by subst e; exact if_neg q
theorem stv_eq (l : ∀ m : Nat, o = some m → m < n) (e : ∀ i : Nat, i < n → h i = h' i) : stv h o = stv h' o := by
  cases o with
  | none => rfl
  | some m => show (if h m = -1 then -2 else h m) = (if h' m = -1 then -2 else h' m); rw [e m (l m rfl)]
end STV
theorem m1_of {x : Int32} (h : x.toInt = -1) : x = -1 := Int32.toInt_inj.mp h
theorem m1_to {x : Int32} (h : x = -1) : x.toInt = -1 := by subst h; rfl

set_option maxRecDepth 100000 in
theorem gf_RX11_516 {p : Program} {l : Launch} {e : Env} {R : Room} {s : State} {m : MethodId} {args : Array Value} {below : List Frame} {meth : Method} {c : Code} {H : Heap} {locs : List Loc} {cells slots : Nat} {Q : State → Prop} {cc : ByteArray} {nL pc : Nat} {D : va_G} {cI cB cZ : ClassId} {ws : va_W} {rest : List Value} {ls : Array Slot} {a : Nat} {fs : List Value} {v : Value} (S : SF p m c cc nL s args RX11) (hK : KK D cI cB cZ s) (hP : va_P D vwCl ws H) (q0 : Nat) (he : ws[q0]? = some (a, .inr (4, fs))) (hv : fs[1]? = some v) (hdg : decode cc pc = .ok (.getfield 516, 3)) (kk : W p l e R s m args below meth c H locs cells slots Q (F0 m (pc + 3) ls (v :: rest))) : W p l e R s m args below meth c H locs cells slots Q (F0 m pc ls (.ref a :: rest)) :=
  va_get (C := RX3) (T := TX3) (N := 3) S.1 S.2.1 S.2.2.2.2 hin_RX3 S.2.2.2.1 hK.1 hP q0 he rfl 1 (by decide) (S.2.2.2.2 _ (wT_tab 1248 rfl rfl)) (fun _ h9 => h9) hv hdg kk
set_option maxRecDepth 100000 in
theorem ldM_60 {p : Program} {l : Launch} {e : Env} {R : Room} {s : State} {m : MethodId} {args : Array Value} {below : List Frame} {meth : Method} {c : Code} {H : Heap} {locs : List Loc} {cells slots : Nat} {Q : State → Prop} {cc : ByteArray} {pc : Nat} {D : va_G} {cI cB cZ : ClassId} {g cn : Nat → Nat} {In : Nat → Int32} {Fn : Nat → Nat → Int32} {rest : List Value} {ls : Array Slot} {i : Int32} {ix : Nat} {x : Int32} (hx : p.tables.exec = Jvm.exec) (hb : c.code = cc) (hK : KK D cI cB cZ s) (hP : va_P D vwCl (wM cI cB cZ g cn In Fn) H) (hin : vp_in i 60) (hix : i.toNatClampNeg = ix) (hv : Fn 60 ix = x) (hdg : decode cc pc = .ok (.iaload, 1)) (kk : W p l e R s m args below meth c H locs cells slots Q (F0 m (pc + 1) ls (.int x :: rest))) : W p l e R s m args below meth c H locs cells slots Q (F0 m pc ls (.int i :: .ref (g 60) :: rest)) := by
  subst hix; subst hv
  exact va_iald hx hb hK.1 hP 41 0 rfl rfl hin hdg kk
theorem dX11_stood_0 : decode cX11_stood 0 = .ok (.iload_n 1, 1) := by decide +kernel
theorem dX11_stood_1 : decode cX11_stood 1 = .ok (.iconst 0, 1) := by decide +kernel
theorem dX11_stood_2 : decode cX11_stood 2 = .ok (.aload_n 0, 1) := by decide +kernel
theorem dX11_stood_3 : decode cX11_stood 3 = .ok (.getfield 502, 3) := by decide +kernel
theorem dX11_stood_6 : decode cX11_stood 6 = .ok (.iconst 1, 1) := by decide +kernel
theorem dX11_stood_7 : decode cX11_stood 7 = .ok (.isub, 1) := by decide +kernel
theorem dX11_stood_8 : decode cX11_stood 8 = .ok (.invokestatic 80, 3) := by decide +kernel
theorem dX11_stood_11 : decode cX11_stood 11 = .ok (.ifCond .eq 10, 3) := by decide +kernel
theorem dX11_stood_14 : decode cX11_stood 14 = .ok (.iload_n 2, 1) := by decide +kernel
theorem dX11_stood_15 : decode cX11_stood 15 = .ok (.invokestatic 99, 3) := by decide +kernel
theorem dX11_stood_18 : decode cX11_stood 18 = .ok (.ifCond .ne 5, 3) := by decide +kernel
theorem dX11_stood_23 : decode cX11_stood 23 = .ok (.aload_n 0, 1) := by decide +kernel
theorem dX11_stood_24 : decode cX11_stood 24 = .ok (.iload_n 1, 1) := by decide +kernel
theorem dX11_stood_25 : decode cX11_stood 25 = .ok (.iload_n 2, 1) := by decide +kernel
theorem dX11_stood_26 : decode cX11_stood 26 = .ok (.invokevirtual 509, 3) := by decide +kernel
theorem dX11_stood_29 : decode cX11_stood 29 = .ok (.astore_n 3, 1) := by decide +kernel
theorem dX11_stood_30 : decode cX11_stood 30 = .ok (.aload_n 3, 1) := by decide +kernel
theorem dX11_stood_31 : decode cX11_stood 31 = .ok (.ifnull 11, 3) := by decide +kernel
theorem dX11_stood_34 : decode cX11_stood 34 = .ok (.aload_n 3, 1) := by decide +kernel
theorem dX11_stood_35 : decode cX11_stood 35 = .ok (.getfield 516, 3) := by decide +kernel
theorem dX11_stood_38 : decode cX11_stood 38 = .ok (.iconst (-1), 1) := by decide +kernel
theorem dX11_stood_39 : decode cX11_stood 39 = .ok (.if_icmp .ne 8, 3) := by decide +kernel
theorem dX11_stood_47 : decode cX11_stood 47 = .ok (.aload_n 3, 1) := by decide +kernel
theorem dX11_stood_48 : decode cX11_stood 48 = .ok (.getfield 516, 3) := by decide +kernel
theorem dX11_stood_51 : decode cX11_stood 51 = .ok (.ireturn, 1) := by decide +kernel
theorem dX11_stood_42 : decode cX11_stood 42 = .ok (.bipush (-2), 2) := by decide +kernel
theorem dX11_stood_44 : decode cX11_stood 44 = .ok (.goto 7, 3) := by decide +kernel
theorem dX11_stood_21 : decode cX11_stood 21 = .ok (.iconst (-1), 1) := by decide +kernel
theorem dX11_stood_22 : decode cX11_stood 22 = .ok (.ireturn, 1) := by decide +kernel
theorem dX12_stood_0 : decode cX12_stood 0 = .ok (.aload_n 0, 1) := by decide +kernel
theorem dX12_stood_1 : decode cX12_stood 1 = .ok (.iload_n 1, 1) := by decide +kernel
theorem dX12_stood_2 : decode cX12_stood 2 = .ok (.invokevirtual 413, 3) := by decide +kernel
theorem dX12_stood_5 : decode cX12_stood 5 = .ok (.ifCond .eq 10, 3) := by decide +kernel
theorem dX12_stood_8 : decode cX12_stood 8 = .ok (.iload_n 2, 1) := by decide +kernel
theorem dX12_stood_9 : decode cX12_stood 9 = .ok (.invokestatic 341, 3) := by decide +kernel
theorem dX12_stood_12 : decode cX12_stood 12 = .ok (.ifCond .ne 5, 3) := by decide +kernel
theorem dX12_stood_17 : decode cX12_stood 17 = .ok (.aload_n 0, 1) := by decide +kernel
theorem dX12_stood_18 : decode cX12_stood 18 = .ok (.iload_n 1, 1) := by decide +kernel
theorem dX12_stood_19 : decode cX12_stood 19 = .ok (.iload_n 2, 1) := by decide +kernel
theorem dX12_stood_20 : decode cX12_stood 20 = .ok (.invokevirtual 416, 3) := by decide +kernel
theorem dX12_stood_23 : decode cX12_stood 23 = .ok (.istore_n 3, 1) := by decide +kernel
theorem dX12_stood_24 : decode cX12_stood 24 = .ok (.iload_n 3, 1) := by decide +kernel
theorem dX12_stood_25 : decode cX12_stood 25 = .ok (.iconst (-1), 1) := by decide +kernel
theorem dX12_stood_26 : decode cX12_stood 26 = .ok (.if_icmp .eq 13, 3) := by decide +kernel
theorem dX12_stood_39 : decode cX12_stood 39 = .ok (.bipush (-2), 2) := by decide +kernel
theorem dX12_stood_41 : decode cX12_stood 41 = .ok (.goto 9, 3) := by decide +kernel
theorem dX12_stood_50 : decode cX12_stood 50 = .ok (.ireturn, 1) := by decide +kernel
theorem dX12_stood_29 : decode cX12_stood 29 = .ok (.aload_n 0, 1) := by decide +kernel
theorem dX12_stood_30 : decode cX12_stood 30 = .ok (.getfield 132, 3) := by decide +kernel
theorem dX12_stood_33 : decode cX12_stood 33 = .ok (.iload_n 3, 1) := by decide +kernel
theorem dX12_stood_34 : decode cX12_stood 34 = .ok (.iaload, 1) := by decide +kernel
theorem dX12_stood_35 : decode cX12_stood 35 = .ok (.iconst (-1), 1) := by decide +kernel
theorem dX12_stood_36 : decode cX12_stood 36 = .ok (.if_icmp .ne 8, 3) := by decide +kernel
theorem dX12_stood_44 : decode cX12_stood 44 = .ok (.aload_n 0, 1) := by decide +kernel
theorem dX12_stood_45 : decode cX12_stood 45 = .ok (.getfield 132, 3) := by decide +kernel
theorem dX12_stood_48 : decode cX12_stood 48 = .ok (.iload_n 3, 1) := by decide +kernel
theorem dX12_stood_49 : decode cX12_stood 49 = .ok (.iaload, 1) := by decide +kernel
theorem dX12_stood_15 : decode cX12_stood 15 = .ok (.iconst (-1), 1) := by decide +kernel
theorem dX12_stood_16 : decode cX12_stood 16 = .ok (.ireturn, 1) := by decide +kernel
set_option maxRecDepth 100000 in
set_option maxHeartbeats 4000000 in
theorem q_Estood (l : Launch) (D : va_G) (cI cB cZ : ClassId) (zz qq vv : Nat) (bt : Nat → Int32) (g : Nat → Nat) (ad : Nat → Nat → Nat) (cn : Nat → Nat) (In : Nat → Int32) (Fn : Nat → Nat → Int32) (v0 v1 : Int32) (hB : CBX cn) : Met l yX11_stood (CWS yX11_stood cX11_stood 4 (some .int)) (RM 4 0 0) (PBrx [.ref (g 0), .int v0, .int v1] D cI cB cZ zz qq vv bt (wX cI (D.1 99) zz g ad cn In Fn)) (vp_Si (fun r => ((0 ≤ v0.toInt ∧ v0.toInt < (cn 2 : Int) ∧ 0 ≤ v1.toInt ∧ v1.toInt ≤ 399) ∧ r = stv (Fn 181) (lat (Fn 180) (Fn 182) v0 v1 (cn 15))) ∨ (¬ (0 ≤ v0.toInt ∧ v0.toInt < (cn 2 : Int) ∧ 0 ≤ v1.toInt ∧ v1.toInt ≤ 399) ∧ r = -1))) 0 0 (fun _ => False) := by
  refine Met.ofW (cc := cX11_stood) (maxL := 4) (ret := (some .int)) (by decide) rfl ?_
  intro p e s m args below meth c s₁ B hml hv
  obtain ⟨rfl, hP, hK, hXS⟩ := hv
  have hS : va_S (fun _ => False) s.heap s.heap [] := va_S.rf
  have hx := B.exec
  have hb := B.bytes
  have hr := B.returns
  have hts := atoms_spec (ws := (CWS yX11_stood cX11_stood 4 (some .int))) B.pre
  have hown : s.vm.findClass RX11 = some m.cls := findClass_of_methodNamed B.named
  have hlocks := B.notSynchronized
  have S : SF p m c cX11_stood 4 s ([.ref (g 0), .int v0, .int v1]).toArray RX11 := ⟨hx, hb, hml, hown, fun w h => hts w (List.mem_cons_of_mem _ h)⟩
  have hl := lv_entry ([.ref (g 0), .int v0, .int v1]) (n := 4) (Nat.le_of_ble_eq_true rfl)
  rw [lg_entry_eq]
  generalize (lg_sl ([.ref (g 0), .int v0, .int v1]) ++ List.replicate (4 - (lg_sl ([.ref (g 0), .int v0, .int v1])).length) Slot.unset).toArray = ls at hl ⊢
  have hl : lv_has ls 4 [(0, .ref (g 0)), (1, .int v0), (2, .int v1)] := hl
  refine lv_iload_n hx hb dX11_stood_0 rfl (lv_at hl 1 rfl) ?_
  refine lv_iconst (v := 0) hx hb dX11_stood_1 (by decide) ?_
  refine lv_aload_n hx hb dX11_stood_2 rfl (lv_at hl 0 rfl) ?_
  refine gf_RX11_502 S hK hP 0 xo_0 (v := .int (nI (cn 2))) rfl dX11_stood_3 ?_
  refine lv_iconst (v := 1) hx hb dX11_stood_6 (by decide) ?_
  refine lv_isub hx hb dX11_stood_7 ?_
  have tm1 := nI_mt (c := cn 2) (by omega)
  refine vp_callSi (runS_r (As := [.int v0, .int 0, .int ((nI (cn 2)) - 1)]) (rest := []) S (q_l_within l D cI cB cZ v0 0 ((nI (cn 2)) - 1)) kS_RX11_80 hK hP [] rfl ⟨Nat.le_of_ble_eq_true rfl, Nat.le_of_ble_eq_true rfl⟩ ⟨Nat.le_of_ble_eq_true rfl, Nat.le_of_ble_eq_true rfl⟩ rfl hl.1 rfl (Nat.le_of_ble_eq_true rfl) dX11_stood_8) (fun r_1 h_2 => ?_)
  rcases h_2 with ⟨rfl, h_2⟩ | ⟨rfl, h_2⟩
  ·
    have h_2 : 0 ≤ v0.toInt ∧ v0.toInt ≤ ((nI (cn 2)) - 1).toInt := h_2
    refine lv_if_eq (tgt := 21) hx hb dX11_stood_11 (by decide) (fun h => absurd h (by decide)) (fun _ => ?_)
    refine lv_iload_n hx hb dX11_stood_14 rfl (lv_at hl 2 rfl) ?_
    refine vp_callSi (runS_r (As := [.int v1]) (rest := []) S (q_l_isDay l D cI cB cZ v1) kS_RX11_99 hK hP [] rfl ⟨Nat.le_of_ble_eq_true rfl, Nat.le_of_ble_eq_true rfl⟩ ⟨Nat.le_of_ble_eq_true rfl, Nat.le_of_ble_eq_true rfl⟩ rfl hl.1 rfl (Nat.le_of_ble_eq_true rfl) dX11_stood_15) (fun r_3 h_4 => ?_)
    rcases h_4 with ⟨rfl, h_4⟩ | ⟨rfl, h_4⟩
    ·
      have h_4 : 0 ≤ v1.toInt ∧ v1.toInt ≤ 399 := h_4
      refine lv_if_ne (tgt := 23) hx hb dX11_stood_18 (by decide) (fun _ => ?_) (fun h => absurd h (by decide))
      refine lv_aload_n hx hb dX11_stood_23 rfl (lv_at hl 0 rfl) ?_
      refine lv_iload_n hx hb dX11_stood_24 rfl (lv_at hl 1 rfl) ?_
      refine lv_iload_n hx hb dX11_stood_25 rfl (lv_at hl 2 rfl) ?_
      refine va_csq (runV_rxa (As := [.int v0, .int v1]) (rest := []) S (q_EmoveBy l D cI cB cZ zz qq vv bt g ad cn In Fn v0 v1 hB) kV_RX11_509 hK hXS hS hP 0 xo_0 rfl rfl ⟨Nat.le_of_ble_eq_true rfl, Nat.le_of_ble_eq_true rfl⟩ ⟨Nat.le_of_ble_eq_true rfl, Nat.le_of_ble_eq_true rfl⟩ rfl hl.1 rfl (Nat.le_of_ble_eq_true rfl) dX11_stood_26) (fun r_5 h_6 => ?_)
      rcases h_6 with ⟨mr_5, er_5, hr_5, rfl⟩ | ⟨hr_5, rfl⟩
      ·
        refine lv_astore_n (lv' := [(3, .ref (ad 15 mr_5)), (0, .ref (g 0)), (1, .int v0), (2, .int v1)]) hx hb dX11_stood_29 rfl hl (by decide) rfl (fun ls hl => ?_)
        refine lv_aload_n hx hb dX11_stood_30 rfl (lv_at hl 0 rfl) ?_
        refine lv_ifnull hx hb dX11_stood_31 ?_
        refine lv_aload_n hx hb dX11_stood_34 rfl (lv_at hl 0 rfl) ?_
        refine gf_RX11_516 S hK hP _ (xf_5 (by omega)) (v := .int ((Fn 181) mr_5)) rfl dX11_stood_35 ?_
        refine lv_iconst (v := (-1)) hx hb dX11_stood_38 (by decide) ?_
        refine lv_icmp_ne (tgt := 47) hx hb dX11_stood_39 (by decide) (fun c_7 => ?_) (fun c_7 => ?_)
        ·
          have tc_7 : (((Fn 181) mr_5).toInt : Int) ≠ (-1) := fun q => c_7 (Int32.toInt_inj.mp q)
          refine lv_aload_n hx hb dX11_stood_47 rfl (lv_at hl 0 rfl) ?_
          refine gf_RX11_516 S hK hP _ (xf_5 (by omega)) (v := .int ((Fn 181) mr_5)) rfl dX11_stood_48 ?_
          exact W.iret (v := ((Fn 181) mr_5)) hx hb hr (fun t ht hW => ⟨((Fn 181) mr_5), rfl, (Or.inl ⟨by omega, (stv_2 (by assumption) (fun q9 => by have := m1_to q9; omega)).symm⟩), ht⟩) (fun _ h => absurd h List.not_mem_nil) dX11_stood_51
        ·
          have tc_7 : (((Fn 181) mr_5).toInt : Int) = (-1) := congrArg Int32.toInt c_7
          refine lv_bipush (v := (-2)) hx hb dX11_stood_42 (by decide) ?_
          refine lv_goto (tgt := 51) hx hb dX11_stood_44 (by decide) ?_
          exact W.iret (v := (-2)) hx hb hr (fun t ht hW => ⟨(-2), rfl, (Or.inl ⟨by omega, by first | exact (stv_n (by assumption)).symm | exact (stv_1 (by assumption) (m1_of (by omega))).symm⟩), ht⟩) (fun _ h => absurd h List.not_mem_nil) dX11_stood_51
      ·
        refine lv_astore_nN (lv' := [(3, .null), (0, .ref (g 0)), (1, .int v0), (2, .int v1)]) hx hb dX11_stood_29 rfl hl (by decide) rfl (fun ls hl => ?_)
        refine lv_aload_nN hx hb dX11_stood_30 rfl (lv_at hl 0 rfl) ?_
        refine lv_ifnullN (tgt := 42) hx hb dX11_stood_31 (by decide) ?_
        refine lv_bipush (v := (-2)) hx hb dX11_stood_42 (by decide) ?_
        refine lv_goto (tgt := 51) hx hb dX11_stood_44 (by decide) ?_
        exact W.iret (v := (-2)) hx hb hr (fun t ht hW => ⟨(-2), rfl, (Or.inl ⟨by omega, by first | exact (stv_n (by assumption)).symm | exact (stv_1 (by assumption) (m1_of (by omega))).symm⟩), ht⟩) (fun _ h => absurd h List.not_mem_nil) dX11_stood_51
    ·
      have h_4 : ¬ (0 ≤ v1.toInt ∧ v1.toInt ≤ 399) := h_4
      refine lv_if_ne (tgt := 23) hx hb dX11_stood_18 (by decide) (fun h => absurd h (by decide)) (fun _ => ?_)
      refine lv_iconst (v := (-1)) hx hb dX11_stood_21 (by decide) ?_
      exact W.iret (v := (-1)) hx hb hr (fun t ht hW => ⟨(-1), rfl, (Or.inr ⟨by omega, rfl⟩), ht⟩) (fun _ h => absurd h List.not_mem_nil) dX11_stood_22
  ·
    have h_2 : ¬ (0 ≤ v0.toInt ∧ v0.toInt ≤ ((nI (cn 2)) - 1).toInt) := h_2
    refine lv_if_eq (tgt := 21) hx hb dX11_stood_11 (by decide) (fun _ => ?_) (fun h => absurd h (by decide))
    refine lv_iconst (v := (-1)) hx hb dX11_stood_21 (by decide) ?_
    exact W.iret (v := (-1)) hx hb hr (fun t ht hW => ⟨(-1), rfl, (Or.inr ⟨by omega, rfl⟩), ht⟩) (fun _ h => absurd h List.not_mem_nil) dX11_stood_22
set_option maxRecDepth 100000 in
set_option maxHeartbeats 4000000 in
theorem q_stood9 (l : Launch) (D : va_G) (cI cB cZ : ClassId) (g : Nat → Nat) (cn : Nat → Nat) (In : Nat → Int32) (Fn : Nat → Nat → Int32) (v0 v1 : Int32) (hI : IM cn Fn) : Met l yX12_stood (CWS yX12_stood cX12_stood 4 (some .int)) (RM 1 0 0) (PBr [.ref (g 100), .int v0, .int v1] D cI cB cZ (wM cI cB cZ g cn In Fn)) (vp_Si (fun r => ((0 ≤ v0.toInt ∧ v0.toInt < (cn 57 : Int) ∧ 0 ≤ v1.toInt ∧ v1.toInt ≤ 399) ∧ r = stv (Fn 60) (lat (Fn 59) (Fn 61) v0 v1 (cn 58))) ∨ (¬ (0 ≤ v0.toInt ∧ v0.toInt < (cn 57 : Int) ∧ 0 ≤ v1.toInt ∧ v1.toInt ≤ 399) ∧ r = -1))) 0 0 (fun _ => False) := by
  refine Met.ofW (cc := cX12_stood) (maxL := 4) (ret := (some .int)) (by decide) rfl ?_
  intro p e s m args below meth c s₁ B hml hv
  obtain ⟨rfl, hP, hK⟩ := hv
  have hx := B.exec
  have hb := B.bytes
  have hr := B.returns
  have hts := atoms_spec (ws := (CWS yX12_stood cX12_stood 4 (some .int))) B.pre
  have hown : s.vm.findClass RX12 = some m.cls := findClass_of_methodNamed B.named
  have hlocks := B.notSynchronized
  have S : SF p m c cX12_stood 4 s ([.ref (g 100), .int v0, .int v1]).toArray RX12 := ⟨hx, hb, hml, hown, fun w h => hts w (List.mem_cons_of_mem _ h)⟩
  have hl := lv_entry ([.ref (g 100), .int v0, .int v1]) (n := 4) (Nat.le_of_ble_eq_true rfl)
  rw [lg_entry_eq]
  generalize (lg_sl ([.ref (g 100), .int v0, .int v1]) ++ List.replicate (4 - (lg_sl ([.ref (g 100), .int v0, .int v1])).length) Slot.unset).toArray = ls at hl ⊢
  have hl : lv_has ls 4 [(0, .ref (g 100)), (1, .int v0), (2, .int v1)] := hl
  have hi_cn := hI.b
  refine lv_aload_n hx hb dX12_stood_0 rfl (lv_at hl 0 rfl) ?_
  refine lv_iload_n hx hb dX12_stood_1 rfl (lv_at hl 1 rfl) ?_
  refine vp_callSi (runV_ra (As := [.int v0]) (rest := []) S (q_isDrum l D cI cB cZ g cn In Fn v0 hI) kV_RX12_413 hK hP 0 rfl rfl rfl ⟨Nat.le_of_ble_eq_true rfl, Nat.le_of_ble_eq_true rfl⟩ ⟨Nat.le_of_ble_eq_true rfl, Nat.le_of_ble_eq_true rfl⟩ rfl hl.1 rfl (Nat.le_of_ble_eq_true rfl) dX12_stood_2) (fun r_1 h_2 => ?_)
  rcases h_2 with ⟨rfl, h_2⟩ | ⟨rfl, h_2⟩
  ·
    have h_2 : 0 ≤ v0.toInt ∧ v0.toInt < ((cn 57) : Int) := h_2
    refine lv_if_eq (tgt := 15) hx hb dX12_stood_5 (by decide) (fun h => absurd h (by decide)) (fun _ => ?_)
    refine lv_iload_n hx hb dX12_stood_8 rfl (lv_at hl 2 rfl) ?_
    refine vp_callSi (runS_r (As := [.int v1]) (rest := []) S (q_isDay l D cI cB cZ v1 ) kS_RX12_341 hK hP [] rfl ⟨Nat.le_of_ble_eq_true rfl, Nat.le_of_ble_eq_true rfl⟩ ⟨Nat.le_of_ble_eq_true rfl, Nat.le_of_ble_eq_true rfl⟩ rfl hl.1 rfl (Nat.le_of_ble_eq_true rfl) dX12_stood_9) (fun r_3 h_4 => ?_)
    rcases h_4 with ⟨rfl, h_4⟩ | ⟨rfl, h_4⟩
    ·
      have h_4 : 0 ≤ v1.toInt ∧ v1.toInt ≤ 399 := h_4
      refine lv_if_ne (tgt := 17) hx hb dX12_stood_12 (by decide) (fun _ => ?_) (fun h => absurd h (by decide))
      refine lv_aload_n hx hb dX12_stood_17 rfl (lv_at hl 0 rfl) ?_
      refine lv_iload_n hx hb dX12_stood_18 rfl (lv_at hl 1 rfl) ?_
      refine lv_iload_n hx hb dX12_stood_19 rfl (lv_at hl 2 rfl) ?_
      refine vp_callSi (runV_ra (As := [.int v0, .int v1]) (rest := []) S (q_latest9 l D cI cB cZ g cn In Fn v0 v1 hI) kV_RX12_416 hK hP 0 rfl rfl rfl ⟨Nat.le_of_ble_eq_true rfl, Nat.le_of_ble_eq_true rfl⟩ ⟨Nat.le_of_ble_eq_true rfl, Nat.le_of_ble_eq_true rfl⟩ rfl hl.1 rfl (Nat.le_of_ble_eq_true rfl) dX12_stood_20) (fun r_5 h_6 => ?_)
      rcases h_6 with ⟨rfl, g8⟩ | ⟨m8, h8, rfl, g8⟩
      ·
        refine lv_istore_n (lv' := [(3, .int (-1)), (0, .ref (g 100)), (1, .int v0), (2, .int v1)]) hx hb dX12_stood_23 rfl hl (by decide) rfl (fun ls hl => ?_)
        refine lv_iload_n hx hb dX12_stood_24 rfl (lv_at hl 0 rfl) ?_
        refine lv_iconst (v := (-1)) hx hb dX12_stood_25 (by decide) ?_
        refine lv_icmp_eq (tgt := 39) hx hb dX12_stood_26 (by decide) (fun _ => ?_) (fun h => absurd h (by decide))
        refine lv_bipush (v := (-2)) hx hb dX12_stood_39 (by decide) ?_
        refine lv_goto (tgt := 50) hx hb dX12_stood_41 (by decide) ?_
        exact W.iret (v := (-2)) hx hb hr (fun t ht hW => ⟨(-2), rfl, (Or.inl ⟨by omega, by first | exact (stv_n (by assumption)).symm | exact (stv_1 (by assumption) (m1_of (by omega))).symm⟩), ht⟩) (fun _ h => absurd h List.not_mem_nil) dX12_stood_50
      ·
        have t8 : (nI m8).toInt = (m8 : Int) := nI_toInt (by omega)
        refine lv_istore_n (lv' := [(3, .int (nI m8)), (0, .ref (g 100)), (1, .int v0), (2, .int v1)]) hx hb dX12_stood_23 rfl hl (by decide) rfl (fun ls hl => ?_)
        refine lv_iload_n hx hb dX12_stood_24 rfl (lv_at hl 0 rfl) ?_
        refine lv_iconst (v := (-1)) hx hb dX12_stood_25 (by decide) ?_
        refine lv_icmp_eq (tgt := 39) hx hb dX12_stood_26 (by decide) (fun c_7 => False.elim (by have tc_7 : ((nI m8).toInt : Int) = (-1) := congrArg Int32.toInt c_7; omega)) (fun c_7 => ?_)
        have tc_7 : ((nI m8).toInt : Int) ≠ (-1) := fun q => c_7 (Int32.toInt_inj.mp q)
        refine lv_aload_n hx hb dX12_stood_29 rfl (lv_at hl 1 rfl) ?_
        refine gM_132 S hK hP (v := .ref (g 60)) rfl dX12_stood_30 ?_
        refine lv_iload_n hx hb dX12_stood_33 rfl (lv_at hl 0 rfl) ?_
        refine ldM_60 hx hb hK hP (x := ((Fn 60) m8)) (vp_in_nI (by omega) (by decide)) (nI_clamp (by omega)) rfl dX12_stood_34 ?_
        refine lv_iconst (v := (-1)) hx hb dX12_stood_35 (by decide) ?_
        refine lv_icmp_ne (tgt := 44) hx hb dX12_stood_36 (by decide) (fun c_8 => ?_) (fun c_8 => ?_)
        ·
          have tc_8 : (((Fn 60) m8).toInt : Int) ≠ (-1) := fun q => c_8 (Int32.toInt_inj.mp q)
          refine lv_aload_n hx hb dX12_stood_44 rfl (lv_at hl 1 rfl) ?_
          refine gM_132 S hK hP (v := .ref (g 60)) rfl dX12_stood_45 ?_
          refine lv_iload_n hx hb dX12_stood_48 rfl (lv_at hl 0 rfl) ?_
          refine ldM_60 hx hb hK hP (x := ((Fn 60) m8)) (vp_in_nI (by omega) (by decide)) (nI_clamp (by omega)) rfl dX12_stood_49 ?_
          exact W.iret (v := ((Fn 60) m8)) hx hb hr (fun t ht hW => ⟨((Fn 60) m8), rfl, (Or.inl ⟨by omega, (stv_2 (by assumption) (fun q9 => by have := m1_to q9; omega)).symm⟩), ht⟩) (fun _ h => absurd h List.not_mem_nil) dX12_stood_50
        ·
          have tc_8 : (((Fn 60) m8).toInt : Int) = (-1) := congrArg Int32.toInt c_8
          refine lv_bipush (v := (-2)) hx hb dX12_stood_39 (by decide) ?_
          refine lv_goto (tgt := 50) hx hb dX12_stood_41 (by decide) ?_
          exact W.iret (v := (-2)) hx hb hr (fun t ht hW => ⟨(-2), rfl, (Or.inl ⟨by omega, by first | exact (stv_n (by assumption)).symm | exact (stv_1 (by assumption) (m1_of (by omega))).symm⟩), ht⟩) (fun _ h => absurd h List.not_mem_nil) dX12_stood_50
    ·
      have h_4 : ¬ (0 ≤ v1.toInt ∧ v1.toInt ≤ 399) := h_4
      refine lv_if_ne (tgt := 17) hx hb dX12_stood_12 (by decide) (fun h => absurd h (by decide)) (fun _ => ?_)
      refine lv_iconst (v := (-1)) hx hb dX12_stood_15 (by decide) ?_
      exact W.iret (v := (-1)) hx hb hr (fun t ht hW => ⟨(-1), rfl, (Or.inr ⟨by omega, rfl⟩), ht⟩) (fun _ h => absurd h List.not_mem_nil) dX12_stood_16
  ·
    have h_2 : ¬ (0 ≤ v0.toInt ∧ v0.toInt < ((cn 57) : Int)) := h_2
    refine lv_if_eq (tgt := 15) hx hb dX12_stood_5 (by decide) (fun _ => ?_) (fun h => absurd h (by decide))
    refine lv_iconst (v := (-1)) hx hb dX12_stood_15 (by decide) ?_
    exact W.iret (v := (-1)) hx hb hr (fun t ht hW => ⟨(-1), rfl, (Or.inr ⟨by omega, rfl⟩), ht⟩) (fun _ h => absurd h List.not_mem_nil) dX12_stood_16
