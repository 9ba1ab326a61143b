/-- the k-th drum's last move by the day t stands, and for at least v days -/
def SBP (f h g : Nat → Int32) (n : Nat) (t v : Int32) (k : Nat) : Prop := ∃ m : Nat, lat f g (nI k) t n = some m ∧ h m ≠ -1 ∧ v.toInt ≤ (t - g m).toInt
theorem SBP.eq {f h g f' h' g' : Nat → Int32} {n : Nat} {t v : Int32} {k : Nat} (e1 : ∀ i : Nat, i < n → f i = f' i) (e2 : ∀ i : Nat, i < n → h i = h' i) (e3 : ∀ i : Nat, i < n → g i = g' i) : SBP f h g n t v k ↔ SBP f' h' g' n t v k := by
  have el : lat f g (nI k) t n = lat f' g' (nI k) t n := lat_eq _ e1 e3
  constructor
  · rintro ⟨m, h1, h2, h3⟩
    have hl := lat_lt _ h1
    exact ⟨m, el.symm.trans h1, by rw [← e2 m hl]; exact h2, by rw [← e3 m hl]; exact h3⟩
  · rintro ⟨m, h1, h2, h3⟩
    have hl := lat_lt _ h1
    exact ⟨m, el.trans h1, by rw [e2 m hl]; exact h2, by rw [e3 m hl]; exact h3⟩

set_option maxRecDepth 100000 in
theorem gM_407 {p : Program} {l : Launch} {e : Env} {R : Room} {s : State} {m : MethodId} {args : Array Value} {below : List Frame} {meth : Method} {c : Code} {H : Heap} {locs : List Loc} {cells slots : Nat} {Q : State → Prop} {cc : ByteArray} {nL pc : Nat} {D : va_G} {cI cB cZ : ClassId} {g cn : Nat → Nat} {In : Nat → Int32} {Fn : Nat → Nat → Int32} {rest : List Value} {ls : Array Slot} {v : Value} (S : SF p m c cc nL s args RX12) (hK : KK D cI cB cZ s) (hP : va_P D vwCl (wM cI cB cZ g cn In Fn) H) (hv : .int (nI (cn 57)) = v) (hdg : decode cc pc = .ok (.getfield 407, 3)) (kk : W p l e R s m args below meth c H locs cells slots Q (F0 m (pc + 3) ls (v :: rest))) : W p l e R s m args below meth c H locs cells slots Q (F0 m pc ls (.ref (g 100) :: rest)) :=
  va_get (C := RX12) (T := TX12) (N := 91) S.1 S.2.1 S.2.2.2.2 hin_RX12 S.2.2.2.1 hK.1 hP 0 rfl rfl 57 (by decide) (S.2.2.2.2 _ (wT_tab 1370 rfl rfl)) (fun _ h9 => h9) (congrArg some hv) hdg kk
theorem dX11_stale_0 : decode cX11_stale 0 = .ok (.iload_n 1, 1) := by decide +kernel
theorem dX11_stale_1 : decode cX11_stale 1 = .ok (.iconst 0, 1) := by decide +kernel
theorem dX11_stale_2 : decode cX11_stale 2 = .ok (.sipush 399, 3) := by decide +kernel
theorem dX11_stale_5 : decode cX11_stale 5 = .ok (.invokestatic 80, 3) := by decide +kernel
theorem dX11_stale_8 : decode cX11_stale 8 = .ok (.ifCond .ne 5, 3) := by decide +kernel
theorem dX11_stale_13 : decode cX11_stale 13 = .ok (.iconst 0, 1) := by decide +kernel
theorem dX11_stale_14 : decode cX11_stale 14 = .ok (.istore_n 2, 1) := by decide +kernel
theorem dX11_stale_15 : decode cX11_stale 15 = .ok (.iconst 0, 1) := by decide +kernel
theorem dX11_stale_16 : decode cX11_stale 16 = .ok (.istore_n 3, 1) := by decide +kernel
theorem dX11_stale_17 : decode cX11_stale 17 = .ok (.iload_n 3, 1) := by decide +kernel
theorem dX11_stale_18 : decode cX11_stale 18 = .ok (.aload_n 0, 1) := by decide +kernel
theorem dX11_stale_19 : decode cX11_stale 19 = .ok (.getfield 502, 3) := by decide +kernel
theorem dX11_stale_22 : decode cX11_stale 22 = .ok (.if_icmp .ge 70, 3) := by decide +kernel
theorem dX11_stale_92 : decode cX11_stale 92 = .ok (.iload_n 2, 1) := by decide +kernel
theorem dX11_stale_93 : decode cX11_stale 93 = .ok (.ireturn, 1) := by decide +kernel
theorem dX11_stale_25 : decode cX11_stale 25 = .ok (.aload_n 0, 1) := by decide +kernel
theorem dX11_stale_26 : decode cX11_stale 26 = .ok (.iload_n 3, 1) := by decide +kernel
theorem dX11_stale_27 : decode cX11_stale 27 = .ok (.aload_n 0, 1) := by decide +kernel
theorem dX11_stale_28 : decode cX11_stale 28 = .ok (.getfield 103, 3) := by decide +kernel
theorem dX11_stale_31 : decode cX11_stale 31 = .ok (.invokevirtual 509, 3) := by decide +kernel
theorem dX11_stale_34 : decode cX11_stale 34 = .ok (.astore 4, 2) := by decide +kernel
theorem dX11_stale_36 : decode cX11_stale 36 = .ok (.aload 4, 2) := by decide +kernel
theorem dX11_stale_38 : decode cX11_stale 38 = .ok (.ifnull 16, 3) := by decide +kernel
theorem dX11_stale_41 : decode cX11_stale 41 = .ok (.aload 4, 2) := by decide +kernel
theorem dX11_stale_43 : decode cX11_stale 43 = .ok (.getfield 516, 3) := by decide +kernel
theorem dX11_stale_46 : decode cX11_stale 46 = .ok (.iconst (-1), 1) := by decide +kernel
theorem dX11_stale_47 : decode cX11_stale 47 = .ok (.if_icmp .eq 7, 3) := by decide +kernel
theorem dX11_stale_54 : decode cX11_stale 54 = .ok (.iconst 0, 1) := by decide +kernel
theorem dX11_stale_55 : decode cX11_stale 55 = .ok (.istore 5, 2) := by decide +kernel
theorem dX11_stale_57 : decode cX11_stale 57 = .ok (.iload_n 2, 1) := by decide +kernel
theorem dX11_stale_58 : decode cX11_stale 58 = .ok (.iload 5, 2) := by decide +kernel
theorem dX11_stale_60 : decode cX11_stale 60 = .ok (.ifCond .eq 23, 3) := by decide +kernel
theorem dX11_stale_83 : decode cX11_stale 83 = .ok (.iconst 0, 1) := by decide +kernel
theorem dX11_stale_84 : decode cX11_stale 84 = .ok (.ior, 1) := by decide +kernel
theorem dX11_stale_85 : decode cX11_stale 85 = .ok (.istore_n 2, 1) := by decide +kernel
theorem dX11_stale_86 : decode cX11_stale 86 = .ok (.iinc 3 1, 3) := by decide +kernel
theorem dX11_stale_89 : decode cX11_stale 89 = .ok (.goto (-72), 3) := by decide +kernel
theorem dX11_stale_50 : decode cX11_stale 50 = .ok (.iconst 1, 1) := by decide +kernel
theorem dX11_stale_51 : decode cX11_stale 51 = .ok (.goto 4, 3) := by decide +kernel
theorem dX11_stale_63 : decode cX11_stale 63 = .ok (.aload_n 0, 1) := by decide +kernel
theorem dX11_stale_64 : decode cX11_stale 64 = .ok (.getfield 103, 3) := by decide +kernel
theorem dX11_stale_67 : decode cX11_stale 67 = .ok (.aload 4, 2) := by decide +kernel
theorem dX11_stale_69 : decode cX11_stale 69 = .ok (.getfield 508, 3) := by decide +kernel
theorem dX11_stale_72 : decode cX11_stale 72 = .ok (.isub, 1) := by decide +kernel
theorem dX11_stale_73 : decode cX11_stale 73 = .ok (.iload_n 1, 1) := by decide +kernel
theorem dX11_stale_74 : decode cX11_stale 74 = .ok (.if_icmp .lt 9, 3) := by decide +kernel
theorem dX11_stale_77 : decode cX11_stale 77 = .ok (.iconst 1, 1) := by decide +kernel
theorem dX11_stale_78 : decode cX11_stale 78 = .ok (.iload_n 3, 1) := by decide +kernel
theorem dX11_stale_79 : decode cX11_stale 79 = .ok (.ishl, 1) := by decide +kernel
theorem dX11_stale_80 : decode cX11_stale 80 = .ok (.goto 4, 3) := by decide +kernel
theorem dX11_stale_11 : decode cX11_stale 11 = .ok (.iconst (-1), 1) := by decide +kernel
theorem dX11_stale_12 : decode cX11_stale 12 = .ok (.ireturn, 1) := by decide +kernel
theorem dX12_stale_0 : decode cX12_stale 0 = .ok (.iload_n 1, 1) := by decide +kernel
theorem dX12_stale_1 : decode cX12_stale 1 = .ok (.invokestatic 341, 3) := by decide +kernel
theorem dX12_stale_4 : decode cX12_stale 4 = .ok (.ifCond .ne 5, 3) := by decide +kernel
theorem dX12_stale_9 : decode cX12_stale 9 = .ok (.iconst 0, 1) := by decide +kernel
theorem dX12_stale_10 : decode cX12_stale 10 = .ok (.istore_n 2, 1) := by decide +kernel
theorem dX12_stale_11 : decode cX12_stale 11 = .ok (.iconst 0, 1) := by decide +kernel
theorem dX12_stale_12 : decode cX12_stale 12 = .ok (.istore_n 3, 1) := by decide +kernel
theorem dX12_stale_13 : decode cX12_stale 13 = .ok (.iload_n 3, 1) := by decide +kernel
theorem dX12_stale_14 : decode cX12_stale 14 = .ok (.aload_n 0, 1) := by decide +kernel
theorem dX12_stale_15 : decode cX12_stale 15 = .ok (.getfield 407, 3) := by decide +kernel
theorem dX12_stale_18 : decode cX12_stale 18 = .ok (.if_icmp .ge 59, 3) := by decide +kernel
theorem dX12_stale_77 : decode cX12_stale 77 = .ok (.iload_n 2, 1) := by decide +kernel
theorem dX12_stale_78 : decode cX12_stale 78 = .ok (.ireturn, 1) := by decide +kernel
theorem dX12_stale_21 : decode cX12_stale 21 = .ok (.aload_n 0, 1) := by decide +kernel
theorem dX12_stale_22 : decode cX12_stale 22 = .ok (.iload_n 3, 1) := by decide +kernel
theorem dX12_stale_23 : decode cX12_stale 23 = .ok (.aload_n 0, 1) := by decide +kernel
theorem dX12_stale_24 : decode cX12_stale 24 = .ok (.getfield 211, 3) := by decide +kernel
theorem dX12_stale_27 : decode cX12_stale 27 = .ok (.invokevirtual 416, 3) := by decide +kernel
theorem dX12_stale_30 : decode cX12_stale 30 = .ok (.istore 4, 2) := by decide +kernel
theorem dX12_stale_32 : decode cX12_stale 32 = .ok (.iload 4, 2) := by decide +kernel
theorem dX12_stale_34 : decode cX12_stale 34 = .ok (.iconst (-1), 1) := by decide +kernel
theorem dX12_stale_35 : decode cX12_stale 35 = .ok (.if_icmp .eq 36, 3) := by decide +kernel
theorem dX12_stale_71 : decode cX12_stale 71 = .ok (.iinc 3 1, 3) := by decide +kernel
theorem dX12_stale_74 : decode cX12_stale 74 = .ok (.goto (-61), 3) := by decide +kernel
theorem dX12_stale_38 : decode cX12_stale 38 = .ok (.aload_n 0, 1) := by decide +kernel
theorem dX12_stale_39 : decode cX12_stale 39 = .ok (.getfield 132, 3) := by decide +kernel
theorem dX12_stale_42 : decode cX12_stale 42 = .ok (.iload 4, 2) := by decide +kernel
theorem dX12_stale_44 : decode cX12_stale 44 = .ok (.iaload, 1) := by decide +kernel
theorem dX12_stale_45 : decode cX12_stale 45 = .ok (.iconst (-1), 1) := by decide +kernel
theorem dX12_stale_46 : decode cX12_stale 46 = .ok (.if_icmp .eq 25, 3) := by decide +kernel
theorem dX12_stale_49 : decode cX12_stale 49 = .ok (.aload_n 0, 1) := by decide +kernel
theorem dX12_stale_50 : decode cX12_stale 50 = .ok (.getfield 211, 3) := by decide +kernel
theorem dX12_stale_53 : decode cX12_stale 53 = .ok (.aload_n 0, 1) := by decide +kernel
theorem dX12_stale_54 : decode cX12_stale 54 = .ok (.getfield 135, 3) := by decide +kernel
theorem dX12_stale_57 : decode cX12_stale 57 = .ok (.iload 4, 2) := by decide +kernel
theorem dX12_stale_59 : decode cX12_stale 59 = .ok (.iaload, 1) := by decide +kernel
theorem dX12_stale_60 : decode cX12_stale 60 = .ok (.isub, 1) := by decide +kernel
theorem dX12_stale_61 : decode cX12_stale 61 = .ok (.iload_n 1, 1) := by decide +kernel
theorem dX12_stale_62 : decode cX12_stale 62 = .ok (.if_icmp .lt 9, 3) := by decide +kernel
theorem dX12_stale_65 : decode cX12_stale 65 = .ok (.iload_n 2, 1) := by decide +kernel
theorem dX12_stale_66 : decode cX12_stale 66 = .ok (.iconst 1, 1) := by decide +kernel
theorem dX12_stale_67 : decode cX12_stale 67 = .ok (.iload_n 3, 1) := by decide +kernel
theorem dX12_stale_68 : decode cX12_stale 68 = .ok (.ishl, 1) := by decide +kernel
theorem dX12_stale_69 : decode cX12_stale 69 = .ok (.ior, 1) := by decide +kernel
theorem dX12_stale_70 : decode cX12_stale 70 = .ok (.istore_n 2, 1) := by decide +kernel
theorem dX12_stale_7 : decode cX12_stale 7 = .ok (.iconst (-1), 1) := by decide +kernel
theorem dX12_stale_8 : decode cX12_stale 8 = .ok (.ireturn, 1) := by decide +kernel
set_option maxRecDepth 100000 in
set_option maxHeartbeats 4000000 in
theorem q_Estale (l : Launch) (D : va_G) (cI cB cZ : ClassId) (zz qq vv : Nat) (bt : Nat → Int32) (g : Nat → Nat) (ad : Nat → Nat → Nat) (cn : Nat → Nat) (In : Nat → Int32) (Fn : Nat → Nat → Int32) (v0 : Int32) (hB : CBX cn) : Met l yX11_stale (CWS yX11_stale cX11_stale 6 (some .int)) (RM 4 0 0) (PBrx [.ref (g 0), .int v0] D cI cB cZ zz qq vv bt (wX cI (D.1 99) zz g ad cn In Fn)) (vp_Si (fun r => ((0 ≤ v0.toInt ∧ v0.toInt ≤ 399) ∧ BSB (SBP (Fn 180) (Fn 181) (Fn 182) (cn 15) (nI (cn 0)) v0) (cn 2) r) ∨ (¬ (0 ≤ v0.toInt ∧ v0.toInt ≤ 399) ∧ r = -1))) 0 0 (fun _ => False) := by
  refine Met.ofW (cc := cX11_stale) (maxL := 6) (ret := (some .int)) (by decide) rfl ?_
  intro p e s m args below meth c s₁ B hml hv
  obtain ⟨rfl, hP, hK, hXS⟩ := hv
  have hS : va_S (fun _ => False) s.heap s.heap [] := va_S.rf
  have hx := B.exec
  have hb := B.bytes
  have hr := B.returns
  have hts := atoms_spec (ws := (CWS yX11_stale cX11_stale 6 (some .int))) B.pre
  have hown : s.vm.findClass RX11 = some m.cls := findClass_of_methodNamed B.named
  have hlocks := B.notSynchronized
  have S : SF p m c cX11_stale 6 s ([.ref (g 0), .int v0]).toArray RX11 := ⟨hx, hb, hml, hown, fun w h => hts w (List.mem_cons_of_mem _ h)⟩
  have hl := lv_entry ([.ref (g 0), .int v0]) (n := 6) (Nat.le_of_ble_eq_true rfl)
  rw [lg_entry_eq]
  generalize (lg_sl ([.ref (g 0), .int v0]) ++ List.replicate (6 - (lg_sl ([.ref (g 0), .int v0])).length) Slot.unset).toArray = ls at hl ⊢
  have hl : lv_has ls 6 [(0, .ref (g 0)), (1, .int v0)] := hl
  refine lv_iload_n hx hb dX11_stale_0 rfl (lv_at hl 1 rfl) ?_
  refine lv_iconst (v := 0) hx hb dX11_stale_1 (by decide) ?_
  refine lv_sipush (v := 399) hx hb dX11_stale_2 (by decide) ?_
  refine vp_callSi (runS_r (As := [.int v0, .int 0, .int 399]) (rest := []) S (q_l_within l D cI cB cZ v0 0 399) kS_RX11_80 hK hP [] rfl ⟨Nat.le_of_ble_eq_true rfl, Nat.le_of_ble_eq_true rfl⟩ ⟨Nat.le_of_ble_eq_true rfl, Nat.le_of_ble_eq_true rfl⟩ rfl hl.1 rfl (Nat.le_of_ble_eq_true rfl) dX11_stale_5) (fun r_1 h_2 => ?_)
  rcases h_2 with ⟨rfl, h_2⟩ | ⟨rfl, h_2⟩
  ·
    have h_2 : 0 ≤ v0.toInt ∧ v0.toInt ≤ 399 := h_2
    refine lv_if_ne (tgt := 13) hx hb dX11_stale_8 (by decide) (fun _ => ?_) (fun h => absurd h (by decide))
    refine lv_iconst (v := 0) hx hb dX11_stale_13 (by decide) ?_
    refine lv_istore_n (lv' := [(2, .int 0), (0, .ref (g 0)), (1, .int v0)]) hx hb dX11_stale_14 rfl hl (by decide) rfl (fun ls hl => ?_)
    refine lv_iconst (v := 0) hx hb dX11_stale_15 (by decide) ?_
    refine lv_istore_n (lv' := [(3, .int 0), (2, .int 0), (0, .ref (g 0)), (1, .int v0)]) hx hb dX11_stale_16 rfl hl (by decide) rfl (fun ls hl => ?_)
    have lp_17 : ∀ (n : Nat) (i17 : Nat) (x17_2 : Int32) , cn 2 - i17 < n → (i17 ≤ cn 2 ∧ (BSB (SBP (Fn 180) (Fn 181) (Fn 182) (cn 15) (nI (cn 0)) v0) i17 x17_2)) → ∀ ls : Array Slot, lv_has ls 6 [(3, .int (nI i17)), (2, .int x17_2), (0, .ref (g 0)), (1, .int v0)] → W p l e (RM 4 0 0) s m ([.ref (g 0), .int v0]).toArray below meth c s.heap [] 0 0 (MQ below (vp_Si (fun r => ((0 ≤ v0.toInt ∧ v0.toInt ≤ 399) ∧ BSB (SBP (Fn 180) (Fn 181) (Fn 182) (cn 15) (nI (cn 0)) v0) (cn 2) r) ∨ (¬ (0 ≤ v0.toInt ∧ v0.toInt ≤ 399) ∧ r = -1))) ([.ref (g 0), .int v0]).toArray s 0 0 (fun _ => False)) (F0 m 17 ls []) := by
      intro n17
      induction n17 with
      | zero => intros; omega
      | succ n17 ih17 =>
        intro i17 x17_2 hmu17 hinv17 ls hl
        obtain ⟨hr17, hx17_0⟩ := hinv17
        have ti17 : (nI i17).toInt = (i17 : Int) := nI_toInt (by omega)
        refine lv_iload_n hx hb dX11_stale_17 rfl (lv_at hl 0 rfl) ?_
        refine lv_aload_n hx hb dX11_stale_18 rfl (lv_at hl 2 rfl) ?_
        refine gf_RX11_502 S hK hP 0 xo_0 (v := .int (nI (cn 2))) rfl dX11_stale_19 ?_
        have : (nI (cn 2)).toInt = (((cn 2) : Nat) : Int) := nI_toInt (by omega)
        refine lv_icmp_ge (tgt := 92) hx hb dX11_stale_22 (by decide) (fun c_3 => ?_) (fun c_3 => ?_)
        ·
          have tc_3 : ((nI (cn 2)).toInt : Int) ≤ (nI i17).toInt := Int32.le_iff_toInt_le.mp c_3
          refine lv_iload_n hx hb dX11_stale_92 rfl (lv_at hl 1 rfl) ?_
          exact W.iret (v := x17_2) hx hb hr (fun t ht hW => ⟨x17_2, rfl, (Or.inl ⟨by omega, by have e9 : i17 = cn 2 := (by omega); rw [← e9]; exact hx17_0⟩), ht⟩) (fun _ h => absurd h List.not_mem_nil) dX11_stale_93
        ·
          have tc_3 : ((nI i17).toInt : Int) < (nI (cn 2)).toInt := Int32.lt_iff_toInt_lt.mp (Int32.not_le.mp c_3)
          refine lv_aload_n hx hb dX11_stale_25 rfl (lv_at hl 2 rfl) ?_
          refine lv_iload_n hx hb dX11_stale_26 rfl (lv_at hl 0 rfl) ?_
          refine lv_aload_n hx hb dX11_stale_27 rfl (lv_at hl 2 rfl) ?_
          refine gf_RX11_103 S hK hP 0 xo_0 (v := .int (nI (cn 0))) rfl dX11_stale_28 ?_
          refine va_csq (runV_rxa (As := [.int (nI i17), .int (nI (cn 0))]) (rest := []) S (q_EmoveBy l D cI cB cZ zz qq vv bt g ad cn In Fn (nI i17) (nI (cn 0)) hB) kV_RX11_509 hK hXS hS hP 0 xo_0 rfl rfl ⟨Nat.le_of_ble_eq_true rfl, Nat.le_of_ble_eq_true rfl⟩ ⟨Nat.le_of_ble_eq_true rfl, Nat.le_of_ble_eq_true rfl⟩ rfl hl.1 rfl (Nat.le_of_ble_eq_true rfl) dX11_stale_31) (fun r_4 h_5 => ?_)
          rcases h_5 with ⟨mr_4, er_4, hr_4, rfl⟩ | ⟨hr_4, rfl⟩
          ·
            refine lv_astore (lv' := [(4, .ref (ad 15 mr_4)), (3, .int (nI i17)), (2, .int x17_2), (0, .ref (g 0)), (1, .int v0)]) hx hb dX11_stale_34 hl (by decide) rfl (fun ls hl => ?_)
            refine lv_aload hx hb dX11_stale_36 (lv_at hl 0 rfl) ?_
            refine lv_ifnull hx hb dX11_stale_38 ?_
            refine lv_aload hx hb dX11_stale_41 (lv_at hl 0 rfl) ?_
            refine gf_RX11_516 S hK hP _ (xf_5 (by omega)) (v := .int ((Fn 181) mr_4)) rfl dX11_stale_43 ?_
            refine lv_iconst (v := (-1)) hx hb dX11_stale_46 (by decide) ?_
            refine lv_icmp_eq (tgt := 54) hx hb dX11_stale_47 (by decide) (fun c_6 => ?_) (fun c_6 => ?_)
            ·
              have tc_6 : (((Fn 181) mr_4).toInt : Int) = (-1) := congrArg Int32.toInt c_6
              refine lv_iconst (v := 0) hx hb dX11_stale_54 (by decide) ?_
              refine lv_istore (lv' := [(5, .int 0), (4, .ref (ad 15 mr_4)), (3, .int (nI i17)), (2, .int x17_2), (0, .ref (g 0)), (1, .int v0)]) hx hb dX11_stale_55 hl (by decide) rfl (fun ls hl => ?_)
              refine lv_iload_n hx hb dX11_stale_57 rfl (lv_at hl 3 rfl) ?_
              refine lv_iload hx hb dX11_stale_58 (lv_at hl 0 rfl) ?_
              refine lv_if_eq (tgt := 83) hx hb dX11_stale_60 (by decide) (fun _ => ?_) (fun h => absurd h (by decide))
              refine lv_iconst (v := 0) hx hb dX11_stale_83 (by decide) ?_
              refine lv_ior hx hb dX11_stale_84 ?_
              refine lv_istore_n (lv' := [(2, .int (x17_2 ||| 0)), (5, .int 0), (4, .ref (ad 15 mr_4)), (3, .int (nI i17)), (0, .ref (g 0)), (1, .int v0)]) hx hb dX11_stale_85 rfl hl (by decide) rfl (fun ls hl => ?_)
              refine lv_iinc (v := (nI (i17 + 1))) (lv' := [(3, .int (nI (i17 + 1))), (2, .int (x17_2 ||| 0)), (5, .int 0), (4, .ref (ad 15 mr_4)), (0, .ref (g 0)), (1, .int v0)]) hx hb dX11_stale_86 hl (k := 3) rfl (nI_1 _) (by decide) rfl (fun ls hl => ?_)
              refine lv_goto (tgt := 17) hx hb dX11_stale_89 (by decide) ?_
              exact ih17 (i17 + 1) (x17_2 ||| 0) (by omega) ⟨(by omega), ⟨x17_2, hx17_0, Or.inr ⟨fun ⟨m9, h9, p9, q9⟩ => by have e9 := Option.some.inj (h9.symm.trans (show lat (Fn 180) (Fn 182) (nI i17) (nI (cn 0)) (cn 15) = some mr_4 by assumption)); rw [e9] at p9 q9; first | omega | exact p9 (m1_of (by omega)), Int32.or_zero⟩⟩⟩ ls (lv_sub hl [0, 1, 4, 5] rfl)
            ·
              have tc_6 : (((Fn 181) mr_4).toInt : Int) ≠ (-1) := fun q => c_6 (Int32.toInt_inj.mp q)
              refine lv_iconst (v := 1) hx hb dX11_stale_50 (by decide) ?_
              refine lv_goto (tgt := 55) hx hb dX11_stale_51 (by decide) ?_
              refine lv_istore (lv' := [(5, .int 1), (4, .ref (ad 15 mr_4)), (3, .int (nI i17)), (2, .int x17_2), (0, .ref (g 0)), (1, .int v0)]) hx hb dX11_stale_55 hl (by decide) rfl (fun ls hl => ?_)
              refine lv_iload_n hx hb dX11_stale_57 rfl (lv_at hl 3 rfl) ?_
              refine lv_iload hx hb dX11_stale_58 (lv_at hl 0 rfl) ?_
              refine lv_if_eq (tgt := 83) hx hb dX11_stale_60 (by decide) (fun h => absurd h (by decide)) (fun _ => ?_)
              refine lv_aload_n hx hb dX11_stale_63 rfl (lv_at hl 4 rfl) ?_
              refine gf_RX11_103 S hK hP 0 xo_0 (v := .int (nI (cn 0))) rfl dX11_stale_64 ?_
              refine lv_aload hx hb dX11_stale_67 (lv_at hl 1 rfl) ?_
              refine gf_RX11_508 S hK hP _ (xf_5 (by omega)) (v := .int ((Fn 182) mr_4)) rfl dX11_stale_69 ?_
              refine lv_isub hx hb dX11_stale_72 ?_
              refine lv_iload_n hx hb dX11_stale_73 rfl (lv_at hl 5 rfl) ?_
              refine lv_icmp_lt (tgt := 83) hx hb dX11_stale_74 (by decide) (fun c_7 => ?_) (fun c_7 => ?_)
              ·
                have tc_7 : (((nI (cn 0)) - ((Fn 182) mr_4)).toInt : Int) < v0.toInt := Int32.lt_iff_toInt_lt.mp c_7
                refine lv_iconst (v := 0) hx hb dX11_stale_83 (by decide) ?_
                refine lv_ior hx hb dX11_stale_84 ?_
                refine lv_istore_n (lv' := [(2, .int (x17_2 ||| 0)), (5, .int 1), (4, .ref (ad 15 mr_4)), (3, .int (nI i17)), (0, .ref (g 0)), (1, .int v0)]) hx hb dX11_stale_85 rfl hl (by decide) rfl (fun ls hl => ?_)
                refine lv_iinc (v := (nI (i17 + 1))) (lv' := [(3, .int (nI (i17 + 1))), (2, .int (x17_2 ||| 0)), (5, .int 1), (4, .ref (ad 15 mr_4)), (0, .ref (g 0)), (1, .int v0)]) hx hb dX11_stale_86 hl (k := 3) rfl (nI_1 _) (by decide) rfl (fun ls hl => ?_)
                refine lv_goto (tgt := 17) hx hb dX11_stale_89 (by decide) ?_
                exact ih17 (i17 + 1) (x17_2 ||| 0) (by omega) ⟨(by omega), ⟨x17_2, hx17_0, Or.inr ⟨fun ⟨m9, h9, p9, q9⟩ => by have e9 := Option.some.inj (h9.symm.trans (show lat (Fn 180) (Fn 182) (nI i17) (nI (cn 0)) (cn 15) = some mr_4 by assumption)); rw [e9] at p9 q9; first | omega | exact p9 (m1_of (by omega)), Int32.or_zero⟩⟩⟩ ls (lv_sub hl [0, 1, 4, 5] rfl)
              ·
                have tc_7 : (v0.toInt : Int) ≤ ((nI (cn 0)) - ((Fn 182) mr_4)).toInt := Int32.le_iff_toInt_le.mp (Int32.not_lt.mp c_7)
                refine lv_iconst (v := 1) hx hb dX11_stale_77 (by decide) ?_
                refine lv_iload_n hx hb dX11_stale_78 rfl (lv_at hl 2 rfl) ?_
                refine lv_ishl hx hb dX11_stale_79 ?_
                refine lv_goto (tgt := 84) hx hb dX11_stale_80 (by decide) ?_
                refine lv_ior hx hb dX11_stale_84 ?_
                refine lv_istore_n (lv' := [(2, .int (x17_2 ||| (1 <<< ((nI i17) &&& 31)))), (5, .int 1), (4, .ref (ad 15 mr_4)), (3, .int (nI i17)), (0, .ref (g 0)), (1, .int v0)]) hx hb dX11_stale_85 rfl hl (by decide) rfl (fun ls hl => ?_)
                refine lv_iinc (v := (nI (i17 + 1))) (lv' := [(3, .int (nI (i17 + 1))), (2, .int (x17_2 ||| (1 <<< ((nI i17) &&& 31)))), (5, .int 1), (4, .ref (ad 15 mr_4)), (0, .ref (g 0)), (1, .int v0)]) hx hb dX11_stale_86 hl (k := 3) rfl (nI_1 _) (by decide) rfl (fun ls hl => ?_)
                refine lv_goto (tgt := 17) hx hb dX11_stale_89 (by decide) ?_
                exact ih17 (i17 + 1) (x17_2 ||| (1 <<< ((nI i17) &&& 31))) (by omega) ⟨(by omega), ⟨x17_2, hx17_0, Or.inl ⟨⟨mr_4, by assumption, fun q9 => by have := m1_to q9; omega, by omega⟩, rfl⟩⟩⟩ ls (lv_sub hl [0, 1, 4, 5] rfl)
          ·
            refine lv_astoreN (lv' := [(4, .null), (3, .int (nI i17)), (2, .int x17_2), (0, .ref (g 0)), (1, .int v0)]) hx hb dX11_stale_34 hl (by decide) rfl (fun ls hl => ?_)
            refine lv_aloadN hx hb dX11_stale_36 (lv_at hl 0 rfl) ?_
            refine lv_ifnullN (tgt := 54) hx hb dX11_stale_38 (by decide) ?_
            refine lv_iconst (v := 0) hx hb dX11_stale_54 (by decide) ?_
            refine lv_istore (lv' := [(5, .int 0), (4, .null), (3, .int (nI i17)), (2, .int x17_2), (0, .ref (g 0)), (1, .int v0)]) hx hb dX11_stale_55 hl (by decide) rfl (fun ls hl => ?_)
            refine lv_iload_n hx hb dX11_stale_57 rfl (lv_at hl 3 rfl) ?_
            refine lv_iload hx hb dX11_stale_58 (lv_at hl 0 rfl) ?_
            refine lv_if_eq (tgt := 83) hx hb dX11_stale_60 (by decide) (fun _ => ?_) (fun h => absurd h (by decide))
            refine lv_iconst (v := 0) hx hb dX11_stale_83 (by decide) ?_
            refine lv_ior hx hb dX11_stale_84 ?_
            refine lv_istore_n (lv' := [(2, .int (x17_2 ||| 0)), (5, .int 0), (4, .null), (3, .int (nI i17)), (0, .ref (g 0)), (1, .int v0)]) hx hb dX11_stale_85 rfl hl (by decide) rfl (fun ls hl => ?_)
            refine lv_iinc (v := (nI (i17 + 1))) (lv' := [(3, .int (nI (i17 + 1))), (2, .int (x17_2 ||| 0)), (5, .int 0), (4, .null), (0, .ref (g 0)), (1, .int v0)]) hx hb dX11_stale_86 hl (k := 3) rfl (nI_1 _) (by decide) rfl (fun ls hl => ?_)
            refine lv_goto (tgt := 17) hx hb dX11_stale_89 (by decide) ?_
            exact ih17 (i17 + 1) (x17_2 ||| 0) (by omega) ⟨(by omega), ⟨x17_2, hx17_0, Or.inr ⟨fun ⟨m9, h9, _⟩ => by have e9 := h9.symm.trans (show lat (Fn 180) (Fn 182) (nI i17) (nI (cn 0)) (cn 15) = none by assumption); cases e9, Int32.or_zero⟩⟩⟩ ls (lv_sub hl [0, 1, 4, 5] rfl)
    exact lp_17 _ 0 0 (Nat.lt_succ_self _) ⟨(by omega), rfl⟩ ls (lv_sub hl [0, 1, 2, 3] rfl)
  ·
    have h_2 : ¬ (0 ≤ v0.toInt ∧ v0.toInt ≤ 399) := h_2
    refine lv_if_ne (tgt := 13) hx hb dX11_stale_8 (by decide) (fun h => absurd h (by decide)) (fun _ => ?_)
    refine lv_iconst (v := (-1)) hx hb dX11_stale_11 (by decide) ?_
    exact W.iret (v := (-1)) hx hb hr (fun t ht hW => ⟨(-1), rfl, (Or.inr ⟨by omega, rfl⟩), ht⟩) (fun _ h => absurd h List.not_mem_nil) dX11_stale_12
set_option maxRecDepth 100000 in
set_option maxHeartbeats 4000000 in
theorem q_stale9 (l : Launch) (D : va_G) (cI cB cZ : ClassId) (g : Nat → Nat) (cn : Nat → Nat) (In : Nat → Int32) (Fn : Nat → Nat → Int32) (v0 : Int32) (hI : IM cn Fn) : Met l yX12_stale (CWS yX12_stale cX12_stale 5 (some .int)) (RM 1 0 0) (PBr [.ref (g 100), .int v0] D cI cB cZ (wM cI cB cZ g cn In Fn)) (vp_Si (fun r => ((0 ≤ v0.toInt ∧ v0.toInt ≤ 399) ∧ BSB (SBP (Fn 59) (Fn 60) (Fn 61) (cn 58) (nI (cn 0)) v0) (cn 57) r) ∨ (¬ (0 ≤ v0.toInt ∧ v0.toInt ≤ 399) ∧ r = -1))) 0 0 (fun _ => False) := by
  refine Met.ofW (cc := cX12_stale) (maxL := 5) (ret := (some .int)) (by decide) rfl ?_
  intro p e s m args below meth c s₁ B hml hv
  obtain ⟨rfl, hP, hK⟩ := hv
  have hx := B.exec
  have hb := B.bytes
  have hr := B.returns
  have hts := atoms_spec (ws := (CWS yX12_stale cX12_stale 5 (some .int))) B.pre
  have hown : s.vm.findClass RX12 = some m.cls := findClass_of_methodNamed B.named
  have hlocks := B.notSynchronized
  have S : SF p m c cX12_stale 5 s ([.ref (g 100), .int v0]).toArray RX12 := ⟨hx, hb, hml, hown, fun w h => hts w (List.mem_cons_of_mem _ h)⟩
  have hl := lv_entry ([.ref (g 100), .int v0]) (n := 5) (Nat.le_of_ble_eq_true rfl)
  rw [lg_entry_eq]
  generalize (lg_sl ([.ref (g 100), .int v0]) ++ List.replicate (5 - (lg_sl ([.ref (g 100), .int v0])).length) Slot.unset).toArray = ls at hl ⊢
  have hl : lv_has ls 5 [(0, .ref (g 100)), (1, .int v0)] := hl
  have hi_cn := hI.b
  refine lv_iload_n hx hb dX12_stale_0 rfl (lv_at hl 1 rfl) ?_
  refine vp_callSi (runS_r (As := [.int v0]) (rest := []) S (q_isDay l D cI cB cZ v0 ) kS_RX12_341 hK hP [] rfl ⟨Nat.le_of_ble_eq_true rfl, Nat.le_of_ble_eq_true rfl⟩ ⟨Nat.le_of_ble_eq_true rfl, Nat.le_of_ble_eq_true rfl⟩ rfl hl.1 rfl (Nat.le_of_ble_eq_true rfl) dX12_stale_1) (fun r_1 h_2 => ?_)
  rcases h_2 with ⟨rfl, h_2⟩ | ⟨rfl, h_2⟩
  ·
    have h_2 : 0 ≤ v0.toInt ∧ v0.toInt ≤ 399 := h_2
    refine lv_if_ne (tgt := 9) hx hb dX12_stale_4 (by decide) (fun _ => ?_) (fun h => absurd h (by decide))
    refine lv_iconst (v := 0) hx hb dX12_stale_9 (by decide) ?_
    refine lv_istore_n (lv' := [(2, .int 0), (0, .ref (g 100)), (1, .int v0)]) hx hb dX12_stale_10 rfl hl (by decide) rfl (fun ls hl => ?_)
    refine lv_iconst (v := 0) hx hb dX12_stale_11 (by decide) ?_
    refine lv_istore_n (lv' := [(3, .int 0), (2, .int 0), (0, .ref (g 100)), (1, .int v0)]) hx hb dX12_stale_12 rfl hl (by decide) rfl (fun ls hl => ?_)
    have lp_13 : ∀ (n : Nat) (i13 : Nat) (x13_2 : Int32) , cn 57 - i13 < n → (i13 ≤ cn 57 ∧ (BSB (SBP (Fn 59) (Fn 60) (Fn 61) (cn 58) (nI (cn 0)) v0) i13 x13_2)) → ∀ ls : Array Slot, lv_has ls 5 [(3, .int (nI i13)), (2, .int x13_2), (0, .ref (g 100)), (1, .int v0)] → W p l e (RM 1 0 0) s m ([.ref (g 100), .int v0]).toArray below meth c s.heap [] 0 0 (MQ below (vp_Si (fun r => ((0 ≤ v0.toInt ∧ v0.toInt ≤ 399) ∧ BSB (SBP (Fn 59) (Fn 60) (Fn 61) (cn 58) (nI (cn 0)) v0) (cn 57) r) ∨ (¬ (0 ≤ v0.toInt ∧ v0.toInt ≤ 399) ∧ r = -1))) ([.ref (g 100), .int v0]).toArray s 0 0 (fun _ => False)) (F0 m 13 ls []) := by
      intro n13
      induction n13 with
      | zero => intros; omega
      | succ n13 ih13 =>
        intro i13 x13_2 hmu13 hinv13 ls hl
        obtain ⟨hr13, hx13_0⟩ := hinv13
        have ti13 : (nI i13).toInt = (i13 : Int) := nI_toInt (by omega)
        refine lv_iload_n hx hb dX12_stale_13 rfl (lv_at hl 0 rfl) ?_
        refine lv_aload_n hx hb dX12_stale_14 rfl (lv_at hl 2 rfl) ?_
        refine gM_407 S hK hP (v := .int (nI (cn 57))) rfl dX12_stale_15 ?_
        have : (nI (cn 57)).toInt = (((cn 57) : Nat) : Int) := nI_toInt (by omega)
        refine lv_icmp_ge (tgt := 77) hx hb dX12_stale_18 (by decide) (fun c_3 => ?_) (fun c_3 => ?_)
        ·
          have tc_3 : ((nI (cn 57)).toInt : Int) ≤ (nI i13).toInt := Int32.le_iff_toInt_le.mp c_3
          refine lv_iload_n hx hb dX12_stale_77 rfl (lv_at hl 1 rfl) ?_
          exact W.iret (v := x13_2) hx hb hr (fun t ht hW => ⟨x13_2, rfl, (Or.inl ⟨by omega, by have e9 : i13 = cn 57 := (by omega); rw [← e9]; exact hx13_0⟩), ht⟩) (fun _ h => absurd h List.not_mem_nil) dX12_stale_78
        ·
          have tc_3 : ((nI i13).toInt : Int) < (nI (cn 57)).toInt := Int32.lt_iff_toInt_lt.mp (Int32.not_le.mp c_3)
          refine lv_aload_n hx hb dX12_stale_21 rfl (lv_at hl 2 rfl) ?_
          refine lv_iload_n hx hb dX12_stale_22 rfl (lv_at hl 0 rfl) ?_
          refine lv_aload_n hx hb dX12_stale_23 rfl (lv_at hl 2 rfl) ?_
          refine gM_211 S hK hP (v := .int (nI (cn 0))) rfl dX12_stale_24 ?_
          refine vp_callSi (runV_ra (As := [.int (nI i13), .int (nI (cn 0))]) (rest := []) S (q_latest9 l D cI cB cZ g cn In Fn (nI i13) (nI (cn 0)) hI) kV_RX12_416 hK hP 0 rfl rfl rfl ⟨Nat.le_of_ble_eq_true rfl, Nat.le_of_ble_eq_true rfl⟩ ⟨Nat.le_of_ble_eq_true rfl, Nat.le_of_ble_eq_true rfl⟩ rfl hl.1 rfl (Nat.le_of_ble_eq_true rfl) dX12_stale_27) (fun r_4 h_5 => ?_)
          rcases h_5 with ⟨rfl, g8⟩ | ⟨m8, h8, rfl, g8⟩
          ·
            refine lv_istore (lv' := [(4, .int (-1)), (3, .int (nI i13)), (2, .int x13_2), (0, .ref (g 100)), (1, .int v0)]) hx hb dX12_stale_30 hl (by decide) rfl (fun ls hl => ?_)
            refine lv_iload hx hb dX12_stale_32 (lv_at hl 0 rfl) ?_
            refine lv_iconst (v := (-1)) hx hb dX12_stale_34 (by decide) ?_
            refine lv_icmp_eq (tgt := 71) hx hb dX12_stale_35 (by decide) (fun _ => ?_) (fun h => absurd h (by decide))
            refine lv_iinc (v := (nI (i13 + 1))) (lv' := [(3, .int (nI (i13 + 1))), (4, .int (-1)), (2, .int x13_2), (0, .ref (g 100)), (1, .int v0)]) hx hb dX12_stale_71 hl (k := 1) rfl (nI_1 _) (by decide) rfl (fun ls hl => ?_)
            refine lv_goto (tgt := 13) hx hb dX12_stale_74 (by decide) ?_
            exact ih13 (i13 + 1) x13_2 (by omega) ⟨(by omega), ⟨x13_2, hx13_0, Or.inr ⟨fun ⟨m9, h9, _⟩ => by have e9 := h9.symm.trans (show lat (Fn 59) (Fn 61) (nI i13) (nI (cn 0)) (cn 58) = none by assumption); cases e9, rfl⟩⟩⟩ ls (lv_sub hl [0, 2, 3, 4] rfl)
          ·
            have t8 : (nI m8).toInt = (m8 : Int) := nI_toInt (by omega)
            refine lv_istore (lv' := [(4, .int (nI m8)), (3, .int (nI i13)), (2, .int x13_2), (0, .ref (g 100)), (1, .int v0)]) hx hb dX12_stale_30 hl (by decide) rfl (fun ls hl => ?_)
            refine lv_iload hx hb dX12_stale_32 (lv_at hl 0 rfl) ?_
            refine lv_iconst (v := (-1)) hx hb dX12_stale_34 (by decide) ?_
            refine lv_icmp_eq (tgt := 71) hx hb dX12_stale_35 (by decide) (fun c_6 => False.elim (by have tc_6 : ((nI m8).toInt : Int) = (-1) := congrArg Int32.toInt c_6; omega)) (fun c_6 => ?_)
            have tc_6 : ((nI m8).toInt : Int) ≠ (-1) := fun q => c_6 (Int32.toInt_inj.mp q)
            refine lv_aload_n hx hb dX12_stale_38 rfl (lv_at hl 3 rfl) ?_
            refine gM_132 S hK hP (v := .ref (g 60)) rfl dX12_stale_39 ?_
            refine lv_iload hx hb dX12_stale_42 (lv_at hl 0 rfl) ?_
            refine ldM_60 hx hb hK hP (x := ((Fn 60) m8)) (vp_in_nI (by omega) (by decide)) (nI_clamp (by omega)) rfl dX12_stale_44 ?_
            refine lv_iconst (v := (-1)) hx hb dX12_stale_45 (by decide) ?_
            refine lv_icmp_eq (tgt := 71) hx hb dX12_stale_46 (by decide) (fun c_7 => ?_) (fun c_7 => ?_)
            ·
              have tc_7 : (((Fn 60) m8).toInt : Int) = (-1) := congrArg Int32.toInt c_7
              refine lv_iinc (v := (nI (i13 + 1))) (lv' := [(3, .int (nI (i13 + 1))), (4, .int (nI m8)), (2, .int x13_2), (0, .ref (g 100)), (1, .int v0)]) hx hb dX12_stale_71 hl (k := 1) rfl (nI_1 _) (by decide) rfl (fun ls hl => ?_)
              refine lv_goto (tgt := 13) hx hb dX12_stale_74 (by decide) ?_
              exact ih13 (i13 + 1) x13_2 (by omega) ⟨(by omega), ⟨x13_2, hx13_0, Or.inr ⟨fun ⟨m9, h9, p9, q9⟩ => by have e9 := Option.some.inj (h9.symm.trans (show lat (Fn 59) (Fn 61) (nI i13) (nI (cn 0)) (cn 58) = some m8 by assumption)); rw [e9] at p9 q9; first | omega | exact p9 (m1_of (by omega)), rfl⟩⟩⟩ ls (lv_sub hl [0, 2, 3, 4] rfl)
            ·
              have tc_7 : (((Fn 60) m8).toInt : Int) ≠ (-1) := fun q => c_7 (Int32.toInt_inj.mp q)
              refine lv_aload_n hx hb dX12_stale_49 rfl (lv_at hl 3 rfl) ?_
              refine gM_211 S hK hP (v := .int (nI (cn 0))) rfl dX12_stale_50 ?_
              refine lv_aload_n hx hb dX12_stale_53 rfl (lv_at hl 3 rfl) ?_
              refine gM_135 S hK hP (v := .ref (g 61)) rfl dX12_stale_54 ?_
              refine lv_iload hx hb dX12_stale_57 (lv_at hl 0 rfl) ?_
              refine ldM_61 hx hb hK hP (x := ((Fn 61) m8)) (vp_in_nI (by omega) (by decide)) (nI_clamp (by omega)) rfl dX12_stale_59 ?_
              refine lv_isub hx hb dX12_stale_60 ?_
              refine lv_iload_n hx hb dX12_stale_61 rfl (lv_at hl 4 rfl) ?_
              refine lv_icmp_lt (tgt := 71) hx hb dX12_stale_62 (by decide) (fun c_8 => ?_) (fun c_8 => ?_)
              ·
                have tc_8 : (((nI (cn 0)) - ((Fn 61) m8)).toInt : Int) < v0.toInt := Int32.lt_iff_toInt_lt.mp c_8
                refine lv_iinc (v := (nI (i13 + 1))) (lv' := [(3, .int (nI (i13 + 1))), (4, .int (nI m8)), (2, .int x13_2), (0, .ref (g 100)), (1, .int v0)]) hx hb dX12_stale_71 hl (k := 1) rfl (nI_1 _) (by decide) rfl (fun ls hl => ?_)
                refine lv_goto (tgt := 13) hx hb dX12_stale_74 (by decide) ?_
                exact ih13 (i13 + 1) x13_2 (by omega) ⟨(by omega), ⟨x13_2, hx13_0, Or.inr ⟨fun ⟨m9, h9, p9, q9⟩ => by have e9 := Option.some.inj (h9.symm.trans (show lat (Fn 59) (Fn 61) (nI i13) (nI (cn 0)) (cn 58) = some m8 by assumption)); rw [e9] at p9 q9; first | omega | exact p9 (m1_of (by omega)), rfl⟩⟩⟩ ls (lv_sub hl [0, 2, 3, 4] rfl)
              ·
                have tc_8 : (v0.toInt : Int) ≤ ((nI (cn 0)) - ((Fn 61) m8)).toInt := Int32.le_iff_toInt_le.mp (Int32.not_lt.mp c_8)
                refine lv_iload_n hx hb dX12_stale_65 rfl (lv_at hl 2 rfl) ?_
                refine lv_iconst (v := 1) hx hb dX12_stale_66 (by decide) ?_
                refine lv_iload_n hx hb dX12_stale_67 rfl (lv_at hl 1 rfl) ?_
                refine lv_ishl hx hb dX12_stale_68 ?_
                refine lv_ior hx hb dX12_stale_69 ?_
                refine lv_istore_n (lv' := [(2, .int (x13_2 ||| (1 <<< ((nI i13) &&& 31)))), (4, .int (nI m8)), (3, .int (nI i13)), (0, .ref (g 100)), (1, .int v0)]) hx hb dX12_stale_70 rfl hl (by decide) rfl (fun ls hl => ?_)
                refine lv_iinc (v := (nI (i13 + 1))) (lv' := [(3, .int (nI (i13 + 1))), (2, .int (x13_2 ||| (1 <<< ((nI i13) &&& 31)))), (4, .int (nI m8)), (0, .ref (g 100)), (1, .int v0)]) hx hb dX12_stale_71 hl (k := 2) rfl (nI_1 _) (by decide) rfl (fun ls hl => ?_)
                refine lv_goto (tgt := 13) hx hb dX12_stale_74 (by decide) ?_
                exact ih13 (i13 + 1) (x13_2 ||| (1 <<< ((nI i13) &&& 31))) (by omega) ⟨(by omega), ⟨x13_2, hx13_0, Or.inl ⟨⟨m8, by assumption, fun q9 => by have := m1_to q9; omega, by omega⟩, rfl⟩⟩⟩ ls (lv_sub hl [0, 1, 3, 4] rfl)
    exact lp_13 _ 0 0 (Nat.lt_succ_self _) ⟨(by omega), rfl⟩ ls (lv_sub hl [0, 1, 2, 3] rfl)
  ·
    have h_2 : ¬ (0 ≤ v0.toInt ∧ v0.toInt ≤ 399) := h_2
    refine lv_if_ne (tgt := 9) hx hb dX12_stale_4 (by decide) (fun h => absurd h (by decide)) (fun _ => ?_)
    refine lv_iconst (v := (-1)) hx hb dX12_stale_7 (by decide) ?_
    exact W.iret (v := (-1)) hx hb hr (fun t ht hW => ⟨(-1), rfl, (Or.inr ⟨by omega, rfl⟩), ht⟩) (fun _ h => absurd h List.not_mem_nil) dX12_stale_8
