set_option maxRecDepth 100000 in
set_option maxHeartbeats 4000000 in
theorem q_c_fill (l : Launch) (D : va_G) (cI cB cZ : ClassId) (a : Nat) (sz : Nat) : Met l yJ7_fill_53178 (CWS yJ7_fill_53178 cJ7_fill_53178 4 none) (RM 0 0 0) (PBw [.ref a, .int 15] D cI cB cZ [(a, .inl (cI, 400, .inl (fun _ => 0)))] sz) (va_Qv (fun (_ : Unit) => True) (fun (u : Unit) (t : State) => va_P D vwCl [(a, .inl (cI, 400, .inl (dgF 400)))] t.heap ∧ va_D (va_A [(a, .inl (cI, 400, .inl (fun _ => 0)))] sz) [(a, .inl (cI, 400, .inl (dgF 400)))]) (va_A [(a, .inl (cI, 400, .inl (fun _ => 0)))] sz)) 0 0 (va_A [(a, .inl (cI, 400, .inl (fun _ => 0)))] sz) := by
  refine Met.ofW (cc := cJ7_fill_53178) (maxL := 4) (ret := none) (by decide) rfl ?_
  intro p e s m args below meth c s₁ B hml hv
  obtain ⟨rfl, hsz, hP, hK, hD0⟩ := hv
  have hx := B.exec
  have hb := B.bytes
  have hr := B.returns
  have hts := atoms_spec (ws := (CWS yJ7_fill_53178 cJ7_fill_53178 4 none)) B.pre
  have hown : s.vm.findClass RJ7 = some m.cls := findClass_of_methodNamed B.named
  have hlocks := B.notSynchronized
  have S : SF p m c cJ7_fill_53178 4 s ([.ref a, .int 15]).toArray RJ7 := ⟨hx, hb, hml, hown, fun w h => hts w (List.mem_cons_of_mem _ h)⟩
  subst hsz
  have hD := hD0.self (sz := s.heap.size)
  generalize hAe : va_A [(a, .inl (cI, 400, .inl (fun _ => 0)))] s.heap.size = A at hD ⊢
  have hA : ∀ q : Nat, s.heap.size ≤ q → A q := fun q h => by rw [← hAe]; exact Or.inr h
  have hS : va_S A s.heap s.heap [] := va_S.rf
  have hP : va_P D vwCl [(a, .inl (cI, 400, .inl (fun _ => 0)))] s.heap := hP
  have hD : va_D A [(a, .inl (cI, 400, .inl (fun _ => 0)))] := hD
  have hl := lv_entry ([.ref a, .int 15]) (n := 4) (Nat.le_of_ble_eq_true rfl)
  rw [lg_entry_eq]
  generalize (lg_sl ([.ref a, .int 15]) ++ List.replicate (4 - (lg_sl ([.ref a, .int 15])).length) Slot.unset).toArray = ls at hl ⊢
  have hl : lv_has ls 4 [(0, .ref a), (1, .int 15)] := hl
  refine lv_iconst (v := 0) hx hb dJ7_fill_53178_0 kic_0 ?_
  refine lv_istore_n (lv' := [(2, .int 0), (0, .ref a), (1, .int 15)]) hx hb dJ7_fill_53178_1 rfl hl (ltb rfl) rfl (fun ls hl => ?_)
  refine lv_aload_n hx hb dJ7_fill_53178_2 rfl (lv_at hl 1 rfl) ?_
  refine va_alen hx hb hK.1 hP 0 0 rfl rfl (v := 400) rfl dJ7_fill_53178_3 ?_
  refine lv_istore_n (lv' := [(3, .int 400), (2, .int 0), (0, .ref a), (1, .int 15)]) hx hb dJ7_fill_53178_4 rfl hl (ltb rfl) rfl (fun ls hl => ?_)
  have hP : va_P D vwCl [(a, .inl (cI, 400, .inl (dgF 0)))] s.heap := by rw [dgF_0]; exact hP
  have hD : va_D A [(a, .inl (cI, 400, .inl (dgF 0)))] := by rw [dgF_0]; exact hD
  have lp_5 : ∀ (n i : Nat), 400 + 1 ≤ i + n → i ≤ 400 → ∀ (H : Heap) (locs : List Loc), va_P D vwCl [(a, .inl (cI, 400, .inl (dgF i)))] H → va_D A [(a, .inl (cI, 400, .inl (dgF i)))] → va_S A s.heap H locs → ∀ ls : Array Slot, lv_has ls 4 [(3, .int 400), (2, .int (nI i)), (0, .ref a), (1, .int 15)] → W p l e (RM 0 0 0) s m ([.ref a, .int 15]).toArray below meth c H locs 0 0 (MQ below (va_Qv (fun (_ : Unit) => True) (fun (u : Unit) (t : State) => va_P D vwCl [(a, .inl (cI, 400, .inl (dgF 400)))] t.heap ∧ va_D A [(a, .inl (cI, 400, .inl (dgF 400)))]) A) ([.ref a, .int 15]).toArray s 0 0 A) (F0 m 5 ls []) := by
    intro n
    induction n with
    | zero => intro i h1 h2; exact absurd h1 (by omega)
    | succ n ih =>
      intro i hn1 hi H locs hP hD hS ls hl
      have ti : (nI i).toInt = (i : Int) := nI_toInt (by omega)
      refine lv_iload_n hx hb dJ7_fill_53178_5 rfl (lv_at hl 1 rfl) ?_
      refine lv_iload_n hx hb dJ7_fill_53178_6 rfl (lv_at hl 0 rfl) ?_
      refine lv_icmp_ge (tgt := 20) hx hb dJ7_fill_53178_7 rfl (fun c_1 => ?_) (fun c_1 => ?_)
      ·
        have tc_1 : (400 : Int) ≤ (nI i).toInt := Int32.le_iff_toInt_le.mp c_1
        obtain rfl : i = 400 := by omega
        have hP9 := hP.sub (ws' := [(a, .inl (cI, 400, .inl (dgF 400)))]) [0] rfl
        have hD9 := hD.sub (ws' := [(a, .inl (cI, 400, .inl (dgF 400)))]) [0] (by decide) rfl
        exact W.vret hx hb hr (fun t ht hW => ⟨⟨(), rfl, trivial, by rw [ht]; exact hP9, hD9⟩, hS.F ht⟩) hS.2.2 dJ7_fill_53178_20
      ·
        have tc_1 : ((nI i).toInt : Int) < 400 := Int32.lt_iff_toInt_lt.mp (Int32.not_le.mp c_1)
        refine lv_aload_n hx hb dJ7_fill_53178_10 rfl (lv_at hl 2 rfl) ?_
        refine lv_iload_n hx hb dJ7_fill_53178_11 rfl (lv_at hl 1 rfl) ?_
        refine lv_iload_n hx hb dJ7_fill_53178_12 rfl (lv_at hl 3 rfl) ?_
        refine va_iast hx hb hK.1 hP hD hS 0 0 rfl rfl (vp_in_iff.mpr ⟨by omega, by omega⟩) dJ7_fill_53178_13 (fun H locs hP hD hS => ?_)
        rw [nI_clamp (by omega), dgF_s] at hP hD
        have hP : va_P D vwCl [(a, .inl (cI, 400, .inl (dgF (i + 1))))] H := hP
        have hD : va_D A [(a, .inl (cI, 400, .inl (dgF (i + 1))))] := hD
        refine lv_iinc (v := (nI (i + 1))) (lv' := [(2, .int (nI (i + 1))), (3, .int 400), (0, .ref a), (1, .int 15)]) hx hb dJ7_fill_53178_14 hl (k := 1) rfl (nI_1 _) (ltb rfl) rfl (fun ls hl => ?_)
        refine lv_goto (tgt := 5) hx hb dJ7_fill_53178_17 rfl ?_
        exact ih (i + 1) (by omega) (by omega) _ _ hP hD hS ls (lv_sub hl [1, 0, 2, 3] rfl)
  exact lp_5 (400 + 1) 0 (by omega) (by omega) _ _ hP hD hS ls (lv_sub hl [0, 1, 2, 3] rfl)
