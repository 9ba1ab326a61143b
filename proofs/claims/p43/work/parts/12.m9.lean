theorem nin31 {k : Nat} (h : 32 ≤ k) : k ∉ [27, 28, 29, 30, 31] := by
  intro q
  simp at q
  omega
theorem new_cl {C D f34 f35 f36 : Nat → Int32} {t cm n a g b : Nat} (H : ∀ q : Nat, q < n → ClOK D (180 * t) (f34 (12 * t + q)) (f35 (12 * t + q)) (f36 (12 * t + q))) (e : ∀ k : Nat, k < cm → D (180 * t + k) = C k) (hcm : cm ≤ 160) (k1 : a ≤ g) (k2 : g ≤ b) (k3 : b ≤ cm) (s1 : SegOK C 0 a g) (s2 : SegOK C 0 g b) : ∀ q : Nat, q < n + 1 → ClOK D (180 * t) (upd f34 (12 * t + n) (nI (180 * t + a)) (12 * t + q)) (upd f35 (12 * t + n) (nI (180 * t + g)) (12 * t + q)) (upd f36 (12 * t + n) (nI (180 * t + b)) (12 * t + q)) := fun q hq => by
  by_cases z : q = n
  · subst z
    rw [show upd f34 (12 * t + q) (nI (180 * t + a)) (12 * t + q) = nI (180 * t + a) by simp [upd], show upd f35 (12 * t + q) (nI (180 * t + g)) (12 * t + q) = nI (180 * t + g) by simp [upd], show upd f36 (12 * t + q) (nI (180 * t + b)) (12 * t + q) = nI (180 * t + b) by simp [upd]]
    exact ⟨180 * t + a, 180 * t + g, 180 * t + b, rfl, rfl, rfl, by omega, by omega, by omega, by omega, by omega, s1.mv (fun k hk => e k (by omega)), s2.mv (fun k hk => e k (by omega))⟩
  · rw [upd_nq (by omega), upd_nq (by omega), upd_nq (by omega)]
    exact H q (by omega)

theorem frq_24_0_1_2_46_57_58_62_63_75_83_44 {li lf : List Nat} {cn c2 : Nat → Nat} {In I2 : Nat → Int32} {Fn F2 : Nat → Nat → Int32} (h : Fr [24] li lf cn In Fn c2 I2 F2) : c2 0 = cn 0 ∧ c2 1 = cn 1 ∧ c2 2 = cn 2 ∧ c2 46 = cn 46 ∧ c2 57 = cn 57 ∧ c2 58 = cn 58 ∧ c2 62 = cn 62 ∧ c2 63 = cn 63 ∧ c2 75 = cn 75 ∧ c2 83 = cn 83 ∧ c2 44 = cn 44 := ⟨h.1 0 (nml rfl), h.1 1 (nml rfl), h.1 2 (nml rfl), h.1 46 (nml rfl), h.1 57 (nml rfl), h.1 58 (nml rfl), h.1 62 (nml rfl), h.1 63 (nml rfl), h.1 75 (nml rfl), h.1 83 (nml rfl), h.1 44 (nml rfl)⟩
theorem cq_eq_9_m1 : ¬((9 : Int32) = (-1)) := by decide
theorem cq_eq_8_m1 : ¬((8 : Int32) = (-1)) := by decide
theorem cq_eq_7_m1 : ¬((7 : Int32) = (-1)) := by decide
theorem frq_19_23_24_25_26_0_1_2_46_57_58_62_63_75_83_44 {li lf : List Nat} {cn c2 : Nat → Nat} {In I2 : Nat → Int32} {Fn F2 : Nat → Nat → Int32} (h : Fr [19, 23, 24, 25, 26] li lf cn In Fn c2 I2 F2) : c2 0 = cn 0 ∧ c2 1 = cn 1 ∧ c2 2 = cn 2 ∧ c2 46 = cn 46 ∧ c2 57 = cn 57 ∧ c2 58 = cn 58 ∧ c2 62 = cn 62 ∧ c2 63 = cn 63 ∧ c2 75 = cn 75 ∧ c2 83 = cn 83 ∧ c2 44 = cn 44 := ⟨h.1 0 (nml rfl), h.1 1 (nml rfl), h.1 2 (nml rfl), h.1 46 (nml rfl), h.1 57 (nml rfl), h.1 58 (nml rfl), h.1 62 (nml rfl), h.1 63 (nml rfl), h.1 75 (nml rfl), h.1 83 (nml rfl), h.1 44 (nml rfl)⟩
theorem frq_18_19_20_23_24_25_26_0_1_2_46_57_58_62_63_75_83_44 {li lf : List Nat} {cn c2 : Nat → Nat} {In I2 : Nat → Int32} {Fn F2 : Nat → Nat → Int32} (h : Fr [18, 19, 20, 23, 24, 25, 26] li lf cn In Fn c2 I2 F2) : c2 0 = cn 0 ∧ c2 1 = cn 1 ∧ c2 2 = cn 2 ∧ c2 46 = cn 46 ∧ c2 57 = cn 57 ∧ c2 58 = cn 58 ∧ c2 62 = cn 62 ∧ c2 63 = cn 63 ∧ c2 75 = cn 75 ∧ c2 83 = cn 83 ∧ c2 44 = cn 44 := ⟨h.1 0 (nml rfl), h.1 1 (nml rfl), h.1 2 (nml rfl), h.1 46 (nml rfl), h.1 57 (nml rfl), h.1 58 (nml rfl), h.1 62 (nml rfl), h.1 63 (nml rfl), h.1 75 (nml rfl), h.1 83 (nml rfl), h.1 44 (nml rfl)⟩

set_option maxRecDepth 100000 in
set_option maxHeartbeats 4000000 in
theorem q_endsPiece (l : Launch) (D : va_G) (cI cB cZ : ClassId) (g : Nat → Nat) (cn : Nat → Nat) (In : Nat → Int32) (Fn : Nat → Nat → Int32) (a0 s0 : Nat) (sz : Nat) (hI : IM cn Fn) (hPS : PBk (cn 19) (cn 20) (cn 23) (cn 24) (Fn 27) (Fn 28) a0 1 s0) (hC : CK (cn 24) (Fn 28)) : Met l yX12_endsPiece (CWS yX12_endsPiece cX12_endsPiece 1 none) (RM 1 0 0) (PBw [.ref (g 100)] D cI cB cZ (wM cI cB cZ g cn In Fn) sz) (va_Qv (fun (u : (Nat → Nat) × (Nat → Int32) × (Nat → Nat → Int32)) => (fun c2 I2 F2 => Fr [23, 24] [22] [27] cn In Fn c2 I2 F2 ∧ IM c2 F2 ∧ ((PBk (c2 19) (c2 20) (c2 23) (c2 24) (F2 27) (F2 28) a0 1 s0) ∧ (CK (c2 24) (F2 28)) ∧ (∀ k : Nat, k < a0 → F2 27 k = Fn 27 k))) u.1 u.2.1 u.2.2) (fun (u : (Nat → Nat) × (Nat → Int32) × (Nat → Nat → Int32)) (t : State) => va_P D vwCl (wM cI cB cZ g u.1 u.2.1 u.2.2) t.heap ∧ va_D (va_A (wM cI cB cZ g cn In Fn) sz) (wM cI cB cZ g u.1 u.2.1 u.2.2)) (va_A (wM cI cB cZ g cn In Fn) sz)) 0 0 (va_A (wM cI cB cZ g cn In Fn) sz) := by
  refine en_w (fun A => (va_Qv (fun (u : (Nat → Nat) × (Nat → Int32) × (Nat → Nat → Int32)) => (fun (c2 : Nat → Nat) (I2 : Nat → Int32) (F2 : Nat → Nat → Int32) => Fr [23, 24] [22] [27] cn In Fn c2 I2 F2 ∧ IM c2 F2 ∧ ((PBk (c2 19) (c2 20) (c2 23) (c2 24) (F2 27) (F2 28) a0 1 s0) ∧ (CK (c2 24) (F2 28)) ∧ (∀ k : Nat, k < a0 → F2 27 k = Fn 27 k))) u.1 u.2.1 u.2.2) (fun (u : (Nat → Nat) × (Nat → Int32) × (Nat → Nat → Int32)) (t : State) => va_P D vwCl (wM cI cB cZ g u.1 u.2.1 u.2.2) t.heap ∧ va_D A (wM cI cB cZ g u.1 u.2.1 u.2.2)) A)) rfl rfl pn_RX12 (Nat.le_of_ble_eq_true rfl) (fun p e s m below meth c A hx hb hml hown S hr hlocks hnm hA hP hK hD hS ls hl => ?_)
  have hl : lv_has ls 1 [(0, .ref (g 100))] := hl
  have hi_cn : Hid (CB cn) := hI.b
  have lp_0 : ∀ (n : Nat)  (cz : Nat → Nat) (Iz : Nat → Int32) (Fz : Nat → Nat → Int32) (H : Heap) (locs : List Loc) , cz 24 < n → (Fr [23, 24] [22] [27] cn In Fn cz Iz Fz ∧ IM cz Fz ∧ ((PBk (cz 19) (cz 20) (cz 23) (cz 24) (Fz 27) (Fz 28) a0 1 s0)) ∧ ((CK (cz 24) (Fz 28))) ∧ ((∀ k : Nat, k < a0 → Fz 27 k = Fn 27 k))) → va_P D vwCl (wM cI cB cZ g cz Iz Fz) H → va_D A (wM cI cB cZ g cz Iz Fz) → va_S A s.heap H locs → ∀ ls : Array Slot, lv_has ls 1 [(0, .ref (g 100))] → W p l e (RM 1 0 0) s m ([.ref (g 100)]).toArray below meth c H locs 0 0 (MQ below (va_Qv (fun (u : (Nat → Nat) × (Nat → Int32) × (Nat → Nat → Int32)) => (fun c2 I2 F2 => Fr [23, 24] [22] [27] cn In Fn c2 I2 F2 ∧ IM c2 F2 ∧ ((PBk (c2 19) (c2 20) (c2 23) (c2 24) (F2 27) (F2 28) a0 1 s0) ∧ (CK (c2 24) (F2 28)) ∧ (∀ k : Nat, k < a0 → F2 27 k = Fn 27 k))) u.1 u.2.1 u.2.2) (fun (u : (Nat → Nat) × (Nat → Int32) × (Nat → Nat → Int32)) (t : State) => va_P D vwCl (wM cI cB cZ g u.1 u.2.1 u.2.2) t.heap ∧ va_D A (wM cI cB cZ g u.1 u.2.1 u.2.2)) A) ([.ref (g 100)]).toArray s 0 0 A) (F0 m 0 ls []) := by
    intro n0
    induction n0 with
    | zero => intros; (first | omega | (have zz0 := Hid.u hi_cn; omega))
    | succ n0 ih0 =>
      intro  cz Iz Fz H locs hmu0 hinv0 hP hD hS ls hl
      obtain ⟨hfr0, hI0, hx0_0, hx0_1, hx0_2⟩ := hinv0
      have hi_cz : Hid (CB cz) := hI0.b
      have : cz 19 = cn 19 := hfr0.1 19 (nml rfl)
      have : cz 20 = cn 20 := hfr0.1 20 (nml rfl)
      have : cz 25 = cn 25 := hfr0.1 25 (nml rfl)
      have hq_cz := Hid.i (frq_23_24_0_1_2_46_57_58_62_63_75_83_44 hfr0)
      have hf0 := hx0_0.f
      have hc0 := hx0_1.1
      refine lv_aload_n hx hb (oc_42 0 shX12_endsPiece_0) rfl (lvA0 hl) ?_
      refine vp_callSi (runV_ra (As := []) (rest := []) S (q_top l D cI cB cZ g cz Iz Fz  hI0 hx0_0.w (by (first | omega | (have zz0 := Hid.u hi_cn; have zz1 := Hid.u hi_cz; have zz2 := Hid.u hq_cz; omega)))) kV_RX12_267 hK hP 0 rfl rfl rfl ⟨Nat.le_of_ble_eq_true rfl, Nat.le_of_ble_eq_true rfl⟩ ⟨Nat.le_of_ble_eq_true rfl, Nat.le_of_ble_eq_true rfl⟩ rfl hl.1 rfl (Nat.le_of_ble_eq_true rfl) (oc_182 1 (aq_1 shX12_endsPiece_0) uw_1_11)) (fun r_1 h_2 => ?_)
      refine lv_bipush (v := 10) hx hb (oc_16 4 (aq_4 shX12_endsPiece_0) sgb_10) kbc_10 ?_
      refine lv_icmp_ne (tgt := 39) hx hb (oc_160 6 (aq_6 shX12_endsPiece_0) sgw_0_33) rfl (fun c_3 => ?_) (fun c_3 => ?_)
      ·
        have tc_3 : (r_1.toInt : Int) ≠ 10 := fun q => c_3 (Int32.toInt_inj.mp q)
        exact W.vret hx hb hr (fun t ht hW => ⟨⟨(cz, Iz, Fz), rfl, ⟨(Fr.mo hfr0 (sbl rfl) (sbl rfl) (sbl rfl)), hI0, (by show (PBk (cz 19) (cz 20) (cz 23) (cz 24) (Fz 27) (Fz 28) a0 1 s0) ∧ (CK (cz 24) (Fz 28)) ∧ (∀ k : Nat, k < a0 → Fz 27 k = Fn 27 k); exact ⟨hx0_0, hx0_1, hx0_2⟩)⟩, by rw [ht]; exact hP, hD⟩, hS.F ht⟩) hS.2.2 (oc_177 39 (aq_13 shX12_endsPiece_26))
      ·
        have tc_3 : (r_1.toInt : Int) = 10 := congrArg Int32.toInt c_3
        refine lv_aload_n hx hb (oc_42 9 (aq_9 shX12_endsPiece_0)) rfl (lvA0 hl) ?_
        refine lv_bipush (v := 10) hx hb (oc_16 10 (aq_10 shX12_endsPiece_0) sgb_10) kbc_10 ?_
        refine lv_iconst (v := 0) hx hb (oc_3 12 (aq_12 shX12_endsPiece_0)) kic_0 ?_
        have hFc := free_all hD hS hA
        refine va_callv (runV_a (As := [.int 10, .int 0]) (rest := []) S (q_says l D cI cB cZ g cz Iz Fz 10 0 H.size hI0 (by (first | omega | (have zz0 := Hid.u hi_cn; have zz1 := Hid.u hi_cz; have zz2 := Hid.u hq_cz; omega)))) kV_RX12_270 hK hP hD 0 rfl rfl rfl ⟨Nat.le_of_ble_eq_true rfl, Nat.le_of_ble_eq_true rfl⟩ ⟨Nat.le_of_ble_eq_true rfl, Nat.le_of_ble_eq_true rfl⟩ rfl hl.1 rfl (Nat.le_of_ble_eq_true rfl) (oc_182 13 (aq_13 shX12_endsPiece_0) uw_1_14)) hS (fun q _ h => hFc q h) hFc (fun u t H1 locs ht hvm wh_5 hB hz1 hk1 hS => ?_)
        obtain ⟨cn5, In5, Fn5⟩ := u
        obtain ⟨hP1, hD1⟩ := hB
        rw [ht] at hP1
        have vh_5 : (fun c2 I2 F2 => (∀ k : Nat, k ∉ [] → I2 k = Iz k) ∧ (((True) ∧ (va_up cz 23 ((cz 23) + 1)) = c2 ∧ (va_up Fz 27 (upd ((Fz 27)) ((cz 23)) (nI (10 * 1048576 + 0)))) = F2))) cn5 In5 Fn5 := wh_5
        obtain ⟨hI5_, vh_5⟩ := vh_5
        obtain ⟨h_5, rfl, rfl⟩ := vh_5
        obtain rfl : Iz = In5 := (funext (fun k => hI5_ k List.not_mem_nil)).symm
        have hP : va_P D vwCl (wM cI cB cZ g (va_up cz 23 ((cz 23) + 1)) Iz (va_up Fz 27 (upd ((Fz 27)) ((cz 23)) (nI (10 * 1048576 + 0))))) H1 := hP1
        have hD : va_D A (wM cI cB cZ g (va_up cz 23 ((cz 23) + 1)) Iz (va_up Fz 27 (upd ((Fz 27)) ((cz 23)) (nI (10 * 1048576 + 0))))) := hD1.weaken (fun _ _ _ h => hFc _ h)
        generalize H1 = H at hP hS ⊢
        refine lv_aload_n hx hb (oc_42 16 (aq_16 shX12_endsPiece_0)) rfl (lvA0 hl) ?_
        refine lv_aload_n hx hb (oc_42 17 (aq_17 shX12_endsPiece_0)) rfl (lvA0 hl) ?_
        refine gM_264 S hK hP (v := .int (nI (cz 24))) rfl (oc_180 18 (aq_18 shX12_endsPiece_0) uw_1_8) ?_
        refine lv_iconst (v := 1) hx hb (oc_4 21 (aq_21 shX12_endsPiece_0)) kic_1 ?_
        refine lv_isub hx hb (oc_100 22 (aq_22 shX12_endsPiece_0)) ?_
        refine lv_topi (fun y_6 ey_6 => ?_)
        obtain rfl : y_6 = (nI (cz 24 - 1)) := ey_6.trans (nI_sub (b := 1) (by (first | omega | (have zz0 := Hid.u hi_cn; have zz1 := Hid.u hi_cz; have zz2 := Hid.u hq_cz; omega))))
        refine pM_264 S hK hP hD hS (a := (cz 24 - 1)) (cn2 := (va_up (va_up cz 23 ((cz 23) + 1)) 24 (cz 24 - 1))) rfl rfl (oc_181 23 (aq_23 shX12_endsPiece_0) uw_1_8) (fun H locs hP hD hS => ?_)
        refine lv_aload_n hx hb (oc_42 26 shX12_endsPiece_26) rfl (lvA0 hl) ?_
        refine lv_aload_n hx hb (oc_42 27 (aq_1 shX12_endsPiece_26)) rfl (lvA0 hl) ?_
        refine gM_261 S hK hP (v := .int (Iz 22)) rfl (oc_180 28 (aq_2 shX12_endsPiece_26) uw_1_5) ?_
        refine lv_iconst (v := 1) hx hb (oc_4 31 (aq_5 shX12_endsPiece_26)) kic_1 ?_
        refine lv_isub hx hb (oc_100 32 (aq_6 shX12_endsPiece_26)) ?_
        refine pM_261 S hK hP hD hS (In2 := (va_up Iz 22 ((Iz 22) - 1))) rfl (oc_181 33 (aq_7 shX12_endsPiece_26) uw_1_5) (fun H locs hP hD hS => ?_)
        refine lv_goto (tgt := 0) hx hb (oc_167 36 (aq_10 shX12_endsPiece_26) sgw_255_220) rfl ?_
        exact ih0  (va_up (va_up cz 23 ((cz 23) + 1)) 24 (cz 24 - 1)) (va_up Iz 22 ((Iz 22) - 1)) (va_up Fz 27 (upd ((Fz 27)) ((cz 23)) (nI (10 * 1048576 + 0)))) _ _ (show (cz 24 - 1) < n0 by (first | omega | (have zz0 := Hid.u hi_cn; have zz1 := Hid.u hi_cz; have zz2 := Hid.u hq_cz; omega))) ⟨(Fr.mo (Fr.f 27 (Fr.i 22 (Fr.c 24 (Fr.c 23 hfr0)))) (sbl rfl) (sbl rfl) (sbl rfl)), (IM.fr (In := Iz) hI0 (Fr.f 27 (Fr.c 24 (Fr.c 23 Fr.rf))) (by decide) (by decide)), (by have q := PBk.code10 hx0_0 (by (first | omega | (have zz0 := Hid.u hi_cn; have zz1 := Hid.u hi_cz; have zz2 := Hid.u hq_cz; omega))) (by (first | omega | (have zz0 := Hid.u hi_cn; have zz1 := Hid.u hi_cz; have zz2 := Hid.u hq_cz; omega))); exact q), (by have q := CK.pop' hx0_1 (by (first | omega | (have zz0 := Hid.u hi_cn; have zz1 := Hid.u hi_cz; have zz2 := Hid.u hq_cz; omega))); exact q), (fun k hk => (upd_lt (by (first | omega | (have zz0 := Hid.u hi_cn; have zz1 := Hid.u hi_cz; have zz2 := Hid.u hq_cz; omega)))).trans (hx0_2 k hk))⟩ hP hD hS ls (lv_sub hl [0] rfl)
  exact lp_0 _  cn In Fn _ _ (Nat.lt_succ_self _) ⟨(Fr.mo Fr.rf (sbl rfl) (sbl rfl) (sbl rfl)), hI, hPS, hC, (fun k hk => rfl)⟩ hP hD hS ls (lv_sub hl [0] rfl)
set_option maxRecDepth 100000 in
set_option maxHeartbeats 4000000 in
theorem q_lands (l : Launch) (D : va_G) (cI cB cZ : ClassId) (g : Nat → Nat) (cn : Nat → Nat) (In : Nat → Int32) (Fn : Nat → Nat → Int32) (a0 s0 : Nat) (v0 : Int32) (sz : Nat) (hI : IM cn Fn) (hPS : PBk (cn 19) (cn 20) (cn 23) (cn 24) (Fn 27) (Fn 28) a0 1 s0) (hC : CK (cn 24) (Fn 28)) : Met l yX12_lands (CWS yX12_lands cX12_lands 3 none) (RM 1 0 0) (PBw [.ref (g 100), .int v0] D cI cB cZ (wM cI cB cZ g cn In Fn) sz) (va_Qv (fun (u : (Nat → Nat) × (Nat → Int32) × (Nat → Nat → Int32)) => (fun c2 I2 F2 => Fr [24] [] [27] cn In Fn c2 I2 F2 ∧ IM c2 F2 ∧ ((PBk (c2 19) (c2 20) (c2 23) (c2 24) (F2 27) (F2 28) a0 1 s0) ∧ (CK (c2 24) (F2 28)) ∧ (∀ k : Nat, k < a0 → F2 27 k = Fn 27 k) ∧ (¬ (v0 : Int32) = 0 → ¬ (11 ≤ kd (F2 28 (c2 24 - 1)) ∧ kd (F2 28 (c2 24 - 1)) ≤ 12)))) u.1 u.2.1 u.2.2) (fun (u : (Nat → Nat) × (Nat → Int32) × (Nat → Nat → Int32)) (t : State) => va_P D vwCl (wM cI cB cZ g u.1 u.2.1 u.2.2) t.heap ∧ va_D (va_A (wM cI cB cZ g cn In Fn) sz) (wM cI cB cZ g u.1 u.2.1 u.2.2)) (va_A (wM cI cB cZ g cn In Fn) sz)) 0 0 (va_A (wM cI cB cZ g cn In Fn) sz) := by
  refine en_w (fun A => (va_Qv (fun (u : (Nat → Nat) × (Nat → Int32) × (Nat → Nat → Int32)) => (fun (c2 : Nat → Nat) (I2 : Nat → Int32) (F2 : Nat → Nat → Int32) => Fr [24] [] [27] cn In Fn c2 I2 F2 ∧ IM c2 F2 ∧ ((PBk (c2 19) (c2 20) (c2 23) (c2 24) (F2 27) (F2 28) a0 1 s0) ∧ (CK (c2 24) (F2 28)) ∧ (∀ k : Nat, k < a0 → F2 27 k = Fn 27 k) ∧ (¬ (v0 : Int32) = 0 → ¬ (11 ≤ kd (F2 28 (c2 24 - 1)) ∧ kd (F2 28 (c2 24 - 1)) ≤ 12)))) u.1 u.2.1 u.2.2) (fun (u : (Nat → Nat) × (Nat → Int32) × (Nat → Nat → Int32)) (t : State) => va_P D vwCl (wM cI cB cZ g u.1 u.2.1 u.2.2) t.heap ∧ va_D A (wM cI cB cZ g u.1 u.2.1 u.2.2)) A)) rfl rfl pn_RX12 (Nat.le_of_ble_eq_true rfl) (fun p e s m below meth c A hx hb hml hown S hr hlocks hnm hA hP hK hD hS ls hl => ?_)
  have hl : lv_has ls 3 [(0, .ref (g 100)), (1, .int v0)] := hl
  have hi_cn : Hid (CB cn) := hI.b
  have lp_0 : ∀ (n : Nat)  (cz : Nat → Nat) (Fz : Nat → Nat → Int32) (H : Heap) (locs : List Loc) , cz 24 < n → (Fr [24] [] [27] cn In Fn cz In Fz ∧ IM cz Fz ∧ ((PBk (cz 19) (cz 20) (cz 23) (cz 24) (Fz 27) (Fz 28) a0 1 s0)) ∧ ((CK (cz 24) (Fz 28))) ∧ ((∀ k : Nat, k < a0 → Fz 27 k = Fn 27 k))) → va_P D vwCl (wM cI cB cZ g cz In Fz) H → va_D A (wM cI cB cZ g cz In Fz) → va_S A s.heap H locs → ∀ ls : Array Slot, lv_has ls 3 [(0, .ref (g 100)), (1, .int v0)] → W p l e (RM 1 0 0) s m ([.ref (g 100), .int v0]).toArray below meth c H locs 0 0 (MQ below (va_Qv (fun (u : (Nat → Nat) × (Nat → Int32) × (Nat → Nat → Int32)) => (fun c2 I2 F2 => Fr [24] [] [27] cn In Fn c2 I2 F2 ∧ IM c2 F2 ∧ ((PBk (c2 19) (c2 20) (c2 23) (c2 24) (F2 27) (F2 28) a0 1 s0) ∧ (CK (c2 24) (F2 28)) ∧ (∀ k : Nat, k < a0 → F2 27 k = Fn 27 k) ∧ (¬ (v0 : Int32) = 0 → ¬ (11 ≤ kd (F2 28 (c2 24 - 1)) ∧ kd (F2 28 (c2 24 - 1)) ≤ 12)))) u.1 u.2.1 u.2.2) (fun (u : (Nat → Nat) × (Nat → Int32) × (Nat → Nat → Int32)) (t : State) => va_P D vwCl (wM cI cB cZ g u.1 u.2.1 u.2.2) t.heap ∧ va_D A (wM cI cB cZ g u.1 u.2.1 u.2.2)) A) ([.ref (g 100), .int v0]).toArray s 0 0 A) (F0 m 0 ls []) := by
    intro n0
    induction n0 with
    | zero => intros; (first | omega | (have zz0 := Hid.u hi_cn; omega))
    | succ n0 ih0 =>
      intro  cz Fz H locs hmu0 hinv0 hP hD hS ls hl
      obtain ⟨hfr0, hI0, hx0_0, hx0_1, hx0_2⟩ := hinv0
      have hi_cz : Hid (CB cz) := hI0.b
      have : cz 19 = cn 19 := hfr0.1 19 (nml rfl)
      have : cz 20 = cn 20 := hfr0.1 20 (nml rfl)
      have : cz 23 = cn 23 := hfr0.1 23 (nml rfl)
      have : cz 25 = cn 25 := hfr0.1 25 (nml rfl)
      have hq_cz := Hid.i (frq_24_0_1_2_46_57_58_62_63_75_83_44 hfr0)
      have hf0 := hx0_0.f
      have hc0 := hx0_1.1
      refine lv_aload_n hx hb (oc_42 0 shX12_lands_0) rfl (lvA0 hl) ?_
      refine vp_callSi (runV_ra (As := []) (rest := []) S (q_top l D cI cB cZ g cz In Fz  hI0 hx0_0.w (by (first | omega | (have zz0 := Hid.u hi_cn; have zz1 := Hid.u hi_cz; have zz2 := Hid.u hq_cz; omega)))) kV_RX12_267 hK hP 0 rfl rfl rfl ⟨Nat.le_of_ble_eq_true rfl, Nat.le_of_ble_eq_true rfl⟩ ⟨Nat.le_of_ble_eq_true rfl, Nat.le_of_ble_eq_true rfl⟩ rfl hl.1 rfl (Nat.le_of_ble_eq_true rfl) (oc_182 1 (aq_1 shX12_lands_0) uw_1_11)) (fun r_1 h_2 => ?_)
      refine lv_bipush (v := 11) hx hb (oc_16 4 (aq_4 shX12_lands_0) sgb_11) kbc_11 ?_
      refine lv_icmp_eq (tgt := 22) hx hb (oc_159 6 (aq_6 shX12_lands_0) sgw_0_16) rfl (fun c_3 => ?_) (fun c_3 => ?_)
      ·
        have tc_3 : (r_1.toInt : Int) = 11 := congrArg Int32.toInt c_3
        refine lv_aload_n hx hb (oc_42 22 (aq_22 shX12_lands_0)) rfl (lvA0 hl) ?_
        refine gM_59 S hK hP (v := .ref (g 28)) rfl (oc_180 23 (aq_23 shX12_lands_0) uw_0_59) ?_
        refine lv_aload_n hx hb (oc_42 26 shX12_lands_26) rfl (lvA0 hl) ?_
        refine gM_264 S hK hP (v := .int (nI (cz 24))) rfl (oc_180 27 (aq_1 shX12_lands_26) uw_1_8) ?_
        refine lv_iconst (v := 1) hx hb (oc_4 30 (aq_4 shX12_lands_26)) kic_1 ?_
        refine lv_isub hx hb (oc_100 31 (aq_5 shX12_lands_26)) ?_
        refine lv_topi (fun y_4 ey_4 => ?_)
        obtain rfl : y_4 = (nI (cz 24 - 1)) := ey_4.trans (nI_sub (b := 1) (by (first | omega | (have zz0 := Hid.u hi_cn; have zz1 := Hid.u hi_cz; have zz2 := Hid.u hq_cz; omega))))
        have kb_1 : (cz 24 - 1) < 180 := by (first | omega | (have zz0 := Hid.u hi_cn; have zz1 := Hid.u hi_cz; have zz2 := Hid.u hq_cz; omega))
        refine ldM_28 hx hb hK hP (x := ((Fz 28) (cz 24 - 1))) (vp_in_nI kb_1 (ltb rfl)) (nI_clamp (Nat.lt_trans kb_1 (ltb rfl))) rfl (oc_46 32 (aq_6 shX12_lands_26)) ?_
        refine lv_ldcw (v := 1048576) hx hb hown (S.2.2.2.2 _ (wk7_17 11 rfl rfl)) (oc_19 33 (aq_7 shX12_lands_26) uw_1_4) ?_
        refine lv_irem hx hb (oc_112 36 (aq_10 shX12_lands_26)) (by decide) ?_
        refine lv_topi (fun y_5 ey_5 => ?_)
        obtain rfl : y_5 = (nI (vl (Fz 28 (cz 24 - 1)))) := ey_5.trans (WKk.rem (hx0_0.w _ (by (first | omega | (have zz0 := Hid.u hi_cn; have zz1 := Hid.u hi_cz; have zz2 := Hid.u hq_cz; omega)))))
        refine lv_istore_n (lv' := [(2, .int (nI (vl (Fz 28 (cz 24 - 1))))), (0, .ref (g 100)), (1, .int v0)]) hx hb (oc_61 37 (aq_11 shX12_lands_26)) rfl hl (ltb rfl) rfl (fun ls hl => ?_)
        obtain ⟨op, y, hop, hy, hva, hvc, hC⟩ := PBk.jo' hx0_0 (by (first | omega | (have zz0 := Hid.u hi_cn; have zz1 := Hid.u hi_cz; have zz2 := Hid.u hq_cz; omega))) (by (first | omega | (have zz0 := Hid.u hi_cn; have zz1 := Hid.u hi_cz; have zz2 := Hid.u hq_cz; omega))) (by (first | omega | (have zz0 := Hid.u hi_cn; have zz1 := Hid.u hi_cz; have zz2 := Hid.u hq_cz; omega)))
        refine lv_aload_n hx hb (oc_42 38 (aq_12 shX12_lands_26)) rfl (lvA1 hl) ?_
        refine gM_56 S hK hP (v := .ref (g 27)) rfl (oc_180 39 (aq_13 shX12_lands_26) uw_0_56) ?_
        refine lv_iload_n hx hb (oc_28 42 (aq_16 shX12_lands_26)) rfl (lvA0 hl) ?_
        refine lv_ldcw (v := 1048576) hx hb hown (S.2.2.2.2 _ (wk7_17 11 rfl rfl)) (oc_19 43 (aq_17 shX12_lands_26) uw_1_4) ?_
        refine lv_aload_n hx hb (oc_42 46 (aq_20 shX12_lands_26)) rfl (lvA1 hl) ?_
        refine gM_56 S hK hP (v := .ref (g 27)) rfl (oc_180 47 (aq_21 shX12_lands_26) uw_0_56) ?_
        refine lv_iload_n hx hb (oc_28 50 shX12_lands_50) rfl (lvA0 hl) ?_
        have kb_2 : (vl (Fz 28 (cz 24 - 1))) < 180 := by (first | omega | (have zz0 := Hid.u hi_cn; have zz1 := Hid.u hi_cz; have zz2 := Hid.u hq_cz; omega))
        refine ldM_27 hx hb hK hP (x := ((Fz 27) (vl (Fz 28 (cz 24 - 1))))) (vp_in_nI kb_2 (ltb rfl)) (nI_clamp (Nat.lt_trans kb_2 (ltb rfl))) rfl (oc_46 51 (aq_1 shX12_lands_50)) ?_
        refine lv_topi (fun y_6 ey_6 => ?_)
        obtain rfl : y_6 = (nI (op * 1048576 + y)) := ey_6.trans hC
        refine lv_ldcw (v := 1048576) hx hb hown (S.2.2.2.2 _ (wk7_17 11 rfl rfl)) (oc_19 52 (aq_2 shX12_lands_50) uw_1_4) ?_
        refine lv_idiv hx hb (oc_108 55 (aq_5 shX12_lands_50)) (by decide) ?_
        refine lv_topi (fun y_7 ey_7 => ?_)
        obtain rfl : y_7 = (nI op) := ey_7.trans ((nI_div (b := 1048576) (by (first | omega | (have zz0 := Hid.u hi_cn; have zz1 := Hid.u hi_cz; have zz2 := Hid.u hq_cz; omega))) (by decide)).trans (congrArg nI (by (first | omega | (have zz0 := Hid.u hi_cn; have zz1 := Hid.u hi_cz; have zz2 := Hid.u hq_cz; omega)))))
        refine lv_imul hx hb (oc_104 56 (aq_6 shX12_lands_50)) ?_
        refine lv_topi (fun y_8 ey_8 => ?_)
        obtain rfl : y_8 = (nI (1048576 * op)) := ey_8.trans (pk_mul 1048576 op)
        refine lv_aload_n hx hb (oc_42 57 (aq_7 shX12_lands_50)) rfl (lvA1 hl) ?_
        refine gM_257 S hK hP (v := .int (nI (cz 23))) rfl (oc_180 58 (aq_8 shX12_lands_50) uw_1_1) ?_
        refine lv_iadd hx hb (oc_96 61 (aq_11 shX12_lands_50)) ?_
        refine lv_topi (fun y_9 ey_9 => ?_)
        obtain rfl : y_9 = (nI ((1048576 * op) + (cz 23))) := ey_9.trans (nI_add (1048576 * op) (cz 23))
        refine stM_27 hx hb hK hP hD hS (Fn2 := (va_up Fz 27 (upd (Fz 27) (vl (Fz 28 (cz 24 - 1))) (nI ((1048576 * op) + (cz 23)))))) (vp_in_nI kb_2 (ltb rfl)) (nI_clamp (Nat.lt_trans kb_2 (ltb rfl))) rfl (oc_79 62 (aq_12 shX12_lands_50)) (fun H locs hP hD hS => ?_)
        refine lv_aload_n hx hb (oc_42 63 (aq_13 shX12_lands_50)) rfl (lvA1 hl) ?_
        refine lv_aload_n hx hb (oc_42 64 (aq_14 shX12_lands_50)) rfl (lvA1 hl) ?_
        refine gM_264 S hK hP (v := .int (nI (cz 24))) rfl (oc_180 65 (aq_15 shX12_lands_50) uw_1_8) ?_
        refine lv_iconst (v := 1) hx hb (oc_4 68 (aq_18 shX12_lands_50)) kic_1 ?_
        refine lv_isub hx hb (oc_100 69 (aq_19 shX12_lands_50)) ?_
        refine lv_topi (fun y_10 ey_10 => ?_)
        obtain rfl : y_10 = (nI (cz 24 - 1)) := ey_10.trans (nI_sub (b := 1) (by (first | omega | (have zz0 := Hid.u hi_cn; have zz1 := Hid.u hi_cz; have zz2 := Hid.u hq_cz; omega))))
        refine pM_264 S hK hP hD hS (a := (cz 24 - 1)) (cn2 := (va_up cz 24 (cz 24 - 1))) rfl rfl (oc_181 70 (aq_20 shX12_lands_50) uw_1_8) (fun H locs hP hD hS => ?_)
        refine lv_goto (tgt := 0) hx hb (oc_167 73 (aq_23 shX12_lands_50) sgw_255_183) rfl ?_
        exact ih0  (va_up cz 24 (cz 24 - 1)) (va_up Fz 27 (upd (Fz 27) (vl (Fz 28 (cz 24 - 1))) (nI ((1048576 * op) + (cz 23))))) _ _ (show (cz 24 - 1) < n0 by (first | omega | (have zz0 := Hid.u hi_cn; have zz1 := Hid.u hi_cz; have zz2 := Hid.u hq_cz; omega))) ⟨(Fr.mo (Fr.f 27 (Fr.c 24 hfr0)) (sbl rfl) (sbl rfl) (sbl rfl)), (IM.fr (In := In) hI0 (Fr.f 27 (Fr.c 24 Fr.rf)) (by decide) (by decide)), (by have q := PBk.land' hx0_0 (by (first | omega | (have zz0 := Hid.u hi_cn; have zz1 := Hid.u hi_cz; have zz2 := Hid.u hq_cz; omega))) (by (first | omega | (have zz0 := Hid.u hi_cn; have zz1 := Hid.u hi_cz; have zz2 := Hid.u hq_cz; omega))) (by (first | omega | (have zz0 := Hid.u hi_cn; have zz1 := Hid.u hi_cz; have zz2 := Hid.u hq_cz; omega))) hop; exact q), (by have q := CK.pop' hx0_1 (by (first | omega | (have zz0 := Hid.u hi_cn; have zz1 := Hid.u hi_cz; have zz2 := Hid.u hq_cz; omega))); exact q), (fun k hk => (upd_nq (by (first | omega | (have zz0 := Hid.u hi_cn; have zz1 := Hid.u hi_cz; have zz2 := Hid.u hq_cz; omega)))).trans (hx0_2 k hk))⟩ hP hD hS ls (lv_sub hl [1, 2] rfl)
      ·
        have tc_3 : (r_1.toInt : Int) ≠ 11 := fun q => c_3 (Int32.toInt_inj.mp q)
        refine lv_iload_n hx hb (oc_27 9 (aq_9 shX12_lands_0)) rfl (lvA1 hl) ?_
        refine lv_if_eq (tgt := 76) hx hb (oc_153 10 (aq_10 shX12_lands_0) sgw_0_66) rfl (fun c_11 => ?_) (fun c_11 => ?_)
        ·
          have tc_11 : (v0.toInt : Int) = 0 := congrArg Int32.toInt c_11
          exact W.vret hx hb hr (fun t ht hW => ⟨⟨(cz, In, Fz), rfl, ⟨(Fr.mo hfr0 (sbl rfl) (sbl rfl) (sbl rfl)), hI0, (by show (PBk (cz 19) (cz 20) (cz 23) (cz 24) (Fz 27) (Fz 28) a0 1 s0) ∧ (CK (cz 24) (Fz 28)) ∧ (∀ k : Nat, k < a0 → Fz 27 k = Fn 27 k) ∧ (¬ (v0 : Int32) = 0 → ¬ (11 ≤ kd (Fz 28 (cz 24 - 1)) ∧ kd (Fz 28 (cz 24 - 1)) ≤ 12)); exact ⟨hx0_0, hx0_1, hx0_2, fun hz => by first | (first | omega | (have zz0 := Hid.u hi_cn; have zz1 := Hid.u hi_cz; have zz2 := Hid.u hq_cz; omega)) | exact absurd (by assumption) hz⟩)⟩, by rw [ht]; exact hP, hD⟩, hS.F ht⟩) hS.2.2 (oc_177 76 shX12_lands_76)
        ·
          have tc_11 : (v0.toInt : Int) ≠ 0 := fun q => c_11 (Int32.toInt_inj.mp q)
          refine lv_aload_n hx hb (oc_42 13 (aq_13 shX12_lands_0)) rfl (lvA0 hl) ?_
          refine vp_callSi (runV_ra (As := []) (rest := []) S (q_top l D cI cB cZ g cz In Fz  hI0 hx0_0.w (by (first | omega | (have zz0 := Hid.u hi_cn; have zz1 := Hid.u hi_cz; have zz2 := Hid.u hq_cz; omega)))) kV_RX12_267 hK hP 0 rfl rfl rfl ⟨Nat.le_of_ble_eq_true rfl, Nat.le_of_ble_eq_true rfl⟩ ⟨Nat.le_of_ble_eq_true rfl, Nat.le_of_ble_eq_true rfl⟩ rfl hl.1 rfl (Nat.le_of_ble_eq_true rfl) (oc_182 14 (aq_14 shX12_lands_0) uw_1_11)) (fun r_12 h_13 => ?_)
          refine lv_bipush (v := 12) hx hb (oc_16 17 (aq_17 shX12_lands_0) sgb_12) kbc_12 ?_
          refine lv_icmp_ne (tgt := 76) hx hb (oc_160 19 (aq_19 shX12_lands_0) sgw_0_57) rfl (fun c_14 => ?_) (fun c_14 => ?_)
          ·
            have tc_14 : (r_12.toInt : Int) ≠ 12 := fun q => c_14 (Int32.toInt_inj.mp q)
            exact W.vret hx hb hr (fun t ht hW => ⟨⟨(cz, In, Fz), rfl, ⟨(Fr.mo hfr0 (sbl rfl) (sbl rfl) (sbl rfl)), hI0, (by show (PBk (cz 19) (cz 20) (cz 23) (cz 24) (Fz 27) (Fz 28) a0 1 s0) ∧ (CK (cz 24) (Fz 28)) ∧ (∀ k : Nat, k < a0 → Fz 27 k = Fn 27 k) ∧ (¬ (v0 : Int32) = 0 → ¬ (11 ≤ kd (Fz 28 (cz 24 - 1)) ∧ kd (Fz 28 (cz 24 - 1)) ≤ 12)); exact ⟨hx0_0, hx0_1, hx0_2, fun hz => by first | (first | omega | (have zz0 := Hid.u hi_cn; have zz1 := Hid.u hi_cz; have zz2 := Hid.u hq_cz; omega)) | exact absurd (by assumption) hz⟩)⟩, by rw [ht]; exact hP, hD⟩, hS.F ht⟩) hS.2.2 (oc_177 76 shX12_lands_76)
          ·
            have tc_14 : (r_12.toInt : Int) = 12 := congrArg Int32.toInt c_14
            refine lv_aload_n hx hb (oc_42 22 (aq_22 shX12_lands_0)) rfl (lvA0 hl) ?_
            refine gM_59 S hK hP (v := .ref (g 28)) rfl (oc_180 23 (aq_23 shX12_lands_0) uw_0_59) ?_
            refine lv_aload_n hx hb (oc_42 26 shX12_lands_26) rfl (lvA0 hl) ?_
            refine gM_264 S hK hP (v := .int (nI (cz 24))) rfl (oc_180 27 (aq_1 shX12_lands_26) uw_1_8) ?_
            refine lv_iconst (v := 1) hx hb (oc_4 30 (aq_4 shX12_lands_26)) kic_1 ?_
            refine lv_isub hx hb (oc_100 31 (aq_5 shX12_lands_26)) ?_
            refine lv_topi (fun y_15 ey_15 => ?_)
            obtain rfl : y_15 = (nI (cz 24 - 1)) := ey_15.trans (nI_sub (b := 1) (by (first | omega | (have zz0 := Hid.u hi_cn; have zz1 := Hid.u hi_cz; have zz2 := Hid.u hq_cz; omega))))
            have kb_3 : (cz 24 - 1) < 180 := by (first | omega | (have zz0 := Hid.u hi_cn; have zz1 := Hid.u hi_cz; have zz2 := Hid.u hq_cz; omega))
            refine ldM_28 hx hb hK hP (x := ((Fz 28) (cz 24 - 1))) (vp_in_nI kb_3 (ltb rfl)) (nI_clamp (Nat.lt_trans kb_3 (ltb rfl))) rfl (oc_46 32 (aq_6 shX12_lands_26)) ?_
            refine lv_ldcw (v := 1048576) hx hb hown (S.2.2.2.2 _ (wk7_17 11 rfl rfl)) (oc_19 33 (aq_7 shX12_lands_26) uw_1_4) ?_
            refine lv_irem hx hb (oc_112 36 (aq_10 shX12_lands_26)) (by decide) ?_
            refine lv_topi (fun y_16 ey_16 => ?_)
            obtain rfl : y_16 = (nI (vl (Fz 28 (cz 24 - 1)))) := ey_16.trans (WKk.rem (hx0_0.w _ (by (first | omega | (have zz0 := Hid.u hi_cn; have zz1 := Hid.u hi_cz; have zz2 := Hid.u hq_cz; omega)))))
            refine lv_istore_n (lv' := [(2, .int (nI (vl (Fz 28 (cz 24 - 1))))), (0, .ref (g 100)), (1, .int v0)]) hx hb (oc_61 37 (aq_11 shX12_lands_26)) rfl hl (ltb rfl) rfl (fun ls hl => ?_)
            obtain ⟨op, y, hop, hy, hva, hvc, hC⟩ := PBk.jo' hx0_0 (by (first | omega | (have zz0 := Hid.u hi_cn; have zz1 := Hid.u hi_cz; have zz2 := Hid.u hq_cz; omega))) (by (first | omega | (have zz0 := Hid.u hi_cn; have zz1 := Hid.u hi_cz; have zz2 := Hid.u hq_cz; omega))) (by (first | omega | (have zz0 := Hid.u hi_cn; have zz1 := Hid.u hi_cz; have zz2 := Hid.u hq_cz; omega)))
            refine lv_aload_n hx hb (oc_42 38 (aq_12 shX12_lands_26)) rfl (lvA1 hl) ?_
            refine gM_56 S hK hP (v := .ref (g 27)) rfl (oc_180 39 (aq_13 shX12_lands_26) uw_0_56) ?_
            refine lv_iload_n hx hb (oc_28 42 (aq_16 shX12_lands_26)) rfl (lvA0 hl) ?_
            refine lv_ldcw (v := 1048576) hx hb hown (S.2.2.2.2 _ (wk7_17 11 rfl rfl)) (oc_19 43 (aq_17 shX12_lands_26) uw_1_4) ?_
            refine lv_aload_n hx hb (oc_42 46 (aq_20 shX12_lands_26)) rfl (lvA1 hl) ?_
            refine gM_56 S hK hP (v := .ref (g 27)) rfl (oc_180 47 (aq_21 shX12_lands_26) uw_0_56) ?_
            refine lv_iload_n hx hb (oc_28 50 shX12_lands_50) rfl (lvA0 hl) ?_
            have kb_4 : (vl (Fz 28 (cz 24 - 1))) < 180 := by (first | omega | (have zz0 := Hid.u hi_cn; have zz1 := Hid.u hi_cz; have zz2 := Hid.u hq_cz; omega))
            refine ldM_27 hx hb hK hP (x := ((Fz 27) (vl (Fz 28 (cz 24 - 1))))) (vp_in_nI kb_4 (ltb rfl)) (nI_clamp (Nat.lt_trans kb_4 (ltb rfl))) rfl (oc_46 51 (aq_1 shX12_lands_50)) ?_
            refine lv_topi (fun y_17 ey_17 => ?_)
            obtain rfl : y_17 = (nI (op * 1048576 + y)) := ey_17.trans hC
            refine lv_ldcw (v := 1048576) hx hb hown (S.2.2.2.2 _ (wk7_17 11 rfl rfl)) (oc_19 52 (aq_2 shX12_lands_50) uw_1_4) ?_
            refine lv_idiv hx hb (oc_108 55 (aq_5 shX12_lands_50)) (by decide) ?_
            refine lv_topi (fun y_18 ey_18 => ?_)
            obtain rfl : y_18 = (nI op) := ey_18.trans ((nI_div (b := 1048576) (by (first | omega | (have zz0 := Hid.u hi_cn; have zz1 := Hid.u hi_cz; have zz2 := Hid.u hq_cz; omega))) (by decide)).trans (congrArg nI (by (first | omega | (have zz0 := Hid.u hi_cn; have zz1 := Hid.u hi_cz; have zz2 := Hid.u hq_cz; omega)))))
            refine lv_imul hx hb (oc_104 56 (aq_6 shX12_lands_50)) ?_
            refine lv_topi (fun y_19 ey_19 => ?_)
            obtain rfl : y_19 = (nI (1048576 * op)) := ey_19.trans (pk_mul 1048576 op)
            refine lv_aload_n hx hb (oc_42 57 (aq_7 shX12_lands_50)) rfl (lvA1 hl) ?_
            refine gM_257 S hK hP (v := .int (nI (cz 23))) rfl (oc_180 58 (aq_8 shX12_lands_50) uw_1_1) ?_
            refine lv_iadd hx hb (oc_96 61 (aq_11 shX12_lands_50)) ?_
            refine lv_topi (fun y_20 ey_20 => ?_)
            obtain rfl : y_20 = (nI ((1048576 * op) + (cz 23))) := ey_20.trans (nI_add (1048576 * op) (cz 23))
            refine stM_27 hx hb hK hP hD hS (Fn2 := (va_up Fz 27 (upd (Fz 27) (vl (Fz 28 (cz 24 - 1))) (nI ((1048576 * op) + (cz 23)))))) (vp_in_nI kb_4 (ltb rfl)) (nI_clamp (Nat.lt_trans kb_4 (ltb rfl))) rfl (oc_79 62 (aq_12 shX12_lands_50)) (fun H locs hP hD hS => ?_)
            refine lv_aload_n hx hb (oc_42 63 (aq_13 shX12_lands_50)) rfl (lvA1 hl) ?_
            refine lv_aload_n hx hb (oc_42 64 (aq_14 shX12_lands_50)) rfl (lvA1 hl) ?_
            refine gM_264 S hK hP (v := .int (nI (cz 24))) rfl (oc_180 65 (aq_15 shX12_lands_50) uw_1_8) ?_
            refine lv_iconst (v := 1) hx hb (oc_4 68 (aq_18 shX12_lands_50)) kic_1 ?_
            refine lv_isub hx hb (oc_100 69 (aq_19 shX12_lands_50)) ?_
            refine lv_topi (fun y_21 ey_21 => ?_)
            obtain rfl : y_21 = (nI (cz 24 - 1)) := ey_21.trans (nI_sub (b := 1) (by (first | omega | (have zz0 := Hid.u hi_cn; have zz1 := Hid.u hi_cz; have zz2 := Hid.u hq_cz; omega))))
            refine pM_264 S hK hP hD hS (a := (cz 24 - 1)) (cn2 := (va_up cz 24 (cz 24 - 1))) rfl rfl (oc_181 70 (aq_20 shX12_lands_50) uw_1_8) (fun H locs hP hD hS => ?_)
            refine lv_goto (tgt := 0) hx hb (oc_167 73 (aq_23 shX12_lands_50) sgw_255_183) rfl ?_
            exact ih0  (va_up cz 24 (cz 24 - 1)) (va_up Fz 27 (upd (Fz 27) (vl (Fz 28 (cz 24 - 1))) (nI ((1048576 * op) + (cz 23))))) _ _ (show (cz 24 - 1) < n0 by (first | omega | (have zz0 := Hid.u hi_cn; have zz1 := Hid.u hi_cz; have zz2 := Hid.u hq_cz; omega))) ⟨(Fr.mo (Fr.f 27 (Fr.c 24 hfr0)) (sbl rfl) (sbl rfl) (sbl rfl)), (IM.fr (In := In) hI0 (Fr.f 27 (Fr.c 24 Fr.rf)) (by decide) (by decide)), (by have q := PBk.land' hx0_0 (by (first | omega | (have zz0 := Hid.u hi_cn; have zz1 := Hid.u hi_cz; have zz2 := Hid.u hq_cz; omega))) (by (first | omega | (have zz0 := Hid.u hi_cn; have zz1 := Hid.u hi_cz; have zz2 := Hid.u hq_cz; omega))) (by (first | omega | (have zz0 := Hid.u hi_cn; have zz1 := Hid.u hi_cz; have zz2 := Hid.u hq_cz; omega))) hop; exact q), (by have q := CK.pop' hx0_1 (by (first | omega | (have zz0 := Hid.u hi_cn; have zz1 := Hid.u hi_cz; have zz2 := Hid.u hq_cz; omega))); exact q), (fun k hk => (upd_nq (by (first | omega | (have zz0 := Hid.u hi_cn; have zz1 := Hid.u hi_cz; have zz2 := Hid.u hq_cz; omega)))).trans (hx0_2 k hk))⟩ hP hD hS ls (lv_sub hl [1, 2] rfl)
  exact lp_0 _  cn Fn _ _ (Nat.lt_succ_self _) ⟨(Fr.mo Fr.rf (sbl rfl) (sbl rfl) (sbl rfl)), hI, hPS, hC, (fun k hk => rfl)⟩ hP hD hS ls (lv_sub hl [0, 1] rfl)
set_option maxRecDepth 100000 in
set_option maxHeartbeats 4000000 in
theorem q_jumps (l : Launch) (D : va_G) (cI cB cZ : ClassId) (g : Nat → Nat) (cn : Nat → Nat) (In : Nat → Int32) (Fn : Nat → Nat → Int32) (k0 : Nat) (sz : Nat) (hI : IM cn Fn) (h24 : cn 24 < 180) (h23 : cn 23 < 180) : Met l yX12_jumps (CWS yX12_jumps cX12_jumps 2 none) (RM 1 0 0) (PBw [.ref (g 100), .int (nI k0)] D cI cB cZ (wM cI cB cZ g cn In Fn) sz) (va_Qv (fun (u : (Nat → Nat) × (Nat → Int32) × (Nat → Nat → Int32)) => (fun c2 I2 F2 => (∀ k : Nat, k ∉ [] → I2 k = In k) ∧ (((True) ∧ (va_up (va_up (va_up cn 24 (cn 24 + 1)) 23 (cn 23 + 1)) 19 (cn 19 + 1)) = c2 ∧ (va_up (va_up Fn 28 (upd (Fn 28) (cn 24) (nI (1048576 * k0 + cn 23)))) 27 (upd (Fn 27) (cn 23) (nI (k0 * 1048576 + 0)))) = F2))) u.1 u.2.1 u.2.2) (fun (u : (Nat → Nat) × (Nat → Int32) × (Nat → Nat → Int32)) (t : State) => va_P D vwCl (wM cI cB cZ g u.1 u.2.1 u.2.2) t.heap ∧ va_D (va_A (wM cI cB cZ g cn In Fn) sz) (wM cI cB cZ g u.1 u.2.1 u.2.2)) (va_A (wM cI cB cZ g cn In Fn) sz)) 0 0 (va_A (wM cI cB cZ g cn In Fn) sz) := by
  refine en_w (fun A => (va_Qv (fun (u : (Nat → Nat) × (Nat → Int32) × (Nat → Nat → Int32)) => (fun (c2 : Nat → Nat) (I2 : Nat → Int32) (F2 : Nat → Nat → Int32) => (∀ k : Nat, k ∉ [] → I2 k = In k) ∧ (((True) ∧ (va_up (va_up (va_up cn 24 (cn 24 + 1)) 23 (cn 23 + 1)) 19 (cn 19 + 1)) = c2 ∧ (va_up (va_up Fn 28 (upd (Fn 28) (cn 24) (nI (1048576 * k0 + cn 23)))) 27 (upd (Fn 27) (cn 23) (nI (k0 * 1048576 + 0)))) = F2))) u.1 u.2.1 u.2.2) (fun (u : (Nat → Nat) × (Nat → Int32) × (Nat → Nat → Int32)) (t : State) => va_P D vwCl (wM cI cB cZ g u.1 u.2.1 u.2.2) t.heap ∧ va_D A (wM cI cB cZ g u.1 u.2.1 u.2.2)) A)) rfl rfl pn_RX12 (Nat.le_of_ble_eq_true rfl) (fun p e s m below meth c A hx hb hml hown S hr hlocks hnm hA hP hK hD hS ls hl => ?_)
  have hl : lv_has ls 2 [(0, .ref (g 100)), (1, .int (nI k0))] := hl
  have hi_cn : Hid (CB cn) := hI.b
  refine lv_aload_n hx hb (oc_42 0 shX12_jumps_0) rfl (lvA0 hl) ?_
  refine gM_59 S hK hP (v := .ref (g 28)) rfl (oc_180 1 (aq_1 shX12_jumps_0) uw_0_59) ?_
  refine lv_aload_n hx hb (oc_42 4 (aq_4 shX12_jumps_0)) rfl (lvA0 hl) ?_
  refine gM_264 S hK hP (v := .int (nI (cn 24))) rfl (oc_180 5 (aq_5 shX12_jumps_0) uw_1_8) ?_
  refine lv_ldcw (v := 1048576) hx hb hown (S.2.2.2.2 _ (wk7_17 11 rfl rfl)) (oc_19 8 (aq_8 shX12_jumps_0) uw_1_4) ?_
  refine lv_iload_n hx hb (oc_27 11 (aq_11 shX12_jumps_0)) rfl (lvA1 hl) ?_
  refine lv_imul hx hb (oc_104 12 (aq_12 shX12_jumps_0)) ?_
  refine lv_topi (fun y_1 ey_1 => ?_)
  obtain rfl : y_1 = (nI (1048576 * k0)) := ey_1.trans (pk_mul 1048576 k0)
  refine lv_aload_n hx hb (oc_42 13 (aq_13 shX12_jumps_0)) rfl (lvA0 hl) ?_
  refine gM_257 S hK hP (v := .int (nI (cn 23))) rfl (oc_180 14 (aq_14 shX12_jumps_0) uw_1_1) ?_
  refine lv_iadd hx hb (oc_96 17 (aq_17 shX12_jumps_0)) ?_
  refine lv_topi (fun y_2 ey_2 => ?_)
  obtain rfl : y_2 = (nI ((1048576 * k0) + (cn 23))) := ey_2.trans (nI_add (1048576 * k0) (cn 23))
  have kb_1 : (cn 24) < 180 := by (first | omega | (have zz0 := Hid.u hi_cn; omega))
  refine stM_28 hx hb hK hP hD hS (Fn2 := (va_up Fn 28 (upd (Fn 28) (cn 24) (nI ((1048576 * k0) + (cn 23)))))) (vp_in_nI kb_1 (ltb rfl)) (nI_clamp (Nat.lt_trans kb_1 (ltb rfl))) rfl (oc_79 18 (aq_18 shX12_jumps_0)) (fun H locs hP hD hS => ?_)
  refine lv_aload_n hx hb (oc_42 19 (aq_19 shX12_jumps_0)) rfl (lvA0 hl) ?_
  refine lv_aload_n hx hb (oc_42 20 (aq_20 shX12_jumps_0)) rfl (lvA0 hl) ?_
  refine gM_264 S hK hP (v := .int (nI (cn 24))) rfl (oc_180 21 (aq_21 shX12_jumps_0) uw_1_8) ?_
  refine lv_iconst (v := 1) hx hb (oc_4 24 shX12_jumps_24) kic_1 ?_
  refine lv_iadd hx hb (oc_96 25 (aq_1 shX12_jumps_24)) ?_
  refine lv_topi (fun y_3 ey_3 => ?_)
  obtain rfl : y_3 = (nI ((cn 24) + 1)) := ey_3.trans (nI_add (cn 24) 1)
  refine pM_264 S hK hP hD hS (a := ((cn 24) + 1)) (cn2 := (va_up cn 24 ((cn 24) + 1))) rfl rfl (oc_181 26 (aq_2 shX12_jumps_24) uw_1_8) (fun H locs hP hD hS => ?_)
  refine lv_aload_n hx hb (oc_42 29 (aq_5 shX12_jumps_24)) rfl (lvA0 hl) ?_
  refine lv_iload_n hx hb (oc_27 30 (aq_6 shX12_jumps_24)) rfl (lvA1 hl) ?_
  refine lv_iconst (v := 0) hx hb (oc_3 31 (aq_7 shX12_jumps_24)) kic_0 ?_
  have hFc := free_all hD hS hA
  refine va_callv (runV_a (As := [.int (nI k0), .int 0]) (rest := []) S (q_says l D cI cB cZ g (va_up cn 24 ((cn 24) + 1)) In (va_up Fn 28 (upd (Fn 28) (cn 24) (nI ((1048576 * k0) + (cn 23))))) k0 0 H.size (IM.fr (In := In) hI (Fr.f 28 (Fr.c 24 Fr.rf)) (by decide) (by decide)) (show (cn 23) < 180 by (first | omega | (have zz0 := Hid.u hi_cn; omega)))) kV_RX12_270 hK hP hD 0 rfl rfl rfl ⟨Nat.le_of_ble_eq_true rfl, Nat.le_of_ble_eq_true rfl⟩ ⟨Nat.le_of_ble_eq_true rfl, Nat.le_of_ble_eq_true rfl⟩ rfl hl.1 rfl (Nat.le_of_ble_eq_true rfl) (oc_182 32 (aq_8 shX12_jumps_24) uw_1_14)) hS (fun q _ h => hFc q h) hFc (fun u t H1 locs ht hvm wh_5 hB hz1 hk1 hS => ?_)
  obtain ⟨cn5, In5, Fn5⟩ := u
  obtain ⟨hP1, hD1⟩ := hB
  rw [ht] at hP1
  have vh_5 : (fun c2 I2 F2 => (∀ k : Nat, k ∉ [] → I2 k = In k) ∧ (((True) ∧ (va_up (va_up cn 24 ((cn 24) + 1)) 23 ((cn 23) + 1)) = c2 ∧ (va_up (va_up Fn 28 (upd (Fn 28) (cn 24) (nI ((1048576 * k0) + (cn 23))))) 27 (upd ((Fn 27)) ((cn 23)) (nI (k0 * 1048576 + 0)))) = F2))) cn5 In5 Fn5 := wh_5
  obtain ⟨hI5_, vh_5⟩ := vh_5
  obtain ⟨h_5, rfl, rfl⟩ := vh_5
  obtain rfl : In = In5 := (funext (fun k => hI5_ k List.not_mem_nil)).symm
  have hP : va_P D vwCl (wM cI cB cZ g (va_up (va_up cn 24 ((cn 24) + 1)) 23 ((cn 23) + 1)) In (va_up (va_up Fn 28 (upd (Fn 28) (cn 24) (nI ((1048576 * k0) + (cn 23))))) 27 (upd ((Fn 27)) ((cn 23)) (nI (k0 * 1048576 + 0))))) H1 := hP1
  have hD : va_D A (wM cI cB cZ g (va_up (va_up cn 24 ((cn 24) + 1)) 23 ((cn 23) + 1)) In (va_up (va_up Fn 28 (upd (Fn 28) (cn 24) (nI ((1048576 * k0) + (cn 23))))) 27 (upd ((Fn 27)) ((cn 23)) (nI (k0 * 1048576 + 0))))) := hD1.weaken (fun _ _ _ h => hFc _ h)
  generalize H1 = H at hP hS ⊢
  refine lv_aload_n hx hb (oc_42 35 (aq_11 shX12_jumps_24)) rfl (lvA0 hl) ?_
  refine lv_aload_n hx hb (oc_42 36 (aq_12 shX12_jumps_24)) rfl (lvA0 hl) ?_
  refine gM_233 S hK hP (v := .int (nI (cn 19))) rfl (oc_180 37 (aq_13 shX12_jumps_24) uw_0_233) ?_
  refine lv_iconst (v := 1) hx hb (oc_4 40 (aq_16 shX12_jumps_24)) kic_1 ?_
  refine lv_iadd hx hb (oc_96 41 (aq_17 shX12_jumps_24)) ?_
  refine lv_topi (fun y_6 ey_6 => ?_)
  obtain rfl : y_6 = (nI ((cn 19) + 1)) := ey_6.trans (nI_add (cn 19) 1)
  refine pM_233 S hK hP hD hS (a := ((cn 19) + 1)) (cn2 := (va_up (va_up (va_up cn 24 ((cn 24) + 1)) 23 ((cn 23) + 1)) 19 ((cn 19) + 1))) rfl rfl (oc_181 42 (aq_18 shX12_jumps_24) uw_0_233) (fun H locs hP hD hS => ?_)
  exact W.vret hx hb hr (fun t ht hW => ⟨⟨((va_up (va_up (va_up cn 24 ((cn 24) + 1)) 23 ((cn 23) + 1)) 19 ((cn 19) + 1)), In, (va_up (va_up Fn 28 (upd (Fn 28) (cn 24) (nI ((1048576 * k0) + (cn 23))))) 27 (upd ((Fn 27)) ((cn 23)) (nI (k0 * 1048576 + 0))))), rfl, ⟨(show Fr [19, 23, 24] [] [27, 28] cn In Fn (va_up (va_up (va_up cn 24 ((cn 24) + 1)) 23 ((cn 23) + 1)) 19 ((cn 19) + 1)) In (va_up (va_up Fn 28 (upd (Fn 28) (cn 24) (nI ((1048576 * k0) + (cn 23))))) 27 (upd ((Fn 27)) ((cn 23)) (nI (k0 * 1048576 + 0)))) from Fr.mo (Fr.f 27 (Fr.f 28 (Fr.c 19 (Fr.c 23 (Fr.c 24 (Fr.rf (cn := cn) (In := In) (Fn := Fn))))))) (sbl rfl) (sbl rfl) (sbl rfl)).2.1, ⟨(by first | trivial | (first | omega | (have zz0 := Hid.u hi_cn; omega))), rfl, rfl⟩⟩, by rw [ht]; exact hP, hD⟩, hS.F ht⟩) hS.2.2 (oc_177 45 (aq_21 shX12_jumps_24))
set_option maxRecDepth 100000 in
set_option maxHeartbeats 4000000 in
theorem q_readsCompared (l : Launch) (D : va_G) (cI cB cZ : ClassId) (g : Nat → Nat) (cn : Nat → Nat) (In : Nat → Int32) (Fn : Nat → Nat → Int32) (a0 s0 : Nat) (sz : Nat) (hI : IM cn Fn) (hPS : PBk (cn 19) (cn 20) (cn 23) (cn 24) (Fn 27) (Fn 28) a0 0 s0) (hC : CK (cn 24) (Fn 28)) : Met l yX12_readsCompared (CWS yX12_readsCompared cX12_readsCompared 2 (some .boolean)) (RM 5 0 0) (PBw [.ref (g 100)] D cI cB cZ (wM cI cB cZ g cn In Fn) sz) (va_Qi (fun (r : Int32) (u : (Nat → Nat) × (Nat → Int32) × (Nat → Nat → Int32)) => (fun r c2 I2 F2 => Fr [19, 23, 24, 26] [21, 22] [27, 28] cn In Fn c2 I2 F2 ∧ IM c2 F2 ∧ (r = 0 ∨ (r = 1 ∧ PBk (c2 19) (c2 20) (c2 23) (c2 24) (F2 27) (F2 28) a0 1 s0 ∧ CK (c2 24) (F2 28) ∧ (∀ k : Nat, k < a0 → F2 27 k = Fn 27 k) ∧ cn 19 < c2 19))) r u.1 u.2.1 u.2.2) (fun (u : (Nat → Nat) × (Nat → Int32) × (Nat → Nat → Int32)) (t : State) => va_P D vwCl (wM cI cB cZ g u.1 u.2.1 u.2.2) t.heap ∧ va_D (va_A (wM cI cB cZ g cn In Fn) sz) (wM cI cB cZ g u.1 u.2.1 u.2.2)) (va_A (wM cI cB cZ g cn In Fn) sz)) 0 0 (va_A (wM cI cB cZ g cn In Fn) sz) := by
  refine en_w (fun A => (va_Qi (fun (r : Int32) (u : (Nat → Nat) × (Nat → Int32) × (Nat → Nat → Int32)) => (fun (r : Int32) (c2 : Nat → Nat) (I2 : Nat → Int32) (F2 : Nat → Nat → Int32) => Fr [19, 23, 24, 26] [21, 22] [27, 28] cn In Fn c2 I2 F2 ∧ IM c2 F2 ∧ (r = 0 ∨ (r = 1 ∧ PBk (c2 19) (c2 20) (c2 23) (c2 24) (F2 27) (F2 28) a0 1 s0 ∧ CK (c2 24) (F2 28) ∧ (∀ k : Nat, k < a0 → F2 27 k = Fn 27 k) ∧ cn 19 < c2 19))) r u.1 u.2.1 u.2.2) (fun (u : (Nat → Nat) × (Nat → Int32) × (Nat → Nat → Int32)) (t : State) => va_P D vwCl (wM cI cB cZ g u.1 u.2.1 u.2.2) t.heap ∧ va_D A (wM cI cB cZ g u.1 u.2.1 u.2.2)) A)) rfl rfl pn_RX12 (Nat.le_of_ble_eq_true rfl) (fun p e s m below meth c A hx hb hml hown S hr hlocks hnm hA hP hK hD hS ls hl => ?_)
  have hl : lv_has ls 2 [(0, .ref (g 100))] := hl
  have hi_cn : Hid (CB cn) := hI.b
  have hf0 := hPS.f
  have hc0 := hC.1
  refine lv_aload_n hx hb (oc_42 0 shX12_readsCompared_0) rfl (lvA0 hl) ?_
  have hFc := free_all hD hS hA
  refine va_calli (runV_a (As := []) (rest := []) S (q_readsSum l D cI cB cZ g cn In Fn a0 0 s0 s.heap.size hI hPS (fun _ => hC.2.2 _ (by (first | omega | (have zz0 := Hid.u hi_cn; omega))))) kV_RX12_297 hK hP hD 0 rfl rfl rfl ⟨Nat.le_of_ble_eq_true rfl, Nat.le_of_ble_eq_true rfl⟩ ⟨Nat.le_of_ble_eq_true rfl, Nat.le_of_ble_eq_true rfl⟩ rfl hl.1 rfl (Nat.le_of_ble_eq_true rfl) (oc_182 1 (aq_1 shX12_readsCompared_0) uw_1_41)) hS (fun q _ h => hFc q h) hFc (fun r_1 u t H1 locs ht hvm wh_2 hB hz1 hk1 hS => ?_)
  obtain ⟨cn2, In2, Fn2⟩ := u
  obtain ⟨hP1, hD1⟩ := hB
  rw [ht] at hP1
  have hP : va_P D vwCl (wM cI cB cZ g cn2 In2 Fn2) H1 := hP1
  have hD : va_D A (wM cI cB cZ g cn2 In2 Fn2) := hD1.weaken (fun _ _ _ h => hFc _ h)
  generalize H1 = H at hP hS ⊢
  have vh_2 : (fun r c2 I2 F2 => Fr [19, 23, 24, 26] [21, 22] [27, 28] cn In Fn c2 I2 F2 ∧ IM c2 F2 ∧ (r = 0 ∨ (r = 1 ∧ PBk (c2 19) (c2 20) (c2 23) (c2 24) (F2 27) (F2 28) a0 (0 + 1) s0 ∧ c2 24 = (cn 24) ∧ (∀ k : Nat, k < a0 → F2 27 k = (Fn 27) k) ∧ (∀ i : Nat, i < (cn 24) → F2 28 i = (Fn 28) i) ∧ (cn 19) < c2 19))) r_1 cn2 In2 Fn2 := wh_2
  obtain ⟨hfc2, hIn2, h_2⟩ := vh_2
  have hf2 : Fr [19, 23, 24, 26] [21, 22] [27, 28] cn In Fn cn2 In2 Fn2 := Fr.mo (Fr.tr (Fr.rf (cn := cn) (In := In) (Fn := Fn)) hfc2) (sbl rfl) (sbl rfl) (sbl rfl)
  have hi_cn2 : Hid (CB cn2) := hIn2.b
  have : cn2 20 = cn 20 := hf2.1 20 (nml rfl)
  have : cn2 25 = cn 25 := hf2.1 25 (nml rfl)
  have hq_cn2 := Hid.i (frq_19_23_24_26_0_1_2_46_57_58_62_63_75_83_44 hf2)
  have : cn2 20 = (cn 20) := hfc2.1 20 (nml rfl)
  have : cn2 25 = (cn 25) := hfc2.1 25 (nml rfl)
  rcases h_2 with rfl | ⟨rfl, kh_2⟩
  ·
    refine lv_if_ne (tgt := 9) hx hb (oc_154 4 (aq_4 shX12_readsCompared_0) sgw_0_5) rfl (fun h => absurd h cq_eq_0_0) (fun _ => ?_)
    refine lv_iconst (v := 0) hx hb (oc_3 7 (aq_7 shX12_readsCompared_0)) kic_0 ?_
    exact W.zret (v := 0) hx hb hr rfl (fun t ht hW => ⟨⟨0, (cn2, In2, Fn2), rfl, ⟨(Fr.mo hf2 (sbl rfl) (sbl rfl) (sbl rfl)), hIn2, (by show 0 = 0 ∨ (0 = 1 ∧ PBk (cn2 19) (cn2 20) (cn2 23) (cn2 24) (Fn2 27) (Fn2 28) a0 1 s0 ∧ CK (cn2 24) (Fn2 28) ∧ (∀ k : Nat, k < a0 → Fn2 27 k = Fn 27 k) ∧ cn 19 < cn2 19); exact Or.inl rfl)⟩, by rw [ht]; exact hP, hD⟩, hS.F ht⟩) hS.2.2 (oc_172 8 (aq_8 shX12_readsCompared_0))
  ·
    obtain ⟨kh_2a, kh_2e, kh_2b, kh_2c, kh_2d⟩ := kh_2
    have kh_2f := kh_2a.f
    refine lv_if_ne (tgt := 9) hx hb (oc_154 4 (aq_4 shX12_readsCompared_0) sgw_0_5) rfl (fun _ => ?_) (fun h => absurd h cq_eq_1_0)
    have hC1 : CK (cn2 24) (Fn2 28) := by rw [kh_2e]; exact CK.cg hC kh_2c
    have hC1w := hC1.1
    refine lv_aload_n hx hb (oc_42 9 (aq_9 shX12_readsCompared_0)) rfl (lvA0 hl) ?_
    refine vp_callSi (runV_ra (As := []) (rest := []) S (q_here l D cI cB cZ g cn2 In2 Fn2  hIn2 (by (first | omega | (have zz0 := Hid.u hi_cn; have zz1 := Hid.u hi_cn2; have zz2 := Hid.u hq_cn2; omega))) (by (first | omega | (have zz0 := Hid.u hi_cn; have zz1 := Hid.u hi_cn2; have zz2 := Hid.u hq_cn2; omega)))) kV_RX12_239 hK hP 0 rfl rfl rfl ⟨Nat.le_of_ble_eq_true rfl, Nat.le_of_ble_eq_true rfl⟩ ⟨Nat.le_of_ble_eq_true rfl, Nat.le_of_ble_eq_true rfl⟩ rfl hl.1 rfl (Nat.le_of_ble_eq_true rfl) (oc_182 10 (aq_10 shX12_readsCompared_0) uw_0_239)) (fun r_3 h_4 => ?_)
    refine lv_bipush (v := 60) hx hb (oc_16 13 (aq_13 shX12_readsCompared_0) sgb_60) kbc_60 ?_
    refine lv_icmp_ne (tgt := 23) hx hb (oc_160 15 (aq_15 shX12_readsCompared_0) sgw_0_8) rfl (fun c_5 => ?_) (fun c_5 => ?_)
    ·
      have tc_5 : (r_3.toInt : Int) ≠ 60 := fun q => c_5 (Int32.toInt_inj.mp q)
      refine lv_aload_n hx hb (oc_42 23 (aq_23 shX12_readsCompared_0)) rfl (lvA0 hl) ?_
      refine vp_callSi (runV_ra (As := []) (rest := []) S (q_here l D cI cB cZ g cn2 In2 Fn2  hIn2 (by (first | omega | (have zz0 := Hid.u hi_cn; have zz1 := Hid.u hi_cn2; have zz2 := Hid.u hq_cn2; omega))) (by (first | omega | (have zz0 := Hid.u hi_cn; have zz1 := Hid.u hi_cn2; have zz2 := Hid.u hq_cn2; omega)))) kV_RX12_239 hK hP 0 rfl rfl rfl ⟨Nat.le_of_ble_eq_true rfl, Nat.le_of_ble_eq_true rfl⟩ ⟨Nat.le_of_ble_eq_true rfl, Nat.le_of_ble_eq_true rfl⟩ rfl hl.1 rfl (Nat.le_of_ble_eq_true rfl) (oc_182 24 shX12_readsCompared_24 uw_0_239)) (fun r_6 h_7 => ?_)
      refine lv_bipush (v := 62) hx hb (oc_16 27 (aq_3 shX12_readsCompared_24) sgb_62) kbc_62 ?_
      refine lv_icmp_ne (tgt := 37) hx hb (oc_160 29 (aq_5 shX12_readsCompared_24) sgw_0_8) rfl (fun c_8 => ?_) (fun c_8 => ?_)
      ·
        have tc_8 : (r_6.toInt : Int) ≠ 62 := fun q => c_8 (Int32.toInt_inj.mp q)
        refine lv_aload_n hx hb (oc_42 37 (aq_13 shX12_readsCompared_24)) rfl (lvA0 hl) ?_
        refine vp_callSi (runV_ra (As := []) (rest := []) S (q_here l D cI cB cZ g cn2 In2 Fn2  hIn2 (by (first | omega | (have zz0 := Hid.u hi_cn; have zz1 := Hid.u hi_cn2; have zz2 := Hid.u hq_cn2; omega))) (by (first | omega | (have zz0 := Hid.u hi_cn; have zz1 := Hid.u hi_cn2; have zz2 := Hid.u hq_cn2; omega)))) kV_RX12_239 hK hP 0 rfl rfl rfl ⟨Nat.le_of_ble_eq_true rfl, Nat.le_of_ble_eq_true rfl⟩ ⟨Nat.le_of_ble_eq_true rfl, Nat.le_of_ble_eq_true rfl⟩ rfl hl.1 rfl (Nat.le_of_ble_eq_true rfl) (oc_182 38 (aq_14 shX12_readsCompared_24) uw_0_239)) (fun r_9 h_10 => ?_)
        refine lv_bipush (v := 61) hx hb (oc_16 41 (aq_17 shX12_readsCompared_24) sgb_61) kbc_61 ?_
        refine lv_icmp_ne (tgt := 51) hx hb (oc_160 43 (aq_19 shX12_readsCompared_24) sgw_0_8) rfl (fun c_11 => ?_) (fun c_11 => ?_)
        ·
          have tc_11 : (r_9.toInt : Int) ≠ 61 := fun q => c_11 (Int32.toInt_inj.mp q)
          refine lv_iconst (v := (-1)) hx hb (oc_2 51 (aq_3 shX12_readsCompared_48)) kic_m1 ?_
          refine lv_istore_n (lv' := [(1, .int (-1)), (0, .ref (g 100))]) hx hb dX12_readsCompared_52 rfl hl (ltb rfl) rfl (fun ls hl => ?_)
          refine lv_iload_n hx hb dX12_readsCompared_53 rfl (lvA0 hl) ?_
          refine lv_iconst (v := (-1)) hx hb dX12_readsCompared_54 kic_m1 ?_
          refine lv_icmp_ne (tgt := 68) hx hb dX12_readsCompared_55 rfl (fun h => absurd h cq_eq_m1_m1) (fun _ => ?_)
          refine lv_aload_n hx hb (oc_42 58 (aq_10 shX12_readsCompared_48)) rfl (lvA1 hl) ?_
          refine lv_iconst (v := 1) hx hb (oc_4 59 (aq_11 shX12_readsCompared_48)) kic_1 ?_
          refine lv_aload_n hx hb (oc_42 60 (aq_12 shX12_readsCompared_48)) rfl (lvA1 hl) ?_
          refine gM_233 S hK hP (v := .int (nI (cn2 19))) rfl (oc_180 61 (aq_13 shX12_readsCompared_48) uw_0_233) ?_
          have hFc := free_all hD hS hA
          refine va_calli (runV_a (As := [.int 1, .int (nI (cn2 19))]) (rest := []) S (q_wrong l D cI cB cZ g cn2 In2 Fn2 1 (nI (cn2 19)) H.size hIn2) kV_RX12_246 hK hP hD 0 rfl rfl rfl ⟨Nat.le_of_ble_eq_true rfl, Nat.le_of_ble_eq_true rfl⟩ ⟨Nat.le_of_ble_eq_true rfl, Nat.le_of_ble_eq_true rfl⟩ rfl hl.1 rfl (Nat.le_of_ble_eq_true rfl) (oc_182 64 (aq_16 shX12_readsCompared_48) uw_0_246)) hS (fun q _ h => hFc q h) hFc (fun r_12 u t H1 locs ht hvm wh_13 hB hz1 hk1 hS => ?_)
          obtain ⟨cn13, In13, Fn13⟩ := u
          obtain ⟨hP1, hD1⟩ := hB
          rw [ht] at hP1
          have vh_13 : (fun r c2 I2 F2 => (∀ k : Nat, k ∉ [21] → I2 k = In2 k) ∧ ((r = 0 ∧ (True) ∧ cn2 = c2 ∧ Fn2 = F2))) r_12 cn13 In13 Fn13 := wh_13
          obtain ⟨hI13_, vh_13⟩ := vh_13
          obtain ⟨rfl, h_13, rfl, rfl⟩ := vh_13
          have hf13 : Fr [19, 23, 24, 26] [21, 22] [27, 28] cn In Fn cn2 In13 Fn2 := Fr.mo (Fr.tr hf2 (show Fr [] [21] [] cn2 In2 Fn2 cn2 In13 Fn2 from ⟨fun _ _ => rfl, hI13_, fun _ _ => rfl⟩)) (sbl rfl) (sbl rfl) (sbl rfl)
          have hP : va_P D vwCl (wM cI cB cZ g cn2 In13 Fn2) H1 := hP1
          have hD : va_D A (wM cI cB cZ g cn2 In13 Fn2) := hD1.weaken (fun _ _ _ h => hFc _ h)
          generalize H1 = H at hP hS ⊢
          exact W.zret (v := 0) hx hb hr rfl (fun t ht hW => ⟨⟨0, (cn2, In13, Fn2), rfl, ⟨(Fr.mo hf13 (sbl rfl) (sbl rfl) (sbl rfl)), hIn2, (by show 0 = 0 ∨ (0 = 1 ∧ PBk (cn2 19) (cn2 20) (cn2 23) (cn2 24) (Fn2 27) (Fn2 28) a0 1 s0 ∧ CK (cn2 24) (Fn2 28) ∧ (∀ k : Nat, k < a0 → Fn2 27 k = Fn 27 k) ∧ cn 19 < cn2 19); exact Or.inl rfl)⟩, by rw [ht]; exact hP, hD⟩, hS.F ht⟩) hS.2.2 (oc_172 67 (aq_19 shX12_readsCompared_48))
        ·
          have tc_11 : (r_9.toInt : Int) = 61 := congrArg Int32.toInt c_11
          refine lv_bipush (v := 9) hx hb (oc_16 46 (aq_22 shX12_readsCompared_24) sgb_9) kbc_9 ?_
          refine lv_goto (tgt := 52) hx hb (oc_167 48 shX12_readsCompared_48 sgw_0_4) rfl ?_
          refine lv_istore_n (lv' := [(1, .int 9), (0, .ref (g 100))]) hx hb dX12_readsCompared_52 rfl hl (ltb rfl) rfl (fun ls hl => ?_)
          refine lv_iload_n hx hb dX12_readsCompared_53 rfl (lvA0 hl) ?_
          refine lv_iconst (v := (-1)) hx hb dX12_readsCompared_54 kic_m1 ?_
          refine lv_icmp_ne (tgt := 68) hx hb dX12_readsCompared_55 rfl (fun _ => ?_) (fun h => absurd h cq_eq_9_m1)
          refine lv_aload_n hx hb (oc_42 68 (aq_20 shX12_readsCompared_48)) rfl (lvA1 hl) ?_
          refine lv_aload_n hx hb (oc_42 69 (aq_21 shX12_readsCompared_48)) rfl (lvA1 hl) ?_
          refine gM_233 S hK hP (v := .int (nI (cn2 19))) rfl (oc_180 70 (aq_22 shX12_readsCompared_48) uw_0_233) ?_
          refine lv_iconst (v := 1) hx hb (oc_4 73 shX12_readsCompared_73) kic_1 ?_
          refine lv_iadd hx hb (oc_96 74 (aq_1 shX12_readsCompared_73)) ?_
          refine lv_topi (fun y_14 ey_14 => ?_)
          obtain rfl : y_14 = (nI ((cn2 19) + 1)) := ey_14.trans (nI_add (cn2 19) 1)
          refine pM_233 S hK hP hD hS (a := ((cn2 19) + 1)) (cn2 := (va_up cn2 19 ((cn2 19) + 1))) rfl rfl (oc_181 75 (aq_2 shX12_readsCompared_73) uw_0_233) (fun H locs hP hD hS => ?_)
          refine lv_aload_n hx hb (oc_42 78 (aq_5 shX12_readsCompared_73)) rfl (lvA1 hl) ?_
          have hFc := free_all hD hS hA
          refine va_calli (runV_a (As := []) (rest := []) S (q_readsSum l D cI cB cZ g (va_up cn2 19 ((cn2 19) + 1)) In2 Fn2 a0 1 (s0 + 1) H.size (IM.fr (In := In2) hIn2 (Fr.c 19 Fr.rf) (by decide) (by decide)) (by have q := PBk.pl (pl' := cn2 19 + 1) (s' := s0 + 1) kh_2a (by (first | omega | (have zz0 := Hid.u hi_cn; have zz1 := Hid.u hi_cn2; have zz2 := Hid.u hq_cn2; omega))) (by (first | omega | (have zz0 := Hid.u hi_cn; have zz1 := Hid.u hi_cn2; have zz2 := Hid.u hq_cn2; omega))) (by (first | omega | (have zz0 := Hid.u hi_cn; have zz1 := Hid.u hi_cn2; have zz2 := Hid.u hq_cn2; omega))); exact q) (show 0 < cn2 24 → 10 ≤ kd (Fn2 28 (cn2 24 - 1)) ∧ kd (Fn2 28 (cn2 24 - 1)) ≤ 13 from fun _ => hC1.2.2 _ (by (first | omega | (have zz0 := Hid.u hi_cn; have zz1 := Hid.u hi_cn2; have zz2 := Hid.u hq_cn2; omega))))) kV_RX12_297 hK hP hD 0 rfl rfl rfl ⟨Nat.le_of_ble_eq_true rfl, Nat.le_of_ble_eq_true rfl⟩ ⟨Nat.le_of_ble_eq_true rfl, Nat.le_of_ble_eq_true rfl⟩ rfl hl.1 rfl (Nat.le_of_ble_eq_true rfl) (oc_182 79 (aq_6 shX12_readsCompared_73) uw_1_41)) hS (fun q _ h => hFc q h) hFc (fun r_15 u t H1 locs ht hvm wh_16 hB hz1 hk1 hS => ?_)
          obtain ⟨cn16, In16, Fn16⟩ := u
          obtain ⟨hP1, hD1⟩ := hB
          rw [ht] at hP1
          have hP : va_P D vwCl (wM cI cB cZ g cn16 In16 Fn16) H1 := hP1
          have hD : va_D A (wM cI cB cZ g cn16 In16 Fn16) := hD1.weaken (fun _ _ _ h => hFc _ h)
          generalize H1 = H at hP hS ⊢
          have vh_16 : (fun r c2 I2 F2 => Fr [19, 23, 24, 26] [21, 22] [27, 28] (va_up cn2 19 ((cn2 19) + 1)) In2 Fn2 c2 I2 F2 ∧ IM c2 F2 ∧ (r = 0 ∨ (r = 1 ∧ PBk (c2 19) (c2 20) (c2 23) (c2 24) (F2 27) (F2 28) a0 (1 + 1) (s0 + 1) ∧ c2 24 = (cn2 24) ∧ (∀ k : Nat, k < a0 → F2 27 k = (Fn2 27) k) ∧ (∀ i : Nat, i < (cn2 24) → F2 28 i = (Fn2 28) i) ∧ ((cn2 19) + 1) < c2 19))) r_15 cn16 In16 Fn16 := wh_16
          obtain ⟨hfc16, hIn16, h_16⟩ := vh_16
          have hf16 : Fr [19, 23, 24, 26] [21, 22] [27, 28] cn In Fn cn16 In16 Fn16 := Fr.mo (Fr.tr (Fr.c 19 hf2) hfc16) (sbl rfl) (sbl rfl) (sbl rfl)
          have hi_cn16 : Hid (CB cn16) := hIn16.b
          have : cn16 20 = cn 20 := hf16.1 20 (nml rfl)
          have : cn16 25 = cn 25 := hf16.1 25 (nml rfl)
          have hq_cn16 := Hid.i (frq_19_23_24_26_0_1_2_46_57_58_62_63_75_83_44 hf16)
          have : cn16 20 = (cn2 20) := hfc16.1 20 (nml rfl)
          have : cn16 25 = (cn2 25) := hfc16.1 25 (nml rfl)
          rcases h_16 with rfl | ⟨rfl, kh_16⟩
          ·
            refine lv_if_ne (tgt := 87) hx hb dX12_readsCompared_82 rfl (fun h => absurd h cq_eq_0_0) (fun _ => ?_)
            refine lv_iconst (v := 0) hx hb (oc_3 85 (aq_12 shX12_readsCompared_73)) kic_0 ?_
            exact W.zret (v := 0) hx hb hr rfl (fun t ht hW => ⟨⟨0, (cn16, In16, Fn16), rfl, ⟨(Fr.mo hf16 (sbl rfl) (sbl rfl) (sbl rfl)), hIn16, (by show 0 = 0 ∨ (0 = 1 ∧ PBk (cn16 19) (cn16 20) (cn16 23) (cn16 24) (Fn16 27) (Fn16 28) a0 1 s0 ∧ CK (cn16 24) (Fn16 28) ∧ (∀ k : Nat, k < a0 → Fn16 27 k = Fn 27 k) ∧ cn 19 < cn16 19); exact Or.inl rfl)⟩, by rw [ht]; exact hP, hD⟩, hS.F ht⟩) hS.2.2 (oc_172 86 (aq_13 shX12_readsCompared_73))
          ·
            obtain ⟨kh_16a, kh_16e, kh_16b, kh_16c, kh_16d⟩ := kh_16
            have kh_16f := kh_16a.f
            refine lv_if_ne (tgt := 87) hx hb dX12_readsCompared_82 rfl (fun _ => ?_) (fun h => absurd h cq_eq_1_0)
            have hC2 : CK (cn16 24) (Fn16 28) := by rw [kh_16e]; exact CK.cg hC1 (fun i hi => kh_16c i hi)
            have hC2w := hC2.1
            refine lv_aload_n hx hb (oc_42 87 (aq_14 shX12_readsCompared_73)) rfl (lvA1 hl) ?_
            refine lv_iload_n hx hb (oc_27 88 (aq_15 shX12_readsCompared_73)) rfl (lvA0 hl) ?_
            refine lv_iconst (v := 0) hx hb (oc_3 89 (aq_16 shX12_readsCompared_73)) kic_0 ?_
            have hFc := free_all hD hS hA
            refine va_callv (runV_a (As := [.int 9, .int 0]) (rest := []) S (q_says l D cI cB cZ g cn16 In16 Fn16 9 0 H.size hIn16 (by (first | omega | (have zz0 := Hid.u hi_cn; have zz1 := Hid.u hi_cn16; have zz2 := Hid.u hi_cn2; have zz3 := Hid.u hq_cn16; have zz4 := Hid.u hq_cn2; omega)))) kV_RX12_270 hK hP hD 0 rfl rfl rfl ⟨Nat.le_of_ble_eq_true rfl, Nat.le_of_ble_eq_true rfl⟩ ⟨Nat.le_of_ble_eq_true rfl, Nat.le_of_ble_eq_true rfl⟩ rfl hl.1 rfl (Nat.le_of_ble_eq_true rfl) (oc_182 90 (aq_17 shX12_readsCompared_73) uw_1_14)) hS (fun q _ h => hFc q h) hFc (fun u t H1 locs ht hvm wh_18 hB hz1 hk1 hS => ?_)
            obtain ⟨cn18, In18, Fn18⟩ := u
            obtain ⟨hP1, hD1⟩ := hB
            rw [ht] at hP1
            have vh_18 : (fun c2 I2 F2 => (∀ k : Nat, k ∉ [] → I2 k = In16 k) ∧ (((True) ∧ (va_up cn16 23 ((cn16 23) + 1)) = c2 ∧ (va_up Fn16 27 (upd ((Fn16 27)) ((cn16 23)) (nI (9 * 1048576 + 0)))) = F2))) cn18 In18 Fn18 := wh_18
            obtain ⟨hI18_, vh_18⟩ := vh_18
            obtain ⟨h_18, rfl, rfl⟩ := vh_18
            obtain rfl : In16 = In18 := (funext (fun k => hI18_ k List.not_mem_nil)).symm
            have hP : va_P D vwCl (wM cI cB cZ g (va_up cn16 23 ((cn16 23) + 1)) In16 (va_up Fn16 27 (upd ((Fn16 27)) ((cn16 23)) (nI (9 * 1048576 + 0))))) H1 := hP1
            have hD : va_D A (wM cI cB cZ g (va_up cn16 23 ((cn16 23) + 1)) In16 (va_up Fn16 27 (upd ((Fn16 27)) ((cn16 23)) (nI (9 * 1048576 + 0))))) := hD1.weaken (fun _ _ _ h => hFc _ h)
            generalize H1 = H at hP hS ⊢
            refine lv_aload_n hx hb (oc_42 93 (aq_20 shX12_readsCompared_73)) rfl (lvA1 hl) ?_
            have hFc := free_all hD hS hA
            refine va_callv (runV_a (As := []) (rest := []) S (q_endsPiece l D cI cB cZ g (va_up cn16 23 ((cn16 23) + 1)) In16 (va_up Fn16 27 (upd ((Fn16 27)) ((cn16 23)) (nI (9 * 1048576 + 0)))) a0 s0 H.size (IM.fr (In := In16) hIn16 (Fr.f 27 (Fr.c 23 Fr.rf)) (by decide) (by decide)) (by have q := PBk.code (o := 9) (x := 0) (w' := cn16 24) (h' := 1) (s' := s0) kh_16a (Nat.le_refl _) (by (first | omega | (have zz0 := Hid.u hi_cn; have zz1 := Hid.u hi_cn16; have zz2 := Hid.u hi_cn2; have zz3 := Hid.u hq_cn16; have zz4 := Hid.u hq_cn2; omega))) (Or.inl rfl) (by decide) (Or.inr (Or.inr (Or.inr ⟨by decide, by decide, by decide, rfl⟩))) (by (first | omega | (have zz0 := Hid.u hi_cn; have zz1 := Hid.u hi_cn16; have zz2 := Hid.u hi_cn2; have zz3 := Hid.u hq_cn16; have zz4 := Hid.u hq_cn2; omega))); exact q) hC2) kV_RX12_300 hK hP hD 0 rfl rfl rfl ⟨Nat.le_of_ble_eq_true rfl, Nat.le_of_ble_eq_true rfl⟩ ⟨Nat.le_of_ble_eq_true rfl, Nat.le_of_ble_eq_true rfl⟩ rfl hl.1 rfl (Nat.le_of_ble_eq_true rfl) (oc_182 94 (aq_21 shX12_readsCompared_73) uw_1_44)) hS (fun q _ h => hFc q h) hFc (fun u t H1 locs ht hvm wh_20 hB hz1 hk1 hS => ?_)
            obtain ⟨cn20, In20, Fn20⟩ := u
            obtain ⟨hP1, hD1⟩ := hB
            rw [ht] at hP1
            have hP : va_P D vwCl (wM cI cB cZ g cn20 In20 Fn20) H1 := hP1
            have hD : va_D A (wM cI cB cZ g cn20 In20 Fn20) := hD1.weaken (fun _ _ _ h => hFc _ h)
            generalize H1 = H at hP hS ⊢
            have vh_20 : (fun c2 I2 F2 => Fr [23, 24] [22] [27] (va_up cn16 23 ((cn16 23) + 1)) In16 (va_up Fn16 27 (upd ((Fn16 27)) ((cn16 23)) (nI (9 * 1048576 + 0)))) c2 I2 F2 ∧ IM c2 F2 ∧ ((PBk (c2 19) (c2 20) (c2 23) (c2 24) (F2 27) (F2 28) a0 1 s0) ∧ (CK (c2 24) (F2 28)) ∧ (∀ k : Nat, k < a0 → F2 27 k = (upd ((Fn16 27)) ((cn16 23)) (nI (9 * 1048576 + 0))) k))) cn20 In20 Fn20 := wh_20
            obtain ⟨hfc20, hIn20, h_20⟩ := vh_20
            have hf20 : Fr [19, 23, 24, 26] [21, 22] [27, 28] cn In Fn cn20 In20 Fn20 := Fr.mo (Fr.tr (Fr.f 27 (Fr.c 23 hf16)) hfc20) (sbl rfl) (sbl rfl) (sbl rfl)
            have hi_cn20 : Hid (CB cn20) := hIn20.b
            have : cn20 20 = cn 20 := hf20.1 20 (nml rfl)
            have : cn20 25 = cn 25 := hf20.1 25 (nml rfl)
            have hq_cn20 := Hid.i (frq_19_23_24_26_0_1_2_46_57_58_62_63_75_83_44 hf20)
            have : cn20 19 = (cn16 19) := hfc20.1 19 (nml rfl)
            have : cn20 20 = (cn16 20) := hfc20.1 20 (nml rfl)
            have : cn20 25 = (cn16 25) := hfc20.1 25 (nml rfl)
            obtain ⟨h_20a, h_20b, h_20c⟩ := h_20
            have h_20f := h_20a.f
            refine lv_iconst (v := 1) hx hb (oc_4 97 shX12_readsCompared_97) kic_1 ?_
            exact W.zret (v := 1) hx hb hr rfl (fun t ht hW => ⟨⟨1, (cn20, In20, Fn20), rfl, ⟨(Fr.mo hf20 (sbl rfl) (sbl rfl) (sbl rfl)), hIn20, (by show 1 = 0 ∨ (1 = 1 ∧ PBk (cn20 19) (cn20 20) (cn20 23) (cn20 24) (Fn20 27) (Fn20 28) a0 1 s0 ∧ CK (cn20 24) (Fn20 28) ∧ (∀ k : Nat, k < a0 → Fn20 27 k = Fn 27 k) ∧ cn 19 < cn20 19); exact Or.inr ⟨rfl, h_20a, h_20b, fun k hk => (h_20c k hk).trans ((upd_lt (by (first | omega | (have zz0 := Hid.u hi_cn; have zz1 := Hid.u hi_cn16; have zz2 := Hid.u hi_cn2; have zz3 := Hid.u hi_cn20; have zz4 := Hid.u hq_cn16; have zz5 := Hid.u hq_cn2; have zz6 := Hid.u hq_cn20; omega)))).trans ((kh_16b k hk).trans (kh_2b k hk))), by (first | omega | (have zz0 := Hid.u hi_cn; have zz1 := Hid.u hi_cn16; have zz2 := Hid.u hi_cn2; have zz3 := Hid.u hi_cn20; have zz4 := Hid.u hq_cn16; have zz5 := Hid.u hq_cn2; have zz6 := Hid.u hq_cn20; omega))⟩)⟩, by rw [ht]; exact hP, hD⟩, hS.F ht⟩) hS.2.2 (oc_172 98 (aq_1 shX12_readsCompared_97))
      ·
        have tc_8 : (r_6.toInt : Int) = 62 := congrArg Int32.toInt c_8
        refine lv_bipush (v := 8) hx hb (oc_16 32 (aq_8 shX12_readsCompared_24) sgb_8) kbc_8 ?_
        refine lv_goto (tgt := 52) hx hb (oc_167 34 (aq_10 shX12_readsCompared_24) sgw_0_18) rfl ?_
        refine lv_istore_n (lv' := [(1, .int 8), (0, .ref (g 100))]) hx hb dX12_readsCompared_52 rfl hl (ltb rfl) rfl (fun ls hl => ?_)
        refine lv_iload_n hx hb dX12_readsCompared_53 rfl (lvA0 hl) ?_
        refine lv_iconst (v := (-1)) hx hb dX12_readsCompared_54 kic_m1 ?_
        refine lv_icmp_ne (tgt := 68) hx hb dX12_readsCompared_55 rfl (fun _ => ?_) (fun h => absurd h cq_eq_8_m1)
        refine lv_aload_n hx hb (oc_42 68 (aq_20 shX12_readsCompared_48)) rfl (lvA1 hl) ?_
        refine lv_aload_n hx hb (oc_42 69 (aq_21 shX12_readsCompared_48)) rfl (lvA1 hl) ?_
        refine gM_233 S hK hP (v := .int (nI (cn2 19))) rfl (oc_180 70 (aq_22 shX12_readsCompared_48) uw_0_233) ?_
        refine lv_iconst (v := 1) hx hb (oc_4 73 shX12_readsCompared_73) kic_1 ?_
        refine lv_iadd hx hb (oc_96 74 (aq_1 shX12_readsCompared_73)) ?_
        refine lv_topi (fun y_21 ey_21 => ?_)
        obtain rfl : y_21 = (nI ((cn2 19) + 1)) := ey_21.trans (nI_add (cn2 19) 1)
        refine pM_233 S hK hP hD hS (a := ((cn2 19) + 1)) (cn2 := (va_up cn2 19 ((cn2 19) + 1))) rfl rfl (oc_181 75 (aq_2 shX12_readsCompared_73) uw_0_233) (fun H locs hP hD hS => ?_)
        refine lv_aload_n hx hb (oc_42 78 (aq_5 shX12_readsCompared_73)) rfl (lvA1 hl) ?_
        have hFc := free_all hD hS hA
        refine va_calli (runV_a (As := []) (rest := []) S (q_readsSum l D cI cB cZ g (va_up cn2 19 ((cn2 19) + 1)) In2 Fn2 a0 1 (s0 + 1) H.size (IM.fr (In := In2) hIn2 (Fr.c 19 Fr.rf) (by decide) (by decide)) (by have q := PBk.pl (pl' := cn2 19 + 1) (s' := s0 + 1) kh_2a (by (first | omega | (have zz0 := Hid.u hi_cn; have zz1 := Hid.u hi_cn2; have zz2 := Hid.u hq_cn2; omega))) (by (first | omega | (have zz0 := Hid.u hi_cn; have zz1 := Hid.u hi_cn2; have zz2 := Hid.u hq_cn2; omega))) (by (first | omega | (have zz0 := Hid.u hi_cn; have zz1 := Hid.u hi_cn2; have zz2 := Hid.u hq_cn2; omega))); exact q) (show 0 < cn2 24 → 10 ≤ kd (Fn2 28 (cn2 24 - 1)) ∧ kd (Fn2 28 (cn2 24 - 1)) ≤ 13 from fun _ => hC1.2.2 _ (by (first | omega | (have zz0 := Hid.u hi_cn; have zz1 := Hid.u hi_cn2; have zz2 := Hid.u hq_cn2; omega))))) kV_RX12_297 hK hP hD 0 rfl rfl rfl ⟨Nat.le_of_ble_eq_true rfl, Nat.le_of_ble_eq_true rfl⟩ ⟨Nat.le_of_ble_eq_true rfl, Nat.le_of_ble_eq_true rfl⟩ rfl hl.1 rfl (Nat.le_of_ble_eq_true rfl) (oc_182 79 (aq_6 shX12_readsCompared_73) uw_1_41)) hS (fun q _ h => hFc q h) hFc (fun r_22 u t H1 locs ht hvm wh_23 hB hz1 hk1 hS => ?_)
        obtain ⟨cn23, In23, Fn23⟩ := u
        obtain ⟨hP1, hD1⟩ := hB
        rw [ht] at hP1
        have hP : va_P D vwCl (wM cI cB cZ g cn23 In23 Fn23) H1 := hP1
        have hD : va_D A (wM cI cB cZ g cn23 In23 Fn23) := hD1.weaken (fun _ _ _ h => hFc _ h)
        generalize H1 = H at hP hS ⊢
        have vh_23 : (fun r c2 I2 F2 => Fr [19, 23, 24, 26] [21, 22] [27, 28] (va_up cn2 19 ((cn2 19) + 1)) In2 Fn2 c2 I2 F2 ∧ IM c2 F2 ∧ (r = 0 ∨ (r = 1 ∧ PBk (c2 19) (c2 20) (c2 23) (c2 24) (F2 27) (F2 28) a0 (1 + 1) (s0 + 1) ∧ c2 24 = (cn2 24) ∧ (∀ k : Nat, k < a0 → F2 27 k = (Fn2 27) k) ∧ (∀ i : Nat, i < (cn2 24) → F2 28 i = (Fn2 28) i) ∧ ((cn2 19) + 1) < c2 19))) r_22 cn23 In23 Fn23 := wh_23
        obtain ⟨hfc23, hIn23, h_23⟩ := vh_23
        have hf23 : Fr [19, 23, 24, 26] [21, 22] [27, 28] cn In Fn cn23 In23 Fn23 := Fr.mo (Fr.tr (Fr.c 19 hf2) hfc23) (sbl rfl) (sbl rfl) (sbl rfl)
        have hi_cn23 : Hid (CB cn23) := hIn23.b
        have : cn23 20 = cn 20 := hf23.1 20 (nml rfl)
        have : cn23 25 = cn 25 := hf23.1 25 (nml rfl)
        have hq_cn23 := Hid.i (frq_19_23_24_26_0_1_2_46_57_58_62_63_75_83_44 hf23)
        have : cn23 20 = (cn2 20) := hfc23.1 20 (nml rfl)
        have : cn23 25 = (cn2 25) := hfc23.1 25 (nml rfl)
        rcases h_23 with rfl | ⟨rfl, kh_23⟩
        ·
          refine lv_if_ne (tgt := 87) hx hb dX12_readsCompared_82 rfl (fun h => absurd h cq_eq_0_0) (fun _ => ?_)
          refine lv_iconst (v := 0) hx hb (oc_3 85 (aq_12 shX12_readsCompared_73)) kic_0 ?_
          exact W.zret (v := 0) hx hb hr rfl (fun t ht hW => ⟨⟨0, (cn23, In23, Fn23), rfl, ⟨(Fr.mo hf23 (sbl rfl) (sbl rfl) (sbl rfl)), hIn23, (by show 0 = 0 ∨ (0 = 1 ∧ PBk (cn23 19) (cn23 20) (cn23 23) (cn23 24) (Fn23 27) (Fn23 28) a0 1 s0 ∧ CK (cn23 24) (Fn23 28) ∧ (∀ k : Nat, k < a0 → Fn23 27 k = Fn 27 k) ∧ cn 19 < cn23 19); exact Or.inl rfl)⟩, by rw [ht]; exact hP, hD⟩, hS.F ht⟩) hS.2.2 (oc_172 86 (aq_13 shX12_readsCompared_73))
        ·
          obtain ⟨kh_23a, kh_23e, kh_23b, kh_23c, kh_23d⟩ := kh_23
          have kh_23f := kh_23a.f
          refine lv_if_ne (tgt := 87) hx hb dX12_readsCompared_82 rfl (fun _ => ?_) (fun h => absurd h cq_eq_1_0)
          have hC2 : CK (cn23 24) (Fn23 28) := by rw [kh_23e]; exact CK.cg hC1 (fun i hi => kh_23c i hi)
          have hC2w := hC2.1
          refine lv_aload_n hx hb (oc_42 87 (aq_14 shX12_readsCompared_73)) rfl (lvA1 hl) ?_
          refine lv_iload_n hx hb (oc_27 88 (aq_15 shX12_readsCompared_73)) rfl (lvA0 hl) ?_
          refine lv_iconst (v := 0) hx hb (oc_3 89 (aq_16 shX12_readsCompared_73)) kic_0 ?_
          have hFc := free_all hD hS hA
          refine va_callv (runV_a (As := [.int 8, .int 0]) (rest := []) S (q_says l D cI cB cZ g cn23 In23 Fn23 8 0 H.size hIn23 (by (first | omega | (have zz0 := Hid.u hi_cn; have zz1 := Hid.u hi_cn2; have zz2 := Hid.u hi_cn23; have zz3 := Hid.u hq_cn2; have zz4 := Hid.u hq_cn23; omega)))) kV_RX12_270 hK hP hD 0 rfl rfl rfl ⟨Nat.le_of_ble_eq_true rfl, Nat.le_of_ble_eq_true rfl⟩ ⟨Nat.le_of_ble_eq_true rfl, Nat.le_of_ble_eq_true rfl⟩ rfl hl.1 rfl (Nat.le_of_ble_eq_true rfl) (oc_182 90 (aq_17 shX12_readsCompared_73) uw_1_14)) hS (fun q _ h => hFc q h) hFc (fun u t H1 locs ht hvm wh_25 hB hz1 hk1 hS => ?_)
          obtain ⟨cn25, In25, Fn25⟩ := u
          obtain ⟨hP1, hD1⟩ := hB
          rw [ht] at hP1
          have vh_25 : (fun c2 I2 F2 => (∀ k : Nat, k ∉ [] → I2 k = In23 k) ∧ (((True) ∧ (va_up cn23 23 ((cn23 23) + 1)) = c2 ∧ (va_up Fn23 27 (upd ((Fn23 27)) ((cn23 23)) (nI (8 * 1048576 + 0)))) = F2))) cn25 In25 Fn25 := wh_25
          obtain ⟨hI25_, vh_25⟩ := vh_25
          obtain ⟨h_25, rfl, rfl⟩ := vh_25
          obtain rfl : In23 = In25 := (funext (fun k => hI25_ k List.not_mem_nil)).symm
          have hP : va_P D vwCl (wM cI cB cZ g (va_up cn23 23 ((cn23 23) + 1)) In23 (va_up Fn23 27 (upd ((Fn23 27)) ((cn23 23)) (nI (8 * 1048576 + 0))))) H1 := hP1
          have hD : va_D A (wM cI cB cZ g (va_up cn23 23 ((cn23 23) + 1)) In23 (va_up Fn23 27 (upd ((Fn23 27)) ((cn23 23)) (nI (8 * 1048576 + 0))))) := hD1.weaken (fun _ _ _ h => hFc _ h)
          generalize H1 = H at hP hS ⊢
          refine lv_aload_n hx hb (oc_42 93 (aq_20 shX12_readsCompared_73)) rfl (lvA1 hl) ?_
          have hFc := free_all hD hS hA
          refine va_callv (runV_a (As := []) (rest := []) S (q_endsPiece l D cI cB cZ g (va_up cn23 23 ((cn23 23) + 1)) In23 (va_up Fn23 27 (upd ((Fn23 27)) ((cn23 23)) (nI (8 * 1048576 + 0)))) a0 s0 H.size (IM.fr (In := In23) hIn23 (Fr.f 27 (Fr.c 23 Fr.rf)) (by decide) (by decide)) (by have q := PBk.code (o := 8) (x := 0) (w' := cn23 24) (h' := 1) (s' := s0) kh_23a (Nat.le_refl _) (by (first | omega | (have zz0 := Hid.u hi_cn; have zz1 := Hid.u hi_cn2; have zz2 := Hid.u hi_cn23; have zz3 := Hid.u hq_cn2; have zz4 := Hid.u hq_cn23; omega))) (Or.inl rfl) (by decide) (Or.inr (Or.inr (Or.inr ⟨by decide, by decide, by decide, rfl⟩))) (by (first | omega | (have zz0 := Hid.u hi_cn; have zz1 := Hid.u hi_cn2; have zz2 := Hid.u hi_cn23; have zz3 := Hid.u hq_cn2; have zz4 := Hid.u hq_cn23; omega))); exact q) hC2) kV_RX12_300 hK hP hD 0 rfl rfl rfl ⟨Nat.le_of_ble_eq_true rfl, Nat.le_of_ble_eq_true rfl⟩ ⟨Nat.le_of_ble_eq_true rfl, Nat.le_of_ble_eq_true rfl⟩ rfl hl.1 rfl (Nat.le_of_ble_eq_true rfl) (oc_182 94 (aq_21 shX12_readsCompared_73) uw_1_44)) hS (fun q _ h => hFc q h) hFc (fun u t H1 locs ht hvm wh_27 hB hz1 hk1 hS => ?_)
          obtain ⟨cn27, In27, Fn27⟩ := u
          obtain ⟨hP1, hD1⟩ := hB
          rw [ht] at hP1
          have hP : va_P D vwCl (wM cI cB cZ g cn27 In27 Fn27) H1 := hP1
          have hD : va_D A (wM cI cB cZ g cn27 In27 Fn27) := hD1.weaken (fun _ _ _ h => hFc _ h)
          generalize H1 = H at hP hS ⊢
          have vh_27 : (fun c2 I2 F2 => Fr [23, 24] [22] [27] (va_up cn23 23 ((cn23 23) + 1)) In23 (va_up Fn23 27 (upd ((Fn23 27)) ((cn23 23)) (nI (8 * 1048576 + 0)))) c2 I2 F2 ∧ IM c2 F2 ∧ ((PBk (c2 19) (c2 20) (c2 23) (c2 24) (F2 27) (F2 28) a0 1 s0) ∧ (CK (c2 24) (F2 28)) ∧ (∀ k : Nat, k < a0 → F2 27 k = (upd ((Fn23 27)) ((cn23 23)) (nI (8 * 1048576 + 0))) k))) cn27 In27 Fn27 := wh_27
          obtain ⟨hfc27, hIn27, h_27⟩ := vh_27
          have hf27 : Fr [19, 23, 24, 26] [21, 22] [27, 28] cn In Fn cn27 In27 Fn27 := Fr.mo (Fr.tr (Fr.f 27 (Fr.c 23 hf23)) hfc27) (sbl rfl) (sbl rfl) (sbl rfl)
          have hi_cn27 : Hid (CB cn27) := hIn27.b
          have : cn27 20 = cn 20 := hf27.1 20 (nml rfl)
          have : cn27 25 = cn 25 := hf27.1 25 (nml rfl)
          have hq_cn27 := Hid.i (frq_19_23_24_26_0_1_2_46_57_58_62_63_75_83_44 hf27)
          have : cn27 19 = (cn23 19) := hfc27.1 19 (nml rfl)
          have : cn27 20 = (cn23 20) := hfc27.1 20 (nml rfl)
          have : cn27 25 = (cn23 25) := hfc27.1 25 (nml rfl)
          obtain ⟨h_27a, h_27b, h_27c⟩ := h_27
          have h_27f := h_27a.f
          refine lv_iconst (v := 1) hx hb (oc_4 97 shX12_readsCompared_97) kic_1 ?_
          exact W.zret (v := 1) hx hb hr rfl (fun t ht hW => ⟨⟨1, (cn27, In27, Fn27), rfl, ⟨(Fr.mo hf27 (sbl rfl) (sbl rfl) (sbl rfl)), hIn27, (by show 1 = 0 ∨ (1 = 1 ∧ PBk (cn27 19) (cn27 20) (cn27 23) (cn27 24) (Fn27 27) (Fn27 28) a0 1 s0 ∧ CK (cn27 24) (Fn27 28) ∧ (∀ k : Nat, k < a0 → Fn27 27 k = Fn 27 k) ∧ cn 19 < cn27 19); exact Or.inr ⟨rfl, h_27a, h_27b, fun k hk => (h_27c k hk).trans ((upd_lt (by (first | omega | (have zz0 := Hid.u hi_cn; have zz1 := Hid.u hi_cn2; have zz2 := Hid.u hi_cn23; have zz3 := Hid.u hi_cn27; have zz4 := Hid.u hq_cn2; have zz5 := Hid.u hq_cn23; have zz6 := Hid.u hq_cn27; omega)))).trans ((kh_23b k hk).trans (kh_2b k hk))), by (first | omega | (have zz0 := Hid.u hi_cn; have zz1 := Hid.u hi_cn2; have zz2 := Hid.u hi_cn23; have zz3 := Hid.u hi_cn27; have zz4 := Hid.u hq_cn2; have zz5 := Hid.u hq_cn23; have zz6 := Hid.u hq_cn27; omega))⟩)⟩, by rw [ht]; exact hP, hD⟩, hS.F ht⟩) hS.2.2 (oc_172 98 (aq_1 shX12_readsCompared_97))
    ·
      have tc_5 : (r_3.toInt : Int) = 60 := congrArg Int32.toInt c_5
      refine lv_bipush (v := 7) hx hb (oc_16 18 (aq_18 shX12_readsCompared_0) sgb_7) kbc_7 ?_
      refine lv_goto (tgt := 52) hx hb (oc_167 20 (aq_20 shX12_readsCompared_0) sgw_0_32) rfl ?_
      refine lv_istore_n (lv' := [(1, .int 7), (0, .ref (g 100))]) hx hb dX12_readsCompared_52 rfl hl (ltb rfl) rfl (fun ls hl => ?_)
      refine lv_iload_n hx hb dX12_readsCompared_53 rfl (lvA0 hl) ?_
      refine lv_iconst (v := (-1)) hx hb dX12_readsCompared_54 kic_m1 ?_
      refine lv_icmp_ne (tgt := 68) hx hb dX12_readsCompared_55 rfl (fun _ => ?_) (fun h => absurd h cq_eq_7_m1)
      refine lv_aload_n hx hb (oc_42 68 (aq_20 shX12_readsCompared_48)) rfl (lvA1 hl) ?_
      refine lv_aload_n hx hb (oc_42 69 (aq_21 shX12_readsCompared_48)) rfl (lvA1 hl) ?_
      refine gM_233 S hK hP (v := .int (nI (cn2 19))) rfl (oc_180 70 (aq_22 shX12_readsCompared_48) uw_0_233) ?_
      refine lv_iconst (v := 1) hx hb (oc_4 73 shX12_readsCompared_73) kic_1 ?_
      refine lv_iadd hx hb (oc_96 74 (aq_1 shX12_readsCompared_73)) ?_
      refine lv_topi (fun y_28 ey_28 => ?_)
      obtain rfl : y_28 = (nI ((cn2 19) + 1)) := ey_28.trans (nI_add (cn2 19) 1)
      refine pM_233 S hK hP hD hS (a := ((cn2 19) + 1)) (cn2 := (va_up cn2 19 ((cn2 19) + 1))) rfl rfl (oc_181 75 (aq_2 shX12_readsCompared_73) uw_0_233) (fun H locs hP hD hS => ?_)
      refine lv_aload_n hx hb (oc_42 78 (aq_5 shX12_readsCompared_73)) rfl (lvA1 hl) ?_
      have hFc := free_all hD hS hA
      refine va_calli (runV_a (As := []) (rest := []) S (q_readsSum l D cI cB cZ g (va_up cn2 19 ((cn2 19) + 1)) In2 Fn2 a0 1 (s0 + 1) H.size (IM.fr (In := In2) hIn2 (Fr.c 19 Fr.rf) (by decide) (by decide)) (by have q := PBk.pl (pl' := cn2 19 + 1) (s' := s0 + 1) kh_2a (by (first | omega | (have zz0 := Hid.u hi_cn; have zz1 := Hid.u hi_cn2; have zz2 := Hid.u hq_cn2; omega))) (by (first | omega | (have zz0 := Hid.u hi_cn; have zz1 := Hid.u hi_cn2; have zz2 := Hid.u hq_cn2; omega))) (by (first | omega | (have zz0 := Hid.u hi_cn; have zz1 := Hid.u hi_cn2; have zz2 := Hid.u hq_cn2; omega))); exact q) (show 0 < cn2 24 → 10 ≤ kd (Fn2 28 (cn2 24 - 1)) ∧ kd (Fn2 28 (cn2 24 - 1)) ≤ 13 from fun _ => hC1.2.2 _ (by (first | omega | (have zz0 := Hid.u hi_cn; have zz1 := Hid.u hi_cn2; have zz2 := Hid.u hq_cn2; omega))))) kV_RX12_297 hK hP hD 0 rfl rfl rfl ⟨Nat.le_of_ble_eq_true rfl, Nat.le_of_ble_eq_true rfl⟩ ⟨Nat.le_of_ble_eq_true rfl, Nat.le_of_ble_eq_true rfl⟩ rfl hl.1 rfl (Nat.le_of_ble_eq_true rfl) (oc_182 79 (aq_6 shX12_readsCompared_73) uw_1_41)) hS (fun q _ h => hFc q h) hFc (fun r_29 u t H1 locs ht hvm wh_30 hB hz1 hk1 hS => ?_)
      obtain ⟨cn30, In30, Fn30⟩ := u
      obtain ⟨hP1, hD1⟩ := hB
      rw [ht] at hP1
      have hP : va_P D vwCl (wM cI cB cZ g cn30 In30 Fn30) H1 := hP1
      have hD : va_D A (wM cI cB cZ g cn30 In30 Fn30) := hD1.weaken (fun _ _ _ h => hFc _ h)
      generalize H1 = H at hP hS ⊢
      have vh_30 : (fun r c2 I2 F2 => Fr [19, 23, 24, 26] [21, 22] [27, 28] (va_up cn2 19 ((cn2 19) + 1)) In2 Fn2 c2 I2 F2 ∧ IM c2 F2 ∧ (r = 0 ∨ (r = 1 ∧ PBk (c2 19) (c2 20) (c2 23) (c2 24) (F2 27) (F2 28) a0 (1 + 1) (s0 + 1) ∧ c2 24 = (cn2 24) ∧ (∀ k : Nat, k < a0 → F2 27 k = (Fn2 27) k) ∧ (∀ i : Nat, i < (cn2 24) → F2 28 i = (Fn2 28) i) ∧ ((cn2 19) + 1) < c2 19))) r_29 cn30 In30 Fn30 := wh_30
      obtain ⟨hfc30, hIn30, h_30⟩ := vh_30
      have hf30 : Fr [19, 23, 24, 26] [21, 22] [27, 28] cn In Fn cn30 In30 Fn30 := Fr.mo (Fr.tr (Fr.c 19 hf2) hfc30) (sbl rfl) (sbl rfl) (sbl rfl)
      have hi_cn30 : Hid (CB cn30) := hIn30.b
      have : cn30 20 = cn 20 := hf30.1 20 (nml rfl)
      have : cn30 25 = cn 25 := hf30.1 25 (nml rfl)
      have hq_cn30 := Hid.i (frq_19_23_24_26_0_1_2_46_57_58_62_63_75_83_44 hf30)
      have : cn30 20 = (cn2 20) := hfc30.1 20 (nml rfl)
      have : cn30 25 = (cn2 25) := hfc30.1 25 (nml rfl)
      rcases h_30 with rfl | ⟨rfl, kh_30⟩
      ·
        refine lv_if_ne (tgt := 87) hx hb dX12_readsCompared_82 rfl (fun h => absurd h cq_eq_0_0) (fun _ => ?_)
        refine lv_iconst (v := 0) hx hb (oc_3 85 (aq_12 shX12_readsCompared_73)) kic_0 ?_
        exact W.zret (v := 0) hx hb hr rfl (fun t ht hW => ⟨⟨0, (cn30, In30, Fn30), rfl, ⟨(Fr.mo hf30 (sbl rfl) (sbl rfl) (sbl rfl)), hIn30, (by show 0 = 0 ∨ (0 = 1 ∧ PBk (cn30 19) (cn30 20) (cn30 23) (cn30 24) (Fn30 27) (Fn30 28) a0 1 s0 ∧ CK (cn30 24) (Fn30 28) ∧ (∀ k : Nat, k < a0 → Fn30 27 k = Fn 27 k) ∧ cn 19 < cn30 19); exact Or.inl rfl)⟩, by rw [ht]; exact hP, hD⟩, hS.F ht⟩) hS.2.2 (oc_172 86 (aq_13 shX12_readsCompared_73))
      ·
        obtain ⟨kh_30a, kh_30e, kh_30b, kh_30c, kh_30d⟩ := kh_30
        have kh_30f := kh_30a.f
        refine lv_if_ne (tgt := 87) hx hb dX12_readsCompared_82 rfl (fun _ => ?_) (fun h => absurd h cq_eq_1_0)
        have hC2 : CK (cn30 24) (Fn30 28) := by rw [kh_30e]; exact CK.cg hC1 (fun i hi => kh_30c i hi)
        have hC2w := hC2.1
        refine lv_aload_n hx hb (oc_42 87 (aq_14 shX12_readsCompared_73)) rfl (lvA1 hl) ?_
        refine lv_iload_n hx hb (oc_27 88 (aq_15 shX12_readsCompared_73)) rfl (lvA0 hl) ?_
        refine lv_iconst (v := 0) hx hb (oc_3 89 (aq_16 shX12_readsCompared_73)) kic_0 ?_
        have hFc := free_all hD hS hA
        refine va_callv (runV_a (As := [.int 7, .int 0]) (rest := []) S (q_says l D cI cB cZ g cn30 In30 Fn30 7 0 H.size hIn30 (by (first | omega | (have zz0 := Hid.u hi_cn; have zz1 := Hid.u hi_cn2; have zz2 := Hid.u hi_cn30; have zz3 := Hid.u hq_cn2; have zz4 := Hid.u hq_cn30; omega)))) kV_RX12_270 hK hP hD 0 rfl rfl rfl ⟨Nat.le_of_ble_eq_true rfl, Nat.le_of_ble_eq_true rfl⟩ ⟨Nat.le_of_ble_eq_true rfl, Nat.le_of_ble_eq_true rfl⟩ rfl hl.1 rfl (Nat.le_of_ble_eq_true rfl) (oc_182 90 (aq_17 shX12_readsCompared_73) uw_1_14)) hS (fun q _ h => hFc q h) hFc (fun u t H1 locs ht hvm wh_32 hB hz1 hk1 hS => ?_)
        obtain ⟨cn32, In32, Fn32⟩ := u
        obtain ⟨hP1, hD1⟩ := hB
        rw [ht] at hP1
        have vh_32 : (fun c2 I2 F2 => (∀ k : Nat, k ∉ [] → I2 k = In30 k) ∧ (((True) ∧ (va_up cn30 23 ((cn30 23) + 1)) = c2 ∧ (va_up Fn30 27 (upd ((Fn30 27)) ((cn30 23)) (nI (7 * 1048576 + 0)))) = F2))) cn32 In32 Fn32 := wh_32
        obtain ⟨hI32_, vh_32⟩ := vh_32
        obtain ⟨h_32, rfl, rfl⟩ := vh_32
        obtain rfl : In30 = In32 := (funext (fun k => hI32_ k List.not_mem_nil)).symm
        have hP : va_P D vwCl (wM cI cB cZ g (va_up cn30 23 ((cn30 23) + 1)) In30 (va_up Fn30 27 (upd ((Fn30 27)) ((cn30 23)) (nI (7 * 1048576 + 0))))) H1 := hP1
        have hD : va_D A (wM cI cB cZ g (va_up cn30 23 ((cn30 23) + 1)) In30 (va_up Fn30 27 (upd ((Fn30 27)) ((cn30 23)) (nI (7 * 1048576 + 0))))) := hD1.weaken (fun _ _ _ h => hFc _ h)
        generalize H1 = H at hP hS ⊢
        refine lv_aload_n hx hb (oc_42 93 (aq_20 shX12_readsCompared_73)) rfl (lvA1 hl) ?_
        have hFc := free_all hD hS hA
        refine va_callv (runV_a (As := []) (rest := []) S (q_endsPiece l D cI cB cZ g (va_up cn30 23 ((cn30 23) + 1)) In30 (va_up Fn30 27 (upd ((Fn30 27)) ((cn30 23)) (nI (7 * 1048576 + 0)))) a0 s0 H.size (IM.fr (In := In30) hIn30 (Fr.f 27 (Fr.c 23 Fr.rf)) (by decide) (by decide)) (by have q := PBk.code (o := 7) (x := 0) (w' := cn30 24) (h' := 1) (s' := s0) kh_30a (Nat.le_refl _) (by (first | omega | (have zz0 := Hid.u hi_cn; have zz1 := Hid.u hi_cn2; have zz2 := Hid.u hi_cn30; have zz3 := Hid.u hq_cn2; have zz4 := Hid.u hq_cn30; omega))) (Or.inl rfl) (by decide) (Or.inr (Or.inr (Or.inr ⟨by decide, by decide, by decide, rfl⟩))) (by (first | omega | (have zz0 := Hid.u hi_cn; have zz1 := Hid.u hi_cn2; have zz2 := Hid.u hi_cn30; have zz3 := Hid.u hq_cn2; have zz4 := Hid.u hq_cn30; omega))); exact q) hC2) kV_RX12_300 hK hP hD 0 rfl rfl rfl ⟨Nat.le_of_ble_eq_true rfl, Nat.le_of_ble_eq_true rfl⟩ ⟨Nat.le_of_ble_eq_true rfl, Nat.le_of_ble_eq_true rfl⟩ rfl hl.1 rfl (Nat.le_of_ble_eq_true rfl) (oc_182 94 (aq_21 shX12_readsCompared_73) uw_1_44)) hS (fun q _ h => hFc q h) hFc (fun u t H1 locs ht hvm wh_34 hB hz1 hk1 hS => ?_)
        obtain ⟨cn34, In34, Fn34⟩ := u
        obtain ⟨hP1, hD1⟩ := hB
        rw [ht] at hP1
        have hP : va_P D vwCl (wM cI cB cZ g cn34 In34 Fn34) H1 := hP1
        have hD : va_D A (wM cI cB cZ g cn34 In34 Fn34) := hD1.weaken (fun _ _ _ h => hFc _ h)
        generalize H1 = H at hP hS ⊢
        have vh_34 : (fun c2 I2 F2 => Fr [23, 24] [22] [27] (va_up cn30 23 ((cn30 23) + 1)) In30 (va_up Fn30 27 (upd ((Fn30 27)) ((cn30 23)) (nI (7 * 1048576 + 0)))) c2 I2 F2 ∧ IM c2 F2 ∧ ((PBk (c2 19) (c2 20) (c2 23) (c2 24) (F2 27) (F2 28) a0 1 s0) ∧ (CK (c2 24) (F2 28)) ∧ (∀ k : Nat, k < a0 → F2 27 k = (upd ((Fn30 27)) ((cn30 23)) (nI (7 * 1048576 + 0))) k))) cn34 In34 Fn34 := wh_34
        obtain ⟨hfc34, hIn34, h_34⟩ := vh_34
        have hf34 : Fr [19, 23, 24, 26] [21, 22] [27, 28] cn In Fn cn34 In34 Fn34 := Fr.mo (Fr.tr (Fr.f 27 (Fr.c 23 hf30)) hfc34) (sbl rfl) (sbl rfl) (sbl rfl)
        have hi_cn34 : Hid (CB cn34) := hIn34.b
        have : cn34 20 = cn 20 := hf34.1 20 (nml rfl)
        have : cn34 25 = cn 25 := hf34.1 25 (nml rfl)
        have hq_cn34 := Hid.i (frq_19_23_24_26_0_1_2_46_57_58_62_63_75_83_44 hf34)
        have : cn34 19 = (cn30 19) := hfc34.1 19 (nml rfl)
        have : cn34 20 = (cn30 20) := hfc34.1 20 (nml rfl)
        have : cn34 25 = (cn30 25) := hfc34.1 25 (nml rfl)
        obtain ⟨h_34a, h_34b, h_34c⟩ := h_34
        have h_34f := h_34a.f
        refine lv_iconst (v := 1) hx hb (oc_4 97 shX12_readsCompared_97) kic_1 ?_
        exact W.zret (v := 1) hx hb hr rfl (fun t ht hW => ⟨⟨1, (cn34, In34, Fn34), rfl, ⟨(Fr.mo hf34 (sbl rfl) (sbl rfl) (sbl rfl)), hIn34, (by show 1 = 0 ∨ (1 = 1 ∧ PBk (cn34 19) (cn34 20) (cn34 23) (cn34 24) (Fn34 27) (Fn34 28) a0 1 s0 ∧ CK (cn34 24) (Fn34 28) ∧ (∀ k : Nat, k < a0 → Fn34 27 k = Fn 27 k) ∧ cn 19 < cn34 19); exact Or.inr ⟨rfl, h_34a, h_34b, fun k hk => (h_34c k hk).trans ((upd_lt (by (first | omega | (have zz0 := Hid.u hi_cn; have zz1 := Hid.u hi_cn2; have zz2 := Hid.u hi_cn30; have zz3 := Hid.u hi_cn34; have zz4 := Hid.u hq_cn2; have zz5 := Hid.u hq_cn30; have zz6 := Hid.u hq_cn34; omega)))).trans ((kh_30b k hk).trans (kh_2b k hk))), by (first | omega | (have zz0 := Hid.u hi_cn; have zz1 := Hid.u hi_cn2; have zz2 := Hid.u hi_cn30; have zz3 := Hid.u hi_cn34; have zz4 := Hid.u hq_cn2; have zz5 := Hid.u hq_cn30; have zz6 := Hid.u hq_cn34; omega))⟩)⟩, by rw [ht]; exact hP, hD⟩, hS.F ht⟩) hS.2.2 (oc_172 98 (aq_1 shX12_readsCompared_97))
set_option maxRecDepth 100000 in
set_option maxHeartbeats 4000000 in
theorem q_readsCondition (l : Launch) (D : va_G) (cI cB cZ : ClassId) (g : Nat → Nat) (cn : Nat → Nat) (In : Nat → Int32) (Fn : Nat → Nat → Int32)  (sz : Nat) (hI : IM cn Fn) (hp : cn 19 ≤ cn 20) (hn : cn 20 ≤ 160) (h23 : cn 23 ≤ cn 19) : Met l yX12_readsCondition (CWS yX12_readsCondition cX12_readsCondition 1 (some .boolean)) (RM 6 0 0) (PBw [.ref (g 100)] D cI cB cZ (wM cI cB cZ g cn In Fn) sz) (va_Qi (fun (r : Int32) (u : (Nat → Nat) × (Nat → Int32) × (Nat → Nat → Int32)) => (fun r c2 I2 F2 => Fr [19, 23, 24, 26] [21, 22] [27, 28] cn In Fn c2 I2 F2 ∧ IM c2 F2 ∧ (r = 0 ∨ (r = 1 ∧ SegOK (F2 27) 0 (cn 23) (c2 23) ∧ cn 23 ≤ c2 23 ∧ c2 23 ≤ c2 19 ∧ (cn 19 ≤ c2 19 ∧ c2 19 ≤ cn 20) ∧ (∀ k : Nat, k < cn 23 → F2 27 k = Fn 27 k)))) r u.1 u.2.1 u.2.2) (fun (u : (Nat → Nat) × (Nat → Int32) × (Nat → Nat → Int32)) (t : State) => va_P D vwCl (wM cI cB cZ g u.1 u.2.1 u.2.2) t.heap ∧ va_D (va_A (wM cI cB cZ g cn In Fn) sz) (wM cI cB cZ g u.1 u.2.1 u.2.2)) (va_A (wM cI cB cZ g cn In Fn) sz)) 0 0 (va_A (wM cI cB cZ g cn In Fn) sz) := by
  refine en_w (fun A => (va_Qi (fun (r : Int32) (u : (Nat → Nat) × (Nat → Int32) × (Nat → Nat → Int32)) => (fun (r : Int32) (c2 : Nat → Nat) (I2 : Nat → Int32) (F2 : Nat → Nat → Int32) => Fr [19, 23, 24, 26] [21, 22] [27, 28] cn In Fn c2 I2 F2 ∧ IM c2 F2 ∧ (r = 0 ∨ (r = 1 ∧ SegOK (F2 27) 0 (cn 23) (c2 23) ∧ cn 23 ≤ c2 23 ∧ c2 23 ≤ c2 19 ∧ (cn 19 ≤ c2 19 ∧ c2 19 ≤ cn 20) ∧ (∀ k : Nat, k < cn 23 → F2 27 k = Fn 27 k)))) r u.1 u.2.1 u.2.2) (fun (u : (Nat → Nat) × (Nat → Int32) × (Nat → Nat → Int32)) (t : State) => va_P D vwCl (wM cI cB cZ g u.1 u.2.1 u.2.2) t.heap ∧ va_D A (wM cI cB cZ g u.1 u.2.1 u.2.2)) A)) rfl rfl pn_RX12 (Nat.le_of_ble_eq_true rfl) (fun p e s m below meth c A hx hb hml hown S hr hlocks hnm hA hP hK hD hS ls hl => ?_)
  have hl : lv_has ls 1 [(0, .ref (g 100))] := hl
  have hi_cn : Hid (CB cn) := hI.b
  refine lv_aload_n hx hb (oc_42 0 shX12_readsCondition_0) rfl (lvA0 hl) ?_
  refine vp_callSi (runV_ra (As := []) (rest := []) S (q_here l D cI cB cZ g cn In Fn  hI (by (first | omega | (have zz0 := Hid.u hi_cn; omega))) (by (first | omega | (have zz0 := Hid.u hi_cn; omega)))) kV_RX12_239 hK hP 0 rfl rfl rfl ⟨Nat.le_of_ble_eq_true rfl, Nat.le_of_ble_eq_true rfl⟩ ⟨Nat.le_of_ble_eq_true rfl, Nat.le_of_ble_eq_true rfl⟩ rfl hl.1 rfl (Nat.le_of_ble_eq_true rfl) (oc_182 1 (aq_1 shX12_readsCondition_0) uw_0_239)) (fun r_1 h_2 => ?_)
  refine lv_bipush (v := 40) hx hb (oc_16 4 (aq_4 shX12_readsCondition_0) sgb_40) kbc_40 ?_
  refine lv_icmp_eq (tgt := 19) hx hb (oc_159 6 (aq_6 shX12_readsCondition_0) sgw_0_13) rfl (fun c_3 => ?_) (fun c_3 => ?_)
  ·
    have tc_3 : (r_1.toInt : Int) = 40 := congrArg Int32.toInt c_3
    refine lv_aload_n hx hb (oc_42 19 (aq_19 shX12_readsCondition_0)) rfl (lvA0 hl) ?_
    refine lv_iconst (v := 0) hx hb (oc_3 20 (aq_20 shX12_readsCondition_0)) kic_0 ?_
    refine pM_261 S hK hP hD hS (In2 := (va_up In 22 0)) rfl (oc_181 21 (aq_21 shX12_readsCondition_0) uw_1_5) (fun H locs hP hD hS => ?_)
    refine lv_aload_n hx hb (oc_42 24 shX12_readsCondition_24) rfl (lvA0 hl) ?_
    refine lv_iconst (v := 0) hx hb (oc_3 25 (aq_1 shX12_readsCondition_24)) kic_0 ?_
    refine pM_264 S hK hP hD hS (a := 0) (cn2 := (va_up cn 24 0)) rfl rfl (oc_181 26 (aq_2 shX12_readsCondition_24) uw_1_8) (fun H locs hP hD hS => ?_)
    refine lv_aload_n hx hb (oc_42 29 (aq_5 shX12_readsCondition_24)) rfl (lvA0 hl) ?_
    refine lv_bipush (v := 13) hx hb (oc_16 30 (aq_6 shX12_readsCondition_24) sgb_13) kbc_13 ?_
    have hFc := free_all hD hS hA
    refine va_calli (runV_a (As := [.int 13]) (rest := []) S (q_opens l D cI cB cZ g (va_up cn 24 0) (va_up In 22 0) Fn 13 H.size (IM.fr (In := In) hI (Fr.c 24 Fr.rf) (by decide) (by decide)) (show 0 < 180 by (first | omega | (have zz0 := Hid.u hi_cn; omega)))) kV_RX12_274 hK hP hD 0 rfl rfl rfl ⟨Nat.le_of_ble_eq_true rfl, Nat.le_of_ble_eq_true rfl⟩ ⟨Nat.le_of_ble_eq_true rfl, Nat.le_of_ble_eq_true rfl⟩ rfl hl.1 rfl (Nat.le_of_ble_eq_true rfl) (oc_182 32 (aq_8 shX12_readsCondition_24) uw_1_18)) hS (fun q _ h => hFc q h) hFc (fun r_4 u t H1 locs ht hvm wh_5 hB hz1 hk1 hS => ?_)
    obtain ⟨cn5, In5, Fn5⟩ := u
    obtain ⟨hP1, hD1⟩ := hB
    rw [ht] at hP1
    have vh_5 : (fun r c2 I2 F2 => (∀ k : Nat, k ∉ [21, 22] → I2 k = (va_up In 22 0) k) ∧ ((r = 0 ∧ (True) ∧ (va_up cn 24 0) = c2 ∧ Fn = F2) ∨ (r = 1 ∧ (True) ∧ (va_up (va_up (va_up cn 24 0) 24 (0 + 1)) 19 ((cn 19) + 1)) = c2 ∧ (va_up Fn 28 (upd ((Fn 28)) (0) (nI (13 * 1048576)))) = F2))) r_4 cn5 In5 Fn5 := wh_5
    obtain ⟨hI5_, vh_5⟩ := vh_5
    rcases vh_5 with ⟨rfl, h_5, rfl, rfl⟩ | ⟨rfl, h_5, rfl, rfl⟩
    ·
      have hf5 : Fr [19, 23, 24, 26] [21, 22] [27, 28] cn In Fn cn In5 Fn := Fr.mo (Fr.tr (Fr.i 22 (Fr.rf (cn := cn) (In := In) (Fn := Fn))) (show Fr [] [21, 22] [] cn (va_up In 22 0) Fn cn In5 Fn from ⟨fun _ _ => rfl, hI5_, fun _ _ => rfl⟩)) (sbl rfl) (sbl rfl) (sbl rfl)
      have hP : va_P D vwCl (wM cI cB cZ g (va_up cn 24 0) In5 Fn) H1 := hP1
      have hD : va_D A (wM cI cB cZ g (va_up cn 24 0) In5 Fn) := hD1.weaken (fun _ _ _ h => hFc _ h)
      generalize H1 = H at hP hS ⊢
      refine lv_if_ne (tgt := 40) hx hb (oc_154 35 (aq_11 shX12_readsCondition_24) sgw_0_5) rfl (fun h => absurd h cq_eq_0_0) (fun _ => ?_)
      refine lv_iconst (v := 0) hx hb (oc_3 38 (aq_14 shX12_readsCondition_24)) kic_0 ?_
      exact W.zret (v := 0) hx hb hr rfl (fun t ht hW => ⟨⟨0, ((va_up cn 24 0), In5, Fn), rfl, ⟨(Fr.mo (Fr.c 24 hf5) (sbl rfl) (sbl rfl) (sbl rfl)), (IM.fr (In := In5) hI (Fr.c 24 Fr.rf) (by decide) (by decide)), (by show 0 = 0 ∨ (0 = 1 ∧ SegOK (Fn 27) 0 (cn 23) ((va_up cn 24 0) 23) ∧ cn 23 ≤ (va_up cn 24 0) 23 ∧ (va_up cn 24 0) 23 ≤ (va_up cn 24 0) 19 ∧ (cn 19 ≤ (va_up cn 24 0) 19 ∧ (va_up cn 24 0) 19 ≤ cn 20) ∧ (∀ k : Nat, k < cn 23 → Fn 27 k = Fn 27 k)); exact Or.inl rfl)⟩, by rw [ht]; exact hP, hD⟩, hS.F ht⟩) hS.2.2 (oc_172 39 (aq_15 shX12_readsCondition_24))
    ·
      have hf5 : Fr [19, 23, 24, 26] [21, 22] [27, 28] cn In Fn cn In5 Fn := Fr.mo (Fr.tr (Fr.i 22 (Fr.rf (cn := cn) (In := In) (Fn := Fn))) (show Fr [] [21, 22] [] cn (va_up In 22 0) Fn cn In5 Fn from ⟨fun _ _ => rfl, hI5_, fun _ _ => rfl⟩)) (sbl rfl) (sbl rfl) (sbl rfl)
      have hP : va_P D vwCl (wM cI cB cZ g (va_up (va_up (va_up cn 24 0) 24 (0 + 1)) 19 ((cn 19) + 1)) In5 (va_up Fn 28 (upd ((Fn 28)) (0) (nI (13 * 1048576))))) H1 := hP1
      have hD : va_D A (wM cI cB cZ g (va_up (va_up (va_up cn 24 0) 24 (0 + 1)) 19 ((cn 19) + 1)) In5 (va_up Fn 28 (upd ((Fn 28)) (0) (nI (13 * 1048576))))) := hD1.weaken (fun _ _ _ h => hFc _ h)
      generalize H1 = H at hP hS ⊢
      refine lv_if_ne (tgt := 40) hx hb (oc_154 35 (aq_11 shX12_readsCondition_24) sgw_0_5) rfl (fun _ => ?_) (fun h => absurd h cq_eq_1_0)
      have lp_40 : ∀ (n : Nat)  (c40 : Nat → Nat) (I40 : Nat → Int32) (F40 : Nat → Nat → Int32) (H : Heap) (locs : List Loc) , cn 20 - c40 19 < n → (Fr [19, 23, 24, 26] [21, 22] [27, 28] cn In Fn c40 I40 F40 ∧ IM c40 F40 ∧ ((PBk (c40 19) (c40 20) (c40 23) (c40 24) (F40 27) (F40 28) (cn 23) 0 0)) ∧ ((CK (c40 24) (F40 28))) ∧ ((∀ k : Nat, k < cn 23 → F40 27 k = Fn 27 k)) ∧ (cn 19 ≤ c40 19)) → va_P D vwCl (wM cI cB cZ g c40 I40 F40) H → va_D A (wM cI cB cZ g c40 I40 F40) → va_S A s.heap H locs → ∀ ls : Array Slot, lv_has ls 1 [(0, .ref (g 100))] → W p l e (RM 6 0 0) s m ([.ref (g 100)]).toArray below meth c H locs 0 0 (MQ below (va_Qi (fun (r : Int32) (u : (Nat → Nat) × (Nat → Int32) × (Nat → Nat → Int32)) => (fun r c2 I2 F2 => Fr [19, 23, 24, 26] [21, 22] [27, 28] cn In Fn c2 I2 F2 ∧ IM c2 F2 ∧ (r = 0 ∨ (r = 1 ∧ SegOK (F2 27) 0 (cn 23) (c2 23) ∧ cn 23 ≤ c2 23 ∧ c2 23 ≤ c2 19 ∧ (cn 19 ≤ c2 19 ∧ c2 19 ≤ cn 20) ∧ (∀ k : Nat, k < cn 23 → F2 27 k = Fn 27 k)))) r u.1 u.2.1 u.2.2) (fun (u : (Nat → Nat) × (Nat → Int32) × (Nat → Nat → Int32)) (t : State) => va_P D vwCl (wM cI cB cZ g u.1 u.2.1 u.2.2) t.heap ∧ va_D A (wM cI cB cZ g u.1 u.2.1 u.2.2)) A) ([.ref (g 100)]).toArray s 0 0 A) (F0 m 40 ls []) := by
        intro n40
        induction n40 with
        | zero => intros; (first | omega | (have zz0 := Hid.u hi_cn; omega))
        | succ n40 ih40 =>
          intro  c40 I40 F40 H locs hmu40 hinv40 hP hD hS ls hl
          obtain ⟨hfr40, hI40, hx40_0, hx40_1, hx40_2, hx40_3⟩ := hinv40
          have hi_c40 : Hid (CB c40) := hI40.b
          have : c40 20 = cn 20 := hfr40.1 20 (nml rfl)
          have : c40 25 = cn 25 := hfr40.1 25 (nml rfl)
          have hq_c40 := Hid.i (frq_19_23_24_26_0_1_2_46_57_58_62_63_75_83_44 hfr40)
          have hf40 := hx40_0.f
          have hc40 := hx40_1.1
          refine lv_aload_n hx hb (oc_42 40 (aq_16 shX12_readsCondition_24)) rfl (lvA0 hl) ?_
          refine vp_callSi (runV_ra (As := []) (rest := []) S (q_here l D cI cB cZ g c40 I40 F40  hI40 (by (first | omega | (have zz0 := Hid.u hi_c40; have zz1 := Hid.u hi_cn; have zz2 := Hid.u hq_c40; omega))) (by (first | omega | (have zz0 := Hid.u hi_c40; have zz1 := Hid.u hi_cn; have zz2 := Hid.u hq_c40; omega)))) kV_RX12_239 hK hP 0 rfl rfl rfl ⟨Nat.le_of_ble_eq_true rfl, Nat.le_of_ble_eq_true rfl⟩ ⟨Nat.le_of_ble_eq_true rfl, Nat.le_of_ble_eq_true rfl⟩ rfl hl.1 rfl (Nat.le_of_ble_eq_true rfl) (oc_182 41 (aq_17 shX12_readsCondition_24) uw_0_239)) (fun r_6 h_7 => ?_)
          refine lv_bipush (v := 33) hx hb (oc_16 44 (aq_20 shX12_readsCondition_24) sgb_33) kbc_33 ?_
          refine lv_icmp_eq (tgt := 58) hx hb (oc_159 46 (aq_22 shX12_readsCondition_24) sgw_0_12) rfl (fun c_8 => ?_) (fun c_8 => ?_)
          ·
            have tc_8 : (r_6.toInt : Int) = 33 := congrArg Int32.toInt c_8
            refine lv_aload_n hx hb (oc_42 58 (aq_9 shX12_readsCondition_49)) rfl (lvA0 hl) ?_
            refine lv_aload_n hx hb (oc_42 59 (aq_10 shX12_readsCondition_49)) rfl (lvA0 hl) ?_
            refine vp_callSi (runV_ra (As := []) (rest := [.ref (g 100)]) S (q_here l D cI cB cZ g c40 I40 F40  hI40 (by (first | omega | (have zz0 := Hid.u hi_c40; have zz1 := Hid.u hi_cn; have zz2 := Hid.u hq_c40; omega))) (by (first | omega | (have zz0 := Hid.u hi_c40; have zz1 := Hid.u hi_cn; have zz2 := Hid.u hq_c40; omega)))) kV_RX12_239 hK hP 0 rfl rfl rfl ⟨Nat.le_of_ble_eq_true rfl, Nat.le_of_ble_eq_true rfl⟩ ⟨Nat.le_of_ble_eq_true rfl, Nat.le_of_ble_eq_true rfl⟩ rfl hl.1 rfl (Nat.le_of_ble_eq_true rfl) (oc_182 60 (aq_11 shX12_readsCondition_49) uw_0_239)) (fun r_9 h_10 => ?_)
            refine lv_bipush (v := 33) hx hb (oc_16 63 (aq_14 shX12_readsCondition_49) sgb_33) kbc_33 ?_
            refine lv_icmp_ne (tgt := 73) hx hb (oc_160 65 (aq_16 shX12_readsCondition_49) sgw_0_8) rfl (fun c_11 => ?_) (fun c_11 => ?_)
            ·
              have tc_11 : (r_9.toInt : Int) ≠ 33 := fun q => c_11 (Int32.toInt_inj.mp q)
              refine lv_bipush (v := 13) hx hb (oc_16 73 shX12_readsCondition_73 sgb_13) kbc_13 ?_
              have hFc := free_all hD hS hA
              refine va_calli (runV_a (As := [.int 13]) (rest := []) S (q_opens l D cI cB cZ g c40 I40 F40 13 H.size hI40 (by (first | omega | (have zz0 := Hid.u hi_c40; have zz1 := Hid.u hi_cn; have zz2 := Hid.u hq_c40; omega)))) kV_RX12_274 hK hP hD 0 rfl rfl rfl ⟨Nat.le_of_ble_eq_true rfl, Nat.le_of_ble_eq_true rfl⟩ ⟨Nat.le_of_ble_eq_true rfl, Nat.le_of_ble_eq_true rfl⟩ rfl hl.1 rfl (Nat.le_of_ble_eq_true rfl) dX12_readsCondition_75) hS (fun q _ h => hFc q h) hFc (fun r_12 u t H1 locs ht hvm wh_13 hB hz1 hk1 hS => ?_)
              obtain ⟨cn13, In13, Fn13⟩ := u
              obtain ⟨hP1, hD1⟩ := hB
              rw [ht] at hP1
              have vh_13 : (fun r c2 I2 F2 => (∀ k : Nat, k ∉ [21, 22] → I2 k = I40 k) ∧ ((r = 0 ∧ (True) ∧ c40 = c2 ∧ F40 = F2) ∨ (r = 1 ∧ (True) ∧ (va_up (va_up c40 24 ((c40 24) + 1)) 19 ((c40 19) + 1)) = c2 ∧ (va_up F40 28 (upd ((F40 28)) ((c40 24)) (nI (13 * 1048576)))) = F2))) r_12 cn13 In13 Fn13 := wh_13
              obtain ⟨hI13_, vh_13⟩ := vh_13
              rcases vh_13 with ⟨rfl, h_13, rfl, rfl⟩ | ⟨rfl, h_13, rfl, rfl⟩
              ·
                have hf13 : Fr [19, 23, 24, 26] [21, 22] [27, 28] cn In Fn c40 In13 F40 := Fr.mo (Fr.tr hfr40 (show Fr [] [21, 22] [] c40 I40 F40 c40 In13 F40 from ⟨fun _ _ => rfl, hI13_, fun _ _ => rfl⟩)) (sbl rfl) (sbl rfl) (sbl rfl)
                have hP : va_P D vwCl (wM cI cB cZ g c40 In13 F40) H1 := hP1
                have hD : va_D A (wM cI cB cZ g c40 In13 F40) := hD1.weaken (fun _ _ _ h => hFc _ h)
                generalize H1 = H at hP hS ⊢
                refine lv_if_ne (tgt := 40) hx hb dX12_readsCondition_78 rfl (fun h => absurd h cq_eq_0_0) (fun _ => ?_)
                refine lv_iconst (v := 0) hx hb dX12_readsCondition_81 kic_0 ?_
                exact W.zret (v := 0) hx hb hr rfl (fun t ht hW => ⟨⟨0, (c40, In13, F40), rfl, ⟨(Fr.mo hf13 (sbl rfl) (sbl rfl) (sbl rfl)), hI40, (by show 0 = 0 ∨ (0 = 1 ∧ SegOK (F40 27) 0 (cn 23) (c40 23) ∧ cn 23 ≤ c40 23 ∧ c40 23 ≤ c40 19 ∧ (cn 19 ≤ c40 19 ∧ c40 19 ≤ cn 20) ∧ (∀ k : Nat, k < cn 23 → F40 27 k = Fn 27 k)); exact Or.inl rfl)⟩, by rw [ht]; exact hP, hD⟩, hS.F ht⟩) hS.2.2 dX12_readsCondition_82
              ·
                have hf13 : Fr [19, 23, 24, 26] [21, 22] [27, 28] cn In Fn c40 In13 F40 := Fr.mo (Fr.tr hfr40 (show Fr [] [21, 22] [] c40 I40 F40 c40 In13 F40 from ⟨fun _ _ => rfl, hI13_, fun _ _ => rfl⟩)) (sbl rfl) (sbl rfl) (sbl rfl)
                have hP : va_P D vwCl (wM cI cB cZ g (va_up (va_up c40 24 ((c40 24) + 1)) 19 ((c40 19) + 1)) In13 (va_up F40 28 (upd ((F40 28)) ((c40 24)) (nI (13 * 1048576))))) H1 := hP1
                have hD : va_D A (wM cI cB cZ g (va_up (va_up c40 24 ((c40 24) + 1)) 19 ((c40 19) + 1)) In13 (va_up F40 28 (upd ((F40 28)) ((c40 24)) (nI (13 * 1048576))))) := hD1.weaken (fun _ _ _ h => hFc _ h)
                generalize H1 = H at hP hS ⊢
                refine lv_if_ne (tgt := 40) hx hb dX12_readsCondition_78 rfl (fun _ => ?_) (fun h => absurd h cq_eq_1_0)
                exact ih40  (va_up (va_up c40 24 ((c40 24) + 1)) 19 ((c40 19) + 1)) In13 (va_up F40 28 (upd ((F40 28)) ((c40 24)) (nI (13 * 1048576)))) _ _ (show cn 20 - ((c40 19) + 1) < n40 by (first | omega | (have zz0 := Hid.u hi_c40; have zz1 := Hid.u hi_cn; have zz2 := Hid.u hq_c40; omega))) ⟨(Fr.mo (Fr.f 28 (Fr.c 19 (Fr.c 24 hf13))) (sbl rfl) (sbl rfl) (sbl rfl)), (IM.fr (In := In13) hI40 (Fr.f 28 (Fr.c 19 (Fr.c 24 Fr.rf))) (by decide) (by decide)), (by have q := PBk.push (k := 13) (s' := 0) hx40_0 (by (first | omega | (have zz0 := Hid.u hi_c40; have zz1 := Hid.u hi_cn; have zz2 := Hid.u hq_c40; omega))) (by decide) (by decide) (by decide) (by decide); exact q), (by have q := CK.push (k := 13) hx40_1 (by decide) (by decide); exact q), hx40_2, (by show cn 19 ≤ c40 19 + 1; (first | omega | (have zz0 := Hid.u hi_c40; have zz1 := Hid.u hi_cn; have zz2 := Hid.u hq_c40; omega)))⟩ hP hD hS ls (lv_sub hl [0] rfl)
            ·
              have tc_11 : (r_9.toInt : Int) = 33 := congrArg Int32.toInt c_11
              refine lv_bipush (v := 10) hx hb (oc_16 68 (aq_19 shX12_readsCondition_49) sgb_10) kbc_10 ?_
              refine lv_goto (tgt := 75) hx hb (oc_167 70 (aq_21 shX12_readsCondition_49) sgw_0_5) rfl ?_
              have hFc := free_all hD hS hA
              refine va_calli (runV_a (As := [.int 10]) (rest := []) S (q_opens l D cI cB cZ g c40 I40 F40 10 H.size hI40 (by (first | omega | (have zz0 := Hid.u hi_c40; have zz1 := Hid.u hi_cn; have zz2 := Hid.u hq_c40; omega)))) kV_RX12_274 hK hP hD 0 rfl rfl rfl ⟨Nat.le_of_ble_eq_true rfl, Nat.le_of_ble_eq_true rfl⟩ ⟨Nat.le_of_ble_eq_true rfl, Nat.le_of_ble_eq_true rfl⟩ rfl hl.1 rfl (Nat.le_of_ble_eq_true rfl) dX12_readsCondition_75) hS (fun q _ h => hFc q h) hFc (fun r_14 u t H1 locs ht hvm wh_15 hB hz1 hk1 hS => ?_)
              obtain ⟨cn15, In15, Fn15⟩ := u
              obtain ⟨hP1, hD1⟩ := hB
              rw [ht] at hP1
              have vh_15 : (fun r c2 I2 F2 => (∀ k : Nat, k ∉ [21, 22] → I2 k = I40 k) ∧ ((r = 0 ∧ (True) ∧ c40 = c2 ∧ F40 = F2) ∨ (r = 1 ∧ (True) ∧ (va_up (va_up c40 24 ((c40 24) + 1)) 19 ((c40 19) + 1)) = c2 ∧ (va_up F40 28 (upd ((F40 28)) ((c40 24)) (nI (10 * 1048576)))) = F2))) r_14 cn15 In15 Fn15 := wh_15
              obtain ⟨hI15_, vh_15⟩ := vh_15
              rcases vh_15 with ⟨rfl, h_15, rfl, rfl⟩ | ⟨rfl, h_15, rfl, rfl⟩
              ·
                have hf15 : Fr [19, 23, 24, 26] [21, 22] [27, 28] cn In Fn c40 In15 F40 := Fr.mo (Fr.tr hfr40 (show Fr [] [21, 22] [] c40 I40 F40 c40 In15 F40 from ⟨fun _ _ => rfl, hI15_, fun _ _ => rfl⟩)) (sbl rfl) (sbl rfl) (sbl rfl)
                have hP : va_P D vwCl (wM cI cB cZ g c40 In15 F40) H1 := hP1
                have hD : va_D A (wM cI cB cZ g c40 In15 F40) := hD1.weaken (fun _ _ _ h => hFc _ h)
                generalize H1 = H at hP hS ⊢
                refine lv_if_ne (tgt := 40) hx hb dX12_readsCondition_78 rfl (fun h => absurd h cq_eq_0_0) (fun _ => ?_)
                refine lv_iconst (v := 0) hx hb dX12_readsCondition_81 kic_0 ?_
                exact W.zret (v := 0) hx hb hr rfl (fun t ht hW => ⟨⟨0, (c40, In15, F40), rfl, ⟨(Fr.mo hf15 (sbl rfl) (sbl rfl) (sbl rfl)), hI40, (by show 0 = 0 ∨ (0 = 1 ∧ SegOK (F40 27) 0 (cn 23) (c40 23) ∧ cn 23 ≤ c40 23 ∧ c40 23 ≤ c40 19 ∧ (cn 19 ≤ c40 19 ∧ c40 19 ≤ cn 20) ∧ (∀ k : Nat, k < cn 23 → F40 27 k = Fn 27 k)); exact Or.inl rfl)⟩, by rw [ht]; exact hP, hD⟩, hS.F ht⟩) hS.2.2 dX12_readsCondition_82
              ·
                have hf15 : Fr [19, 23, 24, 26] [21, 22] [27, 28] cn In Fn c40 In15 F40 := Fr.mo (Fr.tr hfr40 (show Fr [] [21, 22] [] c40 I40 F40 c40 In15 F40 from ⟨fun _ _ => rfl, hI15_, fun _ _ => rfl⟩)) (sbl rfl) (sbl rfl) (sbl rfl)
                have hP : va_P D vwCl (wM cI cB cZ g (va_up (va_up c40 24 ((c40 24) + 1)) 19 ((c40 19) + 1)) In15 (va_up F40 28 (upd ((F40 28)) ((c40 24)) (nI (10 * 1048576))))) H1 := hP1
                have hD : va_D A (wM cI cB cZ g (va_up (va_up c40 24 ((c40 24) + 1)) 19 ((c40 19) + 1)) In15 (va_up F40 28 (upd ((F40 28)) ((c40 24)) (nI (10 * 1048576))))) := hD1.weaken (fun _ _ _ h => hFc _ h)
                generalize H1 = H at hP hS ⊢
                refine lv_if_ne (tgt := 40) hx hb dX12_readsCondition_78 rfl (fun _ => ?_) (fun h => absurd h cq_eq_1_0)
                exact ih40  (va_up (va_up c40 24 ((c40 24) + 1)) 19 ((c40 19) + 1)) In15 (va_up F40 28 (upd ((F40 28)) ((c40 24)) (nI (10 * 1048576)))) _ _ (show cn 20 - ((c40 19) + 1) < n40 by (first | omega | (have zz0 := Hid.u hi_c40; have zz1 := Hid.u hi_cn; have zz2 := Hid.u hq_c40; omega))) ⟨(Fr.mo (Fr.f 28 (Fr.c 19 (Fr.c 24 hf15))) (sbl rfl) (sbl rfl) (sbl rfl)), (IM.fr (In := In15) hI40 (Fr.f 28 (Fr.c 19 (Fr.c 24 Fr.rf))) (by decide) (by decide)), (by have q := PBk.push (k := 10) (s' := 0) hx40_0 (by (first | omega | (have zz0 := Hid.u hi_c40; have zz1 := Hid.u hi_cn; have zz2 := Hid.u hq_c40; omega))) (by decide) (by decide) (by decide) (by decide); exact q), (by have q := CK.push (k := 10) hx40_1 (by decide) (by decide); exact q), hx40_2, (by show cn 19 ≤ c40 19 + 1; (first | omega | (have zz0 := Hid.u hi_c40; have zz1 := Hid.u hi_cn; have zz2 := Hid.u hq_c40; omega)))⟩ hP hD hS ls (lv_sub hl [0] rfl)
          ·
            have tc_8 : (r_6.toInt : Int) ≠ 33 := fun q => c_8 (Int32.toInt_inj.mp q)
            refine lv_aload_n hx hb (oc_42 49 shX12_readsCondition_49) rfl (lvA0 hl) ?_
            refine vp_callSi (runV_ra (As := []) (rest := []) S (q_here l D cI cB cZ g c40 I40 F40  hI40 (by (first | omega | (have zz0 := Hid.u hi_c40; have zz1 := Hid.u hi_cn; have zz2 := Hid.u hq_c40; omega))) (by (first | omega | (have zz0 := Hid.u hi_c40; have zz1 := Hid.u hi_cn; have zz2 := Hid.u hq_c40; omega)))) kV_RX12_239 hK hP 0 rfl rfl rfl ⟨Nat.le_of_ble_eq_true rfl, Nat.le_of_ble_eq_true rfl⟩ ⟨Nat.le_of_ble_eq_true rfl, Nat.le_of_ble_eq_true rfl⟩ rfl hl.1 rfl (Nat.le_of_ble_eq_true rfl) (oc_182 50 (aq_1 shX12_readsCondition_49) uw_0_239)) (fun r_16 h_17 => ?_)
            refine lv_bipush (v := 40) hx hb (oc_16 53 (aq_4 shX12_readsCondition_49) sgb_40) kbc_40 ?_
            refine lv_icmp_ne (tgt := 83) hx hb (oc_160 55 (aq_6 shX12_readsCondition_49) sgw_0_28) rfl (fun c_18 => ?_) (fun c_18 => ?_)
            ·
              have tc_18 : (r_16.toInt : Int) ≠ 40 := fun q => c_18 (Int32.toInt_inj.mp q)
              refine lv_aload_n hx hb (oc_42 83 (aq_10 shX12_readsCondition_73)) rfl (lvA0 hl) ?_
              have hFc := free_all hD hS hA
              refine va_calli (runV_a (As := []) (rest := []) S (q_readsCompared l D cI cB cZ g c40 I40 F40 (cn 23) 0 H.size hI40 hx40_0 hx40_1) kV_RX12_303 hK hP hD 0 rfl rfl rfl ⟨Nat.le_of_ble_eq_true rfl, Nat.le_of_ble_eq_true rfl⟩ ⟨Nat.le_of_ble_eq_true rfl, Nat.le_of_ble_eq_true rfl⟩ rfl hl.1 rfl (Nat.le_of_ble_eq_true rfl) (oc_182 84 (aq_11 shX12_readsCondition_73) uw_1_47)) hS (fun q _ h => hFc q h) hFc (fun r_19 u t H1 locs ht hvm wh_20 hB hz1 hk1 hS => ?_)
              obtain ⟨cn20, In20, Fn20⟩ := u
              obtain ⟨hP1, hD1⟩ := hB
              rw [ht] at hP1
              have hP : va_P D vwCl (wM cI cB cZ g cn20 In20 Fn20) H1 := hP1
              have hD : va_D A (wM cI cB cZ g cn20 In20 Fn20) := hD1.weaken (fun _ _ _ h => hFc _ h)
              generalize H1 = H at hP hS ⊢
              have vh_20 : (fun r c2 I2 F2 => Fr [19, 23, 24, 26] [21, 22] [27, 28] c40 I40 F40 c2 I2 F2 ∧ IM c2 F2 ∧ (r = 0 ∨ (r = 1 ∧ PBk (c2 19) (c2 20) (c2 23) (c2 24) (F2 27) (F2 28) (cn 23) 1 0 ∧ CK (c2 24) (F2 28) ∧ (∀ k : Nat, k < (cn 23) → F2 27 k = (F40 27) k) ∧ (c40 19) < c2 19))) r_19 cn20 In20 Fn20 := wh_20
              obtain ⟨hfc20, hIn20, h_20⟩ := vh_20
              have hf20 : Fr [19, 23, 24, 26] [21, 22] [27, 28] cn In Fn cn20 In20 Fn20 := Fr.mo (Fr.tr hfr40 hfc20) (sbl rfl) (sbl rfl) (sbl rfl)
              have hi_cn20 : Hid (CB cn20) := hIn20.b
              have : cn20 20 = cn 20 := hf20.1 20 (nml rfl)
              have : cn20 25 = cn 25 := hf20.1 25 (nml rfl)
              have hq_cn20 := Hid.i (frq_19_23_24_26_0_1_2_46_57_58_62_63_75_83_44 hf20)
              have : cn20 20 = (c40 20) := hfc20.1 20 (nml rfl)
              have : cn20 25 = (c40 25) := hfc20.1 25 (nml rfl)
              rcases h_20 with rfl | ⟨rfl, kh_20⟩
              ·
                refine lv_if_ne (tgt := 92) hx hb (oc_154 87 (aq_14 shX12_readsCondition_73) sgw_0_5) rfl (fun h => absurd h cq_eq_0_0) (fun _ => ?_)
                refine lv_iconst (v := 0) hx hb (oc_3 90 (aq_17 shX12_readsCondition_73)) kic_0 ?_
                exact W.zret (v := 0) hx hb hr rfl (fun t ht hW => ⟨⟨0, (cn20, In20, Fn20), rfl, ⟨(Fr.mo hf20 (sbl rfl) (sbl rfl) (sbl rfl)), hIn20, (by show 0 = 0 ∨ (0 = 1 ∧ SegOK (Fn20 27) 0 (cn 23) (cn20 23) ∧ cn 23 ≤ cn20 23 ∧ cn20 23 ≤ cn20 19 ∧ (cn 19 ≤ cn20 19 ∧ cn20 19 ≤ cn 20) ∧ (∀ k : Nat, k < cn 23 → Fn20 27 k = Fn 27 k)); exact Or.inl rfl)⟩, by rw [ht]; exact hP, hD⟩, hS.F ht⟩) hS.2.2 (oc_172 91 (aq_18 shX12_readsCondition_73))
              ·
                obtain ⟨kh_20a, kh_20b, kh_20c, kh_20d⟩ := kh_20
                have kh_20f := kh_20a.f
                refine lv_if_ne (tgt := 92) hx hb (oc_154 87 (aq_14 shX12_readsCondition_73) sgw_0_5) rfl (fun _ => ?_) (fun h => absurd h cq_eq_1_0)
                have lp_92 : ∀ (n : Nat)  (c92 : Nat → Nat) (I92 : Nat → Int32) (F92 : Nat → Nat → Int32) (H : Heap) (locs : List Loc) , cn 20 - c92 19 < n → (Fr [19, 23, 24, 26] [21, 22] [27, 28] cn In Fn c92 I92 F92 ∧ IM c92 F92 ∧ ((PBk (c92 19) (c92 20) (c92 23) (c92 24) (F92 27) (F92 28) (cn 23) 1 0)) ∧ ((CK (c92 24) (F92 28))) ∧ ((∀ k : Nat, k < cn 23 → F92 27 k = Fn 27 k)) ∧ (c40 19 < c92 19)) → va_P D vwCl (wM cI cB cZ g c92 I92 F92) H → va_D A (wM cI cB cZ g c92 I92 F92) → va_S A s.heap H locs → ∀ ls : Array Slot, lv_has ls 1 [(0, .ref (g 100))] → W p l e (RM 6 0 0) s m ([.ref (g 100)]).toArray below meth c H locs 0 0 (MQ below (va_Qi (fun (r : Int32) (u : (Nat → Nat) × (Nat → Int32) × (Nat → Nat → Int32)) => (fun r c2 I2 F2 => Fr [19, 23, 24, 26] [21, 22] [27, 28] cn In Fn c2 I2 F2 ∧ IM c2 F2 ∧ (r = 0 ∨ (r = 1 ∧ SegOK (F2 27) 0 (cn 23) (c2 23) ∧ cn 23 ≤ c2 23 ∧ c2 23 ≤ c2 19 ∧ (cn 19 ≤ c2 19 ∧ c2 19 ≤ cn 20) ∧ (∀ k : Nat, k < cn 23 → F2 27 k = Fn 27 k)))) r u.1 u.2.1 u.2.2) (fun (u : (Nat → Nat) × (Nat → Int32) × (Nat → Nat → Int32)) (t : State) => va_P D vwCl (wM cI cB cZ g u.1 u.2.1 u.2.2) t.heap ∧ va_D A (wM cI cB cZ g u.1 u.2.1 u.2.2)) A) ([.ref (g 100)]).toArray s 0 0 A) (F0 m 92 ls []) := by
                  intro n92
                  induction n92 with
                  | zero => intros; (first | omega | (have zz0 := Hid.u hi_c40; have zz1 := Hid.u hi_cn; have zz2 := Hid.u hi_cn20; have zz3 := Hid.u hq_c40; have zz4 := Hid.u hq_cn20; omega))
                  | succ n92 ih92 =>
                    intro  c92 I92 F92 H locs hmu92 hinv92 hP hD hS ls hl
                    obtain ⟨hfr92, hI92, hx92_0, hx92_1, hx92_2, hx92_3⟩ := hinv92
                    have hi_c92 : Hid (CB c92) := hI92.b
                    have : c92 20 = cn 20 := hfr92.1 20 (nml rfl)
                    have : c92 25 = cn 25 := hfr92.1 25 (nml rfl)
                    have hq_c92 := Hid.i (frq_19_23_24_26_0_1_2_46_57_58_62_63_75_83_44 hfr92)
                    have hf92 := hx92_0.f
                    have hc92 := hx92_1.1
                    refine lv_aload_n hx hb (oc_42 92 (aq_19 shX12_readsCondition_73)) rfl (lvA0 hl) ?_
                    refine vp_callSi (runV_ra (As := []) (rest := []) S (q_here l D cI cB cZ g c92 I92 F92  hI92 (by (first | omega | (have zz0 := Hid.u hi_c40; have zz1 := Hid.u hi_c92; have zz2 := Hid.u hi_cn; have zz3 := Hid.u hi_cn20; have zz4 := Hid.u hq_c40; have zz5 := Hid.u hq_c92; have zz6 := Hid.u hq_cn20; omega))) (by (first | omega | (have zz0 := Hid.u hi_c40; have zz1 := Hid.u hi_c92; have zz2 := Hid.u hi_cn; have zz3 := Hid.u hi_cn20; have zz4 := Hid.u hq_c40; have zz5 := Hid.u hq_c92; have zz6 := Hid.u hq_cn20; omega)))) kV_RX12_239 hK hP 0 rfl rfl rfl ⟨Nat.le_of_ble_eq_true rfl, Nat.le_of_ble_eq_true rfl⟩ ⟨Nat.le_of_ble_eq_true rfl, Nat.le_of_ble_eq_true rfl⟩ rfl hl.1 rfl (Nat.le_of_ble_eq_true rfl) (oc_182 93 (aq_20 shX12_readsCondition_73) uw_0_239)) (fun r_21 h_22 => ?_)
                    refine lv_bipush (v := 41) hx hb (oc_16 96 (aq_23 shX12_readsCondition_73) sgb_41) kbc_41 ?_
                    refine lv_icmp_ne (tgt := 152) hx hb (oc_160 98 shX12_readsCondition_98 sgw_0_54) rfl (fun c_23 => ?_) (fun c_23 => ?_)
                    ·
                      have tc_23 : (r_21.toInt : Int) ≠ 41 := fun q => c_23 (Int32.toInt_inj.mp q)
                      refine lv_aload_n hx hb (oc_42 152 (aq_6 shX12_readsCondition_146)) rfl (lvA0 hl) ?_
                      refine vp_callSi (runV_ra (As := []) (rest := []) S (q_here l D cI cB cZ g c92 I92 F92  hI92 (by (first | omega | (have zz0 := Hid.u hi_c40; have zz1 := Hid.u hi_c92; have zz2 := Hid.u hi_cn; have zz3 := Hid.u hi_cn20; have zz4 := Hid.u hq_c40; have zz5 := Hid.u hq_c92; have zz6 := Hid.u hq_cn20; omega))) (by (first | omega | (have zz0 := Hid.u hi_c40; have zz1 := Hid.u hi_c92; have zz2 := Hid.u hi_cn; have zz3 := Hid.u hi_cn20; have zz4 := Hid.u hq_c40; have zz5 := Hid.u hq_c92; have zz6 := Hid.u hq_cn20; omega)))) kV_RX12_239 hK hP 0 rfl rfl rfl ⟨Nat.le_of_ble_eq_true rfl, Nat.le_of_ble_eq_true rfl⟩ ⟨Nat.le_of_ble_eq_true rfl, Nat.le_of_ble_eq_true rfl⟩ rfl hl.1 rfl (Nat.le_of_ble_eq_true rfl) (oc_182 153 (aq_7 shX12_readsCondition_146) uw_0_239)) (fun r_24 h_25 => ?_)
                      refine lv_bipush (v := 38) hx hb (oc_16 156 (aq_10 shX12_readsCondition_146) sgb_38) kbc_38 ?_
                      refine lv_icmp_eq (tgt := 180) hx hb (oc_159 158 (aq_12 shX12_readsCondition_146) sgw_0_22) rfl (fun c_26 => ?_) (fun c_26 => ?_)
                      ·
                        have tc_26 : (r_24.toInt : Int) = 38 := congrArg Int32.toInt c_26
                        refine lv_aload_n hx hb (oc_42 180 (aq_10 shX12_readsCondition_170)) rfl (lvA0 hl) ?_
                        refine lv_aload_n hx hb (oc_42 181 (aq_11 shX12_readsCondition_170)) rfl (lvA0 hl) ?_
                        refine vp_callSi (runV_ra (As := []) (rest := [.ref (g 100)]) S (q_here l D cI cB cZ g c92 I92 F92  hI92 (by (first | omega | (have zz0 := Hid.u hi_c40; have zz1 := Hid.u hi_c92; have zz2 := Hid.u hi_cn; have zz3 := Hid.u hi_cn20; have zz4 := Hid.u hq_c40; have zz5 := Hid.u hq_c92; have zz6 := Hid.u hq_cn20; omega))) (by (first | omega | (have zz0 := Hid.u hi_c40; have zz1 := Hid.u hi_c92; have zz2 := Hid.u hi_cn; have zz3 := Hid.u hi_cn20; have zz4 := Hid.u hq_c40; have zz5 := Hid.u hq_c92; have zz6 := Hid.u hq_cn20; omega)))) kV_RX12_239 hK hP 0 rfl rfl rfl ⟨Nat.le_of_ble_eq_true rfl, Nat.le_of_ble_eq_true rfl⟩ ⟨Nat.le_of_ble_eq_true rfl, Nat.le_of_ble_eq_true rfl⟩ rfl hl.1 rfl (Nat.le_of_ble_eq_true rfl) (oc_182 182 (aq_12 shX12_readsCondition_170) uw_0_239)) (fun r_27 h_28 => ?_)
                        refine lv_bipush (v := 124) hx hb (oc_16 185 (aq_15 shX12_readsCondition_170) sgb_124) kbc_124 ?_
                        refine lv_icmp_ne (tgt := 194) hx hb (oc_160 187 (aq_17 shX12_readsCondition_170) sgw_0_7) rfl (fun c_29 => ?_) (fun c_29 => ?_)
                        ·
                          have tc_29 : (r_27.toInt : Int) ≠ 124 := fun q => c_29 (Int32.toInt_inj.mp q)
                          refine lv_iconst (v := 0) hx hb (oc_3 194 shX12_readsCondition_194) kic_0 ?_
                          have hFc := free_all hD hS hA
                          refine va_callv (runV_a (As := [.int 0]) (rest := []) S (q_lands l D cI cB cZ g c92 I92 F92 (cn 23) 0 0 H.size hI92 hx92_0 hx92_1) kV_RX12_306 hK hP hD 0 rfl rfl rfl ⟨Nat.le_of_ble_eq_true rfl, Nat.le_of_ble_eq_true rfl⟩ ⟨Nat.le_of_ble_eq_true rfl, Nat.le_of_ble_eq_true rfl⟩ rfl hl.1 rfl (Nat.le_of_ble_eq_true rfl) dX12_readsCondition_195) hS (fun q _ h => hFc q h) hFc (fun u t H1 locs ht hvm wh_31 hB hz1 hk1 hS => ?_)
                          obtain ⟨cn31, In31, Fn31⟩ := u
                          obtain ⟨hP1, hD1⟩ := hB
                          rw [ht] at hP1
                          have hP : va_P D vwCl (wM cI cB cZ g cn31 In31 Fn31) H1 := hP1
                          have hD : va_D A (wM cI cB cZ g cn31 In31 Fn31) := hD1.weaken (fun _ _ _ h => hFc _ h)
                          generalize H1 = H at hP hS ⊢
                          have vh_31 : (fun c2 I2 F2 => Fr [24] [] [27] c92 I92 F92 c2 I2 F2 ∧ IM c2 F2 ∧ ((PBk (c2 19) (c2 20) (c2 23) (c2 24) (F2 27) (F2 28) (cn 23) 1 0) ∧ (CK (c2 24) (F2 28)) ∧ (∀ k : Nat, k < (cn 23) → F2 27 k = (F92 27) k) ∧ (¬ (0 : Int32) = 0 → ¬ (11 ≤ kd (F2 28 (c2 24 - 1)) ∧ kd (F2 28 (c2 24 - 1)) ≤ 12)))) cn31 In31 Fn31 := wh_31
                          obtain ⟨hfc31, hIn31, h_31⟩ := vh_31
                          obtain rfl : I92 = In31 := (funext (fun k => hfc31.2.1 k List.not_mem_nil)).symm
                          have hf31 : Fr [19, 23, 24, 26] [21, 22] [27, 28] cn In Fn cn31 I92 Fn31 := Fr.mo (Fr.tr hfr92 hfc31) (sbl rfl) (sbl rfl) (sbl rfl)
                          have hi_cn31 : Hid (CB cn31) := hIn31.b
                          have : cn31 20 = cn 20 := hf31.1 20 (nml rfl)
                          have : cn31 25 = cn 25 := hf31.1 25 (nml rfl)
                          have hq_cn31 := Hid.i (frq_19_23_24_26_0_1_2_46_57_58_62_63_75_83_44 hf31)
                          have : cn31 19 = (c92 19) := hfc31.1 19 (nml rfl)
                          have : cn31 20 = (c92 20) := hfc31.1 20 (nml rfl)
                          have : cn31 23 = (c92 23) := hfc31.1 23 (nml rfl)
                          have : cn31 25 = (c92 25) := hfc31.1 25 (nml rfl)
                          obtain ⟨h_31a, h_31b, h_31c, h_31d⟩ := h_31
                          have h_31f := h_31a.f
                          have hldc := h_31b.1
                          refine lv_aload_n hx hb dX12_readsCondition_198 rfl (lvA0 hl) ?_
                          refine lv_aload_n hx hb dX12_readsCondition_199 rfl (lvA0 hl) ?_
                          refine vp_callSi (runV_ra (As := []) (rest := [.ref (g 100)]) S (q_here l D cI cB cZ g cn31 I92 Fn31  hIn31 (by (first | omega | (have zz0 := Hid.u hi_c40; have zz1 := Hid.u hi_c92; have zz2 := Hid.u hi_cn; have zz3 := Hid.u hi_cn20; have zz4 := Hid.u hi_cn31; have zz5 := Hid.u hq_c40; have zz6 := Hid.u hq_c92; have zz7 := Hid.u hq_cn20; have zz8 := Hid.u hq_cn31; omega))) (by (first | omega | (have zz0 := Hid.u hi_c40; have zz1 := Hid.u hi_c92; have zz2 := Hid.u hi_cn; have zz3 := Hid.u hi_cn20; have zz4 := Hid.u hi_cn31; have zz5 := Hid.u hq_c40; have zz6 := Hid.u hq_c92; have zz7 := Hid.u hq_cn20; have zz8 := Hid.u hq_cn31; omega)))) kV_RX12_239 hK hP 0 rfl rfl rfl ⟨Nat.le_of_ble_eq_true rfl, Nat.le_of_ble_eq_true rfl⟩ ⟨Nat.le_of_ble_eq_true rfl, Nat.le_of_ble_eq_true rfl⟩ rfl hl.1 rfl (Nat.le_of_ble_eq_true rfl) dX12_readsCondition_200) (fun r_32 h_33 => ?_)
                          refine lv_bipush (v := 38) hx hb dX12_readsCondition_203 kbc_38 ?_
                          refine lv_icmp_ne (tgt := 213) hx hb dX12_readsCondition_205 rfl (fun c_34 => ?_) (fun c_34 => ?_)
                          ·
                            have tc_34 : (r_32.toInt : Int) ≠ 38 := fun q => c_34 (Int32.toInt_inj.mp q)
                            refine lv_bipush (v := 12) hx hb dX12_readsCondition_213 kbc_12 ?_
                            have hFc := free_all hD hS hA
                            refine va_callv (runV_a (As := [.int 12]) (rest := []) S (q_jumps l D cI cB cZ g cn31 I92 Fn31 12 H.size hIn31 (by (first | omega | (have zz0 := Hid.u hi_c40; have zz1 := Hid.u hi_c92; have zz2 := Hid.u hi_cn; have zz3 := Hid.u hi_cn20; have zz4 := Hid.u hi_cn31; have zz5 := Hid.u hq_c40; have zz6 := Hid.u hq_c92; have zz7 := Hid.u hq_cn20; have zz8 := Hid.u hq_cn31; omega))) (by (first | omega | (have zz0 := Hid.u hi_c40; have zz1 := Hid.u hi_c92; have zz2 := Hid.u hi_cn; have zz3 := Hid.u hi_cn20; have zz4 := Hid.u hi_cn31; have zz5 := Hid.u hq_c40; have zz6 := Hid.u hq_c92; have zz7 := Hid.u hq_cn20; have zz8 := Hid.u hq_cn31; omega)))) kV_RX12_309 hK hP hD 0 rfl rfl rfl ⟨Nat.le_of_ble_eq_true rfl, Nat.le_of_ble_eq_true rfl⟩ ⟨Nat.le_of_ble_eq_true rfl, Nat.le_of_ble_eq_true rfl⟩ rfl hl.1 rfl (Nat.le_of_ble_eq_true rfl) dX12_readsCondition_215) hS (fun q _ h => hFc q h) hFc (fun u t H1 locs ht hvm wh_36 hB hz1 hk1 hS => ?_)
                            obtain ⟨cn36, In36, Fn36⟩ := u
                            obtain ⟨hP1, hD1⟩ := hB
                            rw [ht] at hP1
                            have vh_36 : (fun c2 I2 F2 => (∀ k : Nat, k ∉ [] → I2 k = I92 k) ∧ (((True) ∧ (va_up (va_up (va_up cn31 24 ((cn31 24) + 1)) 23 ((cn31 23) + 1)) 19 ((cn31 19) + 1)) = c2 ∧ (va_up (va_up Fn31 28 (upd ((Fn31 28)) ((cn31 24)) (nI (1048576 * 12 + (cn31 23))))) 27 (upd ((Fn31 27)) ((cn31 23)) (nI (12 * 1048576 + 0)))) = F2))) cn36 In36 Fn36 := wh_36
                            obtain ⟨hI36_, vh_36⟩ := vh_36
                            obtain ⟨h_36, rfl, rfl⟩ := vh_36
                            obtain rfl : I92 = In36 := (funext (fun k => hI36_ k List.not_mem_nil)).symm
                            have hP : va_P D vwCl (wM cI cB cZ g (va_up (va_up (va_up cn31 24 ((cn31 24) + 1)) 23 ((cn31 23) + 1)) 19 ((cn31 19) + 1)) I92 (va_up (va_up Fn31 28 (upd ((Fn31 28)) ((cn31 24)) (nI (1048576 * 12 + (cn31 23))))) 27 (upd ((Fn31 27)) ((cn31 23)) (nI (12 * 1048576 + 0))))) H1 := hP1
                            have hD : va_D A (wM cI cB cZ g (va_up (va_up (va_up cn31 24 ((cn31 24) + 1)) 23 ((cn31 23) + 1)) 19 ((cn31 19) + 1)) I92 (va_up (va_up Fn31 28 (upd ((Fn31 28)) ((cn31 24)) (nI (1048576 * 12 + (cn31 23))))) 27 (upd ((Fn31 27)) ((cn31 23)) (nI (12 * 1048576 + 0))))) := hD1.weaken (fun _ _ _ h => hFc _ h)
                            generalize H1 = H at hP hS ⊢
                            refine lv_goto (tgt := 40) hx hb dX12_readsCondition_218 rfl ?_
                            exact ih40  (va_up (va_up (va_up cn31 24 ((cn31 24) + 1)) 23 ((cn31 23) + 1)) 19 ((cn31 19) + 1)) I92 (va_up (va_up Fn31 28 (upd ((Fn31 28)) ((cn31 24)) (nI (1048576 * 12 + (cn31 23))))) 27 (upd ((Fn31 27)) ((cn31 23)) (nI (12 * 1048576 + 0)))) _ _ (show cn 20 - ((cn31 19) + 1) < n40 by (first | omega | (have zz0 := Hid.u hi_c40; have zz1 := Hid.u hi_c92; have zz2 := Hid.u hi_cn; have zz3 := Hid.u hi_cn20; have zz4 := Hid.u hi_cn31; have zz5 := Hid.u hq_c40; have zz6 := Hid.u hq_c92; have zz7 := Hid.u hq_cn20; have zz8 := Hid.u hq_cn31; omega))) ⟨(Fr.mo (Fr.f 27 (Fr.f 28 (Fr.c 19 (Fr.c 23 (Fr.c 24 hf31))))) (sbl rfl) (sbl rfl) (sbl rfl)), (IM.fr (In := I92) hIn31 (Fr.f 27 (Fr.f 28 (Fr.c 19 (Fr.c 23 (Fr.c 24 Fr.rf))))) (by decide) (by decide)), (by have q := PBk.jump (k := 12) h_31a (by (first | omega | (have zz0 := Hid.u hi_c40; have zz1 := Hid.u hi_c92; have zz2 := Hid.u hi_cn; have zz3 := Hid.u hi_cn20; have zz4 := Hid.u hi_cn31; have zz5 := Hid.u hq_c40; have zz6 := Hid.u hq_c92; have zz7 := Hid.u hq_cn20; have zz8 := Hid.u hq_cn31; omega))) (by decide); exact q), (by have q := CK.jump (k := 12) (v := cn31 23) h_31b (by decide) (by (first | omega | (have zz0 := Hid.u hi_c40; have zz1 := Hid.u hi_c92; have zz2 := Hid.u hi_cn; have zz3 := Hid.u hi_cn20; have zz4 := Hid.u hi_cn31; have zz5 := Hid.u hq_c40; have zz6 := Hid.u hq_c92; have zz7 := Hid.u hq_cn20; have zz8 := Hid.u hq_cn31; omega))); exact q), (fun k hk => (upd_lt (by (first | omega | (have zz0 := Hid.u hi_c40; have zz1 := Hid.u hi_c92; have zz2 := Hid.u hi_cn; have zz3 := Hid.u hi_cn20; have zz4 := Hid.u hi_cn31; have zz5 := Hid.u hq_c40; have zz6 := Hid.u hq_c92; have zz7 := Hid.u hq_cn20; have zz8 := Hid.u hq_cn31; omega)))).trans ((h_31c k hk).trans (hx92_2 k hk))), (by show cn 19 ≤ cn31 19 + 1; (first | omega | (have zz0 := Hid.u hi_c40; have zz1 := Hid.u hi_c92; have zz2 := Hid.u hi_cn; have zz3 := Hid.u hi_cn20; have zz4 := Hid.u hi_cn31; have zz5 := Hid.u hq_c40; have zz6 := Hid.u hq_c92; have zz7 := Hid.u hq_cn20; have zz8 := Hid.u hq_cn31; omega)))⟩ hP hD hS ls (lv_sub hl [0] rfl)
                          ·
                            have tc_34 : (r_32.toInt : Int) = 38 := congrArg Int32.toInt c_34
                            refine lv_bipush (v := 11) hx hb dX12_readsCondition_208 kbc_11 ?_
                            refine lv_goto (tgt := 215) hx hb dX12_readsCondition_210 rfl ?_
                            have hFc := free_all hD hS hA
                            refine va_callv (runV_a (As := [.int 11]) (rest := []) S (q_jumps l D cI cB cZ g cn31 I92 Fn31 11 H.size hIn31 (by (first | omega | (have zz0 := Hid.u hi_c40; have zz1 := Hid.u hi_c92; have zz2 := Hid.u hi_cn; have zz3 := Hid.u hi_cn20; have zz4 := Hid.u hi_cn31; have zz5 := Hid.u hq_c40; have zz6 := Hid.u hq_c92; have zz7 := Hid.u hq_cn20; have zz8 := Hid.u hq_cn31; omega))) (by (first | omega | (have zz0 := Hid.u hi_c40; have zz1 := Hid.u hi_c92; have zz2 := Hid.u hi_cn; have zz3 := Hid.u hi_cn20; have zz4 := Hid.u hi_cn31; have zz5 := Hid.u hq_c40; have zz6 := Hid.u hq_c92; have zz7 := Hid.u hq_cn20; have zz8 := Hid.u hq_cn31; omega)))) kV_RX12_309 hK hP hD 0 rfl rfl rfl ⟨Nat.le_of_ble_eq_true rfl, Nat.le_of_ble_eq_true rfl⟩ ⟨Nat.le_of_ble_eq_true rfl, Nat.le_of_ble_eq_true rfl⟩ rfl hl.1 rfl (Nat.le_of_ble_eq_true rfl) dX12_readsCondition_215) hS (fun q _ h => hFc q h) hFc (fun u t H1 locs ht hvm wh_38 hB hz1 hk1 hS => ?_)
                            obtain ⟨cn38, In38, Fn38⟩ := u
                            obtain ⟨hP1, hD1⟩ := hB
                            rw [ht] at hP1
                            have vh_38 : (fun c2 I2 F2 => (∀ k : Nat, k ∉ [] → I2 k = I92 k) ∧ (((True) ∧ (va_up (va_up (va_up cn31 24 ((cn31 24) + 1)) 23 ((cn31 23) + 1)) 19 ((cn31 19) + 1)) = c2 ∧ (va_up (va_up Fn31 28 (upd ((Fn31 28)) ((cn31 24)) (nI (1048576 * 11 + (cn31 23))))) 27 (upd ((Fn31 27)) ((cn31 23)) (nI (11 * 1048576 + 0)))) = F2))) cn38 In38 Fn38 := wh_38
                            obtain ⟨hI38_, vh_38⟩ := vh_38
                            obtain ⟨h_38, rfl, rfl⟩ := vh_38
                            obtain rfl : I92 = In38 := (funext (fun k => hI38_ k List.not_mem_nil)).symm
                            have hP : va_P D vwCl (wM cI cB cZ g (va_up (va_up (va_up cn31 24 ((cn31 24) + 1)) 23 ((cn31 23) + 1)) 19 ((cn31 19) + 1)) I92 (va_up (va_up Fn31 28 (upd ((Fn31 28)) ((cn31 24)) (nI (1048576 * 11 + (cn31 23))))) 27 (upd ((Fn31 27)) ((cn31 23)) (nI (11 * 1048576 + 0))))) H1 := hP1
                            have hD : va_D A (wM cI cB cZ g (va_up (va_up (va_up cn31 24 ((cn31 24) + 1)) 23 ((cn31 23) + 1)) 19 ((cn31 19) + 1)) I92 (va_up (va_up Fn31 28 (upd ((Fn31 28)) ((cn31 24)) (nI (1048576 * 11 + (cn31 23))))) 27 (upd ((Fn31 27)) ((cn31 23)) (nI (11 * 1048576 + 0))))) := hD1.weaken (fun _ _ _ h => hFc _ h)
                            generalize H1 = H at hP hS ⊢
                            refine lv_goto (tgt := 40) hx hb dX12_readsCondition_218 rfl ?_
                            exact ih40  (va_up (va_up (va_up cn31 24 ((cn31 24) + 1)) 23 ((cn31 23) + 1)) 19 ((cn31 19) + 1)) I92 (va_up (va_up Fn31 28 (upd ((Fn31 28)) ((cn31 24)) (nI (1048576 * 11 + (cn31 23))))) 27 (upd ((Fn31 27)) ((cn31 23)) (nI (11 * 1048576 + 0)))) _ _ (show cn 20 - ((cn31 19) + 1) < n40 by (first | omega | (have zz0 := Hid.u hi_c40; have zz1 := Hid.u hi_c92; have zz2 := Hid.u hi_cn; have zz3 := Hid.u hi_cn20; have zz4 := Hid.u hi_cn31; have zz5 := Hid.u hq_c40; have zz6 := Hid.u hq_c92; have zz7 := Hid.u hq_cn20; have zz8 := Hid.u hq_cn31; omega))) ⟨(Fr.mo (Fr.f 27 (Fr.f 28 (Fr.c 19 (Fr.c 23 (Fr.c 24 hf31))))) (sbl rfl) (sbl rfl) (sbl rfl)), (IM.fr (In := I92) hIn31 (Fr.f 27 (Fr.f 28 (Fr.c 19 (Fr.c 23 (Fr.c 24 Fr.rf))))) (by decide) (by decide)), (by have q := PBk.jump (k := 11) h_31a (by (first | omega | (have zz0 := Hid.u hi_c40; have zz1 := Hid.u hi_c92; have zz2 := Hid.u hi_cn; have zz3 := Hid.u hi_cn20; have zz4 := Hid.u hi_cn31; have zz5 := Hid.u hq_c40; have zz6 := Hid.u hq_c92; have zz7 := Hid.u hq_cn20; have zz8 := Hid.u hq_cn31; omega))) (by decide); exact q), (by have q := CK.jump (k := 11) (v := cn31 23) h_31b (by decide) (by (first | omega | (have zz0 := Hid.u hi_c40; have zz1 := Hid.u hi_c92; have zz2 := Hid.u hi_cn; have zz3 := Hid.u hi_cn20; have zz4 := Hid.u hi_cn31; have zz5 := Hid.u hq_c40; have zz6 := Hid.u hq_c92; have zz7 := Hid.u hq_cn20; have zz8 := Hid.u hq_cn31; omega))); exact q), (fun k hk => (upd_lt (by (first | omega | (have zz0 := Hid.u hi_c40; have zz1 := Hid.u hi_c92; have zz2 := Hid.u hi_cn; have zz3 := Hid.u hi_cn20; have zz4 := Hid.u hi_cn31; have zz5 := Hid.u hq_c40; have zz6 := Hid.u hq_c92; have zz7 := Hid.u hq_cn20; have zz8 := Hid.u hq_cn31; omega)))).trans ((h_31c k hk).trans (hx92_2 k hk))), (by show cn 19 ≤ cn31 19 + 1; (first | omega | (have zz0 := Hid.u hi_c40; have zz1 := Hid.u hi_c92; have zz2 := Hid.u hi_cn; have zz3 := Hid.u hi_cn20; have zz4 := Hid.u hi_cn31; have zz5 := Hid.u hq_c40; have zz6 := Hid.u hq_c92; have zz7 := Hid.u hq_cn20; have zz8 := Hid.u hq_cn31; omega)))⟩ hP hD hS ls (lv_sub hl [0] rfl)
                        ·
                          have tc_29 : (r_27.toInt : Int) = 124 := congrArg Int32.toInt c_29
                          refine lv_iconst (v := 1) hx hb (oc_4 190 (aq_20 shX12_readsCondition_170)) kic_1 ?_
                          refine lv_goto (tgt := 195) hx hb (oc_167 191 (aq_21 shX12_readsCondition_170) sgw_0_4) rfl ?_
                          have hFc := free_all hD hS hA
                          refine va_callv (runV_a (As := [.int 1]) (rest := []) S (q_lands l D cI cB cZ g c92 I92 F92 (cn 23) 0 1 H.size hI92 hx92_0 hx92_1) kV_RX12_306 hK hP hD 0 rfl rfl rfl ⟨Nat.le_of_ble_eq_true rfl, Nat.le_of_ble_eq_true rfl⟩ ⟨Nat.le_of_ble_eq_true rfl, Nat.le_of_ble_eq_true rfl⟩ rfl hl.1 rfl (Nat.le_of_ble_eq_true rfl) dX12_readsCondition_195) hS (fun q _ h => hFc q h) hFc (fun u t H1 locs ht hvm wh_40 hB hz1 hk1 hS => ?_)
                          obtain ⟨cn40, In40, Fn40⟩ := u
                          obtain ⟨hP1, hD1⟩ := hB
                          rw [ht] at hP1
                          have hP : va_P D vwCl (wM cI cB cZ g cn40 In40 Fn40) H1 := hP1
                          have hD : va_D A (wM cI cB cZ g cn40 In40 Fn40) := hD1.weaken (fun _ _ _ h => hFc _ h)
                          generalize H1 = H at hP hS ⊢
                          have vh_40 : (fun c2 I2 F2 => Fr [24] [] [27] c92 I92 F92 c2 I2 F2 ∧ IM c2 F2 ∧ ((PBk (c2 19) (c2 20) (c2 23) (c2 24) (F2 27) (F2 28) (cn 23) 1 0) ∧ (CK (c2 24) (F2 28)) ∧ (∀ k : Nat, k < (cn 23) → F2 27 k = (F92 27) k) ∧ (¬ (1 : Int32) = 0 → ¬ (11 ≤ kd (F2 28 (c2 24 - 1)) ∧ kd (F2 28 (c2 24 - 1)) ≤ 12)))) cn40 In40 Fn40 := wh_40
                          obtain ⟨hfc40, hIn40, h_40⟩ := vh_40
                          obtain rfl : I92 = In40 := (funext (fun k => hfc40.2.1 k List.not_mem_nil)).symm
                          have hf40 : Fr [19, 23, 24, 26] [21, 22] [27, 28] cn In Fn cn40 I92 Fn40 := Fr.mo (Fr.tr hfr92 hfc40) (sbl rfl) (sbl rfl) (sbl rfl)
                          have hi_cn40 : Hid (CB cn40) := hIn40.b
                          have : cn40 20 = cn 20 := hf40.1 20 (nml rfl)
                          have : cn40 25 = cn 25 := hf40.1 25 (nml rfl)
                          have hq_cn40 := Hid.i (frq_19_23_24_26_0_1_2_46_57_58_62_63_75_83_44 hf40)
                          have : cn40 19 = (c92 19) := hfc40.1 19 (nml rfl)
                          have : cn40 20 = (c92 20) := hfc40.1 20 (nml rfl)
                          have : cn40 23 = (c92 23) := hfc40.1 23 (nml rfl)
                          have : cn40 25 = (c92 25) := hfc40.1 25 (nml rfl)
                          obtain ⟨h_40a, h_40b, h_40c, h_40d⟩ := h_40
                          have h_40f := h_40a.f
                          have hldc := h_40b.1
                          refine lv_aload_n hx hb dX12_readsCondition_198 rfl (lvA0 hl) ?_
                          refine lv_aload_n hx hb dX12_readsCondition_199 rfl (lvA0 hl) ?_
                          refine vp_callSi (runV_ra (As := []) (rest := [.ref (g 100)]) S (q_here l D cI cB cZ g cn40 I92 Fn40  hIn40 (by (first | omega | (have zz0 := Hid.u hi_c40; have zz1 := Hid.u hi_c92; have zz2 := Hid.u hi_cn; have zz3 := Hid.u hi_cn20; have zz4 := Hid.u hi_cn40; have zz5 := Hid.u hq_c40; have zz6 := Hid.u hq_c92; have zz7 := Hid.u hq_cn20; have zz8 := Hid.u hq_cn40; omega))) (by (first | omega | (have zz0 := Hid.u hi_c40; have zz1 := Hid.u hi_c92; have zz2 := Hid.u hi_cn; have zz3 := Hid.u hi_cn20; have zz4 := Hid.u hi_cn40; have zz5 := Hid.u hq_c40; have zz6 := Hid.u hq_c92; have zz7 := Hid.u hq_cn20; have zz8 := Hid.u hq_cn40; omega)))) kV_RX12_239 hK hP 0 rfl rfl rfl ⟨Nat.le_of_ble_eq_true rfl, Nat.le_of_ble_eq_true rfl⟩ ⟨Nat.le_of_ble_eq_true rfl, Nat.le_of_ble_eq_true rfl⟩ rfl hl.1 rfl (Nat.le_of_ble_eq_true rfl) dX12_readsCondition_200) (fun r_41 h_42 => ?_)
                          refine lv_bipush (v := 38) hx hb dX12_readsCondition_203 kbc_38 ?_
                          refine lv_icmp_ne (tgt := 213) hx hb dX12_readsCondition_205 rfl (fun c_43 => ?_) (fun c_43 => ?_)
                          ·
                            have tc_43 : (r_41.toInt : Int) ≠ 38 := fun q => c_43 (Int32.toInt_inj.mp q)
                            refine lv_bipush (v := 12) hx hb dX12_readsCondition_213 kbc_12 ?_
                            have hFc := free_all hD hS hA
                            refine va_callv (runV_a (As := [.int 12]) (rest := []) S (q_jumps l D cI cB cZ g cn40 I92 Fn40 12 H.size hIn40 (by (first | omega | (have zz0 := Hid.u hi_c40; have zz1 := Hid.u hi_c92; have zz2 := Hid.u hi_cn; have zz3 := Hid.u hi_cn20; have zz4 := Hid.u hi_cn40; have zz5 := Hid.u hq_c40; have zz6 := Hid.u hq_c92; have zz7 := Hid.u hq_cn20; have zz8 := Hid.u hq_cn40; omega))) (by (first | omega | (have zz0 := Hid.u hi_c40; have zz1 := Hid.u hi_c92; have zz2 := Hid.u hi_cn; have zz3 := Hid.u hi_cn20; have zz4 := Hid.u hi_cn40; have zz5 := Hid.u hq_c40; have zz6 := Hid.u hq_c92; have zz7 := Hid.u hq_cn20; have zz8 := Hid.u hq_cn40; omega)))) kV_RX12_309 hK hP hD 0 rfl rfl rfl ⟨Nat.le_of_ble_eq_true rfl, Nat.le_of_ble_eq_true rfl⟩ ⟨Nat.le_of_ble_eq_true rfl, Nat.le_of_ble_eq_true rfl⟩ rfl hl.1 rfl (Nat.le_of_ble_eq_true rfl) dX12_readsCondition_215) hS (fun q _ h => hFc q h) hFc (fun u t H1 locs ht hvm wh_45 hB hz1 hk1 hS => ?_)
                            obtain ⟨cn45, In45, Fn45⟩ := u
                            obtain ⟨hP1, hD1⟩ := hB
                            rw [ht] at hP1
                            have vh_45 : (fun c2 I2 F2 => (∀ k : Nat, k ∉ [] → I2 k = I92 k) ∧ (((True) ∧ (va_up (va_up (va_up cn40 24 ((cn40 24) + 1)) 23 ((cn40 23) + 1)) 19 ((cn40 19) + 1)) = c2 ∧ (va_up (va_up Fn40 28 (upd ((Fn40 28)) ((cn40 24)) (nI (1048576 * 12 + (cn40 23))))) 27 (upd ((Fn40 27)) ((cn40 23)) (nI (12 * 1048576 + 0)))) = F2))) cn45 In45 Fn45 := wh_45
                            obtain ⟨hI45_, vh_45⟩ := vh_45
                            obtain ⟨h_45, rfl, rfl⟩ := vh_45
                            obtain rfl : I92 = In45 := (funext (fun k => hI45_ k List.not_mem_nil)).symm
                            have hP : va_P D vwCl (wM cI cB cZ g (va_up (va_up (va_up cn40 24 ((cn40 24) + 1)) 23 ((cn40 23) + 1)) 19 ((cn40 19) + 1)) I92 (va_up (va_up Fn40 28 (upd ((Fn40 28)) ((cn40 24)) (nI (1048576 * 12 + (cn40 23))))) 27 (upd ((Fn40 27)) ((cn40 23)) (nI (12 * 1048576 + 0))))) H1 := hP1
                            have hD : va_D A (wM cI cB cZ g (va_up (va_up (va_up cn40 24 ((cn40 24) + 1)) 23 ((cn40 23) + 1)) 19 ((cn40 19) + 1)) I92 (va_up (va_up Fn40 28 (upd ((Fn40 28)) ((cn40 24)) (nI (1048576 * 12 + (cn40 23))))) 27 (upd ((Fn40 27)) ((cn40 23)) (nI (12 * 1048576 + 0))))) := hD1.weaken (fun _ _ _ h => hFc _ h)
                            generalize H1 = H at hP hS ⊢
                            refine lv_goto (tgt := 40) hx hb dX12_readsCondition_218 rfl ?_
                            exact ih40  (va_up (va_up (va_up cn40 24 ((cn40 24) + 1)) 23 ((cn40 23) + 1)) 19 ((cn40 19) + 1)) I92 (va_up (va_up Fn40 28 (upd ((Fn40 28)) ((cn40 24)) (nI (1048576 * 12 + (cn40 23))))) 27 (upd ((Fn40 27)) ((cn40 23)) (nI (12 * 1048576 + 0)))) _ _ (show cn 20 - ((cn40 19) + 1) < n40 by (first | omega | (have zz0 := Hid.u hi_c40; have zz1 := Hid.u hi_c92; have zz2 := Hid.u hi_cn; have zz3 := Hid.u hi_cn20; have zz4 := Hid.u hi_cn40; have zz5 := Hid.u hq_c40; have zz6 := Hid.u hq_c92; have zz7 := Hid.u hq_cn20; have zz8 := Hid.u hq_cn40; omega))) ⟨(Fr.mo (Fr.f 27 (Fr.f 28 (Fr.c 19 (Fr.c 23 (Fr.c 24 hf40))))) (sbl rfl) (sbl rfl) (sbl rfl)), (IM.fr (In := I92) hIn40 (Fr.f 27 (Fr.f 28 (Fr.c 19 (Fr.c 23 (Fr.c 24 Fr.rf))))) (by decide) (by decide)), (by have q := PBk.jump (k := 12) h_40a (by (first | omega | (have zz0 := Hid.u hi_c40; have zz1 := Hid.u hi_c92; have zz2 := Hid.u hi_cn; have zz3 := Hid.u hi_cn20; have zz4 := Hid.u hi_cn40; have zz5 := Hid.u hq_c40; have zz6 := Hid.u hq_c92; have zz7 := Hid.u hq_cn20; have zz8 := Hid.u hq_cn40; omega))) (by decide); exact q), (by have q := CK.jump (k := 12) (v := cn40 23) h_40b (by decide) (by (first | omega | (have zz0 := Hid.u hi_c40; have zz1 := Hid.u hi_c92; have zz2 := Hid.u hi_cn; have zz3 := Hid.u hi_cn20; have zz4 := Hid.u hi_cn40; have zz5 := Hid.u hq_c40; have zz6 := Hid.u hq_c92; have zz7 := Hid.u hq_cn20; have zz8 := Hid.u hq_cn40; omega))); exact q), (fun k hk => (upd_lt (by (first | omega | (have zz0 := Hid.u hi_c40; have zz1 := Hid.u hi_c92; have zz2 := Hid.u hi_cn; have zz3 := Hid.u hi_cn20; have zz4 := Hid.u hi_cn40; have zz5 := Hid.u hq_c40; have zz6 := Hid.u hq_c92; have zz7 := Hid.u hq_cn20; have zz8 := Hid.u hq_cn40; omega)))).trans ((h_40c k hk).trans (hx92_2 k hk))), (by show cn 19 ≤ cn40 19 + 1; (first | omega | (have zz0 := Hid.u hi_c40; have zz1 := Hid.u hi_c92; have zz2 := Hid.u hi_cn; have zz3 := Hid.u hi_cn20; have zz4 := Hid.u hi_cn40; have zz5 := Hid.u hq_c40; have zz6 := Hid.u hq_c92; have zz7 := Hid.u hq_cn20; have zz8 := Hid.u hq_cn40; omega)))⟩ hP hD hS ls (lv_sub hl [0] rfl)
                          ·
                            have tc_43 : (r_41.toInt : Int) = 38 := congrArg Int32.toInt c_43
                            refine lv_bipush (v := 11) hx hb dX12_readsCondition_208 kbc_11 ?_
                            refine lv_goto (tgt := 215) hx hb dX12_readsCondition_210 rfl ?_
                            have hFc := free_all hD hS hA
                            refine va_callv (runV_a (As := [.int 11]) (rest := []) S (q_jumps l D cI cB cZ g cn40 I92 Fn40 11 H.size hIn40 (by (first | omega | (have zz0 := Hid.u hi_c40; have zz1 := Hid.u hi_c92; have zz2 := Hid.u hi_cn; have zz3 := Hid.u hi_cn20; have zz4 := Hid.u hi_cn40; have zz5 := Hid.u hq_c40; have zz6 := Hid.u hq_c92; have zz7 := Hid.u hq_cn20; have zz8 := Hid.u hq_cn40; omega))) (by (first | omega | (have zz0 := Hid.u hi_c40; have zz1 := Hid.u hi_c92; have zz2 := Hid.u hi_cn; have zz3 := Hid.u hi_cn20; have zz4 := Hid.u hi_cn40; have zz5 := Hid.u hq_c40; have zz6 := Hid.u hq_c92; have zz7 := Hid.u hq_cn20; have zz8 := Hid.u hq_cn40; omega)))) kV_RX12_309 hK hP hD 0 rfl rfl rfl ⟨Nat.le_of_ble_eq_true rfl, Nat.le_of_ble_eq_true rfl⟩ ⟨Nat.le_of_ble_eq_true rfl, Nat.le_of_ble_eq_true rfl⟩ rfl hl.1 rfl (Nat.le_of_ble_eq_true rfl) dX12_readsCondition_215) hS (fun q _ h => hFc q h) hFc (fun u t H1 locs ht hvm wh_47 hB hz1 hk1 hS => ?_)
                            obtain ⟨cn47, In47, Fn47⟩ := u
                            obtain ⟨hP1, hD1⟩ := hB
                            rw [ht] at hP1
                            have vh_47 : (fun c2 I2 F2 => (∀ k : Nat, k ∉ [] → I2 k = I92 k) ∧ (((True) ∧ (va_up (va_up (va_up cn40 24 ((cn40 24) + 1)) 23 ((cn40 23) + 1)) 19 ((cn40 19) + 1)) = c2 ∧ (va_up (va_up Fn40 28 (upd ((Fn40 28)) ((cn40 24)) (nI (1048576 * 11 + (cn40 23))))) 27 (upd ((Fn40 27)) ((cn40 23)) (nI (11 * 1048576 + 0)))) = F2))) cn47 In47 Fn47 := wh_47
                            obtain ⟨hI47_, vh_47⟩ := vh_47
                            obtain ⟨h_47, rfl, rfl⟩ := vh_47
                            obtain rfl : I92 = In47 := (funext (fun k => hI47_ k List.not_mem_nil)).symm
                            have hP : va_P D vwCl (wM cI cB cZ g (va_up (va_up (va_up cn40 24 ((cn40 24) + 1)) 23 ((cn40 23) + 1)) 19 ((cn40 19) + 1)) I92 (va_up (va_up Fn40 28 (upd ((Fn40 28)) ((cn40 24)) (nI (1048576 * 11 + (cn40 23))))) 27 (upd ((Fn40 27)) ((cn40 23)) (nI (11 * 1048576 + 0))))) H1 := hP1
                            have hD : va_D A (wM cI cB cZ g (va_up (va_up (va_up cn40 24 ((cn40 24) + 1)) 23 ((cn40 23) + 1)) 19 ((cn40 19) + 1)) I92 (va_up (va_up Fn40 28 (upd ((Fn40 28)) ((cn40 24)) (nI (1048576 * 11 + (cn40 23))))) 27 (upd ((Fn40 27)) ((cn40 23)) (nI (11 * 1048576 + 0))))) := hD1.weaken (fun _ _ _ h => hFc _ h)
                            generalize H1 = H at hP hS ⊢
                            refine lv_goto (tgt := 40) hx hb dX12_readsCondition_218 rfl ?_
                            exact ih40  (va_up (va_up (va_up cn40 24 ((cn40 24) + 1)) 23 ((cn40 23) + 1)) 19 ((cn40 19) + 1)) I92 (va_up (va_up Fn40 28 (upd ((Fn40 28)) ((cn40 24)) (nI (1048576 * 11 + (cn40 23))))) 27 (upd ((Fn40 27)) ((cn40 23)) (nI (11 * 1048576 + 0)))) _ _ (show cn 20 - ((cn40 19) + 1) < n40 by (first | omega | (have zz0 := Hid.u hi_c40; have zz1 := Hid.u hi_c92; have zz2 := Hid.u hi_cn; have zz3 := Hid.u hi_cn20; have zz4 := Hid.u hi_cn40; have zz5 := Hid.u hq_c40; have zz6 := Hid.u hq_c92; have zz7 := Hid.u hq_cn20; have zz8 := Hid.u hq_cn40; omega))) ⟨(Fr.mo (Fr.f 27 (Fr.f 28 (Fr.c 19 (Fr.c 23 (Fr.c 24 hf40))))) (sbl rfl) (sbl rfl) (sbl rfl)), (IM.fr (In := I92) hIn40 (Fr.f 27 (Fr.f 28 (Fr.c 19 (Fr.c 23 (Fr.c 24 Fr.rf))))) (by decide) (by decide)), (by have q := PBk.jump (k := 11) h_40a (by (first | omega | (have zz0 := Hid.u hi_c40; have zz1 := Hid.u hi_c92; have zz2 := Hid.u hi_cn; have zz3 := Hid.u hi_cn20; have zz4 := Hid.u hi_cn40; have zz5 := Hid.u hq_c40; have zz6 := Hid.u hq_c92; have zz7 := Hid.u hq_cn20; have zz8 := Hid.u hq_cn40; omega))) (by decide); exact q), (by have q := CK.jump (k := 11) (v := cn40 23) h_40b (by decide) (by (first | omega | (have zz0 := Hid.u hi_c40; have zz1 := Hid.u hi_c92; have zz2 := Hid.u hi_cn; have zz3 := Hid.u hi_cn20; have zz4 := Hid.u hi_cn40; have zz5 := Hid.u hq_c40; have zz6 := Hid.u hq_c92; have zz7 := Hid.u hq_cn20; have zz8 := Hid.u hq_cn40; omega))); exact q), (fun k hk => (upd_lt (by (first | omega | (have zz0 := Hid.u hi_c40; have zz1 := Hid.u hi_c92; have zz2 := Hid.u hi_cn; have zz3 := Hid.u hi_cn20; have zz4 := Hid.u hi_cn40; have zz5 := Hid.u hq_c40; have zz6 := Hid.u hq_c92; have zz7 := Hid.u hq_cn20; have zz8 := Hid.u hq_cn40; omega)))).trans ((h_40c k hk).trans (hx92_2 k hk))), (by show cn 19 ≤ cn40 19 + 1; (first | omega | (have zz0 := Hid.u hi_c40; have zz1 := Hid.u hi_c92; have zz2 := Hid.u hi_cn; have zz3 := Hid.u hi_cn20; have zz4 := Hid.u hi_cn40; have zz5 := Hid.u hq_c40; have zz6 := Hid.u hq_c92; have zz7 := Hid.u hq_cn20; have zz8 := Hid.u hq_cn40; omega)))⟩ hP hD hS ls (lv_sub hl [0] rfl)
                      ·
                        have tc_26 : (r_24.toInt : Int) ≠ 38 := fun q => c_26 (Int32.toInt_inj.mp q)
                        refine lv_aload_n hx hb (oc_42 161 (aq_15 shX12_readsCondition_146)) rfl (lvA0 hl) ?_
                        refine vp_callSi (runV_ra (As := []) (rest := []) S (q_here l D cI cB cZ g c92 I92 F92  hI92 (by (first | omega | (have zz0 := Hid.u hi_c40; have zz1 := Hid.u hi_c92; have zz2 := Hid.u hi_cn; have zz3 := Hid.u hi_cn20; have zz4 := Hid.u hq_c40; have zz5 := Hid.u hq_c92; have zz6 := Hid.u hq_cn20; omega))) (by (first | omega | (have zz0 := Hid.u hi_c40; have zz1 := Hid.u hi_c92; have zz2 := Hid.u hi_cn; have zz3 := Hid.u hi_cn20; have zz4 := Hid.u hq_c40; have zz5 := Hid.u hq_c92; have zz6 := Hid.u hq_cn20; omega)))) kV_RX12_239 hK hP 0 rfl rfl rfl ⟨Nat.le_of_ble_eq_true rfl, Nat.le_of_ble_eq_true rfl⟩ ⟨Nat.le_of_ble_eq_true rfl, Nat.le_of_ble_eq_true rfl⟩ rfl hl.1 rfl (Nat.le_of_ble_eq_true rfl) (oc_182 162 (aq_16 shX12_readsCondition_146) uw_0_239)) (fun r_48 h_49 => ?_)
                        refine lv_bipush (v := 124) hx hb (oc_16 165 (aq_19 shX12_readsCondition_146) sgb_124) kbc_124 ?_
                        refine lv_icmp_eq (tgt := 180) hx hb (oc_159 167 (aq_21 shX12_readsCondition_146) sgw_0_13) rfl (fun c_50 => ?_) (fun c_50 => ?_)
                        ·
                          have tc_50 : (r_48.toInt : Int) = 124 := congrArg Int32.toInt c_50
                          refine lv_aload_n hx hb (oc_42 180 (aq_10 shX12_readsCondition_170)) rfl (lvA0 hl) ?_
                          refine lv_aload_n hx hb (oc_42 181 (aq_11 shX12_readsCondition_170)) rfl (lvA0 hl) ?_
                          refine vp_callSi (runV_ra (As := []) (rest := [.ref (g 100)]) S (q_here l D cI cB cZ g c92 I92 F92  hI92 (by (first | omega | (have zz0 := Hid.u hi_c40; have zz1 := Hid.u hi_c92; have zz2 := Hid.u hi_cn; have zz3 := Hid.u hi_cn20; have zz4 := Hid.u hq_c40; have zz5 := Hid.u hq_c92; have zz6 := Hid.u hq_cn20; omega))) (by (first | omega | (have zz0 := Hid.u hi_c40; have zz1 := Hid.u hi_c92; have zz2 := Hid.u hi_cn; have zz3 := Hid.u hi_cn20; have zz4 := Hid.u hq_c40; have zz5 := Hid.u hq_c92; have zz6 := Hid.u hq_cn20; omega)))) kV_RX12_239 hK hP 0 rfl rfl rfl ⟨Nat.le_of_ble_eq_true rfl, Nat.le_of_ble_eq_true rfl⟩ ⟨Nat.le_of_ble_eq_true rfl, Nat.le_of_ble_eq_true rfl⟩ rfl hl.1 rfl (Nat.le_of_ble_eq_true rfl) (oc_182 182 (aq_12 shX12_readsCondition_170) uw_0_239)) (fun r_51 h_52 => ?_)
                          refine lv_bipush (v := 124) hx hb (oc_16 185 (aq_15 shX12_readsCondition_170) sgb_124) kbc_124 ?_
                          refine lv_icmp_ne (tgt := 194) hx hb (oc_160 187 (aq_17 shX12_readsCondition_170) sgw_0_7) rfl (fun c_53 => ?_) (fun c_53 => ?_)
                          ·
                            have tc_53 : (r_51.toInt : Int) ≠ 124 := fun q => c_53 (Int32.toInt_inj.mp q)
                            refine lv_iconst (v := 0) hx hb (oc_3 194 shX12_readsCondition_194) kic_0 ?_
                            have hFc := free_all hD hS hA
                            refine va_callv (runV_a (As := [.int 0]) (rest := []) S (q_lands l D cI cB cZ g c92 I92 F92 (cn 23) 0 0 H.size hI92 hx92_0 hx92_1) kV_RX12_306 hK hP hD 0 rfl rfl rfl ⟨Nat.le_of_ble_eq_true rfl, Nat.le_of_ble_eq_true rfl⟩ ⟨Nat.le_of_ble_eq_true rfl, Nat.le_of_ble_eq_true rfl⟩ rfl hl.1 rfl (Nat.le_of_ble_eq_true rfl) dX12_readsCondition_195) hS (fun q _ h => hFc q h) hFc (fun u t H1 locs ht hvm wh_55 hB hz1 hk1 hS => ?_)
                            obtain ⟨cn55, In55, Fn55⟩ := u
                            obtain ⟨hP1, hD1⟩ := hB
                            rw [ht] at hP1
                            have hP : va_P D vwCl (wM cI cB cZ g cn55 In55 Fn55) H1 := hP1
                            have hD : va_D A (wM cI cB cZ g cn55 In55 Fn55) := hD1.weaken (fun _ _ _ h => hFc _ h)
                            generalize H1 = H at hP hS ⊢
                            have vh_55 : (fun c2 I2 F2 => Fr [24] [] [27] c92 I92 F92 c2 I2 F2 ∧ IM c2 F2 ∧ ((PBk (c2 19) (c2 20) (c2 23) (c2 24) (F2 27) (F2 28) (cn 23) 1 0) ∧ (CK (c2 24) (F2 28)) ∧ (∀ k : Nat, k < (cn 23) → F2 27 k = (F92 27) k) ∧ (¬ (0 : Int32) = 0 → ¬ (11 ≤ kd (F2 28 (c2 24 - 1)) ∧ kd (F2 28 (c2 24 - 1)) ≤ 12)))) cn55 In55 Fn55 := wh_55
                            obtain ⟨hfc55, hIn55, h_55⟩ := vh_55
                            obtain rfl : I92 = In55 := (funext (fun k => hfc55.2.1 k List.not_mem_nil)).symm
                            have hf55 : Fr [19, 23, 24, 26] [21, 22] [27, 28] cn In Fn cn55 I92 Fn55 := Fr.mo (Fr.tr hfr92 hfc55) (sbl rfl) (sbl rfl) (sbl rfl)
                            have hi_cn55 : Hid (CB cn55) := hIn55.b
                            have : cn55 20 = cn 20 := hf55.1 20 (nml rfl)
                            have : cn55 25 = cn 25 := hf55.1 25 (nml rfl)
                            have hq_cn55 := Hid.i (frq_19_23_24_26_0_1_2_46_57_58_62_63_75_83_44 hf55)
                            have : cn55 19 = (c92 19) := hfc55.1 19 (nml rfl)
                            have : cn55 20 = (c92 20) := hfc55.1 20 (nml rfl)
                            have : cn55 23 = (c92 23) := hfc55.1 23 (nml rfl)
                            have : cn55 25 = (c92 25) := hfc55.1 25 (nml rfl)
                            obtain ⟨h_55a, h_55b, h_55c, h_55d⟩ := h_55
                            have h_55f := h_55a.f
                            have hldc := h_55b.1
                            refine lv_aload_n hx hb dX12_readsCondition_198 rfl (lvA0 hl) ?_
                            refine lv_aload_n hx hb dX12_readsCondition_199 rfl (lvA0 hl) ?_
                            refine vp_callSi (runV_ra (As := []) (rest := [.ref (g 100)]) S (q_here l D cI cB cZ g cn55 I92 Fn55  hIn55 (by (first | omega | (have zz0 := Hid.u hi_c40; have zz1 := Hid.u hi_c92; have zz2 := Hid.u hi_cn; have zz3 := Hid.u hi_cn20; have zz4 := Hid.u hi_cn55; have zz5 := Hid.u hq_c40; have zz6 := Hid.u hq_c92; have zz7 := Hid.u hq_cn20; have zz8 := Hid.u hq_cn55; omega))) (by (first | omega | (have zz0 := Hid.u hi_c40; have zz1 := Hid.u hi_c92; have zz2 := Hid.u hi_cn; have zz3 := Hid.u hi_cn20; have zz4 := Hid.u hi_cn55; have zz5 := Hid.u hq_c40; have zz6 := Hid.u hq_c92; have zz7 := Hid.u hq_cn20; have zz8 := Hid.u hq_cn55; omega)))) kV_RX12_239 hK hP 0 rfl rfl rfl ⟨Nat.le_of_ble_eq_true rfl, Nat.le_of_ble_eq_true rfl⟩ ⟨Nat.le_of_ble_eq_true rfl, Nat.le_of_ble_eq_true rfl⟩ rfl hl.1 rfl (Nat.le_of_ble_eq_true rfl) dX12_readsCondition_200) (fun r_56 h_57 => ?_)
                            refine lv_bipush (v := 38) hx hb dX12_readsCondition_203 kbc_38 ?_
                            refine lv_icmp_ne (tgt := 213) hx hb dX12_readsCondition_205 rfl (fun c_58 => ?_) (fun c_58 => ?_)
                            ·
                              have tc_58 : (r_56.toInt : Int) ≠ 38 := fun q => c_58 (Int32.toInt_inj.mp q)
                              refine lv_bipush (v := 12) hx hb dX12_readsCondition_213 kbc_12 ?_
                              have hFc := free_all hD hS hA
                              refine va_callv (runV_a (As := [.int 12]) (rest := []) S (q_jumps l D cI cB cZ g cn55 I92 Fn55 12 H.size hIn55 (by (first | omega | (have zz0 := Hid.u hi_c40; have zz1 := Hid.u hi_c92; have zz2 := Hid.u hi_cn; have zz3 := Hid.u hi_cn20; have zz4 := Hid.u hi_cn55; have zz5 := Hid.u hq_c40; have zz6 := Hid.u hq_c92; have zz7 := Hid.u hq_cn20; have zz8 := Hid.u hq_cn55; omega))) (by (first | omega | (have zz0 := Hid.u hi_c40; have zz1 := Hid.u hi_c92; have zz2 := Hid.u hi_cn; have zz3 := Hid.u hi_cn20; have zz4 := Hid.u hi_cn55; have zz5 := Hid.u hq_c40; have zz6 := Hid.u hq_c92; have zz7 := Hid.u hq_cn20; have zz8 := Hid.u hq_cn55; omega)))) kV_RX12_309 hK hP hD 0 rfl rfl rfl ⟨Nat.le_of_ble_eq_true rfl, Nat.le_of_ble_eq_true rfl⟩ ⟨Nat.le_of_ble_eq_true rfl, Nat.le_of_ble_eq_true rfl⟩ rfl hl.1 rfl (Nat.le_of_ble_eq_true rfl) dX12_readsCondition_215) hS (fun q _ h => hFc q h) hFc (fun u t H1 locs ht hvm wh_60 hB hz1 hk1 hS => ?_)
                              obtain ⟨cn60, In60, Fn60⟩ := u
                              obtain ⟨hP1, hD1⟩ := hB
                              rw [ht] at hP1
                              have vh_60 : (fun c2 I2 F2 => (∀ k : Nat, k ∉ [] → I2 k = I92 k) ∧ (((True) ∧ (va_up (va_up (va_up cn55 24 ((cn55 24) + 1)) 23 ((cn55 23) + 1)) 19 ((cn55 19) + 1)) = c2 ∧ (va_up (va_up Fn55 28 (upd ((Fn55 28)) ((cn55 24)) (nI (1048576 * 12 + (cn55 23))))) 27 (upd ((Fn55 27)) ((cn55 23)) (nI (12 * 1048576 + 0)))) = F2))) cn60 In60 Fn60 := wh_60
                              obtain ⟨hI60_, vh_60⟩ := vh_60
                              obtain ⟨h_60, rfl, rfl⟩ := vh_60
                              obtain rfl : I92 = In60 := (funext (fun k => hI60_ k List.not_mem_nil)).symm
                              have hP : va_P D vwCl (wM cI cB cZ g (va_up (va_up (va_up cn55 24 ((cn55 24) + 1)) 23 ((cn55 23) + 1)) 19 ((cn55 19) + 1)) I92 (va_up (va_up Fn55 28 (upd ((Fn55 28)) ((cn55 24)) (nI (1048576 * 12 + (cn55 23))))) 27 (upd ((Fn55 27)) ((cn55 23)) (nI (12 * 1048576 + 0))))) H1 := hP1
                              have hD : va_D A (wM cI cB cZ g (va_up (va_up (va_up cn55 24 ((cn55 24) + 1)) 23 ((cn55 23) + 1)) 19 ((cn55 19) + 1)) I92 (va_up (va_up Fn55 28 (upd ((Fn55 28)) ((cn55 24)) (nI (1048576 * 12 + (cn55 23))))) 27 (upd ((Fn55 27)) ((cn55 23)) (nI (12 * 1048576 + 0))))) := hD1.weaken (fun _ _ _ h => hFc _ h)
                              generalize H1 = H at hP hS ⊢
                              refine lv_goto (tgt := 40) hx hb dX12_readsCondition_218 rfl ?_
                              exact ih40  (va_up (va_up (va_up cn55 24 ((cn55 24) + 1)) 23 ((cn55 23) + 1)) 19 ((cn55 19) + 1)) I92 (va_up (va_up Fn55 28 (upd ((Fn55 28)) ((cn55 24)) (nI (1048576 * 12 + (cn55 23))))) 27 (upd ((Fn55 27)) ((cn55 23)) (nI (12 * 1048576 + 0)))) _ _ (show cn 20 - ((cn55 19) + 1) < n40 by (first | omega | (have zz0 := Hid.u hi_c40; have zz1 := Hid.u hi_c92; have zz2 := Hid.u hi_cn; have zz3 := Hid.u hi_cn20; have zz4 := Hid.u hi_cn55; have zz5 := Hid.u hq_c40; have zz6 := Hid.u hq_c92; have zz7 := Hid.u hq_cn20; have zz8 := Hid.u hq_cn55; omega))) ⟨(Fr.mo (Fr.f 27 (Fr.f 28 (Fr.c 19 (Fr.c 23 (Fr.c 24 hf55))))) (sbl rfl) (sbl rfl) (sbl rfl)), (IM.fr (In := I92) hIn55 (Fr.f 27 (Fr.f 28 (Fr.c 19 (Fr.c 23 (Fr.c 24 Fr.rf))))) (by decide) (by decide)), (by have q := PBk.jump (k := 12) h_55a (by (first | omega | (have zz0 := Hid.u hi_c40; have zz1 := Hid.u hi_c92; have zz2 := Hid.u hi_cn; have zz3 := Hid.u hi_cn20; have zz4 := Hid.u hi_cn55; have zz5 := Hid.u hq_c40; have zz6 := Hid.u hq_c92; have zz7 := Hid.u hq_cn20; have zz8 := Hid.u hq_cn55; omega))) (by decide); exact q), (by have q := CK.jump (k := 12) (v := cn55 23) h_55b (by decide) (by (first | omega | (have zz0 := Hid.u hi_c40; have zz1 := Hid.u hi_c92; have zz2 := Hid.u hi_cn; have zz3 := Hid.u hi_cn20; have zz4 := Hid.u hi_cn55; have zz5 := Hid.u hq_c40; have zz6 := Hid.u hq_c92; have zz7 := Hid.u hq_cn20; have zz8 := Hid.u hq_cn55; omega))); exact q), (fun k hk => (upd_lt (by (first | omega | (have zz0 := Hid.u hi_c40; have zz1 := Hid.u hi_c92; have zz2 := Hid.u hi_cn; have zz3 := Hid.u hi_cn20; have zz4 := Hid.u hi_cn55; have zz5 := Hid.u hq_c40; have zz6 := Hid.u hq_c92; have zz7 := Hid.u hq_cn20; have zz8 := Hid.u hq_cn55; omega)))).trans ((h_55c k hk).trans (hx92_2 k hk))), (by show cn 19 ≤ cn55 19 + 1; (first | omega | (have zz0 := Hid.u hi_c40; have zz1 := Hid.u hi_c92; have zz2 := Hid.u hi_cn; have zz3 := Hid.u hi_cn20; have zz4 := Hid.u hi_cn55; have zz5 := Hid.u hq_c40; have zz6 := Hid.u hq_c92; have zz7 := Hid.u hq_cn20; have zz8 := Hid.u hq_cn55; omega)))⟩ hP hD hS ls (lv_sub hl [0] rfl)
                            ·
                              have tc_58 : (r_56.toInt : Int) = 38 := congrArg Int32.toInt c_58
                              refine lv_bipush (v := 11) hx hb dX12_readsCondition_208 kbc_11 ?_
                              refine lv_goto (tgt := 215) hx hb dX12_readsCondition_210 rfl ?_
                              have hFc := free_all hD hS hA
                              refine va_callv (runV_a (As := [.int 11]) (rest := []) S (q_jumps l D cI cB cZ g cn55 I92 Fn55 11 H.size hIn55 (by (first | omega | (have zz0 := Hid.u hi_c40; have zz1 := Hid.u hi_c92; have zz2 := Hid.u hi_cn; have zz3 := Hid.u hi_cn20; have zz4 := Hid.u hi_cn55; have zz5 := Hid.u hq_c40; have zz6 := Hid.u hq_c92; have zz7 := Hid.u hq_cn20; have zz8 := Hid.u hq_cn55; omega))) (by (first | omega | (have zz0 := Hid.u hi_c40; have zz1 := Hid.u hi_c92; have zz2 := Hid.u hi_cn; have zz3 := Hid.u hi_cn20; have zz4 := Hid.u hi_cn55; have zz5 := Hid.u hq_c40; have zz6 := Hid.u hq_c92; have zz7 := Hid.u hq_cn20; have zz8 := Hid.u hq_cn55; omega)))) kV_RX12_309 hK hP hD 0 rfl rfl rfl ⟨Nat.le_of_ble_eq_true rfl, Nat.le_of_ble_eq_true rfl⟩ ⟨Nat.le_of_ble_eq_true rfl, Nat.le_of_ble_eq_true rfl⟩ rfl hl.1 rfl (Nat.le_of_ble_eq_true rfl) dX12_readsCondition_215) hS (fun q _ h => hFc q h) hFc (fun u t H1 locs ht hvm wh_62 hB hz1 hk1 hS => ?_)
                              obtain ⟨cn62, In62, Fn62⟩ := u
                              obtain ⟨hP1, hD1⟩ := hB
                              rw [ht] at hP1
                              have vh_62 : (fun c2 I2 F2 => (∀ k : Nat, k ∉ [] → I2 k = I92 k) ∧ (((True) ∧ (va_up (va_up (va_up cn55 24 ((cn55 24) + 1)) 23 ((cn55 23) + 1)) 19 ((cn55 19) + 1)) = c2 ∧ (va_up (va_up Fn55 28 (upd ((Fn55 28)) ((cn55 24)) (nI (1048576 * 11 + (cn55 23))))) 27 (upd ((Fn55 27)) ((cn55 23)) (nI (11 * 1048576 + 0)))) = F2))) cn62 In62 Fn62 := wh_62
                              obtain ⟨hI62_, vh_62⟩ := vh_62
                              obtain ⟨h_62, rfl, rfl⟩ := vh_62
                              obtain rfl : I92 = In62 := (funext (fun k => hI62_ k List.not_mem_nil)).symm
                              have hP : va_P D vwCl (wM cI cB cZ g (va_up (va_up (va_up cn55 24 ((cn55 24) + 1)) 23 ((cn55 23) + 1)) 19 ((cn55 19) + 1)) I92 (va_up (va_up Fn55 28 (upd ((Fn55 28)) ((cn55 24)) (nI (1048576 * 11 + (cn55 23))))) 27 (upd ((Fn55 27)) ((cn55 23)) (nI (11 * 1048576 + 0))))) H1 := hP1
                              have hD : va_D A (wM cI cB cZ g (va_up (va_up (va_up cn55 24 ((cn55 24) + 1)) 23 ((cn55 23) + 1)) 19 ((cn55 19) + 1)) I92 (va_up (va_up Fn55 28 (upd ((Fn55 28)) ((cn55 24)) (nI (1048576 * 11 + (cn55 23))))) 27 (upd ((Fn55 27)) ((cn55 23)) (nI (11 * 1048576 + 0))))) := hD1.weaken (fun _ _ _ h => hFc _ h)
                              generalize H1 = H at hP hS ⊢
                              refine lv_goto (tgt := 40) hx hb dX12_readsCondition_218 rfl ?_
                              exact ih40  (va_up (va_up (va_up cn55 24 ((cn55 24) + 1)) 23 ((cn55 23) + 1)) 19 ((cn55 19) + 1)) I92 (va_up (va_up Fn55 28 (upd ((Fn55 28)) ((cn55 24)) (nI (1048576 * 11 + (cn55 23))))) 27 (upd ((Fn55 27)) ((cn55 23)) (nI (11 * 1048576 + 0)))) _ _ (show cn 20 - ((cn55 19) + 1) < n40 by (first | omega | (have zz0 := Hid.u hi_c40; have zz1 := Hid.u hi_c92; have zz2 := Hid.u hi_cn; have zz3 := Hid.u hi_cn20; have zz4 := Hid.u hi_cn55; have zz5 := Hid.u hq_c40; have zz6 := Hid.u hq_c92; have zz7 := Hid.u hq_cn20; have zz8 := Hid.u hq_cn55; omega))) ⟨(Fr.mo (Fr.f 27 (Fr.f 28 (Fr.c 19 (Fr.c 23 (Fr.c 24 hf55))))) (sbl rfl) (sbl rfl) (sbl rfl)), (IM.fr (In := I92) hIn55 (Fr.f 27 (Fr.f 28 (Fr.c 19 (Fr.c 23 (Fr.c 24 Fr.rf))))) (by decide) (by decide)), (by have q := PBk.jump (k := 11) h_55a (by (first | omega | (have zz0 := Hid.u hi_c40; have zz1 := Hid.u hi_c92; have zz2 := Hid.u hi_cn; have zz3 := Hid.u hi_cn20; have zz4 := Hid.u hi_cn55; have zz5 := Hid.u hq_c40; have zz6 := Hid.u hq_c92; have zz7 := Hid.u hq_cn20; have zz8 := Hid.u hq_cn55; omega))) (by decide); exact q), (by have q := CK.jump (k := 11) (v := cn55 23) h_55b (by decide) (by (first | omega | (have zz0 := Hid.u hi_c40; have zz1 := Hid.u hi_c92; have zz2 := Hid.u hi_cn; have zz3 := Hid.u hi_cn20; have zz4 := Hid.u hi_cn55; have zz5 := Hid.u hq_c40; have zz6 := Hid.u hq_c92; have zz7 := Hid.u hq_cn20; have zz8 := Hid.u hq_cn55; omega))); exact q), (fun k hk => (upd_lt (by (first | omega | (have zz0 := Hid.u hi_c40; have zz1 := Hid.u hi_c92; have zz2 := Hid.u hi_cn; have zz3 := Hid.u hi_cn20; have zz4 := Hid.u hi_cn55; have zz5 := Hid.u hq_c40; have zz6 := Hid.u hq_c92; have zz7 := Hid.u hq_cn20; have zz8 := Hid.u hq_cn55; omega)))).trans ((h_55c k hk).trans (hx92_2 k hk))), (by show cn 19 ≤ cn55 19 + 1; (first | omega | (have zz0 := Hid.u hi_c40; have zz1 := Hid.u hi_c92; have zz2 := Hid.u hi_cn; have zz3 := Hid.u hi_cn20; have zz4 := Hid.u hi_cn55; have zz5 := Hid.u hq_c40; have zz6 := Hid.u hq_c92; have zz7 := Hid.u hq_cn20; have zz8 := Hid.u hq_cn55; omega)))⟩ hP hD hS ls (lv_sub hl [0] rfl)
                          ·
                            have tc_53 : (r_51.toInt : Int) = 124 := congrArg Int32.toInt c_53
                            refine lv_iconst (v := 1) hx hb (oc_4 190 (aq_20 shX12_readsCondition_170)) kic_1 ?_
                            refine lv_goto (tgt := 195) hx hb (oc_167 191 (aq_21 shX12_readsCondition_170) sgw_0_4) rfl ?_
                            have hFc := free_all hD hS hA
                            refine va_callv (runV_a (As := [.int 1]) (rest := []) S (q_lands l D cI cB cZ g c92 I92 F92 (cn 23) 0 1 H.size hI92 hx92_0 hx92_1) kV_RX12_306 hK hP hD 0 rfl rfl rfl ⟨Nat.le_of_ble_eq_true rfl, Nat.le_of_ble_eq_true rfl⟩ ⟨Nat.le_of_ble_eq_true rfl, Nat.le_of_ble_eq_true rfl⟩ rfl hl.1 rfl (Nat.le_of_ble_eq_true rfl) dX12_readsCondition_195) hS (fun q _ h => hFc q h) hFc (fun u t H1 locs ht hvm wh_64 hB hz1 hk1 hS => ?_)
                            obtain ⟨cn64, In64, Fn64⟩ := u
                            obtain ⟨hP1, hD1⟩ := hB
                            rw [ht] at hP1
                            have hP : va_P D vwCl (wM cI cB cZ g cn64 In64 Fn64) H1 := hP1
                            have hD : va_D A (wM cI cB cZ g cn64 In64 Fn64) := hD1.weaken (fun _ _ _ h => hFc _ h)
                            generalize H1 = H at hP hS ⊢
                            have vh_64 : (fun c2 I2 F2 => Fr [24] [] [27] c92 I92 F92 c2 I2 F2 ∧ IM c2 F2 ∧ ((PBk (c2 19) (c2 20) (c2 23) (c2 24) (F2 27) (F2 28) (cn 23) 1 0) ∧ (CK (c2 24) (F2 28)) ∧ (∀ k : Nat, k < (cn 23) → F2 27 k = (F92 27) k) ∧ (¬ (1 : Int32) = 0 → ¬ (11 ≤ kd (F2 28 (c2 24 - 1)) ∧ kd (F2 28 (c2 24 - 1)) ≤ 12)))) cn64 In64 Fn64 := wh_64
                            obtain ⟨hfc64, hIn64, h_64⟩ := vh_64
                            obtain rfl : I92 = In64 := (funext (fun k => hfc64.2.1 k List.not_mem_nil)).symm
                            have hf64 : Fr [19, 23, 24, 26] [21, 22] [27, 28] cn In Fn cn64 I92 Fn64 := Fr.mo (Fr.tr hfr92 hfc64) (sbl rfl) (sbl rfl) (sbl rfl)
                            have hi_cn64 : Hid (CB cn64) := hIn64.b
                            have : cn64 20 = cn 20 := hf64.1 20 (nml rfl)
                            have : cn64 25 = cn 25 := hf64.1 25 (nml rfl)
                            have hq_cn64 := Hid.i (frq_19_23_24_26_0_1_2_46_57_58_62_63_75_83_44 hf64)
                            have : cn64 19 = (c92 19) := hfc64.1 19 (nml rfl)
                            have : cn64 20 = (c92 20) := hfc64.1 20 (nml rfl)
                            have : cn64 23 = (c92 23) := hfc64.1 23 (nml rfl)
                            have : cn64 25 = (c92 25) := hfc64.1 25 (nml rfl)
                            obtain ⟨h_64a, h_64b, h_64c, h_64d⟩ := h_64
                            have h_64f := h_64a.f
                            have hldc := h_64b.1
                            refine lv_aload_n hx hb dX12_readsCondition_198 rfl (lvA0 hl) ?_
                            refine lv_aload_n hx hb dX12_readsCondition_199 rfl (lvA0 hl) ?_
                            refine vp_callSi (runV_ra (As := []) (rest := [.ref (g 100)]) S (q_here l D cI cB cZ g cn64 I92 Fn64  hIn64 (by (first | omega | (have zz0 := Hid.u hi_c40; have zz1 := Hid.u hi_c92; have zz2 := Hid.u hi_cn; have zz3 := Hid.u hi_cn20; have zz4 := Hid.u hi_cn64; have zz5 := Hid.u hq_c40; have zz6 := Hid.u hq_c92; have zz7 := Hid.u hq_cn20; have zz8 := Hid.u hq_cn64; omega))) (by (first | omega | (have zz0 := Hid.u hi_c40; have zz1 := Hid.u hi_c92; have zz2 := Hid.u hi_cn; have zz3 := Hid.u hi_cn20; have zz4 := Hid.u hi_cn64; have zz5 := Hid.u hq_c40; have zz6 := Hid.u hq_c92; have zz7 := Hid.u hq_cn20; have zz8 := Hid.u hq_cn64; omega)))) kV_RX12_239 hK hP 0 rfl rfl rfl ⟨Nat.le_of_ble_eq_true rfl, Nat.le_of_ble_eq_true rfl⟩ ⟨Nat.le_of_ble_eq_true rfl, Nat.le_of_ble_eq_true rfl⟩ rfl hl.1 rfl (Nat.le_of_ble_eq_true rfl) dX12_readsCondition_200) (fun r_65 h_66 => ?_)
                            refine lv_bipush (v := 38) hx hb dX12_readsCondition_203 kbc_38 ?_
                            refine lv_icmp_ne (tgt := 213) hx hb dX12_readsCondition_205 rfl (fun c_67 => ?_) (fun c_67 => ?_)
                            ·
                              have tc_67 : (r_65.toInt : Int) ≠ 38 := fun q => c_67 (Int32.toInt_inj.mp q)
                              refine lv_bipush (v := 12) hx hb dX12_readsCondition_213 kbc_12 ?_
                              have hFc := free_all hD hS hA
                              refine va_callv (runV_a (As := [.int 12]) (rest := []) S (q_jumps l D cI cB cZ g cn64 I92 Fn64 12 H.size hIn64 (by (first | omega | (have zz0 := Hid.u hi_c40; have zz1 := Hid.u hi_c92; have zz2 := Hid.u hi_cn; have zz3 := Hid.u hi_cn20; have zz4 := Hid.u hi_cn64; have zz5 := Hid.u hq_c40; have zz6 := Hid.u hq_c92; have zz7 := Hid.u hq_cn20; have zz8 := Hid.u hq_cn64; omega))) (by (first | omega | (have zz0 := Hid.u hi_c40; have zz1 := Hid.u hi_c92; have zz2 := Hid.u hi_cn; have zz3 := Hid.u hi_cn20; have zz4 := Hid.u hi_cn64; have zz5 := Hid.u hq_c40; have zz6 := Hid.u hq_c92; have zz7 := Hid.u hq_cn20; have zz8 := Hid.u hq_cn64; omega)))) kV_RX12_309 hK hP hD 0 rfl rfl rfl ⟨Nat.le_of_ble_eq_true rfl, Nat.le_of_ble_eq_true rfl⟩ ⟨Nat.le_of_ble_eq_true rfl, Nat.le_of_ble_eq_true rfl⟩ rfl hl.1 rfl (Nat.le_of_ble_eq_true rfl) dX12_readsCondition_215) hS (fun q _ h => hFc q h) hFc (fun u t H1 locs ht hvm wh_69 hB hz1 hk1 hS => ?_)
                              obtain ⟨cn69, In69, Fn69⟩ := u
                              obtain ⟨hP1, hD1⟩ := hB
                              rw [ht] at hP1
                              have vh_69 : (fun c2 I2 F2 => (∀ k : Nat, k ∉ [] → I2 k = I92 k) ∧ (((True) ∧ (va_up (va_up (va_up cn64 24 ((cn64 24) + 1)) 23 ((cn64 23) + 1)) 19 ((cn64 19) + 1)) = c2 ∧ (va_up (va_up Fn64 28 (upd ((Fn64 28)) ((cn64 24)) (nI (1048576 * 12 + (cn64 23))))) 27 (upd ((Fn64 27)) ((cn64 23)) (nI (12 * 1048576 + 0)))) = F2))) cn69 In69 Fn69 := wh_69
                              obtain ⟨hI69_, vh_69⟩ := vh_69
                              obtain ⟨h_69, rfl, rfl⟩ := vh_69
                              obtain rfl : I92 = In69 := (funext (fun k => hI69_ k List.not_mem_nil)).symm
                              have hP : va_P D vwCl (wM cI cB cZ g (va_up (va_up (va_up cn64 24 ((cn64 24) + 1)) 23 ((cn64 23) + 1)) 19 ((cn64 19) + 1)) I92 (va_up (va_up Fn64 28 (upd ((Fn64 28)) ((cn64 24)) (nI (1048576 * 12 + (cn64 23))))) 27 (upd ((Fn64 27)) ((cn64 23)) (nI (12 * 1048576 + 0))))) H1 := hP1
                              have hD : va_D A (wM cI cB cZ g (va_up (va_up (va_up cn64 24 ((cn64 24) + 1)) 23 ((cn64 23) + 1)) 19 ((cn64 19) + 1)) I92 (va_up (va_up Fn64 28 (upd ((Fn64 28)) ((cn64 24)) (nI (1048576 * 12 + (cn64 23))))) 27 (upd ((Fn64 27)) ((cn64 23)) (nI (12 * 1048576 + 0))))) := hD1.weaken (fun _ _ _ h => hFc _ h)
                              generalize H1 = H at hP hS ⊢
                              refine lv_goto (tgt := 40) hx hb dX12_readsCondition_218 rfl ?_
                              exact ih40  (va_up (va_up (va_up cn64 24 ((cn64 24) + 1)) 23 ((cn64 23) + 1)) 19 ((cn64 19) + 1)) I92 (va_up (va_up Fn64 28 (upd ((Fn64 28)) ((cn64 24)) (nI (1048576 * 12 + (cn64 23))))) 27 (upd ((Fn64 27)) ((cn64 23)) (nI (12 * 1048576 + 0)))) _ _ (show cn 20 - ((cn64 19) + 1) < n40 by (first | omega | (have zz0 := Hid.u hi_c40; have zz1 := Hid.u hi_c92; have zz2 := Hid.u hi_cn; have zz3 := Hid.u hi_cn20; have zz4 := Hid.u hi_cn64; have zz5 := Hid.u hq_c40; have zz6 := Hid.u hq_c92; have zz7 := Hid.u hq_cn20; have zz8 := Hid.u hq_cn64; omega))) ⟨(Fr.mo (Fr.f 27 (Fr.f 28 (Fr.c 19 (Fr.c 23 (Fr.c 24 hf64))))) (sbl rfl) (sbl rfl) (sbl rfl)), (IM.fr (In := I92) hIn64 (Fr.f 27 (Fr.f 28 (Fr.c 19 (Fr.c 23 (Fr.c 24 Fr.rf))))) (by decide) (by decide)), (by have q := PBk.jump (k := 12) h_64a (by (first | omega | (have zz0 := Hid.u hi_c40; have zz1 := Hid.u hi_c92; have zz2 := Hid.u hi_cn; have zz3 := Hid.u hi_cn20; have zz4 := Hid.u hi_cn64; have zz5 := Hid.u hq_c40; have zz6 := Hid.u hq_c92; have zz7 := Hid.u hq_cn20; have zz8 := Hid.u hq_cn64; omega))) (by decide); exact q), (by have q := CK.jump (k := 12) (v := cn64 23) h_64b (by decide) (by (first | omega | (have zz0 := Hid.u hi_c40; have zz1 := Hid.u hi_c92; have zz2 := Hid.u hi_cn; have zz3 := Hid.u hi_cn20; have zz4 := Hid.u hi_cn64; have zz5 := Hid.u hq_c40; have zz6 := Hid.u hq_c92; have zz7 := Hid.u hq_cn20; have zz8 := Hid.u hq_cn64; omega))); exact q), (fun k hk => (upd_lt (by (first | omega | (have zz0 := Hid.u hi_c40; have zz1 := Hid.u hi_c92; have zz2 := Hid.u hi_cn; have zz3 := Hid.u hi_cn20; have zz4 := Hid.u hi_cn64; have zz5 := Hid.u hq_c40; have zz6 := Hid.u hq_c92; have zz7 := Hid.u hq_cn20; have zz8 := Hid.u hq_cn64; omega)))).trans ((h_64c k hk).trans (hx92_2 k hk))), (by show cn 19 ≤ cn64 19 + 1; (first | omega | (have zz0 := Hid.u hi_c40; have zz1 := Hid.u hi_c92; have zz2 := Hid.u hi_cn; have zz3 := Hid.u hi_cn20; have zz4 := Hid.u hi_cn64; have zz5 := Hid.u hq_c40; have zz6 := Hid.u hq_c92; have zz7 := Hid.u hq_cn20; have zz8 := Hid.u hq_cn64; omega)))⟩ hP hD hS ls (lv_sub hl [0] rfl)
                            ·
                              have tc_67 : (r_65.toInt : Int) = 38 := congrArg Int32.toInt c_67
                              refine lv_bipush (v := 11) hx hb dX12_readsCondition_208 kbc_11 ?_
                              refine lv_goto (tgt := 215) hx hb dX12_readsCondition_210 rfl ?_
                              have hFc := free_all hD hS hA
                              refine va_callv (runV_a (As := [.int 11]) (rest := []) S (q_jumps l D cI cB cZ g cn64 I92 Fn64 11 H.size hIn64 (by (first | omega | (have zz0 := Hid.u hi_c40; have zz1 := Hid.u hi_c92; have zz2 := Hid.u hi_cn; have zz3 := Hid.u hi_cn20; have zz4 := Hid.u hi_cn64; have zz5 := Hid.u hq_c40; have zz6 := Hid.u hq_c92; have zz7 := Hid.u hq_cn20; have zz8 := Hid.u hq_cn64; omega))) (by (first | omega | (have zz0 := Hid.u hi_c40; have zz1 := Hid.u hi_c92; have zz2 := Hid.u hi_cn; have zz3 := Hid.u hi_cn20; have zz4 := Hid.u hi_cn64; have zz5 := Hid.u hq_c40; have zz6 := Hid.u hq_c92; have zz7 := Hid.u hq_cn20; have zz8 := Hid.u hq_cn64; omega)))) kV_RX12_309 hK hP hD 0 rfl rfl rfl ⟨Nat.le_of_ble_eq_true rfl, Nat.le_of_ble_eq_true rfl⟩ ⟨Nat.le_of_ble_eq_true rfl, Nat.le_of_ble_eq_true rfl⟩ rfl hl.1 rfl (Nat.le_of_ble_eq_true rfl) dX12_readsCondition_215) hS (fun q _ h => hFc q h) hFc (fun u t H1 locs ht hvm wh_71 hB hz1 hk1 hS => ?_)
                              obtain ⟨cn71, In71, Fn71⟩ := u
                              obtain ⟨hP1, hD1⟩ := hB
                              rw [ht] at hP1
                              have vh_71 : (fun c2 I2 F2 => (∀ k : Nat, k ∉ [] → I2 k = I92 k) ∧ (((True) ∧ (va_up (va_up (va_up cn64 24 ((cn64 24) + 1)) 23 ((cn64 23) + 1)) 19 ((cn64 19) + 1)) = c2 ∧ (va_up (va_up Fn64 28 (upd ((Fn64 28)) ((cn64 24)) (nI (1048576 * 11 + (cn64 23))))) 27 (upd ((Fn64 27)) ((cn64 23)) (nI (11 * 1048576 + 0)))) = F2))) cn71 In71 Fn71 := wh_71
                              obtain ⟨hI71_, vh_71⟩ := vh_71
                              obtain ⟨h_71, rfl, rfl⟩ := vh_71
                              obtain rfl : I92 = In71 := (funext (fun k => hI71_ k List.not_mem_nil)).symm
                              have hP : va_P D vwCl (wM cI cB cZ g (va_up (va_up (va_up cn64 24 ((cn64 24) + 1)) 23 ((cn64 23) + 1)) 19 ((cn64 19) + 1)) I92 (va_up (va_up Fn64 28 (upd ((Fn64 28)) ((cn64 24)) (nI (1048576 * 11 + (cn64 23))))) 27 (upd ((Fn64 27)) ((cn64 23)) (nI (11 * 1048576 + 0))))) H1 := hP1
                              have hD : va_D A (wM cI cB cZ g (va_up (va_up (va_up cn64 24 ((cn64 24) + 1)) 23 ((cn64 23) + 1)) 19 ((cn64 19) + 1)) I92 (va_up (va_up Fn64 28 (upd ((Fn64 28)) ((cn64 24)) (nI (1048576 * 11 + (cn64 23))))) 27 (upd ((Fn64 27)) ((cn64 23)) (nI (11 * 1048576 + 0))))) := hD1.weaken (fun _ _ _ h => hFc _ h)
                              generalize H1 = H at hP hS ⊢
                              refine lv_goto (tgt := 40) hx hb dX12_readsCondition_218 rfl ?_
                              exact ih40  (va_up (va_up (va_up cn64 24 ((cn64 24) + 1)) 23 ((cn64 23) + 1)) 19 ((cn64 19) + 1)) I92 (va_up (va_up Fn64 28 (upd ((Fn64 28)) ((cn64 24)) (nI (1048576 * 11 + (cn64 23))))) 27 (upd ((Fn64 27)) ((cn64 23)) (nI (11 * 1048576 + 0)))) _ _ (show cn 20 - ((cn64 19) + 1) < n40 by (first | omega | (have zz0 := Hid.u hi_c40; have zz1 := Hid.u hi_c92; have zz2 := Hid.u hi_cn; have zz3 := Hid.u hi_cn20; have zz4 := Hid.u hi_cn64; have zz5 := Hid.u hq_c40; have zz6 := Hid.u hq_c92; have zz7 := Hid.u hq_cn20; have zz8 := Hid.u hq_cn64; omega))) ⟨(Fr.mo (Fr.f 27 (Fr.f 28 (Fr.c 19 (Fr.c 23 (Fr.c 24 hf64))))) (sbl rfl) (sbl rfl) (sbl rfl)), (IM.fr (In := I92) hIn64 (Fr.f 27 (Fr.f 28 (Fr.c 19 (Fr.c 23 (Fr.c 24 Fr.rf))))) (by decide) (by decide)), (by have q := PBk.jump (k := 11) h_64a (by (first | omega | (have zz0 := Hid.u hi_c40; have zz1 := Hid.u hi_c92; have zz2 := Hid.u hi_cn; have zz3 := Hid.u hi_cn20; have zz4 := Hid.u hi_cn64; have zz5 := Hid.u hq_c40; have zz6 := Hid.u hq_c92; have zz7 := Hid.u hq_cn20; have zz8 := Hid.u hq_cn64; omega))) (by decide); exact q), (by have q := CK.jump (k := 11) (v := cn64 23) h_64b (by decide) (by (first | omega | (have zz0 := Hid.u hi_c40; have zz1 := Hid.u hi_c92; have zz2 := Hid.u hi_cn; have zz3 := Hid.u hi_cn20; have zz4 := Hid.u hi_cn64; have zz5 := Hid.u hq_c40; have zz6 := Hid.u hq_c92; have zz7 := Hid.u hq_cn20; have zz8 := Hid.u hq_cn64; omega))); exact q), (fun k hk => (upd_lt (by (first | omega | (have zz0 := Hid.u hi_c40; have zz1 := Hid.u hi_c92; have zz2 := Hid.u hi_cn; have zz3 := Hid.u hi_cn20; have zz4 := Hid.u hi_cn64; have zz5 := Hid.u hq_c40; have zz6 := Hid.u hq_c92; have zz7 := Hid.u hq_cn20; have zz8 := Hid.u hq_cn64; omega)))).trans ((h_64c k hk).trans (hx92_2 k hk))), (by show cn 19 ≤ cn64 19 + 1; (first | omega | (have zz0 := Hid.u hi_c40; have zz1 := Hid.u hi_c92; have zz2 := Hid.u hi_cn; have zz3 := Hid.u hi_cn20; have zz4 := Hid.u hi_cn64; have zz5 := Hid.u hq_c40; have zz6 := Hid.u hq_c92; have zz7 := Hid.u hq_cn20; have zz8 := Hid.u hq_cn64; omega)))⟩ hP hD hS ls (lv_sub hl [0] rfl)
                        ·
                          have tc_50 : (r_48.toInt : Int) ≠ 124 := fun q => c_50 (Int32.toInt_inj.mp q)
                          refine lv_aload_n hx hb (oc_42 170 shX12_readsCondition_170) rfl (lvA0 hl) ?_
                          refine lv_iconst (v := 1) hx hb (oc_4 171 (aq_1 shX12_readsCondition_170)) kic_1 ?_
                          refine lv_aload_n hx hb (oc_42 172 (aq_2 shX12_readsCondition_170)) rfl (lvA0 hl) ?_
                          refine gM_233 S hK hP (v := .int (nI (c92 19))) rfl (oc_180 173 (aq_3 shX12_readsCondition_170) uw_0_233) ?_
                          have hFc := free_all hD hS hA
                          refine va_calli (runV_a (As := [.int 1, .int (nI (c92 19))]) (rest := []) S (q_wrong l D cI cB cZ g c92 I92 F92 1 (nI (c92 19)) H.size hI92) kV_RX12_246 hK hP hD 0 rfl rfl rfl ⟨Nat.le_of_ble_eq_true rfl, Nat.le_of_ble_eq_true rfl⟩ ⟨Nat.le_of_ble_eq_true rfl, Nat.le_of_ble_eq_true rfl⟩ rfl hl.1 rfl (Nat.le_of_ble_eq_true rfl) (oc_182 176 (aq_6 shX12_readsCondition_170) uw_0_246)) hS (fun q _ h => hFc q h) hFc (fun r_72 u t H1 locs ht hvm wh_73 hB hz1 hk1 hS => ?_)
                          obtain ⟨cn73, In73, Fn73⟩ := u
                          obtain ⟨hP1, hD1⟩ := hB
                          rw [ht] at hP1
                          have vh_73 : (fun r c2 I2 F2 => (∀ k : Nat, k ∉ [21] → I2 k = I92 k) ∧ ((r = 0 ∧ (True) ∧ c92 = c2 ∧ F92 = F2))) r_72 cn73 In73 Fn73 := wh_73
                          obtain ⟨hI73_, vh_73⟩ := vh_73
                          obtain ⟨rfl, h_73, rfl, rfl⟩ := vh_73
                          have hf73 : Fr [19, 23, 24, 26] [21, 22] [27, 28] cn In Fn c92 In73 F92 := Fr.mo (Fr.tr hfr92 (show Fr [] [21] [] c92 I92 F92 c92 In73 F92 from ⟨fun _ _ => rfl, hI73_, fun _ _ => rfl⟩)) (sbl rfl) (sbl rfl) (sbl rfl)
                          have hP : va_P D vwCl (wM cI cB cZ g c92 In73 F92) H1 := hP1
                          have hD : va_D A (wM cI cB cZ g c92 In73 F92) := hD1.weaken (fun _ _ _ h => hFc _ h)
                          generalize H1 = H at hP hS ⊢
                          exact W.zret (v := 0) hx hb hr rfl (fun t ht hW => ⟨⟨0, (c92, In73, F92), rfl, ⟨(Fr.mo hf73 (sbl rfl) (sbl rfl) (sbl rfl)), hI92, (by show 0 = 0 ∨ (0 = 1 ∧ SegOK (F92 27) 0 (cn 23) (c92 23) ∧ cn 23 ≤ c92 23 ∧ c92 23 ≤ c92 19 ∧ (cn 19 ≤ c92 19 ∧ c92 19 ≤ cn 20) ∧ (∀ k : Nat, k < cn 23 → F92 27 k = Fn 27 k)); exact Or.inl rfl)⟩, by rw [ht]; exact hP, hD⟩, hS.F ht⟩) hS.2.2 (oc_172 179 (aq_9 shX12_readsCondition_170))
                    ·
                      have tc_23 : (r_21.toInt : Int) = 41 := congrArg Int32.toInt c_23
                      refine lv_aload_n hx hb (oc_42 101 (aq_3 shX12_readsCondition_98)) rfl (lvA0 hl) ?_
                      refine lv_iconst (v := 1) hx hb (oc_4 102 (aq_4 shX12_readsCondition_98)) kic_1 ?_
                      have hFc := free_all hD hS hA
                      refine va_callv (runV_a (As := [.int 1]) (rest := []) S (q_lands l D cI cB cZ g c92 I92 F92 (cn 23) 0 1 H.size hI92 hx92_0 hx92_1) kV_RX12_306 hK hP hD 0 rfl rfl rfl ⟨Nat.le_of_ble_eq_true rfl, Nat.le_of_ble_eq_true rfl⟩ ⟨Nat.le_of_ble_eq_true rfl, Nat.le_of_ble_eq_true rfl⟩ rfl hl.1 rfl (Nat.le_of_ble_eq_true rfl) (oc_182 103 (aq_5 shX12_readsCondition_98) uw_1_50)) hS (fun q _ h => hFc q h) hFc (fun u t H1 locs ht hvm wh_75 hB hz1 hk1 hS => ?_)
                      obtain ⟨cn75, In75, Fn75⟩ := u
                      obtain ⟨hP1, hD1⟩ := hB
                      rw [ht] at hP1
                      have hP : va_P D vwCl (wM cI cB cZ g cn75 In75 Fn75) H1 := hP1
                      have hD : va_D A (wM cI cB cZ g cn75 In75 Fn75) := hD1.weaken (fun _ _ _ h => hFc _ h)
                      generalize H1 = H at hP hS ⊢
                      have vh_75 : (fun c2 I2 F2 => Fr [24] [] [27] c92 I92 F92 c2 I2 F2 ∧ IM c2 F2 ∧ ((PBk (c2 19) (c2 20) (c2 23) (c2 24) (F2 27) (F2 28) (cn 23) 1 0) ∧ (CK (c2 24) (F2 28)) ∧ (∀ k : Nat, k < (cn 23) → F2 27 k = (F92 27) k) ∧ (¬ (1 : Int32) = 0 → ¬ (11 ≤ kd (F2 28 (c2 24 - 1)) ∧ kd (F2 28 (c2 24 - 1)) ≤ 12)))) cn75 In75 Fn75 := wh_75
                      obtain ⟨hfc75, hIn75, h_75⟩ := vh_75
                      obtain rfl : I92 = In75 := (funext (fun k => hfc75.2.1 k List.not_mem_nil)).symm
                      have hf75 : Fr [19, 23, 24, 26] [21, 22] [27, 28] cn In Fn cn75 I92 Fn75 := Fr.mo (Fr.tr hfr92 hfc75) (sbl rfl) (sbl rfl) (sbl rfl)
                      have hi_cn75 : Hid (CB cn75) := hIn75.b
                      have : cn75 20 = cn 20 := hf75.1 20 (nml rfl)
                      have : cn75 25 = cn 25 := hf75.1 25 (nml rfl)
                      have hq_cn75 := Hid.i (frq_19_23_24_26_0_1_2_46_57_58_62_63_75_83_44 hf75)
                      have : cn75 19 = (c92 19) := hfc75.1 19 (nml rfl)
                      have : cn75 20 = (c92 20) := hfc75.1 20 (nml rfl)
                      have : cn75 23 = (c92 23) := hfc75.1 23 (nml rfl)
                      have : cn75 25 = (c92 25) := hfc75.1 25 (nml rfl)
                      obtain ⟨h_75a, h_75b, h_75c, h_75d⟩ := h_75
                      have h_75f := h_75a.f
                      have hldc := h_75b.1
                      refine lv_aload_n hx hb (oc_42 106 (aq_8 shX12_readsCondition_98)) rfl (lvA0 hl) ?_
                      refine lv_aload_n hx hb (oc_42 107 (aq_9 shX12_readsCondition_98)) rfl (lvA0 hl) ?_
                      refine gM_264 S hK hP (v := .int (nI (cn75 24))) rfl (oc_180 108 (aq_10 shX12_readsCondition_98) uw_1_8) ?_
                      refine lv_iconst (v := 1) hx hb (oc_4 111 (aq_13 shX12_readsCondition_98)) kic_1 ?_
                      refine lv_isub hx hb (oc_100 112 (aq_14 shX12_readsCondition_98)) ?_
                      refine lv_topi (fun y_76 ey_76 => ?_)
                      obtain rfl : y_76 = (nI ((cn75 24) - 1)) := ey_76.trans (nI_sub (b := 1) (by (first | omega | (have zz0 := Hid.u hi_c40; have zz1 := Hid.u hi_c92; have zz2 := Hid.u hi_cn; have zz3 := Hid.u hi_cn20; have zz4 := Hid.u hi_cn75; have zz5 := Hid.u hq_c40; have zz6 := Hid.u hq_c92; have zz7 := Hid.u hq_cn20; have zz8 := Hid.u hq_cn75; omega))))
                      refine pM_264 S hK hP hD hS (a := ((cn75 24) - 1)) (cn2 := (va_up cn75 24 ((cn75 24) - 1))) rfl rfl (oc_181 113 (aq_15 shX12_readsCondition_98) uw_1_8) (fun H locs hP hD hS => ?_)
                      refine lv_aload_n hx hb (oc_42 116 (aq_18 shX12_readsCondition_98)) rfl (lvA0 hl) ?_
                      refine lv_aload_n hx hb (oc_42 117 (aq_19 shX12_readsCondition_98)) rfl (lvA0 hl) ?_
                      refine gM_261 S hK hP (v := .int (I92 22)) rfl (oc_180 118 (aq_20 shX12_readsCondition_98) uw_1_5) ?_
                      refine lv_iconst (v := 1) hx hb (oc_4 121 (aq_23 shX12_readsCondition_98)) kic_1 ?_
                      refine lv_isub hx hb (oc_100 122 shX12_readsCondition_122) ?_
                      refine pM_261 S hK hP hD hS (In2 := (va_up I92 22 ((I92 22) - 1))) rfl (oc_181 123 (aq_1 shX12_readsCondition_122) uw_1_5) (fun H locs hP hD hS => ?_)
                      refine lv_aload_n hx hb (oc_42 126 (aq_4 shX12_readsCondition_122)) rfl (lvA0 hl) ?_
                      refine lv_aload_n hx hb (oc_42 127 (aq_5 shX12_readsCondition_122)) rfl (lvA0 hl) ?_
                      refine gM_233 S hK hP (v := .int (nI (cn75 19))) rfl (oc_180 128 (aq_6 shX12_readsCondition_122) uw_0_233) ?_
                      refine lv_iconst (v := 1) hx hb (oc_4 131 (aq_9 shX12_readsCondition_122)) kic_1 ?_
                      refine lv_iadd hx hb (oc_96 132 (aq_10 shX12_readsCondition_122)) ?_
                      refine lv_topi (fun y_77 ey_77 => ?_)
                      obtain rfl : y_77 = (nI ((cn75 19) + 1)) := ey_77.trans (nI_add (cn75 19) 1)
                      refine pM_233 S hK hP hD hS (a := ((cn75 19) + 1)) (cn2 := (va_up (va_up cn75 24 ((cn75 24) - 1)) 19 ((cn75 19) + 1))) rfl rfl (oc_181 133 (aq_11 shX12_readsCondition_122) uw_0_233) (fun H locs hP hD hS => ?_)
                      refine lv_aload_n hx hb (oc_42 136 (aq_14 shX12_readsCondition_122)) rfl (lvA0 hl) ?_
                      refine gM_264 S hK hP (v := .int (nI ((cn75 24) - 1))) rfl (oc_180 137 (aq_15 shX12_readsCondition_122) uw_1_8) ?_
                      have : (nI ((cn75 24) - 1)).toInt = ((((cn75 24) - 1) : Nat) : Int) := nI_toInt (by (first | omega | (have zz0 := Hid.u hi_c40; have zz1 := Hid.u hi_c92; have zz2 := Hid.u hi_cn; have zz3 := Hid.u hi_cn20; have zz4 := Hid.u hi_cn75; have zz5 := Hid.u hq_c40; have zz6 := Hid.u hq_c92; have zz7 := Hid.u hq_cn20; have zz8 := Hid.u hq_cn75; omega)))
                      refine lv_if_ne (tgt := 145) hx hb (oc_154 140 (aq_18 shX12_readsCondition_122) sgw_0_5) rfl (fun c_78 => ?_) (fun c_78 => ?_)
                      ·
                        have tc_78 : ((nI ((cn75 24) - 1)).toInt : Int) ≠ 0 := fun q => c_78 (Int32.toInt_inj.mp q)
                        refine lv_aload_n hx hb (oc_42 145 (aq_23 shX12_readsCondition_122)) rfl (lvA0 hl) ?_
                        have hFc := free_all hD hS hA
                        refine va_callv (runV_a (As := []) (rest := []) S (q_endsPiece l D cI cB cZ g (va_up (va_up cn75 24 ((cn75 24) - 1)) 19 ((cn75 19) + 1)) (va_up I92 22 ((I92 22) - 1)) Fn75 (cn 23) 0 H.size (IM.fr (In := I92) hIn75 (Fr.c 19 (Fr.c 24 Fr.rf)) (by decide) (by decide)) (by have q := PBk.pop' (pl' := cn75 19 + 1) (s' := 0) h_75a (by (first | omega | (have zz0 := Hid.u hi_c40; have zz1 := Hid.u hi_c92; have zz2 := Hid.u hi_cn; have zz3 := Hid.u hi_cn20; have zz4 := Hid.u hi_cn75; have zz5 := Hid.u hq_c40; have zz6 := Hid.u hq_c92; have zz7 := Hid.u hq_cn20; have zz8 := Hid.u hq_cn75; omega))) (by (first | omega | (have zz0 := Hid.u hi_c40; have zz1 := Hid.u hi_c92; have zz2 := Hid.u hi_cn; have zz3 := Hid.u hi_cn20; have zz4 := Hid.u hi_cn75; have zz5 := Hid.u hq_c40; have zz6 := Hid.u hq_c92; have zz7 := Hid.u hq_cn20; have zz8 := Hid.u hq_cn75; omega))) (by (first | omega | (have zz0 := Hid.u hi_c40; have zz1 := Hid.u hi_c92; have zz2 := Hid.u hi_cn; have zz3 := Hid.u hi_cn20; have zz4 := Hid.u hi_cn75; have zz5 := Hid.u hq_c40; have zz6 := Hid.u hq_c92; have zz7 := Hid.u hq_cn20; have zz8 := Hid.u hq_cn75; omega))) (h_75d (by decide)) (by (first | omega | (have zz0 := Hid.u hi_c40; have zz1 := Hid.u hi_c92; have zz2 := Hid.u hi_cn; have zz3 := Hid.u hi_cn20; have zz4 := Hid.u hi_cn75; have zz5 := Hid.u hq_c40; have zz6 := Hid.u hq_c92; have zz7 := Hid.u hq_cn20; have zz8 := Hid.u hq_cn75; omega))); exact q) (CK.less (w' := cn75 24 - 1) h_75b (by (first | omega | (have zz0 := Hid.u hi_c40; have zz1 := Hid.u hi_c92; have zz2 := Hid.u hi_cn; have zz3 := Hid.u hi_cn20; have zz4 := Hid.u hi_cn75; have zz5 := Hid.u hq_c40; have zz6 := Hid.u hq_c92; have zz7 := Hid.u hq_cn20; have zz8 := Hid.u hq_cn75; omega))) (by (first | omega | (have zz0 := Hid.u hi_c40; have zz1 := Hid.u hi_c92; have zz2 := Hid.u hi_cn; have zz3 := Hid.u hi_cn20; have zz4 := Hid.u hi_cn75; have zz5 := Hid.u hq_c40; have zz6 := Hid.u hq_c92; have zz7 := Hid.u hq_cn20; have zz8 := Hid.u hq_cn75; omega))))) kV_RX12_300 hK hP hD 0 rfl rfl rfl ⟨Nat.le_of_ble_eq_true rfl, Nat.le_of_ble_eq_true rfl⟩ ⟨Nat.le_of_ble_eq_true rfl, Nat.le_of_ble_eq_true rfl⟩ rfl hl.1 rfl (Nat.le_of_ble_eq_true rfl) (oc_182 146 shX12_readsCondition_146 uw_1_44)) hS (fun q _ h => hFc q h) hFc (fun u t H1 locs ht hvm wh_80 hB hz1 hk1 hS => ?_)
                        obtain ⟨cn80, In80, Fn80⟩ := u
                        obtain ⟨hP1, hD1⟩ := hB
                        rw [ht] at hP1
                        have hP : va_P D vwCl (wM cI cB cZ g cn80 In80 Fn80) H1 := hP1
                        have hD : va_D A (wM cI cB cZ g cn80 In80 Fn80) := hD1.weaken (fun _ _ _ h => hFc _ h)
                        generalize H1 = H at hP hS ⊢
                        have vh_80 : (fun c2 I2 F2 => Fr [23, 24] [22] [27] (va_up (va_up cn75 24 ((cn75 24) - 1)) 19 ((cn75 19) + 1)) (va_up I92 22 ((I92 22) - 1)) Fn75 c2 I2 F2 ∧ IM c2 F2 ∧ ((PBk (c2 19) (c2 20) (c2 23) (c2 24) (F2 27) (F2 28) (cn 23) 1 0) ∧ (CK (c2 24) (F2 28)) ∧ (∀ k : Nat, k < (cn 23) → F2 27 k = (Fn75 27) k))) cn80 In80 Fn80 := wh_80
                        obtain ⟨hfc80, hIn80, h_80⟩ := vh_80
                        have hf80 : Fr [19, 23, 24, 26] [21, 22] [27, 28] cn In Fn cn80 In80 Fn80 := Fr.mo (Fr.tr (Fr.i 22 (Fr.c 19 (Fr.c 24 hf75))) hfc80) (sbl rfl) (sbl rfl) (sbl rfl)
                        have hi_cn80 : Hid (CB cn80) := hIn80.b
                        have : cn80 20 = cn 20 := hf80.1 20 (nml rfl)
                        have : cn80 25 = cn 25 := hf80.1 25 (nml rfl)
                        have hq_cn80 := Hid.i (frq_19_23_24_26_0_1_2_46_57_58_62_63_75_83_44 hf80)
                        have : cn80 19 = ((cn75 19) + 1) := hfc80.1 19 (nml rfl)
                        have : cn80 20 = (cn75 20) := hfc80.1 20 (nml rfl)
                        have : cn80 25 = (cn75 25) := hfc80.1 25 (nml rfl)
                        obtain ⟨h_80a, h_80b, h_80c⟩ := h_80
                        have h_80f := h_80a.f
                        refine lv_goto (tgt := 92) hx hb (oc_167 149 (aq_3 shX12_readsCondition_146) sgw_255_199) rfl ?_
                        exact ih92  cn80 In80 Fn80 _ _ (show cn 20 - (cn80 19) < n92 by (first | omega | (have zz0 := Hid.u hi_c40; have zz1 := Hid.u hi_c92; have zz2 := Hid.u hi_cn; have zz3 := Hid.u hi_cn20; have zz4 := Hid.u hi_cn75; have zz5 := Hid.u hi_cn80; have zz6 := Hid.u hq_c40; have zz7 := Hid.u hq_c92; have zz8 := Hid.u hq_cn20; have zz9 := Hid.u hq_cn75; have zz10 := Hid.u hq_cn80; omega))) ⟨(Fr.mo hf80 (sbl rfl) (sbl rfl) (sbl rfl)), hIn80, h_80a, h_80b, (fun k hk => (h_80c k hk).trans ((h_75c k hk).trans (hx92_2 k hk))), (by (first | omega | (have zz0 := Hid.u hi_c40; have zz1 := Hid.u hi_c92; have zz2 := Hid.u hi_cn; have zz3 := Hid.u hi_cn20; have zz4 := Hid.u hi_cn75; have zz5 := Hid.u hi_cn80; have zz6 := Hid.u hq_c40; have zz7 := Hid.u hq_c92; have zz8 := Hid.u hq_cn20; have zz9 := Hid.u hq_cn75; have zz10 := Hid.u hq_cn80; omega)))⟩ hP hD hS ls (lv_sub hl [0] rfl)
                      ·
                        have tc_78 : ((nI ((cn75 24) - 1)).toInt : Int) = 0 := congrArg Int32.toInt c_78
                        refine lv_iconst (v := 1) hx hb (oc_4 143 (aq_21 shX12_readsCondition_122)) kic_1 ?_
                        exact W.zret (v := 1) hx hb hr rfl (fun t ht hW => ⟨⟨1, ((va_up (va_up cn75 24 ((cn75 24) - 1)) 19 ((cn75 19) + 1)), (va_up I92 22 ((I92 22) - 1)), Fn75), rfl, ⟨(Fr.mo (Fr.i 22 (Fr.c 19 (Fr.c 24 hf75))) (sbl rfl) (sbl rfl) (sbl rfl)), (IM.fr (In := I92) hIn75 (Fr.c 19 (Fr.c 24 Fr.rf)) (by decide) (by decide)), (by show 1 = 0 ∨ (1 = 1 ∧ SegOK (Fn75 27) 0 (cn 23) ((va_up (va_up cn75 24 ((cn75 24) - 1)) 19 ((cn75 19) + 1)) 23) ∧ cn 23 ≤ (va_up (va_up cn75 24 ((cn75 24) - 1)) 19 ((cn75 19) + 1)) 23 ∧ (va_up (va_up cn75 24 ((cn75 24) - 1)) 19 ((cn75 19) + 1)) 23 ≤ (va_up (va_up cn75 24 ((cn75 24) - 1)) 19 ((cn75 19) + 1)) 19 ∧ (cn 19 ≤ (va_up (va_up cn75 24 ((cn75 24) - 1)) 19 ((cn75 19) + 1)) 19 ∧ (va_up (va_up cn75 24 ((cn75 24) - 1)) 19 ((cn75 19) + 1)) 19 ≤ cn 20) ∧ (∀ k : Nat, k < cn 23 → Fn75 27 k = Fn 27 k)); exact Or.inr ⟨rfl, (PBk.pop' (pl' := cn75 19 + 1) (s' := 0) h_75a (by (first | omega | (have zz0 := Hid.u hi_c40; have zz1 := Hid.u hi_c92; have zz2 := Hid.u hi_cn; have zz3 := Hid.u hi_cn20; have zz4 := Hid.u hi_cn75; have zz5 := Hid.u hq_c40; have zz6 := Hid.u hq_c92; have zz7 := Hid.u hq_cn20; have zz8 := Hid.u hq_cn75; omega))) (by (first | omega | (have zz0 := Hid.u hi_c40; have zz1 := Hid.u hi_c92; have zz2 := Hid.u hi_cn; have zz3 := Hid.u hi_cn20; have zz4 := Hid.u hi_cn75; have zz5 := Hid.u hq_c40; have zz6 := Hid.u hq_c92; have zz7 := Hid.u hq_cn20; have zz8 := Hid.u hq_cn75; omega))) (by (first | omega | (have zz0 := Hid.u hi_c40; have zz1 := Hid.u hi_c92; have zz2 := Hid.u hi_cn; have zz3 := Hid.u hi_cn20; have zz4 := Hid.u hi_cn75; have zz5 := Hid.u hq_c40; have zz6 := Hid.u hq_c92; have zz7 := Hid.u hq_cn20; have zz8 := Hid.u hq_cn75; omega))) (h_75d (by decide)) (by (first | omega | (have zz0 := Hid.u hi_c40; have zz1 := Hid.u hi_c92; have zz2 := Hid.u hi_cn; have zz3 := Hid.u hi_cn20; have zz4 := Hid.u hi_cn75; have zz5 := Hid.u hq_c40; have zz6 := Hid.u hq_c92; have zz7 := Hid.u hq_cn20; have zz8 := Hid.u hq_cn75; omega)))).seg' (by (first | omega | (have zz0 := Hid.u hi_c40; have zz1 := Hid.u hi_c92; have zz2 := Hid.u hi_cn; have zz3 := Hid.u hi_cn20; have zz4 := Hid.u hi_cn75; have zz5 := Hid.u hq_c40; have zz6 := Hid.u hq_c92; have zz7 := Hid.u hq_cn20; have zz8 := Hid.u hq_cn75; omega))), (by show cn 23 ≤ cn75 23; (first | omega | (have zz0 := Hid.u hi_c40; have zz1 := Hid.u hi_c92; have zz2 := Hid.u hi_cn; have zz3 := Hid.u hi_cn20; have zz4 := Hid.u hi_cn75; have zz5 := Hid.u hq_c40; have zz6 := Hid.u hq_c92; have zz7 := Hid.u hq_cn20; have zz8 := Hid.u hq_cn75; omega))), (by show cn75 23 ≤ cn75 19 + 1; (first | omega | (have zz0 := Hid.u hi_c40; have zz1 := Hid.u hi_c92; have zz2 := Hid.u hi_cn; have zz3 := Hid.u hi_cn20; have zz4 := Hid.u hi_cn75; have zz5 := Hid.u hq_c40; have zz6 := Hid.u hq_c92; have zz7 := Hid.u hq_cn20; have zz8 := Hid.u hq_cn75; omega))), ⟨by show cn 19 ≤ cn75 19 + 1; (first | omega | (have zz0 := Hid.u hi_c40; have zz1 := Hid.u hi_c92; have zz2 := Hid.u hi_cn; have zz3 := Hid.u hi_cn20; have zz4 := Hid.u hi_cn75; have zz5 := Hid.u hq_c40; have zz6 := Hid.u hq_c92; have zz7 := Hid.u hq_cn20; have zz8 := Hid.u hq_cn75; omega)), by show cn75 19 + 1 ≤ cn 20; (first | omega | (have zz0 := Hid.u hi_c40; have zz1 := Hid.u hi_c92; have zz2 := Hid.u hi_cn; have zz3 := Hid.u hi_cn20; have zz4 := Hid.u hi_cn75; have zz5 := Hid.u hq_c40; have zz6 := Hid.u hq_c92; have zz7 := Hid.u hq_cn20; have zz8 := Hid.u hq_cn75; omega))⟩, (fun k hk => (h_75c k hk).trans (hx92_2 k hk))⟩)⟩, by rw [ht]; exact hP, hD⟩, hS.F ht⟩) hS.2.2 (oc_172 144 (aq_22 shX12_readsCondition_122))
                exact lp_92 _  cn20 In20 Fn20 _ _ (Nat.lt_succ_self _) ⟨(Fr.mo hf20 (sbl rfl) (sbl rfl) (sbl rfl)), hIn20, kh_20a, kh_20b, (fun k hk => (kh_20c k hk).trans (hx40_2 k hk)), (by (first | omega | (have zz0 := Hid.u hi_c40; have zz1 := Hid.u hi_cn; have zz2 := Hid.u hi_cn20; have zz3 := Hid.u hq_c40; have zz4 := Hid.u hq_cn20; omega)))⟩ hP hD hS ls (lv_sub hl [0] rfl)
            ·
              have tc_18 : (r_16.toInt : Int) = 40 := congrArg Int32.toInt c_18
              refine lv_aload_n hx hb (oc_42 58 (aq_9 shX12_readsCondition_49)) rfl (lvA0 hl) ?_
              refine lv_aload_n hx hb (oc_42 59 (aq_10 shX12_readsCondition_49)) rfl (lvA0 hl) ?_
              refine vp_callSi (runV_ra (As := []) (rest := [.ref (g 100)]) S (q_here l D cI cB cZ g c40 I40 F40  hI40 (by (first | omega | (have zz0 := Hid.u hi_c40; have zz1 := Hid.u hi_cn; have zz2 := Hid.u hq_c40; omega))) (by (first | omega | (have zz0 := Hid.u hi_c40; have zz1 := Hid.u hi_cn; have zz2 := Hid.u hq_c40; omega)))) kV_RX12_239 hK hP 0 rfl rfl rfl ⟨Nat.le_of_ble_eq_true rfl, Nat.le_of_ble_eq_true rfl⟩ ⟨Nat.le_of_ble_eq_true rfl, Nat.le_of_ble_eq_true rfl⟩ rfl hl.1 rfl (Nat.le_of_ble_eq_true rfl) (oc_182 60 (aq_11 shX12_readsCondition_49) uw_0_239)) (fun r_81 h_82 => ?_)
              refine lv_bipush (v := 33) hx hb (oc_16 63 (aq_14 shX12_readsCondition_49) sgb_33) kbc_33 ?_
              refine lv_icmp_ne (tgt := 73) hx hb (oc_160 65 (aq_16 shX12_readsCondition_49) sgw_0_8) rfl (fun c_83 => ?_) (fun c_83 => ?_)
              ·
                have tc_83 : (r_81.toInt : Int) ≠ 33 := fun q => c_83 (Int32.toInt_inj.mp q)
                refine lv_bipush (v := 13) hx hb (oc_16 73 shX12_readsCondition_73 sgb_13) kbc_13 ?_
                have hFc := free_all hD hS hA
                refine va_calli (runV_a (As := [.int 13]) (rest := []) S (q_opens l D cI cB cZ g c40 I40 F40 13 H.size hI40 (by (first | omega | (have zz0 := Hid.u hi_c40; have zz1 := Hid.u hi_cn; have zz2 := Hid.u hq_c40; omega)))) kV_RX12_274 hK hP hD 0 rfl rfl rfl ⟨Nat.le_of_ble_eq_true rfl, Nat.le_of_ble_eq_true rfl⟩ ⟨Nat.le_of_ble_eq_true rfl, Nat.le_of_ble_eq_true rfl⟩ rfl hl.1 rfl (Nat.le_of_ble_eq_true rfl) dX12_readsCondition_75) hS (fun q _ h => hFc q h) hFc (fun r_84 u t H1 locs ht hvm wh_85 hB hz1 hk1 hS => ?_)
                obtain ⟨cn85, In85, Fn85⟩ := u
                obtain ⟨hP1, hD1⟩ := hB
                rw [ht] at hP1
                have vh_85 : (fun r c2 I2 F2 => (∀ k : Nat, k ∉ [21, 22] → I2 k = I40 k) ∧ ((r = 0 ∧ (True) ∧ c40 = c2 ∧ F40 = F2) ∨ (r = 1 ∧ (True) ∧ (va_up (va_up c40 24 ((c40 24) + 1)) 19 ((c40 19) + 1)) = c2 ∧ (va_up F40 28 (upd ((F40 28)) ((c40 24)) (nI (13 * 1048576)))) = F2))) r_84 cn85 In85 Fn85 := wh_85
                obtain ⟨hI85_, vh_85⟩ := vh_85
                rcases vh_85 with ⟨rfl, h_85, rfl, rfl⟩ | ⟨rfl, h_85, rfl, rfl⟩
                ·
                  have hf85 : Fr [19, 23, 24, 26] [21, 22] [27, 28] cn In Fn c40 In85 F40 := Fr.mo (Fr.tr hfr40 (show Fr [] [21, 22] [] c40 I40 F40 c40 In85 F40 from ⟨fun _ _ => rfl, hI85_, fun _ _ => rfl⟩)) (sbl rfl) (sbl rfl) (sbl rfl)
                  have hP : va_P D vwCl (wM cI cB cZ g c40 In85 F40) H1 := hP1
                  have hD : va_D A (wM cI cB cZ g c40 In85 F40) := hD1.weaken (fun _ _ _ h => hFc _ h)
                  generalize H1 = H at hP hS ⊢
                  refine lv_if_ne (tgt := 40) hx hb dX12_readsCondition_78 rfl (fun h => absurd h cq_eq_0_0) (fun _ => ?_)
                  refine lv_iconst (v := 0) hx hb dX12_readsCondition_81 kic_0 ?_
                  exact W.zret (v := 0) hx hb hr rfl (fun t ht hW => ⟨⟨0, (c40, In85, F40), rfl, ⟨(Fr.mo hf85 (sbl rfl) (sbl rfl) (sbl rfl)), hI40, (by show 0 = 0 ∨ (0 = 1 ∧ SegOK (F40 27) 0 (cn 23) (c40 23) ∧ cn 23 ≤ c40 23 ∧ c40 23 ≤ c40 19 ∧ (cn 19 ≤ c40 19 ∧ c40 19 ≤ cn 20) ∧ (∀ k : Nat, k < cn 23 → F40 27 k = Fn 27 k)); exact Or.inl rfl)⟩, by rw [ht]; exact hP, hD⟩, hS.F ht⟩) hS.2.2 dX12_readsCondition_82
                ·
                  have hf85 : Fr [19, 23, 24, 26] [21, 22] [27, 28] cn In Fn c40 In85 F40 := Fr.mo (Fr.tr hfr40 (show Fr [] [21, 22] [] c40 I40 F40 c40 In85 F40 from ⟨fun _ _ => rfl, hI85_, fun _ _ => rfl⟩)) (sbl rfl) (sbl rfl) (sbl rfl)
                  have hP : va_P D vwCl (wM cI cB cZ g (va_up (va_up c40 24 ((c40 24) + 1)) 19 ((c40 19) + 1)) In85 (va_up F40 28 (upd ((F40 28)) ((c40 24)) (nI (13 * 1048576))))) H1 := hP1
                  have hD : va_D A (wM cI cB cZ g (va_up (va_up c40 24 ((c40 24) + 1)) 19 ((c40 19) + 1)) In85 (va_up F40 28 (upd ((F40 28)) ((c40 24)) (nI (13 * 1048576))))) := hD1.weaken (fun _ _ _ h => hFc _ h)
                  generalize H1 = H at hP hS ⊢
                  refine lv_if_ne (tgt := 40) hx hb dX12_readsCondition_78 rfl (fun _ => ?_) (fun h => absurd h cq_eq_1_0)
                  exact ih40  (va_up (va_up c40 24 ((c40 24) + 1)) 19 ((c40 19) + 1)) In85 (va_up F40 28 (upd ((F40 28)) ((c40 24)) (nI (13 * 1048576)))) _ _ (show cn 20 - ((c40 19) + 1) < n40 by (first | omega | (have zz0 := Hid.u hi_c40; have zz1 := Hid.u hi_cn; have zz2 := Hid.u hq_c40; omega))) ⟨(Fr.mo (Fr.f 28 (Fr.c 19 (Fr.c 24 hf85))) (sbl rfl) (sbl rfl) (sbl rfl)), (IM.fr (In := In85) hI40 (Fr.f 28 (Fr.c 19 (Fr.c 24 Fr.rf))) (by decide) (by decide)), (by have q := PBk.push (k := 13) (s' := 0) hx40_0 (by (first | omega | (have zz0 := Hid.u hi_c40; have zz1 := Hid.u hi_cn; have zz2 := Hid.u hq_c40; omega))) (by decide) (by decide) (by decide) (by decide); exact q), (by have q := CK.push (k := 13) hx40_1 (by decide) (by decide); exact q), hx40_2, (by show cn 19 ≤ c40 19 + 1; (first | omega | (have zz0 := Hid.u hi_c40; have zz1 := Hid.u hi_cn; have zz2 := Hid.u hq_c40; omega)))⟩ hP hD hS ls (lv_sub hl [0] rfl)
              ·
                have tc_83 : (r_81.toInt : Int) = 33 := congrArg Int32.toInt c_83
                refine lv_bipush (v := 10) hx hb (oc_16 68 (aq_19 shX12_readsCondition_49) sgb_10) kbc_10 ?_
                refine lv_goto (tgt := 75) hx hb (oc_167 70 (aq_21 shX12_readsCondition_49) sgw_0_5) rfl ?_
                have hFc := free_all hD hS hA
                refine va_calli (runV_a (As := [.int 10]) (rest := []) S (q_opens l D cI cB cZ g c40 I40 F40 10 H.size hI40 (by (first | omega | (have zz0 := Hid.u hi_c40; have zz1 := Hid.u hi_cn; have zz2 := Hid.u hq_c40; omega)))) kV_RX12_274 hK hP hD 0 rfl rfl rfl ⟨Nat.le_of_ble_eq_true rfl, Nat.le_of_ble_eq_true rfl⟩ ⟨Nat.le_of_ble_eq_true rfl, Nat.le_of_ble_eq_true rfl⟩ rfl hl.1 rfl (Nat.le_of_ble_eq_true rfl) dX12_readsCondition_75) hS (fun q _ h => hFc q h) hFc (fun r_86 u t H1 locs ht hvm wh_87 hB hz1 hk1 hS => ?_)
                obtain ⟨cn87, In87, Fn87⟩ := u
                obtain ⟨hP1, hD1⟩ := hB
                rw [ht] at hP1
                have vh_87 : (fun r c2 I2 F2 => (∀ k : Nat, k ∉ [21, 22] → I2 k = I40 k) ∧ ((r = 0 ∧ (True) ∧ c40 = c2 ∧ F40 = F2) ∨ (r = 1 ∧ (True) ∧ (va_up (va_up c40 24 ((c40 24) + 1)) 19 ((c40 19) + 1)) = c2 ∧ (va_up F40 28 (upd ((F40 28)) ((c40 24)) (nI (10 * 1048576)))) = F2))) r_86 cn87 In87 Fn87 := wh_87
                obtain ⟨hI87_, vh_87⟩ := vh_87
                rcases vh_87 with ⟨rfl, h_87, rfl, rfl⟩ | ⟨rfl, h_87, rfl, rfl⟩
                ·
                  have hf87 : Fr [19, 23, 24, 26] [21, 22] [27, 28] cn In Fn c40 In87 F40 := Fr.mo (Fr.tr hfr40 (show Fr [] [21, 22] [] c40 I40 F40 c40 In87 F40 from ⟨fun _ _ => rfl, hI87_, fun _ _ => rfl⟩)) (sbl rfl) (sbl rfl) (sbl rfl)
                  have hP : va_P D vwCl (wM cI cB cZ g c40 In87 F40) H1 := hP1
                  have hD : va_D A (wM cI cB cZ g c40 In87 F40) := hD1.weaken (fun _ _ _ h => hFc _ h)
                  generalize H1 = H at hP hS ⊢
                  refine lv_if_ne (tgt := 40) hx hb dX12_readsCondition_78 rfl (fun h => absurd h cq_eq_0_0) (fun _ => ?_)
                  refine lv_iconst (v := 0) hx hb dX12_readsCondition_81 kic_0 ?_
                  exact W.zret (v := 0) hx hb hr rfl (fun t ht hW => ⟨⟨0, (c40, In87, F40), rfl, ⟨(Fr.mo hf87 (sbl rfl) (sbl rfl) (sbl rfl)), hI40, (by show 0 = 0 ∨ (0 = 1 ∧ SegOK (F40 27) 0 (cn 23) (c40 23) ∧ cn 23 ≤ c40 23 ∧ c40 23 ≤ c40 19 ∧ (cn 19 ≤ c40 19 ∧ c40 19 ≤ cn 20) ∧ (∀ k : Nat, k < cn 23 → F40 27 k = Fn 27 k)); exact Or.inl rfl)⟩, by rw [ht]; exact hP, hD⟩, hS.F ht⟩) hS.2.2 dX12_readsCondition_82
                ·
                  have hf87 : Fr [19, 23, 24, 26] [21, 22] [27, 28] cn In Fn c40 In87 F40 := Fr.mo (Fr.tr hfr40 (show Fr [] [21, 22] [] c40 I40 F40 c40 In87 F40 from ⟨fun _ _ => rfl, hI87_, fun _ _ => rfl⟩)) (sbl rfl) (sbl rfl) (sbl rfl)
                  have hP : va_P D vwCl (wM cI cB cZ g (va_up (va_up c40 24 ((c40 24) + 1)) 19 ((c40 19) + 1)) In87 (va_up F40 28 (upd ((F40 28)) ((c40 24)) (nI (10 * 1048576))))) H1 := hP1
                  have hD : va_D A (wM cI cB cZ g (va_up (va_up c40 24 ((c40 24) + 1)) 19 ((c40 19) + 1)) In87 (va_up F40 28 (upd ((F40 28)) ((c40 24)) (nI (10 * 1048576))))) := hD1.weaken (fun _ _ _ h => hFc _ h)
                  generalize H1 = H at hP hS ⊢
                  refine lv_if_ne (tgt := 40) hx hb dX12_readsCondition_78 rfl (fun _ => ?_) (fun h => absurd h cq_eq_1_0)
                  exact ih40  (va_up (va_up c40 24 ((c40 24) + 1)) 19 ((c40 19) + 1)) In87 (va_up F40 28 (upd ((F40 28)) ((c40 24)) (nI (10 * 1048576)))) _ _ (show cn 20 - ((c40 19) + 1) < n40 by (first | omega | (have zz0 := Hid.u hi_c40; have zz1 := Hid.u hi_cn; have zz2 := Hid.u hq_c40; omega))) ⟨(Fr.mo (Fr.f 28 (Fr.c 19 (Fr.c 24 hf87))) (sbl rfl) (sbl rfl) (sbl rfl)), (IM.fr (In := In87) hI40 (Fr.f 28 (Fr.c 19 (Fr.c 24 Fr.rf))) (by decide) (by decide)), (by have q := PBk.push (k := 10) (s' := 0) hx40_0 (by (first | omega | (have zz0 := Hid.u hi_c40; have zz1 := Hid.u hi_cn; have zz2 := Hid.u hq_c40; omega))) (by decide) (by decide) (by decide) (by decide); exact q), (by have q := CK.push (k := 10) hx40_1 (by decide) (by decide); exact q), hx40_2, (by show cn 19 ≤ c40 19 + 1; (first | omega | (have zz0 := Hid.u hi_c40; have zz1 := Hid.u hi_cn; have zz2 := Hid.u hq_c40; omega)))⟩ hP hD hS ls (lv_sub hl [0] rfl)
      exact lp_40 _  (va_up (va_up (va_up cn 24 0) 24 (0 + 1)) 19 ((cn 19) + 1)) In5 (va_up Fn 28 (upd ((Fn 28)) (0) (nI (13 * 1048576)))) _ _ (Nat.lt_succ_self _) ⟨(Fr.mo (Fr.f 28 (Fr.c 19 (Fr.c 24 (Fr.c 24 hf5)))) (sbl rfl) (sbl rfl) (sbl rfl)), (IM.fr (In := In5) hI (Fr.f 28 (Fr.c 19 (Fr.c 24 (Fr.c 24 Fr.rf)))) (by decide) (by decide)), (by have q := PBk.push (k := 13) (s' := 0) (PBk.new (W := Fn 28) (C := Fn 27) (s := 0) hp hn h23) (by (first | omega | (have zz0 := Hid.u hi_cn; omega))) (by decide) (by decide) (by decide) (by decide); exact q), (by have q := CK.start (Fn 28); exact q), (fun k hk => rfl), (by show cn 19 ≤ cn 19 + 1; (first | omega | (have zz0 := Hid.u hi_cn; omega)))⟩ hP hD hS ls (lv_sub hl [0] rfl)
  ·
    have tc_3 : (r_1.toInt : Int) ≠ 40 := fun q => c_3 (Int32.toInt_inj.mp q)
    refine lv_aload_n hx hb (oc_42 9 (aq_9 shX12_readsCondition_0)) rfl (lvA0 hl) ?_
    refine lv_iconst (v := 1) hx hb (oc_4 10 (aq_10 shX12_readsCondition_0)) kic_1 ?_
    refine lv_aload_n hx hb (oc_42 11 (aq_11 shX12_readsCondition_0)) rfl (lvA0 hl) ?_
    refine gM_233 S hK hP (v := .int (nI (cn 19))) rfl (oc_180 12 (aq_12 shX12_readsCondition_0) uw_0_233) ?_
    have hFc := free_all hD hS hA
    refine va_calli (runV_a (As := [.int 1, .int (nI (cn 19))]) (rest := []) S (q_wrong l D cI cB cZ g cn In Fn 1 (nI (cn 19)) s.heap.size hI) kV_RX12_246 hK hP hD 0 rfl rfl rfl ⟨Nat.le_of_ble_eq_true rfl, Nat.le_of_ble_eq_true rfl⟩ ⟨Nat.le_of_ble_eq_true rfl, Nat.le_of_ble_eq_true rfl⟩ rfl hl.1 rfl (Nat.le_of_ble_eq_true rfl) (oc_182 15 (aq_15 shX12_readsCondition_0) uw_0_246)) hS (fun q _ h => hFc q h) hFc (fun r_88 u t H1 locs ht hvm wh_89 hB hz1 hk1 hS => ?_)
    obtain ⟨cn89, In89, Fn89⟩ := u
    obtain ⟨hP1, hD1⟩ := hB
    rw [ht] at hP1
    have vh_89 : (fun r c2 I2 F2 => (∀ k : Nat, k ∉ [21] → I2 k = In k) ∧ ((r = 0 ∧ (True) ∧ cn = c2 ∧ Fn = F2))) r_88 cn89 In89 Fn89 := wh_89
    obtain ⟨hI89_, vh_89⟩ := vh_89
    obtain ⟨rfl, h_89, rfl, rfl⟩ := vh_89
    have hf89 : Fr [19, 23, 24, 26] [21, 22] [27, 28] cn In Fn cn In89 Fn := Fr.mo (Fr.tr (Fr.rf (cn := cn) (In := In) (Fn := Fn)) (show Fr [] [21] [] cn In Fn cn In89 Fn from ⟨fun _ _ => rfl, hI89_, fun _ _ => rfl⟩)) (sbl rfl) (sbl rfl) (sbl rfl)
    have hP : va_P D vwCl (wM cI cB cZ g cn In89 Fn) H1 := hP1
    have hD : va_D A (wM cI cB cZ g cn In89 Fn) := hD1.weaken (fun _ _ _ h => hFc _ h)
    generalize H1 = H at hP hS ⊢
    exact W.zret (v := 0) hx hb hr rfl (fun t ht hW => ⟨⟨0, (cn, In89, Fn), rfl, ⟨(Fr.mo hf89 (sbl rfl) (sbl rfl) (sbl rfl)), hI, (by show 0 = 0 ∨ (0 = 1 ∧ SegOK (Fn 27) 0 (cn 23) (cn 23) ∧ cn 23 ≤ cn 23 ∧ cn 23 ≤ cn 19 ∧ (cn 19 ≤ cn 19 ∧ cn 19 ≤ cn 20) ∧ (∀ k : Nat, k < cn 23 → Fn 27 k = Fn 27 k)); exact Or.inl rfl)⟩, by rw [ht]; exact hP, hD⟩, hS.F ht⟩) hS.2.2 (oc_172 18 (aq_18 shX12_readsCondition_0))
set_option maxRecDepth 100000 in
set_option maxHeartbeats 4000000 in
theorem q_readsClause (l : Launch) (D : va_G) (cI cB cZ : ClassId) (g : Nat → Nat) (cn : Nat → Nat) (In : Nat → Int32) (Fn : Nat → Nat → Int32) (v0 : Int32) (sz : Nat) (hI : IM cn Fn) (hp : cn 19 ≤ cn 20) (hn : cn 20 ≤ 160) (h23 : cn 23 ≤ cn 19) (h25 : cn 25 ≤ 12) (hL : ALL (Fn 27) (cn 23) (cn 25) (Fn 29) (Fn 30) (Fn 31)) : Met l yX12_readsClause (CWS yX12_readsClause cX12_readsClause 2 (some .boolean)) (RM 7 0 0) (PBw [.ref (g 100), .int v0] D cI cB cZ (wM cI cB cZ g cn In Fn) sz) (va_Qi (fun (r : Int32) (u : (Nat → Nat) × (Nat → Int32) × (Nat → Nat → Int32)) => (fun r c2 I2 F2 => Fr [19, 23, 24, 25, 26] [21, 22] [27, 28, 29, 30, 31] cn In Fn c2 I2 F2 ∧ IM c2 F2 ∧ (r = 0 ∨ (r = 1 ∧ cn 19 < c2 19 ∧ c2 19 ≤ cn 20 ∧ c2 23 ≤ c2 19 ∧ c2 25 ≤ 12 ∧ ALL (F2 27) (c2 23) (c2 25) (F2 29) (F2 30) (F2 31)))) r u.1 u.2.1 u.2.2) (fun (u : (Nat → Nat) × (Nat → Int32) × (Nat → Nat → Int32)) (t : State) => va_P D vwCl (wM cI cB cZ g u.1 u.2.1 u.2.2) t.heap ∧ va_D (va_A (wM cI cB cZ g cn In Fn) sz) (wM cI cB cZ g u.1 u.2.1 u.2.2)) (va_A (wM cI cB cZ g cn In Fn) sz)) 0 0 (va_A (wM cI cB cZ g cn In Fn) sz) := by
  refine en_w (fun A => (va_Qi (fun (r : Int32) (u : (Nat → Nat) × (Nat → Int32) × (Nat → Nat → Int32)) => (fun (r : Int32) (c2 : Nat → Nat) (I2 : Nat → Int32) (F2 : Nat → Nat → Int32) => Fr [19, 23, 24, 25, 26] [21, 22] [27, 28, 29, 30, 31] cn In Fn c2 I2 F2 ∧ IM c2 F2 ∧ (r = 0 ∨ (r = 1 ∧ cn 19 < c2 19 ∧ c2 19 ≤ cn 20 ∧ c2 23 ≤ c2 19 ∧ c2 25 ≤ 12 ∧ ALL (F2 27) (c2 23) (c2 25) (F2 29) (F2 30) (F2 31)))) r u.1 u.2.1 u.2.2) (fun (u : (Nat → Nat) × (Nat → Int32) × (Nat → Nat → Int32)) (t : State) => va_P D vwCl (wM cI cB cZ g u.1 u.2.1 u.2.2) t.heap ∧ va_D A (wM cI cB cZ g u.1 u.2.1 u.2.2)) A)) rfl rfl pn_RX12 (Nat.le_of_ble_eq_true rfl) (fun p e s m below meth c A hx hb hml hown S hr hlocks hnm hA hP hK hD hS ls hl => ?_)
  have hl : lv_has ls 2 [(0, .ref (g 100)), (1, .int v0)] := hl
  have hi_cn : Hid (CB cn) := hI.b
  refine lv_aload_n hx hb (oc_42 0 shX12_readsClause_0) rfl (lvA0 hl) ?_
  refine vp_callSi (runV_ra (As := []) (rest := []) S (q_here l D cI cB cZ g cn In Fn  hI (by (first | omega | (have zz0 := Hid.u hi_cn; omega))) (by (first | omega | (have zz0 := Hid.u hi_cn; omega)))) kV_RX12_239 hK hP 0 rfl rfl rfl ⟨Nat.le_of_ble_eq_true rfl, Nat.le_of_ble_eq_true rfl⟩ ⟨Nat.le_of_ble_eq_true rfl, Nat.le_of_ble_eq_true rfl⟩ rfl hl.1 rfl (Nat.le_of_ble_eq_true rfl) (oc_182 1 (aq_1 shX12_readsClause_0) uw_0_239)) (fun r_1 h_2 => ?_)
  refine lv_iload_n hx hb (oc_27 4 (aq_4 shX12_readsClause_0)) rfl (lvA1 hl) ?_
  refine lv_if_eq (tgt := 13) hx hb (oc_153 5 (aq_5 shX12_readsClause_0) sgw_0_8) rfl (fun c_3 => ?_) (fun c_3 => ?_)
  ·
    have tc_3 : (v0.toInt : Int) = 0 := congrArg Int32.toInt c_3
    refine lv_bipush (v := 112) hx hb (oc_16 13 (aq_13 shX12_readsClause_0) sgb_112) kbc_112 ?_
    refine lv_icmp_eq (tgt := 28) hx hb (oc_159 15 (aq_15 shX12_readsClause_0) sgw_0_13) rfl (fun c_4 => ?_) (fun c_4 => ?_)
    ·
      have tc_4 : (r_1.toInt : Int) = 112 := congrArg Int32.toInt c_4
      refine lv_aload_n hx hb (oc_42 28 (aq_4 shX12_readsClause_24)) rfl (lvA0 hl) ?_
      refine gM_312 S hK hP (v := .int (nI (cn 25))) rfl (oc_180 29 (aq_5 shX12_readsClause_24) uw_1_56) ?_
      refine lv_bipush (v := 12) hx hb (oc_16 32 (aq_8 shX12_readsClause_24) sgb_12) kbc_12 ?_
      have : (nI (cn 25)).toInt = (((cn 25) : Nat) : Int) := nI_toInt (by (first | omega | (have zz0 := Hid.u hi_cn; omega)))
      refine lv_icmp_ne (tgt := 47) hx hb (oc_160 34 (aq_10 shX12_readsClause_24) sgw_0_13) rfl (fun c_5 => ?_) (fun c_5 => ?_)
      ·
        have tc_5 : ((nI (cn 25)).toInt : Int) ≠ 12 := fun q => c_5 (Int32.toInt_inj.mp q)
        refine lv_aload_n hx hb (oc_42 47 (aq_23 shX12_readsClause_24)) rfl (lvA0 hl) ?_
        refine lv_aload_n hx hb (oc_42 48 shX12_readsClause_48) rfl (lvA0 hl) ?_
        refine gM_233 S hK hP (v := .int (nI (cn 19))) rfl (oc_180 49 (aq_1 shX12_readsClause_48) uw_0_233) ?_
        refine lv_iconst (v := 1) hx hb (oc_4 52 (aq_4 shX12_readsClause_48)) kic_1 ?_
        refine lv_iadd hx hb (oc_96 53 (aq_5 shX12_readsClause_48)) ?_
        refine lv_topi (fun y_6 ey_6 => ?_)
        obtain rfl : y_6 = (nI ((cn 19) + 1)) := ey_6.trans (nI_add (cn 19) 1)
        refine pM_233 S hK hP hD hS (a := ((cn 19) + 1)) (cn2 := (va_up cn 19 ((cn 19) + 1))) rfl rfl (oc_181 54 (aq_6 shX12_readsClause_48) uw_0_233) (fun H locs hP hD hS => ?_)
        refine lv_aload_n hx hb (oc_42 57 (aq_9 shX12_readsClause_48)) rfl (lvA0 hl) ?_
        refine gM_62 S hK hP (v := .ref (g 29)) rfl (oc_180 58 (aq_10 shX12_readsClause_48) uw_0_62) ?_
        refine lv_aload_n hx hb (oc_42 61 (aq_13 shX12_readsClause_48)) rfl (lvA0 hl) ?_
        refine gM_312 S hK hP (v := .int (nI (cn 25))) rfl (oc_180 62 (aq_14 shX12_readsClause_48) uw_1_56) ?_
        refine lv_aload_n hx hb (oc_42 65 (aq_17 shX12_readsClause_48)) rfl (lvA0 hl) ?_
        refine gM_257 S hK hP (v := .int (nI (cn 23))) rfl (oc_180 66 (aq_18 shX12_readsClause_48) uw_1_1) ?_
        have kb_1 : (cn 25) < 12 := by (first | omega | (have zz0 := Hid.u hi_cn; omega))
        refine stM_29 hx hb hK hP hD hS (Fn2 := (va_up Fn 29 (upd (Fn 29) (cn 25) (nI (cn 23))))) (vp_in_nI kb_1 (ltb rfl)) (nI_clamp (Nat.lt_trans kb_1 (ltb rfl))) rfl (oc_79 69 (aq_21 shX12_readsClause_48)) (fun H locs hP hD hS => ?_)
        refine lv_aload_n hx hb (oc_42 70 (aq_22 shX12_readsClause_48)) rfl (lvA0 hl) ?_
        refine lv_iconst (v := 0) hx hb (oc_3 71 (aq_23 shX12_readsClause_48)) kic_0 ?_
        refine pM_261 S hK hP hD hS (In2 := (va_up In 22 0)) rfl (oc_181 72 shX12_readsClause_72 uw_1_5) (fun H locs hP hD hS => ?_)
        refine lv_aload_n hx hb (oc_42 75 (aq_3 shX12_readsClause_72)) rfl (lvA0 hl) ?_
        refine lv_iconst (v := 0) hx hb (oc_3 76 (aq_4 shX12_readsClause_72)) kic_0 ?_
        refine pM_264 S hK hP hD hS (a := 0) (cn2 := (va_up (va_up cn 19 ((cn 19) + 1)) 24 0)) rfl rfl (oc_181 77 (aq_5 shX12_readsClause_72) uw_1_8) (fun H locs hP hD hS => ?_)
        refine lv_iload_n hx hb (oc_27 80 (aq_8 shX12_readsClause_72)) rfl (lvA1 hl) ?_
        refine lv_if_ne (tgt := 93) hx hb (oc_154 81 (aq_9 shX12_readsClause_72) sgw_0_12) rfl (fun c_7 => False.elim (by have tc_7 : (v0.toInt : Int) ≠ 0 := fun q => c_7 (Int32.toInt_inj.mp q); (first | omega | (have zz0 := Hid.u hi_cn; omega)))) (fun c_7 => ?_)
        have tc_7 : (v0.toInt : Int) = 0 := congrArg Int32.toInt c_7
        refine lv_aload_n hx hb (oc_42 84 (aq_12 shX12_readsClause_72)) rfl (lvA0 hl) ?_
        have hFc := free_all hD hS hA
        refine va_calli (runV_a (As := []) (rest := []) S (q_readsSum l D cI cB cZ g (va_up (va_up cn 19 ((cn 19) + 1)) 24 0) (va_up In 22 0) (va_up Fn 29 (upd (Fn 29) (cn 25) (nI (cn 23)))) (cn 23) 0 0 H.size (IM.fr (In := In) hI (Fr.f 29 (Fr.c 24 (Fr.c 19 Fr.rf))) (by decide) (by decide)) (by have q := PBk.new (pl := cn 19 + 1) (ln := cn 20) (cm := cn 23) (s := 0) (C := Fn 27) (W := Fn 28) (by (first | omega | (have zz0 := Hid.u hi_cn; omega))) (by (first | omega | (have zz0 := Hid.u hi_cn; omega))) (by (first | omega | (have zz0 := Hid.u hi_cn; omega))); exact q) (fun h => absurd h (Nat.lt_irrefl 0))) kV_RX12_297 hK hP hD 0 rfl rfl rfl ⟨Nat.le_of_ble_eq_true rfl, Nat.le_of_ble_eq_true rfl⟩ ⟨Nat.le_of_ble_eq_true rfl, Nat.le_of_ble_eq_true rfl⟩ rfl hl.1 rfl (Nat.le_of_ble_eq_true rfl) (oc_182 85 (aq_13 shX12_readsClause_72) uw_1_41)) hS (fun q _ h => hFc q h) hFc (fun r_8 u t H1 locs ht hvm wh_9 hB hz1 hk1 hS => ?_)
        obtain ⟨cn9, In9, Fn9⟩ := u
        obtain ⟨hP1, hD1⟩ := hB
        rw [ht] at hP1
        have hP : va_P D vwCl (wM cI cB cZ g cn9 In9 Fn9) H1 := hP1
        have hD : va_D A (wM cI cB cZ g cn9 In9 Fn9) := hD1.weaken (fun _ _ _ h => hFc _ h)
        generalize H1 = H at hP hS ⊢
        have vh_9 : (fun r c2 I2 F2 => Fr [19, 23, 24, 26] [21, 22] [27, 28] (va_up (va_up cn 19 ((cn 19) + 1)) 24 0) (va_up In 22 0) (va_up Fn 29 (upd (Fn 29) (cn 25) (nI (cn 23)))) c2 I2 F2 ∧ IM c2 F2 ∧ (r = 0 ∨ (r = 1 ∧ PBk (c2 19) (c2 20) (c2 23) (c2 24) (F2 27) (F2 28) (cn 23) (0 + 1) 0 ∧ c2 24 = 0 ∧ (∀ k : Nat, k < (cn 23) → F2 27 k = (Fn 27) k) ∧ (∀ i : Nat, i < 0 → F2 28 i = (Fn 28) i) ∧ ((cn 19) + 1) < c2 19))) r_8 cn9 In9 Fn9 := wh_9
        obtain ⟨hfc9, hIn9, h_9⟩ := vh_9
        have hf9 : Fr [19, 23, 24, 25, 26] [21, 22] [27, 28, 29, 30, 31] cn In Fn cn9 In9 Fn9 := Fr.mo (Fr.tr (Fr.f 29 (Fr.i 22 (Fr.c 24 (Fr.c 19 (Fr.rf (cn := cn) (In := In) (Fn := Fn)))))) hfc9) (sbl rfl) (sbl rfl) (sbl rfl)
        have hi_cn9 : Hid (CB cn9) := hIn9.b
        have : cn9 20 = cn 20 := hf9.1 20 (nml rfl)
        have hq_cn9 := Hid.i (frq_19_23_24_25_26_0_1_2_46_57_58_62_63_75_83_44 hf9)
        have : cn9 20 = (cn 20) := hfc9.1 20 (nml rfl)
        have : cn9 25 = (cn 25) := hfc9.1 25 (nml rfl)
        rcases h_9 with rfl | ⟨rfl, kh_9⟩
        ·
          refine lv_if_ne (tgt := 93) hx hb dX12_readsClause_88 rfl (fun h => absurd h cq_eq_0_0) (fun _ => ?_)
          refine lv_iconst (v := 0) hx hb (oc_3 91 (aq_19 shX12_readsClause_72)) kic_0 ?_
          exact W.zret (v := 0) hx hb hr rfl (fun t ht hW => ⟨⟨0, (cn9, In9, Fn9), rfl, ⟨(Fr.mo hf9 (sbl rfl) (sbl rfl) (sbl rfl)), hIn9, (by show 0 = 0 ∨ (0 = 1 ∧ cn 19 < cn9 19 ∧ cn9 19 ≤ cn 20 ∧ cn9 23 ≤ cn9 19 ∧ cn9 25 ≤ 12 ∧ ALL (Fn9 27) (cn9 23) (cn9 25) (Fn9 29) (Fn9 30) (Fn9 31)); exact Or.inl rfl)⟩, by rw [ht]; exact hP, hD⟩, hS.F ht⟩) hS.2.2 (oc_172 92 (aq_20 shX12_readsClause_72))
        ·
          obtain ⟨kh_9a, kh_9e, kh_9b, kh_9c, kh_9d⟩ := kh_9
          have kh_9f := kh_9a.f
          refine lv_if_ne (tgt := 93) hx hb dX12_readsClause_88 rfl (fun _ => ?_) (fun h => absurd h cq_eq_1_0)
          have hseg1 : SegOK (Fn9 27) 0 (cn 23) (cn9 23) := PBk.seg' kh_9a kh_9e
          have e29a : Fn9 29 = upd (Fn 29) (cn 25) (nI (cn 23)) := hfc9.2.2 29 (nml rfl)
          have e30a : Fn9 30 = Fn 30 := hfc9.2.2 30 (nml rfl)
          have e31a : Fn9 31 = Fn 31 := hfc9.2.2 31 (nml rfl)
          have esaid : ∀ k : Nat, k < cn 23 → Fn9 27 k = Fn 27 k := kh_9b
          refine lv_aload_n hx hb (oc_42 93 (aq_21 shX12_readsClause_72)) rfl (lvA0 hl) ?_
          refine gM_65 S hK hP (v := .ref (g 30)) rfl (oc_180 94 (aq_22 shX12_readsClause_72) uw_0_65) ?_
          refine lv_aload_n hx hb (oc_42 97 shX12_readsClause_97) rfl (lvA0 hl) ?_
          refine gM_312 S hK hP (v := .int (nI (cn9 25))) rfl (oc_180 98 (aq_1 shX12_readsClause_97) uw_1_56) ?_
          refine lv_aload_n hx hb (oc_42 101 (aq_4 shX12_readsClause_97)) rfl (lvA0 hl) ?_
          refine gM_257 S hK hP (v := .int (nI (cn9 23))) rfl (oc_180 102 (aq_5 shX12_readsClause_97) uw_1_1) ?_
          have kb_2 : (cn9 25) < 12 := by (first | omega | (have zz0 := Hid.u hi_cn; have zz1 := Hid.u hi_cn9; have zz2 := Hid.u hq_cn9; omega))
          refine stM_30 hx hb hK hP hD hS (Fn2 := (va_up Fn9 30 (upd (Fn9 30) (cn9 25) (nI (cn9 23))))) (vp_in_nI kb_2 (ltb rfl)) (nI_clamp (Nat.lt_trans kb_2 (ltb rfl))) rfl (oc_79 105 (aq_8 shX12_readsClause_97)) (fun H locs hP hD hS => ?_)
          refine lv_aload_n hx hb (oc_42 106 (aq_9 shX12_readsClause_97)) rfl (lvA0 hl) ?_
          have hFc := free_all hD hS hA
          refine va_calli (runV_a (As := []) (rest := []) S (q_readsCondition l D cI cB cZ g cn9 In9 (va_up Fn9 30 (upd (Fn9 30) (cn9 25) (nI (cn9 23))))  H.size (IM.fr (In := In9) hIn9 (Fr.f 30 Fr.rf) (by decide) (by decide)) (by (first | omega | (have zz0 := Hid.u hi_cn; have zz1 := Hid.u hi_cn9; have zz2 := Hid.u hq_cn9; omega))) (by (first | omega | (have zz0 := Hid.u hi_cn; have zz1 := Hid.u hi_cn9; have zz2 := Hid.u hq_cn9; omega))) (by (first | omega | (have zz0 := Hid.u hi_cn; have zz1 := Hid.u hi_cn9; have zz2 := Hid.u hq_cn9; omega)))) kV_RX12_315 hK hP hD 0 rfl rfl rfl ⟨Nat.le_of_ble_eq_true rfl, Nat.le_of_ble_eq_true rfl⟩ ⟨Nat.le_of_ble_eq_true rfl, Nat.le_of_ble_eq_true rfl⟩ rfl hl.1 rfl (Nat.le_of_ble_eq_true rfl) (oc_182 107 (aq_10 shX12_readsClause_97) uw_1_59)) hS (fun q _ h => hFc q h) hFc (fun r_10 u t H1 locs ht hvm wh_11 hB hz1 hk1 hS => ?_)
          obtain ⟨cn11, In11, Fn11⟩ := u
          obtain ⟨hP1, hD1⟩ := hB
          rw [ht] at hP1
          have hP : va_P D vwCl (wM cI cB cZ g cn11 In11 Fn11) H1 := hP1
          have hD : va_D A (wM cI cB cZ g cn11 In11 Fn11) := hD1.weaken (fun _ _ _ h => hFc _ h)
          generalize H1 = H at hP hS ⊢
          have vh_11 : (fun r c2 I2 F2 => Fr [19, 23, 24, 26] [21, 22] [27, 28] cn9 In9 (va_up Fn9 30 (upd (Fn9 30) (cn9 25) (nI (cn9 23)))) c2 I2 F2 ∧ IM c2 F2 ∧ (r = 0 ∨ (r = 1 ∧ SegOK (F2 27) 0 ((cn9 23)) (c2 23) ∧ (cn9 23) ≤ c2 23 ∧ c2 23 ≤ c2 19 ∧ ((cn9 19) ≤ c2 19 ∧ c2 19 ≤ (cn9 20)) ∧ (∀ k : Nat, k < (cn9 23) → F2 27 k = (Fn9 27) k)))) r_10 cn11 In11 Fn11 := wh_11
          obtain ⟨hfc11, hIn11, h_11⟩ := vh_11
          have hf11 : Fr [19, 23, 24, 25, 26] [21, 22] [27, 28, 29, 30, 31] cn In Fn cn11 In11 Fn11 := Fr.mo (Fr.tr (Fr.f 30 hf9) hfc11) (sbl rfl) (sbl rfl) (sbl rfl)
          have hi_cn11 : Hid (CB cn11) := hIn11.b
          have : cn11 20 = cn 20 := hf11.1 20 (nml rfl)
          have hq_cn11 := Hid.i (frq_19_23_24_25_26_0_1_2_46_57_58_62_63_75_83_44 hf11)
          have : cn11 20 = (cn9 20) := hfc11.1 20 (nml rfl)
          have : cn11 25 = (cn9 25) := hfc11.1 25 (nml rfl)
          rcases h_11 with rfl | ⟨rfl, kh_11⟩
          ·
            refine lv_if_ne (tgt := 115) hx hb dX12_readsClause_110 rfl (fun h => absurd h cq_eq_0_0) (fun _ => ?_)
            refine lv_iconst (v := 0) hx hb (oc_3 113 (aq_16 shX12_readsClause_97)) kic_0 ?_
            exact W.zret (v := 0) hx hb hr rfl (fun t ht hW => ⟨⟨0, (cn11, In11, Fn11), rfl, ⟨(Fr.mo hf11 (sbl rfl) (sbl rfl) (sbl rfl)), hIn11, (by show 0 = 0 ∨ (0 = 1 ∧ cn 19 < cn11 19 ∧ cn11 19 ≤ cn 20 ∧ cn11 23 ≤ cn11 19 ∧ cn11 25 ≤ 12 ∧ ALL (Fn11 27) (cn11 23) (cn11 25) (Fn11 29) (Fn11 30) (Fn11 31)); exact Or.inl rfl)⟩, by rw [ht]; exact hP, hD⟩, hS.F ht⟩) hS.2.2 (oc_172 114 (aq_17 shX12_readsClause_97))
          ·
            obtain ⟨kh_11a, kh_11b, kh_11c, kh_11d, kh_11e⟩ := kh_11
            refine lv_if_ne (tgt := 115) hx hb dX12_readsClause_110 rfl (fun _ => ?_) (fun h => absurd h cq_eq_1_0)
            have e29 : Fn11 29 = upd (Fn 29) (cn 25) (nI (cn 23)) := (hfc11.2.2 29 (nml rfl)).trans e29a
            have e30 : Fn11 30 = upd (Fn 30) (cn 25) (nI (cn9 23)) := (hfc11.2.2 30 (nml rfl)).trans (by show upd (Fn9 30) (cn9 25) _ = _; rw [e30a, show cn9 25 = cn 25 by (first | omega | (have zz0 := Hid.u hi_cn; have zz1 := Hid.u hi_cn11; have zz2 := Hid.u hi_cn9; have zz3 := Hid.u hq_cn11; have zz4 := Hid.u hq_cn9; omega))])
            have e31 : Fn11 31 = Fn 31 := (hfc11.2.2 31 (nml rfl)).trans e31a
            have esd : ∀ k : Nat, k < cn 23 → Fn11 27 k = Fn 27 k := fun k hk => (kh_11e k (by (first | omega | (have zz0 := Hid.u hi_cn; have zz1 := Hid.u hi_cn11; have zz2 := Hid.u hi_cn9; have zz3 := Hid.u hq_cn11; have zz4 := Hid.u hq_cn9; omega)))).trans (esaid k hk)
            have hall : ALL (Fn11 27) (cn11 23) (cn11 25 + 1) (Fn11 29) (Fn11 30) (upd (Fn11 31) (cn11 25) (nI (cn11 23))) := by rw [e29, e30, e31, show cn11 25 = cn 25 by (first | omega | (have zz0 := Hid.u hi_cn; have zz1 := Hid.u hi_cn11; have zz2 := Hid.u hi_cn9; have zz3 := Hid.u hq_cn11; have zz4 := Hid.u hq_cn9; omega))]; exact ALL.add hL esd (by (first | omega | (have zz0 := Hid.u hi_cn; have zz1 := Hid.u hi_cn11; have zz2 := Hid.u hi_cn9; have zz3 := Hid.u hq_cn11; have zz4 := Hid.u hq_cn9; omega))) (by (first | omega | (have zz0 := Hid.u hi_cn; have zz1 := Hid.u hi_cn11; have zz2 := Hid.u hi_cn9; have zz3 := Hid.u hq_cn11; have zz4 := Hid.u hq_cn9; omega))) (SegOK.cg hseg1 (fun k hk => kh_11e k hk)) kh_11a
            refine lv_aload_n hx hb (oc_42 115 (aq_18 shX12_readsClause_97)) rfl (lvA0 hl) ?_
            refine gM_68 S hK hP (v := .ref (g 31)) rfl (oc_180 116 (aq_19 shX12_readsClause_97) uw_0_68) ?_
            refine lv_aload_n hx hb (oc_42 119 (aq_22 shX12_readsClause_97)) rfl (lvA0 hl) ?_
            refine gM_312 S hK hP (v := .int (nI (cn11 25))) rfl (oc_180 120 (aq_23 shX12_readsClause_97) uw_1_56) ?_
            refine lv_aload_n hx hb (oc_42 123 shX12_readsClause_123) rfl (lvA0 hl) ?_
            refine gM_257 S hK hP (v := .int (nI (cn11 23))) rfl (oc_180 124 (aq_1 shX12_readsClause_123) uw_1_1) ?_
            have kb_3 : (cn11 25) < 12 := by (first | omega | (have zz0 := Hid.u hi_cn; have zz1 := Hid.u hi_cn11; have zz2 := Hid.u hi_cn9; have zz3 := Hid.u hq_cn11; have zz4 := Hid.u hq_cn9; omega))
            refine stM_31 hx hb hK hP hD hS (Fn2 := (va_up Fn11 31 (upd (Fn11 31) (cn11 25) (nI (cn11 23))))) (vp_in_nI kb_3 (ltb rfl)) (nI_clamp (Nat.lt_trans kb_3 (ltb rfl))) rfl (oc_79 127 (aq_4 shX12_readsClause_123)) (fun H locs hP hD hS => ?_)
            refine lv_aload_n hx hb (oc_42 128 (aq_5 shX12_readsClause_123)) rfl (lvA0 hl) ?_
            refine lv_aload_n hx hb (oc_42 129 (aq_6 shX12_readsClause_123)) rfl (lvA0 hl) ?_
            refine gM_312 S hK hP (v := .int (nI (cn11 25))) rfl (oc_180 130 (aq_7 shX12_readsClause_123) uw_1_56) ?_
            refine lv_iconst (v := 1) hx hb (oc_4 133 (aq_10 shX12_readsClause_123)) kic_1 ?_
            refine lv_iadd hx hb (oc_96 134 (aq_11 shX12_readsClause_123)) ?_
            refine lv_topi (fun y_12 ey_12 => ?_)
            obtain rfl : y_12 = (nI ((cn11 25) + 1)) := ey_12.trans (nI_add (cn11 25) 1)
            refine pM_312 S hK hP hD hS (a := ((cn11 25) + 1)) (cn2 := (va_up cn11 25 ((cn11 25) + 1))) rfl rfl (oc_181 135 (aq_12 shX12_readsClause_123) uw_1_56) (fun H locs hP hD hS => ?_)
            refine lv_iconst (v := 1) hx hb (oc_4 138 (aq_15 shX12_readsClause_123)) kic_1 ?_
            exact W.zret (v := 1) hx hb hr rfl (fun t ht hW => ⟨⟨1, ((va_up cn11 25 ((cn11 25) + 1)), In11, (va_up Fn11 31 (upd (Fn11 31) (cn11 25) (nI (cn11 23))))), rfl, ⟨(Fr.mo (Fr.f 31 (Fr.c 25 hf11)) (sbl rfl) (sbl rfl) (sbl rfl)), (IM.fr (In := In11) hIn11 (Fr.f 31 (Fr.c 25 Fr.rf)) (by decide) (by decide)), (by show 1 = 0 ∨ (1 = 1 ∧ cn 19 < (va_up cn11 25 ((cn11 25) + 1)) 19 ∧ (va_up cn11 25 ((cn11 25) + 1)) 19 ≤ cn 20 ∧ (va_up cn11 25 ((cn11 25) + 1)) 23 ≤ (va_up cn11 25 ((cn11 25) + 1)) 19 ∧ (va_up cn11 25 ((cn11 25) + 1)) 25 ≤ 12 ∧ ALL ((va_up Fn11 31 (upd (Fn11 31) (cn11 25) (nI (cn11 23)))) 27) ((va_up cn11 25 ((cn11 25) + 1)) 23) ((va_up cn11 25 ((cn11 25) + 1)) 25) ((va_up Fn11 31 (upd (Fn11 31) (cn11 25) (nI (cn11 23)))) 29) ((va_up Fn11 31 (upd (Fn11 31) (cn11 25) (nI (cn11 23)))) 30) ((va_up Fn11 31 (upd (Fn11 31) (cn11 25) (nI (cn11 23)))) 31)); exact Or.inr ⟨rfl, (by show cn 19 < cn11 19; (first | omega | (have zz0 := Hid.u hi_cn; have zz1 := Hid.u hi_cn11; have zz2 := Hid.u hi_cn9; have zz3 := Hid.u hq_cn11; have zz4 := Hid.u hq_cn9; omega))), (by show cn11 19 ≤ cn 20; (first | omega | (have zz0 := Hid.u hi_cn; have zz1 := Hid.u hi_cn11; have zz2 := Hid.u hi_cn9; have zz3 := Hid.u hq_cn11; have zz4 := Hid.u hq_cn9; omega))), (by show cn11 23 ≤ cn11 19; (first | omega | (have zz0 := Hid.u hi_cn; have zz1 := Hid.u hi_cn11; have zz2 := Hid.u hi_cn9; have zz3 := Hid.u hq_cn11; have zz4 := Hid.u hq_cn9; omega))), (by show cn11 25 + 1 ≤ 12; (first | omega | (have zz0 := Hid.u hi_cn; have zz1 := Hid.u hi_cn11; have zz2 := Hid.u hi_cn9; have zz3 := Hid.u hq_cn11; have zz4 := Hid.u hq_cn9; omega))), hall⟩)⟩, by rw [ht]; exact hP, hD⟩, hS.F ht⟩) hS.2.2 (oc_172 139 (aq_16 shX12_readsClause_123))
      ·
        have tc_5 : ((nI (cn 25)).toInt : Int) = 12 := congrArg Int32.toInt c_5
        refine lv_aload_n hx hb (oc_42 37 (aq_13 shX12_readsClause_24)) rfl (lvA0 hl) ?_
        refine lv_iconst (v := 4) hx hb (oc_7 38 (aq_14 shX12_readsClause_24)) kic_4 ?_
        refine lv_aload_n hx hb (oc_42 39 (aq_15 shX12_readsClause_24)) rfl (lvA0 hl) ?_
        refine gM_233 S hK hP (v := .int (nI (cn 19))) rfl (oc_180 40 (aq_16 shX12_readsClause_24) uw_0_233) ?_
        have hFc := free_all hD hS hA
        refine va_calli (runV_a (As := [.int 4, .int (nI (cn 19))]) (rest := []) S (q_wrong l D cI cB cZ g cn In Fn 4 (nI (cn 19)) s.heap.size hI) kV_RX12_246 hK hP hD 0 rfl rfl rfl ⟨Nat.le_of_ble_eq_true rfl, Nat.le_of_ble_eq_true rfl⟩ ⟨Nat.le_of_ble_eq_true rfl, Nat.le_of_ble_eq_true rfl⟩ rfl hl.1 rfl (Nat.le_of_ble_eq_true rfl) (oc_182 43 (aq_19 shX12_readsClause_24) uw_0_246)) hS (fun q _ h => hFc q h) hFc (fun r_13 u t H1 locs ht hvm wh_14 hB hz1 hk1 hS => ?_)
        obtain ⟨cn14, In14, Fn14⟩ := u
        obtain ⟨hP1, hD1⟩ := hB
        rw [ht] at hP1
        have vh_14 : (fun r c2 I2 F2 => (∀ k : Nat, k ∉ [21] → I2 k = In k) ∧ ((r = 0 ∧ (True) ∧ cn = c2 ∧ Fn = F2))) r_13 cn14 In14 Fn14 := wh_14
        obtain ⟨hI14_, vh_14⟩ := vh_14
        obtain ⟨rfl, h_14, rfl, rfl⟩ := vh_14
        have hf14 : Fr [19, 23, 24, 25, 26] [21, 22] [27, 28, 29, 30, 31] cn In Fn cn In14 Fn := Fr.mo (Fr.tr (Fr.rf (cn := cn) (In := In) (Fn := Fn)) (show Fr [] [21] [] cn In Fn cn In14 Fn from ⟨fun _ _ => rfl, hI14_, fun _ _ => rfl⟩)) (sbl rfl) (sbl rfl) (sbl rfl)
        have hP : va_P D vwCl (wM cI cB cZ g cn In14 Fn) H1 := hP1
        have hD : va_D A (wM cI cB cZ g cn In14 Fn) := hD1.weaken (fun _ _ _ h => hFc _ h)
        generalize H1 = H at hP hS ⊢
        exact W.zret (v := 0) hx hb hr rfl (fun t ht hW => ⟨⟨0, (cn, In14, Fn), rfl, ⟨(Fr.mo hf14 (sbl rfl) (sbl rfl) (sbl rfl)), hI, (by show 0 = 0 ∨ (0 = 1 ∧ cn 19 < cn 19 ∧ cn 19 ≤ cn 20 ∧ cn 23 ≤ cn 19 ∧ cn 25 ≤ 12 ∧ ALL (Fn 27) (cn 23) (cn 25) (Fn 29) (Fn 30) (Fn 31)); exact Or.inl rfl)⟩, by rw [ht]; exact hP, hD⟩, hS.F ht⟩) hS.2.2 (oc_172 46 (aq_22 shX12_readsClause_24))
    ·
      have tc_4 : (r_1.toInt : Int) ≠ 112 := fun q => c_4 (Int32.toInt_inj.mp q)
      refine lv_aload_n hx hb (oc_42 18 (aq_18 shX12_readsClause_0)) rfl (lvA0 hl) ?_
      refine lv_iconst (v := 1) hx hb (oc_4 19 (aq_19 shX12_readsClause_0)) kic_1 ?_
      refine lv_aload_n hx hb (oc_42 20 (aq_20 shX12_readsClause_0)) rfl (lvA0 hl) ?_
      refine gM_233 S hK hP (v := .int (nI (cn 19))) rfl (oc_180 21 (aq_21 shX12_readsClause_0) uw_0_233) ?_
      have hFc := free_all hD hS hA
      refine va_calli (runV_a (As := [.int 1, .int (nI (cn 19))]) (rest := []) S (q_wrong l D cI cB cZ g cn In Fn 1 (nI (cn 19)) s.heap.size hI) kV_RX12_246 hK hP hD 0 rfl rfl rfl ⟨Nat.le_of_ble_eq_true rfl, Nat.le_of_ble_eq_true rfl⟩ ⟨Nat.le_of_ble_eq_true rfl, Nat.le_of_ble_eq_true rfl⟩ rfl hl.1 rfl (Nat.le_of_ble_eq_true rfl) (oc_182 24 shX12_readsClause_24 uw_0_246)) hS (fun q _ h => hFc q h) hFc (fun r_15 u t H1 locs ht hvm wh_16 hB hz1 hk1 hS => ?_)
      obtain ⟨cn16, In16, Fn16⟩ := u
      obtain ⟨hP1, hD1⟩ := hB
      rw [ht] at hP1
      have vh_16 : (fun r c2 I2 F2 => (∀ k : Nat, k ∉ [21] → I2 k = In k) ∧ ((r = 0 ∧ (True) ∧ cn = c2 ∧ Fn = F2))) r_15 cn16 In16 Fn16 := wh_16
      obtain ⟨hI16_, vh_16⟩ := vh_16
      obtain ⟨rfl, h_16, rfl, rfl⟩ := vh_16
      have hf16 : Fr [19, 23, 24, 25, 26] [21, 22] [27, 28, 29, 30, 31] cn In Fn cn In16 Fn := Fr.mo (Fr.tr (Fr.rf (cn := cn) (In := In) (Fn := Fn)) (show Fr [] [21] [] cn In Fn cn In16 Fn from ⟨fun _ _ => rfl, hI16_, fun _ _ => rfl⟩)) (sbl rfl) (sbl rfl) (sbl rfl)
      have hP : va_P D vwCl (wM cI cB cZ g cn In16 Fn) H1 := hP1
      have hD : va_D A (wM cI cB cZ g cn In16 Fn) := hD1.weaken (fun _ _ _ h => hFc _ h)
      generalize H1 = H at hP hS ⊢
      exact W.zret (v := 0) hx hb hr rfl (fun t ht hW => ⟨⟨0, (cn, In16, Fn), rfl, ⟨(Fr.mo hf16 (sbl rfl) (sbl rfl) (sbl rfl)), hI, (by show 0 = 0 ∨ (0 = 1 ∧ cn 19 < cn 19 ∧ cn 19 ≤ cn 20 ∧ cn 23 ≤ cn 19 ∧ cn 25 ≤ 12 ∧ ALL (Fn 27) (cn 23) (cn 25) (Fn 29) (Fn 30) (Fn 31)); exact Or.inl rfl)⟩, by rw [ht]; exact hP, hD⟩, hS.F ht⟩) hS.2.2 (oc_172 27 (aq_3 shX12_readsClause_24))
  ·
    have tc_3 : (v0.toInt : Int) ≠ 0 := fun q => c_3 (Int32.toInt_inj.mp q)
    refine lv_bipush (v := 108) hx hb (oc_16 8 (aq_8 shX12_readsClause_0) sgb_108) kbc_108 ?_
    refine lv_goto (tgt := 15) hx hb (oc_167 10 (aq_10 shX12_readsClause_0) sgw_0_5) rfl ?_
    refine lv_icmp_eq (tgt := 28) hx hb (oc_159 15 (aq_15 shX12_readsClause_0) sgw_0_13) rfl (fun c_17 => ?_) (fun c_17 => ?_)
    ·
      have tc_17 : (r_1.toInt : Int) = 108 := congrArg Int32.toInt c_17
      refine lv_aload_n hx hb (oc_42 28 (aq_4 shX12_readsClause_24)) rfl (lvA0 hl) ?_
      refine gM_312 S hK hP (v := .int (nI (cn 25))) rfl (oc_180 29 (aq_5 shX12_readsClause_24) uw_1_56) ?_
      refine lv_bipush (v := 12) hx hb (oc_16 32 (aq_8 shX12_readsClause_24) sgb_12) kbc_12 ?_
      have : (nI (cn 25)).toInt = (((cn 25) : Nat) : Int) := nI_toInt (by (first | omega | (have zz0 := Hid.u hi_cn; omega)))
      refine lv_icmp_ne (tgt := 47) hx hb (oc_160 34 (aq_10 shX12_readsClause_24) sgw_0_13) rfl (fun c_18 => ?_) (fun c_18 => ?_)
      ·
        have tc_18 : ((nI (cn 25)).toInt : Int) ≠ 12 := fun q => c_18 (Int32.toInt_inj.mp q)
        refine lv_aload_n hx hb (oc_42 47 (aq_23 shX12_readsClause_24)) rfl (lvA0 hl) ?_
        refine lv_aload_n hx hb (oc_42 48 shX12_readsClause_48) rfl (lvA0 hl) ?_
        refine gM_233 S hK hP (v := .int (nI (cn 19))) rfl (oc_180 49 (aq_1 shX12_readsClause_48) uw_0_233) ?_
        refine lv_iconst (v := 1) hx hb (oc_4 52 (aq_4 shX12_readsClause_48)) kic_1 ?_
        refine lv_iadd hx hb (oc_96 53 (aq_5 shX12_readsClause_48)) ?_
        refine lv_topi (fun y_19 ey_19 => ?_)
        obtain rfl : y_19 = (nI ((cn 19) + 1)) := ey_19.trans (nI_add (cn 19) 1)
        refine pM_233 S hK hP hD hS (a := ((cn 19) + 1)) (cn2 := (va_up cn 19 ((cn 19) + 1))) rfl rfl (oc_181 54 (aq_6 shX12_readsClause_48) uw_0_233) (fun H locs hP hD hS => ?_)
        refine lv_aload_n hx hb (oc_42 57 (aq_9 shX12_readsClause_48)) rfl (lvA0 hl) ?_
        refine gM_62 S hK hP (v := .ref (g 29)) rfl (oc_180 58 (aq_10 shX12_readsClause_48) uw_0_62) ?_
        refine lv_aload_n hx hb (oc_42 61 (aq_13 shX12_readsClause_48)) rfl (lvA0 hl) ?_
        refine gM_312 S hK hP (v := .int (nI (cn 25))) rfl (oc_180 62 (aq_14 shX12_readsClause_48) uw_1_56) ?_
        refine lv_aload_n hx hb (oc_42 65 (aq_17 shX12_readsClause_48)) rfl (lvA0 hl) ?_
        refine gM_257 S hK hP (v := .int (nI (cn 23))) rfl (oc_180 66 (aq_18 shX12_readsClause_48) uw_1_1) ?_
        have kb_4 : (cn 25) < 12 := by (first | omega | (have zz0 := Hid.u hi_cn; omega))
        refine stM_29 hx hb hK hP hD hS (Fn2 := (va_up Fn 29 (upd (Fn 29) (cn 25) (nI (cn 23))))) (vp_in_nI kb_4 (ltb rfl)) (nI_clamp (Nat.lt_trans kb_4 (ltb rfl))) rfl (oc_79 69 (aq_21 shX12_readsClause_48)) (fun H locs hP hD hS => ?_)
        refine lv_aload_n hx hb (oc_42 70 (aq_22 shX12_readsClause_48)) rfl (lvA0 hl) ?_
        refine lv_iconst (v := 0) hx hb (oc_3 71 (aq_23 shX12_readsClause_48)) kic_0 ?_
        refine pM_261 S hK hP hD hS (In2 := (va_up In 22 0)) rfl (oc_181 72 shX12_readsClause_72 uw_1_5) (fun H locs hP hD hS => ?_)
        refine lv_aload_n hx hb (oc_42 75 (aq_3 shX12_readsClause_72)) rfl (lvA0 hl) ?_
        refine lv_iconst (v := 0) hx hb (oc_3 76 (aq_4 shX12_readsClause_72)) kic_0 ?_
        refine pM_264 S hK hP hD hS (a := 0) (cn2 := (va_up (va_up cn 19 ((cn 19) + 1)) 24 0)) rfl rfl (oc_181 77 (aq_5 shX12_readsClause_72) uw_1_8) (fun H locs hP hD hS => ?_)
        refine lv_iload_n hx hb (oc_27 80 (aq_8 shX12_readsClause_72)) rfl (lvA1 hl) ?_
        refine lv_if_ne (tgt := 93) hx hb (oc_154 81 (aq_9 shX12_readsClause_72) sgw_0_12) rfl (fun c_20 => ?_) (fun c_20 => ?_)
        ·
          have tc_20 : (v0.toInt : Int) ≠ 0 := fun q => c_20 (Int32.toInt_inj.mp q)
          have hseg1 := SegOK.nil (Fn 27) (cn 23)
          refine lv_aload_n hx hb (oc_42 93 (aq_21 shX12_readsClause_72)) rfl (lvA0 hl) ?_
          refine gM_65 S hK hP (v := .ref (g 30)) rfl (oc_180 94 (aq_22 shX12_readsClause_72) uw_0_65) ?_
          refine lv_aload_n hx hb (oc_42 97 shX12_readsClause_97) rfl (lvA0 hl) ?_
          refine gM_312 S hK hP (v := .int (nI (cn 25))) rfl (oc_180 98 (aq_1 shX12_readsClause_97) uw_1_56) ?_
          refine lv_aload_n hx hb (oc_42 101 (aq_4 shX12_readsClause_97)) rfl (lvA0 hl) ?_
          refine gM_257 S hK hP (v := .int (nI (cn 23))) rfl (oc_180 102 (aq_5 shX12_readsClause_97) uw_1_1) ?_
          refine stM_30 hx hb hK hP hD hS (Fn2 := (va_up (va_up Fn 29 (upd (Fn 29) (cn 25) (nI (cn 23)))) 30 (upd (Fn 30) (cn 25) (nI (cn 23))))) (vp_in_nI kb_4 (ltb rfl)) (nI_clamp (Nat.lt_trans kb_4 (ltb rfl))) rfl (oc_79 105 (aq_8 shX12_readsClause_97)) (fun H locs hP hD hS => ?_)
          refine lv_aload_n hx hb (oc_42 106 (aq_9 shX12_readsClause_97)) rfl (lvA0 hl) ?_
          have hFc := free_all hD hS hA
          refine va_calli (runV_a (As := []) (rest := []) S (q_readsCondition l D cI cB cZ g (va_up (va_up cn 19 ((cn 19) + 1)) 24 0) (va_up In 22 0) (va_up (va_up Fn 29 (upd (Fn 29) (cn 25) (nI (cn 23)))) 30 (upd (Fn 30) (cn 25) (nI (cn 23))))  H.size (IM.fr (In := In) hI (Fr.f 30 (Fr.f 29 (Fr.c 24 (Fr.c 19 Fr.rf)))) (by decide) (by decide)) (show ((cn 19) + 1) ≤ (cn 20) by (first | omega | (have zz0 := Hid.u hi_cn; omega))) (show (cn 20) ≤ 160 by (first | omega | (have zz0 := Hid.u hi_cn; omega))) (show (cn 23) ≤ ((cn 19) + 1) by (first | omega | (have zz0 := Hid.u hi_cn; omega)))) kV_RX12_315 hK hP hD 0 rfl rfl rfl ⟨Nat.le_of_ble_eq_true rfl, Nat.le_of_ble_eq_true rfl⟩ ⟨Nat.le_of_ble_eq_true rfl, Nat.le_of_ble_eq_true rfl⟩ rfl hl.1 rfl (Nat.le_of_ble_eq_true rfl) (oc_182 107 (aq_10 shX12_readsClause_97) uw_1_59)) hS (fun q _ h => hFc q h) hFc (fun r_21 u t H1 locs ht hvm wh_22 hB hz1 hk1 hS => ?_)
          obtain ⟨cn22, In22, Fn22⟩ := u
          obtain ⟨hP1, hD1⟩ := hB
          rw [ht] at hP1
          have hP : va_P D vwCl (wM cI cB cZ g cn22 In22 Fn22) H1 := hP1
          have hD : va_D A (wM cI cB cZ g cn22 In22 Fn22) := hD1.weaken (fun _ _ _ h => hFc _ h)
          generalize H1 = H at hP hS ⊢
          have vh_22 : (fun r c2 I2 F2 => Fr [19, 23, 24, 26] [21, 22] [27, 28] (va_up (va_up cn 19 ((cn 19) + 1)) 24 0) (va_up In 22 0) (va_up (va_up Fn 29 (upd (Fn 29) (cn 25) (nI (cn 23)))) 30 (upd (Fn 30) (cn 25) (nI (cn 23)))) c2 I2 F2 ∧ IM c2 F2 ∧ (r = 0 ∨ (r = 1 ∧ SegOK (F2 27) 0 ((cn 23)) (c2 23) ∧ (cn 23) ≤ c2 23 ∧ c2 23 ≤ c2 19 ∧ (((cn 19) + 1) ≤ c2 19 ∧ c2 19 ≤ (cn 20)) ∧ (∀ k : Nat, k < (cn 23) → F2 27 k = (Fn 27) k)))) r_21 cn22 In22 Fn22 := wh_22
          obtain ⟨hfc22, hIn22, h_22⟩ := vh_22
          have hf22 : Fr [19, 23, 24, 25, 26] [21, 22] [27, 28, 29, 30, 31] cn In Fn cn22 In22 Fn22 := Fr.mo (Fr.tr (Fr.f 30 (Fr.f 29 (Fr.i 22 (Fr.c 24 (Fr.c 19 (Fr.rf (cn := cn) (In := In) (Fn := Fn))))))) hfc22) (sbl rfl) (sbl rfl) (sbl rfl)
          have hi_cn22 : Hid (CB cn22) := hIn22.b
          have : cn22 20 = cn 20 := hf22.1 20 (nml rfl)
          have hq_cn22 := Hid.i (frq_19_23_24_25_26_0_1_2_46_57_58_62_63_75_83_44 hf22)
          have : cn22 20 = (cn 20) := hfc22.1 20 (nml rfl)
          have : cn22 25 = (cn 25) := hfc22.1 25 (nml rfl)
          rcases h_22 with rfl | ⟨rfl, kh_22⟩
          ·
            refine lv_if_ne (tgt := 115) hx hb dX12_readsClause_110 rfl (fun h => absurd h cq_eq_0_0) (fun _ => ?_)
            refine lv_iconst (v := 0) hx hb (oc_3 113 (aq_16 shX12_readsClause_97)) kic_0 ?_
            exact W.zret (v := 0) hx hb hr rfl (fun t ht hW => ⟨⟨0, (cn22, In22, Fn22), rfl, ⟨(Fr.mo hf22 (sbl rfl) (sbl rfl) (sbl rfl)), hIn22, (by show 0 = 0 ∨ (0 = 1 ∧ cn 19 < cn22 19 ∧ cn22 19 ≤ cn 20 ∧ cn22 23 ≤ cn22 19 ∧ cn22 25 ≤ 12 ∧ ALL (Fn22 27) (cn22 23) (cn22 25) (Fn22 29) (Fn22 30) (Fn22 31)); exact Or.inl rfl)⟩, by rw [ht]; exact hP, hD⟩, hS.F ht⟩) hS.2.2 (oc_172 114 (aq_17 shX12_readsClause_97))
          ·
            obtain ⟨kh_22a, kh_22b, kh_22c, kh_22d, kh_22e⟩ := kh_22
            refine lv_if_ne (tgt := 115) hx hb dX12_readsClause_110 rfl (fun _ => ?_) (fun h => absurd h cq_eq_1_0)
            have e29 : Fn22 29 = upd (Fn 29) (cn 25) (nI (cn 23)) := hfc22.2.2 29 (nml rfl)
            have e30 : Fn22 30 = upd (Fn 30) (cn 25) (nI (cn 23)) := hfc22.2.2 30 (nml rfl)
            have e31 : Fn22 31 = Fn 31 := hfc22.2.2 31 (nml rfl)
            have esd : ∀ k : Nat, k < cn 23 → Fn22 27 k = Fn 27 k := kh_22e
            have hall : ALL (Fn22 27) (cn22 23) (cn22 25 + 1) (Fn22 29) (Fn22 30) (upd (Fn22 31) (cn22 25) (nI (cn22 23))) := by rw [e29, e30, e31, show cn22 25 = cn 25 by (first | omega | (have zz0 := Hid.u hi_cn; have zz1 := Hid.u hi_cn22; have zz2 := Hid.u hq_cn22; omega))]; exact ALL.add hL esd (by (first | omega | (have zz0 := Hid.u hi_cn; have zz1 := Hid.u hi_cn22; have zz2 := Hid.u hq_cn22; omega))) (by (first | omega | (have zz0 := Hid.u hi_cn; have zz1 := Hid.u hi_cn22; have zz2 := Hid.u hq_cn22; omega))) (SegOK.cg hseg1 (fun k hk => kh_22e k hk)) kh_22a
            refine lv_aload_n hx hb (oc_42 115 (aq_18 shX12_readsClause_97)) rfl (lvA0 hl) ?_
            refine gM_68 S hK hP (v := .ref (g 31)) rfl (oc_180 116 (aq_19 shX12_readsClause_97) uw_0_68) ?_
            refine lv_aload_n hx hb (oc_42 119 (aq_22 shX12_readsClause_97)) rfl (lvA0 hl) ?_
            refine gM_312 S hK hP (v := .int (nI (cn22 25))) rfl (oc_180 120 (aq_23 shX12_readsClause_97) uw_1_56) ?_
            refine lv_aload_n hx hb (oc_42 123 shX12_readsClause_123) rfl (lvA0 hl) ?_
            refine gM_257 S hK hP (v := .int (nI (cn22 23))) rfl (oc_180 124 (aq_1 shX12_readsClause_123) uw_1_1) ?_
            have kb_5 : (cn22 25) < 12 := by (first | omega | (have zz0 := Hid.u hi_cn; have zz1 := Hid.u hi_cn22; have zz2 := Hid.u hq_cn22; omega))
            refine stM_31 hx hb hK hP hD hS (Fn2 := (va_up Fn22 31 (upd (Fn22 31) (cn22 25) (nI (cn22 23))))) (vp_in_nI kb_5 (ltb rfl)) (nI_clamp (Nat.lt_trans kb_5 (ltb rfl))) rfl (oc_79 127 (aq_4 shX12_readsClause_123)) (fun H locs hP hD hS => ?_)
            refine lv_aload_n hx hb (oc_42 128 (aq_5 shX12_readsClause_123)) rfl (lvA0 hl) ?_
            refine lv_aload_n hx hb (oc_42 129 (aq_6 shX12_readsClause_123)) rfl (lvA0 hl) ?_
            refine gM_312 S hK hP (v := .int (nI (cn22 25))) rfl (oc_180 130 (aq_7 shX12_readsClause_123) uw_1_56) ?_
            refine lv_iconst (v := 1) hx hb (oc_4 133 (aq_10 shX12_readsClause_123)) kic_1 ?_
            refine lv_iadd hx hb (oc_96 134 (aq_11 shX12_readsClause_123)) ?_
            refine lv_topi (fun y_23 ey_23 => ?_)
            obtain rfl : y_23 = (nI ((cn22 25) + 1)) := ey_23.trans (nI_add (cn22 25) 1)
            refine pM_312 S hK hP hD hS (a := ((cn22 25) + 1)) (cn2 := (va_up cn22 25 ((cn22 25) + 1))) rfl rfl (oc_181 135 (aq_12 shX12_readsClause_123) uw_1_56) (fun H locs hP hD hS => ?_)
            refine lv_iconst (v := 1) hx hb (oc_4 138 (aq_15 shX12_readsClause_123)) kic_1 ?_
            exact W.zret (v := 1) hx hb hr rfl (fun t ht hW => ⟨⟨1, ((va_up cn22 25 ((cn22 25) + 1)), In22, (va_up Fn22 31 (upd (Fn22 31) (cn22 25) (nI (cn22 23))))), rfl, ⟨(Fr.mo (Fr.f 31 (Fr.c 25 hf22)) (sbl rfl) (sbl rfl) (sbl rfl)), (IM.fr (In := In22) hIn22 (Fr.f 31 (Fr.c 25 Fr.rf)) (by decide) (by decide)), (by show 1 = 0 ∨ (1 = 1 ∧ cn 19 < (va_up cn22 25 ((cn22 25) + 1)) 19 ∧ (va_up cn22 25 ((cn22 25) + 1)) 19 ≤ cn 20 ∧ (va_up cn22 25 ((cn22 25) + 1)) 23 ≤ (va_up cn22 25 ((cn22 25) + 1)) 19 ∧ (va_up cn22 25 ((cn22 25) + 1)) 25 ≤ 12 ∧ ALL ((va_up Fn22 31 (upd (Fn22 31) (cn22 25) (nI (cn22 23)))) 27) ((va_up cn22 25 ((cn22 25) + 1)) 23) ((va_up cn22 25 ((cn22 25) + 1)) 25) ((va_up Fn22 31 (upd (Fn22 31) (cn22 25) (nI (cn22 23)))) 29) ((va_up Fn22 31 (upd (Fn22 31) (cn22 25) (nI (cn22 23)))) 30) ((va_up Fn22 31 (upd (Fn22 31) (cn22 25) (nI (cn22 23)))) 31)); exact Or.inr ⟨rfl, (by show cn 19 < cn22 19; (first | omega | (have zz0 := Hid.u hi_cn; have zz1 := Hid.u hi_cn22; have zz2 := Hid.u hq_cn22; omega))), (by show cn22 19 ≤ cn 20; (first | omega | (have zz0 := Hid.u hi_cn; have zz1 := Hid.u hi_cn22; have zz2 := Hid.u hq_cn22; omega))), (by show cn22 23 ≤ cn22 19; (first | omega | (have zz0 := Hid.u hi_cn; have zz1 := Hid.u hi_cn22; have zz2 := Hid.u hq_cn22; omega))), (by show cn22 25 + 1 ≤ 12; (first | omega | (have zz0 := Hid.u hi_cn; have zz1 := Hid.u hi_cn22; have zz2 := Hid.u hq_cn22; omega))), hall⟩)⟩, by rw [ht]; exact hP, hD⟩, hS.F ht⟩) hS.2.2 (oc_172 139 (aq_16 shX12_readsClause_123))
        ·
          have tc_20 : (v0.toInt : Int) = 0 := congrArg Int32.toInt c_20
          refine lv_aload_n hx hb (oc_42 84 (aq_12 shX12_readsClause_72)) rfl (lvA0 hl) ?_
          have hFc := free_all hD hS hA
          refine va_calli (runV_a (As := []) (rest := []) S (q_readsSum l D cI cB cZ g (va_up (va_up cn 19 ((cn 19) + 1)) 24 0) (va_up In 22 0) (va_up Fn 29 (upd (Fn 29) (cn 25) (nI (cn 23)))) (cn 23) 0 0 H.size (IM.fr (In := In) hI (Fr.f 29 (Fr.c 24 (Fr.c 19 Fr.rf))) (by decide) (by decide)) (by have q := PBk.new (pl := cn 19 + 1) (ln := cn 20) (cm := cn 23) (s := 0) (C := Fn 27) (W := Fn 28) (by (first | omega | (have zz0 := Hid.u hi_cn; omega))) (by (first | omega | (have zz0 := Hid.u hi_cn; omega))) (by (first | omega | (have zz0 := Hid.u hi_cn; omega))); exact q) (fun h => absurd h (Nat.lt_irrefl 0))) kV_RX12_297 hK hP hD 0 rfl rfl rfl ⟨Nat.le_of_ble_eq_true rfl, Nat.le_of_ble_eq_true rfl⟩ ⟨Nat.le_of_ble_eq_true rfl, Nat.le_of_ble_eq_true rfl⟩ rfl hl.1 rfl (Nat.le_of_ble_eq_true rfl) (oc_182 85 (aq_13 shX12_readsClause_72) uw_1_41)) hS (fun q _ h => hFc q h) hFc (fun r_24 u t H1 locs ht hvm wh_25 hB hz1 hk1 hS => ?_)
          obtain ⟨cn25, In25, Fn25⟩ := u
          obtain ⟨hP1, hD1⟩ := hB
          rw [ht] at hP1
          have hP : va_P D vwCl (wM cI cB cZ g cn25 In25 Fn25) H1 := hP1
          have hD : va_D A (wM cI cB cZ g cn25 In25 Fn25) := hD1.weaken (fun _ _ _ h => hFc _ h)
          generalize H1 = H at hP hS ⊢
          have vh_25 : (fun r c2 I2 F2 => Fr [19, 23, 24, 26] [21, 22] [27, 28] (va_up (va_up cn 19 ((cn 19) + 1)) 24 0) (va_up In 22 0) (va_up Fn 29 (upd (Fn 29) (cn 25) (nI (cn 23)))) c2 I2 F2 ∧ IM c2 F2 ∧ (r = 0 ∨ (r = 1 ∧ PBk (c2 19) (c2 20) (c2 23) (c2 24) (F2 27) (F2 28) (cn 23) (0 + 1) 0 ∧ c2 24 = 0 ∧ (∀ k : Nat, k < (cn 23) → F2 27 k = (Fn 27) k) ∧ (∀ i : Nat, i < 0 → F2 28 i = (Fn 28) i) ∧ ((cn 19) + 1) < c2 19))) r_24 cn25 In25 Fn25 := wh_25
          obtain ⟨hfc25, hIn25, h_25⟩ := vh_25
          have hf25 : Fr [19, 23, 24, 25, 26] [21, 22] [27, 28, 29, 30, 31] cn In Fn cn25 In25 Fn25 := Fr.mo (Fr.tr (Fr.f 29 (Fr.i 22 (Fr.c 24 (Fr.c 19 (Fr.rf (cn := cn) (In := In) (Fn := Fn)))))) hfc25) (sbl rfl) (sbl rfl) (sbl rfl)
          have hi_cn25 : Hid (CB cn25) := hIn25.b
          have : cn25 20 = cn 20 := hf25.1 20 (nml rfl)
          have hq_cn25 := Hid.i (frq_19_23_24_25_26_0_1_2_46_57_58_62_63_75_83_44 hf25)
          have : cn25 20 = (cn 20) := hfc25.1 20 (nml rfl)
          have : cn25 25 = (cn 25) := hfc25.1 25 (nml rfl)
          rcases h_25 with rfl | ⟨rfl, kh_25⟩
          ·
            refine lv_if_ne (tgt := 93) hx hb dX12_readsClause_88 rfl (fun h => absurd h cq_eq_0_0) (fun _ => ?_)
            refine lv_iconst (v := 0) hx hb (oc_3 91 (aq_19 shX12_readsClause_72)) kic_0 ?_
            exact W.zret (v := 0) hx hb hr rfl (fun t ht hW => ⟨⟨0, (cn25, In25, Fn25), rfl, ⟨(Fr.mo hf25 (sbl rfl) (sbl rfl) (sbl rfl)), hIn25, (by show 0 = 0 ∨ (0 = 1 ∧ cn 19 < cn25 19 ∧ cn25 19 ≤ cn 20 ∧ cn25 23 ≤ cn25 19 ∧ cn25 25 ≤ 12 ∧ ALL (Fn25 27) (cn25 23) (cn25 25) (Fn25 29) (Fn25 30) (Fn25 31)); exact Or.inl rfl)⟩, by rw [ht]; exact hP, hD⟩, hS.F ht⟩) hS.2.2 (oc_172 92 (aq_20 shX12_readsClause_72))
          ·
            obtain ⟨kh_25a, kh_25e, kh_25b, kh_25c, kh_25d⟩ := kh_25
            have kh_25f := kh_25a.f
            refine lv_if_ne (tgt := 93) hx hb dX12_readsClause_88 rfl (fun _ => ?_) (fun h => absurd h cq_eq_1_0)
            have hseg1 : SegOK (Fn25 27) 0 (cn 23) (cn25 23) := PBk.seg' kh_25a kh_25e
            have e29a : Fn25 29 = upd (Fn 29) (cn 25) (nI (cn 23)) := hfc25.2.2 29 (nml rfl)
            have e30a : Fn25 30 = Fn 30 := hfc25.2.2 30 (nml rfl)
            have e31a : Fn25 31 = Fn 31 := hfc25.2.2 31 (nml rfl)
            have esaid : ∀ k : Nat, k < cn 23 → Fn25 27 k = Fn 27 k := kh_25b
            refine lv_aload_n hx hb (oc_42 93 (aq_21 shX12_readsClause_72)) rfl (lvA0 hl) ?_
            refine gM_65 S hK hP (v := .ref (g 30)) rfl (oc_180 94 (aq_22 shX12_readsClause_72) uw_0_65) ?_
            refine lv_aload_n hx hb (oc_42 97 shX12_readsClause_97) rfl (lvA0 hl) ?_
            refine gM_312 S hK hP (v := .int (nI (cn25 25))) rfl (oc_180 98 (aq_1 shX12_readsClause_97) uw_1_56) ?_
            refine lv_aload_n hx hb (oc_42 101 (aq_4 shX12_readsClause_97)) rfl (lvA0 hl) ?_
            refine gM_257 S hK hP (v := .int (nI (cn25 23))) rfl (oc_180 102 (aq_5 shX12_readsClause_97) uw_1_1) ?_
            have kb_6 : (cn25 25) < 12 := by (first | omega | (have zz0 := Hid.u hi_cn; have zz1 := Hid.u hi_cn25; have zz2 := Hid.u hq_cn25; omega))
            refine stM_30 hx hb hK hP hD hS (Fn2 := (va_up Fn25 30 (upd (Fn25 30) (cn25 25) (nI (cn25 23))))) (vp_in_nI kb_6 (ltb rfl)) (nI_clamp (Nat.lt_trans kb_6 (ltb rfl))) rfl (oc_79 105 (aq_8 shX12_readsClause_97)) (fun H locs hP hD hS => ?_)
            refine lv_aload_n hx hb (oc_42 106 (aq_9 shX12_readsClause_97)) rfl (lvA0 hl) ?_
            have hFc := free_all hD hS hA
            refine va_calli (runV_a (As := []) (rest := []) S (q_readsCondition l D cI cB cZ g cn25 In25 (va_up Fn25 30 (upd (Fn25 30) (cn25 25) (nI (cn25 23))))  H.size (IM.fr (In := In25) hIn25 (Fr.f 30 Fr.rf) (by decide) (by decide)) (by (first | omega | (have zz0 := Hid.u hi_cn; have zz1 := Hid.u hi_cn25; have zz2 := Hid.u hq_cn25; omega))) (by (first | omega | (have zz0 := Hid.u hi_cn; have zz1 := Hid.u hi_cn25; have zz2 := Hid.u hq_cn25; omega))) (by (first | omega | (have zz0 := Hid.u hi_cn; have zz1 := Hid.u hi_cn25; have zz2 := Hid.u hq_cn25; omega)))) kV_RX12_315 hK hP hD 0 rfl rfl rfl ⟨Nat.le_of_ble_eq_true rfl, Nat.le_of_ble_eq_true rfl⟩ ⟨Nat.le_of_ble_eq_true rfl, Nat.le_of_ble_eq_true rfl⟩ rfl hl.1 rfl (Nat.le_of_ble_eq_true rfl) (oc_182 107 (aq_10 shX12_readsClause_97) uw_1_59)) hS (fun q _ h => hFc q h) hFc (fun r_26 u t H1 locs ht hvm wh_27 hB hz1 hk1 hS => ?_)
            obtain ⟨cn27, In27, Fn27⟩ := u
            obtain ⟨hP1, hD1⟩ := hB
            rw [ht] at hP1
            have hP : va_P D vwCl (wM cI cB cZ g cn27 In27 Fn27) H1 := hP1
            have hD : va_D A (wM cI cB cZ g cn27 In27 Fn27) := hD1.weaken (fun _ _ _ h => hFc _ h)
            generalize H1 = H at hP hS ⊢
            have vh_27 : (fun r c2 I2 F2 => Fr [19, 23, 24, 26] [21, 22] [27, 28] cn25 In25 (va_up Fn25 30 (upd (Fn25 30) (cn25 25) (nI (cn25 23)))) c2 I2 F2 ∧ IM c2 F2 ∧ (r = 0 ∨ (r = 1 ∧ SegOK (F2 27) 0 ((cn25 23)) (c2 23) ∧ (cn25 23) ≤ c2 23 ∧ c2 23 ≤ c2 19 ∧ ((cn25 19) ≤ c2 19 ∧ c2 19 ≤ (cn25 20)) ∧ (∀ k : Nat, k < (cn25 23) → F2 27 k = (Fn25 27) k)))) r_26 cn27 In27 Fn27 := wh_27
            obtain ⟨hfc27, hIn27, h_27⟩ := vh_27
            have hf27 : Fr [19, 23, 24, 25, 26] [21, 22] [27, 28, 29, 30, 31] cn In Fn cn27 In27 Fn27 := Fr.mo (Fr.tr (Fr.f 30 hf25) hfc27) (sbl rfl) (sbl rfl) (sbl rfl)
            have hi_cn27 : Hid (CB cn27) := hIn27.b
            have : cn27 20 = cn 20 := hf27.1 20 (nml rfl)
            have hq_cn27 := Hid.i (frq_19_23_24_25_26_0_1_2_46_57_58_62_63_75_83_44 hf27)
            have : cn27 20 = (cn25 20) := hfc27.1 20 (nml rfl)
            have : cn27 25 = (cn25 25) := hfc27.1 25 (nml rfl)
            rcases h_27 with rfl | ⟨rfl, kh_27⟩
            ·
              refine lv_if_ne (tgt := 115) hx hb dX12_readsClause_110 rfl (fun h => absurd h cq_eq_0_0) (fun _ => ?_)
              refine lv_iconst (v := 0) hx hb (oc_3 113 (aq_16 shX12_readsClause_97)) kic_0 ?_
              exact W.zret (v := 0) hx hb hr rfl (fun t ht hW => ⟨⟨0, (cn27, In27, Fn27), rfl, ⟨(Fr.mo hf27 (sbl rfl) (sbl rfl) (sbl rfl)), hIn27, (by show 0 = 0 ∨ (0 = 1 ∧ cn 19 < cn27 19 ∧ cn27 19 ≤ cn 20 ∧ cn27 23 ≤ cn27 19 ∧ cn27 25 ≤ 12 ∧ ALL (Fn27 27) (cn27 23) (cn27 25) (Fn27 29) (Fn27 30) (Fn27 31)); exact Or.inl rfl)⟩, by rw [ht]; exact hP, hD⟩, hS.F ht⟩) hS.2.2 (oc_172 114 (aq_17 shX12_readsClause_97))
            ·
              obtain ⟨kh_27a, kh_27b, kh_27c, kh_27d, kh_27e⟩ := kh_27
              refine lv_if_ne (tgt := 115) hx hb dX12_readsClause_110 rfl (fun _ => ?_) (fun h => absurd h cq_eq_1_0)
              have e29 : Fn27 29 = upd (Fn 29) (cn 25) (nI (cn 23)) := (hfc27.2.2 29 (nml rfl)).trans e29a
              have e30 : Fn27 30 = upd (Fn 30) (cn 25) (nI (cn25 23)) := (hfc27.2.2 30 (nml rfl)).trans (by show upd (Fn25 30) (cn25 25) _ = _; rw [e30a, show cn25 25 = cn 25 by (first | omega | (have zz0 := Hid.u hi_cn; have zz1 := Hid.u hi_cn25; have zz2 := Hid.u hi_cn27; have zz3 := Hid.u hq_cn25; have zz4 := Hid.u hq_cn27; omega))])
              have e31 : Fn27 31 = Fn 31 := (hfc27.2.2 31 (nml rfl)).trans e31a
              have esd : ∀ k : Nat, k < cn 23 → Fn27 27 k = Fn 27 k := fun k hk => (kh_27e k (by (first | omega | (have zz0 := Hid.u hi_cn; have zz1 := Hid.u hi_cn25; have zz2 := Hid.u hi_cn27; have zz3 := Hid.u hq_cn25; have zz4 := Hid.u hq_cn27; omega)))).trans (esaid k hk)
              have hall : ALL (Fn27 27) (cn27 23) (cn27 25 + 1) (Fn27 29) (Fn27 30) (upd (Fn27 31) (cn27 25) (nI (cn27 23))) := by rw [e29, e30, e31, show cn27 25 = cn 25 by (first | omega | (have zz0 := Hid.u hi_cn; have zz1 := Hid.u hi_cn25; have zz2 := Hid.u hi_cn27; have zz3 := Hid.u hq_cn25; have zz4 := Hid.u hq_cn27; omega))]; exact ALL.add hL esd (by (first | omega | (have zz0 := Hid.u hi_cn; have zz1 := Hid.u hi_cn25; have zz2 := Hid.u hi_cn27; have zz3 := Hid.u hq_cn25; have zz4 := Hid.u hq_cn27; omega))) (by (first | omega | (have zz0 := Hid.u hi_cn; have zz1 := Hid.u hi_cn25; have zz2 := Hid.u hi_cn27; have zz3 := Hid.u hq_cn25; have zz4 := Hid.u hq_cn27; omega))) (SegOK.cg hseg1 (fun k hk => kh_27e k hk)) kh_27a
              refine lv_aload_n hx hb (oc_42 115 (aq_18 shX12_readsClause_97)) rfl (lvA0 hl) ?_
              refine gM_68 S hK hP (v := .ref (g 31)) rfl (oc_180 116 (aq_19 shX12_readsClause_97) uw_0_68) ?_
              refine lv_aload_n hx hb (oc_42 119 (aq_22 shX12_readsClause_97)) rfl (lvA0 hl) ?_
              refine gM_312 S hK hP (v := .int (nI (cn27 25))) rfl (oc_180 120 (aq_23 shX12_readsClause_97) uw_1_56) ?_
              refine lv_aload_n hx hb (oc_42 123 shX12_readsClause_123) rfl (lvA0 hl) ?_
              refine gM_257 S hK hP (v := .int (nI (cn27 23))) rfl (oc_180 124 (aq_1 shX12_readsClause_123) uw_1_1) ?_
              have kb_7 : (cn27 25) < 12 := by (first | omega | (have zz0 := Hid.u hi_cn; have zz1 := Hid.u hi_cn25; have zz2 := Hid.u hi_cn27; have zz3 := Hid.u hq_cn25; have zz4 := Hid.u hq_cn27; omega))
              refine stM_31 hx hb hK hP hD hS (Fn2 := (va_up Fn27 31 (upd (Fn27 31) (cn27 25) (nI (cn27 23))))) (vp_in_nI kb_7 (ltb rfl)) (nI_clamp (Nat.lt_trans kb_7 (ltb rfl))) rfl (oc_79 127 (aq_4 shX12_readsClause_123)) (fun H locs hP hD hS => ?_)
              refine lv_aload_n hx hb (oc_42 128 (aq_5 shX12_readsClause_123)) rfl (lvA0 hl) ?_
              refine lv_aload_n hx hb (oc_42 129 (aq_6 shX12_readsClause_123)) rfl (lvA0 hl) ?_
              refine gM_312 S hK hP (v := .int (nI (cn27 25))) rfl (oc_180 130 (aq_7 shX12_readsClause_123) uw_1_56) ?_
              refine lv_iconst (v := 1) hx hb (oc_4 133 (aq_10 shX12_readsClause_123)) kic_1 ?_
              refine lv_iadd hx hb (oc_96 134 (aq_11 shX12_readsClause_123)) ?_
              refine lv_topi (fun y_28 ey_28 => ?_)
              obtain rfl : y_28 = (nI ((cn27 25) + 1)) := ey_28.trans (nI_add (cn27 25) 1)
              refine pM_312 S hK hP hD hS (a := ((cn27 25) + 1)) (cn2 := (va_up cn27 25 ((cn27 25) + 1))) rfl rfl (oc_181 135 (aq_12 shX12_readsClause_123) uw_1_56) (fun H locs hP hD hS => ?_)
              refine lv_iconst (v := 1) hx hb (oc_4 138 (aq_15 shX12_readsClause_123)) kic_1 ?_
              exact W.zret (v := 1) hx hb hr rfl (fun t ht hW => ⟨⟨1, ((va_up cn27 25 ((cn27 25) + 1)), In27, (va_up Fn27 31 (upd (Fn27 31) (cn27 25) (nI (cn27 23))))), rfl, ⟨(Fr.mo (Fr.f 31 (Fr.c 25 hf27)) (sbl rfl) (sbl rfl) (sbl rfl)), (IM.fr (In := In27) hIn27 (Fr.f 31 (Fr.c 25 Fr.rf)) (by decide) (by decide)), (by show 1 = 0 ∨ (1 = 1 ∧ cn 19 < (va_up cn27 25 ((cn27 25) + 1)) 19 ∧ (va_up cn27 25 ((cn27 25) + 1)) 19 ≤ cn 20 ∧ (va_up cn27 25 ((cn27 25) + 1)) 23 ≤ (va_up cn27 25 ((cn27 25) + 1)) 19 ∧ (va_up cn27 25 ((cn27 25) + 1)) 25 ≤ 12 ∧ ALL ((va_up Fn27 31 (upd (Fn27 31) (cn27 25) (nI (cn27 23)))) 27) ((va_up cn27 25 ((cn27 25) + 1)) 23) ((va_up cn27 25 ((cn27 25) + 1)) 25) ((va_up Fn27 31 (upd (Fn27 31) (cn27 25) (nI (cn27 23)))) 29) ((va_up Fn27 31 (upd (Fn27 31) (cn27 25) (nI (cn27 23)))) 30) ((va_up Fn27 31 (upd (Fn27 31) (cn27 25) (nI (cn27 23)))) 31)); exact Or.inr ⟨rfl, (by show cn 19 < cn27 19; (first | omega | (have zz0 := Hid.u hi_cn; have zz1 := Hid.u hi_cn25; have zz2 := Hid.u hi_cn27; have zz3 := Hid.u hq_cn25; have zz4 := Hid.u hq_cn27; omega))), (by show cn27 19 ≤ cn 20; (first | omega | (have zz0 := Hid.u hi_cn; have zz1 := Hid.u hi_cn25; have zz2 := Hid.u hi_cn27; have zz3 := Hid.u hq_cn25; have zz4 := Hid.u hq_cn27; omega))), (by show cn27 23 ≤ cn27 19; (first | omega | (have zz0 := Hid.u hi_cn; have zz1 := Hid.u hi_cn25; have zz2 := Hid.u hi_cn27; have zz3 := Hid.u hq_cn25; have zz4 := Hid.u hq_cn27; omega))), (by show cn27 25 + 1 ≤ 12; (first | omega | (have zz0 := Hid.u hi_cn; have zz1 := Hid.u hi_cn25; have zz2 := Hid.u hi_cn27; have zz3 := Hid.u hq_cn25; have zz4 := Hid.u hq_cn27; omega))), hall⟩)⟩, by rw [ht]; exact hP, hD⟩, hS.F ht⟩) hS.2.2 (oc_172 139 (aq_16 shX12_readsClause_123))
      ·
        have tc_18 : ((nI (cn 25)).toInt : Int) = 12 := congrArg Int32.toInt c_18
        refine lv_aload_n hx hb (oc_42 37 (aq_13 shX12_readsClause_24)) rfl (lvA0 hl) ?_
        refine lv_iconst (v := 4) hx hb (oc_7 38 (aq_14 shX12_readsClause_24)) kic_4 ?_
        refine lv_aload_n hx hb (oc_42 39 (aq_15 shX12_readsClause_24)) rfl (lvA0 hl) ?_
        refine gM_233 S hK hP (v := .int (nI (cn 19))) rfl (oc_180 40 (aq_16 shX12_readsClause_24) uw_0_233) ?_
        have hFc := free_all hD hS hA
        refine va_calli (runV_a (As := [.int 4, .int (nI (cn 19))]) (rest := []) S (q_wrong l D cI cB cZ g cn In Fn 4 (nI (cn 19)) s.heap.size hI) kV_RX12_246 hK hP hD 0 rfl rfl rfl ⟨Nat.le_of_ble_eq_true rfl, Nat.le_of_ble_eq_true rfl⟩ ⟨Nat.le_of_ble_eq_true rfl, Nat.le_of_ble_eq_true rfl⟩ rfl hl.1 rfl (Nat.le_of_ble_eq_true rfl) (oc_182 43 (aq_19 shX12_readsClause_24) uw_0_246)) hS (fun q _ h => hFc q h) hFc (fun r_29 u t H1 locs ht hvm wh_30 hB hz1 hk1 hS => ?_)
        obtain ⟨cn30, In30, Fn30⟩ := u
        obtain ⟨hP1, hD1⟩ := hB
        rw [ht] at hP1
        have vh_30 : (fun r c2 I2 F2 => (∀ k : Nat, k ∉ [21] → I2 k = In k) ∧ ((r = 0 ∧ (True) ∧ cn = c2 ∧ Fn = F2))) r_29 cn30 In30 Fn30 := wh_30
        obtain ⟨hI30_, vh_30⟩ := vh_30
        obtain ⟨rfl, h_30, rfl, rfl⟩ := vh_30
        have hf30 : Fr [19, 23, 24, 25, 26] [21, 22] [27, 28, 29, 30, 31] cn In Fn cn In30 Fn := Fr.mo (Fr.tr (Fr.rf (cn := cn) (In := In) (Fn := Fn)) (show Fr [] [21] [] cn In Fn cn In30 Fn from ⟨fun _ _ => rfl, hI30_, fun _ _ => rfl⟩)) (sbl rfl) (sbl rfl) (sbl rfl)
        have hP : va_P D vwCl (wM cI cB cZ g cn In30 Fn) H1 := hP1
        have hD : va_D A (wM cI cB cZ g cn In30 Fn) := hD1.weaken (fun _ _ _ h => hFc _ h)
        generalize H1 = H at hP hS ⊢
        exact W.zret (v := 0) hx hb hr rfl (fun t ht hW => ⟨⟨0, (cn, In30, Fn), rfl, ⟨(Fr.mo hf30 (sbl rfl) (sbl rfl) (sbl rfl)), hI, (by show 0 = 0 ∨ (0 = 1 ∧ cn 19 < cn 19 ∧ cn 19 ≤ cn 20 ∧ cn 23 ≤ cn 19 ∧ cn 25 ≤ 12 ∧ ALL (Fn 27) (cn 23) (cn 25) (Fn 29) (Fn 30) (Fn 31)); exact Or.inl rfl)⟩, by rw [ht]; exact hP, hD⟩, hS.F ht⟩) hS.2.2 (oc_172 46 (aq_22 shX12_readsClause_24))
    ·
      have tc_17 : (r_1.toInt : Int) ≠ 108 := fun q => c_17 (Int32.toInt_inj.mp q)
      refine lv_aload_n hx hb (oc_42 18 (aq_18 shX12_readsClause_0)) rfl (lvA0 hl) ?_
      refine lv_iconst (v := 1) hx hb (oc_4 19 (aq_19 shX12_readsClause_0)) kic_1 ?_
      refine lv_aload_n hx hb (oc_42 20 (aq_20 shX12_readsClause_0)) rfl (lvA0 hl) ?_
      refine gM_233 S hK hP (v := .int (nI (cn 19))) rfl (oc_180 21 (aq_21 shX12_readsClause_0) uw_0_233) ?_
      have hFc := free_all hD hS hA
      refine va_calli (runV_a (As := [.int 1, .int (nI (cn 19))]) (rest := []) S (q_wrong l D cI cB cZ g cn In Fn 1 (nI (cn 19)) s.heap.size hI) kV_RX12_246 hK hP hD 0 rfl rfl rfl ⟨Nat.le_of_ble_eq_true rfl, Nat.le_of_ble_eq_true rfl⟩ ⟨Nat.le_of_ble_eq_true rfl, Nat.le_of_ble_eq_true rfl⟩ rfl hl.1 rfl (Nat.le_of_ble_eq_true rfl) (oc_182 24 shX12_readsClause_24 uw_0_246)) hS (fun q _ h => hFc q h) hFc (fun r_31 u t H1 locs ht hvm wh_32 hB hz1 hk1 hS => ?_)
      obtain ⟨cn32, In32, Fn32⟩ := u
      obtain ⟨hP1, hD1⟩ := hB
      rw [ht] at hP1
      have vh_32 : (fun r c2 I2 F2 => (∀ k : Nat, k ∉ [21] → I2 k = In k) ∧ ((r = 0 ∧ (True) ∧ cn = c2 ∧ Fn = F2))) r_31 cn32 In32 Fn32 := wh_32
      obtain ⟨hI32_, vh_32⟩ := vh_32
      obtain ⟨rfl, h_32, rfl, rfl⟩ := vh_32
      have hf32 : Fr [19, 23, 24, 25, 26] [21, 22] [27, 28, 29, 30, 31] cn In Fn cn In32 Fn := Fr.mo (Fr.tr (Fr.rf (cn := cn) (In := In) (Fn := Fn)) (show Fr [] [21] [] cn In Fn cn In32 Fn from ⟨fun _ _ => rfl, hI32_, fun _ _ => rfl⟩)) (sbl rfl) (sbl rfl) (sbl rfl)
      have hP : va_P D vwCl (wM cI cB cZ g cn In32 Fn) H1 := hP1
      have hD : va_D A (wM cI cB cZ g cn In32 Fn) := hD1.weaken (fun _ _ _ h => hFc _ h)
      generalize H1 = H at hP hS ⊢
      exact W.zret (v := 0) hx hb hr rfl (fun t ht hW => ⟨⟨0, (cn, In32, Fn), rfl, ⟨(Fr.mo hf32 (sbl rfl) (sbl rfl) (sbl rfl)), hI, (by show 0 = 0 ∨ (0 = 1 ∧ cn 19 < cn 19 ∧ cn 19 ≤ cn 20 ∧ cn 23 ≤ cn 19 ∧ cn 25 ≤ 12 ∧ ALL (Fn 27) (cn 23) (cn 25) (Fn 29) (Fn 30) (Fn 31)); exact Or.inl rfl)⟩, by rw [ht]; exact hP, hD⟩, hS.F ht⟩) hS.2.2 (oc_172 27 (aq_3 shX12_readsClause_24))
