section BSE
variable {P : Nat → Bool} {m k S j n y i : Nat} {f g F T : Nat → Int32} {O : Nat → Prop} {D : Nat → Nat} {x : Int32}
theorem BS.ex : ∀ (P : Nat → Bool) (m : Nat), ∃ S : Nat, BS P 0 m S
  | P, 0 => ⟨0, BS.e0⟩
  | P, m + 1 => by
    obtain ⟨S, h⟩ := BS.ex P m
    cases e : P m with
    | true => exact ⟨_, h.uy e⟩
    | false => exact ⟨_, h.uz e⟩
theorem BS.pick (p : BS P 0 m S) (h : ¬ S = 0) : ∃ b : Nat, b < m ∧ P b = true := Classical.byContradiction (fun w => h (Nat.eq_of_testBit_eq (fun b => by
  rw [Nat.zero_testBit, p b]
  by_cases hb : b < m
  · cases e : P b with
    | true => exact absurd ⟨b, hb, e⟩ w
    | false => rw [Bool.and_false]
  · rw [decide_eq_false hb, Bool.and_false, Bool.false_and])))
theorem BS.tp (p : BS P 0 k S) : S.testBit k = false := by
  rw [p k, decide_eq_false (Nat.lt_irrefl k), Bool.and_false, Bool.false_and]
theorem SFw_z : ∀ m : Nat, SFw f 0 m = 0
  | 0 => rfl
  | m + 1 => by
    show SFw f 0 m + (if (0 : Nat).testBit m = true then f m else 0) = 0
    rw [SFw_z m, Nat.zero_testBit]
    rfl
theorem LRB.off (hi : i < m) (ho : O (D i)) : LRB m F O T D (D i) := by
  obtain ⟨S, h⟩ := BS.ex (fun k => D k == D i) m
  refine ⟨S, h, fun e => ?_, Or.inl ho⟩
  have q := h.bit hi
  rw [e, Nat.zero_testBit] at q
  exact Bool.noConfusion (q.trans (beq_self_eq_true (D i)))
theorem LRB.full (hS : BS (fun i => D i == j) 0 m S) (ht : (T j).toInt < (SFw F S m).toInt) (h0 : 0 ≤ (T j).toInt) : LRB m F O T D j := by
  refine ⟨S, hS, fun e => ?_, Or.inr ht⟩
  rw [e, SFw_z] at ht
  have q : (0 : Int32).toInt = 0 := rfl
  omega
theorem LRB.no2 (hS : BS (fun i => D i == j) 0 m S) (hA : ∀ a : Nat, a < m → ¬ O (D a)) (ht : (SFw F S m).toInt ≤ (T j).toInt) : ¬ LRB m F O T D j := by
  by_cases e : S = 0
  · exact LRB.no0 hS e
  · obtain ⟨b, hb, q⟩ := hS.pick e
    exact LRB.no hS (fun w => hA b hb (by rw [eq_of_beq q]; exact w)) ht
/-- of each of three lorries: its set among the first k stops, and what they hold -/
def L3 (D : Nat → Nat) (F : Nat → Int32) (k : Nat) (f g : Nat → Int32) : Prop := ∀ j : Nat, j < 3 → ∃ S : Nat, S ≤ 63 ∧ BS (fun i => D i == j) 0 k S ∧ g j = nI S ∧ f j = SFw F S k
theorem L3.e0 : L3 D F 0 (upd (upd (upd f 0 0) 1 0) 2 0) (upd (upd (upd g 0 0) 1 0) 2 0) := fun j hj => ⟨0, by decide, BS.e0, by
  rcases (by omega : j = 0 ∨ j = 1 ∨ j = 2) with rfl | rfl | rfl <;> rfl, by
  rcases (by omega : j = 0 ∨ j = 1 ∨ j = 2) with rfl | rfl | rfl <;> rfl⟩
theorem L3.up (h : L3 D F k f g) (hk : k ≤ 5) (hy : D k = y) (hn : g y = nI n) (hn2 : n ≤ 63) (hx : x = F k) : L3 D F (k + 1) (upd f y (f y + x)) (upd g y (nI (n ||| 2 ^ k))) := fun j hj => by
  obtain ⟨S, h1, h2, h3, h4⟩ := h j hj
  by_cases e : j = y
  · subst e
    obtain rfl : n = S := nIw_inj (by omega) (by omega) (hn.symm.trans h3)
    refine ⟨n ||| 2 ^ k, or63 hn2 hk, h2.uy (beq_iff_eq.mpr hy), upd_self .., ?_⟩
    rw [upd_self, SFw_up, h4, hx]
  · refine ⟨S, h1, h2.uz (beq_false_of_ne (fun w => e (w.symm.trans hy))), ?_, ?_⟩
    · rw [upd_n e]
      exact h3
    · rw [upd_n e, h4]
      show _ = SFw F S k + (if S.testBit k = true then F k else 0)
      rw [h2.tp]
      exact (Int32.add_zero _).symm
end BSE
section BSF
variable {V : Nat → Int32 → Prop} {n s : Nat} {b y : Int32}
theorem BSP.or (h : BSP V n b y) : b = -1 ∨ ¬ y = -1 := by
  rcases h with ⟨h1, -⟩ | ⟨s, -, -, -, h4, -⟩
  · exact Or.inl h1
  · exact Or.inr h4
theorem nI_ne1 (h : s < 2 ^ 31) : ¬ nI s = -1 := fun w => by
  have q := congrArg Int32.toInt w
  rw [nI_toInt h] at q
  have e : (-1 : Int32).toInt = -1 := rfl
  omega
end BSF



set_option maxRecDepth 100000 in
set_option maxHeartbeats 4000000 in
theorem q_sharedBy9 (l : Launch) (D : va_G) (cI cB cZ : ClassId) (g : Nat → Nat) (cn : Nat → Nat) (In : Nat → Int32) (Fn : Nat → Nat → Int32) (d0 s0 : Nat) (l0 : List Nat) (sz : Nat) (hI : IM cn Fn) (hd : d0 ≤ 399) (h44 : cn 44 ≤ 6) (hAK : AK cn Fn) (hl0 : cn 44 = l0.length) (h42 : RWF (Fn 42) nI l0) (hxy : ∀ k : Nat, k < cn 1 → XYB (Fn 3 k) (Fn 4 k)) (hk0 : ∀ a : Nat, a < l0.length → l0.getD a 0 < cn 1) (hrow : ∀ a : Nat, a < cn 44 → Fn 50 a = nI (DG (cn 46) (cn 44) s0 a)) (hL : cn 44 = 0 ∨ 0 < cn 46) (hT : ∀ j : Nat, j < cn 46 → 0 ≤ (Fn 47 j).toInt) (htb : TBL (fun a b => apM (Fn 3 (l0.getD a 0)) (Fn 4 (l0.getD a 0)) (Fn 3 (l0.getD b 0)) (Fn 4 (l0.getD b 0))) (fun a => Fn 3 (l0.getD a 0) + Fn 4 (l0.getD a 0)) (cn 44) (Fn 43) (2 ^ cn 44)) : Met l yX12_sharedBy (CWS yX12_sharedBy cX12_sharedBy 4 (some .int)) (RM 2 0 0) (PBw [.ref (g 100), .int (nI d0)] D cI cB cZ (wM cI cB cZ g cn In Fn) sz) (va_Qi (fun (r : Int32) (u : (Nat → Nat) × (Nat → Int32) × (Nat → Nat → Int32)) => (fun r c2 I2 F2 => Fr [] [] [48, 49] cn In Fn c2 I2 F2 ∧ IM c2 F2 ∧ (VSH (cn 46) (cn 44) (fun i => lkM Fn (l0.getD i 0) (nI d0)) (fun j => ¬ Fn 53 (400 * j + d0) = 0) (Fn 47) (RND (fun a => Fn 3 (l0.getD a 0) + Fn 4 (l0.getD a 0)) (cn 44) (Fn 43)) (DG (cn 46) (cn 44) s0) r)) r u.1 u.2.1 u.2.2) (fun (u : (Nat → Nat) × (Nat → Int32) × (Nat → Nat → Int32)) (t : State) => va_P D vwCl (wM cI cB cZ g u.1 u.2.1 u.2.2) t.heap ∧ va_D (va_A (wM cI cB cZ g cn In Fn) sz) (wM cI cB cZ g u.1 u.2.1 u.2.2)) (va_A (wM cI cB cZ g cn In Fn) sz)) 0 0 (va_A (wM cI cB cZ g cn In Fn) sz) := by
  refine en_w (fun A => (va_Qi (fun (r : Int32) (u : (Nat → Nat) × (Nat → Int32) × (Nat → Nat → Int32)) => (fun (r : Int32) (c2 : Nat → Nat) (I2 : Nat → Int32) (F2 : Nat → Nat → Int32) => Fr [] [] [48, 49] cn In Fn c2 I2 F2 ∧ IM c2 F2 ∧ (VSH (cn 46) (cn 44) (fun i => lkM Fn (l0.getD i 0) (nI d0)) (fun j => ¬ Fn 53 (400 * j + d0) = 0) (Fn 47) (RND (fun a => Fn 3 (l0.getD a 0) + Fn 4 (l0.getD a 0)) (cn 44) (Fn 43)) (DG (cn 46) (cn 44) s0) r)) r u.1 u.2.1 u.2.2) (fun (u : (Nat → Nat) × (Nat → Int32) × (Nat → Nat → Int32)) (t : State) => va_P D vwCl (wM cI cB cZ g u.1 u.2.1 u.2.2) t.heap ∧ va_D A (wM cI cB cZ g u.1 u.2.1 u.2.2)) A)) rfl rfl pn_RX12 (Nat.le_of_ble_eq_true rfl) (fun p e s m below meth c A hx hb hml hown S hr hlocks hnm hA hP hK hD hS ls hl => ?_)
  have hl : lv_has ls 4 [(0, .ref (g 100)), (1, .int (nI d0))] := hl
  have hi_cn : Hid (CB cn) := hI.b
  refine lv_iconst (v := 0) hx hb (oc_3 0 shX12_sharedBy_0) kic_0 ?_
  refine lv_istore_n (lv' := [(2, .int 0), (0, .ref (g 100)), (1, .int (nI d0))]) hx hb (oc_61 1 (aq_1 shX12_sharedBy_0)) rfl hl (ltb rfl) rfl (fun ls hl => ?_)
  refine lv_iload_n hx hb dX12_sharedBy_2 rfl (lvA0 hl) ?_
  refine lv_iconst (v := 3) hx hb dX12_sharedBy_3 kic_3 ?_
  refine lv_icmp_ge (tgt := 27) hx hb dX12_sharedBy_4 rfl (fun h => absurd h cq_le_3_0) (fun _ => ?_)
  refine lv_aload_n hx hb dX12_sharedBy_7 rfl (lvA1 hl) ?_
  refine gM_110 S hK hP (v := .ref (g 48)) rfl dX12_sharedBy_8 ?_
  refine lv_iload_n hx hb dX12_sharedBy_11 rfl (lvA0 hl) ?_
  refine lv_iconst (v := 0) hx hb dX12_sharedBy_12 kic_0 ?_
  refine stM_48 hx hb hK hP hD hS (Fn2 := (va_up Fn 48 (upd (Fn 48) 0 0))) (by unfold vp_in; decide) (by decide) rfl dX12_sharedBy_13 (fun H locs hP hD hS => ?_)
  refine lv_aload_n hx hb dX12_sharedBy_14 rfl (lvA1 hl) ?_
  refine gM_113 S hK hP (v := .ref (g 49)) rfl dX12_sharedBy_15 ?_
  refine lv_iload_n hx hb dX12_sharedBy_18 rfl (lvA0 hl) ?_
  refine lv_iconst (v := 0) hx hb dX12_sharedBy_19 kic_0 ?_
  refine stM_49 hx hb hK hP hD hS (Fn2 := (va_up (va_up Fn 48 (upd (Fn 48) 0 0)) 49 (upd (Fn 49) 0 0))) (by unfold vp_in; decide) (by decide) rfl dX12_sharedBy_20 (fun H locs hP hD hS => ?_)
  refine lv_iinc (v := 1) (lv' := [(2, .int 1), (0, .ref (g 100)), (1, .int (nI d0))]) hx hb dX12_sharedBy_21 hl (k := 0) rfl (by decide) (ltb rfl) rfl (fun ls hl => ?_)
  refine lv_goto (tgt := 2) hx hb dX12_sharedBy_24 rfl ?_
  refine lv_iload_n hx hb dX12_sharedBy_2 rfl (lvA0 hl) ?_
  refine lv_iconst (v := 3) hx hb dX12_sharedBy_3 kic_3 ?_
  refine lv_icmp_ge (tgt := 27) hx hb dX12_sharedBy_4 rfl (fun h => absurd h cq_le_3_1) (fun _ => ?_)
  refine lv_aload_n hx hb dX12_sharedBy_7 rfl (lvA1 hl) ?_
  refine gM_110 S hK hP (v := .ref (g 48)) rfl dX12_sharedBy_8 ?_
  refine lv_iload_n hx hb dX12_sharedBy_11 rfl (lvA0 hl) ?_
  refine lv_iconst (v := 0) hx hb dX12_sharedBy_12 kic_0 ?_
  refine stM_48 hx hb hK hP hD hS (Fn2 := (va_up (va_up (va_up Fn 48 (upd (Fn 48) 0 0)) 49 (upd (Fn 49) 0 0)) 48 (upd (upd (Fn 48) 0 0) 1 0))) (by unfold vp_in; decide) (by decide) rfl dX12_sharedBy_13 (fun H locs hP hD hS => ?_)
  refine lv_aload_n hx hb dX12_sharedBy_14 rfl (lvA1 hl) ?_
  refine gM_113 S hK hP (v := .ref (g 49)) rfl dX12_sharedBy_15 ?_
  refine lv_iload_n hx hb dX12_sharedBy_18 rfl (lvA0 hl) ?_
  refine lv_iconst (v := 0) hx hb dX12_sharedBy_19 kic_0 ?_
  refine stM_49 hx hb hK hP hD hS (Fn2 := (va_up (va_up (va_up (va_up Fn 48 (upd (Fn 48) 0 0)) 49 (upd (Fn 49) 0 0)) 48 (upd (upd (Fn 48) 0 0) 1 0)) 49 (upd (upd (Fn 49) 0 0) 1 0))) (by unfold vp_in; decide) (by decide) rfl dX12_sharedBy_20 (fun H locs hP hD hS => ?_)
  refine lv_iinc (v := 2) (lv' := [(2, .int 2), (0, .ref (g 100)), (1, .int (nI d0))]) hx hb dX12_sharedBy_21 hl (k := 0) rfl (by decide) (ltb rfl) rfl (fun ls hl => ?_)
  refine lv_goto (tgt := 2) hx hb dX12_sharedBy_24 rfl ?_
  refine lv_iload_n hx hb dX12_sharedBy_2 rfl (lvA0 hl) ?_
  refine lv_iconst (v := 3) hx hb dX12_sharedBy_3 kic_3 ?_
  refine lv_icmp_ge (tgt := 27) hx hb dX12_sharedBy_4 rfl (fun h => absurd h cq_le_3_2) (fun _ => ?_)
  refine lv_aload_n hx hb dX12_sharedBy_7 rfl (lvA1 hl) ?_
  refine gM_110 S hK hP (v := .ref (g 48)) rfl dX12_sharedBy_8 ?_
  refine lv_iload_n hx hb dX12_sharedBy_11 rfl (lvA0 hl) ?_
  refine lv_iconst (v := 0) hx hb dX12_sharedBy_12 kic_0 ?_
  refine stM_48 hx hb hK hP hD hS (Fn2 := (va_up (va_up (va_up (va_up (va_up Fn 48 (upd (Fn 48) 0 0)) 49 (upd (Fn 49) 0 0)) 48 (upd (upd (Fn 48) 0 0) 1 0)) 49 (upd (upd (Fn 49) 0 0) 1 0)) 48 (upd (upd (upd (Fn 48) 0 0) 1 0) 2 0))) (by unfold vp_in; decide) (by decide) rfl dX12_sharedBy_13 (fun H locs hP hD hS => ?_)
  refine lv_aload_n hx hb dX12_sharedBy_14 rfl (lvA1 hl) ?_
  refine gM_113 S hK hP (v := .ref (g 49)) rfl dX12_sharedBy_15 ?_
  refine lv_iload_n hx hb dX12_sharedBy_18 rfl (lvA0 hl) ?_
  refine lv_iconst (v := 0) hx hb dX12_sharedBy_19 kic_0 ?_
  refine stM_49 hx hb hK hP hD hS (Fn2 := (va_up (va_up (va_up (va_up (va_up (va_up Fn 48 (upd (Fn 48) 0 0)) 49 (upd (Fn 49) 0 0)) 48 (upd (upd (Fn 48) 0 0) 1 0)) 49 (upd (upd (Fn 49) 0 0) 1 0)) 48 (upd (upd (upd (Fn 48) 0 0) 1 0) 2 0)) 49 (upd (upd (upd (Fn 49) 0 0) 1 0) 2 0))) (by unfold vp_in; decide) (by decide) rfl dX12_sharedBy_20 (fun H locs hP hD hS => ?_)
  refine lv_iinc (v := 3) (lv' := [(2, .int 3), (0, .ref (g 100)), (1, .int (nI d0))]) hx hb dX12_sharedBy_21 hl (k := 0) rfl (by decide) (ltb rfl) rfl (fun ls hl => ?_)
  refine lv_goto (tgt := 2) hx hb dX12_sharedBy_24 rfl ?_
  refine lv_iload_n hx hb dX12_sharedBy_2 rfl (lvA0 hl) ?_
  refine lv_iconst (v := 3) hx hb dX12_sharedBy_3 kic_3 ?_
  refine lv_icmp_ge (tgt := 27) hx hb dX12_sharedBy_4 rfl (fun _ => ?_) (fun h => absurd h cq_le_3_3)
  refine lv_iconst (v := 0) hx hb (oc_3 27 (aq_3 shX12_sharedBy_24)) kic_0 ?_
  refine lv_istore_n (lv' := [(2, .int 0), (0, .ref (g 100)), (1, .int (nI d0))]) hx hb (oc_61 28 (aq_4 shX12_sharedBy_24)) rfl hl (ltb rfl) rfl (fun ls hl => ?_)
  have lp_29 : ∀ (n : Nat) (i29 : Nat) (F29 : Nat → Nat → Int32) (H : Heap) (locs : List Loc) , cn 44 - i29 < n → (i29 ≤ cn 44 ∧ Fr [] [] [48, 49] cn In Fn cn In F29 ∧ IM cn F29 ∧ (LSet (F29 49)) ∧ (AK cn F29) ∧ (L3 (DG (cn 46) (cn 44) s0) (fun i => lkM Fn (l0.getD i 0) (nI d0)) i29 (F29 48) (F29 49)) ∧ (∀ a : Nat, a < i29 → Fn 53 (400 * DG (cn 46) (cn 44) s0 a + d0) = 0)) → va_P D vwCl (wM cI cB cZ g cn In F29) H → va_D A (wM cI cB cZ g cn In F29) → va_S A s.heap H locs → ∀ ls : Array Slot, lv_has ls 4 [(2, .int (nI i29)), (0, .ref (g 100)), (1, .int (nI d0))] → W p l e (RM 2 0 0) s m ([.ref (g 100), .int (nI d0)]).toArray below meth c H locs 0 0 (MQ below (va_Qi (fun (r : Int32) (u : (Nat → Nat) × (Nat → Int32) × (Nat → Nat → Int32)) => (fun r c2 I2 F2 => Fr [] [] [48, 49] cn In Fn c2 I2 F2 ∧ IM c2 F2 ∧ (VSH (cn 46) (cn 44) (fun i => lkM Fn (l0.getD i 0) (nI d0)) (fun j => ¬ Fn 53 (400 * j + d0) = 0) (Fn 47) (RND (fun a => Fn 3 (l0.getD a 0) + Fn 4 (l0.getD a 0)) (cn 44) (Fn 43)) (DG (cn 46) (cn 44) s0) r)) r u.1 u.2.1 u.2.2) (fun (u : (Nat → Nat) × (Nat → Int32) × (Nat → Nat → Int32)) (t : State) => va_P D vwCl (wM cI cB cZ g u.1 u.2.1 u.2.2) t.heap ∧ va_D A (wM cI cB cZ g u.1 u.2.1 u.2.2)) A) ([.ref (g 100), .int (nI d0)]).toArray s 0 0 A) (F0 m 29 ls []) := by
    intro n29
    induction n29 with
    | zero => intros; (first | omega | (have zz0 := Hid.u hi_cn; omega))
    | succ n29 ih29 =>
      intro i29 F29 H locs hmu29 hinv29 hP hD hS ls hl
      obtain ⟨hr29, hfr29, hI29, hx29_0, hx29_1, hx29_2, hx29_3⟩ := hinv29
      have ti29 : (nI i29).toInt = (i29 : Int) := nI_toInt (by (first | omega | (have zz0 := Hid.u hi_cn; omega)))
      have hi_cn : Hid (CB cn) := hI29.b
      have hrow29 : ∀ a : Nat, a < cn 44 → ∃ n : Nat, n < cn 46 ∧ F29 50 a = nI n := fun a ha => ⟨DG (cn 46) (cn 44) s0 a, Nat.mod_lt _ (by (first | omega | (have zz0 := Hid.u hi_cn; omega))), by rw [hfr29.2.2 50 (nml rfl)]; exact hrow a ha⟩
      have h42_29 : RWF (F29 42) nI l0 := by rw [hfr29.2.2 42 (nml rfl)]; exact h42
      have e3 : F29 3 = Fn 3 := hfr29.2.2 3 (nml rfl)
      have e4 : F29 4 = Fn 4 := hfr29.2.2 4 (nml rfl)
      have e5 : F29 5 = Fn 5 := hfr29.2.2 5 (nml rfl)
      have e6 : F29 6 = Fn 6 := hfr29.2.2 6 (nml rfl)
      have e7 : F29 7 = Fn 7 := hfr29.2.2 7 (nml rfl)
      have e43 : F29 43 = Fn 43 := hfr29.2.2 43 (nml rfl)
      have e47 : F29 47 = Fn 47 := hfr29.2.2 47 (nml rfl)
      have e53 : F29 53 = Fn 53 := hfr29.2.2 53 (nml rfl)
      refine lv_iload_n hx hb (oc_28 29 (aq_5 shX12_sharedBy_24)) rfl (lvA0 hl) ?_
      refine lv_aload_n hx hb (oc_42 30 (aq_6 shX12_sharedBy_24)) rfl (lvA1 hl) ?_
      refine gM_364 S hK hP (v := .int (nI (cn 44))) rfl (oc_180 31 (aq_7 shX12_sharedBy_24) uw_1_108) ?_
      have : (nI (cn 44)).toInt = (((cn 44) : Nat) : Int) := nI_toInt (by (first | omega | (have zz0 := Hid.u hi_cn; omega)))
      refine lv_icmp_ge (tgt := 107) hx hb (oc_162 34 (aq_10 shX12_sharedBy_24) sgw_0_73) rfl (fun c_1 => ?_) (fun c_1 => ?_)
      ·
        have tc_1 : ((nI (cn 44)).toInt : Int) ≤ (nI i29).toInt := Int32.le_iff_toInt_le.mp c_1
        refine lv_iconst (v := 0) hx hb (oc_3 107 (aq_11 shX12_sharedBy_96)) kic_0 ?_
        refine lv_istore_n (lv' := [(2, .int 0), (0, .ref (g 100)), (1, .int (nI d0))]) hx hb (oc_61 108 (aq_12 shX12_sharedBy_96)) rfl hl (ltb rfl) rfl (fun ls hl => ?_)
        refine lv_iconst (v := 0) hx hb (oc_3 109 (aq_13 shX12_sharedBy_96)) kic_0 ?_
        refine lv_istore_n (lv' := [(3, .int 0), (2, .int 0), (0, .ref (g 100)), (1, .int (nI d0))]) hx hb (oc_62 110 (aq_14 shX12_sharedBy_96)) rfl hl (ltb rfl) rfl (fun ls hl => ?_)
        have lp_111 : ∀ (n : Nat) (i111 : Nat) (x111_2 : Int32) , cn 46 - i111 < n → (i111 ≤ cn 46 ∧ (SHL (cn 44) (RND (fun a => Fn 3 (l0.getD a 0) + Fn 4 (l0.getD a 0)) (cn 44) (Fn 43)) (DG (cn 46) (cn 44) s0) i111 x111_2) ∧ (∀ j : Nat, j < i111 → ¬ LRB (cn 44) (fun i => lkM Fn (l0.getD i 0) (nI d0)) (fun j => ¬ Fn 53 (400 * j + d0) = 0) (Fn 47) (DG (cn 46) (cn 44) s0) j)) → ∀ ls : Array Slot, lv_has ls 4 [(3, .int (nI i111)), (2, .int x111_2), (0, .ref (g 100)), (1, .int (nI d0))] → W p l e (RM 2 0 0) s m ([.ref (g 100), .int (nI d0)]).toArray below meth c H locs 0 0 (MQ below (va_Qi (fun (r : Int32) (u : (Nat → Nat) × (Nat → Int32) × (Nat → Nat → Int32)) => (fun r c2 I2 F2 => Fr [] [] [48, 49] cn In Fn c2 I2 F2 ∧ IM c2 F2 ∧ (VSH (cn 46) (cn 44) (fun i => lkM Fn (l0.getD i 0) (nI d0)) (fun j => ¬ Fn 53 (400 * j + d0) = 0) (Fn 47) (RND (fun a => Fn 3 (l0.getD a 0) + Fn 4 (l0.getD a 0)) (cn 44) (Fn 43)) (DG (cn 46) (cn 44) s0) r)) r u.1 u.2.1 u.2.2) (fun (u : (Nat → Nat) × (Nat → Int32) × (Nat → Nat → Int32)) (t : State) => va_P D vwCl (wM cI cB cZ g u.1 u.2.1 u.2.2) t.heap ∧ va_D A (wM cI cB cZ g u.1 u.2.1 u.2.2)) A) ([.ref (g 100), .int (nI d0)]).toArray s 0 0 A) (F0 m 111 ls []) := by
          intro n111
          induction n111 with
          | zero => intros; (first | omega | (have zz0 := Hid.u hi_cn; omega))
          | succ n111 ih111 =>
            intro i111 x111_2 hmu111 hinv111 ls hl
            obtain ⟨hr111, hx111_0, hx111_1⟩ := hinv111
            have ti111 : (nI i111).toInt = (i111 : Int) := nI_toInt (by (first | omega | (have zz0 := Hid.u hi_cn; omega)))
            refine lv_iload_n hx hb (oc_29 111 (aq_15 shX12_sharedBy_96)) rfl (lvA0 hl) ?_
            refine lv_aload_n hx hb (oc_42 112 (aq_16 shX12_sharedBy_96)) rfl (lvA2 hl) ?_
            refine gM_386 S hK hP (v := .int (nI (cn 46))) rfl (oc_180 113 (aq_17 shX12_sharedBy_96) uw_1_130) ?_
            have : (nI (cn 46)).toInt = (((cn 46) : Nat) : Int) := nI_toInt (by (first | omega | (have zz0 := Hid.u hi_cn; omega)))
            refine lv_icmp_ge (tgt := 155) hx hb (oc_162 116 (aq_20 shX12_sharedBy_96) sgw_0_39) rfl (fun c_2 => ?_) (fun c_2 => ?_)
            ·
              have tc_2 : ((nI (cn 46)).toInt : Int) ≤ (nI i111).toInt := Int32.le_iff_toInt_le.mp c_2
              refine lv_iload_n hx hb (oc_28 155 (aq_11 shX12_sharedBy_144)) rfl (lvA1 hl) ?_
              exact W.iret (v := x111_2) hx hb hr (fun t ht hW => ⟨⟨x111_2, (cn, In, F29), rfl, ⟨(Fr.mo hfr29 (sbl rfl) (sbl rfl) (sbl rfl)), hI29, (by show VSH (cn 46) (cn 44) (fun i => lkM Fn (l0.getD i 0) (nI d0)) (fun j => ¬ Fn 53 (400 * j + d0) = 0) (Fn 47) (RND (fun a => Fn 3 (l0.getD a 0) + Fn 4 (l0.getD a 0)) (cn 44) (Fn 43)) (DG (cn 46) (cn 44) s0) x111_2; exact (Or.inr (by have e9 : i111 = cn 46 := (by (first | omega | (have zz0 := Hid.u hi_cn; omega))); rw [e9] at hx111_0 hx111_1; exact ⟨hx111_1, hx111_0⟩)))⟩, by rw [ht]; exact hP, hD⟩, hS.F ht⟩) hS.2.2 (oc_172 156 (aq_12 shX12_sharedBy_144))
            ·
              have tc_2 : ((nI i111).toInt : Int) < (nI (cn 46)).toInt := Int32.lt_iff_toInt_lt.mp (Int32.not_le.mp c_2)
              have e29 : i29 = cn 44 := by (first | omega | (have zz0 := Hid.u hi_cn; omega))
              obtain ⟨S9, hS63, hS9, e49, e48⟩ := hx29_2 i111 (by (first | omega | (have zz0 := Hid.u hi_cn; omega)))
              rw [e29] at hS9 e48
              refine lv_aload_n hx hb (oc_42 119 (aq_23 shX12_sharedBy_96)) rfl (lvA2 hl) ?_
              refine gM_110 S hK hP (v := .ref (g 48)) rfl (oc_180 120 shX12_sharedBy_120 uw_0_110) ?_
              refine lv_iload_n hx hb (oc_29 123 (aq_3 shX12_sharedBy_120)) rfl (lvA0 hl) ?_
              have kb_1 : i111 < 3 := by (first | omega | (have zz0 := Hid.u hi_cn; omega))
              refine ldM_48 hx hb hK hP (x := ((F29 48) i111)) (vp_in_nI kb_1 (ltb rfl)) (nI_clamp (Nat.lt_trans kb_1 (ltb rfl))) rfl (oc_46 124 (aq_4 shX12_sharedBy_120)) ?_
              refine lv_aload_n hx hb (oc_42 125 (aq_5 shX12_sharedBy_120)) rfl (lvA2 hl) ?_
              refine gM_107 S hK hP (v := .ref (g 47)) rfl (oc_180 126 (aq_6 shX12_sharedBy_120) uw_0_107) ?_
              refine lv_iload_n hx hb (oc_29 129 (aq_9 shX12_sharedBy_120)) rfl (lvA0 hl) ?_
              refine ldM_47 hx hb hK hP (x := ((F29 47) i111)) (vp_in_nI kb_1 (ltb rfl)) (nI_clamp (Nat.lt_trans kb_1 (ltb rfl))) rfl (oc_46 130 (aq_10 shX12_sharedBy_120)) ?_
              refine lv_icmp_le (tgt := 136) hx hb (oc_164 131 (aq_11 shX12_sharedBy_120) sgw_0_5) rfl (fun c_3 => ?_) (fun c_3 => ?_)
              ·
                have tc_3 : (((F29 48) i111).toInt : Int) ≤ ((F29 47) i111).toInt := Int32.le_iff_toInt_le.mp c_3
                refine lv_iload_n hx hb (oc_28 136 (aq_16 shX12_sharedBy_120)) rfl (lvA1 hl) ?_
                refine lv_aload_n hx hb (oc_42 137 (aq_17 shX12_sharedBy_120)) rfl (lvA2 hl) ?_
                refine lv_aload_n hx hb (oc_42 138 (aq_18 shX12_sharedBy_120)) rfl (lvA2 hl) ?_
                refine gM_113 S hK hP (v := .ref (g 49)) rfl (oc_180 139 (aq_19 shX12_sharedBy_120) uw_0_113) ?_
                refine lv_iload_n hx hb (oc_29 142 (aq_22 shX12_sharedBy_120)) rfl (lvA0 hl) ?_
                obtain ⟨a_4, ha_4, ea_4⟩ := hx29_0 i111 (by (first | omega | (have zz0 := Hid.u hi_cn; omega)))
                refine ldM_49 hx hb hK hP (x := (nI a_4)) (vp_in_nI kb_1 (ltb rfl)) (nI_clamp (Nat.lt_trans kb_1 (ltb rfl))) ea_4 (oc_46 143 (aq_23 shX12_sharedBy_120)) ?_
                have ey9 : a_4 = S9 := nIw_inj (by (first | omega | (have zz0 := Hid.u hi_cn; omega))) (by (first | omega | (have zz0 := Hid.u hi_cn; omega))) (ea_4.symm.trans e49)
                subst ey9
                have hlt9 := hS9.lt
                refine vp_callSi (runV_ra (As := [.int (nI a_4)]) (rest := [.int x111_2]) S (q_roundTo9 l D cI cB cZ g cn In F29 a_4 l0 hI29 (by (first | omega | (have zz0 := Hid.u hi_cn; omega))) hx29_1 hl0 h42_29 (fun k hk => by rw [e3, e4]; exact hxy k hk) hk0 hlt9 (by rw [e3, e4, e43]; exact htb)) kV_RX12_389 hK hP 0 rfl rfl rfl ⟨Nat.le_of_ble_eq_true rfl, Nat.le_of_ble_eq_true rfl⟩ ⟨Nat.le_of_ble_eq_true rfl, Nat.le_of_ble_eq_true rfl⟩ rfl hl.1 rfl (Nat.le_of_ble_eq_true rfl) (oc_182 144 shX12_sharedBy_144 uw_1_133)) (fun r_5 h_6 => ?_)
                rw [e3, e4, e43] at h_6
                refine lv_iadd hx hb (oc_96 147 (aq_3 shX12_sharedBy_144)) ?_
                refine lv_istore_n (lv' := [(2, .int (x111_2 + r_5)), (3, .int (nI i111)), (0, .ref (g 100)), (1, .int (nI d0))]) hx hb (oc_61 148 (aq_4 shX12_sharedBy_144)) rfl hl (ltb rfl) rfl (fun ls hl => ?_)
                refine lv_iinc (v := (nI (i111 + 1))) (lv' := [(3, .int (nI (i111 + 1))), (2, .int (x111_2 + r_5)), (0, .ref (g 100)), (1, .int (nI d0))]) hx hb (oc_132 149 (aq_5 shX12_sharedBy_144) ub_3 sgb_1) hl (k := 1) rfl (nI_1 _) (ltb rfl) rfl (fun ls hl => ?_)
                refine lv_goto (tgt := 111) hx hb (oc_167 152 (aq_8 shX12_sharedBy_144) sgw_255_215) rfl ?_
                exact ih111 (i111 + 1) (x111_2 + r_5) (by (first | omega | (have zz0 := Hid.u hi_cn; omega))) ⟨(by (first | omega | (have zz0 := Hid.u hi_cn; omega))), ⟨x111_2, r_5, _, hx111_0, hS9, h_6, rfl⟩, (fun j hj => if q9 : j = i111 then (by rw [q9]; exact LRB.no2 hS9 (fun a ha w9 => w9 (hx29_3 a (by (first | omega | (have zz0 := Hid.u hi_cn; omega))))) (by rw [← e48, ← e47]; (first | omega | (have zz0 := Hid.u hi_cn; omega)))) else hx111_1 j (by (first | omega | (have zz0 := Hid.u hi_cn; omega))))⟩ ls (lv_sub hl [0, 1, 2, 3] rfl)
              ·
                have tc_3 : (((F29 47) i111).toInt : Int) < ((F29 48) i111).toInt := Int32.lt_iff_toInt_lt.mp (Int32.not_le.mp c_3)
                refine lv_iconst (v := (-1)) hx hb (oc_2 134 (aq_14 shX12_sharedBy_120)) kic_m1 ?_
                exact W.iret (v := (-1)) hx hb hr (fun t ht hW => ⟨⟨(-1), (cn, In, F29), rfl, ⟨(Fr.mo hfr29 (sbl rfl) (sbl rfl) (sbl rfl)), hI29, (by show VSH (cn 46) (cn 44) (fun i => lkM Fn (l0.getD i 0) (nI d0)) (fun j => ¬ Fn 53 (400 * j + d0) = 0) (Fn 47) (RND (fun a => Fn 3 (l0.getD a 0) + Fn 4 (l0.getD a 0)) (cn 44) (Fn 43)) (DG (cn 46) (cn 44) s0) (-1); exact (Or.inl ⟨⟨i111, by (first | omega | (have zz0 := Hid.u hi_cn; omega)), LRB.full hS9 (by rw [← e48, ← e47]; (first | omega | (have zz0 := Hid.u hi_cn; omega))) (hT _ (by (first | omega | (have zz0 := Hid.u hi_cn; omega))))⟩, rfl⟩))⟩, by rw [ht]; exact hP, hD⟩, hS.F ht⟩) hS.2.2 (oc_172 135 (aq_15 shX12_sharedBy_120))
        exact lp_111 _ 0 0 (Nat.lt_succ_self _) ⟨(by (first | omega | (have zz0 := Hid.u hi_cn; omega))), rfl, (fun j hj => absurd hj (Nat.not_lt_zero j))⟩ ls (lv_sub hl [0, 1, 2, 3] rfl)
      ·
        have tc_1 : ((nI i29).toInt : Int) < (nI (cn 44)).toInt := Int32.lt_iff_toInt_lt.mp (Int32.not_le.mp c_1)
        refine lv_aload_n hx hb (oc_42 37 (aq_13 shX12_sharedBy_24)) rfl (lvA1 hl) ?_
        refine gM_116 S hK hP (v := .ref (g 50)) rfl (oc_180 38 (aq_14 shX12_sharedBy_24) uw_0_116) ?_
        refine lv_iload_n hx hb (oc_28 41 (aq_17 shX12_sharedBy_24)) rfl (lvA0 hl) ?_
        have kb_2 : i29 < 6 := by (first | omega | (have zz0 := Hid.u hi_cn; omega))
        obtain ⟨a_7, ha_7, ea_7⟩ := hrow29 i29 (by (first | omega | (have zz0 := Hid.u hi_cn; omega)))
        refine ldM_50 hx hb hK hP (x := (nI a_7)) (vp_in_nI kb_2 (ltb rfl)) (nI_clamp (Nat.lt_trans kb_2 (ltb rfl))) ea_7 (oc_46 42 (aq_18 shX12_sharedBy_24)) ?_
        have hd29 : DG (cn 46) (cn 44) s0 i29 = a_7 := nIw_inj (Nat.lt_trans (Nat.mod_lt _ (by (first | omega | (have zz0 := Hid.u hi_cn; omega)))) (by (first | omega | (have zz0 := Hid.u hi_cn; omega)))) (by (first | omega | (have zz0 := Hid.u hi_cn; omega))) ((hrow i29 (by (first | omega | (have zz0 := Hid.u hi_cn; omega)))).symm.trans ((congrFun (hfr29.2.2 50 (nml rfl)) i29).symm.trans ea_7))
        refine lv_istore_n (lv' := [(3, .int (nI a_7)), (2, .int (nI i29)), (0, .ref (g 100)), (1, .int (nI d0))]) hx hb (oc_62 43 (aq_19 shX12_sharedBy_24)) rfl hl (ltb rfl) rfl (fun ls hl => ?_)
        refine lv_aload_n hx hb (oc_42 44 (aq_20 shX12_sharedBy_24)) rfl (lvA2 hl) ?_
        refine gM_125 S hK hP (v := .ref (g 53)) rfl (oc_180 45 (aq_21 shX12_sharedBy_24) uw_0_125) ?_
        refine lv_sipush (v := 400) hx hb (oc_17 48 shX12_sharedBy_48 sgw_1_144) (by decide) ?_
        refine lv_iload_n hx hb (oc_29 51 (aq_3 shX12_sharedBy_48)) rfl (lvA0 hl) ?_
        refine lv_imul hx hb (oc_104 52 (aq_4 shX12_sharedBy_48)) ?_
        refine lv_topi (fun y_8 ey_8 => ?_)
        obtain rfl : y_8 = (nI (400 * a_7)) := ey_8.trans (pk_mul 400 a_7)
        refine lv_iload_n hx hb (oc_27 53 (aq_5 shX12_sharedBy_48)) rfl (lvA3 hl) ?_
        refine lv_iadd hx hb (oc_96 54 (aq_6 shX12_sharedBy_48)) ?_
        refine lv_topi (fun y_9 ey_9 => ?_)
        obtain rfl : y_9 = (nI ((400 * a_7) + d0)) := ey_9.trans (nI_add (400 * a_7) d0)
        have kb_3 : ((400 * a_7) + d0) < 1200 := by (first | omega | (have zz0 := Hid.u hi_cn; omega))
        refine ldM_53 hx hb hK hP (x := ((F29 53) ((400 * a_7) + d0))) (vp_in_nI kb_3 (ltb rfl)) (nI_clamp (Nat.lt_trans kb_3 (ltb rfl))) rfl (oc_51 55 (aq_7 shX12_sharedBy_48)) ?_
        refine lv_if_eq (tgt := 61) hx hb (oc_153 56 (aq_8 shX12_sharedBy_48) sgw_0_5) rfl (fun c_10 => ?_) (fun c_10 => ?_)
        ·
          have tc_10 : (((F29 53) ((400 * a_7) + d0)).toInt : Int) = 0 := congrArg Int32.toInt c_10
          refine lv_aload_n hx hb (oc_42 61 (aq_13 shX12_sharedBy_48)) rfl (lvA2 hl) ?_
          refine gM_110 S hK hP (v := .ref (g 48)) rfl (oc_180 62 (aq_14 shX12_sharedBy_48) uw_0_110) ?_
          refine lv_iload_n hx hb (oc_29 65 (aq_17 shX12_sharedBy_48)) rfl (lvA0 hl) ?_
          refine lv_aload_n hx hb (oc_42 66 (aq_18 shX12_sharedBy_48)) rfl (lvA2 hl) ?_
          refine gM_110 S hK hP (v := .ref (g 48)) rfl (oc_180 67 (aq_19 shX12_sharedBy_48) uw_0_110) ?_
          refine lv_iload_n hx hb (oc_29 70 (aq_22 shX12_sharedBy_48)) rfl (lvA0 hl) ?_
          have kb_4 : a_7 < 3 := by (first | omega | (have zz0 := Hid.u hi_cn; omega))
          refine ldM_48 hx hb hK hP (x := ((F29 48) a_7)) (vp_in_nI kb_4 (ltb rfl)) (nI_clamp (Nat.lt_trans kb_4 (ltb rfl))) rfl (oc_46 71 (aq_23 shX12_sharedBy_48)) ?_
          refine lv_aload_n hx hb (oc_42 72 shX12_sharedBy_72) rfl (lvA2 hl) ?_
          refine lv_aload_n hx hb (oc_42 73 (aq_1 shX12_sharedBy_72)) rfl (lvA2 hl) ?_
          refine gM_101 S hK hP (v := .ref (g 42)) rfl (oc_180 74 (aq_2 shX12_sharedBy_72) uw_0_101) ?_
          refine lv_iload_n hx hb (oc_28 77 (aq_5 shX12_sharedBy_72)) rfl (lvA1 hl) ?_
          obtain ⟨a_11, ha_11, ea_11⟩ := hx29_1 i29 (by (first | omega | (have zz0 := Hid.u hi_cn; omega)))
          refine ldM_42 hx hb hK hP (x := (nI a_11)) (vp_in_nI (Nat.lt_of_lt_of_le kb_2 (Nat.le_of_ble_eq_true rfl)) (ltb rfl)) (nI_clamp (Nat.lt_trans kb_2 (ltb rfl))) ea_11 (oc_46 78 (aq_6 shX12_sharedBy_72)) ?_
          obtain rfl : a_11 = l0.getD i29 0 := nIw_inj (by (first | omega | (have zz0 := Hid.u hi_cn; omega))) (by have := hk0 i29 (by (first | omega | (have zz0 := Hid.u hi_cn; omega))); (first | omega | (have zz0 := Hid.u hi_cn; omega))) (ea_11.symm.trans (h42_29.at (by (first | omega | (have zz0 := Hid.u hi_cn; omega)))))
          have := hk0 i29 (by (first | omega | (have zz0 := Hid.u hi_cn; omega)))
          refine lv_iload_n hx hb (oc_27 79 (aq_7 shX12_sharedBy_72)) rfl (lvA3 hl) ?_
          refine vp_callSi (runV_ra (As := [.int (nI (l0.getD i29 0)), .int (nI d0)]) (rest := [.int ((F29 48) a_7), .int (nI a_7), .ref (g 48)]) S (q_likelyOn l D cI cB cZ g cn In F29 (l0.getD i29 0) (nI d0) hI29 (by (first | omega | (have zz0 := Hid.u hi_cn; omega)))) kV_RX12_222 hK hP 0 rfl rfl rfl ⟨Nat.le_of_ble_eq_true rfl, Nat.le_of_ble_eq_true rfl⟩ ⟨Nat.le_of_ble_eq_true rfl, Nat.le_of_ble_eq_true rfl⟩ rfl hl.1 rfl (Nat.le_of_ble_eq_true rfl) (oc_182 80 (aq_8 shX12_sharedBy_72) uw_0_222)) (fun r_12 h_13 => ?_)
          subst h_13
          have elk : lkM F29 (l0.getD i29 0) (nI d0) = lkM Fn (l0.getD i29 0) (nI d0) := by unfold lkM; rw [e5, e6, e7]
          refine lv_iadd hx hb (oc_96 83 (aq_11 shX12_sharedBy_72)) ?_
          refine stM_48 hx hb hK hP hD hS (Fn2 := (va_up F29 48 (upd (F29 48) a_7 (((F29 48) a_7) + (lkM F29 (l0.getD i29 0) (nI d0)))))) (vp_in_nI kb_4 (ltb rfl)) (nI_clamp (Nat.lt_trans kb_4 (ltb rfl))) rfl (oc_79 84 (aq_12 shX12_sharedBy_72)) (fun H locs hP hD hS => ?_)
          refine lv_aload_n hx hb (oc_42 85 (aq_13 shX12_sharedBy_72)) rfl (lvA2 hl) ?_
          refine gM_113 S hK hP (v := .ref (g 49)) rfl (oc_180 86 (aq_14 shX12_sharedBy_72) uw_0_113) ?_
          refine lv_iload_n hx hb (oc_29 89 (aq_17 shX12_sharedBy_72)) rfl (lvA0 hl) ?_
          refine lv_aload_n hx hb (oc_42 90 (aq_18 shX12_sharedBy_72)) rfl (lvA2 hl) ?_
          refine gM_113 S hK hP (v := .ref (g 49)) rfl (oc_180 91 (aq_19 shX12_sharedBy_72) uw_0_113) ?_
          refine lv_iload_n hx hb (oc_29 94 (aq_22 shX12_sharedBy_72)) rfl (lvA0 hl) ?_
          obtain ⟨a_14, ha_14, ea_14⟩ := hx29_0 a_7 (by (first | omega | (have zz0 := Hid.u hi_cn; omega)))
          refine ldM_49 hx hb hK hP (x := (nI a_14)) (vp_in_nI kb_4 (ltb rfl)) (nI_clamp (Nat.lt_trans kb_4 (ltb rfl))) ea_14 (oc_46 95 (aq_23 shX12_sharedBy_72)) ?_
          refine lv_iconst (v := 1) hx hb (oc_4 96 shX12_sharedBy_96) kic_1 ?_
          refine lv_iload_n hx hb (oc_28 97 (aq_1 shX12_sharedBy_96)) rfl (lvA1 hl) ?_
          refine lv_ishl hx hb (oc_120 98 (aq_2 shX12_sharedBy_96)) ?_
          refine lv_ior hx hb (oc_128 99 (aq_3 shX12_sharedBy_96)) ?_
          refine lv_topi (fun y_15 ey_15 => ?_)
          obtain rfl : y_15 = (nI (a_14 ||| 2 ^ i29)) := ey_15.trans (orW (by (first | omega | (have zz0 := Hid.u hi_cn; omega))) (by (first | omega | (have zz0 := Hid.u hi_cn; omega))))
          refine stM_49 hx hb hK hP hD hS (Fn2 := (va_up (va_up F29 48 (upd (F29 48) a_7 (((F29 48) a_7) + (lkM F29 (l0.getD i29 0) (nI d0))))) 49 (upd (F29 49) a_7 (nI (a_14 ||| 2 ^ i29))))) (vp_in_nI kb_4 (ltb rfl)) (nI_clamp (Nat.lt_trans kb_4 (ltb rfl))) rfl (oc_79 100 (aq_4 shX12_sharedBy_96)) (fun H locs hP hD hS => ?_)
          refine lv_iinc (v := (nI (i29 + 1))) (lv' := [(2, .int (nI (i29 + 1))), (3, .int (nI a_7)), (0, .ref (g 100)), (1, .int (nI d0))]) hx hb (oc_132 101 (aq_5 shX12_sharedBy_96) ub_2 sgb_1) hl (k := 1) rfl (nI_1 _) (ltb rfl) rfl (fun ls hl => ?_)
          refine lv_goto (tgt := 29) hx hb (oc_167 104 (aq_8 shX12_sharedBy_96) sgw_255_181) rfl ?_
          exact ih29 (i29 + 1) (va_up (va_up F29 48 (upd (F29 48) a_7 (((F29 48) a_7) + (lkM F29 (l0.getD i29 0) (nI d0))))) 49 (upd (F29 49) a_7 (nI (a_14 ||| 2 ^ i29)))) _ _ (by (first | omega | (have zz0 := Hid.u hi_cn; omega))) ⟨(by (first | omega | (have zz0 := Hid.u hi_cn; omega))), (Fr.mo (Fr.f 49 (Fr.f 48 hfr29)) (sbl rfl) (sbl rfl) (sbl rfl)), (IM.fr (In := In) hI29 (Fr.f 49 (Fr.f 48 Fr.rf)) (by decide) (by decide)), (LSet.up hx29_0 (or63 (by (first | omega | (have zz0 := Hid.u hi_cn; omega))) (by (first | omega | (have zz0 := Hid.u hi_cn; omega))))), (AK.fr (In := In) hx29_1 (Fr.f 49 (Fr.f 48 Fr.rf)) (by decide) (by decide)), (hx29_2.up (by (first | omega | (have zz0 := Hid.u hi_cn; omega))) hd29 ea_14 ha_14 elk), (fun a ha => if q9 : a = i29 then (by rw [q9, hd29, ← e53]; exact (by first | assumption | exact Int32.toInt_inj.mp (by assumption))) else hx29_3 a (by (first | omega | (have zz0 := Hid.u hi_cn; omega))))⟩ hP hD hS ls (lv_sub hl [0, 2, 3] rfl)
        ·
          have tc_10 : (((F29 53) ((400 * a_7) + d0)).toInt : Int) ≠ 0 := fun q => c_10 (Int32.toInt_inj.mp q)
          refine lv_iconst (v := (-1)) hx hb (oc_2 59 (aq_11 shX12_sharedBy_48)) kic_m1 ?_
          exact W.iret (v := (-1)) hx hb hr (fun t ht hW => ⟨⟨(-1), (cn, In, F29), rfl, ⟨(Fr.mo hfr29 (sbl rfl) (sbl rfl) (sbl rfl)), hI29, (by show VSH (cn 46) (cn 44) (fun i => lkM Fn (l0.getD i 0) (nI d0)) (fun j => ¬ Fn 53 (400 * j + d0) = 0) (Fn 47) (RND (fun a => Fn 3 (l0.getD a 0) + Fn 4 (l0.getD a 0)) (cn 44) (Fn 43)) (DG (cn 46) (cn 44) s0) (-1); exact (Or.inl ⟨⟨DG (cn 46) (cn 44) s0 i29, Nat.mod_lt _ (by (first | omega | (have zz0 := Hid.u hi_cn; omega))), LRB.off (by (first | omega | (have zz0 := Hid.u hi_cn; omega))) (by show ¬ Fn 53 (400 * DG (cn 46) (cn 44) s0 i29 + d0) = 0; rw [hd29, ← e53]; exact (by first | assumption | exact fun q => absurd (congrArg Int32.toInt q) (by assumption)))⟩, rfl⟩))⟩, by rw [ht]; exact hP, hD⟩, hS.F ht⟩) hS.2.2 (oc_172 60 (aq_12 shX12_sharedBy_48))
  exact lp_29 _ 0 (va_up (va_up (va_up (va_up (va_up (va_up Fn 48 (upd (Fn 48) 0 0)) 49 (upd (Fn 49) 0 0)) 48 (upd (upd (Fn 48) 0 0) 1 0)) 49 (upd (upd (Fn 49) 0 0) 1 0)) 48 (upd (upd (upd (Fn 48) 0 0) 1 0) 2 0)) 49 (upd (upd (upd (Fn 49) 0 0) 1 0) 2 0)) _ _ (Nat.lt_succ_self _) ⟨(by (first | omega | (have zz0 := Hid.u hi_cn; omega))), (Fr.mo (Fr.f 49 (Fr.f 48 (Fr.f 49 (Fr.f 48 (Fr.f 49 (Fr.f 48 Fr.rf)))))) (sbl rfl) (sbl rfl) (sbl rfl)), (IM.fr (In := In) hI (Fr.f 49 (Fr.f 48 (Fr.f 49 (Fr.f 48 (Fr.f 49 (Fr.f 48 Fr.rf)))))) (by decide) (by decide)), (LSet.z (Fn 49)), (AK.fr (In := In) hAK (Fr.f 49 (Fr.f 48 (Fr.f 49 (Fr.f 48 (Fr.f 49 (Fr.f 48 Fr.rf)))))) (by decide) (by decide)), L3.e0, (fun a ha => absurd ha (Nat.not_lt_zero a))⟩ hP hD hS ls (lv_sub hl [0, 1, 2] rfl)
set_option maxRecDepth 100000 in
set_option maxHeartbeats 4000000 in
theorem q_shared9 (l : Launch) (D : va_G) (cI cB cZ : ClassId) (g : Nat → Nat) (cn : Nat → Nat) (In : Nat → Int32) (Fn : Nat → Nat → Int32) (v0 v1 v2 : Int32) (sz : Nat) (hI : IM cn Fn) (hxy : ∀ k : Nat, k < cn 1 → XYB (Fn 3 k) (Fn 4 k)) (hT : ∀ j : Nat, j < cn 46 → 0 ≤ (Fn 47 j).toInt) : Met l yX12_shared (CWS yX12_shared cX12_shared 10 (some .int)) (RM 4 0 0) (PBw [.ref (g 100), .int v0, .int v1, .int v2] D cI cB cZ (wM cI cB cZ g cn In Fn) sz) (va_Qi (fun (r : Int32) (u : (Nat → Nat) × (Nat → Int32) × (Nat → Nat → Int32)) => (fun r c2 I2 F2 => Fr [44] [] [42, 43, 48, 49, 50, 51] cn In Fn c2 I2 F2 ∧ IM c2 F2 ∧ ((¬ ((0 ≤ v0.toInt ∧ v0.toInt ≤ 399) ∧ (1 ≤ v1.toInt ∧ v1.toInt ≤ 400) ∧ (v2.toInt = -1 ∨ (0 ≤ v2.toInt ∧ v2.toInt < (cn 1 : Int)))) ∧ r = -1) ∨ (((0 ≤ v0.toInt ∧ v0.toInt ≤ 399) ∧ (1 ≤ v1.toInt ∧ v1.toInt ≤ 400) ∧ (v2.toInt = -1 ∨ (0 ≤ v2.toInt ∧ v2.toInt < (cn 1 : Int)))) ∧ (∃ k : Nat, k < cn 1 ∧ v0.toInt < (Fn 7 k).toInt) ∧ r = -2) ∨ (((0 ≤ v0.toInt ∧ v0.toInt ≤ 399) ∧ (1 ≤ v1.toInt ∧ v1.toInt ≤ 400) ∧ (v2.toInt = -1 ∨ (0 ≤ v2.toInt ∧ v2.toInt < (cn 1 : Int)))) ∧ ((∃ l : List Nat, AL (fun k9 => v1.toInt ≤ (lkM Fn k9 v0).toInt) (cn 1) l ∧ 6 < l.length ∧ r = -2) ∨ ((∀ k : Nat, k < cn 1 → (Fn 7 k).toInt ≤ v0.toInt) ∧ ∃ (l : List Nat) (T : Nat → Int32) (b y : Int32), AL (fun k9 => v1.toInt ≤ (lkM Fn k9 v0).toInt) (cn 1) l ∧ l.length ≤ 6 ∧ TBL (fun a b => apM (Fn 3 (l.getD a 0)) (Fn 4 (l.getD a 0)) (Fn 3 (l.getD b 0)) (Fn 4 (l.getD b 0))) (fun a => Fn 3 (l.getD a 0) + Fn 4 (l.getD a 0)) l.length T (2 ^ l.length) ∧ BSP (fun (t : Nat) (z : Int32) => VSH (cn 46) l.length (fun i => lkM Fn (l.getD i 0) v0) (fun j => ¬ Fn 53 (400 * j + v0.toInt.toNat) = 0) (Fn 47) (RND (fun a => Fn 3 (l.getD a 0) + Fn 4 (l.getD a 0)) l.length T) (DG (cn 46) l.length t) z) (cn 46 ^ l.length) b y ∧ SHG (cn 46) (DG (cn 46) l.length) l v2 r b y))))) r u.1 u.2.1 u.2.2) (fun (u : (Nat → Nat) × (Nat → Int32) × (Nat → Nat → Int32)) (t : State) => va_P D vwCl (wM cI cB cZ g u.1 u.2.1 u.2.2) t.heap ∧ va_D (va_A (wM cI cB cZ g cn In Fn) sz) (wM cI cB cZ g u.1 u.2.1 u.2.2)) (va_A (wM cI cB cZ g cn In Fn) sz)) 0 0 (va_A (wM cI cB cZ g cn In Fn) sz) := by
  refine en_w (fun A => (va_Qi (fun (r : Int32) (u : (Nat → Nat) × (Nat → Int32) × (Nat → Nat → Int32)) => (fun (r : Int32) (c2 : Nat → Nat) (I2 : Nat → Int32) (F2 : Nat → Nat → Int32) => Fr [44] [] [42, 43, 48, 49, 50, 51] cn In Fn c2 I2 F2 ∧ IM c2 F2 ∧ ((¬ ((0 ≤ v0.toInt ∧ v0.toInt ≤ 399) ∧ (1 ≤ v1.toInt ∧ v1.toInt ≤ 400) ∧ (v2.toInt = -1 ∨ (0 ≤ v2.toInt ∧ v2.toInt < (cn 1 : Int)))) ∧ r = -1) ∨ (((0 ≤ v0.toInt ∧ v0.toInt ≤ 399) ∧ (1 ≤ v1.toInt ∧ v1.toInt ≤ 400) ∧ (v2.toInt = -1 ∨ (0 ≤ v2.toInt ∧ v2.toInt < (cn 1 : Int)))) ∧ (∃ k : Nat, k < cn 1 ∧ v0.toInt < (Fn 7 k).toInt) ∧ r = -2) ∨ (((0 ≤ v0.toInt ∧ v0.toInt ≤ 399) ∧ (1 ≤ v1.toInt ∧ v1.toInt ≤ 400) ∧ (v2.toInt = -1 ∨ (0 ≤ v2.toInt ∧ v2.toInt < (cn 1 : Int)))) ∧ ((∃ l : List Nat, AL (fun k9 => v1.toInt ≤ (lkM Fn k9 v0).toInt) (cn 1) l ∧ 6 < l.length ∧ r = -2) ∨ ((∀ k : Nat, k < cn 1 → (Fn 7 k).toInt ≤ v0.toInt) ∧ ∃ (l : List Nat) (T : Nat → Int32) (b y : Int32), AL (fun k9 => v1.toInt ≤ (lkM Fn k9 v0).toInt) (cn 1) l ∧ l.length ≤ 6 ∧ TBL (fun a b => apM (Fn 3 (l.getD a 0)) (Fn 4 (l.getD a 0)) (Fn 3 (l.getD b 0)) (Fn 4 (l.getD b 0))) (fun a => Fn 3 (l.getD a 0) + Fn 4 (l.getD a 0)) l.length T (2 ^ l.length) ∧ BSP (fun (t : Nat) (z : Int32) => VSH (cn 46) l.length (fun i => lkM Fn (l.getD i 0) v0) (fun j => ¬ Fn 53 (400 * j + v0.toInt.toNat) = 0) (Fn 47) (RND (fun a => Fn 3 (l.getD a 0) + Fn 4 (l.getD a 0)) l.length T) (DG (cn 46) l.length t) z) (cn 46 ^ l.length) b y ∧ SHG (cn 46) (DG (cn 46) l.length) l v2 r b y))))) r u.1 u.2.1 u.2.2) (fun (u : (Nat → Nat) × (Nat → Int32) × (Nat → Nat → Int32)) (t : State) => va_P D vwCl (wM cI cB cZ g u.1 u.2.1 u.2.2) t.heap ∧ va_D A (wM cI cB cZ g u.1 u.2.1 u.2.2)) A)) rfl rfl pn_RX12 (Nat.le_of_ble_eq_true rfl) (fun p e s m below meth c A hx hb hml hown S hr hlocks hnm hA hP hK hD hS ls hl => ?_)
  have hl : lv_has ls 10 [(0, .ref (g 100)), (1, .int v0), (2, .int v1), (3, .int v2)] := hl
  have hi_cn : Hid (CB cn) := hI.b
  refine lv_iload_n hx hb (oc_27 0 shX12_shared_0) rfl (lvA1 hl) ?_
  refine vp_callSi (runS_r (As := [.int v0]) (rest := []) S (q_isDay l D cI cB cZ v0 ) kS_RX12_341 hK hP [] rfl ⟨Nat.le_of_ble_eq_true rfl, Nat.le_of_ble_eq_true rfl⟩ ⟨Nat.le_of_ble_eq_true rfl, Nat.le_of_ble_eq_true rfl⟩ rfl hl.1 rfl (Nat.le_of_ble_eq_true rfl) (oc_184 1 (aq_1 shX12_shared_0) uw_1_85)) (fun r_1 h_2 => ?_)
  rcases h_2 with ⟨rfl, h_2⟩ | ⟨rfl, h_2⟩
  ·
    have h_2 : 0 ≤ v0.toInt ∧ v0.toInt ≤ 399 := h_2
    refine lv_if_eq (tgt := 31) hx hb dX12_shared_4 rfl (fun h => absurd h cq_eq_1_0) (fun _ => ?_)
    refine lv_iload_n hx hb (oc_28 7 (aq_7 shX12_shared_0)) rfl (lvA2 hl) ?_
    refine lv_iconst (v := 1) hx hb (oc_4 8 (aq_8 shX12_shared_0)) kic_1 ?_
    refine lv_sipush (v := 400) hx hb (oc_17 9 (aq_9 shX12_shared_0) sgw_1_144) (by decide) ?_
    refine vp_callSi (runS_r (As := [.int v1, .int 1, .int 400]) (rest := []) S (q_in l D cI cB cZ v1 1 400 ) kS_RX12_214 hK hP [] rfl ⟨Nat.le_of_ble_eq_true rfl, Nat.le_of_ble_eq_true rfl⟩ ⟨Nat.le_of_ble_eq_true rfl, Nat.le_of_ble_eq_true rfl⟩ rfl hl.1 rfl (Nat.le_of_ble_eq_true rfl) (oc_184 12 (aq_12 shX12_shared_0) uw_0_214)) (fun r_3 h_4 => ?_)
    rcases h_4 with ⟨rfl, h_4⟩ | ⟨rfl, h_4⟩
    ·
      have h_4 : 1 ≤ v1.toInt ∧ v1.toInt ≤ 400 := h_4
      refine lv_if_eq (tgt := 31) hx hb dX12_shared_15 rfl (fun h => absurd h cq_eq_1_0) (fun _ => ?_)
      refine lv_iload_n hx hb (oc_29 18 (aq_18 shX12_shared_0)) rfl (lvA3 hl) ?_
      refine lv_iconst (v := (-1)) hx hb (oc_2 19 (aq_19 shX12_shared_0)) kic_m1 ?_
      refine lv_icmp_eq (tgt := 33) hx hb (oc_159 20 (aq_20 shX12_shared_0) sgw_0_13) rfl (fun c_5 => ?_) (fun c_5 => ?_)
      ·
        have tc_5 : (v2.toInt : Int) = (-1) := congrArg Int32.toInt c_5
        obtain ⟨d0, hd0, rfl⟩ := nI_of (x := v0) (fun q => by have := Int32.lt_iff_toInt_lt.mp q; have e : (0 : Int32).toInt = 0 := rfl; (first | omega | (have zz0 := Hid.u hi_cn; omega)))
        have td0 : (nI d0).toInt = (d0 : Int) := nI_toInt hd0
        have zd0 : (nI d0).toInt.toNat = d0 := by (first | omega | (have zz0 := Hid.u hi_cn; omega))
        have hC9 : (0 ≤ (nI d0).toInt ∧ (nI d0).toInt ≤ 399) ∧ (1 ≤ v1.toInt ∧ v1.toInt ≤ 400) ∧ (v2.toInt = -1 ∨ (0 ≤ v2.toInt ∧ v2.toInt < (cn 1 : Int))) := by (first | omega | (have zz0 := Hid.u hi_cn; omega))
        refine lv_aload_n hx hb dX12_shared_33 rfl (lvA0 hl) ?_
        refine lv_iload_n hx hb dX12_shared_34 rfl (lvA1 hl) ?_
        refine lv_iload_n hx hb dX12_shared_35 rfl (lvA2 hl) ?_
        refine lv_bipush (v := 6) hx hb dX12_shared_36 kbc_6 ?_
        have hFc := free_all hD hS hA
        refine va_calli (runV_a (As := [.int (nI d0), .int v1, .int 6]) (rest := []) S (q_lays9 l D cI cB cZ g cn In Fn (nI d0) v1 6 s.heap.size hI (by decide) hxy) kV_RX12_380 hK hP hD 0 rfl rfl rfl ⟨Nat.le_of_ble_eq_true rfl, Nat.le_of_ble_eq_true rfl⟩ ⟨Nat.le_of_ble_eq_true rfl, Nat.le_of_ble_eq_true rfl⟩ rfl hl.1 rfl (Nat.le_of_ble_eq_true rfl) dX12_shared_38) hS (fun q _ h => hFc q h) hFc (fun r_6 u t H1 locs ht hvm wh_7 hB hz1 hk1 hS => ?_)
        obtain ⟨cn7, In7, Fn7⟩ := u
        obtain ⟨hP1, hD1⟩ := hB
        rw [ht] at hP1
        have hP : va_P D vwCl (wM cI cB cZ g cn7 In7 Fn7) H1 := hP1
        have hD : va_D A (wM cI cB cZ g cn7 In7 Fn7) := hD1.weaken (fun _ _ _ h => hFc _ h)
        generalize H1 = H at hP hS ⊢
        have vh_7 : (fun r c2 I2 F2 => Fr [44] [] [42, 43] cn In Fn c2 I2 F2 ∧ IM c2 F2 ∧ ((r = 0 ∧ ((∃ k : Nat, k < (cn 1) ∧ (nI d0).toInt < ((Fn 7) k).toInt) ∨ ∃ l : List Nat, AL (fun k9 => v1.toInt ≤ (lkM Fn k9 (nI d0)).toInt) ((cn 1)) l ∧ 6 < l.length)) ∨ (r = 1 ∧ (∀ k : Nat, k < (cn 1) → ((Fn 7) k).toInt ≤ (nI d0).toInt) ∧ ∃ l : List Nat, AL (fun k9 => v1.toInt ≤ (lkM Fn k9 (nI d0)).toInt) ((cn 1)) l ∧ l.length ≤ 6 ∧ c2 44 = l.length ∧ c2 44 ≤ 8 ∧ AK c2 F2 ∧ RWF (F2 42) nI l ∧ (TBL (fun a b => apM ((Fn 3) (l.getD a 0)) ((Fn 4) (l.getD a 0)) ((Fn 3) (l.getD b 0)) ((Fn 4) (l.getD b 0))) (fun a => (Fn 3) (l.getD a 0) + (Fn 4) (l.getD a 0)) l.length (F2 43) (2 ^ l.length))))) r_6 cn7 In7 Fn7 := wh_7
        obtain ⟨hfc7, hIn7, h_7⟩ := vh_7
        obtain rfl : In = In7 := (funext (fun k => hfc7.2.1 k List.not_mem_nil)).symm
        have hf7 : Fr [44] [] [42, 43, 48, 49, 50, 51] cn In Fn cn7 In Fn7 := Fr.mo (Fr.tr (Fr.rf (cn := cn) (In := In) (Fn := Fn)) hfc7) (sbl rfl) (sbl rfl) (sbl rfl)
        have hi_cn7 : Hid (CB cn7) := hIn7.b
        have hq_cn7 := Hid.i (frq_44_0_1_2_46_57_58_62_63_75_83 hf7)
        refine lv_if_ne (tgt := 47) hx hb dX12_shared_41 rfl (fun c_8 => ?_) (fun c_8 => ?_)
        ·
          have tc_8 : (r_6.toInt : Int) ≠ 0 := fun q => c_8 (Int32.toInt_inj.mp q)
          obtain ⟨hnb, l9, hal, hlw, hc44, h448, hAK9, r42, htb⟩ := (h_7.resolve_left (fun w => (show ¬ r_6 = 0 from (by first | assumption | exact fun q => absurd (congrArg Int32.toInt q) (by assumption))) w.1)).2
          clear h_7
          have f3 : Fn7 3 = Fn 3 := hfc7.2.2 3 (nml rfl)
          have f4 : Fn7 4 = Fn 4 := hfc7.2.2 4 (nml rfl)
          have f5 : Fn7 5 = Fn 5 := hfc7.2.2 5 (nml rfl)
          have f6 : Fn7 6 = Fn 6 := hfc7.2.2 6 (nml rfl)
          have f7 : Fn7 7 = Fn 7 := hfc7.2.2 7 (nml rfl)
          have f47 : Fn7 47 = Fn 47 := hfc7.2.2 47 (nml rfl)
          have f53 : Fn7 53 = Fn 53 := hfc7.2.2 53 (nml rfl)
          have e46 : cn7 46 = cn 46 := hfc7.1 46 (nml rfl)
          have e1 : cn7 1 = cn 1 := hfc7.1 1 (nml rfl)
          have hc6 : cn7 44 ≤ 6 := by (first | omega | (have zz0 := Hid.u hi_cn; have zz1 := Hid.u hi_cn7; have zz2 := Hid.u hq_cn7; omega))
          have hk9 : ∀ a : Nat, a < l9.length → l9.getD a 0 < cn7 1 := fun a ha => by have := (hal.ge ha).1; (first | omega | (have zz0 := Hid.u hi_cn; have zz1 := Hid.u hi_cn7; have zz2 := Hid.u hq_cn7; omega))
          have htb9 : TBL (fun a b => apM (Fn7 3 (l9.getD a 0)) (Fn7 4 (l9.getD a 0)) (Fn7 3 (l9.getD b 0)) (Fn7 4 (l9.getD b 0))) (fun a => Fn7 3 (l9.getD a 0) + Fn7 4 (l9.getD a 0)) (cn7 44) (Fn7 43) (2 ^ cn7 44) := by rw [hc44, f3, f4]; exact htb
          refine lv_iconst (v := 1) hx hb dX12_shared_47 kic_1 ?_
          refine lv_istore (lv' := [(4, .int 1), (0, .ref (g 100)), (1, .int (nI d0)), (2, .int v1), (3, .int v2)]) hx hb dX12_shared_48 hl (ltb rfl) rfl (fun ls hl => ?_)
          refine lv_iconst (v := 0) hx hb dX12_shared_50 kic_0 ?_
          refine lv_istore (lv' := [(5, .int 0), (4, .int 1), (0, .ref (g 100)), (1, .int (nI d0)), (2, .int v1), (3, .int v2)]) hx hb dX12_shared_51 hl (ltb rfl) rfl (fun ls hl => ?_)
          have lp_53 : ∀ (n : Nat) (i53 : Nat) (w53 : Nat) , (cn7 44) - i53 < n → (i53 ≤ (cn7 44) ∧ (w53 = (cn7 46) ^ i53 ∧ w53 ≤ 3 ^ i53)) → ∀ ls : Array Slot, lv_has ls 10 [(5, .int (nI i53)), (4, .int (nI w53)), (0, .ref (g 100)), (1, .int (nI d0)), (2, .int v1), (3, .int v2)] → W p l e (RM 4 0 0) s m ([.ref (g 100), .int (nI d0), .int v1, .int v2]).toArray below meth c H locs 0 0 (MQ below (va_Qi (fun (r : Int32) (u : (Nat → Nat) × (Nat → Int32) × (Nat → Nat → Int32)) => (fun r c2 I2 F2 => Fr [44] [] [42, 43, 48, 49, 50, 51] cn In Fn c2 I2 F2 ∧ IM c2 F2 ∧ ((¬ ((0 ≤ (nI d0).toInt ∧ (nI d0).toInt ≤ 399) ∧ (1 ≤ v1.toInt ∧ v1.toInt ≤ 400) ∧ (v2.toInt = -1 ∨ (0 ≤ v2.toInt ∧ v2.toInt < (cn 1 : Int)))) ∧ r = -1) ∨ (((0 ≤ (nI d0).toInt ∧ (nI d0).toInt ≤ 399) ∧ (1 ≤ v1.toInt ∧ v1.toInt ≤ 400) ∧ (v2.toInt = -1 ∨ (0 ≤ v2.toInt ∧ v2.toInt < (cn 1 : Int)))) ∧ (∃ k : Nat, k < cn 1 ∧ (nI d0).toInt < (Fn 7 k).toInt) ∧ r = -2) ∨ (((0 ≤ (nI d0).toInt ∧ (nI d0).toInt ≤ 399) ∧ (1 ≤ v1.toInt ∧ v1.toInt ≤ 400) ∧ (v2.toInt = -1 ∨ (0 ≤ v2.toInt ∧ v2.toInt < (cn 1 : Int)))) ∧ ((∃ l : List Nat, AL (fun k9 => v1.toInt ≤ (lkM Fn k9 (nI d0)).toInt) (cn 1) l ∧ 6 < l.length ∧ r = -2) ∨ ((∀ k : Nat, k < cn 1 → (Fn 7 k).toInt ≤ (nI d0).toInt) ∧ ∃ (l : List Nat) (T : Nat → Int32) (b y : Int32), AL (fun k9 => v1.toInt ≤ (lkM Fn k9 (nI d0)).toInt) (cn 1) l ∧ l.length ≤ 6 ∧ TBL (fun a b => apM (Fn 3 (l.getD a 0)) (Fn 4 (l.getD a 0)) (Fn 3 (l.getD b 0)) (Fn 4 (l.getD b 0))) (fun a => Fn 3 (l.getD a 0) + Fn 4 (l.getD a 0)) l.length T (2 ^ l.length) ∧ BSP (fun (t : Nat) (z : Int32) => VSH (cn 46) l.length (fun i => lkM Fn (l.getD i 0) (nI d0)) (fun j => ¬ Fn 53 (400 * j + (nI d0).toInt.toNat) = 0) (Fn 47) (RND (fun a => Fn 3 (l.getD a 0) + Fn 4 (l.getD a 0)) l.length T) (DG (cn 46) l.length t) z) (cn 46 ^ l.length) b y ∧ SHG (cn 46) (DG (cn 46) l.length) l v2 r b y))))) r u.1 u.2.1 u.2.2) (fun (u : (Nat → Nat) × (Nat → Int32) × (Nat → Nat → Int32)) (t : State) => va_P D vwCl (wM cI cB cZ g u.1 u.2.1 u.2.2) t.heap ∧ va_D A (wM cI cB cZ g u.1 u.2.1 u.2.2)) A) ([.ref (g 100), .int (nI d0), .int v1, .int v2]).toArray s 0 0 A) (F0 m 53 ls []) := by
            intro n53
            induction n53 with
            | zero => intros; (first | omega | (have zz0 := Hid.u hi_cn; have zz1 := Hid.u hi_cn7; have zz2 := Hid.u hq_cn7; omega))
            | succ n53 ih53 =>
              intro i53 w53 hmu53 hinv53 ls hl
              obtain ⟨hr53, hx53_0⟩ := hinv53
              have ti53 : (nI i53).toInt = (i53 : Int) := nI_toInt (by (first | omega | (have zz0 := Hid.u hi_cn; have zz1 := Hid.u hi_cn7; have zz2 := Hid.u hq_cn7; omega)))
              refine lv_iload hx hb dX12_shared_53 (lvA0 hl) ?_
              refine lv_aload_n hx hb dX12_shared_55 rfl (lvA2 hl) ?_
              refine gM_364 S hK hP (v := .int (nI (cn7 44))) rfl dX12_shared_56 ?_
              have : (nI (cn7 44)).toInt = (((cn7 44) : Nat) : Int) := nI_toInt (by (first | omega | (have zz0 := Hid.u hi_cn; have zz1 := Hid.u hi_cn7; have zz2 := Hid.u hq_cn7; omega)))
              refine lv_icmp_ge (tgt := 77) hx hb dX12_shared_59 rfl (fun c_9 => ?_) (fun c_9 => ?_)
              ·
                have tc_9 : ((nI (cn7 44)).toInt : Int) ≤ (nI i53).toInt := Int32.le_iff_toInt_le.mp c_9
                have hw3 : w53 ≤ 729 := Nat.le_trans hx53_0.2 (show 3 ^ i53 ≤ 3 ^ 6 from Nat.pow_le_pow_right (by (first | omega | (have zz0 := Hid.u hi_cn; have zz1 := Hid.u hi_cn7; have zz2 := Hid.u hq_cn7; omega))) (by (first | omega | (have zz0 := Hid.u hi_cn; have zz1 := Hid.u hi_cn7; have zz2 := Hid.u hq_cn7; omega))))
                have e53a : i53 = cn7 44 := by (first | omega | (have zz0 := Hid.u hi_cn; have zz1 := Hid.u hi_cn7; have zz2 := Hid.u hq_cn7; omega))
                have hw4 : w53 = cn7 46 ^ cn7 44 := by rw [← e53a]; exact hx53_0.1
                refine lv_iconst (v := (-1)) hx hb dX12_shared_77 kic_m1 ?_
                refine lv_istore (lv' := [(5, .int (-1)), (4, .int (nI w53)), (0, .ref (g 100)), (1, .int (nI d0)), (2, .int v1), (3, .int v2)]) hx hb dX12_shared_78 hl (ltb rfl) rfl (fun ls hl => ?_)
                refine lv_iconst (v := 0) hx hb dX12_shared_80 kic_0 ?_
                refine lv_istore (lv' := [(6, .int 0), (5, .int (-1)), (4, .int (nI w53)), (0, .ref (g 100)), (1, .int (nI d0)), (2, .int v1), (3, .int v2)]) hx hb dX12_shared_81 hl (ltb rfl) rfl (fun ls hl => ?_)
                have lp_83 : ∀ (n : Nat) (i83 : Nat) (x83_5 : Int32) (F83 : Nat → Nat → Int32) (H : Heap) (locs : List Loc) , w53 - i83 < n → (i83 ≤ w53 ∧ Fr [44] [] [42, 43, 48, 49, 50, 51] cn In Fn cn7 In F83 ∧ IM cn7 F83 ∧ (AK cn7 F83) ∧ (F83 42 = Fn7 42 ∧ F83 43 = Fn7 43) ∧ (∃ b : Int32, BSP (fun (t : Nat) (z : Int32) => VSH (cn7 46) (cn7 44) (fun i => lkM Fn7 (l9.getD i 0) (nI d0)) (fun j => ¬ Fn7 53 (400 * j + d0) = 0) (Fn7 47) (RND (fun a => Fn7 3 (l9.getD a 0) + Fn7 4 (l9.getD a 0)) (cn7 44) (Fn7 43)) (DG (cn7 46) (cn7 44) t) z) i83 b x83_5 ∧ ((b = -1 ∧ x83_5 = -1) ∨ ∃ s : Nat, b = nI s ∧ s < i83 ∧ ∀ a : Nat, a < cn7 44 → F83 51 a = nI (DG (cn7 46) (cn7 44) s a)))) → va_P D vwCl (wM cI cB cZ g cn7 In F83) H → va_D A (wM cI cB cZ g cn7 In F83) → va_S A s.heap H locs → ∀ ls : Array Slot, lv_has ls 10 [(6, .int (nI i83)), (5, .int x83_5), (4, .int (nI w53)), (0, .ref (g 100)), (1, .int (nI d0)), (2, .int v1), (3, .int v2)] → W p l e (RM 4 0 0) s m ([.ref (g 100), .int (nI d0), .int v1, .int v2]).toArray below meth c H locs 0 0 (MQ below (va_Qi (fun (r : Int32) (u : (Nat → Nat) × (Nat → Int32) × (Nat → Nat → Int32)) => (fun r c2 I2 F2 => Fr [44] [] [42, 43, 48, 49, 50, 51] cn In Fn c2 I2 F2 ∧ IM c2 F2 ∧ ((¬ ((0 ≤ (nI d0).toInt ∧ (nI d0).toInt ≤ 399) ∧ (1 ≤ v1.toInt ∧ v1.toInt ≤ 400) ∧ (v2.toInt = -1 ∨ (0 ≤ v2.toInt ∧ v2.toInt < (cn 1 : Int)))) ∧ r = -1) ∨ (((0 ≤ (nI d0).toInt ∧ (nI d0).toInt ≤ 399) ∧ (1 ≤ v1.toInt ∧ v1.toInt ≤ 400) ∧ (v2.toInt = -1 ∨ (0 ≤ v2.toInt ∧ v2.toInt < (cn 1 : Int)))) ∧ (∃ k : Nat, k < cn 1 ∧ (nI d0).toInt < (Fn 7 k).toInt) ∧ r = -2) ∨ (((0 ≤ (nI d0).toInt ∧ (nI d0).toInt ≤ 399) ∧ (1 ≤ v1.toInt ∧ v1.toInt ≤ 400) ∧ (v2.toInt = -1 ∨ (0 ≤ v2.toInt ∧ v2.toInt < (cn 1 : Int)))) ∧ ((∃ l : List Nat, AL (fun k9 => v1.toInt ≤ (lkM Fn k9 (nI d0)).toInt) (cn 1) l ∧ 6 < l.length ∧ r = -2) ∨ ((∀ k : Nat, k < cn 1 → (Fn 7 k).toInt ≤ (nI d0).toInt) ∧ ∃ (l : List Nat) (T : Nat → Int32) (b y : Int32), AL (fun k9 => v1.toInt ≤ (lkM Fn k9 (nI d0)).toInt) (cn 1) l ∧ l.length ≤ 6 ∧ TBL (fun a b => apM (Fn 3 (l.getD a 0)) (Fn 4 (l.getD a 0)) (Fn 3 (l.getD b 0)) (Fn 4 (l.getD b 0))) (fun a => Fn 3 (l.getD a 0) + Fn 4 (l.getD a 0)) l.length T (2 ^ l.length) ∧ BSP (fun (t : Nat) (z : Int32) => VSH (cn 46) l.length (fun i => lkM Fn (l.getD i 0) (nI d0)) (fun j => ¬ Fn 53 (400 * j + (nI d0).toInt.toNat) = 0) (Fn 47) (RND (fun a => Fn 3 (l.getD a 0) + Fn 4 (l.getD a 0)) l.length T) (DG (cn 46) l.length t) z) (cn 46 ^ l.length) b y ∧ SHG (cn 46) (DG (cn 46) l.length) l v2 r b y))))) r u.1 u.2.1 u.2.2) (fun (u : (Nat → Nat) × (Nat → Int32) × (Nat → Nat → Int32)) (t : State) => va_P D vwCl (wM cI cB cZ g u.1 u.2.1 u.2.2) t.heap ∧ va_D A (wM cI cB cZ g u.1 u.2.1 u.2.2)) A) ([.ref (g 100), .int (nI d0), .int v1, .int v2]).toArray s 0 0 A) (F0 m 83 ls []) := by
                  intro n83
                  induction n83 with
                  | zero => intros; (first | omega | (have zz0 := Hid.u hi_cn; have zz1 := Hid.u hi_cn7; have zz2 := Hid.u hq_cn7; omega))
                  | succ n83 ih83 =>
                    intro i83 x83_5 F83 H locs hmu83 hinv83 hP hD hS ls hl
                    obtain ⟨hr83, hfr83, hI83, hx83_0, hx83_1, hx83_2⟩ := hinv83
                    have ti83 : (nI i83).toInt = (i83 : Int) := nI_toInt (by (first | omega | (have zz0 := Hid.u hi_cn; have zz1 := Hid.u hi_cn7; have zz2 := Hid.u hq_cn7; omega)))
                    have hi_cn7 : Hid (CB cn7) := hI83.b
                    have hq_cn7 := Hid.i (frq_44_0_1_2_46_57_58_62_63_75_83 hfr83)
                    obtain ⟨b8, hb8, hr8⟩ := hx83_2
                    have r42_83 : RWF (F83 42) nI l9 := by rw [hx83_1.1]; exact r42
                    refine lv_iload hx hb dX12_shared_83 (lvA0 hl) ?_
                    refine lv_iload hx hb dX12_shared_85 (lvA2 hl) ?_
                    have : (nI w53).toInt = ((w53 : Nat) : Int) := nI_toInt (by (first | omega | (have zz0 := Hid.u hi_cn; have zz1 := Hid.u hi_cn7; have zz2 := Hid.u hq_cn7; omega)))
                    refine lv_icmp_ge (tgt := 207) hx hb dX12_shared_87 rfl (fun c_10 => ?_) (fun c_10 => ?_)
                    ·
                      have tc_10 : ((nI w53).toInt : Int) ≤ (nI i83).toInt := Int32.le_iff_toInt_le.mp c_10
                      refine lv_iload hx hb dX12_shared_207 (lvA1 hl) ?_
                      refine lv_iconst (v := (-1)) hx hb dX12_shared_209 kic_m1 ?_
                      refine lv_icmp_ne (tgt := 216) hx hb dX12_shared_210 rfl (fun c_11 => ?_) (fun c_11 => ?_)
                      ·
                        have tc_11 : (x83_5.toInt : Int) ≠ (-1) := fun q => c_11 (Int32.toInt_inj.mp q)
                        refine lv_iload_n hx hb dX12_shared_216 rfl (lvA6 hl) ?_
                        refine lv_iconst (v := (-1)) hx hb dX12_shared_217 kic_m1 ?_
                        refine lv_icmp_ne (tgt := 224) hx hb dX12_shared_218 rfl (fun c_12 => False.elim (by have tc_12 : (v2.toInt : Int) ≠ (-1) := fun q => c_12 (Int32.toInt_inj.mp q); (first | omega | (have zz0 := Hid.u hi_cn; have zz1 := Hid.u hi_cn7; have zz2 := Hid.u hq_cn7; omega)))) (fun c_12 => ?_)
                        have tc_12 : (v2.toInt : Int) = (-1) := congrArg Int32.toInt c_12
                        refine lv_iload hx hb dX12_shared_221 (lvA1 hl) ?_
                        exact W.iret (v := x83_5) hx hb hr (fun t ht hW => ⟨⟨x83_5, (cn7, In, F83), rfl, ⟨(Fr.mo hfr83 (sbl rfl) (sbl rfl) (sbl rfl)), hI83, (by show (¬ ((0 ≤ (nI d0).toInt ∧ (nI d0).toInt ≤ 399) ∧ (1 ≤ v1.toInt ∧ v1.toInt ≤ 400) ∧ (v2.toInt = -1 ∨ (0 ≤ v2.toInt ∧ v2.toInt < (cn 1 : Int)))) ∧ x83_5 = -1) ∨ (((0 ≤ (nI d0).toInt ∧ (nI d0).toInt ≤ 399) ∧ (1 ≤ v1.toInt ∧ v1.toInt ≤ 400) ∧ (v2.toInt = -1 ∨ (0 ≤ v2.toInt ∧ v2.toInt < (cn 1 : Int)))) ∧ (∃ k : Nat, k < cn 1 ∧ (nI d0).toInt < (Fn 7 k).toInt) ∧ x83_5 = -2) ∨ (((0 ≤ (nI d0).toInt ∧ (nI d0).toInt ≤ 399) ∧ (1 ≤ v1.toInt ∧ v1.toInt ≤ 400) ∧ (v2.toInt = -1 ∨ (0 ≤ v2.toInt ∧ v2.toInt < (cn 1 : Int)))) ∧ ((∃ l : List Nat, AL (fun k9 => v1.toInt ≤ (lkM Fn k9 (nI d0)).toInt) (cn 1) l ∧ 6 < l.length ∧ x83_5 = -2) ∨ ((∀ k : Nat, k < cn 1 → (Fn 7 k).toInt ≤ (nI d0).toInt) ∧ ∃ (l : List Nat) (T : Nat → Int32) (b y : Int32), AL (fun k9 => v1.toInt ≤ (lkM Fn k9 (nI d0)).toInt) (cn 1) l ∧ l.length ≤ 6 ∧ TBL (fun a b => apM (Fn 3 (l.getD a 0)) (Fn 4 (l.getD a 0)) (Fn 3 (l.getD b 0)) (Fn 4 (l.getD b 0))) (fun a => Fn 3 (l.getD a 0) + Fn 4 (l.getD a 0)) l.length T (2 ^ l.length) ∧ BSP (fun (t : Nat) (z : Int32) => VSH (cn 46) l.length (fun i => lkM Fn (l.getD i 0) (nI d0)) (fun j => ¬ Fn 53 (400 * j + (nI d0).toInt.toNat) = 0) (Fn 47) (RND (fun a => Fn 3 (l.getD a 0) + Fn 4 (l.getD a 0)) l.length T) (DG (cn 46) l.length t) z) (cn 46 ^ l.length) b y ∧ SHG (cn 46) (DG (cn 46) l.length) l v2 x83_5 b y))); have e9 : i83 = w53 := (by (first | omega | (have zz0 := Hid.u hi_cn; have zz1 := Hid.u hi_cn7; have zz2 := Hid.u hq_cn7; omega))); rw [e9, hw4] at hb8; have hg9 := (show SHG (cn7 46) (DG (cn7 46) l9.length) l9 v2 x83_5 b8 x83_5 from (Or.inr (Or.inl ⟨(hr8.elim (fun q9 => absurd q9.2 (by first | assumption | exact fun q => absurd (congrArg Int32.toInt q) (by assumption))) (fun q9 w9 => by obtain ⟨s9, es9, hs9, -⟩ := q9; exact nI_ne1 (by (first | omega | (have zz0 := Hid.u hi_cn; have zz1 := Hid.u hi_cn7; have zz2 := Hid.u hq_cn7; omega))) (es9.symm.trans w9))), (by first | assumption | exact Int32.toInt_inj.mp (by assumption)), rfl⟩))); rw [hc44, e46] at hb8; exact (Or.inr (Or.inr ⟨hC9, Or.inr ⟨hnb, l9, Fn7 43, b8, x83_5, hal, by (first | omega | (have zz0 := Hid.u hi_cn; have zz1 := Hid.u hi_cn7; have zz2 := Hid.u hq_cn7; omega)), htb, (by rw [zd0]; exact (BSP.mo (fun t z ht hz => VSH.cg (fun i hi => by show lkM Fn7 (l9.getD i 0) (nI d0) = lkM Fn (l9.getD i 0) (nI d0); unfold lkM; rw [f5, f6, f7]) (fun j _ => by rw [f53]) (fun j _ => by rw [f47]) (fun S x hS hx => by rw [f3, f4] at hx; exact hx) hz) hb8)), (by rw [← e46]; exact hg9)⟩⟩)))⟩, by rw [ht]; exact hP, hD⟩, hS.F ht⟩) hS.2.2 dX12_shared_223
                      ·
                        have tc_11 : (x83_5.toInt : Int) = (-1) := congrArg Int32.toInt c_11
                        refine lv_bipush (v := (-2)) hx hb dX12_shared_213 kbc_m2 ?_
                        exact W.iret (v := (-2)) hx hb hr (fun t ht hW => ⟨⟨(-2), (cn7, In, F83), rfl, ⟨(Fr.mo hfr83 (sbl rfl) (sbl rfl) (sbl rfl)), hI83, (by show (¬ ((0 ≤ (nI d0).toInt ∧ (nI d0).toInt ≤ 399) ∧ (1 ≤ v1.toInt ∧ v1.toInt ≤ 400) ∧ (v2.toInt = -1 ∨ (0 ≤ v2.toInt ∧ v2.toInt < (cn 1 : Int)))) ∧ (-2) = -1) ∨ (((0 ≤ (nI d0).toInt ∧ (nI d0).toInt ≤ 399) ∧ (1 ≤ v1.toInt ∧ v1.toInt ≤ 400) ∧ (v2.toInt = -1 ∨ (0 ≤ v2.toInt ∧ v2.toInt < (cn 1 : Int)))) ∧ (∃ k : Nat, k < cn 1 ∧ (nI d0).toInt < (Fn 7 k).toInt) ∧ (-2) = -2) ∨ (((0 ≤ (nI d0).toInt ∧ (nI d0).toInt ≤ 399) ∧ (1 ≤ v1.toInt ∧ v1.toInt ≤ 400) ∧ (v2.toInt = -1 ∨ (0 ≤ v2.toInt ∧ v2.toInt < (cn 1 : Int)))) ∧ ((∃ l : List Nat, AL (fun k9 => v1.toInt ≤ (lkM Fn k9 (nI d0)).toInt) (cn 1) l ∧ 6 < l.length ∧ (-2) = -2) ∨ ((∀ k : Nat, k < cn 1 → (Fn 7 k).toInt ≤ (nI d0).toInt) ∧ ∃ (l : List Nat) (T : Nat → Int32) (b y : Int32), AL (fun k9 => v1.toInt ≤ (lkM Fn k9 (nI d0)).toInt) (cn 1) l ∧ l.length ≤ 6 ∧ TBL (fun a b => apM (Fn 3 (l.getD a 0)) (Fn 4 (l.getD a 0)) (Fn 3 (l.getD b 0)) (Fn 4 (l.getD b 0))) (fun a => Fn 3 (l.getD a 0) + Fn 4 (l.getD a 0)) l.length T (2 ^ l.length) ∧ BSP (fun (t : Nat) (z : Int32) => VSH (cn 46) l.length (fun i => lkM Fn (l.getD i 0) (nI d0)) (fun j => ¬ Fn 53 (400 * j + (nI d0).toInt.toNat) = 0) (Fn 47) (RND (fun a => Fn 3 (l.getD a 0) + Fn 4 (l.getD a 0)) l.length T) (DG (cn 46) l.length t) z) (cn 46 ^ l.length) b y ∧ SHG (cn 46) (DG (cn 46) l.length) l v2 (-2) b y))); have e9 : i83 = w53 := (by (first | omega | (have zz0 := Hid.u hi_cn; have zz1 := Hid.u hi_cn7; have zz2 := Hid.u hq_cn7; omega))); rw [e9, hw4] at hb8; have hg9 := (show SHG (cn7 46) (DG (cn7 46) l9.length) l9 v2 (-2) b8 x83_5 from (Or.inl ⟨hb8.or.elim id (fun q9 => absurd (by first | assumption | exact Int32.toInt_inj.mp (by assumption)) q9), rfl⟩)); rw [hc44, e46] at hb8; exact (Or.inr (Or.inr ⟨hC9, Or.inr ⟨hnb, l9, Fn7 43, b8, x83_5, hal, by (first | omega | (have zz0 := Hid.u hi_cn; have zz1 := Hid.u hi_cn7; have zz2 := Hid.u hq_cn7; omega)), htb, (by rw [zd0]; exact (BSP.mo (fun t z ht hz => VSH.cg (fun i hi => by show lkM Fn7 (l9.getD i 0) (nI d0) = lkM Fn (l9.getD i 0) (nI d0); unfold lkM; rw [f5, f6, f7]) (fun j _ => by rw [f53]) (fun j _ => by rw [f47]) (fun S x hS hx => by rw [f3, f4] at hx; exact hx) hz) hb8)), (by rw [← e46]; exact hg9)⟩⟩)))⟩, by rw [ht]; exact hP, hD⟩, hS.F ht⟩) hS.2.2 dX12_shared_215
                    ·
                      have tc_10 : ((nI i83).toInt : Int) < (nI w53).toInt := Int32.lt_iff_toInt_lt.mp (Int32.not_le.mp c_10)
                      refine lv_iload hx hb dX12_shared_90 (lvA0 hl) ?_
                      refine lv_istore (lv' := [(7, .int (nI i83)), (6, .int (nI i83)), (5, .int x83_5), (4, .int (nI w53)), (0, .ref (g 100)), (1, .int (nI d0)), (2, .int v1), (3, .int v2)]) hx hb dX12_shared_92 hl (ltb rfl) rfl (fun ls hl => ?_)
                      refine lv_aload_n hx hb dX12_shared_94 rfl (lvA4 hl) ?_
                      refine gM_364 S hK hP (v := .int (nI (cn7 44))) rfl dX12_shared_95 ?_
                      refine lv_iconst (v := 1) hx hb dX12_shared_98 kic_1 ?_
                      refine lv_isub hx hb dX12_shared_99 ?_
                      refine lv_topi (fun y_13 ey_13 => ?_)
                      obtain rfl : y_13 = (nI (cn7 44) + (-1)) := ey_13.trans (Int32.sub_eq_add_neg ..)
                      refine lv_istore (lv' := [(8, .int (nI (cn7 44) + (-1))), (7, .int (nI i83)), (6, .int (nI i83)), (5, .int x83_5), (4, .int (nI w53)), (0, .ref (g 100)), (1, .int (nI d0)), (2, .int v1), (3, .int v2)]) hx hb dX12_shared_100 hl (ltb rfl) rfl (fun ls hl => ?_)
                      have lp_102 : ∀ (n : Nat) (q102 : Nat) (k102 : Nat) (F102 : Nat → Nat → Int32) (H : Heap) (locs : List Loc) , k102 < n → (Fr [44] [] [42, 43, 48, 49, 50, 51] cn In Fn cn7 In F102 ∧ IM cn7 F102 ∧ (k102 ≤ (cn7 44) ∧ q102 ≤ w53 ∧ q102 = i83 / (cn7 46) ^ ((cn7 44) - k102)) ∧ (∀ a : Nat, k102 ≤ a → a < (cn7 44) → F102 50 a = nI (DG (cn7 46) (cn7 44) i83 a)) ∧ (AK cn7 F102) ∧ (F102 42 = Fn7 42 ∧ F102 43 = Fn7 43 ∧ F102 51 = F83 51)) → va_P D vwCl (wM cI cB cZ g cn7 In F102) H → va_D A (wM cI cB cZ g cn7 In F102) → va_S A s.heap H locs → ∀ ls : Array Slot, lv_has ls 10 [(8, .int (nI k102 + (-1))), (7, .int (nI q102)), (6, .int (nI i83)), (5, .int x83_5), (4, .int (nI w53)), (0, .ref (g 100)), (1, .int (nI d0)), (2, .int v1), (3, .int v2)] → W p l e (RM 4 0 0) s m ([.ref (g 100), .int (nI d0), .int v1, .int v2]).toArray below meth c H locs 0 0 (MQ below (va_Qi (fun (r : Int32) (u : (Nat → Nat) × (Nat → Int32) × (Nat → Nat → Int32)) => (fun r c2 I2 F2 => Fr [44] [] [42, 43, 48, 49, 50, 51] cn In Fn c2 I2 F2 ∧ IM c2 F2 ∧ ((¬ ((0 ≤ (nI d0).toInt ∧ (nI d0).toInt ≤ 399) ∧ (1 ≤ v1.toInt ∧ v1.toInt ≤ 400) ∧ (v2.toInt = -1 ∨ (0 ≤ v2.toInt ∧ v2.toInt < (cn 1 : Int)))) ∧ r = -1) ∨ (((0 ≤ (nI d0).toInt ∧ (nI d0).toInt ≤ 399) ∧ (1 ≤ v1.toInt ∧ v1.toInt ≤ 400) ∧ (v2.toInt = -1 ∨ (0 ≤ v2.toInt ∧ v2.toInt < (cn 1 : Int)))) ∧ (∃ k : Nat, k < cn 1 ∧ (nI d0).toInt < (Fn 7 k).toInt) ∧ r = -2) ∨ (((0 ≤ (nI d0).toInt ∧ (nI d0).toInt ≤ 399) ∧ (1 ≤ v1.toInt ∧ v1.toInt ≤ 400) ∧ (v2.toInt = -1 ∨ (0 ≤ v2.toInt ∧ v2.toInt < (cn 1 : Int)))) ∧ ((∃ l : List Nat, AL (fun k9 => v1.toInt ≤ (lkM Fn k9 (nI d0)).toInt) (cn 1) l ∧ 6 < l.length ∧ r = -2) ∨ ((∀ k : Nat, k < cn 1 → (Fn 7 k).toInt ≤ (nI d0).toInt) ∧ ∃ (l : List Nat) (T : Nat → Int32) (b y : Int32), AL (fun k9 => v1.toInt ≤ (lkM Fn k9 (nI d0)).toInt) (cn 1) l ∧ l.length ≤ 6 ∧ TBL (fun a b => apM (Fn 3 (l.getD a 0)) (Fn 4 (l.getD a 0)) (Fn 3 (l.getD b 0)) (Fn 4 (l.getD b 0))) (fun a => Fn 3 (l.getD a 0) + Fn 4 (l.getD a 0)) l.length T (2 ^ l.length) ∧ BSP (fun (t : Nat) (z : Int32) => VSH (cn 46) l.length (fun i => lkM Fn (l.getD i 0) (nI d0)) (fun j => ¬ Fn 53 (400 * j + (nI d0).toInt.toNat) = 0) (Fn 47) (RND (fun a => Fn 3 (l.getD a 0) + Fn 4 (l.getD a 0)) l.length T) (DG (cn 46) l.length t) z) (cn 46 ^ l.length) b y ∧ SHG (cn 46) (DG (cn 46) l.length) l v2 r b y))))) r u.1 u.2.1 u.2.2) (fun (u : (Nat → Nat) × (Nat → Int32) × (Nat → Nat → Int32)) (t : State) => va_P D vwCl (wM cI cB cZ g u.1 u.2.1 u.2.2) t.heap ∧ va_D A (wM cI cB cZ g u.1 u.2.1 u.2.2)) A) ([.ref (g 100), .int (nI d0), .int v1, .int v2]).toArray s 0 0 A) (F0 m 102 ls []) := by
                        intro n102
                        induction n102 with
                        | zero => intros; (first | omega | (have zz0 := Hid.u hi_cn; have zz1 := Hid.u hi_cn7; have zz2 := Hid.u hq_cn7; omega))
                        | succ n102 ih102 =>
                          intro q102 k102 F102 H locs hmu102 hinv102 hP hD hS ls hl
                          obtain ⟨hfr102, hI102, hx102_0, hx102_1, hx102_2, hx102_3⟩ := hinv102
                          have hi_cn7 : Hid (CB cn7) := hI102.b
                          have hq_cn7 := Hid.i (frq_44_0_1_2_46_57_58_62_63_75_83 hfr102)
                          rcases k102 with _ | j102
                          ·
                            rw [show nI 0 + (-1) = (-1 : Int32) by decide] at hl
                            have hl : lv_has ls 10 [(8, .int (-1)), (7, .int (nI q102)), (6, .int (nI i83)), (5, .int x83_5), (4, .int (nI w53)), (0, .ref (g 100)), (1, .int (nI d0)), (2, .int v1), (3, .int v2)] := hl
                            refine lv_iload hx hb dX12_shared_102 (lvA0 hl) ?_
                            refine lv_if_lt (tgt := 136) hx hb dX12_shared_104 rfl (fun _ => ?_) (fun h => absurd h cq_lt_m1_0)
                            refine lv_aload_n hx hb dX12_shared_136 rfl (lvA5 hl) ?_
                            refine lv_iload_n hx hb dX12_shared_137 rfl (lvA6 hl) ?_
                            have x3 : F102 3 = Fn7 3 := (hfr102.2.2 3 (nml rfl)).trans f3.symm
                            have x4 : F102 4 = Fn7 4 := (hfr102.2.2 4 (nml rfl)).trans f4.symm
                            have x5 : F102 5 = Fn7 5 := (hfr102.2.2 5 (nml rfl)).trans f5.symm
                            have x6 : F102 6 = Fn7 6 := (hfr102.2.2 6 (nml rfl)).trans f6.symm
                            have x7 : F102 7 = Fn7 7 := (hfr102.2.2 7 (nml rfl)).trans f7.symm
                            have x47 : F102 47 = Fn7 47 := (hfr102.2.2 47 (nml rfl)).trans f47.symm
                            have x53 : F102 53 = Fn7 53 := (hfr102.2.2 53 (nml rfl)).trans f53.symm
                            have x42 : RWF (F102 42) nI l9 := by rw [hx102_3.1]; exact r42
                            have hL9 : cn7 44 = 0 ∨ 0 < cn7 46 := pw0 (s := i83) (by rw [← hw4]; (first | omega | (have zz0 := Hid.u hi_cn; have zz1 := Hid.u hi_cn7; have zz2 := Hid.u hq_cn7; omega)))
                            have hFc := free_all hD hS hA
                            refine va_calli (runV_a (As := [.int (nI d0)]) (rest := []) S (q_sharedBy9 l D cI cB cZ g cn7 In F102 d0 i83 l9 H.size hI102 (by (first | omega | (have zz0 := Hid.u hi_cn; have zz1 := Hid.u hi_cn7; have zz2 := Hid.u hq_cn7; omega))) (by (first | omega | (have zz0 := Hid.u hi_cn; have zz1 := Hid.u hi_cn7; have zz2 := Hid.u hq_cn7; omega))) hx102_2 hc44 x42 (fun k hk => by rw [x3, x4, f3, f4]; exact hxy k (by (first | omega | (have zz0 := Hid.u hi_cn; have zz1 := Hid.u hi_cn7; have zz2 := Hid.u hq_cn7; omega)))) hk9 (fun a ha => hx102_1 a (Nat.zero_le a) ha) hL9 (fun j hj => by rw [x47, f47]; exact hT j (by (first | omega | (have zz0 := Hid.u hi_cn; have zz1 := Hid.u hi_cn7; have zz2 := Hid.u hq_cn7; omega)))) (by rw [x3, x4, hx102_3.2.1]; exact htb9)) kV_RX12_392 hK hP hD 0 rfl rfl rfl ⟨Nat.le_of_ble_eq_true rfl, Nat.le_of_ble_eq_true rfl⟩ ⟨Nat.le_of_ble_eq_true rfl, Nat.le_of_ble_eq_true rfl⟩ rfl hl.1 rfl (Nat.le_of_ble_eq_true rfl) dX12_shared_138) hS (fun q _ h => hFc q h) hFc (fun r_14 u t H1 locs ht hvm wh_15 hB hz1 hk1 hS => ?_)
                            obtain ⟨cn15, In15, Fn15⟩ := u
                            obtain ⟨hP1, hD1⟩ := hB
                            rw [ht] at hP1
                            have hP : va_P D vwCl (wM cI cB cZ g cn15 In15 Fn15) H1 := hP1
                            have hD : va_D A (wM cI cB cZ g cn15 In15 Fn15) := hD1.weaken (fun _ _ _ h => hFc _ h)
                            generalize H1 = H at hP hS ⊢
                            have vh_15 : (fun r c2 I2 F2 => Fr [] [] [48, 49] cn7 In F102 c2 I2 F2 ∧ IM c2 F2 ∧ (VSH ((cn7 46)) ((cn7 44)) (fun i => lkM F102 (l9.getD i 0) (nI d0)) (fun j => ¬ (F102 53) (400 * j + d0) = 0) ((F102 47)) (RND (fun a => (F102 3) (l9.getD a 0) + (F102 4) (l9.getD a 0)) ((cn7 44)) ((F102 43))) (DG ((cn7 46)) ((cn7 44)) i83) r)) r_14 cn15 In15 Fn15 := wh_15
                            obtain ⟨hfc15, hIn15, h_15⟩ := vh_15
                            obtain rfl : cn7 = cn15 := (funext (fun k => hfc15.1 k List.not_mem_nil)).symm
                            obtain rfl : In = In15 := (funext (fun k => hfc15.2.1 k List.not_mem_nil)).symm
                            have hf15 : Fr [44] [] [42, 43, 48, 49, 50, 51] cn In Fn cn7 In Fn15 := Fr.mo (Fr.tr hfr102 hfc15) (sbl rfl) (sbl rfl) (sbl rfl)
                            have hi_cn7 : Hid (CB cn7) := hIn15.b
                            have hq_cn7 := Hid.i (frq_44_0_1_2_46_57_58_62_63_75_83 hf15)
                            have hAK15 : AK cn7 Fn15 := AK.fr hx102_2 hfc15 (by decide) (by decide)
                            have hv9 : (fun (t : Nat) (z : Int32) => VSH (cn7 46) (cn7 44) (fun i => lkM Fn7 (l9.getD i 0) (nI d0)) (fun j => ¬ Fn7 53 (400 * j + d0) = 0) (Fn7 47) (RND (fun a => Fn7 3 (l9.getD a 0) + Fn7 4 (l9.getD a 0)) (cn7 44) (Fn7 43)) (DG (cn7 46) (cn7 44) t) z) i83 r_14 := VSH.cg (fun i hi => by show lkM F102 (l9.getD i 0) (nI d0) = lkM Fn7 (l9.getD i 0) (nI d0); unfold lkM; rw [x5, x6, x7]) (fun j _ => by rw [x53]) (fun j _ => by rw [x47]) (fun S x hS hx => by rw [x3, x4, hx102_3.2.1] at hx; exact hx) h_15
                            refine lv_istore (lv' := [(8, .int r_14), (7, .int (nI q102)), (6, .int (nI i83)), (5, .int x83_5), (4, .int (nI w53)), (0, .ref (g 100)), (1, .int (nI d0)), (2, .int v1), (3, .int v2)]) hx hb dX12_shared_141 hl (ltb rfl) rfl (fun ls hl => ?_)
                            refine lv_iload hx hb dX12_shared_143 (lvA0 hl) ?_
                            refine lv_iconst (v := (-1)) hx hb dX12_shared_145 kic_m1 ?_
                            refine lv_icmp_eq (tgt := 201) hx hb dX12_shared_146 rfl (fun c_16 => ?_) (fun c_16 => ?_)
                            ·
                              have tc_16 : (r_14.toInt : Int) = (-1) := congrArg Int32.toInt c_16
                              refine lv_iinc (v := (nI (i83 + 1))) (lv' := [(6, .int (nI (i83 + 1))), (8, .int r_14), (7, .int (nI q102)), (5, .int x83_5), (4, .int (nI w53)), (0, .ref (g 100)), (1, .int (nI d0)), (2, .int v1), (3, .int v2)]) hx hb dX12_shared_201 hl (k := 2) rfl (nI_1 _) (ltb rfl) rfl (fun ls hl => ?_)
                              refine lv_goto (tgt := 83) hx hb dX12_shared_204 rfl ?_
                              exact ih83 (i83 + 1) x83_5 Fn15 _ _ (by (first | omega | (have zz0 := Hid.u hi_cn; have zz1 := Hid.u hi_cn7; have zz2 := Hid.u hq_cn7; omega))) ⟨(by (first | omega | (have zz0 := Hid.u hi_cn; have zz1 := Hid.u hi_cn7; have zz2 := Hid.u hq_cn7; omega))), (Fr.mo hf15 (sbl rfl) (sbl rfl) (sbl rfl)), hIn15, hAK15, ⟨(hfc15.2.2 42 (nml rfl)).trans hx102_3.1, (hfc15.2.2 43 (nml rfl)).trans hx102_3.2.1⟩, ⟨b8, BSP.ke hb8 hv9 (Or.inl (by first | assumption | exact Int32.toInt_inj.mp (by assumption))), hr8.imp id (fun q9 => by obtain ⟨s9, es9, hs9, hw9⟩ := q9; exact ⟨s9, es9, by (first | omega | (have zz0 := Hid.u hi_cn; have zz1 := Hid.u hi_cn7; have zz2 := Hid.u hq_cn7; omega)), fun a ha => (congrFun ((hfc15.2.2 51 (nml rfl)).trans hx102_3.2.2) a).trans (hw9 a ha)⟩)⟩⟩ hP hD hS ls (lv_sub hl [0, 3, 4, 5, 6, 7, 8] rfl)
                            ·
                              have tc_16 : (r_14.toInt : Int) ≠ (-1) := fun q => c_16 (Int32.toInt_inj.mp q)
                              refine lv_iload hx hb dX12_shared_149 (lvA3 hl) ?_
                              refine lv_iconst (v := (-1)) hx hb dX12_shared_151 kic_m1 ?_
                              refine lv_icmp_eq (tgt := 165) hx hb dX12_shared_152 rfl (fun c_17 => ?_) (fun c_17 => ?_)
                              ·
                                have tc_17 : (x83_5.toInt : Int) = (-1) := congrArg Int32.toInt c_17
                                refine lv_iload hx hb dX12_shared_165 (lvA0 hl) ?_
                                refine lv_istore (lv' := [(5, .int r_14), (8, .int r_14), (7, .int (nI q102)), (6, .int (nI i83)), (4, .int (nI w53)), (0, .ref (g 100)), (1, .int (nI d0)), (2, .int v1), (3, .int v2)]) hx hb dX12_shared_167 hl (ltb rfl) rfl (fun ls hl => ?_)
                                refine lv_iconst (v := 0) hx hb dX12_shared_169 kic_0 ?_
                                refine lv_istore (lv' := [(9, .int 0), (5, .int r_14), (8, .int r_14), (7, .int (nI q102)), (6, .int (nI i83)), (4, .int (nI w53)), (0, .ref (g 100)), (1, .int (nI d0)), (2, .int v1), (3, .int v2)]) hx hb dX12_shared_170 hl (ltb rfl) rfl (fun ls hl => ?_)
                                have lp_172 : ∀ (n : Nat) (i172 : Nat) (F172 : Nat → Nat → Int32) (H : Heap) (locs : List Loc) , (cn7 44) - i172 < n → (i172 ≤ (cn7 44) ∧ Fr [44] [] [42, 43, 48, 49, 50, 51] cn In Fn cn7 In F172 ∧ IM cn7 F172 ∧ (AK cn7 F172) ∧ (F172 42 = Fn7 42 ∧ F172 43 = Fn7 43 ∧ F172 50 = Fn15 50) ∧ (∀ a : Nat, a < i172 → F172 51 a = Fn15 50 a)) → va_P D vwCl (wM cI cB cZ g cn7 In F172) H → va_D A (wM cI cB cZ g cn7 In F172) → va_S A s.heap H locs → ∀ ls : Array Slot, lv_has ls 10 [(9, .int (nI i172)), (5, .int r_14), (8, .int r_14), (7, .int (nI q102)), (6, .int (nI i83)), (4, .int (nI w53)), (0, .ref (g 100)), (1, .int (nI d0)), (2, .int v1), (3, .int v2)] → W p l e (RM 4 0 0) s m ([.ref (g 100), .int (nI d0), .int v1, .int v2]).toArray below meth c H locs 0 0 (MQ below (va_Qi (fun (r : Int32) (u : (Nat → Nat) × (Nat → Int32) × (Nat → Nat → Int32)) => (fun r c2 I2 F2 => Fr [44] [] [42, 43, 48, 49, 50, 51] cn In Fn c2 I2 F2 ∧ IM c2 F2 ∧ ((¬ ((0 ≤ (nI d0).toInt ∧ (nI d0).toInt ≤ 399) ∧ (1 ≤ v1.toInt ∧ v1.toInt ≤ 400) ∧ (v2.toInt = -1 ∨ (0 ≤ v2.toInt ∧ v2.toInt < (cn 1 : Int)))) ∧ r = -1) ∨ (((0 ≤ (nI d0).toInt ∧ (nI d0).toInt ≤ 399) ∧ (1 ≤ v1.toInt ∧ v1.toInt ≤ 400) ∧ (v2.toInt = -1 ∨ (0 ≤ v2.toInt ∧ v2.toInt < (cn 1 : Int)))) ∧ (∃ k : Nat, k < cn 1 ∧ (nI d0).toInt < (Fn 7 k).toInt) ∧ r = -2) ∨ (((0 ≤ (nI d0).toInt ∧ (nI d0).toInt ≤ 399) ∧ (1 ≤ v1.toInt ∧ v1.toInt ≤ 400) ∧ (v2.toInt = -1 ∨ (0 ≤ v2.toInt ∧ v2.toInt < (cn 1 : Int)))) ∧ ((∃ l : List Nat, AL (fun k9 => v1.toInt ≤ (lkM Fn k9 (nI d0)).toInt) (cn 1) l ∧ 6 < l.length ∧ r = -2) ∨ ((∀ k : Nat, k < cn 1 → (Fn 7 k).toInt ≤ (nI d0).toInt) ∧ ∃ (l : List Nat) (T : Nat → Int32) (b y : Int32), AL (fun k9 => v1.toInt ≤ (lkM Fn k9 (nI d0)).toInt) (cn 1) l ∧ l.length ≤ 6 ∧ TBL (fun a b => apM (Fn 3 (l.getD a 0)) (Fn 4 (l.getD a 0)) (Fn 3 (l.getD b 0)) (Fn 4 (l.getD b 0))) (fun a => Fn 3 (l.getD a 0) + Fn 4 (l.getD a 0)) l.length T (2 ^ l.length) ∧ BSP (fun (t : Nat) (z : Int32) => VSH (cn 46) l.length (fun i => lkM Fn (l.getD i 0) (nI d0)) (fun j => ¬ Fn 53 (400 * j + (nI d0).toInt.toNat) = 0) (Fn 47) (RND (fun a => Fn 3 (l.getD a 0) + Fn 4 (l.getD a 0)) l.length T) (DG (cn 46) l.length t) z) (cn 46 ^ l.length) b y ∧ SHG (cn 46) (DG (cn 46) l.length) l v2 r b y))))) r u.1 u.2.1 u.2.2) (fun (u : (Nat → Nat) × (Nat → Int32) × (Nat → Nat → Int32)) (t : State) => va_P D vwCl (wM cI cB cZ g u.1 u.2.1 u.2.2) t.heap ∧ va_D A (wM cI cB cZ g u.1 u.2.1 u.2.2)) A) ([.ref (g 100), .int (nI d0), .int v1, .int v2]).toArray s 0 0 A) (F0 m 172 ls []) := by
                                  intro n172
                                  induction n172 with
                                  | zero => intros; (first | omega | (have zz0 := Hid.u hi_cn; have zz1 := Hid.u hi_cn7; have zz2 := Hid.u hq_cn7; omega))
                                  | succ n172 ih172 =>
                                    intro i172 F172 H locs hmu172 hinv172 hP hD hS ls hl
                                    obtain ⟨hr172, hfr172, hI172, hx172_0, hx172_1, hx172_2⟩ := hinv172
                                    have ti172 : (nI i172).toInt = (i172 : Int) := nI_toInt (by (first | omega | (have zz0 := Hid.u hi_cn; have zz1 := Hid.u hi_cn7; have zz2 := Hid.u hq_cn7; omega)))
                                    have hi_cn7 : Hid (CB cn7) := hI172.b
                                    have hq_cn7 := Hid.i (frq_44_0_1_2_46_57_58_62_63_75_83 hfr172)
                                    refine lv_iload hx hb dX12_shared_172 (lvA0 hl) ?_
                                    refine lv_aload_n hx hb dX12_shared_174 rfl (lvA6 hl) ?_
                                    refine gM_364 S hK hP (v := .int (nI (cn7 44))) rfl dX12_shared_175 ?_
                                    refine lv_icmp_ge (tgt := 201) hx hb dX12_shared_178 rfl (fun c_18 => ?_) (fun c_18 => ?_)
                                    ·
                                      have tc_18 : ((nI (cn7 44)).toInt : Int) ≤ (nI i172).toInt := Int32.le_iff_toInt_le.mp c_18
                                      refine lv_iinc (v := (nI (i83 + 1))) (lv' := [(6, .int (nI (i83 + 1))), (9, .int (nI i172)), (5, .int r_14), (8, .int r_14), (7, .int (nI q102)), (4, .int (nI w53)), (0, .ref (g 100)), (1, .int (nI d0)), (2, .int v1), (3, .int v2)]) hx hb dX12_shared_201 hl (k := 4) rfl (nI_1 _) (ltb rfl) rfl (fun ls hl => ?_)
                                      refine lv_goto (tgt := 83) hx hb dX12_shared_204 rfl ?_
                                      exact ih83 (i83 + 1) r_14 F172 _ _ (by (first | omega | (have zz0 := Hid.u hi_cn; have zz1 := Hid.u hi_cn7; have zz2 := Hid.u hq_cn7; omega))) ⟨(by (first | omega | (have zz0 := Hid.u hi_cn; have zz1 := Hid.u hi_cn7; have zz2 := Hid.u hq_cn7; omega))), (Fr.mo hfr172 (sbl rfl) (sbl rfl) (sbl rfl)), hI172, hx172_0, ⟨hx172_1.1, hx172_1.2.1⟩, ⟨nI i83, BSP.nw hb8 (by (first | omega | (have zz0 := Hid.u hi_cn; have zz1 := Hid.u hi_cn7; have zz2 := Hid.u hq_cn7; omega))) hv9 (by first | assumption | exact fun q => absurd (congrArg Int32.toInt q) (by assumption)) (hb8.or.elim Or.inl (fun q9 => absurd (by first | assumption | exact Int32.toInt_inj.mp (by assumption)) q9)), Or.inr ⟨i83, rfl, by (first | omega | (have zz0 := Hid.u hi_cn; have zz1 := Hid.u hi_cn7; have zz2 := Hid.u hq_cn7; omega)), (fun a ha => (hx172_2 a (by (first | omega | (have zz0 := Hid.u hi_cn; have zz1 := Hid.u hi_cn7; have zz2 := Hid.u hq_cn7; omega)))).trans ((congrFun (hfc15.2.2 50 (nml rfl)) a).trans (hx102_1 a (Nat.zero_le a) ha)))⟩⟩⟩ hP hD hS ls (lv_sub hl [0, 2, 5, 6, 7, 8, 9] rfl)
                                    ·
                                      have tc_18 : ((nI i172).toInt : Int) < (nI (cn7 44)).toInt := Int32.lt_iff_toInt_lt.mp (Int32.not_le.mp c_18)
                                      refine lv_aload_n hx hb dX12_shared_181 rfl (lvA6 hl) ?_
                                      refine gM_119 S hK hP (v := .ref (g 51)) rfl dX12_shared_182 ?_
                                      refine lv_iload hx hb dX12_shared_185 (lvA0 hl) ?_
                                      refine lv_aload_n hx hb dX12_shared_187 rfl (lvA6 hl) ?_
                                      refine gM_116 S hK hP (v := .ref (g 50)) rfl dX12_shared_188 ?_
                                      refine lv_iload hx hb dX12_shared_191 (lvA0 hl) ?_
                                      have kb_1 : i172 < 6 := by (first | omega | (have zz0 := Hid.u hi_cn; have zz1 := Hid.u hi_cn7; have zz2 := Hid.u hq_cn7; omega))
                                      refine ldM_50 hx hb hK hP (x := ((F172 50) i172)) (vp_in_nI kb_1 (ltb rfl)) (nI_clamp (Nat.lt_trans kb_1 (ltb rfl))) rfl dX12_shared_193 ?_
                                      refine stM_51 hx hb hK hP hD hS (Fn2 := (va_up F172 51 (upd (F172 51) i172 ((F172 50) i172)))) (vp_in_nI kb_1 (ltb rfl)) (nI_clamp (Nat.lt_trans kb_1 (ltb rfl))) rfl dX12_shared_194 (fun H locs hP hD hS => ?_)
                                      refine lv_iinc (v := (nI (i172 + 1))) (lv' := [(9, .int (nI (i172 + 1))), (5, .int r_14), (8, .int r_14), (7, .int (nI q102)), (6, .int (nI i83)), (4, .int (nI w53)), (0, .ref (g 100)), (1, .int (nI d0)), (2, .int v1), (3, .int v2)]) hx hb dX12_shared_195 hl (k := 0) rfl (nI_1 _) (ltb rfl) rfl (fun ls hl => ?_)
                                      refine lv_goto (tgt := 172) hx hb dX12_shared_198 rfl ?_
                                      exact ih172 (i172 + 1) (va_up F172 51 (upd (F172 51) i172 ((F172 50) i172))) _ _ (by (first | omega | (have zz0 := Hid.u hi_cn; have zz1 := Hid.u hi_cn7; have zz2 := Hid.u hq_cn7; omega))) ⟨(by (first | omega | (have zz0 := Hid.u hi_cn; have zz1 := Hid.u hi_cn7; have zz2 := Hid.u hq_cn7; omega))), (Fr.mo (Fr.f 51 hfr172) (sbl rfl) (sbl rfl) (sbl rfl)), (IM.fr (In := In) hI172 (Fr.f 51 Fr.rf) (by decide) (by decide)), (AK.fr (In := In) hx172_0 (Fr.f 51 Fr.rf) (by decide) (by decide)), hx172_1, (fun a ha => by show upd (F172 51) i172 ((F172 50) i172) a = _; exact (if q9 : a = i172 then (by rw [q9, upd_self, hx172_1.2.2]) else (by rw [upd_n q9]; exact hx172_2 a (by (first | omega | (have zz0 := Hid.u hi_cn; have zz1 := Hid.u hi_cn7; have zz2 := Hid.u hq_cn7; omega))))))⟩ hP hD hS ls (lv_sub hl [0, 1, 2, 3, 4, 5, 6, 7, 8, 9] rfl)
                                exact lp_172 _ 0 Fn15 _ _ (Nat.lt_succ_self _) ⟨(by (first | omega | (have zz0 := Hid.u hi_cn; have zz1 := Hid.u hi_cn7; have zz2 := Hid.u hq_cn7; omega))), (Fr.mo hf15 (sbl rfl) (sbl rfl) (sbl rfl)), hIn15, hAK15, ⟨(hfc15.2.2 42 (nml rfl)).trans hx102_3.1, (hfc15.2.2 43 (nml rfl)).trans hx102_3.2.1, rfl⟩, (fun a ha => absurd ha (Nat.not_lt_zero a))⟩ hP hD hS ls (lv_sub hl [0, 1, 2, 3, 4, 5, 6, 7, 8, 9] rfl)
                              ·
                                have tc_17 : (x83_5.toInt : Int) ≠ (-1) := fun q => c_17 (Int32.toInt_inj.mp q)
                                refine lv_iload hx hb dX12_shared_155 (lvA0 hl) ?_
                                refine lv_iload hx hb dX12_shared_157 (lvA3 hl) ?_
                                refine lv_icmp_lt (tgt := 165) hx hb dX12_shared_159 rfl (fun c_19 => ?_) (fun c_19 => ?_)
                                ·
                                  have tc_19 : (r_14.toInt : Int) < x83_5.toInt := Int32.lt_iff_toInt_lt.mp c_19
                                  refine lv_iload hx hb dX12_shared_165 (lvA0 hl) ?_
                                  refine lv_istore (lv' := [(5, .int r_14), (8, .int r_14), (7, .int (nI q102)), (6, .int (nI i83)), (4, .int (nI w53)), (0, .ref (g 100)), (1, .int (nI d0)), (2, .int v1), (3, .int v2)]) hx hb dX12_shared_167 hl (ltb rfl) rfl (fun ls hl => ?_)
                                  refine lv_iconst (v := 0) hx hb dX12_shared_169 kic_0 ?_
                                  refine lv_istore (lv' := [(9, .int 0), (5, .int r_14), (8, .int r_14), (7, .int (nI q102)), (6, .int (nI i83)), (4, .int (nI w53)), (0, .ref (g 100)), (1, .int (nI d0)), (2, .int v1), (3, .int v2)]) hx hb dX12_shared_170 hl (ltb rfl) rfl (fun ls hl => ?_)
                                  have lp_172 : ∀ (n : Nat) (i172 : Nat) (F172 : Nat → Nat → Int32) (H : Heap) (locs : List Loc) , (cn7 44) - i172 < n → (i172 ≤ (cn7 44) ∧ Fr [44] [] [42, 43, 48, 49, 50, 51] cn In Fn cn7 In F172 ∧ IM cn7 F172 ∧ (AK cn7 F172) ∧ (F172 42 = Fn7 42 ∧ F172 43 = Fn7 43 ∧ F172 50 = Fn15 50) ∧ (∀ a : Nat, a < i172 → F172 51 a = Fn15 50 a)) → va_P D vwCl (wM cI cB cZ g cn7 In F172) H → va_D A (wM cI cB cZ g cn7 In F172) → va_S A s.heap H locs → ∀ ls : Array Slot, lv_has ls 10 [(9, .int (nI i172)), (5, .int r_14), (8, .int r_14), (7, .int (nI q102)), (6, .int (nI i83)), (4, .int (nI w53)), (0, .ref (g 100)), (1, .int (nI d0)), (2, .int v1), (3, .int v2)] → W p l e (RM 4 0 0) s m ([.ref (g 100), .int (nI d0), .int v1, .int v2]).toArray below meth c H locs 0 0 (MQ below (va_Qi (fun (r : Int32) (u : (Nat → Nat) × (Nat → Int32) × (Nat → Nat → Int32)) => (fun r c2 I2 F2 => Fr [44] [] [42, 43, 48, 49, 50, 51] cn In Fn c2 I2 F2 ∧ IM c2 F2 ∧ ((¬ ((0 ≤ (nI d0).toInt ∧ (nI d0).toInt ≤ 399) ∧ (1 ≤ v1.toInt ∧ v1.toInt ≤ 400) ∧ (v2.toInt = -1 ∨ (0 ≤ v2.toInt ∧ v2.toInt < (cn 1 : Int)))) ∧ r = -1) ∨ (((0 ≤ (nI d0).toInt ∧ (nI d0).toInt ≤ 399) ∧ (1 ≤ v1.toInt ∧ v1.toInt ≤ 400) ∧ (v2.toInt = -1 ∨ (0 ≤ v2.toInt ∧ v2.toInt < (cn 1 : Int)))) ∧ (∃ k : Nat, k < cn 1 ∧ (nI d0).toInt < (Fn 7 k).toInt) ∧ r = -2) ∨ (((0 ≤ (nI d0).toInt ∧ (nI d0).toInt ≤ 399) ∧ (1 ≤ v1.toInt ∧ v1.toInt ≤ 400) ∧ (v2.toInt = -1 ∨ (0 ≤ v2.toInt ∧ v2.toInt < (cn 1 : Int)))) ∧ ((∃ l : List Nat, AL (fun k9 => v1.toInt ≤ (lkM Fn k9 (nI d0)).toInt) (cn 1) l ∧ 6 < l.length ∧ r = -2) ∨ ((∀ k : Nat, k < cn 1 → (Fn 7 k).toInt ≤ (nI d0).toInt) ∧ ∃ (l : List Nat) (T : Nat → Int32) (b y : Int32), AL (fun k9 => v1.toInt ≤ (lkM Fn k9 (nI d0)).toInt) (cn 1) l ∧ l.length ≤ 6 ∧ TBL (fun a b => apM (Fn 3 (l.getD a 0)) (Fn 4 (l.getD a 0)) (Fn 3 (l.getD b 0)) (Fn 4 (l.getD b 0))) (fun a => Fn 3 (l.getD a 0) + Fn 4 (l.getD a 0)) l.length T (2 ^ l.length) ∧ BSP (fun (t : Nat) (z : Int32) => VSH (cn 46) l.length (fun i => lkM Fn (l.getD i 0) (nI d0)) (fun j => ¬ Fn 53 (400 * j + (nI d0).toInt.toNat) = 0) (Fn 47) (RND (fun a => Fn 3 (l.getD a 0) + Fn 4 (l.getD a 0)) l.length T) (DG (cn 46) l.length t) z) (cn 46 ^ l.length) b y ∧ SHG (cn 46) (DG (cn 46) l.length) l v2 r b y))))) r u.1 u.2.1 u.2.2) (fun (u : (Nat → Nat) × (Nat → Int32) × (Nat → Nat → Int32)) (t : State) => va_P D vwCl (wM cI cB cZ g u.1 u.2.1 u.2.2) t.heap ∧ va_D A (wM cI cB cZ g u.1 u.2.1 u.2.2)) A) ([.ref (g 100), .int (nI d0), .int v1, .int v2]).toArray s 0 0 A) (F0 m 172 ls []) := by
                                    intro n172
                                    induction n172 with
                                    | zero => intros; (first | omega | (have zz0 := Hid.u hi_cn; have zz1 := Hid.u hi_cn7; have zz2 := Hid.u hq_cn7; omega))
                                    | succ n172 ih172 =>
                                      intro i172 F172 H locs hmu172 hinv172 hP hD hS ls hl
                                      obtain ⟨hr172, hfr172, hI172, hx172_0, hx172_1, hx172_2⟩ := hinv172
                                      have ti172 : (nI i172).toInt = (i172 : Int) := nI_toInt (by (first | omega | (have zz0 := Hid.u hi_cn; have zz1 := Hid.u hi_cn7; have zz2 := Hid.u hq_cn7; omega)))
                                      have hi_cn7 : Hid (CB cn7) := hI172.b
                                      have hq_cn7 := Hid.i (frq_44_0_1_2_46_57_58_62_63_75_83 hfr172)
                                      refine lv_iload hx hb dX12_shared_172 (lvA0 hl) ?_
                                      refine lv_aload_n hx hb dX12_shared_174 rfl (lvA6 hl) ?_
                                      refine gM_364 S hK hP (v := .int (nI (cn7 44))) rfl dX12_shared_175 ?_
                                      refine lv_icmp_ge (tgt := 201) hx hb dX12_shared_178 rfl (fun c_20 => ?_) (fun c_20 => ?_)
                                      ·
                                        have tc_20 : ((nI (cn7 44)).toInt : Int) ≤ (nI i172).toInt := Int32.le_iff_toInt_le.mp c_20
                                        refine lv_iinc (v := (nI (i83 + 1))) (lv' := [(6, .int (nI (i83 + 1))), (9, .int (nI i172)), (5, .int r_14), (8, .int r_14), (7, .int (nI q102)), (4, .int (nI w53)), (0, .ref (g 100)), (1, .int (nI d0)), (2, .int v1), (3, .int v2)]) hx hb dX12_shared_201 hl (k := 4) rfl (nI_1 _) (ltb rfl) rfl (fun ls hl => ?_)
                                        refine lv_goto (tgt := 83) hx hb dX12_shared_204 rfl ?_
                                        exact ih83 (i83 + 1) r_14 F172 _ _ (by (first | omega | (have zz0 := Hid.u hi_cn; have zz1 := Hid.u hi_cn7; have zz2 := Hid.u hq_cn7; omega))) ⟨(by (first | omega | (have zz0 := Hid.u hi_cn; have zz1 := Hid.u hi_cn7; have zz2 := Hid.u hq_cn7; omega))), (Fr.mo hfr172 (sbl rfl) (sbl rfl) (sbl rfl)), hI172, hx172_0, ⟨hx172_1.1, hx172_1.2.1⟩, ⟨nI i83, BSP.nw hb8 (by (first | omega | (have zz0 := Hid.u hi_cn; have zz1 := Hid.u hi_cn7; have zz2 := Hid.u hq_cn7; omega))) hv9 (by first | assumption | exact fun q => absurd (congrArg Int32.toInt q) (by assumption)) (Or.inr (by (first | omega | (have zz0 := Hid.u hi_cn; have zz1 := Hid.u hi_cn7; have zz2 := Hid.u hq_cn7; omega)))), Or.inr ⟨i83, rfl, by (first | omega | (have zz0 := Hid.u hi_cn; have zz1 := Hid.u hi_cn7; have zz2 := Hid.u hq_cn7; omega)), (fun a ha => (hx172_2 a (by (first | omega | (have zz0 := Hid.u hi_cn; have zz1 := Hid.u hi_cn7; have zz2 := Hid.u hq_cn7; omega)))).trans ((congrFun (hfc15.2.2 50 (nml rfl)) a).trans (hx102_1 a (Nat.zero_le a) ha)))⟩⟩⟩ hP hD hS ls (lv_sub hl [0, 2, 5, 6, 7, 8, 9] rfl)
                                      ·
                                        have tc_20 : ((nI i172).toInt : Int) < (nI (cn7 44)).toInt := Int32.lt_iff_toInt_lt.mp (Int32.not_le.mp c_20)
                                        refine lv_aload_n hx hb dX12_shared_181 rfl (lvA6 hl) ?_
                                        refine gM_119 S hK hP (v := .ref (g 51)) rfl dX12_shared_182 ?_
                                        refine lv_iload hx hb dX12_shared_185 (lvA0 hl) ?_
                                        refine lv_aload_n hx hb dX12_shared_187 rfl (lvA6 hl) ?_
                                        refine gM_116 S hK hP (v := .ref (g 50)) rfl dX12_shared_188 ?_
                                        refine lv_iload hx hb dX12_shared_191 (lvA0 hl) ?_
                                        have kb_2 : i172 < 6 := by (first | omega | (have zz0 := Hid.u hi_cn; have zz1 := Hid.u hi_cn7; have zz2 := Hid.u hq_cn7; omega))
                                        refine ldM_50 hx hb hK hP (x := ((F172 50) i172)) (vp_in_nI kb_2 (ltb rfl)) (nI_clamp (Nat.lt_trans kb_2 (ltb rfl))) rfl dX12_shared_193 ?_
                                        refine stM_51 hx hb hK hP hD hS (Fn2 := (va_up F172 51 (upd (F172 51) i172 ((F172 50) i172)))) (vp_in_nI kb_2 (ltb rfl)) (nI_clamp (Nat.lt_trans kb_2 (ltb rfl))) rfl dX12_shared_194 (fun H locs hP hD hS => ?_)
                                        refine lv_iinc (v := (nI (i172 + 1))) (lv' := [(9, .int (nI (i172 + 1))), (5, .int r_14), (8, .int r_14), (7, .int (nI q102)), (6, .int (nI i83)), (4, .int (nI w53)), (0, .ref (g 100)), (1, .int (nI d0)), (2, .int v1), (3, .int v2)]) hx hb dX12_shared_195 hl (k := 0) rfl (nI_1 _) (ltb rfl) rfl (fun ls hl => ?_)
                                        refine lv_goto (tgt := 172) hx hb dX12_shared_198 rfl ?_
                                        exact ih172 (i172 + 1) (va_up F172 51 (upd (F172 51) i172 ((F172 50) i172))) _ _ (by (first | omega | (have zz0 := Hid.u hi_cn; have zz1 := Hid.u hi_cn7; have zz2 := Hid.u hq_cn7; omega))) ⟨(by (first | omega | (have zz0 := Hid.u hi_cn; have zz1 := Hid.u hi_cn7; have zz2 := Hid.u hq_cn7; omega))), (Fr.mo (Fr.f 51 hfr172) (sbl rfl) (sbl rfl) (sbl rfl)), (IM.fr (In := In) hI172 (Fr.f 51 Fr.rf) (by decide) (by decide)), (AK.fr (In := In) hx172_0 (Fr.f 51 Fr.rf) (by decide) (by decide)), hx172_1, (fun a ha => by show upd (F172 51) i172 ((F172 50) i172) a = _; exact (if q9 : a = i172 then (by rw [q9, upd_self, hx172_1.2.2]) else (by rw [upd_n q9]; exact hx172_2 a (by (first | omega | (have zz0 := Hid.u hi_cn; have zz1 := Hid.u hi_cn7; have zz2 := Hid.u hq_cn7; omega))))))⟩ hP hD hS ls (lv_sub hl [0, 1, 2, 3, 4, 5, 6, 7, 8, 9] rfl)
                                  exact lp_172 _ 0 Fn15 _ _ (Nat.lt_succ_self _) ⟨(by (first | omega | (have zz0 := Hid.u hi_cn; have zz1 := Hid.u hi_cn7; have zz2 := Hid.u hq_cn7; omega))), (Fr.mo hf15 (sbl rfl) (sbl rfl) (sbl rfl)), hIn15, hAK15, ⟨(hfc15.2.2 42 (nml rfl)).trans hx102_3.1, (hfc15.2.2 43 (nml rfl)).trans hx102_3.2.1, rfl⟩, (fun a ha => absurd ha (Nat.not_lt_zero a))⟩ hP hD hS ls (lv_sub hl [0, 1, 2, 3, 4, 5, 6, 7, 8, 9] rfl)
                                ·
                                  have tc_19 : (x83_5.toInt : Int) ≤ r_14.toInt := Int32.le_iff_toInt_le.mp (Int32.not_lt.mp c_19)
                                  refine lv_goto (tgt := 201) hx hb dX12_shared_162 rfl ?_
                                  refine lv_iinc (v := (nI (i83 + 1))) (lv' := [(6, .int (nI (i83 + 1))), (8, .int r_14), (7, .int (nI q102)), (5, .int x83_5), (4, .int (nI w53)), (0, .ref (g 100)), (1, .int (nI d0)), (2, .int v1), (3, .int v2)]) hx hb dX12_shared_201 hl (k := 2) rfl (nI_1 _) (ltb rfl) rfl (fun ls hl => ?_)
                                  refine lv_goto (tgt := 83) hx hb dX12_shared_204 rfl ?_
                                  exact ih83 (i83 + 1) x83_5 Fn15 _ _ (by (first | omega | (have zz0 := Hid.u hi_cn; have zz1 := Hid.u hi_cn7; have zz2 := Hid.u hq_cn7; omega))) ⟨(by (first | omega | (have zz0 := Hid.u hi_cn; have zz1 := Hid.u hi_cn7; have zz2 := Hid.u hq_cn7; omega))), (Fr.mo hf15 (sbl rfl) (sbl rfl) (sbl rfl)), hIn15, hAK15, ⟨(hfc15.2.2 42 (nml rfl)).trans hx102_3.1, (hfc15.2.2 43 (nml rfl)).trans hx102_3.2.1⟩, ⟨b8, BSP.ke hb8 hv9 (Or.inr ⟨hr8.elim (fun q9 => absurd q9.2 (by first | assumption | exact fun q => absurd (congrArg Int32.toInt q) (by assumption))) (fun q9 w9 => by obtain ⟨s9, es9, hs9, -⟩ := q9; exact nI_ne1 (by (first | omega | (have zz0 := Hid.u hi_cn; have zz1 := Hid.u hi_cn7; have zz2 := Hid.u hq_cn7; omega))) (es9.symm.trans w9)), by (first | omega | (have zz0 := Hid.u hi_cn; have zz1 := Hid.u hi_cn7; have zz2 := Hid.u hq_cn7; omega))⟩), hr8.imp id (fun q9 => by obtain ⟨s9, es9, hs9, hw9⟩ := q9; exact ⟨s9, es9, by (first | omega | (have zz0 := Hid.u hi_cn; have zz1 := Hid.u hi_cn7; have zz2 := Hid.u hq_cn7; omega)), fun a ha => (congrFun ((hfc15.2.2 51 (nml rfl)).trans hx102_3.2.2) a).trans (hw9 a ha)⟩)⟩⟩ hP hD hS ls (lv_sub hl [0, 3, 4, 5, 6, 7, 8] rfl)
                          ·
                            rw [nI_m1] at hl
                            have hl : lv_has ls 10 [(8, .int (nI j102)), (7, .int (nI q102)), (6, .int (nI i83)), (5, .int x83_5), (4, .int (nI w53)), (0, .ref (g 100)), (1, .int (nI d0)), (2, .int v1), (3, .int v2)] := hl
                            refine lv_iload hx hb dX12_shared_102 (lvA0 hl) ?_
                            have : (nI j102).toInt = ((j102 : Nat) : Int) := nI_toInt (by (first | omega | (have zz0 := Hid.u hi_cn; have zz1 := Hid.u hi_cn7; have zz2 := Hid.u hq_cn7; omega)))
                            refine lv_if_lt (tgt := 136) hx hb dX12_shared_104 rfl (fun c_21 => False.elim (by have tc_21 : ((nI j102).toInt : Int) < 0 := Int32.lt_iff_toInt_lt.mp c_21; (first | omega | (have zz0 := Hid.u hi_cn; have zz1 := Hid.u hi_cn7; have zz2 := Hid.u hq_cn7; omega)))) (fun c_21 => ?_)
                            have tc_21 : (0 : Int) ≤ (nI j102).toInt := Int32.le_iff_toInt_le.mp (Int32.not_lt.mp c_21)
                            refine lv_aload_n hx hb dX12_shared_107 rfl (lvA5 hl) ?_
                            refine gM_116 S hK hP (v := .ref (g 50)) rfl dX12_shared_108 ?_
                            refine lv_iload hx hb dX12_shared_111 (lvA0 hl) ?_
                            refine lv_iload hx hb dX12_shared_113 (lvA1 hl) ?_
                            have h46 : 0 < cn7 46 := (pw0 (L := cn7 46) (m := cn7 44) (s := i83) (by rw [← hw4]; (first | omega | (have zz0 := Hid.u hi_cn; have zz1 := Hid.u hi_cn7; have zz2 := Hid.u hq_cn7; omega)))).resolve_left (by (first | omega | (have zz0 := Hid.u hi_cn; have zz1 := Hid.u hi_cn7; have zz2 := Hid.u hq_cn7; omega)))
                            refine lv_aload_n hx hb dX12_shared_115 rfl (lvA5 hl) ?_
                            refine gM_386 S hK hP (v := .int (nI (cn7 46))) rfl dX12_shared_116 ?_
                            refine lv_irem hx hb dX12_shared_119 (nI_nz (by (first | omega | (have zz0 := Hid.u hi_cn; have zz1 := Hid.u hi_cn7; have zz2 := Hid.u hq_cn7; omega))) (by (first | omega | (have zz0 := Hid.u hi_cn; have zz1 := Hid.u hi_cn7; have zz2 := Hid.u hq_cn7; omega)))) ?_
                            refine lv_topi (fun y_22 ey_22 => ?_)
                            obtain rfl : y_22 = (nI (q102 % (cn7 46))) := ey_22.trans (nI_rem (by (first | omega | (have zz0 := Hid.u hi_cn; have zz1 := Hid.u hi_cn7; have zz2 := Hid.u hq_cn7; omega))) (by (first | omega | (have zz0 := Hid.u hi_cn; have zz1 := Hid.u hi_cn7; have zz2 := Hid.u hq_cn7; omega))))
                            have kb_3 : j102 < 6 := by (first | omega | (have zz0 := Hid.u hi_cn; have zz1 := Hid.u hi_cn7; have zz2 := Hid.u hq_cn7; omega))
                            refine stM_50 hx hb hK hP hD hS (Fn2 := (va_up F102 50 (upd (F102 50) j102 (nI (q102 % (cn7 46)))))) (vp_in_nI kb_3 (ltb rfl)) (nI_clamp (Nat.lt_trans kb_3 (ltb rfl))) rfl dX12_shared_120 (fun H locs hP hD hS => ?_)
                            refine lv_iload hx hb dX12_shared_121 (lvA1 hl) ?_
                            refine lv_aload_n hx hb dX12_shared_123 rfl (lvA5 hl) ?_
                            refine gM_386 S hK hP (v := .int (nI (cn7 46))) rfl dX12_shared_124 ?_
                            refine lv_idiv hx hb dX12_shared_127 (nI_nz (by (first | omega | (have zz0 := Hid.u hi_cn; have zz1 := Hid.u hi_cn7; have zz2 := Hid.u hq_cn7; omega))) (by (first | omega | (have zz0 := Hid.u hi_cn; have zz1 := Hid.u hi_cn7; have zz2 := Hid.u hq_cn7; omega)))) ?_
                            refine lv_topi (fun y_23 ey_23 => ?_)
                            obtain rfl : y_23 = (nI (q102 / (cn7 46))) := ey_23.trans (nI_div (by (first | omega | (have zz0 := Hid.u hi_cn; have zz1 := Hid.u hi_cn7; have zz2 := Hid.u hq_cn7; omega))) (by (first | omega | (have zz0 := Hid.u hi_cn; have zz1 := Hid.u hi_cn7; have zz2 := Hid.u hq_cn7; omega))))
                            refine lv_istore (lv' := [(7, .int (nI (q102 / (cn7 46)))), (8, .int (nI j102)), (6, .int (nI i83)), (5, .int x83_5), (4, .int (nI w53)), (0, .ref (g 100)), (1, .int (nI d0)), (2, .int v1), (3, .int v2)]) hx hb dX12_shared_128 hl (ltb rfl) rfl (fun ls hl => ?_)
                            refine lv_iinc (v := ((nI j102) + (-1))) (lv' := [(8, .int ((nI j102) + (-1))), (7, .int (nI (q102 / (cn7 46)))), (6, .int (nI i83)), (5, .int x83_5), (4, .int (nI w53)), (0, .ref (g 100)), (1, .int (nI d0)), (2, .int v1), (3, .int v2)]) hx hb dX12_shared_130 hl (k := 1) rfl rfl (ltb rfl) rfl (fun ls hl => ?_)
                            refine lv_goto (tgt := 102) hx hb dX12_shared_133 rfl ?_
                            exact ih102 (q102 / (cn7 46)) j102 (va_up F102 50 (upd (F102 50) j102 (nI (q102 % (cn7 46))))) _ _ (by (first | omega | (have zz0 := Hid.u hi_cn; have zz1 := Hid.u hi_cn7; have zz2 := Hid.u hq_cn7; omega))) ⟨(Fr.mo (Fr.f 50 hfr102) (sbl rfl) (sbl rfl) (sbl rfl)), (IM.fr (In := In) hI102 (Fr.f 50 Fr.rf) (by decide) (by decide)), ⟨by (first | omega | (have zz0 := Hid.u hi_cn; have zz1 := Hid.u hi_cn7; have zz2 := Hid.u hq_cn7; omega)), (by have := Nat.div_le_self q102 (cn7 46); (first | omega | (have zz0 := Hid.u hi_cn; have zz1 := Hid.u hi_cn7; have zz2 := Hid.u hq_cn7; omega))), (DGq hx102_0.2.2 (by (first | omega | (have zz0 := Hid.u hi_cn; have zz1 := Hid.u hi_cn7; have zz2 := Hid.u hq_cn7; omega))))⟩, (fun a h1 h2 => by show upd (F102 50) j102 (nI (q102 % (cn7 46))) a = _; exact (if q9 : a = j102 then (by rw [q9, upd_self]; exact congrArg nI (DGd hx102_0.2.2)) else (by rw [upd_n q9]; exact hx102_1 a (by (first | omega | (have zz0 := Hid.u hi_cn; have zz1 := Hid.u hi_cn7; have zz2 := Hid.u hq_cn7; omega))) h2))), (AK.fr (In := In) hx102_2 (Fr.f 50 Fr.rf) (by decide) (by decide)), hx102_3⟩ hP hD hS ls (lv_sub hl [0, 1, 2, 3, 4, 5, 6, 7, 8] rfl)
                      exact lp_102 _ i83 (cn7 44) F83 _ _ (Nat.lt_succ_self _) ⟨(Fr.mo hfr83 (sbl rfl) (sbl rfl) (sbl rfl)), hI83, ⟨by (first | omega | (have zz0 := Hid.u hi_cn; have zz1 := Hid.u hi_cn7; have zz2 := Hid.u hq_cn7; omega)), by (first | omega | (have zz0 := Hid.u hi_cn; have zz1 := Hid.u hi_cn7; have zz2 := Hid.u hq_cn7; omega)), (by rw [Nat.sub_self, Nat.pow_zero, Nat.div_one])⟩, (fun a h1 h2 => by (first | omega | (have zz0 := Hid.u hi_cn; have zz1 := Hid.u hi_cn7; have zz2 := Hid.u hq_cn7; omega))), hx83_0, ⟨hx83_1.1, hx83_1.2, rfl⟩⟩ hP hD hS ls (lv_sub hl [0, 1, 2, 3, 4, 5, 6, 7, 8] rfl)
                exact lp_83 _ 0 (-1) Fn7 _ _ (Nat.lt_succ_self _) ⟨(by (first | omega | (have zz0 := Hid.u hi_cn; have zz1 := Hid.u hi_cn7; have zz2 := Hid.u hq_cn7; omega))), (Fr.mo hf7 (sbl rfl) (sbl rfl) (sbl rfl)), hIn7, hAK9, ⟨rfl, rfl⟩, ⟨-1, BSP.e0, Or.inl ⟨rfl, rfl⟩⟩⟩ hP hD hS ls (lv_sub hl [0, 1, 2, 3, 4, 5, 6] rfl)
              ·
                have tc_9 : ((nI i53).toInt : Int) < (nI (cn7 44)).toInt := Int32.lt_iff_toInt_lt.mp (Int32.not_le.mp c_9)
                refine lv_iload hx hb dX12_shared_62 (lvA1 hl) ?_
                refine lv_aload_n hx hb dX12_shared_64 rfl (lvA2 hl) ?_
                refine gM_386 S hK hP (v := .int (nI (cn7 46))) rfl dX12_shared_65 ?_
                refine lv_imul hx hb dX12_shared_68 ?_
                refine lv_topi (fun y_24 ey_24 => ?_)
                obtain rfl : y_24 = (nI (w53 * (cn7 46))) := ey_24.trans (pk_mul w53 (cn7 46))
                refine lv_istore (lv' := [(4, .int (nI (w53 * (cn7 46)))), (5, .int (nI i53)), (0, .ref (g 100)), (1, .int (nI d0)), (2, .int v1), (3, .int v2)]) hx hb dX12_shared_69 hl (ltb rfl) rfl (fun ls hl => ?_)
                refine lv_iinc (v := (nI (i53 + 1))) (lv' := [(5, .int (nI (i53 + 1))), (4, .int (nI (w53 * (cn7 46)))), (0, .ref (g 100)), (1, .int (nI d0)), (2, .int v1), (3, .int v2)]) hx hb dX12_shared_71 hl (k := 1) rfl (nI_1 _) (ltb rfl) rfl (fun ls hl => ?_)
                refine lv_goto (tgt := 53) hx hb dX12_shared_74 rfl ?_
                exact ih53 (i53 + 1) (w53 * (cn7 46)) (by (first | omega | (have zz0 := Hid.u hi_cn; have zz1 := Hid.u hi_cn7; have zz2 := Hid.u hq_cn7; omega))) ⟨(by (first | omega | (have zz0 := Hid.u hi_cn; have zz1 := Hid.u hi_cn7; have zz2 := Hid.u hq_cn7; omega))), ⟨(by rw [Nat.pow_succ, ← hx53_0.1]), w3m hx53_0.2 (by (first | omega | (have zz0 := Hid.u hi_cn; have zz1 := Hid.u hi_cn7; have zz2 := Hid.u hq_cn7; omega)))⟩⟩ ls (lv_sub hl [0, 1, 2, 3, 4, 5] rfl)
          exact lp_53 _ 0 1 (Nat.lt_succ_self _) ⟨(by (first | omega | (have zz0 := Hid.u hi_cn; have zz1 := Hid.u hi_cn7; have zz2 := Hid.u hq_cn7; omega))), ⟨rfl, Nat.le_refl _⟩⟩ ls (lv_sub hl [0, 1, 2, 3, 4, 5] rfl)
        ·
          have tc_8 : (r_6.toInt : Int) = 0 := congrArg Int32.toInt c_8
          refine lv_bipush (v := (-2)) hx hb dX12_shared_44 kbc_m2 ?_
          exact W.iret (v := (-2)) hx hb hr (fun t ht hW => ⟨⟨(-2), (cn7, In, Fn7), rfl, ⟨(Fr.mo hf7 (sbl rfl) (sbl rfl) (sbl rfl)), hIn7, (by show (¬ ((0 ≤ (nI d0).toInt ∧ (nI d0).toInt ≤ 399) ∧ (1 ≤ v1.toInt ∧ v1.toInt ≤ 400) ∧ (v2.toInt = -1 ∨ (0 ≤ v2.toInt ∧ v2.toInt < (cn 1 : Int)))) ∧ (-2) = -1) ∨ (((0 ≤ (nI d0).toInt ∧ (nI d0).toInt ≤ 399) ∧ (1 ≤ v1.toInt ∧ v1.toInt ≤ 400) ∧ (v2.toInt = -1 ∨ (0 ≤ v2.toInt ∧ v2.toInt < (cn 1 : Int)))) ∧ (∃ k : Nat, k < cn 1 ∧ (nI d0).toInt < (Fn 7 k).toInt) ∧ (-2) = -2) ∨ (((0 ≤ (nI d0).toInt ∧ (nI d0).toInt ≤ 399) ∧ (1 ≤ v1.toInt ∧ v1.toInt ≤ 400) ∧ (v2.toInt = -1 ∨ (0 ≤ v2.toInt ∧ v2.toInt < (cn 1 : Int)))) ∧ ((∃ l : List Nat, AL (fun k9 => v1.toInt ≤ (lkM Fn k9 (nI d0)).toInt) (cn 1) l ∧ 6 < l.length ∧ (-2) = -2) ∨ ((∀ k : Nat, k < cn 1 → (Fn 7 k).toInt ≤ (nI d0).toInt) ∧ ∃ (l : List Nat) (T : Nat → Int32) (b y : Int32), AL (fun k9 => v1.toInt ≤ (lkM Fn k9 (nI d0)).toInt) (cn 1) l ∧ l.length ≤ 6 ∧ TBL (fun a b => apM (Fn 3 (l.getD a 0)) (Fn 4 (l.getD a 0)) (Fn 3 (l.getD b 0)) (Fn 4 (l.getD b 0))) (fun a => Fn 3 (l.getD a 0) + Fn 4 (l.getD a 0)) l.length T (2 ^ l.length) ∧ BSP (fun (t : Nat) (z : Int32) => VSH (cn 46) l.length (fun i => lkM Fn (l.getD i 0) (nI d0)) (fun j => ¬ Fn 53 (400 * j + (nI d0).toInt.toNat) = 0) (Fn 47) (RND (fun a => Fn 3 (l.getD a 0) + Fn 4 (l.getD a 0)) l.length T) (DG (cn 46) l.length t) z) (cn 46 ^ l.length) b y ∧ SHG (cn 46) (DG (cn 46) l.length) l v2 (-2) b y))); rcases h_7.elim (fun w => w.2) (fun w => absurd (show (1 : Int32) = 0 from w.1.symm.trans (by first | assumption | exact Int32.toInt_inj.mp (by assumption))) (by decide)) with hb | ⟨l9, hal, hlw⟩; exact (Or.inr (Or.inl ⟨hC9, hb, rfl⟩)); exact (Or.inr (Or.inr ⟨hC9, Or.inl ⟨l9, hal, hlw, rfl⟩⟩)))⟩, by rw [ht]; exact hP, hD⟩, hS.F ht⟩) hS.2.2 dX12_shared_46
      ·
        have tc_5 : (v2.toInt : Int) ≠ (-1) := fun q => c_5 (Int32.toInt_inj.mp q)
        refine lv_aload_n hx hb (oc_42 23 (aq_23 shX12_shared_0)) rfl (lvA0 hl) ?_
        refine lv_iload_n hx hb (oc_29 24 shX12_shared_24) rfl (lvA3 hl) ?_
        refine vp_callSi (runV_ra (As := [.int v2]) (rest := []) S (q_isKitchen l D cI cB cZ g cn In Fn v2 hI) kV_RX12_218 hK hP 0 rfl rfl rfl ⟨Nat.le_of_ble_eq_true rfl, Nat.le_of_ble_eq_true rfl⟩ ⟨Nat.le_of_ble_eq_true rfl, Nat.le_of_ble_eq_true rfl⟩ rfl hl.1 rfl (Nat.le_of_ble_eq_true rfl) (oc_182 25 (aq_1 shX12_shared_24) uw_0_218)) (fun r_25 h_26 => ?_)
        rcases h_26 with ⟨rfl, h_26⟩ | ⟨rfl, h_26⟩
        ·
          have h_26 : 0 ≤ v2.toInt ∧ v2.toInt < ((cn 1) : Int) := h_26
          refine lv_if_ne (tgt := 33) hx hb dX12_shared_28 rfl (fun _ => ?_) (fun h => absurd h cq_eq_1_0)
          obtain ⟨d0, hd0, rfl⟩ := nI_of (x := v0) (fun q => by have := Int32.lt_iff_toInt_lt.mp q; have e : (0 : Int32).toInt = 0 := rfl; (first | omega | (have zz0 := Hid.u hi_cn; omega)))
          have td0 : (nI d0).toInt = (d0 : Int) := nI_toInt hd0
          have zd0 : (nI d0).toInt.toNat = d0 := by (first | omega | (have zz0 := Hid.u hi_cn; omega))
          have hC9 : (0 ≤ (nI d0).toInt ∧ (nI d0).toInt ≤ 399) ∧ (1 ≤ v1.toInt ∧ v1.toInt ≤ 400) ∧ (v2.toInt = -1 ∨ (0 ≤ v2.toInt ∧ v2.toInt < (cn 1 : Int))) := by (first | omega | (have zz0 := Hid.u hi_cn; omega))
          refine lv_aload_n hx hb dX12_shared_33 rfl (lvA0 hl) ?_
          refine lv_iload_n hx hb dX12_shared_34 rfl (lvA1 hl) ?_
          refine lv_iload_n hx hb dX12_shared_35 rfl (lvA2 hl) ?_
          refine lv_bipush (v := 6) hx hb dX12_shared_36 kbc_6 ?_
          have hFc := free_all hD hS hA
          refine va_calli (runV_a (As := [.int (nI d0), .int v1, .int 6]) (rest := []) S (q_lays9 l D cI cB cZ g cn In Fn (nI d0) v1 6 s.heap.size hI (by decide) hxy) kV_RX12_380 hK hP hD 0 rfl rfl rfl ⟨Nat.le_of_ble_eq_true rfl, Nat.le_of_ble_eq_true rfl⟩ ⟨Nat.le_of_ble_eq_true rfl, Nat.le_of_ble_eq_true rfl⟩ rfl hl.1 rfl (Nat.le_of_ble_eq_true rfl) dX12_shared_38) hS (fun q _ h => hFc q h) hFc (fun r_27 u t H1 locs ht hvm wh_28 hB hz1 hk1 hS => ?_)
          obtain ⟨cn28, In28, Fn28⟩ := u
          obtain ⟨hP1, hD1⟩ := hB
          rw [ht] at hP1
          have hP : va_P D vwCl (wM cI cB cZ g cn28 In28 Fn28) H1 := hP1
          have hD : va_D A (wM cI cB cZ g cn28 In28 Fn28) := hD1.weaken (fun _ _ _ h => hFc _ h)
          generalize H1 = H at hP hS ⊢
          have vh_28 : (fun r c2 I2 F2 => Fr [44] [] [42, 43] cn In Fn c2 I2 F2 ∧ IM c2 F2 ∧ ((r = 0 ∧ ((∃ k : Nat, k < (cn 1) ∧ (nI d0).toInt < ((Fn 7) k).toInt) ∨ ∃ l : List Nat, AL (fun k9 => v1.toInt ≤ (lkM Fn k9 (nI d0)).toInt) ((cn 1)) l ∧ 6 < l.length)) ∨ (r = 1 ∧ (∀ k : Nat, k < (cn 1) → ((Fn 7) k).toInt ≤ (nI d0).toInt) ∧ ∃ l : List Nat, AL (fun k9 => v1.toInt ≤ (lkM Fn k9 (nI d0)).toInt) ((cn 1)) l ∧ l.length ≤ 6 ∧ c2 44 = l.length ∧ c2 44 ≤ 8 ∧ AK c2 F2 ∧ RWF (F2 42) nI l ∧ (TBL (fun a b => apM ((Fn 3) (l.getD a 0)) ((Fn 4) (l.getD a 0)) ((Fn 3) (l.getD b 0)) ((Fn 4) (l.getD b 0))) (fun a => (Fn 3) (l.getD a 0) + (Fn 4) (l.getD a 0)) l.length (F2 43) (2 ^ l.length))))) r_27 cn28 In28 Fn28 := wh_28
          obtain ⟨hfc28, hIn28, h_28⟩ := vh_28
          obtain rfl : In = In28 := (funext (fun k => hfc28.2.1 k List.not_mem_nil)).symm
          have hf28 : Fr [44] [] [42, 43, 48, 49, 50, 51] cn In Fn cn28 In Fn28 := Fr.mo (Fr.tr (Fr.rf (cn := cn) (In := In) (Fn := Fn)) hfc28) (sbl rfl) (sbl rfl) (sbl rfl)
          have hi_cn28 : Hid (CB cn28) := hIn28.b
          have hq_cn28 := Hid.i (frq_44_0_1_2_46_57_58_62_63_75_83 hf28)
          refine lv_if_ne (tgt := 47) hx hb dX12_shared_41 rfl (fun c_29 => ?_) (fun c_29 => ?_)
          ·
            have tc_29 : (r_27.toInt : Int) ≠ 0 := fun q => c_29 (Int32.toInt_inj.mp q)
            obtain ⟨hnb, l9, hal, hlw, hc44, h448, hAK9, r42, htb⟩ := (h_28.resolve_left (fun w => (show ¬ r_27 = 0 from (by first | assumption | exact fun q => absurd (congrArg Int32.toInt q) (by assumption))) w.1)).2
            clear h_28
            have f3 : Fn28 3 = Fn 3 := hfc28.2.2 3 (nml rfl)
            have f4 : Fn28 4 = Fn 4 := hfc28.2.2 4 (nml rfl)
            have f5 : Fn28 5 = Fn 5 := hfc28.2.2 5 (nml rfl)
            have f6 : Fn28 6 = Fn 6 := hfc28.2.2 6 (nml rfl)
            have f7 : Fn28 7 = Fn 7 := hfc28.2.2 7 (nml rfl)
            have f47 : Fn28 47 = Fn 47 := hfc28.2.2 47 (nml rfl)
            have f53 : Fn28 53 = Fn 53 := hfc28.2.2 53 (nml rfl)
            have e46 : cn28 46 = cn 46 := hfc28.1 46 (nml rfl)
            have e1 : cn28 1 = cn 1 := hfc28.1 1 (nml rfl)
            have hc6 : cn28 44 ≤ 6 := by (first | omega | (have zz0 := Hid.u hi_cn; have zz1 := Hid.u hi_cn28; have zz2 := Hid.u hq_cn28; omega))
            have hk9 : ∀ a : Nat, a < l9.length → l9.getD a 0 < cn28 1 := fun a ha => by have := (hal.ge ha).1; (first | omega | (have zz0 := Hid.u hi_cn; have zz1 := Hid.u hi_cn28; have zz2 := Hid.u hq_cn28; omega))
            have htb9 : TBL (fun a b => apM (Fn28 3 (l9.getD a 0)) (Fn28 4 (l9.getD a 0)) (Fn28 3 (l9.getD b 0)) (Fn28 4 (l9.getD b 0))) (fun a => Fn28 3 (l9.getD a 0) + Fn28 4 (l9.getD a 0)) (cn28 44) (Fn28 43) (2 ^ cn28 44) := by rw [hc44, f3, f4]; exact htb
            refine lv_iconst (v := 1) hx hb dX12_shared_47 kic_1 ?_
            refine lv_istore (lv' := [(4, .int 1), (0, .ref (g 100)), (1, .int (nI d0)), (2, .int v1), (3, .int v2)]) hx hb dX12_shared_48 hl (ltb rfl) rfl (fun ls hl => ?_)
            refine lv_iconst (v := 0) hx hb dX12_shared_50 kic_0 ?_
            refine lv_istore (lv' := [(5, .int 0), (4, .int 1), (0, .ref (g 100)), (1, .int (nI d0)), (2, .int v1), (3, .int v2)]) hx hb dX12_shared_51 hl (ltb rfl) rfl (fun ls hl => ?_)
            have lp_53 : ∀ (n : Nat) (i53 : Nat) (w53 : Nat) , (cn28 44) - i53 < n → (i53 ≤ (cn28 44) ∧ (w53 = (cn28 46) ^ i53 ∧ w53 ≤ 3 ^ i53)) → ∀ ls : Array Slot, lv_has ls 10 [(5, .int (nI i53)), (4, .int (nI w53)), (0, .ref (g 100)), (1, .int (nI d0)), (2, .int v1), (3, .int v2)] → W p l e (RM 4 0 0) s m ([.ref (g 100), .int (nI d0), .int v1, .int v2]).toArray below meth c H locs 0 0 (MQ below (va_Qi (fun (r : Int32) (u : (Nat → Nat) × (Nat → Int32) × (Nat → Nat → Int32)) => (fun r c2 I2 F2 => Fr [44] [] [42, 43, 48, 49, 50, 51] cn In Fn c2 I2 F2 ∧ IM c2 F2 ∧ ((¬ ((0 ≤ (nI d0).toInt ∧ (nI d0).toInt ≤ 399) ∧ (1 ≤ v1.toInt ∧ v1.toInt ≤ 400) ∧ (v2.toInt = -1 ∨ (0 ≤ v2.toInt ∧ v2.toInt < (cn 1 : Int)))) ∧ r = -1) ∨ (((0 ≤ (nI d0).toInt ∧ (nI d0).toInt ≤ 399) ∧ (1 ≤ v1.toInt ∧ v1.toInt ≤ 400) ∧ (v2.toInt = -1 ∨ (0 ≤ v2.toInt ∧ v2.toInt < (cn 1 : Int)))) ∧ (∃ k : Nat, k < cn 1 ∧ (nI d0).toInt < (Fn 7 k).toInt) ∧ r = -2) ∨ (((0 ≤ (nI d0).toInt ∧ (nI d0).toInt ≤ 399) ∧ (1 ≤ v1.toInt ∧ v1.toInt ≤ 400) ∧ (v2.toInt = -1 ∨ (0 ≤ v2.toInt ∧ v2.toInt < (cn 1 : Int)))) ∧ ((∃ l : List Nat, AL (fun k9 => v1.toInt ≤ (lkM Fn k9 (nI d0)).toInt) (cn 1) l ∧ 6 < l.length ∧ r = -2) ∨ ((∀ k : Nat, k < cn 1 → (Fn 7 k).toInt ≤ (nI d0).toInt) ∧ ∃ (l : List Nat) (T : Nat → Int32) (b y : Int32), AL (fun k9 => v1.toInt ≤ (lkM Fn k9 (nI d0)).toInt) (cn 1) l ∧ l.length ≤ 6 ∧ TBL (fun a b => apM (Fn 3 (l.getD a 0)) (Fn 4 (l.getD a 0)) (Fn 3 (l.getD b 0)) (Fn 4 (l.getD b 0))) (fun a => Fn 3 (l.getD a 0) + Fn 4 (l.getD a 0)) l.length T (2 ^ l.length) ∧ BSP (fun (t : Nat) (z : Int32) => VSH (cn 46) l.length (fun i => lkM Fn (l.getD i 0) (nI d0)) (fun j => ¬ Fn 53 (400 * j + (nI d0).toInt.toNat) = 0) (Fn 47) (RND (fun a => Fn 3 (l.getD a 0) + Fn 4 (l.getD a 0)) l.length T) (DG (cn 46) l.length t) z) (cn 46 ^ l.length) b y ∧ SHG (cn 46) (DG (cn 46) l.length) l v2 r b y))))) r u.1 u.2.1 u.2.2) (fun (u : (Nat → Nat) × (Nat → Int32) × (Nat → Nat → Int32)) (t : State) => va_P D vwCl (wM cI cB cZ g u.1 u.2.1 u.2.2) t.heap ∧ va_D A (wM cI cB cZ g u.1 u.2.1 u.2.2)) A) ([.ref (g 100), .int (nI d0), .int v1, .int v2]).toArray s 0 0 A) (F0 m 53 ls []) := by
              intro n53
              induction n53 with
              | zero => intros; (first | omega | (have zz0 := Hid.u hi_cn; have zz1 := Hid.u hi_cn28; have zz2 := Hid.u hq_cn28; omega))
              | succ n53 ih53 =>
                intro i53 w53 hmu53 hinv53 ls hl
                obtain ⟨hr53, hx53_0⟩ := hinv53
                have ti53 : (nI i53).toInt = (i53 : Int) := nI_toInt (by (first | omega | (have zz0 := Hid.u hi_cn; have zz1 := Hid.u hi_cn28; have zz2 := Hid.u hq_cn28; omega)))
                refine lv_iload hx hb dX12_shared_53 (lvA0 hl) ?_
                refine lv_aload_n hx hb dX12_shared_55 rfl (lvA2 hl) ?_
                refine gM_364 S hK hP (v := .int (nI (cn28 44))) rfl dX12_shared_56 ?_
                have : (nI (cn28 44)).toInt = (((cn28 44) : Nat) : Int) := nI_toInt (by (first | omega | (have zz0 := Hid.u hi_cn; have zz1 := Hid.u hi_cn28; have zz2 := Hid.u hq_cn28; omega)))
                refine lv_icmp_ge (tgt := 77) hx hb dX12_shared_59 rfl (fun c_30 => ?_) (fun c_30 => ?_)
                ·
                  have tc_30 : ((nI (cn28 44)).toInt : Int) ≤ (nI i53).toInt := Int32.le_iff_toInt_le.mp c_30
                  have hw3 : w53 ≤ 729 := Nat.le_trans hx53_0.2 (show 3 ^ i53 ≤ 3 ^ 6 from Nat.pow_le_pow_right (by (first | omega | (have zz0 := Hid.u hi_cn; have zz1 := Hid.u hi_cn28; have zz2 := Hid.u hq_cn28; omega))) (by (first | omega | (have zz0 := Hid.u hi_cn; have zz1 := Hid.u hi_cn28; have zz2 := Hid.u hq_cn28; omega))))
                  have e53a : i53 = cn28 44 := by (first | omega | (have zz0 := Hid.u hi_cn; have zz1 := Hid.u hi_cn28; have zz2 := Hid.u hq_cn28; omega))
                  have hw4 : w53 = cn28 46 ^ cn28 44 := by rw [← e53a]; exact hx53_0.1
                  refine lv_iconst (v := (-1)) hx hb dX12_shared_77 kic_m1 ?_
                  refine lv_istore (lv' := [(5, .int (-1)), (4, .int (nI w53)), (0, .ref (g 100)), (1, .int (nI d0)), (2, .int v1), (3, .int v2)]) hx hb dX12_shared_78 hl (ltb rfl) rfl (fun ls hl => ?_)
                  refine lv_iconst (v := 0) hx hb dX12_shared_80 kic_0 ?_
                  refine lv_istore (lv' := [(6, .int 0), (5, .int (-1)), (4, .int (nI w53)), (0, .ref (g 100)), (1, .int (nI d0)), (2, .int v1), (3, .int v2)]) hx hb dX12_shared_81 hl (ltb rfl) rfl (fun ls hl => ?_)
                  have lp_83 : ∀ (n : Nat) (i83 : Nat) (x83_5 : Int32) (F83 : Nat → Nat → Int32) (H : Heap) (locs : List Loc) , w53 - i83 < n → (i83 ≤ w53 ∧ Fr [44] [] [42, 43, 48, 49, 50, 51] cn In Fn cn28 In F83 ∧ IM cn28 F83 ∧ (AK cn28 F83) ∧ (F83 42 = Fn28 42 ∧ F83 43 = Fn28 43) ∧ (∃ b : Int32, BSP (fun (t : Nat) (z : Int32) => VSH (cn28 46) (cn28 44) (fun i => lkM Fn28 (l9.getD i 0) (nI d0)) (fun j => ¬ Fn28 53 (400 * j + d0) = 0) (Fn28 47) (RND (fun a => Fn28 3 (l9.getD a 0) + Fn28 4 (l9.getD a 0)) (cn28 44) (Fn28 43)) (DG (cn28 46) (cn28 44) t) z) i83 b x83_5 ∧ ((b = -1 ∧ x83_5 = -1) ∨ ∃ s : Nat, b = nI s ∧ s < i83 ∧ ∀ a : Nat, a < cn28 44 → F83 51 a = nI (DG (cn28 46) (cn28 44) s a)))) → va_P D vwCl (wM cI cB cZ g cn28 In F83) H → va_D A (wM cI cB cZ g cn28 In F83) → va_S A s.heap H locs → ∀ ls : Array Slot, lv_has ls 10 [(6, .int (nI i83)), (5, .int x83_5), (4, .int (nI w53)), (0, .ref (g 100)), (1, .int (nI d0)), (2, .int v1), (3, .int v2)] → W p l e (RM 4 0 0) s m ([.ref (g 100), .int (nI d0), .int v1, .int v2]).toArray below meth c H locs 0 0 (MQ below (va_Qi (fun (r : Int32) (u : (Nat → Nat) × (Nat → Int32) × (Nat → Nat → Int32)) => (fun r c2 I2 F2 => Fr [44] [] [42, 43, 48, 49, 50, 51] cn In Fn c2 I2 F2 ∧ IM c2 F2 ∧ ((¬ ((0 ≤ (nI d0).toInt ∧ (nI d0).toInt ≤ 399) ∧ (1 ≤ v1.toInt ∧ v1.toInt ≤ 400) ∧ (v2.toInt = -1 ∨ (0 ≤ v2.toInt ∧ v2.toInt < (cn 1 : Int)))) ∧ r = -1) ∨ (((0 ≤ (nI d0).toInt ∧ (nI d0).toInt ≤ 399) ∧ (1 ≤ v1.toInt ∧ v1.toInt ≤ 400) ∧ (v2.toInt = -1 ∨ (0 ≤ v2.toInt ∧ v2.toInt < (cn 1 : Int)))) ∧ (∃ k : Nat, k < cn 1 ∧ (nI d0).toInt < (Fn 7 k).toInt) ∧ r = -2) ∨ (((0 ≤ (nI d0).toInt ∧ (nI d0).toInt ≤ 399) ∧ (1 ≤ v1.toInt ∧ v1.toInt ≤ 400) ∧ (v2.toInt = -1 ∨ (0 ≤ v2.toInt ∧ v2.toInt < (cn 1 : Int)))) ∧ ((∃ l : List Nat, AL (fun k9 => v1.toInt ≤ (lkM Fn k9 (nI d0)).toInt) (cn 1) l ∧ 6 < l.length ∧ r = -2) ∨ ((∀ k : Nat, k < cn 1 → (Fn 7 k).toInt ≤ (nI d0).toInt) ∧ ∃ (l : List Nat) (T : Nat → Int32) (b y : Int32), AL (fun k9 => v1.toInt ≤ (lkM Fn k9 (nI d0)).toInt) (cn 1) l ∧ l.length ≤ 6 ∧ TBL (fun a b => apM (Fn 3 (l.getD a 0)) (Fn 4 (l.getD a 0)) (Fn 3 (l.getD b 0)) (Fn 4 (l.getD b 0))) (fun a => Fn 3 (l.getD a 0) + Fn 4 (l.getD a 0)) l.length T (2 ^ l.length) ∧ BSP (fun (t : Nat) (z : Int32) => VSH (cn 46) l.length (fun i => lkM Fn (l.getD i 0) (nI d0)) (fun j => ¬ Fn 53 (400 * j + (nI d0).toInt.toNat) = 0) (Fn 47) (RND (fun a => Fn 3 (l.getD a 0) + Fn 4 (l.getD a 0)) l.length T) (DG (cn 46) l.length t) z) (cn 46 ^ l.length) b y ∧ SHG (cn 46) (DG (cn 46) l.length) l v2 r b y))))) r u.1 u.2.1 u.2.2) (fun (u : (Nat → Nat) × (Nat → Int32) × (Nat → Nat → Int32)) (t : State) => va_P D vwCl (wM cI cB cZ g u.1 u.2.1 u.2.2) t.heap ∧ va_D A (wM cI cB cZ g u.1 u.2.1 u.2.2)) A) ([.ref (g 100), .int (nI d0), .int v1, .int v2]).toArray s 0 0 A) (F0 m 83 ls []) := by
                    intro n83
                    induction n83 with
                    | zero => intros; (first | omega | (have zz0 := Hid.u hi_cn; have zz1 := Hid.u hi_cn28; have zz2 := Hid.u hq_cn28; omega))
                    | succ n83 ih83 =>
                      intro i83 x83_5 F83 H locs hmu83 hinv83 hP hD hS ls hl
                      obtain ⟨hr83, hfr83, hI83, hx83_0, hx83_1, hx83_2⟩ := hinv83
                      have ti83 : (nI i83).toInt = (i83 : Int) := nI_toInt (by (first | omega | (have zz0 := Hid.u hi_cn; have zz1 := Hid.u hi_cn28; have zz2 := Hid.u hq_cn28; omega)))
                      have hi_cn28 : Hid (CB cn28) := hI83.b
                      have hq_cn28 := Hid.i (frq_44_0_1_2_46_57_58_62_63_75_83 hfr83)
                      obtain ⟨b8, hb8, hr8⟩ := hx83_2
                      have r42_83 : RWF (F83 42) nI l9 := by rw [hx83_1.1]; exact r42
                      refine lv_iload hx hb dX12_shared_83 (lvA0 hl) ?_
                      refine lv_iload hx hb dX12_shared_85 (lvA2 hl) ?_
                      have : (nI w53).toInt = ((w53 : Nat) : Int) := nI_toInt (by (first | omega | (have zz0 := Hid.u hi_cn; have zz1 := Hid.u hi_cn28; have zz2 := Hid.u hq_cn28; omega)))
                      refine lv_icmp_ge (tgt := 207) hx hb dX12_shared_87 rfl (fun c_31 => ?_) (fun c_31 => ?_)
                      ·
                        have tc_31 : ((nI w53).toInt : Int) ≤ (nI i83).toInt := Int32.le_iff_toInt_le.mp c_31
                        refine lv_iload hx hb dX12_shared_207 (lvA1 hl) ?_
                        refine lv_iconst (v := (-1)) hx hb dX12_shared_209 kic_m1 ?_
                        refine lv_icmp_ne (tgt := 216) hx hb dX12_shared_210 rfl (fun c_32 => ?_) (fun c_32 => ?_)
                        ·
                          have tc_32 : (x83_5.toInt : Int) ≠ (-1) := fun q => c_32 (Int32.toInt_inj.mp q)
                          refine lv_iload_n hx hb dX12_shared_216 rfl (lvA6 hl) ?_
                          refine lv_iconst (v := (-1)) hx hb dX12_shared_217 kic_m1 ?_
                          refine lv_icmp_ne (tgt := 224) hx hb dX12_shared_218 rfl (fun c_33 => ?_) (fun c_33 => ?_)
                          ·
                            have tc_33 : (v2.toInt : Int) ≠ (-1) := fun q => c_33 (Int32.toInt_inj.mp q)
                            refine lv_iconst (v := 0) hx hb (oc_3 224 (aq_1 shX12_shared_223)) kic_0 ?_
                            refine lv_istore (lv' := [(6, .int 0), (5, .int x83_5), (4, .int (nI w53)), (0, .ref (g 100)), (1, .int (nI d0)), (2, .int v1), (3, .int v2)]) hx hb (oc_54 225 (aq_2 shX12_shared_223) ub_6) hl (ltb rfl) rfl (fun ls hl => ?_)
                            have lp_227 : ∀ (n : Nat) (i227 : Nat) , (cn28 44) - i227 < n → (i227 ≤ (cn28 44) ∧ (∀ i : Nat, i < i227 → ¬ v2 = nI (l9.getD i 0))) → ∀ ls : Array Slot, lv_has ls 10 [(6, .int (nI i227)), (5, .int x83_5), (4, .int (nI w53)), (0, .ref (g 100)), (1, .int (nI d0)), (2, .int v1), (3, .int v2)] → W p l e (RM 4 0 0) s m ([.ref (g 100), .int (nI d0), .int v1, .int v2]).toArray below meth c H locs 0 0 (MQ below (va_Qi (fun (r : Int32) (u : (Nat → Nat) × (Nat → Int32) × (Nat → Nat → Int32)) => (fun r c2 I2 F2 => Fr [44] [] [42, 43, 48, 49, 50, 51] cn In Fn c2 I2 F2 ∧ IM c2 F2 ∧ ((¬ ((0 ≤ (nI d0).toInt ∧ (nI d0).toInt ≤ 399) ∧ (1 ≤ v1.toInt ∧ v1.toInt ≤ 400) ∧ (v2.toInt = -1 ∨ (0 ≤ v2.toInt ∧ v2.toInt < (cn 1 : Int)))) ∧ r = -1) ∨ (((0 ≤ (nI d0).toInt ∧ (nI d0).toInt ≤ 399) ∧ (1 ≤ v1.toInt ∧ v1.toInt ≤ 400) ∧ (v2.toInt = -1 ∨ (0 ≤ v2.toInt ∧ v2.toInt < (cn 1 : Int)))) ∧ (∃ k : Nat, k < cn 1 ∧ (nI d0).toInt < (Fn 7 k).toInt) ∧ r = -2) ∨ (((0 ≤ (nI d0).toInt ∧ (nI d0).toInt ≤ 399) ∧ (1 ≤ v1.toInt ∧ v1.toInt ≤ 400) ∧ (v2.toInt = -1 ∨ (0 ≤ v2.toInt ∧ v2.toInt < (cn 1 : Int)))) ∧ ((∃ l : List Nat, AL (fun k9 => v1.toInt ≤ (lkM Fn k9 (nI d0)).toInt) (cn 1) l ∧ 6 < l.length ∧ r = -2) ∨ ((∀ k : Nat, k < cn 1 → (Fn 7 k).toInt ≤ (nI d0).toInt) ∧ ∃ (l : List Nat) (T : Nat → Int32) (b y : Int32), AL (fun k9 => v1.toInt ≤ (lkM Fn k9 (nI d0)).toInt) (cn 1) l ∧ l.length ≤ 6 ∧ TBL (fun a b => apM (Fn 3 (l.getD a 0)) (Fn 4 (l.getD a 0)) (Fn 3 (l.getD b 0)) (Fn 4 (l.getD b 0))) (fun a => Fn 3 (l.getD a 0) + Fn 4 (l.getD a 0)) l.length T (2 ^ l.length) ∧ BSP (fun (t : Nat) (z : Int32) => VSH (cn 46) l.length (fun i => lkM Fn (l.getD i 0) (nI d0)) (fun j => ¬ Fn 53 (400 * j + (nI d0).toInt.toNat) = 0) (Fn 47) (RND (fun a => Fn 3 (l.getD a 0) + Fn 4 (l.getD a 0)) l.length T) (DG (cn 46) l.length t) z) (cn 46 ^ l.length) b y ∧ SHG (cn 46) (DG (cn 46) l.length) l v2 r b y))))) r u.1 u.2.1 u.2.2) (fun (u : (Nat → Nat) × (Nat → Int32) × (Nat → Nat → Int32)) (t : State) => va_P D vwCl (wM cI cB cZ g u.1 u.2.1 u.2.2) t.heap ∧ va_D A (wM cI cB cZ g u.1 u.2.1 u.2.2)) A) ([.ref (g 100), .int (nI d0), .int v1, .int v2]).toArray s 0 0 A) (F0 m 227 ls []) := by
                              intro n227
                              induction n227 with
                              | zero => intros; (first | omega | (have zz0 := Hid.u hi_cn; have zz1 := Hid.u hi_cn28; have zz2 := Hid.u hq_cn28; omega))
                              | succ n227 ih227 =>
                                intro i227 hmu227 hinv227 ls hl
                                obtain ⟨hr227, hx227_0⟩ := hinv227
                                have ti227 : (nI i227).toInt = (i227 : Int) := nI_toInt (by (first | omega | (have zz0 := Hid.u hi_cn; have zz1 := Hid.u hi_cn28; have zz2 := Hid.u hq_cn28; omega)))
                                refine lv_iload hx hb (oc_21 227 (aq_4 shX12_shared_223) ub_6) (lvA0 hl) ?_
                                refine lv_aload_n hx hb (oc_42 229 (aq_6 shX12_shared_223)) rfl (lvA3 hl) ?_
                                refine gM_364 S hK hP (v := .int (nI (cn28 44))) rfl (oc_180 230 (aq_7 shX12_shared_223) uw_1_108) ?_
                                refine lv_icmp_ge (tgt := 261) hx hb (oc_162 233 (aq_10 shX12_shared_223) sgw_0_28) rfl (fun c_34 => ?_) (fun c_34 => ?_)
                                ·
                                  have tc_34 : ((nI (cn28 44)).toInt : Int) ≤ (nI i227).toInt := Int32.le_iff_toInt_le.mp c_34
                                  refine lv_iconst (v := (-1)) hx hb (oc_2 261 (aq_14 shX12_shared_247)) kic_m1 ?_
                                  exact W.iret (v := (-1)) hx hb hr (fun t ht hW => ⟨⟨(-1), (cn28, In, F83), rfl, ⟨(Fr.mo hfr83 (sbl rfl) (sbl rfl) (sbl rfl)), hI83, (by show (¬ ((0 ≤ (nI d0).toInt ∧ (nI d0).toInt ≤ 399) ∧ (1 ≤ v1.toInt ∧ v1.toInt ≤ 400) ∧ (v2.toInt = -1 ∨ (0 ≤ v2.toInt ∧ v2.toInt < (cn 1 : Int)))) ∧ (-1) = -1) ∨ (((0 ≤ (nI d0).toInt ∧ (nI d0).toInt ≤ 399) ∧ (1 ≤ v1.toInt ∧ v1.toInt ≤ 400) ∧ (v2.toInt = -1 ∨ (0 ≤ v2.toInt ∧ v2.toInt < (cn 1 : Int)))) ∧ (∃ k : Nat, k < cn 1 ∧ (nI d0).toInt < (Fn 7 k).toInt) ∧ (-1) = -2) ∨ (((0 ≤ (nI d0).toInt ∧ (nI d0).toInt ≤ 399) ∧ (1 ≤ v1.toInt ∧ v1.toInt ≤ 400) ∧ (v2.toInt = -1 ∨ (0 ≤ v2.toInt ∧ v2.toInt < (cn 1 : Int)))) ∧ ((∃ l : List Nat, AL (fun k9 => v1.toInt ≤ (lkM Fn k9 (nI d0)).toInt) (cn 1) l ∧ 6 < l.length ∧ (-1) = -2) ∨ ((∀ k : Nat, k < cn 1 → (Fn 7 k).toInt ≤ (nI d0).toInt) ∧ ∃ (l : List Nat) (T : Nat → Int32) (b y : Int32), AL (fun k9 => v1.toInt ≤ (lkM Fn k9 (nI d0)).toInt) (cn 1) l ∧ l.length ≤ 6 ∧ TBL (fun a b => apM (Fn 3 (l.getD a 0)) (Fn 4 (l.getD a 0)) (Fn 3 (l.getD b 0)) (Fn 4 (l.getD b 0))) (fun a => Fn 3 (l.getD a 0) + Fn 4 (l.getD a 0)) l.length T (2 ^ l.length) ∧ BSP (fun (t : Nat) (z : Int32) => VSH (cn 46) l.length (fun i => lkM Fn (l.getD i 0) (nI d0)) (fun j => ¬ Fn 53 (400 * j + (nI d0).toInt.toNat) = 0) (Fn 47) (RND (fun a => Fn 3 (l.getD a 0) + Fn 4 (l.getD a 0)) l.length T) (DG (cn 46) l.length t) z) (cn 46 ^ l.length) b y ∧ SHG (cn 46) (DG (cn 46) l.length) l v2 (-1) b y))); have e9 : i83 = w53 := (by (first | omega | (have zz0 := Hid.u hi_cn; have zz1 := Hid.u hi_cn28; have zz2 := Hid.u hq_cn28; omega))); rw [e9, hw4] at hb8; have hg9 := (show SHG (cn28 46) (DG (cn28 46) l9.length) l9 v2 (-1) b8 x83_5 from (Or.inr (Or.inr ⟨(hr8.elim (fun q9 => absurd q9.2 (by first | assumption | exact fun q => absurd (congrArg Int32.toInt q) (by assumption))) (fun q9 w9 => by obtain ⟨s9, es9, hs9, -⟩ := q9; exact nI_ne1 (by (first | omega | (have zz0 := Hid.u hi_cn; have zz1 := Hid.u hi_cn28; have zz2 := Hid.u hq_cn28; omega))) (es9.symm.trans w9))), (by first | assumption | exact fun q => absurd (congrArg Int32.toInt q) (by assumption)), (by rcases hr8 with ⟨-, q9⟩ | ⟨s9, es9, hs9, hw9⟩; exact absurd q9 (by first | assumption | exact fun q => absurd (congrArg Int32.toInt q) (by assumption)); exact ⟨s9, by rw [← hc44, ← hw4]; (first | omega | (have zz0 := Hid.u hi_cn; have zz1 := Hid.u hi_cn28; have zz2 := Hid.u hq_cn28; omega)), es9, Or.inr ⟨fun i hi => hx227_0 i (by (first | omega | (have zz0 := Hid.u hi_cn; have zz1 := Hid.u hi_cn28; have zz2 := Hid.u hq_cn28; omega))), rfl⟩⟩)⟩))); rw [hc44, e46] at hb8; exact (Or.inr (Or.inr ⟨hC9, Or.inr ⟨hnb, l9, Fn28 43, b8, x83_5, hal, by (first | omega | (have zz0 := Hid.u hi_cn; have zz1 := Hid.u hi_cn28; have zz2 := Hid.u hq_cn28; omega)), htb, (by rw [zd0]; exact (BSP.mo (fun t z ht hz => VSH.cg (fun i hi => by show lkM Fn28 (l9.getD i 0) (nI d0) = lkM Fn (l9.getD i 0) (nI d0); unfold lkM; rw [f5, f6, f7]) (fun j _ => by rw [f53]) (fun j _ => by rw [f47]) (fun S x hS hx => by rw [f3, f4] at hx; exact hx) hz) hb8)), (by rw [← e46]; exact hg9)⟩⟩)))⟩, by rw [ht]; exact hP, hD⟩, hS.F ht⟩) hS.2.2 (oc_172 262 (aq_15 shX12_shared_247))
                                ·
                                  have tc_34 : ((nI i227).toInt : Int) < (nI (cn28 44)).toInt := Int32.lt_iff_toInt_lt.mp (Int32.not_le.mp c_34)
                                  refine lv_aload_n hx hb (oc_42 236 (aq_13 shX12_shared_223)) rfl (lvA3 hl) ?_
                                  refine gM_101 S hK hP (v := .ref (g 42)) rfl (oc_180 237 (aq_14 shX12_shared_223) uw_0_101) ?_
                                  refine lv_iload hx hb (oc_21 240 (aq_17 shX12_shared_223) ub_6) (lvA0 hl) ?_
                                  have kb_4 : i227 < 10 := by (first | omega | (have zz0 := Hid.u hi_cn; have zz1 := Hid.u hi_cn28; have zz2 := Hid.u hq_cn28; omega))
                                  obtain ⟨a_35, ha_35, ea_35⟩ := hx83_0 i227 (by (first | omega | (have zz0 := Hid.u hi_cn; have zz1 := Hid.u hi_cn28; have zz2 := Hid.u hq_cn28; omega)))
                                  refine ldM_42 hx hb hK hP (x := (nI a_35)) (vp_in_nI kb_4 (ltb rfl)) (nI_clamp (Nat.lt_trans kb_4 (ltb rfl))) ea_35 (oc_46 242 (aq_19 shX12_shared_223)) ?_
                                  obtain rfl : a_35 = l9.getD i227 0 := nIw_inj (by (first | omega | (have zz0 := Hid.u hi_cn; have zz1 := Hid.u hi_cn28; have zz2 := Hid.u hq_cn28; omega))) (by have := hk9 i227 (by (first | omega | (have zz0 := Hid.u hi_cn; have zz1 := Hid.u hi_cn28; have zz2 := Hid.u hq_cn28; omega))); (first | omega | (have zz0 := Hid.u hi_cn; have zz1 := Hid.u hi_cn28; have zz2 := Hid.u hq_cn28; omega))) (ea_35.symm.trans (r42_83.at (by (first | omega | (have zz0 := Hid.u hi_cn; have zz1 := Hid.u hi_cn28; have zz2 := Hid.u hq_cn28; omega)))))
                                  have := hk9 i227 (by (first | omega | (have zz0 := Hid.u hi_cn; have zz1 := Hid.u hi_cn28; have zz2 := Hid.u hq_cn28; omega)))
                                  refine lv_iload_n hx hb (oc_29 243 (aq_20 shX12_shared_223)) rfl (lvA6 hl) ?_
                                  have : (nI (l9.getD i227 0)).toInt = (((l9.getD i227 0) : Nat) : Int) := nI_toInt (by (first | omega | (have zz0 := Hid.u hi_cn; have zz1 := Hid.u hi_cn28; have zz2 := Hid.u hq_cn28; omega)))
                                  refine lv_icmp_ne (tgt := 255) hx hb (oc_160 244 (aq_21 shX12_shared_223) sgw_0_11) rfl (fun c_36 => ?_) (fun c_36 => ?_)
                                  ·
                                    have tc_36 : ((nI (l9.getD i227 0)).toInt : Int) ≠ v2.toInt := fun q => c_36 (Int32.toInt_inj.mp q)
                                    refine lv_iinc (v := (nI (i227 + 1))) (lv' := [(6, .int (nI (i227 + 1))), (5, .int x83_5), (4, .int (nI w53)), (0, .ref (g 100)), (1, .int (nI d0)), (2, .int v1), (3, .int v2)]) hx hb (oc_132 255 (aq_8 shX12_shared_247) ub_6 sgb_1) hl (k := 0) rfl (nI_1 _) (ltb rfl) rfl (fun ls hl => ?_)
                                    refine lv_goto (tgt := 227) hx hb (oc_167 258 (aq_11 shX12_shared_247) sgw_255_225) rfl ?_
                                    exact ih227 (i227 + 1) (by (first | omega | (have zz0 := Hid.u hi_cn; have zz1 := Hid.u hi_cn28; have zz2 := Hid.u hq_cn28; omega))) ⟨(by (first | omega | (have zz0 := Hid.u hi_cn; have zz1 := Hid.u hi_cn28; have zz2 := Hid.u hq_cn28; omega))), (fun i hi => if q9 : i = i227 then (by rw [q9]; exact fun w9 => (show ¬ nI (l9.getD i227 0) = v2 from (by first | assumption | exact fun q => absurd (congrArg Int32.toInt q) (by assumption))) w9.symm) else hx227_0 i (by (first | omega | (have zz0 := Hid.u hi_cn; have zz1 := Hid.u hi_cn28; have zz2 := Hid.u hq_cn28; omega))))⟩ ls (lv_sub hl [0, 1, 2, 3, 4, 5, 6] rfl)
                                  ·
                                    have tc_36 : ((nI (l9.getD i227 0)).toInt : Int) = v2.toInt := congrArg Int32.toInt c_36
                                    refine lv_aload_n hx hb (oc_42 247 shX12_shared_247) rfl (lvA3 hl) ?_
                                    refine gM_119 S hK hP (v := .ref (g 51)) rfl (oc_180 248 (aq_1 shX12_shared_247) uw_0_119) ?_
                                    refine lv_iload hx hb (oc_21 251 (aq_4 shX12_shared_247) ub_6) (lvA0 hl) ?_
                                    have kb_5 : i227 < 6 := by (first | omega | (have zz0 := Hid.u hi_cn; have zz1 := Hid.u hi_cn28; have zz2 := Hid.u hq_cn28; omega))
                                    refine ldM_51 hx hb hK hP (x := ((F83 51) i227)) (vp_in_nI kb_5 (ltb rfl)) (nI_clamp (Nat.lt_trans kb_5 (ltb rfl))) rfl (oc_46 253 (aq_6 shX12_shared_247)) ?_
                                    exact W.iret (v := ((F83 51) i227)) hx hb hr (fun t ht hW => ⟨⟨((F83 51) i227), (cn28, In, F83), rfl, ⟨(Fr.mo hfr83 (sbl rfl) (sbl rfl) (sbl rfl)), hI83, (by show (¬ ((0 ≤ (nI d0).toInt ∧ (nI d0).toInt ≤ 399) ∧ (1 ≤ v1.toInt ∧ v1.toInt ≤ 400) ∧ (v2.toInt = -1 ∨ (0 ≤ v2.toInt ∧ v2.toInt < (cn 1 : Int)))) ∧ ((F83 51) i227) = -1) ∨ (((0 ≤ (nI d0).toInt ∧ (nI d0).toInt ≤ 399) ∧ (1 ≤ v1.toInt ∧ v1.toInt ≤ 400) ∧ (v2.toInt = -1 ∨ (0 ≤ v2.toInt ∧ v2.toInt < (cn 1 : Int)))) ∧ (∃ k : Nat, k < cn 1 ∧ (nI d0).toInt < (Fn 7 k).toInt) ∧ ((F83 51) i227) = -2) ∨ (((0 ≤ (nI d0).toInt ∧ (nI d0).toInt ≤ 399) ∧ (1 ≤ v1.toInt ∧ v1.toInt ≤ 400) ∧ (v2.toInt = -1 ∨ (0 ≤ v2.toInt ∧ v2.toInt < (cn 1 : Int)))) ∧ ((∃ l : List Nat, AL (fun k9 => v1.toInt ≤ (lkM Fn k9 (nI d0)).toInt) (cn 1) l ∧ 6 < l.length ∧ ((F83 51) i227) = -2) ∨ ((∀ k : Nat, k < cn 1 → (Fn 7 k).toInt ≤ (nI d0).toInt) ∧ ∃ (l : List Nat) (T : Nat → Int32) (b y : Int32), AL (fun k9 => v1.toInt ≤ (lkM Fn k9 (nI d0)).toInt) (cn 1) l ∧ l.length ≤ 6 ∧ TBL (fun a b => apM (Fn 3 (l.getD a 0)) (Fn 4 (l.getD a 0)) (Fn 3 (l.getD b 0)) (Fn 4 (l.getD b 0))) (fun a => Fn 3 (l.getD a 0) + Fn 4 (l.getD a 0)) l.length T (2 ^ l.length) ∧ BSP (fun (t : Nat) (z : Int32) => VSH (cn 46) l.length (fun i => lkM Fn (l.getD i 0) (nI d0)) (fun j => ¬ Fn 53 (400 * j + (nI d0).toInt.toNat) = 0) (Fn 47) (RND (fun a => Fn 3 (l.getD a 0) + Fn 4 (l.getD a 0)) l.length T) (DG (cn 46) l.length t) z) (cn 46 ^ l.length) b y ∧ SHG (cn 46) (DG (cn 46) l.length) l v2 ((F83 51) i227) b y))); have e9 : i83 = w53 := (by (first | omega | (have zz0 := Hid.u hi_cn; have zz1 := Hid.u hi_cn28; have zz2 := Hid.u hq_cn28; omega))); rw [e9, hw4] at hb8; have hg9 := (show SHG (cn28 46) (DG (cn28 46) l9.length) l9 v2 ((F83 51) i227) b8 x83_5 from (Or.inr (Or.inr ⟨(hr8.elim (fun q9 => absurd q9.2 (by first | assumption | exact fun q => absurd (congrArg Int32.toInt q) (by assumption))) (fun q9 w9 => by obtain ⟨s9, es9, hs9, -⟩ := q9; exact nI_ne1 (by (first | omega | (have zz0 := Hid.u hi_cn; have zz1 := Hid.u hi_cn28; have zz2 := Hid.u hq_cn28; omega))) (es9.symm.trans w9))), (by first | assumption | exact fun q => absurd (congrArg Int32.toInt q) (by assumption)), (by rcases hr8 with ⟨-, q9⟩ | ⟨s9, es9, hs9, hw9⟩; exact absurd q9 (by first | assumption | exact fun q => absurd (congrArg Int32.toInt q) (by assumption)); exact ⟨s9, by rw [← hc44, ← hw4]; (first | omega | (have zz0 := Hid.u hi_cn; have zz1 := Hid.u hi_cn28; have zz2 := Hid.u hq_cn28; omega)), es9, Or.inl ⟨i227, by (first | omega | (have zz0 := Hid.u hi_cn; have zz1 := Hid.u hi_cn28; have zz2 := Hid.u hq_cn28; omega)), (show nI (l9.getD i227 0) = v2 from (by first | assumption | exact Int32.toInt_inj.mp (by assumption))).symm, by rw [← hc44]; exact hw9 i227 (by (first | omega | (have zz0 := Hid.u hi_cn; have zz1 := Hid.u hi_cn28; have zz2 := Hid.u hq_cn28; omega)))⟩⟩)⟩))); rw [hc44, e46] at hb8; exact (Or.inr (Or.inr ⟨hC9, Or.inr ⟨hnb, l9, Fn28 43, b8, x83_5, hal, by (first | omega | (have zz0 := Hid.u hi_cn; have zz1 := Hid.u hi_cn28; have zz2 := Hid.u hq_cn28; omega)), htb, (by rw [zd0]; exact (BSP.mo (fun t z ht hz => VSH.cg (fun i hi => by show lkM Fn28 (l9.getD i 0) (nI d0) = lkM Fn (l9.getD i 0) (nI d0); unfold lkM; rw [f5, f6, f7]) (fun j _ => by rw [f53]) (fun j _ => by rw [f47]) (fun S x hS hx => by rw [f3, f4] at hx; exact hx) hz) hb8)), (by rw [← e46]; exact hg9)⟩⟩)))⟩, by rw [ht]; exact hP, hD⟩, hS.F ht⟩) hS.2.2 (oc_172 254 (aq_7 shX12_shared_247))
                            exact lp_227 _ 0 (Nat.lt_succ_self _) ⟨(by (first | omega | (have zz0 := Hid.u hi_cn; have zz1 := Hid.u hi_cn28; have zz2 := Hid.u hq_cn28; omega))), (fun i hi => absurd hi (Nat.not_lt_zero i))⟩ ls (lv_sub hl [0, 1, 2, 3, 4, 5, 6] rfl)
                          ·
                            have tc_33 : (v2.toInt : Int) = (-1) := congrArg Int32.toInt c_33
                            refine lv_iload hx hb dX12_shared_221 (lvA1 hl) ?_
                            exact W.iret (v := x83_5) hx hb hr (fun t ht hW => ⟨⟨x83_5, (cn28, In, F83), rfl, ⟨(Fr.mo hfr83 (sbl rfl) (sbl rfl) (sbl rfl)), hI83, (by show (¬ ((0 ≤ (nI d0).toInt ∧ (nI d0).toInt ≤ 399) ∧ (1 ≤ v1.toInt ∧ v1.toInt ≤ 400) ∧ (v2.toInt = -1 ∨ (0 ≤ v2.toInt ∧ v2.toInt < (cn 1 : Int)))) ∧ x83_5 = -1) ∨ (((0 ≤ (nI d0).toInt ∧ (nI d0).toInt ≤ 399) ∧ (1 ≤ v1.toInt ∧ v1.toInt ≤ 400) ∧ (v2.toInt = -1 ∨ (0 ≤ v2.toInt ∧ v2.toInt < (cn 1 : Int)))) ∧ (∃ k : Nat, k < cn 1 ∧ (nI d0).toInt < (Fn 7 k).toInt) ∧ x83_5 = -2) ∨ (((0 ≤ (nI d0).toInt ∧ (nI d0).toInt ≤ 399) ∧ (1 ≤ v1.toInt ∧ v1.toInt ≤ 400) ∧ (v2.toInt = -1 ∨ (0 ≤ v2.toInt ∧ v2.toInt < (cn 1 : Int)))) ∧ ((∃ l : List Nat, AL (fun k9 => v1.toInt ≤ (lkM Fn k9 (nI d0)).toInt) (cn 1) l ∧ 6 < l.length ∧ x83_5 = -2) ∨ ((∀ k : Nat, k < cn 1 → (Fn 7 k).toInt ≤ (nI d0).toInt) ∧ ∃ (l : List Nat) (T : Nat → Int32) (b y : Int32), AL (fun k9 => v1.toInt ≤ (lkM Fn k9 (nI d0)).toInt) (cn 1) l ∧ l.length ≤ 6 ∧ TBL (fun a b => apM (Fn 3 (l.getD a 0)) (Fn 4 (l.getD a 0)) (Fn 3 (l.getD b 0)) (Fn 4 (l.getD b 0))) (fun a => Fn 3 (l.getD a 0) + Fn 4 (l.getD a 0)) l.length T (2 ^ l.length) ∧ BSP (fun (t : Nat) (z : Int32) => VSH (cn 46) l.length (fun i => lkM Fn (l.getD i 0) (nI d0)) (fun j => ¬ Fn 53 (400 * j + (nI d0).toInt.toNat) = 0) (Fn 47) (RND (fun a => Fn 3 (l.getD a 0) + Fn 4 (l.getD a 0)) l.length T) (DG (cn 46) l.length t) z) (cn 46 ^ l.length) b y ∧ SHG (cn 46) (DG (cn 46) l.length) l v2 x83_5 b y))); have e9 : i83 = w53 := (by (first | omega | (have zz0 := Hid.u hi_cn; have zz1 := Hid.u hi_cn28; have zz2 := Hid.u hq_cn28; omega))); rw [e9, hw4] at hb8; have hg9 := (show SHG (cn28 46) (DG (cn28 46) l9.length) l9 v2 x83_5 b8 x83_5 from (Or.inr (Or.inl ⟨(hr8.elim (fun q9 => absurd q9.2 (by first | assumption | exact fun q => absurd (congrArg Int32.toInt q) (by assumption))) (fun q9 w9 => by obtain ⟨s9, es9, hs9, -⟩ := q9; exact nI_ne1 (by (first | omega | (have zz0 := Hid.u hi_cn; have zz1 := Hid.u hi_cn28; have zz2 := Hid.u hq_cn28; omega))) (es9.symm.trans w9))), (by first | assumption | exact Int32.toInt_inj.mp (by assumption)), rfl⟩))); rw [hc44, e46] at hb8; exact (Or.inr (Or.inr ⟨hC9, Or.inr ⟨hnb, l9, Fn28 43, b8, x83_5, hal, by (first | omega | (have zz0 := Hid.u hi_cn; have zz1 := Hid.u hi_cn28; have zz2 := Hid.u hq_cn28; omega)), htb, (by rw [zd0]; exact (BSP.mo (fun t z ht hz => VSH.cg (fun i hi => by show lkM Fn28 (l9.getD i 0) (nI d0) = lkM Fn (l9.getD i 0) (nI d0); unfold lkM; rw [f5, f6, f7]) (fun j _ => by rw [f53]) (fun j _ => by rw [f47]) (fun S x hS hx => by rw [f3, f4] at hx; exact hx) hz) hb8)), (by rw [← e46]; exact hg9)⟩⟩)))⟩, by rw [ht]; exact hP, hD⟩, hS.F ht⟩) hS.2.2 dX12_shared_223
                        ·
                          have tc_32 : (x83_5.toInt : Int) = (-1) := congrArg Int32.toInt c_32
                          refine lv_bipush (v := (-2)) hx hb dX12_shared_213 kbc_m2 ?_
                          exact W.iret (v := (-2)) hx hb hr (fun t ht hW => ⟨⟨(-2), (cn28, In, F83), rfl, ⟨(Fr.mo hfr83 (sbl rfl) (sbl rfl) (sbl rfl)), hI83, (by show (¬ ((0 ≤ (nI d0).toInt ∧ (nI d0).toInt ≤ 399) ∧ (1 ≤ v1.toInt ∧ v1.toInt ≤ 400) ∧ (v2.toInt = -1 ∨ (0 ≤ v2.toInt ∧ v2.toInt < (cn 1 : Int)))) ∧ (-2) = -1) ∨ (((0 ≤ (nI d0).toInt ∧ (nI d0).toInt ≤ 399) ∧ (1 ≤ v1.toInt ∧ v1.toInt ≤ 400) ∧ (v2.toInt = -1 ∨ (0 ≤ v2.toInt ∧ v2.toInt < (cn 1 : Int)))) ∧ (∃ k : Nat, k < cn 1 ∧ (nI d0).toInt < (Fn 7 k).toInt) ∧ (-2) = -2) ∨ (((0 ≤ (nI d0).toInt ∧ (nI d0).toInt ≤ 399) ∧ (1 ≤ v1.toInt ∧ v1.toInt ≤ 400) ∧ (v2.toInt = -1 ∨ (0 ≤ v2.toInt ∧ v2.toInt < (cn 1 : Int)))) ∧ ((∃ l : List Nat, AL (fun k9 => v1.toInt ≤ (lkM Fn k9 (nI d0)).toInt) (cn 1) l ∧ 6 < l.length ∧ (-2) = -2) ∨ ((∀ k : Nat, k < cn 1 → (Fn 7 k).toInt ≤ (nI d0).toInt) ∧ ∃ (l : List Nat) (T : Nat → Int32) (b y : Int32), AL (fun k9 => v1.toInt ≤ (lkM Fn k9 (nI d0)).toInt) (cn 1) l ∧ l.length ≤ 6 ∧ TBL (fun a b => apM (Fn 3 (l.getD a 0)) (Fn 4 (l.getD a 0)) (Fn 3 (l.getD b 0)) (Fn 4 (l.getD b 0))) (fun a => Fn 3 (l.getD a 0) + Fn 4 (l.getD a 0)) l.length T (2 ^ l.length) ∧ BSP (fun (t : Nat) (z : Int32) => VSH (cn 46) l.length (fun i => lkM Fn (l.getD i 0) (nI d0)) (fun j => ¬ Fn 53 (400 * j + (nI d0).toInt.toNat) = 0) (Fn 47) (RND (fun a => Fn 3 (l.getD a 0) + Fn 4 (l.getD a 0)) l.length T) (DG (cn 46) l.length t) z) (cn 46 ^ l.length) b y ∧ SHG (cn 46) (DG (cn 46) l.length) l v2 (-2) b y))); have e9 : i83 = w53 := (by (first | omega | (have zz0 := Hid.u hi_cn; have zz1 := Hid.u hi_cn28; have zz2 := Hid.u hq_cn28; omega))); rw [e9, hw4] at hb8; have hg9 := (show SHG (cn28 46) (DG (cn28 46) l9.length) l9 v2 (-2) b8 x83_5 from (Or.inl ⟨hb8.or.elim id (fun q9 => absurd (by first | assumption | exact Int32.toInt_inj.mp (by assumption)) q9), rfl⟩)); rw [hc44, e46] at hb8; exact (Or.inr (Or.inr ⟨hC9, Or.inr ⟨hnb, l9, Fn28 43, b8, x83_5, hal, by (first | omega | (have zz0 := Hid.u hi_cn; have zz1 := Hid.u hi_cn28; have zz2 := Hid.u hq_cn28; omega)), htb, (by rw [zd0]; exact (BSP.mo (fun t z ht hz => VSH.cg (fun i hi => by show lkM Fn28 (l9.getD i 0) (nI d0) = lkM Fn (l9.getD i 0) (nI d0); unfold lkM; rw [f5, f6, f7]) (fun j _ => by rw [f53]) (fun j _ => by rw [f47]) (fun S x hS hx => by rw [f3, f4] at hx; exact hx) hz) hb8)), (by rw [← e46]; exact hg9)⟩⟩)))⟩, by rw [ht]; exact hP, hD⟩, hS.F ht⟩) hS.2.2 dX12_shared_215
                      ·
                        have tc_31 : ((nI i83).toInt : Int) < (nI w53).toInt := Int32.lt_iff_toInt_lt.mp (Int32.not_le.mp c_31)
                        refine lv_iload hx hb dX12_shared_90 (lvA0 hl) ?_
                        refine lv_istore (lv' := [(7, .int (nI i83)), (6, .int (nI i83)), (5, .int x83_5), (4, .int (nI w53)), (0, .ref (g 100)), (1, .int (nI d0)), (2, .int v1), (3, .int v2)]) hx hb dX12_shared_92 hl (ltb rfl) rfl (fun ls hl => ?_)
                        refine lv_aload_n hx hb dX12_shared_94 rfl (lvA4 hl) ?_
                        refine gM_364 S hK hP (v := .int (nI (cn28 44))) rfl dX12_shared_95 ?_
                        refine lv_iconst (v := 1) hx hb dX12_shared_98 kic_1 ?_
                        refine lv_isub hx hb dX12_shared_99 ?_
                        refine lv_topi (fun y_37 ey_37 => ?_)
                        obtain rfl : y_37 = (nI (cn28 44) + (-1)) := ey_37.trans (Int32.sub_eq_add_neg ..)
                        refine lv_istore (lv' := [(8, .int (nI (cn28 44) + (-1))), (7, .int (nI i83)), (6, .int (nI i83)), (5, .int x83_5), (4, .int (nI w53)), (0, .ref (g 100)), (1, .int (nI d0)), (2, .int v1), (3, .int v2)]) hx hb dX12_shared_100 hl (ltb rfl) rfl (fun ls hl => ?_)
                        have lp_102 : ∀ (n : Nat) (q102 : Nat) (k102 : Nat) (F102 : Nat → Nat → Int32) (H : Heap) (locs : List Loc) , k102 < n → (Fr [44] [] [42, 43, 48, 49, 50, 51] cn In Fn cn28 In F102 ∧ IM cn28 F102 ∧ (k102 ≤ (cn28 44) ∧ q102 ≤ w53 ∧ q102 = i83 / (cn28 46) ^ ((cn28 44) - k102)) ∧ (∀ a : Nat, k102 ≤ a → a < (cn28 44) → F102 50 a = nI (DG (cn28 46) (cn28 44) i83 a)) ∧ (AK cn28 F102) ∧ (F102 42 = Fn28 42 ∧ F102 43 = Fn28 43 ∧ F102 51 = F83 51)) → va_P D vwCl (wM cI cB cZ g cn28 In F102) H → va_D A (wM cI cB cZ g cn28 In F102) → va_S A s.heap H locs → ∀ ls : Array Slot, lv_has ls 10 [(8, .int (nI k102 + (-1))), (7, .int (nI q102)), (6, .int (nI i83)), (5, .int x83_5), (4, .int (nI w53)), (0, .ref (g 100)), (1, .int (nI d0)), (2, .int v1), (3, .int v2)] → W p l e (RM 4 0 0) s m ([.ref (g 100), .int (nI d0), .int v1, .int v2]).toArray below meth c H locs 0 0 (MQ below (va_Qi (fun (r : Int32) (u : (Nat → Nat) × (Nat → Int32) × (Nat → Nat → Int32)) => (fun r c2 I2 F2 => Fr [44] [] [42, 43, 48, 49, 50, 51] cn In Fn c2 I2 F2 ∧ IM c2 F2 ∧ ((¬ ((0 ≤ (nI d0).toInt ∧ (nI d0).toInt ≤ 399) ∧ (1 ≤ v1.toInt ∧ v1.toInt ≤ 400) ∧ (v2.toInt = -1 ∨ (0 ≤ v2.toInt ∧ v2.toInt < (cn 1 : Int)))) ∧ r = -1) ∨ (((0 ≤ (nI d0).toInt ∧ (nI d0).toInt ≤ 399) ∧ (1 ≤ v1.toInt ∧ v1.toInt ≤ 400) ∧ (v2.toInt = -1 ∨ (0 ≤ v2.toInt ∧ v2.toInt < (cn 1 : Int)))) ∧ (∃ k : Nat, k < cn 1 ∧ (nI d0).toInt < (Fn 7 k).toInt) ∧ r = -2) ∨ (((0 ≤ (nI d0).toInt ∧ (nI d0).toInt ≤ 399) ∧ (1 ≤ v1.toInt ∧ v1.toInt ≤ 400) ∧ (v2.toInt = -1 ∨ (0 ≤ v2.toInt ∧ v2.toInt < (cn 1 : Int)))) ∧ ((∃ l : List Nat, AL (fun k9 => v1.toInt ≤ (lkM Fn k9 (nI d0)).toInt) (cn 1) l ∧ 6 < l.length ∧ r = -2) ∨ ((∀ k : Nat, k < cn 1 → (Fn 7 k).toInt ≤ (nI d0).toInt) ∧ ∃ (l : List Nat) (T : Nat → Int32) (b y : Int32), AL (fun k9 => v1.toInt ≤ (lkM Fn k9 (nI d0)).toInt) (cn 1) l ∧ l.length ≤ 6 ∧ TBL (fun a b => apM (Fn 3 (l.getD a 0)) (Fn 4 (l.getD a 0)) (Fn 3 (l.getD b 0)) (Fn 4 (l.getD b 0))) (fun a => Fn 3 (l.getD a 0) + Fn 4 (l.getD a 0)) l.length T (2 ^ l.length) ∧ BSP (fun (t : Nat) (z : Int32) => VSH (cn 46) l.length (fun i => lkM Fn (l.getD i 0) (nI d0)) (fun j => ¬ Fn 53 (400 * j + (nI d0).toInt.toNat) = 0) (Fn 47) (RND (fun a => Fn 3 (l.getD a 0) + Fn 4 (l.getD a 0)) l.length T) (DG (cn 46) l.length t) z) (cn 46 ^ l.length) b y ∧ SHG (cn 46) (DG (cn 46) l.length) l v2 r b y))))) r u.1 u.2.1 u.2.2) (fun (u : (Nat → Nat) × (Nat → Int32) × (Nat → Nat → Int32)) (t : State) => va_P D vwCl (wM cI cB cZ g u.1 u.2.1 u.2.2) t.heap ∧ va_D A (wM cI cB cZ g u.1 u.2.1 u.2.2)) A) ([.ref (g 100), .int (nI d0), .int v1, .int v2]).toArray s 0 0 A) (F0 m 102 ls []) := by
                          intro n102
                          induction n102 with
                          | zero => intros; (first | omega | (have zz0 := Hid.u hi_cn; have zz1 := Hid.u hi_cn28; have zz2 := Hid.u hq_cn28; omega))
                          | succ n102 ih102 =>
                            intro q102 k102 F102 H locs hmu102 hinv102 hP hD hS ls hl
                            obtain ⟨hfr102, hI102, hx102_0, hx102_1, hx102_2, hx102_3⟩ := hinv102
                            have hi_cn28 : Hid (CB cn28) := hI102.b
                            have hq_cn28 := Hid.i (frq_44_0_1_2_46_57_58_62_63_75_83 hfr102)
                            rcases k102 with _ | j102
                            ·
                              rw [show nI 0 + (-1) = (-1 : Int32) by decide] at hl
                              have hl : lv_has ls 10 [(8, .int (-1)), (7, .int (nI q102)), (6, .int (nI i83)), (5, .int x83_5), (4, .int (nI w53)), (0, .ref (g 100)), (1, .int (nI d0)), (2, .int v1), (3, .int v2)] := hl
                              refine lv_iload hx hb dX12_shared_102 (lvA0 hl) ?_
                              refine lv_if_lt (tgt := 136) hx hb dX12_shared_104 rfl (fun _ => ?_) (fun h => absurd h cq_lt_m1_0)
                              refine lv_aload_n hx hb dX12_shared_136 rfl (lvA5 hl) ?_
                              refine lv_iload_n hx hb dX12_shared_137 rfl (lvA6 hl) ?_
                              have x3 : F102 3 = Fn28 3 := (hfr102.2.2 3 (nml rfl)).trans f3.symm
                              have x4 : F102 4 = Fn28 4 := (hfr102.2.2 4 (nml rfl)).trans f4.symm
                              have x5 : F102 5 = Fn28 5 := (hfr102.2.2 5 (nml rfl)).trans f5.symm
                              have x6 : F102 6 = Fn28 6 := (hfr102.2.2 6 (nml rfl)).trans f6.symm
                              have x7 : F102 7 = Fn28 7 := (hfr102.2.2 7 (nml rfl)).trans f7.symm
                              have x47 : F102 47 = Fn28 47 := (hfr102.2.2 47 (nml rfl)).trans f47.symm
                              have x53 : F102 53 = Fn28 53 := (hfr102.2.2 53 (nml rfl)).trans f53.symm
                              have x42 : RWF (F102 42) nI l9 := by rw [hx102_3.1]; exact r42
                              have hL9 : cn28 44 = 0 ∨ 0 < cn28 46 := pw0 (s := i83) (by rw [← hw4]; (first | omega | (have zz0 := Hid.u hi_cn; have zz1 := Hid.u hi_cn28; have zz2 := Hid.u hq_cn28; omega)))
                              have hFc := free_all hD hS hA
                              refine va_calli (runV_a (As := [.int (nI d0)]) (rest := []) S (q_sharedBy9 l D cI cB cZ g cn28 In F102 d0 i83 l9 H.size hI102 (by (first | omega | (have zz0 := Hid.u hi_cn; have zz1 := Hid.u hi_cn28; have zz2 := Hid.u hq_cn28; omega))) (by (first | omega | (have zz0 := Hid.u hi_cn; have zz1 := Hid.u hi_cn28; have zz2 := Hid.u hq_cn28; omega))) hx102_2 hc44 x42 (fun k hk => by rw [x3, x4, f3, f4]; exact hxy k (by (first | omega | (have zz0 := Hid.u hi_cn; have zz1 := Hid.u hi_cn28; have zz2 := Hid.u hq_cn28; omega)))) hk9 (fun a ha => hx102_1 a (Nat.zero_le a) ha) hL9 (fun j hj => by rw [x47, f47]; exact hT j (by (first | omega | (have zz0 := Hid.u hi_cn; have zz1 := Hid.u hi_cn28; have zz2 := Hid.u hq_cn28; omega)))) (by rw [x3, x4, hx102_3.2.1]; exact htb9)) kV_RX12_392 hK hP hD 0 rfl rfl rfl ⟨Nat.le_of_ble_eq_true rfl, Nat.le_of_ble_eq_true rfl⟩ ⟨Nat.le_of_ble_eq_true rfl, Nat.le_of_ble_eq_true rfl⟩ rfl hl.1 rfl (Nat.le_of_ble_eq_true rfl) dX12_shared_138) hS (fun q _ h => hFc q h) hFc (fun r_38 u t H1 locs ht hvm wh_39 hB hz1 hk1 hS => ?_)
                              obtain ⟨cn39, In39, Fn39⟩ := u
                              obtain ⟨hP1, hD1⟩ := hB
                              rw [ht] at hP1
                              have hP : va_P D vwCl (wM cI cB cZ g cn39 In39 Fn39) H1 := hP1
                              have hD : va_D A (wM cI cB cZ g cn39 In39 Fn39) := hD1.weaken (fun _ _ _ h => hFc _ h)
                              generalize H1 = H at hP hS ⊢
                              have vh_39 : (fun r c2 I2 F2 => Fr [] [] [48, 49] cn28 In F102 c2 I2 F2 ∧ IM c2 F2 ∧ (VSH ((cn28 46)) ((cn28 44)) (fun i => lkM F102 (l9.getD i 0) (nI d0)) (fun j => ¬ (F102 53) (400 * j + d0) = 0) ((F102 47)) (RND (fun a => (F102 3) (l9.getD a 0) + (F102 4) (l9.getD a 0)) ((cn28 44)) ((F102 43))) (DG ((cn28 46)) ((cn28 44)) i83) r)) r_38 cn39 In39 Fn39 := wh_39
                              obtain ⟨hfc39, hIn39, h_39⟩ := vh_39
                              obtain rfl : cn28 = cn39 := (funext (fun k => hfc39.1 k List.not_mem_nil)).symm
                              obtain rfl : In = In39 := (funext (fun k => hfc39.2.1 k List.not_mem_nil)).symm
                              have hf39 : Fr [44] [] [42, 43, 48, 49, 50, 51] cn In Fn cn28 In Fn39 := Fr.mo (Fr.tr hfr102 hfc39) (sbl rfl) (sbl rfl) (sbl rfl)
                              have hi_cn28 : Hid (CB cn28) := hIn39.b
                              have hq_cn28 := Hid.i (frq_44_0_1_2_46_57_58_62_63_75_83 hf39)
                              have hAK39 : AK cn28 Fn39 := AK.fr hx102_2 hfc39 (by decide) (by decide)
                              have hv9 : (fun (t : Nat) (z : Int32) => VSH (cn28 46) (cn28 44) (fun i => lkM Fn28 (l9.getD i 0) (nI d0)) (fun j => ¬ Fn28 53 (400 * j + d0) = 0) (Fn28 47) (RND (fun a => Fn28 3 (l9.getD a 0) + Fn28 4 (l9.getD a 0)) (cn28 44) (Fn28 43)) (DG (cn28 46) (cn28 44) t) z) i83 r_38 := VSH.cg (fun i hi => by show lkM F102 (l9.getD i 0) (nI d0) = lkM Fn28 (l9.getD i 0) (nI d0); unfold lkM; rw [x5, x6, x7]) (fun j _ => by rw [x53]) (fun j _ => by rw [x47]) (fun S x hS hx => by rw [x3, x4, hx102_3.2.1] at hx; exact hx) h_39
                              refine lv_istore (lv' := [(8, .int r_38), (7, .int (nI q102)), (6, .int (nI i83)), (5, .int x83_5), (4, .int (nI w53)), (0, .ref (g 100)), (1, .int (nI d0)), (2, .int v1), (3, .int v2)]) hx hb dX12_shared_141 hl (ltb rfl) rfl (fun ls hl => ?_)
                              refine lv_iload hx hb dX12_shared_143 (lvA0 hl) ?_
                              refine lv_iconst (v := (-1)) hx hb dX12_shared_145 kic_m1 ?_
                              refine lv_icmp_eq (tgt := 201) hx hb dX12_shared_146 rfl (fun c_40 => ?_) (fun c_40 => ?_)
                              ·
                                have tc_40 : (r_38.toInt : Int) = (-1) := congrArg Int32.toInt c_40
                                refine lv_iinc (v := (nI (i83 + 1))) (lv' := [(6, .int (nI (i83 + 1))), (8, .int r_38), (7, .int (nI q102)), (5, .int x83_5), (4, .int (nI w53)), (0, .ref (g 100)), (1, .int (nI d0)), (2, .int v1), (3, .int v2)]) hx hb dX12_shared_201 hl (k := 2) rfl (nI_1 _) (ltb rfl) rfl (fun ls hl => ?_)
                                refine lv_goto (tgt := 83) hx hb dX12_shared_204 rfl ?_
                                exact ih83 (i83 + 1) x83_5 Fn39 _ _ (by (first | omega | (have zz0 := Hid.u hi_cn; have zz1 := Hid.u hi_cn28; have zz2 := Hid.u hq_cn28; omega))) ⟨(by (first | omega | (have zz0 := Hid.u hi_cn; have zz1 := Hid.u hi_cn28; have zz2 := Hid.u hq_cn28; omega))), (Fr.mo hf39 (sbl rfl) (sbl rfl) (sbl rfl)), hIn39, hAK39, ⟨(hfc39.2.2 42 (nml rfl)).trans hx102_3.1, (hfc39.2.2 43 (nml rfl)).trans hx102_3.2.1⟩, ⟨b8, BSP.ke hb8 hv9 (Or.inl (by first | assumption | exact Int32.toInt_inj.mp (by assumption))), hr8.imp id (fun q9 => by obtain ⟨s9, es9, hs9, hw9⟩ := q9; exact ⟨s9, es9, by (first | omega | (have zz0 := Hid.u hi_cn; have zz1 := Hid.u hi_cn28; have zz2 := Hid.u hq_cn28; omega)), fun a ha => (congrFun ((hfc39.2.2 51 (nml rfl)).trans hx102_3.2.2) a).trans (hw9 a ha)⟩)⟩⟩ hP hD hS ls (lv_sub hl [0, 3, 4, 5, 6, 7, 8] rfl)
                              ·
                                have tc_40 : (r_38.toInt : Int) ≠ (-1) := fun q => c_40 (Int32.toInt_inj.mp q)
                                refine lv_iload hx hb dX12_shared_149 (lvA3 hl) ?_
                                refine lv_iconst (v := (-1)) hx hb dX12_shared_151 kic_m1 ?_
                                refine lv_icmp_eq (tgt := 165) hx hb dX12_shared_152 rfl (fun c_41 => ?_) (fun c_41 => ?_)
                                ·
                                  have tc_41 : (x83_5.toInt : Int) = (-1) := congrArg Int32.toInt c_41
                                  refine lv_iload hx hb dX12_shared_165 (lvA0 hl) ?_
                                  refine lv_istore (lv' := [(5, .int r_38), (8, .int r_38), (7, .int (nI q102)), (6, .int (nI i83)), (4, .int (nI w53)), (0, .ref (g 100)), (1, .int (nI d0)), (2, .int v1), (3, .int v2)]) hx hb dX12_shared_167 hl (ltb rfl) rfl (fun ls hl => ?_)
                                  refine lv_iconst (v := 0) hx hb dX12_shared_169 kic_0 ?_
                                  refine lv_istore (lv' := [(9, .int 0), (5, .int r_38), (8, .int r_38), (7, .int (nI q102)), (6, .int (nI i83)), (4, .int (nI w53)), (0, .ref (g 100)), (1, .int (nI d0)), (2, .int v1), (3, .int v2)]) hx hb dX12_shared_170 hl (ltb rfl) rfl (fun ls hl => ?_)
                                  have lp_172 : ∀ (n : Nat) (i172 : Nat) (F172 : Nat → Nat → Int32) (H : Heap) (locs : List Loc) , (cn28 44) - i172 < n → (i172 ≤ (cn28 44) ∧ Fr [44] [] [42, 43, 48, 49, 50, 51] cn In Fn cn28 In F172 ∧ IM cn28 F172 ∧ (AK cn28 F172) ∧ (F172 42 = Fn28 42 ∧ F172 43 = Fn28 43 ∧ F172 50 = Fn39 50) ∧ (∀ a : Nat, a < i172 → F172 51 a = Fn39 50 a)) → va_P D vwCl (wM cI cB cZ g cn28 In F172) H → va_D A (wM cI cB cZ g cn28 In F172) → va_S A s.heap H locs → ∀ ls : Array Slot, lv_has ls 10 [(9, .int (nI i172)), (5, .int r_38), (8, .int r_38), (7, .int (nI q102)), (6, .int (nI i83)), (4, .int (nI w53)), (0, .ref (g 100)), (1, .int (nI d0)), (2, .int v1), (3, .int v2)] → W p l e (RM 4 0 0) s m ([.ref (g 100), .int (nI d0), .int v1, .int v2]).toArray below meth c H locs 0 0 (MQ below (va_Qi (fun (r : Int32) (u : (Nat → Nat) × (Nat → Int32) × (Nat → Nat → Int32)) => (fun r c2 I2 F2 => Fr [44] [] [42, 43, 48, 49, 50, 51] cn In Fn c2 I2 F2 ∧ IM c2 F2 ∧ ((¬ ((0 ≤ (nI d0).toInt ∧ (nI d0).toInt ≤ 399) ∧ (1 ≤ v1.toInt ∧ v1.toInt ≤ 400) ∧ (v2.toInt = -1 ∨ (0 ≤ v2.toInt ∧ v2.toInt < (cn 1 : Int)))) ∧ r = -1) ∨ (((0 ≤ (nI d0).toInt ∧ (nI d0).toInt ≤ 399) ∧ (1 ≤ v1.toInt ∧ v1.toInt ≤ 400) ∧ (v2.toInt = -1 ∨ (0 ≤ v2.toInt ∧ v2.toInt < (cn 1 : Int)))) ∧ (∃ k : Nat, k < cn 1 ∧ (nI d0).toInt < (Fn 7 k).toInt) ∧ r = -2) ∨ (((0 ≤ (nI d0).toInt ∧ (nI d0).toInt ≤ 399) ∧ (1 ≤ v1.toInt ∧ v1.toInt ≤ 400) ∧ (v2.toInt = -1 ∨ (0 ≤ v2.toInt ∧ v2.toInt < (cn 1 : Int)))) ∧ ((∃ l : List Nat, AL (fun k9 => v1.toInt ≤ (lkM Fn k9 (nI d0)).toInt) (cn 1) l ∧ 6 < l.length ∧ r = -2) ∨ ((∀ k : Nat, k < cn 1 → (Fn 7 k).toInt ≤ (nI d0).toInt) ∧ ∃ (l : List Nat) (T : Nat → Int32) (b y : Int32), AL (fun k9 => v1.toInt ≤ (lkM Fn k9 (nI d0)).toInt) (cn 1) l ∧ l.length ≤ 6 ∧ TBL (fun a b => apM (Fn 3 (l.getD a 0)) (Fn 4 (l.getD a 0)) (Fn 3 (l.getD b 0)) (Fn 4 (l.getD b 0))) (fun a => Fn 3 (l.getD a 0) + Fn 4 (l.getD a 0)) l.length T (2 ^ l.length) ∧ BSP (fun (t : Nat) (z : Int32) => VSH (cn 46) l.length (fun i => lkM Fn (l.getD i 0) (nI d0)) (fun j => ¬ Fn 53 (400 * j + (nI d0).toInt.toNat) = 0) (Fn 47) (RND (fun a => Fn 3 (l.getD a 0) + Fn 4 (l.getD a 0)) l.length T) (DG (cn 46) l.length t) z) (cn 46 ^ l.length) b y ∧ SHG (cn 46) (DG (cn 46) l.length) l v2 r b y))))) r u.1 u.2.1 u.2.2) (fun (u : (Nat → Nat) × (Nat → Int32) × (Nat → Nat → Int32)) (t : State) => va_P D vwCl (wM cI cB cZ g u.1 u.2.1 u.2.2) t.heap ∧ va_D A (wM cI cB cZ g u.1 u.2.1 u.2.2)) A) ([.ref (g 100), .int (nI d0), .int v1, .int v2]).toArray s 0 0 A) (F0 m 172 ls []) := by
                                    intro n172
                                    induction n172 with
                                    | zero => intros; (first | omega | (have zz0 := Hid.u hi_cn; have zz1 := Hid.u hi_cn28; have zz2 := Hid.u hq_cn28; omega))
                                    | succ n172 ih172 =>
                                      intro i172 F172 H locs hmu172 hinv172 hP hD hS ls hl
                                      obtain ⟨hr172, hfr172, hI172, hx172_0, hx172_1, hx172_2⟩ := hinv172
                                      have ti172 : (nI i172).toInt = (i172 : Int) := nI_toInt (by (first | omega | (have zz0 := Hid.u hi_cn; have zz1 := Hid.u hi_cn28; have zz2 := Hid.u hq_cn28; omega)))
                                      have hi_cn28 : Hid (CB cn28) := hI172.b
                                      have hq_cn28 := Hid.i (frq_44_0_1_2_46_57_58_62_63_75_83 hfr172)
                                      refine lv_iload hx hb dX12_shared_172 (lvA0 hl) ?_
                                      refine lv_aload_n hx hb dX12_shared_174 rfl (lvA6 hl) ?_
                                      refine gM_364 S hK hP (v := .int (nI (cn28 44))) rfl dX12_shared_175 ?_
                                      refine lv_icmp_ge (tgt := 201) hx hb dX12_shared_178 rfl (fun c_42 => ?_) (fun c_42 => ?_)
                                      ·
                                        have tc_42 : ((nI (cn28 44)).toInt : Int) ≤ (nI i172).toInt := Int32.le_iff_toInt_le.mp c_42
                                        refine lv_iinc (v := (nI (i83 + 1))) (lv' := [(6, .int (nI (i83 + 1))), (9, .int (nI i172)), (5, .int r_38), (8, .int r_38), (7, .int (nI q102)), (4, .int (nI w53)), (0, .ref (g 100)), (1, .int (nI d0)), (2, .int v1), (3, .int v2)]) hx hb dX12_shared_201 hl (k := 4) rfl (nI_1 _) (ltb rfl) rfl (fun ls hl => ?_)
                                        refine lv_goto (tgt := 83) hx hb dX12_shared_204 rfl ?_
                                        exact ih83 (i83 + 1) r_38 F172 _ _ (by (first | omega | (have zz0 := Hid.u hi_cn; have zz1 := Hid.u hi_cn28; have zz2 := Hid.u hq_cn28; omega))) ⟨(by (first | omega | (have zz0 := Hid.u hi_cn; have zz1 := Hid.u hi_cn28; have zz2 := Hid.u hq_cn28; omega))), (Fr.mo hfr172 (sbl rfl) (sbl rfl) (sbl rfl)), hI172, hx172_0, ⟨hx172_1.1, hx172_1.2.1⟩, ⟨nI i83, BSP.nw hb8 (by (first | omega | (have zz0 := Hid.u hi_cn; have zz1 := Hid.u hi_cn28; have zz2 := Hid.u hq_cn28; omega))) hv9 (by first | assumption | exact fun q => absurd (congrArg Int32.toInt q) (by assumption)) (hb8.or.elim Or.inl (fun q9 => absurd (by first | assumption | exact Int32.toInt_inj.mp (by assumption)) q9)), Or.inr ⟨i83, rfl, by (first | omega | (have zz0 := Hid.u hi_cn; have zz1 := Hid.u hi_cn28; have zz2 := Hid.u hq_cn28; omega)), (fun a ha => (hx172_2 a (by (first | omega | (have zz0 := Hid.u hi_cn; have zz1 := Hid.u hi_cn28; have zz2 := Hid.u hq_cn28; omega)))).trans ((congrFun (hfc39.2.2 50 (nml rfl)) a).trans (hx102_1 a (Nat.zero_le a) ha)))⟩⟩⟩ hP hD hS ls (lv_sub hl [0, 2, 5, 6, 7, 8, 9] rfl)
                                      ·
                                        have tc_42 : ((nI i172).toInt : Int) < (nI (cn28 44)).toInt := Int32.lt_iff_toInt_lt.mp (Int32.not_le.mp c_42)
                                        refine lv_aload_n hx hb dX12_shared_181 rfl (lvA6 hl) ?_
                                        refine gM_119 S hK hP (v := .ref (g 51)) rfl dX12_shared_182 ?_
                                        refine lv_iload hx hb dX12_shared_185 (lvA0 hl) ?_
                                        refine lv_aload_n hx hb dX12_shared_187 rfl (lvA6 hl) ?_
                                        refine gM_116 S hK hP (v := .ref (g 50)) rfl dX12_shared_188 ?_
                                        refine lv_iload hx hb dX12_shared_191 (lvA0 hl) ?_
                                        have kb_6 : i172 < 6 := by (first | omega | (have zz0 := Hid.u hi_cn; have zz1 := Hid.u hi_cn28; have zz2 := Hid.u hq_cn28; omega))
                                        refine ldM_50 hx hb hK hP (x := ((F172 50) i172)) (vp_in_nI kb_6 (ltb rfl)) (nI_clamp (Nat.lt_trans kb_6 (ltb rfl))) rfl dX12_shared_193 ?_
                                        refine stM_51 hx hb hK hP hD hS (Fn2 := (va_up F172 51 (upd (F172 51) i172 ((F172 50) i172)))) (vp_in_nI kb_6 (ltb rfl)) (nI_clamp (Nat.lt_trans kb_6 (ltb rfl))) rfl dX12_shared_194 (fun H locs hP hD hS => ?_)
                                        refine lv_iinc (v := (nI (i172 + 1))) (lv' := [(9, .int (nI (i172 + 1))), (5, .int r_38), (8, .int r_38), (7, .int (nI q102)), (6, .int (nI i83)), (4, .int (nI w53)), (0, .ref (g 100)), (1, .int (nI d0)), (2, .int v1), (3, .int v2)]) hx hb dX12_shared_195 hl (k := 0) rfl (nI_1 _) (ltb rfl) rfl (fun ls hl => ?_)
                                        refine lv_goto (tgt := 172) hx hb dX12_shared_198 rfl ?_
                                        exact ih172 (i172 + 1) (va_up F172 51 (upd (F172 51) i172 ((F172 50) i172))) _ _ (by (first | omega | (have zz0 := Hid.u hi_cn; have zz1 := Hid.u hi_cn28; have zz2 := Hid.u hq_cn28; omega))) ⟨(by (first | omega | (have zz0 := Hid.u hi_cn; have zz1 := Hid.u hi_cn28; have zz2 := Hid.u hq_cn28; omega))), (Fr.mo (Fr.f 51 hfr172) (sbl rfl) (sbl rfl) (sbl rfl)), (IM.fr (In := In) hI172 (Fr.f 51 Fr.rf) (by decide) (by decide)), (AK.fr (In := In) hx172_0 (Fr.f 51 Fr.rf) (by decide) (by decide)), hx172_1, (fun a ha => by show upd (F172 51) i172 ((F172 50) i172) a = _; exact (if q9 : a = i172 then (by rw [q9, upd_self, hx172_1.2.2]) else (by rw [upd_n q9]; exact hx172_2 a (by (first | omega | (have zz0 := Hid.u hi_cn; have zz1 := Hid.u hi_cn28; have zz2 := Hid.u hq_cn28; omega))))))⟩ hP hD hS ls (lv_sub hl [0, 1, 2, 3, 4, 5, 6, 7, 8, 9] rfl)
                                  exact lp_172 _ 0 Fn39 _ _ (Nat.lt_succ_self _) ⟨(by (first | omega | (have zz0 := Hid.u hi_cn; have zz1 := Hid.u hi_cn28; have zz2 := Hid.u hq_cn28; omega))), (Fr.mo hf39 (sbl rfl) (sbl rfl) (sbl rfl)), hIn39, hAK39, ⟨(hfc39.2.2 42 (nml rfl)).trans hx102_3.1, (hfc39.2.2 43 (nml rfl)).trans hx102_3.2.1, rfl⟩, (fun a ha => absurd ha (Nat.not_lt_zero a))⟩ hP hD hS ls (lv_sub hl [0, 1, 2, 3, 4, 5, 6, 7, 8, 9] rfl)
                                ·
                                  have tc_41 : (x83_5.toInt : Int) ≠ (-1) := fun q => c_41 (Int32.toInt_inj.mp q)
                                  refine lv_iload hx hb dX12_shared_155 (lvA0 hl) ?_
                                  refine lv_iload hx hb dX12_shared_157 (lvA3 hl) ?_
                                  refine lv_icmp_lt (tgt := 165) hx hb dX12_shared_159 rfl (fun c_43 => ?_) (fun c_43 => ?_)
                                  ·
                                    have tc_43 : (r_38.toInt : Int) < x83_5.toInt := Int32.lt_iff_toInt_lt.mp c_43
                                    refine lv_iload hx hb dX12_shared_165 (lvA0 hl) ?_
                                    refine lv_istore (lv' := [(5, .int r_38), (8, .int r_38), (7, .int (nI q102)), (6, .int (nI i83)), (4, .int (nI w53)), (0, .ref (g 100)), (1, .int (nI d0)), (2, .int v1), (3, .int v2)]) hx hb dX12_shared_167 hl (ltb rfl) rfl (fun ls hl => ?_)
                                    refine lv_iconst (v := 0) hx hb dX12_shared_169 kic_0 ?_
                                    refine lv_istore (lv' := [(9, .int 0), (5, .int r_38), (8, .int r_38), (7, .int (nI q102)), (6, .int (nI i83)), (4, .int (nI w53)), (0, .ref (g 100)), (1, .int (nI d0)), (2, .int v1), (3, .int v2)]) hx hb dX12_shared_170 hl (ltb rfl) rfl (fun ls hl => ?_)
                                    have lp_172 : ∀ (n : Nat) (i172 : Nat) (F172 : Nat → Nat → Int32) (H : Heap) (locs : List Loc) , (cn28 44) - i172 < n → (i172 ≤ (cn28 44) ∧ Fr [44] [] [42, 43, 48, 49, 50, 51] cn In Fn cn28 In F172 ∧ IM cn28 F172 ∧ (AK cn28 F172) ∧ (F172 42 = Fn28 42 ∧ F172 43 = Fn28 43 ∧ F172 50 = Fn39 50) ∧ (∀ a : Nat, a < i172 → F172 51 a = Fn39 50 a)) → va_P D vwCl (wM cI cB cZ g cn28 In F172) H → va_D A (wM cI cB cZ g cn28 In F172) → va_S A s.heap H locs → ∀ ls : Array Slot, lv_has ls 10 [(9, .int (nI i172)), (5, .int r_38), (8, .int r_38), (7, .int (nI q102)), (6, .int (nI i83)), (4, .int (nI w53)), (0, .ref (g 100)), (1, .int (nI d0)), (2, .int v1), (3, .int v2)] → W p l e (RM 4 0 0) s m ([.ref (g 100), .int (nI d0), .int v1, .int v2]).toArray below meth c H locs 0 0 (MQ below (va_Qi (fun (r : Int32) (u : (Nat → Nat) × (Nat → Int32) × (Nat → Nat → Int32)) => (fun r c2 I2 F2 => Fr [44] [] [42, 43, 48, 49, 50, 51] cn In Fn c2 I2 F2 ∧ IM c2 F2 ∧ ((¬ ((0 ≤ (nI d0).toInt ∧ (nI d0).toInt ≤ 399) ∧ (1 ≤ v1.toInt ∧ v1.toInt ≤ 400) ∧ (v2.toInt = -1 ∨ (0 ≤ v2.toInt ∧ v2.toInt < (cn 1 : Int)))) ∧ r = -1) ∨ (((0 ≤ (nI d0).toInt ∧ (nI d0).toInt ≤ 399) ∧ (1 ≤ v1.toInt ∧ v1.toInt ≤ 400) ∧ (v2.toInt = -1 ∨ (0 ≤ v2.toInt ∧ v2.toInt < (cn 1 : Int)))) ∧ (∃ k : Nat, k < cn 1 ∧ (nI d0).toInt < (Fn 7 k).toInt) ∧ r = -2) ∨ (((0 ≤ (nI d0).toInt ∧ (nI d0).toInt ≤ 399) ∧ (1 ≤ v1.toInt ∧ v1.toInt ≤ 400) ∧ (v2.toInt = -1 ∨ (0 ≤ v2.toInt ∧ v2.toInt < (cn 1 : Int)))) ∧ ((∃ l : List Nat, AL (fun k9 => v1.toInt ≤ (lkM Fn k9 (nI d0)).toInt) (cn 1) l ∧ 6 < l.length ∧ r = -2) ∨ ((∀ k : Nat, k < cn 1 → (Fn 7 k).toInt ≤ (nI d0).toInt) ∧ ∃ (l : List Nat) (T : Nat → Int32) (b y : Int32), AL (fun k9 => v1.toInt ≤ (lkM Fn k9 (nI d0)).toInt) (cn 1) l ∧ l.length ≤ 6 ∧ TBL (fun a b => apM (Fn 3 (l.getD a 0)) (Fn 4 (l.getD a 0)) (Fn 3 (l.getD b 0)) (Fn 4 (l.getD b 0))) (fun a => Fn 3 (l.getD a 0) + Fn 4 (l.getD a 0)) l.length T (2 ^ l.length) ∧ BSP (fun (t : Nat) (z : Int32) => VSH (cn 46) l.length (fun i => lkM Fn (l.getD i 0) (nI d0)) (fun j => ¬ Fn 53 (400 * j + (nI d0).toInt.toNat) = 0) (Fn 47) (RND (fun a => Fn 3 (l.getD a 0) + Fn 4 (l.getD a 0)) l.length T) (DG (cn 46) l.length t) z) (cn 46 ^ l.length) b y ∧ SHG (cn 46) (DG (cn 46) l.length) l v2 r b y))))) r u.1 u.2.1 u.2.2) (fun (u : (Nat → Nat) × (Nat → Int32) × (Nat → Nat → Int32)) (t : State) => va_P D vwCl (wM cI cB cZ g u.1 u.2.1 u.2.2) t.heap ∧ va_D A (wM cI cB cZ g u.1 u.2.1 u.2.2)) A) ([.ref (g 100), .int (nI d0), .int v1, .int v2]).toArray s 0 0 A) (F0 m 172 ls []) := by
                                      intro n172
                                      induction n172 with
                                      | zero => intros; (first | omega | (have zz0 := Hid.u hi_cn; have zz1 := Hid.u hi_cn28; have zz2 := Hid.u hq_cn28; omega))
                                      | succ n172 ih172 =>
                                        intro i172 F172 H locs hmu172 hinv172 hP hD hS ls hl
                                        obtain ⟨hr172, hfr172, hI172, hx172_0, hx172_1, hx172_2⟩ := hinv172
                                        have ti172 : (nI i172).toInt = (i172 : Int) := nI_toInt (by (first | omega | (have zz0 := Hid.u hi_cn; have zz1 := Hid.u hi_cn28; have zz2 := Hid.u hq_cn28; omega)))
                                        have hi_cn28 : Hid (CB cn28) := hI172.b
                                        have hq_cn28 := Hid.i (frq_44_0_1_2_46_57_58_62_63_75_83 hfr172)
                                        refine lv_iload hx hb dX12_shared_172 (lvA0 hl) ?_
                                        refine lv_aload_n hx hb dX12_shared_174 rfl (lvA6 hl) ?_
                                        refine gM_364 S hK hP (v := .int (nI (cn28 44))) rfl dX12_shared_175 ?_
                                        refine lv_icmp_ge (tgt := 201) hx hb dX12_shared_178 rfl (fun c_44 => ?_) (fun c_44 => ?_)
                                        ·
                                          have tc_44 : ((nI (cn28 44)).toInt : Int) ≤ (nI i172).toInt := Int32.le_iff_toInt_le.mp c_44
                                          refine lv_iinc (v := (nI (i83 + 1))) (lv' := [(6, .int (nI (i83 + 1))), (9, .int (nI i172)), (5, .int r_38), (8, .int r_38), (7, .int (nI q102)), (4, .int (nI w53)), (0, .ref (g 100)), (1, .int (nI d0)), (2, .int v1), (3, .int v2)]) hx hb dX12_shared_201 hl (k := 4) rfl (nI_1 _) (ltb rfl) rfl (fun ls hl => ?_)
                                          refine lv_goto (tgt := 83) hx hb dX12_shared_204 rfl ?_
                                          exact ih83 (i83 + 1) r_38 F172 _ _ (by (first | omega | (have zz0 := Hid.u hi_cn; have zz1 := Hid.u hi_cn28; have zz2 := Hid.u hq_cn28; omega))) ⟨(by (first | omega | (have zz0 := Hid.u hi_cn; have zz1 := Hid.u hi_cn28; have zz2 := Hid.u hq_cn28; omega))), (Fr.mo hfr172 (sbl rfl) (sbl rfl) (sbl rfl)), hI172, hx172_0, ⟨hx172_1.1, hx172_1.2.1⟩, ⟨nI i83, BSP.nw hb8 (by (first | omega | (have zz0 := Hid.u hi_cn; have zz1 := Hid.u hi_cn28; have zz2 := Hid.u hq_cn28; omega))) hv9 (by first | assumption | exact fun q => absurd (congrArg Int32.toInt q) (by assumption)) (Or.inr (by (first | omega | (have zz0 := Hid.u hi_cn; have zz1 := Hid.u hi_cn28; have zz2 := Hid.u hq_cn28; omega)))), Or.inr ⟨i83, rfl, by (first | omega | (have zz0 := Hid.u hi_cn; have zz1 := Hid.u hi_cn28; have zz2 := Hid.u hq_cn28; omega)), (fun a ha => (hx172_2 a (by (first | omega | (have zz0 := Hid.u hi_cn; have zz1 := Hid.u hi_cn28; have zz2 := Hid.u hq_cn28; omega)))).trans ((congrFun (hfc39.2.2 50 (nml rfl)) a).trans (hx102_1 a (Nat.zero_le a) ha)))⟩⟩⟩ hP hD hS ls (lv_sub hl [0, 2, 5, 6, 7, 8, 9] rfl)
                                        ·
                                          have tc_44 : ((nI i172).toInt : Int) < (nI (cn28 44)).toInt := Int32.lt_iff_toInt_lt.mp (Int32.not_le.mp c_44)
                                          refine lv_aload_n hx hb dX12_shared_181 rfl (lvA6 hl) ?_
                                          refine gM_119 S hK hP (v := .ref (g 51)) rfl dX12_shared_182 ?_
                                          refine lv_iload hx hb dX12_shared_185 (lvA0 hl) ?_
                                          refine lv_aload_n hx hb dX12_shared_187 rfl (lvA6 hl) ?_
                                          refine gM_116 S hK hP (v := .ref (g 50)) rfl dX12_shared_188 ?_
                                          refine lv_iload hx hb dX12_shared_191 (lvA0 hl) ?_
                                          have kb_7 : i172 < 6 := by (first | omega | (have zz0 := Hid.u hi_cn; have zz1 := Hid.u hi_cn28; have zz2 := Hid.u hq_cn28; omega))
                                          refine ldM_50 hx hb hK hP (x := ((F172 50) i172)) (vp_in_nI kb_7 (ltb rfl)) (nI_clamp (Nat.lt_trans kb_7 (ltb rfl))) rfl dX12_shared_193 ?_
                                          refine stM_51 hx hb hK hP hD hS (Fn2 := (va_up F172 51 (upd (F172 51) i172 ((F172 50) i172)))) (vp_in_nI kb_7 (ltb rfl)) (nI_clamp (Nat.lt_trans kb_7 (ltb rfl))) rfl dX12_shared_194 (fun H locs hP hD hS => ?_)
                                          refine lv_iinc (v := (nI (i172 + 1))) (lv' := [(9, .int (nI (i172 + 1))), (5, .int r_38), (8, .int r_38), (7, .int (nI q102)), (6, .int (nI i83)), (4, .int (nI w53)), (0, .ref (g 100)), (1, .int (nI d0)), (2, .int v1), (3, .int v2)]) hx hb dX12_shared_195 hl (k := 0) rfl (nI_1 _) (ltb rfl) rfl (fun ls hl => ?_)
                                          refine lv_goto (tgt := 172) hx hb dX12_shared_198 rfl ?_
                                          exact ih172 (i172 + 1) (va_up F172 51 (upd (F172 51) i172 ((F172 50) i172))) _ _ (by (first | omega | (have zz0 := Hid.u hi_cn; have zz1 := Hid.u hi_cn28; have zz2 := Hid.u hq_cn28; omega))) ⟨(by (first | omega | (have zz0 := Hid.u hi_cn; have zz1 := Hid.u hi_cn28; have zz2 := Hid.u hq_cn28; omega))), (Fr.mo (Fr.f 51 hfr172) (sbl rfl) (sbl rfl) (sbl rfl)), (IM.fr (In := In) hI172 (Fr.f 51 Fr.rf) (by decide) (by decide)), (AK.fr (In := In) hx172_0 (Fr.f 51 Fr.rf) (by decide) (by decide)), hx172_1, (fun a ha => by show upd (F172 51) i172 ((F172 50) i172) a = _; exact (if q9 : a = i172 then (by rw [q9, upd_self, hx172_1.2.2]) else (by rw [upd_n q9]; exact hx172_2 a (by (first | omega | (have zz0 := Hid.u hi_cn; have zz1 := Hid.u hi_cn28; have zz2 := Hid.u hq_cn28; omega))))))⟩ hP hD hS ls (lv_sub hl [0, 1, 2, 3, 4, 5, 6, 7, 8, 9] rfl)
                                    exact lp_172 _ 0 Fn39 _ _ (Nat.lt_succ_self _) ⟨(by (first | omega | (have zz0 := Hid.u hi_cn; have zz1 := Hid.u hi_cn28; have zz2 := Hid.u hq_cn28; omega))), (Fr.mo hf39 (sbl rfl) (sbl rfl) (sbl rfl)), hIn39, hAK39, ⟨(hfc39.2.2 42 (nml rfl)).trans hx102_3.1, (hfc39.2.2 43 (nml rfl)).trans hx102_3.2.1, rfl⟩, (fun a ha => absurd ha (Nat.not_lt_zero a))⟩ hP hD hS ls (lv_sub hl [0, 1, 2, 3, 4, 5, 6, 7, 8, 9] rfl)
                                  ·
                                    have tc_43 : (x83_5.toInt : Int) ≤ r_38.toInt := Int32.le_iff_toInt_le.mp (Int32.not_lt.mp c_43)
                                    refine lv_goto (tgt := 201) hx hb dX12_shared_162 rfl ?_
                                    refine lv_iinc (v := (nI (i83 + 1))) (lv' := [(6, .int (nI (i83 + 1))), (8, .int r_38), (7, .int (nI q102)), (5, .int x83_5), (4, .int (nI w53)), (0, .ref (g 100)), (1, .int (nI d0)), (2, .int v1), (3, .int v2)]) hx hb dX12_shared_201 hl (k := 2) rfl (nI_1 _) (ltb rfl) rfl (fun ls hl => ?_)
                                    refine lv_goto (tgt := 83) hx hb dX12_shared_204 rfl ?_
                                    exact ih83 (i83 + 1) x83_5 Fn39 _ _ (by (first | omega | (have zz0 := Hid.u hi_cn; have zz1 := Hid.u hi_cn28; have zz2 := Hid.u hq_cn28; omega))) ⟨(by (first | omega | (have zz0 := Hid.u hi_cn; have zz1 := Hid.u hi_cn28; have zz2 := Hid.u hq_cn28; omega))), (Fr.mo hf39 (sbl rfl) (sbl rfl) (sbl rfl)), hIn39, hAK39, ⟨(hfc39.2.2 42 (nml rfl)).trans hx102_3.1, (hfc39.2.2 43 (nml rfl)).trans hx102_3.2.1⟩, ⟨b8, BSP.ke hb8 hv9 (Or.inr ⟨hr8.elim (fun q9 => absurd q9.2 (by first | assumption | exact fun q => absurd (congrArg Int32.toInt q) (by assumption))) (fun q9 w9 => by obtain ⟨s9, es9, hs9, -⟩ := q9; exact nI_ne1 (by (first | omega | (have zz0 := Hid.u hi_cn; have zz1 := Hid.u hi_cn28; have zz2 := Hid.u hq_cn28; omega))) (es9.symm.trans w9)), by (first | omega | (have zz0 := Hid.u hi_cn; have zz1 := Hid.u hi_cn28; have zz2 := Hid.u hq_cn28; omega))⟩), hr8.imp id (fun q9 => by obtain ⟨s9, es9, hs9, hw9⟩ := q9; exact ⟨s9, es9, by (first | omega | (have zz0 := Hid.u hi_cn; have zz1 := Hid.u hi_cn28; have zz2 := Hid.u hq_cn28; omega)), fun a ha => (congrFun ((hfc39.2.2 51 (nml rfl)).trans hx102_3.2.2) a).trans (hw9 a ha)⟩)⟩⟩ hP hD hS ls (lv_sub hl [0, 3, 4, 5, 6, 7, 8] rfl)
                            ·
                              rw [nI_m1] at hl
                              have hl : lv_has ls 10 [(8, .int (nI j102)), (7, .int (nI q102)), (6, .int (nI i83)), (5, .int x83_5), (4, .int (nI w53)), (0, .ref (g 100)), (1, .int (nI d0)), (2, .int v1), (3, .int v2)] := hl
                              refine lv_iload hx hb dX12_shared_102 (lvA0 hl) ?_
                              have : (nI j102).toInt = ((j102 : Nat) : Int) := nI_toInt (by (first | omega | (have zz0 := Hid.u hi_cn; have zz1 := Hid.u hi_cn28; have zz2 := Hid.u hq_cn28; omega)))
                              refine lv_if_lt (tgt := 136) hx hb dX12_shared_104 rfl (fun c_45 => False.elim (by have tc_45 : ((nI j102).toInt : Int) < 0 := Int32.lt_iff_toInt_lt.mp c_45; (first | omega | (have zz0 := Hid.u hi_cn; have zz1 := Hid.u hi_cn28; have zz2 := Hid.u hq_cn28; omega)))) (fun c_45 => ?_)
                              have tc_45 : (0 : Int) ≤ (nI j102).toInt := Int32.le_iff_toInt_le.mp (Int32.not_lt.mp c_45)
                              refine lv_aload_n hx hb dX12_shared_107 rfl (lvA5 hl) ?_
                              refine gM_116 S hK hP (v := .ref (g 50)) rfl dX12_shared_108 ?_
                              refine lv_iload hx hb dX12_shared_111 (lvA0 hl) ?_
                              refine lv_iload hx hb dX12_shared_113 (lvA1 hl) ?_
                              have h46 : 0 < cn28 46 := (pw0 (L := cn28 46) (m := cn28 44) (s := i83) (by rw [← hw4]; (first | omega | (have zz0 := Hid.u hi_cn; have zz1 := Hid.u hi_cn28; have zz2 := Hid.u hq_cn28; omega)))).resolve_left (by (first | omega | (have zz0 := Hid.u hi_cn; have zz1 := Hid.u hi_cn28; have zz2 := Hid.u hq_cn28; omega)))
                              refine lv_aload_n hx hb dX12_shared_115 rfl (lvA5 hl) ?_
                              refine gM_386 S hK hP (v := .int (nI (cn28 46))) rfl dX12_shared_116 ?_
                              refine lv_irem hx hb dX12_shared_119 (nI_nz (by (first | omega | (have zz0 := Hid.u hi_cn; have zz1 := Hid.u hi_cn28; have zz2 := Hid.u hq_cn28; omega))) (by (first | omega | (have zz0 := Hid.u hi_cn; have zz1 := Hid.u hi_cn28; have zz2 := Hid.u hq_cn28; omega)))) ?_
                              refine lv_topi (fun y_46 ey_46 => ?_)
                              obtain rfl : y_46 = (nI (q102 % (cn28 46))) := ey_46.trans (nI_rem (by (first | omega | (have zz0 := Hid.u hi_cn; have zz1 := Hid.u hi_cn28; have zz2 := Hid.u hq_cn28; omega))) (by (first | omega | (have zz0 := Hid.u hi_cn; have zz1 := Hid.u hi_cn28; have zz2 := Hid.u hq_cn28; omega))))
                              have kb_8 : j102 < 6 := by (first | omega | (have zz0 := Hid.u hi_cn; have zz1 := Hid.u hi_cn28; have zz2 := Hid.u hq_cn28; omega))
                              refine stM_50 hx hb hK hP hD hS (Fn2 := (va_up F102 50 (upd (F102 50) j102 (nI (q102 % (cn28 46)))))) (vp_in_nI kb_8 (ltb rfl)) (nI_clamp (Nat.lt_trans kb_8 (ltb rfl))) rfl dX12_shared_120 (fun H locs hP hD hS => ?_)
                              refine lv_iload hx hb dX12_shared_121 (lvA1 hl) ?_
                              refine lv_aload_n hx hb dX12_shared_123 rfl (lvA5 hl) ?_
                              refine gM_386 S hK hP (v := .int (nI (cn28 46))) rfl dX12_shared_124 ?_
                              refine lv_idiv hx hb dX12_shared_127 (nI_nz (by (first | omega | (have zz0 := Hid.u hi_cn; have zz1 := Hid.u hi_cn28; have zz2 := Hid.u hq_cn28; omega))) (by (first | omega | (have zz0 := Hid.u hi_cn; have zz1 := Hid.u hi_cn28; have zz2 := Hid.u hq_cn28; omega)))) ?_
                              refine lv_topi (fun y_47 ey_47 => ?_)
                              obtain rfl : y_47 = (nI (q102 / (cn28 46))) := ey_47.trans (nI_div (by (first | omega | (have zz0 := Hid.u hi_cn; have zz1 := Hid.u hi_cn28; have zz2 := Hid.u hq_cn28; omega))) (by (first | omega | (have zz0 := Hid.u hi_cn; have zz1 := Hid.u hi_cn28; have zz2 := Hid.u hq_cn28; omega))))
                              refine lv_istore (lv' := [(7, .int (nI (q102 / (cn28 46)))), (8, .int (nI j102)), (6, .int (nI i83)), (5, .int x83_5), (4, .int (nI w53)), (0, .ref (g 100)), (1, .int (nI d0)), (2, .int v1), (3, .int v2)]) hx hb dX12_shared_128 hl (ltb rfl) rfl (fun ls hl => ?_)
                              refine lv_iinc (v := ((nI j102) + (-1))) (lv' := [(8, .int ((nI j102) + (-1))), (7, .int (nI (q102 / (cn28 46)))), (6, .int (nI i83)), (5, .int x83_5), (4, .int (nI w53)), (0, .ref (g 100)), (1, .int (nI d0)), (2, .int v1), (3, .int v2)]) hx hb dX12_shared_130 hl (k := 1) rfl rfl (ltb rfl) rfl (fun ls hl => ?_)
                              refine lv_goto (tgt := 102) hx hb dX12_shared_133 rfl ?_
                              exact ih102 (q102 / (cn28 46)) j102 (va_up F102 50 (upd (F102 50) j102 (nI (q102 % (cn28 46))))) _ _ (by (first | omega | (have zz0 := Hid.u hi_cn; have zz1 := Hid.u hi_cn28; have zz2 := Hid.u hq_cn28; omega))) ⟨(Fr.mo (Fr.f 50 hfr102) (sbl rfl) (sbl rfl) (sbl rfl)), (IM.fr (In := In) hI102 (Fr.f 50 Fr.rf) (by decide) (by decide)), ⟨by (first | omega | (have zz0 := Hid.u hi_cn; have zz1 := Hid.u hi_cn28; have zz2 := Hid.u hq_cn28; omega)), (by have := Nat.div_le_self q102 (cn28 46); (first | omega | (have zz0 := Hid.u hi_cn; have zz1 := Hid.u hi_cn28; have zz2 := Hid.u hq_cn28; omega))), (DGq hx102_0.2.2 (by (first | omega | (have zz0 := Hid.u hi_cn; have zz1 := Hid.u hi_cn28; have zz2 := Hid.u hq_cn28; omega))))⟩, (fun a h1 h2 => by show upd (F102 50) j102 (nI (q102 % (cn28 46))) a = _; exact (if q9 : a = j102 then (by rw [q9, upd_self]; exact congrArg nI (DGd hx102_0.2.2)) else (by rw [upd_n q9]; exact hx102_1 a (by (first | omega | (have zz0 := Hid.u hi_cn; have zz1 := Hid.u hi_cn28; have zz2 := Hid.u hq_cn28; omega))) h2))), (AK.fr (In := In) hx102_2 (Fr.f 50 Fr.rf) (by decide) (by decide)), hx102_3⟩ hP hD hS ls (lv_sub hl [0, 1, 2, 3, 4, 5, 6, 7, 8] rfl)
                        exact lp_102 _ i83 (cn28 44) F83 _ _ (Nat.lt_succ_self _) ⟨(Fr.mo hfr83 (sbl rfl) (sbl rfl) (sbl rfl)), hI83, ⟨by (first | omega | (have zz0 := Hid.u hi_cn; have zz1 := Hid.u hi_cn28; have zz2 := Hid.u hq_cn28; omega)), by (first | omega | (have zz0 := Hid.u hi_cn; have zz1 := Hid.u hi_cn28; have zz2 := Hid.u hq_cn28; omega)), (by rw [Nat.sub_self, Nat.pow_zero, Nat.div_one])⟩, (fun a h1 h2 => by (first | omega | (have zz0 := Hid.u hi_cn; have zz1 := Hid.u hi_cn28; have zz2 := Hid.u hq_cn28; omega))), hx83_0, ⟨hx83_1.1, hx83_1.2, rfl⟩⟩ hP hD hS ls (lv_sub hl [0, 1, 2, 3, 4, 5, 6, 7, 8] rfl)
                  exact lp_83 _ 0 (-1) Fn28 _ _ (Nat.lt_succ_self _) ⟨(by (first | omega | (have zz0 := Hid.u hi_cn; have zz1 := Hid.u hi_cn28; have zz2 := Hid.u hq_cn28; omega))), (Fr.mo hf28 (sbl rfl) (sbl rfl) (sbl rfl)), hIn28, hAK9, ⟨rfl, rfl⟩, ⟨-1, BSP.e0, Or.inl ⟨rfl, rfl⟩⟩⟩ hP hD hS ls (lv_sub hl [0, 1, 2, 3, 4, 5, 6] rfl)
                ·
                  have tc_30 : ((nI i53).toInt : Int) < (nI (cn28 44)).toInt := Int32.lt_iff_toInt_lt.mp (Int32.not_le.mp c_30)
                  refine lv_iload hx hb dX12_shared_62 (lvA1 hl) ?_
                  refine lv_aload_n hx hb dX12_shared_64 rfl (lvA2 hl) ?_
                  refine gM_386 S hK hP (v := .int (nI (cn28 46))) rfl dX12_shared_65 ?_
                  refine lv_imul hx hb dX12_shared_68 ?_
                  refine lv_topi (fun y_48 ey_48 => ?_)
                  obtain rfl : y_48 = (nI (w53 * (cn28 46))) := ey_48.trans (pk_mul w53 (cn28 46))
                  refine lv_istore (lv' := [(4, .int (nI (w53 * (cn28 46)))), (5, .int (nI i53)), (0, .ref (g 100)), (1, .int (nI d0)), (2, .int v1), (3, .int v2)]) hx hb dX12_shared_69 hl (ltb rfl) rfl (fun ls hl => ?_)
                  refine lv_iinc (v := (nI (i53 + 1))) (lv' := [(5, .int (nI (i53 + 1))), (4, .int (nI (w53 * (cn28 46)))), (0, .ref (g 100)), (1, .int (nI d0)), (2, .int v1), (3, .int v2)]) hx hb dX12_shared_71 hl (k := 1) rfl (nI_1 _) (ltb rfl) rfl (fun ls hl => ?_)
                  refine lv_goto (tgt := 53) hx hb dX12_shared_74 rfl ?_
                  exact ih53 (i53 + 1) (w53 * (cn28 46)) (by (first | omega | (have zz0 := Hid.u hi_cn; have zz1 := Hid.u hi_cn28; have zz2 := Hid.u hq_cn28; omega))) ⟨(by (first | omega | (have zz0 := Hid.u hi_cn; have zz1 := Hid.u hi_cn28; have zz2 := Hid.u hq_cn28; omega))), ⟨(by rw [Nat.pow_succ, ← hx53_0.1]), w3m hx53_0.2 (by (first | omega | (have zz0 := Hid.u hi_cn; have zz1 := Hid.u hi_cn28; have zz2 := Hid.u hq_cn28; omega)))⟩⟩ ls (lv_sub hl [0, 1, 2, 3, 4, 5] rfl)
            exact lp_53 _ 0 1 (Nat.lt_succ_self _) ⟨(by (first | omega | (have zz0 := Hid.u hi_cn; have zz1 := Hid.u hi_cn28; have zz2 := Hid.u hq_cn28; omega))), ⟨rfl, Nat.le_refl _⟩⟩ ls (lv_sub hl [0, 1, 2, 3, 4, 5] rfl)
          ·
            have tc_29 : (r_27.toInt : Int) = 0 := congrArg Int32.toInt c_29
            refine lv_bipush (v := (-2)) hx hb dX12_shared_44 kbc_m2 ?_
            exact W.iret (v := (-2)) hx hb hr (fun t ht hW => ⟨⟨(-2), (cn28, In, Fn28), rfl, ⟨(Fr.mo hf28 (sbl rfl) (sbl rfl) (sbl rfl)), hIn28, (by show (¬ ((0 ≤ (nI d0).toInt ∧ (nI d0).toInt ≤ 399) ∧ (1 ≤ v1.toInt ∧ v1.toInt ≤ 400) ∧ (v2.toInt = -1 ∨ (0 ≤ v2.toInt ∧ v2.toInt < (cn 1 : Int)))) ∧ (-2) = -1) ∨ (((0 ≤ (nI d0).toInt ∧ (nI d0).toInt ≤ 399) ∧ (1 ≤ v1.toInt ∧ v1.toInt ≤ 400) ∧ (v2.toInt = -1 ∨ (0 ≤ v2.toInt ∧ v2.toInt < (cn 1 : Int)))) ∧ (∃ k : Nat, k < cn 1 ∧ (nI d0).toInt < (Fn 7 k).toInt) ∧ (-2) = -2) ∨ (((0 ≤ (nI d0).toInt ∧ (nI d0).toInt ≤ 399) ∧ (1 ≤ v1.toInt ∧ v1.toInt ≤ 400) ∧ (v2.toInt = -1 ∨ (0 ≤ v2.toInt ∧ v2.toInt < (cn 1 : Int)))) ∧ ((∃ l : List Nat, AL (fun k9 => v1.toInt ≤ (lkM Fn k9 (nI d0)).toInt) (cn 1) l ∧ 6 < l.length ∧ (-2) = -2) ∨ ((∀ k : Nat, k < cn 1 → (Fn 7 k).toInt ≤ (nI d0).toInt) ∧ ∃ (l : List Nat) (T : Nat → Int32) (b y : Int32), AL (fun k9 => v1.toInt ≤ (lkM Fn k9 (nI d0)).toInt) (cn 1) l ∧ l.length ≤ 6 ∧ TBL (fun a b => apM (Fn 3 (l.getD a 0)) (Fn 4 (l.getD a 0)) (Fn 3 (l.getD b 0)) (Fn 4 (l.getD b 0))) (fun a => Fn 3 (l.getD a 0) + Fn 4 (l.getD a 0)) l.length T (2 ^ l.length) ∧ BSP (fun (t : Nat) (z : Int32) => VSH (cn 46) l.length (fun i => lkM Fn (l.getD i 0) (nI d0)) (fun j => ¬ Fn 53 (400 * j + (nI d0).toInt.toNat) = 0) (Fn 47) (RND (fun a => Fn 3 (l.getD a 0) + Fn 4 (l.getD a 0)) l.length T) (DG (cn 46) l.length t) z) (cn 46 ^ l.length) b y ∧ SHG (cn 46) (DG (cn 46) l.length) l v2 (-2) b y))); rcases h_28.elim (fun w => w.2) (fun w => absurd (show (1 : Int32) = 0 from w.1.symm.trans (by first | assumption | exact Int32.toInt_inj.mp (by assumption))) (by decide)) with hb | ⟨l9, hal, hlw⟩; exact (Or.inr (Or.inl ⟨hC9, hb, rfl⟩)); exact (Or.inr (Or.inr ⟨hC9, Or.inl ⟨l9, hal, hlw, rfl⟩⟩)))⟩, by rw [ht]; exact hP, hD⟩, hS.F ht⟩) hS.2.2 dX12_shared_46
        ·
          have h_26 : ¬ (0 ≤ v2.toInt ∧ v2.toInt < ((cn 1) : Int)) := h_26
          refine lv_if_ne (tgt := 33) hx hb dX12_shared_28 rfl (fun h => absurd h cq_eq_0_0) (fun _ => ?_)
          refine lv_iconst (v := (-1)) hx hb dX12_shared_31 kic_m1 ?_
          exact W.iret (v := (-1)) hx hb hr (fun t ht hW => ⟨⟨(-1), (cn, In, Fn), rfl, ⟨(Fr.mo Fr.rf (sbl rfl) (sbl rfl) (sbl rfl)), hI, (by show (¬ ((0 ≤ v0.toInt ∧ v0.toInt ≤ 399) ∧ (1 ≤ v1.toInt ∧ v1.toInt ≤ 400) ∧ (v2.toInt = -1 ∨ (0 ≤ v2.toInt ∧ v2.toInt < (cn 1 : Int)))) ∧ (-1) = -1) ∨ (((0 ≤ v0.toInt ∧ v0.toInt ≤ 399) ∧ (1 ≤ v1.toInt ∧ v1.toInt ≤ 400) ∧ (v2.toInt = -1 ∨ (0 ≤ v2.toInt ∧ v2.toInt < (cn 1 : Int)))) ∧ (∃ k : Nat, k < cn 1 ∧ v0.toInt < (Fn 7 k).toInt) ∧ (-1) = -2) ∨ (((0 ≤ v0.toInt ∧ v0.toInt ≤ 399) ∧ (1 ≤ v1.toInt ∧ v1.toInt ≤ 400) ∧ (v2.toInt = -1 ∨ (0 ≤ v2.toInt ∧ v2.toInt < (cn 1 : Int)))) ∧ ((∃ l : List Nat, AL (fun k9 => v1.toInt ≤ (lkM Fn k9 v0).toInt) (cn 1) l ∧ 6 < l.length ∧ (-1) = -2) ∨ ((∀ k : Nat, k < cn 1 → (Fn 7 k).toInt ≤ v0.toInt) ∧ ∃ (l : List Nat) (T : Nat → Int32) (b y : Int32), AL (fun k9 => v1.toInt ≤ (lkM Fn k9 v0).toInt) (cn 1) l ∧ l.length ≤ 6 ∧ TBL (fun a b => apM (Fn 3 (l.getD a 0)) (Fn 4 (l.getD a 0)) (Fn 3 (l.getD b 0)) (Fn 4 (l.getD b 0))) (fun a => Fn 3 (l.getD a 0) + Fn 4 (l.getD a 0)) l.length T (2 ^ l.length) ∧ BSP (fun (t : Nat) (z : Int32) => VSH (cn 46) l.length (fun i => lkM Fn (l.getD i 0) v0) (fun j => ¬ Fn 53 (400 * j + v0.toInt.toNat) = 0) (Fn 47) (RND (fun a => Fn 3 (l.getD a 0) + Fn 4 (l.getD a 0)) l.length T) (DG (cn 46) l.length t) z) (cn 46 ^ l.length) b y ∧ SHG (cn 46) (DG (cn 46) l.length) l v2 (-1) b y))); exact (Or.inl ⟨by (first | omega | (have zz0 := Hid.u hi_cn; omega)), rfl⟩))⟩, by rw [ht]; exact hP, hD⟩, hS.F ht⟩) hS.2.2 dX12_shared_32
    ·
      have h_4 : ¬ (1 ≤ v1.toInt ∧ v1.toInt ≤ 400) := h_4
      refine lv_if_eq (tgt := 31) hx hb dX12_shared_15 rfl (fun _ => ?_) (fun h => absurd h cq_eq_0_0)
      refine lv_iconst (v := (-1)) hx hb dX12_shared_31 kic_m1 ?_
      exact W.iret (v := (-1)) hx hb hr (fun t ht hW => ⟨⟨(-1), (cn, In, Fn), rfl, ⟨(Fr.mo Fr.rf (sbl rfl) (sbl rfl) (sbl rfl)), hI, (by show (¬ ((0 ≤ v0.toInt ∧ v0.toInt ≤ 399) ∧ (1 ≤ v1.toInt ∧ v1.toInt ≤ 400) ∧ (v2.toInt = -1 ∨ (0 ≤ v2.toInt ∧ v2.toInt < (cn 1 : Int)))) ∧ (-1) = -1) ∨ (((0 ≤ v0.toInt ∧ v0.toInt ≤ 399) ∧ (1 ≤ v1.toInt ∧ v1.toInt ≤ 400) ∧ (v2.toInt = -1 ∨ (0 ≤ v2.toInt ∧ v2.toInt < (cn 1 : Int)))) ∧ (∃ k : Nat, k < cn 1 ∧ v0.toInt < (Fn 7 k).toInt) ∧ (-1) = -2) ∨ (((0 ≤ v0.toInt ∧ v0.toInt ≤ 399) ∧ (1 ≤ v1.toInt ∧ v1.toInt ≤ 400) ∧ (v2.toInt = -1 ∨ (0 ≤ v2.toInt ∧ v2.toInt < (cn 1 : Int)))) ∧ ((∃ l : List Nat, AL (fun k9 => v1.toInt ≤ (lkM Fn k9 v0).toInt) (cn 1) l ∧ 6 < l.length ∧ (-1) = -2) ∨ ((∀ k : Nat, k < cn 1 → (Fn 7 k).toInt ≤ v0.toInt) ∧ ∃ (l : List Nat) (T : Nat → Int32) (b y : Int32), AL (fun k9 => v1.toInt ≤ (lkM Fn k9 v0).toInt) (cn 1) l ∧ l.length ≤ 6 ∧ TBL (fun a b => apM (Fn 3 (l.getD a 0)) (Fn 4 (l.getD a 0)) (Fn 3 (l.getD b 0)) (Fn 4 (l.getD b 0))) (fun a => Fn 3 (l.getD a 0) + Fn 4 (l.getD a 0)) l.length T (2 ^ l.length) ∧ BSP (fun (t : Nat) (z : Int32) => VSH (cn 46) l.length (fun i => lkM Fn (l.getD i 0) v0) (fun j => ¬ Fn 53 (400 * j + v0.toInt.toNat) = 0) (Fn 47) (RND (fun a => Fn 3 (l.getD a 0) + Fn 4 (l.getD a 0)) l.length T) (DG (cn 46) l.length t) z) (cn 46 ^ l.length) b y ∧ SHG (cn 46) (DG (cn 46) l.length) l v2 (-1) b y))); exact (Or.inl ⟨by (first | omega | (have zz0 := Hid.u hi_cn; omega)), rfl⟩))⟩, by rw [ht]; exact hP, hD⟩, hS.F ht⟩) hS.2.2 dX12_shared_32
  ·
    have h_2 : ¬ (0 ≤ v0.toInt ∧ v0.toInt ≤ 399) := h_2
    refine lv_if_eq (tgt := 31) hx hb dX12_shared_4 rfl (fun _ => ?_) (fun h => absurd h cq_eq_0_0)
    refine lv_iconst (v := (-1)) hx hb dX12_shared_31 kic_m1 ?_
    exact W.iret (v := (-1)) hx hb hr (fun t ht hW => ⟨⟨(-1), (cn, In, Fn), rfl, ⟨(Fr.mo Fr.rf (sbl rfl) (sbl rfl) (sbl rfl)), hI, (by show (¬ ((0 ≤ v0.toInt ∧ v0.toInt ≤ 399) ∧ (1 ≤ v1.toInt ∧ v1.toInt ≤ 400) ∧ (v2.toInt = -1 ∨ (0 ≤ v2.toInt ∧ v2.toInt < (cn 1 : Int)))) ∧ (-1) = -1) ∨ (((0 ≤ v0.toInt ∧ v0.toInt ≤ 399) ∧ (1 ≤ v1.toInt ∧ v1.toInt ≤ 400) ∧ (v2.toInt = -1 ∨ (0 ≤ v2.toInt ∧ v2.toInt < (cn 1 : Int)))) ∧ (∃ k : Nat, k < cn 1 ∧ v0.toInt < (Fn 7 k).toInt) ∧ (-1) = -2) ∨ (((0 ≤ v0.toInt ∧ v0.toInt ≤ 399) ∧ (1 ≤ v1.toInt ∧ v1.toInt ≤ 400) ∧ (v2.toInt = -1 ∨ (0 ≤ v2.toInt ∧ v2.toInt < (cn 1 : Int)))) ∧ ((∃ l : List Nat, AL (fun k9 => v1.toInt ≤ (lkM Fn k9 v0).toInt) (cn 1) l ∧ 6 < l.length ∧ (-1) = -2) ∨ ((∀ k : Nat, k < cn 1 → (Fn 7 k).toInt ≤ v0.toInt) ∧ ∃ (l : List Nat) (T : Nat → Int32) (b y : Int32), AL (fun k9 => v1.toInt ≤ (lkM Fn k9 v0).toInt) (cn 1) l ∧ l.length ≤ 6 ∧ TBL (fun a b => apM (Fn 3 (l.getD a 0)) (Fn 4 (l.getD a 0)) (Fn 3 (l.getD b 0)) (Fn 4 (l.getD b 0))) (fun a => Fn 3 (l.getD a 0) + Fn 4 (l.getD a 0)) l.length T (2 ^ l.length) ∧ BSP (fun (t : Nat) (z : Int32) => VSH (cn 46) l.length (fun i => lkM Fn (l.getD i 0) v0) (fun j => ¬ Fn 53 (400 * j + v0.toInt.toNat) = 0) (Fn 47) (RND (fun a => Fn 3 (l.getD a 0) + Fn 4 (l.getD a 0)) l.length T) (DG (cn 46) l.length t) z) (cn 46 ^ l.length) b y ∧ SHG (cn 46) (DG (cn 46) l.length) l v2 (-1) b y))); exact (Or.inl ⟨by (first | omega | (have zz0 := Hid.u hi_cn; omega)), rfl⟩))⟩, by rw [ht]; exact hP, hD⟩, hS.F ht⟩) hS.2.2 dX12_shared_32
