def clr (l a : Nat) : Nat := if l.testBit a then l - 2 ^ a else l
theorem clrI {l a : Nat} (hl : l ≤ 255) (ha : a ≤ 7) : nI l &&& ((1 <<< (nI a &&& 31)) ^^^ (-1)) = nI (clr l a) := by
  have : ∀ l : Fin 256, ∀ a : Fin 8, nI l.val &&& ((1 <<< (nI a.val &&& 31)) ^^^ (-1)) = nI (clr l.val a.val) := by decide +kernel
  exact this ⟨l, by omega⟩ ⟨a, by omega⟩
theorem clr_le {l a : Nat} : clr l a ≤ l := by
  unfold clr
  split
  · exact Nat.sub_le _ _
  · exact Nat.le_refl _
theorem clr_bit {l a b : Nat} (hl : l ≤ 255) (ha : a ≤ 7) (hb : b ≤ 7) : (clr l a).testBit b = (l.testBit b && !(b == a)) := by
  first
    | (have e9 : clr l a = if l.testBit a then l ^^^ 2 ^ a else l := by
         have this : ∀ l : Fin 256, ∀ a : Fin 8, clr l.val a.val = if l.val.testBit a.val then l.val ^^^ 2 ^ a.val else l.val := by decide +kernel
         exact this ⟨l, by omega⟩ ⟨a, by omega⟩
       rw [e9]
       by_cases h : l.testBit a = true
       · rw [if_pos h, Nat.testBit_xor, Nat.testBit_two_pow]
         by_cases q : a = b
         · subst q
           simp [h]
         · have q2 : ¬ b = a := fun z => q z.symm
           simp [q, q2]
       · rw [if_neg h]
         by_cases q : b = a
         · subst q
           simp at h
           simp [h]
         · simp [q])
    | (have this : ∀ l : Fin 256, ∀ a : Fin 8, ∀ b : Fin 8, (clr l.val a.val).testBit b.val = (l.val.testBit b.val && !(b.val == a.val)) := by decide +kernel
       exact this ⟨l, by omega⟩ ⟨a, by omega⟩ ⟨b, by omega⟩)
theorem bitc {l b : Nat} (hl : l ≤ 255) (hb : b ≤ 7) : (l.testBit b = false ∧ (nI l >>> (nI b &&& 31)) &&& 1 = 0) ∨ (l.testBit b = true ∧ (nI l >>> (nI b &&& 31)) &&& 1 = 1) := by
  have : ∀ l : Fin 256, ∀ b : Fin 8, (l.val.testBit b.val = false ∧ (nI l.val >>> (nI b.val &&& 31)) &&& 1 = 0) ∨ (l.val.testBit b.val = true ∧ (nI l.val >>> (nI b.val &&& 31)) &&& 1 = 1) := by decide +kernel
  exact this ⟨l, by omega⟩ ⟨b, by omega⟩
/-- how many of the first m bits are set -/
def cntB (l : Nat) : Nat → Nat
  | 0 => 0
  | m + 1 => cntB l m + (l.testBit m).toNat
theorem cntB_0 {l m : Nat} (h : ∀ b, b < m → l.testBit b = false) : cntB l m = 0 := by
  induction m with
  | zero => rfl
  | succ m ih => rw [cntB, ih (fun b hb => h b (by omega)), h m (by omega)]; rfl
theorem cntB_clr {l a m : Nat} (hl : l ≤ 255) (ha : a ≤ 7) (hm : m ≤ 8) : cntB l m ≤ cntB (clr l a) m + 1 := by
  first
    | (have h : ∀ m : Nat, m ≤ 8 → cntB l m ≤ cntB (clr l a) m + (if a < m then 1 else 0) := by
         intro m
         induction m with
         | zero => exact fun _ => Nat.zero_le _
         | succ m ih =>
           intro hm
           have q := ih (by omega)
           show cntB l m + (l.testBit m).toNat ≤ cntB (clr l a) m + ((clr l a).testBit m).toNat + (if a < m + 1 then 1 else 0)
           by_cases e : m = a
           · have b1 : (l.testBit m).toNat ≤ 1 := by cases l.testBit m <;> decide
             rw [if_neg (by omega)] at q
             rw [if_pos (by omega)]
             omega
           · have b := clr_bit (b := m) hl ha (by omega)
             rw [beq_eq_false_iff_ne.mpr e, Bool.not_false, Bool.and_true] at b
             rw [b]
             by_cases g : a < m
             · rw [if_pos g] at q
               rw [if_pos (by omega)]
               omega
             · rw [if_neg g] at q
               rw [if_neg (by omega)]
               omega
       have q := h m hm
       by_cases g : a < m
       · rw [if_pos g] at q
         exact q
       · rw [if_neg g] at q
         exact Nat.le_succ_of_le q)
    | (have this : ∀ l : Fin 256, ∀ a : Fin 8, ∀ m : Fin 9, cntB l.val m.val ≤ cntB (clr l.val a.val) m.val + 1 := by decide +kernel
       exact this ⟨l, by omega⟩ ⟨a, by omega⟩ ⟨m, by omega⟩)
theorem full_bit {m b : Nat} (hm : m ≤ 8) (hb : b < m) : (2 ^ m - 1).testBit b = true := by
  have : ∀ m : Fin 9, ∀ b : Fin 8, b.val < m.val → (2 ^ m.val - 1).testBit b.val = true := by decide +kernel
  exact this ⟨m, by omega⟩ ⟨b, by omega⟩ hb
theorem full_cnt {m : Nat} (hm : m ≤ 8) : cntB (2 ^ m - 1) m = m := by
  have : ∀ m : Fin 9, cntB (2 ^ m.val - 1) m.val = m.val := by decide +kernel
  exact this ⟨m, by omega⟩
theorem full_le {m : Nat} (hm : m ≤ 8) : 1 ≤ 2 ^ m ∧ 2 ^ m ≤ 256 := by
  have : ∀ m : Fin 9, 1 ≤ 2 ^ m.val ∧ 2 ^ m.val ≤ 256 := by decide +kernel
  exact this ⟨m, by omega⟩
theorem orI {l a : Nat} (hl : l ≤ 63) (ha : a ≤ 5) : ∃ j : Nat, j ≤ 63 ∧ nI l ||| (1 <<< (nI a &&& 31)) = nI j := by
  have : ∀ l : Fin 64, ∀ a : Fin 6, (l.val ||| 2 ^ a.val) ≤ 63 ∧ nI l.val ||| (1 <<< (nI a.val &&& 31)) = nI (l.val ||| 2 ^ a.val) := by decide +kernel
  exact ⟨_, this ⟨l, by omega⟩ ⟨a, by omega⟩⟩
def NX (l : Nat) (x : Int32) (i : Nat) : Prop := (x = -1 ∧ ∀ b : Nat, b < i → l.testBit b = false) ∨ ∃ b : Nat, b < i ∧ x = nI b ∧ l.testBit b = true
theorem NX.zero {l : Nat} : NX l (-1) 0 := Or.inl ⟨rfl, fun b hb => absurd hb (Nat.not_lt_zero b)⟩
theorem NX.skip {l i : Nat} {x : Int32} (h : NX l x i) (hb : l.testBit i = false) : NX l x (i + 1) := by
  rcases h with ⟨h1, h2⟩ | ⟨b, h1, h2, h3⟩
  · refine Or.inl ⟨h1, fun b q => ?_⟩
    by_cases e : b = i
    · rw [e]; exact hb
    · exact h2 b (by omega)
  · exact Or.inr ⟨b, by omega, h2, h3⟩
theorem NX.keep {l i : Nat} {x : Int32} (h : NX l x i) (hx : ¬ x = -1) : NX l x (i + 1) := by
  rcases h with ⟨h1, h2⟩ | ⟨b, h1, h2, h3⟩
  · exact absurd h1 hx
  · exact Or.inr ⟨b, by omega, h2, h3⟩
theorem NX.set {l i : Nat} (hb : l.testBit i = true) : NX l (nI i) (i + 1) := Or.inr ⟨i, by omega, rfl, hb⟩
/-- who is asked -/
def AK (cn : Nat → Nat) (Fn : Nat → Nat → Int32) : Prop := ∀ a : Nat, a < cn 44 → ∃ n : Nat, n < cn 1 ∧ Fn 42 a = nI n
theorem AK.fr {lc li lf : List Nat} {cn c2 : Nat → Nat} {In I2 : Nat → Int32} {Fn F2 : Nat → Nat → Int32} (h : AK cn Fn) (f : Fr lc li lf cn In Fn c2 I2 F2) (hc : ∀ k ∈ [1, 44], k ∉ lc) (hf : ∀ k ∈ [42], k ∉ lf) : AK c2 F2 := by
  unfold AK
  rw [f.1 44 (hc 44 (by decide)), f.1 1 (hc 1 (by decide)), f.2.2 42 (hf 42 (by decide))]
  exact h
theorem AK.zero {cn : Nat → Nat} {Fn : Nat → Nat → Int32} : AK (va_up cn 44 0) Fn := fun a h => absurd (show a < 0 from h) (Nat.not_lt_zero a)
theorem AK.push {cn : Nat → Nat} {Fn : Nat → Nat → Int32} {k : Nat} (h : AK cn Fn) (hk : k < cn 1) : AK (va_up cn 44 (cn 44 + 1)) (va_up Fn 42 (upd (Fn 42) (cn 44) (nI k))) := fun a ha => by
  have ha : a < cn 44 + 1 := ha
  show ∃ n : Nat, n < cn 1 ∧ upd (Fn 42) (cn 44) (nI k) a = nI n
  by_cases e : a = cn 44
  · subst e; exact ⟨k, hk, by simp [upd]⟩
  · obtain ⟨n, h1, h2⟩ := h a (by omega)
    exact ⟨n, h1, by simp [upd, e, h2]⟩
theorem IM.e7up {cn : Nat → Nat} {Fn : Nat → Nat → Int32} {k : Nat} {x : Int32} (h : IM cn Fn) (h0 : 0 ≤ x.toInt) (h1 : x.toInt ≤ 399) : IM cn (va_up Fn 7 (upd (Fn 7) k x)) := by
  refine ⟨h.1, fun j hj => ?_, h.2.2⟩
  show 0 ≤ (upd (Fn 7) k x j).toInt ∧ (upd (Fn 7) k x j).toInt ≤ 399
  unfold upd
  split
  · exact ⟨h0, h1⟩
  · exact h.e7 j hj

theorem frq_44_0_1_2_46_57_58_62_63_75_83 {li lf : List Nat} {cn c2 : Nat → Nat} {In I2 : Nat → Int32} {Fn F2 : Nat → Nat → Int32} (h : Fr [44] li lf cn In Fn c2 I2 F2) : c2 0 = cn 0 ∧ c2 1 = cn 1 ∧ c2 2 = cn 2 ∧ c2 46 = cn 46 ∧ c2 57 = cn 57 ∧ c2 58 = cn 58 ∧ c2 62 = cn 62 ∧ c2 63 = cn 63 ∧ c2 75 = cn 75 ∧ c2 83 = cn 83 := ⟨h.1 0 (nml rfl), h.1 1 (nml rfl), h.1 2 (nml rfl), h.1 46 (nml rfl), h.1 57 (nml rfl), h.1 58 (nml rfl), h.1 62 (nml rfl), h.1 63 (nml rfl), h.1 75 (nml rfl), h.1 83 (nml rfl)⟩

set_option maxRecDepth 100000 in
set_option maxHeartbeats 4000000 in
theorem q_goes (l : Launch) (D : va_G) (cI cB cZ : ClassId) (g : Nat → Nat) (cn : Nat → Nat) (In : Nat → Int32) (Fn : Nat → Nat → Int32)  (sz : Nat) (hI : IM cn Fn) (h44 : cn 44 ≤ 8) (hAK : AK cn Fn) : Met l yX12_goes (CWS yX12_goes cX12_goes 7 none) (RM 2 0 0) (PBw [.ref (g 100)] D cI cB cZ (wM cI cB cZ g cn In Fn) sz) (va_Qv (fun (u : (Nat → Nat) × (Nat → Int32) × (Nat → Nat → Int32)) => (fun c2 I2 F2 => Fr [] [] [43] cn In Fn c2 I2 F2 ∧ IM c2 F2 ∧ (True)) u.1 u.2.1 u.2.2) (fun (u : (Nat → Nat) × (Nat → Int32) × (Nat → Nat → Int32)) (t : State) => va_P D vwCl (wM cI cB cZ g u.1 u.2.1 u.2.2) t.heap ∧ va_D (va_A (wM cI cB cZ g cn In Fn) sz) (wM cI cB cZ g u.1 u.2.1 u.2.2)) (va_A (wM cI cB cZ g cn In Fn) sz)) 0 0 (va_A (wM cI cB cZ g cn In Fn) sz) := by
  refine en_w (fun A => (va_Qv (fun (u : (Nat → Nat) × (Nat → Int32) × (Nat → Nat → Int32)) => (fun (c2 : Nat → Nat) (I2 : Nat → Int32) (F2 : Nat → Nat → Int32) => Fr [] [] [43] cn In Fn c2 I2 F2 ∧ IM c2 F2 ∧ (True)) u.1 u.2.1 u.2.2) (fun (u : (Nat → Nat) × (Nat → Int32) × (Nat → Nat → Int32)) (t : State) => va_P D vwCl (wM cI cB cZ g u.1 u.2.1 u.2.2) t.heap ∧ va_D A (wM cI cB cZ g u.1 u.2.1 u.2.2)) A)) rfl rfl pn_RX12 (Nat.le_of_ble_eq_true rfl) (fun p e s m below meth c A hx hb hml hown S hr hlocks hnm hA hP hK hD hS ls hl => ?_)
  have hl : lv_has ls 7 [(0, .ref (g 100))] := hl
  have hi_cn : Hid (CB cn) := hI.b
  refine lv_iconst (v := 1) hx hb (oc_4 0 shX12_goes_0) kic_1 ?_
  refine lv_aload_n hx hb (oc_42 1 (aq_1 shX12_goes_0)) rfl (lvA0 hl) ?_
  refine gM_364 S hK hP (v := .int (nI (cn 44))) rfl (oc_180 2 (aq_2 shX12_goes_0) uw_1_108) ?_
  refine lv_ishl hx hb (oc_120 5 (aq_5 shX12_goes_0)) ?_
  refine lv_topi (fun y_1 ey_1 => ?_)
  obtain rfl : y_1 = (nI (2 ^ cn 44)) := ey_1.trans (sh1 (by (first | omega | (have zz0 := Hid.u hi_cn; omega))))
  refine lv_iconst (v := 1) hx hb (oc_4 6 (aq_6 shX12_goes_0)) kic_1 ?_
  refine lv_isub hx hb (oc_100 7 (aq_7 shX12_goes_0)) ?_
  refine lv_topi (fun y_2 ey_2 => ?_)
  obtain rfl : y_2 = (nI (2 ^ cn 44 - 1)) := ey_2.trans (nI_sub (b := 1) (full_le (by (first | omega | (have zz0 := Hid.u hi_cn; omega)))).1)
  refine lv_istore_n (lv' := [(1, .int (nI (2 ^ cn 44 - 1))), (0, .ref (g 100))]) hx hb (oc_60 8 (aq_8 shX12_goes_0)) rfl hl (ltb rfl) rfl (fun ls hl => ?_)
  have h2p := full_le h44
  refine lv_iconst (v := 0) hx hb (oc_3 9 (aq_9 shX12_goes_0)) kic_0 ?_
  refine lv_istore_n (lv' := [(2, .int 0), (1, .int (nI (2 ^ cn 44 - 1))), (0, .ref (g 100))]) hx hb (oc_61 10 (aq_10 shX12_goes_0)) rfl hl (ltb rfl) rfl (fun ls hl => ?_)
  have lp_11 : ∀ (n : Nat) (i11 : Nat) (F11 : Nat → Nat → Int32) (H : Heap) (locs : List Loc) , 2 ^ cn 44 - i11 < n → (i11 ≤ 2 ^ cn 44 ∧ Fr [] [] [43] cn In Fn cn In F11 ∧ IM cn F11 ∧ (AK cn F11)) → va_P D vwCl (wM cI cB cZ g cn In F11) H → va_D A (wM cI cB cZ g cn In F11) → va_S A s.heap H locs → ∀ ls : Array Slot, lv_has ls 7 [(2, .int (nI i11)), (1, .int (nI (2 ^ cn 44 - 1))), (0, .ref (g 100))] → W p l e (RM 2 0 0) s m ([.ref (g 100)]).toArray below meth c H locs 0 0 (MQ below (va_Qv (fun (u : (Nat → Nat) × (Nat → Int32) × (Nat → Nat → Int32)) => (fun c2 I2 F2 => Fr [] [] [43] cn In Fn c2 I2 F2 ∧ IM c2 F2 ∧ (True)) u.1 u.2.1 u.2.2) (fun (u : (Nat → Nat) × (Nat → Int32) × (Nat → Nat → Int32)) (t : State) => va_P D vwCl (wM cI cB cZ g u.1 u.2.1 u.2.2) t.heap ∧ va_D A (wM cI cB cZ g u.1 u.2.1 u.2.2)) A) ([.ref (g 100)]).toArray s 0 0 A) (F0 m 11 ls []) := by
    intro n11
    induction n11 with
    | zero => intros; (first | omega | (have zz0 := Hid.u hi_cn; omega))
    | succ n11 ih11 =>
      intro i11 F11 H locs hmu11 hinv11 hP hD hS ls hl
      obtain ⟨hr11, hfr11, hI11, hx11_0⟩ := hinv11
      have ti11 : (nI i11).toInt = (i11 : Int) := nI_toInt (by (first | omega | (have zz0 := Hid.u hi_cn; omega)))
      have hi_cn : Hid (CB cn) := hI11.b
      refine lv_iload_n hx hb (oc_28 11 (aq_11 shX12_goes_0)) rfl (lvA0 hl) ?_
      refine lv_iload_n hx hb (oc_27 12 (aq_12 shX12_goes_0)) rfl (lvA1 hl) ?_
      have : (nI (2 ^ cn 44 - 1)).toInt = (((2 ^ cn 44 - 1) : Nat) : Int) := nI_toInt (by (first | omega | (have zz0 := Hid.u hi_cn; omega)))
      refine lv_icmp_gt (tgt := 158) hx hb (oc_163 13 (aq_13 shX12_goes_0) sgw_0_145) rfl (fun c_3 => ?_) (fun c_3 => ?_)
      ·
        have tc_3 : ((nI (2 ^ cn 44 - 1)).toInt : Int) < (nI i11).toInt := Int32.lt_iff_toInt_lt.mp c_3
        exact W.vret hx hb hr (fun t ht hW => ⟨⟨(cn, In, F11), rfl, ⟨(Fr.mo hfr11 (sbl rfl) (sbl rfl) (sbl rfl)), hI11, trivial⟩, by rw [ht]; exact hP, hD⟩, hS.F ht⟩) hS.2.2 (oc_177 158 (aq_9 shX12_goes_149))
      ·
        have tc_3 : ((nI i11).toInt : Int) ≤ (nI (2 ^ cn 44 - 1)).toInt := Int32.le_iff_toInt_le.mp (Int32.not_lt.mp c_3)
        refine lv_iconst (v := 0) hx hb (oc_3 16 (aq_16 shX12_goes_0)) kic_0 ?_
        refine lv_istore_n (lv' := [(3, .int 0), (2, .int (nI i11)), (1, .int (nI (2 ^ cn 44 - 1))), (0, .ref (g 100))]) hx hb (oc_62 17 (aq_17 shX12_goes_0)) rfl hl (ltb rfl) rfl (fun ls hl => ?_)
        have lp_18 : ∀ (n : Nat) (i18 : Nat) (F18 : Nat → Nat → Int32) (H : Heap) (locs : List Loc) , cn 44 - i18 < n → (i18 ≤ cn 44 ∧ Fr [] [] [43] cn In Fn cn In F18 ∧ IM cn F18 ∧ (AK cn F18)) → va_P D vwCl (wM cI cB cZ g cn In F18) H → va_D A (wM cI cB cZ g cn In F18) → va_S A s.heap H locs → ∀ ls : Array Slot, lv_has ls 7 [(3, .int (nI i18)), (2, .int (nI i11)), (1, .int (nI (2 ^ cn 44 - 1))), (0, .ref (g 100))] → W p l e (RM 2 0 0) s m ([.ref (g 100)]).toArray below meth c H locs 0 0 (MQ below (va_Qv (fun (u : (Nat → Nat) × (Nat → Int32) × (Nat → Nat → Int32)) => (fun c2 I2 F2 => Fr [] [] [43] cn In Fn c2 I2 F2 ∧ IM c2 F2 ∧ (True)) u.1 u.2.1 u.2.2) (fun (u : (Nat → Nat) × (Nat → Int32) × (Nat → Nat → Int32)) (t : State) => va_P D vwCl (wM cI cB cZ g u.1 u.2.1 u.2.2) t.heap ∧ va_D A (wM cI cB cZ g u.1 u.2.1 u.2.2)) A) ([.ref (g 100)]).toArray s 0 0 A) (F0 m 18 ls []) := by
          intro n18
          induction n18 with
          | zero => intros; (first | omega | (have zz0 := Hid.u hi_cn; omega))
          | succ n18 ih18 =>
            intro i18 F18 H locs hmu18 hinv18 hP hD hS ls hl
            obtain ⟨hr18, hfr18, hI18, hx18_0⟩ := hinv18
            have ti18 : (nI i18).toInt = (i18 : Int) := nI_toInt (by (first | omega | (have zz0 := Hid.u hi_cn; omega)))
            have hi_cn : Hid (CB cn) := hI18.b
            refine lv_iload_n hx hb (oc_29 18 (aq_18 shX12_goes_0)) rfl (lvA0 hl) ?_
            refine lv_aload_n hx hb (oc_42 19 (aq_19 shX12_goes_0)) rfl (lvA3 hl) ?_
            refine gM_364 S hK hP (v := .int (nI (cn 44))) rfl (oc_180 20 (aq_20 shX12_goes_0) uw_1_108) ?_
            have : (nI (cn 44)).toInt = (((cn 44) : Nat) : Int) := nI_toInt (by (first | omega | (have zz0 := Hid.u hi_cn; omega)))
            refine lv_icmp_ge (tgt := 152) hx hb (oc_162 23 (aq_23 shX12_goes_0) sgw_0_129) rfl (fun c_4 => ?_) (fun c_4 => ?_)
            ·
              have tc_4 : ((nI (cn 44)).toInt : Int) ≤ (nI i18).toInt := Int32.le_iff_toInt_le.mp c_4
              refine lv_iinc (v := (nI (i11 + 1))) (lv' := [(2, .int (nI (i11 + 1))), (3, .int (nI i18)), (1, .int (nI (2 ^ cn 44 - 1))), (0, .ref (g 100))]) hx hb (oc_132 152 (aq_3 shX12_goes_149) ub_2 sgb_1) hl (k := 1) rfl (nI_1 _) (ltb rfl) rfl (fun ls hl => ?_)
              refine lv_goto (tgt := 11) hx hb (oc_167 155 (aq_6 shX12_goes_149) sgw_255_112) rfl ?_
              exact ih11 (i11 + 1) F18 _ _ (by (first | omega | (have zz0 := Hid.u hi_cn; omega))) ⟨(by (first | omega | (have zz0 := Hid.u hi_cn; omega))), (Fr.mo hfr18 (sbl rfl) (sbl rfl) (sbl rfl)), hI18, hx18_0⟩ hP hD hS ls (lv_sub hl [0, 2, 3] rfl)
            ·
              have tc_4 : ((nI i18).toInt : Int) < (nI (cn 44)).toInt := Int32.lt_iff_toInt_lt.mp (Int32.not_le.mp c_4)
              refine lv_iload_n hx hb (oc_28 26 shX12_goes_26) rfl (lvA1 hl) ?_
              refine lv_if_ne (tgt := 43) hx hb (oc_154 27 (aq_1 shX12_goes_26) sgw_0_16) rfl (fun c_5 => ?_) (fun c_5 => ?_)
              ·
                have tc_5 : ((nI i11).toInt : Int) ≠ 0 := fun q => c_5 (Int32.toInt_inj.mp q)
                refine lv_ldcw (v := 1000000) hx hb hown (S.2.2.2.2 _ (wk8_10 9 rfl rfl)) (oc_19 43 (aq_17 shX12_goes_26) uw_1_114) ?_
                refine lv_istore (lv' := [(4, .int 1000000), (3, .int (nI i18)), (2, .int (nI i11)), (1, .int (nI (2 ^ cn 44 - 1))), (0, .ref (g 100))]) hx hb (oc_54 46 (aq_20 shX12_goes_26) ub_4) hl (ltb rfl) rfl (fun ls hl => ?_)
                refine lv_iconst (v := 0) hx hb (oc_3 48 (aq_22 shX12_goes_26)) kic_0 ?_
                refine lv_istore (lv' := [(5, .int 0), (4, .int 1000000), (3, .int (nI i18)), (2, .int (nI i11)), (1, .int (nI (2 ^ cn 44 - 1))), (0, .ref (g 100))]) hx hb (oc_54 49 (aq_23 shX12_goes_26) ub_5) hl (ltb rfl) rfl (fun ls hl => ?_)
                have lp_51 : ∀ (n : Nat) (i51 : Nat) (x51_4 : Int32) , cn 44 - i51 < n → (i51 ≤ cn 44) → ∀ ls : Array Slot, lv_has ls 7 [(5, .int (nI i51)), (4, .int x51_4), (3, .int (nI i18)), (2, .int (nI i11)), (1, .int (nI (2 ^ cn 44 - 1))), (0, .ref (g 100))] → W p l e (RM 2 0 0) s m ([.ref (g 100)]).toArray below meth c H locs 0 0 (MQ below (va_Qv (fun (u : (Nat → Nat) × (Nat → Int32) × (Nat → Nat → Int32)) => (fun c2 I2 F2 => Fr [] [] [43] cn In Fn c2 I2 F2 ∧ IM c2 F2 ∧ (True)) u.1 u.2.1 u.2.2) (fun (u : (Nat → Nat) × (Nat → Int32) × (Nat → Nat → Int32)) (t : State) => va_P D vwCl (wM cI cB cZ g u.1 u.2.1 u.2.2) t.heap ∧ va_D A (wM cI cB cZ g u.1 u.2.1 u.2.2)) A) ([.ref (g 100)]).toArray s 0 0 A) (F0 m 51 ls []) := by
                  intro n51
                  induction n51 with
                  | zero => intros; (first | omega | (have zz0 := Hid.u hi_cn; omega))
                  | succ n51 ih51 =>
                    intro i51 x51_4 hmu51 hinv51 ls hl
                    have hr51 := hinv51
                    have ti51 : (nI i51).toInt = (i51 : Int) := nI_toInt (by (first | omega | (have zz0 := Hid.u hi_cn; omega)))
                    refine lv_iload hx hb (oc_21 51 shX12_goes_51 ub_5) (lvA0 hl) ?_
                    refine lv_aload_n hx hb (oc_42 53 (aq_2 shX12_goes_51)) rfl (lvA5 hl) ?_
                    refine gM_364 S hK hP (v := .int (nI (cn 44))) rfl (oc_180 54 (aq_3 shX12_goes_51) uw_1_108) ?_
                    refine lv_icmp_ge (tgt := 133) hx hb (oc_162 57 (aq_6 shX12_goes_51) sgw_0_76) rfl (fun c_6 => ?_) (fun c_6 => ?_)
                    ·
                      have tc_6 : ((nI (cn 44)).toInt : Int) ≤ (nI i51).toInt := Int32.le_iff_toInt_le.mp c_6
                      refine lv_aload_n hx hb (oc_42 133 (aq_8 shX12_goes_125)) rfl (lvA5 hl) ?_
                      refine gM_104 S hK hP (v := .ref (g 43)) rfl (oc_180 134 (aq_9 shX12_goes_125) uw_0_104) ?_
                      refine lv_bipush (v := 8) hx hb (oc_16 137 (aq_12 shX12_goes_125) sgb_8) kbc_8 ?_
                      refine lv_iload_n hx hb (oc_28 139 (aq_14 shX12_goes_125)) rfl (lvA3 hl) ?_
                      refine lv_imul hx hb (oc_104 140 (aq_15 shX12_goes_125)) ?_
                      refine lv_topi (fun y_7 ey_7 => ?_)
                      obtain rfl : y_7 = (nI (8 * i11)) := ey_7.trans (pk_mul 8 i11)
                      refine lv_iload_n hx hb (oc_29 141 (aq_16 shX12_goes_125)) rfl (lvA2 hl) ?_
                      refine lv_iadd hx hb (oc_96 142 (aq_17 shX12_goes_125)) ?_
                      refine lv_topi (fun y_8 ey_8 => ?_)
                      obtain rfl : y_8 = (nI ((8 * i11) + i18)) := ey_8.trans (nI_add (8 * i11) i18)
                      refine lv_iload hx hb (oc_21 143 (aq_18 shX12_goes_125) ub_4) (lvA1 hl) ?_
                      have kb_1 : ((8 * i11) + i18) < 2048 := by (first | omega | (have zz0 := Hid.u hi_cn; omega))
                      refine stM_43 hx hb hK hP hD hS (Fn2 := (va_up F18 43 (upd (F18 43) ((8 * i11) + i18) x51_4))) (vp_in_nI kb_1 (ltb rfl)) (nI_clamp (Nat.lt_trans kb_1 (ltb rfl))) rfl (oc_79 145 (aq_20 shX12_goes_125)) (fun H locs hP hD hS => ?_)
                      refine lv_iinc (v := (nI (i18 + 1))) (lv' := [(3, .int (nI (i18 + 1))), (5, .int (nI i51)), (4, .int x51_4), (2, .int (nI i11)), (1, .int (nI (2 ^ cn 44 - 1))), (0, .ref (g 100))]) hx hb (oc_132 146 (aq_21 shX12_goes_125) ub_3 sgb_1) hl (k := 2) rfl (nI_1 _) (ltb rfl) rfl (fun ls hl => ?_)
                      refine lv_goto (tgt := 18) hx hb (oc_167 149 shX12_goes_149 sgw_255_125) rfl ?_
                      exact ih18 (i18 + 1) (va_up F18 43 (upd (F18 43) ((8 * i11) + i18) x51_4)) _ _ (by (first | omega | (have zz0 := Hid.u hi_cn; omega))) ⟨(by (first | omega | (have zz0 := Hid.u hi_cn; omega))), (Fr.mo (Fr.f 43 hfr18) (sbl rfl) (sbl rfl) (sbl rfl)), (IM.fr (In := In) hI18 (Fr.f 43 Fr.rf) (by decide) (by decide)), (AK.fr (In := In) hx18_0 (Fr.f 43 Fr.rf) (by decide) (by decide))⟩ hP hD hS ls (lv_sub hl [0, 3, 4, 5] rfl)
                    ·
                      have tc_6 : ((nI i51).toInt : Int) < (nI (cn 44)).toInt := Int32.lt_iff_toInt_lt.mp (Int32.not_le.mp c_6)
                      refine lv_iload_n hx hb (oc_28 60 (aq_9 shX12_goes_51)) rfl (lvA3 hl) ?_
                      refine lv_iload hx hb (oc_21 61 (aq_10 shX12_goes_51) ub_5) (lvA0 hl) ?_
                      refine lv_ishr hx hb (oc_122 63 (aq_12 shX12_goes_51)) ?_
                      refine lv_iconst (v := 1) hx hb (oc_4 64 (aq_13 shX12_goes_51)) kic_1 ?_
                      refine lv_iand hx hb (oc_126 65 (aq_14 shX12_goes_51)) ?_
                      refine lv_topi (fun y_9 ey_9 => ?_)
                      rcases bitc (l := i11) (b := i51) (by (first | omega | (have zz0 := Hid.u hi_cn; omega))) (by (first | omega | (have zz0 := Hid.u hi_cn; omega))) with ⟨hb_y_9, qy_9⟩ | ⟨hb_y_9, qy_9⟩
                      ·
                        obtain rfl : y_9 = 0 := ey_9.trans qy_9
                        refine lv_if_ne (tgt := 72) hx hb dX12_goes_66 rfl (fun h => absurd h cq_eq_0_0) (fun _ => ?_)
                        refine lv_goto (tgt := 127) hx hb (oc_167 69 (aq_18 shX12_goes_51) sgw_0_58) rfl ?_
                        refine lv_iinc (v := (nI (i51 + 1))) (lv' := [(5, .int (nI (i51 + 1))), (4, .int x51_4), (3, .int (nI i18)), (2, .int (nI i11)), (1, .int (nI (2 ^ cn 44 - 1))), (0, .ref (g 100))]) hx hb dX12_goes_127 hl (k := 0) rfl (nI_1 _) (ltb rfl) rfl (fun ls hl => ?_)
                        refine lv_goto (tgt := 51) hx hb dX12_goes_130 rfl ?_
                        exact ih51 (i51 + 1) x51_4 (by (first | omega | (have zz0 := Hid.u hi_cn; omega))) (by (first | omega | (have zz0 := Hid.u hi_cn; omega))) ls (lv_sub hl [0, 1, 2, 3, 4, 5] rfl)
                      ·
                        obtain rfl : y_9 = 1 := ey_9.trans qy_9
                        refine lv_if_ne (tgt := 72) hx hb dX12_goes_66 rfl (fun _ => ?_) (fun h => absurd h cq_eq_1_0)
                        refine lv_aload_n hx hb (oc_42 72 (aq_21 shX12_goes_51)) rfl (lvA5 hl) ?_
                        refine lv_aload_n hx hb (oc_42 73 (aq_22 shX12_goes_51)) rfl (lvA5 hl) ?_
                        refine gM_101 S hK hP (v := .ref (g 42)) rfl (oc_180 74 (aq_23 shX12_goes_51) uw_0_101) ?_
                        refine lv_iload_n hx hb (oc_29 77 shX12_goes_77) rfl (lvA2 hl) ?_
                        have kb_2 : i18 < 10 := by (first | omega | (have zz0 := Hid.u hi_cn; omega))
                        obtain ⟨a_10, ha_10, ea_10⟩ := hx18_0 i18 (by (first | omega | (have zz0 := Hid.u hi_cn; omega)))
                        refine ldM_42 hx hb hK hP (x := (nI a_10)) (vp_in_nI kb_2 (ltb rfl)) (nI_clamp (Nat.lt_trans kb_2 (ltb rfl))) ea_10 (oc_46 78 (aq_1 shX12_goes_77)) ?_
                        refine lv_aload_n hx hb (oc_42 79 (aq_2 shX12_goes_77)) rfl (lvA5 hl) ?_
                        refine gM_101 S hK hP (v := .ref (g 42)) rfl (oc_180 80 (aq_3 shX12_goes_77) uw_0_101) ?_
                        refine lv_iload hx hb (oc_21 83 (aq_6 shX12_goes_77) ub_5) (lvA0 hl) ?_
                        have kb_3 : i51 < 10 := by (first | omega | (have zz0 := Hid.u hi_cn; omega))
                        obtain ⟨a_11, ha_11, ea_11⟩ := hx18_0 i51 (by (first | omega | (have zz0 := Hid.u hi_cn; omega)))
                        refine ldM_42 hx hb hK hP (x := (nI a_11)) (vp_in_nI kb_3 (ltb rfl)) (nI_clamp (Nat.lt_trans kb_3 (ltb rfl))) ea_11 (oc_46 85 (aq_8 shX12_goes_77)) ?_
                        refine vp_callSi (runV_ra (As := [.int (nI a_10), .int (nI a_11)]) (rest := []) S (q_way l D cI cB cZ g cn In F18 a_10 a_11 hI18 (by (first | omega | (have zz0 := Hid.u hi_cn; omega))) (by (first | omega | (have zz0 := Hid.u hi_cn; omega)))) kV_RX12_371 hK hP 0 rfl rfl rfl ⟨Nat.le_of_ble_eq_true rfl, Nat.le_of_ble_eq_true rfl⟩ ⟨Nat.le_of_ble_eq_true rfl, Nat.le_of_ble_eq_true rfl⟩ rfl hl.1 rfl (Nat.le_of_ble_eq_true rfl) (oc_182 86 (aq_9 shX12_goes_77) uw_1_115)) (fun r_12 h_13 => ?_)
                        subst h_13
                        refine lv_aload_n hx hb (oc_42 89 (aq_12 shX12_goes_77)) rfl (lvA5 hl) ?_
                        refine gM_104 S hK hP (v := .ref (g 43)) rfl (oc_180 90 (aq_13 shX12_goes_77) uw_0_104) ?_
                        refine lv_bipush (v := 8) hx hb (oc_16 93 (aq_16 shX12_goes_77) sgb_8) kbc_8 ?_
                        refine lv_iload_n hx hb (oc_28 95 (aq_18 shX12_goes_77)) rfl (lvA3 hl) ?_
                        refine lv_iconst (v := 1) hx hb (oc_4 96 (aq_19 shX12_goes_77)) kic_1 ?_
                        refine lv_iload hx hb (oc_21 97 (aq_20 shX12_goes_77) ub_5) (lvA0 hl) ?_
                        refine lv_ishl hx hb (oc_120 99 (aq_22 shX12_goes_77)) ?_
                        refine lv_iconst (v := (-1)) hx hb (oc_2 100 (aq_23 shX12_goes_77)) kic_m1 ?_
                        refine lv_ixor hx hb (oc_130 101 shX12_goes_101) ?_
                        refine lv_iand hx hb (oc_126 102 (aq_1 shX12_goes_101)) ?_
                        refine lv_topi (fun y_14 ey_14 => ?_)
                        obtain rfl : y_14 = (nI (clr i11 i51)) := ey_14.trans (clrI (by (first | omega | (have zz0 := Hid.u hi_cn; omega))) (by (first | omega | (have zz0 := Hid.u hi_cn; omega))))
                        have hcl := clr_le (l := i11) (a := i51)
                        refine lv_imul hx hb (oc_104 103 (aq_2 shX12_goes_101)) ?_
                        refine lv_topi (fun y_15 ey_15 => ?_)
                        obtain rfl : y_15 = (nI (8 * (clr i11 i51))) := ey_15.trans (pk_mul 8 (clr i11 i51))
                        refine lv_iload hx hb (oc_21 104 (aq_3 shX12_goes_101) ub_5) (lvA0 hl) ?_
                        refine lv_iadd hx hb (oc_96 106 (aq_5 shX12_goes_101)) ?_
                        refine lv_topi (fun y_16 ey_16 => ?_)
                        obtain rfl : y_16 = (nI ((8 * (clr i11 i51)) + i51)) := ey_16.trans (nI_add (8 * (clr i11 i51)) i51)
                        have kb_4 : ((8 * (clr i11 i51)) + i51) < 2048 := by (first | omega | (have zz0 := Hid.u hi_cn; omega))
                        refine ldM_43 hx hb hK hP (x := ((F18 43) ((8 * (clr i11 i51)) + i51))) (vp_in_nI kb_4 (ltb rfl)) (nI_clamp (Nat.lt_trans kb_4 (ltb rfl))) rfl (oc_46 107 (aq_6 shX12_goes_101)) ?_
                        refine lv_iadd hx hb (oc_96 108 (aq_7 shX12_goes_101)) ?_
                        refine lv_istore (lv' := [(6, .int ((apM ((F18 3) a_10) ((F18 4) a_10) ((F18 3) a_11) ((F18 4) a_11)) + ((F18 43) ((8 * (clr i11 i51)) + i51)))), (5, .int (nI i51)), (4, .int x51_4), (3, .int (nI i18)), (2, .int (nI i11)), (1, .int (nI (2 ^ cn 44 - 1))), (0, .ref (g 100))]) hx hb (oc_54 109 (aq_8 shX12_goes_101) ub_6) hl (ltb rfl) rfl (fun ls hl => ?_)
                        refine lv_iload hx hb (oc_21 111 (aq_10 shX12_goes_101) ub_6) (lvA0 hl) ?_
                        refine lv_iload hx hb (oc_21 113 (aq_12 shX12_goes_101) ub_4) (lvA2 hl) ?_
                        refine lv_icmp_ge (tgt := 123) hx hb (oc_162 115 (aq_14 shX12_goes_101) sgw_0_8) rfl (fun c_17 => ?_) (fun c_17 => ?_)
                        ·
                          have tc_17 : (x51_4.toInt : Int) ≤ ((apM ((F18 3) a_10) ((F18 4) a_10) ((F18 3) a_11) ((F18 4) a_11)) + ((F18 43) ((8 * (clr i11 i51)) + i51))).toInt := Int32.le_iff_toInt_le.mp c_17
                          refine lv_iload hx hb (oc_21 123 (aq_22 shX12_goes_101) ub_4) (lvA2 hl) ?_
                          refine lv_istore (lv' := [(4, .int x51_4), (6, .int ((apM ((F18 3) a_10) ((F18 4) a_10) ((F18 3) a_11) ((F18 4) a_11)) + ((F18 43) ((8 * (clr i11 i51)) + i51)))), (5, .int (nI i51)), (3, .int (nI i18)), (2, .int (nI i11)), (1, .int (nI (2 ^ cn 44 - 1))), (0, .ref (g 100))]) hx hb dX12_goes_125 hl (ltb rfl) rfl (fun ls hl => ?_)
                          refine lv_iinc (v := (nI (i51 + 1))) (lv' := [(5, .int (nI (i51 + 1))), (4, .int x51_4), (6, .int ((apM ((F18 3) a_10) ((F18 4) a_10) ((F18 3) a_11) ((F18 4) a_11)) + ((F18 43) ((8 * (clr i11 i51)) + i51)))), (3, .int (nI i18)), (2, .int (nI i11)), (1, .int (nI (2 ^ cn 44 - 1))), (0, .ref (g 100))]) hx hb dX12_goes_127 hl (k := 2) rfl (nI_1 _) (ltb rfl) rfl (fun ls hl => ?_)
                          refine lv_goto (tgt := 51) hx hb dX12_goes_130 rfl ?_
                          exact ih51 (i51 + 1) x51_4 (by (first | omega | (have zz0 := Hid.u hi_cn; omega))) (by (first | omega | (have zz0 := Hid.u hi_cn; omega))) ls (lv_sub hl [0, 1, 3, 4, 5, 6] rfl)
                        ·
                          have tc_17 : (((apM ((F18 3) a_10) ((F18 4) a_10) ((F18 3) a_11) ((F18 4) a_11)) + ((F18 43) ((8 * (clr i11 i51)) + i51))).toInt : Int) < x51_4.toInt := Int32.lt_iff_toInt_lt.mp (Int32.not_le.mp c_17)
                          refine lv_iload hx hb (oc_21 118 (aq_17 shX12_goes_101) ub_6) (lvA0 hl) ?_
                          refine lv_goto (tgt := 125) hx hb (oc_167 120 (aq_19 shX12_goes_101) sgw_0_5) rfl ?_
                          refine lv_istore (lv' := [(4, .int ((apM ((F18 3) a_10) ((F18 4) a_10) ((F18 3) a_11) ((F18 4) a_11)) + ((F18 43) ((8 * (clr i11 i51)) + i51)))), (6, .int ((apM ((F18 3) a_10) ((F18 4) a_10) ((F18 3) a_11) ((F18 4) a_11)) + ((F18 43) ((8 * (clr i11 i51)) + i51)))), (5, .int (nI i51)), (3, .int (nI i18)), (2, .int (nI i11)), (1, .int (nI (2 ^ cn 44 - 1))), (0, .ref (g 100))]) hx hb dX12_goes_125 hl (ltb rfl) rfl (fun ls hl => ?_)
                          refine lv_iinc (v := (nI (i51 + 1))) (lv' := [(5, .int (nI (i51 + 1))), (4, .int ((apM ((F18 3) a_10) ((F18 4) a_10) ((F18 3) a_11) ((F18 4) a_11)) + ((F18 43) ((8 * (clr i11 i51)) + i51)))), (6, .int ((apM ((F18 3) a_10) ((F18 4) a_10) ((F18 3) a_11) ((F18 4) a_11)) + ((F18 43) ((8 * (clr i11 i51)) + i51)))), (3, .int (nI i18)), (2, .int (nI i11)), (1, .int (nI (2 ^ cn 44 - 1))), (0, .ref (g 100))]) hx hb dX12_goes_127 hl (k := 2) rfl (nI_1 _) (ltb rfl) rfl (fun ls hl => ?_)
                          refine lv_goto (tgt := 51) hx hb dX12_goes_130 rfl ?_
                          exact ih51 (i51 + 1) ((apM ((F18 3) a_10) ((F18 4) a_10) ((F18 3) a_11) ((F18 4) a_11)) + ((F18 43) ((8 * (clr i11 i51)) + i51))) (by (first | omega | (have zz0 := Hid.u hi_cn; omega))) (by (first | omega | (have zz0 := Hid.u hi_cn; omega))) ls (lv_sub hl [0, 1, 3, 4, 5, 6] rfl)
                exact lp_51 _ 0 1000000 (Nat.lt_succ_self _) (by (first | omega | (have zz0 := Hid.u hi_cn; omega))) ls (lv_sub hl [0, 1, 2, 3, 4, 5] rfl)
              ·
                have tc_5 : ((nI i11).toInt : Int) = 0 := congrArg Int32.toInt c_5
                refine lv_aload_n hx hb (oc_42 30 (aq_4 shX12_goes_26)) rfl (lvA3 hl) ?_
                refine lv_aload_n hx hb (oc_42 31 (aq_5 shX12_goes_26)) rfl (lvA3 hl) ?_
                refine gM_101 S hK hP (v := .ref (g 42)) rfl (oc_180 32 (aq_6 shX12_goes_26) uw_0_101) ?_
                refine lv_iload_n hx hb (oc_29 35 (aq_9 shX12_goes_26)) rfl (lvA0 hl) ?_
                have kb_5 : i18 < 10 := by (first | omega | (have zz0 := Hid.u hi_cn; omega))
                obtain ⟨a_18, ha_18, ea_18⟩ := hx18_0 i18 (by (first | omega | (have zz0 := Hid.u hi_cn; omega)))
                refine ldM_42 hx hb hK hP (x := (nI a_18)) (vp_in_nI kb_5 (ltb rfl)) (nI_clamp (Nat.lt_trans kb_5 (ltb rfl))) ea_18 (oc_46 36 (aq_10 shX12_goes_26)) ?_
                refine vp_callSi (runV_ra (As := [.int (nI a_18)]) (rest := []) S (q_toDepot l D cI cB cZ g cn In F18 a_18 hI18 (by (first | omega | (have zz0 := Hid.u hi_cn; omega)))) kV_RX12_367 hK hP 0 rfl rfl rfl ⟨Nat.le_of_ble_eq_true rfl, Nat.le_of_ble_eq_true rfl⟩ ⟨Nat.le_of_ble_eq_true rfl, Nat.le_of_ble_eq_true rfl⟩ rfl hl.1 rfl (Nat.le_of_ble_eq_true rfl) (oc_182 37 (aq_11 shX12_goes_26) uw_1_111)) (fun r_19 h_20 => ?_)
                subst h_20
                refine lv_goto (tgt := 46) hx hb (oc_167 40 (aq_14 shX12_goes_26) sgw_0_6) rfl ?_
                refine lv_istore (lv' := [(4, .int ((F18 3) a_18 + (F18 4) a_18)), (3, .int (nI i18)), (2, .int (nI i11)), (1, .int (nI (2 ^ cn 44 - 1))), (0, .ref (g 100))]) hx hb (oc_54 46 (aq_20 shX12_goes_26) ub_4) hl (ltb rfl) rfl (fun ls hl => ?_)
                refine lv_iconst (v := 0) hx hb (oc_3 48 (aq_22 shX12_goes_26)) kic_0 ?_
                refine lv_istore (lv' := [(5, .int 0), (4, .int ((F18 3) a_18 + (F18 4) a_18)), (3, .int (nI i18)), (2, .int (nI i11)), (1, .int (nI (2 ^ cn 44 - 1))), (0, .ref (g 100))]) hx hb (oc_54 49 (aq_23 shX12_goes_26) ub_5) hl (ltb rfl) rfl (fun ls hl => ?_)
                have lp_51 : ∀ (n : Nat) (i51 : Nat) (x51_4 : Int32) , cn 44 - i51 < n → (i51 ≤ cn 44) → ∀ ls : Array Slot, lv_has ls 7 [(5, .int (nI i51)), (4, .int x51_4), (3, .int (nI i18)), (2, .int (nI i11)), (1, .int (nI (2 ^ cn 44 - 1))), (0, .ref (g 100))] → W p l e (RM 2 0 0) s m ([.ref (g 100)]).toArray below meth c H locs 0 0 (MQ below (va_Qv (fun (u : (Nat → Nat) × (Nat → Int32) × (Nat → Nat → Int32)) => (fun c2 I2 F2 => Fr [] [] [43] cn In Fn c2 I2 F2 ∧ IM c2 F2 ∧ (True)) u.1 u.2.1 u.2.2) (fun (u : (Nat → Nat) × (Nat → Int32) × (Nat → Nat → Int32)) (t : State) => va_P D vwCl (wM cI cB cZ g u.1 u.2.1 u.2.2) t.heap ∧ va_D A (wM cI cB cZ g u.1 u.2.1 u.2.2)) A) ([.ref (g 100)]).toArray s 0 0 A) (F0 m 51 ls []) := by
                  intro n51
                  induction n51 with
                  | zero => intros; (first | omega | (have zz0 := Hid.u hi_cn; omega))
                  | succ n51 ih51 =>
                    intro i51 x51_4 hmu51 hinv51 ls hl
                    have hr51 := hinv51
                    have ti51 : (nI i51).toInt = (i51 : Int) := nI_toInt (by (first | omega | (have zz0 := Hid.u hi_cn; omega)))
                    refine lv_iload hx hb (oc_21 51 shX12_goes_51 ub_5) (lvA0 hl) ?_
                    refine lv_aload_n hx hb (oc_42 53 (aq_2 shX12_goes_51)) rfl (lvA5 hl) ?_
                    refine gM_364 S hK hP (v := .int (nI (cn 44))) rfl (oc_180 54 (aq_3 shX12_goes_51) uw_1_108) ?_
                    refine lv_icmp_ge (tgt := 133) hx hb (oc_162 57 (aq_6 shX12_goes_51) sgw_0_76) rfl (fun c_21 => ?_) (fun c_21 => ?_)
                    ·
                      have tc_21 : ((nI (cn 44)).toInt : Int) ≤ (nI i51).toInt := Int32.le_iff_toInt_le.mp c_21
                      refine lv_aload_n hx hb (oc_42 133 (aq_8 shX12_goes_125)) rfl (lvA5 hl) ?_
                      refine gM_104 S hK hP (v := .ref (g 43)) rfl (oc_180 134 (aq_9 shX12_goes_125) uw_0_104) ?_
                      refine lv_bipush (v := 8) hx hb (oc_16 137 (aq_12 shX12_goes_125) sgb_8) kbc_8 ?_
                      refine lv_iload_n hx hb (oc_28 139 (aq_14 shX12_goes_125)) rfl (lvA3 hl) ?_
                      refine lv_imul hx hb (oc_104 140 (aq_15 shX12_goes_125)) ?_
                      refine lv_topi (fun y_22 ey_22 => ?_)
                      obtain rfl : y_22 = (nI (8 * i11)) := ey_22.trans (pk_mul 8 i11)
                      refine lv_iload_n hx hb (oc_29 141 (aq_16 shX12_goes_125)) rfl (lvA2 hl) ?_
                      refine lv_iadd hx hb (oc_96 142 (aq_17 shX12_goes_125)) ?_
                      refine lv_topi (fun y_23 ey_23 => ?_)
                      obtain rfl : y_23 = (nI ((8 * i11) + i18)) := ey_23.trans (nI_add (8 * i11) i18)
                      refine lv_iload hx hb (oc_21 143 (aq_18 shX12_goes_125) ub_4) (lvA1 hl) ?_
                      have kb_6 : ((8 * i11) + i18) < 2048 := by (first | omega | (have zz0 := Hid.u hi_cn; omega))
                      refine stM_43 hx hb hK hP hD hS (Fn2 := (va_up F18 43 (upd (F18 43) ((8 * i11) + i18) x51_4))) (vp_in_nI kb_6 (ltb rfl)) (nI_clamp (Nat.lt_trans kb_6 (ltb rfl))) rfl (oc_79 145 (aq_20 shX12_goes_125)) (fun H locs hP hD hS => ?_)
                      refine lv_iinc (v := (nI (i18 + 1))) (lv' := [(3, .int (nI (i18 + 1))), (5, .int (nI i51)), (4, .int x51_4), (2, .int (nI i11)), (1, .int (nI (2 ^ cn 44 - 1))), (0, .ref (g 100))]) hx hb (oc_132 146 (aq_21 shX12_goes_125) ub_3 sgb_1) hl (k := 2) rfl (nI_1 _) (ltb rfl) rfl (fun ls hl => ?_)
                      refine lv_goto (tgt := 18) hx hb (oc_167 149 shX12_goes_149 sgw_255_125) rfl ?_
                      exact ih18 (i18 + 1) (va_up F18 43 (upd (F18 43) ((8 * i11) + i18) x51_4)) _ _ (by (first | omega | (have zz0 := Hid.u hi_cn; omega))) ⟨(by (first | omega | (have zz0 := Hid.u hi_cn; omega))), (Fr.mo (Fr.f 43 hfr18) (sbl rfl) (sbl rfl) (sbl rfl)), (IM.fr (In := In) hI18 (Fr.f 43 Fr.rf) (by decide) (by decide)), (AK.fr (In := In) hx18_0 (Fr.f 43 Fr.rf) (by decide) (by decide))⟩ hP hD hS ls (lv_sub hl [0, 3, 4, 5] rfl)
                    ·
                      have tc_21 : ((nI i51).toInt : Int) < (nI (cn 44)).toInt := Int32.lt_iff_toInt_lt.mp (Int32.not_le.mp c_21)
                      refine lv_iload_n hx hb (oc_28 60 (aq_9 shX12_goes_51)) rfl (lvA3 hl) ?_
                      refine lv_iload hx hb (oc_21 61 (aq_10 shX12_goes_51) ub_5) (lvA0 hl) ?_
                      refine lv_ishr hx hb (oc_122 63 (aq_12 shX12_goes_51)) ?_
                      refine lv_iconst (v := 1) hx hb (oc_4 64 (aq_13 shX12_goes_51)) kic_1 ?_
                      refine lv_iand hx hb (oc_126 65 (aq_14 shX12_goes_51)) ?_
                      refine lv_topi (fun y_24 ey_24 => ?_)
                      rcases bitc (l := i11) (b := i51) (by (first | omega | (have zz0 := Hid.u hi_cn; omega))) (by (first | omega | (have zz0 := Hid.u hi_cn; omega))) with ⟨hb_y_24, qy_24⟩ | ⟨hb_y_24, qy_24⟩
                      ·
                        obtain rfl : y_24 = 0 := ey_24.trans qy_24
                        refine lv_if_ne (tgt := 72) hx hb dX12_goes_66 rfl (fun h => absurd h cq_eq_0_0) (fun _ => ?_)
                        refine lv_goto (tgt := 127) hx hb (oc_167 69 (aq_18 shX12_goes_51) sgw_0_58) rfl ?_
                        refine lv_iinc (v := (nI (i51 + 1))) (lv' := [(5, .int (nI (i51 + 1))), (4, .int x51_4), (3, .int (nI i18)), (2, .int (nI i11)), (1, .int (nI (2 ^ cn 44 - 1))), (0, .ref (g 100))]) hx hb dX12_goes_127 hl (k := 0) rfl (nI_1 _) (ltb rfl) rfl (fun ls hl => ?_)
                        refine lv_goto (tgt := 51) hx hb dX12_goes_130 rfl ?_
                        exact ih51 (i51 + 1) x51_4 (by (first | omega | (have zz0 := Hid.u hi_cn; omega))) (by (first | omega | (have zz0 := Hid.u hi_cn; omega))) ls (lv_sub hl [0, 1, 2, 3, 4, 5] rfl)
                      ·
                        obtain rfl : y_24 = 1 := ey_24.trans qy_24
                        refine lv_if_ne (tgt := 72) hx hb dX12_goes_66 rfl (fun _ => ?_) (fun h => absurd h cq_eq_1_0)
                        refine lv_aload_n hx hb (oc_42 72 (aq_21 shX12_goes_51)) rfl (lvA5 hl) ?_
                        refine lv_aload_n hx hb (oc_42 73 (aq_22 shX12_goes_51)) rfl (lvA5 hl) ?_
                        refine gM_101 S hK hP (v := .ref (g 42)) rfl (oc_180 74 (aq_23 shX12_goes_51) uw_0_101) ?_
                        refine lv_iload_n hx hb (oc_29 77 shX12_goes_77) rfl (lvA2 hl) ?_
                        refine ldM_42 hx hb hK hP (x := (nI a_18)) (vp_in_nI kb_5 (ltb rfl)) (nI_clamp (Nat.lt_trans kb_5 (ltb rfl))) ea_18 (oc_46 78 (aq_1 shX12_goes_77)) ?_
                        refine lv_aload_n hx hb (oc_42 79 (aq_2 shX12_goes_77)) rfl (lvA5 hl) ?_
                        refine gM_101 S hK hP (v := .ref (g 42)) rfl (oc_180 80 (aq_3 shX12_goes_77) uw_0_101) ?_
                        refine lv_iload hx hb (oc_21 83 (aq_6 shX12_goes_77) ub_5) (lvA0 hl) ?_
                        have kb_7 : i51 < 10 := by (first | omega | (have zz0 := Hid.u hi_cn; omega))
                        obtain ⟨a_25, ha_25, ea_25⟩ := hx18_0 i51 (by (first | omega | (have zz0 := Hid.u hi_cn; omega)))
                        refine ldM_42 hx hb hK hP (x := (nI a_25)) (vp_in_nI kb_7 (ltb rfl)) (nI_clamp (Nat.lt_trans kb_7 (ltb rfl))) ea_25 (oc_46 85 (aq_8 shX12_goes_77)) ?_
                        refine vp_callSi (runV_ra (As := [.int (nI a_18), .int (nI a_25)]) (rest := []) S (q_way l D cI cB cZ g cn In F18 a_18 a_25 hI18 (by (first | omega | (have zz0 := Hid.u hi_cn; omega))) (by (first | omega | (have zz0 := Hid.u hi_cn; omega)))) kV_RX12_371 hK hP 0 rfl rfl rfl ⟨Nat.le_of_ble_eq_true rfl, Nat.le_of_ble_eq_true rfl⟩ ⟨Nat.le_of_ble_eq_true rfl, Nat.le_of_ble_eq_true rfl⟩ rfl hl.1 rfl (Nat.le_of_ble_eq_true rfl) (oc_182 86 (aq_9 shX12_goes_77) uw_1_115)) (fun r_26 h_27 => ?_)
                        subst h_27
                        refine lv_aload_n hx hb (oc_42 89 (aq_12 shX12_goes_77)) rfl (lvA5 hl) ?_
                        refine gM_104 S hK hP (v := .ref (g 43)) rfl (oc_180 90 (aq_13 shX12_goes_77) uw_0_104) ?_
                        refine lv_bipush (v := 8) hx hb (oc_16 93 (aq_16 shX12_goes_77) sgb_8) kbc_8 ?_
                        refine lv_iload_n hx hb (oc_28 95 (aq_18 shX12_goes_77)) rfl (lvA3 hl) ?_
                        refine lv_iconst (v := 1) hx hb (oc_4 96 (aq_19 shX12_goes_77)) kic_1 ?_
                        refine lv_iload hx hb (oc_21 97 (aq_20 shX12_goes_77) ub_5) (lvA0 hl) ?_
                        refine lv_ishl hx hb (oc_120 99 (aq_22 shX12_goes_77)) ?_
                        refine lv_iconst (v := (-1)) hx hb (oc_2 100 (aq_23 shX12_goes_77)) kic_m1 ?_
                        refine lv_ixor hx hb (oc_130 101 shX12_goes_101) ?_
                        refine lv_iand hx hb (oc_126 102 (aq_1 shX12_goes_101)) ?_
                        refine lv_topi (fun y_28 ey_28 => ?_)
                        obtain rfl : y_28 = (nI (clr i11 i51)) := ey_28.trans (clrI (by (first | omega | (have zz0 := Hid.u hi_cn; omega))) (by (first | omega | (have zz0 := Hid.u hi_cn; omega))))
                        have hcl := clr_le (l := i11) (a := i51)
                        refine lv_imul hx hb (oc_104 103 (aq_2 shX12_goes_101)) ?_
                        refine lv_topi (fun y_29 ey_29 => ?_)
                        obtain rfl : y_29 = (nI (8 * (clr i11 i51))) := ey_29.trans (pk_mul 8 (clr i11 i51))
                        refine lv_iload hx hb (oc_21 104 (aq_3 shX12_goes_101) ub_5) (lvA0 hl) ?_
                        refine lv_iadd hx hb (oc_96 106 (aq_5 shX12_goes_101)) ?_
                        refine lv_topi (fun y_30 ey_30 => ?_)
                        obtain rfl : y_30 = (nI ((8 * (clr i11 i51)) + i51)) := ey_30.trans (nI_add (8 * (clr i11 i51)) i51)
                        have kb_8 : ((8 * (clr i11 i51)) + i51) < 2048 := by (first | omega | (have zz0 := Hid.u hi_cn; omega))
                        refine ldM_43 hx hb hK hP (x := ((F18 43) ((8 * (clr i11 i51)) + i51))) (vp_in_nI kb_8 (ltb rfl)) (nI_clamp (Nat.lt_trans kb_8 (ltb rfl))) rfl (oc_46 107 (aq_6 shX12_goes_101)) ?_
                        refine lv_iadd hx hb (oc_96 108 (aq_7 shX12_goes_101)) ?_
                        refine lv_istore (lv' := [(6, .int ((apM ((F18 3) a_18) ((F18 4) a_18) ((F18 3) a_25) ((F18 4) a_25)) + ((F18 43) ((8 * (clr i11 i51)) + i51)))), (5, .int (nI i51)), (4, .int x51_4), (3, .int (nI i18)), (2, .int (nI i11)), (1, .int (nI (2 ^ cn 44 - 1))), (0, .ref (g 100))]) hx hb (oc_54 109 (aq_8 shX12_goes_101) ub_6) hl (ltb rfl) rfl (fun ls hl => ?_)
                        refine lv_iload hx hb (oc_21 111 (aq_10 shX12_goes_101) ub_6) (lvA0 hl) ?_
                        refine lv_iload hx hb (oc_21 113 (aq_12 shX12_goes_101) ub_4) (lvA2 hl) ?_
                        refine lv_icmp_ge (tgt := 123) hx hb (oc_162 115 (aq_14 shX12_goes_101) sgw_0_8) rfl (fun c_31 => ?_) (fun c_31 => ?_)
                        ·
                          have tc_31 : (x51_4.toInt : Int) ≤ ((apM ((F18 3) a_18) ((F18 4) a_18) ((F18 3) a_25) ((F18 4) a_25)) + ((F18 43) ((8 * (clr i11 i51)) + i51))).toInt := Int32.le_iff_toInt_le.mp c_31
                          refine lv_iload hx hb (oc_21 123 (aq_22 shX12_goes_101) ub_4) (lvA2 hl) ?_
                          refine lv_istore (lv' := [(4, .int x51_4), (6, .int ((apM ((F18 3) a_18) ((F18 4) a_18) ((F18 3) a_25) ((F18 4) a_25)) + ((F18 43) ((8 * (clr i11 i51)) + i51)))), (5, .int (nI i51)), (3, .int (nI i18)), (2, .int (nI i11)), (1, .int (nI (2 ^ cn 44 - 1))), (0, .ref (g 100))]) hx hb dX12_goes_125 hl (ltb rfl) rfl (fun ls hl => ?_)
                          refine lv_iinc (v := (nI (i51 + 1))) (lv' := [(5, .int (nI (i51 + 1))), (4, .int x51_4), (6, .int ((apM ((F18 3) a_18) ((F18 4) a_18) ((F18 3) a_25) ((F18 4) a_25)) + ((F18 43) ((8 * (clr i11 i51)) + i51)))), (3, .int (nI i18)), (2, .int (nI i11)), (1, .int (nI (2 ^ cn 44 - 1))), (0, .ref (g 100))]) hx hb dX12_goes_127 hl (k := 2) rfl (nI_1 _) (ltb rfl) rfl (fun ls hl => ?_)
                          refine lv_goto (tgt := 51) hx hb dX12_goes_130 rfl ?_
                          exact ih51 (i51 + 1) x51_4 (by (first | omega | (have zz0 := Hid.u hi_cn; omega))) (by (first | omega | (have zz0 := Hid.u hi_cn; omega))) ls (lv_sub hl [0, 1, 3, 4, 5, 6] rfl)
                        ·
                          have tc_31 : (((apM ((F18 3) a_18) ((F18 4) a_18) ((F18 3) a_25) ((F18 4) a_25)) + ((F18 43) ((8 * (clr i11 i51)) + i51))).toInt : Int) < x51_4.toInt := Int32.lt_iff_toInt_lt.mp (Int32.not_le.mp c_31)
                          refine lv_iload hx hb (oc_21 118 (aq_17 shX12_goes_101) ub_6) (lvA0 hl) ?_
                          refine lv_goto (tgt := 125) hx hb (oc_167 120 (aq_19 shX12_goes_101) sgw_0_5) rfl ?_
                          refine lv_istore (lv' := [(4, .int ((apM ((F18 3) a_18) ((F18 4) a_18) ((F18 3) a_25) ((F18 4) a_25)) + ((F18 43) ((8 * (clr i11 i51)) + i51)))), (6, .int ((apM ((F18 3) a_18) ((F18 4) a_18) ((F18 3) a_25) ((F18 4) a_25)) + ((F18 43) ((8 * (clr i11 i51)) + i51)))), (5, .int (nI i51)), (3, .int (nI i18)), (2, .int (nI i11)), (1, .int (nI (2 ^ cn 44 - 1))), (0, .ref (g 100))]) hx hb dX12_goes_125 hl (ltb rfl) rfl (fun ls hl => ?_)
                          refine lv_iinc (v := (nI (i51 + 1))) (lv' := [(5, .int (nI (i51 + 1))), (4, .int ((apM ((F18 3) a_18) ((F18 4) a_18) ((F18 3) a_25) ((F18 4) a_25)) + ((F18 43) ((8 * (clr i11 i51)) + i51)))), (6, .int ((apM ((F18 3) a_18) ((F18 4) a_18) ((F18 3) a_25) ((F18 4) a_25)) + ((F18 43) ((8 * (clr i11 i51)) + i51)))), (3, .int (nI i18)), (2, .int (nI i11)), (1, .int (nI (2 ^ cn 44 - 1))), (0, .ref (g 100))]) hx hb dX12_goes_127 hl (k := 2) rfl (nI_1 _) (ltb rfl) rfl (fun ls hl => ?_)
                          refine lv_goto (tgt := 51) hx hb dX12_goes_130 rfl ?_
                          exact ih51 (i51 + 1) ((apM ((F18 3) a_18) ((F18 4) a_18) ((F18 3) a_25) ((F18 4) a_25)) + ((F18 43) ((8 * (clr i11 i51)) + i51))) (by (first | omega | (have zz0 := Hid.u hi_cn; omega))) (by (first | omega | (have zz0 := Hid.u hi_cn; omega))) ls (lv_sub hl [0, 1, 3, 4, 5, 6] rfl)
                exact lp_51 _ 0 ((F18 3) a_18 + (F18 4) a_18) (Nat.lt_succ_self _) (by (first | omega | (have zz0 := Hid.u hi_cn; omega))) ls (lv_sub hl [0, 1, 2, 3, 4, 5] rfl)
        exact lp_18 _ 0 F11 _ _ (Nat.lt_succ_self _) ⟨(by (first | omega | (have zz0 := Hid.u hi_cn; omega))), (Fr.mo hfr11 (sbl rfl) (sbl rfl) (sbl rfl)), hI11, hx11_0⟩ hP hD hS ls (lv_sub hl [0, 1, 2, 3] rfl)
  exact lp_11 _ 0 Fn _ _ (Nat.lt_succ_self _) ⟨(by (first | omega | (have zz0 := Hid.u hi_cn; omega))), (Fr.mo Fr.rf (sbl rfl) (sbl rfl) (sbl rfl)), hI, hAK⟩ hP hD hS ls (lv_sub hl [0, 1, 2] rfl)
set_option maxRecDepth 100000 in
set_option maxHeartbeats 4000000 in
theorem q_nextOf (l : Launch) (D : va_G) (cI cB cZ : ClassId) (g : Nat → Nat) (cn : Nat → Nat) (In : Nat → Int32) (Fn : Nat → Nat → Int32) (v0 : Int32) (l0 : Nat) (sz : Nat) (hI : IM cn Fn) (h44 : cn 44 ≤ 8) (hAK : AK cn Fn) (hv : v0 = -1 ∨ ∃ n : Nat, n < cn 44 ∧ v0 = nI n) (hl0 : l0 ≤ 255) : Met l yX12_nextOf (CWS yX12_nextOf cX12_nextOf 7 (some .int)) (RM 2 0 0) (PBw [.ref (g 100), .int v0, .int (nI l0)] D cI cB cZ (wM cI cB cZ g cn In Fn) sz) (va_Qi (fun (r : Int32) (u : (Nat → Nat) × (Nat → Int32) × (Nat → Nat → Int32)) => (fun r c2 I2 F2 => Fr [] [45] [] cn In Fn c2 I2 F2 ∧ IM c2 F2 ∧ (NX l0 r (cn 44))) r u.1 u.2.1 u.2.2) (fun (u : (Nat → Nat) × (Nat → Int32) × (Nat → Nat → Int32)) (t : State) => va_P D vwCl (wM cI cB cZ g u.1 u.2.1 u.2.2) t.heap ∧ va_D (va_A (wM cI cB cZ g cn In Fn) sz) (wM cI cB cZ g u.1 u.2.1 u.2.2)) (va_A (wM cI cB cZ g cn In Fn) sz)) 0 0 (va_A (wM cI cB cZ g cn In Fn) sz) := by
  refine en_w (fun A => (va_Qi (fun (r : Int32) (u : (Nat → Nat) × (Nat → Int32) × (Nat → Nat → Int32)) => (fun (r : Int32) (c2 : Nat → Nat) (I2 : Nat → Int32) (F2 : Nat → Nat → Int32) => Fr [] [45] [] cn In Fn c2 I2 F2 ∧ IM c2 F2 ∧ (NX l0 r (cn 44))) r u.1 u.2.1 u.2.2) (fun (u : (Nat → Nat) × (Nat → Int32) × (Nat → Nat → Int32)) (t : State) => va_P D vwCl (wM cI cB cZ g u.1 u.2.1 u.2.2) t.heap ∧ va_D A (wM cI cB cZ g u.1 u.2.1 u.2.2)) A)) rfl rfl pn_RX12 (Nat.le_of_ble_eq_true rfl) (fun p e s m below meth c A hx hb hml hown S hr hlocks hnm hA hP hK hD hS ls hl => ?_)
  have hl : lv_has ls 7 [(0, .ref (g 100)), (1, .int v0), (2, .int (nI l0))] := hl
  have hi_cn : Hid (CB cn) := hI.b
  rcases hv with rfl | ⟨f0, hf0, rfl⟩
  ·
    refine lv_iconst (v := (-1)) hx hb (oc_2 0 shX12_nextOf_0) kic_m1 ?_
    refine lv_istore_n (lv' := [(3, .int (-1)), (0, .ref (g 100)), (1, .int (-1)), (2, .int (nI l0))]) hx hb (oc_62 1 (aq_1 shX12_nextOf_0)) rfl hl (ltb rfl) rfl (fun ls hl => ?_)
    refine lv_iconst (v := 0) hx hb (oc_3 2 (aq_2 shX12_nextOf_0)) kic_0 ?_
    refine lv_istore (lv' := [(4, .int 0), (3, .int (-1)), (0, .ref (g 100)), (1, .int (-1)), (2, .int (nI l0))]) hx hb (oc_54 3 (aq_3 shX12_nextOf_0) ub_4) hl (ltb rfl) rfl (fun ls hl => ?_)
    refine lv_iconst (v := 0) hx hb (oc_3 5 (aq_5 shX12_nextOf_0)) kic_0 ?_
    refine lv_istore (lv' := [(5, .int 0), (4, .int 0), (3, .int (-1)), (0, .ref (g 100)), (1, .int (-1)), (2, .int (nI l0))]) hx hb (oc_54 6 (aq_6 shX12_nextOf_0) ub_5) hl (ltb rfl) rfl (fun ls hl => ?_)
    have lp_8 : ∀ (n : Nat) (i8 : Nat) (x8_3 : Int32) (x8_4 : Int32) , cn 44 - i8 < n → (i8 ≤ cn 44 ∧ (NX l0 x8_3 i8)) → ∀ ls : Array Slot, lv_has ls 7 [(5, .int (nI i8)), (4, .int x8_4), (3, .int x8_3), (0, .ref (g 100)), (1, .int (-1)), (2, .int (nI l0))] → W p l e (RM 2 0 0) s m ([.ref (g 100), .int (-1), .int (nI l0)]).toArray below meth c s.heap [] 0 0 (MQ below (va_Qi (fun (r : Int32) (u : (Nat → Nat) × (Nat → Int32) × (Nat → Nat → Int32)) => (fun r c2 I2 F2 => Fr [] [45] [] cn In Fn c2 I2 F2 ∧ IM c2 F2 ∧ (NX l0 r (cn 44))) r u.1 u.2.1 u.2.2) (fun (u : (Nat → Nat) × (Nat → Int32) × (Nat → Nat → Int32)) (t : State) => va_P D vwCl (wM cI cB cZ g u.1 u.2.1 u.2.2) t.heap ∧ va_D A (wM cI cB cZ g u.1 u.2.1 u.2.2)) A) ([.ref (g 100), .int (-1), .int (nI l0)]).toArray s 0 0 A) (F0 m 8 ls []) := by
      intro n8
      induction n8 with
      | zero => intros; (first | omega | (have zz0 := Hid.u hi_cn; omega))
      | succ n8 ih8 =>
        intro i8 x8_3 x8_4 hmu8 hinv8 ls hl
        obtain ⟨hr8, hx8_0⟩ := hinv8
        have ti8 : (nI i8).toInt = (i8 : Int) := nI_toInt (by (first | omega | (have zz0 := Hid.u hi_cn; omega)))
        refine lv_iload hx hb (oc_21 8 (aq_8 shX12_nextOf_0) ub_5) (lvA0 hl) ?_
        refine lv_aload_n hx hb (oc_42 10 (aq_10 shX12_nextOf_0)) rfl (lvA3 hl) ?_
        refine gM_364 S hK hP (v := .int (nI (cn 44))) rfl (oc_180 11 (aq_11 shX12_nextOf_0) uw_1_108) ?_
        have : (nI (cn 44)).toInt = (((cn 44) : Nat) : Int) := nI_toInt (by (first | omega | (have zz0 := Hid.u hi_cn; omega)))
        refine lv_icmp_ge (tgt := 115) hx hb (oc_162 14 (aq_14 shX12_nextOf_0) sgw_0_101) rfl (fun c_1 => ?_) (fun c_1 => ?_)
        ·
          have tc_1 : ((nI (cn 44)).toInt : Int) ≤ (nI i8).toInt := Int32.le_iff_toInt_le.mp c_1
          refine lv_aload_n hx hb (oc_42 115 (aq_16 shX12_nextOf_99)) rfl (lvA3 hl) ?_
          refine lv_iload_n hx hb (oc_29 116 (aq_17 shX12_nextOf_99)) rfl (lvA2 hl) ?_
          refine lv_iconst (v := (-1)) hx hb (oc_2 117 (aq_18 shX12_nextOf_99)) kic_m1 ?_
          refine lv_icmp_ne (tgt := 125) hx hb (oc_160 118 (aq_19 shX12_nextOf_99) sgw_0_7) rfl (fun c_2 => ?_) (fun c_2 => ?_)
          ·
            have tc_2 : (x8_3.toInt : Int) ≠ (-1) := fun q => c_2 (Int32.toInt_inj.mp q)
            refine lv_iload hx hb (oc_21 125 shX12_nextOf_125 ub_4) (lvA1 hl) ?_
            refine pM_374 S hK hP hD hS (In2 := (va_up In 45 x8_4)) rfl dX12_nextOf_127 (fun H locs hP hD hS => ?_)
            refine lv_iload_n hx hb dX12_nextOf_130 rfl (lvA2 hl) ?_
            exact W.iret (v := x8_3) hx hb hr (fun t ht hW => ⟨⟨x8_3, (cn, (va_up In 45 x8_4), Fn), rfl, ⟨(Fr.mo (Fr.i 45 Fr.rf) (sbl rfl) (sbl rfl) (sbl rfl)), hI, (by show NX l0 x8_3 (cn 44); rw [show cn 44 = i8 by (first | omega | (have zz0 := Hid.u hi_cn; omega))]; exact hx8_0)⟩, by rw [ht]; exact hP, hD⟩, hS.F ht⟩) hS.2.2 dX12_nextOf_131
          ·
            have tc_2 : (x8_3.toInt : Int) = (-1) := congrArg Int32.toInt c_2
            refine lv_iconst (v := 0) hx hb (oc_3 121 (aq_22 shX12_nextOf_99)) kic_0 ?_
            refine lv_goto (tgt := 127) hx hb (oc_167 122 (aq_23 shX12_nextOf_99) sgw_0_5) rfl ?_
            refine pM_374 S hK hP hD hS (In2 := (va_up In 45 0)) rfl dX12_nextOf_127 (fun H locs hP hD hS => ?_)
            refine lv_iload_n hx hb dX12_nextOf_130 rfl (lvA2 hl) ?_
            exact W.iret (v := x8_3) hx hb hr (fun t ht hW => ⟨⟨x8_3, (cn, (va_up In 45 0), Fn), rfl, ⟨(Fr.mo (Fr.i 45 Fr.rf) (sbl rfl) (sbl rfl) (sbl rfl)), hI, (by show NX l0 x8_3 (cn 44); rw [show cn 44 = i8 by (first | omega | (have zz0 := Hid.u hi_cn; omega))]; exact hx8_0)⟩, by rw [ht]; exact hP, hD⟩, hS.F ht⟩) hS.2.2 dX12_nextOf_131
        ·
          have tc_1 : ((nI i8).toInt : Int) < (nI (cn 44)).toInt := Int32.lt_iff_toInt_lt.mp (Int32.not_le.mp c_1)
          refine lv_iload_n hx hb (oc_28 17 (aq_17 shX12_nextOf_0)) rfl (lvA5 hl) ?_
          refine lv_iload hx hb (oc_21 18 (aq_18 shX12_nextOf_0) ub_5) (lvA0 hl) ?_
          refine lv_ishr hx hb (oc_122 20 (aq_20 shX12_nextOf_0)) ?_
          refine lv_iconst (v := 1) hx hb (oc_4 21 (aq_21 shX12_nextOf_0)) kic_1 ?_
          refine lv_iand hx hb (oc_126 22 (aq_22 shX12_nextOf_0)) ?_
          refine lv_topi (fun y_3 ey_3 => ?_)
          rcases bitc (l := l0) (b := i8) (by (first | omega | (have zz0 := Hid.u hi_cn; omega))) (by (first | omega | (have zz0 := Hid.u hi_cn; omega))) with ⟨hb_y_3, qy_3⟩ | ⟨hb_y_3, qy_3⟩
          ·
            obtain rfl : y_3 = 0 := ey_3.trans qy_3
            refine lv_if_ne (tgt := 29) hx hb dX12_nextOf_23 rfl (fun h => absurd h cq_eq_0_0) (fun _ => ?_)
            refine lv_goto (tgt := 109) hx hb (oc_167 26 shX12_nextOf_26 sgw_0_83) rfl ?_
            refine lv_iinc (v := (nI (i8 + 1))) (lv' := [(5, .int (nI (i8 + 1))), (4, .int x8_4), (3, .int x8_3), (0, .ref (g 100)), (1, .int (-1)), (2, .int (nI l0))]) hx hb dX12_nextOf_109 hl (k := 0) rfl (nI_1 _) (ltb rfl) rfl (fun ls hl => ?_)
            refine lv_goto (tgt := 8) hx hb dX12_nextOf_112 rfl ?_
            exact ih8 (i8 + 1) x8_3 x8_4 (by (first | omega | (have zz0 := Hid.u hi_cn; omega))) ⟨(by (first | omega | (have zz0 := Hid.u hi_cn; omega))), (by first | exact hx8_0.skip (by assumption) | exact NX.set (by assumption) | exact hx8_0.keep (by assumption))⟩ ls (lv_sub hl [0, 1, 2, 3, 4, 5] rfl)
          ·
            obtain rfl : y_3 = 1 := ey_3.trans qy_3
            refine lv_if_ne (tgt := 29) hx hb dX12_nextOf_23 rfl (fun _ => ?_) (fun h => absurd h cq_eq_1_0)
            refine lv_iload_n hx hb (oc_27 29 (aq_3 shX12_nextOf_26)) rfl (lvA4 hl) ?_
            refine lv_iconst (v := (-1)) hx hb (oc_2 30 (aq_4 shX12_nextOf_26)) kic_m1 ?_
            refine lv_icmp_ne (tgt := 48) hx hb (oc_160 31 (aq_5 shX12_nextOf_26) sgw_0_17) rfl (fun h => absurd h cq_eq_m1_m1) (fun _ => ?_)
            refine lv_aload_n hx hb (oc_42 34 (aq_8 shX12_nextOf_26)) rfl (lvA3 hl) ?_
            refine lv_aload_n hx hb (oc_42 35 (aq_9 shX12_nextOf_26)) rfl (lvA3 hl) ?_
            refine gM_101 S hK hP (v := .ref (g 42)) rfl (oc_180 36 (aq_10 shX12_nextOf_26) uw_0_101) ?_
            refine lv_iload hx hb (oc_21 39 (aq_13 shX12_nextOf_26) ub_5) (lvA0 hl) ?_
            have kb_1 : i8 < 10 := by (first | omega | (have zz0 := Hid.u hi_cn; omega))
            obtain ⟨a_4, ha_4, ea_4⟩ := hAK i8 (by (first | omega | (have zz0 := Hid.u hi_cn; omega)))
            refine ldM_42 hx hb hK hP (x := (nI a_4)) (vp_in_nI kb_1 (ltb rfl)) (nI_clamp (Nat.lt_trans kb_1 (ltb rfl))) ea_4 (oc_46 41 (aq_15 shX12_nextOf_26)) ?_
            refine vp_callSi (runV_ra (As := [.int (nI a_4)]) (rest := []) S (q_toDepot l D cI cB cZ g cn In Fn a_4 hI (by (first | omega | (have zz0 := Hid.u hi_cn; omega)))) kV_RX12_367 hK hP 0 rfl rfl rfl ⟨Nat.le_of_ble_eq_true rfl, Nat.le_of_ble_eq_true rfl⟩ ⟨Nat.le_of_ble_eq_true rfl, Nat.le_of_ble_eq_true rfl⟩ rfl hl.1 rfl (Nat.le_of_ble_eq_true rfl) (oc_182 42 (aq_16 shX12_nextOf_26) uw_1_111)) (fun r_5 h_6 => ?_)
            subst h_6
            refine lv_goto (tgt := 65) hx hb (oc_167 45 (aq_19 shX12_nextOf_26) sgw_0_20) rfl ?_
            refine lv_aload_n hx hb (oc_42 65 (aq_15 shX12_nextOf_50)) rfl (lvA3 hl) ?_
            refine gM_104 S hK hP (v := .ref (g 43)) rfl (oc_180 66 (aq_16 shX12_nextOf_50) uw_0_104) ?_
            refine lv_bipush (v := 8) hx hb (oc_16 69 (aq_19 shX12_nextOf_50) sgb_8) kbc_8 ?_
            refine lv_iload_n hx hb (oc_28 71 (aq_21 shX12_nextOf_50)) rfl (lvA5 hl) ?_
            refine lv_iconst (v := 1) hx hb (oc_4 72 (aq_22 shX12_nextOf_50)) kic_1 ?_
            refine lv_iload hx hb (oc_21 73 (aq_23 shX12_nextOf_50) ub_5) (lvA0 hl) ?_
            refine lv_ishl hx hb (oc_120 75 shX12_nextOf_75) ?_
            refine lv_iconst (v := (-1)) hx hb (oc_2 76 (aq_1 shX12_nextOf_75)) kic_m1 ?_
            refine lv_ixor hx hb (oc_130 77 (aq_2 shX12_nextOf_75)) ?_
            refine lv_iand hx hb (oc_126 78 (aq_3 shX12_nextOf_75)) ?_
            refine lv_topi (fun y_7 ey_7 => ?_)
            obtain rfl : y_7 = (nI (clr l0 i8)) := ey_7.trans (clrI (by (first | omega | (have zz0 := Hid.u hi_cn; omega))) (by (first | omega | (have zz0 := Hid.u hi_cn; omega))))
            have hcl := clr_le (l := l0) (a := i8)
            refine lv_imul hx hb (oc_104 79 (aq_4 shX12_nextOf_75)) ?_
            refine lv_topi (fun y_8 ey_8 => ?_)
            obtain rfl : y_8 = (nI (8 * (clr l0 i8))) := ey_8.trans (pk_mul 8 (clr l0 i8))
            refine lv_iload hx hb (oc_21 80 (aq_5 shX12_nextOf_75) ub_5) (lvA0 hl) ?_
            refine lv_iadd hx hb (oc_96 82 (aq_7 shX12_nextOf_75)) ?_
            refine lv_topi (fun y_9 ey_9 => ?_)
            obtain rfl : y_9 = (nI ((8 * (clr l0 i8)) + i8)) := ey_9.trans (nI_add (8 * (clr l0 i8)) i8)
            have kb_2 : ((8 * (clr l0 i8)) + i8) < 2048 := by (first | omega | (have zz0 := Hid.u hi_cn; omega))
            refine ldM_43 hx hb hK hP (x := ((Fn 43) ((8 * (clr l0 i8)) + i8))) (vp_in_nI kb_2 (ltb rfl)) (nI_clamp (Nat.lt_trans kb_2 (ltb rfl))) rfl (oc_46 83 (aq_8 shX12_nextOf_75)) ?_
            refine lv_iadd hx hb (oc_96 84 (aq_9 shX12_nextOf_75)) ?_
            refine lv_istore (lv' := [(6, .int (((Fn 3) a_4 + (Fn 4) a_4) + ((Fn 43) ((8 * (clr l0 i8)) + i8)))), (5, .int (nI i8)), (4, .int x8_4), (3, .int x8_3), (0, .ref (g 100)), (1, .int (-1)), (2, .int (nI l0))]) hx hb (oc_54 85 (aq_10 shX12_nextOf_75) ub_6) hl (ltb rfl) rfl (fun ls hl => ?_)
            refine lv_iload_n hx hb (oc_29 87 (aq_12 shX12_nextOf_75)) rfl (lvA3 hl) ?_
            refine lv_iconst (v := (-1)) hx hb (oc_2 88 (aq_13 shX12_nextOf_75)) kic_m1 ?_
            refine lv_icmp_eq (tgt := 102) hx hb (oc_159 89 (aq_14 shX12_nextOf_75) sgw_0_13) rfl (fun c_10 => ?_) (fun c_10 => ?_)
            ·
              have tc_10 : (x8_3.toInt : Int) = (-1) := congrArg Int32.toInt c_10
              refine lv_iload hx hb dX12_nextOf_102 (lvA1 hl) ?_
              refine lv_istore_n (lv' := [(3, .int (nI i8)), (6, .int (((Fn 3) a_4 + (Fn 4) a_4) + ((Fn 43) ((8 * (clr l0 i8)) + i8)))), (5, .int (nI i8)), (4, .int x8_4), (0, .ref (g 100)), (1, .int (-1)), (2, .int (nI l0))]) hx hb dX12_nextOf_104 rfl hl (ltb rfl) rfl (fun ls hl => ?_)
              refine lv_iload hx hb dX12_nextOf_105 (lvA1 hl) ?_
              refine lv_istore (lv' := [(4, .int (((Fn 3) a_4 + (Fn 4) a_4) + ((Fn 43) ((8 * (clr l0 i8)) + i8)))), (3, .int (nI i8)), (6, .int (((Fn 3) a_4 + (Fn 4) a_4) + ((Fn 43) ((8 * (clr l0 i8)) + i8)))), (5, .int (nI i8)), (0, .ref (g 100)), (1, .int (-1)), (2, .int (nI l0))]) hx hb dX12_nextOf_107 hl (ltb rfl) rfl (fun ls hl => ?_)
              refine lv_iinc (v := (nI (i8 + 1))) (lv' := [(5, .int (nI (i8 + 1))), (4, .int (((Fn 3) a_4 + (Fn 4) a_4) + ((Fn 43) ((8 * (clr l0 i8)) + i8)))), (3, .int (nI i8)), (6, .int (((Fn 3) a_4 + (Fn 4) a_4) + ((Fn 43) ((8 * (clr l0 i8)) + i8)))), (0, .ref (g 100)), (1, .int (-1)), (2, .int (nI l0))]) hx hb dX12_nextOf_109 hl (k := 3) rfl (nI_1 _) (ltb rfl) rfl (fun ls hl => ?_)
              refine lv_goto (tgt := 8) hx hb dX12_nextOf_112 rfl ?_
              exact ih8 (i8 + 1) (nI i8) (((Fn 3) a_4 + (Fn 4) a_4) + ((Fn 43) ((8 * (clr l0 i8)) + i8))) (by (first | omega | (have zz0 := Hid.u hi_cn; omega))) ⟨(by (first | omega | (have zz0 := Hid.u hi_cn; omega))), (by first | exact hx8_0.skip (by assumption) | exact NX.set (by assumption) | exact hx8_0.keep (by assumption))⟩ ls (lv_sub hl [0, 1, 2, 4, 5, 6] rfl)
            ·
              have tc_10 : (x8_3.toInt : Int) ≠ (-1) := fun q => c_10 (Int32.toInt_inj.mp q)
              refine lv_iload hx hb (oc_21 92 (aq_17 shX12_nextOf_75) ub_6) (lvA0 hl) ?_
              refine lv_iload hx hb (oc_21 94 (aq_19 shX12_nextOf_75) ub_4) (lvA2 hl) ?_
              refine lv_icmp_lt (tgt := 102) hx hb (oc_161 96 (aq_21 shX12_nextOf_75) sgw_0_6) rfl (fun c_11 => ?_) (fun c_11 => ?_)
              ·
                have tc_11 : ((((Fn 3) a_4 + (Fn 4) a_4) + ((Fn 43) ((8 * (clr l0 i8)) + i8))).toInt : Int) < x8_4.toInt := Int32.lt_iff_toInt_lt.mp c_11
                refine lv_iload hx hb dX12_nextOf_102 (lvA1 hl) ?_
                refine lv_istore_n (lv' := [(3, .int (nI i8)), (6, .int (((Fn 3) a_4 + (Fn 4) a_4) + ((Fn 43) ((8 * (clr l0 i8)) + i8)))), (5, .int (nI i8)), (4, .int x8_4), (0, .ref (g 100)), (1, .int (-1)), (2, .int (nI l0))]) hx hb dX12_nextOf_104 rfl hl (ltb rfl) rfl (fun ls hl => ?_)
                refine lv_iload hx hb dX12_nextOf_105 (lvA1 hl) ?_
                refine lv_istore (lv' := [(4, .int (((Fn 3) a_4 + (Fn 4) a_4) + ((Fn 43) ((8 * (clr l0 i8)) + i8)))), (3, .int (nI i8)), (6, .int (((Fn 3) a_4 + (Fn 4) a_4) + ((Fn 43) ((8 * (clr l0 i8)) + i8)))), (5, .int (nI i8)), (0, .ref (g 100)), (1, .int (-1)), (2, .int (nI l0))]) hx hb dX12_nextOf_107 hl (ltb rfl) rfl (fun ls hl => ?_)
                refine lv_iinc (v := (nI (i8 + 1))) (lv' := [(5, .int (nI (i8 + 1))), (4, .int (((Fn 3) a_4 + (Fn 4) a_4) + ((Fn 43) ((8 * (clr l0 i8)) + i8)))), (3, .int (nI i8)), (6, .int (((Fn 3) a_4 + (Fn 4) a_4) + ((Fn 43) ((8 * (clr l0 i8)) + i8)))), (0, .ref (g 100)), (1, .int (-1)), (2, .int (nI l0))]) hx hb dX12_nextOf_109 hl (k := 3) rfl (nI_1 _) (ltb rfl) rfl (fun ls hl => ?_)
                refine lv_goto (tgt := 8) hx hb dX12_nextOf_112 rfl ?_
                exact ih8 (i8 + 1) (nI i8) (((Fn 3) a_4 + (Fn 4) a_4) + ((Fn 43) ((8 * (clr l0 i8)) + i8))) (by (first | omega | (have zz0 := Hid.u hi_cn; omega))) ⟨(by (first | omega | (have zz0 := Hid.u hi_cn; omega))), (by first | exact hx8_0.skip (by assumption) | exact NX.set (by assumption) | exact hx8_0.keep (by assumption))⟩ ls (lv_sub hl [0, 1, 2, 4, 5, 6] rfl)
              ·
                have tc_11 : (x8_4.toInt : Int) ≤ (((Fn 3) a_4 + (Fn 4) a_4) + ((Fn 43) ((8 * (clr l0 i8)) + i8))).toInt := Int32.le_iff_toInt_le.mp (Int32.not_lt.mp c_11)
                refine lv_goto (tgt := 109) hx hb (oc_167 99 shX12_nextOf_99 sgw_0_10) rfl ?_
                refine lv_iinc (v := (nI (i8 + 1))) (lv' := [(5, .int (nI (i8 + 1))), (6, .int (((Fn 3) a_4 + (Fn 4) a_4) + ((Fn 43) ((8 * (clr l0 i8)) + i8)))), (4, .int x8_4), (3, .int x8_3), (0, .ref (g 100)), (1, .int (-1)), (2, .int (nI l0))]) hx hb dX12_nextOf_109 hl (k := 1) rfl (nI_1 _) (ltb rfl) rfl (fun ls hl => ?_)
                refine lv_goto (tgt := 8) hx hb dX12_nextOf_112 rfl ?_
                exact ih8 (i8 + 1) x8_3 x8_4 (by (first | omega | (have zz0 := Hid.u hi_cn; omega))) ⟨(by (first | omega | (have zz0 := Hid.u hi_cn; omega))), (by first | exact hx8_0.skip (by assumption) | exact NX.set (by assumption) | exact hx8_0.keep (by assumption))⟩ ls (lv_sub hl [0, 2, 3, 4, 5, 6] rfl)
    exact lp_8 _ 0 (-1) 0 (Nat.lt_succ_self _) ⟨(by (first | omega | (have zz0 := Hid.u hi_cn; omega))), NX.zero⟩ ls (lv_sub hl [0, 1, 2, 3, 4, 5] rfl)
  ·
    refine lv_iconst (v := (-1)) hx hb (oc_2 0 shX12_nextOf_0) kic_m1 ?_
    refine lv_istore_n (lv' := [(3, .int (-1)), (0, .ref (g 100)), (1, .int (nI f0)), (2, .int (nI l0))]) hx hb (oc_62 1 (aq_1 shX12_nextOf_0)) rfl hl (ltb rfl) rfl (fun ls hl => ?_)
    refine lv_iconst (v := 0) hx hb (oc_3 2 (aq_2 shX12_nextOf_0)) kic_0 ?_
    refine lv_istore (lv' := [(4, .int 0), (3, .int (-1)), (0, .ref (g 100)), (1, .int (nI f0)), (2, .int (nI l0))]) hx hb (oc_54 3 (aq_3 shX12_nextOf_0) ub_4) hl (ltb rfl) rfl (fun ls hl => ?_)
    refine lv_iconst (v := 0) hx hb (oc_3 5 (aq_5 shX12_nextOf_0)) kic_0 ?_
    refine lv_istore (lv' := [(5, .int 0), (4, .int 0), (3, .int (-1)), (0, .ref (g 100)), (1, .int (nI f0)), (2, .int (nI l0))]) hx hb (oc_54 6 (aq_6 shX12_nextOf_0) ub_5) hl (ltb rfl) rfl (fun ls hl => ?_)
    have lp_8 : ∀ (n : Nat) (i8 : Nat) (x8_3 : Int32) (x8_4 : Int32) , cn 44 - i8 < n → (i8 ≤ cn 44 ∧ (NX l0 x8_3 i8)) → ∀ ls : Array Slot, lv_has ls 7 [(5, .int (nI i8)), (4, .int x8_4), (3, .int x8_3), (0, .ref (g 100)), (1, .int (nI f0)), (2, .int (nI l0))] → W p l e (RM 2 0 0) s m ([.ref (g 100), .int (nI f0), .int (nI l0)]).toArray below meth c s.heap [] 0 0 (MQ below (va_Qi (fun (r : Int32) (u : (Nat → Nat) × (Nat → Int32) × (Nat → Nat → Int32)) => (fun r c2 I2 F2 => Fr [] [45] [] cn In Fn c2 I2 F2 ∧ IM c2 F2 ∧ (NX l0 r (cn 44))) r u.1 u.2.1 u.2.2) (fun (u : (Nat → Nat) × (Nat → Int32) × (Nat → Nat → Int32)) (t : State) => va_P D vwCl (wM cI cB cZ g u.1 u.2.1 u.2.2) t.heap ∧ va_D A (wM cI cB cZ g u.1 u.2.1 u.2.2)) A) ([.ref (g 100), .int (nI f0), .int (nI l0)]).toArray s 0 0 A) (F0 m 8 ls []) := by
      intro n8
      induction n8 with
      | zero => intros; (first | omega | (have zz0 := Hid.u hi_cn; omega))
      | succ n8 ih8 =>
        intro i8 x8_3 x8_4 hmu8 hinv8 ls hl
        obtain ⟨hr8, hx8_0⟩ := hinv8
        have ti8 : (nI i8).toInt = (i8 : Int) := nI_toInt (by (first | omega | (have zz0 := Hid.u hi_cn; omega)))
        refine lv_iload hx hb (oc_21 8 (aq_8 shX12_nextOf_0) ub_5) (lvA0 hl) ?_
        refine lv_aload_n hx hb (oc_42 10 (aq_10 shX12_nextOf_0)) rfl (lvA3 hl) ?_
        refine gM_364 S hK hP (v := .int (nI (cn 44))) rfl (oc_180 11 (aq_11 shX12_nextOf_0) uw_1_108) ?_
        have : (nI (cn 44)).toInt = (((cn 44) : Nat) : Int) := nI_toInt (by (first | omega | (have zz0 := Hid.u hi_cn; omega)))
        refine lv_icmp_ge (tgt := 115) hx hb (oc_162 14 (aq_14 shX12_nextOf_0) sgw_0_101) rfl (fun c_12 => ?_) (fun c_12 => ?_)
        ·
          have tc_12 : ((nI (cn 44)).toInt : Int) ≤ (nI i8).toInt := Int32.le_iff_toInt_le.mp c_12
          refine lv_aload_n hx hb (oc_42 115 (aq_16 shX12_nextOf_99)) rfl (lvA3 hl) ?_
          refine lv_iload_n hx hb (oc_29 116 (aq_17 shX12_nextOf_99)) rfl (lvA2 hl) ?_
          refine lv_iconst (v := (-1)) hx hb (oc_2 117 (aq_18 shX12_nextOf_99)) kic_m1 ?_
          refine lv_icmp_ne (tgt := 125) hx hb (oc_160 118 (aq_19 shX12_nextOf_99) sgw_0_7) rfl (fun c_13 => ?_) (fun c_13 => ?_)
          ·
            have tc_13 : (x8_3.toInt : Int) ≠ (-1) := fun q => c_13 (Int32.toInt_inj.mp q)
            refine lv_iload hx hb (oc_21 125 shX12_nextOf_125 ub_4) (lvA1 hl) ?_
            refine pM_374 S hK hP hD hS (In2 := (va_up In 45 x8_4)) rfl dX12_nextOf_127 (fun H locs hP hD hS => ?_)
            refine lv_iload_n hx hb dX12_nextOf_130 rfl (lvA2 hl) ?_
            exact W.iret (v := x8_3) hx hb hr (fun t ht hW => ⟨⟨x8_3, (cn, (va_up In 45 x8_4), Fn), rfl, ⟨(Fr.mo (Fr.i 45 Fr.rf) (sbl rfl) (sbl rfl) (sbl rfl)), hI, (by show NX l0 x8_3 (cn 44); rw [show cn 44 = i8 by (first | omega | (have zz0 := Hid.u hi_cn; omega))]; exact hx8_0)⟩, by rw [ht]; exact hP, hD⟩, hS.F ht⟩) hS.2.2 dX12_nextOf_131
          ·
            have tc_13 : (x8_3.toInt : Int) = (-1) := congrArg Int32.toInt c_13
            refine lv_iconst (v := 0) hx hb (oc_3 121 (aq_22 shX12_nextOf_99)) kic_0 ?_
            refine lv_goto (tgt := 127) hx hb (oc_167 122 (aq_23 shX12_nextOf_99) sgw_0_5) rfl ?_
            refine pM_374 S hK hP hD hS (In2 := (va_up In 45 0)) rfl dX12_nextOf_127 (fun H locs hP hD hS => ?_)
            refine lv_iload_n hx hb dX12_nextOf_130 rfl (lvA2 hl) ?_
            exact W.iret (v := x8_3) hx hb hr (fun t ht hW => ⟨⟨x8_3, (cn, (va_up In 45 0), Fn), rfl, ⟨(Fr.mo (Fr.i 45 Fr.rf) (sbl rfl) (sbl rfl) (sbl rfl)), hI, (by show NX l0 x8_3 (cn 44); rw [show cn 44 = i8 by (first | omega | (have zz0 := Hid.u hi_cn; omega))]; exact hx8_0)⟩, by rw [ht]; exact hP, hD⟩, hS.F ht⟩) hS.2.2 dX12_nextOf_131
        ·
          have tc_12 : ((nI i8).toInt : Int) < (nI (cn 44)).toInt := Int32.lt_iff_toInt_lt.mp (Int32.not_le.mp c_12)
          refine lv_iload_n hx hb (oc_28 17 (aq_17 shX12_nextOf_0)) rfl (lvA5 hl) ?_
          refine lv_iload hx hb (oc_21 18 (aq_18 shX12_nextOf_0) ub_5) (lvA0 hl) ?_
          refine lv_ishr hx hb (oc_122 20 (aq_20 shX12_nextOf_0)) ?_
          refine lv_iconst (v := 1) hx hb (oc_4 21 (aq_21 shX12_nextOf_0)) kic_1 ?_
          refine lv_iand hx hb (oc_126 22 (aq_22 shX12_nextOf_0)) ?_
          refine lv_topi (fun y_14 ey_14 => ?_)
          rcases bitc (l := l0) (b := i8) (by (first | omega | (have zz0 := Hid.u hi_cn; omega))) (by (first | omega | (have zz0 := Hid.u hi_cn; omega))) with ⟨hb_y_14, qy_14⟩ | ⟨hb_y_14, qy_14⟩
          ·
            obtain rfl : y_14 = 0 := ey_14.trans qy_14
            refine lv_if_ne (tgt := 29) hx hb dX12_nextOf_23 rfl (fun h => absurd h cq_eq_0_0) (fun _ => ?_)
            refine lv_goto (tgt := 109) hx hb (oc_167 26 shX12_nextOf_26 sgw_0_83) rfl ?_
            refine lv_iinc (v := (nI (i8 + 1))) (lv' := [(5, .int (nI (i8 + 1))), (4, .int x8_4), (3, .int x8_3), (0, .ref (g 100)), (1, .int (nI f0)), (2, .int (nI l0))]) hx hb dX12_nextOf_109 hl (k := 0) rfl (nI_1 _) (ltb rfl) rfl (fun ls hl => ?_)
            refine lv_goto (tgt := 8) hx hb dX12_nextOf_112 rfl ?_
            exact ih8 (i8 + 1) x8_3 x8_4 (by (first | omega | (have zz0 := Hid.u hi_cn; omega))) ⟨(by (first | omega | (have zz0 := Hid.u hi_cn; omega))), (by first | exact hx8_0.skip (by assumption) | exact NX.set (by assumption) | exact hx8_0.keep (by assumption))⟩ ls (lv_sub hl [0, 1, 2, 3, 4, 5] rfl)
          ·
            obtain rfl : y_14 = 1 := ey_14.trans qy_14
            refine lv_if_ne (tgt := 29) hx hb dX12_nextOf_23 rfl (fun _ => ?_) (fun h => absurd h cq_eq_1_0)
            refine lv_iload_n hx hb (oc_27 29 (aq_3 shX12_nextOf_26)) rfl (lvA4 hl) ?_
            refine lv_iconst (v := (-1)) hx hb (oc_2 30 (aq_4 shX12_nextOf_26)) kic_m1 ?_
            have : (nI f0).toInt = ((f0 : Nat) : Int) := nI_toInt (by (first | omega | (have zz0 := Hid.u hi_cn; omega)))
            refine lv_icmp_ne (tgt := 48) hx hb (oc_160 31 (aq_5 shX12_nextOf_26) sgw_0_17) rfl (fun c_15 => ?_) (fun c_15 => False.elim (by have tc_15 : ((nI f0).toInt : Int) = (-1) := congrArg Int32.toInt c_15; (first | omega | (have zz0 := Hid.u hi_cn; omega))))
            have tc_15 : ((nI f0).toInt : Int) ≠ (-1) := fun q => c_15 (Int32.toInt_inj.mp q)
            refine lv_aload_n hx hb (oc_42 48 (aq_22 shX12_nextOf_26)) rfl (lvA3 hl) ?_
            refine lv_aload_n hx hb (oc_42 49 (aq_23 shX12_nextOf_26)) rfl (lvA3 hl) ?_
            refine gM_101 S hK hP (v := .ref (g 42)) rfl (oc_180 50 shX12_nextOf_50 uw_0_101) ?_
            refine lv_iload_n hx hb (oc_27 53 (aq_3 shX12_nextOf_50)) rfl (lvA4 hl) ?_
            have kb_3 : f0 < 10 := by (first | omega | (have zz0 := Hid.u hi_cn; omega))
            obtain ⟨a_16, ha_16, ea_16⟩ := hAK f0 (by (first | omega | (have zz0 := Hid.u hi_cn; omega)))
            refine ldM_42 hx hb hK hP (x := (nI a_16)) (vp_in_nI kb_3 (ltb rfl)) (nI_clamp (Nat.lt_trans kb_3 (ltb rfl))) ea_16 (oc_46 54 (aq_4 shX12_nextOf_50)) ?_
            refine lv_aload_n hx hb (oc_42 55 (aq_5 shX12_nextOf_50)) rfl (lvA3 hl) ?_
            refine gM_101 S hK hP (v := .ref (g 42)) rfl (oc_180 56 (aq_6 shX12_nextOf_50) uw_0_101) ?_
            refine lv_iload hx hb (oc_21 59 (aq_9 shX12_nextOf_50) ub_5) (lvA0 hl) ?_
            have kb_4 : i8 < 10 := by (first | omega | (have zz0 := Hid.u hi_cn; omega))
            obtain ⟨a_17, ha_17, ea_17⟩ := hAK i8 (by (first | omega | (have zz0 := Hid.u hi_cn; omega)))
            refine ldM_42 hx hb hK hP (x := (nI a_17)) (vp_in_nI kb_4 (ltb rfl)) (nI_clamp (Nat.lt_trans kb_4 (ltb rfl))) ea_17 (oc_46 61 (aq_11 shX12_nextOf_50)) ?_
            refine vp_callSi (runV_ra (As := [.int (nI a_16), .int (nI a_17)]) (rest := []) S (q_way l D cI cB cZ g cn In Fn a_16 a_17 hI (by (first | omega | (have zz0 := Hid.u hi_cn; omega))) (by (first | omega | (have zz0 := Hid.u hi_cn; omega)))) kV_RX12_371 hK hP 0 rfl rfl rfl ⟨Nat.le_of_ble_eq_true rfl, Nat.le_of_ble_eq_true rfl⟩ ⟨Nat.le_of_ble_eq_true rfl, Nat.le_of_ble_eq_true rfl⟩ rfl hl.1 rfl (Nat.le_of_ble_eq_true rfl) (oc_182 62 (aq_12 shX12_nextOf_50) uw_1_115)) (fun r_18 h_19 => ?_)
            subst h_19
            refine lv_aload_n hx hb (oc_42 65 (aq_15 shX12_nextOf_50)) rfl (lvA3 hl) ?_
            refine gM_104 S hK hP (v := .ref (g 43)) rfl (oc_180 66 (aq_16 shX12_nextOf_50) uw_0_104) ?_
            refine lv_bipush (v := 8) hx hb (oc_16 69 (aq_19 shX12_nextOf_50) sgb_8) kbc_8 ?_
            refine lv_iload_n hx hb (oc_28 71 (aq_21 shX12_nextOf_50)) rfl (lvA5 hl) ?_
            refine lv_iconst (v := 1) hx hb (oc_4 72 (aq_22 shX12_nextOf_50)) kic_1 ?_
            refine lv_iload hx hb (oc_21 73 (aq_23 shX12_nextOf_50) ub_5) (lvA0 hl) ?_
            refine lv_ishl hx hb (oc_120 75 shX12_nextOf_75) ?_
            refine lv_iconst (v := (-1)) hx hb (oc_2 76 (aq_1 shX12_nextOf_75)) kic_m1 ?_
            refine lv_ixor hx hb (oc_130 77 (aq_2 shX12_nextOf_75)) ?_
            refine lv_iand hx hb (oc_126 78 (aq_3 shX12_nextOf_75)) ?_
            refine lv_topi (fun y_20 ey_20 => ?_)
            obtain rfl : y_20 = (nI (clr l0 i8)) := ey_20.trans (clrI (by (first | omega | (have zz0 := Hid.u hi_cn; omega))) (by (first | omega | (have zz0 := Hid.u hi_cn; omega))))
            have hcl := clr_le (l := l0) (a := i8)
            refine lv_imul hx hb (oc_104 79 (aq_4 shX12_nextOf_75)) ?_
            refine lv_topi (fun y_21 ey_21 => ?_)
            obtain rfl : y_21 = (nI (8 * (clr l0 i8))) := ey_21.trans (pk_mul 8 (clr l0 i8))
            refine lv_iload hx hb (oc_21 80 (aq_5 shX12_nextOf_75) ub_5) (lvA0 hl) ?_
            refine lv_iadd hx hb (oc_96 82 (aq_7 shX12_nextOf_75)) ?_
            refine lv_topi (fun y_22 ey_22 => ?_)
            obtain rfl : y_22 = (nI ((8 * (clr l0 i8)) + i8)) := ey_22.trans (nI_add (8 * (clr l0 i8)) i8)
            have kb_5 : ((8 * (clr l0 i8)) + i8) < 2048 := by (first | omega | (have zz0 := Hid.u hi_cn; omega))
            refine ldM_43 hx hb hK hP (x := ((Fn 43) ((8 * (clr l0 i8)) + i8))) (vp_in_nI kb_5 (ltb rfl)) (nI_clamp (Nat.lt_trans kb_5 (ltb rfl))) rfl (oc_46 83 (aq_8 shX12_nextOf_75)) ?_
            refine lv_iadd hx hb (oc_96 84 (aq_9 shX12_nextOf_75)) ?_
            refine lv_istore (lv' := [(6, .int ((apM ((Fn 3) a_16) ((Fn 4) a_16) ((Fn 3) a_17) ((Fn 4) a_17)) + ((Fn 43) ((8 * (clr l0 i8)) + i8)))), (5, .int (nI i8)), (4, .int x8_4), (3, .int x8_3), (0, .ref (g 100)), (1, .int (nI f0)), (2, .int (nI l0))]) hx hb (oc_54 85 (aq_10 shX12_nextOf_75) ub_6) hl (ltb rfl) rfl (fun ls hl => ?_)
            refine lv_iload_n hx hb (oc_29 87 (aq_12 shX12_nextOf_75)) rfl (lvA3 hl) ?_
            refine lv_iconst (v := (-1)) hx hb (oc_2 88 (aq_13 shX12_nextOf_75)) kic_m1 ?_
            refine lv_icmp_eq (tgt := 102) hx hb (oc_159 89 (aq_14 shX12_nextOf_75) sgw_0_13) rfl (fun c_23 => ?_) (fun c_23 => ?_)
            ·
              have tc_23 : (x8_3.toInt : Int) = (-1) := congrArg Int32.toInt c_23
              refine lv_iload hx hb dX12_nextOf_102 (lvA1 hl) ?_
              refine lv_istore_n (lv' := [(3, .int (nI i8)), (6, .int ((apM ((Fn 3) a_16) ((Fn 4) a_16) ((Fn 3) a_17) ((Fn 4) a_17)) + ((Fn 43) ((8 * (clr l0 i8)) + i8)))), (5, .int (nI i8)), (4, .int x8_4), (0, .ref (g 100)), (1, .int (nI f0)), (2, .int (nI l0))]) hx hb dX12_nextOf_104 rfl hl (ltb rfl) rfl (fun ls hl => ?_)
              refine lv_iload hx hb dX12_nextOf_105 (lvA1 hl) ?_
              refine lv_istore (lv' := [(4, .int ((apM ((Fn 3) a_16) ((Fn 4) a_16) ((Fn 3) a_17) ((Fn 4) a_17)) + ((Fn 43) ((8 * (clr l0 i8)) + i8)))), (3, .int (nI i8)), (6, .int ((apM ((Fn 3) a_16) ((Fn 4) a_16) ((Fn 3) a_17) ((Fn 4) a_17)) + ((Fn 43) ((8 * (clr l0 i8)) + i8)))), (5, .int (nI i8)), (0, .ref (g 100)), (1, .int (nI f0)), (2, .int (nI l0))]) hx hb dX12_nextOf_107 hl (ltb rfl) rfl (fun ls hl => ?_)
              refine lv_iinc (v := (nI (i8 + 1))) (lv' := [(5, .int (nI (i8 + 1))), (4, .int ((apM ((Fn 3) a_16) ((Fn 4) a_16) ((Fn 3) a_17) ((Fn 4) a_17)) + ((Fn 43) ((8 * (clr l0 i8)) + i8)))), (3, .int (nI i8)), (6, .int ((apM ((Fn 3) a_16) ((Fn 4) a_16) ((Fn 3) a_17) ((Fn 4) a_17)) + ((Fn 43) ((8 * (clr l0 i8)) + i8)))), (0, .ref (g 100)), (1, .int (nI f0)), (2, .int (nI l0))]) hx hb dX12_nextOf_109 hl (k := 3) rfl (nI_1 _) (ltb rfl) rfl (fun ls hl => ?_)
              refine lv_goto (tgt := 8) hx hb dX12_nextOf_112 rfl ?_
              exact ih8 (i8 + 1) (nI i8) ((apM ((Fn 3) a_16) ((Fn 4) a_16) ((Fn 3) a_17) ((Fn 4) a_17)) + ((Fn 43) ((8 * (clr l0 i8)) + i8))) (by (first | omega | (have zz0 := Hid.u hi_cn; omega))) ⟨(by (first | omega | (have zz0 := Hid.u hi_cn; omega))), (by first | exact hx8_0.skip (by assumption) | exact NX.set (by assumption) | exact hx8_0.keep (by assumption))⟩ ls (lv_sub hl [0, 1, 2, 4, 5, 6] rfl)
            ·
              have tc_23 : (x8_3.toInt : Int) ≠ (-1) := fun q => c_23 (Int32.toInt_inj.mp q)
              refine lv_iload hx hb (oc_21 92 (aq_17 shX12_nextOf_75) ub_6) (lvA0 hl) ?_
              refine lv_iload hx hb (oc_21 94 (aq_19 shX12_nextOf_75) ub_4) (lvA2 hl) ?_
              refine lv_icmp_lt (tgt := 102) hx hb (oc_161 96 (aq_21 shX12_nextOf_75) sgw_0_6) rfl (fun c_24 => ?_) (fun c_24 => ?_)
              ·
                have tc_24 : (((apM ((Fn 3) a_16) ((Fn 4) a_16) ((Fn 3) a_17) ((Fn 4) a_17)) + ((Fn 43) ((8 * (clr l0 i8)) + i8))).toInt : Int) < x8_4.toInt := Int32.lt_iff_toInt_lt.mp c_24
                refine lv_iload hx hb dX12_nextOf_102 (lvA1 hl) ?_
                refine lv_istore_n (lv' := [(3, .int (nI i8)), (6, .int ((apM ((Fn 3) a_16) ((Fn 4) a_16) ((Fn 3) a_17) ((Fn 4) a_17)) + ((Fn 43) ((8 * (clr l0 i8)) + i8)))), (5, .int (nI i8)), (4, .int x8_4), (0, .ref (g 100)), (1, .int (nI f0)), (2, .int (nI l0))]) hx hb dX12_nextOf_104 rfl hl (ltb rfl) rfl (fun ls hl => ?_)
                refine lv_iload hx hb dX12_nextOf_105 (lvA1 hl) ?_
                refine lv_istore (lv' := [(4, .int ((apM ((Fn 3) a_16) ((Fn 4) a_16) ((Fn 3) a_17) ((Fn 4) a_17)) + ((Fn 43) ((8 * (clr l0 i8)) + i8)))), (3, .int (nI i8)), (6, .int ((apM ((Fn 3) a_16) ((Fn 4) a_16) ((Fn 3) a_17) ((Fn 4) a_17)) + ((Fn 43) ((8 * (clr l0 i8)) + i8)))), (5, .int (nI i8)), (0, .ref (g 100)), (1, .int (nI f0)), (2, .int (nI l0))]) hx hb dX12_nextOf_107 hl (ltb rfl) rfl (fun ls hl => ?_)
                refine lv_iinc (v := (nI (i8 + 1))) (lv' := [(5, .int (nI (i8 + 1))), (4, .int ((apM ((Fn 3) a_16) ((Fn 4) a_16) ((Fn 3) a_17) ((Fn 4) a_17)) + ((Fn 43) ((8 * (clr l0 i8)) + i8)))), (3, .int (nI i8)), (6, .int ((apM ((Fn 3) a_16) ((Fn 4) a_16) ((Fn 3) a_17) ((Fn 4) a_17)) + ((Fn 43) ((8 * (clr l0 i8)) + i8)))), (0, .ref (g 100)), (1, .int (nI f0)), (2, .int (nI l0))]) hx hb dX12_nextOf_109 hl (k := 3) rfl (nI_1 _) (ltb rfl) rfl (fun ls hl => ?_)
                refine lv_goto (tgt := 8) hx hb dX12_nextOf_112 rfl ?_
                exact ih8 (i8 + 1) (nI i8) ((apM ((Fn 3) a_16) ((Fn 4) a_16) ((Fn 3) a_17) ((Fn 4) a_17)) + ((Fn 43) ((8 * (clr l0 i8)) + i8))) (by (first | omega | (have zz0 := Hid.u hi_cn; omega))) ⟨(by (first | omega | (have zz0 := Hid.u hi_cn; omega))), (by first | exact hx8_0.skip (by assumption) | exact NX.set (by assumption) | exact hx8_0.keep (by assumption))⟩ ls (lv_sub hl [0, 1, 2, 4, 5, 6] rfl)
              ·
                have tc_24 : (x8_4.toInt : Int) ≤ ((apM ((Fn 3) a_16) ((Fn 4) a_16) ((Fn 3) a_17) ((Fn 4) a_17)) + ((Fn 43) ((8 * (clr l0 i8)) + i8))).toInt := Int32.le_iff_toInt_le.mp (Int32.not_lt.mp c_24)
                refine lv_goto (tgt := 109) hx hb (oc_167 99 shX12_nextOf_99 sgw_0_10) rfl ?_
                refine lv_iinc (v := (nI (i8 + 1))) (lv' := [(5, .int (nI (i8 + 1))), (6, .int ((apM ((Fn 3) a_16) ((Fn 4) a_16) ((Fn 3) a_17) ((Fn 4) a_17)) + ((Fn 43) ((8 * (clr l0 i8)) + i8)))), (4, .int x8_4), (3, .int x8_3), (0, .ref (g 100)), (1, .int (nI f0)), (2, .int (nI l0))]) hx hb dX12_nextOf_109 hl (k := 1) rfl (nI_1 _) (ltb rfl) rfl (fun ls hl => ?_)
                refine lv_goto (tgt := 8) hx hb dX12_nextOf_112 rfl ?_
                exact ih8 (i8 + 1) x8_3 x8_4 (by (first | omega | (have zz0 := Hid.u hi_cn; omega))) ⟨(by (first | omega | (have zz0 := Hid.u hi_cn; omega))), (by first | exact hx8_0.skip (by assumption) | exact NX.set (by assumption) | exact hx8_0.keep (by assumption))⟩ ls (lv_sub hl [0, 2, 3, 4, 5, 6] rfl)
    exact lp_8 _ 0 (-1) 0 (Nat.lt_succ_self _) ⟨(by (first | omega | (have zz0 := Hid.u hi_cn; omega))), NX.zero⟩ ls (lv_sub hl [0, 1, 2, 3, 4, 5] rfl)
set_option maxRecDepth 100000 in
set_option maxHeartbeats 4000000 in
theorem q_lays (l : Launch) (D : va_G) (cI cB cZ : ClassId) (g : Nat → Nat) (cn : Nat → Nat) (In : Nat → Int32) (Fn : Nat → Nat → Int32) (v0 v1 : Int32) (w0 : Nat) (sz : Nat) (hI : IM cn Fn) (hw0 : w0 ≤ 8) : Met l yX12_lays (CWS yX12_lays cX12_lays 5 (some .boolean)) (RM 3 0 0) (PBw [.ref (g 100), .int v0, .int v1, .int (nI w0)] D cI cB cZ (wM cI cB cZ g cn In Fn) sz) (va_Qi (fun (r : Int32) (u : (Nat → Nat) × (Nat → Int32) × (Nat → Nat → Int32)) => (fun r c2 I2 F2 => Fr [44] [] [42, 43] cn In Fn c2 I2 F2 ∧ IM c2 F2 ∧ (r = 0 ∨ (r = 1 ∧ c2 44 ≤ 8 ∧ c2 44 ≤ w0 ∧ AK c2 F2))) r u.1 u.2.1 u.2.2) (fun (u : (Nat → Nat) × (Nat → Int32) × (Nat → Nat → Int32)) (t : State) => va_P D vwCl (wM cI cB cZ g u.1 u.2.1 u.2.2) t.heap ∧ va_D (va_A (wM cI cB cZ g cn In Fn) sz) (wM cI cB cZ g u.1 u.2.1 u.2.2)) (va_A (wM cI cB cZ g cn In Fn) sz)) 0 0 (va_A (wM cI cB cZ g cn In Fn) sz) := by
  refine en_w (fun A => (va_Qi (fun (r : Int32) (u : (Nat → Nat) × (Nat → Int32) × (Nat → Nat → Int32)) => (fun (r : Int32) (c2 : Nat → Nat) (I2 : Nat → Int32) (F2 : Nat → Nat → Int32) => Fr [44] [] [42, 43] cn In Fn c2 I2 F2 ∧ IM c2 F2 ∧ (r = 0 ∨ (r = 1 ∧ c2 44 ≤ 8 ∧ c2 44 ≤ w0 ∧ AK c2 F2))) r u.1 u.2.1 u.2.2) (fun (u : (Nat → Nat) × (Nat → Int32) × (Nat → Nat → Int32)) (t : State) => va_P D vwCl (wM cI cB cZ g u.1 u.2.1 u.2.2) t.heap ∧ va_D A (wM cI cB cZ g u.1 u.2.1 u.2.2)) A)) rfl rfl pn_RX12 (Nat.le_of_ble_eq_true rfl) (fun p e s m below meth c A hx hb hml hown S hr hlocks hnm hA hP hK hD hS ls hl => ?_)
  have hl : lv_has ls 5 [(0, .ref (g 100)), (1, .int v0), (2, .int v1), (3, .int (nI w0))] := hl
  have hi_cn : Hid (CB cn) := hI.b
  refine lv_aload_n hx hb (oc_42 0 shX12_lays_0) rfl (lvA0 hl) ?_
  refine lv_iconst (v := 0) hx hb (oc_3 1 (aq_1 shX12_lays_0)) kic_0 ?_
  refine pM_364 S hK hP hD hS (a := 0) (cn2 := (va_up cn 44 0)) rfl rfl (oc_181 2 (aq_2 shX12_lays_0) uw_1_108) (fun H locs hP hD hS => ?_)
  refine lv_iconst (v := 0) hx hb (oc_3 5 (aq_5 shX12_lays_0)) kic_0 ?_
  refine lv_istore (lv' := [(4, .int 0), (0, .ref (g 100)), (1, .int v0), (2, .int v1), (3, .int (nI w0))]) hx hb (oc_54 6 (aq_6 shX12_lays_0) ub_4) hl (ltb rfl) rfl (fun ls hl => ?_)
  have lp_8 : ∀ (n : Nat) (i8 : Nat) (c8 : Nat → Nat) (F8 : Nat → Nat → Int32) (H : Heap) (locs : List Loc) , cn 1 - i8 < n → (i8 ≤ cn 1 ∧ Fr [44] [] [42, 43] cn In Fn c8 In F8 ∧ IM c8 F8 ∧ (c8 44 ≤ i8) ∧ (AK c8 F8)) → va_P D vwCl (wM cI cB cZ g c8 In F8) H → va_D A (wM cI cB cZ g c8 In F8) → va_S A s.heap H locs → ∀ ls : Array Slot, lv_has ls 5 [(4, .int (nI i8)), (0, .ref (g 100)), (1, .int v0), (2, .int v1), (3, .int (nI w0))] → W p l e (RM 3 0 0) s m ([.ref (g 100), .int v0, .int v1, .int (nI w0)]).toArray below meth c H locs 0 0 (MQ below (va_Qi (fun (r : Int32) (u : (Nat → Nat) × (Nat → Int32) × (Nat → Nat → Int32)) => (fun r c2 I2 F2 => Fr [44] [] [42, 43] cn In Fn c2 I2 F2 ∧ IM c2 F2 ∧ (r = 0 ∨ (r = 1 ∧ c2 44 ≤ 8 ∧ c2 44 ≤ w0 ∧ AK c2 F2))) r u.1 u.2.1 u.2.2) (fun (u : (Nat → Nat) × (Nat → Int32) × (Nat → Nat → Int32)) (t : State) => va_P D vwCl (wM cI cB cZ g u.1 u.2.1 u.2.2) t.heap ∧ va_D A (wM cI cB cZ g u.1 u.2.1 u.2.2)) A) ([.ref (g 100), .int v0, .int v1, .int (nI w0)]).toArray s 0 0 A) (F0 m 8 ls []) := by
    intro n8
    induction n8 with
    | zero => intros; (first | omega | (have zz0 := Hid.u hi_cn; omega))
    | succ n8 ih8 =>
      intro i8 c8 F8 H locs hmu8 hinv8 hP hD hS ls hl
      obtain ⟨hr8, hfr8, hI8, hx8_0, hx8_1⟩ := hinv8
      have ti8 : (nI i8).toInt = (i8 : Int) := nI_toInt (by (first | omega | (have zz0 := Hid.u hi_cn; omega)))
      have hi_c8 : Hid (CB c8) := hI8.b
      have hq_c8 := Hid.i (frq_44_0_1_2_46_57_58_62_63_75_83 hfr8)
      refine lv_iload hx hb (oc_21 8 (aq_8 shX12_lays_0) ub_4) (lvA0 hl) ?_
      refine lv_aload_n hx hb (oc_42 10 (aq_10 shX12_lays_0)) rfl (lvA1 hl) ?_
      refine gM_204 S hK hP (v := .int (nI (c8 1))) rfl (oc_180 11 (aq_11 shX12_lays_0) uw_0_204) ?_
      have : (nI (c8 1)).toInt = (((c8 1) : Nat) : Int) := nI_toInt (by (first | omega | (have zz0 := Hid.u hi_c8; have zz1 := Hid.u hi_cn; have zz2 := Hid.u hq_c8; omega)))
      refine lv_icmp_ge (tgt := 71) hx hb (oc_162 14 (aq_14 shX12_lays_0) sgw_0_57) rfl (fun c_1 => ?_) (fun c_1 => ?_)
      ·
        have tc_1 : ((nI (c8 1)).toInt : Int) ≤ (nI i8).toInt := Int32.le_iff_toInt_le.mp c_1
        refine lv_aload_n hx hb (oc_42 71 (aq_23 shX12_lays_48)) rfl (lvA1 hl) ?_
        refine gM_364 S hK hP (v := .int (nI (c8 44))) rfl (oc_180 72 shX12_lays_72 uw_1_108) ?_
        refine lv_iload_n hx hb (oc_29 75 (aq_3 shX12_lays_72)) rfl (lvA4 hl) ?_
        have : (nI (c8 44)).toInt = (((c8 44) : Nat) : Int) := nI_toInt (by (first | omega | (have zz0 := Hid.u hi_c8; have zz1 := Hid.u hi_cn; have zz2 := Hid.u hq_c8; omega)))
        have : (nI w0).toInt = ((w0 : Nat) : Int) := nI_toInt (by (first | omega | (have zz0 := Hid.u hi_c8; have zz1 := Hid.u hi_cn; have zz2 := Hid.u hq_c8; omega)))
        refine lv_icmp_le (tgt := 81) hx hb (oc_164 76 (aq_4 shX12_lays_72) sgw_0_5) rfl (fun c_2 => ?_) (fun c_2 => ?_)
        ·
          have tc_2 : ((nI (c8 44)).toInt : Int) ≤ (nI w0).toInt := Int32.le_iff_toInt_le.mp c_2
          refine lv_aload_n hx hb (oc_42 81 (aq_9 shX12_lays_72)) rfl (lvA1 hl) ?_
          have hFc := free_all hD hS hA
          refine va_callv (runV_a (As := []) (rest := []) S (q_goes l D cI cB cZ g c8 In F8  H.size hI8 (by (first | omega | (have zz0 := Hid.u hi_c8; have zz1 := Hid.u hi_cn; have zz2 := Hid.u hq_c8; omega))) hx8_1) kV_RX12_377 hK hP hD 0 rfl rfl rfl ⟨Nat.le_of_ble_eq_true rfl, Nat.le_of_ble_eq_true rfl⟩ ⟨Nat.le_of_ble_eq_true rfl, Nat.le_of_ble_eq_true rfl⟩ rfl hl.1 rfl (Nat.le_of_ble_eq_true rfl) (oc_182 82 (aq_10 shX12_lays_72) uw_1_121)) hS (fun q _ h => hFc q h) hFc (fun u t H1 locs ht hvm wh_4 hB hz1 hk1 hS => ?_)
          obtain ⟨cn4, In4, Fn4⟩ := u
          obtain ⟨hP1, hD1⟩ := hB
          rw [ht] at hP1
          have hP : va_P D vwCl (wM cI cB cZ g cn4 In4 Fn4) H1 := hP1
          have hD : va_D A (wM cI cB cZ g cn4 In4 Fn4) := hD1.weaken (fun _ _ _ h => hFc _ h)
          generalize H1 = H at hP hS ⊢
          have vh_4 : (fun c2 I2 F2 => Fr [] [] [43] c8 In F8 c2 I2 F2 ∧ IM c2 F2 ∧ (True)) cn4 In4 Fn4 := wh_4
          obtain ⟨hfc4, hIn4, h_4⟩ := vh_4
          obtain rfl : c8 = cn4 := (funext (fun k => hfc4.1 k List.not_mem_nil)).symm
          obtain rfl : In = In4 := (funext (fun k => hfc4.2.1 k List.not_mem_nil)).symm
          have hf4 : Fr [44] [] [42, 43] cn In Fn c8 In Fn4 := Fr.mo (Fr.tr hfr8 hfc4) (sbl rfl) (sbl rfl) (sbl rfl)
          have hi_c8 : Hid (CB c8) := hIn4.b
          have hq_c8 := Hid.i (frq_44_0_1_2_46_57_58_62_63_75_83 hf4)
          have hAK4 : AK c8 Fn4 := AK.fr hx8_1 hfc4 (by decide) (by decide)
          refine lv_iconst (v := 1) hx hb (oc_4 85 (aq_13 shX12_lays_72)) kic_1 ?_
          exact W.zret (v := 1) hx hb hr rfl (fun t ht hW => ⟨⟨1, (c8, In, Fn4), rfl, ⟨(Fr.mo hf4 (sbl rfl) (sbl rfl) (sbl rfl)), hIn4, (by show 1 = 0 ∨ (1 = 1 ∧ c8 44 ≤ 8 ∧ c8 44 ≤ w0 ∧ AK c8 Fn4); exact Or.inr ⟨rfl, by (first | omega | (have zz0 := Hid.u hi_c8; have zz1 := Hid.u hi_cn; have zz2 := Hid.u hq_c8; omega)), by (first | omega | (have zz0 := Hid.u hi_c8; have zz1 := Hid.u hi_cn; have zz2 := Hid.u hq_c8; omega)), hAK4⟩)⟩, by rw [ht]; exact hP, hD⟩, hS.F ht⟩) hS.2.2 (oc_172 86 (aq_14 shX12_lays_72))
        ·
          have tc_2 : ((nI w0).toInt : Int) < (nI (c8 44)).toInt := Int32.lt_iff_toInt_lt.mp (Int32.not_le.mp c_2)
          refine lv_iconst (v := 0) hx hb (oc_3 79 (aq_7 shX12_lays_72)) kic_0 ?_
          exact W.zret (v := 0) hx hb hr rfl (fun t ht hW => ⟨⟨0, (c8, In, F8), rfl, ⟨(Fr.mo hfr8 (sbl rfl) (sbl rfl) (sbl rfl)), hI8, (by show 0 = 0 ∨ (0 = 1 ∧ c8 44 ≤ 8 ∧ c8 44 ≤ w0 ∧ AK c8 F8); exact Or.inl rfl)⟩, by rw [ht]; exact hP, hD⟩, hS.F ht⟩) hS.2.2 (oc_172 80 (aq_8 shX12_lays_72))
      ·
        have tc_1 : ((nI i8).toInt : Int) < (nI (c8 1)).toInt := Int32.lt_iff_toInt_lt.mp (Int32.not_le.mp c_1)
        refine lv_aload_n hx hb (oc_42 17 (aq_17 shX12_lays_0)) rfl (lvA1 hl) ?_
        refine gM_22 S hK hP (v := .ref (g 7)) rfl (oc_180 18 (aq_18 shX12_lays_0) uw_0_22) ?_
        refine lv_iload hx hb (oc_21 21 (aq_21 shX12_lays_0) ub_4) (lvA0 hl) ?_
        have kb_1 : i8 < 10 := by (first | omega | (have zz0 := Hid.u hi_c8; have zz1 := Hid.u hi_cn; have zz2 := Hid.u hq_c8; omega))
        have b_5 := hI8.e7 i8 (by (first | omega | (have zz0 := Hid.u hi_c8; have zz1 := Hid.u hi_cn; have zz2 := Hid.u hq_c8; omega)))
        refine ldM_7 hx hb hK hP (x := ((F8 7) i8)) (vp_in_nI kb_1 (ltb rfl)) (nI_clamp (Nat.lt_trans kb_1 (ltb rfl))) rfl (oc_46 23 (aq_23 shX12_lays_0)) ?_
        refine lv_iload_n hx hb (oc_27 24 shX12_lays_24) rfl (lvA2 hl) ?_
        refine lv_icmp_le (tgt := 30) hx hb (oc_164 25 (aq_1 shX12_lays_24) sgw_0_5) rfl (fun c_6 => ?_) (fun c_6 => ?_)
        ·
          have tc_6 : (((F8 7) i8).toInt : Int) ≤ v0.toInt := Int32.le_iff_toInt_le.mp c_6
          refine lv_aload_n hx hb (oc_42 30 (aq_6 shX12_lays_24)) rfl (lvA1 hl) ?_
          refine lv_iload hx hb (oc_21 31 (aq_7 shX12_lays_24) ub_4) (lvA0 hl) ?_
          refine lv_iload_n hx hb (oc_27 33 (aq_9 shX12_lays_24)) rfl (lvA2 hl) ?_
          refine vp_callSi (runV_ra (As := [.int (nI i8), .int v0]) (rest := []) S (q_likelyOn l D cI cB cZ g c8 In F8 i8 v0 hI8 (by (first | omega | (have zz0 := Hid.u hi_c8; have zz1 := Hid.u hi_cn; have zz2 := Hid.u hq_c8; omega)))) kV_RX12_222 hK hP 0 rfl rfl rfl ⟨Nat.le_of_ble_eq_true rfl, Nat.le_of_ble_eq_true rfl⟩ ⟨Nat.le_of_ble_eq_true rfl, Nat.le_of_ble_eq_true rfl⟩ rfl hl.1 rfl (Nat.le_of_ble_eq_true rfl) (oc_182 34 (aq_10 shX12_lays_24) uw_0_222)) (fun r_7 h_8 => ?_)
          subst h_8
          refine lv_iload_n hx hb (oc_28 37 (aq_13 shX12_lays_24)) rfl (lvA3 hl) ?_
          refine lv_icmp_ge (tgt := 44) hx hb (oc_162 38 (aq_14 shX12_lays_24) sgw_0_6) rfl (fun c_9 => ?_) (fun c_9 => ?_)
          ·
            have tc_9 : (v1.toInt : Int) ≤ (lkM F8 i8 v0).toInt := Int32.le_iff_toInt_le.mp c_9
            refine lv_aload_n hx hb (oc_42 44 (aq_20 shX12_lays_24)) rfl (lvA1 hl) ?_
            refine gM_101 S hK hP (v := .ref (g 42)) rfl (oc_180 45 (aq_21 shX12_lays_24) uw_0_101) ?_
            refine lv_aload_n hx hb (oc_42 48 shX12_lays_48) rfl (lvA1 hl) ?_
            refine gM_364 S hK hP (v := .int (nI (c8 44))) rfl (oc_180 49 (aq_1 shX12_lays_48) uw_1_108) ?_
            refine lv_iload hx hb (oc_21 52 (aq_4 shX12_lays_48) ub_4) (lvA0 hl) ?_
            have kb_2 : (c8 44) < 10 := by (first | omega | (have zz0 := Hid.u hi_c8; have zz1 := Hid.u hi_cn; have zz2 := Hid.u hq_c8; omega))
            refine stM_42 hx hb hK hP hD hS (Fn2 := (va_up F8 42 (upd (F8 42) (c8 44) (nI i8)))) (vp_in_nI kb_2 (ltb rfl)) (nI_clamp (Nat.lt_trans kb_2 (ltb rfl))) rfl (oc_79 54 (aq_6 shX12_lays_48)) (fun H locs hP hD hS => ?_)
            refine lv_aload_n hx hb (oc_42 55 (aq_7 shX12_lays_48)) rfl (lvA1 hl) ?_
            refine lv_aload_n hx hb (oc_42 56 (aq_8 shX12_lays_48)) rfl (lvA1 hl) ?_
            refine gM_364 S hK hP (v := .int (nI (c8 44))) rfl (oc_180 57 (aq_9 shX12_lays_48) uw_1_108) ?_
            refine lv_iconst (v := 1) hx hb (oc_4 60 (aq_12 shX12_lays_48)) kic_1 ?_
            refine lv_iadd hx hb (oc_96 61 (aq_13 shX12_lays_48)) ?_
            refine lv_topi (fun y_10 ey_10 => ?_)
            obtain rfl : y_10 = (nI ((c8 44) + 1)) := ey_10.trans (nI_add (c8 44) 1)
            refine pM_364 S hK hP hD hS (a := ((c8 44) + 1)) (cn2 := (va_up c8 44 ((c8 44) + 1))) rfl rfl (oc_181 62 (aq_14 shX12_lays_48) uw_1_108) (fun H locs hP hD hS => ?_)
            refine lv_iinc (v := (nI (i8 + 1))) (lv' := [(4, .int (nI (i8 + 1))), (0, .ref (g 100)), (1, .int v0), (2, .int v1), (3, .int (nI w0))]) hx hb (oc_132 65 (aq_17 shX12_lays_48) ub_4 sgb_1) hl (k := 0) rfl (nI_1 _) (ltb rfl) rfl (fun ls hl => ?_)
            refine lv_goto (tgt := 8) hx hb (oc_167 68 (aq_20 shX12_lays_48) sgw_255_196) rfl ?_
            exact ih8 (i8 + 1) (va_up c8 44 ((c8 44) + 1)) (va_up F8 42 (upd (F8 42) (c8 44) (nI i8))) _ _ (by (first | omega | (have zz0 := Hid.u hi_c8; have zz1 := Hid.u hi_cn; have zz2 := Hid.u hq_c8; omega))) ⟨(by (first | omega | (have zz0 := Hid.u hi_c8; have zz1 := Hid.u hi_cn; have zz2 := Hid.u hq_c8; omega))), (Fr.mo (Fr.f 42 (Fr.c 44 hfr8)) (sbl rfl) (sbl rfl) (sbl rfl)), (IM.fr (In := In) hI8 (Fr.f 42 (Fr.c 44 Fr.rf)) (by decide) (by decide)), (by show (va_up c8 44 ((c8 44) + 1)) 44 ≤ i8 + 1; rw [va_up_self]; (first | omega | (have zz0 := Hid.u hi_c8; have zz1 := Hid.u hi_cn; have zz2 := Hid.u hq_c8; omega))), (AK.push hx8_1 (by (first | omega | (have zz0 := Hid.u hi_c8; have zz1 := Hid.u hi_cn; have zz2 := Hid.u hq_c8; omega))))⟩ hP hD hS ls (lv_sub hl [0, 1, 2, 3, 4] rfl)
          ·
            have tc_9 : ((lkM F8 i8 v0).toInt : Int) < v1.toInt := Int32.lt_iff_toInt_lt.mp (Int32.not_le.mp c_9)
            refine lv_goto (tgt := 65) hx hb (oc_167 41 (aq_17 shX12_lays_24) sgw_0_24) rfl ?_
            refine lv_iinc (v := (nI (i8 + 1))) (lv' := [(4, .int (nI (i8 + 1))), (0, .ref (g 100)), (1, .int v0), (2, .int v1), (3, .int (nI w0))]) hx hb (oc_132 65 (aq_17 shX12_lays_48) ub_4 sgb_1) hl (k := 0) rfl (nI_1 _) (ltb rfl) rfl (fun ls hl => ?_)
            refine lv_goto (tgt := 8) hx hb (oc_167 68 (aq_20 shX12_lays_48) sgw_255_196) rfl ?_
            exact ih8 (i8 + 1) c8 F8 _ _ (by (first | omega | (have zz0 := Hid.u hi_c8; have zz1 := Hid.u hi_cn; have zz2 := Hid.u hq_c8; omega))) ⟨(by (first | omega | (have zz0 := Hid.u hi_c8; have zz1 := Hid.u hi_cn; have zz2 := Hid.u hq_c8; omega))), (Fr.mo hfr8 (sbl rfl) (sbl rfl) (sbl rfl)), hI8, (by show c8 44 ≤ i8 + 1; (first | omega | (have zz0 := Hid.u hi_c8; have zz1 := Hid.u hi_cn; have zz2 := Hid.u hq_c8; omega))), hx8_1⟩ hP hD hS ls (lv_sub hl [0, 1, 2, 3, 4] rfl)
        ·
          have tc_6 : (v0.toInt : Int) < ((F8 7) i8).toInt := Int32.lt_iff_toInt_lt.mp (Int32.not_le.mp c_6)
          refine lv_iconst (v := 0) hx hb (oc_3 28 (aq_4 shX12_lays_24)) kic_0 ?_
          exact W.zret (v := 0) hx hb hr rfl (fun t ht hW => ⟨⟨0, (c8, In, F8), rfl, ⟨(Fr.mo hfr8 (sbl rfl) (sbl rfl) (sbl rfl)), hI8, (by show 0 = 0 ∨ (0 = 1 ∧ c8 44 ≤ 8 ∧ c8 44 ≤ w0 ∧ AK c8 F8); exact Or.inl rfl)⟩, by rw [ht]; exact hP, hD⟩, hS.F ht⟩) hS.2.2 (oc_172 29 (aq_5 shX12_lays_24))
  exact lp_8 _ 0 (va_up cn 44 0) Fn _ _ (Nat.lt_succ_self _) ⟨(by (first | omega | (have zz0 := Hid.u hi_cn; omega))), (Fr.mo (Fr.c 44 Fr.rf) (sbl rfl) (sbl rfl) (sbl rfl)), (IM.fr (In := In) hI (Fr.c 44 Fr.rf) (by decide) (by decide)), (Nat.zero_le _), AK.zero⟩ hP hD hS ls (lv_sub hl [0, 1, 2, 3, 4] rfl)
set_option maxRecDepth 100000 in
set_option maxHeartbeats 4000000 in
theorem q_roundTo (l : Launch) (D : va_G) (cI cB cZ : ClassId) (g : Nat → Nat) (cn : Nat → Nat) (In : Nat → Int32) (Fn : Nat → Nat → Int32) (l0 : Nat) (hI : IM cn Fn) (h44 : cn 44 ≤ 8) (hAK : AK cn Fn) (hl0 : l0 ≤ 255) : Met l yX12_roundTo (CWS yX12_roundTo cX12_roundTo 5 (some .int)) (RM 1 0 0) (PBr [.ref (g 100), .int (nI l0)] D cI cB cZ (wM cI cB cZ g cn In Fn)) (vp_Si (fun _ => True)) 0 0 (fun _ => False) := by
  refine en_r rfl pn_RX12 (Nat.le_of_ble_eq_true rfl) (fun p e s m below meth c hx hb hml hown S hr hlocks hnm hP hK hS ls hl => ?_)
  have hl : lv_has ls 5 [(0, .ref (g 100)), (1, .int (nI l0))] := hl
  have hi_cn : Hid (CB cn) := hI.b
  refine lv_iload_n hx hb (oc_27 0 shX12_roundTo_0) rfl (lvA1 hl) ?_
  have : (nI l0).toInt = ((l0 : Nat) : Int) := nI_toInt (by (first | omega | (have zz0 := Hid.u hi_cn; omega)))
  refine lv_if_ne (tgt := 8) hx hb (oc_154 1 (aq_1 shX12_roundTo_0) sgw_0_7) rfl (fun c_1 => ?_) (fun c_1 => ?_)
  ·
    have tc_1 : ((nI l0).toInt : Int) ≠ 0 := fun q => c_1 (Int32.toInt_inj.mp q)
    refine lv_ldcw (v := 1000000) hx hb hown (S.2.2.2.2 _ (wk8_10 9 rfl rfl)) (oc_19 8 (aq_8 shX12_roundTo_0) uw_1_114) ?_
    refine lv_istore_n (lv' := [(2, .int 1000000), (0, .ref (g 100)), (1, .int (nI l0))]) hx hb (oc_61 11 (aq_11 shX12_roundTo_0)) rfl hl (ltb rfl) rfl (fun ls hl => ?_)
    refine lv_iconst (v := 0) hx hb (oc_3 12 (aq_12 shX12_roundTo_0)) kic_0 ?_
    refine lv_istore_n (lv' := [(3, .int 0), (2, .int 1000000), (0, .ref (g 100)), (1, .int (nI l0))]) hx hb (oc_62 13 (aq_13 shX12_roundTo_0)) rfl hl (ltb rfl) rfl (fun ls hl => ?_)
    have lp_14 : ∀ (n : Nat) (i14 : Nat) (x14_2 : Int32) , cn 44 - i14 < n → (i14 ≤ cn 44) → ∀ ls : Array Slot, lv_has ls 5 [(3, .int (nI i14)), (2, .int x14_2), (0, .ref (g 100)), (1, .int (nI l0))] → W p l e (RM 1 0 0) s m ([.ref (g 100), .int (nI l0)]).toArray below meth c s.heap [] 0 0 (MQ below (vp_Si (fun _ => True)) ([.ref (g 100), .int (nI l0)]).toArray s 0 0 (fun _ => False)) (F0 m 14 ls []) := by
      intro n14
      induction n14 with
      | zero => intros; (first | omega | (have zz0 := Hid.u hi_cn; omega))
      | succ n14 ih14 =>
        intro i14 x14_2 hmu14 hinv14 ls hl
        have hr14 := hinv14
        have ti14 : (nI i14).toInt = (i14 : Int) := nI_toInt (by (first | omega | (have zz0 := Hid.u hi_cn; omega)))
        refine lv_iload_n hx hb (oc_29 14 (aq_14 shX12_roundTo_0)) rfl (lvA0 hl) ?_
        refine lv_aload_n hx hb (oc_42 15 (aq_15 shX12_roundTo_0)) rfl (lvA2 hl) ?_
        refine gM_364 S hK hP (v := .int (nI (cn 44))) rfl (oc_180 16 (aq_16 shX12_roundTo_0) uw_1_108) ?_
        have : (nI (cn 44)).toInt = (((cn 44) : Nat) : Int) := nI_toInt (by (first | omega | (have zz0 := Hid.u hi_cn; omega)))
        refine lv_icmp_ge (tgt := 82) hx hb (oc_162 19 (aq_19 shX12_roundTo_0) sgw_0_63) rfl (fun c_2 => ?_) (fun c_2 => ?_)
        ·
          have tc_2 : ((nI (cn 44)).toInt : Int) ≤ (nI i14).toInt := Int32.le_iff_toInt_le.mp c_2
          refine lv_iload_n hx hb (oc_28 82 (aq_8 shX12_roundTo_74)) rfl (lvA1 hl) ?_
          exact W.iret (v := x14_2) hx hb hr (fun t ht hW => ⟨x14_2, rfl, trivial, ht⟩) (fun _ h => absurd h List.not_mem_nil) (oc_172 83 (aq_9 shX12_roundTo_74))
        ·
          have tc_2 : ((nI i14).toInt : Int) < (nI (cn 44)).toInt := Int32.lt_iff_toInt_lt.mp (Int32.not_le.mp c_2)
          refine lv_iload_n hx hb (oc_27 22 (aq_22 shX12_roundTo_0)) rfl (lvA3 hl) ?_
          refine lv_iload_n hx hb (oc_29 23 (aq_23 shX12_roundTo_0)) rfl (lvA0 hl) ?_
          refine lv_ishr hx hb (oc_122 24 shX12_roundTo_24) ?_
          refine lv_iconst (v := 1) hx hb (oc_4 25 (aq_1 shX12_roundTo_24)) kic_1 ?_
          refine lv_iand hx hb (oc_126 26 (aq_2 shX12_roundTo_24)) ?_
          refine lv_topi (fun y_3 ey_3 => ?_)
          rcases bitc (l := l0) (b := i14) (by (first | omega | (have zz0 := Hid.u hi_cn; omega))) (by (first | omega | (have zz0 := Hid.u hi_cn; omega))) with ⟨hb_y_3, qy_3⟩ | ⟨hb_y_3, qy_3⟩
          ·
            obtain rfl : y_3 = 0 := ey_3.trans qy_3
            refine lv_if_ne (tgt := 33) hx hb dX12_roundTo_27 rfl (fun h => absurd h cq_eq_0_0) (fun _ => ?_)
            refine lv_goto (tgt := 76) hx hb (oc_167 30 (aq_6 shX12_roundTo_24) sgw_0_46) rfl ?_
            refine lv_iinc (v := (nI (i14 + 1))) (lv' := [(3, .int (nI (i14 + 1))), (2, .int x14_2), (0, .ref (g 100)), (1, .int (nI l0))]) hx hb dX12_roundTo_76 hl (k := 0) rfl (nI_1 _) (ltb rfl) rfl (fun ls hl => ?_)
            refine lv_goto (tgt := 14) hx hb dX12_roundTo_79 rfl ?_
            exact ih14 (i14 + 1) x14_2 (by (first | omega | (have zz0 := Hid.u hi_cn; omega))) (by (first | omega | (have zz0 := Hid.u hi_cn; omega))) ls (lv_sub hl [0, 1, 2, 3] rfl)
          ·
            obtain rfl : y_3 = 1 := ey_3.trans qy_3
            refine lv_if_ne (tgt := 33) hx hb dX12_roundTo_27 rfl (fun _ => ?_) (fun h => absurd h cq_eq_1_0)
            refine lv_aload_n hx hb (oc_42 33 (aq_9 shX12_roundTo_24)) rfl (lvA2 hl) ?_
            refine lv_aload_n hx hb (oc_42 34 (aq_10 shX12_roundTo_24)) rfl (lvA2 hl) ?_
            refine gM_101 S hK hP (v := .ref (g 42)) rfl (oc_180 35 (aq_11 shX12_roundTo_24) uw_0_101) ?_
            refine lv_iload_n hx hb (oc_29 38 (aq_14 shX12_roundTo_24)) rfl (lvA0 hl) ?_
            have kb_1 : i14 < 10 := by (first | omega | (have zz0 := Hid.u hi_cn; omega))
            obtain ⟨a_4, ha_4, ea_4⟩ := hAK i14 (by (first | omega | (have zz0 := Hid.u hi_cn; omega)))
            refine ldM_42 hx hb hK hP (x := (nI a_4)) (vp_in_nI kb_1 (ltb rfl)) (nI_clamp (Nat.lt_trans kb_1 (ltb rfl))) ea_4 (oc_46 39 (aq_15 shX12_roundTo_24)) ?_
            refine vp_callSi (runV_ra (As := [.int (nI a_4)]) (rest := []) S (q_toDepot l D cI cB cZ g cn In Fn a_4 hI (by (first | omega | (have zz0 := Hid.u hi_cn; omega)))) kV_RX12_367 hK hP 0 rfl rfl rfl ⟨Nat.le_of_ble_eq_true rfl, Nat.le_of_ble_eq_true rfl⟩ ⟨Nat.le_of_ble_eq_true rfl, Nat.le_of_ble_eq_true rfl⟩ rfl hl.1 rfl (Nat.le_of_ble_eq_true rfl) (oc_182 40 (aq_16 shX12_roundTo_24) uw_1_111)) (fun r_5 h_6 => ?_)
            subst h_6
            refine lv_aload_n hx hb (oc_42 43 (aq_19 shX12_roundTo_24)) rfl (lvA2 hl) ?_
            refine gM_104 S hK hP (v := .ref (g 43)) rfl (oc_180 44 (aq_20 shX12_roundTo_24) uw_0_104) ?_
            refine lv_bipush (v := 8) hx hb (oc_16 47 (aq_23 shX12_roundTo_24) sgb_8) kbc_8 ?_
            refine lv_iload_n hx hb (oc_27 49 shX12_roundTo_49) rfl (lvA3 hl) ?_
            refine lv_iconst (v := 1) hx hb (oc_4 50 (aq_1 shX12_roundTo_49)) kic_1 ?_
            refine lv_iload_n hx hb (oc_29 51 (aq_2 shX12_roundTo_49)) rfl (lvA0 hl) ?_
            refine lv_ishl hx hb (oc_120 52 (aq_3 shX12_roundTo_49)) ?_
            refine lv_iconst (v := (-1)) hx hb (oc_2 53 (aq_4 shX12_roundTo_49)) kic_m1 ?_
            refine lv_ixor hx hb (oc_130 54 (aq_5 shX12_roundTo_49)) ?_
            refine lv_iand hx hb (oc_126 55 (aq_6 shX12_roundTo_49)) ?_
            refine lv_topi (fun y_7 ey_7 => ?_)
            obtain rfl : y_7 = (nI (clr l0 i14)) := ey_7.trans (clrI (by (first | omega | (have zz0 := Hid.u hi_cn; omega))) (by (first | omega | (have zz0 := Hid.u hi_cn; omega))))
            have hcl := clr_le (l := l0) (a := i14)
            refine lv_imul hx hb (oc_104 56 (aq_7 shX12_roundTo_49)) ?_
            refine lv_topi (fun y_8 ey_8 => ?_)
            obtain rfl : y_8 = (nI (8 * (clr l0 i14))) := ey_8.trans (pk_mul 8 (clr l0 i14))
            refine lv_iload_n hx hb (oc_29 57 (aq_8 shX12_roundTo_49)) rfl (lvA0 hl) ?_
            refine lv_iadd hx hb (oc_96 58 (aq_9 shX12_roundTo_49)) ?_
            refine lv_topi (fun y_9 ey_9 => ?_)
            obtain rfl : y_9 = (nI ((8 * (clr l0 i14)) + i14)) := ey_9.trans (nI_add (8 * (clr l0 i14)) i14)
            have kb_2 : ((8 * (clr l0 i14)) + i14) < 2048 := by (first | omega | (have zz0 := Hid.u hi_cn; omega))
            refine ldM_43 hx hb hK hP (x := ((Fn 43) ((8 * (clr l0 i14)) + i14))) (vp_in_nI kb_2 (ltb rfl)) (nI_clamp (Nat.lt_trans kb_2 (ltb rfl))) rfl (oc_46 59 (aq_10 shX12_roundTo_49)) ?_
            refine lv_iadd hx hb (oc_96 60 (aq_11 shX12_roundTo_49)) ?_
            refine lv_istore (lv' := [(4, .int (((Fn 3) a_4 + (Fn 4) a_4) + ((Fn 43) ((8 * (clr l0 i14)) + i14)))), (3, .int (nI i14)), (2, .int x14_2), (0, .ref (g 100)), (1, .int (nI l0))]) hx hb (oc_54 61 (aq_12 shX12_roundTo_49) ub_4) hl (ltb rfl) rfl (fun ls hl => ?_)
            refine lv_iload hx hb (oc_21 63 (aq_14 shX12_roundTo_49) ub_4) (lvA0 hl) ?_
            refine lv_iload_n hx hb (oc_28 65 (aq_16 shX12_roundTo_49)) rfl (lvA2 hl) ?_
            refine lv_icmp_ge (tgt := 74) hx hb (oc_162 66 (aq_17 shX12_roundTo_49) sgw_0_8) rfl (fun c_10 => ?_) (fun c_10 => ?_)
            ·
              have tc_10 : (x14_2.toInt : Int) ≤ (((Fn 3) a_4 + (Fn 4) a_4) + ((Fn 43) ((8 * (clr l0 i14)) + i14))).toInt := Int32.le_iff_toInt_le.mp c_10
              refine lv_iload_n hx hb (oc_28 74 shX12_roundTo_74) rfl (lvA2 hl) ?_
              refine lv_istore_n (lv' := [(2, .int x14_2), (4, .int (((Fn 3) a_4 + (Fn 4) a_4) + ((Fn 43) ((8 * (clr l0 i14)) + i14)))), (3, .int (nI i14)), (0, .ref (g 100)), (1, .int (nI l0))]) hx hb dX12_roundTo_75 rfl hl (ltb rfl) rfl (fun ls hl => ?_)
              refine lv_iinc (v := (nI (i14 + 1))) (lv' := [(3, .int (nI (i14 + 1))), (2, .int x14_2), (4, .int (((Fn 3) a_4 + (Fn 4) a_4) + ((Fn 43) ((8 * (clr l0 i14)) + i14)))), (0, .ref (g 100)), (1, .int (nI l0))]) hx hb dX12_roundTo_76 hl (k := 2) rfl (nI_1 _) (ltb rfl) rfl (fun ls hl => ?_)
              refine lv_goto (tgt := 14) hx hb dX12_roundTo_79 rfl ?_
              exact ih14 (i14 + 1) x14_2 (by (first | omega | (have zz0 := Hid.u hi_cn; omega))) (by (first | omega | (have zz0 := Hid.u hi_cn; omega))) ls (lv_sub hl [0, 1, 3, 4] rfl)
            ·
              have tc_10 : ((((Fn 3) a_4 + (Fn 4) a_4) + ((Fn 43) ((8 * (clr l0 i14)) + i14))).toInt : Int) < x14_2.toInt := Int32.lt_iff_toInt_lt.mp (Int32.not_le.mp c_10)
              refine lv_iload hx hb (oc_21 69 (aq_20 shX12_roundTo_49) ub_4) (lvA0 hl) ?_
              refine lv_goto (tgt := 75) hx hb (oc_167 71 (aq_22 shX12_roundTo_49) sgw_0_4) rfl ?_
              refine lv_istore_n (lv' := [(2, .int (((Fn 3) a_4 + (Fn 4) a_4) + ((Fn 43) ((8 * (clr l0 i14)) + i14)))), (4, .int (((Fn 3) a_4 + (Fn 4) a_4) + ((Fn 43) ((8 * (clr l0 i14)) + i14)))), (3, .int (nI i14)), (0, .ref (g 100)), (1, .int (nI l0))]) hx hb dX12_roundTo_75 rfl hl (ltb rfl) rfl (fun ls hl => ?_)
              refine lv_iinc (v := (nI (i14 + 1))) (lv' := [(3, .int (nI (i14 + 1))), (2, .int (((Fn 3) a_4 + (Fn 4) a_4) + ((Fn 43) ((8 * (clr l0 i14)) + i14)))), (4, .int (((Fn 3) a_4 + (Fn 4) a_4) + ((Fn 43) ((8 * (clr l0 i14)) + i14)))), (0, .ref (g 100)), (1, .int (nI l0))]) hx hb dX12_roundTo_76 hl (k := 2) rfl (nI_1 _) (ltb rfl) rfl (fun ls hl => ?_)
              refine lv_goto (tgt := 14) hx hb dX12_roundTo_79 rfl ?_
              exact ih14 (i14 + 1) (((Fn 3) a_4 + (Fn 4) a_4) + ((Fn 43) ((8 * (clr l0 i14)) + i14))) (by (first | omega | (have zz0 := Hid.u hi_cn; omega))) (by (first | omega | (have zz0 := Hid.u hi_cn; omega))) ls (lv_sub hl [0, 1, 3, 4] rfl)
    exact lp_14 _ 0 1000000 (Nat.lt_succ_self _) (by (first | omega | (have zz0 := Hid.u hi_cn; omega))) ls (lv_sub hl [0, 1, 2, 3] rfl)
  ·
    have tc_1 : ((nI l0).toInt : Int) = 0 := congrArg Int32.toInt c_1
    refine lv_iconst (v := 0) hx hb (oc_3 4 (aq_4 shX12_roundTo_0)) kic_0 ?_
    refine lv_goto (tgt := 11) hx hb (oc_167 5 (aq_5 shX12_roundTo_0) sgw_0_6) rfl ?_
    refine lv_istore_n (lv' := [(2, .int 0), (0, .ref (g 100)), (1, .int (nI l0))]) hx hb (oc_61 11 (aq_11 shX12_roundTo_0)) rfl hl (ltb rfl) rfl (fun ls hl => ?_)
    refine lv_iconst (v := 0) hx hb (oc_3 12 (aq_12 shX12_roundTo_0)) kic_0 ?_
    refine lv_istore_n (lv' := [(3, .int 0), (2, .int 0), (0, .ref (g 100)), (1, .int (nI l0))]) hx hb (oc_62 13 (aq_13 shX12_roundTo_0)) rfl hl (ltb rfl) rfl (fun ls hl => ?_)
    have lp_14 : ∀ (n : Nat) (i14 : Nat) (x14_2 : Int32) , cn 44 - i14 < n → (i14 ≤ cn 44) → ∀ ls : Array Slot, lv_has ls 5 [(3, .int (nI i14)), (2, .int x14_2), (0, .ref (g 100)), (1, .int (nI l0))] → W p l e (RM 1 0 0) s m ([.ref (g 100), .int (nI l0)]).toArray below meth c s.heap [] 0 0 (MQ below (vp_Si (fun _ => True)) ([.ref (g 100), .int (nI l0)]).toArray s 0 0 (fun _ => False)) (F0 m 14 ls []) := by
      intro n14
      induction n14 with
      | zero => intros; (first | omega | (have zz0 := Hid.u hi_cn; omega))
      | succ n14 ih14 =>
        intro i14 x14_2 hmu14 hinv14 ls hl
        have hr14 := hinv14
        have ti14 : (nI i14).toInt = (i14 : Int) := nI_toInt (by (first | omega | (have zz0 := Hid.u hi_cn; omega)))
        refine lv_iload_n hx hb (oc_29 14 (aq_14 shX12_roundTo_0)) rfl (lvA0 hl) ?_
        refine lv_aload_n hx hb (oc_42 15 (aq_15 shX12_roundTo_0)) rfl (lvA2 hl) ?_
        refine gM_364 S hK hP (v := .int (nI (cn 44))) rfl (oc_180 16 (aq_16 shX12_roundTo_0) uw_1_108) ?_
        have : (nI (cn 44)).toInt = (((cn 44) : Nat) : Int) := nI_toInt (by (first | omega | (have zz0 := Hid.u hi_cn; omega)))
        refine lv_icmp_ge (tgt := 82) hx hb (oc_162 19 (aq_19 shX12_roundTo_0) sgw_0_63) rfl (fun c_11 => ?_) (fun c_11 => ?_)
        ·
          have tc_11 : ((nI (cn 44)).toInt : Int) ≤ (nI i14).toInt := Int32.le_iff_toInt_le.mp c_11
          refine lv_iload_n hx hb (oc_28 82 (aq_8 shX12_roundTo_74)) rfl (lvA1 hl) ?_
          exact W.iret (v := x14_2) hx hb hr (fun t ht hW => ⟨x14_2, rfl, trivial, ht⟩) (fun _ h => absurd h List.not_mem_nil) (oc_172 83 (aq_9 shX12_roundTo_74))
        ·
          have tc_11 : ((nI i14).toInt : Int) < (nI (cn 44)).toInt := Int32.lt_iff_toInt_lt.mp (Int32.not_le.mp c_11)
          refine lv_iload_n hx hb (oc_27 22 (aq_22 shX12_roundTo_0)) rfl (lvA3 hl) ?_
          refine lv_iload_n hx hb (oc_29 23 (aq_23 shX12_roundTo_0)) rfl (lvA0 hl) ?_
          refine lv_ishr hx hb (oc_122 24 shX12_roundTo_24) ?_
          refine lv_iconst (v := 1) hx hb (oc_4 25 (aq_1 shX12_roundTo_24)) kic_1 ?_
          refine lv_iand hx hb (oc_126 26 (aq_2 shX12_roundTo_24)) ?_
          refine lv_topi (fun y_12 ey_12 => ?_)
          rcases bitc (l := l0) (b := i14) (by (first | omega | (have zz0 := Hid.u hi_cn; omega))) (by (first | omega | (have zz0 := Hid.u hi_cn; omega))) with ⟨hb_y_12, qy_12⟩ | ⟨hb_y_12, qy_12⟩
          ·
            obtain rfl : y_12 = 0 := ey_12.trans qy_12
            refine lv_if_ne (tgt := 33) hx hb dX12_roundTo_27 rfl (fun h => absurd h cq_eq_0_0) (fun _ => ?_)
            refine lv_goto (tgt := 76) hx hb (oc_167 30 (aq_6 shX12_roundTo_24) sgw_0_46) rfl ?_
            refine lv_iinc (v := (nI (i14 + 1))) (lv' := [(3, .int (nI (i14 + 1))), (2, .int x14_2), (0, .ref (g 100)), (1, .int (nI l0))]) hx hb dX12_roundTo_76 hl (k := 0) rfl (nI_1 _) (ltb rfl) rfl (fun ls hl => ?_)
            refine lv_goto (tgt := 14) hx hb dX12_roundTo_79 rfl ?_
            exact ih14 (i14 + 1) x14_2 (by (first | omega | (have zz0 := Hid.u hi_cn; omega))) (by (first | omega | (have zz0 := Hid.u hi_cn; omega))) ls (lv_sub hl [0, 1, 2, 3] rfl)
          ·
            obtain rfl : y_12 = 1 := ey_12.trans qy_12
            refine lv_if_ne (tgt := 33) hx hb dX12_roundTo_27 rfl (fun _ => ?_) (fun h => absurd h cq_eq_1_0)
            refine lv_aload_n hx hb (oc_42 33 (aq_9 shX12_roundTo_24)) rfl (lvA2 hl) ?_
            refine lv_aload_n hx hb (oc_42 34 (aq_10 shX12_roundTo_24)) rfl (lvA2 hl) ?_
            refine gM_101 S hK hP (v := .ref (g 42)) rfl (oc_180 35 (aq_11 shX12_roundTo_24) uw_0_101) ?_
            refine lv_iload_n hx hb (oc_29 38 (aq_14 shX12_roundTo_24)) rfl (lvA0 hl) ?_
            have kb_3 : i14 < 10 := by (first | omega | (have zz0 := Hid.u hi_cn; omega))
            obtain ⟨a_13, ha_13, ea_13⟩ := hAK i14 (by (first | omega | (have zz0 := Hid.u hi_cn; omega)))
            refine ldM_42 hx hb hK hP (x := (nI a_13)) (vp_in_nI kb_3 (ltb rfl)) (nI_clamp (Nat.lt_trans kb_3 (ltb rfl))) ea_13 (oc_46 39 (aq_15 shX12_roundTo_24)) ?_
            refine vp_callSi (runV_ra (As := [.int (nI a_13)]) (rest := []) S (q_toDepot l D cI cB cZ g cn In Fn a_13 hI (by (first | omega | (have zz0 := Hid.u hi_cn; omega)))) kV_RX12_367 hK hP 0 rfl rfl rfl ⟨Nat.le_of_ble_eq_true rfl, Nat.le_of_ble_eq_true rfl⟩ ⟨Nat.le_of_ble_eq_true rfl, Nat.le_of_ble_eq_true rfl⟩ rfl hl.1 rfl (Nat.le_of_ble_eq_true rfl) (oc_182 40 (aq_16 shX12_roundTo_24) uw_1_111)) (fun r_14 h_15 => ?_)
            subst h_15
            refine lv_aload_n hx hb (oc_42 43 (aq_19 shX12_roundTo_24)) rfl (lvA2 hl) ?_
            refine gM_104 S hK hP (v := .ref (g 43)) rfl (oc_180 44 (aq_20 shX12_roundTo_24) uw_0_104) ?_
            refine lv_bipush (v := 8) hx hb (oc_16 47 (aq_23 shX12_roundTo_24) sgb_8) kbc_8 ?_
            refine lv_iload_n hx hb (oc_27 49 shX12_roundTo_49) rfl (lvA3 hl) ?_
            refine lv_iconst (v := 1) hx hb (oc_4 50 (aq_1 shX12_roundTo_49)) kic_1 ?_
            refine lv_iload_n hx hb (oc_29 51 (aq_2 shX12_roundTo_49)) rfl (lvA0 hl) ?_
            refine lv_ishl hx hb (oc_120 52 (aq_3 shX12_roundTo_49)) ?_
            refine lv_iconst (v := (-1)) hx hb (oc_2 53 (aq_4 shX12_roundTo_49)) kic_m1 ?_
            refine lv_ixor hx hb (oc_130 54 (aq_5 shX12_roundTo_49)) ?_
            refine lv_iand hx hb (oc_126 55 (aq_6 shX12_roundTo_49)) ?_
            refine lv_topi (fun y_16 ey_16 => ?_)
            obtain rfl : y_16 = (nI (clr l0 i14)) := ey_16.trans (clrI (by (first | omega | (have zz0 := Hid.u hi_cn; omega))) (by (first | omega | (have zz0 := Hid.u hi_cn; omega))))
            have hcl := clr_le (l := l0) (a := i14)
            refine lv_imul hx hb (oc_104 56 (aq_7 shX12_roundTo_49)) ?_
            refine lv_topi (fun y_17 ey_17 => ?_)
            obtain rfl : y_17 = (nI (8 * (clr l0 i14))) := ey_17.trans (pk_mul 8 (clr l0 i14))
            refine lv_iload_n hx hb (oc_29 57 (aq_8 shX12_roundTo_49)) rfl (lvA0 hl) ?_
            refine lv_iadd hx hb (oc_96 58 (aq_9 shX12_roundTo_49)) ?_
            refine lv_topi (fun y_18 ey_18 => ?_)
            obtain rfl : y_18 = (nI ((8 * (clr l0 i14)) + i14)) := ey_18.trans (nI_add (8 * (clr l0 i14)) i14)
            have kb_4 : ((8 * (clr l0 i14)) + i14) < 2048 := by (first | omega | (have zz0 := Hid.u hi_cn; omega))
            refine ldM_43 hx hb hK hP (x := ((Fn 43) ((8 * (clr l0 i14)) + i14))) (vp_in_nI kb_4 (ltb rfl)) (nI_clamp (Nat.lt_trans kb_4 (ltb rfl))) rfl (oc_46 59 (aq_10 shX12_roundTo_49)) ?_
            refine lv_iadd hx hb (oc_96 60 (aq_11 shX12_roundTo_49)) ?_
            refine lv_istore (lv' := [(4, .int (((Fn 3) a_13 + (Fn 4) a_13) + ((Fn 43) ((8 * (clr l0 i14)) + i14)))), (3, .int (nI i14)), (2, .int x14_2), (0, .ref (g 100)), (1, .int (nI l0))]) hx hb (oc_54 61 (aq_12 shX12_roundTo_49) ub_4) hl (ltb rfl) rfl (fun ls hl => ?_)
            refine lv_iload hx hb (oc_21 63 (aq_14 shX12_roundTo_49) ub_4) (lvA0 hl) ?_
            refine lv_iload_n hx hb (oc_28 65 (aq_16 shX12_roundTo_49)) rfl (lvA2 hl) ?_
            refine lv_icmp_ge (tgt := 74) hx hb (oc_162 66 (aq_17 shX12_roundTo_49) sgw_0_8) rfl (fun c_19 => ?_) (fun c_19 => ?_)
            ·
              have tc_19 : (x14_2.toInt : Int) ≤ (((Fn 3) a_13 + (Fn 4) a_13) + ((Fn 43) ((8 * (clr l0 i14)) + i14))).toInt := Int32.le_iff_toInt_le.mp c_19
              refine lv_iload_n hx hb (oc_28 74 shX12_roundTo_74) rfl (lvA2 hl) ?_
              refine lv_istore_n (lv' := [(2, .int x14_2), (4, .int (((Fn 3) a_13 + (Fn 4) a_13) + ((Fn 43) ((8 * (clr l0 i14)) + i14)))), (3, .int (nI i14)), (0, .ref (g 100)), (1, .int (nI l0))]) hx hb dX12_roundTo_75 rfl hl (ltb rfl) rfl (fun ls hl => ?_)
              refine lv_iinc (v := (nI (i14 + 1))) (lv' := [(3, .int (nI (i14 + 1))), (2, .int x14_2), (4, .int (((Fn 3) a_13 + (Fn 4) a_13) + ((Fn 43) ((8 * (clr l0 i14)) + i14)))), (0, .ref (g 100)), (1, .int (nI l0))]) hx hb dX12_roundTo_76 hl (k := 2) rfl (nI_1 _) (ltb rfl) rfl (fun ls hl => ?_)
              refine lv_goto (tgt := 14) hx hb dX12_roundTo_79 rfl ?_
              exact ih14 (i14 + 1) x14_2 (by (first | omega | (have zz0 := Hid.u hi_cn; omega))) (by (first | omega | (have zz0 := Hid.u hi_cn; omega))) ls (lv_sub hl [0, 1, 3, 4] rfl)
            ·
              have tc_19 : ((((Fn 3) a_13 + (Fn 4) a_13) + ((Fn 43) ((8 * (clr l0 i14)) + i14))).toInt : Int) < x14_2.toInt := Int32.lt_iff_toInt_lt.mp (Int32.not_le.mp c_19)
              refine lv_iload hx hb (oc_21 69 (aq_20 shX12_roundTo_49) ub_4) (lvA0 hl) ?_
              refine lv_goto (tgt := 75) hx hb (oc_167 71 (aq_22 shX12_roundTo_49) sgw_0_4) rfl ?_
              refine lv_istore_n (lv' := [(2, .int (((Fn 3) a_13 + (Fn 4) a_13) + ((Fn 43) ((8 * (clr l0 i14)) + i14)))), (4, .int (((Fn 3) a_13 + (Fn 4) a_13) + ((Fn 43) ((8 * (clr l0 i14)) + i14)))), (3, .int (nI i14)), (0, .ref (g 100)), (1, .int (nI l0))]) hx hb dX12_roundTo_75 rfl hl (ltb rfl) rfl (fun ls hl => ?_)
              refine lv_iinc (v := (nI (i14 + 1))) (lv' := [(3, .int (nI (i14 + 1))), (2, .int (((Fn 3) a_13 + (Fn 4) a_13) + ((Fn 43) ((8 * (clr l0 i14)) + i14)))), (4, .int (((Fn 3) a_13 + (Fn 4) a_13) + ((Fn 43) ((8 * (clr l0 i14)) + i14)))), (0, .ref (g 100)), (1, .int (nI l0))]) hx hb dX12_roundTo_76 hl (k := 2) rfl (nI_1 _) (ltb rfl) rfl (fun ls hl => ?_)
              refine lv_goto (tgt := 14) hx hb dX12_roundTo_79 rfl ?_
              exact ih14 (i14 + 1) (((Fn 3) a_13 + (Fn 4) a_13) + ((Fn 43) ((8 * (clr l0 i14)) + i14))) (by (first | omega | (have zz0 := Hid.u hi_cn; omega))) (by (first | omega | (have zz0 := Hid.u hi_cn; omega))) ls (lv_sub hl [0, 1, 3, 4] rfl)
    exact lp_14 _ 0 0 (Nat.lt_succ_self _) (by (first | omega | (have zz0 := Hid.u hi_cn; omega))) ls (lv_sub hl [0, 1, 2, 3] rfl)
set_option maxRecDepth 100000 in
set_option maxHeartbeats 4000000 in
theorem q_round (l : Launch) (D : va_G) (cI cB cZ : ClassId) (g : Nat → Nat) (cn : Nat → Nat) (In : Nat → Int32) (Fn : Nat → Nat → Int32) (v0 v1 v2 : Int32) (sz : Nat) (hI : IM cn Fn) : Met l yX12_round (CWS yX12_round cX12_round 8 (some .int)) (RM 4 0 0) (PBw [.ref (g 100), .int v0, .int v1, .int v2] D cI cB cZ (wM cI cB cZ g cn In Fn) sz) (va_Qi (fun (r : Int32) (u : (Nat → Nat) × (Nat → Int32) × (Nat → Nat → Int32)) => (fun r c2 I2 F2 => Fr [44] [45] [42, 43] cn In Fn c2 I2 F2 ∧ IM c2 F2 ∧ (True)) r u.1 u.2.1 u.2.2) (fun (u : (Nat → Nat) × (Nat → Int32) × (Nat → Nat → Int32)) (t : State) => va_P D vwCl (wM cI cB cZ g u.1 u.2.1 u.2.2) t.heap ∧ va_D (va_A (wM cI cB cZ g cn In Fn) sz) (wM cI cB cZ g u.1 u.2.1 u.2.2)) (va_A (wM cI cB cZ g cn In Fn) sz)) 0 0 (va_A (wM cI cB cZ g cn In Fn) sz) := by
  refine en_w (fun A => (va_Qi (fun (r : Int32) (u : (Nat → Nat) × (Nat → Int32) × (Nat → Nat → Int32)) => (fun (r : Int32) (c2 : Nat → Nat) (I2 : Nat → Int32) (F2 : Nat → Nat → Int32) => Fr [44] [45] [42, 43] cn In Fn c2 I2 F2 ∧ IM c2 F2 ∧ (True)) r u.1 u.2.1 u.2.2) (fun (u : (Nat → Nat) × (Nat → Int32) × (Nat → Nat → Int32)) (t : State) => va_P D vwCl (wM cI cB cZ g u.1 u.2.1 u.2.2) t.heap ∧ va_D A (wM cI cB cZ g u.1 u.2.1 u.2.2)) A)) rfl rfl pn_RX12 (Nat.le_of_ble_eq_true rfl) (fun p e s m below meth c A hx hb hml hown S hr hlocks hnm hA hP hK hD hS ls hl => ?_)
  have hl : lv_has ls 8 [(0, .ref (g 100)), (1, .int v0), (2, .int v1), (3, .int v2)] := hl
  have hi_cn : Hid (CB cn) := hI.b
  refine lv_iload_n hx hb (oc_27 0 shX12_round_0) rfl (lvA1 hl) ?_
  refine vp_callSi (runS_r (As := [.int v0]) (rest := []) S (q_isDay l D cI cB cZ v0 ) kS_RX12_341 hK hP [] rfl ⟨Nat.le_of_ble_eq_true rfl, Nat.le_of_ble_eq_true rfl⟩ ⟨Nat.le_of_ble_eq_true rfl, Nat.le_of_ble_eq_true rfl⟩ rfl hl.1 rfl (Nat.le_of_ble_eq_true rfl) (oc_184 1 (aq_1 shX12_round_0) uw_1_85)) (fun r_1 h_2 => ?_)
  rcases h_2 with ⟨rfl, h_2⟩ | ⟨rfl, h_2⟩
  ·
    have h_2 : 0 ≤ v0.toInt ∧ v0.toInt ≤ 399 := h_2
    refine lv_if_eq (tgt := 23) hx hb (oc_153 4 (aq_4 shX12_round_0) sgw_0_19) rfl (fun h => absurd h cq_eq_1_0) (fun _ => ?_)
    refine lv_iload_n hx hb (oc_28 7 (aq_7 shX12_round_0)) rfl (lvA2 hl) ?_
    refine lv_iconst (v := 1) hx hb (oc_4 8 (aq_8 shX12_round_0)) kic_1 ?_
    refine lv_sipush (v := 400) hx hb (oc_17 9 (aq_9 shX12_round_0) sgw_1_144) (by decide) ?_
    refine vp_callSi (runS_r (As := [.int v1, .int 1, .int 400]) (rest := []) S (q_in l D cI cB cZ v1 1 400 ) kS_RX12_214 hK hP [] rfl ⟨Nat.le_of_ble_eq_true rfl, Nat.le_of_ble_eq_true rfl⟩ ⟨Nat.le_of_ble_eq_true rfl, Nat.le_of_ble_eq_true rfl⟩ rfl hl.1 rfl (Nat.le_of_ble_eq_true rfl) (oc_184 12 (aq_12 shX12_round_0) uw_0_214)) (fun r_3 h_4 => ?_)
    rcases h_4 with ⟨rfl, h_4⟩ | ⟨rfl, h_4⟩
    ·
      have h_4 : 1 ≤ v1.toInt ∧ v1.toInt ≤ 400 := h_4
      refine lv_if_eq (tgt := 23) hx hb (oc_153 15 (aq_15 shX12_round_0) sgw_0_8) rfl (fun h => absurd h cq_eq_1_0) (fun _ => ?_)
      refine lv_iload_n hx hb (oc_29 18 (aq_18 shX12_round_0)) rfl (lvA3 hl) ?_
      refine lv_iconst (v := (-1)) hx hb (oc_2 19 (aq_19 shX12_round_0)) kic_m1 ?_
      refine lv_icmp_ge (tgt := 25) hx hb (oc_162 20 (aq_20 shX12_round_0) sgw_0_5) rfl (fun c_5 => ?_) (fun c_5 => ?_)
      ·
        have tc_5 : ((-1) : Int) ≤ v2.toInt := Int32.le_iff_toInt_le.mp c_5
        refine lv_aload_n hx hb (oc_42 25 (aq_1 shX12_round_24)) rfl (lvA0 hl) ?_
        refine lv_iload_n hx hb (oc_27 26 (aq_2 shX12_round_24)) rfl (lvA1 hl) ?_
        refine lv_iload_n hx hb (oc_28 27 (aq_3 shX12_round_24)) rfl (lvA2 hl) ?_
        refine lv_bipush (v := 8) hx hb (oc_16 28 (aq_4 shX12_round_24) sgb_8) kbc_8 ?_
        have hFc := free_all hD hS hA
        refine va_calli (runV_a (As := [.int v0, .int v1, .int 8]) (rest := []) S (q_lays l D cI cB cZ g cn In Fn v0 v1 8 s.heap.size hI (by (first | omega | (have zz0 := Hid.u hi_cn; omega)))) kV_RX12_380 hK hP hD 0 rfl rfl rfl ⟨Nat.le_of_ble_eq_true rfl, Nat.le_of_ble_eq_true rfl⟩ ⟨Nat.le_of_ble_eq_true rfl, Nat.le_of_ble_eq_true rfl⟩ rfl hl.1 rfl (Nat.le_of_ble_eq_true rfl) (oc_182 30 (aq_6 shX12_round_24) uw_1_124)) hS (fun q _ h => hFc q h) hFc (fun r_6 u t H1 locs ht hvm wh_7 hB hz1 hk1 hS => ?_)
        obtain ⟨cn7, In7, Fn7⟩ := u
        obtain ⟨hP1, hD1⟩ := hB
        rw [ht] at hP1
        have hP : va_P D vwCl (wM cI cB cZ g cn7 In7 Fn7) H1 := hP1
        have hD : va_D A (wM cI cB cZ g cn7 In7 Fn7) := hD1.weaken (fun _ _ _ h => hFc _ h)
        generalize H1 = H at hP hS ⊢
        have vh_7 : (fun r c2 I2 F2 => Fr [44] [] [42, 43] cn In Fn c2 I2 F2 ∧ IM c2 F2 ∧ (r = 0 ∨ (r = 1 ∧ c2 44 ≤ 8 ∧ c2 44 ≤ 8 ∧ AK c2 F2))) r_6 cn7 In7 Fn7 := wh_7
        obtain ⟨hfc7, hIn7, h_7⟩ := vh_7
        obtain rfl : In = In7 := (funext (fun k => hfc7.2.1 k List.not_mem_nil)).symm
        have hf7 : Fr [44] [45] [42, 43] cn In Fn cn7 In Fn7 := Fr.mo (Fr.tr (Fr.rf (cn := cn) (In := In) (Fn := Fn)) hfc7) (sbl rfl) (sbl rfl) (sbl rfl)
        have hi_cn7 : Hid (CB cn7) := hIn7.b
        have hq_cn7 := Hid.i (frq_44_0_1_2_46_57_58_62_63_75_83 hf7)
        rcases h_7 with rfl | ⟨rfl, kh_7⟩
        ·
          refine lv_if_ne (tgt := 39) hx hb (oc_154 33 (aq_9 shX12_round_24) sgw_0_6) rfl (fun h => absurd h cq_eq_0_0) (fun _ => ?_)
          refine lv_bipush (v := (-2)) hx hb (oc_16 36 (aq_12 shX12_round_24) sgb_254) kbc_m2 ?_
          exact W.iret (v := (-2)) hx hb hr (fun t ht hW => ⟨⟨(-2), (cn7, In, Fn7), rfl, ⟨(Fr.mo hf7 (sbl rfl) (sbl rfl) (sbl rfl)), hIn7, trivial⟩, by rw [ht]; exact hP, hD⟩, hS.F ht⟩) hS.2.2 (oc_172 38 (aq_14 shX12_round_24))
        ·
          obtain ⟨hmkh_7, hlkh_7, hAKkh_7⟩ := kh_7
          refine lv_if_ne (tgt := 39) hx hb (oc_154 33 (aq_9 shX12_round_24) sgw_0_6) rfl (fun _ => ?_) (fun h => absurd h cq_eq_1_0)
          refine lv_aload_n hx hb (oc_42 39 (aq_15 shX12_round_24)) rfl (lvA0 hl) ?_
          refine gM_364 S hK hP (v := .int (nI (cn7 44))) rfl (oc_180 40 (aq_16 shX12_round_24) uw_1_108) ?_
          refine lv_istore (lv' := [(4, .int (nI (cn7 44))), (0, .ref (g 100)), (1, .int v0), (2, .int v1), (3, .int v2)]) hx hb (oc_54 43 (aq_19 shX12_round_24) ub_4) hl (ltb rfl) rfl (fun ls hl => ?_)
          refine lv_iconst (v := 1) hx hb (oc_4 45 (aq_21 shX12_round_24)) kic_1 ?_
          refine lv_iload hx hb (oc_21 46 (aq_22 shX12_round_24) ub_4) (lvA0 hl) ?_
          refine lv_ishl hx hb (oc_120 48 shX12_round_48) ?_
          refine lv_topi (fun y_8 ey_8 => ?_)
          obtain rfl : y_8 = (nI (2 ^ (cn7 44))) := ey_8.trans (sh1 (by (first | omega | (have zz0 := Hid.u hi_cn; have zz1 := Hid.u hi_cn7; have zz2 := Hid.u hq_cn7; omega))))
          refine lv_iconst (v := 1) hx hb (oc_4 49 (aq_1 shX12_round_48)) kic_1 ?_
          refine lv_isub hx hb (oc_100 50 (aq_2 shX12_round_48)) ?_
          refine lv_topi (fun y_9 ey_9 => ?_)
          obtain rfl : y_9 = (nI (2 ^ (cn7 44) - 1)) := ey_9.trans (nI_sub (b := 1) (full_le (by (first | omega | (have zz0 := Hid.u hi_cn; have zz1 := Hid.u hi_cn7; have zz2 := Hid.u hq_cn7; omega)))).1)
          refine lv_istore (lv' := [(5, .int (nI (2 ^ (cn7 44) - 1))), (4, .int (nI (cn7 44))), (0, .ref (g 100)), (1, .int v0), (2, .int v1), (3, .int v2)]) hx hb (oc_54 51 (aq_3 shX12_round_48) ub_5) hl (ltb rfl) rfl (fun ls hl => ?_)
          have h2p := full_le (m := (cn7 44)) (by (first | omega | (have zz0 := Hid.u hi_cn; have zz1 := Hid.u hi_cn7; have zz2 := Hid.u hq_cn7; omega)))
          refine lv_aload_n hx hb (oc_42 53 (aq_5 shX12_round_48)) rfl (lvA2 hl) ?_
          refine lv_iconst (v := (-1)) hx hb (oc_2 54 (aq_6 shX12_round_48)) kic_m1 ?_
          refine lv_iload hx hb (oc_21 55 (aq_7 shX12_round_48) ub_5) (lvA0 hl) ?_
          have hFc := free_all hD hS hA
          refine va_calli (runV_a (As := [.int (-1), .int (nI (2 ^ (cn7 44) - 1))]) (rest := []) S (q_nextOf l D cI cB cZ g cn7 In Fn7 (-1) (2 ^ (cn7 44) - 1) H.size hIn7 (by (first | omega | (have zz0 := Hid.u hi_cn; have zz1 := Hid.u hi_cn7; have zz2 := Hid.u hq_cn7; omega))) hAKkh_7 (Or.inl rfl) (by (first | omega | (have zz0 := Hid.u hi_cn; have zz1 := Hid.u hi_cn7; have zz2 := Hid.u hq_cn7; omega)))) kV_RX12_383 hK hP hD 0 rfl rfl rfl ⟨Nat.le_of_ble_eq_true rfl, Nat.le_of_ble_eq_true rfl⟩ ⟨Nat.le_of_ble_eq_true rfl, Nat.le_of_ble_eq_true rfl⟩ rfl hl.1 rfl (Nat.le_of_ble_eq_true rfl) (oc_182 57 (aq_9 shX12_round_48) uw_1_127)) hS (fun q _ h => hFc q h) hFc (fun r_10 u t H1 locs ht hvm wh_11 hB hz1 hk1 hS => ?_)
          obtain ⟨cn11, In11, Fn11⟩ := u
          obtain ⟨hP1, hD1⟩ := hB
          rw [ht] at hP1
          have hP : va_P D vwCl (wM cI cB cZ g cn11 In11 Fn11) H1 := hP1
          have hD : va_D A (wM cI cB cZ g cn11 In11 Fn11) := hD1.weaken (fun _ _ _ h => hFc _ h)
          generalize H1 = H at hP hS ⊢
          have vh_11 : (fun r c2 I2 F2 => Fr [] [45] [] cn7 In Fn7 c2 I2 F2 ∧ IM c2 F2 ∧ (NX (2 ^ (cn7 44) - 1) r ((cn7 44)))) r_10 cn11 In11 Fn11 := wh_11
          obtain ⟨hfc11, hIn11, h_11⟩ := vh_11
          obtain rfl : cn7 = cn11 := (funext (fun k => hfc11.1 k List.not_mem_nil)).symm
          obtain rfl : Fn7 = Fn11 := (funext (fun k => hfc11.2.2 k List.not_mem_nil)).symm
          have hf11 : Fr [44] [45] [42, 43] cn In Fn cn7 In11 Fn7 := Fr.mo (Fr.tr hf7 hfc11) (sbl rfl) (sbl rfl) (sbl rfl)
          have hi_cn7 : Hid (CB cn7) := hIn11.b
          have hq_cn7 := Hid.i (frq_44_0_1_2_46_57_58_62_63_75_83 hf11)
          have hAK11 : AK cn7 Fn7 := AK.fr hAKkh_7 hfc11 (by decide) (by decide)
          rcases h_11 with ⟨rfl, har_10⟩ | ⟨mr_10, hr_10, rfl, hbr_10⟩
          ·
            refine lv_istore (lv' := [(6, .int (-1)), (5, .int (nI (2 ^ (cn7 44) - 1))), (4, .int (nI (cn7 44))), (0, .ref (g 100)), (1, .int v0), (2, .int v1), (3, .int v2)]) hx hb (oc_54 60 (aq_12 shX12_round_48) ub_6) hl (ltb rfl) rfl (fun ls hl => ?_)
            refine lv_iload_n hx hb (oc_29 62 (aq_14 shX12_round_48)) rfl (lvA6 hl) ?_
            refine lv_iconst (v := (-1)) hx hb (oc_2 63 (aq_15 shX12_round_48)) kic_m1 ?_
            refine lv_icmp_ne (tgt := 72) hx hb (oc_160 64 (aq_16 shX12_round_48) sgw_0_8) rfl (fun c_12 => ?_) (fun c_12 => ?_)
            ·
              have tc_12 : (v2.toInt : Int) ≠ (-1) := fun q => c_12 (Int32.toInt_inj.mp q)
              obtain ⟨w0, hw0, rfl⟩ := nI_of (x := v2) (fun q => by have := Int32.lt_iff_toInt_lt.mp q; have e : (0 : Int32).toInt = 0 := rfl; (first | omega | (have zz0 := Hid.u hi_cn; have zz1 := Hid.u hi_cn7; have zz2 := Hid.u hq_cn7; omega)))
              have tw0 : (nI w0).toInt = (w0 : Int) := nI_toInt hw0
              have zw0 : (nI w0).toInt.toNat = w0 := by (first | omega | (have zz0 := Hid.u hi_cn; have zz1 := Hid.u hi_cn7; have zz2 := Hid.u hq_cn7; omega))
              refine lv_iload_n hx hb (oc_29 72 shX12_round_72) rfl (lvA6 hl) ?_
              refine lv_iload hx hb (oc_21 73 (aq_1 shX12_round_72) ub_4) (lvA2 hl) ?_
              have : (nI (cn7 44)).toInt = (((cn7 44) : Nat) : Int) := nI_toInt (by (first | omega | (have zz0 := Hid.u hi_cn; have zz1 := Hid.u hi_cn7; have zz2 := Hid.u hq_cn7; omega)))
              refine lv_icmp_lt (tgt := 80) hx hb (oc_161 75 (aq_3 shX12_round_72) sgw_0_5) rfl (fun c_13 => ?_) (fun c_13 => ?_)
              ·
                have tc_13 : ((nI w0).toInt : Int) < (nI (cn7 44)).toInt := Int32.lt_iff_toInt_lt.mp c_13
                exfalso; have q1 := har_10 0 (by (first | omega | (have zz0 := Hid.u hi_cn; have zz1 := Hid.u hi_cn7; have zz2 := Hid.u hq_cn7; omega))); rw [full_bit (by (first | omega | (have zz0 := Hid.u hi_cn; have zz1 := Hid.u hi_cn7; have zz2 := Hid.u hq_cn7; omega))) (by (first | omega | (have zz0 := Hid.u hi_cn; have zz1 := Hid.u hi_cn7; have zz2 := Hid.u hq_cn7; omega)))] at q1; cases q1
              ·
                have tc_13 : ((nI (cn7 44)).toInt : Int) ≤ (nI w0).toInt := Int32.le_iff_toInt_le.mp (Int32.not_lt.mp c_13)
                refine lv_iconst (v := (-1)) hx hb (oc_2 78 (aq_6 shX12_round_72)) kic_m1 ?_
                exact W.iret (v := (-1)) hx hb hr (fun t ht hW => ⟨⟨(-1), (cn7, In11, Fn7), rfl, ⟨(Fr.mo hf11 (sbl rfl) (sbl rfl) (sbl rfl)), hIn11, trivial⟩, by rw [ht]; exact hP, hD⟩, hS.F ht⟩) hS.2.2 (oc_172 79 (aq_7 shX12_round_72))
            ·
              have tc_12 : (v2.toInt : Int) = (-1) := congrArg Int32.toInt c_12
              refine lv_aload_n hx hb (oc_42 67 (aq_19 shX12_round_48)) rfl (lvA3 hl) ?_
              refine gM_374 S hK hP (v := .int (In11 45)) rfl (oc_180 68 (aq_20 shX12_round_48) uw_1_118) ?_
              exact W.iret (v := (In11 45)) hx hb hr (fun t ht hW => ⟨⟨(In11 45), (cn7, In11, Fn7), rfl, ⟨(Fr.mo hf11 (sbl rfl) (sbl rfl) (sbl rfl)), hIn11, trivial⟩, by rw [ht]; exact hP, hD⟩, hS.F ht⟩) hS.2.2 (oc_172 71 (aq_23 shX12_round_48))
          ·
            refine lv_istore (lv' := [(6, .int (nI mr_10)), (5, .int (nI (2 ^ (cn7 44) - 1))), (4, .int (nI (cn7 44))), (0, .ref (g 100)), (1, .int v0), (2, .int v1), (3, .int v2)]) hx hb (oc_54 60 (aq_12 shX12_round_48) ub_6) hl (ltb rfl) rfl (fun ls hl => ?_)
            refine lv_iload_n hx hb (oc_29 62 (aq_14 shX12_round_48)) rfl (lvA6 hl) ?_
            refine lv_iconst (v := (-1)) hx hb (oc_2 63 (aq_15 shX12_round_48)) kic_m1 ?_
            refine lv_icmp_ne (tgt := 72) hx hb (oc_160 64 (aq_16 shX12_round_48) sgw_0_8) rfl (fun c_14 => ?_) (fun c_14 => ?_)
            ·
              have tc_14 : (v2.toInt : Int) ≠ (-1) := fun q => c_14 (Int32.toInt_inj.mp q)
              obtain ⟨w0, hw0, rfl⟩ := nI_of (x := v2) (fun q => by have := Int32.lt_iff_toInt_lt.mp q; have e : (0 : Int32).toInt = 0 := rfl; (first | omega | (have zz0 := Hid.u hi_cn; have zz1 := Hid.u hi_cn7; have zz2 := Hid.u hq_cn7; omega)))
              have tw0 : (nI w0).toInt = (w0 : Int) := nI_toInt hw0
              have zw0 : (nI w0).toInt.toNat = w0 := by (first | omega | (have zz0 := Hid.u hi_cn; have zz1 := Hid.u hi_cn7; have zz2 := Hid.u hq_cn7; omega))
              refine lv_iload_n hx hb (oc_29 72 shX12_round_72) rfl (lvA6 hl) ?_
              refine lv_iload hx hb (oc_21 73 (aq_1 shX12_round_72) ub_4) (lvA2 hl) ?_
              have : (nI (cn7 44)).toInt = (((cn7 44) : Nat) : Int) := nI_toInt (by (first | omega | (have zz0 := Hid.u hi_cn; have zz1 := Hid.u hi_cn7; have zz2 := Hid.u hq_cn7; omega)))
              refine lv_icmp_lt (tgt := 80) hx hb (oc_161 75 (aq_3 shX12_round_72) sgw_0_5) rfl (fun c_15 => ?_) (fun c_15 => ?_)
              ·
                have tc_15 : ((nI w0).toInt : Int) < (nI (cn7 44)).toInt := Int32.lt_iff_toInt_lt.mp c_15
                refine lv_iconst (v := 0) hx hb (oc_3 80 (aq_8 shX12_round_72)) kic_0 ?_
                refine lv_istore (lv' := [(7, .int 0), (6, .int (nI mr_10)), (5, .int (nI (2 ^ (cn7 44) - 1))), (4, .int (nI (cn7 44))), (0, .ref (g 100)), (1, .int v0), (2, .int v1), (3, .int (nI w0))]) hx hb (oc_54 81 (aq_9 shX12_round_72) ub_7) hl (ltb rfl) rfl (fun ls hl => ?_)
                have lp_83 : ∀ (n : Nat) (i83 : Nat) (l83 : Nat) (b83 : Nat) (c83 : Nat → Nat) (I83 : Nat → Int32) (F83 : Nat → Nat → Int32) (H : Heap) (locs : List Loc) , w0 - i83 < n → (i83 ≤ w0 ∧ Fr [44] [45] [42, 43] cn In Fn c83 I83 F83 ∧ IM c83 F83 ∧ (l83 ≤ 255 ∧ b83 < c83 44 ∧ c83 44 ≤ 8 ∧ w0 < c83 44) ∧ (c83 44 ≤ cntB l83 (c83 44) + i83) ∧ (AK c83 F83)) → va_P D vwCl (wM cI cB cZ g c83 I83 F83) H → va_D A (wM cI cB cZ g c83 I83 F83) → va_S A s.heap H locs → ∀ ls : Array Slot, lv_has ls 8 [(7, .int (nI i83)), (6, .int (nI b83)), (5, .int (nI l83)), (4, .int (nI (cn7 44))), (0, .ref (g 100)), (1, .int v0), (2, .int v1), (3, .int (nI w0))] → W p l e (RM 4 0 0) s m ([.ref (g 100), .int v0, .int v1, .int (nI w0)]).toArray below meth c H locs 0 0 (MQ below (va_Qi (fun (r : Int32) (u : (Nat → Nat) × (Nat → Int32) × (Nat → Nat → Int32)) => (fun r c2 I2 F2 => Fr [44] [45] [42, 43] cn In Fn c2 I2 F2 ∧ IM c2 F2 ∧ (True)) r u.1 u.2.1 u.2.2) (fun (u : (Nat → Nat) × (Nat → Int32) × (Nat → Nat → Int32)) (t : State) => va_P D vwCl (wM cI cB cZ g u.1 u.2.1 u.2.2) t.heap ∧ va_D A (wM cI cB cZ g u.1 u.2.1 u.2.2)) A) ([.ref (g 100), .int v0, .int v1, .int (nI w0)]).toArray s 0 0 A) (F0 m 83 ls []) := by
                  intro n83
                  induction n83 with
                  | zero => intros; (first | omega | (have zz0 := Hid.u hi_cn; have zz1 := Hid.u hi_cn7; have zz2 := Hid.u hq_cn7; omega))
                  | succ n83 ih83 =>
                    intro i83 l83 b83 c83 I83 F83 H locs hmu83 hinv83 hP hD hS ls hl
                    obtain ⟨hr83, hfr83, hI83, hx83_0, hx83_1, hx83_2⟩ := hinv83
                    have ti83 : (nI i83).toInt = (i83 : Int) := nI_toInt (by (first | omega | (have zz0 := Hid.u hi_cn; have zz1 := Hid.u hi_cn7; have zz2 := Hid.u hq_cn7; omega)))
                    have hi_c83 : Hid (CB c83) := hI83.b
                    have hq_c83 := Hid.i (frq_44_0_1_2_46_57_58_62_63_75_83 hfr83)
                    refine lv_iload hx hb (oc_21 83 (aq_11 shX12_round_72) ub_7) (lvA0 hl) ?_
                    refine lv_iload_n hx hb (oc_29 85 (aq_13 shX12_round_72)) rfl (lvA7 hl) ?_
                    refine lv_icmp_ge (tgt := 116) hx hb (oc_162 86 (aq_14 shX12_round_72) sgw_0_30) rfl (fun c_16 => ?_) (fun c_16 => ?_)
                    ·
                      have tc_16 : ((nI w0).toInt : Int) ≤ (nI i83).toInt := Int32.le_iff_toInt_le.mp c_16
                      refine lv_aload_n hx hb (oc_42 116 (aq_20 shX12_round_96)) rfl (lvA4 hl) ?_
                      refine gM_101 S hK hP (v := .ref (g 42)) rfl (oc_180 117 (aq_21 shX12_round_96) uw_0_101) ?_
                      refine lv_iload hx hb (oc_21 120 shX12_round_120 ub_6) (lvA1 hl) ?_
                      have kb_1 : b83 < 10 := by (first | omega | (have zz0 := Hid.u hi_c83; have zz1 := Hid.u hi_cn; have zz2 := Hid.u hi_cn7; have zz3 := Hid.u hq_c83; have zz4 := Hid.u hq_cn7; omega))
                      obtain ⟨a_17, ha_17, ea_17⟩ := hx83_2 b83 (by (first | omega | (have zz0 := Hid.u hi_c83; have zz1 := Hid.u hi_cn; have zz2 := Hid.u hi_cn7; have zz3 := Hid.u hq_c83; have zz4 := Hid.u hq_cn7; omega)))
                      refine ldM_42 hx hb hK hP (x := (nI a_17)) (vp_in_nI kb_1 (ltb rfl)) (nI_clamp (Nat.lt_trans kb_1 (ltb rfl))) ea_17 (oc_46 122 (aq_2 shX12_round_120)) ?_
                      exact W.iret (v := (nI a_17)) hx hb hr (fun t ht hW => ⟨⟨(nI a_17), (c83, I83, F83), rfl, ⟨(Fr.mo hfr83 (sbl rfl) (sbl rfl) (sbl rfl)), hI83, trivial⟩, by rw [ht]; exact hP, hD⟩, hS.F ht⟩) hS.2.2 (oc_172 123 (aq_3 shX12_round_120))
                    ·
                      have tc_16 : ((nI i83).toInt : Int) < (nI w0).toInt := Int32.lt_iff_toInt_lt.mp (Int32.not_le.mp c_16)
                      refine lv_iload hx hb (oc_21 89 (aq_17 shX12_round_72) ub_5) (lvA2 hl) ?_
                      refine lv_iconst (v := 1) hx hb (oc_4 91 (aq_19 shX12_round_72)) kic_1 ?_
                      refine lv_iload hx hb (oc_21 92 (aq_20 shX12_round_72) ub_6) (lvA1 hl) ?_
                      refine lv_ishl hx hb (oc_120 94 (aq_22 shX12_round_72)) ?_
                      refine lv_iconst (v := (-1)) hx hb (oc_2 95 (aq_23 shX12_round_72)) kic_m1 ?_
                      refine lv_ixor hx hb (oc_130 96 shX12_round_96) ?_
                      refine lv_iand hx hb (oc_126 97 (aq_1 shX12_round_96)) ?_
                      refine lv_topi (fun y_18 ey_18 => ?_)
                      obtain rfl : y_18 = (nI (clr l83 b83)) := ey_18.trans (clrI (by (first | omega | (have zz0 := Hid.u hi_c83; have zz1 := Hid.u hi_cn; have zz2 := Hid.u hi_cn7; have zz3 := Hid.u hq_c83; have zz4 := Hid.u hq_cn7; omega))) (by (first | omega | (have zz0 := Hid.u hi_c83; have zz1 := Hid.u hi_cn; have zz2 := Hid.u hi_cn7; have zz3 := Hid.u hq_c83; have zz4 := Hid.u hq_cn7; omega))))
                      refine lv_istore (lv' := [(5, .int (nI (clr l83 b83))), (7, .int (nI i83)), (6, .int (nI b83)), (4, .int (nI (cn7 44))), (0, .ref (g 100)), (1, .int v0), (2, .int v1), (3, .int (nI w0))]) hx hb (oc_54 98 (aq_2 shX12_round_96) ub_5) hl (ltb rfl) rfl (fun ls hl => ?_)
                      refine lv_aload_n hx hb (oc_42 100 (aq_4 shX12_round_96)) rfl (lvA4 hl) ?_
                      refine lv_iload hx hb (oc_21 101 (aq_5 shX12_round_96) ub_6) (lvA2 hl) ?_
                      refine lv_iload hx hb (oc_21 103 (aq_7 shX12_round_96) ub_5) (lvA0 hl) ?_
                      have hFc := free_all hD hS hA
                      refine va_calli (runV_a (As := [.int (nI b83), .int (nI (clr l83 b83))]) (rest := []) S (q_nextOf l D cI cB cZ g c83 I83 F83 (nI b83) (clr l83 b83) H.size hI83 (by (first | omega | (have zz0 := Hid.u hi_c83; have zz1 := Hid.u hi_cn; have zz2 := Hid.u hi_cn7; have zz3 := Hid.u hq_c83; have zz4 := Hid.u hq_cn7; omega))) hx83_2 (Or.inr ⟨_, by (first | omega | (have zz0 := Hid.u hi_c83; have zz1 := Hid.u hi_cn; have zz2 := Hid.u hi_cn7; have zz3 := Hid.u hq_c83; have zz4 := Hid.u hq_cn7; omega)), rfl⟩) (by have := clr_le (l := l83) (a := b83); (first | omega | (have zz0 := Hid.u hi_c83; have zz1 := Hid.u hi_cn; have zz2 := Hid.u hi_cn7; have zz3 := Hid.u hq_c83; have zz4 := Hid.u hq_cn7; omega)))) kV_RX12_383 hK hP hD 0 rfl rfl rfl ⟨Nat.le_of_ble_eq_true rfl, Nat.le_of_ble_eq_true rfl⟩ ⟨Nat.le_of_ble_eq_true rfl, Nat.le_of_ble_eq_true rfl⟩ rfl hl.1 rfl (Nat.le_of_ble_eq_true rfl) (oc_182 105 (aq_9 shX12_round_96) uw_1_127)) hS (fun q _ h => hFc q h) hFc (fun r_19 u t H1 locs ht hvm wh_20 hB hz1 hk1 hS => ?_)
                      obtain ⟨cn20, In20, Fn20⟩ := u
                      obtain ⟨hP1, hD1⟩ := hB
                      rw [ht] at hP1
                      have hP : va_P D vwCl (wM cI cB cZ g cn20 In20 Fn20) H1 := hP1
                      have hD : va_D A (wM cI cB cZ g cn20 In20 Fn20) := hD1.weaken (fun _ _ _ h => hFc _ h)
                      generalize H1 = H at hP hS ⊢
                      have vh_20 : (fun r c2 I2 F2 => Fr [] [45] [] c83 I83 F83 c2 I2 F2 ∧ IM c2 F2 ∧ (NX (clr l83 b83) r ((c83 44)))) r_19 cn20 In20 Fn20 := wh_20
                      obtain ⟨hfc20, hIn20, h_20⟩ := vh_20
                      obtain rfl : c83 = cn20 := (funext (fun k => hfc20.1 k List.not_mem_nil)).symm
                      obtain rfl : F83 = Fn20 := (funext (fun k => hfc20.2.2 k List.not_mem_nil)).symm
                      have hf20 : Fr [44] [45] [42, 43] cn In Fn c83 In20 F83 := Fr.mo (Fr.tr hfr83 hfc20) (sbl rfl) (sbl rfl) (sbl rfl)
                      have hi_c83 : Hid (CB c83) := hIn20.b
                      have hq_c83 := Hid.i (frq_44_0_1_2_46_57_58_62_63_75_83 hf20)
                      have hAK20 : AK c83 F83 := AK.fr hx83_2 hfc20 (by decide) (by decide)
                      rcases h_20 with ⟨rfl, har_19⟩ | ⟨mr_19, hr_19, rfl, hbr_19⟩
                      ·
                        exfalso; have q1 := cntB_0 har_19; have q2 := cntB_clr (l := l83) (a := b83) (m := c83 44) (by (first | omega | (have zz0 := Hid.u hi_c83; have zz1 := Hid.u hi_cn; have zz2 := Hid.u hi_cn7; have zz3 := Hid.u hq_c83; have zz4 := Hid.u hq_cn7; omega))) (by (first | omega | (have zz0 := Hid.u hi_c83; have zz1 := Hid.u hi_cn; have zz2 := Hid.u hi_cn7; have zz3 := Hid.u hq_c83; have zz4 := Hid.u hq_cn7; omega))) (by (first | omega | (have zz0 := Hid.u hi_c83; have zz1 := Hid.u hi_cn; have zz2 := Hid.u hi_cn7; have zz3 := Hid.u hq_c83; have zz4 := Hid.u hq_cn7; omega))); (first | omega | (have zz0 := Hid.u hi_c83; have zz1 := Hid.u hi_cn; have zz2 := Hid.u hi_cn7; have zz3 := Hid.u hq_c83; have zz4 := Hid.u hq_cn7; omega))
                      ·
                        refine lv_istore (lv' := [(6, .int (nI mr_19)), (5, .int (nI (clr l83 b83))), (7, .int (nI i83)), (4, .int (nI (cn7 44))), (0, .ref (g 100)), (1, .int v0), (2, .int v1), (3, .int (nI w0))]) hx hb (oc_54 108 (aq_12 shX12_round_96) ub_6) hl (ltb rfl) rfl (fun ls hl => ?_)
                        refine lv_iinc (v := (nI (i83 + 1))) (lv' := [(7, .int (nI (i83 + 1))), (6, .int (nI mr_19)), (5, .int (nI (clr l83 b83))), (4, .int (nI (cn7 44))), (0, .ref (g 100)), (1, .int v0), (2, .int v1), (3, .int (nI w0))]) hx hb (oc_132 110 (aq_14 shX12_round_96) ub_7 sgb_1) hl (k := 2) rfl (nI_1 _) (ltb rfl) rfl (fun ls hl => ?_)
                        refine lv_goto (tgt := 83) hx hb (oc_167 113 (aq_17 shX12_round_96) sgw_255_226) rfl ?_
                        exact ih83 (i83 + 1) (clr l83 b83) mr_19 c83 In20 F83 _ _ (by (first | omega | (have zz0 := Hid.u hi_c83; have zz1 := Hid.u hi_cn; have zz2 := Hid.u hi_cn7; have zz3 := Hid.u hq_c83; have zz4 := Hid.u hq_cn7; omega))) ⟨(by (first | omega | (have zz0 := Hid.u hi_c83; have zz1 := Hid.u hi_cn; have zz2 := Hid.u hi_cn7; have zz3 := Hid.u hq_c83; have zz4 := Hid.u hq_cn7; omega))), (Fr.mo hf20 (sbl rfl) (sbl rfl) (sbl rfl)), hIn20, ⟨by have := clr_le (l := l83) (a := b83); (first | omega | (have zz0 := Hid.u hi_c83; have zz1 := Hid.u hi_cn; have zz2 := Hid.u hi_cn7; have zz3 := Hid.u hq_c83; have zz4 := Hid.u hq_cn7; omega)), by (first | omega | (have zz0 := Hid.u hi_c83; have zz1 := Hid.u hi_cn; have zz2 := Hid.u hi_cn7; have zz3 := Hid.u hq_c83; have zz4 := Hid.u hq_cn7; omega)), by (first | omega | (have zz0 := Hid.u hi_c83; have zz1 := Hid.u hi_cn; have zz2 := Hid.u hi_cn7; have zz3 := Hid.u hq_c83; have zz4 := Hid.u hq_cn7; omega)), by (first | omega | (have zz0 := Hid.u hi_c83; have zz1 := Hid.u hi_cn; have zz2 := Hid.u hi_cn7; have zz3 := Hid.u hq_c83; have zz4 := Hid.u hq_cn7; omega))⟩, (by have q := cntB_clr (l := l83) (a := b83) (m := c83 44) (by (first | omega | (have zz0 := Hid.u hi_c83; have zz1 := Hid.u hi_cn; have zz2 := Hid.u hi_cn7; have zz3 := Hid.u hq_c83; have zz4 := Hid.u hq_cn7; omega))) (by (first | omega | (have zz0 := Hid.u hi_c83; have zz1 := Hid.u hi_cn; have zz2 := Hid.u hi_cn7; have zz3 := Hid.u hq_c83; have zz4 := Hid.u hq_cn7; omega))) (by (first | omega | (have zz0 := Hid.u hi_c83; have zz1 := Hid.u hi_cn; have zz2 := Hid.u hi_cn7; have zz3 := Hid.u hq_c83; have zz4 := Hid.u hq_cn7; omega))); rw [show (c83 44) = c83 44 by first | rfl | assumption]; (first | omega | (have zz0 := Hid.u hi_c83; have zz1 := Hid.u hi_cn; have zz2 := Hid.u hi_cn7; have zz3 := Hid.u hq_c83; have zz4 := Hid.u hq_cn7; omega))), hAK20⟩ hP hD hS ls (lv_sub hl [0, 1, 2, 3, 4, 5, 6, 7] rfl)
                exact lp_83 _ 0 (2 ^ (cn7 44) - 1) mr_10 cn7 In11 Fn7 _ _ (Nat.lt_succ_self _) ⟨(by (first | omega | (have zz0 := Hid.u hi_cn; have zz1 := Hid.u hi_cn7; have zz2 := Hid.u hq_cn7; omega))), (Fr.mo hf11 (sbl rfl) (sbl rfl) (sbl rfl)), hIn11, ⟨by (first | omega | (have zz0 := Hid.u hi_cn; have zz1 := Hid.u hi_cn7; have zz2 := Hid.u hq_cn7; omega)), by (first | omega | (have zz0 := Hid.u hi_cn; have zz1 := Hid.u hi_cn7; have zz2 := Hid.u hq_cn7; omega)), by (first | omega | (have zz0 := Hid.u hi_cn; have zz1 := Hid.u hi_cn7; have zz2 := Hid.u hq_cn7; omega)), by (first | omega | (have zz0 := Hid.u hi_cn; have zz1 := Hid.u hi_cn7; have zz2 := Hid.u hq_cn7; omega))⟩, (by have q := full_cnt (m := (cn7 44)) (by (first | omega | (have zz0 := Hid.u hi_cn; have zz1 := Hid.u hi_cn7; have zz2 := Hid.u hq_cn7; omega))); rw [show (cn7 44) = (cn7 44) by (first | omega | (have zz0 := Hid.u hi_cn; have zz1 := Hid.u hi_cn7; have zz2 := Hid.u hq_cn7; omega))]; (first | omega | (have zz0 := Hid.u hi_cn; have zz1 := Hid.u hi_cn7; have zz2 := Hid.u hq_cn7; omega))), hAK11⟩ hP hD hS ls (lv_sub hl [0, 1, 2, 3, 4, 5, 6, 7] rfl)
              ·
                have tc_15 : ((nI (cn7 44)).toInt : Int) ≤ (nI w0).toInt := Int32.le_iff_toInt_le.mp (Int32.not_lt.mp c_15)
                refine lv_iconst (v := (-1)) hx hb (oc_2 78 (aq_6 shX12_round_72)) kic_m1 ?_
                exact W.iret (v := (-1)) hx hb hr (fun t ht hW => ⟨⟨(-1), (cn7, In11, Fn7), rfl, ⟨(Fr.mo hf11 (sbl rfl) (sbl rfl) (sbl rfl)), hIn11, trivial⟩, by rw [ht]; exact hP, hD⟩, hS.F ht⟩) hS.2.2 (oc_172 79 (aq_7 shX12_round_72))
            ·
              have tc_14 : (v2.toInt : Int) = (-1) := congrArg Int32.toInt c_14
              refine lv_aload_n hx hb (oc_42 67 (aq_19 shX12_round_48)) rfl (lvA3 hl) ?_
              refine gM_374 S hK hP (v := .int (In11 45)) rfl (oc_180 68 (aq_20 shX12_round_48) uw_1_118) ?_
              exact W.iret (v := (In11 45)) hx hb hr (fun t ht hW => ⟨⟨(In11 45), (cn7, In11, Fn7), rfl, ⟨(Fr.mo hf11 (sbl rfl) (sbl rfl) (sbl rfl)), hIn11, trivial⟩, by rw [ht]; exact hP, hD⟩, hS.F ht⟩) hS.2.2 (oc_172 71 (aq_23 shX12_round_48))
      ·
        have tc_5 : (v2.toInt : Int) < (-1) := Int32.lt_iff_toInt_lt.mp (Int32.not_le.mp c_5)
        refine lv_iconst (v := (-1)) hx hb (oc_2 23 (aq_23 shX12_round_0)) kic_m1 ?_
        exact W.iret (v := (-1)) hx hb hr (fun t ht hW => ⟨⟨(-1), (cn, In, Fn), rfl, ⟨(Fr.mo Fr.rf (sbl rfl) (sbl rfl) (sbl rfl)), hI, trivial⟩, by rw [ht]; exact hP, hD⟩, hS.F ht⟩) hS.2.2 (oc_172 24 shX12_round_24)
    ·
      have h_4 : ¬ (1 ≤ v1.toInt ∧ v1.toInt ≤ 400) := h_4
      refine lv_if_eq (tgt := 23) hx hb (oc_153 15 (aq_15 shX12_round_0) sgw_0_8) rfl (fun _ => ?_) (fun h => absurd h cq_eq_0_0)
      refine lv_iconst (v := (-1)) hx hb (oc_2 23 (aq_23 shX12_round_0)) kic_m1 ?_
      exact W.iret (v := (-1)) hx hb hr (fun t ht hW => ⟨⟨(-1), (cn, In, Fn), rfl, ⟨(Fr.mo Fr.rf (sbl rfl) (sbl rfl) (sbl rfl)), hI, trivial⟩, by rw [ht]; exact hP, hD⟩, hS.F ht⟩) hS.2.2 (oc_172 24 shX12_round_24)
  ·
    have h_2 : ¬ (0 ≤ v0.toInt ∧ v0.toInt ≤ 399) := h_2
    refine lv_if_eq (tgt := 23) hx hb (oc_153 4 (aq_4 shX12_round_0) sgw_0_19) rfl (fun _ => ?_) (fun h => absurd h cq_eq_0_0)
    refine lv_iconst (v := (-1)) hx hb (oc_2 23 (aq_23 shX12_round_0)) kic_m1 ?_
    exact W.iret (v := (-1)) hx hb hr (fun t ht hW => ⟨⟨(-1), (cn, In, Fn), rfl, ⟨(Fr.mo Fr.rf (sbl rfl) (sbl rfl) (sbl rfl)), hI, trivial⟩, by rw [ht]; exact hP, hD⟩, hS.F ht⟩) hS.2.2 (oc_172 24 shX12_round_24)
