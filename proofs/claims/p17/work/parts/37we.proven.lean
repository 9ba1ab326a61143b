/-- how many below n have P -/
def CNT (P : Nat → Prop) : Nat → Int32 → Prop
  | 0, r => r = 0
  | n + 1, r => ∃ x : Int32, CNT P n x ∧ ((P n ∧ r = x + 1) ∨ (¬ P n ∧ r = x))
theorem CNT.un {P Q : Nat → Prop} : ∀ {n : Nat} {r r2 : Int32}, (∀ k : Nat, k < n → (P k ↔ Q k)) → CNT P n r → CNT Q n r2 → r = r2
  | 0, _, _, _, h, h2 => Eq.trans h (Eq.symm h2)
  | n + 1, r, r2, e, ⟨x, a, b⟩, ⟨y, a2, b2⟩ => by
    have exy := CNT.un (fun k hk => e k (by omega)) a a2
    have en := e n (by omega)
    subst exy
    rcases b with ⟨p, b⟩ | ⟨p, b⟩ <;> rcases b2 with ⟨q, b2⟩ | ⟨q, b2⟩
    · rw [b, b2]
    · exact absurd (en.mp p) q
    · exact absurd (en.mpr q) p
    · rw [b, b2]
theorem CNT.skip {P : Nat → Prop} {n : Nat} {x : Int32} : ∀ m : Nat, (∀ l : Nat, n ≤ l → l < n + m → ¬ P l) → CNT P n x → CNT P (n + m) x
  | 0, _, h => h
  | m + 1, a, h => ⟨x, CNT.skip m (fun l h1 h2 => a l h1 (by omega)) h, Or.inr ⟨a (n + m) (by omega) (by omega), rfl⟩⟩
theorem CNT.fill {P : Nat → Prop} {n : Nat} {x : Int32} : ∀ m : Nat, (∀ l : Nat, n ≤ l → l < n + m → P l) → CNT P n x → CNT P (n + m) (x + nI m)
  | 0, _, h => by
    rw [show nI 0 = 0 from rfl, Int32.add_zero]
    exact h
  | m + 1, a, h => ⟨x + nI m, CNT.fill m (fun l h1 h2 => a l h1 (by omega)) h, Or.inl ⟨a (n + m) (by omega) (by omega), by
      rw [Int32.add_assoc]
      exact congrArg (x + ·) (nI_add m 1).symm⟩⟩
/-- how many below n say yes -/
def rmN (q : Nat → Bool) : Nat → Nat
  | 0 => 0
  | n + 1 => rmN q n + (if q n = true then 1 else 0)
theorem rmN_n {q : Nat → Bool} : ∀ n : Nat, rmN q n ≤ n
  | 0 => Nat.le_refl _
  | n + 1 => by
    have h := rmN_n (q := q) n
    show rmN q n + (if q n = true then 1 else 0) ≤ n + 1
    split <;> omega
theorem rmN_le {q g : Nat → Bool} : ∀ n : Nat, (∀ i : Nat, i < n → q i = true → g i = true) → rmN q n ≤ rmN g n
  | 0, _ => Nat.le_refl _
  | n + 1, h => by
    have ih := rmN_le n (fun i hi => h i (Nat.lt_succ_of_lt hi))
    show rmN q n + (if q n = true then 1 else 0) ≤ rmN g n + (if g n = true then 1 else 0)
    by_cases a : q n = true
    · rw [if_pos a, if_pos (h n (Nat.lt_succ_self n) a)]; omega
    · rw [if_neg a]; omega
theorem rmN_lt {q g : Nat → Bool} {p : Nat} (hg : g p = true) (hq : ¬ q p = true) : ∀ n : Nat, p < n → (∀ i : Nat, i < n → q i = true → g i = true) → rmN q n < rmN g n
  | n + 1, hp, h => by
    show rmN q n + (if q n = true then 1 else 0) < rmN g n + (if g n = true then 1 else 0)
    by_cases e : p = n
    · subst e
      rw [if_neg hq, if_pos hg]
      have := rmN_le p (fun i hi => h i (Nat.lt_succ_of_lt hi))
      omega
    · have ih := rmN_lt hg hq n (by omega) (fun i hi => h i (Nat.lt_succ_of_lt hi))
      by_cases a : q n = true
      · rw [if_pos a, if_pos (h n (Nat.lt_succ_self n) a)]; omega
      · rw [if_neg a]; omega
theorem rmN_0 {q : Nat → Bool} : ∀ n : Nat, rmN q n = 0 → ∀ i : Nat, i < n → ¬ q i = true
  | n + 1, h, i, hi => by
    have h : rmN q n + (if q n = true then 1 else 0) = 0 := h
    by_cases e : i = n
    · subst e
      intro a
      rw [if_pos a] at h
      omega
    · exact rmN_0 n (by omega) i (by omega)
/-- a litre that one of the n proofs asked for has -/
def COV (A : Nat → Prop) (f t : Nat → Int32) (n l : Nat) : Prop := ∃ p : Nat, p < n ∧ A p ∧ (f p).toInt ≤ (l : Int) ∧ (l : Int) < (t p).toInt
/-- the asked ones that end behind a litre -/
def askB (A : Nat → Prop) [DecidablePred A] (t : Nat → Int32) (l : Nat) (p : Nat) : Bool := decide (A p ∧ (l : Int) < (t p).toInt)
section PVS
variable {A : Nat → Prop} {f t : Nat → Int32} {n l p a b : Nat} {x : Int32}
theorem pv_step (hp : p < n) (ha : A p) (hl : (l : Int) < (t p).toInt) (hm : ∀ q : Nat, q < n → A q → (l : Int) < (t q).toInt → (f p).toInt ≤ (f q).toInt) (h : CNT (COV A f t n) l x) (ea : (f p).toInt = (a : Int)) (eb : (t p).toInt = (b : Int)) (hab : a < b) : CNT (COV A f t n) b (x + nI (b - max a l)) := by
  have h1 : CNT (COV A f t n) (max a l) x := by
    have e : max a l = l + (max a l - l) := by omega
    rw [e]
    refine CNT.skip _ (fun k k1 k2 => ?_) h
    rintro ⟨q, hq, aq, c1, c2⟩
    have := hm q hq aq (by omega)
    omega
  have e : b = max a l + (b - max a l) := by omega
  have h2 := CNT.fill (b - max a l) (fun k k1 k2 => (⟨p, hp, ha, by omega, by omega⟩ : COV A f t n k)) h1
  rw [← e] at h2
  exact h2
theorem pv_rm [DecidablePred A] (hp : p < n) (ha : A p) (hl : (l : Int) < (t p).toInt) (eb : (t p).toInt = (b : Int)) : rmN (askB A t b) n < rmN (askB A t l) n := by
  refine rmN_lt (p := p) (decide_eq_true ⟨ha, hl⟩) (fun q => ?_) n hp (fun i hi q => ?_)
  · have := of_decide_eq_true q
    omega
  · have := of_decide_eq_true q
    exact decide_eq_true ⟨this.1, by omega⟩
theorem pv_none [DecidablePred A] (h : rmN (askB A t l) n = 0) : ∀ q : Nat, q < n → A q → ¬ (l : Int) < (t q).toInt := fun q hq aq w => rmN_0 n h q hq (decide_eq_true ⟨aq, w⟩)
theorem pv_end {m : Nat} (h : CNT (COV A f t n) l x) (hn : ∀ q : Nat, q < n → A q → ¬ (l : Int) < (t q).toInt) (hm : l ≤ m) : CNT (COV A f t n) m x := by
  have e : m = l + (m - l) := by omega
  rw [e]
  refine CNT.skip _ (fun k k1 k2 => ?_) h
  rintro ⟨q, hq, aq, c1, c2⟩
  have := hn q hq aq
  omega
end PVS
theorem pv_hpf {ad : Nat → Nat → Nat} {cn c3 : Nat → Nat} {Fn F3 : Nat → Nat → Int32} {v0 : Int32} (hM : IM c3 F3) (e13 : cn 13 = c3 63) (e160 : ∀ k : Nat, k < cn 13 → Fn 160 k = F3 67 k) (e161 : ∀ k : Nat, k < cn 13 → Fn 161 k = F3 68 k) (e162 : ∀ k : Nat, k < cn 13 → Fn 162 k = F3 69 k) (eo : ∀ k : Nat, k < cn 13 → (Fn 161 k).toInt < (Fn 162 k).toInt) (h40 : cn 13 ≤ 40) : ∀ p : Nat, p < cn 13 → ∃ a b : Nat, (Fn 161 p).toInt = (a : Int) ∧ (Fn 162 p).toInt = (b : Int) ∧ a < b ∧ b ≤ 8000 ∧ (Fn 160 p = v0 → b ≤ mixN (F3 10) (F3 64 v0.toInt.toNat) 20) := fun p hp => by
  obtain ⟨a, ha, ea⟩ := hM.e68 p (by omega)
  obtain ⟨b, hb, eb⟩ := hM.e69 p (by omega)
  have o := eo p hp
  have a1 : (Fn 161 p).toInt = (a : Int) := by rw [e161 p hp, ea, nI_toInt (by omega)]
  have b1 : (Fn 162 p).toInt = (b : Int) := by rw [e162 p hp, eb, nI_toInt (by omega)]
  refine ⟨a, b, a1, b1, by omega, hb, fun q => ?_⟩
  have r := hM.pr p (by omega)
  rw [eb, nI_tn (by omega), ← e160 p hp, q] at r
  exact r
theorem nI_max9 {a b : Nat} (ha : a < 2 ^ 31) (hb : b < 2 ^ 31) : (if nI a < nI b then nI b else nI a) = nI (max a b) := by
  by_cases q : nI a < nI b
  · have w := Int32.lt_iff_toInt_lt.mp q
    rw [nI_toInt ha, nI_toInt hb] at w
    rw [if_pos q, show max a b = b by omega]
  · have w : (nI b).toInt ≤ (nI a).toInt := Int.not_lt.mp (fun e => q (Int32.lt_iff_toInt_lt.mpr e))
    rw [nI_toInt ha, nI_toInt hb] at w
    rw [if_neg q, show max a b = a by omega]



set_option maxRecDepth 100000 in
set_option maxHeartbeats 4000000 in
theorem q_EfirstProofBehind (l : Launch) (D : va_G) (cI cB cZ : ClassId) (zz qq vv : Nat) (bt : Nat → Int32) (g : Nat → Nat) (ad : Nat → Nat → Nat) (cn : Nat → Nat) (In : Nat → Int32) (Fn : Nat → Nat → Int32) (v0 v1 v2 : Int32) (hB : CBX cn) : Met l yX11_firstProofBehind (CWS yX11_firstProofBehind cX11_firstProofBehind 8 (some (.object "OilHome$Proof"))) (RM 3 0 0) (PBrx [.ref (g 0), .int v0, .int v1, .int v2] D cI cB cZ zz qq vv bt (wX cI (D.1 99) zz g ad cn In Fn)) (va_Sq (fun r => (∃ m : Nat, m < cn 13 ∧ r = some (ad 13 m) ∧ ((Fn 160 m = v1 ∧ (v2 = -1 ∨ Fn 163 m = v2)) ∧ v0.toInt < (Fn 162 m).toInt) ∧ ∀ q : Nat, q < cn 13 → (Fn 160 q = v1 ∧ (v2 = -1 ∨ Fn 163 q = v2)) → v0.toInt < (Fn 162 q).toInt → (Fn 161 m).toInt ≤ (Fn 161 q).toInt) ∨ (r = none ∧ ∀ q : Nat, q < cn 13 → (Fn 160 q = v1 ∧ (v2 = -1 ∨ Fn 163 q = v2)) → ¬ v0.toInt < (Fn 162 q).toInt))) 0 0 (fun _ => False) := by
  refine en_rx rfl pn_RX11 (Nat.le_of_ble_eq_true rfl) (fun p e s m below meth c hx hb hml hown S hr hlocks hnm hP hK hXS hS ls hl => ?_)
  have hl : lv_has ls 8 [(0, .ref (g 0)), (1, .int v0), (2, .int v1), (3, .int v2)] := hl
  have hb_cn : Hid (CBX cn) := hB
  replace hB : CBXh cn := hB
  refine lv_null hx hb (oc_1 0 shX11_firstProofBehind_0) ?_
  refine lv_astoreN (lv' := [(4, .null), (0, .ref (g 0)), (1, .int v0), (2, .int v1), (3, .int v2)]) hx hb (oc_58 1 (aq_1 shX11_firstProofBehind_0) ub_4) hl (ltb rfl) rfl (fun ls hl => ?_)
  refine lv_iconst (v := 0) hx hb (oc_3 3 (aq_3 shX11_firstProofBehind_0)) kic_0 ?_
  refine lv_istore (lv' := [(5, .int 0), (4, .null), (0, .ref (g 0)), (1, .int v0), (2, .int v1), (3, .int v2)]) hx hb (oc_54 4 (aq_4 shX11_firstProofBehind_0) ub_5) hl (ltb rfl) rfl (fun ls hl => ?_)
  have lp_6 : ∀ (n : Nat) (i6 : Nat) (x6_4 : Option Nat) , cn 13 - i6 < n → (i6 ≤ cn 13 ∧ ((x6_4 = none ∧ ∀ q : Nat, q < i6 → (Fn 160 q = v1 ∧ (v2 = -1 ∨ Fn 163 q = v2)) → ¬ v0.toInt < (Fn 162 q).toInt) ∨ ∃ m : Nat, m < i6 ∧ x6_4 = some (ad 13 m) ∧ ((Fn 160 m = v1 ∧ (v2 = -1 ∨ Fn 163 m = v2)) ∧ v0.toInt < (Fn 162 m).toInt) ∧ ∀ q : Nat, q < i6 → (Fn 160 q = v1 ∧ (v2 = -1 ∨ Fn 163 q = v2)) → v0.toInt < (Fn 162 q).toInt → (Fn 161 m).toInt ≤ (Fn 161 q).toInt)) → ∀ ls : Array Slot, lv_has ls 8 [(5, .int (nI i6)), (4, (va_rf x6_4)), (0, .ref (g 0)), (1, .int v0), (2, .int v1), (3, .int v2)] → W p l e (RM 3 0 0) s m ([.ref (g 0), .int v0, .int v1, .int v2]).toArray below meth c s.heap [] 0 0 (MQ below (va_Sq (fun r => (∃ m : Nat, m < cn 13 ∧ r = some (ad 13 m) ∧ ((Fn 160 m = v1 ∧ (v2 = -1 ∨ Fn 163 m = v2)) ∧ v0.toInt < (Fn 162 m).toInt) ∧ ∀ q : Nat, q < cn 13 → (Fn 160 q = v1 ∧ (v2 = -1 ∨ Fn 163 q = v2)) → v0.toInt < (Fn 162 q).toInt → (Fn 161 m).toInt ≤ (Fn 161 q).toInt) ∨ (r = none ∧ ∀ q : Nat, q < cn 13 → (Fn 160 q = v1 ∧ (v2 = -1 ∨ Fn 163 q = v2)) → ¬ v0.toInt < (Fn 162 q).toInt))) ([.ref (g 0), .int v0, .int v1, .int v2]).toArray s 0 0 (fun _ => False)) (F0 m 6 ls []) := by
    intro n6
    induction n6 with
    | zero => intros; (first | omega | (have zz0 := Hid.u hb_cn; omega))
    | succ n6 ih6 =>
      intro i6 x6_4 hmu6 hinv6 ls hl
      obtain ⟨hr6, hx6_0⟩ := hinv6
      have ti6 : (nI i6).toInt = (i6 : Int) := nI_toInt (by (first | omega | (have zz0 := Hid.u hb_cn; omega)))
      rcases hx6_0 with ⟨rfl, hn9⟩ | ⟨m9, h9, rfl, hm9, hmin9⟩
      ·
        have hl : lv_has ls 8 [(5, .int (nI i6)), (4, .null), (0, .ref (g 0)), (1, .int v0), (2, .int v1), (3, .int v2)] := hl
        refine lv_iload hx hb dX11_firstProofBehind_6 (lvA0 hl) ?_
        refine lv_aload_n hx hb dX11_firstProofBehind_8 rfl (lvA2 hl) ?_
        refine gf_RX11_71 S hK hP 0 xo_0 (v := .ref (g 13)) rfl dX11_firstProofBehind_9 ?_
        refine vp_callSi (runV_r (As := []) (rest := [.int (nI i6)]) S (q_l_size l D cI cB cZ (g 13) (if (cn 13) = 0 then zz else ad 2 3) (In 13) (nI (cn 13))) kV_RX11_84 hK hP [27] (one_is xo_27) 27 xo_27 rfl rfl ⟨Nat.le_of_ble_eq_true rfl, Nat.le_of_ble_eq_true rfl⟩ ⟨Nat.le_of_ble_eq_true rfl, Nat.le_of_ble_eq_true rfl⟩ rfl hl.1 rfl (Nat.le_of_ble_eq_true rfl) dX11_firstProofBehind_12) (fun r_1 h_2 => ?_)
        subst h_2
        have : (nI (cn 13)).toInt = (((cn 13) : Nat) : Int) := nI_toInt (by (first | omega | (have zz0 := Hid.u hb_cn; omega)))
        refine lv_icmp_ge (tgt := 104) hx hb dX11_firstProofBehind_15 rfl (fun c_3 => ?_) (fun c_3 => ?_)
        ·
          have tc_3 : ((nI (cn 13)).toInt : Int) ≤ (nI i6).toInt := Int32.le_iff_toInt_le.mp c_3
          refine lv_aloadN hx hb dX11_firstProofBehind_104 (lvA1 hl) ?_
          exact W.aret (v := .null) hx hb hr (Or.inl ⟨_, rfl⟩) (Or.inl rfl) (fun t ht hW => ⟨none, rfl, (Or.inr ⟨rfl, fun q hq => hn9 q (by (first | omega | (have zz0 := Hid.u hb_cn; omega)))⟩), ht⟩) (fun _ h => absurd h List.not_mem_nil) dX11_firstProofBehind_106
        ·
          have tc_3 : ((nI i6).toInt : Int) < (nI (cn 13)).toInt := Int32.lt_iff_toInt_lt.mp (Int32.not_le.mp c_3)
          refine lv_aload_n hx hb dX11_firstProofBehind_18 rfl (lvA2 hl) ?_
          refine gf_RX11_71 S hK hP 0 xo_0 (v := .ref (g 13)) rfl dX11_firstProofBehind_19 ?_
          refine lv_iload hx hb dX11_firstProofBehind_22 (lvA0 hl) ?_
          refine va_csq (runV_rx (As := [.int (nI i6)]) (rest := []) S (q_l_get l D cI cB cZ zz qq vv bt (g 13) (ad 2 3) (cn 23) (cn 13) i6 (ad 13 i6) (In 13) (fun i => if i < (cn 13) then some (ad 13 i) else none) (by (first | omega | (have zz0 := Hid.u hb_cn; omega))) (if_pos (by (first | omega | (have zz0 := Hid.u hb_cn; omega)))) (by (first | omega | (have zz0 := Hid.u hb_cn; omega))) (by (first | omega | (have zz0 := Hid.u hb_cn; omega)))) kV_RX11_87 hK hXS hS hP _ (two_is (xl_3 (by (first | omega | (have zz0 := Hid.u hb_cn; omega)))) (xf_16 (k := 0) (by (first | omega | (have zz0 := Hid.u hb_cn; omega))))) (va_recv hK.1 hP (ci := 0) rfl xo_27) ⟨Nat.le_of_ble_eq_true rfl, Nat.le_of_ble_eq_true rfl⟩ ⟨Nat.le_of_ble_eq_true rfl, Nat.le_of_ble_eq_true rfl⟩ rfl hl.1 rfl (Nat.le_of_ble_eq_true rfl) dX11_firstProofBehind_24) (fun r_4 h_5 => ?_)
          subst h_5
          have kf_1 : i6 < cn 13 := by (first | omega | (have zz0 := Hid.u hb_cn; omega))
          refine va_castS hx hb hown (S.2.2.2.2 _ (wk5_4 7 rfl rfl)) (xclass hK.1 (ci := 5) rfl) (va_recv hK.1 hP (ci := 5) rfl (xf_3 kf_1)) dX11_firstProofBehind_27 ?_
          refine lv_astore (lv' := [(6, .ref (ad 13 i6)), (5, .int (nI i6)), (4, .null), (0, .ref (g 0)), (1, .int v0), (2, .int v1), (3, .int v2)]) hx hb dX11_firstProofBehind_30 hl (ltb rfl) rfl (fun ls hl => ?_)
          refine lv_aload hx hb dX11_firstProofBehind_32 (lvA0 hl) ?_
          refine gf_RX11_402 S hK hP _ (xf_3 kf_1) (v := .int ((Fn 160) i6)) rfl dX11_firstProofBehind_34 ?_
          refine lv_iload_n hx hb dX11_firstProofBehind_37 rfl (lvA5 hl) ?_
          refine lv_icmp_ne (tgt := 59) hx hb dX11_firstProofBehind_38 rfl (fun c_6 => ?_) (fun c_6 => ?_)
          ·
            have tc_6 : (((Fn 160) i6).toInt : Int) ≠ v1.toInt := fun q => c_6 (Int32.toInt_inj.mp q)
            refine lv_iconst (v := 0) hx hb dX11_firstProofBehind_59 kic_0 ?_
            refine lv_istore (lv' := [(7, .int 0), (6, .ref (ad 13 i6)), (5, .int (nI i6)), (4, .null), (0, .ref (g 0)), (1, .int v0), (2, .int v1), (3, .int v2)]) hx hb dX11_firstProofBehind_60 hl (ltb rfl) rfl (fun ls hl => ?_)
            refine lv_iload hx hb dX11_firstProofBehind_62 (lvA0 hl) ?_
            refine lv_if_eq (tgt := 98) hx hb dX11_firstProofBehind_64 rfl (fun _ => ?_) (fun h => absurd h cq_eq_0_0)
            refine lv_iinc (v := (nI (i6 + 1))) (lv' := [(5, .int (nI (i6 + 1))), (7, .int 0), (6, .ref (ad 13 i6)), (4, .null), (0, .ref (g 0)), (1, .int v0), (2, .int v1), (3, .int v2)]) hx hb dX11_firstProofBehind_98 hl (k := 2) rfl (nI_1 _) (ltb rfl) rfl (fun ls hl => ?_)
            refine lv_goto (tgt := 6) hx hb dX11_firstProofBehind_101 rfl ?_
            exact ih6 (i6 + 1) none (by (first | omega | (have zz0 := Hid.u hb_cn; omega))) ⟨(by (first | omega | (have zz0 := Hid.u hb_cn; omega))), (Or.inl ⟨rfl, fun q hq aq => if q9 : q < i6 then hn9 q q9 aq else (by have e9 : q = i6 := (by (first | omega | (have zz0 := Hid.u hb_cn; omega))); rw [e9] at aq ⊢; exact (fun a8 => absurd a8 (fun w9 => absurd w9.1 (by first | assumption | exact fun q => absurd (congrArg Int32.toInt q) (by assumption)))) aq)⟩)⟩ ls (lv_sub hl [0, 3, 4, 5, 6, 7] rfl)
          ·
            have tc_6 : (((Fn 160) i6).toInt : Int) = v1.toInt := congrArg Int32.toInt c_6
            refine lv_iload_n hx hb dX11_firstProofBehind_41 rfl (lvA6 hl) ?_
            refine lv_iconst (v := (-1)) hx hb dX11_firstProofBehind_42 kic_m1 ?_
            refine lv_icmp_eq (tgt := 55) hx hb dX11_firstProofBehind_43 rfl (fun c_7 => ?_) (fun c_7 => ?_)
            ·
              have tc_7 : (v2.toInt : Int) = (-1) := congrArg Int32.toInt c_7
              refine lv_iconst (v := 1) hx hb dX11_firstProofBehind_55 kic_1 ?_
              refine lv_goto (tgt := 60) hx hb dX11_firstProofBehind_56 rfl ?_
              refine lv_istore (lv' := [(7, .int 1), (6, .ref (ad 13 i6)), (5, .int (nI i6)), (4, .null), (0, .ref (g 0)), (1, .int v0), (2, .int v1), (3, .int v2)]) hx hb dX11_firstProofBehind_60 hl (ltb rfl) rfl (fun ls hl => ?_)
              refine lv_iload hx hb dX11_firstProofBehind_62 (lvA0 hl) ?_
              refine lv_if_eq (tgt := 98) hx hb dX11_firstProofBehind_64 rfl (fun h => absurd h cq_eq_1_0) (fun _ => ?_)
              refine lv_aload hx hb dX11_firstProofBehind_67 (lvA1 hl) ?_
              refine gf_RX11_408 S hK hP _ (xf_3 kf_1) (v := .int ((Fn 162) i6)) rfl dX11_firstProofBehind_69 ?_
              refine lv_iload_n hx hb dX11_firstProofBehind_72 rfl (lvA5 hl) ?_
              refine lv_icmp_le (tgt := 98) hx hb dX11_firstProofBehind_73 rfl (fun c_8 => ?_) (fun c_8 => ?_)
              ·
                have tc_8 : (((Fn 162) i6).toInt : Int) ≤ v0.toInt := Int32.le_iff_toInt_le.mp c_8
                refine lv_iinc (v := (nI (i6 + 1))) (lv' := [(5, .int (nI (i6 + 1))), (7, .int 1), (6, .ref (ad 13 i6)), (4, .null), (0, .ref (g 0)), (1, .int v0), (2, .int v1), (3, .int v2)]) hx hb dX11_firstProofBehind_98 hl (k := 2) rfl (nI_1 _) (ltb rfl) rfl (fun ls hl => ?_)
                refine lv_goto (tgt := 6) hx hb dX11_firstProofBehind_101 rfl ?_
                exact ih6 (i6 + 1) none (by (first | omega | (have zz0 := Hid.u hb_cn; omega))) ⟨(by (first | omega | (have zz0 := Hid.u hb_cn; omega))), (Or.inl ⟨rfl, fun q hq aq => if q9 : q < i6 then hn9 q q9 aq else (by have e9 : q = i6 := (by (first | omega | (have zz0 := Hid.u hb_cn; omega))); rw [e9] at aq ⊢; exact (fun _ w9 => by (first | omega | (have zz0 := Hid.u hb_cn; omega))) aq)⟩)⟩ ls (lv_sub hl [0, 3, 4, 5, 6, 7] rfl)
              ·
                have tc_8 : (v0.toInt : Int) < ((Fn 162) i6).toInt := Int32.lt_iff_toInt_lt.mp (Int32.not_le.mp c_8)
                refine lv_aloadN hx hb dX11_firstProofBehind_76 (lvA3 hl) ?_
                refine lv_ifnullN (tgt := 94) hx hb dX11_firstProofBehind_78 rfl ?_
                refine lv_aload hx hb dX11_firstProofBehind_94 (lvA1 hl) ?_
                refine lv_astore (lv' := [(4, .ref (ad 13 i6)), (7, .int 1), (6, .ref (ad 13 i6)), (5, .int (nI i6)), (0, .ref (g 0)), (1, .int v0), (2, .int v1), (3, .int v2)]) hx hb dX11_firstProofBehind_96 hl (ltb rfl) rfl (fun ls hl => ?_)
                refine lv_iinc (v := (nI (i6 + 1))) (lv' := [(5, .int (nI (i6 + 1))), (4, .ref (ad 13 i6)), (7, .int 1), (6, .ref (ad 13 i6)), (0, .ref (g 0)), (1, .int v0), (2, .int v1), (3, .int v2)]) hx hb dX11_firstProofBehind_98 hl (k := 3) rfl (nI_1 _) (ltb rfl) rfl (fun ls hl => ?_)
                refine lv_goto (tgt := 6) hx hb dX11_firstProofBehind_101 rfl ?_
                exact ih6 (i6 + 1) (some (ad 13 i6)) (by (first | omega | (have zz0 := Hid.u hb_cn; omega))) ⟨(by (first | omega | (have zz0 := Hid.u hb_cn; omega))), (Or.inr ⟨i6, by (first | omega | (have zz0 := Hid.u hb_cn; omega)), rfl, ⟨⟨(by first | assumption | exact Int32.toInt_inj.mp (by assumption)), by first | exact Or.inl (by first | assumption | exact Int32.toInt_inj.mp (by assumption)) | exact Or.inr (by first | assumption | exact Int32.toInt_inj.mp (by assumption))⟩, by (first | omega | (have zz0 := Hid.u hb_cn; omega))⟩, (fun q hq aq lq => if q9 : q < i6 then absurd lq (hn9 q q9 aq) else (by have e9 : q = i6 := (by (first | omega | (have zz0 := Hid.u hb_cn; omega))); rw [e9]; exact Int.le_refl _))⟩)⟩ ls (lv_sub hl [0, 1, 4, 5, 6, 7] rfl)
            ·
              have tc_7 : (v2.toInt : Int) ≠ (-1) := fun q => c_7 (Int32.toInt_inj.mp q)
              refine lv_aload hx hb dX11_firstProofBehind_46 (lvA0 hl) ?_
              refine gf_RX11_415 S hK hP _ (xf_3 kf_1) (v := .int ((Fn 163) i6)) rfl dX11_firstProofBehind_48 ?_
              refine lv_iload_n hx hb dX11_firstProofBehind_51 rfl (lvA6 hl) ?_
              refine lv_icmp_ne (tgt := 59) hx hb dX11_firstProofBehind_52 rfl (fun c_9 => ?_) (fun c_9 => ?_)
              ·
                have tc_9 : (((Fn 163) i6).toInt : Int) ≠ v2.toInt := fun q => c_9 (Int32.toInt_inj.mp q)
                refine lv_iconst (v := 0) hx hb dX11_firstProofBehind_59 kic_0 ?_
                refine lv_istore (lv' := [(7, .int 0), (6, .ref (ad 13 i6)), (5, .int (nI i6)), (4, .null), (0, .ref (g 0)), (1, .int v0), (2, .int v1), (3, .int v2)]) hx hb dX11_firstProofBehind_60 hl (ltb rfl) rfl (fun ls hl => ?_)
                refine lv_iload hx hb dX11_firstProofBehind_62 (lvA0 hl) ?_
                refine lv_if_eq (tgt := 98) hx hb dX11_firstProofBehind_64 rfl (fun _ => ?_) (fun h => absurd h cq_eq_0_0)
                refine lv_iinc (v := (nI (i6 + 1))) (lv' := [(5, .int (nI (i6 + 1))), (7, .int 0), (6, .ref (ad 13 i6)), (4, .null), (0, .ref (g 0)), (1, .int v0), (2, .int v1), (3, .int v2)]) hx hb dX11_firstProofBehind_98 hl (k := 2) rfl (nI_1 _) (ltb rfl) rfl (fun ls hl => ?_)
                refine lv_goto (tgt := 6) hx hb dX11_firstProofBehind_101 rfl ?_
                exact ih6 (i6 + 1) none (by (first | omega | (have zz0 := Hid.u hb_cn; omega))) ⟨(by (first | omega | (have zz0 := Hid.u hb_cn; omega))), (Or.inl ⟨rfl, fun q hq aq => if q9 : q < i6 then hn9 q q9 aq else (by have e9 : q = i6 := (by (first | omega | (have zz0 := Hid.u hb_cn; omega))); rw [e9] at aq ⊢; exact (fun a8 => absurd a8 (fun w9 => by rcases w9.2 with w8 | w8; exact absurd w8 (by first | assumption | exact fun q => absurd (congrArg Int32.toInt q) (by assumption)); exact absurd w8 (by first | assumption | exact fun q => absurd (congrArg Int32.toInt q) (by assumption)))) aq)⟩)⟩ ls (lv_sub hl [0, 3, 4, 5, 6, 7] rfl)
              ·
                have tc_9 : (((Fn 163) i6).toInt : Int) = v2.toInt := congrArg Int32.toInt c_9
                refine lv_iconst (v := 1) hx hb dX11_firstProofBehind_55 kic_1 ?_
                refine lv_goto (tgt := 60) hx hb dX11_firstProofBehind_56 rfl ?_
                refine lv_istore (lv' := [(7, .int 1), (6, .ref (ad 13 i6)), (5, .int (nI i6)), (4, .null), (0, .ref (g 0)), (1, .int v0), (2, .int v1), (3, .int v2)]) hx hb dX11_firstProofBehind_60 hl (ltb rfl) rfl (fun ls hl => ?_)
                refine lv_iload hx hb dX11_firstProofBehind_62 (lvA0 hl) ?_
                refine lv_if_eq (tgt := 98) hx hb dX11_firstProofBehind_64 rfl (fun h => absurd h cq_eq_1_0) (fun _ => ?_)
                refine lv_aload hx hb dX11_firstProofBehind_67 (lvA1 hl) ?_
                refine gf_RX11_408 S hK hP _ (xf_3 kf_1) (v := .int ((Fn 162) i6)) rfl dX11_firstProofBehind_69 ?_
                refine lv_iload_n hx hb dX11_firstProofBehind_72 rfl (lvA5 hl) ?_
                refine lv_icmp_le (tgt := 98) hx hb dX11_firstProofBehind_73 rfl (fun c_10 => ?_) (fun c_10 => ?_)
                ·
                  have tc_10 : (((Fn 162) i6).toInt : Int) ≤ v0.toInt := Int32.le_iff_toInt_le.mp c_10
                  refine lv_iinc (v := (nI (i6 + 1))) (lv' := [(5, .int (nI (i6 + 1))), (7, .int 1), (6, .ref (ad 13 i6)), (4, .null), (0, .ref (g 0)), (1, .int v0), (2, .int v1), (3, .int v2)]) hx hb dX11_firstProofBehind_98 hl (k := 2) rfl (nI_1 _) (ltb rfl) rfl (fun ls hl => ?_)
                  refine lv_goto (tgt := 6) hx hb dX11_firstProofBehind_101 rfl ?_
                  exact ih6 (i6 + 1) none (by (first | omega | (have zz0 := Hid.u hb_cn; omega))) ⟨(by (first | omega | (have zz0 := Hid.u hb_cn; omega))), (Or.inl ⟨rfl, fun q hq aq => if q9 : q < i6 then hn9 q q9 aq else (by have e9 : q = i6 := (by (first | omega | (have zz0 := Hid.u hb_cn; omega))); rw [e9] at aq ⊢; exact (fun _ w9 => by (first | omega | (have zz0 := Hid.u hb_cn; omega))) aq)⟩)⟩ ls (lv_sub hl [0, 3, 4, 5, 6, 7] rfl)
                ·
                  have tc_10 : (v0.toInt : Int) < ((Fn 162) i6).toInt := Int32.lt_iff_toInt_lt.mp (Int32.not_le.mp c_10)
                  refine lv_aloadN hx hb dX11_firstProofBehind_76 (lvA3 hl) ?_
                  refine lv_ifnullN (tgt := 94) hx hb dX11_firstProofBehind_78 rfl ?_
                  refine lv_aload hx hb dX11_firstProofBehind_94 (lvA1 hl) ?_
                  refine lv_astore (lv' := [(4, .ref (ad 13 i6)), (7, .int 1), (6, .ref (ad 13 i6)), (5, .int (nI i6)), (0, .ref (g 0)), (1, .int v0), (2, .int v1), (3, .int v2)]) hx hb dX11_firstProofBehind_96 hl (ltb rfl) rfl (fun ls hl => ?_)
                  refine lv_iinc (v := (nI (i6 + 1))) (lv' := [(5, .int (nI (i6 + 1))), (4, .ref (ad 13 i6)), (7, .int 1), (6, .ref (ad 13 i6)), (0, .ref (g 0)), (1, .int v0), (2, .int v1), (3, .int v2)]) hx hb dX11_firstProofBehind_98 hl (k := 3) rfl (nI_1 _) (ltb rfl) rfl (fun ls hl => ?_)
                  refine lv_goto (tgt := 6) hx hb dX11_firstProofBehind_101 rfl ?_
                  exact ih6 (i6 + 1) (some (ad 13 i6)) (by (first | omega | (have zz0 := Hid.u hb_cn; omega))) ⟨(by (first | omega | (have zz0 := Hid.u hb_cn; omega))), (Or.inr ⟨i6, by (first | omega | (have zz0 := Hid.u hb_cn; omega)), rfl, ⟨⟨(by first | assumption | exact Int32.toInt_inj.mp (by assumption)), by first | exact Or.inl (by first | assumption | exact Int32.toInt_inj.mp (by assumption)) | exact Or.inr (by first | assumption | exact Int32.toInt_inj.mp (by assumption))⟩, by (first | omega | (have zz0 := Hid.u hb_cn; omega))⟩, (fun q hq aq lq => if q9 : q < i6 then absurd lq (hn9 q q9 aq) else (by have e9 : q = i6 := (by (first | omega | (have zz0 := Hid.u hb_cn; omega))); rw [e9]; exact Int.le_refl _))⟩)⟩ ls (lv_sub hl [0, 1, 4, 5, 6, 7] rfl)
      ·
        have hl : lv_has ls 8 [(5, .int (nI i6)), (4, .ref (ad 13 m9)), (0, .ref (g 0)), (1, .int v0), (2, .int v1), (3, .int v2)] := hl
        refine lv_iload hx hb dX11_firstProofBehind_6 (lvA0 hl) ?_
        refine lv_aload_n hx hb dX11_firstProofBehind_8 rfl (lvA2 hl) ?_
        refine gf_RX11_71 S hK hP 0 xo_0 (v := .ref (g 13)) rfl dX11_firstProofBehind_9 ?_
        refine vp_callSi (runV_r (As := []) (rest := [.int (nI i6)]) S (q_l_size l D cI cB cZ (g 13) (if (cn 13) = 0 then zz else ad 2 3) (In 13) (nI (cn 13))) kV_RX11_84 hK hP [27] (one_is xo_27) 27 xo_27 rfl rfl ⟨Nat.le_of_ble_eq_true rfl, Nat.le_of_ble_eq_true rfl⟩ ⟨Nat.le_of_ble_eq_true rfl, Nat.le_of_ble_eq_true rfl⟩ rfl hl.1 rfl (Nat.le_of_ble_eq_true rfl) dX11_firstProofBehind_12) (fun r_11 h_12 => ?_)
        subst h_12
        have : (nI (cn 13)).toInt = (((cn 13) : Nat) : Int) := nI_toInt (by (first | omega | (have zz0 := Hid.u hb_cn; omega)))
        refine lv_icmp_ge (tgt := 104) hx hb dX11_firstProofBehind_15 rfl (fun c_13 => ?_) (fun c_13 => ?_)
        ·
          have tc_13 : ((nI (cn 13)).toInt : Int) ≤ (nI i6).toInt := Int32.le_iff_toInt_le.mp c_13
          refine lv_aload hx hb dX11_firstProofBehind_104 (lvA1 hl) ?_
          exact W.aret (v := .ref (ad 13 m9)) hx hb hr (Or.inl ⟨_, rfl⟩) (Or.inr ⟨_, rfl⟩) (fun t ht hW => ⟨some (ad 13 m9), rfl, (Or.inl ⟨m9, by (first | omega | (have zz0 := Hid.u hb_cn; omega)), rfl, hm9, fun q hq => hmin9 q (by (first | omega | (have zz0 := Hid.u hb_cn; omega)))⟩), ht⟩) (fun _ h => absurd h List.not_mem_nil) dX11_firstProofBehind_106
        ·
          have tc_13 : ((nI i6).toInt : Int) < (nI (cn 13)).toInt := Int32.lt_iff_toInt_lt.mp (Int32.not_le.mp c_13)
          refine lv_aload_n hx hb dX11_firstProofBehind_18 rfl (lvA2 hl) ?_
          refine gf_RX11_71 S hK hP 0 xo_0 (v := .ref (g 13)) rfl dX11_firstProofBehind_19 ?_
          refine lv_iload hx hb dX11_firstProofBehind_22 (lvA0 hl) ?_
          refine va_csq (runV_rx (As := [.int (nI i6)]) (rest := []) S (q_l_get l D cI cB cZ zz qq vv bt (g 13) (ad 2 3) (cn 23) (cn 13) i6 (ad 13 i6) (In 13) (fun i => if i < (cn 13) then some (ad 13 i) else none) (by (first | omega | (have zz0 := Hid.u hb_cn; omega))) (if_pos (by (first | omega | (have zz0 := Hid.u hb_cn; omega)))) (by (first | omega | (have zz0 := Hid.u hb_cn; omega))) (by (first | omega | (have zz0 := Hid.u hb_cn; omega)))) kV_RX11_87 hK hXS hS hP _ (two_is (xl_3 (by (first | omega | (have zz0 := Hid.u hb_cn; omega)))) (xf_16 (k := 0) (by (first | omega | (have zz0 := Hid.u hb_cn; omega))))) (va_recv hK.1 hP (ci := 0) rfl xo_27) ⟨Nat.le_of_ble_eq_true rfl, Nat.le_of_ble_eq_true rfl⟩ ⟨Nat.le_of_ble_eq_true rfl, Nat.le_of_ble_eq_true rfl⟩ rfl hl.1 rfl (Nat.le_of_ble_eq_true rfl) dX11_firstProofBehind_24) (fun r_14 h_15 => ?_)
          subst h_15
          have kf_2 : i6 < cn 13 := by (first | omega | (have zz0 := Hid.u hb_cn; omega))
          refine va_castS hx hb hown (S.2.2.2.2 _ (wk5_4 7 rfl rfl)) (xclass hK.1 (ci := 5) rfl) (va_recv hK.1 hP (ci := 5) rfl (xf_3 kf_2)) dX11_firstProofBehind_27 ?_
          refine lv_astore (lv' := [(6, .ref (ad 13 i6)), (5, .int (nI i6)), (4, .ref (ad 13 m9)), (0, .ref (g 0)), (1, .int v0), (2, .int v1), (3, .int v2)]) hx hb dX11_firstProofBehind_30 hl (ltb rfl) rfl (fun ls hl => ?_)
          refine lv_aload hx hb dX11_firstProofBehind_32 (lvA0 hl) ?_
          refine gf_RX11_402 S hK hP _ (xf_3 kf_2) (v := .int ((Fn 160) i6)) rfl dX11_firstProofBehind_34 ?_
          refine lv_iload_n hx hb dX11_firstProofBehind_37 rfl (lvA5 hl) ?_
          refine lv_icmp_ne (tgt := 59) hx hb dX11_firstProofBehind_38 rfl (fun c_16 => ?_) (fun c_16 => ?_)
          ·
            have tc_16 : (((Fn 160) i6).toInt : Int) ≠ v1.toInt := fun q => c_16 (Int32.toInt_inj.mp q)
            refine lv_iconst (v := 0) hx hb dX11_firstProofBehind_59 kic_0 ?_
            refine lv_istore (lv' := [(7, .int 0), (6, .ref (ad 13 i6)), (5, .int (nI i6)), (4, .ref (ad 13 m9)), (0, .ref (g 0)), (1, .int v0), (2, .int v1), (3, .int v2)]) hx hb dX11_firstProofBehind_60 hl (ltb rfl) rfl (fun ls hl => ?_)
            refine lv_iload hx hb dX11_firstProofBehind_62 (lvA0 hl) ?_
            refine lv_if_eq (tgt := 98) hx hb dX11_firstProofBehind_64 rfl (fun _ => ?_) (fun h => absurd h cq_eq_0_0)
            refine lv_iinc (v := (nI (i6 + 1))) (lv' := [(5, .int (nI (i6 + 1))), (7, .int 0), (6, .ref (ad 13 i6)), (4, .ref (ad 13 m9)), (0, .ref (g 0)), (1, .int v0), (2, .int v1), (3, .int v2)]) hx hb dX11_firstProofBehind_98 hl (k := 2) rfl (nI_1 _) (ltb rfl) rfl (fun ls hl => ?_)
            refine lv_goto (tgt := 6) hx hb dX11_firstProofBehind_101 rfl ?_
            exact ih6 (i6 + 1) (some (ad 13 m9)) (by (first | omega | (have zz0 := Hid.u hb_cn; omega))) ⟨(by (first | omega | (have zz0 := Hid.u hb_cn; omega))), (Or.inr ⟨m9, by (first | omega | (have zz0 := Hid.u hb_cn; omega)), rfl, hm9, fun q hq aq lq => if q9 : q < i6 then hmin9 q q9 aq lq else (by have e9 : q = i6 := (by (first | omega | (have zz0 := Hid.u hb_cn; omega))); rw [e9] at aq lq ⊢; exact absurd lq ((fun a8 => absurd a8 (fun w9 => absurd w9.1 (by first | assumption | exact fun q => absurd (congrArg Int32.toInt q) (by assumption)))) aq))⟩)⟩ ls (lv_sub hl [0, 3, 4, 5, 6, 7] rfl)
          ·
            have tc_16 : (((Fn 160) i6).toInt : Int) = v1.toInt := congrArg Int32.toInt c_16
            refine lv_iload_n hx hb dX11_firstProofBehind_41 rfl (lvA6 hl) ?_
            refine lv_iconst (v := (-1)) hx hb dX11_firstProofBehind_42 kic_m1 ?_
            refine lv_icmp_eq (tgt := 55) hx hb dX11_firstProofBehind_43 rfl (fun c_17 => ?_) (fun c_17 => ?_)
            ·
              have tc_17 : (v2.toInt : Int) = (-1) := congrArg Int32.toInt c_17
              refine lv_iconst (v := 1) hx hb dX11_firstProofBehind_55 kic_1 ?_
              refine lv_goto (tgt := 60) hx hb dX11_firstProofBehind_56 rfl ?_
              refine lv_istore (lv' := [(7, .int 1), (6, .ref (ad 13 i6)), (5, .int (nI i6)), (4, .ref (ad 13 m9)), (0, .ref (g 0)), (1, .int v0), (2, .int v1), (3, .int v2)]) hx hb dX11_firstProofBehind_60 hl (ltb rfl) rfl (fun ls hl => ?_)
              refine lv_iload hx hb dX11_firstProofBehind_62 (lvA0 hl) ?_
              refine lv_if_eq (tgt := 98) hx hb dX11_firstProofBehind_64 rfl (fun h => absurd h cq_eq_1_0) (fun _ => ?_)
              refine lv_aload hx hb dX11_firstProofBehind_67 (lvA1 hl) ?_
              refine gf_RX11_408 S hK hP _ (xf_3 kf_2) (v := .int ((Fn 162) i6)) rfl dX11_firstProofBehind_69 ?_
              refine lv_iload_n hx hb dX11_firstProofBehind_72 rfl (lvA5 hl) ?_
              refine lv_icmp_le (tgt := 98) hx hb dX11_firstProofBehind_73 rfl (fun c_18 => ?_) (fun c_18 => ?_)
              ·
                have tc_18 : (((Fn 162) i6).toInt : Int) ≤ v0.toInt := Int32.le_iff_toInt_le.mp c_18
                refine lv_iinc (v := (nI (i6 + 1))) (lv' := [(5, .int (nI (i6 + 1))), (7, .int 1), (6, .ref (ad 13 i6)), (4, .ref (ad 13 m9)), (0, .ref (g 0)), (1, .int v0), (2, .int v1), (3, .int v2)]) hx hb dX11_firstProofBehind_98 hl (k := 2) rfl (nI_1 _) (ltb rfl) rfl (fun ls hl => ?_)
                refine lv_goto (tgt := 6) hx hb dX11_firstProofBehind_101 rfl ?_
                exact ih6 (i6 + 1) (some (ad 13 m9)) (by (first | omega | (have zz0 := Hid.u hb_cn; omega))) ⟨(by (first | omega | (have zz0 := Hid.u hb_cn; omega))), (Or.inr ⟨m9, by (first | omega | (have zz0 := Hid.u hb_cn; omega)), rfl, hm9, fun q hq aq lq => if q9 : q < i6 then hmin9 q q9 aq lq else (by have e9 : q = i6 := (by (first | omega | (have zz0 := Hid.u hb_cn; omega))); rw [e9] at aq lq ⊢; (first | omega | (have zz0 := Hid.u hb_cn; omega)))⟩)⟩ ls (lv_sub hl [0, 3, 4, 5, 6, 7] rfl)
              ·
                have tc_18 : (v0.toInt : Int) < ((Fn 162) i6).toInt := Int32.lt_iff_toInt_lt.mp (Int32.not_le.mp c_18)
                refine lv_aload hx hb dX11_firstProofBehind_76 (lvA3 hl) ?_
                refine lv_ifnull hx hb dX11_firstProofBehind_78 ?_
                refine lv_aload hx hb dX11_firstProofBehind_81 (lvA1 hl) ?_
                refine gf_RX11_405 S hK hP _ (xf_3 kf_2) (v := .int ((Fn 161) i6)) rfl dX11_firstProofBehind_83 ?_
                refine lv_aload hx hb dX11_firstProofBehind_86 (lvA3 hl) ?_
                have kf_3 : m9 < cn 13 := by (first | omega | (have zz0 := Hid.u hb_cn; omega))
                refine gf_RX11_405 S hK hP _ (xf_3 kf_3) (v := .int ((Fn 161) m9)) rfl dX11_firstProofBehind_88 ?_
                refine lv_icmp_ge (tgt := 98) hx hb dX11_firstProofBehind_91 rfl (fun c_19 => ?_) (fun c_19 => ?_)
                ·
                  have tc_19 : (((Fn 161) m9).toInt : Int) ≤ ((Fn 161) i6).toInt := Int32.le_iff_toInt_le.mp c_19
                  refine lv_iinc (v := (nI (i6 + 1))) (lv' := [(5, .int (nI (i6 + 1))), (7, .int 1), (6, .ref (ad 13 i6)), (4, .ref (ad 13 m9)), (0, .ref (g 0)), (1, .int v0), (2, .int v1), (3, .int v2)]) hx hb dX11_firstProofBehind_98 hl (k := 2) rfl (nI_1 _) (ltb rfl) rfl (fun ls hl => ?_)
                  refine lv_goto (tgt := 6) hx hb dX11_firstProofBehind_101 rfl ?_
                  exact ih6 (i6 + 1) (some (ad 13 m9)) (by (first | omega | (have zz0 := Hid.u hb_cn; omega))) ⟨(by (first | omega | (have zz0 := Hid.u hb_cn; omega))), (Or.inr ⟨m9, by (first | omega | (have zz0 := Hid.u hb_cn; omega)), rfl, hm9, fun q hq aq lq => if q9 : q < i6 then hmin9 q q9 aq lq else (by have e9 : q = i6 := (by (first | omega | (have zz0 := Hid.u hb_cn; omega))); rw [e9] at aq lq ⊢; (first | omega | (have zz0 := Hid.u hb_cn; omega)))⟩)⟩ ls (lv_sub hl [0, 3, 4, 5, 6, 7] rfl)
                ·
                  have tc_19 : (((Fn 161) i6).toInt : Int) < ((Fn 161) m9).toInt := Int32.lt_iff_toInt_lt.mp (Int32.not_le.mp c_19)
                  refine lv_aload hx hb dX11_firstProofBehind_94 (lvA1 hl) ?_
                  refine lv_astore (lv' := [(4, .ref (ad 13 i6)), (7, .int 1), (6, .ref (ad 13 i6)), (5, .int (nI i6)), (0, .ref (g 0)), (1, .int v0), (2, .int v1), (3, .int v2)]) hx hb dX11_firstProofBehind_96 hl (ltb rfl) rfl (fun ls hl => ?_)
                  refine lv_iinc (v := (nI (i6 + 1))) (lv' := [(5, .int (nI (i6 + 1))), (4, .ref (ad 13 i6)), (7, .int 1), (6, .ref (ad 13 i6)), (0, .ref (g 0)), (1, .int v0), (2, .int v1), (3, .int v2)]) hx hb dX11_firstProofBehind_98 hl (k := 3) rfl (nI_1 _) (ltb rfl) rfl (fun ls hl => ?_)
                  refine lv_goto (tgt := 6) hx hb dX11_firstProofBehind_101 rfl ?_
                  exact ih6 (i6 + 1) (some (ad 13 i6)) (by (first | omega | (have zz0 := Hid.u hb_cn; omega))) ⟨(by (first | omega | (have zz0 := Hid.u hb_cn; omega))), (Or.inr ⟨i6, by (first | omega | (have zz0 := Hid.u hb_cn; omega)), rfl, ⟨⟨(by first | assumption | exact Int32.toInt_inj.mp (by assumption)), by first | exact Or.inl (by first | assumption | exact Int32.toInt_inj.mp (by assumption)) | exact Or.inr (by first | assumption | exact Int32.toInt_inj.mp (by assumption))⟩, by (first | omega | (have zz0 := Hid.u hb_cn; omega))⟩, (fun q hq aq lq => if q9 : q < i6 then by have := hmin9 q q9 aq lq; (first | omega | (have zz0 := Hid.u hb_cn; omega)) else (by have e9 : q = i6 := (by (first | omega | (have zz0 := Hid.u hb_cn; omega))); rw [e9]; exact Int.le_refl _))⟩)⟩ ls (lv_sub hl [0, 1, 4, 5, 6, 7] rfl)
            ·
              have tc_17 : (v2.toInt : Int) ≠ (-1) := fun q => c_17 (Int32.toInt_inj.mp q)
              refine lv_aload hx hb dX11_firstProofBehind_46 (lvA0 hl) ?_
              refine gf_RX11_415 S hK hP _ (xf_3 kf_2) (v := .int ((Fn 163) i6)) rfl dX11_firstProofBehind_48 ?_
              refine lv_iload_n hx hb dX11_firstProofBehind_51 rfl (lvA6 hl) ?_
              refine lv_icmp_ne (tgt := 59) hx hb dX11_firstProofBehind_52 rfl (fun c_20 => ?_) (fun c_20 => ?_)
              ·
                have tc_20 : (((Fn 163) i6).toInt : Int) ≠ v2.toInt := fun q => c_20 (Int32.toInt_inj.mp q)
                refine lv_iconst (v := 0) hx hb dX11_firstProofBehind_59 kic_0 ?_
                refine lv_istore (lv' := [(7, .int 0), (6, .ref (ad 13 i6)), (5, .int (nI i6)), (4, .ref (ad 13 m9)), (0, .ref (g 0)), (1, .int v0), (2, .int v1), (3, .int v2)]) hx hb dX11_firstProofBehind_60 hl (ltb rfl) rfl (fun ls hl => ?_)
                refine lv_iload hx hb dX11_firstProofBehind_62 (lvA0 hl) ?_
                refine lv_if_eq (tgt := 98) hx hb dX11_firstProofBehind_64 rfl (fun _ => ?_) (fun h => absurd h cq_eq_0_0)
                refine lv_iinc (v := (nI (i6 + 1))) (lv' := [(5, .int (nI (i6 + 1))), (7, .int 0), (6, .ref (ad 13 i6)), (4, .ref (ad 13 m9)), (0, .ref (g 0)), (1, .int v0), (2, .int v1), (3, .int v2)]) hx hb dX11_firstProofBehind_98 hl (k := 2) rfl (nI_1 _) (ltb rfl) rfl (fun ls hl => ?_)
                refine lv_goto (tgt := 6) hx hb dX11_firstProofBehind_101 rfl ?_
                exact ih6 (i6 + 1) (some (ad 13 m9)) (by (first | omega | (have zz0 := Hid.u hb_cn; omega))) ⟨(by (first | omega | (have zz0 := Hid.u hb_cn; omega))), (Or.inr ⟨m9, by (first | omega | (have zz0 := Hid.u hb_cn; omega)), rfl, hm9, fun q hq aq lq => if q9 : q < i6 then hmin9 q q9 aq lq else (by have e9 : q = i6 := (by (first | omega | (have zz0 := Hid.u hb_cn; omega))); rw [e9] at aq lq ⊢; exact absurd lq ((fun a8 => absurd a8 (fun w9 => by rcases w9.2 with w8 | w8; exact absurd w8 (by first | assumption | exact fun q => absurd (congrArg Int32.toInt q) (by assumption)); exact absurd w8 (by first | assumption | exact fun q => absurd (congrArg Int32.toInt q) (by assumption)))) aq))⟩)⟩ ls (lv_sub hl [0, 3, 4, 5, 6, 7] rfl)
              ·
                have tc_20 : (((Fn 163) i6).toInt : Int) = v2.toInt := congrArg Int32.toInt c_20
                refine lv_iconst (v := 1) hx hb dX11_firstProofBehind_55 kic_1 ?_
                refine lv_goto (tgt := 60) hx hb dX11_firstProofBehind_56 rfl ?_
                refine lv_istore (lv' := [(7, .int 1), (6, .ref (ad 13 i6)), (5, .int (nI i6)), (4, .ref (ad 13 m9)), (0, .ref (g 0)), (1, .int v0), (2, .int v1), (3, .int v2)]) hx hb dX11_firstProofBehind_60 hl (ltb rfl) rfl (fun ls hl => ?_)
                refine lv_iload hx hb dX11_firstProofBehind_62 (lvA0 hl) ?_
                refine lv_if_eq (tgt := 98) hx hb dX11_firstProofBehind_64 rfl (fun h => absurd h cq_eq_1_0) (fun _ => ?_)
                refine lv_aload hx hb dX11_firstProofBehind_67 (lvA1 hl) ?_
                refine gf_RX11_408 S hK hP _ (xf_3 kf_2) (v := .int ((Fn 162) i6)) rfl dX11_firstProofBehind_69 ?_
                refine lv_iload_n hx hb dX11_firstProofBehind_72 rfl (lvA5 hl) ?_
                refine lv_icmp_le (tgt := 98) hx hb dX11_firstProofBehind_73 rfl (fun c_21 => ?_) (fun c_21 => ?_)
                ·
                  have tc_21 : (((Fn 162) i6).toInt : Int) ≤ v0.toInt := Int32.le_iff_toInt_le.mp c_21
                  refine lv_iinc (v := (nI (i6 + 1))) (lv' := [(5, .int (nI (i6 + 1))), (7, .int 1), (6, .ref (ad 13 i6)), (4, .ref (ad 13 m9)), (0, .ref (g 0)), (1, .int v0), (2, .int v1), (3, .int v2)]) hx hb dX11_firstProofBehind_98 hl (k := 2) rfl (nI_1 _) (ltb rfl) rfl (fun ls hl => ?_)
                  refine lv_goto (tgt := 6) hx hb dX11_firstProofBehind_101 rfl ?_
                  exact ih6 (i6 + 1) (some (ad 13 m9)) (by (first | omega | (have zz0 := Hid.u hb_cn; omega))) ⟨(by (first | omega | (have zz0 := Hid.u hb_cn; omega))), (Or.inr ⟨m9, by (first | omega | (have zz0 := Hid.u hb_cn; omega)), rfl, hm9, fun q hq aq lq => if q9 : q < i6 then hmin9 q q9 aq lq else (by have e9 : q = i6 := (by (first | omega | (have zz0 := Hid.u hb_cn; omega))); rw [e9] at aq lq ⊢; (first | omega | (have zz0 := Hid.u hb_cn; omega)))⟩)⟩ ls (lv_sub hl [0, 3, 4, 5, 6, 7] rfl)
                ·
                  have tc_21 : (v0.toInt : Int) < ((Fn 162) i6).toInt := Int32.lt_iff_toInt_lt.mp (Int32.not_le.mp c_21)
                  refine lv_aload hx hb dX11_firstProofBehind_76 (lvA3 hl) ?_
                  refine lv_ifnull hx hb dX11_firstProofBehind_78 ?_
                  refine lv_aload hx hb dX11_firstProofBehind_81 (lvA1 hl) ?_
                  refine gf_RX11_405 S hK hP _ (xf_3 kf_2) (v := .int ((Fn 161) i6)) rfl dX11_firstProofBehind_83 ?_
                  refine lv_aload hx hb dX11_firstProofBehind_86 (lvA3 hl) ?_
                  have kf_4 : m9 < cn 13 := by (first | omega | (have zz0 := Hid.u hb_cn; omega))
                  refine gf_RX11_405 S hK hP _ (xf_3 kf_4) (v := .int ((Fn 161) m9)) rfl dX11_firstProofBehind_88 ?_
                  refine lv_icmp_ge (tgt := 98) hx hb dX11_firstProofBehind_91 rfl (fun c_22 => ?_) (fun c_22 => ?_)
                  ·
                    have tc_22 : (((Fn 161) m9).toInt : Int) ≤ ((Fn 161) i6).toInt := Int32.le_iff_toInt_le.mp c_22
                    refine lv_iinc (v := (nI (i6 + 1))) (lv' := [(5, .int (nI (i6 + 1))), (7, .int 1), (6, .ref (ad 13 i6)), (4, .ref (ad 13 m9)), (0, .ref (g 0)), (1, .int v0), (2, .int v1), (3, .int v2)]) hx hb dX11_firstProofBehind_98 hl (k := 2) rfl (nI_1 _) (ltb rfl) rfl (fun ls hl => ?_)
                    refine lv_goto (tgt := 6) hx hb dX11_firstProofBehind_101 rfl ?_
                    exact ih6 (i6 + 1) (some (ad 13 m9)) (by (first | omega | (have zz0 := Hid.u hb_cn; omega))) ⟨(by (first | omega | (have zz0 := Hid.u hb_cn; omega))), (Or.inr ⟨m9, by (first | omega | (have zz0 := Hid.u hb_cn; omega)), rfl, hm9, fun q hq aq lq => if q9 : q < i6 then hmin9 q q9 aq lq else (by have e9 : q = i6 := (by (first | omega | (have zz0 := Hid.u hb_cn; omega))); rw [e9] at aq lq ⊢; (first | omega | (have zz0 := Hid.u hb_cn; omega)))⟩)⟩ ls (lv_sub hl [0, 3, 4, 5, 6, 7] rfl)
                  ·
                    have tc_22 : (((Fn 161) i6).toInt : Int) < ((Fn 161) m9).toInt := Int32.lt_iff_toInt_lt.mp (Int32.not_le.mp c_22)
                    refine lv_aload hx hb dX11_firstProofBehind_94 (lvA1 hl) ?_
                    refine lv_astore (lv' := [(4, .ref (ad 13 i6)), (7, .int 1), (6, .ref (ad 13 i6)), (5, .int (nI i6)), (0, .ref (g 0)), (1, .int v0), (2, .int v1), (3, .int v2)]) hx hb dX11_firstProofBehind_96 hl (ltb rfl) rfl (fun ls hl => ?_)
                    refine lv_iinc (v := (nI (i6 + 1))) (lv' := [(5, .int (nI (i6 + 1))), (4, .ref (ad 13 i6)), (7, .int 1), (6, .ref (ad 13 i6)), (0, .ref (g 0)), (1, .int v0), (2, .int v1), (3, .int v2)]) hx hb dX11_firstProofBehind_98 hl (k := 3) rfl (nI_1 _) (ltb rfl) rfl (fun ls hl => ?_)
                    refine lv_goto (tgt := 6) hx hb dX11_firstProofBehind_101 rfl ?_
                    exact ih6 (i6 + 1) (some (ad 13 i6)) (by (first | omega | (have zz0 := Hid.u hb_cn; omega))) ⟨(by (first | omega | (have zz0 := Hid.u hb_cn; omega))), (Or.inr ⟨i6, by (first | omega | (have zz0 := Hid.u hb_cn; omega)), rfl, ⟨⟨(by first | assumption | exact Int32.toInt_inj.mp (by assumption)), by first | exact Or.inl (by first | assumption | exact Int32.toInt_inj.mp (by assumption)) | exact Or.inr (by first | assumption | exact Int32.toInt_inj.mp (by assumption))⟩, by (first | omega | (have zz0 := Hid.u hb_cn; omega))⟩, (fun q hq aq lq => if q9 : q < i6 then by have := hmin9 q q9 aq lq; (first | omega | (have zz0 := Hid.u hb_cn; omega)) else (by have e9 : q = i6 := (by (first | omega | (have zz0 := Hid.u hb_cn; omega))); rw [e9]; exact Int.le_refl _))⟩)⟩ ls (lv_sub hl [0, 1, 4, 5, 6, 7] rfl)
  exact lp_6 _ 0 none (Nat.lt_succ_self _) ⟨(by (first | omega | (have zz0 := Hid.u hb_cn; omega))), (Or.inl ⟨rfl, fun q hq => absurd hq (Nat.not_lt_zero q)⟩)⟩ ls (lv_sub hl [0, 1, 2, 3, 4, 5] rfl)
set_option maxRecDepth 100000 in
set_option maxHeartbeats 4000000 in
theorem q_EprovenLitres (l : Launch) (D : va_G) (cI cB cZ : ClassId) (zz qq vv : Nat) (bt : Nat → Int32) (g : Nat → Nat) (ad : Nat → Nat → Nat) (cn : Nat → Nat) (In : Nat → Int32) (Fn : Nat → Nat → Int32) (v0 v1 : Int32) (M0 : Nat) (hB : CBX cn) (hpf : ∀ p : Nat, p < cn 13 → ∃ a b : Nat, (Fn 161 p).toInt = (a : Int) ∧ (Fn 162 p).toInt = (b : Int) ∧ a < b ∧ b ≤ 8000 ∧ (Fn 160 p = v0 → b ≤ M0)) : Met l yX11_provenLitres (CWS yX11_provenLitres cX11_provenLitres 7 (some .int)) (RM 4 0 0) (PBrx [.ref (g 0), .int v0, .int v1] D cI cB cZ zz qq vv bt (wX cI (D.1 99) zz g ad cn In Fn)) (vp_Si (fun r => ∃ n : Nat, n ≤ M0 ∧ CNT (COV (fun p => Fn 160 p = v0 ∧ (v1 = -1 ∨ Fn 163 p = v1)) (Fn 161) (Fn 162) (cn 13)) n r ∧ ∀ q : Nat, q < cn 13 → (fun p => Fn 160 p = v0 ∧ (v1 = -1 ∨ Fn 163 p = v1)) q → ¬ (n : Int) < (Fn 162 q).toInt)) 0 0 (fun _ => False) := by
  refine en_rx rfl pn_RX11 (Nat.le_of_ble_eq_true rfl) (fun p e s m below meth c hx hb hml hown S hr hlocks hnm hP hK hXS hS ls hl => ?_)
  have hl : lv_has ls 7 [(0, .ref (g 0)), (1, .int v0), (2, .int v1)] := hl
  have hb_cn : Hid (CBX cn) := hB
  replace hB : CBXh cn := hB
  refine lv_iconst (v := 0) hx hb (oc_3 0 shX11_provenLitres_0) kic_0 ?_
  refine lv_istore_n (lv' := [(3, .int 0), (0, .ref (g 0)), (1, .int v0), (2, .int v1)]) hx hb (oc_62 1 (aq_1 shX11_provenLitres_0)) rfl hl (ltb rfl) rfl (fun ls hl => ?_)
  refine lv_iconst (v := 0) hx hb (oc_3 2 (aq_2 shX11_provenLitres_0)) kic_0 ?_
  refine lv_istore (lv' := [(4, .int 0), (3, .int 0), (0, .ref (g 0)), (1, .int v0), (2, .int v1)]) hx hb (oc_54 3 (aq_3 shX11_provenLitres_0) ub_4) hl (ltb rfl) rfl (fun ls hl => ?_)
  refine lv_iconst (v := 0) hx hb (oc_3 5 (aq_5 shX11_provenLitres_0)) kic_0 ?_
  refine lv_istore (lv' := [(5, .int 0), (4, .int 0), (3, .int 0), (0, .ref (g 0)), (1, .int v0), (2, .int v1)]) hx hb (oc_54 6 (aq_6 shX11_provenLitres_0) ub_5) hl (ltb rfl) rfl (fun ls hl => ?_)
  have lp_8 : ∀ (n : Nat) (i8 : Nat) (x8_3 : Int32) (z8 : Nat) , 40 - i8 < n → (i8 ≤ 40 ∧ (CNT (COV (fun p => Fn 160 p = v0 ∧ (v1 = -1 ∨ Fn 163 p = v1)) (Fn 161) (Fn 162) (cn 13)) z8 x8_3) ∧ (z8 ≤ 8000 ∧ z8 ≤ M0) ∧ (rmN (askB (fun p => Fn 160 p = v0 ∧ (v1 = -1 ∨ Fn 163 p = v1)) (Fn 162) z8) (cn 13) ≤ 40 - i8)) → ∀ ls : Array Slot, lv_has ls 7 [(5, .int (nI i8)), (4, .int (nI z8)), (3, .int x8_3), (0, .ref (g 0)), (1, .int v0), (2, .int v1)] → W p l e (RM 4 0 0) s m ([.ref (g 0), .int v0, .int v1]).toArray below meth c s.heap [] 0 0 (MQ below (vp_Si (fun r => ∃ n : Nat, n ≤ M0 ∧ CNT (COV (fun p => Fn 160 p = v0 ∧ (v1 = -1 ∨ Fn 163 p = v1)) (Fn 161) (Fn 162) (cn 13)) n r ∧ ∀ q : Nat, q < cn 13 → (fun p => Fn 160 p = v0 ∧ (v1 = -1 ∨ Fn 163 p = v1)) q → ¬ (n : Int) < (Fn 162 q).toInt)) ([.ref (g 0), .int v0, .int v1]).toArray s 0 0 (fun _ => False)) (F0 m 8 ls []) := by
    intro n8
    induction n8 with
    | zero => intros; (first | omega | (have zz0 := Hid.u hb_cn; omega))
    | succ n8 ih8 =>
      intro i8 x8_3 z8 hmu8 hinv8 ls hl
      obtain ⟨hr8, hx8_0, hx8_1, hx8_2⟩ := hinv8
      have ti8 : (nI i8).toInt = (i8 : Int) := nI_toInt (by (first | omega | (have zz0 := Hid.u hb_cn; omega)))
      refine lv_iload hx hb (oc_21 8 (aq_8 shX11_provenLitres_0) ub_5) (lvA0 hl) ?_
      refine lv_bipush (v := 40) hx hb (oc_16 10 (aq_10 shX11_provenLitres_0) sgb_40) kbc_40 ?_
      refine lv_icmp_ge (tgt := 65) hx hb (oc_162 12 (aq_12 shX11_provenLitres_0) sgw_0_53) rfl (fun c_1 => ?_) (fun c_1 => ?_)
      ·
        have tc_1 : (40 : Int) ≤ (nI i8).toInt := Int32.le_iff_toInt_le.mp c_1
        refine lv_iload_n hx hb dX11_provenLitres_65 rfl (lvA2 hl) ?_
        exact W.iret (v := x8_3) hx hb hr (fun t ht hW => ⟨x8_3, rfl, ⟨z8, hx8_1.2, hx8_0, pv_none (by have e9 := hx8_2; (first | omega | (have zz0 := Hid.u hb_cn; omega)))⟩, ht⟩) (fun _ h => absurd h List.not_mem_nil) dX11_provenLitres_66
      ·
        have tc_1 : ((nI i8).toInt : Int) < 40 := Int32.lt_iff_toInt_lt.mp (Int32.not_le.mp c_1)
        refine lv_aload_n hx hb (oc_42 15 (aq_15 shX11_provenLitres_0)) rfl (lvA3 hl) ?_
        refine lv_iload hx hb (oc_21 16 (aq_16 shX11_provenLitres_0) ub_4) (lvA1 hl) ?_
        refine lv_iload_n hx hb (oc_27 18 (aq_18 shX11_provenLitres_0)) rfl (lvA4 hl) ?_
        refine lv_iload_n hx hb (oc_28 19 (aq_19 shX11_provenLitres_0)) rfl (lvA5 hl) ?_
        refine va_csq (runV_rxa (As := [.int (nI z8), .int v0, .int v1]) (rest := []) S (q_EfirstProofBehind l D cI cB cZ zz qq vv bt g ad cn In Fn (nI z8) v0 v1 hB) kV_RX11_418 hK hXS hS hP 0 xo_0 rfl rfl ⟨Nat.le_of_ble_eq_true rfl, Nat.le_of_ble_eq_true rfl⟩ ⟨Nat.le_of_ble_eq_true rfl, Nat.le_of_ble_eq_true rfl⟩ rfl hl.1 rfl (Nat.le_of_ble_eq_true rfl) (oc_182 20 (aq_20 shX11_provenLitres_0) uw_1_162)) (fun r_2 h_3 => ?_)
        rcases h_3 with ⟨m9, h9, rfl, hm9, hmin9⟩ | ⟨rfl, hn9⟩
        ·
          obtain ⟨a9, b9, ha9, hb9, hab9, hb8, hbM⟩ := hpf m9 h9
          have ea9 : Fn 161 m9 = nI a9 := Int32.toInt_inj.mp (by rw [nI_toInt (by (first | omega | (have zz0 := Hid.u hb_cn; omega)))]; exact ha9)
          have eb9 : Fn 162 m9 = nI b9 := Int32.toInt_inj.mp (by rw [nI_toInt (by (first | omega | (have zz0 := Hid.u hb_cn; omega)))]; exact hb9)
          have tn8 : (nI z8).toInt = (z8 : Int) := nI_toInt (by (first | omega | (have zz0 := Hid.u hb_cn; omega)))
          have hbM9 := hbM hm9.1.1
          refine lv_astore (lv' := [(6, .ref (ad 13 m9)), (5, .int (nI i8)), (4, .int (nI z8)), (3, .int x8_3), (0, .ref (g 0)), (1, .int v0), (2, .int v1)]) hx hb dX11_provenLitres_23 hl (ltb rfl) rfl (fun ls hl => ?_)
          refine lv_aload hx hb dX11_provenLitres_25 (lvA0 hl) ?_
          refine lv_ifnonnull (tgt := 33) hx hb dX11_provenLitres_27 rfl ?_
          refine lv_iload_n hx hb (oc_29 33 (aq_8 shX11_provenLitres_25)) rfl (lvA3 hl) ?_
          refine lv_aload hx hb (oc_25 34 (aq_9 shX11_provenLitres_25) ub_6) (lvA0 hl) ?_
          have kf_1 : m9 < cn 13 := by (first | omega | (have zz0 := Hid.u hb_cn; omega))
          refine gf_RX11_408 S hK hP _ (xf_3 kf_1) (v := .int ((Fn 162) m9)) rfl (oc_180 36 (aq_11 shX11_provenLitres_25) uw_1_152) ?_
          refine lv_topi (fun y_4 ey_4 => ?_)
          obtain rfl : y_4 = (nI b9) := ey_4.trans eb9
          refine lv_aload hx hb (oc_25 39 (aq_14 shX11_provenLitres_25) ub_6) (lvA0 hl) ?_
          refine gf_RX11_405 S hK hP _ (xf_3 kf_1) (v := .int ((Fn 161) m9)) rfl (oc_180 41 (aq_16 shX11_provenLitres_25) uw_1_149) ?_
          refine lv_topi (fun y_5 ey_5 => ?_)
          obtain rfl : y_5 = (nI a9) := ey_5.trans ea9
          refine lv_iload hx hb (oc_21 44 (aq_19 shX11_provenLitres_25) ub_4) (lvA2 hl) ?_
          refine va_mmax hx hb (by rw [hml]; exact hl.1.symm) hown (S.2.2.2.2 _ (wk4_3 8 rfl rfl)) (S.2.2.2.2 _ (wk1_3 6 rfl rfl)) (S.2.2.2.2 _ (wk1_0 3 rfl rfl)) (S.2.2.2.2 _ (wk1_3 7 rfl rfl)) (Nat.le_of_ble_eq_true rfl) (Nat.le_of_ble_eq_true rfl) (Nat.le_of_ble_eq_true rfl) (Nat.le_of_ble_eq_true rfl) (oc_184 46 (aq_21 shX11_provenLitres_25) uw_0_232) ?_
          refine lv_topi (fun y_6 ey_6 => ?_)
          obtain rfl : y_6 = (nI (max a9 z8)) := ey_6.trans (nI_max9 (by (first | omega | (have zz0 := Hid.u hb_cn; omega))) (by (first | omega | (have zz0 := Hid.u hb_cn; omega))))
          refine lv_isub hx hb (oc_100 49 shX11_provenLitres_49) ?_
          refine lv_topi (fun y_7 ey_7 => ?_)
          obtain rfl : y_7 = (nI (b9 - max a9 z8)) := ey_7.trans (nI_sub (by have := hm9.2; (first | omega | (have zz0 := Hid.u hb_cn; omega))))
          refine lv_iadd hx hb (oc_96 50 (aq_1 shX11_provenLitres_49)) ?_
          refine lv_istore_n (lv' := [(3, .int (x8_3 + (nI (b9 - max a9 z8)))), (6, .ref (ad 13 m9)), (5, .int (nI i8)), (4, .int (nI z8)), (0, .ref (g 0)), (1, .int v0), (2, .int v1)]) hx hb (oc_62 51 (aq_2 shX11_provenLitres_49)) rfl hl (ltb rfl) rfl (fun ls hl => ?_)
          refine lv_aload hx hb (oc_25 52 (aq_3 shX11_provenLitres_49) ub_6) (lvA1 hl) ?_
          refine gf_RX11_408 S hK hP _ (xf_3 kf_1) (v := .int ((Fn 162) m9)) rfl (oc_180 54 (aq_5 shX11_provenLitres_49) uw_1_152) ?_
          refine lv_topi (fun y_8 ey_8 => ?_)
          obtain rfl : y_8 = (nI b9) := ey_8.trans eb9
          refine lv_istore (lv' := [(4, .int (nI b9)), (3, .int (x8_3 + (nI (b9 - max a9 z8)))), (6, .ref (ad 13 m9)), (5, .int (nI i8)), (0, .ref (g 0)), (1, .int v0), (2, .int v1)]) hx hb (oc_54 57 (aq_8 shX11_provenLitres_49) ub_4) hl (ltb rfl) rfl (fun ls hl => ?_)
          refine lv_iinc (v := (nI (i8 + 1))) (lv' := [(5, .int (nI (i8 + 1))), (4, .int (nI b9)), (3, .int (x8_3 + (nI (b9 - max a9 z8)))), (6, .ref (ad 13 m9)), (0, .ref (g 0)), (1, .int v0), (2, .int v1)]) hx hb (oc_132 59 (aq_10 shX11_provenLitres_49) ub_5 sgb_1) hl (k := 3) rfl (nI_1 _) (ltb rfl) rfl (fun ls hl => ?_)
          refine lv_goto (tgt := 8) hx hb (oc_167 62 (aq_13 shX11_provenLitres_49) sgw_255_202) rfl ?_
          exact ih8 (i8 + 1) (x8_3 + (nI (b9 - max a9 z8))) b9 (by (first | omega | (have zz0 := Hid.u hb_cn; omega))) ⟨(by (first | omega | (have zz0 := Hid.u hb_cn; omega))), (pv_step h9 hm9.1 (by have := hm9.2; (first | omega | (have zz0 := Hid.u hb_cn; omega))) (fun q hq aq w9 => hmin9 q hq aq (by rw [tn8]; exact w9)) hx8_0 ha9 hb9 hab9), ⟨by (first | omega | (have zz0 := Hid.u hb_cn; omega)), by (first | omega | (have zz0 := Hid.u hb_cn; omega))⟩, (by have := pv_rm (A := (fun p => Fn 160 p = v0 ∧ (v1 = -1 ∨ Fn 163 p = v1))) (t := Fn 162) (n := cn 13) (l := z8) (b := b9) h9 hm9.1 (by have := hm9.2; (first | omega | (have zz0 := Hid.u hb_cn; omega))) hb9; (first | omega | (have zz0 := Hid.u hb_cn; omega)))⟩ ls (lv_sub hl [0, 1, 2, 4, 5, 6] rfl)
        ·
          refine lv_astoreN (lv' := [(6, .null), (5, .int (nI i8)), (4, .int (nI z8)), (3, .int x8_3), (0, .ref (g 0)), (1, .int v0), (2, .int v1)]) hx hb dX11_provenLitres_23 hl (ltb rfl) rfl (fun ls hl => ?_)
          refine lv_aloadN hx hb dX11_provenLitres_25 (lvA0 hl) ?_
          refine lv_ifnonnullN hx hb dX11_provenLitres_27 ?_
          refine lv_goto (tgt := 65) hx hb (oc_167 30 (aq_5 shX11_provenLitres_25) sgw_0_35) rfl ?_
          refine lv_iload_n hx hb dX11_provenLitres_65 rfl (lvA3 hl) ?_
          exact W.iret (v := x8_3) hx hb hr (fun t ht hW => ⟨x8_3, rfl, ⟨z8, hx8_1.2, hx8_0, fun q hq aq w9 => hn9 q hq aq (by rw [nI_toInt (by (first | omega | (have zz0 := Hid.u hb_cn; omega)))]; exact w9)⟩, ht⟩) (fun _ h => absurd h List.not_mem_nil) dX11_provenLitres_66
  exact lp_8 _ 0 0 0 (Nat.lt_succ_self _) ⟨(by (first | omega | (have zz0 := Hid.u hb_cn; omega))), rfl, ⟨by (first | omega | (have zz0 := Hid.u hb_cn; omega)), by (first | omega | (have zz0 := Hid.u hb_cn; omega))⟩, (Nat.le_trans (rmN_n _) (by (first | omega | (have zz0 := Hid.u hb_cn; omega))))⟩ ls (lv_sub hl [0, 1, 2, 3, 4, 5] rfl)
set_option maxRecDepth 100000 in
set_option maxHeartbeats 4000000 in
theorem q_proved9 (l : Launch) (D : va_G) (cI cB cZ : ClassId) (g : Nat → Nat) (cn : Nat → Nat) (In : Nat → Int32) (Fn : Nat → Nat → Int32) (b0 : Nat) (v1 : Int32) (sz : Nat) (hI : IM cn Fn) (hb0 : b0 < 10) : Met l yX12_proved (CWS yX12_proved cX12_proved 8 (some .int)) (RM 2 0 0) (PBw [.ref (g 100), .int (nI b0), .int v1] D cI cB cZ (wM cI cB cZ g cn In Fn) sz) (va_Qi (fun (r : Int32) (u : (Nat → Nat) × (Nat → Int32) × (Nat → Nat → Int32)) => (fun r c2 I2 F2 => Fr [] [71, 72, 73] [] cn In Fn c2 I2 F2 ∧ IM c2 F2 ∧ (CNT (COV (fun p => Fn 67 p = nI b0 ∧ ((v1 : Int32) = -1 ∨ Fn 70 p = v1)) (Fn 68) (Fn 69) (cn 63)) (mixN (Fn 10) (Fn 64 b0) 20) r)) r u.1 u.2.1 u.2.2) (fun (u : (Nat → Nat) × (Nat → Int32) × (Nat → Nat → Int32)) (t : State) => va_P D vwCl (wM cI cB cZ g u.1 u.2.1 u.2.2) t.heap ∧ va_D (va_A (wM cI cB cZ g cn In Fn) sz) (wM cI cB cZ g u.1 u.2.1 u.2.2)) (va_A (wM cI cB cZ g cn In Fn) sz)) 0 0 (va_A (wM cI cB cZ g cn In Fn) sz) := by
  refine en_w (fun A => (va_Qi (fun (r : Int32) (u : (Nat → Nat) × (Nat → Int32) × (Nat → Nat → Int32)) => (fun (r : Int32) (c2 : Nat → Nat) (I2 : Nat → Int32) (F2 : Nat → Nat → Int32) => Fr [] [71, 72, 73] [] cn In Fn c2 I2 F2 ∧ IM c2 F2 ∧ (CNT (COV (fun p => Fn 67 p = nI b0 ∧ ((v1 : Int32) = -1 ∨ Fn 70 p = v1)) (Fn 68) (Fn 69) (cn 63)) (mixN (Fn 10) (Fn 64 b0) 20) r)) r u.1 u.2.1 u.2.2) (fun (u : (Nat → Nat) × (Nat → Int32) × (Nat → Nat → Int32)) (t : State) => va_P D vwCl (wM cI cB cZ g u.1 u.2.1 u.2.2) t.heap ∧ va_D A (wM cI cB cZ g u.1 u.2.1 u.2.2)) A)) rfl rfl pn_RX12 (Nat.le_of_ble_eq_true rfl) (fun p e s m below meth c A hx hb hml hown S hr hlocks hnm hA hP hK hD hS ls hl => ?_)
  have hl : lv_has ls 8 [(0, .ref (g 100)), (1, .int (nI b0)), (2, .int v1)] := hl
  have hi_cn : Hid (CB cn) := hI.b
  refine lv_iconst (v := 0) hx hb (oc_3 0 shX12_proved_0) kic_0 ?_
  refine lv_istore_n (lv' := [(3, .int 0), (0, .ref (g 100)), (1, .int (nI b0)), (2, .int v1)]) hx hb (oc_62 1 (aq_1 shX12_proved_0)) rfl hl (ltb rfl) rfl (fun ls hl => ?_)
  refine lv_aload_n hx hb (oc_42 2 (aq_2 shX12_proved_0)) rfl (lvA1 hl) ?_
  refine lv_iload_n hx hb (oc_27 3 (aq_3 shX12_proved_0)) rfl (lvA2 hl) ?_
  have hFc := free_all hD hS hA
  refine va_calli (runV_a (As := [.int (nI b0)]) (rest := []) S (q_litresOf l D cI cB cZ g cn In Fn b0 s.heap.size hI (by (first | omega | (have zz0 := Hid.u hi_cn; omega)))) kV_RX12_444 hK hP hD 0 rfl rfl rfl ⟨Nat.le_of_ble_eq_true rfl, Nat.le_of_ble_eq_true rfl⟩ ⟨Nat.le_of_ble_eq_true rfl, Nat.le_of_ble_eq_true rfl⟩ rfl hl.1 rfl (Nat.le_of_ble_eq_true rfl) (oc_182 4 (aq_4 shX12_proved_0) uw_1_188)) hS (fun q _ h => hFc q h) hFc (fun r_1 u t H1 locs ht hvm wh_2 hB hz1 hk1 hS => ?_)
  obtain ⟨cn2, In2, Fn2⟩ := u
  obtain ⟨hP1, hD1⟩ := hB
  rw [ht] at hP1
  have hP : va_P D vwCl (wM cI cB cZ g cn2 In2 Fn2) H1 := hP1
  have hD : va_D A (wM cI cB cZ g cn2 In2 Fn2) := hD1.weaken (fun _ _ _ h => hFc _ h)
  generalize H1 = H at hP hS ⊢
  have vh_2 : (fun r c2 I2 F2 => Fr [] [71, 72, 73] [] cn In Fn c2 I2 F2 ∧ IM c2 F2 ∧ (r = nI (mixN ((Fn 10)) ((Fn 64) b0) 20))) r_1 cn2 In2 Fn2 := wh_2
  obtain ⟨hfc2, hIn2, h_2⟩ := vh_2
  obtain rfl : cn = cn2 := (funext (fun k => hfc2.1 k List.not_mem_nil)).symm
  obtain rfl : Fn = Fn2 := (funext (fun k => hfc2.2.2 k List.not_mem_nil)).symm
  have hf2 : Fr [] [71, 72, 73] [] cn In Fn cn In2 Fn := Fr.mo (Fr.tr (Fr.rf (cn := cn) (In := In) (Fn := Fn)) hfc2) (sbl rfl) (sbl rfl) (sbl rfl)
  have hi_cn : Hid (CB cn) := hIn2.b
  subst h_2
  refine lv_istore (lv' := [(4, .int (nI (mixN ((Fn 10)) ((Fn 64) b0) 20))), (3, .int 0), (0, .ref (g 100)), (1, .int (nI b0)), (2, .int v1)]) hx hb (oc_54 7 (aq_7 shX12_proved_0) ub_4) hl (ltb rfl) rfl (fun ls hl => ?_)
  have hmx := IM.mx hI (Fn 64 b0)
  refine lv_iconst (v := 0) hx hb (oc_3 9 (aq_9 shX12_proved_0)) kic_0 ?_
  refine lv_istore (lv' := [(5, .int 0), (4, .int (nI (mixN ((Fn 10)) ((Fn 64) b0) 20))), (3, .int 0), (0, .ref (g 100)), (1, .int (nI b0)), (2, .int v1)]) hx hb (oc_54 10 (aq_10 shX12_proved_0) ub_5) hl (ltb rfl) rfl (fun ls hl => ?_)
  have lp_12 : ∀ (n : Nat) (i12 : Nat) (x12_3 : Int32) , mixN (Fn 10) (Fn 64 b0) 20 - i12 < n → (i12 ≤ mixN (Fn 10) (Fn 64 b0) 20 ∧ (CNT (COV (fun p => Fn 67 p = nI b0 ∧ ((v1 : Int32) = -1 ∨ Fn 70 p = v1)) (Fn 68) (Fn 69) (cn 63)) i12 x12_3)) → ∀ ls : Array Slot, lv_has ls 8 [(5, .int (nI i12)), (4, .int (nI (mixN ((Fn 10)) ((Fn 64) b0) 20))), (3, .int x12_3), (0, .ref (g 100)), (1, .int (nI b0)), (2, .int v1)] → W p l e (RM 2 0 0) s m ([.ref (g 100), .int (nI b0), .int v1]).toArray below meth c H locs 0 0 (MQ below (va_Qi (fun (r : Int32) (u : (Nat → Nat) × (Nat → Int32) × (Nat → Nat → Int32)) => (fun r c2 I2 F2 => Fr [] [71, 72, 73] [] cn In Fn c2 I2 F2 ∧ IM c2 F2 ∧ (CNT (COV (fun p => Fn 67 p = nI b0 ∧ ((v1 : Int32) = -1 ∨ Fn 70 p = v1)) (Fn 68) (Fn 69) (cn 63)) (mixN (Fn 10) (Fn 64 b0) 20) r)) r u.1 u.2.1 u.2.2) (fun (u : (Nat → Nat) × (Nat → Int32) × (Nat → Nat → Int32)) (t : State) => va_P D vwCl (wM cI cB cZ g u.1 u.2.1 u.2.2) t.heap ∧ va_D A (wM cI cB cZ g u.1 u.2.1 u.2.2)) A) ([.ref (g 100), .int (nI b0), .int v1]).toArray s 0 0 A) (F0 m 12 ls []) := by
    intro n12
    induction n12 with
    | zero => intros; (first | omega | (have zz0 := Hid.u hi_cn; omega))
    | succ n12 ih12 =>
      intro i12 x12_3 hmu12 hinv12 ls hl
      obtain ⟨hr12, hx12_0⟩ := hinv12
      have ti12 : (nI i12).toInt = (i12 : Int) := nI_toInt (by (first | omega | (have zz0 := Hid.u hi_cn; omega)))
      refine lv_iload hx hb (oc_21 12 (aq_12 shX12_proved_0) ub_5) (lvA0 hl) ?_
      refine lv_iload hx hb (oc_21 14 (aq_14 shX12_proved_0) ub_4) (lvA1 hl) ?_
      have : (nI (mixN ((Fn 10)) ((Fn 64) b0) 20)).toInt = (((mixN ((Fn 10)) ((Fn 64) b0) 20) : Nat) : Int) := nI_toInt (by (first | omega | (have zz0 := Hid.u hi_cn; omega)))
      refine lv_icmp_ge (tgt := 122) hx hb (oc_162 16 (aq_16 shX12_proved_0) sgw_0_106) rfl (fun c_3 => ?_) (fun c_3 => ?_)
      ·
        have tc_3 : ((nI (mixN ((Fn 10)) ((Fn 64) b0) 20)).toInt : Int) ≤ (nI i12).toInt := Int32.le_iff_toInt_le.mp c_3
        refine lv_iload_n hx hb (oc_29 122 (aq_22 shX12_proved_100)) rfl (lvA2 hl) ?_
        exact W.iret (v := x12_3) hx hb hr (fun t ht hW => ⟨⟨x12_3, (cn, In2, Fn), rfl, ⟨(Fr.mo hf2 (sbl rfl) (sbl rfl) (sbl rfl)), hIn2, (by show CNT (COV (fun p => Fn 67 p = nI b0 ∧ ((v1 : Int32) = -1 ∨ Fn 70 p = v1)) (Fn 68) (Fn 69) (cn 63)) (mixN (Fn 10) (Fn 64 b0) 20) x12_3; have e9 : i12 = mixN (Fn 10) (Fn 64 b0) 20 := (by (first | omega | (have zz0 := Hid.u hi_cn; omega))); rw [← e9]; exact hx12_0)⟩, by rw [ht]; exact hP, hD⟩, hS.F ht⟩) hS.2.2 (oc_172 123 (aq_23 shX12_proved_100))
      ·
        have tc_3 : ((nI i12).toInt : Int) < (nI (mixN ((Fn 10)) ((Fn 64) b0) 20)).toInt := Int32.lt_iff_toInt_lt.mp (Int32.not_le.mp c_3)
        refine lv_iconst (v := 0) hx hb (oc_3 19 (aq_19 shX12_proved_0)) kic_0 ?_
        refine lv_istore (lv' := [(6, .int 0), (5, .int (nI i12)), (4, .int (nI (mixN ((Fn 10)) ((Fn 64) b0) 20))), (3, .int x12_3), (0, .ref (g 100)), (1, .int (nI b0)), (2, .int v1)]) hx hb (oc_54 20 (aq_20 shX12_proved_0) ub_6) hl (ltb rfl) rfl (fun ls hl => ?_)
        refine lv_iconst (v := 0) hx hb (oc_3 22 (aq_22 shX12_proved_0)) kic_0 ?_
        refine lv_istore (lv' := [(7, .int 0), (6, .int 0), (5, .int (nI i12)), (4, .int (nI (mixN ((Fn 10)) ((Fn 64) b0) 20))), (3, .int x12_3), (0, .ref (g 100)), (1, .int (nI b0)), (2, .int v1)]) hx hb (oc_54 23 (aq_23 shX12_proved_0) ub_7) hl (ltb rfl) rfl (fun ls hl => ?_)
        have lp_25 : ∀ (n : Nat) (i25 : Nat) (x25_6 : Int32) , cn 63 - i25 < n → (i25 ≤ cn 63 ∧ ((x25_6 = 0 ∧ ∀ p : Nat, p < i25 → ¬ ((fun p => Fn 67 p = nI b0 ∧ ((v1 : Int32) = -1 ∨ Fn 70 p = v1)) p ∧ (Fn 68 p).toInt ≤ (i12 : Int) ∧ (i12 : Int) < (Fn 69 p).toInt)) ∨ (x25_6 = 1 ∧ COV (fun p => Fn 67 p = nI b0 ∧ ((v1 : Int32) = -1 ∨ Fn 70 p = v1)) (Fn 68) (Fn 69) (cn 63) i12))) → ∀ ls : Array Slot, lv_has ls 8 [(7, .int (nI i25)), (6, .int x25_6), (5, .int (nI i12)), (4, .int (nI (mixN ((Fn 10)) ((Fn 64) b0) 20))), (3, .int x12_3), (0, .ref (g 100)), (1, .int (nI b0)), (2, .int v1)] → W p l e (RM 2 0 0) s m ([.ref (g 100), .int (nI b0), .int v1]).toArray below meth c H locs 0 0 (MQ below (va_Qi (fun (r : Int32) (u : (Nat → Nat) × (Nat → Int32) × (Nat → Nat → Int32)) => (fun r c2 I2 F2 => Fr [] [71, 72, 73] [] cn In Fn c2 I2 F2 ∧ IM c2 F2 ∧ (CNT (COV (fun p => Fn 67 p = nI b0 ∧ ((v1 : Int32) = -1 ∨ Fn 70 p = v1)) (Fn 68) (Fn 69) (cn 63)) (mixN (Fn 10) (Fn 64 b0) 20) r)) r u.1 u.2.1 u.2.2) (fun (u : (Nat → Nat) × (Nat → Int32) × (Nat → Nat → Int32)) (t : State) => va_P D vwCl (wM cI cB cZ g u.1 u.2.1 u.2.2) t.heap ∧ va_D A (wM cI cB cZ g u.1 u.2.1 u.2.2)) A) ([.ref (g 100), .int (nI b0), .int v1]).toArray s 0 0 A) (F0 m 25 ls []) := by
          intro n25
          induction n25 with
          | zero => intros; (first | omega | (have zz0 := Hid.u hi_cn; omega))
          | succ n25 ih25 =>
            intro i25 x25_6 hmu25 hinv25 ls hl
            obtain ⟨hr25, hx25_0⟩ := hinv25
            have ti25 : (nI i25).toInt = (i25 : Int) := nI_toInt (by (first | omega | (have zz0 := Hid.u hi_cn; omega)))
            refine lv_iload hx hb (oc_21 25 shX12_proved_25 ub_7) (lvA0 hl) ?_
            refine lv_aload_n hx hb (oc_42 27 (aq_2 shX12_proved_25)) rfl (lvA5 hl) ?_
            refine gM_447 S hK hP (v := .int (nI (cn 63))) rfl (oc_180 28 (aq_3 shX12_proved_25) uw_1_191) ?_
            have : (nI (cn 63)).toInt = (((cn 63) : Nat) : Int) := nI_toInt (by (first | omega | (have zz0 := Hid.u hi_cn; omega)))
            refine lv_icmp_ge (tgt := 103) hx hb (oc_162 31 (aq_6 shX12_proved_25) sgw_0_72) rfl (fun c_4 => ?_) (fun c_4 => ?_)
            ·
              have tc_4 : ((nI (cn 63)).toInt : Int) ≤ (nI i25).toInt := Int32.le_iff_toInt_le.mp c_4
              refine lv_iload_n hx hb (oc_29 103 (aq_3 shX12_proved_100)) rfl (lvA4 hl) ?_
              refine lv_iload hx hb (oc_21 104 (aq_4 shX12_proved_100) ub_6) (lvA1 hl) ?_
              refine lv_if_eq (tgt := 113) hx hb (oc_153 106 (aq_6 shX12_proved_100) sgw_0_7) rfl (fun c_5 => ?_) (fun c_5 => ?_)
              ·
                have tc_5 : (x25_6.toInt : Int) = 0 := congrArg Int32.toInt c_5
                refine lv_iconst (v := 0) hx hb (oc_3 113 (aq_13 shX12_proved_100)) kic_0 ?_
                refine lv_iadd hx hb dX12_proved_114 ?_
                refine lv_istore_n (lv' := [(3, .int (x12_3 + 0)), (7, .int (nI i25)), (6, .int x25_6), (5, .int (nI i12)), (4, .int (nI (mixN ((Fn 10)) ((Fn 64) b0) 20))), (0, .ref (g 100)), (1, .int (nI b0)), (2, .int v1)]) hx hb dX12_proved_115 rfl hl (ltb rfl) rfl (fun ls hl => ?_)
                refine lv_iinc (v := (nI (i12 + 1))) (lv' := [(5, .int (nI (i12 + 1))), (3, .int (x12_3 + 0)), (7, .int (nI i25)), (6, .int x25_6), (4, .int (nI (mixN ((Fn 10)) ((Fn 64) b0) 20))), (0, .ref (g 100)), (1, .int (nI b0)), (2, .int v1)]) hx hb dX12_proved_116 hl (k := 3) rfl (nI_1 _) (ltb rfl) rfl (fun ls hl => ?_)
                refine lv_goto (tgt := 12) hx hb dX12_proved_119 rfl ?_
                exact ih12 (i12 + 1) (x12_3 + 0) (by (first | omega | (have zz0 := Hid.u hi_cn; omega))) ⟨(by (first | omega | (have zz0 := Hid.u hi_cn; omega))), (⟨x12_3, hx12_0, by rcases hx25_0 with ⟨e8, h8⟩ | ⟨e8, h8⟩; (first | exact Or.inr ⟨fun ⟨p, hp, w9⟩ => h8 p (by (first | omega | (have zz0 := Hid.u hi_cn; omega))) w9, Int32.add_zero _⟩ | exact absurd e8 (by first | assumption | exact fun q => absurd (congrArg Int32.toInt q) (by assumption))); (first | exact Or.inl ⟨h8, rfl⟩ | (rw [show x25_6 = 0 from (by first | assumption | exact Int32.toInt_inj.mp (by assumption))] at e8; exact absurd e8 (by decide)))⟩)⟩ ls (lv_sub hl [0, 4, 1, 5, 6, 7] rfl)
              ·
                have tc_5 : (x25_6.toInt : Int) ≠ 0 := fun q => c_5 (Int32.toInt_inj.mp q)
                refine lv_iconst (v := 1) hx hb (oc_4 109 (aq_9 shX12_proved_100)) kic_1 ?_
                refine lv_goto (tgt := 114) hx hb (oc_167 110 (aq_10 shX12_proved_100) sgw_0_4) rfl ?_
                refine lv_iadd hx hb dX12_proved_114 ?_
                refine lv_istore_n (lv' := [(3, .int (x12_3 + 1)), (7, .int (nI i25)), (6, .int x25_6), (5, .int (nI i12)), (4, .int (nI (mixN ((Fn 10)) ((Fn 64) b0) 20))), (0, .ref (g 100)), (1, .int (nI b0)), (2, .int v1)]) hx hb dX12_proved_115 rfl hl (ltb rfl) rfl (fun ls hl => ?_)
                refine lv_iinc (v := (nI (i12 + 1))) (lv' := [(5, .int (nI (i12 + 1))), (3, .int (x12_3 + 1)), (7, .int (nI i25)), (6, .int x25_6), (4, .int (nI (mixN ((Fn 10)) ((Fn 64) b0) 20))), (0, .ref (g 100)), (1, .int (nI b0)), (2, .int v1)]) hx hb dX12_proved_116 hl (k := 3) rfl (nI_1 _) (ltb rfl) rfl (fun ls hl => ?_)
                refine lv_goto (tgt := 12) hx hb dX12_proved_119 rfl ?_
                exact ih12 (i12 + 1) (x12_3 + 1) (by (first | omega | (have zz0 := Hid.u hi_cn; omega))) ⟨(by (first | omega | (have zz0 := Hid.u hi_cn; omega))), (⟨x12_3, hx12_0, by rcases hx25_0 with ⟨e8, h8⟩ | ⟨e8, h8⟩; (first | exact Or.inr ⟨fun ⟨p, hp, w9⟩ => h8 p (by (first | omega | (have zz0 := Hid.u hi_cn; omega))) w9, Int32.add_zero _⟩ | exact absurd e8 (by first | assumption | exact fun q => absurd (congrArg Int32.toInt q) (by assumption))); (first | exact Or.inl ⟨h8, rfl⟩ | (rw [show x25_6 = 0 from (by first | assumption | exact Int32.toInt_inj.mp (by assumption))] at e8; exact absurd e8 (by decide)))⟩)⟩ ls (lv_sub hl [0, 4, 1, 5, 6, 7] rfl)
            ·
              have tc_4 : ((nI i25).toInt : Int) < (nI (cn 63)).toInt := Int32.lt_iff_toInt_lt.mp (Int32.not_le.mp c_4)
              refine lv_iload hx hb (oc_21 34 (aq_9 shX12_proved_25) ub_6) (lvA1 hl) ?_
              refine lv_if_ne (tgt := 90) hx hb (oc_154 36 (aq_11 shX12_proved_25) sgw_0_54) rfl (fun c_6 => ?_) (fun c_6 => ?_)
              ·
                have tc_6 : (x25_6.toInt : Int) ≠ 0 := fun q => c_6 (Int32.toInt_inj.mp q)
                refine lv_iconst (v := 1) hx hb dX12_proved_90 kic_1 ?_
                refine lv_goto (tgt := 95) hx hb dX12_proved_91 rfl ?_
                refine lv_istore (lv' := [(6, .int 1), (7, .int (nI i25)), (5, .int (nI i12)), (4, .int (nI (mixN ((Fn 10)) ((Fn 64) b0) 20))), (3, .int x12_3), (0, .ref (g 100)), (1, .int (nI b0)), (2, .int v1)]) hx hb dX12_proved_95 hl (ltb rfl) rfl (fun ls hl => ?_)
                refine lv_iinc (v := (nI (i25 + 1))) (lv' := [(7, .int (nI (i25 + 1))), (6, .int 1), (5, .int (nI i12)), (4, .int (nI (mixN ((Fn 10)) ((Fn 64) b0) 20))), (3, .int x12_3), (0, .ref (g 100)), (1, .int (nI b0)), (2, .int v1)]) hx hb dX12_proved_97 hl (k := 1) rfl (nI_1 _) (ltb rfl) rfl (fun ls hl => ?_)
                refine lv_goto (tgt := 25) hx hb dX12_proved_100 rfl ?_
                exact ih25 (i25 + 1) 1 (by (first | omega | (have zz0 := Hid.u hi_cn; omega))) ⟨(by (first | omega | (have zz0 := Hid.u hi_cn; omega))), (by rcases hx25_0 with ⟨e8, h8⟩ | ⟨e8, h8⟩; (first | exact Or.inr ⟨rfl, ⟨i25, by (first | omega | (have zz0 := Hid.u hi_cn; omega)), ⟨(by first | assumption | exact Int32.toInt_inj.mp (by assumption)), by first | exact Or.inl (by first | assumption | exact Int32.toInt_inj.mp (by assumption)) | exact Or.inr (by first | assumption | exact Int32.toInt_inj.mp (by assumption))⟩, by (first | omega | (have zz0 := Hid.u hi_cn; omega)), by (first | omega | (have zz0 := Hid.u hi_cn; omega))⟩⟩ | exact absurd e8 (by first | assumption | exact fun q => absurd (congrArg Int32.toInt q) (by assumption))); exact Or.inr ⟨rfl, h8⟩)⟩ ls (lv_sub hl [0, 1, 2, 3, 4, 5, 6, 7] rfl)
              ·
                have tc_6 : (x25_6.toInt : Int) = 0 := congrArg Int32.toInt c_6
                refine lv_aload_n hx hb (oc_42 39 (aq_14 shX12_proved_25)) rfl (lvA5 hl) ?_
                refine gM_147 S hK hP (v := .ref (g 67)) rfl (oc_180 40 (aq_15 shX12_proved_25) uw_0_147) ?_
                refine lv_iload hx hb (oc_21 43 (aq_18 shX12_proved_25) ub_7) (lvA0 hl) ?_
                have kb_1 : i25 < 40 := by (first | omega | (have zz0 := Hid.u hi_cn; omega))
                refine ldM_67 hx hb hK hP (x := ((Fn 67) i25)) (vp_in_nI kb_1 (ltb rfl)) (nI_clamp (Nat.lt_trans kb_1 (ltb rfl))) rfl (oc_46 45 (aq_20 shX12_proved_25)) ?_
                refine lv_iload_n hx hb (oc_27 46 (aq_21 shX12_proved_25)) rfl (lvA6 hl) ?_
                have : (nI b0).toInt = ((b0 : Nat) : Int) := nI_toInt (by (first | omega | (have zz0 := Hid.u hi_cn; omega)))
                refine lv_icmp_ne (tgt := 94) hx hb (oc_160 47 (aq_22 shX12_proved_25) sgw_0_47) rfl (fun c_7 => ?_) (fun c_7 => ?_)
                ·
                  have tc_7 : (((Fn 67) i25).toInt : Int) ≠ (nI b0).toInt := fun q => c_7 (Int32.toInt_inj.mp q)
                  refine lv_iconst (v := 0) hx hb dX12_proved_94 kic_0 ?_
                  refine lv_istore (lv' := [(6, .int 0), (7, .int (nI i25)), (5, .int (nI i12)), (4, .int (nI (mixN ((Fn 10)) ((Fn 64) b0) 20))), (3, .int x12_3), (0, .ref (g 100)), (1, .int (nI b0)), (2, .int v1)]) hx hb dX12_proved_95 hl (ltb rfl) rfl (fun ls hl => ?_)
                  refine lv_iinc (v := (nI (i25 + 1))) (lv' := [(7, .int (nI (i25 + 1))), (6, .int 0), (5, .int (nI i12)), (4, .int (nI (mixN ((Fn 10)) ((Fn 64) b0) 20))), (3, .int x12_3), (0, .ref (g 100)), (1, .int (nI b0)), (2, .int v1)]) hx hb dX12_proved_97 hl (k := 1) rfl (nI_1 _) (ltb rfl) rfl (fun ls hl => ?_)
                  refine lv_goto (tgt := 25) hx hb dX12_proved_100 rfl ?_
                  exact ih25 (i25 + 1) 0 (by (first | omega | (have zz0 := Hid.u hi_cn; omega))) ⟨(by (first | omega | (have zz0 := Hid.u hi_cn; omega))), (by rcases hx25_0 with ⟨e8, h8⟩ | ⟨e8, h8⟩; exact Or.inl ⟨rfl, (fun p hp => if q9 : p < i25 then h8 p q9 else (by have e9 : p = i25 := (by (first | omega | (have zz0 := Hid.u hi_cn; omega))); rw [e9]; exact fun w9 => by first | exact absurd w9.1.1 (by first | assumption | exact fun q => absurd (congrArg Int32.toInt q) (by assumption)) | (first | omega | (have zz0 := Hid.u hi_cn; omega)) | (rcases w9.1.2 with w8 | w8 <;> exact absurd w8 (by first | assumption | exact fun q => absurd (congrArg Int32.toInt q) (by assumption)))))⟩; exact absurd e8 (by rw [show x25_6 = 0 from (by first | assumption | exact Int32.toInt_inj.mp (by assumption))]; decide))⟩ ls (lv_sub hl [0, 1, 2, 3, 4, 5, 6, 7] rfl)
                ·
                  have tc_7 : (((Fn 67) i25).toInt : Int) = (nI b0).toInt := congrArg Int32.toInt c_7
                  refine lv_iload hx hb (oc_21 50 shX12_proved_50 ub_5) (lvA2 hl) ?_
                  refine lv_aload_n hx hb (oc_42 52 (aq_2 shX12_proved_50)) rfl (lvA5 hl) ?_
                  refine gM_150 S hK hP (v := .ref (g 68)) rfl (oc_180 53 (aq_3 shX12_proved_50) uw_0_150) ?_
                  refine lv_iload hx hb (oc_21 56 (aq_6 shX12_proved_50) ub_7) (lvA0 hl) ?_
                  refine ldM_68 hx hb hK hP (x := ((Fn 68) i25)) (vp_in_nI kb_1 (ltb rfl)) (nI_clamp (Nat.lt_trans kb_1 (ltb rfl))) rfl (oc_46 58 (aq_8 shX12_proved_50)) ?_
                  refine lv_icmp_lt (tgt := 94) hx hb (oc_161 59 (aq_9 shX12_proved_50) sgw_0_35) rfl (fun c_8 => ?_) (fun c_8 => ?_)
                  ·
                    have tc_8 : ((nI i12).toInt : Int) < ((Fn 68) i25).toInt := Int32.lt_iff_toInt_lt.mp c_8
                    refine lv_iconst (v := 0) hx hb dX12_proved_94 kic_0 ?_
                    refine lv_istore (lv' := [(6, .int 0), (7, .int (nI i25)), (5, .int (nI i12)), (4, .int (nI (mixN ((Fn 10)) ((Fn 64) b0) 20))), (3, .int x12_3), (0, .ref (g 100)), (1, .int (nI b0)), (2, .int v1)]) hx hb dX12_proved_95 hl (ltb rfl) rfl (fun ls hl => ?_)
                    refine lv_iinc (v := (nI (i25 + 1))) (lv' := [(7, .int (nI (i25 + 1))), (6, .int 0), (5, .int (nI i12)), (4, .int (nI (mixN ((Fn 10)) ((Fn 64) b0) 20))), (3, .int x12_3), (0, .ref (g 100)), (1, .int (nI b0)), (2, .int v1)]) hx hb dX12_proved_97 hl (k := 1) rfl (nI_1 _) (ltb rfl) rfl (fun ls hl => ?_)
                    refine lv_goto (tgt := 25) hx hb dX12_proved_100 rfl ?_
                    exact ih25 (i25 + 1) 0 (by (first | omega | (have zz0 := Hid.u hi_cn; omega))) ⟨(by (first | omega | (have zz0 := Hid.u hi_cn; omega))), (by rcases hx25_0 with ⟨e8, h8⟩ | ⟨e8, h8⟩; exact Or.inl ⟨rfl, (fun p hp => if q9 : p < i25 then h8 p q9 else (by have e9 : p = i25 := (by (first | omega | (have zz0 := Hid.u hi_cn; omega))); rw [e9]; exact fun w9 => by first | exact absurd w9.1.1 (by first | assumption | exact fun q => absurd (congrArg Int32.toInt q) (by assumption)) | (first | omega | (have zz0 := Hid.u hi_cn; omega)) | (rcases w9.1.2 with w8 | w8 <;> exact absurd w8 (by first | assumption | exact fun q => absurd (congrArg Int32.toInt q) (by assumption)))))⟩; exact absurd e8 (by rw [show x25_6 = 0 from (by first | assumption | exact Int32.toInt_inj.mp (by assumption))]; decide))⟩ ls (lv_sub hl [0, 1, 2, 3, 4, 5, 6, 7] rfl)
                  ·
                    have tc_8 : (((Fn 68) i25).toInt : Int) ≤ (nI i12).toInt := Int32.le_iff_toInt_le.mp (Int32.not_lt.mp c_8)
                    refine lv_iload hx hb (oc_21 62 (aq_12 shX12_proved_50) ub_5) (lvA2 hl) ?_
                    refine lv_aload_n hx hb (oc_42 64 (aq_14 shX12_proved_50)) rfl (lvA5 hl) ?_
                    refine gM_153 S hK hP (v := .ref (g 69)) rfl (oc_180 65 (aq_15 shX12_proved_50) uw_0_153) ?_
                    refine lv_iload hx hb (oc_21 68 (aq_18 shX12_proved_50) ub_7) (lvA0 hl) ?_
                    refine ldM_69 hx hb hK hP (x := ((Fn 69) i25)) (vp_in_nI kb_1 (ltb rfl)) (nI_clamp (Nat.lt_trans kb_1 (ltb rfl))) rfl (oc_46 70 (aq_20 shX12_proved_50)) ?_
                    refine lv_icmp_ge (tgt := 94) hx hb (oc_162 71 (aq_21 shX12_proved_50) sgw_0_23) rfl (fun c_9 => ?_) (fun c_9 => ?_)
                    ·
                      have tc_9 : (((Fn 69) i25).toInt : Int) ≤ (nI i12).toInt := Int32.le_iff_toInt_le.mp c_9
                      refine lv_iconst (v := 0) hx hb dX12_proved_94 kic_0 ?_
                      refine lv_istore (lv' := [(6, .int 0), (7, .int (nI i25)), (5, .int (nI i12)), (4, .int (nI (mixN ((Fn 10)) ((Fn 64) b0) 20))), (3, .int x12_3), (0, .ref (g 100)), (1, .int (nI b0)), (2, .int v1)]) hx hb dX12_proved_95 hl (ltb rfl) rfl (fun ls hl => ?_)
                      refine lv_iinc (v := (nI (i25 + 1))) (lv' := [(7, .int (nI (i25 + 1))), (6, .int 0), (5, .int (nI i12)), (4, .int (nI (mixN ((Fn 10)) ((Fn 64) b0) 20))), (3, .int x12_3), (0, .ref (g 100)), (1, .int (nI b0)), (2, .int v1)]) hx hb dX12_proved_97 hl (k := 1) rfl (nI_1 _) (ltb rfl) rfl (fun ls hl => ?_)
                      refine lv_goto (tgt := 25) hx hb dX12_proved_100 rfl ?_
                      exact ih25 (i25 + 1) 0 (by (first | omega | (have zz0 := Hid.u hi_cn; omega))) ⟨(by (first | omega | (have zz0 := Hid.u hi_cn; omega))), (by rcases hx25_0 with ⟨e8, h8⟩ | ⟨e8, h8⟩; exact Or.inl ⟨rfl, (fun p hp => if q9 : p < i25 then h8 p q9 else (by have e9 : p = i25 := (by (first | omega | (have zz0 := Hid.u hi_cn; omega))); rw [e9]; exact fun w9 => by first | exact absurd w9.1.1 (by first | assumption | exact fun q => absurd (congrArg Int32.toInt q) (by assumption)) | (first | omega | (have zz0 := Hid.u hi_cn; omega)) | (rcases w9.1.2 with w8 | w8 <;> exact absurd w8 (by first | assumption | exact fun q => absurd (congrArg Int32.toInt q) (by assumption)))))⟩; exact absurd e8 (by rw [show x25_6 = 0 from (by first | assumption | exact Int32.toInt_inj.mp (by assumption))]; decide))⟩ ls (lv_sub hl [0, 1, 2, 3, 4, 5, 6, 7] rfl)
                    ·
                      have tc_9 : ((nI i12).toInt : Int) < ((Fn 69) i25).toInt := Int32.lt_iff_toInt_lt.mp (Int32.not_le.mp c_9)
                      refine lv_iload_n hx hb (oc_28 74 shX12_proved_74) rfl (lvA7 hl) ?_
                      refine lv_iconst (v := (-1)) hx hb (oc_2 75 (aq_1 shX12_proved_74)) kic_m1 ?_
                      refine lv_icmp_eq (tgt := 90) hx hb (oc_159 76 (aq_2 shX12_proved_74) sgw_0_14) rfl (fun c_10 => ?_) (fun c_10 => ?_)
                      ·
                        have tc_10 : (v1.toInt : Int) = (-1) := congrArg Int32.toInt c_10
                        refine lv_iconst (v := 1) hx hb dX12_proved_90 kic_1 ?_
                        refine lv_goto (tgt := 95) hx hb dX12_proved_91 rfl ?_
                        refine lv_istore (lv' := [(6, .int 1), (7, .int (nI i25)), (5, .int (nI i12)), (4, .int (nI (mixN ((Fn 10)) ((Fn 64) b0) 20))), (3, .int x12_3), (0, .ref (g 100)), (1, .int (nI b0)), (2, .int v1)]) hx hb dX12_proved_95 hl (ltb rfl) rfl (fun ls hl => ?_)
                        refine lv_iinc (v := (nI (i25 + 1))) (lv' := [(7, .int (nI (i25 + 1))), (6, .int 1), (5, .int (nI i12)), (4, .int (nI (mixN ((Fn 10)) ((Fn 64) b0) 20))), (3, .int x12_3), (0, .ref (g 100)), (1, .int (nI b0)), (2, .int v1)]) hx hb dX12_proved_97 hl (k := 1) rfl (nI_1 _) (ltb rfl) rfl (fun ls hl => ?_)
                        refine lv_goto (tgt := 25) hx hb dX12_proved_100 rfl ?_
                        exact ih25 (i25 + 1) 1 (by (first | omega | (have zz0 := Hid.u hi_cn; omega))) ⟨(by (first | omega | (have zz0 := Hid.u hi_cn; omega))), (by rcases hx25_0 with ⟨e8, h8⟩ | ⟨e8, h8⟩; (first | exact Or.inr ⟨rfl, ⟨i25, by (first | omega | (have zz0 := Hid.u hi_cn; omega)), ⟨(by first | assumption | exact Int32.toInt_inj.mp (by assumption)), by first | exact Or.inl (by first | assumption | exact Int32.toInt_inj.mp (by assumption)) | exact Or.inr (by first | assumption | exact Int32.toInt_inj.mp (by assumption))⟩, by (first | omega | (have zz0 := Hid.u hi_cn; omega)), by (first | omega | (have zz0 := Hid.u hi_cn; omega))⟩⟩ | exact absurd e8 (by first | assumption | exact fun q => absurd (congrArg Int32.toInt q) (by assumption))); exact Or.inr ⟨rfl, h8⟩)⟩ ls (lv_sub hl [0, 1, 2, 3, 4, 5, 6, 7] rfl)
                      ·
                        have tc_10 : (v1.toInt : Int) ≠ (-1) := fun q => c_10 (Int32.toInt_inj.mp q)
                        refine lv_aload_n hx hb (oc_42 79 (aq_5 shX12_proved_74)) rfl (lvA5 hl) ?_
                        refine gM_156 S hK hP (v := .ref (g 70)) rfl (oc_180 80 (aq_6 shX12_proved_74) uw_0_156) ?_
                        refine lv_iload hx hb (oc_21 83 (aq_9 shX12_proved_74) ub_7) (lvA0 hl) ?_
                        refine ldM_70 hx hb hK hP (x := ((Fn 70) i25)) (vp_in_nI kb_1 (ltb rfl)) (nI_clamp (Nat.lt_trans kb_1 (ltb rfl))) rfl (oc_46 85 (aq_11 shX12_proved_74)) ?_
                        refine lv_iload_n hx hb (oc_28 86 (aq_12 shX12_proved_74)) rfl (lvA7 hl) ?_
                        refine lv_icmp_ne (tgt := 94) hx hb (oc_160 87 (aq_13 shX12_proved_74) sgw_0_7) rfl (fun c_11 => ?_) (fun c_11 => ?_)
                        ·
                          have tc_11 : (((Fn 70) i25).toInt : Int) ≠ v1.toInt := fun q => c_11 (Int32.toInt_inj.mp q)
                          refine lv_iconst (v := 0) hx hb dX12_proved_94 kic_0 ?_
                          refine lv_istore (lv' := [(6, .int 0), (7, .int (nI i25)), (5, .int (nI i12)), (4, .int (nI (mixN ((Fn 10)) ((Fn 64) b0) 20))), (3, .int x12_3), (0, .ref (g 100)), (1, .int (nI b0)), (2, .int v1)]) hx hb dX12_proved_95 hl (ltb rfl) rfl (fun ls hl => ?_)
                          refine lv_iinc (v := (nI (i25 + 1))) (lv' := [(7, .int (nI (i25 + 1))), (6, .int 0), (5, .int (nI i12)), (4, .int (nI (mixN ((Fn 10)) ((Fn 64) b0) 20))), (3, .int x12_3), (0, .ref (g 100)), (1, .int (nI b0)), (2, .int v1)]) hx hb dX12_proved_97 hl (k := 1) rfl (nI_1 _) (ltb rfl) rfl (fun ls hl => ?_)
                          refine lv_goto (tgt := 25) hx hb dX12_proved_100 rfl ?_
                          exact ih25 (i25 + 1) 0 (by (first | omega | (have zz0 := Hid.u hi_cn; omega))) ⟨(by (first | omega | (have zz0 := Hid.u hi_cn; omega))), (by rcases hx25_0 with ⟨e8, h8⟩ | ⟨e8, h8⟩; exact Or.inl ⟨rfl, (fun p hp => if q9 : p < i25 then h8 p q9 else (by have e9 : p = i25 := (by (first | omega | (have zz0 := Hid.u hi_cn; omega))); rw [e9]; exact fun w9 => by first | exact absurd w9.1.1 (by first | assumption | exact fun q => absurd (congrArg Int32.toInt q) (by assumption)) | (first | omega | (have zz0 := Hid.u hi_cn; omega)) | (rcases w9.1.2 with w8 | w8 <;> exact absurd w8 (by first | assumption | exact fun q => absurd (congrArg Int32.toInt q) (by assumption)))))⟩; exact absurd e8 (by rw [show x25_6 = 0 from (by first | assumption | exact Int32.toInt_inj.mp (by assumption))]; decide))⟩ ls (lv_sub hl [0, 1, 2, 3, 4, 5, 6, 7] rfl)
                        ·
                          have tc_11 : (((Fn 70) i25).toInt : Int) = v1.toInt := congrArg Int32.toInt c_11
                          refine lv_iconst (v := 1) hx hb dX12_proved_90 kic_1 ?_
                          refine lv_goto (tgt := 95) hx hb dX12_proved_91 rfl ?_
                          refine lv_istore (lv' := [(6, .int 1), (7, .int (nI i25)), (5, .int (nI i12)), (4, .int (nI (mixN ((Fn 10)) ((Fn 64) b0) 20))), (3, .int x12_3), (0, .ref (g 100)), (1, .int (nI b0)), (2, .int v1)]) hx hb dX12_proved_95 hl (ltb rfl) rfl (fun ls hl => ?_)
                          refine lv_iinc (v := (nI (i25 + 1))) (lv' := [(7, .int (nI (i25 + 1))), (6, .int 1), (5, .int (nI i12)), (4, .int (nI (mixN ((Fn 10)) ((Fn 64) b0) 20))), (3, .int x12_3), (0, .ref (g 100)), (1, .int (nI b0)), (2, .int v1)]) hx hb dX12_proved_97 hl (k := 1) rfl (nI_1 _) (ltb rfl) rfl (fun ls hl => ?_)
                          refine lv_goto (tgt := 25) hx hb dX12_proved_100 rfl ?_
                          exact ih25 (i25 + 1) 1 (by (first | omega | (have zz0 := Hid.u hi_cn; omega))) ⟨(by (first | omega | (have zz0 := Hid.u hi_cn; omega))), (by rcases hx25_0 with ⟨e8, h8⟩ | ⟨e8, h8⟩; (first | exact Or.inr ⟨rfl, ⟨i25, by (first | omega | (have zz0 := Hid.u hi_cn; omega)), ⟨(by first | assumption | exact Int32.toInt_inj.mp (by assumption)), by first | exact Or.inl (by first | assumption | exact Int32.toInt_inj.mp (by assumption)) | exact Or.inr (by first | assumption | exact Int32.toInt_inj.mp (by assumption))⟩, by (first | omega | (have zz0 := Hid.u hi_cn; omega)), by (first | omega | (have zz0 := Hid.u hi_cn; omega))⟩⟩ | exact absurd e8 (by first | assumption | exact fun q => absurd (congrArg Int32.toInt q) (by assumption))); exact Or.inr ⟨rfl, h8⟩)⟩ ls (lv_sub hl [0, 1, 2, 3, 4, 5, 6, 7] rfl)
        exact lp_25 _ 0 0 (Nat.lt_succ_self _) ⟨(by (first | omega | (have zz0 := Hid.u hi_cn; omega))), (Or.inl ⟨rfl, fun p hp => absurd hp (Nat.not_lt_zero p)⟩)⟩ ls (lv_sub hl [0, 1, 2, 3, 4, 5, 6, 7] rfl)
  exact lp_12 _ 0 0 (Nat.lt_succ_self _) ⟨(by (first | omega | (have zz0 := Hid.u hi_cn; omega))), rfl⟩ ls (lv_sub hl [0, 1, 2, 3, 4, 5] rfl)
