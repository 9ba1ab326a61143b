/-- the class's loads tell whose they are, what was fetched ahead of them; its kitchens what was fetched in all -/
def AHX (cn : Nat → Nat) (F : Nat → Nat → Int32) : Prop := (∀ i : Nat, i < cn 11 → (0 ≤ (F 120 i).toInt ∧ (F 120 i).toInt < (cn 10 : Int)) ∧ (F 125 i).toInt ≤ 399 ∧ F 127 i = sumI (fun j => if F 120 j = F 120 i then F 122 j else 0) i) ∧ ∀ k : Nat, k < cn 10 → F 106 k = sumI (fun j => if F 120 j = nI k then F 122 j else 0) (cn 11)
/-- the kitchens' texts of both are the same -/
def TXA (ad : Nat → Nat → Nat) (cn : Nat → Nat) (Fn F3 : Nat → Nat → Int32) : Prop := (∃ (oo : Nat → OutT) (cc : Nat → ClsT), (∀ k : Nat, k < cn 10 → XTy (ad 3 k) Fn 112 (oo k) (cc k)) ∧ ∀ k : Nat, k < cn 10 → MTx F3 k (oo k) (cc k)) ∧ (∀ k : Nat, cn 10 ≤ k → k < 10 → F3 33 k = 0) ∧ AHX cn Fn
section TXAS
variable {ad a2 : Nat → Nat → Nat} {cn c2 : Nat → Nat} {Fn F2 F3 F4 : Nat → Nat → Int32} {T U N M n : Nat} {o : OutT} {cl : ClsT} {ld : Int32}
theorem XTy.kp (h : XTy T Fn ld o cl) (kp : KPT U Fn F2) (hT : ¬ T = U) (e199 : F2 199 T = Fn 199 T) : XTy T F2 ld o cl := by
  obtain ⟨⟨⟨h1, h2⟩, ⟨h3, h4⟩, h5, h6⟩, ⟨N, h7, h8⟩, h9⟩ := h
  obtain ⟨a1, a2, a3, a4, a5, a6⟩ := kp T hT
  refine ⟨⟨⟨a1.trans h1, fun i z hi => ?_⟩, ⟨a2.trans h3, fun j z hj => ?_⟩, h5, h6⟩, ⟨N, e199.trans h7, h8⟩, h9⟩
  · rw [a3]
    exact h2 i z hi
  · rw [a4, a5, a6]
    exact h4 j z hj
theorem AHX.cg (h : AHX cn Fn) (e10 : c2 10 = cn 10) (e11 : c2 11 = cn 11) (e106 : F2 106 = Fn 106) (e120 : F2 120 = Fn 120) (e122 : F2 122 = Fn 122) (e125 : F2 125 = Fn 125) (e127 : F2 127 = Fn 127) : AHX c2 F2 := by
  unfold AHX at *
  rw [e10, e11, e106, e120, e122, e125, e127]
  exact h
/-- nothing of it is touched, but for texts that none has -/
theorem TXA.keep (h : TXA ad cn Fn F3) (hT : ∀ k : Nat, k < cn 10 → ad 3 k < cn 6) (kp : KPT (cn 6) Fn F2) (e199 : ∀ T : Nat, T < cn 6 → F2 199 T = Fn 199 T) (h3 : ∀ k : Nat, k < cn 10 → a2 3 k = ad 3 k) (e10 : c2 10 = cn 10) (e11 : c2 11 = cn 11) (e106 : F2 106 = Fn 106) (e120 : F2 120 = Fn 120) (e122 : F2 122 = Fn 122) (e125 : F2 125 = Fn 125) (e127 : F2 127 = Fn 127) (gm : ∀ (k : Nat) (o : OutT) (cl : ClsT), k < cn 10 → o.length ≤ 160 → cl.length ≤ 12 → MTx F3 k o cl → MTx F4 k o cl) (gz : ∀ k : Nat, k < 10 → F4 33 k = F3 33 k) : TXA a2 c2 F2 F4 := by
  obtain ⟨⟨oo, cc, hx, hm⟩, hz, ha⟩ := h
  refine ⟨⟨oo, cc, fun k hk => ?_, fun k hk => ?_⟩, fun k hk hk2 => ?_, ha.cg e10 e11 e106 e120 e122 e125 e127⟩
  · rw [e10] at hk
    have t := hT k hk
    rw [h3 k hk]
    exact (hx k hk).kp kp (by omega) (e199 _ t)
  · rw [e10] at hk
    have q := (hx k hk).1
    exact gm k _ _ hk q.2.2.1 q.2.2.2 (hm k hk)
  · rw [e10] at hk
    rw [gz k hk2]
    exact hz k hk hk2
theorem TXA.cg (h : TXA ad cn Fn F3) (h3 : ∀ k : Nat, k < cn 10 → a2 3 k = ad 3 k) (e10 : c2 10 = cn 10) (e11 : c2 11 = cn 11) (f : ∀ k : Nat, k ∈ [106, 120, 122, 125, 127, 195, 198, 199, 301, 302, 303, 304] → F2 k = Fn k) (g : ∀ k : Nat, k ∈ [32, 33, 34, 35, 36] → F4 k = F3 k) : TXA a2 c2 F2 F4 := by
  obtain ⟨⟨oo, cc, hx, hm⟩, hz, ha⟩ := h
  refine ⟨⟨oo, cc, fun k hk => ?_, fun k hk => ?_⟩, fun k hk hk2 => ?_, ha.cg e10 e11 (f _ (by decide)) (f _ (by decide)) (f _ (by decide)) (f _ (by decide)) (f _ (by decide))⟩
  · rw [e10] at hk
    rw [h3 k hk]
    exact (hx k hk).cg (f _ (by decide)) (f _ (by decide)) (f _ (by decide)) (f _ (by decide)) (f _ (by decide)) (f _ (by decide)) (f _ (by decide))
  · rw [e10] at hk
    exact (hm k hk).cf (g _ (by decide)) (g _ (by decide)) (g _ (by decide)) (g _ (by decide)) (g _ (by decide))
  · rw [e10] at hk
    rw [g 33 (by decide)]
    exact hz k hk hk2
/-- a load more -/
theorem TXA.fet {v0 v2 v5 : Int32} {m : Nat} (h : TXA ad cn Fn F3) (h3 : ∀ k : Nat, k < cn 10 → a2 3 k = ad 3 k) (hm10 : m < cn 10) (hk10 : cn 10 ≤ 10) (hv : v0.toInt = (m : Int)) (h5 : v5.toInt ≤ 399) (e10 : c2 10 = cn 10) (e11 : c2 11 = cn 11 + 1) (e106 : F2 106 = upd (Fn 106) m (Fn 106 m + v2)) (e120 : F2 120 = upd (Fn 120) (cn 11) v0) (e122 : F2 122 = upd (Fn 122) (cn 11) v2) (e125 : F2 125 = upd (Fn 125) (cn 11) v5) (e127 : F2 127 = upd (Fn 127) (cn 11) (Fn 106 m)) (f : ∀ k : Nat, k ∈ [195, 198, 199, 301, 302, 303, 304] → F2 k = Fn k) (g : ∀ k : Nat, k ∈ [32, 33, 34, 35, 36] → F4 k = F3 k) : TXA a2 c2 F2 F4 := by
  obtain ⟨⟨oo, cc, hx, hm⟩, hz, ha, hb⟩ := h
  have ev : v0 = nI m := Int32.toInt_inj.mp (by rw [nI_toInt (by omega)]; exact hv)
  have u : ∀ {w : Nat → Int32} {x : Int32} {j : Nat}, j < cn 11 → upd w (cn 11) x j = w j := fun hj => if_neg (by omega)
  refine ⟨⟨oo, cc, fun k hk => ?_, fun k hk => ?_⟩, fun k hk hk2 => ?_, fun i hi => ?_, fun k hk => ?_⟩
  · rw [e10] at hk
    rw [h3 k hk]
    exact (hx k hk).cg (f _ (by decide)) (f _ (by decide)) (f _ (by decide)) (f _ (by decide)) (f _ (by decide)) (f _ (by decide)) (f _ (by decide))
  · rw [e10] at hk
    exact (hm k hk).cf (g _ (by decide)) (g _ (by decide)) (g _ (by decide)) (g _ (by decide)) (g _ (by decide))
  · rw [e10] at hk
    rw [g 33 (by decide)]
    exact hz k hk hk2
  · rw [e11] at hi
    rw [e120, e122, e125, e127, e10]
    by_cases q : i = cn 11
    · subst q
      rw [upd_self, upd_self, upd_self]
      refine ⟨⟨by omega, by omega⟩, h5, ?_⟩
      rw [hb m hm10]
      refine sumI_cg _ (fun j hj => ?_)
      show (if Fn 120 j = nI m then Fn 122 j else 0) = if upd (Fn 120) (cn 11) v0 j = v0 then upd (Fn 122) (cn 11) v2 j else 0
      rw [u hj, u hj, ev]
    · have hi : i < cn 11 := by omega
      have a := ha i hi
      rw [u hi, u hi, u hi, a.2.2]
      refine ⟨a.1, a.2.1, sumI_cg _ (fun j hj => ?_)⟩
      show (if Fn 120 j = Fn 120 i then Fn 122 j else 0) = if upd (Fn 120) (cn 11) v0 j = Fn 120 i then upd (Fn 122) (cn 11) v2 j else 0
      rw [u (by omega), u (by omega)]
  · rw [e10] at hk
    rw [e11, e120, e122, e106]
    show _ = sumI _ (cn 11) + (if upd (Fn 120) (cn 11) v0 (cn 11) = nI k then upd (Fn 122) (cn 11) v2 (cn 11) else 0)
    rw [upd_self, upd_self]
    have es : sumI (fun j => if upd (Fn 120) (cn 11) v0 j = nI k then upd (Fn 122) (cn 11) v2 j else 0) (cn 11) = sumI (fun j => if Fn 120 j = nI k then Fn 122 j else 0) (cn 11) := sumI_cg _ (fun j hj => by
      show (if upd (Fn 120) (cn 11) v0 j = nI k then upd (Fn 122) (cn 11) v2 j else 0) = _
      rw [u hj, u hj])
    rw [es, ← hb k hk]
    by_cases q : k = m
    · subst q
      rw [upd_self, if_pos ev]
    · rw [show upd (Fn 106) m (Fn 106 m + v2) k = Fn 106 k from if_neg q, if_neg (fun w => q (by
        have t := congrArg Int32.toInt w
        rw [hv, nI_toInt (by omega)] at t
        omega)), Int32.add_zero]
theorem TXA.start {g : Nat → Nat → Int32} {f : Nat → Nat → Int32} (h10 : cn 10 = 0) (h11 : cn 11 = 0) (hz : ∀ k : Nat, f 33 k = 0) : TXA ad cn g f := by
  refine ⟨⟨fun _ => [], fun _ => [], fun k hk => ?_, fun k hk => ?_⟩, fun k _ _ => hz k, fun i hi => ?_, fun k hk => ?_⟩
  · omega
  · omega
  · omega
  · omega
end TXAS



set_option maxRecDepth 100000 in
set_option maxHeartbeats 4000000 in
theorem q_Vcontract (l : Launch) (D : va_G) (cI cB cZ : ClassId) (zz qq vv : Nat) (bt : Nat → Int32) (g : Nat → Nat) (ad : Nat → Nat → Nat) (cn : Nat → Nat) (In : Nat → Int32) (Fn : Nat → Nat → Int32) (v0 v1 : Int32) (sz : Nat) (hB : CBX cn) (hT : (∀ k : Nat, k < cn 10 → ad 3 k < cn 6) ∧ ad 4 0 < cn 6 ∧ ad 4 1 < cn 6) (hC : ∀ k : Nat, k < cn 6 → ∃ n : Nat, n ≤ 12 ∧ Fn 198 k = nI n) (hL : ∀ k : Nat, k < cn 6 → (Fn 199 k).toInt ≤ 160) (hby : ∀ k : Nat, k < 160 → 0 ≤ (Fn 40 k).toInt ∧ (Fn 40 k).toInt ≤ 255) (hbt : BTL bt) : Met l yX11_contract (CWS yX11_contract cX11_contract 5 (some .int)) (RM 27 6 237) (PBx [.ref (g 0), .int v0, .int v1] D cI cB cZ zz qq vv bt (wX cI (D.1 99) zz g ad cn In Fn) sz) (va_Qi (fun (r : Int32) (u : (Nat → Nat → Nat) × (Nat → Nat) × (Nat → Int32) × (Nat → Nat → Int32)) => (fun r a2 c2 I2 F2 => Fr [3, 6, 31, 32] [30, 33] [195, 196, 197, 198, 199, 301, 302, 303, 304, 305] cn In Fn c2 I2 F2 ∧ CBX c2 ∧ ((∀ k : Nat, k < c2 10 → a2 3 k < c2 6) ∧ a2 4 0 < c2 6 ∧ a2 4 1 < c2 6) ∧ (∀ k : Nat, k < c2 6 → ∃ n : Nat, n ≤ 12 ∧ F2 198 k = nI n) ∧ (∀ k : Nat, k < c2 6 → (F2 199 k).toInt ≤ 160) ∧ (∀ i k : Nat, i ∉ [3, 4, 5, 60, 61, 62, 63, 64] → a2 i k = ad i k) ∧ (((0 ≤ v0.toInt ∧ v0.toInt < (cn 10 : Int) ∧ 1 ≤ v1.toInt ∧ v1.toInt ≤ 160 ∧ v1.toInt ≤ (cn 3 : Int)) ∧ c2 3 = 0 ∧ (KPT (cn 6) Fn F2 ∧ F2 199 = upd (Fn 199) (cn 6) (nI v1.toInt.toNat)) ∧ a2 4 0 = ad 4 0 ∧ ((∃ e9 : Nat, txV (Fn 40) v1.toInt.toNat 112 = .error e9 ∧ r = -(nI e9) ∧ ∀ k : Nat, a2 3 k = ad 3 k) ∨ ∃ z9 : Nat × OutT × ClsT, txV (Fn 40) v1.toInt.toNat 112 = .ok z9 ∧ r = nI z9.2.2.length ∧ a2 3 v0.toInt.toNat = cn 6 ∧ (∀ k : Nat, ¬ k = v0.toInt.toNat → a2 3 k = ad 3 k) ∧ XTx (cn 6) F2 z9.2.1 z9.2.2 ∧ z9.2.1.length ≤ v1.toInt.toNat)) ∨ (¬ (0 ≤ v0.toInt ∧ v0.toInt < (cn 10 : Int) ∧ 1 ≤ v1.toInt ∧ v1.toInt ≤ 160 ∧ v1.toInt ≤ (cn 3 : Int)) ∧ c2 3 = cn 3 ∧ r = -1 ∧ a2 = ad ∧ F2 = Fn))) r u.1 u.2.1 u.2.2.1 u.2.2.2) (fun (u : (Nat → Nat → Nat) × (Nat → Nat) × (Nat → Int32) × (Nat → Nat → Int32)) (t : State) => va_P D vwCl (wX cI (D.1 99) zz g u.1 u.2.1 u.2.2.1 u.2.2.2) t.heap ∧ va_D (va_A (wX cI (D.1 99) zz g ad cn In Fn) sz) (wX cI (D.1 99) zz g u.1 u.2.1 u.2.2.1 u.2.2.2)) (va_A (wX cI (D.1 99) zz g ad cn In Fn) sz)) 6 237 (va_A (wX cI (D.1 99) zz g ad cn In Fn) sz) := by
  refine en_x (fun A => (va_Qi (fun (r : Int32) (u : (Nat → Nat → Nat) × (Nat → Nat) × (Nat → Int32) × (Nat → Nat → Int32)) => (fun (r : Int32) (a2 : Nat → Nat → Nat) (c2 : Nat → Nat) (I2 : Nat → Int32) (F2 : Nat → Nat → Int32) => Fr [3, 6, 31, 32] [30, 33] [195, 196, 197, 198, 199, 301, 302, 303, 304, 305] cn In Fn c2 I2 F2 ∧ CBX c2 ∧ ((∀ k : Nat, k < c2 10 → a2 3 k < c2 6) ∧ a2 4 0 < c2 6 ∧ a2 4 1 < c2 6) ∧ (∀ k : Nat, k < c2 6 → ∃ n : Nat, n ≤ 12 ∧ F2 198 k = nI n) ∧ (∀ k : Nat, k < c2 6 → (F2 199 k).toInt ≤ 160) ∧ (∀ i k : Nat, i ∉ [3, 4, 5, 60, 61, 62, 63, 64] → a2 i k = ad i k) ∧ (((0 ≤ v0.toInt ∧ v0.toInt < (cn 10 : Int) ∧ 1 ≤ v1.toInt ∧ v1.toInt ≤ 160 ∧ v1.toInt ≤ (cn 3 : Int)) ∧ c2 3 = 0 ∧ (KPT (cn 6) Fn F2 ∧ F2 199 = upd (Fn 199) (cn 6) (nI v1.toInt.toNat)) ∧ a2 4 0 = ad 4 0 ∧ ((∃ e9 : Nat, txV (Fn 40) v1.toInt.toNat 112 = .error e9 ∧ r = -(nI e9) ∧ ∀ k : Nat, a2 3 k = ad 3 k) ∨ ∃ z9 : Nat × OutT × ClsT, txV (Fn 40) v1.toInt.toNat 112 = .ok z9 ∧ r = nI z9.2.2.length ∧ a2 3 v0.toInt.toNat = cn 6 ∧ (∀ k : Nat, ¬ k = v0.toInt.toNat → a2 3 k = ad 3 k) ∧ XTx (cn 6) F2 z9.2.1 z9.2.2 ∧ z9.2.1.length ≤ v1.toInt.toNat)) ∨ (¬ (0 ≤ v0.toInt ∧ v0.toInt < (cn 10 : Int) ∧ 1 ≤ v1.toInt ∧ v1.toInt ≤ 160 ∧ v1.toInt ≤ (cn 3 : Int)) ∧ c2 3 = cn 3 ∧ r = -1 ∧ a2 = ad ∧ F2 = Fn))) r u.1 u.2.1 u.2.2.1 u.2.2.2) (fun (u : (Nat → Nat → Nat) × (Nat → Nat) × (Nat → Int32) × (Nat → Nat → Int32)) (t : State) => va_P D vwCl (wX cI (D.1 99) zz g u.1 u.2.1 u.2.2.1 u.2.2.2) t.heap ∧ va_D A (wX cI (D.1 99) zz g u.1 u.2.1 u.2.2.1 u.2.2.2)) A)) rfl rfl pn_RX11 (Nat.le_of_ble_eq_true rfl) (fun p e s m below meth c A hx hb hml hown S hr hlocks hnm hA hP hK hD hXS hS ls hl => ?_)
  have hl : lv_has ls 5 [(0, .ref (g 0)), (1, .int v0), (2, .int v1)] := hl
  refine lv_aload_n hx hb dX11_contract_0 rfl (lvA0 hl) ?_
  refine lv_iload_n hx hb dX11_contract_1 rfl (lvA1 hl) ?_
  refine va_csq (runV_rxa (As := [.int v0]) (rest := []) S (q_XkitchenAt l D cI cB cZ zz qq vv bt g ad cn In Fn v0 hB) kV_RX11_114 hK hXS hS hP 0 xo_0 rfl rfl ⟨Nat.le_of_ble_eq_true rfl, Nat.le_of_ble_eq_true rfl⟩ ⟨Nat.le_of_ble_eq_true rfl, Nat.le_of_ble_eq_true rfl⟩ rfl hl.1 rfl (Nat.le_of_ble_eq_true rfl) dX11_contract_2) (fun r_1 h_2 => ?_)
  rcases h_2 with ⟨mr_1, er_1, hr_1, rfl⟩ | ⟨hr_1, rfl⟩
  ·
    refine lv_astore_n (lv' := [(3, .ref (ad 10 mr_1)), (0, .ref (g 0)), (1, .int v0), (2, .int v1)]) hx hb dX11_contract_5 rfl hl (ltb rfl) rfl (fun ls hl => ?_)
    refine lv_aload_n hx hb dX11_contract_6 rfl (lvA0 hl) ?_
    refine lv_ifnull hx hb dX11_contract_7 ?_
    refine lv_aload_n hx hb dX11_contract_10 rfl (lvA1 hl) ?_
    refine lv_iload_n hx hb dX11_contract_11 rfl (lvA3 hl) ?_
    refine vp_callSi (runV_rxa (As := [.int v1]) (rest := []) S (q_XisText l D cI cB cZ zz qq vv bt g ad cn In Fn v1 hB) kV_RX11_155 hK hXS hS hP 0 xo_0 rfl rfl ⟨Nat.le_of_ble_eq_true rfl, Nat.le_of_ble_eq_true rfl⟩ ⟨Nat.le_of_ble_eq_true rfl, Nat.le_of_ble_eq_true rfl⟩ rfl hl.1 rfl (Nat.le_of_ble_eq_true rfl) dX11_contract_12) (fun r_3 h_4 => ?_)
    rcases h_4 with ⟨rfl, h_4⟩ | ⟨rfl, h_4⟩
    ·
      have h_4 : 1 ≤ v1.toInt ∧ v1.toInt ≤ 160 ∧ v1.toInt ≤ ((cn 3) : Int) := h_4
      refine lv_if_ne (tgt := 20) hx hb dX11_contract_15 rfl (fun _ => ?_) (fun h => absurd h cq_eq_1_0)
      obtain ⟨n0, hn0, rfl⟩ := nI_of (x := v1) (fun q => by have := Int32.lt_iff_toInt_lt.mp q; have e : (0 : Int32).toInt = 0 := rfl; omega)
      have tn0 : (nI n0).toInt = (n0 : Int) := nI_toInt hn0
      have zn0 : (nI n0).toInt.toNat = n0 := by omega
      refine lv_aload_n hx hb dX11_contract_20 rfl (lvA1 hl) ?_
      refine gf_RX11_28 S hK hP 0 xo_0 (v := .ref (g 6)) rfl dX11_contract_21 ?_
      refine lv_aload_n hx hb dX11_contract_24 rfl (lvA1 hl) ?_
      refine gf_RX11_21 S hK hP 0 xo_0 (v := .ref (g 5)) rfl dX11_contract_25 ?_
      refine lv_iload_n hx hb dX11_contract_28 rfl (lvA3 hl) ?_
      refine lv_bipush (v := 112) hx hb dX11_contract_29 kbc_112 ?_
      have hFc := free_all hD hS hA
      refine va_callq (runV_xa (As := [.ref (g 5), .int (nI n0), .int 112]) (rest := []) S (q_Zread l D cI cB cZ zz qq vv bt g ad cn In Fn n0 112 (Fn 40) s.heap.size hB ⟨by omega, by omega⟩ (by decide) (by decide) rfl hby hbt hT hC hL) kV_RX11_158 hK hXS hS hFc hP hD 3 xo_3 rfl rfl ⟨Nat.le_of_ble_eq_true rfl, Nat.le_of_ble_eq_true rfl⟩ ⟨Nat.le_of_ble_eq_true rfl, Nat.le_of_ble_eq_true rfl⟩ rfl hl.1 rfl (Nat.le_of_ble_eq_true rfl) dX11_contract_31) hS (fun q _ h => hFc q h) hFc (fun r4 u4 t H1 locs ht hvm h4 hB1 hz1 hk1 hS => ?_)
      obtain ⟨hP1, hD1⟩ := hB1
      rw [ht] at hP1
      obtain ⟨a4, c4, I4, F4⟩ := u4
      obtain ⟨hfc4, hIn4, hr4, h64, h414, hfa4, h404, hC4, hL4, hE4⟩ := h4
      have h4 := And.intro hfc4 (And.intro hIn4 (And.intro hr4 (And.intro h64 (And.intro h414 (And.intro hfa4 (And.intro h404 (And.intro hC4 hL4)))))))
      obtain ⟨hfc4, hIn4, hr4, h64, h414, hfa4, h404, hC4, hL4⟩ := h4
      subst hr4
      have hfm4 : Fr [3, 6, 31, 32] [30, 33] [195, 196, 197, 198, 199, 301, 302, 303, 304, 305] cn In Fn c4 I4 F4 := Fr.mo hfc4 (sbl rfl) (sbl rfl) (sbl rfl)
      have hi_4 := hIn4
      have : c4 0 = cn 0 := hfc4.1 0 (nml rfl)
      have : c4 1 = cn 1 := hfc4.1 1 (nml rfl)
      have : c4 2 = cn 2 := hfc4.1 2 (nml rfl)
      have : c4 3 = cn 3 := hfc4.1 3 (nml rfl)
      have : c4 4 = cn 4 := hfc4.1 4 (nml rfl)
      have : c4 5 = cn 5 := hfc4.1 5 (nml rfl)
      have : c4 10 = cn 10 := hfc4.1 10 (nml rfl)
      have : c4 11 = cn 11 := hfc4.1 11 (nml rfl)
      have : c4 12 = cn 12 := hfc4.1 12 (nml rfl)
      have : c4 13 = cn 13 := hfc4.1 13 (nml rfl)
      have : c4 14 = cn 14 := hfc4.1 14 (nml rfl)
      have : c4 15 = cn 15 := hfc4.1 15 (nml rfl)
      have : c4 20 = cn 20 := hfc4.1 20 (nml rfl)
      have : c4 21 = cn 21 := hfc4.1 21 (nml rfl)
      have : c4 22 = cn 22 := hfc4.1 22 (nml rfl)
      have : c4 23 = cn 23 := hfc4.1 23 (nml rfl)
      have : c4 24 = cn 24 := hfc4.1 24 (nml rfl)
      have : c4 25 = cn 25 := hfc4.1 25 (nml rfl)
      have h64 : c4 6 = cn 6 + 1 := h64
      have h414 : a4 4 1 = cn 6 := h414
      have h404 : a4 4 0 = ad 4 0 := h404
      have hfa4 : ∀ i k : Nat, i ∉ [4, 5, 60, 61, 62, 63, 64] → a4 i k = ad i k := hfa4
      have hC4 : ∀ k : Nat, k < c4 6 → ∃ n : Nat, n ≤ 12 ∧ F4 198 k = nI n := hC4
      have hL4 : ∀ k : Nat, k < c4 6 → (F4 199 k).toInt ≤ 160 := hL4
      have hT0 := hT
      have hT : (∀ k : Nat, k < c4 10 → a4 3 k < c4 6) ∧ a4 4 0 < c4 6 ∧ a4 4 1 < c4 6 := ht_new hT0 (fun k => hfa4 3 k (by decide)) h404 h414 h64 (by omega)
      have hT9 := hT.2.2
      have hC := hC4
      have hL := hL4
      have hl : lv_has ls 5 [(3, .ref (a4 10 mr_1)), (0, .ref (g 0)), (1, .int v0), (2, .int (nI n0))] := by rw [hfa4 10 mr_1 (by decide)]; exact hl
      have hP : va_P D vwCl (wX cI (D.1 99) zz g a4 c4 I4 F4) H1 := hP1
      have hD : va_D A (wX cI (D.1 99) zz g a4 c4 I4 F4) := hD1.weaken (fun _ _ _ h => hFc _ h)
      generalize H1 = H at hP hS ⊢
      refine lv_astore (lv' := [(4, .ref (a4 5 (a4 4 1))), (3, .ref (a4 10 mr_1)), (0, .ref (g 0)), (1, .int v0), (2, .int (nI n0))]) hx hb dX11_contract_34 hl (ltb rfl) rfl (fun ls hl => ?_)
      refine lv_aload_n hx hb dX11_contract_36 rfl (lvA2 hl) ?_
      refine gf_RX11_21 S hK hP 0 xo_0 (v := .ref (g 5)) rfl dX11_contract_37 ?_
      have hFc := free_all hD hS hA
      refine va_callv (runV_xa (As := []) (rest := []) S (q_Xclear l D cI cB cZ zz qq vv bt g a4 c4 I4 F4  H.size hIn4) kV_RX11_162 hK hXS hS hFc hP hD 1 xo_1 rfl rfl ⟨Nat.le_of_ble_eq_true rfl, Nat.le_of_ble_eq_true rfl⟩ ⟨Nat.le_of_ble_eq_true rfl, Nat.le_of_ble_eq_true rfl⟩ rfl hl.1 rfl (Nat.le_of_ble_eq_true rfl) dX11_contract_40) hS (fun q _ h => hFc q h) hFc (fun u t H1 locs ht hvm wh_7 hB1 hz1 hk1 hS => ?_)
      obtain ⟨cn7, In7, Fn7⟩ := u
      obtain ⟨hP1, hD1⟩ := hB1
      rw [ht] at hP1
      have hP : va_P D vwCl (wX cI (D.1 99) zz g a4 cn7 In7 Fn7) H1 := hP1
      have hD : va_D A (wX cI (D.1 99) zz g a4 cn7 In7 Fn7) := hD1.weaken (fun _ _ _ h => hFc _ h)
      generalize H1 = H at hP hS ⊢
      have vh_7 : (fun c2 I2 F2 => Fr [3] [] [] c4 I4 F4 c2 I2 F2 ∧ CBX c2 ∧ (c2 3 = 0)) cn7 In7 Fn7 := wh_7
      obtain ⟨hfc7, hIn7, h_7⟩ := vh_7
      obtain rfl : I4 = In7 := (funext (fun k => hfc7.2.1 k List.not_mem_nil)).symm
      obtain rfl : F4 = Fn7 := (funext (fun k => hfc7.2.2 k List.not_mem_nil)).symm
      have hf7 : Fr [3, 6, 31, 32] [30, 33] [195, 196, 197, 198, 199, 301, 302, 303, 304, 305] cn In Fn cn7 I4 F4 := Fr.mo (Fr.tr hfm4 hfc7) (sbl rfl) (sbl rfl) (sbl rfl)
      have : cn7 0 = (c4 0) := hfc7.1 0 (nml rfl)
      have : cn7 1 = (c4 1) := hfc7.1 1 (nml rfl)
      have : cn7 2 = (c4 2) := hfc7.1 2 (nml rfl)
      have : cn7 4 = (c4 4) := hfc7.1 4 (nml rfl)
      have : cn7 5 = (c4 5) := hfc7.1 5 (nml rfl)
      have : cn7 10 = (c4 10) := hfc7.1 10 (nml rfl)
      have : cn7 11 = (c4 11) := hfc7.1 11 (nml rfl)
      have : cn7 12 = (c4 12) := hfc7.1 12 (nml rfl)
      have : cn7 13 = (c4 13) := hfc7.1 13 (nml rfl)
      have : cn7 14 = (c4 14) := hfc7.1 14 (nml rfl)
      have : cn7 15 = (c4 15) := hfc7.1 15 (nml rfl)
      have : cn7 20 = (c4 20) := hfc7.1 20 (nml rfl)
      have : cn7 21 = (c4 21) := hfc7.1 21 (nml rfl)
      have : cn7 22 = (c4 22) := hfc7.1 22 (nml rfl)
      have : cn7 23 = (c4 23) := hfc7.1 23 (nml rfl)
      have : cn7 24 = (c4 24) := hfc7.1 24 (nml rfl)
      have : cn7 25 = (c4 25) := hfc7.1 25 (nml rfl)
      have : cn7 6 = (c4 6) := hfc7.1 6 (nml rfl)
      have : cn7 31 = (c4 31) := hfc7.1 31 (nml rfl)
      have : cn7 32 = (c4 32) := hfc7.1 32 (nml rfl)
      refine lv_aload_n hx hb dX11_contract_43 rfl (lvA2 hl) ?_
      refine gf_RX11_28 S hK hP 0 xo_0 (v := .ref (g 6)) rfl dX11_contract_44 ?_
      refine gf_RX11_165 S hK hP 3 xo_3 (v := .int (I4 33)) rfl dX11_contract_47 ?_
      refine lv_if_eq (tgt := 62) hx hb dX11_contract_50 rfl (fun c_8 => ?_) (fun c_8 => ?_)
      ·
        have tc_8 : ((I4 33).toInt : Int) = 0 := congrArg Int32.toInt c_8
        refine lv_aload_n hx hb dX11_contract_62 rfl (lvA1 hl) ?_
        refine lv_aload hx hb dX11_contract_63 (lvA0 hl) ?_
        refine pf_RX11_168 S hK hP hD hS _ (xf_0 (show mr_1 < (cn7 10) by omega)) (v := .ref (a4 5 (a4 4 1))) (Nat.le_of_ble_eq_true rfl) rfl rfl dX11_contract_65 (fun H locs hP hD hS => ?_)
        have hP : va_P D vwCl (wX cI (D.1 99) zz g (adO a4 3 mr_1 (a4 4 1)) cn7 I4 F4) H := va_P_eq (xK3 (by omega)) hP
        have hD : va_D A (wX cI (D.1 99) zz g (adO a4 3 mr_1 (a4 4 1)) cn7 I4 F4) := va_D_eq (xK3 (by omega)) hD
        refine lv_aload hx hb dX11_contract_68 (lvA0 hl) ?_
        refine gf_RX11_171 S hK hP _ (xf_7 (show (a4 4 1) < (cn7 6) by omega)) (v := .int ((F4 198) (a4 4 1))) rfl dX11_contract_70 ?_
        have hT9 : (∀ k : Nat, k < cn7 10 → a4 3 k < cn7 6) ∧ a4 4 0 < cn7 6 ∧ a4 4 1 < cn7 6 := by
          have e6 : cn7 6 = c4 6 := by omega
          have e10 : cn7 10 = c4 10 := by omega
          rw [e6, e10]; exact hT
        have hC9 : ∀ k : Nat, k < cn7 6 → ∃ n : Nat, n ≤ 12 ∧ F4 198 k = nI n := fun k hk => hC k (by omega)
        have hL9 : ∀ k : Nat, k < cn7 6 → (F4 199 k).toInt ≤ 160 := fun k hk => hL k (by omega)
        have hE8 : ZTE Fn (Fn 40) n0 112 (cn 6) I4 F4 := hE4
        have em9 : v0.toInt.toNat = mr_1 := by omega
        exact W.iret (v := ((F4 198) (a4 4 1))) hx hb hr (fun t ht hW => ⟨⟨((F4 198) (a4 4 1)), ((adO a4 3 mr_1 (a4 4 1)), cn7, I4, F4), rfl, ⟨(Fr.mo hf7 (sbl rfl) (sbl rfl) (sbl rfl)), hIn7, (@ht_k3 a4 cn7 mr_1 (a4 4 1) hT9 hT9.2.2), hC9, hL9, (fun i k hi => (if_neg (fun q => hi (by rw [q.1]; decide))).trans (hfa4 i k (fun q => hi (List.mem_cons_of_mem _ q)))), (by exact Or.inl ⟨by omega, by first | rfl | (show (cn7 3) = 0; first | omega | assumption), ⟨hE8.1, by rw [zn0]; exact hE8.2.1⟩, (show (adO a4 3 mr_1 (a4 4 1)) 4 0 = ad 4 0 from (if_neg (fun q => absurd q.1 (by decide))).trans h404), by rw [zn0]; exact (by rcases hE8.2.2 with ⟨e9, a1, a2, a3, a4⟩ | ⟨z9, a1, a2, a3, a4⟩ <;> first | exact Or.inr ⟨z9, a1, (by rw [← a3.2.1.1, ← h414]), (by rw [em9]; exact (if_pos ⟨rfl, rfl⟩).trans h414), (fun k hk => (if_neg (fun q => hk (q.2.trans em9.symm))).trans (hfa4 3 k (by decide))), a3, a4⟩ | (exfalso; have q8 := congrArg Int32.toInt (a2.symm.trans (show I4 33 = 0 by assumption)); rw [nI_toInt (by omega)] at q8; have q7 : (0 : Int32).toInt = 0 := rfl; omega))⟩)⟩, by rw [ht]; exact hP, hD⟩, hS.F ht⟩) hS.2.2 dX11_contract_73
      ·
        have tc_8 : ((I4 33).toInt : Int) ≠ 0 := fun q => c_8 (Int32.toInt_inj.mp q)
        refine lv_aload_n hx hb dX11_contract_53 rfl (lvA2 hl) ?_
        refine gf_RX11_28 S hK hP 0 xo_0 (v := .ref (g 6)) rfl dX11_contract_54 ?_
        refine gf_RX11_165 S hK hP 3 xo_3 (v := .int (I4 33)) rfl dX11_contract_57 ?_
        refine lv_ineg hx hb dX11_contract_60 ?_
        have hT9 : (∀ k : Nat, k < cn7 10 → a4 3 k < cn7 6) ∧ a4 4 0 < cn7 6 ∧ a4 4 1 < cn7 6 := by
          have e6 : cn7 6 = c4 6 := by omega
          have e10 : cn7 10 = c4 10 := by omega
          rw [e6, e10]; exact hT
        have hC9 : ∀ k : Nat, k < cn7 6 → ∃ n : Nat, n ≤ 12 ∧ F4 198 k = nI n := fun k hk => hC k (by omega)
        have hL9 : ∀ k : Nat, k < cn7 6 → (F4 199 k).toInt ≤ 160 := fun k hk => hL k (by omega)
        have hE8 : ZTE Fn (Fn 40) n0 112 (cn 6) I4 F4 := hE4
        exact W.iret (v := (-(I4 33))) hx hb hr (fun t ht hW => ⟨⟨(-(I4 33)), (a4, cn7, I4, F4), rfl, ⟨(Fr.mo hf7 (sbl rfl) (sbl rfl) (sbl rfl)), hIn7, hT9, hC9, hL9, (fun i k hi => hfa4 i k (fun q => hi (List.mem_cons_of_mem _ q))), (by exact Or.inl ⟨by omega, by first | rfl | (show (cn7 3) = 0; first | omega | assumption), ⟨hE8.1, by rw [zn0]; exact hE8.2.1⟩, h404, by rw [zn0]; exact (by rcases hE8.2.2 with ⟨e9, a1, a2, a3, a4⟩ | ⟨z9, a1, a2, a3, a4⟩ <;> first | exact Or.inl ⟨e9, a1, by rw [a2], fun k => (hfa4 3 k (by decide))⟩ | exact absurd a2 (by assumption))⟩)⟩, by rw [ht]; exact hP, hD⟩, hS.F ht⟩) hS.2.2 dX11_contract_61
    ·
      have h_4 : ¬ (1 ≤ v1.toInt ∧ v1.toInt ≤ 160 ∧ v1.toInt ≤ ((cn 3) : Int)) := h_4
      refine lv_if_ne (tgt := 20) hx hb dX11_contract_15 rfl (fun h => absurd h cq_eq_0_0) (fun _ => ?_)
      refine lv_iconst (v := (-1)) hx hb dX11_contract_18 kic_m1 ?_
      refine W.widen (k := 6) (n := 237) (Nat.le_of_ble_eq_true rfl) (Nat.le_of_ble_eq_true rfl) ?_
      exact W.iret (v := (-1)) hx hb hr (fun t ht hW => ⟨⟨(-1), (ad, cn, In, Fn), rfl, ⟨(Fr.mo (Fr.rf (cn := cn) (In := In) (Fn := Fn)) (sbl rfl) (sbl rfl) (sbl rfl)), hB, hT, hC, hL, fun _ _ _ => rfl, (by exact Or.inr ⟨by omega, rfl, rfl, rfl, rfl⟩)⟩, by rw [ht]; exact hP, hD⟩, hS.F ht⟩) hS.2.2 dX11_contract_19
  ·
    refine lv_astore_nN (lv' := [(3, .null), (0, .ref (g 0)), (1, .int v0), (2, .int v1)]) hx hb dX11_contract_5 rfl hl (ltb rfl) rfl (fun ls hl => ?_)
    refine lv_aload_nN hx hb dX11_contract_6 rfl (lvA0 hl) ?_
    refine lv_ifnullN (tgt := 18) hx hb dX11_contract_7 rfl ?_
    refine lv_iconst (v := (-1)) hx hb dX11_contract_18 kic_m1 ?_
    refine W.widen (k := 6) (n := 237) (Nat.le_of_ble_eq_true rfl) (Nat.le_of_ble_eq_true rfl) ?_
    exact W.iret (v := (-1)) hx hb hr (fun t ht hW => ⟨⟨(-1), (ad, cn, In, Fn), rfl, ⟨(Fr.mo (Fr.rf (cn := cn) (In := In) (Fn := Fn)) (sbl rfl) (sbl rfl) (sbl rfl)), hB, hT, hC, hL, fun _ _ _ => rfl, (by exact Or.inr ⟨by omega, rfl, rfl, rfl, rfl⟩)⟩, by rw [ht]; exact hP, hD⟩, hS.F ht⟩) hS.2.2 dX11_contract_19
set_option maxRecDepth 100000 in
set_option maxHeartbeats 4000000 in
theorem q_Vlaw (l : Launch) (D : va_G) (cI cB cZ : ClassId) (zz qq vv : Nat) (bt : Nat → Int32) (g : Nat → Nat) (ad : Nat → Nat → Nat) (cn : Nat → Nat) (In : Nat → Int32) (Fn : Nat → Nat → Int32) (v0 : Int32) (sz : Nat) (hB : CBX cn) (hT : (∀ k : Nat, k < cn 10 → ad 3 k < cn 6) ∧ ad 4 0 < cn 6 ∧ ad 4 1 < cn 6) (hC : ∀ k : Nat, k < cn 6 → ∃ n : Nat, n ≤ 12 ∧ Fn 198 k = nI n) (hL : ∀ k : Nat, k < cn 6 → (Fn 199 k).toInt ≤ 160) (hby : ∀ k : Nat, k < 160 → 0 ≤ (Fn 40 k).toInt ∧ (Fn 40 k).toInt ≤ 255) (hbt : BTL bt) : Met l yX11_law (CWS yX11_law cX11_law 3 (some .int)) (RM 27 6 237) (PBx [.ref (g 0), .int v0] D cI cB cZ zz qq vv bt (wX cI (D.1 99) zz g ad cn In Fn) sz) (va_Qi (fun (r : Int32) (u : (Nat → Nat → Nat) × (Nat → Nat) × (Nat → Int32) × (Nat → Nat → Int32)) => (fun r a2 c2 I2 F2 => Fr [3, 6, 31, 32] [30, 33] [195, 196, 197, 198, 199, 301, 302, 303, 304, 305] cn In Fn c2 I2 F2 ∧ CBX c2 ∧ ((∀ k : Nat, k < c2 10 → a2 3 k < c2 6) ∧ a2 4 0 < c2 6 ∧ a2 4 1 < c2 6) ∧ (∀ k : Nat, k < c2 6 → ∃ n : Nat, n ≤ 12 ∧ F2 198 k = nI n) ∧ (∀ k : Nat, k < c2 6 → (F2 199 k).toInt ≤ 160) ∧ (∀ i k : Nat, i ∉ [3, 4, 5, 60, 61, 62, 63, 64] → a2 i k = ad i k) ∧ (((1 ≤ v0.toInt ∧ v0.toInt ≤ 160 ∧ v0.toInt ≤ (cn 3 : Int)) ∧ c2 3 = 0 ∧ (KPT (cn 6) Fn F2 ∧ F2 199 = upd (Fn 199) (cn 6) (nI v0.toInt.toNat)) ∧ ((∃ e9 : Nat, txV (Fn 40) v0.toInt.toNat 108 = .error e9 ∧ r = -(nI e9) ∧ a2 4 0 = ad 4 0 ∧ ∀ k : Nat, a2 3 k = ad 3 k) ∨ ∃ z9 : Nat × OutT × ClsT, txV (Fn 40) v0.toInt.toNat 108 = .ok z9 ∧ r = nI z9.2.2.length ∧ a2 4 0 = cn 6 ∧ (∀ k : Nat, a2 3 k = ad 3 k) ∧ XTx (cn 6) F2 z9.2.1 z9.2.2 ∧ z9.2.1.length ≤ v0.toInt.toNat)) ∨ (¬ (1 ≤ v0.toInt ∧ v0.toInt ≤ 160 ∧ v0.toInt ≤ (cn 3 : Int)) ∧ c2 3 = cn 3 ∧ r = -1 ∧ a2 = ad ∧ F2 = Fn))) r u.1 u.2.1 u.2.2.1 u.2.2.2) (fun (u : (Nat → Nat → Nat) × (Nat → Nat) × (Nat → Int32) × (Nat → Nat → Int32)) (t : State) => va_P D vwCl (wX cI (D.1 99) zz g u.1 u.2.1 u.2.2.1 u.2.2.2) t.heap ∧ va_D (va_A (wX cI (D.1 99) zz g ad cn In Fn) sz) (wX cI (D.1 99) zz g u.1 u.2.1 u.2.2.1 u.2.2.2)) (va_A (wX cI (D.1 99) zz g ad cn In Fn) sz)) 6 237 (va_A (wX cI (D.1 99) zz g ad cn In Fn) sz) := by
  refine en_x (fun A => (va_Qi (fun (r : Int32) (u : (Nat → Nat → Nat) × (Nat → Nat) × (Nat → Int32) × (Nat → Nat → Int32)) => (fun (r : Int32) (a2 : Nat → Nat → Nat) (c2 : Nat → Nat) (I2 : Nat → Int32) (F2 : Nat → Nat → Int32) => Fr [3, 6, 31, 32] [30, 33] [195, 196, 197, 198, 199, 301, 302, 303, 304, 305] cn In Fn c2 I2 F2 ∧ CBX c2 ∧ ((∀ k : Nat, k < c2 10 → a2 3 k < c2 6) ∧ a2 4 0 < c2 6 ∧ a2 4 1 < c2 6) ∧ (∀ k : Nat, k < c2 6 → ∃ n : Nat, n ≤ 12 ∧ F2 198 k = nI n) ∧ (∀ k : Nat, k < c2 6 → (F2 199 k).toInt ≤ 160) ∧ (∀ i k : Nat, i ∉ [3, 4, 5, 60, 61, 62, 63, 64] → a2 i k = ad i k) ∧ (((1 ≤ v0.toInt ∧ v0.toInt ≤ 160 ∧ v0.toInt ≤ (cn 3 : Int)) ∧ c2 3 = 0 ∧ (KPT (cn 6) Fn F2 ∧ F2 199 = upd (Fn 199) (cn 6) (nI v0.toInt.toNat)) ∧ ((∃ e9 : Nat, txV (Fn 40) v0.toInt.toNat 108 = .error e9 ∧ r = -(nI e9) ∧ a2 4 0 = ad 4 0 ∧ ∀ k : Nat, a2 3 k = ad 3 k) ∨ ∃ z9 : Nat × OutT × ClsT, txV (Fn 40) v0.toInt.toNat 108 = .ok z9 ∧ r = nI z9.2.2.length ∧ a2 4 0 = cn 6 ∧ (∀ k : Nat, a2 3 k = ad 3 k) ∧ XTx (cn 6) F2 z9.2.1 z9.2.2 ∧ z9.2.1.length ≤ v0.toInt.toNat)) ∨ (¬ (1 ≤ v0.toInt ∧ v0.toInt ≤ 160 ∧ v0.toInt ≤ (cn 3 : Int)) ∧ c2 3 = cn 3 ∧ r = -1 ∧ a2 = ad ∧ F2 = Fn))) r u.1 u.2.1 u.2.2.1 u.2.2.2) (fun (u : (Nat → Nat → Nat) × (Nat → Nat) × (Nat → Int32) × (Nat → Nat → Int32)) (t : State) => va_P D vwCl (wX cI (D.1 99) zz g u.1 u.2.1 u.2.2.1 u.2.2.2) t.heap ∧ va_D A (wX cI (D.1 99) zz g u.1 u.2.1 u.2.2.1 u.2.2.2)) A)) rfl rfl pn_RX11 (Nat.le_of_ble_eq_true rfl) (fun p e s m below meth c A hx hb hml hown S hr hlocks hnm hA hP hK hD hXS hS ls hl => ?_)
  have hl : lv_has ls 3 [(0, .ref (g 0)), (1, .int v0)] := hl
  refine lv_aload_n hx hb dX11_law_0 rfl (lvA0 hl) ?_
  refine lv_iload_n hx hb dX11_law_1 rfl (lvA1 hl) ?_
  refine vp_callSi (runV_rxa (As := [.int v0]) (rest := []) S (q_XisText l D cI cB cZ zz qq vv bt g ad cn In Fn v0 hB) kV_RX11_155 hK hXS hS hP 0 xo_0 rfl rfl ⟨Nat.le_of_ble_eq_true rfl, Nat.le_of_ble_eq_true rfl⟩ ⟨Nat.le_of_ble_eq_true rfl, Nat.le_of_ble_eq_true rfl⟩ rfl hl.1 rfl (Nat.le_of_ble_eq_true rfl) dX11_law_2) (fun r_21 h_22 => ?_)
  rcases h_22 with ⟨rfl, h_22⟩ | ⟨rfl, h_22⟩
  ·
    have h_22 : 1 ≤ v0.toInt ∧ v0.toInt ≤ 160 ∧ v0.toInt ≤ ((cn 3) : Int) := h_22
    refine lv_if_ne (tgt := 10) hx hb dX11_law_5 rfl (fun _ => ?_) (fun h => absurd h cq_eq_1_0)
    obtain ⟨n0, hn0, rfl⟩ := nI_of (x := v0) (fun q => by have := Int32.lt_iff_toInt_lt.mp q; have e : (0 : Int32).toInt = 0 := rfl; omega)
    have tn0 : (nI n0).toInt = (n0 : Int) := nI_toInt hn0
    have zn0 : (nI n0).toInt.toNat = n0 := by omega
    refine lv_aload_n hx hb dX11_law_10 rfl (lvA0 hl) ?_
    refine gf_RX11_28 S hK hP 0 xo_0 (v := .ref (g 6)) rfl dX11_law_11 ?_
    refine lv_aload_n hx hb dX11_law_14 rfl (lvA0 hl) ?_
    refine gf_RX11_21 S hK hP 0 xo_0 (v := .ref (g 5)) rfl dX11_law_15 ?_
    refine lv_iload_n hx hb dX11_law_18 rfl (lvA1 hl) ?_
    refine lv_bipush (v := 108) hx hb dX11_law_19 kbc_108 ?_
    have hFc := free_all hD hS hA
    refine va_callq (runV_xa (As := [.ref (g 5), .int (nI n0), .int 108]) (rest := []) S (q_Zread l D cI cB cZ zz qq vv bt g ad cn In Fn n0 108 (Fn 40) s.heap.size hB ⟨by omega, by omega⟩ (by decide) (by decide) rfl hby hbt hT hC hL) kV_RX11_158 hK hXS hS hFc hP hD 3 xo_3 rfl rfl ⟨Nat.le_of_ble_eq_true rfl, Nat.le_of_ble_eq_true rfl⟩ ⟨Nat.le_of_ble_eq_true rfl, Nat.le_of_ble_eq_true rfl⟩ rfl hl.1 rfl (Nat.le_of_ble_eq_true rfl) dX11_law_21) hS (fun q _ h => hFc q h) hFc (fun r22 u22 t H1 locs ht hvm h22 hB1 hz1 hk1 hS => ?_)
    obtain ⟨hP1, hD1⟩ := hB1
    rw [ht] at hP1
    obtain ⟨a22, c22, I22, F22⟩ := u22
    obtain ⟨hfc22, hIn22, hr22, h622, h4122, hfa22, h4022, hC22, hL22, hE22⟩ := h22
    have h22 := And.intro hfc22 (And.intro hIn22 (And.intro hr22 (And.intro h622 (And.intro h4122 (And.intro hfa22 (And.intro h4022 (And.intro hC22 hL22)))))))
    obtain ⟨hfc22, hIn22, hr22, h622, h4122, hfa22, h4022, hC22, hL22⟩ := h22
    subst hr22
    have hfm22 : Fr [3, 6, 31, 32] [30, 33] [195, 196, 197, 198, 199, 301, 302, 303, 304, 305] cn In Fn c22 I22 F22 := Fr.mo hfc22 (sbl rfl) (sbl rfl) (sbl rfl)
    have hi_22 := hIn22
    have : c22 0 = cn 0 := hfc22.1 0 (nml rfl)
    have : c22 1 = cn 1 := hfc22.1 1 (nml rfl)
    have : c22 2 = cn 2 := hfc22.1 2 (nml rfl)
    have : c22 3 = cn 3 := hfc22.1 3 (nml rfl)
    have : c22 4 = cn 4 := hfc22.1 4 (nml rfl)
    have : c22 5 = cn 5 := hfc22.1 5 (nml rfl)
    have : c22 10 = cn 10 := hfc22.1 10 (nml rfl)
    have : c22 11 = cn 11 := hfc22.1 11 (nml rfl)
    have : c22 12 = cn 12 := hfc22.1 12 (nml rfl)
    have : c22 13 = cn 13 := hfc22.1 13 (nml rfl)
    have : c22 14 = cn 14 := hfc22.1 14 (nml rfl)
    have : c22 15 = cn 15 := hfc22.1 15 (nml rfl)
    have : c22 20 = cn 20 := hfc22.1 20 (nml rfl)
    have : c22 21 = cn 21 := hfc22.1 21 (nml rfl)
    have : c22 22 = cn 22 := hfc22.1 22 (nml rfl)
    have : c22 23 = cn 23 := hfc22.1 23 (nml rfl)
    have : c22 24 = cn 24 := hfc22.1 24 (nml rfl)
    have : c22 25 = cn 25 := hfc22.1 25 (nml rfl)
    have h622 : c22 6 = cn 6 + 1 := h622
    have h4122 : a22 4 1 = cn 6 := h4122
    have h4022 : a22 4 0 = ad 4 0 := h4022
    have hfa22 : ∀ i k : Nat, i ∉ [4, 5, 60, 61, 62, 63, 64] → a22 i k = ad i k := hfa22
    have hC22 : ∀ k : Nat, k < c22 6 → ∃ n : Nat, n ≤ 12 ∧ F22 198 k = nI n := hC22
    have hL22 : ∀ k : Nat, k < c22 6 → (F22 199 k).toInt ≤ 160 := hL22
    have hT0 := hT
    have hT : (∀ k : Nat, k < c22 10 → a22 3 k < c22 6) ∧ a22 4 0 < c22 6 ∧ a22 4 1 < c22 6 := ht_new hT0 (fun k => hfa22 3 k (by decide)) h4022 h4122 h622 (by omega)
    have hT9 := hT.2.2
    have hC := hC22
    have hL := hL22
    have hP : va_P D vwCl (wX cI (D.1 99) zz g a22 c22 I22 F22) H1 := hP1
    have hD : va_D A (wX cI (D.1 99) zz g a22 c22 I22 F22) := hD1.weaken (fun _ _ _ h => hFc _ h)
    generalize H1 = H at hP hS ⊢
    refine lv_astore_n (lv' := [(2, .ref (a22 5 (a22 4 1))), (0, .ref (g 0)), (1, .int (nI n0))]) hx hb dX11_law_24 rfl hl (ltb rfl) rfl (fun ls hl => ?_)
    refine lv_aload_n hx hb dX11_law_25 rfl (lvA1 hl) ?_
    refine gf_RX11_21 S hK hP 0 xo_0 (v := .ref (g 5)) rfl dX11_law_26 ?_
    have hFc := free_all hD hS hA
    refine va_callv (runV_xa (As := []) (rest := []) S (q_Xclear l D cI cB cZ zz qq vv bt g a22 c22 I22 F22  H.size hIn22) kV_RX11_162 hK hXS hS hFc hP hD 1 xo_1 rfl rfl ⟨Nat.le_of_ble_eq_true rfl, Nat.le_of_ble_eq_true rfl⟩ ⟨Nat.le_of_ble_eq_true rfl, Nat.le_of_ble_eq_true rfl⟩ rfl hl.1 rfl (Nat.le_of_ble_eq_true rfl) dX11_law_29) hS (fun q _ h => hFc q h) hFc (fun u t H1 locs ht hvm wh_25 hB1 hz1 hk1 hS => ?_)
    obtain ⟨cn25, In25, Fn25⟩ := u
    obtain ⟨hP1, hD1⟩ := hB1
    rw [ht] at hP1
    have hP : va_P D vwCl (wX cI (D.1 99) zz g a22 cn25 In25 Fn25) H1 := hP1
    have hD : va_D A (wX cI (D.1 99) zz g a22 cn25 In25 Fn25) := hD1.weaken (fun _ _ _ h => hFc _ h)
    generalize H1 = H at hP hS ⊢
    have vh_25 : (fun c2 I2 F2 => Fr [3] [] [] c22 I22 F22 c2 I2 F2 ∧ CBX c2 ∧ (c2 3 = 0)) cn25 In25 Fn25 := wh_25
    obtain ⟨hfc25, hIn25, h_25⟩ := vh_25
    obtain rfl : I22 = In25 := (funext (fun k => hfc25.2.1 k List.not_mem_nil)).symm
    obtain rfl : F22 = Fn25 := (funext (fun k => hfc25.2.2 k List.not_mem_nil)).symm
    have hf25 : Fr [3, 6, 31, 32] [30, 33] [195, 196, 197, 198, 199, 301, 302, 303, 304, 305] cn In Fn cn25 I22 F22 := Fr.mo (Fr.tr hfm22 hfc25) (sbl rfl) (sbl rfl) (sbl rfl)
    have : cn25 0 = (c22 0) := hfc25.1 0 (nml rfl)
    have : cn25 1 = (c22 1) := hfc25.1 1 (nml rfl)
    have : cn25 2 = (c22 2) := hfc25.1 2 (nml rfl)
    have : cn25 4 = (c22 4) := hfc25.1 4 (nml rfl)
    have : cn25 5 = (c22 5) := hfc25.1 5 (nml rfl)
    have : cn25 10 = (c22 10) := hfc25.1 10 (nml rfl)
    have : cn25 11 = (c22 11) := hfc25.1 11 (nml rfl)
    have : cn25 12 = (c22 12) := hfc25.1 12 (nml rfl)
    have : cn25 13 = (c22 13) := hfc25.1 13 (nml rfl)
    have : cn25 14 = (c22 14) := hfc25.1 14 (nml rfl)
    have : cn25 15 = (c22 15) := hfc25.1 15 (nml rfl)
    have : cn25 20 = (c22 20) := hfc25.1 20 (nml rfl)
    have : cn25 21 = (c22 21) := hfc25.1 21 (nml rfl)
    have : cn25 22 = (c22 22) := hfc25.1 22 (nml rfl)
    have : cn25 23 = (c22 23) := hfc25.1 23 (nml rfl)
    have : cn25 24 = (c22 24) := hfc25.1 24 (nml rfl)
    have : cn25 25 = (c22 25) := hfc25.1 25 (nml rfl)
    have : cn25 6 = (c22 6) := hfc25.1 6 (nml rfl)
    have : cn25 31 = (c22 31) := hfc25.1 31 (nml rfl)
    have : cn25 32 = (c22 32) := hfc25.1 32 (nml rfl)
    refine lv_aload_n hx hb dX11_law_32 rfl (lvA1 hl) ?_
    refine gf_RX11_28 S hK hP 0 xo_0 (v := .ref (g 6)) rfl dX11_law_33 ?_
    refine gf_RX11_165 S hK hP 3 xo_3 (v := .int (I22 33)) rfl dX11_law_36 ?_
    refine lv_if_eq (tgt := 51) hx hb dX11_law_39 rfl (fun c_26 => ?_) (fun c_26 => ?_)
    ·
      have tc_26 : ((I22 33).toInt : Int) = 0 := congrArg Int32.toInt c_26
      refine lv_aload_n hx hb dX11_law_51 rfl (lvA1 hl) ?_
      refine lv_aload_n hx hb dX11_law_52 rfl (lvA0 hl) ?_
      refine pf_RX11_12 S hK hP hD hS 0 xo_0 (v := .ref (a22 5 (a22 4 1))) (Nat.le_of_ble_eq_true rfl) rfl rfl dX11_law_53 (fun H locs hP hD hS => ?_)
      have hP : va_P D vwCl (wX cI (D.1 99) zz g (adO a22 4 0 (a22 4 1)) cn25 I22 F22) H := va_P_eq xH40 hP
      have hD : va_D A (wX cI (D.1 99) zz g (adO a22 4 0 (a22 4 1)) cn25 I22 F22) := va_D_eq xH40 hD
      refine lv_aload_n hx hb dX11_law_56 rfl (lvA0 hl) ?_
      refine gf_RX11_171 S hK hP _ (xf_7 (show (a22 4 1) < (cn25 6) by omega)) (v := .int ((F22 198) (a22 4 1))) rfl dX11_law_57 ?_
      have hT9 : (∀ k : Nat, k < cn25 10 → a22 3 k < cn25 6) ∧ a22 4 0 < cn25 6 ∧ a22 4 1 < cn25 6 := by
        have e6 : cn25 6 = c22 6 := by omega
        have e10 : cn25 10 = c22 10 := by omega
        rw [e6, e10]; exact hT
      have hC9 : ∀ k : Nat, k < cn25 6 → ∃ n : Nat, n ≤ 12 ∧ F22 198 k = nI n := fun k hk => hC k (by omega)
      have hL9 : ∀ k : Nat, k < cn25 6 → (F22 199 k).toInt ≤ 160 := fun k hk => hL k (by omega)
      have hE8 : ZTE Fn (Fn 40) n0 108 (cn 6) I22 F22 := hE22
      exact W.iret (v := ((F22 198) (a22 4 1))) hx hb hr (fun t ht hW => ⟨⟨((F22 198) (a22 4 1)), ((adO a22 4 0 (a22 4 1)), cn25, I22, F22), rfl, ⟨(Fr.mo hf25 (sbl rfl) (sbl rfl) (sbl rfl)), hIn25, (@ht_l a22 cn25 (a22 4 1) hT9 hT9.2.2), hC9, hL9, (fun i k hi => (if_neg (fun q => hi (by rw [q.1]; decide))).trans (hfa22 i k (fun q => hi (List.mem_cons_of_mem _ q)))), (by exact Or.inl ⟨by omega, by first | rfl | (show (cn25 3) = 0; first | omega | assumption), ⟨hE8.1, by rw [zn0]; exact hE8.2.1⟩, by rw [zn0]; exact (by rcases hE8.2.2 with ⟨e9, a1, a2, a3, a4⟩ | ⟨z9, a1, a2, a3, a4⟩ <;> first | exact Or.inr ⟨z9, a1, (by rw [← a3.2.1.1, ← h4122]), (show (adO a22 4 0 (a22 4 1)) 4 0 = cn 6 from (if_pos ⟨rfl, rfl⟩).trans h4122), (fun k => show (adO a22 4 0 (a22 4 1)) 3 k = ad 3 k from (if_neg (fun q => absurd q.1 (by decide))).trans (hfa22 3 k (by decide))), a3, a4⟩ | (exfalso; have q8 := congrArg Int32.toInt (a2.symm.trans (show I22 33 = 0 by assumption)); rw [nI_toInt (by omega)] at q8; have q7 : (0 : Int32).toInt = 0 := rfl; omega))⟩)⟩, by rw [ht]; exact hP, hD⟩, hS.F ht⟩) hS.2.2 dX11_law_60
    ·
      have tc_26 : ((I22 33).toInt : Int) ≠ 0 := fun q => c_26 (Int32.toInt_inj.mp q)
      refine lv_aload_n hx hb dX11_law_42 rfl (lvA1 hl) ?_
      refine gf_RX11_28 S hK hP 0 xo_0 (v := .ref (g 6)) rfl dX11_law_43 ?_
      refine gf_RX11_165 S hK hP 3 xo_3 (v := .int (I22 33)) rfl dX11_law_46 ?_
      refine lv_ineg hx hb dX11_law_49 ?_
      have hT9 : (∀ k : Nat, k < cn25 10 → a22 3 k < cn25 6) ∧ a22 4 0 < cn25 6 ∧ a22 4 1 < cn25 6 := by
        have e6 : cn25 6 = c22 6 := by omega
        have e10 : cn25 10 = c22 10 := by omega
        rw [e6, e10]; exact hT
      have hC9 : ∀ k : Nat, k < cn25 6 → ∃ n : Nat, n ≤ 12 ∧ F22 198 k = nI n := fun k hk => hC k (by omega)
      have hL9 : ∀ k : Nat, k < cn25 6 → (F22 199 k).toInt ≤ 160 := fun k hk => hL k (by omega)
      have hE8 : ZTE Fn (Fn 40) n0 108 (cn 6) I22 F22 := hE22
      exact W.iret (v := (-(I22 33))) hx hb hr (fun t ht hW => ⟨⟨(-(I22 33)), (a22, cn25, I22, F22), rfl, ⟨(Fr.mo hf25 (sbl rfl) (sbl rfl) (sbl rfl)), hIn25, hT9, hC9, hL9, (fun i k hi => hfa22 i k (fun q => hi (List.mem_cons_of_mem _ q))), (by exact Or.inl ⟨by omega, by first | rfl | (show (cn25 3) = 0; first | omega | assumption), ⟨hE8.1, by rw [zn0]; exact hE8.2.1⟩, by rw [zn0]; exact (by rcases hE8.2.2 with ⟨e9, a1, a2, a3, a4⟩ | ⟨z9, a1, a2, a3, a4⟩ <;> first | exact Or.inl ⟨e9, a1, by rw [a2], h4022, fun k => (hfa22 3 k (by decide))⟩ | exact absurd a2 (by assumption))⟩)⟩, by rw [ht]; exact hP, hD⟩, hS.F ht⟩) hS.2.2 dX11_law_50
  ·
    have h_22 : ¬ (1 ≤ v0.toInt ∧ v0.toInt ≤ 160 ∧ v0.toInt ≤ ((cn 3) : Int)) := h_22
    refine lv_if_ne (tgt := 10) hx hb dX11_law_5 rfl (fun h => absurd h cq_eq_0_0) (fun _ => ?_)
    refine lv_iconst (v := (-1)) hx hb dX11_law_8 kic_m1 ?_
    refine W.widen (k := 6) (n := 237) (Nat.le_of_ble_eq_true rfl) (Nat.le_of_ble_eq_true rfl) ?_
    exact W.iret (v := (-1)) hx hb hr (fun t ht hW => ⟨⟨(-1), (ad, cn, In, Fn), rfl, ⟨(Fr.mo (Fr.rf (cn := cn) (In := In) (Fn := Fn)) (sbl rfl) (sbl rfl) (sbl rfl)), hB, hT, hC, hL, fun _ _ _ => rfl, (by exact Or.inr ⟨by omega, rfl, rfl, rfl, rfl⟩)⟩, by rw [ht]; exact hP, hD⟩, hS.F ht⟩) hS.2.2 dX11_law_9
