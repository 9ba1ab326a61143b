theorem IM.cb {cn c2 : Nat → Nat} {Fn : Nat → Nat → Int32} (h : IM cn Fn) (hb : CB c2) (h1 : c2 1 = cn 1) (h2 : c2 2 = cn 2) (h3 : c2 62 = cn 62) (h4 : c2 63 = cn 63) : IM c2 Fn := by
  obtain ⟨b, e7, e8, e9, e10, e16, e33, e66, e67, e68, e69, e70, e76, e79, e64, pr, cd⟩ := h
  unfold IM
  rw [h1, h2, h3, h4]
  exact ⟨hb, e7, e8, e9, e10, e16, e33, e66, e67, e68, e69, e70, e76, e79, e64, pr, cd⟩
theorem IM.ff {cn : Nat → Nat} {Fn F2 : Nat → Nat → Int32} (h : IM cn Fn) (hF : ∀ k : Nat, k ∈ [7,8,9,10,16,32,33,34,35,36,64,66,67,68,69,70,76,79] → F2 k = Fn k) : IM cn F2 := by
  unfold IM
  rw [hF 7 (by decide), hF 8 (by decide), hF 9 (by decide), hF 10 (by decide), hF 16 (by decide), hF 32 (by decide), hF 33 (by decide), hF 34 (by decide), hF 35 (by decide), hF 36 (by decide), hF 64 (by decide), hF 66 (by decide), hF 67 (by decide), hF 68 (by decide), hF 69 (by decide), hF 70 (by decide), hF 76 (by decide), hF 79 (by decide)]
  exact h
theorem IM.k1 {cn : Nat → Nat} {Fn : Nat → Nat → Int32} (h : IM cn Fn) (h1 : cn 1 < 10) : IM (va_up cn 1 (cn 1 + 1)) Fn := by
  obtain ⟨b, e7, e8, e9, e10, e16, e33, e66, e67, e68, e69, e70, e76, e79, e64, pr, cd⟩ := h
  refine ⟨⟨b.1, ?_, b.2.2⟩, e7, ?_, e9, e10, e16, e33, e66, e67, e68, e69, e70, e76, e79, e64, pr, cd⟩
  · show cn 1 + 1 ≤ 10; omega
  · intro i hi
    obtain ⟨n, p, q⟩ := e8 i hi
    exact ⟨n, (by show n < cn 1 + 1; omega), q⟩
theorem IM.u76 {cn : Nat → Nat} {Fn : Nat → Nat → Int32} {k x : Nat} (h : IM cn Fn) (hx : x ≤ 3) : IM cn (va_up Fn 76 (upd (Fn 76) k (nI x))) := by
  obtain ⟨b, e7, e8, e9, e10, e16, e33, e66, e67, e68, e69, e70, e76, e79, e64, pr, cd⟩ := h
  exact ⟨b, e7, e8, e9, e10, e16, e33, e66, e67, e68, e69, e70, upd_ex (P := fun n => n ≤ 3) e76 hx, e79, e64, pr, cd⟩
theorem IM.u79 {cn : Nat → Nat} {Fn : Nat → Nat → Int32} {k x : Nat} (h : IM cn Fn) (hx : x ≤ 12) : IM cn (va_up Fn 79 (upd (Fn 79) k (nI x))) := by
  obtain ⟨b, e7, e8, e9, e10, e16, e33, e66, e67, e68, e69, e70, e76, e79, e64, pr, cd⟩ := h
  exact ⟨b, e7, e8, e9, e10, e16, e33, e66, e67, e68, e69, e70, e76, upd_ex (P := fun n => n ≤ 12) e79 hx, e64, pr, cd⟩
theorem mixN_cg {f g : Nat → Int32} {set : Int32} : ∀ {n : Nat}, (∀ i : Nat, i < n → ¬ (set >>> (nI i &&& 31)) &&& 1 = 0 → f i = g i) → mixN f set n = mixN g set n
  | 0, _ => rfl
  | n + 1, h => by
    have ih := mixN_cg (f := f) (g := g) (set := set) (n := n) (fun i hi => h i (by omega))
    by_cases q : (set >>> (nI n &&& 31)) &&& 1 = 0
    · rw [mixN_0 q, mixN_0 q, ih]
    · rw [mixN, if_neg q, mixN, if_neg q, ih, h n (by omega) q]
theorem IM.ft {cn : Nat → Nat} {Fn F2 : Nat → Nat → Int32} {k d l t : Nat} (h : IM cn Fn) (h2 : cn 2 < 60) (hk : k < cn 1) (hd : d ≤ 399) (hl : l ≤ 400) (hF : ∀ j : Nat, j ∈ [32,33,34,35,36,64,66,67,68,69,70,76,79] → F2 j = Fn j) (f8 : F2 8 = upd (Fn 8) (cn 2) (nI k)) (f9 : F2 9 = upd (Fn 9) (cn 2) (nI d)) (f10 : F2 10 = upd (Fn 10) (cn 2) (nI l)) (f16 : F2 16 = upd (Fn 16) (cn 2) (Fn 7 k)) (f7 : F2 7 = upd (Fn 7) t (nI d)) : IM (va_up cn 2 (cn 2 + 1)) F2 := by
  have a7 := h.e7 k (by have := h.b; omega)
  obtain ⟨b, e7, e8, e9, e10, e16, e33, e66, e67, e68, e69, e70, e76, e79, e64, pr, cd⟩ := h
  unfold IM CB
  rw [hF 32 (by decide), hF 33 (by decide), hF 34 (by decide), hF 35 (by decide), hF 36 (by decide), hF 64 (by decide), hF 66 (by decide), hF 67 (by decide), hF 68 (by decide), hF 69 (by decide), hF 70 (by decide), hF 76 (by decide), hF 79 (by decide), f8, f9, f10, f16, f7]
  refine ⟨⟨b.1, b.2.1, ?_, b.2.2.2⟩, ?_, ?_, ?_, ?_, ?_, e33, e66, e67, e68, e69, e70, e76, e79, ?_, ?_, cd⟩
  · show cn 2 + 1 ≤ 60; omega
  · intro j hj
    unfold upd
    split
    · rw [nI_toInt (by omega)]; omega
    · exact e7 j hj
  · exact upd_ex1 (P := fun n => n < cn 1) e8 hk
  · exact upd_ex (P := fun n => n ≤ 399) e9 hd
  · exact upd_ex (P := fun n => n ≤ 400) e10 hl
  · have e : Fn 7 k = nI (Fn 7 k).toInt.toNat := nI_ofT (by omega) (by omega)
    rw [e]
    exact upd_ex (P := fun n => n ≤ 399) e16 (by omega)
  · intro j hj i hi hb
    have := e64 j hj i hi hb
    show i < cn 2 + 1; omega
  · intro q hq
    obtain ⟨n, p, e⟩ := e67 q hq
    have b62 := b.2.2.2.2.2.2.1
    have k := pr q hq
    rw [e, nI_tn (by omega)] at k ⊢
    rw [mixN_cg (f := upd (Fn 10) (cn 2) (nI l)) (g := Fn 10) (fun i hi hb => upd_nq (by have := e64 n p i hi hb; omega))]
    exact k

theorem im_now {cn c2 : Nat → Nat} {In I2 : Nat → Int32} {Fn F2 : Nat → Nat → Int32} {r : Int32} {v0 : Int32} (hI : IM cn Fn) (h : (fun r c2 I2 F2 => (((cn 0 : Int) ≤ v0.toInt ∧ v0.toInt ≤ 399) ∧ r = 1 ∧ c2 = va_up cn 0 v0.toInt.toNat ∧ I2 = In ∧ F2 = Fn) ∨ ((¬ ((cn 0 : Int) ≤ v0.toInt ∧ v0.toInt ≤ 399)) ∧ r = 0 ∧ c2 = cn ∧ I2 = In ∧ F2 = Fn)) r c2 I2 F2) : IM c2 F2 := by
  have hb := hI.b
  rcases h with ⟨h1, h2, rfl, rfl, rfl⟩ | ⟨h1, h2, rfl, rfl, rfl⟩
  · exact hI.cb ⟨(by show v0.toInt.toNat ≤ 399; omega), (by show cn 1 ≤ 10; omega), (by show cn 2 ≤ 60; omega), (by show cn 46 ≤ 3; omega), (by show cn 57 ≤ 20; omega), (by show cn 58 ≤ 60; omega), (by show cn 62 ≤ 10; omega), (by show cn 63 ≤ 40; omega), (by show cn 75 ≤ 40; omega), (by show cn 83 ≤ 10; omega)⟩ rfl rfl rfl rfl
  · exact hI
theorem im_kitchen {cn c2 : Nat → Nat} {In I2 : Nat → Int32} {Fn F2 : Nat → Nat → Int32} {r : Int32} {v0 v1 v2 v3 : Int32} (hI : IM cn Fn) (h : (fun r c2 I2 F2 => (((0 ≤ v0.toInt ∧ v0.toInt ≤ 99) ∧ (0 ≤ v1.toInt ∧ v1.toInt ≤ 99) ∧ (0 ≤ v2.toInt ∧ v2.toInt ≤ 50) ∧ (20 ≤ v3.toInt ∧ v3.toInt ≤ 400) ∧ cn 1 < 10) ∧ r = nI (cn 1) ∧ c2 = va_up cn 1 (cn 1 + 1) ∧ I2 = In ∧ F2 = va_up (va_up (va_up (va_up Fn 3 (upd (Fn 3) (cn 1) v0)) 4 (upd (Fn 4) (cn 1) v1)) 5 (upd (Fn 5) (cn 1) v2)) 6 (upd (Fn 6) (cn 1) v3)) ∨ ((¬ ((0 ≤ v0.toInt ∧ v0.toInt ≤ 99) ∧ (0 ≤ v1.toInt ∧ v1.toInt ≤ 99) ∧ (0 ≤ v2.toInt ∧ v2.toInt ≤ 50) ∧ (20 ≤ v3.toInt ∧ v3.toInt ≤ 400) ∧ cn 1 < 10)) ∧ r = -1 ∧ c2 = cn ∧ I2 = In ∧ F2 = Fn)) r c2 I2 F2) : IM c2 F2 := by
  have hb := hI.b
  rcases h with ⟨h1, h2, rfl, rfl, rfl⟩ | ⟨h1, h2, rfl, rfl, rfl⟩
  · exact IM.fr (In := fun _ => (0 : Int32)) (hI.k1 (by omega)) (Fr.f 6 (Fr.f 5 (Fr.f 4 (Fr.f 3 Fr.rf)))) (by decide) (by decide)
  · exact hI
theorem im_price {cn c2 : Nat → Nat} {In I2 : Nat → Int32} {Fn F2 : Nat → Nat → Int32} {r : Int32} {v0 v1 : Int32} (hI : IM cn Fn) (h : (fun r c2 I2 F2 => (((0 ≤ v0.toInt ∧ v0.toInt ≤ 57) ∧ (0 ≤ v1.toInt ∧ v1.toInt ≤ 1000)) ∧ r = 1 ∧ c2 = cn ∧ I2 = In ∧ F2 = (va_up Fn 39 (upd (Fn 39) v0.toInt.toNat v1))) ∨ ((¬ ((0 ≤ v0.toInt ∧ v0.toInt ≤ 57) ∧ (0 ≤ v1.toInt ∧ v1.toInt ≤ 1000))) ∧ r = 0 ∧ c2 = cn ∧ I2 = In ∧ F2 = Fn)) r c2 I2 F2) : IM c2 F2 := by
  have hb := hI.b
  rcases h with ⟨h1, h2, rfl, rfl, rfl⟩ | ⟨h1, h2, rfl, rfl, rfl⟩
  · exact IM.fr (In := fun _ => (0 : Int32)) hI (Fr.f 39 Fr.rf) (by decide) (by decide)
  · exact hI
theorem im_street {cn c2 : Nat → Nat} {In I2 : Nat → Int32} {Fn F2 : Nat → Nat → Int32} {r : Int32} {v0 v1 : Int32} (hI : IM cn Fn) (h : (fun r c2 I2 F2 => (((0 ≤ v0.toInt ∧ v0.toInt < (cn 1 : Int)) ∧ (0 ≤ v1.toInt ∧ v1.toInt ≤ 9)) ∧ r = 1 ∧ c2 = cn ∧ I2 = In ∧ F2 = (va_up Fn 40 (upd (Fn 40) v0.toInt.toNat v1))) ∨ ((¬ ((0 ≤ v0.toInt ∧ v0.toInt < (cn 1 : Int)) ∧ (0 ≤ v1.toInt ∧ v1.toInt ≤ 9))) ∧ r = 0 ∧ c2 = cn ∧ I2 = In ∧ F2 = Fn)) r c2 I2 F2) : IM c2 F2 := by
  have hb := hI.b
  rcases h with ⟨h1, h2, rfl, rfl, rfl⟩ | ⟨h1, h2, rfl, rfl, rfl⟩
  · exact IM.fr (In := fun _ => (0 : Int32)) hI (Fr.f 40 Fr.rf) (by decide) (by decide)
  · exact hI
theorem im_feast {cn c2 : Nat → Nat} {In I2 : Nat → Int32} {Fn F2 : Nat → Nat → Int32} {r : Int32} {v0 v1 : Int32} (hI : IM cn Fn) (h : (fun r c2 I2 F2 => (((0 ≤ v0.toInt ∧ v0.toInt ≤ 399) ∧ (0 ≤ v1.toInt ∧ v1.toInt ≤ 300)) ∧ r = 1 ∧ c2 = cn ∧ I2 = In ∧ F2 = (va_up Fn 41 (upd (Fn 41) v0.toInt.toNat v1))) ∨ ((¬ ((0 ≤ v0.toInt ∧ v0.toInt ≤ 399) ∧ (0 ≤ v1.toInt ∧ v1.toInt ≤ 300))) ∧ r = 0 ∧ c2 = cn ∧ I2 = In ∧ F2 = Fn)) r c2 I2 F2) : IM c2 F2 := by
  have hb := hI.b
  rcases h with ⟨h1, h2, rfl, rfl, rfl⟩ | ⟨h1, h2, rfl, rfl, rfl⟩
  · exact IM.fr (In := fun _ => (0 : Int32)) hI (Fr.f 41 Fr.rf) (by decide) (by decide)
  · exact hI
theorem im_rate {cn c2 : Nat → Nat} {In I2 : Nat → Int32} {Fn F2 : Nat → Nat → Int32} {r : Int32} {v0 v1 v2 : Int32} (hI : IM cn Fn) (h : (fun r c2 I2 F2 => (((0 ≤ v0.toInt ∧ v0.toInt ≤ 3) ∧ (0 ≤ v1.toInt ∧ v1.toInt ≤ 57) ∧ (0 ≤ v2.toInt ∧ v2.toInt ≤ 1000)) ∧ r = 1 ∧ c2 = cn ∧ I2 = In ∧ F2 = (va_up Fn 77 (upd (Fn 77) (58 * v0.toInt.toNat + v1.toInt.toNat) v2))) ∨ ((¬ ((0 ≤ v0.toInt ∧ v0.toInt ≤ 3) ∧ (0 ≤ v1.toInt ∧ v1.toInt ≤ 57) ∧ (0 ≤ v2.toInt ∧ v2.toInt ≤ 1000))) ∧ r = 0 ∧ c2 = cn ∧ I2 = In ∧ F2 = Fn)) r c2 I2 F2) : IM c2 F2 := by
  have hb := hI.b
  rcases h with ⟨h1, h2, rfl, rfl, rfl⟩ | ⟨h1, h2, rfl, rfl, rfl⟩
  · exact IM.fr (In := fun _ => (0 : Int32)) hI (Fr.f 77 Fr.rf) (by decide) (by decide)
  · exact hI
theorem im_most {cn c2 : Nat → Nat} {In I2 : Nat → Int32} {Fn F2 : Nat → Nat → Int32} {r : Int32} {v0 v1 : Int32} (hI : IM cn Fn) (h : (fun r c2 I2 F2 => (((0 ≤ v0.toInt ∧ v0.toInt ≤ 9) ∧ (0 ≤ v1.toInt ∧ v1.toInt ≤ 100000)) ∧ r = 1 ∧ c2 = cn ∧ I2 = In ∧ F2 = (va_up Fn 78 (upd (Fn 78) v0.toInt.toNat v1))) ∨ ((¬ ((0 ≤ v0.toInt ∧ v0.toInt ≤ 9) ∧ (0 ≤ v1.toInt ∧ v1.toInt ≤ 100000))) ∧ r = 0 ∧ c2 = cn ∧ I2 = In ∧ F2 = Fn)) r c2 I2 F2) : IM c2 F2 := by
  have hb := hI.b
  rcases h with ⟨h1, h2, rfl, rfl, rfl⟩ | ⟨h1, h2, rfl, rfl, rfl⟩
  · exact IM.fr (In := fun _ => (0 : Int32)) hI (Fr.f 78 Fr.rf) (by decide) (by decide)
  · exact hI
theorem im_offers {cn c2 : Nat → Nat} {In I2 : Nat → Int32} {Fn F2 : Nat → Nat → Int32} {r : Int32} {v0 v1 v2 : Int32} (hI : IM cn Fn) (h : (fun r c2 I2 F2 => (((0 ≤ v0.toInt ∧ v0.toInt < (cn 1 : Int)) ∧ (0 ≤ v1.toInt ∧ v1.toInt ≤ 200) ∧ (0 ≤ v2.toInt ∧ v2.toInt ≤ 200)) ∧ r = 1 ∧ c2 = cn ∧ I2 = In ∧ F2 = (va_up (va_up Fn 84 (upd (Fn 84) v0.toInt.toNat v1)) 85 (upd (Fn 85) v0.toInt.toNat v2))) ∨ ((¬ ((0 ≤ v0.toInt ∧ v0.toInt < (cn 1 : Int)) ∧ (0 ≤ v1.toInt ∧ v1.toInt ≤ 200) ∧ (0 ≤ v2.toInt ∧ v2.toInt ≤ 200))) ∧ r = 0 ∧ c2 = cn ∧ I2 = In ∧ F2 = Fn)) r c2 I2 F2) : IM c2 F2 := by
  have hb := hI.b
  rcases h with ⟨h1, h2, rfl, rfl, rfl⟩ | ⟨h1, h2, rfl, rfl, rfl⟩
  · exact IM.fr (In := fun _ => (0 : Int32)) hI (Fr.f 85 (Fr.f 84 Fr.rf)) (by decide) (by decide)
  · exact hI
theorem im_thefts {cn c2 : Nat → Nat} {In I2 : Nat → Int32} {Fn F2 : Nat → Nat → Int32} {r : Int32} {v0 v1 : Int32} (hI : IM cn Fn) (h : (fun r c2 I2 F2 => (((0 ≤ v0.toInt ∧ v0.toInt ≤ 23) ∧ (0 ≤ v1.toInt ∧ v1.toInt ≤ 1000)) ∧ r = 1 ∧ c2 = cn ∧ I2 = In ∧ F2 = (va_up Fn 86 (upd (Fn 86) v0.toInt.toNat v1))) ∨ ((¬ ((0 ≤ v0.toInt ∧ v0.toInt ≤ 23) ∧ (0 ≤ v1.toInt ∧ v1.toInt ≤ 1000))) ∧ r = 0 ∧ c2 = cn ∧ I2 = In ∧ F2 = Fn)) r c2 I2 F2) : IM c2 F2 := by
  have hb := hI.b
  rcases h with ⟨h1, h2, rfl, rfl, rfl⟩ | ⟨h1, h2, rfl, rfl, rfl⟩
  · exact IM.fr (In := fun _ => (0 : Int32)) hI (Fr.f 86 Fr.rf) (by decide) (by decide)
  · exact hI
theorem im_degrees {cn c2 : Nat → Nat} {In I2 : Nat → Int32} {Fn F2 : Nat → Nat → Int32} {r : Int32} {v0 v1 : Int32} (hI : IM cn Fn) (h : (fun r c2 I2 F2 => (((0 ≤ v0.toInt ∧ v0.toInt ≤ 399) ∧ ((-40) ≤ v1.toInt ∧ v1.toInt ≤ 40)) ∧ r = 1 ∧ c2 = cn ∧ I2 = In ∧ F2 = (va_up Fn 90 (upd (Fn 90) v0.toInt.toNat v1))) ∨ ((¬ ((0 ≤ v0.toInt ∧ v0.toInt ≤ 399) ∧ ((-40) ≤ v1.toInt ∧ v1.toInt ≤ 40))) ∧ r = 0 ∧ c2 = cn ∧ I2 = In ∧ F2 = Fn)) r c2 I2 F2) : IM c2 F2 := by
  have hb := hI.b
  rcases h with ⟨h1, h2, rfl, rfl, rfl⟩ | ⟨h1, h2, rfl, rfl, rfl⟩
  · exact IM.fr (In := fun _ => (0 : Int32)) hI (Fr.f 90 Fr.rf) (by decide) (by decide)
  · exact hI
theorem im_blocked {cn c2 : Nat → Nat} {In I2 : Nat → Int32} {Fn F2 : Nat → Nat → Int32} {r : Int32} {v0 : Int32} (hI : IM cn Fn) (h : (fun r c2 I2 F2 => ((0 ≤ v0.toInt ∧ v0.toInt < (cn 83 : Int)) ∧ r = Fn 89 v0.toInt.toNat + 1 ∧ c2 = cn ∧ I2 = In ∧ F2 = (va_up Fn 89 (upd (Fn 89) v0.toInt.toNat (Fn 89 v0.toInt.toNat + 1)))) ∨ ((¬ (0 ≤ v0.toInt ∧ v0.toInt < (cn 83 : Int))) ∧ r = -1 ∧ c2 = cn ∧ I2 = In ∧ F2 = Fn)) r c2 I2 F2) : IM c2 F2 := by
  have hb := hI.b
  rcases h with ⟨h1, h2, rfl, rfl, rfl⟩ | ⟨h1, h2, rfl, rfl, rfl⟩
  · exact IM.fr (In := fun _ => (0 : Int32)) hI (Fr.f 89 Fr.rf) (by decide) (by decide)
  · exact hI
theorem im_off {cn c2 : Nat → Nat} {In I2 : Nat → Int32} {Fn F2 : Nat → Nat → Int32} {r : Int32} {v0 v1 v2 : Int32} (hI : IM cn Fn) (h : (fun r c2 I2 F2 => ((0 ≤ v0.toInt ∧ v0.toInt < (cn 46 : Int) ∧ 0 ≤ v1.toInt ∧ v1.toInt ≤ 399 ∧ Fn 53 (400 * v0.toInt.toNat + v1.toInt.toNat) ≠ v2) ∧ r = 1 ∧ c2 = cn ∧ I2 = In ∧ F2 = (va_up Fn 53 (upd (Fn 53) (400 * v0.toInt.toNat + v1.toInt.toNat) (vp_nar .boolean v2)))) ∨ ((¬ (0 ≤ v0.toInt ∧ v0.toInt < (cn 46 : Int) ∧ 0 ≤ v1.toInt ∧ v1.toInt ≤ 399 ∧ Fn 53 (400 * v0.toInt.toNat + v1.toInt.toNat) ≠ v2)) ∧ r = 0 ∧ c2 = cn ∧ I2 = In ∧ F2 = Fn)) r c2 I2 F2) : IM c2 F2 := by
  have hb := hI.b
  rcases h with ⟨h1, h2, rfl, rfl, rfl⟩ | ⟨h1, h2, rfl, rfl, rfl⟩
  · exact IM.fr (In := fun _ => (0 : Int32)) hI (Fr.f 53 Fr.rf) (by decide) (by decide)
  · exact hI
theorem im_lorry {cn c2 : Nat → Nat} {In I2 : Nat → Int32} {Fn F2 : Nat → Nat → Int32} {r : Int32} {v0 : Int32} (hI : IM cn Fn) (h : (fun r c2 I2 F2 => (((20 ≤ v0.toInt ∧ v0.toInt ≤ 2000) ∧ cn 46 < 3) ∧ r = nI (cn 46) ∧ c2 = va_up cn 46 (cn 46 + 1) ∧ I2 = In ∧ F2 = (va_up Fn 47 (upd (Fn 47) (cn 46) v0))) ∨ ((¬ ((20 ≤ v0.toInt ∧ v0.toInt ≤ 2000) ∧ cn 46 < 3)) ∧ r = -1 ∧ c2 = cn ∧ I2 = In ∧ F2 = Fn)) r c2 I2 F2) : IM c2 F2 := by
  have hb := hI.b
  rcases h with ⟨h1, h2, rfl, rfl, rfl⟩ | ⟨h1, h2, rfl, rfl, rfl⟩
  · exact IM.fr (In := fun _ => (0 : Int32)) (hI.cb (c2 := va_up cn 46 (cn 46 + 1)) ⟨(by show cn 0 ≤ 399; omega), (by show cn 1 ≤ 10; omega), (by show cn 2 ≤ 60; omega), (by show cn 46 + 1 ≤ 3; omega), (by show cn 57 ≤ 20; omega), (by show cn 58 ≤ 60; omega), (by show cn 62 ≤ 10; omega), (by show cn 63 ≤ 40; omega), (by show cn 75 ≤ 40; omega), (by show cn 83 ≤ 10; omega)⟩ rfl rfl rfl rfl) (Fr.f 47 Fr.rf) (by decide) (by decide)
  · exact hI
theorem im_sewer {cn c2 : Nat → Nat} {In I2 : Nat → Int32} {Fn F2 : Nat → Nat → Int32} {r : Int32} {v0 v1 : Int32} (hI : IM cn Fn) (h : (fun r c2 I2 F2 => (((0 ≤ v0.toInt ∧ v0.toInt ≤ 99) ∧ (0 ≤ v1.toInt ∧ v1.toInt ≤ 99) ∧ cn 83 < 10) ∧ r = nI (cn 83) ∧ c2 = va_up cn 83 (cn 83 + 1) ∧ I2 = In ∧ F2 = (va_up (va_up Fn 87 (upd (Fn 87) (cn 83) v0)) 88 (upd (Fn 88) (cn 83) v1))) ∨ ((¬ ((0 ≤ v0.toInt ∧ v0.toInt ≤ 99) ∧ (0 ≤ v1.toInt ∧ v1.toInt ≤ 99) ∧ cn 83 < 10)) ∧ r = -1 ∧ c2 = cn ∧ I2 = In ∧ F2 = Fn)) r c2 I2 F2) : IM c2 F2 := by
  have hb := hI.b
  rcases h with ⟨h1, h2, rfl, rfl, rfl⟩ | ⟨h1, h2, rfl, rfl, rfl⟩
  · exact IM.fr (In := fun _ => (0 : Int32)) (hI.cb (c2 := va_up cn 83 (cn 83 + 1)) ⟨(by show cn 0 ≤ 399; omega), (by show cn 1 ≤ 10; omega), (by show cn 2 ≤ 60; omega), (by show cn 46 ≤ 3; omega), (by show cn 57 ≤ 20; omega), (by show cn 58 ≤ 60; omega), (by show cn 62 ≤ 10; omega), (by show cn 63 ≤ 40; omega), (by show cn 75 ≤ 40; omega), (by show cn 83 + 1 ≤ 10; omega)⟩ rfl rfl rfl rfl) (Fr.f 88 (Fr.f 87 Fr.rf)) (by decide) (by decide)
  · exact hI
theorem im_drum {cn c2 : Nat → Nat} {In I2 : Nat → Int32} {Fn F2 : Nat → Nat → Int32} {r : Int32}  (hI : IM cn Fn) (h : (fun r c2 I2 F2 => ((cn 57 < 20) ∧ r = nI (cn 57) ∧ c2 = va_up cn 57 (cn 57 + 1) ∧ I2 = In ∧ F2 = Fn) ∨ ((¬ (cn 57 < 20)) ∧ r = -1 ∧ c2 = cn ∧ I2 = In ∧ F2 = Fn)) r c2 I2 F2) : IM c2 F2 := by
  have hb := hI.b
  rcases h with ⟨h1, h2, rfl, rfl, rfl⟩ | ⟨h1, h2, rfl, rfl, rfl⟩
  · exact hI.cb ⟨(by show cn 0 ≤ 399; omega), (by show cn 1 ≤ 10; omega), (by show cn 2 ≤ 60; omega), (by show cn 46 ≤ 3; omega), (by show cn 57 + 1 ≤ 20; omega), (by show cn 58 ≤ 60; omega), (by show cn 62 ≤ 10; omega), (by show cn 63 ≤ 40; omega), (by show cn 75 ≤ 40; omega), (by show cn 83 ≤ 10; omega)⟩ rfl rfl rfl rfl
  · exact hI
theorem im_spill {cn c2 : Nat → Nat} {In I2 : Nat → Int32} {Fn F2 : Nat → Nat → Int32} {r : Int32} {v0 v1 : Int32} (hI : IM cn Fn) (h : (fun r c2 I2 F2 => (((0 ≤ v0.toInt ∧ v0.toInt ≤ (cn 0 : Int)) ∧ (1 ≤ v1.toInt ∧ v1.toInt ≤ 400) ∧ cn 75 < 40) ∧ r = nI (cn 75 + 1) ∧ c2 = va_up cn 75 (cn 75 + 1) ∧ I2 = In ∧ F2 = (va_up (va_up Fn 81 (upd (Fn 81) (cn 75) v0)) 82 (upd (Fn 82) (cn 75) v1))) ∨ ((¬ ((0 ≤ v0.toInt ∧ v0.toInt ≤ (cn 0 : Int)) ∧ (1 ≤ v1.toInt ∧ v1.toInt ≤ 400) ∧ cn 75 < 40)) ∧ r = -1 ∧ c2 = cn ∧ I2 = In ∧ F2 = Fn)) r c2 I2 F2) : IM c2 F2 := by
  have hb := hI.b
  rcases h with ⟨h1, h2, rfl, rfl, rfl⟩ | ⟨h1, h2, rfl, rfl, rfl⟩
  · exact IM.fr (In := fun _ => (0 : Int32)) (hI.cb (c2 := va_up cn 75 (cn 75 + 1)) ⟨(by show cn 0 ≤ 399; omega), (by show cn 1 ≤ 10; omega), (by show cn 2 ≤ 60; omega), (by show cn 46 ≤ 3; omega), (by show cn 57 ≤ 20; omega), (by show cn 58 ≤ 60; omega), (by show cn 62 ≤ 10; omega), (by show cn 63 ≤ 40; omega), (by show cn 75 + 1 ≤ 40; omega), (by show cn 83 ≤ 10; omega)⟩ rfl rfl rfl rfl) (Fr.f 82 (Fr.f 81 Fr.rf)) (by decide) (by decide)
  · exact hI
theorem im_use {cn c2 : Nat → Nat} {In I2 : Nat → Int32} {Fn F2 : Nat → Nat → Int32} {r : Int32} {v0 v1 : Int32} (hI : IM cn Fn) (h : (fun r c2 I2 F2 => (((0 ≤ v0.toInt ∧ v0.toInt ≤ 9) ∧ (0 ≤ v1.toInt ∧ v1.toInt ≤ 3)) ∧ r = 1 ∧ c2 = cn ∧ I2 = In ∧ F2 = (va_up Fn 76 (upd (Fn 76) v0.toInt.toNat v1))) ∨ ((¬ ((0 ≤ v0.toInt ∧ v0.toInt ≤ 9) ∧ (0 ≤ v1.toInt ∧ v1.toInt ≤ 3))) ∧ r = 0 ∧ c2 = cn ∧ I2 = In ∧ F2 = Fn)) r c2 I2 F2) : IM c2 F2 := by
  have hb := hI.b
  rcases h with ⟨h1, h2, rfl, rfl, rfl⟩ | ⟨h1, h2, rfl, rfl, rfl⟩
  · have e : v1 = nI v1.toInt.toNat := nI_ofT (by omega) (by omega)
    rw [e]
    exact hI.u76 (by omega)
  · exact hI
theorem im_fetch {cn c2 : Nat → Nat} {In I2 : Nat → Int32} {Fn F2 : Nat → Nat → Int32} {r : Int32} {v0 v1 v2 v3 v4 v5 : Int32} (hI : IM cn Fn) (h : (fun r c2 I2 F2 => ((0 ≤ v0.toInt ∧ v0.toInt < (cn 1 : Int) ∧ (Fn 7 v0.toInt.toNat).toInt ≤ v1.toInt ∧ v1.toInt ≤ (cn 0 : Int) ∧ (0 ≤ v2.toInt ∧ v2.toInt ≤ 400) ∧ (0 ≤ v3.toInt ∧ v3.toInt ≤ 1000) ∧ (0 ≤ v4.toInt ∧ v4.toInt ≤ 1000) ∧ v1.toInt ≤ v5.toInt ∧ v5.toInt ≤ 399 ∧ cn 2 < 60) ∧ r = nI (cn 2) ∧ c2 = va_up cn 2 (cn 2 + 1) ∧ I2 = In ∧ F2 = (va_up (va_up (va_up (va_up (va_up (va_up (va_up (va_up (va_up (va_up Fn 8 (upd (Fn 8) (cn 2) v0)) 9 (upd (Fn 9) (cn 2) v1)) 10 (upd (Fn 10) (cn 2) v2)) 11 (upd (Fn 11) (cn 2) v3)) 12 (upd (Fn 12) (cn 2) v4)) 13 (upd (Fn 13) (cn 2) v5)) 14 (upd (Fn 14) (cn 2) (lackM (lkM Fn v0.toInt.toNat v1) v2))) 15 (upd (Fn 15) (cn 2) (-1))) 16 (upd (Fn 16) (cn 2) (Fn 7 v0.toInt.toNat))) 7 (upd (Fn 7) v0.toInt.toNat v1))) ∨ ((¬ (0 ≤ v0.toInt ∧ v0.toInt < (cn 1 : Int) ∧ (Fn 7 v0.toInt.toNat).toInt ≤ v1.toInt ∧ v1.toInt ≤ (cn 0 : Int) ∧ (0 ≤ v2.toInt ∧ v2.toInt ≤ 400) ∧ (0 ≤ v3.toInt ∧ v3.toInt ≤ 1000) ∧ (0 ≤ v4.toInt ∧ v4.toInt ≤ 1000) ∧ v1.toInt ≤ v5.toInt ∧ v5.toInt ≤ 399 ∧ cn 2 < 60)) ∧ r = -1 ∧ c2 = cn ∧ I2 = In ∧ F2 = Fn)) r c2 I2 F2) : IM c2 F2 := by
  have hb := hI.b
  rcases h with ⟨h1, h2, rfl, rfl, rfl⟩ | ⟨h1, h2, rfl, rfl, rfl⟩
  · have e0 : v0 = nI v0.toInt.toNat := nI_ofT (by omega) (by omega)
    have e1 : v1 = nI v1.toInt.toNat := nI_ofT (by have := hI.e7 v0.toInt.toNat (by omega); omega) (by omega)
    have e2 : v2 = nI v2.toInt.toNat := nI_ofT (by omega) (by omega)
    exact IM.ft (k := v0.toInt.toNat) (d := v1.toInt.toNat) (l := v2.toInt.toNat) (t := v0.toInt.toNat) hI (by omega) (by omega) (by omega) (by omega) (fun j hj => by simp only [List.mem_cons, List.not_mem_nil, or_false] at hj; rcases hj with rfl | rfl | rfl | rfl | rfl | rfl | rfl | rfl | rfl | rfl | rfl | rfl | rfl <;> rfl) (congrArg (upd (Fn 8) (cn 2)) e0) (congrArg (upd (Fn 9) (cn 2)) e1) (congrArg (upd (Fn 10) (cn 2)) e2) rfl (congrArg (upd (Fn 7) v0.toInt.toNat) e1)
  · exact hI
theorem im_moves {cn c2 : Nat → Nat} {In I2 : Nat → Int32} {Fn F2 : Nat → Nat → Int32} {r : Int32} {v0 v1 v2 : Int32} (hI : IM cn Fn) (h : (fun r c2 I2 F2 => (r = 1 ∧ cn 58 < 60 ∧ c2 = va_up cn 58 (cn 58 + 1) ∧ I2 = In ∧ F2 = (va_up (va_up (va_up Fn 59 (upd (Fn 59) (cn 58) v0)) 60 (upd (Fn 60) (cn 58) v1)) 61 (upd (Fn 61) (cn 58) v2))) ∨ (r = 0 ∧ c2 = cn ∧ I2 = In ∧ F2 = Fn)) r c2 I2 F2) : IM c2 F2 := by
  have hb := hI.b
  rcases h with ⟨h1, h2, rfl, rfl, rfl⟩ | ⟨h1, rfl, rfl, rfl⟩
  · exact IM.fr (In := fun _ => (0 : Int32)) (hI.cb (c2 := va_up cn 58 (cn 58 + 1)) ⟨(by show cn 0 ≤ 399; omega), (by show cn 1 ≤ 10; omega), (by show cn 2 ≤ 60; omega), (by show cn 46 ≤ 3; omega), (by show cn 57 ≤ 20; omega), (by show cn 58 + 1 ≤ 60; omega), (by show cn 62 ≤ 10; omega), (by show cn 63 ≤ 40; omega), (by show cn 75 ≤ 40; omega), (by show cn 83 ≤ 10; omega)⟩ rfl rfl rfl rfl) (Fr.f 61 (Fr.f 60 (Fr.f 59 Fr.rf))) (by decide) (by decide)
  · exact hI
theorem im_sample {cn c2 : Nat → Nat} {In I2 : Nat → Int32} {Fn F2 : Nat → Nat → Int32} {r : Int32} {v0 v1 : Int32} (hI : IM cn Fn) (h : (fun r c2 I2 F2 => (∃ k x : Nat, k < 10 ∧ x < 12 ∧ Fn 79 k = nI x ∧ r = nI (x + 1) ∧ c2 = cn ∧ I2 = In ∧ F2 = va_up (va_up Fn 80 (upd (Fn 80) (12 * k + x) v1)) 79 (upd (Fn 79) k (nI (x + 1)))) ∨ (r = -1 ∧ c2 = cn ∧ I2 = In ∧ F2 = Fn)) r c2 I2 F2) : IM c2 F2 := by
  rcases h with ⟨k, x, h1, h2, h3, h4, rfl, rfl, rfl⟩ | ⟨h1, rfl, rfl, rfl⟩
  · exact (IM.fr (In := fun _ => (0 : Int32)) hI (Fr.f 80 Fr.rf) (by decide) (by decide)).u79 (by omega)
  · exact hI

