/-- what stands of the class behind every call -/
def IX (ad : Nat → Nat → Nat) (cn : Nat → Nat) (Fn : Nat → Nat → Int32) : Prop := CBX cn ∧ ((∀ k : Nat, k < cn 10 → ad 3 k < cn 6) ∧ ad 4 0 < cn 6 ∧ ad 4 1 < cn 6) ∧ (∀ k : Nat, k < cn 6 → ∃ n : Nat, n ≤ 12 ∧ Fn 198 k = nI n) ∧ (∀ k : Nat, k < cn 6 → (Fn 199 k).toInt ≤ 160) ∧ (∀ k : Nat, k < cn 11 → ∃ a b : Nat, a ≤ 399 ∧ b ≤ 399 ∧ Fn 126 k = nI a ∧ Fn 121 k = nI b) ∧ (∀ k : Nat, k < cn 12 → ∃ n : Nat, n ≤ 12 ∧ Fn 143 k = nI n) ∧ (∀ k : Nat, k < cn 10 → ∃ n : Nat, n ≤ 399 ∧ Fn 104 k = nI n)
def IMM (cn : Nat → Nat) (Fn : Nat → Nat → Int32) : Prop := IM cn Fn ∧ cn 18 ≤ 200
theorem IX.fr {lc li lf : List Nat} {ad : Nat → Nat → Nat} {cn c2 : Nat → Nat} {In I2 : Nat → Int32} {Fn F2 : Nat → Nat → Int32} (h : IX ad cn Fn) (f : Fr lc li lf cn In Fn c2 I2 F2) (b : CBX c2) (hc : 6 ∉ lc ∧ 10 ∉ lc ∧ 11 ∉ lc ∧ 12 ∉ lc) (hf : 104 ∉ lf ∧ 121 ∉ lf ∧ 126 ∉ lf ∧ 143 ∉ lf ∧ 198 ∉ lf ∧ 199 ∉ lf) : IX ad c2 F2 := by
  obtain ⟨-, ht, tc, sl, xf, sm, xe⟩ := h
  unfold IX
  rw [f.1 6 hc.1, f.1 10 hc.2.1, f.1 11 hc.2.2.1, f.1 12 hc.2.2.2, f.2.2 104 hf.1, f.2.2 121 hf.2.1, f.2.2 126 hf.2.2.1, f.2.2 143 hf.2.2.2.1, f.2.2 198 hf.2.2.2.2.1, f.2.2 199 hf.2.2.2.2.2]
  exact ⟨b, ht, tc, sl, xf, sm, xe⟩
theorem IX.frs {lf : List Nat} {ad : Nat → Nat → Nat} {cn c2 : Nat → Nat} {In I2 : Nat → Int32} {Fn F2 : Nat → Nat → Int32} (h : IX ad cn Fn) (f : Fr [] [] lf cn In Fn c2 I2 F2) (b : CBX c2) (hf : 104 ∉ lf ∧ 121 ∉ lf ∧ 126 ∉ lf ∧ 198 ∉ lf ∧ 199 ∉ lf) (sm : ∀ k : Nat, k < c2 12 → ∃ n : Nat, n ≤ 12 ∧ F2 143 k = nI n) : IX ad c2 F2 := by
  obtain ⟨-, ht, tc, sl, xf, -, xe⟩ := h
  unfold IX
  rw [f.1 6 List.not_mem_nil, f.1 10 List.not_mem_nil, f.1 11 List.not_mem_nil, f.2.2 104 hf.1, f.2.2 121 hf.2.1, f.2.2 126 hf.2.2.1, f.2.2 198 hf.2.2.2.1, f.2.2 199 hf.2.2.2.2]
  exact ⟨b, ht, tc, sl, xf, sm, xe⟩
theorem IX.cb {ad : Nat → Nat → Nat} {cn c2 : Nat → Nat} {Fn : Nat → Nat → Int32} (h : IX ad cn Fn) (b : CBX c2) (e6 : c2 6 = cn 6) (e10 : c2 10 = cn 10) (e11 : c2 11 = cn 11) (e12 : c2 12 = cn 12) : IX ad c2 Fn := by
  obtain ⟨-, ht, tc, sl, xf, sm, xe⟩ := h
  unfold IX
  rw [e6, e10, e11, e12]
  exact ⟨b, ht, tc, sl, xf, sm, xe⟩
theorem IX.ff {ad : Nat → Nat → Nat} {cn : Nat → Nat} {Fn F2 : Nat → Nat → Int32} (h : IX ad cn Fn) (f : ∀ k : Nat, k ∈ [104, 121, 126, 143, 198, 199] → F2 k = Fn k) : IX ad cn F2 := by
  obtain ⟨b, ht, tc, sl, xf, sm, xe⟩ := h
  unfold IX
  rw [f 104 (by decide), f 121 (by decide), f 126 (by decide), f 143 (by decide), f 198 (by decide), f 199 (by decide)]
  exact ⟨b, ht, tc, sl, xf, sm, xe⟩
theorem IX.ad {ad a2 : Nat → Nat → Nat} {cn : Nat → Nat} {Fn : Nat → Nat → Int32} (h : IX ad cn Fn) (f : ∀ k : Nat, a2 3 k = ad 3 k) (f0 : a2 4 0 = ad 4 0) (f1 : a2 4 1 = ad 4 1) : IX a2 cn Fn := by
  obtain ⟨b, ht, r⟩ := h
  refine ⟨b, ⟨fun k hk => ?_, ?_, ?_⟩, r⟩
  · rw [f]; exact ht.1 k hk
  · rw [f0]; exact ht.2.1
  · rw [f1]; exact ht.2.2
theorem nI_of0 {v : Int32} (h : 0 ≤ v.toInt) : v = nI v.toInt.toNat := by
  have b := Int32.toInt_lt v
  apply Int32.toInt_inj.mp
  rw [nI_toInt (by omega)]; omega
theorem ix_contract {ad a2 : Nat → Nat → Nat} {cn c2 : Nat → Nat} {In I2 : Nat → Int32} {Fn F2 : Nat → Nat → Int32} (h : IX ad cn Fn) (w : Fr [3, 6, 31, 32] [30, 33] [195, 196, 197, 198, 199, 301, 302, 303, 304, 305] cn In Fn c2 I2 F2 ∧ CBX c2 ∧ ((∀ k : Nat, k < c2 10 → a2 3 k < c2 6) ∧ a2 4 0 < c2 6 ∧ a2 4 1 < c2 6) ∧ (∀ k : Nat, k < c2 6 → ∃ n : Nat, n ≤ 12 ∧ F2 198 k = nI n) ∧ (∀ k : Nat, k < c2 6 → (F2 199 k).toInt ≤ 160) ∧ ∀ i k : Nat, i ∉ [3, 4, 5, 60, 61, 62, 63, 64] → a2 i k = ad i k) : IX a2 c2 F2 ∧ (∀ k : Nat, k ∉ [3, 6, 31, 32] → c2 k = cn k) ∧ ∀ k : Nat, k ∉ [195, 196, 197, 198, 199, 301, 302, 303, 304, 305] → F2 k = Fn k := by
  obtain ⟨f, b, ht, tc, sl, fa⟩ := w
  obtain ⟨-, -, -, -, xf, sm, xe⟩ := h
  refine ⟨⟨b, ht, tc, sl, ?_, ?_, ?_⟩, f.1, f.2.2⟩
  · rw [f.1 11 (by decide), f.2.2 121 (by decide), f.2.2 126 (by decide)]; exact xf
  · rw [f.1 12 (by decide), f.2.2 143 (by decide)]; exact sm
  · rw [f.1 10 (by decide), f.2.2 104 (by decide)]; exact xe
theorem ix_blend {ad a2 : Nat → Nat → Nat} {cn c2 : Nat → Nat} {In I2 : Nat → Int32} {Fn F2 : Nat → Nat → Int32} (h : IX ad cn Fn) (w : ad = a2 ∧ cn = c2 ∧ In = I2 ∧ ∀ k, k ∉ [7, 196, 197, 305] → F2 k = Fn k) : IX a2 c2 F2 ∧ (∀ k : Nat, k ∉ ([] : List Nat) → c2 k = cn k) ∧ ∀ k : Nat, k ∉ [7, 196, 197, 305] → F2 k = Fn k := by
  obtain ⟨rfl, rfl, rfl, w⟩ := w
  refine ⟨h.ff (fun k hk => w k ?_), fun _ _ => rfl, w⟩
  simp only [List.mem_cons, List.not_mem_nil, or_false] at hk ⊢
  omega
theorem ix_sewer {ad a2 : Nat → Nat → Nat} {cn c2 : Nat → Nat} {In I2 : Nat → Int32} {Fn F2 : Nat → Nat → Int32} {r : Int32} {v0 v1 : Int32} (h : IX ad cn Fn) (w : (r = (-1) ∧ ¬ (0 ≤ v0.toInt ∧ v0.toInt ≤ 99 ∧ 0 ≤ v1.toInt ∧ v1.toInt ≤ 99 ∧ cn 14 < 10) ∧ ad = a2 ∧ cn = c2 ∧ In = I2 ∧ Fn = F2) ∨ (r = nI (cn 14) ∧ (0 ≤ v0.toInt ∧ v0.toInt ≤ 99 ∧ 0 ≤ v1.toInt ∧ v1.toInt ≤ 99 ∧ cn 14 < 10) ∧ ∃ (q z c : Nat) (y : Int32), (cn 14 < c ∧ c ≤ 100) ∧ (adP ad 14 (cn 14) q 4 z) = a2 ∧ (va_up (va_up cn 14 ((cn 14) + 1)) 24 c) = c2 ∧ (va_up In 14 y) = I2 ∧ (va_up (va_up (va_up Fn 170 (upd (Fn 170) (cn 14) v0)) 171 (upd (Fn 171) (cn 14) v1)) 172 (upd (Fn 172) (cn 14) 0)) = F2)) : IX a2 c2 F2 ∧ (∀ k : Nat, k ∉ [14, 24] → c2 k = cn k) ∧ ∀ k : Nat, k ∉ [170, 171, 172] → F2 k = Fn k := by
  rcases w with ⟨-, -, rfl, rfl, rfl, rfl⟩ | ⟨-, hc, q, z, c, y, hu, rfl, rfl, rfl, rfl⟩
  · exact ⟨h, fun _ _ => rfl, fun _ _ => rfl⟩
  · have hb := h.1
    refine ⟨IX.ad (ad := ad) (IX.ff (Fn := Fn) (IX.cb h ⟨(by show cn 0 ≤ 399; omega), (by show cn 1 ≤ 3; omega), (by show cn 2 ≤ 20; omega), (by show cn 3 ≤ 200; omega), (by show cn 4 ≤ 8; omega), (by show cn 5 ≤ 40; omega), (by show cn 10 ≤ 10; omega), (by show cn 11 ≤ 60; omega), (by show cn 12 ≤ 10; omega), (by show cn 13 ≤ 40; omega), (by show (cn 14 + 1) ≤ 10; omega), (by show cn 15 ≤ 60; omega), (by show cn 10 ≤ cn 20; omega), (by show cn 11 ≤ cn 21; omega), (by show cn 12 ≤ cn 22; omega), (by show cn 13 ≤ cn 23; omega), (by show (cn 14 + 1) ≤ (c); omega), (by show cn 15 ≤ cn 25; omega), (by show cn 20 ≤ 100; omega), (by show cn 21 ≤ 100; omega), (by show cn 22 ≤ 100; omega), (by show cn 23 ≤ 100; omega), (by show (c) ≤ 100; omega), (by show cn 25 ≤ 100; omega)⟩ rfl rfl rfl rfl) (fun k hk => ?_)) (fun k => ?_) ?_ ?_, (fun k hk => by simp only [List.mem_cons, List.not_mem_nil, or_false, not_or] at hk; simp [va_up, hk]), (fun k hk => by simp only [List.mem_cons, List.not_mem_nil, or_false, not_or] at hk; simp [va_up, hk])⟩
    · simp only [List.mem_cons, List.not_mem_nil, or_false] at hk
      rcases hk with rfl | rfl | rfl | rfl | rfl | rfl <;> rfl
    · simp [adP]
    · simp [adP]
    · simp [adP]
theorem ix_moves {ad a2 : Nat → Nat → Nat} {cn c2 : Nat → Nat} {In I2 : Nat → Int32} {Fn F2 : Nat → Nat → Int32} {r : Int32} {v0 v1 v2 : Int32} (h : IX ad cn Fn) (w : (r = 0 ∧ ad = a2 ∧ cn = c2 ∧ In = I2 ∧ Fn = F2) ∨ (r = 1 ∧ ∃ (q z c : Nat) (y : Int32), (0 ≤ v0.toInt ∧ v0.toInt < (cn 2 : Int) ∧ -1 ≤ v1.toInt ∧ v1.toInt < (cn 10 : Int) ∧ 0 ≤ v2.toInt ∧ v2.toInt ≤ (cn 0 : Int) ∧ cn 15 < 60) ∧ (cn 15 < c ∧ c ≤ 100) ∧ (adP ad 15 (cn 15) q 5 z) = a2 ∧ (va_up (va_up cn 15 ((cn 15) + 1)) 25 c) = c2 ∧ (va_up In 15 y) = I2 ∧ (va_up (va_up (va_up Fn 180 (upd (Fn 180) (cn 15) v0)) 181 (upd (Fn 181) (cn 15) v1)) 182 (upd (Fn 182) (cn 15) v2)) = F2)) : IX a2 c2 F2 ∧ (∀ k : Nat, k ∉ [15, 25] → c2 k = cn k) ∧ ∀ k : Nat, k ∉ [180, 181, 182] → F2 k = Fn k := by
  rcases w with ⟨-, rfl, rfl, rfl, rfl⟩ | ⟨-, q, z, c, y, hc, hu, rfl, rfl, rfl, rfl⟩
  · exact ⟨h, fun _ _ => rfl, fun _ _ => rfl⟩
  · have hb := h.1
    refine ⟨IX.ad (ad := ad) (IX.ff (Fn := Fn) (IX.cb h ⟨(by show cn 0 ≤ 399; omega), (by show cn 1 ≤ 3; omega), (by show cn 2 ≤ 20; omega), (by show cn 3 ≤ 200; omega), (by show cn 4 ≤ 8; omega), (by show cn 5 ≤ 40; omega), (by show cn 10 ≤ 10; omega), (by show cn 11 ≤ 60; omega), (by show cn 12 ≤ 10; omega), (by show cn 13 ≤ 40; omega), (by show cn 14 ≤ 10; omega), (by show (cn 15 + 1) ≤ 60; omega), (by show cn 10 ≤ cn 20; omega), (by show cn 11 ≤ cn 21; omega), (by show cn 12 ≤ cn 22; omega), (by show cn 13 ≤ cn 23; omega), (by show cn 14 ≤ cn 24; omega), (by show (cn 15 + 1) ≤ (c); omega), (by show cn 20 ≤ 100; omega), (by show cn 21 ≤ 100; omega), (by show cn 22 ≤ 100; omega), (by show cn 23 ≤ 100; omega), (by show cn 24 ≤ 100; omega), (by show (c) ≤ 100; omega)⟩ rfl rfl rfl rfl) (fun k hk => ?_)) (fun k => ?_) ?_ ?_, (fun k hk => by simp only [List.mem_cons, List.not_mem_nil, or_false, not_or] at hk; simp [va_up, hk]), (fun k hk => by simp only [List.mem_cons, List.not_mem_nil, or_false, not_or] at hk; simp [va_up, hk])⟩
    · simp only [List.mem_cons, List.not_mem_nil, or_false] at hk
      rcases hk with rfl | rfl | rfl | rfl | rfl | rfl <;> rfl
    · simp [adP]
    · simp [adP]
    · simp [adP]
theorem ix_proof {ad a2 : Nat → Nat → Nat} {cn c2 : Nat → Nat} {In I2 : Nat → Int32} {Fn F2 : Nat → Nat → Int32} {r : Int32} {v0 v1 v2 v3 : Int32} (h : IX ad cn Fn) (w : (r = (-1) ∧ ad = a2 ∧ cn = c2 ∧ In = I2 ∧ Fn = F2) ∨ (r = nI (cn 13) ∧ ∃ (q z c : Nat) (y : Int32) (m : Nat), (v0.toInt = (m : Int) ∧ m < cn 12 ∧ 0 ≤ v1.toInt ∧ v1.toInt < v2.toInt ∧ v2.toInt ≤ (Fn 146 m).toInt ∧ 0 ≤ v3.toInt ∧ v3.toInt ≤ 9 ∧ cn 13 < 40) ∧ (cn 13 < c ∧ c ≤ 100) ∧ (adP ad 13 (cn 13) q 3 z) = a2 ∧ (va_up (va_up cn 13 ((cn 13) + 1)) 23 c) = c2 ∧ (va_up In 13 y) = I2 ∧ (va_up (va_up (va_up (va_up (va_up Fn 160 (upd (Fn 160) (cn 13) v0)) 161 (upd (Fn 161) (cn 13) v1)) 162 (upd (Fn 162) (cn 13) v2)) 163 (upd (Fn 163) (cn 13) v3)) 164 (upd (Fn 164) (cn 13) (nI (cn 0)))) = F2)) : IX a2 c2 F2 ∧ (∀ k : Nat, k ∉ [13, 23] → c2 k = cn k) ∧ ∀ k : Nat, k ∉ [160, 161, 162, 163, 164] → F2 k = Fn k := by
  rcases w with ⟨-, rfl, rfl, rfl, rfl⟩ | ⟨-, q, z, c, y, m, hc, hu, rfl, rfl, rfl, rfl⟩
  · exact ⟨h, fun _ _ => rfl, fun _ _ => rfl⟩
  · have hb := h.1
    refine ⟨IX.ad (ad := ad) (IX.ff (Fn := Fn) (IX.cb h ⟨(by show cn 0 ≤ 399; omega), (by show cn 1 ≤ 3; omega), (by show cn 2 ≤ 20; omega), (by show cn 3 ≤ 200; omega), (by show cn 4 ≤ 8; omega), (by show cn 5 ≤ 40; omega), (by show cn 10 ≤ 10; omega), (by show cn 11 ≤ 60; omega), (by show cn 12 ≤ 10; omega), (by show (cn 13 + 1) ≤ 40; omega), (by show cn 14 ≤ 10; omega), (by show cn 15 ≤ 60; omega), (by show cn 10 ≤ cn 20; omega), (by show cn 11 ≤ cn 21; omega), (by show cn 12 ≤ cn 22; omega), (by show (cn 13 + 1) ≤ (c); omega), (by show cn 14 ≤ cn 24; omega), (by show cn 15 ≤ cn 25; omega), (by show cn 20 ≤ 100; omega), (by show cn 21 ≤ 100; omega), (by show cn 22 ≤ 100; omega), (by show (c) ≤ 100; omega), (by show cn 24 ≤ 100; omega), (by show cn 25 ≤ 100; omega)⟩ rfl rfl rfl rfl) (fun k hk => ?_)) (fun k => ?_) ?_ ?_, (fun k hk => by simp only [List.mem_cons, List.not_mem_nil, or_false, not_or] at hk; simp [va_up, hk]), (fun k hk => by simp only [List.mem_cons, List.not_mem_nil, or_false, not_or] at hk; simp [va_up, hk])⟩
    · simp only [List.mem_cons, List.not_mem_nil, or_false] at hk
      rcases hk with rfl | rfl | rfl | rfl | rfl | rfl <;> rfl
    · simp [adP]
    · simp [adP]
    · simp [adP]
theorem ix_kitchen {ad a2 : Nat → Nat → Nat} {cn c2 : Nat → Nat} {In I2 : Nat → Int32} {Fn F2 : Nat → Nat → Int32} {r : Int32} {v0 v1 v2 v3 : Int32} (h : IX ad cn Fn) (w : (r = (-1) ∧ ¬ (0 ≤ v0.toInt ∧ v0.toInt ≤ 99 ∧ 0 ≤ v1.toInt ∧ v1.toInt ≤ 99 ∧ 0 ≤ v2.toInt ∧ v2.toInt ≤ 50 ∧ 20 ≤ v3.toInt ∧ v3.toInt ≤ 400 ∧ cn 10 < 10) ∧ ad = a2 ∧ cn = c2 ∧ In = I2 ∧ Fn = F2) ∨ (r = nI (cn 10) ∧ (0 ≤ v0.toInt ∧ v0.toInt ≤ 99 ∧ 0 ≤ v1.toInt ∧ v1.toInt ≤ 99 ∧ 0 ≤ v2.toInt ∧ v2.toInt ≤ 50 ∧ 20 ≤ v3.toInt ∧ v3.toInt ≤ 400 ∧ cn 10 < 10) ∧ ∃ (q qt r0 r1 r2 r3 r4 z c : Nat) (y : Int32), (cn 10 < c ∧ c ≤ 100) ∧ (adO (adO (adO (adO (adO (adO (adO (adO (adO ad 10 (cn 10) q) 3 (cn 10) (cn 6)) 5 (cn 6) qt) 60 (cn 6) r0) 61 (cn 6) r1) 62 (cn 6) r2) 63 (cn 6) r3) 64 (cn 6) r4) 2 0 z) = a2 ∧ (va_up (va_up (va_up cn 10 ((cn 10) + 1)) 20 c) 6 (cn 6 + 1)) = c2 ∧ (va_up In 10 y) = I2 ∧ (va_up (va_up (va_up (va_up (va_up (va_up (va_up (va_up (va_up (va_up (va_up (va_up (va_up (va_up (va_up (va_up (va_up (va_up (va_up (va_up Fn 100 (upd (Fn 100) (cn 10) v0)) 101 (upd (Fn 101) (cn 10) v1)) 102 (upd (Fn 102) (cn 10) v2)) 103 (upd (Fn 103) (cn 10) v3)) 104 (upd (Fn 104) (cn 10) 0)) 105 (upd (Fn 105) (cn 10) 0)) 106 (upd (Fn 106) (cn 10) 0)) 107 (upd (Fn 107) (cn 10) 0)) 108 (upd (Fn 108) (cn 10) 0)) 109 (upd (Fn 109) (cn 10) 0)) 195 (upd (Fn 195) (cn 6) 0)) 196 (upd (Fn 196) (cn 6) 0)) 197 (upd (Fn 197) (cn 6) 0)) 198 (upd (Fn 198) (cn 6) 0)) 199 (upd (Fn 199) (cn 6) 0)) 301 (flat (Fn 301) 200 (cn 6) (fun _ => 0))) 302 (flat (Fn 302) 12 (cn 6) (fun _ => 0))) 303 (flat (Fn 303) 12 (cn 6) (fun _ => 0))) 304 (flat (Fn 304) 12 (cn 6) (fun _ => 0))) 305 (flat (Fn 305) 32 (cn 6) (fun _ => 0))) = F2)) : IX a2 c2 F2 ∧ (∀ k : Nat, k ∉ [10, 20, 6] → c2 k = cn k) ∧ ∀ k : Nat, k ∉ [100, 101, 102, 103, 104, 105, 106, 107, 108, 109, 195, 196, 197, 198, 199, 301, 302, 303, 304, 305] → F2 k = Fn k := by
  rcases w with ⟨-, -, rfl, rfl, rfl, rfl⟩ | ⟨-, hc, q, qt, r0, r1, r2, r3, r4, z, c, y, hu, rfl, rfl, rfl, rfl⟩
  · exact ⟨h, fun _ _ => rfl, fun _ _ => rfl⟩
  · have hb := h.1
    obtain ⟨-, ht, tc, sl, xf, sm, xe⟩ := h
    refine ⟨⟨⟨(by show cn 0 ≤ 399; omega), (by show cn 1 ≤ 3; omega), (by show cn 2 ≤ 20; omega), (by show cn 3 ≤ 200; omega), (by show cn 4 ≤ 8; omega), (by show cn 5 ≤ 40; omega), (by show (cn 10 + 1) ≤ 10; omega), (by show cn 11 ≤ 60; omega), (by show cn 12 ≤ 10; omega), (by show cn 13 ≤ 40; omega), (by show cn 14 ≤ 10; omega), (by show cn 15 ≤ 60; omega), (by show (cn 10 + 1) ≤ (c); omega), (by show cn 11 ≤ cn 21; omega), (by show cn 12 ≤ cn 22; omega), (by show cn 13 ≤ cn 23; omega), (by show cn 14 ≤ cn 24; omega), (by show cn 15 ≤ cn 25; omega), (by show (c) ≤ 100; omega), (by show cn 21 ≤ 100; omega), (by show cn 22 ≤ 100; omega), (by show cn 23 ≤ 100; omega), (by show cn 24 ≤ 100; omega), (by show cn 25 ≤ 100; omega)⟩, ⟨fun k hk => ?_, ?_, ?_⟩, fun k hk => ?_, fun k hk => ?_, xf, sm, fun k hk => ?_⟩, (fun k hk => by simp only [List.mem_cons, List.not_mem_nil, or_false, not_or] at hk; simp [va_up, hk]), (fun k hk => by simp only [List.mem_cons, List.not_mem_nil, or_false, not_or] at hk; simp [va_up, hk])⟩
    · have hk : k < cn 10 + 1 := hk
      show _ < cn 6 + 1
      by_cases e : k = cn 10
      · subst e; simp [adO]
      · have := ht.1 k (by omega); simp [adO, e]; omega
    · have := ht.2.1; show _ < cn 6 + 1; simp [adO]; omega
    · have := ht.2.2; show _ < cn 6 + 1; simp [adO]; omega
    · have hk : k < cn 6 + 1 := hk
      show ∃ n : Nat, n ≤ 12 ∧ upd (Fn 198) (cn 6) 0 k = nI n
      by_cases e : k = cn 6
      · subst e; exact ⟨0, by omega, by rw [upd_self]; rfl⟩
      · rw [upd_nq e]; exact tc k (by omega)
    · have hk : k < cn 6 + 1 := hk
      show (upd (Fn 199) (cn 6) 0 k).toInt ≤ 160
      by_cases e : k = cn 6
      · subst e; rw [upd_self]; decide
      · rw [upd_nq e]; exact sl k (by omega)
    · have hk : k < cn 10 + 1 := hk
      show ∃ n : Nat, n ≤ 399 ∧ upd (Fn 104) (cn 10) 0 k = nI n
      by_cases e : k = cn 10
      · subst e; exact ⟨0, by omega, by rw [upd_self]; rfl⟩
      · rw [upd_nq e]; exact xe k (by omega)
theorem ix_Efetch {ad a2 : Nat → Nat → Nat} {cn c2 : Nat → Nat} {In I2 : Nat → Int32} {Fn F2 : Nat → Nat → Int32} {r : Int32} {v0 v1 v2 v3 v4 v5 : Int32} (h : IX ad cn Fn) (w : (r = -1 ∧ (¬ ∃ m : Nat, v0.toInt = (m : Int) ∧ m < cn 10 ∧ (Fn 104 m).toInt ≤ v1.toInt ∧ v1.toInt ≤ (cn 0 : Int) ∧ v1.toInt ≤ v5.toInt ∧ v5.toInt ≤ 399 ∧ 0 ≤ v2.toInt ∧ v2.toInt ≤ 400 ∧ 0 ≤ v3.toInt ∧ v3.toInt ≤ 1000 ∧ 0 ≤ v4.toInt ∧ v4.toInt ≤ 1000 ∧ cn 11 < 60) ∧ ad = a2 ∧ cn = c2 ∧ In = I2 ∧ Fn = F2) ∨ (r = nI (cn 11) ∧ ∃ (q z c : Nat) (y : Int32) (m : Nat), (v0.toInt = (m : Int) ∧ m < cn 10 ∧ (Fn 104 m).toInt ≤ v1.toInt ∧ v1.toInt ≤ (cn 0 : Int) ∧ v1.toInt ≤ v5.toInt ∧ v5.toInt ≤ 399 ∧ 0 ≤ v2.toInt ∧ v2.toInt ≤ 400 ∧ 0 ≤ v3.toInt ∧ v3.toInt ≤ 1000 ∧ 0 ≤ v4.toInt ∧ v4.toInt ≤ 1000 ∧ cn 11 < 60) ∧ (cn 11 < c ∧ c ≤ 100) ∧ (adP ad 11 (cn 11) q 1 z) = a2 ∧ (va_up (va_up cn 11 ((cn 11) + 1)) 21 c) = c2 ∧ (va_up In 11 y) = I2 ∧ (va_up (va_up (va_up (va_up (va_up (va_up (va_up (va_up (va_up (va_up (va_up (va_up (va_up Fn 104 (upd (Fn 104) m v1)) 106 (upd (Fn 106) m (Fn 106 m + v2))) 29 (putM (Fn 29) 400 v1 (atM (Fn 29) 400 v1 + v2))) 120 (upd ((va_up (va_up (va_up Fn 104 (upd (Fn 104) m v1)) 106 (upd (Fn 106) m (Fn 106 m + v2))) 29 (putM (Fn 29) 400 v1 (atM (Fn 29) 400 v1 + v2))) 120) (cn 11) v0)) 121 (upd ((va_up (va_up (va_up Fn 104 (upd (Fn 104) m v1)) 106 (upd (Fn 106) m (Fn 106 m + v2))) 29 (putM (Fn 29) 400 v1 (atM (Fn 29) 400 v1 + v2))) 121) (cn 11) v1)) 122 (upd ((va_up (va_up (va_up Fn 104 (upd (Fn 104) m v1)) 106 (upd (Fn 106) m (Fn 106 m + v2))) 29 (putM (Fn 29) 400 v1 (atM (Fn 29) 400 v1 + v2))) 122) (cn 11) v2)) 123 (upd ((va_up (va_up (va_up Fn 104 (upd (Fn 104) m v1)) 106 (upd (Fn 106) m (Fn 106 m + v2))) 29 (putM (Fn 29) 400 v1 (atM (Fn 29) 400 v1 + v2))) 123) (cn 11) v3)) 124 (upd ((va_up (va_up (va_up Fn 104 (upd (Fn 104) m v1)) 106 (upd (Fn 106) m (Fn 106 m + v2))) 29 (putM (Fn 29) 400 v1 (atM (Fn 29) 400 v1 + v2))) 124) (cn 11) v4)) 125 (upd ((va_up (va_up (va_up Fn 104 (upd (Fn 104) m v1)) 106 (upd (Fn 106) m (Fn 106 m + v2))) 29 (putM (Fn 29) 400 v1 (atM (Fn 29) 400 v1 + v2))) 125) (cn 11) v5)) 126 (upd ((va_up (va_up (va_up Fn 104 (upd (Fn 104) m v1)) 106 (upd (Fn 106) m (Fn 106 m + v2))) 29 (putM (Fn 29) 400 v1 (atM (Fn 29) 400 v1 + v2))) 126) (cn 11) (Fn 104 m))) 127 (upd ((va_up (va_up (va_up Fn 104 (upd (Fn 104) m v1)) 106 (upd (Fn 106) m (Fn 106 m + v2))) 29 (putM (Fn 29) 400 v1 (atM (Fn 29) 400 v1 + v2))) 127) (cn 11) (Fn 106 m))) 128 (upd ((va_up (va_up (va_up Fn 104 (upd (Fn 104) m v1)) 106 (upd (Fn 106) m (Fn 106 m + v2))) 29 (putM (Fn 29) 400 v1 (atM (Fn 29) 400 v1 + v2))) 128) (cn 11) (if 0 < ((if (Fn 102 m * (v1 - Fn 104 m)) < Fn 103 m then Fn 102 m * (v1 - Fn 104 m) else Fn 103 m) - v2) - (if (Fn 102 m * (v1 - Fn 104 m)) < Fn 103 m then Fn 102 m * (v1 - Fn 104 m) else Fn 103 m) / 10 then ((if (Fn 102 m * (v1 - Fn 104 m)) < Fn 103 m then Fn 102 m * (v1 - Fn 104 m) else Fn 103 m) - v2) - (if (Fn 102 m * (v1 - Fn 104 m)) < Fn 103 m then Fn 102 m * (v1 - Fn 104 m) else Fn 103 m) / 10 else 0))) 129 (upd ((va_up (va_up (va_up Fn 104 (upd (Fn 104) m v1)) 106 (upd (Fn 106) m (Fn 106 m + v2))) 29 (putM (Fn 29) 400 v1 (atM (Fn 29) 400 v1 + v2))) 129) (cn 11) 0)) = F2)) : IX a2 c2 F2 ∧ (∀ k : Nat, k ∉ [11, 21] → c2 k = cn k) ∧ ∀ k : Nat, k ∉ [104, 106, 29, 120, 121, 122, 123, 124, 125, 126, 127, 128, 129] → F2 k = Fn k := by
  rcases w with ⟨-, -, rfl, rfl, rfl, rfl⟩ | ⟨-, q, z, c, y, m, hc, hu, rfl, rfl, rfl, rfl⟩
  · exact ⟨h, fun _ _ => rfl, fun _ _ => rfl⟩
  · have hb := h.1
    obtain ⟨-, ht, tc, sl, xf, sm, xe⟩ := h
    obtain ⟨n9, hn9, en9⟩ := xe m (by omega)
    have t9 : (Fn 104 m).toInt = (n9 : Int) := by rw [en9]; exact nI_toInt (by omega)
    have ev : v1 = nI v1.toInt.toNat := nI_of0 (by omega)
    refine ⟨⟨⟨(by show cn 0 ≤ 399; omega), (by show cn 1 ≤ 3; omega), (by show cn 2 ≤ 20; omega), (by show cn 3 ≤ 200; omega), (by show cn 4 ≤ 8; omega), (by show cn 5 ≤ 40; omega), (by show cn 10 ≤ 10; omega), (by show (cn 11 + 1) ≤ 60; omega), (by show cn 12 ≤ 10; omega), (by show cn 13 ≤ 40; omega), (by show cn 14 ≤ 10; omega), (by show cn 15 ≤ 60; omega), (by show cn 10 ≤ cn 20; omega), (by show (cn 11 + 1) ≤ (c); omega), (by show cn 12 ≤ cn 22; omega), (by show cn 13 ≤ cn 23; omega), (by show cn 14 ≤ cn 24; omega), (by show cn 15 ≤ cn 25; omega), (by show cn 20 ≤ 100; omega), (by show (c) ≤ 100; omega), (by show cn 22 ≤ 100; omega), (by show cn 23 ≤ 100; omega), (by show cn 24 ≤ 100; omega), (by show cn 25 ≤ 100; omega)⟩, ⟨fun k hk => ?_, ?_, ?_⟩, tc, sl, fun k hk => ?_, sm, fun k hk => ?_⟩, (fun k hk => by simp only [List.mem_cons, List.not_mem_nil, or_false, not_or] at hk; simp [va_up, hk]), (fun k hk => by simp only [List.mem_cons, List.not_mem_nil, or_false, not_or] at hk; simp [va_up, hk])⟩
    · have := ht.1 k hk; show (_ : Nat) < cn 6; simpa [adP] using this
    · show (_ : Nat) < cn 6; simpa [adP] using ht.2.1
    · show (_ : Nat) < cn 6; simpa [adP] using ht.2.2
    · have hk : k < cn 11 + 1 := hk
      show ∃ a b : Nat, a ≤ 399 ∧ b ≤ 399 ∧ upd (Fn 126) (cn 11) (Fn 104 m) k = nI a ∧ upd (Fn 121) (cn 11) v1 k = nI b
      by_cases e : k = cn 11
      · subst e; rw [upd_self, upd_self]; exact ⟨n9, v1.toInt.toNat, hn9, by omega, en9, ev⟩
      · rw [upd_nq e, upd_nq e]; exact xf k (by omega)
    · show ∃ n : Nat, n ≤ 399 ∧ upd (Fn 104) m v1 k = nI n
      by_cases e : k = m
      · subst e; exact ⟨v1.toInt.toNat, by omega, by rw [upd_self]; exact ev⟩
      · rw [upd_nq e]; exact xe k hk
theorem ix_batch {ad a2 : Nat → Nat → Nat} {cn c2 : Nat → Nat} {In I2 : Nat → Int32} {Fn F2 : Nat → Nat → Int32} {r : Int32} (h : IX ad cn Fn) (w : ∃ (Fb : Nat → Nat → Int32), (∀ k, k ∉ [7, 129, 196, 197, 305] → Fb k = Fn k) ∧ ((ad = a2 ∧ cn = c2 ∧ In = I2 ∧ Fb = F2) ∨ (r = nI (cn 12) ∧ cn 12 < 10 ∧ ∃ (q qs z c : Nat) (y x1 x2 x4 x5 x6 : Int32), (cn 12 < c ∧ c ≤ 100) ∧ (adO (adO (adO ad 12 (cn 12) q) 1 (cn 12) qs) 2 2 z) = a2 ∧ (va_up (va_up cn 12 ((cn 12) + 1)) 22 c) = c2 ∧ (va_up In 12 y) = I2 ∧ (va_up (va_up (va_up (va_up (va_up (va_up (va_up (va_up (va_up Fb 29 (putM (Fb 29) 400 (nI (cn 0)) (atM (Fb 29) 400 (nI (cn 0)) + -x6))) 141 (upd ((va_up Fb 29 (putM (Fb 29) 400 (nI (cn 0)) (atM (Fb 29) 400 (nI (cn 0)) + -x6))) 141) (cn 12) x1)) 142 (upd ((va_up Fb 29 (putM (Fb 29) 400 (nI (cn 0)) (atM (Fb 29) 400 (nI (cn 0)) + -x6))) 142) (cn 12) x2)) 143 (upd ((va_up Fb 29 (putM (Fb 29) 400 (nI (cn 0)) (atM (Fb 29) 400 (nI (cn 0)) + -x6))) 143) (cn 12) 0)) 144 (upd ((va_up Fb 29 (putM (Fb 29) 400 (nI (cn 0)) (atM (Fb 29) 400 (nI (cn 0)) + -x6))) 144) (cn 12) x4)) 145 (upd ((va_up Fb 29 (putM (Fb 29) 400 (nI (cn 0)) (atM (Fb 29) 400 (nI (cn 0)) + -x6))) 145) (cn 12) x5)) 146 (upd ((va_up Fb 29 (putM (Fb 29) 400 (nI (cn 0)) (atM (Fb 29) 400 (nI (cn 0)) + -x6))) 146) (cn 12) x6)) 147 (upd ((va_up Fb 29 (putM (Fb 29) 400 (nI (cn 0)) (atM (Fb 29) 400 (nI (cn 0)) + -x6))) 147) (cn 12) (nI (cn 0)))) 150 (flat ((va_up Fb 29 (putM (Fb 29) 400 (nI (cn 0)) (atM (Fb 29) 400 (nI (cn 0)) + -x6))) 150) 12 (cn 12) (fun _ => 0))) = F2))) : IX a2 c2 F2 ∧ (∀ k : Nat, k ∉ [12, 22] → c2 k = cn k) ∧ ∀ k : Nat, k ∉ [7, 129, 196, 197, 305, 29, 141, 142, 143, 144, 145, 146, 147, 150] → F2 k = Fn k := by
  obtain ⟨Fb, hF, w⟩ := w
  have h := h.ff (F2 := Fb) (fun k hk => hF k (by simp only [List.mem_cons, List.not_mem_nil, or_false] at hk ⊢; omega))
  rcases w with ⟨rfl, rfl, rfl, rfl⟩ | ⟨-, hc, q, qs, z, c, y, x1, x2, x4, x5, x6, hu, rfl, rfl, rfl, rfl⟩
  · exact ⟨h, fun _ _ => rfl, fun k hk => hF k (fun q => hk (by simp only [List.mem_cons, List.not_mem_nil, or_false] at q ⊢; omega))⟩
  · have hb := h.1
    obtain ⟨-, ht, tc, sl, xf, sm, xe⟩ := h
    refine ⟨⟨⟨(by show cn 0 ≤ 399; omega), (by show cn 1 ≤ 3; omega), (by show cn 2 ≤ 20; omega), (by show cn 3 ≤ 200; omega), (by show cn 4 ≤ 8; omega), (by show cn 5 ≤ 40; omega), (by show cn 10 ≤ 10; omega), (by show cn 11 ≤ 60; omega), (by show (cn 12 + 1) ≤ 10; omega), (by show cn 13 ≤ 40; omega), (by show cn 14 ≤ 10; omega), (by show cn 15 ≤ 60; omega), (by show cn 10 ≤ cn 20; omega), (by show cn 11 ≤ cn 21; omega), (by show (cn 12 + 1) ≤ (c); omega), (by show cn 13 ≤ cn 23; omega), (by show cn 14 ≤ cn 24; omega), (by show cn 15 ≤ cn 25; omega), (by show cn 20 ≤ 100; omega), (by show cn 21 ≤ 100; omega), (by show (c) ≤ 100; omega), (by show cn 23 ≤ 100; omega), (by show cn 24 ≤ 100; omega), (by show cn 25 ≤ 100; omega)⟩, ⟨fun k hk => ?_, ?_, ?_⟩, tc, sl, xf, fun k hk => ?_, xe⟩, (fun k hk => by simp only [List.mem_cons, List.not_mem_nil, or_false, not_or] at hk; simp [va_up, hk]), (fun k hk => (by simp only [List.mem_cons, List.not_mem_nil, or_false, not_or] at hk; simp [va_up, hk] : _ = Fb k).trans (hF k (fun q => hk (by simp only [List.mem_cons, List.not_mem_nil, or_false] at q ⊢; omega))))⟩
    · have := ht.1 k hk; show (_ : Nat) < cn 6; simpa [adO] using this
    · show (_ : Nat) < cn 6; simpa [adO] using ht.2.1
    · show (_ : Nat) < cn 6; simpa [adO] using ht.2.2
    · have hk : k < cn 12 + 1 := hk
      show ∃ n : Nat, n ≤ 12 ∧ upd (Fb 143) (cn 12) 0 k = nI n
      by_cases e : k = cn 12
      · subst e; exact ⟨0, by omega, by rw [upd_self]; rfl⟩
      · rw [upd_nq e]; exact sm k (by omega)
theorem ix_start (u : Nat → Nat) : IX (adS u) cnS FnS := by
  refine ⟨⟨(by decide), (by decide), (by decide), (by decide), (by decide), (by decide), (by decide), (by decide), (by decide), (by decide), (by decide), (by decide), (by decide), (by decide), (by decide), (by decide), (by decide), (by decide), (by decide), (by decide), (by decide), (by decide), (by decide), (by decide)⟩, ⟨fun k hk => absurd hk (Nat.not_lt_zero k), (show 0 < 2 by decide), (show 1 < 2 by decide)⟩, fun k hk => ⟨0, by omega, rfl⟩, fun k hk => (by decide : (0 : Int32).toInt ≤ 160), fun k hk => absurd hk (Nat.not_lt_zero k), fun k hk => absurd hk (Nat.not_lt_zero k), fun k hk => absurd hk (Nat.not_lt_zero k)⟩
def R_law : String := "OilHomeLaw"
def lw_P (b : Addr) (xs : List Int32) (args : Array Value) (s : State) : Prop := args = #[.ref b] ∧ s.IntsAt b xs ∧ xs.length ≤ 3584 ∧ (Jvm.Cond.and given_1 narrow_1).before args s = true
def lw_Q (_ : Array Value) (s : State) (o : Outcome) (t : State) : Prop := o = .returned (some (.int 1)) ∧ Framed s o t [] 600000 7302250
def lw_Z (below : List Frame) (a : Array Value) (s : State) : State → Prop := fun t => ∃ o, t.status = .running ∧ Ended t below o ∧ lw_Q a s o t
theorem lw_ret {p : Program} {l : Launch} {e : Env} {s : State} {m : MethodId} {below : List Frame} {meth : Method} {c : Code} {b : Nat} (hx : p.tables.exec = Jvm.exec) (hb : c.code = code) (hr : meth.sig.returnType = ret) (hlocks : meth.locks = false) {pc : Nat} {H : Heap} {ls : Array Slot} (hdg : decode code pc = .ok (.ireturn, 1)) : W p l e room_1 s m #[Value.ref b] below meth c H [] 600000 7302250 (lw_Z below #[Value.ref b] s) (F0 m pc ls [.int 1]) := by
  intro T hT X
  obtain ⟨fs, hret, hrun, hended, hW, hframe⟩ := X.leave (v := some (.int 1)) (hlocks := hlocks) (fun h => by rw [hr] at h; cases h)
  have hmeth' : T.vm.method? m = some meth := X.method'
  refine ⟨T.setFrames fs, ?_, .returned (some (.int 1)), hrun, hended, rfl, ⟨_, rfl⟩, hW, hframe⟩
  jvm_step X.here [X.here.top, hx, hb, hdg, hmeth', hr, ret, narrow_b1]
  (try refine ⟨rfl, ?_⟩); (try refine ⟨rfl, ?_⟩)
  first | (intro acts; rw [hret _ acts rfl rfl rfl]) | rw [hret _ _ rfl rfl rfl]
  exact Steps.refl _
def lw_At (p : Program) (s : State) (m : MethodId) (meth : Method) (c : Code) (b L : Nat) (xs : Nat → Int32) : Prop :=
  p.tables.exec = Jvm.exec ∧ c.code = code ∧ meth.sig.returnType = ret ∧ c.maxLocals = 4 ∧ s.vm.findClass R_law = some m.cls ∧ (∀ w ∈ lw_tbl, w.before #[Value.ref b] s = true) ∧ va_X b L xs s s.heap ∧ b < s.heap.size ∧ meth.locks = false ∧ (Jvm.Cond.and given_1 narrow_1).before #[Value.ref b] s = true
section LX
variable {D : va_G} {cl : List vw_C} {A0 : Nat → Prop} {X ex : va_W} {H : Heap}
theorem exPr (h : va_P D cl (X ++ ex) H) : va_P D cl ex H := fun k q hk => h _ q (exr hk)
theorem exDr (h : va_D A0 (X ++ ex)) : va_D A0 ex := ⟨fun i j p q hi hj e => by have := h.1 _ _ p q (exr hi) (exr hj) e; omega, fun k q hk => h.2 _ q (exr hk)⟩
end LX
theorem lenm7 {L : Nat} (h : L ≤ 3584) : (nI L - 7).toInt = (L : Int) - 7 := by
  rw [Int32.toInt_sub, nI_toInt (by omega)]
  exact Int.bmod_eq_of_le (by show -(2 ^ 31 : Int) ≤ (L : Int) - 7; omega) (by show (L : Int) - 7 < (2 ^ 31 : Int); omega)
/-- what the two keep alike, as far as this law compares -/
def RR (cn : Nat → Nat) (Fn : Nat → Nat → Int32) (c3 : Nat → Nat) (F3 : Nat → Nat → Int32) : Prop := cn 0 = c3 0 ∧ cn 10 = c3 1 ∧ cn 11 = c3 2 ∧ (∀ k : Nat, k < cn 10 → Fn 100 k = F3 3 k) ∧ (∀ k : Nat, k < cn 10 → Fn 101 k = F3 4 k) ∧ (∀ k : Nat, k < cn 10 → Fn 102 k = F3 5 k) ∧ (∀ k : Nat, k < cn 10 → Fn 103 k = F3 6 k) ∧ (∀ k : Nat, k < cn 10 → Fn 104 k = F3 7 k) ∧ (∀ k : Nat, c3 1 ≤ k → F3 7 k = 0) ∧ (∀ k : Nat, k < c3 1 → 0 ≤ (F3 3 k).toInt ∧ (F3 3 k).toInt ≤ 99) ∧ (∀ k : Nat, k < c3 1 → 0 ≤ (F3 4 k).toInt ∧ (F3 4 k).toInt ≤ 99) ∧ cn 1 = c3 46 ∧ (∀ k : Nat, k < cn 1 → Fn 27 k = F3 47 k) ∧ (∀ k : Nat, k < c3 46 → 0 ≤ (F3 47 k).toInt) ∧ Fn 28 = F3 53 ∧ (∀ k : Nat, F3 53 k = 0 ∨ F3 53 k = 1) ∧ True
theorem RR.fx {cn c2 c3 : Nat → Nat} {Fn F2 F3 : Nat → Nat → Int32} {lc lf : List Nat} (hR : RR cn Fn c3 F3) (f : ∀ k : Nat, k ∉ lc → c2 k = cn k) (g : ∀ k : Nat, k ∉ lf → F2 k = Fn k) (d1 : ∀ k ∈ ([0, 1, 10, 11] : List Nat), k ∉ lc) (d2 : ∀ k ∈ ([27, 28, 100, 101, 102, 103, 104] : List Nat), k ∉ lf) : RR c2 F2 c3 F3 := by
  unfold RR at *
  rw [f 0 (d1 0 (by decide)), f 1 (d1 1 (by decide)), f 10 (d1 10 (by decide)), f 11 (d1 11 (by decide)), g 27 (d2 27 (by decide)), g 28 (d2 28 (by decide)), g 100 (d2 100 (by decide)), g 101 (d2 101 (by decide)), g 102 (d2 102 (by decide)), g 103 (d2 103 (by decide)), g 104 (d2 104 (by decide))]
  exact hR
theorem RR.fm {cn c3 c4 : Nat → Nat} {Fn F3 F4 : Nat → Nat → Int32} {lc lf : List Nat} (hR : RR cn Fn c3 F3) (f : ∀ k : Nat, k ∉ lc → c4 k = c3 k) (g : ∀ k : Nat, k ∉ lf → F4 k = F3 k) (d1 : ∀ k ∈ ([0, 1, 2, 46] : List Nat), k ∉ lc) (d2 : ∀ k ∈ ([3, 4, 5, 6, 7, 47, 53] : List Nat), k ∉ lf) : RR cn Fn c4 F4 := by
  unfold RR at *
  rw [f 0 (d1 0 (by decide)), f 1 (d1 1 (by decide)), f 2 (d1 2 (by decide)), f 46 (d1 46 (by decide)), g 3 (d2 3 (by decide)), g 4 (d2 4 (by decide)), g 5 (d2 5 (by decide)), g 6 (d2 6 (by decide)), g 7 (d2 7 (by decide)), g 47 (d2 47 (by decide)), g 53 (d2 53 (by decide))]
  exact hR
theorem ix_Eshared {ad : Nat → Nat → Nat} {cn c2 : Nat → Nat} {In I2 : Nat → Int32} {Fn F2 : Nat → Nat → Int32} {r : Int32} {v0 v1 v2 : Int32} (h : IX ad cn Fn) (w : Fr [4] [] [30, 31, 32, 33, 34, 35, 105] cn In Fn c2 I2 F2 ∧ CBX c2 ∧ ((¬ ((0 ≤ v0.toInt ∧ v0.toInt ≤ 399) ∧ (1 ≤ v1.toInt ∧ v1.toInt ≤ 400) ∧ (v2.toInt = -1 ∨ (0 ≤ v2.toInt ∧ v2.toInt < (cn 10 : Int)))) ∧ r = -1) ∨ (((0 ≤ v0.toInt ∧ v0.toInt ≤ 399) ∧ (1 ≤ v1.toInt ∧ v1.toInt ≤ 400) ∧ (v2.toInt = -1 ∨ (0 ≤ v2.toInt ∧ v2.toInt < (cn 10 : Int)))) ∧ (∃ k : Nat, k < cn 10 ∧ v0.toInt < (Fn 104 k).toInt) ∧ r = -2) ∨ (((0 ≤ v0.toInt ∧ v0.toInt ≤ 399) ∧ (1 ≤ v1.toInt ∧ v1.toInt ≤ 400) ∧ (v2.toInt = -1 ∨ (0 ≤ v2.toInt ∧ v2.toInt < (cn 10 : Int)))) ∧ (∀ k : Nat, k < cn 10 → (Fn 104 k).toInt ≤ v0.toInt) ∧ ((∃ l : List Nat, AL (fun k9 => v1.toInt ≤ ((if (Fn 102 k9 * (v0 - (Fn 104) k9)) < Fn 103 k9 then Fn 102 k9 * (v0 - (Fn 104) k9) else Fn 103 k9)).toInt) (cn 10) l ∧ 6 < l.length ∧ r = -2) ∨ ∃ (l : List Nat) (T : Nat → Int32) (b y : Int32), AL (fun k9 => v1.toInt ≤ ((if (Fn 102 k9 * (v0 - (Fn 104) k9)) < Fn 103 k9 then Fn 102 k9 * (v0 - (Fn 104) k9) else Fn 103 k9)).toInt) (cn 10) l ∧ l.length ≤ 6 ∧ TBL (fun a b => wyX (Fn 100 (l.getD a 0)) (Fn 101 (l.getD a 0)) (Fn 100 (l.getD b 0)) (Fn 101 (l.getD b 0))) (fun a => Fn 100 (l.getD a 0) + Fn 101 (l.getD a 0)) l.length T (2 ^ l.length) ∧ BSP (fun (t : Nat) (z : Int32) => VSH (cn 1) l.length (fun i => (if (Fn 102 (l.getD i 0) * (v0 - (Fn 104) (l.getD i 0))) < Fn 103 (l.getD i 0) then Fn 102 (l.getD i 0) * (v0 - (Fn 104) (l.getD i 0)) else Fn 103 (l.getD i 0))) (fun j => ¬ Fn 28 (j * 400 + v0.toInt.toNat) = 0) (Fn 27) (RND (fun a => Fn 100 (l.getD a 0) + Fn 101 (l.getD a 0)) l.length T) (DG (cn 1) l.length t) z) (cn 1 ^ l.length) b y ∧ SHG (cn 1) (DG (cn 1) l.length) l v2 r b y)))) : IX ad c2 F2 := IX.fr h w.1 w.2.1 (by decide) (by decide)
theorem eq_shared {ad : Nat → Nat → Nat} {cn c3 : Nat → Nat} {c2 c4 : Nat → Nat} {In I2 I3 I4 : Nat → Int32} {F2 F4 : Nat → Nat → Int32} {Fn F3 : Nat → Nat → Int32} {r : Int32} {r2 : Int32} {v0 v1 v2 : Int32} (hI : IX ad cn Fn) (hM : IMM c3 F3) (hR : RR cn Fn c3 F3) (w : Fr [4] [] [30, 31, 32, 33, 34, 35, 105] cn In Fn c2 I2 F2 ∧ CBX c2 ∧ ((¬ ((0 ≤ v0.toInt ∧ v0.toInt ≤ 399) ∧ (1 ≤ v1.toInt ∧ v1.toInt ≤ 400) ∧ (v2.toInt = -1 ∨ (0 ≤ v2.toInt ∧ v2.toInt < (cn 10 : Int)))) ∧ r = -1) ∨ (((0 ≤ v0.toInt ∧ v0.toInt ≤ 399) ∧ (1 ≤ v1.toInt ∧ v1.toInt ≤ 400) ∧ (v2.toInt = -1 ∨ (0 ≤ v2.toInt ∧ v2.toInt < (cn 10 : Int)))) ∧ (∃ k : Nat, k < cn 10 ∧ v0.toInt < (Fn 104 k).toInt) ∧ r = -2) ∨ (((0 ≤ v0.toInt ∧ v0.toInt ≤ 399) ∧ (1 ≤ v1.toInt ∧ v1.toInt ≤ 400) ∧ (v2.toInt = -1 ∨ (0 ≤ v2.toInt ∧ v2.toInt < (cn 10 : Int)))) ∧ (∀ k : Nat, k < cn 10 → (Fn 104 k).toInt ≤ v0.toInt) ∧ ((∃ l : List Nat, AL (fun k9 => v1.toInt ≤ ((if (Fn 102 k9 * (v0 - (Fn 104) k9)) < Fn 103 k9 then Fn 102 k9 * (v0 - (Fn 104) k9) else Fn 103 k9)).toInt) (cn 10) l ∧ 6 < l.length ∧ r = -2) ∨ ∃ (l : List Nat) (T : Nat → Int32) (b y : Int32), AL (fun k9 => v1.toInt ≤ ((if (Fn 102 k9 * (v0 - (Fn 104) k9)) < Fn 103 k9 then Fn 102 k9 * (v0 - (Fn 104) k9) else Fn 103 k9)).toInt) (cn 10) l ∧ l.length ≤ 6 ∧ TBL (fun a b => wyX (Fn 100 (l.getD a 0)) (Fn 101 (l.getD a 0)) (Fn 100 (l.getD b 0)) (Fn 101 (l.getD b 0))) (fun a => Fn 100 (l.getD a 0) + Fn 101 (l.getD a 0)) l.length T (2 ^ l.length) ∧ BSP (fun (t : Nat) (z : Int32) => VSH (cn 1) l.length (fun i => (if (Fn 102 (l.getD i 0) * (v0 - (Fn 104) (l.getD i 0))) < Fn 103 (l.getD i 0) then Fn 102 (l.getD i 0) * (v0 - (Fn 104) (l.getD i 0)) else Fn 103 (l.getD i 0))) (fun j => ¬ Fn 28 (j * 400 + v0.toInt.toNat) = 0) (Fn 27) (RND (fun a => Fn 100 (l.getD a 0) + Fn 101 (l.getD a 0)) l.length T) (DG (cn 1) l.length t) z) (cn 1 ^ l.length) b y ∧ SHG (cn 1) (DG (cn 1) l.length) l v2 r b y)))) (w2 : Fr [44] [] [42, 43, 48, 49, 50, 51] c3 I3 F3 c4 I4 F4 ∧ IM c4 F4 ∧ ((¬ ((0 ≤ v0.toInt ∧ v0.toInt ≤ 399) ∧ (1 ≤ v1.toInt ∧ v1.toInt ≤ 400) ∧ (v2.toInt = -1 ∨ (0 ≤ v2.toInt ∧ v2.toInt < (c3 1 : Int)))) ∧ r2 = -1) ∨ (((0 ≤ v0.toInt ∧ v0.toInt ≤ 399) ∧ (1 ≤ v1.toInt ∧ v1.toInt ≤ 400) ∧ (v2.toInt = -1 ∨ (0 ≤ v2.toInt ∧ v2.toInt < (c3 1 : Int)))) ∧ (∃ k : Nat, k < c3 1 ∧ v0.toInt < (F3 7 k).toInt) ∧ r2 = -2) ∨ (((0 ≤ v0.toInt ∧ v0.toInt ≤ 399) ∧ (1 ≤ v1.toInt ∧ v1.toInt ≤ 400) ∧ (v2.toInt = -1 ∨ (0 ≤ v2.toInt ∧ v2.toInt < (c3 1 : Int)))) ∧ ((∃ l : List Nat, AL (fun k9 => v1.toInt ≤ (lkM F3 k9 v0).toInt) (c3 1) l ∧ 6 < l.length ∧ r2 = -2) ∨ ((∀ k : Nat, k < c3 1 → (F3 7 k).toInt ≤ v0.toInt) ∧ ∃ (l : List Nat) (T : Nat → Int32) (b y : Int32), AL (fun k9 => v1.toInt ≤ (lkM F3 k9 v0).toInt) (c3 1) l ∧ l.length ≤ 6 ∧ TBL (fun a b => apM (F3 3 (l.getD a 0)) (F3 4 (l.getD a 0)) (F3 3 (l.getD b 0)) (F3 4 (l.getD b 0))) (fun a => F3 3 (l.getD a 0) + F3 4 (l.getD a 0)) l.length T (2 ^ l.length) ∧ BSP (fun (t : Nat) (z : Int32) => VSH (c3 46) l.length (fun i => lkM F3 (l.getD i 0) v0) (fun j => ¬ F3 53 (400 * j + v0.toInt.toNat) = 0) (F3 47) (RND (fun a => F3 3 (l.getD a 0) + F3 4 (l.getD a 0)) l.length T) (DG (c3 46) l.length t) z) (c3 46 ^ l.length) b y ∧ SHG (c3 46) (DG (c3 46) l.length) l v2 r2 b y))))) : r = r2 ∧ RR c2 F2 c4 F4 := by
  have hb := hI.1
  have hm7 := hM.1.2.1
  have e0 : cn 0 = c3 0 := hR.1
  have e1 : cn 10 = c3 1 := hR.2.1
  have e2 : cn 11 = c3 2 := hR.2.2.1
  have e3 : (∀ k : Nat, k < cn 10 → Fn 100 k = F3 3 k) := hR.2.2.2.1
  have e4 : (∀ k : Nat, k < cn 10 → Fn 101 k = F3 4 k) := hR.2.2.2.2.1
  have e5 : (∀ k : Nat, k < cn 10 → Fn 102 k = F3 5 k) := hR.2.2.2.2.2.1
  have e6 : (∀ k : Nat, k < cn 10 → Fn 103 k = F3 6 k) := hR.2.2.2.2.2.2.1
  have e7 : (∀ k : Nat, k < cn 10 → Fn 104 k = F3 7 k) := hR.2.2.2.2.2.2.2.1
  have e8 : (∀ k : Nat, c3 1 ≤ k → F3 7 k = 0) := hR.2.2.2.2.2.2.2.2.1
  have e9 : (∀ k : Nat, k < c3 1 → 0 ≤ (F3 3 k).toInt ∧ (F3 3 k).toInt ≤ 99) := hR.2.2.2.2.2.2.2.2.2.1
  have e10 : (∀ k : Nat, k < c3 1 → 0 ≤ (F3 4 k).toInt ∧ (F3 4 k).toInt ≤ 99) := hR.2.2.2.2.2.2.2.2.2.2.1
  have e11 : cn 1 = c3 46 := hR.2.2.2.2.2.2.2.2.2.2.2.1
  have e12 : (∀ k : Nat, k < cn 1 → Fn 27 k = F3 47 k) := hR.2.2.2.2.2.2.2.2.2.2.2.2.1
  have e13 : (∀ k : Nat, k < c3 46 → 0 ≤ (F3 47 k).toInt) := hR.2.2.2.2.2.2.2.2.2.2.2.2.2.1
  have e14 : Fn 28 = F3 53 := hR.2.2.2.2.2.2.2.2.2.2.2.2.2.2.1
  have e15 : (∀ k : Nat, F3 53 k = 0 ∨ F3 53 k = 1) := hR.2.2.2.2.2.2.2.2.2.2.2.2.2.2.2.1
  obtain ⟨f1, -, w⟩ := w
  obtain ⟨f2, -, w2⟩ := w2
  refine ⟨?_, RR.fm (RR.fx hR f1.1 f1.2.2 (by decide) (by decide)) f2.1 f2.2.2 (by decide) (by decide)⟩
  have hx9 : ∀ k : Nat, k < cn 10 → XYB (Fn 100 k) (Fn 101 k) := fun k hk => ⟨by rw [e3 k hk]; exact e9 k (by omega), by rw [e4 k hk]; exact e10 k (by omega)⟩
  have hf9 : ∀ k : Nat, k < cn 10 → (if (Fn 102 k * (v0 - (Fn 104) k)) < Fn 103 k then Fn 102 k * (v0 - (Fn 104) k) else Fn 103 k) = lkM F3 k v0 := fun k hk => by
    unfold lkM
    rw [e5 k hk, e6 k hk, e7 k hk]
  have h09 : ∀ k : Nat, k < cn 10 → Fn 104 k = F3 7 k := e7
  rw [← e1, ← e11] at w2
  have hal9 : ∀ l l2 : List Nat, AL (fun k9 => v1.toInt ≤ ((if (Fn 102 k9 * (v0 - (Fn 104) k9)) < Fn 103 k9 then Fn 102 k9 * (v0 - (Fn 104) k9) else Fn 103 k9)).toInt) (cn 10) l → AL (fun k9 => v1.toInt ≤ (lkM F3 k9 v0).toInt) (cn 10) l2 → l = l2 := fun l l2 p q => AL.un _ l l2 (fun z hz => by
    show v1.toInt ≤ ((if (Fn 102 z * (v0 - (Fn 104) z)) < Fn 103 z then Fn 102 z * (v0 - (Fn 104) z) else Fn 103 z)).toInt ↔ v1.toInt ≤ (lkM F3 z v0).toInt
    rw [hf9 z hz]) p q
  rcases w with ⟨hc, er⟩ | ⟨hc, hb, er⟩ | ⟨hc, hnb, ⟨l, hal, hl, er⟩ | ⟨l, T, b, y, hal, hl, ht, hbs, hg⟩⟩ <;> rcases w2 with ⟨hc2, er2⟩ | ⟨hc2, hb2, er2⟩ | ⟨hc2, ⟨l2, hal2, hl2, er2⟩ | ⟨hnb2, l2, T2, b2, y2, hal2, hl2, ht2, hbs2, hg2⟩⟩
  · rw [er, er2]
  · exact absurd hc2 hc
  · exact absurd hc2 hc
  · exact absurd hc2 hc
  · exact absurd hc hc2
  · rw [er, er2]
  · rw [er, er2]
  · obtain ⟨k, hk, hb⟩ := hb
    have q := hnb2 k hk
    rw [h09 k hk] at hb
    omega
  · exact absurd hc hc2
  · rw [er, er2]
  · rw [er, er2]
  · obtain rfl := hal9 l l2 hal hal2
    omega
  · exact absurd hc hc2
  · obtain ⟨k, hk, hb⟩ := hb2
    have q := hnb k hk
    rw [← h09 k hk] at hb
    omega
  · obtain rfl := hal9 l l2 hal hal2
    omega
  · obtain rfl := hal9 l l2 hal hal2
    have hk : ∀ k : Nat, k ∈ l → k < cn 10 := fun k hk => ((AL.mem _ l hal k).mp hk).1
    have h6 := full_le (m := l.length) (by omega)
    have hw : ∀ a b : Nat, a < l.length → b < l.length → wyX (Fn 100 (l.getD a 0)) (Fn 101 (l.getD a 0)) (Fn 100 (l.getD b 0)) (Fn 101 (l.getD b 0)) = apM (F3 3 (l.getD a 0)) (F3 4 (l.getD a 0)) (F3 3 (l.getD b 0)) (F3 4 (l.getD b 0)) := fun a b ha hb => (wy_ap (hx9 _ (hk _ (getD_mem.mpr ⟨a, ha, rfl⟩))) (hx9 _ (hk _ (getD_mem.mpr ⟨b, hb, rfl⟩)))).trans (by rw [(e3 _ (hk _ (getD_mem.mpr ⟨a, ha, rfl⟩))), (e4 _ (hk _ (getD_mem.mpr ⟨a, ha, rfl⟩))), (e3 _ (hk _ (getD_mem.mpr ⟨b, hb, rfl⟩))), (e4 _ (hk _ (getD_mem.mpr ⟨b, hb, rfl⟩)))])
    have hd : ∀ a : Nat, a < l.length → Fn 100 (l.getD a 0) + Fn 101 (l.getD a 0) = F3 3 (l.getD a 0) + F3 4 (l.getD a 0) := fun a ha => by rw [(e3 _ (hk _ (getD_mem.mpr ⟨a, ha, rfl⟩))), (e4 _ (hk _ (getD_mem.mpr ⟨a, ha, rfl⟩)))]
    have hp9 : cn 1 ^ l.length ≤ 3 ^ 6 := Nat.le_trans (Nat.pow_le_pow_left (by omega) _) (Nat.pow_le_pow_right (by decide) hl)
    have hn9 : cn 1 ^ l.length < 2 ^ 31 := by omega
    have hz9 := fun h9 => BSP.un hn9 h9 hbs hbs2
    have hu := hz9 (fun t u v ht9 p q => by
      have hs9 := fun hF hO hT hR => VSH.un (fun _ _ => rfl) hF hO hT hR p q
      exact hs9 (fun i hi => hf9 _ (hk _ (getD_mem.mpr ⟨i, hi, rfl⟩))) (fun j hj => by rw [e14, Nat.mul_comm]) (fun j hj => e12 j hj) (fun S x y hS p q => RND.un (by omega) (by omega) hd (fun U hU a ha ta => TBL.un h6.2 (by omega) hw hd ht ht2 (U + 1) U (Nat.lt_succ_self U) (by omega) a ha ta) p q))
    obtain ⟨rfl, hy⟩ := hu
    exact SHG.un (fun i hi => by have := hk _ (getD_mem.mpr ⟨i, hi, rfl⟩); omega) (AL.so _ l hal) hn9 hy hg hg2
theorem ix_Xnow {ad : Nat → Nat → Nat} {cn c2 : Nat → Nat} {In I2 : Nat → Int32} {Fn F2 : Nat → Nat → Int32} {r : Int32} {v0 : Int32} (h : IX ad cn Fn) (w : (∀ k : Nat, k ∉ [] → I2 k = In k) ∧ ((r = 1 ∧ ((cn 0 : Int) ≤ v0.toInt ∧ v0.toInt ≤ 399) ∧ (va_up cn 0 v0.toInt.toNat) = c2 ∧ Fn = F2) ∨ (r = 0 ∧ (¬ ((cn 0 : Int) ≤ v0.toInt ∧ v0.toInt ≤ 399)) ∧ cn = c2 ∧ Fn = F2))) : IX ad c2 F2 := by
  have hb := h.1
  obtain ⟨-, w⟩ := w
  rcases w with ⟨-, hc, rfl, rfl⟩ | ⟨-, hc, rfl, rfl⟩
  · exact (IX.cb h ⟨(by show (v0.toInt.toNat) ≤ 399; omega), (by show cn 1 ≤ 3; omega), (by show cn 2 ≤ 20; omega), (by show cn 3 ≤ 200; omega), (by show cn 4 ≤ 8; omega), (by show cn 5 ≤ 40; omega), (by show cn 10 ≤ 10; omega), (by show cn 11 ≤ 60; omega), (by show cn 12 ≤ 10; omega), (by show cn 13 ≤ 40; omega), (by show cn 14 ≤ 10; omega), (by show cn 15 ≤ 60; omega), (by show cn 10 ≤ cn 20; omega), (by show cn 11 ≤ cn 21; omega), (by show cn 12 ≤ cn 22; omega), (by show cn 13 ≤ cn 23; omega), (by show cn 14 ≤ cn 24; omega), (by show cn 15 ≤ cn 25; omega), (by show cn 20 ≤ 100; omega), (by show cn 21 ≤ 100; omega), (by show cn 22 ≤ 100; omega), (by show cn 23 ≤ 100; omega), (by show cn 24 ≤ 100; omega), (by show cn 25 ≤ 100; omega)⟩ rfl rfl rfl rfl)
  · exact h
theorem eq_now {ad : Nat → Nat → Nat} {cn c3 : Nat → Nat} {c2 c4 : Nat → Nat} {In I2 I3 I4 : Nat → Int32} {F2 F4 : Nat → Nat → Int32} {Fn F3 : Nat → Nat → Int32} {r : Int32} {r2 : Int32} {v0 : Int32} (hI : IX ad cn Fn) (hM : IMM c3 F3) (hR : RR cn Fn c3 F3) (w : (∀ k : Nat, k ∉ [] → I2 k = In k) ∧ ((r = 1 ∧ ((cn 0 : Int) ≤ v0.toInt ∧ v0.toInt ≤ 399) ∧ (va_up cn 0 v0.toInt.toNat) = c2 ∧ Fn = F2) ∨ (r = 0 ∧ (¬ ((cn 0 : Int) ≤ v0.toInt ∧ v0.toInt ≤ 399)) ∧ cn = c2 ∧ Fn = F2))) (w2 : (((c3 0 : Int) ≤ v0.toInt ∧ v0.toInt ≤ 399) ∧ r2 = 1 ∧ c4 = va_up c3 0 v0.toInt.toNat ∧ I4 = I3 ∧ F4 = F3) ∨ ((¬ ((c3 0 : Int) ≤ v0.toInt ∧ v0.toInt ≤ 399)) ∧ r2 = 0 ∧ c4 = c3 ∧ I4 = I3 ∧ F4 = F3)) : True ∧ RR c2 F2 c4 F4 := by
  have hb := hI.1
  have hm7 := hM.1.2.1
  have e0 : cn 0 = c3 0 := hR.1
  have e1 : cn 10 = c3 1 := hR.2.1
  have e2 : cn 11 = c3 2 := hR.2.2.1
  have e3 : (∀ k : Nat, k < cn 10 → Fn 100 k = F3 3 k) := hR.2.2.2.1
  have e4 : (∀ k : Nat, k < cn 10 → Fn 101 k = F3 4 k) := hR.2.2.2.2.1
  have e5 : (∀ k : Nat, k < cn 10 → Fn 102 k = F3 5 k) := hR.2.2.2.2.2.1
  have e6 : (∀ k : Nat, k < cn 10 → Fn 103 k = F3 6 k) := hR.2.2.2.2.2.2.1
  have e7 : (∀ k : Nat, k < cn 10 → Fn 104 k = F3 7 k) := hR.2.2.2.2.2.2.2.1
  have e8 : (∀ k : Nat, c3 1 ≤ k → F3 7 k = 0) := hR.2.2.2.2.2.2.2.2.1
  have e9 : (∀ k : Nat, k < c3 1 → 0 ≤ (F3 3 k).toInt ∧ (F3 3 k).toInt ≤ 99) := hR.2.2.2.2.2.2.2.2.2.1
  have e10 : (∀ k : Nat, k < c3 1 → 0 ≤ (F3 4 k).toInt ∧ (F3 4 k).toInt ≤ 99) := hR.2.2.2.2.2.2.2.2.2.2.1
  have e11 : cn 1 = c3 46 := hR.2.2.2.2.2.2.2.2.2.2.2.1
  have e12 : (∀ k : Nat, k < cn 1 → Fn 27 k = F3 47 k) := hR.2.2.2.2.2.2.2.2.2.2.2.2.1
  have e13 : (∀ k : Nat, k < c3 46 → 0 ≤ (F3 47 k).toInt) := hR.2.2.2.2.2.2.2.2.2.2.2.2.2.1
  have e14 : Fn 28 = F3 53 := hR.2.2.2.2.2.2.2.2.2.2.2.2.2.2.1
  have e15 : (∀ k : Nat, F3 53 k = 0 ∨ F3 53 k = 1) := hR.2.2.2.2.2.2.2.2.2.2.2.2.2.2.2.1
  obtain ⟨-, w⟩ := w
  rcases w with ⟨er, hc, rfl, rfl⟩ | ⟨er, hc, rfl, rfl⟩ <;> rcases w2 with ⟨hc2, er2, rfl, hc5, rfl⟩ | ⟨hc2, er2, rfl, hc5, rfl⟩
  · exact ⟨trivial, ⟨(by show v0.toInt.toNat = v0.toInt.toNat; omega), (by show cn 10 = c3 1; omega), (by show cn 11 = c3 2; omega), (fun k hk => e3 k (by have hk : k < cn 10 := hk; omega)), (fun k hk => e4 k (by have hk : k < cn 10 := hk; omega)), (fun k hk => e5 k (by have hk : k < cn 10 := hk; omega)), (fun k hk => e6 k (by have hk : k < cn 10 := hk; omega)), (fun k hk => e7 k (by have hk : k < cn 10 := hk; omega)), (fun k hk => e8 k (by have hk : c3 1 ≤ k := hk; omega)), (fun k hk => e9 k (by have hk : k < c3 1 := hk; omega)), (fun k hk => e10 k (by have hk : k < c3 1 := hk; omega)), (by show cn 1 = c3 46; omega), (fun k hk => e12 k (by have hk : k < cn 1 := hk; omega)), (fun k hk => e13 k (by have hk : k < c3 46 := hk; omega)), (by show Fn 28 = F4 53; rw [e14]), (fun k => e15 k), trivial⟩⟩
  · exfalso; omega
  · exfalso; omega
  · exact ⟨trivial, ⟨(by first | exact e0 | omega), (by first | exact e1 | omega), (by first | exact e2 | omega), e3, e4, e5, e6, e7, e8, e9, e10, (by first | exact e11 | omega), e12, e13, e14, e15, trivial⟩⟩
theorem eq_kitchen {ad : Nat → Nat → Nat} {a2 : Nat → Nat → Nat} {cn c3 : Nat → Nat} {c2 c4 : Nat → Nat} {In I2 I3 I4 : Nat → Int32} {F2 F4 : Nat → Nat → Int32} {Fn F3 : Nat → Nat → Int32} {r : Int32} {r2 : Int32} {v0 v1 v2 v3 : Int32} (hI : IX ad cn Fn) (hM : IMM c3 F3) (hR : RR cn Fn c3 F3) (w : (r = (-1) ∧ ¬ (0 ≤ v0.toInt ∧ v0.toInt ≤ 99 ∧ 0 ≤ v1.toInt ∧ v1.toInt ≤ 99 ∧ 0 ≤ v2.toInt ∧ v2.toInt ≤ 50 ∧ 20 ≤ v3.toInt ∧ v3.toInt ≤ 400 ∧ cn 10 < 10) ∧ ad = a2 ∧ cn = c2 ∧ In = I2 ∧ Fn = F2) ∨ (r = nI (cn 10) ∧ (0 ≤ v0.toInt ∧ v0.toInt ≤ 99 ∧ 0 ≤ v1.toInt ∧ v1.toInt ≤ 99 ∧ 0 ≤ v2.toInt ∧ v2.toInt ≤ 50 ∧ 20 ≤ v3.toInt ∧ v3.toInt ≤ 400 ∧ cn 10 < 10) ∧ ∃ (q qt r0 r1 r2 r3 r4 z c : Nat) (y : Int32), (cn 10 < c ∧ c ≤ 100) ∧ (adO (adO (adO (adO (adO (adO (adO (adO (adO ad 10 (cn 10) q) 3 (cn 10) (cn 6)) 5 (cn 6) qt) 60 (cn 6) r0) 61 (cn 6) r1) 62 (cn 6) r2) 63 (cn 6) r3) 64 (cn 6) r4) 2 0 z) = a2 ∧ (va_up (va_up (va_up cn 10 ((cn 10) + 1)) 20 c) 6 (cn 6 + 1)) = c2 ∧ (va_up In 10 y) = I2 ∧ (va_up (va_up (va_up (va_up (va_up (va_up (va_up (va_up (va_up (va_up (va_up (va_up (va_up (va_up (va_up (va_up (va_up (va_up (va_up (va_up Fn 100 (upd (Fn 100) (cn 10) v0)) 101 (upd (Fn 101) (cn 10) v1)) 102 (upd (Fn 102) (cn 10) v2)) 103 (upd (Fn 103) (cn 10) v3)) 104 (upd (Fn 104) (cn 10) 0)) 105 (upd (Fn 105) (cn 10) 0)) 106 (upd (Fn 106) (cn 10) 0)) 107 (upd (Fn 107) (cn 10) 0)) 108 (upd (Fn 108) (cn 10) 0)) 109 (upd (Fn 109) (cn 10) 0)) 195 (upd (Fn 195) (cn 6) 0)) 196 (upd (Fn 196) (cn 6) 0)) 197 (upd (Fn 197) (cn 6) 0)) 198 (upd (Fn 198) (cn 6) 0)) 199 (upd (Fn 199) (cn 6) 0)) 301 (flat (Fn 301) 200 (cn 6) (fun _ => 0))) 302 (flat (Fn 302) 12 (cn 6) (fun _ => 0))) 303 (flat (Fn 303) 12 (cn 6) (fun _ => 0))) 304 (flat (Fn 304) 12 (cn 6) (fun _ => 0))) 305 (flat (Fn 305) 32 (cn 6) (fun _ => 0))) = F2)) (w2 : (((0 ≤ v0.toInt ∧ v0.toInt ≤ 99) ∧ (0 ≤ v1.toInt ∧ v1.toInt ≤ 99) ∧ (0 ≤ v2.toInt ∧ v2.toInt ≤ 50) ∧ (20 ≤ v3.toInt ∧ v3.toInt ≤ 400) ∧ c3 1 < 10) ∧ r2 = nI (c3 1) ∧ c4 = va_up c3 1 (c3 1 + 1) ∧ I4 = I3 ∧ F4 = va_up (va_up (va_up (va_up F3 3 (upd (F3 3) (c3 1) v0)) 4 (upd (F3 4) (c3 1) v1)) 5 (upd (F3 5) (c3 1) v2)) 6 (upd (F3 6) (c3 1) v3)) ∨ ((¬ ((0 ≤ v0.toInt ∧ v0.toInt ≤ 99) ∧ (0 ≤ v1.toInt ∧ v1.toInt ≤ 99) ∧ (0 ≤ v2.toInt ∧ v2.toInt ≤ 50) ∧ (20 ≤ v3.toInt ∧ v3.toInt ≤ 400) ∧ c3 1 < 10)) ∧ r2 = -1 ∧ c4 = c3 ∧ I4 = I3 ∧ F4 = F3)) : True ∧ RR c2 F2 c4 F4 := by
  have hb := hI.1
  have hm7 := hM.1.2.1
  have e0 : cn 0 = c3 0 := hR.1
  have e1 : cn 10 = c3 1 := hR.2.1
  have e2 : cn 11 = c3 2 := hR.2.2.1
  have e3 : (∀ k : Nat, k < cn 10 → Fn 100 k = F3 3 k) := hR.2.2.2.1
  have e4 : (∀ k : Nat, k < cn 10 → Fn 101 k = F3 4 k) := hR.2.2.2.2.1
  have e5 : (∀ k : Nat, k < cn 10 → Fn 102 k = F3 5 k) := hR.2.2.2.2.2.1
  have e6 : (∀ k : Nat, k < cn 10 → Fn 103 k = F3 6 k) := hR.2.2.2.2.2.2.1
  have e7 : (∀ k : Nat, k < cn 10 → Fn 104 k = F3 7 k) := hR.2.2.2.2.2.2.2.1
  have e8 : (∀ k : Nat, c3 1 ≤ k → F3 7 k = 0) := hR.2.2.2.2.2.2.2.2.1
  have e9 : (∀ k : Nat, k < c3 1 → 0 ≤ (F3 3 k).toInt ∧ (F3 3 k).toInt ≤ 99) := hR.2.2.2.2.2.2.2.2.2.1
  have e10 : (∀ k : Nat, k < c3 1 → 0 ≤ (F3 4 k).toInt ∧ (F3 4 k).toInt ≤ 99) := hR.2.2.2.2.2.2.2.2.2.2.1
  have e11 : cn 1 = c3 46 := hR.2.2.2.2.2.2.2.2.2.2.2.1
  have e12 : (∀ k : Nat, k < cn 1 → Fn 27 k = F3 47 k) := hR.2.2.2.2.2.2.2.2.2.2.2.2.1
  have e13 : (∀ k : Nat, k < c3 46 → 0 ≤ (F3 47 k).toInt) := hR.2.2.2.2.2.2.2.2.2.2.2.2.2.1
  have e14 : Fn 28 = F3 53 := hR.2.2.2.2.2.2.2.2.2.2.2.2.2.2.1
  have e15 : (∀ k : Nat, F3 53 k = 0 ∨ F3 53 k = 1) := hR.2.2.2.2.2.2.2.2.2.2.2.2.2.2.2.1
  rcases w with ⟨er, hc, -, rfl, -, rfl⟩ | ⟨er, hc, q, qt, r0, r1, r3, r4, r5, z, c, y, -, -, rfl, -, rfl⟩ <;> rcases w2 with ⟨hc2, er2, rfl, hc5, rfl⟩ | ⟨hc2, er2, rfl, hc5, rfl⟩
  · exfalso; omega
  · exact ⟨trivial, ⟨(by first | exact e0 | omega), (by first | exact e1 | omega), (by first | exact e2 | omega), e3, e4, e5, e6, e7, e8, e9, e10, (by first | exact e11 | omega), e12, e13, e14, e15, trivial⟩⟩
  · exact ⟨trivial, ⟨(by show cn 0 = c3 0; omega), (by show (cn 10 + 1) = (c3 1 + 1); omega), (by show cn 11 = c3 2; omega), (fun k hk => by
        have hk : k < (cn 10 + 1) := hk
        show (upd (Fn 100) (cn 10) v0) k = (upd (F3 3) (c3 1) v0) k
        unfold upd
        by_cases q : k = (cn 10)
        · have q2 : k = (c3 1) := (by omega)
          rw [if_pos q]; rw [if_pos q2]
          all_goals first | rfl
        · have q2 : ¬ k = (c3 1) := (by omega)
          rw [if_neg q]; rw [if_neg q2]
          exact e3 k (by omega)), (fun k hk => by
        have hk : k < (cn 10 + 1) := hk
        show (upd (Fn 101) (cn 10) v1) k = (upd (F3 4) (c3 1) v1) k
        unfold upd
        by_cases q : k = (cn 10)
        · have q2 : k = (c3 1) := (by omega)
          rw [if_pos q]; rw [if_pos q2]
          all_goals first | rfl
        · have q2 : ¬ k = (c3 1) := (by omega)
          rw [if_neg q]; rw [if_neg q2]
          exact e4 k (by omega)), (fun k hk => by
        have hk : k < (cn 10 + 1) := hk
        show (upd (Fn 102) (cn 10) v2) k = (upd (F3 5) (c3 1) v2) k
        unfold upd
        by_cases q : k = (cn 10)
        · have q2 : k = (c3 1) := (by omega)
          rw [if_pos q]; rw [if_pos q2]
          all_goals first | rfl
        · have q2 : ¬ k = (c3 1) := (by omega)
          rw [if_neg q]; rw [if_neg q2]
          exact e5 k (by omega)), (fun k hk => by
        have hk : k < (cn 10 + 1) := hk
        show (upd (Fn 103) (cn 10) v3) k = (upd (F3 6) (c3 1) v3) k
        unfold upd
        by_cases q : k = (cn 10)
        · have q2 : k = (c3 1) := (by omega)
          rw [if_pos q]; rw [if_pos q2]
          all_goals first | rfl
        · have q2 : ¬ k = (c3 1) := (by omega)
          rw [if_neg q]; rw [if_neg q2]
          exact e6 k (by omega)), (fun k hk => by
        have hk : k < (cn 10 + 1) := hk
        show (upd (Fn 104) (cn 10) 0) k = F3 7 k
        unfold upd
        by_cases q : k = (cn 10)
        · have q2 : k = (cn 10) := (by omega)
          rw [if_pos q]
          all_goals first | rfl | (exact (e8 k (by omega)).symm)
        · have q2 : ¬ k = (cn 10) := (by omega)
          rw [if_neg q]
          exact e7 k (by omega)), (fun k hk => e8 k (by have hk : (c3 1 + 1) ≤ k := hk; omega)), (fun k hk => by
        have hk : k < (c3 1 + 1) := hk
        show 0 ≤ ((upd (F3 3) (c3 1) v0) k).toInt ∧ ((upd (F3 3) (c3 1) v0) k).toInt ≤ 99
        unfold upd
        by_cases q : k = (c3 1)
        · rw [if_pos q]; omega
        · rw [if_neg q]; exact e9 k (by omega)), (fun k hk => by
        have hk : k < (c3 1 + 1) := hk
        show 0 ≤ ((upd (F3 4) (c3 1) v1) k).toInt ∧ ((upd (F3 4) (c3 1) v1) k).toInt ≤ 99
        unfold upd
        by_cases q : k = (c3 1)
        · rw [if_pos q]; omega
        · rw [if_neg q]; exact e10 k (by omega)), (by show cn 1 = c3 46; omega), (fun k hk => e12 k (by have hk : k < cn 1 := hk; omega)), (fun k hk => e13 k (by have hk : k < c3 46 := hk; omega)), (by show Fn 28 = F3 53; rw [e14]), (fun k => e15 k), trivial⟩⟩
  · exfalso; omega
theorem eq_fetch {ad : Nat → Nat → Nat} {a2 : Nat → Nat → Nat} {cn c3 : Nat → Nat} {c2 c4 : Nat → Nat} {In I2 I3 I4 : Nat → Int32} {F2 F4 : Nat → Nat → Int32} {Fn F3 : Nat → Nat → Int32} {r : Int32} {r2 : Int32} {v0 v1 v2 v3 v4 v5 : Int32} (hI : IX ad cn Fn) (hM : IMM c3 F3) (hR : RR cn Fn c3 F3) (w : (r = -1 ∧ (¬ ∃ m : Nat, v0.toInt = (m : Int) ∧ m < cn 10 ∧ (Fn 104 m).toInt ≤ v1.toInt ∧ v1.toInt ≤ (cn 0 : Int) ∧ v1.toInt ≤ v5.toInt ∧ v5.toInt ≤ 399 ∧ 0 ≤ v2.toInt ∧ v2.toInt ≤ 400 ∧ 0 ≤ v3.toInt ∧ v3.toInt ≤ 1000 ∧ 0 ≤ v4.toInt ∧ v4.toInt ≤ 1000 ∧ cn 11 < 60) ∧ ad = a2 ∧ cn = c2 ∧ In = I2 ∧ Fn = F2) ∨ (r = nI (cn 11) ∧ ∃ (q z c : Nat) (y : Int32) (m : Nat), (v0.toInt = (m : Int) ∧ m < cn 10 ∧ (Fn 104 m).toInt ≤ v1.toInt ∧ v1.toInt ≤ (cn 0 : Int) ∧ v1.toInt ≤ v5.toInt ∧ v5.toInt ≤ 399 ∧ 0 ≤ v2.toInt ∧ v2.toInt ≤ 400 ∧ 0 ≤ v3.toInt ∧ v3.toInt ≤ 1000 ∧ 0 ≤ v4.toInt ∧ v4.toInt ≤ 1000 ∧ cn 11 < 60) ∧ (cn 11 < c ∧ c ≤ 100) ∧ (adP ad 11 (cn 11) q 1 z) = a2 ∧ (va_up (va_up cn 11 ((cn 11) + 1)) 21 c) = c2 ∧ (va_up In 11 y) = I2 ∧ (va_up (va_up (va_up (va_up (va_up (va_up (va_up (va_up (va_up (va_up (va_up (va_up (va_up Fn 104 (upd (Fn 104) m v1)) 106 (upd (Fn 106) m (Fn 106 m + v2))) 29 (putM (Fn 29) 400 v1 (atM (Fn 29) 400 v1 + v2))) 120 (upd ((va_up (va_up (va_up Fn 104 (upd (Fn 104) m v1)) 106 (upd (Fn 106) m (Fn 106 m + v2))) 29 (putM (Fn 29) 400 v1 (atM (Fn 29) 400 v1 + v2))) 120) (cn 11) v0)) 121 (upd ((va_up (va_up (va_up Fn 104 (upd (Fn 104) m v1)) 106 (upd (Fn 106) m (Fn 106 m + v2))) 29 (putM (Fn 29) 400 v1 (atM (Fn 29) 400 v1 + v2))) 121) (cn 11) v1)) 122 (upd ((va_up (va_up (va_up Fn 104 (upd (Fn 104) m v1)) 106 (upd (Fn 106) m (Fn 106 m + v2))) 29 (putM (Fn 29) 400 v1 (atM (Fn 29) 400 v1 + v2))) 122) (cn 11) v2)) 123 (upd ((va_up (va_up (va_up Fn 104 (upd (Fn 104) m v1)) 106 (upd (Fn 106) m (Fn 106 m + v2))) 29 (putM (Fn 29) 400 v1 (atM (Fn 29) 400 v1 + v2))) 123) (cn 11) v3)) 124 (upd ((va_up (va_up (va_up Fn 104 (upd (Fn 104) m v1)) 106 (upd (Fn 106) m (Fn 106 m + v2))) 29 (putM (Fn 29) 400 v1 (atM (Fn 29) 400 v1 + v2))) 124) (cn 11) v4)) 125 (upd ((va_up (va_up (va_up Fn 104 (upd (Fn 104) m v1)) 106 (upd (Fn 106) m (Fn 106 m + v2))) 29 (putM (Fn 29) 400 v1 (atM (Fn 29) 400 v1 + v2))) 125) (cn 11) v5)) 126 (upd ((va_up (va_up (va_up Fn 104 (upd (Fn 104) m v1)) 106 (upd (Fn 106) m (Fn 106 m + v2))) 29 (putM (Fn 29) 400 v1 (atM (Fn 29) 400 v1 + v2))) 126) (cn 11) (Fn 104 m))) 127 (upd ((va_up (va_up (va_up Fn 104 (upd (Fn 104) m v1)) 106 (upd (Fn 106) m (Fn 106 m + v2))) 29 (putM (Fn 29) 400 v1 (atM (Fn 29) 400 v1 + v2))) 127) (cn 11) (Fn 106 m))) 128 (upd ((va_up (va_up (va_up Fn 104 (upd (Fn 104) m v1)) 106 (upd (Fn 106) m (Fn 106 m + v2))) 29 (putM (Fn 29) 400 v1 (atM (Fn 29) 400 v1 + v2))) 128) (cn 11) (if 0 < ((if (Fn 102 m * (v1 - Fn 104 m)) < Fn 103 m then Fn 102 m * (v1 - Fn 104 m) else Fn 103 m) - v2) - (if (Fn 102 m * (v1 - Fn 104 m)) < Fn 103 m then Fn 102 m * (v1 - Fn 104 m) else Fn 103 m) / 10 then ((if (Fn 102 m * (v1 - Fn 104 m)) < Fn 103 m then Fn 102 m * (v1 - Fn 104 m) else Fn 103 m) - v2) - (if (Fn 102 m * (v1 - Fn 104 m)) < Fn 103 m then Fn 102 m * (v1 - Fn 104 m) else Fn 103 m) / 10 else 0))) 129 (upd ((va_up (va_up (va_up Fn 104 (upd (Fn 104) m v1)) 106 (upd (Fn 106) m (Fn 106 m + v2))) 29 (putM (Fn 29) 400 v1 (atM (Fn 29) 400 v1 + v2))) 129) (cn 11) 0)) = F2)) (w2 : ((0 ≤ v0.toInt ∧ v0.toInt < (c3 1 : Int) ∧ (F3 7 v0.toInt.toNat).toInt ≤ v1.toInt ∧ v1.toInt ≤ (c3 0 : Int) ∧ (0 ≤ v2.toInt ∧ v2.toInt ≤ 400) ∧ (0 ≤ v3.toInt ∧ v3.toInt ≤ 1000) ∧ (0 ≤ v4.toInt ∧ v4.toInt ≤ 1000) ∧ v1.toInt ≤ v5.toInt ∧ v5.toInt ≤ 399 ∧ c3 2 < 60) ∧ r2 = nI (c3 2) ∧ c4 = va_up c3 2 (c3 2 + 1) ∧ I4 = I3 ∧ F4 = (va_up (va_up (va_up (va_up (va_up (va_up (va_up (va_up (va_up (va_up F3 8 (upd (F3 8) (c3 2) v0)) 9 (upd (F3 9) (c3 2) v1)) 10 (upd (F3 10) (c3 2) v2)) 11 (upd (F3 11) (c3 2) v3)) 12 (upd (F3 12) (c3 2) v4)) 13 (upd (F3 13) (c3 2) v5)) 14 (upd (F3 14) (c3 2) (lackM (lkM F3 v0.toInt.toNat v1) v2))) 15 (upd (F3 15) (c3 2) (-1))) 16 (upd (F3 16) (c3 2) (F3 7 v0.toInt.toNat))) 7 (upd (F3 7) v0.toInt.toNat v1))) ∨ ((¬ (0 ≤ v0.toInt ∧ v0.toInt < (c3 1 : Int) ∧ (F3 7 v0.toInt.toNat).toInt ≤ v1.toInt ∧ v1.toInt ≤ (c3 0 : Int) ∧ (0 ≤ v2.toInt ∧ v2.toInt ≤ 400) ∧ (0 ≤ v3.toInt ∧ v3.toInt ≤ 1000) ∧ (0 ≤ v4.toInt ∧ v4.toInt ≤ 1000) ∧ v1.toInt ≤ v5.toInt ∧ v5.toInt ≤ 399 ∧ c3 2 < 60)) ∧ r2 = -1 ∧ c4 = c3 ∧ I4 = I3 ∧ F4 = F3)) : True ∧ RR c2 F2 c4 F4 := by
  have hb := hI.1
  have hm7 := hM.1.2.1
  have e0 : cn 0 = c3 0 := hR.1
  have e1 : cn 10 = c3 1 := hR.2.1
  have e2 : cn 11 = c3 2 := hR.2.2.1
  have e3 : (∀ k : Nat, k < cn 10 → Fn 100 k = F3 3 k) := hR.2.2.2.1
  have e4 : (∀ k : Nat, k < cn 10 → Fn 101 k = F3 4 k) := hR.2.2.2.2.1
  have e5 : (∀ k : Nat, k < cn 10 → Fn 102 k = F3 5 k) := hR.2.2.2.2.2.1
  have e6 : (∀ k : Nat, k < cn 10 → Fn 103 k = F3 6 k) := hR.2.2.2.2.2.2.1
  have e7 : (∀ k : Nat, k < cn 10 → Fn 104 k = F3 7 k) := hR.2.2.2.2.2.2.2.1
  have e8 : (∀ k : Nat, c3 1 ≤ k → F3 7 k = 0) := hR.2.2.2.2.2.2.2.2.1
  have e9 : (∀ k : Nat, k < c3 1 → 0 ≤ (F3 3 k).toInt ∧ (F3 3 k).toInt ≤ 99) := hR.2.2.2.2.2.2.2.2.2.1
  have e10 : (∀ k : Nat, k < c3 1 → 0 ≤ (F3 4 k).toInt ∧ (F3 4 k).toInt ≤ 99) := hR.2.2.2.2.2.2.2.2.2.2.1
  have e11 : cn 1 = c3 46 := hR.2.2.2.2.2.2.2.2.2.2.2.1
  have e12 : (∀ k : Nat, k < cn 1 → Fn 27 k = F3 47 k) := hR.2.2.2.2.2.2.2.2.2.2.2.2.1
  have e13 : (∀ k : Nat, k < c3 46 → 0 ≤ (F3 47 k).toInt) := hR.2.2.2.2.2.2.2.2.2.2.2.2.2.1
  have e14 : Fn 28 = F3 53 := hR.2.2.2.2.2.2.2.2.2.2.2.2.2.2.1
  have e15 : (∀ k : Nat, F3 53 k = 0 ∨ F3 53 k = 1) := hR.2.2.2.2.2.2.2.2.2.2.2.2.2.2.2.1
  rcases w with ⟨er, hc, -, rfl, -, rfl⟩ | ⟨er, q, z, c, y, m, hc, -, -, rfl, -, rfl⟩ <;> rcases w2 with ⟨hc2, er2, rfl, hc5, rfl⟩ | ⟨hc2, er2, rfl, hc5, rfl⟩
  · refine absurd ⟨v0.toInt.toNat, ?_⟩ hc
    have q7 := congrArg Int32.toInt (e7 v0.toInt.toNat (by omega))
    refine ⟨?_, ?_, ?_, ?_, ?_, ?_, ?_, ?_, ?_, ?_, ?_, ?_, ?_⟩ <;> omega
  · exact ⟨trivial, ⟨(by first | exact e0 | omega), (by first | exact e1 | omega), (by first | exact e2 | omega), e3, e4, e5, e6, e7, e8, e9, e10, (by first | exact e11 | omega), e12, e13, e14, e15, trivial⟩⟩
  · have em : m = v0.toInt.toNat := by omega
    subst em
    exact ⟨trivial, ⟨(by show cn 0 = c3 0; omega), (by show cn 10 = c3 1; omega), (by show (cn 11 + 1) = (c3 2 + 1); omega), (fun k hk => e3 k (by have hk : k < cn 10 := hk; omega)), (fun k hk => e4 k (by have hk : k < cn 10 := hk; omega)), (fun k hk => e5 k (by have hk : k < cn 10 := hk; omega)), (fun k hk => e6 k (by have hk : k < cn 10 := hk; omega)), (fun k hk => by
        have hk : k < cn 10 := hk
        show (upd (Fn 104) v0.toInt.toNat v1) k = (upd (F3 7) v0.toInt.toNat v1) k
        unfold upd
        by_cases q : k = v0.toInt.toNat
        · have q2 : k = v0.toInt.toNat := (by omega)
          rw [if_pos q]; rw [if_pos q2]
          all_goals first | rfl | (exact (e8 k (by omega)).symm)
        · have q2 : ¬ k = v0.toInt.toNat := (by omega)
          rw [if_neg q]; rw [if_neg q2]
          exact e7 k (by omega)), (fun k hk => by have hk : c3 1 ≤ k := hk; show (upd (F3 7) v0.toInt.toNat v1) k = 0; unfold upd; rw [if_neg (show ¬ k = v0.toInt.toNat by omega)]; exact e8 k (by omega)), (fun k hk => e9 k (by have hk : k < c3 1 := hk; omega)), (fun k hk => e10 k (by have hk : k < c3 1 := hk; omega)), (by show cn 1 = c3 46; omega), (fun k hk => e12 k (by have hk : k < cn 1 := hk; omega)), (fun k hk => e13 k (by have hk : k < c3 46 := hk; omega)), (by show Fn 28 = F3 53; rw [e14]), (fun k => e15 k), trivial⟩⟩
  · exfalso
    have em : m = v0.toInt.toNat := by omega
    subst em
    have q7 := congrArg Int32.toInt (e7 v0.toInt.toNat (by omega))
    omega
theorem ix_Elorry {ad : Nat → Nat → Nat} {cn c2 : Nat → Nat} {In I2 : Nat → Int32} {Fn F2 : Nat → Nat → Int32} {r : Int32} {v0 : Int32} (h : IX ad cn Fn) (w : (∀ k : Nat, k ∉ [] → I2 k = In k) ∧ ((r = nI (cn 1) ∧ (20 ≤ v0.toInt ∧ v0.toInt ≤ 2000 ∧ cn 1 < 3) ∧ (va_up cn 1 (cn 1 + 1)) = c2 ∧ (va_up Fn 27 (putM (Fn 27) 3 (nI (cn 1)) v0)) = F2) ∨ (r = -1 ∧ (¬ (20 ≤ v0.toInt ∧ v0.toInt ≤ 2000 ∧ cn 1 < 3)) ∧ cn = c2 ∧ Fn = F2))) : IX ad c2 F2 := by
  have hb := h.1
  obtain ⟨-, w⟩ := w
  rcases w with ⟨-, hc, rfl, rfl⟩ | ⟨-, hc, rfl, rfl⟩
  · exact (IX.ff (IX.cb h ⟨(by show cn 0 ≤ 399; omega), (by show (cn 1 + 1) ≤ 3; omega), (by show cn 2 ≤ 20; omega), (by show cn 3 ≤ 200; omega), (by show cn 4 ≤ 8; omega), (by show cn 5 ≤ 40; omega), (by show cn 10 ≤ 10; omega), (by show cn 11 ≤ 60; omega), (by show cn 12 ≤ 10; omega), (by show cn 13 ≤ 40; omega), (by show cn 14 ≤ 10; omega), (by show cn 15 ≤ 60; omega), (by show cn 10 ≤ cn 20; omega), (by show cn 11 ≤ cn 21; omega), (by show cn 12 ≤ cn 22; omega), (by show cn 13 ≤ cn 23; omega), (by show cn 14 ≤ cn 24; omega), (by show cn 15 ≤ cn 25; omega), (by show cn 20 ≤ 100; omega), (by show cn 21 ≤ 100; omega), (by show cn 22 ≤ 100; omega), (by show cn 23 ≤ 100; omega), (by show cn 24 ≤ 100; omega), (by show cn 25 ≤ 100; omega)⟩ rfl rfl rfl rfl) (fun k hk => by simp only [List.mem_cons, List.not_mem_nil, or_false] at hk; rcases hk with rfl | rfl | rfl | rfl | rfl | rfl <;> rfl))
  · exact h
theorem eq_lorry {ad : Nat → Nat → Nat} {cn c3 : Nat → Nat} {c2 c4 : Nat → Nat} {In I2 I3 I4 : Nat → Int32} {F2 F4 : Nat → Nat → Int32} {Fn F3 : Nat → Nat → Int32} {r : Int32} {r2 : Int32} {v0 : Int32} (hI : IX ad cn Fn) (hM : IMM c3 F3) (hR : RR cn Fn c3 F3) (w : (∀ k : Nat, k ∉ [] → I2 k = In k) ∧ ((r = nI (cn 1) ∧ (20 ≤ v0.toInt ∧ v0.toInt ≤ 2000 ∧ cn 1 < 3) ∧ (va_up cn 1 (cn 1 + 1)) = c2 ∧ (va_up Fn 27 (putM (Fn 27) 3 (nI (cn 1)) v0)) = F2) ∨ (r = -1 ∧ (¬ (20 ≤ v0.toInt ∧ v0.toInt ≤ 2000 ∧ cn 1 < 3)) ∧ cn = c2 ∧ Fn = F2))) (w2 : (((20 ≤ v0.toInt ∧ v0.toInt ≤ 2000) ∧ c3 46 < 3) ∧ r2 = nI (c3 46) ∧ c4 = va_up c3 46 (c3 46 + 1) ∧ I4 = I3 ∧ F4 = (va_up F3 47 (upd (F3 47) (c3 46) v0))) ∨ ((¬ ((20 ≤ v0.toInt ∧ v0.toInt ≤ 2000) ∧ c3 46 < 3)) ∧ r2 = -1 ∧ c4 = c3 ∧ I4 = I3 ∧ F4 = F3)) : True ∧ RR c2 F2 c4 F4 := by
  have hb := hI.1
  have hm7 := hM.1.2.1
  have e0 : cn 0 = c3 0 := hR.1
  have e1 : cn 10 = c3 1 := hR.2.1
  have e2 : cn 11 = c3 2 := hR.2.2.1
  have e3 : (∀ k : Nat, k < cn 10 → Fn 100 k = F3 3 k) := hR.2.2.2.1
  have e4 : (∀ k : Nat, k < cn 10 → Fn 101 k = F3 4 k) := hR.2.2.2.2.1
  have e5 : (∀ k : Nat, k < cn 10 → Fn 102 k = F3 5 k) := hR.2.2.2.2.2.1
  have e6 : (∀ k : Nat, k < cn 10 → Fn 103 k = F3 6 k) := hR.2.2.2.2.2.2.1
  have e7 : (∀ k : Nat, k < cn 10 → Fn 104 k = F3 7 k) := hR.2.2.2.2.2.2.2.1
  have e8 : (∀ k : Nat, c3 1 ≤ k → F3 7 k = 0) := hR.2.2.2.2.2.2.2.2.1
  have e9 : (∀ k : Nat, k < c3 1 → 0 ≤ (F3 3 k).toInt ∧ (F3 3 k).toInt ≤ 99) := hR.2.2.2.2.2.2.2.2.2.1
  have e10 : (∀ k : Nat, k < c3 1 → 0 ≤ (F3 4 k).toInt ∧ (F3 4 k).toInt ≤ 99) := hR.2.2.2.2.2.2.2.2.2.2.1
  have e11 : cn 1 = c3 46 := hR.2.2.2.2.2.2.2.2.2.2.2.1
  have e12 : (∀ k : Nat, k < cn 1 → Fn 27 k = F3 47 k) := hR.2.2.2.2.2.2.2.2.2.2.2.2.1
  have e13 : (∀ k : Nat, k < c3 46 → 0 ≤ (F3 47 k).toInt) := hR.2.2.2.2.2.2.2.2.2.2.2.2.2.1
  have e14 : Fn 28 = F3 53 := hR.2.2.2.2.2.2.2.2.2.2.2.2.2.2.1
  have e15 : (∀ k : Nat, F3 53 k = 0 ∨ F3 53 k = 1) := hR.2.2.2.2.2.2.2.2.2.2.2.2.2.2.2.1
  obtain ⟨-, w⟩ := w
  rcases w with ⟨er, hc, rfl, rfl⟩ | ⟨er, hc, rfl, rfl⟩ <;> rcases w2 with ⟨hc2, er2, rfl, hc5, rfl⟩ | ⟨hc2, er2, rfl, hc5, rfl⟩
  · exact ⟨trivial, ⟨(by show cn 0 = c3 0; omega), (by show cn 10 = c3 1; omega), (by show cn 11 = c3 2; omega), (fun k hk => e3 k (by have hk : k < cn 10 := hk; omega)), (fun k hk => e4 k (by have hk : k < cn 10 := hk; omega)), (fun k hk => e5 k (by have hk : k < cn 10 := hk; omega)), (fun k hk => e6 k (by have hk : k < cn 10 := hk; omega)), (fun k hk => e7 k (by have hk : k < cn 10 := hk; omega)), (fun k hk => e8 k (by have hk : c3 1 ≤ k := hk; omega)), (fun k hk => e9 k (by have hk : k < c3 1 := hk; omega)), (fun k hk => e10 k (by have hk : k < c3 1 := hk; omega)), (by show (cn 1 + 1) = (c3 46 + 1); omega), (fun k hk => by
        have hk : k < cn 1 + 1 := hk
        show putM (Fn 27) 3 (nI (cn 1)) v0 k = upd (F3 47) (c3 46) v0 k
        rw [putW (by omega) (by decide)]
        unfold upd
        by_cases q : k = cn 1
        · rw [if_pos q, if_pos (by omega)]
        · rw [if_neg q, if_neg (by omega)]; exact e12 k (by omega)), (fun k hk => by
        have hk : k < (c3 46 + 1) := hk
        show 0 ≤ ((upd (F3 47) (c3 46) v0) k).toInt
        unfold upd
        by_cases q : k = (c3 46)
        · rw [if_pos q]; omega
        · rw [if_neg q]; exact e13 k (by omega)), (by show Fn 28 = F3 53; rw [e14]), (fun k => e15 k), trivial⟩⟩
  · exfalso; omega
  · exfalso; omega
  · exact ⟨trivial, ⟨(by first | exact e0 | omega), (by first | exact e1 | omega), (by first | exact e2 | omega), e3, e4, e5, e6, e7, e8, e9, e10, (by first | exact e11 | omega), e12, e13, e14, e15, trivial⟩⟩
theorem ix_Eoff {ad : Nat → Nat → Nat} {cn c2 : Nat → Nat} {In I2 : Nat → Int32} {Fn F2 : Nat → Nat → Int32} {r : Int32} {v0 v1 v2 : Int32} (h : IX ad cn Fn) (w : (∀ k : Nat, k ∉ [] → I2 k = In k) ∧ ((r = 1 ∧ ((0 ≤ v0.toInt ∧ v0.toInt < (cn 1 : Int) ∧ 0 ≤ v1.toInt ∧ v1.toInt ≤ 399) ∧ ((¬ Fn 28 (v0.toInt.toNat * 400 + v1.toInt.toNat) = 0 ∧ v2 = 0) ∨ (Fn 28 (v0.toInt.toNat * 400 + v1.toInt.toNat) = 0 ∧ v2 = 1))) ∧ cn = c2 ∧ (va_up Fn 28 (upd (Fn 28) (v0.toInt.toNat * 400 + v1.toInt.toNat) v2)) = F2) ∨ (r = 0 ∧ (¬ (0 ≤ v0.toInt ∧ v0.toInt < (cn 1 : Int) ∧ 0 ≤ v1.toInt ∧ v1.toInt ≤ 399) ∨ (¬ Fn 28 (v0.toInt.toNat * 400 + v1.toInt.toNat) = 0 ∧ v2 = 1) ∨ (Fn 28 (v0.toInt.toNat * 400 + v1.toInt.toNat) = 0 ∧ v2 = 0)) ∧ cn = c2 ∧ Fn = F2))) : IX ad c2 F2 := by
  have hb := h.1
  obtain ⟨-, w⟩ := w
  rcases w with ⟨-, hc, rfl, rfl⟩ | ⟨-, hc, rfl, rfl⟩
  · exact (IX.ff h (fun k hk => by simp only [List.mem_cons, List.not_mem_nil, or_false] at hk; rcases hk with rfl | rfl | rfl | rfl | rfl | rfl <;> rfl))
  · exact h
theorem eq_off {ad : Nat → Nat → Nat} {cn c3 : Nat → Nat} {c2 c4 : Nat → Nat} {In I2 I3 I4 : Nat → Int32} {F2 F4 : Nat → Nat → Int32} {Fn F3 : Nat → Nat → Int32} {r : Int32} {r2 : Int32} {v0 v1 v2 : Int32} (hv : v2 = 0 ∨ v2 = 1) (hI : IX ad cn Fn) (hM : IMM c3 F3) (hR : RR cn Fn c3 F3) (w : (∀ k : Nat, k ∉ [] → I2 k = In k) ∧ ((r = 1 ∧ ((0 ≤ v0.toInt ∧ v0.toInt < (cn 1 : Int) ∧ 0 ≤ v1.toInt ∧ v1.toInt ≤ 399) ∧ ((¬ Fn 28 (v0.toInt.toNat * 400 + v1.toInt.toNat) = 0 ∧ v2 = 0) ∨ (Fn 28 (v0.toInt.toNat * 400 + v1.toInt.toNat) = 0 ∧ v2 = 1))) ∧ cn = c2 ∧ (va_up Fn 28 (upd (Fn 28) (v0.toInt.toNat * 400 + v1.toInt.toNat) v2)) = F2) ∨ (r = 0 ∧ (¬ (0 ≤ v0.toInt ∧ v0.toInt < (cn 1 : Int) ∧ 0 ≤ v1.toInt ∧ v1.toInt ≤ 399) ∨ (¬ Fn 28 (v0.toInt.toNat * 400 + v1.toInt.toNat) = 0 ∧ v2 = 1) ∨ (Fn 28 (v0.toInt.toNat * 400 + v1.toInt.toNat) = 0 ∧ v2 = 0)) ∧ cn = c2 ∧ Fn = F2))) (w2 : ((0 ≤ v0.toInt ∧ v0.toInt < (c3 46 : Int) ∧ 0 ≤ v1.toInt ∧ v1.toInt ≤ 399 ∧ F3 53 (400 * v0.toInt.toNat + v1.toInt.toNat) ≠ v2) ∧ r2 = 1 ∧ c4 = c3 ∧ I4 = I3 ∧ F4 = (va_up F3 53 (upd (F3 53) (400 * v0.toInt.toNat + v1.toInt.toNat) (vp_nar .boolean v2)))) ∨ ((¬ (0 ≤ v0.toInt ∧ v0.toInt < (c3 46 : Int) ∧ 0 ≤ v1.toInt ∧ v1.toInt ≤ 399 ∧ F3 53 (400 * v0.toInt.toNat + v1.toInt.toNat) ≠ v2)) ∧ r2 = 0 ∧ c4 = c3 ∧ I4 = I3 ∧ F4 = F3)) : True ∧ RR c2 F2 c4 F4 := by
  have hb := hI.1
  have hm7 := hM.1.2.1
  have e0 : cn 0 = c3 0 := hR.1
  have e1 : cn 10 = c3 1 := hR.2.1
  have e2 : cn 11 = c3 2 := hR.2.2.1
  have e3 : (∀ k : Nat, k < cn 10 → Fn 100 k = F3 3 k) := hR.2.2.2.1
  have e4 : (∀ k : Nat, k < cn 10 → Fn 101 k = F3 4 k) := hR.2.2.2.2.1
  have e5 : (∀ k : Nat, k < cn 10 → Fn 102 k = F3 5 k) := hR.2.2.2.2.2.1
  have e6 : (∀ k : Nat, k < cn 10 → Fn 103 k = F3 6 k) := hR.2.2.2.2.2.2.1
  have e7 : (∀ k : Nat, k < cn 10 → Fn 104 k = F3 7 k) := hR.2.2.2.2.2.2.2.1
  have e8 : (∀ k : Nat, c3 1 ≤ k → F3 7 k = 0) := hR.2.2.2.2.2.2.2.2.1
  have e9 : (∀ k : Nat, k < c3 1 → 0 ≤ (F3 3 k).toInt ∧ (F3 3 k).toInt ≤ 99) := hR.2.2.2.2.2.2.2.2.2.1
  have e10 : (∀ k : Nat, k < c3 1 → 0 ≤ (F3 4 k).toInt ∧ (F3 4 k).toInt ≤ 99) := hR.2.2.2.2.2.2.2.2.2.2.1
  have e11 : cn 1 = c3 46 := hR.2.2.2.2.2.2.2.2.2.2.2.1
  have e12 : (∀ k : Nat, k < cn 1 → Fn 27 k = F3 47 k) := hR.2.2.2.2.2.2.2.2.2.2.2.2.1
  have e13 : (∀ k : Nat, k < c3 46 → 0 ≤ (F3 47 k).toInt) := hR.2.2.2.2.2.2.2.2.2.2.2.2.2.1
  have e14 : Fn 28 = F3 53 := hR.2.2.2.2.2.2.2.2.2.2.2.2.2.2.1
  have e15 : (∀ k : Nat, F3 53 k = 0 ∨ F3 53 k = 1) := hR.2.2.2.2.2.2.2.2.2.2.2.2.2.2.2.1
  obtain ⟨-, w⟩ := w
  have ei : v0.toInt.toNat * 400 + v1.toInt.toNat = 400 * v0.toInt.toNat + v1.toInt.toNat := by omega
  rw [e14, ei] at w
  have ek := e15 (400 * v0.toInt.toNat + v1.toInt.toNat)
  rcases w with ⟨er, hc, rfl, rfl⟩ | ⟨er, hc, rfl, rfl⟩ <;> rcases w2 with ⟨hc2, er2, rfl, -, rfl⟩ | ⟨hc2, er2, rfl, -, rfl⟩
  · refine ⟨by first | trivial | (rw [er, er2]), e0, e1, e2, (fun k hk => e3 k hk), (fun k hk => e4 k hk), (fun k hk => e5 k hk), (fun k hk => e6 k hk), (fun k hk => e7 k hk), (fun k hk => e8 k hk), (fun k hk => e9 k hk), (fun k hk => e10 k hk), e11, (fun k hk => e12 k hk), (fun k hk => e13 k hk), ?_, ?_, trivial⟩
    · show upd (F3 53) (400 * v0.toInt.toNat + v1.toInt.toNat) v2 = upd (F3 53) (400 * v0.toInt.toNat + v1.toInt.toNat) (vp_nar .boolean v2)
      rcases hv with rfl | rfl <;> rfl
    · intro k
      show upd (F3 53) (400 * v0.toInt.toNat + v1.toInt.toNat) (vp_nar .boolean v2) k = 0 ∨ upd (F3 53) (400 * v0.toInt.toNat + v1.toInt.toNat) (vp_nar .boolean v2) k = 1
      unfold upd
      split
      · rcases hv with rfl | rfl
        · exact Or.inl rfl
        · exact Or.inr rfl
      · exact e15 k
  · exfalso
    apply hc2
    refine ⟨by omega, by omega, by omega, by omega, ?_⟩
    rcases hc.2 with ⟨a, rfl⟩ | ⟨a, rfl⟩
    · exact a
    · rw [a]; decide
  · exfalso
    rcases hc with q | ⟨q, q2⟩ | ⟨q, q2⟩
    · omega
    · exact hc2.2.2.2.2 ((ek.resolve_left q).trans q2.symm)
    · exact hc2.2.2.2.2 (q.trans q2.symm)
  · exact ⟨by first | trivial | (rw [er, er2]), e0, e1, e2, e3, e4, e5, e6, e7, e8, e9, e10, e11, e12, e13, e14, e15, trivial⟩
theorem imm_now {cn c2 : Nat → Nat} {In I2 : Nat → Int32} {Fn F2 : Nat → Nat → Int32} {r : Int32} {v0 : Int32} (h : IMM cn Fn) (w : (((cn 0 : Int) ≤ v0.toInt ∧ v0.toInt ≤ 399) ∧ r = 1 ∧ c2 = va_up cn 0 v0.toInt.toNat ∧ I2 = In ∧ F2 = Fn) ∨ ((¬ ((cn 0 : Int) ≤ v0.toInt ∧ v0.toInt ≤ 399)) ∧ r = 0 ∧ c2 = cn ∧ I2 = In ∧ F2 = Fn)) : IMM c2 F2 ∧ (∀ k : Nat, k ∉ ([0] : List Nat) → c2 k = cn k) ∧ ∀ k : Nat, k ∉ ([] : List Nat) → F2 k = Fn k := by
  refine ⟨⟨im_now h.1 w, ?_⟩, fun k hk => ?_, fun k hk => ?_⟩
  · have h2 := h.2
    rcases w with ⟨-, -, e, -, eF⟩ | ⟨-, -, e, -, eF⟩ <;> (subst e; first | exact h2 | rfl)
  · rcases w with ⟨-, -, e, -, eF⟩ | ⟨-, -, e, -, eF⟩ <;> (subst e; first | rfl | (simp only [List.mem_cons, List.not_mem_nil, or_false, not_or] at hk; simp [va_up, hk]))
  · rcases w with ⟨-, -, e, -, eF⟩ | ⟨-, -, e, -, eF⟩ <;> (subst eF; first | rfl | (simp only [List.mem_cons, List.not_mem_nil, or_false, not_or] at hk; simp [va_up, hk]))
theorem imm_kitchen {cn c2 : Nat → Nat} {In I2 : Nat → Int32} {Fn F2 : Nat → Nat → Int32} {r : Int32} {v0 v1 v2 v3 : Int32} (h : IMM cn Fn) (w : (((0 ≤ v0.toInt ∧ v0.toInt ≤ 99) ∧ (0 ≤ v1.toInt ∧ v1.toInt ≤ 99) ∧ (0 ≤ v2.toInt ∧ v2.toInt ≤ 50) ∧ (20 ≤ v3.toInt ∧ v3.toInt ≤ 400) ∧ cn 1 < 10) ∧ r = nI (cn 1) ∧ c2 = va_up cn 1 (cn 1 + 1) ∧ I2 = In ∧ F2 = va_up (va_up (va_up (va_up Fn 3 (upd (Fn 3) (cn 1) v0)) 4 (upd (Fn 4) (cn 1) v1)) 5 (upd (Fn 5) (cn 1) v2)) 6 (upd (Fn 6) (cn 1) v3)) ∨ ((¬ ((0 ≤ v0.toInt ∧ v0.toInt ≤ 99) ∧ (0 ≤ v1.toInt ∧ v1.toInt ≤ 99) ∧ (0 ≤ v2.toInt ∧ v2.toInt ≤ 50) ∧ (20 ≤ v3.toInt ∧ v3.toInt ≤ 400) ∧ cn 1 < 10)) ∧ r = -1 ∧ c2 = cn ∧ I2 = In ∧ F2 = Fn)) : IMM c2 F2 ∧ (∀ k : Nat, k ∉ ([1] : List Nat) → c2 k = cn k) ∧ ∀ k : Nat, k ∉ ([3, 4, 5, 6] : List Nat) → F2 k = Fn k := by
  refine ⟨⟨im_kitchen h.1 w, ?_⟩, fun k hk => ?_, fun k hk => ?_⟩
  · have h2 := h.2
    rcases w with ⟨-, -, e, -, eF⟩ | ⟨-, -, e, -, eF⟩ <;> (subst e; first | exact h2 | rfl)
  · rcases w with ⟨-, -, e, -, eF⟩ | ⟨-, -, e, -, eF⟩ <;> (subst e; first | rfl | (simp only [List.mem_cons, List.not_mem_nil, or_false, not_or] at hk; simp [va_up, hk]))
  · rcases w with ⟨-, -, e, -, eF⟩ | ⟨-, -, e, -, eF⟩ <;> (subst eF; first | rfl | (simp only [List.mem_cons, List.not_mem_nil, or_false, not_or] at hk; simp [va_up, hk]))
theorem imm_fetch {cn c2 : Nat → Nat} {In I2 : Nat → Int32} {Fn F2 : Nat → Nat → Int32} {r : Int32} {v0 v1 v2 v3 v4 v5 : Int32} (h : IMM cn Fn) (w : ((0 ≤ v0.toInt ∧ v0.toInt < (cn 1 : Int) ∧ (Fn 7 v0.toInt.toNat).toInt ≤ v1.toInt ∧ v1.toInt ≤ (cn 0 : Int) ∧ (0 ≤ v2.toInt ∧ v2.toInt ≤ 400) ∧ (0 ≤ v3.toInt ∧ v3.toInt ≤ 1000) ∧ (0 ≤ v4.toInt ∧ v4.toInt ≤ 1000) ∧ v1.toInt ≤ v5.toInt ∧ v5.toInt ≤ 399 ∧ cn 2 < 60) ∧ r = nI (cn 2) ∧ c2 = va_up cn 2 (cn 2 + 1) ∧ I2 = In ∧ F2 = (va_up (va_up (va_up (va_up (va_up (va_up (va_up (va_up (va_up (va_up Fn 8 (upd (Fn 8) (cn 2) v0)) 9 (upd (Fn 9) (cn 2) v1)) 10 (upd (Fn 10) (cn 2) v2)) 11 (upd (Fn 11) (cn 2) v3)) 12 (upd (Fn 12) (cn 2) v4)) 13 (upd (Fn 13) (cn 2) v5)) 14 (upd (Fn 14) (cn 2) (lackM (lkM Fn v0.toInt.toNat v1) v2))) 15 (upd (Fn 15) (cn 2) (-1))) 16 (upd (Fn 16) (cn 2) (Fn 7 v0.toInt.toNat))) 7 (upd (Fn 7) v0.toInt.toNat v1))) ∨ ((¬ (0 ≤ v0.toInt ∧ v0.toInt < (cn 1 : Int) ∧ (Fn 7 v0.toInt.toNat).toInt ≤ v1.toInt ∧ v1.toInt ≤ (cn 0 : Int) ∧ (0 ≤ v2.toInt ∧ v2.toInt ≤ 400) ∧ (0 ≤ v3.toInt ∧ v3.toInt ≤ 1000) ∧ (0 ≤ v4.toInt ∧ v4.toInt ≤ 1000) ∧ v1.toInt ≤ v5.toInt ∧ v5.toInt ≤ 399 ∧ cn 2 < 60)) ∧ r = -1 ∧ c2 = cn ∧ I2 = In ∧ F2 = Fn)) : IMM c2 F2 ∧ (∀ k : Nat, k ∉ ([2] : List Nat) → c2 k = cn k) ∧ ∀ k : Nat, k ∉ ([7, 8, 9, 10, 11, 12, 13, 14, 15, 16] : List Nat) → F2 k = Fn k := by
  refine ⟨⟨im_fetch h.1 w, ?_⟩, fun k hk => ?_, fun k hk => ?_⟩
  · have h2 := h.2
    rcases w with ⟨-, -, e, -, eF⟩ | ⟨-, -, e, -, eF⟩ <;> (subst e; first | exact h2 | rfl)
  · rcases w with ⟨-, -, e, -, eF⟩ | ⟨-, -, e, -, eF⟩ <;> (subst e; first | rfl | (simp only [List.mem_cons, List.not_mem_nil, or_false, not_or] at hk; simp [va_up, hk]))
  · rcases w with ⟨-, -, e, -, eF⟩ | ⟨-, -, e, -, eF⟩ <;> (subst eF; first | rfl | (simp only [List.mem_cons, List.not_mem_nil, or_false, not_or] at hk; simp [va_up, hk]))
theorem imm_feed {cn c2 : Nat → Nat} {In I2 : Nat → Int32} {Fn F2 : Nat → Nat → Int32}  (h : IMM cn Fn) (w : Fr [18] [] [17] cn In Fn c2 I2 F2 ∧ IM c2 F2 ∧ (c2 18 ≤ 200)) : IMM c2 F2 ∧ (∀ k : Nat, k ∉ ([18] : List Nat) → c2 k = cn k) ∧ ∀ k : Nat, k ∉ ([17] : List Nat) → F2 k = Fn k := by
  exact ⟨⟨w.2.1, w.2.2⟩, w.1.1, w.1.2.2⟩
theorem imm_contract8 {cn c2 : Nat → Nat} {In I2 : Nat → Int32} {Fn F2 : Nat → Nat → Int32}  (h : IMM cn Fn) (w : Fr [18, 19, 20, 23, 24, 25, 26] [21, 22] [27, 28, 29, 30, 31, 32, 33, 34, 35, 36] cn In Fn c2 I2 F2 ∧ IM c2 F2 ∧ (c2 18 ≤ 200)) : IMM c2 F2 ∧ (∀ k : Nat, k ∉ ([18, 19, 20, 23, 24, 25, 26] : List Nat) → c2 k = cn k) ∧ ∀ k : Nat, k ∉ ([27, 28, 29, 30, 31, 32, 33, 34, 35, 36] : List Nat) → F2 k = Fn k := by
  exact ⟨⟨w.2.1, w.2.2⟩, w.1.1, w.1.2.2⟩
theorem imm_law8 {cn c2 : Nat → Nat} {In I2 : Nat → Int32} {Fn F2 : Nat → Nat → Int32}  (h : IMM cn Fn) (w : Fr [18, 19, 20, 23, 24, 25, 26] [21, 22] [27, 28, 29, 30, 31, 32, 33, 34, 35, 36] cn In Fn c2 I2 F2 ∧ IM c2 F2 ∧ (c2 18 ≤ 200)) : IMM c2 F2 ∧ (∀ k : Nat, k ∉ ([18, 19, 20, 23, 24, 25, 26] : List Nat) → c2 k = cn k) ∧ ∀ k : Nat, k ∉ ([27, 28, 29, 30, 31, 32, 33, 34, 35, 36] : List Nat) → F2 k = Fn k := by
  exact ⟨⟨w.2.1, w.2.2⟩, w.1.1, w.1.2.2⟩
theorem imm_price {cn c2 : Nat → Nat} {In I2 : Nat → Int32} {Fn F2 : Nat → Nat → Int32} {r : Int32} {v0 v1 : Int32} (h : IMM cn Fn) (w : (((0 ≤ v0.toInt ∧ v0.toInt ≤ 57) ∧ (0 ≤ v1.toInt ∧ v1.toInt ≤ 1000)) ∧ r = 1 ∧ c2 = cn ∧ I2 = In ∧ F2 = (va_up Fn 39 (upd (Fn 39) v0.toInt.toNat v1))) ∨ ((¬ ((0 ≤ v0.toInt ∧ v0.toInt ≤ 57) ∧ (0 ≤ v1.toInt ∧ v1.toInt ≤ 1000))) ∧ r = 0 ∧ c2 = cn ∧ I2 = In ∧ F2 = Fn)) : IMM c2 F2 ∧ (∀ k : Nat, k ∉ ([] : List Nat) → c2 k = cn k) ∧ ∀ k : Nat, k ∉ ([39] : List Nat) → F2 k = Fn k := by
  refine ⟨⟨im_price h.1 w, ?_⟩, fun k hk => ?_, fun k hk => ?_⟩
  · have h2 := h.2
    rcases w with ⟨-, -, e, -, eF⟩ | ⟨-, -, e, -, eF⟩ <;> (subst e; first | exact h2 | rfl)
  · rcases w with ⟨-, -, e, -, eF⟩ | ⟨-, -, e, -, eF⟩ <;> (subst e; first | rfl | (simp only [List.mem_cons, List.not_mem_nil, or_false, not_or] at hk; simp [va_up, hk]))
  · rcases w with ⟨-, -, e, -, eF⟩ | ⟨-, -, e, -, eF⟩ <;> (subst eF; first | rfl | (simp only [List.mem_cons, List.not_mem_nil, or_false, not_or] at hk; simp [va_up, hk]))
theorem imm_pence {cn c2 : Nat → Nat} {In I2 : Nat → Int32} {Fn F2 : Nat → Nat → Int32}  (h : IMM cn Fn) (w : Fr [] [] [37, 38] cn In Fn c2 I2 F2 ∧ IM c2 F2 ∧ (True)) : IMM c2 F2 ∧ (∀ k : Nat, k ∉ ([] : List Nat) → c2 k = cn k) ∧ ∀ k : Nat, k ∉ ([37, 38] : List Nat) → F2 k = Fn k := by
  exact ⟨⟨w.2.1, (by rw [w.1.1 18 (by decide)]; exact h.2)⟩, w.1.1, w.1.2.2⟩
theorem imm_paid {cn c2 : Nat → Nat} {In I2 : Nat → Int32} {Fn F2 : Nat → Nat → Int32}  (h : IMM cn Fn) (w : Fr [] [] [37, 38] cn In Fn c2 I2 F2 ∧ IM c2 F2 ∧ (True)) : IMM c2 F2 ∧ (∀ k : Nat, k ∉ ([] : List Nat) → c2 k = cn k) ∧ ∀ k : Nat, k ∉ ([37, 38] : List Nat) → F2 k = Fn k := by
  exact ⟨⟨w.2.1, (by rw [w.1.1 18 (by decide)]; exact h.2)⟩, w.1.1, w.1.2.2⟩
theorem imm_round {cn c2 : Nat → Nat} {In I2 : Nat → Int32} {Fn F2 : Nat → Nat → Int32}  (h : IMM cn Fn) (w : Fr [44] [45] [42, 43] cn In Fn c2 I2 F2 ∧ IM c2 F2 ∧ (True)) : IMM c2 F2 ∧ (∀ k : Nat, k ∉ ([44] : List Nat) → c2 k = cn k) ∧ ∀ k : Nat, k ∉ ([42, 43] : List Nat) → F2 k = Fn k := by
  exact ⟨⟨w.2.1, (by rw [w.1.1 18 (by decide)]; exact h.2)⟩, w.1.1, w.1.2.2⟩
theorem imm_driven8 {cn c2 : Nat → Nat} {In I2 : Nat → Int32} {Fn F2 : Nat → Nat → Int32}  (h : IMM cn Fn) (w : Fr [18] [] [] cn In Fn c2 I2 F2 ∧ IM c2 F2 ∧ (c2 18 ≤ 200)) : IMM c2 F2 ∧ (∀ k : Nat, k ∉ ([18] : List Nat) → c2 k = cn k) ∧ ∀ k : Nat, k ∉ ([] : List Nat) → F2 k = Fn k := by
  exact ⟨⟨w.2.1, w.2.2⟩, w.1.1, w.1.2.2⟩
theorem imm_batch {cn c2 : Nat → Nat} {In I2 : Nat → Int32} {Fn F2 : Nat → Nat → Int32}  (h : IMM cn Fn) (w : Fr [62] [71, 72, 73] [15, 37, 38, 64, 65] cn In Fn c2 I2 F2 ∧ IM c2 F2 ∧ (True)) : IMM c2 F2 ∧ (∀ k : Nat, k ∉ ([62] : List Nat) → c2 k = cn k) ∧ ∀ k : Nat, k ∉ ([15, 37, 38, 64, 65] : List Nat) → F2 k = Fn k := by
  exact ⟨⟨w.2.1, (by rw [w.1.1 18 (by decide)]; exact h.2)⟩, w.1.1, w.1.2.2⟩
theorem imm_batchIs {cn c2 : Nat → Nat} {In I2 : Nat → Int32} {Fn F2 : Nat → Nat → Int32}  (h : IMM cn Fn) (w : Fr [] [71, 72, 73] [] cn In Fn c2 I2 F2 ∧ IM c2 F2 ∧ (True)) : IMM c2 F2 ∧ (∀ k : Nat, k ∉ ([] : List Nat) → c2 k = cn k) ∧ ∀ k : Nat, k ∉ ([] : List Nat) → F2 k = Fn k := by
  exact ⟨⟨w.2.1, (by rw [w.1.1 18 (by decide)]; exact h.2)⟩, w.1.1, w.1.2.2⟩
theorem imm_blend {cn c2 : Nat → Nat} {In I2 : Nat → Int32} {Fn F2 : Nat → Nat → Int32}  (h : IMM cn Fn) (w : Fr [] [71, 72, 73] [37, 38, 74] cn In Fn c2 I2 F2 ∧ IM c2 F2 ∧ (True)) : IMM c2 F2 ∧ (∀ k : Nat, k ∉ ([] : List Nat) → c2 k = cn k) ∧ ∀ k : Nat, k ∉ ([37, 38, 74] : List Nat) → F2 k = Fn k := by
  exact ⟨⟨w.2.1, (by rw [w.1.1 18 (by decide)]; exact h.2)⟩, w.1.1, w.1.2.2⟩
theorem imm_proof {cn c2 : Nat → Nat} {In I2 : Nat → Int32} {Fn F2 : Nat → Nat → Int32} {r : Int32} {v0 v1 v2 v3 : Int32} (h : IMM cn Fn) (w : Fr [63] [71, 72, 73] [66, 67, 68, 69, 70] cn In Fn c2 I2 F2 ∧ IM c2 F2 ∧ (((0 ≤ v0.toInt ∧ v0.toInt < (cn 62 : Int) ∧ 0 ≤ v1.toInt ∧ v1.toInt < v2.toInt ∧ v2.toInt ≤ ((mixN (Fn 10) (Fn 64 v0.toInt.toNat) 20 : Nat) : Int) ∧ (0 ≤ v3.toInt ∧ v3.toInt ≤ 9) ∧ cn 63 < 40) ∧ r = nI (cn 63) ∧ c2 = va_up cn 63 (cn 63 + 1) ∧ F2 = (va_up (va_up (va_up (va_up (va_up Fn 67 (upd (Fn 67) (cn 63) v0)) 68 (upd (Fn 68) (cn 63) v1)) 69 (upd (Fn 69) (cn 63) v2)) 70 (upd (Fn 70) (cn 63) v3)) 66 (upd (Fn 66) (cn 63) (nI (cn 0))))) ∨ (¬ (0 ≤ v0.toInt ∧ v0.toInt < (cn 62 : Int) ∧ 0 ≤ v1.toInt ∧ v1.toInt < v2.toInt ∧ v2.toInt ≤ ((mixN (Fn 10) (Fn 64 v0.toInt.toNat) 20 : Nat) : Int) ∧ (0 ≤ v3.toInt ∧ v3.toInt ≤ 9) ∧ cn 63 < 40) ∧ r = -1 ∧ c2 = cn ∧ F2 = Fn))) : IMM c2 F2 ∧ (∀ k : Nat, k ∉ ([63] : List Nat) → c2 k = cn k) ∧ ∀ k : Nat, k ∉ ([66, 67, 68, 69, 70] : List Nat) → F2 k = Fn k := by
  exact ⟨⟨w.2.1, (by rw [w.1.1 18 (by decide)]; exact h.2)⟩, w.1.1, w.1.2.2⟩
theorem imm_bought {cn c2 : Nat → Nat} {In I2 : Nat → Int32} {Fn F2 : Nat → Nat → Int32}  (h : IMM cn Fn) (w : Fr [] [71, 72, 73] [] cn In Fn c2 I2 F2 ∧ IM c2 F2 ∧ (True)) : IMM c2 F2 ∧ (∀ k : Nat, k ∉ ([] : List Nat) → c2 k = cn k) ∧ ∀ k : Nat, k ∉ ([] : List Nat) → F2 k = Fn k := by
  exact ⟨⟨w.2.1, (by rw [w.1.1 18 (by decide)]; exact h.2)⟩, w.1.1, w.1.2.2⟩
theorem imm_offers {cn c2 : Nat → Nat} {In I2 : Nat → Int32} {Fn F2 : Nat → Nat → Int32} {r : Int32} {v0 v1 v2 : Int32} (h : IMM cn Fn) (w : (((0 ≤ v0.toInt ∧ v0.toInt < (cn 1 : Int)) ∧ (0 ≤ v1.toInt ∧ v1.toInt ≤ 200) ∧ (0 ≤ v2.toInt ∧ v2.toInt ≤ 200)) ∧ r = 1 ∧ c2 = cn ∧ I2 = In ∧ F2 = (va_up (va_up Fn 84 (upd (Fn 84) v0.toInt.toNat v1)) 85 (upd (Fn 85) v0.toInt.toNat v2))) ∨ ((¬ ((0 ≤ v0.toInt ∧ v0.toInt < (cn 1 : Int)) ∧ (0 ≤ v1.toInt ∧ v1.toInt ≤ 200) ∧ (0 ≤ v2.toInt ∧ v2.toInt ≤ 200))) ∧ r = 0 ∧ c2 = cn ∧ I2 = In ∧ F2 = Fn)) : IMM c2 F2 ∧ (∀ k : Nat, k ∉ ([] : List Nat) → c2 k = cn k) ∧ ∀ k : Nat, k ∉ ([84, 85] : List Nat) → F2 k = Fn k := by
  refine ⟨⟨im_offers h.1 w, ?_⟩, fun k hk => ?_, fun k hk => ?_⟩
  · have h2 := h.2
    rcases w with ⟨-, -, e, -, eF⟩ | ⟨-, -, e, -, eF⟩ <;> (subst e; first | exact h2 | rfl)
  · rcases w with ⟨-, -, e, -, eF⟩ | ⟨-, -, e, -, eF⟩ <;> (subst e; first | rfl | (simp only [List.mem_cons, List.not_mem_nil, or_false, not_or] at hk; simp [va_up, hk]))
  · rcases w with ⟨-, -, e, -, eF⟩ | ⟨-, -, e, -, eF⟩ <;> (subst eF; first | rfl | (simp only [List.mem_cons, List.not_mem_nil, or_false, not_or] at hk; simp [va_up, hk]))
theorem imm_thefts {cn c2 : Nat → Nat} {In I2 : Nat → Int32} {Fn F2 : Nat → Nat → Int32} {r : Int32} {v0 v1 : Int32} (h : IMM cn Fn) (w : (((0 ≤ v0.toInt ∧ v0.toInt ≤ 23) ∧ (0 ≤ v1.toInt ∧ v1.toInt ≤ 1000)) ∧ r = 1 ∧ c2 = cn ∧ I2 = In ∧ F2 = (va_up Fn 86 (upd (Fn 86) v0.toInt.toNat v1))) ∨ ((¬ ((0 ≤ v0.toInt ∧ v0.toInt ≤ 23) ∧ (0 ≤ v1.toInt ∧ v1.toInt ≤ 1000))) ∧ r = 0 ∧ c2 = cn ∧ I2 = In ∧ F2 = Fn)) : IMM c2 F2 ∧ (∀ k : Nat, k ∉ ([] : List Nat) → c2 k = cn k) ∧ ∀ k : Nat, k ∉ ([86] : List Nat) → F2 k = Fn k := by
  refine ⟨⟨im_thefts h.1 w, ?_⟩, fun k hk => ?_, fun k hk => ?_⟩
  · have h2 := h.2
    rcases w with ⟨-, -, e, -, eF⟩ | ⟨-, -, e, -, eF⟩ <;> (subst e; first | exact h2 | rfl)
  · rcases w with ⟨-, -, e, -, eF⟩ | ⟨-, -, e, -, eF⟩ <;> (subst e; first | rfl | (simp only [List.mem_cons, List.not_mem_nil, or_false, not_or] at hk; simp [va_up, hk]))
  · rcases w with ⟨-, -, e, -, eF⟩ | ⟨-, -, e, -, eF⟩ <;> (subst eF; first | rfl | (simp only [List.mem_cons, List.not_mem_nil, or_false, not_or] at hk; simp [va_up, hk]))
theorem imm_sewer {cn c2 : Nat → Nat} {In I2 : Nat → Int32} {Fn F2 : Nat → Nat → Int32} {r : Int32} {v0 v1 : Int32} (h : IMM cn Fn) (w : (((0 ≤ v0.toInt ∧ v0.toInt ≤ 99) ∧ (0 ≤ v1.toInt ∧ v1.toInt ≤ 99) ∧ cn 83 < 10) ∧ r = nI (cn 83) ∧ c2 = va_up cn 83 (cn 83 + 1) ∧ I2 = In ∧ F2 = (va_up (va_up Fn 87 (upd (Fn 87) (cn 83) v0)) 88 (upd (Fn 88) (cn 83) v1))) ∨ ((¬ ((0 ≤ v0.toInt ∧ v0.toInt ≤ 99) ∧ (0 ≤ v1.toInt ∧ v1.toInt ≤ 99) ∧ cn 83 < 10)) ∧ r = -1 ∧ c2 = cn ∧ I2 = In ∧ F2 = Fn)) : IMM c2 F2 ∧ (∀ k : Nat, k ∉ ([83] : List Nat) → c2 k = cn k) ∧ ∀ k : Nat, k ∉ ([87, 88] : List Nat) → F2 k = Fn k := by
  refine ⟨⟨im_sewer h.1 w, ?_⟩, fun k hk => ?_, fun k hk => ?_⟩
  · have h2 := h.2
    rcases w with ⟨-, -, e, -, eF⟩ | ⟨-, -, e, -, eF⟩ <;> (subst e; first | exact h2 | rfl)
  · rcases w with ⟨-, -, e, -, eF⟩ | ⟨-, -, e, -, eF⟩ <;> (subst e; first | rfl | (simp only [List.mem_cons, List.not_mem_nil, or_false, not_or] at hk; simp [va_up, hk]))
  · rcases w with ⟨-, -, e, -, eF⟩ | ⟨-, -, e, -, eF⟩ <;> (subst eF; first | rfl | (simp only [List.mem_cons, List.not_mem_nil, or_false, not_or] at hk; simp [va_up, hk]))
theorem imm_blocked {cn c2 : Nat → Nat} {In I2 : Nat → Int32} {Fn F2 : Nat → Nat → Int32} {r : Int32} {v0 : Int32} (h : IMM cn Fn) (w : ((0 ≤ v0.toInt ∧ v0.toInt < (cn 83 : Int)) ∧ r = Fn 89 v0.toInt.toNat + 1 ∧ c2 = cn ∧ I2 = In ∧ F2 = (va_up Fn 89 (upd (Fn 89) v0.toInt.toNat (Fn 89 v0.toInt.toNat + 1)))) ∨ ((¬ (0 ≤ v0.toInt ∧ v0.toInt < (cn 83 : Int))) ∧ r = -1 ∧ c2 = cn ∧ I2 = In ∧ F2 = Fn)) : IMM c2 F2 ∧ (∀ k : Nat, k ∉ ([] : List Nat) → c2 k = cn k) ∧ ∀ k : Nat, k ∉ ([89] : List Nat) → F2 k = Fn k := by
  refine ⟨⟨im_blocked h.1 w, ?_⟩, fun k hk => ?_, fun k hk => ?_⟩
  · have h2 := h.2
    rcases w with ⟨-, -, e, -, eF⟩ | ⟨-, -, e, -, eF⟩ <;> (subst e; first | exact h2 | rfl)
  · rcases w with ⟨-, -, e, -, eF⟩ | ⟨-, -, e, -, eF⟩ <;> (subst e; first | rfl | (simp only [List.mem_cons, List.not_mem_nil, or_false, not_or] at hk; simp [va_up, hk]))
  · rcases w with ⟨-, -, e, -, eF⟩ | ⟨-, -, e, -, eF⟩ <;> (subst eF; first | rfl | (simp only [List.mem_cons, List.not_mem_nil, or_false, not_or] at hk; simp [va_up, hk]))
theorem imm_degrees {cn c2 : Nat → Nat} {In I2 : Nat → Int32} {Fn F2 : Nat → Nat → Int32} {r : Int32} {v0 v1 : Int32} (h : IMM cn Fn) (w : (((0 ≤ v0.toInt ∧ v0.toInt ≤ 399) ∧ ((-40) ≤ v1.toInt ∧ v1.toInt ≤ 40)) ∧ r = 1 ∧ c2 = cn ∧ I2 = In ∧ F2 = (va_up Fn 90 (upd (Fn 90) v0.toInt.toNat v1))) ∨ ((¬ ((0 ≤ v0.toInt ∧ v0.toInt ≤ 399) ∧ ((-40) ≤ v1.toInt ∧ v1.toInt ≤ 40))) ∧ r = 0 ∧ c2 = cn ∧ I2 = In ∧ F2 = Fn)) : IMM c2 F2 ∧ (∀ k : Nat, k ∉ ([] : List Nat) → c2 k = cn k) ∧ ∀ k : Nat, k ∉ ([90] : List Nat) → F2 k = Fn k := by
  refine ⟨⟨im_degrees h.1 w, ?_⟩, fun k hk => ?_, fun k hk => ?_⟩
  · have h2 := h.2
    rcases w with ⟨-, -, e, -, eF⟩ | ⟨-, -, e, -, eF⟩ <;> (subst e; first | exact h2 | rfl)
  · rcases w with ⟨-, -, e, -, eF⟩ | ⟨-, -, e, -, eF⟩ <;> (subst e; first | rfl | (simp only [List.mem_cons, List.not_mem_nil, or_false, not_or] at hk; simp [va_up, hk]))
  · rcases w with ⟨-, -, e, -, eF⟩ | ⟨-, -, e, -, eF⟩ <;> (subst eF; first | rfl | (simp only [List.mem_cons, List.not_mem_nil, or_false, not_or] at hk; simp [va_up, hk]))
theorem imm_street {cn c2 : Nat → Nat} {In I2 : Nat → Int32} {Fn F2 : Nat → Nat → Int32} {r : Int32} {v0 v1 : Int32} (h : IMM cn Fn) (w : (((0 ≤ v0.toInt ∧ v0.toInt < (cn 1 : Int)) ∧ (0 ≤ v1.toInt ∧ v1.toInt ≤ 9)) ∧ r = 1 ∧ c2 = cn ∧ I2 = In ∧ F2 = (va_up Fn 40 (upd (Fn 40) v0.toInt.toNat v1))) ∨ ((¬ ((0 ≤ v0.toInt ∧ v0.toInt < (cn 1 : Int)) ∧ (0 ≤ v1.toInt ∧ v1.toInt ≤ 9))) ∧ r = 0 ∧ c2 = cn ∧ I2 = In ∧ F2 = Fn)) : IMM c2 F2 ∧ (∀ k : Nat, k ∉ ([] : List Nat) → c2 k = cn k) ∧ ∀ k : Nat, k ∉ ([40] : List Nat) → F2 k = Fn k := by
  refine ⟨⟨im_street h.1 w, ?_⟩, fun k hk => ?_, fun k hk => ?_⟩
  · have h2 := h.2
    rcases w with ⟨-, -, e, -, eF⟩ | ⟨-, -, e, -, eF⟩ <;> (subst e; first | exact h2 | rfl)
  · rcases w with ⟨-, -, e, -, eF⟩ | ⟨-, -, e, -, eF⟩ <;> (subst e; first | rfl | (simp only [List.mem_cons, List.not_mem_nil, or_false, not_or] at hk; simp [va_up, hk]))
  · rcases w with ⟨-, -, e, -, eF⟩ | ⟨-, -, e, -, eF⟩ <;> (subst eF; first | rfl | (simp only [List.mem_cons, List.not_mem_nil, or_false, not_or] at hk; simp [va_up, hk]))
theorem imm_asIf {cn c2 : Nat → Nat} {In I2 : Nat → Int32} {Fn F2 : Nat → Nat → Int32}  (h : IMM cn Fn) (w : Fr [] [] [37, 38] cn In Fn c2 I2 F2 ∧ IM c2 F2 ∧ (True)) : IMM c2 F2 ∧ (∀ k : Nat, k ∉ ([] : List Nat) → c2 k = cn k) ∧ ∀ k : Nat, k ∉ ([37, 38] : List Nat) → F2 k = Fn k := by
  exact ⟨⟨w.2.1, (by rw [w.1.1 18 (by decide)]; exact h.2)⟩, w.1.1, w.1.2.2⟩
theorem imm_lorry {cn c2 : Nat → Nat} {In I2 : Nat → Int32} {Fn F2 : Nat → Nat → Int32} {r : Int32} {v0 : Int32} (h : IMM cn Fn) (w : (((20 ≤ v0.toInt ∧ v0.toInt ≤ 2000) ∧ cn 46 < 3) ∧ r = nI (cn 46) ∧ c2 = va_up cn 46 (cn 46 + 1) ∧ I2 = In ∧ F2 = (va_up Fn 47 (upd (Fn 47) (cn 46) v0))) ∨ ((¬ ((20 ≤ v0.toInt ∧ v0.toInt ≤ 2000) ∧ cn 46 < 3)) ∧ r = -1 ∧ c2 = cn ∧ I2 = In ∧ F2 = Fn)) : IMM c2 F2 ∧ (∀ k : Nat, k ∉ ([46] : List Nat) → c2 k = cn k) ∧ ∀ k : Nat, k ∉ ([47] : List Nat) → F2 k = Fn k := by
  refine ⟨⟨im_lorry h.1 w, ?_⟩, fun k hk => ?_, fun k hk => ?_⟩
  · have h2 := h.2
    rcases w with ⟨-, -, e, -, eF⟩ | ⟨-, -, e, -, eF⟩ <;> (subst e; first | exact h2 | rfl)
  · rcases w with ⟨-, -, e, -, eF⟩ | ⟨-, -, e, -, eF⟩ <;> (subst e; first | rfl | (simp only [List.mem_cons, List.not_mem_nil, or_false, not_or] at hk; simp [va_up, hk]))
  · rcases w with ⟨-, -, e, -, eF⟩ | ⟨-, -, e, -, eF⟩ <;> (subst eF; first | rfl | (simp only [List.mem_cons, List.not_mem_nil, or_false, not_or] at hk; simp [va_up, hk]))
theorem imm_off {cn c2 : Nat → Nat} {In I2 : Nat → Int32} {Fn F2 : Nat → Nat → Int32} {r : Int32} {v0 v1 v2 : Int32} (h : IMM cn Fn) (w : ((0 ≤ v0.toInt ∧ v0.toInt < (cn 46 : Int) ∧ 0 ≤ v1.toInt ∧ v1.toInt ≤ 399 ∧ Fn 53 (400 * v0.toInt.toNat + v1.toInt.toNat) ≠ v2) ∧ r = 1 ∧ c2 = cn ∧ I2 = In ∧ F2 = (va_up Fn 53 (upd (Fn 53) (400 * v0.toInt.toNat + v1.toInt.toNat) (vp_nar .boolean v2)))) ∨ ((¬ (0 ≤ v0.toInt ∧ v0.toInt < (cn 46 : Int) ∧ 0 ≤ v1.toInt ∧ v1.toInt ≤ 399 ∧ Fn 53 (400 * v0.toInt.toNat + v1.toInt.toNat) ≠ v2)) ∧ r = 0 ∧ c2 = cn ∧ I2 = In ∧ F2 = Fn)) : IMM c2 F2 ∧ (∀ k : Nat, k ∉ ([] : List Nat) → c2 k = cn k) ∧ ∀ k : Nat, k ∉ ([53] : List Nat) → F2 k = Fn k := by
  refine ⟨⟨im_off h.1 w, ?_⟩, fun k hk => ?_, fun k hk => ?_⟩
  · have h2 := h.2
    rcases w with ⟨-, -, e, -, eF⟩ | ⟨-, -, e, -, eF⟩ <;> (subst e; first | exact h2 | rfl)
  · rcases w with ⟨-, -, e, -, eF⟩ | ⟨-, -, e, -, eF⟩ <;> (subst e; first | rfl | (simp only [List.mem_cons, List.not_mem_nil, or_false, not_or] at hk; simp [va_up, hk]))
  · rcases w with ⟨-, -, e, -, eF⟩ | ⟨-, -, e, -, eF⟩ <;> (subst eF; first | rfl | (simp only [List.mem_cons, List.not_mem_nil, or_false, not_or] at hk; simp [va_up, hk]))
theorem imm_shared9 {cn c2 : Nat → Nat} {In I2 : Nat → Int32} {Fn F2 : Nat → Nat → Int32} {r : Int32} {v0 v1 v2 : Int32} (h : IMM cn Fn) (w : Fr [44] [] [42, 43, 48, 49, 50, 51] cn In Fn c2 I2 F2 ∧ IM c2 F2 ∧ ((¬ ((0 ≤ v0.toInt ∧ v0.toInt ≤ 399) ∧ (1 ≤ v1.toInt ∧ v1.toInt ≤ 400) ∧ (v2.toInt = -1 ∨ (0 ≤ v2.toInt ∧ v2.toInt < (cn 1 : Int)))) ∧ r = -1) ∨ (((0 ≤ v0.toInt ∧ v0.toInt ≤ 399) ∧ (1 ≤ v1.toInt ∧ v1.toInt ≤ 400) ∧ (v2.toInt = -1 ∨ (0 ≤ v2.toInt ∧ v2.toInt < (cn 1 : Int)))) ∧ (∃ k : Nat, k < cn 1 ∧ v0.toInt < (Fn 7 k).toInt) ∧ r = -2) ∨ (((0 ≤ v0.toInt ∧ v0.toInt ≤ 399) ∧ (1 ≤ v1.toInt ∧ v1.toInt ≤ 400) ∧ (v2.toInt = -1 ∨ (0 ≤ v2.toInt ∧ v2.toInt < (cn 1 : Int)))) ∧ ((∃ l : List Nat, AL (fun k9 => v1.toInt ≤ (lkM Fn k9 v0).toInt) (cn 1) l ∧ 6 < l.length ∧ r = -2) ∨ ((∀ k : Nat, k < cn 1 → (Fn 7 k).toInt ≤ v0.toInt) ∧ ∃ (l : List Nat) (T : Nat → Int32) (b y : Int32), AL (fun k9 => v1.toInt ≤ (lkM Fn k9 v0).toInt) (cn 1) l ∧ l.length ≤ 6 ∧ TBL (fun a b => apM (Fn 3 (l.getD a 0)) (Fn 4 (l.getD a 0)) (Fn 3 (l.getD b 0)) (Fn 4 (l.getD b 0))) (fun a => Fn 3 (l.getD a 0) + Fn 4 (l.getD a 0)) l.length T (2 ^ l.length) ∧ BSP (fun (t : Nat) (z : Int32) => VSH (cn 46) l.length (fun i => lkM Fn (l.getD i 0) v0) (fun j => ¬ Fn 53 (400 * j + v0.toInt.toNat) = 0) (Fn 47) (RND (fun a => Fn 3 (l.getD a 0) + Fn 4 (l.getD a 0)) l.length T) (DG (cn 46) l.length t) z) (cn 46 ^ l.length) b y ∧ SHG (cn 46) (DG (cn 46) l.length) l v2 r b y))))) : IMM c2 F2 ∧ (∀ k : Nat, k ∉ ([44] : List Nat) → c2 k = cn k) ∧ ∀ k : Nat, k ∉ ([42, 43, 48, 49, 50, 51] : List Nat) → F2 k = Fn k := by
  exact ⟨⟨w.2.1, (by rw [w.1.1 18 (by decide)]; exact h.2)⟩, w.1.1, w.1.2.2⟩
theorem imm_nights {cn c2 : Nat → Nat} {In I2 : Nat → Int32} {Fn F2 : Nat → Nat → Int32}  (h : IMM cn Fn) (w : Fr [44] [54, 55, 56] [7, 42, 43, 52] cn In Fn c2 I2 F2 ∧ IM c2 F2 ∧ (F2 7 = Fn 7)) : IMM c2 F2 ∧ (∀ k : Nat, k ∉ ([44] : List Nat) → c2 k = cn k) ∧ ∀ k : Nat, k ∉ ([42, 43, 52] : List Nat) → F2 k = Fn k := by
  exact ⟨⟨w.2.1, (by rw [w.1.1 18 (by decide)]; exact h.2)⟩, w.1.1, fun k hk => if q : k = 7 then by subst q; exact w.2.2 else w.1.2.2 k (by simp only [List.mem_cons, List.not_mem_nil, or_false, not_or] at hk ⊢; exact ⟨q, hk⟩)⟩
theorem imm_feast {cn c2 : Nat → Nat} {In I2 : Nat → Int32} {Fn F2 : Nat → Nat → Int32} {r : Int32} {v0 v1 : Int32} (h : IMM cn Fn) (w : (((0 ≤ v0.toInt ∧ v0.toInt ≤ 399) ∧ (0 ≤ v1.toInt ∧ v1.toInt ≤ 300)) ∧ r = 1 ∧ c2 = cn ∧ I2 = In ∧ F2 = (va_up Fn 41 (upd (Fn 41) v0.toInt.toNat v1))) ∨ ((¬ ((0 ≤ v0.toInt ∧ v0.toInt ≤ 399) ∧ (0 ≤ v1.toInt ∧ v1.toInt ≤ 300))) ∧ r = 0 ∧ c2 = cn ∧ I2 = In ∧ F2 = Fn)) : IMM c2 F2 ∧ (∀ k : Nat, k ∉ ([] : List Nat) → c2 k = cn k) ∧ ∀ k : Nat, k ∉ ([41] : List Nat) → F2 k = Fn k := by
  refine ⟨⟨im_feast h.1 w, ?_⟩, fun k hk => ?_, fun k hk => ?_⟩
  · have h2 := h.2
    rcases w with ⟨-, -, e, -, eF⟩ | ⟨-, -, e, -, eF⟩ <;> (subst e; first | exact h2 | rfl)
  · rcases w with ⟨-, -, e, -, eF⟩ | ⟨-, -, e, -, eF⟩ <;> (subst e; first | rfl | (simp only [List.mem_cons, List.not_mem_nil, or_false, not_or] at hk; simp [va_up, hk]))
  · rcases w with ⟨-, -, e, -, eF⟩ | ⟨-, -, e, -, eF⟩ <;> (subst eF; first | rfl | (simp only [List.mem_cons, List.not_mem_nil, or_false, not_or] at hk; simp [va_up, hk]))
theorem imm_drum {cn c2 : Nat → Nat} {In I2 : Nat → Int32} {Fn F2 : Nat → Nat → Int32} {r : Int32}  (h : IMM cn Fn) (w : ((cn 57 < 20) ∧ r = nI (cn 57) ∧ c2 = va_up cn 57 (cn 57 + 1) ∧ I2 = In ∧ F2 = Fn) ∨ ((¬ (cn 57 < 20)) ∧ r = -1 ∧ c2 = cn ∧ I2 = In ∧ F2 = Fn)) : IMM c2 F2 ∧ (∀ k : Nat, k ∉ ([57] : List Nat) → c2 k = cn k) ∧ ∀ k : Nat, k ∉ ([] : List Nat) → F2 k = Fn k := by
  refine ⟨⟨im_drum h.1 w, ?_⟩, fun k hk => ?_, fun k hk => ?_⟩
  · have h2 := h.2
    rcases w with ⟨-, -, e, -, eF⟩ | ⟨-, -, e, -, eF⟩ <;> (subst e; first | exact h2 | rfl)
  · rcases w with ⟨-, -, e, -, eF⟩ | ⟨-, -, e, -, eF⟩ <;> (subst e; first | rfl | (simp only [List.mem_cons, List.not_mem_nil, or_false, not_or] at hk; simp [va_up, hk]))
  · rcases w with ⟨-, -, e, -, eF⟩ | ⟨-, -, e, -, eF⟩ <;> (subst eF; first | rfl | (simp only [List.mem_cons, List.not_mem_nil, or_false, not_or] at hk; simp [va_up, hk]))
theorem imm_moves {cn c2 : Nat → Nat} {In I2 : Nat → Int32} {Fn F2 : Nat → Nat → Int32} {r : Int32} {v0 v1 v2 : Int32} (h : IMM cn Fn) (w : (r = 1 ∧ cn 58 < 60 ∧ c2 = va_up cn 58 (cn 58 + 1) ∧ I2 = In ∧ F2 = (va_up (va_up (va_up Fn 59 (upd (Fn 59) (cn 58) v0)) 60 (upd (Fn 60) (cn 58) v1)) 61 (upd (Fn 61) (cn 58) v2))) ∨ (r = 0 ∧ c2 = cn ∧ I2 = In ∧ F2 = Fn)) : IMM c2 F2 ∧ (∀ k : Nat, k ∉ ([58] : List Nat) → c2 k = cn k) ∧ ∀ k : Nat, k ∉ ([59, 60, 61] : List Nat) → F2 k = Fn k := by
  refine ⟨⟨im_moves h.1 w, ?_⟩, fun k hk => ?_, fun k hk => ?_⟩
  · have h2 := h.2
    rcases w with ⟨-, -, e, -, eF⟩ | ⟨-, e, -, eF⟩ <;> (subst e; first | exact h2 | rfl)
  · rcases w with ⟨-, -, e, -, eF⟩ | ⟨-, e, -, eF⟩ <;> (subst e; first | rfl | (simp only [List.mem_cons, List.not_mem_nil, or_false, not_or] at hk; simp [va_up, hk]))
  · rcases w with ⟨-, -, e, -, eF⟩ | ⟨-, e, -, eF⟩ <;> (subst eF; first | rfl | (simp only [List.mem_cons, List.not_mem_nil, or_false, not_or] at hk; simp [va_up, hk]))
theorem imm_whence {cn c2 : Nat → Nat} {In I2 : Nat → Int32} {Fn F2 : Nat → Nat → Int32}  (h : IMM cn Fn) (w : Fr [] [71, 72, 73] [] cn In Fn c2 I2 F2 ∧ IM c2 F2 ∧ (True)) : IMM c2 F2 ∧ (∀ k : Nat, k ∉ ([] : List Nat) → c2 k = cn k) ∧ ∀ k : Nat, k ∉ ([] : List Nat) → F2 k = Fn k := by
  exact ⟨⟨w.2.1, (by rw [w.1.1 18 (by decide)]; exact h.2)⟩, w.1.1, w.1.2.2⟩
theorem imm_use {cn c2 : Nat → Nat} {In I2 : Nat → Int32} {Fn F2 : Nat → Nat → Int32} {r : Int32} {v0 v1 : Int32} (h : IMM cn Fn) (w : (((0 ≤ v0.toInt ∧ v0.toInt ≤ 9) ∧ (0 ≤ v1.toInt ∧ v1.toInt ≤ 3)) ∧ r = 1 ∧ c2 = cn ∧ I2 = In ∧ F2 = (va_up Fn 76 (upd (Fn 76) v0.toInt.toNat v1))) ∨ ((¬ ((0 ≤ v0.toInt ∧ v0.toInt ≤ 9) ∧ (0 ≤ v1.toInt ∧ v1.toInt ≤ 3))) ∧ r = 0 ∧ c2 = cn ∧ I2 = In ∧ F2 = Fn)) : IMM c2 F2 ∧ (∀ k : Nat, k ∉ ([] : List Nat) → c2 k = cn k) ∧ ∀ k : Nat, k ∉ ([76] : List Nat) → F2 k = Fn k := by
  refine ⟨⟨im_use h.1 w, ?_⟩, fun k hk => ?_, fun k hk => ?_⟩
  · have h2 := h.2
    rcases w with ⟨-, -, e, -, eF⟩ | ⟨-, -, e, -, eF⟩ <;> (subst e; first | exact h2 | rfl)
  · rcases w with ⟨-, -, e, -, eF⟩ | ⟨-, -, e, -, eF⟩ <;> (subst e; first | rfl | (simp only [List.mem_cons, List.not_mem_nil, or_false, not_or] at hk; simp [va_up, hk]))
  · rcases w with ⟨-, -, e, -, eF⟩ | ⟨-, -, e, -, eF⟩ <;> (subst eF; first | rfl | (simp only [List.mem_cons, List.not_mem_nil, or_false, not_or] at hk; simp [va_up, hk]))
theorem imm_rate {cn c2 : Nat → Nat} {In I2 : Nat → Int32} {Fn F2 : Nat → Nat → Int32} {r : Int32} {v0 v1 v2 : Int32} (h : IMM cn Fn) (w : (((0 ≤ v0.toInt ∧ v0.toInt ≤ 3) ∧ (0 ≤ v1.toInt ∧ v1.toInt ≤ 57) ∧ (0 ≤ v2.toInt ∧ v2.toInt ≤ 1000)) ∧ r = 1 ∧ c2 = cn ∧ I2 = In ∧ F2 = (va_up Fn 77 (upd (Fn 77) (58 * v0.toInt.toNat + v1.toInt.toNat) v2))) ∨ ((¬ ((0 ≤ v0.toInt ∧ v0.toInt ≤ 3) ∧ (0 ≤ v1.toInt ∧ v1.toInt ≤ 57) ∧ (0 ≤ v2.toInt ∧ v2.toInt ≤ 1000))) ∧ r = 0 ∧ c2 = cn ∧ I2 = In ∧ F2 = Fn)) : IMM c2 F2 ∧ (∀ k : Nat, k ∉ ([] : List Nat) → c2 k = cn k) ∧ ∀ k : Nat, k ∉ ([77] : List Nat) → F2 k = Fn k := by
  refine ⟨⟨im_rate h.1 w, ?_⟩, fun k hk => ?_, fun k hk => ?_⟩
  · have h2 := h.2
    rcases w with ⟨-, -, e, -, eF⟩ | ⟨-, -, e, -, eF⟩ <;> (subst e; first | exact h2 | rfl)
  · rcases w with ⟨-, -, e, -, eF⟩ | ⟨-, -, e, -, eF⟩ <;> (subst e; first | rfl | (simp only [List.mem_cons, List.not_mem_nil, or_false, not_or] at hk; simp [va_up, hk]))
  · rcases w with ⟨-, -, e, -, eF⟩ | ⟨-, -, e, -, eF⟩ <;> (subst eF; first | rfl | (simp only [List.mem_cons, List.not_mem_nil, or_false, not_or] at hk; simp [va_up, hk]))
theorem imm_most {cn c2 : Nat → Nat} {In I2 : Nat → Int32} {Fn F2 : Nat → Nat → Int32} {r : Int32} {v0 v1 : Int32} (h : IMM cn Fn) (w : (((0 ≤ v0.toInt ∧ v0.toInt ≤ 9) ∧ (0 ≤ v1.toInt ∧ v1.toInt ≤ 100000)) ∧ r = 1 ∧ c2 = cn ∧ I2 = In ∧ F2 = (va_up Fn 78 (upd (Fn 78) v0.toInt.toNat v1))) ∨ ((¬ ((0 ≤ v0.toInt ∧ v0.toInt ≤ 9) ∧ (0 ≤ v1.toInt ∧ v1.toInt ≤ 100000))) ∧ r = 0 ∧ c2 = cn ∧ I2 = In ∧ F2 = Fn)) : IMM c2 F2 ∧ (∀ k : Nat, k ∉ ([] : List Nat) → c2 k = cn k) ∧ ∀ k : Nat, k ∉ ([78] : List Nat) → F2 k = Fn k := by
  refine ⟨⟨im_most h.1 w, ?_⟩, fun k hk => ?_, fun k hk => ?_⟩
  · have h2 := h.2
    rcases w with ⟨-, -, e, -, eF⟩ | ⟨-, -, e, -, eF⟩ <;> (subst e; first | exact h2 | rfl)
  · rcases w with ⟨-, -, e, -, eF⟩ | ⟨-, -, e, -, eF⟩ <;> (subst e; first | rfl | (simp only [List.mem_cons, List.not_mem_nil, or_false, not_or] at hk; simp [va_up, hk]))
  · rcases w with ⟨-, -, e, -, eF⟩ | ⟨-, -, e, -, eF⟩ <;> (subst eF; first | rfl | (simp only [List.mem_cons, List.not_mem_nil, or_false, not_or] at hk; simp [va_up, hk]))
theorem imm_sample {cn c2 : Nat → Nat} {In I2 : Nat → Int32} {Fn F2 : Nat → Nat → Int32} {r : Int32} {v1 : Int32} (h : IMM cn Fn) (w : (∃ k x : Nat, k < 10 ∧ x < 12 ∧ Fn 79 k = nI x ∧ r = nI (x + 1) ∧ c2 = cn ∧ I2 = In ∧ F2 = va_up (va_up Fn 80 (upd (Fn 80) (12 * k + x) v1)) 79 (upd (Fn 79) k (nI (x + 1)))) ∨ (r = -1 ∧ c2 = cn ∧ I2 = In ∧ F2 = Fn)) : IMM c2 F2 ∧ (∀ k : Nat, k ∉ ([] : List Nat) → c2 k = cn k) ∧ ∀ k : Nat, k ∉ ([79, 80] : List Nat) → F2 k = Fn k := by
  refine ⟨⟨im_sample (v0 := 0) h.1 w, ?_⟩, fun k hk => ?_, fun k hk => ?_⟩
  · have h2 := h.2
    rcases w with ⟨k, x, -, -, -, -, e, -, eF⟩ | ⟨-, e, -, eF⟩ <;> (subst e; first | exact h2 | rfl)
  · rcases w with ⟨k, x, -, -, -, -, e, -, eF⟩ | ⟨-, e, -, eF⟩ <;> (subst e; first | rfl | (simp only [List.mem_cons, List.not_mem_nil, or_false, not_or] at hk; simp [va_up, hk]))
  · rcases w with ⟨k, x, -, -, -, -, e, -, eF⟩ | ⟨-, e, -, eF⟩ <;> (subst eF; first | rfl | (simp only [List.mem_cons, List.not_mem_nil, or_false, not_or] at hk; simp [va_up, hk]))
theorem imm_spill {cn c2 : Nat → Nat} {In I2 : Nat → Int32} {Fn F2 : Nat → Nat → Int32} {r : Int32} {v0 v1 : Int32} (h : IMM cn Fn) (w : (((0 ≤ v0.toInt ∧ v0.toInt ≤ (cn 0 : Int)) ∧ (1 ≤ v1.toInt ∧ v1.toInt ≤ 400) ∧ cn 75 < 40) ∧ r = nI (cn 75 + 1) ∧ c2 = va_up cn 75 (cn 75 + 1) ∧ I2 = In ∧ F2 = (va_up (va_up Fn 81 (upd (Fn 81) (cn 75) v0)) 82 (upd (Fn 82) (cn 75) v1))) ∨ ((¬ ((0 ≤ v0.toInt ∧ v0.toInt ≤ (cn 0 : Int)) ∧ (1 ≤ v1.toInt ∧ v1.toInt ≤ 400) ∧ cn 75 < 40)) ∧ r = -1 ∧ c2 = cn ∧ I2 = In ∧ F2 = Fn)) : IMM c2 F2 ∧ (∀ k : Nat, k ∉ ([75] : List Nat) → c2 k = cn k) ∧ ∀ k : Nat, k ∉ ([81, 82] : List Nat) → F2 k = Fn k := by
  refine ⟨⟨im_spill h.1 w, ?_⟩, fun k hk => ?_, fun k hk => ?_⟩
  · have h2 := h.2
    rcases w with ⟨-, -, e, -, eF⟩ | ⟨-, -, e, -, eF⟩ <;> (subst e; first | exact h2 | rfl)
  · rcases w with ⟨-, -, e, -, eF⟩ | ⟨-, -, e, -, eF⟩ <;> (subst e; first | rfl | (simp only [List.mem_cons, List.not_mem_nil, or_false, not_or] at hk; simp [va_up, hk]))
  · rcases w with ⟨-, -, e, -, eF⟩ | ⟨-, -, e, -, eF⟩ <;> (subst eF; first | rfl | (simp only [List.mem_cons, List.not_mem_nil, or_false, not_or] at hk; simp [va_up, hk]))
theorem imm_stock {cn c2 : Nat → Nat} {In I2 : Nat → Int32} {Fn F2 : Nat → Nat → Int32}  (h : IMM cn Fn) (w : Fr [] [71, 72, 73] [] cn In Fn c2 I2 F2 ∧ IM c2 F2 ∧ (True)) : IMM c2 F2 ∧ (∀ k : Nat, k ∉ ([] : List Nat) → c2 k = cn k) ∧ ∀ k : Nat, k ∉ ([] : List Nat) → F2 k = Fn k := by
  exact ⟨⟨w.2.1, (by rw [w.1.1 18 (by decide)]; exact h.2)⟩, w.1.1, w.1.2.2⟩
theorem imm_below {cn c2 : Nat → Nat} {In I2 : Nat → Int32} {Fn F2 : Nat → Nat → Int32}  (h : IMM cn Fn) (w : Fr [] [71, 72, 73] [] cn In Fn c2 I2 F2 ∧ IM c2 F2 ∧ (True)) : IMM c2 F2 ∧ (∀ k : Nat, k ∉ ([] : List Nat) → c2 k = cn k) ∧ ∀ k : Nat, k ∉ ([] : List Nat) → F2 k = Fn k := by
  exact ⟨⟨w.2.1, (by rw [w.1.1 18 (by decide)]; exact h.2)⟩, w.1.1, w.1.2.2⟩
theorem imm_check8 {cn c2 : Nat → Nat} {In I2 : Nat → Int32} {Fn F2 : Nat → Nat → Int32}  (h : IMM cn Fn) (w : Fr [18] [] [] cn In Fn c2 I2 F2 ∧ IM c2 F2 ∧ (c2 18 ≤ 200)) : IMM c2 F2 ∧ (∀ k : Nat, k ∉ ([18] : List Nat) → c2 k = cn k) ∧ ∀ k : Nat, k ∉ ([] : List Nat) → F2 k = Fn k := by
  exact ⟨⟨w.2.1, w.2.2⟩, w.1.1, w.1.2.2⟩
