theorem upd_upd9 {f : Nat → Int32} {k : Nat} {x y : Int32} : upd (upd f k x) k y = upd f k y := by
  funext i
  by_cases q : i = k
  · subst q; simp [upd]
  · simp [upd, q]
theorem upd_id9 {f : Nat → Int32} {k : Nat} {x : Int32} (h : f k = x) : f = upd f k x := by
  funext i
  by_cases q : i = k
  · subst q; simp [upd, h]
  · simp [upd, q]
theorem xtc_new {cn c2 : Nat → Nat} {Fn F2 : Nat → Nat → Int32} {n : Nat} (hC : ∀ k : Nat, k < cn 6 → ∃ n : Nat, n ≤ 12 ∧ Fn 198 k = nI n) (h6 : c2 6 = cn 6 + 1) (hn : n ≤ 12) (e : F2 198 = upd (Fn 198) (cn 6) (nI n)) : ∀ k : Nat, k < c2 6 → ∃ n : Nat, n ≤ 12 ∧ F2 198 k = nI n := fun k hk => by
  rw [e]
  by_cases q : k = cn 6
  · subst q; exact ⟨n, hn, by simp [upd]⟩
  · obtain ⟨m, hm, em⟩ := hC k (by omega)
    exact ⟨m, hm, by simp [upd, q, em]⟩
theorem xsl_new {cn c2 : Nat → Nat} {Fn F2 : Nat → Nat → Int32} {n : Nat} (hL : ∀ k : Nat, k < cn 6 → (Fn 199 k).toInt ≤ 160) (h6 : c2 6 = cn 6 + 1) (hn : n ≤ 160) (e : F2 199 = upd (Fn 199) (cn 6) (nI n)) : ∀ k : Nat, k < c2 6 → (F2 199 k).toInt ≤ 160 := fun k hk => by
  rw [e]
  by_cases q : k = cn 6
  · subst q; simp only [upd, if_true]; rw [nI_toInt (by omega)]; omega
  · simp only [upd, if_neg q]; exact hL k (by omega)
theorem ht_new {ad a2 : Nat → Nat → Nat} {cn c2 : Nat → Nat} (h : (∀ k : Nat, k < cn 10 → ad 3 k < cn 6) ∧ ad 4 0 < cn 6 ∧ ad 4 1 < cn 6) (h3 : ∀ k : Nat, a2 3 k = ad 3 k) (h40 : a2 4 0 = ad 4 0) (h41 : a2 4 1 = cn 6) (h6 : c2 6 = cn 6 + 1) (h10 : c2 10 = cn 10) : (∀ k : Nat, k < c2 10 → a2 3 k < c2 6) ∧ a2 4 0 < c2 6 ∧ a2 4 1 < c2 6 := by
  refine ⟨fun k hk => ?_, by have := h.2.1; omega, by omega⟩
  rw [h3]; have := h.1 k (by omega); omega
theorem ht_k3 {ad : Nat → Nat → Nat} {cn : Nat → Nat} {m T : Nat} (h : (∀ k : Nat, k < cn 10 → ad 3 k < cn 6) ∧ ad 4 0 < cn 6 ∧ ad 4 1 < cn 6) (hT : T < cn 6) : (∀ k : Nat, k < cn 10 → adO ad 3 m T 3 k < cn 6) ∧ adO ad 3 m T 4 0 < cn 6 ∧ adO ad 3 m T 4 1 < cn 6 := by
  refine ⟨fun k hk => ?_, by simpa [adO] using h.2.1, by simpa [adO] using h.2.2⟩
  unfold adO
  split
  · exact hT
  · exact h.1 k hk
theorem ht_l {ad : Nat → Nat → Nat} {cn : Nat → Nat} {T : Nat} (h : (∀ k : Nat, k < cn 10 → ad 3 k < cn 6) ∧ ad 4 0 < cn 6 ∧ ad 4 1 < cn 6) (hT : T < cn 6) : (∀ k : Nat, k < cn 10 → adO ad 4 0 T 3 k < cn 6) ∧ adO ad 4 0 T 4 0 < cn 6 ∧ adO ad 4 0 T 4 1 < cn 6 := ⟨fun k hk => by simpa [adO] using h.1 k hk, by simpa [adO] using hT, by simpa [adO] using h.2.2⟩
theorem xaddT {cI QA : ClassId} {zz : Nat} {g : Nat → Nat} {ad : Nat → Nat → Nat} {cn : Nat → Nat} {In : Nat → Int32} {Fn : Nat → Nat → Int32} {qt r0 r1 r2 r3 r4 n : Nat} (hT : ∀ k : Nat, k < cn 10 → ad 3 k < cn 6) (h40 : ad 4 0 < cn 6) (hn : (nI n).toInt.toNat = n) : List.Perm (((wX cI QA zz g ad cn In Fn).set 3 (g 6, .inr (6, [.ref (ad 4 2), .ref qt, .int (In 30), .int (nI (cn 31)), .int (nI (cn 32)), .int (In 33)]))) ++ ([(qt, .inr (10, [.ref r0, .ref r1, .ref r2, .ref r3, .ref r4, .int 0, .int 0, .int 0, .int 0])), (r0, .inl (cI, n, .inl (fun _ => 0))), (r1, .inl (cI, 12, .inl (fun _ => 0))), (r2, .inl (cI, 12, .inl (fun _ => 0))), (r3, .inl (cI, 12, .inl (fun _ => 0))), (r4, .inl (cI, 32, .inl (fun _ => 0)))] : va_W)) (wX cI QA zz g (adO (adO (adO (adO (adO (adO (adO ad 5 (cn 6) qt) 60 (cn 6) r0) 61 (cn 6) r1) 62 (cn 6) r2) 63 (cn 6) r3) 64 (cn 6) r4) 4 1 (cn 6)) (va_up cn 6 (cn 6 + 1)) In (va_up (va_up (va_up (va_up (va_up (va_up (va_up (va_up (va_up (va_up Fn 195 (upd (Fn 195) (cn 6) 0)) 196 (upd (Fn 196) (cn 6) 0)) 197 (upd (Fn 197) (cn 6) 0)) 198 (upd (Fn 198) (cn 6) 0)) 199 (upd (Fn 199) (cn 6) (nI n))) 301 (flat (Fn 301) 200 (cn 6) (fun _ => 0))) 302 (flat (Fn 302) 12 (cn 6) (fun _ => 0))) 303 (flat (Fn 303) 12 (cn 6) (fun _ => 0))) 304 (flat (Fn 304) 12 (cn 6) (fun _ => 0))) 305 (flat (Fn 305) 32 (cn 6) (fun _ => 0)))) := by
  have a1 : (wX cI QA zz g ad cn In Fn).set 3 (g 6, .inr (6, [.ref (ad 4 2), .ref qt, .int (In 30), .int (nI (cn 31)), .int (nI (cn 32)), .int (In 33)])) = fxX cI QA zz g (adO (adO (adO (adO (adO (adO (adO ad 5 (cn 6) qt) 60 (cn 6) r0) 61 (cn 6) r1) 62 (cn 6) r2) 63 (cn 6) r3) 64 (cn 6) r4) 4 1 (cn 6)) (va_up cn 6 (cn 6 + 1)) In (va_up (va_up (va_up (va_up (va_up (va_up (va_up (va_up (va_up (va_up Fn 195 (upd (Fn 195) (cn 6) 0)) 196 (upd (Fn 196) (cn 6) 0)) 197 (upd (Fn 197) (cn 6) 0)) 198 (upd (Fn 198) (cn 6) 0)) 199 (upd (Fn 199) (cn 6) (nI n))) 301 (flat (Fn 301) 200 (cn 6) (fun _ => 0))) 302 (flat (Fn 302) 12 (cn 6) (fun _ => 0))) 303 (flat (Fn 303) 12 (cn 6) (fun _ => 0))) 304 (flat (Fn 304) 12 (cn 6) (fun _ => 0))) 305 (flat (Fn 305) 32 (cn 6) (fun _ => 0))) ++ famW (fsX cI QA zz g ad cn In Fn) := by
    simp only [wX, fxX]
    simp [adO, va_up, Nat.ne_of_lt h40, hn]
  have a5_0 : e7X cI QA zz g (adO (adO (adO (adO (adO (adO (adO ad 5 (cn 6) qt) 60 (cn 6) r0) 61 (cn 6) r1) 62 (cn 6) r2) 63 (cn 6) r3) 64 (cn 6) r4) 4 1 (cn 6)) (va_up cn 6 (cn 6 + 1)) In (va_up (va_up (va_up (va_up (va_up (va_up (va_up (va_up (va_up (va_up Fn 195 (upd (Fn 195) (cn 6) 0)) 196 (upd (Fn 196) (cn 6) 0)) 197 (upd (Fn 197) (cn 6) 0)) 198 (upd (Fn 198) (cn 6) 0)) 199 (upd (Fn 199) (cn 6) (nI n))) 301 (flat (Fn 301) 200 (cn 6) (fun _ => 0))) 302 (flat (Fn 302) 12 (cn 6) (fun _ => 0))) 303 (flat (Fn 303) 12 (cn 6) (fun _ => 0))) 304 (flat (Fn 304) 12 (cn 6) (fun _ => 0))) 305 (flat (Fn 305) 32 (cn 6) (fun _ => 0))) (cn 6) = (qt, .inr (10, [.ref r0, .ref r1, .ref r2, .ref r3, .ref r4, .int 0, .int 0, .int 0, .int 0])) := by simp [e7X, adO, va_up, upd, gA_flat, Nat.ne_of_lt h40, hn]
  have a5_1 : e8X cI QA zz g (adO (adO (adO (adO (adO (adO (adO ad 5 (cn 6) qt) 60 (cn 6) r0) 61 (cn 6) r1) 62 (cn 6) r2) 63 (cn 6) r3) 64 (cn 6) r4) 4 1 (cn 6)) (va_up cn 6 (cn 6 + 1)) In (va_up (va_up (va_up (va_up (va_up (va_up (va_up (va_up (va_up (va_up Fn 195 (upd (Fn 195) (cn 6) 0)) 196 (upd (Fn 196) (cn 6) 0)) 197 (upd (Fn 197) (cn 6) 0)) 198 (upd (Fn 198) (cn 6) 0)) 199 (upd (Fn 199) (cn 6) (nI n))) 301 (flat (Fn 301) 200 (cn 6) (fun _ => 0))) 302 (flat (Fn 302) 12 (cn 6) (fun _ => 0))) 303 (flat (Fn 303) 12 (cn 6) (fun _ => 0))) 304 (flat (Fn 304) 12 (cn 6) (fun _ => 0))) 305 (flat (Fn 305) 32 (cn 6) (fun _ => 0))) (cn 6) = (r0, .inl (cI, n, .inl (fun _ => 0))) := by simp [e8X, adO, va_up, upd, gA_flat, Nat.ne_of_lt h40, hn]
  have a5_2 : e9X cI QA zz g (adO (adO (adO (adO (adO (adO (adO ad 5 (cn 6) qt) 60 (cn 6) r0) 61 (cn 6) r1) 62 (cn 6) r2) 63 (cn 6) r3) 64 (cn 6) r4) 4 1 (cn 6)) (va_up cn 6 (cn 6 + 1)) In (va_up (va_up (va_up (va_up (va_up (va_up (va_up (va_up (va_up (va_up Fn 195 (upd (Fn 195) (cn 6) 0)) 196 (upd (Fn 196) (cn 6) 0)) 197 (upd (Fn 197) (cn 6) 0)) 198 (upd (Fn 198) (cn 6) 0)) 199 (upd (Fn 199) (cn 6) (nI n))) 301 (flat (Fn 301) 200 (cn 6) (fun _ => 0))) 302 (flat (Fn 302) 12 (cn 6) (fun _ => 0))) 303 (flat (Fn 303) 12 (cn 6) (fun _ => 0))) 304 (flat (Fn 304) 12 (cn 6) (fun _ => 0))) 305 (flat (Fn 305) 32 (cn 6) (fun _ => 0))) (cn 6) = (r1, .inl (cI, 12, .inl (fun _ => 0))) := by simp [e9X, adO, va_up, upd, gA_flat, Nat.ne_of_lt h40, hn]
  have a5_3 : e10X cI QA zz g (adO (adO (adO (adO (adO (adO (adO ad 5 (cn 6) qt) 60 (cn 6) r0) 61 (cn 6) r1) 62 (cn 6) r2) 63 (cn 6) r3) 64 (cn 6) r4) 4 1 (cn 6)) (va_up cn 6 (cn 6 + 1)) In (va_up (va_up (va_up (va_up (va_up (va_up (va_up (va_up (va_up (va_up Fn 195 (upd (Fn 195) (cn 6) 0)) 196 (upd (Fn 196) (cn 6) 0)) 197 (upd (Fn 197) (cn 6) 0)) 198 (upd (Fn 198) (cn 6) 0)) 199 (upd (Fn 199) (cn 6) (nI n))) 301 (flat (Fn 301) 200 (cn 6) (fun _ => 0))) 302 (flat (Fn 302) 12 (cn 6) (fun _ => 0))) 303 (flat (Fn 303) 12 (cn 6) (fun _ => 0))) 304 (flat (Fn 304) 12 (cn 6) (fun _ => 0))) 305 (flat (Fn 305) 32 (cn 6) (fun _ => 0))) (cn 6) = (r2, .inl (cI, 12, .inl (fun _ => 0))) := by simp [e10X, adO, va_up, upd, gA_flat, Nat.ne_of_lt h40, hn]
  have a5_4 : e11X cI QA zz g (adO (adO (adO (adO (adO (adO (adO ad 5 (cn 6) qt) 60 (cn 6) r0) 61 (cn 6) r1) 62 (cn 6) r2) 63 (cn 6) r3) 64 (cn 6) r4) 4 1 (cn 6)) (va_up cn 6 (cn 6 + 1)) In (va_up (va_up (va_up (va_up (va_up (va_up (va_up (va_up (va_up (va_up Fn 195 (upd (Fn 195) (cn 6) 0)) 196 (upd (Fn 196) (cn 6) 0)) 197 (upd (Fn 197) (cn 6) 0)) 198 (upd (Fn 198) (cn 6) 0)) 199 (upd (Fn 199) (cn 6) (nI n))) 301 (flat (Fn 301) 200 (cn 6) (fun _ => 0))) 302 (flat (Fn 302) 12 (cn 6) (fun _ => 0))) 303 (flat (Fn 303) 12 (cn 6) (fun _ => 0))) 304 (flat (Fn 304) 12 (cn 6) (fun _ => 0))) 305 (flat (Fn 305) 32 (cn 6) (fun _ => 0))) (cn 6) = (r3, .inl (cI, 12, .inl (fun _ => 0))) := by simp [e11X, adO, va_up, upd, gA_flat, Nat.ne_of_lt h40, hn]
  have a5_5 : e12X cI QA zz g (adO (adO (adO (adO (adO (adO (adO ad 5 (cn 6) qt) 60 (cn 6) r0) 61 (cn 6) r1) 62 (cn 6) r2) 63 (cn 6) r3) 64 (cn 6) r4) 4 1 (cn 6)) (va_up cn 6 (cn 6 + 1)) In (va_up (va_up (va_up (va_up (va_up (va_up (va_up (va_up (va_up (va_up Fn 195 (upd (Fn 195) (cn 6) 0)) 196 (upd (Fn 196) (cn 6) 0)) 197 (upd (Fn 197) (cn 6) 0)) 198 (upd (Fn 198) (cn 6) 0)) 199 (upd (Fn 199) (cn 6) (nI n))) 301 (flat (Fn 301) 200 (cn 6) (fun _ => 0))) 302 (flat (Fn 302) 12 (cn 6) (fun _ => 0))) 303 (flat (Fn 303) 12 (cn 6) (fun _ => 0))) 304 (flat (Fn 304) 12 (cn 6) (fun _ => 0))) 305 (flat (Fn 305) 32 (cn 6) (fun _ => 0))) (cn 6) = (r4, .inl (cI, 32, .inl (fun _ => 0))) := by simp [e12X, adO, va_up, upd, gA_flat, Nat.ne_of_lt h40, hn]
  have b0 : famW (fsX cI QA zz g (adO (adO (adO (adO (adO (adO (adO ad 5 (cn 6) qt) 60 (cn 6) r0) 61 (cn 6) r1) 62 (cn 6) r2) 63 (cn 6) r3) 64 (cn 6) r4) 4 1 (cn 6)) (va_up cn 6 (cn 6 + 1)) In (va_up (va_up (va_up (va_up (va_up (va_up (va_up (va_up (va_up (va_up Fn 195 (upd (Fn 195) (cn 6) 0)) 196 (upd (Fn 196) (cn 6) 0)) 197 (upd (Fn 197) (cn 6) 0)) 198 (upd (Fn 198) (cn 6) 0)) 199 (upd (Fn 199) (cn 6) (nI n))) 301 (flat (Fn 301) 200 (cn 6) (fun _ => 0))) 302 (flat (Fn 302) 12 (cn 6) (fun _ => 0))) 303 (flat (Fn 303) 12 (cn 6) (fun _ => 0))) 304 (flat (Fn 304) 12 (cn 6) (fun _ => 0))) 305 (flat (Fn 305) 32 (cn 6) (fun _ => 0)))) = famW [((cn 10), e0X cI QA zz g ad cn In Fn), ((cn 11), e1X cI QA zz g ad cn In Fn), ((cn 12), e2X cI QA zz g ad cn In Fn), ((cn 13), e3X cI QA zz g ad cn In Fn), ((cn 14), e4X cI QA zz g ad cn In Fn), ((cn 15), e5X cI QA zz g ad cn In Fn), ((cn 12), e6X cI QA zz g ad cn In Fn), ((cn 6) + 1, e7X cI QA zz g (adO (adO (adO (adO (adO (adO (adO ad 5 (cn 6) qt) 60 (cn 6) r0) 61 (cn 6) r1) 62 (cn 6) r2) 63 (cn 6) r3) 64 (cn 6) r4) 4 1 (cn 6)) (va_up cn 6 (cn 6 + 1)) In (va_up (va_up (va_up (va_up (va_up (va_up (va_up (va_up (va_up (va_up Fn 195 (upd (Fn 195) (cn 6) 0)) 196 (upd (Fn 196) (cn 6) 0)) 197 (upd (Fn 197) (cn 6) 0)) 198 (upd (Fn 198) (cn 6) 0)) 199 (upd (Fn 199) (cn 6) (nI n))) 301 (flat (Fn 301) 200 (cn 6) (fun _ => 0))) 302 (flat (Fn 302) 12 (cn 6) (fun _ => 0))) 303 (flat (Fn 303) 12 (cn 6) (fun _ => 0))) 304 (flat (Fn 304) 12 (cn 6) (fun _ => 0))) 305 (flat (Fn 305) 32 (cn 6) (fun _ => 0)))), ((cn 6) + 1, e8X cI QA zz g (adO (adO (adO (adO (adO (adO (adO ad 5 (cn 6) qt) 60 (cn 6) r0) 61 (cn 6) r1) 62 (cn 6) r2) 63 (cn 6) r3) 64 (cn 6) r4) 4 1 (cn 6)) (va_up cn 6 (cn 6 + 1)) In (va_up (va_up (va_up (va_up (va_up (va_up (va_up (va_up (va_up (va_up Fn 195 (upd (Fn 195) (cn 6) 0)) 196 (upd (Fn 196) (cn 6) 0)) 197 (upd (Fn 197) (cn 6) 0)) 198 (upd (Fn 198) (cn 6) 0)) 199 (upd (Fn 199) (cn 6) (nI n))) 301 (flat (Fn 301) 200 (cn 6) (fun _ => 0))) 302 (flat (Fn 302) 12 (cn 6) (fun _ => 0))) 303 (flat (Fn 303) 12 (cn 6) (fun _ => 0))) 304 (flat (Fn 304) 12 (cn 6) (fun _ => 0))) 305 (flat (Fn 305) 32 (cn 6) (fun _ => 0)))), ((cn 6) + 1, e9X cI QA zz g (adO (adO (adO (adO (adO (adO (adO ad 5 (cn 6) qt) 60 (cn 6) r0) 61 (cn 6) r1) 62 (cn 6) r2) 63 (cn 6) r3) 64 (cn 6) r4) 4 1 (cn 6)) (va_up cn 6 (cn 6 + 1)) In (va_up (va_up (va_up (va_up (va_up (va_up (va_up (va_up (va_up (va_up Fn 195 (upd (Fn 195) (cn 6) 0)) 196 (upd (Fn 196) (cn 6) 0)) 197 (upd (Fn 197) (cn 6) 0)) 198 (upd (Fn 198) (cn 6) 0)) 199 (upd (Fn 199) (cn 6) (nI n))) 301 (flat (Fn 301) 200 (cn 6) (fun _ => 0))) 302 (flat (Fn 302) 12 (cn 6) (fun _ => 0))) 303 (flat (Fn 303) 12 (cn 6) (fun _ => 0))) 304 (flat (Fn 304) 12 (cn 6) (fun _ => 0))) 305 (flat (Fn 305) 32 (cn 6) (fun _ => 0)))), ((cn 6) + 1, e10X cI QA zz g (adO (adO (adO (adO (adO (adO (adO ad 5 (cn 6) qt) 60 (cn 6) r0) 61 (cn 6) r1) 62 (cn 6) r2) 63 (cn 6) r3) 64 (cn 6) r4) 4 1 (cn 6)) (va_up cn 6 (cn 6 + 1)) In (va_up (va_up (va_up (va_up (va_up (va_up (va_up (va_up (va_up (va_up Fn 195 (upd (Fn 195) (cn 6) 0)) 196 (upd (Fn 196) (cn 6) 0)) 197 (upd (Fn 197) (cn 6) 0)) 198 (upd (Fn 198) (cn 6) 0)) 199 (upd (Fn 199) (cn 6) (nI n))) 301 (flat (Fn 301) 200 (cn 6) (fun _ => 0))) 302 (flat (Fn 302) 12 (cn 6) (fun _ => 0))) 303 (flat (Fn 303) 12 (cn 6) (fun _ => 0))) 304 (flat (Fn 304) 12 (cn 6) (fun _ => 0))) 305 (flat (Fn 305) 32 (cn 6) (fun _ => 0)))), ((cn 6) + 1, e11X cI QA zz g (adO (adO (adO (adO (adO (adO (adO ad 5 (cn 6) qt) 60 (cn 6) r0) 61 (cn 6) r1) 62 (cn 6) r2) 63 (cn 6) r3) 64 (cn 6) r4) 4 1 (cn 6)) (va_up cn 6 (cn 6 + 1)) In (va_up (va_up (va_up (va_up (va_up (va_up (va_up (va_up (va_up (va_up Fn 195 (upd (Fn 195) (cn 6) 0)) 196 (upd (Fn 196) (cn 6) 0)) 197 (upd (Fn 197) (cn 6) 0)) 198 (upd (Fn 198) (cn 6) 0)) 199 (upd (Fn 199) (cn 6) (nI n))) 301 (flat (Fn 301) 200 (cn 6) (fun _ => 0))) 302 (flat (Fn 302) 12 (cn 6) (fun _ => 0))) 303 (flat (Fn 303) 12 (cn 6) (fun _ => 0))) 304 (flat (Fn 304) 12 (cn 6) (fun _ => 0))) 305 (flat (Fn 305) 32 (cn 6) (fun _ => 0)))), ((cn 6) + 1, e12X cI QA zz g (adO (adO (adO (adO (adO (adO (adO ad 5 (cn 6) qt) 60 (cn 6) r0) 61 (cn 6) r1) 62 (cn 6) r2) 63 (cn 6) r3) 64 (cn 6) r4) 4 1 (cn 6)) (va_up cn 6 (cn 6 + 1)) In (va_up (va_up (va_up (va_up (va_up (va_up (va_up (va_up (va_up (va_up Fn 195 (upd (Fn 195) (cn 6) 0)) 196 (upd (Fn 196) (cn 6) 0)) 197 (upd (Fn 197) (cn 6) 0)) 198 (upd (Fn 198) (cn 6) 0)) 199 (upd (Fn 199) (cn 6) (nI n))) 301 (flat (Fn 301) 200 (cn 6) (fun _ => 0))) 302 (flat (Fn 302) 12 (cn 6) (fun _ => 0))) 303 (flat (Fn 303) 12 (cn 6) (fun _ => 0))) 304 (flat (Fn 304) 12 (cn 6) (fun _ => 0))) 305 (flat (Fn 305) 32 (cn 6) (fun _ => 0)))), ((min 1 (cn 10)), e13X cI QA zz g ad cn In Fn), ((min 1 (cn 11)), e14X cI QA zz g ad cn In Fn), ((min 1 (cn 12)), e15X cI QA zz g ad cn In Fn), ((min 1 (cn 13)), e16X cI QA zz g ad cn In Fn), ((min 1 (cn 14)), e17X cI QA zz g ad cn In Fn), ((min 1 (cn 15)), e18X cI QA zz g ad cn In Fn)] := famW_cg (show famE [(((va_up cn 6 (cn 6 + 1)) 10), e0X cI QA zz g (adO (adO (adO (adO (adO (adO (adO ad 5 (cn 6) qt) 60 (cn 6) r0) 61 (cn 6) r1) 62 (cn 6) r2) 63 (cn 6) r3) 64 (cn 6) r4) 4 1 (cn 6)) (va_up cn 6 (cn 6 + 1)) In (va_up (va_up (va_up (va_up (va_up (va_up (va_up (va_up (va_up (va_up Fn 195 (upd (Fn 195) (cn 6) 0)) 196 (upd (Fn 196) (cn 6) 0)) 197 (upd (Fn 197) (cn 6) 0)) 198 (upd (Fn 198) (cn 6) 0)) 199 (upd (Fn 199) (cn 6) (nI n))) 301 (flat (Fn 301) 200 (cn 6) (fun _ => 0))) 302 (flat (Fn 302) 12 (cn 6) (fun _ => 0))) 303 (flat (Fn 303) 12 (cn 6) (fun _ => 0))) 304 (flat (Fn 304) 12 (cn 6) (fun _ => 0))) 305 (flat (Fn 305) 32 (cn 6) (fun _ => 0)))), (((va_up cn 6 (cn 6 + 1)) 11), e1X cI QA zz g (adO (adO (adO (adO (adO (adO (adO ad 5 (cn 6) qt) 60 (cn 6) r0) 61 (cn 6) r1) 62 (cn 6) r2) 63 (cn 6) r3) 64 (cn 6) r4) 4 1 (cn 6)) (va_up cn 6 (cn 6 + 1)) In (va_up (va_up (va_up (va_up (va_up (va_up (va_up (va_up (va_up (va_up Fn 195 (upd (Fn 195) (cn 6) 0)) 196 (upd (Fn 196) (cn 6) 0)) 197 (upd (Fn 197) (cn 6) 0)) 198 (upd (Fn 198) (cn 6) 0)) 199 (upd (Fn 199) (cn 6) (nI n))) 301 (flat (Fn 301) 200 (cn 6) (fun _ => 0))) 302 (flat (Fn 302) 12 (cn 6) (fun _ => 0))) 303 (flat (Fn 303) 12 (cn 6) (fun _ => 0))) 304 (flat (Fn 304) 12 (cn 6) (fun _ => 0))) 305 (flat (Fn 305) 32 (cn 6) (fun _ => 0)))), (((va_up cn 6 (cn 6 + 1)) 12), e2X cI QA zz g (adO (adO (adO (adO (adO (adO (adO ad 5 (cn 6) qt) 60 (cn 6) r0) 61 (cn 6) r1) 62 (cn 6) r2) 63 (cn 6) r3) 64 (cn 6) r4) 4 1 (cn 6)) (va_up cn 6 (cn 6 + 1)) In (va_up (va_up (va_up (va_up (va_up (va_up (va_up (va_up (va_up (va_up Fn 195 (upd (Fn 195) (cn 6) 0)) 196 (upd (Fn 196) (cn 6) 0)) 197 (upd (Fn 197) (cn 6) 0)) 198 (upd (Fn 198) (cn 6) 0)) 199 (upd (Fn 199) (cn 6) (nI n))) 301 (flat (Fn 301) 200 (cn 6) (fun _ => 0))) 302 (flat (Fn 302) 12 (cn 6) (fun _ => 0))) 303 (flat (Fn 303) 12 (cn 6) (fun _ => 0))) 304 (flat (Fn 304) 12 (cn 6) (fun _ => 0))) 305 (flat (Fn 305) 32 (cn 6) (fun _ => 0)))), (((va_up cn 6 (cn 6 + 1)) 13), e3X cI QA zz g (adO (adO (adO (adO (adO (adO (adO ad 5 (cn 6) qt) 60 (cn 6) r0) 61 (cn 6) r1) 62 (cn 6) r2) 63 (cn 6) r3) 64 (cn 6) r4) 4 1 (cn 6)) (va_up cn 6 (cn 6 + 1)) In (va_up (va_up (va_up (va_up (va_up (va_up (va_up (va_up (va_up (va_up Fn 195 (upd (Fn 195) (cn 6) 0)) 196 (upd (Fn 196) (cn 6) 0)) 197 (upd (Fn 197) (cn 6) 0)) 198 (upd (Fn 198) (cn 6) 0)) 199 (upd (Fn 199) (cn 6) (nI n))) 301 (flat (Fn 301) 200 (cn 6) (fun _ => 0))) 302 (flat (Fn 302) 12 (cn 6) (fun _ => 0))) 303 (flat (Fn 303) 12 (cn 6) (fun _ => 0))) 304 (flat (Fn 304) 12 (cn 6) (fun _ => 0))) 305 (flat (Fn 305) 32 (cn 6) (fun _ => 0)))), (((va_up cn 6 (cn 6 + 1)) 14), e4X cI QA zz g (adO (adO (adO (adO (adO (adO (adO ad 5 (cn 6) qt) 60 (cn 6) r0) 61 (cn 6) r1) 62 (cn 6) r2) 63 (cn 6) r3) 64 (cn 6) r4) 4 1 (cn 6)) (va_up cn 6 (cn 6 + 1)) In (va_up (va_up (va_up (va_up (va_up (va_up (va_up (va_up (va_up (va_up Fn 195 (upd (Fn 195) (cn 6) 0)) 196 (upd (Fn 196) (cn 6) 0)) 197 (upd (Fn 197) (cn 6) 0)) 198 (upd (Fn 198) (cn 6) 0)) 199 (upd (Fn 199) (cn 6) (nI n))) 301 (flat (Fn 301) 200 (cn 6) (fun _ => 0))) 302 (flat (Fn 302) 12 (cn 6) (fun _ => 0))) 303 (flat (Fn 303) 12 (cn 6) (fun _ => 0))) 304 (flat (Fn 304) 12 (cn 6) (fun _ => 0))) 305 (flat (Fn 305) 32 (cn 6) (fun _ => 0)))), (((va_up cn 6 (cn 6 + 1)) 15), e5X cI QA zz g (adO (adO (adO (adO (adO (adO (adO ad 5 (cn 6) qt) 60 (cn 6) r0) 61 (cn 6) r1) 62 (cn 6) r2) 63 (cn 6) r3) 64 (cn 6) r4) 4 1 (cn 6)) (va_up cn 6 (cn 6 + 1)) In (va_up (va_up (va_up (va_up (va_up (va_up (va_up (va_up (va_up (va_up Fn 195 (upd (Fn 195) (cn 6) 0)) 196 (upd (Fn 196) (cn 6) 0)) 197 (upd (Fn 197) (cn 6) 0)) 198 (upd (Fn 198) (cn 6) 0)) 199 (upd (Fn 199) (cn 6) (nI n))) 301 (flat (Fn 301) 200 (cn 6) (fun _ => 0))) 302 (flat (Fn 302) 12 (cn 6) (fun _ => 0))) 303 (flat (Fn 303) 12 (cn 6) (fun _ => 0))) 304 (flat (Fn 304) 12 (cn 6) (fun _ => 0))) 305 (flat (Fn 305) 32 (cn 6) (fun _ => 0)))), (((va_up cn 6 (cn 6 + 1)) 12), e6X cI QA zz g (adO (adO (adO (adO (adO (adO (adO ad 5 (cn 6) qt) 60 (cn 6) r0) 61 (cn 6) r1) 62 (cn 6) r2) 63 (cn 6) r3) 64 (cn 6) r4) 4 1 (cn 6)) (va_up cn 6 (cn 6 + 1)) In (va_up (va_up (va_up (va_up (va_up (va_up (va_up (va_up (va_up (va_up Fn 195 (upd (Fn 195) (cn 6) 0)) 196 (upd (Fn 196) (cn 6) 0)) 197 (upd (Fn 197) (cn 6) 0)) 198 (upd (Fn 198) (cn 6) 0)) 199 (upd (Fn 199) (cn 6) (nI n))) 301 (flat (Fn 301) 200 (cn 6) (fun _ => 0))) 302 (flat (Fn 302) 12 (cn 6) (fun _ => 0))) 303 (flat (Fn 303) 12 (cn 6) (fun _ => 0))) 304 (flat (Fn 304) 12 (cn 6) (fun _ => 0))) 305 (flat (Fn 305) 32 (cn 6) (fun _ => 0)))), (((va_up cn 6 (cn 6 + 1)) 6), e7X cI QA zz g (adO (adO (adO (adO (adO (adO (adO ad 5 (cn 6) qt) 60 (cn 6) r0) 61 (cn 6) r1) 62 (cn 6) r2) 63 (cn 6) r3) 64 (cn 6) r4) 4 1 (cn 6)) (va_up cn 6 (cn 6 + 1)) In (va_up (va_up (va_up (va_up (va_up (va_up (va_up (va_up (va_up (va_up Fn 195 (upd (Fn 195) (cn 6) 0)) 196 (upd (Fn 196) (cn 6) 0)) 197 (upd (Fn 197) (cn 6) 0)) 198 (upd (Fn 198) (cn 6) 0)) 199 (upd (Fn 199) (cn 6) (nI n))) 301 (flat (Fn 301) 200 (cn 6) (fun _ => 0))) 302 (flat (Fn 302) 12 (cn 6) (fun _ => 0))) 303 (flat (Fn 303) 12 (cn 6) (fun _ => 0))) 304 (flat (Fn 304) 12 (cn 6) (fun _ => 0))) 305 (flat (Fn 305) 32 (cn 6) (fun _ => 0)))), (((va_up cn 6 (cn 6 + 1)) 6), e8X cI QA zz g (adO (adO (adO (adO (adO (adO (adO ad 5 (cn 6) qt) 60 (cn 6) r0) 61 (cn 6) r1) 62 (cn 6) r2) 63 (cn 6) r3) 64 (cn 6) r4) 4 1 (cn 6)) (va_up cn 6 (cn 6 + 1)) In (va_up (va_up (va_up (va_up (va_up (va_up (va_up (va_up (va_up (va_up Fn 195 (upd (Fn 195) (cn 6) 0)) 196 (upd (Fn 196) (cn 6) 0)) 197 (upd (Fn 197) (cn 6) 0)) 198 (upd (Fn 198) (cn 6) 0)) 199 (upd (Fn 199) (cn 6) (nI n))) 301 (flat (Fn 301) 200 (cn 6) (fun _ => 0))) 302 (flat (Fn 302) 12 (cn 6) (fun _ => 0))) 303 (flat (Fn 303) 12 (cn 6) (fun _ => 0))) 304 (flat (Fn 304) 12 (cn 6) (fun _ => 0))) 305 (flat (Fn 305) 32 (cn 6) (fun _ => 0)))), (((va_up cn 6 (cn 6 + 1)) 6), e9X cI QA zz g (adO (adO (adO (adO (adO (adO (adO ad 5 (cn 6) qt) 60 (cn 6) r0) 61 (cn 6) r1) 62 (cn 6) r2) 63 (cn 6) r3) 64 (cn 6) r4) 4 1 (cn 6)) (va_up cn 6 (cn 6 + 1)) In (va_up (va_up (va_up (va_up (va_up (va_up (va_up (va_up (va_up (va_up Fn 195 (upd (Fn 195) (cn 6) 0)) 196 (upd (Fn 196) (cn 6) 0)) 197 (upd (Fn 197) (cn 6) 0)) 198 (upd (Fn 198) (cn 6) 0)) 199 (upd (Fn 199) (cn 6) (nI n))) 301 (flat (Fn 301) 200 (cn 6) (fun _ => 0))) 302 (flat (Fn 302) 12 (cn 6) (fun _ => 0))) 303 (flat (Fn 303) 12 (cn 6) (fun _ => 0))) 304 (flat (Fn 304) 12 (cn 6) (fun _ => 0))) 305 (flat (Fn 305) 32 (cn 6) (fun _ => 0)))), (((va_up cn 6 (cn 6 + 1)) 6), e10X cI QA zz g (adO (adO (adO (adO (adO (adO (adO ad 5 (cn 6) qt) 60 (cn 6) r0) 61 (cn 6) r1) 62 (cn 6) r2) 63 (cn 6) r3) 64 (cn 6) r4) 4 1 (cn 6)) (va_up cn 6 (cn 6 + 1)) In (va_up (va_up (va_up (va_up (va_up (va_up (va_up (va_up (va_up (va_up Fn 195 (upd (Fn 195) (cn 6) 0)) 196 (upd (Fn 196) (cn 6) 0)) 197 (upd (Fn 197) (cn 6) 0)) 198 (upd (Fn 198) (cn 6) 0)) 199 (upd (Fn 199) (cn 6) (nI n))) 301 (flat (Fn 301) 200 (cn 6) (fun _ => 0))) 302 (flat (Fn 302) 12 (cn 6) (fun _ => 0))) 303 (flat (Fn 303) 12 (cn 6) (fun _ => 0))) 304 (flat (Fn 304) 12 (cn 6) (fun _ => 0))) 305 (flat (Fn 305) 32 (cn 6) (fun _ => 0)))), (((va_up cn 6 (cn 6 + 1)) 6), e11X cI QA zz g (adO (adO (adO (adO (adO (adO (adO ad 5 (cn 6) qt) 60 (cn 6) r0) 61 (cn 6) r1) 62 (cn 6) r2) 63 (cn 6) r3) 64 (cn 6) r4) 4 1 (cn 6)) (va_up cn 6 (cn 6 + 1)) In (va_up (va_up (va_up (va_up (va_up (va_up (va_up (va_up (va_up (va_up Fn 195 (upd (Fn 195) (cn 6) 0)) 196 (upd (Fn 196) (cn 6) 0)) 197 (upd (Fn 197) (cn 6) 0)) 198 (upd (Fn 198) (cn 6) 0)) 199 (upd (Fn 199) (cn 6) (nI n))) 301 (flat (Fn 301) 200 (cn 6) (fun _ => 0))) 302 (flat (Fn 302) 12 (cn 6) (fun _ => 0))) 303 (flat (Fn 303) 12 (cn 6) (fun _ => 0))) 304 (flat (Fn 304) 12 (cn 6) (fun _ => 0))) 305 (flat (Fn 305) 32 (cn 6) (fun _ => 0)))), (((va_up cn 6 (cn 6 + 1)) 6), e12X cI QA zz g (adO (adO (adO (adO (adO (adO (adO ad 5 (cn 6) qt) 60 (cn 6) r0) 61 (cn 6) r1) 62 (cn 6) r2) 63 (cn 6) r3) 64 (cn 6) r4) 4 1 (cn 6)) (va_up cn 6 (cn 6 + 1)) In (va_up (va_up (va_up (va_up (va_up (va_up (va_up (va_up (va_up (va_up Fn 195 (upd (Fn 195) (cn 6) 0)) 196 (upd (Fn 196) (cn 6) 0)) 197 (upd (Fn 197) (cn 6) 0)) 198 (upd (Fn 198) (cn 6) 0)) 199 (upd (Fn 199) (cn 6) (nI n))) 301 (flat (Fn 301) 200 (cn 6) (fun _ => 0))) 302 (flat (Fn 302) 12 (cn 6) (fun _ => 0))) 303 (flat (Fn 303) 12 (cn 6) (fun _ => 0))) 304 (flat (Fn 304) 12 (cn 6) (fun _ => 0))) 305 (flat (Fn 305) 32 (cn 6) (fun _ => 0)))), ((min 1 ((va_up cn 6 (cn 6 + 1)) 10)), e13X cI QA zz g (adO (adO (adO (adO (adO (adO (adO ad 5 (cn 6) qt) 60 (cn 6) r0) 61 (cn 6) r1) 62 (cn 6) r2) 63 (cn 6) r3) 64 (cn 6) r4) 4 1 (cn 6)) (va_up cn 6 (cn 6 + 1)) In (va_up (va_up (va_up (va_up (va_up (va_up (va_up (va_up (va_up (va_up Fn 195 (upd (Fn 195) (cn 6) 0)) 196 (upd (Fn 196) (cn 6) 0)) 197 (upd (Fn 197) (cn 6) 0)) 198 (upd (Fn 198) (cn 6) 0)) 199 (upd (Fn 199) (cn 6) (nI n))) 301 (flat (Fn 301) 200 (cn 6) (fun _ => 0))) 302 (flat (Fn 302) 12 (cn 6) (fun _ => 0))) 303 (flat (Fn 303) 12 (cn 6) (fun _ => 0))) 304 (flat (Fn 304) 12 (cn 6) (fun _ => 0))) 305 (flat (Fn 305) 32 (cn 6) (fun _ => 0)))), ((min 1 ((va_up cn 6 (cn 6 + 1)) 11)), e14X cI QA zz g (adO (adO (adO (adO (adO (adO (adO ad 5 (cn 6) qt) 60 (cn 6) r0) 61 (cn 6) r1) 62 (cn 6) r2) 63 (cn 6) r3) 64 (cn 6) r4) 4 1 (cn 6)) (va_up cn 6 (cn 6 + 1)) In (va_up (va_up (va_up (va_up (va_up (va_up (va_up (va_up (va_up (va_up Fn 195 (upd (Fn 195) (cn 6) 0)) 196 (upd (Fn 196) (cn 6) 0)) 197 (upd (Fn 197) (cn 6) 0)) 198 (upd (Fn 198) (cn 6) 0)) 199 (upd (Fn 199) (cn 6) (nI n))) 301 (flat (Fn 301) 200 (cn 6) (fun _ => 0))) 302 (flat (Fn 302) 12 (cn 6) (fun _ => 0))) 303 (flat (Fn 303) 12 (cn 6) (fun _ => 0))) 304 (flat (Fn 304) 12 (cn 6) (fun _ => 0))) 305 (flat (Fn 305) 32 (cn 6) (fun _ => 0)))), ((min 1 ((va_up cn 6 (cn 6 + 1)) 12)), e15X cI QA zz g (adO (adO (adO (adO (adO (adO (adO ad 5 (cn 6) qt) 60 (cn 6) r0) 61 (cn 6) r1) 62 (cn 6) r2) 63 (cn 6) r3) 64 (cn 6) r4) 4 1 (cn 6)) (va_up cn 6 (cn 6 + 1)) In (va_up (va_up (va_up (va_up (va_up (va_up (va_up (va_up (va_up (va_up Fn 195 (upd (Fn 195) (cn 6) 0)) 196 (upd (Fn 196) (cn 6) 0)) 197 (upd (Fn 197) (cn 6) 0)) 198 (upd (Fn 198) (cn 6) 0)) 199 (upd (Fn 199) (cn 6) (nI n))) 301 (flat (Fn 301) 200 (cn 6) (fun _ => 0))) 302 (flat (Fn 302) 12 (cn 6) (fun _ => 0))) 303 (flat (Fn 303) 12 (cn 6) (fun _ => 0))) 304 (flat (Fn 304) 12 (cn 6) (fun _ => 0))) 305 (flat (Fn 305) 32 (cn 6) (fun _ => 0)))), ((min 1 ((va_up cn 6 (cn 6 + 1)) 13)), e16X cI QA zz g (adO (adO (adO (adO (adO (adO (adO ad 5 (cn 6) qt) 60 (cn 6) r0) 61 (cn 6) r1) 62 (cn 6) r2) 63 (cn 6) r3) 64 (cn 6) r4) 4 1 (cn 6)) (va_up cn 6 (cn 6 + 1)) In (va_up (va_up (va_up (va_up (va_up (va_up (va_up (va_up (va_up (va_up Fn 195 (upd (Fn 195) (cn 6) 0)) 196 (upd (Fn 196) (cn 6) 0)) 197 (upd (Fn 197) (cn 6) 0)) 198 (upd (Fn 198) (cn 6) 0)) 199 (upd (Fn 199) (cn 6) (nI n))) 301 (flat (Fn 301) 200 (cn 6) (fun _ => 0))) 302 (flat (Fn 302) 12 (cn 6) (fun _ => 0))) 303 (flat (Fn 303) 12 (cn 6) (fun _ => 0))) 304 (flat (Fn 304) 12 (cn 6) (fun _ => 0))) 305 (flat (Fn 305) 32 (cn 6) (fun _ => 0)))), ((min 1 ((va_up cn 6 (cn 6 + 1)) 14)), e17X cI QA zz g (adO (adO (adO (adO (adO (adO (adO ad 5 (cn 6) qt) 60 (cn 6) r0) 61 (cn 6) r1) 62 (cn 6) r2) 63 (cn 6) r3) 64 (cn 6) r4) 4 1 (cn 6)) (va_up cn 6 (cn 6 + 1)) In (va_up (va_up (va_up (va_up (va_up (va_up (va_up (va_up (va_up (va_up Fn 195 (upd (Fn 195) (cn 6) 0)) 196 (upd (Fn 196) (cn 6) 0)) 197 (upd (Fn 197) (cn 6) 0)) 198 (upd (Fn 198) (cn 6) 0)) 199 (upd (Fn 199) (cn 6) (nI n))) 301 (flat (Fn 301) 200 (cn 6) (fun _ => 0))) 302 (flat (Fn 302) 12 (cn 6) (fun _ => 0))) 303 (flat (Fn 303) 12 (cn 6) (fun _ => 0))) 304 (flat (Fn 304) 12 (cn 6) (fun _ => 0))) 305 (flat (Fn 305) 32 (cn 6) (fun _ => 0)))), ((min 1 ((va_up cn 6 (cn 6 + 1)) 15)), e18X cI QA zz g (adO (adO (adO (adO (adO (adO (adO ad 5 (cn 6) qt) 60 (cn 6) r0) 61 (cn 6) r1) 62 (cn 6) r2) 63 (cn 6) r3) 64 (cn 6) r4) 4 1 (cn 6)) (va_up cn 6 (cn 6 + 1)) In (va_up (va_up (va_up (va_up (va_up (va_up (va_up (va_up (va_up (va_up Fn 195 (upd (Fn 195) (cn 6) 0)) 196 (upd (Fn 196) (cn 6) 0)) 197 (upd (Fn 197) (cn 6) 0)) 198 (upd (Fn 198) (cn 6) 0)) 199 (upd (Fn 199) (cn 6) (nI n))) 301 (flat (Fn 301) 200 (cn 6) (fun _ => 0))) 302 (flat (Fn 302) 12 (cn 6) (fun _ => 0))) 303 (flat (Fn 303) 12 (cn 6) (fun _ => 0))) 304 (flat (Fn 304) 12 (cn 6) (fun _ => 0))) 305 (flat (Fn 305) 32 (cn 6) (fun _ => 0))))] [((cn 10), e0X cI QA zz g ad cn In Fn), ((cn 11), e1X cI QA zz g ad cn In Fn), ((cn 12), e2X cI QA zz g ad cn In Fn), ((cn 13), e3X cI QA zz g ad cn In Fn), ((cn 14), e4X cI QA zz g ad cn In Fn), ((cn 15), e5X cI QA zz g ad cn In Fn), ((cn 12), e6X cI QA zz g ad cn In Fn), ((cn 6) + 1, e7X cI QA zz g (adO (adO (adO (adO (adO (adO (adO ad 5 (cn 6) qt) 60 (cn 6) r0) 61 (cn 6) r1) 62 (cn 6) r2) 63 (cn 6) r3) 64 (cn 6) r4) 4 1 (cn 6)) (va_up cn 6 (cn 6 + 1)) In (va_up (va_up (va_up (va_up (va_up (va_up (va_up (va_up (va_up (va_up Fn 195 (upd (Fn 195) (cn 6) 0)) 196 (upd (Fn 196) (cn 6) 0)) 197 (upd (Fn 197) (cn 6) 0)) 198 (upd (Fn 198) (cn 6) 0)) 199 (upd (Fn 199) (cn 6) (nI n))) 301 (flat (Fn 301) 200 (cn 6) (fun _ => 0))) 302 (flat (Fn 302) 12 (cn 6) (fun _ => 0))) 303 (flat (Fn 303) 12 (cn 6) (fun _ => 0))) 304 (flat (Fn 304) 12 (cn 6) (fun _ => 0))) 305 (flat (Fn 305) 32 (cn 6) (fun _ => 0)))), ((cn 6) + 1, e8X cI QA zz g (adO (adO (adO (adO (adO (adO (adO ad 5 (cn 6) qt) 60 (cn 6) r0) 61 (cn 6) r1) 62 (cn 6) r2) 63 (cn 6) r3) 64 (cn 6) r4) 4 1 (cn 6)) (va_up cn 6 (cn 6 + 1)) In (va_up (va_up (va_up (va_up (va_up (va_up (va_up (va_up (va_up (va_up Fn 195 (upd (Fn 195) (cn 6) 0)) 196 (upd (Fn 196) (cn 6) 0)) 197 (upd (Fn 197) (cn 6) 0)) 198 (upd (Fn 198) (cn 6) 0)) 199 (upd (Fn 199) (cn 6) (nI n))) 301 (flat (Fn 301) 200 (cn 6) (fun _ => 0))) 302 (flat (Fn 302) 12 (cn 6) (fun _ => 0))) 303 (flat (Fn 303) 12 (cn 6) (fun _ => 0))) 304 (flat (Fn 304) 12 (cn 6) (fun _ => 0))) 305 (flat (Fn 305) 32 (cn 6) (fun _ => 0)))), ((cn 6) + 1, e9X cI QA zz g (adO (adO (adO (adO (adO (adO (adO ad 5 (cn 6) qt) 60 (cn 6) r0) 61 (cn 6) r1) 62 (cn 6) r2) 63 (cn 6) r3) 64 (cn 6) r4) 4 1 (cn 6)) (va_up cn 6 (cn 6 + 1)) In (va_up (va_up (va_up (va_up (va_up (va_up (va_up (va_up (va_up (va_up Fn 195 (upd (Fn 195) (cn 6) 0)) 196 (upd (Fn 196) (cn 6) 0)) 197 (upd (Fn 197) (cn 6) 0)) 198 (upd (Fn 198) (cn 6) 0)) 199 (upd (Fn 199) (cn 6) (nI n))) 301 (flat (Fn 301) 200 (cn 6) (fun _ => 0))) 302 (flat (Fn 302) 12 (cn 6) (fun _ => 0))) 303 (flat (Fn 303) 12 (cn 6) (fun _ => 0))) 304 (flat (Fn 304) 12 (cn 6) (fun _ => 0))) 305 (flat (Fn 305) 32 (cn 6) (fun _ => 0)))), ((cn 6) + 1, e10X cI QA zz g (adO (adO (adO (adO (adO (adO (adO ad 5 (cn 6) qt) 60 (cn 6) r0) 61 (cn 6) r1) 62 (cn 6) r2) 63 (cn 6) r3) 64 (cn 6) r4) 4 1 (cn 6)) (va_up cn 6 (cn 6 + 1)) In (va_up (va_up (va_up (va_up (va_up (va_up (va_up (va_up (va_up (va_up Fn 195 (upd (Fn 195) (cn 6) 0)) 196 (upd (Fn 196) (cn 6) 0)) 197 (upd (Fn 197) (cn 6) 0)) 198 (upd (Fn 198) (cn 6) 0)) 199 (upd (Fn 199) (cn 6) (nI n))) 301 (flat (Fn 301) 200 (cn 6) (fun _ => 0))) 302 (flat (Fn 302) 12 (cn 6) (fun _ => 0))) 303 (flat (Fn 303) 12 (cn 6) (fun _ => 0))) 304 (flat (Fn 304) 12 (cn 6) (fun _ => 0))) 305 (flat (Fn 305) 32 (cn 6) (fun _ => 0)))), ((cn 6) + 1, e11X cI QA zz g (adO (adO (adO (adO (adO (adO (adO ad 5 (cn 6) qt) 60 (cn 6) r0) 61 (cn 6) r1) 62 (cn 6) r2) 63 (cn 6) r3) 64 (cn 6) r4) 4 1 (cn 6)) (va_up cn 6 (cn 6 + 1)) In (va_up (va_up (va_up (va_up (va_up (va_up (va_up (va_up (va_up (va_up Fn 195 (upd (Fn 195) (cn 6) 0)) 196 (upd (Fn 196) (cn 6) 0)) 197 (upd (Fn 197) (cn 6) 0)) 198 (upd (Fn 198) (cn 6) 0)) 199 (upd (Fn 199) (cn 6) (nI n))) 301 (flat (Fn 301) 200 (cn 6) (fun _ => 0))) 302 (flat (Fn 302) 12 (cn 6) (fun _ => 0))) 303 (flat (Fn 303) 12 (cn 6) (fun _ => 0))) 304 (flat (Fn 304) 12 (cn 6) (fun _ => 0))) 305 (flat (Fn 305) 32 (cn 6) (fun _ => 0)))), ((cn 6) + 1, e12X cI QA zz g (adO (adO (adO (adO (adO (adO (adO ad 5 (cn 6) qt) 60 (cn 6) r0) 61 (cn 6) r1) 62 (cn 6) r2) 63 (cn 6) r3) 64 (cn 6) r4) 4 1 (cn 6)) (va_up cn 6 (cn 6 + 1)) In (va_up (va_up (va_up (va_up (va_up (va_up (va_up (va_up (va_up (va_up Fn 195 (upd (Fn 195) (cn 6) 0)) 196 (upd (Fn 196) (cn 6) 0)) 197 (upd (Fn 197) (cn 6) 0)) 198 (upd (Fn 198) (cn 6) 0)) 199 (upd (Fn 199) (cn 6) (nI n))) 301 (flat (Fn 301) 200 (cn 6) (fun _ => 0))) 302 (flat (Fn 302) 12 (cn 6) (fun _ => 0))) 303 (flat (Fn 303) 12 (cn 6) (fun _ => 0))) 304 (flat (Fn 304) 12 (cn 6) (fun _ => 0))) 305 (flat (Fn 305) 32 (cn 6) (fun _ => 0)))), ((min 1 (cn 10)), e13X cI QA zz g ad cn In Fn), ((min 1 (cn 11)), e14X cI QA zz g ad cn In Fn), ((min 1 (cn 12)), e15X cI QA zz g ad cn In Fn), ((min 1 (cn 13)), e16X cI QA zz g ad cn In Fn), ((min 1 (cn 14)), e17X cI QA zz g ad cn In Fn), ((min 1 (cn 15)), e18X cI QA zz g ad cn In Fn)] from ⟨⟨rfl, fun k hk => by have hk : k < cn 10 := hk; simp [e0X, adO, va_up, Nat.ne_of_lt h40, hn, Nat.ne_of_lt (hT k hk)]⟩, ⟨rfl, fun k hk => by have hk : k < (cn 11) := hk; simp [e1X, adO, va_up, Nat.ne_of_lt h40, hn]⟩, ⟨rfl, fun k hk => by have hk : k < (cn 12) := hk; simp [e2X, adO, va_up, Nat.ne_of_lt h40, hn]⟩, ⟨rfl, fun k hk => by have hk : k < (cn 13) := hk; simp [e3X, adO, va_up, Nat.ne_of_lt h40, hn]⟩, ⟨rfl, fun k hk => by have hk : k < (cn 14) := hk; simp [e4X, adO, va_up, Nat.ne_of_lt h40, hn]⟩, ⟨rfl, fun k hk => by have hk : k < (cn 15) := hk; simp [e5X, adO, va_up, Nat.ne_of_lt h40, hn]⟩, ⟨rfl, fun k hk => by have hk : k < (cn 12) := hk; simp [e6X, adO, va_up, Nat.ne_of_lt h40, hn]⟩, ⟨rfl, fun k hk => rfl⟩, ⟨rfl, fun k hk => rfl⟩, ⟨rfl, fun k hk => rfl⟩, ⟨rfl, fun k hk => rfl⟩, ⟨rfl, fun k hk => rfl⟩, ⟨rfl, fun k hk => rfl⟩, ⟨rfl, fun k hk => by have hk : k < (min 1 (cn 10)) := hk; simp [e13X, adO, va_up, Nat.ne_of_lt h40, hn]⟩, ⟨rfl, fun k hk => by have hk : k < (min 1 (cn 11)) := hk; simp [e14X, adO, va_up, Nat.ne_of_lt h40, hn]⟩, ⟨rfl, fun k hk => by have hk : k < (min 1 (cn 12)) := hk; simp [e15X, adO, va_up, Nat.ne_of_lt h40, hn]⟩, ⟨rfl, fun k hk => by have hk : k < (min 1 (cn 13)) := hk; simp [e16X, adO, va_up, Nat.ne_of_lt h40, hn]⟩, ⟨rfl, fun k hk => by have hk : k < (min 1 (cn 14)) := hk; simp [e17X, adO, va_up, Nat.ne_of_lt h40, hn]⟩, ⟨rfl, fun k hk => by have hk : k < (min 1 (cn 15)) := hk; simp [e18X, adO, va_up, Nat.ne_of_lt h40, hn]⟩, trivial⟩)
  have p0 := famW_push (fs := [((cn 10), e0X cI QA zz g ad cn In Fn), ((cn 11), e1X cI QA zz g ad cn In Fn), ((cn 12), e2X cI QA zz g ad cn In Fn), ((cn 13), e3X cI QA zz g ad cn In Fn), ((cn 14), e4X cI QA zz g ad cn In Fn), ((cn 15), e5X cI QA zz g ad cn In Fn), ((cn 12), e6X cI QA zz g ad cn In Fn), ((cn 6) + 1, e7X cI QA zz g (adO (adO (adO (adO (adO (adO (adO ad 5 (cn 6) qt) 60 (cn 6) r0) 61 (cn 6) r1) 62 (cn 6) r2) 63 (cn 6) r3) 64 (cn 6) r4) 4 1 (cn 6)) (va_up cn 6 (cn 6 + 1)) In (va_up (va_up (va_up (va_up (va_up (va_up (va_up (va_up (va_up (va_up Fn 195 (upd (Fn 195) (cn 6) 0)) 196 (upd (Fn 196) (cn 6) 0)) 197 (upd (Fn 197) (cn 6) 0)) 198 (upd (Fn 198) (cn 6) 0)) 199 (upd (Fn 199) (cn 6) (nI n))) 301 (flat (Fn 301) 200 (cn 6) (fun _ => 0))) 302 (flat (Fn 302) 12 (cn 6) (fun _ => 0))) 303 (flat (Fn 303) 12 (cn 6) (fun _ => 0))) 304 (flat (Fn 304) 12 (cn 6) (fun _ => 0))) 305 (flat (Fn 305) 32 (cn 6) (fun _ => 0)))), ((cn 6) + 1, e8X cI QA zz g (adO (adO (adO (adO (adO (adO (adO ad 5 (cn 6) qt) 60 (cn 6) r0) 61 (cn 6) r1) 62 (cn 6) r2) 63 (cn 6) r3) 64 (cn 6) r4) 4 1 (cn 6)) (va_up cn 6 (cn 6 + 1)) In (va_up (va_up (va_up (va_up (va_up (va_up (va_up (va_up (va_up (va_up Fn 195 (upd (Fn 195) (cn 6) 0)) 196 (upd (Fn 196) (cn 6) 0)) 197 (upd (Fn 197) (cn 6) 0)) 198 (upd (Fn 198) (cn 6) 0)) 199 (upd (Fn 199) (cn 6) (nI n))) 301 (flat (Fn 301) 200 (cn 6) (fun _ => 0))) 302 (flat (Fn 302) 12 (cn 6) (fun _ => 0))) 303 (flat (Fn 303) 12 (cn 6) (fun _ => 0))) 304 (flat (Fn 304) 12 (cn 6) (fun _ => 0))) 305 (flat (Fn 305) 32 (cn 6) (fun _ => 0)))), ((cn 6) + 1, e9X cI QA zz g (adO (adO (adO (adO (adO (adO (adO ad 5 (cn 6) qt) 60 (cn 6) r0) 61 (cn 6) r1) 62 (cn 6) r2) 63 (cn 6) r3) 64 (cn 6) r4) 4 1 (cn 6)) (va_up cn 6 (cn 6 + 1)) In (va_up (va_up (va_up (va_up (va_up (va_up (va_up (va_up (va_up (va_up Fn 195 (upd (Fn 195) (cn 6) 0)) 196 (upd (Fn 196) (cn 6) 0)) 197 (upd (Fn 197) (cn 6) 0)) 198 (upd (Fn 198) (cn 6) 0)) 199 (upd (Fn 199) (cn 6) (nI n))) 301 (flat (Fn 301) 200 (cn 6) (fun _ => 0))) 302 (flat (Fn 302) 12 (cn 6) (fun _ => 0))) 303 (flat (Fn 303) 12 (cn 6) (fun _ => 0))) 304 (flat (Fn 304) 12 (cn 6) (fun _ => 0))) 305 (flat (Fn 305) 32 (cn 6) (fun _ => 0)))), ((cn 6) + 1, e10X cI QA zz g (adO (adO (adO (adO (adO (adO (adO ad 5 (cn 6) qt) 60 (cn 6) r0) 61 (cn 6) r1) 62 (cn 6) r2) 63 (cn 6) r3) 64 (cn 6) r4) 4 1 (cn 6)) (va_up cn 6 (cn 6 + 1)) In (va_up (va_up (va_up (va_up (va_up (va_up (va_up (va_up (va_up (va_up Fn 195 (upd (Fn 195) (cn 6) 0)) 196 (upd (Fn 196) (cn 6) 0)) 197 (upd (Fn 197) (cn 6) 0)) 198 (upd (Fn 198) (cn 6) 0)) 199 (upd (Fn 199) (cn 6) (nI n))) 301 (flat (Fn 301) 200 (cn 6) (fun _ => 0))) 302 (flat (Fn 302) 12 (cn 6) (fun _ => 0))) 303 (flat (Fn 303) 12 (cn 6) (fun _ => 0))) 304 (flat (Fn 304) 12 (cn 6) (fun _ => 0))) 305 (flat (Fn 305) 32 (cn 6) (fun _ => 0)))), ((cn 6) + 1, e11X cI QA zz g (adO (adO (adO (adO (adO (adO (adO ad 5 (cn 6) qt) 60 (cn 6) r0) 61 (cn 6) r1) 62 (cn 6) r2) 63 (cn 6) r3) 64 (cn 6) r4) 4 1 (cn 6)) (va_up cn 6 (cn 6 + 1)) In (va_up (va_up (va_up (va_up (va_up (va_up (va_up (va_up (va_up (va_up Fn 195 (upd (Fn 195) (cn 6) 0)) 196 (upd (Fn 196) (cn 6) 0)) 197 (upd (Fn 197) (cn 6) 0)) 198 (upd (Fn 198) (cn 6) 0)) 199 (upd (Fn 199) (cn 6) (nI n))) 301 (flat (Fn 301) 200 (cn 6) (fun _ => 0))) 302 (flat (Fn 302) 12 (cn 6) (fun _ => 0))) 303 (flat (Fn 303) 12 (cn 6) (fun _ => 0))) 304 (flat (Fn 304) 12 (cn 6) (fun _ => 0))) 305 (flat (Fn 305) 32 (cn 6) (fun _ => 0)))), ((cn 6) + 1, e12X cI QA zz g (adO (adO (adO (adO (adO (adO (adO ad 5 (cn 6) qt) 60 (cn 6) r0) 61 (cn 6) r1) 62 (cn 6) r2) 63 (cn 6) r3) 64 (cn 6) r4) 4 1 (cn 6)) (va_up cn 6 (cn 6 + 1)) In (va_up (va_up (va_up (va_up (va_up (va_up (va_up (va_up (va_up (va_up Fn 195 (upd (Fn 195) (cn 6) 0)) 196 (upd (Fn 196) (cn 6) 0)) 197 (upd (Fn 197) (cn 6) 0)) 198 (upd (Fn 198) (cn 6) 0)) 199 (upd (Fn 199) (cn 6) (nI n))) 301 (flat (Fn 301) 200 (cn 6) (fun _ => 0))) 302 (flat (Fn 302) 12 (cn 6) (fun _ => 0))) 303 (flat (Fn 303) 12 (cn 6) (fun _ => 0))) 304 (flat (Fn 304) 12 (cn 6) (fun _ => 0))) 305 (flat (Fn 305) 32 (cn 6) (fun _ => 0)))), ((min 1 (cn 10)), e13X cI QA zz g ad cn In Fn), ((min 1 (cn 11)), e14X cI QA zz g ad cn In Fn), ((min 1 (cn 12)), e15X cI QA zz g ad cn In Fn), ((min 1 (cn 13)), e16X cI QA zz g ad cn In Fn), ((min 1 (cn 14)), e17X cI QA zz g ad cn In Fn), ((min 1 (cn 15)), e18X cI QA zz g ad cn In Fn)]) (i := 7) (n := (cn 6)) (f := e7X cI QA zz g (adO (adO (adO (adO (adO (adO (adO ad 5 (cn 6) qt) 60 (cn 6) r0) 61 (cn 6) r1) 62 (cn 6) r2) 63 (cn 6) r3) 64 (cn 6) r4) 4 1 (cn 6)) (va_up cn 6 (cn 6 + 1)) In (va_up (va_up (va_up (va_up (va_up (va_up (va_up (va_up (va_up (va_up Fn 195 (upd (Fn 195) (cn 6) 0)) 196 (upd (Fn 196) (cn 6) 0)) 197 (upd (Fn 197) (cn 6) 0)) 198 (upd (Fn 198) (cn 6) 0)) 199 (upd (Fn 199) (cn 6) (nI n))) 301 (flat (Fn 301) 200 (cn 6) (fun _ => 0))) 302 (flat (Fn 302) 12 (cn 6) (fun _ => 0))) 303 (flat (Fn 303) 12 (cn 6) (fun _ => 0))) 304 (flat (Fn 304) 12 (cn 6) (fun _ => 0))) 305 (flat (Fn 305) 32 (cn 6) (fun _ => 0)))) rfl
  have p1 := famW_push (fs := ([((cn 10), e0X cI QA zz g ad cn In Fn), ((cn 11), e1X cI QA zz g ad cn In Fn), ((cn 12), e2X cI QA zz g ad cn In Fn), ((cn 13), e3X cI QA zz g ad cn In Fn), ((cn 14), e4X cI QA zz g ad cn In Fn), ((cn 15), e5X cI QA zz g ad cn In Fn), ((cn 12), e6X cI QA zz g ad cn In Fn), ((cn 6) + 1, e7X cI QA zz g (adO (adO (adO (adO (adO (adO (adO ad 5 (cn 6) qt) 60 (cn 6) r0) 61 (cn 6) r1) 62 (cn 6) r2) 63 (cn 6) r3) 64 (cn 6) r4) 4 1 (cn 6)) (va_up cn 6 (cn 6 + 1)) In (va_up (va_up (va_up (va_up (va_up (va_up (va_up (va_up (va_up (va_up Fn 195 (upd (Fn 195) (cn 6) 0)) 196 (upd (Fn 196) (cn 6) 0)) 197 (upd (Fn 197) (cn 6) 0)) 198 (upd (Fn 198) (cn 6) 0)) 199 (upd (Fn 199) (cn 6) (nI n))) 301 (flat (Fn 301) 200 (cn 6) (fun _ => 0))) 302 (flat (Fn 302) 12 (cn 6) (fun _ => 0))) 303 (flat (Fn 303) 12 (cn 6) (fun _ => 0))) 304 (flat (Fn 304) 12 (cn 6) (fun _ => 0))) 305 (flat (Fn 305) 32 (cn 6) (fun _ => 0)))), ((cn 6) + 1, e8X cI QA zz g (adO (adO (adO (adO (adO (adO (adO ad 5 (cn 6) qt) 60 (cn 6) r0) 61 (cn 6) r1) 62 (cn 6) r2) 63 (cn 6) r3) 64 (cn 6) r4) 4 1 (cn 6)) (va_up cn 6 (cn 6 + 1)) In (va_up (va_up (va_up (va_up (va_up (va_up (va_up (va_up (va_up (va_up Fn 195 (upd (Fn 195) (cn 6) 0)) 196 (upd (Fn 196) (cn 6) 0)) 197 (upd (Fn 197) (cn 6) 0)) 198 (upd (Fn 198) (cn 6) 0)) 199 (upd (Fn 199) (cn 6) (nI n))) 301 (flat (Fn 301) 200 (cn 6) (fun _ => 0))) 302 (flat (Fn 302) 12 (cn 6) (fun _ => 0))) 303 (flat (Fn 303) 12 (cn 6) (fun _ => 0))) 304 (flat (Fn 304) 12 (cn 6) (fun _ => 0))) 305 (flat (Fn 305) 32 (cn 6) (fun _ => 0)))), ((cn 6) + 1, e9X cI QA zz g (adO (adO (adO (adO (adO (adO (adO ad 5 (cn 6) qt) 60 (cn 6) r0) 61 (cn 6) r1) 62 (cn 6) r2) 63 (cn 6) r3) 64 (cn 6) r4) 4 1 (cn 6)) (va_up cn 6 (cn 6 + 1)) In (va_up (va_up (va_up (va_up (va_up (va_up (va_up (va_up (va_up (va_up Fn 195 (upd (Fn 195) (cn 6) 0)) 196 (upd (Fn 196) (cn 6) 0)) 197 (upd (Fn 197) (cn 6) 0)) 198 (upd (Fn 198) (cn 6) 0)) 199 (upd (Fn 199) (cn 6) (nI n))) 301 (flat (Fn 301) 200 (cn 6) (fun _ => 0))) 302 (flat (Fn 302) 12 (cn 6) (fun _ => 0))) 303 (flat (Fn 303) 12 (cn 6) (fun _ => 0))) 304 (flat (Fn 304) 12 (cn 6) (fun _ => 0))) 305 (flat (Fn 305) 32 (cn 6) (fun _ => 0)))), ((cn 6) + 1, e10X cI QA zz g (adO (adO (adO (adO (adO (adO (adO ad 5 (cn 6) qt) 60 (cn 6) r0) 61 (cn 6) r1) 62 (cn 6) r2) 63 (cn 6) r3) 64 (cn 6) r4) 4 1 (cn 6)) (va_up cn 6 (cn 6 + 1)) In (va_up (va_up (va_up (va_up (va_up (va_up (va_up (va_up (va_up (va_up Fn 195 (upd (Fn 195) (cn 6) 0)) 196 (upd (Fn 196) (cn 6) 0)) 197 (upd (Fn 197) (cn 6) 0)) 198 (upd (Fn 198) (cn 6) 0)) 199 (upd (Fn 199) (cn 6) (nI n))) 301 (flat (Fn 301) 200 (cn 6) (fun _ => 0))) 302 (flat (Fn 302) 12 (cn 6) (fun _ => 0))) 303 (flat (Fn 303) 12 (cn 6) (fun _ => 0))) 304 (flat (Fn 304) 12 (cn 6) (fun _ => 0))) 305 (flat (Fn 305) 32 (cn 6) (fun _ => 0)))), ((cn 6) + 1, e11X cI QA zz g (adO (adO (adO (adO (adO (adO (adO ad 5 (cn 6) qt) 60 (cn 6) r0) 61 (cn 6) r1) 62 (cn 6) r2) 63 (cn 6) r3) 64 (cn 6) r4) 4 1 (cn 6)) (va_up cn 6 (cn 6 + 1)) In (va_up (va_up (va_up (va_up (va_up (va_up (va_up (va_up (va_up (va_up Fn 195 (upd (Fn 195) (cn 6) 0)) 196 (upd (Fn 196) (cn 6) 0)) 197 (upd (Fn 197) (cn 6) 0)) 198 (upd (Fn 198) (cn 6) 0)) 199 (upd (Fn 199) (cn 6) (nI n))) 301 (flat (Fn 301) 200 (cn 6) (fun _ => 0))) 302 (flat (Fn 302) 12 (cn 6) (fun _ => 0))) 303 (flat (Fn 303) 12 (cn 6) (fun _ => 0))) 304 (flat (Fn 304) 12 (cn 6) (fun _ => 0))) 305 (flat (Fn 305) 32 (cn 6) (fun _ => 0)))), ((cn 6) + 1, e12X cI QA zz g (adO (adO (adO (adO (adO (adO (adO ad 5 (cn 6) qt) 60 (cn 6) r0) 61 (cn 6) r1) 62 (cn 6) r2) 63 (cn 6) r3) 64 (cn 6) r4) 4 1 (cn 6)) (va_up cn 6 (cn 6 + 1)) In (va_up (va_up (va_up (va_up (va_up (va_up (va_up (va_up (va_up (va_up Fn 195 (upd (Fn 195) (cn 6) 0)) 196 (upd (Fn 196) (cn 6) 0)) 197 (upd (Fn 197) (cn 6) 0)) 198 (upd (Fn 198) (cn 6) 0)) 199 (upd (Fn 199) (cn 6) (nI n))) 301 (flat (Fn 301) 200 (cn 6) (fun _ => 0))) 302 (flat (Fn 302) 12 (cn 6) (fun _ => 0))) 303 (flat (Fn 303) 12 (cn 6) (fun _ => 0))) 304 (flat (Fn 304) 12 (cn 6) (fun _ => 0))) 305 (flat (Fn 305) 32 (cn 6) (fun _ => 0)))), ((min 1 (cn 10)), e13X cI QA zz g ad cn In Fn), ((min 1 (cn 11)), e14X cI QA zz g ad cn In Fn), ((min 1 (cn 12)), e15X cI QA zz g ad cn In Fn), ((min 1 (cn 13)), e16X cI QA zz g ad cn In Fn), ((min 1 (cn 14)), e17X cI QA zz g ad cn In Fn), ((min 1 (cn 15)), e18X cI QA zz g ad cn In Fn)]).set 7 ((cn 6), e7X cI QA zz g (adO (adO (adO (adO (adO (adO (adO ad 5 (cn 6) qt) 60 (cn 6) r0) 61 (cn 6) r1) 62 (cn 6) r2) 63 (cn 6) r3) 64 (cn 6) r4) 4 1 (cn 6)) (va_up cn 6 (cn 6 + 1)) In (va_up (va_up (va_up (va_up (va_up (va_up (va_up (va_up (va_up (va_up Fn 195 (upd (Fn 195) (cn 6) 0)) 196 (upd (Fn 196) (cn 6) 0)) 197 (upd (Fn 197) (cn 6) 0)) 198 (upd (Fn 198) (cn 6) 0)) 199 (upd (Fn 199) (cn 6) (nI n))) 301 (flat (Fn 301) 200 (cn 6) (fun _ => 0))) 302 (flat (Fn 302) 12 (cn 6) (fun _ => 0))) 303 (flat (Fn 303) 12 (cn 6) (fun _ => 0))) 304 (flat (Fn 304) 12 (cn 6) (fun _ => 0))) 305 (flat (Fn 305) 32 (cn 6) (fun _ => 0))))) (i := 8) (n := (cn 6)) (f := e8X cI QA zz g (adO (adO (adO (adO (adO (adO (adO ad 5 (cn 6) qt) 60 (cn 6) r0) 61 (cn 6) r1) 62 (cn 6) r2) 63 (cn 6) r3) 64 (cn 6) r4) 4 1 (cn 6)) (va_up cn 6 (cn 6 + 1)) In (va_up (va_up (va_up (va_up (va_up (va_up (va_up (va_up (va_up (va_up Fn 195 (upd (Fn 195) (cn 6) 0)) 196 (upd (Fn 196) (cn 6) 0)) 197 (upd (Fn 197) (cn 6) 0)) 198 (upd (Fn 198) (cn 6) 0)) 199 (upd (Fn 199) (cn 6) (nI n))) 301 (flat (Fn 301) 200 (cn 6) (fun _ => 0))) 302 (flat (Fn 302) 12 (cn 6) (fun _ => 0))) 303 (flat (Fn 303) 12 (cn 6) (fun _ => 0))) 304 (flat (Fn 304) 12 (cn 6) (fun _ => 0))) 305 (flat (Fn 305) 32 (cn 6) (fun _ => 0)))) rfl
  have p2 := famW_push (fs := (([((cn 10), e0X cI QA zz g ad cn In Fn), ((cn 11), e1X cI QA zz g ad cn In Fn), ((cn 12), e2X cI QA zz g ad cn In Fn), ((cn 13), e3X cI QA zz g ad cn In Fn), ((cn 14), e4X cI QA zz g ad cn In Fn), ((cn 15), e5X cI QA zz g ad cn In Fn), ((cn 12), e6X cI QA zz g ad cn In Fn), ((cn 6) + 1, e7X cI QA zz g (adO (adO (adO (adO (adO (adO (adO ad 5 (cn 6) qt) 60 (cn 6) r0) 61 (cn 6) r1) 62 (cn 6) r2) 63 (cn 6) r3) 64 (cn 6) r4) 4 1 (cn 6)) (va_up cn 6 (cn 6 + 1)) In (va_up (va_up (va_up (va_up (va_up (va_up (va_up (va_up (va_up (va_up Fn 195 (upd (Fn 195) (cn 6) 0)) 196 (upd (Fn 196) (cn 6) 0)) 197 (upd (Fn 197) (cn 6) 0)) 198 (upd (Fn 198) (cn 6) 0)) 199 (upd (Fn 199) (cn 6) (nI n))) 301 (flat (Fn 301) 200 (cn 6) (fun _ => 0))) 302 (flat (Fn 302) 12 (cn 6) (fun _ => 0))) 303 (flat (Fn 303) 12 (cn 6) (fun _ => 0))) 304 (flat (Fn 304) 12 (cn 6) (fun _ => 0))) 305 (flat (Fn 305) 32 (cn 6) (fun _ => 0)))), ((cn 6) + 1, e8X cI QA zz g (adO (adO (adO (adO (adO (adO (adO ad 5 (cn 6) qt) 60 (cn 6) r0) 61 (cn 6) r1) 62 (cn 6) r2) 63 (cn 6) r3) 64 (cn 6) r4) 4 1 (cn 6)) (va_up cn 6 (cn 6 + 1)) In (va_up (va_up (va_up (va_up (va_up (va_up (va_up (va_up (va_up (va_up Fn 195 (upd (Fn 195) (cn 6) 0)) 196 (upd (Fn 196) (cn 6) 0)) 197 (upd (Fn 197) (cn 6) 0)) 198 (upd (Fn 198) (cn 6) 0)) 199 (upd (Fn 199) (cn 6) (nI n))) 301 (flat (Fn 301) 200 (cn 6) (fun _ => 0))) 302 (flat (Fn 302) 12 (cn 6) (fun _ => 0))) 303 (flat (Fn 303) 12 (cn 6) (fun _ => 0))) 304 (flat (Fn 304) 12 (cn 6) (fun _ => 0))) 305 (flat (Fn 305) 32 (cn 6) (fun _ => 0)))), ((cn 6) + 1, e9X cI QA zz g (adO (adO (adO (adO (adO (adO (adO ad 5 (cn 6) qt) 60 (cn 6) r0) 61 (cn 6) r1) 62 (cn 6) r2) 63 (cn 6) r3) 64 (cn 6) r4) 4 1 (cn 6)) (va_up cn 6 (cn 6 + 1)) In (va_up (va_up (va_up (va_up (va_up (va_up (va_up (va_up (va_up (va_up Fn 195 (upd (Fn 195) (cn 6) 0)) 196 (upd (Fn 196) (cn 6) 0)) 197 (upd (Fn 197) (cn 6) 0)) 198 (upd (Fn 198) (cn 6) 0)) 199 (upd (Fn 199) (cn 6) (nI n))) 301 (flat (Fn 301) 200 (cn 6) (fun _ => 0))) 302 (flat (Fn 302) 12 (cn 6) (fun _ => 0))) 303 (flat (Fn 303) 12 (cn 6) (fun _ => 0))) 304 (flat (Fn 304) 12 (cn 6) (fun _ => 0))) 305 (flat (Fn 305) 32 (cn 6) (fun _ => 0)))), ((cn 6) + 1, e10X cI QA zz g (adO (adO (adO (adO (adO (adO (adO ad 5 (cn 6) qt) 60 (cn 6) r0) 61 (cn 6) r1) 62 (cn 6) r2) 63 (cn 6) r3) 64 (cn 6) r4) 4 1 (cn 6)) (va_up cn 6 (cn 6 + 1)) In (va_up (va_up (va_up (va_up (va_up (va_up (va_up (va_up (va_up (va_up Fn 195 (upd (Fn 195) (cn 6) 0)) 196 (upd (Fn 196) (cn 6) 0)) 197 (upd (Fn 197) (cn 6) 0)) 198 (upd (Fn 198) (cn 6) 0)) 199 (upd (Fn 199) (cn 6) (nI n))) 301 (flat (Fn 301) 200 (cn 6) (fun _ => 0))) 302 (flat (Fn 302) 12 (cn 6) (fun _ => 0))) 303 (flat (Fn 303) 12 (cn 6) (fun _ => 0))) 304 (flat (Fn 304) 12 (cn 6) (fun _ => 0))) 305 (flat (Fn 305) 32 (cn 6) (fun _ => 0)))), ((cn 6) + 1, e11X cI QA zz g (adO (adO (adO (adO (adO (adO (adO ad 5 (cn 6) qt) 60 (cn 6) r0) 61 (cn 6) r1) 62 (cn 6) r2) 63 (cn 6) r3) 64 (cn 6) r4) 4 1 (cn 6)) (va_up cn 6 (cn 6 + 1)) In (va_up (va_up (va_up (va_up (va_up (va_up (va_up (va_up (va_up (va_up Fn 195 (upd (Fn 195) (cn 6) 0)) 196 (upd (Fn 196) (cn 6) 0)) 197 (upd (Fn 197) (cn 6) 0)) 198 (upd (Fn 198) (cn 6) 0)) 199 (upd (Fn 199) (cn 6) (nI n))) 301 (flat (Fn 301) 200 (cn 6) (fun _ => 0))) 302 (flat (Fn 302) 12 (cn 6) (fun _ => 0))) 303 (flat (Fn 303) 12 (cn 6) (fun _ => 0))) 304 (flat (Fn 304) 12 (cn 6) (fun _ => 0))) 305 (flat (Fn 305) 32 (cn 6) (fun _ => 0)))), ((cn 6) + 1, e12X cI QA zz g (adO (adO (adO (adO (adO (adO (adO ad 5 (cn 6) qt) 60 (cn 6) r0) 61 (cn 6) r1) 62 (cn 6) r2) 63 (cn 6) r3) 64 (cn 6) r4) 4 1 (cn 6)) (va_up cn 6 (cn 6 + 1)) In (va_up (va_up (va_up (va_up (va_up (va_up (va_up (va_up (va_up (va_up Fn 195 (upd (Fn 195) (cn 6) 0)) 196 (upd (Fn 196) (cn 6) 0)) 197 (upd (Fn 197) (cn 6) 0)) 198 (upd (Fn 198) (cn 6) 0)) 199 (upd (Fn 199) (cn 6) (nI n))) 301 (flat (Fn 301) 200 (cn 6) (fun _ => 0))) 302 (flat (Fn 302) 12 (cn 6) (fun _ => 0))) 303 (flat (Fn 303) 12 (cn 6) (fun _ => 0))) 304 (flat (Fn 304) 12 (cn 6) (fun _ => 0))) 305 (flat (Fn 305) 32 (cn 6) (fun _ => 0)))), ((min 1 (cn 10)), e13X cI QA zz g ad cn In Fn), ((min 1 (cn 11)), e14X cI QA zz g ad cn In Fn), ((min 1 (cn 12)), e15X cI QA zz g ad cn In Fn), ((min 1 (cn 13)), e16X cI QA zz g ad cn In Fn), ((min 1 (cn 14)), e17X cI QA zz g ad cn In Fn), ((min 1 (cn 15)), e18X cI QA zz g ad cn In Fn)]).set 7 ((cn 6), e7X cI QA zz g (adO (adO (adO (adO (adO (adO (adO ad 5 (cn 6) qt) 60 (cn 6) r0) 61 (cn 6) r1) 62 (cn 6) r2) 63 (cn 6) r3) 64 (cn 6) r4) 4 1 (cn 6)) (va_up cn 6 (cn 6 + 1)) In (va_up (va_up (va_up (va_up (va_up (va_up (va_up (va_up (va_up (va_up Fn 195 (upd (Fn 195) (cn 6) 0)) 196 (upd (Fn 196) (cn 6) 0)) 197 (upd (Fn 197) (cn 6) 0)) 198 (upd (Fn 198) (cn 6) 0)) 199 (upd (Fn 199) (cn 6) (nI n))) 301 (flat (Fn 301) 200 (cn 6) (fun _ => 0))) 302 (flat (Fn 302) 12 (cn 6) (fun _ => 0))) 303 (flat (Fn 303) 12 (cn 6) (fun _ => 0))) 304 (flat (Fn 304) 12 (cn 6) (fun _ => 0))) 305 (flat (Fn 305) 32 (cn 6) (fun _ => 0))))).set 8 ((cn 6), e8X cI QA zz g (adO (adO (adO (adO (adO (adO (adO ad 5 (cn 6) qt) 60 (cn 6) r0) 61 (cn 6) r1) 62 (cn 6) r2) 63 (cn 6) r3) 64 (cn 6) r4) 4 1 (cn 6)) (va_up cn 6 (cn 6 + 1)) In (va_up (va_up (va_up (va_up (va_up (va_up (va_up (va_up (va_up (va_up Fn 195 (upd (Fn 195) (cn 6) 0)) 196 (upd (Fn 196) (cn 6) 0)) 197 (upd (Fn 197) (cn 6) 0)) 198 (upd (Fn 198) (cn 6) 0)) 199 (upd (Fn 199) (cn 6) (nI n))) 301 (flat (Fn 301) 200 (cn 6) (fun _ => 0))) 302 (flat (Fn 302) 12 (cn 6) (fun _ => 0))) 303 (flat (Fn 303) 12 (cn 6) (fun _ => 0))) 304 (flat (Fn 304) 12 (cn 6) (fun _ => 0))) 305 (flat (Fn 305) 32 (cn 6) (fun _ => 0))))) (i := 9) (n := (cn 6)) (f := e9X cI QA zz g (adO (adO (adO (adO (adO (adO (adO ad 5 (cn 6) qt) 60 (cn 6) r0) 61 (cn 6) r1) 62 (cn 6) r2) 63 (cn 6) r3) 64 (cn 6) r4) 4 1 (cn 6)) (va_up cn 6 (cn 6 + 1)) In (va_up (va_up (va_up (va_up (va_up (va_up (va_up (va_up (va_up (va_up Fn 195 (upd (Fn 195) (cn 6) 0)) 196 (upd (Fn 196) (cn 6) 0)) 197 (upd (Fn 197) (cn 6) 0)) 198 (upd (Fn 198) (cn 6) 0)) 199 (upd (Fn 199) (cn 6) (nI n))) 301 (flat (Fn 301) 200 (cn 6) (fun _ => 0))) 302 (flat (Fn 302) 12 (cn 6) (fun _ => 0))) 303 (flat (Fn 303) 12 (cn 6) (fun _ => 0))) 304 (flat (Fn 304) 12 (cn 6) (fun _ => 0))) 305 (flat (Fn 305) 32 (cn 6) (fun _ => 0)))) rfl
  have p3 := famW_push (fs := ((([((cn 10), e0X cI QA zz g ad cn In Fn), ((cn 11), e1X cI QA zz g ad cn In Fn), ((cn 12), e2X cI QA zz g ad cn In Fn), ((cn 13), e3X cI QA zz g ad cn In Fn), ((cn 14), e4X cI QA zz g ad cn In Fn), ((cn 15), e5X cI QA zz g ad cn In Fn), ((cn 12), e6X cI QA zz g ad cn In Fn), ((cn 6) + 1, e7X cI QA zz g (adO (adO (adO (adO (adO (adO (adO ad 5 (cn 6) qt) 60 (cn 6) r0) 61 (cn 6) r1) 62 (cn 6) r2) 63 (cn 6) r3) 64 (cn 6) r4) 4 1 (cn 6)) (va_up cn 6 (cn 6 + 1)) In (va_up (va_up (va_up (va_up (va_up (va_up (va_up (va_up (va_up (va_up Fn 195 (upd (Fn 195) (cn 6) 0)) 196 (upd (Fn 196) (cn 6) 0)) 197 (upd (Fn 197) (cn 6) 0)) 198 (upd (Fn 198) (cn 6) 0)) 199 (upd (Fn 199) (cn 6) (nI n))) 301 (flat (Fn 301) 200 (cn 6) (fun _ => 0))) 302 (flat (Fn 302) 12 (cn 6) (fun _ => 0))) 303 (flat (Fn 303) 12 (cn 6) (fun _ => 0))) 304 (flat (Fn 304) 12 (cn 6) (fun _ => 0))) 305 (flat (Fn 305) 32 (cn 6) (fun _ => 0)))), ((cn 6) + 1, e8X cI QA zz g (adO (adO (adO (adO (adO (adO (adO ad 5 (cn 6) qt) 60 (cn 6) r0) 61 (cn 6) r1) 62 (cn 6) r2) 63 (cn 6) r3) 64 (cn 6) r4) 4 1 (cn 6)) (va_up cn 6 (cn 6 + 1)) In (va_up (va_up (va_up (va_up (va_up (va_up (va_up (va_up (va_up (va_up Fn 195 (upd (Fn 195) (cn 6) 0)) 196 (upd (Fn 196) (cn 6) 0)) 197 (upd (Fn 197) (cn 6) 0)) 198 (upd (Fn 198) (cn 6) 0)) 199 (upd (Fn 199) (cn 6) (nI n))) 301 (flat (Fn 301) 200 (cn 6) (fun _ => 0))) 302 (flat (Fn 302) 12 (cn 6) (fun _ => 0))) 303 (flat (Fn 303) 12 (cn 6) (fun _ => 0))) 304 (flat (Fn 304) 12 (cn 6) (fun _ => 0))) 305 (flat (Fn 305) 32 (cn 6) (fun _ => 0)))), ((cn 6) + 1, e9X cI QA zz g (adO (adO (adO (adO (adO (adO (adO ad 5 (cn 6) qt) 60 (cn 6) r0) 61 (cn 6) r1) 62 (cn 6) r2) 63 (cn 6) r3) 64 (cn 6) r4) 4 1 (cn 6)) (va_up cn 6 (cn 6 + 1)) In (va_up (va_up (va_up (va_up (va_up (va_up (va_up (va_up (va_up (va_up Fn 195 (upd (Fn 195) (cn 6) 0)) 196 (upd (Fn 196) (cn 6) 0)) 197 (upd (Fn 197) (cn 6) 0)) 198 (upd (Fn 198) (cn 6) 0)) 199 (upd (Fn 199) (cn 6) (nI n))) 301 (flat (Fn 301) 200 (cn 6) (fun _ => 0))) 302 (flat (Fn 302) 12 (cn 6) (fun _ => 0))) 303 (flat (Fn 303) 12 (cn 6) (fun _ => 0))) 304 (flat (Fn 304) 12 (cn 6) (fun _ => 0))) 305 (flat (Fn 305) 32 (cn 6) (fun _ => 0)))), ((cn 6) + 1, e10X cI QA zz g (adO (adO (adO (adO (adO (adO (adO ad 5 (cn 6) qt) 60 (cn 6) r0) 61 (cn 6) r1) 62 (cn 6) r2) 63 (cn 6) r3) 64 (cn 6) r4) 4 1 (cn 6)) (va_up cn 6 (cn 6 + 1)) In (va_up (va_up (va_up (va_up (va_up (va_up (va_up (va_up (va_up (va_up Fn 195 (upd (Fn 195) (cn 6) 0)) 196 (upd (Fn 196) (cn 6) 0)) 197 (upd (Fn 197) (cn 6) 0)) 198 (upd (Fn 198) (cn 6) 0)) 199 (upd (Fn 199) (cn 6) (nI n))) 301 (flat (Fn 301) 200 (cn 6) (fun _ => 0))) 302 (flat (Fn 302) 12 (cn 6) (fun _ => 0))) 303 (flat (Fn 303) 12 (cn 6) (fun _ => 0))) 304 (flat (Fn 304) 12 (cn 6) (fun _ => 0))) 305 (flat (Fn 305) 32 (cn 6) (fun _ => 0)))), ((cn 6) + 1, e11X cI QA zz g (adO (adO (adO (adO (adO (adO (adO ad 5 (cn 6) qt) 60 (cn 6) r0) 61 (cn 6) r1) 62 (cn 6) r2) 63 (cn 6) r3) 64 (cn 6) r4) 4 1 (cn 6)) (va_up cn 6 (cn 6 + 1)) In (va_up (va_up (va_up (va_up (va_up (va_up (va_up (va_up (va_up (va_up Fn 195 (upd (Fn 195) (cn 6) 0)) 196 (upd (Fn 196) (cn 6) 0)) 197 (upd (Fn 197) (cn 6) 0)) 198 (upd (Fn 198) (cn 6) 0)) 199 (upd (Fn 199) (cn 6) (nI n))) 301 (flat (Fn 301) 200 (cn 6) (fun _ => 0))) 302 (flat (Fn 302) 12 (cn 6) (fun _ => 0))) 303 (flat (Fn 303) 12 (cn 6) (fun _ => 0))) 304 (flat (Fn 304) 12 (cn 6) (fun _ => 0))) 305 (flat (Fn 305) 32 (cn 6) (fun _ => 0)))), ((cn 6) + 1, e12X cI QA zz g (adO (adO (adO (adO (adO (adO (adO ad 5 (cn 6) qt) 60 (cn 6) r0) 61 (cn 6) r1) 62 (cn 6) r2) 63 (cn 6) r3) 64 (cn 6) r4) 4 1 (cn 6)) (va_up cn 6 (cn 6 + 1)) In (va_up (va_up (va_up (va_up (va_up (va_up (va_up (va_up (va_up (va_up Fn 195 (upd (Fn 195) (cn 6) 0)) 196 (upd (Fn 196) (cn 6) 0)) 197 (upd (Fn 197) (cn 6) 0)) 198 (upd (Fn 198) (cn 6) 0)) 199 (upd (Fn 199) (cn 6) (nI n))) 301 (flat (Fn 301) 200 (cn 6) (fun _ => 0))) 302 (flat (Fn 302) 12 (cn 6) (fun _ => 0))) 303 (flat (Fn 303) 12 (cn 6) (fun _ => 0))) 304 (flat (Fn 304) 12 (cn 6) (fun _ => 0))) 305 (flat (Fn 305) 32 (cn 6) (fun _ => 0)))), ((min 1 (cn 10)), e13X cI QA zz g ad cn In Fn), ((min 1 (cn 11)), e14X cI QA zz g ad cn In Fn), ((min 1 (cn 12)), e15X cI QA zz g ad cn In Fn), ((min 1 (cn 13)), e16X cI QA zz g ad cn In Fn), ((min 1 (cn 14)), e17X cI QA zz g ad cn In Fn), ((min 1 (cn 15)), e18X cI QA zz g ad cn In Fn)]).set 7 ((cn 6), e7X cI QA zz g (adO (adO (adO (adO (adO (adO (adO ad 5 (cn 6) qt) 60 (cn 6) r0) 61 (cn 6) r1) 62 (cn 6) r2) 63 (cn 6) r3) 64 (cn 6) r4) 4 1 (cn 6)) (va_up cn 6 (cn 6 + 1)) In (va_up (va_up (va_up (va_up (va_up (va_up (va_up (va_up (va_up (va_up Fn 195 (upd (Fn 195) (cn 6) 0)) 196 (upd (Fn 196) (cn 6) 0)) 197 (upd (Fn 197) (cn 6) 0)) 198 (upd (Fn 198) (cn 6) 0)) 199 (upd (Fn 199) (cn 6) (nI n))) 301 (flat (Fn 301) 200 (cn 6) (fun _ => 0))) 302 (flat (Fn 302) 12 (cn 6) (fun _ => 0))) 303 (flat (Fn 303) 12 (cn 6) (fun _ => 0))) 304 (flat (Fn 304) 12 (cn 6) (fun _ => 0))) 305 (flat (Fn 305) 32 (cn 6) (fun _ => 0))))).set 8 ((cn 6), e8X cI QA zz g (adO (adO (adO (adO (adO (adO (adO ad 5 (cn 6) qt) 60 (cn 6) r0) 61 (cn 6) r1) 62 (cn 6) r2) 63 (cn 6) r3) 64 (cn 6) r4) 4 1 (cn 6)) (va_up cn 6 (cn 6 + 1)) In (va_up (va_up (va_up (va_up (va_up (va_up (va_up (va_up (va_up (va_up Fn 195 (upd (Fn 195) (cn 6) 0)) 196 (upd (Fn 196) (cn 6) 0)) 197 (upd (Fn 197) (cn 6) 0)) 198 (upd (Fn 198) (cn 6) 0)) 199 (upd (Fn 199) (cn 6) (nI n))) 301 (flat (Fn 301) 200 (cn 6) (fun _ => 0))) 302 (flat (Fn 302) 12 (cn 6) (fun _ => 0))) 303 (flat (Fn 303) 12 (cn 6) (fun _ => 0))) 304 (flat (Fn 304) 12 (cn 6) (fun _ => 0))) 305 (flat (Fn 305) 32 (cn 6) (fun _ => 0))))).set 9 ((cn 6), e9X cI QA zz g (adO (adO (adO (adO (adO (adO (adO ad 5 (cn 6) qt) 60 (cn 6) r0) 61 (cn 6) r1) 62 (cn 6) r2) 63 (cn 6) r3) 64 (cn 6) r4) 4 1 (cn 6)) (va_up cn 6 (cn 6 + 1)) In (va_up (va_up (va_up (va_up (va_up (va_up (va_up (va_up (va_up (va_up Fn 195 (upd (Fn 195) (cn 6) 0)) 196 (upd (Fn 196) (cn 6) 0)) 197 (upd (Fn 197) (cn 6) 0)) 198 (upd (Fn 198) (cn 6) 0)) 199 (upd (Fn 199) (cn 6) (nI n))) 301 (flat (Fn 301) 200 (cn 6) (fun _ => 0))) 302 (flat (Fn 302) 12 (cn 6) (fun _ => 0))) 303 (flat (Fn 303) 12 (cn 6) (fun _ => 0))) 304 (flat (Fn 304) 12 (cn 6) (fun _ => 0))) 305 (flat (Fn 305) 32 (cn 6) (fun _ => 0))))) (i := 10) (n := (cn 6)) (f := e10X cI QA zz g (adO (adO (adO (adO (adO (adO (adO ad 5 (cn 6) qt) 60 (cn 6) r0) 61 (cn 6) r1) 62 (cn 6) r2) 63 (cn 6) r3) 64 (cn 6) r4) 4 1 (cn 6)) (va_up cn 6 (cn 6 + 1)) In (va_up (va_up (va_up (va_up (va_up (va_up (va_up (va_up (va_up (va_up Fn 195 (upd (Fn 195) (cn 6) 0)) 196 (upd (Fn 196) (cn 6) 0)) 197 (upd (Fn 197) (cn 6) 0)) 198 (upd (Fn 198) (cn 6) 0)) 199 (upd (Fn 199) (cn 6) (nI n))) 301 (flat (Fn 301) 200 (cn 6) (fun _ => 0))) 302 (flat (Fn 302) 12 (cn 6) (fun _ => 0))) 303 (flat (Fn 303) 12 (cn 6) (fun _ => 0))) 304 (flat (Fn 304) 12 (cn 6) (fun _ => 0))) 305 (flat (Fn 305) 32 (cn 6) (fun _ => 0)))) rfl
  have p4 := famW_push (fs := (((([((cn 10), e0X cI QA zz g ad cn In Fn), ((cn 11), e1X cI QA zz g ad cn In Fn), ((cn 12), e2X cI QA zz g ad cn In Fn), ((cn 13), e3X cI QA zz g ad cn In Fn), ((cn 14), e4X cI QA zz g ad cn In Fn), ((cn 15), e5X cI QA zz g ad cn In Fn), ((cn 12), e6X cI QA zz g ad cn In Fn), ((cn 6) + 1, e7X cI QA zz g (adO (adO (adO (adO (adO (adO (adO ad 5 (cn 6) qt) 60 (cn 6) r0) 61 (cn 6) r1) 62 (cn 6) r2) 63 (cn 6) r3) 64 (cn 6) r4) 4 1 (cn 6)) (va_up cn 6 (cn 6 + 1)) In (va_up (va_up (va_up (va_up (va_up (va_up (va_up (va_up (va_up (va_up Fn 195 (upd (Fn 195) (cn 6) 0)) 196 (upd (Fn 196) (cn 6) 0)) 197 (upd (Fn 197) (cn 6) 0)) 198 (upd (Fn 198) (cn 6) 0)) 199 (upd (Fn 199) (cn 6) (nI n))) 301 (flat (Fn 301) 200 (cn 6) (fun _ => 0))) 302 (flat (Fn 302) 12 (cn 6) (fun _ => 0))) 303 (flat (Fn 303) 12 (cn 6) (fun _ => 0))) 304 (flat (Fn 304) 12 (cn 6) (fun _ => 0))) 305 (flat (Fn 305) 32 (cn 6) (fun _ => 0)))), ((cn 6) + 1, e8X cI QA zz g (adO (adO (adO (adO (adO (adO (adO ad 5 (cn 6) qt) 60 (cn 6) r0) 61 (cn 6) r1) 62 (cn 6) r2) 63 (cn 6) r3) 64 (cn 6) r4) 4 1 (cn 6)) (va_up cn 6 (cn 6 + 1)) In (va_up (va_up (va_up (va_up (va_up (va_up (va_up (va_up (va_up (va_up Fn 195 (upd (Fn 195) (cn 6) 0)) 196 (upd (Fn 196) (cn 6) 0)) 197 (upd (Fn 197) (cn 6) 0)) 198 (upd (Fn 198) (cn 6) 0)) 199 (upd (Fn 199) (cn 6) (nI n))) 301 (flat (Fn 301) 200 (cn 6) (fun _ => 0))) 302 (flat (Fn 302) 12 (cn 6) (fun _ => 0))) 303 (flat (Fn 303) 12 (cn 6) (fun _ => 0))) 304 (flat (Fn 304) 12 (cn 6) (fun _ => 0))) 305 (flat (Fn 305) 32 (cn 6) (fun _ => 0)))), ((cn 6) + 1, e9X cI QA zz g (adO (adO (adO (adO (adO (adO (adO ad 5 (cn 6) qt) 60 (cn 6) r0) 61 (cn 6) r1) 62 (cn 6) r2) 63 (cn 6) r3) 64 (cn 6) r4) 4 1 (cn 6)) (va_up cn 6 (cn 6 + 1)) In (va_up (va_up (va_up (va_up (va_up (va_up (va_up (va_up (va_up (va_up Fn 195 (upd (Fn 195) (cn 6) 0)) 196 (upd (Fn 196) (cn 6) 0)) 197 (upd (Fn 197) (cn 6) 0)) 198 (upd (Fn 198) (cn 6) 0)) 199 (upd (Fn 199) (cn 6) (nI n))) 301 (flat (Fn 301) 200 (cn 6) (fun _ => 0))) 302 (flat (Fn 302) 12 (cn 6) (fun _ => 0))) 303 (flat (Fn 303) 12 (cn 6) (fun _ => 0))) 304 (flat (Fn 304) 12 (cn 6) (fun _ => 0))) 305 (flat (Fn 305) 32 (cn 6) (fun _ => 0)))), ((cn 6) + 1, e10X cI QA zz g (adO (adO (adO (adO (adO (adO (adO ad 5 (cn 6) qt) 60 (cn 6) r0) 61 (cn 6) r1) 62 (cn 6) r2) 63 (cn 6) r3) 64 (cn 6) r4) 4 1 (cn 6)) (va_up cn 6 (cn 6 + 1)) In (va_up (va_up (va_up (va_up (va_up (va_up (va_up (va_up (va_up (va_up Fn 195 (upd (Fn 195) (cn 6) 0)) 196 (upd (Fn 196) (cn 6) 0)) 197 (upd (Fn 197) (cn 6) 0)) 198 (upd (Fn 198) (cn 6) 0)) 199 (upd (Fn 199) (cn 6) (nI n))) 301 (flat (Fn 301) 200 (cn 6) (fun _ => 0))) 302 (flat (Fn 302) 12 (cn 6) (fun _ => 0))) 303 (flat (Fn 303) 12 (cn 6) (fun _ => 0))) 304 (flat (Fn 304) 12 (cn 6) (fun _ => 0))) 305 (flat (Fn 305) 32 (cn 6) (fun _ => 0)))), ((cn 6) + 1, e11X cI QA zz g (adO (adO (adO (adO (adO (adO (adO ad 5 (cn 6) qt) 60 (cn 6) r0) 61 (cn 6) r1) 62 (cn 6) r2) 63 (cn 6) r3) 64 (cn 6) r4) 4 1 (cn 6)) (va_up cn 6 (cn 6 + 1)) In (va_up (va_up (va_up (va_up (va_up (va_up (va_up (va_up (va_up (va_up Fn 195 (upd (Fn 195) (cn 6) 0)) 196 (upd (Fn 196) (cn 6) 0)) 197 (upd (Fn 197) (cn 6) 0)) 198 (upd (Fn 198) (cn 6) 0)) 199 (upd (Fn 199) (cn 6) (nI n))) 301 (flat (Fn 301) 200 (cn 6) (fun _ => 0))) 302 (flat (Fn 302) 12 (cn 6) (fun _ => 0))) 303 (flat (Fn 303) 12 (cn 6) (fun _ => 0))) 304 (flat (Fn 304) 12 (cn 6) (fun _ => 0))) 305 (flat (Fn 305) 32 (cn 6) (fun _ => 0)))), ((cn 6) + 1, e12X cI QA zz g (adO (adO (adO (adO (adO (adO (adO ad 5 (cn 6) qt) 60 (cn 6) r0) 61 (cn 6) r1) 62 (cn 6) r2) 63 (cn 6) r3) 64 (cn 6) r4) 4 1 (cn 6)) (va_up cn 6 (cn 6 + 1)) In (va_up (va_up (va_up (va_up (va_up (va_up (va_up (va_up (va_up (va_up Fn 195 (upd (Fn 195) (cn 6) 0)) 196 (upd (Fn 196) (cn 6) 0)) 197 (upd (Fn 197) (cn 6) 0)) 198 (upd (Fn 198) (cn 6) 0)) 199 (upd (Fn 199) (cn 6) (nI n))) 301 (flat (Fn 301) 200 (cn 6) (fun _ => 0))) 302 (flat (Fn 302) 12 (cn 6) (fun _ => 0))) 303 (flat (Fn 303) 12 (cn 6) (fun _ => 0))) 304 (flat (Fn 304) 12 (cn 6) (fun _ => 0))) 305 (flat (Fn 305) 32 (cn 6) (fun _ => 0)))), ((min 1 (cn 10)), e13X cI QA zz g ad cn In Fn), ((min 1 (cn 11)), e14X cI QA zz g ad cn In Fn), ((min 1 (cn 12)), e15X cI QA zz g ad cn In Fn), ((min 1 (cn 13)), e16X cI QA zz g ad cn In Fn), ((min 1 (cn 14)), e17X cI QA zz g ad cn In Fn), ((min 1 (cn 15)), e18X cI QA zz g ad cn In Fn)]).set 7 ((cn 6), e7X cI QA zz g (adO (adO (adO (adO (adO (adO (adO ad 5 (cn 6) qt) 60 (cn 6) r0) 61 (cn 6) r1) 62 (cn 6) r2) 63 (cn 6) r3) 64 (cn 6) r4) 4 1 (cn 6)) (va_up cn 6 (cn 6 + 1)) In (va_up (va_up (va_up (va_up (va_up (va_up (va_up (va_up (va_up (va_up Fn 195 (upd (Fn 195) (cn 6) 0)) 196 (upd (Fn 196) (cn 6) 0)) 197 (upd (Fn 197) (cn 6) 0)) 198 (upd (Fn 198) (cn 6) 0)) 199 (upd (Fn 199) (cn 6) (nI n))) 301 (flat (Fn 301) 200 (cn 6) (fun _ => 0))) 302 (flat (Fn 302) 12 (cn 6) (fun _ => 0))) 303 (flat (Fn 303) 12 (cn 6) (fun _ => 0))) 304 (flat (Fn 304) 12 (cn 6) (fun _ => 0))) 305 (flat (Fn 305) 32 (cn 6) (fun _ => 0))))).set 8 ((cn 6), e8X cI QA zz g (adO (adO (adO (adO (adO (adO (adO ad 5 (cn 6) qt) 60 (cn 6) r0) 61 (cn 6) r1) 62 (cn 6) r2) 63 (cn 6) r3) 64 (cn 6) r4) 4 1 (cn 6)) (va_up cn 6 (cn 6 + 1)) In (va_up (va_up (va_up (va_up (va_up (va_up (va_up (va_up (va_up (va_up Fn 195 (upd (Fn 195) (cn 6) 0)) 196 (upd (Fn 196) (cn 6) 0)) 197 (upd (Fn 197) (cn 6) 0)) 198 (upd (Fn 198) (cn 6) 0)) 199 (upd (Fn 199) (cn 6) (nI n))) 301 (flat (Fn 301) 200 (cn 6) (fun _ => 0))) 302 (flat (Fn 302) 12 (cn 6) (fun _ => 0))) 303 (flat (Fn 303) 12 (cn 6) (fun _ => 0))) 304 (flat (Fn 304) 12 (cn 6) (fun _ => 0))) 305 (flat (Fn 305) 32 (cn 6) (fun _ => 0))))).set 9 ((cn 6), e9X cI QA zz g (adO (adO (adO (adO (adO (adO (adO ad 5 (cn 6) qt) 60 (cn 6) r0) 61 (cn 6) r1) 62 (cn 6) r2) 63 (cn 6) r3) 64 (cn 6) r4) 4 1 (cn 6)) (va_up cn 6 (cn 6 + 1)) In (va_up (va_up (va_up (va_up (va_up (va_up (va_up (va_up (va_up (va_up Fn 195 (upd (Fn 195) (cn 6) 0)) 196 (upd (Fn 196) (cn 6) 0)) 197 (upd (Fn 197) (cn 6) 0)) 198 (upd (Fn 198) (cn 6) 0)) 199 (upd (Fn 199) (cn 6) (nI n))) 301 (flat (Fn 301) 200 (cn 6) (fun _ => 0))) 302 (flat (Fn 302) 12 (cn 6) (fun _ => 0))) 303 (flat (Fn 303) 12 (cn 6) (fun _ => 0))) 304 (flat (Fn 304) 12 (cn 6) (fun _ => 0))) 305 (flat (Fn 305) 32 (cn 6) (fun _ => 0))))).set 10 ((cn 6), e10X cI QA zz g (adO (adO (adO (adO (adO (adO (adO ad 5 (cn 6) qt) 60 (cn 6) r0) 61 (cn 6) r1) 62 (cn 6) r2) 63 (cn 6) r3) 64 (cn 6) r4) 4 1 (cn 6)) (va_up cn 6 (cn 6 + 1)) In (va_up (va_up (va_up (va_up (va_up (va_up (va_up (va_up (va_up (va_up Fn 195 (upd (Fn 195) (cn 6) 0)) 196 (upd (Fn 196) (cn 6) 0)) 197 (upd (Fn 197) (cn 6) 0)) 198 (upd (Fn 198) (cn 6) 0)) 199 (upd (Fn 199) (cn 6) (nI n))) 301 (flat (Fn 301) 200 (cn 6) (fun _ => 0))) 302 (flat (Fn 302) 12 (cn 6) (fun _ => 0))) 303 (flat (Fn 303) 12 (cn 6) (fun _ => 0))) 304 (flat (Fn 304) 12 (cn 6) (fun _ => 0))) 305 (flat (Fn 305) 32 (cn 6) (fun _ => 0))))) (i := 11) (n := (cn 6)) (f := e11X cI QA zz g (adO (adO (adO (adO (adO (adO (adO ad 5 (cn 6) qt) 60 (cn 6) r0) 61 (cn 6) r1) 62 (cn 6) r2) 63 (cn 6) r3) 64 (cn 6) r4) 4 1 (cn 6)) (va_up cn 6 (cn 6 + 1)) In (va_up (va_up (va_up (va_up (va_up (va_up (va_up (va_up (va_up (va_up Fn 195 (upd (Fn 195) (cn 6) 0)) 196 (upd (Fn 196) (cn 6) 0)) 197 (upd (Fn 197) (cn 6) 0)) 198 (upd (Fn 198) (cn 6) 0)) 199 (upd (Fn 199) (cn 6) (nI n))) 301 (flat (Fn 301) 200 (cn 6) (fun _ => 0))) 302 (flat (Fn 302) 12 (cn 6) (fun _ => 0))) 303 (flat (Fn 303) 12 (cn 6) (fun _ => 0))) 304 (flat (Fn 304) 12 (cn 6) (fun _ => 0))) 305 (flat (Fn 305) 32 (cn 6) (fun _ => 0)))) rfl
  have p5 := famW_push (fs := ((((([((cn 10), e0X cI QA zz g ad cn In Fn), ((cn 11), e1X cI QA zz g ad cn In Fn), ((cn 12), e2X cI QA zz g ad cn In Fn), ((cn 13), e3X cI QA zz g ad cn In Fn), ((cn 14), e4X cI QA zz g ad cn In Fn), ((cn 15), e5X cI QA zz g ad cn In Fn), ((cn 12), e6X cI QA zz g ad cn In Fn), ((cn 6) + 1, e7X cI QA zz g (adO (adO (adO (adO (adO (adO (adO ad 5 (cn 6) qt) 60 (cn 6) r0) 61 (cn 6) r1) 62 (cn 6) r2) 63 (cn 6) r3) 64 (cn 6) r4) 4 1 (cn 6)) (va_up cn 6 (cn 6 + 1)) In (va_up (va_up (va_up (va_up (va_up (va_up (va_up (va_up (va_up (va_up Fn 195 (upd (Fn 195) (cn 6) 0)) 196 (upd (Fn 196) (cn 6) 0)) 197 (upd (Fn 197) (cn 6) 0)) 198 (upd (Fn 198) (cn 6) 0)) 199 (upd (Fn 199) (cn 6) (nI n))) 301 (flat (Fn 301) 200 (cn 6) (fun _ => 0))) 302 (flat (Fn 302) 12 (cn 6) (fun _ => 0))) 303 (flat (Fn 303) 12 (cn 6) (fun _ => 0))) 304 (flat (Fn 304) 12 (cn 6) (fun _ => 0))) 305 (flat (Fn 305) 32 (cn 6) (fun _ => 0)))), ((cn 6) + 1, e8X cI QA zz g (adO (adO (adO (adO (adO (adO (adO ad 5 (cn 6) qt) 60 (cn 6) r0) 61 (cn 6) r1) 62 (cn 6) r2) 63 (cn 6) r3) 64 (cn 6) r4) 4 1 (cn 6)) (va_up cn 6 (cn 6 + 1)) In (va_up (va_up (va_up (va_up (va_up (va_up (va_up (va_up (va_up (va_up Fn 195 (upd (Fn 195) (cn 6) 0)) 196 (upd (Fn 196) (cn 6) 0)) 197 (upd (Fn 197) (cn 6) 0)) 198 (upd (Fn 198) (cn 6) 0)) 199 (upd (Fn 199) (cn 6) (nI n))) 301 (flat (Fn 301) 200 (cn 6) (fun _ => 0))) 302 (flat (Fn 302) 12 (cn 6) (fun _ => 0))) 303 (flat (Fn 303) 12 (cn 6) (fun _ => 0))) 304 (flat (Fn 304) 12 (cn 6) (fun _ => 0))) 305 (flat (Fn 305) 32 (cn 6) (fun _ => 0)))), ((cn 6) + 1, e9X cI QA zz g (adO (adO (adO (adO (adO (adO (adO ad 5 (cn 6) qt) 60 (cn 6) r0) 61 (cn 6) r1) 62 (cn 6) r2) 63 (cn 6) r3) 64 (cn 6) r4) 4 1 (cn 6)) (va_up cn 6 (cn 6 + 1)) In (va_up (va_up (va_up (va_up (va_up (va_up (va_up (va_up (va_up (va_up Fn 195 (upd (Fn 195) (cn 6) 0)) 196 (upd (Fn 196) (cn 6) 0)) 197 (upd (Fn 197) (cn 6) 0)) 198 (upd (Fn 198) (cn 6) 0)) 199 (upd (Fn 199) (cn 6) (nI n))) 301 (flat (Fn 301) 200 (cn 6) (fun _ => 0))) 302 (flat (Fn 302) 12 (cn 6) (fun _ => 0))) 303 (flat (Fn 303) 12 (cn 6) (fun _ => 0))) 304 (flat (Fn 304) 12 (cn 6) (fun _ => 0))) 305 (flat (Fn 305) 32 (cn 6) (fun _ => 0)))), ((cn 6) + 1, e10X cI QA zz g (adO (adO (adO (adO (adO (adO (adO ad 5 (cn 6) qt) 60 (cn 6) r0) 61 (cn 6) r1) 62 (cn 6) r2) 63 (cn 6) r3) 64 (cn 6) r4) 4 1 (cn 6)) (va_up cn 6 (cn 6 + 1)) In (va_up (va_up (va_up (va_up (va_up (va_up (va_up (va_up (va_up (va_up Fn 195 (upd (Fn 195) (cn 6) 0)) 196 (upd (Fn 196) (cn 6) 0)) 197 (upd (Fn 197) (cn 6) 0)) 198 (upd (Fn 198) (cn 6) 0)) 199 (upd (Fn 199) (cn 6) (nI n))) 301 (flat (Fn 301) 200 (cn 6) (fun _ => 0))) 302 (flat (Fn 302) 12 (cn 6) (fun _ => 0))) 303 (flat (Fn 303) 12 (cn 6) (fun _ => 0))) 304 (flat (Fn 304) 12 (cn 6) (fun _ => 0))) 305 (flat (Fn 305) 32 (cn 6) (fun _ => 0)))), ((cn 6) + 1, e11X cI QA zz g (adO (adO (adO (adO (adO (adO (adO ad 5 (cn 6) qt) 60 (cn 6) r0) 61 (cn 6) r1) 62 (cn 6) r2) 63 (cn 6) r3) 64 (cn 6) r4) 4 1 (cn 6)) (va_up cn 6 (cn 6 + 1)) In (va_up (va_up (va_up (va_up (va_up (va_up (va_up (va_up (va_up (va_up Fn 195 (upd (Fn 195) (cn 6) 0)) 196 (upd (Fn 196) (cn 6) 0)) 197 (upd (Fn 197) (cn 6) 0)) 198 (upd (Fn 198) (cn 6) 0)) 199 (upd (Fn 199) (cn 6) (nI n))) 301 (flat (Fn 301) 200 (cn 6) (fun _ => 0))) 302 (flat (Fn 302) 12 (cn 6) (fun _ => 0))) 303 (flat (Fn 303) 12 (cn 6) (fun _ => 0))) 304 (flat (Fn 304) 12 (cn 6) (fun _ => 0))) 305 (flat (Fn 305) 32 (cn 6) (fun _ => 0)))), ((cn 6) + 1, e12X cI QA zz g (adO (adO (adO (adO (adO (adO (adO ad 5 (cn 6) qt) 60 (cn 6) r0) 61 (cn 6) r1) 62 (cn 6) r2) 63 (cn 6) r3) 64 (cn 6) r4) 4 1 (cn 6)) (va_up cn 6 (cn 6 + 1)) In (va_up (va_up (va_up (va_up (va_up (va_up (va_up (va_up (va_up (va_up Fn 195 (upd (Fn 195) (cn 6) 0)) 196 (upd (Fn 196) (cn 6) 0)) 197 (upd (Fn 197) (cn 6) 0)) 198 (upd (Fn 198) (cn 6) 0)) 199 (upd (Fn 199) (cn 6) (nI n))) 301 (flat (Fn 301) 200 (cn 6) (fun _ => 0))) 302 (flat (Fn 302) 12 (cn 6) (fun _ => 0))) 303 (flat (Fn 303) 12 (cn 6) (fun _ => 0))) 304 (flat (Fn 304) 12 (cn 6) (fun _ => 0))) 305 (flat (Fn 305) 32 (cn 6) (fun _ => 0)))), ((min 1 (cn 10)), e13X cI QA zz g ad cn In Fn), ((min 1 (cn 11)), e14X cI QA zz g ad cn In Fn), ((min 1 (cn 12)), e15X cI QA zz g ad cn In Fn), ((min 1 (cn 13)), e16X cI QA zz g ad cn In Fn), ((min 1 (cn 14)), e17X cI QA zz g ad cn In Fn), ((min 1 (cn 15)), e18X cI QA zz g ad cn In Fn)]).set 7 ((cn 6), e7X cI QA zz g (adO (adO (adO (adO (adO (adO (adO ad 5 (cn 6) qt) 60 (cn 6) r0) 61 (cn 6) r1) 62 (cn 6) r2) 63 (cn 6) r3) 64 (cn 6) r4) 4 1 (cn 6)) (va_up cn 6 (cn 6 + 1)) In (va_up (va_up (va_up (va_up (va_up (va_up (va_up (va_up (va_up (va_up Fn 195 (upd (Fn 195) (cn 6) 0)) 196 (upd (Fn 196) (cn 6) 0)) 197 (upd (Fn 197) (cn 6) 0)) 198 (upd (Fn 198) (cn 6) 0)) 199 (upd (Fn 199) (cn 6) (nI n))) 301 (flat (Fn 301) 200 (cn 6) (fun _ => 0))) 302 (flat (Fn 302) 12 (cn 6) (fun _ => 0))) 303 (flat (Fn 303) 12 (cn 6) (fun _ => 0))) 304 (flat (Fn 304) 12 (cn 6) (fun _ => 0))) 305 (flat (Fn 305) 32 (cn 6) (fun _ => 0))))).set 8 ((cn 6), e8X cI QA zz g (adO (adO (adO (adO (adO (adO (adO ad 5 (cn 6) qt) 60 (cn 6) r0) 61 (cn 6) r1) 62 (cn 6) r2) 63 (cn 6) r3) 64 (cn 6) r4) 4 1 (cn 6)) (va_up cn 6 (cn 6 + 1)) In (va_up (va_up (va_up (va_up (va_up (va_up (va_up (va_up (va_up (va_up Fn 195 (upd (Fn 195) (cn 6) 0)) 196 (upd (Fn 196) (cn 6) 0)) 197 (upd (Fn 197) (cn 6) 0)) 198 (upd (Fn 198) (cn 6) 0)) 199 (upd (Fn 199) (cn 6) (nI n))) 301 (flat (Fn 301) 200 (cn 6) (fun _ => 0))) 302 (flat (Fn 302) 12 (cn 6) (fun _ => 0))) 303 (flat (Fn 303) 12 (cn 6) (fun _ => 0))) 304 (flat (Fn 304) 12 (cn 6) (fun _ => 0))) 305 (flat (Fn 305) 32 (cn 6) (fun _ => 0))))).set 9 ((cn 6), e9X cI QA zz g (adO (adO (adO (adO (adO (adO (adO ad 5 (cn 6) qt) 60 (cn 6) r0) 61 (cn 6) r1) 62 (cn 6) r2) 63 (cn 6) r3) 64 (cn 6) r4) 4 1 (cn 6)) (va_up cn 6 (cn 6 + 1)) In (va_up (va_up (va_up (va_up (va_up (va_up (va_up (va_up (va_up (va_up Fn 195 (upd (Fn 195) (cn 6) 0)) 196 (upd (Fn 196) (cn 6) 0)) 197 (upd (Fn 197) (cn 6) 0)) 198 (upd (Fn 198) (cn 6) 0)) 199 (upd (Fn 199) (cn 6) (nI n))) 301 (flat (Fn 301) 200 (cn 6) (fun _ => 0))) 302 (flat (Fn 302) 12 (cn 6) (fun _ => 0))) 303 (flat (Fn 303) 12 (cn 6) (fun _ => 0))) 304 (flat (Fn 304) 12 (cn 6) (fun _ => 0))) 305 (flat (Fn 305) 32 (cn 6) (fun _ => 0))))).set 10 ((cn 6), e10X cI QA zz g (adO (adO (adO (adO (adO (adO (adO ad 5 (cn 6) qt) 60 (cn 6) r0) 61 (cn 6) r1) 62 (cn 6) r2) 63 (cn 6) r3) 64 (cn 6) r4) 4 1 (cn 6)) (va_up cn 6 (cn 6 + 1)) In (va_up (va_up (va_up (va_up (va_up (va_up (va_up (va_up (va_up (va_up Fn 195 (upd (Fn 195) (cn 6) 0)) 196 (upd (Fn 196) (cn 6) 0)) 197 (upd (Fn 197) (cn 6) 0)) 198 (upd (Fn 198) (cn 6) 0)) 199 (upd (Fn 199) (cn 6) (nI n))) 301 (flat (Fn 301) 200 (cn 6) (fun _ => 0))) 302 (flat (Fn 302) 12 (cn 6) (fun _ => 0))) 303 (flat (Fn 303) 12 (cn 6) (fun _ => 0))) 304 (flat (Fn 304) 12 (cn 6) (fun _ => 0))) 305 (flat (Fn 305) 32 (cn 6) (fun _ => 0))))).set 11 ((cn 6), e11X cI QA zz g (adO (adO (adO (adO (adO (adO (adO ad 5 (cn 6) qt) 60 (cn 6) r0) 61 (cn 6) r1) 62 (cn 6) r2) 63 (cn 6) r3) 64 (cn 6) r4) 4 1 (cn 6)) (va_up cn 6 (cn 6 + 1)) In (va_up (va_up (va_up (va_up (va_up (va_up (va_up (va_up (va_up (va_up Fn 195 (upd (Fn 195) (cn 6) 0)) 196 (upd (Fn 196) (cn 6) 0)) 197 (upd (Fn 197) (cn 6) 0)) 198 (upd (Fn 198) (cn 6) 0)) 199 (upd (Fn 199) (cn 6) (nI n))) 301 (flat (Fn 301) 200 (cn 6) (fun _ => 0))) 302 (flat (Fn 302) 12 (cn 6) (fun _ => 0))) 303 (flat (Fn 303) 12 (cn 6) (fun _ => 0))) 304 (flat (Fn 304) 12 (cn 6) (fun _ => 0))) 305 (flat (Fn 305) 32 (cn 6) (fun _ => 0))))) (i := 12) (n := (cn 6)) (f := e12X cI QA zz g (adO (adO (adO (adO (adO (adO (adO ad 5 (cn 6) qt) 60 (cn 6) r0) 61 (cn 6) r1) 62 (cn 6) r2) 63 (cn 6) r3) 64 (cn 6) r4) 4 1 (cn 6)) (va_up cn 6 (cn 6 + 1)) In (va_up (va_up (va_up (va_up (va_up (va_up (va_up (va_up (va_up (va_up Fn 195 (upd (Fn 195) (cn 6) 0)) 196 (upd (Fn 196) (cn 6) 0)) 197 (upd (Fn 197) (cn 6) 0)) 198 (upd (Fn 198) (cn 6) 0)) 199 (upd (Fn 199) (cn 6) (nI n))) 301 (flat (Fn 301) 200 (cn 6) (fun _ => 0))) 302 (flat (Fn 302) 12 (cn 6) (fun _ => 0))) 303 (flat (Fn 303) 12 (cn 6) (fun _ => 0))) 304 (flat (Fn 304) 12 (cn 6) (fun _ => 0))) 305 (flat (Fn 305) 32 (cn 6) (fun _ => 0)))) rfl
  have ci_7 : ∀ k : Nat, k < (cn 6) → e7X cI QA zz g (adO (adO (adO (adO (adO (adO (adO ad 5 (cn 6) qt) 60 (cn 6) r0) 61 (cn 6) r1) 62 (cn 6) r2) 63 (cn 6) r3) 64 (cn 6) r4) 4 1 (cn 6)) (va_up cn 6 (cn 6 + 1)) In (va_up (va_up (va_up (va_up (va_up (va_up (va_up (va_up (va_up (va_up Fn 195 (upd (Fn 195) (cn 6) 0)) 196 (upd (Fn 196) (cn 6) 0)) 197 (upd (Fn 197) (cn 6) 0)) 198 (upd (Fn 198) (cn 6) 0)) 199 (upd (Fn 199) (cn 6) (nI n))) 301 (flat (Fn 301) 200 (cn 6) (fun _ => 0))) 302 (flat (Fn 302) 12 (cn 6) (fun _ => 0))) 303 (flat (Fn 303) 12 (cn 6) (fun _ => 0))) 304 (flat (Fn 304) 12 (cn 6) (fun _ => 0))) 305 (flat (Fn 305) 32 (cn 6) (fun _ => 0))) k = e7X cI QA zz g ad cn In Fn k := fun k hk => by
    have hne : ¬ k = (cn 6) := by omega
    simp [e7X, adO, va_up, upd, hne, gA_flat_ne, Nat.ne_of_lt h40, hn]
  have ci_8 : ∀ k : Nat, k < (cn 6) → e8X cI QA zz g (adO (adO (adO (adO (adO (adO (adO ad 5 (cn 6) qt) 60 (cn 6) r0) 61 (cn 6) r1) 62 (cn 6) r2) 63 (cn 6) r3) 64 (cn 6) r4) 4 1 (cn 6)) (va_up cn 6 (cn 6 + 1)) In (va_up (va_up (va_up (va_up (va_up (va_up (va_up (va_up (va_up (va_up Fn 195 (upd (Fn 195) (cn 6) 0)) 196 (upd (Fn 196) (cn 6) 0)) 197 (upd (Fn 197) (cn 6) 0)) 198 (upd (Fn 198) (cn 6) 0)) 199 (upd (Fn 199) (cn 6) (nI n))) 301 (flat (Fn 301) 200 (cn 6) (fun _ => 0))) 302 (flat (Fn 302) 12 (cn 6) (fun _ => 0))) 303 (flat (Fn 303) 12 (cn 6) (fun _ => 0))) 304 (flat (Fn 304) 12 (cn 6) (fun _ => 0))) 305 (flat (Fn 305) 32 (cn 6) (fun _ => 0))) k = e8X cI QA zz g ad cn In Fn k := fun k hk => by
    have hne : ¬ k = (cn 6) := by omega
    simp [e8X, adO, va_up, upd, hne, gA_flat_ne, Nat.ne_of_lt h40, hn]
  have ci_9 : ∀ k : Nat, k < (cn 6) → e9X cI QA zz g (adO (adO (adO (adO (adO (adO (adO ad 5 (cn 6) qt) 60 (cn 6) r0) 61 (cn 6) r1) 62 (cn 6) r2) 63 (cn 6) r3) 64 (cn 6) r4) 4 1 (cn 6)) (va_up cn 6 (cn 6 + 1)) In (va_up (va_up (va_up (va_up (va_up (va_up (va_up (va_up (va_up (va_up Fn 195 (upd (Fn 195) (cn 6) 0)) 196 (upd (Fn 196) (cn 6) 0)) 197 (upd (Fn 197) (cn 6) 0)) 198 (upd (Fn 198) (cn 6) 0)) 199 (upd (Fn 199) (cn 6) (nI n))) 301 (flat (Fn 301) 200 (cn 6) (fun _ => 0))) 302 (flat (Fn 302) 12 (cn 6) (fun _ => 0))) 303 (flat (Fn 303) 12 (cn 6) (fun _ => 0))) 304 (flat (Fn 304) 12 (cn 6) (fun _ => 0))) 305 (flat (Fn 305) 32 (cn 6) (fun _ => 0))) k = e9X cI QA zz g ad cn In Fn k := fun k hk => by
    have hne : ¬ k = (cn 6) := by omega
    simp [e9X, adO, va_up, upd, hne, gA_flat_ne, Nat.ne_of_lt h40, hn]
  have ci_10 : ∀ k : Nat, k < (cn 6) → e10X cI QA zz g (adO (adO (adO (adO (adO (adO (adO ad 5 (cn 6) qt) 60 (cn 6) r0) 61 (cn 6) r1) 62 (cn 6) r2) 63 (cn 6) r3) 64 (cn 6) r4) 4 1 (cn 6)) (va_up cn 6 (cn 6 + 1)) In (va_up (va_up (va_up (va_up (va_up (va_up (va_up (va_up (va_up (va_up Fn 195 (upd (Fn 195) (cn 6) 0)) 196 (upd (Fn 196) (cn 6) 0)) 197 (upd (Fn 197) (cn 6) 0)) 198 (upd (Fn 198) (cn 6) 0)) 199 (upd (Fn 199) (cn 6) (nI n))) 301 (flat (Fn 301) 200 (cn 6) (fun _ => 0))) 302 (flat (Fn 302) 12 (cn 6) (fun _ => 0))) 303 (flat (Fn 303) 12 (cn 6) (fun _ => 0))) 304 (flat (Fn 304) 12 (cn 6) (fun _ => 0))) 305 (flat (Fn 305) 32 (cn 6) (fun _ => 0))) k = e10X cI QA zz g ad cn In Fn k := fun k hk => by
    have hne : ¬ k = (cn 6) := by omega
    simp [e10X, adO, va_up, upd, hne, gA_flat_ne, Nat.ne_of_lt h40, hn]
  have ci_11 : ∀ k : Nat, k < (cn 6) → e11X cI QA zz g (adO (adO (adO (adO (adO (adO (adO ad 5 (cn 6) qt) 60 (cn 6) r0) 61 (cn 6) r1) 62 (cn 6) r2) 63 (cn 6) r3) 64 (cn 6) r4) 4 1 (cn 6)) (va_up cn 6 (cn 6 + 1)) In (va_up (va_up (va_up (va_up (va_up (va_up (va_up (va_up (va_up (va_up Fn 195 (upd (Fn 195) (cn 6) 0)) 196 (upd (Fn 196) (cn 6) 0)) 197 (upd (Fn 197) (cn 6) 0)) 198 (upd (Fn 198) (cn 6) 0)) 199 (upd (Fn 199) (cn 6) (nI n))) 301 (flat (Fn 301) 200 (cn 6) (fun _ => 0))) 302 (flat (Fn 302) 12 (cn 6) (fun _ => 0))) 303 (flat (Fn 303) 12 (cn 6) (fun _ => 0))) 304 (flat (Fn 304) 12 (cn 6) (fun _ => 0))) 305 (flat (Fn 305) 32 (cn 6) (fun _ => 0))) k = e11X cI QA zz g ad cn In Fn k := fun k hk => by
    have hne : ¬ k = (cn 6) := by omega
    simp [e11X, adO, va_up, upd, hne, gA_flat_ne, Nat.ne_of_lt h40, hn]
  have ci_12 : ∀ k : Nat, k < (cn 6) → e12X cI QA zz g (adO (adO (adO (adO (adO (adO (adO ad 5 (cn 6) qt) 60 (cn 6) r0) 61 (cn 6) r1) 62 (cn 6) r2) 63 (cn 6) r3) 64 (cn 6) r4) 4 1 (cn 6)) (va_up cn 6 (cn 6 + 1)) In (va_up (va_up (va_up (va_up (va_up (va_up (va_up (va_up (va_up (va_up Fn 195 (upd (Fn 195) (cn 6) 0)) 196 (upd (Fn 196) (cn 6) 0)) 197 (upd (Fn 197) (cn 6) 0)) 198 (upd (Fn 198) (cn 6) 0)) 199 (upd (Fn 199) (cn 6) (nI n))) 301 (flat (Fn 301) 200 (cn 6) (fun _ => 0))) 302 (flat (Fn 302) 12 (cn 6) (fun _ => 0))) 303 (flat (Fn 303) 12 (cn 6) (fun _ => 0))) 304 (flat (Fn 304) 12 (cn 6) (fun _ => 0))) 305 (flat (Fn 305) 32 (cn 6) (fun _ => 0))) k = e12X cI QA zz g ad cn In Fn k := fun k hk => by
    have hne : ¬ k = (cn 6) := by omega
    simp [e12X, adO, va_up, upd, hne, gA_flat_ne, Nat.ne_of_lt h40, hn]
  have b1 : famW ((((((([((cn 10), e0X cI QA zz g ad cn In Fn), ((cn 11), e1X cI QA zz g ad cn In Fn), ((cn 12), e2X cI QA zz g ad cn In Fn), ((cn 13), e3X cI QA zz g ad cn In Fn), ((cn 14), e4X cI QA zz g ad cn In Fn), ((cn 15), e5X cI QA zz g ad cn In Fn), ((cn 12), e6X cI QA zz g ad cn In Fn), ((cn 6) + 1, e7X cI QA zz g (adO (adO (adO (adO (adO (adO (adO ad 5 (cn 6) qt) 60 (cn 6) r0) 61 (cn 6) r1) 62 (cn 6) r2) 63 (cn 6) r3) 64 (cn 6) r4) 4 1 (cn 6)) (va_up cn 6 (cn 6 + 1)) In (va_up (va_up (va_up (va_up (va_up (va_up (va_up (va_up (va_up (va_up Fn 195 (upd (Fn 195) (cn 6) 0)) 196 (upd (Fn 196) (cn 6) 0)) 197 (upd (Fn 197) (cn 6) 0)) 198 (upd (Fn 198) (cn 6) 0)) 199 (upd (Fn 199) (cn 6) (nI n))) 301 (flat (Fn 301) 200 (cn 6) (fun _ => 0))) 302 (flat (Fn 302) 12 (cn 6) (fun _ => 0))) 303 (flat (Fn 303) 12 (cn 6) (fun _ => 0))) 304 (flat (Fn 304) 12 (cn 6) (fun _ => 0))) 305 (flat (Fn 305) 32 (cn 6) (fun _ => 0)))), ((cn 6) + 1, e8X cI QA zz g (adO (adO (adO (adO (adO (adO (adO ad 5 (cn 6) qt) 60 (cn 6) r0) 61 (cn 6) r1) 62 (cn 6) r2) 63 (cn 6) r3) 64 (cn 6) r4) 4 1 (cn 6)) (va_up cn 6 (cn 6 + 1)) In (va_up (va_up (va_up (va_up (va_up (va_up (va_up (va_up (va_up (va_up Fn 195 (upd (Fn 195) (cn 6) 0)) 196 (upd (Fn 196) (cn 6) 0)) 197 (upd (Fn 197) (cn 6) 0)) 198 (upd (Fn 198) (cn 6) 0)) 199 (upd (Fn 199) (cn 6) (nI n))) 301 (flat (Fn 301) 200 (cn 6) (fun _ => 0))) 302 (flat (Fn 302) 12 (cn 6) (fun _ => 0))) 303 (flat (Fn 303) 12 (cn 6) (fun _ => 0))) 304 (flat (Fn 304) 12 (cn 6) (fun _ => 0))) 305 (flat (Fn 305) 32 (cn 6) (fun _ => 0)))), ((cn 6) + 1, e9X cI QA zz g (adO (adO (adO (adO (adO (adO (adO ad 5 (cn 6) qt) 60 (cn 6) r0) 61 (cn 6) r1) 62 (cn 6) r2) 63 (cn 6) r3) 64 (cn 6) r4) 4 1 (cn 6)) (va_up cn 6 (cn 6 + 1)) In (va_up (va_up (va_up (va_up (va_up (va_up (va_up (va_up (va_up (va_up Fn 195 (upd (Fn 195) (cn 6) 0)) 196 (upd (Fn 196) (cn 6) 0)) 197 (upd (Fn 197) (cn 6) 0)) 198 (upd (Fn 198) (cn 6) 0)) 199 (upd (Fn 199) (cn 6) (nI n))) 301 (flat (Fn 301) 200 (cn 6) (fun _ => 0))) 302 (flat (Fn 302) 12 (cn 6) (fun _ => 0))) 303 (flat (Fn 303) 12 (cn 6) (fun _ => 0))) 304 (flat (Fn 304) 12 (cn 6) (fun _ => 0))) 305 (flat (Fn 305) 32 (cn 6) (fun _ => 0)))), ((cn 6) + 1, e10X cI QA zz g (adO (adO (adO (adO (adO (adO (adO ad 5 (cn 6) qt) 60 (cn 6) r0) 61 (cn 6) r1) 62 (cn 6) r2) 63 (cn 6) r3) 64 (cn 6) r4) 4 1 (cn 6)) (va_up cn 6 (cn 6 + 1)) In (va_up (va_up (va_up (va_up (va_up (va_up (va_up (va_up (va_up (va_up Fn 195 (upd (Fn 195) (cn 6) 0)) 196 (upd (Fn 196) (cn 6) 0)) 197 (upd (Fn 197) (cn 6) 0)) 198 (upd (Fn 198) (cn 6) 0)) 199 (upd (Fn 199) (cn 6) (nI n))) 301 (flat (Fn 301) 200 (cn 6) (fun _ => 0))) 302 (flat (Fn 302) 12 (cn 6) (fun _ => 0))) 303 (flat (Fn 303) 12 (cn 6) (fun _ => 0))) 304 (flat (Fn 304) 12 (cn 6) (fun _ => 0))) 305 (flat (Fn 305) 32 (cn 6) (fun _ => 0)))), ((cn 6) + 1, e11X cI QA zz g (adO (adO (adO (adO (adO (adO (adO ad 5 (cn 6) qt) 60 (cn 6) r0) 61 (cn 6) r1) 62 (cn 6) r2) 63 (cn 6) r3) 64 (cn 6) r4) 4 1 (cn 6)) (va_up cn 6 (cn 6 + 1)) In (va_up (va_up (va_up (va_up (va_up (va_up (va_up (va_up (va_up (va_up Fn 195 (upd (Fn 195) (cn 6) 0)) 196 (upd (Fn 196) (cn 6) 0)) 197 (upd (Fn 197) (cn 6) 0)) 198 (upd (Fn 198) (cn 6) 0)) 199 (upd (Fn 199) (cn 6) (nI n))) 301 (flat (Fn 301) 200 (cn 6) (fun _ => 0))) 302 (flat (Fn 302) 12 (cn 6) (fun _ => 0))) 303 (flat (Fn 303) 12 (cn 6) (fun _ => 0))) 304 (flat (Fn 304) 12 (cn 6) (fun _ => 0))) 305 (flat (Fn 305) 32 (cn 6) (fun _ => 0)))), ((cn 6) + 1, e12X cI QA zz g (adO (adO (adO (adO (adO (adO (adO ad 5 (cn 6) qt) 60 (cn 6) r0) 61 (cn 6) r1) 62 (cn 6) r2) 63 (cn 6) r3) 64 (cn 6) r4) 4 1 (cn 6)) (va_up cn 6 (cn 6 + 1)) In (va_up (va_up (va_up (va_up (va_up (va_up (va_up (va_up (va_up (va_up Fn 195 (upd (Fn 195) (cn 6) 0)) 196 (upd (Fn 196) (cn 6) 0)) 197 (upd (Fn 197) (cn 6) 0)) 198 (upd (Fn 198) (cn 6) 0)) 199 (upd (Fn 199) (cn 6) (nI n))) 301 (flat (Fn 301) 200 (cn 6) (fun _ => 0))) 302 (flat (Fn 302) 12 (cn 6) (fun _ => 0))) 303 (flat (Fn 303) 12 (cn 6) (fun _ => 0))) 304 (flat (Fn 304) 12 (cn 6) (fun _ => 0))) 305 (flat (Fn 305) 32 (cn 6) (fun _ => 0)))), ((min 1 (cn 10)), e13X cI QA zz g ad cn In Fn), ((min 1 (cn 11)), e14X cI QA zz g ad cn In Fn), ((min 1 (cn 12)), e15X cI QA zz g ad cn In Fn), ((min 1 (cn 13)), e16X cI QA zz g ad cn In Fn), ((min 1 (cn 14)), e17X cI QA zz g ad cn In Fn), ((min 1 (cn 15)), e18X cI QA zz g ad cn In Fn)]).set 7 ((cn 6), e7X cI QA zz g (adO (adO (adO (adO (adO (adO (adO ad 5 (cn 6) qt) 60 (cn 6) r0) 61 (cn 6) r1) 62 (cn 6) r2) 63 (cn 6) r3) 64 (cn 6) r4) 4 1 (cn 6)) (va_up cn 6 (cn 6 + 1)) In (va_up (va_up (va_up (va_up (va_up (va_up (va_up (va_up (va_up (va_up Fn 195 (upd (Fn 195) (cn 6) 0)) 196 (upd (Fn 196) (cn 6) 0)) 197 (upd (Fn 197) (cn 6) 0)) 198 (upd (Fn 198) (cn 6) 0)) 199 (upd (Fn 199) (cn 6) (nI n))) 301 (flat (Fn 301) 200 (cn 6) (fun _ => 0))) 302 (flat (Fn 302) 12 (cn 6) (fun _ => 0))) 303 (flat (Fn 303) 12 (cn 6) (fun _ => 0))) 304 (flat (Fn 304) 12 (cn 6) (fun _ => 0))) 305 (flat (Fn 305) 32 (cn 6) (fun _ => 0))))).set 8 ((cn 6), e8X cI QA zz g (adO (adO (adO (adO (adO (adO (adO ad 5 (cn 6) qt) 60 (cn 6) r0) 61 (cn 6) r1) 62 (cn 6) r2) 63 (cn 6) r3) 64 (cn 6) r4) 4 1 (cn 6)) (va_up cn 6 (cn 6 + 1)) In (va_up (va_up (va_up (va_up (va_up (va_up (va_up (va_up (va_up (va_up Fn 195 (upd (Fn 195) (cn 6) 0)) 196 (upd (Fn 196) (cn 6) 0)) 197 (upd (Fn 197) (cn 6) 0)) 198 (upd (Fn 198) (cn 6) 0)) 199 (upd (Fn 199) (cn 6) (nI n))) 301 (flat (Fn 301) 200 (cn 6) (fun _ => 0))) 302 (flat (Fn 302) 12 (cn 6) (fun _ => 0))) 303 (flat (Fn 303) 12 (cn 6) (fun _ => 0))) 304 (flat (Fn 304) 12 (cn 6) (fun _ => 0))) 305 (flat (Fn 305) 32 (cn 6) (fun _ => 0))))).set 9 ((cn 6), e9X cI QA zz g (adO (adO (adO (adO (adO (adO (adO ad 5 (cn 6) qt) 60 (cn 6) r0) 61 (cn 6) r1) 62 (cn 6) r2) 63 (cn 6) r3) 64 (cn 6) r4) 4 1 (cn 6)) (va_up cn 6 (cn 6 + 1)) In (va_up (va_up (va_up (va_up (va_up (va_up (va_up (va_up (va_up (va_up Fn 195 (upd (Fn 195) (cn 6) 0)) 196 (upd (Fn 196) (cn 6) 0)) 197 (upd (Fn 197) (cn 6) 0)) 198 (upd (Fn 198) (cn 6) 0)) 199 (upd (Fn 199) (cn 6) (nI n))) 301 (flat (Fn 301) 200 (cn 6) (fun _ => 0))) 302 (flat (Fn 302) 12 (cn 6) (fun _ => 0))) 303 (flat (Fn 303) 12 (cn 6) (fun _ => 0))) 304 (flat (Fn 304) 12 (cn 6) (fun _ => 0))) 305 (flat (Fn 305) 32 (cn 6) (fun _ => 0))))).set 10 ((cn 6), e10X cI QA zz g (adO (adO (adO (adO (adO (adO (adO ad 5 (cn 6) qt) 60 (cn 6) r0) 61 (cn 6) r1) 62 (cn 6) r2) 63 (cn 6) r3) 64 (cn 6) r4) 4 1 (cn 6)) (va_up cn 6 (cn 6 + 1)) In (va_up (va_up (va_up (va_up (va_up (va_up (va_up (va_up (va_up (va_up Fn 195 (upd (Fn 195) (cn 6) 0)) 196 (upd (Fn 196) (cn 6) 0)) 197 (upd (Fn 197) (cn 6) 0)) 198 (upd (Fn 198) (cn 6) 0)) 199 (upd (Fn 199) (cn 6) (nI n))) 301 (flat (Fn 301) 200 (cn 6) (fun _ => 0))) 302 (flat (Fn 302) 12 (cn 6) (fun _ => 0))) 303 (flat (Fn 303) 12 (cn 6) (fun _ => 0))) 304 (flat (Fn 304) 12 (cn 6) (fun _ => 0))) 305 (flat (Fn 305) 32 (cn 6) (fun _ => 0))))).set 11 ((cn 6), e11X cI QA zz g (adO (adO (adO (adO (adO (adO (adO ad 5 (cn 6) qt) 60 (cn 6) r0) 61 (cn 6) r1) 62 (cn 6) r2) 63 (cn 6) r3) 64 (cn 6) r4) 4 1 (cn 6)) (va_up cn 6 (cn 6 + 1)) In (va_up (va_up (va_up (va_up (va_up (va_up (va_up (va_up (va_up (va_up Fn 195 (upd (Fn 195) (cn 6) 0)) 196 (upd (Fn 196) (cn 6) 0)) 197 (upd (Fn 197) (cn 6) 0)) 198 (upd (Fn 198) (cn 6) 0)) 199 (upd (Fn 199) (cn 6) (nI n))) 301 (flat (Fn 301) 200 (cn 6) (fun _ => 0))) 302 (flat (Fn 302) 12 (cn 6) (fun _ => 0))) 303 (flat (Fn 303) 12 (cn 6) (fun _ => 0))) 304 (flat (Fn 304) 12 (cn 6) (fun _ => 0))) 305 (flat (Fn 305) 32 (cn 6) (fun _ => 0))))).set 12 ((cn 6), e12X cI QA zz g (adO (adO (adO (adO (adO (adO (adO ad 5 (cn 6) qt) 60 (cn 6) r0) 61 (cn 6) r1) 62 (cn 6) r2) 63 (cn 6) r3) 64 (cn 6) r4) 4 1 (cn 6)) (va_up cn 6 (cn 6 + 1)) In (va_up (va_up (va_up (va_up (va_up (va_up (va_up (va_up (va_up (va_up Fn 195 (upd (Fn 195) (cn 6) 0)) 196 (upd (Fn 196) (cn 6) 0)) 197 (upd (Fn 197) (cn 6) 0)) 198 (upd (Fn 198) (cn 6) 0)) 199 (upd (Fn 199) (cn 6) (nI n))) 301 (flat (Fn 301) 200 (cn 6) (fun _ => 0))) 302 (flat (Fn 302) 12 (cn 6) (fun _ => 0))) 303 (flat (Fn 303) 12 (cn 6) (fun _ => 0))) 304 (flat (Fn 304) 12 (cn 6) (fun _ => 0))) 305 (flat (Fn 305) 32 (cn 6) (fun _ => 0))))) = famW [((cn 10), e0X cI QA zz g ad cn In Fn), ((cn 11), e1X cI QA zz g ad cn In Fn), ((cn 12), e2X cI QA zz g ad cn In Fn), ((cn 13), e3X cI QA zz g ad cn In Fn), ((cn 14), e4X cI QA zz g ad cn In Fn), ((cn 15), e5X cI QA zz g ad cn In Fn), ((cn 12), e6X cI QA zz g ad cn In Fn), ((cn 6), e7X cI QA zz g ad cn In Fn), ((cn 6), e8X cI QA zz g ad cn In Fn), ((cn 6), e9X cI QA zz g ad cn In Fn), ((cn 6), e10X cI QA zz g ad cn In Fn), ((cn 6), e11X cI QA zz g ad cn In Fn), ((cn 6), e12X cI QA zz g ad cn In Fn), ((min 1 (cn 10)), e13X cI QA zz g ad cn In Fn), ((min 1 (cn 11)), e14X cI QA zz g ad cn In Fn), ((min 1 (cn 12)), e15X cI QA zz g ad cn In Fn), ((min 1 (cn 13)), e16X cI QA zz g ad cn In Fn), ((min 1 (cn 14)), e17X cI QA zz g ad cn In Fn), ((min 1 (cn 15)), e18X cI QA zz g ad cn In Fn)] := famW_cg (show famE [((cn 10), e0X cI QA zz g ad cn In Fn), ((cn 11), e1X cI QA zz g ad cn In Fn), ((cn 12), e2X cI QA zz g ad cn In Fn), ((cn 13), e3X cI QA zz g ad cn In Fn), ((cn 14), e4X cI QA zz g ad cn In Fn), ((cn 15), e5X cI QA zz g ad cn In Fn), ((cn 12), e6X cI QA zz g ad cn In Fn), ((cn 6), e7X cI QA zz g (adO (adO (adO (adO (adO (adO (adO ad 5 (cn 6) qt) 60 (cn 6) r0) 61 (cn 6) r1) 62 (cn 6) r2) 63 (cn 6) r3) 64 (cn 6) r4) 4 1 (cn 6)) (va_up cn 6 (cn 6 + 1)) In (va_up (va_up (va_up (va_up (va_up (va_up (va_up (va_up (va_up (va_up Fn 195 (upd (Fn 195) (cn 6) 0)) 196 (upd (Fn 196) (cn 6) 0)) 197 (upd (Fn 197) (cn 6) 0)) 198 (upd (Fn 198) (cn 6) 0)) 199 (upd (Fn 199) (cn 6) (nI n))) 301 (flat (Fn 301) 200 (cn 6) (fun _ => 0))) 302 (flat (Fn 302) 12 (cn 6) (fun _ => 0))) 303 (flat (Fn 303) 12 (cn 6) (fun _ => 0))) 304 (flat (Fn 304) 12 (cn 6) (fun _ => 0))) 305 (flat (Fn 305) 32 (cn 6) (fun _ => 0)))), ((cn 6), e8X cI QA zz g (adO (adO (adO (adO (adO (adO (adO ad 5 (cn 6) qt) 60 (cn 6) r0) 61 (cn 6) r1) 62 (cn 6) r2) 63 (cn 6) r3) 64 (cn 6) r4) 4 1 (cn 6)) (va_up cn 6 (cn 6 + 1)) In (va_up (va_up (va_up (va_up (va_up (va_up (va_up (va_up (va_up (va_up Fn 195 (upd (Fn 195) (cn 6) 0)) 196 (upd (Fn 196) (cn 6) 0)) 197 (upd (Fn 197) (cn 6) 0)) 198 (upd (Fn 198) (cn 6) 0)) 199 (upd (Fn 199) (cn 6) (nI n))) 301 (flat (Fn 301) 200 (cn 6) (fun _ => 0))) 302 (flat (Fn 302) 12 (cn 6) (fun _ => 0))) 303 (flat (Fn 303) 12 (cn 6) (fun _ => 0))) 304 (flat (Fn 304) 12 (cn 6) (fun _ => 0))) 305 (flat (Fn 305) 32 (cn 6) (fun _ => 0)))), ((cn 6), e9X cI QA zz g (adO (adO (adO (adO (adO (adO (adO ad 5 (cn 6) qt) 60 (cn 6) r0) 61 (cn 6) r1) 62 (cn 6) r2) 63 (cn 6) r3) 64 (cn 6) r4) 4 1 (cn 6)) (va_up cn 6 (cn 6 + 1)) In (va_up (va_up (va_up (va_up (va_up (va_up (va_up (va_up (va_up (va_up Fn 195 (upd (Fn 195) (cn 6) 0)) 196 (upd (Fn 196) (cn 6) 0)) 197 (upd (Fn 197) (cn 6) 0)) 198 (upd (Fn 198) (cn 6) 0)) 199 (upd (Fn 199) (cn 6) (nI n))) 301 (flat (Fn 301) 200 (cn 6) (fun _ => 0))) 302 (flat (Fn 302) 12 (cn 6) (fun _ => 0))) 303 (flat (Fn 303) 12 (cn 6) (fun _ => 0))) 304 (flat (Fn 304) 12 (cn 6) (fun _ => 0))) 305 (flat (Fn 305) 32 (cn 6) (fun _ => 0)))), ((cn 6), e10X cI QA zz g (adO (adO (adO (adO (adO (adO (adO ad 5 (cn 6) qt) 60 (cn 6) r0) 61 (cn 6) r1) 62 (cn 6) r2) 63 (cn 6) r3) 64 (cn 6) r4) 4 1 (cn 6)) (va_up cn 6 (cn 6 + 1)) In (va_up (va_up (va_up (va_up (va_up (va_up (va_up (va_up (va_up (va_up Fn 195 (upd (Fn 195) (cn 6) 0)) 196 (upd (Fn 196) (cn 6) 0)) 197 (upd (Fn 197) (cn 6) 0)) 198 (upd (Fn 198) (cn 6) 0)) 199 (upd (Fn 199) (cn 6) (nI n))) 301 (flat (Fn 301) 200 (cn 6) (fun _ => 0))) 302 (flat (Fn 302) 12 (cn 6) (fun _ => 0))) 303 (flat (Fn 303) 12 (cn 6) (fun _ => 0))) 304 (flat (Fn 304) 12 (cn 6) (fun _ => 0))) 305 (flat (Fn 305) 32 (cn 6) (fun _ => 0)))), ((cn 6), e11X cI QA zz g (adO (adO (adO (adO (adO (adO (adO ad 5 (cn 6) qt) 60 (cn 6) r0) 61 (cn 6) r1) 62 (cn 6) r2) 63 (cn 6) r3) 64 (cn 6) r4) 4 1 (cn 6)) (va_up cn 6 (cn 6 + 1)) In (va_up (va_up (va_up (va_up (va_up (va_up (va_up (va_up (va_up (va_up Fn 195 (upd (Fn 195) (cn 6) 0)) 196 (upd (Fn 196) (cn 6) 0)) 197 (upd (Fn 197) (cn 6) 0)) 198 (upd (Fn 198) (cn 6) 0)) 199 (upd (Fn 199) (cn 6) (nI n))) 301 (flat (Fn 301) 200 (cn 6) (fun _ => 0))) 302 (flat (Fn 302) 12 (cn 6) (fun _ => 0))) 303 (flat (Fn 303) 12 (cn 6) (fun _ => 0))) 304 (flat (Fn 304) 12 (cn 6) (fun _ => 0))) 305 (flat (Fn 305) 32 (cn 6) (fun _ => 0)))), ((cn 6), e12X cI QA zz g (adO (adO (adO (adO (adO (adO (adO ad 5 (cn 6) qt) 60 (cn 6) r0) 61 (cn 6) r1) 62 (cn 6) r2) 63 (cn 6) r3) 64 (cn 6) r4) 4 1 (cn 6)) (va_up cn 6 (cn 6 + 1)) In (va_up (va_up (va_up (va_up (va_up (va_up (va_up (va_up (va_up (va_up Fn 195 (upd (Fn 195) (cn 6) 0)) 196 (upd (Fn 196) (cn 6) 0)) 197 (upd (Fn 197) (cn 6) 0)) 198 (upd (Fn 198) (cn 6) 0)) 199 (upd (Fn 199) (cn 6) (nI n))) 301 (flat (Fn 301) 200 (cn 6) (fun _ => 0))) 302 (flat (Fn 302) 12 (cn 6) (fun _ => 0))) 303 (flat (Fn 303) 12 (cn 6) (fun _ => 0))) 304 (flat (Fn 304) 12 (cn 6) (fun _ => 0))) 305 (flat (Fn 305) 32 (cn 6) (fun _ => 0)))), ((min 1 (cn 10)), e13X cI QA zz g ad cn In Fn), ((min 1 (cn 11)), e14X cI QA zz g ad cn In Fn), ((min 1 (cn 12)), e15X cI QA zz g ad cn In Fn), ((min 1 (cn 13)), e16X cI QA zz g ad cn In Fn), ((min 1 (cn 14)), e17X cI QA zz g ad cn In Fn), ((min 1 (cn 15)), e18X cI QA zz g ad cn In Fn)] [((cn 10), e0X cI QA zz g ad cn In Fn), ((cn 11), e1X cI QA zz g ad cn In Fn), ((cn 12), e2X cI QA zz g ad cn In Fn), ((cn 13), e3X cI QA zz g ad cn In Fn), ((cn 14), e4X cI QA zz g ad cn In Fn), ((cn 15), e5X cI QA zz g ad cn In Fn), ((cn 12), e6X cI QA zz g ad cn In Fn), ((cn 6), e7X cI QA zz g ad cn In Fn), ((cn 6), e8X cI QA zz g ad cn In Fn), ((cn 6), e9X cI QA zz g ad cn In Fn), ((cn 6), e10X cI QA zz g ad cn In Fn), ((cn 6), e11X cI QA zz g ad cn In Fn), ((cn 6), e12X cI QA zz g ad cn In Fn), ((min 1 (cn 10)), e13X cI QA zz g ad cn In Fn), ((min 1 (cn 11)), e14X cI QA zz g ad cn In Fn), ((min 1 (cn 12)), e15X cI QA zz g ad cn In Fn), ((min 1 (cn 13)), e16X cI QA zz g ad cn In Fn), ((min 1 (cn 14)), e17X cI QA zz g ad cn In Fn), ((min 1 (cn 15)), e18X cI QA zz g ad cn In Fn)] from ⟨⟨rfl, fun k hk => rfl⟩, ⟨rfl, fun k hk => rfl⟩, ⟨rfl, fun k hk => rfl⟩, ⟨rfl, fun k hk => rfl⟩, ⟨rfl, fun k hk => rfl⟩, ⟨rfl, fun k hk => rfl⟩, ⟨rfl, fun k hk => rfl⟩, ⟨rfl, ci_7⟩, ⟨rfl, ci_8⟩, ⟨rfl, ci_9⟩, ⟨rfl, ci_10⟩, ⟨rfl, ci_11⟩, ⟨rfl, ci_12⟩, ⟨rfl, fun k hk => rfl⟩, ⟨rfl, fun k hk => rfl⟩, ⟨rfl, fun k hk => rfl⟩, ⟨rfl, fun k hk => rfl⟩, ⟨rfl, fun k hk => rfl⟩, ⟨rfl, fun k hk => rfl⟩, trivial⟩)
  rw [a1, List.append_assoc]
  refine List.Perm.append_left _ ?_
  refine List.Perm.symm ?_
  rw [b0]
  refine (((((p0.trans (p1.append_right _)).trans ((p2.append_right _).append_right _)).trans (((p3.append_right _).append_right _).append_right _)).trans ((((p4.append_right _).append_right _).append_right _).append_right _)).trans (((((p5.append_right _).append_right _).append_right _).append_right _).append_right _)).trans ?_
  rw [b1, a5_0, a5_1, a5_2, a5_3, a5_4, a5_5]
  simp only [List.append_assoc, List.cons_append, List.nil_append]
  exact List.Perm.append_left _ (List.reverse_perm ([(qt, .inr (10, [.ref r0, .ref r1, .ref r2, .ref r3, .ref r4, .int 0, .int 0, .int 0, .int 0])), (r0, .inl (cI, n, .inl (fun _ => 0))), (r1, .inl (cI, 12, .inl (fun _ => 0))), (r2, .inl (cI, 12, .inl (fun _ => 0))), (r3, .inl (cI, 12, .inl (fun _ => 0))), (r4, .inl (cI, 32, .inl (fun _ => 0)))] : va_W))
theorem xR42 {cI QA : ClassId} {zz : Nat} {g : Nat → Nat} {ad : Nat → Nat → Nat} {cn : Nat → Nat} {In : Nat → Int32} {Fn : Nat → Nat → Int32} : (wX cI QA zz g ad cn In Fn).set 3 (g 6, .inr (6, [.ref (g 40), .ref (ad 5 (ad 4 1)), .int (In 30), .int (nI (cn 31)), .int (nI (cn 32)), .int (In 33)])) = wX cI QA zz g (adO ad 4 2 (g 40)) cn In Fn := by
  simp only [wX, fxX]
  simp [adO]
  exact (famW_cg (show famE [((cn 10), e0X cI QA zz g (adO ad 4 2 (g 40)) cn In Fn), ((cn 11), e1X cI QA zz g (adO ad 4 2 (g 40)) cn In Fn), ((cn 12), e2X cI QA zz g (adO ad 4 2 (g 40)) cn In Fn), ((cn 13), e3X cI QA zz g (adO ad 4 2 (g 40)) cn In Fn), ((cn 14), e4X cI QA zz g (adO ad 4 2 (g 40)) cn In Fn), ((cn 15), e5X cI QA zz g (adO ad 4 2 (g 40)) cn In Fn), ((cn 12), e6X cI QA zz g (adO ad 4 2 (g 40)) cn In Fn), ((cn 6), e7X cI QA zz g (adO ad 4 2 (g 40)) cn In Fn), ((cn 6), e8X cI QA zz g (adO ad 4 2 (g 40)) cn In Fn), ((cn 6), e9X cI QA zz g (adO ad 4 2 (g 40)) cn In Fn), ((cn 6), e10X cI QA zz g (adO ad 4 2 (g 40)) cn In Fn), ((cn 6), e11X cI QA zz g (adO ad 4 2 (g 40)) cn In Fn), ((cn 6), e12X cI QA zz g (adO ad 4 2 (g 40)) cn In Fn), ((min 1 (cn 10)), e13X cI QA zz g (adO ad 4 2 (g 40)) cn In Fn), ((min 1 (cn 11)), e14X cI QA zz g (adO ad 4 2 (g 40)) cn In Fn), ((min 1 (cn 12)), e15X cI QA zz g (adO ad 4 2 (g 40)) cn In Fn), ((min 1 (cn 13)), e16X cI QA zz g (adO ad 4 2 (g 40)) cn In Fn), ((min 1 (cn 14)), e17X cI QA zz g (adO ad 4 2 (g 40)) cn In Fn), ((min 1 (cn 15)), e18X cI QA zz g (adO ad 4 2 (g 40)) cn In Fn)] [((cn 10), e0X cI QA zz g ad cn In Fn), ((cn 11), e1X cI QA zz g ad cn In Fn), ((cn 12), e2X cI QA zz g ad cn In Fn), ((cn 13), e3X cI QA zz g ad cn In Fn), ((cn 14), e4X cI QA zz g ad cn In Fn), ((cn 15), e5X cI QA zz g ad cn In Fn), ((cn 12), e6X cI QA zz g ad cn In Fn), ((cn 6), e7X cI QA zz g ad cn In Fn), ((cn 6), e8X cI QA zz g ad cn In Fn), ((cn 6), e9X cI QA zz g ad cn In Fn), ((cn 6), e10X cI QA zz g ad cn In Fn), ((cn 6), e11X cI QA zz g ad cn In Fn), ((cn 6), e12X cI QA zz g ad cn In Fn), ((min 1 (cn 10)), e13X cI QA zz g ad cn In Fn), ((min 1 (cn 11)), e14X cI QA zz g ad cn In Fn), ((min 1 (cn 12)), e15X cI QA zz g ad cn In Fn), ((min 1 (cn 13)), e16X cI QA zz g ad cn In Fn), ((min 1 (cn 14)), e17X cI QA zz g ad cn In Fn), ((min 1 (cn 15)), e18X cI QA zz g ad cn In Fn)] from ⟨⟨rfl, fun k hk => by simp [e0X, adO]⟩, ⟨rfl, fun k hk => by simp [e1X, adO]⟩, ⟨rfl, fun k hk => by simp [e2X, adO]⟩, ⟨rfl, fun k hk => by simp [e3X, adO]⟩, ⟨rfl, fun k hk => by simp [e4X, adO]⟩, ⟨rfl, fun k hk => by simp [e5X, adO]⟩, ⟨rfl, fun k hk => by simp [e6X, adO]⟩, ⟨rfl, fun k hk => by simp [e7X, adO]⟩, ⟨rfl, fun k hk => by simp [e8X, adO]⟩, ⟨rfl, fun k hk => by simp [e9X, adO]⟩, ⟨rfl, fun k hk => by simp [e10X, adO]⟩, ⟨rfl, fun k hk => by simp [e11X, adO]⟩, ⟨rfl, fun k hk => by simp [e12X, adO]⟩, ⟨rfl, fun k hk => by simp [e13X, adO]⟩, ⟨rfl, fun k hk => by simp [e14X, adO]⟩, ⟨rfl, fun k hk => by simp [e15X, adO]⟩, ⟨rfl, fun k hk => by simp [e16X, adO]⟩, ⟨rfl, fun k hk => by simp [e17X, adO]⟩, ⟨rfl, fun k hk => by simp [e18X, adO]⟩, trivial⟩)).symm
theorem xH40 {cI QA : ClassId} {zz : Nat} {g : Nat → Nat} {ad : Nat → Nat → Nat} {cn : Nat → Nat} {In : Nat → Int32} {Fn : Nat → Nat → Int32} {T : Nat} : (wX cI QA zz g ad cn In Fn).set 0 (g 0, .inr (12, [.int (nI (cn 0)), .int (nI (cn 1)), .int (nI (cn 2)), .int (nI (cn 5)), .ref (ad 5 T), .ref (g 5), .ref (g 6), .ref (g 7), .ref (g 8), .ref (g 9), .ref (g 10), .ref (g 11), .ref (g 12), .ref (g 13), .ref (g 14), .ref (g 15)])) = wX cI QA zz g (adO ad 4 0 T) cn In Fn := by
  simp only [wX, fxX]
  simp [adO]
  exact (famW_cg (show famE [((cn 10), e0X cI QA zz g (adO ad 4 0 T) cn In Fn), ((cn 11), e1X cI QA zz g (adO ad 4 0 T) cn In Fn), ((cn 12), e2X cI QA zz g (adO ad 4 0 T) cn In Fn), ((cn 13), e3X cI QA zz g (adO ad 4 0 T) cn In Fn), ((cn 14), e4X cI QA zz g (adO ad 4 0 T) cn In Fn), ((cn 15), e5X cI QA zz g (adO ad 4 0 T) cn In Fn), ((cn 12), e6X cI QA zz g (adO ad 4 0 T) cn In Fn), ((cn 6), e7X cI QA zz g (adO ad 4 0 T) cn In Fn), ((cn 6), e8X cI QA zz g (adO ad 4 0 T) cn In Fn), ((cn 6), e9X cI QA zz g (adO ad 4 0 T) cn In Fn), ((cn 6), e10X cI QA zz g (adO ad 4 0 T) cn In Fn), ((cn 6), e11X cI QA zz g (adO ad 4 0 T) cn In Fn), ((cn 6), e12X cI QA zz g (adO ad 4 0 T) cn In Fn), ((min 1 (cn 10)), e13X cI QA zz g (adO ad 4 0 T) cn In Fn), ((min 1 (cn 11)), e14X cI QA zz g (adO ad 4 0 T) cn In Fn), ((min 1 (cn 12)), e15X cI QA zz g (adO ad 4 0 T) cn In Fn), ((min 1 (cn 13)), e16X cI QA zz g (adO ad 4 0 T) cn In Fn), ((min 1 (cn 14)), e17X cI QA zz g (adO ad 4 0 T) cn In Fn), ((min 1 (cn 15)), e18X cI QA zz g (adO ad 4 0 T) cn In Fn)] [((cn 10), e0X cI QA zz g ad cn In Fn), ((cn 11), e1X cI QA zz g ad cn In Fn), ((cn 12), e2X cI QA zz g ad cn In Fn), ((cn 13), e3X cI QA zz g ad cn In Fn), ((cn 14), e4X cI QA zz g ad cn In Fn), ((cn 15), e5X cI QA zz g ad cn In Fn), ((cn 12), e6X cI QA zz g ad cn In Fn), ((cn 6), e7X cI QA zz g ad cn In Fn), ((cn 6), e8X cI QA zz g ad cn In Fn), ((cn 6), e9X cI QA zz g ad cn In Fn), ((cn 6), e10X cI QA zz g ad cn In Fn), ((cn 6), e11X cI QA zz g ad cn In Fn), ((cn 6), e12X cI QA zz g ad cn In Fn), ((min 1 (cn 10)), e13X cI QA zz g ad cn In Fn), ((min 1 (cn 11)), e14X cI QA zz g ad cn In Fn), ((min 1 (cn 12)), e15X cI QA zz g ad cn In Fn), ((min 1 (cn 13)), e16X cI QA zz g ad cn In Fn), ((min 1 (cn 14)), e17X cI QA zz g ad cn In Fn), ((min 1 (cn 15)), e18X cI QA zz g ad cn In Fn)] from ⟨⟨rfl, fun k hk => by simp [e0X, adO]⟩, ⟨rfl, fun k hk => by simp [e1X, adO]⟩, ⟨rfl, fun k hk => by simp [e2X, adO]⟩, ⟨rfl, fun k hk => by simp [e3X, adO]⟩, ⟨rfl, fun k hk => by simp [e4X, adO]⟩, ⟨rfl, fun k hk => by simp [e5X, adO]⟩, ⟨rfl, fun k hk => by simp [e6X, adO]⟩, ⟨rfl, fun k hk => by simp [e7X, adO]⟩, ⟨rfl, fun k hk => by simp [e8X, adO]⟩, ⟨rfl, fun k hk => by simp [e9X, adO]⟩, ⟨rfl, fun k hk => by simp [e10X, adO]⟩, ⟨rfl, fun k hk => by simp [e11X, adO]⟩, ⟨rfl, fun k hk => by simp [e12X, adO]⟩, ⟨rfl, fun k hk => by simp [e13X, adO]⟩, ⟨rfl, fun k hk => by simp [e14X, adO]⟩, ⟨rfl, fun k hk => by simp [e15X, adO]⟩, ⟨rfl, fun k hk => by simp [e16X, adO]⟩, ⟨rfl, fun k hk => by simp [e17X, adO]⟩, ⟨rfl, fun k hk => by simp [e18X, adO]⟩, trivial⟩)).symm
theorem xK3 {cI QA : ClassId} {zz : Nat} {g : Nat → Nat} {ad : Nat → Nat → Nat} {cn : Nat → Nat} {In : Nat → Int32} {Fn : Nat → Nat → Int32} {k T : Nat} (hk : k < cn 10) : (wX cI QA zz g ad cn In Fn).set ((fxX cI QA zz g ad cn In Fn).length + (famO (fsX cI QA zz g ad cn In Fn) 0 + k)) (ad 10 k, .inr (2, [.int (Fn 100 k), .int (Fn 101 k), .int (Fn 102 k), .int (Fn 103 k), .int (Fn 104 k), .int (Fn 105 k), .int (Fn 106 k), .int (Fn 107 k), .int (Fn 108 k), .int (Fn 109 k), .ref (ad 5 T)])) = wX cI QA zz g (adO ad 3 k T) cn In Fn := by
  have e1 : fxX cI QA zz g (adO ad 3 k T) cn In Fn = fxX cI QA zz g ad cn In Fn := by simp [fxX, adO]
  have h : e0X cI QA zz g (adO ad 3 k T) cn In Fn = va_up (e0X cI QA zz g ad cn In Fn) k (ad 10 k, .inr (2, [.int (Fn 100 k), .int (Fn 101 k), .int (Fn 102 k), .int (Fn 103 k), .int (Fn 104 k), .int (Fn 105 k), .int (Fn 106 k), .int (Fn 107 k), .int (Fn 108 k), .int (Fn 109 k), .ref (ad 5 T)])) := funext fun j => by
    by_cases q : j = k
    · subst q; simp [e0X, va_up, adO]
    · simp [e0X, va_up, adO, q]
  unfold wX
  rw [fxW_set (p := (cn 10, e0X cI QA zz g ad cn In Fn)) rfl hk, e1]
  refine congrArg (fun w => fxX cI QA zz g ad cn In Fn ++ w) ?_
  exact (famW_cg (show famE [((cn 10), e0X cI QA zz g (adO ad 3 k T) cn In Fn), ((cn 11), e1X cI QA zz g (adO ad 3 k T) cn In Fn), ((cn 12), e2X cI QA zz g (adO ad 3 k T) cn In Fn), ((cn 13), e3X cI QA zz g (adO ad 3 k T) cn In Fn), ((cn 14), e4X cI QA zz g (adO ad 3 k T) cn In Fn), ((cn 15), e5X cI QA zz g (adO ad 3 k T) cn In Fn), ((cn 12), e6X cI QA zz g (adO ad 3 k T) cn In Fn), ((cn 6), e7X cI QA zz g (adO ad 3 k T) cn In Fn), ((cn 6), e8X cI QA zz g (adO ad 3 k T) cn In Fn), ((cn 6), e9X cI QA zz g (adO ad 3 k T) cn In Fn), ((cn 6), e10X cI QA zz g (adO ad 3 k T) cn In Fn), ((cn 6), e11X cI QA zz g (adO ad 3 k T) cn In Fn), ((cn 6), e12X cI QA zz g (adO ad 3 k T) cn In Fn), ((min 1 (cn 10)), e13X cI QA zz g (adO ad 3 k T) cn In Fn), ((min 1 (cn 11)), e14X cI QA zz g (adO ad 3 k T) cn In Fn), ((min 1 (cn 12)), e15X cI QA zz g (adO ad 3 k T) cn In Fn), ((min 1 (cn 13)), e16X cI QA zz g (adO ad 3 k T) cn In Fn), ((min 1 (cn 14)), e17X cI QA zz g (adO ad 3 k T) cn In Fn), ((min 1 (cn 15)), e18X cI QA zz g (adO ad 3 k T) cn In Fn)] [((cn 10), va_up (e0X cI QA zz g ad cn In Fn) k (ad 10 k, .inr (2, [.int (Fn 100 k), .int (Fn 101 k), .int (Fn 102 k), .int (Fn 103 k), .int (Fn 104 k), .int (Fn 105 k), .int (Fn 106 k), .int (Fn 107 k), .int (Fn 108 k), .int (Fn 109 k), .ref (ad 5 T)]))), ((cn 11), e1X cI QA zz g ad cn In Fn), ((cn 12), e2X cI QA zz g ad cn In Fn), ((cn 13), e3X cI QA zz g ad cn In Fn), ((cn 14), e4X cI QA zz g ad cn In Fn), ((cn 15), e5X cI QA zz g ad cn In Fn), ((cn 12), e6X cI QA zz g ad cn In Fn), ((cn 6), e7X cI QA zz g ad cn In Fn), ((cn 6), e8X cI QA zz g ad cn In Fn), ((cn 6), e9X cI QA zz g ad cn In Fn), ((cn 6), e10X cI QA zz g ad cn In Fn), ((cn 6), e11X cI QA zz g ad cn In Fn), ((cn 6), e12X cI QA zz g ad cn In Fn), ((min 1 (cn 10)), e13X cI QA zz g ad cn In Fn), ((min 1 (cn 11)), e14X cI QA zz g ad cn In Fn), ((min 1 (cn 12)), e15X cI QA zz g ad cn In Fn), ((min 1 (cn 13)), e16X cI QA zz g ad cn In Fn), ((min 1 (cn 14)), e17X cI QA zz g ad cn In Fn), ((min 1 (cn 15)), e18X cI QA zz g ad cn In Fn)] from ⟨⟨rfl, fun i hi => congrFun h i⟩, ⟨rfl, fun i hi => by simp [e1X, adO]⟩, ⟨rfl, fun i hi => by simp [e2X, adO]⟩, ⟨rfl, fun i hi => by simp [e3X, adO]⟩, ⟨rfl, fun i hi => by simp [e4X, adO]⟩, ⟨rfl, fun i hi => by simp [e5X, adO]⟩, ⟨rfl, fun i hi => by simp [e6X, adO]⟩, ⟨rfl, fun i hi => by simp [e7X, adO]⟩, ⟨rfl, fun i hi => by simp [e8X, adO]⟩, ⟨rfl, fun i hi => by simp [e9X, adO]⟩, ⟨rfl, fun i hi => by simp [e10X, adO]⟩, ⟨rfl, fun i hi => by simp [e11X, adO]⟩, ⟨rfl, fun i hi => by simp [e12X, adO]⟩, ⟨rfl, fun i hi => by simp [e13X, adO]⟩, ⟨rfl, fun i hi => by simp [e14X, adO]⟩, ⟨rfl, fun i hi => by simp [e15X, adO]⟩, ⟨rfl, fun i hi => by simp [e16X, adO]⟩, ⟨rfl, fun i hi => by simp [e17X, adO]⟩, ⟨rfl, fun i hi => by simp [e18X, adO]⟩, trivial⟩)).symm

set_option maxRecDepth 100000 in
theorem gf_RX5_27 {p : Program} {l : Launch} {e : Env} {R : Room} {s : State} {m : MethodId} {args : Array Value} {below : List Frame} {meth : Method} {c : Code} {H : Heap} {locs : List Loc} {cells slots : Nat} {Q : State → Prop} {cc : ByteArray} {nL pc : Nat} {D : va_G} {cI cB cZ : ClassId} {ws : va_W} {rest : List Value} {ls : Array Slot} {a : Nat} {fs : List Value} {v : Value} (S : SF p m c cc nL s args RX5) (hK : KK D cI cB cZ s) (hP : va_P D vwCl ws H) (q0 : Nat) (he : ws[q0]? = some (a, .inr (6, fs))) (hv : fs[2]? = some v) (hdg : decode cc pc = .ok (.getfield 27, 3)) (kk : W p l e R s m args below meth c H locs cells slots Q (F0 m (pc + 3) ls (v :: rest))) : W p l e R s m args below meth c H locs cells slots Q (F0 m pc ls (.ref a :: rest)) :=
  va_get (C := RX5) (T := TX5) (N := 6) S.1 S.2.1 S.2.2.2.2 hin_RX5 S.2.2.2.1 hK.1 hP q0 he rfl 2 (by decide) (S.2.2.2.2 _ (wk1_8 3 rfl rfl)) (fun _ h9 => h9) hv hdg kk
set_option maxRecDepth 100000 in
theorem gf_RX5_50 {p : Program} {l : Launch} {e : Env} {R : Room} {s : State} {m : MethodId} {args : Array Value} {below : List Frame} {meth : Method} {c : Code} {H : Heap} {locs : List Loc} {cells slots : Nat} {Q : State → Prop} {cc : ByteArray} {nL pc : Nat} {D : va_G} {cI cB cZ : ClassId} {ws : va_W} {rest : List Value} {ls : Array Slot} {a : Nat} {fs : List Value} {v : Value} (S : SF p m c cc nL s args RX5) (hK : KK D cI cB cZ s) (hP : va_P D vwCl ws H) (q0 : Nat) (he : ws[q0]? = some (a, .inr (10, fs))) (hv : fs[8]? = some v) (hdg : decode cc pc = .ok (.getfield 50, 3)) (kk : W p l e R s m args below meth c H locs cells slots Q (F0 m (pc + 3) ls (v :: rest))) : W p l e R s m args below meth c H locs cells slots Q (F0 m pc ls (.ref a :: rest)) :=
  va_get (C := RX9) (T := TX9) (N := 9) S.1 S.2.1 S.2.2.2.2 hin_RX9 S.2.2.2.1 hK.1 hP q0 he rfl 8 (by decide) (S.2.2.2.2 _ (wk1_4 5 rfl rfl)) (fun _ h9 => h9) hv hdg kk
set_option maxRecDepth 100000 in
theorem kV_RX5_53 : CalV RX5 53 yX9_startSum cX9_startSum 1 none 0 := ⟨⟨wk3_5 11 rfl rfl, wk3_6 0 rfl rfl, wk3_6 1 rfl rfl, wk1_0 2 rfl rfl, wk3_6 2 rfl rfl⟩, ⟨nmh_10.1, nmh_10.2, pd_2⟩⟩
set_option maxRecDepth 100000 in
theorem kV_RX5_59 : CalV RX5 59 yX9_startCondition cX9_startCondition 1 none 0 := ⟨⟨wk3_15 1 rfl rfl, wk3_15 2 rfl rfl, wk3_15 3 rfl rfl, wk1_0 2 rfl rfl, wk3_15 4 rfl rfl⟩, ⟨nmh_10.1, nmh_10.2, pd_2⟩⟩
set_option maxRecDepth 100000 in
theorem kV_RX5_69 : CalV RX5 69 yX9_endClause cX9_endClause 1 none 0 := ⟨⟨wk3_17 3 rfl rfl, wk3_17 4 rfl rfl, wk3_17 5 rfl rfl, wk1_0 2 rfl rfl, wk3_17 6 rfl rfl⟩, ⟨nmh_10.1, nmh_10.2, pd_2⟩⟩
set_option maxRecDepth 100000 in
theorem gf_RX5_24 {p : Program} {l : Launch} {e : Env} {R : Room} {s : State} {m : MethodId} {args : Array Value} {below : List Frame} {meth : Method} {c : Code} {H : Heap} {locs : List Loc} {cells slots : Nat} {Q : State → Prop} {cc : ByteArray} {nL pc : Nat} {D : va_G} {cI cB cZ : ClassId} {ws : va_W} {rest : List Value} {ls : Array Slot} {a : Nat} {fs : List Value} {v : Value} (S : SF p m c cc nL s args RX5) (hK : KK D cI cB cZ s) (hP : va_P D vwCl ws H) (q0 : Nat) (he : ws[q0]? = some (a, .inr (9, fs))) (hv : fs[0]? = some v) (hdg : decode cc pc = .ok (.getfield 24, 3)) (kk : W p l e R s m args below meth c H locs cells slots Q (F0 m (pc + 3) ls (v :: rest))) : W p l e R s m args below meth c H locs cells slots Q (F0 m pc ls (.ref a :: rest)) :=
  va_get (C := RX8) (T := TX8) (N := 2) S.1 S.2.1 S.2.2.2.2 hin_RX8 S.2.2.2.1 hK.1 hP q0 he rfl 0 (by decide) (S.2.2.2.2 _ (wk1_6 10 rfl rfl)) (fun _ h9 => h9) hv hdg kk
set_option maxRecDepth 100000 in
theorem pf_RX5_9 {p : Program} {l : Launch} {e : Env} {R : Room} {s : State} {m : MethodId} {args : Array Value} {below : List Frame} {meth : Method} {c : Code} {H : Heap} {locs : List Loc} {cells slots : Nat} {Q : State → Prop} {cc : ByteArray} {nL pc : Nat} {D : va_G} {cI cB cZ : ClassId} {ws : va_W} {rest : List Value} {ls : Array Slot} {a : Nat} {fs : List Value} {v : Value} {A : Nat → Prop} {H0 : Heap} (S : SF p m c cc nL s args RX5) (hK : KK D cI cB cZ s) (hP : va_P D vwCl ws H) (hD : va_D A ws) (hS : va_S A H0 H locs) (q0 : Nat) (he : ws[q0]? = some (a, .inr (6, fs))) (hl : 0 < fs.length) (hn : narrow (tyX5 0) v = v) (hfit : fits (tyX5 0) v = true) (hdg : decode cc pc = .ok (.putfield 9, 3)) (kk : ∀ (H1 : Heap) (locs1 : List Loc), va_P D vwCl (ws.set q0 (a, .inr (6, fs.set 0 v))) H1 → va_D A (ws.set q0 (a, .inr (6, fs.set 0 v))) → va_S A H0 H1 locs1 → W p l e R s m args below meth c H1 locs1 cells slots Q (F0 m (pc + 3) ls rest)) : W p l e R s m args below meth c H locs cells slots Q (F0 m pc ls (v :: .ref a :: rest)) :=
  va_put (C := RX5) (T := TX5) (N := 6) S.1 S.2.1 S.2.2.2.2 hin_RX5 tyX5 tyX5_ok nmX5 S.2.2.2.1 hK.1 hP hD hS q0 he rfl 0 (by decide) (S.2.2.2.2 _ (wk1_8 1 rfl rfl)) (fun _ h9 => h9) rfl (tyX5_ok 0 (by decide)) hn hfit hl hdg kk
set_option maxRecDepth 100000 in
theorem kI_RX5_17 : CalI RX5 17 yX9_init cX9_init 2 1 := ⟨⟨wk1_8 0 rfl rfl, wk1_3 2 rfl rfl, wk1_0 2 rfl rfl, wk1_3 3 rfl rfl⟩, rfl, ⟨nmh_10.1, nmh_10.2, pd_14⟩⟩
set_option maxRecDepth 100000 in
theorem pf_RX5_20 {p : Program} {l : Launch} {e : Env} {R : Room} {s : State} {m : MethodId} {args : Array Value} {below : List Frame} {meth : Method} {c : Code} {H : Heap} {locs : List Loc} {cells slots : Nat} {Q : State → Prop} {cc : ByteArray} {nL pc : Nat} {D : va_G} {cI cB cZ : ClassId} {ws : va_W} {rest : List Value} {ls : Array Slot} {a : Nat} {fs : List Value} {v : Value} {A : Nat → Prop} {H0 : Heap} (S : SF p m c cc nL s args RX5) (hK : KK D cI cB cZ s) (hP : va_P D vwCl ws H) (hD : va_D A ws) (hS : va_S A H0 H locs) (q0 : Nat) (he : ws[q0]? = some (a, .inr (6, fs))) (hl : 1 < fs.length) (hn : narrow (tyX5 1) v = v) (hfit : fits (tyX5 1) v = true) (hdg : decode cc pc = .ok (.putfield 20, 3)) (kk : ∀ (H1 : Heap) (locs1 : List Loc), va_P D vwCl (ws.set q0 (a, .inr (6, fs.set 1 v))) H1 → va_D A (ws.set q0 (a, .inr (6, fs.set 1 v))) → va_S A H0 H1 locs1 → W p l e R s m args below meth c H1 locs1 cells slots Q (F0 m (pc + 3) ls rest)) : W p l e R s m args below meth c H locs cells slots Q (F0 m pc ls (v :: .ref a :: rest)) :=
  va_put (C := RX5) (T := TX5) (N := 6) S.1 S.2.1 S.2.2.2.2 hin_RX5 tyX5 tyX5_ok nmX5 S.2.2.2.1 hK.1 hP hD hS q0 he rfl 1 (by decide) (S.2.2.2.2 _ (wk1_8 2 rfl rfl)) (fun _ h9 => h9) rfl (tyX5_ok 1 (by decide)) hn hfit hl hdg kk
set_option maxRecDepth 100000 in
theorem pf_RX5_27 {p : Program} {l : Launch} {e : Env} {R : Room} {s : State} {m : MethodId} {args : Array Value} {below : List Frame} {meth : Method} {c : Code} {H : Heap} {locs : List Loc} {cells slots : Nat} {Q : State → Prop} {cc : ByteArray} {nL pc : Nat} {D : va_G} {cI cB cZ : ClassId} {ws : va_W} {rest : List Value} {ls : Array Slot} {a : Nat} {fs : List Value} {v : Value} {A : Nat → Prop} {H0 : Heap} (S : SF p m c cc nL s args RX5) (hK : KK D cI cB cZ s) (hP : va_P D vwCl ws H) (hD : va_D A ws) (hS : va_S A H0 H locs) (q0 : Nat) (he : ws[q0]? = some (a, .inr (6, fs))) (hl : 2 < fs.length) (hn : narrow (tyX5 2) v = v) (hfit : fits (tyX5 2) v = true) (hdg : decode cc pc = .ok (.putfield 27, 3)) (kk : ∀ (H1 : Heap) (locs1 : List Loc), va_P D vwCl (ws.set q0 (a, .inr (6, fs.set 2 v))) H1 → va_D A (ws.set q0 (a, .inr (6, fs.set 2 v))) → va_S A H0 H1 locs1 → W p l e R s m args below meth c H1 locs1 cells slots Q (F0 m (pc + 3) ls rest)) : W p l e R s m args below meth c H locs cells slots Q (F0 m pc ls (v :: .ref a :: rest)) :=
  va_put (C := RX5) (T := TX5) (N := 6) S.1 S.2.1 S.2.2.2.2 hin_RX5 tyX5 tyX5_ok nmX5 S.2.2.2.1 hK.1 hP hD hS q0 he rfl 2 (by decide) (S.2.2.2.2 _ (wk1_8 3 rfl rfl)) (fun _ h9 => h9) rfl (tyX5_ok 2 (by decide)) hn hfit hl hdg kk
set_option maxRecDepth 100000 in
theorem kV_RX5_40 : CalV RX5 40 yX5_readClause cX5_readClause 1 none 0 := ⟨⟨wk3_4 11 rfl rfl, wk3_5 1 rfl rfl, wT_sel 6 _ rfl rfl rfl, wk1_0 5 rfl rfl, wk3_5 2 rfl rfl⟩, ⟨nmh_6.1, nmh_6.2, pd_2⟩⟩
set_option maxRecDepth 100000 in
theorem kV_RX11_155 : CalV RX11 155 yX11_isText cX11_isText 2 (some .boolean) 1 := ⟨⟨wk3_4 3 rfl rfl, wk3_4 5 rfl rfl, wT_sel 5 _ rfl rfl rfl, wk1_0 1 rfl rfl, wk3_4 6 rfl rfl⟩, ⟨nmh_0.1, nmh_0.2, pd_15⟩⟩
set_option maxRecDepth 100000 in
theorem gf_RX11_28 {p : Program} {l : Launch} {e : Env} {R : Room} {s : State} {m : MethodId} {args : Array Value} {below : List Frame} {meth : Method} {c : Code} {H : Heap} {locs : List Loc} {cells slots : Nat} {Q : State → Prop} {cc : ByteArray} {nL pc : Nat} {D : va_G} {cI cB cZ : ClassId} {ws : va_W} {rest : List Value} {ls : Array Slot} {a : Nat} {fs : List Value} {v : Value} (S : SF p m c cc nL s args RX11) (hK : KK D cI cB cZ s) (hP : va_P D vwCl ws H) (q0 : Nat) (he : ws[q0]? = some (a, .inr (12, fs))) (hv : fs[6]? = some v) (hdg : decode cc pc = .ok (.getfield 28, 3)) (kk : W p l e R s m args below meth c H locs cells slots Q (F0 m (pc + 3) ls (v :: rest))) : W p l e R s m args below meth c H locs cells slots Q (F0 m pc ls (.ref a :: rest)) :=
  va_get (C := RX11) (T := TX11) (N := 16) S.1 S.2.1 S.2.2.2.2 hin_RX11 S.2.2.2.1 hK.1 hP q0 he rfl 6 (by decide) (S.2.2.2.2 _ (wk2_0 2 rfl rfl)) (fun _ h9 => h9) hv hdg kk
set_option maxRecDepth 100000 in
theorem kV_RX11_158 : CalV RX11 158 yX5_read cX5_read 4 (some (.object "OilHome$Text")) 3 := ⟨⟨wk3_4 7 rfl rfl, wk3_4 8 rfl rfl, wk3_4 9 rfl rfl, wk1_0 5 rfl rfl, wk3_4 10 rfl rfl⟩, ⟨nmh_6.1, nmh_6.2, pd_55⟩⟩
set_option maxRecDepth 100000 in
theorem gf_RX11_165 {p : Program} {l : Launch} {e : Env} {R : Room} {s : State} {m : MethodId} {args : Array Value} {below : List Frame} {meth : Method} {c : Code} {H : Heap} {locs : List Loc} {cells slots : Nat} {Q : State → Prop} {cc : ByteArray} {nL pc : Nat} {D : va_G} {cI cB cZ : ClassId} {ws : va_W} {rest : List Value} {ls : Array Slot} {a : Nat} {fs : List Value} {v : Value} (S : SF p m c cc nL s args RX11) (hK : KK D cI cB cZ s) (hP : va_P D vwCl ws H) (q0 : Nat) (he : ws[q0]? = some (a, .inr (6, fs))) (hv : fs[5]? = some v) (hdg : decode cc pc = .ok (.getfield 165, 3)) (kk : W p l e R s m args below meth c H locs cells slots Q (F0 m (pc + 3) ls (v :: rest))) : W p l e R s m args below meth c H locs cells slots Q (F0 m pc ls (.ref a :: rest)) :=
  va_get (C := RX5) (T := TX5) (N := 6) S.1 S.2.1 S.2.2.2.2 hin_RX5 S.2.2.2.1 hK.1 hP q0 he rfl 5 (by decide) (S.2.2.2.2 _ (wk1_8 7 rfl rfl)) (fun _ h9 => h9) hv hdg kk
set_option maxRecDepth 100000 in
theorem pf_RX11_168 {p : Program} {l : Launch} {e : Env} {R : Room} {s : State} {m : MethodId} {args : Array Value} {below : List Frame} {meth : Method} {c : Code} {H : Heap} {locs : List Loc} {cells slots : Nat} {Q : State → Prop} {cc : ByteArray} {nL pc : Nat} {D : va_G} {cI cB cZ : ClassId} {ws : va_W} {rest : List Value} {ls : Array Slot} {a : Nat} {fs : List Value} {v : Value} {A : Nat → Prop} {H0 : Heap} (S : SF p m c cc nL s args RX11) (hK : KK D cI cB cZ s) (hP : va_P D vwCl ws H) (hD : va_D A ws) (hS : va_S A H0 H locs) (q0 : Nat) (he : ws[q0]? = some (a, .inr (2, fs))) (hl : 10 < fs.length) (hn : narrow (tyX1 10) v = v) (hfit : fits (tyX1 10) v = true) (hdg : decode cc pc = .ok (.putfield 168, 3)) (kk : ∀ (H1 : Heap) (locs1 : List Loc), va_P D vwCl (ws.set q0 (a, .inr (2, fs.set 10 v))) H1 → va_D A (ws.set q0 (a, .inr (2, fs.set 10 v))) → va_S A H0 H1 locs1 → W p l e R s m args below meth c H1 locs1 cells slots Q (F0 m (pc + 3) ls rest)) : W p l e R s m args below meth c H locs cells slots Q (F0 m pc ls (v :: .ref a :: rest)) :=
  va_put (C := RX1) (T := TX1) (N := 11) S.1 S.2.1 S.2.2.2.2 hin_RX1 tyX1 tyX1_ok nmX1 S.2.2.2.1 hK.1 hP hD hS q0 he rfl 10 (by decide) (S.2.2.2.2 _ (wk2_7 6 rfl rfl)) (fun _ h9 => h9) rfl (tyX1_ok 10 (by decide)) hn hfit hl hdg kk
set_option maxRecDepth 100000 in
theorem pf_RX11_12 {p : Program} {l : Launch} {e : Env} {R : Room} {s : State} {m : MethodId} {args : Array Value} {below : List Frame} {meth : Method} {c : Code} {H : Heap} {locs : List Loc} {cells slots : Nat} {Q : State → Prop} {cc : ByteArray} {nL pc : Nat} {D : va_G} {cI cB cZ : ClassId} {ws : va_W} {rest : List Value} {ls : Array Slot} {a : Nat} {fs : List Value} {v : Value} {A : Nat → Prop} {H0 : Heap} (S : SF p m c cc nL s args RX11) (hK : KK D cI cB cZ s) (hP : va_P D vwCl ws H) (hD : va_D A ws) (hS : va_S A H0 H locs) (q0 : Nat) (he : ws[q0]? = some (a, .inr (12, fs))) (hl : 4 < fs.length) (hn : narrow (tyX11 4) v = v) (hfit : fits (tyX11 4) v = true) (hdg : decode cc pc = .ok (.putfield 12, 3)) (kk : ∀ (H1 : Heap) (locs1 : List Loc), va_P D vwCl (ws.set q0 (a, .inr (12, fs.set 4 v))) H1 → va_D A (ws.set q0 (a, .inr (12, fs.set 4 v))) → va_S A H0 H1 locs1 → W p l e R s m args below meth c H1 locs1 cells slots Q (F0 m (pc + 3) ls rest)) : W p l e R s m args below meth c H locs cells slots Q (F0 m pc ls (v :: .ref a :: rest)) :=
  va_put (C := RX11) (T := TX11) (N := 16) S.1 S.2.1 S.2.2.2.2 hin_RX11 tyX11 tyX11_ok nmX11 S.2.2.2.1 hK.1 hP hD hS q0 he rfl 4 (by decide) (S.2.2.2.2 _ (wk2_0 0 rfl rfl)) (fun _ h9 => h9) rfl (tyX11_ok 4 (by decide)) hn hfit hl hdg kk
noncomputable def sxX5_readClause_98 : List UInt8 := []
noncomputable def sxX5_readClause_97 : List UInt8 := 177 :: sxX5_readClause_98
noncomputable def sxX5_readClause_94 : List UInt8 := 182 :: 0 :: 69 :: sxX5_readClause_97
noncomputable def sxX5_readClause_91 : List UInt8 := 180 :: 0 :: 20 :: sxX5_readClause_94
noncomputable def sxX5_readClause_90 : List UInt8 := 42 :: sxX5_readClause_91
noncomputable def sxX5_readClause_87 : List UInt8 := 182 :: 0 :: 62 :: sxX5_readClause_90
noncomputable def sxX5_readClause_85 : List UInt8 := 16 :: 41 :: sxX5_readClause_87
noncomputable def sxX5_readClause_84 : List UInt8 := 42 :: sxX5_readClause_85
noncomputable def sxX5_readClause_81 : List UInt8 := 182 :: 0 :: 66 :: sxX5_readClause_84
noncomputable def sxX5_readClause_80 : List UInt8 := 4 :: sxX5_readClause_81
noncomputable def sxX5_readClause_79 : List UInt8 := 42 :: sxX5_readClause_80
noncomputable def sxX5_readClause_76 : List UInt8 := 182 :: 0 :: 62 :: sxX5_readClause_79
noncomputable def sxX5_readClause_74 : List UInt8 := 16 :: 40 :: sxX5_readClause_76
noncomputable def sxX5_readClause_73 : List UInt8 := 42 :: sxX5_readClause_74
noncomputable def sxX5_readClause_70 : List UInt8 := 182 :: 0 :: 59 :: sxX5_readClause_73
noncomputable def sxX5_readClause_67 : List UInt8 := 180 :: 0 :: 20 :: sxX5_readClause_70
noncomputable def sxX5_readClause_66 : List UInt8 := 42 :: sxX5_readClause_67
noncomputable def sxX5_readClause_63 : List UInt8 := 182 :: 0 :: 56 :: sxX5_readClause_66
noncomputable def sxX5_readClause_62 : List UInt8 := 3 :: sxX5_readClause_63
noncomputable def sxX5_readClause_61 : List UInt8 := 42 :: sxX5_readClause_62
noncomputable def sxX5_readClause_58 : List UInt8 := 160 :: 0 :: 8 :: sxX5_readClause_61
noncomputable def sxX5_readClause_56 : List UInt8 := 16 :: 112 :: sxX5_readClause_58
noncomputable def sxX5_readClause_53 : List UInt8 := 180 :: 0 :: 27 :: sxX5_readClause_56
noncomputable def sxX5_readClause_52 : List UInt8 := 42 :: sxX5_readClause_53
noncomputable def sxX5_readClause_49 : List UInt8 := 182 :: 0 :: 53 :: sxX5_readClause_52
noncomputable def sxX5_readClause_46 : List UInt8 := 180 :: 0 :: 20 :: sxX5_readClause_49
noncomputable def sxX5_readClause_45 : List UInt8 := 42 :: sxX5_readClause_46
noncomputable def sxX5_readClause_42 : List UInt8 := 181 :: 0 :: 31 :: sxX5_readClause_45
noncomputable def sxX5_readClause_41 : List UInt8 := 96 :: sxX5_readClause_42
noncomputable def sxX5_readClause_40 : List UInt8 := 4 :: sxX5_readClause_41
noncomputable def sxX5_readClause_37 : List UInt8 := 180 :: 0 :: 31 :: sxX5_readClause_40
noncomputable def sxX5_readClause_36 : List UInt8 := 89 :: sxX5_readClause_37
noncomputable def sxX5_readClause_35 : List UInt8 := 42 :: sxX5_readClause_36
noncomputable def sxX5_readClause_34 : List UInt8 := 177 :: sxX5_readClause_35
noncomputable def sxX5_readClause_31 : List UInt8 := 182 :: 0 :: 47 :: sxX5_readClause_34
noncomputable def sxX5_readClause_30 : List UInt8 := 7 :: sxX5_readClause_31
noncomputable def sxX5_readClause_29 : List UInt8 := 42 :: sxX5_readClause_30
noncomputable def sxX5_readClause_26 : List UInt8 := 161 :: 0 :: 9 :: sxX5_readClause_29
noncomputable def sxX5_readClause_24 : List UInt8 := 16 :: 12 :: sxX5_readClause_26
noncomputable def sxX5_readClause_21 : List UInt8 := 180 :: 0 :: 50 :: sxX5_readClause_24
noncomputable def sxX5_readClause_18 : List UInt8 := 180 :: 0 :: 20 :: sxX5_readClause_21
noncomputable def sxX5_readClause_17 : List UInt8 := 42 :: sxX5_readClause_18
noncomputable def sxX5_readClause_16 : List UInt8 := 177 :: sxX5_readClause_17
noncomputable def sxX5_readClause_13 : List UInt8 := 182 :: 0 :: 47 :: sxX5_readClause_16
noncomputable def sxX5_readClause_12 : List UInt8 := 4 :: sxX5_readClause_13
noncomputable def sxX5_readClause_11 : List UInt8 := 42 :: sxX5_readClause_12
noncomputable def sxX5_readClause_8 : List UInt8 := 159 :: 0 :: 9 :: sxX5_readClause_11
noncomputable def sxX5_readClause_5 : List UInt8 := 180 :: 0 :: 27 :: sxX5_readClause_8
noncomputable def sxX5_readClause_4 : List UInt8 := 42 :: sxX5_readClause_5
noncomputable def sxX5_readClause_1 : List UInt8 := 182 :: 0 :: 43 :: sxX5_readClause_4
noncomputable def sxX5_readClause_0 : List UInt8 := 42 :: sxX5_readClause_1
theorem shX5_readClause_0 : cX5_readClause.data.toList.drop 0 = sxX5_readClause_0 := rfl
theorem shX5_readClause_1 : cX5_readClause.data.toList.drop 1 = sxX5_readClause_1 := dSn 1 shX5_readClause_0
theorem shX5_readClause_4 : cX5_readClause.data.toList.drop 4 = sxX5_readClause_4 := dSn 3 shX5_readClause_1
theorem shX5_readClause_5 : cX5_readClause.data.toList.drop 5 = sxX5_readClause_5 := dSn 1 shX5_readClause_4
theorem shX5_readClause_8 : cX5_readClause.data.toList.drop 8 = sxX5_readClause_8 := dSn 3 shX5_readClause_5
theorem shX5_readClause_11 : cX5_readClause.data.toList.drop 11 = sxX5_readClause_11 := dSn 3 shX5_readClause_8
theorem shX5_readClause_12 : cX5_readClause.data.toList.drop 12 = sxX5_readClause_12 := dSn 1 shX5_readClause_11
theorem shX5_readClause_13 : cX5_readClause.data.toList.drop 13 = sxX5_readClause_13 := dSn 1 shX5_readClause_12
theorem shX5_readClause_16 : cX5_readClause.data.toList.drop 16 = sxX5_readClause_16 := dSn 3 shX5_readClause_13
theorem shX5_readClause_17 : cX5_readClause.data.toList.drop 17 = sxX5_readClause_17 := dSn 1 shX5_readClause_16
theorem shX5_readClause_18 : cX5_readClause.data.toList.drop 18 = sxX5_readClause_18 := dSn 1 shX5_readClause_17
theorem shX5_readClause_21 : cX5_readClause.data.toList.drop 21 = sxX5_readClause_21 := dSn 3 shX5_readClause_18
theorem shX5_readClause_24 : cX5_readClause.data.toList.drop 24 = sxX5_readClause_24 := dSn 3 shX5_readClause_21
theorem shX5_readClause_26 : cX5_readClause.data.toList.drop 26 = sxX5_readClause_26 := dSn 2 shX5_readClause_24
theorem shX5_readClause_29 : cX5_readClause.data.toList.drop 29 = sxX5_readClause_29 := dSn 3 shX5_readClause_26
theorem shX5_readClause_30 : cX5_readClause.data.toList.drop 30 = sxX5_readClause_30 := dSn 1 shX5_readClause_29
theorem shX5_readClause_31 : cX5_readClause.data.toList.drop 31 = sxX5_readClause_31 := dSn 1 shX5_readClause_30
theorem shX5_readClause_34 : cX5_readClause.data.toList.drop 34 = sxX5_readClause_34 := dSn 3 shX5_readClause_31
theorem shX5_readClause_35 : cX5_readClause.data.toList.drop 35 = sxX5_readClause_35 := dSn 1 shX5_readClause_34
theorem shX5_readClause_36 : cX5_readClause.data.toList.drop 36 = sxX5_readClause_36 := dSn 1 shX5_readClause_35
theorem shX5_readClause_37 : cX5_readClause.data.toList.drop 37 = sxX5_readClause_37 := dSn 1 shX5_readClause_36
theorem shX5_readClause_40 : cX5_readClause.data.toList.drop 40 = sxX5_readClause_40 := dSn 3 shX5_readClause_37
theorem shX5_readClause_41 : cX5_readClause.data.toList.drop 41 = sxX5_readClause_41 := dSn 1 shX5_readClause_40
theorem shX5_readClause_42 : cX5_readClause.data.toList.drop 42 = sxX5_readClause_42 := dSn 1 shX5_readClause_41
theorem shX5_readClause_45 : cX5_readClause.data.toList.drop 45 = sxX5_readClause_45 := dSn 3 shX5_readClause_42
theorem shX5_readClause_46 : cX5_readClause.data.toList.drop 46 = sxX5_readClause_46 := dSn 1 shX5_readClause_45
theorem shX5_readClause_49 : cX5_readClause.data.toList.drop 49 = sxX5_readClause_49 := dSn 3 shX5_readClause_46
theorem shX5_readClause_52 : cX5_readClause.data.toList.drop 52 = sxX5_readClause_52 := dSn 3 shX5_readClause_49
theorem shX5_readClause_53 : cX5_readClause.data.toList.drop 53 = sxX5_readClause_53 := dSn 1 shX5_readClause_52
theorem shX5_readClause_56 : cX5_readClause.data.toList.drop 56 = sxX5_readClause_56 := dSn 3 shX5_readClause_53
theorem shX5_readClause_58 : cX5_readClause.data.toList.drop 58 = sxX5_readClause_58 := dSn 2 shX5_readClause_56
theorem shX5_readClause_61 : cX5_readClause.data.toList.drop 61 = sxX5_readClause_61 := dSn 3 shX5_readClause_58
theorem shX5_readClause_62 : cX5_readClause.data.toList.drop 62 = sxX5_readClause_62 := dSn 1 shX5_readClause_61
theorem shX5_readClause_63 : cX5_readClause.data.toList.drop 63 = sxX5_readClause_63 := dSn 1 shX5_readClause_62
theorem shX5_readClause_66 : cX5_readClause.data.toList.drop 66 = sxX5_readClause_66 := dSn 3 shX5_readClause_63
theorem shX5_readClause_67 : cX5_readClause.data.toList.drop 67 = sxX5_readClause_67 := dSn 1 shX5_readClause_66
theorem shX5_readClause_70 : cX5_readClause.data.toList.drop 70 = sxX5_readClause_70 := dSn 3 shX5_readClause_67
theorem shX5_readClause_73 : cX5_readClause.data.toList.drop 73 = sxX5_readClause_73 := dSn 3 shX5_readClause_70
theorem shX5_readClause_74 : cX5_readClause.data.toList.drop 74 = sxX5_readClause_74 := dSn 1 shX5_readClause_73
theorem shX5_readClause_76 : cX5_readClause.data.toList.drop 76 = sxX5_readClause_76 := dSn 2 shX5_readClause_74
theorem shX5_readClause_79 : cX5_readClause.data.toList.drop 79 = sxX5_readClause_79 := dSn 3 shX5_readClause_76
theorem shX5_readClause_80 : cX5_readClause.data.toList.drop 80 = sxX5_readClause_80 := dSn 1 shX5_readClause_79
theorem shX5_readClause_81 : cX5_readClause.data.toList.drop 81 = sxX5_readClause_81 := dSn 1 shX5_readClause_80
theorem shX5_readClause_84 : cX5_readClause.data.toList.drop 84 = sxX5_readClause_84 := dSn 3 shX5_readClause_81
theorem shX5_readClause_85 : cX5_readClause.data.toList.drop 85 = sxX5_readClause_85 := dSn 1 shX5_readClause_84
theorem shX5_readClause_87 : cX5_readClause.data.toList.drop 87 = sxX5_readClause_87 := dSn 2 shX5_readClause_85
theorem shX5_readClause_90 : cX5_readClause.data.toList.drop 90 = sxX5_readClause_90 := dSn 3 shX5_readClause_87
theorem shX5_readClause_91 : cX5_readClause.data.toList.drop 91 = sxX5_readClause_91 := dSn 1 shX5_readClause_90
theorem shX5_readClause_94 : cX5_readClause.data.toList.drop 94 = sxX5_readClause_94 := dSn 3 shX5_readClause_91
theorem shX5_readClause_97 : cX5_readClause.data.toList.drop 97 = sxX5_readClause_97 := dSn 3 shX5_readClause_94
theorem dX5_readClause_0 : decode cX5_readClause 0 = .ok (.aload_n 0, 1) := oc_42 shX5_readClause_0
theorem dX5_readClause_1 : decode cX5_readClause 1 = .ok (.invokevirtual 43, 3) := oc_182 shX5_readClause_1
theorem dX5_readClause_4 : decode cX5_readClause 4 = .ok (.aload_n 0, 1) := oc_42 shX5_readClause_4
theorem dX5_readClause_5 : decode cX5_readClause 5 = .ok (.getfield 27, 3) := oc_180 shX5_readClause_5
theorem dX5_readClause_8 : decode cX5_readClause 8 = .ok (.if_icmp .eq 9, 3) := oc_159 shX5_readClause_8 sgw_0_9
theorem dX5_readClause_17 : decode cX5_readClause 17 = .ok (.aload_n 0, 1) := oc_42 shX5_readClause_17
theorem dX5_readClause_18 : decode cX5_readClause 18 = .ok (.getfield 20, 3) := oc_180 shX5_readClause_18
theorem dX5_readClause_21 : decode cX5_readClause 21 = .ok (.getfield 50, 3) := oc_180 shX5_readClause_21
theorem dX5_readClause_24 : decode cX5_readClause 24 = .ok (.bipush 12, 2) := oc_16 shX5_readClause_24 sgb_12
theorem dX5_readClause_26 : decode cX5_readClause 26 = .ok (.if_icmp .lt 9, 3) := oc_161 shX5_readClause_26 sgw_0_9
theorem dX5_readClause_35 : decode cX5_readClause 35 = .ok (.aload_n 0, 1) := oc_42 shX5_readClause_35
theorem dX5_readClause_36 : decode cX5_readClause 36 = .ok (.dup, 1) := oc_89 shX5_readClause_36
theorem dX5_readClause_37 : decode cX5_readClause 37 = .ok (.getfield 31, 3) := oc_180 shX5_readClause_37
theorem dX5_readClause_40 : decode cX5_readClause 40 = .ok (.iconst 1, 1) := oc_4 shX5_readClause_40
theorem dX5_readClause_41 : decode cX5_readClause 41 = .ok (.iadd, 1) := oc_96 shX5_readClause_41
theorem dX5_readClause_42 : decode cX5_readClause 42 = .ok (.putfield 31, 3) := oc_181 shX5_readClause_42
theorem dX5_readClause_45 : decode cX5_readClause 45 = .ok (.aload_n 0, 1) := oc_42 shX5_readClause_45
theorem dX5_readClause_46 : decode cX5_readClause 46 = .ok (.getfield 20, 3) := oc_180 shX5_readClause_46
theorem dX5_readClause_49 : decode cX5_readClause 49 = .ok (.invokevirtual 53, 3) := oc_182 shX5_readClause_49
theorem dX5_readClause_52 : decode cX5_readClause 52 = .ok (.aload_n 0, 1) := oc_42 shX5_readClause_52
theorem dX5_readClause_53 : decode cX5_readClause 53 = .ok (.getfield 27, 3) := oc_180 shX5_readClause_53
theorem dX5_readClause_56 : decode cX5_readClause 56 = .ok (.bipush 112, 2) := oc_16 shX5_readClause_56 sgb_112
theorem dX5_readClause_58 : decode cX5_readClause 58 = .ok (.if_icmp .ne 8, 3) := oc_160 shX5_readClause_58 sgw_0_8
theorem dX5_readClause_66 : decode cX5_readClause 66 = .ok (.aload_n 0, 1) := oc_42 shX5_readClause_66
theorem dX5_readClause_67 : decode cX5_readClause 67 = .ok (.getfield 20, 3) := oc_180 shX5_readClause_67
theorem dX5_readClause_70 : decode cX5_readClause 70 = .ok (.invokevirtual 59, 3) := oc_182 shX5_readClause_70
theorem dX5_readClause_73 : decode cX5_readClause 73 = .ok (.aload_n 0, 1) := oc_42 shX5_readClause_73
theorem dX5_readClause_74 : decode cX5_readClause 74 = .ok (.bipush 40, 2) := oc_16 shX5_readClause_74 sgb_40
theorem dX5_readClause_76 : decode cX5_readClause 76 = .ok (.invokevirtual 62, 3) := oc_182 shX5_readClause_76
theorem dX5_readClause_79 : decode cX5_readClause 79 = .ok (.aload_n 0, 1) := oc_42 shX5_readClause_79
theorem dX5_readClause_80 : decode cX5_readClause 80 = .ok (.iconst 1, 1) := oc_4 shX5_readClause_80
theorem dX5_readClause_81 : decode cX5_readClause 81 = .ok (.invokevirtual 66, 3) := oc_182 shX5_readClause_81
theorem dX5_readClause_84 : decode cX5_readClause 84 = .ok (.aload_n 0, 1) := oc_42 shX5_readClause_84
theorem dX5_readClause_85 : decode cX5_readClause 85 = .ok (.bipush 41, 2) := oc_16 shX5_readClause_85 sgb_41
theorem dX5_readClause_87 : decode cX5_readClause 87 = .ok (.invokevirtual 62, 3) := oc_182 shX5_readClause_87
theorem dX5_readClause_90 : decode cX5_readClause 90 = .ok (.aload_n 0, 1) := oc_42 shX5_readClause_90
theorem dX5_readClause_91 : decode cX5_readClause 91 = .ok (.getfield 20, 3) := oc_180 shX5_readClause_91
theorem dX5_readClause_94 : decode cX5_readClause 94 = .ok (.invokevirtual 69, 3) := oc_182 shX5_readClause_94
theorem dX5_readClause_97 : decode cX5_readClause 97 = .ok (.return_, 1) := oc_177 shX5_readClause_97
theorem dX5_readClause_61 : decode cX5_readClause 61 = .ok (.aload_n 0, 1) := oc_42 shX5_readClause_61
theorem dX5_readClause_62 : decode cX5_readClause 62 = .ok (.iconst 0, 1) := oc_3 shX5_readClause_62
theorem dX5_readClause_63 : decode cX5_readClause 63 = .ok (.invokevirtual 56, 3) := oc_182 shX5_readClause_63
theorem dX5_readClause_29 : decode cX5_readClause 29 = .ok (.aload_n 0, 1) := oc_42 shX5_readClause_29
theorem dX5_readClause_30 : decode cX5_readClause 30 = .ok (.iconst 4, 1) := oc_7 shX5_readClause_30
theorem dX5_readClause_31 : decode cX5_readClause 31 = .ok (.invokevirtual 47, 3) := oc_182 shX5_readClause_31
theorem dX5_readClause_34 : decode cX5_readClause 34 = .ok (.return_, 1) := oc_177 shX5_readClause_34
theorem dX5_readClause_11 : decode cX5_readClause 11 = .ok (.aload_n 0, 1) := oc_42 shX5_readClause_11
theorem dX5_readClause_12 : decode cX5_readClause 12 = .ok (.iconst 1, 1) := oc_4 shX5_readClause_12
theorem dX5_readClause_13 : decode cX5_readClause 13 = .ok (.invokevirtual 47, 3) := oc_182 shX5_readClause_13
theorem dX5_readClause_16 : decode cX5_readClause 16 = .ok (.return_, 1) := oc_177 shX5_readClause_16
noncomputable def sxX5_read_102 : List UInt8 := []
noncomputable def sxX5_read_101 : List UInt8 := 176 :: sxX5_read_102
noncomputable def sxX5_read_98 : List UInt8 := 180 :: 0 :: 20 :: sxX5_read_101
noncomputable def sxX5_read_97 : List UInt8 := 42 :: sxX5_read_98
noncomputable def sxX5_read_94 : List UInt8 := 182 :: 0 :: 47 :: sxX5_read_97
noncomputable def sxX5_read_93 : List UInt8 := 4 :: sxX5_read_94
noncomputable def sxX5_read_92 : List UInt8 := 42 :: sxX5_read_93
noncomputable def sxX5_read_89 : List UInt8 := 162 :: 0 :: 8 :: sxX5_read_92
noncomputable def sxX5_read_86 : List UInt8 := 180 :: 0 :: 34 :: sxX5_read_89
noncomputable def sxX5_read_85 : List UInt8 := 42 :: sxX5_read_86
noncomputable def sxX5_read_82 : List UInt8 := 180 :: 0 :: 31 :: sxX5_read_85
noncomputable def sxX5_read_81 : List UInt8 := 42 :: sxX5_read_82
noncomputable def sxX5_read_78 : List UInt8 := 167 :: 255 :: 222 :: sxX5_read_81
noncomputable def sxX5_read_75 : List UInt8 := 182 :: 0 :: 40 :: sxX5_read_78
noncomputable def sxX5_read_74 : List UInt8 := 42 :: sxX5_read_75
noncomputable def sxX5_read_71 : List UInt8 := 181 :: 0 :: 31 :: sxX5_read_74
noncomputable def sxX5_read_70 : List UInt8 := 96 :: sxX5_read_71
noncomputable def sxX5_read_69 : List UInt8 := 4 :: sxX5_read_70
noncomputable def sxX5_read_66 : List UInt8 := 180 :: 0 :: 31 :: sxX5_read_69
noncomputable def sxX5_read_65 : List UInt8 := 89 :: sxX5_read_66
noncomputable def sxX5_read_64 : List UInt8 := 42 :: sxX5_read_65
noncomputable def sxX5_read_61 : List UInt8 := 160 :: 0 :: 20 :: sxX5_read_64
noncomputable def sxX5_read_59 : List UInt8 := 16 :: 59 :: sxX5_read_61
noncomputable def sxX5_read_56 : List UInt8 := 182 :: 0 :: 43 :: sxX5_read_59
noncomputable def sxX5_read_55 : List UInt8 := 42 :: sxX5_read_56
noncomputable def sxX5_read_52 : List UInt8 := 162 :: 0 :: 29 :: sxX5_read_55
noncomputable def sxX5_read_49 : List UInt8 := 180 :: 0 :: 34 :: sxX5_read_52
noncomputable def sxX5_read_48 : List UInt8 := 42 :: sxX5_read_49
noncomputable def sxX5_read_45 : List UInt8 := 180 :: 0 :: 31 :: sxX5_read_48
noncomputable def sxX5_read_44 : List UInt8 := 42 :: sxX5_read_45
noncomputable def sxX5_read_41 : List UInt8 := 182 :: 0 :: 40 :: sxX5_read_44
noncomputable def sxX5_read_40 : List UInt8 := 42 :: sxX5_read_41
noncomputable def sxX5_read_37 : List UInt8 := 181 :: 0 :: 37 :: sxX5_read_40
noncomputable def sxX5_read_36 : List UInt8 := 3 :: sxX5_read_37
noncomputable def sxX5_read_35 : List UInt8 := 42 :: sxX5_read_36
noncomputable def sxX5_read_32 : List UInt8 := 181 :: 0 :: 34 :: sxX5_read_35
noncomputable def sxX5_read_31 : List UInt8 := 28 :: sxX5_read_32
noncomputable def sxX5_read_30 : List UInt8 := 42 :: sxX5_read_31
noncomputable def sxX5_read_27 : List UInt8 := 181 :: 0 :: 31 :: sxX5_read_30
noncomputable def sxX5_read_26 : List UInt8 := 3 :: sxX5_read_27
noncomputable def sxX5_read_25 : List UInt8 := 42 :: sxX5_read_26
noncomputable def sxX5_read_22 : List UInt8 := 181 :: 0 :: 27 :: sxX5_read_25
noncomputable def sxX5_read_21 : List UInt8 := 29 :: sxX5_read_22
noncomputable def sxX5_read_20 : List UInt8 := 42 :: sxX5_read_21
noncomputable def sxX5_read_17 : List UInt8 := 181 :: 0 :: 20 :: sxX5_read_20
noncomputable def sxX5_read_14 : List UInt8 := 183 :: 0 :: 17 :: sxX5_read_17
noncomputable def sxX5_read_13 : List UInt8 := 28 :: sxX5_read_14
noncomputable def sxX5_read_12 : List UInt8 := 89 :: sxX5_read_13
noncomputable def sxX5_read_9 : List UInt8 := 187 :: 0 :: 15 :: sxX5_read_12
noncomputable def sxX5_read_8 : List UInt8 := 42 :: sxX5_read_9
noncomputable def sxX5_read_5 : List UInt8 := 181 :: 0 :: 9 :: sxX5_read_8
noncomputable def sxX5_read_2 : List UInt8 := 180 :: 0 :: 24 :: sxX5_read_5
noncomputable def sxX5_read_1 : List UInt8 := 43 :: sxX5_read_2
noncomputable def sxX5_read_0 : List UInt8 := 42 :: sxX5_read_1
theorem shX5_read_0 : cX5_read.data.toList.drop 0 = sxX5_read_0 := rfl
theorem shX5_read_1 : cX5_read.data.toList.drop 1 = sxX5_read_1 := dSn 1 shX5_read_0
theorem shX5_read_2 : cX5_read.data.toList.drop 2 = sxX5_read_2 := dSn 1 shX5_read_1
theorem shX5_read_5 : cX5_read.data.toList.drop 5 = sxX5_read_5 := dSn 3 shX5_read_2
theorem shX5_read_8 : cX5_read.data.toList.drop 8 = sxX5_read_8 := dSn 3 shX5_read_5
theorem shX5_read_9 : cX5_read.data.toList.drop 9 = sxX5_read_9 := dSn 1 shX5_read_8
theorem shX5_read_12 : cX5_read.data.toList.drop 12 = sxX5_read_12 := dSn 3 shX5_read_9
theorem shX5_read_13 : cX5_read.data.toList.drop 13 = sxX5_read_13 := dSn 1 shX5_read_12
theorem shX5_read_14 : cX5_read.data.toList.drop 14 = sxX5_read_14 := dSn 1 shX5_read_13
theorem shX5_read_17 : cX5_read.data.toList.drop 17 = sxX5_read_17 := dSn 3 shX5_read_14
theorem shX5_read_20 : cX5_read.data.toList.drop 20 = sxX5_read_20 := dSn 3 shX5_read_17
theorem shX5_read_21 : cX5_read.data.toList.drop 21 = sxX5_read_21 := dSn 1 shX5_read_20
theorem shX5_read_22 : cX5_read.data.toList.drop 22 = sxX5_read_22 := dSn 1 shX5_read_21
theorem shX5_read_25 : cX5_read.data.toList.drop 25 = sxX5_read_25 := dSn 3 shX5_read_22
theorem shX5_read_26 : cX5_read.data.toList.drop 26 = sxX5_read_26 := dSn 1 shX5_read_25
theorem shX5_read_27 : cX5_read.data.toList.drop 27 = sxX5_read_27 := dSn 1 shX5_read_26
theorem shX5_read_30 : cX5_read.data.toList.drop 30 = sxX5_read_30 := dSn 3 shX5_read_27
theorem shX5_read_31 : cX5_read.data.toList.drop 31 = sxX5_read_31 := dSn 1 shX5_read_30
theorem shX5_read_32 : cX5_read.data.toList.drop 32 = sxX5_read_32 := dSn 1 shX5_read_31
theorem shX5_read_35 : cX5_read.data.toList.drop 35 = sxX5_read_35 := dSn 3 shX5_read_32
theorem shX5_read_36 : cX5_read.data.toList.drop 36 = sxX5_read_36 := dSn 1 shX5_read_35
theorem shX5_read_37 : cX5_read.data.toList.drop 37 = sxX5_read_37 := dSn 1 shX5_read_36
theorem shX5_read_40 : cX5_read.data.toList.drop 40 = sxX5_read_40 := dSn 3 shX5_read_37
theorem shX5_read_41 : cX5_read.data.toList.drop 41 = sxX5_read_41 := dSn 1 shX5_read_40
theorem shX5_read_44 : cX5_read.data.toList.drop 44 = sxX5_read_44 := dSn 3 shX5_read_41
theorem shX5_read_45 : cX5_read.data.toList.drop 45 = sxX5_read_45 := dSn 1 shX5_read_44
theorem shX5_read_48 : cX5_read.data.toList.drop 48 = sxX5_read_48 := dSn 3 shX5_read_45
theorem shX5_read_49 : cX5_read.data.toList.drop 49 = sxX5_read_49 := dSn 1 shX5_read_48
theorem shX5_read_52 : cX5_read.data.toList.drop 52 = sxX5_read_52 := dSn 3 shX5_read_49
theorem shX5_read_55 : cX5_read.data.toList.drop 55 = sxX5_read_55 := dSn 3 shX5_read_52
theorem shX5_read_56 : cX5_read.data.toList.drop 56 = sxX5_read_56 := dSn 1 shX5_read_55
theorem shX5_read_59 : cX5_read.data.toList.drop 59 = sxX5_read_59 := dSn 3 shX5_read_56
theorem shX5_read_61 : cX5_read.data.toList.drop 61 = sxX5_read_61 := dSn 2 shX5_read_59
theorem shX5_read_64 : cX5_read.data.toList.drop 64 = sxX5_read_64 := dSn 3 shX5_read_61
theorem shX5_read_65 : cX5_read.data.toList.drop 65 = sxX5_read_65 := dSn 1 shX5_read_64
theorem shX5_read_66 : cX5_read.data.toList.drop 66 = sxX5_read_66 := dSn 1 shX5_read_65
theorem shX5_read_69 : cX5_read.data.toList.drop 69 = sxX5_read_69 := dSn 3 shX5_read_66
theorem shX5_read_70 : cX5_read.data.toList.drop 70 = sxX5_read_70 := dSn 1 shX5_read_69
theorem shX5_read_71 : cX5_read.data.toList.drop 71 = sxX5_read_71 := dSn 1 shX5_read_70
theorem shX5_read_74 : cX5_read.data.toList.drop 74 = sxX5_read_74 := dSn 3 shX5_read_71
theorem shX5_read_75 : cX5_read.data.toList.drop 75 = sxX5_read_75 := dSn 1 shX5_read_74
theorem shX5_read_78 : cX5_read.data.toList.drop 78 = sxX5_read_78 := dSn 3 shX5_read_75
theorem shX5_read_81 : cX5_read.data.toList.drop 81 = sxX5_read_81 := dSn 3 shX5_read_78
theorem shX5_read_82 : cX5_read.data.toList.drop 82 = sxX5_read_82 := dSn 1 shX5_read_81
theorem shX5_read_85 : cX5_read.data.toList.drop 85 = sxX5_read_85 := dSn 3 shX5_read_82
theorem shX5_read_86 : cX5_read.data.toList.drop 86 = sxX5_read_86 := dSn 1 shX5_read_85
theorem shX5_read_89 : cX5_read.data.toList.drop 89 = sxX5_read_89 := dSn 3 shX5_read_86
theorem shX5_read_92 : cX5_read.data.toList.drop 92 = sxX5_read_92 := dSn 3 shX5_read_89
theorem shX5_read_93 : cX5_read.data.toList.drop 93 = sxX5_read_93 := dSn 1 shX5_read_92
theorem shX5_read_94 : cX5_read.data.toList.drop 94 = sxX5_read_94 := dSn 1 shX5_read_93
theorem shX5_read_97 : cX5_read.data.toList.drop 97 = sxX5_read_97 := dSn 3 shX5_read_94
theorem shX5_read_98 : cX5_read.data.toList.drop 98 = sxX5_read_98 := dSn 1 shX5_read_97
theorem shX5_read_101 : cX5_read.data.toList.drop 101 = sxX5_read_101 := dSn 3 shX5_read_98
theorem dX5_read_0 : decode cX5_read 0 = .ok (.aload_n 0, 1) := oc_42 shX5_read_0
theorem dX5_read_1 : decode cX5_read 1 = .ok (.aload_n 1, 1) := oc_43 shX5_read_1
theorem dX5_read_2 : decode cX5_read 2 = .ok (.getfield 24, 3) := oc_180 shX5_read_2
theorem dX5_read_5 : decode cX5_read 5 = .ok (.putfield 9, 3) := oc_181 shX5_read_5
theorem dX5_read_8 : decode cX5_read 8 = .ok (.aload_n 0, 1) := oc_42 shX5_read_8
theorem dX5_read_9 : decode cX5_read 9 = .ok (.new 15, 3) := oc_187 shX5_read_9
theorem dX5_read_12 : decode cX5_read 12 = .ok (.dup, 1) := oc_89 shX5_read_12
theorem dX5_read_13 : decode cX5_read 13 = .ok (.iload_n 2, 1) := oc_28 shX5_read_13
theorem dX5_read_14 : decode cX5_read 14 = .ok (.invokespecial 17, 3) := oc_183 shX5_read_14
theorem dX5_read_17 : decode cX5_read 17 = .ok (.putfield 20, 3) := oc_181 shX5_read_17
theorem dX5_read_20 : decode cX5_read 20 = .ok (.aload_n 0, 1) := oc_42 shX5_read_20
theorem dX5_read_21 : decode cX5_read 21 = .ok (.iload_n 3, 1) := oc_29 shX5_read_21
theorem dX5_read_22 : decode cX5_read 22 = .ok (.putfield 27, 3) := oc_181 shX5_read_22
theorem dX5_read_25 : decode cX5_read 25 = .ok (.aload_n 0, 1) := oc_42 shX5_read_25
theorem dX5_read_26 : decode cX5_read 26 = .ok (.iconst 0, 1) := oc_3 shX5_read_26
theorem dX5_read_27 : decode cX5_read 27 = .ok (.putfield 31, 3) := oc_181 shX5_read_27
theorem dX5_read_30 : decode cX5_read 30 = .ok (.aload_n 0, 1) := oc_42 shX5_read_30
theorem dX5_read_31 : decode cX5_read 31 = .ok (.iload_n 2, 1) := oc_28 shX5_read_31
theorem dX5_read_32 : decode cX5_read 32 = .ok (.putfield 34, 3) := oc_181 shX5_read_32
theorem dX5_read_35 : decode cX5_read 35 = .ok (.aload_n 0, 1) := oc_42 shX5_read_35
theorem dX5_read_36 : decode cX5_read 36 = .ok (.iconst 0, 1) := oc_3 shX5_read_36
theorem dX5_read_37 : decode cX5_read 37 = .ok (.putfield 37, 3) := oc_181 shX5_read_37
theorem dX5_read_40 : decode cX5_read 40 = .ok (.aload_n 0, 1) := oc_42 shX5_read_40
theorem dX5_read_41 : decode cX5_read 41 = .ok (.invokevirtual 40, 3) := oc_182 shX5_read_41
theorem dX5_read_44 : decode cX5_read 44 = .ok (.aload_n 0, 1) := oc_42 shX5_read_44
theorem dX5_read_45 : decode cX5_read 45 = .ok (.getfield 31, 3) := oc_180 shX5_read_45
theorem dX5_read_48 : decode cX5_read 48 = .ok (.aload_n 0, 1) := oc_42 shX5_read_48
theorem dX5_read_49 : decode cX5_read 49 = .ok (.getfield 34, 3) := oc_180 shX5_read_49
theorem dX5_read_52 : decode cX5_read 52 = .ok (.if_icmp .ge 29, 3) := oc_162 shX5_read_52 sgw_0_29
theorem dX5_read_81 : decode cX5_read 81 = .ok (.aload_n 0, 1) := oc_42 shX5_read_81
theorem dX5_read_82 : decode cX5_read 82 = .ok (.getfield 31, 3) := oc_180 shX5_read_82
theorem dX5_read_85 : decode cX5_read 85 = .ok (.aload_n 0, 1) := oc_42 shX5_read_85
theorem dX5_read_86 : decode cX5_read 86 = .ok (.getfield 34, 3) := oc_180 shX5_read_86
theorem dX5_read_89 : decode cX5_read 89 = .ok (.if_icmp .ge 8, 3) := oc_162 shX5_read_89 sgw_0_8
theorem dX5_read_97 : decode cX5_read 97 = .ok (.aload_n 0, 1) := oc_42 shX5_read_97
theorem dX5_read_98 : decode cX5_read 98 = .ok (.getfield 20, 3) := oc_180 shX5_read_98
theorem dX5_read_101 : decode cX5_read 101 = .ok (.areturn, 1) := oc_176 shX5_read_101
theorem dX5_read_92 : decode cX5_read 92 = .ok (.aload_n 0, 1) := oc_42 shX5_read_92
theorem dX5_read_93 : decode cX5_read 93 = .ok (.iconst 1, 1) := oc_4 shX5_read_93
theorem dX5_read_94 : decode cX5_read 94 = .ok (.invokevirtual 47, 3) := oc_182 shX5_read_94
theorem dX5_read_55 : decode cX5_read 55 = .ok (.aload_n 0, 1) := oc_42 shX5_read_55
theorem dX5_read_56 : decode cX5_read 56 = .ok (.invokevirtual 43, 3) := oc_182 shX5_read_56
theorem dX5_read_59 : decode cX5_read 59 = .ok (.bipush 59, 2) := oc_16 shX5_read_59 sgb_59
theorem dX5_read_61 : decode cX5_read 61 = .ok (.if_icmp .ne 20, 3) := oc_160 shX5_read_61 sgw_0_20
theorem dX5_read_64 : decode cX5_read 64 = .ok (.aload_n 0, 1) := oc_42 shX5_read_64
theorem dX5_read_65 : decode cX5_read 65 = .ok (.dup, 1) := oc_89 shX5_read_65
theorem dX5_read_66 : decode cX5_read 66 = .ok (.getfield 31, 3) := oc_180 shX5_read_66
theorem dX5_read_69 : decode cX5_read 69 = .ok (.iconst 1, 1) := oc_4 shX5_read_69
theorem dX5_read_70 : decode cX5_read 70 = .ok (.iadd, 1) := oc_96 shX5_read_70
theorem dX5_read_71 : decode cX5_read 71 = .ok (.putfield 31, 3) := oc_181 shX5_read_71
theorem dX5_read_74 : decode cX5_read 74 = .ok (.aload_n 0, 1) := oc_42 shX5_read_74
theorem dX5_read_75 : decode cX5_read 75 = .ok (.invokevirtual 40, 3) := oc_182 shX5_read_75
theorem dX5_read_78 : decode cX5_read 78 = .ok (.goto (-34), 3) := oc_167 shX5_read_78 sgw_255_222
noncomputable def sxX11_contract_74 : List UInt8 := []
noncomputable def sxX11_contract_73 : List UInt8 := 172 :: sxX11_contract_74
noncomputable def sxX11_contract_70 : List UInt8 := 180 :: 0 :: 171 :: sxX11_contract_73
noncomputable def sxX11_contract_68 : List UInt8 := 25 :: 4 :: sxX11_contract_70
noncomputable def sxX11_contract_65 : List UInt8 := 181 :: 0 :: 168 :: sxX11_contract_68
noncomputable def sxX11_contract_63 : List UInt8 := 25 :: 4 :: sxX11_contract_65
noncomputable def sxX11_contract_62 : List UInt8 := 45 :: sxX11_contract_63
noncomputable def sxX11_contract_61 : List UInt8 := 172 :: sxX11_contract_62
noncomputable def sxX11_contract_60 : List UInt8 := 116 :: sxX11_contract_61
noncomputable def sxX11_contract_57 : List UInt8 := 180 :: 0 :: 165 :: sxX11_contract_60
noncomputable def sxX11_contract_54 : List UInt8 := 180 :: 0 :: 28 :: sxX11_contract_57
noncomputable def sxX11_contract_53 : List UInt8 := 42 :: sxX11_contract_54
noncomputable def sxX11_contract_50 : List UInt8 := 153 :: 0 :: 12 :: sxX11_contract_53
noncomputable def sxX11_contract_47 : List UInt8 := 180 :: 0 :: 165 :: sxX11_contract_50
noncomputable def sxX11_contract_44 : List UInt8 := 180 :: 0 :: 28 :: sxX11_contract_47
noncomputable def sxX11_contract_43 : List UInt8 := 42 :: sxX11_contract_44
noncomputable def sxX11_contract_40 : List UInt8 := 182 :: 0 :: 162 :: sxX11_contract_43
noncomputable def sxX11_contract_37 : List UInt8 := 180 :: 0 :: 21 :: sxX11_contract_40
noncomputable def sxX11_contract_36 : List UInt8 := 42 :: sxX11_contract_37
noncomputable def sxX11_contract_34 : List UInt8 := 58 :: 4 :: sxX11_contract_36
noncomputable def sxX11_contract_31 : List UInt8 := 182 :: 0 :: 158 :: sxX11_contract_34
noncomputable def sxX11_contract_29 : List UInt8 := 16 :: 112 :: sxX11_contract_31
noncomputable def sxX11_contract_28 : List UInt8 := 28 :: sxX11_contract_29
noncomputable def sxX11_contract_25 : List UInt8 := 180 :: 0 :: 21 :: sxX11_contract_28
noncomputable def sxX11_contract_24 : List UInt8 := 42 :: sxX11_contract_25
noncomputable def sxX11_contract_21 : List UInt8 := 180 :: 0 :: 28 :: sxX11_contract_24
noncomputable def sxX11_contract_20 : List UInt8 := 42 :: sxX11_contract_21
noncomputable def sxX11_contract_19 : List UInt8 := 172 :: sxX11_contract_20
noncomputable def sxX11_contract_18 : List UInt8 := 2 :: sxX11_contract_19
noncomputable def sxX11_contract_15 : List UInt8 := 154 :: 0 :: 5 :: sxX11_contract_18
noncomputable def sxX11_contract_12 : List UInt8 := 182 :: 0 :: 155 :: sxX11_contract_15
noncomputable def sxX11_contract_11 : List UInt8 := 28 :: sxX11_contract_12
noncomputable def sxX11_contract_10 : List UInt8 := 42 :: sxX11_contract_11
noncomputable def sxX11_contract_7 : List UInt8 := 198 :: 0 :: 11 :: sxX11_contract_10
noncomputable def sxX11_contract_6 : List UInt8 := 45 :: sxX11_contract_7
noncomputable def sxX11_contract_5 : List UInt8 := 78 :: sxX11_contract_6
noncomputable def sxX11_contract_2 : List UInt8 := 182 :: 0 :: 114 :: sxX11_contract_5
noncomputable def sxX11_contract_1 : List UInt8 := 27 :: sxX11_contract_2
noncomputable def sxX11_contract_0 : List UInt8 := 42 :: sxX11_contract_1
theorem shX11_contract_0 : cX11_contract.data.toList.drop 0 = sxX11_contract_0 := rfl
theorem shX11_contract_1 : cX11_contract.data.toList.drop 1 = sxX11_contract_1 := dSn 1 shX11_contract_0
theorem shX11_contract_2 : cX11_contract.data.toList.drop 2 = sxX11_contract_2 := dSn 1 shX11_contract_1
theorem shX11_contract_5 : cX11_contract.data.toList.drop 5 = sxX11_contract_5 := dSn 3 shX11_contract_2
theorem shX11_contract_6 : cX11_contract.data.toList.drop 6 = sxX11_contract_6 := dSn 1 shX11_contract_5
theorem shX11_contract_7 : cX11_contract.data.toList.drop 7 = sxX11_contract_7 := dSn 1 shX11_contract_6
theorem shX11_contract_10 : cX11_contract.data.toList.drop 10 = sxX11_contract_10 := dSn 3 shX11_contract_7
theorem shX11_contract_11 : cX11_contract.data.toList.drop 11 = sxX11_contract_11 := dSn 1 shX11_contract_10
theorem shX11_contract_12 : cX11_contract.data.toList.drop 12 = sxX11_contract_12 := dSn 1 shX11_contract_11
theorem shX11_contract_15 : cX11_contract.data.toList.drop 15 = sxX11_contract_15 := dSn 3 shX11_contract_12
theorem shX11_contract_18 : cX11_contract.data.toList.drop 18 = sxX11_contract_18 := dSn 3 shX11_contract_15
theorem shX11_contract_19 : cX11_contract.data.toList.drop 19 = sxX11_contract_19 := dSn 1 shX11_contract_18
theorem shX11_contract_20 : cX11_contract.data.toList.drop 20 = sxX11_contract_20 := dSn 1 shX11_contract_19
theorem shX11_contract_21 : cX11_contract.data.toList.drop 21 = sxX11_contract_21 := dSn 1 shX11_contract_20
theorem shX11_contract_24 : cX11_contract.data.toList.drop 24 = sxX11_contract_24 := dSn 3 shX11_contract_21
theorem shX11_contract_25 : cX11_contract.data.toList.drop 25 = sxX11_contract_25 := dSn 1 shX11_contract_24
theorem shX11_contract_28 : cX11_contract.data.toList.drop 28 = sxX11_contract_28 := dSn 3 shX11_contract_25
theorem shX11_contract_29 : cX11_contract.data.toList.drop 29 = sxX11_contract_29 := dSn 1 shX11_contract_28
theorem shX11_contract_31 : cX11_contract.data.toList.drop 31 = sxX11_contract_31 := dSn 2 shX11_contract_29
theorem shX11_contract_34 : cX11_contract.data.toList.drop 34 = sxX11_contract_34 := dSn 3 shX11_contract_31
theorem shX11_contract_36 : cX11_contract.data.toList.drop 36 = sxX11_contract_36 := dSn 2 shX11_contract_34
theorem shX11_contract_37 : cX11_contract.data.toList.drop 37 = sxX11_contract_37 := dSn 1 shX11_contract_36
theorem shX11_contract_40 : cX11_contract.data.toList.drop 40 = sxX11_contract_40 := dSn 3 shX11_contract_37
theorem shX11_contract_43 : cX11_contract.data.toList.drop 43 = sxX11_contract_43 := dSn 3 shX11_contract_40
theorem shX11_contract_44 : cX11_contract.data.toList.drop 44 = sxX11_contract_44 := dSn 1 shX11_contract_43
theorem shX11_contract_47 : cX11_contract.data.toList.drop 47 = sxX11_contract_47 := dSn 3 shX11_contract_44
theorem shX11_contract_50 : cX11_contract.data.toList.drop 50 = sxX11_contract_50 := dSn 3 shX11_contract_47
theorem shX11_contract_53 : cX11_contract.data.toList.drop 53 = sxX11_contract_53 := dSn 3 shX11_contract_50
theorem shX11_contract_54 : cX11_contract.data.toList.drop 54 = sxX11_contract_54 := dSn 1 shX11_contract_53
theorem shX11_contract_57 : cX11_contract.data.toList.drop 57 = sxX11_contract_57 := dSn 3 shX11_contract_54
theorem shX11_contract_60 : cX11_contract.data.toList.drop 60 = sxX11_contract_60 := dSn 3 shX11_contract_57
theorem shX11_contract_61 : cX11_contract.data.toList.drop 61 = sxX11_contract_61 := dSn 1 shX11_contract_60
theorem shX11_contract_62 : cX11_contract.data.toList.drop 62 = sxX11_contract_62 := dSn 1 shX11_contract_61
theorem shX11_contract_63 : cX11_contract.data.toList.drop 63 = sxX11_contract_63 := dSn 1 shX11_contract_62
theorem shX11_contract_65 : cX11_contract.data.toList.drop 65 = sxX11_contract_65 := dSn 2 shX11_contract_63
theorem shX11_contract_68 : cX11_contract.data.toList.drop 68 = sxX11_contract_68 := dSn 3 shX11_contract_65
theorem shX11_contract_70 : cX11_contract.data.toList.drop 70 = sxX11_contract_70 := dSn 2 shX11_contract_68
theorem shX11_contract_73 : cX11_contract.data.toList.drop 73 = sxX11_contract_73 := dSn 3 shX11_contract_70
theorem dX11_contract_0 : decode cX11_contract 0 = .ok (.aload_n 0, 1) := oc_42 shX11_contract_0
theorem dX11_contract_1 : decode cX11_contract 1 = .ok (.iload_n 1, 1) := oc_27 shX11_contract_1
theorem dX11_contract_2 : decode cX11_contract 2 = .ok (.invokevirtual 114, 3) := oc_182 shX11_contract_2
theorem dX11_contract_5 : decode cX11_contract 5 = .ok (.astore_n 3, 1) := oc_78 shX11_contract_5
theorem dX11_contract_6 : decode cX11_contract 6 = .ok (.aload_n 3, 1) := oc_45 shX11_contract_6
theorem dX11_contract_7 : decode cX11_contract 7 = .ok (.ifnull 11, 3) := oc_198 shX11_contract_7 sgw_0_11
theorem dX11_contract_10 : decode cX11_contract 10 = .ok (.aload_n 0, 1) := oc_42 shX11_contract_10
theorem dX11_contract_11 : decode cX11_contract 11 = .ok (.iload_n 2, 1) := oc_28 shX11_contract_11
theorem dX11_contract_12 : decode cX11_contract 12 = .ok (.invokevirtual 155, 3) := oc_182 shX11_contract_12
theorem dX11_contract_15 : decode cX11_contract 15 = .ok (.ifCond .ne 5, 3) := oc_154 shX11_contract_15 sgw_0_5
theorem dX11_contract_20 : decode cX11_contract 20 = .ok (.aload_n 0, 1) := oc_42 shX11_contract_20
theorem dX11_contract_21 : decode cX11_contract 21 = .ok (.getfield 28, 3) := oc_180 shX11_contract_21
theorem dX11_contract_24 : decode cX11_contract 24 = .ok (.aload_n 0, 1) := oc_42 shX11_contract_24
theorem dX11_contract_25 : decode cX11_contract 25 = .ok (.getfield 21, 3) := oc_180 shX11_contract_25
theorem dX11_contract_28 : decode cX11_contract 28 = .ok (.iload_n 2, 1) := oc_28 shX11_contract_28
theorem dX11_contract_29 : decode cX11_contract 29 = .ok (.bipush 112, 2) := oc_16 shX11_contract_29 sgb_112
theorem dX11_contract_31 : decode cX11_contract 31 = .ok (.invokevirtual 158, 3) := oc_182 shX11_contract_31
theorem dX11_contract_34 : decode cX11_contract 34 = .ok (.astore 4, 2) := oc_58 shX11_contract_34
theorem dX11_contract_36 : decode cX11_contract 36 = .ok (.aload_n 0, 1) := oc_42 shX11_contract_36
theorem dX11_contract_37 : decode cX11_contract 37 = .ok (.getfield 21, 3) := oc_180 shX11_contract_37
theorem dX11_contract_40 : decode cX11_contract 40 = .ok (.invokevirtual 162, 3) := oc_182 shX11_contract_40
theorem dX11_contract_43 : decode cX11_contract 43 = .ok (.aload_n 0, 1) := oc_42 shX11_contract_43
theorem dX11_contract_44 : decode cX11_contract 44 = .ok (.getfield 28, 3) := oc_180 shX11_contract_44
theorem dX11_contract_47 : decode cX11_contract 47 = .ok (.getfield 165, 3) := oc_180 shX11_contract_47
theorem dX11_contract_50 : decode cX11_contract 50 = .ok (.ifCond .eq 12, 3) := oc_153 shX11_contract_50 sgw_0_12
theorem dX11_contract_62 : decode cX11_contract 62 = .ok (.aload_n 3, 1) := oc_45 shX11_contract_62
theorem dX11_contract_63 : decode cX11_contract 63 = .ok (.aload 4, 2) := oc_25 shX11_contract_63
theorem dX11_contract_65 : decode cX11_contract 65 = .ok (.putfield 168, 3) := oc_181 shX11_contract_65
theorem dX11_contract_68 : decode cX11_contract 68 = .ok (.aload 4, 2) := oc_25 shX11_contract_68
theorem dX11_contract_70 : decode cX11_contract 70 = .ok (.getfield 171, 3) := oc_180 shX11_contract_70
theorem dX11_contract_73 : decode cX11_contract 73 = .ok (.ireturn, 1) := oc_172 shX11_contract_73
theorem dX11_contract_53 : decode cX11_contract 53 = .ok (.aload_n 0, 1) := oc_42 shX11_contract_53
theorem dX11_contract_54 : decode cX11_contract 54 = .ok (.getfield 28, 3) := oc_180 shX11_contract_54
theorem dX11_contract_57 : decode cX11_contract 57 = .ok (.getfield 165, 3) := oc_180 shX11_contract_57
theorem dX11_contract_60 : decode cX11_contract 60 = .ok (.ineg, 1) := oc_116 shX11_contract_60
theorem dX11_contract_61 : decode cX11_contract 61 = .ok (.ireturn, 1) := oc_172 shX11_contract_61
theorem dX11_contract_18 : decode cX11_contract 18 = .ok (.iconst (-1), 1) := oc_2 shX11_contract_18
theorem dX11_contract_19 : decode cX11_contract 19 = .ok (.ireturn, 1) := oc_172 shX11_contract_19
noncomputable def sxX11_law_61 : List UInt8 := []
noncomputable def sxX11_law_60 : List UInt8 := 172 :: sxX11_law_61
noncomputable def sxX11_law_57 : List UInt8 := 180 :: 0 :: 171 :: sxX11_law_60
noncomputable def sxX11_law_56 : List UInt8 := 44 :: sxX11_law_57
noncomputable def sxX11_law_53 : List UInt8 := 181 :: 0 :: 12 :: sxX11_law_56
noncomputable def sxX11_law_52 : List UInt8 := 44 :: sxX11_law_53
noncomputable def sxX11_law_51 : List UInt8 := 42 :: sxX11_law_52
noncomputable def sxX11_law_50 : List UInt8 := 172 :: sxX11_law_51
noncomputable def sxX11_law_49 : List UInt8 := 116 :: sxX11_law_50
noncomputable def sxX11_law_46 : List UInt8 := 180 :: 0 :: 165 :: sxX11_law_49
noncomputable def sxX11_law_43 : List UInt8 := 180 :: 0 :: 28 :: sxX11_law_46
noncomputable def sxX11_law_42 : List UInt8 := 42 :: sxX11_law_43
noncomputable def sxX11_law_39 : List UInt8 := 153 :: 0 :: 12 :: sxX11_law_42
noncomputable def sxX11_law_36 : List UInt8 := 180 :: 0 :: 165 :: sxX11_law_39
noncomputable def sxX11_law_33 : List UInt8 := 180 :: 0 :: 28 :: sxX11_law_36
noncomputable def sxX11_law_32 : List UInt8 := 42 :: sxX11_law_33
noncomputable def sxX11_law_29 : List UInt8 := 182 :: 0 :: 162 :: sxX11_law_32
noncomputable def sxX11_law_26 : List UInt8 := 180 :: 0 :: 21 :: sxX11_law_29
noncomputable def sxX11_law_25 : List UInt8 := 42 :: sxX11_law_26
noncomputable def sxX11_law_24 : List UInt8 := 77 :: sxX11_law_25
noncomputable def sxX11_law_21 : List UInt8 := 182 :: 0 :: 158 :: sxX11_law_24
noncomputable def sxX11_law_19 : List UInt8 := 16 :: 108 :: sxX11_law_21
noncomputable def sxX11_law_18 : List UInt8 := 27 :: sxX11_law_19
noncomputable def sxX11_law_15 : List UInt8 := 180 :: 0 :: 21 :: sxX11_law_18
noncomputable def sxX11_law_14 : List UInt8 := 42 :: sxX11_law_15
noncomputable def sxX11_law_11 : List UInt8 := 180 :: 0 :: 28 :: sxX11_law_14
noncomputable def sxX11_law_10 : List UInt8 := 42 :: sxX11_law_11
noncomputable def sxX11_law_9 : List UInt8 := 172 :: sxX11_law_10
noncomputable def sxX11_law_8 : List UInt8 := 2 :: sxX11_law_9
noncomputable def sxX11_law_5 : List UInt8 := 154 :: 0 :: 5 :: sxX11_law_8
noncomputable def sxX11_law_2 : List UInt8 := 182 :: 0 :: 155 :: sxX11_law_5
noncomputable def sxX11_law_1 : List UInt8 := 27 :: sxX11_law_2
noncomputable def sxX11_law_0 : List UInt8 := 42 :: sxX11_law_1
theorem shX11_law_0 : cX11_law.data.toList.drop 0 = sxX11_law_0 := rfl
theorem shX11_law_1 : cX11_law.data.toList.drop 1 = sxX11_law_1 := dSn 1 shX11_law_0
theorem shX11_law_2 : cX11_law.data.toList.drop 2 = sxX11_law_2 := dSn 1 shX11_law_1
theorem shX11_law_5 : cX11_law.data.toList.drop 5 = sxX11_law_5 := dSn 3 shX11_law_2
theorem shX11_law_8 : cX11_law.data.toList.drop 8 = sxX11_law_8 := dSn 3 shX11_law_5
theorem shX11_law_9 : cX11_law.data.toList.drop 9 = sxX11_law_9 := dSn 1 shX11_law_8
theorem shX11_law_10 : cX11_law.data.toList.drop 10 = sxX11_law_10 := dSn 1 shX11_law_9
theorem shX11_law_11 : cX11_law.data.toList.drop 11 = sxX11_law_11 := dSn 1 shX11_law_10
theorem shX11_law_14 : cX11_law.data.toList.drop 14 = sxX11_law_14 := dSn 3 shX11_law_11
theorem shX11_law_15 : cX11_law.data.toList.drop 15 = sxX11_law_15 := dSn 1 shX11_law_14
theorem shX11_law_18 : cX11_law.data.toList.drop 18 = sxX11_law_18 := dSn 3 shX11_law_15
theorem shX11_law_19 : cX11_law.data.toList.drop 19 = sxX11_law_19 := dSn 1 shX11_law_18
theorem shX11_law_21 : cX11_law.data.toList.drop 21 = sxX11_law_21 := dSn 2 shX11_law_19
theorem shX11_law_24 : cX11_law.data.toList.drop 24 = sxX11_law_24 := dSn 3 shX11_law_21
theorem shX11_law_25 : cX11_law.data.toList.drop 25 = sxX11_law_25 := dSn 1 shX11_law_24
theorem shX11_law_26 : cX11_law.data.toList.drop 26 = sxX11_law_26 := dSn 1 shX11_law_25
theorem shX11_law_29 : cX11_law.data.toList.drop 29 = sxX11_law_29 := dSn 3 shX11_law_26
theorem shX11_law_32 : cX11_law.data.toList.drop 32 = sxX11_law_32 := dSn 3 shX11_law_29
theorem shX11_law_33 : cX11_law.data.toList.drop 33 = sxX11_law_33 := dSn 1 shX11_law_32
theorem shX11_law_36 : cX11_law.data.toList.drop 36 = sxX11_law_36 := dSn 3 shX11_law_33
theorem shX11_law_39 : cX11_law.data.toList.drop 39 = sxX11_law_39 := dSn 3 shX11_law_36
theorem shX11_law_42 : cX11_law.data.toList.drop 42 = sxX11_law_42 := dSn 3 shX11_law_39
theorem shX11_law_43 : cX11_law.data.toList.drop 43 = sxX11_law_43 := dSn 1 shX11_law_42
theorem shX11_law_46 : cX11_law.data.toList.drop 46 = sxX11_law_46 := dSn 3 shX11_law_43
theorem shX11_law_49 : cX11_law.data.toList.drop 49 = sxX11_law_49 := dSn 3 shX11_law_46
theorem shX11_law_50 : cX11_law.data.toList.drop 50 = sxX11_law_50 := dSn 1 shX11_law_49
theorem shX11_law_51 : cX11_law.data.toList.drop 51 = sxX11_law_51 := dSn 1 shX11_law_50
theorem shX11_law_52 : cX11_law.data.toList.drop 52 = sxX11_law_52 := dSn 1 shX11_law_51
theorem shX11_law_53 : cX11_law.data.toList.drop 53 = sxX11_law_53 := dSn 1 shX11_law_52
theorem shX11_law_56 : cX11_law.data.toList.drop 56 = sxX11_law_56 := dSn 3 shX11_law_53
theorem shX11_law_57 : cX11_law.data.toList.drop 57 = sxX11_law_57 := dSn 1 shX11_law_56
theorem shX11_law_60 : cX11_law.data.toList.drop 60 = sxX11_law_60 := dSn 3 shX11_law_57
theorem dX11_law_0 : decode cX11_law 0 = .ok (.aload_n 0, 1) := oc_42 shX11_law_0
theorem dX11_law_1 : decode cX11_law 1 = .ok (.iload_n 1, 1) := oc_27 shX11_law_1
theorem dX11_law_2 : decode cX11_law 2 = .ok (.invokevirtual 155, 3) := oc_182 shX11_law_2
theorem dX11_law_5 : decode cX11_law 5 = .ok (.ifCond .ne 5, 3) := oc_154 shX11_law_5 sgw_0_5
theorem dX11_law_10 : decode cX11_law 10 = .ok (.aload_n 0, 1) := oc_42 shX11_law_10
theorem dX11_law_11 : decode cX11_law 11 = .ok (.getfield 28, 3) := oc_180 shX11_law_11
theorem dX11_law_14 : decode cX11_law 14 = .ok (.aload_n 0, 1) := oc_42 shX11_law_14
theorem dX11_law_15 : decode cX11_law 15 = .ok (.getfield 21, 3) := oc_180 shX11_law_15
theorem dX11_law_18 : decode cX11_law 18 = .ok (.iload_n 1, 1) := oc_27 shX11_law_18
theorem dX11_law_19 : decode cX11_law 19 = .ok (.bipush 108, 2) := oc_16 shX11_law_19 sgb_108
theorem dX11_law_21 : decode cX11_law 21 = .ok (.invokevirtual 158, 3) := oc_182 shX11_law_21
theorem dX11_law_24 : decode cX11_law 24 = .ok (.astore_n 2, 1) := oc_77 shX11_law_24
theorem dX11_law_25 : decode cX11_law 25 = .ok (.aload_n 0, 1) := oc_42 shX11_law_25
theorem dX11_law_26 : decode cX11_law 26 = .ok (.getfield 21, 3) := oc_180 shX11_law_26
theorem dX11_law_29 : decode cX11_law 29 = .ok (.invokevirtual 162, 3) := oc_182 shX11_law_29
theorem dX11_law_32 : decode cX11_law 32 = .ok (.aload_n 0, 1) := oc_42 shX11_law_32
theorem dX11_law_33 : decode cX11_law 33 = .ok (.getfield 28, 3) := oc_180 shX11_law_33
theorem dX11_law_36 : decode cX11_law 36 = .ok (.getfield 165, 3) := oc_180 shX11_law_36
theorem dX11_law_39 : decode cX11_law 39 = .ok (.ifCond .eq 12, 3) := oc_153 shX11_law_39 sgw_0_12
theorem dX11_law_51 : decode cX11_law 51 = .ok (.aload_n 0, 1) := oc_42 shX11_law_51
theorem dX11_law_52 : decode cX11_law 52 = .ok (.aload_n 2, 1) := oc_44 shX11_law_52
theorem dX11_law_53 : decode cX11_law 53 = .ok (.putfield 12, 3) := oc_181 shX11_law_53
theorem dX11_law_56 : decode cX11_law 56 = .ok (.aload_n 2, 1) := oc_44 shX11_law_56
theorem dX11_law_57 : decode cX11_law 57 = .ok (.getfield 171, 3) := oc_180 shX11_law_57
theorem dX11_law_60 : decode cX11_law 60 = .ok (.ireturn, 1) := oc_172 shX11_law_60
theorem dX11_law_42 : decode cX11_law 42 = .ok (.aload_n 0, 1) := oc_42 shX11_law_42
theorem dX11_law_43 : decode cX11_law 43 = .ok (.getfield 28, 3) := oc_180 shX11_law_43
theorem dX11_law_46 : decode cX11_law 46 = .ok (.getfield 165, 3) := oc_180 shX11_law_46
theorem dX11_law_49 : decode cX11_law 49 = .ok (.ineg, 1) := oc_116 shX11_law_49
theorem dX11_law_50 : decode cX11_law 50 = .ok (.ireturn, 1) := oc_172 shX11_law_50
theorem dX11_law_8 : decode cX11_law 8 = .ok (.iconst (-1), 1) := oc_2 shX11_law_8
theorem dX11_law_9 : decode cX11_law 9 = .ok (.ireturn, 1) := oc_172 shX11_law_9
set_option maxRecDepth 100000 in
set_option maxHeartbeats 4000000 in
theorem q_l_TextN (l : Launch) (D : va_G) (cI cB cZ : ClassId) (x : Nat) (n0 : Nat) (sz : Nat) (hn : n0 ≤ 160) : Met l yX9_init (CWS yX9_init cX9_init 2 none) (RM 1 5 228) (PBw [.ref x, .int (nI n0)] D cI cB cZ [(x, .inr (10, [.null, .null, .null, .null, .null, .int 0, .int 0, .int 0, .int 0]))] sz) (va_Qv (fun (_ : Nat → Nat) => True) (fun (u : Nat → Nat) (t : State) => va_P D vwCl [(x, .inr (10, [.ref (u 0), .ref (u 1), .ref (u 2), .ref (u 3), .ref (u 4), .int 0, .int 0, .int 0, .int 0])), ((u 0), .inl (cI, n0, .inl (fun _ => 0))), ((u 1), .inl (cI, 12, .inl (fun _ => 0))), ((u 2), .inl (cI, 12, .inl (fun _ => 0))), ((u 3), .inl (cI, 12, .inl (fun _ => 0))), ((u 4), .inl (cI, 32, .inl (fun _ => 0)))] t.heap ∧ va_D (va_A [(x, .inr (10, [.null, .null, .null, .null, .null, .int 0, .int 0, .int 0, .int 0]))] sz) [(x, .inr (10, [.ref (u 0), .ref (u 1), .ref (u 2), .ref (u 3), .ref (u 4), .int 0, .int 0, .int 0, .int 0])), ((u 0), .inl (cI, n0, .inl (fun _ => 0))), ((u 1), .inl (cI, 12, .inl (fun _ => 0))), ((u 2), .inl (cI, 12, .inl (fun _ => 0))), ((u 3), .inl (cI, 12, .inl (fun _ => 0))), ((u 4), .inl (cI, 32, .inl (fun _ => 0)))]) (va_A [(x, .inr (10, [.null, .null, .null, .null, .null, .int 0, .int 0, .int 0, .int 0]))] sz)) 5 228 (va_A [(x, .inr (10, [.null, .null, .null, .null, .null, .int 0, .int 0, .int 0, .int 0]))] sz) := by
  refine en_w (fun A => (va_Qv (fun (_ : Nat → Nat) => True) (fun (u : Nat → Nat) (t : State) => va_P D vwCl [(x, .inr (10, [.ref (u 0), .ref (u 1), .ref (u 2), .ref (u 3), .ref (u 4), .int 0, .int 0, .int 0, .int 0])), ((u 0), .inl (cI, n0, .inl (fun _ => 0))), ((u 1), .inl (cI, 12, .inl (fun _ => 0))), ((u 2), .inl (cI, 12, .inl (fun _ => 0))), ((u 3), .inl (cI, 12, .inl (fun _ => 0))), ((u 4), .inl (cI, 32, .inl (fun _ => 0)))] t.heap ∧ va_D A [(x, .inr (10, [.ref (u 0), .ref (u 1), .ref (u 2), .ref (u 3), .ref (u 4), .int 0, .int 0, .int 0, .int 0])), ((u 0), .inl (cI, n0, .inl (fun _ => 0))), ((u 1), .inl (cI, 12, .inl (fun _ => 0))), ((u 2), .inl (cI, 12, .inl (fun _ => 0))), ((u 3), .inl (cI, 12, .inl (fun _ => 0))), ((u 4), .inl (cI, 32, .inl (fun _ => 0)))]) A)) rfl rfl pn_RX9 (Nat.le_of_ble_eq_true rfl) (fun p e s m below meth c A hx hb hml hown S hr hlocks hnm hA hP hK hD hS ls hl => ?_)
  have hin : meth.name = "<init>" := hnm
  have hP : va_P D vwCl [(x, .inr (10, [.null, .null, .null, .null, .null, .int 0, .int 0, .int 0, .int 0]))] s.heap := hP
  have hD : va_D A [(x, .inr (10, [.null, .null, .null, .null, .null, .int 0, .int 0, .int 0, .int 0]))] := hD
  have hl : lv_has ls 2 [(0, .ref x), (1, .int (nI n0))] := hl
  refine lv_aload_n hx hb dX9_init_0 rfl (lvA0 hl) ?_
  refine W.objInit hx hb hown (S.2.2.2.2 _ (wk1_3 4 rfl rfl)) (S.2.2.2.2 _ (wk1_2 9 rfl rfl)) (S.2.2.2.2 _ (wk1_2 10 rfl rfl)) rfl (by rw [hml]; exact hl.1) rfl dX9_init_1 (Nat.le_of_ble_eq_true rfl) (Nat.le_of_ble_eq_true rfl) ?_
  refine W.eq (g2 := F0 m 4 ls []) rfl ?_
  refine lv_aload_n hx hb dX9_init_4 rfl (lvA0 hl) ?_
  refine lv_iload_n hx hb dX9_init_5 rfl (lvA1 hl) ?_
  refine lv_iconst (v := 0) hx hb dX9_init_6 kic_0 ?_
  refine va_mmax hx hb (by rw [hml]; exact hl.1.symm) hown (S.2.2.2.2 _ (wk1_3 5 rfl rfl)) (S.2.2.2.2 _ (wk1_3 6 rfl rfl)) (S.2.2.2.2 _ (wk1_0 3 rfl rfl)) (S.2.2.2.2 _ (wk1_3 7 rfl rfl)) (Nat.le_of_ble_eq_true rfl) (Nat.le_of_ble_eq_true rfl) (Nat.le_of_ble_eq_true rfl) (Nat.le_of_ble_eq_true rfl) dX9_init_7 ?_
  refine lv_topi (fun y_1 ey_1 => ?_)
  obtain rfl : y_1 = (nI n0) := ey_1.trans (if_neg (nI_nn (by omega)))
  refine newa_int S hK hP hD hS hA (N' := n0) (nI_nn (by omega)) (nI_clamp (by omega)) (by omega) (Nat.le_of_ble_eq_true rfl) (by show 0 + n0 ≤ 228; omega) dX9_init_10 (fun q10 H hP hD hS => ?_)
  refine W.widen (k := 1) (n := 160) (Nat.le_of_ble_eq_true rfl) (by omega) ?_
  have hP : va_P D vwCl [(x, .inr (10, [.null, .null, .null, .null, .null, .int 0, .int 0, .int 0, .int 0])), (q10, .inl (cI, n0, .inl (fun _ => 0)))] H := hP
  have hD : va_D A [(x, .inr (10, [.null, .null, .null, .null, .null, .int 0, .int 0, .int 0, .int 0])), (q10, .inl (cI, n0, .inl (fun _ => 0)))] := hD
  refine pf_RX9_17 S hin hK hP hD hS 0 rfl (v := .ref q10) (Nat.le_of_ble_eq_true rfl) rfl rfl dX9_init_12 (fun H locs hP hD hS => ?_)
  have hP : va_P D vwCl [(x, .inr (10, [.ref q10, .null, .null, .null, .null, .int 0, .int 0, .int 0, .int 0])), (q10, .inl (cI, n0, .inl (fun _ => 0)))] H := hP
  have hD : va_D A [(x, .inr (10, [.ref q10, .null, .null, .null, .null, .int 0, .int 0, .int 0, .int 0])), (q10, .inl (cI, n0, .inl (fun _ => 0)))] := hD
  refine lv_aload_n hx hb dX9_init_15 rfl (lvA0 hl) ?_
  refine lv_bipush (v := 12) hx hb dX9_init_16 kbc_12 ?_
  refine newa_int S hK hP hD hS hA (N' := 12) (by decide) (by decide) (Nat.le_of_ble_eq_true rfl) (Nat.le_of_ble_eq_true rfl) (Nat.le_of_ble_eq_true rfl) dX9_init_18 (fun q18 H hP hD hS => ?_)
  have hP : va_P D vwCl [(x, .inr (10, [.ref q10, .null, .null, .null, .null, .int 0, .int 0, .int 0, .int 0])), (q10, .inl (cI, n0, .inl (fun _ => 0))), (q18, .inl (cI, 12, .inl (fun _ => 0)))] H := hP
  have hD : va_D A [(x, .inr (10, [.ref q10, .null, .null, .null, .null, .int 0, .int 0, .int 0, .int 0])), (q10, .inl (cI, n0, .inl (fun _ => 0))), (q18, .inl (cI, 12, .inl (fun _ => 0)))] := hD
  refine pf_RX9_21 S hin hK hP hD hS 0 rfl (v := .ref q18) (Nat.le_of_ble_eq_true rfl) rfl rfl dX9_init_20 (fun H locs hP hD hS => ?_)
  have hP : va_P D vwCl [(x, .inr (10, [.ref q10, .ref q18, .null, .null, .null, .int 0, .int 0, .int 0, .int 0])), (q10, .inl (cI, n0, .inl (fun _ => 0))), (q18, .inl (cI, 12, .inl (fun _ => 0)))] H := hP
  have hD : va_D A [(x, .inr (10, [.ref q10, .ref q18, .null, .null, .null, .int 0, .int 0, .int 0, .int 0])), (q10, .inl (cI, n0, .inl (fun _ => 0))), (q18, .inl (cI, 12, .inl (fun _ => 0)))] := hD
  refine lv_aload_n hx hb dX9_init_23 rfl (lvA0 hl) ?_
  refine lv_bipush (v := 12) hx hb dX9_init_24 kbc_12 ?_
  refine newa_int S hK hP hD hS hA (N' := 12) (by decide) (by decide) (Nat.le_of_ble_eq_true rfl) (Nat.le_of_ble_eq_true rfl) (Nat.le_of_ble_eq_true rfl) dX9_init_26 (fun q26 H hP hD hS => ?_)
  have hP : va_P D vwCl [(x, .inr (10, [.ref q10, .ref q18, .null, .null, .null, .int 0, .int 0, .int 0, .int 0])), (q10, .inl (cI, n0, .inl (fun _ => 0))), (q18, .inl (cI, 12, .inl (fun _ => 0))), (q26, .inl (cI, 12, .inl (fun _ => 0)))] H := hP
  have hD : va_D A [(x, .inr (10, [.ref q10, .ref q18, .null, .null, .null, .int 0, .int 0, .int 0, .int 0])), (q10, .inl (cI, n0, .inl (fun _ => 0))), (q18, .inl (cI, 12, .inl (fun _ => 0))), (q26, .inl (cI, 12, .inl (fun _ => 0)))] := hD
  refine pf_RX9_24 S hin hK hP hD hS 0 rfl (v := .ref q26) (Nat.le_of_ble_eq_true rfl) rfl rfl dX9_init_28 (fun H locs hP hD hS => ?_)
  have hP : va_P D vwCl [(x, .inr (10, [.ref q10, .ref q18, .ref q26, .null, .null, .int 0, .int 0, .int 0, .int 0])), (q10, .inl (cI, n0, .inl (fun _ => 0))), (q18, .inl (cI, 12, .inl (fun _ => 0))), (q26, .inl (cI, 12, .inl (fun _ => 0)))] H := hP
  have hD : va_D A [(x, .inr (10, [.ref q10, .ref q18, .ref q26, .null, .null, .int 0, .int 0, .int 0, .int 0])), (q10, .inl (cI, n0, .inl (fun _ => 0))), (q18, .inl (cI, 12, .inl (fun _ => 0))), (q26, .inl (cI, 12, .inl (fun _ => 0)))] := hD
  refine lv_aload_n hx hb dX9_init_31 rfl (lvA0 hl) ?_
  refine lv_bipush (v := 12) hx hb dX9_init_32 kbc_12 ?_
  refine newa_int S hK hP hD hS hA (N' := 12) (by decide) (by decide) (Nat.le_of_ble_eq_true rfl) (Nat.le_of_ble_eq_true rfl) (Nat.le_of_ble_eq_true rfl) dX9_init_34 (fun q34 H hP hD hS => ?_)
  have hP : va_P D vwCl [(x, .inr (10, [.ref q10, .ref q18, .ref q26, .null, .null, .int 0, .int 0, .int 0, .int 0])), (q10, .inl (cI, n0, .inl (fun _ => 0))), (q18, .inl (cI, 12, .inl (fun _ => 0))), (q26, .inl (cI, 12, .inl (fun _ => 0))), (q34, .inl (cI, 12, .inl (fun _ => 0)))] H := hP
  have hD : va_D A [(x, .inr (10, [.ref q10, .ref q18, .ref q26, .null, .null, .int 0, .int 0, .int 0, .int 0])), (q10, .inl (cI, n0, .inl (fun _ => 0))), (q18, .inl (cI, 12, .inl (fun _ => 0))), (q26, .inl (cI, 12, .inl (fun _ => 0))), (q34, .inl (cI, 12, .inl (fun _ => 0)))] := hD
  refine pf_RX9_27 S hin hK hP hD hS 0 rfl (v := .ref q34) (Nat.le_of_ble_eq_true rfl) rfl rfl dX9_init_36 (fun H locs hP hD hS => ?_)
  have hP : va_P D vwCl [(x, .inr (10, [.ref q10, .ref q18, .ref q26, .ref q34, .null, .int 0, .int 0, .int 0, .int 0])), (q10, .inl (cI, n0, .inl (fun _ => 0))), (q18, .inl (cI, 12, .inl (fun _ => 0))), (q26, .inl (cI, 12, .inl (fun _ => 0))), (q34, .inl (cI, 12, .inl (fun _ => 0)))] H := hP
  have hD : va_D A [(x, .inr (10, [.ref q10, .ref q18, .ref q26, .ref q34, .null, .int 0, .int 0, .int 0, .int 0])), (q10, .inl (cI, n0, .inl (fun _ => 0))), (q18, .inl (cI, 12, .inl (fun _ => 0))), (q26, .inl (cI, 12, .inl (fun _ => 0))), (q34, .inl (cI, 12, .inl (fun _ => 0)))] := hD
  refine lv_aload_n hx hb dX9_init_39 rfl (lvA0 hl) ?_
  refine lv_bipush (v := 32) hx hb dX9_init_40 kbc_32 ?_
  refine newa_int S hK hP hD hS hA (N' := 32) (by decide) (by decide) (Nat.le_of_ble_eq_true rfl) (Nat.le_of_ble_eq_true rfl) (Nat.le_of_ble_eq_true rfl) dX9_init_42 (fun q42 H hP hD hS => ?_)
  have hP : va_P D vwCl [(x, .inr (10, [.ref q10, .ref q18, .ref q26, .ref q34, .null, .int 0, .int 0, .int 0, .int 0])), (q10, .inl (cI, n0, .inl (fun _ => 0))), (q18, .inl (cI, 12, .inl (fun _ => 0))), (q26, .inl (cI, 12, .inl (fun _ => 0))), (q34, .inl (cI, 12, .inl (fun _ => 0))), (q42, .inl (cI, 32, .inl (fun _ => 0)))] H := hP
  have hD : va_D A [(x, .inr (10, [.ref q10, .ref q18, .ref q26, .ref q34, .null, .int 0, .int 0, .int 0, .int 0])), (q10, .inl (cI, n0, .inl (fun _ => 0))), (q18, .inl (cI, 12, .inl (fun _ => 0))), (q26, .inl (cI, 12, .inl (fun _ => 0))), (q34, .inl (cI, 12, .inl (fun _ => 0))), (q42, .inl (cI, 32, .inl (fun _ => 0)))] := hD
  refine pf_RX9_30 S hin hK hP hD hS 0 rfl (v := .ref q42) (Nat.le_of_ble_eq_true rfl) rfl rfl dX9_init_44 (fun H locs hP hD hS => ?_)
  have hP : va_P D vwCl [(x, .inr (10, [.ref q10, .ref q18, .ref q26, .ref q34, .ref q42, .int 0, .int 0, .int 0, .int 0])), (q10, .inl (cI, n0, .inl (fun _ => 0))), (q18, .inl (cI, 12, .inl (fun _ => 0))), (q26, .inl (cI, 12, .inl (fun _ => 0))), (q34, .inl (cI, 12, .inl (fun _ => 0))), (q42, .inl (cI, 32, .inl (fun _ => 0)))] H := hP
  have hD : va_D A [(x, .inr (10, [.ref q10, .ref q18, .ref q26, .ref q34, .ref q42, .int 0, .int 0, .int 0, .int 0])), (q10, .inl (cI, n0, .inl (fun _ => 0))), (q18, .inl (cI, 12, .inl (fun _ => 0))), (q26, .inl (cI, 12, .inl (fun _ => 0))), (q34, .inl (cI, 12, .inl (fun _ => 0))), (q42, .inl (cI, 32, .inl (fun _ => 0)))] := hD
  have hP9 := hP.sub (ws' := [(x, .inr (10, [.ref q10, .ref q18, .ref q26, .ref q34, .ref q42, .int 0, .int 0, .int 0, .int 0])), (q10, .inl (cI, n0, .inl (fun _ => 0))), (q18, .inl (cI, 12, .inl (fun _ => 0))), (q26, .inl (cI, 12, .inl (fun _ => 0))), (q34, .inl (cI, 12, .inl (fun _ => 0))), (q42, .inl (cI, 32, .inl (fun _ => 0)))]) [0, 1, 2, 3, 4, 5] rfl
  have hD9 := hD.sub (ws' := [(x, .inr (10, [.ref q10, .ref q18, .ref q26, .ref q34, .ref q42, .int 0, .int 0, .int 0, .int 0])), (q10, .inl (cI, n0, .inl (fun _ => 0))), (q18, .inl (cI, 12, .inl (fun _ => 0))), (q26, .inl (cI, 12, .inl (fun _ => 0))), (q34, .inl (cI, 12, .inl (fun _ => 0))), (q42, .inl (cI, 32, .inl (fun _ => 0)))]) [0, 1, 2, 3, 4, 5] (by decide) rfl
  exact W.vret hx hb hr (fun t ht hW => ⟨⟨(fun k => ([q10, q18, q26, q34, q42] : List Nat).getD k 0), rfl, trivial, by rw [ht]; exact hP9, hD9⟩, hS.F ht⟩) hS.2.2 dX9_init_47
set_option maxRecDepth 100000 in
set_option maxHeartbeats 4000000 in
theorem q_RreadClause (l : Launch) (D : va_G) (cI cB cZ : ClassId) (zz qq vv : Nat) (bt : Nat → Int32) (g : Nat → Nat) (ad : Nat → Nat → Nat) (cn : Nat → Nat) (In : Nat → Int32) (Fn : Nat → Nat → Int32) (n0 : Nat) (sz : Nat) (hB : CBX cn) (hR : ad 4 2 = g 40) (h1 : ad 4 1 < cn 6) (h3 : cn 31 ≤ cn 32) (h4 : cn 32 ≤ 160) (h9 : (Fn 199 (ad 4 1)).toInt ≤ 160) (es : Fn 198 (ad 4 1) = nI n0) (hn : n0 ≤ 12) (h8 : 0 ≤ (In 30).toInt) : Met l yX5_readClause (CWS yX5_readClause cX5_readClause 1 none) (RM 25 0 0) (PBx [.ref (g 6)] D cI cB cZ zz qq vv bt (wX cI (D.1 99) zz g ad cn In Fn) sz) (va_Qv (fun (u : (Nat → Nat) × (Nat → Int32) × (Nat → Nat → Int32)) => (fun c2 I2 F2 => Fr [31, 32] [33] [195, 198, 301, 302, 303, 304] cn In Fn c2 I2 F2 ∧ CBX c2 ∧ ((cn 31 ≤ c2 31 ∧ c2 31 ≤ c2 32 ∧ c2 32 ≤ cn 32) ∧ ∃ n : Nat, n ≤ 12 ∧ F2 198 = upd (Fn 198) (ad 4 1) (nI n))) u.1 u.2.1 u.2.2) (fun (u : (Nat → Nat) × (Nat → Int32) × (Nat → Nat → Int32)) (t : State) => va_P D vwCl (wX cI (D.1 99) zz g ad u.1 u.2.1 u.2.2) t.heap ∧ va_D (va_A (wX cI (D.1 99) zz g ad cn In Fn) sz) (wX cI (D.1 99) zz g ad u.1 u.2.1 u.2.2)) (va_A (wX cI (D.1 99) zz g ad cn In Fn) sz)) 0 0 (va_A (wX cI (D.1 99) zz g ad cn In Fn) sz) := by
  refine en_x (fun A => (va_Qv (fun (u : (Nat → Nat) × (Nat → Int32) × (Nat → Nat → Int32)) => (fun (c2 : Nat → Nat) (I2 : Nat → Int32) (F2 : Nat → Nat → Int32) => Fr [31, 32] [33] [195, 198, 301, 302, 303, 304] cn In Fn c2 I2 F2 ∧ CBX c2 ∧ ((cn 31 ≤ c2 31 ∧ c2 31 ≤ c2 32 ∧ c2 32 ≤ cn 32) ∧ ∃ n : Nat, n ≤ 12 ∧ F2 198 = upd (Fn 198) (ad 4 1) (nI n))) u.1 u.2.1 u.2.2) (fun (u : (Nat → Nat) × (Nat → Int32) × (Nat → Nat → Int32)) (t : State) => va_P D vwCl (wX cI (D.1 99) zz g ad u.1 u.2.1 u.2.2) t.heap ∧ va_D A (wX cI (D.1 99) zz g ad u.1 u.2.1 u.2.2)) A)) rfl rfl pn_RX5 (Nat.le_of_ble_eq_true rfl) (fun p e s m below meth c A hx hb hml hown S hr hlocks hnm hA hP hK hD hXS hS ls hl => ?_)
  have hl : lv_has ls 1 [(0, .ref (g 6))] := hl
  replace hB : CBXh cn := hB
  refine lv_aload_n hx hb dX5_readClause_0 rfl (lvA0 hl) ?_
  refine vp_callSi (runV_rxa (As := []) (rest := []) S (q_Rpeek l D cI cB cZ zz qq vv bt g ad cn In Fn  hB (by omega) (by omega) (by omega) (by omega)) kV_RX5_43 hK hXS hS hP 3 xo_3 rfl rfl ⟨Nat.le_of_ble_eq_true rfl, Nat.le_of_ble_eq_true rfl⟩ ⟨Nat.le_of_ble_eq_true rfl, Nat.le_of_ble_eq_true rfl⟩ rfl hl.1 rfl (Nat.le_of_ble_eq_true rfl) dX5_readClause_1) (fun r_1 h_2 => ?_)
  refine lv_aload_n hx hb dX5_readClause_4 rfl (lvA0 hl) ?_
  refine gf_RX5_27 S hK hP 3 xo_3 (v := .int (In 30)) rfl dX5_readClause_5 ?_
  refine lv_icmp_eq (tgt := 17) hx hb dX5_readClause_8 rfl (fun c_3 => ?_) (fun c_3 => ?_)
  ·
    have tc_3 : (r_1.toInt : Int) = (In 30).toInt := congrArg Int32.toInt c_3
    refine lv_aload_n hx hb dX5_readClause_17 rfl (lvA0 hl) ?_
    refine gf_RX5_20 S hK hP 3 xo_3 (v := .ref (ad 5 (ad 4 1))) rfl dX5_readClause_18 ?_
    refine gf_RX5_50 S hK hP _ (xf_7 (show (ad 4 1) < (cn 6) by omega)) (v := .int ((Fn 198) (ad 4 1))) rfl dX5_readClause_21 ?_
    refine lv_topi (fun y_4 ey_4 => ?_)
    obtain rfl : y_4 = (nI n0) := ey_4.trans es
    refine lv_bipush (v := 12) hx hb dX5_readClause_24 kbc_12 ?_
    have : (nI n0).toInt = ((n0 : Nat) : Int) := nI_toInt (by omega)
    refine lv_icmp_lt (tgt := 35) hx hb dX5_readClause_26 rfl (fun c_5 => ?_) (fun c_5 => ?_)
    ·
      have tc_5 : ((nI n0).toInt : Int) < 12 := Int32.lt_iff_toInt_lt.mp c_5
      refine lv_aload_n hx hb dX5_readClause_35 rfl (lvA0 hl) ?_
      refine lv_dup hx hb dX5_readClause_36 rfl ?_
      refine gf_RX5_31 S hK hP 3 xo_3 (v := .int (nI (cn 31))) rfl dX5_readClause_37 ?_
      refine lv_iconst (v := 1) hx hb dX5_readClause_40 kic_1 ?_
      refine lv_iadd hx hb dX5_readClause_41 ?_
      refine lv_topi (fun y_6 ey_6 => ?_)
      obtain rfl : y_6 = (nI ((cn 31) + 1)) := ey_6.trans (nI_add (cn 31) 1)
      refine pf_RX5_31 S hK hP hD hS 3 xo_3 (v := .int (nI ((cn 31) + 1))) (Nat.le_of_ble_eq_true rfl) rfl rfl dX5_readClause_42 (fun H locs hP hD hS => ?_)
      have hP : va_P D vwCl (wX cI (D.1 99) zz g ad (va_up cn 31 ((cn 31) + 1)) In Fn) H := va_P_eq (xsf_3_3) hP
      have hD : va_D A (wX cI (D.1 99) zz g ad (va_up cn 31 ((cn 31) + 1)) In Fn) := va_D_eq (xsf_3_3) hD
      refine lv_aload_n hx hb dX5_readClause_45 rfl (lvA0 hl) ?_
      refine gf_RX5_20 S hK hP 3 xo_3 (v := .ref (ad 5 (ad 4 1))) rfl dX5_readClause_46 ?_
      have hFc := free_all hD hS hA
      refine va_callv (runV_xa (As := []) (rest := []) S (q_TstartSum l D cI cB cZ zz qq vv bt g ad (va_up cn 31 ((cn 31) + 1)) In Fn (ad 4 1) H.size (CBX.n (k := 31) (v := ((cn 31) + 1)) hB (by decide)) (show (ad 4 1) < (cn 6) by omega)) kV_RX5_53 hK hXS hS hFc hP hD _ (xf_7 (show (ad 4 1) < (cn 6) by omega)) rfl rfl ⟨Nat.le_of_ble_eq_true rfl, Nat.le_of_ble_eq_true rfl⟩ ⟨Nat.le_of_ble_eq_true rfl, Nat.le_of_ble_eq_true rfl⟩ rfl hl.1 rfl (Nat.le_of_ble_eq_true rfl) dX5_readClause_49) hS (fun q _ h => hFc q h) hFc (fun u t H1 locs ht hvm wh_8 hB1 hz1 hk1 hS => ?_)
      obtain ⟨cn8, In8, Fn8⟩ := u
      obtain ⟨hP1, hD1⟩ := hB1
      rw [ht] at hP1
      have hP : va_P D vwCl (wX cI (D.1 99) zz g ad cn8 In8 Fn8) H1 := hP1
      have hD : va_D A (wX cI (D.1 99) zz g ad cn8 In8 Fn8) := hD1.weaken (fun _ _ _ h => hFc _ h)
      generalize H1 = H at hP hS ⊢
      have vh_8 : (fun c2 I2 F2 => Fr [] [] [302] (va_up cn 31 ((cn 31) + 1)) In Fn c2 I2 F2 ∧ CBX c2 ∧ (True)) cn8 In8 Fn8 := wh_8
      obtain ⟨hfc8, hIn8, h_8⟩ := vh_8
      obtain rfl : In = In8 := (funext (fun k => hfc8.2.1 k List.not_mem_nil)).symm
      have hf8 : Fr [31, 32] [33] [195, 198, 301, 302, 303, 304] cn In Fn cn8 In Fn8 := Fr.mo (Fr.tr (Fr.c 31 (Fr.rf (cn := cn) (In := In) (Fn := Fn))) hfc8) (sbl rfl) (sbl rfl) (sbl rfl)
      replace hIn8 : CBXh cn8 := hIn8
      have hT198_8 : Fn8 198 = (Fn 198) := hfc8.2.2 198 (nml rfl)
      have : cn8 6 = (cn 6) := hfc8.1 6 (nml rfl)
      have : cn8 31 = ((cn 31) + 1) := hfc8.1 31 (nml rfl)
      have : cn8 32 = (cn 32) := hfc8.1 32 (nml rfl)
      refine lv_aload_n hx hb dX5_readClause_52 rfl (lvA0 hl) ?_
      refine gf_RX5_27 S hK hP 3 xo_3 (v := .int (In 30)) rfl dX5_readClause_53 ?_
      refine lv_bipush (v := 112) hx hb dX5_readClause_56 kbc_112 ?_
      refine lv_icmp_ne (tgt := 66) hx hb dX5_readClause_58 rfl (fun c_9 => ?_) (fun c_9 => ?_)
      ·
        have tc_9 : ((In 30).toInt : Int) ≠ 112 := fun q => c_9 (Int32.toInt_inj.mp q)
        refine lv_aload_n hx hb dX5_readClause_66 rfl (lvA0 hl) ?_
        refine gf_RX5_20 S hK hP 3 xo_3 (v := .ref (ad 5 (ad 4 1))) rfl dX5_readClause_67 ?_
        have hFc := free_all hD hS hA
        refine va_callv (runV_xa (As := []) (rest := []) S (q_TstartCondition l D cI cB cZ zz qq vv bt g ad cn8 In Fn8 (ad 4 1) H.size hIn8 (by omega)) kV_RX5_59 hK hXS hS hFc hP hD _ (xf_7 (show (ad 4 1) < (cn8 6) by omega)) rfl rfl ⟨Nat.le_of_ble_eq_true rfl, Nat.le_of_ble_eq_true rfl⟩ ⟨Nat.le_of_ble_eq_true rfl, Nat.le_of_ble_eq_true rfl⟩ rfl hl.1 rfl (Nat.le_of_ble_eq_true rfl) dX5_readClause_70) hS (fun q _ h => hFc q h) hFc (fun u t H1 locs ht hvm wh_11 hB1 hz1 hk1 hS => ?_)
        obtain ⟨cn11, In11, Fn11⟩ := u
        obtain ⟨hP1, hD1⟩ := hB1
        rw [ht] at hP1
        have hP : va_P D vwCl (wX cI (D.1 99) zz g ad cn11 In11 Fn11) H1 := hP1
        have hD : va_D A (wX cI (D.1 99) zz g ad cn11 In11 Fn11) := hD1.weaken (fun _ _ _ h => hFc _ h)
        generalize H1 = H at hP hS ⊢
        have vh_11 : (fun c2 I2 F2 => Fr [] [] [303] cn8 In Fn8 c2 I2 F2 ∧ CBX c2 ∧ (True)) cn11 In11 Fn11 := wh_11
        obtain ⟨hfc11, hIn11, h_11⟩ := vh_11
        obtain rfl : cn8 = cn11 := (funext (fun k => hfc11.1 k List.not_mem_nil)).symm
        obtain rfl : In = In11 := (funext (fun k => hfc11.2.1 k List.not_mem_nil)).symm
        have hf11 : Fr [31, 32] [33] [195, 198, 301, 302, 303, 304] cn In Fn cn8 In Fn11 := Fr.mo (Fr.tr hf8 hfc11) (sbl rfl) (sbl rfl) (sbl rfl)
        replace hIn11 : CBXh cn8 := hIn11
        have hT198_11 : Fn11 198 = (Fn8 198) := hfc11.2.2 198 (nml rfl)
        refine lv_aload_n hx hb dX5_readClause_73 rfl (lvA0 hl) ?_
        refine lv_bipush (v := 40) hx hb dX5_readClause_74 kbc_40 ?_
        have hFc := free_all hD hS hA
        refine va_callv (runV_xa (As := [.int 40]) (rest := []) S (q_Rtake l D cI cB cZ zz qq vv bt g ad cn8 In Fn11 40 H.size hIn11 (by omega) (by omega) (by omega) (by omega) (by decide)) kV_RX5_62 hK hXS hS hFc hP hD 3 xo_3 rfl rfl ⟨Nat.le_of_ble_eq_true rfl, Nat.le_of_ble_eq_true rfl⟩ ⟨Nat.le_of_ble_eq_true rfl, Nat.le_of_ble_eq_true rfl⟩ rfl hl.1 rfl (Nat.le_of_ble_eq_true rfl) dX5_readClause_76) hS (fun q _ h => hFc q h) hFc (fun u t H1 locs ht hvm wh_13 hB1 hz1 hk1 hS => ?_)
        obtain ⟨cn13, In13, Fn13⟩ := u
        obtain ⟨hP1, hD1⟩ := hB1
        rw [ht] at hP1
        have hP : va_P D vwCl (wX cI (D.1 99) zz g ad cn13 In13 Fn13) H1 := hP1
        have hD : va_D A (wX cI (D.1 99) zz g ad cn13 In13 Fn13) := hD1.weaken (fun _ _ _ h => hFc _ h)
        generalize H1 = H at hP hS ⊢
        have vh_13 : (fun c2 I2 F2 => Fr [31, 32] [33] [] cn8 In Fn11 c2 I2 F2 ∧ CBX c2 ∧ ((cn8 31) ≤ c2 31 ∧ c2 31 ≤ c2 32 ∧ c2 32 ≤ (cn8 32))) cn13 In13 Fn13 := wh_13
        obtain ⟨hfc13, hIn13, h_13⟩ := vh_13
        obtain rfl : Fn11 = Fn13 := (funext (fun k => hfc13.2.2 k List.not_mem_nil)).symm
        have hf13 : Fr [31, 32] [33] [195, 198, 301, 302, 303, 304] cn In Fn cn13 In13 Fn11 := Fr.mo (Fr.tr hf11 hfc13) (sbl rfl) (sbl rfl) (sbl rfl)
        replace hIn13 : CBXh cn13 := hIn13
        have : cn13 6 = (cn8 6) := hfc13.1 6 (nml rfl)
        refine lv_aload_n hx hb dX5_readClause_79 rfl (lvA0 hl) ?_
        refine lv_iconst (v := 1) hx hb dX5_readClause_80 kic_1 ?_
        have hFc := free_all hD hS hA
        refine va_callv (runV_xa (As := [.int 1]) (rest := []) S (q_RreadCondition_1 l D cI cB cZ zz qq vv bt g ad cn13 In13 Fn11  H.size hIn13 (by omega) (by omega) (by omega) (by omega) (by rw [hf13.2.2 199 (nml rfl)]; exact h9)) kV_RX5_66 hK hXS hS hFc hP hD 3 xo_3 rfl rfl ⟨Nat.le_of_ble_eq_true rfl, Nat.le_of_ble_eq_true rfl⟩ ⟨Nat.le_of_ble_eq_true rfl, Nat.le_of_ble_eq_true rfl⟩ rfl hl.1 rfl (Nat.le_of_ble_eq_true rfl) dX5_readClause_81) hS (fun q _ h => hFc q h) hFc (fun u t H1 locs ht hvm wh_15 hB1 hz1 hk1 hS => ?_)
        obtain ⟨cn15, In15, Fn15⟩ := u
        obtain ⟨hP1, hD1⟩ := hB1
        rw [ht] at hP1
        have hP : va_P D vwCl (wX cI (D.1 99) zz g ad cn15 In15 Fn15) H1 := hP1
        have hD : va_D A (wX cI (D.1 99) zz g ad cn15 In15 Fn15) := hD1.weaken (fun _ _ _ h => hFc _ h)
        generalize H1 = H at hP hS ⊢
        have vh_15 : (fun c2 I2 F2 => Fr [31, 32] [33] [195, 301] cn13 In13 Fn11 c2 I2 F2 ∧ CBX c2 ∧ ((cn13 31) ≤ c2 31 ∧ c2 31 ≤ c2 32 ∧ c2 32 ≤ (cn13 32))) cn15 In15 Fn15 := wh_15
        obtain ⟨hfc15, hIn15, h_15⟩ := vh_15
        have hf15 : Fr [31, 32] [33] [195, 198, 301, 302, 303, 304] cn In Fn cn15 In15 Fn15 := Fr.mo (Fr.tr hf13 hfc15) (sbl rfl) (sbl rfl) (sbl rfl)
        replace hIn15 : CBXh cn15 := hIn15
        have hT198_15 : Fn15 198 = (Fn11 198) := hfc15.2.2 198 (nml rfl)
        have : cn15 6 = (cn13 6) := hfc15.1 6 (nml rfl)
        refine lv_aload_n hx hb dX5_readClause_84 rfl (lvA0 hl) ?_
        refine lv_bipush (v := 41) hx hb dX5_readClause_85 kbc_41 ?_
        have hFc := free_all hD hS hA
        refine va_callv (runV_xa (As := [.int 41]) (rest := []) S (q_Rtake l D cI cB cZ zz qq vv bt g ad cn15 In15 Fn15 41 H.size hIn15 (by omega) (by omega) (by omega) (by omega) (by decide)) kV_RX5_62 hK hXS hS hFc hP hD 3 xo_3 rfl rfl ⟨Nat.le_of_ble_eq_true rfl, Nat.le_of_ble_eq_true rfl⟩ ⟨Nat.le_of_ble_eq_true rfl, Nat.le_of_ble_eq_true rfl⟩ rfl hl.1 rfl (Nat.le_of_ble_eq_true rfl) dX5_readClause_87) hS (fun q _ h => hFc q h) hFc (fun u t H1 locs ht hvm wh_17 hB1 hz1 hk1 hS => ?_)
        obtain ⟨cn17, In17, Fn17⟩ := u
        obtain ⟨hP1, hD1⟩ := hB1
        rw [ht] at hP1
        have hP : va_P D vwCl (wX cI (D.1 99) zz g ad cn17 In17 Fn17) H1 := hP1
        have hD : va_D A (wX cI (D.1 99) zz g ad cn17 In17 Fn17) := hD1.weaken (fun _ _ _ h => hFc _ h)
        generalize H1 = H at hP hS ⊢
        have vh_17 : (fun c2 I2 F2 => Fr [31, 32] [33] [] cn15 In15 Fn15 c2 I2 F2 ∧ CBX c2 ∧ ((cn15 31) ≤ c2 31 ∧ c2 31 ≤ c2 32 ∧ c2 32 ≤ (cn15 32))) cn17 In17 Fn17 := wh_17
        obtain ⟨hfc17, hIn17, h_17⟩ := vh_17
        obtain rfl : Fn15 = Fn17 := (funext (fun k => hfc17.2.2 k List.not_mem_nil)).symm
        have hf17 : Fr [31, 32] [33] [195, 198, 301, 302, 303, 304] cn In Fn cn17 In17 Fn15 := Fr.mo (Fr.tr hf15 hfc17) (sbl rfl) (sbl rfl) (sbl rfl)
        replace hIn17 : CBXh cn17 := hIn17
        have : cn17 6 = (cn15 6) := hfc17.1 6 (nml rfl)
        refine lv_aload_n hx hb dX5_readClause_90 rfl (lvA0 hl) ?_
        refine gf_RX5_20 S hK hP 3 xo_3 (v := .ref (ad 5 (ad 4 1))) rfl dX5_readClause_91 ?_
        have hFc := free_all hD hS hA
        refine va_callv (runV_xa (As := []) (rest := []) S (q_TendClause l D cI cB cZ zz qq vv bt g ad cn17 In17 Fn15 (ad 4 1) H.size hIn17 (by omega)) kV_RX5_69 hK hXS hS hFc hP hD _ (xf_7 (show (ad 4 1) < (cn17 6) by omega)) rfl rfl ⟨Nat.le_of_ble_eq_true rfl, Nat.le_of_ble_eq_true rfl⟩ ⟨Nat.le_of_ble_eq_true rfl, Nat.le_of_ble_eq_true rfl⟩ rfl hl.1 rfl (Nat.le_of_ble_eq_true rfl) dX5_readClause_94) hS (fun q _ h => hFc q h) hFc (fun u t H1 locs ht hvm wh_19 hB1 hz1 hk1 hS => ?_)
        obtain ⟨cn19, In19, Fn19⟩ := u
        obtain ⟨hP1, hD1⟩ := hB1
        rw [ht] at hP1
        have hP : va_P D vwCl (wX cI (D.1 99) zz g ad cn19 In19 Fn19) H1 := hP1
        have hD : va_D A (wX cI (D.1 99) zz g ad cn19 In19 Fn19) := hD1.weaken (fun _ _ _ h => hFc _ h)
        generalize H1 = H at hP hS ⊢
        have vh_19 : (fun c2 I2 F2 => Fr [] [] [198, 304] cn17 In17 Fn15 c2 I2 F2 ∧ CBX c2 ∧ (F2 198 = upd ((Fn15 198)) (ad 4 1) ((Fn15 198) (ad 4 1) + 1))) cn19 In19 Fn19 := wh_19
        obtain ⟨hfc19, hIn19, h_19⟩ := vh_19
        obtain rfl : cn17 = cn19 := (funext (fun k => hfc19.1 k List.not_mem_nil)).symm
        obtain rfl : In17 = In19 := (funext (fun k => hfc19.2.1 k List.not_mem_nil)).symm
        have hf19 : Fr [31, 32] [33] [195, 198, 301, 302, 303, 304] cn In Fn cn17 In17 Fn19 := Fr.mo (Fr.tr hf17 hfc19) (sbl rfl) (sbl rfl) (sbl rfl)
        replace hIn19 : CBXh cn17 := hIn19
        exact W.vret hx hb hr (fun t ht hW => ⟨⟨(cn17, In17, Fn19), rfl, ⟨(Fr.mo hf19 (sbl rfl) (sbl rfl) (sbl rfl)), hIn19, (by show (cn 31 ≤ cn17 31 ∧ cn17 31 ≤ cn17 32 ∧ cn17 32 ≤ cn 32) ∧ ∃ n : Nat, n ≤ 12 ∧ Fn19 198 = upd (Fn 198) (ad 4 1) (nI n); exact ⟨by show cn 31 ≤ (cn17 31) ∧ (cn17 31) ≤ (cn17 32) ∧ (cn17 32) ≤ cn 32; omega, ⟨n0 + 1, by omega, by rw [h_19, hT198_15, hT198_11, hT198_8, es, nI_1]⟩⟩)⟩, by rw [ht]; exact hP, hD⟩, hS.F ht⟩) hS.2.2 dX5_readClause_97
      ·
        have tc_9 : ((In 30).toInt : Int) = 112 := congrArg Int32.toInt c_9
        refine lv_aload_n hx hb dX5_readClause_61 rfl (lvA0 hl) ?_
        refine lv_iconst (v := 0) hx hb dX5_readClause_62 kic_0 ?_
        have hFc := free_all hD hS hA
        refine va_callv (runV_xa (As := [.int 0]) (rest := []) S (q_RreadSum_0 l D cI cB cZ zz qq vv bt g ad cn8 In Fn8  H.size hIn8 (by omega) (by omega) (by omega) (by omega) (by rw [hf8.2.2 199 (nml rfl)]; exact h9)) kV_RX5_56 hK hXS hS hFc hP hD 3 xo_3 rfl rfl ⟨Nat.le_of_ble_eq_true rfl, Nat.le_of_ble_eq_true rfl⟩ ⟨Nat.le_of_ble_eq_true rfl, Nat.le_of_ble_eq_true rfl⟩ rfl hl.1 rfl (Nat.le_of_ble_eq_true rfl) dX5_readClause_63) hS (fun q _ h => hFc q h) hFc (fun u t H1 locs ht hvm wh_21 hB1 hz1 hk1 hS => ?_)
        obtain ⟨cn21, In21, Fn21⟩ := u
        obtain ⟨hP1, hD1⟩ := hB1
        rw [ht] at hP1
        have hP : va_P D vwCl (wX cI (D.1 99) zz g ad cn21 In21 Fn21) H1 := hP1
        have hD : va_D A (wX cI (D.1 99) zz g ad cn21 In21 Fn21) := hD1.weaken (fun _ _ _ h => hFc _ h)
        generalize H1 = H at hP hS ⊢
        have vh_21 : (fun c2 I2 F2 => Fr [31, 32] [33] [195, 301] cn8 In Fn8 c2 I2 F2 ∧ CBX c2 ∧ ((cn8 31) ≤ c2 31 ∧ c2 31 ≤ c2 32 ∧ c2 32 ≤ (cn8 32))) cn21 In21 Fn21 := wh_21
        obtain ⟨hfc21, hIn21, h_21⟩ := vh_21
        have hf21 : Fr [31, 32] [33] [195, 198, 301, 302, 303, 304] cn In Fn cn21 In21 Fn21 := Fr.mo (Fr.tr hf8 hfc21) (sbl rfl) (sbl rfl) (sbl rfl)
        replace hIn21 : CBXh cn21 := hIn21
        have hT198_21 : Fn21 198 = (Fn8 198) := hfc21.2.2 198 (nml rfl)
        have : cn21 6 = (cn8 6) := hfc21.1 6 (nml rfl)
        refine lv_aload_n hx hb dX5_readClause_66 rfl (lvA0 hl) ?_
        refine gf_RX5_20 S hK hP 3 xo_3 (v := .ref (ad 5 (ad 4 1))) rfl dX5_readClause_67 ?_
        have hFc := free_all hD hS hA
        refine va_callv (runV_xa (As := []) (rest := []) S (q_TstartCondition l D cI cB cZ zz qq vv bt g ad cn21 In21 Fn21 (ad 4 1) H.size hIn21 (by omega)) kV_RX5_59 hK hXS hS hFc hP hD _ (xf_7 (show (ad 4 1) < (cn21 6) by omega)) rfl rfl ⟨Nat.le_of_ble_eq_true rfl, Nat.le_of_ble_eq_true rfl⟩ ⟨Nat.le_of_ble_eq_true rfl, Nat.le_of_ble_eq_true rfl⟩ rfl hl.1 rfl (Nat.le_of_ble_eq_true rfl) dX5_readClause_70) hS (fun q _ h => hFc q h) hFc (fun u t H1 locs ht hvm wh_23 hB1 hz1 hk1 hS => ?_)
        obtain ⟨cn23, In23, Fn23⟩ := u
        obtain ⟨hP1, hD1⟩ := hB1
        rw [ht] at hP1
        have hP : va_P D vwCl (wX cI (D.1 99) zz g ad cn23 In23 Fn23) H1 := hP1
        have hD : va_D A (wX cI (D.1 99) zz g ad cn23 In23 Fn23) := hD1.weaken (fun _ _ _ h => hFc _ h)
        generalize H1 = H at hP hS ⊢
        have vh_23 : (fun c2 I2 F2 => Fr [] [] [303] cn21 In21 Fn21 c2 I2 F2 ∧ CBX c2 ∧ (True)) cn23 In23 Fn23 := wh_23
        obtain ⟨hfc23, hIn23, h_23⟩ := vh_23
        obtain rfl : cn21 = cn23 := (funext (fun k => hfc23.1 k List.not_mem_nil)).symm
        obtain rfl : In21 = In23 := (funext (fun k => hfc23.2.1 k List.not_mem_nil)).symm
        have hf23 : Fr [31, 32] [33] [195, 198, 301, 302, 303, 304] cn In Fn cn21 In21 Fn23 := Fr.mo (Fr.tr hf21 hfc23) (sbl rfl) (sbl rfl) (sbl rfl)
        replace hIn23 : CBXh cn21 := hIn23
        have hT198_23 : Fn23 198 = (Fn21 198) := hfc23.2.2 198 (nml rfl)
        refine lv_aload_n hx hb dX5_readClause_73 rfl (lvA0 hl) ?_
        refine lv_bipush (v := 40) hx hb dX5_readClause_74 kbc_40 ?_
        have hFc := free_all hD hS hA
        refine va_callv (runV_xa (As := [.int 40]) (rest := []) S (q_Rtake l D cI cB cZ zz qq vv bt g ad cn21 In21 Fn23 40 H.size hIn23 (by omega) (by omega) (by omega) (by omega) (by decide)) kV_RX5_62 hK hXS hS hFc hP hD 3 xo_3 rfl rfl ⟨Nat.le_of_ble_eq_true rfl, Nat.le_of_ble_eq_true rfl⟩ ⟨Nat.le_of_ble_eq_true rfl, Nat.le_of_ble_eq_true rfl⟩ rfl hl.1 rfl (Nat.le_of_ble_eq_true rfl) dX5_readClause_76) hS (fun q _ h => hFc q h) hFc (fun u t H1 locs ht hvm wh_25 hB1 hz1 hk1 hS => ?_)
        obtain ⟨cn25, In25, Fn25⟩ := u
        obtain ⟨hP1, hD1⟩ := hB1
        rw [ht] at hP1
        have hP : va_P D vwCl (wX cI (D.1 99) zz g ad cn25 In25 Fn25) H1 := hP1
        have hD : va_D A (wX cI (D.1 99) zz g ad cn25 In25 Fn25) := hD1.weaken (fun _ _ _ h => hFc _ h)
        generalize H1 = H at hP hS ⊢
        have vh_25 : (fun c2 I2 F2 => Fr [31, 32] [33] [] cn21 In21 Fn23 c2 I2 F2 ∧ CBX c2 ∧ ((cn21 31) ≤ c2 31 ∧ c2 31 ≤ c2 32 ∧ c2 32 ≤ (cn21 32))) cn25 In25 Fn25 := wh_25
        obtain ⟨hfc25, hIn25, h_25⟩ := vh_25
        obtain rfl : Fn23 = Fn25 := (funext (fun k => hfc25.2.2 k List.not_mem_nil)).symm
        have hf25 : Fr [31, 32] [33] [195, 198, 301, 302, 303, 304] cn In Fn cn25 In25 Fn23 := Fr.mo (Fr.tr hf23 hfc25) (sbl rfl) (sbl rfl) (sbl rfl)
        replace hIn25 : CBXh cn25 := hIn25
        have : cn25 6 = (cn21 6) := hfc25.1 6 (nml rfl)
        refine lv_aload_n hx hb dX5_readClause_79 rfl (lvA0 hl) ?_
        refine lv_iconst (v := 1) hx hb dX5_readClause_80 kic_1 ?_
        have hFc := free_all hD hS hA
        refine va_callv (runV_xa (As := [.int 1]) (rest := []) S (q_RreadCondition_1 l D cI cB cZ zz qq vv bt g ad cn25 In25 Fn23  H.size hIn25 (by omega) (by omega) (by omega) (by omega) (by rw [hf25.2.2 199 (nml rfl)]; exact h9)) kV_RX5_66 hK hXS hS hFc hP hD 3 xo_3 rfl rfl ⟨Nat.le_of_ble_eq_true rfl, Nat.le_of_ble_eq_true rfl⟩ ⟨Nat.le_of_ble_eq_true rfl, Nat.le_of_ble_eq_true rfl⟩ rfl hl.1 rfl (Nat.le_of_ble_eq_true rfl) dX5_readClause_81) hS (fun q _ h => hFc q h) hFc (fun u t H1 locs ht hvm wh_27 hB1 hz1 hk1 hS => ?_)
        obtain ⟨cn27, In27, Fn27⟩ := u
        obtain ⟨hP1, hD1⟩ := hB1
        rw [ht] at hP1
        have hP : va_P D vwCl (wX cI (D.1 99) zz g ad cn27 In27 Fn27) H1 := hP1
        have hD : va_D A (wX cI (D.1 99) zz g ad cn27 In27 Fn27) := hD1.weaken (fun _ _ _ h => hFc _ h)
        generalize H1 = H at hP hS ⊢
        have vh_27 : (fun c2 I2 F2 => Fr [31, 32] [33] [195, 301] cn25 In25 Fn23 c2 I2 F2 ∧ CBX c2 ∧ ((cn25 31) ≤ c2 31 ∧ c2 31 ≤ c2 32 ∧ c2 32 ≤ (cn25 32))) cn27 In27 Fn27 := wh_27
        obtain ⟨hfc27, hIn27, h_27⟩ := vh_27
        have hf27 : Fr [31, 32] [33] [195, 198, 301, 302, 303, 304] cn In Fn cn27 In27 Fn27 := Fr.mo (Fr.tr hf25 hfc27) (sbl rfl) (sbl rfl) (sbl rfl)
        replace hIn27 : CBXh cn27 := hIn27
        have hT198_27 : Fn27 198 = (Fn23 198) := hfc27.2.2 198 (nml rfl)
        have : cn27 6 = (cn25 6) := hfc27.1 6 (nml rfl)
        refine lv_aload_n hx hb dX5_readClause_84 rfl (lvA0 hl) ?_
        refine lv_bipush (v := 41) hx hb dX5_readClause_85 kbc_41 ?_
        have hFc := free_all hD hS hA
        refine va_callv (runV_xa (As := [.int 41]) (rest := []) S (q_Rtake l D cI cB cZ zz qq vv bt g ad cn27 In27 Fn27 41 H.size hIn27 (by omega) (by omega) (by omega) (by omega) (by decide)) kV_RX5_62 hK hXS hS hFc hP hD 3 xo_3 rfl rfl ⟨Nat.le_of_ble_eq_true rfl, Nat.le_of_ble_eq_true rfl⟩ ⟨Nat.le_of_ble_eq_true rfl, Nat.le_of_ble_eq_true rfl⟩ rfl hl.1 rfl (Nat.le_of_ble_eq_true rfl) dX5_readClause_87) hS (fun q _ h => hFc q h) hFc (fun u t H1 locs ht hvm wh_29 hB1 hz1 hk1 hS => ?_)
        obtain ⟨cn29, In29, Fn29⟩ := u
        obtain ⟨hP1, hD1⟩ := hB1
        rw [ht] at hP1
        have hP : va_P D vwCl (wX cI (D.1 99) zz g ad cn29 In29 Fn29) H1 := hP1
        have hD : va_D A (wX cI (D.1 99) zz g ad cn29 In29 Fn29) := hD1.weaken (fun _ _ _ h => hFc _ h)
        generalize H1 = H at hP hS ⊢
        have vh_29 : (fun c2 I2 F2 => Fr [31, 32] [33] [] cn27 In27 Fn27 c2 I2 F2 ∧ CBX c2 ∧ ((cn27 31) ≤ c2 31 ∧ c2 31 ≤ c2 32 ∧ c2 32 ≤ (cn27 32))) cn29 In29 Fn29 := wh_29
        obtain ⟨hfc29, hIn29, h_29⟩ := vh_29
        obtain rfl : Fn27 = Fn29 := (funext (fun k => hfc29.2.2 k List.not_mem_nil)).symm
        have hf29 : Fr [31, 32] [33] [195, 198, 301, 302, 303, 304] cn In Fn cn29 In29 Fn27 := Fr.mo (Fr.tr hf27 hfc29) (sbl rfl) (sbl rfl) (sbl rfl)
        replace hIn29 : CBXh cn29 := hIn29
        have : cn29 6 = (cn27 6) := hfc29.1 6 (nml rfl)
        refine lv_aload_n hx hb dX5_readClause_90 rfl (lvA0 hl) ?_
        refine gf_RX5_20 S hK hP 3 xo_3 (v := .ref (ad 5 (ad 4 1))) rfl dX5_readClause_91 ?_
        have hFc := free_all hD hS hA
        refine va_callv (runV_xa (As := []) (rest := []) S (q_TendClause l D cI cB cZ zz qq vv bt g ad cn29 In29 Fn27 (ad 4 1) H.size hIn29 (by omega)) kV_RX5_69 hK hXS hS hFc hP hD _ (xf_7 (show (ad 4 1) < (cn29 6) by omega)) rfl rfl ⟨Nat.le_of_ble_eq_true rfl, Nat.le_of_ble_eq_true rfl⟩ ⟨Nat.le_of_ble_eq_true rfl, Nat.le_of_ble_eq_true rfl⟩ rfl hl.1 rfl (Nat.le_of_ble_eq_true rfl) dX5_readClause_94) hS (fun q _ h => hFc q h) hFc (fun u t H1 locs ht hvm wh_31 hB1 hz1 hk1 hS => ?_)
        obtain ⟨cn31, In31, Fn31⟩ := u
        obtain ⟨hP1, hD1⟩ := hB1
        rw [ht] at hP1
        have hP : va_P D vwCl (wX cI (D.1 99) zz g ad cn31 In31 Fn31) H1 := hP1
        have hD : va_D A (wX cI (D.1 99) zz g ad cn31 In31 Fn31) := hD1.weaken (fun _ _ _ h => hFc _ h)
        generalize H1 = H at hP hS ⊢
        have vh_31 : (fun c2 I2 F2 => Fr [] [] [198, 304] cn29 In29 Fn27 c2 I2 F2 ∧ CBX c2 ∧ (F2 198 = upd ((Fn27 198)) (ad 4 1) ((Fn27 198) (ad 4 1) + 1))) cn31 In31 Fn31 := wh_31
        obtain ⟨hfc31, hIn31, h_31⟩ := vh_31
        obtain rfl : cn29 = cn31 := (funext (fun k => hfc31.1 k List.not_mem_nil)).symm
        obtain rfl : In29 = In31 := (funext (fun k => hfc31.2.1 k List.not_mem_nil)).symm
        have hf31 : Fr [31, 32] [33] [195, 198, 301, 302, 303, 304] cn In Fn cn29 In29 Fn31 := Fr.mo (Fr.tr hf29 hfc31) (sbl rfl) (sbl rfl) (sbl rfl)
        replace hIn31 : CBXh cn29 := hIn31
        exact W.vret hx hb hr (fun t ht hW => ⟨⟨(cn29, In29, Fn31), rfl, ⟨(Fr.mo hf31 (sbl rfl) (sbl rfl) (sbl rfl)), hIn31, (by show (cn 31 ≤ cn29 31 ∧ cn29 31 ≤ cn29 32 ∧ cn29 32 ≤ cn 32) ∧ ∃ n : Nat, n ≤ 12 ∧ Fn31 198 = upd (Fn 198) (ad 4 1) (nI n); exact ⟨by show cn 31 ≤ (cn29 31) ∧ (cn29 31) ≤ (cn29 32) ∧ (cn29 32) ≤ cn 32; omega, ⟨n0 + 1, by omega, by rw [h_31, hT198_27, hT198_23, hT198_21, hT198_8, es, nI_1]⟩⟩)⟩, by rw [ht]; exact hP, hD⟩, hS.F ht⟩) hS.2.2 dX5_readClause_97
    ·
      have tc_5 : (12 : Int) ≤ (nI n0).toInt := Int32.le_iff_toInt_le.mp (Int32.not_lt.mp c_5)
      refine lv_aload_n hx hb dX5_readClause_29 rfl (lvA0 hl) ?_
      refine lv_iconst (v := 4) hx hb dX5_readClause_30 kic_4 ?_
      have hFc := free_all hD hS hA
      refine va_callv (runV_xa (As := [.int 4]) (rest := []) S (q_Rfail l D cI cB cZ zz qq vv bt g ad cn In Fn 4 s.heap.size hB (by omega) (by omega) (by omega) (by omega)) kV_RX5_47 hK hXS hS hFc hP hD 3 xo_3 rfl rfl ⟨Nat.le_of_ble_eq_true rfl, Nat.le_of_ble_eq_true rfl⟩ ⟨Nat.le_of_ble_eq_true rfl, Nat.le_of_ble_eq_true rfl⟩ rfl hl.1 rfl (Nat.le_of_ble_eq_true rfl) dX5_readClause_31) hS (fun q _ h => hFc q h) hFc (fun u t H1 locs ht hvm wh_33 hB1 hz1 hk1 hS => ?_)
      obtain ⟨cn33, In33, Fn33⟩ := u
      obtain ⟨hP1, hD1⟩ := hB1
      rw [ht] at hP1
      have hP : va_P D vwCl (wX cI (D.1 99) zz g ad cn33 In33 Fn33) H1 := hP1
      have hD : va_D A (wX cI (D.1 99) zz g ad cn33 In33 Fn33) := hD1.weaken (fun _ _ _ h => hFc _ h)
      generalize H1 = H at hP hS ⊢
      have vh_33 : (fun c2 I2 F2 => Fr [32] [33] [] cn In Fn c2 I2 F2 ∧ CBX c2 ∧ (c2 31 = (cn 31) ∧ (cn 31) ≤ c2 32 ∧ c2 32 ≤ (cn 32))) cn33 In33 Fn33 := wh_33
      obtain ⟨hfc33, hIn33, h_33⟩ := vh_33
      obtain rfl : Fn = Fn33 := (funext (fun k => hfc33.2.2 k List.not_mem_nil)).symm
      have hf33 : Fr [31, 32] [33] [195, 198, 301, 302, 303, 304] cn In Fn cn33 In33 Fn := Fr.mo (Fr.tr (Fr.rf (cn := cn) (In := In) (Fn := Fn)) hfc33) (sbl rfl) (sbl rfl) (sbl rfl)
      replace hIn33 : CBXh cn33 := hIn33
      have : cn33 6 = (cn 6) := hfc33.1 6 (nml rfl)
      have : cn33 31 = (cn 31) := hfc33.1 31 (nml rfl)
      exact W.vret hx hb hr (fun t ht hW => ⟨⟨(cn33, In33, Fn), rfl, ⟨(Fr.mo hf33 (sbl rfl) (sbl rfl) (sbl rfl)), hIn33, (by show (cn 31 ≤ cn33 31 ∧ cn33 31 ≤ cn33 32 ∧ cn33 32 ≤ cn 32) ∧ ∃ n : Nat, n ≤ 12 ∧ Fn 198 = upd (Fn 198) (ad 4 1) (nI n); exact ⟨by show cn 31 ≤ (cn33 31) ∧ (cn33 31) ≤ (cn33 32) ∧ (cn33 32) ≤ cn 32; omega, ⟨n0, hn, upd_id9 es⟩⟩)⟩, by rw [ht]; exact hP, hD⟩, hS.F ht⟩) hS.2.2 dX5_readClause_34
  ·
    have tc_3 : (r_1.toInt : Int) ≠ (In 30).toInt := fun q => c_3 (Int32.toInt_inj.mp q)
    refine lv_aload_n hx hb dX5_readClause_11 rfl (lvA0 hl) ?_
    refine lv_iconst (v := 1) hx hb dX5_readClause_12 kic_1 ?_
    have hFc := free_all hD hS hA
    refine va_callv (runV_xa (As := [.int 1]) (rest := []) S (q_Rfail l D cI cB cZ zz qq vv bt g ad cn In Fn 1 s.heap.size hB (by omega) (by omega) (by omega) (by omega)) kV_RX5_47 hK hXS hS hFc hP hD 3 xo_3 rfl rfl ⟨Nat.le_of_ble_eq_true rfl, Nat.le_of_ble_eq_true rfl⟩ ⟨Nat.le_of_ble_eq_true rfl, Nat.le_of_ble_eq_true rfl⟩ rfl hl.1 rfl (Nat.le_of_ble_eq_true rfl) dX5_readClause_13) hS (fun q _ h => hFc q h) hFc (fun u t H1 locs ht hvm wh_35 hB1 hz1 hk1 hS => ?_)
    obtain ⟨cn35, In35, Fn35⟩ := u
    obtain ⟨hP1, hD1⟩ := hB1
    rw [ht] at hP1
    have hP : va_P D vwCl (wX cI (D.1 99) zz g ad cn35 In35 Fn35) H1 := hP1
    have hD : va_D A (wX cI (D.1 99) zz g ad cn35 In35 Fn35) := hD1.weaken (fun _ _ _ h => hFc _ h)
    generalize H1 = H at hP hS ⊢
    have vh_35 : (fun c2 I2 F2 => Fr [32] [33] [] cn In Fn c2 I2 F2 ∧ CBX c2 ∧ (c2 31 = (cn 31) ∧ (cn 31) ≤ c2 32 ∧ c2 32 ≤ (cn 32))) cn35 In35 Fn35 := wh_35
    obtain ⟨hfc35, hIn35, h_35⟩ := vh_35
    obtain rfl : Fn = Fn35 := (funext (fun k => hfc35.2.2 k List.not_mem_nil)).symm
    have hf35 : Fr [31, 32] [33] [195, 198, 301, 302, 303, 304] cn In Fn cn35 In35 Fn := Fr.mo (Fr.tr (Fr.rf (cn := cn) (In := In) (Fn := Fn)) hfc35) (sbl rfl) (sbl rfl) (sbl rfl)
    replace hIn35 : CBXh cn35 := hIn35
    have : cn35 6 = (cn 6) := hfc35.1 6 (nml rfl)
    have : cn35 31 = (cn 31) := hfc35.1 31 (nml rfl)
    exact W.vret hx hb hr (fun t ht hW => ⟨⟨(cn35, In35, Fn), rfl, ⟨(Fr.mo hf35 (sbl rfl) (sbl rfl) (sbl rfl)), hIn35, (by show (cn 31 ≤ cn35 31 ∧ cn35 31 ≤ cn35 32 ∧ cn35 32 ≤ cn 32) ∧ ∃ n : Nat, n ≤ 12 ∧ Fn 198 = upd (Fn 198) (ad 4 1) (nI n); exact ⟨by show cn 31 ≤ (cn35 31) ∧ (cn35 31) ≤ (cn35 32) ∧ (cn35 32) ≤ cn 32; omega, ⟨n0, hn, upd_id9 es⟩⟩)⟩, by rw [ht]; exact hP, hD⟩, hS.F ht⟩) hS.2.2 dX5_readClause_16
set_option maxRecDepth 100000 in
set_option maxHeartbeats 4000000 in
theorem q_Rread (l : Launch) (D : va_G) (cI cB cZ : ClassId) (zz qq vv : Nat) (bt : Nat → Int32) (g : Nat → Nat) (ad : Nat → Nat → Nat) (cn : Nat → Nat) (In : Nat → Int32) (Fn : Nat → Nat → Int32) (n0 : Nat) (v1 : Int32) (sz : Nat) (hB : CBX cn) (h0 : 1 ≤ n0 ∧ n0 ≤ 160) (h8 : 0 ≤ v1.toInt) (hT : (∀ k : Nat, k < cn 10 → ad 3 k < cn 6) ∧ ad 4 0 < cn 6 ∧ ad 4 1 < cn 6) (hC : ∀ k : Nat, k < cn 6 → ∃ n : Nat, n ≤ 12 ∧ Fn 198 k = nI n) (hL : ∀ k : Nat, k < cn 6 → (Fn 199 k).toInt ≤ 160) : Met l yX5_read (CWS yX5_read cX5_read 4 (some (.object "OilHome$Text"))) (RM 26 6 237) (PBx [.ref (g 6), .ref (g 5), .int (nI n0), .int v1] D cI cB cZ zz qq vv bt (wX cI (D.1 99) zz g ad cn In Fn) sz) (va_Qq (fun (r : Option Nat) (u : (Nat → Nat → Nat) × (Nat → Nat) × (Nat → Int32) × (Nat → Nat → Int32)) => (fun r a2 c2 I2 F2 => Fr [6, 31, 32] [30, 33] [195, 196, 197, 198, 199, 301, 302, 303, 304, 305] cn In Fn c2 I2 F2 ∧ CBX c2 ∧ r = some (a2 5 (a2 4 1)) ∧ c2 6 = cn 6 + 1 ∧ a2 4 1 = cn 6 ∧ (∀ i k : Nat, i ∉ [4, 5, 60, 61, 62, 63, 64] → a2 i k = ad i k) ∧ a2 4 0 = ad 4 0 ∧ (∀ k : Nat, k < c2 6 → ∃ n : Nat, n ≤ 12 ∧ F2 198 k = nI n) ∧ ∀ k : Nat, k < c2 6 → (F2 199 k).toInt ≤ 160) r u.1 u.2.1 u.2.2.1 u.2.2.2) (fun (u : (Nat → Nat → Nat) × (Nat → Nat) × (Nat → Int32) × (Nat → Nat → Int32)) (t : State) => va_P D vwCl (wX cI (D.1 99) zz g u.1 u.2.1 u.2.2.1 u.2.2.2) t.heap ∧ va_D (va_A (wX cI (D.1 99) zz g ad cn In Fn) sz) (wX cI (D.1 99) zz g u.1 u.2.1 u.2.2.1 u.2.2.2)) (va_A (wX cI (D.1 99) zz g ad cn In Fn) sz)) 6 237 (va_A (wX cI (D.1 99) zz g ad cn In Fn) sz) := by
  refine en_x (fun A => (va_Qq (fun (r : Option Nat) (u : (Nat → Nat → Nat) × (Nat → Nat) × (Nat → Int32) × (Nat → Nat → Int32)) => (fun (r : Option Nat) (a2 : Nat → Nat → Nat) (c2 : Nat → Nat) (I2 : Nat → Int32) (F2 : Nat → Nat → Int32) => Fr [6, 31, 32] [30, 33] [195, 196, 197, 198, 199, 301, 302, 303, 304, 305] cn In Fn c2 I2 F2 ∧ CBX c2 ∧ r = some (a2 5 (a2 4 1)) ∧ c2 6 = cn 6 + 1 ∧ a2 4 1 = cn 6 ∧ (∀ i k : Nat, i ∉ [4, 5, 60, 61, 62, 63, 64] → a2 i k = ad i k) ∧ a2 4 0 = ad 4 0 ∧ (∀ k : Nat, k < c2 6 → ∃ n : Nat, n ≤ 12 ∧ F2 198 k = nI n) ∧ ∀ k : Nat, k < c2 6 → (F2 199 k).toInt ≤ 160) r u.1 u.2.1 u.2.2.1 u.2.2.2) (fun (u : (Nat → Nat → Nat) × (Nat → Nat) × (Nat → Int32) × (Nat → Nat → Int32)) (t : State) => va_P D vwCl (wX cI (D.1 99) zz g u.1 u.2.1 u.2.2.1 u.2.2.2) t.heap ∧ va_D A (wX cI (D.1 99) zz g u.1 u.2.1 u.2.2.1 u.2.2.2)) A)) rfl rfl pn_RX5 (Nat.le_of_ble_eq_true rfl) (fun p e s m below meth c A hx hb hml hown S hr hlocks hnm hA hP hK hD hXS hS ls hl => ?_)
  have hl : lv_has ls 4 [(0, .ref (g 6)), (1, .ref (g 5)), (2, .int (nI n0)), (3, .int v1)] := hl
  refine lv_aload_n hx hb dX5_read_0 rfl (lvA0 hl) ?_
  refine lv_aload_n hx hb dX5_read_1 rfl (lvA1 hl) ?_
  refine gf_RX5_24 S hK hP 1 xo_1 (v := .ref (g 40)) rfl dX5_read_2 ?_
  refine pf_RX5_9 S hK hP hD hS 3 xo_3 (v := .ref (g 40)) (Nat.le_of_ble_eq_true rfl) rfl rfl dX5_read_5 (fun H locs hP hD hS => ?_)
  have hP : va_P D vwCl (wX cI (D.1 99) zz g (adO ad 4 2 (g 40)) cn In Fn) H := va_P_eq xR42 hP
  have hD : va_D A (wX cI (D.1 99) zz g (adO ad 4 2 (g 40)) cn In Fn) := va_D_eq xR42 hD
  refine lv_aload_n hx hb dX5_read_8 rfl (lvA0 hl) ?_
  refine va_new (ci := 10) (fs := [.null, .null, .null, .null, .null, .int 0, .int 0, .int 0, .int 0]) (C := RX9) (T := TX9) (N := 9) hx hb S.2.2.2.2 hin_RX9 tyX9 tyX9_ok hown (S.2.2.2.2 _ (wk1_7 11 rfl rfl)) (S.2.2.2.2 _ (wk1_3 0 rfl rfl)) (S.2.2.2.2 _ (wk1_0 2 rfl rfl)) hK.1 hP hD hS hA rfl (by decide +kernel) (Nat.le_of_ble_eq_true rfl) (Nat.le_of_ble_eq_true rfl) dX5_read_9 (fun q9 H hP hD hS => ?_)
  have hP : va_P D vwCl ((wX cI (D.1 99) zz g (adO ad 4 2 (g 40)) cn In Fn) ++ ([(q9, .inr (10, [.null, .null, .null, .null, .null, .int 0, .int 0, .int 0, .int 0]))] : va_W)) H := hP
  have hD : va_D A ((wX cI (D.1 99) zz g (adO ad 4 2 (g 40)) cn In Fn) ++ ([(q9, .inr (10, [.null, .null, .null, .null, .null, .int 0, .int 0, .int 0, .int 0]))] : va_W)) := hD
  refine lv_dup hx hb dX5_read_12 rfl ?_
  refine lv_iload_n hx hb dX5_read_13 rfl (lvA2 hl) ?_
  have hFc := va_free (wc := [(q9, .inr (10, [.null, .null, .null, .null, .null, .int 0, .int 0, .int 0, .int 0]))]) hD hS hA [_] (one_im (exr (m := 0) rfl))
  refine va_callv (runI_w (As := [.int (nI n0)]) (rest := [.ref q9, .ref (g 6)]) S (q_l_TextN l D cI cB cZ q9 n0 H.size (by omega)) kI_RX5_17 hK hP hD [_] (one_is (exr (m := 0) rfl)) (one_im (exr (m := 0) rfl)) rfl ⟨Nat.le_of_ble_eq_true rfl, Nat.le_of_ble_eq_true rfl⟩ ⟨Nat.le_of_ble_eq_true rfl, Nat.le_of_ble_eq_true rfl⟩ rfl hl.1 rfl (Nat.le_of_ble_eq_true rfl) dX5_read_14) hS (fun q _ h => hFc q h) hFc (fun u_1 t H1 locs ht hvm h_2 hB1 hz1 hk1 hS => ?_)
  obtain ⟨hP1, hD1⟩ := hB1
  rw [ht] at hP1
  obtain ⟨hP, hD⟩ := exjoin hP hD hk1 hFc hP1 hD1
  generalize H1 = H at hP hS ⊢
  have hP : va_P D vwCl ((wX cI (D.1 99) zz g (adO ad 4 2 (g 40)) cn In Fn) ++ ([(q9, .inr (10, [.ref (u_1 0), .ref (u_1 1), .ref (u_1 2), .ref (u_1 3), .ref (u_1 4), .int 0, .int 0, .int 0, .int 0])), ((u_1 0), .inl (cI, n0, .inl (fun _ => 0))), ((u_1 1), .inl (cI, 12, .inl (fun _ => 0))), ((u_1 2), .inl (cI, 12, .inl (fun _ => 0))), ((u_1 3), .inl (cI, 12, .inl (fun _ => 0))), ((u_1 4), .inl (cI, 32, .inl (fun _ => 0)))] : va_W)) H := hP
  have hD : va_D A ((wX cI (D.1 99) zz g (adO ad 4 2 (g 40)) cn In Fn) ++ ([(q9, .inr (10, [.ref (u_1 0), .ref (u_1 1), .ref (u_1 2), .ref (u_1 3), .ref (u_1 4), .int 0, .int 0, .int 0, .int 0])), ((u_1 0), .inl (cI, n0, .inl (fun _ => 0))), ((u_1 1), .inl (cI, 12, .inl (fun _ => 0))), ((u_1 2), .inl (cI, 12, .inl (fun _ => 0))), ((u_1 3), .inl (cI, 12, .inl (fun _ => 0))), ((u_1 4), .inl (cI, 32, .inl (fun _ => 0)))] : va_W)) := hD
  refine pf_RX5_20 S hK hP hD hS _ (exl xo_3) (v := .ref q9) (Nat.le_of_ble_eq_true rfl) rfl rfl dX5_read_17 (fun H locs hP hD hS => ?_)
  have hP : va_P D vwCl (wX cI (D.1 99) zz g (adO (adO (adO (adO (adO (adO (adO (adO ad 4 2 (g 40)) 5 (cn 6) q9) 60 (cn 6) (u_1 0)) 61 (cn 6) (u_1 1)) 62 (cn 6) (u_1 2)) 63 (cn 6) (u_1 3)) 64 (cn 6) (u_1 4)) 4 1 (cn 6)) (va_up cn 6 (cn 6 + 1)) In (va_up (va_up (va_up (va_up (va_up (va_up (va_up (va_up (va_up (va_up Fn 195 (upd (Fn 195) (cn 6) 0)) 196 (upd (Fn 196) (cn 6) 0)) 197 (upd (Fn 197) (cn 6) 0)) 198 (upd (Fn 198) (cn 6) 0)) 199 (upd (Fn 199) (cn 6) (nI n0))) 301 (flat (Fn 301) 200 (cn 6) (fun _ => 0))) 302 (flat (Fn 302) 12 (cn 6) (fun _ => 0))) 303 (flat (Fn 303) 12 (cn 6) (fun _ => 0))) 304 (flat (Fn 304) 12 (cn 6) (fun _ => 0))) 305 (flat (Fn 305) 32 (cn 6) (fun _ => 0)))) H := va_P_perm (xaddT (ad := (adO ad 4 2 (g 40))) (qt := q9) (r0 := (u_1 0)) (r1 := (u_1 1)) (r2 := (u_1 2)) (r3 := (u_1 3)) (r4 := (u_1 4)) (n := n0) (fun k hk => by simpa [adO] using hT.1 k hk) (by simpa [adO] using hT.2.1) (by rw [nI_toInt (by omega)]; rfl)) (va_P_eq (exs_l xo_3 rfl) hP)
  have hD : va_D A (wX cI (D.1 99) zz g (adO (adO (adO (adO (adO (adO (adO (adO ad 4 2 (g 40)) 5 (cn 6) q9) 60 (cn 6) (u_1 0)) 61 (cn 6) (u_1 1)) 62 (cn 6) (u_1 2)) 63 (cn 6) (u_1 3)) 64 (cn 6) (u_1 4)) 4 1 (cn 6)) (va_up cn 6 (cn 6 + 1)) In (va_up (va_up (va_up (va_up (va_up (va_up (va_up (va_up (va_up (va_up Fn 195 (upd (Fn 195) (cn 6) 0)) 196 (upd (Fn 196) (cn 6) 0)) 197 (upd (Fn 197) (cn 6) 0)) 198 (upd (Fn 198) (cn 6) 0)) 199 (upd (Fn 199) (cn 6) (nI n0))) 301 (flat (Fn 301) 200 (cn 6) (fun _ => 0))) 302 (flat (Fn 302) 12 (cn 6) (fun _ => 0))) 303 (flat (Fn 303) 12 (cn 6) (fun _ => 0))) 304 (flat (Fn 304) 12 (cn 6) (fun _ => 0))) 305 (flat (Fn 305) 32 (cn 6) (fun _ => 0)))) := va_D_perm (xaddT (ad := (adO ad 4 2 (g 40))) (qt := q9) (r0 := (u_1 0)) (r1 := (u_1 1)) (r2 := (u_1 2)) (r3 := (u_1 3)) (r4 := (u_1 4)) (n := n0) (fun k hk => by simpa [adO] using hT.1 k hk) (by simpa [adO] using hT.2.1) (by rw [nI_toInt (by omega)]; rfl)) (va_D_eq (exs_l xo_3 rfl) hD)
  obtain ⟨a9, ha9⟩ : ∃ a : Nat → Nat → Nat, a = (adO (adO (adO (adO (adO (adO (adO (adO ad 4 2 (g 40)) 5 (cn 6) q9) 60 (cn 6) (u_1 0)) 61 (cn 6) (u_1 1)) 62 (cn 6) (u_1 2)) 63 (cn 6) (u_1 3)) 64 (cn 6) (u_1 4)) 4 1 (cn 6)) := ⟨_, rfl⟩
  rw [← ha9] at hP hD
  have hR : a9 4 2 = g 40 := by rw [ha9]; simp [adO]
  have h41 : a9 4 1 = cn 6 := by rw [ha9]; simp [adO]
  have h40 : a9 4 0 = ad 4 0 := by rw [ha9]; simp [adO]
  have h43 : ∀ k : Nat, a9 3 k = ad 3 k := fun k => by rw [ha9]; simp [adO]
  have hfa : ∀ i k : Nat, i ∉ [4, 5, 60, 61, 62, 63, 64] → a9 i k = ad i k := fun i k hi => by
    simp only [List.mem_cons, List.not_mem_nil, or_false, not_or] at hi
    rw [ha9]; simp [adO, hi]
  refine lv_aload_n hx hb dX5_read_20 rfl (lvA0 hl) ?_
  refine lv_iload_n hx hb dX5_read_21 rfl (lvA3 hl) ?_
  refine pf_RX5_27 S hK hP hD hS 3 xo_3 (v := .int v1) (Nat.le_of_ble_eq_true rfl) rfl rfl dX5_read_22 (fun H locs hP hD hS => ?_)
  have hP : va_P D vwCl (wX cI (D.1 99) zz g a9 (va_up cn 6 (cn 6 + 1)) (va_up In 30 v1) (va_up (va_up (va_up (va_up (va_up (va_up (va_up (va_up (va_up (va_up Fn 195 (upd (Fn 195) (cn 6) 0)) 196 (upd (Fn 196) (cn 6) 0)) 197 (upd (Fn 197) (cn 6) 0)) 198 (upd (Fn 198) (cn 6) 0)) 199 (upd (Fn 199) (cn 6) (nI n0))) 301 (flat (Fn 301) 200 (cn 6) (fun _ => 0))) 302 (flat (Fn 302) 12 (cn 6) (fun _ => 0))) 303 (flat (Fn 303) 12 (cn 6) (fun _ => 0))) 304 (flat (Fn 304) 12 (cn 6) (fun _ => 0))) 305 (flat (Fn 305) 32 (cn 6) (fun _ => 0)))) H := va_P_eq xsf_3_2 hP
  have hD : va_D A (wX cI (D.1 99) zz g a9 (va_up cn 6 (cn 6 + 1)) (va_up In 30 v1) (va_up (va_up (va_up (va_up (va_up (va_up (va_up (va_up (va_up (va_up Fn 195 (upd (Fn 195) (cn 6) 0)) 196 (upd (Fn 196) (cn 6) 0)) 197 (upd (Fn 197) (cn 6) 0)) 198 (upd (Fn 198) (cn 6) 0)) 199 (upd (Fn 199) (cn 6) (nI n0))) 301 (flat (Fn 301) 200 (cn 6) (fun _ => 0))) 302 (flat (Fn 302) 12 (cn 6) (fun _ => 0))) 303 (flat (Fn 303) 12 (cn 6) (fun _ => 0))) 304 (flat (Fn 304) 12 (cn 6) (fun _ => 0))) 305 (flat (Fn 305) 32 (cn 6) (fun _ => 0)))) := va_D_eq xsf_3_2 hD
  refine lv_aload_n hx hb dX5_read_25 rfl (lvA0 hl) ?_
  refine lv_iconst (v := 0) hx hb dX5_read_26 kic_0 ?_
  refine pf_RX5_31 S hK hP hD hS 3 xo_3 (v := .int 0) (Nat.le_of_ble_eq_true rfl) rfl rfl dX5_read_27 (fun H locs hP hD hS => ?_)
  have hP : va_P D vwCl (wX cI (D.1 99) zz g a9 (va_up (va_up cn 6 (cn 6 + 1)) 31 0) (va_up In 30 v1) (va_up (va_up (va_up (va_up (va_up (va_up (va_up (va_up (va_up (va_up Fn 195 (upd (Fn 195) (cn 6) 0)) 196 (upd (Fn 196) (cn 6) 0)) 197 (upd (Fn 197) (cn 6) 0)) 198 (upd (Fn 198) (cn 6) 0)) 199 (upd (Fn 199) (cn 6) (nI n0))) 301 (flat (Fn 301) 200 (cn 6) (fun _ => 0))) 302 (flat (Fn 302) 12 (cn 6) (fun _ => 0))) 303 (flat (Fn 303) 12 (cn 6) (fun _ => 0))) 304 (flat (Fn 304) 12 (cn 6) (fun _ => 0))) 305 (flat (Fn 305) 32 (cn 6) (fun _ => 0)))) H := va_P_eq xsf_3_3 hP
  have hD : va_D A (wX cI (D.1 99) zz g a9 (va_up (va_up cn 6 (cn 6 + 1)) 31 0) (va_up In 30 v1) (va_up (va_up (va_up (va_up (va_up (va_up (va_up (va_up (va_up (va_up Fn 195 (upd (Fn 195) (cn 6) 0)) 196 (upd (Fn 196) (cn 6) 0)) 197 (upd (Fn 197) (cn 6) 0)) 198 (upd (Fn 198) (cn 6) 0)) 199 (upd (Fn 199) (cn 6) (nI n0))) 301 (flat (Fn 301) 200 (cn 6) (fun _ => 0))) 302 (flat (Fn 302) 12 (cn 6) (fun _ => 0))) 303 (flat (Fn 303) 12 (cn 6) (fun _ => 0))) 304 (flat (Fn 304) 12 (cn 6) (fun _ => 0))) 305 (flat (Fn 305) 32 (cn 6) (fun _ => 0)))) := va_D_eq xsf_3_3 hD
  refine lv_aload_n hx hb dX5_read_30 rfl (lvA0 hl) ?_
  refine lv_iload_n hx hb dX5_read_31 rfl (lvA2 hl) ?_
  refine pf_RX5_34 S hK hP hD hS 3 xo_3 (v := .int (nI n0)) (Nat.le_of_ble_eq_true rfl) rfl rfl dX5_read_32 (fun H locs hP hD hS => ?_)
  have hP : va_P D vwCl (wX cI (D.1 99) zz g a9 (va_up (va_up (va_up cn 6 (cn 6 + 1)) 31 0) 32 n0) (va_up In 30 v1) (va_up (va_up (va_up (va_up (va_up (va_up (va_up (va_up (va_up (va_up Fn 195 (upd (Fn 195) (cn 6) 0)) 196 (upd (Fn 196) (cn 6) 0)) 197 (upd (Fn 197) (cn 6) 0)) 198 (upd (Fn 198) (cn 6) 0)) 199 (upd (Fn 199) (cn 6) (nI n0))) 301 (flat (Fn 301) 200 (cn 6) (fun _ => 0))) 302 (flat (Fn 302) 12 (cn 6) (fun _ => 0))) 303 (flat (Fn 303) 12 (cn 6) (fun _ => 0))) 304 (flat (Fn 304) 12 (cn 6) (fun _ => 0))) 305 (flat (Fn 305) 32 (cn 6) (fun _ => 0)))) H := va_P_eq xsf_3_4 hP
  have hD : va_D A (wX cI (D.1 99) zz g a9 (va_up (va_up (va_up cn 6 (cn 6 + 1)) 31 0) 32 n0) (va_up In 30 v1) (va_up (va_up (va_up (va_up (va_up (va_up (va_up (va_up (va_up (va_up Fn 195 (upd (Fn 195) (cn 6) 0)) 196 (upd (Fn 196) (cn 6) 0)) 197 (upd (Fn 197) (cn 6) 0)) 198 (upd (Fn 198) (cn 6) 0)) 199 (upd (Fn 199) (cn 6) (nI n0))) 301 (flat (Fn 301) 200 (cn 6) (fun _ => 0))) 302 (flat (Fn 302) 12 (cn 6) (fun _ => 0))) 303 (flat (Fn 303) 12 (cn 6) (fun _ => 0))) 304 (flat (Fn 304) 12 (cn 6) (fun _ => 0))) 305 (flat (Fn 305) 32 (cn 6) (fun _ => 0)))) := va_D_eq xsf_3_4 hD
  refine lv_aload_n hx hb dX5_read_35 rfl (lvA0 hl) ?_
  refine lv_iconst (v := 0) hx hb dX5_read_36 kic_0 ?_
  refine pf_RX5_37 S hK hP hD hS 3 xo_3 (v := .int 0) (Nat.le_of_ble_eq_true rfl) rfl rfl dX5_read_37 (fun H locs hP hD hS => ?_)
  have hP : va_P D vwCl (wX cI (D.1 99) zz g a9 (va_up (va_up (va_up cn 6 (cn 6 + 1)) 31 0) 32 n0) (va_up (va_up In 30 v1) 33 0) (va_up (va_up (va_up (va_up (va_up (va_up (va_up (va_up (va_up (va_up Fn 195 (upd (Fn 195) (cn 6) 0)) 196 (upd (Fn 196) (cn 6) 0)) 197 (upd (Fn 197) (cn 6) 0)) 198 (upd (Fn 198) (cn 6) 0)) 199 (upd (Fn 199) (cn 6) (nI n0))) 301 (flat (Fn 301) 200 (cn 6) (fun _ => 0))) 302 (flat (Fn 302) 12 (cn 6) (fun _ => 0))) 303 (flat (Fn 303) 12 (cn 6) (fun _ => 0))) 304 (flat (Fn 304) 12 (cn 6) (fun _ => 0))) 305 (flat (Fn 305) 32 (cn 6) (fun _ => 0)))) H := va_P_eq xsf_3_5 hP
  have hD : va_D A (wX cI (D.1 99) zz g a9 (va_up (va_up (va_up cn 6 (cn 6 + 1)) 31 0) 32 n0) (va_up (va_up In 30 v1) 33 0) (va_up (va_up (va_up (va_up (va_up (va_up (va_up (va_up (va_up (va_up Fn 195 (upd (Fn 195) (cn 6) 0)) 196 (upd (Fn 196) (cn 6) 0)) 197 (upd (Fn 197) (cn 6) 0)) 198 (upd (Fn 198) (cn 6) 0)) 199 (upd (Fn 199) (cn 6) (nI n0))) 301 (flat (Fn 301) 200 (cn 6) (fun _ => 0))) 302 (flat (Fn 302) 12 (cn 6) (fun _ => 0))) 303 (flat (Fn 303) 12 (cn 6) (fun _ => 0))) 304 (flat (Fn 304) 12 (cn 6) (fun _ => 0))) 305 (flat (Fn 305) 32 (cn 6) (fun _ => 0)))) := va_D_eq xsf_3_5 hD
  refine lv_aload_n hx hb dX5_read_40 rfl (lvA0 hl) ?_
  have hFc := free_all hD hS hA
  refine va_callv (runV_xa (As := []) (rest := []) S (q_RreadClause l D cI cB cZ zz qq vv bt g a9 (va_up (va_up (va_up cn 6 (cn 6 + 1)) 31 0) 32 n0) (va_up (va_up In 30 v1) 33 0) (va_up (va_up (va_up (va_up (va_up (va_up (va_up (va_up (va_up (va_up Fn 195 (upd (Fn 195) (cn 6) 0)) 196 (upd (Fn 196) (cn 6) 0)) 197 (upd (Fn 197) (cn 6) 0)) 198 (upd (Fn 198) (cn 6) 0)) 199 (upd (Fn 199) (cn 6) (nI n0))) 301 (flat (Fn 301) 200 (cn 6) (fun _ => 0))) 302 (flat (Fn 302) 12 (cn 6) (fun _ => 0))) 303 (flat (Fn 303) 12 (cn 6) (fun _ => 0))) 304 (flat (Fn 304) 12 (cn 6) (fun _ => 0))) 305 (flat (Fn 305) 32 (cn 6) (fun _ => 0))) 0 H.size (CBX.n (k := 32) (v := n0) (CBX.n (k := 31) (v := 0) (CBX.n (k := 6) (v := (cn 6 + 1)) hB (by decide)) (by decide)) (by decide)) (show a9 4 2 = g 40 by omega) (show a9 4 1 < (cn 6 + 1) by omega) (show 0 ≤ n0 by omega) (show n0 ≤ 160 by omega) (by show (upd (Fn 199) (cn 6) (nI n0) (a9 4 1)).toInt ≤ 160; rw [h41, upd_self, nI_toInt (by omega)]; omega) (by show upd (Fn 198) (cn 6) 0 (a9 4 1) = nI 0; rw [h41, upd_self]; rfl) (by decide) h8) kV_RX5_40 hK hXS hS hFc hP hD 3 xo_3 rfl rfl ⟨Nat.le_of_ble_eq_true rfl, Nat.le_of_ble_eq_true rfl⟩ ⟨Nat.le_of_ble_eq_true rfl, Nat.le_of_ble_eq_true rfl⟩ rfl hl.1 rfl (Nat.le_of_ble_eq_true rfl) dX5_read_41) hS (fun q _ h => hFc q h) hFc (fun u t H1 locs ht hvm wh_4 hB1 hz1 hk1 hS => ?_)
  obtain ⟨cn4, In4, Fn4⟩ := u
  obtain ⟨hP1, hD1⟩ := hB1
  rw [ht] at hP1
  have hP : va_P D vwCl (wX cI (D.1 99) zz g a9 cn4 In4 Fn4) H1 := hP1
  have hD : va_D A (wX cI (D.1 99) zz g a9 cn4 In4 Fn4) := hD1.weaken (fun _ _ _ h => hFc _ h)
  generalize H1 = H at hP hS ⊢
  have vh_4 : (fun c2 I2 F2 => Fr [31, 32] [33] [195, 198, 301, 302, 303, 304] (va_up (va_up (va_up cn 6 (cn 6 + 1)) 31 0) 32 n0) (va_up (va_up In 30 v1) 33 0) (va_up (va_up (va_up (va_up (va_up (va_up (va_up (va_up (va_up (va_up Fn 195 (upd (Fn 195) (cn 6) 0)) 196 (upd (Fn 196) (cn 6) 0)) 197 (upd (Fn 197) (cn 6) 0)) 198 (upd (Fn 198) (cn 6) 0)) 199 (upd (Fn 199) (cn 6) (nI n0))) 301 (flat (Fn 301) 200 (cn 6) (fun _ => 0))) 302 (flat (Fn 302) 12 (cn 6) (fun _ => 0))) 303 (flat (Fn 303) 12 (cn 6) (fun _ => 0))) 304 (flat (Fn 304) 12 (cn 6) (fun _ => 0))) 305 (flat (Fn 305) 32 (cn 6) (fun _ => 0))) c2 I2 F2 ∧ CBX c2 ∧ ((0 ≤ c2 31 ∧ c2 31 ≤ c2 32 ∧ c2 32 ≤ n0) ∧ ∃ n : Nat, n ≤ 12 ∧ F2 198 = upd ((upd (Fn 198) (cn 6) 0)) (a9 4 1) (nI n))) cn4 In4 Fn4 := wh_4
  obtain ⟨hfc4, hIn4, h_4⟩ := vh_4
  have hf4 : Fr [6, 31, 32] [30, 33] [195, 196, 197, 198, 199, 301, 302, 303, 304, 305] cn In Fn cn4 In4 Fn4 := Fr.mo (Fr.tr (Fr.f 305 (Fr.f 304 (Fr.f 303 (Fr.f 302 (Fr.f 301 (Fr.f 199 (Fr.f 198 (Fr.f 197 (Fr.f 196 (Fr.f 195 (Fr.i 33 (Fr.i 30 (Fr.c 32 (Fr.c 31 (Fr.c 6 (Fr.rf (cn := cn) (In := In) (Fn := Fn))))))))))))))))) hfc4) (sbl rfl) (sbl rfl) (sbl rfl)
  have hTI30_4 : In4 30 = v1 := hfc4.2.1 30 (nml rfl)
  have hT199_4 : Fn4 199 = (upd (Fn 199) (cn 6) (nI n0)) := hfc4.2.2 199 (nml rfl)
  have : cn4 0 = (cn 0) := hfc4.1 0 (nml rfl)
  have : cn4 1 = (cn 1) := hfc4.1 1 (nml rfl)
  have : cn4 2 = (cn 2) := hfc4.1 2 (nml rfl)
  have : cn4 3 = (cn 3) := hfc4.1 3 (nml rfl)
  have : cn4 4 = (cn 4) := hfc4.1 4 (nml rfl)
  have : cn4 5 = (cn 5) := hfc4.1 5 (nml rfl)
  have : cn4 10 = (cn 10) := hfc4.1 10 (nml rfl)
  have : cn4 11 = (cn 11) := hfc4.1 11 (nml rfl)
  have : cn4 12 = (cn 12) := hfc4.1 12 (nml rfl)
  have : cn4 13 = (cn 13) := hfc4.1 13 (nml rfl)
  have : cn4 14 = (cn 14) := hfc4.1 14 (nml rfl)
  have : cn4 15 = (cn 15) := hfc4.1 15 (nml rfl)
  have : cn4 20 = (cn 20) := hfc4.1 20 (nml rfl)
  have : cn4 21 = (cn 21) := hfc4.1 21 (nml rfl)
  have : cn4 22 = (cn 22) := hfc4.1 22 (nml rfl)
  have : cn4 23 = (cn 23) := hfc4.1 23 (nml rfl)
  have : cn4 24 = (cn 24) := hfc4.1 24 (nml rfl)
  have : cn4 25 = (cn 25) := hfc4.1 25 (nml rfl)
  have : cn4 6 = (cn 6 + 1) := hfc4.1 6 (nml rfl)
  obtain ⟨h_4, n8, hn8, e8⟩ := h_4
  have lp_44 : ∀ (n : Nat)  (c44 : Nat → Nat) (I44 : Nat → Int32) (F44 : Nat → Nat → Int32) (H : Heap) (locs : List Loc) , c44 32 - c44 31 < n → (Fr [6, 31, 32] [30, 33] [195, 196, 197, 198, 199, 301, 302, 303, 304, 305] cn In Fn c44 I44 F44 ∧ CBX c44 ∧ (c44 31 ≤ c44 32 ∧ c44 32 ≤ n0 ∧ c44 6 = cn 6 + 1) ∧ (I44 30 = v1) ∧ (F44 199 = upd (Fn 199) (cn 6) (nI n0)) ∧ (∃ n : Nat, n ≤ 12 ∧ F44 198 = upd (Fn 198) (cn 6) (nI n))) → va_P D vwCl (wX cI (D.1 99) zz g a9 c44 I44 F44) H → va_D A (wX cI (D.1 99) zz g a9 c44 I44 F44) → va_S A s.heap H locs → ∀ ls : Array Slot, lv_has ls 4 [(0, .ref (g 6)), (1, .ref (g 5)), (2, .int (nI n0)), (3, .int v1)] → W p l e (RM 26 6 237) s m ([.ref (g 6), .ref (g 5), .int (nI n0), .int v1]).toArray below meth c H locs 6 237 (MQ below (va_Qq (fun (r : Option Nat) (u : (Nat → Nat → Nat) × (Nat → Nat) × (Nat → Int32) × (Nat → Nat → Int32)) => (fun r a2 c2 I2 F2 => Fr [6, 31, 32] [30, 33] [195, 196, 197, 198, 199, 301, 302, 303, 304, 305] cn In Fn c2 I2 F2 ∧ CBX c2 ∧ r = some (a2 5 (a2 4 1)) ∧ c2 6 = cn 6 + 1 ∧ a2 4 1 = cn 6 ∧ (∀ i k : Nat, i ∉ [4, 5, 60, 61, 62, 63, 64] → a2 i k = ad i k) ∧ a2 4 0 = ad 4 0 ∧ (∀ k : Nat, k < c2 6 → ∃ n : Nat, n ≤ 12 ∧ F2 198 k = nI n) ∧ ∀ k : Nat, k < c2 6 → (F2 199 k).toInt ≤ 160) r u.1 u.2.1 u.2.2.1 u.2.2.2) (fun (u : (Nat → Nat → Nat) × (Nat → Nat) × (Nat → Int32) × (Nat → Nat → Int32)) (t : State) => va_P D vwCl (wX cI (D.1 99) zz g u.1 u.2.1 u.2.2.1 u.2.2.2) t.heap ∧ va_D A (wX cI (D.1 99) zz g u.1 u.2.1 u.2.2.1 u.2.2.2)) A) ([.ref (g 6), .ref (g 5), .int (nI n0), .int v1]).toArray s 6 237 A) (F0 m 44 ls []) := by
    intro n44
    induction n44 with
    | zero => intros; omega
    | succ n44 ih44 =>
      intro  c44 I44 F44 H locs hmu44 hinv44 hP hD hS ls hl
      obtain ⟨hfr44, hI44, hx44_0, hx44_1, hx44_2, hx44_3⟩ := hinv44
      have : c44 0 = cn 0 := hfr44.1 0 (nml rfl)
      have : c44 1 = cn 1 := hfr44.1 1 (nml rfl)
      have : c44 2 = cn 2 := hfr44.1 2 (nml rfl)
      have : c44 3 = cn 3 := hfr44.1 3 (nml rfl)
      have : c44 4 = cn 4 := hfr44.1 4 (nml rfl)
      have : c44 5 = cn 5 := hfr44.1 5 (nml rfl)
      have : c44 10 = cn 10 := hfr44.1 10 (nml rfl)
      have : c44 11 = cn 11 := hfr44.1 11 (nml rfl)
      have : c44 12 = cn 12 := hfr44.1 12 (nml rfl)
      have : c44 13 = cn 13 := hfr44.1 13 (nml rfl)
      have : c44 14 = cn 14 := hfr44.1 14 (nml rfl)
      have : c44 15 = cn 15 := hfr44.1 15 (nml rfl)
      have : c44 20 = cn 20 := hfr44.1 20 (nml rfl)
      have : c44 21 = cn 21 := hfr44.1 21 (nml rfl)
      have : c44 22 = cn 22 := hfr44.1 22 (nml rfl)
      have : c44 23 = cn 23 := hfr44.1 23 (nml rfl)
      have : c44 24 = cn 24 := hfr44.1 24 (nml rfl)
      have : c44 25 = cn 25 := hfr44.1 25 (nml rfl)
      obtain ⟨n9, hn9, e9⟩ := hx44_3
      refine lv_aload_n hx hb dX5_read_44 rfl (lvA0 hl) ?_
      refine gf_RX5_31 S hK hP 3 xo_3 (v := .int (nI (c44 31))) rfl dX5_read_45 ?_
      refine lv_aload_n hx hb dX5_read_48 rfl (lvA0 hl) ?_
      refine gf_RX5_34 S hK hP 3 xo_3 (v := .int (nI (c44 32))) rfl dX5_read_49 ?_
      have : (nI (c44 31)).toInt = (((c44 31) : Nat) : Int) := nI_toInt (by omega)
      have : (nI (c44 32)).toInt = (((c44 32) : Nat) : Int) := nI_toInt (by omega)
      refine lv_icmp_ge (tgt := 81) hx hb dX5_read_52 rfl (fun c_5 => ?_) (fun c_5 => ?_)
      ·
        have tc_5 : ((nI (c44 32)).toInt : Int) ≤ (nI (c44 31)).toInt := Int32.le_iff_toInt_le.mp c_5
        refine lv_aload_n hx hb dX5_read_81 rfl (lvA0 hl) ?_
        refine gf_RX5_31 S hK hP 3 xo_3 (v := .int (nI (c44 31))) rfl dX5_read_82 ?_
        refine lv_aload_n hx hb dX5_read_85 rfl (lvA0 hl) ?_
        refine gf_RX5_34 S hK hP 3 xo_3 (v := .int (nI (c44 32))) rfl dX5_read_86 ?_
        refine lv_icmp_ge (tgt := 97) hx hb dX5_read_89 rfl (fun c_6 => ?_) (fun c_6 => ?_)
        ·
          have tc_6 : ((nI (c44 32)).toInt : Int) ≤ (nI (c44 31)).toInt := Int32.le_iff_toInt_le.mp c_6
          refine lv_aload_n hx hb dX5_read_97 rfl (lvA0 hl) ?_
          refine gf_RX5_20 S hK hP 3 xo_3 (v := .ref (a9 5 (a9 4 1))) rfl dX5_read_98 ?_
          exact W.aret (v := .ref (a9 5 (a9 4 1))) hx hb hr (Or.inl ⟨_, rfl⟩) (Or.inr ⟨_, rfl⟩) (fun t ht hW => ⟨⟨some (a9 5 (a9 4 1)), (a9, c44, I44, F44), rfl, ⟨(Fr.mo hfr44 (sbl rfl) (sbl rfl) (sbl rfl)), hI44, rfl, (by show (c44 6) = cn 6 + 1; omega), h41, hfa, h40, xtc_new hC (by show (c44 6) = cn 6 + 1; omega) hn9 e9, xsl_new hL (by show (c44 6) = cn 6 + 1; omega) (by omega) hx44_2⟩, by rw [ht]; exact hP, hD⟩, hS.F ht⟩) hS.2.2 dX5_read_101
        ·
          have tc_6 : ((nI (c44 31)).toInt : Int) < (nI (c44 32)).toInt := Int32.lt_iff_toInt_lt.mp (Int32.not_le.mp c_6)
          refine lv_aload_n hx hb dX5_read_92 rfl (lvA0 hl) ?_
          refine lv_iconst (v := 1) hx hb dX5_read_93 kic_1 ?_
          have hFc := free_all hD hS hA
          refine va_callv (runV_xa (As := [.int 1]) (rest := []) S (q_Rfail l D cI cB cZ zz qq vv bt g a9 c44 I44 F44 1 H.size hI44 (by omega) (by omega) (by omega) (by omega)) kV_RX5_47 hK hXS hS hFc hP hD 3 xo_3 rfl rfl ⟨Nat.le_of_ble_eq_true rfl, Nat.le_of_ble_eq_true rfl⟩ ⟨Nat.le_of_ble_eq_true rfl, Nat.le_of_ble_eq_true rfl⟩ rfl hl.1 rfl (Nat.le_of_ble_eq_true rfl) dX5_read_94) hS (fun q _ h => hFc q h) hFc (fun u t H1 locs ht hvm wh_8 hB1 hz1 hk1 hS => ?_)
          obtain ⟨cn8, In8, Fn8⟩ := u
          obtain ⟨hP1, hD1⟩ := hB1
          rw [ht] at hP1
          have hP : va_P D vwCl (wX cI (D.1 99) zz g a9 cn8 In8 Fn8) H1 := hP1
          have hD : va_D A (wX cI (D.1 99) zz g a9 cn8 In8 Fn8) := hD1.weaken (fun _ _ _ h => hFc _ h)
          generalize H1 = H at hP hS ⊢
          have vh_8 : (fun c2 I2 F2 => Fr [32] [33] [] c44 I44 F44 c2 I2 F2 ∧ CBX c2 ∧ (c2 31 = (c44 31) ∧ (c44 31) ≤ c2 32 ∧ c2 32 ≤ (c44 32))) cn8 In8 Fn8 := wh_8
          obtain ⟨hfc8, hIn8, h_8⟩ := vh_8
          obtain rfl : F44 = Fn8 := (funext (fun k => hfc8.2.2 k List.not_mem_nil)).symm
          have hf8 : Fr [6, 31, 32] [30, 33] [195, 196, 197, 198, 199, 301, 302, 303, 304, 305] cn In Fn cn8 In8 F44 := Fr.mo (Fr.tr hfr44 hfc8) (sbl rfl) (sbl rfl) (sbl rfl)
          have hTI30_8 : In8 30 = (I44 30) := hfc8.2.1 30 (nml rfl)
          have : cn8 0 = (c44 0) := hfc8.1 0 (nml rfl)
          have : cn8 1 = (c44 1) := hfc8.1 1 (nml rfl)
          have : cn8 2 = (c44 2) := hfc8.1 2 (nml rfl)
          have : cn8 3 = (c44 3) := hfc8.1 3 (nml rfl)
          have : cn8 4 = (c44 4) := hfc8.1 4 (nml rfl)
          have : cn8 5 = (c44 5) := hfc8.1 5 (nml rfl)
          have : cn8 10 = (c44 10) := hfc8.1 10 (nml rfl)
          have : cn8 11 = (c44 11) := hfc8.1 11 (nml rfl)
          have : cn8 12 = (c44 12) := hfc8.1 12 (nml rfl)
          have : cn8 13 = (c44 13) := hfc8.1 13 (nml rfl)
          have : cn8 14 = (c44 14) := hfc8.1 14 (nml rfl)
          have : cn8 15 = (c44 15) := hfc8.1 15 (nml rfl)
          have : cn8 20 = (c44 20) := hfc8.1 20 (nml rfl)
          have : cn8 21 = (c44 21) := hfc8.1 21 (nml rfl)
          have : cn8 22 = (c44 22) := hfc8.1 22 (nml rfl)
          have : cn8 23 = (c44 23) := hfc8.1 23 (nml rfl)
          have : cn8 24 = (c44 24) := hfc8.1 24 (nml rfl)
          have : cn8 25 = (c44 25) := hfc8.1 25 (nml rfl)
          have : cn8 6 = (c44 6) := hfc8.1 6 (nml rfl)
          have : cn8 31 = (c44 31) := hfc8.1 31 (nml rfl)
          refine lv_aload_n hx hb dX5_read_97 rfl (lvA0 hl) ?_
          refine gf_RX5_20 S hK hP 3 xo_3 (v := .ref (a9 5 (a9 4 1))) rfl dX5_read_98 ?_
          exact W.aret (v := .ref (a9 5 (a9 4 1))) hx hb hr (Or.inl ⟨_, rfl⟩) (Or.inr ⟨_, rfl⟩) (fun t ht hW => ⟨⟨some (a9 5 (a9 4 1)), (a9, cn8, In8, F44), rfl, ⟨(Fr.mo hf8 (sbl rfl) (sbl rfl) (sbl rfl)), hIn8, rfl, (by show (cn8 6) = cn 6 + 1; omega), h41, hfa, h40, xtc_new hC (by show (cn8 6) = cn 6 + 1; omega) hn9 e9, xsl_new hL (by show (cn8 6) = cn 6 + 1; omega) (by omega) hx44_2⟩, by rw [ht]; exact hP, hD⟩, hS.F ht⟩) hS.2.2 dX5_read_101
      ·
        have tc_5 : ((nI (c44 31)).toInt : Int) < (nI (c44 32)).toInt := Int32.lt_iff_toInt_lt.mp (Int32.not_le.mp c_5)
        refine lv_aload_n hx hb dX5_read_55 rfl (lvA0 hl) ?_
        refine vp_callSi (runV_rxa (As := []) (rest := []) S (q_Rpeek l D cI cB cZ zz qq vv bt g a9 c44 I44 F44  hI44 (by omega) (by omega) (by omega) (by omega)) kV_RX5_43 hK hXS hS hP 3 xo_3 rfl rfl ⟨Nat.le_of_ble_eq_true rfl, Nat.le_of_ble_eq_true rfl⟩ ⟨Nat.le_of_ble_eq_true rfl, Nat.le_of_ble_eq_true rfl⟩ rfl hl.1 rfl (Nat.le_of_ble_eq_true rfl) dX5_read_56) (fun r_9 h_10 => ?_)
        refine lv_bipush (v := 59) hx hb dX5_read_59 kbc_59 ?_
        refine lv_icmp_ne (tgt := 81) hx hb dX5_read_61 rfl (fun c_11 => ?_) (fun c_11 => ?_)
        ·
          have tc_11 : (r_9.toInt : Int) ≠ 59 := fun q => c_11 (Int32.toInt_inj.mp q)
          refine lv_aload_n hx hb dX5_read_81 rfl (lvA0 hl) ?_
          refine gf_RX5_31 S hK hP 3 xo_3 (v := .int (nI (c44 31))) rfl dX5_read_82 ?_
          refine lv_aload_n hx hb dX5_read_85 rfl (lvA0 hl) ?_
          refine gf_RX5_34 S hK hP 3 xo_3 (v := .int (nI (c44 32))) rfl dX5_read_86 ?_
          refine lv_icmp_ge (tgt := 97) hx hb dX5_read_89 rfl (fun c_12 => ?_) (fun c_12 => ?_)
          ·
            have tc_12 : ((nI (c44 32)).toInt : Int) ≤ (nI (c44 31)).toInt := Int32.le_iff_toInt_le.mp c_12
            refine lv_aload_n hx hb dX5_read_97 rfl (lvA0 hl) ?_
            refine gf_RX5_20 S hK hP 3 xo_3 (v := .ref (a9 5 (a9 4 1))) rfl dX5_read_98 ?_
            exact W.aret (v := .ref (a9 5 (a9 4 1))) hx hb hr (Or.inl ⟨_, rfl⟩) (Or.inr ⟨_, rfl⟩) (fun t ht hW => ⟨⟨some (a9 5 (a9 4 1)), (a9, c44, I44, F44), rfl, ⟨(Fr.mo hfr44 (sbl rfl) (sbl rfl) (sbl rfl)), hI44, rfl, (by show (c44 6) = cn 6 + 1; omega), h41, hfa, h40, xtc_new hC (by show (c44 6) = cn 6 + 1; omega) hn9 e9, xsl_new hL (by show (c44 6) = cn 6 + 1; omega) (by omega) hx44_2⟩, by rw [ht]; exact hP, hD⟩, hS.F ht⟩) hS.2.2 dX5_read_101
          ·
            have tc_12 : ((nI (c44 31)).toInt : Int) < (nI (c44 32)).toInt := Int32.lt_iff_toInt_lt.mp (Int32.not_le.mp c_12)
            refine lv_aload_n hx hb dX5_read_92 rfl (lvA0 hl) ?_
            refine lv_iconst (v := 1) hx hb dX5_read_93 kic_1 ?_
            have hFc := free_all hD hS hA
            refine va_callv (runV_xa (As := [.int 1]) (rest := []) S (q_Rfail l D cI cB cZ zz qq vv bt g a9 c44 I44 F44 1 H.size hI44 (by omega) (by omega) (by omega) (by omega)) kV_RX5_47 hK hXS hS hFc hP hD 3 xo_3 rfl rfl ⟨Nat.le_of_ble_eq_true rfl, Nat.le_of_ble_eq_true rfl⟩ ⟨Nat.le_of_ble_eq_true rfl, Nat.le_of_ble_eq_true rfl⟩ rfl hl.1 rfl (Nat.le_of_ble_eq_true rfl) dX5_read_94) hS (fun q _ h => hFc q h) hFc (fun u t H1 locs ht hvm wh_14 hB1 hz1 hk1 hS => ?_)
            obtain ⟨cn14, In14, Fn14⟩ := u
            obtain ⟨hP1, hD1⟩ := hB1
            rw [ht] at hP1
            have hP : va_P D vwCl (wX cI (D.1 99) zz g a9 cn14 In14 Fn14) H1 := hP1
            have hD : va_D A (wX cI (D.1 99) zz g a9 cn14 In14 Fn14) := hD1.weaken (fun _ _ _ h => hFc _ h)
            generalize H1 = H at hP hS ⊢
            have vh_14 : (fun c2 I2 F2 => Fr [32] [33] [] c44 I44 F44 c2 I2 F2 ∧ CBX c2 ∧ (c2 31 = (c44 31) ∧ (c44 31) ≤ c2 32 ∧ c2 32 ≤ (c44 32))) cn14 In14 Fn14 := wh_14
            obtain ⟨hfc14, hIn14, h_14⟩ := vh_14
            obtain rfl : F44 = Fn14 := (funext (fun k => hfc14.2.2 k List.not_mem_nil)).symm
            have hf14 : Fr [6, 31, 32] [30, 33] [195, 196, 197, 198, 199, 301, 302, 303, 304, 305] cn In Fn cn14 In14 F44 := Fr.mo (Fr.tr hfr44 hfc14) (sbl rfl) (sbl rfl) (sbl rfl)
            have hTI30_14 : In14 30 = (I44 30) := hfc14.2.1 30 (nml rfl)
            have : cn14 0 = (c44 0) := hfc14.1 0 (nml rfl)
            have : cn14 1 = (c44 1) := hfc14.1 1 (nml rfl)
            have : cn14 2 = (c44 2) := hfc14.1 2 (nml rfl)
            have : cn14 3 = (c44 3) := hfc14.1 3 (nml rfl)
            have : cn14 4 = (c44 4) := hfc14.1 4 (nml rfl)
            have : cn14 5 = (c44 5) := hfc14.1 5 (nml rfl)
            have : cn14 10 = (c44 10) := hfc14.1 10 (nml rfl)
            have : cn14 11 = (c44 11) := hfc14.1 11 (nml rfl)
            have : cn14 12 = (c44 12) := hfc14.1 12 (nml rfl)
            have : cn14 13 = (c44 13) := hfc14.1 13 (nml rfl)
            have : cn14 14 = (c44 14) := hfc14.1 14 (nml rfl)
            have : cn14 15 = (c44 15) := hfc14.1 15 (nml rfl)
            have : cn14 20 = (c44 20) := hfc14.1 20 (nml rfl)
            have : cn14 21 = (c44 21) := hfc14.1 21 (nml rfl)
            have : cn14 22 = (c44 22) := hfc14.1 22 (nml rfl)
            have : cn14 23 = (c44 23) := hfc14.1 23 (nml rfl)
            have : cn14 24 = (c44 24) := hfc14.1 24 (nml rfl)
            have : cn14 25 = (c44 25) := hfc14.1 25 (nml rfl)
            have : cn14 6 = (c44 6) := hfc14.1 6 (nml rfl)
            have : cn14 31 = (c44 31) := hfc14.1 31 (nml rfl)
            refine lv_aload_n hx hb dX5_read_97 rfl (lvA0 hl) ?_
            refine gf_RX5_20 S hK hP 3 xo_3 (v := .ref (a9 5 (a9 4 1))) rfl dX5_read_98 ?_
            exact W.aret (v := .ref (a9 5 (a9 4 1))) hx hb hr (Or.inl ⟨_, rfl⟩) (Or.inr ⟨_, rfl⟩) (fun t ht hW => ⟨⟨some (a9 5 (a9 4 1)), (a9, cn14, In14, F44), rfl, ⟨(Fr.mo hf14 (sbl rfl) (sbl rfl) (sbl rfl)), hIn14, rfl, (by show (cn14 6) = cn 6 + 1; omega), h41, hfa, h40, xtc_new hC (by show (cn14 6) = cn 6 + 1; omega) hn9 e9, xsl_new hL (by show (cn14 6) = cn 6 + 1; omega) (by omega) hx44_2⟩, by rw [ht]; exact hP, hD⟩, hS.F ht⟩) hS.2.2 dX5_read_101
        ·
          have tc_11 : (r_9.toInt : Int) = 59 := congrArg Int32.toInt c_11
          refine lv_aload_n hx hb dX5_read_64 rfl (lvA0 hl) ?_
          refine lv_dup hx hb dX5_read_65 rfl ?_
          refine gf_RX5_31 S hK hP 3 xo_3 (v := .int (nI (c44 31))) rfl dX5_read_66 ?_
          refine lv_iconst (v := 1) hx hb dX5_read_69 kic_1 ?_
          refine lv_iadd hx hb dX5_read_70 ?_
          refine lv_topi (fun y_15 ey_15 => ?_)
          obtain rfl : y_15 = (nI ((c44 31) + 1)) := ey_15.trans (nI_add (c44 31) 1)
          refine pf_RX5_31 S hK hP hD hS 3 xo_3 (v := .int (nI ((c44 31) + 1))) (Nat.le_of_ble_eq_true rfl) rfl rfl dX5_read_71 (fun H locs hP hD hS => ?_)
          have hP : va_P D vwCl (wX cI (D.1 99) zz g a9 (va_up c44 31 ((c44 31) + 1)) I44 F44) H := va_P_eq xsf_3_3 hP
          have hD : va_D A (wX cI (D.1 99) zz g a9 (va_up c44 31 ((c44 31) + 1)) I44 F44) := va_D_eq xsf_3_3 hD
          refine lv_aload_n hx hb dX5_read_74 rfl (lvA0 hl) ?_
          have hFc := free_all hD hS hA
          refine va_callv (runV_xa (As := []) (rest := []) S (q_RreadClause l D cI cB cZ zz qq vv bt g a9 (va_up c44 31 ((c44 31) + 1)) I44 F44 n9 H.size (CBX.n (k := 31) (v := ((c44 31) + 1)) hI44 (by decide)) (show a9 4 2 = g 40 by omega) (show a9 4 1 < (c44 6) by omega) (show ((c44 31) + 1) ≤ (c44 32) by omega) (show (c44 32) ≤ 160 by omega) (by rw [hx44_2, h41, upd_self, nI_toInt (by omega)]; omega) (by rw [e9, h41, upd_self]) hn9 (by rw [hx44_1]; exact h8)) kV_RX5_40 hK hXS hS hFc hP hD 3 xo_3 rfl rfl ⟨Nat.le_of_ble_eq_true rfl, Nat.le_of_ble_eq_true rfl⟩ ⟨Nat.le_of_ble_eq_true rfl, Nat.le_of_ble_eq_true rfl⟩ rfl hl.1 rfl (Nat.le_of_ble_eq_true rfl) dX5_read_75) hS (fun q _ h => hFc q h) hFc (fun u t H1 locs ht hvm wh_17 hB1 hz1 hk1 hS => ?_)
          obtain ⟨cn17, In17, Fn17⟩ := u
          obtain ⟨hP1, hD1⟩ := hB1
          rw [ht] at hP1
          have hP : va_P D vwCl (wX cI (D.1 99) zz g a9 cn17 In17 Fn17) H1 := hP1
          have hD : va_D A (wX cI (D.1 99) zz g a9 cn17 In17 Fn17) := hD1.weaken (fun _ _ _ h => hFc _ h)
          generalize H1 = H at hP hS ⊢
          have vh_17 : (fun c2 I2 F2 => Fr [31, 32] [33] [195, 198, 301, 302, 303, 304] (va_up c44 31 ((c44 31) + 1)) I44 F44 c2 I2 F2 ∧ CBX c2 ∧ ((((c44 31) + 1) ≤ c2 31 ∧ c2 31 ≤ c2 32 ∧ c2 32 ≤ (c44 32)) ∧ ∃ n : Nat, n ≤ 12 ∧ F2 198 = upd ((F44 198)) (a9 4 1) (nI n))) cn17 In17 Fn17 := wh_17
          obtain ⟨hfc17, hIn17, h_17⟩ := vh_17
          have hf17 : Fr [6, 31, 32] [30, 33] [195, 196, 197, 198, 199, 301, 302, 303, 304, 305] cn In Fn cn17 In17 Fn17 := Fr.mo (Fr.tr (Fr.c 31 hfr44) hfc17) (sbl rfl) (sbl rfl) (sbl rfl)
          have hTI30_17 : In17 30 = (I44 30) := hfc17.2.1 30 (nml rfl)
          have hT199_17 : Fn17 199 = (F44 199) := hfc17.2.2 199 (nml rfl)
          have : cn17 0 = (c44 0) := hfc17.1 0 (nml rfl)
          have : cn17 1 = (c44 1) := hfc17.1 1 (nml rfl)
          have : cn17 2 = (c44 2) := hfc17.1 2 (nml rfl)
          have : cn17 3 = (c44 3) := hfc17.1 3 (nml rfl)
          have : cn17 4 = (c44 4) := hfc17.1 4 (nml rfl)
          have : cn17 5 = (c44 5) := hfc17.1 5 (nml rfl)
          have : cn17 10 = (c44 10) := hfc17.1 10 (nml rfl)
          have : cn17 11 = (c44 11) := hfc17.1 11 (nml rfl)
          have : cn17 12 = (c44 12) := hfc17.1 12 (nml rfl)
          have : cn17 13 = (c44 13) := hfc17.1 13 (nml rfl)
          have : cn17 14 = (c44 14) := hfc17.1 14 (nml rfl)
          have : cn17 15 = (c44 15) := hfc17.1 15 (nml rfl)
          have : cn17 20 = (c44 20) := hfc17.1 20 (nml rfl)
          have : cn17 21 = (c44 21) := hfc17.1 21 (nml rfl)
          have : cn17 22 = (c44 22) := hfc17.1 22 (nml rfl)
          have : cn17 23 = (c44 23) := hfc17.1 23 (nml rfl)
          have : cn17 24 = (c44 24) := hfc17.1 24 (nml rfl)
          have : cn17 25 = (c44 25) := hfc17.1 25 (nml rfl)
          have : cn17 6 = (c44 6) := hfc17.1 6 (nml rfl)
          obtain ⟨h_17, n8, hn8, e8⟩ := h_17
          refine lv_goto (tgt := 44) hx hb dX5_read_78 rfl ?_
          exact ih44  cn17 In17 Fn17 _ _ (show (cn17 32) - (cn17 31) < n44 by omega) ⟨(Fr.mo hf17 (sbl rfl) (sbl rfl) (sbl rfl)), hIn17, (show (cn17 31) ≤ (cn17 32) ∧ (cn17 32) ≤ n0 ∧ (cn17 6) = cn 6 + 1 by omega), (hTI30_17.trans hx44_1), (hT199_17.trans hx44_2), ⟨n8, hn8, by rw [e8, e9, h41, upd_upd9]⟩⟩ hP hD hS ls (lv_sub hl [0, 1, 2, 3] rfl)
  exact lp_44 _  cn4 In4 Fn4 _ _ (Nat.lt_succ_self _) ⟨(Fr.mo hf4 (sbl rfl) (sbl rfl) (sbl rfl)), hIn4, (show (cn4 31) ≤ (cn4 32) ∧ (cn4 32) ≤ n0 ∧ (cn4 6) = cn 6 + 1 by omega), hTI30_4, hT199_4, ⟨n8, hn8, by rw [e8, h41, upd_upd9]⟩⟩ hP hD hS ls (lv_sub hl [0, 1, 2, 3] rfl)
set_option maxRecDepth 100000 in
set_option maxHeartbeats 4000000 in
theorem q_Xcontract (l : Launch) (D : va_G) (cI cB cZ : ClassId) (zz qq vv : Nat) (bt : Nat → Int32) (g : Nat → Nat) (ad : Nat → Nat → Nat) (cn : Nat → Nat) (In : Nat → Int32) (Fn : Nat → Nat → Int32) (v0 v1 : Int32) (sz : Nat) (hB : CBX cn) (hT : (∀ k : Nat, k < cn 10 → ad 3 k < cn 6) ∧ ad 4 0 < cn 6 ∧ ad 4 1 < cn 6) (hC : ∀ k : Nat, k < cn 6 → ∃ n : Nat, n ≤ 12 ∧ Fn 198 k = nI n) (hL : ∀ k : Nat, k < cn 6 → (Fn 199 k).toInt ≤ 160) : Met l yX11_contract (CWS yX11_contract cX11_contract 5 (some .int)) (RM 27 6 237) (PBx [.ref (g 0), .int v0, .int v1] D cI cB cZ zz qq vv bt (wX cI (D.1 99) zz g ad cn In Fn) sz) (va_Qi (fun (r : Int32) (u : (Nat → Nat → Nat) × (Nat → Nat) × (Nat → Int32) × (Nat → Nat → Int32)) => (fun r a2 c2 I2 F2 => Fr [3, 6, 31, 32] [30, 33] [195, 196, 197, 198, 199, 301, 302, 303, 304, 305] cn In Fn c2 I2 F2 ∧ CBX c2 ∧ ((∀ k : Nat, k < c2 10 → a2 3 k < c2 6) ∧ a2 4 0 < c2 6 ∧ a2 4 1 < c2 6) ∧ (∀ k : Nat, k < c2 6 → ∃ n : Nat, n ≤ 12 ∧ F2 198 k = nI n) ∧ (∀ k : Nat, k < c2 6 → (F2 199 k).toInt ≤ 160) ∧ ∀ i k : Nat, i ∉ [3, 4, 5, 60, 61, 62, 63, 64] → a2 i k = ad i k) r u.1 u.2.1 u.2.2.1 u.2.2.2) (fun (u : (Nat → Nat → Nat) × (Nat → Nat) × (Nat → Int32) × (Nat → Nat → Int32)) (t : State) => va_P D vwCl (wX cI (D.1 99) zz g u.1 u.2.1 u.2.2.1 u.2.2.2) t.heap ∧ va_D (va_A (wX cI (D.1 99) zz g ad cn In Fn) sz) (wX cI (D.1 99) zz g u.1 u.2.1 u.2.2.1 u.2.2.2)) (va_A (wX cI (D.1 99) zz g ad cn In Fn) sz)) 6 237 (va_A (wX cI (D.1 99) zz g ad cn In Fn) sz) := by
  refine en_x (fun A => (va_Qi (fun (r : Int32) (u : (Nat → Nat → Nat) × (Nat → Nat) × (Nat → Int32) × (Nat → Nat → Int32)) => (fun (r : Int32) (a2 : Nat → Nat → Nat) (c2 : Nat → Nat) (I2 : Nat → Int32) (F2 : Nat → Nat → Int32) => Fr [3, 6, 31, 32] [30, 33] [195, 196, 197, 198, 199, 301, 302, 303, 304, 305] cn In Fn c2 I2 F2 ∧ CBX c2 ∧ ((∀ k : Nat, k < c2 10 → a2 3 k < c2 6) ∧ a2 4 0 < c2 6 ∧ a2 4 1 < c2 6) ∧ (∀ k : Nat, k < c2 6 → ∃ n : Nat, n ≤ 12 ∧ F2 198 k = nI n) ∧ (∀ k : Nat, k < c2 6 → (F2 199 k).toInt ≤ 160) ∧ ∀ i k : Nat, i ∉ [3, 4, 5, 60, 61, 62, 63, 64] → a2 i k = ad i k) r u.1 u.2.1 u.2.2.1 u.2.2.2) (fun (u : (Nat → Nat → Nat) × (Nat → Nat) × (Nat → Int32) × (Nat → Nat → Int32)) (t : State) => va_P D vwCl (wX cI (D.1 99) zz g u.1 u.2.1 u.2.2.1 u.2.2.2) t.heap ∧ va_D A (wX cI (D.1 99) zz g u.1 u.2.1 u.2.2.1 u.2.2.2)) A)) rfl rfl pn_RX11 (Nat.le_of_ble_eq_true rfl) (fun p e s m below meth c A hx hb hml hown S hr hlocks hnm hA hP hK hD hXS hS ls hl => ?_)
  have hl : lv_has ls 5 [(0, .ref (g 0)), (1, .int v0), (2, .int v1)] := hl
  refine lv_aload_n hx hb dX11_contract_0 rfl (lvA0 hl) ?_
  refine lv_iload_n hx hb dX11_contract_1 rfl (lvA1 hl) ?_
  refine va_csq (runV_rxa (As := [.int v0]) (rest := []) S (q_XkitchenAt l D cI cB cZ zz qq vv bt g ad cn In Fn v0 hB) kV_RX11_114 hK hXS hS hP 0 xo_0 rfl rfl ⟨Nat.le_of_ble_eq_true rfl, Nat.le_of_ble_eq_true rfl⟩ ⟨Nat.le_of_ble_eq_true rfl, Nat.le_of_ble_eq_true rfl⟩ rfl hl.1 rfl (Nat.le_of_ble_eq_true rfl) dX11_contract_2) (fun r_1 h_2 => ?_)
  rcases h_2 with ⟨mr_1, er_1, hr_1, rfl⟩ | ⟨hr_1, rfl⟩
  ·
    refine lv_astore_n (lv' := [(3, .ref (ad 10 mr_1)), (0, .ref (g 0)), (1, .int v0), (2, .int v1)]) hx hb dX11_contract_5 rfl hl (ltb rfl) rfl (fun ls hl => ?_)
    refine lv_aload_n hx hb dX11_contract_6 rfl (lvA0 hl) ?_
    refine lv_ifnull hx hb dX11_contract_7 ?_
    refine lv_aload_n hx hb dX11_contract_10 rfl (lvA1 hl) ?_
    refine lv_iload_n hx hb dX11_contract_11 rfl (lvA3 hl) ?_
    refine vp_callSi (runV_rxa (As := [.int v1]) (rest := []) S (q_XisText l D cI cB cZ zz qq vv bt g ad cn In Fn v1 hB) kV_RX11_155 hK hXS hS hP 0 xo_0 rfl rfl ⟨Nat.le_of_ble_eq_true rfl, Nat.le_of_ble_eq_true rfl⟩ ⟨Nat.le_of_ble_eq_true rfl, Nat.le_of_ble_eq_true rfl⟩ rfl hl.1 rfl (Nat.le_of_ble_eq_true rfl) dX11_contract_12) (fun r_3 h_4 => ?_)
    rcases h_4 with ⟨rfl, h_4⟩ | ⟨rfl, h_4⟩
    ·
      have h_4 : 1 ≤ v1.toInt ∧ v1.toInt ≤ 160 ∧ v1.toInt ≤ ((cn 3) : Int) := h_4
      refine lv_if_ne (tgt := 20) hx hb dX11_contract_15 rfl (fun _ => ?_) (fun h => absurd h cq_eq_1_0)
      obtain ⟨n0, hn0, rfl⟩ := nI_of (x := v1) (fun q => by have := Int32.lt_iff_toInt_lt.mp q; have e : (0 : Int32).toInt = 0 := rfl; omega)
      have tn0 : (nI n0).toInt = (n0 : Int) := nI_toInt hn0
      have zn0 : (nI n0).toInt.toNat = n0 := by omega
      refine lv_aload_n hx hb dX11_contract_20 rfl (lvA1 hl) ?_
      refine gf_RX11_28 S hK hP 0 xo_0 (v := .ref (g 6)) rfl dX11_contract_21 ?_
      refine lv_aload_n hx hb dX11_contract_24 rfl (lvA1 hl) ?_
      refine gf_RX11_21 S hK hP 0 xo_0 (v := .ref (g 5)) rfl dX11_contract_25 ?_
      refine lv_iload_n hx hb dX11_contract_28 rfl (lvA3 hl) ?_
      refine lv_bipush (v := 112) hx hb dX11_contract_29 kbc_112 ?_
      have hFc := free_all hD hS hA
      refine va_callq (runV_xa (As := [.ref (g 5), .int (nI n0), .int 112]) (rest := []) S (q_Rread l D cI cB cZ zz qq vv bt g ad cn In Fn n0 112 s.heap.size hB ⟨by omega, by omega⟩ (by decide) hT hC hL) kV_RX11_158 hK hXS hS hFc hP hD 3 xo_3 rfl rfl ⟨Nat.le_of_ble_eq_true rfl, Nat.le_of_ble_eq_true rfl⟩ ⟨Nat.le_of_ble_eq_true rfl, Nat.le_of_ble_eq_true rfl⟩ rfl hl.1 rfl (Nat.le_of_ble_eq_true rfl) dX11_contract_31) hS (fun q _ h => hFc q h) hFc (fun r4 u4 t H1 locs ht hvm h4 hB1 hz1 hk1 hS => ?_)
      obtain ⟨hP1, hD1⟩ := hB1
      rw [ht] at hP1
      obtain ⟨a4, c4, I4, F4⟩ := u4
      obtain ⟨hfc4, hIn4, hr4, h64, h414, hfa4, h404, hC4, hL4⟩ := h4
      subst hr4
      have hfm4 : Fr [3, 6, 31, 32] [30, 33] [195, 196, 197, 198, 199, 301, 302, 303, 304, 305] cn In Fn c4 I4 F4 := Fr.mo hfc4 (sbl rfl) (sbl rfl) (sbl rfl)
      have hi_4 := hIn4
      have : c4 0 = cn 0 := hfc4.1 0 (nml rfl)
      have : c4 1 = cn 1 := hfc4.1 1 (nml rfl)
      have : c4 2 = cn 2 := hfc4.1 2 (nml rfl)
      have : c4 3 = cn 3 := hfc4.1 3 (nml rfl)
      have : c4 4 = cn 4 := hfc4.1 4 (nml rfl)
      have : c4 5 = cn 5 := hfc4.1 5 (nml rfl)
      have : c4 10 = cn 10 := hfc4.1 10 (nml rfl)
      have : c4 11 = cn 11 := hfc4.1 11 (nml rfl)
      have : c4 12 = cn 12 := hfc4.1 12 (nml rfl)
      have : c4 13 = cn 13 := hfc4.1 13 (nml rfl)
      have : c4 14 = cn 14 := hfc4.1 14 (nml rfl)
      have : c4 15 = cn 15 := hfc4.1 15 (nml rfl)
      have : c4 20 = cn 20 := hfc4.1 20 (nml rfl)
      have : c4 21 = cn 21 := hfc4.1 21 (nml rfl)
      have : c4 22 = cn 22 := hfc4.1 22 (nml rfl)
      have : c4 23 = cn 23 := hfc4.1 23 (nml rfl)
      have : c4 24 = cn 24 := hfc4.1 24 (nml rfl)
      have : c4 25 = cn 25 := hfc4.1 25 (nml rfl)
      have h64 : c4 6 = cn 6 + 1 := h64
      have h414 : a4 4 1 = cn 6 := h414
      have h404 : a4 4 0 = ad 4 0 := h404
      have hfa4 : ∀ i k : Nat, i ∉ [4, 5, 60, 61, 62, 63, 64] → a4 i k = ad i k := hfa4
      have hC4 : ∀ k : Nat, k < c4 6 → ∃ n : Nat, n ≤ 12 ∧ F4 198 k = nI n := hC4
      have hL4 : ∀ k : Nat, k < c4 6 → (F4 199 k).toInt ≤ 160 := hL4
      have hT0 := hT
      have hT : (∀ k : Nat, k < c4 10 → a4 3 k < c4 6) ∧ a4 4 0 < c4 6 ∧ a4 4 1 < c4 6 := ht_new hT0 (fun k => hfa4 3 k (by decide)) h404 h414 h64 (by omega)
      have hT9 := hT.2.2
      have hC := hC4
      have hL := hL4
      have hl : lv_has ls 5 [(3, .ref (a4 10 mr_1)), (0, .ref (g 0)), (1, .int v0), (2, .int (nI n0))] := by rw [hfa4 10 mr_1 (by decide)]; exact hl
      have hP : va_P D vwCl (wX cI (D.1 99) zz g a4 c4 I4 F4) H1 := hP1
      have hD : va_D A (wX cI (D.1 99) zz g a4 c4 I4 F4) := hD1.weaken (fun _ _ _ h => hFc _ h)
      generalize H1 = H at hP hS ⊢
      refine lv_astore (lv' := [(4, .ref (a4 5 (a4 4 1))), (3, .ref (a4 10 mr_1)), (0, .ref (g 0)), (1, .int v0), (2, .int (nI n0))]) hx hb dX11_contract_34 hl (ltb rfl) rfl (fun ls hl => ?_)
      refine lv_aload_n hx hb dX11_contract_36 rfl (lvA2 hl) ?_
      refine gf_RX11_21 S hK hP 0 xo_0 (v := .ref (g 5)) rfl dX11_contract_37 ?_
      have hFc := free_all hD hS hA
      refine va_callv (runV_xa (As := []) (rest := []) S (q_Xclear l D cI cB cZ zz qq vv bt g a4 c4 I4 F4  H.size hIn4) kV_RX11_162 hK hXS hS hFc hP hD 1 xo_1 rfl rfl ⟨Nat.le_of_ble_eq_true rfl, Nat.le_of_ble_eq_true rfl⟩ ⟨Nat.le_of_ble_eq_true rfl, Nat.le_of_ble_eq_true rfl⟩ rfl hl.1 rfl (Nat.le_of_ble_eq_true rfl) dX11_contract_40) hS (fun q _ h => hFc q h) hFc (fun u t H1 locs ht hvm wh_7 hB1 hz1 hk1 hS => ?_)
      obtain ⟨cn7, In7, Fn7⟩ := u
      obtain ⟨hP1, hD1⟩ := hB1
      rw [ht] at hP1
      have hP : va_P D vwCl (wX cI (D.1 99) zz g a4 cn7 In7 Fn7) H1 := hP1
      have hD : va_D A (wX cI (D.1 99) zz g a4 cn7 In7 Fn7) := hD1.weaken (fun _ _ _ h => hFc _ h)
      generalize H1 = H at hP hS ⊢
      have vh_7 : (fun c2 I2 F2 => Fr [3] [] [] c4 I4 F4 c2 I2 F2 ∧ CBX c2 ∧ (c2 3 = 0)) cn7 In7 Fn7 := wh_7
      obtain ⟨hfc7, hIn7, h_7⟩ := vh_7
      obtain rfl : I4 = In7 := (funext (fun k => hfc7.2.1 k List.not_mem_nil)).symm
      obtain rfl : F4 = Fn7 := (funext (fun k => hfc7.2.2 k List.not_mem_nil)).symm
      have hf7 : Fr [3, 6, 31, 32] [30, 33] [195, 196, 197, 198, 199, 301, 302, 303, 304, 305] cn In Fn cn7 I4 F4 := Fr.mo (Fr.tr hfm4 hfc7) (sbl rfl) (sbl rfl) (sbl rfl)
      have : cn7 0 = (c4 0) := hfc7.1 0 (nml rfl)
      have : cn7 1 = (c4 1) := hfc7.1 1 (nml rfl)
      have : cn7 2 = (c4 2) := hfc7.1 2 (nml rfl)
      have : cn7 4 = (c4 4) := hfc7.1 4 (nml rfl)
      have : cn7 5 = (c4 5) := hfc7.1 5 (nml rfl)
      have : cn7 10 = (c4 10) := hfc7.1 10 (nml rfl)
      have : cn7 11 = (c4 11) := hfc7.1 11 (nml rfl)
      have : cn7 12 = (c4 12) := hfc7.1 12 (nml rfl)
      have : cn7 13 = (c4 13) := hfc7.1 13 (nml rfl)
      have : cn7 14 = (c4 14) := hfc7.1 14 (nml rfl)
      have : cn7 15 = (c4 15) := hfc7.1 15 (nml rfl)
      have : cn7 20 = (c4 20) := hfc7.1 20 (nml rfl)
      have : cn7 21 = (c4 21) := hfc7.1 21 (nml rfl)
      have : cn7 22 = (c4 22) := hfc7.1 22 (nml rfl)
      have : cn7 23 = (c4 23) := hfc7.1 23 (nml rfl)
      have : cn7 24 = (c4 24) := hfc7.1 24 (nml rfl)
      have : cn7 25 = (c4 25) := hfc7.1 25 (nml rfl)
      have : cn7 6 = (c4 6) := hfc7.1 6 (nml rfl)
      have : cn7 31 = (c4 31) := hfc7.1 31 (nml rfl)
      have : cn7 32 = (c4 32) := hfc7.1 32 (nml rfl)
      refine lv_aload_n hx hb dX11_contract_43 rfl (lvA2 hl) ?_
      refine gf_RX11_28 S hK hP 0 xo_0 (v := .ref (g 6)) rfl dX11_contract_44 ?_
      refine gf_RX11_165 S hK hP 3 xo_3 (v := .int (I4 33)) rfl dX11_contract_47 ?_
      refine lv_if_eq (tgt := 62) hx hb dX11_contract_50 rfl (fun c_8 => ?_) (fun c_8 => ?_)
      ·
        have tc_8 : ((I4 33).toInt : Int) = 0 := congrArg Int32.toInt c_8
        refine lv_aload_n hx hb dX11_contract_62 rfl (lvA1 hl) ?_
        refine lv_aload hx hb dX11_contract_63 (lvA0 hl) ?_
        refine pf_RX11_168 S hK hP hD hS _ (xf_0 (show mr_1 < (cn7 10) by omega)) (v := .ref (a4 5 (a4 4 1))) (Nat.le_of_ble_eq_true rfl) rfl rfl dX11_contract_65 (fun H locs hP hD hS => ?_)
        have hP : va_P D vwCl (wX cI (D.1 99) zz g (adO a4 3 mr_1 (a4 4 1)) cn7 I4 F4) H := va_P_eq (xK3 (by omega)) hP
        have hD : va_D A (wX cI (D.1 99) zz g (adO a4 3 mr_1 (a4 4 1)) cn7 I4 F4) := va_D_eq (xK3 (by omega)) hD
        refine lv_aload hx hb dX11_contract_68 (lvA0 hl) ?_
        refine gf_RX11_171 S hK hP _ (xf_7 (show (a4 4 1) < (cn7 6) by omega)) (v := .int ((F4 198) (a4 4 1))) rfl dX11_contract_70 ?_
        have hT9 : (∀ k : Nat, k < cn7 10 → a4 3 k < cn7 6) ∧ a4 4 0 < cn7 6 ∧ a4 4 1 < cn7 6 := by
          have e6 : cn7 6 = c4 6 := by omega
          have e10 : cn7 10 = c4 10 := by omega
          rw [e6, e10]; exact hT
        have hC9 : ∀ k : Nat, k < cn7 6 → ∃ n : Nat, n ≤ 12 ∧ F4 198 k = nI n := fun k hk => hC k (by omega)
        have hL9 : ∀ k : Nat, k < cn7 6 → (F4 199 k).toInt ≤ 160 := fun k hk => hL k (by omega)
        exact W.iret (v := ((F4 198) (a4 4 1))) hx hb hr (fun t ht hW => ⟨⟨((F4 198) (a4 4 1)), ((adO a4 3 mr_1 (a4 4 1)), cn7, I4, F4), rfl, ⟨(Fr.mo hf7 (sbl rfl) (sbl rfl) (sbl rfl)), hIn7, (@ht_k3 a4 cn7 mr_1 (a4 4 1) hT9 hT9.2.2), hC9, hL9, (fun i k hi => (if_neg (fun q => hi (by rw [q.1]; decide))).trans (hfa4 i k (fun q => hi (List.mem_cons_of_mem _ q))))⟩, by rw [ht]; exact hP, hD⟩, hS.F ht⟩) hS.2.2 dX11_contract_73
      ·
        have tc_8 : ((I4 33).toInt : Int) ≠ 0 := fun q => c_8 (Int32.toInt_inj.mp q)
        refine lv_aload_n hx hb dX11_contract_53 rfl (lvA2 hl) ?_
        refine gf_RX11_28 S hK hP 0 xo_0 (v := .ref (g 6)) rfl dX11_contract_54 ?_
        refine gf_RX11_165 S hK hP 3 xo_3 (v := .int (I4 33)) rfl dX11_contract_57 ?_
        refine lv_ineg hx hb dX11_contract_60 ?_
        have hT9 : (∀ k : Nat, k < cn7 10 → a4 3 k < cn7 6) ∧ a4 4 0 < cn7 6 ∧ a4 4 1 < cn7 6 := by
          have e6 : cn7 6 = c4 6 := by omega
          have e10 : cn7 10 = c4 10 := by omega
          rw [e6, e10]; exact hT
        have hC9 : ∀ k : Nat, k < cn7 6 → ∃ n : Nat, n ≤ 12 ∧ F4 198 k = nI n := fun k hk => hC k (by omega)
        have hL9 : ∀ k : Nat, k < cn7 6 → (F4 199 k).toInt ≤ 160 := fun k hk => hL k (by omega)
        exact W.iret (v := (-(I4 33))) hx hb hr (fun t ht hW => ⟨⟨(-(I4 33)), (a4, cn7, I4, F4), rfl, ⟨(Fr.mo hf7 (sbl rfl) (sbl rfl) (sbl rfl)), hIn7, hT9, hC9, hL9, (fun i k hi => hfa4 i k (fun q => hi (List.mem_cons_of_mem _ q)))⟩, by rw [ht]; exact hP, hD⟩, hS.F ht⟩) hS.2.2 dX11_contract_61
    ·
      have h_4 : ¬ (1 ≤ v1.toInt ∧ v1.toInt ≤ 160 ∧ v1.toInt ≤ ((cn 3) : Int)) := h_4
      refine lv_if_ne (tgt := 20) hx hb dX11_contract_15 rfl (fun h => absurd h cq_eq_0_0) (fun _ => ?_)
      refine lv_iconst (v := (-1)) hx hb dX11_contract_18 kic_m1 ?_
      refine W.widen (k := 6) (n := 237) (Nat.le_of_ble_eq_true rfl) (Nat.le_of_ble_eq_true rfl) ?_
      exact W.iret (v := (-1)) hx hb hr (fun t ht hW => ⟨⟨(-1), (ad, cn, In, Fn), rfl, ⟨(Fr.mo (Fr.rf (cn := cn) (In := In) (Fn := Fn)) (sbl rfl) (sbl rfl) (sbl rfl)), hB, hT, hC, hL, fun _ _ _ => rfl⟩, by rw [ht]; exact hP, hD⟩, hS.F ht⟩) hS.2.2 dX11_contract_19
  ·
    refine lv_astore_nN (lv' := [(3, .null), (0, .ref (g 0)), (1, .int v0), (2, .int v1)]) hx hb dX11_contract_5 rfl hl (ltb rfl) rfl (fun ls hl => ?_)
    refine lv_aload_nN hx hb dX11_contract_6 rfl (lvA0 hl) ?_
    refine lv_ifnullN (tgt := 18) hx hb dX11_contract_7 rfl ?_
    refine lv_iconst (v := (-1)) hx hb dX11_contract_18 kic_m1 ?_
    refine W.widen (k := 6) (n := 237) (Nat.le_of_ble_eq_true rfl) (Nat.le_of_ble_eq_true rfl) ?_
    exact W.iret (v := (-1)) hx hb hr (fun t ht hW => ⟨⟨(-1), (ad, cn, In, Fn), rfl, ⟨(Fr.mo (Fr.rf (cn := cn) (In := In) (Fn := Fn)) (sbl rfl) (sbl rfl) (sbl rfl)), hB, hT, hC, hL, fun _ _ _ => rfl⟩, by rw [ht]; exact hP, hD⟩, hS.F ht⟩) hS.2.2 dX11_contract_19
set_option maxRecDepth 100000 in
set_option maxHeartbeats 4000000 in
theorem q_Xlaw (l : Launch) (D : va_G) (cI cB cZ : ClassId) (zz qq vv : Nat) (bt : Nat → Int32) (g : Nat → Nat) (ad : Nat → Nat → Nat) (cn : Nat → Nat) (In : Nat → Int32) (Fn : Nat → Nat → Int32) (v0 : Int32) (sz : Nat) (hB : CBX cn) (hT : (∀ k : Nat, k < cn 10 → ad 3 k < cn 6) ∧ ad 4 0 < cn 6 ∧ ad 4 1 < cn 6) (hC : ∀ k : Nat, k < cn 6 → ∃ n : Nat, n ≤ 12 ∧ Fn 198 k = nI n) (hL : ∀ k : Nat, k < cn 6 → (Fn 199 k).toInt ≤ 160) : Met l yX11_law (CWS yX11_law cX11_law 3 (some .int)) (RM 27 6 237) (PBx [.ref (g 0), .int v0] D cI cB cZ zz qq vv bt (wX cI (D.1 99) zz g ad cn In Fn) sz) (va_Qi (fun (r : Int32) (u : (Nat → Nat → Nat) × (Nat → Nat) × (Nat → Int32) × (Nat → Nat → Int32)) => (fun r a2 c2 I2 F2 => Fr [3, 6, 31, 32] [30, 33] [195, 196, 197, 198, 199, 301, 302, 303, 304, 305] cn In Fn c2 I2 F2 ∧ CBX c2 ∧ ((∀ k : Nat, k < c2 10 → a2 3 k < c2 6) ∧ a2 4 0 < c2 6 ∧ a2 4 1 < c2 6) ∧ (∀ k : Nat, k < c2 6 → ∃ n : Nat, n ≤ 12 ∧ F2 198 k = nI n) ∧ (∀ k : Nat, k < c2 6 → (F2 199 k).toInt ≤ 160) ∧ ∀ i k : Nat, i ∉ [3, 4, 5, 60, 61, 62, 63, 64] → a2 i k = ad i k) r u.1 u.2.1 u.2.2.1 u.2.2.2) (fun (u : (Nat → Nat → Nat) × (Nat → Nat) × (Nat → Int32) × (Nat → Nat → Int32)) (t : State) => va_P D vwCl (wX cI (D.1 99) zz g u.1 u.2.1 u.2.2.1 u.2.2.2) t.heap ∧ va_D (va_A (wX cI (D.1 99) zz g ad cn In Fn) sz) (wX cI (D.1 99) zz g u.1 u.2.1 u.2.2.1 u.2.2.2)) (va_A (wX cI (D.1 99) zz g ad cn In Fn) sz)) 6 237 (va_A (wX cI (D.1 99) zz g ad cn In Fn) sz) := by
  refine en_x (fun A => (va_Qi (fun (r : Int32) (u : (Nat → Nat → Nat) × (Nat → Nat) × (Nat → Int32) × (Nat → Nat → Int32)) => (fun (r : Int32) (a2 : Nat → Nat → Nat) (c2 : Nat → Nat) (I2 : Nat → Int32) (F2 : Nat → Nat → Int32) => Fr [3, 6, 31, 32] [30, 33] [195, 196, 197, 198, 199, 301, 302, 303, 304, 305] cn In Fn c2 I2 F2 ∧ CBX c2 ∧ ((∀ k : Nat, k < c2 10 → a2 3 k < c2 6) ∧ a2 4 0 < c2 6 ∧ a2 4 1 < c2 6) ∧ (∀ k : Nat, k < c2 6 → ∃ n : Nat, n ≤ 12 ∧ F2 198 k = nI n) ∧ (∀ k : Nat, k < c2 6 → (F2 199 k).toInt ≤ 160) ∧ ∀ i k : Nat, i ∉ [3, 4, 5, 60, 61, 62, 63, 64] → a2 i k = ad i k) r u.1 u.2.1 u.2.2.1 u.2.2.2) (fun (u : (Nat → Nat → Nat) × (Nat → Nat) × (Nat → Int32) × (Nat → Nat → Int32)) (t : State) => va_P D vwCl (wX cI (D.1 99) zz g u.1 u.2.1 u.2.2.1 u.2.2.2) t.heap ∧ va_D A (wX cI (D.1 99) zz g u.1 u.2.1 u.2.2.1 u.2.2.2)) A)) rfl rfl pn_RX11 (Nat.le_of_ble_eq_true rfl) (fun p e s m below meth c A hx hb hml hown S hr hlocks hnm hA hP hK hD hXS hS ls hl => ?_)
  have hl : lv_has ls 3 [(0, .ref (g 0)), (1, .int v0)] := hl
  refine lv_aload_n hx hb dX11_law_0 rfl (lvA0 hl) ?_
  refine lv_iload_n hx hb dX11_law_1 rfl (lvA1 hl) ?_
  refine vp_callSi (runV_rxa (As := [.int v0]) (rest := []) S (q_XisText l D cI cB cZ zz qq vv bt g ad cn In Fn v0 hB) kV_RX11_155 hK hXS hS hP 0 xo_0 rfl rfl ⟨Nat.le_of_ble_eq_true rfl, Nat.le_of_ble_eq_true rfl⟩ ⟨Nat.le_of_ble_eq_true rfl, Nat.le_of_ble_eq_true rfl⟩ rfl hl.1 rfl (Nat.le_of_ble_eq_true rfl) dX11_law_2) (fun r_21 h_22 => ?_)
  rcases h_22 with ⟨rfl, h_22⟩ | ⟨rfl, h_22⟩
  ·
    have h_22 : 1 ≤ v0.toInt ∧ v0.toInt ≤ 160 ∧ v0.toInt ≤ ((cn 3) : Int) := h_22
    refine lv_if_ne (tgt := 10) hx hb dX11_law_5 rfl (fun _ => ?_) (fun h => absurd h cq_eq_1_0)
    obtain ⟨n0, hn0, rfl⟩ := nI_of (x := v0) (fun q => by have := Int32.lt_iff_toInt_lt.mp q; have e : (0 : Int32).toInt = 0 := rfl; omega)
    have tn0 : (nI n0).toInt = (n0 : Int) := nI_toInt hn0
    have zn0 : (nI n0).toInt.toNat = n0 := by omega
    refine lv_aload_n hx hb dX11_law_10 rfl (lvA0 hl) ?_
    refine gf_RX11_28 S hK hP 0 xo_0 (v := .ref (g 6)) rfl dX11_law_11 ?_
    refine lv_aload_n hx hb dX11_law_14 rfl (lvA0 hl) ?_
    refine gf_RX11_21 S hK hP 0 xo_0 (v := .ref (g 5)) rfl dX11_law_15 ?_
    refine lv_iload_n hx hb dX11_law_18 rfl (lvA1 hl) ?_
    refine lv_bipush (v := 108) hx hb dX11_law_19 kbc_108 ?_
    have hFc := free_all hD hS hA
    refine va_callq (runV_xa (As := [.ref (g 5), .int (nI n0), .int 108]) (rest := []) S (q_Rread l D cI cB cZ zz qq vv bt g ad cn In Fn n0 108 s.heap.size hB ⟨by omega, by omega⟩ (by decide) hT hC hL) kV_RX11_158 hK hXS hS hFc hP hD 3 xo_3 rfl rfl ⟨Nat.le_of_ble_eq_true rfl, Nat.le_of_ble_eq_true rfl⟩ ⟨Nat.le_of_ble_eq_true rfl, Nat.le_of_ble_eq_true rfl⟩ rfl hl.1 rfl (Nat.le_of_ble_eq_true rfl) dX11_law_21) hS (fun q _ h => hFc q h) hFc (fun r22 u22 t H1 locs ht hvm h22 hB1 hz1 hk1 hS => ?_)
    obtain ⟨hP1, hD1⟩ := hB1
    rw [ht] at hP1
    obtain ⟨a22, c22, I22, F22⟩ := u22
    obtain ⟨hfc22, hIn22, hr22, h622, h4122, hfa22, h4022, hC22, hL22⟩ := h22
    subst hr22
    have hfm22 : Fr [3, 6, 31, 32] [30, 33] [195, 196, 197, 198, 199, 301, 302, 303, 304, 305] cn In Fn c22 I22 F22 := Fr.mo hfc22 (sbl rfl) (sbl rfl) (sbl rfl)
    have hi_22 := hIn22
    have : c22 0 = cn 0 := hfc22.1 0 (nml rfl)
    have : c22 1 = cn 1 := hfc22.1 1 (nml rfl)
    have : c22 2 = cn 2 := hfc22.1 2 (nml rfl)
    have : c22 3 = cn 3 := hfc22.1 3 (nml rfl)
    have : c22 4 = cn 4 := hfc22.1 4 (nml rfl)
    have : c22 5 = cn 5 := hfc22.1 5 (nml rfl)
    have : c22 10 = cn 10 := hfc22.1 10 (nml rfl)
    have : c22 11 = cn 11 := hfc22.1 11 (nml rfl)
    have : c22 12 = cn 12 := hfc22.1 12 (nml rfl)
    have : c22 13 = cn 13 := hfc22.1 13 (nml rfl)
    have : c22 14 = cn 14 := hfc22.1 14 (nml rfl)
    have : c22 15 = cn 15 := hfc22.1 15 (nml rfl)
    have : c22 20 = cn 20 := hfc22.1 20 (nml rfl)
    have : c22 21 = cn 21 := hfc22.1 21 (nml rfl)
    have : c22 22 = cn 22 := hfc22.1 22 (nml rfl)
    have : c22 23 = cn 23 := hfc22.1 23 (nml rfl)
    have : c22 24 = cn 24 := hfc22.1 24 (nml rfl)
    have : c22 25 = cn 25 := hfc22.1 25 (nml rfl)
    have h622 : c22 6 = cn 6 + 1 := h622
    have h4122 : a22 4 1 = cn 6 := h4122
    have h4022 : a22 4 0 = ad 4 0 := h4022
    have hfa22 : ∀ i k : Nat, i ∉ [4, 5, 60, 61, 62, 63, 64] → a22 i k = ad i k := hfa22
    have hC22 : ∀ k : Nat, k < c22 6 → ∃ n : Nat, n ≤ 12 ∧ F22 198 k = nI n := hC22
    have hL22 : ∀ k : Nat, k < c22 6 → (F22 199 k).toInt ≤ 160 := hL22
    have hT0 := hT
    have hT : (∀ k : Nat, k < c22 10 → a22 3 k < c22 6) ∧ a22 4 0 < c22 6 ∧ a22 4 1 < c22 6 := ht_new hT0 (fun k => hfa22 3 k (by decide)) h4022 h4122 h622 (by omega)
    have hT9 := hT.2.2
    have hC := hC22
    have hL := hL22
    have hP : va_P D vwCl (wX cI (D.1 99) zz g a22 c22 I22 F22) H1 := hP1
    have hD : va_D A (wX cI (D.1 99) zz g a22 c22 I22 F22) := hD1.weaken (fun _ _ _ h => hFc _ h)
    generalize H1 = H at hP hS ⊢
    refine lv_astore_n (lv' := [(2, .ref (a22 5 (a22 4 1))), (0, .ref (g 0)), (1, .int (nI n0))]) hx hb dX11_law_24 rfl hl (ltb rfl) rfl (fun ls hl => ?_)
    refine lv_aload_n hx hb dX11_law_25 rfl (lvA1 hl) ?_
    refine gf_RX11_21 S hK hP 0 xo_0 (v := .ref (g 5)) rfl dX11_law_26 ?_
    have hFc := free_all hD hS hA
    refine va_callv (runV_xa (As := []) (rest := []) S (q_Xclear l D cI cB cZ zz qq vv bt g a22 c22 I22 F22  H.size hIn22) kV_RX11_162 hK hXS hS hFc hP hD 1 xo_1 rfl rfl ⟨Nat.le_of_ble_eq_true rfl, Nat.le_of_ble_eq_true rfl⟩ ⟨Nat.le_of_ble_eq_true rfl, Nat.le_of_ble_eq_true rfl⟩ rfl hl.1 rfl (Nat.le_of_ble_eq_true rfl) dX11_law_29) hS (fun q _ h => hFc q h) hFc (fun u t H1 locs ht hvm wh_25 hB1 hz1 hk1 hS => ?_)
    obtain ⟨cn25, In25, Fn25⟩ := u
    obtain ⟨hP1, hD1⟩ := hB1
    rw [ht] at hP1
    have hP : va_P D vwCl (wX cI (D.1 99) zz g a22 cn25 In25 Fn25) H1 := hP1
    have hD : va_D A (wX cI (D.1 99) zz g a22 cn25 In25 Fn25) := hD1.weaken (fun _ _ _ h => hFc _ h)
    generalize H1 = H at hP hS ⊢
    have vh_25 : (fun c2 I2 F2 => Fr [3] [] [] c22 I22 F22 c2 I2 F2 ∧ CBX c2 ∧ (c2 3 = 0)) cn25 In25 Fn25 := wh_25
    obtain ⟨hfc25, hIn25, h_25⟩ := vh_25
    obtain rfl : I22 = In25 := (funext (fun k => hfc25.2.1 k List.not_mem_nil)).symm
    obtain rfl : F22 = Fn25 := (funext (fun k => hfc25.2.2 k List.not_mem_nil)).symm
    have hf25 : Fr [3, 6, 31, 32] [30, 33] [195, 196, 197, 198, 199, 301, 302, 303, 304, 305] cn In Fn cn25 I22 F22 := Fr.mo (Fr.tr hfm22 hfc25) (sbl rfl) (sbl rfl) (sbl rfl)
    have : cn25 0 = (c22 0) := hfc25.1 0 (nml rfl)
    have : cn25 1 = (c22 1) := hfc25.1 1 (nml rfl)
    have : cn25 2 = (c22 2) := hfc25.1 2 (nml rfl)
    have : cn25 4 = (c22 4) := hfc25.1 4 (nml rfl)
    have : cn25 5 = (c22 5) := hfc25.1 5 (nml rfl)
    have : cn25 10 = (c22 10) := hfc25.1 10 (nml rfl)
    have : cn25 11 = (c22 11) := hfc25.1 11 (nml rfl)
    have : cn25 12 = (c22 12) := hfc25.1 12 (nml rfl)
    have : cn25 13 = (c22 13) := hfc25.1 13 (nml rfl)
    have : cn25 14 = (c22 14) := hfc25.1 14 (nml rfl)
    have : cn25 15 = (c22 15) := hfc25.1 15 (nml rfl)
    have : cn25 20 = (c22 20) := hfc25.1 20 (nml rfl)
    have : cn25 21 = (c22 21) := hfc25.1 21 (nml rfl)
    have : cn25 22 = (c22 22) := hfc25.1 22 (nml rfl)
    have : cn25 23 = (c22 23) := hfc25.1 23 (nml rfl)
    have : cn25 24 = (c22 24) := hfc25.1 24 (nml rfl)
    have : cn25 25 = (c22 25) := hfc25.1 25 (nml rfl)
    have : cn25 6 = (c22 6) := hfc25.1 6 (nml rfl)
    have : cn25 31 = (c22 31) := hfc25.1 31 (nml rfl)
    have : cn25 32 = (c22 32) := hfc25.1 32 (nml rfl)
    refine lv_aload_n hx hb dX11_law_32 rfl (lvA1 hl) ?_
    refine gf_RX11_28 S hK hP 0 xo_0 (v := .ref (g 6)) rfl dX11_law_33 ?_
    refine gf_RX11_165 S hK hP 3 xo_3 (v := .int (I22 33)) rfl dX11_law_36 ?_
    refine lv_if_eq (tgt := 51) hx hb dX11_law_39 rfl (fun c_26 => ?_) (fun c_26 => ?_)
    ·
      have tc_26 : ((I22 33).toInt : Int) = 0 := congrArg Int32.toInt c_26
      refine lv_aload_n hx hb dX11_law_51 rfl (lvA1 hl) ?_
      refine lv_aload_n hx hb dX11_law_52 rfl (lvA0 hl) ?_
      refine pf_RX11_12 S hK hP hD hS 0 xo_0 (v := .ref (a22 5 (a22 4 1))) (Nat.le_of_ble_eq_true rfl) rfl rfl dX11_law_53 (fun H locs hP hD hS => ?_)
      have hP : va_P D vwCl (wX cI (D.1 99) zz g (adO a22 4 0 (a22 4 1)) cn25 I22 F22) H := va_P_eq xH40 hP
      have hD : va_D A (wX cI (D.1 99) zz g (adO a22 4 0 (a22 4 1)) cn25 I22 F22) := va_D_eq xH40 hD
      refine lv_aload_n hx hb dX11_law_56 rfl (lvA0 hl) ?_
      refine gf_RX11_171 S hK hP _ (xf_7 (show (a22 4 1) < (cn25 6) by omega)) (v := .int ((F22 198) (a22 4 1))) rfl dX11_law_57 ?_
      have hT9 : (∀ k : Nat, k < cn25 10 → a22 3 k < cn25 6) ∧ a22 4 0 < cn25 6 ∧ a22 4 1 < cn25 6 := by
        have e6 : cn25 6 = c22 6 := by omega
        have e10 : cn25 10 = c22 10 := by omega
        rw [e6, e10]; exact hT
      have hC9 : ∀ k : Nat, k < cn25 6 → ∃ n : Nat, n ≤ 12 ∧ F22 198 k = nI n := fun k hk => hC k (by omega)
      have hL9 : ∀ k : Nat, k < cn25 6 → (F22 199 k).toInt ≤ 160 := fun k hk => hL k (by omega)
      exact W.iret (v := ((F22 198) (a22 4 1))) hx hb hr (fun t ht hW => ⟨⟨((F22 198) (a22 4 1)), ((adO a22 4 0 (a22 4 1)), cn25, I22, F22), rfl, ⟨(Fr.mo hf25 (sbl rfl) (sbl rfl) (sbl rfl)), hIn25, (@ht_l a22 cn25 (a22 4 1) hT9 hT9.2.2), hC9, hL9, (fun i k hi => (if_neg (fun q => hi (by rw [q.1]; decide))).trans (hfa22 i k (fun q => hi (List.mem_cons_of_mem _ q))))⟩, by rw [ht]; exact hP, hD⟩, hS.F ht⟩) hS.2.2 dX11_law_60
    ·
      have tc_26 : ((I22 33).toInt : Int) ≠ 0 := fun q => c_26 (Int32.toInt_inj.mp q)
      refine lv_aload_n hx hb dX11_law_42 rfl (lvA1 hl) ?_
      refine gf_RX11_28 S hK hP 0 xo_0 (v := .ref (g 6)) rfl dX11_law_43 ?_
      refine gf_RX11_165 S hK hP 3 xo_3 (v := .int (I22 33)) rfl dX11_law_46 ?_
      refine lv_ineg hx hb dX11_law_49 ?_
      have hT9 : (∀ k : Nat, k < cn25 10 → a22 3 k < cn25 6) ∧ a22 4 0 < cn25 6 ∧ a22 4 1 < cn25 6 := by
        have e6 : cn25 6 = c22 6 := by omega
        have e10 : cn25 10 = c22 10 := by omega
        rw [e6, e10]; exact hT
      have hC9 : ∀ k : Nat, k < cn25 6 → ∃ n : Nat, n ≤ 12 ∧ F22 198 k = nI n := fun k hk => hC k (by omega)
      have hL9 : ∀ k : Nat, k < cn25 6 → (F22 199 k).toInt ≤ 160 := fun k hk => hL k (by omega)
      exact W.iret (v := (-(I22 33))) hx hb hr (fun t ht hW => ⟨⟨(-(I22 33)), (a22, cn25, I22, F22), rfl, ⟨(Fr.mo hf25 (sbl rfl) (sbl rfl) (sbl rfl)), hIn25, hT9, hC9, hL9, (fun i k hi => hfa22 i k (fun q => hi (List.mem_cons_of_mem _ q)))⟩, by rw [ht]; exact hP, hD⟩, hS.F ht⟩) hS.2.2 dX11_law_50
  ·
    have h_22 : ¬ (1 ≤ v0.toInt ∧ v0.toInt ≤ 160 ∧ v0.toInt ≤ ((cn 3) : Int)) := h_22
    refine lv_if_ne (tgt := 10) hx hb dX11_law_5 rfl (fun h => absurd h cq_eq_0_0) (fun _ => ?_)
    refine lv_iconst (v := (-1)) hx hb dX11_law_8 kic_m1 ?_
    refine W.widen (k := 6) (n := 237) (Nat.le_of_ble_eq_true rfl) (Nat.le_of_ble_eq_true rfl) ?_
    exact W.iret (v := (-1)) hx hb hr (fun t ht hW => ⟨⟨(-1), (ad, cn, In, Fn), rfl, ⟨(Fr.mo (Fr.rf (cn := cn) (In := In) (Fn := Fn)) (sbl rfl) (sbl rfl) (sbl rfl)), hB, hT, hC, hL, fun _ _ _ => rfl⟩, by rw [ht]; exact hP, hD⟩, hS.F ht⟩) hS.2.2 dX11_law_9
