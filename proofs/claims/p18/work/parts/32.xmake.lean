section
theorem ne_ex {X : va_W} {i m : Nat} {c : Nat × va_E} (h : X[i]? = some c) : i ≠ X.length + m := by
  have := (List.getElem?_eq_some_iff.mp h).1
  omega
theorem xij {cI QA : ClassId} {zz : Nat} {g : Nat → Nat} {ad : Nat → Nat → Nat} {cn : Nat → Nat} {In : Nat → Int32} {Fn : Nat → Nat → Int32} {i k : Nat} (h : i < 30) : i ≠ (fxX cI QA zz g ad cn In Fn).length + k := by
  have e : (fxX cI QA zz g ad cn In Fn).length = 30 := rfl
  omega
theorem set_same9 {α : Type} {V : List α} {k : Nat} {x : α} (q : V[k]? = some x) : V.set k x = V := by
  obtain ⟨lk, ek⟩ := List.getElem?_eq_some_iff.mp q
  rw [← ek]; exact List.set_getElem_self lk
theorem nI_mt {c : Nat} (h : c < 2 ^ 31) : (nI c - 1).toInt = (c : Int) - 1 := by
  rcases Nat.eq_zero_or_pos c with rfl | q
  · rfl
  · rw [show nI c - 1 = nI (c - 1) from nI_sub (b := 1) q, nI_toInt (by omega)]; omega
section ADDJ
variable {D : va_G} {cl : List vw_C} {A0 A1 : Nat → Prop} {X ex exE X2 ws9 : va_W} {i j a b c : Nat} {e1 e3 d1 d2 : va_E} {L' E' O c1 c2 : Nat × va_E} {H H1 : Heap}
theorem add0_join (hP : va_P D cl (X ++ ex) H) (hD : va_D A0 (X ++ ex)) (hi : X[i]? = some (a, e1)) (hm : ex[0]? = some (c, e3)) (hk : ∀ q : Nat, q < H.size → ¬ va_A [(a, e1), (c, e3)] H.size q → H1[q]? = H[q]?) (hF : ∀ q, va_A [(a, e1), (c, e3)] H.size q → A0 q) (hP1 : va_P D cl [(a, d1), (b, d2), (c, e3)] H1) (hD1 : va_D (va_A [(a, e1), (c, e3)] H.size) [(a, d1), (b, d2), (c, e3)]) (he : ex ++ [(b, d2)] = exE) (hp : List.Perm (X.set i (a, d1) ++ exE) X2) : va_P D cl X2 H1 ∧ va_D A0 X2 := by
  obtain ⟨p, q⟩ := wset2e hP hD (exl hi) (exr hm) (ne_ex hi) hk hF hP1 hD1
  have e : (((X ++ ex).set i (a, d1)).set (X.length + 0) (c, e3)) ++ [(b, d2)] = X.set i (a, d1) ++ exE := by
    rw [exs_l hi rfl, ← he, ← List.append_assoc]
    have e2 := exs_r (X := X.set i (a, d1)) (ex := ex) (m := 0) (c := (c, e3)) (ex' := ex) (set_same9 hm)
    rw [List.length_set] at e2
    rw [e2]
  rw [e] at p q
  exact ⟨va_P_perm hp p, va_D_perm hp q⟩
theorem addG_join (hp2 : ∀ L' E' : Nat × va_E, (((X ++ ex).set i L').set j E').Perm (([L', E', O] : va_W) ++ ws9)) (hi : X[i]? = some c1) (hj : X[j]? = some c2) (hP1 : va_P D cl (([L', E', O] : va_W) ++ ws9) H1) (hD1 : va_D A1 (([L', E', O] : va_W) ++ ws9)) (hF : ∀ q, A1 q → A0 q) (hp : List.Perm (((X.set i L').set j E') ++ ex) X2) : va_P D cl X2 H1 ∧ va_D A0 X2 := by
  have li := (List.getElem?_eq_some_iff.mp hi).1
  have lj := (List.getElem?_eq_some_iff.mp hj).1
  have e : ((X ++ ex).set i L').set j E' = ((X.set i L').set j E') ++ ex := by
    rw [List.set_append_left _ _ li, List.set_append_left _ _ (by rw [List.length_set]; exact lj)]
  have p := va_P_perm (hp2 L' E').symm hP1
  have q := va_D_perm (hp2 L' E').symm (hD1.weaken (fun _ _ _ h => hF _ h))
  rw [e] at p q
  exact ⟨va_P_perm hp p, va_D_perm hp q⟩
end ADDJ
theorem xlz_0 {cI QA : ClassId} {zz : Nat} {g : Nat → Nat} {ad : Nat → Nat → Nat} {cn : Nat → Nat} {In : Nat → Int32} {Fn : Nat → Nat → Int32} (h : cn 10 = 0) : (wX cI QA zz g ad cn In Fn)[24]? = some (g 10, .inr (0, [.int (In 10), .ref zz, .int 0])) := by
  rw [xo_24, if_pos h, h]; rfl
theorem xlz_1 {cI QA : ClassId} {zz : Nat} {g : Nat → Nat} {ad : Nat → Nat → Nat} {cn : Nat → Nat} {In : Nat → Int32} {Fn : Nat → Nat → Int32} (h : cn 11 = 0) : (wX cI QA zz g ad cn In Fn)[25]? = some (g 11, .inr (0, [.int (In 11), .ref zz, .int 0])) := by
  rw [xo_25, if_pos h, h]; rfl
theorem xlz_2 {cI QA : ClassId} {zz : Nat} {g : Nat → Nat} {ad : Nat → Nat → Nat} {cn : Nat → Nat} {In : Nat → Int32} {Fn : Nat → Nat → Int32} (h : cn 12 = 0) : (wX cI QA zz g ad cn In Fn)[26]? = some (g 12, .inr (0, [.int (In 12), .ref zz, .int 0])) := by
  rw [xo_26, if_pos h, h]; rfl
theorem xlz_3 {cI QA : ClassId} {zz : Nat} {g : Nat → Nat} {ad : Nat → Nat → Nat} {cn : Nat → Nat} {In : Nat → Int32} {Fn : Nat → Nat → Int32} (h : cn 13 = 0) : (wX cI QA zz g ad cn In Fn)[27]? = some (g 13, .inr (0, [.int (In 13), .ref zz, .int 0])) := by
  rw [xo_27, if_pos h, h]; rfl
theorem xlz_4 {cI QA : ClassId} {zz : Nat} {g : Nat → Nat} {ad : Nat → Nat → Nat} {cn : Nat → Nat} {In : Nat → Int32} {Fn : Nat → Nat → Int32} (h : cn 14 = 0) : (wX cI QA zz g ad cn In Fn)[28]? = some (g 14, .inr (0, [.int (In 14), .ref zz, .int 0])) := by
  rw [xo_28, if_pos h, h]; rfl
theorem xlz_5 {cI QA : ClassId} {zz : Nat} {g : Nat → Nat} {ad : Nat → Nat → Nat} {cn : Nat → Nat} {In : Nat → Int32} {Fn : Nat → Nat → Int32} (h : cn 15 = 0) : (wX cI QA zz g ad cn In Fn)[29]? = some (g 15, .inr (0, [.int (In 15), .ref zz, .int 0])) := by
  rw [xo_29, if_pos h, h]; rfl
theorem xu_1 {cI QA : ClassId} {zz : Nat} {g : Nat → Nat} {ad : Nat → Nat → Nat} {cn : Nat → Nat} {In : Nat → Int32} {Fn : Nat → Nat → Int32} {q z c : Nat} {y x0 x1 x2 x3 x4 x5 x6 x7 x8 x9 : Int32} (h0 : cn 11 = 0) : List.Perm (((wX cI QA zz g ad cn In Fn).set 25 (g 11, .inr (0, [.int y, .ref z, .int (nI 1)]))) ++ ([(q, .inr (3, [.int x0, .int x1, .int x2, .int x3, .int x4, .int x5, .int x6, .int x7, .int x8, .int x9])), (z, .inl (QA, c, .inr (.inr (.inr (.inr (va_up (fun _ => none) 0 (some q)))))))] : va_W)) (wX cI QA zz g (adP ad 11 (cn 11) q 1 z) (va_up (va_up cn 11 ((cn 11) + 1)) 21 c) (va_up In 11 y) (va_up (va_up (va_up (va_up (va_up (va_up (va_up (va_up (va_up (va_up Fn 120 (upd (Fn 120) (cn 11) x0)) 121 (upd (Fn 121) (cn 11) x1)) 122 (upd (Fn 122) (cn 11) x2)) 123 (upd (Fn 123) (cn 11) x3)) 124 (upd (Fn 124) (cn 11) x4)) 125 (upd (Fn 125) (cn 11) x5)) 126 (upd (Fn 126) (cn 11) x6)) 127 (upd (Fn 127) (cn 11) x7)) 128 (upd (Fn 128) (cn 11) x8)) 129 (upd (Fn 129) (cn 11) x9))) := by
  have h9 := xadd0_1 (cI := cI) (QA := QA) (zz := zz) (g := g) (ad := ad) (cn := cn) (In := In) (Fn := Fn) (q := q) (z := z) (c := c) (x0 := x0) (x1 := x1) (x2 := x2) (x3 := x3) (x4 := x4) (x5 := x5) (x6 := x6) (x7 := x7) (x8 := x8) (x9 := x9) (y := y) h0
  rw [h0]
  exact h9
theorem xu_3 {cI QA : ClassId} {zz : Nat} {g : Nat → Nat} {ad : Nat → Nat → Nat} {cn : Nat → Nat} {In : Nat → Int32} {Fn : Nat → Nat → Int32} {q z c : Nat} {y x0 x1 x2 x3 x4 : Int32} (h0 : cn 13 = 0) : List.Perm (((wX cI QA zz g ad cn In Fn).set 27 (g 13, .inr (0, [.int y, .ref z, .int (nI 1)]))) ++ ([(q, .inr (5, [.int x0, .int x1, .int x2, .int x3, .int x4])), (z, .inl (QA, c, .inr (.inr (.inr (.inr (va_up (fun _ => none) 0 (some q)))))))] : va_W)) (wX cI QA zz g (adP ad 13 (cn 13) q 3 z) (va_up (va_up cn 13 ((cn 13) + 1)) 23 c) (va_up In 13 y) (va_up (va_up (va_up (va_up (va_up Fn 160 (upd (Fn 160) (cn 13) x0)) 161 (upd (Fn 161) (cn 13) x1)) 162 (upd (Fn 162) (cn 13) x2)) 163 (upd (Fn 163) (cn 13) x3)) 164 (upd (Fn 164) (cn 13) x4))) := by
  have h9 := xadd0_3 (cI := cI) (QA := QA) (zz := zz) (g := g) (ad := ad) (cn := cn) (In := In) (Fn := Fn) (q := q) (z := z) (c := c) (x0 := x0) (x1 := x1) (x2 := x2) (x3 := x3) (x4 := x4) (y := y) h0
  rw [h0]
  exact h9
theorem xu_4 {cI QA : ClassId} {zz : Nat} {g : Nat → Nat} {ad : Nat → Nat → Nat} {cn : Nat → Nat} {In : Nat → Int32} {Fn : Nat → Nat → Int32} {q z c : Nat} {y x0 x1 x2 : Int32} (h0 : cn 14 = 0) : List.Perm (((wX cI QA zz g ad cn In Fn).set 28 (g 14, .inr (0, [.int y, .ref z, .int (nI 1)]))) ++ ([(q, .inr (7, [.int x0, .int x1, .int x2])), (z, .inl (QA, c, .inr (.inr (.inr (.inr (va_up (fun _ => none) 0 (some q)))))))] : va_W)) (wX cI QA zz g (adP ad 14 (cn 14) q 4 z) (va_up (va_up cn 14 ((cn 14) + 1)) 24 c) (va_up In 14 y) (va_up (va_up (va_up Fn 170 (upd (Fn 170) (cn 14) x0)) 171 (upd (Fn 171) (cn 14) x1)) 172 (upd (Fn 172) (cn 14) x2))) := by
  have h9 := xadd0_4 (cI := cI) (QA := QA) (zz := zz) (g := g) (ad := ad) (cn := cn) (In := In) (Fn := Fn) (q := q) (z := z) (c := c) (x0 := x0) (x1 := x1) (x2 := x2) (y := y) h0
  rw [h0]
  exact h9
theorem xu_5 {cI QA : ClassId} {zz : Nat} {g : Nat → Nat} {ad : Nat → Nat → Nat} {cn : Nat → Nat} {In : Nat → Int32} {Fn : Nat → Nat → Int32} {q z c : Nat} {y x0 x1 x2 : Int32} (h0 : cn 15 = 0) : List.Perm (((wX cI QA zz g ad cn In Fn).set 29 (g 15, .inr (0, [.int y, .ref z, .int (nI 1)]))) ++ ([(q, .inr (4, [.int x0, .int x1, .int x2])), (z, .inl (QA, c, .inr (.inr (.inr (.inr (va_up (fun _ => none) 0 (some q)))))))] : va_W)) (wX cI QA zz g (adP ad 15 (cn 15) q 5 z) (va_up (va_up cn 15 ((cn 15) + 1)) 25 c) (va_up In 15 y) (va_up (va_up (va_up Fn 180 (upd (Fn 180) (cn 15) x0)) 181 (upd (Fn 181) (cn 15) x1)) 182 (upd (Fn 182) (cn 15) x2))) := by
  have h9 := xadd0_5 (cI := cI) (QA := QA) (zz := zz) (g := g) (ad := ad) (cn := cn) (In := In) (Fn := Fn) (q := q) (z := z) (c := c) (x0 := x0) (x1 := x1) (x2 := x2) (y := y) h0
  rw [h0]
  exact h9
theorem xuK {cI QA : ClassId} {zz : Nat} {g : Nat → Nat} {ad : Nat → Nat → Nat} {cn : Nat → Nat} {In : Nat → Int32} {Fn : Nat → Nat → Int32} {q qt r0 r1 r2 r3 r4 z c : Nat} {y x0 x1 x2 x3 x4 x5 x6 x7 x8 x9 : Int32} (h0 : cn 10 = 0) (hT : ∀ k : Nat, k < cn 10 → ad 3 k < cn 6) (h40 : ad 4 0 < cn 6) (h41 : ad 4 1 < cn 6) : List.Perm (((wX cI QA zz g ad cn In Fn).set 24 (g 10, .inr (0, [.int y, .ref z, .int (nI (0 + 1))]))) ++ ([(q, .inr (2, [.int x0, .int x1, .int x2, .int x3, .int x4, .int x5, .int x6, .int x7, .int x8, .int x9, .ref qt])), (qt, .inr (10, [.ref r0, .ref r1, .ref r2, .ref r3, .ref r4, .int 0, .int 0, .int 0, .int 0])), (r0, .inl (cI, 0, .inl (fun _ => 0))), (r1, .inl (cI, 12, .inl (fun _ => 0))), (r2, .inl (cI, 12, .inl (fun _ => 0))), (r3, .inl (cI, 12, .inl (fun _ => 0))), (r4, .inl (cI, 32, .inl (fun _ => 0))), (z, .inl (QA, c, .inr (.inr (.inr (.inr (va_up (fun _ => none) 0 (some q)))))))] : va_W)) (wX cI QA zz g (adO (adO (adO (adO (adO (adO (adO (adO (adO ad 10 (cn 10) q) 3 (cn 10) (cn 6)) 5 (cn 6) qt) 60 (cn 6) r0) 61 (cn 6) r1) 62 (cn 6) r2) 63 (cn 6) r3) 64 (cn 6) r4) 2 0 z) (va_up (va_up (va_up cn 10 ((cn 10) + 1)) 20 c) 6 (cn 6 + 1)) (va_up In 10 y) (va_up (va_up (va_up (va_up (va_up (va_up (va_up (va_up (va_up (va_up (va_up (va_up (va_up (va_up (va_up (va_up (va_up (va_up (va_up (va_up Fn 100 (upd (Fn 100) (cn 10) x0)) 101 (upd (Fn 101) (cn 10) x1)) 102 (upd (Fn 102) (cn 10) x2)) 103 (upd (Fn 103) (cn 10) x3)) 104 (upd (Fn 104) (cn 10) x4)) 105 (upd (Fn 105) (cn 10) x5)) 106 (upd (Fn 106) (cn 10) x6)) 107 (upd (Fn 107) (cn 10) x7)) 108 (upd (Fn 108) (cn 10) x8)) 109 (upd (Fn 109) (cn 10) x9)) 195 (upd (Fn 195) (cn 6) 0)) 196 (upd (Fn 196) (cn 6) 0)) 197 (upd (Fn 197) (cn 6) 0)) 198 (upd (Fn 198) (cn 6) 0)) 199 (upd (Fn 199) (cn 6) 0)) 301 (flat (Fn 301) 200 (cn 6) (fun _ => 0))) 302 (flat (Fn 302) 12 (cn 6) (fun _ => 0))) 303 (flat (Fn 303) 12 (cn 6) (fun _ => 0))) 304 (flat (Fn 304) 12 (cn 6) (fun _ => 0))) 305 (flat (Fn 305) 32 (cn 6) (fun _ => 0)))) := by
  have h9 := xaddK0 (cI := cI) (QA := QA) (zz := zz) (g := g) (ad := ad) (cn := cn) (In := In) (Fn := Fn) (q := q) (qt := qt) (r0 := r0) (r1 := r1) (r2 := r2) (r3 := r3) (r4 := r4) (z := z) (c := c) (x0 := x0) (x1 := x1) (x2 := x2) (x3 := x3) (x4 := x4) (x5 := x5) (x6 := x6) (x7 := x7) (x8 := x8) (x9 := x9) (y := y) h0 hT h40 h41
  rw [h0]
  exact h9
theorem xuB {cI QA : ClassId} {zz : Nat} {g : Nat → Nat} {ad : Nat → Nat → Nat} {cn : Nat → Nat} {In : Nat → Int32} {Fn : Nat → Nat → Int32} {q qs z c : Nat} {f : Nat → Int32} {y x1 x2 x3 x4 x5 x6 x7 : Int32} (h0 : cn 12 = 0) (hf0 : ∀ i : Nat, 12 ≤ i → f i = 0) : List.Perm (((wX cI QA zz g ad cn In Fn).set 26 (g 12, .inr (0, [.int y, .ref z, .int (nI (0 + 1))]))) ++ ([(q, .inr (1, [.ref qs, .int x1, .int x2, .int x3, .int x4, .int x5, .int x6, .int x7])), (qs, .inl (cI, 12, .inl f)), (z, .inl (QA, c, .inr (.inr (.inr (.inr (va_up (fun _ => none) 0 (some q)))))))] : va_W)) (wX cI QA zz g (adO (adO (adO ad 12 (cn 12) q) 1 (cn 12) qs) 2 2 z) (va_up (va_up cn 12 ((cn 12) + 1)) 22 c) (va_up In 12 y) (va_up (va_up (va_up (va_up (va_up (va_up (va_up (va_up Fn 141 (upd (Fn 141) (cn 12) x1)) 142 (upd (Fn 142) (cn 12) x2)) 143 (upd (Fn 143) (cn 12) x3)) 144 (upd (Fn 144) (cn 12) x4)) 145 (upd (Fn 145) (cn 12) x5)) 146 (upd (Fn 146) (cn 12) x6)) 147 (upd (Fn 147) (cn 12) x7)) 150 (flat (Fn 150) 12 (cn 12) f))) := by
  have h9 := xaddB0 (cI := cI) (QA := QA) (zz := zz) (g := g) (ad := ad) (cn := cn) (In := In) (Fn := Fn) (q := q) (qs := qs) (z := z) (c := c) (x1 := x1) (x2 := x2) (x3 := x3) (x4 := x4) (x5 := x5) (x6 := x6) (x7 := x7) (y := y) h0 hf0
  rw [h0]
  exact h9

set_option maxRecDepth 100000 in
theorem kI_RX11_475 : CalI RX11 475 yX6_init cX6_init 3 2 := ⟨⟨wk5_17 7 rfl rfl, wk5_17 8 rfl rfl, wk1_2 1 rfl rfl, wk5_17 9 rfl rfl⟩, rfl, ⟨nmh_7.1, nmh_7.2, pd_20⟩⟩
set_option maxRecDepth 100000 in
theorem kV_RX11_110 : CalV RX11 110 yJx4a65c_add_9ea2d cJx4a65c_add_9ea2d 2 (some .boolean) 1 := ⟨⟨wk2_9 6 rfl rfl, wk2_9 7 rfl rfl, wk2_9 8 rfl rfl, wk1_1 0 rfl rfl, wk2_9 9 rfl rfl⟩, ⟨nmh_21.1, nmh_21.2, pd_57⟩⟩
set_option maxRecDepth 100000 in
theorem kI_RX11_107 : CalI RX11 107 yX1_init cX1_init 5 4 := ⟨⟨wk2_5 5 rfl rfl, wk2_5 6 rfl rfl, wk1_1 2 rfl rfl, wk2_5 7 rfl rfl⟩, rfl, ⟨nmh_2.1, nmh_2.2, pd_29⟩⟩
set_option maxRecDepth 100000 in
theorem kI_RX11_513 : CalI RX11 513 yX3_init cX3_init 4 3 := ⟨⟨wk6_3 5 rfl rfl, wk6_3 6 rfl rfl, wk1_2 2 rfl rfl, wk6_3 7 rfl rfl⟩, rfl, ⟨nmh_4.1, nmh_4.2, pd_25⟩⟩
set_option maxRecDepth 100000 in
theorem kI_RX11_399 : CalI RX11 399 yX4_init cX4_init 6 5 := ⟨⟨wk5_6 1 rfl rfl, wk5_6 2 rfl rfl, wk1_2 0 rfl rfl, wk5_6 3 rfl rfl⟩, rfl, ⟨nmh_5.1, nmh_5.2, pd_32⟩⟩
set_option maxRecDepth 100000 in
theorem kI_RX11_125 : CalI RX11 125 yX2_init cX2_init 7 6 := ⟨⟨wk2_17 2 rfl rfl, wk2_17 3 rfl rfl, wk1_1 7 rfl rfl, wk2_17 4 rfl rfl⟩, rfl, ⟨nmh_3.1, nmh_3.2, pd_34⟩⟩
set_option maxRecDepth 100000 in
theorem pf_RX11_128 {p : Program} {l : Launch} {e : Env} {R : Room} {s : State} {m : MethodId} {args : Array Value} {below : List Frame} {meth : Method} {c : Code} {H : Heap} {locs : List Loc} {cells slots : Nat} {Q : State → Prop} {cc : ByteArray} {nL pc : Nat} {D : va_G} {cI cB cZ : ClassId} {ws : va_W} {rest : List Value} {ls : Array Slot} {a : Nat} {fs : List Value} {v : Value} {A : Nat → Prop} {H0 : Heap} (S : SF p m c cc nL s args RX11) (hK : KK D cI cB cZ s) (hP : va_P D vwCl ws H) (hD : va_D A ws) (hS : va_S A H0 H locs) (q0 : Nat) (he : ws[q0]? = some (a, .inr (3, fs))) (hl : 6 < fs.length) (hn : narrow (tyX2 6) v = v) (hfit : fits (tyX2 6) v = true) (hdg : decode cc pc = .ok (.putfield 128, 3)) (kk : ∀ (H1 : Heap) (locs1 : List Loc), va_P D vwCl (ws.set q0 (a, .inr (3, fs.set 6 v))) H1 → va_D A (ws.set q0 (a, .inr (3, fs.set 6 v))) → va_S A H0 H1 locs1 → W p l e R s m args below meth c H1 locs1 cells slots Q (F0 m (pc + 3) ls rest)) : W p l e R s m args below meth c H locs cells slots Q (F0 m pc ls (v :: .ref a :: rest)) :=
  va_put (C := RX2) (T := TX2) (N := 10) S.1 S.2.1 S.2.2.2.2 hin_RX2 tyX2 tyX2_ok nmX2 S.2.2.2.1 hK.1 hP hD hS q0 he rfl 6 (by decide) (S.2.2.2.2 _ (wk2_18 9 rfl rfl)) (fun _ h9 => h9) rfl (tyX2_ok 6 (by decide)) hn hfit hl hdg kk
set_option maxRecDepth 100000 in
theorem gf_RX11_131 {p : Program} {l : Launch} {e : Env} {R : Room} {s : State} {m : MethodId} {args : Array Value} {below : List Frame} {meth : Method} {c : Code} {H : Heap} {locs : List Loc} {cells slots : Nat} {Q : State → Prop} {cc : ByteArray} {nL pc : Nat} {D : va_G} {cI cB cZ : ClassId} {ws : va_W} {rest : List Value} {ls : Array Slot} {a : Nat} {fs : List Value} {v : Value} (S : SF p m c cc nL s args RX11) (hK : KK D cI cB cZ s) (hP : va_P D vwCl ws H) (q0 : Nat) (he : ws[q0]? = some (a, .inr (2, fs))) (hv : fs[6]? = some v) (hdg : decode cc pc = .ok (.getfield 131, 3)) (kk : W p l e R s m args below meth c H locs cells slots Q (F0 m (pc + 3) ls (v :: rest))) : W p l e R s m args below meth c H locs cells slots Q (F0 m pc ls (.ref a :: rest)) :=
  va_get (C := RX1) (T := TX1) (N := 11) S.1 S.2.1 S.2.2.2.2 hin_RX1 S.2.2.2.1 hK.1 hP q0 he rfl 6 (by decide) (S.2.2.2.2 _ (wk2_6 11 rfl rfl)) (fun _ h9 => h9) hv hdg kk
set_option maxRecDepth 100000 in
theorem pf_RX11_134 {p : Program} {l : Launch} {e : Env} {R : Room} {s : State} {m : MethodId} {args : Array Value} {below : List Frame} {meth : Method} {c : Code} {H : Heap} {locs : List Loc} {cells slots : Nat} {Q : State → Prop} {cc : ByteArray} {nL pc : Nat} {D : va_G} {cI cB cZ : ClassId} {ws : va_W} {rest : List Value} {ls : Array Slot} {a : Nat} {fs : List Value} {v : Value} {A : Nat → Prop} {H0 : Heap} (S : SF p m c cc nL s args RX11) (hK : KK D cI cB cZ s) (hP : va_P D vwCl ws H) (hD : va_D A ws) (hS : va_S A H0 H locs) (q0 : Nat) (he : ws[q0]? = some (a, .inr (3, fs))) (hl : 7 < fs.length) (hn : narrow (tyX2 7) v = v) (hfit : fits (tyX2 7) v = true) (hdg : decode cc pc = .ok (.putfield 134, 3)) (kk : ∀ (H1 : Heap) (locs1 : List Loc), va_P D vwCl (ws.set q0 (a, .inr (3, fs.set 7 v))) H1 → va_D A (ws.set q0 (a, .inr (3, fs.set 7 v))) → va_S A H0 H1 locs1 → W p l e R s m args below meth c H1 locs1 cells slots Q (F0 m (pc + 3) ls rest)) : W p l e R s m args below meth c H locs cells slots Q (F0 m pc ls (v :: .ref a :: rest)) :=
  va_put (C := RX2) (T := TX2) (N := 10) S.1 S.2.1 S.2.2.2.2 hin_RX2 tyX2 tyX2_ok nmX2 S.2.2.2.1 hK.1 hP hD hS q0 he rfl 7 (by decide) (S.2.2.2.2 _ (wk2_18 10 rfl rfl)) (fun _ h9 => h9) rfl (tyX2_ok 7 (by decide)) hn hfit hl hdg kk
set_option maxRecDepth 100000 in
theorem pf_RX11_141 {p : Program} {l : Launch} {e : Env} {R : Room} {s : State} {m : MethodId} {args : Array Value} {below : List Frame} {meth : Method} {c : Code} {H : Heap} {locs : List Loc} {cells slots : Nat} {Q : State → Prop} {cc : ByteArray} {nL pc : Nat} {D : va_G} {cI cB cZ : ClassId} {ws : va_W} {rest : List Value} {ls : Array Slot} {a : Nat} {fs : List Value} {v : Value} {A : Nat → Prop} {H0 : Heap} (S : SF p m c cc nL s args RX11) (hK : KK D cI cB cZ s) (hP : va_P D vwCl ws H) (hD : va_D A ws) (hS : va_S A H0 H locs) (q0 : Nat) (he : ws[q0]? = some (a, .inr (3, fs))) (hl : 8 < fs.length) (hn : narrow (tyX2 8) v = v) (hfit : fits (tyX2 8) v = true) (hdg : decode cc pc = .ok (.putfield 141, 3)) (kk : ∀ (H1 : Heap) (locs1 : List Loc), va_P D vwCl (ws.set q0 (a, .inr (3, fs.set 8 v))) H1 → va_D A (ws.set q0 (a, .inr (3, fs.set 8 v))) → va_S A H0 H1 locs1 → W p l e R s m args below meth c H1 locs1 cells slots Q (F0 m (pc + 3) ls rest)) : W p l e R s m args below meth c H locs cells slots Q (F0 m pc ls (v :: .ref a :: rest)) :=
  va_put (C := RX2) (T := TX2) (N := 10) S.1 S.2.1 S.2.2.2.2 hin_RX2 tyX2 tyX2_ok nmX2 S.2.2.2.1 hK.1 hP hD hS q0 he rfl 8 (by decide) (S.2.2.2.2 _ (wk2_18 11 rfl rfl)) (fun _ h9 => h9) rfl (tyX2_ok 8 (by decide)) hn hfit hl hdg kk
set_option maxRecDepth 100000 in
theorem pf_RX11_118 {p : Program} {l : Launch} {e : Env} {R : Room} {s : State} {m : MethodId} {args : Array Value} {below : List Frame} {meth : Method} {c : Code} {H : Heap} {locs : List Loc} {cells slots : Nat} {Q : State → Prop} {cc : ByteArray} {nL pc : Nat} {D : va_G} {cI cB cZ : ClassId} {ws : va_W} {rest : List Value} {ls : Array Slot} {a : Nat} {fs : List Value} {v : Value} {A : Nat → Prop} {H0 : Heap} (S : SF p m c cc nL s args RX11) (hK : KK D cI cB cZ s) (hP : va_P D vwCl ws H) (hD : va_D A ws) (hS : va_S A H0 H locs) (q0 : Nat) (he : ws[q0]? = some (a, .inr (2, fs))) (hl : 4 < fs.length) (hn : narrow (tyX1 4) v = v) (hfit : fits (tyX1 4) v = true) (hdg : decode cc pc = .ok (.putfield 118, 3)) (kk : ∀ (H1 : Heap) (locs1 : List Loc), va_P D vwCl (ws.set q0 (a, .inr (2, fs.set 4 v))) H1 → va_D A (ws.set q0 (a, .inr (2, fs.set 4 v))) → va_S A H0 H1 locs1 → W p l e R s m args below meth c H1 locs1 cells slots Q (F0 m (pc + 3) ls rest)) : W p l e R s m args below meth c H locs cells slots Q (F0 m pc ls (v :: .ref a :: rest)) :=
  va_put (C := RX1) (T := TX1) (N := 11) S.1 S.2.1 S.2.2.2.2 hin_RX1 tyX1 tyX1_ok nmX1 S.2.2.2.1 hK.1 hP hD hS q0 he rfl 4 (by decide) (S.2.2.2.2 _ (wk2_6 9 rfl rfl)) (fun _ h9 => h9) rfl (tyX1_ok 4 (by decide)) hn hfit hl hdg kk
set_option maxRecDepth 100000 in
theorem pf_RX11_131 {p : Program} {l : Launch} {e : Env} {R : Room} {s : State} {m : MethodId} {args : Array Value} {below : List Frame} {meth : Method} {c : Code} {H : Heap} {locs : List Loc} {cells slots : Nat} {Q : State → Prop} {cc : ByteArray} {nL pc : Nat} {D : va_G} {cI cB cZ : ClassId} {ws : va_W} {rest : List Value} {ls : Array Slot} {a : Nat} {fs : List Value} {v : Value} {A : Nat → Prop} {H0 : Heap} (S : SF p m c cc nL s args RX11) (hK : KK D cI cB cZ s) (hP : va_P D vwCl ws H) (hD : va_D A ws) (hS : va_S A H0 H locs) (q0 : Nat) (he : ws[q0]? = some (a, .inr (2, fs))) (hl : 6 < fs.length) (hn : narrow (tyX1 6) v = v) (hfit : fits (tyX1 6) v = true) (hdg : decode cc pc = .ok (.putfield 131, 3)) (kk : ∀ (H1 : Heap) (locs1 : List Loc), va_P D vwCl (ws.set q0 (a, .inr (2, fs.set 6 v))) H1 → va_D A (ws.set q0 (a, .inr (2, fs.set 6 v))) → va_S A H0 H1 locs1 → W p l e R s m args below meth c H1 locs1 cells slots Q (F0 m (pc + 3) ls rest)) : W p l e R s m args below meth c H locs cells slots Q (F0 m pc ls (v :: .ref a :: rest)) :=
  va_put (C := RX1) (T := TX1) (N := 11) S.1 S.2.1 S.2.2.2.2 hin_RX1 tyX1 tyX1_ok nmX1 S.2.2.2.1 hK.1 hP hD hS q0 he rfl 6 (by decide) (S.2.2.2.2 _ (wk2_6 11 rfl rfl)) (fun _ h9 => h9) rfl (tyX1_ok 6 (by decide)) hn hfit hl hdg kk
noncomputable def sxX11_sewer_61 : List UInt8 := []
noncomputable def sxX11_sewer_50 : List UInt8 := 87 :: 42 :: 180 :: 0 :: 74 :: 182 :: 0 :: 84 :: 4 :: 100 :: 172 :: sxX11_sewer_61
noncomputable def sxX11_sewer_24 : List UInt8 := 182 :: 0 :: 84 :: 16 :: 10 :: 161 :: 0 :: 5 :: 2 :: 172 :: 42 :: 180 :: 0 :: 74 :: 187 :: 1 :: 217 :: 89 :: 27 :: 28 :: 183 :: 1 :: 219 :: 182 :: 0 :: 110 :: sxX11_sewer_50
theorem shX11_sewer_0 : cX11_sewer.data.toList.drop 0 = 27 :: 3 :: 16 :: 99 :: 184 :: 0 :: 80 :: 153 :: 0 :: 25 :: 28 :: 3 :: 16 :: 99 :: 184 :: 0 :: 80 :: 153 :: 0 :: 15 :: 42 :: 180 :: 0 :: 74 :: sxX11_sewer_24 := rfl
theorem shX11_sewer_24 : cX11_sewer.data.toList.drop 24 = 182 :: 0 :: 84 :: 16 :: 10 :: 161 :: 0 :: 5 :: 2 :: 172 :: 42 :: 180 :: 0 :: 74 :: 187 :: 1 :: 217 :: 89 :: 27 :: 28 :: 183 :: 1 :: 219 :: 182 :: 0 :: 110 :: sxX11_sewer_50 := aq_24 shX11_sewer_0
theorem shX11_sewer_50 : cX11_sewer.data.toList.drop 50 = 87 :: 42 :: 180 :: 0 :: 74 :: 182 :: 0 :: 84 :: 4 :: 100 :: 172 :: sxX11_sewer_61 := aq_26 shX11_sewer_24
noncomputable def sxX11_kitchen_99 : List UInt8 := []
noncomputable def sxX11_kitchen_97 : List UInt8 := 100 :: 172 :: sxX11_kitchen_99
noncomputable def sxX11_kitchen_73 : List UInt8 := 187 :: 0 :: 91 :: 89 :: 27 :: 28 :: 29 :: 21 :: 4 :: 183 :: 0 :: 107 :: 182 :: 0 :: 110 :: 87 :: 42 :: 180 :: 0 :: 61 :: 182 :: 0 :: 84 :: 4 :: sxX11_kitchen_97
noncomputable def sxX11_kitchen_49 : List UInt8 := 184 :: 0 :: 80 :: 153 :: 0 :: 15 :: 42 :: 180 :: 0 :: 61 :: 182 :: 0 :: 84 :: 16 :: 10 :: 161 :: 0 :: 5 :: 2 :: 172 :: 42 :: 180 :: 0 :: 61 :: sxX11_kitchen_73
noncomputable def sxX11_kitchen_24 : List UInt8 := 3 :: 54 :: 5 :: 21 :: 5 :: 153 :: 0 :: 38 :: 29 :: 3 :: 16 :: 50 :: 184 :: 0 :: 80 :: 153 :: 0 :: 28 :: 21 :: 4 :: 16 :: 20 :: 17 :: 1 :: 144 :: sxX11_kitchen_49
theorem shX11_kitchen_0 : cX11_kitchen.data.toList.drop 0 = 27 :: 3 :: 16 :: 99 :: 184 :: 0 :: 80 :: 153 :: 0 :: 17 :: 28 :: 3 :: 16 :: 99 :: 184 :: 0 :: 80 :: 153 :: 0 :: 7 :: 4 :: 167 :: 0 :: 4 :: sxX11_kitchen_24 := rfl
theorem shX11_kitchen_24 : cX11_kitchen.data.toList.drop 24 = 3 :: 54 :: 5 :: 21 :: 5 :: 153 :: 0 :: 38 :: 29 :: 3 :: 16 :: 50 :: 184 :: 0 :: 80 :: 153 :: 0 :: 28 :: 21 :: 4 :: 16 :: 20 :: 17 :: 1 :: 144 :: sxX11_kitchen_49 := aq_24 shX11_kitchen_0
theorem shX11_kitchen_49 : cX11_kitchen.data.toList.drop 49 = 184 :: 0 :: 80 :: 153 :: 0 :: 15 :: 42 :: 180 :: 0 :: 61 :: 182 :: 0 :: 84 :: 16 :: 10 :: 161 :: 0 :: 5 :: 2 :: 172 :: 42 :: 180 :: 0 :: 61 :: sxX11_kitchen_73 := aq_25 shX11_kitchen_24
theorem shX11_kitchen_73 : cX11_kitchen.data.toList.drop 73 = 187 :: 0 :: 91 :: 89 :: 27 :: 28 :: 29 :: 21 :: 4 :: 183 :: 0 :: 107 :: 182 :: 0 :: 110 :: 87 :: 42 :: 180 :: 0 :: 61 :: 182 :: 0 :: 84 :: 4 :: sxX11_kitchen_97 := aq_24 shX11_kitchen_49
theorem shX11_kitchen_97 : cX11_kitchen.data.toList.drop 97 = 100 :: 172 :: sxX11_kitchen_99 := aq_24 shX11_kitchen_73
theorem dX11_kitchen_67 : decode cX11_kitchen 67 = .ok (.iconst (-1), 1) := oc_2 67 (aq_18 shX11_kitchen_49)
theorem dX11_kitchen_68 : decode cX11_kitchen 68 = .ok (.ireturn, 1) := oc_172 68 (aq_19 shX11_kitchen_49)
noncomputable def sxX11_moves_111 : List UInt8 := []
noncomputable def sxX11_moves_98 : List UInt8 := 89 :: 27 :: 28 :: 29 :: 183 :: 2 :: 1 :: 182 :: 0 :: 110 :: 87 :: 4 :: 172 :: sxX11_moves_111
noncomputable def sxX11_moves_73 : List UInt8 := 58 :: 5 :: 25 :: 5 :: 198 :: 0 :: 14 :: 29 :: 25 :: 5 :: 180 :: 1 :: 252 :: 162 :: 0 :: 5 :: 3 :: 172 :: 42 :: 180 :: 0 :: 77 :: 187 :: 1 :: 249 :: sxX11_moves_98
noncomputable def sxX11_moves_48 : List UInt8 := 153 :: 0 :: 15 :: 42 :: 180 :: 0 :: 77 :: 182 :: 0 :: 84 :: 16 :: 60 :: 161 :: 0 :: 5 :: 3 :: 172 :: 42 :: 27 :: 17 :: 1 :: 143 :: 182 :: 1 :: 253 :: sxX11_moves_73
noncomputable def sxX11_moves_24 : List UInt8 := 198 :: 0 :: 7 :: 4 :: 167 :: 0 :: 4 :: 3 :: 54 :: 4 :: 21 :: 4 :: 153 :: 0 :: 27 :: 29 :: 3 :: 42 :: 180 :: 0 :: 103 :: 184 :: 0 :: 80 :: sxX11_moves_48
theorem shX11_moves_0 : cX11_moves.data.toList.drop 0 = 27 :: 3 :: 42 :: 180 :: 1 :: 246 :: 4 :: 100 :: 184 :: 0 :: 80 :: 153 :: 0 :: 20 :: 28 :: 2 :: 159 :: 0 :: 11 :: 42 :: 28 :: 182 :: 0 :: 114 :: sxX11_moves_24 := rfl
theorem shX11_moves_24 : cX11_moves.data.toList.drop 24 = 198 :: 0 :: 7 :: 4 :: 167 :: 0 :: 4 :: 3 :: 54 :: 4 :: 21 :: 4 :: 153 :: 0 :: 27 :: 29 :: 3 :: 42 :: 180 :: 0 :: 103 :: 184 :: 0 :: 80 :: sxX11_moves_48 := aq_24 shX11_moves_0
theorem shX11_moves_48 : cX11_moves.data.toList.drop 48 = 153 :: 0 :: 15 :: 42 :: 180 :: 0 :: 77 :: 182 :: 0 :: 84 :: 16 :: 60 :: 161 :: 0 :: 5 :: 3 :: 172 :: 42 :: 27 :: 17 :: 1 :: 143 :: 182 :: 1 :: 253 :: sxX11_moves_73 := aq_24 shX11_moves_24
theorem shX11_moves_73 : cX11_moves.data.toList.drop 73 = 58 :: 5 :: 25 :: 5 :: 198 :: 0 :: 14 :: 29 :: 25 :: 5 :: 180 :: 1 :: 252 :: 162 :: 0 :: 5 :: 3 :: 172 :: 42 :: 180 :: 0 :: 77 :: 187 :: 1 :: 249 :: sxX11_moves_98 := aq_25 shX11_moves_48
theorem shX11_moves_98 : cX11_moves.data.toList.drop 98 = 89 :: 27 :: 28 :: 29 :: 183 :: 2 :: 1 :: 182 :: 0 :: 110 :: 87 :: 4 :: 172 :: sxX11_moves_111 := aq_25 shX11_moves_73
theorem dX11_moves_32 : decode cX11_moves 32 = .ok (.istore 4, 2) := oc_54 32 (aq_8 shX11_moves_24) ub_4
theorem dX11_moves_34 : decode cX11_moves 34 = .ok (.iload 4, 2) := oc_21 34 (aq_10 shX11_moves_24) ub_4
theorem dX11_moves_36 : decode cX11_moves 36 = .ok (.ifCond .eq 27, 3) := oc_153 36 (aq_12 shX11_moves_24) sgw_0_27
theorem dX11_moves_48 : decode cX11_moves 48 = .ok (.ifCond .eq 15, 3) := oc_153 48 shX11_moves_48 sgw_0_15
theorem dX11_moves_73 : decode cX11_moves 73 = .ok (.astore 5, 2) := oc_58 73 shX11_moves_73 ub_5
theorem dX11_moves_75 : decode cX11_moves 75 = .ok (.aload 5, 2) := oc_25 75 (aq_2 shX11_moves_73) ub_5
theorem dX11_moves_77 : decode cX11_moves 77 = .ok (.ifnull 14, 3) := oc_198 77 (aq_4 shX11_moves_73) sgw_0_14
theorem dX11_moves_91 : decode cX11_moves 91 = .ok (.aload_n 0, 1) := oc_42 91 (aq_18 shX11_moves_73)
theorem dX11_moves_92 : decode cX11_moves 92 = .ok (.getfield 77, 3) := oc_180 92 (aq_19 shX11_moves_73) uw_0_77
theorem dX11_moves_95 : decode cX11_moves 95 = .ok (.new 505, 3) := oc_187 95 (aq_22 shX11_moves_73) uw_1_249
theorem dX11_moves_98 : decode cX11_moves 98 = .ok (.dup, 1) := oc_89 98 shX11_moves_98
theorem dX11_moves_99 : decode cX11_moves 99 = .ok (.iload_n 1, 1) := oc_27 99 (aq_1 shX11_moves_98)
theorem dX11_moves_100 : decode cX11_moves 100 = .ok (.iload_n 2, 1) := oc_28 100 (aq_2 shX11_moves_98)
theorem dX11_moves_101 : decode cX11_moves 101 = .ok (.iload_n 3, 1) := oc_29 101 (aq_3 shX11_moves_98)
theorem dX11_moves_102 : decode cX11_moves 102 = .ok (.invokespecial 513, 3) := oc_183 102 (aq_4 shX11_moves_98) uw_2_1
theorem dX11_moves_105 : decode cX11_moves 105 = .ok (.invokevirtual 110, 3) := oc_182 105 (aq_7 shX11_moves_98) uw_0_110
theorem dX11_moves_108 : decode cX11_moves 108 = .ok (.pop, 1) := oc_87 108 (aq_10 shX11_moves_98)
theorem dX11_moves_109 : decode cX11_moves 109 = .ok (.iconst 1, 1) := oc_4 109 (aq_11 shX11_moves_98)
theorem dX11_moves_110 : decode cX11_moves 110 = .ok (.ireturn, 1) := oc_172 110 (aq_12 shX11_moves_98)
theorem dX11_moves_63 : decode cX11_moves 63 = .ok (.iconst 0, 1) := oc_3 63 (aq_15 shX11_moves_48)
theorem dX11_moves_64 : decode cX11_moves 64 = .ok (.ireturn, 1) := oc_172 64 (aq_16 shX11_moves_48)
noncomputable def sxX11_proof_89 : List UInt8 := []
noncomputable def sxX11_proof_72 : List UInt8 := 183 :: 1 :: 143 :: 182 :: 0 :: 110 :: 87 :: 42 :: 180 :: 0 :: 71 :: 182 :: 0 :: 84 :: 4 :: 100 :: 172 :: sxX11_proof_89
noncomputable def sxX11_proof_48 : List UInt8 := 16 :: 40 :: 161 :: 0 :: 5 :: 2 :: 172 :: 42 :: 180 :: 0 :: 71 :: 187 :: 0 :: 97 :: 89 :: 27 :: 28 :: 29 :: 21 :: 4 :: 42 :: 180 :: 0 :: 103 :: sxX11_proof_72
noncomputable def sxX11_proof_24 : List UInt8 := 180 :: 1 :: 86 :: 163 :: 0 :: 26 :: 21 :: 4 :: 3 :: 16 :: 9 :: 184 :: 0 :: 80 :: 153 :: 0 :: 15 :: 42 :: 180 :: 0 :: 71 :: 182 :: 0 :: 84 :: sxX11_proof_48
theorem shX11_proof_0 : cX11_proof.data.toList.drop 0 = 42 :: 27 :: 182 :: 1 :: 126 :: 58 :: 5 :: 25 :: 5 :: 198 :: 0 :: 44 :: 28 :: 155 :: 0 :: 40 :: 28 :: 29 :: 162 :: 0 :: 35 :: 29 :: 25 :: 5 :: sxX11_proof_24 := rfl
theorem shX11_proof_24 : cX11_proof.data.toList.drop 24 = 180 :: 1 :: 86 :: 163 :: 0 :: 26 :: 21 :: 4 :: 3 :: 16 :: 9 :: 184 :: 0 :: 80 :: 153 :: 0 :: 15 :: 42 :: 180 :: 0 :: 71 :: 182 :: 0 :: 84 :: sxX11_proof_48 := aq_24 shX11_proof_0
theorem shX11_proof_48 : cX11_proof.data.toList.drop 48 = 16 :: 40 :: 161 :: 0 :: 5 :: 2 :: 172 :: 42 :: 180 :: 0 :: 71 :: 187 :: 0 :: 97 :: 89 :: 27 :: 28 :: 29 :: 21 :: 4 :: 42 :: 180 :: 0 :: 103 :: sxX11_proof_72 := aq_24 shX11_proof_24
theorem shX11_proof_72 : cX11_proof.data.toList.drop 72 = 183 :: 1 :: 143 :: 182 :: 0 :: 110 :: 87 :: 42 :: 180 :: 0 :: 71 :: 182 :: 0 :: 84 :: 4 :: 100 :: 172 :: sxX11_proof_89 := aq_24 shX11_proof_48
theorem dX11_proof_53 : decode cX11_proof 53 = .ok (.iconst (-1), 1) := oc_2 53 (aq_5 shX11_proof_48)
theorem dX11_proof_54 : decode cX11_proof 54 = .ok (.ireturn, 1) := oc_172 54 (aq_6 shX11_proof_48)
noncomputable def sxX11_fetch_194 : List UInt8 := []
noncomputable def sxX11_fetch_174 : List UInt8 := 42 :: 180 :: 0 :: 65 :: 25 :: 8 :: 182 :: 0 :: 110 :: 87 :: 42 :: 180 :: 0 :: 65 :: 182 :: 0 :: 84 :: 4 :: 100 :: 172 :: sxX11_fetch_194
noncomputable def sxX11_fetch_148 : List UInt8 := 25 :: 7 :: 28 :: 181 :: 0 :: 118 :: 25 :: 7 :: 89 :: 180 :: 0 :: 131 :: 29 :: 96 :: 181 :: 0 :: 131 :: 42 :: 180 :: 0 :: 47 :: 28 :: 29 :: 182 :: 0 :: 144 :: sxX11_fetch_174
noncomputable def sxX11_fetch_124 : List UInt8 := 181 :: 0 :: 134 :: 25 :: 8 :: 25 :: 8 :: 25 :: 7 :: 28 :: 25 :: 7 :: 180 :: 0 :: 118 :: 182 :: 0 :: 121 :: 182 :: 0 :: 137 :: 181 :: 0 :: 141 :: sxX11_fetch_148
noncomputable def sxX11_fetch_100 : List UInt8 := 21 :: 6 :: 183 :: 0 :: 125 :: 58 :: 8 :: 25 :: 8 :: 25 :: 7 :: 180 :: 0 :: 118 :: 181 :: 0 :: 128 :: 25 :: 8 :: 25 :: 7 :: 180 :: 0 :: 131 :: sxX11_fetch_124
noncomputable def sxX11_fetch_75 : List UInt8 := 21 :: 5 :: 3 :: 17 :: 3 :: 232 :: 184 :: 0 :: 80 :: 154 :: 0 :: 5 :: 2 :: 172 :: 187 :: 0 :: 93 :: 89 :: 27 :: 28 :: 29 :: 21 :: 4 :: 21 :: 5 :: sxX11_fetch_100
noncomputable def sxX11_fetch_49 : List UInt8 := 153 :: 0 :: 38 :: 29 :: 3 :: 17 :: 1 :: 144 :: 184 :: 0 :: 80 :: 153 :: 0 :: 27 :: 21 :: 4 :: 3 :: 17 :: 3 :: 232 :: 184 :: 0 :: 80 :: 153 :: 0 :: 15 :: sxX11_fetch_75
noncomputable def sxX11_fetch_24 : List UInt8 := 28 :: 25 :: 7 :: 180 :: 0 :: 118 :: 42 :: 180 :: 0 :: 103 :: 184 :: 0 :: 80 :: 153 :: 0 :: 50 :: 21 :: 6 :: 28 :: 17 :: 1 :: 143 :: 184 :: 0 :: 80 :: sxX11_fetch_49
theorem shX11_fetch_0 : cX11_fetch.data.toList.drop 0 = 42 :: 27 :: 182 :: 0 :: 114 :: 58 :: 7 :: 25 :: 7 :: 198 :: 0 :: 78 :: 42 :: 180 :: 0 :: 65 :: 182 :: 0 :: 84 :: 16 :: 60 :: 162 :: 0 :: 66 :: sxX11_fetch_24 := rfl
theorem shX11_fetch_24 : cX11_fetch.data.toList.drop 24 = 28 :: 25 :: 7 :: 180 :: 0 :: 118 :: 42 :: 180 :: 0 :: 103 :: 184 :: 0 :: 80 :: 153 :: 0 :: 50 :: 21 :: 6 :: 28 :: 17 :: 1 :: 143 :: 184 :: 0 :: 80 :: sxX11_fetch_49 := aq_24 shX11_fetch_0
theorem shX11_fetch_49 : cX11_fetch.data.toList.drop 49 = 153 :: 0 :: 38 :: 29 :: 3 :: 17 :: 1 :: 144 :: 184 :: 0 :: 80 :: 153 :: 0 :: 27 :: 21 :: 4 :: 3 :: 17 :: 3 :: 232 :: 184 :: 0 :: 80 :: 153 :: 0 :: 15 :: sxX11_fetch_75 := aq_25 shX11_fetch_24
theorem shX11_fetch_75 : cX11_fetch.data.toList.drop 75 = 21 :: 5 :: 3 :: 17 :: 3 :: 232 :: 184 :: 0 :: 80 :: 154 :: 0 :: 5 :: 2 :: 172 :: 187 :: 0 :: 93 :: 89 :: 27 :: 28 :: 29 :: 21 :: 4 :: 21 :: 5 :: sxX11_fetch_100 := aq_26 shX11_fetch_49
theorem shX11_fetch_100 : cX11_fetch.data.toList.drop 100 = 21 :: 6 :: 183 :: 0 :: 125 :: 58 :: 8 :: 25 :: 8 :: 25 :: 7 :: 180 :: 0 :: 118 :: 181 :: 0 :: 128 :: 25 :: 8 :: 25 :: 7 :: 180 :: 0 :: 131 :: sxX11_fetch_124 := aq_25 shX11_fetch_75
theorem shX11_fetch_124 : cX11_fetch.data.toList.drop 124 = 181 :: 0 :: 134 :: 25 :: 8 :: 25 :: 8 :: 25 :: 7 :: 28 :: 25 :: 7 :: 180 :: 0 :: 118 :: 182 :: 0 :: 121 :: 182 :: 0 :: 137 :: 181 :: 0 :: 141 :: sxX11_fetch_148 := aq_24 shX11_fetch_100
theorem shX11_fetch_148 : cX11_fetch.data.toList.drop 148 = 25 :: 7 :: 28 :: 181 :: 0 :: 118 :: 25 :: 7 :: 89 :: 180 :: 0 :: 131 :: 29 :: 96 :: 181 :: 0 :: 131 :: 42 :: 180 :: 0 :: 47 :: 28 :: 29 :: 182 :: 0 :: 144 :: sxX11_fetch_174 := aq_24 shX11_fetch_124
theorem shX11_fetch_174 : cX11_fetch.data.toList.drop 174 = 42 :: 180 :: 0 :: 65 :: 25 :: 8 :: 182 :: 0 :: 110 :: 87 :: 42 :: 180 :: 0 :: 65 :: 182 :: 0 :: 84 :: 4 :: 100 :: 172 :: sxX11_fetch_194 := aq_26 shX11_fetch_148
theorem dX11_fetch_5 : decode cX11_fetch 5 = .ok (.astore 7, 2) := oc_58 5 (aq_5 shX11_fetch_0) ub_7
theorem dX11_fetch_7 : decode cX11_fetch 7 = .ok (.aload 7, 2) := oc_25 7 (aq_7 shX11_fetch_0) ub_7
theorem dX11_fetch_9 : decode cX11_fetch 9 = .ok (.ifnull 78, 3) := oc_198 9 (aq_9 shX11_fetch_0) sgw_0_78
theorem dX11_fetch_87 : decode cX11_fetch 87 = .ok (.iconst (-1), 1) := oc_2 87 (aq_12 shX11_fetch_75)
theorem dX11_fetch_88 : decode cX11_fetch 88 = .ok (.ireturn, 1) := oc_172 88 (aq_13 shX11_fetch_75)
theorem dX11_fetch_37 : decode cX11_fetch 37 = .ok (.ifCond .eq 50, 3) := oc_153 37 (aq_13 shX11_fetch_24) sgw_0_50
theorem dX11_fetch_49 : decode cX11_fetch 49 = .ok (.ifCond .eq 38, 3) := oc_153 49 shX11_fetch_49 sgw_0_38
theorem dX11_fetch_60 : decode cX11_fetch 60 = .ok (.ifCond .eq 27, 3) := oc_153 60 (aq_11 shX11_fetch_49) sgw_0_27
theorem dX11_fetch_72 : decode cX11_fetch 72 = .ok (.ifCond .eq 15, 3) := oc_153 72 (aq_23 shX11_fetch_49) sgw_0_15
theorem dX11_fetch_84 : decode cX11_fetch 84 = .ok (.ifCond .ne 5, 3) := oc_154 84 (aq_9 shX11_fetch_75) sgw_0_5
theorem dX11_fetch_180 : decode cX11_fetch 180 = .ok (.invokevirtual 110, 3) := oc_182 180 (aq_6 shX11_fetch_174) uw_0_110
theorem dX11_fetch_183 : decode cX11_fetch 183 = .ok (.pop, 1) := oc_87 183 (aq_9 shX11_fetch_174)
theorem dX11_fetch_184 : decode cX11_fetch 184 = .ok (.aload_n 0, 1) := oc_42 184 (aq_10 shX11_fetch_174)
theorem dX11_fetch_185 : decode cX11_fetch 185 = .ok (.getfield 65, 3) := oc_180 185 (aq_11 shX11_fetch_174) uw_0_65
theorem dX11_fetch_188 : decode cX11_fetch 188 = .ok (.invokevirtual 84, 3) := oc_182 188 (aq_14 shX11_fetch_174) uw_0_84
theorem dX11_fetch_191 : decode cX11_fetch 191 = .ok (.iconst 1, 1) := oc_4 191 (aq_17 shX11_fetch_174)
theorem dX11_fetch_192 : decode cX11_fetch 192 = .ok (.isub, 1) := oc_100 192 (aq_18 shX11_fetch_174)
theorem dX11_fetch_193 : decode cX11_fetch 193 = .ok (.ireturn, 1) := oc_172 193 (aq_19 shX11_fetch_174)
set_option maxRecDepth 100000 in
set_option maxHeartbeats 4000000 in
theorem q_l_shortOf (l : Launch) (D : va_G) (cI cB cZ : ClassId) (x : Nat) (e0 e1 e2 e3 e4 e5 e6 e7 e8 e9 : Int32) (v0 : Int32) : Met l yX2_shortOf (CWS yX2_shortOf cX2_shortOf 2 (some .int)) (RM 1 0 0) (PBr [.ref x, .int v0] D cI cB cZ [(x, .inr (3, [.int e0, .int e1, .int e2, .int e3, .int e4, .int e5, .int e6, .int e7, .int e8, .int e9]))]) (vp_Si (fun r => r = (if 0 < (v0 - e2) - v0 / 10 then (v0 - e2) - v0 / 10 else 0))) 0 0 (fun _ => False) := by
  refine en_r rfl pn_RX2 (Nat.le_of_ble_eq_true rfl) (fun p e s m below meth c hx hb hml hown S hr hlocks hnm hP hK hS ls hl => ?_)
  have hP : va_P D vwCl [(x, .inr (3, [.int e0, .int e1, .int e2, .int e3, .int e4, .int e5, .int e6, .int e7, .int e8, .int e9]))] s.heap := hP
  have hl : lv_has ls 2 [(0, .ref x), (1, .int v0)] := hl
  refine lv_iconst (v := 0) hx hb (oc_3 0 shX2_shortOf_0) kic_0 ?_
  refine lv_iload_n hx hb (oc_27 1 (aq_1 shX2_shortOf_0)) rfl (lvA1 hl) ?_
  refine lv_aload_n hx hb (oc_42 2 (aq_2 shX2_shortOf_0)) rfl (lvA0 hl) ?_
  refine gf_RX2_16 S hK hP 0 rfl (v := .int e2) rfl (oc_180 3 (aq_3 shX2_shortOf_0) uw_0_16) ?_
  refine lv_isub hx hb (oc_100 6 (aq_6 shX2_shortOf_0)) ?_
  refine lv_iload_n hx hb (oc_27 7 (aq_7 shX2_shortOf_0)) rfl (lvA1 hl) ?_
  refine lv_bipush (v := 10) hx hb (oc_16 8 (aq_8 shX2_shortOf_0) sgb_10) kbc_10 ?_
  refine lv_idiv hx hb (oc_108 10 (aq_10 shX2_shortOf_0)) (by decide) ?_
  refine lv_isub hx hb (oc_100 11 (aq_11 shX2_shortOf_0)) ?_
  refine va_mmax hx hb (by rw [hml]; exact hl.1.symm) hown (S.2.2.2.2 _ (wk3_1 2 rfl rfl)) (S.2.2.2.2 _ (wk1_3 6 rfl rfl)) (S.2.2.2.2 _ (wk1_0 3 rfl rfl)) (S.2.2.2.2 _ (wk1_3 7 rfl rfl)) (Nat.le_of_ble_eq_true rfl) (Nat.le_of_ble_eq_true rfl) (Nat.le_of_ble_eq_true rfl) (Nat.le_of_ble_eq_true rfl) (oc_184 12 (aq_12 shX2_shortOf_0) uw_0_28) ?_
  exact W.iret (v := (if 0 < ((v0 - e2) - (v0 / 10)) then ((v0 - e2) - (v0 / 10)) else 0)) hx hb hr (fun t ht hW => ⟨(if 0 < ((v0 - e2) - (v0 / 10)) then ((v0 - e2) - (v0 / 10)) else 0), rfl, rfl, ht⟩) (fun _ h => absurd h List.not_mem_nil) (oc_172 15 (aq_15 shX2_shortOf_0))
set_option maxRecDepth 100000 in
set_option maxHeartbeats 4000000 in
theorem q_Xsewer (l : Launch) (D : va_G) (cI cB cZ : ClassId) (zz qq vv : Nat) (bt : Nat → Int32) (g : Nat → Nat) (ad : Nat → Nat → Nat) (cn : Nat → Nat) (In : Nat → Int32) (Fn : Nat → Nat → Int32) (v0 v1 : Int32) (sz : Nat) (hB : CBX cn) : Met l yX11_sewer (CWS yX11_sewer cX11_sewer 3 (some .int)) (RM 8 2 103) (PBx [.ref (g 0), .int v0, .int v1] D cI cB cZ zz qq vv bt (wX cI (D.1 99) zz g ad cn In Fn) sz) (va_Qi (fun (r : Int32) (u : (Nat → Nat → Nat) × (Nat → Nat) × (Nat → Int32) × (Nat → Nat → Int32)) => (fun r a2 c2 I2 F2 => (r = (-1) ∧ ¬ (0 ≤ v0.toInt ∧ v0.toInt ≤ 99 ∧ 0 ≤ v1.toInt ∧ v1.toInt ≤ 99 ∧ cn 14 < 10) ∧ ad = a2 ∧ cn = c2 ∧ In = I2 ∧ Fn = F2) ∨ (r = nI (cn 14) ∧ (0 ≤ v0.toInt ∧ v0.toInt ≤ 99 ∧ 0 ≤ v1.toInt ∧ v1.toInt ≤ 99 ∧ cn 14 < 10) ∧ ∃ (q z c : Nat) (y : Int32), (cn 14 < c ∧ c ≤ 100) ∧ (adP ad 14 (cn 14) q 4 z) = a2 ∧ (va_up (va_up cn 14 ((cn 14) + 1)) 24 c) = c2 ∧ (va_up In 14 y) = I2 ∧ (va_up (va_up (va_up Fn 170 (upd (Fn 170) (cn 14) v0)) 171 (upd (Fn 171) (cn 14) v1)) 172 (upd (Fn 172) (cn 14) 0)) = F2)) r u.1 u.2.1 u.2.2.1 u.2.2.2) (fun (u : (Nat → Nat → Nat) × (Nat → Nat) × (Nat → Int32) × (Nat → Nat → Int32)) (t : State) => va_P D vwCl (wX cI (D.1 99) zz g u.1 u.2.1 u.2.2.1 u.2.2.2) t.heap ∧ va_D (va_A (wX cI (D.1 99) zz g ad cn In Fn) sz) (wX cI (D.1 99) zz g u.1 u.2.1 u.2.2.1 u.2.2.2)) (va_A (wX cI (D.1 99) zz g ad cn In Fn) sz)) 2 103 (va_A (wX cI (D.1 99) zz g ad cn In Fn) sz) := by
  refine en_x (fun A => (va_Qi (fun (r : Int32) (u : (Nat → Nat → Nat) × (Nat → Nat) × (Nat → Int32) × (Nat → Nat → Int32)) => (fun (r : Int32) (a2 : Nat → Nat → Nat) (c2 : Nat → Nat) (I2 : Nat → Int32) (F2 : Nat → Nat → Int32) => (r = (-1) ∧ ¬ (0 ≤ v0.toInt ∧ v0.toInt ≤ 99 ∧ 0 ≤ v1.toInt ∧ v1.toInt ≤ 99 ∧ cn 14 < 10) ∧ ad = a2 ∧ cn = c2 ∧ In = I2 ∧ Fn = F2) ∨ (r = nI (cn 14) ∧ (0 ≤ v0.toInt ∧ v0.toInt ≤ 99 ∧ 0 ≤ v1.toInt ∧ v1.toInt ≤ 99 ∧ cn 14 < 10) ∧ ∃ (q z c : Nat) (y : Int32), (cn 14 < c ∧ c ≤ 100) ∧ (adP ad 14 (cn 14) q 4 z) = a2 ∧ (va_up (va_up cn 14 ((cn 14) + 1)) 24 c) = c2 ∧ (va_up In 14 y) = I2 ∧ (va_up (va_up (va_up Fn 170 (upd (Fn 170) (cn 14) v0)) 171 (upd (Fn 171) (cn 14) v1)) 172 (upd (Fn 172) (cn 14) 0)) = F2)) r u.1 u.2.1 u.2.2.1 u.2.2.2) (fun (u : (Nat → Nat → Nat) × (Nat → Nat) × (Nat → Int32) × (Nat → Nat → Int32)) (t : State) => va_P D vwCl (wX cI (D.1 99) zz g u.1 u.2.1 u.2.2.1 u.2.2.2) t.heap ∧ va_D A (wX cI (D.1 99) zz g u.1 u.2.1 u.2.2.1 u.2.2.2)) A)) rfl rfl pn_RX11 (Nat.le_of_ble_eq_true rfl) (fun p e s m below meth c A hx hb hml hown S hr hlocks hnm hA hP hK hD hXS hS ls hl => ?_)
  have hl : lv_has ls 3 [(0, .ref (g 0)), (1, .int v0), (2, .int v1)] := hl
  refine lv_iload_n hx hb (oc_27 0 shX11_sewer_0) rfl (lvA1 hl) ?_
  refine lv_iconst (v := 0) hx hb (oc_3 1 (aq_1 shX11_sewer_0)) kic_0 ?_
  refine lv_bipush (v := 99) hx hb (oc_16 2 (aq_2 shX11_sewer_0) sgb_99) kbc_99 ?_
  refine vp_callSi (runS_r (As := [.int v0, .int 0, .int 99]) (rest := []) S (q_l_within l D cI cB cZ v0 0 99) kS_RX11_80 hK hP [] rfl ⟨Nat.le_of_ble_eq_true rfl, Nat.le_of_ble_eq_true rfl⟩ ⟨Nat.le_of_ble_eq_true rfl, Nat.le_of_ble_eq_true rfl⟩ rfl hl.1 rfl (Nat.le_of_ble_eq_true rfl) (oc_184 4 (aq_4 shX11_sewer_0) uw_0_80)) (fun r_1 h_2 => ?_)
  rcases h_2 with ⟨rfl, h_2⟩ | ⟨rfl, h_2⟩
  ·
    have h_2 : 0 ≤ v0.toInt ∧ v0.toInt ≤ 99 := h_2
    refine lv_if_eq (tgt := 32) hx hb (oc_153 7 (aq_7 shX11_sewer_0) sgw_0_25) rfl (fun h => absurd h cq_eq_1_0) (fun _ => ?_)
    refine lv_iload_n hx hb (oc_28 10 (aq_10 shX11_sewer_0)) rfl (lvA2 hl) ?_
    refine lv_iconst (v := 0) hx hb (oc_3 11 (aq_11 shX11_sewer_0)) kic_0 ?_
    refine lv_bipush (v := 99) hx hb (oc_16 12 (aq_12 shX11_sewer_0) sgb_99) kbc_99 ?_
    refine vp_callSi (runS_r (As := [.int v1, .int 0, .int 99]) (rest := []) S (q_l_within l D cI cB cZ v1 0 99) kS_RX11_80 hK hP [] rfl ⟨Nat.le_of_ble_eq_true rfl, Nat.le_of_ble_eq_true rfl⟩ ⟨Nat.le_of_ble_eq_true rfl, Nat.le_of_ble_eq_true rfl⟩ rfl hl.1 rfl (Nat.le_of_ble_eq_true rfl) (oc_184 14 (aq_14 shX11_sewer_0) uw_0_80)) (fun r_3 h_4 => ?_)
    rcases h_4 with ⟨rfl, h_4⟩ | ⟨rfl, h_4⟩
    ·
      have h_4 : 0 ≤ v1.toInt ∧ v1.toInt ≤ 99 := h_4
      refine lv_if_eq (tgt := 32) hx hb (oc_153 17 (aq_17 shX11_sewer_0) sgw_0_15) rfl (fun h => absurd h cq_eq_1_0) (fun _ => ?_)
      refine lv_aload_n hx hb (oc_42 20 (aq_20 shX11_sewer_0)) rfl (lvA0 hl) ?_
      refine gf_RX11_74 S hK hP 0 xo_0 (v := .ref (g 14)) rfl (oc_180 21 (aq_21 shX11_sewer_0) uw_0_74) ?_
      refine vp_callSi (runV_r (As := []) (rest := []) S (q_l_size l D cI cB cZ (g 14) (if (cn 14) = 0 then zz else ad 2 4) (In 14) (nI (cn 14))) kV_RX11_84 hK hP [28] (one_is xo_28) 28 xo_28 rfl rfl ⟨Nat.le_of_ble_eq_true rfl, Nat.le_of_ble_eq_true rfl⟩ ⟨Nat.le_of_ble_eq_true rfl, Nat.le_of_ble_eq_true rfl⟩ rfl hl.1 rfl (Nat.le_of_ble_eq_true rfl) (oc_182 24 shX11_sewer_24 uw_0_84)) (fun r_5 h_6 => ?_)
      subst h_6
      refine lv_bipush (v := 10) hx hb (oc_16 27 (aq_3 shX11_sewer_24) sgb_10) kbc_10 ?_
      have : (nI (cn 14)).toInt = (((cn 14) : Nat) : Int) := nI_toInt (by omega)
      refine lv_icmp_lt (tgt := 34) hx hb (oc_161 29 (aq_5 shX11_sewer_24) sgw_0_5) rfl (fun c_7 => ?_) (fun c_7 => ?_)
      ·
        have tc_7 : ((nI (cn 14)).toInt : Int) < 10 := Int32.lt_iff_toInt_lt.mp c_7
        refine lv_aload_n hx hb (oc_42 34 (aq_10 shX11_sewer_24)) rfl (lvA0 hl) ?_
        refine gf_RX11_74 S hK hP 0 xo_0 (v := .ref (g 14)) rfl (oc_180 35 (aq_11 shX11_sewer_24) uw_0_74) ?_
        refine va_new (ci := 7) (fs := [.int 0, .int 0, .int 0]) (C := RX6) (T := TX6) (N := 3) hx hb S.2.2.2.2 hin_RX6 tyX6 tyX6_ok hown (S.2.2.2.2 _ (wk5_17 5 rfl rfl)) (S.2.2.2.2 _ (wk5_17 6 rfl rfl)) (S.2.2.2.2 _ (wk1_2 1 rfl rfl)) hK.1 hP hD hS hA rfl (by decide +kernel) (Nat.le_of_ble_eq_true rfl) (Nat.le_of_ble_eq_true rfl) (oc_187 38 (aq_14 shX11_sewer_24) uw_1_217) (fun q38 H hP hD hS => ?_)
        have hP : va_P D vwCl ((wX cI (D.1 99) zz g ad cn In Fn) ++ ([(q38, .inr (7, [.int 0, .int 0, .int 0]))] : va_W)) H := hP
        have hD : va_D A ((wX cI (D.1 99) zz g ad cn In Fn) ++ ([(q38, .inr (7, [.int 0, .int 0, .int 0]))] : va_W)) := hD
        refine lv_dup hx hb (oc_89 41 (aq_17 shX11_sewer_24)) rfl ?_
        refine lv_iload_n hx hb (oc_27 42 (aq_18 shX11_sewer_24)) rfl (lvA1 hl) ?_
        refine lv_iload_n hx hb (oc_28 43 (aq_19 shX11_sewer_24)) rfl (lvA2 hl) ?_
        have hFc := va_free (wc := [(q38, .inr (7, [.int 0, .int 0, .int 0]))]) hD hS hA [_] (one_im (exr (m := 0) rfl))
        refine va_callv (runI_w (As := [.int v0, .int v1]) (rest := [.ref q38, .ref (g 14)]) S (q_l_Sewer l D cI cB cZ q38 v0 v1 H.size) kI_RX11_475 hK hP hD [_] (one_is (exr (m := 0) rfl)) (one_im (exr (m := 0) rfl)) rfl ⟨Nat.le_of_ble_eq_true rfl, Nat.le_of_ble_eq_true rfl⟩ ⟨Nat.le_of_ble_eq_true rfl, Nat.le_of_ble_eq_true rfl⟩ rfl hl.1 rfl (Nat.le_of_ble_eq_true rfl) (oc_183 44 (aq_20 shX11_sewer_24) uw_1_219)) hS (fun q _ h => hFc q h) hFc (fun u_8 t H1 locs ht hvm h_9 hB1 hz1 hk1 hS => ?_)
        obtain ⟨hP1, hD1⟩ := hB1
        rw [ht] at hP1
        obtain ⟨hP, hD⟩ := exjoin hP hD hk1 hFc hP1 hD1
        generalize H1 = H at hP hS ⊢
        have hP : va_P D vwCl ((wX cI (D.1 99) zz g ad cn In Fn) ++ ([(q38, .inr (7, [.int v0, .int v1, .int 0]))] : va_W)) H := hP
        have hD : va_D A ((wX cI (D.1 99) zz g ad cn In Fn) ++ ([(q38, .inr (7, [.int v0, .int v1, .int 0]))] : va_W)) := hD
        rcases Nat.eq_zero_or_pos (cn 14) with hz0 | hz0
        ·
          have hi9 : (wX cI (D.1 99) zz g ad cn In Fn)[28]? = _ := xlz_4 hz0
          have hp2P := pick2P hP (exl hi9) (exr (m := 0) rfl)
          have hp2D := pick2D hD (exl hi9) (exr (m := 0) rfl) (ne_ex hi9)
          have hFc := free_all hp2D hS hA
          refine va_calli (runV_xa (As := [.ref q38]) (rest := []) S (q_l_addZS l D cI cB cZ zz qq vv bt (g 14) q38 (In 14) v0 v1 0 H.size) kV_RX11_110 hK hXS hS hFc hp2P hp2D 0 rfl rfl rfl ⟨Nat.le_of_ble_eq_true rfl, Nat.le_of_ble_eq_true rfl⟩ ⟨Nat.le_of_ble_eq_true rfl, Nat.le_of_ble_eq_true rfl⟩ rfl hl.1 rfl (Nat.le_of_ble_eq_true rfl) (oc_182 47 (aq_23 shX11_sewer_24) uw_0_110)) hS (fun q _ h => hFc q h) hFc (fun r9 u9 t H1 locs ht hvm h9 hB1 hz1 hk1 hS => ?_)
          obtain ⟨hP1, hD1⟩ := hB1
          rw [ht] at hP1
          obtain rfl : r9 = 1 := h9
          obtain ⟨hP, hD⟩ := add0_join hP hD hi9 rfl hk1 hFc hP1 hD1 rfl (xu_4 (z := u9) (c := 10) (y := (In 14) + 1) (q := q38) (x0 := v0) (x1 := v1) (x2 := 0) hz0)
          have hP : va_P D vwCl (wX cI (D.1 99) zz g (adP ad 14 (cn 14) q38 4 u9) (va_up (va_up cn 14 ((cn 14) + 1)) 24 10) (va_up In 14 ((In 14) + 1)) (va_up (va_up (va_up Fn 170 (upd (Fn 170) (cn 14) v0)) 171 (upd (Fn 171) (cn 14) v1)) 172 (upd (Fn 172) (cn 14) 0))) H1 := hP
          have hD : va_D A (wX cI (D.1 99) zz g (adP ad 14 (cn 14) q38 4 u9) (va_up (va_up cn 14 ((cn 14) + 1)) 24 10) (va_up In 14 ((In 14) + 1)) (va_up (va_up (va_up Fn 170 (upd (Fn 170) (cn 14) v0)) 171 (upd (Fn 171) (cn 14) v1)) 172 (upd (Fn 172) (cn 14) 0))) := hD
          generalize H1 = H at hP hS ⊢
          refine W.widen (k := 2) (n := 103) (Nat.le_of_ble_eq_true rfl) (Nat.le_of_ble_eq_true rfl) ?_
          refine lv_pop hx hb (oc_87 50 shX11_sewer_50) rfl ?_
          refine lv_aload_n hx hb (oc_42 51 (aq_1 shX11_sewer_50)) rfl (lvA0 hl) ?_
          refine gf_RX11_74 S hK hP 0 xo_0 (v := .ref (g 14)) rfl (oc_180 52 (aq_2 shX11_sewer_50) uw_0_74) ?_
          refine vp_callSi (runV_r (As := []) (rest := []) S (q_l_size l D cI cB cZ (g 14) (if ((cn 14) + 1) = 0 then zz else (adP ad 14 (cn 14) q38 4 u9) 2 4) ((In 14) + 1) (nI ((cn 14) + 1))) kV_RX11_84 hK hP [28] (one_is xo_28) 28 xo_28 rfl rfl ⟨Nat.le_of_ble_eq_true rfl, Nat.le_of_ble_eq_true rfl⟩ ⟨Nat.le_of_ble_eq_true rfl, Nat.le_of_ble_eq_true rfl⟩ rfl hl.1 rfl (Nat.le_of_ble_eq_true rfl) (oc_182 55 (aq_5 shX11_sewer_50) uw_0_84)) (fun r_11 h_12 => ?_)
          subst h_12
          refine lv_iconst (v := 1) hx hb (oc_4 58 (aq_8 shX11_sewer_50)) kic_1 ?_
          refine lv_isub hx hb (oc_100 59 (aq_9 shX11_sewer_50)) ?_
          refine lv_topi (fun y_13 ey_13 => ?_)
          obtain rfl : y_13 = (nI (cn 14)) := ey_13.trans (nI_sub (b := 1) (by omega))
          exact W.iret (v := (nI (cn 14))) hx hb hr (fun t ht hW => ⟨⟨(nI (cn 14)), ((adP ad 14 (cn 14) q38 4 u9), (va_up (va_up cn 14 ((cn 14) + 1)) 24 10), (va_up In 14 ((In 14) + 1)), (va_up (va_up (va_up Fn 170 (upd (Fn 170) (cn 14) v0)) 171 (upd (Fn 171) (cn 14) v1)) 172 (upd (Fn 172) (cn 14) 0))), rfl, (Or.inr ⟨rfl, by omega, q38, u9, 10, ((In 14) + 1), ⟨by omega, by omega⟩, rfl, rfl, rfl, rfl⟩), by rw [ht]; exact hP, hD⟩, hS.F ht⟩) hS.2.2 (oc_172 60 (aq_10 shX11_sewer_50))
        ·
          have hi9 : (wX cI (D.1 99) zz g ad cn In Fn)[28]? = _ := xl_4 hz0
          have hj9 : (wX cI (D.1 99) zz g ad cn In Fn)[_]? = _ := xf_17 (k := 0) (show 0 < min 1 (cn 14) by omega)
          obtain ⟨ws9, hp1, hp2⟩ := pickG (W := ((wX cI (D.1 99) zz g ad cn In Fn) ++ ([(q38, .inr (7, [.int v0, .int v1, .int 0]))] : va_W))) (exl hi9) (exl hj9) (exr (m := 0) rfl) (xij (by decide)) (ne_ex hi9) (ne_ex hj9)
          have hP9 := va_P_perm hp1 hP
          have hD9 := va_D_perm hp1 hD
          have hFc := free_all hD9 hS hA
          refine va_calli (runV_xa (As := [.ref q38]) (rest := []) S (q_l_addGS l D cI cB cZ zz qq vv bt (cn 24) (g 14) (ad 2 4) (cn 14) q38 (In 14) (ad 14) v0 v1 0 ws9 H.size (by omega) (by omega) hz0 (by omega) (fun i hi => ⟨_, g_mem (hp1.mem_iff.mp (List.mem_of_getElem? (exl (xf_4 (k := i) hi)))) (by decide)⟩)) kV_RX11_110 hK hXS hS hFc hP9 hD9 0 rfl rfl rfl ⟨Nat.le_of_ble_eq_true rfl, Nat.le_of_ble_eq_true rfl⟩ ⟨Nat.le_of_ble_eq_true rfl, Nat.le_of_ble_eq_true rfl⟩ rfl hl.1 rfl (Nat.le_of_ble_eq_true rfl) (oc_182 47 (aq_23 shX11_sewer_24) uw_0_110)) hS (fun q _ h => hFc q h) hFc (fun r9 u9 t H1 locs ht hvm h9 hB1 hz1 hk1 hS => ?_)
          obtain ⟨hP1, hD1⟩ := hB1
          rw [ht] at hP1
          obtain ⟨hr9, h9⟩ := h9
          obtain rfl : r9 = 1 := hr9
          obtain ⟨ua9, uc9⟩ := u9
          have hu9 : cn 14 < uc9 ∧ uc9 ≤ 100 := h9
          obtain ⟨hP, hD⟩ := addG_join hp2 hi9 hj9 hP1 hD1 hFc (xadd_4 (z := ua9) (c := uc9) (y := (In 14) + 1) (q := q38) (x0 := v0) (x1 := v1) (x2 := 0) hz0)
          have hP : va_P D vwCl (wX cI (D.1 99) zz g (adP ad 14 (cn 14) q38 4 ua9) (va_up (va_up cn 14 ((cn 14) + 1)) 24 uc9) (va_up In 14 ((In 14) + 1)) (va_up (va_up (va_up Fn 170 (upd (Fn 170) (cn 14) v0)) 171 (upd (Fn 171) (cn 14) v1)) 172 (upd (Fn 172) (cn 14) 0))) H1 := hP
          have hD : va_D A (wX cI (D.1 99) zz g (adP ad 14 (cn 14) q38 4 ua9) (va_up (va_up cn 14 ((cn 14) + 1)) 24 uc9) (va_up In 14 ((In 14) + 1)) (va_up (va_up (va_up Fn 170 (upd (Fn 170) (cn 14) v0)) 171 (upd (Fn 171) (cn 14) v1)) 172 (upd (Fn 172) (cn 14) 0))) := hD
          generalize H1 = H at hP hS ⊢
          refine lv_pop hx hb (oc_87 50 shX11_sewer_50) rfl ?_
          refine lv_aload_n hx hb (oc_42 51 (aq_1 shX11_sewer_50)) rfl (lvA0 hl) ?_
          refine gf_RX11_74 S hK hP 0 xo_0 (v := .ref (g 14)) rfl (oc_180 52 (aq_2 shX11_sewer_50) uw_0_74) ?_
          refine vp_callSi (runV_r (As := []) (rest := []) S (q_l_size l D cI cB cZ (g 14) (if ((cn 14) + 1) = 0 then zz else (adP ad 14 (cn 14) q38 4 ua9) 2 4) ((In 14) + 1) (nI ((cn 14) + 1))) kV_RX11_84 hK hP [28] (one_is xo_28) 28 xo_28 rfl rfl ⟨Nat.le_of_ble_eq_true rfl, Nat.le_of_ble_eq_true rfl⟩ ⟨Nat.le_of_ble_eq_true rfl, Nat.le_of_ble_eq_true rfl⟩ rfl hl.1 rfl (Nat.le_of_ble_eq_true rfl) (oc_182 55 (aq_5 shX11_sewer_50) uw_0_84)) (fun r_14 h_15 => ?_)
          subst h_15
          refine lv_iconst (v := 1) hx hb (oc_4 58 (aq_8 shX11_sewer_50)) kic_1 ?_
          refine lv_isub hx hb (oc_100 59 (aq_9 shX11_sewer_50)) ?_
          refine lv_topi (fun y_16 ey_16 => ?_)
          obtain rfl : y_16 = (nI (cn 14)) := ey_16.trans (nI_sub (b := 1) (by omega))
          exact W.iret (v := (nI (cn 14))) hx hb hr (fun t ht hW => ⟨⟨(nI (cn 14)), ((adP ad 14 (cn 14) q38 4 ua9), (va_up (va_up cn 14 ((cn 14) + 1)) 24 uc9), (va_up In 14 ((In 14) + 1)), (va_up (va_up (va_up Fn 170 (upd (Fn 170) (cn 14) v0)) 171 (upd (Fn 171) (cn 14) v1)) 172 (upd (Fn 172) (cn 14) 0))), rfl, (Or.inr ⟨rfl, by omega, q38, ua9, uc9, ((In 14) + 1), ⟨by omega, by omega⟩, rfl, rfl, rfl, rfl⟩), by rw [ht]; exact hP, hD⟩, hS.F ht⟩) hS.2.2 (oc_172 60 (aq_10 shX11_sewer_50))
      ·
        have tc_7 : (10 : Int) ≤ (nI (cn 14)).toInt := Int32.le_iff_toInt_le.mp (Int32.not_lt.mp c_7)
        refine lv_iconst (v := (-1)) hx hb (oc_2 32 (aq_8 shX11_sewer_24)) kic_m1 ?_
        refine W.widen (k := 2) (n := 103) (Nat.le_of_ble_eq_true rfl) (Nat.le_of_ble_eq_true rfl) ?_
        exact W.iret (v := (-1)) hx hb hr (fun t ht hW => ⟨⟨(-1), (ad, cn, In, Fn), rfl, (Or.inl ⟨rfl, by omega, rfl, rfl, rfl, rfl⟩), by rw [ht]; exact hP, hD⟩, hS.F ht⟩) hS.2.2 (oc_172 33 (aq_9 shX11_sewer_24))
    ·
      have h_4 : ¬ (0 ≤ v1.toInt ∧ v1.toInt ≤ 99) := h_4
      refine lv_if_eq (tgt := 32) hx hb (oc_153 17 (aq_17 shX11_sewer_0) sgw_0_15) rfl (fun _ => ?_) (fun h => absurd h cq_eq_0_0)
      refine lv_iconst (v := (-1)) hx hb (oc_2 32 (aq_8 shX11_sewer_24)) kic_m1 ?_
      refine W.widen (k := 2) (n := 103) (Nat.le_of_ble_eq_true rfl) (Nat.le_of_ble_eq_true rfl) ?_
      exact W.iret (v := (-1)) hx hb hr (fun t ht hW => ⟨⟨(-1), (ad, cn, In, Fn), rfl, (Or.inl ⟨rfl, by omega, rfl, rfl, rfl, rfl⟩), by rw [ht]; exact hP, hD⟩, hS.F ht⟩) hS.2.2 (oc_172 33 (aq_9 shX11_sewer_24))
  ·
    have h_2 : ¬ (0 ≤ v0.toInt ∧ v0.toInt ≤ 99) := h_2
    refine lv_if_eq (tgt := 32) hx hb (oc_153 7 (aq_7 shX11_sewer_0) sgw_0_25) rfl (fun _ => ?_) (fun h => absurd h cq_eq_0_0)
    refine lv_iconst (v := (-1)) hx hb (oc_2 32 (aq_8 shX11_sewer_24)) kic_m1 ?_
    refine W.widen (k := 2) (n := 103) (Nat.le_of_ble_eq_true rfl) (Nat.le_of_ble_eq_true rfl) ?_
    exact W.iret (v := (-1)) hx hb hr (fun t ht hW => ⟨⟨(-1), (ad, cn, In, Fn), rfl, (Or.inl ⟨rfl, by omega, rfl, rfl, rfl, rfl⟩), by rw [ht]; exact hP, hD⟩, hS.F ht⟩) hS.2.2 (oc_172 33 (aq_9 shX11_sewer_24))
set_option maxRecDepth 100000 in
set_option maxHeartbeats 4000000 in
theorem q_Xkitchen (l : Launch) (D : va_G) (cI cB cZ : ClassId) (zz qq vv : Nat) (bt : Nat → Int32) (g : Nat → Nat) (ad : Nat → Nat → Nat) (cn : Nat → Nat) (In : Nat → Int32) (Fn : Nat → Nat → Int32) (v0 v1 v2 v3 : Int32) (sz : Nat) (hB : CBX cn) (hT : (∀ k : Nat, k < cn 10 → ad 3 k < cn 6) ∧ ad 4 0 < cn 6 ∧ ad 4 1 < cn 6) : Met l yX11_kitchen (CWS yX11_kitchen cX11_kitchen 6 (some .int)) (RM 8 8 188) (PBx [.ref (g 0), .int v0, .int v1, .int v2, .int v3] D cI cB cZ zz qq vv bt (wX cI (D.1 99) zz g ad cn In Fn) sz) (va_Qi (fun (r : Int32) (u : (Nat → Nat → Nat) × (Nat → Nat) × (Nat → Int32) × (Nat → Nat → Int32)) => (fun r a2 c2 I2 F2 => (r = (-1) ∧ ¬ (0 ≤ v0.toInt ∧ v0.toInt ≤ 99 ∧ 0 ≤ v1.toInt ∧ v1.toInt ≤ 99 ∧ 0 ≤ v2.toInt ∧ v2.toInt ≤ 50 ∧ 20 ≤ v3.toInt ∧ v3.toInt ≤ 400 ∧ cn 10 < 10) ∧ ad = a2 ∧ cn = c2 ∧ In = I2 ∧ Fn = F2) ∨ (r = nI (cn 10) ∧ (0 ≤ v0.toInt ∧ v0.toInt ≤ 99 ∧ 0 ≤ v1.toInt ∧ v1.toInt ≤ 99 ∧ 0 ≤ v2.toInt ∧ v2.toInt ≤ 50 ∧ 20 ≤ v3.toInt ∧ v3.toInt ≤ 400 ∧ cn 10 < 10) ∧ ∃ (q qt r0 r1 r2 r3 r4 z c : Nat) (y : Int32), (cn 10 < c ∧ c ≤ 100) ∧ (adO (adO (adO (adO (adO (adO (adO (adO (adO ad 10 (cn 10) q) 3 (cn 10) (cn 6)) 5 (cn 6) qt) 60 (cn 6) r0) 61 (cn 6) r1) 62 (cn 6) r2) 63 (cn 6) r3) 64 (cn 6) r4) 2 0 z) = a2 ∧ (va_up (va_up (va_up cn 10 ((cn 10) + 1)) 20 c) 6 (cn 6 + 1)) = c2 ∧ (va_up In 10 y) = I2 ∧ (va_up (va_up (va_up (va_up (va_up (va_up (va_up (va_up (va_up (va_up (va_up (va_up (va_up (va_up (va_up (va_up (va_up (va_up (va_up (va_up Fn 100 (upd (Fn 100) (cn 10) v0)) 101 (upd (Fn 101) (cn 10) v1)) 102 (upd (Fn 102) (cn 10) v2)) 103 (upd (Fn 103) (cn 10) v3)) 104 (upd (Fn 104) (cn 10) 0)) 105 (upd (Fn 105) (cn 10) 0)) 106 (upd (Fn 106) (cn 10) 0)) 107 (upd (Fn 107) (cn 10) 0)) 108 (upd (Fn 108) (cn 10) 0)) 109 (upd (Fn 109) (cn 10) 0)) 195 (upd (Fn 195) (cn 6) 0)) 196 (upd (Fn 196) (cn 6) 0)) 197 (upd (Fn 197) (cn 6) 0)) 198 (upd (Fn 198) (cn 6) 0)) 199 (upd (Fn 199) (cn 6) 0)) 301 (flat (Fn 301) 200 (cn 6) (fun _ => 0))) 302 (flat (Fn 302) 12 (cn 6) (fun _ => 0))) 303 (flat (Fn 303) 12 (cn 6) (fun _ => 0))) 304 (flat (Fn 304) 12 (cn 6) (fun _ => 0))) 305 (flat (Fn 305) 32 (cn 6) (fun _ => 0))) = F2)) r u.1 u.2.1 u.2.2.1 u.2.2.2) (fun (u : (Nat → Nat → Nat) × (Nat → Nat) × (Nat → Int32) × (Nat → Nat → Int32)) (t : State) => va_P D vwCl (wX cI (D.1 99) zz g u.1 u.2.1 u.2.2.1 u.2.2.2) t.heap ∧ va_D (va_A (wX cI (D.1 99) zz g ad cn In Fn) sz) (wX cI (D.1 99) zz g u.1 u.2.1 u.2.2.1 u.2.2.2)) (va_A (wX cI (D.1 99) zz g ad cn In Fn) sz)) 8 188 (va_A (wX cI (D.1 99) zz g ad cn In Fn) sz) := by
  refine en_x (fun A => (va_Qi (fun (r : Int32) (u : (Nat → Nat → Nat) × (Nat → Nat) × (Nat → Int32) × (Nat → Nat → Int32)) => (fun (r : Int32) (a2 : Nat → Nat → Nat) (c2 : Nat → Nat) (I2 : Nat → Int32) (F2 : Nat → Nat → Int32) => (r = (-1) ∧ ¬ (0 ≤ v0.toInt ∧ v0.toInt ≤ 99 ∧ 0 ≤ v1.toInt ∧ v1.toInt ≤ 99 ∧ 0 ≤ v2.toInt ∧ v2.toInt ≤ 50 ∧ 20 ≤ v3.toInt ∧ v3.toInt ≤ 400 ∧ cn 10 < 10) ∧ ad = a2 ∧ cn = c2 ∧ In = I2 ∧ Fn = F2) ∨ (r = nI (cn 10) ∧ (0 ≤ v0.toInt ∧ v0.toInt ≤ 99 ∧ 0 ≤ v1.toInt ∧ v1.toInt ≤ 99 ∧ 0 ≤ v2.toInt ∧ v2.toInt ≤ 50 ∧ 20 ≤ v3.toInt ∧ v3.toInt ≤ 400 ∧ cn 10 < 10) ∧ ∃ (q qt r0 r1 r2 r3 r4 z c : Nat) (y : Int32), (cn 10 < c ∧ c ≤ 100) ∧ (adO (adO (adO (adO (adO (adO (adO (adO (adO ad 10 (cn 10) q) 3 (cn 10) (cn 6)) 5 (cn 6) qt) 60 (cn 6) r0) 61 (cn 6) r1) 62 (cn 6) r2) 63 (cn 6) r3) 64 (cn 6) r4) 2 0 z) = a2 ∧ (va_up (va_up (va_up cn 10 ((cn 10) + 1)) 20 c) 6 (cn 6 + 1)) = c2 ∧ (va_up In 10 y) = I2 ∧ (va_up (va_up (va_up (va_up (va_up (va_up (va_up (va_up (va_up (va_up (va_up (va_up (va_up (va_up (va_up (va_up (va_up (va_up (va_up (va_up Fn 100 (upd (Fn 100) (cn 10) v0)) 101 (upd (Fn 101) (cn 10) v1)) 102 (upd (Fn 102) (cn 10) v2)) 103 (upd (Fn 103) (cn 10) v3)) 104 (upd (Fn 104) (cn 10) 0)) 105 (upd (Fn 105) (cn 10) 0)) 106 (upd (Fn 106) (cn 10) 0)) 107 (upd (Fn 107) (cn 10) 0)) 108 (upd (Fn 108) (cn 10) 0)) 109 (upd (Fn 109) (cn 10) 0)) 195 (upd (Fn 195) (cn 6) 0)) 196 (upd (Fn 196) (cn 6) 0)) 197 (upd (Fn 197) (cn 6) 0)) 198 (upd (Fn 198) (cn 6) 0)) 199 (upd (Fn 199) (cn 6) 0)) 301 (flat (Fn 301) 200 (cn 6) (fun _ => 0))) 302 (flat (Fn 302) 12 (cn 6) (fun _ => 0))) 303 (flat (Fn 303) 12 (cn 6) (fun _ => 0))) 304 (flat (Fn 304) 12 (cn 6) (fun _ => 0))) 305 (flat (Fn 305) 32 (cn 6) (fun _ => 0))) = F2)) r u.1 u.2.1 u.2.2.1 u.2.2.2) (fun (u : (Nat → Nat → Nat) × (Nat → Nat) × (Nat → Int32) × (Nat → Nat → Int32)) (t : State) => va_P D vwCl (wX cI (D.1 99) zz g u.1 u.2.1 u.2.2.1 u.2.2.2) t.heap ∧ va_D A (wX cI (D.1 99) zz g u.1 u.2.1 u.2.2.1 u.2.2.2)) A)) rfl rfl pn_RX11 (Nat.le_of_ble_eq_true rfl) (fun p e s m below meth c A hx hb hml hown S hr hlocks hnm hA hP hK hD hXS hS ls hl => ?_)
  have hl : lv_has ls 6 [(0, .ref (g 0)), (1, .int v0), (2, .int v1), (3, .int v2), (4, .int v3)] := hl
  refine lv_iload_n hx hb (oc_27 0 shX11_kitchen_0) rfl (lvA1 hl) ?_
  refine lv_iconst (v := 0) hx hb (oc_3 1 (aq_1 shX11_kitchen_0)) kic_0 ?_
  refine lv_bipush (v := 99) hx hb (oc_16 2 (aq_2 shX11_kitchen_0) sgb_99) kbc_99 ?_
  refine vp_callSi (runS_r (As := [.int v0, .int 0, .int 99]) (rest := []) S (q_l_within l D cI cB cZ v0 0 99) kS_RX11_80 hK hP [] rfl ⟨Nat.le_of_ble_eq_true rfl, Nat.le_of_ble_eq_true rfl⟩ ⟨Nat.le_of_ble_eq_true rfl, Nat.le_of_ble_eq_true rfl⟩ rfl hl.1 rfl (Nat.le_of_ble_eq_true rfl) (oc_184 4 (aq_4 shX11_kitchen_0) uw_0_80)) (fun r_1 h_2 => ?_)
  rcases h_2 with ⟨rfl, h_2⟩ | ⟨rfl, h_2⟩
  ·
    have h_2 : 0 ≤ v0.toInt ∧ v0.toInt ≤ 99 := h_2
    refine lv_if_eq (tgt := 24) hx hb (oc_153 7 (aq_7 shX11_kitchen_0) sgw_0_17) rfl (fun h => absurd h cq_eq_1_0) (fun _ => ?_)
    refine lv_iload_n hx hb (oc_28 10 (aq_10 shX11_kitchen_0)) rfl (lvA2 hl) ?_
    refine lv_iconst (v := 0) hx hb (oc_3 11 (aq_11 shX11_kitchen_0)) kic_0 ?_
    refine lv_bipush (v := 99) hx hb (oc_16 12 (aq_12 shX11_kitchen_0) sgb_99) kbc_99 ?_
    refine vp_callSi (runS_r (As := [.int v1, .int 0, .int 99]) (rest := []) S (q_l_within l D cI cB cZ v1 0 99) kS_RX11_80 hK hP [] rfl ⟨Nat.le_of_ble_eq_true rfl, Nat.le_of_ble_eq_true rfl⟩ ⟨Nat.le_of_ble_eq_true rfl, Nat.le_of_ble_eq_true rfl⟩ rfl hl.1 rfl (Nat.le_of_ble_eq_true rfl) (oc_184 14 (aq_14 shX11_kitchen_0) uw_0_80)) (fun r_3 h_4 => ?_)
    rcases h_4 with ⟨rfl, h_4⟩ | ⟨rfl, h_4⟩
    ·
      have h_4 : 0 ≤ v1.toInt ∧ v1.toInt ≤ 99 := h_4
      refine lv_if_eq (tgt := 24) hx hb (oc_153 17 (aq_17 shX11_kitchen_0) sgw_0_7) rfl (fun h => absurd h cq_eq_1_0) (fun _ => ?_)
      refine lv_iconst (v := 1) hx hb (oc_4 20 (aq_20 shX11_kitchen_0)) kic_1 ?_
      refine lv_goto (tgt := 25) hx hb (oc_167 21 (aq_21 shX11_kitchen_0) sgw_0_4) rfl ?_
      refine lv_istore (lv' := [(5, .int 1), (0, .ref (g 0)), (1, .int v0), (2, .int v1), (3, .int v2), (4, .int v3)]) hx hb (oc_54 25 (aq_1 shX11_kitchen_24) ub_5) hl (ltb rfl) rfl (fun ls hl => ?_)
      refine lv_iload hx hb (oc_21 27 (aq_3 shX11_kitchen_24) ub_5) (lvA0 hl) ?_
      refine lv_if_eq (tgt := 67) hx hb (oc_153 29 (aq_5 shX11_kitchen_24) sgw_0_38) rfl (fun h => absurd h cq_eq_1_0) (fun _ => ?_)
      refine lv_iload_n hx hb (oc_29 32 (aq_8 shX11_kitchen_24)) rfl (lvA4 hl) ?_
      refine lv_iconst (v := 0) hx hb (oc_3 33 (aq_9 shX11_kitchen_24)) kic_0 ?_
      refine lv_bipush (v := 50) hx hb (oc_16 34 (aq_10 shX11_kitchen_24) sgb_50) kbc_50 ?_
      refine vp_callSi (runS_r (As := [.int v2, .int 0, .int 50]) (rest := []) S (q_l_within l D cI cB cZ v2 0 50) kS_RX11_80 hK hP [] rfl ⟨Nat.le_of_ble_eq_true rfl, Nat.le_of_ble_eq_true rfl⟩ ⟨Nat.le_of_ble_eq_true rfl, Nat.le_of_ble_eq_true rfl⟩ rfl hl.1 rfl (Nat.le_of_ble_eq_true rfl) (oc_184 36 (aq_12 shX11_kitchen_24) uw_0_80)) (fun r_5 h_6 => ?_)
      rcases h_6 with ⟨rfl, h_6⟩ | ⟨rfl, h_6⟩
      ·
        have h_6 : 0 ≤ v2.toInt ∧ v2.toInt ≤ 50 := h_6
        refine lv_if_eq (tgt := 67) hx hb (oc_153 39 (aq_15 shX11_kitchen_24) sgw_0_28) rfl (fun h => absurd h cq_eq_1_0) (fun _ => ?_)
        refine lv_iload hx hb (oc_21 42 (aq_18 shX11_kitchen_24) ub_4) (lvA5 hl) ?_
        refine lv_bipush (v := 20) hx hb (oc_16 44 (aq_20 shX11_kitchen_24) sgb_20) kbc_20 ?_
        refine lv_sipush (v := 400) hx hb (oc_17 46 (aq_22 shX11_kitchen_24) sgw_1_144) (by decide) ?_
        refine vp_callSi (runS_r (As := [.int v3, .int 20, .int 400]) (rest := []) S (q_l_within l D cI cB cZ v3 20 400) kS_RX11_80 hK hP [] rfl ⟨Nat.le_of_ble_eq_true rfl, Nat.le_of_ble_eq_true rfl⟩ ⟨Nat.le_of_ble_eq_true rfl, Nat.le_of_ble_eq_true rfl⟩ rfl hl.1 rfl (Nat.le_of_ble_eq_true rfl) (oc_184 49 shX11_kitchen_49 uw_0_80)) (fun r_7 h_8 => ?_)
        rcases h_8 with ⟨rfl, h_8⟩ | ⟨rfl, h_8⟩
        ·
          have h_8 : 20 ≤ v3.toInt ∧ v3.toInt ≤ 400 := h_8
          refine lv_if_eq (tgt := 67) hx hb (oc_153 52 (aq_3 shX11_kitchen_49) sgw_0_15) rfl (fun h => absurd h cq_eq_1_0) (fun _ => ?_)
          refine lv_aload_n hx hb (oc_42 55 (aq_6 shX11_kitchen_49)) rfl (lvA1 hl) ?_
          refine gf_RX11_61 S hK hP 0 xo_0 (v := .ref (g 10)) rfl (oc_180 56 (aq_7 shX11_kitchen_49) uw_0_61) ?_
          refine vp_callSi (runV_r (As := []) (rest := []) S (q_l_size l D cI cB cZ (g 10) (if (cn 10) = 0 then zz else ad 2 0) (In 10) (nI (cn 10))) kV_RX11_84 hK hP [24] (one_is xo_24) 24 xo_24 rfl rfl ⟨Nat.le_of_ble_eq_true rfl, Nat.le_of_ble_eq_true rfl⟩ ⟨Nat.le_of_ble_eq_true rfl, Nat.le_of_ble_eq_true rfl⟩ rfl hl.1 rfl (Nat.le_of_ble_eq_true rfl) (oc_182 59 (aq_10 shX11_kitchen_49) uw_0_84)) (fun r_9 h_10 => ?_)
          subst h_10
          refine lv_bipush (v := 10) hx hb (oc_16 62 (aq_13 shX11_kitchen_49) sgb_10) kbc_10 ?_
          have : (nI (cn 10)).toInt = (((cn 10) : Nat) : Int) := nI_toInt (by omega)
          refine lv_icmp_lt (tgt := 69) hx hb (oc_161 64 (aq_15 shX11_kitchen_49) sgw_0_5) rfl (fun c_11 => ?_) (fun c_11 => ?_)
          ·
            have tc_11 : ((nI (cn 10)).toInt : Int) < 10 := Int32.lt_iff_toInt_lt.mp c_11
            refine lv_aload_n hx hb (oc_42 69 (aq_20 shX11_kitchen_49)) rfl (lvA1 hl) ?_
            refine gf_RX11_61 S hK hP 0 xo_0 (v := .ref (g 10)) rfl (oc_180 70 (aq_21 shX11_kitchen_49) uw_0_61) ?_
            refine va_new (ci := 2) (fs := [.int 0, .int 0, .int 0, .int 0, .int 0, .int 0, .int 0, .int 0, .int 0, .int 0, .null]) (C := RX1) (T := TX1) (N := 11) hx hb S.2.2.2.2 hin_RX1 tyX1 tyX1_ok hown (S.2.2.2.2 _ (wk2_5 3 rfl rfl)) (S.2.2.2.2 _ (wk2_5 4 rfl rfl)) (S.2.2.2.2 _ (wk1_1 2 rfl rfl)) hK.1 hP hD hS hA rfl (by decide +kernel) (Nat.le_of_ble_eq_true rfl) (Nat.le_of_ble_eq_true rfl) (oc_187 73 shX11_kitchen_73 uw_0_91) (fun q73 H hP hD hS => ?_)
            have hP : va_P D vwCl ((wX cI (D.1 99) zz g ad cn In Fn) ++ ([(q73, .inr (2, [.int 0, .int 0, .int 0, .int 0, .int 0, .int 0, .int 0, .int 0, .int 0, .int 0, .null]))] : va_W)) H := hP
            have hD : va_D A ((wX cI (D.1 99) zz g ad cn In Fn) ++ ([(q73, .inr (2, [.int 0, .int 0, .int 0, .int 0, .int 0, .int 0, .int 0, .int 0, .int 0, .int 0, .null]))] : va_W)) := hD
            refine lv_dup hx hb (oc_89 76 (aq_3 shX11_kitchen_73)) rfl ?_
            refine lv_iload_n hx hb (oc_27 77 (aq_4 shX11_kitchen_73)) rfl (lvA2 hl) ?_
            refine lv_iload_n hx hb (oc_28 78 (aq_5 shX11_kitchen_73)) rfl (lvA3 hl) ?_
            refine lv_iload_n hx hb (oc_29 79 (aq_6 shX11_kitchen_73)) rfl (lvA4 hl) ?_
            refine lv_iload hx hb (oc_21 80 (aq_7 shX11_kitchen_73) ub_4) (lvA5 hl) ?_
            have hFc := va_free (wc := [(q73, .inr (2, [.int 0, .int 0, .int 0, .int 0, .int 0, .int 0, .int 0, .int 0, .int 0, .int 0, .null]))]) hD hS hA [_] (one_im (exr (m := 0) rfl))
            refine va_callv (runI_w (As := [.int v0, .int v1, .int v2, .int v3]) (rest := [.ref q73, .ref (g 10)]) S (q_l_Kitchen l D cI cB cZ q73 v0 v1 v2 v3 H.size) kI_RX11_107 hK hP hD [_] (one_is (exr (m := 0) rfl)) (one_im (exr (m := 0) rfl)) rfl ⟨Nat.le_of_ble_eq_true rfl, Nat.le_of_ble_eq_true rfl⟩ ⟨Nat.le_of_ble_eq_true rfl, Nat.le_of_ble_eq_true rfl⟩ rfl hl.1 rfl (Nat.le_of_ble_eq_true rfl) (oc_183 82 (aq_9 shX11_kitchen_73) uw_0_107)) hS (fun q _ h => hFc q h) hFc (fun u_12 t H1 locs ht hvm h_13 hB1 hz1 hk1 hS => ?_)
            obtain ⟨hP1, hD1⟩ := hB1
            rw [ht] at hP1
            obtain ⟨hP, hD⟩ := exjoin hP hD hk1 hFc hP1 hD1
            generalize H1 = H at hP hS ⊢
            have hP : va_P D vwCl ((wX cI (D.1 99) zz g ad cn In Fn) ++ ([(q73, .inr (2, [.int v0, .int v1, .int v2, .int v3, .int 0, .int 0, .int 0, .int 0, .int 0, .int 0, .ref (u_12 5)])), ((u_12 5), .inr (10, [.ref (u_12 0), .ref (u_12 1), .ref (u_12 2), .ref (u_12 3), .ref (u_12 4), .int 0, .int 0, .int 0, .int 0])), ((u_12 0), .inl (cI, 0, .inl (fun _ => 0))), ((u_12 1), .inl (cI, 12, .inl (fun _ => 0))), ((u_12 2), .inl (cI, 12, .inl (fun _ => 0))), ((u_12 3), .inl (cI, 12, .inl (fun _ => 0))), ((u_12 4), .inl (cI, 32, .inl (fun _ => 0)))] : va_W)) H := hP
            have hD : va_D A ((wX cI (D.1 99) zz g ad cn In Fn) ++ ([(q73, .inr (2, [.int v0, .int v1, .int v2, .int v3, .int 0, .int 0, .int 0, .int 0, .int 0, .int 0, .ref (u_12 5)])), ((u_12 5), .inr (10, [.ref (u_12 0), .ref (u_12 1), .ref (u_12 2), .ref (u_12 3), .ref (u_12 4), .int 0, .int 0, .int 0, .int 0])), ((u_12 0), .inl (cI, 0, .inl (fun _ => 0))), ((u_12 1), .inl (cI, 12, .inl (fun _ => 0))), ((u_12 2), .inl (cI, 12, .inl (fun _ => 0))), ((u_12 3), .inl (cI, 12, .inl (fun _ => 0))), ((u_12 4), .inl (cI, 32, .inl (fun _ => 0)))] : va_W)) := hD
            rcases Nat.eq_zero_or_pos (cn 10) with hz0 | hz0
            ·
              have hi9 : (wX cI (D.1 99) zz g ad cn In Fn)[24]? = _ := xlz_0 hz0
              have hp2P := pick2P hP (exl hi9) (exr (m := 0) rfl)
              have hp2D := pick2D hD (exl hi9) (exr (m := 0) rfl) (ne_ex hi9)
              have hFc := free_all hp2D hS hA
              refine va_calli (runV_xa (As := [.ref q73]) (rest := []) S (q_l_addZK l D cI cB cZ zz qq vv bt (g 10) q73 (In 10) v0 v1 v2 v3 0 0 0 0 0 0 (u_12 5) H.size) kV_RX11_110 hK hXS hS hFc hp2P hp2D 0 rfl rfl rfl ⟨Nat.le_of_ble_eq_true rfl, Nat.le_of_ble_eq_true rfl⟩ ⟨Nat.le_of_ble_eq_true rfl, Nat.le_of_ble_eq_true rfl⟩ rfl hl.1 rfl (Nat.le_of_ble_eq_true rfl) (oc_182 85 (aq_12 shX11_kitchen_73) uw_0_110)) hS (fun q _ h => hFc q h) hFc (fun r13 u13 t H1 locs ht hvm h13 hB1 hz1 hk1 hS => ?_)
              obtain ⟨hP1, hD1⟩ := hB1
              rw [ht] at hP1
              obtain rfl : r13 = 1 := h13
              obtain ⟨hP, hD⟩ := add0_join hP hD hi9 rfl hk1 hFc hP1 hD1 rfl (xuK (z := u13) (c := 10) (y := (In 10) + 1) (q := q73) (qt := (u_12 5)) (r0 := (u_12 0)) (r1 := (u_12 1)) (r2 := (u_12 2)) (r3 := (u_12 3)) (r4 := (u_12 4)) (x0 := v0) (x1 := v1) (x2 := v2) (x3 := v3) (x4 := 0) (x5 := 0) (x6 := 0) (x7 := 0) (x8 := 0) (x9 := 0) hz0 hT.1 hT.2.1 hT.2.2)
              have hP : va_P D vwCl (wX cI (D.1 99) zz g (adO (adO (adO (adO (adO (adO (adO (adO (adO ad 10 (cn 10) q73) 3 (cn 10) (cn 6)) 5 (cn 6) (u_12 5)) 60 (cn 6) (u_12 0)) 61 (cn 6) (u_12 1)) 62 (cn 6) (u_12 2)) 63 (cn 6) (u_12 3)) 64 (cn 6) (u_12 4)) 2 0 u13) (va_up (va_up (va_up cn 10 ((cn 10) + 1)) 20 10) 6 (cn 6 + 1)) (va_up In 10 ((In 10) + 1)) (va_up (va_up (va_up (va_up (va_up (va_up (va_up (va_up (va_up (va_up (va_up (va_up (va_up (va_up (va_up (va_up (va_up (va_up (va_up (va_up Fn 100 (upd (Fn 100) (cn 10) v0)) 101 (upd (Fn 101) (cn 10) v1)) 102 (upd (Fn 102) (cn 10) v2)) 103 (upd (Fn 103) (cn 10) v3)) 104 (upd (Fn 104) (cn 10) 0)) 105 (upd (Fn 105) (cn 10) 0)) 106 (upd (Fn 106) (cn 10) 0)) 107 (upd (Fn 107) (cn 10) 0)) 108 (upd (Fn 108) (cn 10) 0)) 109 (upd (Fn 109) (cn 10) 0)) 195 (upd (Fn 195) (cn 6) 0)) 196 (upd (Fn 196) (cn 6) 0)) 197 (upd (Fn 197) (cn 6) 0)) 198 (upd (Fn 198) (cn 6) 0)) 199 (upd (Fn 199) (cn 6) 0)) 301 (flat (Fn 301) 200 (cn 6) (fun _ => 0))) 302 (flat (Fn 302) 12 (cn 6) (fun _ => 0))) 303 (flat (Fn 303) 12 (cn 6) (fun _ => 0))) 304 (flat (Fn 304) 12 (cn 6) (fun _ => 0))) 305 (flat (Fn 305) 32 (cn 6) (fun _ => 0)))) H1 := hP
              have hD : va_D A (wX cI (D.1 99) zz g (adO (adO (adO (adO (adO (adO (adO (adO (adO ad 10 (cn 10) q73) 3 (cn 10) (cn 6)) 5 (cn 6) (u_12 5)) 60 (cn 6) (u_12 0)) 61 (cn 6) (u_12 1)) 62 (cn 6) (u_12 2)) 63 (cn 6) (u_12 3)) 64 (cn 6) (u_12 4)) 2 0 u13) (va_up (va_up (va_up cn 10 ((cn 10) + 1)) 20 10) 6 (cn 6 + 1)) (va_up In 10 ((In 10) + 1)) (va_up (va_up (va_up (va_up (va_up (va_up (va_up (va_up (va_up (va_up (va_up (va_up (va_up (va_up (va_up (va_up (va_up (va_up (va_up (va_up Fn 100 (upd (Fn 100) (cn 10) v0)) 101 (upd (Fn 101) (cn 10) v1)) 102 (upd (Fn 102) (cn 10) v2)) 103 (upd (Fn 103) (cn 10) v3)) 104 (upd (Fn 104) (cn 10) 0)) 105 (upd (Fn 105) (cn 10) 0)) 106 (upd (Fn 106) (cn 10) 0)) 107 (upd (Fn 107) (cn 10) 0)) 108 (upd (Fn 108) (cn 10) 0)) 109 (upd (Fn 109) (cn 10) 0)) 195 (upd (Fn 195) (cn 6) 0)) 196 (upd (Fn 196) (cn 6) 0)) 197 (upd (Fn 197) (cn 6) 0)) 198 (upd (Fn 198) (cn 6) 0)) 199 (upd (Fn 199) (cn 6) 0)) 301 (flat (Fn 301) 200 (cn 6) (fun _ => 0))) 302 (flat (Fn 302) 12 (cn 6) (fun _ => 0))) 303 (flat (Fn 303) 12 (cn 6) (fun _ => 0))) 304 (flat (Fn 304) 12 (cn 6) (fun _ => 0))) 305 (flat (Fn 305) 32 (cn 6) (fun _ => 0)))) := hD
              generalize H1 = H at hP hS ⊢
              refine W.widen (k := 8) (n := 188) (Nat.le_of_ble_eq_true rfl) (Nat.le_of_ble_eq_true rfl) ?_
              refine lv_pop hx hb (oc_87 88 (aq_15 shX11_kitchen_73)) rfl ?_
              refine lv_aload_n hx hb (oc_42 89 (aq_16 shX11_kitchen_73)) rfl (lvA1 hl) ?_
              refine gf_RX11_61 S hK hP 0 xo_0 (v := .ref (g 10)) rfl (oc_180 90 (aq_17 shX11_kitchen_73) uw_0_61) ?_
              refine vp_callSi (runV_r (As := []) (rest := []) S (q_l_size l D cI cB cZ (g 10) (if ((cn 10) + 1) = 0 then zz else (adO (adO (adO (adO (adO (adO (adO (adO (adO ad 10 (cn 10) q73) 3 (cn 10) (cn 6)) 5 (cn 6) (u_12 5)) 60 (cn 6) (u_12 0)) 61 (cn 6) (u_12 1)) 62 (cn 6) (u_12 2)) 63 (cn 6) (u_12 3)) 64 (cn 6) (u_12 4)) 2 0 u13) 2 0) ((In 10) + 1) (nI ((cn 10) + 1))) kV_RX11_84 hK hP [24] (one_is xo_24) 24 xo_24 rfl rfl ⟨Nat.le_of_ble_eq_true rfl, Nat.le_of_ble_eq_true rfl⟩ ⟨Nat.le_of_ble_eq_true rfl, Nat.le_of_ble_eq_true rfl⟩ rfl hl.1 rfl (Nat.le_of_ble_eq_true rfl) (oc_182 93 (aq_20 shX11_kitchen_73) uw_0_84)) (fun r_15 h_16 => ?_)
              subst h_16
              refine lv_iconst (v := 1) hx hb (oc_4 96 (aq_23 shX11_kitchen_73)) kic_1 ?_
              refine lv_isub hx hb (oc_100 97 shX11_kitchen_97) ?_
              refine lv_topi (fun y_17 ey_17 => ?_)
              obtain rfl : y_17 = (nI (cn 10)) := ey_17.trans (nI_sub (b := 1) (by omega))
              exact W.iret (v := (nI (cn 10))) hx hb hr (fun t ht hW => ⟨⟨(nI (cn 10)), ((adO (adO (adO (adO (adO (adO (adO (adO (adO ad 10 (cn 10) q73) 3 (cn 10) (cn 6)) 5 (cn 6) (u_12 5)) 60 (cn 6) (u_12 0)) 61 (cn 6) (u_12 1)) 62 (cn 6) (u_12 2)) 63 (cn 6) (u_12 3)) 64 (cn 6) (u_12 4)) 2 0 u13), (va_up (va_up (va_up cn 10 ((cn 10) + 1)) 20 10) 6 (cn 6 + 1)), (va_up In 10 ((In 10) + 1)), (va_up (va_up (va_up (va_up (va_up (va_up (va_up (va_up (va_up (va_up (va_up (va_up (va_up (va_up (va_up (va_up (va_up (va_up (va_up (va_up Fn 100 (upd (Fn 100) (cn 10) v0)) 101 (upd (Fn 101) (cn 10) v1)) 102 (upd (Fn 102) (cn 10) v2)) 103 (upd (Fn 103) (cn 10) v3)) 104 (upd (Fn 104) (cn 10) 0)) 105 (upd (Fn 105) (cn 10) 0)) 106 (upd (Fn 106) (cn 10) 0)) 107 (upd (Fn 107) (cn 10) 0)) 108 (upd (Fn 108) (cn 10) 0)) 109 (upd (Fn 109) (cn 10) 0)) 195 (upd (Fn 195) (cn 6) 0)) 196 (upd (Fn 196) (cn 6) 0)) 197 (upd (Fn 197) (cn 6) 0)) 198 (upd (Fn 198) (cn 6) 0)) 199 (upd (Fn 199) (cn 6) 0)) 301 (flat (Fn 301) 200 (cn 6) (fun _ => 0))) 302 (flat (Fn 302) 12 (cn 6) (fun _ => 0))) 303 (flat (Fn 303) 12 (cn 6) (fun _ => 0))) 304 (flat (Fn 304) 12 (cn 6) (fun _ => 0))) 305 (flat (Fn 305) 32 (cn 6) (fun _ => 0)))), rfl, (Or.inr ⟨rfl, by omega, q73, (u_12 5), (u_12 0), (u_12 1), (u_12 2), (u_12 3), (u_12 4), u13, 10, ((In 10) + 1), ⟨by omega, by omega⟩, rfl, rfl, rfl, rfl⟩), by rw [ht]; exact hP, hD⟩, hS.F ht⟩) hS.2.2 (oc_172 98 (aq_1 shX11_kitchen_97))
            ·
              have hi9 : (wX cI (D.1 99) zz g ad cn In Fn)[24]? = _ := xl_0 hz0
              have hj9 : (wX cI (D.1 99) zz g ad cn In Fn)[_]? = _ := xf_13 (k := 0) (show 0 < min 1 (cn 10) by omega)
              obtain ⟨ws9, hp1, hp2⟩ := pickG (W := ((wX cI (D.1 99) zz g ad cn In Fn) ++ ([(q73, .inr (2, [.int v0, .int v1, .int v2, .int v3, .int 0, .int 0, .int 0, .int 0, .int 0, .int 0, .ref (u_12 5)])), ((u_12 5), .inr (10, [.ref (u_12 0), .ref (u_12 1), .ref (u_12 2), .ref (u_12 3), .ref (u_12 4), .int 0, .int 0, .int 0, .int 0])), ((u_12 0), .inl (cI, 0, .inl (fun _ => 0))), ((u_12 1), .inl (cI, 12, .inl (fun _ => 0))), ((u_12 2), .inl (cI, 12, .inl (fun _ => 0))), ((u_12 3), .inl (cI, 12, .inl (fun _ => 0))), ((u_12 4), .inl (cI, 32, .inl (fun _ => 0)))] : va_W))) (exl hi9) (exl hj9) (exr (m := 0) rfl) (xij (by decide)) (ne_ex hi9) (ne_ex hj9)
              have hP9 := va_P_perm hp1 hP
              have hD9 := va_D_perm hp1 hD
              have hFc := free_all hD9 hS hA
              refine va_calli (runV_xa (As := [.ref q73]) (rest := []) S (q_l_addGK l D cI cB cZ zz qq vv bt (cn 20) (g 10) (ad 2 0) (cn 10) q73 (In 10) (ad 10) v0 v1 v2 v3 0 0 0 0 0 0 (u_12 5) ws9 H.size (by omega) (by omega) hz0 (by omega) (fun i hi => ⟨_, g_mem (hp1.mem_iff.mp (List.mem_of_getElem? (exl (xf_0 (k := i) hi)))) (by decide)⟩)) kV_RX11_110 hK hXS hS hFc hP9 hD9 0 rfl rfl rfl ⟨Nat.le_of_ble_eq_true rfl, Nat.le_of_ble_eq_true rfl⟩ ⟨Nat.le_of_ble_eq_true rfl, Nat.le_of_ble_eq_true rfl⟩ rfl hl.1 rfl (Nat.le_of_ble_eq_true rfl) (oc_182 85 (aq_12 shX11_kitchen_73) uw_0_110)) hS (fun q _ h => hFc q h) hFc (fun r13 u13 t H1 locs ht hvm h13 hB1 hz1 hk1 hS => ?_)
              obtain ⟨hP1, hD1⟩ := hB1
              rw [ht] at hP1
              obtain ⟨hr13, h13⟩ := h13
              obtain rfl : r13 = 1 := hr13
              obtain ⟨ua13, uc13⟩ := u13
              have hu13 : cn 10 < uc13 ∧ uc13 ≤ 100 := h13
              obtain ⟨hP, hD⟩ := addG_join hp2 hi9 hj9 hP1 hD1 hFc (xaddK (z := ua13) (c := uc13) (y := (In 10) + 1) (q := q73) (qt := (u_12 5)) (r0 := (u_12 0)) (r1 := (u_12 1)) (r2 := (u_12 2)) (r3 := (u_12 3)) (r4 := (u_12 4)) (x0 := v0) (x1 := v1) (x2 := v2) (x3 := v3) (x4 := 0) (x5 := 0) (x6 := 0) (x7 := 0) (x8 := 0) (x9 := 0) hz0 hT.1 hT.2.1 hT.2.2)
              have hP : va_P D vwCl (wX cI (D.1 99) zz g (adO (adO (adO (adO (adO (adO (adO (adO (adO ad 10 (cn 10) q73) 3 (cn 10) (cn 6)) 5 (cn 6) (u_12 5)) 60 (cn 6) (u_12 0)) 61 (cn 6) (u_12 1)) 62 (cn 6) (u_12 2)) 63 (cn 6) (u_12 3)) 64 (cn 6) (u_12 4)) 2 0 ua13) (va_up (va_up (va_up cn 10 ((cn 10) + 1)) 20 uc13) 6 (cn 6 + 1)) (va_up In 10 ((In 10) + 1)) (va_up (va_up (va_up (va_up (va_up (va_up (va_up (va_up (va_up (va_up (va_up (va_up (va_up (va_up (va_up (va_up (va_up (va_up (va_up (va_up Fn 100 (upd (Fn 100) (cn 10) v0)) 101 (upd (Fn 101) (cn 10) v1)) 102 (upd (Fn 102) (cn 10) v2)) 103 (upd (Fn 103) (cn 10) v3)) 104 (upd (Fn 104) (cn 10) 0)) 105 (upd (Fn 105) (cn 10) 0)) 106 (upd (Fn 106) (cn 10) 0)) 107 (upd (Fn 107) (cn 10) 0)) 108 (upd (Fn 108) (cn 10) 0)) 109 (upd (Fn 109) (cn 10) 0)) 195 (upd (Fn 195) (cn 6) 0)) 196 (upd (Fn 196) (cn 6) 0)) 197 (upd (Fn 197) (cn 6) 0)) 198 (upd (Fn 198) (cn 6) 0)) 199 (upd (Fn 199) (cn 6) 0)) 301 (flat (Fn 301) 200 (cn 6) (fun _ => 0))) 302 (flat (Fn 302) 12 (cn 6) (fun _ => 0))) 303 (flat (Fn 303) 12 (cn 6) (fun _ => 0))) 304 (flat (Fn 304) 12 (cn 6) (fun _ => 0))) 305 (flat (Fn 305) 32 (cn 6) (fun _ => 0)))) H1 := hP
              have hD : va_D A (wX cI (D.1 99) zz g (adO (adO (adO (adO (adO (adO (adO (adO (adO ad 10 (cn 10) q73) 3 (cn 10) (cn 6)) 5 (cn 6) (u_12 5)) 60 (cn 6) (u_12 0)) 61 (cn 6) (u_12 1)) 62 (cn 6) (u_12 2)) 63 (cn 6) (u_12 3)) 64 (cn 6) (u_12 4)) 2 0 ua13) (va_up (va_up (va_up cn 10 ((cn 10) + 1)) 20 uc13) 6 (cn 6 + 1)) (va_up In 10 ((In 10) + 1)) (va_up (va_up (va_up (va_up (va_up (va_up (va_up (va_up (va_up (va_up (va_up (va_up (va_up (va_up (va_up (va_up (va_up (va_up (va_up (va_up Fn 100 (upd (Fn 100) (cn 10) v0)) 101 (upd (Fn 101) (cn 10) v1)) 102 (upd (Fn 102) (cn 10) v2)) 103 (upd (Fn 103) (cn 10) v3)) 104 (upd (Fn 104) (cn 10) 0)) 105 (upd (Fn 105) (cn 10) 0)) 106 (upd (Fn 106) (cn 10) 0)) 107 (upd (Fn 107) (cn 10) 0)) 108 (upd (Fn 108) (cn 10) 0)) 109 (upd (Fn 109) (cn 10) 0)) 195 (upd (Fn 195) (cn 6) 0)) 196 (upd (Fn 196) (cn 6) 0)) 197 (upd (Fn 197) (cn 6) 0)) 198 (upd (Fn 198) (cn 6) 0)) 199 (upd (Fn 199) (cn 6) 0)) 301 (flat (Fn 301) 200 (cn 6) (fun _ => 0))) 302 (flat (Fn 302) 12 (cn 6) (fun _ => 0))) 303 (flat (Fn 303) 12 (cn 6) (fun _ => 0))) 304 (flat (Fn 304) 12 (cn 6) (fun _ => 0))) 305 (flat (Fn 305) 32 (cn 6) (fun _ => 0)))) := hD
              generalize H1 = H at hP hS ⊢
              refine lv_pop hx hb (oc_87 88 (aq_15 shX11_kitchen_73)) rfl ?_
              refine lv_aload_n hx hb (oc_42 89 (aq_16 shX11_kitchen_73)) rfl (lvA1 hl) ?_
              refine gf_RX11_61 S hK hP 0 xo_0 (v := .ref (g 10)) rfl (oc_180 90 (aq_17 shX11_kitchen_73) uw_0_61) ?_
              refine vp_callSi (runV_r (As := []) (rest := []) S (q_l_size l D cI cB cZ (g 10) (if ((cn 10) + 1) = 0 then zz else (adO (adO (adO (adO (adO (adO (adO (adO (adO ad 10 (cn 10) q73) 3 (cn 10) (cn 6)) 5 (cn 6) (u_12 5)) 60 (cn 6) (u_12 0)) 61 (cn 6) (u_12 1)) 62 (cn 6) (u_12 2)) 63 (cn 6) (u_12 3)) 64 (cn 6) (u_12 4)) 2 0 ua13) 2 0) ((In 10) + 1) (nI ((cn 10) + 1))) kV_RX11_84 hK hP [24] (one_is xo_24) 24 xo_24 rfl rfl ⟨Nat.le_of_ble_eq_true rfl, Nat.le_of_ble_eq_true rfl⟩ ⟨Nat.le_of_ble_eq_true rfl, Nat.le_of_ble_eq_true rfl⟩ rfl hl.1 rfl (Nat.le_of_ble_eq_true rfl) (oc_182 93 (aq_20 shX11_kitchen_73) uw_0_84)) (fun r_18 h_19 => ?_)
              subst h_19
              refine lv_iconst (v := 1) hx hb (oc_4 96 (aq_23 shX11_kitchen_73)) kic_1 ?_
              refine lv_isub hx hb (oc_100 97 shX11_kitchen_97) ?_
              refine lv_topi (fun y_20 ey_20 => ?_)
              obtain rfl : y_20 = (nI (cn 10)) := ey_20.trans (nI_sub (b := 1) (by omega))
              exact W.iret (v := (nI (cn 10))) hx hb hr (fun t ht hW => ⟨⟨(nI (cn 10)), ((adO (adO (adO (adO (adO (adO (adO (adO (adO ad 10 (cn 10) q73) 3 (cn 10) (cn 6)) 5 (cn 6) (u_12 5)) 60 (cn 6) (u_12 0)) 61 (cn 6) (u_12 1)) 62 (cn 6) (u_12 2)) 63 (cn 6) (u_12 3)) 64 (cn 6) (u_12 4)) 2 0 ua13), (va_up (va_up (va_up cn 10 ((cn 10) + 1)) 20 uc13) 6 (cn 6 + 1)), (va_up In 10 ((In 10) + 1)), (va_up (va_up (va_up (va_up (va_up (va_up (va_up (va_up (va_up (va_up (va_up (va_up (va_up (va_up (va_up (va_up (va_up (va_up (va_up (va_up Fn 100 (upd (Fn 100) (cn 10) v0)) 101 (upd (Fn 101) (cn 10) v1)) 102 (upd (Fn 102) (cn 10) v2)) 103 (upd (Fn 103) (cn 10) v3)) 104 (upd (Fn 104) (cn 10) 0)) 105 (upd (Fn 105) (cn 10) 0)) 106 (upd (Fn 106) (cn 10) 0)) 107 (upd (Fn 107) (cn 10) 0)) 108 (upd (Fn 108) (cn 10) 0)) 109 (upd (Fn 109) (cn 10) 0)) 195 (upd (Fn 195) (cn 6) 0)) 196 (upd (Fn 196) (cn 6) 0)) 197 (upd (Fn 197) (cn 6) 0)) 198 (upd (Fn 198) (cn 6) 0)) 199 (upd (Fn 199) (cn 6) 0)) 301 (flat (Fn 301) 200 (cn 6) (fun _ => 0))) 302 (flat (Fn 302) 12 (cn 6) (fun _ => 0))) 303 (flat (Fn 303) 12 (cn 6) (fun _ => 0))) 304 (flat (Fn 304) 12 (cn 6) (fun _ => 0))) 305 (flat (Fn 305) 32 (cn 6) (fun _ => 0)))), rfl, (Or.inr ⟨rfl, by omega, q73, (u_12 5), (u_12 0), (u_12 1), (u_12 2), (u_12 3), (u_12 4), ua13, uc13, ((In 10) + 1), ⟨by omega, by omega⟩, rfl, rfl, rfl, rfl⟩), by rw [ht]; exact hP, hD⟩, hS.F ht⟩) hS.2.2 (oc_172 98 (aq_1 shX11_kitchen_97))
          ·
            have tc_11 : (10 : Int) ≤ (nI (cn 10)).toInt := Int32.le_iff_toInt_le.mp (Int32.not_lt.mp c_11)
            refine lv_iconst (v := (-1)) hx hb dX11_kitchen_67 kic_m1 ?_
            refine W.widen (k := 8) (n := 188) (Nat.le_of_ble_eq_true rfl) (Nat.le_of_ble_eq_true rfl) ?_
            exact W.iret (v := (-1)) hx hb hr (fun t ht hW => ⟨⟨(-1), (ad, cn, In, Fn), rfl, (Or.inl ⟨rfl, by omega, rfl, rfl, rfl, rfl⟩), by rw [ht]; exact hP, hD⟩, hS.F ht⟩) hS.2.2 dX11_kitchen_68
        ·
          have h_8 : ¬ (20 ≤ v3.toInt ∧ v3.toInt ≤ 400) := h_8
          refine lv_if_eq (tgt := 67) hx hb (oc_153 52 (aq_3 shX11_kitchen_49) sgw_0_15) rfl (fun _ => ?_) (fun h => absurd h cq_eq_0_0)
          refine lv_iconst (v := (-1)) hx hb dX11_kitchen_67 kic_m1 ?_
          refine W.widen (k := 8) (n := 188) (Nat.le_of_ble_eq_true rfl) (Nat.le_of_ble_eq_true rfl) ?_
          exact W.iret (v := (-1)) hx hb hr (fun t ht hW => ⟨⟨(-1), (ad, cn, In, Fn), rfl, (Or.inl ⟨rfl, by omega, rfl, rfl, rfl, rfl⟩), by rw [ht]; exact hP, hD⟩, hS.F ht⟩) hS.2.2 dX11_kitchen_68
      ·
        have h_6 : ¬ (0 ≤ v2.toInt ∧ v2.toInt ≤ 50) := h_6
        refine lv_if_eq (tgt := 67) hx hb (oc_153 39 (aq_15 shX11_kitchen_24) sgw_0_28) rfl (fun _ => ?_) (fun h => absurd h cq_eq_0_0)
        refine lv_iconst (v := (-1)) hx hb dX11_kitchen_67 kic_m1 ?_
        refine W.widen (k := 8) (n := 188) (Nat.le_of_ble_eq_true rfl) (Nat.le_of_ble_eq_true rfl) ?_
        exact W.iret (v := (-1)) hx hb hr (fun t ht hW => ⟨⟨(-1), (ad, cn, In, Fn), rfl, (Or.inl ⟨rfl, by omega, rfl, rfl, rfl, rfl⟩), by rw [ht]; exact hP, hD⟩, hS.F ht⟩) hS.2.2 dX11_kitchen_68
    ·
      have h_4 : ¬ (0 ≤ v1.toInt ∧ v1.toInt ≤ 99) := h_4
      refine lv_if_eq (tgt := 24) hx hb (oc_153 17 (aq_17 shX11_kitchen_0) sgw_0_7) rfl (fun _ => ?_) (fun h => absurd h cq_eq_0_0)
      refine lv_iconst (v := 0) hx hb (oc_3 24 shX11_kitchen_24) kic_0 ?_
      refine lv_istore (lv' := [(5, .int 0), (0, .ref (g 0)), (1, .int v0), (2, .int v1), (3, .int v2), (4, .int v3)]) hx hb (oc_54 25 (aq_1 shX11_kitchen_24) ub_5) hl (ltb rfl) rfl (fun ls hl => ?_)
      refine lv_iload hx hb (oc_21 27 (aq_3 shX11_kitchen_24) ub_5) (lvA0 hl) ?_
      refine lv_if_eq (tgt := 67) hx hb (oc_153 29 (aq_5 shX11_kitchen_24) sgw_0_38) rfl (fun _ => ?_) (fun h => absurd h cq_eq_0_0)
      refine lv_iconst (v := (-1)) hx hb dX11_kitchen_67 kic_m1 ?_
      refine W.widen (k := 8) (n := 188) (Nat.le_of_ble_eq_true rfl) (Nat.le_of_ble_eq_true rfl) ?_
      exact W.iret (v := (-1)) hx hb hr (fun t ht hW => ⟨⟨(-1), (ad, cn, In, Fn), rfl, (Or.inl ⟨rfl, by omega, rfl, rfl, rfl, rfl⟩), by rw [ht]; exact hP, hD⟩, hS.F ht⟩) hS.2.2 dX11_kitchen_68
  ·
    have h_2 : ¬ (0 ≤ v0.toInt ∧ v0.toInt ≤ 99) := h_2
    refine lv_if_eq (tgt := 24) hx hb (oc_153 7 (aq_7 shX11_kitchen_0) sgw_0_17) rfl (fun _ => ?_) (fun h => absurd h cq_eq_0_0)
    refine lv_iconst (v := 0) hx hb (oc_3 24 shX11_kitchen_24) kic_0 ?_
    refine lv_istore (lv' := [(5, .int 0), (0, .ref (g 0)), (1, .int v0), (2, .int v1), (3, .int v2), (4, .int v3)]) hx hb (oc_54 25 (aq_1 shX11_kitchen_24) ub_5) hl (ltb rfl) rfl (fun ls hl => ?_)
    refine lv_iload hx hb (oc_21 27 (aq_3 shX11_kitchen_24) ub_5) (lvA0 hl) ?_
    refine lv_if_eq (tgt := 67) hx hb (oc_153 29 (aq_5 shX11_kitchen_24) sgw_0_38) rfl (fun _ => ?_) (fun h => absurd h cq_eq_0_0)
    refine lv_iconst (v := (-1)) hx hb dX11_kitchen_67 kic_m1 ?_
    refine W.widen (k := 8) (n := 188) (Nat.le_of_ble_eq_true rfl) (Nat.le_of_ble_eq_true rfl) ?_
    exact W.iret (v := (-1)) hx hb hr (fun t ht hW => ⟨⟨(-1), (ad, cn, In, Fn), rfl, (Or.inl ⟨rfl, by omega, rfl, rfl, rfl, rfl⟩), by rw [ht]; exact hP, hD⟩, hS.F ht⟩) hS.2.2 dX11_kitchen_68
set_option maxRecDepth 100000 in
set_option maxHeartbeats 4000000 in
theorem q_Xmoves (l : Launch) (D : va_G) (cI cB cZ : ClassId) (zz qq vv : Nat) (bt : Nat → Int32) (g : Nat → Nat) (ad : Nat → Nat → Nat) (cn : Nat → Nat) (In : Nat → Int32) (Fn : Nat → Nat → Int32) (v0 v1 v2 : Int32) (sz : Nat) (hB : CBX cn) : Met l yX11_moves (CWS yX11_moves cX11_moves 6 (some .boolean)) (RM 8 2 103) (PBx [.ref (g 0), .int v0, .int v1, .int v2] D cI cB cZ zz qq vv bt (wX cI (D.1 99) zz g ad cn In Fn) sz) (va_Qi (fun (r : Int32) (u : (Nat → Nat → Nat) × (Nat → Nat) × (Nat → Int32) × (Nat → Nat → Int32)) => (fun r a2 c2 I2 F2 => (r = 0 ∧ ad = a2 ∧ cn = c2 ∧ In = I2 ∧ Fn = F2) ∨ (r = 1 ∧ ∃ (q z c : Nat) (y : Int32), (0 ≤ v0.toInt ∧ v0.toInt < (cn 2 : Int) ∧ -1 ≤ v1.toInt ∧ v1.toInt < (cn 10 : Int) ∧ 0 ≤ v2.toInt ∧ v2.toInt ≤ (cn 0 : Int) ∧ cn 15 < 60) ∧ (cn 15 < c ∧ c ≤ 100) ∧ (adP ad 15 (cn 15) q 5 z) = a2 ∧ (va_up (va_up cn 15 ((cn 15) + 1)) 25 c) = c2 ∧ (va_up In 15 y) = I2 ∧ (va_up (va_up (va_up Fn 180 (upd (Fn 180) (cn 15) v0)) 181 (upd (Fn 181) (cn 15) v1)) 182 (upd (Fn 182) (cn 15) v2)) = F2)) r u.1 u.2.1 u.2.2.1 u.2.2.2) (fun (u : (Nat → Nat → Nat) × (Nat → Nat) × (Nat → Int32) × (Nat → Nat → Int32)) (t : State) => va_P D vwCl (wX cI (D.1 99) zz g u.1 u.2.1 u.2.2.1 u.2.2.2) t.heap ∧ va_D (va_A (wX cI (D.1 99) zz g ad cn In Fn) sz) (wX cI (D.1 99) zz g u.1 u.2.1 u.2.2.1 u.2.2.2)) (va_A (wX cI (D.1 99) zz g ad cn In Fn) sz)) 2 103 (va_A (wX cI (D.1 99) zz g ad cn In Fn) sz) := by
  refine en_x (fun A => (va_Qi (fun (r : Int32) (u : (Nat → Nat → Nat) × (Nat → Nat) × (Nat → Int32) × (Nat → Nat → Int32)) => (fun (r : Int32) (a2 : Nat → Nat → Nat) (c2 : Nat → Nat) (I2 : Nat → Int32) (F2 : Nat → Nat → Int32) => (r = 0 ∧ ad = a2 ∧ cn = c2 ∧ In = I2 ∧ Fn = F2) ∨ (r = 1 ∧ ∃ (q z c : Nat) (y : Int32), (0 ≤ v0.toInt ∧ v0.toInt < (cn 2 : Int) ∧ -1 ≤ v1.toInt ∧ v1.toInt < (cn 10 : Int) ∧ 0 ≤ v2.toInt ∧ v2.toInt ≤ (cn 0 : Int) ∧ cn 15 < 60) ∧ (cn 15 < c ∧ c ≤ 100) ∧ (adP ad 15 (cn 15) q 5 z) = a2 ∧ (va_up (va_up cn 15 ((cn 15) + 1)) 25 c) = c2 ∧ (va_up In 15 y) = I2 ∧ (va_up (va_up (va_up Fn 180 (upd (Fn 180) (cn 15) v0)) 181 (upd (Fn 181) (cn 15) v1)) 182 (upd (Fn 182) (cn 15) v2)) = F2)) r u.1 u.2.1 u.2.2.1 u.2.2.2) (fun (u : (Nat → Nat → Nat) × (Nat → Nat) × (Nat → Int32) × (Nat → Nat → Int32)) (t : State) => va_P D vwCl (wX cI (D.1 99) zz g u.1 u.2.1 u.2.2.1 u.2.2.2) t.heap ∧ va_D A (wX cI (D.1 99) zz g u.1 u.2.1 u.2.2.1 u.2.2.2)) A)) rfl rfl pn_RX11 (Nat.le_of_ble_eq_true rfl) (fun p e s m below meth c A hx hb hml hown S hr hlocks hnm hA hP hK hD hXS hS ls hl => ?_)
  have hl : lv_has ls 6 [(0, .ref (g 0)), (1, .int v0), (2, .int v1), (3, .int v2)] := hl
  refine lv_iload_n hx hb (oc_27 0 shX11_moves_0) rfl (lvA1 hl) ?_
  refine lv_iconst (v := 0) hx hb (oc_3 1 (aq_1 shX11_moves_0)) kic_0 ?_
  refine lv_aload_n hx hb (oc_42 2 (aq_2 shX11_moves_0)) rfl (lvA0 hl) ?_
  refine gf_RX11_502 S hK hP 0 xo_0 (v := .int (nI (cn 2))) rfl (oc_180 3 (aq_3 shX11_moves_0) uw_1_246) ?_
  refine lv_iconst (v := 1) hx hb (oc_4 6 (aq_6 shX11_moves_0)) kic_1 ?_
  refine lv_isub hx hb (oc_100 7 (aq_7 shX11_moves_0)) ?_
  have tm1 := nI_mt (c := cn 2) (by omega)
  refine vp_callSi (runS_r (As := [.int v0, .int 0, .int ((nI (cn 2)) - 1)]) (rest := []) S (q_l_within l D cI cB cZ v0 0 ((nI (cn 2)) - 1)) kS_RX11_80 hK hP [] rfl ⟨Nat.le_of_ble_eq_true rfl, Nat.le_of_ble_eq_true rfl⟩ ⟨Nat.le_of_ble_eq_true rfl, Nat.le_of_ble_eq_true rfl⟩ rfl hl.1 rfl (Nat.le_of_ble_eq_true rfl) (oc_184 8 (aq_8 shX11_moves_0) uw_0_80)) (fun r_1 h_2 => ?_)
  rcases h_2 with ⟨rfl, h_2⟩ | ⟨rfl, h_2⟩
  ·
    have h_2 : 0 ≤ v0.toInt ∧ v0.toInt ≤ ((nI (cn 2)) - 1).toInt := h_2
    refine lv_if_eq (tgt := 31) hx hb (oc_153 11 (aq_11 shX11_moves_0) sgw_0_20) rfl (fun h => absurd h cq_eq_1_0) (fun _ => ?_)
    refine lv_iload_n hx hb (oc_28 14 (aq_14 shX11_moves_0)) rfl (lvA2 hl) ?_
    refine lv_iconst (v := (-1)) hx hb (oc_2 15 (aq_15 shX11_moves_0)) kic_m1 ?_
    refine lv_icmp_eq (tgt := 27) hx hb (oc_159 16 (aq_16 shX11_moves_0) sgw_0_11) rfl (fun c_3 => ?_) (fun c_3 => ?_)
    ·
      have tc_3 : (v1.toInt : Int) = (-1) := congrArg Int32.toInt c_3
      refine lv_iconst (v := 1) hx hb (oc_4 27 (aq_3 shX11_moves_24)) kic_1 ?_
      refine lv_goto (tgt := 32) hx hb (oc_167 28 (aq_4 shX11_moves_24) sgw_0_4) rfl ?_
      refine lv_istore (lv' := [(4, .int 1), (0, .ref (g 0)), (1, .int v0), (2, .int v1), (3, .int v2)]) hx hb dX11_moves_32 hl (ltb rfl) rfl (fun ls hl => ?_)
      refine lv_iload hx hb dX11_moves_34 (lvA0 hl) ?_
      refine lv_if_eq (tgt := 63) hx hb dX11_moves_36 rfl (fun h => absurd h cq_eq_1_0) (fun _ => ?_)
      refine lv_iload_n hx hb (oc_29 39 (aq_15 shX11_moves_24)) rfl (lvA4 hl) ?_
      refine lv_iconst (v := 0) hx hb (oc_3 40 (aq_16 shX11_moves_24)) kic_0 ?_
      refine lv_aload_n hx hb (oc_42 41 (aq_17 shX11_moves_24)) rfl (lvA1 hl) ?_
      refine gf_RX11_103 S hK hP 0 xo_0 (v := .int (nI (cn 0))) rfl (oc_180 42 (aq_18 shX11_moves_24) uw_0_103) ?_
      refine vp_callSi (runS_r (As := [.int v2, .int 0, .int (nI (cn 0))]) (rest := []) S (q_l_within l D cI cB cZ v2 0 (nI (cn 0))) kS_RX11_80 hK hP [] rfl ⟨Nat.le_of_ble_eq_true rfl, Nat.le_of_ble_eq_true rfl⟩ ⟨Nat.le_of_ble_eq_true rfl, Nat.le_of_ble_eq_true rfl⟩ rfl hl.1 rfl (Nat.le_of_ble_eq_true rfl) (oc_184 45 (aq_21 shX11_moves_24) uw_0_80)) (fun r_4 h_5 => ?_)
      have : (nI (cn 0)).toInt = (((cn 0) : Nat) : Int) := nI_toInt (by omega)
      rcases h_5 with ⟨rfl, h_5⟩ | ⟨rfl, h_5⟩
      ·
        have h_5 : 0 ≤ v2.toInt ∧ v2.toInt ≤ (nI (cn 0)).toInt := h_5
        refine lv_if_eq (tgt := 63) hx hb dX11_moves_48 rfl (fun h => absurd h cq_eq_1_0) (fun _ => ?_)
        refine lv_aload_n hx hb (oc_42 51 (aq_3 shX11_moves_48)) rfl (lvA1 hl) ?_
        refine gf_RX11_77 S hK hP 0 xo_0 (v := .ref (g 15)) rfl (oc_180 52 (aq_4 shX11_moves_48) uw_0_77) ?_
        refine vp_callSi (runV_r (As := []) (rest := []) S (q_l_size l D cI cB cZ (g 15) (if (cn 15) = 0 then zz else ad 2 5) (In 15) (nI (cn 15))) kV_RX11_84 hK hP [29] (one_is xo_29) 29 xo_29 rfl rfl ⟨Nat.le_of_ble_eq_true rfl, Nat.le_of_ble_eq_true rfl⟩ ⟨Nat.le_of_ble_eq_true rfl, Nat.le_of_ble_eq_true rfl⟩ rfl hl.1 rfl (Nat.le_of_ble_eq_true rfl) (oc_182 55 (aq_7 shX11_moves_48) uw_0_84)) (fun r_6 h_7 => ?_)
        subst h_7
        refine lv_bipush (v := 60) hx hb (oc_16 58 (aq_10 shX11_moves_48) sgb_60) kbc_60 ?_
        have : (nI (cn 15)).toInt = (((cn 15) : Nat) : Int) := nI_toInt (by omega)
        refine lv_icmp_lt (tgt := 65) hx hb (oc_161 60 (aq_12 shX11_moves_48) sgw_0_5) rfl (fun c_8 => ?_) (fun c_8 => ?_)
        ·
          have tc_8 : ((nI (cn 15)).toInt : Int) < 60 := Int32.lt_iff_toInt_lt.mp c_8
          refine lv_aload_n hx hb (oc_42 65 (aq_17 shX11_moves_48)) rfl (lvA1 hl) ?_
          refine lv_iload_n hx hb (oc_27 66 (aq_18 shX11_moves_48)) rfl (lvA2 hl) ?_
          refine lv_sipush (v := 399) hx hb (oc_17 67 (aq_19 shX11_moves_48) sgw_1_143) (by decide) ?_
          refine va_csq (runV_rxa (As := [.int v0, .int 399]) (rest := []) S (q_XmoveBy l D cI cB cZ zz qq vv bt g ad cn In Fn v0 399 hB) kV_RX11_509 hK hXS hS hP 0 xo_0 rfl rfl ⟨Nat.le_of_ble_eq_true rfl, Nat.le_of_ble_eq_true rfl⟩ ⟨Nat.le_of_ble_eq_true rfl, Nat.le_of_ble_eq_true rfl⟩ rfl hl.1 rfl (Nat.le_of_ble_eq_true rfl) (oc_182 70 (aq_22 shX11_moves_48) uw_1_253)) (fun r_9 h_10 => ?_)
          rcases h_10 with ⟨mr_9, er_9, hr_9, rfl⟩ | ⟨hr_9, rfl⟩
          ·
            refine lv_astore (lv' := [(5, .ref (ad 15 mr_9)), (4, .int 1), (0, .ref (g 0)), (1, .int v0), (2, .int v1), (3, .int v2)]) hx hb dX11_moves_73 hl (ltb rfl) rfl (fun ls hl => ?_)
            refine lv_aload hx hb dX11_moves_75 (lvA0 hl) ?_
            refine lv_ifnull hx hb dX11_moves_77 ?_
            refine lv_iload_n hx hb (oc_29 80 (aq_7 shX11_moves_73)) rfl (lvA5 hl) ?_
            refine lv_aload hx hb (oc_25 81 (aq_8 shX11_moves_73) ub_5) (lvA0 hl) ?_
            refine gf_RX11_508 S hK hP _ (xf_5 (by omega)) (v := .int ((Fn 182) mr_9)) rfl (oc_180 83 (aq_10 shX11_moves_73) uw_1_252) ?_
            refine lv_icmp_ge (tgt := 91) hx hb (oc_162 86 (aq_13 shX11_moves_73) sgw_0_5) rfl (fun c_11 => ?_) (fun c_11 => ?_)
            ·
              have tc_11 : (((Fn 182) mr_9).toInt : Int) ≤ v2.toInt := Int32.le_iff_toInt_le.mp c_11
              refine lv_aload_n hx hb dX11_moves_91 rfl (lvA2 hl) ?_
              refine gf_RX11_77 S hK hP 0 xo_0 (v := .ref (g 15)) rfl dX11_moves_92 ?_
              refine va_new (ci := 4) (fs := [.int 0, .int 0, .int 0]) (C := RX3) (T := TX3) (N := 3) hx hb S.2.2.2.2 hin_RX3 tyX3 tyX3_ok hown (S.2.2.2.2 _ (wk6_3 3 rfl rfl)) (S.2.2.2.2 _ (wk6_3 4 rfl rfl)) (S.2.2.2.2 _ (wk1_2 2 rfl rfl)) hK.1 hP hD hS hA rfl (by decide +kernel) (Nat.le_of_ble_eq_true rfl) (Nat.le_of_ble_eq_true rfl) dX11_moves_95 (fun q95 H hP hD hS => ?_)
              have hP : va_P D vwCl ((wX cI (D.1 99) zz g ad cn In Fn) ++ ([(q95, .inr (4, [.int 0, .int 0, .int 0]))] : va_W)) H := hP
              have hD : va_D A ((wX cI (D.1 99) zz g ad cn In Fn) ++ ([(q95, .inr (4, [.int 0, .int 0, .int 0]))] : va_W)) := hD
              refine lv_dup hx hb dX11_moves_98 rfl ?_
              refine lv_iload_n hx hb dX11_moves_99 rfl (lvA3 hl) ?_
              refine lv_iload_n hx hb dX11_moves_100 rfl (lvA4 hl) ?_
              refine lv_iload_n hx hb dX11_moves_101 rfl (lvA5 hl) ?_
              have hFc := va_free (wc := [(q95, .inr (4, [.int 0, .int 0, .int 0]))]) hD hS hA [_] (one_im (exr (m := 0) rfl))
              refine va_callv (runI_w (As := [.int v0, .int v1, .int v2]) (rest := [.ref q95, .ref (g 15)]) S (q_l_Move l D cI cB cZ q95 v0 v1 v2 H.size) kI_RX11_513 hK hP hD [_] (one_is (exr (m := 0) rfl)) (one_im (exr (m := 0) rfl)) rfl ⟨Nat.le_of_ble_eq_true rfl, Nat.le_of_ble_eq_true rfl⟩ ⟨Nat.le_of_ble_eq_true rfl, Nat.le_of_ble_eq_true rfl⟩ rfl hl.1 rfl (Nat.le_of_ble_eq_true rfl) dX11_moves_102) hS (fun q _ h => hFc q h) hFc (fun u_12 t H1 locs ht hvm h_13 hB1 hz1 hk1 hS => ?_)
              obtain ⟨hP1, hD1⟩ := hB1
              rw [ht] at hP1
              obtain ⟨hP, hD⟩ := exjoin hP hD hk1 hFc hP1 hD1
              generalize H1 = H at hP hS ⊢
              have hP : va_P D vwCl ((wX cI (D.1 99) zz g ad cn In Fn) ++ ([(q95, .inr (4, [.int v0, .int v1, .int v2]))] : va_W)) H := hP
              have hD : va_D A ((wX cI (D.1 99) zz g ad cn In Fn) ++ ([(q95, .inr (4, [.int v0, .int v1, .int v2]))] : va_W)) := hD
              rcases Nat.eq_zero_or_pos (cn 15) with hz0 | hz0
              ·
                have hi9 : (wX cI (D.1 99) zz g ad cn In Fn)[29]? = _ := xlz_5 hz0
                have hp2P := pick2P hP (exl hi9) (exr (m := 0) rfl)
                have hp2D := pick2D hD (exl hi9) (exr (m := 0) rfl) (ne_ex hi9)
                have hFc := free_all hp2D hS hA
                refine va_calli (runV_xa (As := [.ref q95]) (rest := []) S (q_l_addZM l D cI cB cZ zz qq vv bt (g 15) q95 (In 15) v0 v1 v2 H.size) kV_RX11_110 hK hXS hS hFc hp2P hp2D 0 rfl rfl rfl ⟨Nat.le_of_ble_eq_true rfl, Nat.le_of_ble_eq_true rfl⟩ ⟨Nat.le_of_ble_eq_true rfl, Nat.le_of_ble_eq_true rfl⟩ rfl hl.1 rfl (Nat.le_of_ble_eq_true rfl) dX11_moves_105) hS (fun q _ h => hFc q h) hFc (fun r13 u13 t H1 locs ht hvm h13 hB1 hz1 hk1 hS => ?_)
                obtain ⟨hP1, hD1⟩ := hB1
                rw [ht] at hP1
                obtain rfl : r13 = 1 := h13
                obtain ⟨hP, hD⟩ := add0_join hP hD hi9 rfl hk1 hFc hP1 hD1 rfl (xu_5 (z := u13) (c := 10) (y := (In 15) + 1) (q := q95) (x0 := v0) (x1 := v1) (x2 := v2) hz0)
                have hP : va_P D vwCl (wX cI (D.1 99) zz g (adP ad 15 (cn 15) q95 5 u13) (va_up (va_up cn 15 ((cn 15) + 1)) 25 10) (va_up In 15 ((In 15) + 1)) (va_up (va_up (va_up Fn 180 (upd (Fn 180) (cn 15) v0)) 181 (upd (Fn 181) (cn 15) v1)) 182 (upd (Fn 182) (cn 15) v2))) H1 := hP
                have hD : va_D A (wX cI (D.1 99) zz g (adP ad 15 (cn 15) q95 5 u13) (va_up (va_up cn 15 ((cn 15) + 1)) 25 10) (va_up In 15 ((In 15) + 1)) (va_up (va_up (va_up Fn 180 (upd (Fn 180) (cn 15) v0)) 181 (upd (Fn 181) (cn 15) v1)) 182 (upd (Fn 182) (cn 15) v2))) := hD
                generalize H1 = H at hP hS ⊢
                refine W.widen (k := 2) (n := 103) (Nat.le_of_ble_eq_true rfl) (Nat.le_of_ble_eq_true rfl) ?_
                refine lv_pop hx hb dX11_moves_108 rfl ?_
                refine lv_iconst (v := 1) hx hb dX11_moves_109 kic_1 ?_
                exact W.zret (v := 1) hx hb hr rfl (fun t ht hW => ⟨⟨1, ((adP ad 15 (cn 15) q95 5 u13), (va_up (va_up cn 15 ((cn 15) + 1)) 25 10), (va_up In 15 ((In 15) + 1)), (va_up (va_up (va_up Fn 180 (upd (Fn 180) (cn 15) v0)) 181 (upd (Fn 181) (cn 15) v1)) 182 (upd (Fn 182) (cn 15) v2))), rfl, (Or.inr ⟨rfl, q95, u13, 10, ((In 15) + 1), by omega, ⟨by omega, by omega⟩, rfl, rfl, rfl, rfl⟩), by rw [ht]; exact hP, hD⟩, hS.F ht⟩) hS.2.2 dX11_moves_110
              ·
                have hi9 : (wX cI (D.1 99) zz g ad cn In Fn)[29]? = _ := xl_5 hz0
                have hj9 : (wX cI (D.1 99) zz g ad cn In Fn)[_]? = _ := xf_18 (k := 0) (show 0 < min 1 (cn 15) by omega)
                obtain ⟨ws9, hp1, hp2⟩ := pickG (W := ((wX cI (D.1 99) zz g ad cn In Fn) ++ ([(q95, .inr (4, [.int v0, .int v1, .int v2]))] : va_W))) (exl hi9) (exl hj9) (exr (m := 0) rfl) (xij (by decide)) (ne_ex hi9) (ne_ex hj9)
                have hP9 := va_P_perm hp1 hP
                have hD9 := va_D_perm hp1 hD
                have hFc := free_all hD9 hS hA
                refine va_calli (runV_xa (As := [.ref q95]) (rest := []) S (q_l_addGM l D cI cB cZ zz qq vv bt (cn 25) (g 15) (ad 2 5) (cn 15) q95 (In 15) (ad 15) v0 v1 v2 ws9 H.size (by omega) (by omega) hz0 (by omega) (fun i hi => ⟨_, g_mem (hp1.mem_iff.mp (List.mem_of_getElem? (exl (xf_5 (k := i) hi)))) (by decide)⟩)) kV_RX11_110 hK hXS hS hFc hP9 hD9 0 rfl rfl rfl ⟨Nat.le_of_ble_eq_true rfl, Nat.le_of_ble_eq_true rfl⟩ ⟨Nat.le_of_ble_eq_true rfl, Nat.le_of_ble_eq_true rfl⟩ rfl hl.1 rfl (Nat.le_of_ble_eq_true rfl) dX11_moves_105) hS (fun q _ h => hFc q h) hFc (fun r13 u13 t H1 locs ht hvm h13 hB1 hz1 hk1 hS => ?_)
                obtain ⟨hP1, hD1⟩ := hB1
                rw [ht] at hP1
                obtain ⟨hr13, h13⟩ := h13
                obtain rfl : r13 = 1 := hr13
                obtain ⟨ua13, uc13⟩ := u13
                have hu13 : cn 15 < uc13 ∧ uc13 ≤ 100 := h13
                obtain ⟨hP, hD⟩ := addG_join hp2 hi9 hj9 hP1 hD1 hFc (xadd_5 (z := ua13) (c := uc13) (y := (In 15) + 1) (q := q95) (x0 := v0) (x1 := v1) (x2 := v2) hz0)
                have hP : va_P D vwCl (wX cI (D.1 99) zz g (adP ad 15 (cn 15) q95 5 ua13) (va_up (va_up cn 15 ((cn 15) + 1)) 25 uc13) (va_up In 15 ((In 15) + 1)) (va_up (va_up (va_up Fn 180 (upd (Fn 180) (cn 15) v0)) 181 (upd (Fn 181) (cn 15) v1)) 182 (upd (Fn 182) (cn 15) v2))) H1 := hP
                have hD : va_D A (wX cI (D.1 99) zz g (adP ad 15 (cn 15) q95 5 ua13) (va_up (va_up cn 15 ((cn 15) + 1)) 25 uc13) (va_up In 15 ((In 15) + 1)) (va_up (va_up (va_up Fn 180 (upd (Fn 180) (cn 15) v0)) 181 (upd (Fn 181) (cn 15) v1)) 182 (upd (Fn 182) (cn 15) v2))) := hD
                generalize H1 = H at hP hS ⊢
                refine lv_pop hx hb dX11_moves_108 rfl ?_
                refine lv_iconst (v := 1) hx hb dX11_moves_109 kic_1 ?_
                exact W.zret (v := 1) hx hb hr rfl (fun t ht hW => ⟨⟨1, ((adP ad 15 (cn 15) q95 5 ua13), (va_up (va_up cn 15 ((cn 15) + 1)) 25 uc13), (va_up In 15 ((In 15) + 1)), (va_up (va_up (va_up Fn 180 (upd (Fn 180) (cn 15) v0)) 181 (upd (Fn 181) (cn 15) v1)) 182 (upd (Fn 182) (cn 15) v2))), rfl, (Or.inr ⟨rfl, q95, ua13, uc13, ((In 15) + 1), by omega, ⟨by omega, by omega⟩, rfl, rfl, rfl, rfl⟩), by rw [ht]; exact hP, hD⟩, hS.F ht⟩) hS.2.2 dX11_moves_110
            ·
              have tc_11 : (v2.toInt : Int) < ((Fn 182) mr_9).toInt := Int32.lt_iff_toInt_lt.mp (Int32.not_le.mp c_11)
              refine lv_iconst (v := 0) hx hb (oc_3 89 (aq_16 shX11_moves_73)) kic_0 ?_
              refine W.widen (k := 2) (n := 103) (Nat.le_of_ble_eq_true rfl) (Nat.le_of_ble_eq_true rfl) ?_
              exact W.zret (v := 0) hx hb hr rfl (fun t ht hW => ⟨⟨0, (ad, cn, In, Fn), rfl, (Or.inl ⟨rfl, rfl, rfl, rfl, rfl⟩), by rw [ht]; exact hP, hD⟩, hS.F ht⟩) hS.2.2 (oc_172 90 (aq_17 shX11_moves_73))
          ·
            refine lv_astoreN (lv' := [(5, .null), (4, .int 1), (0, .ref (g 0)), (1, .int v0), (2, .int v1), (3, .int v2)]) hx hb dX11_moves_73 hl (ltb rfl) rfl (fun ls hl => ?_)
            refine lv_aloadN hx hb dX11_moves_75 (lvA0 hl) ?_
            refine lv_ifnullN (tgt := 91) hx hb dX11_moves_77 rfl ?_
            refine lv_aload_n hx hb dX11_moves_91 rfl (lvA2 hl) ?_
            refine gf_RX11_77 S hK hP 0 xo_0 (v := .ref (g 15)) rfl dX11_moves_92 ?_
            refine va_new (ci := 4) (fs := [.int 0, .int 0, .int 0]) (C := RX3) (T := TX3) (N := 3) hx hb S.2.2.2.2 hin_RX3 tyX3 tyX3_ok hown (S.2.2.2.2 _ (wk6_3 3 rfl rfl)) (S.2.2.2.2 _ (wk6_3 4 rfl rfl)) (S.2.2.2.2 _ (wk1_2 2 rfl rfl)) hK.1 hP hD hS hA rfl (by decide +kernel) (Nat.le_of_ble_eq_true rfl) (Nat.le_of_ble_eq_true rfl) dX11_moves_95 (fun q95 H hP hD hS => ?_)
            have hP : va_P D vwCl ((wX cI (D.1 99) zz g ad cn In Fn) ++ ([(q95, .inr (4, [.int 0, .int 0, .int 0]))] : va_W)) H := hP
            have hD : va_D A ((wX cI (D.1 99) zz g ad cn In Fn) ++ ([(q95, .inr (4, [.int 0, .int 0, .int 0]))] : va_W)) := hD
            refine lv_dup hx hb dX11_moves_98 rfl ?_
            refine lv_iload_n hx hb dX11_moves_99 rfl (lvA3 hl) ?_
            refine lv_iload_n hx hb dX11_moves_100 rfl (lvA4 hl) ?_
            refine lv_iload_n hx hb dX11_moves_101 rfl (lvA5 hl) ?_
            have hFc := va_free (wc := [(q95, .inr (4, [.int 0, .int 0, .int 0]))]) hD hS hA [_] (one_im (exr (m := 0) rfl))
            refine va_callv (runI_w (As := [.int v0, .int v1, .int v2]) (rest := [.ref q95, .ref (g 15)]) S (q_l_Move l D cI cB cZ q95 v0 v1 v2 H.size) kI_RX11_513 hK hP hD [_] (one_is (exr (m := 0) rfl)) (one_im (exr (m := 0) rfl)) rfl ⟨Nat.le_of_ble_eq_true rfl, Nat.le_of_ble_eq_true rfl⟩ ⟨Nat.le_of_ble_eq_true rfl, Nat.le_of_ble_eq_true rfl⟩ rfl hl.1 rfl (Nat.le_of_ble_eq_true rfl) dX11_moves_102) hS (fun q _ h => hFc q h) hFc (fun u_15 t H1 locs ht hvm h_16 hB1 hz1 hk1 hS => ?_)
            obtain ⟨hP1, hD1⟩ := hB1
            rw [ht] at hP1
            obtain ⟨hP, hD⟩ := exjoin hP hD hk1 hFc hP1 hD1
            generalize H1 = H at hP hS ⊢
            have hP : va_P D vwCl ((wX cI (D.1 99) zz g ad cn In Fn) ++ ([(q95, .inr (4, [.int v0, .int v1, .int v2]))] : va_W)) H := hP
            have hD : va_D A ((wX cI (D.1 99) zz g ad cn In Fn) ++ ([(q95, .inr (4, [.int v0, .int v1, .int v2]))] : va_W)) := hD
            rcases Nat.eq_zero_or_pos (cn 15) with hz0 | hz0
            ·
              have hi9 : (wX cI (D.1 99) zz g ad cn In Fn)[29]? = _ := xlz_5 hz0
              have hp2P := pick2P hP (exl hi9) (exr (m := 0) rfl)
              have hp2D := pick2D hD (exl hi9) (exr (m := 0) rfl) (ne_ex hi9)
              have hFc := free_all hp2D hS hA
              refine va_calli (runV_xa (As := [.ref q95]) (rest := []) S (q_l_addZM l D cI cB cZ zz qq vv bt (g 15) q95 (In 15) v0 v1 v2 H.size) kV_RX11_110 hK hXS hS hFc hp2P hp2D 0 rfl rfl rfl ⟨Nat.le_of_ble_eq_true rfl, Nat.le_of_ble_eq_true rfl⟩ ⟨Nat.le_of_ble_eq_true rfl, Nat.le_of_ble_eq_true rfl⟩ rfl hl.1 rfl (Nat.le_of_ble_eq_true rfl) dX11_moves_105) hS (fun q _ h => hFc q h) hFc (fun r16 u16 t H1 locs ht hvm h16 hB1 hz1 hk1 hS => ?_)
              obtain ⟨hP1, hD1⟩ := hB1
              rw [ht] at hP1
              obtain rfl : r16 = 1 := h16
              obtain ⟨hP, hD⟩ := add0_join hP hD hi9 rfl hk1 hFc hP1 hD1 rfl (xu_5 (z := u16) (c := 10) (y := (In 15) + 1) (q := q95) (x0 := v0) (x1 := v1) (x2 := v2) hz0)
              have hP : va_P D vwCl (wX cI (D.1 99) zz g (adP ad 15 (cn 15) q95 5 u16) (va_up (va_up cn 15 ((cn 15) + 1)) 25 10) (va_up In 15 ((In 15) + 1)) (va_up (va_up (va_up Fn 180 (upd (Fn 180) (cn 15) v0)) 181 (upd (Fn 181) (cn 15) v1)) 182 (upd (Fn 182) (cn 15) v2))) H1 := hP
              have hD : va_D A (wX cI (D.1 99) zz g (adP ad 15 (cn 15) q95 5 u16) (va_up (va_up cn 15 ((cn 15) + 1)) 25 10) (va_up In 15 ((In 15) + 1)) (va_up (va_up (va_up Fn 180 (upd (Fn 180) (cn 15) v0)) 181 (upd (Fn 181) (cn 15) v1)) 182 (upd (Fn 182) (cn 15) v2))) := hD
              generalize H1 = H at hP hS ⊢
              refine W.widen (k := 2) (n := 103) (Nat.le_of_ble_eq_true rfl) (Nat.le_of_ble_eq_true rfl) ?_
              refine lv_pop hx hb dX11_moves_108 rfl ?_
              refine lv_iconst (v := 1) hx hb dX11_moves_109 kic_1 ?_
              exact W.zret (v := 1) hx hb hr rfl (fun t ht hW => ⟨⟨1, ((adP ad 15 (cn 15) q95 5 u16), (va_up (va_up cn 15 ((cn 15) + 1)) 25 10), (va_up In 15 ((In 15) + 1)), (va_up (va_up (va_up Fn 180 (upd (Fn 180) (cn 15) v0)) 181 (upd (Fn 181) (cn 15) v1)) 182 (upd (Fn 182) (cn 15) v2))), rfl, (Or.inr ⟨rfl, q95, u16, 10, ((In 15) + 1), by omega, ⟨by omega, by omega⟩, rfl, rfl, rfl, rfl⟩), by rw [ht]; exact hP, hD⟩, hS.F ht⟩) hS.2.2 dX11_moves_110
            ·
              have hi9 : (wX cI (D.1 99) zz g ad cn In Fn)[29]? = _ := xl_5 hz0
              have hj9 : (wX cI (D.1 99) zz g ad cn In Fn)[_]? = _ := xf_18 (k := 0) (show 0 < min 1 (cn 15) by omega)
              obtain ⟨ws9, hp1, hp2⟩ := pickG (W := ((wX cI (D.1 99) zz g ad cn In Fn) ++ ([(q95, .inr (4, [.int v0, .int v1, .int v2]))] : va_W))) (exl hi9) (exl hj9) (exr (m := 0) rfl) (xij (by decide)) (ne_ex hi9) (ne_ex hj9)
              have hP9 := va_P_perm hp1 hP
              have hD9 := va_D_perm hp1 hD
              have hFc := free_all hD9 hS hA
              refine va_calli (runV_xa (As := [.ref q95]) (rest := []) S (q_l_addGM l D cI cB cZ zz qq vv bt (cn 25) (g 15) (ad 2 5) (cn 15) q95 (In 15) (ad 15) v0 v1 v2 ws9 H.size (by omega) (by omega) hz0 (by omega) (fun i hi => ⟨_, g_mem (hp1.mem_iff.mp (List.mem_of_getElem? (exl (xf_5 (k := i) hi)))) (by decide)⟩)) kV_RX11_110 hK hXS hS hFc hP9 hD9 0 rfl rfl rfl ⟨Nat.le_of_ble_eq_true rfl, Nat.le_of_ble_eq_true rfl⟩ ⟨Nat.le_of_ble_eq_true rfl, Nat.le_of_ble_eq_true rfl⟩ rfl hl.1 rfl (Nat.le_of_ble_eq_true rfl) dX11_moves_105) hS (fun q _ h => hFc q h) hFc (fun r16 u16 t H1 locs ht hvm h16 hB1 hz1 hk1 hS => ?_)
              obtain ⟨hP1, hD1⟩ := hB1
              rw [ht] at hP1
              obtain ⟨hr16, h16⟩ := h16
              obtain rfl : r16 = 1 := hr16
              obtain ⟨ua16, uc16⟩ := u16
              have hu16 : cn 15 < uc16 ∧ uc16 ≤ 100 := h16
              obtain ⟨hP, hD⟩ := addG_join hp2 hi9 hj9 hP1 hD1 hFc (xadd_5 (z := ua16) (c := uc16) (y := (In 15) + 1) (q := q95) (x0 := v0) (x1 := v1) (x2 := v2) hz0)
              have hP : va_P D vwCl (wX cI (D.1 99) zz g (adP ad 15 (cn 15) q95 5 ua16) (va_up (va_up cn 15 ((cn 15) + 1)) 25 uc16) (va_up In 15 ((In 15) + 1)) (va_up (va_up (va_up Fn 180 (upd (Fn 180) (cn 15) v0)) 181 (upd (Fn 181) (cn 15) v1)) 182 (upd (Fn 182) (cn 15) v2))) H1 := hP
              have hD : va_D A (wX cI (D.1 99) zz g (adP ad 15 (cn 15) q95 5 ua16) (va_up (va_up cn 15 ((cn 15) + 1)) 25 uc16) (va_up In 15 ((In 15) + 1)) (va_up (va_up (va_up Fn 180 (upd (Fn 180) (cn 15) v0)) 181 (upd (Fn 181) (cn 15) v1)) 182 (upd (Fn 182) (cn 15) v2))) := hD
              generalize H1 = H at hP hS ⊢
              refine lv_pop hx hb dX11_moves_108 rfl ?_
              refine lv_iconst (v := 1) hx hb dX11_moves_109 kic_1 ?_
              exact W.zret (v := 1) hx hb hr rfl (fun t ht hW => ⟨⟨1, ((adP ad 15 (cn 15) q95 5 ua16), (va_up (va_up cn 15 ((cn 15) + 1)) 25 uc16), (va_up In 15 ((In 15) + 1)), (va_up (va_up (va_up Fn 180 (upd (Fn 180) (cn 15) v0)) 181 (upd (Fn 181) (cn 15) v1)) 182 (upd (Fn 182) (cn 15) v2))), rfl, (Or.inr ⟨rfl, q95, ua16, uc16, ((In 15) + 1), by omega, ⟨by omega, by omega⟩, rfl, rfl, rfl, rfl⟩), by rw [ht]; exact hP, hD⟩, hS.F ht⟩) hS.2.2 dX11_moves_110
        ·
          have tc_8 : (60 : Int) ≤ (nI (cn 15)).toInt := Int32.le_iff_toInt_le.mp (Int32.not_lt.mp c_8)
          refine lv_iconst (v := 0) hx hb dX11_moves_63 kic_0 ?_
          refine W.widen (k := 2) (n := 103) (Nat.le_of_ble_eq_true rfl) (Nat.le_of_ble_eq_true rfl) ?_
          exact W.zret (v := 0) hx hb hr rfl (fun t ht hW => ⟨⟨0, (ad, cn, In, Fn), rfl, (Or.inl ⟨rfl, rfl, rfl, rfl, rfl⟩), by rw [ht]; exact hP, hD⟩, hS.F ht⟩) hS.2.2 dX11_moves_64
      ·
        have h_5 : ¬ (0 ≤ v2.toInt ∧ v2.toInt ≤ (nI (cn 0)).toInt) := h_5
        refine lv_if_eq (tgt := 63) hx hb dX11_moves_48 rfl (fun _ => ?_) (fun h => absurd h cq_eq_0_0)
        refine lv_iconst (v := 0) hx hb dX11_moves_63 kic_0 ?_
        refine W.widen (k := 2) (n := 103) (Nat.le_of_ble_eq_true rfl) (Nat.le_of_ble_eq_true rfl) ?_
        exact W.zret (v := 0) hx hb hr rfl (fun t ht hW => ⟨⟨0, (ad, cn, In, Fn), rfl, (Or.inl ⟨rfl, rfl, rfl, rfl, rfl⟩), by rw [ht]; exact hP, hD⟩, hS.F ht⟩) hS.2.2 dX11_moves_64
    ·
      have tc_3 : (v1.toInt : Int) ≠ (-1) := fun q => c_3 (Int32.toInt_inj.mp q)
      refine lv_aload_n hx hb (oc_42 19 (aq_19 shX11_moves_0)) rfl (lvA0 hl) ?_
      refine lv_iload_n hx hb (oc_28 20 (aq_20 shX11_moves_0)) rfl (lvA2 hl) ?_
      refine va_csq (runV_rxa (As := [.int v1]) (rest := []) S (q_XkitchenAt l D cI cB cZ zz qq vv bt g ad cn In Fn v1 hB) kV_RX11_114 hK hXS hS hP 0 xo_0 rfl rfl ⟨Nat.le_of_ble_eq_true rfl, Nat.le_of_ble_eq_true rfl⟩ ⟨Nat.le_of_ble_eq_true rfl, Nat.le_of_ble_eq_true rfl⟩ rfl hl.1 rfl (Nat.le_of_ble_eq_true rfl) (oc_182 21 (aq_21 shX11_moves_0) uw_0_114)) (fun r_18 h_19 => ?_)
      rcases h_19 with ⟨mr_18, er_18, hr_18, rfl⟩ | ⟨hr_18, rfl⟩
      ·
        refine lv_ifnull hx hb (oc_198 24 shX11_moves_24 sgw_0_7) ?_
        refine lv_iconst (v := 1) hx hb (oc_4 27 (aq_3 shX11_moves_24)) kic_1 ?_
        refine lv_goto (tgt := 32) hx hb (oc_167 28 (aq_4 shX11_moves_24) sgw_0_4) rfl ?_
        refine lv_istore (lv' := [(4, .int 1), (0, .ref (g 0)), (1, .int v0), (2, .int v1), (3, .int v2)]) hx hb dX11_moves_32 hl (ltb rfl) rfl (fun ls hl => ?_)
        refine lv_iload hx hb dX11_moves_34 (lvA0 hl) ?_
        refine lv_if_eq (tgt := 63) hx hb dX11_moves_36 rfl (fun h => absurd h cq_eq_1_0) (fun _ => ?_)
        refine lv_iload_n hx hb (oc_29 39 (aq_15 shX11_moves_24)) rfl (lvA4 hl) ?_
        refine lv_iconst (v := 0) hx hb (oc_3 40 (aq_16 shX11_moves_24)) kic_0 ?_
        refine lv_aload_n hx hb (oc_42 41 (aq_17 shX11_moves_24)) rfl (lvA1 hl) ?_
        refine gf_RX11_103 S hK hP 0 xo_0 (v := .int (nI (cn 0))) rfl (oc_180 42 (aq_18 shX11_moves_24) uw_0_103) ?_
        refine vp_callSi (runS_r (As := [.int v2, .int 0, .int (nI (cn 0))]) (rest := []) S (q_l_within l D cI cB cZ v2 0 (nI (cn 0))) kS_RX11_80 hK hP [] rfl ⟨Nat.le_of_ble_eq_true rfl, Nat.le_of_ble_eq_true rfl⟩ ⟨Nat.le_of_ble_eq_true rfl, Nat.le_of_ble_eq_true rfl⟩ rfl hl.1 rfl (Nat.le_of_ble_eq_true rfl) (oc_184 45 (aq_21 shX11_moves_24) uw_0_80)) (fun r_20 h_21 => ?_)
        have : (nI (cn 0)).toInt = (((cn 0) : Nat) : Int) := nI_toInt (by omega)
        rcases h_21 with ⟨rfl, h_21⟩ | ⟨rfl, h_21⟩
        ·
          have h_21 : 0 ≤ v2.toInt ∧ v2.toInt ≤ (nI (cn 0)).toInt := h_21
          refine lv_if_eq (tgt := 63) hx hb dX11_moves_48 rfl (fun h => absurd h cq_eq_1_0) (fun _ => ?_)
          refine lv_aload_n hx hb (oc_42 51 (aq_3 shX11_moves_48)) rfl (lvA1 hl) ?_
          refine gf_RX11_77 S hK hP 0 xo_0 (v := .ref (g 15)) rfl (oc_180 52 (aq_4 shX11_moves_48) uw_0_77) ?_
          refine vp_callSi (runV_r (As := []) (rest := []) S (q_l_size l D cI cB cZ (g 15) (if (cn 15) = 0 then zz else ad 2 5) (In 15) (nI (cn 15))) kV_RX11_84 hK hP [29] (one_is xo_29) 29 xo_29 rfl rfl ⟨Nat.le_of_ble_eq_true rfl, Nat.le_of_ble_eq_true rfl⟩ ⟨Nat.le_of_ble_eq_true rfl, Nat.le_of_ble_eq_true rfl⟩ rfl hl.1 rfl (Nat.le_of_ble_eq_true rfl) (oc_182 55 (aq_7 shX11_moves_48) uw_0_84)) (fun r_22 h_23 => ?_)
          subst h_23
          refine lv_bipush (v := 60) hx hb (oc_16 58 (aq_10 shX11_moves_48) sgb_60) kbc_60 ?_
          have : (nI (cn 15)).toInt = (((cn 15) : Nat) : Int) := nI_toInt (by omega)
          refine lv_icmp_lt (tgt := 65) hx hb (oc_161 60 (aq_12 shX11_moves_48) sgw_0_5) rfl (fun c_24 => ?_) (fun c_24 => ?_)
          ·
            have tc_24 : ((nI (cn 15)).toInt : Int) < 60 := Int32.lt_iff_toInt_lt.mp c_24
            refine lv_aload_n hx hb (oc_42 65 (aq_17 shX11_moves_48)) rfl (lvA1 hl) ?_
            refine lv_iload_n hx hb (oc_27 66 (aq_18 shX11_moves_48)) rfl (lvA2 hl) ?_
            refine lv_sipush (v := 399) hx hb (oc_17 67 (aq_19 shX11_moves_48) sgw_1_143) (by decide) ?_
            refine va_csq (runV_rxa (As := [.int v0, .int 399]) (rest := []) S (q_XmoveBy l D cI cB cZ zz qq vv bt g ad cn In Fn v0 399 hB) kV_RX11_509 hK hXS hS hP 0 xo_0 rfl rfl ⟨Nat.le_of_ble_eq_true rfl, Nat.le_of_ble_eq_true rfl⟩ ⟨Nat.le_of_ble_eq_true rfl, Nat.le_of_ble_eq_true rfl⟩ rfl hl.1 rfl (Nat.le_of_ble_eq_true rfl) (oc_182 70 (aq_22 shX11_moves_48) uw_1_253)) (fun r_25 h_26 => ?_)
            rcases h_26 with ⟨mr_25, er_25, hr_25, rfl⟩ | ⟨hr_25, rfl⟩
            ·
              refine lv_astore (lv' := [(5, .ref (ad 15 mr_25)), (4, .int 1), (0, .ref (g 0)), (1, .int v0), (2, .int v1), (3, .int v2)]) hx hb dX11_moves_73 hl (ltb rfl) rfl (fun ls hl => ?_)
              refine lv_aload hx hb dX11_moves_75 (lvA0 hl) ?_
              refine lv_ifnull hx hb dX11_moves_77 ?_
              refine lv_iload_n hx hb (oc_29 80 (aq_7 shX11_moves_73)) rfl (lvA5 hl) ?_
              refine lv_aload hx hb (oc_25 81 (aq_8 shX11_moves_73) ub_5) (lvA0 hl) ?_
              refine gf_RX11_508 S hK hP _ (xf_5 (by omega)) (v := .int ((Fn 182) mr_25)) rfl (oc_180 83 (aq_10 shX11_moves_73) uw_1_252) ?_
              refine lv_icmp_ge (tgt := 91) hx hb (oc_162 86 (aq_13 shX11_moves_73) sgw_0_5) rfl (fun c_27 => ?_) (fun c_27 => ?_)
              ·
                have tc_27 : (((Fn 182) mr_25).toInt : Int) ≤ v2.toInt := Int32.le_iff_toInt_le.mp c_27
                refine lv_aload_n hx hb dX11_moves_91 rfl (lvA2 hl) ?_
                refine gf_RX11_77 S hK hP 0 xo_0 (v := .ref (g 15)) rfl dX11_moves_92 ?_
                refine va_new (ci := 4) (fs := [.int 0, .int 0, .int 0]) (C := RX3) (T := TX3) (N := 3) hx hb S.2.2.2.2 hin_RX3 tyX3 tyX3_ok hown (S.2.2.2.2 _ (wk6_3 3 rfl rfl)) (S.2.2.2.2 _ (wk6_3 4 rfl rfl)) (S.2.2.2.2 _ (wk1_2 2 rfl rfl)) hK.1 hP hD hS hA rfl (by decide +kernel) (Nat.le_of_ble_eq_true rfl) (Nat.le_of_ble_eq_true rfl) dX11_moves_95 (fun q95 H hP hD hS => ?_)
                have hP : va_P D vwCl ((wX cI (D.1 99) zz g ad cn In Fn) ++ ([(q95, .inr (4, [.int 0, .int 0, .int 0]))] : va_W)) H := hP
                have hD : va_D A ((wX cI (D.1 99) zz g ad cn In Fn) ++ ([(q95, .inr (4, [.int 0, .int 0, .int 0]))] : va_W)) := hD
                refine lv_dup hx hb dX11_moves_98 rfl ?_
                refine lv_iload_n hx hb dX11_moves_99 rfl (lvA3 hl) ?_
                refine lv_iload_n hx hb dX11_moves_100 rfl (lvA4 hl) ?_
                refine lv_iload_n hx hb dX11_moves_101 rfl (lvA5 hl) ?_
                have hFc := va_free (wc := [(q95, .inr (4, [.int 0, .int 0, .int 0]))]) hD hS hA [_] (one_im (exr (m := 0) rfl))
                refine va_callv (runI_w (As := [.int v0, .int v1, .int v2]) (rest := [.ref q95, .ref (g 15)]) S (q_l_Move l D cI cB cZ q95 v0 v1 v2 H.size) kI_RX11_513 hK hP hD [_] (one_is (exr (m := 0) rfl)) (one_im (exr (m := 0) rfl)) rfl ⟨Nat.le_of_ble_eq_true rfl, Nat.le_of_ble_eq_true rfl⟩ ⟨Nat.le_of_ble_eq_true rfl, Nat.le_of_ble_eq_true rfl⟩ rfl hl.1 rfl (Nat.le_of_ble_eq_true rfl) dX11_moves_102) hS (fun q _ h => hFc q h) hFc (fun u_28 t H1 locs ht hvm h_29 hB1 hz1 hk1 hS => ?_)
                obtain ⟨hP1, hD1⟩ := hB1
                rw [ht] at hP1
                obtain ⟨hP, hD⟩ := exjoin hP hD hk1 hFc hP1 hD1
                generalize H1 = H at hP hS ⊢
                have hP : va_P D vwCl ((wX cI (D.1 99) zz g ad cn In Fn) ++ ([(q95, .inr (4, [.int v0, .int v1, .int v2]))] : va_W)) H := hP
                have hD : va_D A ((wX cI (D.1 99) zz g ad cn In Fn) ++ ([(q95, .inr (4, [.int v0, .int v1, .int v2]))] : va_W)) := hD
                rcases Nat.eq_zero_or_pos (cn 15) with hz0 | hz0
                ·
                  have hi9 : (wX cI (D.1 99) zz g ad cn In Fn)[29]? = _ := xlz_5 hz0
                  have hp2P := pick2P hP (exl hi9) (exr (m := 0) rfl)
                  have hp2D := pick2D hD (exl hi9) (exr (m := 0) rfl) (ne_ex hi9)
                  have hFc := free_all hp2D hS hA
                  refine va_calli (runV_xa (As := [.ref q95]) (rest := []) S (q_l_addZM l D cI cB cZ zz qq vv bt (g 15) q95 (In 15) v0 v1 v2 H.size) kV_RX11_110 hK hXS hS hFc hp2P hp2D 0 rfl rfl rfl ⟨Nat.le_of_ble_eq_true rfl, Nat.le_of_ble_eq_true rfl⟩ ⟨Nat.le_of_ble_eq_true rfl, Nat.le_of_ble_eq_true rfl⟩ rfl hl.1 rfl (Nat.le_of_ble_eq_true rfl) dX11_moves_105) hS (fun q _ h => hFc q h) hFc (fun r29 u29 t H1 locs ht hvm h29 hB1 hz1 hk1 hS => ?_)
                  obtain ⟨hP1, hD1⟩ := hB1
                  rw [ht] at hP1
                  obtain rfl : r29 = 1 := h29
                  obtain ⟨hP, hD⟩ := add0_join hP hD hi9 rfl hk1 hFc hP1 hD1 rfl (xu_5 (z := u29) (c := 10) (y := (In 15) + 1) (q := q95) (x0 := v0) (x1 := v1) (x2 := v2) hz0)
                  have hP : va_P D vwCl (wX cI (D.1 99) zz g (adP ad 15 (cn 15) q95 5 u29) (va_up (va_up cn 15 ((cn 15) + 1)) 25 10) (va_up In 15 ((In 15) + 1)) (va_up (va_up (va_up Fn 180 (upd (Fn 180) (cn 15) v0)) 181 (upd (Fn 181) (cn 15) v1)) 182 (upd (Fn 182) (cn 15) v2))) H1 := hP
                  have hD : va_D A (wX cI (D.1 99) zz g (adP ad 15 (cn 15) q95 5 u29) (va_up (va_up cn 15 ((cn 15) + 1)) 25 10) (va_up In 15 ((In 15) + 1)) (va_up (va_up (va_up Fn 180 (upd (Fn 180) (cn 15) v0)) 181 (upd (Fn 181) (cn 15) v1)) 182 (upd (Fn 182) (cn 15) v2))) := hD
                  generalize H1 = H at hP hS ⊢
                  refine W.widen (k := 2) (n := 103) (Nat.le_of_ble_eq_true rfl) (Nat.le_of_ble_eq_true rfl) ?_
                  refine lv_pop hx hb dX11_moves_108 rfl ?_
                  refine lv_iconst (v := 1) hx hb dX11_moves_109 kic_1 ?_
                  exact W.zret (v := 1) hx hb hr rfl (fun t ht hW => ⟨⟨1, ((adP ad 15 (cn 15) q95 5 u29), (va_up (va_up cn 15 ((cn 15) + 1)) 25 10), (va_up In 15 ((In 15) + 1)), (va_up (va_up (va_up Fn 180 (upd (Fn 180) (cn 15) v0)) 181 (upd (Fn 181) (cn 15) v1)) 182 (upd (Fn 182) (cn 15) v2))), rfl, (Or.inr ⟨rfl, q95, u29, 10, ((In 15) + 1), by omega, ⟨by omega, by omega⟩, rfl, rfl, rfl, rfl⟩), by rw [ht]; exact hP, hD⟩, hS.F ht⟩) hS.2.2 dX11_moves_110
                ·
                  have hi9 : (wX cI (D.1 99) zz g ad cn In Fn)[29]? = _ := xl_5 hz0
                  have hj9 : (wX cI (D.1 99) zz g ad cn In Fn)[_]? = _ := xf_18 (k := 0) (show 0 < min 1 (cn 15) by omega)
                  obtain ⟨ws9, hp1, hp2⟩ := pickG (W := ((wX cI (D.1 99) zz g ad cn In Fn) ++ ([(q95, .inr (4, [.int v0, .int v1, .int v2]))] : va_W))) (exl hi9) (exl hj9) (exr (m := 0) rfl) (xij (by decide)) (ne_ex hi9) (ne_ex hj9)
                  have hP9 := va_P_perm hp1 hP
                  have hD9 := va_D_perm hp1 hD
                  have hFc := free_all hD9 hS hA
                  refine va_calli (runV_xa (As := [.ref q95]) (rest := []) S (q_l_addGM l D cI cB cZ zz qq vv bt (cn 25) (g 15) (ad 2 5) (cn 15) q95 (In 15) (ad 15) v0 v1 v2 ws9 H.size (by omega) (by omega) hz0 (by omega) (fun i hi => ⟨_, g_mem (hp1.mem_iff.mp (List.mem_of_getElem? (exl (xf_5 (k := i) hi)))) (by decide)⟩)) kV_RX11_110 hK hXS hS hFc hP9 hD9 0 rfl rfl rfl ⟨Nat.le_of_ble_eq_true rfl, Nat.le_of_ble_eq_true rfl⟩ ⟨Nat.le_of_ble_eq_true rfl, Nat.le_of_ble_eq_true rfl⟩ rfl hl.1 rfl (Nat.le_of_ble_eq_true rfl) dX11_moves_105) hS (fun q _ h => hFc q h) hFc (fun r29 u29 t H1 locs ht hvm h29 hB1 hz1 hk1 hS => ?_)
                  obtain ⟨hP1, hD1⟩ := hB1
                  rw [ht] at hP1
                  obtain ⟨hr29, h29⟩ := h29
                  obtain rfl : r29 = 1 := hr29
                  obtain ⟨ua29, uc29⟩ := u29
                  have hu29 : cn 15 < uc29 ∧ uc29 ≤ 100 := h29
                  obtain ⟨hP, hD⟩ := addG_join hp2 hi9 hj9 hP1 hD1 hFc (xadd_5 (z := ua29) (c := uc29) (y := (In 15) + 1) (q := q95) (x0 := v0) (x1 := v1) (x2 := v2) hz0)
                  have hP : va_P D vwCl (wX cI (D.1 99) zz g (adP ad 15 (cn 15) q95 5 ua29) (va_up (va_up cn 15 ((cn 15) + 1)) 25 uc29) (va_up In 15 ((In 15) + 1)) (va_up (va_up (va_up Fn 180 (upd (Fn 180) (cn 15) v0)) 181 (upd (Fn 181) (cn 15) v1)) 182 (upd (Fn 182) (cn 15) v2))) H1 := hP
                  have hD : va_D A (wX cI (D.1 99) zz g (adP ad 15 (cn 15) q95 5 ua29) (va_up (va_up cn 15 ((cn 15) + 1)) 25 uc29) (va_up In 15 ((In 15) + 1)) (va_up (va_up (va_up Fn 180 (upd (Fn 180) (cn 15) v0)) 181 (upd (Fn 181) (cn 15) v1)) 182 (upd (Fn 182) (cn 15) v2))) := hD
                  generalize H1 = H at hP hS ⊢
                  refine lv_pop hx hb dX11_moves_108 rfl ?_
                  refine lv_iconst (v := 1) hx hb dX11_moves_109 kic_1 ?_
                  exact W.zret (v := 1) hx hb hr rfl (fun t ht hW => ⟨⟨1, ((adP ad 15 (cn 15) q95 5 ua29), (va_up (va_up cn 15 ((cn 15) + 1)) 25 uc29), (va_up In 15 ((In 15) + 1)), (va_up (va_up (va_up Fn 180 (upd (Fn 180) (cn 15) v0)) 181 (upd (Fn 181) (cn 15) v1)) 182 (upd (Fn 182) (cn 15) v2))), rfl, (Or.inr ⟨rfl, q95, ua29, uc29, ((In 15) + 1), by omega, ⟨by omega, by omega⟩, rfl, rfl, rfl, rfl⟩), by rw [ht]; exact hP, hD⟩, hS.F ht⟩) hS.2.2 dX11_moves_110
              ·
                have tc_27 : (v2.toInt : Int) < ((Fn 182) mr_25).toInt := Int32.lt_iff_toInt_lt.mp (Int32.not_le.mp c_27)
                refine lv_iconst (v := 0) hx hb (oc_3 89 (aq_16 shX11_moves_73)) kic_0 ?_
                refine W.widen (k := 2) (n := 103) (Nat.le_of_ble_eq_true rfl) (Nat.le_of_ble_eq_true rfl) ?_
                exact W.zret (v := 0) hx hb hr rfl (fun t ht hW => ⟨⟨0, (ad, cn, In, Fn), rfl, (Or.inl ⟨rfl, rfl, rfl, rfl, rfl⟩), by rw [ht]; exact hP, hD⟩, hS.F ht⟩) hS.2.2 (oc_172 90 (aq_17 shX11_moves_73))
            ·
              refine lv_astoreN (lv' := [(5, .null), (4, .int 1), (0, .ref (g 0)), (1, .int v0), (2, .int v1), (3, .int v2)]) hx hb dX11_moves_73 hl (ltb rfl) rfl (fun ls hl => ?_)
              refine lv_aloadN hx hb dX11_moves_75 (lvA0 hl) ?_
              refine lv_ifnullN (tgt := 91) hx hb dX11_moves_77 rfl ?_
              refine lv_aload_n hx hb dX11_moves_91 rfl (lvA2 hl) ?_
              refine gf_RX11_77 S hK hP 0 xo_0 (v := .ref (g 15)) rfl dX11_moves_92 ?_
              refine va_new (ci := 4) (fs := [.int 0, .int 0, .int 0]) (C := RX3) (T := TX3) (N := 3) hx hb S.2.2.2.2 hin_RX3 tyX3 tyX3_ok hown (S.2.2.2.2 _ (wk6_3 3 rfl rfl)) (S.2.2.2.2 _ (wk6_3 4 rfl rfl)) (S.2.2.2.2 _ (wk1_2 2 rfl rfl)) hK.1 hP hD hS hA rfl (by decide +kernel) (Nat.le_of_ble_eq_true rfl) (Nat.le_of_ble_eq_true rfl) dX11_moves_95 (fun q95 H hP hD hS => ?_)
              have hP : va_P D vwCl ((wX cI (D.1 99) zz g ad cn In Fn) ++ ([(q95, .inr (4, [.int 0, .int 0, .int 0]))] : va_W)) H := hP
              have hD : va_D A ((wX cI (D.1 99) zz g ad cn In Fn) ++ ([(q95, .inr (4, [.int 0, .int 0, .int 0]))] : va_W)) := hD
              refine lv_dup hx hb dX11_moves_98 rfl ?_
              refine lv_iload_n hx hb dX11_moves_99 rfl (lvA3 hl) ?_
              refine lv_iload_n hx hb dX11_moves_100 rfl (lvA4 hl) ?_
              refine lv_iload_n hx hb dX11_moves_101 rfl (lvA5 hl) ?_
              have hFc := va_free (wc := [(q95, .inr (4, [.int 0, .int 0, .int 0]))]) hD hS hA [_] (one_im (exr (m := 0) rfl))
              refine va_callv (runI_w (As := [.int v0, .int v1, .int v2]) (rest := [.ref q95, .ref (g 15)]) S (q_l_Move l D cI cB cZ q95 v0 v1 v2 H.size) kI_RX11_513 hK hP hD [_] (one_is (exr (m := 0) rfl)) (one_im (exr (m := 0) rfl)) rfl ⟨Nat.le_of_ble_eq_true rfl, Nat.le_of_ble_eq_true rfl⟩ ⟨Nat.le_of_ble_eq_true rfl, Nat.le_of_ble_eq_true rfl⟩ rfl hl.1 rfl (Nat.le_of_ble_eq_true rfl) dX11_moves_102) hS (fun q _ h => hFc q h) hFc (fun u_31 t H1 locs ht hvm h_32 hB1 hz1 hk1 hS => ?_)
              obtain ⟨hP1, hD1⟩ := hB1
              rw [ht] at hP1
              obtain ⟨hP, hD⟩ := exjoin hP hD hk1 hFc hP1 hD1
              generalize H1 = H at hP hS ⊢
              have hP : va_P D vwCl ((wX cI (D.1 99) zz g ad cn In Fn) ++ ([(q95, .inr (4, [.int v0, .int v1, .int v2]))] : va_W)) H := hP
              have hD : va_D A ((wX cI (D.1 99) zz g ad cn In Fn) ++ ([(q95, .inr (4, [.int v0, .int v1, .int v2]))] : va_W)) := hD
              rcases Nat.eq_zero_or_pos (cn 15) with hz0 | hz0
              ·
                have hi9 : (wX cI (D.1 99) zz g ad cn In Fn)[29]? = _ := xlz_5 hz0
                have hp2P := pick2P hP (exl hi9) (exr (m := 0) rfl)
                have hp2D := pick2D hD (exl hi9) (exr (m := 0) rfl) (ne_ex hi9)
                have hFc := free_all hp2D hS hA
                refine va_calli (runV_xa (As := [.ref q95]) (rest := []) S (q_l_addZM l D cI cB cZ zz qq vv bt (g 15) q95 (In 15) v0 v1 v2 H.size) kV_RX11_110 hK hXS hS hFc hp2P hp2D 0 rfl rfl rfl ⟨Nat.le_of_ble_eq_true rfl, Nat.le_of_ble_eq_true rfl⟩ ⟨Nat.le_of_ble_eq_true rfl, Nat.le_of_ble_eq_true rfl⟩ rfl hl.1 rfl (Nat.le_of_ble_eq_true rfl) dX11_moves_105) hS (fun q _ h => hFc q h) hFc (fun r32 u32 t H1 locs ht hvm h32 hB1 hz1 hk1 hS => ?_)
                obtain ⟨hP1, hD1⟩ := hB1
                rw [ht] at hP1
                obtain rfl : r32 = 1 := h32
                obtain ⟨hP, hD⟩ := add0_join hP hD hi9 rfl hk1 hFc hP1 hD1 rfl (xu_5 (z := u32) (c := 10) (y := (In 15) + 1) (q := q95) (x0 := v0) (x1 := v1) (x2 := v2) hz0)
                have hP : va_P D vwCl (wX cI (D.1 99) zz g (adP ad 15 (cn 15) q95 5 u32) (va_up (va_up cn 15 ((cn 15) + 1)) 25 10) (va_up In 15 ((In 15) + 1)) (va_up (va_up (va_up Fn 180 (upd (Fn 180) (cn 15) v0)) 181 (upd (Fn 181) (cn 15) v1)) 182 (upd (Fn 182) (cn 15) v2))) H1 := hP
                have hD : va_D A (wX cI (D.1 99) zz g (adP ad 15 (cn 15) q95 5 u32) (va_up (va_up cn 15 ((cn 15) + 1)) 25 10) (va_up In 15 ((In 15) + 1)) (va_up (va_up (va_up Fn 180 (upd (Fn 180) (cn 15) v0)) 181 (upd (Fn 181) (cn 15) v1)) 182 (upd (Fn 182) (cn 15) v2))) := hD
                generalize H1 = H at hP hS ⊢
                refine W.widen (k := 2) (n := 103) (Nat.le_of_ble_eq_true rfl) (Nat.le_of_ble_eq_true rfl) ?_
                refine lv_pop hx hb dX11_moves_108 rfl ?_
                refine lv_iconst (v := 1) hx hb dX11_moves_109 kic_1 ?_
                exact W.zret (v := 1) hx hb hr rfl (fun t ht hW => ⟨⟨1, ((adP ad 15 (cn 15) q95 5 u32), (va_up (va_up cn 15 ((cn 15) + 1)) 25 10), (va_up In 15 ((In 15) + 1)), (va_up (va_up (va_up Fn 180 (upd (Fn 180) (cn 15) v0)) 181 (upd (Fn 181) (cn 15) v1)) 182 (upd (Fn 182) (cn 15) v2))), rfl, (Or.inr ⟨rfl, q95, u32, 10, ((In 15) + 1), by omega, ⟨by omega, by omega⟩, rfl, rfl, rfl, rfl⟩), by rw [ht]; exact hP, hD⟩, hS.F ht⟩) hS.2.2 dX11_moves_110
              ·
                have hi9 : (wX cI (D.1 99) zz g ad cn In Fn)[29]? = _ := xl_5 hz0
                have hj9 : (wX cI (D.1 99) zz g ad cn In Fn)[_]? = _ := xf_18 (k := 0) (show 0 < min 1 (cn 15) by omega)
                obtain ⟨ws9, hp1, hp2⟩ := pickG (W := ((wX cI (D.1 99) zz g ad cn In Fn) ++ ([(q95, .inr (4, [.int v0, .int v1, .int v2]))] : va_W))) (exl hi9) (exl hj9) (exr (m := 0) rfl) (xij (by decide)) (ne_ex hi9) (ne_ex hj9)
                have hP9 := va_P_perm hp1 hP
                have hD9 := va_D_perm hp1 hD
                have hFc := free_all hD9 hS hA
                refine va_calli (runV_xa (As := [.ref q95]) (rest := []) S (q_l_addGM l D cI cB cZ zz qq vv bt (cn 25) (g 15) (ad 2 5) (cn 15) q95 (In 15) (ad 15) v0 v1 v2 ws9 H.size (by omega) (by omega) hz0 (by omega) (fun i hi => ⟨_, g_mem (hp1.mem_iff.mp (List.mem_of_getElem? (exl (xf_5 (k := i) hi)))) (by decide)⟩)) kV_RX11_110 hK hXS hS hFc hP9 hD9 0 rfl rfl rfl ⟨Nat.le_of_ble_eq_true rfl, Nat.le_of_ble_eq_true rfl⟩ ⟨Nat.le_of_ble_eq_true rfl, Nat.le_of_ble_eq_true rfl⟩ rfl hl.1 rfl (Nat.le_of_ble_eq_true rfl) dX11_moves_105) hS (fun q _ h => hFc q h) hFc (fun r32 u32 t H1 locs ht hvm h32 hB1 hz1 hk1 hS => ?_)
                obtain ⟨hP1, hD1⟩ := hB1
                rw [ht] at hP1
                obtain ⟨hr32, h32⟩ := h32
                obtain rfl : r32 = 1 := hr32
                obtain ⟨ua32, uc32⟩ := u32
                have hu32 : cn 15 < uc32 ∧ uc32 ≤ 100 := h32
                obtain ⟨hP, hD⟩ := addG_join hp2 hi9 hj9 hP1 hD1 hFc (xadd_5 (z := ua32) (c := uc32) (y := (In 15) + 1) (q := q95) (x0 := v0) (x1 := v1) (x2 := v2) hz0)
                have hP : va_P D vwCl (wX cI (D.1 99) zz g (adP ad 15 (cn 15) q95 5 ua32) (va_up (va_up cn 15 ((cn 15) + 1)) 25 uc32) (va_up In 15 ((In 15) + 1)) (va_up (va_up (va_up Fn 180 (upd (Fn 180) (cn 15) v0)) 181 (upd (Fn 181) (cn 15) v1)) 182 (upd (Fn 182) (cn 15) v2))) H1 := hP
                have hD : va_D A (wX cI (D.1 99) zz g (adP ad 15 (cn 15) q95 5 ua32) (va_up (va_up cn 15 ((cn 15) + 1)) 25 uc32) (va_up In 15 ((In 15) + 1)) (va_up (va_up (va_up Fn 180 (upd (Fn 180) (cn 15) v0)) 181 (upd (Fn 181) (cn 15) v1)) 182 (upd (Fn 182) (cn 15) v2))) := hD
                generalize H1 = H at hP hS ⊢
                refine lv_pop hx hb dX11_moves_108 rfl ?_
                refine lv_iconst (v := 1) hx hb dX11_moves_109 kic_1 ?_
                exact W.zret (v := 1) hx hb hr rfl (fun t ht hW => ⟨⟨1, ((adP ad 15 (cn 15) q95 5 ua32), (va_up (va_up cn 15 ((cn 15) + 1)) 25 uc32), (va_up In 15 ((In 15) + 1)), (va_up (va_up (va_up Fn 180 (upd (Fn 180) (cn 15) v0)) 181 (upd (Fn 181) (cn 15) v1)) 182 (upd (Fn 182) (cn 15) v2))), rfl, (Or.inr ⟨rfl, q95, ua32, uc32, ((In 15) + 1), by omega, ⟨by omega, by omega⟩, rfl, rfl, rfl, rfl⟩), by rw [ht]; exact hP, hD⟩, hS.F ht⟩) hS.2.2 dX11_moves_110
          ·
            have tc_24 : (60 : Int) ≤ (nI (cn 15)).toInt := Int32.le_iff_toInt_le.mp (Int32.not_lt.mp c_24)
            refine lv_iconst (v := 0) hx hb dX11_moves_63 kic_0 ?_
            refine W.widen (k := 2) (n := 103) (Nat.le_of_ble_eq_true rfl) (Nat.le_of_ble_eq_true rfl) ?_
            exact W.zret (v := 0) hx hb hr rfl (fun t ht hW => ⟨⟨0, (ad, cn, In, Fn), rfl, (Or.inl ⟨rfl, rfl, rfl, rfl, rfl⟩), by rw [ht]; exact hP, hD⟩, hS.F ht⟩) hS.2.2 dX11_moves_64
        ·
          have h_21 : ¬ (0 ≤ v2.toInt ∧ v2.toInt ≤ (nI (cn 0)).toInt) := h_21
          refine lv_if_eq (tgt := 63) hx hb dX11_moves_48 rfl (fun _ => ?_) (fun h => absurd h cq_eq_0_0)
          refine lv_iconst (v := 0) hx hb dX11_moves_63 kic_0 ?_
          refine W.widen (k := 2) (n := 103) (Nat.le_of_ble_eq_true rfl) (Nat.le_of_ble_eq_true rfl) ?_
          exact W.zret (v := 0) hx hb hr rfl (fun t ht hW => ⟨⟨0, (ad, cn, In, Fn), rfl, (Or.inl ⟨rfl, rfl, rfl, rfl, rfl⟩), by rw [ht]; exact hP, hD⟩, hS.F ht⟩) hS.2.2 dX11_moves_64
      ·
        refine lv_ifnullN (tgt := 31) hx hb (oc_198 24 shX11_moves_24 sgw_0_7) rfl ?_
        refine lv_iconst (v := 0) hx hb (oc_3 31 (aq_7 shX11_moves_24)) kic_0 ?_
        refine lv_istore (lv' := [(4, .int 0), (0, .ref (g 0)), (1, .int v0), (2, .int v1), (3, .int v2)]) hx hb dX11_moves_32 hl (ltb rfl) rfl (fun ls hl => ?_)
        refine lv_iload hx hb dX11_moves_34 (lvA0 hl) ?_
        refine lv_if_eq (tgt := 63) hx hb dX11_moves_36 rfl (fun _ => ?_) (fun h => absurd h cq_eq_0_0)
        refine lv_iconst (v := 0) hx hb dX11_moves_63 kic_0 ?_
        refine W.widen (k := 2) (n := 103) (Nat.le_of_ble_eq_true rfl) (Nat.le_of_ble_eq_true rfl) ?_
        exact W.zret (v := 0) hx hb hr rfl (fun t ht hW => ⟨⟨0, (ad, cn, In, Fn), rfl, (Or.inl ⟨rfl, rfl, rfl, rfl, rfl⟩), by rw [ht]; exact hP, hD⟩, hS.F ht⟩) hS.2.2 dX11_moves_64
  ·
    have h_2 : ¬ (0 ≤ v0.toInt ∧ v0.toInt ≤ ((nI (cn 2)) - 1).toInt) := h_2
    refine lv_if_eq (tgt := 31) hx hb (oc_153 11 (aq_11 shX11_moves_0) sgw_0_20) rfl (fun _ => ?_) (fun h => absurd h cq_eq_0_0)
    refine lv_iconst (v := 0) hx hb (oc_3 31 (aq_7 shX11_moves_24)) kic_0 ?_
    refine lv_istore (lv' := [(4, .int 0), (0, .ref (g 0)), (1, .int v0), (2, .int v1), (3, .int v2)]) hx hb dX11_moves_32 hl (ltb rfl) rfl (fun ls hl => ?_)
    refine lv_iload hx hb dX11_moves_34 (lvA0 hl) ?_
    refine lv_if_eq (tgt := 63) hx hb dX11_moves_36 rfl (fun _ => ?_) (fun h => absurd h cq_eq_0_0)
    refine lv_iconst (v := 0) hx hb dX11_moves_63 kic_0 ?_
    refine W.widen (k := 2) (n := 103) (Nat.le_of_ble_eq_true rfl) (Nat.le_of_ble_eq_true rfl) ?_
    exact W.zret (v := 0) hx hb hr rfl (fun t ht hW => ⟨⟨0, (ad, cn, In, Fn), rfl, (Or.inl ⟨rfl, rfl, rfl, rfl, rfl⟩), by rw [ht]; exact hP, hD⟩, hS.F ht⟩) hS.2.2 dX11_moves_64
set_option maxRecDepth 100000 in
set_option maxHeartbeats 4000000 in
theorem q_Xproof (l : Launch) (D : va_G) (cI cB cZ : ClassId) (zz qq vv : Nat) (bt : Nat → Int32) (g : Nat → Nat) (ad : Nat → Nat → Nat) (cn : Nat → Nat) (In : Nat → Int32) (Fn : Nat → Nat → Int32) (v0 v1 v2 v3 : Int32) (sz : Nat) (hB : CBX cn) : Met l yX11_proof (CWS yX11_proof cX11_proof 6 (some .int)) (RM 8 2 105) (PBx [.ref (g 0), .int v0, .int v1, .int v2, .int v3] D cI cB cZ zz qq vv bt (wX cI (D.1 99) zz g ad cn In Fn) sz) (va_Qi (fun (r : Int32) (u : (Nat → Nat → Nat) × (Nat → Nat) × (Nat → Int32) × (Nat → Nat → Int32)) => (fun r a2 c2 I2 F2 => (r = (-1) ∧ ad = a2 ∧ cn = c2 ∧ In = I2 ∧ Fn = F2) ∨ (r = nI (cn 13) ∧ ∃ (q z c : Nat) (y : Int32) (m : Nat), (v0.toInt = (m : Int) ∧ m < cn 12 ∧ 0 ≤ v1.toInt ∧ v1.toInt < v2.toInt ∧ v2.toInt ≤ (Fn 146 m).toInt ∧ 0 ≤ v3.toInt ∧ v3.toInt ≤ 9 ∧ cn 13 < 40) ∧ (cn 13 < c ∧ c ≤ 100) ∧ (adP ad 13 (cn 13) q 3 z) = a2 ∧ (va_up (va_up cn 13 ((cn 13) + 1)) 23 c) = c2 ∧ (va_up In 13 y) = I2 ∧ (va_up (va_up (va_up (va_up (va_up Fn 160 (upd (Fn 160) (cn 13) v0)) 161 (upd (Fn 161) (cn 13) v1)) 162 (upd (Fn 162) (cn 13) v2)) 163 (upd (Fn 163) (cn 13) v3)) 164 (upd (Fn 164) (cn 13) (nI (cn 0)))) = F2)) r u.1 u.2.1 u.2.2.1 u.2.2.2) (fun (u : (Nat → Nat → Nat) × (Nat → Nat) × (Nat → Int32) × (Nat → Nat → Int32)) (t : State) => va_P D vwCl (wX cI (D.1 99) zz g u.1 u.2.1 u.2.2.1 u.2.2.2) t.heap ∧ va_D (va_A (wX cI (D.1 99) zz g ad cn In Fn) sz) (wX cI (D.1 99) zz g u.1 u.2.1 u.2.2.1 u.2.2.2)) (va_A (wX cI (D.1 99) zz g ad cn In Fn) sz)) 2 105 (va_A (wX cI (D.1 99) zz g ad cn In Fn) sz) := by
  refine en_x (fun A => (va_Qi (fun (r : Int32) (u : (Nat → Nat → Nat) × (Nat → Nat) × (Nat → Int32) × (Nat → Nat → Int32)) => (fun (r : Int32) (a2 : Nat → Nat → Nat) (c2 : Nat → Nat) (I2 : Nat → Int32) (F2 : Nat → Nat → Int32) => (r = (-1) ∧ ad = a2 ∧ cn = c2 ∧ In = I2 ∧ Fn = F2) ∨ (r = nI (cn 13) ∧ ∃ (q z c : Nat) (y : Int32) (m : Nat), (v0.toInt = (m : Int) ∧ m < cn 12 ∧ 0 ≤ v1.toInt ∧ v1.toInt < v2.toInt ∧ v2.toInt ≤ (Fn 146 m).toInt ∧ 0 ≤ v3.toInt ∧ v3.toInt ≤ 9 ∧ cn 13 < 40) ∧ (cn 13 < c ∧ c ≤ 100) ∧ (adP ad 13 (cn 13) q 3 z) = a2 ∧ (va_up (va_up cn 13 ((cn 13) + 1)) 23 c) = c2 ∧ (va_up In 13 y) = I2 ∧ (va_up (va_up (va_up (va_up (va_up Fn 160 (upd (Fn 160) (cn 13) v0)) 161 (upd (Fn 161) (cn 13) v1)) 162 (upd (Fn 162) (cn 13) v2)) 163 (upd (Fn 163) (cn 13) v3)) 164 (upd (Fn 164) (cn 13) (nI (cn 0)))) = F2)) r u.1 u.2.1 u.2.2.1 u.2.2.2) (fun (u : (Nat → Nat → Nat) × (Nat → Nat) × (Nat → Int32) × (Nat → Nat → Int32)) (t : State) => va_P D vwCl (wX cI (D.1 99) zz g u.1 u.2.1 u.2.2.1 u.2.2.2) t.heap ∧ va_D A (wX cI (D.1 99) zz g u.1 u.2.1 u.2.2.1 u.2.2.2)) A)) rfl rfl pn_RX11 (Nat.le_of_ble_eq_true rfl) (fun p e s m below meth c A hx hb hml hown S hr hlocks hnm hA hP hK hD hXS hS ls hl => ?_)
  have hl : lv_has ls 6 [(0, .ref (g 0)), (1, .int v0), (2, .int v1), (3, .int v2), (4, .int v3)] := hl
  refine lv_aload_n hx hb (oc_42 0 shX11_proof_0) rfl (lvA0 hl) ?_
  refine lv_iload_n hx hb (oc_27 1 (aq_1 shX11_proof_0)) rfl (lvA1 hl) ?_
  refine va_csq (runV_rxa (As := [.int v0]) (rest := []) S (q_XbatchAt l D cI cB cZ zz qq vv bt g ad cn In Fn v0 hB) kV_RX11_382 hK hXS hS hP 0 xo_0 rfl rfl ⟨Nat.le_of_ble_eq_true rfl, Nat.le_of_ble_eq_true rfl⟩ ⟨Nat.le_of_ble_eq_true rfl, Nat.le_of_ble_eq_true rfl⟩ rfl hl.1 rfl (Nat.le_of_ble_eq_true rfl) (oc_182 2 (aq_2 shX11_proof_0) uw_1_126)) (fun r_1 h_2 => ?_)
  rcases h_2 with ⟨mr_1, er_1, hr_1, rfl⟩ | ⟨hr_1, rfl⟩
  ·
    refine lv_astore (lv' := [(5, .ref (ad 12 mr_1)), (0, .ref (g 0)), (1, .int v0), (2, .int v1), (3, .int v2), (4, .int v3)]) hx hb (oc_58 5 (aq_5 shX11_proof_0) ub_5) hl (ltb rfl) rfl (fun ls hl => ?_)
    refine lv_aload hx hb (oc_25 7 (aq_7 shX11_proof_0) ub_5) (lvA0 hl) ?_
    refine lv_ifnull hx hb (oc_198 9 (aq_9 shX11_proof_0) sgw_0_44) ?_
    refine lv_iload_n hx hb (oc_28 12 (aq_12 shX11_proof_0)) rfl (lvA3 hl) ?_
    refine lv_if_lt (tgt := 53) hx hb (oc_155 13 (aq_13 shX11_proof_0) sgw_0_40) rfl (fun c_3 => ?_) (fun c_3 => ?_)
    ·
      have tc_3 : (v1.toInt : Int) < 0 := Int32.lt_iff_toInt_lt.mp c_3
      refine lv_iconst (v := (-1)) hx hb dX11_proof_53 kic_m1 ?_
      refine W.widen (k := 2) (n := 105) (Nat.le_of_ble_eq_true rfl) (Nat.le_of_ble_eq_true rfl) ?_
      exact W.iret (v := (-1)) hx hb hr (fun t ht hW => ⟨⟨(-1), (ad, cn, In, Fn), rfl, (Or.inl ⟨rfl, rfl, rfl, rfl, rfl⟩), by rw [ht]; exact hP, hD⟩, hS.F ht⟩) hS.2.2 dX11_proof_54
    ·
      have tc_3 : (0 : Int) ≤ v1.toInt := Int32.le_iff_toInt_le.mp (Int32.not_lt.mp c_3)
      refine lv_iload_n hx hb (oc_28 16 (aq_16 shX11_proof_0)) rfl (lvA3 hl) ?_
      refine lv_iload_n hx hb (oc_29 17 (aq_17 shX11_proof_0)) rfl (lvA4 hl) ?_
      refine lv_icmp_ge (tgt := 53) hx hb (oc_162 18 (aq_18 shX11_proof_0) sgw_0_35) rfl (fun c_4 => ?_) (fun c_4 => ?_)
      ·
        have tc_4 : (v2.toInt : Int) ≤ v1.toInt := Int32.le_iff_toInt_le.mp c_4
        refine lv_iconst (v := (-1)) hx hb dX11_proof_53 kic_m1 ?_
        refine W.widen (k := 2) (n := 105) (Nat.le_of_ble_eq_true rfl) (Nat.le_of_ble_eq_true rfl) ?_
        exact W.iret (v := (-1)) hx hb hr (fun t ht hW => ⟨⟨(-1), (ad, cn, In, Fn), rfl, (Or.inl ⟨rfl, rfl, rfl, rfl, rfl⟩), by rw [ht]; exact hP, hD⟩, hS.F ht⟩) hS.2.2 dX11_proof_54
      ·
        have tc_4 : (v1.toInt : Int) < v2.toInt := Int32.lt_iff_toInt_lt.mp (Int32.not_le.mp c_4)
        refine lv_iload_n hx hb (oc_29 21 (aq_21 shX11_proof_0)) rfl (lvA4 hl) ?_
        refine lv_aload hx hb (oc_25 22 (aq_22 shX11_proof_0) ub_5) (lvA0 hl) ?_
        refine gf_RX11_342 S hK hP _ (xf_2 (by omega)) (v := .int ((Fn 146) mr_1)) rfl (oc_180 24 shX11_proof_24 uw_1_86) ?_
        refine lv_icmp_gt (tgt := 53) hx hb (oc_163 27 (aq_3 shX11_proof_24) sgw_0_26) rfl (fun c_5 => ?_) (fun c_5 => ?_)
        ·
          have tc_5 : (((Fn 146) mr_1).toInt : Int) < v2.toInt := Int32.lt_iff_toInt_lt.mp c_5
          refine lv_iconst (v := (-1)) hx hb dX11_proof_53 kic_m1 ?_
          refine W.widen (k := 2) (n := 105) (Nat.le_of_ble_eq_true rfl) (Nat.le_of_ble_eq_true rfl) ?_
          exact W.iret (v := (-1)) hx hb hr (fun t ht hW => ⟨⟨(-1), (ad, cn, In, Fn), rfl, (Or.inl ⟨rfl, rfl, rfl, rfl, rfl⟩), by rw [ht]; exact hP, hD⟩, hS.F ht⟩) hS.2.2 dX11_proof_54
        ·
          have tc_5 : (v2.toInt : Int) ≤ ((Fn 146) mr_1).toInt := Int32.le_iff_toInt_le.mp (Int32.not_lt.mp c_5)
          refine lv_iload hx hb (oc_21 30 (aq_6 shX11_proof_24) ub_4) (lvA5 hl) ?_
          refine lv_iconst (v := 0) hx hb (oc_3 32 (aq_8 shX11_proof_24)) kic_0 ?_
          refine lv_bipush (v := 9) hx hb (oc_16 33 (aq_9 shX11_proof_24) sgb_9) kbc_9 ?_
          refine vp_callSi (runS_r (As := [.int v3, .int 0, .int 9]) (rest := []) S (q_l_within l D cI cB cZ v3 0 9) kS_RX11_80 hK hP [] rfl ⟨Nat.le_of_ble_eq_true rfl, Nat.le_of_ble_eq_true rfl⟩ ⟨Nat.le_of_ble_eq_true rfl, Nat.le_of_ble_eq_true rfl⟩ rfl hl.1 rfl (Nat.le_of_ble_eq_true rfl) (oc_184 35 (aq_11 shX11_proof_24) uw_0_80)) (fun r_6 h_7 => ?_)
          rcases h_7 with ⟨rfl, h_7⟩ | ⟨rfl, h_7⟩
          ·
            have h_7 : 0 ≤ v3.toInt ∧ v3.toInt ≤ 9 := h_7
            refine lv_if_eq (tgt := 53) hx hb (oc_153 38 (aq_14 shX11_proof_24) sgw_0_15) rfl (fun h => absurd h cq_eq_1_0) (fun _ => ?_)
            refine lv_aload_n hx hb (oc_42 41 (aq_17 shX11_proof_24)) rfl (lvA1 hl) ?_
            refine gf_RX11_71 S hK hP 0 xo_0 (v := .ref (g 13)) rfl (oc_180 42 (aq_18 shX11_proof_24) uw_0_71) ?_
            refine vp_callSi (runV_r (As := []) (rest := []) S (q_l_size l D cI cB cZ (g 13) (if (cn 13) = 0 then zz else ad 2 3) (In 13) (nI (cn 13))) kV_RX11_84 hK hP [27] (one_is xo_27) 27 xo_27 rfl rfl ⟨Nat.le_of_ble_eq_true rfl, Nat.le_of_ble_eq_true rfl⟩ ⟨Nat.le_of_ble_eq_true rfl, Nat.le_of_ble_eq_true rfl⟩ rfl hl.1 rfl (Nat.le_of_ble_eq_true rfl) (oc_182 45 (aq_21 shX11_proof_24) uw_0_84)) (fun r_8 h_9 => ?_)
            subst h_9
            refine lv_bipush (v := 40) hx hb (oc_16 48 shX11_proof_48 sgb_40) kbc_40 ?_
            have : (nI (cn 13)).toInt = (((cn 13) : Nat) : Int) := nI_toInt (by omega)
            refine lv_icmp_lt (tgt := 55) hx hb (oc_161 50 (aq_2 shX11_proof_48) sgw_0_5) rfl (fun c_10 => ?_) (fun c_10 => ?_)
            ·
              have tc_10 : ((nI (cn 13)).toInt : Int) < 40 := Int32.lt_iff_toInt_lt.mp c_10
              refine lv_aload_n hx hb (oc_42 55 (aq_7 shX11_proof_48)) rfl (lvA1 hl) ?_
              refine gf_RX11_71 S hK hP 0 xo_0 (v := .ref (g 13)) rfl (oc_180 56 (aq_8 shX11_proof_48) uw_0_71) ?_
              refine va_new (ci := 5) (fs := [.int 0, .int 0, .int 0, .int 0, .int 0]) (C := RX4) (T := TX4) (N := 5) hx hb S.2.2.2.2 hin_RX4 tyX4 tyX4_ok hown (S.2.2.2.2 _ (wk5_4 7 rfl rfl)) (S.2.2.2.2 _ (wk5_6 0 rfl rfl)) (S.2.2.2.2 _ (wk1_2 0 rfl rfl)) hK.1 hP hD hS hA rfl (by decide +kernel) (Nat.le_of_ble_eq_true rfl) (Nat.le_of_ble_eq_true rfl) (oc_187 59 (aq_11 shX11_proof_48) uw_0_97) (fun q59 H hP hD hS => ?_)
              have hP : va_P D vwCl ((wX cI (D.1 99) zz g ad cn In Fn) ++ ([(q59, .inr (5, [.int 0, .int 0, .int 0, .int 0, .int 0]))] : va_W)) H := hP
              have hD : va_D A ((wX cI (D.1 99) zz g ad cn In Fn) ++ ([(q59, .inr (5, [.int 0, .int 0, .int 0, .int 0, .int 0]))] : va_W)) := hD
              refine lv_dup hx hb (oc_89 62 (aq_14 shX11_proof_48)) rfl ?_
              refine lv_iload_n hx hb (oc_27 63 (aq_15 shX11_proof_48)) rfl (lvA2 hl) ?_
              refine lv_iload_n hx hb (oc_28 64 (aq_16 shX11_proof_48)) rfl (lvA3 hl) ?_
              refine lv_iload_n hx hb (oc_29 65 (aq_17 shX11_proof_48)) rfl (lvA4 hl) ?_
              refine lv_iload hx hb (oc_21 66 (aq_18 shX11_proof_48) ub_4) (lvA5 hl) ?_
              refine lv_aload_n hx hb (oc_42 68 (aq_20 shX11_proof_48)) rfl (lvA1 hl) ?_
              refine gf_RX11_103 S hK hP _ (exl xo_0) (v := .int (nI (cn 0))) rfl (oc_180 69 (aq_21 shX11_proof_48) uw_0_103) ?_
              have hFc := va_free (wc := [(q59, .inr (5, [.int 0, .int 0, .int 0, .int 0, .int 0]))]) hD hS hA [_] (one_im (exr (m := 0) rfl))
              refine va_callv (runI_w (As := [.int v0, .int v1, .int v2, .int v3, .int (nI (cn 0))]) (rest := [.ref q59, .ref (g 13)]) S (q_l_Proof l D cI cB cZ q59 v0 v1 v2 v3 (nI (cn 0)) H.size) kI_RX11_399 hK hP hD [_] (one_is (exr (m := 0) rfl)) (one_im (exr (m := 0) rfl)) rfl ⟨Nat.le_of_ble_eq_true rfl, Nat.le_of_ble_eq_true rfl⟩ ⟨Nat.le_of_ble_eq_true rfl, Nat.le_of_ble_eq_true rfl⟩ rfl hl.1 rfl (Nat.le_of_ble_eq_true rfl) (oc_183 72 shX11_proof_72 uw_1_143)) hS (fun q _ h => hFc q h) hFc (fun u_11 t H1 locs ht hvm h_12 hB1 hz1 hk1 hS => ?_)
              obtain ⟨hP1, hD1⟩ := hB1
              rw [ht] at hP1
              obtain ⟨hP, hD⟩ := exjoin hP hD hk1 hFc hP1 hD1
              generalize H1 = H at hP hS ⊢
              have hP : va_P D vwCl ((wX cI (D.1 99) zz g ad cn In Fn) ++ ([(q59, .inr (5, [.int v0, .int v1, .int v2, .int v3, .int (nI (cn 0))]))] : va_W)) H := hP
              have hD : va_D A ((wX cI (D.1 99) zz g ad cn In Fn) ++ ([(q59, .inr (5, [.int v0, .int v1, .int v2, .int v3, .int (nI (cn 0))]))] : va_W)) := hD
              rcases Nat.eq_zero_or_pos (cn 13) with hz0 | hz0
              ·
                have hi9 : (wX cI (D.1 99) zz g ad cn In Fn)[27]? = _ := xlz_3 hz0
                have hp2P := pick2P hP (exl hi9) (exr (m := 0) rfl)
                have hp2D := pick2D hD (exl hi9) (exr (m := 0) rfl) (ne_ex hi9)
                have hFc := free_all hp2D hS hA
                refine va_calli (runV_xa (As := [.ref q59]) (rest := []) S (q_l_addZP l D cI cB cZ zz qq vv bt (g 13) q59 (In 13) v0 v1 v2 v3 (nI (cn 0)) H.size) kV_RX11_110 hK hXS hS hFc hp2P hp2D 0 rfl rfl rfl ⟨Nat.le_of_ble_eq_true rfl, Nat.le_of_ble_eq_true rfl⟩ ⟨Nat.le_of_ble_eq_true rfl, Nat.le_of_ble_eq_true rfl⟩ rfl hl.1 rfl (Nat.le_of_ble_eq_true rfl) (oc_182 75 (aq_3 shX11_proof_72) uw_0_110)) hS (fun q _ h => hFc q h) hFc (fun r12 u12 t H1 locs ht hvm h12 hB1 hz1 hk1 hS => ?_)
                obtain ⟨hP1, hD1⟩ := hB1
                rw [ht] at hP1
                obtain rfl : r12 = 1 := h12
                obtain ⟨hP, hD⟩ := add0_join hP hD hi9 rfl hk1 hFc hP1 hD1 rfl (xu_3 (z := u12) (c := 10) (y := (In 13) + 1) (q := q59) (x0 := v0) (x1 := v1) (x2 := v2) (x3 := v3) (x4 := (nI (cn 0))) hz0)
                have hP : va_P D vwCl (wX cI (D.1 99) zz g (adP ad 13 (cn 13) q59 3 u12) (va_up (va_up cn 13 ((cn 13) + 1)) 23 10) (va_up In 13 ((In 13) + 1)) (va_up (va_up (va_up (va_up (va_up Fn 160 (upd (Fn 160) (cn 13) v0)) 161 (upd (Fn 161) (cn 13) v1)) 162 (upd (Fn 162) (cn 13) v2)) 163 (upd (Fn 163) (cn 13) v3)) 164 (upd (Fn 164) (cn 13) (nI (cn 0))))) H1 := hP
                have hD : va_D A (wX cI (D.1 99) zz g (adP ad 13 (cn 13) q59 3 u12) (va_up (va_up cn 13 ((cn 13) + 1)) 23 10) (va_up In 13 ((In 13) + 1)) (va_up (va_up (va_up (va_up (va_up Fn 160 (upd (Fn 160) (cn 13) v0)) 161 (upd (Fn 161) (cn 13) v1)) 162 (upd (Fn 162) (cn 13) v2)) 163 (upd (Fn 163) (cn 13) v3)) 164 (upd (Fn 164) (cn 13) (nI (cn 0))))) := hD
                generalize H1 = H at hP hS ⊢
                refine W.widen (k := 2) (n := 105) (Nat.le_of_ble_eq_true rfl) (Nat.le_of_ble_eq_true rfl) ?_
                refine lv_pop hx hb (oc_87 78 (aq_6 shX11_proof_72)) rfl ?_
                refine lv_aload_n hx hb (oc_42 79 (aq_7 shX11_proof_72)) rfl (lvA1 hl) ?_
                refine gf_RX11_71 S hK hP 0 xo_0 (v := .ref (g 13)) rfl (oc_180 80 (aq_8 shX11_proof_72) uw_0_71) ?_
                refine vp_callSi (runV_r (As := []) (rest := []) S (q_l_size l D cI cB cZ (g 13) (if ((cn 13) + 1) = 0 then zz else (adP ad 13 (cn 13) q59 3 u12) 2 3) ((In 13) + 1) (nI ((cn 13) + 1))) kV_RX11_84 hK hP [27] (one_is xo_27) 27 xo_27 rfl rfl ⟨Nat.le_of_ble_eq_true rfl, Nat.le_of_ble_eq_true rfl⟩ ⟨Nat.le_of_ble_eq_true rfl, Nat.le_of_ble_eq_true rfl⟩ rfl hl.1 rfl (Nat.le_of_ble_eq_true rfl) (oc_182 83 (aq_11 shX11_proof_72) uw_0_84)) (fun r_14 h_15 => ?_)
                subst h_15
                refine lv_iconst (v := 1) hx hb (oc_4 86 (aq_14 shX11_proof_72)) kic_1 ?_
                refine lv_isub hx hb (oc_100 87 (aq_15 shX11_proof_72)) ?_
                refine lv_topi (fun y_16 ey_16 => ?_)
                obtain rfl : y_16 = (nI (cn 13)) := ey_16.trans (nI_sub (b := 1) (by omega))
                exact W.iret (v := (nI (cn 13))) hx hb hr (fun t ht hW => ⟨⟨(nI (cn 13)), ((adP ad 13 (cn 13) q59 3 u12), (va_up (va_up cn 13 ((cn 13) + 1)) 23 10), (va_up In 13 ((In 13) + 1)), (va_up (va_up (va_up (va_up (va_up Fn 160 (upd (Fn 160) (cn 13) v0)) 161 (upd (Fn 161) (cn 13) v1)) 162 (upd (Fn 162) (cn 13) v2)) 163 (upd (Fn 163) (cn 13) v3)) 164 (upd (Fn 164) (cn 13) (nI (cn 0))))), rfl, (Or.inr ⟨rfl, q59, u12, 10, ((In 13) + 1), mr_1, by omega, ⟨by omega, by omega⟩, rfl, rfl, rfl, rfl⟩), by rw [ht]; exact hP, hD⟩, hS.F ht⟩) hS.2.2 (oc_172 88 (aq_16 shX11_proof_72))
              ·
                have hi9 : (wX cI (D.1 99) zz g ad cn In Fn)[27]? = _ := xl_3 hz0
                have hj9 : (wX cI (D.1 99) zz g ad cn In Fn)[_]? = _ := xf_16 (k := 0) (show 0 < min 1 (cn 13) by omega)
                obtain ⟨ws9, hp1, hp2⟩ := pickG (W := ((wX cI (D.1 99) zz g ad cn In Fn) ++ ([(q59, .inr (5, [.int v0, .int v1, .int v2, .int v3, .int (nI (cn 0))]))] : va_W))) (exl hi9) (exl hj9) (exr (m := 0) rfl) (xij (by decide)) (ne_ex hi9) (ne_ex hj9)
                have hP9 := va_P_perm hp1 hP
                have hD9 := va_D_perm hp1 hD
                have hFc := free_all hD9 hS hA
                refine va_calli (runV_xa (As := [.ref q59]) (rest := []) S (q_l_addGP l D cI cB cZ zz qq vv bt (cn 23) (g 13) (ad 2 3) (cn 13) q59 (In 13) (ad 13) v0 v1 v2 v3 (nI (cn 0)) ws9 H.size (by omega) (by omega) hz0 (by omega) (fun i hi => ⟨_, g_mem (hp1.mem_iff.mp (List.mem_of_getElem? (exl (xf_3 (k := i) hi)))) (by decide)⟩)) kV_RX11_110 hK hXS hS hFc hP9 hD9 0 rfl rfl rfl ⟨Nat.le_of_ble_eq_true rfl, Nat.le_of_ble_eq_true rfl⟩ ⟨Nat.le_of_ble_eq_true rfl, Nat.le_of_ble_eq_true rfl⟩ rfl hl.1 rfl (Nat.le_of_ble_eq_true rfl) (oc_182 75 (aq_3 shX11_proof_72) uw_0_110)) hS (fun q _ h => hFc q h) hFc (fun r12 u12 t H1 locs ht hvm h12 hB1 hz1 hk1 hS => ?_)
                obtain ⟨hP1, hD1⟩ := hB1
                rw [ht] at hP1
                obtain ⟨hr12, h12⟩ := h12
                obtain rfl : r12 = 1 := hr12
                obtain ⟨ua12, uc12⟩ := u12
                have hu12 : cn 13 < uc12 ∧ uc12 ≤ 100 := h12
                obtain ⟨hP, hD⟩ := addG_join hp2 hi9 hj9 hP1 hD1 hFc (xadd_3 (z := ua12) (c := uc12) (y := (In 13) + 1) (q := q59) (x0 := v0) (x1 := v1) (x2 := v2) (x3 := v3) (x4 := (nI (cn 0))) hz0)
                have hP : va_P D vwCl (wX cI (D.1 99) zz g (adP ad 13 (cn 13) q59 3 ua12) (va_up (va_up cn 13 ((cn 13) + 1)) 23 uc12) (va_up In 13 ((In 13) + 1)) (va_up (va_up (va_up (va_up (va_up Fn 160 (upd (Fn 160) (cn 13) v0)) 161 (upd (Fn 161) (cn 13) v1)) 162 (upd (Fn 162) (cn 13) v2)) 163 (upd (Fn 163) (cn 13) v3)) 164 (upd (Fn 164) (cn 13) (nI (cn 0))))) H1 := hP
                have hD : va_D A (wX cI (D.1 99) zz g (adP ad 13 (cn 13) q59 3 ua12) (va_up (va_up cn 13 ((cn 13) + 1)) 23 uc12) (va_up In 13 ((In 13) + 1)) (va_up (va_up (va_up (va_up (va_up Fn 160 (upd (Fn 160) (cn 13) v0)) 161 (upd (Fn 161) (cn 13) v1)) 162 (upd (Fn 162) (cn 13) v2)) 163 (upd (Fn 163) (cn 13) v3)) 164 (upd (Fn 164) (cn 13) (nI (cn 0))))) := hD
                generalize H1 = H at hP hS ⊢
                refine lv_pop hx hb (oc_87 78 (aq_6 shX11_proof_72)) rfl ?_
                refine lv_aload_n hx hb (oc_42 79 (aq_7 shX11_proof_72)) rfl (lvA1 hl) ?_
                refine gf_RX11_71 S hK hP 0 xo_0 (v := .ref (g 13)) rfl (oc_180 80 (aq_8 shX11_proof_72) uw_0_71) ?_
                refine vp_callSi (runV_r (As := []) (rest := []) S (q_l_size l D cI cB cZ (g 13) (if ((cn 13) + 1) = 0 then zz else (adP ad 13 (cn 13) q59 3 ua12) 2 3) ((In 13) + 1) (nI ((cn 13) + 1))) kV_RX11_84 hK hP [27] (one_is xo_27) 27 xo_27 rfl rfl ⟨Nat.le_of_ble_eq_true rfl, Nat.le_of_ble_eq_true rfl⟩ ⟨Nat.le_of_ble_eq_true rfl, Nat.le_of_ble_eq_true rfl⟩ rfl hl.1 rfl (Nat.le_of_ble_eq_true rfl) (oc_182 83 (aq_11 shX11_proof_72) uw_0_84)) (fun r_17 h_18 => ?_)
                subst h_18
                refine lv_iconst (v := 1) hx hb (oc_4 86 (aq_14 shX11_proof_72)) kic_1 ?_
                refine lv_isub hx hb (oc_100 87 (aq_15 shX11_proof_72)) ?_
                refine lv_topi (fun y_19 ey_19 => ?_)
                obtain rfl : y_19 = (nI (cn 13)) := ey_19.trans (nI_sub (b := 1) (by omega))
                exact W.iret (v := (nI (cn 13))) hx hb hr (fun t ht hW => ⟨⟨(nI (cn 13)), ((adP ad 13 (cn 13) q59 3 ua12), (va_up (va_up cn 13 ((cn 13) + 1)) 23 uc12), (va_up In 13 ((In 13) + 1)), (va_up (va_up (va_up (va_up (va_up Fn 160 (upd (Fn 160) (cn 13) v0)) 161 (upd (Fn 161) (cn 13) v1)) 162 (upd (Fn 162) (cn 13) v2)) 163 (upd (Fn 163) (cn 13) v3)) 164 (upd (Fn 164) (cn 13) (nI (cn 0))))), rfl, (Or.inr ⟨rfl, q59, ua12, uc12, ((In 13) + 1), mr_1, by omega, ⟨by omega, by omega⟩, rfl, rfl, rfl, rfl⟩), by rw [ht]; exact hP, hD⟩, hS.F ht⟩) hS.2.2 (oc_172 88 (aq_16 shX11_proof_72))
            ·
              have tc_10 : (40 : Int) ≤ (nI (cn 13)).toInt := Int32.le_iff_toInt_le.mp (Int32.not_lt.mp c_10)
              refine lv_iconst (v := (-1)) hx hb dX11_proof_53 kic_m1 ?_
              refine W.widen (k := 2) (n := 105) (Nat.le_of_ble_eq_true rfl) (Nat.le_of_ble_eq_true rfl) ?_
              exact W.iret (v := (-1)) hx hb hr (fun t ht hW => ⟨⟨(-1), (ad, cn, In, Fn), rfl, (Or.inl ⟨rfl, rfl, rfl, rfl, rfl⟩), by rw [ht]; exact hP, hD⟩, hS.F ht⟩) hS.2.2 dX11_proof_54
          ·
            have h_7 : ¬ (0 ≤ v3.toInt ∧ v3.toInt ≤ 9) := h_7
            refine lv_if_eq (tgt := 53) hx hb (oc_153 38 (aq_14 shX11_proof_24) sgw_0_15) rfl (fun _ => ?_) (fun h => absurd h cq_eq_0_0)
            refine lv_iconst (v := (-1)) hx hb dX11_proof_53 kic_m1 ?_
            refine W.widen (k := 2) (n := 105) (Nat.le_of_ble_eq_true rfl) (Nat.le_of_ble_eq_true rfl) ?_
            exact W.iret (v := (-1)) hx hb hr (fun t ht hW => ⟨⟨(-1), (ad, cn, In, Fn), rfl, (Or.inl ⟨rfl, rfl, rfl, rfl, rfl⟩), by rw [ht]; exact hP, hD⟩, hS.F ht⟩) hS.2.2 dX11_proof_54
  ·
    refine lv_astoreN (lv' := [(5, .null), (0, .ref (g 0)), (1, .int v0), (2, .int v1), (3, .int v2), (4, .int v3)]) hx hb (oc_58 5 (aq_5 shX11_proof_0) ub_5) hl (ltb rfl) rfl (fun ls hl => ?_)
    refine lv_aloadN hx hb (oc_25 7 (aq_7 shX11_proof_0) ub_5) (lvA0 hl) ?_
    refine lv_ifnullN (tgt := 53) hx hb (oc_198 9 (aq_9 shX11_proof_0) sgw_0_44) rfl ?_
    refine lv_iconst (v := (-1)) hx hb dX11_proof_53 kic_m1 ?_
    refine W.widen (k := 2) (n := 105) (Nat.le_of_ble_eq_true rfl) (Nat.le_of_ble_eq_true rfl) ?_
    exact W.iret (v := (-1)) hx hb hr (fun t ht hW => ⟨⟨(-1), (ad, cn, In, Fn), rfl, (Or.inl ⟨rfl, rfl, rfl, rfl, rfl⟩), by rw [ht]; exact hP, hD⟩, hS.F ht⟩) hS.2.2 dX11_proof_54
end

section
set_option maxRecDepth 100000 in
theorem kV_RX0_17 : CalV RX0 17 yX0_has cX0_has 2 (some .boolean) 1 := ⟨⟨wk5_1 2 rfl rfl, wk5_1 3 rfl rfl, wk5_1 4 rfl rfl, wk1_1 11 rfl rfl, wk5_1 5 rfl rfl⟩, ⟨nmh_1.1, nmh_1.2, pd_15⟩⟩
set_option maxRecDepth 100000 in
theorem pf_RX0_13 {p : Program} {l : Launch} {e : Env} {R : Room} {s : State} {m : MethodId} {args : Array Value} {below : List Frame} {meth : Method} {c : Code} {H : Heap} {locs : List Loc} {cells slots : Nat} {Q : State → Prop} {cc : ByteArray} {nL pc : Nat} {D : va_G} {cI cB cZ : ClassId} {ws : va_W} {rest : List Value} {ls : Array Slot} {a : Nat} {fs : List Value} {v : Value} {A : Nat → Prop} {H0 : Heap} (S : SF p m c cc nL s args RX0) (hK : KK D cI cB cZ s) (hP : va_P D vwCl ws H) (hD : va_D A ws) (hS : va_S A H0 H locs) (q0 : Nat) (he : ws[q0]? = some (a, .inr (1, fs))) (hl : 4 < fs.length) (hn : narrow (tyX0 4) v = v) (hfit : fits (tyX0 4) v = true) (hdg : decode cc pc = .ok (.putfield 13, 3)) (kk : ∀ (H1 : Heap) (locs1 : List Loc), va_P D vwCl (ws.set q0 (a, .inr (1, fs.set 4 v))) H1 → va_D A (ws.set q0 (a, .inr (1, fs.set 4 v))) → va_S A H0 H1 locs1 → W p l e R s m args below meth c H1 locs1 cells slots Q (F0 m (pc + 3) ls rest)) : W p l e R s m args below meth c H locs cells slots Q (F0 m pc ls (v :: .ref a :: rest)) :=
  va_put (C := RX0) (T := TX0) (N := 8) S.1 S.2.1 S.2.2.2.2 hin_RX0 tyX0 tyX0_ok nmX0 S.2.2.2.1 hK.1 hP hD hS q0 he rfl 4 (by decide) (S.2.2.2.2 _ (wk4_18 6 rfl rfl)) (fun _ h9 => h9) rfl (tyX0_ok 4 (by decide)) hn hfit hl hdg kk
set_option maxRecDepth 100000 in
theorem gf_RX0_21 {p : Program} {l : Launch} {e : Env} {R : Room} {s : State} {m : MethodId} {args : Array Value} {below : List Frame} {meth : Method} {c : Code} {H : Heap} {locs : List Loc} {cells slots : Nat} {Q : State → Prop} {cc : ByteArray} {nL pc : Nat} {D : va_G} {cI cB cZ : ClassId} {ws : va_W} {rest : List Value} {ls : Array Slot} {a : Nat} {fs : List Value} {v : Value} (S : SF p m c cc nL s args RX0) (hK : KK D cI cB cZ s) (hP : va_P D vwCl ws H) (q0 : Nat) (he : ws[q0]? = some (a, .inr (1, fs))) (hv : fs[5]? = some v) (hdg : decode cc pc = .ok (.getfield 21, 3)) (kk : W p l e R s m args below meth c H locs cells slots Q (F0 m (pc + 3) ls (v :: rest))) : W p l e R s m args below meth c H locs cells slots Q (F0 m pc ls (.ref a :: rest)) :=
  va_get (C := RX0) (T := TX0) (N := 8) S.1 S.2.1 S.2.2.2.2 hin_RX0 S.2.2.2.1 hK.1 hP q0 he rfl 5 (by decide) (S.2.2.2.2 _ (wk4_18 8 rfl rfl)) (fun _ h9 => h9) hv hdg kk
set_option maxRecDepth 100000 in
theorem pf_RX0_21 {p : Program} {l : Launch} {e : Env} {R : Room} {s : State} {m : MethodId} {args : Array Value} {below : List Frame} {meth : Method} {c : Code} {H : Heap} {locs : List Loc} {cells slots : Nat} {Q : State → Prop} {cc : ByteArray} {nL pc : Nat} {D : va_G} {cI cB cZ : ClassId} {ws : va_W} {rest : List Value} {ls : Array Slot} {a : Nat} {fs : List Value} {v : Value} {A : Nat → Prop} {H0 : Heap} (S : SF p m c cc nL s args RX0) (hK : KK D cI cB cZ s) (hP : va_P D vwCl ws H) (hD : va_D A ws) (hS : va_S A H0 H locs) (q0 : Nat) (he : ws[q0]? = some (a, .inr (1, fs))) (hl : 5 < fs.length) (hn : narrow (tyX0 5) v = v) (hfit : fits (tyX0 5) v = true) (hdg : decode cc pc = .ok (.putfield 21, 3)) (kk : ∀ (H1 : Heap) (locs1 : List Loc), va_P D vwCl (ws.set q0 (a, .inr (1, fs.set 5 v))) H1 → va_D A (ws.set q0 (a, .inr (1, fs.set 5 v))) → va_S A H0 H1 locs1 → W p l e R s m args below meth c H1 locs1 cells slots Q (F0 m (pc + 3) ls rest)) : W p l e R s m args below meth c H locs cells slots Q (F0 m pc ls (v :: .ref a :: rest)) :=
  va_put (C := RX0) (T := TX0) (N := 8) S.1 S.2.1 S.2.2.2.2 hin_RX0 tyX0 tyX0_ok nmX0 S.2.2.2.1 hK.1 hP hD hS q0 he rfl 5 (by decide) (S.2.2.2.2 _ (wk4_18 8 rfl rfl)) (fun _ h9 => h9) rfl (tyX0_ok 5 (by decide)) hn hfit hl hdg kk
set_option maxRecDepth 100000 in
theorem gf_RX0_27 {p : Program} {l : Launch} {e : Env} {R : Room} {s : State} {m : MethodId} {args : Array Value} {below : List Frame} {meth : Method} {c : Code} {H : Heap} {locs : List Loc} {cells slots : Nat} {Q : State → Prop} {cc : ByteArray} {nL pc : Nat} {D : va_G} {cI cB cZ : ClassId} {ws : va_W} {rest : List Value} {ls : Array Slot} {a : Nat} {fs : List Value} {v : Value} (S : SF p m c cc nL s args RX0) (hK : KK D cI cB cZ s) (hP : va_P D vwCl ws H) (q0 : Nat) (he : ws[q0]? = some (a, .inr (3, fs))) (hv : fs[2]? = some v) (hdg : decode cc pc = .ok (.getfield 27, 3)) (kk : W p l e R s m args below meth c H locs cells slots Q (F0 m (pc + 3) ls (v :: rest))) : W p l e R s m args below meth c H locs cells slots Q (F0 m pc ls (.ref a :: rest)) :=
  va_get (C := RX2) (T := TX2) (N := 10) S.1 S.2.1 S.2.2.2.2 hin_RX2 S.2.2.2.1 hK.1 hP q0 he rfl 2 (by decide) (S.2.2.2.2 _ (wk2_17 11 rfl rfl)) (fun _ h9 => h9) hv hdg kk
set_option maxRecDepth 100000 in
theorem pf_RX0_24 {p : Program} {l : Launch} {e : Env} {R : Room} {s : State} {m : MethodId} {args : Array Value} {below : List Frame} {meth : Method} {c : Code} {H : Heap} {locs : List Loc} {cells slots : Nat} {Q : State → Prop} {cc : ByteArray} {nL pc : Nat} {D : va_G} {cI cB cZ : ClassId} {ws : va_W} {rest : List Value} {ls : Array Slot} {a : Nat} {fs : List Value} {v : Value} {A : Nat → Prop} {H0 : Heap} (S : SF p m c cc nL s args RX0) (hK : KK D cI cB cZ s) (hP : va_P D vwCl ws H) (hD : va_D A ws) (hS : va_S A H0 H locs) (q0 : Nat) (he : ws[q0]? = some (a, .inr (1, fs))) (hl : 6 < fs.length) (hn : narrow (tyX0 6) v = v) (hfit : fits (tyX0 6) v = true) (hdg : decode cc pc = .ok (.putfield 24, 3)) (kk : ∀ (H1 : Heap) (locs1 : List Loc), va_P D vwCl (ws.set q0 (a, .inr (1, fs.set 6 v))) H1 → va_D A (ws.set q0 (a, .inr (1, fs.set 6 v))) → va_S A H0 H1 locs1 → W p l e R s m args below meth c H1 locs1 cells slots Q (F0 m (pc + 3) ls rest)) : W p l e R s m args below meth c H locs cells slots Q (F0 m pc ls (v :: .ref a :: rest)) :=
  va_put (C := RX0) (T := TX0) (N := 8) S.1 S.2.1 S.2.2.2.2 hin_RX0 tyX0 tyX0_ok nmX0 S.2.2.2.1 hK.1 hP hD hS q0 he rfl 6 (by decide) (S.2.2.2.2 _ (wk4_18 10 rfl rfl)) (fun _ h9 => h9) rfl (tyX0_ok 6 (by decide)) hn hfit hl hdg kk
set_option maxRecDepth 100000 in
theorem gf_RX0_33 {p : Program} {l : Launch} {e : Env} {R : Room} {s : State} {m : MethodId} {args : Array Value} {below : List Frame} {meth : Method} {c : Code} {H : Heap} {locs : List Loc} {cells slots : Nat} {Q : State → Prop} {cc : ByteArray} {nL pc : Nat} {D : va_G} {cI cB cZ : ClassId} {ws : va_W} {rest : List Value} {ls : Array Slot} {a : Nat} {fs : List Value} {v : Value} (S : SF p m c cc nL s args RX0) (hK : KK D cI cB cZ s) (hP : va_P D vwCl ws H) (q0 : Nat) (he : ws[q0]? = some (a, .inr (3, fs))) (hv : fs[3]? = some v) (hdg : decode cc pc = .ok (.getfield 33, 3)) (kk : W p l e R s m args below meth c H locs cells slots Q (F0 m (pc + 3) ls (v :: rest))) : W p l e R s m args below meth c H locs cells slots Q (F0 m pc ls (.ref a :: rest)) :=
  va_get (C := RX2) (T := TX2) (N := 10) S.1 S.2.1 S.2.2.2.2 hin_RX2 S.2.2.2.1 hK.1 hP q0 he rfl 3 (by decide) (S.2.2.2.2 _ (wk2_18 2 rfl rfl)) (fun _ h9 => h9) hv hdg kk
set_option maxRecDepth 100000 in
theorem pf_RX0_30 {p : Program} {l : Launch} {e : Env} {R : Room} {s : State} {m : MethodId} {args : Array Value} {below : List Frame} {meth : Method} {c : Code} {H : Heap} {locs : List Loc} {cells slots : Nat} {Q : State → Prop} {cc : ByteArray} {nL pc : Nat} {D : va_G} {cI cB cZ : ClassId} {ws : va_W} {rest : List Value} {ls : Array Slot} {a : Nat} {fs : List Value} {v : Value} {A : Nat → Prop} {H0 : Heap} (S : SF p m c cc nL s args RX0) (hK : KK D cI cB cZ s) (hP : va_P D vwCl ws H) (hD : va_D A ws) (hS : va_S A H0 H locs) (q0 : Nat) (he : ws[q0]? = some (a, .inr (1, fs))) (hl : 1 < fs.length) (hn : narrow (tyX0 1) v = v) (hfit : fits (tyX0 1) v = true) (hdg : decode cc pc = .ok (.putfield 30, 3)) (kk : ∀ (H1 : Heap) (locs1 : List Loc), va_P D vwCl (ws.set q0 (a, .inr (1, fs.set 1 v))) H1 → va_D A (ws.set q0 (a, .inr (1, fs.set 1 v))) → va_S A H0 H1 locs1 → W p l e R s m args below meth c H1 locs1 cells slots Q (F0 m (pc + 3) ls rest)) : W p l e R s m args below meth c H locs cells slots Q (F0 m pc ls (v :: .ref a :: rest)) :=
  va_put (C := RX0) (T := TX0) (N := 8) S.1 S.2.1 S.2.2.2.2 hin_RX0 tyX0 tyX0_ok nmX0 S.2.2.2.1 hK.1 hP hD hS q0 he rfl 1 (by decide) (S.2.2.2.2 _ (wk4_18 2 rfl rfl)) (fun _ h9 => h9) rfl (tyX0_ok 1 (by decide)) hn hfit hl hdg kk
set_option maxRecDepth 100000 in
theorem gf_RX0_39 {p : Program} {l : Launch} {e : Env} {R : Room} {s : State} {m : MethodId} {args : Array Value} {below : List Frame} {meth : Method} {c : Code} {H : Heap} {locs : List Loc} {cells slots : Nat} {Q : State → Prop} {cc : ByteArray} {nL pc : Nat} {D : va_G} {cI cB cZ : ClassId} {ws : va_W} {rest : List Value} {ls : Array Slot} {a : Nat} {fs : List Value} {v : Value} (S : SF p m c cc nL s args RX0) (hK : KK D cI cB cZ s) (hP : va_P D vwCl ws H) (q0 : Nat) (he : ws[q0]? = some (a, .inr (3, fs))) (hv : fs[4]? = some v) (hdg : decode cc pc = .ok (.getfield 39, 3)) (kk : W p l e R s m args below meth c H locs cells slots Q (F0 m (pc + 3) ls (v :: rest))) : W p l e R s m args below meth c H locs cells slots Q (F0 m pc ls (.ref a :: rest)) :=
  va_get (C := RX2) (T := TX2) (N := 10) S.1 S.2.1 S.2.2.2.2 hin_RX2 S.2.2.2.1 hK.1 hP q0 he rfl 4 (by decide) (S.2.2.2.2 _ (wk2_18 5 rfl rfl)) (fun _ h9 => h9) hv hdg kk
set_option maxRecDepth 100000 in
theorem pf_RX0_36 {p : Program} {l : Launch} {e : Env} {R : Room} {s : State} {m : MethodId} {args : Array Value} {below : List Frame} {meth : Method} {c : Code} {H : Heap} {locs : List Loc} {cells slots : Nat} {Q : State → Prop} {cc : ByteArray} {nL pc : Nat} {D : va_G} {cI cB cZ : ClassId} {ws : va_W} {rest : List Value} {ls : Array Slot} {a : Nat} {fs : List Value} {v : Value} {A : Nat → Prop} {H0 : Heap} (S : SF p m c cc nL s args RX0) (hK : KK D cI cB cZ s) (hP : va_P D vwCl ws H) (hD : va_D A ws) (hS : va_S A H0 H locs) (q0 : Nat) (he : ws[q0]? = some (a, .inr (1, fs))) (hl : 2 < fs.length) (hn : narrow (tyX0 2) v = v) (hfit : fits (tyX0 2) v = true) (hdg : decode cc pc = .ok (.putfield 36, 3)) (kk : ∀ (H1 : Heap) (locs1 : List Loc), va_P D vwCl (ws.set q0 (a, .inr (1, fs.set 2 v))) H1 → va_D A (ws.set q0 (a, .inr (1, fs.set 2 v))) → va_S A H0 H1 locs1 → W p l e R s m args below meth c H1 locs1 cells slots Q (F0 m (pc + 3) ls rest)) : W p l e R s m args below meth c H locs cells slots Q (F0 m pc ls (v :: .ref a :: rest)) :=
  va_put (C := RX0) (T := TX0) (N := 8) S.1 S.2.1 S.2.2.2.2 hin_RX0 tyX0 tyX0_ok nmX0 S.2.2.2.1 hK.1 hP hD hS q0 he rfl 2 (by decide) (S.2.2.2.2 _ (wk4_18 3 rfl rfl)) (fun _ h9 => h9) rfl (tyX0_ok 2 (by decide)) hn hfit hl hdg kk
set_option maxRecDepth 100000 in
theorem kV_RX11_354 : CalV RX11 354 yX11_canBeBatched cX11_canBeBatched 2 (some .boolean) 1 := ⟨⟨wk5_0 6 rfl rfl, wk5_0 8 rfl rfl, wT_sel 44 _ rfl rfl rfl, wk1_0 1 rfl rfl, wk5_0 9 rfl rfl⟩, ⟨nmh_0.1, nmh_0.2, pd_52⟩⟩
set_option maxRecDepth 100000 in
theorem kV_RX11_358 : CalV RX11 358 yX0_flip cX0_flip 4 none 2 := ⟨⟨wk5_0 10 rfl rfl, wk5_0 11 rfl rfl, wk5_1 0 rfl rfl, wk1_1 11 rfl rfl, wk5_1 1 rfl rfl⟩, ⟨nmh_1.1, nmh_1.2, pd_42⟩⟩
set_option maxRecDepth 100000 in
theorem gf_RX11_347 {p : Program} {l : Launch} {e : Env} {R : Room} {s : State} {m : MethodId} {args : Array Value} {below : List Frame} {meth : Method} {c : Code} {H : Heap} {locs : List Loc} {cells slots : Nat} {Q : State → Prop} {cc : ByteArray} {nL pc : Nat} {D : va_G} {cI cB cZ : ClassId} {ws : va_W} {rest : List Value} {ls : Array Slot} {a : Nat} {fs : List Value} {v : Value} (S : SF p m c cc nL s args RX11) (hK : KK D cI cB cZ s) (hP : va_P D vwCl ws H) (q0 : Nat) (he : ws[q0]? = some (a, .inr (1, fs))) (hv : fs[5]? = some v) (hdg : decode cc pc = .ok (.getfield 347, 3)) (kk : W p l e R s m args below meth c H locs cells slots Q (F0 m (pc + 3) ls (v :: rest))) : W p l e R s m args below meth c H locs cells slots Q (F0 m pc ls (.ref a :: rest)) :=
  va_get (C := RX0) (T := TX0) (N := 8) S.1 S.2.1 S.2.2.2.2 hin_RX0 S.2.2.2.1 hK.1 hP q0 he rfl 5 (by decide) (S.2.2.2.2 _ (wk4_18 9 rfl rfl)) (fun _ h9 => h9) hv hdg kk
set_option maxRecDepth 100000 in
theorem pf_RX11_381 {p : Program} {l : Launch} {e : Env} {R : Room} {s : State} {m : MethodId} {args : Array Value} {below : List Frame} {meth : Method} {c : Code} {H : Heap} {locs : List Loc} {cells slots : Nat} {Q : State → Prop} {cc : ByteArray} {nL pc : Nat} {D : va_G} {cI cB cZ : ClassId} {ws : va_W} {rest : List Value} {ls : Array Slot} {a : Nat} {fs : List Value} {v : Value} {A : Nat → Prop} {H0 : Heap} (S : SF p m c cc nL s args RX11) (hK : KK D cI cB cZ s) (hP : va_P D vwCl ws H) (hD : va_D A ws) (hS : va_S A H0 H locs) (q0 : Nat) (he : ws[q0]? = some (a, .inr (1, fs))) (hl : 7 < fs.length) (hn : narrow (tyX0 7) v = v) (hfit : fits (tyX0 7) v = true) (hdg : decode cc pc = .ok (.putfield 381, 3)) (kk : ∀ (H1 : Heap) (locs1 : List Loc), va_P D vwCl (ws.set q0 (a, .inr (1, fs.set 7 v))) H1 → va_D A (ws.set q0 (a, .inr (1, fs.set 7 v))) → va_S A H0 H1 locs1 → W p l e R s m args below meth c H1 locs1 cells slots Q (F0 m (pc + 3) ls rest)) : W p l e R s m args below meth c H locs cells slots Q (F0 m pc ls (v :: .ref a :: rest)) :=
  va_put (C := RX0) (T := TX0) (N := 8) S.1 S.2.1 S.2.2.2.2 hin_RX0 tyX0 tyX0_ok nmX0 S.2.2.2.1 hK.1 hP hD hS q0 he rfl 7 (by decide) (S.2.2.2.2 _ (wk4_19 0 rfl rfl)) (fun _ h9 => h9) rfl (tyX0_ok 7 (by decide)) hn hfit hl hdg kk
set_option maxRecDepth 100000 in
theorem pf_RX11_349 {p : Program} {l : Launch} {e : Env} {R : Room} {s : State} {m : MethodId} {args : Array Value} {below : List Frame} {meth : Method} {c : Code} {H : Heap} {locs : List Loc} {cells slots : Nat} {Q : State → Prop} {cc : ByteArray} {nL pc : Nat} {D : va_G} {cI cB cZ : ClassId} {ws : va_W} {rest : List Value} {ls : Array Slot} {a : Nat} {fs : List Value} {v : Value} {A : Nat → Prop} {H0 : Heap} (S : SF p m c cc nL s args RX11) (hK : KK D cI cB cZ s) (hP : va_P D vwCl ws H) (hD : va_D A ws) (hS : va_S A H0 H locs) (q0 : Nat) (he : ws[q0]? = some (a, .inr (3, fs))) (hl : 9 < fs.length) (hn : narrow (tyX2 9) v = v) (hfit : fits (tyX2 9) v = true) (hdg : decode cc pc = .ok (.putfield 349, 3)) (kk : ∀ (H1 : Heap) (locs1 : List Loc), va_P D vwCl (ws.set q0 (a, .inr (3, fs.set 9 v))) H1 → va_D A (ws.set q0 (a, .inr (3, fs.set 9 v))) → va_S A H0 H1 locs1 → W p l e R s m args below meth c H1 locs1 cells slots Q (F0 m (pc + 3) ls rest)) : W p l e R s m args below meth c H locs cells slots Q (F0 m pc ls (v :: .ref a :: rest)) :=
  va_put (C := RX2) (T := TX2) (N := 10) S.1 S.2.1 S.2.2.2.2 hin_RX2 tyX2 tyX2_ok nmX2 S.2.2.2.1 hK.1 hP hD hS q0 he rfl 9 (by decide) (S.2.2.2.2 _ (wk2_19 0 rfl rfl)) (fun _ h9 => h9) rfl (tyX2_ok 9 (by decide)) hn hfit hl hdg kk
set_option maxRecDepth 100000 in
theorem kV_RX11_363 : CalV RX11 363 yX11_mixed cX11_mixed 5 (some (.object "OilHome$Batch")) 1 := ⟨⟨wk4_17 3 rfl rfl, wk4_17 5 rfl rfl, wT_sel 43 _ rfl rfl rfl, wk1_0 1 rfl rfl, wk4_17 6 rfl rfl⟩, ⟨nmh_0.1, nmh_0.2, pd_9⟩⟩
set_option maxRecDepth 100000 in
theorem kV_RX11_367 : CalV RX11 367 yX11_lettersOfLaw cX11_lettersOfLaw 1 none 0 := ⟨⟨wk5_1 6 rfl rfl, wk5_1 8 rfl rfl, wT_sel 45 _ rfl rfl rfl, wk1_0 1 rfl rfl, wk5_1 9 rfl rfl⟩, ⟨nmh_0.1, nmh_0.2, pd_2⟩⟩
set_option maxRecDepth 100000 in
theorem kV_RX11_370 : CalV RX11 370 yX11_brokenClause cX11_brokenClause 2 (some .int) 1 := ⟨⟨wk5_1 10 rfl rfl, wk5_2 0 rfl rfl, wT_sel 46 _ rfl rfl rfl, wk1_0 1 rfl rfl, wk5_2 1 rfl rfl⟩, ⟨nmh_0.1, nmh_0.2, pd_46⟩⟩
set_option maxRecDepth 100000 in
theorem kV_RX11_374 : CalV RX11 374 yX11_keep cX11_keep 4 none 1 := ⟨⟨wk5_2 10 rfl rfl, wk5_3 0 rfl rfl, wT_sel 47 _ rfl rfl rfl, wk1_0 1 rfl rfl, wk5_3 1 rfl rfl⟩, ⟨nmh_0.1, nmh_0.2, pd_47⟩⟩
set_option maxRecDepth 100000 in
theorem kV_RX11_391 : CalV RX11 391 yX11_gatherBlendable cX11_gatherBlendable 4 (some .int) 1 := ⟨⟨wk5_5 0 rfl rfl, wk5_5 2 rfl rfl, wT_sel 51 _ rfl rfl rfl, wk1_0 1 rfl rfl, wk5_5 3 rfl rfl⟩, ⟨nmh_0.1, nmh_0.2, pd_65⟩⟩
set_option maxRecDepth 100000 in
theorem kV_RX11_395 : CalV RX11 395 yX11_flipTo cX11_flipTo 7 none 3 := ⟨⟨wk5_5 4 rfl rfl, wk5_5 6 rfl rfl, wT_sel 52 _ rfl rfl rfl, wk1_0 1 rfl rfl, wk5_5 7 rfl rfl⟩, ⟨nmh_0.1, nmh_0.2, pd_48⟩⟩
noncomputable def sxX0_flip_92 : List UInt8 := []
noncomputable def sxX0_flip_76 : List UInt8 := 29 :: 44 :: 180 :: 0 :: 27 :: 104 :: 44 :: 180 :: 0 :: 39 :: 104 :: 96 :: 181 :: 0 :: 36 :: 177 :: sxX0_flip_92
noncomputable def sxX0_flip_51 : List UInt8 := 42 :: 89 :: 180 :: 0 :: 30 :: 29 :: 44 :: 180 :: 0 :: 27 :: 104 :: 44 :: 180 :: 0 :: 33 :: 104 :: 96 :: 181 :: 0 :: 30 :: 42 :: 89 :: 180 :: 0 :: 36 :: sxX0_flip_76
noncomputable def sxX0_flip_26 : List UInt8 := 42 :: 89 :: 180 :: 0 :: 21 :: 29 :: 96 :: 181 :: 0 :: 21 :: 42 :: 89 :: 180 :: 0 :: 24 :: 29 :: 44 :: 180 :: 0 :: 27 :: 104 :: 96 :: 181 :: 0 :: 24 :: sxX0_flip_51
theorem shX0_flip_0 : cX0_flip.data.toList.drop 0 = 42 :: 27 :: 182 :: 0 :: 17 :: 153 :: 0 :: 7 :: 2 :: 167 :: 0 :: 4 :: 4 :: 62 :: 42 :: 89 :: 180 :: 0 :: 13 :: 4 :: 27 :: 120 :: 130 :: 181 :: 0 :: 13 :: sxX0_flip_26 := rfl
theorem shX0_flip_26 : cX0_flip.data.toList.drop 26 = 42 :: 89 :: 180 :: 0 :: 21 :: 29 :: 96 :: 181 :: 0 :: 21 :: 42 :: 89 :: 180 :: 0 :: 24 :: 29 :: 44 :: 180 :: 0 :: 27 :: 104 :: 96 :: 181 :: 0 :: 24 :: sxX0_flip_51 := aq_26 shX0_flip_0
theorem shX0_flip_51 : cX0_flip.data.toList.drop 51 = 42 :: 89 :: 180 :: 0 :: 30 :: 29 :: 44 :: 180 :: 0 :: 27 :: 104 :: 44 :: 180 :: 0 :: 33 :: 104 :: 96 :: 181 :: 0 :: 30 :: 42 :: 89 :: 180 :: 0 :: 36 :: sxX0_flip_76 := aq_25 shX0_flip_26
theorem shX0_flip_76 : cX0_flip.data.toList.drop 76 = 29 :: 44 :: 180 :: 0 :: 27 :: 104 :: 44 :: 180 :: 0 :: 39 :: 104 :: 96 :: 181 :: 0 :: 36 :: 177 :: sxX0_flip_92 := aq_25 shX0_flip_51
noncomputable def sxX11_mixed_65 : List UInt8 := []
noncomputable def sxX11_mixed_48 : List UInt8 := 1 :: 176 :: 44 :: 29 :: 25 :: 4 :: 182 :: 1 :: 102 :: 132 :: 3 :: 1 :: 167 :: 255 :: 206 :: 44 :: 176 :: sxX11_mixed_65
noncomputable def sxX11_mixed_24 : List UInt8 := 167 :: 0 :: 33 :: 42 :: 29 :: 182 :: 0 :: 148 :: 58 :: 4 :: 25 :: 4 :: 198 :: 0 :: 12 :: 42 :: 25 :: 4 :: 182 :: 1 :: 98 :: 154 :: 0 :: 5 :: sxX11_mixed_48
theorem shX11_mixed_0 : cX11_mixed.data.toList.drop 0 = 187 :: 0 :: 95 :: 89 :: 183 :: 1 :: 97 :: 77 :: 3 :: 62 :: 29 :: 16 :: 20 :: 162 :: 0 :: 50 :: 27 :: 29 :: 122 :: 4 :: 126 :: 154 :: 0 :: 6 :: sxX11_mixed_24 := rfl
theorem shX11_mixed_24 : cX11_mixed.data.toList.drop 24 = 167 :: 0 :: 33 :: 42 :: 29 :: 182 :: 0 :: 148 :: 58 :: 4 :: 25 :: 4 :: 198 :: 0 :: 12 :: 42 :: 25 :: 4 :: 182 :: 1 :: 98 :: 154 :: 0 :: 5 :: sxX11_mixed_48 := aq_24 shX11_mixed_0
theorem shX11_mixed_48 : cX11_mixed.data.toList.drop 48 = 1 :: 176 :: 44 :: 29 :: 25 :: 4 :: 182 :: 1 :: 102 :: 132 :: 3 :: 1 :: 167 :: 255 :: 206 :: 44 :: 176 :: sxX11_mixed_65 := aq_24 shX11_mixed_24
theorem dX11_mixed_32 : decode cX11_mixed 32 = .ok (.astore 4, 2) := oc_58 32 (aq_8 shX11_mixed_24) ub_4
theorem dX11_mixed_34 : decode cX11_mixed 34 = .ok (.aload 4, 2) := oc_25 34 (aq_10 shX11_mixed_24) ub_4
theorem dX11_mixed_36 : decode cX11_mixed 36 = .ok (.ifnull 12, 3) := oc_198 36 (aq_12 shX11_mixed_24) sgw_0_12
theorem dX11_mixed_45 : decode cX11_mixed 45 = .ok (.ifCond .ne 5, 3) := oc_154 45 (aq_21 shX11_mixed_24) sgw_0_5
theorem dX11_mixed_48 : decode cX11_mixed 48 = .ok (.aconst_null, 1) := oc_1 48 shX11_mixed_48
theorem dX11_mixed_49 : decode cX11_mixed 49 = .ok (.areturn, 1) := oc_176 49 (aq_1 shX11_mixed_48)
theorem dX11_mixed_57 : decode cX11_mixed 57 = .ok (.iinc 3 1, 3) := oc_132 57 (aq_9 shX11_mixed_48) ub_3 sgb_1
theorem dX11_mixed_60 : decode cX11_mixed 60 = .ok (.goto (-50), 3) := oc_167 60 (aq_12 shX11_mixed_48) sgw_255_206
noncomputable def sxX11_brokenClause_53 : List UInt8 := []
noncomputable def sxX11_brokenClause_49 : List UInt8 := 182 :: 0 :: 218 :: 172 :: sxX11_brokenClause_53
noncomputable def sxX11_brokenClause_24 : List UInt8 := 182 :: 1 :: 89 :: 182 :: 0 :: 188 :: 42 :: 16 :: 110 :: 43 :: 180 :: 1 :: 91 :: 182 :: 0 :: 188 :: 42 :: 180 :: 0 :: 12 :: 3 :: 42 :: 180 :: 0 :: 40 :: sxX11_brokenClause_49
theorem shX11_brokenClause_0 : cX11_brokenClause.data.toList.drop 0 = 42 :: 16 :: 113 :: 43 :: 180 :: 1 :: 86 :: 182 :: 0 :: 188 :: 42 :: 16 :: 102 :: 43 :: 182 :: 1 :: 87 :: 182 :: 0 :: 188 :: 42 :: 16 :: 97 :: 43 :: sxX11_brokenClause_24 := rfl
theorem shX11_brokenClause_24 : cX11_brokenClause.data.toList.drop 24 = 182 :: 1 :: 89 :: 182 :: 0 :: 188 :: 42 :: 16 :: 110 :: 43 :: 180 :: 1 :: 91 :: 182 :: 0 :: 188 :: 42 :: 180 :: 0 :: 12 :: 3 :: 42 :: 180 :: 0 :: 40 :: sxX11_brokenClause_49 := aq_24 shX11_brokenClause_0
theorem shX11_brokenClause_49 : cX11_brokenClause.data.toList.drop 49 = 182 :: 0 :: 218 :: 172 :: sxX11_brokenClause_53 := aq_25 shX11_brokenClause_24
noncomputable def sxX11_keep_71 : List UInt8 := []
noncomputable def sxX11_keep_50 : List UInt8 := 180 :: 0 :: 103 :: 43 :: 180 :: 1 :: 86 :: 116 :: 182 :: 0 :: 144 :: 42 :: 180 :: 0 :: 68 :: 43 :: 182 :: 0 :: 110 :: 87 :: 177 :: sxX11_keep_71
noncomputable def sxX11_keep_26 : List UInt8 := 45 :: 4 :: 181 :: 1 :: 93 :: 132 :: 2 :: 1 :: 167 :: 255 :: 224 :: 43 :: 42 :: 180 :: 0 :: 103 :: 181 :: 1 :: 125 :: 42 :: 180 :: 0 :: 47 :: 42 :: sxX11_keep_50
theorem shX11_keep_0 : cX11_keep.data.toList.drop 0 = 3 :: 61 :: 28 :: 16 :: 20 :: 162 :: 0 :: 32 :: 42 :: 28 :: 182 :: 0 :: 148 :: 78 :: 45 :: 198 :: 0 :: 16 :: 43 :: 28 :: 182 :: 1 :: 122 :: 153 :: 0 :: 8 :: sxX11_keep_26 := rfl
theorem shX11_keep_26 : cX11_keep.data.toList.drop 26 = 45 :: 4 :: 181 :: 1 :: 93 :: 132 :: 2 :: 1 :: 167 :: 255 :: 224 :: 43 :: 42 :: 180 :: 0 :: 103 :: 181 :: 1 :: 125 :: 42 :: 180 :: 0 :: 47 :: 42 :: sxX11_keep_50 := aq_26 shX11_keep_0
theorem shX11_keep_50 : cX11_keep.data.toList.drop 50 = 180 :: 0 :: 103 :: 43 :: 180 :: 1 :: 86 :: 116 :: 182 :: 0 :: 144 :: 42 :: 180 :: 0 :: 68 :: 43 :: 182 :: 0 :: 110 :: 87 :: 177 :: sxX11_keep_71 := aq_24 shX11_keep_26
theorem dX11_keep_66 : decode cX11_keep 66 = .ok (.invokevirtual 110, 3) := oc_182 66 (aq_16 shX11_keep_50) uw_0_110
theorem dX11_keep_69 : decode cX11_keep 69 = .ok (.pop, 1) := oc_87 69 (aq_19 shX11_keep_50)
theorem dX11_keep_70 : decode cX11_keep 70 = .ok (.return_, 1) := oc_177 70 (aq_20 shX11_keep_50)
theorem dX11_keep_13 : decode cX11_keep 13 = .ok (.astore_n 3, 1) := oc_78 13 (aq_13 shX11_keep_0)
theorem dX11_keep_14 : decode cX11_keep 14 = .ok (.aload_n 3, 1) := oc_45 14 (aq_14 shX11_keep_0)
theorem dX11_keep_15 : decode cX11_keep 15 = .ok (.ifnull 16, 3) := oc_198 15 (aq_15 shX11_keep_0) sgw_0_16
theorem dX11_keep_23 : decode cX11_keep 23 = .ok (.ifCond .eq 8, 3) := oc_153 23 (aq_23 shX11_keep_0) sgw_0_8
theorem dX11_keep_31 : decode cX11_keep 31 = .ok (.iinc 2 1, 3) := oc_132 31 (aq_5 shX11_keep_26) ub_2 sgb_1
theorem dX11_keep_34 : decode cX11_keep 34 = .ok (.goto (-32), 3) := oc_167 34 (aq_8 shX11_keep_26) sgw_255_224
noncomputable def sxX11_batch_72 : List UInt8 := []
noncomputable def sxX11_batch_48 : List UInt8 := 2 :: 159 :: 0 :: 8 :: 16 :: 246 :: 29 :: 100 :: 172 :: 42 :: 44 :: 182 :: 1 :: 118 :: 42 :: 180 :: 0 :: 68 :: 182 :: 0 :: 84 :: 4 :: 100 :: 172 :: sxX11_batch_72
noncomputable def sxX11_batch_24 : List UInt8 := 172 :: 42 :: 27 :: 182 :: 1 :: 107 :: 77 :: 44 :: 199 :: 0 :: 5 :: 2 :: 172 :: 42 :: 182 :: 1 :: 111 :: 42 :: 44 :: 182 :: 1 :: 114 :: 62 :: 29 :: sxX11_batch_48
theorem shX11_batch_0 : cX11_batch.data.toList.drop 0 = 27 :: 4 :: 19 :: 1 :: 106 :: 184 :: 0 :: 80 :: 153 :: 0 :: 15 :: 42 :: 180 :: 0 :: 68 :: 182 :: 0 :: 84 :: 16 :: 10 :: 161 :: 0 :: 5 :: 2 :: sxX11_batch_24 := rfl
theorem shX11_batch_24 : cX11_batch.data.toList.drop 24 = 172 :: 42 :: 27 :: 182 :: 1 :: 107 :: 77 :: 44 :: 199 :: 0 :: 5 :: 2 :: 172 :: 42 :: 182 :: 1 :: 111 :: 42 :: 44 :: 182 :: 1 :: 114 :: 62 :: 29 :: sxX11_batch_48 := aq_24 shX11_batch_0
theorem shX11_batch_48 : cX11_batch.data.toList.drop 48 = 2 :: 159 :: 0 :: 8 :: 16 :: 246 :: 29 :: 100 :: 172 :: 42 :: 44 :: 182 :: 1 :: 118 :: 42 :: 180 :: 0 :: 68 :: 182 :: 0 :: 84 :: 4 :: 100 :: 172 :: sxX11_batch_72 := aq_24 shX11_batch_24
theorem dX11_batch_8 : decode cX11_batch 8 = .ok (.ifCond .eq 15, 3) := oc_153 8 (aq_8 shX11_batch_0) sgw_0_15
theorem dX11_batch_30 : decode cX11_batch 30 = .ok (.astore_n 2, 1) := oc_77 30 (aq_6 shX11_batch_24)
theorem dX11_batch_31 : decode cX11_batch 31 = .ok (.aload_n 2, 1) := oc_44 31 (aq_7 shX11_batch_24)
theorem dX11_batch_32 : decode cX11_batch 32 = .ok (.ifnonnull 5, 3) := oc_199 32 (aq_8 shX11_batch_24) sgw_0_5
theorem dX11_batch_23 : decode cX11_batch 23 = .ok (.iconst (-1), 1) := oc_2 23 (aq_23 shX11_batch_0)
theorem dX11_batch_24 : decode cX11_batch 24 = .ok (.ireturn, 1) := oc_172 24 shX11_batch_24
noncomputable def sxX11_gatherBlendable_45 : List UInt8 := []
noncomputable def sxX11_gatherBlendable_25 : List UInt8 := 153 :: 0 :: 12 :: 43 :: 28 :: 29 :: 184 :: 0 :: 184 :: 132 :: 2 :: 1 :: 132 :: 3 :: 1 :: 167 :: 255 :: 220 :: 28 :: 172 :: sxX11_gatherBlendable_45
theorem shX11_gatherBlendable_0 : cX11_gatherBlendable.data.toList.drop 0 = 3 :: 61 :: 3 :: 62 :: 29 :: 16 :: 20 :: 162 :: 0 :: 36 :: 28 :: 43 :: 190 :: 162 :: 0 :: 30 :: 42 :: 42 :: 29 :: 182 :: 0 :: 148 :: 182 :: 1 :: 98 :: sxX11_gatherBlendable_25 := rfl
theorem shX11_gatherBlendable_25 : cX11_gatherBlendable.data.toList.drop 25 = 153 :: 0 :: 12 :: 43 :: 28 :: 29 :: 184 :: 0 :: 184 :: 132 :: 2 :: 1 :: 132 :: 3 :: 1 :: 167 :: 255 :: 220 :: 28 :: 172 :: sxX11_gatherBlendable_45 := aq_25 shX11_gatherBlendable_0
theorem dX11_gatherBlendable_43 : decode cX11_gatherBlendable 43 = .ok (.iload_n 2, 1) := oc_28 43 (aq_18 shX11_gatherBlendable_25)
theorem dX11_gatherBlendable_44 : decode cX11_gatherBlendable 44 = .ok (.ireturn, 1) := oc_172 44 (aq_19 shX11_gatherBlendable_25)
theorem dX11_gatherBlendable_22 : decode cX11_gatherBlendable 22 = .ok (.invokevirtual 354, 3) := oc_182 22 (aq_22 shX11_gatherBlendable_0) uw_1_98
theorem dX11_gatherBlendable_25 : decode cX11_gatherBlendable 25 = .ok (.ifCond .eq 12, 3) := oc_153 25 shX11_gatherBlendable_25 sgw_0_12
theorem dX11_gatherBlendable_37 : decode cX11_gatherBlendable 37 = .ok (.iinc 3 1, 3) := oc_132 37 (aq_12 shX11_gatherBlendable_25) ub_3 sgb_1
theorem dX11_gatherBlendable_40 : decode cX11_gatherBlendable 40 = .ok (.goto (-36), 3) := oc_167 40 (aq_15 shX11_gatherBlendable_25) sgw_255_220
noncomputable def sxX11_flipTo_59 : List UInt8 := []
noncomputable def sxX11_flipTo_49 : List UInt8 := 182 :: 1 :: 102 :: 132 :: 5 :: 1 :: 167 :: 255 :: 211 :: 177 :: sxX11_flipTo_59
noncomputable def sxX11_flipTo_24 : List UInt8 := 153 :: 0 :: 34 :: 42 :: 45 :: 21 :: 5 :: 46 :: 182 :: 0 :: 148 :: 58 :: 6 :: 25 :: 6 :: 198 :: 0 :: 13 :: 43 :: 45 :: 21 :: 5 :: 46 :: 25 :: 6 :: sxX11_flipTo_49
theorem shX11_flipTo_0 : cX11_flipTo.data.toList.drop 0 = 28 :: 28 :: 4 :: 100 :: 130 :: 54 :: 4 :: 3 :: 54 :: 5 :: 21 :: 5 :: 45 :: 190 :: 162 :: 0 :: 44 :: 21 :: 4 :: 21 :: 5 :: 122 :: 4 :: 126 :: sxX11_flipTo_24 := rfl
theorem shX11_flipTo_24 : cX11_flipTo.data.toList.drop 24 = 153 :: 0 :: 34 :: 42 :: 45 :: 21 :: 5 :: 46 :: 182 :: 0 :: 148 :: 58 :: 6 :: 25 :: 6 :: 198 :: 0 :: 13 :: 43 :: 45 :: 21 :: 5 :: 46 :: 25 :: 6 :: sxX11_flipTo_49 := aq_24 shX11_flipTo_0
theorem shX11_flipTo_49 : cX11_flipTo.data.toList.drop 49 = 182 :: 1 :: 102 :: 132 :: 5 :: 1 :: 167 :: 255 :: 211 :: 177 :: sxX11_flipTo_59 := aq_25 shX11_flipTo_24
theorem dX11_flipTo_58 : decode cX11_flipTo 58 = .ok (.return_, 1) := oc_177 58 (aq_9 shX11_flipTo_49)
noncomputable def sxX11_blend_131 : List UInt8 := []
noncomputable def sxX11_blend_125 : List UInt8 := 167 :: 255 :: 166 :: 21 :: 4 :: 172 :: sxX11_blend_131
noncomputable def sxX11_blend_100 : List UInt8 := 2 :: 160 :: 0 :: 21 :: 45 :: 180 :: 1 :: 132 :: 54 :: 4 :: 45 :: 180 :: 1 :: 86 :: 54 :: 5 :: 45 :: 180 :: 1 :: 91 :: 54 :: 6 :: 132 :: 7 :: 1 :: sxX11_blend_125
noncomputable def sxX11_blend_74 : List UInt8 := 45 :: 180 :: 1 :: 91 :: 21 :: 6 :: 162 :: 0 :: 7 :: 4 :: 167 :: 0 :: 4 :: 3 :: 54 :: 8 :: 21 :: 8 :: 153 :: 0 :: 30 :: 42 :: 45 :: 182 :: 1 :: 114 :: sxX11_blend_100
noncomputable def sxX11_blend_48 : List UInt8 := 182 :: 1 :: 139 :: 21 :: 4 :: 153 :: 0 :: 30 :: 45 :: 180 :: 1 :: 86 :: 21 :: 5 :: 163 :: 0 :: 21 :: 45 :: 180 :: 1 :: 86 :: 21 :: 5 :: 160 :: 0 :: 16 :: sxX11_blend_74
noncomputable def sxX11_blend_24 : List UInt8 := 54 :: 4 :: 3 :: 54 :: 5 :: 3 :: 54 :: 6 :: 4 :: 54 :: 7 :: 21 :: 7 :: 4 :: 28 :: 120 :: 162 :: 0 :: 88 :: 42 :: 45 :: 21 :: 7 :: 43 :: sxX11_blend_48
theorem shX11_blend_0 : cX11_blend.data.toList.drop 0 = 16 :: 12 :: 188 :: 10 :: 76 :: 42 :: 43 :: 182 :: 1 :: 135 :: 61 :: 42 :: 182 :: 1 :: 111 :: 187 :: 0 :: 95 :: 89 :: 183 :: 1 :: 97 :: 78 :: 3 :: sxX11_blend_24 := rfl
theorem shX11_blend_24 : cX11_blend.data.toList.drop 24 = 54 :: 4 :: 3 :: 54 :: 5 :: 3 :: 54 :: 6 :: 4 :: 54 :: 7 :: 21 :: 7 :: 4 :: 28 :: 120 :: 162 :: 0 :: 88 :: 42 :: 45 :: 21 :: 7 :: 43 :: sxX11_blend_48 := aq_24 shX11_blend_0
theorem shX11_blend_48 : cX11_blend.data.toList.drop 48 = 182 :: 1 :: 139 :: 21 :: 4 :: 153 :: 0 :: 30 :: 45 :: 180 :: 1 :: 86 :: 21 :: 5 :: 163 :: 0 :: 21 :: 45 :: 180 :: 1 :: 86 :: 21 :: 5 :: 160 :: 0 :: 16 :: sxX11_blend_74 := aq_24 shX11_blend_24
theorem shX11_blend_74 : cX11_blend.data.toList.drop 74 = 45 :: 180 :: 1 :: 91 :: 21 :: 6 :: 162 :: 0 :: 7 :: 4 :: 167 :: 0 :: 4 :: 3 :: 54 :: 8 :: 21 :: 8 :: 153 :: 0 :: 30 :: 42 :: 45 :: 182 :: 1 :: 114 :: sxX11_blend_100 := aq_26 shX11_blend_48
theorem shX11_blend_100 : cX11_blend.data.toList.drop 100 = 2 :: 160 :: 0 :: 21 :: 45 :: 180 :: 1 :: 132 :: 54 :: 4 :: 45 :: 180 :: 1 :: 86 :: 54 :: 5 :: 45 :: 180 :: 1 :: 91 :: 54 :: 6 :: 132 :: 7 :: 1 :: sxX11_blend_125 := aq_26 shX11_blend_74
theorem shX11_blend_125 : cX11_blend.data.toList.drop 125 = 167 :: 255 :: 166 :: 21 :: 4 :: 172 :: sxX11_blend_131 := aq_25 shX11_blend_100
theorem dX11_blend_83 : decode cX11_blend 83 = .ok (.iconst 1, 1) := oc_4 83 (aq_9 shX11_blend_74)
theorem dX11_blend_84 : decode cX11_blend 84 = .ok (.goto 4, 3) := oc_167 84 (aq_10 shX11_blend_74) sgw_0_4
theorem dX11_blend_88 : decode cX11_blend 88 = .ok (.istore 8, 2) := oc_54 88 (aq_14 shX11_blend_74) ub_8
theorem dX11_blend_90 : decode cX11_blend 90 = .ok (.iload 8, 2) := oc_21 90 (aq_16 shX11_blend_74) ub_8
theorem dX11_blend_92 : decode cX11_blend 92 = .ok (.ifCond .eq 30, 3) := oc_153 92 (aq_18 shX11_blend_74) sgw_0_30
theorem dX11_blend_95 : decode cX11_blend 95 = .ok (.aload_n 0, 1) := oc_42 95 (aq_21 shX11_blend_74)
theorem dX11_blend_96 : decode cX11_blend 96 = .ok (.aload_n 3, 1) := oc_45 96 (aq_22 shX11_blend_74)
theorem dX11_blend_97 : decode cX11_blend 97 = .ok (.invokevirtual 370, 3) := oc_182 97 (aq_23 shX11_blend_74) uw_1_114
theorem dX11_blend_100 : decode cX11_blend 100 = .ok (.iconst (-1), 1) := oc_2 100 shX11_blend_100
theorem dX11_blend_101 : decode cX11_blend 101 = .ok (.if_icmp .ne 21, 3) := oc_160 101 (aq_1 shX11_blend_100) sgw_0_21
theorem dX11_blend_122 : decode cX11_blend 122 = .ok (.iinc 7 1, 3) := oc_132 122 (aq_22 shX11_blend_100) ub_7 sgb_1
theorem dX11_blend_125 : decode cX11_blend 125 = .ok (.goto (-90), 3) := oc_167 125 shX11_blend_125 sgw_255_166
theorem dX11_blend_104 : decode cX11_blend 104 = .ok (.aload_n 3, 1) := oc_45 104 (aq_4 shX11_blend_100)
theorem dX11_blend_105 : decode cX11_blend 105 = .ok (.getfield 388, 3) := oc_180 105 (aq_5 shX11_blend_100) uw_1_132
theorem dX11_blend_108 : decode cX11_blend 108 = .ok (.istore 4, 2) := oc_54 108 (aq_8 shX11_blend_100) ub_4
theorem dX11_blend_110 : decode cX11_blend 110 = .ok (.aload_n 3, 1) := oc_45 110 (aq_10 shX11_blend_100)
theorem dX11_blend_111 : decode cX11_blend 111 = .ok (.getfield 342, 3) := oc_180 111 (aq_11 shX11_blend_100) uw_1_86
theorem dX11_blend_114 : decode cX11_blend 114 = .ok (.istore 5, 2) := oc_54 114 (aq_14 shX11_blend_100) ub_5
theorem dX11_blend_116 : decode cX11_blend 116 = .ok (.aload_n 3, 1) := oc_45 116 (aq_16 shX11_blend_100)
theorem dX11_blend_117 : decode cX11_blend 117 = .ok (.getfield 347, 3) := oc_180 117 (aq_17 shX11_blend_100) uw_1_91
theorem dX11_blend_120 : decode cX11_blend 120 = .ok (.istore 6, 2) := oc_54 120 (aq_20 shX11_blend_100) ub_6
theorem dX11_blend_87 : decode cX11_blend 87 = .ok (.iconst 0, 1) := oc_3 87 (aq_13 shX11_blend_74)
set_option maxRecDepth 100000 in
set_option maxHeartbeats 4000000 in
theorem q_l_has (l : Launch) (D : va_G) (cI cB cZ : ClassId) (bo w : Nat) (x1 x2 x3 x4 x5 x6 x7 : Int32) (v0 : Int32) : Met l yX0_has (CWS yX0_has cX0_has 2 (some .boolean)) (RM 0 0 0) (PBr [.ref bo, .int v0] D cI cB cZ [(bo, .inr (1, [.ref w, .int x1, .int x2, .int x3, .int x4, .int x5, .int x6, .int x7]))]) (vp_Si (fun r => (r = 1 ∧ ¬ (x4 >>> (v0 &&& 31)) &&& 1 = 0) ∨ (r = 0 ∧ (x4 >>> (v0 &&& 31)) &&& 1 = 0))) 0 0 (fun _ => False) := by
  refine en_r rfl pn_RX0 (Nat.le_of_ble_eq_true rfl) (fun p e s m below meth c hx hb hml hown S hr hlocks hnm hP hK hS ls hl => ?_)
  have hP : va_P D vwCl [(bo, .inr (1, [.ref w, .int x1, .int x2, .int x3, .int x4, .int x5, .int x6, .int x7]))] s.heap := hP
  have hl : lv_has ls 2 [(0, .ref bo), (1, .int v0)] := hl
  refine lv_aload_n hx hb (oc_42 0 shX0_has_0) rfl (lvA0 hl) ?_
  refine gf_RX0_13 S hK hP 0 rfl (v := .int x4) rfl (oc_180 1 (aq_1 shX0_has_0) uw_0_13) ?_
  refine lv_iload_n hx hb (oc_27 4 (aq_4 shX0_has_0)) rfl (lvA1 hl) ?_
  refine lv_ishr hx hb (oc_122 5 (aq_5 shX0_has_0)) ?_
  refine lv_iconst (v := 1) hx hb (oc_4 6 (aq_6 shX0_has_0)) kic_1 ?_
  refine lv_iand hx hb (oc_126 7 (aq_7 shX0_has_0)) ?_
  refine lv_if_eq (tgt := 15) hx hb (oc_153 8 (aq_8 shX0_has_0) sgw_0_7) rfl (fun c_1 => ?_) (fun c_1 => ?_)
  ·
    have tc_1 : (((x4 >>> (v0 &&& 31)) &&& 1).toInt : Int) = 0 := congrArg Int32.toInt c_1
    refine lv_iconst (v := 0) hx hb (oc_3 15 (aq_15 shX0_has_0)) kic_0 ?_
    exact W.zret (v := 0) hx hb hr rfl (fun t ht hW => ⟨0, rfl, (Or.inr ⟨rfl, by assumption⟩), ht⟩) (fun _ h => absurd h List.not_mem_nil) dX0_has_16
  ·
    have tc_1 : (((x4 >>> (v0 &&& 31)) &&& 1).toInt : Int) ≠ 0 := fun q => c_1 (Int32.toInt_inj.mp q)
    refine lv_iconst (v := 1) hx hb (oc_4 11 (aq_11 shX0_has_0)) kic_1 ?_
    refine lv_goto (tgt := 16) hx hb (oc_167 12 (aq_12 shX0_has_0) sgw_0_4) rfl ?_
    exact W.zret (v := 1) hx hb hr rfl (fun t ht hW => ⟨1, rfl, (Or.inl ⟨rfl, by assumption⟩), ht⟩) (fun _ h => absurd h List.not_mem_nil) dX0_has_16
set_option maxRecDepth 100000 in
set_option maxHeartbeats 4000000 in
theorem q_l_water (l : Launch) (D : va_G) (cI cB cZ : ClassId) (bo w : Nat) (x1 x2 x3 x4 x5 x6 x7 : Int32) : Met l yX0_water (CWS yX0_water cX0_water 1 (some .int)) (RM 0 0 0) (PBr [.ref bo] D cI cB cZ [(bo, .inr (1, [.ref w, .int x1, .int x2, .int x3, .int x4, .int x5, .int x6, .int x7]))]) (vp_Si (fun r => r = if x6 = 0 then 0 else x1 / x6)) 0 0 (fun _ => False) := by
  refine en_r rfl pn_RX0 (Nat.le_of_ble_eq_true rfl) (fun p e s m below meth c hx hb hml hown S hr hlocks hnm hP hK hS ls hl => ?_)
  have hP : va_P D vwCl [(bo, .inr (1, [.ref w, .int x1, .int x2, .int x3, .int x4, .int x5, .int x6, .int x7]))] s.heap := hP
  have hl : lv_has ls 1 [(0, .ref bo)] := hl
  refine lv_aload_n hx hb (oc_42 0 shX0_water_0) rfl (lvA0 hl) ?_
  refine gf_RX0_24 S hK hP 0 rfl (v := .int x6) rfl (oc_180 1 (aq_1 shX0_water_0) uw_0_24) ?_
  refine lv_if_ne (tgt := 11) hx hb (oc_154 4 (aq_4 shX0_water_0) sgw_0_7) rfl (fun c_1 => ?_) (fun c_1 => ?_)
  ·
    have tc_1 : (x6.toInt : Int) ≠ 0 := fun q => c_1 (Int32.toInt_inj.mp q)
    refine lv_aload_n hx hb (oc_42 11 (aq_11 shX0_water_0)) rfl (lvA0 hl) ?_
    refine gf_RX0_30 S hK hP 0 rfl (v := .int x1) rfl (oc_180 12 (aq_12 shX0_water_0) uw_0_30) ?_
    refine lv_aload_n hx hb (oc_42 15 (aq_15 shX0_water_0)) rfl (lvA0 hl) ?_
    refine gf_RX0_24 S hK hP 0 rfl (v := .int x6) rfl (oc_180 16 (aq_16 shX0_water_0) uw_0_24) ?_
    refine lv_idiv hx hb (oc_108 19 (aq_19 shX0_water_0)) (by assumption) ?_
    exact W.iret (v := (x1 / x6)) hx hb hr (fun t ht hW => ⟨(x1 / x6), rfl, (if_neg (by assumption)).symm, ht⟩) (fun _ h => absurd h List.not_mem_nil) dX0_water_20
  ·
    have tc_1 : (x6.toInt : Int) = 0 := congrArg Int32.toInt c_1
    refine lv_iconst (v := 0) hx hb (oc_3 7 (aq_7 shX0_water_0)) kic_0 ?_
    refine lv_goto (tgt := 20) hx hb (oc_167 8 (aq_8 shX0_water_0) sgw_0_12) rfl ?_
    exact W.iret (v := 0) hx hb hr (fun t ht hW => ⟨0, rfl, (if_pos (by assumption)).symm, ht⟩) (fun _ h => absurd h List.not_mem_nil) dX0_water_20
set_option maxRecDepth 100000 in
set_option maxHeartbeats 4000000 in
theorem q_l_acid (l : Launch) (D : va_G) (cI cB cZ : ClassId) (bo w : Nat) (x1 x2 x3 x4 x5 x6 x7 : Int32) : Met l yX0_acid (CWS yX0_acid cX0_acid 1 (some .int)) (RM 0 0 0) (PBr [.ref bo] D cI cB cZ [(bo, .inr (1, [.ref w, .int x1, .int x2, .int x3, .int x4, .int x5, .int x6, .int x7]))]) (vp_Si (fun r => r = if x6 = 0 then 0 else x2 / x6)) 0 0 (fun _ => False) := by
  refine en_r rfl pn_RX0 (Nat.le_of_ble_eq_true rfl) (fun p e s m below meth c hx hb hml hown S hr hlocks hnm hP hK hS ls hl => ?_)
  have hP : va_P D vwCl [(bo, .inr (1, [.ref w, .int x1, .int x2, .int x3, .int x4, .int x5, .int x6, .int x7]))] s.heap := hP
  have hl : lv_has ls 1 [(0, .ref bo)] := hl
  refine lv_aload_n hx hb (oc_42 0 shX0_acid_0) rfl (lvA0 hl) ?_
  refine gf_RX0_24 S hK hP 0 rfl (v := .int x6) rfl (oc_180 1 (aq_1 shX0_acid_0) uw_0_24) ?_
  refine lv_if_ne (tgt := 11) hx hb (oc_154 4 (aq_4 shX0_acid_0) sgw_0_7) rfl (fun c_1 => ?_) (fun c_1 => ?_)
  ·
    have tc_1 : (x6.toInt : Int) ≠ 0 := fun q => c_1 (Int32.toInt_inj.mp q)
    refine lv_aload_n hx hb (oc_42 11 (aq_11 shX0_acid_0)) rfl (lvA0 hl) ?_
    refine gf_RX0_36 S hK hP 0 rfl (v := .int x2) rfl (oc_180 12 (aq_12 shX0_acid_0) uw_0_36) ?_
    refine lv_aload_n hx hb (oc_42 15 (aq_15 shX0_acid_0)) rfl (lvA0 hl) ?_
    refine gf_RX0_24 S hK hP 0 rfl (v := .int x6) rfl (oc_180 16 (aq_16 shX0_acid_0) uw_0_24) ?_
    refine lv_idiv hx hb (oc_108 19 (aq_19 shX0_acid_0)) (by assumption) ?_
    exact W.iret (v := (x2 / x6)) hx hb hr (fun t ht hW => ⟨(x2 / x6), rfl, (if_neg (by assumption)).symm, ht⟩) (fun _ h => absurd h List.not_mem_nil) dX0_acid_20
  ·
    have tc_1 : (x6.toInt : Int) = 0 := congrArg Int32.toInt c_1
    refine lv_iconst (v := 0) hx hb (oc_3 7 (aq_7 shX0_acid_0)) kic_0 ?_
    refine lv_goto (tgt := 20) hx hb (oc_167 8 (aq_8 shX0_acid_0) sgw_0_12) rfl ?_
    exact W.iret (v := 0) hx hb hr (fun t ht hW => ⟨0, rfl, (if_pos (by assumption)).symm, ht⟩) (fun _ h => absurd h List.not_mem_nil) dX0_acid_20
set_option maxRecDepth 100000 in
set_option maxHeartbeats 4000000 in
theorem q_Eflip (l : Launch) (D : va_G) (cI cB cZ : ClassId) (zz qq vv : Nat) (bt : Nat → Int32) (g : Nat → Nat) (ad : Nat → Nat → Nat) (cn : Nat → Nat) (In : Nat → Int32) (Fn : Nat → Nat → Int32) (bo w : Nat) (x1 x2 x3 x4 x5 x6 x7 : Int32) (v0 : Int32) (k0 : Nat) (ws : va_W) (sz : Nat) (hB : CBX cn) (hk : k0 < cn 11) : Met l yX0_flip (CWS yX0_flip cX0_flip 4 none) (RM 1 0 0) (PBx [.ref bo, .int v0, .ref (ad 11 k0)] D cI cB cZ zz qq vv bt ((wX cI (D.1 99) zz g ad cn In Fn) ++ (([(bo, .inr (1, [.ref w, .int x1, .int x2, .int x3, .int x4, .int x5, .int x6, .int x7]))] : va_W) ++ ws)) sz) (va_Qv (fun (u : (Nat → Nat → Nat) × (Nat → Nat) × (Nat → Int32) × (Nat → Nat → Int32) × va_W) => (fun a2 c2 I2 F2 W2 => ad = a2 ∧ cn = c2 ∧ In = I2 ∧ Fn = F2 ∧ ∃ sg : Int32, ((sg = -1 ∧ ¬ (x4 >>> (v0 &&& 31)) &&& 1 = 0) ∨ (sg = 1 ∧ (x4 >>> (v0 &&& 31)) &&& 1 = 0)) ∧ W2 = (([(bo, .inr (1, [.ref w, .int (x1 + sg * (Fn 122 k0) * (Fn 123 k0)), .int (x2 + sg * (Fn 122 k0) * (Fn 124 k0)), .int x3, .int (x4 ^^^ 1 <<< (v0 &&& 31)), .int (x5 + sg), .int (x6 + sg * (Fn 122 k0)), .int x7]))] : va_W) ++ ws)) u.1 u.2.1 u.2.2.1 u.2.2.2.1 u.2.2.2.2) (fun (u : (Nat → Nat → Nat) × (Nat → Nat) × (Nat → Int32) × (Nat → Nat → Int32) × va_W) (t : State) => va_P D vwCl (wX cI (D.1 99) zz g u.1 u.2.1 u.2.2.1 u.2.2.2.1 ++ u.2.2.2.2) t.heap ∧ va_D (va_A ((wX cI (D.1 99) zz g ad cn In Fn) ++ (([(bo, .inr (1, [.ref w, .int x1, .int x2, .int x3, .int x4, .int x5, .int x6, .int x7]))] : va_W) ++ ws)) sz) (wX cI (D.1 99) zz g u.1 u.2.1 u.2.2.1 u.2.2.2.1 ++ u.2.2.2.2)) (va_A ((wX cI (D.1 99) zz g ad cn In Fn) ++ (([(bo, .inr (1, [.ref w, .int x1, .int x2, .int x3, .int x4, .int x5, .int x6, .int x7]))] : va_W) ++ ws)) sz)) 0 0 (va_A ((wX cI (D.1 99) zz g ad cn In Fn) ++ (([(bo, .inr (1, [.ref w, .int x1, .int x2, .int x3, .int x4, .int x5, .int x6, .int x7]))] : va_W) ++ ws)) sz) := by
  refine en_x (fun A => (va_Qv (fun (u : (Nat → Nat → Nat) × (Nat → Nat) × (Nat → Int32) × (Nat → Nat → Int32) × va_W) => (fun (a2 : Nat → Nat → Nat) (c2 : Nat → Nat) (I2 : Nat → Int32) (F2 : Nat → Nat → Int32) (W2 : va_W) => ad = a2 ∧ cn = c2 ∧ In = I2 ∧ Fn = F2 ∧ ∃ sg : Int32, ((sg = -1 ∧ ¬ (x4 >>> (v0 &&& 31)) &&& 1 = 0) ∨ (sg = 1 ∧ (x4 >>> (v0 &&& 31)) &&& 1 = 0)) ∧ W2 = (([(bo, .inr (1, [.ref w, .int (x1 + sg * (Fn 122 k0) * (Fn 123 k0)), .int (x2 + sg * (Fn 122 k0) * (Fn 124 k0)), .int x3, .int (x4 ^^^ 1 <<< (v0 &&& 31)), .int (x5 + sg), .int (x6 + sg * (Fn 122 k0)), .int x7]))] : va_W) ++ ws)) u.1 u.2.1 u.2.2.1 u.2.2.2.1 u.2.2.2.2) (fun (u : (Nat → Nat → Nat) × (Nat → Nat) × (Nat → Int32) × (Nat → Nat → Int32) × va_W) (t : State) => va_P D vwCl (wX cI (D.1 99) zz g u.1 u.2.1 u.2.2.1 u.2.2.2.1 ++ u.2.2.2.2) t.heap ∧ va_D A (wX cI (D.1 99) zz g u.1 u.2.1 u.2.2.1 u.2.2.2.1 ++ u.2.2.2.2)) A)) rfl rfl pn_RX0 (Nat.le_of_ble_eq_true rfl) (fun p e s m below meth c A hx hb hml hown S hr hlocks hnm hA hP hK hD hXS hS ls hl => ?_)
  have hl : lv_has ls 4 [(0, .ref bo), (1, .int v0), (2, .ref (ad 11 k0))] := hl
  refine lv_aload_n hx hb (oc_42 0 shX0_flip_0) rfl (lvA0 hl) ?_
  refine lv_iload_n hx hb (oc_27 1 (aq_1 shX0_flip_0)) rfl (lvA1 hl) ?_
  refine vp_callSi (runV_r (As := [.int v0]) (rest := []) S (q_l_has l D cI cB cZ bo w x1 x2 x3 x4 x5 x6 x7 v0) kV_RX0_17 hK hP _ (one_is (exr (m := 0) rfl)) _ (exr (m := 0) rfl) rfl rfl ⟨Nat.le_of_ble_eq_true rfl, Nat.le_of_ble_eq_true rfl⟩ ⟨Nat.le_of_ble_eq_true rfl, Nat.le_of_ble_eq_true rfl⟩ rfl hl.1 rfl (Nat.le_of_ble_eq_true rfl) (oc_182 2 (aq_2 shX0_flip_0) uw_0_17)) (fun r_1 h_2 => ?_)
  rcases h_2 with ⟨rfl, h_2⟩ | ⟨rfl, h_2⟩
  ·
    refine lv_if_eq (tgt := 12) hx hb (oc_153 5 (aq_5 shX0_flip_0) sgw_0_7) rfl (fun h => absurd h cq_eq_1_0) (fun _ => ?_)
    refine lv_iconst (v := (-1)) hx hb (oc_2 8 (aq_8 shX0_flip_0)) kic_m1 ?_
    refine lv_goto (tgt := 13) hx hb (oc_167 9 (aq_9 shX0_flip_0) sgw_0_4) rfl ?_
    refine lv_istore_n (lv' := [(3, .int (-1)), (0, .ref bo), (1, .int v0), (2, .ref (ad 11 k0))]) hx hb (oc_62 13 (aq_13 shX0_flip_0)) rfl hl (ltb rfl) rfl (fun ls hl => ?_)
    refine lv_aload_n hx hb (oc_42 14 (aq_14 shX0_flip_0)) rfl (lvA1 hl) ?_
    refine lv_dup hx hb (oc_89 15 (aq_15 shX0_flip_0)) rfl ?_
    refine gf_RX0_13 S hK hP _ (exr (m := 0) rfl) (v := .int x4) rfl (oc_180 16 (aq_16 shX0_flip_0) uw_0_13) ?_
    refine lv_iconst (v := 1) hx hb (oc_4 19 (aq_19 shX0_flip_0)) kic_1 ?_
    refine lv_iload_n hx hb (oc_27 20 (aq_20 shX0_flip_0)) rfl (lvA2 hl) ?_
    refine lv_ishl hx hb (oc_120 21 (aq_21 shX0_flip_0)) ?_
    refine lv_ixor hx hb (oc_130 22 (aq_22 shX0_flip_0)) ?_
    refine pf_RX0_13 S hK hP hD hS _ (exr (m := 0) rfl) (v := .int (x4 ^^^ (1 <<< (v0 &&& 31)))) (Nat.le_of_ble_eq_true rfl) rfl rfl (oc_181 23 (aq_23 shX0_flip_0) uw_0_13) (fun H locs hP hD hS => ?_)
    have hP : va_P D vwCl ((wX cI (D.1 99) zz g ad cn In Fn) ++ (([(bo, .inr (1, [.ref w, .int x1, .int x2, .int x3, .int (x4 ^^^ (1 <<< (v0 &&& 31))), .int x5, .int x6, .int x7]))] : va_W) ++ ws)) H := va_P_eq (exs_r rfl) hP
    have hD : va_D A ((wX cI (D.1 99) zz g ad cn In Fn) ++ (([(bo, .inr (1, [.ref w, .int x1, .int x2, .int x3, .int (x4 ^^^ (1 <<< (v0 &&& 31))), .int x5, .int x6, .int x7]))] : va_W) ++ ws)) := va_D_eq (exs_r rfl) hD
    refine lv_aload_n hx hb (oc_42 26 shX0_flip_26) rfl (lvA1 hl) ?_
    refine lv_dup hx hb (oc_89 27 (aq_1 shX0_flip_26)) rfl ?_
    refine gf_RX0_21 S hK hP _ (exr (m := 0) rfl) (v := .int x5) rfl (oc_180 28 (aq_2 shX0_flip_26) uw_0_21) ?_
    refine lv_iload_n hx hb (oc_29 31 (aq_5 shX0_flip_26)) rfl (lvA0 hl) ?_
    refine lv_iadd hx hb (oc_96 32 (aq_6 shX0_flip_26)) ?_
    refine pf_RX0_21 S hK hP hD hS _ (exr (m := 0) rfl) (v := .int (x5 + (-1))) (Nat.le_of_ble_eq_true rfl) rfl rfl (oc_181 33 (aq_7 shX0_flip_26) uw_0_21) (fun H locs hP hD hS => ?_)
    have hP : va_P D vwCl ((wX cI (D.1 99) zz g ad cn In Fn) ++ (([(bo, .inr (1, [.ref w, .int x1, .int x2, .int x3, .int (x4 ^^^ (1 <<< (v0 &&& 31))), .int (x5 + (-1)), .int x6, .int x7]))] : va_W) ++ ws)) H := va_P_eq (exs_r rfl) hP
    have hD : va_D A ((wX cI (D.1 99) zz g ad cn In Fn) ++ (([(bo, .inr (1, [.ref w, .int x1, .int x2, .int x3, .int (x4 ^^^ (1 <<< (v0 &&& 31))), .int (x5 + (-1)), .int x6, .int x7]))] : va_W) ++ ws)) := va_D_eq (exs_r rfl) hD
    refine lv_aload_n hx hb (oc_42 36 (aq_10 shX0_flip_26)) rfl (lvA1 hl) ?_
    refine lv_dup hx hb (oc_89 37 (aq_11 shX0_flip_26)) rfl ?_
    refine gf_RX0_24 S hK hP _ (exr (m := 0) rfl) (v := .int x6) rfl (oc_180 38 (aq_12 shX0_flip_26) uw_0_24) ?_
    refine lv_iload_n hx hb (oc_29 41 (aq_15 shX0_flip_26)) rfl (lvA0 hl) ?_
    refine lv_aload_n hx hb (oc_44 42 (aq_16 shX0_flip_26)) rfl (lvA3 hl) ?_
    refine gf_RX0_27 S hK hP _ (exl (xf_1 (by omega))) (v := .int ((Fn 122) k0)) rfl (oc_180 43 (aq_17 shX0_flip_26) uw_0_27) ?_
    refine lv_imul hx hb (oc_104 46 (aq_20 shX0_flip_26)) ?_
    refine lv_iadd hx hb (oc_96 47 (aq_21 shX0_flip_26)) ?_
    refine pf_RX0_24 S hK hP hD hS _ (exr (m := 0) rfl) (v := .int (x6 + ((-1) * ((Fn 122) k0)))) (Nat.le_of_ble_eq_true rfl) rfl rfl (oc_181 48 (aq_22 shX0_flip_26) uw_0_24) (fun H locs hP hD hS => ?_)
    have hP : va_P D vwCl ((wX cI (D.1 99) zz g ad cn In Fn) ++ (([(bo, .inr (1, [.ref w, .int x1, .int x2, .int x3, .int (x4 ^^^ (1 <<< (v0 &&& 31))), .int (x5 + (-1)), .int (x6 + ((-1) * ((Fn 122) k0))), .int x7]))] : va_W) ++ ws)) H := va_P_eq (exs_r rfl) hP
    have hD : va_D A ((wX cI (D.1 99) zz g ad cn In Fn) ++ (([(bo, .inr (1, [.ref w, .int x1, .int x2, .int x3, .int (x4 ^^^ (1 <<< (v0 &&& 31))), .int (x5 + (-1)), .int (x6 + ((-1) * ((Fn 122) k0))), .int x7]))] : va_W) ++ ws)) := va_D_eq (exs_r rfl) hD
    refine lv_aload_n hx hb (oc_42 51 shX0_flip_51) rfl (lvA1 hl) ?_
    refine lv_dup hx hb (oc_89 52 (aq_1 shX0_flip_51)) rfl ?_
    refine gf_RX0_30 S hK hP _ (exr (m := 0) rfl) (v := .int x1) rfl (oc_180 53 (aq_2 shX0_flip_51) uw_0_30) ?_
    refine lv_iload_n hx hb (oc_29 56 (aq_5 shX0_flip_51)) rfl (lvA0 hl) ?_
    refine lv_aload_n hx hb (oc_44 57 (aq_6 shX0_flip_51)) rfl (lvA3 hl) ?_
    refine gf_RX0_27 S hK hP _ (exl (xf_1 (by omega))) (v := .int ((Fn 122) k0)) rfl (oc_180 58 (aq_7 shX0_flip_51) uw_0_27) ?_
    refine lv_imul hx hb (oc_104 61 (aq_10 shX0_flip_51)) ?_
    refine lv_aload_n hx hb (oc_44 62 (aq_11 shX0_flip_51)) rfl (lvA3 hl) ?_
    refine gf_RX0_33 S hK hP _ (exl (xf_1 (by omega))) (v := .int ((Fn 123) k0)) rfl (oc_180 63 (aq_12 shX0_flip_51) uw_0_33) ?_
    refine lv_imul hx hb (oc_104 66 (aq_15 shX0_flip_51)) ?_
    refine lv_iadd hx hb (oc_96 67 (aq_16 shX0_flip_51)) ?_
    refine pf_RX0_30 S hK hP hD hS _ (exr (m := 0) rfl) (v := .int (x1 + (((-1) * ((Fn 122) k0)) * ((Fn 123) k0)))) (Nat.le_of_ble_eq_true rfl) rfl rfl (oc_181 68 (aq_17 shX0_flip_51) uw_0_30) (fun H locs hP hD hS => ?_)
    have hP : va_P D vwCl ((wX cI (D.1 99) zz g ad cn In Fn) ++ (([(bo, .inr (1, [.ref w, .int (x1 + (((-1) * ((Fn 122) k0)) * ((Fn 123) k0))), .int x2, .int x3, .int (x4 ^^^ (1 <<< (v0 &&& 31))), .int (x5 + (-1)), .int (x6 + ((-1) * ((Fn 122) k0))), .int x7]))] : va_W) ++ ws)) H := va_P_eq (exs_r rfl) hP
    have hD : va_D A ((wX cI (D.1 99) zz g ad cn In Fn) ++ (([(bo, .inr (1, [.ref w, .int (x1 + (((-1) * ((Fn 122) k0)) * ((Fn 123) k0))), .int x2, .int x3, .int (x4 ^^^ (1 <<< (v0 &&& 31))), .int (x5 + (-1)), .int (x6 + ((-1) * ((Fn 122) k0))), .int x7]))] : va_W) ++ ws)) := va_D_eq (exs_r rfl) hD
    refine lv_aload_n hx hb (oc_42 71 (aq_20 shX0_flip_51)) rfl (lvA1 hl) ?_
    refine lv_dup hx hb (oc_89 72 (aq_21 shX0_flip_51)) rfl ?_
    refine gf_RX0_36 S hK hP _ (exr (m := 0) rfl) (v := .int x2) rfl (oc_180 73 (aq_22 shX0_flip_51) uw_0_36) ?_
    refine lv_iload_n hx hb (oc_29 76 shX0_flip_76) rfl (lvA0 hl) ?_
    refine lv_aload_n hx hb (oc_44 77 (aq_1 shX0_flip_76)) rfl (lvA3 hl) ?_
    refine gf_RX0_27 S hK hP _ (exl (xf_1 (by omega))) (v := .int ((Fn 122) k0)) rfl (oc_180 78 (aq_2 shX0_flip_76) uw_0_27) ?_
    refine lv_imul hx hb (oc_104 81 (aq_5 shX0_flip_76)) ?_
    refine lv_aload_n hx hb (oc_44 82 (aq_6 shX0_flip_76)) rfl (lvA3 hl) ?_
    refine gf_RX0_39 S hK hP _ (exl (xf_1 (by omega))) (v := .int ((Fn 124) k0)) rfl (oc_180 83 (aq_7 shX0_flip_76) uw_0_39) ?_
    refine lv_imul hx hb (oc_104 86 (aq_10 shX0_flip_76)) ?_
    refine lv_iadd hx hb (oc_96 87 (aq_11 shX0_flip_76)) ?_
    refine pf_RX0_36 S hK hP hD hS _ (exr (m := 0) rfl) (v := .int (x2 + (((-1) * ((Fn 122) k0)) * ((Fn 124) k0)))) (Nat.le_of_ble_eq_true rfl) rfl rfl (oc_181 88 (aq_12 shX0_flip_76) uw_0_36) (fun H locs hP hD hS => ?_)
    have hP : va_P D vwCl ((wX cI (D.1 99) zz g ad cn In Fn) ++ (([(bo, .inr (1, [.ref w, .int (x1 + (((-1) * ((Fn 122) k0)) * ((Fn 123) k0))), .int (x2 + (((-1) * ((Fn 122) k0)) * ((Fn 124) k0))), .int x3, .int (x4 ^^^ (1 <<< (v0 &&& 31))), .int (x5 + (-1)), .int (x6 + ((-1) * ((Fn 122) k0))), .int x7]))] : va_W) ++ ws)) H := va_P_eq (exs_r rfl) hP
    have hD : va_D A ((wX cI (D.1 99) zz g ad cn In Fn) ++ (([(bo, .inr (1, [.ref w, .int (x1 + (((-1) * ((Fn 122) k0)) * ((Fn 123) k0))), .int (x2 + (((-1) * ((Fn 122) k0)) * ((Fn 124) k0))), .int x3, .int (x4 ^^^ (1 <<< (v0 &&& 31))), .int (x5 + (-1)), .int (x6 + ((-1) * ((Fn 122) k0))), .int x7]))] : va_W) ++ ws)) := va_D_eq (exs_r rfl) hD
    exact W.vret hx hb hr (fun t ht hW => ⟨⟨(ad, cn, In, Fn, (([(bo, .inr (1, [.ref w, .int (x1 + (((-1) * ((Fn 122) k0)) * ((Fn 123) k0))), .int (x2 + (((-1) * ((Fn 122) k0)) * ((Fn 124) k0))), .int x3, .int (x4 ^^^ (1 <<< (v0 &&& 31))), .int (x5 + (-1)), .int (x6 + ((-1) * ((Fn 122) k0))), .int x7]))] : va_W) ++ ws)), rfl, ⟨rfl, rfl, rfl, rfl, (-1), Or.inl ⟨rfl, h_2⟩, rfl⟩, by rw [ht]; exact hP, hD⟩, hS.F ht⟩) hS.2.2 (oc_177 91 (aq_15 shX0_flip_76))
  ·
    refine lv_if_eq (tgt := 12) hx hb (oc_153 5 (aq_5 shX0_flip_0) sgw_0_7) rfl (fun _ => ?_) (fun h => absurd h cq_eq_0_0)
    refine lv_iconst (v := 1) hx hb (oc_4 12 (aq_12 shX0_flip_0)) kic_1 ?_
    refine lv_istore_n (lv' := [(3, .int 1), (0, .ref bo), (1, .int v0), (2, .ref (ad 11 k0))]) hx hb (oc_62 13 (aq_13 shX0_flip_0)) rfl hl (ltb rfl) rfl (fun ls hl => ?_)
    refine lv_aload_n hx hb (oc_42 14 (aq_14 shX0_flip_0)) rfl (lvA1 hl) ?_
    refine lv_dup hx hb (oc_89 15 (aq_15 shX0_flip_0)) rfl ?_
    refine gf_RX0_13 S hK hP _ (exr (m := 0) rfl) (v := .int x4) rfl (oc_180 16 (aq_16 shX0_flip_0) uw_0_13) ?_
    refine lv_iconst (v := 1) hx hb (oc_4 19 (aq_19 shX0_flip_0)) kic_1 ?_
    refine lv_iload_n hx hb (oc_27 20 (aq_20 shX0_flip_0)) rfl (lvA2 hl) ?_
    refine lv_ishl hx hb (oc_120 21 (aq_21 shX0_flip_0)) ?_
    refine lv_ixor hx hb (oc_130 22 (aq_22 shX0_flip_0)) ?_
    refine pf_RX0_13 S hK hP hD hS _ (exr (m := 0) rfl) (v := .int (x4 ^^^ (1 <<< (v0 &&& 31)))) (Nat.le_of_ble_eq_true rfl) rfl rfl (oc_181 23 (aq_23 shX0_flip_0) uw_0_13) (fun H locs hP hD hS => ?_)
    have hP : va_P D vwCl ((wX cI (D.1 99) zz g ad cn In Fn) ++ (([(bo, .inr (1, [.ref w, .int x1, .int x2, .int x3, .int (x4 ^^^ (1 <<< (v0 &&& 31))), .int x5, .int x6, .int x7]))] : va_W) ++ ws)) H := va_P_eq (exs_r rfl) hP
    have hD : va_D A ((wX cI (D.1 99) zz g ad cn In Fn) ++ (([(bo, .inr (1, [.ref w, .int x1, .int x2, .int x3, .int (x4 ^^^ (1 <<< (v0 &&& 31))), .int x5, .int x6, .int x7]))] : va_W) ++ ws)) := va_D_eq (exs_r rfl) hD
    refine lv_aload_n hx hb (oc_42 26 shX0_flip_26) rfl (lvA1 hl) ?_
    refine lv_dup hx hb (oc_89 27 (aq_1 shX0_flip_26)) rfl ?_
    refine gf_RX0_21 S hK hP _ (exr (m := 0) rfl) (v := .int x5) rfl (oc_180 28 (aq_2 shX0_flip_26) uw_0_21) ?_
    refine lv_iload_n hx hb (oc_29 31 (aq_5 shX0_flip_26)) rfl (lvA0 hl) ?_
    refine lv_iadd hx hb (oc_96 32 (aq_6 shX0_flip_26)) ?_
    refine pf_RX0_21 S hK hP hD hS _ (exr (m := 0) rfl) (v := .int (x5 + 1)) (Nat.le_of_ble_eq_true rfl) rfl rfl (oc_181 33 (aq_7 shX0_flip_26) uw_0_21) (fun H locs hP hD hS => ?_)
    have hP : va_P D vwCl ((wX cI (D.1 99) zz g ad cn In Fn) ++ (([(bo, .inr (1, [.ref w, .int x1, .int x2, .int x3, .int (x4 ^^^ (1 <<< (v0 &&& 31))), .int (x5 + 1), .int x6, .int x7]))] : va_W) ++ ws)) H := va_P_eq (exs_r rfl) hP
    have hD : va_D A ((wX cI (D.1 99) zz g ad cn In Fn) ++ (([(bo, .inr (1, [.ref w, .int x1, .int x2, .int x3, .int (x4 ^^^ (1 <<< (v0 &&& 31))), .int (x5 + 1), .int x6, .int x7]))] : va_W) ++ ws)) := va_D_eq (exs_r rfl) hD
    refine lv_aload_n hx hb (oc_42 36 (aq_10 shX0_flip_26)) rfl (lvA1 hl) ?_
    refine lv_dup hx hb (oc_89 37 (aq_11 shX0_flip_26)) rfl ?_
    refine gf_RX0_24 S hK hP _ (exr (m := 0) rfl) (v := .int x6) rfl (oc_180 38 (aq_12 shX0_flip_26) uw_0_24) ?_
    refine lv_iload_n hx hb (oc_29 41 (aq_15 shX0_flip_26)) rfl (lvA0 hl) ?_
    refine lv_aload_n hx hb (oc_44 42 (aq_16 shX0_flip_26)) rfl (lvA3 hl) ?_
    refine gf_RX0_27 S hK hP _ (exl (xf_1 (by omega))) (v := .int ((Fn 122) k0)) rfl (oc_180 43 (aq_17 shX0_flip_26) uw_0_27) ?_
    refine lv_imul hx hb (oc_104 46 (aq_20 shX0_flip_26)) ?_
    refine lv_iadd hx hb (oc_96 47 (aq_21 shX0_flip_26)) ?_
    refine pf_RX0_24 S hK hP hD hS _ (exr (m := 0) rfl) (v := .int (x6 + (1 * ((Fn 122) k0)))) (Nat.le_of_ble_eq_true rfl) rfl rfl (oc_181 48 (aq_22 shX0_flip_26) uw_0_24) (fun H locs hP hD hS => ?_)
    have hP : va_P D vwCl ((wX cI (D.1 99) zz g ad cn In Fn) ++ (([(bo, .inr (1, [.ref w, .int x1, .int x2, .int x3, .int (x4 ^^^ (1 <<< (v0 &&& 31))), .int (x5 + 1), .int (x6 + (1 * ((Fn 122) k0))), .int x7]))] : va_W) ++ ws)) H := va_P_eq (exs_r rfl) hP
    have hD : va_D A ((wX cI (D.1 99) zz g ad cn In Fn) ++ (([(bo, .inr (1, [.ref w, .int x1, .int x2, .int x3, .int (x4 ^^^ (1 <<< (v0 &&& 31))), .int (x5 + 1), .int (x6 + (1 * ((Fn 122) k0))), .int x7]))] : va_W) ++ ws)) := va_D_eq (exs_r rfl) hD
    refine lv_aload_n hx hb (oc_42 51 shX0_flip_51) rfl (lvA1 hl) ?_
    refine lv_dup hx hb (oc_89 52 (aq_1 shX0_flip_51)) rfl ?_
    refine gf_RX0_30 S hK hP _ (exr (m := 0) rfl) (v := .int x1) rfl (oc_180 53 (aq_2 shX0_flip_51) uw_0_30) ?_
    refine lv_iload_n hx hb (oc_29 56 (aq_5 shX0_flip_51)) rfl (lvA0 hl) ?_
    refine lv_aload_n hx hb (oc_44 57 (aq_6 shX0_flip_51)) rfl (lvA3 hl) ?_
    refine gf_RX0_27 S hK hP _ (exl (xf_1 (by omega))) (v := .int ((Fn 122) k0)) rfl (oc_180 58 (aq_7 shX0_flip_51) uw_0_27) ?_
    refine lv_imul hx hb (oc_104 61 (aq_10 shX0_flip_51)) ?_
    refine lv_aload_n hx hb (oc_44 62 (aq_11 shX0_flip_51)) rfl (lvA3 hl) ?_
    refine gf_RX0_33 S hK hP _ (exl (xf_1 (by omega))) (v := .int ((Fn 123) k0)) rfl (oc_180 63 (aq_12 shX0_flip_51) uw_0_33) ?_
    refine lv_imul hx hb (oc_104 66 (aq_15 shX0_flip_51)) ?_
    refine lv_iadd hx hb (oc_96 67 (aq_16 shX0_flip_51)) ?_
    refine pf_RX0_30 S hK hP hD hS _ (exr (m := 0) rfl) (v := .int (x1 + ((1 * ((Fn 122) k0)) * ((Fn 123) k0)))) (Nat.le_of_ble_eq_true rfl) rfl rfl (oc_181 68 (aq_17 shX0_flip_51) uw_0_30) (fun H locs hP hD hS => ?_)
    have hP : va_P D vwCl ((wX cI (D.1 99) zz g ad cn In Fn) ++ (([(bo, .inr (1, [.ref w, .int (x1 + ((1 * ((Fn 122) k0)) * ((Fn 123) k0))), .int x2, .int x3, .int (x4 ^^^ (1 <<< (v0 &&& 31))), .int (x5 + 1), .int (x6 + (1 * ((Fn 122) k0))), .int x7]))] : va_W) ++ ws)) H := va_P_eq (exs_r rfl) hP
    have hD : va_D A ((wX cI (D.1 99) zz g ad cn In Fn) ++ (([(bo, .inr (1, [.ref w, .int (x1 + ((1 * ((Fn 122) k0)) * ((Fn 123) k0))), .int x2, .int x3, .int (x4 ^^^ (1 <<< (v0 &&& 31))), .int (x5 + 1), .int (x6 + (1 * ((Fn 122) k0))), .int x7]))] : va_W) ++ ws)) := va_D_eq (exs_r rfl) hD
    refine lv_aload_n hx hb (oc_42 71 (aq_20 shX0_flip_51)) rfl (lvA1 hl) ?_
    refine lv_dup hx hb (oc_89 72 (aq_21 shX0_flip_51)) rfl ?_
    refine gf_RX0_36 S hK hP _ (exr (m := 0) rfl) (v := .int x2) rfl (oc_180 73 (aq_22 shX0_flip_51) uw_0_36) ?_
    refine lv_iload_n hx hb (oc_29 76 shX0_flip_76) rfl (lvA0 hl) ?_
    refine lv_aload_n hx hb (oc_44 77 (aq_1 shX0_flip_76)) rfl (lvA3 hl) ?_
    refine gf_RX0_27 S hK hP _ (exl (xf_1 (by omega))) (v := .int ((Fn 122) k0)) rfl (oc_180 78 (aq_2 shX0_flip_76) uw_0_27) ?_
    refine lv_imul hx hb (oc_104 81 (aq_5 shX0_flip_76)) ?_
    refine lv_aload_n hx hb (oc_44 82 (aq_6 shX0_flip_76)) rfl (lvA3 hl) ?_
    refine gf_RX0_39 S hK hP _ (exl (xf_1 (by omega))) (v := .int ((Fn 124) k0)) rfl (oc_180 83 (aq_7 shX0_flip_76) uw_0_39) ?_
    refine lv_imul hx hb (oc_104 86 (aq_10 shX0_flip_76)) ?_
    refine lv_iadd hx hb (oc_96 87 (aq_11 shX0_flip_76)) ?_
    refine pf_RX0_36 S hK hP hD hS _ (exr (m := 0) rfl) (v := .int (x2 + ((1 * ((Fn 122) k0)) * ((Fn 124) k0)))) (Nat.le_of_ble_eq_true rfl) rfl rfl (oc_181 88 (aq_12 shX0_flip_76) uw_0_36) (fun H locs hP hD hS => ?_)
    have hP : va_P D vwCl ((wX cI (D.1 99) zz g ad cn In Fn) ++ (([(bo, .inr (1, [.ref w, .int (x1 + ((1 * ((Fn 122) k0)) * ((Fn 123) k0))), .int (x2 + ((1 * ((Fn 122) k0)) * ((Fn 124) k0))), .int x3, .int (x4 ^^^ (1 <<< (v0 &&& 31))), .int (x5 + 1), .int (x6 + (1 * ((Fn 122) k0))), .int x7]))] : va_W) ++ ws)) H := va_P_eq (exs_r rfl) hP
    have hD : va_D A ((wX cI (D.1 99) zz g ad cn In Fn) ++ (([(bo, .inr (1, [.ref w, .int (x1 + ((1 * ((Fn 122) k0)) * ((Fn 123) k0))), .int (x2 + ((1 * ((Fn 122) k0)) * ((Fn 124) k0))), .int x3, .int (x4 ^^^ (1 <<< (v0 &&& 31))), .int (x5 + 1), .int (x6 + (1 * ((Fn 122) k0))), .int x7]))] : va_W) ++ ws)) := va_D_eq (exs_r rfl) hD
    exact W.vret hx hb hr (fun t ht hW => ⟨⟨(ad, cn, In, Fn, (([(bo, .inr (1, [.ref w, .int (x1 + ((1 * ((Fn 122) k0)) * ((Fn 123) k0))), .int (x2 + ((1 * ((Fn 122) k0)) * ((Fn 124) k0))), .int x3, .int (x4 ^^^ (1 <<< (v0 &&& 31))), .int (x5 + 1), .int (x6 + (1 * ((Fn 122) k0))), .int x7]))] : va_W) ++ ws)), rfl, ⟨rfl, rfl, rfl, rfl, 1, Or.inr ⟨rfl, h_2⟩, rfl⟩, by rw [ht]; exact hP, hD⟩, hS.F ht⟩) hS.2.2 (oc_177 91 (aq_15 shX0_flip_76))
end

section
/-- what a rule of the grammar keeps, brackets open: o; depth of calls: d -/
def RDQ (y : MethodName) (b : ByteArray) (n : Nat) (l : Launch) (D : va_G) (cI cB cZ : ClassId) (zz qq vv : Nat) (bt : Nat → Int32) (g : Nat → Nat) (o : Int32) (d : Nat) : Prop := ∀ (ad : Nat → Nat → Nat) (cn : Nat → Nat) (In : Nat → Int32) (Fn : Nat → Nat → Int32) (sz : Nat), CBX cn → ad 4 2 = g 40 → ad 4 1 < cn 6 → cn 31 ≤ cn 32 → cn 32 ≤ 160 → (Fn 199 (ad 4 1)).toInt ≤ 160 → Met l y (CWS y b n none) (RM d 0 0) (PBx [.ref (g 6), .int o] D cI cB cZ zz qq vv bt (wX cI (D.1 99) zz g ad cn In Fn) sz) (va_Qv (fun (u : (Nat → Nat) × (Nat → Int32) × (Nat → Nat → Int32)) => (fun c2 I2 F2 => Fr [31, 32] [33] [195, 301] cn In Fn c2 I2 F2 ∧ CBX c2 ∧ (cn 31 ≤ c2 31 ∧ c2 31 ≤ c2 32 ∧ c2 32 ≤ cn 32)) u.1 u.2.1 u.2.2) (fun (u : (Nat → Nat) × (Nat → Int32) × (Nat → Nat → Int32)) (t : State) => va_P D vwCl (wX cI (D.1 99) zz g ad u.1 u.2.1 u.2.2) t.heap ∧ va_D (va_A (wX cI (D.1 99) zz g ad cn In Fn) sz) (wX cI (D.1 99) zz g ad u.1 u.2.1 u.2.2)) (va_A (wX cI (D.1 99) zz g ad cn In Fn) sz)) 0 0 (va_A (wX cI (D.1 99) zz g ad cn In Fn) sz)

set_option maxRecDepth 100000 in
theorem hin_RX5 : ∀ w ∈ u_ws RX5 TX5 6, w ∈ wT := hin_all (C := RX5) (T := TX5) (n := 6) (hin_s (hin_s (hin_s (hin_s (hin_s (hin_s (fun k hk => absurd hk (Nat.not_lt_zero k)) (wk1_8 8 rfl rfl)) (wk1_8 10 rfl rfl)) (wk1_9 0 rfl rfl)) (wk1_9 2 rfl rfl)) (wk1_9 4 rfl rfl)) (wk1_9 6 rfl rfl))
set_option maxRecDepth 100000 in
theorem gf_RX5_31 {p : Program} {l : Launch} {e : Env} {R : Room} {s : State} {m : MethodId} {args : Array Value} {below : List Frame} {meth : Method} {c : Code} {H : Heap} {locs : List Loc} {cells slots : Nat} {Q : State → Prop} {cc : ByteArray} {nL pc : Nat} {D : va_G} {cI cB cZ : ClassId} {ws : va_W} {rest : List Value} {ls : Array Slot} {a : Nat} {fs : List Value} {v : Value} (S : SF p m c cc nL s args RX5) (hK : KK D cI cB cZ s) (hP : va_P D vwCl ws H) (q0 : Nat) (he : ws[q0]? = some (a, .inr (6, fs))) (hv : fs[3]? = some v) (hdg : decode cc pc = .ok (.getfield 31, 3)) (kk : W p l e R s m args below meth c H locs cells slots Q (F0 m (pc + 3) ls (v :: rest))) : W p l e R s m args below meth c H locs cells slots Q (F0 m pc ls (.ref a :: rest)) :=
  va_get (C := RX5) (T := TX5) (N := 6) S.1 S.2.1 S.2.2.2.2 hin_RX5 S.2.2.2.1 hK.1 hP q0 he rfl 3 (by decide) (S.2.2.2.2 _ (wk1_8 4 rfl rfl)) (fun _ h9 => h9) hv hdg kk
set_option maxRecDepth 100000 in
theorem gf_RX5_34 {p : Program} {l : Launch} {e : Env} {R : Room} {s : State} {m : MethodId} {args : Array Value} {below : List Frame} {meth : Method} {c : Code} {H : Heap} {locs : List Loc} {cells slots : Nat} {Q : State → Prop} {cc : ByteArray} {nL pc : Nat} {D : va_G} {cI cB cZ : ClassId} {ws : va_W} {rest : List Value} {ls : Array Slot} {a : Nat} {fs : List Value} {v : Value} (S : SF p m c cc nL s args RX5) (hK : KK D cI cB cZ s) (hP : va_P D vwCl ws H) (q0 : Nat) (he : ws[q0]? = some (a, .inr (6, fs))) (hv : fs[4]? = some v) (hdg : decode cc pc = .ok (.getfield 34, 3)) (kk : W p l e R s m args below meth c H locs cells slots Q (F0 m (pc + 3) ls (v :: rest))) : W p l e R s m args below meth c H locs cells slots Q (F0 m pc ls (.ref a :: rest)) :=
  va_get (C := RX5) (T := TX5) (N := 6) S.1 S.2.1 S.2.2.2.2 hin_RX5 S.2.2.2.1 hK.1 hP q0 he rfl 4 (by decide) (S.2.2.2.2 _ (wk1_8 5 rfl rfl)) (fun _ h9 => h9) hv hdg kk
set_option maxRecDepth 100000 in
theorem gf_RX5_9 {p : Program} {l : Launch} {e : Env} {R : Room} {s : State} {m : MethodId} {args : Array Value} {below : List Frame} {meth : Method} {c : Code} {H : Heap} {locs : List Loc} {cells slots : Nat} {Q : State → Prop} {cc : ByteArray} {nL pc : Nat} {D : va_G} {cI cB cZ : ClassId} {ws : va_W} {rest : List Value} {ls : Array Slot} {a : Nat} {fs : List Value} {v : Value} (S : SF p m c cc nL s args RX5) (hK : KK D cI cB cZ s) (hP : va_P D vwCl ws H) (q0 : Nat) (he : ws[q0]? = some (a, .inr (6, fs))) (hv : fs[0]? = some v) (hdg : decode cc pc = .ok (.getfield 9, 3)) (kk : W p l e R s m args below meth c H locs cells slots Q (F0 m (pc + 3) ls (v :: rest))) : W p l e R s m args below meth c H locs cells slots Q (F0 m pc ls (.ref a :: rest)) :=
  va_get (C := RX5) (T := TX5) (N := 6) S.1 S.2.1 S.2.2.2.2 hin_RX5 S.2.2.2.1 hK.1 hP q0 he rfl 0 (by decide) (S.2.2.2.2 _ (wk1_8 1 rfl rfl)) (fun _ h9 => h9) hv hdg kk
set_option maxRecDepth 100000 in
theorem gf_RX5_37 {p : Program} {l : Launch} {e : Env} {R : Room} {s : State} {m : MethodId} {args : Array Value} {below : List Frame} {meth : Method} {c : Code} {H : Heap} {locs : List Loc} {cells slots : Nat} {Q : State → Prop} {cc : ByteArray} {nL pc : Nat} {D : va_G} {cI cB cZ : ClassId} {ws : va_W} {rest : List Value} {ls : Array Slot} {a : Nat} {fs : List Value} {v : Value} (S : SF p m c cc nL s args RX5) (hK : KK D cI cB cZ s) (hP : va_P D vwCl ws H) (q0 : Nat) (he : ws[q0]? = some (a, .inr (6, fs))) (hv : fs[5]? = some v) (hdg : decode cc pc = .ok (.getfield 37, 3)) (kk : W p l e R s m args below meth c H locs cells slots Q (F0 m (pc + 3) ls (v :: rest))) : W p l e R s m args below meth c H locs cells slots Q (F0 m pc ls (.ref a :: rest)) :=
  va_get (C := RX5) (T := TX5) (N := 6) S.1 S.2.1 S.2.2.2.2 hin_RX5 S.2.2.2.1 hK.1 hP q0 he rfl 5 (by decide) (S.2.2.2.2 _ (wk1_8 6 rfl rfl)) (fun _ h9 => h9) hv hdg kk
set_option maxRecDepth 100000 in
theorem pf_RX5_37 {p : Program} {l : Launch} {e : Env} {R : Room} {s : State} {m : MethodId} {args : Array Value} {below : List Frame} {meth : Method} {c : Code} {H : Heap} {locs : List Loc} {cells slots : Nat} {Q : State → Prop} {cc : ByteArray} {nL pc : Nat} {D : va_G} {cI cB cZ : ClassId} {ws : va_W} {rest : List Value} {ls : Array Slot} {a : Nat} {fs : List Value} {v : Value} {A : Nat → Prop} {H0 : Heap} (S : SF p m c cc nL s args RX5) (hK : KK D cI cB cZ s) (hP : va_P D vwCl ws H) (hD : va_D A ws) (hS : va_S A H0 H locs) (q0 : Nat) (he : ws[q0]? = some (a, .inr (6, fs))) (hl : 5 < fs.length) (hn : narrow (tyX5 5) v = v) (hfit : fits (tyX5 5) v = true) (hdg : decode cc pc = .ok (.putfield 37, 3)) (kk : ∀ (H1 : Heap) (locs1 : List Loc), va_P D vwCl (ws.set q0 (a, .inr (6, fs.set 5 v))) H1 → va_D A (ws.set q0 (a, .inr (6, fs.set 5 v))) → va_S A H0 H1 locs1 → W p l e R s m args below meth c H1 locs1 cells slots Q (F0 m (pc + 3) ls rest)) : W p l e R s m args below meth c H locs cells slots Q (F0 m pc ls (v :: .ref a :: rest)) :=
  va_put (C := RX5) (T := TX5) (N := 6) S.1 S.2.1 S.2.2.2.2 hin_RX5 tyX5 tyX5_ok nmX5 S.2.2.2.1 hK.1 hP hD hS q0 he rfl 5 (by decide) (S.2.2.2.2 _ (wk1_8 6 rfl rfl)) (fun _ h9 => h9) rfl (tyX5_ok 5 (by decide)) hn hfit hl hdg kk
set_option maxRecDepth 100000 in
theorem pf_RX5_34 {p : Program} {l : Launch} {e : Env} {R : Room} {s : State} {m : MethodId} {args : Array Value} {below : List Frame} {meth : Method} {c : Code} {H : Heap} {locs : List Loc} {cells slots : Nat} {Q : State → Prop} {cc : ByteArray} {nL pc : Nat} {D : va_G} {cI cB cZ : ClassId} {ws : va_W} {rest : List Value} {ls : Array Slot} {a : Nat} {fs : List Value} {v : Value} {A : Nat → Prop} {H0 : Heap} (S : SF p m c cc nL s args RX5) (hK : KK D cI cB cZ s) (hP : va_P D vwCl ws H) (hD : va_D A ws) (hS : va_S A H0 H locs) (q0 : Nat) (he : ws[q0]? = some (a, .inr (6, fs))) (hl : 4 < fs.length) (hn : narrow (tyX5 4) v = v) (hfit : fits (tyX5 4) v = true) (hdg : decode cc pc = .ok (.putfield 34, 3)) (kk : ∀ (H1 : Heap) (locs1 : List Loc), va_P D vwCl (ws.set q0 (a, .inr (6, fs.set 4 v))) H1 → va_D A (ws.set q0 (a, .inr (6, fs.set 4 v))) → va_S A H0 H1 locs1 → W p l e R s m args below meth c H1 locs1 cells slots Q (F0 m (pc + 3) ls rest)) : W p l e R s m args below meth c H locs cells slots Q (F0 m pc ls (v :: .ref a :: rest)) :=
  va_put (C := RX5) (T := TX5) (N := 6) S.1 S.2.1 S.2.2.2.2 hin_RX5 tyX5 tyX5_ok nmX5 S.2.2.2.1 hK.1 hP hD hS q0 he rfl 4 (by decide) (S.2.2.2.2 _ (wk1_8 5 rfl rfl)) (fun _ h9 => h9) rfl (tyX5_ok 4 (by decide)) hn hfit hl hdg kk
set_option maxRecDepth 100000 in
theorem kV_RX5_43 : CalV RX5 43 yX5_peek cX5_peek 1 (some .int) 0 := ⟨⟨wk3_5 3 rfl rfl, wk3_5 5 rfl rfl, wT_sel 7 _ rfl rfl rfl, wk1_0 5 rfl rfl, wk3_5 6 rfl rfl⟩, ⟨nmh_6.1, nmh_6.2, pd_1⟩⟩
set_option maxRecDepth 100000 in
theorem kV_RX5_47 : CalV RX5 47 yX5_fail cX5_fail 2 none 1 := ⟨⟨wk3_5 7 rfl rfl, wk3_5 9 rfl rfl, wT_sel 8 _ rfl rfl rfl, wk1_0 5 rfl rfl, wk3_5 10 rfl rfl⟩, ⟨nmh_6.1, nmh_6.2, pd_14⟩⟩
set_option maxRecDepth 100000 in
theorem pf_RX5_31 {p : Program} {l : Launch} {e : Env} {R : Room} {s : State} {m : MethodId} {args : Array Value} {below : List Frame} {meth : Method} {c : Code} {H : Heap} {locs : List Loc} {cells slots : Nat} {Q : State → Prop} {cc : ByteArray} {nL pc : Nat} {D : va_G} {cI cB cZ : ClassId} {ws : va_W} {rest : List Value} {ls : Array Slot} {a : Nat} {fs : List Value} {v : Value} {A : Nat → Prop} {H0 : Heap} (S : SF p m c cc nL s args RX5) (hK : KK D cI cB cZ s) (hP : va_P D vwCl ws H) (hD : va_D A ws) (hS : va_S A H0 H locs) (q0 : Nat) (he : ws[q0]? = some (a, .inr (6, fs))) (hl : 3 < fs.length) (hn : narrow (tyX5 3) v = v) (hfit : fits (tyX5 3) v = true) (hdg : decode cc pc = .ok (.putfield 31, 3)) (kk : ∀ (H1 : Heap) (locs1 : List Loc), va_P D vwCl (ws.set q0 (a, .inr (6, fs.set 3 v))) H1 → va_D A (ws.set q0 (a, .inr (6, fs.set 3 v))) → va_S A H0 H1 locs1 → W p l e R s m args below meth c H1 locs1 cells slots Q (F0 m (pc + 3) ls rest)) : W p l e R s m args below meth c H locs cells slots Q (F0 m pc ls (v :: .ref a :: rest)) :=
  va_put (C := RX5) (T := TX5) (N := 6) S.1 S.2.1 S.2.2.2.2 hin_RX5 tyX5 tyX5_ok nmX5 S.2.2.2.1 hK.1 hP hD hS q0 he rfl 3 (by decide) (S.2.2.2.2 _ (wk1_8 4 rfl rfl)) (fun _ h9 => h9) rfl (tyX5_ok 3 (by decide)) hn hfit hl hdg kk
set_option maxRecDepth 100000 in
theorem gf_RX9_33 {p : Program} {l : Launch} {e : Env} {R : Room} {s : State} {m : MethodId} {args : Array Value} {below : List Frame} {meth : Method} {c : Code} {H : Heap} {locs : List Loc} {cells slots : Nat} {Q : State → Prop} {cc : ByteArray} {nL pc : Nat} {D : va_G} {cI cB cZ : ClassId} {ws : va_W} {rest : List Value} {ls : Array Slot} {a : Nat} {fs : List Value} {v : Value} (S : SF p m c cc nL s args RX9) (hK : KK D cI cB cZ s) (hP : va_P D vwCl ws H) (q0 : Nat) (he : ws[q0]? = some (a, .inr (10, fs))) (hv : fs[5]? = some v) (hdg : decode cc pc = .ok (.getfield 33, 3)) (kk : W p l e R s m args below meth c H locs cells slots Q (F0 m (pc + 3) ls (v :: rest))) : W p l e R s m args below meth c H locs cells slots Q (F0 m pc ls (.ref a :: rest)) :=
  va_get (C := RX9) (T := TX9) (N := 9) S.1 S.2.1 S.2.2.2.2 hin_RX9 S.2.2.2.1 hK.1 hP q0 he rfl 5 (by decide) (S.2.2.2.2 _ (wk1_4 1 rfl rfl)) (fun _ h9 => h9) hv hdg kk
set_option maxRecDepth 100000 in
theorem pf_RX9_33 {p : Program} {l : Launch} {e : Env} {R : Room} {s : State} {m : MethodId} {args : Array Value} {below : List Frame} {meth : Method} {c : Code} {H : Heap} {locs : List Loc} {cells slots : Nat} {Q : State → Prop} {cc : ByteArray} {nL pc : Nat} {D : va_G} {cI cB cZ : ClassId} {ws : va_W} {rest : List Value} {ls : Array Slot} {a : Nat} {fs : List Value} {v : Value} {A : Nat → Prop} {H0 : Heap} (S : SF p m c cc nL s args RX9) (hK : KK D cI cB cZ s) (hP : va_P D vwCl ws H) (hD : va_D A ws) (hS : va_S A H0 H locs) (q0 : Nat) (he : ws[q0]? = some (a, .inr (10, fs))) (hl : 5 < fs.length) (hn : narrow (tyX9 5) v = v) (hfit : fits (tyX9 5) v = true) (hdg : decode cc pc = .ok (.putfield 33, 3)) (kk : ∀ (H1 : Heap) (locs1 : List Loc), va_P D vwCl (ws.set q0 (a, .inr (10, fs.set 5 v))) H1 → va_D A (ws.set q0 (a, .inr (10, fs.set 5 v))) → va_S A H0 H1 locs1 → W p l e R s m args below meth c H1 locs1 cells slots Q (F0 m (pc + 3) ls rest)) : W p l e R s m args below meth c H locs cells slots Q (F0 m pc ls (v :: .ref a :: rest)) :=
  va_put (C := RX9) (T := TX9) (N := 9) S.1 S.2.1 S.2.2.2.2 hin_RX9 tyX9 tyX9_ok nmX9 S.2.2.2.1 hK.1 hP hD hS q0 he rfl 5 (by decide) (S.2.2.2.2 _ (wk1_4 1 rfl rfl)) (fun _ h9 => h9) rfl (tyX9_ok 5 (by decide)) hn hfit hl hdg kk
set_option maxRecDepth 100000 in
theorem kS_RX9_44 : CalS RX9 44 yX7_put cX7_put 3 none 3 := ⟨⟨wk3_6 3 rfl rfl, wk3_1 11 rfl rfl, wk1_0 7 rfl rfl, wk3_2 0 rfl rfl⟩, ⟨nmh_8.1, nmh_8.2, pd_69⟩⟩
set_option maxRecDepth 100000 in
theorem pf_RX9_48 {p : Program} {l : Launch} {e : Env} {R : Room} {s : State} {m : MethodId} {args : Array Value} {below : List Frame} {meth : Method} {c : Code} {H : Heap} {locs : List Loc} {cells slots : Nat} {Q : State → Prop} {cc : ByteArray} {nL pc : Nat} {D : va_G} {cI cB cZ : ClassId} {ws : va_W} {rest : List Value} {ls : Array Slot} {a : Nat} {fs : List Value} {v : Value} {A : Nat → Prop} {H0 : Heap} (S : SF p m c cc nL s args RX9) (hK : KK D cI cB cZ s) (hP : va_P D vwCl ws H) (hD : va_D A ws) (hS : va_S A H0 H locs) (q0 : Nat) (he : ws[q0]? = some (a, .inr (10, fs))) (hl : 8 < fs.length) (hn : narrow (tyX9 8) v = v) (hfit : fits (tyX9 8) v = true) (hdg : decode cc pc = .ok (.putfield 48, 3)) (kk : ∀ (H1 : Heap) (locs1 : List Loc), va_P D vwCl (ws.set q0 (a, .inr (10, fs.set 8 v))) H1 → va_D A (ws.set q0 (a, .inr (10, fs.set 8 v))) → va_S A H0 H1 locs1 → W p l e R s m args below meth c H1 locs1 cells slots Q (F0 m (pc + 3) ls rest)) : W p l e R s m args below meth c H locs cells slots Q (F0 m pc ls (v :: .ref a :: rest)) :=
  va_put (C := RX9) (T := TX9) (N := 9) S.1 S.2.1 S.2.2.2.2 hin_RX9 tyX9 tyX9_ok nmX9 S.2.2.2.1 hK.1 hP hD hS q0 he rfl 8 (by decide) (S.2.2.2.2 _ (wk1_4 4 rfl rfl)) (fun _ h9 => h9) rfl (tyX9_ok 8 (by decide)) hn hfit hl hdg kk
set_option maxRecDepth 100000 in
theorem kS_RX5_106 : CalS RX5 106 yX5_isDigit cX5_isDigit 1 (some .boolean) 1 := ⟨⟨wk3_14 2 rfl rfl, wk3_14 3 rfl rfl, wk1_0 5 rfl rfl, wk3_14 4 rfl rfl⟩, ⟨nmh_6.1, nmh_6.2, pd_15⟩⟩
set_option maxRecDepth 100000 in
theorem gf_RX5_20 {p : Program} {l : Launch} {e : Env} {R : Room} {s : State} {m : MethodId} {args : Array Value} {below : List Frame} {meth : Method} {c : Code} {H : Heap} {locs : List Loc} {cells slots : Nat} {Q : State → Prop} {cc : ByteArray} {nL pc : Nat} {D : va_G} {cI cB cZ : ClassId} {ws : va_W} {rest : List Value} {ls : Array Slot} {a : Nat} {fs : List Value} {v : Value} (S : SF p m c cc nL s args RX5) (hK : KK D cI cB cZ s) (hP : va_P D vwCl ws H) (q0 : Nat) (he : ws[q0]? = some (a, .inr (6, fs))) (hv : fs[1]? = some v) (hdg : decode cc pc = .ok (.getfield 20, 3)) (kk : W p l e R s m args below meth c H locs cells slots Q (F0 m (pc + 3) ls (v :: rest))) : W p l e R s m args below meth c H locs cells slots Q (F0 m pc ls (.ref a :: rest)) :=
  va_get (C := RX5) (T := TX5) (N := 6) S.1 S.2.1 S.2.2.2.2 hin_RX5 S.2.2.2.1 hK.1 hP q0 he rfl 1 (by decide) (S.2.2.2.2 _ (wk1_8 2 rfl rfl)) (fun _ h9 => h9) hv hdg kk
set_option maxRecDepth 100000 in
theorem kV_RX5_75 : CalV RX5 75 yX9_add cX9_add 3 (some .int) 2 := ⟨⟨wk3_14 9 rfl rfl, wk3_14 10 rfl rfl, wk3_14 11 rfl rfl, wk1_0 2 rfl rfl, wk3_15 0 rfl rfl⟩, ⟨nmh_10.1, nmh_10.2, pd_17⟩⟩
set_option maxRecDepth 100000 in
theorem kV_RX5_100 : CalV RX5 100 yJ0_indexOf_0f7a4 cJ0_indexOf_0f7a4 2 (some .int) 1 := ⟨⟨wk3_7 5 rfl rfl, wk3_7 6 rfl rfl, wk3_7 7 rfl rfl, wk1_0 6 rfl rfl, wk3_7 8 rfl rfl⟩, ⟨nmh_16.1, nmh_16.2, pd_8⟩⟩
set_option maxRecDepth 100000 in
theorem kV_RX5_109 : CalV RX5 109 yX5_readNumber cX5_readNumber 3 none 0 := ⟨⟨wk3_14 5 rfl rfl, wk3_14 7 rfl rfl, wT_sel 14 _ rfl rfl rfl, wk1_0 5 rfl rfl, wk3_14 8 rfl rfl⟩, ⟨nmh_6.1, nmh_6.2, pd_2⟩⟩
set_option maxRecDepth 100000 in
theorem kV_RX5_85 : CalV RX5 85 yX5_opens cX5_opens 2 (some .boolean) 1 := ⟨⟨wk3_13 6 rfl rfl, wk3_13 8 rfl rfl, wT_sel 12 _ rfl rfl rfl, wk1_0 5 rfl rfl, wk3_13 9 rfl rfl⟩, ⟨nmh_6.1, nmh_6.2, pd_15⟩⟩
set_option maxRecDepth 100000 in
theorem kV_RX5_56 : CalV RX5 56 yX5_readSum cX5_readSum 3 none 1 := ⟨⟨wk3_6 4 rfl rfl, wk3_6 6 rfl rfl, wT_sel 9 _ rfl rfl rfl, wk1_0 5 rfl rfl, wk3_6 7 rfl rfl⟩, ⟨nmh_6.1, nmh_6.2, pd_14⟩⟩
set_option maxRecDepth 100000 in
theorem kV_RX5_62 : CalV RX5 62 yX5_take cX5_take 2 none 1 := ⟨⟨wk3_13 10 rfl rfl, wk3_14 0 rfl rfl, wT_sel 13 _ rfl rfl rfl, wk1_0 5 rfl rfl, wk3_14 1 rfl rfl⟩, ⟨nmh_6.1, nmh_6.2, pd_5⟩⟩
set_option maxRecDepth 100000 in
theorem kV_RX5_95 : CalV RX5 95 yX5_readFactor cX5_readFactor 4 none 1 := ⟨⟨wk3_7 0 rfl rfl, wk3_7 2 rfl rfl, wT_sel 11 _ rfl rfl rfl, wk1_0 5 rfl rfl, wk3_7 3 rfl rfl⟩, ⟨nmh_6.1, nmh_6.2, pd_14⟩⟩
set_option maxRecDepth 100000 in
theorem kV_RX5_92 : CalV RX5 92 yX5_readTerm cX5_readTerm 3 none 1 := ⟨⟨wk3_6 8 rfl rfl, wk3_6 10 rfl rfl, wT_sel 10 _ rfl rfl rfl, wk1_0 5 rfl rfl, wk3_6 11 rfl rfl⟩, ⟨nmh_6.1, nmh_6.2, pd_14⟩⟩
set_option maxRecDepth 100000 in
theorem kV_RX5_89 : CalV RX5 89 yX5_readRelation cX5_readRelation 2 (some .int) 0 := ⟨⟨wk3_16 5 rfl rfl, wk3_16 7 rfl rfl, wT_sel 18 _ rfl rfl rfl, wk1_0 5 rfl rfl, wk3_16 8 rfl rfl⟩, ⟨nmh_6.1, nmh_6.2, pd_1⟩⟩
set_option maxRecDepth 100000 in
theorem kV_RX5_66 : CalV RX5 66 yX5_readCondition cX5_readCondition 3 none 1 := ⟨⟨wk3_15 5 rfl rfl, wk3_15 7 rfl rfl, wT_sel 15 _ rfl rfl rfl, wk1_0 5 rfl rfl, wk3_15 8 rfl rfl⟩, ⟨nmh_6.1, nmh_6.2, pd_14⟩⟩
set_option maxRecDepth 100000 in
theorem kV_RX5_82 : CalV RX5 82 yX5_readPiece cX5_readPiece 4 none 1 := ⟨⟨wk3_16 1 rfl rfl, wk3_16 3 rfl rfl, wT_sel 17 _ rfl rfl rfl, wk1_0 5 rfl rfl, wk3_16 4 rfl rfl⟩, ⟨nmh_6.1, nmh_6.2, pd_14⟩⟩
set_option maxRecDepth 100000 in
theorem kV_RX5_79 : CalV RX5 79 yX9_aim cX9_aim 2 none 1 := ⟨⟨wk3_16 9 rfl rfl, wk3_16 10 rfl rfl, wk3_16 11 rfl rfl, wk1_0 2 rfl rfl, wk3_17 0 rfl rfl⟩, ⟨nmh_10.1, nmh_10.2, pd_14⟩⟩
set_option maxRecDepth 100000 in
theorem kV_RX5_72 : CalV RX5 72 yX5_readPart cX5_readPart 3 none 1 := ⟨⟨wk3_15 9 rfl rfl, wk3_15 11 rfl rfl, wT_sel 16 _ rfl rfl rfl, wk1_0 5 rfl rfl, wk3_16 0 rfl rfl⟩, ⟨nmh_6.1, nmh_6.2, pd_14⟩⟩
noncomputable def sxX5_peek_44 : List UInt8 := []
noncomputable def sxX5_peek_26 : List UInt8 := 190 :: 162 :: 0 :: 15 :: 42 :: 180 :: 0 :: 9 :: 42 :: 180 :: 0 :: 31 :: 46 :: 167 :: 0 :: 4 :: 2 :: 172 :: sxX5_peek_44
theorem shX5_peek_0 : cX5_peek.data.toList.drop 0 = 42 :: 180 :: 0 :: 31 :: 155 :: 0 :: 38 :: 42 :: 180 :: 0 :: 31 :: 42 :: 180 :: 0 :: 34 :: 162 :: 0 :: 27 :: 42 :: 180 :: 0 :: 31 :: 42 :: 180 :: 0 :: 9 :: sxX5_peek_26 := rfl
theorem shX5_peek_26 : cX5_peek.data.toList.drop 26 = 190 :: 162 :: 0 :: 15 :: 42 :: 180 :: 0 :: 9 :: 42 :: 180 :: 0 :: 31 :: 46 :: 167 :: 0 :: 4 :: 2 :: 172 :: sxX5_peek_44 := aq_26 shX5_peek_0
noncomputable def sxX5_fail_30 : List UInt8 := []
noncomputable def sxX5_fail_26 : List UInt8 := 181 :: 0 :: 34 :: 177 :: sxX5_fail_30
theorem shX5_fail_0 : cX5_fail.data.toList.drop 0 = 42 :: 180 :: 0 :: 37 :: 154 :: 0 :: 25 :: 42 :: 17 :: 3 :: 232 :: 27 :: 104 :: 42 :: 180 :: 0 :: 31 :: 96 :: 181 :: 0 :: 37 :: 42 :: 42 :: 180 :: 0 :: 31 :: sxX5_fail_26 := rfl
theorem shX5_fail_26 : cX5_fail.data.toList.drop 26 = 181 :: 0 :: 34 :: 177 :: sxX5_fail_30 := aq_26 shX5_fail_0
theorem dX5_fail_29 : decode cX5_fail 29 = .ok (.return_, 1) := oc_177 29 (aq_3 shX5_fail_26)
noncomputable def sxX5_take_27 : List UInt8 := []
noncomputable def sxX5_take_26 : List UInt8 := 177 :: sxX5_take_27
theorem shX5_take_0 : cX5_take.data.toList.drop 0 = 42 :: 182 :: 0 :: 43 :: 27 :: 160 :: 0 :: 16 :: 42 :: 89 :: 180 :: 0 :: 31 :: 4 :: 96 :: 181 :: 0 :: 31 :: 167 :: 0 :: 8 :: 42 :: 4 :: 182 :: 0 :: 47 :: sxX5_take_26 := rfl
theorem shX5_take_26 : cX5_take.data.toList.drop 26 = 177 :: sxX5_take_27 := aq_26 shX5_take_0
theorem dX5_take_26 : decode cX5_take 26 = .ok (.return_, 1) := oc_177 26 shX5_take_26
noncomputable def sxX5_opens_25 : List UInt8 := []
noncomputable def sxX5_opens_24 : List UInt8 := 172 :: sxX5_opens_25
theorem shX5_opens_0 : cX5_opens.data.toList.drop 0 = 27 :: 16 :: 6 :: 161 :: 0 :: 10 :: 42 :: 8 :: 182 :: 0 :: 47 :: 3 :: 172 :: 42 :: 89 :: 180 :: 0 :: 31 :: 4 :: 96 :: 181 :: 0 :: 31 :: 4 :: sxX5_opens_24 := rfl
theorem shX5_opens_24 : cX5_opens.data.toList.drop 24 = 172 :: sxX5_opens_25 := aq_24 shX5_opens_0
theorem dX5_opens_0 : decode cX5_opens 0 = .ok (.iload_n 1, 1) := oc_27 0 shX5_opens_0
theorem dX5_opens_1 : decode cX5_opens 1 = .ok (.bipush 6, 2) := oc_16 1 (aq_1 shX5_opens_0) sgb_6
theorem dX5_opens_3 : decode cX5_opens 3 = .ok (.if_icmp .lt 10, 3) := oc_161 3 (aq_3 shX5_opens_0) sgw_0_10
noncomputable def sxX9_add_51 : List UInt8 := []
noncomputable def sxX9_add_48 : List UInt8 := 4 :: 100 :: 172 :: sxX9_add_51
noncomputable def sxX9_add_24 : List UInt8 := 180 :: 0 :: 33 :: 27 :: 16 :: 20 :: 120 :: 28 :: 128 :: 79 :: 42 :: 89 :: 180 :: 0 :: 33 :: 4 :: 96 :: 181 :: 0 :: 33 :: 42 :: 180 :: 0 :: 33 :: sxX9_add_48
theorem shX9_add_0 : cX9_add.data.toList.drop 0 = 42 :: 180 :: 0 :: 33 :: 155 :: 0 :: 30 :: 42 :: 180 :: 0 :: 33 :: 42 :: 180 :: 0 :: 17 :: 190 :: 162 :: 0 :: 18 :: 42 :: 180 :: 0 :: 17 :: 42 :: sxX9_add_24 := rfl
theorem shX9_add_24 : cX9_add.data.toList.drop 24 = 180 :: 0 :: 33 :: 27 :: 16 :: 20 :: 120 :: 28 :: 128 :: 79 :: 42 :: 89 :: 180 :: 0 :: 33 :: 4 :: 96 :: 181 :: 0 :: 33 :: 42 :: 180 :: 0 :: 33 :: sxX9_add_48 := aq_24 shX9_add_0
theorem shX9_add_48 : cX9_add.data.toList.drop 48 = 4 :: 100 :: 172 :: sxX9_add_51 := aq_24 shX9_add_24
theorem dX9_add_34 : decode cX9_add 34 = .ok (.aload_n 0, 1) := oc_42 34 (aq_10 shX9_add_24)
theorem dX9_add_35 : decode cX9_add 35 = .ok (.dup, 1) := oc_89 35 (aq_11 shX9_add_24)
theorem dX9_add_36 : decode cX9_add 36 = .ok (.getfield 33, 3) := oc_180 36 (aq_12 shX9_add_24) uw_0_33
theorem dX9_add_39 : decode cX9_add 39 = .ok (.iconst 1, 1) := oc_4 39 (aq_15 shX9_add_24)
theorem dX9_add_40 : decode cX9_add 40 = .ok (.iadd, 1) := oc_96 40 (aq_16 shX9_add_24)
theorem dX9_add_41 : decode cX9_add 41 = .ok (.putfield 33, 3) := oc_181 41 (aq_17 shX9_add_24) uw_0_33
theorem dX9_add_44 : decode cX9_add 44 = .ok (.aload_n 0, 1) := oc_42 44 (aq_20 shX9_add_24)
theorem dX9_add_45 : decode cX9_add 45 = .ok (.getfield 33, 3) := oc_180 45 (aq_21 shX9_add_24) uw_0_33
theorem dX9_add_48 : decode cX9_add 48 = .ok (.iconst 1, 1) := oc_4 48 shX9_add_48
theorem dX9_add_49 : decode cX9_add 49 = .ok (.isub, 1) := oc_100 49 (aq_1 shX9_add_48)
theorem dX9_add_50 : decode cX9_add 50 = .ok (.ireturn, 1) := oc_172 50 (aq_2 shX9_add_48)
noncomputable def sxX9_aim_25 : List UInt8 := []
noncomputable def sxX9_aim_24 : List UInt8 := 177 :: sxX9_aim_25
theorem shX9_aim_0 : cX9_aim.data.toList.drop 0 = 42 :: 180 :: 0 :: 17 :: 27 :: 42 :: 180 :: 0 :: 17 :: 27 :: 184 :: 0 :: 37 :: 18 :: 43 :: 126 :: 42 :: 180 :: 0 :: 33 :: 128 :: 184 :: 0 :: 44 :: sxX9_aim_24 := rfl
theorem shX9_aim_24 : cX9_aim.data.toList.drop 24 = 177 :: sxX9_aim_25 := aq_24 shX9_aim_0
noncomputable def sxX9_startSum_16 : List UInt8 := []
theorem shX9_startSum_0 : cX9_startSum.data.toList.drop 0 = 42 :: 180 :: 0 :: 21 :: 42 :: 180 :: 0 :: 48 :: 42 :: 180 :: 0 :: 33 :: 184 :: 0 :: 44 :: 177 :: sxX9_startSum_16 := rfl
noncomputable def sxX9_startCondition_16 : List UInt8 := []
theorem shX9_startCondition_0 : cX9_startCondition.data.toList.drop 0 = 42 :: 180 :: 0 :: 24 :: 42 :: 180 :: 0 :: 48 :: 42 :: 180 :: 0 :: 33 :: 184 :: 0 :: 44 :: 177 :: sxX9_startCondition_16 := rfl
noncomputable def sxX9_endClause_26 : List UInt8 := []
noncomputable def sxX9_endClause_25 : List UInt8 := 177 :: sxX9_endClause_26
theorem shX9_endClause_0 : cX9_endClause.data.toList.drop 0 = 42 :: 180 :: 0 :: 27 :: 42 :: 180 :: 0 :: 48 :: 42 :: 180 :: 0 :: 33 :: 184 :: 0 :: 44 :: 42 :: 89 :: 180 :: 0 :: 48 :: 4 :: 96 :: 181 :: 0 :: 48 :: sxX9_endClause_25 := rfl
theorem shX9_endClause_25 : cX9_endClause.data.toList.drop 25 = 177 :: sxX9_endClause_26 := aq_25 shX9_endClause_0
noncomputable def sxX5_isDigit_18 : List UInt8 := []
theorem shX5_isDigit_0 : cX5_isDigit.data.toList.drop 0 = 26 :: 16 :: 48 :: 161 :: 0 :: 13 :: 26 :: 16 :: 57 :: 163 :: 0 :: 7 :: 4 :: 167 :: 0 :: 4 :: 3 :: 172 :: sxX5_isDigit_18 := rfl
noncomputable def sxX5_readRelation_66 : List UInt8 := []
noncomputable def sxX5_readRelation_49 : List UInt8 := 167 :: 0 :: 16 :: 27 :: 16 :: 62 :: 160 :: 0 :: 8 :: 16 :: 9 :: 167 :: 0 :: 5 :: 16 :: 10 :: 172 :: sxX5_readRelation_66
noncomputable def sxX5_readRelation_24 : List UInt8 := 89 :: 180 :: 0 :: 31 :: 4 :: 96 :: 181 :: 0 :: 31 :: 167 :: 0 :: 8 :: 42 :: 4 :: 182 :: 0 :: 47 :: 27 :: 16 :: 60 :: 160 :: 0 :: 8 :: 16 :: 8 :: sxX5_readRelation_49
theorem shX5_readRelation_0 : cX5_readRelation.data.toList.drop 0 = 42 :: 182 :: 0 :: 43 :: 60 :: 27 :: 16 :: 60 :: 159 :: 0 :: 15 :: 27 :: 16 :: 62 :: 159 :: 0 :: 9 :: 27 :: 16 :: 61 :: 160 :: 0 :: 16 :: 42 :: sxX5_readRelation_24 := rfl
theorem shX5_readRelation_24 : cX5_readRelation.data.toList.drop 24 = 89 :: 180 :: 0 :: 31 :: 4 :: 96 :: 181 :: 0 :: 31 :: 167 :: 0 :: 8 :: 42 :: 4 :: 182 :: 0 :: 47 :: 27 :: 16 :: 60 :: 160 :: 0 :: 8 :: 16 :: 8 :: sxX5_readRelation_49 := aq_24 shX5_readRelation_0
theorem shX5_readRelation_49 : cX5_readRelation.data.toList.drop 49 = 167 :: 0 :: 16 :: 27 :: 16 :: 62 :: 160 :: 0 :: 8 :: 16 :: 9 :: 167 :: 0 :: 5 :: 16 :: 10 :: 172 :: sxX5_readRelation_66 := aq_25 shX5_readRelation_24
theorem dX5_readRelation_23 : decode cX5_readRelation 23 = .ok (.aload_n 0, 1) := oc_42 23 (aq_23 shX5_readRelation_0)
theorem dX5_readRelation_24 : decode cX5_readRelation 24 = .ok (.dup, 1) := oc_89 24 shX5_readRelation_24
theorem dX5_readRelation_25 : decode cX5_readRelation 25 = .ok (.getfield 31, 3) := oc_180 25 (aq_1 shX5_readRelation_24) uw_0_31
theorem dX5_readRelation_28 : decode cX5_readRelation 28 = .ok (.iconst 1, 1) := oc_4 28 (aq_4 shX5_readRelation_24)
theorem dX5_readRelation_29 : decode cX5_readRelation 29 = .ok (.iadd, 1) := oc_96 29 (aq_5 shX5_readRelation_24)
theorem dX5_readRelation_30 : decode cX5_readRelation 30 = .ok (.putfield 31, 3) := oc_181 30 (aq_6 shX5_readRelation_24) uw_0_31
theorem dX5_readRelation_33 : decode cX5_readRelation 33 = .ok (.goto 8, 3) := oc_167 33 (aq_9 shX5_readRelation_24) sgw_0_8
theorem dX5_readRelation_41 : decode cX5_readRelation 41 = .ok (.iload_n 1, 1) := oc_27 41 (aq_17 shX5_readRelation_24)
theorem dX5_readRelation_42 : decode cX5_readRelation 42 = .ok (.bipush 60, 2) := oc_16 42 (aq_18 shX5_readRelation_24) sgb_60
theorem dX5_readRelation_44 : decode cX5_readRelation 44 = .ok (.if_icmp .ne 8, 3) := oc_160 44 (aq_20 shX5_readRelation_24) sgw_0_8
theorem dX5_readRelation_47 : decode cX5_readRelation 47 = .ok (.bipush 8, 2) := oc_16 47 (aq_23 shX5_readRelation_24) sgb_8
theorem dX5_readRelation_49 : decode cX5_readRelation 49 = .ok (.goto 16, 3) := oc_167 49 shX5_readRelation_49 sgw_0_16
theorem dX5_readRelation_65 : decode cX5_readRelation 65 = .ok (.ireturn, 1) := oc_172 65 (aq_16 shX5_readRelation_49)
theorem dX5_readRelation_52 : decode cX5_readRelation 52 = .ok (.iload_n 1, 1) := oc_27 52 (aq_3 shX5_readRelation_49)
theorem dX5_readRelation_53 : decode cX5_readRelation 53 = .ok (.bipush 62, 2) := oc_16 53 (aq_4 shX5_readRelation_49) sgb_62
theorem dX5_readRelation_55 : decode cX5_readRelation 55 = .ok (.if_icmp .ne 8, 3) := oc_160 55 (aq_6 shX5_readRelation_49) sgw_0_8
theorem dX5_readRelation_58 : decode cX5_readRelation 58 = .ok (.bipush 9, 2) := oc_16 58 (aq_9 shX5_readRelation_49) sgb_9
theorem dX5_readRelation_60 : decode cX5_readRelation 60 = .ok (.goto 5, 3) := oc_167 60 (aq_11 shX5_readRelation_49) sgw_0_5
theorem dX5_readRelation_63 : decode cX5_readRelation 63 = .ok (.bipush 10, 2) := oc_16 63 (aq_14 shX5_readRelation_49) sgb_10
noncomputable def sxX5_readNumber_75 : List UInt8 := []
noncomputable def sxX5_readNumber_73 : List UInt8 := 87 :: 177 :: sxX5_readNumber_75
noncomputable def sxX5_readNumber_49 : List UInt8 := 42 :: 182 :: 0 :: 43 :: 184 :: 0 :: 106 :: 153 :: 0 :: 8 :: 42 :: 5 :: 182 :: 0 :: 47 :: 42 :: 180 :: 0 :: 20 :: 4 :: 27 :: 182 :: 0 :: 75 :: sxX5_readNumber_73
noncomputable def sxX5_readNumber_24 : List UInt8 := 42 :: 182 :: 0 :: 43 :: 96 :: 16 :: 48 :: 100 :: 60 :: 42 :: 89 :: 180 :: 0 :: 31 :: 4 :: 96 :: 181 :: 0 :: 31 :: 132 :: 2 :: 1 :: 167 :: 255 :: 214 :: sxX5_readNumber_49
theorem shX5_readNumber_0 : cX5_readNumber.data.toList.drop 0 = 3 :: 60 :: 3 :: 61 :: 28 :: 16 :: 6 :: 162 :: 0 :: 42 :: 42 :: 182 :: 0 :: 43 :: 184 :: 0 :: 106 :: 153 :: 0 :: 32 :: 16 :: 10 :: 27 :: 104 :: sxX5_readNumber_24 := rfl
theorem shX5_readNumber_24 : cX5_readNumber.data.toList.drop 24 = 42 :: 182 :: 0 :: 43 :: 96 :: 16 :: 48 :: 100 :: 60 :: 42 :: 89 :: 180 :: 0 :: 31 :: 4 :: 96 :: 181 :: 0 :: 31 :: 132 :: 2 :: 1 :: 167 :: 255 :: 214 :: sxX5_readNumber_49 := aq_24 shX5_readNumber_0
theorem shX5_readNumber_49 : cX5_readNumber.data.toList.drop 49 = 42 :: 182 :: 0 :: 43 :: 184 :: 0 :: 106 :: 153 :: 0 :: 8 :: 42 :: 5 :: 182 :: 0 :: 47 :: 42 :: 180 :: 0 :: 20 :: 4 :: 27 :: 182 :: 0 :: 75 :: sxX5_readNumber_73 := aq_25 shX5_readNumber_24
theorem shX5_readNumber_73 : cX5_readNumber.data.toList.drop 73 = 87 :: 177 :: sxX5_readNumber_75 := aq_24 shX5_readNumber_49
theorem dX5_readNumber_49 : decode cX5_readNumber 49 = .ok (.aload_n 0, 1) := oc_42 49 shX5_readNumber_49
theorem dX5_readNumber_50 : decode cX5_readNumber 50 = .ok (.invokevirtual 43, 3) := oc_182 50 (aq_1 shX5_readNumber_49) uw_0_43
theorem dX5_readNumber_53 : decode cX5_readNumber 53 = .ok (.invokestatic 106, 3) := oc_184 53 (aq_4 shX5_readNumber_49) uw_0_106
theorem dX5_readNumber_56 : decode cX5_readNumber 56 = .ok (.ifCond .eq 8, 3) := oc_153 56 (aq_7 shX5_readNumber_49) sgw_0_8
theorem dX5_readNumber_59 : decode cX5_readNumber 59 = .ok (.aload_n 0, 1) := oc_42 59 (aq_10 shX5_readNumber_49)
theorem dX5_readNumber_60 : decode cX5_readNumber 60 = .ok (.iconst 2, 1) := oc_5 60 (aq_11 shX5_readNumber_49)
theorem dX5_readNumber_61 : decode cX5_readNumber 61 = .ok (.invokevirtual 47, 3) := oc_182 61 (aq_12 shX5_readNumber_49) uw_0_47
theorem dX5_readNumber_64 : decode cX5_readNumber 64 = .ok (.aload_n 0, 1) := oc_42 64 (aq_15 shX5_readNumber_49)
theorem dX5_readNumber_65 : decode cX5_readNumber 65 = .ok (.getfield 20, 3) := oc_180 65 (aq_16 shX5_readNumber_49) uw_0_20
theorem dX5_readNumber_68 : decode cX5_readNumber 68 = .ok (.iconst 1, 1) := oc_4 68 (aq_19 shX5_readNumber_49)
theorem dX5_readNumber_69 : decode cX5_readNumber 69 = .ok (.iload_n 1, 1) := oc_27 69 (aq_20 shX5_readNumber_49)
theorem dX5_readNumber_70 : decode cX5_readNumber 70 = .ok (.invokevirtual 75, 3) := oc_182 70 (aq_21 shX5_readNumber_49) uw_0_75
theorem dX5_readNumber_73 : decode cX5_readNumber 73 = .ok (.pop, 1) := oc_87 73 shX5_readNumber_73
theorem dX5_readNumber_74 : decode cX5_readNumber 74 = .ok (.return_, 1) := oc_177 74 (aq_1 shX5_readNumber_73)
theorem dX5_readNumber_17 : decode cX5_readNumber 17 = .ok (.ifCond .eq 32, 3) := oc_153 17 (aq_17 shX5_readNumber_0) sgw_0_32
noncomputable def sxX5_readFactor_99 : List UInt8 := []
noncomputable def sxX5_readFactor_75 : List UInt8 := 4 :: 96 :: 181 :: 0 :: 31 :: 42 :: 180 :: 0 :: 20 :: 5 :: 29 :: 182 :: 0 :: 75 :: 87 :: 167 :: 0 :: 8 :: 42 :: 4 :: 182 :: 0 :: 47 :: 177 :: sxX5_readFactor_99
noncomputable def sxX5_readFactor_49 : List UInt8 := 167 :: 0 :: 49 :: 28 :: 184 :: 0 :: 106 :: 153 :: 0 :: 10 :: 42 :: 182 :: 0 :: 109 :: 167 :: 0 :: 35 :: 29 :: 155 :: 0 :: 26 :: 42 :: 89 :: 180 :: 0 :: 31 :: sxX5_readFactor_75
noncomputable def sxX5_readFactor_25 : List UInt8 := 160 :: 0 :: 27 :: 42 :: 27 :: 182 :: 0 :: 85 :: 153 :: 0 :: 65 :: 42 :: 27 :: 4 :: 96 :: 182 :: 0 :: 56 :: 42 :: 16 :: 93 :: 182 :: 0 :: 62 :: sxX5_readFactor_49
theorem shX5_readFactor_0 : cX5_readFactor.data.toList.drop 0 = 42 :: 182 :: 0 :: 43 :: 61 :: 28 :: 2 :: 160 :: 0 :: 7 :: 2 :: 167 :: 0 :: 10 :: 18 :: 98 :: 28 :: 146 :: 182 :: 0 :: 100 :: 62 :: 28 :: 16 :: 91 :: sxX5_readFactor_25 := rfl
theorem shX5_readFactor_25 : cX5_readFactor.data.toList.drop 25 = 160 :: 0 :: 27 :: 42 :: 27 :: 182 :: 0 :: 85 :: 153 :: 0 :: 65 :: 42 :: 27 :: 4 :: 96 :: 182 :: 0 :: 56 :: 42 :: 16 :: 93 :: 182 :: 0 :: 62 :: sxX5_readFactor_49 := aq_25 shX5_readFactor_0
theorem shX5_readFactor_49 : cX5_readFactor.data.toList.drop 49 = 167 :: 0 :: 49 :: 28 :: 184 :: 0 :: 106 :: 153 :: 0 :: 10 :: 42 :: 182 :: 0 :: 109 :: 167 :: 0 :: 35 :: 29 :: 155 :: 0 :: 26 :: 42 :: 89 :: 180 :: 0 :: 31 :: sxX5_readFactor_75 := aq_24 shX5_readFactor_25
theorem shX5_readFactor_75 : cX5_readFactor.data.toList.drop 75 = 4 :: 96 :: 181 :: 0 :: 31 :: 42 :: 180 :: 0 :: 20 :: 5 :: 29 :: 182 :: 0 :: 75 :: 87 :: 167 :: 0 :: 8 :: 42 :: 4 :: 182 :: 0 :: 47 :: 177 :: sxX5_readFactor_99 := aq_26 shX5_readFactor_49
theorem dX5_readFactor_0 : decode cX5_readFactor 0 = .ok (.aload_n 0, 1) := oc_42 0 shX5_readFactor_0
theorem dX5_readFactor_1 : decode cX5_readFactor 1 = .ok (.invokevirtual 43, 3) := oc_182 1 (aq_1 shX5_readFactor_0) uw_0_43
theorem dX5_readFactor_4 : decode cX5_readFactor 4 = .ok (.istore_n 2, 1) := oc_61 4 (aq_4 shX5_readFactor_0)
theorem dX5_readFactor_5 : decode cX5_readFactor 5 = .ok (.iload_n 2, 1) := oc_28 5 (aq_5 shX5_readFactor_0)
theorem dX5_readFactor_6 : decode cX5_readFactor 6 = .ok (.iconst (-1), 1) := oc_2 6 (aq_6 shX5_readFactor_0)
theorem dX5_readFactor_7 : decode cX5_readFactor 7 = .ok (.if_icmp .ne 7, 3) := oc_160 7 (aq_7 shX5_readFactor_0) sgw_0_7
theorem dX5_readFactor_14 : decode cX5_readFactor 14 = .ok (.ldc 98, 2) := oc_18 14 (aq_14 shX5_readFactor_0) ub_98
theorem dX5_readFactor_16 : decode cX5_readFactor 16 = .ok (.iload_n 2, 1) := oc_28 16 (aq_16 shX5_readFactor_0)
theorem dX5_readFactor_17 : decode cX5_readFactor 17 = .ok (.i2c, 1) := oc_146 17 (aq_17 shX5_readFactor_0)
theorem dX5_readFactor_18 : decode cX5_readFactor 18 = .ok (.invokevirtual 100, 3) := oc_182 18 (aq_18 shX5_readFactor_0) uw_0_100
theorem dX5_readFactor_21 : decode cX5_readFactor 21 = .ok (.istore_n 3, 1) := oc_62 21 (aq_21 shX5_readFactor_0)
theorem dX5_readFactor_22 : decode cX5_readFactor 22 = .ok (.iload_n 2, 1) := oc_28 22 (aq_22 shX5_readFactor_0)
theorem dX5_readFactor_23 : decode cX5_readFactor 23 = .ok (.bipush 91, 2) := oc_16 23 (aq_23 shX5_readFactor_0) sgb_91
theorem dX5_readFactor_25 : decode cX5_readFactor 25 = .ok (.if_icmp .ne 27, 3) := oc_160 25 shX5_readFactor_25 sgw_0_27
theorem dX5_readFactor_52 : decode cX5_readFactor 52 = .ok (.iload_n 2, 1) := oc_28 52 (aq_3 shX5_readFactor_49)
theorem dX5_readFactor_53 : decode cX5_readFactor 53 = .ok (.invokestatic 106, 3) := oc_184 53 (aq_4 shX5_readFactor_49) uw_0_106
theorem dX5_readFactor_56 : decode cX5_readFactor 56 = .ok (.ifCond .eq 10, 3) := oc_153 56 (aq_7 shX5_readFactor_49) sgw_0_10
theorem dX5_readFactor_59 : decode cX5_readFactor 59 = .ok (.aload_n 0, 1) := oc_42 59 (aq_10 shX5_readFactor_49)
theorem dX5_readFactor_60 : decode cX5_readFactor 60 = .ok (.invokevirtual 109, 3) := oc_182 60 (aq_11 shX5_readFactor_49) uw_0_109
theorem dX5_readFactor_63 : decode cX5_readFactor 63 = .ok (.goto 35, 3) := oc_167 63 (aq_14 shX5_readFactor_49) sgw_0_35
theorem dX5_readFactor_98 : decode cX5_readFactor 98 = .ok (.return_, 1) := oc_177 98 (aq_23 shX5_readFactor_75)
theorem dX5_readFactor_66 : decode cX5_readFactor 66 = .ok (.iload_n 3, 1) := oc_29 66 (aq_17 shX5_readFactor_49)
theorem dX5_readFactor_67 : decode cX5_readFactor 67 = .ok (.ifCond .lt 26, 3) := oc_155 67 (aq_18 shX5_readFactor_49) sgw_0_26
theorem dX5_readFactor_93 : decode cX5_readFactor 93 = .ok (.aload_n 0, 1) := oc_42 93 (aq_18 shX5_readFactor_75)
theorem dX5_readFactor_94 : decode cX5_readFactor 94 = .ok (.iconst 1, 1) := oc_4 94 (aq_19 shX5_readFactor_75)
theorem dX5_readFactor_95 : decode cX5_readFactor 95 = .ok (.invokevirtual 47, 3) := oc_182 95 (aq_20 shX5_readFactor_75) uw_0_47
theorem dX5_readFactor_70 : decode cX5_readFactor 70 = .ok (.aload_n 0, 1) := oc_42 70 (aq_21 shX5_readFactor_49)
theorem dX5_readFactor_71 : decode cX5_readFactor 71 = .ok (.dup, 1) := oc_89 71 (aq_22 shX5_readFactor_49)
theorem dX5_readFactor_72 : decode cX5_readFactor 72 = .ok (.getfield 31, 3) := oc_180 72 (aq_23 shX5_readFactor_49) uw_0_31
theorem dX5_readFactor_75 : decode cX5_readFactor 75 = .ok (.iconst 1, 1) := oc_4 75 shX5_readFactor_75
theorem dX5_readFactor_76 : decode cX5_readFactor 76 = .ok (.iadd, 1) := oc_96 76 (aq_1 shX5_readFactor_75)
theorem dX5_readFactor_77 : decode cX5_readFactor 77 = .ok (.putfield 31, 3) := oc_181 77 (aq_2 shX5_readFactor_75) uw_0_31
theorem dX5_readFactor_80 : decode cX5_readFactor 80 = .ok (.aload_n 0, 1) := oc_42 80 (aq_5 shX5_readFactor_75)
theorem dX5_readFactor_81 : decode cX5_readFactor 81 = .ok (.getfield 20, 3) := oc_180 81 (aq_6 shX5_readFactor_75) uw_0_20
theorem dX5_readFactor_84 : decode cX5_readFactor 84 = .ok (.iconst 2, 1) := oc_5 84 (aq_9 shX5_readFactor_75)
theorem dX5_readFactor_85 : decode cX5_readFactor 85 = .ok (.iload_n 3, 1) := oc_29 85 (aq_10 shX5_readFactor_75)
theorem dX5_readFactor_86 : decode cX5_readFactor 86 = .ok (.invokevirtual 75, 3) := oc_182 86 (aq_11 shX5_readFactor_75) uw_0_75
theorem dX5_readFactor_89 : decode cX5_readFactor 89 = .ok (.pop, 1) := oc_87 89 (aq_14 shX5_readFactor_75)
theorem dX5_readFactor_90 : decode cX5_readFactor 90 = .ok (.goto 8, 3) := oc_167 90 (aq_15 shX5_readFactor_75) sgw_0_8
theorem dX5_readFactor_28 : decode cX5_readFactor 28 = .ok (.aload_n 0, 1) := oc_42 28 (aq_3 shX5_readFactor_25)
theorem dX5_readFactor_29 : decode cX5_readFactor 29 = .ok (.iload_n 1, 1) := oc_27 29 (aq_4 shX5_readFactor_25)
theorem dX5_readFactor_30 : decode cX5_readFactor 30 = .ok (.invokevirtual 85, 3) := oc_182 30 (aq_5 shX5_readFactor_25) uw_0_85
theorem dX5_readFactor_33 : decode cX5_readFactor 33 = .ok (.ifCond .eq 65, 3) := oc_153 33 (aq_8 shX5_readFactor_25) sgw_0_65
theorem dX5_readFactor_10 : decode cX5_readFactor 10 = .ok (.iconst (-1), 1) := oc_2 10 (aq_10 shX5_readFactor_0)
theorem dX5_readFactor_11 : decode cX5_readFactor 11 = .ok (.goto 10, 3) := oc_167 11 (aq_11 shX5_readFactor_0) sgw_0_10
noncomputable def sxX5_readTerm_99 : List UInt8 := []
noncomputable def sxX5_readTerm_98 : List UInt8 := 177 :: sxX5_readTerm_99
noncomputable def sxX5_readTerm_73 : List UInt8 := 8 :: 167 :: 0 :: 16 :: 28 :: 16 :: 47 :: 160 :: 0 :: 8 :: 16 :: 6 :: 167 :: 0 :: 5 :: 16 :: 7 :: 3 :: 182 :: 0 :: 75 :: 87 :: 167 :: 255 :: 166 :: sxX5_readTerm_98
noncomputable def sxX5_readTerm_49 : List UInt8 := 89 :: 180 :: 0 :: 31 :: 4 :: 96 :: 181 :: 0 :: 31 :: 42 :: 27 :: 182 :: 0 :: 95 :: 42 :: 180 :: 0 :: 20 :: 28 :: 16 :: 42 :: 160 :: 0 :: 7 :: sxX5_readTerm_73
noncomputable def sxX5_readTerm_25 : List UInt8 := 42 :: 182 :: 0 :: 43 :: 16 :: 47 :: 159 :: 0 :: 12 :: 42 :: 182 :: 0 :: 43 :: 16 :: 37 :: 160 :: 0 :: 58 :: 42 :: 182 :: 0 :: 43 :: 61 :: 42 :: sxX5_readTerm_49
theorem shX5_readTerm_0 : cX5_readTerm.data.toList.drop 0 = 42 :: 27 :: 182 :: 0 :: 95 :: 42 :: 180 :: 0 :: 31 :: 42 :: 180 :: 0 :: 34 :: 162 :: 0 :: 85 :: 42 :: 182 :: 0 :: 43 :: 16 :: 42 :: 159 :: 0 :: 21 :: sxX5_readTerm_25 := rfl
theorem shX5_readTerm_25 : cX5_readTerm.data.toList.drop 25 = 42 :: 182 :: 0 :: 43 :: 16 :: 47 :: 159 :: 0 :: 12 :: 42 :: 182 :: 0 :: 43 :: 16 :: 37 :: 160 :: 0 :: 58 :: 42 :: 182 :: 0 :: 43 :: 61 :: 42 :: sxX5_readTerm_49 := aq_25 shX5_readTerm_0
theorem shX5_readTerm_49 : cX5_readTerm.data.toList.drop 49 = 89 :: 180 :: 0 :: 31 :: 4 :: 96 :: 181 :: 0 :: 31 :: 42 :: 27 :: 182 :: 0 :: 95 :: 42 :: 180 :: 0 :: 20 :: 28 :: 16 :: 42 :: 160 :: 0 :: 7 :: sxX5_readTerm_73 := aq_24 shX5_readTerm_25
theorem shX5_readTerm_73 : cX5_readTerm.data.toList.drop 73 = 8 :: 167 :: 0 :: 16 :: 28 :: 16 :: 47 :: 160 :: 0 :: 8 :: 16 :: 6 :: 167 :: 0 :: 5 :: 16 :: 7 :: 3 :: 182 :: 0 :: 75 :: 87 :: 167 :: 255 :: 166 :: sxX5_readTerm_98 := aq_24 shX5_readTerm_49
theorem shX5_readTerm_98 : cX5_readTerm.data.toList.drop 98 = 177 :: sxX5_readTerm_99 := aq_25 shX5_readTerm_73
theorem dX5_readTerm_98 : decode cX5_readTerm 98 = .ok (.return_, 1) := oc_177 98 shX5_readTerm_98
theorem dX5_readTerm_43 : decode cX5_readTerm 43 = .ok (.aload_n 0, 1) := oc_42 43 (aq_18 shX5_readTerm_25)
theorem dX5_readTerm_44 : decode cX5_readTerm 44 = .ok (.invokevirtual 43, 3) := oc_182 44 (aq_19 shX5_readTerm_25) uw_0_43
theorem dX5_readTerm_47 : decode cX5_readTerm 47 = .ok (.istore_n 2, 1) := oc_61 47 (aq_22 shX5_readTerm_25)
theorem dX5_readTerm_48 : decode cX5_readTerm 48 = .ok (.aload_n 0, 1) := oc_42 48 (aq_23 shX5_readTerm_25)
theorem dX5_readTerm_49 : decode cX5_readTerm 49 = .ok (.dup, 1) := oc_89 49 shX5_readTerm_49
theorem dX5_readTerm_50 : decode cX5_readTerm 50 = .ok (.getfield 31, 3) := oc_180 50 (aq_1 shX5_readTerm_49) uw_0_31
theorem dX5_readTerm_53 : decode cX5_readTerm 53 = .ok (.iconst 1, 1) := oc_4 53 (aq_4 shX5_readTerm_49)
theorem dX5_readTerm_54 : decode cX5_readTerm 54 = .ok (.iadd, 1) := oc_96 54 (aq_5 shX5_readTerm_49)
theorem dX5_readTerm_55 : decode cX5_readTerm 55 = .ok (.putfield 31, 3) := oc_181 55 (aq_6 shX5_readTerm_49) uw_0_31
theorem dX5_readTerm_58 : decode cX5_readTerm 58 = .ok (.aload_n 0, 1) := oc_42 58 (aq_9 shX5_readTerm_49)
theorem dX5_readTerm_59 : decode cX5_readTerm 59 = .ok (.iload_n 1, 1) := oc_27 59 (aq_10 shX5_readTerm_49)
theorem dX5_readTerm_60 : decode cX5_readTerm 60 = .ok (.invokevirtual 95, 3) := oc_182 60 (aq_11 shX5_readTerm_49) uw_0_95
theorem dX5_readTerm_63 : decode cX5_readTerm 63 = .ok (.aload_n 0, 1) := oc_42 63 (aq_14 shX5_readTerm_49)
theorem dX5_readTerm_64 : decode cX5_readTerm 64 = .ok (.getfield 20, 3) := oc_180 64 (aq_15 shX5_readTerm_49) uw_0_20
theorem dX5_readTerm_67 : decode cX5_readTerm 67 = .ok (.iload_n 2, 1) := oc_28 67 (aq_18 shX5_readTerm_49)
theorem dX5_readTerm_68 : decode cX5_readTerm 68 = .ok (.bipush 42, 2) := oc_16 68 (aq_19 shX5_readTerm_49) sgb_42
theorem dX5_readTerm_70 : decode cX5_readTerm 70 = .ok (.if_icmp .ne 7, 3) := oc_160 70 (aq_21 shX5_readTerm_49) sgw_0_7
theorem dX5_readTerm_77 : decode cX5_readTerm 77 = .ok (.iload_n 2, 1) := oc_28 77 (aq_4 shX5_readTerm_73)
theorem dX5_readTerm_78 : decode cX5_readTerm 78 = .ok (.bipush 47, 2) := oc_16 78 (aq_5 shX5_readTerm_73) sgb_47
theorem dX5_readTerm_80 : decode cX5_readTerm 80 = .ok (.if_icmp .ne 8, 3) := oc_160 80 (aq_7 shX5_readTerm_73) sgw_0_8
theorem dX5_readTerm_88 : decode cX5_readTerm 88 = .ok (.bipush 7, 2) := oc_16 88 (aq_15 shX5_readTerm_73) sgb_7
theorem dX5_readTerm_90 : decode cX5_readTerm 90 = .ok (.iconst 0, 1) := oc_3 90 (aq_17 shX5_readTerm_73)
theorem dX5_readTerm_91 : decode cX5_readTerm 91 = .ok (.invokevirtual 75, 3) := oc_182 91 (aq_18 shX5_readTerm_73) uw_0_75
theorem dX5_readTerm_94 : decode cX5_readTerm 94 = .ok (.pop, 1) := oc_87 94 (aq_21 shX5_readTerm_73)
theorem dX5_readTerm_95 : decode cX5_readTerm 95 = .ok (.goto (-90), 3) := oc_167 95 (aq_22 shX5_readTerm_73) sgw_255_166
theorem dX5_readTerm_83 : decode cX5_readTerm 83 = .ok (.bipush 6, 2) := oc_16 83 (aq_10 shX5_readTerm_73) sgb_6
theorem dX5_readTerm_85 : decode cX5_readTerm 85 = .ok (.goto 5, 3) := oc_167 85 (aq_12 shX5_readTerm_73) sgw_0_5
theorem dX5_readTerm_73 : decode cX5_readTerm 73 = .ok (.iconst 5, 1) := oc_8 73 shX5_readTerm_73
theorem dX5_readTerm_74 : decode cX5_readTerm 74 = .ok (.goto 16, 3) := oc_167 74 (aq_1 shX5_readTerm_73) sgw_0_16
noncomputable def sxX5_readSum_78 : List UInt8 := []
noncomputable def sxX5_readSum_73 : List UInt8 := 87 :: 167 :: 255 :: 187 :: 177 :: sxX5_readSum_78
noncomputable def sxX5_readSum_49 : List UInt8 := 42 :: 89 :: 180 :: 0 :: 31 :: 4 :: 96 :: 181 :: 0 :: 31 :: 42 :: 27 :: 182 :: 0 :: 92 :: 42 :: 180 :: 0 :: 20 :: 28 :: 3 :: 182 :: 0 :: 75 :: sxX5_readSum_73
noncomputable def sxX5_readSum_25 : List UInt8 := 42 :: 182 :: 0 :: 43 :: 16 :: 45 :: 160 :: 0 :: 46 :: 42 :: 182 :: 0 :: 43 :: 16 :: 43 :: 160 :: 0 :: 7 :: 6 :: 167 :: 0 :: 4 :: 7 :: 61 :: sxX5_readSum_49
theorem shX5_readSum_0 : cX5_readSum.data.toList.drop 0 = 42 :: 27 :: 182 :: 0 :: 92 :: 42 :: 180 :: 0 :: 31 :: 42 :: 180 :: 0 :: 34 :: 162 :: 0 :: 64 :: 42 :: 182 :: 0 :: 43 :: 16 :: 43 :: 159 :: 0 :: 12 :: sxX5_readSum_25 := rfl
theorem shX5_readSum_25 : cX5_readSum.data.toList.drop 25 = 42 :: 182 :: 0 :: 43 :: 16 :: 45 :: 160 :: 0 :: 46 :: 42 :: 182 :: 0 :: 43 :: 16 :: 43 :: 160 :: 0 :: 7 :: 6 :: 167 :: 0 :: 4 :: 7 :: 61 :: sxX5_readSum_49 := aq_25 shX5_readSum_0
theorem shX5_readSum_49 : cX5_readSum.data.toList.drop 49 = 42 :: 89 :: 180 :: 0 :: 31 :: 4 :: 96 :: 181 :: 0 :: 31 :: 42 :: 27 :: 182 :: 0 :: 92 :: 42 :: 180 :: 0 :: 20 :: 28 :: 3 :: 182 :: 0 :: 75 :: sxX5_readSum_73 := aq_24 shX5_readSum_25
theorem shX5_readSum_73 : cX5_readSum.data.toList.drop 73 = 87 :: 167 :: 255 :: 187 :: 177 :: sxX5_readSum_78 := aq_24 shX5_readSum_49
theorem dX5_readSum_77 : decode cX5_readSum 77 = .ok (.return_, 1) := oc_177 77 (aq_4 shX5_readSum_73)
theorem dX5_readSum_34 : decode cX5_readSum 34 = .ok (.aload_n 0, 1) := oc_42 34 (aq_9 shX5_readSum_25)
theorem dX5_readSum_35 : decode cX5_readSum 35 = .ok (.invokevirtual 43, 3) := oc_182 35 (aq_10 shX5_readSum_25) uw_0_43
theorem dX5_readSum_38 : decode cX5_readSum 38 = .ok (.bipush 43, 2) := oc_16 38 (aq_13 shX5_readSum_25) sgb_43
theorem dX5_readSum_40 : decode cX5_readSum 40 = .ok (.if_icmp .ne 7, 3) := oc_160 40 (aq_15 shX5_readSum_25) sgw_0_7
theorem dX5_readSum_48 : decode cX5_readSum 48 = .ok (.istore_n 2, 1) := oc_61 48 (aq_23 shX5_readSum_25)
theorem dX5_readSum_49 : decode cX5_readSum 49 = .ok (.aload_n 0, 1) := oc_42 49 shX5_readSum_49
theorem dX5_readSum_50 : decode cX5_readSum 50 = .ok (.dup, 1) := oc_89 50 (aq_1 shX5_readSum_49)
theorem dX5_readSum_51 : decode cX5_readSum 51 = .ok (.getfield 31, 3) := oc_180 51 (aq_2 shX5_readSum_49) uw_0_31
theorem dX5_readSum_54 : decode cX5_readSum 54 = .ok (.iconst 1, 1) := oc_4 54 (aq_5 shX5_readSum_49)
theorem dX5_readSum_55 : decode cX5_readSum 55 = .ok (.iadd, 1) := oc_96 55 (aq_6 shX5_readSum_49)
theorem dX5_readSum_56 : decode cX5_readSum 56 = .ok (.putfield 31, 3) := oc_181 56 (aq_7 shX5_readSum_49) uw_0_31
theorem dX5_readSum_59 : decode cX5_readSum 59 = .ok (.aload_n 0, 1) := oc_42 59 (aq_10 shX5_readSum_49)
theorem dX5_readSum_60 : decode cX5_readSum 60 = .ok (.iload_n 1, 1) := oc_27 60 (aq_11 shX5_readSum_49)
theorem dX5_readSum_61 : decode cX5_readSum 61 = .ok (.invokevirtual 92, 3) := oc_182 61 (aq_12 shX5_readSum_49) uw_0_92
theorem dX5_readSum_64 : decode cX5_readSum 64 = .ok (.aload_n 0, 1) := oc_42 64 (aq_15 shX5_readSum_49)
theorem dX5_readSum_65 : decode cX5_readSum 65 = .ok (.getfield 20, 3) := oc_180 65 (aq_16 shX5_readSum_49) uw_0_20
theorem dX5_readSum_68 : decode cX5_readSum 68 = .ok (.iload_n 2, 1) := oc_28 68 (aq_19 shX5_readSum_49)
theorem dX5_readSum_69 : decode cX5_readSum 69 = .ok (.iconst 0, 1) := oc_3 69 (aq_20 shX5_readSum_49)
theorem dX5_readSum_70 : decode cX5_readSum 70 = .ok (.invokevirtual 75, 3) := oc_182 70 (aq_21 shX5_readSum_49) uw_0_75
theorem dX5_readSum_73 : decode cX5_readSum 73 = .ok (.pop, 1) := oc_87 73 shX5_readSum_73
theorem dX5_readSum_74 : decode cX5_readSum 74 = .ok (.goto (-69), 3) := oc_167 74 (aq_1 shX5_readSum_73) sgw_255_187
noncomputable def sxX5_readPiece_96 : List UInt8 := []
noncomputable def sxX5_readPiece_75 : List UInt8 := 42 :: 182 :: 0 :: 89 :: 62 :: 42 :: 27 :: 182 :: 0 :: 56 :: 42 :: 180 :: 0 :: 20 :: 29 :: 3 :: 182 :: 0 :: 75 :: 87 :: 177 :: sxX5_readPiece_96
noncomputable def sxX5_readPiece_51 : List UInt8 := 153 :: 0 :: 44 :: 42 :: 27 :: 4 :: 96 :: 182 :: 0 :: 66 :: 42 :: 16 :: 41 :: 182 :: 0 :: 62 :: 167 :: 0 :: 28 :: 42 :: 27 :: 182 :: 0 :: 56 :: sxX5_readPiece_75
noncomputable def sxX5_readPiece_26 : List UInt8 := 42 :: 180 :: 0 :: 20 :: 16 :: 11 :: 3 :: 182 :: 0 :: 75 :: 87 :: 167 :: 0 :: 58 :: 28 :: 16 :: 40 :: 160 :: 0 :: 27 :: 42 :: 27 :: 182 :: 0 :: 85 :: sxX5_readPiece_51
theorem shX5_readPiece_0 : cX5_readPiece.data.toList.drop 0 = 42 :: 182 :: 0 :: 43 :: 61 :: 28 :: 16 :: 33 :: 160 :: 0 :: 32 :: 42 :: 27 :: 182 :: 0 :: 85 :: 153 :: 0 :: 79 :: 42 :: 27 :: 4 :: 96 :: 182 :: 0 :: 82 :: sxX5_readPiece_26 := rfl
theorem shX5_readPiece_26 : cX5_readPiece.data.toList.drop 26 = 42 :: 180 :: 0 :: 20 :: 16 :: 11 :: 3 :: 182 :: 0 :: 75 :: 87 :: 167 :: 0 :: 58 :: 28 :: 16 :: 40 :: 160 :: 0 :: 27 :: 42 :: 27 :: 182 :: 0 :: 85 :: sxX5_readPiece_51 := aq_26 shX5_readPiece_0
theorem shX5_readPiece_51 : cX5_readPiece.data.toList.drop 51 = 153 :: 0 :: 44 :: 42 :: 27 :: 4 :: 96 :: 182 :: 0 :: 66 :: 42 :: 16 :: 41 :: 182 :: 0 :: 62 :: 167 :: 0 :: 28 :: 42 :: 27 :: 182 :: 0 :: 56 :: sxX5_readPiece_75 := aq_25 shX5_readPiece_26
theorem shX5_readPiece_75 : cX5_readPiece.data.toList.drop 75 = 42 :: 182 :: 0 :: 89 :: 62 :: 42 :: 27 :: 182 :: 0 :: 56 :: 42 :: 180 :: 0 :: 20 :: 29 :: 3 :: 182 :: 0 :: 75 :: 87 :: 177 :: sxX5_readPiece_96 := aq_24 shX5_readPiece_51
theorem dX5_readPiece_0 : decode cX5_readPiece 0 = .ok (.aload_n 0, 1) := oc_42 0 shX5_readPiece_0
theorem dX5_readPiece_1 : decode cX5_readPiece 1 = .ok (.invokevirtual 43, 3) := oc_182 1 (aq_1 shX5_readPiece_0) uw_0_43
theorem dX5_readPiece_4 : decode cX5_readPiece 4 = .ok (.istore_n 2, 1) := oc_61 4 (aq_4 shX5_readPiece_0)
theorem dX5_readPiece_5 : decode cX5_readPiece 5 = .ok (.iload_n 2, 1) := oc_28 5 (aq_5 shX5_readPiece_0)
theorem dX5_readPiece_6 : decode cX5_readPiece 6 = .ok (.bipush 33, 2) := oc_16 6 (aq_6 shX5_readPiece_0) sgb_33
theorem dX5_readPiece_8 : decode cX5_readPiece 8 = .ok (.if_icmp .ne 32, 3) := oc_160 8 (aq_8 shX5_readPiece_0) sgw_0_32
theorem dX5_readPiece_40 : decode cX5_readPiece 40 = .ok (.iload_n 2, 1) := oc_28 40 (aq_14 shX5_readPiece_26)
theorem dX5_readPiece_41 : decode cX5_readPiece 41 = .ok (.bipush 40, 2) := oc_16 41 (aq_15 shX5_readPiece_26) sgb_40
theorem dX5_readPiece_43 : decode cX5_readPiece 43 = .ok (.if_icmp .ne 27, 3) := oc_160 43 (aq_17 shX5_readPiece_26) sgw_0_27
theorem dX5_readPiece_70 : decode cX5_readPiece 70 = .ok (.aload_n 0, 1) := oc_42 70 (aq_19 shX5_readPiece_51)
theorem dX5_readPiece_71 : decode cX5_readPiece 71 = .ok (.iload_n 1, 1) := oc_27 71 (aq_20 shX5_readPiece_51)
theorem dX5_readPiece_72 : decode cX5_readPiece 72 = .ok (.invokevirtual 56, 3) := oc_182 72 (aq_21 shX5_readPiece_51) uw_0_56
theorem dX5_readPiece_75 : decode cX5_readPiece 75 = .ok (.aload_n 0, 1) := oc_42 75 shX5_readPiece_75
theorem dX5_readPiece_76 : decode cX5_readPiece 76 = .ok (.invokevirtual 89, 3) := oc_182 76 (aq_1 shX5_readPiece_75) uw_0_89
theorem dX5_readPiece_79 : decode cX5_readPiece 79 = .ok (.istore_n 3, 1) := oc_62 79 (aq_4 shX5_readPiece_75)
theorem dX5_readPiece_80 : decode cX5_readPiece 80 = .ok (.aload_n 0, 1) := oc_42 80 (aq_5 shX5_readPiece_75)
theorem dX5_readPiece_81 : decode cX5_readPiece 81 = .ok (.iload_n 1, 1) := oc_27 81 (aq_6 shX5_readPiece_75)
theorem dX5_readPiece_82 : decode cX5_readPiece 82 = .ok (.invokevirtual 56, 3) := oc_182 82 (aq_7 shX5_readPiece_75) uw_0_56
theorem dX5_readPiece_85 : decode cX5_readPiece 85 = .ok (.aload_n 0, 1) := oc_42 85 (aq_10 shX5_readPiece_75)
theorem dX5_readPiece_86 : decode cX5_readPiece 86 = .ok (.getfield 20, 3) := oc_180 86 (aq_11 shX5_readPiece_75) uw_0_20
theorem dX5_readPiece_89 : decode cX5_readPiece 89 = .ok (.iload_n 3, 1) := oc_29 89 (aq_14 shX5_readPiece_75)
theorem dX5_readPiece_90 : decode cX5_readPiece 90 = .ok (.iconst 0, 1) := oc_3 90 (aq_15 shX5_readPiece_75)
theorem dX5_readPiece_91 : decode cX5_readPiece 91 = .ok (.invokevirtual 75, 3) := oc_182 91 (aq_16 shX5_readPiece_75) uw_0_75
theorem dX5_readPiece_94 : decode cX5_readPiece 94 = .ok (.pop, 1) := oc_87 94 (aq_19 shX5_readPiece_75)
theorem dX5_readPiece_95 : decode cX5_readPiece 95 = .ok (.return_, 1) := oc_177 95 (aq_20 shX5_readPiece_75)
theorem dX5_readPiece_46 : decode cX5_readPiece 46 = .ok (.aload_n 0, 1) := oc_42 46 (aq_20 shX5_readPiece_26)
theorem dX5_readPiece_47 : decode cX5_readPiece 47 = .ok (.iload_n 1, 1) := oc_27 47 (aq_21 shX5_readPiece_26)
theorem dX5_readPiece_48 : decode cX5_readPiece 48 = .ok (.invokevirtual 85, 3) := oc_182 48 (aq_22 shX5_readPiece_26) uw_0_85
theorem dX5_readPiece_51 : decode cX5_readPiece 51 = .ok (.ifCond .eq 44, 3) := oc_153 51 shX5_readPiece_51 sgw_0_44
theorem dX5_readPiece_11 : decode cX5_readPiece 11 = .ok (.aload_n 0, 1) := oc_42 11 (aq_11 shX5_readPiece_0)
theorem dX5_readPiece_12 : decode cX5_readPiece 12 = .ok (.iload_n 1, 1) := oc_27 12 (aq_12 shX5_readPiece_0)
theorem dX5_readPiece_13 : decode cX5_readPiece 13 = .ok (.invokevirtual 85, 3) := oc_182 13 (aq_13 shX5_readPiece_0) uw_0_85
theorem dX5_readPiece_16 : decode cX5_readPiece 16 = .ok (.ifCond .eq 79, 3) := oc_153 16 (aq_16 shX5_readPiece_0) sgw_0_79
noncomputable def sxX5_readPart_63 : List UInt8 := []
noncomputable def sxX5_readPart_51 : List UInt8 := 42 :: 180 :: 0 :: 20 :: 28 :: 182 :: 0 :: 79 :: 167 :: 255 :: 202 :: 177 :: sxX5_readPart_63
noncomputable def sxX5_readPart_25 : List UInt8 := 42 :: 89 :: 180 :: 0 :: 31 :: 4 :: 96 :: 181 :: 0 :: 31 :: 42 :: 180 :: 0 :: 20 :: 16 :: 12 :: 3 :: 182 :: 0 :: 75 :: 61 :: 42 :: 27 :: 182 :: 0 :: 82 :: sxX5_readPart_51
theorem shX5_readPart_0 : cX5_readPart.data.toList.drop 0 = 42 :: 27 :: 182 :: 0 :: 82 :: 42 :: 180 :: 0 :: 31 :: 42 :: 180 :: 0 :: 34 :: 162 :: 0 :: 49 :: 42 :: 182 :: 0 :: 43 :: 16 :: 38 :: 160 :: 0 :: 40 :: sxX5_readPart_25 := rfl
theorem shX5_readPart_25 : cX5_readPart.data.toList.drop 25 = 42 :: 89 :: 180 :: 0 :: 31 :: 4 :: 96 :: 181 :: 0 :: 31 :: 42 :: 180 :: 0 :: 20 :: 16 :: 12 :: 3 :: 182 :: 0 :: 75 :: 61 :: 42 :: 27 :: 182 :: 0 :: 82 :: sxX5_readPart_51 := aq_25 shX5_readPart_0
theorem shX5_readPart_51 : cX5_readPart.data.toList.drop 51 = 42 :: 180 :: 0 :: 20 :: 28 :: 182 :: 0 :: 79 :: 167 :: 255 :: 202 :: 177 :: sxX5_readPart_63 := aq_26 shX5_readPart_25
theorem dX5_readPart_62 : decode cX5_readPart 62 = .ok (.return_, 1) := oc_177 62 (aq_11 shX5_readPart_51)
noncomputable def sxX5_readCondition_63 : List UInt8 := []
noncomputable def sxX5_readCondition_51 : List UInt8 := 42 :: 180 :: 0 :: 20 :: 28 :: 182 :: 0 :: 79 :: 167 :: 255 :: 202 :: 177 :: sxX5_readCondition_63
noncomputable def sxX5_readCondition_25 : List UInt8 := 42 :: 89 :: 180 :: 0 :: 31 :: 4 :: 96 :: 181 :: 0 :: 31 :: 42 :: 180 :: 0 :: 20 :: 16 :: 13 :: 3 :: 182 :: 0 :: 75 :: 61 :: 42 :: 27 :: 182 :: 0 :: 72 :: sxX5_readCondition_51
theorem shX5_readCondition_0 : cX5_readCondition.data.toList.drop 0 = 42 :: 27 :: 182 :: 0 :: 72 :: 42 :: 180 :: 0 :: 31 :: 42 :: 180 :: 0 :: 34 :: 162 :: 0 :: 49 :: 42 :: 182 :: 0 :: 43 :: 16 :: 124 :: 160 :: 0 :: 40 :: sxX5_readCondition_25 := rfl
theorem shX5_readCondition_25 : cX5_readCondition.data.toList.drop 25 = 42 :: 89 :: 180 :: 0 :: 31 :: 4 :: 96 :: 181 :: 0 :: 31 :: 42 :: 180 :: 0 :: 20 :: 16 :: 13 :: 3 :: 182 :: 0 :: 75 :: 61 :: 42 :: 27 :: 182 :: 0 :: 72 :: sxX5_readCondition_51 := aq_25 shX5_readCondition_0
theorem shX5_readCondition_51 : cX5_readCondition.data.toList.drop 51 = 42 :: 180 :: 0 :: 20 :: 28 :: 182 :: 0 :: 79 :: 167 :: 255 :: 202 :: 177 :: sxX5_readCondition_63 := aq_26 shX5_readCondition_25
theorem dX5_readCondition_62 : decode cX5_readCondition 62 = .ok (.return_, 1) := oc_177 62 (aq_11 shX5_readCondition_51)
set_option maxRecDepth 100000 in
set_option maxHeartbeats 4000000 in
theorem q_Rpeek (l : Launch) (D : va_G) (cI cB cZ : ClassId) (zz qq vv : Nat) (bt : Nat → Int32) (g : Nat → Nat) (ad : Nat → Nat → Nat) (cn : Nat → Nat) (In : Nat → Int32) (Fn : Nat → Nat → Int32)  (hB : CBX cn) (hR : ad 4 2 = g 40) (h1 : ad 4 1 < cn 6) (h3 : cn 31 ≤ cn 32) (h4 : cn 32 ≤ 160) : Met l yX5_peek (CWS yX5_peek cX5_peek 1 (some .int)) (RM 0 0 0) (PBrx [.ref (g 6)] D cI cB cZ zz qq vv bt (wX cI (D.1 99) zz g ad cn In Fn)) (vp_Si (fun r => (cn 31 < cn 32 ∧ r = Fn 40 (cn 31)) ∨ (cn 32 ≤ cn 31 ∧ r.toInt = -1))) 0 0 (fun _ => False) := by
  refine en_rx rfl pn_RX5 (Nat.le_of_ble_eq_true rfl) (fun p e s m below meth c hx hb hml hown S hr hlocks hnm hP hK hXS hS ls hl => ?_)
  have hl : lv_has ls 1 [(0, .ref (g 6))] := hl
  replace hB : CBXh cn := hB
  refine lv_aload_n hx hb (oc_42 0 shX5_peek_0) rfl (lvA0 hl) ?_
  refine gf_RX5_31 S hK hP 3 xo_3 (v := .int (nI (cn 31))) rfl (oc_180 1 (aq_1 shX5_peek_0) uw_0_31) ?_
  have : (nI (cn 31)).toInt = (((cn 31) : Nat) : Int) := nI_toInt (by omega)
  refine lv_if_lt (tgt := 42) hx hb (oc_155 4 (aq_4 shX5_peek_0) sgw_0_38) rfl (fun c_1 => False.elim (by have tc_1 : ((nI (cn 31)).toInt : Int) < 0 := Int32.lt_iff_toInt_lt.mp c_1; omega)) (fun c_1 => ?_)
  have tc_1 : (0 : Int) ≤ (nI (cn 31)).toInt := Int32.le_iff_toInt_le.mp (Int32.not_lt.mp c_1)
  refine lv_aload_n hx hb (oc_42 7 (aq_7 shX5_peek_0)) rfl (lvA0 hl) ?_
  refine gf_RX5_31 S hK hP 3 xo_3 (v := .int (nI (cn 31))) rfl (oc_180 8 (aq_8 shX5_peek_0) uw_0_31) ?_
  refine lv_aload_n hx hb (oc_42 11 (aq_11 shX5_peek_0)) rfl (lvA0 hl) ?_
  refine gf_RX5_34 S hK hP 3 xo_3 (v := .int (nI (cn 32))) rfl (oc_180 12 (aq_12 shX5_peek_0) uw_0_34) ?_
  have : (nI (cn 32)).toInt = (((cn 32) : Nat) : Int) := nI_toInt (by omega)
  refine lv_icmp_ge (tgt := 42) hx hb (oc_162 15 (aq_15 shX5_peek_0) sgw_0_27) rfl (fun c_2 => ?_) (fun c_2 => ?_)
  ·
    have tc_2 : ((nI (cn 32)).toInt : Int) ≤ (nI (cn 31)).toInt := Int32.le_iff_toInt_le.mp c_2
    refine lv_iconst (v := (-1)) hx hb (oc_2 42 (aq_16 shX5_peek_26)) kic_m1 ?_
    exact W.iret (v := (-1)) hx hb hr (fun t ht hW => ⟨(-1), rfl, (Or.inr ⟨by omega, rfl⟩), ht⟩) (fun _ h => absurd h List.not_mem_nil) (oc_172 43 (aq_17 shX5_peek_26))
  ·
    have tc_2 : ((nI (cn 31)).toInt : Int) < (nI (cn 32)).toInt := Int32.lt_iff_toInt_lt.mp (Int32.not_le.mp c_2)
    refine lv_aload_n hx hb (oc_42 18 (aq_18 shX5_peek_0)) rfl (lvA0 hl) ?_
    refine gf_RX5_31 S hK hP 3 xo_3 (v := .int (nI (cn 31))) rfl (oc_180 19 (aq_19 shX5_peek_0) uw_0_31) ?_
    refine lv_aload_n hx hb (oc_42 22 (aq_22 shX5_peek_0)) rfl (lvA0 hl) ?_
    refine gf_RX5_9 S hK hP 3 xo_3 (v := .ref (ad 4 2)) rfl (oc_180 23 (aq_23 shX5_peek_0) uw_0_9) ?_
    rw [hR]
    refine va_alen hx hb hK.1 hP 2 0 xo_2 rfl (v := 200) rfl (oc_190 26 shX5_peek_26) ?_
    refine lv_icmp_ge (tgt := 42) hx hb (oc_162 27 (aq_1 shX5_peek_26) sgw_0_15) rfl (fun c_3 => ?_) (fun c_3 => ?_)
    ·
      have tc_3 : (200 : Int) ≤ (nI (cn 31)).toInt := Int32.le_iff_toInt_le.mp c_3
      refine lv_iconst (v := (-1)) hx hb (oc_2 42 (aq_16 shX5_peek_26)) kic_m1 ?_
      exact W.iret (v := (-1)) hx hb hr (fun t ht hW => ⟨(-1), rfl, (Or.inr ⟨by omega, rfl⟩), ht⟩) (fun _ h => absurd h List.not_mem_nil) (oc_172 43 (aq_17 shX5_peek_26))
    ·
      have tc_3 : ((nI (cn 31)).toInt : Int) < 200 := Int32.lt_iff_toInt_lt.mp (Int32.not_le.mp c_3)
      refine lv_aload_n hx hb (oc_42 30 (aq_4 shX5_peek_26)) rfl (lvA0 hl) ?_
      refine gf_RX5_9 S hK hP 3 xo_3 (v := .ref (ad 4 2)) rfl (oc_180 31 (aq_5 shX5_peek_26) uw_0_9) ?_
      rw [hR]
      refine lv_aload_n hx hb (oc_42 34 (aq_8 shX5_peek_26)) rfl (lvA0 hl) ?_
      refine gf_RX5_31 S hK hP 3 xo_3 (v := .int (nI (cn 31))) rfl (oc_180 35 (aq_9 shX5_peek_26) uw_0_31) ?_
      refine va_iald hx hb hK.1 hP 2 0 xo_2 rfl (vp_in_nI (by omega) (ltb rfl)) (oc_46 38 (aq_12 shX5_peek_26)) ?_
      refine lv_topi (fun y_4 ey_4 => ?_)
      obtain rfl : y_4 = ((Fn 40) (cn 31)) := ey_4.trans (congrArg (Fn 40) (nI_clamp (by omega)))
      refine lv_goto (tgt := 43) hx hb (oc_167 39 (aq_13 shX5_peek_26) sgw_0_4) rfl ?_
      exact W.iret (v := ((Fn 40) (cn 31))) hx hb hr (fun t ht hW => ⟨((Fn 40) (cn 31)), rfl, (Or.inl ⟨by omega, rfl⟩), ht⟩) (fun _ h => absurd h List.not_mem_nil) (oc_172 43 (aq_17 shX5_peek_26))
set_option maxRecDepth 100000 in
set_option maxHeartbeats 4000000 in
theorem q_l_isDigit (l : Launch) (D : va_G) (cI cB cZ : ClassId) (v0 : Int32) : Met l yX5_isDigit (CWS yX5_isDigit cX5_isDigit 1 (some .boolean)) (RM 0 0 0) (PBr [.int v0] D cI cB cZ []) (vp_Si (fun r => (r = 1 ∧ (48 ≤ v0.toInt ∧ v0.toInt ≤ 57)) ∨ (r = 0 ∧ ¬ (48 ≤ v0.toInt ∧ v0.toInt ≤ 57)))) 0 0 (fun _ => False) := by
  refine en_r rfl pn_RX5 (Nat.le_of_ble_eq_true rfl) (fun p e s m below meth c hx hb hml hown S hr hlocks hnm hP hK hS ls hl => ?_)
  have hP : va_P D vwCl [] s.heap := hP
  have hl : lv_has ls 1 [(0, .int v0)] := hl
  refine lv_iload_n hx hb (oc_26 0 shX5_isDigit_0) rfl (lvA0 hl) ?_
  refine lv_bipush (v := 48) hx hb (oc_16 1 (aq_1 shX5_isDigit_0) sgb_48) kbc_48 ?_
  refine lv_icmp_lt (tgt := 16) hx hb (oc_161 3 (aq_3 shX5_isDigit_0) sgw_0_13) rfl (fun c_1 => ?_) (fun c_1 => ?_)
  ·
    have tc_1 : (v0.toInt : Int) < 48 := Int32.lt_iff_toInt_lt.mp c_1
    refine lv_iconst (v := 0) hx hb (oc_3 16 (aq_16 shX5_isDigit_0)) kic_0 ?_
    exact W.zret (v := 0) hx hb hr rfl (fun t ht hW => ⟨0, rfl, (Or.inr ⟨rfl, by omega⟩), ht⟩) (fun _ h => absurd h List.not_mem_nil) (oc_172 17 (aq_17 shX5_isDigit_0))
  ·
    have tc_1 : (48 : Int) ≤ v0.toInt := Int32.le_iff_toInt_le.mp (Int32.not_lt.mp c_1)
    refine lv_iload_n hx hb (oc_26 6 (aq_6 shX5_isDigit_0)) rfl (lvA0 hl) ?_
    refine lv_bipush (v := 57) hx hb (oc_16 7 (aq_7 shX5_isDigit_0) sgb_57) kbc_57 ?_
    refine lv_icmp_gt (tgt := 16) hx hb (oc_163 9 (aq_9 shX5_isDigit_0) sgw_0_7) rfl (fun c_2 => ?_) (fun c_2 => ?_)
    ·
      have tc_2 : (57 : Int) < v0.toInt := Int32.lt_iff_toInt_lt.mp c_2
      refine lv_iconst (v := 0) hx hb (oc_3 16 (aq_16 shX5_isDigit_0)) kic_0 ?_
      exact W.zret (v := 0) hx hb hr rfl (fun t ht hW => ⟨0, rfl, (Or.inr ⟨rfl, by omega⟩), ht⟩) (fun _ h => absurd h List.not_mem_nil) (oc_172 17 (aq_17 shX5_isDigit_0))
    ·
      have tc_2 : (v0.toInt : Int) ≤ 57 := Int32.le_iff_toInt_le.mp (Int32.not_lt.mp c_2)
      refine lv_iconst (v := 1) hx hb (oc_4 12 (aq_12 shX5_isDigit_0)) kic_1 ?_
      refine lv_goto (tgt := 17) hx hb (oc_167 13 (aq_13 shX5_isDigit_0) sgw_0_4) rfl ?_
      exact W.zret (v := 1) hx hb hr rfl (fun t ht hW => ⟨1, rfl, (Or.inl ⟨rfl, by omega⟩), ht⟩) (fun _ h => absurd h List.not_mem_nil) (oc_172 17 (aq_17 shX5_isDigit_0))
end

section
theorem upd_upd9 {f : Nat → Int32} {k : Nat} {x y : Int32} : upd (upd f k x) k y = upd f k y := by
  funext i
  by_cases q : i = k
  · subst q; simp [upd]
  · simp [upd, q]
theorem upd_id9 {f : Nat → Int32} {k : Nat} {x : Int32} (h : f k = x) : f = upd f k x := by
  funext i
  by_cases q : i = k
  · subst q; simp [upd, h]
  · simp [upd, q]
theorem xtc_new {cn c2 : Nat → Nat} {Fn F2 : Nat → Nat → Int32} {n : Nat} (hC : ∀ k : Nat, k < cn 6 → ∃ n : Nat, n ≤ 12 ∧ Fn 198 k = nI n) (h6 : c2 6 = cn 6 + 1) (hn : n ≤ 12) (e : F2 198 = upd (Fn 198) (cn 6) (nI n)) : ∀ k : Nat, k < c2 6 → ∃ n : Nat, n ≤ 12 ∧ F2 198 k = nI n := fun k hk => by
  rw [e]
  by_cases q : k = cn 6
  · subst q; exact ⟨n, hn, by simp [upd]⟩
  · obtain ⟨m, hm, em⟩ := hC k (by omega)
    exact ⟨m, hm, by simp [upd, q, em]⟩
theorem xsl_new {cn c2 : Nat → Nat} {Fn F2 : Nat → Nat → Int32} {n : Nat} (hL : ∀ k : Nat, k < cn 6 → (Fn 199 k).toInt ≤ 160) (h6 : c2 6 = cn 6 + 1) (hn : n ≤ 160) (e : F2 199 = upd (Fn 199) (cn 6) (nI n)) : ∀ k : Nat, k < c2 6 → (F2 199 k).toInt ≤ 160 := fun k hk => by
  rw [e]
  by_cases q : k = cn 6
  · subst q; simp only [upd, if_true]; rw [nI_toInt (by omega)]; omega
  · simp only [upd, if_neg q]; exact hL k (by omega)
theorem ht_new {ad a2 : Nat → Nat → Nat} {cn c2 : Nat → Nat} (h : (∀ k : Nat, k < cn 10 → ad 3 k < cn 6) ∧ ad 4 0 < cn 6 ∧ ad 4 1 < cn 6) (h3 : ∀ k : Nat, a2 3 k = ad 3 k) (h40 : a2 4 0 = ad 4 0) (h41 : a2 4 1 = cn 6) (h6 : c2 6 = cn 6 + 1) (h10 : c2 10 = cn 10) : (∀ k : Nat, k < c2 10 → a2 3 k < c2 6) ∧ a2 4 0 < c2 6 ∧ a2 4 1 < c2 6 := by
  refine ⟨fun k hk => ?_, by have := h.2.1; omega, by omega⟩
  rw [h3]; have := h.1 k (by omega); omega
theorem ht_k3 {ad : Nat → Nat → Nat} {cn : Nat → Nat} {m T : Nat} (h : (∀ k : Nat, k < cn 10 → ad 3 k < cn 6) ∧ ad 4 0 < cn 6 ∧ ad 4 1 < cn 6) (hT : T < cn 6) : (∀ k : Nat, k < cn 10 → adO ad 3 m T 3 k < cn 6) ∧ adO ad 3 m T 4 0 < cn 6 ∧ adO ad 3 m T 4 1 < cn 6 := by
  refine ⟨fun k hk => ?_, by simpa [adO] using h.2.1, by simpa [adO] using h.2.2⟩
  unfold adO
  split
  · exact hT
  · exact h.1 k hk
theorem ht_l {ad : Nat → Nat → Nat} {cn : Nat → Nat} {T : Nat} (h : (∀ k : Nat, k < cn 10 → ad 3 k < cn 6) ∧ ad 4 0 < cn 6 ∧ ad 4 1 < cn 6) (hT : T < cn 6) : (∀ k : Nat, k < cn 10 → adO ad 4 0 T 3 k < cn 6) ∧ adO ad 4 0 T 4 0 < cn 6 ∧ adO ad 4 0 T 4 1 < cn 6 := ⟨fun k hk => by simpa [adO] using h.1 k hk, by simpa [adO] using hT, by simpa [adO] using h.2.2⟩
theorem xaddT {cI QA : ClassId} {zz : Nat} {g : Nat → Nat} {ad : Nat → Nat → Nat} {cn : Nat → Nat} {In : Nat → Int32} {Fn : Nat → Nat → Int32} {qt r0 r1 r2 r3 r4 n : Nat} (hT : ∀ k : Nat, k < cn 10 → ad 3 k < cn 6) (h40 : ad 4 0 < cn 6) (hn : (nI n).toInt.toNat = n) : List.Perm (((wX cI QA zz g ad cn In Fn).set 3 (g 6, .inr (6, [.ref (ad 4 2), .ref qt, .int (In 30), .int (nI (cn 31)), .int (nI (cn 32)), .int (In 33)]))) ++ ([(qt, .inr (10, [.ref r0, .ref r1, .ref r2, .ref r3, .ref r4, .int 0, .int 0, .int 0, .int 0])), (r0, .inl (cI, n, .inl (fun _ => 0))), (r1, .inl (cI, 12, .inl (fun _ => 0))), (r2, .inl (cI, 12, .inl (fun _ => 0))), (r3, .inl (cI, 12, .inl (fun _ => 0))), (r4, .inl (cI, 32, .inl (fun _ => 0)))] : va_W)) (wX cI QA zz g (adO (adO (adO (adO (adO (adO (adO ad 5 (cn 6) qt) 60 (cn 6) r0) 61 (cn 6) r1) 62 (cn 6) r2) 63 (cn 6) r3) 64 (cn 6) r4) 4 1 (cn 6)) (va_up cn 6 (cn 6 + 1)) In (va_up (va_up (va_up (va_up (va_up (va_up (va_up (va_up (va_up (va_up Fn 195 (upd (Fn 195) (cn 6) 0)) 196 (upd (Fn 196) (cn 6) 0)) 197 (upd (Fn 197) (cn 6) 0)) 198 (upd (Fn 198) (cn 6) 0)) 199 (upd (Fn 199) (cn 6) (nI n))) 301 (flat (Fn 301) 200 (cn 6) (fun _ => 0))) 302 (flat (Fn 302) 12 (cn 6) (fun _ => 0))) 303 (flat (Fn 303) 12 (cn 6) (fun _ => 0))) 304 (flat (Fn 304) 12 (cn 6) (fun _ => 0))) 305 (flat (Fn 305) 32 (cn 6) (fun _ => 0)))) := by
  have a1 : (wX cI QA zz g ad cn In Fn).set 3 (g 6, .inr (6, [.ref (ad 4 2), .ref qt, .int (In 30), .int (nI (cn 31)), .int (nI (cn 32)), .int (In 33)])) = fxX cI QA zz g (adO (adO (adO (adO (adO (adO (adO ad 5 (cn 6) qt) 60 (cn 6) r0) 61 (cn 6) r1) 62 (cn 6) r2) 63 (cn 6) r3) 64 (cn 6) r4) 4 1 (cn 6)) (va_up cn 6 (cn 6 + 1)) In (va_up (va_up (va_up (va_up (va_up (va_up (va_up (va_up (va_up (va_up Fn 195 (upd (Fn 195) (cn 6) 0)) 196 (upd (Fn 196) (cn 6) 0)) 197 (upd (Fn 197) (cn 6) 0)) 198 (upd (Fn 198) (cn 6) 0)) 199 (upd (Fn 199) (cn 6) (nI n))) 301 (flat (Fn 301) 200 (cn 6) (fun _ => 0))) 302 (flat (Fn 302) 12 (cn 6) (fun _ => 0))) 303 (flat (Fn 303) 12 (cn 6) (fun _ => 0))) 304 (flat (Fn 304) 12 (cn 6) (fun _ => 0))) 305 (flat (Fn 305) 32 (cn 6) (fun _ => 0))) ++ famW (fsX cI QA zz g ad cn In Fn) := by
    simp only [wX, fxX]
    simp [adO, va_up, Nat.ne_of_lt h40, hn]
  have a5_0 : e7X cI QA zz g (adO (adO (adO (adO (adO (adO (adO ad 5 (cn 6) qt) 60 (cn 6) r0) 61 (cn 6) r1) 62 (cn 6) r2) 63 (cn 6) r3) 64 (cn 6) r4) 4 1 (cn 6)) (va_up cn 6 (cn 6 + 1)) In (va_up (va_up (va_up (va_up (va_up (va_up (va_up (va_up (va_up (va_up Fn 195 (upd (Fn 195) (cn 6) 0)) 196 (upd (Fn 196) (cn 6) 0)) 197 (upd (Fn 197) (cn 6) 0)) 198 (upd (Fn 198) (cn 6) 0)) 199 (upd (Fn 199) (cn 6) (nI n))) 301 (flat (Fn 301) 200 (cn 6) (fun _ => 0))) 302 (flat (Fn 302) 12 (cn 6) (fun _ => 0))) 303 (flat (Fn 303) 12 (cn 6) (fun _ => 0))) 304 (flat (Fn 304) 12 (cn 6) (fun _ => 0))) 305 (flat (Fn 305) 32 (cn 6) (fun _ => 0))) (cn 6) = (qt, .inr (10, [.ref r0, .ref r1, .ref r2, .ref r3, .ref r4, .int 0, .int 0, .int 0, .int 0])) := by simp [e7X, adO, va_up, upd, gA_flat, Nat.ne_of_lt h40, hn]
  have a5_1 : e8X cI QA zz g (adO (adO (adO (adO (adO (adO (adO ad 5 (cn 6) qt) 60 (cn 6) r0) 61 (cn 6) r1) 62 (cn 6) r2) 63 (cn 6) r3) 64 (cn 6) r4) 4 1 (cn 6)) (va_up cn 6 (cn 6 + 1)) In (va_up (va_up (va_up (va_up (va_up (va_up (va_up (va_up (va_up (va_up Fn 195 (upd (Fn 195) (cn 6) 0)) 196 (upd (Fn 196) (cn 6) 0)) 197 (upd (Fn 197) (cn 6) 0)) 198 (upd (Fn 198) (cn 6) 0)) 199 (upd (Fn 199) (cn 6) (nI n))) 301 (flat (Fn 301) 200 (cn 6) (fun _ => 0))) 302 (flat (Fn 302) 12 (cn 6) (fun _ => 0))) 303 (flat (Fn 303) 12 (cn 6) (fun _ => 0))) 304 (flat (Fn 304) 12 (cn 6) (fun _ => 0))) 305 (flat (Fn 305) 32 (cn 6) (fun _ => 0))) (cn 6) = (r0, .inl (cI, n, .inl (fun _ => 0))) := by simp [e8X, adO, va_up, upd, gA_flat, Nat.ne_of_lt h40, hn]
  have a5_2 : e9X cI QA zz g (adO (adO (adO (adO (adO (adO (adO ad 5 (cn 6) qt) 60 (cn 6) r0) 61 (cn 6) r1) 62 (cn 6) r2) 63 (cn 6) r3) 64 (cn 6) r4) 4 1 (cn 6)) (va_up cn 6 (cn 6 + 1)) In (va_up (va_up (va_up (va_up (va_up (va_up (va_up (va_up (va_up (va_up Fn 195 (upd (Fn 195) (cn 6) 0)) 196 (upd (Fn 196) (cn 6) 0)) 197 (upd (Fn 197) (cn 6) 0)) 198 (upd (Fn 198) (cn 6) 0)) 199 (upd (Fn 199) (cn 6) (nI n))) 301 (flat (Fn 301) 200 (cn 6) (fun _ => 0))) 302 (flat (Fn 302) 12 (cn 6) (fun _ => 0))) 303 (flat (Fn 303) 12 (cn 6) (fun _ => 0))) 304 (flat (Fn 304) 12 (cn 6) (fun _ => 0))) 305 (flat (Fn 305) 32 (cn 6) (fun _ => 0))) (cn 6) = (r1, .inl (cI, 12, .inl (fun _ => 0))) := by simp [e9X, adO, va_up, upd, gA_flat, Nat.ne_of_lt h40, hn]
  have a5_3 : e10X cI QA zz g (adO (adO (adO (adO (adO (adO (adO ad 5 (cn 6) qt) 60 (cn 6) r0) 61 (cn 6) r1) 62 (cn 6) r2) 63 (cn 6) r3) 64 (cn 6) r4) 4 1 (cn 6)) (va_up cn 6 (cn 6 + 1)) In (va_up (va_up (va_up (va_up (va_up (va_up (va_up (va_up (va_up (va_up Fn 195 (upd (Fn 195) (cn 6) 0)) 196 (upd (Fn 196) (cn 6) 0)) 197 (upd (Fn 197) (cn 6) 0)) 198 (upd (Fn 198) (cn 6) 0)) 199 (upd (Fn 199) (cn 6) (nI n))) 301 (flat (Fn 301) 200 (cn 6) (fun _ => 0))) 302 (flat (Fn 302) 12 (cn 6) (fun _ => 0))) 303 (flat (Fn 303) 12 (cn 6) (fun _ => 0))) 304 (flat (Fn 304) 12 (cn 6) (fun _ => 0))) 305 (flat (Fn 305) 32 (cn 6) (fun _ => 0))) (cn 6) = (r2, .inl (cI, 12, .inl (fun _ => 0))) := by simp [e10X, adO, va_up, upd, gA_flat, Nat.ne_of_lt h40, hn]
  have a5_4 : e11X cI QA zz g (adO (adO (adO (adO (adO (adO (adO ad 5 (cn 6) qt) 60 (cn 6) r0) 61 (cn 6) r1) 62 (cn 6) r2) 63 (cn 6) r3) 64 (cn 6) r4) 4 1 (cn 6)) (va_up cn 6 (cn 6 + 1)) In (va_up (va_up (va_up (va_up (va_up (va_up (va_up (va_up (va_up (va_up Fn 195 (upd (Fn 195) (cn 6) 0)) 196 (upd (Fn 196) (cn 6) 0)) 197 (upd (Fn 197) (cn 6) 0)) 198 (upd (Fn 198) (cn 6) 0)) 199 (upd (Fn 199) (cn 6) (nI n))) 301 (flat (Fn 301) 200 (cn 6) (fun _ => 0))) 302 (flat (Fn 302) 12 (cn 6) (fun _ => 0))) 303 (flat (Fn 303) 12 (cn 6) (fun _ => 0))) 304 (flat (Fn 304) 12 (cn 6) (fun _ => 0))) 305 (flat (Fn 305) 32 (cn 6) (fun _ => 0))) (cn 6) = (r3, .inl (cI, 12, .inl (fun _ => 0))) := by simp [e11X, adO, va_up, upd, gA_flat, Nat.ne_of_lt h40, hn]
  have a5_5 : e12X cI QA zz g (adO (adO (adO (adO (adO (adO (adO ad 5 (cn 6) qt) 60 (cn 6) r0) 61 (cn 6) r1) 62 (cn 6) r2) 63 (cn 6) r3) 64 (cn 6) r4) 4 1 (cn 6)) (va_up cn 6 (cn 6 + 1)) In (va_up (va_up (va_up (va_up (va_up (va_up (va_up (va_up (va_up (va_up Fn 195 (upd (Fn 195) (cn 6) 0)) 196 (upd (Fn 196) (cn 6) 0)) 197 (upd (Fn 197) (cn 6) 0)) 198 (upd (Fn 198) (cn 6) 0)) 199 (upd (Fn 199) (cn 6) (nI n))) 301 (flat (Fn 301) 200 (cn 6) (fun _ => 0))) 302 (flat (Fn 302) 12 (cn 6) (fun _ => 0))) 303 (flat (Fn 303) 12 (cn 6) (fun _ => 0))) 304 (flat (Fn 304) 12 (cn 6) (fun _ => 0))) 305 (flat (Fn 305) 32 (cn 6) (fun _ => 0))) (cn 6) = (r4, .inl (cI, 32, .inl (fun _ => 0))) := by simp [e12X, adO, va_up, upd, gA_flat, Nat.ne_of_lt h40, hn]
  have b0 : famW (fsX cI QA zz g (adO (adO (adO (adO (adO (adO (adO ad 5 (cn 6) qt) 60 (cn 6) r0) 61 (cn 6) r1) 62 (cn 6) r2) 63 (cn 6) r3) 64 (cn 6) r4) 4 1 (cn 6)) (va_up cn 6 (cn 6 + 1)) In (va_up (va_up (va_up (va_up (va_up (va_up (va_up (va_up (va_up (va_up Fn 195 (upd (Fn 195) (cn 6) 0)) 196 (upd (Fn 196) (cn 6) 0)) 197 (upd (Fn 197) (cn 6) 0)) 198 (upd (Fn 198) (cn 6) 0)) 199 (upd (Fn 199) (cn 6) (nI n))) 301 (flat (Fn 301) 200 (cn 6) (fun _ => 0))) 302 (flat (Fn 302) 12 (cn 6) (fun _ => 0))) 303 (flat (Fn 303) 12 (cn 6) (fun _ => 0))) 304 (flat (Fn 304) 12 (cn 6) (fun _ => 0))) 305 (flat (Fn 305) 32 (cn 6) (fun _ => 0)))) = famW [((cn 10), e0X cI QA zz g ad cn In Fn), ((cn 11), e1X cI QA zz g ad cn In Fn), ((cn 12), e2X cI QA zz g ad cn In Fn), ((cn 13), e3X cI QA zz g ad cn In Fn), ((cn 14), e4X cI QA zz g ad cn In Fn), ((cn 15), e5X cI QA zz g ad cn In Fn), ((cn 12), e6X cI QA zz g ad cn In Fn), ((cn 6) + 1, e7X cI QA zz g (adO (adO (adO (adO (adO (adO (adO ad 5 (cn 6) qt) 60 (cn 6) r0) 61 (cn 6) r1) 62 (cn 6) r2) 63 (cn 6) r3) 64 (cn 6) r4) 4 1 (cn 6)) (va_up cn 6 (cn 6 + 1)) In (va_up (va_up (va_up (va_up (va_up (va_up (va_up (va_up (va_up (va_up Fn 195 (upd (Fn 195) (cn 6) 0)) 196 (upd (Fn 196) (cn 6) 0)) 197 (upd (Fn 197) (cn 6) 0)) 198 (upd (Fn 198) (cn 6) 0)) 199 (upd (Fn 199) (cn 6) (nI n))) 301 (flat (Fn 301) 200 (cn 6) (fun _ => 0))) 302 (flat (Fn 302) 12 (cn 6) (fun _ => 0))) 303 (flat (Fn 303) 12 (cn 6) (fun _ => 0))) 304 (flat (Fn 304) 12 (cn 6) (fun _ => 0))) 305 (flat (Fn 305) 32 (cn 6) (fun _ => 0)))), ((cn 6) + 1, e8X cI QA zz g (adO (adO (adO (adO (adO (adO (adO ad 5 (cn 6) qt) 60 (cn 6) r0) 61 (cn 6) r1) 62 (cn 6) r2) 63 (cn 6) r3) 64 (cn 6) r4) 4 1 (cn 6)) (va_up cn 6 (cn 6 + 1)) In (va_up (va_up (va_up (va_up (va_up (va_up (va_up (va_up (va_up (va_up Fn 195 (upd (Fn 195) (cn 6) 0)) 196 (upd (Fn 196) (cn 6) 0)) 197 (upd (Fn 197) (cn 6) 0)) 198 (upd (Fn 198) (cn 6) 0)) 199 (upd (Fn 199) (cn 6) (nI n))) 301 (flat (Fn 301) 200 (cn 6) (fun _ => 0))) 302 (flat (Fn 302) 12 (cn 6) (fun _ => 0))) 303 (flat (Fn 303) 12 (cn 6) (fun _ => 0))) 304 (flat (Fn 304) 12 (cn 6) (fun _ => 0))) 305 (flat (Fn 305) 32 (cn 6) (fun _ => 0)))), ((cn 6) + 1, e9X cI QA zz g (adO (adO (adO (adO (adO (adO (adO ad 5 (cn 6) qt) 60 (cn 6) r0) 61 (cn 6) r1) 62 (cn 6) r2) 63 (cn 6) r3) 64 (cn 6) r4) 4 1 (cn 6)) (va_up cn 6 (cn 6 + 1)) In (va_up (va_up (va_up (va_up (va_up (va_up (va_up (va_up (va_up (va_up Fn 195 (upd (Fn 195) (cn 6) 0)) 196 (upd (Fn 196) (cn 6) 0)) 197 (upd (Fn 197) (cn 6) 0)) 198 (upd (Fn 198) (cn 6) 0)) 199 (upd (Fn 199) (cn 6) (nI n))) 301 (flat (Fn 301) 200 (cn 6) (fun _ => 0))) 302 (flat (Fn 302) 12 (cn 6) (fun _ => 0))) 303 (flat (Fn 303) 12 (cn 6) (fun _ => 0))) 304 (flat (Fn 304) 12 (cn 6) (fun _ => 0))) 305 (flat (Fn 305) 32 (cn 6) (fun _ => 0)))), ((cn 6) + 1, e10X cI QA zz g (adO (adO (adO (adO (adO (adO (adO ad 5 (cn 6) qt) 60 (cn 6) r0) 61 (cn 6) r1) 62 (cn 6) r2) 63 (cn 6) r3) 64 (cn 6) r4) 4 1 (cn 6)) (va_up cn 6 (cn 6 + 1)) In (va_up (va_up (va_up (va_up (va_up (va_up (va_up (va_up (va_up (va_up Fn 195 (upd (Fn 195) (cn 6) 0)) 196 (upd (Fn 196) (cn 6) 0)) 197 (upd (Fn 197) (cn 6) 0)) 198 (upd (Fn 198) (cn 6) 0)) 199 (upd (Fn 199) (cn 6) (nI n))) 301 (flat (Fn 301) 200 (cn 6) (fun _ => 0))) 302 (flat (Fn 302) 12 (cn 6) (fun _ => 0))) 303 (flat (Fn 303) 12 (cn 6) (fun _ => 0))) 304 (flat (Fn 304) 12 (cn 6) (fun _ => 0))) 305 (flat (Fn 305) 32 (cn 6) (fun _ => 0)))), ((cn 6) + 1, e11X cI QA zz g (adO (adO (adO (adO (adO (adO (adO ad 5 (cn 6) qt) 60 (cn 6) r0) 61 (cn 6) r1) 62 (cn 6) r2) 63 (cn 6) r3) 64 (cn 6) r4) 4 1 (cn 6)) (va_up cn 6 (cn 6 + 1)) In (va_up (va_up (va_up (va_up (va_up (va_up (va_up (va_up (va_up (va_up Fn 195 (upd (Fn 195) (cn 6) 0)) 196 (upd (Fn 196) (cn 6) 0)) 197 (upd (Fn 197) (cn 6) 0)) 198 (upd (Fn 198) (cn 6) 0)) 199 (upd (Fn 199) (cn 6) (nI n))) 301 (flat (Fn 301) 200 (cn 6) (fun _ => 0))) 302 (flat (Fn 302) 12 (cn 6) (fun _ => 0))) 303 (flat (Fn 303) 12 (cn 6) (fun _ => 0))) 304 (flat (Fn 304) 12 (cn 6) (fun _ => 0))) 305 (flat (Fn 305) 32 (cn 6) (fun _ => 0)))), ((cn 6) + 1, e12X cI QA zz g (adO (adO (adO (adO (adO (adO (adO ad 5 (cn 6) qt) 60 (cn 6) r0) 61 (cn 6) r1) 62 (cn 6) r2) 63 (cn 6) r3) 64 (cn 6) r4) 4 1 (cn 6)) (va_up cn 6 (cn 6 + 1)) In (va_up (va_up (va_up (va_up (va_up (va_up (va_up (va_up (va_up (va_up Fn 195 (upd (Fn 195) (cn 6) 0)) 196 (upd (Fn 196) (cn 6) 0)) 197 (upd (Fn 197) (cn 6) 0)) 198 (upd (Fn 198) (cn 6) 0)) 199 (upd (Fn 199) (cn 6) (nI n))) 301 (flat (Fn 301) 200 (cn 6) (fun _ => 0))) 302 (flat (Fn 302) 12 (cn 6) (fun _ => 0))) 303 (flat (Fn 303) 12 (cn 6) (fun _ => 0))) 304 (flat (Fn 304) 12 (cn 6) (fun _ => 0))) 305 (flat (Fn 305) 32 (cn 6) (fun _ => 0)))), ((min 1 (cn 10)), e13X cI QA zz g ad cn In Fn), ((min 1 (cn 11)), e14X cI QA zz g ad cn In Fn), ((min 1 (cn 12)), e15X cI QA zz g ad cn In Fn), ((min 1 (cn 13)), e16X cI QA zz g ad cn In Fn), ((min 1 (cn 14)), e17X cI QA zz g ad cn In Fn), ((min 1 (cn 15)), e18X cI QA zz g ad cn In Fn)] := famW_cg (show famE [(((va_up cn 6 (cn 6 + 1)) 10), e0X cI QA zz g (adO (adO (adO (adO (adO (adO (adO ad 5 (cn 6) qt) 60 (cn 6) r0) 61 (cn 6) r1) 62 (cn 6) r2) 63 (cn 6) r3) 64 (cn 6) r4) 4 1 (cn 6)) (va_up cn 6 (cn 6 + 1)) In (va_up (va_up (va_up (va_up (va_up (va_up (va_up (va_up (va_up (va_up Fn 195 (upd (Fn 195) (cn 6) 0)) 196 (upd (Fn 196) (cn 6) 0)) 197 (upd (Fn 197) (cn 6) 0)) 198 (upd (Fn 198) (cn 6) 0)) 199 (upd (Fn 199) (cn 6) (nI n))) 301 (flat (Fn 301) 200 (cn 6) (fun _ => 0))) 302 (flat (Fn 302) 12 (cn 6) (fun _ => 0))) 303 (flat (Fn 303) 12 (cn 6) (fun _ => 0))) 304 (flat (Fn 304) 12 (cn 6) (fun _ => 0))) 305 (flat (Fn 305) 32 (cn 6) (fun _ => 0)))), (((va_up cn 6 (cn 6 + 1)) 11), e1X cI QA zz g (adO (adO (adO (adO (adO (adO (adO ad 5 (cn 6) qt) 60 (cn 6) r0) 61 (cn 6) r1) 62 (cn 6) r2) 63 (cn 6) r3) 64 (cn 6) r4) 4 1 (cn 6)) (va_up cn 6 (cn 6 + 1)) In (va_up (va_up (va_up (va_up (va_up (va_up (va_up (va_up (va_up (va_up Fn 195 (upd (Fn 195) (cn 6) 0)) 196 (upd (Fn 196) (cn 6) 0)) 197 (upd (Fn 197) (cn 6) 0)) 198 (upd (Fn 198) (cn 6) 0)) 199 (upd (Fn 199) (cn 6) (nI n))) 301 (flat (Fn 301) 200 (cn 6) (fun _ => 0))) 302 (flat (Fn 302) 12 (cn 6) (fun _ => 0))) 303 (flat (Fn 303) 12 (cn 6) (fun _ => 0))) 304 (flat (Fn 304) 12 (cn 6) (fun _ => 0))) 305 (flat (Fn 305) 32 (cn 6) (fun _ => 0)))), (((va_up cn 6 (cn 6 + 1)) 12), e2X cI QA zz g (adO (adO (adO (adO (adO (adO (adO ad 5 (cn 6) qt) 60 (cn 6) r0) 61 (cn 6) r1) 62 (cn 6) r2) 63 (cn 6) r3) 64 (cn 6) r4) 4 1 (cn 6)) (va_up cn 6 (cn 6 + 1)) In (va_up (va_up (va_up (va_up (va_up (va_up (va_up (va_up (va_up (va_up Fn 195 (upd (Fn 195) (cn 6) 0)) 196 (upd (Fn 196) (cn 6) 0)) 197 (upd (Fn 197) (cn 6) 0)) 198 (upd (Fn 198) (cn 6) 0)) 199 (upd (Fn 199) (cn 6) (nI n))) 301 (flat (Fn 301) 200 (cn 6) (fun _ => 0))) 302 (flat (Fn 302) 12 (cn 6) (fun _ => 0))) 303 (flat (Fn 303) 12 (cn 6) (fun _ => 0))) 304 (flat (Fn 304) 12 (cn 6) (fun _ => 0))) 305 (flat (Fn 305) 32 (cn 6) (fun _ => 0)))), (((va_up cn 6 (cn 6 + 1)) 13), e3X cI QA zz g (adO (adO (adO (adO (adO (adO (adO ad 5 (cn 6) qt) 60 (cn 6) r0) 61 (cn 6) r1) 62 (cn 6) r2) 63 (cn 6) r3) 64 (cn 6) r4) 4 1 (cn 6)) (va_up cn 6 (cn 6 + 1)) In (va_up (va_up (va_up (va_up (va_up (va_up (va_up (va_up (va_up (va_up Fn 195 (upd (Fn 195) (cn 6) 0)) 196 (upd (Fn 196) (cn 6) 0)) 197 (upd (Fn 197) (cn 6) 0)) 198 (upd (Fn 198) (cn 6) 0)) 199 (upd (Fn 199) (cn 6) (nI n))) 301 (flat (Fn 301) 200 (cn 6) (fun _ => 0))) 302 (flat (Fn 302) 12 (cn 6) (fun _ => 0))) 303 (flat (Fn 303) 12 (cn 6) (fun _ => 0))) 304 (flat (Fn 304) 12 (cn 6) (fun _ => 0))) 305 (flat (Fn 305) 32 (cn 6) (fun _ => 0)))), (((va_up cn 6 (cn 6 + 1)) 14), e4X cI QA zz g (adO (adO (adO (adO (adO (adO (adO ad 5 (cn 6) qt) 60 (cn 6) r0) 61 (cn 6) r1) 62 (cn 6) r2) 63 (cn 6) r3) 64 (cn 6) r4) 4 1 (cn 6)) (va_up cn 6 (cn 6 + 1)) In (va_up (va_up (va_up (va_up (va_up (va_up (va_up (va_up (va_up (va_up Fn 195 (upd (Fn 195) (cn 6) 0)) 196 (upd (Fn 196) (cn 6) 0)) 197 (upd (Fn 197) (cn 6) 0)) 198 (upd (Fn 198) (cn 6) 0)) 199 (upd (Fn 199) (cn 6) (nI n))) 301 (flat (Fn 301) 200 (cn 6) (fun _ => 0))) 302 (flat (Fn 302) 12 (cn 6) (fun _ => 0))) 303 (flat (Fn 303) 12 (cn 6) (fun _ => 0))) 304 (flat (Fn 304) 12 (cn 6) (fun _ => 0))) 305 (flat (Fn 305) 32 (cn 6) (fun _ => 0)))), (((va_up cn 6 (cn 6 + 1)) 15), e5X cI QA zz g (adO (adO (adO (adO (adO (adO (adO ad 5 (cn 6) qt) 60 (cn 6) r0) 61 (cn 6) r1) 62 (cn 6) r2) 63 (cn 6) r3) 64 (cn 6) r4) 4 1 (cn 6)) (va_up cn 6 (cn 6 + 1)) In (va_up (va_up (va_up (va_up (va_up (va_up (va_up (va_up (va_up (va_up Fn 195 (upd (Fn 195) (cn 6) 0)) 196 (upd (Fn 196) (cn 6) 0)) 197 (upd (Fn 197) (cn 6) 0)) 198 (upd (Fn 198) (cn 6) 0)) 199 (upd (Fn 199) (cn 6) (nI n))) 301 (flat (Fn 301) 200 (cn 6) (fun _ => 0))) 302 (flat (Fn 302) 12 (cn 6) (fun _ => 0))) 303 (flat (Fn 303) 12 (cn 6) (fun _ => 0))) 304 (flat (Fn 304) 12 (cn 6) (fun _ => 0))) 305 (flat (Fn 305) 32 (cn 6) (fun _ => 0)))), (((va_up cn 6 (cn 6 + 1)) 12), e6X cI QA zz g (adO (adO (adO (adO (adO (adO (adO ad 5 (cn 6) qt) 60 (cn 6) r0) 61 (cn 6) r1) 62 (cn 6) r2) 63 (cn 6) r3) 64 (cn 6) r4) 4 1 (cn 6)) (va_up cn 6 (cn 6 + 1)) In (va_up (va_up (va_up (va_up (va_up (va_up (va_up (va_up (va_up (va_up Fn 195 (upd (Fn 195) (cn 6) 0)) 196 (upd (Fn 196) (cn 6) 0)) 197 (upd (Fn 197) (cn 6) 0)) 198 (upd (Fn 198) (cn 6) 0)) 199 (upd (Fn 199) (cn 6) (nI n))) 301 (flat (Fn 301) 200 (cn 6) (fun _ => 0))) 302 (flat (Fn 302) 12 (cn 6) (fun _ => 0))) 303 (flat (Fn 303) 12 (cn 6) (fun _ => 0))) 304 (flat (Fn 304) 12 (cn 6) (fun _ => 0))) 305 (flat (Fn 305) 32 (cn 6) (fun _ => 0)))), (((va_up cn 6 (cn 6 + 1)) 6), e7X cI QA zz g (adO (adO (adO (adO (adO (adO (adO ad 5 (cn 6) qt) 60 (cn 6) r0) 61 (cn 6) r1) 62 (cn 6) r2) 63 (cn 6) r3) 64 (cn 6) r4) 4 1 (cn 6)) (va_up cn 6 (cn 6 + 1)) In (va_up (va_up (va_up (va_up (va_up (va_up (va_up (va_up (va_up (va_up Fn 195 (upd (Fn 195) (cn 6) 0)) 196 (upd (Fn 196) (cn 6) 0)) 197 (upd (Fn 197) (cn 6) 0)) 198 (upd (Fn 198) (cn 6) 0)) 199 (upd (Fn 199) (cn 6) (nI n))) 301 (flat (Fn 301) 200 (cn 6) (fun _ => 0))) 302 (flat (Fn 302) 12 (cn 6) (fun _ => 0))) 303 (flat (Fn 303) 12 (cn 6) (fun _ => 0))) 304 (flat (Fn 304) 12 (cn 6) (fun _ => 0))) 305 (flat (Fn 305) 32 (cn 6) (fun _ => 0)))), (((va_up cn 6 (cn 6 + 1)) 6), e8X cI QA zz g (adO (adO (adO (adO (adO (adO (adO ad 5 (cn 6) qt) 60 (cn 6) r0) 61 (cn 6) r1) 62 (cn 6) r2) 63 (cn 6) r3) 64 (cn 6) r4) 4 1 (cn 6)) (va_up cn 6 (cn 6 + 1)) In (va_up (va_up (va_up (va_up (va_up (va_up (va_up (va_up (va_up (va_up Fn 195 (upd (Fn 195) (cn 6) 0)) 196 (upd (Fn 196) (cn 6) 0)) 197 (upd (Fn 197) (cn 6) 0)) 198 (upd (Fn 198) (cn 6) 0)) 199 (upd (Fn 199) (cn 6) (nI n))) 301 (flat (Fn 301) 200 (cn 6) (fun _ => 0))) 302 (flat (Fn 302) 12 (cn 6) (fun _ => 0))) 303 (flat (Fn 303) 12 (cn 6) (fun _ => 0))) 304 (flat (Fn 304) 12 (cn 6) (fun _ => 0))) 305 (flat (Fn 305) 32 (cn 6) (fun _ => 0)))), (((va_up cn 6 (cn 6 + 1)) 6), e9X cI QA zz g (adO (adO (adO (adO (adO (adO (adO ad 5 (cn 6) qt) 60 (cn 6) r0) 61 (cn 6) r1) 62 (cn 6) r2) 63 (cn 6) r3) 64 (cn 6) r4) 4 1 (cn 6)) (va_up cn 6 (cn 6 + 1)) In (va_up (va_up (va_up (va_up (va_up (va_up (va_up (va_up (va_up (va_up Fn 195 (upd (Fn 195) (cn 6) 0)) 196 (upd (Fn 196) (cn 6) 0)) 197 (upd (Fn 197) (cn 6) 0)) 198 (upd (Fn 198) (cn 6) 0)) 199 (upd (Fn 199) (cn 6) (nI n))) 301 (flat (Fn 301) 200 (cn 6) (fun _ => 0))) 302 (flat (Fn 302) 12 (cn 6) (fun _ => 0))) 303 (flat (Fn 303) 12 (cn 6) (fun _ => 0))) 304 (flat (Fn 304) 12 (cn 6) (fun _ => 0))) 305 (flat (Fn 305) 32 (cn 6) (fun _ => 0)))), (((va_up cn 6 (cn 6 + 1)) 6), e10X cI QA zz g (adO (adO (adO (adO (adO (adO (adO ad 5 (cn 6) qt) 60 (cn 6) r0) 61 (cn 6) r1) 62 (cn 6) r2) 63 (cn 6) r3) 64 (cn 6) r4) 4 1 (cn 6)) (va_up cn 6 (cn 6 + 1)) In (va_up (va_up (va_up (va_up (va_up (va_up (va_up (va_up (va_up (va_up Fn 195 (upd (Fn 195) (cn 6) 0)) 196 (upd (Fn 196) (cn 6) 0)) 197 (upd (Fn 197) (cn 6) 0)) 198 (upd (Fn 198) (cn 6) 0)) 199 (upd (Fn 199) (cn 6) (nI n))) 301 (flat (Fn 301) 200 (cn 6) (fun _ => 0))) 302 (flat (Fn 302) 12 (cn 6) (fun _ => 0))) 303 (flat (Fn 303) 12 (cn 6) (fun _ => 0))) 304 (flat (Fn 304) 12 (cn 6) (fun _ => 0))) 305 (flat (Fn 305) 32 (cn 6) (fun _ => 0)))), (((va_up cn 6 (cn 6 + 1)) 6), e11X cI QA zz g (adO (adO (adO (adO (adO (adO (adO ad 5 (cn 6) qt) 60 (cn 6) r0) 61 (cn 6) r1) 62 (cn 6) r2) 63 (cn 6) r3) 64 (cn 6) r4) 4 1 (cn 6)) (va_up cn 6 (cn 6 + 1)) In (va_up (va_up (va_up (va_up (va_up (va_up (va_up (va_up (va_up (va_up Fn 195 (upd (Fn 195) (cn 6) 0)) 196 (upd (Fn 196) (cn 6) 0)) 197 (upd (Fn 197) (cn 6) 0)) 198 (upd (Fn 198) (cn 6) 0)) 199 (upd (Fn 199) (cn 6) (nI n))) 301 (flat (Fn 301) 200 (cn 6) (fun _ => 0))) 302 (flat (Fn 302) 12 (cn 6) (fun _ => 0))) 303 (flat (Fn 303) 12 (cn 6) (fun _ => 0))) 304 (flat (Fn 304) 12 (cn 6) (fun _ => 0))) 305 (flat (Fn 305) 32 (cn 6) (fun _ => 0)))), (((va_up cn 6 (cn 6 + 1)) 6), e12X cI QA zz g (adO (adO (adO (adO (adO (adO (adO ad 5 (cn 6) qt) 60 (cn 6) r0) 61 (cn 6) r1) 62 (cn 6) r2) 63 (cn 6) r3) 64 (cn 6) r4) 4 1 (cn 6)) (va_up cn 6 (cn 6 + 1)) In (va_up (va_up (va_up (va_up (va_up (va_up (va_up (va_up (va_up (va_up Fn 195 (upd (Fn 195) (cn 6) 0)) 196 (upd (Fn 196) (cn 6) 0)) 197 (upd (Fn 197) (cn 6) 0)) 198 (upd (Fn 198) (cn 6) 0)) 199 (upd (Fn 199) (cn 6) (nI n))) 301 (flat (Fn 301) 200 (cn 6) (fun _ => 0))) 302 (flat (Fn 302) 12 (cn 6) (fun _ => 0))) 303 (flat (Fn 303) 12 (cn 6) (fun _ => 0))) 304 (flat (Fn 304) 12 (cn 6) (fun _ => 0))) 305 (flat (Fn 305) 32 (cn 6) (fun _ => 0)))), ((min 1 ((va_up cn 6 (cn 6 + 1)) 10)), e13X cI QA zz g (adO (adO (adO (adO (adO (adO (adO ad 5 (cn 6) qt) 60 (cn 6) r0) 61 (cn 6) r1) 62 (cn 6) r2) 63 (cn 6) r3) 64 (cn 6) r4) 4 1 (cn 6)) (va_up cn 6 (cn 6 + 1)) In (va_up (va_up (va_up (va_up (va_up (va_up (va_up (va_up (va_up (va_up Fn 195 (upd (Fn 195) (cn 6) 0)) 196 (upd (Fn 196) (cn 6) 0)) 197 (upd (Fn 197) (cn 6) 0)) 198 (upd (Fn 198) (cn 6) 0)) 199 (upd (Fn 199) (cn 6) (nI n))) 301 (flat (Fn 301) 200 (cn 6) (fun _ => 0))) 302 (flat (Fn 302) 12 (cn 6) (fun _ => 0))) 303 (flat (Fn 303) 12 (cn 6) (fun _ => 0))) 304 (flat (Fn 304) 12 (cn 6) (fun _ => 0))) 305 (flat (Fn 305) 32 (cn 6) (fun _ => 0)))), ((min 1 ((va_up cn 6 (cn 6 + 1)) 11)), e14X cI QA zz g (adO (adO (adO (adO (adO (adO (adO ad 5 (cn 6) qt) 60 (cn 6) r0) 61 (cn 6) r1) 62 (cn 6) r2) 63 (cn 6) r3) 64 (cn 6) r4) 4 1 (cn 6)) (va_up cn 6 (cn 6 + 1)) In (va_up (va_up (va_up (va_up (va_up (va_up (va_up (va_up (va_up (va_up Fn 195 (upd (Fn 195) (cn 6) 0)) 196 (upd (Fn 196) (cn 6) 0)) 197 (upd (Fn 197) (cn 6) 0)) 198 (upd (Fn 198) (cn 6) 0)) 199 (upd (Fn 199) (cn 6) (nI n))) 301 (flat (Fn 301) 200 (cn 6) (fun _ => 0))) 302 (flat (Fn 302) 12 (cn 6) (fun _ => 0))) 303 (flat (Fn 303) 12 (cn 6) (fun _ => 0))) 304 (flat (Fn 304) 12 (cn 6) (fun _ => 0))) 305 (flat (Fn 305) 32 (cn 6) (fun _ => 0)))), ((min 1 ((va_up cn 6 (cn 6 + 1)) 12)), e15X cI QA zz g (adO (adO (adO (adO (adO (adO (adO ad 5 (cn 6) qt) 60 (cn 6) r0) 61 (cn 6) r1) 62 (cn 6) r2) 63 (cn 6) r3) 64 (cn 6) r4) 4 1 (cn 6)) (va_up cn 6 (cn 6 + 1)) In (va_up (va_up (va_up (va_up (va_up (va_up (va_up (va_up (va_up (va_up Fn 195 (upd (Fn 195) (cn 6) 0)) 196 (upd (Fn 196) (cn 6) 0)) 197 (upd (Fn 197) (cn 6) 0)) 198 (upd (Fn 198) (cn 6) 0)) 199 (upd (Fn 199) (cn 6) (nI n))) 301 (flat (Fn 301) 200 (cn 6) (fun _ => 0))) 302 (flat (Fn 302) 12 (cn 6) (fun _ => 0))) 303 (flat (Fn 303) 12 (cn 6) (fun _ => 0))) 304 (flat (Fn 304) 12 (cn 6) (fun _ => 0))) 305 (flat (Fn 305) 32 (cn 6) (fun _ => 0)))), ((min 1 ((va_up cn 6 (cn 6 + 1)) 13)), e16X cI QA zz g (adO (adO (adO (adO (adO (adO (adO ad 5 (cn 6) qt) 60 (cn 6) r0) 61 (cn 6) r1) 62 (cn 6) r2) 63 (cn 6) r3) 64 (cn 6) r4) 4 1 (cn 6)) (va_up cn 6 (cn 6 + 1)) In (va_up (va_up (va_up (va_up (va_up (va_up (va_up (va_up (va_up (va_up Fn 195 (upd (Fn 195) (cn 6) 0)) 196 (upd (Fn 196) (cn 6) 0)) 197 (upd (Fn 197) (cn 6) 0)) 198 (upd (Fn 198) (cn 6) 0)) 199 (upd (Fn 199) (cn 6) (nI n))) 301 (flat (Fn 301) 200 (cn 6) (fun _ => 0))) 302 (flat (Fn 302) 12 (cn 6) (fun _ => 0))) 303 (flat (Fn 303) 12 (cn 6) (fun _ => 0))) 304 (flat (Fn 304) 12 (cn 6) (fun _ => 0))) 305 (flat (Fn 305) 32 (cn 6) (fun _ => 0)))), ((min 1 ((va_up cn 6 (cn 6 + 1)) 14)), e17X cI QA zz g (adO (adO (adO (adO (adO (adO (adO ad 5 (cn 6) qt) 60 (cn 6) r0) 61 (cn 6) r1) 62 (cn 6) r2) 63 (cn 6) r3) 64 (cn 6) r4) 4 1 (cn 6)) (va_up cn 6 (cn 6 + 1)) In (va_up (va_up (va_up (va_up (va_up (va_up (va_up (va_up (va_up (va_up Fn 195 (upd (Fn 195) (cn 6) 0)) 196 (upd (Fn 196) (cn 6) 0)) 197 (upd (Fn 197) (cn 6) 0)) 198 (upd (Fn 198) (cn 6) 0)) 199 (upd (Fn 199) (cn 6) (nI n))) 301 (flat (Fn 301) 200 (cn 6) (fun _ => 0))) 302 (flat (Fn 302) 12 (cn 6) (fun _ => 0))) 303 (flat (Fn 303) 12 (cn 6) (fun _ => 0))) 304 (flat (Fn 304) 12 (cn 6) (fun _ => 0))) 305 (flat (Fn 305) 32 (cn 6) (fun _ => 0)))), ((min 1 ((va_up cn 6 (cn 6 + 1)) 15)), e18X cI QA zz g (adO (adO (adO (adO (adO (adO (adO ad 5 (cn 6) qt) 60 (cn 6) r0) 61 (cn 6) r1) 62 (cn 6) r2) 63 (cn 6) r3) 64 (cn 6) r4) 4 1 (cn 6)) (va_up cn 6 (cn 6 + 1)) In (va_up (va_up (va_up (va_up (va_up (va_up (va_up (va_up (va_up (va_up Fn 195 (upd (Fn 195) (cn 6) 0)) 196 (upd (Fn 196) (cn 6) 0)) 197 (upd (Fn 197) (cn 6) 0)) 198 (upd (Fn 198) (cn 6) 0)) 199 (upd (Fn 199) (cn 6) (nI n))) 301 (flat (Fn 301) 200 (cn 6) (fun _ => 0))) 302 (flat (Fn 302) 12 (cn 6) (fun _ => 0))) 303 (flat (Fn 303) 12 (cn 6) (fun _ => 0))) 304 (flat (Fn 304) 12 (cn 6) (fun _ => 0))) 305 (flat (Fn 305) 32 (cn 6) (fun _ => 0))))] [((cn 10), e0X cI QA zz g ad cn In Fn), ((cn 11), e1X cI QA zz g ad cn In Fn), ((cn 12), e2X cI QA zz g ad cn In Fn), ((cn 13), e3X cI QA zz g ad cn In Fn), ((cn 14), e4X cI QA zz g ad cn In Fn), ((cn 15), e5X cI QA zz g ad cn In Fn), ((cn 12), e6X cI QA zz g ad cn In Fn), ((cn 6) + 1, e7X cI QA zz g (adO (adO (adO (adO (adO (adO (adO ad 5 (cn 6) qt) 60 (cn 6) r0) 61 (cn 6) r1) 62 (cn 6) r2) 63 (cn 6) r3) 64 (cn 6) r4) 4 1 (cn 6)) (va_up cn 6 (cn 6 + 1)) In (va_up (va_up (va_up (va_up (va_up (va_up (va_up (va_up (va_up (va_up Fn 195 (upd (Fn 195) (cn 6) 0)) 196 (upd (Fn 196) (cn 6) 0)) 197 (upd (Fn 197) (cn 6) 0)) 198 (upd (Fn 198) (cn 6) 0)) 199 (upd (Fn 199) (cn 6) (nI n))) 301 (flat (Fn 301) 200 (cn 6) (fun _ => 0))) 302 (flat (Fn 302) 12 (cn 6) (fun _ => 0))) 303 (flat (Fn 303) 12 (cn 6) (fun _ => 0))) 304 (flat (Fn 304) 12 (cn 6) (fun _ => 0))) 305 (flat (Fn 305) 32 (cn 6) (fun _ => 0)))), ((cn 6) + 1, e8X cI QA zz g (adO (adO (adO (adO (adO (adO (adO ad 5 (cn 6) qt) 60 (cn 6) r0) 61 (cn 6) r1) 62 (cn 6) r2) 63 (cn 6) r3) 64 (cn 6) r4) 4 1 (cn 6)) (va_up cn 6 (cn 6 + 1)) In (va_up (va_up (va_up (va_up (va_up (va_up (va_up (va_up (va_up (va_up Fn 195 (upd (Fn 195) (cn 6) 0)) 196 (upd (Fn 196) (cn 6) 0)) 197 (upd (Fn 197) (cn 6) 0)) 198 (upd (Fn 198) (cn 6) 0)) 199 (upd (Fn 199) (cn 6) (nI n))) 301 (flat (Fn 301) 200 (cn 6) (fun _ => 0))) 302 (flat (Fn 302) 12 (cn 6) (fun _ => 0))) 303 (flat (Fn 303) 12 (cn 6) (fun _ => 0))) 304 (flat (Fn 304) 12 (cn 6) (fun _ => 0))) 305 (flat (Fn 305) 32 (cn 6) (fun _ => 0)))), ((cn 6) + 1, e9X cI QA zz g (adO (adO (adO (adO (adO (adO (adO ad 5 (cn 6) qt) 60 (cn 6) r0) 61 (cn 6) r1) 62 (cn 6) r2) 63 (cn 6) r3) 64 (cn 6) r4) 4 1 (cn 6)) (va_up cn 6 (cn 6 + 1)) In (va_up (va_up (va_up (va_up (va_up (va_up (va_up (va_up (va_up (va_up Fn 195 (upd (Fn 195) (cn 6) 0)) 196 (upd (Fn 196) (cn 6) 0)) 197 (upd (Fn 197) (cn 6) 0)) 198 (upd (Fn 198) (cn 6) 0)) 199 (upd (Fn 199) (cn 6) (nI n))) 301 (flat (Fn 301) 200 (cn 6) (fun _ => 0))) 302 (flat (Fn 302) 12 (cn 6) (fun _ => 0))) 303 (flat (Fn 303) 12 (cn 6) (fun _ => 0))) 304 (flat (Fn 304) 12 (cn 6) (fun _ => 0))) 305 (flat (Fn 305) 32 (cn 6) (fun _ => 0)))), ((cn 6) + 1, e10X cI QA zz g (adO (adO (adO (adO (adO (adO (adO ad 5 (cn 6) qt) 60 (cn 6) r0) 61 (cn 6) r1) 62 (cn 6) r2) 63 (cn 6) r3) 64 (cn 6) r4) 4 1 (cn 6)) (va_up cn 6 (cn 6 + 1)) In (va_up (va_up (va_up (va_up (va_up (va_up (va_up (va_up (va_up (va_up Fn 195 (upd (Fn 195) (cn 6) 0)) 196 (upd (Fn 196) (cn 6) 0)) 197 (upd (Fn 197) (cn 6) 0)) 198 (upd (Fn 198) (cn 6) 0)) 199 (upd (Fn 199) (cn 6) (nI n))) 301 (flat (Fn 301) 200 (cn 6) (fun _ => 0))) 302 (flat (Fn 302) 12 (cn 6) (fun _ => 0))) 303 (flat (Fn 303) 12 (cn 6) (fun _ => 0))) 304 (flat (Fn 304) 12 (cn 6) (fun _ => 0))) 305 (flat (Fn 305) 32 (cn 6) (fun _ => 0)))), ((cn 6) + 1, e11X cI QA zz g (adO (adO (adO (adO (adO (adO (adO ad 5 (cn 6) qt) 60 (cn 6) r0) 61 (cn 6) r1) 62 (cn 6) r2) 63 (cn 6) r3) 64 (cn 6) r4) 4 1 (cn 6)) (va_up cn 6 (cn 6 + 1)) In (va_up (va_up (va_up (va_up (va_up (va_up (va_up (va_up (va_up (va_up Fn 195 (upd (Fn 195) (cn 6) 0)) 196 (upd (Fn 196) (cn 6) 0)) 197 (upd (Fn 197) (cn 6) 0)) 198 (upd (Fn 198) (cn 6) 0)) 199 (upd (Fn 199) (cn 6) (nI n))) 301 (flat (Fn 301) 200 (cn 6) (fun _ => 0))) 302 (flat (Fn 302) 12 (cn 6) (fun _ => 0))) 303 (flat (Fn 303) 12 (cn 6) (fun _ => 0))) 304 (flat (Fn 304) 12 (cn 6) (fun _ => 0))) 305 (flat (Fn 305) 32 (cn 6) (fun _ => 0)))), ((cn 6) + 1, e12X cI QA zz g (adO (adO (adO (adO (adO (adO (adO ad 5 (cn 6) qt) 60 (cn 6) r0) 61 (cn 6) r1) 62 (cn 6) r2) 63 (cn 6) r3) 64 (cn 6) r4) 4 1 (cn 6)) (va_up cn 6 (cn 6 + 1)) In (va_up (va_up (va_up (va_up (va_up (va_up (va_up (va_up (va_up (va_up Fn 195 (upd (Fn 195) (cn 6) 0)) 196 (upd (Fn 196) (cn 6) 0)) 197 (upd (Fn 197) (cn 6) 0)) 198 (upd (Fn 198) (cn 6) 0)) 199 (upd (Fn 199) (cn 6) (nI n))) 301 (flat (Fn 301) 200 (cn 6) (fun _ => 0))) 302 (flat (Fn 302) 12 (cn 6) (fun _ => 0))) 303 (flat (Fn 303) 12 (cn 6) (fun _ => 0))) 304 (flat (Fn 304) 12 (cn 6) (fun _ => 0))) 305 (flat (Fn 305) 32 (cn 6) (fun _ => 0)))), ((min 1 (cn 10)), e13X cI QA zz g ad cn In Fn), ((min 1 (cn 11)), e14X cI QA zz g ad cn In Fn), ((min 1 (cn 12)), e15X cI QA zz g ad cn In Fn), ((min 1 (cn 13)), e16X cI QA zz g ad cn In Fn), ((min 1 (cn 14)), e17X cI QA zz g ad cn In Fn), ((min 1 (cn 15)), e18X cI QA zz g ad cn In Fn)] from ⟨⟨rfl, fun k hk => by have hk : k < cn 10 := hk; simp [e0X, adO, va_up, Nat.ne_of_lt h40, hn, Nat.ne_of_lt (hT k hk)]⟩, ⟨rfl, fun k hk => by have hk : k < (cn 11) := hk; simp [e1X, adO, va_up, Nat.ne_of_lt h40, hn]⟩, ⟨rfl, fun k hk => by have hk : k < (cn 12) := hk; simp [e2X, adO, va_up, Nat.ne_of_lt h40, hn]⟩, ⟨rfl, fun k hk => by have hk : k < (cn 13) := hk; simp [e3X, adO, va_up, Nat.ne_of_lt h40, hn]⟩, ⟨rfl, fun k hk => by have hk : k < (cn 14) := hk; simp [e4X, adO, va_up, Nat.ne_of_lt h40, hn]⟩, ⟨rfl, fun k hk => by have hk : k < (cn 15) := hk; simp [e5X, adO, va_up, Nat.ne_of_lt h40, hn]⟩, ⟨rfl, fun k hk => by have hk : k < (cn 12) := hk; simp [e6X, adO, va_up, Nat.ne_of_lt h40, hn]⟩, ⟨rfl, fun k hk => rfl⟩, ⟨rfl, fun k hk => rfl⟩, ⟨rfl, fun k hk => rfl⟩, ⟨rfl, fun k hk => rfl⟩, ⟨rfl, fun k hk => rfl⟩, ⟨rfl, fun k hk => rfl⟩, ⟨rfl, fun k hk => by have hk : k < (min 1 (cn 10)) := hk; simp [e13X, adO, va_up, Nat.ne_of_lt h40, hn]⟩, ⟨rfl, fun k hk => by have hk : k < (min 1 (cn 11)) := hk; simp [e14X, adO, va_up, Nat.ne_of_lt h40, hn]⟩, ⟨rfl, fun k hk => by have hk : k < (min 1 (cn 12)) := hk; simp [e15X, adO, va_up, Nat.ne_of_lt h40, hn]⟩, ⟨rfl, fun k hk => by have hk : k < (min 1 (cn 13)) := hk; simp [e16X, adO, va_up, Nat.ne_of_lt h40, hn]⟩, ⟨rfl, fun k hk => by have hk : k < (min 1 (cn 14)) := hk; simp [e17X, adO, va_up, Nat.ne_of_lt h40, hn]⟩, ⟨rfl, fun k hk => by have hk : k < (min 1 (cn 15)) := hk; simp [e18X, adO, va_up, Nat.ne_of_lt h40, hn]⟩, trivial⟩)
  have p0 := famW_push (fs := [((cn 10), e0X cI QA zz g ad cn In Fn), ((cn 11), e1X cI QA zz g ad cn In Fn), ((cn 12), e2X cI QA zz g ad cn In Fn), ((cn 13), e3X cI QA zz g ad cn In Fn), ((cn 14), e4X cI QA zz g ad cn In Fn), ((cn 15), e5X cI QA zz g ad cn In Fn), ((cn 12), e6X cI QA zz g ad cn In Fn), ((cn 6) + 1, e7X cI QA zz g (adO (adO (adO (adO (adO (adO (adO ad 5 (cn 6) qt) 60 (cn 6) r0) 61 (cn 6) r1) 62 (cn 6) r2) 63 (cn 6) r3) 64 (cn 6) r4) 4 1 (cn 6)) (va_up cn 6 (cn 6 + 1)) In (va_up (va_up (va_up (va_up (va_up (va_up (va_up (va_up (va_up (va_up Fn 195 (upd (Fn 195) (cn 6) 0)) 196 (upd (Fn 196) (cn 6) 0)) 197 (upd (Fn 197) (cn 6) 0)) 198 (upd (Fn 198) (cn 6) 0)) 199 (upd (Fn 199) (cn 6) (nI n))) 301 (flat (Fn 301) 200 (cn 6) (fun _ => 0))) 302 (flat (Fn 302) 12 (cn 6) (fun _ => 0))) 303 (flat (Fn 303) 12 (cn 6) (fun _ => 0))) 304 (flat (Fn 304) 12 (cn 6) (fun _ => 0))) 305 (flat (Fn 305) 32 (cn 6) (fun _ => 0)))), ((cn 6) + 1, e8X cI QA zz g (adO (adO (adO (adO (adO (adO (adO ad 5 (cn 6) qt) 60 (cn 6) r0) 61 (cn 6) r1) 62 (cn 6) r2) 63 (cn 6) r3) 64 (cn 6) r4) 4 1 (cn 6)) (va_up cn 6 (cn 6 + 1)) In (va_up (va_up (va_up (va_up (va_up (va_up (va_up (va_up (va_up (va_up Fn 195 (upd (Fn 195) (cn 6) 0)) 196 (upd (Fn 196) (cn 6) 0)) 197 (upd (Fn 197) (cn 6) 0)) 198 (upd (Fn 198) (cn 6) 0)) 199 (upd (Fn 199) (cn 6) (nI n))) 301 (flat (Fn 301) 200 (cn 6) (fun _ => 0))) 302 (flat (Fn 302) 12 (cn 6) (fun _ => 0))) 303 (flat (Fn 303) 12 (cn 6) (fun _ => 0))) 304 (flat (Fn 304) 12 (cn 6) (fun _ => 0))) 305 (flat (Fn 305) 32 (cn 6) (fun _ => 0)))), ((cn 6) + 1, e9X cI QA zz g (adO (adO (adO (adO (adO (adO (adO ad 5 (cn 6) qt) 60 (cn 6) r0) 61 (cn 6) r1) 62 (cn 6) r2) 63 (cn 6) r3) 64 (cn 6) r4) 4 1 (cn 6)) (va_up cn 6 (cn 6 + 1)) In (va_up (va_up (va_up (va_up (va_up (va_up (va_up (va_up (va_up (va_up Fn 195 (upd (Fn 195) (cn 6) 0)) 196 (upd (Fn 196) (cn 6) 0)) 197 (upd (Fn 197) (cn 6) 0)) 198 (upd (Fn 198) (cn 6) 0)) 199 (upd (Fn 199) (cn 6) (nI n))) 301 (flat (Fn 301) 200 (cn 6) (fun _ => 0))) 302 (flat (Fn 302) 12 (cn 6) (fun _ => 0))) 303 (flat (Fn 303) 12 (cn 6) (fun _ => 0))) 304 (flat (Fn 304) 12 (cn 6) (fun _ => 0))) 305 (flat (Fn 305) 32 (cn 6) (fun _ => 0)))), ((cn 6) + 1, e10X cI QA zz g (adO (adO (adO (adO (adO (adO (adO ad 5 (cn 6) qt) 60 (cn 6) r0) 61 (cn 6) r1) 62 (cn 6) r2) 63 (cn 6) r3) 64 (cn 6) r4) 4 1 (cn 6)) (va_up cn 6 (cn 6 + 1)) In (va_up (va_up (va_up (va_up (va_up (va_up (va_up (va_up (va_up (va_up Fn 195 (upd (Fn 195) (cn 6) 0)) 196 (upd (Fn 196) (cn 6) 0)) 197 (upd (Fn 197) (cn 6) 0)) 198 (upd (Fn 198) (cn 6) 0)) 199 (upd (Fn 199) (cn 6) (nI n))) 301 (flat (Fn 301) 200 (cn 6) (fun _ => 0))) 302 (flat (Fn 302) 12 (cn 6) (fun _ => 0))) 303 (flat (Fn 303) 12 (cn 6) (fun _ => 0))) 304 (flat (Fn 304) 12 (cn 6) (fun _ => 0))) 305 (flat (Fn 305) 32 (cn 6) (fun _ => 0)))), ((cn 6) + 1, e11X cI QA zz g (adO (adO (adO (adO (adO (adO (adO ad 5 (cn 6) qt) 60 (cn 6) r0) 61 (cn 6) r1) 62 (cn 6) r2) 63 (cn 6) r3) 64 (cn 6) r4) 4 1 (cn 6)) (va_up cn 6 (cn 6 + 1)) In (va_up (va_up (va_up (va_up (va_up (va_up (va_up (va_up (va_up (va_up Fn 195 (upd (Fn 195) (cn 6) 0)) 196 (upd (Fn 196) (cn 6) 0)) 197 (upd (Fn 197) (cn 6) 0)) 198 (upd (Fn 198) (cn 6) 0)) 199 (upd (Fn 199) (cn 6) (nI n))) 301 (flat (Fn 301) 200 (cn 6) (fun _ => 0))) 302 (flat (Fn 302) 12 (cn 6) (fun _ => 0))) 303 (flat (Fn 303) 12 (cn 6) (fun _ => 0))) 304 (flat (Fn 304) 12 (cn 6) (fun _ => 0))) 305 (flat (Fn 305) 32 (cn 6) (fun _ => 0)))), ((cn 6) + 1, e12X cI QA zz g (adO (adO (adO (adO (adO (adO (adO ad 5 (cn 6) qt) 60 (cn 6) r0) 61 (cn 6) r1) 62 (cn 6) r2) 63 (cn 6) r3) 64 (cn 6) r4) 4 1 (cn 6)) (va_up cn 6 (cn 6 + 1)) In (va_up (va_up (va_up (va_up (va_up (va_up (va_up (va_up (va_up (va_up Fn 195 (upd (Fn 195) (cn 6) 0)) 196 (upd (Fn 196) (cn 6) 0)) 197 (upd (Fn 197) (cn 6) 0)) 198 (upd (Fn 198) (cn 6) 0)) 199 (upd (Fn 199) (cn 6) (nI n))) 301 (flat (Fn 301) 200 (cn 6) (fun _ => 0))) 302 (flat (Fn 302) 12 (cn 6) (fun _ => 0))) 303 (flat (Fn 303) 12 (cn 6) (fun _ => 0))) 304 (flat (Fn 304) 12 (cn 6) (fun _ => 0))) 305 (flat (Fn 305) 32 (cn 6) (fun _ => 0)))), ((min 1 (cn 10)), e13X cI QA zz g ad cn In Fn), ((min 1 (cn 11)), e14X cI QA zz g ad cn In Fn), ((min 1 (cn 12)), e15X cI QA zz g ad cn In Fn), ((min 1 (cn 13)), e16X cI QA zz g ad cn In Fn), ((min 1 (cn 14)), e17X cI QA zz g ad cn In Fn), ((min 1 (cn 15)), e18X cI QA zz g ad cn In Fn)]) (i := 7) (n := (cn 6)) (f := e7X cI QA zz g (adO (adO (adO (adO (adO (adO (adO ad 5 (cn 6) qt) 60 (cn 6) r0) 61 (cn 6) r1) 62 (cn 6) r2) 63 (cn 6) r3) 64 (cn 6) r4) 4 1 (cn 6)) (va_up cn 6 (cn 6 + 1)) In (va_up (va_up (va_up (va_up (va_up (va_up (va_up (va_up (va_up (va_up Fn 195 (upd (Fn 195) (cn 6) 0)) 196 (upd (Fn 196) (cn 6) 0)) 197 (upd (Fn 197) (cn 6) 0)) 198 (upd (Fn 198) (cn 6) 0)) 199 (upd (Fn 199) (cn 6) (nI n))) 301 (flat (Fn 301) 200 (cn 6) (fun _ => 0))) 302 (flat (Fn 302) 12 (cn 6) (fun _ => 0))) 303 (flat (Fn 303) 12 (cn 6) (fun _ => 0))) 304 (flat (Fn 304) 12 (cn 6) (fun _ => 0))) 305 (flat (Fn 305) 32 (cn 6) (fun _ => 0)))) rfl
  have p1 := famW_push (fs := ([((cn 10), e0X cI QA zz g ad cn In Fn), ((cn 11), e1X cI QA zz g ad cn In Fn), ((cn 12), e2X cI QA zz g ad cn In Fn), ((cn 13), e3X cI QA zz g ad cn In Fn), ((cn 14), e4X cI QA zz g ad cn In Fn), ((cn 15), e5X cI QA zz g ad cn In Fn), ((cn 12), e6X cI QA zz g ad cn In Fn), ((cn 6) + 1, e7X cI QA zz g (adO (adO (adO (adO (adO (adO (adO ad 5 (cn 6) qt) 60 (cn 6) r0) 61 (cn 6) r1) 62 (cn 6) r2) 63 (cn 6) r3) 64 (cn 6) r4) 4 1 (cn 6)) (va_up cn 6 (cn 6 + 1)) In (va_up (va_up (va_up (va_up (va_up (va_up (va_up (va_up (va_up (va_up Fn 195 (upd (Fn 195) (cn 6) 0)) 196 (upd (Fn 196) (cn 6) 0)) 197 (upd (Fn 197) (cn 6) 0)) 198 (upd (Fn 198) (cn 6) 0)) 199 (upd (Fn 199) (cn 6) (nI n))) 301 (flat (Fn 301) 200 (cn 6) (fun _ => 0))) 302 (flat (Fn 302) 12 (cn 6) (fun _ => 0))) 303 (flat (Fn 303) 12 (cn 6) (fun _ => 0))) 304 (flat (Fn 304) 12 (cn 6) (fun _ => 0))) 305 (flat (Fn 305) 32 (cn 6) (fun _ => 0)))), ((cn 6) + 1, e8X cI QA zz g (adO (adO (adO (adO (adO (adO (adO ad 5 (cn 6) qt) 60 (cn 6) r0) 61 (cn 6) r1) 62 (cn 6) r2) 63 (cn 6) r3) 64 (cn 6) r4) 4 1 (cn 6)) (va_up cn 6 (cn 6 + 1)) In (va_up (va_up (va_up (va_up (va_up (va_up (va_up (va_up (va_up (va_up Fn 195 (upd (Fn 195) (cn 6) 0)) 196 (upd (Fn 196) (cn 6) 0)) 197 (upd (Fn 197) (cn 6) 0)) 198 (upd (Fn 198) (cn 6) 0)) 199 (upd (Fn 199) (cn 6) (nI n))) 301 (flat (Fn 301) 200 (cn 6) (fun _ => 0))) 302 (flat (Fn 302) 12 (cn 6) (fun _ => 0))) 303 (flat (Fn 303) 12 (cn 6) (fun _ => 0))) 304 (flat (Fn 304) 12 (cn 6) (fun _ => 0))) 305 (flat (Fn 305) 32 (cn 6) (fun _ => 0)))), ((cn 6) + 1, e9X cI QA zz g (adO (adO (adO (adO (adO (adO (adO ad 5 (cn 6) qt) 60 (cn 6) r0) 61 (cn 6) r1) 62 (cn 6) r2) 63 (cn 6) r3) 64 (cn 6) r4) 4 1 (cn 6)) (va_up cn 6 (cn 6 + 1)) In (va_up (va_up (va_up (va_up (va_up (va_up (va_up (va_up (va_up (va_up Fn 195 (upd (Fn 195) (cn 6) 0)) 196 (upd (Fn 196) (cn 6) 0)) 197 (upd (Fn 197) (cn 6) 0)) 198 (upd (Fn 198) (cn 6) 0)) 199 (upd (Fn 199) (cn 6) (nI n))) 301 (flat (Fn 301) 200 (cn 6) (fun _ => 0))) 302 (flat (Fn 302) 12 (cn 6) (fun _ => 0))) 303 (flat (Fn 303) 12 (cn 6) (fun _ => 0))) 304 (flat (Fn 304) 12 (cn 6) (fun _ => 0))) 305 (flat (Fn 305) 32 (cn 6) (fun _ => 0)))), ((cn 6) + 1, e10X cI QA zz g (adO (adO (adO (adO (adO (adO (adO ad 5 (cn 6) qt) 60 (cn 6) r0) 61 (cn 6) r1) 62 (cn 6) r2) 63 (cn 6) r3) 64 (cn 6) r4) 4 1 (cn 6)) (va_up cn 6 (cn 6 + 1)) In (va_up (va_up (va_up (va_up (va_up (va_up (va_up (va_up (va_up (va_up Fn 195 (upd (Fn 195) (cn 6) 0)) 196 (upd (Fn 196) (cn 6) 0)) 197 (upd (Fn 197) (cn 6) 0)) 198 (upd (Fn 198) (cn 6) 0)) 199 (upd (Fn 199) (cn 6) (nI n))) 301 (flat (Fn 301) 200 (cn 6) (fun _ => 0))) 302 (flat (Fn 302) 12 (cn 6) (fun _ => 0))) 303 (flat (Fn 303) 12 (cn 6) (fun _ => 0))) 304 (flat (Fn 304) 12 (cn 6) (fun _ => 0))) 305 (flat (Fn 305) 32 (cn 6) (fun _ => 0)))), ((cn 6) + 1, e11X cI QA zz g (adO (adO (adO (adO (adO (adO (adO ad 5 (cn 6) qt) 60 (cn 6) r0) 61 (cn 6) r1) 62 (cn 6) r2) 63 (cn 6) r3) 64 (cn 6) r4) 4 1 (cn 6)) (va_up cn 6 (cn 6 + 1)) In (va_up (va_up (va_up (va_up (va_up (va_up (va_up (va_up (va_up (va_up Fn 195 (upd (Fn 195) (cn 6) 0)) 196 (upd (Fn 196) (cn 6) 0)) 197 (upd (Fn 197) (cn 6) 0)) 198 (upd (Fn 198) (cn 6) 0)) 199 (upd (Fn 199) (cn 6) (nI n))) 301 (flat (Fn 301) 200 (cn 6) (fun _ => 0))) 302 (flat (Fn 302) 12 (cn 6) (fun _ => 0))) 303 (flat (Fn 303) 12 (cn 6) (fun _ => 0))) 304 (flat (Fn 304) 12 (cn 6) (fun _ => 0))) 305 (flat (Fn 305) 32 (cn 6) (fun _ => 0)))), ((cn 6) + 1, e12X cI QA zz g (adO (adO (adO (adO (adO (adO (adO ad 5 (cn 6) qt) 60 (cn 6) r0) 61 (cn 6) r1) 62 (cn 6) r2) 63 (cn 6) r3) 64 (cn 6) r4) 4 1 (cn 6)) (va_up cn 6 (cn 6 + 1)) In (va_up (va_up (va_up (va_up (va_up (va_up (va_up (va_up (va_up (va_up Fn 195 (upd (Fn 195) (cn 6) 0)) 196 (upd (Fn 196) (cn 6) 0)) 197 (upd (Fn 197) (cn 6) 0)) 198 (upd (Fn 198) (cn 6) 0)) 199 (upd (Fn 199) (cn 6) (nI n))) 301 (flat (Fn 301) 200 (cn 6) (fun _ => 0))) 302 (flat (Fn 302) 12 (cn 6) (fun _ => 0))) 303 (flat (Fn 303) 12 (cn 6) (fun _ => 0))) 304 (flat (Fn 304) 12 (cn 6) (fun _ => 0))) 305 (flat (Fn 305) 32 (cn 6) (fun _ => 0)))), ((min 1 (cn 10)), e13X cI QA zz g ad cn In Fn), ((min 1 (cn 11)), e14X cI QA zz g ad cn In Fn), ((min 1 (cn 12)), e15X cI QA zz g ad cn In Fn), ((min 1 (cn 13)), e16X cI QA zz g ad cn In Fn), ((min 1 (cn 14)), e17X cI QA zz g ad cn In Fn), ((min 1 (cn 15)), e18X cI QA zz g ad cn In Fn)]).set 7 ((cn 6), e7X cI QA zz g (adO (adO (adO (adO (adO (adO (adO ad 5 (cn 6) qt) 60 (cn 6) r0) 61 (cn 6) r1) 62 (cn 6) r2) 63 (cn 6) r3) 64 (cn 6) r4) 4 1 (cn 6)) (va_up cn 6 (cn 6 + 1)) In (va_up (va_up (va_up (va_up (va_up (va_up (va_up (va_up (va_up (va_up Fn 195 (upd (Fn 195) (cn 6) 0)) 196 (upd (Fn 196) (cn 6) 0)) 197 (upd (Fn 197) (cn 6) 0)) 198 (upd (Fn 198) (cn 6) 0)) 199 (upd (Fn 199) (cn 6) (nI n))) 301 (flat (Fn 301) 200 (cn 6) (fun _ => 0))) 302 (flat (Fn 302) 12 (cn 6) (fun _ => 0))) 303 (flat (Fn 303) 12 (cn 6) (fun _ => 0))) 304 (flat (Fn 304) 12 (cn 6) (fun _ => 0))) 305 (flat (Fn 305) 32 (cn 6) (fun _ => 0))))) (i := 8) (n := (cn 6)) (f := e8X cI QA zz g (adO (adO (adO (adO (adO (adO (adO ad 5 (cn 6) qt) 60 (cn 6) r0) 61 (cn 6) r1) 62 (cn 6) r2) 63 (cn 6) r3) 64 (cn 6) r4) 4 1 (cn 6)) (va_up cn 6 (cn 6 + 1)) In (va_up (va_up (va_up (va_up (va_up (va_up (va_up (va_up (va_up (va_up Fn 195 (upd (Fn 195) (cn 6) 0)) 196 (upd (Fn 196) (cn 6) 0)) 197 (upd (Fn 197) (cn 6) 0)) 198 (upd (Fn 198) (cn 6) 0)) 199 (upd (Fn 199) (cn 6) (nI n))) 301 (flat (Fn 301) 200 (cn 6) (fun _ => 0))) 302 (flat (Fn 302) 12 (cn 6) (fun _ => 0))) 303 (flat (Fn 303) 12 (cn 6) (fun _ => 0))) 304 (flat (Fn 304) 12 (cn 6) (fun _ => 0))) 305 (flat (Fn 305) 32 (cn 6) (fun _ => 0)))) rfl
  have p2 := famW_push (fs := (([((cn 10), e0X cI QA zz g ad cn In Fn), ((cn 11), e1X cI QA zz g ad cn In Fn), ((cn 12), e2X cI QA zz g ad cn In Fn), ((cn 13), e3X cI QA zz g ad cn In Fn), ((cn 14), e4X cI QA zz g ad cn In Fn), ((cn 15), e5X cI QA zz g ad cn In Fn), ((cn 12), e6X cI QA zz g ad cn In Fn), ((cn 6) + 1, e7X cI QA zz g (adO (adO (adO (adO (adO (adO (adO ad 5 (cn 6) qt) 60 (cn 6) r0) 61 (cn 6) r1) 62 (cn 6) r2) 63 (cn 6) r3) 64 (cn 6) r4) 4 1 (cn 6)) (va_up cn 6 (cn 6 + 1)) In (va_up (va_up (va_up (va_up (va_up (va_up (va_up (va_up (va_up (va_up Fn 195 (upd (Fn 195) (cn 6) 0)) 196 (upd (Fn 196) (cn 6) 0)) 197 (upd (Fn 197) (cn 6) 0)) 198 (upd (Fn 198) (cn 6) 0)) 199 (upd (Fn 199) (cn 6) (nI n))) 301 (flat (Fn 301) 200 (cn 6) (fun _ => 0))) 302 (flat (Fn 302) 12 (cn 6) (fun _ => 0))) 303 (flat (Fn 303) 12 (cn 6) (fun _ => 0))) 304 (flat (Fn 304) 12 (cn 6) (fun _ => 0))) 305 (flat (Fn 305) 32 (cn 6) (fun _ => 0)))), ((cn 6) + 1, e8X cI QA zz g (adO (adO (adO (adO (adO (adO (adO ad 5 (cn 6) qt) 60 (cn 6) r0) 61 (cn 6) r1) 62 (cn 6) r2) 63 (cn 6) r3) 64 (cn 6) r4) 4 1 (cn 6)) (va_up cn 6 (cn 6 + 1)) In (va_up (va_up (va_up (va_up (va_up (va_up (va_up (va_up (va_up (va_up Fn 195 (upd (Fn 195) (cn 6) 0)) 196 (upd (Fn 196) (cn 6) 0)) 197 (upd (Fn 197) (cn 6) 0)) 198 (upd (Fn 198) (cn 6) 0)) 199 (upd (Fn 199) (cn 6) (nI n))) 301 (flat (Fn 301) 200 (cn 6) (fun _ => 0))) 302 (flat (Fn 302) 12 (cn 6) (fun _ => 0))) 303 (flat (Fn 303) 12 (cn 6) (fun _ => 0))) 304 (flat (Fn 304) 12 (cn 6) (fun _ => 0))) 305 (flat (Fn 305) 32 (cn 6) (fun _ => 0)))), ((cn 6) + 1, e9X cI QA zz g (adO (adO (adO (adO (adO (adO (adO ad 5 (cn 6) qt) 60 (cn 6) r0) 61 (cn 6) r1) 62 (cn 6) r2) 63 (cn 6) r3) 64 (cn 6) r4) 4 1 (cn 6)) (va_up cn 6 (cn 6 + 1)) In (va_up (va_up (va_up (va_up (va_up (va_up (va_up (va_up (va_up (va_up Fn 195 (upd (Fn 195) (cn 6) 0)) 196 (upd (Fn 196) (cn 6) 0)) 197 (upd (Fn 197) (cn 6) 0)) 198 (upd (Fn 198) (cn 6) 0)) 199 (upd (Fn 199) (cn 6) (nI n))) 301 (flat (Fn 301) 200 (cn 6) (fun _ => 0))) 302 (flat (Fn 302) 12 (cn 6) (fun _ => 0))) 303 (flat (Fn 303) 12 (cn 6) (fun _ => 0))) 304 (flat (Fn 304) 12 (cn 6) (fun _ => 0))) 305 (flat (Fn 305) 32 (cn 6) (fun _ => 0)))), ((cn 6) + 1, e10X cI QA zz g (adO (adO (adO (adO (adO (adO (adO ad 5 (cn 6) qt) 60 (cn 6) r0) 61 (cn 6) r1) 62 (cn 6) r2) 63 (cn 6) r3) 64 (cn 6) r4) 4 1 (cn 6)) (va_up cn 6 (cn 6 + 1)) In (va_up (va_up (va_up (va_up (va_up (va_up (va_up (va_up (va_up (va_up Fn 195 (upd (Fn 195) (cn 6) 0)) 196 (upd (Fn 196) (cn 6) 0)) 197 (upd (Fn 197) (cn 6) 0)) 198 (upd (Fn 198) (cn 6) 0)) 199 (upd (Fn 199) (cn 6) (nI n))) 301 (flat (Fn 301) 200 (cn 6) (fun _ => 0))) 302 (flat (Fn 302) 12 (cn 6) (fun _ => 0))) 303 (flat (Fn 303) 12 (cn 6) (fun _ => 0))) 304 (flat (Fn 304) 12 (cn 6) (fun _ => 0))) 305 (flat (Fn 305) 32 (cn 6) (fun _ => 0)))), ((cn 6) + 1, e11X cI QA zz g (adO (adO (adO (adO (adO (adO (adO ad 5 (cn 6) qt) 60 (cn 6) r0) 61 (cn 6) r1) 62 (cn 6) r2) 63 (cn 6) r3) 64 (cn 6) r4) 4 1 (cn 6)) (va_up cn 6 (cn 6 + 1)) In (va_up (va_up (va_up (va_up (va_up (va_up (va_up (va_up (va_up (va_up Fn 195 (upd (Fn 195) (cn 6) 0)) 196 (upd (Fn 196) (cn 6) 0)) 197 (upd (Fn 197) (cn 6) 0)) 198 (upd (Fn 198) (cn 6) 0)) 199 (upd (Fn 199) (cn 6) (nI n))) 301 (flat (Fn 301) 200 (cn 6) (fun _ => 0))) 302 (flat (Fn 302) 12 (cn 6) (fun _ => 0))) 303 (flat (Fn 303) 12 (cn 6) (fun _ => 0))) 304 (flat (Fn 304) 12 (cn 6) (fun _ => 0))) 305 (flat (Fn 305) 32 (cn 6) (fun _ => 0)))), ((cn 6) + 1, e12X cI QA zz g (adO (adO (adO (adO (adO (adO (adO ad 5 (cn 6) qt) 60 (cn 6) r0) 61 (cn 6) r1) 62 (cn 6) r2) 63 (cn 6) r3) 64 (cn 6) r4) 4 1 (cn 6)) (va_up cn 6 (cn 6 + 1)) In (va_up (va_up (va_up (va_up (va_up (va_up (va_up (va_up (va_up (va_up Fn 195 (upd (Fn 195) (cn 6) 0)) 196 (upd (Fn 196) (cn 6) 0)) 197 (upd (Fn 197) (cn 6) 0)) 198 (upd (Fn 198) (cn 6) 0)) 199 (upd (Fn 199) (cn 6) (nI n))) 301 (flat (Fn 301) 200 (cn 6) (fun _ => 0))) 302 (flat (Fn 302) 12 (cn 6) (fun _ => 0))) 303 (flat (Fn 303) 12 (cn 6) (fun _ => 0))) 304 (flat (Fn 304) 12 (cn 6) (fun _ => 0))) 305 (flat (Fn 305) 32 (cn 6) (fun _ => 0)))), ((min 1 (cn 10)), e13X cI QA zz g ad cn In Fn), ((min 1 (cn 11)), e14X cI QA zz g ad cn In Fn), ((min 1 (cn 12)), e15X cI QA zz g ad cn In Fn), ((min 1 (cn 13)), e16X cI QA zz g ad cn In Fn), ((min 1 (cn 14)), e17X cI QA zz g ad cn In Fn), ((min 1 (cn 15)), e18X cI QA zz g ad cn In Fn)]).set 7 ((cn 6), e7X cI QA zz g (adO (adO (adO (adO (adO (adO (adO ad 5 (cn 6) qt) 60 (cn 6) r0) 61 (cn 6) r1) 62 (cn 6) r2) 63 (cn 6) r3) 64 (cn 6) r4) 4 1 (cn 6)) (va_up cn 6 (cn 6 + 1)) In (va_up (va_up (va_up (va_up (va_up (va_up (va_up (va_up (va_up (va_up Fn 195 (upd (Fn 195) (cn 6) 0)) 196 (upd (Fn 196) (cn 6) 0)) 197 (upd (Fn 197) (cn 6) 0)) 198 (upd (Fn 198) (cn 6) 0)) 199 (upd (Fn 199) (cn 6) (nI n))) 301 (flat (Fn 301) 200 (cn 6) (fun _ => 0))) 302 (flat (Fn 302) 12 (cn 6) (fun _ => 0))) 303 (flat (Fn 303) 12 (cn 6) (fun _ => 0))) 304 (flat (Fn 304) 12 (cn 6) (fun _ => 0))) 305 (flat (Fn 305) 32 (cn 6) (fun _ => 0))))).set 8 ((cn 6), e8X cI QA zz g (adO (adO (adO (adO (adO (adO (adO ad 5 (cn 6) qt) 60 (cn 6) r0) 61 (cn 6) r1) 62 (cn 6) r2) 63 (cn 6) r3) 64 (cn 6) r4) 4 1 (cn 6)) (va_up cn 6 (cn 6 + 1)) In (va_up (va_up (va_up (va_up (va_up (va_up (va_up (va_up (va_up (va_up Fn 195 (upd (Fn 195) (cn 6) 0)) 196 (upd (Fn 196) (cn 6) 0)) 197 (upd (Fn 197) (cn 6) 0)) 198 (upd (Fn 198) (cn 6) 0)) 199 (upd (Fn 199) (cn 6) (nI n))) 301 (flat (Fn 301) 200 (cn 6) (fun _ => 0))) 302 (flat (Fn 302) 12 (cn 6) (fun _ => 0))) 303 (flat (Fn 303) 12 (cn 6) (fun _ => 0))) 304 (flat (Fn 304) 12 (cn 6) (fun _ => 0))) 305 (flat (Fn 305) 32 (cn 6) (fun _ => 0))))) (i := 9) (n := (cn 6)) (f := e9X cI QA zz g (adO (adO (adO (adO (adO (adO (adO ad 5 (cn 6) qt) 60 (cn 6) r0) 61 (cn 6) r1) 62 (cn 6) r2) 63 (cn 6) r3) 64 (cn 6) r4) 4 1 (cn 6)) (va_up cn 6 (cn 6 + 1)) In (va_up (va_up (va_up (va_up (va_up (va_up (va_up (va_up (va_up (va_up Fn 195 (upd (Fn 195) (cn 6) 0)) 196 (upd (Fn 196) (cn 6) 0)) 197 (upd (Fn 197) (cn 6) 0)) 198 (upd (Fn 198) (cn 6) 0)) 199 (upd (Fn 199) (cn 6) (nI n))) 301 (flat (Fn 301) 200 (cn 6) (fun _ => 0))) 302 (flat (Fn 302) 12 (cn 6) (fun _ => 0))) 303 (flat (Fn 303) 12 (cn 6) (fun _ => 0))) 304 (flat (Fn 304) 12 (cn 6) (fun _ => 0))) 305 (flat (Fn 305) 32 (cn 6) (fun _ => 0)))) rfl
  have p3 := famW_push (fs := ((([((cn 10), e0X cI QA zz g ad cn In Fn), ((cn 11), e1X cI QA zz g ad cn In Fn), ((cn 12), e2X cI QA zz g ad cn In Fn), ((cn 13), e3X cI QA zz g ad cn In Fn), ((cn 14), e4X cI QA zz g ad cn In Fn), ((cn 15), e5X cI QA zz g ad cn In Fn), ((cn 12), e6X cI QA zz g ad cn In Fn), ((cn 6) + 1, e7X cI QA zz g (adO (adO (adO (adO (adO (adO (adO ad 5 (cn 6) qt) 60 (cn 6) r0) 61 (cn 6) r1) 62 (cn 6) r2) 63 (cn 6) r3) 64 (cn 6) r4) 4 1 (cn 6)) (va_up cn 6 (cn 6 + 1)) In (va_up (va_up (va_up (va_up (va_up (va_up (va_up (va_up (va_up (va_up Fn 195 (upd (Fn 195) (cn 6) 0)) 196 (upd (Fn 196) (cn 6) 0)) 197 (upd (Fn 197) (cn 6) 0)) 198 (upd (Fn 198) (cn 6) 0)) 199 (upd (Fn 199) (cn 6) (nI n))) 301 (flat (Fn 301) 200 (cn 6) (fun _ => 0))) 302 (flat (Fn 302) 12 (cn 6) (fun _ => 0))) 303 (flat (Fn 303) 12 (cn 6) (fun _ => 0))) 304 (flat (Fn 304) 12 (cn 6) (fun _ => 0))) 305 (flat (Fn 305) 32 (cn 6) (fun _ => 0)))), ((cn 6) + 1, e8X cI QA zz g (adO (adO (adO (adO (adO (adO (adO ad 5 (cn 6) qt) 60 (cn 6) r0) 61 (cn 6) r1) 62 (cn 6) r2) 63 (cn 6) r3) 64 (cn 6) r4) 4 1 (cn 6)) (va_up cn 6 (cn 6 + 1)) In (va_up (va_up (va_up (va_up (va_up (va_up (va_up (va_up (va_up (va_up Fn 195 (upd (Fn 195) (cn 6) 0)) 196 (upd (Fn 196) (cn 6) 0)) 197 (upd (Fn 197) (cn 6) 0)) 198 (upd (Fn 198) (cn 6) 0)) 199 (upd (Fn 199) (cn 6) (nI n))) 301 (flat (Fn 301) 200 (cn 6) (fun _ => 0))) 302 (flat (Fn 302) 12 (cn 6) (fun _ => 0))) 303 (flat (Fn 303) 12 (cn 6) (fun _ => 0))) 304 (flat (Fn 304) 12 (cn 6) (fun _ => 0))) 305 (flat (Fn 305) 32 (cn 6) (fun _ => 0)))), ((cn 6) + 1, e9X cI QA zz g (adO (adO (adO (adO (adO (adO (adO ad 5 (cn 6) qt) 60 (cn 6) r0) 61 (cn 6) r1) 62 (cn 6) r2) 63 (cn 6) r3) 64 (cn 6) r4) 4 1 (cn 6)) (va_up cn 6 (cn 6 + 1)) In (va_up (va_up (va_up (va_up (va_up (va_up (va_up (va_up (va_up (va_up Fn 195 (upd (Fn 195) (cn 6) 0)) 196 (upd (Fn 196) (cn 6) 0)) 197 (upd (Fn 197) (cn 6) 0)) 198 (upd (Fn 198) (cn 6) 0)) 199 (upd (Fn 199) (cn 6) (nI n))) 301 (flat (Fn 301) 200 (cn 6) (fun _ => 0))) 302 (flat (Fn 302) 12 (cn 6) (fun _ => 0))) 303 (flat (Fn 303) 12 (cn 6) (fun _ => 0))) 304 (flat (Fn 304) 12 (cn 6) (fun _ => 0))) 305 (flat (Fn 305) 32 (cn 6) (fun _ => 0)))), ((cn 6) + 1, e10X cI QA zz g (adO (adO (adO (adO (adO (adO (adO ad 5 (cn 6) qt) 60 (cn 6) r0) 61 (cn 6) r1) 62 (cn 6) r2) 63 (cn 6) r3) 64 (cn 6) r4) 4 1 (cn 6)) (va_up cn 6 (cn 6 + 1)) In (va_up (va_up (va_up (va_up (va_up (va_up (va_up (va_up (va_up (va_up Fn 195 (upd (Fn 195) (cn 6) 0)) 196 (upd (Fn 196) (cn 6) 0)) 197 (upd (Fn 197) (cn 6) 0)) 198 (upd (Fn 198) (cn 6) 0)) 199 (upd (Fn 199) (cn 6) (nI n))) 301 (flat (Fn 301) 200 (cn 6) (fun _ => 0))) 302 (flat (Fn 302) 12 (cn 6) (fun _ => 0))) 303 (flat (Fn 303) 12 (cn 6) (fun _ => 0))) 304 (flat (Fn 304) 12 (cn 6) (fun _ => 0))) 305 (flat (Fn 305) 32 (cn 6) (fun _ => 0)))), ((cn 6) + 1, e11X cI QA zz g (adO (adO (adO (adO (adO (adO (adO ad 5 (cn 6) qt) 60 (cn 6) r0) 61 (cn 6) r1) 62 (cn 6) r2) 63 (cn 6) r3) 64 (cn 6) r4) 4 1 (cn 6)) (va_up cn 6 (cn 6 + 1)) In (va_up (va_up (va_up (va_up (va_up (va_up (va_up (va_up (va_up (va_up Fn 195 (upd (Fn 195) (cn 6) 0)) 196 (upd (Fn 196) (cn 6) 0)) 197 (upd (Fn 197) (cn 6) 0)) 198 (upd (Fn 198) (cn 6) 0)) 199 (upd (Fn 199) (cn 6) (nI n))) 301 (flat (Fn 301) 200 (cn 6) (fun _ => 0))) 302 (flat (Fn 302) 12 (cn 6) (fun _ => 0))) 303 (flat (Fn 303) 12 (cn 6) (fun _ => 0))) 304 (flat (Fn 304) 12 (cn 6) (fun _ => 0))) 305 (flat (Fn 305) 32 (cn 6) (fun _ => 0)))), ((cn 6) + 1, e12X cI QA zz g (adO (adO (adO (adO (adO (adO (adO ad 5 (cn 6) qt) 60 (cn 6) r0) 61 (cn 6) r1) 62 (cn 6) r2) 63 (cn 6) r3) 64 (cn 6) r4) 4 1 (cn 6)) (va_up cn 6 (cn 6 + 1)) In (va_up (va_up (va_up (va_up (va_up (va_up (va_up (va_up (va_up (va_up Fn 195 (upd (Fn 195) (cn 6) 0)) 196 (upd (Fn 196) (cn 6) 0)) 197 (upd (Fn 197) (cn 6) 0)) 198 (upd (Fn 198) (cn 6) 0)) 199 (upd (Fn 199) (cn 6) (nI n))) 301 (flat (Fn 301) 200 (cn 6) (fun _ => 0))) 302 (flat (Fn 302) 12 (cn 6) (fun _ => 0))) 303 (flat (Fn 303) 12 (cn 6) (fun _ => 0))) 304 (flat (Fn 304) 12 (cn 6) (fun _ => 0))) 305 (flat (Fn 305) 32 (cn 6) (fun _ => 0)))), ((min 1 (cn 10)), e13X cI QA zz g ad cn In Fn), ((min 1 (cn 11)), e14X cI QA zz g ad cn In Fn), ((min 1 (cn 12)), e15X cI QA zz g ad cn In Fn), ((min 1 (cn 13)), e16X cI QA zz g ad cn In Fn), ((min 1 (cn 14)), e17X cI QA zz g ad cn In Fn), ((min 1 (cn 15)), e18X cI QA zz g ad cn In Fn)]).set 7 ((cn 6), e7X cI QA zz g (adO (adO (adO (adO (adO (adO (adO ad 5 (cn 6) qt) 60 (cn 6) r0) 61 (cn 6) r1) 62 (cn 6) r2) 63 (cn 6) r3) 64 (cn 6) r4) 4 1 (cn 6)) (va_up cn 6 (cn 6 + 1)) In (va_up (va_up (va_up (va_up (va_up (va_up (va_up (va_up (va_up (va_up Fn 195 (upd (Fn 195) (cn 6) 0)) 196 (upd (Fn 196) (cn 6) 0)) 197 (upd (Fn 197) (cn 6) 0)) 198 (upd (Fn 198) (cn 6) 0)) 199 (upd (Fn 199) (cn 6) (nI n))) 301 (flat (Fn 301) 200 (cn 6) (fun _ => 0))) 302 (flat (Fn 302) 12 (cn 6) (fun _ => 0))) 303 (flat (Fn 303) 12 (cn 6) (fun _ => 0))) 304 (flat (Fn 304) 12 (cn 6) (fun _ => 0))) 305 (flat (Fn 305) 32 (cn 6) (fun _ => 0))))).set 8 ((cn 6), e8X cI QA zz g (adO (adO (adO (adO (adO (adO (adO ad 5 (cn 6) qt) 60 (cn 6) r0) 61 (cn 6) r1) 62 (cn 6) r2) 63 (cn 6) r3) 64 (cn 6) r4) 4 1 (cn 6)) (va_up cn 6 (cn 6 + 1)) In (va_up (va_up (va_up (va_up (va_up (va_up (va_up (va_up (va_up (va_up Fn 195 (upd (Fn 195) (cn 6) 0)) 196 (upd (Fn 196) (cn 6) 0)) 197 (upd (Fn 197) (cn 6) 0)) 198 (upd (Fn 198) (cn 6) 0)) 199 (upd (Fn 199) (cn 6) (nI n))) 301 (flat (Fn 301) 200 (cn 6) (fun _ => 0))) 302 (flat (Fn 302) 12 (cn 6) (fun _ => 0))) 303 (flat (Fn 303) 12 (cn 6) (fun _ => 0))) 304 (flat (Fn 304) 12 (cn 6) (fun _ => 0))) 305 (flat (Fn 305) 32 (cn 6) (fun _ => 0))))).set 9 ((cn 6), e9X cI QA zz g (adO (adO (adO (adO (adO (adO (adO ad 5 (cn 6) qt) 60 (cn 6) r0) 61 (cn 6) r1) 62 (cn 6) r2) 63 (cn 6) r3) 64 (cn 6) r4) 4 1 (cn 6)) (va_up cn 6 (cn 6 + 1)) In (va_up (va_up (va_up (va_up (va_up (va_up (va_up (va_up (va_up (va_up Fn 195 (upd (Fn 195) (cn 6) 0)) 196 (upd (Fn 196) (cn 6) 0)) 197 (upd (Fn 197) (cn 6) 0)) 198 (upd (Fn 198) (cn 6) 0)) 199 (upd (Fn 199) (cn 6) (nI n))) 301 (flat (Fn 301) 200 (cn 6) (fun _ => 0))) 302 (flat (Fn 302) 12 (cn 6) (fun _ => 0))) 303 (flat (Fn 303) 12 (cn 6) (fun _ => 0))) 304 (flat (Fn 304) 12 (cn 6) (fun _ => 0))) 305 (flat (Fn 305) 32 (cn 6) (fun _ => 0))))) (i := 10) (n := (cn 6)) (f := e10X cI QA zz g (adO (adO (adO (adO (adO (adO (adO ad 5 (cn 6) qt) 60 (cn 6) r0) 61 (cn 6) r1) 62 (cn 6) r2) 63 (cn 6) r3) 64 (cn 6) r4) 4 1 (cn 6)) (va_up cn 6 (cn 6 + 1)) In (va_up (va_up (va_up (va_up (va_up (va_up (va_up (va_up (va_up (va_up Fn 195 (upd (Fn 195) (cn 6) 0)) 196 (upd (Fn 196) (cn 6) 0)) 197 (upd (Fn 197) (cn 6) 0)) 198 (upd (Fn 198) (cn 6) 0)) 199 (upd (Fn 199) (cn 6) (nI n))) 301 (flat (Fn 301) 200 (cn 6) (fun _ => 0))) 302 (flat (Fn 302) 12 (cn 6) (fun _ => 0))) 303 (flat (Fn 303) 12 (cn 6) (fun _ => 0))) 304 (flat (Fn 304) 12 (cn 6) (fun _ => 0))) 305 (flat (Fn 305) 32 (cn 6) (fun _ => 0)))) rfl
  have p4 := famW_push (fs := (((([((cn 10), e0X cI QA zz g ad cn In Fn), ((cn 11), e1X cI QA zz g ad cn In Fn), ((cn 12), e2X cI QA zz g ad cn In Fn), ((cn 13), e3X cI QA zz g ad cn In Fn), ((cn 14), e4X cI QA zz g ad cn In Fn), ((cn 15), e5X cI QA zz g ad cn In Fn), ((cn 12), e6X cI QA zz g ad cn In Fn), ((cn 6) + 1, e7X cI QA zz g (adO (adO (adO (adO (adO (adO (adO ad 5 (cn 6) qt) 60 (cn 6) r0) 61 (cn 6) r1) 62 (cn 6) r2) 63 (cn 6) r3) 64 (cn 6) r4) 4 1 (cn 6)) (va_up cn 6 (cn 6 + 1)) In (va_up (va_up (va_up (va_up (va_up (va_up (va_up (va_up (va_up (va_up Fn 195 (upd (Fn 195) (cn 6) 0)) 196 (upd (Fn 196) (cn 6) 0)) 197 (upd (Fn 197) (cn 6) 0)) 198 (upd (Fn 198) (cn 6) 0)) 199 (upd (Fn 199) (cn 6) (nI n))) 301 (flat (Fn 301) 200 (cn 6) (fun _ => 0))) 302 (flat (Fn 302) 12 (cn 6) (fun _ => 0))) 303 (flat (Fn 303) 12 (cn 6) (fun _ => 0))) 304 (flat (Fn 304) 12 (cn 6) (fun _ => 0))) 305 (flat (Fn 305) 32 (cn 6) (fun _ => 0)))), ((cn 6) + 1, e8X cI QA zz g (adO (adO (adO (adO (adO (adO (adO ad 5 (cn 6) qt) 60 (cn 6) r0) 61 (cn 6) r1) 62 (cn 6) r2) 63 (cn 6) r3) 64 (cn 6) r4) 4 1 (cn 6)) (va_up cn 6 (cn 6 + 1)) In (va_up (va_up (va_up (va_up (va_up (va_up (va_up (va_up (va_up (va_up Fn 195 (upd (Fn 195) (cn 6) 0)) 196 (upd (Fn 196) (cn 6) 0)) 197 (upd (Fn 197) (cn 6) 0)) 198 (upd (Fn 198) (cn 6) 0)) 199 (upd (Fn 199) (cn 6) (nI n))) 301 (flat (Fn 301) 200 (cn 6) (fun _ => 0))) 302 (flat (Fn 302) 12 (cn 6) (fun _ => 0))) 303 (flat (Fn 303) 12 (cn 6) (fun _ => 0))) 304 (flat (Fn 304) 12 (cn 6) (fun _ => 0))) 305 (flat (Fn 305) 32 (cn 6) (fun _ => 0)))), ((cn 6) + 1, e9X cI QA zz g (adO (adO (adO (adO (adO (adO (adO ad 5 (cn 6) qt) 60 (cn 6) r0) 61 (cn 6) r1) 62 (cn 6) r2) 63 (cn 6) r3) 64 (cn 6) r4) 4 1 (cn 6)) (va_up cn 6 (cn 6 + 1)) In (va_up (va_up (va_up (va_up (va_up (va_up (va_up (va_up (va_up (va_up Fn 195 (upd (Fn 195) (cn 6) 0)) 196 (upd (Fn 196) (cn 6) 0)) 197 (upd (Fn 197) (cn 6) 0)) 198 (upd (Fn 198) (cn 6) 0)) 199 (upd (Fn 199) (cn 6) (nI n))) 301 (flat (Fn 301) 200 (cn 6) (fun _ => 0))) 302 (flat (Fn 302) 12 (cn 6) (fun _ => 0))) 303 (flat (Fn 303) 12 (cn 6) (fun _ => 0))) 304 (flat (Fn 304) 12 (cn 6) (fun _ => 0))) 305 (flat (Fn 305) 32 (cn 6) (fun _ => 0)))), ((cn 6) + 1, e10X cI QA zz g (adO (adO (adO (adO (adO (adO (adO ad 5 (cn 6) qt) 60 (cn 6) r0) 61 (cn 6) r1) 62 (cn 6) r2) 63 (cn 6) r3) 64 (cn 6) r4) 4 1 (cn 6)) (va_up cn 6 (cn 6 + 1)) In (va_up (va_up (va_up (va_up (va_up (va_up (va_up (va_up (va_up (va_up Fn 195 (upd (Fn 195) (cn 6) 0)) 196 (upd (Fn 196) (cn 6) 0)) 197 (upd (Fn 197) (cn 6) 0)) 198 (upd (Fn 198) (cn 6) 0)) 199 (upd (Fn 199) (cn 6) (nI n))) 301 (flat (Fn 301) 200 (cn 6) (fun _ => 0))) 302 (flat (Fn 302) 12 (cn 6) (fun _ => 0))) 303 (flat (Fn 303) 12 (cn 6) (fun _ => 0))) 304 (flat (Fn 304) 12 (cn 6) (fun _ => 0))) 305 (flat (Fn 305) 32 (cn 6) (fun _ => 0)))), ((cn 6) + 1, e11X cI QA zz g (adO (adO (adO (adO (adO (adO (adO ad 5 (cn 6) qt) 60 (cn 6) r0) 61 (cn 6) r1) 62 (cn 6) r2) 63 (cn 6) r3) 64 (cn 6) r4) 4 1 (cn 6)) (va_up cn 6 (cn 6 + 1)) In (va_up (va_up (va_up (va_up (va_up (va_up (va_up (va_up (va_up (va_up Fn 195 (upd (Fn 195) (cn 6) 0)) 196 (upd (Fn 196) (cn 6) 0)) 197 (upd (Fn 197) (cn 6) 0)) 198 (upd (Fn 198) (cn 6) 0)) 199 (upd (Fn 199) (cn 6) (nI n))) 301 (flat (Fn 301) 200 (cn 6) (fun _ => 0))) 302 (flat (Fn 302) 12 (cn 6) (fun _ => 0))) 303 (flat (Fn 303) 12 (cn 6) (fun _ => 0))) 304 (flat (Fn 304) 12 (cn 6) (fun _ => 0))) 305 (flat (Fn 305) 32 (cn 6) (fun _ => 0)))), ((cn 6) + 1, e12X cI QA zz g (adO (adO (adO (adO (adO (adO (adO ad 5 (cn 6) qt) 60 (cn 6) r0) 61 (cn 6) r1) 62 (cn 6) r2) 63 (cn 6) r3) 64 (cn 6) r4) 4 1 (cn 6)) (va_up cn 6 (cn 6 + 1)) In (va_up (va_up (va_up (va_up (va_up (va_up (va_up (va_up (va_up (va_up Fn 195 (upd (Fn 195) (cn 6) 0)) 196 (upd (Fn 196) (cn 6) 0)) 197 (upd (Fn 197) (cn 6) 0)) 198 (upd (Fn 198) (cn 6) 0)) 199 (upd (Fn 199) (cn 6) (nI n))) 301 (flat (Fn 301) 200 (cn 6) (fun _ => 0))) 302 (flat (Fn 302) 12 (cn 6) (fun _ => 0))) 303 (flat (Fn 303) 12 (cn 6) (fun _ => 0))) 304 (flat (Fn 304) 12 (cn 6) (fun _ => 0))) 305 (flat (Fn 305) 32 (cn 6) (fun _ => 0)))), ((min 1 (cn 10)), e13X cI QA zz g ad cn In Fn), ((min 1 (cn 11)), e14X cI QA zz g ad cn In Fn), ((min 1 (cn 12)), e15X cI QA zz g ad cn In Fn), ((min 1 (cn 13)), e16X cI QA zz g ad cn In Fn), ((min 1 (cn 14)), e17X cI QA zz g ad cn In Fn), ((min 1 (cn 15)), e18X cI QA zz g ad cn In Fn)]).set 7 ((cn 6), e7X cI QA zz g (adO (adO (adO (adO (adO (adO (adO ad 5 (cn 6) qt) 60 (cn 6) r0) 61 (cn 6) r1) 62 (cn 6) r2) 63 (cn 6) r3) 64 (cn 6) r4) 4 1 (cn 6)) (va_up cn 6 (cn 6 + 1)) In (va_up (va_up (va_up (va_up (va_up (va_up (va_up (va_up (va_up (va_up Fn 195 (upd (Fn 195) (cn 6) 0)) 196 (upd (Fn 196) (cn 6) 0)) 197 (upd (Fn 197) (cn 6) 0)) 198 (upd (Fn 198) (cn 6) 0)) 199 (upd (Fn 199) (cn 6) (nI n))) 301 (flat (Fn 301) 200 (cn 6) (fun _ => 0))) 302 (flat (Fn 302) 12 (cn 6) (fun _ => 0))) 303 (flat (Fn 303) 12 (cn 6) (fun _ => 0))) 304 (flat (Fn 304) 12 (cn 6) (fun _ => 0))) 305 (flat (Fn 305) 32 (cn 6) (fun _ => 0))))).set 8 ((cn 6), e8X cI QA zz g (adO (adO (adO (adO (adO (adO (adO ad 5 (cn 6) qt) 60 (cn 6) r0) 61 (cn 6) r1) 62 (cn 6) r2) 63 (cn 6) r3) 64 (cn 6) r4) 4 1 (cn 6)) (va_up cn 6 (cn 6 + 1)) In (va_up (va_up (va_up (va_up (va_up (va_up (va_up (va_up (va_up (va_up Fn 195 (upd (Fn 195) (cn 6) 0)) 196 (upd (Fn 196) (cn 6) 0)) 197 (upd (Fn 197) (cn 6) 0)) 198 (upd (Fn 198) (cn 6) 0)) 199 (upd (Fn 199) (cn 6) (nI n))) 301 (flat (Fn 301) 200 (cn 6) (fun _ => 0))) 302 (flat (Fn 302) 12 (cn 6) (fun _ => 0))) 303 (flat (Fn 303) 12 (cn 6) (fun _ => 0))) 304 (flat (Fn 304) 12 (cn 6) (fun _ => 0))) 305 (flat (Fn 305) 32 (cn 6) (fun _ => 0))))).set 9 ((cn 6), e9X cI QA zz g (adO (adO (adO (adO (adO (adO (adO ad 5 (cn 6) qt) 60 (cn 6) r0) 61 (cn 6) r1) 62 (cn 6) r2) 63 (cn 6) r3) 64 (cn 6) r4) 4 1 (cn 6)) (va_up cn 6 (cn 6 + 1)) In (va_up (va_up (va_up (va_up (va_up (va_up (va_up (va_up (va_up (va_up Fn 195 (upd (Fn 195) (cn 6) 0)) 196 (upd (Fn 196) (cn 6) 0)) 197 (upd (Fn 197) (cn 6) 0)) 198 (upd (Fn 198) (cn 6) 0)) 199 (upd (Fn 199) (cn 6) (nI n))) 301 (flat (Fn 301) 200 (cn 6) (fun _ => 0))) 302 (flat (Fn 302) 12 (cn 6) (fun _ => 0))) 303 (flat (Fn 303) 12 (cn 6) (fun _ => 0))) 304 (flat (Fn 304) 12 (cn 6) (fun _ => 0))) 305 (flat (Fn 305) 32 (cn 6) (fun _ => 0))))).set 10 ((cn 6), e10X cI QA zz g (adO (adO (adO (adO (adO (adO (adO ad 5 (cn 6) qt) 60 (cn 6) r0) 61 (cn 6) r1) 62 (cn 6) r2) 63 (cn 6) r3) 64 (cn 6) r4) 4 1 (cn 6)) (va_up cn 6 (cn 6 + 1)) In (va_up (va_up (va_up (va_up (va_up (va_up (va_up (va_up (va_up (va_up Fn 195 (upd (Fn 195) (cn 6) 0)) 196 (upd (Fn 196) (cn 6) 0)) 197 (upd (Fn 197) (cn 6) 0)) 198 (upd (Fn 198) (cn 6) 0)) 199 (upd (Fn 199) (cn 6) (nI n))) 301 (flat (Fn 301) 200 (cn 6) (fun _ => 0))) 302 (flat (Fn 302) 12 (cn 6) (fun _ => 0))) 303 (flat (Fn 303) 12 (cn 6) (fun _ => 0))) 304 (flat (Fn 304) 12 (cn 6) (fun _ => 0))) 305 (flat (Fn 305) 32 (cn 6) (fun _ => 0))))) (i := 11) (n := (cn 6)) (f := e11X cI QA zz g (adO (adO (adO (adO (adO (adO (adO ad 5 (cn 6) qt) 60 (cn 6) r0) 61 (cn 6) r1) 62 (cn 6) r2) 63 (cn 6) r3) 64 (cn 6) r4) 4 1 (cn 6)) (va_up cn 6 (cn 6 + 1)) In (va_up (va_up (va_up (va_up (va_up (va_up (va_up (va_up (va_up (va_up Fn 195 (upd (Fn 195) (cn 6) 0)) 196 (upd (Fn 196) (cn 6) 0)) 197 (upd (Fn 197) (cn 6) 0)) 198 (upd (Fn 198) (cn 6) 0)) 199 (upd (Fn 199) (cn 6) (nI n))) 301 (flat (Fn 301) 200 (cn 6) (fun _ => 0))) 302 (flat (Fn 302) 12 (cn 6) (fun _ => 0))) 303 (flat (Fn 303) 12 (cn 6) (fun _ => 0))) 304 (flat (Fn 304) 12 (cn 6) (fun _ => 0))) 305 (flat (Fn 305) 32 (cn 6) (fun _ => 0)))) rfl
  have p5 := famW_push (fs := ((((([((cn 10), e0X cI QA zz g ad cn In Fn), ((cn 11), e1X cI QA zz g ad cn In Fn), ((cn 12), e2X cI QA zz g ad cn In Fn), ((cn 13), e3X cI QA zz g ad cn In Fn), ((cn 14), e4X cI QA zz g ad cn In Fn), ((cn 15), e5X cI QA zz g ad cn In Fn), ((cn 12), e6X cI QA zz g ad cn In Fn), ((cn 6) + 1, e7X cI QA zz g (adO (adO (adO (adO (adO (adO (adO ad 5 (cn 6) qt) 60 (cn 6) r0) 61 (cn 6) r1) 62 (cn 6) r2) 63 (cn 6) r3) 64 (cn 6) r4) 4 1 (cn 6)) (va_up cn 6 (cn 6 + 1)) In (va_up (va_up (va_up (va_up (va_up (va_up (va_up (va_up (va_up (va_up Fn 195 (upd (Fn 195) (cn 6) 0)) 196 (upd (Fn 196) (cn 6) 0)) 197 (upd (Fn 197) (cn 6) 0)) 198 (upd (Fn 198) (cn 6) 0)) 199 (upd (Fn 199) (cn 6) (nI n))) 301 (flat (Fn 301) 200 (cn 6) (fun _ => 0))) 302 (flat (Fn 302) 12 (cn 6) (fun _ => 0))) 303 (flat (Fn 303) 12 (cn 6) (fun _ => 0))) 304 (flat (Fn 304) 12 (cn 6) (fun _ => 0))) 305 (flat (Fn 305) 32 (cn 6) (fun _ => 0)))), ((cn 6) + 1, e8X cI QA zz g (adO (adO (adO (adO (adO (adO (adO ad 5 (cn 6) qt) 60 (cn 6) r0) 61 (cn 6) r1) 62 (cn 6) r2) 63 (cn 6) r3) 64 (cn 6) r4) 4 1 (cn 6)) (va_up cn 6 (cn 6 + 1)) In (va_up (va_up (va_up (va_up (va_up (va_up (va_up (va_up (va_up (va_up Fn 195 (upd (Fn 195) (cn 6) 0)) 196 (upd (Fn 196) (cn 6) 0)) 197 (upd (Fn 197) (cn 6) 0)) 198 (upd (Fn 198) (cn 6) 0)) 199 (upd (Fn 199) (cn 6) (nI n))) 301 (flat (Fn 301) 200 (cn 6) (fun _ => 0))) 302 (flat (Fn 302) 12 (cn 6) (fun _ => 0))) 303 (flat (Fn 303) 12 (cn 6) (fun _ => 0))) 304 (flat (Fn 304) 12 (cn 6) (fun _ => 0))) 305 (flat (Fn 305) 32 (cn 6) (fun _ => 0)))), ((cn 6) + 1, e9X cI QA zz g (adO (adO (adO (adO (adO (adO (adO ad 5 (cn 6) qt) 60 (cn 6) r0) 61 (cn 6) r1) 62 (cn 6) r2) 63 (cn 6) r3) 64 (cn 6) r4) 4 1 (cn 6)) (va_up cn 6 (cn 6 + 1)) In (va_up (va_up (va_up (va_up (va_up (va_up (va_up (va_up (va_up (va_up Fn 195 (upd (Fn 195) (cn 6) 0)) 196 (upd (Fn 196) (cn 6) 0)) 197 (upd (Fn 197) (cn 6) 0)) 198 (upd (Fn 198) (cn 6) 0)) 199 (upd (Fn 199) (cn 6) (nI n))) 301 (flat (Fn 301) 200 (cn 6) (fun _ => 0))) 302 (flat (Fn 302) 12 (cn 6) (fun _ => 0))) 303 (flat (Fn 303) 12 (cn 6) (fun _ => 0))) 304 (flat (Fn 304) 12 (cn 6) (fun _ => 0))) 305 (flat (Fn 305) 32 (cn 6) (fun _ => 0)))), ((cn 6) + 1, e10X cI QA zz g (adO (adO (adO (adO (adO (adO (adO ad 5 (cn 6) qt) 60 (cn 6) r0) 61 (cn 6) r1) 62 (cn 6) r2) 63 (cn 6) r3) 64 (cn 6) r4) 4 1 (cn 6)) (va_up cn 6 (cn 6 + 1)) In (va_up (va_up (va_up (va_up (va_up (va_up (va_up (va_up (va_up (va_up Fn 195 (upd (Fn 195) (cn 6) 0)) 196 (upd (Fn 196) (cn 6) 0)) 197 (upd (Fn 197) (cn 6) 0)) 198 (upd (Fn 198) (cn 6) 0)) 199 (upd (Fn 199) (cn 6) (nI n))) 301 (flat (Fn 301) 200 (cn 6) (fun _ => 0))) 302 (flat (Fn 302) 12 (cn 6) (fun _ => 0))) 303 (flat (Fn 303) 12 (cn 6) (fun _ => 0))) 304 (flat (Fn 304) 12 (cn 6) (fun _ => 0))) 305 (flat (Fn 305) 32 (cn 6) (fun _ => 0)))), ((cn 6) + 1, e11X cI QA zz g (adO (adO (adO (adO (adO (adO (adO ad 5 (cn 6) qt) 60 (cn 6) r0) 61 (cn 6) r1) 62 (cn 6) r2) 63 (cn 6) r3) 64 (cn 6) r4) 4 1 (cn 6)) (va_up cn 6 (cn 6 + 1)) In (va_up (va_up (va_up (va_up (va_up (va_up (va_up (va_up (va_up (va_up Fn 195 (upd (Fn 195) (cn 6) 0)) 196 (upd (Fn 196) (cn 6) 0)) 197 (upd (Fn 197) (cn 6) 0)) 198 (upd (Fn 198) (cn 6) 0)) 199 (upd (Fn 199) (cn 6) (nI n))) 301 (flat (Fn 301) 200 (cn 6) (fun _ => 0))) 302 (flat (Fn 302) 12 (cn 6) (fun _ => 0))) 303 (flat (Fn 303) 12 (cn 6) (fun _ => 0))) 304 (flat (Fn 304) 12 (cn 6) (fun _ => 0))) 305 (flat (Fn 305) 32 (cn 6) (fun _ => 0)))), ((cn 6) + 1, e12X cI QA zz g (adO (adO (adO (adO (adO (adO (adO ad 5 (cn 6) qt) 60 (cn 6) r0) 61 (cn 6) r1) 62 (cn 6) r2) 63 (cn 6) r3) 64 (cn 6) r4) 4 1 (cn 6)) (va_up cn 6 (cn 6 + 1)) In (va_up (va_up (va_up (va_up (va_up (va_up (va_up (va_up (va_up (va_up Fn 195 (upd (Fn 195) (cn 6) 0)) 196 (upd (Fn 196) (cn 6) 0)) 197 (upd (Fn 197) (cn 6) 0)) 198 (upd (Fn 198) (cn 6) 0)) 199 (upd (Fn 199) (cn 6) (nI n))) 301 (flat (Fn 301) 200 (cn 6) (fun _ => 0))) 302 (flat (Fn 302) 12 (cn 6) (fun _ => 0))) 303 (flat (Fn 303) 12 (cn 6) (fun _ => 0))) 304 (flat (Fn 304) 12 (cn 6) (fun _ => 0))) 305 (flat (Fn 305) 32 (cn 6) (fun _ => 0)))), ((min 1 (cn 10)), e13X cI QA zz g ad cn In Fn), ((min 1 (cn 11)), e14X cI QA zz g ad cn In Fn), ((min 1 (cn 12)), e15X cI QA zz g ad cn In Fn), ((min 1 (cn 13)), e16X cI QA zz g ad cn In Fn), ((min 1 (cn 14)), e17X cI QA zz g ad cn In Fn), ((min 1 (cn 15)), e18X cI QA zz g ad cn In Fn)]).set 7 ((cn 6), e7X cI QA zz g (adO (adO (adO (adO (adO (adO (adO ad 5 (cn 6) qt) 60 (cn 6) r0) 61 (cn 6) r1) 62 (cn 6) r2) 63 (cn 6) r3) 64 (cn 6) r4) 4 1 (cn 6)) (va_up cn 6 (cn 6 + 1)) In (va_up (va_up (va_up (va_up (va_up (va_up (va_up (va_up (va_up (va_up Fn 195 (upd (Fn 195) (cn 6) 0)) 196 (upd (Fn 196) (cn 6) 0)) 197 (upd (Fn 197) (cn 6) 0)) 198 (upd (Fn 198) (cn 6) 0)) 199 (upd (Fn 199) (cn 6) (nI n))) 301 (flat (Fn 301) 200 (cn 6) (fun _ => 0))) 302 (flat (Fn 302) 12 (cn 6) (fun _ => 0))) 303 (flat (Fn 303) 12 (cn 6) (fun _ => 0))) 304 (flat (Fn 304) 12 (cn 6) (fun _ => 0))) 305 (flat (Fn 305) 32 (cn 6) (fun _ => 0))))).set 8 ((cn 6), e8X cI QA zz g (adO (adO (adO (adO (adO (adO (adO ad 5 (cn 6) qt) 60 (cn 6) r0) 61 (cn 6) r1) 62 (cn 6) r2) 63 (cn 6) r3) 64 (cn 6) r4) 4 1 (cn 6)) (va_up cn 6 (cn 6 + 1)) In (va_up (va_up (va_up (va_up (va_up (va_up (va_up (va_up (va_up (va_up Fn 195 (upd (Fn 195) (cn 6) 0)) 196 (upd (Fn 196) (cn 6) 0)) 197 (upd (Fn 197) (cn 6) 0)) 198 (upd (Fn 198) (cn 6) 0)) 199 (upd (Fn 199) (cn 6) (nI n))) 301 (flat (Fn 301) 200 (cn 6) (fun _ => 0))) 302 (flat (Fn 302) 12 (cn 6) (fun _ => 0))) 303 (flat (Fn 303) 12 (cn 6) (fun _ => 0))) 304 (flat (Fn 304) 12 (cn 6) (fun _ => 0))) 305 (flat (Fn 305) 32 (cn 6) (fun _ => 0))))).set 9 ((cn 6), e9X cI QA zz g (adO (adO (adO (adO (adO (adO (adO ad 5 (cn 6) qt) 60 (cn 6) r0) 61 (cn 6) r1) 62 (cn 6) r2) 63 (cn 6) r3) 64 (cn 6) r4) 4 1 (cn 6)) (va_up cn 6 (cn 6 + 1)) In (va_up (va_up (va_up (va_up (va_up (va_up (va_up (va_up (va_up (va_up Fn 195 (upd (Fn 195) (cn 6) 0)) 196 (upd (Fn 196) (cn 6) 0)) 197 (upd (Fn 197) (cn 6) 0)) 198 (upd (Fn 198) (cn 6) 0)) 199 (upd (Fn 199) (cn 6) (nI n))) 301 (flat (Fn 301) 200 (cn 6) (fun _ => 0))) 302 (flat (Fn 302) 12 (cn 6) (fun _ => 0))) 303 (flat (Fn 303) 12 (cn 6) (fun _ => 0))) 304 (flat (Fn 304) 12 (cn 6) (fun _ => 0))) 305 (flat (Fn 305) 32 (cn 6) (fun _ => 0))))).set 10 ((cn 6), e10X cI QA zz g (adO (adO (adO (adO (adO (adO (adO ad 5 (cn 6) qt) 60 (cn 6) r0) 61 (cn 6) r1) 62 (cn 6) r2) 63 (cn 6) r3) 64 (cn 6) r4) 4 1 (cn 6)) (va_up cn 6 (cn 6 + 1)) In (va_up (va_up (va_up (va_up (va_up (va_up (va_up (va_up (va_up (va_up Fn 195 (upd (Fn 195) (cn 6) 0)) 196 (upd (Fn 196) (cn 6) 0)) 197 (upd (Fn 197) (cn 6) 0)) 198 (upd (Fn 198) (cn 6) 0)) 199 (upd (Fn 199) (cn 6) (nI n))) 301 (flat (Fn 301) 200 (cn 6) (fun _ => 0))) 302 (flat (Fn 302) 12 (cn 6) (fun _ => 0))) 303 (flat (Fn 303) 12 (cn 6) (fun _ => 0))) 304 (flat (Fn 304) 12 (cn 6) (fun _ => 0))) 305 (flat (Fn 305) 32 (cn 6) (fun _ => 0))))).set 11 ((cn 6), e11X cI QA zz g (adO (adO (adO (adO (adO (adO (adO ad 5 (cn 6) qt) 60 (cn 6) r0) 61 (cn 6) r1) 62 (cn 6) r2) 63 (cn 6) r3) 64 (cn 6) r4) 4 1 (cn 6)) (va_up cn 6 (cn 6 + 1)) In (va_up (va_up (va_up (va_up (va_up (va_up (va_up (va_up (va_up (va_up Fn 195 (upd (Fn 195) (cn 6) 0)) 196 (upd (Fn 196) (cn 6) 0)) 197 (upd (Fn 197) (cn 6) 0)) 198 (upd (Fn 198) (cn 6) 0)) 199 (upd (Fn 199) (cn 6) (nI n))) 301 (flat (Fn 301) 200 (cn 6) (fun _ => 0))) 302 (flat (Fn 302) 12 (cn 6) (fun _ => 0))) 303 (flat (Fn 303) 12 (cn 6) (fun _ => 0))) 304 (flat (Fn 304) 12 (cn 6) (fun _ => 0))) 305 (flat (Fn 305) 32 (cn 6) (fun _ => 0))))) (i := 12) (n := (cn 6)) (f := e12X cI QA zz g (adO (adO (adO (adO (adO (adO (adO ad 5 (cn 6) qt) 60 (cn 6) r0) 61 (cn 6) r1) 62 (cn 6) r2) 63 (cn 6) r3) 64 (cn 6) r4) 4 1 (cn 6)) (va_up cn 6 (cn 6 + 1)) In (va_up (va_up (va_up (va_up (va_up (va_up (va_up (va_up (va_up (va_up Fn 195 (upd (Fn 195) (cn 6) 0)) 196 (upd (Fn 196) (cn 6) 0)) 197 (upd (Fn 197) (cn 6) 0)) 198 (upd (Fn 198) (cn 6) 0)) 199 (upd (Fn 199) (cn 6) (nI n))) 301 (flat (Fn 301) 200 (cn 6) (fun _ => 0))) 302 (flat (Fn 302) 12 (cn 6) (fun _ => 0))) 303 (flat (Fn 303) 12 (cn 6) (fun _ => 0))) 304 (flat (Fn 304) 12 (cn 6) (fun _ => 0))) 305 (flat (Fn 305) 32 (cn 6) (fun _ => 0)))) rfl
  have ci_7 : ∀ k : Nat, k < (cn 6) → e7X cI QA zz g (adO (adO (adO (adO (adO (adO (adO ad 5 (cn 6) qt) 60 (cn 6) r0) 61 (cn 6) r1) 62 (cn 6) r2) 63 (cn 6) r3) 64 (cn 6) r4) 4 1 (cn 6)) (va_up cn 6 (cn 6 + 1)) In (va_up (va_up (va_up (va_up (va_up (va_up (va_up (va_up (va_up (va_up Fn 195 (upd (Fn 195) (cn 6) 0)) 196 (upd (Fn 196) (cn 6) 0)) 197 (upd (Fn 197) (cn 6) 0)) 198 (upd (Fn 198) (cn 6) 0)) 199 (upd (Fn 199) (cn 6) (nI n))) 301 (flat (Fn 301) 200 (cn 6) (fun _ => 0))) 302 (flat (Fn 302) 12 (cn 6) (fun _ => 0))) 303 (flat (Fn 303) 12 (cn 6) (fun _ => 0))) 304 (flat (Fn 304) 12 (cn 6) (fun _ => 0))) 305 (flat (Fn 305) 32 (cn 6) (fun _ => 0))) k = e7X cI QA zz g ad cn In Fn k := fun k hk => by
    have hne : ¬ k = (cn 6) := by omega
    simp [e7X, adO, va_up, upd, hne, gA_flat_ne, Nat.ne_of_lt h40, hn]
  have ci_8 : ∀ k : Nat, k < (cn 6) → e8X cI QA zz g (adO (adO (adO (adO (adO (adO (adO ad 5 (cn 6) qt) 60 (cn 6) r0) 61 (cn 6) r1) 62 (cn 6) r2) 63 (cn 6) r3) 64 (cn 6) r4) 4 1 (cn 6)) (va_up cn 6 (cn 6 + 1)) In (va_up (va_up (va_up (va_up (va_up (va_up (va_up (va_up (va_up (va_up Fn 195 (upd (Fn 195) (cn 6) 0)) 196 (upd (Fn 196) (cn 6) 0)) 197 (upd (Fn 197) (cn 6) 0)) 198 (upd (Fn 198) (cn 6) 0)) 199 (upd (Fn 199) (cn 6) (nI n))) 301 (flat (Fn 301) 200 (cn 6) (fun _ => 0))) 302 (flat (Fn 302) 12 (cn 6) (fun _ => 0))) 303 (flat (Fn 303) 12 (cn 6) (fun _ => 0))) 304 (flat (Fn 304) 12 (cn 6) (fun _ => 0))) 305 (flat (Fn 305) 32 (cn 6) (fun _ => 0))) k = e8X cI QA zz g ad cn In Fn k := fun k hk => by
    have hne : ¬ k = (cn 6) := by omega
    simp [e8X, adO, va_up, upd, hne, gA_flat_ne, Nat.ne_of_lt h40, hn]
  have ci_9 : ∀ k : Nat, k < (cn 6) → e9X cI QA zz g (adO (adO (adO (adO (adO (adO (adO ad 5 (cn 6) qt) 60 (cn 6) r0) 61 (cn 6) r1) 62 (cn 6) r2) 63 (cn 6) r3) 64 (cn 6) r4) 4 1 (cn 6)) (va_up cn 6 (cn 6 + 1)) In (va_up (va_up (va_up (va_up (va_up (va_up (va_up (va_up (va_up (va_up Fn 195 (upd (Fn 195) (cn 6) 0)) 196 (upd (Fn 196) (cn 6) 0)) 197 (upd (Fn 197) (cn 6) 0)) 198 (upd (Fn 198) (cn 6) 0)) 199 (upd (Fn 199) (cn 6) (nI n))) 301 (flat (Fn 301) 200 (cn 6) (fun _ => 0))) 302 (flat (Fn 302) 12 (cn 6) (fun _ => 0))) 303 (flat (Fn 303) 12 (cn 6) (fun _ => 0))) 304 (flat (Fn 304) 12 (cn 6) (fun _ => 0))) 305 (flat (Fn 305) 32 (cn 6) (fun _ => 0))) k = e9X cI QA zz g ad cn In Fn k := fun k hk => by
    have hne : ¬ k = (cn 6) := by omega
    simp [e9X, adO, va_up, upd, hne, gA_flat_ne, Nat.ne_of_lt h40, hn]
  have ci_10 : ∀ k : Nat, k < (cn 6) → e10X cI QA zz g (adO (adO (adO (adO (adO (adO (adO ad 5 (cn 6) qt) 60 (cn 6) r0) 61 (cn 6) r1) 62 (cn 6) r2) 63 (cn 6) r3) 64 (cn 6) r4) 4 1 (cn 6)) (va_up cn 6 (cn 6 + 1)) In (va_up (va_up (va_up (va_up (va_up (va_up (va_up (va_up (va_up (va_up Fn 195 (upd (Fn 195) (cn 6) 0)) 196 (upd (Fn 196) (cn 6) 0)) 197 (upd (Fn 197) (cn 6) 0)) 198 (upd (Fn 198) (cn 6) 0)) 199 (upd (Fn 199) (cn 6) (nI n))) 301 (flat (Fn 301) 200 (cn 6) (fun _ => 0))) 302 (flat (Fn 302) 12 (cn 6) (fun _ => 0))) 303 (flat (Fn 303) 12 (cn 6) (fun _ => 0))) 304 (flat (Fn 304) 12 (cn 6) (fun _ => 0))) 305 (flat (Fn 305) 32 (cn 6) (fun _ => 0))) k = e10X cI QA zz g ad cn In Fn k := fun k hk => by
    have hne : ¬ k = (cn 6) := by omega
    simp [e10X, adO, va_up, upd, hne, gA_flat_ne, Nat.ne_of_lt h40, hn]
  have ci_11 : ∀ k : Nat, k < (cn 6) → e11X cI QA zz g (adO (adO (adO (adO (adO (adO (adO ad 5 (cn 6) qt) 60 (cn 6) r0) 61 (cn 6) r1) 62 (cn 6) r2) 63 (cn 6) r3) 64 (cn 6) r4) 4 1 (cn 6)) (va_up cn 6 (cn 6 + 1)) In (va_up (va_up (va_up (va_up (va_up (va_up (va_up (va_up (va_up (va_up Fn 195 (upd (Fn 195) (cn 6) 0)) 196 (upd (Fn 196) (cn 6) 0)) 197 (upd (Fn 197) (cn 6) 0)) 198 (upd (Fn 198) (cn 6) 0)) 199 (upd (Fn 199) (cn 6) (nI n))) 301 (flat (Fn 301) 200 (cn 6) (fun _ => 0))) 302 (flat (Fn 302) 12 (cn 6) (fun _ => 0))) 303 (flat (Fn 303) 12 (cn 6) (fun _ => 0))) 304 (flat (Fn 304) 12 (cn 6) (fun _ => 0))) 305 (flat (Fn 305) 32 (cn 6) (fun _ => 0))) k = e11X cI QA zz g ad cn In Fn k := fun k hk => by
    have hne : ¬ k = (cn 6) := by omega
    simp [e11X, adO, va_up, upd, hne, gA_flat_ne, Nat.ne_of_lt h40, hn]
  have ci_12 : ∀ k : Nat, k < (cn 6) → e12X cI QA zz g (adO (adO (adO (adO (adO (adO (adO ad 5 (cn 6) qt) 60 (cn 6) r0) 61 (cn 6) r1) 62 (cn 6) r2) 63 (cn 6) r3) 64 (cn 6) r4) 4 1 (cn 6)) (va_up cn 6 (cn 6 + 1)) In (va_up (va_up (va_up (va_up (va_up (va_up (va_up (va_up (va_up (va_up Fn 195 (upd (Fn 195) (cn 6) 0)) 196 (upd (Fn 196) (cn 6) 0)) 197 (upd (Fn 197) (cn 6) 0)) 198 (upd (Fn 198) (cn 6) 0)) 199 (upd (Fn 199) (cn 6) (nI n))) 301 (flat (Fn 301) 200 (cn 6) (fun _ => 0))) 302 (flat (Fn 302) 12 (cn 6) (fun _ => 0))) 303 (flat (Fn 303) 12 (cn 6) (fun _ => 0))) 304 (flat (Fn 304) 12 (cn 6) (fun _ => 0))) 305 (flat (Fn 305) 32 (cn 6) (fun _ => 0))) k = e12X cI QA zz g ad cn In Fn k := fun k hk => by
    have hne : ¬ k = (cn 6) := by omega
    simp [e12X, adO, va_up, upd, hne, gA_flat_ne, Nat.ne_of_lt h40, hn]
  have b1 : famW ((((((([((cn 10), e0X cI QA zz g ad cn In Fn), ((cn 11), e1X cI QA zz g ad cn In Fn), ((cn 12), e2X cI QA zz g ad cn In Fn), ((cn 13), e3X cI QA zz g ad cn In Fn), ((cn 14), e4X cI QA zz g ad cn In Fn), ((cn 15), e5X cI QA zz g ad cn In Fn), ((cn 12), e6X cI QA zz g ad cn In Fn), ((cn 6) + 1, e7X cI QA zz g (adO (adO (adO (adO (adO (adO (adO ad 5 (cn 6) qt) 60 (cn 6) r0) 61 (cn 6) r1) 62 (cn 6) r2) 63 (cn 6) r3) 64 (cn 6) r4) 4 1 (cn 6)) (va_up cn 6 (cn 6 + 1)) In (va_up (va_up (va_up (va_up (va_up (va_up (va_up (va_up (va_up (va_up Fn 195 (upd (Fn 195) (cn 6) 0)) 196 (upd (Fn 196) (cn 6) 0)) 197 (upd (Fn 197) (cn 6) 0)) 198 (upd (Fn 198) (cn 6) 0)) 199 (upd (Fn 199) (cn 6) (nI n))) 301 (flat (Fn 301) 200 (cn 6) (fun _ => 0))) 302 (flat (Fn 302) 12 (cn 6) (fun _ => 0))) 303 (flat (Fn 303) 12 (cn 6) (fun _ => 0))) 304 (flat (Fn 304) 12 (cn 6) (fun _ => 0))) 305 (flat (Fn 305) 32 (cn 6) (fun _ => 0)))), ((cn 6) + 1, e8X cI QA zz g (adO (adO (adO (adO (adO (adO (adO ad 5 (cn 6) qt) 60 (cn 6) r0) 61 (cn 6) r1) 62 (cn 6) r2) 63 (cn 6) r3) 64 (cn 6) r4) 4 1 (cn 6)) (va_up cn 6 (cn 6 + 1)) In (va_up (va_up (va_up (va_up (va_up (va_up (va_up (va_up (va_up (va_up Fn 195 (upd (Fn 195) (cn 6) 0)) 196 (upd (Fn 196) (cn 6) 0)) 197 (upd (Fn 197) (cn 6) 0)) 198 (upd (Fn 198) (cn 6) 0)) 199 (upd (Fn 199) (cn 6) (nI n))) 301 (flat (Fn 301) 200 (cn 6) (fun _ => 0))) 302 (flat (Fn 302) 12 (cn 6) (fun _ => 0))) 303 (flat (Fn 303) 12 (cn 6) (fun _ => 0))) 304 (flat (Fn 304) 12 (cn 6) (fun _ => 0))) 305 (flat (Fn 305) 32 (cn 6) (fun _ => 0)))), ((cn 6) + 1, e9X cI QA zz g (adO (adO (adO (adO (adO (adO (adO ad 5 (cn 6) qt) 60 (cn 6) r0) 61 (cn 6) r1) 62 (cn 6) r2) 63 (cn 6) r3) 64 (cn 6) r4) 4 1 (cn 6)) (va_up cn 6 (cn 6 + 1)) In (va_up (va_up (va_up (va_up (va_up (va_up (va_up (va_up (va_up (va_up Fn 195 (upd (Fn 195) (cn 6) 0)) 196 (upd (Fn 196) (cn 6) 0)) 197 (upd (Fn 197) (cn 6) 0)) 198 (upd (Fn 198) (cn 6) 0)) 199 (upd (Fn 199) (cn 6) (nI n))) 301 (flat (Fn 301) 200 (cn 6) (fun _ => 0))) 302 (flat (Fn 302) 12 (cn 6) (fun _ => 0))) 303 (flat (Fn 303) 12 (cn 6) (fun _ => 0))) 304 (flat (Fn 304) 12 (cn 6) (fun _ => 0))) 305 (flat (Fn 305) 32 (cn 6) (fun _ => 0)))), ((cn 6) + 1, e10X cI QA zz g (adO (adO (adO (adO (adO (adO (adO ad 5 (cn 6) qt) 60 (cn 6) r0) 61 (cn 6) r1) 62 (cn 6) r2) 63 (cn 6) r3) 64 (cn 6) r4) 4 1 (cn 6)) (va_up cn 6 (cn 6 + 1)) In (va_up (va_up (va_up (va_up (va_up (va_up (va_up (va_up (va_up (va_up Fn 195 (upd (Fn 195) (cn 6) 0)) 196 (upd (Fn 196) (cn 6) 0)) 197 (upd (Fn 197) (cn 6) 0)) 198 (upd (Fn 198) (cn 6) 0)) 199 (upd (Fn 199) (cn 6) (nI n))) 301 (flat (Fn 301) 200 (cn 6) (fun _ => 0))) 302 (flat (Fn 302) 12 (cn 6) (fun _ => 0))) 303 (flat (Fn 303) 12 (cn 6) (fun _ => 0))) 304 (flat (Fn 304) 12 (cn 6) (fun _ => 0))) 305 (flat (Fn 305) 32 (cn 6) (fun _ => 0)))), ((cn 6) + 1, e11X cI QA zz g (adO (adO (adO (adO (adO (adO (adO ad 5 (cn 6) qt) 60 (cn 6) r0) 61 (cn 6) r1) 62 (cn 6) r2) 63 (cn 6) r3) 64 (cn 6) r4) 4 1 (cn 6)) (va_up cn 6 (cn 6 + 1)) In (va_up (va_up (va_up (va_up (va_up (va_up (va_up (va_up (va_up (va_up Fn 195 (upd (Fn 195) (cn 6) 0)) 196 (upd (Fn 196) (cn 6) 0)) 197 (upd (Fn 197) (cn 6) 0)) 198 (upd (Fn 198) (cn 6) 0)) 199 (upd (Fn 199) (cn 6) (nI n))) 301 (flat (Fn 301) 200 (cn 6) (fun _ => 0))) 302 (flat (Fn 302) 12 (cn 6) (fun _ => 0))) 303 (flat (Fn 303) 12 (cn 6) (fun _ => 0))) 304 (flat (Fn 304) 12 (cn 6) (fun _ => 0))) 305 (flat (Fn 305) 32 (cn 6) (fun _ => 0)))), ((cn 6) + 1, e12X cI QA zz g (adO (adO (adO (adO (adO (adO (adO ad 5 (cn 6) qt) 60 (cn 6) r0) 61 (cn 6) r1) 62 (cn 6) r2) 63 (cn 6) r3) 64 (cn 6) r4) 4 1 (cn 6)) (va_up cn 6 (cn 6 + 1)) In (va_up (va_up (va_up (va_up (va_up (va_up (va_up (va_up (va_up (va_up Fn 195 (upd (Fn 195) (cn 6) 0)) 196 (upd (Fn 196) (cn 6) 0)) 197 (upd (Fn 197) (cn 6) 0)) 198 (upd (Fn 198) (cn 6) 0)) 199 (upd (Fn 199) (cn 6) (nI n))) 301 (flat (Fn 301) 200 (cn 6) (fun _ => 0))) 302 (flat (Fn 302) 12 (cn 6) (fun _ => 0))) 303 (flat (Fn 303) 12 (cn 6) (fun _ => 0))) 304 (flat (Fn 304) 12 (cn 6) (fun _ => 0))) 305 (flat (Fn 305) 32 (cn 6) (fun _ => 0)))), ((min 1 (cn 10)), e13X cI QA zz g ad cn In Fn), ((min 1 (cn 11)), e14X cI QA zz g ad cn In Fn), ((min 1 (cn 12)), e15X cI QA zz g ad cn In Fn), ((min 1 (cn 13)), e16X cI QA zz g ad cn In Fn), ((min 1 (cn 14)), e17X cI QA zz g ad cn In Fn), ((min 1 (cn 15)), e18X cI QA zz g ad cn In Fn)]).set 7 ((cn 6), e7X cI QA zz g (adO (adO (adO (adO (adO (adO (adO ad 5 (cn 6) qt) 60 (cn 6) r0) 61 (cn 6) r1) 62 (cn 6) r2) 63 (cn 6) r3) 64 (cn 6) r4) 4 1 (cn 6)) (va_up cn 6 (cn 6 + 1)) In (va_up (va_up (va_up (va_up (va_up (va_up (va_up (va_up (va_up (va_up Fn 195 (upd (Fn 195) (cn 6) 0)) 196 (upd (Fn 196) (cn 6) 0)) 197 (upd (Fn 197) (cn 6) 0)) 198 (upd (Fn 198) (cn 6) 0)) 199 (upd (Fn 199) (cn 6) (nI n))) 301 (flat (Fn 301) 200 (cn 6) (fun _ => 0))) 302 (flat (Fn 302) 12 (cn 6) (fun _ => 0))) 303 (flat (Fn 303) 12 (cn 6) (fun _ => 0))) 304 (flat (Fn 304) 12 (cn 6) (fun _ => 0))) 305 (flat (Fn 305) 32 (cn 6) (fun _ => 0))))).set 8 ((cn 6), e8X cI QA zz g (adO (adO (adO (adO (adO (adO (adO ad 5 (cn 6) qt) 60 (cn 6) r0) 61 (cn 6) r1) 62 (cn 6) r2) 63 (cn 6) r3) 64 (cn 6) r4) 4 1 (cn 6)) (va_up cn 6 (cn 6 + 1)) In (va_up (va_up (va_up (va_up (va_up (va_up (va_up (va_up (va_up (va_up Fn 195 (upd (Fn 195) (cn 6) 0)) 196 (upd (Fn 196) (cn 6) 0)) 197 (upd (Fn 197) (cn 6) 0)) 198 (upd (Fn 198) (cn 6) 0)) 199 (upd (Fn 199) (cn 6) (nI n))) 301 (flat (Fn 301) 200 (cn 6) (fun _ => 0))) 302 (flat (Fn 302) 12 (cn 6) (fun _ => 0))) 303 (flat (Fn 303) 12 (cn 6) (fun _ => 0))) 304 (flat (Fn 304) 12 (cn 6) (fun _ => 0))) 305 (flat (Fn 305) 32 (cn 6) (fun _ => 0))))).set 9 ((cn 6), e9X cI QA zz g (adO (adO (adO (adO (adO (adO (adO ad 5 (cn 6) qt) 60 (cn 6) r0) 61 (cn 6) r1) 62 (cn 6) r2) 63 (cn 6) r3) 64 (cn 6) r4) 4 1 (cn 6)) (va_up cn 6 (cn 6 + 1)) In (va_up (va_up (va_up (va_up (va_up (va_up (va_up (va_up (va_up (va_up Fn 195 (upd (Fn 195) (cn 6) 0)) 196 (upd (Fn 196) (cn 6) 0)) 197 (upd (Fn 197) (cn 6) 0)) 198 (upd (Fn 198) (cn 6) 0)) 199 (upd (Fn 199) (cn 6) (nI n))) 301 (flat (Fn 301) 200 (cn 6) (fun _ => 0))) 302 (flat (Fn 302) 12 (cn 6) (fun _ => 0))) 303 (flat (Fn 303) 12 (cn 6) (fun _ => 0))) 304 (flat (Fn 304) 12 (cn 6) (fun _ => 0))) 305 (flat (Fn 305) 32 (cn 6) (fun _ => 0))))).set 10 ((cn 6), e10X cI QA zz g (adO (adO (adO (adO (adO (adO (adO ad 5 (cn 6) qt) 60 (cn 6) r0) 61 (cn 6) r1) 62 (cn 6) r2) 63 (cn 6) r3) 64 (cn 6) r4) 4 1 (cn 6)) (va_up cn 6 (cn 6 + 1)) In (va_up (va_up (va_up (va_up (va_up (va_up (va_up (va_up (va_up (va_up Fn 195 (upd (Fn 195) (cn 6) 0)) 196 (upd (Fn 196) (cn 6) 0)) 197 (upd (Fn 197) (cn 6) 0)) 198 (upd (Fn 198) (cn 6) 0)) 199 (upd (Fn 199) (cn 6) (nI n))) 301 (flat (Fn 301) 200 (cn 6) (fun _ => 0))) 302 (flat (Fn 302) 12 (cn 6) (fun _ => 0))) 303 (flat (Fn 303) 12 (cn 6) (fun _ => 0))) 304 (flat (Fn 304) 12 (cn 6) (fun _ => 0))) 305 (flat (Fn 305) 32 (cn 6) (fun _ => 0))))).set 11 ((cn 6), e11X cI QA zz g (adO (adO (adO (adO (adO (adO (adO ad 5 (cn 6) qt) 60 (cn 6) r0) 61 (cn 6) r1) 62 (cn 6) r2) 63 (cn 6) r3) 64 (cn 6) r4) 4 1 (cn 6)) (va_up cn 6 (cn 6 + 1)) In (va_up (va_up (va_up (va_up (va_up (va_up (va_up (va_up (va_up (va_up Fn 195 (upd (Fn 195) (cn 6) 0)) 196 (upd (Fn 196) (cn 6) 0)) 197 (upd (Fn 197) (cn 6) 0)) 198 (upd (Fn 198) (cn 6) 0)) 199 (upd (Fn 199) (cn 6) (nI n))) 301 (flat (Fn 301) 200 (cn 6) (fun _ => 0))) 302 (flat (Fn 302) 12 (cn 6) (fun _ => 0))) 303 (flat (Fn 303) 12 (cn 6) (fun _ => 0))) 304 (flat (Fn 304) 12 (cn 6) (fun _ => 0))) 305 (flat (Fn 305) 32 (cn 6) (fun _ => 0))))).set 12 ((cn 6), e12X cI QA zz g (adO (adO (adO (adO (adO (adO (adO ad 5 (cn 6) qt) 60 (cn 6) r0) 61 (cn 6) r1) 62 (cn 6) r2) 63 (cn 6) r3) 64 (cn 6) r4) 4 1 (cn 6)) (va_up cn 6 (cn 6 + 1)) In (va_up (va_up (va_up (va_up (va_up (va_up (va_up (va_up (va_up (va_up Fn 195 (upd (Fn 195) (cn 6) 0)) 196 (upd (Fn 196) (cn 6) 0)) 197 (upd (Fn 197) (cn 6) 0)) 198 (upd (Fn 198) (cn 6) 0)) 199 (upd (Fn 199) (cn 6) (nI n))) 301 (flat (Fn 301) 200 (cn 6) (fun _ => 0))) 302 (flat (Fn 302) 12 (cn 6) (fun _ => 0))) 303 (flat (Fn 303) 12 (cn 6) (fun _ => 0))) 304 (flat (Fn 304) 12 (cn 6) (fun _ => 0))) 305 (flat (Fn 305) 32 (cn 6) (fun _ => 0))))) = famW [((cn 10), e0X cI QA zz g ad cn In Fn), ((cn 11), e1X cI QA zz g ad cn In Fn), ((cn 12), e2X cI QA zz g ad cn In Fn), ((cn 13), e3X cI QA zz g ad cn In Fn), ((cn 14), e4X cI QA zz g ad cn In Fn), ((cn 15), e5X cI QA zz g ad cn In Fn), ((cn 12), e6X cI QA zz g ad cn In Fn), ((cn 6), e7X cI QA zz g ad cn In Fn), ((cn 6), e8X cI QA zz g ad cn In Fn), ((cn 6), e9X cI QA zz g ad cn In Fn), ((cn 6), e10X cI QA zz g ad cn In Fn), ((cn 6), e11X cI QA zz g ad cn In Fn), ((cn 6), e12X cI QA zz g ad cn In Fn), ((min 1 (cn 10)), e13X cI QA zz g ad cn In Fn), ((min 1 (cn 11)), e14X cI QA zz g ad cn In Fn), ((min 1 (cn 12)), e15X cI QA zz g ad cn In Fn), ((min 1 (cn 13)), e16X cI QA zz g ad cn In Fn), ((min 1 (cn 14)), e17X cI QA zz g ad cn In Fn), ((min 1 (cn 15)), e18X cI QA zz g ad cn In Fn)] := famW_cg (show famE [((cn 10), e0X cI QA zz g ad cn In Fn), ((cn 11), e1X cI QA zz g ad cn In Fn), ((cn 12), e2X cI QA zz g ad cn In Fn), ((cn 13), e3X cI QA zz g ad cn In Fn), ((cn 14), e4X cI QA zz g ad cn In Fn), ((cn 15), e5X cI QA zz g ad cn In Fn), ((cn 12), e6X cI QA zz g ad cn In Fn), ((cn 6), e7X cI QA zz g (adO (adO (adO (adO (adO (adO (adO ad 5 (cn 6) qt) 60 (cn 6) r0) 61 (cn 6) r1) 62 (cn 6) r2) 63 (cn 6) r3) 64 (cn 6) r4) 4 1 (cn 6)) (va_up cn 6 (cn 6 + 1)) In (va_up (va_up (va_up (va_up (va_up (va_up (va_up (va_up (va_up (va_up Fn 195 (upd (Fn 195) (cn 6) 0)) 196 (upd (Fn 196) (cn 6) 0)) 197 (upd (Fn 197) (cn 6) 0)) 198 (upd (Fn 198) (cn 6) 0)) 199 (upd (Fn 199) (cn 6) (nI n))) 301 (flat (Fn 301) 200 (cn 6) (fun _ => 0))) 302 (flat (Fn 302) 12 (cn 6) (fun _ => 0))) 303 (flat (Fn 303) 12 (cn 6) (fun _ => 0))) 304 (flat (Fn 304) 12 (cn 6) (fun _ => 0))) 305 (flat (Fn 305) 32 (cn 6) (fun _ => 0)))), ((cn 6), e8X cI QA zz g (adO (adO (adO (adO (adO (adO (adO ad 5 (cn 6) qt) 60 (cn 6) r0) 61 (cn 6) r1) 62 (cn 6) r2) 63 (cn 6) r3) 64 (cn 6) r4) 4 1 (cn 6)) (va_up cn 6 (cn 6 + 1)) In (va_up (va_up (va_up (va_up (va_up (va_up (va_up (va_up (va_up (va_up Fn 195 (upd (Fn 195) (cn 6) 0)) 196 (upd (Fn 196) (cn 6) 0)) 197 (upd (Fn 197) (cn 6) 0)) 198 (upd (Fn 198) (cn 6) 0)) 199 (upd (Fn 199) (cn 6) (nI n))) 301 (flat (Fn 301) 200 (cn 6) (fun _ => 0))) 302 (flat (Fn 302) 12 (cn 6) (fun _ => 0))) 303 (flat (Fn 303) 12 (cn 6) (fun _ => 0))) 304 (flat (Fn 304) 12 (cn 6) (fun _ => 0))) 305 (flat (Fn 305) 32 (cn 6) (fun _ => 0)))), ((cn 6), e9X cI QA zz g (adO (adO (adO (adO (adO (adO (adO ad 5 (cn 6) qt) 60 (cn 6) r0) 61 (cn 6) r1) 62 (cn 6) r2) 63 (cn 6) r3) 64 (cn 6) r4) 4 1 (cn 6)) (va_up cn 6 (cn 6 + 1)) In (va_up (va_up (va_up (va_up (va_up (va_up (va_up (va_up (va_up (va_up Fn 195 (upd (Fn 195) (cn 6) 0)) 196 (upd (Fn 196) (cn 6) 0)) 197 (upd (Fn 197) (cn 6) 0)) 198 (upd (Fn 198) (cn 6) 0)) 199 (upd (Fn 199) (cn 6) (nI n))) 301 (flat (Fn 301) 200 (cn 6) (fun _ => 0))) 302 (flat (Fn 302) 12 (cn 6) (fun _ => 0))) 303 (flat (Fn 303) 12 (cn 6) (fun _ => 0))) 304 (flat (Fn 304) 12 (cn 6) (fun _ => 0))) 305 (flat (Fn 305) 32 (cn 6) (fun _ => 0)))), ((cn 6), e10X cI QA zz g (adO (adO (adO (adO (adO (adO (adO ad 5 (cn 6) qt) 60 (cn 6) r0) 61 (cn 6) r1) 62 (cn 6) r2) 63 (cn 6) r3) 64 (cn 6) r4) 4 1 (cn 6)) (va_up cn 6 (cn 6 + 1)) In (va_up (va_up (va_up (va_up (va_up (va_up (va_up (va_up (va_up (va_up Fn 195 (upd (Fn 195) (cn 6) 0)) 196 (upd (Fn 196) (cn 6) 0)) 197 (upd (Fn 197) (cn 6) 0)) 198 (upd (Fn 198) (cn 6) 0)) 199 (upd (Fn 199) (cn 6) (nI n))) 301 (flat (Fn 301) 200 (cn 6) (fun _ => 0))) 302 (flat (Fn 302) 12 (cn 6) (fun _ => 0))) 303 (flat (Fn 303) 12 (cn 6) (fun _ => 0))) 304 (flat (Fn 304) 12 (cn 6) (fun _ => 0))) 305 (flat (Fn 305) 32 (cn 6) (fun _ => 0)))), ((cn 6), e11X cI QA zz g (adO (adO (adO (adO (adO (adO (adO ad 5 (cn 6) qt) 60 (cn 6) r0) 61 (cn 6) r1) 62 (cn 6) r2) 63 (cn 6) r3) 64 (cn 6) r4) 4 1 (cn 6)) (va_up cn 6 (cn 6 + 1)) In (va_up (va_up (va_up (va_up (va_up (va_up (va_up (va_up (va_up (va_up Fn 195 (upd (Fn 195) (cn 6) 0)) 196 (upd (Fn 196) (cn 6) 0)) 197 (upd (Fn 197) (cn 6) 0)) 198 (upd (Fn 198) (cn 6) 0)) 199 (upd (Fn 199) (cn 6) (nI n))) 301 (flat (Fn 301) 200 (cn 6) (fun _ => 0))) 302 (flat (Fn 302) 12 (cn 6) (fun _ => 0))) 303 (flat (Fn 303) 12 (cn 6) (fun _ => 0))) 304 (flat (Fn 304) 12 (cn 6) (fun _ => 0))) 305 (flat (Fn 305) 32 (cn 6) (fun _ => 0)))), ((cn 6), e12X cI QA zz g (adO (adO (adO (adO (adO (adO (adO ad 5 (cn 6) qt) 60 (cn 6) r0) 61 (cn 6) r1) 62 (cn 6) r2) 63 (cn 6) r3) 64 (cn 6) r4) 4 1 (cn 6)) (va_up cn 6 (cn 6 + 1)) In (va_up (va_up (va_up (va_up (va_up (va_up (va_up (va_up (va_up (va_up Fn 195 (upd (Fn 195) (cn 6) 0)) 196 (upd (Fn 196) (cn 6) 0)) 197 (upd (Fn 197) (cn 6) 0)) 198 (upd (Fn 198) (cn 6) 0)) 199 (upd (Fn 199) (cn 6) (nI n))) 301 (flat (Fn 301) 200 (cn 6) (fun _ => 0))) 302 (flat (Fn 302) 12 (cn 6) (fun _ => 0))) 303 (flat (Fn 303) 12 (cn 6) (fun _ => 0))) 304 (flat (Fn 304) 12 (cn 6) (fun _ => 0))) 305 (flat (Fn 305) 32 (cn 6) (fun _ => 0)))), ((min 1 (cn 10)), e13X cI QA zz g ad cn In Fn), ((min 1 (cn 11)), e14X cI QA zz g ad cn In Fn), ((min 1 (cn 12)), e15X cI QA zz g ad cn In Fn), ((min 1 (cn 13)), e16X cI QA zz g ad cn In Fn), ((min 1 (cn 14)), e17X cI QA zz g ad cn In Fn), ((min 1 (cn 15)), e18X cI QA zz g ad cn In Fn)] [((cn 10), e0X cI QA zz g ad cn In Fn), ((cn 11), e1X cI QA zz g ad cn In Fn), ((cn 12), e2X cI QA zz g ad cn In Fn), ((cn 13), e3X cI QA zz g ad cn In Fn), ((cn 14), e4X cI QA zz g ad cn In Fn), ((cn 15), e5X cI QA zz g ad cn In Fn), ((cn 12), e6X cI QA zz g ad cn In Fn), ((cn 6), e7X cI QA zz g ad cn In Fn), ((cn 6), e8X cI QA zz g ad cn In Fn), ((cn 6), e9X cI QA zz g ad cn In Fn), ((cn 6), e10X cI QA zz g ad cn In Fn), ((cn 6), e11X cI QA zz g ad cn In Fn), ((cn 6), e12X cI QA zz g ad cn In Fn), ((min 1 (cn 10)), e13X cI QA zz g ad cn In Fn), ((min 1 (cn 11)), e14X cI QA zz g ad cn In Fn), ((min 1 (cn 12)), e15X cI QA zz g ad cn In Fn), ((min 1 (cn 13)), e16X cI QA zz g ad cn In Fn), ((min 1 (cn 14)), e17X cI QA zz g ad cn In Fn), ((min 1 (cn 15)), e18X cI QA zz g ad cn In Fn)] from ⟨⟨rfl, fun k hk => rfl⟩, ⟨rfl, fun k hk => rfl⟩, ⟨rfl, fun k hk => rfl⟩, ⟨rfl, fun k hk => rfl⟩, ⟨rfl, fun k hk => rfl⟩, ⟨rfl, fun k hk => rfl⟩, ⟨rfl, fun k hk => rfl⟩, ⟨rfl, ci_7⟩, ⟨rfl, ci_8⟩, ⟨rfl, ci_9⟩, ⟨rfl, ci_10⟩, ⟨rfl, ci_11⟩, ⟨rfl, ci_12⟩, ⟨rfl, fun k hk => rfl⟩, ⟨rfl, fun k hk => rfl⟩, ⟨rfl, fun k hk => rfl⟩, ⟨rfl, fun k hk => rfl⟩, ⟨rfl, fun k hk => rfl⟩, ⟨rfl, fun k hk => rfl⟩, trivial⟩)
  rw [a1, List.append_assoc]
  refine List.Perm.append_left _ ?_
  refine List.Perm.symm ?_
  rw [b0]
  refine (((((p0.trans (p1.append_right _)).trans ((p2.append_right _).append_right _)).trans (((p3.append_right _).append_right _).append_right _)).trans ((((p4.append_right _).append_right _).append_right _).append_right _)).trans (((((p5.append_right _).append_right _).append_right _).append_right _).append_right _)).trans ?_
  rw [b1, a5_0, a5_1, a5_2, a5_3, a5_4, a5_5]
  simp only [List.append_assoc, List.cons_append, List.nil_append]
  exact List.Perm.append_left _ (List.reverse_perm ([(qt, .inr (10, [.ref r0, .ref r1, .ref r2, .ref r3, .ref r4, .int 0, .int 0, .int 0, .int 0])), (r0, .inl (cI, n, .inl (fun _ => 0))), (r1, .inl (cI, 12, .inl (fun _ => 0))), (r2, .inl (cI, 12, .inl (fun _ => 0))), (r3, .inl (cI, 12, .inl (fun _ => 0))), (r4, .inl (cI, 32, .inl (fun _ => 0)))] : va_W))
theorem xR42 {cI QA : ClassId} {zz : Nat} {g : Nat → Nat} {ad : Nat → Nat → Nat} {cn : Nat → Nat} {In : Nat → Int32} {Fn : Nat → Nat → Int32} : (wX cI QA zz g ad cn In Fn).set 3 (g 6, .inr (6, [.ref (g 40), .ref (ad 5 (ad 4 1)), .int (In 30), .int (nI (cn 31)), .int (nI (cn 32)), .int (In 33)])) = wX cI QA zz g (adO ad 4 2 (g 40)) cn In Fn := by
  simp only [wX, fxX]
  simp [adO]
  exact (famW_cg (show famE [((cn 10), e0X cI QA zz g (adO ad 4 2 (g 40)) cn In Fn), ((cn 11), e1X cI QA zz g (adO ad 4 2 (g 40)) cn In Fn), ((cn 12), e2X cI QA zz g (adO ad 4 2 (g 40)) cn In Fn), ((cn 13), e3X cI QA zz g (adO ad 4 2 (g 40)) cn In Fn), ((cn 14), e4X cI QA zz g (adO ad 4 2 (g 40)) cn In Fn), ((cn 15), e5X cI QA zz g (adO ad 4 2 (g 40)) cn In Fn), ((cn 12), e6X cI QA zz g (adO ad 4 2 (g 40)) cn In Fn), ((cn 6), e7X cI QA zz g (adO ad 4 2 (g 40)) cn In Fn), ((cn 6), e8X cI QA zz g (adO ad 4 2 (g 40)) cn In Fn), ((cn 6), e9X cI QA zz g (adO ad 4 2 (g 40)) cn In Fn), ((cn 6), e10X cI QA zz g (adO ad 4 2 (g 40)) cn In Fn), ((cn 6), e11X cI QA zz g (adO ad 4 2 (g 40)) cn In Fn), ((cn 6), e12X cI QA zz g (adO ad 4 2 (g 40)) cn In Fn), ((min 1 (cn 10)), e13X cI QA zz g (adO ad 4 2 (g 40)) cn In Fn), ((min 1 (cn 11)), e14X cI QA zz g (adO ad 4 2 (g 40)) cn In Fn), ((min 1 (cn 12)), e15X cI QA zz g (adO ad 4 2 (g 40)) cn In Fn), ((min 1 (cn 13)), e16X cI QA zz g (adO ad 4 2 (g 40)) cn In Fn), ((min 1 (cn 14)), e17X cI QA zz g (adO ad 4 2 (g 40)) cn In Fn), ((min 1 (cn 15)), e18X cI QA zz g (adO ad 4 2 (g 40)) cn In Fn)] [((cn 10), e0X cI QA zz g ad cn In Fn), ((cn 11), e1X cI QA zz g ad cn In Fn), ((cn 12), e2X cI QA zz g ad cn In Fn), ((cn 13), e3X cI QA zz g ad cn In Fn), ((cn 14), e4X cI QA zz g ad cn In Fn), ((cn 15), e5X cI QA zz g ad cn In Fn), ((cn 12), e6X cI QA zz g ad cn In Fn), ((cn 6), e7X cI QA zz g ad cn In Fn), ((cn 6), e8X cI QA zz g ad cn In Fn), ((cn 6), e9X cI QA zz g ad cn In Fn), ((cn 6), e10X cI QA zz g ad cn In Fn), ((cn 6), e11X cI QA zz g ad cn In Fn), ((cn 6), e12X cI QA zz g ad cn In Fn), ((min 1 (cn 10)), e13X cI QA zz g ad cn In Fn), ((min 1 (cn 11)), e14X cI QA zz g ad cn In Fn), ((min 1 (cn 12)), e15X cI QA zz g ad cn In Fn), ((min 1 (cn 13)), e16X cI QA zz g ad cn In Fn), ((min 1 (cn 14)), e17X cI QA zz g ad cn In Fn), ((min 1 (cn 15)), e18X cI QA zz g ad cn In Fn)] from ⟨⟨rfl, fun k hk => by simp [e0X, adO]⟩, ⟨rfl, fun k hk => by simp [e1X, adO]⟩, ⟨rfl, fun k hk => by simp [e2X, adO]⟩, ⟨rfl, fun k hk => by simp [e3X, adO]⟩, ⟨rfl, fun k hk => by simp [e4X, adO]⟩, ⟨rfl, fun k hk => by simp [e5X, adO]⟩, ⟨rfl, fun k hk => by simp [e6X, adO]⟩, ⟨rfl, fun k hk => by simp [e7X, adO]⟩, ⟨rfl, fun k hk => by simp [e8X, adO]⟩, ⟨rfl, fun k hk => by simp [e9X, adO]⟩, ⟨rfl, fun k hk => by simp [e10X, adO]⟩, ⟨rfl, fun k hk => by simp [e11X, adO]⟩, ⟨rfl, fun k hk => by simp [e12X, adO]⟩, ⟨rfl, fun k hk => by simp [e13X, adO]⟩, ⟨rfl, fun k hk => by simp [e14X, adO]⟩, ⟨rfl, fun k hk => by simp [e15X, adO]⟩, ⟨rfl, fun k hk => by simp [e16X, adO]⟩, ⟨rfl, fun k hk => by simp [e17X, adO]⟩, ⟨rfl, fun k hk => by simp [e18X, adO]⟩, trivial⟩)).symm
theorem xH40 {cI QA : ClassId} {zz : Nat} {g : Nat → Nat} {ad : Nat → Nat → Nat} {cn : Nat → Nat} {In : Nat → Int32} {Fn : Nat → Nat → Int32} {T : Nat} : (wX cI QA zz g ad cn In Fn).set 0 (g 0, .inr (12, [.int (nI (cn 0)), .int (nI (cn 1)), .int (nI (cn 2)), .int (nI (cn 5)), .ref (ad 5 T), .ref (g 5), .ref (g 6), .ref (g 7), .ref (g 8), .ref (g 9), .ref (g 10), .ref (g 11), .ref (g 12), .ref (g 13), .ref (g 14), .ref (g 15)])) = wX cI QA zz g (adO ad 4 0 T) cn In Fn := by
  simp only [wX, fxX]
  simp [adO]
  exact (famW_cg (show famE [((cn 10), e0X cI QA zz g (adO ad 4 0 T) cn In Fn), ((cn 11), e1X cI QA zz g (adO ad 4 0 T) cn In Fn), ((cn 12), e2X cI QA zz g (adO ad 4 0 T) cn In Fn), ((cn 13), e3X cI QA zz g (adO ad 4 0 T) cn In Fn), ((cn 14), e4X cI QA zz g (adO ad 4 0 T) cn In Fn), ((cn 15), e5X cI QA zz g (adO ad 4 0 T) cn In Fn), ((cn 12), e6X cI QA zz g (adO ad 4 0 T) cn In Fn), ((cn 6), e7X cI QA zz g (adO ad 4 0 T) cn In Fn), ((cn 6), e8X cI QA zz g (adO ad 4 0 T) cn In Fn), ((cn 6), e9X cI QA zz g (adO ad 4 0 T) cn In Fn), ((cn 6), e10X cI QA zz g (adO ad 4 0 T) cn In Fn), ((cn 6), e11X cI QA zz g (adO ad 4 0 T) cn In Fn), ((cn 6), e12X cI QA zz g (adO ad 4 0 T) cn In Fn), ((min 1 (cn 10)), e13X cI QA zz g (adO ad 4 0 T) cn In Fn), ((min 1 (cn 11)), e14X cI QA zz g (adO ad 4 0 T) cn In Fn), ((min 1 (cn 12)), e15X cI QA zz g (adO ad 4 0 T) cn In Fn), ((min 1 (cn 13)), e16X cI QA zz g (adO ad 4 0 T) cn In Fn), ((min 1 (cn 14)), e17X cI QA zz g (adO ad 4 0 T) cn In Fn), ((min 1 (cn 15)), e18X cI QA zz g (adO ad 4 0 T) cn In Fn)] [((cn 10), e0X cI QA zz g ad cn In Fn), ((cn 11), e1X cI QA zz g ad cn In Fn), ((cn 12), e2X cI QA zz g ad cn In Fn), ((cn 13), e3X cI QA zz g ad cn In Fn), ((cn 14), e4X cI QA zz g ad cn In Fn), ((cn 15), e5X cI QA zz g ad cn In Fn), ((cn 12), e6X cI QA zz g ad cn In Fn), ((cn 6), e7X cI QA zz g ad cn In Fn), ((cn 6), e8X cI QA zz g ad cn In Fn), ((cn 6), e9X cI QA zz g ad cn In Fn), ((cn 6), e10X cI QA zz g ad cn In Fn), ((cn 6), e11X cI QA zz g ad cn In Fn), ((cn 6), e12X cI QA zz g ad cn In Fn), ((min 1 (cn 10)), e13X cI QA zz g ad cn In Fn), ((min 1 (cn 11)), e14X cI QA zz g ad cn In Fn), ((min 1 (cn 12)), e15X cI QA zz g ad cn In Fn), ((min 1 (cn 13)), e16X cI QA zz g ad cn In Fn), ((min 1 (cn 14)), e17X cI QA zz g ad cn In Fn), ((min 1 (cn 15)), e18X cI QA zz g ad cn In Fn)] from ⟨⟨rfl, fun k hk => by simp [e0X, adO]⟩, ⟨rfl, fun k hk => by simp [e1X, adO]⟩, ⟨rfl, fun k hk => by simp [e2X, adO]⟩, ⟨rfl, fun k hk => by simp [e3X, adO]⟩, ⟨rfl, fun k hk => by simp [e4X, adO]⟩, ⟨rfl, fun k hk => by simp [e5X, adO]⟩, ⟨rfl, fun k hk => by simp [e6X, adO]⟩, ⟨rfl, fun k hk => by simp [e7X, adO]⟩, ⟨rfl, fun k hk => by simp [e8X, adO]⟩, ⟨rfl, fun k hk => by simp [e9X, adO]⟩, ⟨rfl, fun k hk => by simp [e10X, adO]⟩, ⟨rfl, fun k hk => by simp [e11X, adO]⟩, ⟨rfl, fun k hk => by simp [e12X, adO]⟩, ⟨rfl, fun k hk => by simp [e13X, adO]⟩, ⟨rfl, fun k hk => by simp [e14X, adO]⟩, ⟨rfl, fun k hk => by simp [e15X, adO]⟩, ⟨rfl, fun k hk => by simp [e16X, adO]⟩, ⟨rfl, fun k hk => by simp [e17X, adO]⟩, ⟨rfl, fun k hk => by simp [e18X, adO]⟩, trivial⟩)).symm
theorem xK3 {cI QA : ClassId} {zz : Nat} {g : Nat → Nat} {ad : Nat → Nat → Nat} {cn : Nat → Nat} {In : Nat → Int32} {Fn : Nat → Nat → Int32} {k T : Nat} (hk : k < cn 10) : (wX cI QA zz g ad cn In Fn).set ((fxX cI QA zz g ad cn In Fn).length + (famO (fsX cI QA zz g ad cn In Fn) 0 + k)) (ad 10 k, .inr (2, [.int (Fn 100 k), .int (Fn 101 k), .int (Fn 102 k), .int (Fn 103 k), .int (Fn 104 k), .int (Fn 105 k), .int (Fn 106 k), .int (Fn 107 k), .int (Fn 108 k), .int (Fn 109 k), .ref (ad 5 T)])) = wX cI QA zz g (adO ad 3 k T) cn In Fn := by
  have e1 : fxX cI QA zz g (adO ad 3 k T) cn In Fn = fxX cI QA zz g ad cn In Fn := by simp [fxX, adO]
  have h : e0X cI QA zz g (adO ad 3 k T) cn In Fn = va_up (e0X cI QA zz g ad cn In Fn) k (ad 10 k, .inr (2, [.int (Fn 100 k), .int (Fn 101 k), .int (Fn 102 k), .int (Fn 103 k), .int (Fn 104 k), .int (Fn 105 k), .int (Fn 106 k), .int (Fn 107 k), .int (Fn 108 k), .int (Fn 109 k), .ref (ad 5 T)])) := funext fun j => by
    by_cases q : j = k
    · subst q; simp [e0X, va_up, adO]
    · simp [e0X, va_up, adO, q]
  unfold wX
  rw [fxW_set (p := (cn 10, e0X cI QA zz g ad cn In Fn)) rfl hk, e1]
  refine congrArg (fun w => fxX cI QA zz g ad cn In Fn ++ w) ?_
  exact (famW_cg (show famE [((cn 10), e0X cI QA zz g (adO ad 3 k T) cn In Fn), ((cn 11), e1X cI QA zz g (adO ad 3 k T) cn In Fn), ((cn 12), e2X cI QA zz g (adO ad 3 k T) cn In Fn), ((cn 13), e3X cI QA zz g (adO ad 3 k T) cn In Fn), ((cn 14), e4X cI QA zz g (adO ad 3 k T) cn In Fn), ((cn 15), e5X cI QA zz g (adO ad 3 k T) cn In Fn), ((cn 12), e6X cI QA zz g (adO ad 3 k T) cn In Fn), ((cn 6), e7X cI QA zz g (adO ad 3 k T) cn In Fn), ((cn 6), e8X cI QA zz g (adO ad 3 k T) cn In Fn), ((cn 6), e9X cI QA zz g (adO ad 3 k T) cn In Fn), ((cn 6), e10X cI QA zz g (adO ad 3 k T) cn In Fn), ((cn 6), e11X cI QA zz g (adO ad 3 k T) cn In Fn), ((cn 6), e12X cI QA zz g (adO ad 3 k T) cn In Fn), ((min 1 (cn 10)), e13X cI QA zz g (adO ad 3 k T) cn In Fn), ((min 1 (cn 11)), e14X cI QA zz g (adO ad 3 k T) cn In Fn), ((min 1 (cn 12)), e15X cI QA zz g (adO ad 3 k T) cn In Fn), ((min 1 (cn 13)), e16X cI QA zz g (adO ad 3 k T) cn In Fn), ((min 1 (cn 14)), e17X cI QA zz g (adO ad 3 k T) cn In Fn), ((min 1 (cn 15)), e18X cI QA zz g (adO ad 3 k T) cn In Fn)] [((cn 10), va_up (e0X cI QA zz g ad cn In Fn) k (ad 10 k, .inr (2, [.int (Fn 100 k), .int (Fn 101 k), .int (Fn 102 k), .int (Fn 103 k), .int (Fn 104 k), .int (Fn 105 k), .int (Fn 106 k), .int (Fn 107 k), .int (Fn 108 k), .int (Fn 109 k), .ref (ad 5 T)]))), ((cn 11), e1X cI QA zz g ad cn In Fn), ((cn 12), e2X cI QA zz g ad cn In Fn), ((cn 13), e3X cI QA zz g ad cn In Fn), ((cn 14), e4X cI QA zz g ad cn In Fn), ((cn 15), e5X cI QA zz g ad cn In Fn), ((cn 12), e6X cI QA zz g ad cn In Fn), ((cn 6), e7X cI QA zz g ad cn In Fn), ((cn 6), e8X cI QA zz g ad cn In Fn), ((cn 6), e9X cI QA zz g ad cn In Fn), ((cn 6), e10X cI QA zz g ad cn In Fn), ((cn 6), e11X cI QA zz g ad cn In Fn), ((cn 6), e12X cI QA zz g ad cn In Fn), ((min 1 (cn 10)), e13X cI QA zz g ad cn In Fn), ((min 1 (cn 11)), e14X cI QA zz g ad cn In Fn), ((min 1 (cn 12)), e15X cI QA zz g ad cn In Fn), ((min 1 (cn 13)), e16X cI QA zz g ad cn In Fn), ((min 1 (cn 14)), e17X cI QA zz g ad cn In Fn), ((min 1 (cn 15)), e18X cI QA zz g ad cn In Fn)] from ⟨⟨rfl, fun i hi => congrFun h i⟩, ⟨rfl, fun i hi => by simp [e1X, adO]⟩, ⟨rfl, fun i hi => by simp [e2X, adO]⟩, ⟨rfl, fun i hi => by simp [e3X, adO]⟩, ⟨rfl, fun i hi => by simp [e4X, adO]⟩, ⟨rfl, fun i hi => by simp [e5X, adO]⟩, ⟨rfl, fun i hi => by simp [e6X, adO]⟩, ⟨rfl, fun i hi => by simp [e7X, adO]⟩, ⟨rfl, fun i hi => by simp [e8X, adO]⟩, ⟨rfl, fun i hi => by simp [e9X, adO]⟩, ⟨rfl, fun i hi => by simp [e10X, adO]⟩, ⟨rfl, fun i hi => by simp [e11X, adO]⟩, ⟨rfl, fun i hi => by simp [e12X, adO]⟩, ⟨rfl, fun i hi => by simp [e13X, adO]⟩, ⟨rfl, fun i hi => by simp [e14X, adO]⟩, ⟨rfl, fun i hi => by simp [e15X, adO]⟩, ⟨rfl, fun i hi => by simp [e16X, adO]⟩, ⟨rfl, fun i hi => by simp [e17X, adO]⟩, ⟨rfl, fun i hi => by simp [e18X, adO]⟩, trivial⟩)).symm

set_option maxRecDepth 100000 in
theorem gf_RX5_27 {p : Program} {l : Launch} {e : Env} {R : Room} {s : State} {m : MethodId} {args : Array Value} {below : List Frame} {meth : Method} {c : Code} {H : Heap} {locs : List Loc} {cells slots : Nat} {Q : State → Prop} {cc : ByteArray} {nL pc : Nat} {D : va_G} {cI cB cZ : ClassId} {ws : va_W} {rest : List Value} {ls : Array Slot} {a : Nat} {fs : List Value} {v : Value} (S : SF p m c cc nL s args RX5) (hK : KK D cI cB cZ s) (hP : va_P D vwCl ws H) (q0 : Nat) (he : ws[q0]? = some (a, .inr (6, fs))) (hv : fs[2]? = some v) (hdg : decode cc pc = .ok (.getfield 27, 3)) (kk : W p l e R s m args below meth c H locs cells slots Q (F0 m (pc + 3) ls (v :: rest))) : W p l e R s m args below meth c H locs cells slots Q (F0 m pc ls (.ref a :: rest)) :=
  va_get (C := RX5) (T := TX5) (N := 6) S.1 S.2.1 S.2.2.2.2 hin_RX5 S.2.2.2.1 hK.1 hP q0 he rfl 2 (by decide) (S.2.2.2.2 _ (wk1_8 3 rfl rfl)) (fun _ h9 => h9) hv hdg kk
set_option maxRecDepth 100000 in
theorem gf_RX5_50 {p : Program} {l : Launch} {e : Env} {R : Room} {s : State} {m : MethodId} {args : Array Value} {below : List Frame} {meth : Method} {c : Code} {H : Heap} {locs : List Loc} {cells slots : Nat} {Q : State → Prop} {cc : ByteArray} {nL pc : Nat} {D : va_G} {cI cB cZ : ClassId} {ws : va_W} {rest : List Value} {ls : Array Slot} {a : Nat} {fs : List Value} {v : Value} (S : SF p m c cc nL s args RX5) (hK : KK D cI cB cZ s) (hP : va_P D vwCl ws H) (q0 : Nat) (he : ws[q0]? = some (a, .inr (10, fs))) (hv : fs[8]? = some v) (hdg : decode cc pc = .ok (.getfield 50, 3)) (kk : W p l e R s m args below meth c H locs cells slots Q (F0 m (pc + 3) ls (v :: rest))) : W p l e R s m args below meth c H locs cells slots Q (F0 m pc ls (.ref a :: rest)) :=
  va_get (C := RX9) (T := TX9) (N := 9) S.1 S.2.1 S.2.2.2.2 hin_RX9 S.2.2.2.1 hK.1 hP q0 he rfl 8 (by decide) (S.2.2.2.2 _ (wk1_4 5 rfl rfl)) (fun _ h9 => h9) hv hdg kk
set_option maxRecDepth 100000 in
theorem kV_RX5_53 : CalV RX5 53 yX9_startSum cX9_startSum 1 none 0 := ⟨⟨wk3_5 11 rfl rfl, wk3_6 0 rfl rfl, wk3_6 1 rfl rfl, wk1_0 2 rfl rfl, wk3_6 2 rfl rfl⟩, ⟨nmh_10.1, nmh_10.2, pd_2⟩⟩
set_option maxRecDepth 100000 in
theorem kV_RX5_59 : CalV RX5 59 yX9_startCondition cX9_startCondition 1 none 0 := ⟨⟨wk3_15 1 rfl rfl, wk3_15 2 rfl rfl, wk3_15 3 rfl rfl, wk1_0 2 rfl rfl, wk3_15 4 rfl rfl⟩, ⟨nmh_10.1, nmh_10.2, pd_2⟩⟩
set_option maxRecDepth 100000 in
theorem kV_RX5_69 : CalV RX5 69 yX9_endClause cX9_endClause 1 none 0 := ⟨⟨wk3_17 3 rfl rfl, wk3_17 4 rfl rfl, wk3_17 5 rfl rfl, wk1_0 2 rfl rfl, wk3_17 6 rfl rfl⟩, ⟨nmh_10.1, nmh_10.2, pd_2⟩⟩
set_option maxRecDepth 100000 in
theorem gf_RX5_24 {p : Program} {l : Launch} {e : Env} {R : Room} {s : State} {m : MethodId} {args : Array Value} {below : List Frame} {meth : Method} {c : Code} {H : Heap} {locs : List Loc} {cells slots : Nat} {Q : State → Prop} {cc : ByteArray} {nL pc : Nat} {D : va_G} {cI cB cZ : ClassId} {ws : va_W} {rest : List Value} {ls : Array Slot} {a : Nat} {fs : List Value} {v : Value} (S : SF p m c cc nL s args RX5) (hK : KK D cI cB cZ s) (hP : va_P D vwCl ws H) (q0 : Nat) (he : ws[q0]? = some (a, .inr (9, fs))) (hv : fs[0]? = some v) (hdg : decode cc pc = .ok (.getfield 24, 3)) (kk : W p l e R s m args below meth c H locs cells slots Q (F0 m (pc + 3) ls (v :: rest))) : W p l e R s m args below meth c H locs cells slots Q (F0 m pc ls (.ref a :: rest)) :=
  va_get (C := RX8) (T := TX8) (N := 2) S.1 S.2.1 S.2.2.2.2 hin_RX8 S.2.2.2.1 hK.1 hP q0 he rfl 0 (by decide) (S.2.2.2.2 _ (wk1_6 10 rfl rfl)) (fun _ h9 => h9) hv hdg kk
set_option maxRecDepth 100000 in
theorem pf_RX5_9 {p : Program} {l : Launch} {e : Env} {R : Room} {s : State} {m : MethodId} {args : Array Value} {below : List Frame} {meth : Method} {c : Code} {H : Heap} {locs : List Loc} {cells slots : Nat} {Q : State → Prop} {cc : ByteArray} {nL pc : Nat} {D : va_G} {cI cB cZ : ClassId} {ws : va_W} {rest : List Value} {ls : Array Slot} {a : Nat} {fs : List Value} {v : Value} {A : Nat → Prop} {H0 : Heap} (S : SF p m c cc nL s args RX5) (hK : KK D cI cB cZ s) (hP : va_P D vwCl ws H) (hD : va_D A ws) (hS : va_S A H0 H locs) (q0 : Nat) (he : ws[q0]? = some (a, .inr (6, fs))) (hl : 0 < fs.length) (hn : narrow (tyX5 0) v = v) (hfit : fits (tyX5 0) v = true) (hdg : decode cc pc = .ok (.putfield 9, 3)) (kk : ∀ (H1 : Heap) (locs1 : List Loc), va_P D vwCl (ws.set q0 (a, .inr (6, fs.set 0 v))) H1 → va_D A (ws.set q0 (a, .inr (6, fs.set 0 v))) → va_S A H0 H1 locs1 → W p l e R s m args below meth c H1 locs1 cells slots Q (F0 m (pc + 3) ls rest)) : W p l e R s m args below meth c H locs cells slots Q (F0 m pc ls (v :: .ref a :: rest)) :=
  va_put (C := RX5) (T := TX5) (N := 6) S.1 S.2.1 S.2.2.2.2 hin_RX5 tyX5 tyX5_ok nmX5 S.2.2.2.1 hK.1 hP hD hS q0 he rfl 0 (by decide) (S.2.2.2.2 _ (wk1_8 1 rfl rfl)) (fun _ h9 => h9) rfl (tyX5_ok 0 (by decide)) hn hfit hl hdg kk
set_option maxRecDepth 100000 in
theorem kI_RX5_17 : CalI RX5 17 yX9_init cX9_init 2 1 := ⟨⟨wk1_8 0 rfl rfl, wk1_3 2 rfl rfl, wk1_0 2 rfl rfl, wk1_3 3 rfl rfl⟩, rfl, ⟨nmh_10.1, nmh_10.2, pd_14⟩⟩
set_option maxRecDepth 100000 in
theorem pf_RX5_20 {p : Program} {l : Launch} {e : Env} {R : Room} {s : State} {m : MethodId} {args : Array Value} {below : List Frame} {meth : Method} {c : Code} {H : Heap} {locs : List Loc} {cells slots : Nat} {Q : State → Prop} {cc : ByteArray} {nL pc : Nat} {D : va_G} {cI cB cZ : ClassId} {ws : va_W} {rest : List Value} {ls : Array Slot} {a : Nat} {fs : List Value} {v : Value} {A : Nat → Prop} {H0 : Heap} (S : SF p m c cc nL s args RX5) (hK : KK D cI cB cZ s) (hP : va_P D vwCl ws H) (hD : va_D A ws) (hS : va_S A H0 H locs) (q0 : Nat) (he : ws[q0]? = some (a, .inr (6, fs))) (hl : 1 < fs.length) (hn : narrow (tyX5 1) v = v) (hfit : fits (tyX5 1) v = true) (hdg : decode cc pc = .ok (.putfield 20, 3)) (kk : ∀ (H1 : Heap) (locs1 : List Loc), va_P D vwCl (ws.set q0 (a, .inr (6, fs.set 1 v))) H1 → va_D A (ws.set q0 (a, .inr (6, fs.set 1 v))) → va_S A H0 H1 locs1 → W p l e R s m args below meth c H1 locs1 cells slots Q (F0 m (pc + 3) ls rest)) : W p l e R s m args below meth c H locs cells slots Q (F0 m pc ls (v :: .ref a :: rest)) :=
  va_put (C := RX5) (T := TX5) (N := 6) S.1 S.2.1 S.2.2.2.2 hin_RX5 tyX5 tyX5_ok nmX5 S.2.2.2.1 hK.1 hP hD hS q0 he rfl 1 (by decide) (S.2.2.2.2 _ (wk1_8 2 rfl rfl)) (fun _ h9 => h9) rfl (tyX5_ok 1 (by decide)) hn hfit hl hdg kk
set_option maxRecDepth 100000 in
theorem pf_RX5_27 {p : Program} {l : Launch} {e : Env} {R : Room} {s : State} {m : MethodId} {args : Array Value} {below : List Frame} {meth : Method} {c : Code} {H : Heap} {locs : List Loc} {cells slots : Nat} {Q : State → Prop} {cc : ByteArray} {nL pc : Nat} {D : va_G} {cI cB cZ : ClassId} {ws : va_W} {rest : List Value} {ls : Array Slot} {a : Nat} {fs : List Value} {v : Value} {A : Nat → Prop} {H0 : Heap} (S : SF p m c cc nL s args RX5) (hK : KK D cI cB cZ s) (hP : va_P D vwCl ws H) (hD : va_D A ws) (hS : va_S A H0 H locs) (q0 : Nat) (he : ws[q0]? = some (a, .inr (6, fs))) (hl : 2 < fs.length) (hn : narrow (tyX5 2) v = v) (hfit : fits (tyX5 2) v = true) (hdg : decode cc pc = .ok (.putfield 27, 3)) (kk : ∀ (H1 : Heap) (locs1 : List Loc), va_P D vwCl (ws.set q0 (a, .inr (6, fs.set 2 v))) H1 → va_D A (ws.set q0 (a, .inr (6, fs.set 2 v))) → va_S A H0 H1 locs1 → W p l e R s m args below meth c H1 locs1 cells slots Q (F0 m (pc + 3) ls rest)) : W p l e R s m args below meth c H locs cells slots Q (F0 m pc ls (v :: .ref a :: rest)) :=
  va_put (C := RX5) (T := TX5) (N := 6) S.1 S.2.1 S.2.2.2.2 hin_RX5 tyX5 tyX5_ok nmX5 S.2.2.2.1 hK.1 hP hD hS q0 he rfl 2 (by decide) (S.2.2.2.2 _ (wk1_8 3 rfl rfl)) (fun _ h9 => h9) rfl (tyX5_ok 2 (by decide)) hn hfit hl hdg kk
set_option maxRecDepth 100000 in
theorem kV_RX5_40 : CalV RX5 40 yX5_readClause cX5_readClause 1 none 0 := ⟨⟨wk3_4 11 rfl rfl, wk3_5 1 rfl rfl, wT_sel 6 _ rfl rfl rfl, wk1_0 5 rfl rfl, wk3_5 2 rfl rfl⟩, ⟨nmh_6.1, nmh_6.2, pd_2⟩⟩
set_option maxRecDepth 100000 in
theorem kV_RX11_155 : CalV RX11 155 yX11_isText cX11_isText 2 (some .boolean) 1 := ⟨⟨wk3_4 3 rfl rfl, wk3_4 5 rfl rfl, wT_sel 5 _ rfl rfl rfl, wk1_0 1 rfl rfl, wk3_4 6 rfl rfl⟩, ⟨nmh_0.1, nmh_0.2, pd_15⟩⟩
set_option maxRecDepth 100000 in
theorem gf_RX11_28 {p : Program} {l : Launch} {e : Env} {R : Room} {s : State} {m : MethodId} {args : Array Value} {below : List Frame} {meth : Method} {c : Code} {H : Heap} {locs : List Loc} {cells slots : Nat} {Q : State → Prop} {cc : ByteArray} {nL pc : Nat} {D : va_G} {cI cB cZ : ClassId} {ws : va_W} {rest : List Value} {ls : Array Slot} {a : Nat} {fs : List Value} {v : Value} (S : SF p m c cc nL s args RX11) (hK : KK D cI cB cZ s) (hP : va_P D vwCl ws H) (q0 : Nat) (he : ws[q0]? = some (a, .inr (12, fs))) (hv : fs[6]? = some v) (hdg : decode cc pc = .ok (.getfield 28, 3)) (kk : W p l e R s m args below meth c H locs cells slots Q (F0 m (pc + 3) ls (v :: rest))) : W p l e R s m args below meth c H locs cells slots Q (F0 m pc ls (.ref a :: rest)) :=
  va_get (C := RX11) (T := TX11) (N := 16) S.1 S.2.1 S.2.2.2.2 hin_RX11 S.2.2.2.1 hK.1 hP q0 he rfl 6 (by decide) (S.2.2.2.2 _ (wk2_0 2 rfl rfl)) (fun _ h9 => h9) hv hdg kk
set_option maxRecDepth 100000 in
theorem kV_RX11_158 : CalV RX11 158 yX5_read cX5_read 4 (some (.object "OilHome$Text")) 3 := ⟨⟨wk3_4 7 rfl rfl, wk3_4 8 rfl rfl, wk3_4 9 rfl rfl, wk1_0 5 rfl rfl, wk3_4 10 rfl rfl⟩, ⟨nmh_6.1, nmh_6.2, pd_55⟩⟩
set_option maxRecDepth 100000 in
theorem gf_RX11_165 {p : Program} {l : Launch} {e : Env} {R : Room} {s : State} {m : MethodId} {args : Array Value} {below : List Frame} {meth : Method} {c : Code} {H : Heap} {locs : List Loc} {cells slots : Nat} {Q : State → Prop} {cc : ByteArray} {nL pc : Nat} {D : va_G} {cI cB cZ : ClassId} {ws : va_W} {rest : List Value} {ls : Array Slot} {a : Nat} {fs : List Value} {v : Value} (S : SF p m c cc nL s args RX11) (hK : KK D cI cB cZ s) (hP : va_P D vwCl ws H) (q0 : Nat) (he : ws[q0]? = some (a, .inr (6, fs))) (hv : fs[5]? = some v) (hdg : decode cc pc = .ok (.getfield 165, 3)) (kk : W p l e R s m args below meth c H locs cells slots Q (F0 m (pc + 3) ls (v :: rest))) : W p l e R s m args below meth c H locs cells slots Q (F0 m pc ls (.ref a :: rest)) :=
  va_get (C := RX5) (T := TX5) (N := 6) S.1 S.2.1 S.2.2.2.2 hin_RX5 S.2.2.2.1 hK.1 hP q0 he rfl 5 (by decide) (S.2.2.2.2 _ (wk1_8 7 rfl rfl)) (fun _ h9 => h9) hv hdg kk
set_option maxRecDepth 100000 in
theorem pf_RX11_168 {p : Program} {l : Launch} {e : Env} {R : Room} {s : State} {m : MethodId} {args : Array Value} {below : List Frame} {meth : Method} {c : Code} {H : Heap} {locs : List Loc} {cells slots : Nat} {Q : State → Prop} {cc : ByteArray} {nL pc : Nat} {D : va_G} {cI cB cZ : ClassId} {ws : va_W} {rest : List Value} {ls : Array Slot} {a : Nat} {fs : List Value} {v : Value} {A : Nat → Prop} {H0 : Heap} (S : SF p m c cc nL s args RX11) (hK : KK D cI cB cZ s) (hP : va_P D vwCl ws H) (hD : va_D A ws) (hS : va_S A H0 H locs) (q0 : Nat) (he : ws[q0]? = some (a, .inr (2, fs))) (hl : 10 < fs.length) (hn : narrow (tyX1 10) v = v) (hfit : fits (tyX1 10) v = true) (hdg : decode cc pc = .ok (.putfield 168, 3)) (kk : ∀ (H1 : Heap) (locs1 : List Loc), va_P D vwCl (ws.set q0 (a, .inr (2, fs.set 10 v))) H1 → va_D A (ws.set q0 (a, .inr (2, fs.set 10 v))) → va_S A H0 H1 locs1 → W p l e R s m args below meth c H1 locs1 cells slots Q (F0 m (pc + 3) ls rest)) : W p l e R s m args below meth c H locs cells slots Q (F0 m pc ls (v :: .ref a :: rest)) :=
  va_put (C := RX1) (T := TX1) (N := 11) S.1 S.2.1 S.2.2.2.2 hin_RX1 tyX1 tyX1_ok nmX1 S.2.2.2.1 hK.1 hP hD hS q0 he rfl 10 (by decide) (S.2.2.2.2 _ (wk2_7 6 rfl rfl)) (fun _ h9 => h9) rfl (tyX1_ok 10 (by decide)) hn hfit hl hdg kk
set_option maxRecDepth 100000 in
theorem pf_RX11_12 {p : Program} {l : Launch} {e : Env} {R : Room} {s : State} {m : MethodId} {args : Array Value} {below : List Frame} {meth : Method} {c : Code} {H : Heap} {locs : List Loc} {cells slots : Nat} {Q : State → Prop} {cc : ByteArray} {nL pc : Nat} {D : va_G} {cI cB cZ : ClassId} {ws : va_W} {rest : List Value} {ls : Array Slot} {a : Nat} {fs : List Value} {v : Value} {A : Nat → Prop} {H0 : Heap} (S : SF p m c cc nL s args RX11) (hK : KK D cI cB cZ s) (hP : va_P D vwCl ws H) (hD : va_D A ws) (hS : va_S A H0 H locs) (q0 : Nat) (he : ws[q0]? = some (a, .inr (12, fs))) (hl : 4 < fs.length) (hn : narrow (tyX11 4) v = v) (hfit : fits (tyX11 4) v = true) (hdg : decode cc pc = .ok (.putfield 12, 3)) (kk : ∀ (H1 : Heap) (locs1 : List Loc), va_P D vwCl (ws.set q0 (a, .inr (12, fs.set 4 v))) H1 → va_D A (ws.set q0 (a, .inr (12, fs.set 4 v))) → va_S A H0 H1 locs1 → W p l e R s m args below meth c H1 locs1 cells slots Q (F0 m (pc + 3) ls rest)) : W p l e R s m args below meth c H locs cells slots Q (F0 m pc ls (v :: .ref a :: rest)) :=
  va_put (C := RX11) (T := TX11) (N := 16) S.1 S.2.1 S.2.2.2.2 hin_RX11 tyX11 tyX11_ok nmX11 S.2.2.2.1 hK.1 hP hD hS q0 he rfl 4 (by decide) (S.2.2.2.2 _ (wk2_0 0 rfl rfl)) (fun _ h9 => h9) rfl (tyX11_ok 4 (by decide)) hn hfit hl hdg kk
noncomputable def sxX5_readClause_98 : List UInt8 := []
noncomputable def sxX5_readClause_97 : List UInt8 := 177 :: sxX5_readClause_98
noncomputable def sxX5_readClause_73 : List UInt8 := 42 :: 16 :: 40 :: 182 :: 0 :: 62 :: 42 :: 4 :: 182 :: 0 :: 66 :: 42 :: 16 :: 41 :: 182 :: 0 :: 62 :: 42 :: 180 :: 0 :: 20 :: 182 :: 0 :: 69 :: sxX5_readClause_97
noncomputable def sxX5_readClause_49 : List UInt8 := 182 :: 0 :: 53 :: 42 :: 180 :: 0 :: 27 :: 16 :: 112 :: 160 :: 0 :: 8 :: 42 :: 3 :: 182 :: 0 :: 56 :: 42 :: 180 :: 0 :: 20 :: 182 :: 0 :: 59 :: sxX5_readClause_73
noncomputable def sxX5_readClause_24 : List UInt8 := 16 :: 12 :: 161 :: 0 :: 9 :: 42 :: 7 :: 182 :: 0 :: 47 :: 177 :: 42 :: 89 :: 180 :: 0 :: 31 :: 4 :: 96 :: 181 :: 0 :: 31 :: 42 :: 180 :: 0 :: 20 :: sxX5_readClause_49
theorem shX5_readClause_0 : cX5_readClause.data.toList.drop 0 = 42 :: 182 :: 0 :: 43 :: 42 :: 180 :: 0 :: 27 :: 159 :: 0 :: 9 :: 42 :: 4 :: 182 :: 0 :: 47 :: 177 :: 42 :: 180 :: 0 :: 20 :: 180 :: 0 :: 50 :: sxX5_readClause_24 := rfl
theorem shX5_readClause_24 : cX5_readClause.data.toList.drop 24 = 16 :: 12 :: 161 :: 0 :: 9 :: 42 :: 7 :: 182 :: 0 :: 47 :: 177 :: 42 :: 89 :: 180 :: 0 :: 31 :: 4 :: 96 :: 181 :: 0 :: 31 :: 42 :: 180 :: 0 :: 20 :: sxX5_readClause_49 := aq_24 shX5_readClause_0
theorem shX5_readClause_49 : cX5_readClause.data.toList.drop 49 = 182 :: 0 :: 53 :: 42 :: 180 :: 0 :: 27 :: 16 :: 112 :: 160 :: 0 :: 8 :: 42 :: 3 :: 182 :: 0 :: 56 :: 42 :: 180 :: 0 :: 20 :: 182 :: 0 :: 59 :: sxX5_readClause_73 := aq_25 shX5_readClause_24
theorem shX5_readClause_73 : cX5_readClause.data.toList.drop 73 = 42 :: 16 :: 40 :: 182 :: 0 :: 62 :: 42 :: 4 :: 182 :: 0 :: 66 :: 42 :: 16 :: 41 :: 182 :: 0 :: 62 :: 42 :: 180 :: 0 :: 20 :: 182 :: 0 :: 69 :: sxX5_readClause_97 := aq_24 shX5_readClause_49
theorem shX5_readClause_97 : cX5_readClause.data.toList.drop 97 = 177 :: sxX5_readClause_98 := aq_24 shX5_readClause_73
theorem dX5_readClause_66 : decode cX5_readClause 66 = .ok (.aload_n 0, 1) := oc_42 66 (aq_17 shX5_readClause_49)
theorem dX5_readClause_67 : decode cX5_readClause 67 = .ok (.getfield 20, 3) := oc_180 67 (aq_18 shX5_readClause_49) uw_0_20
theorem dX5_readClause_70 : decode cX5_readClause 70 = .ok (.invokevirtual 59, 3) := oc_182 70 (aq_21 shX5_readClause_49) uw_0_59
theorem dX5_readClause_73 : decode cX5_readClause 73 = .ok (.aload_n 0, 1) := oc_42 73 shX5_readClause_73
theorem dX5_readClause_74 : decode cX5_readClause 74 = .ok (.bipush 40, 2) := oc_16 74 (aq_1 shX5_readClause_73) sgb_40
theorem dX5_readClause_76 : decode cX5_readClause 76 = .ok (.invokevirtual 62, 3) := oc_182 76 (aq_3 shX5_readClause_73) uw_0_62
theorem dX5_readClause_79 : decode cX5_readClause 79 = .ok (.aload_n 0, 1) := oc_42 79 (aq_6 shX5_readClause_73)
theorem dX5_readClause_80 : decode cX5_readClause 80 = .ok (.iconst 1, 1) := oc_4 80 (aq_7 shX5_readClause_73)
theorem dX5_readClause_81 : decode cX5_readClause 81 = .ok (.invokevirtual 66, 3) := oc_182 81 (aq_8 shX5_readClause_73) uw_0_66
theorem dX5_readClause_84 : decode cX5_readClause 84 = .ok (.aload_n 0, 1) := oc_42 84 (aq_11 shX5_readClause_73)
theorem dX5_readClause_85 : decode cX5_readClause 85 = .ok (.bipush 41, 2) := oc_16 85 (aq_12 shX5_readClause_73) sgb_41
theorem dX5_readClause_87 : decode cX5_readClause 87 = .ok (.invokevirtual 62, 3) := oc_182 87 (aq_14 shX5_readClause_73) uw_0_62
theorem dX5_readClause_90 : decode cX5_readClause 90 = .ok (.aload_n 0, 1) := oc_42 90 (aq_17 shX5_readClause_73)
theorem dX5_readClause_91 : decode cX5_readClause 91 = .ok (.getfield 20, 3) := oc_180 91 (aq_18 shX5_readClause_73) uw_0_20
theorem dX5_readClause_94 : decode cX5_readClause 94 = .ok (.invokevirtual 69, 3) := oc_182 94 (aq_21 shX5_readClause_73) uw_0_69
theorem dX5_readClause_97 : decode cX5_readClause 97 = .ok (.return_, 1) := oc_177 97 shX5_readClause_97
noncomputable def sxX5_read_102 : List UInt8 := []
noncomputable def sxX5_read_98 : List UInt8 := 180 :: 0 :: 20 :: 176 :: sxX5_read_102
noncomputable def sxX5_read_74 : List UInt8 := 42 :: 182 :: 0 :: 40 :: 167 :: 255 :: 222 :: 42 :: 180 :: 0 :: 31 :: 42 :: 180 :: 0 :: 34 :: 162 :: 0 :: 8 :: 42 :: 4 :: 182 :: 0 :: 47 :: 42 :: sxX5_read_98
noncomputable def sxX5_read_49 : List UInt8 := 180 :: 0 :: 34 :: 162 :: 0 :: 29 :: 42 :: 182 :: 0 :: 43 :: 16 :: 59 :: 160 :: 0 :: 20 :: 42 :: 89 :: 180 :: 0 :: 31 :: 4 :: 96 :: 181 :: 0 :: 31 :: sxX5_read_74
noncomputable def sxX5_read_25 : List UInt8 := 42 :: 3 :: 181 :: 0 :: 31 :: 42 :: 28 :: 181 :: 0 :: 34 :: 42 :: 3 :: 181 :: 0 :: 37 :: 42 :: 182 :: 0 :: 40 :: 42 :: 180 :: 0 :: 31 :: 42 :: sxX5_read_49
theorem shX5_read_0 : cX5_read.data.toList.drop 0 = 42 :: 43 :: 180 :: 0 :: 24 :: 181 :: 0 :: 9 :: 42 :: 187 :: 0 :: 15 :: 89 :: 28 :: 183 :: 0 :: 17 :: 181 :: 0 :: 20 :: 42 :: 29 :: 181 :: 0 :: 27 :: sxX5_read_25 := rfl
theorem shX5_read_25 : cX5_read.data.toList.drop 25 = 42 :: 3 :: 181 :: 0 :: 31 :: 42 :: 28 :: 181 :: 0 :: 34 :: 42 :: 3 :: 181 :: 0 :: 37 :: 42 :: 182 :: 0 :: 40 :: 42 :: 180 :: 0 :: 31 :: 42 :: sxX5_read_49 := aq_25 shX5_read_0
theorem shX5_read_49 : cX5_read.data.toList.drop 49 = 180 :: 0 :: 34 :: 162 :: 0 :: 29 :: 42 :: 182 :: 0 :: 43 :: 16 :: 59 :: 160 :: 0 :: 20 :: 42 :: 89 :: 180 :: 0 :: 31 :: 4 :: 96 :: 181 :: 0 :: 31 :: sxX5_read_74 := aq_24 shX5_read_25
theorem shX5_read_74 : cX5_read.data.toList.drop 74 = 42 :: 182 :: 0 :: 40 :: 167 :: 255 :: 222 :: 42 :: 180 :: 0 :: 31 :: 42 :: 180 :: 0 :: 34 :: 162 :: 0 :: 8 :: 42 :: 4 :: 182 :: 0 :: 47 :: 42 :: sxX5_read_98 := aq_25 shX5_read_49
theorem shX5_read_98 : cX5_read.data.toList.drop 98 = 180 :: 0 :: 20 :: 176 :: sxX5_read_102 := aq_24 shX5_read_74
theorem dX5_read_81 : decode cX5_read 81 = .ok (.aload_n 0, 1) := oc_42 81 (aq_7 shX5_read_74)
theorem dX5_read_82 : decode cX5_read 82 = .ok (.getfield 31, 3) := oc_180 82 (aq_8 shX5_read_74) uw_0_31
theorem dX5_read_85 : decode cX5_read 85 = .ok (.aload_n 0, 1) := oc_42 85 (aq_11 shX5_read_74)
theorem dX5_read_86 : decode cX5_read 86 = .ok (.getfield 34, 3) := oc_180 86 (aq_12 shX5_read_74) uw_0_34
theorem dX5_read_89 : decode cX5_read 89 = .ok (.if_icmp .ge 8, 3) := oc_162 89 (aq_15 shX5_read_74) sgw_0_8
theorem dX5_read_97 : decode cX5_read 97 = .ok (.aload_n 0, 1) := oc_42 97 (aq_23 shX5_read_74)
theorem dX5_read_98 : decode cX5_read 98 = .ok (.getfield 20, 3) := oc_180 98 shX5_read_98 uw_0_20
theorem dX5_read_101 : decode cX5_read 101 = .ok (.areturn, 1) := oc_176 101 (aq_3 shX5_read_98)
theorem dX5_read_92 : decode cX5_read 92 = .ok (.aload_n 0, 1) := oc_42 92 (aq_18 shX5_read_74)
theorem dX5_read_93 : decode cX5_read 93 = .ok (.iconst 1, 1) := oc_4 93 (aq_19 shX5_read_74)
theorem dX5_read_94 : decode cX5_read 94 = .ok (.invokevirtual 47, 3) := oc_182 94 (aq_20 shX5_read_74) uw_0_47
noncomputable def sxX11_contract_74 : List UInt8 := []
noncomputable def sxX11_contract_50 : List UInt8 := 153 :: 0 :: 12 :: 42 :: 180 :: 0 :: 28 :: 180 :: 0 :: 165 :: 116 :: 172 :: 45 :: 25 :: 4 :: 181 :: 0 :: 168 :: 25 :: 4 :: 180 :: 0 :: 171 :: 172 :: sxX11_contract_74
noncomputable def sxX11_contract_24 : List UInt8 := 42 :: 180 :: 0 :: 21 :: 28 :: 16 :: 112 :: 182 :: 0 :: 158 :: 58 :: 4 :: 42 :: 180 :: 0 :: 21 :: 182 :: 0 :: 162 :: 42 :: 180 :: 0 :: 28 :: 180 :: 0 :: 165 :: sxX11_contract_50
theorem shX11_contract_0 : cX11_contract.data.toList.drop 0 = 42 :: 27 :: 182 :: 0 :: 114 :: 78 :: 45 :: 198 :: 0 :: 11 :: 42 :: 28 :: 182 :: 0 :: 155 :: 154 :: 0 :: 5 :: 2 :: 172 :: 42 :: 180 :: 0 :: 28 :: sxX11_contract_24 := rfl
theorem shX11_contract_24 : cX11_contract.data.toList.drop 24 = 42 :: 180 :: 0 :: 21 :: 28 :: 16 :: 112 :: 182 :: 0 :: 158 :: 58 :: 4 :: 42 :: 180 :: 0 :: 21 :: 182 :: 0 :: 162 :: 42 :: 180 :: 0 :: 28 :: 180 :: 0 :: 165 :: sxX11_contract_50 := aq_24 shX11_contract_0
theorem shX11_contract_50 : cX11_contract.data.toList.drop 50 = 153 :: 0 :: 12 :: 42 :: 180 :: 0 :: 28 :: 180 :: 0 :: 165 :: 116 :: 172 :: 45 :: 25 :: 4 :: 181 :: 0 :: 168 :: 25 :: 4 :: 180 :: 0 :: 171 :: 172 :: sxX11_contract_74 := aq_26 shX11_contract_24
theorem dX11_contract_0 : decode cX11_contract 0 = .ok (.aload_n 0, 1) := oc_42 0 shX11_contract_0
theorem dX11_contract_1 : decode cX11_contract 1 = .ok (.iload_n 1, 1) := oc_27 1 (aq_1 shX11_contract_0)
theorem dX11_contract_2 : decode cX11_contract 2 = .ok (.invokevirtual 114, 3) := oc_182 2 (aq_2 shX11_contract_0) uw_0_114
theorem dX11_contract_5 : decode cX11_contract 5 = .ok (.astore_n 3, 1) := oc_78 5 (aq_5 shX11_contract_0)
theorem dX11_contract_6 : decode cX11_contract 6 = .ok (.aload_n 3, 1) := oc_45 6 (aq_6 shX11_contract_0)
theorem dX11_contract_7 : decode cX11_contract 7 = .ok (.ifnull 11, 3) := oc_198 7 (aq_7 shX11_contract_0) sgw_0_11
theorem dX11_contract_10 : decode cX11_contract 10 = .ok (.aload_n 0, 1) := oc_42 10 (aq_10 shX11_contract_0)
theorem dX11_contract_11 : decode cX11_contract 11 = .ok (.iload_n 2, 1) := oc_28 11 (aq_11 shX11_contract_0)
theorem dX11_contract_12 : decode cX11_contract 12 = .ok (.invokevirtual 155, 3) := oc_182 12 (aq_12 shX11_contract_0) uw_0_155
theorem dX11_contract_15 : decode cX11_contract 15 = .ok (.ifCond .ne 5, 3) := oc_154 15 (aq_15 shX11_contract_0) sgw_0_5
theorem dX11_contract_20 : decode cX11_contract 20 = .ok (.aload_n 0, 1) := oc_42 20 (aq_20 shX11_contract_0)
theorem dX11_contract_21 : decode cX11_contract 21 = .ok (.getfield 28, 3) := oc_180 21 (aq_21 shX11_contract_0) uw_0_28
theorem dX11_contract_24 : decode cX11_contract 24 = .ok (.aload_n 0, 1) := oc_42 24 shX11_contract_24
theorem dX11_contract_25 : decode cX11_contract 25 = .ok (.getfield 21, 3) := oc_180 25 (aq_1 shX11_contract_24) uw_0_21
theorem dX11_contract_28 : decode cX11_contract 28 = .ok (.iload_n 2, 1) := oc_28 28 (aq_4 shX11_contract_24)
theorem dX11_contract_29 : decode cX11_contract 29 = .ok (.bipush 112, 2) := oc_16 29 (aq_5 shX11_contract_24) sgb_112
theorem dX11_contract_31 : decode cX11_contract 31 = .ok (.invokevirtual 158, 3) := oc_182 31 (aq_7 shX11_contract_24) uw_0_158
theorem dX11_contract_34 : decode cX11_contract 34 = .ok (.astore 4, 2) := oc_58 34 (aq_10 shX11_contract_24) ub_4
theorem dX11_contract_36 : decode cX11_contract 36 = .ok (.aload_n 0, 1) := oc_42 36 (aq_12 shX11_contract_24)
theorem dX11_contract_37 : decode cX11_contract 37 = .ok (.getfield 21, 3) := oc_180 37 (aq_13 shX11_contract_24) uw_0_21
theorem dX11_contract_40 : decode cX11_contract 40 = .ok (.invokevirtual 162, 3) := oc_182 40 (aq_16 shX11_contract_24) uw_0_162
theorem dX11_contract_43 : decode cX11_contract 43 = .ok (.aload_n 0, 1) := oc_42 43 (aq_19 shX11_contract_24)
theorem dX11_contract_44 : decode cX11_contract 44 = .ok (.getfield 28, 3) := oc_180 44 (aq_20 shX11_contract_24) uw_0_28
theorem dX11_contract_47 : decode cX11_contract 47 = .ok (.getfield 165, 3) := oc_180 47 (aq_23 shX11_contract_24) uw_0_165
theorem dX11_contract_50 : decode cX11_contract 50 = .ok (.ifCond .eq 12, 3) := oc_153 50 shX11_contract_50 sgw_0_12
theorem dX11_contract_62 : decode cX11_contract 62 = .ok (.aload_n 3, 1) := oc_45 62 (aq_12 shX11_contract_50)
theorem dX11_contract_63 : decode cX11_contract 63 = .ok (.aload 4, 2) := oc_25 63 (aq_13 shX11_contract_50) ub_4
theorem dX11_contract_65 : decode cX11_contract 65 = .ok (.putfield 168, 3) := oc_181 65 (aq_15 shX11_contract_50) uw_0_168
theorem dX11_contract_68 : decode cX11_contract 68 = .ok (.aload 4, 2) := oc_25 68 (aq_18 shX11_contract_50) ub_4
theorem dX11_contract_70 : decode cX11_contract 70 = .ok (.getfield 171, 3) := oc_180 70 (aq_20 shX11_contract_50) uw_0_171
theorem dX11_contract_73 : decode cX11_contract 73 = .ok (.ireturn, 1) := oc_172 73 (aq_23 shX11_contract_50)
theorem dX11_contract_53 : decode cX11_contract 53 = .ok (.aload_n 0, 1) := oc_42 53 (aq_3 shX11_contract_50)
theorem dX11_contract_54 : decode cX11_contract 54 = .ok (.getfield 28, 3) := oc_180 54 (aq_4 shX11_contract_50) uw_0_28
theorem dX11_contract_57 : decode cX11_contract 57 = .ok (.getfield 165, 3) := oc_180 57 (aq_7 shX11_contract_50) uw_0_165
theorem dX11_contract_60 : decode cX11_contract 60 = .ok (.ineg, 1) := oc_116 60 (aq_10 shX11_contract_50)
theorem dX11_contract_61 : decode cX11_contract 61 = .ok (.ireturn, 1) := oc_172 61 (aq_11 shX11_contract_50)
theorem dX11_contract_18 : decode cX11_contract 18 = .ok (.iconst (-1), 1) := oc_2 18 (aq_18 shX11_contract_0)
theorem dX11_contract_19 : decode cX11_contract 19 = .ok (.ireturn, 1) := oc_172 19 (aq_19 shX11_contract_0)
noncomputable def sxX11_law_61 : List UInt8 := []
noncomputable def sxX11_law_49 : List UInt8 := 116 :: 172 :: 42 :: 44 :: 181 :: 0 :: 12 :: 44 :: 180 :: 0 :: 171 :: 172 :: sxX11_law_61
noncomputable def sxX11_law_24 : List UInt8 := 77 :: 42 :: 180 :: 0 :: 21 :: 182 :: 0 :: 162 :: 42 :: 180 :: 0 :: 28 :: 180 :: 0 :: 165 :: 153 :: 0 :: 12 :: 42 :: 180 :: 0 :: 28 :: 180 :: 0 :: 165 :: sxX11_law_49
theorem shX11_law_0 : cX11_law.data.toList.drop 0 = 42 :: 27 :: 182 :: 0 :: 155 :: 154 :: 0 :: 5 :: 2 :: 172 :: 42 :: 180 :: 0 :: 28 :: 42 :: 180 :: 0 :: 21 :: 27 :: 16 :: 108 :: 182 :: 0 :: 158 :: sxX11_law_24 := rfl
theorem shX11_law_24 : cX11_law.data.toList.drop 24 = 77 :: 42 :: 180 :: 0 :: 21 :: 182 :: 0 :: 162 :: 42 :: 180 :: 0 :: 28 :: 180 :: 0 :: 165 :: 153 :: 0 :: 12 :: 42 :: 180 :: 0 :: 28 :: 180 :: 0 :: 165 :: sxX11_law_49 := aq_24 shX11_law_0
theorem shX11_law_49 : cX11_law.data.toList.drop 49 = 116 :: 172 :: 42 :: 44 :: 181 :: 0 :: 12 :: 44 :: 180 :: 0 :: 171 :: 172 :: sxX11_law_61 := aq_25 shX11_law_24
theorem dX11_law_0 : decode cX11_law 0 = .ok (.aload_n 0, 1) := oc_42 0 shX11_law_0
theorem dX11_law_1 : decode cX11_law 1 = .ok (.iload_n 1, 1) := oc_27 1 (aq_1 shX11_law_0)
theorem dX11_law_2 : decode cX11_law 2 = .ok (.invokevirtual 155, 3) := oc_182 2 (aq_2 shX11_law_0) uw_0_155
theorem dX11_law_5 : decode cX11_law 5 = .ok (.ifCond .ne 5, 3) := oc_154 5 (aq_5 shX11_law_0) sgw_0_5
theorem dX11_law_10 : decode cX11_law 10 = .ok (.aload_n 0, 1) := oc_42 10 (aq_10 shX11_law_0)
theorem dX11_law_11 : decode cX11_law 11 = .ok (.getfield 28, 3) := oc_180 11 (aq_11 shX11_law_0) uw_0_28
theorem dX11_law_14 : decode cX11_law 14 = .ok (.aload_n 0, 1) := oc_42 14 (aq_14 shX11_law_0)
theorem dX11_law_15 : decode cX11_law 15 = .ok (.getfield 21, 3) := oc_180 15 (aq_15 shX11_law_0) uw_0_21
theorem dX11_law_18 : decode cX11_law 18 = .ok (.iload_n 1, 1) := oc_27 18 (aq_18 shX11_law_0)
theorem dX11_law_19 : decode cX11_law 19 = .ok (.bipush 108, 2) := oc_16 19 (aq_19 shX11_law_0) sgb_108
theorem dX11_law_21 : decode cX11_law 21 = .ok (.invokevirtual 158, 3) := oc_182 21 (aq_21 shX11_law_0) uw_0_158
theorem dX11_law_24 : decode cX11_law 24 = .ok (.astore_n 2, 1) := oc_77 24 shX11_law_24
theorem dX11_law_25 : decode cX11_law 25 = .ok (.aload_n 0, 1) := oc_42 25 (aq_1 shX11_law_24)
theorem dX11_law_26 : decode cX11_law 26 = .ok (.getfield 21, 3) := oc_180 26 (aq_2 shX11_law_24) uw_0_21
theorem dX11_law_29 : decode cX11_law 29 = .ok (.invokevirtual 162, 3) := oc_182 29 (aq_5 shX11_law_24) uw_0_162
theorem dX11_law_32 : decode cX11_law 32 = .ok (.aload_n 0, 1) := oc_42 32 (aq_8 shX11_law_24)
theorem dX11_law_33 : decode cX11_law 33 = .ok (.getfield 28, 3) := oc_180 33 (aq_9 shX11_law_24) uw_0_28
theorem dX11_law_36 : decode cX11_law 36 = .ok (.getfield 165, 3) := oc_180 36 (aq_12 shX11_law_24) uw_0_165
theorem dX11_law_39 : decode cX11_law 39 = .ok (.ifCond .eq 12, 3) := oc_153 39 (aq_15 shX11_law_24) sgw_0_12
theorem dX11_law_51 : decode cX11_law 51 = .ok (.aload_n 0, 1) := oc_42 51 (aq_2 shX11_law_49)
theorem dX11_law_52 : decode cX11_law 52 = .ok (.aload_n 2, 1) := oc_44 52 (aq_3 shX11_law_49)
theorem dX11_law_53 : decode cX11_law 53 = .ok (.putfield 12, 3) := oc_181 53 (aq_4 shX11_law_49) uw_0_12
theorem dX11_law_56 : decode cX11_law 56 = .ok (.aload_n 2, 1) := oc_44 56 (aq_7 shX11_law_49)
theorem dX11_law_57 : decode cX11_law 57 = .ok (.getfield 171, 3) := oc_180 57 (aq_8 shX11_law_49) uw_0_171
theorem dX11_law_60 : decode cX11_law 60 = .ok (.ireturn, 1) := oc_172 60 (aq_11 shX11_law_49)
theorem dX11_law_42 : decode cX11_law 42 = .ok (.aload_n 0, 1) := oc_42 42 (aq_18 shX11_law_24)
theorem dX11_law_43 : decode cX11_law 43 = .ok (.getfield 28, 3) := oc_180 43 (aq_19 shX11_law_24) uw_0_28
theorem dX11_law_46 : decode cX11_law 46 = .ok (.getfield 165, 3) := oc_180 46 (aq_22 shX11_law_24) uw_0_165
theorem dX11_law_49 : decode cX11_law 49 = .ok (.ineg, 1) := oc_116 49 shX11_law_49
theorem dX11_law_50 : decode cX11_law 50 = .ok (.ireturn, 1) := oc_172 50 (aq_1 shX11_law_49)
theorem dX11_law_8 : decode cX11_law 8 = .ok (.iconst (-1), 1) := oc_2 8 (aq_8 shX11_law_0)
theorem dX11_law_9 : decode cX11_law 9 = .ok (.ireturn, 1) := oc_172 9 (aq_9 shX11_law_0)
set_option maxRecDepth 100000 in
set_option maxHeartbeats 4000000 in
theorem q_l_TextN (l : Launch) (D : va_G) (cI cB cZ : ClassId) (x : Nat) (n0 : Nat) (sz : Nat) (hn : n0 ≤ 160) : Met l yX9_init (CWS yX9_init cX9_init 2 none) (RM 1 5 228) (PBw [.ref x, .int (nI n0)] D cI cB cZ [(x, .inr (10, [.null, .null, .null, .null, .null, .int 0, .int 0, .int 0, .int 0]))] sz) (va_Qv (fun (_ : Nat → Nat) => True) (fun (u : Nat → Nat) (t : State) => va_P D vwCl [(x, .inr (10, [.ref (u 0), .ref (u 1), .ref (u 2), .ref (u 3), .ref (u 4), .int 0, .int 0, .int 0, .int 0])), ((u 0), .inl (cI, n0, .inl (fun _ => 0))), ((u 1), .inl (cI, 12, .inl (fun _ => 0))), ((u 2), .inl (cI, 12, .inl (fun _ => 0))), ((u 3), .inl (cI, 12, .inl (fun _ => 0))), ((u 4), .inl (cI, 32, .inl (fun _ => 0)))] t.heap ∧ va_D (va_A [(x, .inr (10, [.null, .null, .null, .null, .null, .int 0, .int 0, .int 0, .int 0]))] sz) [(x, .inr (10, [.ref (u 0), .ref (u 1), .ref (u 2), .ref (u 3), .ref (u 4), .int 0, .int 0, .int 0, .int 0])), ((u 0), .inl (cI, n0, .inl (fun _ => 0))), ((u 1), .inl (cI, 12, .inl (fun _ => 0))), ((u 2), .inl (cI, 12, .inl (fun _ => 0))), ((u 3), .inl (cI, 12, .inl (fun _ => 0))), ((u 4), .inl (cI, 32, .inl (fun _ => 0)))]) (va_A [(x, .inr (10, [.null, .null, .null, .null, .null, .int 0, .int 0, .int 0, .int 0]))] sz)) 5 228 (va_A [(x, .inr (10, [.null, .null, .null, .null, .null, .int 0, .int 0, .int 0, .int 0]))] sz) := by
  refine en_w (fun A => (va_Qv (fun (_ : Nat → Nat) => True) (fun (u : Nat → Nat) (t : State) => va_P D vwCl [(x, .inr (10, [.ref (u 0), .ref (u 1), .ref (u 2), .ref (u 3), .ref (u 4), .int 0, .int 0, .int 0, .int 0])), ((u 0), .inl (cI, n0, .inl (fun _ => 0))), ((u 1), .inl (cI, 12, .inl (fun _ => 0))), ((u 2), .inl (cI, 12, .inl (fun _ => 0))), ((u 3), .inl (cI, 12, .inl (fun _ => 0))), ((u 4), .inl (cI, 32, .inl (fun _ => 0)))] t.heap ∧ va_D A [(x, .inr (10, [.ref (u 0), .ref (u 1), .ref (u 2), .ref (u 3), .ref (u 4), .int 0, .int 0, .int 0, .int 0])), ((u 0), .inl (cI, n0, .inl (fun _ => 0))), ((u 1), .inl (cI, 12, .inl (fun _ => 0))), ((u 2), .inl (cI, 12, .inl (fun _ => 0))), ((u 3), .inl (cI, 12, .inl (fun _ => 0))), ((u 4), .inl (cI, 32, .inl (fun _ => 0)))]) A)) rfl rfl pn_RX9 (Nat.le_of_ble_eq_true rfl) (fun p e s m below meth c A hx hb hml hown S hr hlocks hnm hA hP hK hD hS ls hl => ?_)
  have hin : meth.name = "<init>" := hnm
  have hP : va_P D vwCl [(x, .inr (10, [.null, .null, .null, .null, .null, .int 0, .int 0, .int 0, .int 0]))] s.heap := hP
  have hD : va_D A [(x, .inr (10, [.null, .null, .null, .null, .null, .int 0, .int 0, .int 0, .int 0]))] := hD
  have hl : lv_has ls 2 [(0, .ref x), (1, .int (nI n0))] := hl
  refine lv_aload_n hx hb (oc_42 0 shX9_init_0) rfl (lvA0 hl) ?_
  refine W.objInit hx hb hown (S.2.2.2.2 _ (wk1_3 4 rfl rfl)) (S.2.2.2.2 _ (wk1_2 9 rfl rfl)) (S.2.2.2.2 _ (wk1_2 10 rfl rfl)) rfl (by rw [hml]; exact hl.1) rfl (oc_183 1 (aq_1 shX9_init_0) uw_0_5) (Nat.le_of_ble_eq_true rfl) (Nat.le_of_ble_eq_true rfl) ?_
  refine W.eq (g2 := F0 m 4 ls []) rfl ?_
  refine lv_aload_n hx hb (oc_42 4 (aq_4 shX9_init_0)) rfl (lvA0 hl) ?_
  refine lv_iload_n hx hb (oc_27 5 (aq_5 shX9_init_0)) rfl (lvA1 hl) ?_
  refine lv_iconst (v := 0) hx hb (oc_3 6 (aq_6 shX9_init_0)) kic_0 ?_
  refine va_mmax hx hb (by rw [hml]; exact hl.1.symm) hown (S.2.2.2.2 _ (wk1_3 5 rfl rfl)) (S.2.2.2.2 _ (wk1_3 6 rfl rfl)) (S.2.2.2.2 _ (wk1_0 3 rfl rfl)) (S.2.2.2.2 _ (wk1_3 7 rfl rfl)) (Nat.le_of_ble_eq_true rfl) (Nat.le_of_ble_eq_true rfl) (Nat.le_of_ble_eq_true rfl) (Nat.le_of_ble_eq_true rfl) (oc_184 7 (aq_7 shX9_init_0) uw_0_11) ?_
  refine lv_topi (fun y_1 ey_1 => ?_)
  obtain rfl : y_1 = (nI n0) := ey_1.trans (if_neg (nI_nn (by omega)))
  refine newa_int S hK hP hD hS hA (N' := n0) (nI_nn (by omega)) (nI_clamp (by omega)) (by omega) (Nat.le_of_ble_eq_true rfl) (by show 0 + n0 ≤ 228; omega) (oc_188_10 10 (aq_10 shX9_init_0)) (fun q10 H hP hD hS => ?_)
  refine W.widen (k := 1) (n := 160) (Nat.le_of_ble_eq_true rfl) (by omega) ?_
  have hP : va_P D vwCl [(x, .inr (10, [.null, .null, .null, .null, .null, .int 0, .int 0, .int 0, .int 0])), (q10, .inl (cI, n0, .inl (fun _ => 0)))] H := hP
  have hD : va_D A [(x, .inr (10, [.null, .null, .null, .null, .null, .int 0, .int 0, .int 0, .int 0])), (q10, .inl (cI, n0, .inl (fun _ => 0)))] := hD
  refine pf_RX9_17 S hin hK hP hD hS 0 rfl (v := .ref q10) (Nat.le_of_ble_eq_true rfl) rfl rfl (oc_181 12 (aq_12 shX9_init_0) uw_0_17) (fun H locs hP hD hS => ?_)
  have hP : va_P D vwCl [(x, .inr (10, [.ref q10, .null, .null, .null, .null, .int 0, .int 0, .int 0, .int 0])), (q10, .inl (cI, n0, .inl (fun _ => 0)))] H := hP
  have hD : va_D A [(x, .inr (10, [.ref q10, .null, .null, .null, .null, .int 0, .int 0, .int 0, .int 0])), (q10, .inl (cI, n0, .inl (fun _ => 0)))] := hD
  refine lv_aload_n hx hb (oc_42 15 (aq_15 shX9_init_0)) rfl (lvA0 hl) ?_
  refine lv_bipush (v := 12) hx hb (oc_16 16 (aq_16 shX9_init_0) sgb_12) kbc_12 ?_
  refine newa_int S hK hP hD hS hA (N' := 12) (by decide) (by decide) (Nat.le_of_ble_eq_true rfl) (Nat.le_of_ble_eq_true rfl) (Nat.le_of_ble_eq_true rfl) (oc_188_10 18 (aq_18 shX9_init_0)) (fun q18 H hP hD hS => ?_)
  have hP : va_P D vwCl [(x, .inr (10, [.ref q10, .null, .null, .null, .null, .int 0, .int 0, .int 0, .int 0])), (q10, .inl (cI, n0, .inl (fun _ => 0))), (q18, .inl (cI, 12, .inl (fun _ => 0)))] H := hP
  have hD : va_D A [(x, .inr (10, [.ref q10, .null, .null, .null, .null, .int 0, .int 0, .int 0, .int 0])), (q10, .inl (cI, n0, .inl (fun _ => 0))), (q18, .inl (cI, 12, .inl (fun _ => 0)))] := hD
  refine pf_RX9_21 S hin hK hP hD hS 0 rfl (v := .ref q18) (Nat.le_of_ble_eq_true rfl) rfl rfl (oc_181 20 (aq_20 shX9_init_0) uw_0_21) (fun H locs hP hD hS => ?_)
  have hP : va_P D vwCl [(x, .inr (10, [.ref q10, .ref q18, .null, .null, .null, .int 0, .int 0, .int 0, .int 0])), (q10, .inl (cI, n0, .inl (fun _ => 0))), (q18, .inl (cI, 12, .inl (fun _ => 0)))] H := hP
  have hD : va_D A [(x, .inr (10, [.ref q10, .ref q18, .null, .null, .null, .int 0, .int 0, .int 0, .int 0])), (q10, .inl (cI, n0, .inl (fun _ => 0))), (q18, .inl (cI, 12, .inl (fun _ => 0)))] := hD
  refine lv_aload_n hx hb (oc_42 23 (aq_23 shX9_init_0)) rfl (lvA0 hl) ?_
  refine lv_bipush (v := 12) hx hb (oc_16 24 shX9_init_24 sgb_12) kbc_12 ?_
  refine newa_int S hK hP hD hS hA (N' := 12) (by decide) (by decide) (Nat.le_of_ble_eq_true rfl) (Nat.le_of_ble_eq_true rfl) (Nat.le_of_ble_eq_true rfl) (oc_188_10 26 (aq_2 shX9_init_24)) (fun q26 H hP hD hS => ?_)
  have hP : va_P D vwCl [(x, .inr (10, [.ref q10, .ref q18, .null, .null, .null, .int 0, .int 0, .int 0, .int 0])), (q10, .inl (cI, n0, .inl (fun _ => 0))), (q18, .inl (cI, 12, .inl (fun _ => 0))), (q26, .inl (cI, 12, .inl (fun _ => 0)))] H := hP
  have hD : va_D A [(x, .inr (10, [.ref q10, .ref q18, .null, .null, .null, .int 0, .int 0, .int 0, .int 0])), (q10, .inl (cI, n0, .inl (fun _ => 0))), (q18, .inl (cI, 12, .inl (fun _ => 0))), (q26, .inl (cI, 12, .inl (fun _ => 0)))] := hD
  refine pf_RX9_24 S hin hK hP hD hS 0 rfl (v := .ref q26) (Nat.le_of_ble_eq_true rfl) rfl rfl (oc_181 28 (aq_4 shX9_init_24) uw_0_24) (fun H locs hP hD hS => ?_)
  have hP : va_P D vwCl [(x, .inr (10, [.ref q10, .ref q18, .ref q26, .null, .null, .int 0, .int 0, .int 0, .int 0])), (q10, .inl (cI, n0, .inl (fun _ => 0))), (q18, .inl (cI, 12, .inl (fun _ => 0))), (q26, .inl (cI, 12, .inl (fun _ => 0)))] H := hP
  have hD : va_D A [(x, .inr (10, [.ref q10, .ref q18, .ref q26, .null, .null, .int 0, .int 0, .int 0, .int 0])), (q10, .inl (cI, n0, .inl (fun _ => 0))), (q18, .inl (cI, 12, .inl (fun _ => 0))), (q26, .inl (cI, 12, .inl (fun _ => 0)))] := hD
  refine lv_aload_n hx hb (oc_42 31 (aq_7 shX9_init_24)) rfl (lvA0 hl) ?_
  refine lv_bipush (v := 12) hx hb (oc_16 32 (aq_8 shX9_init_24) sgb_12) kbc_12 ?_
  refine newa_int S hK hP hD hS hA (N' := 12) (by decide) (by decide) (Nat.le_of_ble_eq_true rfl) (Nat.le_of_ble_eq_true rfl) (Nat.le_of_ble_eq_true rfl) (oc_188_10 34 (aq_10 shX9_init_24)) (fun q34 H hP hD hS => ?_)
  have hP : va_P D vwCl [(x, .inr (10, [.ref q10, .ref q18, .ref q26, .null, .null, .int 0, .int 0, .int 0, .int 0])), (q10, .inl (cI, n0, .inl (fun _ => 0))), (q18, .inl (cI, 12, .inl (fun _ => 0))), (q26, .inl (cI, 12, .inl (fun _ => 0))), (q34, .inl (cI, 12, .inl (fun _ => 0)))] H := hP
  have hD : va_D A [(x, .inr (10, [.ref q10, .ref q18, .ref q26, .null, .null, .int 0, .int 0, .int 0, .int 0])), (q10, .inl (cI, n0, .inl (fun _ => 0))), (q18, .inl (cI, 12, .inl (fun _ => 0))), (q26, .inl (cI, 12, .inl (fun _ => 0))), (q34, .inl (cI, 12, .inl (fun _ => 0)))] := hD
  refine pf_RX9_27 S hin hK hP hD hS 0 rfl (v := .ref q34) (Nat.le_of_ble_eq_true rfl) rfl rfl (oc_181 36 (aq_12 shX9_init_24) uw_0_27) (fun H locs hP hD hS => ?_)
  have hP : va_P D vwCl [(x, .inr (10, [.ref q10, .ref q18, .ref q26, .ref q34, .null, .int 0, .int 0, .int 0, .int 0])), (q10, .inl (cI, n0, .inl (fun _ => 0))), (q18, .inl (cI, 12, .inl (fun _ => 0))), (q26, .inl (cI, 12, .inl (fun _ => 0))), (q34, .inl (cI, 12, .inl (fun _ => 0)))] H := hP
  have hD : va_D A [(x, .inr (10, [.ref q10, .ref q18, .ref q26, .ref q34, .null, .int 0, .int 0, .int 0, .int 0])), (q10, .inl (cI, n0, .inl (fun _ => 0))), (q18, .inl (cI, 12, .inl (fun _ => 0))), (q26, .inl (cI, 12, .inl (fun _ => 0))), (q34, .inl (cI, 12, .inl (fun _ => 0)))] := hD
  refine lv_aload_n hx hb (oc_42 39 (aq_15 shX9_init_24)) rfl (lvA0 hl) ?_
  refine lv_bipush (v := 32) hx hb (oc_16 40 (aq_16 shX9_init_24) sgb_32) kbc_32 ?_
  refine newa_int S hK hP hD hS hA (N' := 32) (by decide) (by decide) (Nat.le_of_ble_eq_true rfl) (Nat.le_of_ble_eq_true rfl) (Nat.le_of_ble_eq_true rfl) (oc_188_10 42 (aq_18 shX9_init_24)) (fun q42 H hP hD hS => ?_)
  have hP : va_P D vwCl [(x, .inr (10, [.ref q10, .ref q18, .ref q26, .ref q34, .null, .int 0, .int 0, .int 0, .int 0])), (q10, .inl (cI, n0, .inl (fun _ => 0))), (q18, .inl (cI, 12, .inl (fun _ => 0))), (q26, .inl (cI, 12, .inl (fun _ => 0))), (q34, .inl (cI, 12, .inl (fun _ => 0))), (q42, .inl (cI, 32, .inl (fun _ => 0)))] H := hP
  have hD : va_D A [(x, .inr (10, [.ref q10, .ref q18, .ref q26, .ref q34, .null, .int 0, .int 0, .int 0, .int 0])), (q10, .inl (cI, n0, .inl (fun _ => 0))), (q18, .inl (cI, 12, .inl (fun _ => 0))), (q26, .inl (cI, 12, .inl (fun _ => 0))), (q34, .inl (cI, 12, .inl (fun _ => 0))), (q42, .inl (cI, 32, .inl (fun _ => 0)))] := hD
  refine pf_RX9_30 S hin hK hP hD hS 0 rfl (v := .ref q42) (Nat.le_of_ble_eq_true rfl) rfl rfl (oc_181 44 (aq_20 shX9_init_24) uw_0_30) (fun H locs hP hD hS => ?_)
  have hP : va_P D vwCl [(x, .inr (10, [.ref q10, .ref q18, .ref q26, .ref q34, .ref q42, .int 0, .int 0, .int 0, .int 0])), (q10, .inl (cI, n0, .inl (fun _ => 0))), (q18, .inl (cI, 12, .inl (fun _ => 0))), (q26, .inl (cI, 12, .inl (fun _ => 0))), (q34, .inl (cI, 12, .inl (fun _ => 0))), (q42, .inl (cI, 32, .inl (fun _ => 0)))] H := hP
  have hD : va_D A [(x, .inr (10, [.ref q10, .ref q18, .ref q26, .ref q34, .ref q42, .int 0, .int 0, .int 0, .int 0])), (q10, .inl (cI, n0, .inl (fun _ => 0))), (q18, .inl (cI, 12, .inl (fun _ => 0))), (q26, .inl (cI, 12, .inl (fun _ => 0))), (q34, .inl (cI, 12, .inl (fun _ => 0))), (q42, .inl (cI, 32, .inl (fun _ => 0)))] := hD
  have hP9 := hP.sub (ws' := [(x, .inr (10, [.ref q10, .ref q18, .ref q26, .ref q34, .ref q42, .int 0, .int 0, .int 0, .int 0])), (q10, .inl (cI, n0, .inl (fun _ => 0))), (q18, .inl (cI, 12, .inl (fun _ => 0))), (q26, .inl (cI, 12, .inl (fun _ => 0))), (q34, .inl (cI, 12, .inl (fun _ => 0))), (q42, .inl (cI, 32, .inl (fun _ => 0)))]) [0, 1, 2, 3, 4, 5] rfl
  have hD9 := hD.sub (ws' := [(x, .inr (10, [.ref q10, .ref q18, .ref q26, .ref q34, .ref q42, .int 0, .int 0, .int 0, .int 0])), (q10, .inl (cI, n0, .inl (fun _ => 0))), (q18, .inl (cI, 12, .inl (fun _ => 0))), (q26, .inl (cI, 12, .inl (fun _ => 0))), (q34, .inl (cI, 12, .inl (fun _ => 0))), (q42, .inl (cI, 32, .inl (fun _ => 0)))]) [0, 1, 2, 3, 4, 5] (by decide) rfl
  exact W.vret hx hb hr (fun t ht hW => ⟨⟨(fun k => ([q10, q18, q26, q34, q42] : List Nat).getD k 0), rfl, trivial, by rw [ht]; exact hP9, hD9⟩, hS.F ht⟩) hS.2.2 (oc_177 47 (aq_23 shX9_init_24))
end
