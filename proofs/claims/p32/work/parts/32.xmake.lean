theorem ne_ex {X : va_W} {i m : Nat} {c : Nat × va_E} (h : X[i]? = some c) : i ≠ X.length + m := by
  have := (List.getElem?_eq_some_iff.mp h).1
  omega
theorem xij {cI QA : ClassId} {zz : Nat} {g : Nat → Nat} {ad : Nat → Nat → Nat} {cn : Nat → Nat} {In : Nat → Int32} {Fn : Nat → Nat → Int32} {i k : Nat} (h : i < 30) : i ≠ (fxX cI QA zz g ad cn In Fn).length + k := by
  have e : (fxX cI QA zz g ad cn In Fn).length = 30 := rfl
  omega
theorem set_same9 {α : Type} {V : List α} {k : Nat} {x : α} (q : V[k]? = some x) : V.set k x = V := by
  obtain ⟨lk, ek⟩ := List.getElem?_eq_some_iff.mp q
  rw [← ek]; exact List.set_getElem_self lk
theorem nI_mt {c : Nat} (h : c < 2 ^ 31) : (nI c - 1).toInt = (c : Int) - 1 := by
  rcases Nat.eq_zero_or_pos c with rfl | q
  · rfl
  · rw [show nI c - 1 = nI (c - 1) from nI_sub (b := 1) q, nI_toInt (by omega)]; omega
section ADDJ
variable {D : va_G} {cl : List vw_C} {A0 A1 : Nat → Prop} {X ex exE X2 ws9 : va_W} {i j a b c : Nat} {e1 e3 d1 d2 : va_E} {L' E' O c1 c2 : Nat × va_E} {H H1 : Heap}
theorem add0_join (hP : va_P D cl (X ++ ex) H) (hD : va_D A0 (X ++ ex)) (hi : X[i]? = some (a, e1)) (hm : ex[0]? = some (c, e3)) (hk : ∀ q : Nat, q < H.size → ¬ va_A [(a, e1), (c, e3)] H.size q → H1[q]? = H[q]?) (hF : ∀ q, va_A [(a, e1), (c, e3)] H.size q → A0 q) (hP1 : va_P D cl [(a, d1), (b, d2), (c, e3)] H1) (hD1 : va_D (va_A [(a, e1), (c, e3)] H.size) [(a, d1), (b, d2), (c, e3)]) (he : ex ++ [(b, d2)] = exE) (hp : List.Perm (X.set i (a, d1) ++ exE) X2) : va_P D cl X2 H1 ∧ va_D A0 X2 := by
  obtain ⟨p, q⟩ := wset2e hP hD (exl hi) (exr hm) (ne_ex hi) hk hF hP1 hD1
  have e : (((X ++ ex).set i (a, d1)).set (X.length + 0) (c, e3)) ++ [(b, d2)] = X.set i (a, d1) ++ exE := by
    rw [exs_l hi rfl, ← he, ← List.append_assoc]
    have e2 := exs_r (X := X.set i (a, d1)) (ex := ex) (m := 0) (c := (c, e3)) (ex' := ex) (set_same9 hm)
    rw [List.length_set] at e2
    rw [e2]
  rw [e] at p q
  exact ⟨va_P_perm hp p, va_D_perm hp q⟩
theorem addG_join (hp2 : ∀ L' E' : Nat × va_E, (((X ++ ex).set i L').set j E').Perm (([L', E', O] : va_W) ++ ws9)) (hi : X[i]? = some c1) (hj : X[j]? = some c2) (hP1 : va_P D cl (([L', E', O] : va_W) ++ ws9) H1) (hD1 : va_D A1 (([L', E', O] : va_W) ++ ws9)) (hF : ∀ q, A1 q → A0 q) (hp : List.Perm (((X.set i L').set j E') ++ ex) X2) : va_P D cl X2 H1 ∧ va_D A0 X2 := by
  have li := (List.getElem?_eq_some_iff.mp hi).1
  have lj := (List.getElem?_eq_some_iff.mp hj).1
  have e : ((X ++ ex).set i L').set j E' = ((X.set i L').set j E') ++ ex := by
    rw [List.set_append_left _ _ li, List.set_append_left _ _ (by rw [List.length_set]; exact lj)]
  have p := va_P_perm (hp2 L' E').symm hP1
  have q := va_D_perm (hp2 L' E').symm (hD1.weaken (fun _ _ _ h => hF _ h))
  rw [e] at p q
  exact ⟨va_P_perm hp p, va_D_perm hp q⟩
end ADDJ
theorem xlz_0 {cI QA : ClassId} {zz : Nat} {g : Nat → Nat} {ad : Nat → Nat → Nat} {cn : Nat → Nat} {In : Nat → Int32} {Fn : Nat → Nat → Int32} (h : cn 10 = 0) : (wX cI QA zz g ad cn In Fn)[24]? = some (g 10, .inr (0, [.int (In 10), .ref zz, .int 0])) := by
  rw [xo_24, if_pos h, h]; rfl
theorem xlz_1 {cI QA : ClassId} {zz : Nat} {g : Nat → Nat} {ad : Nat → Nat → Nat} {cn : Nat → Nat} {In : Nat → Int32} {Fn : Nat → Nat → Int32} (h : cn 11 = 0) : (wX cI QA zz g ad cn In Fn)[25]? = some (g 11, .inr (0, [.int (In 11), .ref zz, .int 0])) := by
  rw [xo_25, if_pos h, h]; rfl
theorem xlz_2 {cI QA : ClassId} {zz : Nat} {g : Nat → Nat} {ad : Nat → Nat → Nat} {cn : Nat → Nat} {In : Nat → Int32} {Fn : Nat → Nat → Int32} (h : cn 12 = 0) : (wX cI QA zz g ad cn In Fn)[26]? = some (g 12, .inr (0, [.int (In 12), .ref zz, .int 0])) := by
  rw [xo_26, if_pos h, h]; rfl
theorem xlz_3 {cI QA : ClassId} {zz : Nat} {g : Nat → Nat} {ad : Nat → Nat → Nat} {cn : Nat → Nat} {In : Nat → Int32} {Fn : Nat → Nat → Int32} (h : cn 13 = 0) : (wX cI QA zz g ad cn In Fn)[27]? = some (g 13, .inr (0, [.int (In 13), .ref zz, .int 0])) := by
  rw [xo_27, if_pos h, h]; rfl
theorem xlz_4 {cI QA : ClassId} {zz : Nat} {g : Nat → Nat} {ad : Nat → Nat → Nat} {cn : Nat → Nat} {In : Nat → Int32} {Fn : Nat → Nat → Int32} (h : cn 14 = 0) : (wX cI QA zz g ad cn In Fn)[28]? = some (g 14, .inr (0, [.int (In 14), .ref zz, .int 0])) := by
  rw [xo_28, if_pos h, h]; rfl
theorem xlz_5 {cI QA : ClassId} {zz : Nat} {g : Nat → Nat} {ad : Nat → Nat → Nat} {cn : Nat → Nat} {In : Nat → Int32} {Fn : Nat → Nat → Int32} (h : cn 15 = 0) : (wX cI QA zz g ad cn In Fn)[29]? = some (g 15, .inr (0, [.int (In 15), .ref zz, .int 0])) := by
  rw [xo_29, if_pos h, h]; rfl
theorem xu_1 {cI QA : ClassId} {zz : Nat} {g : Nat → Nat} {ad : Nat → Nat → Nat} {cn : Nat → Nat} {In : Nat → Int32} {Fn : Nat → Nat → Int32} {q z c : Nat} {y x0 x1 x2 x3 x4 x5 x6 x7 x8 x9 : Int32} (h0 : cn 11 = 0) : List.Perm (((wX cI QA zz g ad cn In Fn).set 25 (g 11, .inr (0, [.int y, .ref z, .int (nI 1)]))) ++ ([(q, .inr (3, [.int x0, .int x1, .int x2, .int x3, .int x4, .int x5, .int x6, .int x7, .int x8, .int x9])), (z, .inl (QA, c, .inr (.inr (.inr (.inr (va_up (fun _ => none) 0 (some q)))))))] : va_W)) (wX cI QA zz g (adP ad 11 (cn 11) q 1 z) (va_up (va_up cn 11 ((cn 11) + 1)) 21 c) (va_up In 11 y) (va_up (va_up (va_up (va_up (va_up (va_up (va_up (va_up (va_up (va_up Fn 120 (upd (Fn 120) (cn 11) x0)) 121 (upd (Fn 121) (cn 11) x1)) 122 (upd (Fn 122) (cn 11) x2)) 123 (upd (Fn 123) (cn 11) x3)) 124 (upd (Fn 124) (cn 11) x4)) 125 (upd (Fn 125) (cn 11) x5)) 126 (upd (Fn 126) (cn 11) x6)) 127 (upd (Fn 127) (cn 11) x7)) 128 (upd (Fn 128) (cn 11) x8)) 129 (upd (Fn 129) (cn 11) x9))) := by
  have h9 := xadd0_1 (cI := cI) (QA := QA) (zz := zz) (g := g) (ad := ad) (cn := cn) (In := In) (Fn := Fn) (q := q) (z := z) (c := c) (x0 := x0) (x1 := x1) (x2 := x2) (x3 := x3) (x4 := x4) (x5 := x5) (x6 := x6) (x7 := x7) (x8 := x8) (x9 := x9) (y := y) h0
  rw [h0]
  exact h9
theorem xu_3 {cI QA : ClassId} {zz : Nat} {g : Nat → Nat} {ad : Nat → Nat → Nat} {cn : Nat → Nat} {In : Nat → Int32} {Fn : Nat → Nat → Int32} {q z c : Nat} {y x0 x1 x2 x3 x4 : Int32} (h0 : cn 13 = 0) : List.Perm (((wX cI QA zz g ad cn In Fn).set 27 (g 13, .inr (0, [.int y, .ref z, .int (nI 1)]))) ++ ([(q, .inr (5, [.int x0, .int x1, .int x2, .int x3, .int x4])), (z, .inl (QA, c, .inr (.inr (.inr (.inr (va_up (fun _ => none) 0 (some q)))))))] : va_W)) (wX cI QA zz g (adP ad 13 (cn 13) q 3 z) (va_up (va_up cn 13 ((cn 13) + 1)) 23 c) (va_up In 13 y) (va_up (va_up (va_up (va_up (va_up Fn 160 (upd (Fn 160) (cn 13) x0)) 161 (upd (Fn 161) (cn 13) x1)) 162 (upd (Fn 162) (cn 13) x2)) 163 (upd (Fn 163) (cn 13) x3)) 164 (upd (Fn 164) (cn 13) x4))) := by
  have h9 := xadd0_3 (cI := cI) (QA := QA) (zz := zz) (g := g) (ad := ad) (cn := cn) (In := In) (Fn := Fn) (q := q) (z := z) (c := c) (x0 := x0) (x1 := x1) (x2 := x2) (x3 := x3) (x4 := x4) (y := y) h0
  rw [h0]
  exact h9
theorem xu_4 {cI QA : ClassId} {zz : Nat} {g : Nat → Nat} {ad : Nat → Nat → Nat} {cn : Nat → Nat} {In : Nat → Int32} {Fn : Nat → Nat → Int32} {q z c : Nat} {y x0 x1 x2 : Int32} (h0 : cn 14 = 0) : List.Perm (((wX cI QA zz g ad cn In Fn).set 28 (g 14, .inr (0, [.int y, .ref z, .int (nI 1)]))) ++ ([(q, .inr (7, [.int x0, .int x1, .int x2])), (z, .inl (QA, c, .inr (.inr (.inr (.inr (va_up (fun _ => none) 0 (some q)))))))] : va_W)) (wX cI QA zz g (adP ad 14 (cn 14) q 4 z) (va_up (va_up cn 14 ((cn 14) + 1)) 24 c) (va_up In 14 y) (va_up (va_up (va_up Fn 170 (upd (Fn 170) (cn 14) x0)) 171 (upd (Fn 171) (cn 14) x1)) 172 (upd (Fn 172) (cn 14) x2))) := by
  have h9 := xadd0_4 (cI := cI) (QA := QA) (zz := zz) (g := g) (ad := ad) (cn := cn) (In := In) (Fn := Fn) (q := q) (z := z) (c := c) (x0 := x0) (x1 := x1) (x2 := x2) (y := y) h0
  rw [h0]
  exact h9
theorem xu_5 {cI QA : ClassId} {zz : Nat} {g : Nat → Nat} {ad : Nat → Nat → Nat} {cn : Nat → Nat} {In : Nat → Int32} {Fn : Nat → Nat → Int32} {q z c : Nat} {y x0 x1 x2 : Int32} (h0 : cn 15 = 0) : List.Perm (((wX cI QA zz g ad cn In Fn).set 29 (g 15, .inr (0, [.int y, .ref z, .int (nI 1)]))) ++ ([(q, .inr (4, [.int x0, .int x1, .int x2])), (z, .inl (QA, c, .inr (.inr (.inr (.inr (va_up (fun _ => none) 0 (some q)))))))] : va_W)) (wX cI QA zz g (adP ad 15 (cn 15) q 5 z) (va_up (va_up cn 15 ((cn 15) + 1)) 25 c) (va_up In 15 y) (va_up (va_up (va_up Fn 180 (upd (Fn 180) (cn 15) x0)) 181 (upd (Fn 181) (cn 15) x1)) 182 (upd (Fn 182) (cn 15) x2))) := by
  have h9 := xadd0_5 (cI := cI) (QA := QA) (zz := zz) (g := g) (ad := ad) (cn := cn) (In := In) (Fn := Fn) (q := q) (z := z) (c := c) (x0 := x0) (x1 := x1) (x2 := x2) (y := y) h0
  rw [h0]
  exact h9
theorem xuK {cI QA : ClassId} {zz : Nat} {g : Nat → Nat} {ad : Nat → Nat → Nat} {cn : Nat → Nat} {In : Nat → Int32} {Fn : Nat → Nat → Int32} {q qt r0 r1 r2 r3 r4 z c : Nat} {y x0 x1 x2 x3 x4 x5 x6 x7 x8 x9 : Int32} (h0 : cn 10 = 0) (hT : ∀ k : Nat, k < cn 10 → ad 3 k < cn 6) (h40 : ad 4 0 < cn 6) (h41 : ad 4 1 < cn 6) : List.Perm (((wX cI QA zz g ad cn In Fn).set 24 (g 10, .inr (0, [.int y, .ref z, .int (nI (0 + 1))]))) ++ ([(q, .inr (2, [.int x0, .int x1, .int x2, .int x3, .int x4, .int x5, .int x6, .int x7, .int x8, .int x9, .ref qt])), (qt, .inr (10, [.ref r0, .ref r1, .ref r2, .ref r3, .ref r4, .int 0, .int 0, .int 0, .int 0])), (r0, .inl (cI, 0, .inl (fun _ => 0))), (r1, .inl (cI, 12, .inl (fun _ => 0))), (r2, .inl (cI, 12, .inl (fun _ => 0))), (r3, .inl (cI, 12, .inl (fun _ => 0))), (r4, .inl (cI, 32, .inl (fun _ => 0))), (z, .inl (QA, c, .inr (.inr (.inr (.inr (va_up (fun _ => none) 0 (some q)))))))] : va_W)) (wX cI QA zz g (adO (adO (adO (adO (adO (adO (adO (adO (adO ad 10 (cn 10) q) 3 (cn 10) (cn 6)) 5 (cn 6) qt) 60 (cn 6) r0) 61 (cn 6) r1) 62 (cn 6) r2) 63 (cn 6) r3) 64 (cn 6) r4) 2 0 z) (va_up (va_up (va_up cn 10 ((cn 10) + 1)) 20 c) 6 (cn 6 + 1)) (va_up In 10 y) (va_up (va_up (va_up (va_up (va_up (va_up (va_up (va_up (va_up (va_up (va_up (va_up (va_up (va_up (va_up (va_up (va_up (va_up (va_up (va_up Fn 100 (upd (Fn 100) (cn 10) x0)) 101 (upd (Fn 101) (cn 10) x1)) 102 (upd (Fn 102) (cn 10) x2)) 103 (upd (Fn 103) (cn 10) x3)) 104 (upd (Fn 104) (cn 10) x4)) 105 (upd (Fn 105) (cn 10) x5)) 106 (upd (Fn 106) (cn 10) x6)) 107 (upd (Fn 107) (cn 10) x7)) 108 (upd (Fn 108) (cn 10) x8)) 109 (upd (Fn 109) (cn 10) x9)) 195 (upd (Fn 195) (cn 6) 0)) 196 (upd (Fn 196) (cn 6) 0)) 197 (upd (Fn 197) (cn 6) 0)) 198 (upd (Fn 198) (cn 6) 0)) 199 (upd (Fn 199) (cn 6) 0)) 301 (flat (Fn 301) 200 (cn 6) (fun _ => 0))) 302 (flat (Fn 302) 12 (cn 6) (fun _ => 0))) 303 (flat (Fn 303) 12 (cn 6) (fun _ => 0))) 304 (flat (Fn 304) 12 (cn 6) (fun _ => 0))) 305 (flat (Fn 305) 32 (cn 6) (fun _ => 0)))) := by
  have h9 := xaddK0 (cI := cI) (QA := QA) (zz := zz) (g := g) (ad := ad) (cn := cn) (In := In) (Fn := Fn) (q := q) (qt := qt) (r0 := r0) (r1 := r1) (r2 := r2) (r3 := r3) (r4 := r4) (z := z) (c := c) (x0 := x0) (x1 := x1) (x2 := x2) (x3 := x3) (x4 := x4) (x5 := x5) (x6 := x6) (x7 := x7) (x8 := x8) (x9 := x9) (y := y) h0 hT h40 h41
  rw [h0]
  exact h9
theorem xuB {cI QA : ClassId} {zz : Nat} {g : Nat → Nat} {ad : Nat → Nat → Nat} {cn : Nat → Nat} {In : Nat → Int32} {Fn : Nat → Nat → Int32} {q qs z c : Nat} {f : Nat → Int32} {y x1 x2 x3 x4 x5 x6 x7 : Int32} (h0 : cn 12 = 0) (hf0 : ∀ i : Nat, 12 ≤ i → f i = 0) : List.Perm (((wX cI QA zz g ad cn In Fn).set 26 (g 12, .inr (0, [.int y, .ref z, .int (nI (0 + 1))]))) ++ ([(q, .inr (1, [.ref qs, .int x1, .int x2, .int x3, .int x4, .int x5, .int x6, .int x7])), (qs, .inl (cI, 12, .inl f)), (z, .inl (QA, c, .inr (.inr (.inr (.inr (va_up (fun _ => none) 0 (some q)))))))] : va_W)) (wX cI QA zz g (adO (adO (adO ad 12 (cn 12) q) 1 (cn 12) qs) 2 2 z) (va_up (va_up cn 12 ((cn 12) + 1)) 22 c) (va_up In 12 y) (va_up (va_up (va_up (va_up (va_up (va_up (va_up (va_up Fn 141 (upd (Fn 141) (cn 12) x1)) 142 (upd (Fn 142) (cn 12) x2)) 143 (upd (Fn 143) (cn 12) x3)) 144 (upd (Fn 144) (cn 12) x4)) 145 (upd (Fn 145) (cn 12) x5)) 146 (upd (Fn 146) (cn 12) x6)) 147 (upd (Fn 147) (cn 12) x7)) 150 (flat (Fn 150) 12 (cn 12) f))) := by
  have h9 := xaddB0 (cI := cI) (QA := QA) (zz := zz) (g := g) (ad := ad) (cn := cn) (In := In) (Fn := Fn) (q := q) (qs := qs) (z := z) (c := c) (x1 := x1) (x2 := x2) (x3 := x3) (x4 := x4) (x5 := x5) (x6 := x6) (x7 := x7) (y := y) h0 hf0
  rw [h0]
  exact h9

set_option maxRecDepth 100000 in
theorem kI_RX11_475 : CalI RX11 475 yX6_init cX6_init 3 2 := ⟨⟨wk5_17 7 rfl rfl, wk5_17 8 rfl rfl, wk1_2 1 rfl rfl, wk5_17 9 rfl rfl⟩, rfl, ⟨nmh_7.1, nmh_7.2, pd_20⟩⟩
set_option maxRecDepth 100000 in
theorem kV_RX11_110 : CalV RX11 110 yJx4a65c_add_9ea2d cJx4a65c_add_9ea2d 2 (some .boolean) 1 := ⟨⟨wk2_9 6 rfl rfl, wk2_9 7 rfl rfl, wk2_9 8 rfl rfl, wk1_1 0 rfl rfl, wk2_9 9 rfl rfl⟩, ⟨nmh_21.1, nmh_21.2, pd_57⟩⟩
set_option maxRecDepth 100000 in
theorem kI_RX11_107 : CalI RX11 107 yX1_init cX1_init 5 4 := ⟨⟨wk2_5 5 rfl rfl, wk2_5 6 rfl rfl, wk1_1 2 rfl rfl, wk2_5 7 rfl rfl⟩, rfl, ⟨nmh_2.1, nmh_2.2, pd_29⟩⟩
set_option maxRecDepth 100000 in
theorem kI_RX11_513 : CalI RX11 513 yX3_init cX3_init 4 3 := ⟨⟨wk6_3 5 rfl rfl, wk6_3 6 rfl rfl, wk1_2 2 rfl rfl, wk6_3 7 rfl rfl⟩, rfl, ⟨nmh_4.1, nmh_4.2, pd_25⟩⟩
set_option maxRecDepth 100000 in
theorem kI_RX11_399 : CalI RX11 399 yX4_init cX4_init 6 5 := ⟨⟨wk5_6 1 rfl rfl, wk5_6 2 rfl rfl, wk1_2 0 rfl rfl, wk5_6 3 rfl rfl⟩, rfl, ⟨nmh_5.1, nmh_5.2, pd_32⟩⟩
set_option maxRecDepth 100000 in
theorem kI_RX11_125 : CalI RX11 125 yX2_init cX2_init 7 6 := ⟨⟨wk2_17 2 rfl rfl, wk2_17 3 rfl rfl, wk1_1 7 rfl rfl, wk2_17 4 rfl rfl⟩, rfl, ⟨nmh_3.1, nmh_3.2, pd_34⟩⟩
set_option maxRecDepth 100000 in
theorem pf_RX11_128 {p : Program} {l : Launch} {e : Env} {R : Room} {s : State} {m : MethodId} {args : Array Value} {below : List Frame} {meth : Method} {c : Code} {H : Heap} {locs : List Loc} {cells slots : Nat} {Q : State → Prop} {cc : ByteArray} {nL pc : Nat} {D : va_G} {cI cB cZ : ClassId} {ws : va_W} {rest : List Value} {ls : Array Slot} {a : Nat} {fs : List Value} {v : Value} {A : Nat → Prop} {H0 : Heap} (S : SF p m c cc nL s args RX11) (hK : KK D cI cB cZ s) (hP : va_P D vwCl ws H) (hD : va_D A ws) (hS : va_S A H0 H locs) (q0 : Nat) (he : ws[q0]? = some (a, .inr (3, fs))) (hl : 6 < fs.length) (hn : narrow (tyX2 6) v = v) (hfit : fits (tyX2 6) v = true) (hdg : decode cc pc = .ok (.putfield 128, 3)) (kk : ∀ (H1 : Heap) (locs1 : List Loc), va_P D vwCl (ws.set q0 (a, .inr (3, fs.set 6 v))) H1 → va_D A (ws.set q0 (a, .inr (3, fs.set 6 v))) → va_S A H0 H1 locs1 → W p l e R s m args below meth c H1 locs1 cells slots Q (F0 m (pc + 3) ls rest)) : W p l e R s m args below meth c H locs cells slots Q (F0 m pc ls (v :: .ref a :: rest)) :=
  va_put (C := RX2) (T := TX2) (N := 10) S.1 S.2.1 S.2.2.2.2 hin_RX2 tyX2 tyX2_ok nmX2 S.2.2.2.1 hK.1 hP hD hS q0 he rfl 6 (by decide) (S.2.2.2.2 _ (wk2_18 9 rfl rfl)) (fun _ h9 => h9) rfl (tyX2_ok 6 (by decide)) hn hfit hl hdg kk
set_option maxRecDepth 100000 in
theorem gf_RX11_131 {p : Program} {l : Launch} {e : Env} {R : Room} {s : State} {m : MethodId} {args : Array Value} {below : List Frame} {meth : Method} {c : Code} {H : Heap} {locs : List Loc} {cells slots : Nat} {Q : State → Prop} {cc : ByteArray} {nL pc : Nat} {D : va_G} {cI cB cZ : ClassId} {ws : va_W} {rest : List Value} {ls : Array Slot} {a : Nat} {fs : List Value} {v : Value} (S : SF p m c cc nL s args RX11) (hK : KK D cI cB cZ s) (hP : va_P D vwCl ws H) (q0 : Nat) (he : ws[q0]? = some (a, .inr (2, fs))) (hv : fs[6]? = some v) (hdg : decode cc pc = .ok (.getfield 131, 3)) (kk : W p l e R s m args below meth c H locs cells slots Q (F0 m (pc + 3) ls (v :: rest))) : W p l e R s m args below meth c H locs cells slots Q (F0 m pc ls (.ref a :: rest)) :=
  va_get (C := RX1) (T := TX1) (N := 11) S.1 S.2.1 S.2.2.2.2 hin_RX1 S.2.2.2.1 hK.1 hP q0 he rfl 6 (by decide) (S.2.2.2.2 _ (wk2_6 11 rfl rfl)) (fun _ h9 => h9) hv hdg kk
set_option maxRecDepth 100000 in
theorem pf_RX11_134 {p : Program} {l : Launch} {e : Env} {R : Room} {s : State} {m : MethodId} {args : Array Value} {below : List Frame} {meth : Method} {c : Code} {H : Heap} {locs : List Loc} {cells slots : Nat} {Q : State → Prop} {cc : ByteArray} {nL pc : Nat} {D : va_G} {cI cB cZ : ClassId} {ws : va_W} {rest : List Value} {ls : Array Slot} {a : Nat} {fs : List Value} {v : Value} {A : Nat → Prop} {H0 : Heap} (S : SF p m c cc nL s args RX11) (hK : KK D cI cB cZ s) (hP : va_P D vwCl ws H) (hD : va_D A ws) (hS : va_S A H0 H locs) (q0 : Nat) (he : ws[q0]? = some (a, .inr (3, fs))) (hl : 7 < fs.length) (hn : narrow (tyX2 7) v = v) (hfit : fits (tyX2 7) v = true) (hdg : decode cc pc = .ok (.putfield 134, 3)) (kk : ∀ (H1 : Heap) (locs1 : List Loc), va_P D vwCl (ws.set q0 (a, .inr (3, fs.set 7 v))) H1 → va_D A (ws.set q0 (a, .inr (3, fs.set 7 v))) → va_S A H0 H1 locs1 → W p l e R s m args below meth c H1 locs1 cells slots Q (F0 m (pc + 3) ls rest)) : W p l e R s m args below meth c H locs cells slots Q (F0 m pc ls (v :: .ref a :: rest)) :=
  va_put (C := RX2) (T := TX2) (N := 10) S.1 S.2.1 S.2.2.2.2 hin_RX2 tyX2 tyX2_ok nmX2 S.2.2.2.1 hK.1 hP hD hS q0 he rfl 7 (by decide) (S.2.2.2.2 _ (wk2_18 10 rfl rfl)) (fun _ h9 => h9) rfl (tyX2_ok 7 (by decide)) hn hfit hl hdg kk
set_option maxRecDepth 100000 in
theorem pf_RX11_141 {p : Program} {l : Launch} {e : Env} {R : Room} {s : State} {m : MethodId} {args : Array Value} {below : List Frame} {meth : Method} {c : Code} {H : Heap} {locs : List Loc} {cells slots : Nat} {Q : State → Prop} {cc : ByteArray} {nL pc : Nat} {D : va_G} {cI cB cZ : ClassId} {ws : va_W} {rest : List Value} {ls : Array Slot} {a : Nat} {fs : List Value} {v : Value} {A : Nat → Prop} {H0 : Heap} (S : SF p m c cc nL s args RX11) (hK : KK D cI cB cZ s) (hP : va_P D vwCl ws H) (hD : va_D A ws) (hS : va_S A H0 H locs) (q0 : Nat) (he : ws[q0]? = some (a, .inr (3, fs))) (hl : 8 < fs.length) (hn : narrow (tyX2 8) v = v) (hfit : fits (tyX2 8) v = true) (hdg : decode cc pc = .ok (.putfield 141, 3)) (kk : ∀ (H1 : Heap) (locs1 : List Loc), va_P D vwCl (ws.set q0 (a, .inr (3, fs.set 8 v))) H1 → va_D A (ws.set q0 (a, .inr (3, fs.set 8 v))) → va_S A H0 H1 locs1 → W p l e R s m args below meth c H1 locs1 cells slots Q (F0 m (pc + 3) ls rest)) : W p l e R s m args below meth c H locs cells slots Q (F0 m pc ls (v :: .ref a :: rest)) :=
  va_put (C := RX2) (T := TX2) (N := 10) S.1 S.2.1 S.2.2.2.2 hin_RX2 tyX2 tyX2_ok nmX2 S.2.2.2.1 hK.1 hP hD hS q0 he rfl 8 (by decide) (S.2.2.2.2 _ (wk2_18 11 rfl rfl)) (fun _ h9 => h9) rfl (tyX2_ok 8 (by decide)) hn hfit hl hdg kk
set_option maxRecDepth 100000 in
theorem pf_RX11_118 {p : Program} {l : Launch} {e : Env} {R : Room} {s : State} {m : MethodId} {args : Array Value} {below : List Frame} {meth : Method} {c : Code} {H : Heap} {locs : List Loc} {cells slots : Nat} {Q : State → Prop} {cc : ByteArray} {nL pc : Nat} {D : va_G} {cI cB cZ : ClassId} {ws : va_W} {rest : List Value} {ls : Array Slot} {a : Nat} {fs : List Value} {v : Value} {A : Nat → Prop} {H0 : Heap} (S : SF p m c cc nL s args RX11) (hK : KK D cI cB cZ s) (hP : va_P D vwCl ws H) (hD : va_D A ws) (hS : va_S A H0 H locs) (q0 : Nat) (he : ws[q0]? = some (a, .inr (2, fs))) (hl : 4 < fs.length) (hn : narrow (tyX1 4) v = v) (hfit : fits (tyX1 4) v = true) (hdg : decode cc pc = .ok (.putfield 118, 3)) (kk : ∀ (H1 : Heap) (locs1 : List Loc), va_P D vwCl (ws.set q0 (a, .inr (2, fs.set 4 v))) H1 → va_D A (ws.set q0 (a, .inr (2, fs.set 4 v))) → va_S A H0 H1 locs1 → W p l e R s m args below meth c H1 locs1 cells slots Q (F0 m (pc + 3) ls rest)) : W p l e R s m args below meth c H locs cells slots Q (F0 m pc ls (v :: .ref a :: rest)) :=
  va_put (C := RX1) (T := TX1) (N := 11) S.1 S.2.1 S.2.2.2.2 hin_RX1 tyX1 tyX1_ok nmX1 S.2.2.2.1 hK.1 hP hD hS q0 he rfl 4 (by decide) (S.2.2.2.2 _ (wk2_6 9 rfl rfl)) (fun _ h9 => h9) rfl (tyX1_ok 4 (by decide)) hn hfit hl hdg kk
set_option maxRecDepth 100000 in
theorem pf_RX11_131 {p : Program} {l : Launch} {e : Env} {R : Room} {s : State} {m : MethodId} {args : Array Value} {below : List Frame} {meth : Method} {c : Code} {H : Heap} {locs : List Loc} {cells slots : Nat} {Q : State → Prop} {cc : ByteArray} {nL pc : Nat} {D : va_G} {cI cB cZ : ClassId} {ws : va_W} {rest : List Value} {ls : Array Slot} {a : Nat} {fs : List Value} {v : Value} {A : Nat → Prop} {H0 : Heap} (S : SF p m c cc nL s args RX11) (hK : KK D cI cB cZ s) (hP : va_P D vwCl ws H) (hD : va_D A ws) (hS : va_S A H0 H locs) (q0 : Nat) (he : ws[q0]? = some (a, .inr (2, fs))) (hl : 6 < fs.length) (hn : narrow (tyX1 6) v = v) (hfit : fits (tyX1 6) v = true) (hdg : decode cc pc = .ok (.putfield 131, 3)) (kk : ∀ (H1 : Heap) (locs1 : List Loc), va_P D vwCl (ws.set q0 (a, .inr (2, fs.set 6 v))) H1 → va_D A (ws.set q0 (a, .inr (2, fs.set 6 v))) → va_S A H0 H1 locs1 → W p l e R s m args below meth c H1 locs1 cells slots Q (F0 m (pc + 3) ls rest)) : W p l e R s m args below meth c H locs cells slots Q (F0 m pc ls (v :: .ref a :: rest)) :=
  va_put (C := RX1) (T := TX1) (N := 11) S.1 S.2.1 S.2.2.2.2 hin_RX1 tyX1 tyX1_ok nmX1 S.2.2.2.1 hK.1 hP hD hS q0 he rfl 6 (by decide) (S.2.2.2.2 _ (wk2_6 11 rfl rfl)) (fun _ h9 => h9) rfl (tyX1_ok 6 (by decide)) hn hfit hl hdg kk
noncomputable def sxX11_sewer_61 : List UInt8 := []
noncomputable def sxX11_sewer_60 : List UInt8 := 172 :: sxX11_sewer_61
noncomputable def sxX11_sewer_59 : List UInt8 := 100 :: sxX11_sewer_60
noncomputable def sxX11_sewer_58 : List UInt8 := 4 :: sxX11_sewer_59
noncomputable def sxX11_sewer_55 : List UInt8 := 182 :: 0 :: 84 :: sxX11_sewer_58
noncomputable def sxX11_sewer_52 : List UInt8 := 180 :: 0 :: 74 :: sxX11_sewer_55
noncomputable def sxX11_sewer_51 : List UInt8 := 42 :: sxX11_sewer_52
noncomputable def sxX11_sewer_50 : List UInt8 := 87 :: sxX11_sewer_51
noncomputable def sxX11_sewer_47 : List UInt8 := 182 :: 0 :: 110 :: sxX11_sewer_50
noncomputable def sxX11_sewer_44 : List UInt8 := 183 :: 1 :: 219 :: sxX11_sewer_47
noncomputable def sxX11_sewer_43 : List UInt8 := 28 :: sxX11_sewer_44
noncomputable def sxX11_sewer_42 : List UInt8 := 27 :: sxX11_sewer_43
noncomputable def sxX11_sewer_41 : List UInt8 := 89 :: sxX11_sewer_42
noncomputable def sxX11_sewer_38 : List UInt8 := 187 :: 1 :: 217 :: sxX11_sewer_41
noncomputable def sxX11_sewer_35 : List UInt8 := 180 :: 0 :: 74 :: sxX11_sewer_38
noncomputable def sxX11_sewer_34 : List UInt8 := 42 :: sxX11_sewer_35
noncomputable def sxX11_sewer_33 : List UInt8 := 172 :: sxX11_sewer_34
noncomputable def sxX11_sewer_32 : List UInt8 := 2 :: sxX11_sewer_33
noncomputable def sxX11_sewer_29 : List UInt8 := 161 :: 0 :: 5 :: sxX11_sewer_32
noncomputable def sxX11_sewer_27 : List UInt8 := 16 :: 10 :: sxX11_sewer_29
noncomputable def sxX11_sewer_24 : List UInt8 := 182 :: 0 :: 84 :: sxX11_sewer_27
noncomputable def sxX11_sewer_21 : List UInt8 := 180 :: 0 :: 74 :: sxX11_sewer_24
noncomputable def sxX11_sewer_20 : List UInt8 := 42 :: sxX11_sewer_21
noncomputable def sxX11_sewer_17 : List UInt8 := 153 :: 0 :: 15 :: sxX11_sewer_20
noncomputable def sxX11_sewer_14 : List UInt8 := 184 :: 0 :: 80 :: sxX11_sewer_17
noncomputable def sxX11_sewer_12 : List UInt8 := 16 :: 99 :: sxX11_sewer_14
noncomputable def sxX11_sewer_11 : List UInt8 := 3 :: sxX11_sewer_12
noncomputable def sxX11_sewer_10 : List UInt8 := 28 :: sxX11_sewer_11
noncomputable def sxX11_sewer_7 : List UInt8 := 153 :: 0 :: 25 :: sxX11_sewer_10
noncomputable def sxX11_sewer_4 : List UInt8 := 184 :: 0 :: 80 :: sxX11_sewer_7
noncomputable def sxX11_sewer_2 : List UInt8 := 16 :: 99 :: sxX11_sewer_4
noncomputable def sxX11_sewer_1 : List UInt8 := 3 :: sxX11_sewer_2
noncomputable def sxX11_sewer_0 : List UInt8 := 27 :: sxX11_sewer_1
theorem shX11_sewer_0 : cX11_sewer.data.toList.drop 0 = sxX11_sewer_0 := rfl
theorem shX11_sewer_1 : cX11_sewer.data.toList.drop 1 = sxX11_sewer_1 := dSn 1 shX11_sewer_0
theorem shX11_sewer_2 : cX11_sewer.data.toList.drop 2 = sxX11_sewer_2 := dSn 1 shX11_sewer_1
theorem shX11_sewer_4 : cX11_sewer.data.toList.drop 4 = sxX11_sewer_4 := dSn 2 shX11_sewer_2
theorem shX11_sewer_7 : cX11_sewer.data.toList.drop 7 = sxX11_sewer_7 := dSn 3 shX11_sewer_4
theorem shX11_sewer_10 : cX11_sewer.data.toList.drop 10 = sxX11_sewer_10 := dSn 3 shX11_sewer_7
theorem shX11_sewer_11 : cX11_sewer.data.toList.drop 11 = sxX11_sewer_11 := dSn 1 shX11_sewer_10
theorem shX11_sewer_12 : cX11_sewer.data.toList.drop 12 = sxX11_sewer_12 := dSn 1 shX11_sewer_11
theorem shX11_sewer_14 : cX11_sewer.data.toList.drop 14 = sxX11_sewer_14 := dSn 2 shX11_sewer_12
theorem shX11_sewer_17 : cX11_sewer.data.toList.drop 17 = sxX11_sewer_17 := dSn 3 shX11_sewer_14
theorem shX11_sewer_20 : cX11_sewer.data.toList.drop 20 = sxX11_sewer_20 := dSn 3 shX11_sewer_17
theorem shX11_sewer_21 : cX11_sewer.data.toList.drop 21 = sxX11_sewer_21 := dSn 1 shX11_sewer_20
theorem shX11_sewer_24 : cX11_sewer.data.toList.drop 24 = sxX11_sewer_24 := dSn 3 shX11_sewer_21
theorem shX11_sewer_27 : cX11_sewer.data.toList.drop 27 = sxX11_sewer_27 := dSn 3 shX11_sewer_24
theorem shX11_sewer_29 : cX11_sewer.data.toList.drop 29 = sxX11_sewer_29 := dSn 2 shX11_sewer_27
theorem shX11_sewer_32 : cX11_sewer.data.toList.drop 32 = sxX11_sewer_32 := dSn 3 shX11_sewer_29
theorem shX11_sewer_33 : cX11_sewer.data.toList.drop 33 = sxX11_sewer_33 := dSn 1 shX11_sewer_32
theorem shX11_sewer_34 : cX11_sewer.data.toList.drop 34 = sxX11_sewer_34 := dSn 1 shX11_sewer_33
theorem shX11_sewer_35 : cX11_sewer.data.toList.drop 35 = sxX11_sewer_35 := dSn 1 shX11_sewer_34
theorem shX11_sewer_38 : cX11_sewer.data.toList.drop 38 = sxX11_sewer_38 := dSn 3 shX11_sewer_35
theorem shX11_sewer_41 : cX11_sewer.data.toList.drop 41 = sxX11_sewer_41 := dSn 3 shX11_sewer_38
theorem shX11_sewer_42 : cX11_sewer.data.toList.drop 42 = sxX11_sewer_42 := dSn 1 shX11_sewer_41
theorem shX11_sewer_43 : cX11_sewer.data.toList.drop 43 = sxX11_sewer_43 := dSn 1 shX11_sewer_42
theorem shX11_sewer_44 : cX11_sewer.data.toList.drop 44 = sxX11_sewer_44 := dSn 1 shX11_sewer_43
theorem shX11_sewer_47 : cX11_sewer.data.toList.drop 47 = sxX11_sewer_47 := dSn 3 shX11_sewer_44
theorem shX11_sewer_50 : cX11_sewer.data.toList.drop 50 = sxX11_sewer_50 := dSn 3 shX11_sewer_47
theorem shX11_sewer_51 : cX11_sewer.data.toList.drop 51 = sxX11_sewer_51 := dSn 1 shX11_sewer_50
theorem shX11_sewer_52 : cX11_sewer.data.toList.drop 52 = sxX11_sewer_52 := dSn 1 shX11_sewer_51
theorem shX11_sewer_55 : cX11_sewer.data.toList.drop 55 = sxX11_sewer_55 := dSn 3 shX11_sewer_52
theorem shX11_sewer_58 : cX11_sewer.data.toList.drop 58 = sxX11_sewer_58 := dSn 3 shX11_sewer_55
theorem shX11_sewer_59 : cX11_sewer.data.toList.drop 59 = sxX11_sewer_59 := dSn 1 shX11_sewer_58
theorem shX11_sewer_60 : cX11_sewer.data.toList.drop 60 = sxX11_sewer_60 := dSn 1 shX11_sewer_59
theorem dX11_sewer_0 : decode cX11_sewer 0 = .ok (.iload_n 1, 1) := oc_27 shX11_sewer_0
theorem dX11_sewer_1 : decode cX11_sewer 1 = .ok (.iconst 0, 1) := oc_3 shX11_sewer_1
theorem dX11_sewer_2 : decode cX11_sewer 2 = .ok (.bipush 99, 2) := oc_16 shX11_sewer_2 sgb_99
theorem dX11_sewer_4 : decode cX11_sewer 4 = .ok (.invokestatic 80, 3) := oc_184 shX11_sewer_4
theorem dX11_sewer_7 : decode cX11_sewer 7 = .ok (.ifCond .eq 25, 3) := oc_153 shX11_sewer_7 sgw_0_25
theorem dX11_sewer_10 : decode cX11_sewer 10 = .ok (.iload_n 2, 1) := oc_28 shX11_sewer_10
theorem dX11_sewer_11 : decode cX11_sewer 11 = .ok (.iconst 0, 1) := oc_3 shX11_sewer_11
theorem dX11_sewer_12 : decode cX11_sewer 12 = .ok (.bipush 99, 2) := oc_16 shX11_sewer_12 sgb_99
theorem dX11_sewer_14 : decode cX11_sewer 14 = .ok (.invokestatic 80, 3) := oc_184 shX11_sewer_14
theorem dX11_sewer_17 : decode cX11_sewer 17 = .ok (.ifCond .eq 15, 3) := oc_153 shX11_sewer_17 sgw_0_15
theorem dX11_sewer_20 : decode cX11_sewer 20 = .ok (.aload_n 0, 1) := oc_42 shX11_sewer_20
theorem dX11_sewer_21 : decode cX11_sewer 21 = .ok (.getfield 74, 3) := oc_180 shX11_sewer_21
theorem dX11_sewer_24 : decode cX11_sewer 24 = .ok (.invokevirtual 84, 3) := oc_182 shX11_sewer_24
theorem dX11_sewer_27 : decode cX11_sewer 27 = .ok (.bipush 10, 2) := oc_16 shX11_sewer_27 sgb_10
theorem dX11_sewer_29 : decode cX11_sewer 29 = .ok (.if_icmp .lt 5, 3) := oc_161 shX11_sewer_29 sgw_0_5
theorem dX11_sewer_34 : decode cX11_sewer 34 = .ok (.aload_n 0, 1) := oc_42 shX11_sewer_34
theorem dX11_sewer_35 : decode cX11_sewer 35 = .ok (.getfield 74, 3) := oc_180 shX11_sewer_35
theorem dX11_sewer_38 : decode cX11_sewer 38 = .ok (.new 473, 3) := oc_187 shX11_sewer_38
theorem dX11_sewer_41 : decode cX11_sewer 41 = .ok (.dup, 1) := oc_89 shX11_sewer_41
theorem dX11_sewer_42 : decode cX11_sewer 42 = .ok (.iload_n 1, 1) := oc_27 shX11_sewer_42
theorem dX11_sewer_43 : decode cX11_sewer 43 = .ok (.iload_n 2, 1) := oc_28 shX11_sewer_43
theorem dX11_sewer_44 : decode cX11_sewer 44 = .ok (.invokespecial 475, 3) := oc_183 shX11_sewer_44
theorem dX11_sewer_47 : decode cX11_sewer 47 = .ok (.invokevirtual 110, 3) := oc_182 shX11_sewer_47
theorem dX11_sewer_50 : decode cX11_sewer 50 = .ok (.pop, 1) := oc_87 shX11_sewer_50
theorem dX11_sewer_51 : decode cX11_sewer 51 = .ok (.aload_n 0, 1) := oc_42 shX11_sewer_51
theorem dX11_sewer_52 : decode cX11_sewer 52 = .ok (.getfield 74, 3) := oc_180 shX11_sewer_52
theorem dX11_sewer_55 : decode cX11_sewer 55 = .ok (.invokevirtual 84, 3) := oc_182 shX11_sewer_55
theorem dX11_sewer_58 : decode cX11_sewer 58 = .ok (.iconst 1, 1) := oc_4 shX11_sewer_58
theorem dX11_sewer_59 : decode cX11_sewer 59 = .ok (.isub, 1) := oc_100 shX11_sewer_59
theorem dX11_sewer_60 : decode cX11_sewer 60 = .ok (.ireturn, 1) := oc_172 shX11_sewer_60
theorem dX11_sewer_32 : decode cX11_sewer 32 = .ok (.iconst (-1), 1) := oc_2 shX11_sewer_32
theorem dX11_sewer_33 : decode cX11_sewer 33 = .ok (.ireturn, 1) := oc_172 shX11_sewer_33
noncomputable def sxX11_kitchen_99 : List UInt8 := []
noncomputable def sxX11_kitchen_98 : List UInt8 := 172 :: sxX11_kitchen_99
noncomputable def sxX11_kitchen_97 : List UInt8 := 100 :: sxX11_kitchen_98
noncomputable def sxX11_kitchen_96 : List UInt8 := 4 :: sxX11_kitchen_97
noncomputable def sxX11_kitchen_93 : List UInt8 := 182 :: 0 :: 84 :: sxX11_kitchen_96
noncomputable def sxX11_kitchen_90 : List UInt8 := 180 :: 0 :: 61 :: sxX11_kitchen_93
noncomputable def sxX11_kitchen_89 : List UInt8 := 42 :: sxX11_kitchen_90
noncomputable def sxX11_kitchen_88 : List UInt8 := 87 :: sxX11_kitchen_89
noncomputable def sxX11_kitchen_85 : List UInt8 := 182 :: 0 :: 110 :: sxX11_kitchen_88
noncomputable def sxX11_kitchen_82 : List UInt8 := 183 :: 0 :: 107 :: sxX11_kitchen_85
noncomputable def sxX11_kitchen_80 : List UInt8 := 21 :: 4 :: sxX11_kitchen_82
noncomputable def sxX11_kitchen_79 : List UInt8 := 29 :: sxX11_kitchen_80
noncomputable def sxX11_kitchen_78 : List UInt8 := 28 :: sxX11_kitchen_79
noncomputable def sxX11_kitchen_77 : List UInt8 := 27 :: sxX11_kitchen_78
noncomputable def sxX11_kitchen_76 : List UInt8 := 89 :: sxX11_kitchen_77
noncomputable def sxX11_kitchen_73 : List UInt8 := 187 :: 0 :: 91 :: sxX11_kitchen_76
noncomputable def sxX11_kitchen_70 : List UInt8 := 180 :: 0 :: 61 :: sxX11_kitchen_73
noncomputable def sxX11_kitchen_69 : List UInt8 := 42 :: sxX11_kitchen_70
noncomputable def sxX11_kitchen_68 : List UInt8 := 172 :: sxX11_kitchen_69
noncomputable def sxX11_kitchen_67 : List UInt8 := 2 :: sxX11_kitchen_68
noncomputable def sxX11_kitchen_64 : List UInt8 := 161 :: 0 :: 5 :: sxX11_kitchen_67
noncomputable def sxX11_kitchen_62 : List UInt8 := 16 :: 10 :: sxX11_kitchen_64
noncomputable def sxX11_kitchen_59 : List UInt8 := 182 :: 0 :: 84 :: sxX11_kitchen_62
noncomputable def sxX11_kitchen_56 : List UInt8 := 180 :: 0 :: 61 :: sxX11_kitchen_59
noncomputable def sxX11_kitchen_55 : List UInt8 := 42 :: sxX11_kitchen_56
noncomputable def sxX11_kitchen_52 : List UInt8 := 153 :: 0 :: 15 :: sxX11_kitchen_55
noncomputable def sxX11_kitchen_49 : List UInt8 := 184 :: 0 :: 80 :: sxX11_kitchen_52
noncomputable def sxX11_kitchen_46 : List UInt8 := 17 :: 1 :: 144 :: sxX11_kitchen_49
noncomputable def sxX11_kitchen_44 : List UInt8 := 16 :: 20 :: sxX11_kitchen_46
noncomputable def sxX11_kitchen_42 : List UInt8 := 21 :: 4 :: sxX11_kitchen_44
noncomputable def sxX11_kitchen_39 : List UInt8 := 153 :: 0 :: 28 :: sxX11_kitchen_42
noncomputable def sxX11_kitchen_36 : List UInt8 := 184 :: 0 :: 80 :: sxX11_kitchen_39
noncomputable def sxX11_kitchen_34 : List UInt8 := 16 :: 50 :: sxX11_kitchen_36
noncomputable def sxX11_kitchen_33 : List UInt8 := 3 :: sxX11_kitchen_34
noncomputable def sxX11_kitchen_32 : List UInt8 := 29 :: sxX11_kitchen_33
noncomputable def sxX11_kitchen_29 : List UInt8 := 153 :: 0 :: 38 :: sxX11_kitchen_32
noncomputable def sxX11_kitchen_27 : List UInt8 := 21 :: 5 :: sxX11_kitchen_29
noncomputable def sxX11_kitchen_25 : List UInt8 := 54 :: 5 :: sxX11_kitchen_27
noncomputable def sxX11_kitchen_24 : List UInt8 := 3 :: sxX11_kitchen_25
noncomputable def sxX11_kitchen_21 : List UInt8 := 167 :: 0 :: 4 :: sxX11_kitchen_24
noncomputable def sxX11_kitchen_20 : List UInt8 := 4 :: sxX11_kitchen_21
noncomputable def sxX11_kitchen_17 : List UInt8 := 153 :: 0 :: 7 :: sxX11_kitchen_20
noncomputable def sxX11_kitchen_14 : List UInt8 := 184 :: 0 :: 80 :: sxX11_kitchen_17
noncomputable def sxX11_kitchen_12 : List UInt8 := 16 :: 99 :: sxX11_kitchen_14
noncomputable def sxX11_kitchen_11 : List UInt8 := 3 :: sxX11_kitchen_12
noncomputable def sxX11_kitchen_10 : List UInt8 := 28 :: sxX11_kitchen_11
noncomputable def sxX11_kitchen_7 : List UInt8 := 153 :: 0 :: 17 :: sxX11_kitchen_10
noncomputable def sxX11_kitchen_4 : List UInt8 := 184 :: 0 :: 80 :: sxX11_kitchen_7
noncomputable def sxX11_kitchen_2 : List UInt8 := 16 :: 99 :: sxX11_kitchen_4
noncomputable def sxX11_kitchen_1 : List UInt8 := 3 :: sxX11_kitchen_2
noncomputable def sxX11_kitchen_0 : List UInt8 := 27 :: sxX11_kitchen_1
theorem shX11_kitchen_0 : cX11_kitchen.data.toList.drop 0 = sxX11_kitchen_0 := rfl
theorem shX11_kitchen_1 : cX11_kitchen.data.toList.drop 1 = sxX11_kitchen_1 := dSn 1 shX11_kitchen_0
theorem shX11_kitchen_2 : cX11_kitchen.data.toList.drop 2 = sxX11_kitchen_2 := dSn 1 shX11_kitchen_1
theorem shX11_kitchen_4 : cX11_kitchen.data.toList.drop 4 = sxX11_kitchen_4 := dSn 2 shX11_kitchen_2
theorem shX11_kitchen_7 : cX11_kitchen.data.toList.drop 7 = sxX11_kitchen_7 := dSn 3 shX11_kitchen_4
theorem shX11_kitchen_10 : cX11_kitchen.data.toList.drop 10 = sxX11_kitchen_10 := dSn 3 shX11_kitchen_7
theorem shX11_kitchen_11 : cX11_kitchen.data.toList.drop 11 = sxX11_kitchen_11 := dSn 1 shX11_kitchen_10
theorem shX11_kitchen_12 : cX11_kitchen.data.toList.drop 12 = sxX11_kitchen_12 := dSn 1 shX11_kitchen_11
theorem shX11_kitchen_14 : cX11_kitchen.data.toList.drop 14 = sxX11_kitchen_14 := dSn 2 shX11_kitchen_12
theorem shX11_kitchen_17 : cX11_kitchen.data.toList.drop 17 = sxX11_kitchen_17 := dSn 3 shX11_kitchen_14
theorem shX11_kitchen_20 : cX11_kitchen.data.toList.drop 20 = sxX11_kitchen_20 := dSn 3 shX11_kitchen_17
theorem shX11_kitchen_21 : cX11_kitchen.data.toList.drop 21 = sxX11_kitchen_21 := dSn 1 shX11_kitchen_20
theorem shX11_kitchen_24 : cX11_kitchen.data.toList.drop 24 = sxX11_kitchen_24 := dSn 3 shX11_kitchen_21
theorem shX11_kitchen_25 : cX11_kitchen.data.toList.drop 25 = sxX11_kitchen_25 := dSn 1 shX11_kitchen_24
theorem shX11_kitchen_27 : cX11_kitchen.data.toList.drop 27 = sxX11_kitchen_27 := dSn 2 shX11_kitchen_25
theorem shX11_kitchen_29 : cX11_kitchen.data.toList.drop 29 = sxX11_kitchen_29 := dSn 2 shX11_kitchen_27
theorem shX11_kitchen_32 : cX11_kitchen.data.toList.drop 32 = sxX11_kitchen_32 := dSn 3 shX11_kitchen_29
theorem shX11_kitchen_33 : cX11_kitchen.data.toList.drop 33 = sxX11_kitchen_33 := dSn 1 shX11_kitchen_32
theorem shX11_kitchen_34 : cX11_kitchen.data.toList.drop 34 = sxX11_kitchen_34 := dSn 1 shX11_kitchen_33
theorem shX11_kitchen_36 : cX11_kitchen.data.toList.drop 36 = sxX11_kitchen_36 := dSn 2 shX11_kitchen_34
theorem shX11_kitchen_39 : cX11_kitchen.data.toList.drop 39 = sxX11_kitchen_39 := dSn 3 shX11_kitchen_36
theorem shX11_kitchen_42 : cX11_kitchen.data.toList.drop 42 = sxX11_kitchen_42 := dSn 3 shX11_kitchen_39
theorem shX11_kitchen_44 : cX11_kitchen.data.toList.drop 44 = sxX11_kitchen_44 := dSn 2 shX11_kitchen_42
theorem shX11_kitchen_46 : cX11_kitchen.data.toList.drop 46 = sxX11_kitchen_46 := dSn 2 shX11_kitchen_44
theorem shX11_kitchen_49 : cX11_kitchen.data.toList.drop 49 = sxX11_kitchen_49 := dSn 3 shX11_kitchen_46
theorem shX11_kitchen_52 : cX11_kitchen.data.toList.drop 52 = sxX11_kitchen_52 := dSn 3 shX11_kitchen_49
theorem shX11_kitchen_55 : cX11_kitchen.data.toList.drop 55 = sxX11_kitchen_55 := dSn 3 shX11_kitchen_52
theorem shX11_kitchen_56 : cX11_kitchen.data.toList.drop 56 = sxX11_kitchen_56 := dSn 1 shX11_kitchen_55
theorem shX11_kitchen_59 : cX11_kitchen.data.toList.drop 59 = sxX11_kitchen_59 := dSn 3 shX11_kitchen_56
theorem shX11_kitchen_62 : cX11_kitchen.data.toList.drop 62 = sxX11_kitchen_62 := dSn 3 shX11_kitchen_59
theorem shX11_kitchen_64 : cX11_kitchen.data.toList.drop 64 = sxX11_kitchen_64 := dSn 2 shX11_kitchen_62
theorem shX11_kitchen_67 : cX11_kitchen.data.toList.drop 67 = sxX11_kitchen_67 := dSn 3 shX11_kitchen_64
theorem shX11_kitchen_68 : cX11_kitchen.data.toList.drop 68 = sxX11_kitchen_68 := dSn 1 shX11_kitchen_67
theorem shX11_kitchen_69 : cX11_kitchen.data.toList.drop 69 = sxX11_kitchen_69 := dSn 1 shX11_kitchen_68
theorem shX11_kitchen_70 : cX11_kitchen.data.toList.drop 70 = sxX11_kitchen_70 := dSn 1 shX11_kitchen_69
theorem shX11_kitchen_73 : cX11_kitchen.data.toList.drop 73 = sxX11_kitchen_73 := dSn 3 shX11_kitchen_70
theorem shX11_kitchen_76 : cX11_kitchen.data.toList.drop 76 = sxX11_kitchen_76 := dSn 3 shX11_kitchen_73
theorem shX11_kitchen_77 : cX11_kitchen.data.toList.drop 77 = sxX11_kitchen_77 := dSn 1 shX11_kitchen_76
theorem shX11_kitchen_78 : cX11_kitchen.data.toList.drop 78 = sxX11_kitchen_78 := dSn 1 shX11_kitchen_77
theorem shX11_kitchen_79 : cX11_kitchen.data.toList.drop 79 = sxX11_kitchen_79 := dSn 1 shX11_kitchen_78
theorem shX11_kitchen_80 : cX11_kitchen.data.toList.drop 80 = sxX11_kitchen_80 := dSn 1 shX11_kitchen_79
theorem shX11_kitchen_82 : cX11_kitchen.data.toList.drop 82 = sxX11_kitchen_82 := dSn 2 shX11_kitchen_80
theorem shX11_kitchen_85 : cX11_kitchen.data.toList.drop 85 = sxX11_kitchen_85 := dSn 3 shX11_kitchen_82
theorem shX11_kitchen_88 : cX11_kitchen.data.toList.drop 88 = sxX11_kitchen_88 := dSn 3 shX11_kitchen_85
theorem shX11_kitchen_89 : cX11_kitchen.data.toList.drop 89 = sxX11_kitchen_89 := dSn 1 shX11_kitchen_88
theorem shX11_kitchen_90 : cX11_kitchen.data.toList.drop 90 = sxX11_kitchen_90 := dSn 1 shX11_kitchen_89
theorem shX11_kitchen_93 : cX11_kitchen.data.toList.drop 93 = sxX11_kitchen_93 := dSn 3 shX11_kitchen_90
theorem shX11_kitchen_96 : cX11_kitchen.data.toList.drop 96 = sxX11_kitchen_96 := dSn 3 shX11_kitchen_93
theorem shX11_kitchen_97 : cX11_kitchen.data.toList.drop 97 = sxX11_kitchen_97 := dSn 1 shX11_kitchen_96
theorem shX11_kitchen_98 : cX11_kitchen.data.toList.drop 98 = sxX11_kitchen_98 := dSn 1 shX11_kitchen_97
theorem dX11_kitchen_0 : decode cX11_kitchen 0 = .ok (.iload_n 1, 1) := oc_27 shX11_kitchen_0
theorem dX11_kitchen_1 : decode cX11_kitchen 1 = .ok (.iconst 0, 1) := oc_3 shX11_kitchen_1
theorem dX11_kitchen_2 : decode cX11_kitchen 2 = .ok (.bipush 99, 2) := oc_16 shX11_kitchen_2 sgb_99
theorem dX11_kitchen_4 : decode cX11_kitchen 4 = .ok (.invokestatic 80, 3) := oc_184 shX11_kitchen_4
theorem dX11_kitchen_7 : decode cX11_kitchen 7 = .ok (.ifCond .eq 17, 3) := oc_153 shX11_kitchen_7 sgw_0_17
theorem dX11_kitchen_10 : decode cX11_kitchen 10 = .ok (.iload_n 2, 1) := oc_28 shX11_kitchen_10
theorem dX11_kitchen_11 : decode cX11_kitchen 11 = .ok (.iconst 0, 1) := oc_3 shX11_kitchen_11
theorem dX11_kitchen_12 : decode cX11_kitchen 12 = .ok (.bipush 99, 2) := oc_16 shX11_kitchen_12 sgb_99
theorem dX11_kitchen_14 : decode cX11_kitchen 14 = .ok (.invokestatic 80, 3) := oc_184 shX11_kitchen_14
theorem dX11_kitchen_17 : decode cX11_kitchen 17 = .ok (.ifCond .eq 7, 3) := oc_153 shX11_kitchen_17 sgw_0_7
theorem dX11_kitchen_20 : decode cX11_kitchen 20 = .ok (.iconst 1, 1) := oc_4 shX11_kitchen_20
theorem dX11_kitchen_21 : decode cX11_kitchen 21 = .ok (.goto 4, 3) := oc_167 shX11_kitchen_21 sgw_0_4
theorem dX11_kitchen_25 : decode cX11_kitchen 25 = .ok (.istore 5, 2) := oc_54 shX11_kitchen_25
theorem dX11_kitchen_27 : decode cX11_kitchen 27 = .ok (.iload 5, 2) := oc_21 shX11_kitchen_27
theorem dX11_kitchen_29 : decode cX11_kitchen 29 = .ok (.ifCond .eq 38, 3) := oc_153 shX11_kitchen_29 sgw_0_38
theorem dX11_kitchen_32 : decode cX11_kitchen 32 = .ok (.iload_n 3, 1) := oc_29 shX11_kitchen_32
theorem dX11_kitchen_33 : decode cX11_kitchen 33 = .ok (.iconst 0, 1) := oc_3 shX11_kitchen_33
theorem dX11_kitchen_34 : decode cX11_kitchen 34 = .ok (.bipush 50, 2) := oc_16 shX11_kitchen_34 sgb_50
theorem dX11_kitchen_36 : decode cX11_kitchen 36 = .ok (.invokestatic 80, 3) := oc_184 shX11_kitchen_36
theorem dX11_kitchen_39 : decode cX11_kitchen 39 = .ok (.ifCond .eq 28, 3) := oc_153 shX11_kitchen_39 sgw_0_28
theorem dX11_kitchen_42 : decode cX11_kitchen 42 = .ok (.iload 4, 2) := oc_21 shX11_kitchen_42
theorem dX11_kitchen_44 : decode cX11_kitchen 44 = .ok (.bipush 20, 2) := oc_16 shX11_kitchen_44 sgb_20
theorem dX11_kitchen_46 : decode cX11_kitchen 46 = .ok (.sipush 400, 3) := oc_17 shX11_kitchen_46 sgw_1_144
theorem dX11_kitchen_49 : decode cX11_kitchen 49 = .ok (.invokestatic 80, 3) := oc_184 shX11_kitchen_49
theorem dX11_kitchen_52 : decode cX11_kitchen 52 = .ok (.ifCond .eq 15, 3) := oc_153 shX11_kitchen_52 sgw_0_15
theorem dX11_kitchen_55 : decode cX11_kitchen 55 = .ok (.aload_n 0, 1) := oc_42 shX11_kitchen_55
theorem dX11_kitchen_56 : decode cX11_kitchen 56 = .ok (.getfield 61, 3) := oc_180 shX11_kitchen_56
theorem dX11_kitchen_59 : decode cX11_kitchen 59 = .ok (.invokevirtual 84, 3) := oc_182 shX11_kitchen_59
theorem dX11_kitchen_62 : decode cX11_kitchen 62 = .ok (.bipush 10, 2) := oc_16 shX11_kitchen_62 sgb_10
theorem dX11_kitchen_64 : decode cX11_kitchen 64 = .ok (.if_icmp .lt 5, 3) := oc_161 shX11_kitchen_64 sgw_0_5
theorem dX11_kitchen_69 : decode cX11_kitchen 69 = .ok (.aload_n 0, 1) := oc_42 shX11_kitchen_69
theorem dX11_kitchen_70 : decode cX11_kitchen 70 = .ok (.getfield 61, 3) := oc_180 shX11_kitchen_70
theorem dX11_kitchen_73 : decode cX11_kitchen 73 = .ok (.new 91, 3) := oc_187 shX11_kitchen_73
theorem dX11_kitchen_76 : decode cX11_kitchen 76 = .ok (.dup, 1) := oc_89 shX11_kitchen_76
theorem dX11_kitchen_77 : decode cX11_kitchen 77 = .ok (.iload_n 1, 1) := oc_27 shX11_kitchen_77
theorem dX11_kitchen_78 : decode cX11_kitchen 78 = .ok (.iload_n 2, 1) := oc_28 shX11_kitchen_78
theorem dX11_kitchen_79 : decode cX11_kitchen 79 = .ok (.iload_n 3, 1) := oc_29 shX11_kitchen_79
theorem dX11_kitchen_80 : decode cX11_kitchen 80 = .ok (.iload 4, 2) := oc_21 shX11_kitchen_80
theorem dX11_kitchen_82 : decode cX11_kitchen 82 = .ok (.invokespecial 107, 3) := oc_183 shX11_kitchen_82
theorem dX11_kitchen_85 : decode cX11_kitchen 85 = .ok (.invokevirtual 110, 3) := oc_182 shX11_kitchen_85
theorem dX11_kitchen_88 : decode cX11_kitchen 88 = .ok (.pop, 1) := oc_87 shX11_kitchen_88
theorem dX11_kitchen_89 : decode cX11_kitchen 89 = .ok (.aload_n 0, 1) := oc_42 shX11_kitchen_89
theorem dX11_kitchen_90 : decode cX11_kitchen 90 = .ok (.getfield 61, 3) := oc_180 shX11_kitchen_90
theorem dX11_kitchen_93 : decode cX11_kitchen 93 = .ok (.invokevirtual 84, 3) := oc_182 shX11_kitchen_93
theorem dX11_kitchen_96 : decode cX11_kitchen 96 = .ok (.iconst 1, 1) := oc_4 shX11_kitchen_96
theorem dX11_kitchen_97 : decode cX11_kitchen 97 = .ok (.isub, 1) := oc_100 shX11_kitchen_97
theorem dX11_kitchen_98 : decode cX11_kitchen 98 = .ok (.ireturn, 1) := oc_172 shX11_kitchen_98
theorem dX11_kitchen_67 : decode cX11_kitchen 67 = .ok (.iconst (-1), 1) := oc_2 shX11_kitchen_67
theorem dX11_kitchen_68 : decode cX11_kitchen 68 = .ok (.ireturn, 1) := oc_172 shX11_kitchen_68
theorem dX11_kitchen_24 : decode cX11_kitchen 24 = .ok (.iconst 0, 1) := oc_3 shX11_kitchen_24
noncomputable def sxX11_moves_111 : List UInt8 := []
noncomputable def sxX11_moves_110 : List UInt8 := 172 :: sxX11_moves_111
noncomputable def sxX11_moves_109 : List UInt8 := 4 :: sxX11_moves_110
noncomputable def sxX11_moves_108 : List UInt8 := 87 :: sxX11_moves_109
noncomputable def sxX11_moves_105 : List UInt8 := 182 :: 0 :: 110 :: sxX11_moves_108
noncomputable def sxX11_moves_102 : List UInt8 := 183 :: 2 :: 1 :: sxX11_moves_105
noncomputable def sxX11_moves_101 : List UInt8 := 29 :: sxX11_moves_102
noncomputable def sxX11_moves_100 : List UInt8 := 28 :: sxX11_moves_101
noncomputable def sxX11_moves_99 : List UInt8 := 27 :: sxX11_moves_100
noncomputable def sxX11_moves_98 : List UInt8 := 89 :: sxX11_moves_99
noncomputable def sxX11_moves_95 : List UInt8 := 187 :: 1 :: 249 :: sxX11_moves_98
noncomputable def sxX11_moves_92 : List UInt8 := 180 :: 0 :: 77 :: sxX11_moves_95
noncomputable def sxX11_moves_91 : List UInt8 := 42 :: sxX11_moves_92
noncomputable def sxX11_moves_90 : List UInt8 := 172 :: sxX11_moves_91
noncomputable def sxX11_moves_89 : List UInt8 := 3 :: sxX11_moves_90
noncomputable def sxX11_moves_86 : List UInt8 := 162 :: 0 :: 5 :: sxX11_moves_89
noncomputable def sxX11_moves_83 : List UInt8 := 180 :: 1 :: 252 :: sxX11_moves_86
noncomputable def sxX11_moves_81 : List UInt8 := 25 :: 5 :: sxX11_moves_83
noncomputable def sxX11_moves_80 : List UInt8 := 29 :: sxX11_moves_81
noncomputable def sxX11_moves_77 : List UInt8 := 198 :: 0 :: 14 :: sxX11_moves_80
noncomputable def sxX11_moves_75 : List UInt8 := 25 :: 5 :: sxX11_moves_77
noncomputable def sxX11_moves_73 : List UInt8 := 58 :: 5 :: sxX11_moves_75
noncomputable def sxX11_moves_70 : List UInt8 := 182 :: 1 :: 253 :: sxX11_moves_73
noncomputable def sxX11_moves_67 : List UInt8 := 17 :: 1 :: 143 :: sxX11_moves_70
noncomputable def sxX11_moves_66 : List UInt8 := 27 :: sxX11_moves_67
noncomputable def sxX11_moves_65 : List UInt8 := 42 :: sxX11_moves_66
noncomputable def sxX11_moves_64 : List UInt8 := 172 :: sxX11_moves_65
noncomputable def sxX11_moves_63 : List UInt8 := 3 :: sxX11_moves_64
noncomputable def sxX11_moves_60 : List UInt8 := 161 :: 0 :: 5 :: sxX11_moves_63
noncomputable def sxX11_moves_58 : List UInt8 := 16 :: 60 :: sxX11_moves_60
noncomputable def sxX11_moves_55 : List UInt8 := 182 :: 0 :: 84 :: sxX11_moves_58
noncomputable def sxX11_moves_52 : List UInt8 := 180 :: 0 :: 77 :: sxX11_moves_55
noncomputable def sxX11_moves_51 : List UInt8 := 42 :: sxX11_moves_52
noncomputable def sxX11_moves_48 : List UInt8 := 153 :: 0 :: 15 :: sxX11_moves_51
noncomputable def sxX11_moves_45 : List UInt8 := 184 :: 0 :: 80 :: sxX11_moves_48
noncomputable def sxX11_moves_42 : List UInt8 := 180 :: 0 :: 103 :: sxX11_moves_45
noncomputable def sxX11_moves_41 : List UInt8 := 42 :: sxX11_moves_42
noncomputable def sxX11_moves_40 : List UInt8 := 3 :: sxX11_moves_41
noncomputable def sxX11_moves_39 : List UInt8 := 29 :: sxX11_moves_40
noncomputable def sxX11_moves_36 : List UInt8 := 153 :: 0 :: 27 :: sxX11_moves_39
noncomputable def sxX11_moves_34 : List UInt8 := 21 :: 4 :: sxX11_moves_36
noncomputable def sxX11_moves_32 : List UInt8 := 54 :: 4 :: sxX11_moves_34
noncomputable def sxX11_moves_31 : List UInt8 := 3 :: sxX11_moves_32
noncomputable def sxX11_moves_28 : List UInt8 := 167 :: 0 :: 4 :: sxX11_moves_31
noncomputable def sxX11_moves_27 : List UInt8 := 4 :: sxX11_moves_28
noncomputable def sxX11_moves_24 : List UInt8 := 198 :: 0 :: 7 :: sxX11_moves_27
noncomputable def sxX11_moves_21 : List UInt8 := 182 :: 0 :: 114 :: sxX11_moves_24
noncomputable def sxX11_moves_20 : List UInt8 := 28 :: sxX11_moves_21
noncomputable def sxX11_moves_19 : List UInt8 := 42 :: sxX11_moves_20
noncomputable def sxX11_moves_16 : List UInt8 := 159 :: 0 :: 11 :: sxX11_moves_19
noncomputable def sxX11_moves_15 : List UInt8 := 2 :: sxX11_moves_16
noncomputable def sxX11_moves_14 : List UInt8 := 28 :: sxX11_moves_15
noncomputable def sxX11_moves_11 : List UInt8 := 153 :: 0 :: 20 :: sxX11_moves_14
noncomputable def sxX11_moves_8 : List UInt8 := 184 :: 0 :: 80 :: sxX11_moves_11
noncomputable def sxX11_moves_7 : List UInt8 := 100 :: sxX11_moves_8
noncomputable def sxX11_moves_6 : List UInt8 := 4 :: sxX11_moves_7
noncomputable def sxX11_moves_3 : List UInt8 := 180 :: 1 :: 246 :: sxX11_moves_6
noncomputable def sxX11_moves_2 : List UInt8 := 42 :: sxX11_moves_3
noncomputable def sxX11_moves_1 : List UInt8 := 3 :: sxX11_moves_2
noncomputable def sxX11_moves_0 : List UInt8 := 27 :: sxX11_moves_1
theorem shX11_moves_0 : cX11_moves.data.toList.drop 0 = sxX11_moves_0 := rfl
theorem shX11_moves_1 : cX11_moves.data.toList.drop 1 = sxX11_moves_1 := dSn 1 shX11_moves_0
theorem shX11_moves_2 : cX11_moves.data.toList.drop 2 = sxX11_moves_2 := dSn 1 shX11_moves_1
theorem shX11_moves_3 : cX11_moves.data.toList.drop 3 = sxX11_moves_3 := dSn 1 shX11_moves_2
theorem shX11_moves_6 : cX11_moves.data.toList.drop 6 = sxX11_moves_6 := dSn 3 shX11_moves_3
theorem shX11_moves_7 : cX11_moves.data.toList.drop 7 = sxX11_moves_7 := dSn 1 shX11_moves_6
theorem shX11_moves_8 : cX11_moves.data.toList.drop 8 = sxX11_moves_8 := dSn 1 shX11_moves_7
theorem shX11_moves_11 : cX11_moves.data.toList.drop 11 = sxX11_moves_11 := dSn 3 shX11_moves_8
theorem shX11_moves_14 : cX11_moves.data.toList.drop 14 = sxX11_moves_14 := dSn 3 shX11_moves_11
theorem shX11_moves_15 : cX11_moves.data.toList.drop 15 = sxX11_moves_15 := dSn 1 shX11_moves_14
theorem shX11_moves_16 : cX11_moves.data.toList.drop 16 = sxX11_moves_16 := dSn 1 shX11_moves_15
theorem shX11_moves_19 : cX11_moves.data.toList.drop 19 = sxX11_moves_19 := dSn 3 shX11_moves_16
theorem shX11_moves_20 : cX11_moves.data.toList.drop 20 = sxX11_moves_20 := dSn 1 shX11_moves_19
theorem shX11_moves_21 : cX11_moves.data.toList.drop 21 = sxX11_moves_21 := dSn 1 shX11_moves_20
theorem shX11_moves_24 : cX11_moves.data.toList.drop 24 = sxX11_moves_24 := dSn 3 shX11_moves_21
theorem shX11_moves_27 : cX11_moves.data.toList.drop 27 = sxX11_moves_27 := dSn 3 shX11_moves_24
theorem shX11_moves_28 : cX11_moves.data.toList.drop 28 = sxX11_moves_28 := dSn 1 shX11_moves_27
theorem shX11_moves_31 : cX11_moves.data.toList.drop 31 = sxX11_moves_31 := dSn 3 shX11_moves_28
theorem shX11_moves_32 : cX11_moves.data.toList.drop 32 = sxX11_moves_32 := dSn 1 shX11_moves_31
theorem shX11_moves_34 : cX11_moves.data.toList.drop 34 = sxX11_moves_34 := dSn 2 shX11_moves_32
theorem shX11_moves_36 : cX11_moves.data.toList.drop 36 = sxX11_moves_36 := dSn 2 shX11_moves_34
theorem shX11_moves_39 : cX11_moves.data.toList.drop 39 = sxX11_moves_39 := dSn 3 shX11_moves_36
theorem shX11_moves_40 : cX11_moves.data.toList.drop 40 = sxX11_moves_40 := dSn 1 shX11_moves_39
theorem shX11_moves_41 : cX11_moves.data.toList.drop 41 = sxX11_moves_41 := dSn 1 shX11_moves_40
theorem shX11_moves_42 : cX11_moves.data.toList.drop 42 = sxX11_moves_42 := dSn 1 shX11_moves_41
theorem shX11_moves_45 : cX11_moves.data.toList.drop 45 = sxX11_moves_45 := dSn 3 shX11_moves_42
theorem shX11_moves_48 : cX11_moves.data.toList.drop 48 = sxX11_moves_48 := dSn 3 shX11_moves_45
theorem shX11_moves_51 : cX11_moves.data.toList.drop 51 = sxX11_moves_51 := dSn 3 shX11_moves_48
theorem shX11_moves_52 : cX11_moves.data.toList.drop 52 = sxX11_moves_52 := dSn 1 shX11_moves_51
theorem shX11_moves_55 : cX11_moves.data.toList.drop 55 = sxX11_moves_55 := dSn 3 shX11_moves_52
theorem shX11_moves_58 : cX11_moves.data.toList.drop 58 = sxX11_moves_58 := dSn 3 shX11_moves_55
theorem shX11_moves_60 : cX11_moves.data.toList.drop 60 = sxX11_moves_60 := dSn 2 shX11_moves_58
theorem shX11_moves_63 : cX11_moves.data.toList.drop 63 = sxX11_moves_63 := dSn 3 shX11_moves_60
theorem shX11_moves_64 : cX11_moves.data.toList.drop 64 = sxX11_moves_64 := dSn 1 shX11_moves_63
theorem shX11_moves_65 : cX11_moves.data.toList.drop 65 = sxX11_moves_65 := dSn 1 shX11_moves_64
theorem shX11_moves_66 : cX11_moves.data.toList.drop 66 = sxX11_moves_66 := dSn 1 shX11_moves_65
theorem shX11_moves_67 : cX11_moves.data.toList.drop 67 = sxX11_moves_67 := dSn 1 shX11_moves_66
theorem shX11_moves_70 : cX11_moves.data.toList.drop 70 = sxX11_moves_70 := dSn 3 shX11_moves_67
theorem shX11_moves_73 : cX11_moves.data.toList.drop 73 = sxX11_moves_73 := dSn 3 shX11_moves_70
theorem shX11_moves_75 : cX11_moves.data.toList.drop 75 = sxX11_moves_75 := dSn 2 shX11_moves_73
theorem shX11_moves_77 : cX11_moves.data.toList.drop 77 = sxX11_moves_77 := dSn 2 shX11_moves_75
theorem shX11_moves_80 : cX11_moves.data.toList.drop 80 = sxX11_moves_80 := dSn 3 shX11_moves_77
theorem shX11_moves_81 : cX11_moves.data.toList.drop 81 = sxX11_moves_81 := dSn 1 shX11_moves_80
theorem shX11_moves_83 : cX11_moves.data.toList.drop 83 = sxX11_moves_83 := dSn 2 shX11_moves_81
theorem shX11_moves_86 : cX11_moves.data.toList.drop 86 = sxX11_moves_86 := dSn 3 shX11_moves_83
theorem shX11_moves_89 : cX11_moves.data.toList.drop 89 = sxX11_moves_89 := dSn 3 shX11_moves_86
theorem shX11_moves_90 : cX11_moves.data.toList.drop 90 = sxX11_moves_90 := dSn 1 shX11_moves_89
theorem shX11_moves_91 : cX11_moves.data.toList.drop 91 = sxX11_moves_91 := dSn 1 shX11_moves_90
theorem shX11_moves_92 : cX11_moves.data.toList.drop 92 = sxX11_moves_92 := dSn 1 shX11_moves_91
theorem shX11_moves_95 : cX11_moves.data.toList.drop 95 = sxX11_moves_95 := dSn 3 shX11_moves_92
theorem shX11_moves_98 : cX11_moves.data.toList.drop 98 = sxX11_moves_98 := dSn 3 shX11_moves_95
theorem shX11_moves_99 : cX11_moves.data.toList.drop 99 = sxX11_moves_99 := dSn 1 shX11_moves_98
theorem shX11_moves_100 : cX11_moves.data.toList.drop 100 = sxX11_moves_100 := dSn 1 shX11_moves_99
theorem shX11_moves_101 : cX11_moves.data.toList.drop 101 = sxX11_moves_101 := dSn 1 shX11_moves_100
theorem shX11_moves_102 : cX11_moves.data.toList.drop 102 = sxX11_moves_102 := dSn 1 shX11_moves_101
theorem shX11_moves_105 : cX11_moves.data.toList.drop 105 = sxX11_moves_105 := dSn 3 shX11_moves_102
theorem shX11_moves_108 : cX11_moves.data.toList.drop 108 = sxX11_moves_108 := dSn 3 shX11_moves_105
theorem shX11_moves_109 : cX11_moves.data.toList.drop 109 = sxX11_moves_109 := dSn 1 shX11_moves_108
theorem shX11_moves_110 : cX11_moves.data.toList.drop 110 = sxX11_moves_110 := dSn 1 shX11_moves_109
theorem dX11_moves_0 : decode cX11_moves 0 = .ok (.iload_n 1, 1) := oc_27 shX11_moves_0
theorem dX11_moves_1 : decode cX11_moves 1 = .ok (.iconst 0, 1) := oc_3 shX11_moves_1
theorem dX11_moves_2 : decode cX11_moves 2 = .ok (.aload_n 0, 1) := oc_42 shX11_moves_2
theorem dX11_moves_3 : decode cX11_moves 3 = .ok (.getfield 502, 3) := oc_180 shX11_moves_3
theorem dX11_moves_6 : decode cX11_moves 6 = .ok (.iconst 1, 1) := oc_4 shX11_moves_6
theorem dX11_moves_7 : decode cX11_moves 7 = .ok (.isub, 1) := oc_100 shX11_moves_7
theorem dX11_moves_8 : decode cX11_moves 8 = .ok (.invokestatic 80, 3) := oc_184 shX11_moves_8
theorem dX11_moves_11 : decode cX11_moves 11 = .ok (.ifCond .eq 20, 3) := oc_153 shX11_moves_11 sgw_0_20
theorem dX11_moves_14 : decode cX11_moves 14 = .ok (.iload_n 2, 1) := oc_28 shX11_moves_14
theorem dX11_moves_15 : decode cX11_moves 15 = .ok (.iconst (-1), 1) := oc_2 shX11_moves_15
theorem dX11_moves_16 : decode cX11_moves 16 = .ok (.if_icmp .eq 11, 3) := oc_159 shX11_moves_16 sgw_0_11
theorem dX11_moves_27 : decode cX11_moves 27 = .ok (.iconst 1, 1) := oc_4 shX11_moves_27
theorem dX11_moves_28 : decode cX11_moves 28 = .ok (.goto 4, 3) := oc_167 shX11_moves_28 sgw_0_4
theorem dX11_moves_32 : decode cX11_moves 32 = .ok (.istore 4, 2) := oc_54 shX11_moves_32
theorem dX11_moves_34 : decode cX11_moves 34 = .ok (.iload 4, 2) := oc_21 shX11_moves_34
theorem dX11_moves_36 : decode cX11_moves 36 = .ok (.ifCond .eq 27, 3) := oc_153 shX11_moves_36 sgw_0_27
theorem dX11_moves_39 : decode cX11_moves 39 = .ok (.iload_n 3, 1) := oc_29 shX11_moves_39
theorem dX11_moves_40 : decode cX11_moves 40 = .ok (.iconst 0, 1) := oc_3 shX11_moves_40
theorem dX11_moves_41 : decode cX11_moves 41 = .ok (.aload_n 0, 1) := oc_42 shX11_moves_41
theorem dX11_moves_42 : decode cX11_moves 42 = .ok (.getfield 103, 3) := oc_180 shX11_moves_42
theorem dX11_moves_45 : decode cX11_moves 45 = .ok (.invokestatic 80, 3) := oc_184 shX11_moves_45
theorem dX11_moves_48 : decode cX11_moves 48 = .ok (.ifCond .eq 15, 3) := oc_153 shX11_moves_48 sgw_0_15
theorem dX11_moves_51 : decode cX11_moves 51 = .ok (.aload_n 0, 1) := oc_42 shX11_moves_51
theorem dX11_moves_52 : decode cX11_moves 52 = .ok (.getfield 77, 3) := oc_180 shX11_moves_52
theorem dX11_moves_55 : decode cX11_moves 55 = .ok (.invokevirtual 84, 3) := oc_182 shX11_moves_55
theorem dX11_moves_58 : decode cX11_moves 58 = .ok (.bipush 60, 2) := oc_16 shX11_moves_58 sgb_60
theorem dX11_moves_60 : decode cX11_moves 60 = .ok (.if_icmp .lt 5, 3) := oc_161 shX11_moves_60 sgw_0_5
theorem dX11_moves_65 : decode cX11_moves 65 = .ok (.aload_n 0, 1) := oc_42 shX11_moves_65
theorem dX11_moves_66 : decode cX11_moves 66 = .ok (.iload_n 1, 1) := oc_27 shX11_moves_66
theorem dX11_moves_67 : decode cX11_moves 67 = .ok (.sipush 399, 3) := oc_17 shX11_moves_67 sgw_1_143
theorem dX11_moves_70 : decode cX11_moves 70 = .ok (.invokevirtual 509, 3) := oc_182 shX11_moves_70
theorem dX11_moves_73 : decode cX11_moves 73 = .ok (.astore 5, 2) := oc_58 shX11_moves_73
theorem dX11_moves_75 : decode cX11_moves 75 = .ok (.aload 5, 2) := oc_25 shX11_moves_75
theorem dX11_moves_77 : decode cX11_moves 77 = .ok (.ifnull 14, 3) := oc_198 shX11_moves_77 sgw_0_14
theorem dX11_moves_80 : decode cX11_moves 80 = .ok (.iload_n 3, 1) := oc_29 shX11_moves_80
theorem dX11_moves_81 : decode cX11_moves 81 = .ok (.aload 5, 2) := oc_25 shX11_moves_81
theorem dX11_moves_83 : decode cX11_moves 83 = .ok (.getfield 508, 3) := oc_180 shX11_moves_83
theorem dX11_moves_86 : decode cX11_moves 86 = .ok (.if_icmp .ge 5, 3) := oc_162 shX11_moves_86 sgw_0_5
theorem dX11_moves_91 : decode cX11_moves 91 = .ok (.aload_n 0, 1) := oc_42 shX11_moves_91
theorem dX11_moves_92 : decode cX11_moves 92 = .ok (.getfield 77, 3) := oc_180 shX11_moves_92
theorem dX11_moves_95 : decode cX11_moves 95 = .ok (.new 505, 3) := oc_187 shX11_moves_95
theorem dX11_moves_98 : decode cX11_moves 98 = .ok (.dup, 1) := oc_89 shX11_moves_98
theorem dX11_moves_99 : decode cX11_moves 99 = .ok (.iload_n 1, 1) := oc_27 shX11_moves_99
theorem dX11_moves_100 : decode cX11_moves 100 = .ok (.iload_n 2, 1) := oc_28 shX11_moves_100
theorem dX11_moves_101 : decode cX11_moves 101 = .ok (.iload_n 3, 1) := oc_29 shX11_moves_101
theorem dX11_moves_102 : decode cX11_moves 102 = .ok (.invokespecial 513, 3) := oc_183 shX11_moves_102
theorem dX11_moves_105 : decode cX11_moves 105 = .ok (.invokevirtual 110, 3) := oc_182 shX11_moves_105
theorem dX11_moves_108 : decode cX11_moves 108 = .ok (.pop, 1) := oc_87 shX11_moves_108
theorem dX11_moves_109 : decode cX11_moves 109 = .ok (.iconst 1, 1) := oc_4 shX11_moves_109
theorem dX11_moves_110 : decode cX11_moves 110 = .ok (.ireturn, 1) := oc_172 shX11_moves_110
theorem dX11_moves_89 : decode cX11_moves 89 = .ok (.iconst 0, 1) := oc_3 shX11_moves_89
theorem dX11_moves_90 : decode cX11_moves 90 = .ok (.ireturn, 1) := oc_172 shX11_moves_90
theorem dX11_moves_63 : decode cX11_moves 63 = .ok (.iconst 0, 1) := oc_3 shX11_moves_63
theorem dX11_moves_64 : decode cX11_moves 64 = .ok (.ireturn, 1) := oc_172 shX11_moves_64
theorem dX11_moves_19 : decode cX11_moves 19 = .ok (.aload_n 0, 1) := oc_42 shX11_moves_19
theorem dX11_moves_20 : decode cX11_moves 20 = .ok (.iload_n 2, 1) := oc_28 shX11_moves_20
theorem dX11_moves_21 : decode cX11_moves 21 = .ok (.invokevirtual 114, 3) := oc_182 shX11_moves_21
theorem dX11_moves_24 : decode cX11_moves 24 = .ok (.ifnull 7, 3) := oc_198 shX11_moves_24 sgw_0_7
theorem dX11_moves_31 : decode cX11_moves 31 = .ok (.iconst 0, 1) := oc_3 shX11_moves_31
noncomputable def sxX11_proof_89 : List UInt8 := []
noncomputable def sxX11_proof_88 : List UInt8 := 172 :: sxX11_proof_89
noncomputable def sxX11_proof_87 : List UInt8 := 100 :: sxX11_proof_88
noncomputable def sxX11_proof_86 : List UInt8 := 4 :: sxX11_proof_87
noncomputable def sxX11_proof_83 : List UInt8 := 182 :: 0 :: 84 :: sxX11_proof_86
noncomputable def sxX11_proof_80 : List UInt8 := 180 :: 0 :: 71 :: sxX11_proof_83
noncomputable def sxX11_proof_79 : List UInt8 := 42 :: sxX11_proof_80
noncomputable def sxX11_proof_78 : List UInt8 := 87 :: sxX11_proof_79
noncomputable def sxX11_proof_75 : List UInt8 := 182 :: 0 :: 110 :: sxX11_proof_78
noncomputable def sxX11_proof_72 : List UInt8 := 183 :: 1 :: 143 :: sxX11_proof_75
noncomputable def sxX11_proof_69 : List UInt8 := 180 :: 0 :: 103 :: sxX11_proof_72
noncomputable def sxX11_proof_68 : List UInt8 := 42 :: sxX11_proof_69
noncomputable def sxX11_proof_66 : List UInt8 := 21 :: 4 :: sxX11_proof_68
noncomputable def sxX11_proof_65 : List UInt8 := 29 :: sxX11_proof_66
noncomputable def sxX11_proof_64 : List UInt8 := 28 :: sxX11_proof_65
noncomputable def sxX11_proof_63 : List UInt8 := 27 :: sxX11_proof_64
noncomputable def sxX11_proof_62 : List UInt8 := 89 :: sxX11_proof_63
noncomputable def sxX11_proof_59 : List UInt8 := 187 :: 0 :: 97 :: sxX11_proof_62
noncomputable def sxX11_proof_56 : List UInt8 := 180 :: 0 :: 71 :: sxX11_proof_59
noncomputable def sxX11_proof_55 : List UInt8 := 42 :: sxX11_proof_56
noncomputable def sxX11_proof_54 : List UInt8 := 172 :: sxX11_proof_55
noncomputable def sxX11_proof_53 : List UInt8 := 2 :: sxX11_proof_54
noncomputable def sxX11_proof_50 : List UInt8 := 161 :: 0 :: 5 :: sxX11_proof_53
noncomputable def sxX11_proof_48 : List UInt8 := 16 :: 40 :: sxX11_proof_50
noncomputable def sxX11_proof_45 : List UInt8 := 182 :: 0 :: 84 :: sxX11_proof_48
noncomputable def sxX11_proof_42 : List UInt8 := 180 :: 0 :: 71 :: sxX11_proof_45
noncomputable def sxX11_proof_41 : List UInt8 := 42 :: sxX11_proof_42
noncomputable def sxX11_proof_38 : List UInt8 := 153 :: 0 :: 15 :: sxX11_proof_41
noncomputable def sxX11_proof_35 : List UInt8 := 184 :: 0 :: 80 :: sxX11_proof_38
noncomputable def sxX11_proof_33 : List UInt8 := 16 :: 9 :: sxX11_proof_35
noncomputable def sxX11_proof_32 : List UInt8 := 3 :: sxX11_proof_33
noncomputable def sxX11_proof_30 : List UInt8 := 21 :: 4 :: sxX11_proof_32
noncomputable def sxX11_proof_27 : List UInt8 := 163 :: 0 :: 26 :: sxX11_proof_30
noncomputable def sxX11_proof_24 : List UInt8 := 180 :: 1 :: 86 :: sxX11_proof_27
noncomputable def sxX11_proof_22 : List UInt8 := 25 :: 5 :: sxX11_proof_24
noncomputable def sxX11_proof_21 : List UInt8 := 29 :: sxX11_proof_22
noncomputable def sxX11_proof_18 : List UInt8 := 162 :: 0 :: 35 :: sxX11_proof_21
noncomputable def sxX11_proof_17 : List UInt8 := 29 :: sxX11_proof_18
noncomputable def sxX11_proof_16 : List UInt8 := 28 :: sxX11_proof_17
noncomputable def sxX11_proof_13 : List UInt8 := 155 :: 0 :: 40 :: sxX11_proof_16
noncomputable def sxX11_proof_12 : List UInt8 := 28 :: sxX11_proof_13
noncomputable def sxX11_proof_9 : List UInt8 := 198 :: 0 :: 44 :: sxX11_proof_12
noncomputable def sxX11_proof_7 : List UInt8 := 25 :: 5 :: sxX11_proof_9
noncomputable def sxX11_proof_5 : List UInt8 := 58 :: 5 :: sxX11_proof_7
noncomputable def sxX11_proof_2 : List UInt8 := 182 :: 1 :: 126 :: sxX11_proof_5
noncomputable def sxX11_proof_1 : List UInt8 := 27 :: sxX11_proof_2
noncomputable def sxX11_proof_0 : List UInt8 := 42 :: sxX11_proof_1
theorem shX11_proof_0 : cX11_proof.data.toList.drop 0 = sxX11_proof_0 := rfl
theorem shX11_proof_1 : cX11_proof.data.toList.drop 1 = sxX11_proof_1 := dSn 1 shX11_proof_0
theorem shX11_proof_2 : cX11_proof.data.toList.drop 2 = sxX11_proof_2 := dSn 1 shX11_proof_1
theorem shX11_proof_5 : cX11_proof.data.toList.drop 5 = sxX11_proof_5 := dSn 3 shX11_proof_2
theorem shX11_proof_7 : cX11_proof.data.toList.drop 7 = sxX11_proof_7 := dSn 2 shX11_proof_5
theorem shX11_proof_9 : cX11_proof.data.toList.drop 9 = sxX11_proof_9 := dSn 2 shX11_proof_7
theorem shX11_proof_12 : cX11_proof.data.toList.drop 12 = sxX11_proof_12 := dSn 3 shX11_proof_9
theorem shX11_proof_13 : cX11_proof.data.toList.drop 13 = sxX11_proof_13 := dSn 1 shX11_proof_12
theorem shX11_proof_16 : cX11_proof.data.toList.drop 16 = sxX11_proof_16 := dSn 3 shX11_proof_13
theorem shX11_proof_17 : cX11_proof.data.toList.drop 17 = sxX11_proof_17 := dSn 1 shX11_proof_16
theorem shX11_proof_18 : cX11_proof.data.toList.drop 18 = sxX11_proof_18 := dSn 1 shX11_proof_17
theorem shX11_proof_21 : cX11_proof.data.toList.drop 21 = sxX11_proof_21 := dSn 3 shX11_proof_18
theorem shX11_proof_22 : cX11_proof.data.toList.drop 22 = sxX11_proof_22 := dSn 1 shX11_proof_21
theorem shX11_proof_24 : cX11_proof.data.toList.drop 24 = sxX11_proof_24 := dSn 2 shX11_proof_22
theorem shX11_proof_27 : cX11_proof.data.toList.drop 27 = sxX11_proof_27 := dSn 3 shX11_proof_24
theorem shX11_proof_30 : cX11_proof.data.toList.drop 30 = sxX11_proof_30 := dSn 3 shX11_proof_27
theorem shX11_proof_32 : cX11_proof.data.toList.drop 32 = sxX11_proof_32 := dSn 2 shX11_proof_30
theorem shX11_proof_33 : cX11_proof.data.toList.drop 33 = sxX11_proof_33 := dSn 1 shX11_proof_32
theorem shX11_proof_35 : cX11_proof.data.toList.drop 35 = sxX11_proof_35 := dSn 2 shX11_proof_33
theorem shX11_proof_38 : cX11_proof.data.toList.drop 38 = sxX11_proof_38 := dSn 3 shX11_proof_35
theorem shX11_proof_41 : cX11_proof.data.toList.drop 41 = sxX11_proof_41 := dSn 3 shX11_proof_38
theorem shX11_proof_42 : cX11_proof.data.toList.drop 42 = sxX11_proof_42 := dSn 1 shX11_proof_41
theorem shX11_proof_45 : cX11_proof.data.toList.drop 45 = sxX11_proof_45 := dSn 3 shX11_proof_42
theorem shX11_proof_48 : cX11_proof.data.toList.drop 48 = sxX11_proof_48 := dSn 3 shX11_proof_45
theorem shX11_proof_50 : cX11_proof.data.toList.drop 50 = sxX11_proof_50 := dSn 2 shX11_proof_48
theorem shX11_proof_53 : cX11_proof.data.toList.drop 53 = sxX11_proof_53 := dSn 3 shX11_proof_50
theorem shX11_proof_54 : cX11_proof.data.toList.drop 54 = sxX11_proof_54 := dSn 1 shX11_proof_53
theorem shX11_proof_55 : cX11_proof.data.toList.drop 55 = sxX11_proof_55 := dSn 1 shX11_proof_54
theorem shX11_proof_56 : cX11_proof.data.toList.drop 56 = sxX11_proof_56 := dSn 1 shX11_proof_55
theorem shX11_proof_59 : cX11_proof.data.toList.drop 59 = sxX11_proof_59 := dSn 3 shX11_proof_56
theorem shX11_proof_62 : cX11_proof.data.toList.drop 62 = sxX11_proof_62 := dSn 3 shX11_proof_59
theorem shX11_proof_63 : cX11_proof.data.toList.drop 63 = sxX11_proof_63 := dSn 1 shX11_proof_62
theorem shX11_proof_64 : cX11_proof.data.toList.drop 64 = sxX11_proof_64 := dSn 1 shX11_proof_63
theorem shX11_proof_65 : cX11_proof.data.toList.drop 65 = sxX11_proof_65 := dSn 1 shX11_proof_64
theorem shX11_proof_66 : cX11_proof.data.toList.drop 66 = sxX11_proof_66 := dSn 1 shX11_proof_65
theorem shX11_proof_68 : cX11_proof.data.toList.drop 68 = sxX11_proof_68 := dSn 2 shX11_proof_66
theorem shX11_proof_69 : cX11_proof.data.toList.drop 69 = sxX11_proof_69 := dSn 1 shX11_proof_68
theorem shX11_proof_72 : cX11_proof.data.toList.drop 72 = sxX11_proof_72 := dSn 3 shX11_proof_69
theorem shX11_proof_75 : cX11_proof.data.toList.drop 75 = sxX11_proof_75 := dSn 3 shX11_proof_72
theorem shX11_proof_78 : cX11_proof.data.toList.drop 78 = sxX11_proof_78 := dSn 3 shX11_proof_75
theorem shX11_proof_79 : cX11_proof.data.toList.drop 79 = sxX11_proof_79 := dSn 1 shX11_proof_78
theorem shX11_proof_80 : cX11_proof.data.toList.drop 80 = sxX11_proof_80 := dSn 1 shX11_proof_79
theorem shX11_proof_83 : cX11_proof.data.toList.drop 83 = sxX11_proof_83 := dSn 3 shX11_proof_80
theorem shX11_proof_86 : cX11_proof.data.toList.drop 86 = sxX11_proof_86 := dSn 3 shX11_proof_83
theorem shX11_proof_87 : cX11_proof.data.toList.drop 87 = sxX11_proof_87 := dSn 1 shX11_proof_86
theorem shX11_proof_88 : cX11_proof.data.toList.drop 88 = sxX11_proof_88 := dSn 1 shX11_proof_87
theorem dX11_proof_0 : decode cX11_proof 0 = .ok (.aload_n 0, 1) := oc_42 shX11_proof_0
theorem dX11_proof_1 : decode cX11_proof 1 = .ok (.iload_n 1, 1) := oc_27 shX11_proof_1
theorem dX11_proof_2 : decode cX11_proof 2 = .ok (.invokevirtual 382, 3) := oc_182 shX11_proof_2
theorem dX11_proof_5 : decode cX11_proof 5 = .ok (.astore 5, 2) := oc_58 shX11_proof_5
theorem dX11_proof_7 : decode cX11_proof 7 = .ok (.aload 5, 2) := oc_25 shX11_proof_7
theorem dX11_proof_9 : decode cX11_proof 9 = .ok (.ifnull 44, 3) := oc_198 shX11_proof_9 sgw_0_44
theorem dX11_proof_12 : decode cX11_proof 12 = .ok (.iload_n 2, 1) := oc_28 shX11_proof_12
theorem dX11_proof_13 : decode cX11_proof 13 = .ok (.ifCond .lt 40, 3) := oc_155 shX11_proof_13 sgw_0_40
theorem dX11_proof_53 : decode cX11_proof 53 = .ok (.iconst (-1), 1) := oc_2 shX11_proof_53
theorem dX11_proof_54 : decode cX11_proof 54 = .ok (.ireturn, 1) := oc_172 shX11_proof_54
theorem dX11_proof_16 : decode cX11_proof 16 = .ok (.iload_n 2, 1) := oc_28 shX11_proof_16
theorem dX11_proof_17 : decode cX11_proof 17 = .ok (.iload_n 3, 1) := oc_29 shX11_proof_17
theorem dX11_proof_18 : decode cX11_proof 18 = .ok (.if_icmp .ge 35, 3) := oc_162 shX11_proof_18 sgw_0_35
theorem dX11_proof_21 : decode cX11_proof 21 = .ok (.iload_n 3, 1) := oc_29 shX11_proof_21
theorem dX11_proof_22 : decode cX11_proof 22 = .ok (.aload 5, 2) := oc_25 shX11_proof_22
theorem dX11_proof_24 : decode cX11_proof 24 = .ok (.getfield 342, 3) := oc_180 shX11_proof_24
theorem dX11_proof_27 : decode cX11_proof 27 = .ok (.if_icmp .gt 26, 3) := oc_163 shX11_proof_27 sgw_0_26
theorem dX11_proof_30 : decode cX11_proof 30 = .ok (.iload 4, 2) := oc_21 shX11_proof_30
theorem dX11_proof_32 : decode cX11_proof 32 = .ok (.iconst 0, 1) := oc_3 shX11_proof_32
theorem dX11_proof_33 : decode cX11_proof 33 = .ok (.bipush 9, 2) := oc_16 shX11_proof_33 sgb_9
theorem dX11_proof_35 : decode cX11_proof 35 = .ok (.invokestatic 80, 3) := oc_184 shX11_proof_35
theorem dX11_proof_38 : decode cX11_proof 38 = .ok (.ifCond .eq 15, 3) := oc_153 shX11_proof_38 sgw_0_15
theorem dX11_proof_41 : decode cX11_proof 41 = .ok (.aload_n 0, 1) := oc_42 shX11_proof_41
theorem dX11_proof_42 : decode cX11_proof 42 = .ok (.getfield 71, 3) := oc_180 shX11_proof_42
theorem dX11_proof_45 : decode cX11_proof 45 = .ok (.invokevirtual 84, 3) := oc_182 shX11_proof_45
theorem dX11_proof_48 : decode cX11_proof 48 = .ok (.bipush 40, 2) := oc_16 shX11_proof_48 sgb_40
theorem dX11_proof_50 : decode cX11_proof 50 = .ok (.if_icmp .lt 5, 3) := oc_161 shX11_proof_50 sgw_0_5
theorem dX11_proof_55 : decode cX11_proof 55 = .ok (.aload_n 0, 1) := oc_42 shX11_proof_55
theorem dX11_proof_56 : decode cX11_proof 56 = .ok (.getfield 71, 3) := oc_180 shX11_proof_56
theorem dX11_proof_59 : decode cX11_proof 59 = .ok (.new 97, 3) := oc_187 shX11_proof_59
theorem dX11_proof_62 : decode cX11_proof 62 = .ok (.dup, 1) := oc_89 shX11_proof_62
theorem dX11_proof_63 : decode cX11_proof 63 = .ok (.iload_n 1, 1) := oc_27 shX11_proof_63
theorem dX11_proof_64 : decode cX11_proof 64 = .ok (.iload_n 2, 1) := oc_28 shX11_proof_64
theorem dX11_proof_65 : decode cX11_proof 65 = .ok (.iload_n 3, 1) := oc_29 shX11_proof_65
theorem dX11_proof_66 : decode cX11_proof 66 = .ok (.iload 4, 2) := oc_21 shX11_proof_66
theorem dX11_proof_68 : decode cX11_proof 68 = .ok (.aload_n 0, 1) := oc_42 shX11_proof_68
theorem dX11_proof_69 : decode cX11_proof 69 = .ok (.getfield 103, 3) := oc_180 shX11_proof_69
theorem dX11_proof_72 : decode cX11_proof 72 = .ok (.invokespecial 399, 3) := oc_183 shX11_proof_72
theorem dX11_proof_75 : decode cX11_proof 75 = .ok (.invokevirtual 110, 3) := oc_182 shX11_proof_75
theorem dX11_proof_78 : decode cX11_proof 78 = .ok (.pop, 1) := oc_87 shX11_proof_78
theorem dX11_proof_79 : decode cX11_proof 79 = .ok (.aload_n 0, 1) := oc_42 shX11_proof_79
theorem dX11_proof_80 : decode cX11_proof 80 = .ok (.getfield 71, 3) := oc_180 shX11_proof_80
theorem dX11_proof_83 : decode cX11_proof 83 = .ok (.invokevirtual 84, 3) := oc_182 shX11_proof_83
theorem dX11_proof_86 : decode cX11_proof 86 = .ok (.iconst 1, 1) := oc_4 shX11_proof_86
theorem dX11_proof_87 : decode cX11_proof 87 = .ok (.isub, 1) := oc_100 shX11_proof_87
theorem dX11_proof_88 : decode cX11_proof 88 = .ok (.ireturn, 1) := oc_172 shX11_proof_88
noncomputable def sxX11_fetch_194 : List UInt8 := []
noncomputable def sxX11_fetch_193 : List UInt8 := 172 :: sxX11_fetch_194
noncomputable def sxX11_fetch_192 : List UInt8 := 100 :: sxX11_fetch_193
noncomputable def sxX11_fetch_191 : List UInt8 := 4 :: sxX11_fetch_192
noncomputable def sxX11_fetch_188 : List UInt8 := 182 :: 0 :: 84 :: sxX11_fetch_191
noncomputable def sxX11_fetch_185 : List UInt8 := 180 :: 0 :: 65 :: sxX11_fetch_188
noncomputable def sxX11_fetch_184 : List UInt8 := 42 :: sxX11_fetch_185
noncomputable def sxX11_fetch_183 : List UInt8 := 87 :: sxX11_fetch_184
noncomputable def sxX11_fetch_180 : List UInt8 := 182 :: 0 :: 110 :: sxX11_fetch_183
noncomputable def sxX11_fetch_178 : List UInt8 := 25 :: 8 :: sxX11_fetch_180
noncomputable def sxX11_fetch_175 : List UInt8 := 180 :: 0 :: 65 :: sxX11_fetch_178
noncomputable def sxX11_fetch_174 : List UInt8 := 42 :: sxX11_fetch_175
noncomputable def sxX11_fetch_171 : List UInt8 := 182 :: 0 :: 144 :: sxX11_fetch_174
noncomputable def sxX11_fetch_170 : List UInt8 := 29 :: sxX11_fetch_171
noncomputable def sxX11_fetch_169 : List UInt8 := 28 :: sxX11_fetch_170
noncomputable def sxX11_fetch_166 : List UInt8 := 180 :: 0 :: 47 :: sxX11_fetch_169
noncomputable def sxX11_fetch_165 : List UInt8 := 42 :: sxX11_fetch_166
noncomputable def sxX11_fetch_162 : List UInt8 := 181 :: 0 :: 131 :: sxX11_fetch_165
noncomputable def sxX11_fetch_161 : List UInt8 := 96 :: sxX11_fetch_162
noncomputable def sxX11_fetch_160 : List UInt8 := 29 :: sxX11_fetch_161
noncomputable def sxX11_fetch_157 : List UInt8 := 180 :: 0 :: 131 :: sxX11_fetch_160
noncomputable def sxX11_fetch_156 : List UInt8 := 89 :: sxX11_fetch_157
noncomputable def sxX11_fetch_154 : List UInt8 := 25 :: 7 :: sxX11_fetch_156
noncomputable def sxX11_fetch_151 : List UInt8 := 181 :: 0 :: 118 :: sxX11_fetch_154
noncomputable def sxX11_fetch_150 : List UInt8 := 28 :: sxX11_fetch_151
noncomputable def sxX11_fetch_148 : List UInt8 := 25 :: 7 :: sxX11_fetch_150
noncomputable def sxX11_fetch_145 : List UInt8 := 181 :: 0 :: 141 :: sxX11_fetch_148
noncomputable def sxX11_fetch_142 : List UInt8 := 182 :: 0 :: 137 :: sxX11_fetch_145
noncomputable def sxX11_fetch_139 : List UInt8 := 182 :: 0 :: 121 :: sxX11_fetch_142
noncomputable def sxX11_fetch_136 : List UInt8 := 180 :: 0 :: 118 :: sxX11_fetch_139
noncomputable def sxX11_fetch_134 : List UInt8 := 25 :: 7 :: sxX11_fetch_136
noncomputable def sxX11_fetch_133 : List UInt8 := 28 :: sxX11_fetch_134
noncomputable def sxX11_fetch_131 : List UInt8 := 25 :: 7 :: sxX11_fetch_133
noncomputable def sxX11_fetch_129 : List UInt8 := 25 :: 8 :: sxX11_fetch_131
noncomputable def sxX11_fetch_127 : List UInt8 := 25 :: 8 :: sxX11_fetch_129
noncomputable def sxX11_fetch_124 : List UInt8 := 181 :: 0 :: 134 :: sxX11_fetch_127
noncomputable def sxX11_fetch_121 : List UInt8 := 180 :: 0 :: 131 :: sxX11_fetch_124
noncomputable def sxX11_fetch_119 : List UInt8 := 25 :: 7 :: sxX11_fetch_121
noncomputable def sxX11_fetch_117 : List UInt8 := 25 :: 8 :: sxX11_fetch_119
noncomputable def sxX11_fetch_114 : List UInt8 := 181 :: 0 :: 128 :: sxX11_fetch_117
noncomputable def sxX11_fetch_111 : List UInt8 := 180 :: 0 :: 118 :: sxX11_fetch_114
noncomputable def sxX11_fetch_109 : List UInt8 := 25 :: 7 :: sxX11_fetch_111
noncomputable def sxX11_fetch_107 : List UInt8 := 25 :: 8 :: sxX11_fetch_109
noncomputable def sxX11_fetch_105 : List UInt8 := 58 :: 8 :: sxX11_fetch_107
noncomputable def sxX11_fetch_102 : List UInt8 := 183 :: 0 :: 125 :: sxX11_fetch_105
noncomputable def sxX11_fetch_100 : List UInt8 := 21 :: 6 :: sxX11_fetch_102
noncomputable def sxX11_fetch_98 : List UInt8 := 21 :: 5 :: sxX11_fetch_100
noncomputable def sxX11_fetch_96 : List UInt8 := 21 :: 4 :: sxX11_fetch_98
noncomputable def sxX11_fetch_95 : List UInt8 := 29 :: sxX11_fetch_96
noncomputable def sxX11_fetch_94 : List UInt8 := 28 :: sxX11_fetch_95
noncomputable def sxX11_fetch_93 : List UInt8 := 27 :: sxX11_fetch_94
noncomputable def sxX11_fetch_92 : List UInt8 := 89 :: sxX11_fetch_93
noncomputable def sxX11_fetch_89 : List UInt8 := 187 :: 0 :: 93 :: sxX11_fetch_92
noncomputable def sxX11_fetch_88 : List UInt8 := 172 :: sxX11_fetch_89
noncomputable def sxX11_fetch_87 : List UInt8 := 2 :: sxX11_fetch_88
noncomputable def sxX11_fetch_84 : List UInt8 := 154 :: 0 :: 5 :: sxX11_fetch_87
noncomputable def sxX11_fetch_81 : List UInt8 := 184 :: 0 :: 80 :: sxX11_fetch_84
noncomputable def sxX11_fetch_78 : List UInt8 := 17 :: 3 :: 232 :: sxX11_fetch_81
noncomputable def sxX11_fetch_77 : List UInt8 := 3 :: sxX11_fetch_78
noncomputable def sxX11_fetch_75 : List UInt8 := 21 :: 5 :: sxX11_fetch_77
noncomputable def sxX11_fetch_72 : List UInt8 := 153 :: 0 :: 15 :: sxX11_fetch_75
noncomputable def sxX11_fetch_69 : List UInt8 := 184 :: 0 :: 80 :: sxX11_fetch_72
noncomputable def sxX11_fetch_66 : List UInt8 := 17 :: 3 :: 232 :: sxX11_fetch_69
noncomputable def sxX11_fetch_65 : List UInt8 := 3 :: sxX11_fetch_66
noncomputable def sxX11_fetch_63 : List UInt8 := 21 :: 4 :: sxX11_fetch_65
noncomputable def sxX11_fetch_60 : List UInt8 := 153 :: 0 :: 27 :: sxX11_fetch_63
noncomputable def sxX11_fetch_57 : List UInt8 := 184 :: 0 :: 80 :: sxX11_fetch_60
noncomputable def sxX11_fetch_54 : List UInt8 := 17 :: 1 :: 144 :: sxX11_fetch_57
noncomputable def sxX11_fetch_53 : List UInt8 := 3 :: sxX11_fetch_54
noncomputable def sxX11_fetch_52 : List UInt8 := 29 :: sxX11_fetch_53
noncomputable def sxX11_fetch_49 : List UInt8 := 153 :: 0 :: 38 :: sxX11_fetch_52
noncomputable def sxX11_fetch_46 : List UInt8 := 184 :: 0 :: 80 :: sxX11_fetch_49
noncomputable def sxX11_fetch_43 : List UInt8 := 17 :: 1 :: 143 :: sxX11_fetch_46
noncomputable def sxX11_fetch_42 : List UInt8 := 28 :: sxX11_fetch_43
noncomputable def sxX11_fetch_40 : List UInt8 := 21 :: 6 :: sxX11_fetch_42
noncomputable def sxX11_fetch_37 : List UInt8 := 153 :: 0 :: 50 :: sxX11_fetch_40
noncomputable def sxX11_fetch_34 : List UInt8 := 184 :: 0 :: 80 :: sxX11_fetch_37
noncomputable def sxX11_fetch_31 : List UInt8 := 180 :: 0 :: 103 :: sxX11_fetch_34
noncomputable def sxX11_fetch_30 : List UInt8 := 42 :: sxX11_fetch_31
noncomputable def sxX11_fetch_27 : List UInt8 := 180 :: 0 :: 118 :: sxX11_fetch_30
noncomputable def sxX11_fetch_25 : List UInt8 := 25 :: 7 :: sxX11_fetch_27
noncomputable def sxX11_fetch_24 : List UInt8 := 28 :: sxX11_fetch_25
noncomputable def sxX11_fetch_21 : List UInt8 := 162 :: 0 :: 66 :: sxX11_fetch_24
noncomputable def sxX11_fetch_19 : List UInt8 := 16 :: 60 :: sxX11_fetch_21
noncomputable def sxX11_fetch_16 : List UInt8 := 182 :: 0 :: 84 :: sxX11_fetch_19
noncomputable def sxX11_fetch_13 : List UInt8 := 180 :: 0 :: 65 :: sxX11_fetch_16
noncomputable def sxX11_fetch_12 : List UInt8 := 42 :: sxX11_fetch_13
noncomputable def sxX11_fetch_9 : List UInt8 := 198 :: 0 :: 78 :: sxX11_fetch_12
noncomputable def sxX11_fetch_7 : List UInt8 := 25 :: 7 :: sxX11_fetch_9
noncomputable def sxX11_fetch_5 : List UInt8 := 58 :: 7 :: sxX11_fetch_7
noncomputable def sxX11_fetch_2 : List UInt8 := 182 :: 0 :: 114 :: sxX11_fetch_5
noncomputable def sxX11_fetch_1 : List UInt8 := 27 :: sxX11_fetch_2
noncomputable def sxX11_fetch_0 : List UInt8 := 42 :: sxX11_fetch_1
theorem shX11_fetch_0 : cX11_fetch.data.toList.drop 0 = sxX11_fetch_0 := rfl
theorem shX11_fetch_1 : cX11_fetch.data.toList.drop 1 = sxX11_fetch_1 := dSn 1 shX11_fetch_0
theorem shX11_fetch_2 : cX11_fetch.data.toList.drop 2 = sxX11_fetch_2 := dSn 1 shX11_fetch_1
theorem shX11_fetch_5 : cX11_fetch.data.toList.drop 5 = sxX11_fetch_5 := dSn 3 shX11_fetch_2
theorem shX11_fetch_7 : cX11_fetch.data.toList.drop 7 = sxX11_fetch_7 := dSn 2 shX11_fetch_5
theorem shX11_fetch_9 : cX11_fetch.data.toList.drop 9 = sxX11_fetch_9 := dSn 2 shX11_fetch_7
theorem shX11_fetch_12 : cX11_fetch.data.toList.drop 12 = sxX11_fetch_12 := dSn 3 shX11_fetch_9
theorem shX11_fetch_13 : cX11_fetch.data.toList.drop 13 = sxX11_fetch_13 := dSn 1 shX11_fetch_12
theorem shX11_fetch_16 : cX11_fetch.data.toList.drop 16 = sxX11_fetch_16 := dSn 3 shX11_fetch_13
theorem shX11_fetch_19 : cX11_fetch.data.toList.drop 19 = sxX11_fetch_19 := dSn 3 shX11_fetch_16
theorem shX11_fetch_21 : cX11_fetch.data.toList.drop 21 = sxX11_fetch_21 := dSn 2 shX11_fetch_19
theorem shX11_fetch_24 : cX11_fetch.data.toList.drop 24 = sxX11_fetch_24 := dSn 3 shX11_fetch_21
theorem shX11_fetch_25 : cX11_fetch.data.toList.drop 25 = sxX11_fetch_25 := dSn 1 shX11_fetch_24
theorem shX11_fetch_27 : cX11_fetch.data.toList.drop 27 = sxX11_fetch_27 := dSn 2 shX11_fetch_25
theorem shX11_fetch_30 : cX11_fetch.data.toList.drop 30 = sxX11_fetch_30 := dSn 3 shX11_fetch_27
theorem shX11_fetch_31 : cX11_fetch.data.toList.drop 31 = sxX11_fetch_31 := dSn 1 shX11_fetch_30
theorem shX11_fetch_34 : cX11_fetch.data.toList.drop 34 = sxX11_fetch_34 := dSn 3 shX11_fetch_31
theorem shX11_fetch_37 : cX11_fetch.data.toList.drop 37 = sxX11_fetch_37 := dSn 3 shX11_fetch_34
theorem shX11_fetch_40 : cX11_fetch.data.toList.drop 40 = sxX11_fetch_40 := dSn 3 shX11_fetch_37
theorem shX11_fetch_42 : cX11_fetch.data.toList.drop 42 = sxX11_fetch_42 := dSn 2 shX11_fetch_40
theorem shX11_fetch_43 : cX11_fetch.data.toList.drop 43 = sxX11_fetch_43 := dSn 1 shX11_fetch_42
theorem shX11_fetch_46 : cX11_fetch.data.toList.drop 46 = sxX11_fetch_46 := dSn 3 shX11_fetch_43
theorem shX11_fetch_49 : cX11_fetch.data.toList.drop 49 = sxX11_fetch_49 := dSn 3 shX11_fetch_46
theorem shX11_fetch_52 : cX11_fetch.data.toList.drop 52 = sxX11_fetch_52 := dSn 3 shX11_fetch_49
theorem shX11_fetch_53 : cX11_fetch.data.toList.drop 53 = sxX11_fetch_53 := dSn 1 shX11_fetch_52
theorem shX11_fetch_54 : cX11_fetch.data.toList.drop 54 = sxX11_fetch_54 := dSn 1 shX11_fetch_53
theorem shX11_fetch_57 : cX11_fetch.data.toList.drop 57 = sxX11_fetch_57 := dSn 3 shX11_fetch_54
theorem shX11_fetch_60 : cX11_fetch.data.toList.drop 60 = sxX11_fetch_60 := dSn 3 shX11_fetch_57
theorem shX11_fetch_63 : cX11_fetch.data.toList.drop 63 = sxX11_fetch_63 := dSn 3 shX11_fetch_60
theorem shX11_fetch_65 : cX11_fetch.data.toList.drop 65 = sxX11_fetch_65 := dSn 2 shX11_fetch_63
theorem shX11_fetch_66 : cX11_fetch.data.toList.drop 66 = sxX11_fetch_66 := dSn 1 shX11_fetch_65
theorem shX11_fetch_69 : cX11_fetch.data.toList.drop 69 = sxX11_fetch_69 := dSn 3 shX11_fetch_66
theorem shX11_fetch_72 : cX11_fetch.data.toList.drop 72 = sxX11_fetch_72 := dSn 3 shX11_fetch_69
theorem shX11_fetch_75 : cX11_fetch.data.toList.drop 75 = sxX11_fetch_75 := dSn 3 shX11_fetch_72
theorem shX11_fetch_77 : cX11_fetch.data.toList.drop 77 = sxX11_fetch_77 := dSn 2 shX11_fetch_75
theorem shX11_fetch_78 : cX11_fetch.data.toList.drop 78 = sxX11_fetch_78 := dSn 1 shX11_fetch_77
theorem shX11_fetch_81 : cX11_fetch.data.toList.drop 81 = sxX11_fetch_81 := dSn 3 shX11_fetch_78
theorem shX11_fetch_84 : cX11_fetch.data.toList.drop 84 = sxX11_fetch_84 := dSn 3 shX11_fetch_81
theorem shX11_fetch_87 : cX11_fetch.data.toList.drop 87 = sxX11_fetch_87 := dSn 3 shX11_fetch_84
theorem shX11_fetch_88 : cX11_fetch.data.toList.drop 88 = sxX11_fetch_88 := dSn 1 shX11_fetch_87
theorem shX11_fetch_89 : cX11_fetch.data.toList.drop 89 = sxX11_fetch_89 := dSn 1 shX11_fetch_88
theorem shX11_fetch_92 : cX11_fetch.data.toList.drop 92 = sxX11_fetch_92 := dSn 3 shX11_fetch_89
theorem shX11_fetch_93 : cX11_fetch.data.toList.drop 93 = sxX11_fetch_93 := dSn 1 shX11_fetch_92
theorem shX11_fetch_94 : cX11_fetch.data.toList.drop 94 = sxX11_fetch_94 := dSn 1 shX11_fetch_93
theorem shX11_fetch_95 : cX11_fetch.data.toList.drop 95 = sxX11_fetch_95 := dSn 1 shX11_fetch_94
theorem shX11_fetch_96 : cX11_fetch.data.toList.drop 96 = sxX11_fetch_96 := dSn 1 shX11_fetch_95
theorem shX11_fetch_98 : cX11_fetch.data.toList.drop 98 = sxX11_fetch_98 := dSn 2 shX11_fetch_96
theorem shX11_fetch_100 : cX11_fetch.data.toList.drop 100 = sxX11_fetch_100 := dSn 2 shX11_fetch_98
theorem shX11_fetch_102 : cX11_fetch.data.toList.drop 102 = sxX11_fetch_102 := dSn 2 shX11_fetch_100
theorem shX11_fetch_105 : cX11_fetch.data.toList.drop 105 = sxX11_fetch_105 := dSn 3 shX11_fetch_102
theorem shX11_fetch_107 : cX11_fetch.data.toList.drop 107 = sxX11_fetch_107 := dSn 2 shX11_fetch_105
theorem shX11_fetch_109 : cX11_fetch.data.toList.drop 109 = sxX11_fetch_109 := dSn 2 shX11_fetch_107
theorem shX11_fetch_111 : cX11_fetch.data.toList.drop 111 = sxX11_fetch_111 := dSn 2 shX11_fetch_109
theorem shX11_fetch_114 : cX11_fetch.data.toList.drop 114 = sxX11_fetch_114 := dSn 3 shX11_fetch_111
theorem shX11_fetch_117 : cX11_fetch.data.toList.drop 117 = sxX11_fetch_117 := dSn 3 shX11_fetch_114
theorem shX11_fetch_119 : cX11_fetch.data.toList.drop 119 = sxX11_fetch_119 := dSn 2 shX11_fetch_117
theorem shX11_fetch_121 : cX11_fetch.data.toList.drop 121 = sxX11_fetch_121 := dSn 2 shX11_fetch_119
theorem shX11_fetch_124 : cX11_fetch.data.toList.drop 124 = sxX11_fetch_124 := dSn 3 shX11_fetch_121
theorem shX11_fetch_127 : cX11_fetch.data.toList.drop 127 = sxX11_fetch_127 := dSn 3 shX11_fetch_124
theorem shX11_fetch_129 : cX11_fetch.data.toList.drop 129 = sxX11_fetch_129 := dSn 2 shX11_fetch_127
theorem shX11_fetch_131 : cX11_fetch.data.toList.drop 131 = sxX11_fetch_131 := dSn 2 shX11_fetch_129
theorem shX11_fetch_133 : cX11_fetch.data.toList.drop 133 = sxX11_fetch_133 := dSn 2 shX11_fetch_131
theorem shX11_fetch_134 : cX11_fetch.data.toList.drop 134 = sxX11_fetch_134 := dSn 1 shX11_fetch_133
theorem shX11_fetch_136 : cX11_fetch.data.toList.drop 136 = sxX11_fetch_136 := dSn 2 shX11_fetch_134
theorem shX11_fetch_139 : cX11_fetch.data.toList.drop 139 = sxX11_fetch_139 := dSn 3 shX11_fetch_136
theorem shX11_fetch_142 : cX11_fetch.data.toList.drop 142 = sxX11_fetch_142 := dSn 3 shX11_fetch_139
theorem shX11_fetch_145 : cX11_fetch.data.toList.drop 145 = sxX11_fetch_145 := dSn 3 shX11_fetch_142
theorem shX11_fetch_148 : cX11_fetch.data.toList.drop 148 = sxX11_fetch_148 := dSn 3 shX11_fetch_145
theorem shX11_fetch_150 : cX11_fetch.data.toList.drop 150 = sxX11_fetch_150 := dSn 2 shX11_fetch_148
theorem shX11_fetch_151 : cX11_fetch.data.toList.drop 151 = sxX11_fetch_151 := dSn 1 shX11_fetch_150
theorem shX11_fetch_154 : cX11_fetch.data.toList.drop 154 = sxX11_fetch_154 := dSn 3 shX11_fetch_151
theorem shX11_fetch_156 : cX11_fetch.data.toList.drop 156 = sxX11_fetch_156 := dSn 2 shX11_fetch_154
theorem shX11_fetch_157 : cX11_fetch.data.toList.drop 157 = sxX11_fetch_157 := dSn 1 shX11_fetch_156
theorem shX11_fetch_160 : cX11_fetch.data.toList.drop 160 = sxX11_fetch_160 := dSn 3 shX11_fetch_157
theorem shX11_fetch_161 : cX11_fetch.data.toList.drop 161 = sxX11_fetch_161 := dSn 1 shX11_fetch_160
theorem shX11_fetch_162 : cX11_fetch.data.toList.drop 162 = sxX11_fetch_162 := dSn 1 shX11_fetch_161
theorem shX11_fetch_165 : cX11_fetch.data.toList.drop 165 = sxX11_fetch_165 := dSn 3 shX11_fetch_162
theorem shX11_fetch_166 : cX11_fetch.data.toList.drop 166 = sxX11_fetch_166 := dSn 1 shX11_fetch_165
theorem shX11_fetch_169 : cX11_fetch.data.toList.drop 169 = sxX11_fetch_169 := dSn 3 shX11_fetch_166
theorem shX11_fetch_170 : cX11_fetch.data.toList.drop 170 = sxX11_fetch_170 := dSn 1 shX11_fetch_169
theorem shX11_fetch_171 : cX11_fetch.data.toList.drop 171 = sxX11_fetch_171 := dSn 1 shX11_fetch_170
theorem shX11_fetch_174 : cX11_fetch.data.toList.drop 174 = sxX11_fetch_174 := dSn 3 shX11_fetch_171
theorem shX11_fetch_175 : cX11_fetch.data.toList.drop 175 = sxX11_fetch_175 := dSn 1 shX11_fetch_174
theorem shX11_fetch_178 : cX11_fetch.data.toList.drop 178 = sxX11_fetch_178 := dSn 3 shX11_fetch_175
theorem shX11_fetch_180 : cX11_fetch.data.toList.drop 180 = sxX11_fetch_180 := dSn 2 shX11_fetch_178
theorem shX11_fetch_183 : cX11_fetch.data.toList.drop 183 = sxX11_fetch_183 := dSn 3 shX11_fetch_180
theorem shX11_fetch_184 : cX11_fetch.data.toList.drop 184 = sxX11_fetch_184 := dSn 1 shX11_fetch_183
theorem shX11_fetch_185 : cX11_fetch.data.toList.drop 185 = sxX11_fetch_185 := dSn 1 shX11_fetch_184
theorem shX11_fetch_188 : cX11_fetch.data.toList.drop 188 = sxX11_fetch_188 := dSn 3 shX11_fetch_185
theorem shX11_fetch_191 : cX11_fetch.data.toList.drop 191 = sxX11_fetch_191 := dSn 3 shX11_fetch_188
theorem shX11_fetch_192 : cX11_fetch.data.toList.drop 192 = sxX11_fetch_192 := dSn 1 shX11_fetch_191
theorem shX11_fetch_193 : cX11_fetch.data.toList.drop 193 = sxX11_fetch_193 := dSn 1 shX11_fetch_192
theorem dX11_fetch_0 : decode cX11_fetch 0 = .ok (.aload_n 0, 1) := oc_42 shX11_fetch_0
theorem dX11_fetch_1 : decode cX11_fetch 1 = .ok (.iload_n 1, 1) := oc_27 shX11_fetch_1
theorem dX11_fetch_2 : decode cX11_fetch 2 = .ok (.invokevirtual 114, 3) := oc_182 shX11_fetch_2
theorem dX11_fetch_5 : decode cX11_fetch 5 = .ok (.astore 7, 2) := oc_58 shX11_fetch_5
theorem dX11_fetch_7 : decode cX11_fetch 7 = .ok (.aload 7, 2) := oc_25 shX11_fetch_7
theorem dX11_fetch_9 : decode cX11_fetch 9 = .ok (.ifnull 78, 3) := oc_198 shX11_fetch_9 sgw_0_78
theorem dX11_fetch_12 : decode cX11_fetch 12 = .ok (.aload_n 0, 1) := oc_42 shX11_fetch_12
theorem dX11_fetch_13 : decode cX11_fetch 13 = .ok (.getfield 65, 3) := oc_180 shX11_fetch_13
theorem dX11_fetch_16 : decode cX11_fetch 16 = .ok (.invokevirtual 84, 3) := oc_182 shX11_fetch_16
theorem dX11_fetch_19 : decode cX11_fetch 19 = .ok (.bipush 60, 2) := oc_16 shX11_fetch_19 sgb_60
theorem dX11_fetch_21 : decode cX11_fetch 21 = .ok (.if_icmp .ge 66, 3) := oc_162 shX11_fetch_21 sgw_0_66
theorem dX11_fetch_87 : decode cX11_fetch 87 = .ok (.iconst (-1), 1) := oc_2 shX11_fetch_87
theorem dX11_fetch_88 : decode cX11_fetch 88 = .ok (.ireturn, 1) := oc_172 shX11_fetch_88
theorem dX11_fetch_24 : decode cX11_fetch 24 = .ok (.iload_n 2, 1) := oc_28 shX11_fetch_24
theorem dX11_fetch_25 : decode cX11_fetch 25 = .ok (.aload 7, 2) := oc_25 shX11_fetch_25
theorem dX11_fetch_27 : decode cX11_fetch 27 = .ok (.getfield 118, 3) := oc_180 shX11_fetch_27
theorem dX11_fetch_30 : decode cX11_fetch 30 = .ok (.aload_n 0, 1) := oc_42 shX11_fetch_30
theorem dX11_fetch_31 : decode cX11_fetch 31 = .ok (.getfield 103, 3) := oc_180 shX11_fetch_31
theorem dX11_fetch_34 : decode cX11_fetch 34 = .ok (.invokestatic 80, 3) := oc_184 shX11_fetch_34
theorem dX11_fetch_37 : decode cX11_fetch 37 = .ok (.ifCond .eq 50, 3) := oc_153 shX11_fetch_37 sgw_0_50
theorem dX11_fetch_40 : decode cX11_fetch 40 = .ok (.iload 6, 2) := oc_21 shX11_fetch_40
theorem dX11_fetch_42 : decode cX11_fetch 42 = .ok (.iload_n 2, 1) := oc_28 shX11_fetch_42
theorem dX11_fetch_43 : decode cX11_fetch 43 = .ok (.sipush 399, 3) := oc_17 shX11_fetch_43 sgw_1_143
theorem dX11_fetch_46 : decode cX11_fetch 46 = .ok (.invokestatic 80, 3) := oc_184 shX11_fetch_46
theorem dX11_fetch_49 : decode cX11_fetch 49 = .ok (.ifCond .eq 38, 3) := oc_153 shX11_fetch_49 sgw_0_38
theorem dX11_fetch_52 : decode cX11_fetch 52 = .ok (.iload_n 3, 1) := oc_29 shX11_fetch_52
theorem dX11_fetch_53 : decode cX11_fetch 53 = .ok (.iconst 0, 1) := oc_3 shX11_fetch_53
theorem dX11_fetch_54 : decode cX11_fetch 54 = .ok (.sipush 400, 3) := oc_17 shX11_fetch_54 sgw_1_144
theorem dX11_fetch_57 : decode cX11_fetch 57 = .ok (.invokestatic 80, 3) := oc_184 shX11_fetch_57
theorem dX11_fetch_60 : decode cX11_fetch 60 = .ok (.ifCond .eq 27, 3) := oc_153 shX11_fetch_60 sgw_0_27
theorem dX11_fetch_63 : decode cX11_fetch 63 = .ok (.iload 4, 2) := oc_21 shX11_fetch_63
theorem dX11_fetch_65 : decode cX11_fetch 65 = .ok (.iconst 0, 1) := oc_3 shX11_fetch_65
theorem dX11_fetch_66 : decode cX11_fetch 66 = .ok (.sipush 1000, 3) := oc_17 shX11_fetch_66 sgw_3_232
theorem dX11_fetch_69 : decode cX11_fetch 69 = .ok (.invokestatic 80, 3) := oc_184 shX11_fetch_69
theorem dX11_fetch_72 : decode cX11_fetch 72 = .ok (.ifCond .eq 15, 3) := oc_153 shX11_fetch_72 sgw_0_15
theorem dX11_fetch_75 : decode cX11_fetch 75 = .ok (.iload 5, 2) := oc_21 shX11_fetch_75
theorem dX11_fetch_77 : decode cX11_fetch 77 = .ok (.iconst 0, 1) := oc_3 shX11_fetch_77
theorem dX11_fetch_78 : decode cX11_fetch 78 = .ok (.sipush 1000, 3) := oc_17 shX11_fetch_78 sgw_3_232
theorem dX11_fetch_81 : decode cX11_fetch 81 = .ok (.invokestatic 80, 3) := oc_184 shX11_fetch_81
theorem dX11_fetch_84 : decode cX11_fetch 84 = .ok (.ifCond .ne 5, 3) := oc_154 shX11_fetch_84 sgw_0_5
theorem dX11_fetch_89 : decode cX11_fetch 89 = .ok (.new 93, 3) := oc_187 shX11_fetch_89
theorem dX11_fetch_92 : decode cX11_fetch 92 = .ok (.dup, 1) := oc_89 shX11_fetch_92
theorem dX11_fetch_93 : decode cX11_fetch 93 = .ok (.iload_n 1, 1) := oc_27 shX11_fetch_93
theorem dX11_fetch_94 : decode cX11_fetch 94 = .ok (.iload_n 2, 1) := oc_28 shX11_fetch_94
theorem dX11_fetch_95 : decode cX11_fetch 95 = .ok (.iload_n 3, 1) := oc_29 shX11_fetch_95
theorem dX11_fetch_96 : decode cX11_fetch 96 = .ok (.iload 4, 2) := oc_21 shX11_fetch_96
theorem dX11_fetch_98 : decode cX11_fetch 98 = .ok (.iload 5, 2) := oc_21 shX11_fetch_98
theorem dX11_fetch_100 : decode cX11_fetch 100 = .ok (.iload 6, 2) := oc_21 shX11_fetch_100
theorem dX11_fetch_102 : decode cX11_fetch 102 = .ok (.invokespecial 125, 3) := oc_183 shX11_fetch_102
theorem dX11_fetch_105 : decode cX11_fetch 105 = .ok (.astore 8, 2) := oc_58 shX11_fetch_105
theorem dX11_fetch_107 : decode cX11_fetch 107 = .ok (.aload 8, 2) := oc_25 shX11_fetch_107
theorem dX11_fetch_109 : decode cX11_fetch 109 = .ok (.aload 7, 2) := oc_25 shX11_fetch_109
theorem dX11_fetch_111 : decode cX11_fetch 111 = .ok (.getfield 118, 3) := oc_180 shX11_fetch_111
theorem dX11_fetch_114 : decode cX11_fetch 114 = .ok (.putfield 128, 3) := oc_181 shX11_fetch_114
theorem dX11_fetch_117 : decode cX11_fetch 117 = .ok (.aload 8, 2) := oc_25 shX11_fetch_117
theorem dX11_fetch_119 : decode cX11_fetch 119 = .ok (.aload 7, 2) := oc_25 shX11_fetch_119
theorem dX11_fetch_121 : decode cX11_fetch 121 = .ok (.getfield 131, 3) := oc_180 shX11_fetch_121
theorem dX11_fetch_124 : decode cX11_fetch 124 = .ok (.putfield 134, 3) := oc_181 shX11_fetch_124
theorem dX11_fetch_127 : decode cX11_fetch 127 = .ok (.aload 8, 2) := oc_25 shX11_fetch_127
theorem dX11_fetch_129 : decode cX11_fetch 129 = .ok (.aload 8, 2) := oc_25 shX11_fetch_129
theorem dX11_fetch_131 : decode cX11_fetch 131 = .ok (.aload 7, 2) := oc_25 shX11_fetch_131
theorem dX11_fetch_133 : decode cX11_fetch 133 = .ok (.iload_n 2, 1) := oc_28 shX11_fetch_133
theorem dX11_fetch_134 : decode cX11_fetch 134 = .ok (.aload 7, 2) := oc_25 shX11_fetch_134
theorem dX11_fetch_136 : decode cX11_fetch 136 = .ok (.getfield 118, 3) := oc_180 shX11_fetch_136
theorem dX11_fetch_139 : decode cX11_fetch 139 = .ok (.invokevirtual 121, 3) := oc_182 shX11_fetch_139
theorem dX11_fetch_142 : decode cX11_fetch 142 = .ok (.invokevirtual 137, 3) := oc_182 shX11_fetch_142
theorem dX11_fetch_145 : decode cX11_fetch 145 = .ok (.putfield 141, 3) := oc_181 shX11_fetch_145
theorem dX11_fetch_148 : decode cX11_fetch 148 = .ok (.aload 7, 2) := oc_25 shX11_fetch_148
theorem dX11_fetch_150 : decode cX11_fetch 150 = .ok (.iload_n 2, 1) := oc_28 shX11_fetch_150
theorem dX11_fetch_151 : decode cX11_fetch 151 = .ok (.putfield 118, 3) := oc_181 shX11_fetch_151
theorem dX11_fetch_154 : decode cX11_fetch 154 = .ok (.aload 7, 2) := oc_25 shX11_fetch_154
theorem dX11_fetch_156 : decode cX11_fetch 156 = .ok (.dup, 1) := oc_89 shX11_fetch_156
theorem dX11_fetch_157 : decode cX11_fetch 157 = .ok (.getfield 131, 3) := oc_180 shX11_fetch_157
theorem dX11_fetch_160 : decode cX11_fetch 160 = .ok (.iload_n 3, 1) := oc_29 shX11_fetch_160
theorem dX11_fetch_161 : decode cX11_fetch 161 = .ok (.iadd, 1) := oc_96 shX11_fetch_161
theorem dX11_fetch_162 : decode cX11_fetch 162 = .ok (.putfield 131, 3) := oc_181 shX11_fetch_162
theorem dX11_fetch_165 : decode cX11_fetch 165 = .ok (.aload_n 0, 1) := oc_42 shX11_fetch_165
theorem dX11_fetch_166 : decode cX11_fetch 166 = .ok (.getfield 47, 3) := oc_180 shX11_fetch_166
theorem dX11_fetch_169 : decode cX11_fetch 169 = .ok (.iload_n 2, 1) := oc_28 shX11_fetch_169
theorem dX11_fetch_170 : decode cX11_fetch 170 = .ok (.iload_n 3, 1) := oc_29 shX11_fetch_170
theorem dX11_fetch_171 : decode cX11_fetch 171 = .ok (.invokevirtual 144, 3) := oc_182 shX11_fetch_171
theorem dX11_fetch_174 : decode cX11_fetch 174 = .ok (.aload_n 0, 1) := oc_42 shX11_fetch_174
theorem dX11_fetch_175 : decode cX11_fetch 175 = .ok (.getfield 65, 3) := oc_180 shX11_fetch_175
theorem dX11_fetch_178 : decode cX11_fetch 178 = .ok (.aload 8, 2) := oc_25 shX11_fetch_178
theorem dX11_fetch_180 : decode cX11_fetch 180 = .ok (.invokevirtual 110, 3) := oc_182 shX11_fetch_180
theorem dX11_fetch_183 : decode cX11_fetch 183 = .ok (.pop, 1) := oc_87 shX11_fetch_183
theorem dX11_fetch_184 : decode cX11_fetch 184 = .ok (.aload_n 0, 1) := oc_42 shX11_fetch_184
theorem dX11_fetch_185 : decode cX11_fetch 185 = .ok (.getfield 65, 3) := oc_180 shX11_fetch_185
theorem dX11_fetch_188 : decode cX11_fetch 188 = .ok (.invokevirtual 84, 3) := oc_182 shX11_fetch_188
theorem dX11_fetch_191 : decode cX11_fetch 191 = .ok (.iconst 1, 1) := oc_4 shX11_fetch_191
theorem dX11_fetch_192 : decode cX11_fetch 192 = .ok (.isub, 1) := oc_100 shX11_fetch_192
theorem dX11_fetch_193 : decode cX11_fetch 193 = .ok (.ireturn, 1) := oc_172 shX11_fetch_193
set_option maxRecDepth 100000 in
set_option maxHeartbeats 4000000 in
theorem q_l_shortOf (l : Launch) (D : va_G) (cI cB cZ : ClassId) (x : Nat) (e0 e1 e2 e3 e4 e5 e6 e7 e8 e9 : Int32) (v0 : Int32) : Met l yX2_shortOf (CWS yX2_shortOf cX2_shortOf 2 (some .int)) (RM 1 0 0) (PBr [.ref x, .int v0] D cI cB cZ [(x, .inr (3, [.int e0, .int e1, .int e2, .int e3, .int e4, .int e5, .int e6, .int e7, .int e8, .int e9]))]) (vp_Si (fun r => r = (if 0 < (v0 - e2) - v0 / 10 then (v0 - e2) - v0 / 10 else 0))) 0 0 (fun _ => False) := by
  refine en_r rfl pn_RX2 (Nat.le_of_ble_eq_true rfl) (fun p e s m below meth c hx hb hml hown S hr hlocks hnm hP hK hS ls hl => ?_)
  have hP : va_P D vwCl [(x, .inr (3, [.int e0, .int e1, .int e2, .int e3, .int e4, .int e5, .int e6, .int e7, .int e8, .int e9]))] s.heap := hP
  have hl : lv_has ls 2 [(0, .ref x), (1, .int v0)] := hl
  refine lv_iconst (v := 0) hx hb dX2_shortOf_0 kic_0 ?_
  refine lv_iload_n hx hb dX2_shortOf_1 rfl (lvA1 hl) ?_
  refine lv_aload_n hx hb dX2_shortOf_2 rfl (lvA0 hl) ?_
  refine gf_RX2_16 S hK hP 0 rfl (v := .int e2) rfl dX2_shortOf_3 ?_
  refine lv_isub hx hb dX2_shortOf_6 ?_
  refine lv_iload_n hx hb dX2_shortOf_7 rfl (lvA1 hl) ?_
  refine lv_bipush (v := 10) hx hb dX2_shortOf_8 kbc_10 ?_
  refine lv_idiv hx hb dX2_shortOf_10 (by decide) ?_
  refine lv_isub hx hb dX2_shortOf_11 ?_
  refine va_mmax hx hb (by rw [hml]; exact hl.1.symm) hown (S.2.2.2.2 _ (wk3_1 2 rfl rfl)) (S.2.2.2.2 _ (wk1_3 6 rfl rfl)) (S.2.2.2.2 _ (wk1_0 3 rfl rfl)) (S.2.2.2.2 _ (wk1_3 7 rfl rfl)) (Nat.le_of_ble_eq_true rfl) (Nat.le_of_ble_eq_true rfl) (Nat.le_of_ble_eq_true rfl) (Nat.le_of_ble_eq_true rfl) dX2_shortOf_12 ?_
  exact W.iret (v := (if 0 < ((v0 - e2) - (v0 / 10)) then ((v0 - e2) - (v0 / 10)) else 0)) hx hb hr (fun t ht hW => ⟨(if 0 < ((v0 - e2) - (v0 / 10)) then ((v0 - e2) - (v0 / 10)) else 0), rfl, rfl, ht⟩) (fun _ h => absurd h List.not_mem_nil) dX2_shortOf_15
set_option maxRecDepth 100000 in
set_option maxHeartbeats 4000000 in
theorem q_Xsewer (l : Launch) (D : va_G) (cI cB cZ : ClassId) (zz qq vv : Nat) (bt : Nat → Int32) (g : Nat → Nat) (ad : Nat → Nat → Nat) (cn : Nat → Nat) (In : Nat → Int32) (Fn : Nat → Nat → Int32) (v0 v1 : Int32) (sz : Nat) (hB : CBX cn) : Met l yX11_sewer (CWS yX11_sewer cX11_sewer 3 (some .int)) (RM 8 2 103) (PBx [.ref (g 0), .int v0, .int v1] D cI cB cZ zz qq vv bt (wX cI (D.1 99) zz g ad cn In Fn) sz) (va_Qi (fun (r : Int32) (u : (Nat → Nat → Nat) × (Nat → Nat) × (Nat → Int32) × (Nat → Nat → Int32)) => (fun r a2 c2 I2 F2 => (r = (-1) ∧ ¬ (0 ≤ v0.toInt ∧ v0.toInt ≤ 99 ∧ 0 ≤ v1.toInt ∧ v1.toInt ≤ 99 ∧ cn 14 < 10) ∧ ad = a2 ∧ cn = c2 ∧ In = I2 ∧ Fn = F2) ∨ (r = nI (cn 14) ∧ (0 ≤ v0.toInt ∧ v0.toInt ≤ 99 ∧ 0 ≤ v1.toInt ∧ v1.toInt ≤ 99 ∧ cn 14 < 10) ∧ ∃ (q z c : Nat) (y : Int32), (cn 14 < c ∧ c ≤ 100) ∧ (adP ad 14 (cn 14) q 4 z) = a2 ∧ (va_up (va_up cn 14 ((cn 14) + 1)) 24 c) = c2 ∧ (va_up In 14 y) = I2 ∧ (va_up (va_up (va_up Fn 170 (upd (Fn 170) (cn 14) v0)) 171 (upd (Fn 171) (cn 14) v1)) 172 (upd (Fn 172) (cn 14) 0)) = F2)) r u.1 u.2.1 u.2.2.1 u.2.2.2) (fun (u : (Nat → Nat → Nat) × (Nat → Nat) × (Nat → Int32) × (Nat → Nat → Int32)) (t : State) => va_P D vwCl (wX cI (D.1 99) zz g u.1 u.2.1 u.2.2.1 u.2.2.2) t.heap ∧ va_D (va_A (wX cI (D.1 99) zz g ad cn In Fn) sz) (wX cI (D.1 99) zz g u.1 u.2.1 u.2.2.1 u.2.2.2)) (va_A (wX cI (D.1 99) zz g ad cn In Fn) sz)) 2 103 (va_A (wX cI (D.1 99) zz g ad cn In Fn) sz) := by
  refine en_x (fun A => (va_Qi (fun (r : Int32) (u : (Nat → Nat → Nat) × (Nat → Nat) × (Nat → Int32) × (Nat → Nat → Int32)) => (fun (r : Int32) (a2 : Nat → Nat → Nat) (c2 : Nat → Nat) (I2 : Nat → Int32) (F2 : Nat → Nat → Int32) => (r = (-1) ∧ ¬ (0 ≤ v0.toInt ∧ v0.toInt ≤ 99 ∧ 0 ≤ v1.toInt ∧ v1.toInt ≤ 99 ∧ cn 14 < 10) ∧ ad = a2 ∧ cn = c2 ∧ In = I2 ∧ Fn = F2) ∨ (r = nI (cn 14) ∧ (0 ≤ v0.toInt ∧ v0.toInt ≤ 99 ∧ 0 ≤ v1.toInt ∧ v1.toInt ≤ 99 ∧ cn 14 < 10) ∧ ∃ (q z c : Nat) (y : Int32), (cn 14 < c ∧ c ≤ 100) ∧ (adP ad 14 (cn 14) q 4 z) = a2 ∧ (va_up (va_up cn 14 ((cn 14) + 1)) 24 c) = c2 ∧ (va_up In 14 y) = I2 ∧ (va_up (va_up (va_up Fn 170 (upd (Fn 170) (cn 14) v0)) 171 (upd (Fn 171) (cn 14) v1)) 172 (upd (Fn 172) (cn 14) 0)) = F2)) r u.1 u.2.1 u.2.2.1 u.2.2.2) (fun (u : (Nat → Nat → Nat) × (Nat → Nat) × (Nat → Int32) × (Nat → Nat → Int32)) (t : State) => va_P D vwCl (wX cI (D.1 99) zz g u.1 u.2.1 u.2.2.1 u.2.2.2) t.heap ∧ va_D A (wX cI (D.1 99) zz g u.1 u.2.1 u.2.2.1 u.2.2.2)) A)) rfl rfl pn_RX11 (Nat.le_of_ble_eq_true rfl) (fun p e s m below meth c A hx hb hml hown S hr hlocks hnm hA hP hK hD hXS hS ls hl => ?_)
  have hl : lv_has ls 3 [(0, .ref (g 0)), (1, .int v0), (2, .int v1)] := hl
  refine lv_iload_n hx hb dX11_sewer_0 rfl (lvA1 hl) ?_
  refine lv_iconst (v := 0) hx hb dX11_sewer_1 kic_0 ?_
  refine lv_bipush (v := 99) hx hb dX11_sewer_2 kbc_99 ?_
  refine vp_callSi (runS_r (As := [.int v0, .int 0, .int 99]) (rest := []) S (q_l_within l D cI cB cZ v0 0 99) kS_RX11_80 hK hP [] rfl ⟨Nat.le_of_ble_eq_true rfl, Nat.le_of_ble_eq_true rfl⟩ ⟨Nat.le_of_ble_eq_true rfl, Nat.le_of_ble_eq_true rfl⟩ rfl hl.1 rfl (Nat.le_of_ble_eq_true rfl) dX11_sewer_4) (fun r_1 h_2 => ?_)
  rcases h_2 with ⟨rfl, h_2⟩ | ⟨rfl, h_2⟩
  ·
    have h_2 : 0 ≤ v0.toInt ∧ v0.toInt ≤ 99 := h_2
    refine lv_if_eq (tgt := 32) hx hb dX11_sewer_7 rfl (fun h => absurd h cq_eq_1_0) (fun _ => ?_)
    refine lv_iload_n hx hb dX11_sewer_10 rfl (lvA2 hl) ?_
    refine lv_iconst (v := 0) hx hb dX11_sewer_11 kic_0 ?_
    refine lv_bipush (v := 99) hx hb dX11_sewer_12 kbc_99 ?_
    refine vp_callSi (runS_r (As := [.int v1, .int 0, .int 99]) (rest := []) S (q_l_within l D cI cB cZ v1 0 99) kS_RX11_80 hK hP [] rfl ⟨Nat.le_of_ble_eq_true rfl, Nat.le_of_ble_eq_true rfl⟩ ⟨Nat.le_of_ble_eq_true rfl, Nat.le_of_ble_eq_true rfl⟩ rfl hl.1 rfl (Nat.le_of_ble_eq_true rfl) dX11_sewer_14) (fun r_3 h_4 => ?_)
    rcases h_4 with ⟨rfl, h_4⟩ | ⟨rfl, h_4⟩
    ·
      have h_4 : 0 ≤ v1.toInt ∧ v1.toInt ≤ 99 := h_4
      refine lv_if_eq (tgt := 32) hx hb dX11_sewer_17 rfl (fun h => absurd h cq_eq_1_0) (fun _ => ?_)
      refine lv_aload_n hx hb dX11_sewer_20 rfl (lvA0 hl) ?_
      refine gf_RX11_74 S hK hP 0 xo_0 (v := .ref (g 14)) rfl dX11_sewer_21 ?_
      refine vp_callSi (runV_r (As := []) (rest := []) S (q_l_size l D cI cB cZ (g 14) (if (cn 14) = 0 then zz else ad 2 4) (In 14) (nI (cn 14))) kV_RX11_84 hK hP [28] (one_is xo_28) 28 xo_28 rfl rfl ⟨Nat.le_of_ble_eq_true rfl, Nat.le_of_ble_eq_true rfl⟩ ⟨Nat.le_of_ble_eq_true rfl, Nat.le_of_ble_eq_true rfl⟩ rfl hl.1 rfl (Nat.le_of_ble_eq_true rfl) dX11_sewer_24) (fun r_5 h_6 => ?_)
      subst h_6
      refine lv_bipush (v := 10) hx hb dX11_sewer_27 kbc_10 ?_
      have : (nI (cn 14)).toInt = (((cn 14) : Nat) : Int) := nI_toInt (by omega)
      refine lv_icmp_lt (tgt := 34) hx hb dX11_sewer_29 rfl (fun c_7 => ?_) (fun c_7 => ?_)
      ·
        have tc_7 : ((nI (cn 14)).toInt : Int) < 10 := Int32.lt_iff_toInt_lt.mp c_7
        refine lv_aload_n hx hb dX11_sewer_34 rfl (lvA0 hl) ?_
        refine gf_RX11_74 S hK hP 0 xo_0 (v := .ref (g 14)) rfl dX11_sewer_35 ?_
        refine va_new (ci := 7) (fs := [.int 0, .int 0, .int 0]) (C := RX6) (T := TX6) (N := 3) hx hb S.2.2.2.2 hin_RX6 tyX6 tyX6_ok hown (S.2.2.2.2 _ (wk5_17 5 rfl rfl)) (S.2.2.2.2 _ (wk5_17 6 rfl rfl)) (S.2.2.2.2 _ (wk1_2 1 rfl rfl)) hK.1 hP hD hS hA rfl (by decide +kernel) (Nat.le_of_ble_eq_true rfl) (Nat.le_of_ble_eq_true rfl) dX11_sewer_38 (fun q38 H hP hD hS => ?_)
        have hP : va_P D vwCl ((wX cI (D.1 99) zz g ad cn In Fn) ++ ([(q38, .inr (7, [.int 0, .int 0, .int 0]))] : va_W)) H := hP
        have hD : va_D A ((wX cI (D.1 99) zz g ad cn In Fn) ++ ([(q38, .inr (7, [.int 0, .int 0, .int 0]))] : va_W)) := hD
        refine lv_dup hx hb dX11_sewer_41 rfl ?_
        refine lv_iload_n hx hb dX11_sewer_42 rfl (lvA1 hl) ?_
        refine lv_iload_n hx hb dX11_sewer_43 rfl (lvA2 hl) ?_
        have hFc := va_free (wc := [(q38, .inr (7, [.int 0, .int 0, .int 0]))]) hD hS hA [_] (one_im (exr (m := 0) rfl))
        refine va_callv (runI_w (As := [.int v0, .int v1]) (rest := [.ref q38, .ref (g 14)]) S (q_l_Sewer l D cI cB cZ q38 v0 v1 H.size) kI_RX11_475 hK hP hD [_] (one_is (exr (m := 0) rfl)) (one_im (exr (m := 0) rfl)) rfl ⟨Nat.le_of_ble_eq_true rfl, Nat.le_of_ble_eq_true rfl⟩ ⟨Nat.le_of_ble_eq_true rfl, Nat.le_of_ble_eq_true rfl⟩ rfl hl.1 rfl (Nat.le_of_ble_eq_true rfl) dX11_sewer_44) hS (fun q _ h => hFc q h) hFc (fun u_8 t H1 locs ht hvm h_9 hB1 hz1 hk1 hS => ?_)
        obtain ⟨hP1, hD1⟩ := hB1
        rw [ht] at hP1
        obtain ⟨hP, hD⟩ := exjoin hP hD hk1 hFc hP1 hD1
        generalize H1 = H at hP hS ⊢
        have hP : va_P D vwCl ((wX cI (D.1 99) zz g ad cn In Fn) ++ ([(q38, .inr (7, [.int v0, .int v1, .int 0]))] : va_W)) H := hP
        have hD : va_D A ((wX cI (D.1 99) zz g ad cn In Fn) ++ ([(q38, .inr (7, [.int v0, .int v1, .int 0]))] : va_W)) := hD
        rcases Nat.eq_zero_or_pos (cn 14) with hz0 | hz0
        ·
          have hi9 : (wX cI (D.1 99) zz g ad cn In Fn)[28]? = _ := xlz_4 hz0
          have hp2P := pick2P hP (exl hi9) (exr (m := 0) rfl)
          have hp2D := pick2D hD (exl hi9) (exr (m := 0) rfl) (ne_ex hi9)
          have hFc := free_all hp2D hS hA
          refine va_calli (runV_xa (As := [.ref q38]) (rest := []) S (q_l_addZS l D cI cB cZ zz qq vv bt (g 14) q38 (In 14) v0 v1 0 H.size) kV_RX11_110 hK hXS hS hFc hp2P hp2D 0 rfl rfl rfl ⟨Nat.le_of_ble_eq_true rfl, Nat.le_of_ble_eq_true rfl⟩ ⟨Nat.le_of_ble_eq_true rfl, Nat.le_of_ble_eq_true rfl⟩ rfl hl.1 rfl (Nat.le_of_ble_eq_true rfl) dX11_sewer_47) hS (fun q _ h => hFc q h) hFc (fun r9 u9 t H1 locs ht hvm h9 hB1 hz1 hk1 hS => ?_)
          obtain ⟨hP1, hD1⟩ := hB1
          rw [ht] at hP1
          obtain rfl : r9 = 1 := h9
          obtain ⟨hP, hD⟩ := add0_join hP hD hi9 rfl hk1 hFc hP1 hD1 rfl (xu_4 (z := u9) (c := 10) (y := (In 14) + 1) (q := q38) (x0 := v0) (x1 := v1) (x2 := 0) hz0)
          have hP : va_P D vwCl (wX cI (D.1 99) zz g (adP ad 14 (cn 14) q38 4 u9) (va_up (va_up cn 14 ((cn 14) + 1)) 24 10) (va_up In 14 ((In 14) + 1)) (va_up (va_up (va_up Fn 170 (upd (Fn 170) (cn 14) v0)) 171 (upd (Fn 171) (cn 14) v1)) 172 (upd (Fn 172) (cn 14) 0))) H1 := hP
          have hD : va_D A (wX cI (D.1 99) zz g (adP ad 14 (cn 14) q38 4 u9) (va_up (va_up cn 14 ((cn 14) + 1)) 24 10) (va_up In 14 ((In 14) + 1)) (va_up (va_up (va_up Fn 170 (upd (Fn 170) (cn 14) v0)) 171 (upd (Fn 171) (cn 14) v1)) 172 (upd (Fn 172) (cn 14) 0))) := hD
          generalize H1 = H at hP hS ⊢
          refine W.widen (k := 2) (n := 103) (Nat.le_of_ble_eq_true rfl) (Nat.le_of_ble_eq_true rfl) ?_
          refine lv_pop hx hb dX11_sewer_50 rfl ?_
          refine lv_aload_n hx hb dX11_sewer_51 rfl (lvA0 hl) ?_
          refine gf_RX11_74 S hK hP 0 xo_0 (v := .ref (g 14)) rfl dX11_sewer_52 ?_
          refine vp_callSi (runV_r (As := []) (rest := []) S (q_l_size l D cI cB cZ (g 14) (if ((cn 14) + 1) = 0 then zz else (adP ad 14 (cn 14) q38 4 u9) 2 4) ((In 14) + 1) (nI ((cn 14) + 1))) kV_RX11_84 hK hP [28] (one_is xo_28) 28 xo_28 rfl rfl ⟨Nat.le_of_ble_eq_true rfl, Nat.le_of_ble_eq_true rfl⟩ ⟨Nat.le_of_ble_eq_true rfl, Nat.le_of_ble_eq_true rfl⟩ rfl hl.1 rfl (Nat.le_of_ble_eq_true rfl) dX11_sewer_55) (fun r_11 h_12 => ?_)
          subst h_12
          refine lv_iconst (v := 1) hx hb dX11_sewer_58 kic_1 ?_
          refine lv_isub hx hb dX11_sewer_59 ?_
          refine lv_topi (fun y_13 ey_13 => ?_)
          obtain rfl : y_13 = (nI (cn 14)) := ey_13.trans (nI_sub (b := 1) (by omega))
          exact W.iret (v := (nI (cn 14))) hx hb hr (fun t ht hW => ⟨⟨(nI (cn 14)), ((adP ad 14 (cn 14) q38 4 u9), (va_up (va_up cn 14 ((cn 14) + 1)) 24 10), (va_up In 14 ((In 14) + 1)), (va_up (va_up (va_up Fn 170 (upd (Fn 170) (cn 14) v0)) 171 (upd (Fn 171) (cn 14) v1)) 172 (upd (Fn 172) (cn 14) 0))), rfl, (Or.inr ⟨rfl, by omega, q38, u9, 10, ((In 14) + 1), ⟨by omega, by omega⟩, rfl, rfl, rfl, rfl⟩), by rw [ht]; exact hP, hD⟩, hS.F ht⟩) hS.2.2 dX11_sewer_60
        ·
          have hi9 : (wX cI (D.1 99) zz g ad cn In Fn)[28]? = _ := xl_4 hz0
          have hj9 : (wX cI (D.1 99) zz g ad cn In Fn)[_]? = _ := xf_17 (k := 0) (show 0 < min 1 (cn 14) by omega)
          obtain ⟨ws9, hp1, hp2⟩ := pickG (W := ((wX cI (D.1 99) zz g ad cn In Fn) ++ ([(q38, .inr (7, [.int v0, .int v1, .int 0]))] : va_W))) (exl hi9) (exl hj9) (exr (m := 0) rfl) (xij (by decide)) (ne_ex hi9) (ne_ex hj9)
          have hP9 := va_P_perm hp1 hP
          have hD9 := va_D_perm hp1 hD
          have hFc := free_all hD9 hS hA
          refine va_calli (runV_xa (As := [.ref q38]) (rest := []) S (q_l_addGS l D cI cB cZ zz qq vv bt (cn 24) (g 14) (ad 2 4) (cn 14) q38 (In 14) (ad 14) v0 v1 0 ws9 H.size (by omega) (by omega) hz0 (by omega) (fun i hi => ⟨_, g_mem (hp1.mem_iff.mp (List.mem_of_getElem? (exl (xf_4 (k := i) hi)))) (by decide)⟩)) kV_RX11_110 hK hXS hS hFc hP9 hD9 0 rfl rfl rfl ⟨Nat.le_of_ble_eq_true rfl, Nat.le_of_ble_eq_true rfl⟩ ⟨Nat.le_of_ble_eq_true rfl, Nat.le_of_ble_eq_true rfl⟩ rfl hl.1 rfl (Nat.le_of_ble_eq_true rfl) dX11_sewer_47) hS (fun q _ h => hFc q h) hFc (fun r9 u9 t H1 locs ht hvm h9 hB1 hz1 hk1 hS => ?_)
          obtain ⟨hP1, hD1⟩ := hB1
          rw [ht] at hP1
          obtain ⟨hr9, h9⟩ := h9
          obtain rfl : r9 = 1 := hr9
          obtain ⟨ua9, uc9⟩ := u9
          have hu9 : cn 14 < uc9 ∧ uc9 ≤ 100 := h9
          obtain ⟨hP, hD⟩ := addG_join hp2 hi9 hj9 hP1 hD1 hFc (xadd_4 (z := ua9) (c := uc9) (y := (In 14) + 1) (q := q38) (x0 := v0) (x1 := v1) (x2 := 0) hz0)
          have hP : va_P D vwCl (wX cI (D.1 99) zz g (adP ad 14 (cn 14) q38 4 ua9) (va_up (va_up cn 14 ((cn 14) + 1)) 24 uc9) (va_up In 14 ((In 14) + 1)) (va_up (va_up (va_up Fn 170 (upd (Fn 170) (cn 14) v0)) 171 (upd (Fn 171) (cn 14) v1)) 172 (upd (Fn 172) (cn 14) 0))) H1 := hP
          have hD : va_D A (wX cI (D.1 99) zz g (adP ad 14 (cn 14) q38 4 ua9) (va_up (va_up cn 14 ((cn 14) + 1)) 24 uc9) (va_up In 14 ((In 14) + 1)) (va_up (va_up (va_up Fn 170 (upd (Fn 170) (cn 14) v0)) 171 (upd (Fn 171) (cn 14) v1)) 172 (upd (Fn 172) (cn 14) 0))) := hD
          generalize H1 = H at hP hS ⊢
          refine lv_pop hx hb dX11_sewer_50 rfl ?_
          refine lv_aload_n hx hb dX11_sewer_51 rfl (lvA0 hl) ?_
          refine gf_RX11_74 S hK hP 0 xo_0 (v := .ref (g 14)) rfl dX11_sewer_52 ?_
          refine vp_callSi (runV_r (As := []) (rest := []) S (q_l_size l D cI cB cZ (g 14) (if ((cn 14) + 1) = 0 then zz else (adP ad 14 (cn 14) q38 4 ua9) 2 4) ((In 14) + 1) (nI ((cn 14) + 1))) kV_RX11_84 hK hP [28] (one_is xo_28) 28 xo_28 rfl rfl ⟨Nat.le_of_ble_eq_true rfl, Nat.le_of_ble_eq_true rfl⟩ ⟨Nat.le_of_ble_eq_true rfl, Nat.le_of_ble_eq_true rfl⟩ rfl hl.1 rfl (Nat.le_of_ble_eq_true rfl) dX11_sewer_55) (fun r_14 h_15 => ?_)
          subst h_15
          refine lv_iconst (v := 1) hx hb dX11_sewer_58 kic_1 ?_
          refine lv_isub hx hb dX11_sewer_59 ?_
          refine lv_topi (fun y_16 ey_16 => ?_)
          obtain rfl : y_16 = (nI (cn 14)) := ey_16.trans (nI_sub (b := 1) (by omega))
          exact W.iret (v := (nI (cn 14))) hx hb hr (fun t ht hW => ⟨⟨(nI (cn 14)), ((adP ad 14 (cn 14) q38 4 ua9), (va_up (va_up cn 14 ((cn 14) + 1)) 24 uc9), (va_up In 14 ((In 14) + 1)), (va_up (va_up (va_up Fn 170 (upd (Fn 170) (cn 14) v0)) 171 (upd (Fn 171) (cn 14) v1)) 172 (upd (Fn 172) (cn 14) 0))), rfl, (Or.inr ⟨rfl, by omega, q38, ua9, uc9, ((In 14) + 1), ⟨by omega, by omega⟩, rfl, rfl, rfl, rfl⟩), by rw [ht]; exact hP, hD⟩, hS.F ht⟩) hS.2.2 dX11_sewer_60
      ·
        have tc_7 : (10 : Int) ≤ (nI (cn 14)).toInt := Int32.le_iff_toInt_le.mp (Int32.not_lt.mp c_7)
        refine lv_iconst (v := (-1)) hx hb dX11_sewer_32 kic_m1 ?_
        refine W.widen (k := 2) (n := 103) (Nat.le_of_ble_eq_true rfl) (Nat.le_of_ble_eq_true rfl) ?_
        exact W.iret (v := (-1)) hx hb hr (fun t ht hW => ⟨⟨(-1), (ad, cn, In, Fn), rfl, (Or.inl ⟨rfl, by omega, rfl, rfl, rfl, rfl⟩), by rw [ht]; exact hP, hD⟩, hS.F ht⟩) hS.2.2 dX11_sewer_33
    ·
      have h_4 : ¬ (0 ≤ v1.toInt ∧ v1.toInt ≤ 99) := h_4
      refine lv_if_eq (tgt := 32) hx hb dX11_sewer_17 rfl (fun _ => ?_) (fun h => absurd h cq_eq_0_0)
      refine lv_iconst (v := (-1)) hx hb dX11_sewer_32 kic_m1 ?_
      refine W.widen (k := 2) (n := 103) (Nat.le_of_ble_eq_true rfl) (Nat.le_of_ble_eq_true rfl) ?_
      exact W.iret (v := (-1)) hx hb hr (fun t ht hW => ⟨⟨(-1), (ad, cn, In, Fn), rfl, (Or.inl ⟨rfl, by omega, rfl, rfl, rfl, rfl⟩), by rw [ht]; exact hP, hD⟩, hS.F ht⟩) hS.2.2 dX11_sewer_33
  ·
    have h_2 : ¬ (0 ≤ v0.toInt ∧ v0.toInt ≤ 99) := h_2
    refine lv_if_eq (tgt := 32) hx hb dX11_sewer_7 rfl (fun _ => ?_) (fun h => absurd h cq_eq_0_0)
    refine lv_iconst (v := (-1)) hx hb dX11_sewer_32 kic_m1 ?_
    refine W.widen (k := 2) (n := 103) (Nat.le_of_ble_eq_true rfl) (Nat.le_of_ble_eq_true rfl) ?_
    exact W.iret (v := (-1)) hx hb hr (fun t ht hW => ⟨⟨(-1), (ad, cn, In, Fn), rfl, (Or.inl ⟨rfl, by omega, rfl, rfl, rfl, rfl⟩), by rw [ht]; exact hP, hD⟩, hS.F ht⟩) hS.2.2 dX11_sewer_33
set_option maxRecDepth 100000 in
set_option maxHeartbeats 4000000 in
theorem q_Xkitchen (l : Launch) (D : va_G) (cI cB cZ : ClassId) (zz qq vv : Nat) (bt : Nat → Int32) (g : Nat → Nat) (ad : Nat → Nat → Nat) (cn : Nat → Nat) (In : Nat → Int32) (Fn : Nat → Nat → Int32) (v0 v1 v2 v3 : Int32) (sz : Nat) (hB : CBX cn) (hT : (∀ k : Nat, k < cn 10 → ad 3 k < cn 6) ∧ ad 4 0 < cn 6 ∧ ad 4 1 < cn 6) : Met l yX11_kitchen (CWS yX11_kitchen cX11_kitchen 6 (some .int)) (RM 8 8 188) (PBx [.ref (g 0), .int v0, .int v1, .int v2, .int v3] D cI cB cZ zz qq vv bt (wX cI (D.1 99) zz g ad cn In Fn) sz) (va_Qi (fun (r : Int32) (u : (Nat → Nat → Nat) × (Nat → Nat) × (Nat → Int32) × (Nat → Nat → Int32)) => (fun r a2 c2 I2 F2 => (r = (-1) ∧ ¬ (0 ≤ v0.toInt ∧ v0.toInt ≤ 99 ∧ 0 ≤ v1.toInt ∧ v1.toInt ≤ 99 ∧ 0 ≤ v2.toInt ∧ v2.toInt ≤ 50 ∧ 20 ≤ v3.toInt ∧ v3.toInt ≤ 400 ∧ cn 10 < 10) ∧ ad = a2 ∧ cn = c2 ∧ In = I2 ∧ Fn = F2) ∨ (r = nI (cn 10) ∧ (0 ≤ v0.toInt ∧ v0.toInt ≤ 99 ∧ 0 ≤ v1.toInt ∧ v1.toInt ≤ 99 ∧ 0 ≤ v2.toInt ∧ v2.toInt ≤ 50 ∧ 20 ≤ v3.toInt ∧ v3.toInt ≤ 400 ∧ cn 10 < 10) ∧ ∃ (q qt r0 r1 r2 r3 r4 z c : Nat) (y : Int32), (cn 10 < c ∧ c ≤ 100) ∧ (adO (adO (adO (adO (adO (adO (adO (adO (adO ad 10 (cn 10) q) 3 (cn 10) (cn 6)) 5 (cn 6) qt) 60 (cn 6) r0) 61 (cn 6) r1) 62 (cn 6) r2) 63 (cn 6) r3) 64 (cn 6) r4) 2 0 z) = a2 ∧ (va_up (va_up (va_up cn 10 ((cn 10) + 1)) 20 c) 6 (cn 6 + 1)) = c2 ∧ (va_up In 10 y) = I2 ∧ (va_up (va_up (va_up (va_up (va_up (va_up (va_up (va_up (va_up (va_up (va_up (va_up (va_up (va_up (va_up (va_up (va_up (va_up (va_up (va_up Fn 100 (upd (Fn 100) (cn 10) v0)) 101 (upd (Fn 101) (cn 10) v1)) 102 (upd (Fn 102) (cn 10) v2)) 103 (upd (Fn 103) (cn 10) v3)) 104 (upd (Fn 104) (cn 10) 0)) 105 (upd (Fn 105) (cn 10) 0)) 106 (upd (Fn 106) (cn 10) 0)) 107 (upd (Fn 107) (cn 10) 0)) 108 (upd (Fn 108) (cn 10) 0)) 109 (upd (Fn 109) (cn 10) 0)) 195 (upd (Fn 195) (cn 6) 0)) 196 (upd (Fn 196) (cn 6) 0)) 197 (upd (Fn 197) (cn 6) 0)) 198 (upd (Fn 198) (cn 6) 0)) 199 (upd (Fn 199) (cn 6) 0)) 301 (flat (Fn 301) 200 (cn 6) (fun _ => 0))) 302 (flat (Fn 302) 12 (cn 6) (fun _ => 0))) 303 (flat (Fn 303) 12 (cn 6) (fun _ => 0))) 304 (flat (Fn 304) 12 (cn 6) (fun _ => 0))) 305 (flat (Fn 305) 32 (cn 6) (fun _ => 0))) = F2)) r u.1 u.2.1 u.2.2.1 u.2.2.2) (fun (u : (Nat → Nat → Nat) × (Nat → Nat) × (Nat → Int32) × (Nat → Nat → Int32)) (t : State) => va_P D vwCl (wX cI (D.1 99) zz g u.1 u.2.1 u.2.2.1 u.2.2.2) t.heap ∧ va_D (va_A (wX cI (D.1 99) zz g ad cn In Fn) sz) (wX cI (D.1 99) zz g u.1 u.2.1 u.2.2.1 u.2.2.2)) (va_A (wX cI (D.1 99) zz g ad cn In Fn) sz)) 8 188 (va_A (wX cI (D.1 99) zz g ad cn In Fn) sz) := by
  refine en_x (fun A => (va_Qi (fun (r : Int32) (u : (Nat → Nat → Nat) × (Nat → Nat) × (Nat → Int32) × (Nat → Nat → Int32)) => (fun (r : Int32) (a2 : Nat → Nat → Nat) (c2 : Nat → Nat) (I2 : Nat → Int32) (F2 : Nat → Nat → Int32) => (r = (-1) ∧ ¬ (0 ≤ v0.toInt ∧ v0.toInt ≤ 99 ∧ 0 ≤ v1.toInt ∧ v1.toInt ≤ 99 ∧ 0 ≤ v2.toInt ∧ v2.toInt ≤ 50 ∧ 20 ≤ v3.toInt ∧ v3.toInt ≤ 400 ∧ cn 10 < 10) ∧ ad = a2 ∧ cn = c2 ∧ In = I2 ∧ Fn = F2) ∨ (r = nI (cn 10) ∧ (0 ≤ v0.toInt ∧ v0.toInt ≤ 99 ∧ 0 ≤ v1.toInt ∧ v1.toInt ≤ 99 ∧ 0 ≤ v2.toInt ∧ v2.toInt ≤ 50 ∧ 20 ≤ v3.toInt ∧ v3.toInt ≤ 400 ∧ cn 10 < 10) ∧ ∃ (q qt r0 r1 r2 r3 r4 z c : Nat) (y : Int32), (cn 10 < c ∧ c ≤ 100) ∧ (adO (adO (adO (adO (adO (adO (adO (adO (adO ad 10 (cn 10) q) 3 (cn 10) (cn 6)) 5 (cn 6) qt) 60 (cn 6) r0) 61 (cn 6) r1) 62 (cn 6) r2) 63 (cn 6) r3) 64 (cn 6) r4) 2 0 z) = a2 ∧ (va_up (va_up (va_up cn 10 ((cn 10) + 1)) 20 c) 6 (cn 6 + 1)) = c2 ∧ (va_up In 10 y) = I2 ∧ (va_up (va_up (va_up (va_up (va_up (va_up (va_up (va_up (va_up (va_up (va_up (va_up (va_up (va_up (va_up (va_up (va_up (va_up (va_up (va_up Fn 100 (upd (Fn 100) (cn 10) v0)) 101 (upd (Fn 101) (cn 10) v1)) 102 (upd (Fn 102) (cn 10) v2)) 103 (upd (Fn 103) (cn 10) v3)) 104 (upd (Fn 104) (cn 10) 0)) 105 (upd (Fn 105) (cn 10) 0)) 106 (upd (Fn 106) (cn 10) 0)) 107 (upd (Fn 107) (cn 10) 0)) 108 (upd (Fn 108) (cn 10) 0)) 109 (upd (Fn 109) (cn 10) 0)) 195 (upd (Fn 195) (cn 6) 0)) 196 (upd (Fn 196) (cn 6) 0)) 197 (upd (Fn 197) (cn 6) 0)) 198 (upd (Fn 198) (cn 6) 0)) 199 (upd (Fn 199) (cn 6) 0)) 301 (flat (Fn 301) 200 (cn 6) (fun _ => 0))) 302 (flat (Fn 302) 12 (cn 6) (fun _ => 0))) 303 (flat (Fn 303) 12 (cn 6) (fun _ => 0))) 304 (flat (Fn 304) 12 (cn 6) (fun _ => 0))) 305 (flat (Fn 305) 32 (cn 6) (fun _ => 0))) = F2)) r u.1 u.2.1 u.2.2.1 u.2.2.2) (fun (u : (Nat → Nat → Nat) × (Nat → Nat) × (Nat → Int32) × (Nat → Nat → Int32)) (t : State) => va_P D vwCl (wX cI (D.1 99) zz g u.1 u.2.1 u.2.2.1 u.2.2.2) t.heap ∧ va_D A (wX cI (D.1 99) zz g u.1 u.2.1 u.2.2.1 u.2.2.2)) A)) rfl rfl pn_RX11 (Nat.le_of_ble_eq_true rfl) (fun p e s m below meth c A hx hb hml hown S hr hlocks hnm hA hP hK hD hXS hS ls hl => ?_)
  have hl : lv_has ls 6 [(0, .ref (g 0)), (1, .int v0), (2, .int v1), (3, .int v2), (4, .int v3)] := hl
  refine lv_iload_n hx hb dX11_kitchen_0 rfl (lvA1 hl) ?_
  refine lv_iconst (v := 0) hx hb dX11_kitchen_1 kic_0 ?_
  refine lv_bipush (v := 99) hx hb dX11_kitchen_2 kbc_99 ?_
  refine vp_callSi (runS_r (As := [.int v0, .int 0, .int 99]) (rest := []) S (q_l_within l D cI cB cZ v0 0 99) kS_RX11_80 hK hP [] rfl ⟨Nat.le_of_ble_eq_true rfl, Nat.le_of_ble_eq_true rfl⟩ ⟨Nat.le_of_ble_eq_true rfl, Nat.le_of_ble_eq_true rfl⟩ rfl hl.1 rfl (Nat.le_of_ble_eq_true rfl) dX11_kitchen_4) (fun r_1 h_2 => ?_)
  rcases h_2 with ⟨rfl, h_2⟩ | ⟨rfl, h_2⟩
  ·
    have h_2 : 0 ≤ v0.toInt ∧ v0.toInt ≤ 99 := h_2
    refine lv_if_eq (tgt := 24) hx hb dX11_kitchen_7 rfl (fun h => absurd h cq_eq_1_0) (fun _ => ?_)
    refine lv_iload_n hx hb dX11_kitchen_10 rfl (lvA2 hl) ?_
    refine lv_iconst (v := 0) hx hb dX11_kitchen_11 kic_0 ?_
    refine lv_bipush (v := 99) hx hb dX11_kitchen_12 kbc_99 ?_
    refine vp_callSi (runS_r (As := [.int v1, .int 0, .int 99]) (rest := []) S (q_l_within l D cI cB cZ v1 0 99) kS_RX11_80 hK hP [] rfl ⟨Nat.le_of_ble_eq_true rfl, Nat.le_of_ble_eq_true rfl⟩ ⟨Nat.le_of_ble_eq_true rfl, Nat.le_of_ble_eq_true rfl⟩ rfl hl.1 rfl (Nat.le_of_ble_eq_true rfl) dX11_kitchen_14) (fun r_3 h_4 => ?_)
    rcases h_4 with ⟨rfl, h_4⟩ | ⟨rfl, h_4⟩
    ·
      have h_4 : 0 ≤ v1.toInt ∧ v1.toInt ≤ 99 := h_4
      refine lv_if_eq (tgt := 24) hx hb dX11_kitchen_17 rfl (fun h => absurd h cq_eq_1_0) (fun _ => ?_)
      refine lv_iconst (v := 1) hx hb dX11_kitchen_20 kic_1 ?_
      refine lv_goto (tgt := 25) hx hb dX11_kitchen_21 rfl ?_
      refine lv_istore (lv' := [(5, .int 1), (0, .ref (g 0)), (1, .int v0), (2, .int v1), (3, .int v2), (4, .int v3)]) hx hb dX11_kitchen_25 hl (ltb rfl) rfl (fun ls hl => ?_)
      refine lv_iload hx hb dX11_kitchen_27 (lvA0 hl) ?_
      refine lv_if_eq (tgt := 67) hx hb dX11_kitchen_29 rfl (fun h => absurd h cq_eq_1_0) (fun _ => ?_)
      refine lv_iload_n hx hb dX11_kitchen_32 rfl (lvA4 hl) ?_
      refine lv_iconst (v := 0) hx hb dX11_kitchen_33 kic_0 ?_
      refine lv_bipush (v := 50) hx hb dX11_kitchen_34 kbc_50 ?_
      refine vp_callSi (runS_r (As := [.int v2, .int 0, .int 50]) (rest := []) S (q_l_within l D cI cB cZ v2 0 50) kS_RX11_80 hK hP [] rfl ⟨Nat.le_of_ble_eq_true rfl, Nat.le_of_ble_eq_true rfl⟩ ⟨Nat.le_of_ble_eq_true rfl, Nat.le_of_ble_eq_true rfl⟩ rfl hl.1 rfl (Nat.le_of_ble_eq_true rfl) dX11_kitchen_36) (fun r_5 h_6 => ?_)
      rcases h_6 with ⟨rfl, h_6⟩ | ⟨rfl, h_6⟩
      ·
        have h_6 : 0 ≤ v2.toInt ∧ v2.toInt ≤ 50 := h_6
        refine lv_if_eq (tgt := 67) hx hb dX11_kitchen_39 rfl (fun h => absurd h cq_eq_1_0) (fun _ => ?_)
        refine lv_iload hx hb dX11_kitchen_42 (lvA5 hl) ?_
        refine lv_bipush (v := 20) hx hb dX11_kitchen_44 kbc_20 ?_
        refine lv_sipush (v := 400) hx hb dX11_kitchen_46 (by decide) ?_
        refine vp_callSi (runS_r (As := [.int v3, .int 20, .int 400]) (rest := []) S (q_l_within l D cI cB cZ v3 20 400) kS_RX11_80 hK hP [] rfl ⟨Nat.le_of_ble_eq_true rfl, Nat.le_of_ble_eq_true rfl⟩ ⟨Nat.le_of_ble_eq_true rfl, Nat.le_of_ble_eq_true rfl⟩ rfl hl.1 rfl (Nat.le_of_ble_eq_true rfl) dX11_kitchen_49) (fun r_7 h_8 => ?_)
        rcases h_8 with ⟨rfl, h_8⟩ | ⟨rfl, h_8⟩
        ·
          have h_8 : 20 ≤ v3.toInt ∧ v3.toInt ≤ 400 := h_8
          refine lv_if_eq (tgt := 67) hx hb dX11_kitchen_52 rfl (fun h => absurd h cq_eq_1_0) (fun _ => ?_)
          refine lv_aload_n hx hb dX11_kitchen_55 rfl (lvA1 hl) ?_
          refine gf_RX11_61 S hK hP 0 xo_0 (v := .ref (g 10)) rfl dX11_kitchen_56 ?_
          refine vp_callSi (runV_r (As := []) (rest := []) S (q_l_size l D cI cB cZ (g 10) (if (cn 10) = 0 then zz else ad 2 0) (In 10) (nI (cn 10))) kV_RX11_84 hK hP [24] (one_is xo_24) 24 xo_24 rfl rfl ⟨Nat.le_of_ble_eq_true rfl, Nat.le_of_ble_eq_true rfl⟩ ⟨Nat.le_of_ble_eq_true rfl, Nat.le_of_ble_eq_true rfl⟩ rfl hl.1 rfl (Nat.le_of_ble_eq_true rfl) dX11_kitchen_59) (fun r_9 h_10 => ?_)
          subst h_10
          refine lv_bipush (v := 10) hx hb dX11_kitchen_62 kbc_10 ?_
          have : (nI (cn 10)).toInt = (((cn 10) : Nat) : Int) := nI_toInt (by omega)
          refine lv_icmp_lt (tgt := 69) hx hb dX11_kitchen_64 rfl (fun c_11 => ?_) (fun c_11 => ?_)
          ·
            have tc_11 : ((nI (cn 10)).toInt : Int) < 10 := Int32.lt_iff_toInt_lt.mp c_11
            refine lv_aload_n hx hb dX11_kitchen_69 rfl (lvA1 hl) ?_
            refine gf_RX11_61 S hK hP 0 xo_0 (v := .ref (g 10)) rfl dX11_kitchen_70 ?_
            refine va_new (ci := 2) (fs := [.int 0, .int 0, .int 0, .int 0, .int 0, .int 0, .int 0, .int 0, .int 0, .int 0, .null]) (C := RX1) (T := TX1) (N := 11) hx hb S.2.2.2.2 hin_RX1 tyX1 tyX1_ok hown (S.2.2.2.2 _ (wk2_5 3 rfl rfl)) (S.2.2.2.2 _ (wk2_5 4 rfl rfl)) (S.2.2.2.2 _ (wk1_1 2 rfl rfl)) hK.1 hP hD hS hA rfl (by decide +kernel) (Nat.le_of_ble_eq_true rfl) (Nat.le_of_ble_eq_true rfl) dX11_kitchen_73 (fun q73 H hP hD hS => ?_)
            have hP : va_P D vwCl ((wX cI (D.1 99) zz g ad cn In Fn) ++ ([(q73, .inr (2, [.int 0, .int 0, .int 0, .int 0, .int 0, .int 0, .int 0, .int 0, .int 0, .int 0, .null]))] : va_W)) H := hP
            have hD : va_D A ((wX cI (D.1 99) zz g ad cn In Fn) ++ ([(q73, .inr (2, [.int 0, .int 0, .int 0, .int 0, .int 0, .int 0, .int 0, .int 0, .int 0, .int 0, .null]))] : va_W)) := hD
            refine lv_dup hx hb dX11_kitchen_76 rfl ?_
            refine lv_iload_n hx hb dX11_kitchen_77 rfl (lvA2 hl) ?_
            refine lv_iload_n hx hb dX11_kitchen_78 rfl (lvA3 hl) ?_
            refine lv_iload_n hx hb dX11_kitchen_79 rfl (lvA4 hl) ?_
            refine lv_iload hx hb dX11_kitchen_80 (lvA5 hl) ?_
            have hFc := va_free (wc := [(q73, .inr (2, [.int 0, .int 0, .int 0, .int 0, .int 0, .int 0, .int 0, .int 0, .int 0, .int 0, .null]))]) hD hS hA [_] (one_im (exr (m := 0) rfl))
            refine va_callv (runI_w (As := [.int v0, .int v1, .int v2, .int v3]) (rest := [.ref q73, .ref (g 10)]) S (q_l_Kitchen l D cI cB cZ q73 v0 v1 v2 v3 H.size) kI_RX11_107 hK hP hD [_] (one_is (exr (m := 0) rfl)) (one_im (exr (m := 0) rfl)) rfl ⟨Nat.le_of_ble_eq_true rfl, Nat.le_of_ble_eq_true rfl⟩ ⟨Nat.le_of_ble_eq_true rfl, Nat.le_of_ble_eq_true rfl⟩ rfl hl.1 rfl (Nat.le_of_ble_eq_true rfl) dX11_kitchen_82) hS (fun q _ h => hFc q h) hFc (fun u_12 t H1 locs ht hvm h_13 hB1 hz1 hk1 hS => ?_)
            obtain ⟨hP1, hD1⟩ := hB1
            rw [ht] at hP1
            obtain ⟨hP, hD⟩ := exjoin hP hD hk1 hFc hP1 hD1
            generalize H1 = H at hP hS ⊢
            have hP : va_P D vwCl ((wX cI (D.1 99) zz g ad cn In Fn) ++ ([(q73, .inr (2, [.int v0, .int v1, .int v2, .int v3, .int 0, .int 0, .int 0, .int 0, .int 0, .int 0, .ref (u_12 5)])), ((u_12 5), .inr (10, [.ref (u_12 0), .ref (u_12 1), .ref (u_12 2), .ref (u_12 3), .ref (u_12 4), .int 0, .int 0, .int 0, .int 0])), ((u_12 0), .inl (cI, 0, .inl (fun _ => 0))), ((u_12 1), .inl (cI, 12, .inl (fun _ => 0))), ((u_12 2), .inl (cI, 12, .inl (fun _ => 0))), ((u_12 3), .inl (cI, 12, .inl (fun _ => 0))), ((u_12 4), .inl (cI, 32, .inl (fun _ => 0)))] : va_W)) H := hP
            have hD : va_D A ((wX cI (D.1 99) zz g ad cn In Fn) ++ ([(q73, .inr (2, [.int v0, .int v1, .int v2, .int v3, .int 0, .int 0, .int 0, .int 0, .int 0, .int 0, .ref (u_12 5)])), ((u_12 5), .inr (10, [.ref (u_12 0), .ref (u_12 1), .ref (u_12 2), .ref (u_12 3), .ref (u_12 4), .int 0, .int 0, .int 0, .int 0])), ((u_12 0), .inl (cI, 0, .inl (fun _ => 0))), ((u_12 1), .inl (cI, 12, .inl (fun _ => 0))), ((u_12 2), .inl (cI, 12, .inl (fun _ => 0))), ((u_12 3), .inl (cI, 12, .inl (fun _ => 0))), ((u_12 4), .inl (cI, 32, .inl (fun _ => 0)))] : va_W)) := hD
            rcases Nat.eq_zero_or_pos (cn 10) with hz0 | hz0
            ·
              have hi9 : (wX cI (D.1 99) zz g ad cn In Fn)[24]? = _ := xlz_0 hz0
              have hp2P := pick2P hP (exl hi9) (exr (m := 0) rfl)
              have hp2D := pick2D hD (exl hi9) (exr (m := 0) rfl) (ne_ex hi9)
              have hFc := free_all hp2D hS hA
              refine va_calli (runV_xa (As := [.ref q73]) (rest := []) S (q_l_addZK l D cI cB cZ zz qq vv bt (g 10) q73 (In 10) v0 v1 v2 v3 0 0 0 0 0 0 (u_12 5) H.size) kV_RX11_110 hK hXS hS hFc hp2P hp2D 0 rfl rfl rfl ⟨Nat.le_of_ble_eq_true rfl, Nat.le_of_ble_eq_true rfl⟩ ⟨Nat.le_of_ble_eq_true rfl, Nat.le_of_ble_eq_true rfl⟩ rfl hl.1 rfl (Nat.le_of_ble_eq_true rfl) dX11_kitchen_85) hS (fun q _ h => hFc q h) hFc (fun r13 u13 t H1 locs ht hvm h13 hB1 hz1 hk1 hS => ?_)
              obtain ⟨hP1, hD1⟩ := hB1
              rw [ht] at hP1
              obtain rfl : r13 = 1 := h13
              obtain ⟨hP, hD⟩ := add0_join hP hD hi9 rfl hk1 hFc hP1 hD1 rfl (xuK (z := u13) (c := 10) (y := (In 10) + 1) (q := q73) (qt := (u_12 5)) (r0 := (u_12 0)) (r1 := (u_12 1)) (r2 := (u_12 2)) (r3 := (u_12 3)) (r4 := (u_12 4)) (x0 := v0) (x1 := v1) (x2 := v2) (x3 := v3) (x4 := 0) (x5 := 0) (x6 := 0) (x7 := 0) (x8 := 0) (x9 := 0) hz0 hT.1 hT.2.1 hT.2.2)
              have hP : va_P D vwCl (wX cI (D.1 99) zz g (adO (adO (adO (adO (adO (adO (adO (adO (adO ad 10 (cn 10) q73) 3 (cn 10) (cn 6)) 5 (cn 6) (u_12 5)) 60 (cn 6) (u_12 0)) 61 (cn 6) (u_12 1)) 62 (cn 6) (u_12 2)) 63 (cn 6) (u_12 3)) 64 (cn 6) (u_12 4)) 2 0 u13) (va_up (va_up (va_up cn 10 ((cn 10) + 1)) 20 10) 6 (cn 6 + 1)) (va_up In 10 ((In 10) + 1)) (va_up (va_up (va_up (va_up (va_up (va_up (va_up (va_up (va_up (va_up (va_up (va_up (va_up (va_up (va_up (va_up (va_up (va_up (va_up (va_up Fn 100 (upd (Fn 100) (cn 10) v0)) 101 (upd (Fn 101) (cn 10) v1)) 102 (upd (Fn 102) (cn 10) v2)) 103 (upd (Fn 103) (cn 10) v3)) 104 (upd (Fn 104) (cn 10) 0)) 105 (upd (Fn 105) (cn 10) 0)) 106 (upd (Fn 106) (cn 10) 0)) 107 (upd (Fn 107) (cn 10) 0)) 108 (upd (Fn 108) (cn 10) 0)) 109 (upd (Fn 109) (cn 10) 0)) 195 (upd (Fn 195) (cn 6) 0)) 196 (upd (Fn 196) (cn 6) 0)) 197 (upd (Fn 197) (cn 6) 0)) 198 (upd (Fn 198) (cn 6) 0)) 199 (upd (Fn 199) (cn 6) 0)) 301 (flat (Fn 301) 200 (cn 6) (fun _ => 0))) 302 (flat (Fn 302) 12 (cn 6) (fun _ => 0))) 303 (flat (Fn 303) 12 (cn 6) (fun _ => 0))) 304 (flat (Fn 304) 12 (cn 6) (fun _ => 0))) 305 (flat (Fn 305) 32 (cn 6) (fun _ => 0)))) H1 := hP
              have hD : va_D A (wX cI (D.1 99) zz g (adO (adO (adO (adO (adO (adO (adO (adO (adO ad 10 (cn 10) q73) 3 (cn 10) (cn 6)) 5 (cn 6) (u_12 5)) 60 (cn 6) (u_12 0)) 61 (cn 6) (u_12 1)) 62 (cn 6) (u_12 2)) 63 (cn 6) (u_12 3)) 64 (cn 6) (u_12 4)) 2 0 u13) (va_up (va_up (va_up cn 10 ((cn 10) + 1)) 20 10) 6 (cn 6 + 1)) (va_up In 10 ((In 10) + 1)) (va_up (va_up (va_up (va_up (va_up (va_up (va_up (va_up (va_up (va_up (va_up (va_up (va_up (va_up (va_up (va_up (va_up (va_up (va_up (va_up Fn 100 (upd (Fn 100) (cn 10) v0)) 101 (upd (Fn 101) (cn 10) v1)) 102 (upd (Fn 102) (cn 10) v2)) 103 (upd (Fn 103) (cn 10) v3)) 104 (upd (Fn 104) (cn 10) 0)) 105 (upd (Fn 105) (cn 10) 0)) 106 (upd (Fn 106) (cn 10) 0)) 107 (upd (Fn 107) (cn 10) 0)) 108 (upd (Fn 108) (cn 10) 0)) 109 (upd (Fn 109) (cn 10) 0)) 195 (upd (Fn 195) (cn 6) 0)) 196 (upd (Fn 196) (cn 6) 0)) 197 (upd (Fn 197) (cn 6) 0)) 198 (upd (Fn 198) (cn 6) 0)) 199 (upd (Fn 199) (cn 6) 0)) 301 (flat (Fn 301) 200 (cn 6) (fun _ => 0))) 302 (flat (Fn 302) 12 (cn 6) (fun _ => 0))) 303 (flat (Fn 303) 12 (cn 6) (fun _ => 0))) 304 (flat (Fn 304) 12 (cn 6) (fun _ => 0))) 305 (flat (Fn 305) 32 (cn 6) (fun _ => 0)))) := hD
              generalize H1 = H at hP hS ⊢
              refine W.widen (k := 8) (n := 188) (Nat.le_of_ble_eq_true rfl) (Nat.le_of_ble_eq_true rfl) ?_
              refine lv_pop hx hb dX11_kitchen_88 rfl ?_
              refine lv_aload_n hx hb dX11_kitchen_89 rfl (lvA1 hl) ?_
              refine gf_RX11_61 S hK hP 0 xo_0 (v := .ref (g 10)) rfl dX11_kitchen_90 ?_
              refine vp_callSi (runV_r (As := []) (rest := []) S (q_l_size l D cI cB cZ (g 10) (if ((cn 10) + 1) = 0 then zz else (adO (adO (adO (adO (adO (adO (adO (adO (adO ad 10 (cn 10) q73) 3 (cn 10) (cn 6)) 5 (cn 6) (u_12 5)) 60 (cn 6) (u_12 0)) 61 (cn 6) (u_12 1)) 62 (cn 6) (u_12 2)) 63 (cn 6) (u_12 3)) 64 (cn 6) (u_12 4)) 2 0 u13) 2 0) ((In 10) + 1) (nI ((cn 10) + 1))) kV_RX11_84 hK hP [24] (one_is xo_24) 24 xo_24 rfl rfl ⟨Nat.le_of_ble_eq_true rfl, Nat.le_of_ble_eq_true rfl⟩ ⟨Nat.le_of_ble_eq_true rfl, Nat.le_of_ble_eq_true rfl⟩ rfl hl.1 rfl (Nat.le_of_ble_eq_true rfl) dX11_kitchen_93) (fun r_15 h_16 => ?_)
              subst h_16
              refine lv_iconst (v := 1) hx hb dX11_kitchen_96 kic_1 ?_
              refine lv_isub hx hb dX11_kitchen_97 ?_
              refine lv_topi (fun y_17 ey_17 => ?_)
              obtain rfl : y_17 = (nI (cn 10)) := ey_17.trans (nI_sub (b := 1) (by omega))
              exact W.iret (v := (nI (cn 10))) hx hb hr (fun t ht hW => ⟨⟨(nI (cn 10)), ((adO (adO (adO (adO (adO (adO (adO (adO (adO ad 10 (cn 10) q73) 3 (cn 10) (cn 6)) 5 (cn 6) (u_12 5)) 60 (cn 6) (u_12 0)) 61 (cn 6) (u_12 1)) 62 (cn 6) (u_12 2)) 63 (cn 6) (u_12 3)) 64 (cn 6) (u_12 4)) 2 0 u13), (va_up (va_up (va_up cn 10 ((cn 10) + 1)) 20 10) 6 (cn 6 + 1)), (va_up In 10 ((In 10) + 1)), (va_up (va_up (va_up (va_up (va_up (va_up (va_up (va_up (va_up (va_up (va_up (va_up (va_up (va_up (va_up (va_up (va_up (va_up (va_up (va_up Fn 100 (upd (Fn 100) (cn 10) v0)) 101 (upd (Fn 101) (cn 10) v1)) 102 (upd (Fn 102) (cn 10) v2)) 103 (upd (Fn 103) (cn 10) v3)) 104 (upd (Fn 104) (cn 10) 0)) 105 (upd (Fn 105) (cn 10) 0)) 106 (upd (Fn 106) (cn 10) 0)) 107 (upd (Fn 107) (cn 10) 0)) 108 (upd (Fn 108) (cn 10) 0)) 109 (upd (Fn 109) (cn 10) 0)) 195 (upd (Fn 195) (cn 6) 0)) 196 (upd (Fn 196) (cn 6) 0)) 197 (upd (Fn 197) (cn 6) 0)) 198 (upd (Fn 198) (cn 6) 0)) 199 (upd (Fn 199) (cn 6) 0)) 301 (flat (Fn 301) 200 (cn 6) (fun _ => 0))) 302 (flat (Fn 302) 12 (cn 6) (fun _ => 0))) 303 (flat (Fn 303) 12 (cn 6) (fun _ => 0))) 304 (flat (Fn 304) 12 (cn 6) (fun _ => 0))) 305 (flat (Fn 305) 32 (cn 6) (fun _ => 0)))), rfl, (Or.inr ⟨rfl, by omega, q73, (u_12 5), (u_12 0), (u_12 1), (u_12 2), (u_12 3), (u_12 4), u13, 10, ((In 10) + 1), ⟨by omega, by omega⟩, rfl, rfl, rfl, rfl⟩), by rw [ht]; exact hP, hD⟩, hS.F ht⟩) hS.2.2 dX11_kitchen_98
            ·
              have hi9 : (wX cI (D.1 99) zz g ad cn In Fn)[24]? = _ := xl_0 hz0
              have hj9 : (wX cI (D.1 99) zz g ad cn In Fn)[_]? = _ := xf_13 (k := 0) (show 0 < min 1 (cn 10) by omega)
              obtain ⟨ws9, hp1, hp2⟩ := pickG (W := ((wX cI (D.1 99) zz g ad cn In Fn) ++ ([(q73, .inr (2, [.int v0, .int v1, .int v2, .int v3, .int 0, .int 0, .int 0, .int 0, .int 0, .int 0, .ref (u_12 5)])), ((u_12 5), .inr (10, [.ref (u_12 0), .ref (u_12 1), .ref (u_12 2), .ref (u_12 3), .ref (u_12 4), .int 0, .int 0, .int 0, .int 0])), ((u_12 0), .inl (cI, 0, .inl (fun _ => 0))), ((u_12 1), .inl (cI, 12, .inl (fun _ => 0))), ((u_12 2), .inl (cI, 12, .inl (fun _ => 0))), ((u_12 3), .inl (cI, 12, .inl (fun _ => 0))), ((u_12 4), .inl (cI, 32, .inl (fun _ => 0)))] : va_W))) (exl hi9) (exl hj9) (exr (m := 0) rfl) (xij (by decide)) (ne_ex hi9) (ne_ex hj9)
              have hP9 := va_P_perm hp1 hP
              have hD9 := va_D_perm hp1 hD
              have hFc := free_all hD9 hS hA
              refine va_calli (runV_xa (As := [.ref q73]) (rest := []) S (q_l_addGK l D cI cB cZ zz qq vv bt (cn 20) (g 10) (ad 2 0) (cn 10) q73 (In 10) (ad 10) v0 v1 v2 v3 0 0 0 0 0 0 (u_12 5) ws9 H.size (by omega) (by omega) hz0 (by omega) (fun i hi => ⟨_, g_mem (hp1.mem_iff.mp (List.mem_of_getElem? (exl (xf_0 (k := i) hi)))) (by decide)⟩)) kV_RX11_110 hK hXS hS hFc hP9 hD9 0 rfl rfl rfl ⟨Nat.le_of_ble_eq_true rfl, Nat.le_of_ble_eq_true rfl⟩ ⟨Nat.le_of_ble_eq_true rfl, Nat.le_of_ble_eq_true rfl⟩ rfl hl.1 rfl (Nat.le_of_ble_eq_true rfl) dX11_kitchen_85) hS (fun q _ h => hFc q h) hFc (fun r13 u13 t H1 locs ht hvm h13 hB1 hz1 hk1 hS => ?_)
              obtain ⟨hP1, hD1⟩ := hB1
              rw [ht] at hP1
              obtain ⟨hr13, h13⟩ := h13
              obtain rfl : r13 = 1 := hr13
              obtain ⟨ua13, uc13⟩ := u13
              have hu13 : cn 10 < uc13 ∧ uc13 ≤ 100 := h13
              obtain ⟨hP, hD⟩ := addG_join hp2 hi9 hj9 hP1 hD1 hFc (xaddK (z := ua13) (c := uc13) (y := (In 10) + 1) (q := q73) (qt := (u_12 5)) (r0 := (u_12 0)) (r1 := (u_12 1)) (r2 := (u_12 2)) (r3 := (u_12 3)) (r4 := (u_12 4)) (x0 := v0) (x1 := v1) (x2 := v2) (x3 := v3) (x4 := 0) (x5 := 0) (x6 := 0) (x7 := 0) (x8 := 0) (x9 := 0) hz0 hT.1 hT.2.1 hT.2.2)
              have hP : va_P D vwCl (wX cI (D.1 99) zz g (adO (adO (adO (adO (adO (adO (adO (adO (adO ad 10 (cn 10) q73) 3 (cn 10) (cn 6)) 5 (cn 6) (u_12 5)) 60 (cn 6) (u_12 0)) 61 (cn 6) (u_12 1)) 62 (cn 6) (u_12 2)) 63 (cn 6) (u_12 3)) 64 (cn 6) (u_12 4)) 2 0 ua13) (va_up (va_up (va_up cn 10 ((cn 10) + 1)) 20 uc13) 6 (cn 6 + 1)) (va_up In 10 ((In 10) + 1)) (va_up (va_up (va_up (va_up (va_up (va_up (va_up (va_up (va_up (va_up (va_up (va_up (va_up (va_up (va_up (va_up (va_up (va_up (va_up (va_up Fn 100 (upd (Fn 100) (cn 10) v0)) 101 (upd (Fn 101) (cn 10) v1)) 102 (upd (Fn 102) (cn 10) v2)) 103 (upd (Fn 103) (cn 10) v3)) 104 (upd (Fn 104) (cn 10) 0)) 105 (upd (Fn 105) (cn 10) 0)) 106 (upd (Fn 106) (cn 10) 0)) 107 (upd (Fn 107) (cn 10) 0)) 108 (upd (Fn 108) (cn 10) 0)) 109 (upd (Fn 109) (cn 10) 0)) 195 (upd (Fn 195) (cn 6) 0)) 196 (upd (Fn 196) (cn 6) 0)) 197 (upd (Fn 197) (cn 6) 0)) 198 (upd (Fn 198) (cn 6) 0)) 199 (upd (Fn 199) (cn 6) 0)) 301 (flat (Fn 301) 200 (cn 6) (fun _ => 0))) 302 (flat (Fn 302) 12 (cn 6) (fun _ => 0))) 303 (flat (Fn 303) 12 (cn 6) (fun _ => 0))) 304 (flat (Fn 304) 12 (cn 6) (fun _ => 0))) 305 (flat (Fn 305) 32 (cn 6) (fun _ => 0)))) H1 := hP
              have hD : va_D A (wX cI (D.1 99) zz g (adO (adO (adO (adO (adO (adO (adO (adO (adO ad 10 (cn 10) q73) 3 (cn 10) (cn 6)) 5 (cn 6) (u_12 5)) 60 (cn 6) (u_12 0)) 61 (cn 6) (u_12 1)) 62 (cn 6) (u_12 2)) 63 (cn 6) (u_12 3)) 64 (cn 6) (u_12 4)) 2 0 ua13) (va_up (va_up (va_up cn 10 ((cn 10) + 1)) 20 uc13) 6 (cn 6 + 1)) (va_up In 10 ((In 10) + 1)) (va_up (va_up (va_up (va_up (va_up (va_up (va_up (va_up (va_up (va_up (va_up (va_up (va_up (va_up (va_up (va_up (va_up (va_up (va_up (va_up Fn 100 (upd (Fn 100) (cn 10) v0)) 101 (upd (Fn 101) (cn 10) v1)) 102 (upd (Fn 102) (cn 10) v2)) 103 (upd (Fn 103) (cn 10) v3)) 104 (upd (Fn 104) (cn 10) 0)) 105 (upd (Fn 105) (cn 10) 0)) 106 (upd (Fn 106) (cn 10) 0)) 107 (upd (Fn 107) (cn 10) 0)) 108 (upd (Fn 108) (cn 10) 0)) 109 (upd (Fn 109) (cn 10) 0)) 195 (upd (Fn 195) (cn 6) 0)) 196 (upd (Fn 196) (cn 6) 0)) 197 (upd (Fn 197) (cn 6) 0)) 198 (upd (Fn 198) (cn 6) 0)) 199 (upd (Fn 199) (cn 6) 0)) 301 (flat (Fn 301) 200 (cn 6) (fun _ => 0))) 302 (flat (Fn 302) 12 (cn 6) (fun _ => 0))) 303 (flat (Fn 303) 12 (cn 6) (fun _ => 0))) 304 (flat (Fn 304) 12 (cn 6) (fun _ => 0))) 305 (flat (Fn 305) 32 (cn 6) (fun _ => 0)))) := hD
              generalize H1 = H at hP hS ⊢
              refine lv_pop hx hb dX11_kitchen_88 rfl ?_
              refine lv_aload_n hx hb dX11_kitchen_89 rfl (lvA1 hl) ?_
              refine gf_RX11_61 S hK hP 0 xo_0 (v := .ref (g 10)) rfl dX11_kitchen_90 ?_
              refine vp_callSi (runV_r (As := []) (rest := []) S (q_l_size l D cI cB cZ (g 10) (if ((cn 10) + 1) = 0 then zz else (adO (adO (adO (adO (adO (adO (adO (adO (adO ad 10 (cn 10) q73) 3 (cn 10) (cn 6)) 5 (cn 6) (u_12 5)) 60 (cn 6) (u_12 0)) 61 (cn 6) (u_12 1)) 62 (cn 6) (u_12 2)) 63 (cn 6) (u_12 3)) 64 (cn 6) (u_12 4)) 2 0 ua13) 2 0) ((In 10) + 1) (nI ((cn 10) + 1))) kV_RX11_84 hK hP [24] (one_is xo_24) 24 xo_24 rfl rfl ⟨Nat.le_of_ble_eq_true rfl, Nat.le_of_ble_eq_true rfl⟩ ⟨Nat.le_of_ble_eq_true rfl, Nat.le_of_ble_eq_true rfl⟩ rfl hl.1 rfl (Nat.le_of_ble_eq_true rfl) dX11_kitchen_93) (fun r_18 h_19 => ?_)
              subst h_19
              refine lv_iconst (v := 1) hx hb dX11_kitchen_96 kic_1 ?_
              refine lv_isub hx hb dX11_kitchen_97 ?_
              refine lv_topi (fun y_20 ey_20 => ?_)
              obtain rfl : y_20 = (nI (cn 10)) := ey_20.trans (nI_sub (b := 1) (by omega))
              exact W.iret (v := (nI (cn 10))) hx hb hr (fun t ht hW => ⟨⟨(nI (cn 10)), ((adO (adO (adO (adO (adO (adO (adO (adO (adO ad 10 (cn 10) q73) 3 (cn 10) (cn 6)) 5 (cn 6) (u_12 5)) 60 (cn 6) (u_12 0)) 61 (cn 6) (u_12 1)) 62 (cn 6) (u_12 2)) 63 (cn 6) (u_12 3)) 64 (cn 6) (u_12 4)) 2 0 ua13), (va_up (va_up (va_up cn 10 ((cn 10) + 1)) 20 uc13) 6 (cn 6 + 1)), (va_up In 10 ((In 10) + 1)), (va_up (va_up (va_up (va_up (va_up (va_up (va_up (va_up (va_up (va_up (va_up (va_up (va_up (va_up (va_up (va_up (va_up (va_up (va_up (va_up Fn 100 (upd (Fn 100) (cn 10) v0)) 101 (upd (Fn 101) (cn 10) v1)) 102 (upd (Fn 102) (cn 10) v2)) 103 (upd (Fn 103) (cn 10) v3)) 104 (upd (Fn 104) (cn 10) 0)) 105 (upd (Fn 105) (cn 10) 0)) 106 (upd (Fn 106) (cn 10) 0)) 107 (upd (Fn 107) (cn 10) 0)) 108 (upd (Fn 108) (cn 10) 0)) 109 (upd (Fn 109) (cn 10) 0)) 195 (upd (Fn 195) (cn 6) 0)) 196 (upd (Fn 196) (cn 6) 0)) 197 (upd (Fn 197) (cn 6) 0)) 198 (upd (Fn 198) (cn 6) 0)) 199 (upd (Fn 199) (cn 6) 0)) 301 (flat (Fn 301) 200 (cn 6) (fun _ => 0))) 302 (flat (Fn 302) 12 (cn 6) (fun _ => 0))) 303 (flat (Fn 303) 12 (cn 6) (fun _ => 0))) 304 (flat (Fn 304) 12 (cn 6) (fun _ => 0))) 305 (flat (Fn 305) 32 (cn 6) (fun _ => 0)))), rfl, (Or.inr ⟨rfl, by omega, q73, (u_12 5), (u_12 0), (u_12 1), (u_12 2), (u_12 3), (u_12 4), ua13, uc13, ((In 10) + 1), ⟨by omega, by omega⟩, rfl, rfl, rfl, rfl⟩), by rw [ht]; exact hP, hD⟩, hS.F ht⟩) hS.2.2 dX11_kitchen_98
          ·
            have tc_11 : (10 : Int) ≤ (nI (cn 10)).toInt := Int32.le_iff_toInt_le.mp (Int32.not_lt.mp c_11)
            refine lv_iconst (v := (-1)) hx hb dX11_kitchen_67 kic_m1 ?_
            refine W.widen (k := 8) (n := 188) (Nat.le_of_ble_eq_true rfl) (Nat.le_of_ble_eq_true rfl) ?_
            exact W.iret (v := (-1)) hx hb hr (fun t ht hW => ⟨⟨(-1), (ad, cn, In, Fn), rfl, (Or.inl ⟨rfl, by omega, rfl, rfl, rfl, rfl⟩), by rw [ht]; exact hP, hD⟩, hS.F ht⟩) hS.2.2 dX11_kitchen_68
        ·
          have h_8 : ¬ (20 ≤ v3.toInt ∧ v3.toInt ≤ 400) := h_8
          refine lv_if_eq (tgt := 67) hx hb dX11_kitchen_52 rfl (fun _ => ?_) (fun h => absurd h cq_eq_0_0)
          refine lv_iconst (v := (-1)) hx hb dX11_kitchen_67 kic_m1 ?_
          refine W.widen (k := 8) (n := 188) (Nat.le_of_ble_eq_true rfl) (Nat.le_of_ble_eq_true rfl) ?_
          exact W.iret (v := (-1)) hx hb hr (fun t ht hW => ⟨⟨(-1), (ad, cn, In, Fn), rfl, (Or.inl ⟨rfl, by omega, rfl, rfl, rfl, rfl⟩), by rw [ht]; exact hP, hD⟩, hS.F ht⟩) hS.2.2 dX11_kitchen_68
      ·
        have h_6 : ¬ (0 ≤ v2.toInt ∧ v2.toInt ≤ 50) := h_6
        refine lv_if_eq (tgt := 67) hx hb dX11_kitchen_39 rfl (fun _ => ?_) (fun h => absurd h cq_eq_0_0)
        refine lv_iconst (v := (-1)) hx hb dX11_kitchen_67 kic_m1 ?_
        refine W.widen (k := 8) (n := 188) (Nat.le_of_ble_eq_true rfl) (Nat.le_of_ble_eq_true rfl) ?_
        exact W.iret (v := (-1)) hx hb hr (fun t ht hW => ⟨⟨(-1), (ad, cn, In, Fn), rfl, (Or.inl ⟨rfl, by omega, rfl, rfl, rfl, rfl⟩), by rw [ht]; exact hP, hD⟩, hS.F ht⟩) hS.2.2 dX11_kitchen_68
    ·
      have h_4 : ¬ (0 ≤ v1.toInt ∧ v1.toInt ≤ 99) := h_4
      refine lv_if_eq (tgt := 24) hx hb dX11_kitchen_17 rfl (fun _ => ?_) (fun h => absurd h cq_eq_0_0)
      refine lv_iconst (v := 0) hx hb dX11_kitchen_24 kic_0 ?_
      refine lv_istore (lv' := [(5, .int 0), (0, .ref (g 0)), (1, .int v0), (2, .int v1), (3, .int v2), (4, .int v3)]) hx hb dX11_kitchen_25 hl (ltb rfl) rfl (fun ls hl => ?_)
      refine lv_iload hx hb dX11_kitchen_27 (lvA0 hl) ?_
      refine lv_if_eq (tgt := 67) hx hb dX11_kitchen_29 rfl (fun _ => ?_) (fun h => absurd h cq_eq_0_0)
      refine lv_iconst (v := (-1)) hx hb dX11_kitchen_67 kic_m1 ?_
      refine W.widen (k := 8) (n := 188) (Nat.le_of_ble_eq_true rfl) (Nat.le_of_ble_eq_true rfl) ?_
      exact W.iret (v := (-1)) hx hb hr (fun t ht hW => ⟨⟨(-1), (ad, cn, In, Fn), rfl, (Or.inl ⟨rfl, by omega, rfl, rfl, rfl, rfl⟩), by rw [ht]; exact hP, hD⟩, hS.F ht⟩) hS.2.2 dX11_kitchen_68
  ·
    have h_2 : ¬ (0 ≤ v0.toInt ∧ v0.toInt ≤ 99) := h_2
    refine lv_if_eq (tgt := 24) hx hb dX11_kitchen_7 rfl (fun _ => ?_) (fun h => absurd h cq_eq_0_0)
    refine lv_iconst (v := 0) hx hb dX11_kitchen_24 kic_0 ?_
    refine lv_istore (lv' := [(5, .int 0), (0, .ref (g 0)), (1, .int v0), (2, .int v1), (3, .int v2), (4, .int v3)]) hx hb dX11_kitchen_25 hl (ltb rfl) rfl (fun ls hl => ?_)
    refine lv_iload hx hb dX11_kitchen_27 (lvA0 hl) ?_
    refine lv_if_eq (tgt := 67) hx hb dX11_kitchen_29 rfl (fun _ => ?_) (fun h => absurd h cq_eq_0_0)
    refine lv_iconst (v := (-1)) hx hb dX11_kitchen_67 kic_m1 ?_
    refine W.widen (k := 8) (n := 188) (Nat.le_of_ble_eq_true rfl) (Nat.le_of_ble_eq_true rfl) ?_
    exact W.iret (v := (-1)) hx hb hr (fun t ht hW => ⟨⟨(-1), (ad, cn, In, Fn), rfl, (Or.inl ⟨rfl, by omega, rfl, rfl, rfl, rfl⟩), by rw [ht]; exact hP, hD⟩, hS.F ht⟩) hS.2.2 dX11_kitchen_68
set_option maxRecDepth 100000 in
set_option maxHeartbeats 4000000 in
theorem q_Xmoves (l : Launch) (D : va_G) (cI cB cZ : ClassId) (zz qq vv : Nat) (bt : Nat → Int32) (g : Nat → Nat) (ad : Nat → Nat → Nat) (cn : Nat → Nat) (In : Nat → Int32) (Fn : Nat → Nat → Int32) (v0 v1 v2 : Int32) (sz : Nat) (hB : CBX cn) : Met l yX11_moves (CWS yX11_moves cX11_moves 6 (some .boolean)) (RM 8 2 103) (PBx [.ref (g 0), .int v0, .int v1, .int v2] D cI cB cZ zz qq vv bt (wX cI (D.1 99) zz g ad cn In Fn) sz) (va_Qi (fun (r : Int32) (u : (Nat → Nat → Nat) × (Nat → Nat) × (Nat → Int32) × (Nat → Nat → Int32)) => (fun r a2 c2 I2 F2 => (r = 0 ∧ ad = a2 ∧ cn = c2 ∧ In = I2 ∧ Fn = F2) ∨ (r = 1 ∧ ∃ (q z c : Nat) (y : Int32), (0 ≤ v0.toInt ∧ v0.toInt < (cn 2 : Int) ∧ -1 ≤ v1.toInt ∧ v1.toInt < (cn 10 : Int) ∧ 0 ≤ v2.toInt ∧ v2.toInt ≤ (cn 0 : Int) ∧ cn 15 < 60) ∧ (cn 15 < c ∧ c ≤ 100) ∧ (adP ad 15 (cn 15) q 5 z) = a2 ∧ (va_up (va_up cn 15 ((cn 15) + 1)) 25 c) = c2 ∧ (va_up In 15 y) = I2 ∧ (va_up (va_up (va_up Fn 180 (upd (Fn 180) (cn 15) v0)) 181 (upd (Fn 181) (cn 15) v1)) 182 (upd (Fn 182) (cn 15) v2)) = F2)) r u.1 u.2.1 u.2.2.1 u.2.2.2) (fun (u : (Nat → Nat → Nat) × (Nat → Nat) × (Nat → Int32) × (Nat → Nat → Int32)) (t : State) => va_P D vwCl (wX cI (D.1 99) zz g u.1 u.2.1 u.2.2.1 u.2.2.2) t.heap ∧ va_D (va_A (wX cI (D.1 99) zz g ad cn In Fn) sz) (wX cI (D.1 99) zz g u.1 u.2.1 u.2.2.1 u.2.2.2)) (va_A (wX cI (D.1 99) zz g ad cn In Fn) sz)) 2 103 (va_A (wX cI (D.1 99) zz g ad cn In Fn) sz) := by
  refine en_x (fun A => (va_Qi (fun (r : Int32) (u : (Nat → Nat → Nat) × (Nat → Nat) × (Nat → Int32) × (Nat → Nat → Int32)) => (fun (r : Int32) (a2 : Nat → Nat → Nat) (c2 : Nat → Nat) (I2 : Nat → Int32) (F2 : Nat → Nat → Int32) => (r = 0 ∧ ad = a2 ∧ cn = c2 ∧ In = I2 ∧ Fn = F2) ∨ (r = 1 ∧ ∃ (q z c : Nat) (y : Int32), (0 ≤ v0.toInt ∧ v0.toInt < (cn 2 : Int) ∧ -1 ≤ v1.toInt ∧ v1.toInt < (cn 10 : Int) ∧ 0 ≤ v2.toInt ∧ v2.toInt ≤ (cn 0 : Int) ∧ cn 15 < 60) ∧ (cn 15 < c ∧ c ≤ 100) ∧ (adP ad 15 (cn 15) q 5 z) = a2 ∧ (va_up (va_up cn 15 ((cn 15) + 1)) 25 c) = c2 ∧ (va_up In 15 y) = I2 ∧ (va_up (va_up (va_up Fn 180 (upd (Fn 180) (cn 15) v0)) 181 (upd (Fn 181) (cn 15) v1)) 182 (upd (Fn 182) (cn 15) v2)) = F2)) r u.1 u.2.1 u.2.2.1 u.2.2.2) (fun (u : (Nat → Nat → Nat) × (Nat → Nat) × (Nat → Int32) × (Nat → Nat → Int32)) (t : State) => va_P D vwCl (wX cI (D.1 99) zz g u.1 u.2.1 u.2.2.1 u.2.2.2) t.heap ∧ va_D A (wX cI (D.1 99) zz g u.1 u.2.1 u.2.2.1 u.2.2.2)) A)) rfl rfl pn_RX11 (Nat.le_of_ble_eq_true rfl) (fun p e s m below meth c A hx hb hml hown S hr hlocks hnm hA hP hK hD hXS hS ls hl => ?_)
  have hl : lv_has ls 6 [(0, .ref (g 0)), (1, .int v0), (2, .int v1), (3, .int v2)] := hl
  refine lv_iload_n hx hb dX11_moves_0 rfl (lvA1 hl) ?_
  refine lv_iconst (v := 0) hx hb dX11_moves_1 kic_0 ?_
  refine lv_aload_n hx hb dX11_moves_2 rfl (lvA0 hl) ?_
  refine gf_RX11_502 S hK hP 0 xo_0 (v := .int (nI (cn 2))) rfl dX11_moves_3 ?_
  refine lv_iconst (v := 1) hx hb dX11_moves_6 kic_1 ?_
  refine lv_isub hx hb dX11_moves_7 ?_
  have tm1 := nI_mt (c := cn 2) (by omega)
  refine vp_callSi (runS_r (As := [.int v0, .int 0, .int ((nI (cn 2)) - 1)]) (rest := []) S (q_l_within l D cI cB cZ v0 0 ((nI (cn 2)) - 1)) kS_RX11_80 hK hP [] rfl ⟨Nat.le_of_ble_eq_true rfl, Nat.le_of_ble_eq_true rfl⟩ ⟨Nat.le_of_ble_eq_true rfl, Nat.le_of_ble_eq_true rfl⟩ rfl hl.1 rfl (Nat.le_of_ble_eq_true rfl) dX11_moves_8) (fun r_1 h_2 => ?_)
  rcases h_2 with ⟨rfl, h_2⟩ | ⟨rfl, h_2⟩
  ·
    have h_2 : 0 ≤ v0.toInt ∧ v0.toInt ≤ ((nI (cn 2)) - 1).toInt := h_2
    refine lv_if_eq (tgt := 31) hx hb dX11_moves_11 rfl (fun h => absurd h cq_eq_1_0) (fun _ => ?_)
    refine lv_iload_n hx hb dX11_moves_14 rfl (lvA2 hl) ?_
    refine lv_iconst (v := (-1)) hx hb dX11_moves_15 kic_m1 ?_
    refine lv_icmp_eq (tgt := 27) hx hb dX11_moves_16 rfl (fun c_3 => ?_) (fun c_3 => ?_)
    ·
      have tc_3 : (v1.toInt : Int) = (-1) := congrArg Int32.toInt c_3
      refine lv_iconst (v := 1) hx hb dX11_moves_27 kic_1 ?_
      refine lv_goto (tgt := 32) hx hb dX11_moves_28 rfl ?_
      refine lv_istore (lv' := [(4, .int 1), (0, .ref (g 0)), (1, .int v0), (2, .int v1), (3, .int v2)]) hx hb dX11_moves_32 hl (ltb rfl) rfl (fun ls hl => ?_)
      refine lv_iload hx hb dX11_moves_34 (lvA0 hl) ?_
      refine lv_if_eq (tgt := 63) hx hb dX11_moves_36 rfl (fun h => absurd h cq_eq_1_0) (fun _ => ?_)
      refine lv_iload_n hx hb dX11_moves_39 rfl (lvA4 hl) ?_
      refine lv_iconst (v := 0) hx hb dX11_moves_40 kic_0 ?_
      refine lv_aload_n hx hb dX11_moves_41 rfl (lvA1 hl) ?_
      refine gf_RX11_103 S hK hP 0 xo_0 (v := .int (nI (cn 0))) rfl dX11_moves_42 ?_
      refine vp_callSi (runS_r (As := [.int v2, .int 0, .int (nI (cn 0))]) (rest := []) S (q_l_within l D cI cB cZ v2 0 (nI (cn 0))) kS_RX11_80 hK hP [] rfl ⟨Nat.le_of_ble_eq_true rfl, Nat.le_of_ble_eq_true rfl⟩ ⟨Nat.le_of_ble_eq_true rfl, Nat.le_of_ble_eq_true rfl⟩ rfl hl.1 rfl (Nat.le_of_ble_eq_true rfl) dX11_moves_45) (fun r_4 h_5 => ?_)
      have : (nI (cn 0)).toInt = (((cn 0) : Nat) : Int) := nI_toInt (by omega)
      rcases h_5 with ⟨rfl, h_5⟩ | ⟨rfl, h_5⟩
      ·
        have h_5 : 0 ≤ v2.toInt ∧ v2.toInt ≤ (nI (cn 0)).toInt := h_5
        refine lv_if_eq (tgt := 63) hx hb dX11_moves_48 rfl (fun h => absurd h cq_eq_1_0) (fun _ => ?_)
        refine lv_aload_n hx hb dX11_moves_51 rfl (lvA1 hl) ?_
        refine gf_RX11_77 S hK hP 0 xo_0 (v := .ref (g 15)) rfl dX11_moves_52 ?_
        refine vp_callSi (runV_r (As := []) (rest := []) S (q_l_size l D cI cB cZ (g 15) (if (cn 15) = 0 then zz else ad 2 5) (In 15) (nI (cn 15))) kV_RX11_84 hK hP [29] (one_is xo_29) 29 xo_29 rfl rfl ⟨Nat.le_of_ble_eq_true rfl, Nat.le_of_ble_eq_true rfl⟩ ⟨Nat.le_of_ble_eq_true rfl, Nat.le_of_ble_eq_true rfl⟩ rfl hl.1 rfl (Nat.le_of_ble_eq_true rfl) dX11_moves_55) (fun r_6 h_7 => ?_)
        subst h_7
        refine lv_bipush (v := 60) hx hb dX11_moves_58 kbc_60 ?_
        have : (nI (cn 15)).toInt = (((cn 15) : Nat) : Int) := nI_toInt (by omega)
        refine lv_icmp_lt (tgt := 65) hx hb dX11_moves_60 rfl (fun c_8 => ?_) (fun c_8 => ?_)
        ·
          have tc_8 : ((nI (cn 15)).toInt : Int) < 60 := Int32.lt_iff_toInt_lt.mp c_8
          refine lv_aload_n hx hb dX11_moves_65 rfl (lvA1 hl) ?_
          refine lv_iload_n hx hb dX11_moves_66 rfl (lvA2 hl) ?_
          refine lv_sipush (v := 399) hx hb dX11_moves_67 (by decide) ?_
          refine va_csq (runV_rxa (As := [.int v0, .int 399]) (rest := []) S (q_XmoveBy l D cI cB cZ zz qq vv bt g ad cn In Fn v0 399 hB) kV_RX11_509 hK hXS hS hP 0 xo_0 rfl rfl ⟨Nat.le_of_ble_eq_true rfl, Nat.le_of_ble_eq_true rfl⟩ ⟨Nat.le_of_ble_eq_true rfl, Nat.le_of_ble_eq_true rfl⟩ rfl hl.1 rfl (Nat.le_of_ble_eq_true rfl) dX11_moves_70) (fun r_9 h_10 => ?_)
          rcases h_10 with ⟨mr_9, er_9, hr_9, rfl⟩ | ⟨hr_9, rfl⟩
          ·
            refine lv_astore (lv' := [(5, .ref (ad 15 mr_9)), (4, .int 1), (0, .ref (g 0)), (1, .int v0), (2, .int v1), (3, .int v2)]) hx hb dX11_moves_73 hl (ltb rfl) rfl (fun ls hl => ?_)
            refine lv_aload hx hb dX11_moves_75 (lvA0 hl) ?_
            refine lv_ifnull hx hb dX11_moves_77 ?_
            refine lv_iload_n hx hb dX11_moves_80 rfl (lvA5 hl) ?_
            refine lv_aload hx hb dX11_moves_81 (lvA0 hl) ?_
            refine gf_RX11_508 S hK hP _ (xf_5 (by omega)) (v := .int ((Fn 182) mr_9)) rfl dX11_moves_83 ?_
            refine lv_icmp_ge (tgt := 91) hx hb dX11_moves_86 rfl (fun c_11 => ?_) (fun c_11 => ?_)
            ·
              have tc_11 : (((Fn 182) mr_9).toInt : Int) ≤ v2.toInt := Int32.le_iff_toInt_le.mp c_11
              refine lv_aload_n hx hb dX11_moves_91 rfl (lvA2 hl) ?_
              refine gf_RX11_77 S hK hP 0 xo_0 (v := .ref (g 15)) rfl dX11_moves_92 ?_
              refine va_new (ci := 4) (fs := [.int 0, .int 0, .int 0]) (C := RX3) (T := TX3) (N := 3) hx hb S.2.2.2.2 hin_RX3 tyX3 tyX3_ok hown (S.2.2.2.2 _ (wk6_3 3 rfl rfl)) (S.2.2.2.2 _ (wk6_3 4 rfl rfl)) (S.2.2.2.2 _ (wk1_2 2 rfl rfl)) hK.1 hP hD hS hA rfl (by decide +kernel) (Nat.le_of_ble_eq_true rfl) (Nat.le_of_ble_eq_true rfl) dX11_moves_95 (fun q95 H hP hD hS => ?_)
              have hP : va_P D vwCl ((wX cI (D.1 99) zz g ad cn In Fn) ++ ([(q95, .inr (4, [.int 0, .int 0, .int 0]))] : va_W)) H := hP
              have hD : va_D A ((wX cI (D.1 99) zz g ad cn In Fn) ++ ([(q95, .inr (4, [.int 0, .int 0, .int 0]))] : va_W)) := hD
              refine lv_dup hx hb dX11_moves_98 rfl ?_
              refine lv_iload_n hx hb dX11_moves_99 rfl (lvA3 hl) ?_
              refine lv_iload_n hx hb dX11_moves_100 rfl (lvA4 hl) ?_
              refine lv_iload_n hx hb dX11_moves_101 rfl (lvA5 hl) ?_
              have hFc := va_free (wc := [(q95, .inr (4, [.int 0, .int 0, .int 0]))]) hD hS hA [_] (one_im (exr (m := 0) rfl))
              refine va_callv (runI_w (As := [.int v0, .int v1, .int v2]) (rest := [.ref q95, .ref (g 15)]) S (q_l_Move l D cI cB cZ q95 v0 v1 v2 H.size) kI_RX11_513 hK hP hD [_] (one_is (exr (m := 0) rfl)) (one_im (exr (m := 0) rfl)) rfl ⟨Nat.le_of_ble_eq_true rfl, Nat.le_of_ble_eq_true rfl⟩ ⟨Nat.le_of_ble_eq_true rfl, Nat.le_of_ble_eq_true rfl⟩ rfl hl.1 rfl (Nat.le_of_ble_eq_true rfl) dX11_moves_102) hS (fun q _ h => hFc q h) hFc (fun u_12 t H1 locs ht hvm h_13 hB1 hz1 hk1 hS => ?_)
              obtain ⟨hP1, hD1⟩ := hB1
              rw [ht] at hP1
              obtain ⟨hP, hD⟩ := exjoin hP hD hk1 hFc hP1 hD1
              generalize H1 = H at hP hS ⊢
              have hP : va_P D vwCl ((wX cI (D.1 99) zz g ad cn In Fn) ++ ([(q95, .inr (4, [.int v0, .int v1, .int v2]))] : va_W)) H := hP
              have hD : va_D A ((wX cI (D.1 99) zz g ad cn In Fn) ++ ([(q95, .inr (4, [.int v0, .int v1, .int v2]))] : va_W)) := hD
              rcases Nat.eq_zero_or_pos (cn 15) with hz0 | hz0
              ·
                have hi9 : (wX cI (D.1 99) zz g ad cn In Fn)[29]? = _ := xlz_5 hz0
                have hp2P := pick2P hP (exl hi9) (exr (m := 0) rfl)
                have hp2D := pick2D hD (exl hi9) (exr (m := 0) rfl) (ne_ex hi9)
                have hFc := free_all hp2D hS hA
                refine va_calli (runV_xa (As := [.ref q95]) (rest := []) S (q_l_addZM l D cI cB cZ zz qq vv bt (g 15) q95 (In 15) v0 v1 v2 H.size) kV_RX11_110 hK hXS hS hFc hp2P hp2D 0 rfl rfl rfl ⟨Nat.le_of_ble_eq_true rfl, Nat.le_of_ble_eq_true rfl⟩ ⟨Nat.le_of_ble_eq_true rfl, Nat.le_of_ble_eq_true rfl⟩ rfl hl.1 rfl (Nat.le_of_ble_eq_true rfl) dX11_moves_105) hS (fun q _ h => hFc q h) hFc (fun r13 u13 t H1 locs ht hvm h13 hB1 hz1 hk1 hS => ?_)
                obtain ⟨hP1, hD1⟩ := hB1
                rw [ht] at hP1
                obtain rfl : r13 = 1 := h13
                obtain ⟨hP, hD⟩ := add0_join hP hD hi9 rfl hk1 hFc hP1 hD1 rfl (xu_5 (z := u13) (c := 10) (y := (In 15) + 1) (q := q95) (x0 := v0) (x1 := v1) (x2 := v2) hz0)
                have hP : va_P D vwCl (wX cI (D.1 99) zz g (adP ad 15 (cn 15) q95 5 u13) (va_up (va_up cn 15 ((cn 15) + 1)) 25 10) (va_up In 15 ((In 15) + 1)) (va_up (va_up (va_up Fn 180 (upd (Fn 180) (cn 15) v0)) 181 (upd (Fn 181) (cn 15) v1)) 182 (upd (Fn 182) (cn 15) v2))) H1 := hP
                have hD : va_D A (wX cI (D.1 99) zz g (adP ad 15 (cn 15) q95 5 u13) (va_up (va_up cn 15 ((cn 15) + 1)) 25 10) (va_up In 15 ((In 15) + 1)) (va_up (va_up (va_up Fn 180 (upd (Fn 180) (cn 15) v0)) 181 (upd (Fn 181) (cn 15) v1)) 182 (upd (Fn 182) (cn 15) v2))) := hD
                generalize H1 = H at hP hS ⊢
                refine W.widen (k := 2) (n := 103) (Nat.le_of_ble_eq_true rfl) (Nat.le_of_ble_eq_true rfl) ?_
                refine lv_pop hx hb dX11_moves_108 rfl ?_
                refine lv_iconst (v := 1) hx hb dX11_moves_109 kic_1 ?_
                exact W.zret (v := 1) hx hb hr rfl (fun t ht hW => ⟨⟨1, ((adP ad 15 (cn 15) q95 5 u13), (va_up (va_up cn 15 ((cn 15) + 1)) 25 10), (va_up In 15 ((In 15) + 1)), (va_up (va_up (va_up Fn 180 (upd (Fn 180) (cn 15) v0)) 181 (upd (Fn 181) (cn 15) v1)) 182 (upd (Fn 182) (cn 15) v2))), rfl, (Or.inr ⟨rfl, q95, u13, 10, ((In 15) + 1), by omega, ⟨by omega, by omega⟩, rfl, rfl, rfl, rfl⟩), by rw [ht]; exact hP, hD⟩, hS.F ht⟩) hS.2.2 dX11_moves_110
              ·
                have hi9 : (wX cI (D.1 99) zz g ad cn In Fn)[29]? = _ := xl_5 hz0
                have hj9 : (wX cI (D.1 99) zz g ad cn In Fn)[_]? = _ := xf_18 (k := 0) (show 0 < min 1 (cn 15) by omega)
                obtain ⟨ws9, hp1, hp2⟩ := pickG (W := ((wX cI (D.1 99) zz g ad cn In Fn) ++ ([(q95, .inr (4, [.int v0, .int v1, .int v2]))] : va_W))) (exl hi9) (exl hj9) (exr (m := 0) rfl) (xij (by decide)) (ne_ex hi9) (ne_ex hj9)
                have hP9 := va_P_perm hp1 hP
                have hD9 := va_D_perm hp1 hD
                have hFc := free_all hD9 hS hA
                refine va_calli (runV_xa (As := [.ref q95]) (rest := []) S (q_l_addGM l D cI cB cZ zz qq vv bt (cn 25) (g 15) (ad 2 5) (cn 15) q95 (In 15) (ad 15) v0 v1 v2 ws9 H.size (by omega) (by omega) hz0 (by omega) (fun i hi => ⟨_, g_mem (hp1.mem_iff.mp (List.mem_of_getElem? (exl (xf_5 (k := i) hi)))) (by decide)⟩)) kV_RX11_110 hK hXS hS hFc hP9 hD9 0 rfl rfl rfl ⟨Nat.le_of_ble_eq_true rfl, Nat.le_of_ble_eq_true rfl⟩ ⟨Nat.le_of_ble_eq_true rfl, Nat.le_of_ble_eq_true rfl⟩ rfl hl.1 rfl (Nat.le_of_ble_eq_true rfl) dX11_moves_105) hS (fun q _ h => hFc q h) hFc (fun r13 u13 t H1 locs ht hvm h13 hB1 hz1 hk1 hS => ?_)
                obtain ⟨hP1, hD1⟩ := hB1
                rw [ht] at hP1
                obtain ⟨hr13, h13⟩ := h13
                obtain rfl : r13 = 1 := hr13
                obtain ⟨ua13, uc13⟩ := u13
                have hu13 : cn 15 < uc13 ∧ uc13 ≤ 100 := h13
                obtain ⟨hP, hD⟩ := addG_join hp2 hi9 hj9 hP1 hD1 hFc (xadd_5 (z := ua13) (c := uc13) (y := (In 15) + 1) (q := q95) (x0 := v0) (x1 := v1) (x2 := v2) hz0)
                have hP : va_P D vwCl (wX cI (D.1 99) zz g (adP ad 15 (cn 15) q95 5 ua13) (va_up (va_up cn 15 ((cn 15) + 1)) 25 uc13) (va_up In 15 ((In 15) + 1)) (va_up (va_up (va_up Fn 180 (upd (Fn 180) (cn 15) v0)) 181 (upd (Fn 181) (cn 15) v1)) 182 (upd (Fn 182) (cn 15) v2))) H1 := hP
                have hD : va_D A (wX cI (D.1 99) zz g (adP ad 15 (cn 15) q95 5 ua13) (va_up (va_up cn 15 ((cn 15) + 1)) 25 uc13) (va_up In 15 ((In 15) + 1)) (va_up (va_up (va_up Fn 180 (upd (Fn 180) (cn 15) v0)) 181 (upd (Fn 181) (cn 15) v1)) 182 (upd (Fn 182) (cn 15) v2))) := hD
                generalize H1 = H at hP hS ⊢
                refine lv_pop hx hb dX11_moves_108 rfl ?_
                refine lv_iconst (v := 1) hx hb dX11_moves_109 kic_1 ?_
                exact W.zret (v := 1) hx hb hr rfl (fun t ht hW => ⟨⟨1, ((adP ad 15 (cn 15) q95 5 ua13), (va_up (va_up cn 15 ((cn 15) + 1)) 25 uc13), (va_up In 15 ((In 15) + 1)), (va_up (va_up (va_up Fn 180 (upd (Fn 180) (cn 15) v0)) 181 (upd (Fn 181) (cn 15) v1)) 182 (upd (Fn 182) (cn 15) v2))), rfl, (Or.inr ⟨rfl, q95, ua13, uc13, ((In 15) + 1), by omega, ⟨by omega, by omega⟩, rfl, rfl, rfl, rfl⟩), by rw [ht]; exact hP, hD⟩, hS.F ht⟩) hS.2.2 dX11_moves_110
            ·
              have tc_11 : (v2.toInt : Int) < ((Fn 182) mr_9).toInt := Int32.lt_iff_toInt_lt.mp (Int32.not_le.mp c_11)
              refine lv_iconst (v := 0) hx hb dX11_moves_89 kic_0 ?_
              refine W.widen (k := 2) (n := 103) (Nat.le_of_ble_eq_true rfl) (Nat.le_of_ble_eq_true rfl) ?_
              exact W.zret (v := 0) hx hb hr rfl (fun t ht hW => ⟨⟨0, (ad, cn, In, Fn), rfl, (Or.inl ⟨rfl, rfl, rfl, rfl, rfl⟩), by rw [ht]; exact hP, hD⟩, hS.F ht⟩) hS.2.2 dX11_moves_90
          ·
            refine lv_astoreN (lv' := [(5, .null), (4, .int 1), (0, .ref (g 0)), (1, .int v0), (2, .int v1), (3, .int v2)]) hx hb dX11_moves_73 hl (ltb rfl) rfl (fun ls hl => ?_)
            refine lv_aloadN hx hb dX11_moves_75 (lvA0 hl) ?_
            refine lv_ifnullN (tgt := 91) hx hb dX11_moves_77 rfl ?_
            refine lv_aload_n hx hb dX11_moves_91 rfl (lvA2 hl) ?_
            refine gf_RX11_77 S hK hP 0 xo_0 (v := .ref (g 15)) rfl dX11_moves_92 ?_
            refine va_new (ci := 4) (fs := [.int 0, .int 0, .int 0]) (C := RX3) (T := TX3) (N := 3) hx hb S.2.2.2.2 hin_RX3 tyX3 tyX3_ok hown (S.2.2.2.2 _ (wk6_3 3 rfl rfl)) (S.2.2.2.2 _ (wk6_3 4 rfl rfl)) (S.2.2.2.2 _ (wk1_2 2 rfl rfl)) hK.1 hP hD hS hA rfl (by decide +kernel) (Nat.le_of_ble_eq_true rfl) (Nat.le_of_ble_eq_true rfl) dX11_moves_95 (fun q95 H hP hD hS => ?_)
            have hP : va_P D vwCl ((wX cI (D.1 99) zz g ad cn In Fn) ++ ([(q95, .inr (4, [.int 0, .int 0, .int 0]))] : va_W)) H := hP
            have hD : va_D A ((wX cI (D.1 99) zz g ad cn In Fn) ++ ([(q95, .inr (4, [.int 0, .int 0, .int 0]))] : va_W)) := hD
            refine lv_dup hx hb dX11_moves_98 rfl ?_
            refine lv_iload_n hx hb dX11_moves_99 rfl (lvA3 hl) ?_
            refine lv_iload_n hx hb dX11_moves_100 rfl (lvA4 hl) ?_
            refine lv_iload_n hx hb dX11_moves_101 rfl (lvA5 hl) ?_
            have hFc := va_free (wc := [(q95, .inr (4, [.int 0, .int 0, .int 0]))]) hD hS hA [_] (one_im (exr (m := 0) rfl))
            refine va_callv (runI_w (As := [.int v0, .int v1, .int v2]) (rest := [.ref q95, .ref (g 15)]) S (q_l_Move l D cI cB cZ q95 v0 v1 v2 H.size) kI_RX11_513 hK hP hD [_] (one_is (exr (m := 0) rfl)) (one_im (exr (m := 0) rfl)) rfl ⟨Nat.le_of_ble_eq_true rfl, Nat.le_of_ble_eq_true rfl⟩ ⟨Nat.le_of_ble_eq_true rfl, Nat.le_of_ble_eq_true rfl⟩ rfl hl.1 rfl (Nat.le_of_ble_eq_true rfl) dX11_moves_102) hS (fun q _ h => hFc q h) hFc (fun u_15 t H1 locs ht hvm h_16 hB1 hz1 hk1 hS => ?_)
            obtain ⟨hP1, hD1⟩ := hB1
            rw [ht] at hP1
            obtain ⟨hP, hD⟩ := exjoin hP hD hk1 hFc hP1 hD1
            generalize H1 = H at hP hS ⊢
            have hP : va_P D vwCl ((wX cI (D.1 99) zz g ad cn In Fn) ++ ([(q95, .inr (4, [.int v0, .int v1, .int v2]))] : va_W)) H := hP
            have hD : va_D A ((wX cI (D.1 99) zz g ad cn In Fn) ++ ([(q95, .inr (4, [.int v0, .int v1, .int v2]))] : va_W)) := hD
            rcases Nat.eq_zero_or_pos (cn 15) with hz0 | hz0
            ·
              have hi9 : (wX cI (D.1 99) zz g ad cn In Fn)[29]? = _ := xlz_5 hz0
              have hp2P := pick2P hP (exl hi9) (exr (m := 0) rfl)
              have hp2D := pick2D hD (exl hi9) (exr (m := 0) rfl) (ne_ex hi9)
              have hFc := free_all hp2D hS hA
              refine va_calli (runV_xa (As := [.ref q95]) (rest := []) S (q_l_addZM l D cI cB cZ zz qq vv bt (g 15) q95 (In 15) v0 v1 v2 H.size) kV_RX11_110 hK hXS hS hFc hp2P hp2D 0 rfl rfl rfl ⟨Nat.le_of_ble_eq_true rfl, Nat.le_of_ble_eq_true rfl⟩ ⟨Nat.le_of_ble_eq_true rfl, Nat.le_of_ble_eq_true rfl⟩ rfl hl.1 rfl (Nat.le_of_ble_eq_true rfl) dX11_moves_105) hS (fun q _ h => hFc q h) hFc (fun r16 u16 t H1 locs ht hvm h16 hB1 hz1 hk1 hS => ?_)
              obtain ⟨hP1, hD1⟩ := hB1
              rw [ht] at hP1
              obtain rfl : r16 = 1 := h16
              obtain ⟨hP, hD⟩ := add0_join hP hD hi9 rfl hk1 hFc hP1 hD1 rfl (xu_5 (z := u16) (c := 10) (y := (In 15) + 1) (q := q95) (x0 := v0) (x1 := v1) (x2 := v2) hz0)
              have hP : va_P D vwCl (wX cI (D.1 99) zz g (adP ad 15 (cn 15) q95 5 u16) (va_up (va_up cn 15 ((cn 15) + 1)) 25 10) (va_up In 15 ((In 15) + 1)) (va_up (va_up (va_up Fn 180 (upd (Fn 180) (cn 15) v0)) 181 (upd (Fn 181) (cn 15) v1)) 182 (upd (Fn 182) (cn 15) v2))) H1 := hP
              have hD : va_D A (wX cI (D.1 99) zz g (adP ad 15 (cn 15) q95 5 u16) (va_up (va_up cn 15 ((cn 15) + 1)) 25 10) (va_up In 15 ((In 15) + 1)) (va_up (va_up (va_up Fn 180 (upd (Fn 180) (cn 15) v0)) 181 (upd (Fn 181) (cn 15) v1)) 182 (upd (Fn 182) (cn 15) v2))) := hD
              generalize H1 = H at hP hS ⊢
              refine W.widen (k := 2) (n := 103) (Nat.le_of_ble_eq_true rfl) (Nat.le_of_ble_eq_true rfl) ?_
              refine lv_pop hx hb dX11_moves_108 rfl ?_
              refine lv_iconst (v := 1) hx hb dX11_moves_109 kic_1 ?_
              exact W.zret (v := 1) hx hb hr rfl (fun t ht hW => ⟨⟨1, ((adP ad 15 (cn 15) q95 5 u16), (va_up (va_up cn 15 ((cn 15) + 1)) 25 10), (va_up In 15 ((In 15) + 1)), (va_up (va_up (va_up Fn 180 (upd (Fn 180) (cn 15) v0)) 181 (upd (Fn 181) (cn 15) v1)) 182 (upd (Fn 182) (cn 15) v2))), rfl, (Or.inr ⟨rfl, q95, u16, 10, ((In 15) + 1), by omega, ⟨by omega, by omega⟩, rfl, rfl, rfl, rfl⟩), by rw [ht]; exact hP, hD⟩, hS.F ht⟩) hS.2.2 dX11_moves_110
            ·
              have hi9 : (wX cI (D.1 99) zz g ad cn In Fn)[29]? = _ := xl_5 hz0
              have hj9 : (wX cI (D.1 99) zz g ad cn In Fn)[_]? = _ := xf_18 (k := 0) (show 0 < min 1 (cn 15) by omega)
              obtain ⟨ws9, hp1, hp2⟩ := pickG (W := ((wX cI (D.1 99) zz g ad cn In Fn) ++ ([(q95, .inr (4, [.int v0, .int v1, .int v2]))] : va_W))) (exl hi9) (exl hj9) (exr (m := 0) rfl) (xij (by decide)) (ne_ex hi9) (ne_ex hj9)
              have hP9 := va_P_perm hp1 hP
              have hD9 := va_D_perm hp1 hD
              have hFc := free_all hD9 hS hA
              refine va_calli (runV_xa (As := [.ref q95]) (rest := []) S (q_l_addGM l D cI cB cZ zz qq vv bt (cn 25) (g 15) (ad 2 5) (cn 15) q95 (In 15) (ad 15) v0 v1 v2 ws9 H.size (by omega) (by omega) hz0 (by omega) (fun i hi => ⟨_, g_mem (hp1.mem_iff.mp (List.mem_of_getElem? (exl (xf_5 (k := i) hi)))) (by decide)⟩)) kV_RX11_110 hK hXS hS hFc hP9 hD9 0 rfl rfl rfl ⟨Nat.le_of_ble_eq_true rfl, Nat.le_of_ble_eq_true rfl⟩ ⟨Nat.le_of_ble_eq_true rfl, Nat.le_of_ble_eq_true rfl⟩ rfl hl.1 rfl (Nat.le_of_ble_eq_true rfl) dX11_moves_105) hS (fun q _ h => hFc q h) hFc (fun r16 u16 t H1 locs ht hvm h16 hB1 hz1 hk1 hS => ?_)
              obtain ⟨hP1, hD1⟩ := hB1
              rw [ht] at hP1
              obtain ⟨hr16, h16⟩ := h16
              obtain rfl : r16 = 1 := hr16
              obtain ⟨ua16, uc16⟩ := u16
              have hu16 : cn 15 < uc16 ∧ uc16 ≤ 100 := h16
              obtain ⟨hP, hD⟩ := addG_join hp2 hi9 hj9 hP1 hD1 hFc (xadd_5 (z := ua16) (c := uc16) (y := (In 15) + 1) (q := q95) (x0 := v0) (x1 := v1) (x2 := v2) hz0)
              have hP : va_P D vwCl (wX cI (D.1 99) zz g (adP ad 15 (cn 15) q95 5 ua16) (va_up (va_up cn 15 ((cn 15) + 1)) 25 uc16) (va_up In 15 ((In 15) + 1)) (va_up (va_up (va_up Fn 180 (upd (Fn 180) (cn 15) v0)) 181 (upd (Fn 181) (cn 15) v1)) 182 (upd (Fn 182) (cn 15) v2))) H1 := hP
              have hD : va_D A (wX cI (D.1 99) zz g (adP ad 15 (cn 15) q95 5 ua16) (va_up (va_up cn 15 ((cn 15) + 1)) 25 uc16) (va_up In 15 ((In 15) + 1)) (va_up (va_up (va_up Fn 180 (upd (Fn 180) (cn 15) v0)) 181 (upd (Fn 181) (cn 15) v1)) 182 (upd (Fn 182) (cn 15) v2))) := hD
              generalize H1 = H at hP hS ⊢
              refine lv_pop hx hb dX11_moves_108 rfl ?_
              refine lv_iconst (v := 1) hx hb dX11_moves_109 kic_1 ?_
              exact W.zret (v := 1) hx hb hr rfl (fun t ht hW => ⟨⟨1, ((adP ad 15 (cn 15) q95 5 ua16), (va_up (va_up cn 15 ((cn 15) + 1)) 25 uc16), (va_up In 15 ((In 15) + 1)), (va_up (va_up (va_up Fn 180 (upd (Fn 180) (cn 15) v0)) 181 (upd (Fn 181) (cn 15) v1)) 182 (upd (Fn 182) (cn 15) v2))), rfl, (Or.inr ⟨rfl, q95, ua16, uc16, ((In 15) + 1), by omega, ⟨by omega, by omega⟩, rfl, rfl, rfl, rfl⟩), by rw [ht]; exact hP, hD⟩, hS.F ht⟩) hS.2.2 dX11_moves_110
        ·
          have tc_8 : (60 : Int) ≤ (nI (cn 15)).toInt := Int32.le_iff_toInt_le.mp (Int32.not_lt.mp c_8)
          refine lv_iconst (v := 0) hx hb dX11_moves_63 kic_0 ?_
          refine W.widen (k := 2) (n := 103) (Nat.le_of_ble_eq_true rfl) (Nat.le_of_ble_eq_true rfl) ?_
          exact W.zret (v := 0) hx hb hr rfl (fun t ht hW => ⟨⟨0, (ad, cn, In, Fn), rfl, (Or.inl ⟨rfl, rfl, rfl, rfl, rfl⟩), by rw [ht]; exact hP, hD⟩, hS.F ht⟩) hS.2.2 dX11_moves_64
      ·
        have h_5 : ¬ (0 ≤ v2.toInt ∧ v2.toInt ≤ (nI (cn 0)).toInt) := h_5
        refine lv_if_eq (tgt := 63) hx hb dX11_moves_48 rfl (fun _ => ?_) (fun h => absurd h cq_eq_0_0)
        refine lv_iconst (v := 0) hx hb dX11_moves_63 kic_0 ?_
        refine W.widen (k := 2) (n := 103) (Nat.le_of_ble_eq_true rfl) (Nat.le_of_ble_eq_true rfl) ?_
        exact W.zret (v := 0) hx hb hr rfl (fun t ht hW => ⟨⟨0, (ad, cn, In, Fn), rfl, (Or.inl ⟨rfl, rfl, rfl, rfl, rfl⟩), by rw [ht]; exact hP, hD⟩, hS.F ht⟩) hS.2.2 dX11_moves_64
    ·
      have tc_3 : (v1.toInt : Int) ≠ (-1) := fun q => c_3 (Int32.toInt_inj.mp q)
      refine lv_aload_n hx hb dX11_moves_19 rfl (lvA0 hl) ?_
      refine lv_iload_n hx hb dX11_moves_20 rfl (lvA2 hl) ?_
      refine va_csq (runV_rxa (As := [.int v1]) (rest := []) S (q_XkitchenAt l D cI cB cZ zz qq vv bt g ad cn In Fn v1 hB) kV_RX11_114 hK hXS hS hP 0 xo_0 rfl rfl ⟨Nat.le_of_ble_eq_true rfl, Nat.le_of_ble_eq_true rfl⟩ ⟨Nat.le_of_ble_eq_true rfl, Nat.le_of_ble_eq_true rfl⟩ rfl hl.1 rfl (Nat.le_of_ble_eq_true rfl) dX11_moves_21) (fun r_18 h_19 => ?_)
      rcases h_19 with ⟨mr_18, er_18, hr_18, rfl⟩ | ⟨hr_18, rfl⟩
      ·
        refine lv_ifnull hx hb dX11_moves_24 ?_
        refine lv_iconst (v := 1) hx hb dX11_moves_27 kic_1 ?_
        refine lv_goto (tgt := 32) hx hb dX11_moves_28 rfl ?_
        refine lv_istore (lv' := [(4, .int 1), (0, .ref (g 0)), (1, .int v0), (2, .int v1), (3, .int v2)]) hx hb dX11_moves_32 hl (ltb rfl) rfl (fun ls hl => ?_)
        refine lv_iload hx hb dX11_moves_34 (lvA0 hl) ?_
        refine lv_if_eq (tgt := 63) hx hb dX11_moves_36 rfl (fun h => absurd h cq_eq_1_0) (fun _ => ?_)
        refine lv_iload_n hx hb dX11_moves_39 rfl (lvA4 hl) ?_
        refine lv_iconst (v := 0) hx hb dX11_moves_40 kic_0 ?_
        refine lv_aload_n hx hb dX11_moves_41 rfl (lvA1 hl) ?_
        refine gf_RX11_103 S hK hP 0 xo_0 (v := .int (nI (cn 0))) rfl dX11_moves_42 ?_
        refine vp_callSi (runS_r (As := [.int v2, .int 0, .int (nI (cn 0))]) (rest := []) S (q_l_within l D cI cB cZ v2 0 (nI (cn 0))) kS_RX11_80 hK hP [] rfl ⟨Nat.le_of_ble_eq_true rfl, Nat.le_of_ble_eq_true rfl⟩ ⟨Nat.le_of_ble_eq_true rfl, Nat.le_of_ble_eq_true rfl⟩ rfl hl.1 rfl (Nat.le_of_ble_eq_true rfl) dX11_moves_45) (fun r_20 h_21 => ?_)
        have : (nI (cn 0)).toInt = (((cn 0) : Nat) : Int) := nI_toInt (by omega)
        rcases h_21 with ⟨rfl, h_21⟩ | ⟨rfl, h_21⟩
        ·
          have h_21 : 0 ≤ v2.toInt ∧ v2.toInt ≤ (nI (cn 0)).toInt := h_21
          refine lv_if_eq (tgt := 63) hx hb dX11_moves_48 rfl (fun h => absurd h cq_eq_1_0) (fun _ => ?_)
          refine lv_aload_n hx hb dX11_moves_51 rfl (lvA1 hl) ?_
          refine gf_RX11_77 S hK hP 0 xo_0 (v := .ref (g 15)) rfl dX11_moves_52 ?_
          refine vp_callSi (runV_r (As := []) (rest := []) S (q_l_size l D cI cB cZ (g 15) (if (cn 15) = 0 then zz else ad 2 5) (In 15) (nI (cn 15))) kV_RX11_84 hK hP [29] (one_is xo_29) 29 xo_29 rfl rfl ⟨Nat.le_of_ble_eq_true rfl, Nat.le_of_ble_eq_true rfl⟩ ⟨Nat.le_of_ble_eq_true rfl, Nat.le_of_ble_eq_true rfl⟩ rfl hl.1 rfl (Nat.le_of_ble_eq_true rfl) dX11_moves_55) (fun r_22 h_23 => ?_)
          subst h_23
          refine lv_bipush (v := 60) hx hb dX11_moves_58 kbc_60 ?_
          have : (nI (cn 15)).toInt = (((cn 15) : Nat) : Int) := nI_toInt (by omega)
          refine lv_icmp_lt (tgt := 65) hx hb dX11_moves_60 rfl (fun c_24 => ?_) (fun c_24 => ?_)
          ·
            have tc_24 : ((nI (cn 15)).toInt : Int) < 60 := Int32.lt_iff_toInt_lt.mp c_24
            refine lv_aload_n hx hb dX11_moves_65 rfl (lvA1 hl) ?_
            refine lv_iload_n hx hb dX11_moves_66 rfl (lvA2 hl) ?_
            refine lv_sipush (v := 399) hx hb dX11_moves_67 (by decide) ?_
            refine va_csq (runV_rxa (As := [.int v0, .int 399]) (rest := []) S (q_XmoveBy l D cI cB cZ zz qq vv bt g ad cn In Fn v0 399 hB) kV_RX11_509 hK hXS hS hP 0 xo_0 rfl rfl ⟨Nat.le_of_ble_eq_true rfl, Nat.le_of_ble_eq_true rfl⟩ ⟨Nat.le_of_ble_eq_true rfl, Nat.le_of_ble_eq_true rfl⟩ rfl hl.1 rfl (Nat.le_of_ble_eq_true rfl) dX11_moves_70) (fun r_25 h_26 => ?_)
            rcases h_26 with ⟨mr_25, er_25, hr_25, rfl⟩ | ⟨hr_25, rfl⟩
            ·
              refine lv_astore (lv' := [(5, .ref (ad 15 mr_25)), (4, .int 1), (0, .ref (g 0)), (1, .int v0), (2, .int v1), (3, .int v2)]) hx hb dX11_moves_73 hl (ltb rfl) rfl (fun ls hl => ?_)
              refine lv_aload hx hb dX11_moves_75 (lvA0 hl) ?_
              refine lv_ifnull hx hb dX11_moves_77 ?_
              refine lv_iload_n hx hb dX11_moves_80 rfl (lvA5 hl) ?_
              refine lv_aload hx hb dX11_moves_81 (lvA0 hl) ?_
              refine gf_RX11_508 S hK hP _ (xf_5 (by omega)) (v := .int ((Fn 182) mr_25)) rfl dX11_moves_83 ?_
              refine lv_icmp_ge (tgt := 91) hx hb dX11_moves_86 rfl (fun c_27 => ?_) (fun c_27 => ?_)
              ·
                have tc_27 : (((Fn 182) mr_25).toInt : Int) ≤ v2.toInt := Int32.le_iff_toInt_le.mp c_27
                refine lv_aload_n hx hb dX11_moves_91 rfl (lvA2 hl) ?_
                refine gf_RX11_77 S hK hP 0 xo_0 (v := .ref (g 15)) rfl dX11_moves_92 ?_
                refine va_new (ci := 4) (fs := [.int 0, .int 0, .int 0]) (C := RX3) (T := TX3) (N := 3) hx hb S.2.2.2.2 hin_RX3 tyX3 tyX3_ok hown (S.2.2.2.2 _ (wk6_3 3 rfl rfl)) (S.2.2.2.2 _ (wk6_3 4 rfl rfl)) (S.2.2.2.2 _ (wk1_2 2 rfl rfl)) hK.1 hP hD hS hA rfl (by decide +kernel) (Nat.le_of_ble_eq_true rfl) (Nat.le_of_ble_eq_true rfl) dX11_moves_95 (fun q95 H hP hD hS => ?_)
                have hP : va_P D vwCl ((wX cI (D.1 99) zz g ad cn In Fn) ++ ([(q95, .inr (4, [.int 0, .int 0, .int 0]))] : va_W)) H := hP
                have hD : va_D A ((wX cI (D.1 99) zz g ad cn In Fn) ++ ([(q95, .inr (4, [.int 0, .int 0, .int 0]))] : va_W)) := hD
                refine lv_dup hx hb dX11_moves_98 rfl ?_
                refine lv_iload_n hx hb dX11_moves_99 rfl (lvA3 hl) ?_
                refine lv_iload_n hx hb dX11_moves_100 rfl (lvA4 hl) ?_
                refine lv_iload_n hx hb dX11_moves_101 rfl (lvA5 hl) ?_
                have hFc := va_free (wc := [(q95, .inr (4, [.int 0, .int 0, .int 0]))]) hD hS hA [_] (one_im (exr (m := 0) rfl))
                refine va_callv (runI_w (As := [.int v0, .int v1, .int v2]) (rest := [.ref q95, .ref (g 15)]) S (q_l_Move l D cI cB cZ q95 v0 v1 v2 H.size) kI_RX11_513 hK hP hD [_] (one_is (exr (m := 0) rfl)) (one_im (exr (m := 0) rfl)) rfl ⟨Nat.le_of_ble_eq_true rfl, Nat.le_of_ble_eq_true rfl⟩ ⟨Nat.le_of_ble_eq_true rfl, Nat.le_of_ble_eq_true rfl⟩ rfl hl.1 rfl (Nat.le_of_ble_eq_true rfl) dX11_moves_102) hS (fun q _ h => hFc q h) hFc (fun u_28 t H1 locs ht hvm h_29 hB1 hz1 hk1 hS => ?_)
                obtain ⟨hP1, hD1⟩ := hB1
                rw [ht] at hP1
                obtain ⟨hP, hD⟩ := exjoin hP hD hk1 hFc hP1 hD1
                generalize H1 = H at hP hS ⊢
                have hP : va_P D vwCl ((wX cI (D.1 99) zz g ad cn In Fn) ++ ([(q95, .inr (4, [.int v0, .int v1, .int v2]))] : va_W)) H := hP
                have hD : va_D A ((wX cI (D.1 99) zz g ad cn In Fn) ++ ([(q95, .inr (4, [.int v0, .int v1, .int v2]))] : va_W)) := hD
                rcases Nat.eq_zero_or_pos (cn 15) with hz0 | hz0
                ·
                  have hi9 : (wX cI (D.1 99) zz g ad cn In Fn)[29]? = _ := xlz_5 hz0
                  have hp2P := pick2P hP (exl hi9) (exr (m := 0) rfl)
                  have hp2D := pick2D hD (exl hi9) (exr (m := 0) rfl) (ne_ex hi9)
                  have hFc := free_all hp2D hS hA
                  refine va_calli (runV_xa (As := [.ref q95]) (rest := []) S (q_l_addZM l D cI cB cZ zz qq vv bt (g 15) q95 (In 15) v0 v1 v2 H.size) kV_RX11_110 hK hXS hS hFc hp2P hp2D 0 rfl rfl rfl ⟨Nat.le_of_ble_eq_true rfl, Nat.le_of_ble_eq_true rfl⟩ ⟨Nat.le_of_ble_eq_true rfl, Nat.le_of_ble_eq_true rfl⟩ rfl hl.1 rfl (Nat.le_of_ble_eq_true rfl) dX11_moves_105) hS (fun q _ h => hFc q h) hFc (fun r29 u29 t H1 locs ht hvm h29 hB1 hz1 hk1 hS => ?_)
                  obtain ⟨hP1, hD1⟩ := hB1
                  rw [ht] at hP1
                  obtain rfl : r29 = 1 := h29
                  obtain ⟨hP, hD⟩ := add0_join hP hD hi9 rfl hk1 hFc hP1 hD1 rfl (xu_5 (z := u29) (c := 10) (y := (In 15) + 1) (q := q95) (x0 := v0) (x1 := v1) (x2 := v2) hz0)
                  have hP : va_P D vwCl (wX cI (D.1 99) zz g (adP ad 15 (cn 15) q95 5 u29) (va_up (va_up cn 15 ((cn 15) + 1)) 25 10) (va_up In 15 ((In 15) + 1)) (va_up (va_up (va_up Fn 180 (upd (Fn 180) (cn 15) v0)) 181 (upd (Fn 181) (cn 15) v1)) 182 (upd (Fn 182) (cn 15) v2))) H1 := hP
                  have hD : va_D A (wX cI (D.1 99) zz g (adP ad 15 (cn 15) q95 5 u29) (va_up (va_up cn 15 ((cn 15) + 1)) 25 10) (va_up In 15 ((In 15) + 1)) (va_up (va_up (va_up Fn 180 (upd (Fn 180) (cn 15) v0)) 181 (upd (Fn 181) (cn 15) v1)) 182 (upd (Fn 182) (cn 15) v2))) := hD
                  generalize H1 = H at hP hS ⊢
                  refine W.widen (k := 2) (n := 103) (Nat.le_of_ble_eq_true rfl) (Nat.le_of_ble_eq_true rfl) ?_
                  refine lv_pop hx hb dX11_moves_108 rfl ?_
                  refine lv_iconst (v := 1) hx hb dX11_moves_109 kic_1 ?_
                  exact W.zret (v := 1) hx hb hr rfl (fun t ht hW => ⟨⟨1, ((adP ad 15 (cn 15) q95 5 u29), (va_up (va_up cn 15 ((cn 15) + 1)) 25 10), (va_up In 15 ((In 15) + 1)), (va_up (va_up (va_up Fn 180 (upd (Fn 180) (cn 15) v0)) 181 (upd (Fn 181) (cn 15) v1)) 182 (upd (Fn 182) (cn 15) v2))), rfl, (Or.inr ⟨rfl, q95, u29, 10, ((In 15) + 1), by omega, ⟨by omega, by omega⟩, rfl, rfl, rfl, rfl⟩), by rw [ht]; exact hP, hD⟩, hS.F ht⟩) hS.2.2 dX11_moves_110
                ·
                  have hi9 : (wX cI (D.1 99) zz g ad cn In Fn)[29]? = _ := xl_5 hz0
                  have hj9 : (wX cI (D.1 99) zz g ad cn In Fn)[_]? = _ := xf_18 (k := 0) (show 0 < min 1 (cn 15) by omega)
                  obtain ⟨ws9, hp1, hp2⟩ := pickG (W := ((wX cI (D.1 99) zz g ad cn In Fn) ++ ([(q95, .inr (4, [.int v0, .int v1, .int v2]))] : va_W))) (exl hi9) (exl hj9) (exr (m := 0) rfl) (xij (by decide)) (ne_ex hi9) (ne_ex hj9)
                  have hP9 := va_P_perm hp1 hP
                  have hD9 := va_D_perm hp1 hD
                  have hFc := free_all hD9 hS hA
                  refine va_calli (runV_xa (As := [.ref q95]) (rest := []) S (q_l_addGM l D cI cB cZ zz qq vv bt (cn 25) (g 15) (ad 2 5) (cn 15) q95 (In 15) (ad 15) v0 v1 v2 ws9 H.size (by omega) (by omega) hz0 (by omega) (fun i hi => ⟨_, g_mem (hp1.mem_iff.mp (List.mem_of_getElem? (exl (xf_5 (k := i) hi)))) (by decide)⟩)) kV_RX11_110 hK hXS hS hFc hP9 hD9 0 rfl rfl rfl ⟨Nat.le_of_ble_eq_true rfl, Nat.le_of_ble_eq_true rfl⟩ ⟨Nat.le_of_ble_eq_true rfl, Nat.le_of_ble_eq_true rfl⟩ rfl hl.1 rfl (Nat.le_of_ble_eq_true rfl) dX11_moves_105) hS (fun q _ h => hFc q h) hFc (fun r29 u29 t H1 locs ht hvm h29 hB1 hz1 hk1 hS => ?_)
                  obtain ⟨hP1, hD1⟩ := hB1
                  rw [ht] at hP1
                  obtain ⟨hr29, h29⟩ := h29
                  obtain rfl : r29 = 1 := hr29
                  obtain ⟨ua29, uc29⟩ := u29
                  have hu29 : cn 15 < uc29 ∧ uc29 ≤ 100 := h29
                  obtain ⟨hP, hD⟩ := addG_join hp2 hi9 hj9 hP1 hD1 hFc (xadd_5 (z := ua29) (c := uc29) (y := (In 15) + 1) (q := q95) (x0 := v0) (x1 := v1) (x2 := v2) hz0)
                  have hP : va_P D vwCl (wX cI (D.1 99) zz g (adP ad 15 (cn 15) q95 5 ua29) (va_up (va_up cn 15 ((cn 15) + 1)) 25 uc29) (va_up In 15 ((In 15) + 1)) (va_up (va_up (va_up Fn 180 (upd (Fn 180) (cn 15) v0)) 181 (upd (Fn 181) (cn 15) v1)) 182 (upd (Fn 182) (cn 15) v2))) H1 := hP
                  have hD : va_D A (wX cI (D.1 99) zz g (adP ad 15 (cn 15) q95 5 ua29) (va_up (va_up cn 15 ((cn 15) + 1)) 25 uc29) (va_up In 15 ((In 15) + 1)) (va_up (va_up (va_up Fn 180 (upd (Fn 180) (cn 15) v0)) 181 (upd (Fn 181) (cn 15) v1)) 182 (upd (Fn 182) (cn 15) v2))) := hD
                  generalize H1 = H at hP hS ⊢
                  refine lv_pop hx hb dX11_moves_108 rfl ?_
                  refine lv_iconst (v := 1) hx hb dX11_moves_109 kic_1 ?_
                  exact W.zret (v := 1) hx hb hr rfl (fun t ht hW => ⟨⟨1, ((adP ad 15 (cn 15) q95 5 ua29), (va_up (va_up cn 15 ((cn 15) + 1)) 25 uc29), (va_up In 15 ((In 15) + 1)), (va_up (va_up (va_up Fn 180 (upd (Fn 180) (cn 15) v0)) 181 (upd (Fn 181) (cn 15) v1)) 182 (upd (Fn 182) (cn 15) v2))), rfl, (Or.inr ⟨rfl, q95, ua29, uc29, ((In 15) + 1), by omega, ⟨by omega, by omega⟩, rfl, rfl, rfl, rfl⟩), by rw [ht]; exact hP, hD⟩, hS.F ht⟩) hS.2.2 dX11_moves_110
              ·
                have tc_27 : (v2.toInt : Int) < ((Fn 182) mr_25).toInt := Int32.lt_iff_toInt_lt.mp (Int32.not_le.mp c_27)
                refine lv_iconst (v := 0) hx hb dX11_moves_89 kic_0 ?_
                refine W.widen (k := 2) (n := 103) (Nat.le_of_ble_eq_true rfl) (Nat.le_of_ble_eq_true rfl) ?_
                exact W.zret (v := 0) hx hb hr rfl (fun t ht hW => ⟨⟨0, (ad, cn, In, Fn), rfl, (Or.inl ⟨rfl, rfl, rfl, rfl, rfl⟩), by rw [ht]; exact hP, hD⟩, hS.F ht⟩) hS.2.2 dX11_moves_90
            ·
              refine lv_astoreN (lv' := [(5, .null), (4, .int 1), (0, .ref (g 0)), (1, .int v0), (2, .int v1), (3, .int v2)]) hx hb dX11_moves_73 hl (ltb rfl) rfl (fun ls hl => ?_)
              refine lv_aloadN hx hb dX11_moves_75 (lvA0 hl) ?_
              refine lv_ifnullN (tgt := 91) hx hb dX11_moves_77 rfl ?_
              refine lv_aload_n hx hb dX11_moves_91 rfl (lvA2 hl) ?_
              refine gf_RX11_77 S hK hP 0 xo_0 (v := .ref (g 15)) rfl dX11_moves_92 ?_
              refine va_new (ci := 4) (fs := [.int 0, .int 0, .int 0]) (C := RX3) (T := TX3) (N := 3) hx hb S.2.2.2.2 hin_RX3 tyX3 tyX3_ok hown (S.2.2.2.2 _ (wk6_3 3 rfl rfl)) (S.2.2.2.2 _ (wk6_3 4 rfl rfl)) (S.2.2.2.2 _ (wk1_2 2 rfl rfl)) hK.1 hP hD hS hA rfl (by decide +kernel) (Nat.le_of_ble_eq_true rfl) (Nat.le_of_ble_eq_true rfl) dX11_moves_95 (fun q95 H hP hD hS => ?_)
              have hP : va_P D vwCl ((wX cI (D.1 99) zz g ad cn In Fn) ++ ([(q95, .inr (4, [.int 0, .int 0, .int 0]))] : va_W)) H := hP
              have hD : va_D A ((wX cI (D.1 99) zz g ad cn In Fn) ++ ([(q95, .inr (4, [.int 0, .int 0, .int 0]))] : va_W)) := hD
              refine lv_dup hx hb dX11_moves_98 rfl ?_
              refine lv_iload_n hx hb dX11_moves_99 rfl (lvA3 hl) ?_
              refine lv_iload_n hx hb dX11_moves_100 rfl (lvA4 hl) ?_
              refine lv_iload_n hx hb dX11_moves_101 rfl (lvA5 hl) ?_
              have hFc := va_free (wc := [(q95, .inr (4, [.int 0, .int 0, .int 0]))]) hD hS hA [_] (one_im (exr (m := 0) rfl))
              refine va_callv (runI_w (As := [.int v0, .int v1, .int v2]) (rest := [.ref q95, .ref (g 15)]) S (q_l_Move l D cI cB cZ q95 v0 v1 v2 H.size) kI_RX11_513 hK hP hD [_] (one_is (exr (m := 0) rfl)) (one_im (exr (m := 0) rfl)) rfl ⟨Nat.le_of_ble_eq_true rfl, Nat.le_of_ble_eq_true rfl⟩ ⟨Nat.le_of_ble_eq_true rfl, Nat.le_of_ble_eq_true rfl⟩ rfl hl.1 rfl (Nat.le_of_ble_eq_true rfl) dX11_moves_102) hS (fun q _ h => hFc q h) hFc (fun u_31 t H1 locs ht hvm h_32 hB1 hz1 hk1 hS => ?_)
              obtain ⟨hP1, hD1⟩ := hB1
              rw [ht] at hP1
              obtain ⟨hP, hD⟩ := exjoin hP hD hk1 hFc hP1 hD1
              generalize H1 = H at hP hS ⊢
              have hP : va_P D vwCl ((wX cI (D.1 99) zz g ad cn In Fn) ++ ([(q95, .inr (4, [.int v0, .int v1, .int v2]))] : va_W)) H := hP
              have hD : va_D A ((wX cI (D.1 99) zz g ad cn In Fn) ++ ([(q95, .inr (4, [.int v0, .int v1, .int v2]))] : va_W)) := hD
              rcases Nat.eq_zero_or_pos (cn 15) with hz0 | hz0
              ·
                have hi9 : (wX cI (D.1 99) zz g ad cn In Fn)[29]? = _ := xlz_5 hz0
                have hp2P := pick2P hP (exl hi9) (exr (m := 0) rfl)
                have hp2D := pick2D hD (exl hi9) (exr (m := 0) rfl) (ne_ex hi9)
                have hFc := free_all hp2D hS hA
                refine va_calli (runV_xa (As := [.ref q95]) (rest := []) S (q_l_addZM l D cI cB cZ zz qq vv bt (g 15) q95 (In 15) v0 v1 v2 H.size) kV_RX11_110 hK hXS hS hFc hp2P hp2D 0 rfl rfl rfl ⟨Nat.le_of_ble_eq_true rfl, Nat.le_of_ble_eq_true rfl⟩ ⟨Nat.le_of_ble_eq_true rfl, Nat.le_of_ble_eq_true rfl⟩ rfl hl.1 rfl (Nat.le_of_ble_eq_true rfl) dX11_moves_105) hS (fun q _ h => hFc q h) hFc (fun r32 u32 t H1 locs ht hvm h32 hB1 hz1 hk1 hS => ?_)
                obtain ⟨hP1, hD1⟩ := hB1
                rw [ht] at hP1
                obtain rfl : r32 = 1 := h32
                obtain ⟨hP, hD⟩ := add0_join hP hD hi9 rfl hk1 hFc hP1 hD1 rfl (xu_5 (z := u32) (c := 10) (y := (In 15) + 1) (q := q95) (x0 := v0) (x1 := v1) (x2 := v2) hz0)
                have hP : va_P D vwCl (wX cI (D.1 99) zz g (adP ad 15 (cn 15) q95 5 u32) (va_up (va_up cn 15 ((cn 15) + 1)) 25 10) (va_up In 15 ((In 15) + 1)) (va_up (va_up (va_up Fn 180 (upd (Fn 180) (cn 15) v0)) 181 (upd (Fn 181) (cn 15) v1)) 182 (upd (Fn 182) (cn 15) v2))) H1 := hP
                have hD : va_D A (wX cI (D.1 99) zz g (adP ad 15 (cn 15) q95 5 u32) (va_up (va_up cn 15 ((cn 15) + 1)) 25 10) (va_up In 15 ((In 15) + 1)) (va_up (va_up (va_up Fn 180 (upd (Fn 180) (cn 15) v0)) 181 (upd (Fn 181) (cn 15) v1)) 182 (upd (Fn 182) (cn 15) v2))) := hD
                generalize H1 = H at hP hS ⊢
                refine W.widen (k := 2) (n := 103) (Nat.le_of_ble_eq_true rfl) (Nat.le_of_ble_eq_true rfl) ?_
                refine lv_pop hx hb dX11_moves_108 rfl ?_
                refine lv_iconst (v := 1) hx hb dX11_moves_109 kic_1 ?_
                exact W.zret (v := 1) hx hb hr rfl (fun t ht hW => ⟨⟨1, ((adP ad 15 (cn 15) q95 5 u32), (va_up (va_up cn 15 ((cn 15) + 1)) 25 10), (va_up In 15 ((In 15) + 1)), (va_up (va_up (va_up Fn 180 (upd (Fn 180) (cn 15) v0)) 181 (upd (Fn 181) (cn 15) v1)) 182 (upd (Fn 182) (cn 15) v2))), rfl, (Or.inr ⟨rfl, q95, u32, 10, ((In 15) + 1), by omega, ⟨by omega, by omega⟩, rfl, rfl, rfl, rfl⟩), by rw [ht]; exact hP, hD⟩, hS.F ht⟩) hS.2.2 dX11_moves_110
              ·
                have hi9 : (wX cI (D.1 99) zz g ad cn In Fn)[29]? = _ := xl_5 hz0
                have hj9 : (wX cI (D.1 99) zz g ad cn In Fn)[_]? = _ := xf_18 (k := 0) (show 0 < min 1 (cn 15) by omega)
                obtain ⟨ws9, hp1, hp2⟩ := pickG (W := ((wX cI (D.1 99) zz g ad cn In Fn) ++ ([(q95, .inr (4, [.int v0, .int v1, .int v2]))] : va_W))) (exl hi9) (exl hj9) (exr (m := 0) rfl) (xij (by decide)) (ne_ex hi9) (ne_ex hj9)
                have hP9 := va_P_perm hp1 hP
                have hD9 := va_D_perm hp1 hD
                have hFc := free_all hD9 hS hA
                refine va_calli (runV_xa (As := [.ref q95]) (rest := []) S (q_l_addGM l D cI cB cZ zz qq vv bt (cn 25) (g 15) (ad 2 5) (cn 15) q95 (In 15) (ad 15) v0 v1 v2 ws9 H.size (by omega) (by omega) hz0 (by omega) (fun i hi => ⟨_, g_mem (hp1.mem_iff.mp (List.mem_of_getElem? (exl (xf_5 (k := i) hi)))) (by decide)⟩)) kV_RX11_110 hK hXS hS hFc hP9 hD9 0 rfl rfl rfl ⟨Nat.le_of_ble_eq_true rfl, Nat.le_of_ble_eq_true rfl⟩ ⟨Nat.le_of_ble_eq_true rfl, Nat.le_of_ble_eq_true rfl⟩ rfl hl.1 rfl (Nat.le_of_ble_eq_true rfl) dX11_moves_105) hS (fun q _ h => hFc q h) hFc (fun r32 u32 t H1 locs ht hvm h32 hB1 hz1 hk1 hS => ?_)
                obtain ⟨hP1, hD1⟩ := hB1
                rw [ht] at hP1
                obtain ⟨hr32, h32⟩ := h32
                obtain rfl : r32 = 1 := hr32
                obtain ⟨ua32, uc32⟩ := u32
                have hu32 : cn 15 < uc32 ∧ uc32 ≤ 100 := h32
                obtain ⟨hP, hD⟩ := addG_join hp2 hi9 hj9 hP1 hD1 hFc (xadd_5 (z := ua32) (c := uc32) (y := (In 15) + 1) (q := q95) (x0 := v0) (x1 := v1) (x2 := v2) hz0)
                have hP : va_P D vwCl (wX cI (D.1 99) zz g (adP ad 15 (cn 15) q95 5 ua32) (va_up (va_up cn 15 ((cn 15) + 1)) 25 uc32) (va_up In 15 ((In 15) + 1)) (va_up (va_up (va_up Fn 180 (upd (Fn 180) (cn 15) v0)) 181 (upd (Fn 181) (cn 15) v1)) 182 (upd (Fn 182) (cn 15) v2))) H1 := hP
                have hD : va_D A (wX cI (D.1 99) zz g (adP ad 15 (cn 15) q95 5 ua32) (va_up (va_up cn 15 ((cn 15) + 1)) 25 uc32) (va_up In 15 ((In 15) + 1)) (va_up (va_up (va_up Fn 180 (upd (Fn 180) (cn 15) v0)) 181 (upd (Fn 181) (cn 15) v1)) 182 (upd (Fn 182) (cn 15) v2))) := hD
                generalize H1 = H at hP hS ⊢
                refine lv_pop hx hb dX11_moves_108 rfl ?_
                refine lv_iconst (v := 1) hx hb dX11_moves_109 kic_1 ?_
                exact W.zret (v := 1) hx hb hr rfl (fun t ht hW => ⟨⟨1, ((adP ad 15 (cn 15) q95 5 ua32), (va_up (va_up cn 15 ((cn 15) + 1)) 25 uc32), (va_up In 15 ((In 15) + 1)), (va_up (va_up (va_up Fn 180 (upd (Fn 180) (cn 15) v0)) 181 (upd (Fn 181) (cn 15) v1)) 182 (upd (Fn 182) (cn 15) v2))), rfl, (Or.inr ⟨rfl, q95, ua32, uc32, ((In 15) + 1), by omega, ⟨by omega, by omega⟩, rfl, rfl, rfl, rfl⟩), by rw [ht]; exact hP, hD⟩, hS.F ht⟩) hS.2.2 dX11_moves_110
          ·
            have tc_24 : (60 : Int) ≤ (nI (cn 15)).toInt := Int32.le_iff_toInt_le.mp (Int32.not_lt.mp c_24)
            refine lv_iconst (v := 0) hx hb dX11_moves_63 kic_0 ?_
            refine W.widen (k := 2) (n := 103) (Nat.le_of_ble_eq_true rfl) (Nat.le_of_ble_eq_true rfl) ?_
            exact W.zret (v := 0) hx hb hr rfl (fun t ht hW => ⟨⟨0, (ad, cn, In, Fn), rfl, (Or.inl ⟨rfl, rfl, rfl, rfl, rfl⟩), by rw [ht]; exact hP, hD⟩, hS.F ht⟩) hS.2.2 dX11_moves_64
        ·
          have h_21 : ¬ (0 ≤ v2.toInt ∧ v2.toInt ≤ (nI (cn 0)).toInt) := h_21
          refine lv_if_eq (tgt := 63) hx hb dX11_moves_48 rfl (fun _ => ?_) (fun h => absurd h cq_eq_0_0)
          refine lv_iconst (v := 0) hx hb dX11_moves_63 kic_0 ?_
          refine W.widen (k := 2) (n := 103) (Nat.le_of_ble_eq_true rfl) (Nat.le_of_ble_eq_true rfl) ?_
          exact W.zret (v := 0) hx hb hr rfl (fun t ht hW => ⟨⟨0, (ad, cn, In, Fn), rfl, (Or.inl ⟨rfl, rfl, rfl, rfl, rfl⟩), by rw [ht]; exact hP, hD⟩, hS.F ht⟩) hS.2.2 dX11_moves_64
      ·
        refine lv_ifnullN (tgt := 31) hx hb dX11_moves_24 rfl ?_
        refine lv_iconst (v := 0) hx hb dX11_moves_31 kic_0 ?_
        refine lv_istore (lv' := [(4, .int 0), (0, .ref (g 0)), (1, .int v0), (2, .int v1), (3, .int v2)]) hx hb dX11_moves_32 hl (ltb rfl) rfl (fun ls hl => ?_)
        refine lv_iload hx hb dX11_moves_34 (lvA0 hl) ?_
        refine lv_if_eq (tgt := 63) hx hb dX11_moves_36 rfl (fun _ => ?_) (fun h => absurd h cq_eq_0_0)
        refine lv_iconst (v := 0) hx hb dX11_moves_63 kic_0 ?_
        refine W.widen (k := 2) (n := 103) (Nat.le_of_ble_eq_true rfl) (Nat.le_of_ble_eq_true rfl) ?_
        exact W.zret (v := 0) hx hb hr rfl (fun t ht hW => ⟨⟨0, (ad, cn, In, Fn), rfl, (Or.inl ⟨rfl, rfl, rfl, rfl, rfl⟩), by rw [ht]; exact hP, hD⟩, hS.F ht⟩) hS.2.2 dX11_moves_64
  ·
    have h_2 : ¬ (0 ≤ v0.toInt ∧ v0.toInt ≤ ((nI (cn 2)) - 1).toInt) := h_2
    refine lv_if_eq (tgt := 31) hx hb dX11_moves_11 rfl (fun _ => ?_) (fun h => absurd h cq_eq_0_0)
    refine lv_iconst (v := 0) hx hb dX11_moves_31 kic_0 ?_
    refine lv_istore (lv' := [(4, .int 0), (0, .ref (g 0)), (1, .int v0), (2, .int v1), (3, .int v2)]) hx hb dX11_moves_32 hl (ltb rfl) rfl (fun ls hl => ?_)
    refine lv_iload hx hb dX11_moves_34 (lvA0 hl) ?_
    refine lv_if_eq (tgt := 63) hx hb dX11_moves_36 rfl (fun _ => ?_) (fun h => absurd h cq_eq_0_0)
    refine lv_iconst (v := 0) hx hb dX11_moves_63 kic_0 ?_
    refine W.widen (k := 2) (n := 103) (Nat.le_of_ble_eq_true rfl) (Nat.le_of_ble_eq_true rfl) ?_
    exact W.zret (v := 0) hx hb hr rfl (fun t ht hW => ⟨⟨0, (ad, cn, In, Fn), rfl, (Or.inl ⟨rfl, rfl, rfl, rfl, rfl⟩), by rw [ht]; exact hP, hD⟩, hS.F ht⟩) hS.2.2 dX11_moves_64
set_option maxRecDepth 100000 in
set_option maxHeartbeats 4000000 in
theorem q_Xproof (l : Launch) (D : va_G) (cI cB cZ : ClassId) (zz qq vv : Nat) (bt : Nat → Int32) (g : Nat → Nat) (ad : Nat → Nat → Nat) (cn : Nat → Nat) (In : Nat → Int32) (Fn : Nat → Nat → Int32) (v0 v1 v2 v3 : Int32) (sz : Nat) (hB : CBX cn) : Met l yX11_proof (CWS yX11_proof cX11_proof 6 (some .int)) (RM 8 2 105) (PBx [.ref (g 0), .int v0, .int v1, .int v2, .int v3] D cI cB cZ zz qq vv bt (wX cI (D.1 99) zz g ad cn In Fn) sz) (va_Qi (fun (r : Int32) (u : (Nat → Nat → Nat) × (Nat → Nat) × (Nat → Int32) × (Nat → Nat → Int32)) => (fun r a2 c2 I2 F2 => (r = (-1) ∧ ad = a2 ∧ cn = c2 ∧ In = I2 ∧ Fn = F2) ∨ (r = nI (cn 13) ∧ ∃ (q z c : Nat) (y : Int32) (m : Nat), (v0.toInt = (m : Int) ∧ m < cn 12 ∧ 0 ≤ v1.toInt ∧ v1.toInt < v2.toInt ∧ v2.toInt ≤ (Fn 146 m).toInt ∧ 0 ≤ v3.toInt ∧ v3.toInt ≤ 9 ∧ cn 13 < 40) ∧ (cn 13 < c ∧ c ≤ 100) ∧ (adP ad 13 (cn 13) q 3 z) = a2 ∧ (va_up (va_up cn 13 ((cn 13) + 1)) 23 c) = c2 ∧ (va_up In 13 y) = I2 ∧ (va_up (va_up (va_up (va_up (va_up Fn 160 (upd (Fn 160) (cn 13) v0)) 161 (upd (Fn 161) (cn 13) v1)) 162 (upd (Fn 162) (cn 13) v2)) 163 (upd (Fn 163) (cn 13) v3)) 164 (upd (Fn 164) (cn 13) (nI (cn 0)))) = F2)) r u.1 u.2.1 u.2.2.1 u.2.2.2) (fun (u : (Nat → Nat → Nat) × (Nat → Nat) × (Nat → Int32) × (Nat → Nat → Int32)) (t : State) => va_P D vwCl (wX cI (D.1 99) zz g u.1 u.2.1 u.2.2.1 u.2.2.2) t.heap ∧ va_D (va_A (wX cI (D.1 99) zz g ad cn In Fn) sz) (wX cI (D.1 99) zz g u.1 u.2.1 u.2.2.1 u.2.2.2)) (va_A (wX cI (D.1 99) zz g ad cn In Fn) sz)) 2 105 (va_A (wX cI (D.1 99) zz g ad cn In Fn) sz) := by
  refine en_x (fun A => (va_Qi (fun (r : Int32) (u : (Nat → Nat → Nat) × (Nat → Nat) × (Nat → Int32) × (Nat → Nat → Int32)) => (fun (r : Int32) (a2 : Nat → Nat → Nat) (c2 : Nat → Nat) (I2 : Nat → Int32) (F2 : Nat → Nat → Int32) => (r = (-1) ∧ ad = a2 ∧ cn = c2 ∧ In = I2 ∧ Fn = F2) ∨ (r = nI (cn 13) ∧ ∃ (q z c : Nat) (y : Int32) (m : Nat), (v0.toInt = (m : Int) ∧ m < cn 12 ∧ 0 ≤ v1.toInt ∧ v1.toInt < v2.toInt ∧ v2.toInt ≤ (Fn 146 m).toInt ∧ 0 ≤ v3.toInt ∧ v3.toInt ≤ 9 ∧ cn 13 < 40) ∧ (cn 13 < c ∧ c ≤ 100) ∧ (adP ad 13 (cn 13) q 3 z) = a2 ∧ (va_up (va_up cn 13 ((cn 13) + 1)) 23 c) = c2 ∧ (va_up In 13 y) = I2 ∧ (va_up (va_up (va_up (va_up (va_up Fn 160 (upd (Fn 160) (cn 13) v0)) 161 (upd (Fn 161) (cn 13) v1)) 162 (upd (Fn 162) (cn 13) v2)) 163 (upd (Fn 163) (cn 13) v3)) 164 (upd (Fn 164) (cn 13) (nI (cn 0)))) = F2)) r u.1 u.2.1 u.2.2.1 u.2.2.2) (fun (u : (Nat → Nat → Nat) × (Nat → Nat) × (Nat → Int32) × (Nat → Nat → Int32)) (t : State) => va_P D vwCl (wX cI (D.1 99) zz g u.1 u.2.1 u.2.2.1 u.2.2.2) t.heap ∧ va_D A (wX cI (D.1 99) zz g u.1 u.2.1 u.2.2.1 u.2.2.2)) A)) rfl rfl pn_RX11 (Nat.le_of_ble_eq_true rfl) (fun p e s m below meth c A hx hb hml hown S hr hlocks hnm hA hP hK hD hXS hS ls hl => ?_)
  have hl : lv_has ls 6 [(0, .ref (g 0)), (1, .int v0), (2, .int v1), (3, .int v2), (4, .int v3)] := hl
  refine lv_aload_n hx hb dX11_proof_0 rfl (lvA0 hl) ?_
  refine lv_iload_n hx hb dX11_proof_1 rfl (lvA1 hl) ?_
  refine va_csq (runV_rxa (As := [.int v0]) (rest := []) S (q_XbatchAt l D cI cB cZ zz qq vv bt g ad cn In Fn v0 hB) kV_RX11_382 hK hXS hS hP 0 xo_0 rfl rfl ⟨Nat.le_of_ble_eq_true rfl, Nat.le_of_ble_eq_true rfl⟩ ⟨Nat.le_of_ble_eq_true rfl, Nat.le_of_ble_eq_true rfl⟩ rfl hl.1 rfl (Nat.le_of_ble_eq_true rfl) dX11_proof_2) (fun r_1 h_2 => ?_)
  rcases h_2 with ⟨mr_1, er_1, hr_1, rfl⟩ | ⟨hr_1, rfl⟩
  ·
    refine lv_astore (lv' := [(5, .ref (ad 12 mr_1)), (0, .ref (g 0)), (1, .int v0), (2, .int v1), (3, .int v2), (4, .int v3)]) hx hb dX11_proof_5 hl (ltb rfl) rfl (fun ls hl => ?_)
    refine lv_aload hx hb dX11_proof_7 (lvA0 hl) ?_
    refine lv_ifnull hx hb dX11_proof_9 ?_
    refine lv_iload_n hx hb dX11_proof_12 rfl (lvA3 hl) ?_
    refine lv_if_lt (tgt := 53) hx hb dX11_proof_13 rfl (fun c_3 => ?_) (fun c_3 => ?_)
    ·
      have tc_3 : (v1.toInt : Int) < 0 := Int32.lt_iff_toInt_lt.mp c_3
      refine lv_iconst (v := (-1)) hx hb dX11_proof_53 kic_m1 ?_
      refine W.widen (k := 2) (n := 105) (Nat.le_of_ble_eq_true rfl) (Nat.le_of_ble_eq_true rfl) ?_
      exact W.iret (v := (-1)) hx hb hr (fun t ht hW => ⟨⟨(-1), (ad, cn, In, Fn), rfl, (Or.inl ⟨rfl, rfl, rfl, rfl, rfl⟩), by rw [ht]; exact hP, hD⟩, hS.F ht⟩) hS.2.2 dX11_proof_54
    ·
      have tc_3 : (0 : Int) ≤ v1.toInt := Int32.le_iff_toInt_le.mp (Int32.not_lt.mp c_3)
      refine lv_iload_n hx hb dX11_proof_16 rfl (lvA3 hl) ?_
      refine lv_iload_n hx hb dX11_proof_17 rfl (lvA4 hl) ?_
      refine lv_icmp_ge (tgt := 53) hx hb dX11_proof_18 rfl (fun c_4 => ?_) (fun c_4 => ?_)
      ·
        have tc_4 : (v2.toInt : Int) ≤ v1.toInt := Int32.le_iff_toInt_le.mp c_4
        refine lv_iconst (v := (-1)) hx hb dX11_proof_53 kic_m1 ?_
        refine W.widen (k := 2) (n := 105) (Nat.le_of_ble_eq_true rfl) (Nat.le_of_ble_eq_true rfl) ?_
        exact W.iret (v := (-1)) hx hb hr (fun t ht hW => ⟨⟨(-1), (ad, cn, In, Fn), rfl, (Or.inl ⟨rfl, rfl, rfl, rfl, rfl⟩), by rw [ht]; exact hP, hD⟩, hS.F ht⟩) hS.2.2 dX11_proof_54
      ·
        have tc_4 : (v1.toInt : Int) < v2.toInt := Int32.lt_iff_toInt_lt.mp (Int32.not_le.mp c_4)
        refine lv_iload_n hx hb dX11_proof_21 rfl (lvA4 hl) ?_
        refine lv_aload hx hb dX11_proof_22 (lvA0 hl) ?_
        refine gf_RX11_342 S hK hP _ (xf_2 (by omega)) (v := .int ((Fn 146) mr_1)) rfl dX11_proof_24 ?_
        refine lv_icmp_gt (tgt := 53) hx hb dX11_proof_27 rfl (fun c_5 => ?_) (fun c_5 => ?_)
        ·
          have tc_5 : (((Fn 146) mr_1).toInt : Int) < v2.toInt := Int32.lt_iff_toInt_lt.mp c_5
          refine lv_iconst (v := (-1)) hx hb dX11_proof_53 kic_m1 ?_
          refine W.widen (k := 2) (n := 105) (Nat.le_of_ble_eq_true rfl) (Nat.le_of_ble_eq_true rfl) ?_
          exact W.iret (v := (-1)) hx hb hr (fun t ht hW => ⟨⟨(-1), (ad, cn, In, Fn), rfl, (Or.inl ⟨rfl, rfl, rfl, rfl, rfl⟩), by rw [ht]; exact hP, hD⟩, hS.F ht⟩) hS.2.2 dX11_proof_54
        ·
          have tc_5 : (v2.toInt : Int) ≤ ((Fn 146) mr_1).toInt := Int32.le_iff_toInt_le.mp (Int32.not_lt.mp c_5)
          refine lv_iload hx hb dX11_proof_30 (lvA5 hl) ?_
          refine lv_iconst (v := 0) hx hb dX11_proof_32 kic_0 ?_
          refine lv_bipush (v := 9) hx hb dX11_proof_33 kbc_9 ?_
          refine vp_callSi (runS_r (As := [.int v3, .int 0, .int 9]) (rest := []) S (q_l_within l D cI cB cZ v3 0 9) kS_RX11_80 hK hP [] rfl ⟨Nat.le_of_ble_eq_true rfl, Nat.le_of_ble_eq_true rfl⟩ ⟨Nat.le_of_ble_eq_true rfl, Nat.le_of_ble_eq_true rfl⟩ rfl hl.1 rfl (Nat.le_of_ble_eq_true rfl) dX11_proof_35) (fun r_6 h_7 => ?_)
          rcases h_7 with ⟨rfl, h_7⟩ | ⟨rfl, h_7⟩
          ·
            have h_7 : 0 ≤ v3.toInt ∧ v3.toInt ≤ 9 := h_7
            refine lv_if_eq (tgt := 53) hx hb dX11_proof_38 rfl (fun h => absurd h cq_eq_1_0) (fun _ => ?_)
            refine lv_aload_n hx hb dX11_proof_41 rfl (lvA1 hl) ?_
            refine gf_RX11_71 S hK hP 0 xo_0 (v := .ref (g 13)) rfl dX11_proof_42 ?_
            refine vp_callSi (runV_r (As := []) (rest := []) S (q_l_size l D cI cB cZ (g 13) (if (cn 13) = 0 then zz else ad 2 3) (In 13) (nI (cn 13))) kV_RX11_84 hK hP [27] (one_is xo_27) 27 xo_27 rfl rfl ⟨Nat.le_of_ble_eq_true rfl, Nat.le_of_ble_eq_true rfl⟩ ⟨Nat.le_of_ble_eq_true rfl, Nat.le_of_ble_eq_true rfl⟩ rfl hl.1 rfl (Nat.le_of_ble_eq_true rfl) dX11_proof_45) (fun r_8 h_9 => ?_)
            subst h_9
            refine lv_bipush (v := 40) hx hb dX11_proof_48 kbc_40 ?_
            have : (nI (cn 13)).toInt = (((cn 13) : Nat) : Int) := nI_toInt (by omega)
            refine lv_icmp_lt (tgt := 55) hx hb dX11_proof_50 rfl (fun c_10 => ?_) (fun c_10 => ?_)
            ·
              have tc_10 : ((nI (cn 13)).toInt : Int) < 40 := Int32.lt_iff_toInt_lt.mp c_10
              refine lv_aload_n hx hb dX11_proof_55 rfl (lvA1 hl) ?_
              refine gf_RX11_71 S hK hP 0 xo_0 (v := .ref (g 13)) rfl dX11_proof_56 ?_
              refine va_new (ci := 5) (fs := [.int 0, .int 0, .int 0, .int 0, .int 0]) (C := RX4) (T := TX4) (N := 5) hx hb S.2.2.2.2 hin_RX4 tyX4 tyX4_ok hown (S.2.2.2.2 _ (wk5_4 7 rfl rfl)) (S.2.2.2.2 _ (wk5_6 0 rfl rfl)) (S.2.2.2.2 _ (wk1_2 0 rfl rfl)) hK.1 hP hD hS hA rfl (by decide +kernel) (Nat.le_of_ble_eq_true rfl) (Nat.le_of_ble_eq_true rfl) dX11_proof_59 (fun q59 H hP hD hS => ?_)
              have hP : va_P D vwCl ((wX cI (D.1 99) zz g ad cn In Fn) ++ ([(q59, .inr (5, [.int 0, .int 0, .int 0, .int 0, .int 0]))] : va_W)) H := hP
              have hD : va_D A ((wX cI (D.1 99) zz g ad cn In Fn) ++ ([(q59, .inr (5, [.int 0, .int 0, .int 0, .int 0, .int 0]))] : va_W)) := hD
              refine lv_dup hx hb dX11_proof_62 rfl ?_
              refine lv_iload_n hx hb dX11_proof_63 rfl (lvA2 hl) ?_
              refine lv_iload_n hx hb dX11_proof_64 rfl (lvA3 hl) ?_
              refine lv_iload_n hx hb dX11_proof_65 rfl (lvA4 hl) ?_
              refine lv_iload hx hb dX11_proof_66 (lvA5 hl) ?_
              refine lv_aload_n hx hb dX11_proof_68 rfl (lvA1 hl) ?_
              refine gf_RX11_103 S hK hP _ (exl xo_0) (v := .int (nI (cn 0))) rfl dX11_proof_69 ?_
              have hFc := va_free (wc := [(q59, .inr (5, [.int 0, .int 0, .int 0, .int 0, .int 0]))]) hD hS hA [_] (one_im (exr (m := 0) rfl))
              refine va_callv (runI_w (As := [.int v0, .int v1, .int v2, .int v3, .int (nI (cn 0))]) (rest := [.ref q59, .ref (g 13)]) S (q_l_Proof l D cI cB cZ q59 v0 v1 v2 v3 (nI (cn 0)) H.size) kI_RX11_399 hK hP hD [_] (one_is (exr (m := 0) rfl)) (one_im (exr (m := 0) rfl)) rfl ⟨Nat.le_of_ble_eq_true rfl, Nat.le_of_ble_eq_true rfl⟩ ⟨Nat.le_of_ble_eq_true rfl, Nat.le_of_ble_eq_true rfl⟩ rfl hl.1 rfl (Nat.le_of_ble_eq_true rfl) dX11_proof_72) hS (fun q _ h => hFc q h) hFc (fun u_11 t H1 locs ht hvm h_12 hB1 hz1 hk1 hS => ?_)
              obtain ⟨hP1, hD1⟩ := hB1
              rw [ht] at hP1
              obtain ⟨hP, hD⟩ := exjoin hP hD hk1 hFc hP1 hD1
              generalize H1 = H at hP hS ⊢
              have hP : va_P D vwCl ((wX cI (D.1 99) zz g ad cn In Fn) ++ ([(q59, .inr (5, [.int v0, .int v1, .int v2, .int v3, .int (nI (cn 0))]))] : va_W)) H := hP
              have hD : va_D A ((wX cI (D.1 99) zz g ad cn In Fn) ++ ([(q59, .inr (5, [.int v0, .int v1, .int v2, .int v3, .int (nI (cn 0))]))] : va_W)) := hD
              rcases Nat.eq_zero_or_pos (cn 13) with hz0 | hz0
              ·
                have hi9 : (wX cI (D.1 99) zz g ad cn In Fn)[27]? = _ := xlz_3 hz0
                have hp2P := pick2P hP (exl hi9) (exr (m := 0) rfl)
                have hp2D := pick2D hD (exl hi9) (exr (m := 0) rfl) (ne_ex hi9)
                have hFc := free_all hp2D hS hA
                refine va_calli (runV_xa (As := [.ref q59]) (rest := []) S (q_l_addZP l D cI cB cZ zz qq vv bt (g 13) q59 (In 13) v0 v1 v2 v3 (nI (cn 0)) H.size) kV_RX11_110 hK hXS hS hFc hp2P hp2D 0 rfl rfl rfl ⟨Nat.le_of_ble_eq_true rfl, Nat.le_of_ble_eq_true rfl⟩ ⟨Nat.le_of_ble_eq_true rfl, Nat.le_of_ble_eq_true rfl⟩ rfl hl.1 rfl (Nat.le_of_ble_eq_true rfl) dX11_proof_75) hS (fun q _ h => hFc q h) hFc (fun r12 u12 t H1 locs ht hvm h12 hB1 hz1 hk1 hS => ?_)
                obtain ⟨hP1, hD1⟩ := hB1
                rw [ht] at hP1
                obtain rfl : r12 = 1 := h12
                obtain ⟨hP, hD⟩ := add0_join hP hD hi9 rfl hk1 hFc hP1 hD1 rfl (xu_3 (z := u12) (c := 10) (y := (In 13) + 1) (q := q59) (x0 := v0) (x1 := v1) (x2 := v2) (x3 := v3) (x4 := (nI (cn 0))) hz0)
                have hP : va_P D vwCl (wX cI (D.1 99) zz g (adP ad 13 (cn 13) q59 3 u12) (va_up (va_up cn 13 ((cn 13) + 1)) 23 10) (va_up In 13 ((In 13) + 1)) (va_up (va_up (va_up (va_up (va_up Fn 160 (upd (Fn 160) (cn 13) v0)) 161 (upd (Fn 161) (cn 13) v1)) 162 (upd (Fn 162) (cn 13) v2)) 163 (upd (Fn 163) (cn 13) v3)) 164 (upd (Fn 164) (cn 13) (nI (cn 0))))) H1 := hP
                have hD : va_D A (wX cI (D.1 99) zz g (adP ad 13 (cn 13) q59 3 u12) (va_up (va_up cn 13 ((cn 13) + 1)) 23 10) (va_up In 13 ((In 13) + 1)) (va_up (va_up (va_up (va_up (va_up Fn 160 (upd (Fn 160) (cn 13) v0)) 161 (upd (Fn 161) (cn 13) v1)) 162 (upd (Fn 162) (cn 13) v2)) 163 (upd (Fn 163) (cn 13) v3)) 164 (upd (Fn 164) (cn 13) (nI (cn 0))))) := hD
                generalize H1 = H at hP hS ⊢
                refine W.widen (k := 2) (n := 105) (Nat.le_of_ble_eq_true rfl) (Nat.le_of_ble_eq_true rfl) ?_
                refine lv_pop hx hb dX11_proof_78 rfl ?_
                refine lv_aload_n hx hb dX11_proof_79 rfl (lvA1 hl) ?_
                refine gf_RX11_71 S hK hP 0 xo_0 (v := .ref (g 13)) rfl dX11_proof_80 ?_
                refine vp_callSi (runV_r (As := []) (rest := []) S (q_l_size l D cI cB cZ (g 13) (if ((cn 13) + 1) = 0 then zz else (adP ad 13 (cn 13) q59 3 u12) 2 3) ((In 13) + 1) (nI ((cn 13) + 1))) kV_RX11_84 hK hP [27] (one_is xo_27) 27 xo_27 rfl rfl ⟨Nat.le_of_ble_eq_true rfl, Nat.le_of_ble_eq_true rfl⟩ ⟨Nat.le_of_ble_eq_true rfl, Nat.le_of_ble_eq_true rfl⟩ rfl hl.1 rfl (Nat.le_of_ble_eq_true rfl) dX11_proof_83) (fun r_14 h_15 => ?_)
                subst h_15
                refine lv_iconst (v := 1) hx hb dX11_proof_86 kic_1 ?_
                refine lv_isub hx hb dX11_proof_87 ?_
                refine lv_topi (fun y_16 ey_16 => ?_)
                obtain rfl : y_16 = (nI (cn 13)) := ey_16.trans (nI_sub (b := 1) (by omega))
                exact W.iret (v := (nI (cn 13))) hx hb hr (fun t ht hW => ⟨⟨(nI (cn 13)), ((adP ad 13 (cn 13) q59 3 u12), (va_up (va_up cn 13 ((cn 13) + 1)) 23 10), (va_up In 13 ((In 13) + 1)), (va_up (va_up (va_up (va_up (va_up Fn 160 (upd (Fn 160) (cn 13) v0)) 161 (upd (Fn 161) (cn 13) v1)) 162 (upd (Fn 162) (cn 13) v2)) 163 (upd (Fn 163) (cn 13) v3)) 164 (upd (Fn 164) (cn 13) (nI (cn 0))))), rfl, (Or.inr ⟨rfl, q59, u12, 10, ((In 13) + 1), mr_1, by omega, ⟨by omega, by omega⟩, rfl, rfl, rfl, rfl⟩), by rw [ht]; exact hP, hD⟩, hS.F ht⟩) hS.2.2 dX11_proof_88
              ·
                have hi9 : (wX cI (D.1 99) zz g ad cn In Fn)[27]? = _ := xl_3 hz0
                have hj9 : (wX cI (D.1 99) zz g ad cn In Fn)[_]? = _ := xf_16 (k := 0) (show 0 < min 1 (cn 13) by omega)
                obtain ⟨ws9, hp1, hp2⟩ := pickG (W := ((wX cI (D.1 99) zz g ad cn In Fn) ++ ([(q59, .inr (5, [.int v0, .int v1, .int v2, .int v3, .int (nI (cn 0))]))] : va_W))) (exl hi9) (exl hj9) (exr (m := 0) rfl) (xij (by decide)) (ne_ex hi9) (ne_ex hj9)
                have hP9 := va_P_perm hp1 hP
                have hD9 := va_D_perm hp1 hD
                have hFc := free_all hD9 hS hA
                refine va_calli (runV_xa (As := [.ref q59]) (rest := []) S (q_l_addGP l D cI cB cZ zz qq vv bt (cn 23) (g 13) (ad 2 3) (cn 13) q59 (In 13) (ad 13) v0 v1 v2 v3 (nI (cn 0)) ws9 H.size (by omega) (by omega) hz0 (by omega) (fun i hi => ⟨_, g_mem (hp1.mem_iff.mp (List.mem_of_getElem? (exl (xf_3 (k := i) hi)))) (by decide)⟩)) kV_RX11_110 hK hXS hS hFc hP9 hD9 0 rfl rfl rfl ⟨Nat.le_of_ble_eq_true rfl, Nat.le_of_ble_eq_true rfl⟩ ⟨Nat.le_of_ble_eq_true rfl, Nat.le_of_ble_eq_true rfl⟩ rfl hl.1 rfl (Nat.le_of_ble_eq_true rfl) dX11_proof_75) hS (fun q _ h => hFc q h) hFc (fun r12 u12 t H1 locs ht hvm h12 hB1 hz1 hk1 hS => ?_)
                obtain ⟨hP1, hD1⟩ := hB1
                rw [ht] at hP1
                obtain ⟨hr12, h12⟩ := h12
                obtain rfl : r12 = 1 := hr12
                obtain ⟨ua12, uc12⟩ := u12
                have hu12 : cn 13 < uc12 ∧ uc12 ≤ 100 := h12
                obtain ⟨hP, hD⟩ := addG_join hp2 hi9 hj9 hP1 hD1 hFc (xadd_3 (z := ua12) (c := uc12) (y := (In 13) + 1) (q := q59) (x0 := v0) (x1 := v1) (x2 := v2) (x3 := v3) (x4 := (nI (cn 0))) hz0)
                have hP : va_P D vwCl (wX cI (D.1 99) zz g (adP ad 13 (cn 13) q59 3 ua12) (va_up (va_up cn 13 ((cn 13) + 1)) 23 uc12) (va_up In 13 ((In 13) + 1)) (va_up (va_up (va_up (va_up (va_up Fn 160 (upd (Fn 160) (cn 13) v0)) 161 (upd (Fn 161) (cn 13) v1)) 162 (upd (Fn 162) (cn 13) v2)) 163 (upd (Fn 163) (cn 13) v3)) 164 (upd (Fn 164) (cn 13) (nI (cn 0))))) H1 := hP
                have hD : va_D A (wX cI (D.1 99) zz g (adP ad 13 (cn 13) q59 3 ua12) (va_up (va_up cn 13 ((cn 13) + 1)) 23 uc12) (va_up In 13 ((In 13) + 1)) (va_up (va_up (va_up (va_up (va_up Fn 160 (upd (Fn 160) (cn 13) v0)) 161 (upd (Fn 161) (cn 13) v1)) 162 (upd (Fn 162) (cn 13) v2)) 163 (upd (Fn 163) (cn 13) v3)) 164 (upd (Fn 164) (cn 13) (nI (cn 0))))) := hD
                generalize H1 = H at hP hS ⊢
                refine lv_pop hx hb dX11_proof_78 rfl ?_
                refine lv_aload_n hx hb dX11_proof_79 rfl (lvA1 hl) ?_
                refine gf_RX11_71 S hK hP 0 xo_0 (v := .ref (g 13)) rfl dX11_proof_80 ?_
                refine vp_callSi (runV_r (As := []) (rest := []) S (q_l_size l D cI cB cZ (g 13) (if ((cn 13) + 1) = 0 then zz else (adP ad 13 (cn 13) q59 3 ua12) 2 3) ((In 13) + 1) (nI ((cn 13) + 1))) kV_RX11_84 hK hP [27] (one_is xo_27) 27 xo_27 rfl rfl ⟨Nat.le_of_ble_eq_true rfl, Nat.le_of_ble_eq_true rfl⟩ ⟨Nat.le_of_ble_eq_true rfl, Nat.le_of_ble_eq_true rfl⟩ rfl hl.1 rfl (Nat.le_of_ble_eq_true rfl) dX11_proof_83) (fun r_17 h_18 => ?_)
                subst h_18
                refine lv_iconst (v := 1) hx hb dX11_proof_86 kic_1 ?_
                refine lv_isub hx hb dX11_proof_87 ?_
                refine lv_topi (fun y_19 ey_19 => ?_)
                obtain rfl : y_19 = (nI (cn 13)) := ey_19.trans (nI_sub (b := 1) (by omega))
                exact W.iret (v := (nI (cn 13))) hx hb hr (fun t ht hW => ⟨⟨(nI (cn 13)), ((adP ad 13 (cn 13) q59 3 ua12), (va_up (va_up cn 13 ((cn 13) + 1)) 23 uc12), (va_up In 13 ((In 13) + 1)), (va_up (va_up (va_up (va_up (va_up Fn 160 (upd (Fn 160) (cn 13) v0)) 161 (upd (Fn 161) (cn 13) v1)) 162 (upd (Fn 162) (cn 13) v2)) 163 (upd (Fn 163) (cn 13) v3)) 164 (upd (Fn 164) (cn 13) (nI (cn 0))))), rfl, (Or.inr ⟨rfl, q59, ua12, uc12, ((In 13) + 1), mr_1, by omega, ⟨by omega, by omega⟩, rfl, rfl, rfl, rfl⟩), by rw [ht]; exact hP, hD⟩, hS.F ht⟩) hS.2.2 dX11_proof_88
            ·
              have tc_10 : (40 : Int) ≤ (nI (cn 13)).toInt := Int32.le_iff_toInt_le.mp (Int32.not_lt.mp c_10)
              refine lv_iconst (v := (-1)) hx hb dX11_proof_53 kic_m1 ?_
              refine W.widen (k := 2) (n := 105) (Nat.le_of_ble_eq_true rfl) (Nat.le_of_ble_eq_true rfl) ?_
              exact W.iret (v := (-1)) hx hb hr (fun t ht hW => ⟨⟨(-1), (ad, cn, In, Fn), rfl, (Or.inl ⟨rfl, rfl, rfl, rfl, rfl⟩), by rw [ht]; exact hP, hD⟩, hS.F ht⟩) hS.2.2 dX11_proof_54
          ·
            have h_7 : ¬ (0 ≤ v3.toInt ∧ v3.toInt ≤ 9) := h_7
            refine lv_if_eq (tgt := 53) hx hb dX11_proof_38 rfl (fun _ => ?_) (fun h => absurd h cq_eq_0_0)
            refine lv_iconst (v := (-1)) hx hb dX11_proof_53 kic_m1 ?_
            refine W.widen (k := 2) (n := 105) (Nat.le_of_ble_eq_true rfl) (Nat.le_of_ble_eq_true rfl) ?_
            exact W.iret (v := (-1)) hx hb hr (fun t ht hW => ⟨⟨(-1), (ad, cn, In, Fn), rfl, (Or.inl ⟨rfl, rfl, rfl, rfl, rfl⟩), by rw [ht]; exact hP, hD⟩, hS.F ht⟩) hS.2.2 dX11_proof_54
  ·
    refine lv_astoreN (lv' := [(5, .null), (0, .ref (g 0)), (1, .int v0), (2, .int v1), (3, .int v2), (4, .int v3)]) hx hb dX11_proof_5 hl (ltb rfl) rfl (fun ls hl => ?_)
    refine lv_aloadN hx hb dX11_proof_7 (lvA0 hl) ?_
    refine lv_ifnullN (tgt := 53) hx hb dX11_proof_9 rfl ?_
    refine lv_iconst (v := (-1)) hx hb dX11_proof_53 kic_m1 ?_
    refine W.widen (k := 2) (n := 105) (Nat.le_of_ble_eq_true rfl) (Nat.le_of_ble_eq_true rfl) ?_
    exact W.iret (v := (-1)) hx hb hr (fun t ht hW => ⟨⟨(-1), (ad, cn, In, Fn), rfl, (Or.inl ⟨rfl, rfl, rfl, rfl, rfl⟩), by rw [ht]; exact hP, hD⟩, hS.F ht⟩) hS.2.2 dX11_proof_54
set_option maxRecDepth 100000 in
set_option maxHeartbeats 4000000 in
theorem q_Xfetch (l : Launch) (D : va_G) (cI cB cZ : ClassId) (zz qq vv : Nat) (bt : Nat → Int32) (g : Nat → Nat) (ad : Nat → Nat → Nat) (cn : Nat → Nat) (In : Nat → Int32) (Fn : Nat → Nat → Int32) (v0 v1 v2 v3 v4 v5 : Int32) (sz : Nat) (hB : CBX cn) : Met l yX11_fetch (CWS yX11_fetch cX11_fetch 9 (some .int)) (RM 8 2 110) (PBx [.ref (g 0), .int v0, .int v1, .int v2, .int v3, .int v4, .int v5] D cI cB cZ zz qq vv bt (wX cI (D.1 99) zz g ad cn In Fn) sz) (va_Qi (fun (r : Int32) (u : (Nat → Nat → Nat) × (Nat → Nat) × (Nat → Int32) × (Nat → Nat → Int32)) => (fun r a2 c2 I2 F2 => (r = (-1) ∧ ad = a2 ∧ cn = c2 ∧ In = I2 ∧ Fn = F2) ∨ (r = nI (cn 11) ∧ ∃ (q z c : Nat) (y : Int32) (m : Nat), (v0.toInt = (m : Int) ∧ m < cn 10 ∧ (Fn 104 m).toInt ≤ v1.toInt ∧ v1.toInt ≤ (cn 0 : Int) ∧ v1.toInt ≤ v5.toInt ∧ v5.toInt ≤ 399 ∧ 0 ≤ v2.toInt ∧ v2.toInt ≤ 400 ∧ 0 ≤ v3.toInt ∧ v3.toInt ≤ 1000 ∧ 0 ≤ v4.toInt ∧ v4.toInt ≤ 1000 ∧ cn 11 < 60) ∧ (cn 11 < c ∧ c ≤ 100) ∧ (adP ad 11 (cn 11) q 1 z) = a2 ∧ (va_up (va_up cn 11 ((cn 11) + 1)) 21 c) = c2 ∧ (va_up In 11 y) = I2 ∧ (va_up (va_up (va_up (va_up (va_up (va_up (va_up (va_up (va_up (va_up (va_up (va_up (va_up Fn 104 (upd (Fn 104) m v1)) 106 (upd (Fn 106) m (Fn 106 m + v2))) 29 (putM (Fn 29) 400 v1 (atM (Fn 29) 400 v1 + v2))) 120 (upd ((va_up (va_up (va_up Fn 104 (upd (Fn 104) m v1)) 106 (upd (Fn 106) m (Fn 106 m + v2))) 29 (putM (Fn 29) 400 v1 (atM (Fn 29) 400 v1 + v2))) 120) (cn 11) v0)) 121 (upd ((va_up (va_up (va_up Fn 104 (upd (Fn 104) m v1)) 106 (upd (Fn 106) m (Fn 106 m + v2))) 29 (putM (Fn 29) 400 v1 (atM (Fn 29) 400 v1 + v2))) 121) (cn 11) v1)) 122 (upd ((va_up (va_up (va_up Fn 104 (upd (Fn 104) m v1)) 106 (upd (Fn 106) m (Fn 106 m + v2))) 29 (putM (Fn 29) 400 v1 (atM (Fn 29) 400 v1 + v2))) 122) (cn 11) v2)) 123 (upd ((va_up (va_up (va_up Fn 104 (upd (Fn 104) m v1)) 106 (upd (Fn 106) m (Fn 106 m + v2))) 29 (putM (Fn 29) 400 v1 (atM (Fn 29) 400 v1 + v2))) 123) (cn 11) v3)) 124 (upd ((va_up (va_up (va_up Fn 104 (upd (Fn 104) m v1)) 106 (upd (Fn 106) m (Fn 106 m + v2))) 29 (putM (Fn 29) 400 v1 (atM (Fn 29) 400 v1 + v2))) 124) (cn 11) v4)) 125 (upd ((va_up (va_up (va_up Fn 104 (upd (Fn 104) m v1)) 106 (upd (Fn 106) m (Fn 106 m + v2))) 29 (putM (Fn 29) 400 v1 (atM (Fn 29) 400 v1 + v2))) 125) (cn 11) v5)) 126 (upd ((va_up (va_up (va_up Fn 104 (upd (Fn 104) m v1)) 106 (upd (Fn 106) m (Fn 106 m + v2))) 29 (putM (Fn 29) 400 v1 (atM (Fn 29) 400 v1 + v2))) 126) (cn 11) (Fn 104 m))) 127 (upd ((va_up (va_up (va_up Fn 104 (upd (Fn 104) m v1)) 106 (upd (Fn 106) m (Fn 106 m + v2))) 29 (putM (Fn 29) 400 v1 (atM (Fn 29) 400 v1 + v2))) 127) (cn 11) (Fn 106 m))) 128 (upd ((va_up (va_up (va_up Fn 104 (upd (Fn 104) m v1)) 106 (upd (Fn 106) m (Fn 106 m + v2))) 29 (putM (Fn 29) 400 v1 (atM (Fn 29) 400 v1 + v2))) 128) (cn 11) (if 0 < ((if (Fn 102 m * (v1 - Fn 104 m)) < Fn 103 m then Fn 102 m * (v1 - Fn 104 m) else Fn 103 m) - v2) - (if (Fn 102 m * (v1 - Fn 104 m)) < Fn 103 m then Fn 102 m * (v1 - Fn 104 m) else Fn 103 m) / 10 then ((if (Fn 102 m * (v1 - Fn 104 m)) < Fn 103 m then Fn 102 m * (v1 - Fn 104 m) else Fn 103 m) - v2) - (if (Fn 102 m * (v1 - Fn 104 m)) < Fn 103 m then Fn 102 m * (v1 - Fn 104 m) else Fn 103 m) / 10 else 0))) 129 (upd ((va_up (va_up (va_up Fn 104 (upd (Fn 104) m v1)) 106 (upd (Fn 106) m (Fn 106 m + v2))) 29 (putM (Fn 29) 400 v1 (atM (Fn 29) 400 v1 + v2))) 129) (cn 11) 0)) = F2)) r u.1 u.2.1 u.2.2.1 u.2.2.2) (fun (u : (Nat → Nat → Nat) × (Nat → Nat) × (Nat → Int32) × (Nat → Nat → Int32)) (t : State) => va_P D vwCl (wX cI (D.1 99) zz g u.1 u.2.1 u.2.2.1 u.2.2.2) t.heap ∧ va_D (va_A (wX cI (D.1 99) zz g ad cn In Fn) sz) (wX cI (D.1 99) zz g u.1 u.2.1 u.2.2.1 u.2.2.2)) (va_A (wX cI (D.1 99) zz g ad cn In Fn) sz)) 2 110 (va_A (wX cI (D.1 99) zz g ad cn In Fn) sz) := by
  refine en_x (fun A => (va_Qi (fun (r : Int32) (u : (Nat → Nat → Nat) × (Nat → Nat) × (Nat → Int32) × (Nat → Nat → Int32)) => (fun (r : Int32) (a2 : Nat → Nat → Nat) (c2 : Nat → Nat) (I2 : Nat → Int32) (F2 : Nat → Nat → Int32) => (r = (-1) ∧ ad = a2 ∧ cn = c2 ∧ In = I2 ∧ Fn = F2) ∨ (r = nI (cn 11) ∧ ∃ (q z c : Nat) (y : Int32) (m : Nat), (v0.toInt = (m : Int) ∧ m < cn 10 ∧ (Fn 104 m).toInt ≤ v1.toInt ∧ v1.toInt ≤ (cn 0 : Int) ∧ v1.toInt ≤ v5.toInt ∧ v5.toInt ≤ 399 ∧ 0 ≤ v2.toInt ∧ v2.toInt ≤ 400 ∧ 0 ≤ v3.toInt ∧ v3.toInt ≤ 1000 ∧ 0 ≤ v4.toInt ∧ v4.toInt ≤ 1000 ∧ cn 11 < 60) ∧ (cn 11 < c ∧ c ≤ 100) ∧ (adP ad 11 (cn 11) q 1 z) = a2 ∧ (va_up (va_up cn 11 ((cn 11) + 1)) 21 c) = c2 ∧ (va_up In 11 y) = I2 ∧ (va_up (va_up (va_up (va_up (va_up (va_up (va_up (va_up (va_up (va_up (va_up (va_up (va_up Fn 104 (upd (Fn 104) m v1)) 106 (upd (Fn 106) m (Fn 106 m + v2))) 29 (putM (Fn 29) 400 v1 (atM (Fn 29) 400 v1 + v2))) 120 (upd ((va_up (va_up (va_up Fn 104 (upd (Fn 104) m v1)) 106 (upd (Fn 106) m (Fn 106 m + v2))) 29 (putM (Fn 29) 400 v1 (atM (Fn 29) 400 v1 + v2))) 120) (cn 11) v0)) 121 (upd ((va_up (va_up (va_up Fn 104 (upd (Fn 104) m v1)) 106 (upd (Fn 106) m (Fn 106 m + v2))) 29 (putM (Fn 29) 400 v1 (atM (Fn 29) 400 v1 + v2))) 121) (cn 11) v1)) 122 (upd ((va_up (va_up (va_up Fn 104 (upd (Fn 104) m v1)) 106 (upd (Fn 106) m (Fn 106 m + v2))) 29 (putM (Fn 29) 400 v1 (atM (Fn 29) 400 v1 + v2))) 122) (cn 11) v2)) 123 (upd ((va_up (va_up (va_up Fn 104 (upd (Fn 104) m v1)) 106 (upd (Fn 106) m (Fn 106 m + v2))) 29 (putM (Fn 29) 400 v1 (atM (Fn 29) 400 v1 + v2))) 123) (cn 11) v3)) 124 (upd ((va_up (va_up (va_up Fn 104 (upd (Fn 104) m v1)) 106 (upd (Fn 106) m (Fn 106 m + v2))) 29 (putM (Fn 29) 400 v1 (atM (Fn 29) 400 v1 + v2))) 124) (cn 11) v4)) 125 (upd ((va_up (va_up (va_up Fn 104 (upd (Fn 104) m v1)) 106 (upd (Fn 106) m (Fn 106 m + v2))) 29 (putM (Fn 29) 400 v1 (atM (Fn 29) 400 v1 + v2))) 125) (cn 11) v5)) 126 (upd ((va_up (va_up (va_up Fn 104 (upd (Fn 104) m v1)) 106 (upd (Fn 106) m (Fn 106 m + v2))) 29 (putM (Fn 29) 400 v1 (atM (Fn 29) 400 v1 + v2))) 126) (cn 11) (Fn 104 m))) 127 (upd ((va_up (va_up (va_up Fn 104 (upd (Fn 104) m v1)) 106 (upd (Fn 106) m (Fn 106 m + v2))) 29 (putM (Fn 29) 400 v1 (atM (Fn 29) 400 v1 + v2))) 127) (cn 11) (Fn 106 m))) 128 (upd ((va_up (va_up (va_up Fn 104 (upd (Fn 104) m v1)) 106 (upd (Fn 106) m (Fn 106 m + v2))) 29 (putM (Fn 29) 400 v1 (atM (Fn 29) 400 v1 + v2))) 128) (cn 11) (if 0 < ((if (Fn 102 m * (v1 - Fn 104 m)) < Fn 103 m then Fn 102 m * (v1 - Fn 104 m) else Fn 103 m) - v2) - (if (Fn 102 m * (v1 - Fn 104 m)) < Fn 103 m then Fn 102 m * (v1 - Fn 104 m) else Fn 103 m) / 10 then ((if (Fn 102 m * (v1 - Fn 104 m)) < Fn 103 m then Fn 102 m * (v1 - Fn 104 m) else Fn 103 m) - v2) - (if (Fn 102 m * (v1 - Fn 104 m)) < Fn 103 m then Fn 102 m * (v1 - Fn 104 m) else Fn 103 m) / 10 else 0))) 129 (upd ((va_up (va_up (va_up Fn 104 (upd (Fn 104) m v1)) 106 (upd (Fn 106) m (Fn 106 m + v2))) 29 (putM (Fn 29) 400 v1 (atM (Fn 29) 400 v1 + v2))) 129) (cn 11) 0)) = F2)) r u.1 u.2.1 u.2.2.1 u.2.2.2) (fun (u : (Nat → Nat → Nat) × (Nat → Nat) × (Nat → Int32) × (Nat → Nat → Int32)) (t : State) => va_P D vwCl (wX cI (D.1 99) zz g u.1 u.2.1 u.2.2.1 u.2.2.2) t.heap ∧ va_D A (wX cI (D.1 99) zz g u.1 u.2.1 u.2.2.1 u.2.2.2)) A)) rfl rfl pn_RX11 (Nat.le_of_ble_eq_true rfl) (fun p e s m below meth c A hx hb hml hown S hr hlocks hnm hA hP hK hD hXS hS ls hl => ?_)
  have hl : lv_has ls 9 [(0, .ref (g 0)), (1, .int v0), (2, .int v1), (3, .int v2), (4, .int v3), (5, .int v4), (6, .int v5)] := hl
  refine lv_aload_n hx hb dX11_fetch_0 rfl (lvA0 hl) ?_
  refine lv_iload_n hx hb dX11_fetch_1 rfl (lvA1 hl) ?_
  refine va_csq (runV_rxa (As := [.int v0]) (rest := []) S (q_XkitchenAt l D cI cB cZ zz qq vv bt g ad cn In Fn v0 hB) kV_RX11_114 hK hXS hS hP 0 xo_0 rfl rfl ⟨Nat.le_of_ble_eq_true rfl, Nat.le_of_ble_eq_true rfl⟩ ⟨Nat.le_of_ble_eq_true rfl, Nat.le_of_ble_eq_true rfl⟩ rfl hl.1 rfl (Nat.le_of_ble_eq_true rfl) dX11_fetch_2) (fun r_1 h_2 => ?_)
  rcases h_2 with ⟨mr_1, er_1, hr_1, rfl⟩ | ⟨hr_1, rfl⟩
  ·
    refine lv_astore (lv' := [(7, .ref (ad 10 mr_1)), (0, .ref (g 0)), (1, .int v0), (2, .int v1), (3, .int v2), (4, .int v3), (5, .int v4), (6, .int v5)]) hx hb dX11_fetch_5 hl (ltb rfl) rfl (fun ls hl => ?_)
    refine lv_aload hx hb dX11_fetch_7 (lvA0 hl) ?_
    refine lv_ifnull hx hb dX11_fetch_9 ?_
    refine lv_aload_n hx hb dX11_fetch_12 rfl (lvA1 hl) ?_
    refine gf_RX11_65 S hK hP 0 xo_0 (v := .ref (g 11)) rfl dX11_fetch_13 ?_
    refine vp_callSi (runV_r (As := []) (rest := []) S (q_l_size l D cI cB cZ (g 11) (if (cn 11) = 0 then zz else ad 2 1) (In 11) (nI (cn 11))) kV_RX11_84 hK hP [25] (one_is xo_25) 25 xo_25 rfl rfl ⟨Nat.le_of_ble_eq_true rfl, Nat.le_of_ble_eq_true rfl⟩ ⟨Nat.le_of_ble_eq_true rfl, Nat.le_of_ble_eq_true rfl⟩ rfl hl.1 rfl (Nat.le_of_ble_eq_true rfl) dX11_fetch_16) (fun r_3 h_4 => ?_)
    subst h_4
    refine lv_bipush (v := 60) hx hb dX11_fetch_19 kbc_60 ?_
    have : (nI (cn 11)).toInt = (((cn 11) : Nat) : Int) := nI_toInt (by omega)
    refine lv_icmp_ge (tgt := 87) hx hb dX11_fetch_21 rfl (fun c_5 => ?_) (fun c_5 => ?_)
    ·
      have tc_5 : (60 : Int) ≤ (nI (cn 11)).toInt := Int32.le_iff_toInt_le.mp c_5
      refine lv_iconst (v := (-1)) hx hb dX11_fetch_87 kic_m1 ?_
      refine W.widen (k := 2) (n := 110) (Nat.le_of_ble_eq_true rfl) (Nat.le_of_ble_eq_true rfl) ?_
      exact W.iret (v := (-1)) hx hb hr (fun t ht hW => ⟨⟨(-1), (ad, cn, In, Fn), rfl, (Or.inl ⟨rfl, rfl, rfl, rfl, rfl⟩), by rw [ht]; exact hP, hD⟩, hS.F ht⟩) hS.2.2 dX11_fetch_88
    ·
      have tc_5 : ((nI (cn 11)).toInt : Int) < 60 := Int32.lt_iff_toInt_lt.mp (Int32.not_le.mp c_5)
      refine lv_iload_n hx hb dX11_fetch_24 rfl (lvA3 hl) ?_
      refine lv_aload hx hb dX11_fetch_25 (lvA0 hl) ?_
      refine gf_RX11_118 S hK hP _ (xf_0 (by omega)) (v := .int ((Fn 104) mr_1)) rfl dX11_fetch_27 ?_
      refine lv_aload_n hx hb dX11_fetch_30 rfl (lvA1 hl) ?_
      refine gf_RX11_103 S hK hP 0 xo_0 (v := .int (nI (cn 0))) rfl dX11_fetch_31 ?_
      refine vp_callSi (runS_r (As := [.int v1, .int ((Fn 104) mr_1), .int (nI (cn 0))]) (rest := []) S (q_l_within l D cI cB cZ v1 ((Fn 104) mr_1) (nI (cn 0))) kS_RX11_80 hK hP [] rfl ⟨Nat.le_of_ble_eq_true rfl, Nat.le_of_ble_eq_true rfl⟩ ⟨Nat.le_of_ble_eq_true rfl, Nat.le_of_ble_eq_true rfl⟩ rfl hl.1 rfl (Nat.le_of_ble_eq_true rfl) dX11_fetch_34) (fun r_6 h_7 => ?_)
      have : (nI (cn 0)).toInt = (((cn 0) : Nat) : Int) := nI_toInt (by omega)
      rcases h_7 with ⟨rfl, h_7⟩ | ⟨rfl, h_7⟩
      ·
        have h_7 : ((Fn 104) mr_1).toInt ≤ v1.toInt ∧ v1.toInt ≤ (nI (cn 0)).toInt := h_7
        refine lv_if_eq (tgt := 87) hx hb dX11_fetch_37 rfl (fun h => absurd h cq_eq_1_0) (fun _ => ?_)
        refine lv_iload hx hb dX11_fetch_40 (lvA7 hl) ?_
        refine lv_iload_n hx hb dX11_fetch_42 rfl (lvA3 hl) ?_
        refine lv_sipush (v := 399) hx hb dX11_fetch_43 (by decide) ?_
        refine vp_callSi (runS_r (As := [.int v5, .int v1, .int 399]) (rest := []) S (q_l_within l D cI cB cZ v5 v1 399) kS_RX11_80 hK hP [] rfl ⟨Nat.le_of_ble_eq_true rfl, Nat.le_of_ble_eq_true rfl⟩ ⟨Nat.le_of_ble_eq_true rfl, Nat.le_of_ble_eq_true rfl⟩ rfl hl.1 rfl (Nat.le_of_ble_eq_true rfl) dX11_fetch_46) (fun r_8 h_9 => ?_)
        rcases h_9 with ⟨rfl, h_9⟩ | ⟨rfl, h_9⟩
        ·
          have h_9 : v1.toInt ≤ v5.toInt ∧ v5.toInt ≤ 399 := h_9
          refine lv_if_eq (tgt := 87) hx hb dX11_fetch_49 rfl (fun h => absurd h cq_eq_1_0) (fun _ => ?_)
          refine lv_iload_n hx hb dX11_fetch_52 rfl (lvA4 hl) ?_
          refine lv_iconst (v := 0) hx hb dX11_fetch_53 kic_0 ?_
          refine lv_sipush (v := 400) hx hb dX11_fetch_54 (by decide) ?_
          refine vp_callSi (runS_r (As := [.int v2, .int 0, .int 400]) (rest := []) S (q_l_within l D cI cB cZ v2 0 400) kS_RX11_80 hK hP [] rfl ⟨Nat.le_of_ble_eq_true rfl, Nat.le_of_ble_eq_true rfl⟩ ⟨Nat.le_of_ble_eq_true rfl, Nat.le_of_ble_eq_true rfl⟩ rfl hl.1 rfl (Nat.le_of_ble_eq_true rfl) dX11_fetch_57) (fun r_10 h_11 => ?_)
          rcases h_11 with ⟨rfl, h_11⟩ | ⟨rfl, h_11⟩
          ·
            have h_11 : 0 ≤ v2.toInt ∧ v2.toInt ≤ 400 := h_11
            refine lv_if_eq (tgt := 87) hx hb dX11_fetch_60 rfl (fun h => absurd h cq_eq_1_0) (fun _ => ?_)
            refine lv_iload hx hb dX11_fetch_63 (lvA5 hl) ?_
            refine lv_iconst (v := 0) hx hb dX11_fetch_65 kic_0 ?_
            refine lv_sipush (v := 1000) hx hb dX11_fetch_66 (by decide) ?_
            refine vp_callSi (runS_r (As := [.int v3, .int 0, .int 1000]) (rest := []) S (q_l_within l D cI cB cZ v3 0 1000) kS_RX11_80 hK hP [] rfl ⟨Nat.le_of_ble_eq_true rfl, Nat.le_of_ble_eq_true rfl⟩ ⟨Nat.le_of_ble_eq_true rfl, Nat.le_of_ble_eq_true rfl⟩ rfl hl.1 rfl (Nat.le_of_ble_eq_true rfl) dX11_fetch_69) (fun r_12 h_13 => ?_)
            rcases h_13 with ⟨rfl, h_13⟩ | ⟨rfl, h_13⟩
            ·
              have h_13 : 0 ≤ v3.toInt ∧ v3.toInt ≤ 1000 := h_13
              refine lv_if_eq (tgt := 87) hx hb dX11_fetch_72 rfl (fun h => absurd h cq_eq_1_0) (fun _ => ?_)
              refine lv_iload hx hb dX11_fetch_75 (lvA6 hl) ?_
              refine lv_iconst (v := 0) hx hb dX11_fetch_77 kic_0 ?_
              refine lv_sipush (v := 1000) hx hb dX11_fetch_78 (by decide) ?_
              refine vp_callSi (runS_r (As := [.int v4, .int 0, .int 1000]) (rest := []) S (q_l_within l D cI cB cZ v4 0 1000) kS_RX11_80 hK hP [] rfl ⟨Nat.le_of_ble_eq_true rfl, Nat.le_of_ble_eq_true rfl⟩ ⟨Nat.le_of_ble_eq_true rfl, Nat.le_of_ble_eq_true rfl⟩ rfl hl.1 rfl (Nat.le_of_ble_eq_true rfl) dX11_fetch_81) (fun r_14 h_15 => ?_)
              rcases h_15 with ⟨rfl, h_15⟩ | ⟨rfl, h_15⟩
              ·
                have h_15 : 0 ≤ v4.toInt ∧ v4.toInt ≤ 1000 := h_15
                refine lv_if_ne (tgt := 89) hx hb dX11_fetch_84 rfl (fun _ => ?_) (fun h => absurd h cq_eq_1_0)
                refine va_new (ci := 3) (fs := [.int 0, .int 0, .int 0, .int 0, .int 0, .int 0, .int 0, .int 0, .int 0, .int 0]) (C := RX2) (T := TX2) (N := 10) hx hb S.2.2.2.2 hin_RX2 tyX2 tyX2_ok hown (S.2.2.2.2 _ (wk2_17 0 rfl rfl)) (S.2.2.2.2 _ (wk2_17 1 rfl rfl)) (S.2.2.2.2 _ (wk1_1 7 rfl rfl)) hK.1 hP hD hS hA rfl (by decide +kernel) (Nat.le_of_ble_eq_true rfl) (Nat.le_of_ble_eq_true rfl) dX11_fetch_89 (fun q89 H hP hD hS => ?_)
                have hP : va_P D vwCl ((wX cI (D.1 99) zz g ad cn In Fn) ++ ([(q89, .inr (3, [.int 0, .int 0, .int 0, .int 0, .int 0, .int 0, .int 0, .int 0, .int 0, .int 0]))] : va_W)) H := hP
                have hD : va_D A ((wX cI (D.1 99) zz g ad cn In Fn) ++ ([(q89, .inr (3, [.int 0, .int 0, .int 0, .int 0, .int 0, .int 0, .int 0, .int 0, .int 0, .int 0]))] : va_W)) := hD
                refine lv_dup hx hb dX11_fetch_92 rfl ?_
                refine lv_iload_n hx hb dX11_fetch_93 rfl (lvA2 hl) ?_
                refine lv_iload_n hx hb dX11_fetch_94 rfl (lvA3 hl) ?_
                refine lv_iload_n hx hb dX11_fetch_95 rfl (lvA4 hl) ?_
                refine lv_iload hx hb dX11_fetch_96 (lvA5 hl) ?_
                refine lv_iload hx hb dX11_fetch_98 (lvA6 hl) ?_
                refine lv_iload hx hb dX11_fetch_100 (lvA7 hl) ?_
                have hFc := va_free (wc := [(q89, .inr (3, [.int 0, .int 0, .int 0, .int 0, .int 0, .int 0, .int 0, .int 0, .int 0, .int 0]))]) hD hS hA [_] (one_im (exr (m := 0) rfl))
                refine va_callv (runI_w (As := [.int v0, .int v1, .int v2, .int v3, .int v4, .int v5]) (rest := [.ref q89]) S (q_l_Load l D cI cB cZ q89 v0 v1 v2 v3 v4 v5 H.size) kI_RX11_125 hK hP hD [_] (one_is (exr (m := 0) rfl)) (one_im (exr (m := 0) rfl)) rfl ⟨Nat.le_of_ble_eq_true rfl, Nat.le_of_ble_eq_true rfl⟩ ⟨Nat.le_of_ble_eq_true rfl, Nat.le_of_ble_eq_true rfl⟩ rfl hl.1 rfl (Nat.le_of_ble_eq_true rfl) dX11_fetch_102) hS (fun q _ h => hFc q h) hFc (fun u_16 t H1 locs ht hvm h_17 hB1 hz1 hk1 hS => ?_)
                obtain ⟨hP1, hD1⟩ := hB1
                rw [ht] at hP1
                obtain ⟨hP, hD⟩ := exjoin hP hD hk1 hFc hP1 hD1
                generalize H1 = H at hP hS ⊢
                have hP : va_P D vwCl ((wX cI (D.1 99) zz g ad cn In Fn) ++ ([(q89, .inr (3, [.int v0, .int v1, .int v2, .int v3, .int v4, .int v5, .int 0, .int 0, .int 0, .int 0]))] : va_W)) H := hP
                have hD : va_D A ((wX cI (D.1 99) zz g ad cn In Fn) ++ ([(q89, .inr (3, [.int v0, .int v1, .int v2, .int v3, .int v4, .int v5, .int 0, .int 0, .int 0, .int 0]))] : va_W)) := hD
                refine lv_astore (lv' := [(8, .ref q89), (7, .ref (ad 10 mr_1)), (0, .ref (g 0)), (1, .int v0), (2, .int v1), (3, .int v2), (4, .int v3), (5, .int v4), (6, .int v5)]) hx hb dX11_fetch_105 hl (ltb rfl) rfl (fun ls hl => ?_)
                refine lv_aload hx hb dX11_fetch_107 (lvA0 hl) ?_
                refine lv_aload hx hb dX11_fetch_109 (lvA1 hl) ?_
                refine gf_RX11_118 S hK hP _ (exl (xf_0 (by omega))) (v := .int ((Fn 104) mr_1)) rfl dX11_fetch_111 ?_
                refine pf_RX11_128 S hK hP hD hS _ (exr (m := 0) rfl) (v := .int ((Fn 104) mr_1)) (Nat.le_of_ble_eq_true rfl) rfl rfl dX11_fetch_114 (fun H locs hP hD hS => ?_)
                have hP : va_P D vwCl ((wX cI (D.1 99) zz g ad cn In Fn) ++ ([(q89, .inr (3, [.int v0, .int v1, .int v2, .int v3, .int v4, .int v5, .int ((Fn 104) mr_1), .int 0, .int 0, .int 0]))] : va_W)) H := va_P_eq (exs_r rfl) hP
                have hD : va_D A ((wX cI (D.1 99) zz g ad cn In Fn) ++ ([(q89, .inr (3, [.int v0, .int v1, .int v2, .int v3, .int v4, .int v5, .int ((Fn 104) mr_1), .int 0, .int 0, .int 0]))] : va_W)) := va_D_eq (exs_r rfl) hD
                refine lv_aload hx hb dX11_fetch_117 (lvA0 hl) ?_
                refine lv_aload hx hb dX11_fetch_119 (lvA1 hl) ?_
                refine gf_RX11_131 S hK hP _ (exl (xf_0 (by omega))) (v := .int ((Fn 106) mr_1)) rfl dX11_fetch_121 ?_
                refine pf_RX11_134 S hK hP hD hS _ (exr (m := 0) rfl) (v := .int ((Fn 106) mr_1)) (Nat.le_of_ble_eq_true rfl) rfl rfl dX11_fetch_124 (fun H locs hP hD hS => ?_)
                have hP : va_P D vwCl ((wX cI (D.1 99) zz g ad cn In Fn) ++ ([(q89, .inr (3, [.int v0, .int v1, .int v2, .int v3, .int v4, .int v5, .int ((Fn 104) mr_1), .int ((Fn 106) mr_1), .int 0, .int 0]))] : va_W)) H := va_P_eq (exs_r rfl) hP
                have hD : va_D A ((wX cI (D.1 99) zz g ad cn In Fn) ++ ([(q89, .inr (3, [.int v0, .int v1, .int v2, .int v3, .int v4, .int v5, .int ((Fn 104) mr_1), .int ((Fn 106) mr_1), .int 0, .int 0]))] : va_W)) := va_D_eq (exs_r rfl) hD
                refine lv_aload hx hb dX11_fetch_127 (lvA0 hl) ?_
                refine lv_aload hx hb dX11_fetch_129 (lvA0 hl) ?_
                refine lv_aload hx hb dX11_fetch_131 (lvA1 hl) ?_
                refine lv_iload_n hx hb dX11_fetch_133 rfl (lvA4 hl) ?_
                refine lv_aload hx hb dX11_fetch_134 (lvA1 hl) ?_
                refine gf_RX11_118 S hK hP _ (exl (xf_0 (by omega))) (v := .int ((Fn 104) mr_1)) rfl dX11_fetch_136 ?_
                refine vp_callSi (runV_rxa (As := [.int v1, .int ((Fn 104) mr_1)]) (rest := [.ref q89, .ref q89]) S (q_XfillOn l D cI cB cZ zz qq vv bt g ad cn In Fn mr_1 v1 ((Fn 104) mr_1) hB (by omega)) kV_RX11_121 hK hXS hS (exP hP) _ (xf_0 (by omega)) rfl rfl ⟨Nat.le_of_ble_eq_true rfl, Nat.le_of_ble_eq_true rfl⟩ ⟨Nat.le_of_ble_eq_true rfl, Nat.le_of_ble_eq_true rfl⟩ rfl hl.1 rfl (Nat.le_of_ble_eq_true rfl) dX11_fetch_139) (fun r_18 h_19 => ?_)
                subst h_19
                refine vp_callSi (runV_r (As := [.int ((if ((Fn 102) mr_1 * (v1 - ((Fn 104) mr_1))) < (Fn 103) mr_1 then (Fn 102) mr_1 * (v1 - ((Fn 104) mr_1)) else (Fn 103) mr_1))]) (rest := [.ref q89]) S (q_l_shortOf l D cI cB cZ q89 v0 v1 v2 v3 v4 v5 ((Fn 104) mr_1) ((Fn 106) mr_1) 0 0 ((if ((Fn 102) mr_1 * (v1 - ((Fn 104) mr_1))) < (Fn 103) mr_1 then (Fn 102) mr_1 * (v1 - ((Fn 104) mr_1)) else (Fn 103) mr_1))) kV_RX11_137 hK hP _ (one_is (exr (m := 0) rfl)) _ (exr (m := 0) rfl) rfl rfl ⟨Nat.le_of_ble_eq_true rfl, Nat.le_of_ble_eq_true rfl⟩ ⟨Nat.le_of_ble_eq_true rfl, Nat.le_of_ble_eq_true rfl⟩ rfl hl.1 rfl (Nat.le_of_ble_eq_true rfl) dX11_fetch_142) (fun r_20 h_21 => ?_)
                subst h_21
                refine pf_RX11_141 S hK hP hD hS _ (exr (m := 0) rfl) (v := .int (if 0 < (((if ((Fn 102) mr_1 * (v1 - ((Fn 104) mr_1))) < (Fn 103) mr_1 then (Fn 102) mr_1 * (v1 - ((Fn 104) mr_1)) else (Fn 103) mr_1)) - v2) - ((if ((Fn 102) mr_1 * (v1 - ((Fn 104) mr_1))) < (Fn 103) mr_1 then (Fn 102) mr_1 * (v1 - ((Fn 104) mr_1)) else (Fn 103) mr_1)) / 10 then (((if ((Fn 102) mr_1 * (v1 - ((Fn 104) mr_1))) < (Fn 103) mr_1 then (Fn 102) mr_1 * (v1 - ((Fn 104) mr_1)) else (Fn 103) mr_1)) - v2) - ((if ((Fn 102) mr_1 * (v1 - ((Fn 104) mr_1))) < (Fn 103) mr_1 then (Fn 102) mr_1 * (v1 - ((Fn 104) mr_1)) else (Fn 103) mr_1)) / 10 else 0)) (Nat.le_of_ble_eq_true rfl) rfl rfl dX11_fetch_145 (fun H locs hP hD hS => ?_)
                have hP : va_P D vwCl ((wX cI (D.1 99) zz g ad cn In Fn) ++ ([(q89, .inr (3, [.int v0, .int v1, .int v2, .int v3, .int v4, .int v5, .int ((Fn 104) mr_1), .int ((Fn 106) mr_1), .int (if 0 < (((if ((Fn 102) mr_1 * (v1 - ((Fn 104) mr_1))) < (Fn 103) mr_1 then (Fn 102) mr_1 * (v1 - ((Fn 104) mr_1)) else (Fn 103) mr_1)) - v2) - ((if ((Fn 102) mr_1 * (v1 - ((Fn 104) mr_1))) < (Fn 103) mr_1 then (Fn 102) mr_1 * (v1 - ((Fn 104) mr_1)) else (Fn 103) mr_1)) / 10 then (((if ((Fn 102) mr_1 * (v1 - ((Fn 104) mr_1))) < (Fn 103) mr_1 then (Fn 102) mr_1 * (v1 - ((Fn 104) mr_1)) else (Fn 103) mr_1)) - v2) - ((if ((Fn 102) mr_1 * (v1 - ((Fn 104) mr_1))) < (Fn 103) mr_1 then (Fn 102) mr_1 * (v1 - ((Fn 104) mr_1)) else (Fn 103) mr_1)) / 10 else 0), .int 0]))] : va_W)) H := va_P_eq (exs_r rfl) hP
                have hD : va_D A ((wX cI (D.1 99) zz g ad cn In Fn) ++ ([(q89, .inr (3, [.int v0, .int v1, .int v2, .int v3, .int v4, .int v5, .int ((Fn 104) mr_1), .int ((Fn 106) mr_1), .int (if 0 < (((if ((Fn 102) mr_1 * (v1 - ((Fn 104) mr_1))) < (Fn 103) mr_1 then (Fn 102) mr_1 * (v1 - ((Fn 104) mr_1)) else (Fn 103) mr_1)) - v2) - ((if ((Fn 102) mr_1 * (v1 - ((Fn 104) mr_1))) < (Fn 103) mr_1 then (Fn 102) mr_1 * (v1 - ((Fn 104) mr_1)) else (Fn 103) mr_1)) / 10 then (((if ((Fn 102) mr_1 * (v1 - ((Fn 104) mr_1))) < (Fn 103) mr_1 then (Fn 102) mr_1 * (v1 - ((Fn 104) mr_1)) else (Fn 103) mr_1)) - v2) - ((if ((Fn 102) mr_1 * (v1 - ((Fn 104) mr_1))) < (Fn 103) mr_1 then (Fn 102) mr_1 * (v1 - ((Fn 104) mr_1)) else (Fn 103) mr_1)) / 10 else 0), .int 0]))] : va_W)) := va_D_eq (exs_r rfl) hD
                refine lv_aload hx hb dX11_fetch_148 (lvA1 hl) ?_
                refine lv_iload_n hx hb dX11_fetch_150 rfl (lvA4 hl) ?_
                refine pf_RX11_118 S hK hP hD hS _ (exl (xf_0 (by omega))) (v := .int v1) (Nat.le_of_ble_eq_true rfl) rfl rfl dX11_fetch_151 (fun H locs hP hD hS => ?_)
                have hP : va_P D vwCl ((wX cI (D.1 99) zz g ad cn In (va_up Fn 104 (upd (Fn 104) mr_1 v1))) ++ ([(q89, .inr (3, [.int v0, .int v1, .int v2, .int v3, .int v4, .int v5, .int ((Fn 104) mr_1), .int ((Fn 106) mr_1), .int (if 0 < (((if ((Fn 102) mr_1 * (v1 - ((Fn 104) mr_1))) < (Fn 103) mr_1 then (Fn 102) mr_1 * (v1 - ((Fn 104) mr_1)) else (Fn 103) mr_1)) - v2) - ((if ((Fn 102) mr_1 * (v1 - ((Fn 104) mr_1))) < (Fn 103) mr_1 then (Fn 102) mr_1 * (v1 - ((Fn 104) mr_1)) else (Fn 103) mr_1)) / 10 then (((if ((Fn 102) mr_1 * (v1 - ((Fn 104) mr_1))) < (Fn 103) mr_1 then (Fn 102) mr_1 * (v1 - ((Fn 104) mr_1)) else (Fn 103) mr_1)) - v2) - ((if ((Fn 102) mr_1 * (v1 - ((Fn 104) mr_1))) < (Fn 103) mr_1 then (Fn 102) mr_1 * (v1 - ((Fn 104) mr_1)) else (Fn 103) mr_1)) / 10 else 0), .int 0]))] : va_W)) H := va_P_eq (exs_l (xf_0 (by omega)) (xs_104 (by omega))) hP
                have hD : va_D A ((wX cI (D.1 99) zz g ad cn In (va_up Fn 104 (upd (Fn 104) mr_1 v1))) ++ ([(q89, .inr (3, [.int v0, .int v1, .int v2, .int v3, .int v4, .int v5, .int ((Fn 104) mr_1), .int ((Fn 106) mr_1), .int (if 0 < (((if ((Fn 102) mr_1 * (v1 - ((Fn 104) mr_1))) < (Fn 103) mr_1 then (Fn 102) mr_1 * (v1 - ((Fn 104) mr_1)) else (Fn 103) mr_1)) - v2) - ((if ((Fn 102) mr_1 * (v1 - ((Fn 104) mr_1))) < (Fn 103) mr_1 then (Fn 102) mr_1 * (v1 - ((Fn 104) mr_1)) else (Fn 103) mr_1)) / 10 then (((if ((Fn 102) mr_1 * (v1 - ((Fn 104) mr_1))) < (Fn 103) mr_1 then (Fn 102) mr_1 * (v1 - ((Fn 104) mr_1)) else (Fn 103) mr_1)) - v2) - ((if ((Fn 102) mr_1 * (v1 - ((Fn 104) mr_1))) < (Fn 103) mr_1 then (Fn 102) mr_1 * (v1 - ((Fn 104) mr_1)) else (Fn 103) mr_1)) / 10 else 0), .int 0]))] : va_W)) := va_D_eq (exs_l (xf_0 (by omega)) (xs_104 (by omega))) hD
                refine lv_aload hx hb dX11_fetch_154 (lvA1 hl) ?_
                refine lv_dup hx hb dX11_fetch_156 rfl ?_
                refine gf_RX11_131 S hK hP _ (exl (xf_0 (by omega))) (v := .int ((Fn 106) mr_1)) rfl dX11_fetch_157 ?_
                refine lv_iload_n hx hb dX11_fetch_160 rfl (lvA5 hl) ?_
                refine lv_iadd hx hb dX11_fetch_161 ?_
                refine pf_RX11_131 S hK hP hD hS _ (exl (xf_0 (by omega))) (v := .int (((Fn 106) mr_1) + v2)) (Nat.le_of_ble_eq_true rfl) rfl rfl dX11_fetch_162 (fun H locs hP hD hS => ?_)
                have hP : va_P D vwCl ((wX cI (D.1 99) zz g ad cn In (va_up (va_up Fn 104 (upd (Fn 104) mr_1 v1)) 106 (upd (Fn 106) mr_1 (((Fn 106) mr_1) + v2)))) ++ ([(q89, .inr (3, [.int v0, .int v1, .int v2, .int v3, .int v4, .int v5, .int ((Fn 104) mr_1), .int ((Fn 106) mr_1), .int (if 0 < (((if ((Fn 102) mr_1 * (v1 - ((Fn 104) mr_1))) < (Fn 103) mr_1 then (Fn 102) mr_1 * (v1 - ((Fn 104) mr_1)) else (Fn 103) mr_1)) - v2) - ((if ((Fn 102) mr_1 * (v1 - ((Fn 104) mr_1))) < (Fn 103) mr_1 then (Fn 102) mr_1 * (v1 - ((Fn 104) mr_1)) else (Fn 103) mr_1)) / 10 then (((if ((Fn 102) mr_1 * (v1 - ((Fn 104) mr_1))) < (Fn 103) mr_1 then (Fn 102) mr_1 * (v1 - ((Fn 104) mr_1)) else (Fn 103) mr_1)) - v2) - ((if ((Fn 102) mr_1 * (v1 - ((Fn 104) mr_1))) < (Fn 103) mr_1 then (Fn 102) mr_1 * (v1 - ((Fn 104) mr_1)) else (Fn 103) mr_1)) / 10 else 0), .int 0]))] : va_W)) H := va_P_eq (exs_l (xf_0 (by omega)) (xs_106 (by omega))) hP
                have hD : va_D A ((wX cI (D.1 99) zz g ad cn In (va_up (va_up Fn 104 (upd (Fn 104) mr_1 v1)) 106 (upd (Fn 106) mr_1 (((Fn 106) mr_1) + v2)))) ++ ([(q89, .inr (3, [.int v0, .int v1, .int v2, .int v3, .int v4, .int v5, .int ((Fn 104) mr_1), .int ((Fn 106) mr_1), .int (if 0 < (((if ((Fn 102) mr_1 * (v1 - ((Fn 104) mr_1))) < (Fn 103) mr_1 then (Fn 102) mr_1 * (v1 - ((Fn 104) mr_1)) else (Fn 103) mr_1)) - v2) - ((if ((Fn 102) mr_1 * (v1 - ((Fn 104) mr_1))) < (Fn 103) mr_1 then (Fn 102) mr_1 * (v1 - ((Fn 104) mr_1)) else (Fn 103) mr_1)) / 10 then (((if ((Fn 102) mr_1 * (v1 - ((Fn 104) mr_1))) < (Fn 103) mr_1 then (Fn 102) mr_1 * (v1 - ((Fn 104) mr_1)) else (Fn 103) mr_1)) - v2) - ((if ((Fn 102) mr_1 * (v1 - ((Fn 104) mr_1))) < (Fn 103) mr_1 then (Fn 102) mr_1 * (v1 - ((Fn 104) mr_1)) else (Fn 103) mr_1)) / 10 else 0), .int 0]))] : va_W)) := va_D_eq (exs_l (xf_0 (by omega)) (xs_106 (by omega))) hD
                refine lv_aload_n hx hb dX11_fetch_165 rfl (lvA2 hl) ?_
                refine gf_RX11_47 S hK hP _ (exl xo_0) (v := .ref (g 8)) rfl dX11_fetch_166 ?_
                refine lv_iload_n hx hb dX11_fetch_169 rfl (lvA4 hl) ?_
                refine lv_iload_n hx hb dX11_fetch_170 rfl (lvA5 hl) ?_
                have hFc := free_all (exD hD) hS hA
                refine va_callv (runV_xa (As := [.int v1, .int v2]) (rest := []) S (q_Xchange l D cI cB cZ zz qq vv bt g ad cn In (va_up (va_up Fn 104 (upd (Fn 104) mr_1 v1)) 106 (upd (Fn 106) mr_1 (((Fn 106) mr_1) + v2))) v1 v2 H.size hB) kV_RX11_144 hK hXS hS hFc (exP hP) (exD hD) 6 xo_6 rfl rfl ⟨Nat.le_of_ble_eq_true rfl, Nat.le_of_ble_eq_true rfl⟩ ⟨Nat.le_of_ble_eq_true rfl, Nat.le_of_ble_eq_true rfl⟩ rfl hl.1 rfl (Nat.le_of_ble_eq_true rfl) dX11_fetch_171) hS (fun q _ h => hFc q h) hFc (fun u t H1 locs ht hvm wh_23 hB1 hz1 hk1 hS => ?_)
                obtain ⟨cn23, In23, Fn23⟩ := u
                obtain ⟨hP1, hD1⟩ := hB1
                rw [ht] at hP1
                have vh_23 : (fun c2 I2 F2 => (∀ k : Nat, k ∉ [] → I2 k = In k) ∧ (((True) ∧ cn = c2 ∧ (va_up (va_up (va_up Fn 104 (upd (Fn 104) mr_1 v1)) 106 (upd (Fn 106) mr_1 (((Fn 106) mr_1) + v2))) 29 (putM ((Fn 29)) 400 v1 (atM ((Fn 29)) 400 v1 + v2))) = F2))) cn23 In23 Fn23 := wh_23
                obtain ⟨hI23_, vh_23⟩ := vh_23
                obtain ⟨h_23, rfl, rfl⟩ := vh_23
                obtain rfl : In = In23 := (funext (fun k => hI23_ k List.not_mem_nil)).symm
                obtain ⟨hP, hD⟩ := exjoinL hP hD hk1 hFc hP1 hD1
                have hP : va_P D vwCl ((wX cI (D.1 99) zz g ad cn In (va_up (va_up (va_up Fn 104 (upd (Fn 104) mr_1 v1)) 106 (upd (Fn 106) mr_1 (((Fn 106) mr_1) + v2))) 29 (putM ((Fn 29)) 400 v1 (atM ((Fn 29)) 400 v1 + v2)))) ++ ([(q89, .inr (3, [.int v0, .int v1, .int v2, .int v3, .int v4, .int v5, .int ((Fn 104) mr_1), .int ((Fn 106) mr_1), .int (if 0 < (((if ((Fn 102) mr_1 * (v1 - ((Fn 104) mr_1))) < (Fn 103) mr_1 then (Fn 102) mr_1 * (v1 - ((Fn 104) mr_1)) else (Fn 103) mr_1)) - v2) - ((if ((Fn 102) mr_1 * (v1 - ((Fn 104) mr_1))) < (Fn 103) mr_1 then (Fn 102) mr_1 * (v1 - ((Fn 104) mr_1)) else (Fn 103) mr_1)) / 10 then (((if ((Fn 102) mr_1 * (v1 - ((Fn 104) mr_1))) < (Fn 103) mr_1 then (Fn 102) mr_1 * (v1 - ((Fn 104) mr_1)) else (Fn 103) mr_1)) - v2) - ((if ((Fn 102) mr_1 * (v1 - ((Fn 104) mr_1))) < (Fn 103) mr_1 then (Fn 102) mr_1 * (v1 - ((Fn 104) mr_1)) else (Fn 103) mr_1)) / 10 else 0), .int 0]))] : va_W)) H1 := hP
                have hD : va_D A ((wX cI (D.1 99) zz g ad cn In (va_up (va_up (va_up Fn 104 (upd (Fn 104) mr_1 v1)) 106 (upd (Fn 106) mr_1 (((Fn 106) mr_1) + v2))) 29 (putM ((Fn 29)) 400 v1 (atM ((Fn 29)) 400 v1 + v2)))) ++ ([(q89, .inr (3, [.int v0, .int v1, .int v2, .int v3, .int v4, .int v5, .int ((Fn 104) mr_1), .int ((Fn 106) mr_1), .int (if 0 < (((if ((Fn 102) mr_1 * (v1 - ((Fn 104) mr_1))) < (Fn 103) mr_1 then (Fn 102) mr_1 * (v1 - ((Fn 104) mr_1)) else (Fn 103) mr_1)) - v2) - ((if ((Fn 102) mr_1 * (v1 - ((Fn 104) mr_1))) < (Fn 103) mr_1 then (Fn 102) mr_1 * (v1 - ((Fn 104) mr_1)) else (Fn 103) mr_1)) / 10 then (((if ((Fn 102) mr_1 * (v1 - ((Fn 104) mr_1))) < (Fn 103) mr_1 then (Fn 102) mr_1 * (v1 - ((Fn 104) mr_1)) else (Fn 103) mr_1)) - v2) - ((if ((Fn 102) mr_1 * (v1 - ((Fn 104) mr_1))) < (Fn 103) mr_1 then (Fn 102) mr_1 * (v1 - ((Fn 104) mr_1)) else (Fn 103) mr_1)) / 10 else 0), .int 0]))] : va_W)) := hD
                generalize H1 = H at hP hS ⊢
                refine lv_aload_n hx hb dX11_fetch_174 rfl (lvA2 hl) ?_
                refine gf_RX11_65 S hK hP _ (exl xo_0) (v := .ref (g 11)) rfl dX11_fetch_175 ?_
                refine lv_aload hx hb dX11_fetch_178 (lvA0 hl) ?_
                rcases Nat.eq_zero_or_pos (cn 11) with hz0 | hz0
                ·
                  have hi9 : (wX cI (D.1 99) zz g ad cn In (va_up (va_up (va_up Fn 104 (upd (Fn 104) mr_1 v1)) 106 (upd (Fn 106) mr_1 (((Fn 106) mr_1) + v2))) 29 (putM ((Fn 29)) 400 v1 (atM ((Fn 29)) 400 v1 + v2))))[25]? = _ := xlz_1 hz0
                  have hp2P := pick2P hP (exl hi9) (exr (m := 0) rfl)
                  have hp2D := pick2D hD (exl hi9) (exr (m := 0) rfl) (ne_ex hi9)
                  have hFc := free_all hp2D hS hA
                  refine va_calli (runV_xa (As := [.ref q89]) (rest := []) S (q_l_addZL l D cI cB cZ zz qq vv bt (g 11) q89 (In 11) v0 v1 v2 v3 v4 v5 ((Fn 104) mr_1) ((Fn 106) mr_1) (if 0 < (((if ((Fn 102) mr_1 * (v1 - ((Fn 104) mr_1))) < (Fn 103) mr_1 then (Fn 102) mr_1 * (v1 - ((Fn 104) mr_1)) else (Fn 103) mr_1)) - v2) - ((if ((Fn 102) mr_1 * (v1 - ((Fn 104) mr_1))) < (Fn 103) mr_1 then (Fn 102) mr_1 * (v1 - ((Fn 104) mr_1)) else (Fn 103) mr_1)) / 10 then (((if ((Fn 102) mr_1 * (v1 - ((Fn 104) mr_1))) < (Fn 103) mr_1 then (Fn 102) mr_1 * (v1 - ((Fn 104) mr_1)) else (Fn 103) mr_1)) - v2) - ((if ((Fn 102) mr_1 * (v1 - ((Fn 104) mr_1))) < (Fn 103) mr_1 then (Fn 102) mr_1 * (v1 - ((Fn 104) mr_1)) else (Fn 103) mr_1)) / 10 else 0) 0 H.size) kV_RX11_110 hK hXS hS hFc hp2P hp2D 0 rfl rfl rfl ⟨Nat.le_of_ble_eq_true rfl, Nat.le_of_ble_eq_true rfl⟩ ⟨Nat.le_of_ble_eq_true rfl, Nat.le_of_ble_eq_true rfl⟩ rfl hl.1 rfl (Nat.le_of_ble_eq_true rfl) dX11_fetch_180) hS (fun q _ h => hFc q h) hFc (fun r23 u23 t H1 locs ht hvm h23 hB1 hz1 hk1 hS => ?_)
                  obtain ⟨hP1, hD1⟩ := hB1
                  rw [ht] at hP1
                  obtain rfl : r23 = 1 := h23
                  obtain ⟨hP, hD⟩ := add0_join hP hD hi9 rfl hk1 hFc hP1 hD1 rfl (xu_1 (z := u23) (c := 10) (y := (In 11) + 1) (q := q89) (x0 := v0) (x1 := v1) (x2 := v2) (x3 := v3) (x4 := v4) (x5 := v5) (x6 := ((Fn 104) mr_1)) (x7 := ((Fn 106) mr_1)) (x8 := (if 0 < (((if ((Fn 102) mr_1 * (v1 - ((Fn 104) mr_1))) < (Fn 103) mr_1 then (Fn 102) mr_1 * (v1 - ((Fn 104) mr_1)) else (Fn 103) mr_1)) - v2) - ((if ((Fn 102) mr_1 * (v1 - ((Fn 104) mr_1))) < (Fn 103) mr_1 then (Fn 102) mr_1 * (v1 - ((Fn 104) mr_1)) else (Fn 103) mr_1)) / 10 then (((if ((Fn 102) mr_1 * (v1 - ((Fn 104) mr_1))) < (Fn 103) mr_1 then (Fn 102) mr_1 * (v1 - ((Fn 104) mr_1)) else (Fn 103) mr_1)) - v2) - ((if ((Fn 102) mr_1 * (v1 - ((Fn 104) mr_1))) < (Fn 103) mr_1 then (Fn 102) mr_1 * (v1 - ((Fn 104) mr_1)) else (Fn 103) mr_1)) / 10 else 0)) (x9 := 0) hz0)
                  have hP : va_P D vwCl (wX cI (D.1 99) zz g (adP ad 11 (cn 11) q89 1 u23) (va_up (va_up cn 11 ((cn 11) + 1)) 21 10) (va_up In 11 ((In 11) + 1)) (va_up (va_up (va_up (va_up (va_up (va_up (va_up (va_up (va_up (va_up (va_up (va_up (va_up Fn 104 (upd (Fn 104) mr_1 v1)) 106 (upd (Fn 106) mr_1 (((Fn 106) mr_1) + v2))) 29 (putM ((Fn 29)) 400 v1 (atM ((Fn 29)) 400 v1 + v2))) 120 (upd ((va_up (va_up (va_up Fn 104 (upd (Fn 104) mr_1 v1)) 106 (upd (Fn 106) mr_1 (((Fn 106) mr_1) + v2))) 29 (putM ((Fn 29)) 400 v1 (atM ((Fn 29)) 400 v1 + v2))) 120) (cn 11) v0)) 121 (upd ((va_up (va_up (va_up Fn 104 (upd (Fn 104) mr_1 v1)) 106 (upd (Fn 106) mr_1 (((Fn 106) mr_1) + v2))) 29 (putM ((Fn 29)) 400 v1 (atM ((Fn 29)) 400 v1 + v2))) 121) (cn 11) v1)) 122 (upd ((va_up (va_up (va_up Fn 104 (upd (Fn 104) mr_1 v1)) 106 (upd (Fn 106) mr_1 (((Fn 106) mr_1) + v2))) 29 (putM ((Fn 29)) 400 v1 (atM ((Fn 29)) 400 v1 + v2))) 122) (cn 11) v2)) 123 (upd ((va_up (va_up (va_up Fn 104 (upd (Fn 104) mr_1 v1)) 106 (upd (Fn 106) mr_1 (((Fn 106) mr_1) + v2))) 29 (putM ((Fn 29)) 400 v1 (atM ((Fn 29)) 400 v1 + v2))) 123) (cn 11) v3)) 124 (upd ((va_up (va_up (va_up Fn 104 (upd (Fn 104) mr_1 v1)) 106 (upd (Fn 106) mr_1 (((Fn 106) mr_1) + v2))) 29 (putM ((Fn 29)) 400 v1 (atM ((Fn 29)) 400 v1 + v2))) 124) (cn 11) v4)) 125 (upd ((va_up (va_up (va_up Fn 104 (upd (Fn 104) mr_1 v1)) 106 (upd (Fn 106) mr_1 (((Fn 106) mr_1) + v2))) 29 (putM ((Fn 29)) 400 v1 (atM ((Fn 29)) 400 v1 + v2))) 125) (cn 11) v5)) 126 (upd ((va_up (va_up (va_up Fn 104 (upd (Fn 104) mr_1 v1)) 106 (upd (Fn 106) mr_1 (((Fn 106) mr_1) + v2))) 29 (putM ((Fn 29)) 400 v1 (atM ((Fn 29)) 400 v1 + v2))) 126) (cn 11) ((Fn 104) mr_1))) 127 (upd ((va_up (va_up (va_up Fn 104 (upd (Fn 104) mr_1 v1)) 106 (upd (Fn 106) mr_1 (((Fn 106) mr_1) + v2))) 29 (putM ((Fn 29)) 400 v1 (atM ((Fn 29)) 400 v1 + v2))) 127) (cn 11) ((Fn 106) mr_1))) 128 (upd ((va_up (va_up (va_up Fn 104 (upd (Fn 104) mr_1 v1)) 106 (upd (Fn 106) mr_1 (((Fn 106) mr_1) + v2))) 29 (putM ((Fn 29)) 400 v1 (atM ((Fn 29)) 400 v1 + v2))) 128) (cn 11) (if 0 < (((if ((Fn 102) mr_1 * (v1 - ((Fn 104) mr_1))) < (Fn 103) mr_1 then (Fn 102) mr_1 * (v1 - ((Fn 104) mr_1)) else (Fn 103) mr_1)) - v2) - ((if ((Fn 102) mr_1 * (v1 - ((Fn 104) mr_1))) < (Fn 103) mr_1 then (Fn 102) mr_1 * (v1 - ((Fn 104) mr_1)) else (Fn 103) mr_1)) / 10 then (((if ((Fn 102) mr_1 * (v1 - ((Fn 104) mr_1))) < (Fn 103) mr_1 then (Fn 102) mr_1 * (v1 - ((Fn 104) mr_1)) else (Fn 103) mr_1)) - v2) - ((if ((Fn 102) mr_1 * (v1 - ((Fn 104) mr_1))) < (Fn 103) mr_1 then (Fn 102) mr_1 * (v1 - ((Fn 104) mr_1)) else (Fn 103) mr_1)) / 10 else 0))) 129 (upd ((va_up (va_up (va_up Fn 104 (upd (Fn 104) mr_1 v1)) 106 (upd (Fn 106) mr_1 (((Fn 106) mr_1) + v2))) 29 (putM ((Fn 29)) 400 v1 (atM ((Fn 29)) 400 v1 + v2))) 129) (cn 11) 0))) H1 := hP
                  have hD : va_D A (wX cI (D.1 99) zz g (adP ad 11 (cn 11) q89 1 u23) (va_up (va_up cn 11 ((cn 11) + 1)) 21 10) (va_up In 11 ((In 11) + 1)) (va_up (va_up (va_up (va_up (va_up (va_up (va_up (va_up (va_up (va_up (va_up (va_up (va_up Fn 104 (upd (Fn 104) mr_1 v1)) 106 (upd (Fn 106) mr_1 (((Fn 106) mr_1) + v2))) 29 (putM ((Fn 29)) 400 v1 (atM ((Fn 29)) 400 v1 + v2))) 120 (upd ((va_up (va_up (va_up Fn 104 (upd (Fn 104) mr_1 v1)) 106 (upd (Fn 106) mr_1 (((Fn 106) mr_1) + v2))) 29 (putM ((Fn 29)) 400 v1 (atM ((Fn 29)) 400 v1 + v2))) 120) (cn 11) v0)) 121 (upd ((va_up (va_up (va_up Fn 104 (upd (Fn 104) mr_1 v1)) 106 (upd (Fn 106) mr_1 (((Fn 106) mr_1) + v2))) 29 (putM ((Fn 29)) 400 v1 (atM ((Fn 29)) 400 v1 + v2))) 121) (cn 11) v1)) 122 (upd ((va_up (va_up (va_up Fn 104 (upd (Fn 104) mr_1 v1)) 106 (upd (Fn 106) mr_1 (((Fn 106) mr_1) + v2))) 29 (putM ((Fn 29)) 400 v1 (atM ((Fn 29)) 400 v1 + v2))) 122) (cn 11) v2)) 123 (upd ((va_up (va_up (va_up Fn 104 (upd (Fn 104) mr_1 v1)) 106 (upd (Fn 106) mr_1 (((Fn 106) mr_1) + v2))) 29 (putM ((Fn 29)) 400 v1 (atM ((Fn 29)) 400 v1 + v2))) 123) (cn 11) v3)) 124 (upd ((va_up (va_up (va_up Fn 104 (upd (Fn 104) mr_1 v1)) 106 (upd (Fn 106) mr_1 (((Fn 106) mr_1) + v2))) 29 (putM ((Fn 29)) 400 v1 (atM ((Fn 29)) 400 v1 + v2))) 124) (cn 11) v4)) 125 (upd ((va_up (va_up (va_up Fn 104 (upd (Fn 104) mr_1 v1)) 106 (upd (Fn 106) mr_1 (((Fn 106) mr_1) + v2))) 29 (putM ((Fn 29)) 400 v1 (atM ((Fn 29)) 400 v1 + v2))) 125) (cn 11) v5)) 126 (upd ((va_up (va_up (va_up Fn 104 (upd (Fn 104) mr_1 v1)) 106 (upd (Fn 106) mr_1 (((Fn 106) mr_1) + v2))) 29 (putM ((Fn 29)) 400 v1 (atM ((Fn 29)) 400 v1 + v2))) 126) (cn 11) ((Fn 104) mr_1))) 127 (upd ((va_up (va_up (va_up Fn 104 (upd (Fn 104) mr_1 v1)) 106 (upd (Fn 106) mr_1 (((Fn 106) mr_1) + v2))) 29 (putM ((Fn 29)) 400 v1 (atM ((Fn 29)) 400 v1 + v2))) 127) (cn 11) ((Fn 106) mr_1))) 128 (upd ((va_up (va_up (va_up Fn 104 (upd (Fn 104) mr_1 v1)) 106 (upd (Fn 106) mr_1 (((Fn 106) mr_1) + v2))) 29 (putM ((Fn 29)) 400 v1 (atM ((Fn 29)) 400 v1 + v2))) 128) (cn 11) (if 0 < (((if ((Fn 102) mr_1 * (v1 - ((Fn 104) mr_1))) < (Fn 103) mr_1 then (Fn 102) mr_1 * (v1 - ((Fn 104) mr_1)) else (Fn 103) mr_1)) - v2) - ((if ((Fn 102) mr_1 * (v1 - ((Fn 104) mr_1))) < (Fn 103) mr_1 then (Fn 102) mr_1 * (v1 - ((Fn 104) mr_1)) else (Fn 103) mr_1)) / 10 then (((if ((Fn 102) mr_1 * (v1 - ((Fn 104) mr_1))) < (Fn 103) mr_1 then (Fn 102) mr_1 * (v1 - ((Fn 104) mr_1)) else (Fn 103) mr_1)) - v2) - ((if ((Fn 102) mr_1 * (v1 - ((Fn 104) mr_1))) < (Fn 103) mr_1 then (Fn 102) mr_1 * (v1 - ((Fn 104) mr_1)) else (Fn 103) mr_1)) / 10 else 0))) 129 (upd ((va_up (va_up (va_up Fn 104 (upd (Fn 104) mr_1 v1)) 106 (upd (Fn 106) mr_1 (((Fn 106) mr_1) + v2))) 29 (putM ((Fn 29)) 400 v1 (atM ((Fn 29)) 400 v1 + v2))) 129) (cn 11) 0))) := hD
                  generalize H1 = H at hP hS ⊢
                  refine W.widen (k := 2) (n := 110) (Nat.le_of_ble_eq_true rfl) (Nat.le_of_ble_eq_true rfl) ?_
                  refine lv_pop hx hb dX11_fetch_183 rfl ?_
                  refine lv_aload_n hx hb dX11_fetch_184 rfl (lvA2 hl) ?_
                  refine gf_RX11_65 S hK hP 0 xo_0 (v := .ref (g 11)) rfl dX11_fetch_185 ?_
                  refine vp_callSi (runV_r (As := []) (rest := []) S (q_l_size l D cI cB cZ (g 11) (if ((cn 11) + 1) = 0 then zz else (adP ad 11 (cn 11) q89 1 u23) 2 1) ((In 11) + 1) (nI ((cn 11) + 1))) kV_RX11_84 hK hP [25] (one_is xo_25) 25 xo_25 rfl rfl ⟨Nat.le_of_ble_eq_true rfl, Nat.le_of_ble_eq_true rfl⟩ ⟨Nat.le_of_ble_eq_true rfl, Nat.le_of_ble_eq_true rfl⟩ rfl hl.1 rfl (Nat.le_of_ble_eq_true rfl) dX11_fetch_188) (fun r_25 h_26 => ?_)
                  subst h_26
                  refine lv_iconst (v := 1) hx hb dX11_fetch_191 kic_1 ?_
                  refine lv_isub hx hb dX11_fetch_192 ?_
                  refine lv_topi (fun y_27 ey_27 => ?_)
                  obtain rfl : y_27 = (nI (cn 11)) := ey_27.trans (nI_sub (b := 1) (by omega))
                  exact W.iret (v := (nI (cn 11))) hx hb hr (fun t ht hW => ⟨⟨(nI (cn 11)), ((adP ad 11 (cn 11) q89 1 u23), (va_up (va_up cn 11 ((cn 11) + 1)) 21 10), (va_up In 11 ((In 11) + 1)), (va_up (va_up (va_up (va_up (va_up (va_up (va_up (va_up (va_up (va_up (va_up (va_up (va_up Fn 104 (upd (Fn 104) mr_1 v1)) 106 (upd (Fn 106) mr_1 (((Fn 106) mr_1) + v2))) 29 (putM ((Fn 29)) 400 v1 (atM ((Fn 29)) 400 v1 + v2))) 120 (upd ((va_up (va_up (va_up Fn 104 (upd (Fn 104) mr_1 v1)) 106 (upd (Fn 106) mr_1 (((Fn 106) mr_1) + v2))) 29 (putM ((Fn 29)) 400 v1 (atM ((Fn 29)) 400 v1 + v2))) 120) (cn 11) v0)) 121 (upd ((va_up (va_up (va_up Fn 104 (upd (Fn 104) mr_1 v1)) 106 (upd (Fn 106) mr_1 (((Fn 106) mr_1) + v2))) 29 (putM ((Fn 29)) 400 v1 (atM ((Fn 29)) 400 v1 + v2))) 121) (cn 11) v1)) 122 (upd ((va_up (va_up (va_up Fn 104 (upd (Fn 104) mr_1 v1)) 106 (upd (Fn 106) mr_1 (((Fn 106) mr_1) + v2))) 29 (putM ((Fn 29)) 400 v1 (atM ((Fn 29)) 400 v1 + v2))) 122) (cn 11) v2)) 123 (upd ((va_up (va_up (va_up Fn 104 (upd (Fn 104) mr_1 v1)) 106 (upd (Fn 106) mr_1 (((Fn 106) mr_1) + v2))) 29 (putM ((Fn 29)) 400 v1 (atM ((Fn 29)) 400 v1 + v2))) 123) (cn 11) v3)) 124 (upd ((va_up (va_up (va_up Fn 104 (upd (Fn 104) mr_1 v1)) 106 (upd (Fn 106) mr_1 (((Fn 106) mr_1) + v2))) 29 (putM ((Fn 29)) 400 v1 (atM ((Fn 29)) 400 v1 + v2))) 124) (cn 11) v4)) 125 (upd ((va_up (va_up (va_up Fn 104 (upd (Fn 104) mr_1 v1)) 106 (upd (Fn 106) mr_1 (((Fn 106) mr_1) + v2))) 29 (putM ((Fn 29)) 400 v1 (atM ((Fn 29)) 400 v1 + v2))) 125) (cn 11) v5)) 126 (upd ((va_up (va_up (va_up Fn 104 (upd (Fn 104) mr_1 v1)) 106 (upd (Fn 106) mr_1 (((Fn 106) mr_1) + v2))) 29 (putM ((Fn 29)) 400 v1 (atM ((Fn 29)) 400 v1 + v2))) 126) (cn 11) ((Fn 104) mr_1))) 127 (upd ((va_up (va_up (va_up Fn 104 (upd (Fn 104) mr_1 v1)) 106 (upd (Fn 106) mr_1 (((Fn 106) mr_1) + v2))) 29 (putM ((Fn 29)) 400 v1 (atM ((Fn 29)) 400 v1 + v2))) 127) (cn 11) ((Fn 106) mr_1))) 128 (upd ((va_up (va_up (va_up Fn 104 (upd (Fn 104) mr_1 v1)) 106 (upd (Fn 106) mr_1 (((Fn 106) mr_1) + v2))) 29 (putM ((Fn 29)) 400 v1 (atM ((Fn 29)) 400 v1 + v2))) 128) (cn 11) (if 0 < (((if ((Fn 102) mr_1 * (v1 - ((Fn 104) mr_1))) < (Fn 103) mr_1 then (Fn 102) mr_1 * (v1 - ((Fn 104) mr_1)) else (Fn 103) mr_1)) - v2) - ((if ((Fn 102) mr_1 * (v1 - ((Fn 104) mr_1))) < (Fn 103) mr_1 then (Fn 102) mr_1 * (v1 - ((Fn 104) mr_1)) else (Fn 103) mr_1)) / 10 then (((if ((Fn 102) mr_1 * (v1 - ((Fn 104) mr_1))) < (Fn 103) mr_1 then (Fn 102) mr_1 * (v1 - ((Fn 104) mr_1)) else (Fn 103) mr_1)) - v2) - ((if ((Fn 102) mr_1 * (v1 - ((Fn 104) mr_1))) < (Fn 103) mr_1 then (Fn 102) mr_1 * (v1 - ((Fn 104) mr_1)) else (Fn 103) mr_1)) / 10 else 0))) 129 (upd ((va_up (va_up (va_up Fn 104 (upd (Fn 104) mr_1 v1)) 106 (upd (Fn 106) mr_1 (((Fn 106) mr_1) + v2))) 29 (putM ((Fn 29)) 400 v1 (atM ((Fn 29)) 400 v1 + v2))) 129) (cn 11) 0))), rfl, (Or.inr ⟨rfl, q89, u23, 10, ((In 11) + 1), mr_1, by omega, ⟨by omega, by omega⟩, rfl, rfl, rfl, rfl⟩), by rw [ht]; exact hP, hD⟩, hS.F ht⟩) hS.2.2 dX11_fetch_193
                ·
                  have hi9 : (wX cI (D.1 99) zz g ad cn In (va_up (va_up (va_up Fn 104 (upd (Fn 104) mr_1 v1)) 106 (upd (Fn 106) mr_1 (((Fn 106) mr_1) + v2))) 29 (putM ((Fn 29)) 400 v1 (atM ((Fn 29)) 400 v1 + v2))))[25]? = _ := xl_1 hz0
                  have hj9 : (wX cI (D.1 99) zz g ad cn In (va_up (va_up (va_up Fn 104 (upd (Fn 104) mr_1 v1)) 106 (upd (Fn 106) mr_1 (((Fn 106) mr_1) + v2))) 29 (putM ((Fn 29)) 400 v1 (atM ((Fn 29)) 400 v1 + v2))))[_]? = _ := xf_14 (k := 0) (show 0 < min 1 (cn 11) by omega)
                  obtain ⟨ws9, hp1, hp2⟩ := pickG (W := ((wX cI (D.1 99) zz g ad cn In (va_up (va_up (va_up Fn 104 (upd (Fn 104) mr_1 v1)) 106 (upd (Fn 106) mr_1 (((Fn 106) mr_1) + v2))) 29 (putM ((Fn 29)) 400 v1 (atM ((Fn 29)) 400 v1 + v2)))) ++ ([(q89, .inr (3, [.int v0, .int v1, .int v2, .int v3, .int v4, .int v5, .int ((Fn 104) mr_1), .int ((Fn 106) mr_1), .int (if 0 < (((if ((Fn 102) mr_1 * (v1 - ((Fn 104) mr_1))) < (Fn 103) mr_1 then (Fn 102) mr_1 * (v1 - ((Fn 104) mr_1)) else (Fn 103) mr_1)) - v2) - ((if ((Fn 102) mr_1 * (v1 - ((Fn 104) mr_1))) < (Fn 103) mr_1 then (Fn 102) mr_1 * (v1 - ((Fn 104) mr_1)) else (Fn 103) mr_1)) / 10 then (((if ((Fn 102) mr_1 * (v1 - ((Fn 104) mr_1))) < (Fn 103) mr_1 then (Fn 102) mr_1 * (v1 - ((Fn 104) mr_1)) else (Fn 103) mr_1)) - v2) - ((if ((Fn 102) mr_1 * (v1 - ((Fn 104) mr_1))) < (Fn 103) mr_1 then (Fn 102) mr_1 * (v1 - ((Fn 104) mr_1)) else (Fn 103) mr_1)) / 10 else 0), .int 0]))] : va_W))) (exl hi9) (exl hj9) (exr (m := 0) rfl) (xij (by decide)) (ne_ex hi9) (ne_ex hj9)
                  have hP9 := va_P_perm hp1 hP
                  have hD9 := va_D_perm hp1 hD
                  have hFc := free_all hD9 hS hA
                  refine va_calli (runV_xa (As := [.ref q89]) (rest := []) S (q_l_addGL l D cI cB cZ zz qq vv bt (cn 21) (g 11) (ad 2 1) (cn 11) q89 (In 11) (ad 11) v0 v1 v2 v3 v4 v5 ((Fn 104) mr_1) ((Fn 106) mr_1) (if 0 < (((if ((Fn 102) mr_1 * (v1 - ((Fn 104) mr_1))) < (Fn 103) mr_1 then (Fn 102) mr_1 * (v1 - ((Fn 104) mr_1)) else (Fn 103) mr_1)) - v2) - ((if ((Fn 102) mr_1 * (v1 - ((Fn 104) mr_1))) < (Fn 103) mr_1 then (Fn 102) mr_1 * (v1 - ((Fn 104) mr_1)) else (Fn 103) mr_1)) / 10 then (((if ((Fn 102) mr_1 * (v1 - ((Fn 104) mr_1))) < (Fn 103) mr_1 then (Fn 102) mr_1 * (v1 - ((Fn 104) mr_1)) else (Fn 103) mr_1)) - v2) - ((if ((Fn 102) mr_1 * (v1 - ((Fn 104) mr_1))) < (Fn 103) mr_1 then (Fn 102) mr_1 * (v1 - ((Fn 104) mr_1)) else (Fn 103) mr_1)) / 10 else 0) 0 ws9 H.size (by omega) (by omega) hz0 (by omega) (fun i hi => ⟨_, g_mem (hp1.mem_iff.mp (List.mem_of_getElem? (exl (xf_1 (k := i) hi)))) (by decide)⟩)) kV_RX11_110 hK hXS hS hFc hP9 hD9 0 rfl rfl rfl ⟨Nat.le_of_ble_eq_true rfl, Nat.le_of_ble_eq_true rfl⟩ ⟨Nat.le_of_ble_eq_true rfl, Nat.le_of_ble_eq_true rfl⟩ rfl hl.1 rfl (Nat.le_of_ble_eq_true rfl) dX11_fetch_180) hS (fun q _ h => hFc q h) hFc (fun r23 u23 t H1 locs ht hvm h23 hB1 hz1 hk1 hS => ?_)
                  obtain ⟨hP1, hD1⟩ := hB1
                  rw [ht] at hP1
                  obtain ⟨hr23, h23⟩ := h23
                  obtain rfl : r23 = 1 := hr23
                  obtain ⟨ua23, uc23⟩ := u23
                  have hu23 : cn 11 < uc23 ∧ uc23 ≤ 100 := h23
                  obtain ⟨hP, hD⟩ := addG_join hp2 hi9 hj9 hP1 hD1 hFc (xadd_1 (z := ua23) (c := uc23) (y := (In 11) + 1) (q := q89) (x0 := v0) (x1 := v1) (x2 := v2) (x3 := v3) (x4 := v4) (x5 := v5) (x6 := ((Fn 104) mr_1)) (x7 := ((Fn 106) mr_1)) (x8 := (if 0 < (((if ((Fn 102) mr_1 * (v1 - ((Fn 104) mr_1))) < (Fn 103) mr_1 then (Fn 102) mr_1 * (v1 - ((Fn 104) mr_1)) else (Fn 103) mr_1)) - v2) - ((if ((Fn 102) mr_1 * (v1 - ((Fn 104) mr_1))) < (Fn 103) mr_1 then (Fn 102) mr_1 * (v1 - ((Fn 104) mr_1)) else (Fn 103) mr_1)) / 10 then (((if ((Fn 102) mr_1 * (v1 - ((Fn 104) mr_1))) < (Fn 103) mr_1 then (Fn 102) mr_1 * (v1 - ((Fn 104) mr_1)) else (Fn 103) mr_1)) - v2) - ((if ((Fn 102) mr_1 * (v1 - ((Fn 104) mr_1))) < (Fn 103) mr_1 then (Fn 102) mr_1 * (v1 - ((Fn 104) mr_1)) else (Fn 103) mr_1)) / 10 else 0)) (x9 := 0) hz0)
                  have hP : va_P D vwCl (wX cI (D.1 99) zz g (adP ad 11 (cn 11) q89 1 ua23) (va_up (va_up cn 11 ((cn 11) + 1)) 21 uc23) (va_up In 11 ((In 11) + 1)) (va_up (va_up (va_up (va_up (va_up (va_up (va_up (va_up (va_up (va_up (va_up (va_up (va_up Fn 104 (upd (Fn 104) mr_1 v1)) 106 (upd (Fn 106) mr_1 (((Fn 106) mr_1) + v2))) 29 (putM ((Fn 29)) 400 v1 (atM ((Fn 29)) 400 v1 + v2))) 120 (upd ((va_up (va_up (va_up Fn 104 (upd (Fn 104) mr_1 v1)) 106 (upd (Fn 106) mr_1 (((Fn 106) mr_1) + v2))) 29 (putM ((Fn 29)) 400 v1 (atM ((Fn 29)) 400 v1 + v2))) 120) (cn 11) v0)) 121 (upd ((va_up (va_up (va_up Fn 104 (upd (Fn 104) mr_1 v1)) 106 (upd (Fn 106) mr_1 (((Fn 106) mr_1) + v2))) 29 (putM ((Fn 29)) 400 v1 (atM ((Fn 29)) 400 v1 + v2))) 121) (cn 11) v1)) 122 (upd ((va_up (va_up (va_up Fn 104 (upd (Fn 104) mr_1 v1)) 106 (upd (Fn 106) mr_1 (((Fn 106) mr_1) + v2))) 29 (putM ((Fn 29)) 400 v1 (atM ((Fn 29)) 400 v1 + v2))) 122) (cn 11) v2)) 123 (upd ((va_up (va_up (va_up Fn 104 (upd (Fn 104) mr_1 v1)) 106 (upd (Fn 106) mr_1 (((Fn 106) mr_1) + v2))) 29 (putM ((Fn 29)) 400 v1 (atM ((Fn 29)) 400 v1 + v2))) 123) (cn 11) v3)) 124 (upd ((va_up (va_up (va_up Fn 104 (upd (Fn 104) mr_1 v1)) 106 (upd (Fn 106) mr_1 (((Fn 106) mr_1) + v2))) 29 (putM ((Fn 29)) 400 v1 (atM ((Fn 29)) 400 v1 + v2))) 124) (cn 11) v4)) 125 (upd ((va_up (va_up (va_up Fn 104 (upd (Fn 104) mr_1 v1)) 106 (upd (Fn 106) mr_1 (((Fn 106) mr_1) + v2))) 29 (putM ((Fn 29)) 400 v1 (atM ((Fn 29)) 400 v1 + v2))) 125) (cn 11) v5)) 126 (upd ((va_up (va_up (va_up Fn 104 (upd (Fn 104) mr_1 v1)) 106 (upd (Fn 106) mr_1 (((Fn 106) mr_1) + v2))) 29 (putM ((Fn 29)) 400 v1 (atM ((Fn 29)) 400 v1 + v2))) 126) (cn 11) ((Fn 104) mr_1))) 127 (upd ((va_up (va_up (va_up Fn 104 (upd (Fn 104) mr_1 v1)) 106 (upd (Fn 106) mr_1 (((Fn 106) mr_1) + v2))) 29 (putM ((Fn 29)) 400 v1 (atM ((Fn 29)) 400 v1 + v2))) 127) (cn 11) ((Fn 106) mr_1))) 128 (upd ((va_up (va_up (va_up Fn 104 (upd (Fn 104) mr_1 v1)) 106 (upd (Fn 106) mr_1 (((Fn 106) mr_1) + v2))) 29 (putM ((Fn 29)) 400 v1 (atM ((Fn 29)) 400 v1 + v2))) 128) (cn 11) (if 0 < (((if ((Fn 102) mr_1 * (v1 - ((Fn 104) mr_1))) < (Fn 103) mr_1 then (Fn 102) mr_1 * (v1 - ((Fn 104) mr_1)) else (Fn 103) mr_1)) - v2) - ((if ((Fn 102) mr_1 * (v1 - ((Fn 104) mr_1))) < (Fn 103) mr_1 then (Fn 102) mr_1 * (v1 - ((Fn 104) mr_1)) else (Fn 103) mr_1)) / 10 then (((if ((Fn 102) mr_1 * (v1 - ((Fn 104) mr_1))) < (Fn 103) mr_1 then (Fn 102) mr_1 * (v1 - ((Fn 104) mr_1)) else (Fn 103) mr_1)) - v2) - ((if ((Fn 102) mr_1 * (v1 - ((Fn 104) mr_1))) < (Fn 103) mr_1 then (Fn 102) mr_1 * (v1 - ((Fn 104) mr_1)) else (Fn 103) mr_1)) / 10 else 0))) 129 (upd ((va_up (va_up (va_up Fn 104 (upd (Fn 104) mr_1 v1)) 106 (upd (Fn 106) mr_1 (((Fn 106) mr_1) + v2))) 29 (putM ((Fn 29)) 400 v1 (atM ((Fn 29)) 400 v1 + v2))) 129) (cn 11) 0))) H1 := hP
                  have hD : va_D A (wX cI (D.1 99) zz g (adP ad 11 (cn 11) q89 1 ua23) (va_up (va_up cn 11 ((cn 11) + 1)) 21 uc23) (va_up In 11 ((In 11) + 1)) (va_up (va_up (va_up (va_up (va_up (va_up (va_up (va_up (va_up (va_up (va_up (va_up (va_up Fn 104 (upd (Fn 104) mr_1 v1)) 106 (upd (Fn 106) mr_1 (((Fn 106) mr_1) + v2))) 29 (putM ((Fn 29)) 400 v1 (atM ((Fn 29)) 400 v1 + v2))) 120 (upd ((va_up (va_up (va_up Fn 104 (upd (Fn 104) mr_1 v1)) 106 (upd (Fn 106) mr_1 (((Fn 106) mr_1) + v2))) 29 (putM ((Fn 29)) 400 v1 (atM ((Fn 29)) 400 v1 + v2))) 120) (cn 11) v0)) 121 (upd ((va_up (va_up (va_up Fn 104 (upd (Fn 104) mr_1 v1)) 106 (upd (Fn 106) mr_1 (((Fn 106) mr_1) + v2))) 29 (putM ((Fn 29)) 400 v1 (atM ((Fn 29)) 400 v1 + v2))) 121) (cn 11) v1)) 122 (upd ((va_up (va_up (va_up Fn 104 (upd (Fn 104) mr_1 v1)) 106 (upd (Fn 106) mr_1 (((Fn 106) mr_1) + v2))) 29 (putM ((Fn 29)) 400 v1 (atM ((Fn 29)) 400 v1 + v2))) 122) (cn 11) v2)) 123 (upd ((va_up (va_up (va_up Fn 104 (upd (Fn 104) mr_1 v1)) 106 (upd (Fn 106) mr_1 (((Fn 106) mr_1) + v2))) 29 (putM ((Fn 29)) 400 v1 (atM ((Fn 29)) 400 v1 + v2))) 123) (cn 11) v3)) 124 (upd ((va_up (va_up (va_up Fn 104 (upd (Fn 104) mr_1 v1)) 106 (upd (Fn 106) mr_1 (((Fn 106) mr_1) + v2))) 29 (putM ((Fn 29)) 400 v1 (atM ((Fn 29)) 400 v1 + v2))) 124) (cn 11) v4)) 125 (upd ((va_up (va_up (va_up Fn 104 (upd (Fn 104) mr_1 v1)) 106 (upd (Fn 106) mr_1 (((Fn 106) mr_1) + v2))) 29 (putM ((Fn 29)) 400 v1 (atM ((Fn 29)) 400 v1 + v2))) 125) (cn 11) v5)) 126 (upd ((va_up (va_up (va_up Fn 104 (upd (Fn 104) mr_1 v1)) 106 (upd (Fn 106) mr_1 (((Fn 106) mr_1) + v2))) 29 (putM ((Fn 29)) 400 v1 (atM ((Fn 29)) 400 v1 + v2))) 126) (cn 11) ((Fn 104) mr_1))) 127 (upd ((va_up (va_up (va_up Fn 104 (upd (Fn 104) mr_1 v1)) 106 (upd (Fn 106) mr_1 (((Fn 106) mr_1) + v2))) 29 (putM ((Fn 29)) 400 v1 (atM ((Fn 29)) 400 v1 + v2))) 127) (cn 11) ((Fn 106) mr_1))) 128 (upd ((va_up (va_up (va_up Fn 104 (upd (Fn 104) mr_1 v1)) 106 (upd (Fn 106) mr_1 (((Fn 106) mr_1) + v2))) 29 (putM ((Fn 29)) 400 v1 (atM ((Fn 29)) 400 v1 + v2))) 128) (cn 11) (if 0 < (((if ((Fn 102) mr_1 * (v1 - ((Fn 104) mr_1))) < (Fn 103) mr_1 then (Fn 102) mr_1 * (v1 - ((Fn 104) mr_1)) else (Fn 103) mr_1)) - v2) - ((if ((Fn 102) mr_1 * (v1 - ((Fn 104) mr_1))) < (Fn 103) mr_1 then (Fn 102) mr_1 * (v1 - ((Fn 104) mr_1)) else (Fn 103) mr_1)) / 10 then (((if ((Fn 102) mr_1 * (v1 - ((Fn 104) mr_1))) < (Fn 103) mr_1 then (Fn 102) mr_1 * (v1 - ((Fn 104) mr_1)) else (Fn 103) mr_1)) - v2) - ((if ((Fn 102) mr_1 * (v1 - ((Fn 104) mr_1))) < (Fn 103) mr_1 then (Fn 102) mr_1 * (v1 - ((Fn 104) mr_1)) else (Fn 103) mr_1)) / 10 else 0))) 129 (upd ((va_up (va_up (va_up Fn 104 (upd (Fn 104) mr_1 v1)) 106 (upd (Fn 106) mr_1 (((Fn 106) mr_1) + v2))) 29 (putM ((Fn 29)) 400 v1 (atM ((Fn 29)) 400 v1 + v2))) 129) (cn 11) 0))) := hD
                  generalize H1 = H at hP hS ⊢
                  refine lv_pop hx hb dX11_fetch_183 rfl ?_
                  refine lv_aload_n hx hb dX11_fetch_184 rfl (lvA2 hl) ?_
                  refine gf_RX11_65 S hK hP 0 xo_0 (v := .ref (g 11)) rfl dX11_fetch_185 ?_
                  refine vp_callSi (runV_r (As := []) (rest := []) S (q_l_size l D cI cB cZ (g 11) (if ((cn 11) + 1) = 0 then zz else (adP ad 11 (cn 11) q89 1 ua23) 2 1) ((In 11) + 1) (nI ((cn 11) + 1))) kV_RX11_84 hK hP [25] (one_is xo_25) 25 xo_25 rfl rfl ⟨Nat.le_of_ble_eq_true rfl, Nat.le_of_ble_eq_true rfl⟩ ⟨Nat.le_of_ble_eq_true rfl, Nat.le_of_ble_eq_true rfl⟩ rfl hl.1 rfl (Nat.le_of_ble_eq_true rfl) dX11_fetch_188) (fun r_28 h_29 => ?_)
                  subst h_29
                  refine lv_iconst (v := 1) hx hb dX11_fetch_191 kic_1 ?_
                  refine lv_isub hx hb dX11_fetch_192 ?_
                  refine lv_topi (fun y_30 ey_30 => ?_)
                  obtain rfl : y_30 = (nI (cn 11)) := ey_30.trans (nI_sub (b := 1) (by omega))
                  exact W.iret (v := (nI (cn 11))) hx hb hr (fun t ht hW => ⟨⟨(nI (cn 11)), ((adP ad 11 (cn 11) q89 1 ua23), (va_up (va_up cn 11 ((cn 11) + 1)) 21 uc23), (va_up In 11 ((In 11) + 1)), (va_up (va_up (va_up (va_up (va_up (va_up (va_up (va_up (va_up (va_up (va_up (va_up (va_up Fn 104 (upd (Fn 104) mr_1 v1)) 106 (upd (Fn 106) mr_1 (((Fn 106) mr_1) + v2))) 29 (putM ((Fn 29)) 400 v1 (atM ((Fn 29)) 400 v1 + v2))) 120 (upd ((va_up (va_up (va_up Fn 104 (upd (Fn 104) mr_1 v1)) 106 (upd (Fn 106) mr_1 (((Fn 106) mr_1) + v2))) 29 (putM ((Fn 29)) 400 v1 (atM ((Fn 29)) 400 v1 + v2))) 120) (cn 11) v0)) 121 (upd ((va_up (va_up (va_up Fn 104 (upd (Fn 104) mr_1 v1)) 106 (upd (Fn 106) mr_1 (((Fn 106) mr_1) + v2))) 29 (putM ((Fn 29)) 400 v1 (atM ((Fn 29)) 400 v1 + v2))) 121) (cn 11) v1)) 122 (upd ((va_up (va_up (va_up Fn 104 (upd (Fn 104) mr_1 v1)) 106 (upd (Fn 106) mr_1 (((Fn 106) mr_1) + v2))) 29 (putM ((Fn 29)) 400 v1 (atM ((Fn 29)) 400 v1 + v2))) 122) (cn 11) v2)) 123 (upd ((va_up (va_up (va_up Fn 104 (upd (Fn 104) mr_1 v1)) 106 (upd (Fn 106) mr_1 (((Fn 106) mr_1) + v2))) 29 (putM ((Fn 29)) 400 v1 (atM ((Fn 29)) 400 v1 + v2))) 123) (cn 11) v3)) 124 (upd ((va_up (va_up (va_up Fn 104 (upd (Fn 104) mr_1 v1)) 106 (upd (Fn 106) mr_1 (((Fn 106) mr_1) + v2))) 29 (putM ((Fn 29)) 400 v1 (atM ((Fn 29)) 400 v1 + v2))) 124) (cn 11) v4)) 125 (upd ((va_up (va_up (va_up Fn 104 (upd (Fn 104) mr_1 v1)) 106 (upd (Fn 106) mr_1 (((Fn 106) mr_1) + v2))) 29 (putM ((Fn 29)) 400 v1 (atM ((Fn 29)) 400 v1 + v2))) 125) (cn 11) v5)) 126 (upd ((va_up (va_up (va_up Fn 104 (upd (Fn 104) mr_1 v1)) 106 (upd (Fn 106) mr_1 (((Fn 106) mr_1) + v2))) 29 (putM ((Fn 29)) 400 v1 (atM ((Fn 29)) 400 v1 + v2))) 126) (cn 11) ((Fn 104) mr_1))) 127 (upd ((va_up (va_up (va_up Fn 104 (upd (Fn 104) mr_1 v1)) 106 (upd (Fn 106) mr_1 (((Fn 106) mr_1) + v2))) 29 (putM ((Fn 29)) 400 v1 (atM ((Fn 29)) 400 v1 + v2))) 127) (cn 11) ((Fn 106) mr_1))) 128 (upd ((va_up (va_up (va_up Fn 104 (upd (Fn 104) mr_1 v1)) 106 (upd (Fn 106) mr_1 (((Fn 106) mr_1) + v2))) 29 (putM ((Fn 29)) 400 v1 (atM ((Fn 29)) 400 v1 + v2))) 128) (cn 11) (if 0 < (((if ((Fn 102) mr_1 * (v1 - ((Fn 104) mr_1))) < (Fn 103) mr_1 then (Fn 102) mr_1 * (v1 - ((Fn 104) mr_1)) else (Fn 103) mr_1)) - v2) - ((if ((Fn 102) mr_1 * (v1 - ((Fn 104) mr_1))) < (Fn 103) mr_1 then (Fn 102) mr_1 * (v1 - ((Fn 104) mr_1)) else (Fn 103) mr_1)) / 10 then (((if ((Fn 102) mr_1 * (v1 - ((Fn 104) mr_1))) < (Fn 103) mr_1 then (Fn 102) mr_1 * (v1 - ((Fn 104) mr_1)) else (Fn 103) mr_1)) - v2) - ((if ((Fn 102) mr_1 * (v1 - ((Fn 104) mr_1))) < (Fn 103) mr_1 then (Fn 102) mr_1 * (v1 - ((Fn 104) mr_1)) else (Fn 103) mr_1)) / 10 else 0))) 129 (upd ((va_up (va_up (va_up Fn 104 (upd (Fn 104) mr_1 v1)) 106 (upd (Fn 106) mr_1 (((Fn 106) mr_1) + v2))) 29 (putM ((Fn 29)) 400 v1 (atM ((Fn 29)) 400 v1 + v2))) 129) (cn 11) 0))), rfl, (Or.inr ⟨rfl, q89, ua23, uc23, ((In 11) + 1), mr_1, by omega, ⟨by omega, by omega⟩, rfl, rfl, rfl, rfl⟩), by rw [ht]; exact hP, hD⟩, hS.F ht⟩) hS.2.2 dX11_fetch_193
              ·
                have h_15 : ¬ (0 ≤ v4.toInt ∧ v4.toInt ≤ 1000) := h_15
                refine lv_if_ne (tgt := 89) hx hb dX11_fetch_84 rfl (fun h => absurd h cq_eq_0_0) (fun _ => ?_)
                refine lv_iconst (v := (-1)) hx hb dX11_fetch_87 kic_m1 ?_
                refine W.widen (k := 2) (n := 110) (Nat.le_of_ble_eq_true rfl) (Nat.le_of_ble_eq_true rfl) ?_
                exact W.iret (v := (-1)) hx hb hr (fun t ht hW => ⟨⟨(-1), (ad, cn, In, Fn), rfl, (Or.inl ⟨rfl, rfl, rfl, rfl, rfl⟩), by rw [ht]; exact hP, hD⟩, hS.F ht⟩) hS.2.2 dX11_fetch_88
            ·
              have h_13 : ¬ (0 ≤ v3.toInt ∧ v3.toInt ≤ 1000) := h_13
              refine lv_if_eq (tgt := 87) hx hb dX11_fetch_72 rfl (fun _ => ?_) (fun h => absurd h cq_eq_0_0)
              refine lv_iconst (v := (-1)) hx hb dX11_fetch_87 kic_m1 ?_
              refine W.widen (k := 2) (n := 110) (Nat.le_of_ble_eq_true rfl) (Nat.le_of_ble_eq_true rfl) ?_
              exact W.iret (v := (-1)) hx hb hr (fun t ht hW => ⟨⟨(-1), (ad, cn, In, Fn), rfl, (Or.inl ⟨rfl, rfl, rfl, rfl, rfl⟩), by rw [ht]; exact hP, hD⟩, hS.F ht⟩) hS.2.2 dX11_fetch_88
          ·
            have h_11 : ¬ (0 ≤ v2.toInt ∧ v2.toInt ≤ 400) := h_11
            refine lv_if_eq (tgt := 87) hx hb dX11_fetch_60 rfl (fun _ => ?_) (fun h => absurd h cq_eq_0_0)
            refine lv_iconst (v := (-1)) hx hb dX11_fetch_87 kic_m1 ?_
            refine W.widen (k := 2) (n := 110) (Nat.le_of_ble_eq_true rfl) (Nat.le_of_ble_eq_true rfl) ?_
            exact W.iret (v := (-1)) hx hb hr (fun t ht hW => ⟨⟨(-1), (ad, cn, In, Fn), rfl, (Or.inl ⟨rfl, rfl, rfl, rfl, rfl⟩), by rw [ht]; exact hP, hD⟩, hS.F ht⟩) hS.2.2 dX11_fetch_88
        ·
          have h_9 : ¬ (v1.toInt ≤ v5.toInt ∧ v5.toInt ≤ 399) := h_9
          refine lv_if_eq (tgt := 87) hx hb dX11_fetch_49 rfl (fun _ => ?_) (fun h => absurd h cq_eq_0_0)
          refine lv_iconst (v := (-1)) hx hb dX11_fetch_87 kic_m1 ?_
          refine W.widen (k := 2) (n := 110) (Nat.le_of_ble_eq_true rfl) (Nat.le_of_ble_eq_true rfl) ?_
          exact W.iret (v := (-1)) hx hb hr (fun t ht hW => ⟨⟨(-1), (ad, cn, In, Fn), rfl, (Or.inl ⟨rfl, rfl, rfl, rfl, rfl⟩), by rw [ht]; exact hP, hD⟩, hS.F ht⟩) hS.2.2 dX11_fetch_88
      ·
        have h_7 : ¬ (((Fn 104) mr_1).toInt ≤ v1.toInt ∧ v1.toInt ≤ (nI (cn 0)).toInt) := h_7
        refine lv_if_eq (tgt := 87) hx hb dX11_fetch_37 rfl (fun _ => ?_) (fun h => absurd h cq_eq_0_0)
        refine lv_iconst (v := (-1)) hx hb dX11_fetch_87 kic_m1 ?_
        refine W.widen (k := 2) (n := 110) (Nat.le_of_ble_eq_true rfl) (Nat.le_of_ble_eq_true rfl) ?_
        exact W.iret (v := (-1)) hx hb hr (fun t ht hW => ⟨⟨(-1), (ad, cn, In, Fn), rfl, (Or.inl ⟨rfl, rfl, rfl, rfl, rfl⟩), by rw [ht]; exact hP, hD⟩, hS.F ht⟩) hS.2.2 dX11_fetch_88
  ·
    refine lv_astoreN (lv' := [(7, .null), (0, .ref (g 0)), (1, .int v0), (2, .int v1), (3, .int v2), (4, .int v3), (5, .int v4), (6, .int v5)]) hx hb dX11_fetch_5 hl (ltb rfl) rfl (fun ls hl => ?_)
    refine lv_aloadN hx hb dX11_fetch_7 (lvA0 hl) ?_
    refine lv_ifnullN (tgt := 87) hx hb dX11_fetch_9 rfl ?_
    refine lv_iconst (v := (-1)) hx hb dX11_fetch_87 kic_m1 ?_
    refine W.widen (k := 2) (n := 110) (Nat.le_of_ble_eq_true rfl) (Nat.le_of_ble_eq_true rfl) ?_
    exact W.iret (v := (-1)) hx hb hr (fun t ht hW => ⟨⟨(-1), (ad, cn, In, Fn), rfl, (Or.inl ⟨rfl, rfl, rfl, rfl, rfl⟩), by rw [ht]; exact hP, hD⟩, hS.F ht⟩) hS.2.2 dX11_fetch_88
