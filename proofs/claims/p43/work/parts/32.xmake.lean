theorem ne_ex {X : va_W} {i m : Nat} {c : Nat × va_E} (h : X[i]? = some c) : i ≠ X.length + m := by
  have := (List.getElem?_eq_some_iff.mp h).1
  omega
theorem xij {cI QA : ClassId} {zz : Nat} {g : Nat → Nat} {ad : Nat → Nat → Nat} {cn : Nat → Nat} {In : Nat → Int32} {Fn : Nat → Nat → Int32} {i k : Nat} (h : i < 30) : i ≠ (fxX cI QA zz g ad cn In Fn).length + k := by
  have e : (fxX cI QA zz g ad cn In Fn).length = 30 := rfl
  omega
theorem set_same9 {α : Type} {V : List α} {k : Nat} {x : α} (q : V[k]? = some x) : V.set k x = V := by
  obtain ⟨lk, ek⟩ := List.getElem?_eq_some_iff.mp q
  rw [← ek]; exact List.set_getElem_self lk
theorem nI_mt {c : Nat} (h : c < 2 ^ 31) : (nI c - 1).toInt = (c : Int) - 1 := by
  rcases Nat.eq_zero_or_pos c with rfl | q
  · rfl
  · rw [show nI c - 1 = nI (c - 1) from nI_sub (b := 1) q, nI_toInt (by omega)]; omega
section ADDJ
variable {D : va_G} {cl : List vw_C} {A0 A1 : Nat → Prop} {X ex exE X2 ws9 : va_W} {i j a b c : Nat} {e1 e3 d1 d2 : va_E} {L' E' O c1 c2 : Nat × va_E} {H H1 : Heap}
theorem add0_join (hP : va_P D cl (X ++ ex) H) (hD : va_D A0 (X ++ ex)) (hi : X[i]? = some (a, e1)) (hm : ex[0]? = some (c, e3)) (hk : ∀ q : Nat, q < H.size → ¬ va_A [(a, e1), (c, e3)] H.size q → H1[q]? = H[q]?) (hF : ∀ q, va_A [(a, e1), (c, e3)] H.size q → A0 q) (hP1 : va_P D cl [(a, d1), (b, d2), (c, e3)] H1) (hD1 : va_D (va_A [(a, e1), (c, e3)] H.size) [(a, d1), (b, d2), (c, e3)]) (he : ex ++ [(b, d2)] = exE) (hp : List.Perm (X.set i (a, d1) ++ exE) X2) : va_P D cl X2 H1 ∧ va_D A0 X2 := by
  obtain ⟨p, q⟩ := wset2e hP hD (exl hi) (exr hm) (ne_ex hi) hk hF hP1 hD1
  have e : (((X ++ ex).set i (a, d1)).set (X.length + 0) (c, e3)) ++ [(b, d2)] = X.set i (a, d1) ++ exE := by
    rw [exs_l hi rfl, ← he, ← List.append_assoc]
    have e2 := exs_r (X := X.set i (a, d1)) (ex := ex) (m := 0) (c := (c, e3)) (ex' := ex) (set_same9 hm)
    rw [List.length_set] at e2
    rw [e2]
  rw [e] at p q
  exact ⟨va_P_perm hp p, va_D_perm hp q⟩
theorem addG_join (hp2 : ∀ L' E' : Nat × va_E, (((X ++ ex).set i L').set j E').Perm (([L', E', O] : va_W) ++ ws9)) (hi : X[i]? = some c1) (hj : X[j]? = some c2) (hP1 : va_P D cl (([L', E', O] : va_W) ++ ws9) H1) (hD1 : va_D A1 (([L', E', O] : va_W) ++ ws9)) (hF : ∀ q, A1 q → A0 q) (hp : List.Perm (((X.set i L').set j E') ++ ex) X2) : va_P D cl X2 H1 ∧ va_D A0 X2 := by
  have li := (List.getElem?_eq_some_iff.mp hi).1
  have lj := (List.getElem?_eq_some_iff.mp hj).1
  have e : ((X ++ ex).set i L').set j E' = ((X.set i L').set j E') ++ ex := by
    rw [List.set_append_left _ _ li, List.set_append_left _ _ (by rw [List.length_set]; exact lj)]
  have p := va_P_perm (hp2 L' E').symm hP1
  have q := va_D_perm (hp2 L' E').symm (hD1.weaken (fun _ _ _ h => hF _ h))
  rw [e] at p q
  exact ⟨va_P_perm hp p, va_D_perm hp q⟩
end ADDJ
theorem xlz_0 {cI QA : ClassId} {zz : Nat} {g : Nat → Nat} {ad : Nat → Nat → Nat} {cn : Nat → Nat} {In : Nat → Int32} {Fn : Nat → Nat → Int32} (h : cn 10 = 0) : (wX cI QA zz g ad cn In Fn)[24]? = some (g 10, .inr (0, [.int (In 10), .ref zz, .int 0])) := by
  rw [xo_24, if_pos h, h]; rfl
theorem xlz_1 {cI QA : ClassId} {zz : Nat} {g : Nat → Nat} {ad : Nat → Nat → Nat} {cn : Nat → Nat} {In : Nat → Int32} {Fn : Nat → Nat → Int32} (h : cn 11 = 0) : (wX cI QA zz g ad cn In Fn)[25]? = some (g 11, .inr (0, [.int (In 11), .ref zz, .int 0])) := by
  rw [xo_25, if_pos h, h]; rfl
theorem xlz_2 {cI QA : ClassId} {zz : Nat} {g : Nat → Nat} {ad : Nat → Nat → Nat} {cn : Nat → Nat} {In : Nat → Int32} {Fn : Nat → Nat → Int32} (h : cn 12 = 0) : (wX cI QA zz g ad cn In Fn)[26]? = some (g 12, .inr (0, [.int (In 12), .ref zz, .int 0])) := by
  rw [xo_26, if_pos h, h]; rfl
theorem xlz_3 {cI QA : ClassId} {zz : Nat} {g : Nat → Nat} {ad : Nat → Nat → Nat} {cn : Nat → Nat} {In : Nat → Int32} {Fn : Nat → Nat → Int32} (h : cn 13 = 0) : (wX cI QA zz g ad cn In Fn)[27]? = some (g 13, .inr (0, [.int (In 13), .ref zz, .int 0])) := by
  rw [xo_27, if_pos h, h]; rfl
theorem xlz_4 {cI QA : ClassId} {zz : Nat} {g : Nat → Nat} {ad : Nat → Nat → Nat} {cn : Nat → Nat} {In : Nat → Int32} {Fn : Nat → Nat → Int32} (h : cn 14 = 0) : (wX cI QA zz g ad cn In Fn)[28]? = some (g 14, .inr (0, [.int (In 14), .ref zz, .int 0])) := by
  rw [xo_28, if_pos h, h]; rfl
theorem xlz_5 {cI QA : ClassId} {zz : Nat} {g : Nat → Nat} {ad : Nat → Nat → Nat} {cn : Nat → Nat} {In : Nat → Int32} {Fn : Nat → Nat → Int32} (h : cn 15 = 0) : (wX cI QA zz g ad cn In Fn)[29]? = some (g 15, .inr (0, [.int (In 15), .ref zz, .int 0])) := by
  rw [xo_29, if_pos h, h]; rfl
theorem xu_1 {cI QA : ClassId} {zz : Nat} {g : Nat → Nat} {ad : Nat → Nat → Nat} {cn : Nat → Nat} {In : Nat → Int32} {Fn : Nat → Nat → Int32} {q z c : Nat} {y x0 x1 x2 x3 x4 x5 x6 x7 x8 x9 : Int32} (h0 : cn 11 = 0) : List.Perm (((wX cI QA zz g ad cn In Fn).set 25 (g 11, .inr (0, [.int y, .ref z, .int (nI 1)]))) ++ ([(q, .inr (3, [.int x0, .int x1, .int x2, .int x3, .int x4, .int x5, .int x6, .int x7, .int x8, .int x9])), (z, .inl (QA, c, .inr (.inr (.inr (.inr (va_up (fun _ => none) 0 (some q)))))))] : va_W)) (wX cI QA zz g (adP ad 11 (cn 11) q 1 z) (va_up (va_up cn 11 ((cn 11) + 1)) 21 c) (va_up In 11 y) (va_up (va_up (va_up (va_up (va_up (va_up (va_up (va_up (va_up (va_up Fn 120 (upd (Fn 120) (cn 11) x0)) 121 (upd (Fn 121) (cn 11) x1)) 122 (upd (Fn 122) (cn 11) x2)) 123 (upd (Fn 123) (cn 11) x3)) 124 (upd (Fn 124) (cn 11) x4)) 125 (upd (Fn 125) (cn 11) x5)) 126 (upd (Fn 126) (cn 11) x6)) 127 (upd (Fn 127) (cn 11) x7)) 128 (upd (Fn 128) (cn 11) x8)) 129 (upd (Fn 129) (cn 11) x9))) := by
  have h9 := xadd0_1 (cI := cI) (QA := QA) (zz := zz) (g := g) (ad := ad) (cn := cn) (In := In) (Fn := Fn) (q := q) (z := z) (c := c) (x0 := x0) (x1 := x1) (x2 := x2) (x3 := x3) (x4 := x4) (x5 := x5) (x6 := x6) (x7 := x7) (x8 := x8) (x9 := x9) (y := y) h0
  rw [h0]
  exact h9
theorem xu_3 {cI QA : ClassId} {zz : Nat} {g : Nat → Nat} {ad : Nat → Nat → Nat} {cn : Nat → Nat} {In : Nat → Int32} {Fn : Nat → Nat → Int32} {q z c : Nat} {y x0 x1 x2 x3 x4 : Int32} (h0 : cn 13 = 0) : List.Perm (((wX cI QA zz g ad cn In Fn).set 27 (g 13, .inr (0, [.int y, .ref z, .int (nI 1)]))) ++ ([(q, .inr (5, [.int x0, .int x1, .int x2, .int x3, .int x4])), (z, .inl (QA, c, .inr (.inr (.inr (.inr (va_up (fun _ => none) 0 (some q)))))))] : va_W)) (wX cI QA zz g (adP ad 13 (cn 13) q 3 z) (va_up (va_up cn 13 ((cn 13) + 1)) 23 c) (va_up In 13 y) (va_up (va_up (va_up (va_up (va_up Fn 160 (upd (Fn 160) (cn 13) x0)) 161 (upd (Fn 161) (cn 13) x1)) 162 (upd (Fn 162) (cn 13) x2)) 163 (upd (Fn 163) (cn 13) x3)) 164 (upd (Fn 164) (cn 13) x4))) := by
  have h9 := xadd0_3 (cI := cI) (QA := QA) (zz := zz) (g := g) (ad := ad) (cn := cn) (In := In) (Fn := Fn) (q := q) (z := z) (c := c) (x0 := x0) (x1 := x1) (x2 := x2) (x3 := x3) (x4 := x4) (y := y) h0
  rw [h0]
  exact h9
theorem xu_4 {cI QA : ClassId} {zz : Nat} {g : Nat → Nat} {ad : Nat → Nat → Nat} {cn : Nat → Nat} {In : Nat → Int32} {Fn : Nat → Nat → Int32} {q z c : Nat} {y x0 x1 x2 : Int32} (h0 : cn 14 = 0) : List.Perm (((wX cI QA zz g ad cn In Fn).set 28 (g 14, .inr (0, [.int y, .ref z, .int (nI 1)]))) ++ ([(q, .inr (7, [.int x0, .int x1, .int x2])), (z, .inl (QA, c, .inr (.inr (.inr (.inr (va_up (fun _ => none) 0 (some q)))))))] : va_W)) (wX cI QA zz g (adP ad 14 (cn 14) q 4 z) (va_up (va_up cn 14 ((cn 14) + 1)) 24 c) (va_up In 14 y) (va_up (va_up (va_up Fn 170 (upd (Fn 170) (cn 14) x0)) 171 (upd (Fn 171) (cn 14) x1)) 172 (upd (Fn 172) (cn 14) x2))) := by
  have h9 := xadd0_4 (cI := cI) (QA := QA) (zz := zz) (g := g) (ad := ad) (cn := cn) (In := In) (Fn := Fn) (q := q) (z := z) (c := c) (x0 := x0) (x1 := x1) (x2 := x2) (y := y) h0
  rw [h0]
  exact h9
theorem xu_5 {cI QA : ClassId} {zz : Nat} {g : Nat → Nat} {ad : Nat → Nat → Nat} {cn : Nat → Nat} {In : Nat → Int32} {Fn : Nat → Nat → Int32} {q z c : Nat} {y x0 x1 x2 : Int32} (h0 : cn 15 = 0) : List.Perm (((wX cI QA zz g ad cn In Fn).set 29 (g 15, .inr (0, [.int y, .ref z, .int (nI 1)]))) ++ ([(q, .inr (4, [.int x0, .int x1, .int x2])), (z, .inl (QA, c, .inr (.inr (.inr (.inr (va_up (fun _ => none) 0 (some q)))))))] : va_W)) (wX cI QA zz g (adP ad 15 (cn 15) q 5 z) (va_up (va_up cn 15 ((cn 15) + 1)) 25 c) (va_up In 15 y) (va_up (va_up (va_up Fn 180 (upd (Fn 180) (cn 15) x0)) 181 (upd (Fn 181) (cn 15) x1)) 182 (upd (Fn 182) (cn 15) x2))) := by
  have h9 := xadd0_5 (cI := cI) (QA := QA) (zz := zz) (g := g) (ad := ad) (cn := cn) (In := In) (Fn := Fn) (q := q) (z := z) (c := c) (x0 := x0) (x1 := x1) (x2 := x2) (y := y) h0
  rw [h0]
  exact h9
theorem xuK {cI QA : ClassId} {zz : Nat} {g : Nat → Nat} {ad : Nat → Nat → Nat} {cn : Nat → Nat} {In : Nat → Int32} {Fn : Nat → Nat → Int32} {q qt r0 r1 r2 r3 r4 z c : Nat} {y x0 x1 x2 x3 x4 x5 x6 x7 x8 x9 : Int32} (h0 : cn 10 = 0) (hT : ∀ k : Nat, k < cn 10 → ad 3 k < cn 6) (h40 : ad 4 0 < cn 6) (h41 : ad 4 1 < cn 6) : List.Perm (((wX cI QA zz g ad cn In Fn).set 24 (g 10, .inr (0, [.int y, .ref z, .int (nI (0 + 1))]))) ++ ([(q, .inr (2, [.int x0, .int x1, .int x2, .int x3, .int x4, .int x5, .int x6, .int x7, .int x8, .int x9, .ref qt])), (qt, .inr (10, [.ref r0, .ref r1, .ref r2, .ref r3, .ref r4, .int 0, .int 0, .int 0, .int 0])), (r0, .inl (cI, 0, .inl (fun _ => 0))), (r1, .inl (cI, 12, .inl (fun _ => 0))), (r2, .inl (cI, 12, .inl (fun _ => 0))), (r3, .inl (cI, 12, .inl (fun _ => 0))), (r4, .inl (cI, 32, .inl (fun _ => 0))), (z, .inl (QA, c, .inr (.inr (.inr (.inr (va_up (fun _ => none) 0 (some q)))))))] : va_W)) (wX cI QA zz g (adO (adO (adO (adO (adO (adO (adO (adO (adO ad 10 (cn 10) q) 3 (cn 10) (cn 6)) 5 (cn 6) qt) 60 (cn 6) r0) 61 (cn 6) r1) 62 (cn 6) r2) 63 (cn 6) r3) 64 (cn 6) r4) 2 0 z) (va_up (va_up (va_up cn 10 ((cn 10) + 1)) 20 c) 6 (cn 6 + 1)) (va_up In 10 y) (va_up (va_up (va_up (va_up (va_up (va_up (va_up (va_up (va_up (va_up (va_up (va_up (va_up (va_up (va_up (va_up (va_up (va_up (va_up (va_up Fn 100 (upd (Fn 100) (cn 10) x0)) 101 (upd (Fn 101) (cn 10) x1)) 102 (upd (Fn 102) (cn 10) x2)) 103 (upd (Fn 103) (cn 10) x3)) 104 (upd (Fn 104) (cn 10) x4)) 105 (upd (Fn 105) (cn 10) x5)) 106 (upd (Fn 106) (cn 10) x6)) 107 (upd (Fn 107) (cn 10) x7)) 108 (upd (Fn 108) (cn 10) x8)) 109 (upd (Fn 109) (cn 10) x9)) 195 (upd (Fn 195) (cn 6) 0)) 196 (upd (Fn 196) (cn 6) 0)) 197 (upd (Fn 197) (cn 6) 0)) 198 (upd (Fn 198) (cn 6) 0)) 199 (upd (Fn 199) (cn 6) 0)) 301 (flat (Fn 301) 200 (cn 6) (fun _ => 0))) 302 (flat (Fn 302) 12 (cn 6) (fun _ => 0))) 303 (flat (Fn 303) 12 (cn 6) (fun _ => 0))) 304 (flat (Fn 304) 12 (cn 6) (fun _ => 0))) 305 (flat (Fn 305) 32 (cn 6) (fun _ => 0)))) := by
  have h9 := xaddK0 (cI := cI) (QA := QA) (zz := zz) (g := g) (ad := ad) (cn := cn) (In := In) (Fn := Fn) (q := q) (qt := qt) (r0 := r0) (r1 := r1) (r2 := r2) (r3 := r3) (r4 := r4) (z := z) (c := c) (x0 := x0) (x1 := x1) (x2 := x2) (x3 := x3) (x4 := x4) (x5 := x5) (x6 := x6) (x7 := x7) (x8 := x8) (x9 := x9) (y := y) h0 hT h40 h41
  rw [h0]
  exact h9
theorem xuB {cI QA : ClassId} {zz : Nat} {g : Nat → Nat} {ad : Nat → Nat → Nat} {cn : Nat → Nat} {In : Nat → Int32} {Fn : Nat → Nat → Int32} {q qs z c : Nat} {f : Nat → Int32} {y x1 x2 x3 x4 x5 x6 x7 : Int32} (h0 : cn 12 = 0) (hf0 : ∀ i : Nat, 12 ≤ i → f i = 0) : List.Perm (((wX cI QA zz g ad cn In Fn).set 26 (g 12, .inr (0, [.int y, .ref z, .int (nI (0 + 1))]))) ++ ([(q, .inr (1, [.ref qs, .int x1, .int x2, .int x3, .int x4, .int x5, .int x6, .int x7])), (qs, .inl (cI, 12, .inl f)), (z, .inl (QA, c, .inr (.inr (.inr (.inr (va_up (fun _ => none) 0 (some q)))))))] : va_W)) (wX cI QA zz g (adO (adO (adO ad 12 (cn 12) q) 1 (cn 12) qs) 2 2 z) (va_up (va_up cn 12 ((cn 12) + 1)) 22 c) (va_up In 12 y) (va_up (va_up (va_up (va_up (va_up (va_up (va_up (va_up Fn 141 (upd (Fn 141) (cn 12) x1)) 142 (upd (Fn 142) (cn 12) x2)) 143 (upd (Fn 143) (cn 12) x3)) 144 (upd (Fn 144) (cn 12) x4)) 145 (upd (Fn 145) (cn 12) x5)) 146 (upd (Fn 146) (cn 12) x6)) 147 (upd (Fn 147) (cn 12) x7)) 150 (flat (Fn 150) 12 (cn 12) f))) := by
  have h9 := xaddB0 (cI := cI) (QA := QA) (zz := zz) (g := g) (ad := ad) (cn := cn) (In := In) (Fn := Fn) (q := q) (qs := qs) (z := z) (c := c) (x1 := x1) (x2 := x2) (x3 := x3) (x4 := x4) (x5 := x5) (x6 := x6) (x7 := x7) (y := y) h0 hf0
  rw [h0]
  exact h9

set_option maxRecDepth 100000 in
theorem kI_RX11_475 : CalI RX11 475 yX6_init cX6_init 3 2 := ⟨⟨wk5_17 7 rfl rfl, wk5_17 8 rfl rfl, wk1_2 1 rfl rfl, wk5_17 9 rfl rfl⟩, rfl, ⟨nmh_7.1, nmh_7.2, pd_20⟩⟩
set_option maxRecDepth 100000 in
theorem kV_RX11_110 : CalV RX11 110 yJx4a65c_add_9ea2d cJx4a65c_add_9ea2d 2 (some .boolean) 1 := ⟨⟨wk2_9 6 rfl rfl, wk2_9 7 rfl rfl, wk2_9 8 rfl rfl, wk1_1 0 rfl rfl, wk2_9 9 rfl rfl⟩, ⟨nmh_21.1, nmh_21.2, pd_57⟩⟩
set_option maxRecDepth 100000 in
theorem kI_RX11_107 : CalI RX11 107 yX1_init cX1_init 5 4 := ⟨⟨wk2_5 5 rfl rfl, wk2_5 6 rfl rfl, wk1_1 2 rfl rfl, wk2_5 7 rfl rfl⟩, rfl, ⟨nmh_2.1, nmh_2.2, pd_29⟩⟩
set_option maxRecDepth 100000 in
theorem kI_RX11_513 : CalI RX11 513 yX3_init cX3_init 4 3 := ⟨⟨wk6_3 5 rfl rfl, wk6_3 6 rfl rfl, wk1_2 2 rfl rfl, wk6_3 7 rfl rfl⟩, rfl, ⟨nmh_4.1, nmh_4.2, pd_25⟩⟩
set_option maxRecDepth 100000 in
theorem kI_RX11_399 : CalI RX11 399 yX4_init cX4_init 6 5 := ⟨⟨wk5_6 1 rfl rfl, wk5_6 2 rfl rfl, wk1_2 0 rfl rfl, wk5_6 3 rfl rfl⟩, rfl, ⟨nmh_5.1, nmh_5.2, pd_32⟩⟩
set_option maxRecDepth 100000 in
theorem kI_RX11_125 : CalI RX11 125 yX2_init cX2_init 7 6 := ⟨⟨wk2_17 2 rfl rfl, wk2_17 3 rfl rfl, wk1_1 7 rfl rfl, wk2_17 4 rfl rfl⟩, rfl, ⟨nmh_3.1, nmh_3.2, pd_34⟩⟩
set_option maxRecDepth 100000 in
theorem pf_RX11_128 {p : Program} {l : Launch} {e : Env} {R : Room} {s : State} {m : MethodId} {args : Array Value} {below : List Frame} {meth : Method} {c : Code} {H : Heap} {locs : List Loc} {cells slots : Nat} {Q : State → Prop} {cc : ByteArray} {nL pc : Nat} {D : va_G} {cI cB cZ : ClassId} {ws : va_W} {rest : List Value} {ls : Array Slot} {a : Nat} {fs : List Value} {v : Value} {A : Nat → Prop} {H0 : Heap} (S : SF p m c cc nL s args RX11) (hK : KK D cI cB cZ s) (hP : va_P D vwCl ws H) (hD : va_D A ws) (hS : va_S A H0 H locs) (q0 : Nat) (he : ws[q0]? = some (a, .inr (3, fs))) (hl : 6 < fs.length) (hn : narrow (tyX2 6) v = v) (hfit : fits (tyX2 6) v = true) (hdg : decode cc pc = .ok (.putfield 128, 3)) (kk : ∀ (H1 : Heap) (locs1 : List Loc), va_P D vwCl (ws.set q0 (a, .inr (3, fs.set 6 v))) H1 → va_D A (ws.set q0 (a, .inr (3, fs.set 6 v))) → va_S A H0 H1 locs1 → W p l e R s m args below meth c H1 locs1 cells slots Q (F0 m (pc + 3) ls rest)) : W p l e R s m args below meth c H locs cells slots Q (F0 m pc ls (v :: .ref a :: rest)) :=
  va_put (C := RX2) (T := TX2) (N := 10) S.1 S.2.1 S.2.2.2.2 hin_RX2 tyX2 tyX2_ok nmX2 S.2.2.2.1 hK.1 hP hD hS q0 he rfl 6 (by decide) (S.2.2.2.2 _ (wk2_18 9 rfl rfl)) (fun _ h9 => h9) rfl (tyX2_ok 6 (by decide)) hn hfit hl hdg kk
set_option maxRecDepth 100000 in
theorem gf_RX11_131 {p : Program} {l : Launch} {e : Env} {R : Room} {s : State} {m : MethodId} {args : Array Value} {below : List Frame} {meth : Method} {c : Code} {H : Heap} {locs : List Loc} {cells slots : Nat} {Q : State → Prop} {cc : ByteArray} {nL pc : Nat} {D : va_G} {cI cB cZ : ClassId} {ws : va_W} {rest : List Value} {ls : Array Slot} {a : Nat} {fs : List Value} {v : Value} (S : SF p m c cc nL s args RX11) (hK : KK D cI cB cZ s) (hP : va_P D vwCl ws H) (q0 : Nat) (he : ws[q0]? = some (a, .inr (2, fs))) (hv : fs[6]? = some v) (hdg : decode cc pc = .ok (.getfield 131, 3)) (kk : W p l e R s m args below meth c H locs cells slots Q (F0 m (pc + 3) ls (v :: rest))) : W p l e R s m args below meth c H locs cells slots Q (F0 m pc ls (.ref a :: rest)) :=
  va_get (C := RX1) (T := TX1) (N := 11) S.1 S.2.1 S.2.2.2.2 hin_RX1 S.2.2.2.1 hK.1 hP q0 he rfl 6 (by decide) (S.2.2.2.2 _ (wk2_6 11 rfl rfl)) (fun _ h9 => h9) hv hdg kk
set_option maxRecDepth 100000 in
theorem pf_RX11_134 {p : Program} {l : Launch} {e : Env} {R : Room} {s : State} {m : MethodId} {args : Array Value} {below : List Frame} {meth : Method} {c : Code} {H : Heap} {locs : List Loc} {cells slots : Nat} {Q : State → Prop} {cc : ByteArray} {nL pc : Nat} {D : va_G} {cI cB cZ : ClassId} {ws : va_W} {rest : List Value} {ls : Array Slot} {a : Nat} {fs : List Value} {v : Value} {A : Nat → Prop} {H0 : Heap} (S : SF p m c cc nL s args RX11) (hK : KK D cI cB cZ s) (hP : va_P D vwCl ws H) (hD : va_D A ws) (hS : va_S A H0 H locs) (q0 : Nat) (he : ws[q0]? = some (a, .inr (3, fs))) (hl : 7 < fs.length) (hn : narrow (tyX2 7) v = v) (hfit : fits (tyX2 7) v = true) (hdg : decode cc pc = .ok (.putfield 134, 3)) (kk : ∀ (H1 : Heap) (locs1 : List Loc), va_P D vwCl (ws.set q0 (a, .inr (3, fs.set 7 v))) H1 → va_D A (ws.set q0 (a, .inr (3, fs.set 7 v))) → va_S A H0 H1 locs1 → W p l e R s m args below meth c H1 locs1 cells slots Q (F0 m (pc + 3) ls rest)) : W p l e R s m args below meth c H locs cells slots Q (F0 m pc ls (v :: .ref a :: rest)) :=
  va_put (C := RX2) (T := TX2) (N := 10) S.1 S.2.1 S.2.2.2.2 hin_RX2 tyX2 tyX2_ok nmX2 S.2.2.2.1 hK.1 hP hD hS q0 he rfl 7 (by decide) (S.2.2.2.2 _ (wk2_18 10 rfl rfl)) (fun _ h9 => h9) rfl (tyX2_ok 7 (by decide)) hn hfit hl hdg kk
set_option maxRecDepth 100000 in
theorem pf_RX11_141 {p : Program} {l : Launch} {e : Env} {R : Room} {s : State} {m : MethodId} {args : Array Value} {below : List Frame} {meth : Method} {c : Code} {H : Heap} {locs : List Loc} {cells slots : Nat} {Q : State → Prop} {cc : ByteArray} {nL pc : Nat} {D : va_G} {cI cB cZ : ClassId} {ws : va_W} {rest : List Value} {ls : Array Slot} {a : Nat} {fs : List Value} {v : Value} {A : Nat → Prop} {H0 : Heap} (S : SF p m c cc nL s args RX11) (hK : KK D cI cB cZ s) (hP : va_P D vwCl ws H) (hD : va_D A ws) (hS : va_S A H0 H locs) (q0 : Nat) (he : ws[q0]? = some (a, .inr (3, fs))) (hl : 8 < fs.length) (hn : narrow (tyX2 8) v = v) (hfit : fits (tyX2 8) v = true) (hdg : decode cc pc = .ok (.putfield 141, 3)) (kk : ∀ (H1 : Heap) (locs1 : List Loc), va_P D vwCl (ws.set q0 (a, .inr (3, fs.set 8 v))) H1 → va_D A (ws.set q0 (a, .inr (3, fs.set 8 v))) → va_S A H0 H1 locs1 → W p l e R s m args below meth c H1 locs1 cells slots Q (F0 m (pc + 3) ls rest)) : W p l e R s m args below meth c H locs cells slots Q (F0 m pc ls (v :: .ref a :: rest)) :=
  va_put (C := RX2) (T := TX2) (N := 10) S.1 S.2.1 S.2.2.2.2 hin_RX2 tyX2 tyX2_ok nmX2 S.2.2.2.1 hK.1 hP hD hS q0 he rfl 8 (by decide) (S.2.2.2.2 _ (wk2_18 11 rfl rfl)) (fun _ h9 => h9) rfl (tyX2_ok 8 (by decide)) hn hfit hl hdg kk
set_option maxRecDepth 100000 in
theorem pf_RX11_118 {p : Program} {l : Launch} {e : Env} {R : Room} {s : State} {m : MethodId} {args : Array Value} {below : List Frame} {meth : Method} {c : Code} {H : Heap} {locs : List Loc} {cells slots : Nat} {Q : State → Prop} {cc : ByteArray} {nL pc : Nat} {D : va_G} {cI cB cZ : ClassId} {ws : va_W} {rest : List Value} {ls : Array Slot} {a : Nat} {fs : List Value} {v : Value} {A : Nat → Prop} {H0 : Heap} (S : SF p m c cc nL s args RX11) (hK : KK D cI cB cZ s) (hP : va_P D vwCl ws H) (hD : va_D A ws) (hS : va_S A H0 H locs) (q0 : Nat) (he : ws[q0]? = some (a, .inr (2, fs))) (hl : 4 < fs.length) (hn : narrow (tyX1 4) v = v) (hfit : fits (tyX1 4) v = true) (hdg : decode cc pc = .ok (.putfield 118, 3)) (kk : ∀ (H1 : Heap) (locs1 : List Loc), va_P D vwCl (ws.set q0 (a, .inr (2, fs.set 4 v))) H1 → va_D A (ws.set q0 (a, .inr (2, fs.set 4 v))) → va_S A H0 H1 locs1 → W p l e R s m args below meth c H1 locs1 cells slots Q (F0 m (pc + 3) ls rest)) : W p l e R s m args below meth c H locs cells slots Q (F0 m pc ls (v :: .ref a :: rest)) :=
  va_put (C := RX1) (T := TX1) (N := 11) S.1 S.2.1 S.2.2.2.2 hin_RX1 tyX1 tyX1_ok nmX1 S.2.2.2.1 hK.1 hP hD hS q0 he rfl 4 (by decide) (S.2.2.2.2 _ (wk2_6 9 rfl rfl)) (fun _ h9 => h9) rfl (tyX1_ok 4 (by decide)) hn hfit hl hdg kk
set_option maxRecDepth 100000 in
theorem pf_RX11_131 {p : Program} {l : Launch} {e : Env} {R : Room} {s : State} {m : MethodId} {args : Array Value} {below : List Frame} {meth : Method} {c : Code} {H : Heap} {locs : List Loc} {cells slots : Nat} {Q : State → Prop} {cc : ByteArray} {nL pc : Nat} {D : va_G} {cI cB cZ : ClassId} {ws : va_W} {rest : List Value} {ls : Array Slot} {a : Nat} {fs : List Value} {v : Value} {A : Nat → Prop} {H0 : Heap} (S : SF p m c cc nL s args RX11) (hK : KK D cI cB cZ s) (hP : va_P D vwCl ws H) (hD : va_D A ws) (hS : va_S A H0 H locs) (q0 : Nat) (he : ws[q0]? = some (a, .inr (2, fs))) (hl : 6 < fs.length) (hn : narrow (tyX1 6) v = v) (hfit : fits (tyX1 6) v = true) (hdg : decode cc pc = .ok (.putfield 131, 3)) (kk : ∀ (H1 : Heap) (locs1 : List Loc), va_P D vwCl (ws.set q0 (a, .inr (2, fs.set 6 v))) H1 → va_D A (ws.set q0 (a, .inr (2, fs.set 6 v))) → va_S A H0 H1 locs1 → W p l e R s m args below meth c H1 locs1 cells slots Q (F0 m (pc + 3) ls rest)) : W p l e R s m args below meth c H locs cells slots Q (F0 m pc ls (v :: .ref a :: rest)) :=
  va_put (C := RX1) (T := TX1) (N := 11) S.1 S.2.1 S.2.2.2.2 hin_RX1 tyX1 tyX1_ok nmX1 S.2.2.2.1 hK.1 hP hD hS q0 he rfl 6 (by decide) (S.2.2.2.2 _ (wk2_6 11 rfl rfl)) (fun _ h9 => h9) rfl (tyX1_ok 6 (by decide)) hn hfit hl hdg kk
noncomputable def sxX11_sewer_61 : List UInt8 := []
noncomputable def sxX11_sewer_50 : List UInt8 := 87 :: 42 :: 180 :: 0 :: 74 :: 182 :: 0 :: 84 :: 4 :: 100 :: 172 :: sxX11_sewer_61
noncomputable def sxX11_sewer_24 : List UInt8 := 182 :: 0 :: 84 :: 16 :: 10 :: 161 :: 0 :: 5 :: 2 :: 172 :: 42 :: 180 :: 0 :: 74 :: 187 :: 1 :: 217 :: 89 :: 27 :: 28 :: 183 :: 1 :: 219 :: 182 :: 0 :: 110 :: sxX11_sewer_50
theorem shX11_sewer_0 : cX11_sewer.data.toList.drop 0 = 27 :: 3 :: 16 :: 99 :: 184 :: 0 :: 80 :: 153 :: 0 :: 25 :: 28 :: 3 :: 16 :: 99 :: 184 :: 0 :: 80 :: 153 :: 0 :: 15 :: 42 :: 180 :: 0 :: 74 :: sxX11_sewer_24 := rfl
theorem shX11_sewer_24 : cX11_sewer.data.toList.drop 24 = 182 :: 0 :: 84 :: 16 :: 10 :: 161 :: 0 :: 5 :: 2 :: 172 :: 42 :: 180 :: 0 :: 74 :: 187 :: 1 :: 217 :: 89 :: 27 :: 28 :: 183 :: 1 :: 219 :: 182 :: 0 :: 110 :: sxX11_sewer_50 := aq_24 shX11_sewer_0
theorem shX11_sewer_50 : cX11_sewer.data.toList.drop 50 = 87 :: 42 :: 180 :: 0 :: 74 :: 182 :: 0 :: 84 :: 4 :: 100 :: 172 :: sxX11_sewer_61 := aq_26 shX11_sewer_24
noncomputable def sxX11_kitchen_99 : List UInt8 := []
noncomputable def sxX11_kitchen_97 : List UInt8 := 100 :: 172 :: sxX11_kitchen_99
noncomputable def sxX11_kitchen_73 : List UInt8 := 187 :: 0 :: 91 :: 89 :: 27 :: 28 :: 29 :: 21 :: 4 :: 183 :: 0 :: 107 :: 182 :: 0 :: 110 :: 87 :: 42 :: 180 :: 0 :: 61 :: 182 :: 0 :: 84 :: 4 :: sxX11_kitchen_97
noncomputable def sxX11_kitchen_49 : List UInt8 := 184 :: 0 :: 80 :: 153 :: 0 :: 15 :: 42 :: 180 :: 0 :: 61 :: 182 :: 0 :: 84 :: 16 :: 10 :: 161 :: 0 :: 5 :: 2 :: 172 :: 42 :: 180 :: 0 :: 61 :: sxX11_kitchen_73
noncomputable def sxX11_kitchen_24 : List UInt8 := 3 :: 54 :: 5 :: 21 :: 5 :: 153 :: 0 :: 38 :: 29 :: 3 :: 16 :: 50 :: 184 :: 0 :: 80 :: 153 :: 0 :: 28 :: 21 :: 4 :: 16 :: 20 :: 17 :: 1 :: 144 :: sxX11_kitchen_49
theorem shX11_kitchen_0 : cX11_kitchen.data.toList.drop 0 = 27 :: 3 :: 16 :: 99 :: 184 :: 0 :: 80 :: 153 :: 0 :: 17 :: 28 :: 3 :: 16 :: 99 :: 184 :: 0 :: 80 :: 153 :: 0 :: 7 :: 4 :: 167 :: 0 :: 4 :: sxX11_kitchen_24 := rfl
theorem shX11_kitchen_24 : cX11_kitchen.data.toList.drop 24 = 3 :: 54 :: 5 :: 21 :: 5 :: 153 :: 0 :: 38 :: 29 :: 3 :: 16 :: 50 :: 184 :: 0 :: 80 :: 153 :: 0 :: 28 :: 21 :: 4 :: 16 :: 20 :: 17 :: 1 :: 144 :: sxX11_kitchen_49 := aq_24 shX11_kitchen_0
theorem shX11_kitchen_49 : cX11_kitchen.data.toList.drop 49 = 184 :: 0 :: 80 :: 153 :: 0 :: 15 :: 42 :: 180 :: 0 :: 61 :: 182 :: 0 :: 84 :: 16 :: 10 :: 161 :: 0 :: 5 :: 2 :: 172 :: 42 :: 180 :: 0 :: 61 :: sxX11_kitchen_73 := aq_25 shX11_kitchen_24
theorem shX11_kitchen_73 : cX11_kitchen.data.toList.drop 73 = 187 :: 0 :: 91 :: 89 :: 27 :: 28 :: 29 :: 21 :: 4 :: 183 :: 0 :: 107 :: 182 :: 0 :: 110 :: 87 :: 42 :: 180 :: 0 :: 61 :: 182 :: 0 :: 84 :: 4 :: sxX11_kitchen_97 := aq_24 shX11_kitchen_49
theorem shX11_kitchen_97 : cX11_kitchen.data.toList.drop 97 = 100 :: 172 :: sxX11_kitchen_99 := aq_24 shX11_kitchen_73
theorem dX11_kitchen_67 : decode cX11_kitchen 67 = .ok (.iconst (-1), 1) := oc_2 67 (aq_18 shX11_kitchen_49)
theorem dX11_kitchen_68 : decode cX11_kitchen 68 = .ok (.ireturn, 1) := oc_172 68 (aq_19 shX11_kitchen_49)
noncomputable def sxX11_moves_111 : List UInt8 := []
noncomputable def sxX11_moves_98 : List UInt8 := 89 :: 27 :: 28 :: 29 :: 183 :: 2 :: 1 :: 182 :: 0 :: 110 :: 87 :: 4 :: 172 :: sxX11_moves_111
noncomputable def sxX11_moves_73 : List UInt8 := 58 :: 5 :: 25 :: 5 :: 198 :: 0 :: 14 :: 29 :: 25 :: 5 :: 180 :: 1 :: 252 :: 162 :: 0 :: 5 :: 3 :: 172 :: 42 :: 180 :: 0 :: 77 :: 187 :: 1 :: 249 :: sxX11_moves_98
noncomputable def sxX11_moves_48 : List UInt8 := 153 :: 0 :: 15 :: 42 :: 180 :: 0 :: 77 :: 182 :: 0 :: 84 :: 16 :: 60 :: 161 :: 0 :: 5 :: 3 :: 172 :: 42 :: 27 :: 17 :: 1 :: 143 :: 182 :: 1 :: 253 :: sxX11_moves_73
noncomputable def sxX11_moves_24 : List UInt8 := 198 :: 0 :: 7 :: 4 :: 167 :: 0 :: 4 :: 3 :: 54 :: 4 :: 21 :: 4 :: 153 :: 0 :: 27 :: 29 :: 3 :: 42 :: 180 :: 0 :: 103 :: 184 :: 0 :: 80 :: sxX11_moves_48
theorem shX11_moves_0 : cX11_moves.data.toList.drop 0 = 27 :: 3 :: 42 :: 180 :: 1 :: 246 :: 4 :: 100 :: 184 :: 0 :: 80 :: 153 :: 0 :: 20 :: 28 :: 2 :: 159 :: 0 :: 11 :: 42 :: 28 :: 182 :: 0 :: 114 :: sxX11_moves_24 := rfl
theorem shX11_moves_24 : cX11_moves.data.toList.drop 24 = 198 :: 0 :: 7 :: 4 :: 167 :: 0 :: 4 :: 3 :: 54 :: 4 :: 21 :: 4 :: 153 :: 0 :: 27 :: 29 :: 3 :: 42 :: 180 :: 0 :: 103 :: 184 :: 0 :: 80 :: sxX11_moves_48 := aq_24 shX11_moves_0
theorem shX11_moves_48 : cX11_moves.data.toList.drop 48 = 153 :: 0 :: 15 :: 42 :: 180 :: 0 :: 77 :: 182 :: 0 :: 84 :: 16 :: 60 :: 161 :: 0 :: 5 :: 3 :: 172 :: 42 :: 27 :: 17 :: 1 :: 143 :: 182 :: 1 :: 253 :: sxX11_moves_73 := aq_24 shX11_moves_24
theorem shX11_moves_73 : cX11_moves.data.toList.drop 73 = 58 :: 5 :: 25 :: 5 :: 198 :: 0 :: 14 :: 29 :: 25 :: 5 :: 180 :: 1 :: 252 :: 162 :: 0 :: 5 :: 3 :: 172 :: 42 :: 180 :: 0 :: 77 :: 187 :: 1 :: 249 :: sxX11_moves_98 := aq_25 shX11_moves_48
theorem shX11_moves_98 : cX11_moves.data.toList.drop 98 = 89 :: 27 :: 28 :: 29 :: 183 :: 2 :: 1 :: 182 :: 0 :: 110 :: 87 :: 4 :: 172 :: sxX11_moves_111 := aq_25 shX11_moves_73
theorem dX11_moves_32 : decode cX11_moves 32 = .ok (.istore 4, 2) := oc_54 32 (aq_8 shX11_moves_24) ub_4
theorem dX11_moves_34 : decode cX11_moves 34 = .ok (.iload 4, 2) := oc_21 34 (aq_10 shX11_moves_24) ub_4
theorem dX11_moves_36 : decode cX11_moves 36 = .ok (.ifCond .eq 27, 3) := oc_153 36 (aq_12 shX11_moves_24) sgw_0_27
theorem dX11_moves_48 : decode cX11_moves 48 = .ok (.ifCond .eq 15, 3) := oc_153 48 shX11_moves_48 sgw_0_15
theorem dX11_moves_73 : decode cX11_moves 73 = .ok (.astore 5, 2) := oc_58 73 shX11_moves_73 ub_5
theorem dX11_moves_75 : decode cX11_moves 75 = .ok (.aload 5, 2) := oc_25 75 (aq_2 shX11_moves_73) ub_5
theorem dX11_moves_77 : decode cX11_moves 77 = .ok (.ifnull 14, 3) := oc_198 77 (aq_4 shX11_moves_73) sgw_0_14
theorem dX11_moves_91 : decode cX11_moves 91 = .ok (.aload_n 0, 1) := oc_42 91 (aq_18 shX11_moves_73)
theorem dX11_moves_92 : decode cX11_moves 92 = .ok (.getfield 77, 3) := oc_180 92 (aq_19 shX11_moves_73) uw_0_77
theorem dX11_moves_95 : decode cX11_moves 95 = .ok (.new 505, 3) := oc_187 95 (aq_22 shX11_moves_73) uw_1_249
theorem dX11_moves_98 : decode cX11_moves 98 = .ok (.dup, 1) := oc_89 98 shX11_moves_98
theorem dX11_moves_99 : decode cX11_moves 99 = .ok (.iload_n 1, 1) := oc_27 99 (aq_1 shX11_moves_98)
theorem dX11_moves_100 : decode cX11_moves 100 = .ok (.iload_n 2, 1) := oc_28 100 (aq_2 shX11_moves_98)
theorem dX11_moves_101 : decode cX11_moves 101 = .ok (.iload_n 3, 1) := oc_29 101 (aq_3 shX11_moves_98)
theorem dX11_moves_102 : decode cX11_moves 102 = .ok (.invokespecial 513, 3) := oc_183 102 (aq_4 shX11_moves_98) uw_2_1
theorem dX11_moves_105 : decode cX11_moves 105 = .ok (.invokevirtual 110, 3) := oc_182 105 (aq_7 shX11_moves_98) uw_0_110
theorem dX11_moves_108 : decode cX11_moves 108 = .ok (.pop, 1) := oc_87 108 (aq_10 shX11_moves_98)
theorem dX11_moves_109 : decode cX11_moves 109 = .ok (.iconst 1, 1) := oc_4 109 (aq_11 shX11_moves_98)
theorem dX11_moves_110 : decode cX11_moves 110 = .ok (.ireturn, 1) := oc_172 110 (aq_12 shX11_moves_98)
theorem dX11_moves_63 : decode cX11_moves 63 = .ok (.iconst 0, 1) := oc_3 63 (aq_15 shX11_moves_48)
theorem dX11_moves_64 : decode cX11_moves 64 = .ok (.ireturn, 1) := oc_172 64 (aq_16 shX11_moves_48)
noncomputable def sxX11_proof_89 : List UInt8 := []
noncomputable def sxX11_proof_72 : List UInt8 := 183 :: 1 :: 143 :: 182 :: 0 :: 110 :: 87 :: 42 :: 180 :: 0 :: 71 :: 182 :: 0 :: 84 :: 4 :: 100 :: 172 :: sxX11_proof_89
noncomputable def sxX11_proof_48 : List UInt8 := 16 :: 40 :: 161 :: 0 :: 5 :: 2 :: 172 :: 42 :: 180 :: 0 :: 71 :: 187 :: 0 :: 97 :: 89 :: 27 :: 28 :: 29 :: 21 :: 4 :: 42 :: 180 :: 0 :: 103 :: sxX11_proof_72
noncomputable def sxX11_proof_24 : List UInt8 := 180 :: 1 :: 86 :: 163 :: 0 :: 26 :: 21 :: 4 :: 3 :: 16 :: 9 :: 184 :: 0 :: 80 :: 153 :: 0 :: 15 :: 42 :: 180 :: 0 :: 71 :: 182 :: 0 :: 84 :: sxX11_proof_48
theorem shX11_proof_0 : cX11_proof.data.toList.drop 0 = 42 :: 27 :: 182 :: 1 :: 126 :: 58 :: 5 :: 25 :: 5 :: 198 :: 0 :: 44 :: 28 :: 155 :: 0 :: 40 :: 28 :: 29 :: 162 :: 0 :: 35 :: 29 :: 25 :: 5 :: sxX11_proof_24 := rfl
theorem shX11_proof_24 : cX11_proof.data.toList.drop 24 = 180 :: 1 :: 86 :: 163 :: 0 :: 26 :: 21 :: 4 :: 3 :: 16 :: 9 :: 184 :: 0 :: 80 :: 153 :: 0 :: 15 :: 42 :: 180 :: 0 :: 71 :: 182 :: 0 :: 84 :: sxX11_proof_48 := aq_24 shX11_proof_0
theorem shX11_proof_48 : cX11_proof.data.toList.drop 48 = 16 :: 40 :: 161 :: 0 :: 5 :: 2 :: 172 :: 42 :: 180 :: 0 :: 71 :: 187 :: 0 :: 97 :: 89 :: 27 :: 28 :: 29 :: 21 :: 4 :: 42 :: 180 :: 0 :: 103 :: sxX11_proof_72 := aq_24 shX11_proof_24
theorem shX11_proof_72 : cX11_proof.data.toList.drop 72 = 183 :: 1 :: 143 :: 182 :: 0 :: 110 :: 87 :: 42 :: 180 :: 0 :: 71 :: 182 :: 0 :: 84 :: 4 :: 100 :: 172 :: sxX11_proof_89 := aq_24 shX11_proof_48
theorem dX11_proof_53 : decode cX11_proof 53 = .ok (.iconst (-1), 1) := oc_2 53 (aq_5 shX11_proof_48)
theorem dX11_proof_54 : decode cX11_proof 54 = .ok (.ireturn, 1) := oc_172 54 (aq_6 shX11_proof_48)
noncomputable def sxX11_fetch_194 : List UInt8 := []
noncomputable def sxX11_fetch_174 : List UInt8 := 42 :: 180 :: 0 :: 65 :: 25 :: 8 :: 182 :: 0 :: 110 :: 87 :: 42 :: 180 :: 0 :: 65 :: 182 :: 0 :: 84 :: 4 :: 100 :: 172 :: sxX11_fetch_194
noncomputable def sxX11_fetch_148 : List UInt8 := 25 :: 7 :: 28 :: 181 :: 0 :: 118 :: 25 :: 7 :: 89 :: 180 :: 0 :: 131 :: 29 :: 96 :: 181 :: 0 :: 131 :: 42 :: 180 :: 0 :: 47 :: 28 :: 29 :: 182 :: 0 :: 144 :: sxX11_fetch_174
noncomputable def sxX11_fetch_124 : List UInt8 := 181 :: 0 :: 134 :: 25 :: 8 :: 25 :: 8 :: 25 :: 7 :: 28 :: 25 :: 7 :: 180 :: 0 :: 118 :: 182 :: 0 :: 121 :: 182 :: 0 :: 137 :: 181 :: 0 :: 141 :: sxX11_fetch_148
noncomputable def sxX11_fetch_100 : List UInt8 := 21 :: 6 :: 183 :: 0 :: 125 :: 58 :: 8 :: 25 :: 8 :: 25 :: 7 :: 180 :: 0 :: 118 :: 181 :: 0 :: 128 :: 25 :: 8 :: 25 :: 7 :: 180 :: 0 :: 131 :: sxX11_fetch_124
noncomputable def sxX11_fetch_75 : List UInt8 := 21 :: 5 :: 3 :: 17 :: 3 :: 232 :: 184 :: 0 :: 80 :: 154 :: 0 :: 5 :: 2 :: 172 :: 187 :: 0 :: 93 :: 89 :: 27 :: 28 :: 29 :: 21 :: 4 :: 21 :: 5 :: sxX11_fetch_100
noncomputable def sxX11_fetch_49 : List UInt8 := 153 :: 0 :: 38 :: 29 :: 3 :: 17 :: 1 :: 144 :: 184 :: 0 :: 80 :: 153 :: 0 :: 27 :: 21 :: 4 :: 3 :: 17 :: 3 :: 232 :: 184 :: 0 :: 80 :: 153 :: 0 :: 15 :: sxX11_fetch_75
noncomputable def sxX11_fetch_24 : List UInt8 := 28 :: 25 :: 7 :: 180 :: 0 :: 118 :: 42 :: 180 :: 0 :: 103 :: 184 :: 0 :: 80 :: 153 :: 0 :: 50 :: 21 :: 6 :: 28 :: 17 :: 1 :: 143 :: 184 :: 0 :: 80 :: sxX11_fetch_49
theorem shX11_fetch_0 : cX11_fetch.data.toList.drop 0 = 42 :: 27 :: 182 :: 0 :: 114 :: 58 :: 7 :: 25 :: 7 :: 198 :: 0 :: 78 :: 42 :: 180 :: 0 :: 65 :: 182 :: 0 :: 84 :: 16 :: 60 :: 162 :: 0 :: 66 :: sxX11_fetch_24 := rfl
theorem shX11_fetch_24 : cX11_fetch.data.toList.drop 24 = 28 :: 25 :: 7 :: 180 :: 0 :: 118 :: 42 :: 180 :: 0 :: 103 :: 184 :: 0 :: 80 :: 153 :: 0 :: 50 :: 21 :: 6 :: 28 :: 17 :: 1 :: 143 :: 184 :: 0 :: 80 :: sxX11_fetch_49 := aq_24 shX11_fetch_0
theorem shX11_fetch_49 : cX11_fetch.data.toList.drop 49 = 153 :: 0 :: 38 :: 29 :: 3 :: 17 :: 1 :: 144 :: 184 :: 0 :: 80 :: 153 :: 0 :: 27 :: 21 :: 4 :: 3 :: 17 :: 3 :: 232 :: 184 :: 0 :: 80 :: 153 :: 0 :: 15 :: sxX11_fetch_75 := aq_25 shX11_fetch_24
theorem shX11_fetch_75 : cX11_fetch.data.toList.drop 75 = 21 :: 5 :: 3 :: 17 :: 3 :: 232 :: 184 :: 0 :: 80 :: 154 :: 0 :: 5 :: 2 :: 172 :: 187 :: 0 :: 93 :: 89 :: 27 :: 28 :: 29 :: 21 :: 4 :: 21 :: 5 :: sxX11_fetch_100 := aq_26 shX11_fetch_49
theorem shX11_fetch_100 : cX11_fetch.data.toList.drop 100 = 21 :: 6 :: 183 :: 0 :: 125 :: 58 :: 8 :: 25 :: 8 :: 25 :: 7 :: 180 :: 0 :: 118 :: 181 :: 0 :: 128 :: 25 :: 8 :: 25 :: 7 :: 180 :: 0 :: 131 :: sxX11_fetch_124 := aq_25 shX11_fetch_75
theorem shX11_fetch_124 : cX11_fetch.data.toList.drop 124 = 181 :: 0 :: 134 :: 25 :: 8 :: 25 :: 8 :: 25 :: 7 :: 28 :: 25 :: 7 :: 180 :: 0 :: 118 :: 182 :: 0 :: 121 :: 182 :: 0 :: 137 :: 181 :: 0 :: 141 :: sxX11_fetch_148 := aq_24 shX11_fetch_100
theorem shX11_fetch_148 : cX11_fetch.data.toList.drop 148 = 25 :: 7 :: 28 :: 181 :: 0 :: 118 :: 25 :: 7 :: 89 :: 180 :: 0 :: 131 :: 29 :: 96 :: 181 :: 0 :: 131 :: 42 :: 180 :: 0 :: 47 :: 28 :: 29 :: 182 :: 0 :: 144 :: sxX11_fetch_174 := aq_24 shX11_fetch_124
theorem shX11_fetch_174 : cX11_fetch.data.toList.drop 174 = 42 :: 180 :: 0 :: 65 :: 25 :: 8 :: 182 :: 0 :: 110 :: 87 :: 42 :: 180 :: 0 :: 65 :: 182 :: 0 :: 84 :: 4 :: 100 :: 172 :: sxX11_fetch_194 := aq_26 shX11_fetch_148
theorem dX11_fetch_87 : decode cX11_fetch 87 = .ok (.iconst (-1), 1) := oc_2 87 (aq_12 shX11_fetch_75)
theorem dX11_fetch_88 : decode cX11_fetch 88 = .ok (.ireturn, 1) := oc_172 88 (aq_13 shX11_fetch_75)
set_option maxRecDepth 100000 in
set_option maxHeartbeats 4000000 in
theorem q_l_shortOf (l : Launch) (D : va_G) (cI cB cZ : ClassId) (x : Nat) (e0 e1 e2 e3 e4 e5 e6 e7 e8 e9 : Int32) (v0 : Int32) : Met l yX2_shortOf (CWS yX2_shortOf cX2_shortOf 2 (some .int)) (RM 1 0 0) (PBr [.ref x, .int v0] D cI cB cZ [(x, .inr (3, [.int e0, .int e1, .int e2, .int e3, .int e4, .int e5, .int e6, .int e7, .int e8, .int e9]))]) (vp_Si (fun r => r = (if 0 < (v0 - e2) - v0 / 10 then (v0 - e2) - v0 / 10 else 0))) 0 0 (fun _ => False) := by
  refine en_r rfl pn_RX2 (Nat.le_of_ble_eq_true rfl) (fun p e s m below meth c hx hb hml hown S hr hlocks hnm hP hK hS ls hl => ?_)
  have hP : va_P D vwCl [(x, .inr (3, [.int e0, .int e1, .int e2, .int e3, .int e4, .int e5, .int e6, .int e7, .int e8, .int e9]))] s.heap := hP
  have hl : lv_has ls 2 [(0, .ref x), (1, .int v0)] := hl
  refine lv_iconst (v := 0) hx hb (oc_3 0 shX2_shortOf_0) kic_0 ?_
  refine lv_iload_n hx hb (oc_27 1 (aq_1 shX2_shortOf_0)) rfl (lvA1 hl) ?_
  refine lv_aload_n hx hb (oc_42 2 (aq_2 shX2_shortOf_0)) rfl (lvA0 hl) ?_
  refine gf_RX2_16 S hK hP 0 rfl (v := .int e2) rfl (oc_180 3 (aq_3 shX2_shortOf_0) uw_0_16) ?_
  refine lv_isub hx hb (oc_100 6 (aq_6 shX2_shortOf_0)) ?_
  refine lv_iload_n hx hb (oc_27 7 (aq_7 shX2_shortOf_0)) rfl (lvA1 hl) ?_
  refine lv_bipush (v := 10) hx hb (oc_16 8 (aq_8 shX2_shortOf_0) sgb_10) kbc_10 ?_
  refine lv_idiv hx hb (oc_108 10 (aq_10 shX2_shortOf_0)) (by decide) ?_
  refine lv_isub hx hb (oc_100 11 (aq_11 shX2_shortOf_0)) ?_
  refine va_mmax hx hb (by rw [hml]; exact hl.1.symm) hown (S.2.2.2.2 _ (wk3_1 2 rfl rfl)) (S.2.2.2.2 _ (wk1_3 6 rfl rfl)) (S.2.2.2.2 _ (wk1_0 3 rfl rfl)) (S.2.2.2.2 _ (wk1_3 7 rfl rfl)) (Nat.le_of_ble_eq_true rfl) (Nat.le_of_ble_eq_true rfl) (Nat.le_of_ble_eq_true rfl) (Nat.le_of_ble_eq_true rfl) (oc_184 12 (aq_12 shX2_shortOf_0) uw_0_28) ?_
  exact W.iret (v := (if 0 < ((v0 - e2) - (v0 / 10)) then ((v0 - e2) - (v0 / 10)) else 0)) hx hb hr (fun t ht hW => ⟨(if 0 < ((v0 - e2) - (v0 / 10)) then ((v0 - e2) - (v0 / 10)) else 0), rfl, rfl, ht⟩) (fun _ h => absurd h List.not_mem_nil) (oc_172 15 (aq_15 shX2_shortOf_0))
set_option maxRecDepth 100000 in
set_option maxHeartbeats 4000000 in
theorem q_Xsewer (l : Launch) (D : va_G) (cI cB cZ : ClassId) (zz qq vv : Nat) (bt : Nat → Int32) (g : Nat → Nat) (ad : Nat → Nat → Nat) (cn : Nat → Nat) (In : Nat → Int32) (Fn : Nat → Nat → Int32) (v0 v1 : Int32) (sz : Nat) (hB : CBX cn) : Met l yX11_sewer (CWS yX11_sewer cX11_sewer 3 (some .int)) (RM 8 2 103) (PBx [.ref (g 0), .int v0, .int v1] D cI cB cZ zz qq vv bt (wX cI (D.1 99) zz g ad cn In Fn) sz) (va_Qi (fun (r : Int32) (u : (Nat → Nat → Nat) × (Nat → Nat) × (Nat → Int32) × (Nat → Nat → Int32)) => (fun r a2 c2 I2 F2 => (r = (-1) ∧ ¬ (0 ≤ v0.toInt ∧ v0.toInt ≤ 99 ∧ 0 ≤ v1.toInt ∧ v1.toInt ≤ 99 ∧ cn 14 < 10) ∧ ad = a2 ∧ cn = c2 ∧ In = I2 ∧ Fn = F2) ∨ (r = nI (cn 14) ∧ (0 ≤ v0.toInt ∧ v0.toInt ≤ 99 ∧ 0 ≤ v1.toInt ∧ v1.toInt ≤ 99 ∧ cn 14 < 10) ∧ ∃ (q z c : Nat) (y : Int32), (cn 14 < c ∧ c ≤ 100) ∧ (adP ad 14 (cn 14) q 4 z) = a2 ∧ (va_up (va_up cn 14 ((cn 14) + 1)) 24 c) = c2 ∧ (va_up In 14 y) = I2 ∧ (va_up (va_up (va_up Fn 170 (upd (Fn 170) (cn 14) v0)) 171 (upd (Fn 171) (cn 14) v1)) 172 (upd (Fn 172) (cn 14) 0)) = F2)) r u.1 u.2.1 u.2.2.1 u.2.2.2) (fun (u : (Nat → Nat → Nat) × (Nat → Nat) × (Nat → Int32) × (Nat → Nat → Int32)) (t : State) => va_P D vwCl (wX cI (D.1 99) zz g u.1 u.2.1 u.2.2.1 u.2.2.2) t.heap ∧ va_D (va_A (wX cI (D.1 99) zz g ad cn In Fn) sz) (wX cI (D.1 99) zz g u.1 u.2.1 u.2.2.1 u.2.2.2)) (va_A (wX cI (D.1 99) zz g ad cn In Fn) sz)) 2 103 (va_A (wX cI (D.1 99) zz g ad cn In Fn) sz) := by
  refine en_x (fun A => (va_Qi (fun (r : Int32) (u : (Nat → Nat → Nat) × (Nat → Nat) × (Nat → Int32) × (Nat → Nat → Int32)) => (fun (r : Int32) (a2 : Nat → Nat → Nat) (c2 : Nat → Nat) (I2 : Nat → Int32) (F2 : Nat → Nat → Int32) => (r = (-1) ∧ ¬ (0 ≤ v0.toInt ∧ v0.toInt ≤ 99 ∧ 0 ≤ v1.toInt ∧ v1.toInt ≤ 99 ∧ cn 14 < 10) ∧ ad = a2 ∧ cn = c2 ∧ In = I2 ∧ Fn = F2) ∨ (r = nI (cn 14) ∧ (0 ≤ v0.toInt ∧ v0.toInt ≤ 99 ∧ 0 ≤ v1.toInt ∧ v1.toInt ≤ 99 ∧ cn 14 < 10) ∧ ∃ (q z c : Nat) (y : Int32), (cn 14 < c ∧ c ≤ 100) ∧ (adP ad 14 (cn 14) q 4 z) = a2 ∧ (va_up (va_up cn 14 ((cn 14) + 1)) 24 c) = c2 ∧ (va_up In 14 y) = I2 ∧ (va_up (va_up (va_up Fn 170 (upd (Fn 170) (cn 14) v0)) 171 (upd (Fn 171) (cn 14) v1)) 172 (upd (Fn 172) (cn 14) 0)) = F2)) r u.1 u.2.1 u.2.2.1 u.2.2.2) (fun (u : (Nat → Nat → Nat) × (Nat → Nat) × (Nat → Int32) × (Nat → Nat → Int32)) (t : State) => va_P D vwCl (wX cI (D.1 99) zz g u.1 u.2.1 u.2.2.1 u.2.2.2) t.heap ∧ va_D A (wX cI (D.1 99) zz g u.1 u.2.1 u.2.2.1 u.2.2.2)) A)) rfl rfl pn_RX11 (Nat.le_of_ble_eq_true rfl) (fun p e s m below meth c A hx hb hml hown S hr hlocks hnm hA hP hK hD hXS hS ls hl => ?_)
  have hl : lv_has ls 3 [(0, .ref (g 0)), (1, .int v0), (2, .int v1)] := hl
  refine lv_iload_n hx hb (oc_27 0 shX11_sewer_0) rfl (lvA1 hl) ?_
  refine lv_iconst (v := 0) hx hb (oc_3 1 (aq_1 shX11_sewer_0)) kic_0 ?_
  refine lv_bipush (v := 99) hx hb (oc_16 2 (aq_2 shX11_sewer_0) sgb_99) kbc_99 ?_
  refine vp_callSi (runS_r (As := [.int v0, .int 0, .int 99]) (rest := []) S (q_l_within l D cI cB cZ v0 0 99) kS_RX11_80 hK hP [] rfl ⟨Nat.le_of_ble_eq_true rfl, Nat.le_of_ble_eq_true rfl⟩ ⟨Nat.le_of_ble_eq_true rfl, Nat.le_of_ble_eq_true rfl⟩ rfl hl.1 rfl (Nat.le_of_ble_eq_true rfl) (oc_184 4 (aq_4 shX11_sewer_0) uw_0_80)) (fun r_1 h_2 => ?_)
  rcases h_2 with ⟨rfl, h_2⟩ | ⟨rfl, h_2⟩
  ·
    have h_2 : 0 ≤ v0.toInt ∧ v0.toInt ≤ 99 := h_2
    refine lv_if_eq (tgt := 32) hx hb (oc_153 7 (aq_7 shX11_sewer_0) sgw_0_25) rfl (fun h => absurd h cq_eq_1_0) (fun _ => ?_)
    refine lv_iload_n hx hb (oc_28 10 (aq_10 shX11_sewer_0)) rfl (lvA2 hl) ?_
    refine lv_iconst (v := 0) hx hb (oc_3 11 (aq_11 shX11_sewer_0)) kic_0 ?_
    refine lv_bipush (v := 99) hx hb (oc_16 12 (aq_12 shX11_sewer_0) sgb_99) kbc_99 ?_
    refine vp_callSi (runS_r (As := [.int v1, .int 0, .int 99]) (rest := []) S (q_l_within l D cI cB cZ v1 0 99) kS_RX11_80 hK hP [] rfl ⟨Nat.le_of_ble_eq_true rfl, Nat.le_of_ble_eq_true rfl⟩ ⟨Nat.le_of_ble_eq_true rfl, Nat.le_of_ble_eq_true rfl⟩ rfl hl.1 rfl (Nat.le_of_ble_eq_true rfl) (oc_184 14 (aq_14 shX11_sewer_0) uw_0_80)) (fun r_3 h_4 => ?_)
    rcases h_4 with ⟨rfl, h_4⟩ | ⟨rfl, h_4⟩
    ·
      have h_4 : 0 ≤ v1.toInt ∧ v1.toInt ≤ 99 := h_4
      refine lv_if_eq (tgt := 32) hx hb (oc_153 17 (aq_17 shX11_sewer_0) sgw_0_15) rfl (fun h => absurd h cq_eq_1_0) (fun _ => ?_)
      refine lv_aload_n hx hb (oc_42 20 (aq_20 shX11_sewer_0)) rfl (lvA0 hl) ?_
      refine gf_RX11_74 S hK hP 0 xo_0 (v := .ref (g 14)) rfl (oc_180 21 (aq_21 shX11_sewer_0) uw_0_74) ?_
      refine vp_callSi (runV_r (As := []) (rest := []) S (q_l_size l D cI cB cZ (g 14) (if (cn 14) = 0 then zz else ad 2 4) (In 14) (nI (cn 14))) kV_RX11_84 hK hP [28] (one_is xo_28) 28 xo_28 rfl rfl ⟨Nat.le_of_ble_eq_true rfl, Nat.le_of_ble_eq_true rfl⟩ ⟨Nat.le_of_ble_eq_true rfl, Nat.le_of_ble_eq_true rfl⟩ rfl hl.1 rfl (Nat.le_of_ble_eq_true rfl) (oc_182 24 shX11_sewer_24 uw_0_84)) (fun r_5 h_6 => ?_)
      subst h_6
      refine lv_bipush (v := 10) hx hb (oc_16 27 (aq_3 shX11_sewer_24) sgb_10) kbc_10 ?_
      have : (nI (cn 14)).toInt = (((cn 14) : Nat) : Int) := nI_toInt (by omega)
      refine lv_icmp_lt (tgt := 34) hx hb (oc_161 29 (aq_5 shX11_sewer_24) sgw_0_5) rfl (fun c_7 => ?_) (fun c_7 => ?_)
      ·
        have tc_7 : ((nI (cn 14)).toInt : Int) < 10 := Int32.lt_iff_toInt_lt.mp c_7
        refine lv_aload_n hx hb (oc_42 34 (aq_10 shX11_sewer_24)) rfl (lvA0 hl) ?_
        refine gf_RX11_74 S hK hP 0 xo_0 (v := .ref (g 14)) rfl (oc_180 35 (aq_11 shX11_sewer_24) uw_0_74) ?_
        refine va_new (ci := 7) (fs := [.int 0, .int 0, .int 0]) (C := RX6) (T := TX6) (N := 3) hx hb S.2.2.2.2 hin_RX6 tyX6 tyX6_ok hown (S.2.2.2.2 _ (wk5_17 5 rfl rfl)) (S.2.2.2.2 _ (wk5_17 6 rfl rfl)) (S.2.2.2.2 _ (wk1_2 1 rfl rfl)) hK.1 hP hD hS hA rfl (by decide +kernel) (Nat.le_of_ble_eq_true rfl) (Nat.le_of_ble_eq_true rfl) (oc_187 38 (aq_14 shX11_sewer_24) uw_1_217) (fun q38 H hP hD hS => ?_)
        have hP : va_P D vwCl ((wX cI (D.1 99) zz g ad cn In Fn) ++ ([(q38, .inr (7, [.int 0, .int 0, .int 0]))] : va_W)) H := hP
        have hD : va_D A ((wX cI (D.1 99) zz g ad cn In Fn) ++ ([(q38, .inr (7, [.int 0, .int 0, .int 0]))] : va_W)) := hD
        refine lv_dup hx hb (oc_89 41 (aq_17 shX11_sewer_24)) rfl ?_
        refine lv_iload_n hx hb (oc_27 42 (aq_18 shX11_sewer_24)) rfl (lvA1 hl) ?_
        refine lv_iload_n hx hb (oc_28 43 (aq_19 shX11_sewer_24)) rfl (lvA2 hl) ?_
        have hFc := va_free (wc := [(q38, .inr (7, [.int 0, .int 0, .int 0]))]) hD hS hA [_] (one_im (exr (m := 0) rfl))
        refine va_callv (runI_w (As := [.int v0, .int v1]) (rest := [.ref q38, .ref (g 14)]) S (q_l_Sewer l D cI cB cZ q38 v0 v1 H.size) kI_RX11_475 hK hP hD [_] (one_is (exr (m := 0) rfl)) (one_im (exr (m := 0) rfl)) rfl ⟨Nat.le_of_ble_eq_true rfl, Nat.le_of_ble_eq_true rfl⟩ ⟨Nat.le_of_ble_eq_true rfl, Nat.le_of_ble_eq_true rfl⟩ rfl hl.1 rfl (Nat.le_of_ble_eq_true rfl) (oc_183 44 (aq_20 shX11_sewer_24) uw_1_219)) hS (fun q _ h => hFc q h) hFc (fun u_8 t H1 locs ht hvm h_9 hB1 hz1 hk1 hS => ?_)
        obtain ⟨hP1, hD1⟩ := hB1
        rw [ht] at hP1
        obtain ⟨hP, hD⟩ := exjoin hP hD hk1 hFc hP1 hD1
        generalize H1 = H at hP hS ⊢
        have hP : va_P D vwCl ((wX cI (D.1 99) zz g ad cn In Fn) ++ ([(q38, .inr (7, [.int v0, .int v1, .int 0]))] : va_W)) H := hP
        have hD : va_D A ((wX cI (D.1 99) zz g ad cn In Fn) ++ ([(q38, .inr (7, [.int v0, .int v1, .int 0]))] : va_W)) := hD
        rcases Nat.eq_zero_or_pos (cn 14) with hz0 | hz0
        ·
          have hi9 : (wX cI (D.1 99) zz g ad cn In Fn)[28]? = _ := xlz_4 hz0
          have hp2P := pick2P hP (exl hi9) (exr (m := 0) rfl)
          have hp2D := pick2D hD (exl hi9) (exr (m := 0) rfl) (ne_ex hi9)
          have hFc := free_all hp2D hS hA
          refine va_calli (runV_xa (As := [.ref q38]) (rest := []) S (q_l_addZS l D cI cB cZ zz qq vv bt (g 14) q38 (In 14) v0 v1 0 H.size) kV_RX11_110 hK hXS hS hFc hp2P hp2D 0 rfl rfl rfl ⟨Nat.le_of_ble_eq_true rfl, Nat.le_of_ble_eq_true rfl⟩ ⟨Nat.le_of_ble_eq_true rfl, Nat.le_of_ble_eq_true rfl⟩ rfl hl.1 rfl (Nat.le_of_ble_eq_true rfl) (oc_182 47 (aq_23 shX11_sewer_24) uw_0_110)) hS (fun q _ h => hFc q h) hFc (fun r9 u9 t H1 locs ht hvm h9 hB1 hz1 hk1 hS => ?_)
          obtain ⟨hP1, hD1⟩ := hB1
          rw [ht] at hP1
          obtain rfl : r9 = 1 := h9
          obtain ⟨hP, hD⟩ := add0_join hP hD hi9 rfl hk1 hFc hP1 hD1 rfl (xu_4 (z := u9) (c := 10) (y := (In 14) + 1) (q := q38) (x0 := v0) (x1 := v1) (x2 := 0) hz0)
          have hP : va_P D vwCl (wX cI (D.1 99) zz g (adP ad 14 (cn 14) q38 4 u9) (va_up (va_up cn 14 ((cn 14) + 1)) 24 10) (va_up In 14 ((In 14) + 1)) (va_up (va_up (va_up Fn 170 (upd (Fn 170) (cn 14) v0)) 171 (upd (Fn 171) (cn 14) v1)) 172 (upd (Fn 172) (cn 14) 0))) H1 := hP
          have hD : va_D A (wX cI (D.1 99) zz g (adP ad 14 (cn 14) q38 4 u9) (va_up (va_up cn 14 ((cn 14) + 1)) 24 10) (va_up In 14 ((In 14) + 1)) (va_up (va_up (va_up Fn 170 (upd (Fn 170) (cn 14) v0)) 171 (upd (Fn 171) (cn 14) v1)) 172 (upd (Fn 172) (cn 14) 0))) := hD
          generalize H1 = H at hP hS ⊢
          refine W.widen (k := 2) (n := 103) (Nat.le_of_ble_eq_true rfl) (Nat.le_of_ble_eq_true rfl) ?_
          refine lv_pop hx hb (oc_87 50 shX11_sewer_50) rfl ?_
          refine lv_aload_n hx hb (oc_42 51 (aq_1 shX11_sewer_50)) rfl (lvA0 hl) ?_
          refine gf_RX11_74 S hK hP 0 xo_0 (v := .ref (g 14)) rfl (oc_180 52 (aq_2 shX11_sewer_50) uw_0_74) ?_
          refine vp_callSi (runV_r (As := []) (rest := []) S (q_l_size l D cI cB cZ (g 14) (if ((cn 14) + 1) = 0 then zz else (adP ad 14 (cn 14) q38 4 u9) 2 4) ((In 14) + 1) (nI ((cn 14) + 1))) kV_RX11_84 hK hP [28] (one_is xo_28) 28 xo_28 rfl rfl ⟨Nat.le_of_ble_eq_true rfl, Nat.le_of_ble_eq_true rfl⟩ ⟨Nat.le_of_ble_eq_true rfl, Nat.le_of_ble_eq_true rfl⟩ rfl hl.1 rfl (Nat.le_of_ble_eq_true rfl) (oc_182 55 (aq_5 shX11_sewer_50) uw_0_84)) (fun r_11 h_12 => ?_)
          subst h_12
          refine lv_iconst (v := 1) hx hb (oc_4 58 (aq_8 shX11_sewer_50)) kic_1 ?_
          refine lv_isub hx hb (oc_100 59 (aq_9 shX11_sewer_50)) ?_
          refine lv_topi (fun y_13 ey_13 => ?_)
          obtain rfl : y_13 = (nI (cn 14)) := ey_13.trans (nI_sub (b := 1) (by omega))
          exact W.iret (v := (nI (cn 14))) hx hb hr (fun t ht hW => ⟨⟨(nI (cn 14)), ((adP ad 14 (cn 14) q38 4 u9), (va_up (va_up cn 14 ((cn 14) + 1)) 24 10), (va_up In 14 ((In 14) + 1)), (va_up (va_up (va_up Fn 170 (upd (Fn 170) (cn 14) v0)) 171 (upd (Fn 171) (cn 14) v1)) 172 (upd (Fn 172) (cn 14) 0))), rfl, (Or.inr ⟨rfl, by omega, q38, u9, 10, ((In 14) + 1), ⟨by omega, by omega⟩, rfl, rfl, rfl, rfl⟩), by rw [ht]; exact hP, hD⟩, hS.F ht⟩) hS.2.2 (oc_172 60 (aq_10 shX11_sewer_50))
        ·
          have hi9 : (wX cI (D.1 99) zz g ad cn In Fn)[28]? = _ := xl_4 hz0
          have hj9 : (wX cI (D.1 99) zz g ad cn In Fn)[_]? = _ := xf_17 (k := 0) (show 0 < min 1 (cn 14) by omega)
          obtain ⟨ws9, hp1, hp2⟩ := pickG (W := ((wX cI (D.1 99) zz g ad cn In Fn) ++ ([(q38, .inr (7, [.int v0, .int v1, .int 0]))] : va_W))) (exl hi9) (exl hj9) (exr (m := 0) rfl) (xij (by decide)) (ne_ex hi9) (ne_ex hj9)
          have hP9 := va_P_perm hp1 hP
          have hD9 := va_D_perm hp1 hD
          have hFc := free_all hD9 hS hA
          refine va_calli (runV_xa (As := [.ref q38]) (rest := []) S (q_l_addGS l D cI cB cZ zz qq vv bt (cn 24) (g 14) (ad 2 4) (cn 14) q38 (In 14) (ad 14) v0 v1 0 ws9 H.size (by omega) (by omega) hz0 (by omega) (fun i hi => ⟨_, g_mem (hp1.mem_iff.mp (List.mem_of_getElem? (exl (xf_4 (k := i) hi)))) (by decide)⟩)) kV_RX11_110 hK hXS hS hFc hP9 hD9 0 rfl rfl rfl ⟨Nat.le_of_ble_eq_true rfl, Nat.le_of_ble_eq_true rfl⟩ ⟨Nat.le_of_ble_eq_true rfl, Nat.le_of_ble_eq_true rfl⟩ rfl hl.1 rfl (Nat.le_of_ble_eq_true rfl) (oc_182 47 (aq_23 shX11_sewer_24) uw_0_110)) hS (fun q _ h => hFc q h) hFc (fun r9 u9 t H1 locs ht hvm h9 hB1 hz1 hk1 hS => ?_)
          obtain ⟨hP1, hD1⟩ := hB1
          rw [ht] at hP1
          obtain ⟨hr9, h9⟩ := h9
          obtain rfl : r9 = 1 := hr9
          obtain ⟨ua9, uc9⟩ := u9
          have hu9 : cn 14 < uc9 ∧ uc9 ≤ 100 := h9
          obtain ⟨hP, hD⟩ := addG_join hp2 hi9 hj9 hP1 hD1 hFc (xadd_4 (z := ua9) (c := uc9) (y := (In 14) + 1) (q := q38) (x0 := v0) (x1 := v1) (x2 := 0) hz0)
          have hP : va_P D vwCl (wX cI (D.1 99) zz g (adP ad 14 (cn 14) q38 4 ua9) (va_up (va_up cn 14 ((cn 14) + 1)) 24 uc9) (va_up In 14 ((In 14) + 1)) (va_up (va_up (va_up Fn 170 (upd (Fn 170) (cn 14) v0)) 171 (upd (Fn 171) (cn 14) v1)) 172 (upd (Fn 172) (cn 14) 0))) H1 := hP
          have hD : va_D A (wX cI (D.1 99) zz g (adP ad 14 (cn 14) q38 4 ua9) (va_up (va_up cn 14 ((cn 14) + 1)) 24 uc9) (va_up In 14 ((In 14) + 1)) (va_up (va_up (va_up Fn 170 (upd (Fn 170) (cn 14) v0)) 171 (upd (Fn 171) (cn 14) v1)) 172 (upd (Fn 172) (cn 14) 0))) := hD
          generalize H1 = H at hP hS ⊢
          refine lv_pop hx hb (oc_87 50 shX11_sewer_50) rfl ?_
          refine lv_aload_n hx hb (oc_42 51 (aq_1 shX11_sewer_50)) rfl (lvA0 hl) ?_
          refine gf_RX11_74 S hK hP 0 xo_0 (v := .ref (g 14)) rfl (oc_180 52 (aq_2 shX11_sewer_50) uw_0_74) ?_
          refine vp_callSi (runV_r (As := []) (rest := []) S (q_l_size l D cI cB cZ (g 14) (if ((cn 14) + 1) = 0 then zz else (adP ad 14 (cn 14) q38 4 ua9) 2 4) ((In 14) + 1) (nI ((cn 14) + 1))) kV_RX11_84 hK hP [28] (one_is xo_28) 28 xo_28 rfl rfl ⟨Nat.le_of_ble_eq_true rfl, Nat.le_of_ble_eq_true rfl⟩ ⟨Nat.le_of_ble_eq_true rfl, Nat.le_of_ble_eq_true rfl⟩ rfl hl.1 rfl (Nat.le_of_ble_eq_true rfl) (oc_182 55 (aq_5 shX11_sewer_50) uw_0_84)) (fun r_14 h_15 => ?_)
          subst h_15
          refine lv_iconst (v := 1) hx hb (oc_4 58 (aq_8 shX11_sewer_50)) kic_1 ?_
          refine lv_isub hx hb (oc_100 59 (aq_9 shX11_sewer_50)) ?_
          refine lv_topi (fun y_16 ey_16 => ?_)
          obtain rfl : y_16 = (nI (cn 14)) := ey_16.trans (nI_sub (b := 1) (by omega))
          exact W.iret (v := (nI (cn 14))) hx hb hr (fun t ht hW => ⟨⟨(nI (cn 14)), ((adP ad 14 (cn 14) q38 4 ua9), (va_up (va_up cn 14 ((cn 14) + 1)) 24 uc9), (va_up In 14 ((In 14) + 1)), (va_up (va_up (va_up Fn 170 (upd (Fn 170) (cn 14) v0)) 171 (upd (Fn 171) (cn 14) v1)) 172 (upd (Fn 172) (cn 14) 0))), rfl, (Or.inr ⟨rfl, by omega, q38, ua9, uc9, ((In 14) + 1), ⟨by omega, by omega⟩, rfl, rfl, rfl, rfl⟩), by rw [ht]; exact hP, hD⟩, hS.F ht⟩) hS.2.2 (oc_172 60 (aq_10 shX11_sewer_50))
      ·
        have tc_7 : (10 : Int) ≤ (nI (cn 14)).toInt := Int32.le_iff_toInt_le.mp (Int32.not_lt.mp c_7)
        refine lv_iconst (v := (-1)) hx hb (oc_2 32 (aq_8 shX11_sewer_24)) kic_m1 ?_
        refine W.widen (k := 2) (n := 103) (Nat.le_of_ble_eq_true rfl) (Nat.le_of_ble_eq_true rfl) ?_
        exact W.iret (v := (-1)) hx hb hr (fun t ht hW => ⟨⟨(-1), (ad, cn, In, Fn), rfl, (Or.inl ⟨rfl, by omega, rfl, rfl, rfl, rfl⟩), by rw [ht]; exact hP, hD⟩, hS.F ht⟩) hS.2.2 (oc_172 33 (aq_9 shX11_sewer_24))
    ·
      have h_4 : ¬ (0 ≤ v1.toInt ∧ v1.toInt ≤ 99) := h_4
      refine lv_if_eq (tgt := 32) hx hb (oc_153 17 (aq_17 shX11_sewer_0) sgw_0_15) rfl (fun _ => ?_) (fun h => absurd h cq_eq_0_0)
      refine lv_iconst (v := (-1)) hx hb (oc_2 32 (aq_8 shX11_sewer_24)) kic_m1 ?_
      refine W.widen (k := 2) (n := 103) (Nat.le_of_ble_eq_true rfl) (Nat.le_of_ble_eq_true rfl) ?_
      exact W.iret (v := (-1)) hx hb hr (fun t ht hW => ⟨⟨(-1), (ad, cn, In, Fn), rfl, (Or.inl ⟨rfl, by omega, rfl, rfl, rfl, rfl⟩), by rw [ht]; exact hP, hD⟩, hS.F ht⟩) hS.2.2 (oc_172 33 (aq_9 shX11_sewer_24))
  ·
    have h_2 : ¬ (0 ≤ v0.toInt ∧ v0.toInt ≤ 99) := h_2
    refine lv_if_eq (tgt := 32) hx hb (oc_153 7 (aq_7 shX11_sewer_0) sgw_0_25) rfl (fun _ => ?_) (fun h => absurd h cq_eq_0_0)
    refine lv_iconst (v := (-1)) hx hb (oc_2 32 (aq_8 shX11_sewer_24)) kic_m1 ?_
    refine W.widen (k := 2) (n := 103) (Nat.le_of_ble_eq_true rfl) (Nat.le_of_ble_eq_true rfl) ?_
    exact W.iret (v := (-1)) hx hb hr (fun t ht hW => ⟨⟨(-1), (ad, cn, In, Fn), rfl, (Or.inl ⟨rfl, by omega, rfl, rfl, rfl, rfl⟩), by rw [ht]; exact hP, hD⟩, hS.F ht⟩) hS.2.2 (oc_172 33 (aq_9 shX11_sewer_24))
set_option maxRecDepth 100000 in
set_option maxHeartbeats 4000000 in
theorem q_Xkitchen (l : Launch) (D : va_G) (cI cB cZ : ClassId) (zz qq vv : Nat) (bt : Nat → Int32) (g : Nat → Nat) (ad : Nat → Nat → Nat) (cn : Nat → Nat) (In : Nat → Int32) (Fn : Nat → Nat → Int32) (v0 v1 v2 v3 : Int32) (sz : Nat) (hB : CBX cn) (hT : (∀ k : Nat, k < cn 10 → ad 3 k < cn 6) ∧ ad 4 0 < cn 6 ∧ ad 4 1 < cn 6) : Met l yX11_kitchen (CWS yX11_kitchen cX11_kitchen 6 (some .int)) (RM 8 8 188) (PBx [.ref (g 0), .int v0, .int v1, .int v2, .int v3] D cI cB cZ zz qq vv bt (wX cI (D.1 99) zz g ad cn In Fn) sz) (va_Qi (fun (r : Int32) (u : (Nat → Nat → Nat) × (Nat → Nat) × (Nat → Int32) × (Nat → Nat → Int32)) => (fun r a2 c2 I2 F2 => (r = (-1) ∧ ¬ (0 ≤ v0.toInt ∧ v0.toInt ≤ 99 ∧ 0 ≤ v1.toInt ∧ v1.toInt ≤ 99 ∧ 0 ≤ v2.toInt ∧ v2.toInt ≤ 50 ∧ 20 ≤ v3.toInt ∧ v3.toInt ≤ 400 ∧ cn 10 < 10) ∧ ad = a2 ∧ cn = c2 ∧ In = I2 ∧ Fn = F2) ∨ (r = nI (cn 10) ∧ (0 ≤ v0.toInt ∧ v0.toInt ≤ 99 ∧ 0 ≤ v1.toInt ∧ v1.toInt ≤ 99 ∧ 0 ≤ v2.toInt ∧ v2.toInt ≤ 50 ∧ 20 ≤ v3.toInt ∧ v3.toInt ≤ 400 ∧ cn 10 < 10) ∧ ∃ (q qt r0 r1 r2 r3 r4 z c : Nat) (y : Int32), (cn 10 < c ∧ c ≤ 100) ∧ (adO (adO (adO (adO (adO (adO (adO (adO (adO ad 10 (cn 10) q) 3 (cn 10) (cn 6)) 5 (cn 6) qt) 60 (cn 6) r0) 61 (cn 6) r1) 62 (cn 6) r2) 63 (cn 6) r3) 64 (cn 6) r4) 2 0 z) = a2 ∧ (va_up (va_up (va_up cn 10 ((cn 10) + 1)) 20 c) 6 (cn 6 + 1)) = c2 ∧ (va_up In 10 y) = I2 ∧ (va_up (va_up (va_up (va_up (va_up (va_up (va_up (va_up (va_up (va_up (va_up (va_up (va_up (va_up (va_up (va_up (va_up (va_up (va_up (va_up Fn 100 (upd (Fn 100) (cn 10) v0)) 101 (upd (Fn 101) (cn 10) v1)) 102 (upd (Fn 102) (cn 10) v2)) 103 (upd (Fn 103) (cn 10) v3)) 104 (upd (Fn 104) (cn 10) 0)) 105 (upd (Fn 105) (cn 10) 0)) 106 (upd (Fn 106) (cn 10) 0)) 107 (upd (Fn 107) (cn 10) 0)) 108 (upd (Fn 108) (cn 10) 0)) 109 (upd (Fn 109) (cn 10) 0)) 195 (upd (Fn 195) (cn 6) 0)) 196 (upd (Fn 196) (cn 6) 0)) 197 (upd (Fn 197) (cn 6) 0)) 198 (upd (Fn 198) (cn 6) 0)) 199 (upd (Fn 199) (cn 6) 0)) 301 (flat (Fn 301) 200 (cn 6) (fun _ => 0))) 302 (flat (Fn 302) 12 (cn 6) (fun _ => 0))) 303 (flat (Fn 303) 12 (cn 6) (fun _ => 0))) 304 (flat (Fn 304) 12 (cn 6) (fun _ => 0))) 305 (flat (Fn 305) 32 (cn 6) (fun _ => 0))) = F2)) r u.1 u.2.1 u.2.2.1 u.2.2.2) (fun (u : (Nat → Nat → Nat) × (Nat → Nat) × (Nat → Int32) × (Nat → Nat → Int32)) (t : State) => va_P D vwCl (wX cI (D.1 99) zz g u.1 u.2.1 u.2.2.1 u.2.2.2) t.heap ∧ va_D (va_A (wX cI (D.1 99) zz g ad cn In Fn) sz) (wX cI (D.1 99) zz g u.1 u.2.1 u.2.2.1 u.2.2.2)) (va_A (wX cI (D.1 99) zz g ad cn In Fn) sz)) 8 188 (va_A (wX cI (D.1 99) zz g ad cn In Fn) sz) := by
  refine en_x (fun A => (va_Qi (fun (r : Int32) (u : (Nat → Nat → Nat) × (Nat → Nat) × (Nat → Int32) × (Nat → Nat → Int32)) => (fun (r : Int32) (a2 : Nat → Nat → Nat) (c2 : Nat → Nat) (I2 : Nat → Int32) (F2 : Nat → Nat → Int32) => (r = (-1) ∧ ¬ (0 ≤ v0.toInt ∧ v0.toInt ≤ 99 ∧ 0 ≤ v1.toInt ∧ v1.toInt ≤ 99 ∧ 0 ≤ v2.toInt ∧ v2.toInt ≤ 50 ∧ 20 ≤ v3.toInt ∧ v3.toInt ≤ 400 ∧ cn 10 < 10) ∧ ad = a2 ∧ cn = c2 ∧ In = I2 ∧ Fn = F2) ∨ (r = nI (cn 10) ∧ (0 ≤ v0.toInt ∧ v0.toInt ≤ 99 ∧ 0 ≤ v1.toInt ∧ v1.toInt ≤ 99 ∧ 0 ≤ v2.toInt ∧ v2.toInt ≤ 50 ∧ 20 ≤ v3.toInt ∧ v3.toInt ≤ 400 ∧ cn 10 < 10) ∧ ∃ (q qt r0 r1 r2 r3 r4 z c : Nat) (y : Int32), (cn 10 < c ∧ c ≤ 100) ∧ (adO (adO (adO (adO (adO (adO (adO (adO (adO ad 10 (cn 10) q) 3 (cn 10) (cn 6)) 5 (cn 6) qt) 60 (cn 6) r0) 61 (cn 6) r1) 62 (cn 6) r2) 63 (cn 6) r3) 64 (cn 6) r4) 2 0 z) = a2 ∧ (va_up (va_up (va_up cn 10 ((cn 10) + 1)) 20 c) 6 (cn 6 + 1)) = c2 ∧ (va_up In 10 y) = I2 ∧ (va_up (va_up (va_up (va_up (va_up (va_up (va_up (va_up (va_up (va_up (va_up (va_up (va_up (va_up (va_up (va_up (va_up (va_up (va_up (va_up Fn 100 (upd (Fn 100) (cn 10) v0)) 101 (upd (Fn 101) (cn 10) v1)) 102 (upd (Fn 102) (cn 10) v2)) 103 (upd (Fn 103) (cn 10) v3)) 104 (upd (Fn 104) (cn 10) 0)) 105 (upd (Fn 105) (cn 10) 0)) 106 (upd (Fn 106) (cn 10) 0)) 107 (upd (Fn 107) (cn 10) 0)) 108 (upd (Fn 108) (cn 10) 0)) 109 (upd (Fn 109) (cn 10) 0)) 195 (upd (Fn 195) (cn 6) 0)) 196 (upd (Fn 196) (cn 6) 0)) 197 (upd (Fn 197) (cn 6) 0)) 198 (upd (Fn 198) (cn 6) 0)) 199 (upd (Fn 199) (cn 6) 0)) 301 (flat (Fn 301) 200 (cn 6) (fun _ => 0))) 302 (flat (Fn 302) 12 (cn 6) (fun _ => 0))) 303 (flat (Fn 303) 12 (cn 6) (fun _ => 0))) 304 (flat (Fn 304) 12 (cn 6) (fun _ => 0))) 305 (flat (Fn 305) 32 (cn 6) (fun _ => 0))) = F2)) r u.1 u.2.1 u.2.2.1 u.2.2.2) (fun (u : (Nat → Nat → Nat) × (Nat → Nat) × (Nat → Int32) × (Nat → Nat → Int32)) (t : State) => va_P D vwCl (wX cI (D.1 99) zz g u.1 u.2.1 u.2.2.1 u.2.2.2) t.heap ∧ va_D A (wX cI (D.1 99) zz g u.1 u.2.1 u.2.2.1 u.2.2.2)) A)) rfl rfl pn_RX11 (Nat.le_of_ble_eq_true rfl) (fun p e s m below meth c A hx hb hml hown S hr hlocks hnm hA hP hK hD hXS hS ls hl => ?_)
  have hl : lv_has ls 6 [(0, .ref (g 0)), (1, .int v0), (2, .int v1), (3, .int v2), (4, .int v3)] := hl
  refine lv_iload_n hx hb (oc_27 0 shX11_kitchen_0) rfl (lvA1 hl) ?_
  refine lv_iconst (v := 0) hx hb (oc_3 1 (aq_1 shX11_kitchen_0)) kic_0 ?_
  refine lv_bipush (v := 99) hx hb (oc_16 2 (aq_2 shX11_kitchen_0) sgb_99) kbc_99 ?_
  refine vp_callSi (runS_r (As := [.int v0, .int 0, .int 99]) (rest := []) S (q_l_within l D cI cB cZ v0 0 99) kS_RX11_80 hK hP [] rfl ⟨Nat.le_of_ble_eq_true rfl, Nat.le_of_ble_eq_true rfl⟩ ⟨Nat.le_of_ble_eq_true rfl, Nat.le_of_ble_eq_true rfl⟩ rfl hl.1 rfl (Nat.le_of_ble_eq_true rfl) (oc_184 4 (aq_4 shX11_kitchen_0) uw_0_80)) (fun r_1 h_2 => ?_)
  rcases h_2 with ⟨rfl, h_2⟩ | ⟨rfl, h_2⟩
  ·
    have h_2 : 0 ≤ v0.toInt ∧ v0.toInt ≤ 99 := h_2
    refine lv_if_eq (tgt := 24) hx hb (oc_153 7 (aq_7 shX11_kitchen_0) sgw_0_17) rfl (fun h => absurd h cq_eq_1_0) (fun _ => ?_)
    refine lv_iload_n hx hb (oc_28 10 (aq_10 shX11_kitchen_0)) rfl (lvA2 hl) ?_
    refine lv_iconst (v := 0) hx hb (oc_3 11 (aq_11 shX11_kitchen_0)) kic_0 ?_
    refine lv_bipush (v := 99) hx hb (oc_16 12 (aq_12 shX11_kitchen_0) sgb_99) kbc_99 ?_
    refine vp_callSi (runS_r (As := [.int v1, .int 0, .int 99]) (rest := []) S (q_l_within l D cI cB cZ v1 0 99) kS_RX11_80 hK hP [] rfl ⟨Nat.le_of_ble_eq_true rfl, Nat.le_of_ble_eq_true rfl⟩ ⟨Nat.le_of_ble_eq_true rfl, Nat.le_of_ble_eq_true rfl⟩ rfl hl.1 rfl (Nat.le_of_ble_eq_true rfl) (oc_184 14 (aq_14 shX11_kitchen_0) uw_0_80)) (fun r_3 h_4 => ?_)
    rcases h_4 with ⟨rfl, h_4⟩ | ⟨rfl, h_4⟩
    ·
      have h_4 : 0 ≤ v1.toInt ∧ v1.toInt ≤ 99 := h_4
      refine lv_if_eq (tgt := 24) hx hb (oc_153 17 (aq_17 shX11_kitchen_0) sgw_0_7) rfl (fun h => absurd h cq_eq_1_0) (fun _ => ?_)
      refine lv_iconst (v := 1) hx hb (oc_4 20 (aq_20 shX11_kitchen_0)) kic_1 ?_
      refine lv_goto (tgt := 25) hx hb (oc_167 21 (aq_21 shX11_kitchen_0) sgw_0_4) rfl ?_
      refine lv_istore (lv' := [(5, .int 1), (0, .ref (g 0)), (1, .int v0), (2, .int v1), (3, .int v2), (4, .int v3)]) hx hb (oc_54 25 (aq_1 shX11_kitchen_24) ub_5) hl (ltb rfl) rfl (fun ls hl => ?_)
      refine lv_iload hx hb (oc_21 27 (aq_3 shX11_kitchen_24) ub_5) (lvA0 hl) ?_
      refine lv_if_eq (tgt := 67) hx hb (oc_153 29 (aq_5 shX11_kitchen_24) sgw_0_38) rfl (fun h => absurd h cq_eq_1_0) (fun _ => ?_)
      refine lv_iload_n hx hb (oc_29 32 (aq_8 shX11_kitchen_24)) rfl (lvA4 hl) ?_
      refine lv_iconst (v := 0) hx hb (oc_3 33 (aq_9 shX11_kitchen_24)) kic_0 ?_
      refine lv_bipush (v := 50) hx hb (oc_16 34 (aq_10 shX11_kitchen_24) sgb_50) kbc_50 ?_
      refine vp_callSi (runS_r (As := [.int v2, .int 0, .int 50]) (rest := []) S (q_l_within l D cI cB cZ v2 0 50) kS_RX11_80 hK hP [] rfl ⟨Nat.le_of_ble_eq_true rfl, Nat.le_of_ble_eq_true rfl⟩ ⟨Nat.le_of_ble_eq_true rfl, Nat.le_of_ble_eq_true rfl⟩ rfl hl.1 rfl (Nat.le_of_ble_eq_true rfl) (oc_184 36 (aq_12 shX11_kitchen_24) uw_0_80)) (fun r_5 h_6 => ?_)
      rcases h_6 with ⟨rfl, h_6⟩ | ⟨rfl, h_6⟩
      ·
        have h_6 : 0 ≤ v2.toInt ∧ v2.toInt ≤ 50 := h_6
        refine lv_if_eq (tgt := 67) hx hb (oc_153 39 (aq_15 shX11_kitchen_24) sgw_0_28) rfl (fun h => absurd h cq_eq_1_0) (fun _ => ?_)
        refine lv_iload hx hb (oc_21 42 (aq_18 shX11_kitchen_24) ub_4) (lvA5 hl) ?_
        refine lv_bipush (v := 20) hx hb (oc_16 44 (aq_20 shX11_kitchen_24) sgb_20) kbc_20 ?_
        refine lv_sipush (v := 400) hx hb (oc_17 46 (aq_22 shX11_kitchen_24) sgw_1_144) (by decide) ?_
        refine vp_callSi (runS_r (As := [.int v3, .int 20, .int 400]) (rest := []) S (q_l_within l D cI cB cZ v3 20 400) kS_RX11_80 hK hP [] rfl ⟨Nat.le_of_ble_eq_true rfl, Nat.le_of_ble_eq_true rfl⟩ ⟨Nat.le_of_ble_eq_true rfl, Nat.le_of_ble_eq_true rfl⟩ rfl hl.1 rfl (Nat.le_of_ble_eq_true rfl) (oc_184 49 shX11_kitchen_49 uw_0_80)) (fun r_7 h_8 => ?_)
        rcases h_8 with ⟨rfl, h_8⟩ | ⟨rfl, h_8⟩
        ·
          have h_8 : 20 ≤ v3.toInt ∧ v3.toInt ≤ 400 := h_8
          refine lv_if_eq (tgt := 67) hx hb (oc_153 52 (aq_3 shX11_kitchen_49) sgw_0_15) rfl (fun h => absurd h cq_eq_1_0) (fun _ => ?_)
          refine lv_aload_n hx hb (oc_42 55 (aq_6 shX11_kitchen_49)) rfl (lvA1 hl) ?_
          refine gf_RX11_61 S hK hP 0 xo_0 (v := .ref (g 10)) rfl (oc_180 56 (aq_7 shX11_kitchen_49) uw_0_61) ?_
          refine vp_callSi (runV_r (As := []) (rest := []) S (q_l_size l D cI cB cZ (g 10) (if (cn 10) = 0 then zz else ad 2 0) (In 10) (nI (cn 10))) kV_RX11_84 hK hP [24] (one_is xo_24) 24 xo_24 rfl rfl ⟨Nat.le_of_ble_eq_true rfl, Nat.le_of_ble_eq_true rfl⟩ ⟨Nat.le_of_ble_eq_true rfl, Nat.le_of_ble_eq_true rfl⟩ rfl hl.1 rfl (Nat.le_of_ble_eq_true rfl) (oc_182 59 (aq_10 shX11_kitchen_49) uw_0_84)) (fun r_9 h_10 => ?_)
          subst h_10
          refine lv_bipush (v := 10) hx hb (oc_16 62 (aq_13 shX11_kitchen_49) sgb_10) kbc_10 ?_
          have : (nI (cn 10)).toInt = (((cn 10) : Nat) : Int) := nI_toInt (by omega)
          refine lv_icmp_lt (tgt := 69) hx hb (oc_161 64 (aq_15 shX11_kitchen_49) sgw_0_5) rfl (fun c_11 => ?_) (fun c_11 => ?_)
          ·
            have tc_11 : ((nI (cn 10)).toInt : Int) < 10 := Int32.lt_iff_toInt_lt.mp c_11
            refine lv_aload_n hx hb (oc_42 69 (aq_20 shX11_kitchen_49)) rfl (lvA1 hl) ?_
            refine gf_RX11_61 S hK hP 0 xo_0 (v := .ref (g 10)) rfl (oc_180 70 (aq_21 shX11_kitchen_49) uw_0_61) ?_
            refine va_new (ci := 2) (fs := [.int 0, .int 0, .int 0, .int 0, .int 0, .int 0, .int 0, .int 0, .int 0, .int 0, .null]) (C := RX1) (T := TX1) (N := 11) hx hb S.2.2.2.2 hin_RX1 tyX1 tyX1_ok hown (S.2.2.2.2 _ (wk2_5 3 rfl rfl)) (S.2.2.2.2 _ (wk2_5 4 rfl rfl)) (S.2.2.2.2 _ (wk1_1 2 rfl rfl)) hK.1 hP hD hS hA rfl (by decide +kernel) (Nat.le_of_ble_eq_true rfl) (Nat.le_of_ble_eq_true rfl) (oc_187 73 shX11_kitchen_73 uw_0_91) (fun q73 H hP hD hS => ?_)
            have hP : va_P D vwCl ((wX cI (D.1 99) zz g ad cn In Fn) ++ ([(q73, .inr (2, [.int 0, .int 0, .int 0, .int 0, .int 0, .int 0, .int 0, .int 0, .int 0, .int 0, .null]))] : va_W)) H := hP
            have hD : va_D A ((wX cI (D.1 99) zz g ad cn In Fn) ++ ([(q73, .inr (2, [.int 0, .int 0, .int 0, .int 0, .int 0, .int 0, .int 0, .int 0, .int 0, .int 0, .null]))] : va_W)) := hD
            refine lv_dup hx hb (oc_89 76 (aq_3 shX11_kitchen_73)) rfl ?_
            refine lv_iload_n hx hb (oc_27 77 (aq_4 shX11_kitchen_73)) rfl (lvA2 hl) ?_
            refine lv_iload_n hx hb (oc_28 78 (aq_5 shX11_kitchen_73)) rfl (lvA3 hl) ?_
            refine lv_iload_n hx hb (oc_29 79 (aq_6 shX11_kitchen_73)) rfl (lvA4 hl) ?_
            refine lv_iload hx hb (oc_21 80 (aq_7 shX11_kitchen_73) ub_4) (lvA5 hl) ?_
            have hFc := va_free (wc := [(q73, .inr (2, [.int 0, .int 0, .int 0, .int 0, .int 0, .int 0, .int 0, .int 0, .int 0, .int 0, .null]))]) hD hS hA [_] (one_im (exr (m := 0) rfl))
            refine va_callv (runI_w (As := [.int v0, .int v1, .int v2, .int v3]) (rest := [.ref q73, .ref (g 10)]) S (q_l_Kitchen l D cI cB cZ q73 v0 v1 v2 v3 H.size) kI_RX11_107 hK hP hD [_] (one_is (exr (m := 0) rfl)) (one_im (exr (m := 0) rfl)) rfl ⟨Nat.le_of_ble_eq_true rfl, Nat.le_of_ble_eq_true rfl⟩ ⟨Nat.le_of_ble_eq_true rfl, Nat.le_of_ble_eq_true rfl⟩ rfl hl.1 rfl (Nat.le_of_ble_eq_true rfl) (oc_183 82 (aq_9 shX11_kitchen_73) uw_0_107)) hS (fun q _ h => hFc q h) hFc (fun u_12 t H1 locs ht hvm h_13 hB1 hz1 hk1 hS => ?_)
            obtain ⟨hP1, hD1⟩ := hB1
            rw [ht] at hP1
            obtain ⟨hP, hD⟩ := exjoin hP hD hk1 hFc hP1 hD1
            generalize H1 = H at hP hS ⊢
            have hP : va_P D vwCl ((wX cI (D.1 99) zz g ad cn In Fn) ++ ([(q73, .inr (2, [.int v0, .int v1, .int v2, .int v3, .int 0, .int 0, .int 0, .int 0, .int 0, .int 0, .ref (u_12 5)])), ((u_12 5), .inr (10, [.ref (u_12 0), .ref (u_12 1), .ref (u_12 2), .ref (u_12 3), .ref (u_12 4), .int 0, .int 0, .int 0, .int 0])), ((u_12 0), .inl (cI, 0, .inl (fun _ => 0))), ((u_12 1), .inl (cI, 12, .inl (fun _ => 0))), ((u_12 2), .inl (cI, 12, .inl (fun _ => 0))), ((u_12 3), .inl (cI, 12, .inl (fun _ => 0))), ((u_12 4), .inl (cI, 32, .inl (fun _ => 0)))] : va_W)) H := hP
            have hD : va_D A ((wX cI (D.1 99) zz g ad cn In Fn) ++ ([(q73, .inr (2, [.int v0, .int v1, .int v2, .int v3, .int 0, .int 0, .int 0, .int 0, .int 0, .int 0, .ref (u_12 5)])), ((u_12 5), .inr (10, [.ref (u_12 0), .ref (u_12 1), .ref (u_12 2), .ref (u_12 3), .ref (u_12 4), .int 0, .int 0, .int 0, .int 0])), ((u_12 0), .inl (cI, 0, .inl (fun _ => 0))), ((u_12 1), .inl (cI, 12, .inl (fun _ => 0))), ((u_12 2), .inl (cI, 12, .inl (fun _ => 0))), ((u_12 3), .inl (cI, 12, .inl (fun _ => 0))), ((u_12 4), .inl (cI, 32, .inl (fun _ => 0)))] : va_W)) := hD
            rcases Nat.eq_zero_or_pos (cn 10) with hz0 | hz0
            ·
              have hi9 : (wX cI (D.1 99) zz g ad cn In Fn)[24]? = _ := xlz_0 hz0
              have hp2P := pick2P hP (exl hi9) (exr (m := 0) rfl)
              have hp2D := pick2D hD (exl hi9) (exr (m := 0) rfl) (ne_ex hi9)
              have hFc := free_all hp2D hS hA
              refine va_calli (runV_xa (As := [.ref q73]) (rest := []) S (q_l_addZK l D cI cB cZ zz qq vv bt (g 10) q73 (In 10) v0 v1 v2 v3 0 0 0 0 0 0 (u_12 5) H.size) kV_RX11_110 hK hXS hS hFc hp2P hp2D 0 rfl rfl rfl ⟨Nat.le_of_ble_eq_true rfl, Nat.le_of_ble_eq_true rfl⟩ ⟨Nat.le_of_ble_eq_true rfl, Nat.le_of_ble_eq_true rfl⟩ rfl hl.1 rfl (Nat.le_of_ble_eq_true rfl) (oc_182 85 (aq_12 shX11_kitchen_73) uw_0_110)) hS (fun q _ h => hFc q h) hFc (fun r13 u13 t H1 locs ht hvm h13 hB1 hz1 hk1 hS => ?_)
              obtain ⟨hP1, hD1⟩ := hB1
              rw [ht] at hP1
              obtain rfl : r13 = 1 := h13
              obtain ⟨hP, hD⟩ := add0_join hP hD hi9 rfl hk1 hFc hP1 hD1 rfl (xuK (z := u13) (c := 10) (y := (In 10) + 1) (q := q73) (qt := (u_12 5)) (r0 := (u_12 0)) (r1 := (u_12 1)) (r2 := (u_12 2)) (r3 := (u_12 3)) (r4 := (u_12 4)) (x0 := v0) (x1 := v1) (x2 := v2) (x3 := v3) (x4 := 0) (x5 := 0) (x6 := 0) (x7 := 0) (x8 := 0) (x9 := 0) hz0 hT.1 hT.2.1 hT.2.2)
              have hP : va_P D vwCl (wX cI (D.1 99) zz g (adO (adO (adO (adO (adO (adO (adO (adO (adO ad 10 (cn 10) q73) 3 (cn 10) (cn 6)) 5 (cn 6) (u_12 5)) 60 (cn 6) (u_12 0)) 61 (cn 6) (u_12 1)) 62 (cn 6) (u_12 2)) 63 (cn 6) (u_12 3)) 64 (cn 6) (u_12 4)) 2 0 u13) (va_up (va_up (va_up cn 10 ((cn 10) + 1)) 20 10) 6 (cn 6 + 1)) (va_up In 10 ((In 10) + 1)) (va_up (va_up (va_up (va_up (va_up (va_up (va_up (va_up (va_up (va_up (va_up (va_up (va_up (va_up (va_up (va_up (va_up (va_up (va_up (va_up Fn 100 (upd (Fn 100) (cn 10) v0)) 101 (upd (Fn 101) (cn 10) v1)) 102 (upd (Fn 102) (cn 10) v2)) 103 (upd (Fn 103) (cn 10) v3)) 104 (upd (Fn 104) (cn 10) 0)) 105 (upd (Fn 105) (cn 10) 0)) 106 (upd (Fn 106) (cn 10) 0)) 107 (upd (Fn 107) (cn 10) 0)) 108 (upd (Fn 108) (cn 10) 0)) 109 (upd (Fn 109) (cn 10) 0)) 195 (upd (Fn 195) (cn 6) 0)) 196 (upd (Fn 196) (cn 6) 0)) 197 (upd (Fn 197) (cn 6) 0)) 198 (upd (Fn 198) (cn 6) 0)) 199 (upd (Fn 199) (cn 6) 0)) 301 (flat (Fn 301) 200 (cn 6) (fun _ => 0))) 302 (flat (Fn 302) 12 (cn 6) (fun _ => 0))) 303 (flat (Fn 303) 12 (cn 6) (fun _ => 0))) 304 (flat (Fn 304) 12 (cn 6) (fun _ => 0))) 305 (flat (Fn 305) 32 (cn 6) (fun _ => 0)))) H1 := hP
              have hD : va_D A (wX cI (D.1 99) zz g (adO (adO (adO (adO (adO (adO (adO (adO (adO ad 10 (cn 10) q73) 3 (cn 10) (cn 6)) 5 (cn 6) (u_12 5)) 60 (cn 6) (u_12 0)) 61 (cn 6) (u_12 1)) 62 (cn 6) (u_12 2)) 63 (cn 6) (u_12 3)) 64 (cn 6) (u_12 4)) 2 0 u13) (va_up (va_up (va_up cn 10 ((cn 10) + 1)) 20 10) 6 (cn 6 + 1)) (va_up In 10 ((In 10) + 1)) (va_up (va_up (va_up (va_up (va_up (va_up (va_up (va_up (va_up (va_up (va_up (va_up (va_up (va_up (va_up (va_up (va_up (va_up (va_up (va_up Fn 100 (upd (Fn 100) (cn 10) v0)) 101 (upd (Fn 101) (cn 10) v1)) 102 (upd (Fn 102) (cn 10) v2)) 103 (upd (Fn 103) (cn 10) v3)) 104 (upd (Fn 104) (cn 10) 0)) 105 (upd (Fn 105) (cn 10) 0)) 106 (upd (Fn 106) (cn 10) 0)) 107 (upd (Fn 107) (cn 10) 0)) 108 (upd (Fn 108) (cn 10) 0)) 109 (upd (Fn 109) (cn 10) 0)) 195 (upd (Fn 195) (cn 6) 0)) 196 (upd (Fn 196) (cn 6) 0)) 197 (upd (Fn 197) (cn 6) 0)) 198 (upd (Fn 198) (cn 6) 0)) 199 (upd (Fn 199) (cn 6) 0)) 301 (flat (Fn 301) 200 (cn 6) (fun _ => 0))) 302 (flat (Fn 302) 12 (cn 6) (fun _ => 0))) 303 (flat (Fn 303) 12 (cn 6) (fun _ => 0))) 304 (flat (Fn 304) 12 (cn 6) (fun _ => 0))) 305 (flat (Fn 305) 32 (cn 6) (fun _ => 0)))) := hD
              generalize H1 = H at hP hS ⊢
              refine W.widen (k := 8) (n := 188) (Nat.le_of_ble_eq_true rfl) (Nat.le_of_ble_eq_true rfl) ?_
              refine lv_pop hx hb (oc_87 88 (aq_15 shX11_kitchen_73)) rfl ?_
              refine lv_aload_n hx hb (oc_42 89 (aq_16 shX11_kitchen_73)) rfl (lvA1 hl) ?_
              refine gf_RX11_61 S hK hP 0 xo_0 (v := .ref (g 10)) rfl (oc_180 90 (aq_17 shX11_kitchen_73) uw_0_61) ?_
              refine vp_callSi (runV_r (As := []) (rest := []) S (q_l_size l D cI cB cZ (g 10) (if ((cn 10) + 1) = 0 then zz else (adO (adO (adO (adO (adO (adO (adO (adO (adO ad 10 (cn 10) q73) 3 (cn 10) (cn 6)) 5 (cn 6) (u_12 5)) 60 (cn 6) (u_12 0)) 61 (cn 6) (u_12 1)) 62 (cn 6) (u_12 2)) 63 (cn 6) (u_12 3)) 64 (cn 6) (u_12 4)) 2 0 u13) 2 0) ((In 10) + 1) (nI ((cn 10) + 1))) kV_RX11_84 hK hP [24] (one_is xo_24) 24 xo_24 rfl rfl ⟨Nat.le_of_ble_eq_true rfl, Nat.le_of_ble_eq_true rfl⟩ ⟨Nat.le_of_ble_eq_true rfl, Nat.le_of_ble_eq_true rfl⟩ rfl hl.1 rfl (Nat.le_of_ble_eq_true rfl) (oc_182 93 (aq_20 shX11_kitchen_73) uw_0_84)) (fun r_15 h_16 => ?_)
              subst h_16
              refine lv_iconst (v := 1) hx hb (oc_4 96 (aq_23 shX11_kitchen_73)) kic_1 ?_
              refine lv_isub hx hb (oc_100 97 shX11_kitchen_97) ?_
              refine lv_topi (fun y_17 ey_17 => ?_)
              obtain rfl : y_17 = (nI (cn 10)) := ey_17.trans (nI_sub (b := 1) (by omega))
              exact W.iret (v := (nI (cn 10))) hx hb hr (fun t ht hW => ⟨⟨(nI (cn 10)), ((adO (adO (adO (adO (adO (adO (adO (adO (adO ad 10 (cn 10) q73) 3 (cn 10) (cn 6)) 5 (cn 6) (u_12 5)) 60 (cn 6) (u_12 0)) 61 (cn 6) (u_12 1)) 62 (cn 6) (u_12 2)) 63 (cn 6) (u_12 3)) 64 (cn 6) (u_12 4)) 2 0 u13), (va_up (va_up (va_up cn 10 ((cn 10) + 1)) 20 10) 6 (cn 6 + 1)), (va_up In 10 ((In 10) + 1)), (va_up (va_up (va_up (va_up (va_up (va_up (va_up (va_up (va_up (va_up (va_up (va_up (va_up (va_up (va_up (va_up (va_up (va_up (va_up (va_up Fn 100 (upd (Fn 100) (cn 10) v0)) 101 (upd (Fn 101) (cn 10) v1)) 102 (upd (Fn 102) (cn 10) v2)) 103 (upd (Fn 103) (cn 10) v3)) 104 (upd (Fn 104) (cn 10) 0)) 105 (upd (Fn 105) (cn 10) 0)) 106 (upd (Fn 106) (cn 10) 0)) 107 (upd (Fn 107) (cn 10) 0)) 108 (upd (Fn 108) (cn 10) 0)) 109 (upd (Fn 109) (cn 10) 0)) 195 (upd (Fn 195) (cn 6) 0)) 196 (upd (Fn 196) (cn 6) 0)) 197 (upd (Fn 197) (cn 6) 0)) 198 (upd (Fn 198) (cn 6) 0)) 199 (upd (Fn 199) (cn 6) 0)) 301 (flat (Fn 301) 200 (cn 6) (fun _ => 0))) 302 (flat (Fn 302) 12 (cn 6) (fun _ => 0))) 303 (flat (Fn 303) 12 (cn 6) (fun _ => 0))) 304 (flat (Fn 304) 12 (cn 6) (fun _ => 0))) 305 (flat (Fn 305) 32 (cn 6) (fun _ => 0)))), rfl, (Or.inr ⟨rfl, by omega, q73, (u_12 5), (u_12 0), (u_12 1), (u_12 2), (u_12 3), (u_12 4), u13, 10, ((In 10) + 1), ⟨by omega, by omega⟩, rfl, rfl, rfl, rfl⟩), by rw [ht]; exact hP, hD⟩, hS.F ht⟩) hS.2.2 (oc_172 98 (aq_1 shX11_kitchen_97))
            ·
              have hi9 : (wX cI (D.1 99) zz g ad cn In Fn)[24]? = _ := xl_0 hz0
              have hj9 : (wX cI (D.1 99) zz g ad cn In Fn)[_]? = _ := xf_13 (k := 0) (show 0 < min 1 (cn 10) by omega)
              obtain ⟨ws9, hp1, hp2⟩ := pickG (W := ((wX cI (D.1 99) zz g ad cn In Fn) ++ ([(q73, .inr (2, [.int v0, .int v1, .int v2, .int v3, .int 0, .int 0, .int 0, .int 0, .int 0, .int 0, .ref (u_12 5)])), ((u_12 5), .inr (10, [.ref (u_12 0), .ref (u_12 1), .ref (u_12 2), .ref (u_12 3), .ref (u_12 4), .int 0, .int 0, .int 0, .int 0])), ((u_12 0), .inl (cI, 0, .inl (fun _ => 0))), ((u_12 1), .inl (cI, 12, .inl (fun _ => 0))), ((u_12 2), .inl (cI, 12, .inl (fun _ => 0))), ((u_12 3), .inl (cI, 12, .inl (fun _ => 0))), ((u_12 4), .inl (cI, 32, .inl (fun _ => 0)))] : va_W))) (exl hi9) (exl hj9) (exr (m := 0) rfl) (xij (by decide)) (ne_ex hi9) (ne_ex hj9)
              have hP9 := va_P_perm hp1 hP
              have hD9 := va_D_perm hp1 hD
              have hFc := free_all hD9 hS hA
              refine va_calli (runV_xa (As := [.ref q73]) (rest := []) S (q_l_addGK l D cI cB cZ zz qq vv bt (cn 20) (g 10) (ad 2 0) (cn 10) q73 (In 10) (ad 10) v0 v1 v2 v3 0 0 0 0 0 0 (u_12 5) ws9 H.size (by omega) (by omega) hz0 (by omega) (fun i hi => ⟨_, g_mem (hp1.mem_iff.mp (List.mem_of_getElem? (exl (xf_0 (k := i) hi)))) (by decide)⟩)) kV_RX11_110 hK hXS hS hFc hP9 hD9 0 rfl rfl rfl ⟨Nat.le_of_ble_eq_true rfl, Nat.le_of_ble_eq_true rfl⟩ ⟨Nat.le_of_ble_eq_true rfl, Nat.le_of_ble_eq_true rfl⟩ rfl hl.1 rfl (Nat.le_of_ble_eq_true rfl) (oc_182 85 (aq_12 shX11_kitchen_73) uw_0_110)) hS (fun q _ h => hFc q h) hFc (fun r13 u13 t H1 locs ht hvm h13 hB1 hz1 hk1 hS => ?_)
              obtain ⟨hP1, hD1⟩ := hB1
              rw [ht] at hP1
              obtain ⟨hr13, h13⟩ := h13
              obtain rfl : r13 = 1 := hr13
              obtain ⟨ua13, uc13⟩ := u13
              have hu13 : cn 10 < uc13 ∧ uc13 ≤ 100 := h13
              obtain ⟨hP, hD⟩ := addG_join hp2 hi9 hj9 hP1 hD1 hFc (xaddK (z := ua13) (c := uc13) (y := (In 10) + 1) (q := q73) (qt := (u_12 5)) (r0 := (u_12 0)) (r1 := (u_12 1)) (r2 := (u_12 2)) (r3 := (u_12 3)) (r4 := (u_12 4)) (x0 := v0) (x1 := v1) (x2 := v2) (x3 := v3) (x4 := 0) (x5 := 0) (x6 := 0) (x7 := 0) (x8 := 0) (x9 := 0) hz0 hT.1 hT.2.1 hT.2.2)
              have hP : va_P D vwCl (wX cI (D.1 99) zz g (adO (adO (adO (adO (adO (adO (adO (adO (adO ad 10 (cn 10) q73) 3 (cn 10) (cn 6)) 5 (cn 6) (u_12 5)) 60 (cn 6) (u_12 0)) 61 (cn 6) (u_12 1)) 62 (cn 6) (u_12 2)) 63 (cn 6) (u_12 3)) 64 (cn 6) (u_12 4)) 2 0 ua13) (va_up (va_up (va_up cn 10 ((cn 10) + 1)) 20 uc13) 6 (cn 6 + 1)) (va_up In 10 ((In 10) + 1)) (va_up (va_up (va_up (va_up (va_up (va_up (va_up (va_up (va_up (va_up (va_up (va_up (va_up (va_up (va_up (va_up (va_up (va_up (va_up (va_up Fn 100 (upd (Fn 100) (cn 10) v0)) 101 (upd (Fn 101) (cn 10) v1)) 102 (upd (Fn 102) (cn 10) v2)) 103 (upd (Fn 103) (cn 10) v3)) 104 (upd (Fn 104) (cn 10) 0)) 105 (upd (Fn 105) (cn 10) 0)) 106 (upd (Fn 106) (cn 10) 0)) 107 (upd (Fn 107) (cn 10) 0)) 108 (upd (Fn 108) (cn 10) 0)) 109 (upd (Fn 109) (cn 10) 0)) 195 (upd (Fn 195) (cn 6) 0)) 196 (upd (Fn 196) (cn 6) 0)) 197 (upd (Fn 197) (cn 6) 0)) 198 (upd (Fn 198) (cn 6) 0)) 199 (upd (Fn 199) (cn 6) 0)) 301 (flat (Fn 301) 200 (cn 6) (fun _ => 0))) 302 (flat (Fn 302) 12 (cn 6) (fun _ => 0))) 303 (flat (Fn 303) 12 (cn 6) (fun _ => 0))) 304 (flat (Fn 304) 12 (cn 6) (fun _ => 0))) 305 (flat (Fn 305) 32 (cn 6) (fun _ => 0)))) H1 := hP
              have hD : va_D A (wX cI (D.1 99) zz g (adO (adO (adO (adO (adO (adO (adO (adO (adO ad 10 (cn 10) q73) 3 (cn 10) (cn 6)) 5 (cn 6) (u_12 5)) 60 (cn 6) (u_12 0)) 61 (cn 6) (u_12 1)) 62 (cn 6) (u_12 2)) 63 (cn 6) (u_12 3)) 64 (cn 6) (u_12 4)) 2 0 ua13) (va_up (va_up (va_up cn 10 ((cn 10) + 1)) 20 uc13) 6 (cn 6 + 1)) (va_up In 10 ((In 10) + 1)) (va_up (va_up (va_up (va_up (va_up (va_up (va_up (va_up (va_up (va_up (va_up (va_up (va_up (va_up (va_up (va_up (va_up (va_up (va_up (va_up Fn 100 (upd (Fn 100) (cn 10) v0)) 101 (upd (Fn 101) (cn 10) v1)) 102 (upd (Fn 102) (cn 10) v2)) 103 (upd (Fn 103) (cn 10) v3)) 104 (upd (Fn 104) (cn 10) 0)) 105 (upd (Fn 105) (cn 10) 0)) 106 (upd (Fn 106) (cn 10) 0)) 107 (upd (Fn 107) (cn 10) 0)) 108 (upd (Fn 108) (cn 10) 0)) 109 (upd (Fn 109) (cn 10) 0)) 195 (upd (Fn 195) (cn 6) 0)) 196 (upd (Fn 196) (cn 6) 0)) 197 (upd (Fn 197) (cn 6) 0)) 198 (upd (Fn 198) (cn 6) 0)) 199 (upd (Fn 199) (cn 6) 0)) 301 (flat (Fn 301) 200 (cn 6) (fun _ => 0))) 302 (flat (Fn 302) 12 (cn 6) (fun _ => 0))) 303 (flat (Fn 303) 12 (cn 6) (fun _ => 0))) 304 (flat (Fn 304) 12 (cn 6) (fun _ => 0))) 305 (flat (Fn 305) 32 (cn 6) (fun _ => 0)))) := hD
              generalize H1 = H at hP hS ⊢
              refine lv_pop hx hb (oc_87 88 (aq_15 shX11_kitchen_73)) rfl ?_
              refine lv_aload_n hx hb (oc_42 89 (aq_16 shX11_kitchen_73)) rfl (lvA1 hl) ?_
              refine gf_RX11_61 S hK hP 0 xo_0 (v := .ref (g 10)) rfl (oc_180 90 (aq_17 shX11_kitchen_73) uw_0_61) ?_
              refine vp_callSi (runV_r (As := []) (rest := []) S (q_l_size l D cI cB cZ (g 10) (if ((cn 10) + 1) = 0 then zz else (adO (adO (adO (adO (adO (adO (adO (adO (adO ad 10 (cn 10) q73) 3 (cn 10) (cn 6)) 5 (cn 6) (u_12 5)) 60 (cn 6) (u_12 0)) 61 (cn 6) (u_12 1)) 62 (cn 6) (u_12 2)) 63 (cn 6) (u_12 3)) 64 (cn 6) (u_12 4)) 2 0 ua13) 2 0) ((In 10) + 1) (nI ((cn 10) + 1))) kV_RX11_84 hK hP [24] (one_is xo_24) 24 xo_24 rfl rfl ⟨Nat.le_of_ble_eq_true rfl, Nat.le_of_ble_eq_true rfl⟩ ⟨Nat.le_of_ble_eq_true rfl, Nat.le_of_ble_eq_true rfl⟩ rfl hl.1 rfl (Nat.le_of_ble_eq_true rfl) (oc_182 93 (aq_20 shX11_kitchen_73) uw_0_84)) (fun r_18 h_19 => ?_)
              subst h_19
              refine lv_iconst (v := 1) hx hb (oc_4 96 (aq_23 shX11_kitchen_73)) kic_1 ?_
              refine lv_isub hx hb (oc_100 97 shX11_kitchen_97) ?_
              refine lv_topi (fun y_20 ey_20 => ?_)
              obtain rfl : y_20 = (nI (cn 10)) := ey_20.trans (nI_sub (b := 1) (by omega))
              exact W.iret (v := (nI (cn 10))) hx hb hr (fun t ht hW => ⟨⟨(nI (cn 10)), ((adO (adO (adO (adO (adO (adO (adO (adO (adO ad 10 (cn 10) q73) 3 (cn 10) (cn 6)) 5 (cn 6) (u_12 5)) 60 (cn 6) (u_12 0)) 61 (cn 6) (u_12 1)) 62 (cn 6) (u_12 2)) 63 (cn 6) (u_12 3)) 64 (cn 6) (u_12 4)) 2 0 ua13), (va_up (va_up (va_up cn 10 ((cn 10) + 1)) 20 uc13) 6 (cn 6 + 1)), (va_up In 10 ((In 10) + 1)), (va_up (va_up (va_up (va_up (va_up (va_up (va_up (va_up (va_up (va_up (va_up (va_up (va_up (va_up (va_up (va_up (va_up (va_up (va_up (va_up Fn 100 (upd (Fn 100) (cn 10) v0)) 101 (upd (Fn 101) (cn 10) v1)) 102 (upd (Fn 102) (cn 10) v2)) 103 (upd (Fn 103) (cn 10) v3)) 104 (upd (Fn 104) (cn 10) 0)) 105 (upd (Fn 105) (cn 10) 0)) 106 (upd (Fn 106) (cn 10) 0)) 107 (upd (Fn 107) (cn 10) 0)) 108 (upd (Fn 108) (cn 10) 0)) 109 (upd (Fn 109) (cn 10) 0)) 195 (upd (Fn 195) (cn 6) 0)) 196 (upd (Fn 196) (cn 6) 0)) 197 (upd (Fn 197) (cn 6) 0)) 198 (upd (Fn 198) (cn 6) 0)) 199 (upd (Fn 199) (cn 6) 0)) 301 (flat (Fn 301) 200 (cn 6) (fun _ => 0))) 302 (flat (Fn 302) 12 (cn 6) (fun _ => 0))) 303 (flat (Fn 303) 12 (cn 6) (fun _ => 0))) 304 (flat (Fn 304) 12 (cn 6) (fun _ => 0))) 305 (flat (Fn 305) 32 (cn 6) (fun _ => 0)))), rfl, (Or.inr ⟨rfl, by omega, q73, (u_12 5), (u_12 0), (u_12 1), (u_12 2), (u_12 3), (u_12 4), ua13, uc13, ((In 10) + 1), ⟨by omega, by omega⟩, rfl, rfl, rfl, rfl⟩), by rw [ht]; exact hP, hD⟩, hS.F ht⟩) hS.2.2 (oc_172 98 (aq_1 shX11_kitchen_97))
          ·
            have tc_11 : (10 : Int) ≤ (nI (cn 10)).toInt := Int32.le_iff_toInt_le.mp (Int32.not_lt.mp c_11)
            refine lv_iconst (v := (-1)) hx hb dX11_kitchen_67 kic_m1 ?_
            refine W.widen (k := 8) (n := 188) (Nat.le_of_ble_eq_true rfl) (Nat.le_of_ble_eq_true rfl) ?_
            exact W.iret (v := (-1)) hx hb hr (fun t ht hW => ⟨⟨(-1), (ad, cn, In, Fn), rfl, (Or.inl ⟨rfl, by omega, rfl, rfl, rfl, rfl⟩), by rw [ht]; exact hP, hD⟩, hS.F ht⟩) hS.2.2 dX11_kitchen_68
        ·
          have h_8 : ¬ (20 ≤ v3.toInt ∧ v3.toInt ≤ 400) := h_8
          refine lv_if_eq (tgt := 67) hx hb (oc_153 52 (aq_3 shX11_kitchen_49) sgw_0_15) rfl (fun _ => ?_) (fun h => absurd h cq_eq_0_0)
          refine lv_iconst (v := (-1)) hx hb dX11_kitchen_67 kic_m1 ?_
          refine W.widen (k := 8) (n := 188) (Nat.le_of_ble_eq_true rfl) (Nat.le_of_ble_eq_true rfl) ?_
          exact W.iret (v := (-1)) hx hb hr (fun t ht hW => ⟨⟨(-1), (ad, cn, In, Fn), rfl, (Or.inl ⟨rfl, by omega, rfl, rfl, rfl, rfl⟩), by rw [ht]; exact hP, hD⟩, hS.F ht⟩) hS.2.2 dX11_kitchen_68
      ·
        have h_6 : ¬ (0 ≤ v2.toInt ∧ v2.toInt ≤ 50) := h_6
        refine lv_if_eq (tgt := 67) hx hb (oc_153 39 (aq_15 shX11_kitchen_24) sgw_0_28) rfl (fun _ => ?_) (fun h => absurd h cq_eq_0_0)
        refine lv_iconst (v := (-1)) hx hb dX11_kitchen_67 kic_m1 ?_
        refine W.widen (k := 8) (n := 188) (Nat.le_of_ble_eq_true rfl) (Nat.le_of_ble_eq_true rfl) ?_
        exact W.iret (v := (-1)) hx hb hr (fun t ht hW => ⟨⟨(-1), (ad, cn, In, Fn), rfl, (Or.inl ⟨rfl, by omega, rfl, rfl, rfl, rfl⟩), by rw [ht]; exact hP, hD⟩, hS.F ht⟩) hS.2.2 dX11_kitchen_68
    ·
      have h_4 : ¬ (0 ≤ v1.toInt ∧ v1.toInt ≤ 99) := h_4
      refine lv_if_eq (tgt := 24) hx hb (oc_153 17 (aq_17 shX11_kitchen_0) sgw_0_7) rfl (fun _ => ?_) (fun h => absurd h cq_eq_0_0)
      refine lv_iconst (v := 0) hx hb (oc_3 24 shX11_kitchen_24) kic_0 ?_
      refine lv_istore (lv' := [(5, .int 0), (0, .ref (g 0)), (1, .int v0), (2, .int v1), (3, .int v2), (4, .int v3)]) hx hb (oc_54 25 (aq_1 shX11_kitchen_24) ub_5) hl (ltb rfl) rfl (fun ls hl => ?_)
      refine lv_iload hx hb (oc_21 27 (aq_3 shX11_kitchen_24) ub_5) (lvA0 hl) ?_
      refine lv_if_eq (tgt := 67) hx hb (oc_153 29 (aq_5 shX11_kitchen_24) sgw_0_38) rfl (fun _ => ?_) (fun h => absurd h cq_eq_0_0)
      refine lv_iconst (v := (-1)) hx hb dX11_kitchen_67 kic_m1 ?_
      refine W.widen (k := 8) (n := 188) (Nat.le_of_ble_eq_true rfl) (Nat.le_of_ble_eq_true rfl) ?_
      exact W.iret (v := (-1)) hx hb hr (fun t ht hW => ⟨⟨(-1), (ad, cn, In, Fn), rfl, (Or.inl ⟨rfl, by omega, rfl, rfl, rfl, rfl⟩), by rw [ht]; exact hP, hD⟩, hS.F ht⟩) hS.2.2 dX11_kitchen_68
  ·
    have h_2 : ¬ (0 ≤ v0.toInt ∧ v0.toInt ≤ 99) := h_2
    refine lv_if_eq (tgt := 24) hx hb (oc_153 7 (aq_7 shX11_kitchen_0) sgw_0_17) rfl (fun _ => ?_) (fun h => absurd h cq_eq_0_0)
    refine lv_iconst (v := 0) hx hb (oc_3 24 shX11_kitchen_24) kic_0 ?_
    refine lv_istore (lv' := [(5, .int 0), (0, .ref (g 0)), (1, .int v0), (2, .int v1), (3, .int v2), (4, .int v3)]) hx hb (oc_54 25 (aq_1 shX11_kitchen_24) ub_5) hl (ltb rfl) rfl (fun ls hl => ?_)
    refine lv_iload hx hb (oc_21 27 (aq_3 shX11_kitchen_24) ub_5) (lvA0 hl) ?_
    refine lv_if_eq (tgt := 67) hx hb (oc_153 29 (aq_5 shX11_kitchen_24) sgw_0_38) rfl (fun _ => ?_) (fun h => absurd h cq_eq_0_0)
    refine lv_iconst (v := (-1)) hx hb dX11_kitchen_67 kic_m1 ?_
    refine W.widen (k := 8) (n := 188) (Nat.le_of_ble_eq_true rfl) (Nat.le_of_ble_eq_true rfl) ?_
    exact W.iret (v := (-1)) hx hb hr (fun t ht hW => ⟨⟨(-1), (ad, cn, In, Fn), rfl, (Or.inl ⟨rfl, by omega, rfl, rfl, rfl, rfl⟩), by rw [ht]; exact hP, hD⟩, hS.F ht⟩) hS.2.2 dX11_kitchen_68
set_option maxRecDepth 100000 in
set_option maxHeartbeats 4000000 in
theorem q_Xmoves (l : Launch) (D : va_G) (cI cB cZ : ClassId) (zz qq vv : Nat) (bt : Nat → Int32) (g : Nat → Nat) (ad : Nat → Nat → Nat) (cn : Nat → Nat) (In : Nat → Int32) (Fn : Nat → Nat → Int32) (v0 v1 v2 : Int32) (sz : Nat) (hB : CBX cn) : Met l yX11_moves (CWS yX11_moves cX11_moves 6 (some .boolean)) (RM 8 2 103) (PBx [.ref (g 0), .int v0, .int v1, .int v2] D cI cB cZ zz qq vv bt (wX cI (D.1 99) zz g ad cn In Fn) sz) (va_Qi (fun (r : Int32) (u : (Nat → Nat → Nat) × (Nat → Nat) × (Nat → Int32) × (Nat → Nat → Int32)) => (fun r a2 c2 I2 F2 => (r = 0 ∧ ad = a2 ∧ cn = c2 ∧ In = I2 ∧ Fn = F2) ∨ (r = 1 ∧ ∃ (q z c : Nat) (y : Int32), (0 ≤ v0.toInt ∧ v0.toInt < (cn 2 : Int) ∧ -1 ≤ v1.toInt ∧ v1.toInt < (cn 10 : Int) ∧ 0 ≤ v2.toInt ∧ v2.toInt ≤ (cn 0 : Int) ∧ cn 15 < 60) ∧ (cn 15 < c ∧ c ≤ 100) ∧ (adP ad 15 (cn 15) q 5 z) = a2 ∧ (va_up (va_up cn 15 ((cn 15) + 1)) 25 c) = c2 ∧ (va_up In 15 y) = I2 ∧ (va_up (va_up (va_up Fn 180 (upd (Fn 180) (cn 15) v0)) 181 (upd (Fn 181) (cn 15) v1)) 182 (upd (Fn 182) (cn 15) v2)) = F2)) r u.1 u.2.1 u.2.2.1 u.2.2.2) (fun (u : (Nat → Nat → Nat) × (Nat → Nat) × (Nat → Int32) × (Nat → Nat → Int32)) (t : State) => va_P D vwCl (wX cI (D.1 99) zz g u.1 u.2.1 u.2.2.1 u.2.2.2) t.heap ∧ va_D (va_A (wX cI (D.1 99) zz g ad cn In Fn) sz) (wX cI (D.1 99) zz g u.1 u.2.1 u.2.2.1 u.2.2.2)) (va_A (wX cI (D.1 99) zz g ad cn In Fn) sz)) 2 103 (va_A (wX cI (D.1 99) zz g ad cn In Fn) sz) := by
  refine en_x (fun A => (va_Qi (fun (r : Int32) (u : (Nat → Nat → Nat) × (Nat → Nat) × (Nat → Int32) × (Nat → Nat → Int32)) => (fun (r : Int32) (a2 : Nat → Nat → Nat) (c2 : Nat → Nat) (I2 : Nat → Int32) (F2 : Nat → Nat → Int32) => (r = 0 ∧ ad = a2 ∧ cn = c2 ∧ In = I2 ∧ Fn = F2) ∨ (r = 1 ∧ ∃ (q z c : Nat) (y : Int32), (0 ≤ v0.toInt ∧ v0.toInt < (cn 2 : Int) ∧ -1 ≤ v1.toInt ∧ v1.toInt < (cn 10 : Int) ∧ 0 ≤ v2.toInt ∧ v2.toInt ≤ (cn 0 : Int) ∧ cn 15 < 60) ∧ (cn 15 < c ∧ c ≤ 100) ∧ (adP ad 15 (cn 15) q 5 z) = a2 ∧ (va_up (va_up cn 15 ((cn 15) + 1)) 25 c) = c2 ∧ (va_up In 15 y) = I2 ∧ (va_up (va_up (va_up Fn 180 (upd (Fn 180) (cn 15) v0)) 181 (upd (Fn 181) (cn 15) v1)) 182 (upd (Fn 182) (cn 15) v2)) = F2)) r u.1 u.2.1 u.2.2.1 u.2.2.2) (fun (u : (Nat → Nat → Nat) × (Nat → Nat) × (Nat → Int32) × (Nat → Nat → Int32)) (t : State) => va_P D vwCl (wX cI (D.1 99) zz g u.1 u.2.1 u.2.2.1 u.2.2.2) t.heap ∧ va_D A (wX cI (D.1 99) zz g u.1 u.2.1 u.2.2.1 u.2.2.2)) A)) rfl rfl pn_RX11 (Nat.le_of_ble_eq_true rfl) (fun p e s m below meth c A hx hb hml hown S hr hlocks hnm hA hP hK hD hXS hS ls hl => ?_)
  have hl : lv_has ls 6 [(0, .ref (g 0)), (1, .int v0), (2, .int v1), (3, .int v2)] := hl
  refine lv_iload_n hx hb (oc_27 0 shX11_moves_0) rfl (lvA1 hl) ?_
  refine lv_iconst (v := 0) hx hb (oc_3 1 (aq_1 shX11_moves_0)) kic_0 ?_
  refine lv_aload_n hx hb (oc_42 2 (aq_2 shX11_moves_0)) rfl (lvA0 hl) ?_
  refine gf_RX11_502 S hK hP 0 xo_0 (v := .int (nI (cn 2))) rfl (oc_180 3 (aq_3 shX11_moves_0) uw_1_246) ?_
  refine lv_iconst (v := 1) hx hb (oc_4 6 (aq_6 shX11_moves_0)) kic_1 ?_
  refine lv_isub hx hb (oc_100 7 (aq_7 shX11_moves_0)) ?_
  have tm1 := nI_mt (c := cn 2) (by omega)
  refine vp_callSi (runS_r (As := [.int v0, .int 0, .int ((nI (cn 2)) - 1)]) (rest := []) S (q_l_within l D cI cB cZ v0 0 ((nI (cn 2)) - 1)) kS_RX11_80 hK hP [] rfl ⟨Nat.le_of_ble_eq_true rfl, Nat.le_of_ble_eq_true rfl⟩ ⟨Nat.le_of_ble_eq_true rfl, Nat.le_of_ble_eq_true rfl⟩ rfl hl.1 rfl (Nat.le_of_ble_eq_true rfl) (oc_184 8 (aq_8 shX11_moves_0) uw_0_80)) (fun r_1 h_2 => ?_)
  rcases h_2 with ⟨rfl, h_2⟩ | ⟨rfl, h_2⟩
  ·
    have h_2 : 0 ≤ v0.toInt ∧ v0.toInt ≤ ((nI (cn 2)) - 1).toInt := h_2
    refine lv_if_eq (tgt := 31) hx hb (oc_153 11 (aq_11 shX11_moves_0) sgw_0_20) rfl (fun h => absurd h cq_eq_1_0) (fun _ => ?_)
    refine lv_iload_n hx hb (oc_28 14 (aq_14 shX11_moves_0)) rfl (lvA2 hl) ?_
    refine lv_iconst (v := (-1)) hx hb (oc_2 15 (aq_15 shX11_moves_0)) kic_m1 ?_
    refine lv_icmp_eq (tgt := 27) hx hb (oc_159 16 (aq_16 shX11_moves_0) sgw_0_11) rfl (fun c_3 => ?_) (fun c_3 => ?_)
    ·
      have tc_3 : (v1.toInt : Int) = (-1) := congrArg Int32.toInt c_3
      refine lv_iconst (v := 1) hx hb (oc_4 27 (aq_3 shX11_moves_24)) kic_1 ?_
      refine lv_goto (tgt := 32) hx hb (oc_167 28 (aq_4 shX11_moves_24) sgw_0_4) rfl ?_
      refine lv_istore (lv' := [(4, .int 1), (0, .ref (g 0)), (1, .int v0), (2, .int v1), (3, .int v2)]) hx hb dX11_moves_32 hl (ltb rfl) rfl (fun ls hl => ?_)
      refine lv_iload hx hb dX11_moves_34 (lvA0 hl) ?_
      refine lv_if_eq (tgt := 63) hx hb dX11_moves_36 rfl (fun h => absurd h cq_eq_1_0) (fun _ => ?_)
      refine lv_iload_n hx hb (oc_29 39 (aq_15 shX11_moves_24)) rfl (lvA4 hl) ?_
      refine lv_iconst (v := 0) hx hb (oc_3 40 (aq_16 shX11_moves_24)) kic_0 ?_
      refine lv_aload_n hx hb (oc_42 41 (aq_17 shX11_moves_24)) rfl (lvA1 hl) ?_
      refine gf_RX11_103 S hK hP 0 xo_0 (v := .int (nI (cn 0))) rfl (oc_180 42 (aq_18 shX11_moves_24) uw_0_103) ?_
      refine vp_callSi (runS_r (As := [.int v2, .int 0, .int (nI (cn 0))]) (rest := []) S (q_l_within l D cI cB cZ v2 0 (nI (cn 0))) kS_RX11_80 hK hP [] rfl ⟨Nat.le_of_ble_eq_true rfl, Nat.le_of_ble_eq_true rfl⟩ ⟨Nat.le_of_ble_eq_true rfl, Nat.le_of_ble_eq_true rfl⟩ rfl hl.1 rfl (Nat.le_of_ble_eq_true rfl) (oc_184 45 (aq_21 shX11_moves_24) uw_0_80)) (fun r_4 h_5 => ?_)
      have : (nI (cn 0)).toInt = (((cn 0) : Nat) : Int) := nI_toInt (by omega)
      rcases h_5 with ⟨rfl, h_5⟩ | ⟨rfl, h_5⟩
      ·
        have h_5 : 0 ≤ v2.toInt ∧ v2.toInt ≤ (nI (cn 0)).toInt := h_5
        refine lv_if_eq (tgt := 63) hx hb dX11_moves_48 rfl (fun h => absurd h cq_eq_1_0) (fun _ => ?_)
        refine lv_aload_n hx hb (oc_42 51 (aq_3 shX11_moves_48)) rfl (lvA1 hl) ?_
        refine gf_RX11_77 S hK hP 0 xo_0 (v := .ref (g 15)) rfl (oc_180 52 (aq_4 shX11_moves_48) uw_0_77) ?_
        refine vp_callSi (runV_r (As := []) (rest := []) S (q_l_size l D cI cB cZ (g 15) (if (cn 15) = 0 then zz else ad 2 5) (In 15) (nI (cn 15))) kV_RX11_84 hK hP [29] (one_is xo_29) 29 xo_29 rfl rfl ⟨Nat.le_of_ble_eq_true rfl, Nat.le_of_ble_eq_true rfl⟩ ⟨Nat.le_of_ble_eq_true rfl, Nat.le_of_ble_eq_true rfl⟩ rfl hl.1 rfl (Nat.le_of_ble_eq_true rfl) (oc_182 55 (aq_7 shX11_moves_48) uw_0_84)) (fun r_6 h_7 => ?_)
        subst h_7
        refine lv_bipush (v := 60) hx hb (oc_16 58 (aq_10 shX11_moves_48) sgb_60) kbc_60 ?_
        have : (nI (cn 15)).toInt = (((cn 15) : Nat) : Int) := nI_toInt (by omega)
        refine lv_icmp_lt (tgt := 65) hx hb (oc_161 60 (aq_12 shX11_moves_48) sgw_0_5) rfl (fun c_8 => ?_) (fun c_8 => ?_)
        ·
          have tc_8 : ((nI (cn 15)).toInt : Int) < 60 := Int32.lt_iff_toInt_lt.mp c_8
          refine lv_aload_n hx hb (oc_42 65 (aq_17 shX11_moves_48)) rfl (lvA1 hl) ?_
          refine lv_iload_n hx hb (oc_27 66 (aq_18 shX11_moves_48)) rfl (lvA2 hl) ?_
          refine lv_sipush (v := 399) hx hb (oc_17 67 (aq_19 shX11_moves_48) sgw_1_143) (by decide) ?_
          refine va_csq (runV_rxa (As := [.int v0, .int 399]) (rest := []) S (q_XmoveBy l D cI cB cZ zz qq vv bt g ad cn In Fn v0 399 hB) kV_RX11_509 hK hXS hS hP 0 xo_0 rfl rfl ⟨Nat.le_of_ble_eq_true rfl, Nat.le_of_ble_eq_true rfl⟩ ⟨Nat.le_of_ble_eq_true rfl, Nat.le_of_ble_eq_true rfl⟩ rfl hl.1 rfl (Nat.le_of_ble_eq_true rfl) (oc_182 70 (aq_22 shX11_moves_48) uw_1_253)) (fun r_9 h_10 => ?_)
          rcases h_10 with ⟨mr_9, er_9, hr_9, rfl⟩ | ⟨hr_9, rfl⟩
          ·
            refine lv_astore (lv' := [(5, .ref (ad 15 mr_9)), (4, .int 1), (0, .ref (g 0)), (1, .int v0), (2, .int v1), (3, .int v2)]) hx hb dX11_moves_73 hl (ltb rfl) rfl (fun ls hl => ?_)
            refine lv_aload hx hb dX11_moves_75 (lvA0 hl) ?_
            refine lv_ifnull hx hb dX11_moves_77 ?_
            refine lv_iload_n hx hb (oc_29 80 (aq_7 shX11_moves_73)) rfl (lvA5 hl) ?_
            refine lv_aload hx hb (oc_25 81 (aq_8 shX11_moves_73) ub_5) (lvA0 hl) ?_
            refine gf_RX11_508 S hK hP _ (xf_5 (by omega)) (v := .int ((Fn 182) mr_9)) rfl (oc_180 83 (aq_10 shX11_moves_73) uw_1_252) ?_
            refine lv_icmp_ge (tgt := 91) hx hb (oc_162 86 (aq_13 shX11_moves_73) sgw_0_5) rfl (fun c_11 => ?_) (fun c_11 => ?_)
            ·
              have tc_11 : (((Fn 182) mr_9).toInt : Int) ≤ v2.toInt := Int32.le_iff_toInt_le.mp c_11
              refine lv_aload_n hx hb dX11_moves_91 rfl (lvA2 hl) ?_
              refine gf_RX11_77 S hK hP 0 xo_0 (v := .ref (g 15)) rfl dX11_moves_92 ?_
              refine va_new (ci := 4) (fs := [.int 0, .int 0, .int 0]) (C := RX3) (T := TX3) (N := 3) hx hb S.2.2.2.2 hin_RX3 tyX3 tyX3_ok hown (S.2.2.2.2 _ (wk6_3 3 rfl rfl)) (S.2.2.2.2 _ (wk6_3 4 rfl rfl)) (S.2.2.2.2 _ (wk1_2 2 rfl rfl)) hK.1 hP hD hS hA rfl (by decide +kernel) (Nat.le_of_ble_eq_true rfl) (Nat.le_of_ble_eq_true rfl) dX11_moves_95 (fun q95 H hP hD hS => ?_)
              have hP : va_P D vwCl ((wX cI (D.1 99) zz g ad cn In Fn) ++ ([(q95, .inr (4, [.int 0, .int 0, .int 0]))] : va_W)) H := hP
              have hD : va_D A ((wX cI (D.1 99) zz g ad cn In Fn) ++ ([(q95, .inr (4, [.int 0, .int 0, .int 0]))] : va_W)) := hD
              refine lv_dup hx hb dX11_moves_98 rfl ?_
              refine lv_iload_n hx hb dX11_moves_99 rfl (lvA3 hl) ?_
              refine lv_iload_n hx hb dX11_moves_100 rfl (lvA4 hl) ?_
              refine lv_iload_n hx hb dX11_moves_101 rfl (lvA5 hl) ?_
              have hFc := va_free (wc := [(q95, .inr (4, [.int 0, .int 0, .int 0]))]) hD hS hA [_] (one_im (exr (m := 0) rfl))
              refine va_callv (runI_w (As := [.int v0, .int v1, .int v2]) (rest := [.ref q95, .ref (g 15)]) S (q_l_Move l D cI cB cZ q95 v0 v1 v2 H.size) kI_RX11_513 hK hP hD [_] (one_is (exr (m := 0) rfl)) (one_im (exr (m := 0) rfl)) rfl ⟨Nat.le_of_ble_eq_true rfl, Nat.le_of_ble_eq_true rfl⟩ ⟨Nat.le_of_ble_eq_true rfl, Nat.le_of_ble_eq_true rfl⟩ rfl hl.1 rfl (Nat.le_of_ble_eq_true rfl) dX11_moves_102) hS (fun q _ h => hFc q h) hFc (fun u_12 t H1 locs ht hvm h_13 hB1 hz1 hk1 hS => ?_)
              obtain ⟨hP1, hD1⟩ := hB1
              rw [ht] at hP1
              obtain ⟨hP, hD⟩ := exjoin hP hD hk1 hFc hP1 hD1
              generalize H1 = H at hP hS ⊢
              have hP : va_P D vwCl ((wX cI (D.1 99) zz g ad cn In Fn) ++ ([(q95, .inr (4, [.int v0, .int v1, .int v2]))] : va_W)) H := hP
              have hD : va_D A ((wX cI (D.1 99) zz g ad cn In Fn) ++ ([(q95, .inr (4, [.int v0, .int v1, .int v2]))] : va_W)) := hD
              rcases Nat.eq_zero_or_pos (cn 15) with hz0 | hz0
              ·
                have hi9 : (wX cI (D.1 99) zz g ad cn In Fn)[29]? = _ := xlz_5 hz0
                have hp2P := pick2P hP (exl hi9) (exr (m := 0) rfl)
                have hp2D := pick2D hD (exl hi9) (exr (m := 0) rfl) (ne_ex hi9)
                have hFc := free_all hp2D hS hA
                refine va_calli (runV_xa (As := [.ref q95]) (rest := []) S (q_l_addZM l D cI cB cZ zz qq vv bt (g 15) q95 (In 15) v0 v1 v2 H.size) kV_RX11_110 hK hXS hS hFc hp2P hp2D 0 rfl rfl rfl ⟨Nat.le_of_ble_eq_true rfl, Nat.le_of_ble_eq_true rfl⟩ ⟨Nat.le_of_ble_eq_true rfl, Nat.le_of_ble_eq_true rfl⟩ rfl hl.1 rfl (Nat.le_of_ble_eq_true rfl) dX11_moves_105) hS (fun q _ h => hFc q h) hFc (fun r13 u13 t H1 locs ht hvm h13 hB1 hz1 hk1 hS => ?_)
                obtain ⟨hP1, hD1⟩ := hB1
                rw [ht] at hP1
                obtain rfl : r13 = 1 := h13
                obtain ⟨hP, hD⟩ := add0_join hP hD hi9 rfl hk1 hFc hP1 hD1 rfl (xu_5 (z := u13) (c := 10) (y := (In 15) + 1) (q := q95) (x0 := v0) (x1 := v1) (x2 := v2) hz0)
                have hP : va_P D vwCl (wX cI (D.1 99) zz g (adP ad 15 (cn 15) q95 5 u13) (va_up (va_up cn 15 ((cn 15) + 1)) 25 10) (va_up In 15 ((In 15) + 1)) (va_up (va_up (va_up Fn 180 (upd (Fn 180) (cn 15) v0)) 181 (upd (Fn 181) (cn 15) v1)) 182 (upd (Fn 182) (cn 15) v2))) H1 := hP
                have hD : va_D A (wX cI (D.1 99) zz g (adP ad 15 (cn 15) q95 5 u13) (va_up (va_up cn 15 ((cn 15) + 1)) 25 10) (va_up In 15 ((In 15) + 1)) (va_up (va_up (va_up Fn 180 (upd (Fn 180) (cn 15) v0)) 181 (upd (Fn 181) (cn 15) v1)) 182 (upd (Fn 182) (cn 15) v2))) := hD
                generalize H1 = H at hP hS ⊢
                refine W.widen (k := 2) (n := 103) (Nat.le_of_ble_eq_true rfl) (Nat.le_of_ble_eq_true rfl) ?_
                refine lv_pop hx hb dX11_moves_108 rfl ?_
                refine lv_iconst (v := 1) hx hb dX11_moves_109 kic_1 ?_
                exact W.zret (v := 1) hx hb hr rfl (fun t ht hW => ⟨⟨1, ((adP ad 15 (cn 15) q95 5 u13), (va_up (va_up cn 15 ((cn 15) + 1)) 25 10), (va_up In 15 ((In 15) + 1)), (va_up (va_up (va_up Fn 180 (upd (Fn 180) (cn 15) v0)) 181 (upd (Fn 181) (cn 15) v1)) 182 (upd (Fn 182) (cn 15) v2))), rfl, (Or.inr ⟨rfl, q95, u13, 10, ((In 15) + 1), by omega, ⟨by omega, by omega⟩, rfl, rfl, rfl, rfl⟩), by rw [ht]; exact hP, hD⟩, hS.F ht⟩) hS.2.2 dX11_moves_110
              ·
                have hi9 : (wX cI (D.1 99) zz g ad cn In Fn)[29]? = _ := xl_5 hz0
                have hj9 : (wX cI (D.1 99) zz g ad cn In Fn)[_]? = _ := xf_18 (k := 0) (show 0 < min 1 (cn 15) by omega)
                obtain ⟨ws9, hp1, hp2⟩ := pickG (W := ((wX cI (D.1 99) zz g ad cn In Fn) ++ ([(q95, .inr (4, [.int v0, .int v1, .int v2]))] : va_W))) (exl hi9) (exl hj9) (exr (m := 0) rfl) (xij (by decide)) (ne_ex hi9) (ne_ex hj9)
                have hP9 := va_P_perm hp1 hP
                have hD9 := va_D_perm hp1 hD
                have hFc := free_all hD9 hS hA
                refine va_calli (runV_xa (As := [.ref q95]) (rest := []) S (q_l_addGM l D cI cB cZ zz qq vv bt (cn 25) (g 15) (ad 2 5) (cn 15) q95 (In 15) (ad 15) v0 v1 v2 ws9 H.size (by omega) (by omega) hz0 (by omega) (fun i hi => ⟨_, g_mem (hp1.mem_iff.mp (List.mem_of_getElem? (exl (xf_5 (k := i) hi)))) (by decide)⟩)) kV_RX11_110 hK hXS hS hFc hP9 hD9 0 rfl rfl rfl ⟨Nat.le_of_ble_eq_true rfl, Nat.le_of_ble_eq_true rfl⟩ ⟨Nat.le_of_ble_eq_true rfl, Nat.le_of_ble_eq_true rfl⟩ rfl hl.1 rfl (Nat.le_of_ble_eq_true rfl) dX11_moves_105) hS (fun q _ h => hFc q h) hFc (fun r13 u13 t H1 locs ht hvm h13 hB1 hz1 hk1 hS => ?_)
                obtain ⟨hP1, hD1⟩ := hB1
                rw [ht] at hP1
                obtain ⟨hr13, h13⟩ := h13
                obtain rfl : r13 = 1 := hr13
                obtain ⟨ua13, uc13⟩ := u13
                have hu13 : cn 15 < uc13 ∧ uc13 ≤ 100 := h13
                obtain ⟨hP, hD⟩ := addG_join hp2 hi9 hj9 hP1 hD1 hFc (xadd_5 (z := ua13) (c := uc13) (y := (In 15) + 1) (q := q95) (x0 := v0) (x1 := v1) (x2 := v2) hz0)
                have hP : va_P D vwCl (wX cI (D.1 99) zz g (adP ad 15 (cn 15) q95 5 ua13) (va_up (va_up cn 15 ((cn 15) + 1)) 25 uc13) (va_up In 15 ((In 15) + 1)) (va_up (va_up (va_up Fn 180 (upd (Fn 180) (cn 15) v0)) 181 (upd (Fn 181) (cn 15) v1)) 182 (upd (Fn 182) (cn 15) v2))) H1 := hP
                have hD : va_D A (wX cI (D.1 99) zz g (adP ad 15 (cn 15) q95 5 ua13) (va_up (va_up cn 15 ((cn 15) + 1)) 25 uc13) (va_up In 15 ((In 15) + 1)) (va_up (va_up (va_up Fn 180 (upd (Fn 180) (cn 15) v0)) 181 (upd (Fn 181) (cn 15) v1)) 182 (upd (Fn 182) (cn 15) v2))) := hD
                generalize H1 = H at hP hS ⊢
                refine lv_pop hx hb dX11_moves_108 rfl ?_
                refine lv_iconst (v := 1) hx hb dX11_moves_109 kic_1 ?_
                exact W.zret (v := 1) hx hb hr rfl (fun t ht hW => ⟨⟨1, ((adP ad 15 (cn 15) q95 5 ua13), (va_up (va_up cn 15 ((cn 15) + 1)) 25 uc13), (va_up In 15 ((In 15) + 1)), (va_up (va_up (va_up Fn 180 (upd (Fn 180) (cn 15) v0)) 181 (upd (Fn 181) (cn 15) v1)) 182 (upd (Fn 182) (cn 15) v2))), rfl, (Or.inr ⟨rfl, q95, ua13, uc13, ((In 15) + 1), by omega, ⟨by omega, by omega⟩, rfl, rfl, rfl, rfl⟩), by rw [ht]; exact hP, hD⟩, hS.F ht⟩) hS.2.2 dX11_moves_110
            ·
              have tc_11 : (v2.toInt : Int) < ((Fn 182) mr_9).toInt := Int32.lt_iff_toInt_lt.mp (Int32.not_le.mp c_11)
              refine lv_iconst (v := 0) hx hb (oc_3 89 (aq_16 shX11_moves_73)) kic_0 ?_
              refine W.widen (k := 2) (n := 103) (Nat.le_of_ble_eq_true rfl) (Nat.le_of_ble_eq_true rfl) ?_
              exact W.zret (v := 0) hx hb hr rfl (fun t ht hW => ⟨⟨0, (ad, cn, In, Fn), rfl, (Or.inl ⟨rfl, rfl, rfl, rfl, rfl⟩), by rw [ht]; exact hP, hD⟩, hS.F ht⟩) hS.2.2 (oc_172 90 (aq_17 shX11_moves_73))
          ·
            refine lv_astoreN (lv' := [(5, .null), (4, .int 1), (0, .ref (g 0)), (1, .int v0), (2, .int v1), (3, .int v2)]) hx hb dX11_moves_73 hl (ltb rfl) rfl (fun ls hl => ?_)
            refine lv_aloadN hx hb dX11_moves_75 (lvA0 hl) ?_
            refine lv_ifnullN (tgt := 91) hx hb dX11_moves_77 rfl ?_
            refine lv_aload_n hx hb dX11_moves_91 rfl (lvA2 hl) ?_
            refine gf_RX11_77 S hK hP 0 xo_0 (v := .ref (g 15)) rfl dX11_moves_92 ?_
            refine va_new (ci := 4) (fs := [.int 0, .int 0, .int 0]) (C := RX3) (T := TX3) (N := 3) hx hb S.2.2.2.2 hin_RX3 tyX3 tyX3_ok hown (S.2.2.2.2 _ (wk6_3 3 rfl rfl)) (S.2.2.2.2 _ (wk6_3 4 rfl rfl)) (S.2.2.2.2 _ (wk1_2 2 rfl rfl)) hK.1 hP hD hS hA rfl (by decide +kernel) (Nat.le_of_ble_eq_true rfl) (Nat.le_of_ble_eq_true rfl) dX11_moves_95 (fun q95 H hP hD hS => ?_)
            have hP : va_P D vwCl ((wX cI (D.1 99) zz g ad cn In Fn) ++ ([(q95, .inr (4, [.int 0, .int 0, .int 0]))] : va_W)) H := hP
            have hD : va_D A ((wX cI (D.1 99) zz g ad cn In Fn) ++ ([(q95, .inr (4, [.int 0, .int 0, .int 0]))] : va_W)) := hD
            refine lv_dup hx hb dX11_moves_98 rfl ?_
            refine lv_iload_n hx hb dX11_moves_99 rfl (lvA3 hl) ?_
            refine lv_iload_n hx hb dX11_moves_100 rfl (lvA4 hl) ?_
            refine lv_iload_n hx hb dX11_moves_101 rfl (lvA5 hl) ?_
            have hFc := va_free (wc := [(q95, .inr (4, [.int 0, .int 0, .int 0]))]) hD hS hA [_] (one_im (exr (m := 0) rfl))
            refine va_callv (runI_w (As := [.int v0, .int v1, .int v2]) (rest := [.ref q95, .ref (g 15)]) S (q_l_Move l D cI cB cZ q95 v0 v1 v2 H.size) kI_RX11_513 hK hP hD [_] (one_is (exr (m := 0) rfl)) (one_im (exr (m := 0) rfl)) rfl ⟨Nat.le_of_ble_eq_true rfl, Nat.le_of_ble_eq_true rfl⟩ ⟨Nat.le_of_ble_eq_true rfl, Nat.le_of_ble_eq_true rfl⟩ rfl hl.1 rfl (Nat.le_of_ble_eq_true rfl) dX11_moves_102) hS (fun q _ h => hFc q h) hFc (fun u_15 t H1 locs ht hvm h_16 hB1 hz1 hk1 hS => ?_)
            obtain ⟨hP1, hD1⟩ := hB1
            rw [ht] at hP1
            obtain ⟨hP, hD⟩ := exjoin hP hD hk1 hFc hP1 hD1
            generalize H1 = H at hP hS ⊢
            have hP : va_P D vwCl ((wX cI (D.1 99) zz g ad cn In Fn) ++ ([(q95, .inr (4, [.int v0, .int v1, .int v2]))] : va_W)) H := hP
            have hD : va_D A ((wX cI (D.1 99) zz g ad cn In Fn) ++ ([(q95, .inr (4, [.int v0, .int v1, .int v2]))] : va_W)) := hD
            rcases Nat.eq_zero_or_pos (cn 15) with hz0 | hz0
            ·
              have hi9 : (wX cI (D.1 99) zz g ad cn In Fn)[29]? = _ := xlz_5 hz0
              have hp2P := pick2P hP (exl hi9) (exr (m := 0) rfl)
              have hp2D := pick2D hD (exl hi9) (exr (m := 0) rfl) (ne_ex hi9)
              have hFc := free_all hp2D hS hA
              refine va_calli (runV_xa (As := [.ref q95]) (rest := []) S (q_l_addZM l D cI cB cZ zz qq vv bt (g 15) q95 (In 15) v0 v1 v2 H.size) kV_RX11_110 hK hXS hS hFc hp2P hp2D 0 rfl rfl rfl ⟨Nat.le_of_ble_eq_true rfl, Nat.le_of_ble_eq_true rfl⟩ ⟨Nat.le_of_ble_eq_true rfl, Nat.le_of_ble_eq_true rfl⟩ rfl hl.1 rfl (Nat.le_of_ble_eq_true rfl) dX11_moves_105) hS (fun q _ h => hFc q h) hFc (fun r16 u16 t H1 locs ht hvm h16 hB1 hz1 hk1 hS => ?_)
              obtain ⟨hP1, hD1⟩ := hB1
              rw [ht] at hP1
              obtain rfl : r16 = 1 := h16
              obtain ⟨hP, hD⟩ := add0_join hP hD hi9 rfl hk1 hFc hP1 hD1 rfl (xu_5 (z := u16) (c := 10) (y := (In 15) + 1) (q := q95) (x0 := v0) (x1 := v1) (x2 := v2) hz0)
              have hP : va_P D vwCl (wX cI (D.1 99) zz g (adP ad 15 (cn 15) q95 5 u16) (va_up (va_up cn 15 ((cn 15) + 1)) 25 10) (va_up In 15 ((In 15) + 1)) (va_up (va_up (va_up Fn 180 (upd (Fn 180) (cn 15) v0)) 181 (upd (Fn 181) (cn 15) v1)) 182 (upd (Fn 182) (cn 15) v2))) H1 := hP
              have hD : va_D A (wX cI (D.1 99) zz g (adP ad 15 (cn 15) q95 5 u16) (va_up (va_up cn 15 ((cn 15) + 1)) 25 10) (va_up In 15 ((In 15) + 1)) (va_up (va_up (va_up Fn 180 (upd (Fn 180) (cn 15) v0)) 181 (upd (Fn 181) (cn 15) v1)) 182 (upd (Fn 182) (cn 15) v2))) := hD
              generalize H1 = H at hP hS ⊢
              refine W.widen (k := 2) (n := 103) (Nat.le_of_ble_eq_true rfl) (Nat.le_of_ble_eq_true rfl) ?_
              refine lv_pop hx hb dX11_moves_108 rfl ?_
              refine lv_iconst (v := 1) hx hb dX11_moves_109 kic_1 ?_
              exact W.zret (v := 1) hx hb hr rfl (fun t ht hW => ⟨⟨1, ((adP ad 15 (cn 15) q95 5 u16), (va_up (va_up cn 15 ((cn 15) + 1)) 25 10), (va_up In 15 ((In 15) + 1)), (va_up (va_up (va_up Fn 180 (upd (Fn 180) (cn 15) v0)) 181 (upd (Fn 181) (cn 15) v1)) 182 (upd (Fn 182) (cn 15) v2))), rfl, (Or.inr ⟨rfl, q95, u16, 10, ((In 15) + 1), by omega, ⟨by omega, by omega⟩, rfl, rfl, rfl, rfl⟩), by rw [ht]; exact hP, hD⟩, hS.F ht⟩) hS.2.2 dX11_moves_110
            ·
              have hi9 : (wX cI (D.1 99) zz g ad cn In Fn)[29]? = _ := xl_5 hz0
              have hj9 : (wX cI (D.1 99) zz g ad cn In Fn)[_]? = _ := xf_18 (k := 0) (show 0 < min 1 (cn 15) by omega)
              obtain ⟨ws9, hp1, hp2⟩ := pickG (W := ((wX cI (D.1 99) zz g ad cn In Fn) ++ ([(q95, .inr (4, [.int v0, .int v1, .int v2]))] : va_W))) (exl hi9) (exl hj9) (exr (m := 0) rfl) (xij (by decide)) (ne_ex hi9) (ne_ex hj9)
              have hP9 := va_P_perm hp1 hP
              have hD9 := va_D_perm hp1 hD
              have hFc := free_all hD9 hS hA
              refine va_calli (runV_xa (As := [.ref q95]) (rest := []) S (q_l_addGM l D cI cB cZ zz qq vv bt (cn 25) (g 15) (ad 2 5) (cn 15) q95 (In 15) (ad 15) v0 v1 v2 ws9 H.size (by omega) (by omega) hz0 (by omega) (fun i hi => ⟨_, g_mem (hp1.mem_iff.mp (List.mem_of_getElem? (exl (xf_5 (k := i) hi)))) (by decide)⟩)) kV_RX11_110 hK hXS hS hFc hP9 hD9 0 rfl rfl rfl ⟨Nat.le_of_ble_eq_true rfl, Nat.le_of_ble_eq_true rfl⟩ ⟨Nat.le_of_ble_eq_true rfl, Nat.le_of_ble_eq_true rfl⟩ rfl hl.1 rfl (Nat.le_of_ble_eq_true rfl) dX11_moves_105) hS (fun q _ h => hFc q h) hFc (fun r16 u16 t H1 locs ht hvm h16 hB1 hz1 hk1 hS => ?_)
              obtain ⟨hP1, hD1⟩ := hB1
              rw [ht] at hP1
              obtain ⟨hr16, h16⟩ := h16
              obtain rfl : r16 = 1 := hr16
              obtain ⟨ua16, uc16⟩ := u16
              have hu16 : cn 15 < uc16 ∧ uc16 ≤ 100 := h16
              obtain ⟨hP, hD⟩ := addG_join hp2 hi9 hj9 hP1 hD1 hFc (xadd_5 (z := ua16) (c := uc16) (y := (In 15) + 1) (q := q95) (x0 := v0) (x1 := v1) (x2 := v2) hz0)
              have hP : va_P D vwCl (wX cI (D.1 99) zz g (adP ad 15 (cn 15) q95 5 ua16) (va_up (va_up cn 15 ((cn 15) + 1)) 25 uc16) (va_up In 15 ((In 15) + 1)) (va_up (va_up (va_up Fn 180 (upd (Fn 180) (cn 15) v0)) 181 (upd (Fn 181) (cn 15) v1)) 182 (upd (Fn 182) (cn 15) v2))) H1 := hP
              have hD : va_D A (wX cI (D.1 99) zz g (adP ad 15 (cn 15) q95 5 ua16) (va_up (va_up cn 15 ((cn 15) + 1)) 25 uc16) (va_up In 15 ((In 15) + 1)) (va_up (va_up (va_up Fn 180 (upd (Fn 180) (cn 15) v0)) 181 (upd (Fn 181) (cn 15) v1)) 182 (upd (Fn 182) (cn 15) v2))) := hD
              generalize H1 = H at hP hS ⊢
              refine lv_pop hx hb dX11_moves_108 rfl ?_
              refine lv_iconst (v := 1) hx hb dX11_moves_109 kic_1 ?_
              exact W.zret (v := 1) hx hb hr rfl (fun t ht hW => ⟨⟨1, ((adP ad 15 (cn 15) q95 5 ua16), (va_up (va_up cn 15 ((cn 15) + 1)) 25 uc16), (va_up In 15 ((In 15) + 1)), (va_up (va_up (va_up Fn 180 (upd (Fn 180) (cn 15) v0)) 181 (upd (Fn 181) (cn 15) v1)) 182 (upd (Fn 182) (cn 15) v2))), rfl, (Or.inr ⟨rfl, q95, ua16, uc16, ((In 15) + 1), by omega, ⟨by omega, by omega⟩, rfl, rfl, rfl, rfl⟩), by rw [ht]; exact hP, hD⟩, hS.F ht⟩) hS.2.2 dX11_moves_110
        ·
          have tc_8 : (60 : Int) ≤ (nI (cn 15)).toInt := Int32.le_iff_toInt_le.mp (Int32.not_lt.mp c_8)
          refine lv_iconst (v := 0) hx hb dX11_moves_63 kic_0 ?_
          refine W.widen (k := 2) (n := 103) (Nat.le_of_ble_eq_true rfl) (Nat.le_of_ble_eq_true rfl) ?_
          exact W.zret (v := 0) hx hb hr rfl (fun t ht hW => ⟨⟨0, (ad, cn, In, Fn), rfl, (Or.inl ⟨rfl, rfl, rfl, rfl, rfl⟩), by rw [ht]; exact hP, hD⟩, hS.F ht⟩) hS.2.2 dX11_moves_64
      ·
        have h_5 : ¬ (0 ≤ v2.toInt ∧ v2.toInt ≤ (nI (cn 0)).toInt) := h_5
        refine lv_if_eq (tgt := 63) hx hb dX11_moves_48 rfl (fun _ => ?_) (fun h => absurd h cq_eq_0_0)
        refine lv_iconst (v := 0) hx hb dX11_moves_63 kic_0 ?_
        refine W.widen (k := 2) (n := 103) (Nat.le_of_ble_eq_true rfl) (Nat.le_of_ble_eq_true rfl) ?_
        exact W.zret (v := 0) hx hb hr rfl (fun t ht hW => ⟨⟨0, (ad, cn, In, Fn), rfl, (Or.inl ⟨rfl, rfl, rfl, rfl, rfl⟩), by rw [ht]; exact hP, hD⟩, hS.F ht⟩) hS.2.2 dX11_moves_64
    ·
      have tc_3 : (v1.toInt : Int) ≠ (-1) := fun q => c_3 (Int32.toInt_inj.mp q)
      refine lv_aload_n hx hb (oc_42 19 (aq_19 shX11_moves_0)) rfl (lvA0 hl) ?_
      refine lv_iload_n hx hb (oc_28 20 (aq_20 shX11_moves_0)) rfl (lvA2 hl) ?_
      refine va_csq (runV_rxa (As := [.int v1]) (rest := []) S (q_XkitchenAt l D cI cB cZ zz qq vv bt g ad cn In Fn v1 hB) kV_RX11_114 hK hXS hS hP 0 xo_0 rfl rfl ⟨Nat.le_of_ble_eq_true rfl, Nat.le_of_ble_eq_true rfl⟩ ⟨Nat.le_of_ble_eq_true rfl, Nat.le_of_ble_eq_true rfl⟩ rfl hl.1 rfl (Nat.le_of_ble_eq_true rfl) (oc_182 21 (aq_21 shX11_moves_0) uw_0_114)) (fun r_18 h_19 => ?_)
      rcases h_19 with ⟨mr_18, er_18, hr_18, rfl⟩ | ⟨hr_18, rfl⟩
      ·
        refine lv_ifnull hx hb (oc_198 24 shX11_moves_24 sgw_0_7) ?_
        refine lv_iconst (v := 1) hx hb (oc_4 27 (aq_3 shX11_moves_24)) kic_1 ?_
        refine lv_goto (tgt := 32) hx hb (oc_167 28 (aq_4 shX11_moves_24) sgw_0_4) rfl ?_
        refine lv_istore (lv' := [(4, .int 1), (0, .ref (g 0)), (1, .int v0), (2, .int v1), (3, .int v2)]) hx hb dX11_moves_32 hl (ltb rfl) rfl (fun ls hl => ?_)
        refine lv_iload hx hb dX11_moves_34 (lvA0 hl) ?_
        refine lv_if_eq (tgt := 63) hx hb dX11_moves_36 rfl (fun h => absurd h cq_eq_1_0) (fun _ => ?_)
        refine lv_iload_n hx hb (oc_29 39 (aq_15 shX11_moves_24)) rfl (lvA4 hl) ?_
        refine lv_iconst (v := 0) hx hb (oc_3 40 (aq_16 shX11_moves_24)) kic_0 ?_
        refine lv_aload_n hx hb (oc_42 41 (aq_17 shX11_moves_24)) rfl (lvA1 hl) ?_
        refine gf_RX11_103 S hK hP 0 xo_0 (v := .int (nI (cn 0))) rfl (oc_180 42 (aq_18 shX11_moves_24) uw_0_103) ?_
        refine vp_callSi (runS_r (As := [.int v2, .int 0, .int (nI (cn 0))]) (rest := []) S (q_l_within l D cI cB cZ v2 0 (nI (cn 0))) kS_RX11_80 hK hP [] rfl ⟨Nat.le_of_ble_eq_true rfl, Nat.le_of_ble_eq_true rfl⟩ ⟨Nat.le_of_ble_eq_true rfl, Nat.le_of_ble_eq_true rfl⟩ rfl hl.1 rfl (Nat.le_of_ble_eq_true rfl) (oc_184 45 (aq_21 shX11_moves_24) uw_0_80)) (fun r_20 h_21 => ?_)
        have : (nI (cn 0)).toInt = (((cn 0) : Nat) : Int) := nI_toInt (by omega)
        rcases h_21 with ⟨rfl, h_21⟩ | ⟨rfl, h_21⟩
        ·
          have h_21 : 0 ≤ v2.toInt ∧ v2.toInt ≤ (nI (cn 0)).toInt := h_21
          refine lv_if_eq (tgt := 63) hx hb dX11_moves_48 rfl (fun h => absurd h cq_eq_1_0) (fun _ => ?_)
          refine lv_aload_n hx hb (oc_42 51 (aq_3 shX11_moves_48)) rfl (lvA1 hl) ?_
          refine gf_RX11_77 S hK hP 0 xo_0 (v := .ref (g 15)) rfl (oc_180 52 (aq_4 shX11_moves_48) uw_0_77) ?_
          refine vp_callSi (runV_r (As := []) (rest := []) S (q_l_size l D cI cB cZ (g 15) (if (cn 15) = 0 then zz else ad 2 5) (In 15) (nI (cn 15))) kV_RX11_84 hK hP [29] (one_is xo_29) 29 xo_29 rfl rfl ⟨Nat.le_of_ble_eq_true rfl, Nat.le_of_ble_eq_true rfl⟩ ⟨Nat.le_of_ble_eq_true rfl, Nat.le_of_ble_eq_true rfl⟩ rfl hl.1 rfl (Nat.le_of_ble_eq_true rfl) (oc_182 55 (aq_7 shX11_moves_48) uw_0_84)) (fun r_22 h_23 => ?_)
          subst h_23
          refine lv_bipush (v := 60) hx hb (oc_16 58 (aq_10 shX11_moves_48) sgb_60) kbc_60 ?_
          have : (nI (cn 15)).toInt = (((cn 15) : Nat) : Int) := nI_toInt (by omega)
          refine lv_icmp_lt (tgt := 65) hx hb (oc_161 60 (aq_12 shX11_moves_48) sgw_0_5) rfl (fun c_24 => ?_) (fun c_24 => ?_)
          ·
            have tc_24 : ((nI (cn 15)).toInt : Int) < 60 := Int32.lt_iff_toInt_lt.mp c_24
            refine lv_aload_n hx hb (oc_42 65 (aq_17 shX11_moves_48)) rfl (lvA1 hl) ?_
            refine lv_iload_n hx hb (oc_27 66 (aq_18 shX11_moves_48)) rfl (lvA2 hl) ?_
            refine lv_sipush (v := 399) hx hb (oc_17 67 (aq_19 shX11_moves_48) sgw_1_143) (by decide) ?_
            refine va_csq (runV_rxa (As := [.int v0, .int 399]) (rest := []) S (q_XmoveBy l D cI cB cZ zz qq vv bt g ad cn In Fn v0 399 hB) kV_RX11_509 hK hXS hS hP 0 xo_0 rfl rfl ⟨Nat.le_of_ble_eq_true rfl, Nat.le_of_ble_eq_true rfl⟩ ⟨Nat.le_of_ble_eq_true rfl, Nat.le_of_ble_eq_true rfl⟩ rfl hl.1 rfl (Nat.le_of_ble_eq_true rfl) (oc_182 70 (aq_22 shX11_moves_48) uw_1_253)) (fun r_25 h_26 => ?_)
            rcases h_26 with ⟨mr_25, er_25, hr_25, rfl⟩ | ⟨hr_25, rfl⟩
            ·
              refine lv_astore (lv' := [(5, .ref (ad 15 mr_25)), (4, .int 1), (0, .ref (g 0)), (1, .int v0), (2, .int v1), (3, .int v2)]) hx hb dX11_moves_73 hl (ltb rfl) rfl (fun ls hl => ?_)
              refine lv_aload hx hb dX11_moves_75 (lvA0 hl) ?_
              refine lv_ifnull hx hb dX11_moves_77 ?_
              refine lv_iload_n hx hb (oc_29 80 (aq_7 shX11_moves_73)) rfl (lvA5 hl) ?_
              refine lv_aload hx hb (oc_25 81 (aq_8 shX11_moves_73) ub_5) (lvA0 hl) ?_
              refine gf_RX11_508 S hK hP _ (xf_5 (by omega)) (v := .int ((Fn 182) mr_25)) rfl (oc_180 83 (aq_10 shX11_moves_73) uw_1_252) ?_
              refine lv_icmp_ge (tgt := 91) hx hb (oc_162 86 (aq_13 shX11_moves_73) sgw_0_5) rfl (fun c_27 => ?_) (fun c_27 => ?_)
              ·
                have tc_27 : (((Fn 182) mr_25).toInt : Int) ≤ v2.toInt := Int32.le_iff_toInt_le.mp c_27
                refine lv_aload_n hx hb dX11_moves_91 rfl (lvA2 hl) ?_
                refine gf_RX11_77 S hK hP 0 xo_0 (v := .ref (g 15)) rfl dX11_moves_92 ?_
                refine va_new (ci := 4) (fs := [.int 0, .int 0, .int 0]) (C := RX3) (T := TX3) (N := 3) hx hb S.2.2.2.2 hin_RX3 tyX3 tyX3_ok hown (S.2.2.2.2 _ (wk6_3 3 rfl rfl)) (S.2.2.2.2 _ (wk6_3 4 rfl rfl)) (S.2.2.2.2 _ (wk1_2 2 rfl rfl)) hK.1 hP hD hS hA rfl (by decide +kernel) (Nat.le_of_ble_eq_true rfl) (Nat.le_of_ble_eq_true rfl) dX11_moves_95 (fun q95 H hP hD hS => ?_)
                have hP : va_P D vwCl ((wX cI (D.1 99) zz g ad cn In Fn) ++ ([(q95, .inr (4, [.int 0, .int 0, .int 0]))] : va_W)) H := hP
                have hD : va_D A ((wX cI (D.1 99) zz g ad cn In Fn) ++ ([(q95, .inr (4, [.int 0, .int 0, .int 0]))] : va_W)) := hD
                refine lv_dup hx hb dX11_moves_98 rfl ?_
                refine lv_iload_n hx hb dX11_moves_99 rfl (lvA3 hl) ?_
                refine lv_iload_n hx hb dX11_moves_100 rfl (lvA4 hl) ?_
                refine lv_iload_n hx hb dX11_moves_101 rfl (lvA5 hl) ?_
                have hFc := va_free (wc := [(q95, .inr (4, [.int 0, .int 0, .int 0]))]) hD hS hA [_] (one_im (exr (m := 0) rfl))
                refine va_callv (runI_w (As := [.int v0, .int v1, .int v2]) (rest := [.ref q95, .ref (g 15)]) S (q_l_Move l D cI cB cZ q95 v0 v1 v2 H.size) kI_RX11_513 hK hP hD [_] (one_is (exr (m := 0) rfl)) (one_im (exr (m := 0) rfl)) rfl ⟨Nat.le_of_ble_eq_true rfl, Nat.le_of_ble_eq_true rfl⟩ ⟨Nat.le_of_ble_eq_true rfl, Nat.le_of_ble_eq_true rfl⟩ rfl hl.1 rfl (Nat.le_of_ble_eq_true rfl) dX11_moves_102) hS (fun q _ h => hFc q h) hFc (fun u_28 t H1 locs ht hvm h_29 hB1 hz1 hk1 hS => ?_)
                obtain ⟨hP1, hD1⟩ := hB1
                rw [ht] at hP1
                obtain ⟨hP, hD⟩ := exjoin hP hD hk1 hFc hP1 hD1
                generalize H1 = H at hP hS ⊢
                have hP : va_P D vwCl ((wX cI (D.1 99) zz g ad cn In Fn) ++ ([(q95, .inr (4, [.int v0, .int v1, .int v2]))] : va_W)) H := hP
                have hD : va_D A ((wX cI (D.1 99) zz g ad cn In Fn) ++ ([(q95, .inr (4, [.int v0, .int v1, .int v2]))] : va_W)) := hD
                rcases Nat.eq_zero_or_pos (cn 15) with hz0 | hz0
                ·
                  have hi9 : (wX cI (D.1 99) zz g ad cn In Fn)[29]? = _ := xlz_5 hz0
                  have hp2P := pick2P hP (exl hi9) (exr (m := 0) rfl)
                  have hp2D := pick2D hD (exl hi9) (exr (m := 0) rfl) (ne_ex hi9)
                  have hFc := free_all hp2D hS hA
                  refine va_calli (runV_xa (As := [.ref q95]) (rest := []) S (q_l_addZM l D cI cB cZ zz qq vv bt (g 15) q95 (In 15) v0 v1 v2 H.size) kV_RX11_110 hK hXS hS hFc hp2P hp2D 0 rfl rfl rfl ⟨Nat.le_of_ble_eq_true rfl, Nat.le_of_ble_eq_true rfl⟩ ⟨Nat.le_of_ble_eq_true rfl, Nat.le_of_ble_eq_true rfl⟩ rfl hl.1 rfl (Nat.le_of_ble_eq_true rfl) dX11_moves_105) hS (fun q _ h => hFc q h) hFc (fun r29 u29 t H1 locs ht hvm h29 hB1 hz1 hk1 hS => ?_)
                  obtain ⟨hP1, hD1⟩ := hB1
                  rw [ht] at hP1
                  obtain rfl : r29 = 1 := h29
                  obtain ⟨hP, hD⟩ := add0_join hP hD hi9 rfl hk1 hFc hP1 hD1 rfl (xu_5 (z := u29) (c := 10) (y := (In 15) + 1) (q := q95) (x0 := v0) (x1 := v1) (x2 := v2) hz0)
                  have hP : va_P D vwCl (wX cI (D.1 99) zz g (adP ad 15 (cn 15) q95 5 u29) (va_up (va_up cn 15 ((cn 15) + 1)) 25 10) (va_up In 15 ((In 15) + 1)) (va_up (va_up (va_up Fn 180 (upd (Fn 180) (cn 15) v0)) 181 (upd (Fn 181) (cn 15) v1)) 182 (upd (Fn 182) (cn 15) v2))) H1 := hP
                  have hD : va_D A (wX cI (D.1 99) zz g (adP ad 15 (cn 15) q95 5 u29) (va_up (va_up cn 15 ((cn 15) + 1)) 25 10) (va_up In 15 ((In 15) + 1)) (va_up (va_up (va_up Fn 180 (upd (Fn 180) (cn 15) v0)) 181 (upd (Fn 181) (cn 15) v1)) 182 (upd (Fn 182) (cn 15) v2))) := hD
                  generalize H1 = H at hP hS ⊢
                  refine W.widen (k := 2) (n := 103) (Nat.le_of_ble_eq_true rfl) (Nat.le_of_ble_eq_true rfl) ?_
                  refine lv_pop hx hb dX11_moves_108 rfl ?_
                  refine lv_iconst (v := 1) hx hb dX11_moves_109 kic_1 ?_
                  exact W.zret (v := 1) hx hb hr rfl (fun t ht hW => ⟨⟨1, ((adP ad 15 (cn 15) q95 5 u29), (va_up (va_up cn 15 ((cn 15) + 1)) 25 10), (va_up In 15 ((In 15) + 1)), (va_up (va_up (va_up Fn 180 (upd (Fn 180) (cn 15) v0)) 181 (upd (Fn 181) (cn 15) v1)) 182 (upd (Fn 182) (cn 15) v2))), rfl, (Or.inr ⟨rfl, q95, u29, 10, ((In 15) + 1), by omega, ⟨by omega, by omega⟩, rfl, rfl, rfl, rfl⟩), by rw [ht]; exact hP, hD⟩, hS.F ht⟩) hS.2.2 dX11_moves_110
                ·
                  have hi9 : (wX cI (D.1 99) zz g ad cn In Fn)[29]? = _ := xl_5 hz0
                  have hj9 : (wX cI (D.1 99) zz g ad cn In Fn)[_]? = _ := xf_18 (k := 0) (show 0 < min 1 (cn 15) by omega)
                  obtain ⟨ws9, hp1, hp2⟩ := pickG (W := ((wX cI (D.1 99) zz g ad cn In Fn) ++ ([(q95, .inr (4, [.int v0, .int v1, .int v2]))] : va_W))) (exl hi9) (exl hj9) (exr (m := 0) rfl) (xij (by decide)) (ne_ex hi9) (ne_ex hj9)
                  have hP9 := va_P_perm hp1 hP
                  have hD9 := va_D_perm hp1 hD
                  have hFc := free_all hD9 hS hA
                  refine va_calli (runV_xa (As := [.ref q95]) (rest := []) S (q_l_addGM l D cI cB cZ zz qq vv bt (cn 25) (g 15) (ad 2 5) (cn 15) q95 (In 15) (ad 15) v0 v1 v2 ws9 H.size (by omega) (by omega) hz0 (by omega) (fun i hi => ⟨_, g_mem (hp1.mem_iff.mp (List.mem_of_getElem? (exl (xf_5 (k := i) hi)))) (by decide)⟩)) kV_RX11_110 hK hXS hS hFc hP9 hD9 0 rfl rfl rfl ⟨Nat.le_of_ble_eq_true rfl, Nat.le_of_ble_eq_true rfl⟩ ⟨Nat.le_of_ble_eq_true rfl, Nat.le_of_ble_eq_true rfl⟩ rfl hl.1 rfl (Nat.le_of_ble_eq_true rfl) dX11_moves_105) hS (fun q _ h => hFc q h) hFc (fun r29 u29 t H1 locs ht hvm h29 hB1 hz1 hk1 hS => ?_)
                  obtain ⟨hP1, hD1⟩ := hB1
                  rw [ht] at hP1
                  obtain ⟨hr29, h29⟩ := h29
                  obtain rfl : r29 = 1 := hr29
                  obtain ⟨ua29, uc29⟩ := u29
                  have hu29 : cn 15 < uc29 ∧ uc29 ≤ 100 := h29
                  obtain ⟨hP, hD⟩ := addG_join hp2 hi9 hj9 hP1 hD1 hFc (xadd_5 (z := ua29) (c := uc29) (y := (In 15) + 1) (q := q95) (x0 := v0) (x1 := v1) (x2 := v2) hz0)
                  have hP : va_P D vwCl (wX cI (D.1 99) zz g (adP ad 15 (cn 15) q95 5 ua29) (va_up (va_up cn 15 ((cn 15) + 1)) 25 uc29) (va_up In 15 ((In 15) + 1)) (va_up (va_up (va_up Fn 180 (upd (Fn 180) (cn 15) v0)) 181 (upd (Fn 181) (cn 15) v1)) 182 (upd (Fn 182) (cn 15) v2))) H1 := hP
                  have hD : va_D A (wX cI (D.1 99) zz g (adP ad 15 (cn 15) q95 5 ua29) (va_up (va_up cn 15 ((cn 15) + 1)) 25 uc29) (va_up In 15 ((In 15) + 1)) (va_up (va_up (va_up Fn 180 (upd (Fn 180) (cn 15) v0)) 181 (upd (Fn 181) (cn 15) v1)) 182 (upd (Fn 182) (cn 15) v2))) := hD
                  generalize H1 = H at hP hS ⊢
                  refine lv_pop hx hb dX11_moves_108 rfl ?_
                  refine lv_iconst (v := 1) hx hb dX11_moves_109 kic_1 ?_
                  exact W.zret (v := 1) hx hb hr rfl (fun t ht hW => ⟨⟨1, ((adP ad 15 (cn 15) q95 5 ua29), (va_up (va_up cn 15 ((cn 15) + 1)) 25 uc29), (va_up In 15 ((In 15) + 1)), (va_up (va_up (va_up Fn 180 (upd (Fn 180) (cn 15) v0)) 181 (upd (Fn 181) (cn 15) v1)) 182 (upd (Fn 182) (cn 15) v2))), rfl, (Or.inr ⟨rfl, q95, ua29, uc29, ((In 15) + 1), by omega, ⟨by omega, by omega⟩, rfl, rfl, rfl, rfl⟩), by rw [ht]; exact hP, hD⟩, hS.F ht⟩) hS.2.2 dX11_moves_110
              ·
                have tc_27 : (v2.toInt : Int) < ((Fn 182) mr_25).toInt := Int32.lt_iff_toInt_lt.mp (Int32.not_le.mp c_27)
                refine lv_iconst (v := 0) hx hb (oc_3 89 (aq_16 shX11_moves_73)) kic_0 ?_
                refine W.widen (k := 2) (n := 103) (Nat.le_of_ble_eq_true rfl) (Nat.le_of_ble_eq_true rfl) ?_
                exact W.zret (v := 0) hx hb hr rfl (fun t ht hW => ⟨⟨0, (ad, cn, In, Fn), rfl, (Or.inl ⟨rfl, rfl, rfl, rfl, rfl⟩), by rw [ht]; exact hP, hD⟩, hS.F ht⟩) hS.2.2 (oc_172 90 (aq_17 shX11_moves_73))
            ·
              refine lv_astoreN (lv' := [(5, .null), (4, .int 1), (0, .ref (g 0)), (1, .int v0), (2, .int v1), (3, .int v2)]) hx hb dX11_moves_73 hl (ltb rfl) rfl (fun ls hl => ?_)
              refine lv_aloadN hx hb dX11_moves_75 (lvA0 hl) ?_
              refine lv_ifnullN (tgt := 91) hx hb dX11_moves_77 rfl ?_
              refine lv_aload_n hx hb dX11_moves_91 rfl (lvA2 hl) ?_
              refine gf_RX11_77 S hK hP 0 xo_0 (v := .ref (g 15)) rfl dX11_moves_92 ?_
              refine va_new (ci := 4) (fs := [.int 0, .int 0, .int 0]) (C := RX3) (T := TX3) (N := 3) hx hb S.2.2.2.2 hin_RX3 tyX3 tyX3_ok hown (S.2.2.2.2 _ (wk6_3 3 rfl rfl)) (S.2.2.2.2 _ (wk6_3 4 rfl rfl)) (S.2.2.2.2 _ (wk1_2 2 rfl rfl)) hK.1 hP hD hS hA rfl (by decide +kernel) (Nat.le_of_ble_eq_true rfl) (Nat.le_of_ble_eq_true rfl) dX11_moves_95 (fun q95 H hP hD hS => ?_)
              have hP : va_P D vwCl ((wX cI (D.1 99) zz g ad cn In Fn) ++ ([(q95, .inr (4, [.int 0, .int 0, .int 0]))] : va_W)) H := hP
              have hD : va_D A ((wX cI (D.1 99) zz g ad cn In Fn) ++ ([(q95, .inr (4, [.int 0, .int 0, .int 0]))] : va_W)) := hD
              refine lv_dup hx hb dX11_moves_98 rfl ?_
              refine lv_iload_n hx hb dX11_moves_99 rfl (lvA3 hl) ?_
              refine lv_iload_n hx hb dX11_moves_100 rfl (lvA4 hl) ?_
              refine lv_iload_n hx hb dX11_moves_101 rfl (lvA5 hl) ?_
              have hFc := va_free (wc := [(q95, .inr (4, [.int 0, .int 0, .int 0]))]) hD hS hA [_] (one_im (exr (m := 0) rfl))
              refine va_callv (runI_w (As := [.int v0, .int v1, .int v2]) (rest := [.ref q95, .ref (g 15)]) S (q_l_Move l D cI cB cZ q95 v0 v1 v2 H.size) kI_RX11_513 hK hP hD [_] (one_is (exr (m := 0) rfl)) (one_im (exr (m := 0) rfl)) rfl ⟨Nat.le_of_ble_eq_true rfl, Nat.le_of_ble_eq_true rfl⟩ ⟨Nat.le_of_ble_eq_true rfl, Nat.le_of_ble_eq_true rfl⟩ rfl hl.1 rfl (Nat.le_of_ble_eq_true rfl) dX11_moves_102) hS (fun q _ h => hFc q h) hFc (fun u_31 t H1 locs ht hvm h_32 hB1 hz1 hk1 hS => ?_)
              obtain ⟨hP1, hD1⟩ := hB1
              rw [ht] at hP1
              obtain ⟨hP, hD⟩ := exjoin hP hD hk1 hFc hP1 hD1
              generalize H1 = H at hP hS ⊢
              have hP : va_P D vwCl ((wX cI (D.1 99) zz g ad cn In Fn) ++ ([(q95, .inr (4, [.int v0, .int v1, .int v2]))] : va_W)) H := hP
              have hD : va_D A ((wX cI (D.1 99) zz g ad cn In Fn) ++ ([(q95, .inr (4, [.int v0, .int v1, .int v2]))] : va_W)) := hD
              rcases Nat.eq_zero_or_pos (cn 15) with hz0 | hz0
              ·
                have hi9 : (wX cI (D.1 99) zz g ad cn In Fn)[29]? = _ := xlz_5 hz0
                have hp2P := pick2P hP (exl hi9) (exr (m := 0) rfl)
                have hp2D := pick2D hD (exl hi9) (exr (m := 0) rfl) (ne_ex hi9)
                have hFc := free_all hp2D hS hA
                refine va_calli (runV_xa (As := [.ref q95]) (rest := []) S (q_l_addZM l D cI cB cZ zz qq vv bt (g 15) q95 (In 15) v0 v1 v2 H.size) kV_RX11_110 hK hXS hS hFc hp2P hp2D 0 rfl rfl rfl ⟨Nat.le_of_ble_eq_true rfl, Nat.le_of_ble_eq_true rfl⟩ ⟨Nat.le_of_ble_eq_true rfl, Nat.le_of_ble_eq_true rfl⟩ rfl hl.1 rfl (Nat.le_of_ble_eq_true rfl) dX11_moves_105) hS (fun q _ h => hFc q h) hFc (fun r32 u32 t H1 locs ht hvm h32 hB1 hz1 hk1 hS => ?_)
                obtain ⟨hP1, hD1⟩ := hB1
                rw [ht] at hP1
                obtain rfl : r32 = 1 := h32
                obtain ⟨hP, hD⟩ := add0_join hP hD hi9 rfl hk1 hFc hP1 hD1 rfl (xu_5 (z := u32) (c := 10) (y := (In 15) + 1) (q := q95) (x0 := v0) (x1 := v1) (x2 := v2) hz0)
                have hP : va_P D vwCl (wX cI (D.1 99) zz g (adP ad 15 (cn 15) q95 5 u32) (va_up (va_up cn 15 ((cn 15) + 1)) 25 10) (va_up In 15 ((In 15) + 1)) (va_up (va_up (va_up Fn 180 (upd (Fn 180) (cn 15) v0)) 181 (upd (Fn 181) (cn 15) v1)) 182 (upd (Fn 182) (cn 15) v2))) H1 := hP
                have hD : va_D A (wX cI (D.1 99) zz g (adP ad 15 (cn 15) q95 5 u32) (va_up (va_up cn 15 ((cn 15) + 1)) 25 10) (va_up In 15 ((In 15) + 1)) (va_up (va_up (va_up Fn 180 (upd (Fn 180) (cn 15) v0)) 181 (upd (Fn 181) (cn 15) v1)) 182 (upd (Fn 182) (cn 15) v2))) := hD
                generalize H1 = H at hP hS ⊢
                refine W.widen (k := 2) (n := 103) (Nat.le_of_ble_eq_true rfl) (Nat.le_of_ble_eq_true rfl) ?_
                refine lv_pop hx hb dX11_moves_108 rfl ?_
                refine lv_iconst (v := 1) hx hb dX11_moves_109 kic_1 ?_
                exact W.zret (v := 1) hx hb hr rfl (fun t ht hW => ⟨⟨1, ((adP ad 15 (cn 15) q95 5 u32), (va_up (va_up cn 15 ((cn 15) + 1)) 25 10), (va_up In 15 ((In 15) + 1)), (va_up (va_up (va_up Fn 180 (upd (Fn 180) (cn 15) v0)) 181 (upd (Fn 181) (cn 15) v1)) 182 (upd (Fn 182) (cn 15) v2))), rfl, (Or.inr ⟨rfl, q95, u32, 10, ((In 15) + 1), by omega, ⟨by omega, by omega⟩, rfl, rfl, rfl, rfl⟩), by rw [ht]; exact hP, hD⟩, hS.F ht⟩) hS.2.2 dX11_moves_110
              ·
                have hi9 : (wX cI (D.1 99) zz g ad cn In Fn)[29]? = _ := xl_5 hz0
                have hj9 : (wX cI (D.1 99) zz g ad cn In Fn)[_]? = _ := xf_18 (k := 0) (show 0 < min 1 (cn 15) by omega)
                obtain ⟨ws9, hp1, hp2⟩ := pickG (W := ((wX cI (D.1 99) zz g ad cn In Fn) ++ ([(q95, .inr (4, [.int v0, .int v1, .int v2]))] : va_W))) (exl hi9) (exl hj9) (exr (m := 0) rfl) (xij (by decide)) (ne_ex hi9) (ne_ex hj9)
                have hP9 := va_P_perm hp1 hP
                have hD9 := va_D_perm hp1 hD
                have hFc := free_all hD9 hS hA
                refine va_calli (runV_xa (As := [.ref q95]) (rest := []) S (q_l_addGM l D cI cB cZ zz qq vv bt (cn 25) (g 15) (ad 2 5) (cn 15) q95 (In 15) (ad 15) v0 v1 v2 ws9 H.size (by omega) (by omega) hz0 (by omega) (fun i hi => ⟨_, g_mem (hp1.mem_iff.mp (List.mem_of_getElem? (exl (xf_5 (k := i) hi)))) (by decide)⟩)) kV_RX11_110 hK hXS hS hFc hP9 hD9 0 rfl rfl rfl ⟨Nat.le_of_ble_eq_true rfl, Nat.le_of_ble_eq_true rfl⟩ ⟨Nat.le_of_ble_eq_true rfl, Nat.le_of_ble_eq_true rfl⟩ rfl hl.1 rfl (Nat.le_of_ble_eq_true rfl) dX11_moves_105) hS (fun q _ h => hFc q h) hFc (fun r32 u32 t H1 locs ht hvm h32 hB1 hz1 hk1 hS => ?_)
                obtain ⟨hP1, hD1⟩ := hB1
                rw [ht] at hP1
                obtain ⟨hr32, h32⟩ := h32
                obtain rfl : r32 = 1 := hr32
                obtain ⟨ua32, uc32⟩ := u32
                have hu32 : cn 15 < uc32 ∧ uc32 ≤ 100 := h32
                obtain ⟨hP, hD⟩ := addG_join hp2 hi9 hj9 hP1 hD1 hFc (xadd_5 (z := ua32) (c := uc32) (y := (In 15) + 1) (q := q95) (x0 := v0) (x1 := v1) (x2 := v2) hz0)
                have hP : va_P D vwCl (wX cI (D.1 99) zz g (adP ad 15 (cn 15) q95 5 ua32) (va_up (va_up cn 15 ((cn 15) + 1)) 25 uc32) (va_up In 15 ((In 15) + 1)) (va_up (va_up (va_up Fn 180 (upd (Fn 180) (cn 15) v0)) 181 (upd (Fn 181) (cn 15) v1)) 182 (upd (Fn 182) (cn 15) v2))) H1 := hP
                have hD : va_D A (wX cI (D.1 99) zz g (adP ad 15 (cn 15) q95 5 ua32) (va_up (va_up cn 15 ((cn 15) + 1)) 25 uc32) (va_up In 15 ((In 15) + 1)) (va_up (va_up (va_up Fn 180 (upd (Fn 180) (cn 15) v0)) 181 (upd (Fn 181) (cn 15) v1)) 182 (upd (Fn 182) (cn 15) v2))) := hD
                generalize H1 = H at hP hS ⊢
                refine lv_pop hx hb dX11_moves_108 rfl ?_
                refine lv_iconst (v := 1) hx hb dX11_moves_109 kic_1 ?_
                exact W.zret (v := 1) hx hb hr rfl (fun t ht hW => ⟨⟨1, ((adP ad 15 (cn 15) q95 5 ua32), (va_up (va_up cn 15 ((cn 15) + 1)) 25 uc32), (va_up In 15 ((In 15) + 1)), (va_up (va_up (va_up Fn 180 (upd (Fn 180) (cn 15) v0)) 181 (upd (Fn 181) (cn 15) v1)) 182 (upd (Fn 182) (cn 15) v2))), rfl, (Or.inr ⟨rfl, q95, ua32, uc32, ((In 15) + 1), by omega, ⟨by omega, by omega⟩, rfl, rfl, rfl, rfl⟩), by rw [ht]; exact hP, hD⟩, hS.F ht⟩) hS.2.2 dX11_moves_110
          ·
            have tc_24 : (60 : Int) ≤ (nI (cn 15)).toInt := Int32.le_iff_toInt_le.mp (Int32.not_lt.mp c_24)
            refine lv_iconst (v := 0) hx hb dX11_moves_63 kic_0 ?_
            refine W.widen (k := 2) (n := 103) (Nat.le_of_ble_eq_true rfl) (Nat.le_of_ble_eq_true rfl) ?_
            exact W.zret (v := 0) hx hb hr rfl (fun t ht hW => ⟨⟨0, (ad, cn, In, Fn), rfl, (Or.inl ⟨rfl, rfl, rfl, rfl, rfl⟩), by rw [ht]; exact hP, hD⟩, hS.F ht⟩) hS.2.2 dX11_moves_64
        ·
          have h_21 : ¬ (0 ≤ v2.toInt ∧ v2.toInt ≤ (nI (cn 0)).toInt) := h_21
          refine lv_if_eq (tgt := 63) hx hb dX11_moves_48 rfl (fun _ => ?_) (fun h => absurd h cq_eq_0_0)
          refine lv_iconst (v := 0) hx hb dX11_moves_63 kic_0 ?_
          refine W.widen (k := 2) (n := 103) (Nat.le_of_ble_eq_true rfl) (Nat.le_of_ble_eq_true rfl) ?_
          exact W.zret (v := 0) hx hb hr rfl (fun t ht hW => ⟨⟨0, (ad, cn, In, Fn), rfl, (Or.inl ⟨rfl, rfl, rfl, rfl, rfl⟩), by rw [ht]; exact hP, hD⟩, hS.F ht⟩) hS.2.2 dX11_moves_64
      ·
        refine lv_ifnullN (tgt := 31) hx hb (oc_198 24 shX11_moves_24 sgw_0_7) rfl ?_
        refine lv_iconst (v := 0) hx hb (oc_3 31 (aq_7 shX11_moves_24)) kic_0 ?_
        refine lv_istore (lv' := [(4, .int 0), (0, .ref (g 0)), (1, .int v0), (2, .int v1), (3, .int v2)]) hx hb dX11_moves_32 hl (ltb rfl) rfl (fun ls hl => ?_)
        refine lv_iload hx hb dX11_moves_34 (lvA0 hl) ?_
        refine lv_if_eq (tgt := 63) hx hb dX11_moves_36 rfl (fun _ => ?_) (fun h => absurd h cq_eq_0_0)
        refine lv_iconst (v := 0) hx hb dX11_moves_63 kic_0 ?_
        refine W.widen (k := 2) (n := 103) (Nat.le_of_ble_eq_true rfl) (Nat.le_of_ble_eq_true rfl) ?_
        exact W.zret (v := 0) hx hb hr rfl (fun t ht hW => ⟨⟨0, (ad, cn, In, Fn), rfl, (Or.inl ⟨rfl, rfl, rfl, rfl, rfl⟩), by rw [ht]; exact hP, hD⟩, hS.F ht⟩) hS.2.2 dX11_moves_64
  ·
    have h_2 : ¬ (0 ≤ v0.toInt ∧ v0.toInt ≤ ((nI (cn 2)) - 1).toInt) := h_2
    refine lv_if_eq (tgt := 31) hx hb (oc_153 11 (aq_11 shX11_moves_0) sgw_0_20) rfl (fun _ => ?_) (fun h => absurd h cq_eq_0_0)
    refine lv_iconst (v := 0) hx hb (oc_3 31 (aq_7 shX11_moves_24)) kic_0 ?_
    refine lv_istore (lv' := [(4, .int 0), (0, .ref (g 0)), (1, .int v0), (2, .int v1), (3, .int v2)]) hx hb dX11_moves_32 hl (ltb rfl) rfl (fun ls hl => ?_)
    refine lv_iload hx hb dX11_moves_34 (lvA0 hl) ?_
    refine lv_if_eq (tgt := 63) hx hb dX11_moves_36 rfl (fun _ => ?_) (fun h => absurd h cq_eq_0_0)
    refine lv_iconst (v := 0) hx hb dX11_moves_63 kic_0 ?_
    refine W.widen (k := 2) (n := 103) (Nat.le_of_ble_eq_true rfl) (Nat.le_of_ble_eq_true rfl) ?_
    exact W.zret (v := 0) hx hb hr rfl (fun t ht hW => ⟨⟨0, (ad, cn, In, Fn), rfl, (Or.inl ⟨rfl, rfl, rfl, rfl, rfl⟩), by rw [ht]; exact hP, hD⟩, hS.F ht⟩) hS.2.2 dX11_moves_64
set_option maxRecDepth 100000 in
set_option maxHeartbeats 4000000 in
theorem q_Xproof (l : Launch) (D : va_G) (cI cB cZ : ClassId) (zz qq vv : Nat) (bt : Nat → Int32) (g : Nat → Nat) (ad : Nat → Nat → Nat) (cn : Nat → Nat) (In : Nat → Int32) (Fn : Nat → Nat → Int32) (v0 v1 v2 v3 : Int32) (sz : Nat) (hB : CBX cn) : Met l yX11_proof (CWS yX11_proof cX11_proof 6 (some .int)) (RM 8 2 105) (PBx [.ref (g 0), .int v0, .int v1, .int v2, .int v3] D cI cB cZ zz qq vv bt (wX cI (D.1 99) zz g ad cn In Fn) sz) (va_Qi (fun (r : Int32) (u : (Nat → Nat → Nat) × (Nat → Nat) × (Nat → Int32) × (Nat → Nat → Int32)) => (fun r a2 c2 I2 F2 => (r = (-1) ∧ ad = a2 ∧ cn = c2 ∧ In = I2 ∧ Fn = F2) ∨ (r = nI (cn 13) ∧ ∃ (q z c : Nat) (y : Int32) (m : Nat), (v0.toInt = (m : Int) ∧ m < cn 12 ∧ 0 ≤ v1.toInt ∧ v1.toInt < v2.toInt ∧ v2.toInt ≤ (Fn 146 m).toInt ∧ 0 ≤ v3.toInt ∧ v3.toInt ≤ 9 ∧ cn 13 < 40) ∧ (cn 13 < c ∧ c ≤ 100) ∧ (adP ad 13 (cn 13) q 3 z) = a2 ∧ (va_up (va_up cn 13 ((cn 13) + 1)) 23 c) = c2 ∧ (va_up In 13 y) = I2 ∧ (va_up (va_up (va_up (va_up (va_up Fn 160 (upd (Fn 160) (cn 13) v0)) 161 (upd (Fn 161) (cn 13) v1)) 162 (upd (Fn 162) (cn 13) v2)) 163 (upd (Fn 163) (cn 13) v3)) 164 (upd (Fn 164) (cn 13) (nI (cn 0)))) = F2)) r u.1 u.2.1 u.2.2.1 u.2.2.2) (fun (u : (Nat → Nat → Nat) × (Nat → Nat) × (Nat → Int32) × (Nat → Nat → Int32)) (t : State) => va_P D vwCl (wX cI (D.1 99) zz g u.1 u.2.1 u.2.2.1 u.2.2.2) t.heap ∧ va_D (va_A (wX cI (D.1 99) zz g ad cn In Fn) sz) (wX cI (D.1 99) zz g u.1 u.2.1 u.2.2.1 u.2.2.2)) (va_A (wX cI (D.1 99) zz g ad cn In Fn) sz)) 2 105 (va_A (wX cI (D.1 99) zz g ad cn In Fn) sz) := by
  refine en_x (fun A => (va_Qi (fun (r : Int32) (u : (Nat → Nat → Nat) × (Nat → Nat) × (Nat → Int32) × (Nat → Nat → Int32)) => (fun (r : Int32) (a2 : Nat → Nat → Nat) (c2 : Nat → Nat) (I2 : Nat → Int32) (F2 : Nat → Nat → Int32) => (r = (-1) ∧ ad = a2 ∧ cn = c2 ∧ In = I2 ∧ Fn = F2) ∨ (r = nI (cn 13) ∧ ∃ (q z c : Nat) (y : Int32) (m : Nat), (v0.toInt = (m : Int) ∧ m < cn 12 ∧ 0 ≤ v1.toInt ∧ v1.toInt < v2.toInt ∧ v2.toInt ≤ (Fn 146 m).toInt ∧ 0 ≤ v3.toInt ∧ v3.toInt ≤ 9 ∧ cn 13 < 40) ∧ (cn 13 < c ∧ c ≤ 100) ∧ (adP ad 13 (cn 13) q 3 z) = a2 ∧ (va_up (va_up cn 13 ((cn 13) + 1)) 23 c) = c2 ∧ (va_up In 13 y) = I2 ∧ (va_up (va_up (va_up (va_up (va_up Fn 160 (upd (Fn 160) (cn 13) v0)) 161 (upd (Fn 161) (cn 13) v1)) 162 (upd (Fn 162) (cn 13) v2)) 163 (upd (Fn 163) (cn 13) v3)) 164 (upd (Fn 164) (cn 13) (nI (cn 0)))) = F2)) r u.1 u.2.1 u.2.2.1 u.2.2.2) (fun (u : (Nat → Nat → Nat) × (Nat → Nat) × (Nat → Int32) × (Nat → Nat → Int32)) (t : State) => va_P D vwCl (wX cI (D.1 99) zz g u.1 u.2.1 u.2.2.1 u.2.2.2) t.heap ∧ va_D A (wX cI (D.1 99) zz g u.1 u.2.1 u.2.2.1 u.2.2.2)) A)) rfl rfl pn_RX11 (Nat.le_of_ble_eq_true rfl) (fun p e s m below meth c A hx hb hml hown S hr hlocks hnm hA hP hK hD hXS hS ls hl => ?_)
  have hl : lv_has ls 6 [(0, .ref (g 0)), (1, .int v0), (2, .int v1), (3, .int v2), (4, .int v3)] := hl
  refine lv_aload_n hx hb (oc_42 0 shX11_proof_0) rfl (lvA0 hl) ?_
  refine lv_iload_n hx hb (oc_27 1 (aq_1 shX11_proof_0)) rfl (lvA1 hl) ?_
  refine va_csq (runV_rxa (As := [.int v0]) (rest := []) S (q_XbatchAt l D cI cB cZ zz qq vv bt g ad cn In Fn v0 hB) kV_RX11_382 hK hXS hS hP 0 xo_0 rfl rfl ⟨Nat.le_of_ble_eq_true rfl, Nat.le_of_ble_eq_true rfl⟩ ⟨Nat.le_of_ble_eq_true rfl, Nat.le_of_ble_eq_true rfl⟩ rfl hl.1 rfl (Nat.le_of_ble_eq_true rfl) (oc_182 2 (aq_2 shX11_proof_0) uw_1_126)) (fun r_1 h_2 => ?_)
  rcases h_2 with ⟨mr_1, er_1, hr_1, rfl⟩ | ⟨hr_1, rfl⟩
  ·
    refine lv_astore (lv' := [(5, .ref (ad 12 mr_1)), (0, .ref (g 0)), (1, .int v0), (2, .int v1), (3, .int v2), (4, .int v3)]) hx hb (oc_58 5 (aq_5 shX11_proof_0) ub_5) hl (ltb rfl) rfl (fun ls hl => ?_)
    refine lv_aload hx hb (oc_25 7 (aq_7 shX11_proof_0) ub_5) (lvA0 hl) ?_
    refine lv_ifnull hx hb (oc_198 9 (aq_9 shX11_proof_0) sgw_0_44) ?_
    refine lv_iload_n hx hb (oc_28 12 (aq_12 shX11_proof_0)) rfl (lvA3 hl) ?_
    refine lv_if_lt (tgt := 53) hx hb (oc_155 13 (aq_13 shX11_proof_0) sgw_0_40) rfl (fun c_3 => ?_) (fun c_3 => ?_)
    ·
      have tc_3 : (v1.toInt : Int) < 0 := Int32.lt_iff_toInt_lt.mp c_3
      refine lv_iconst (v := (-1)) hx hb dX11_proof_53 kic_m1 ?_
      refine W.widen (k := 2) (n := 105) (Nat.le_of_ble_eq_true rfl) (Nat.le_of_ble_eq_true rfl) ?_
      exact W.iret (v := (-1)) hx hb hr (fun t ht hW => ⟨⟨(-1), (ad, cn, In, Fn), rfl, (Or.inl ⟨rfl, rfl, rfl, rfl, rfl⟩), by rw [ht]; exact hP, hD⟩, hS.F ht⟩) hS.2.2 dX11_proof_54
    ·
      have tc_3 : (0 : Int) ≤ v1.toInt := Int32.le_iff_toInt_le.mp (Int32.not_lt.mp c_3)
      refine lv_iload_n hx hb (oc_28 16 (aq_16 shX11_proof_0)) rfl (lvA3 hl) ?_
      refine lv_iload_n hx hb (oc_29 17 (aq_17 shX11_proof_0)) rfl (lvA4 hl) ?_
      refine lv_icmp_ge (tgt := 53) hx hb (oc_162 18 (aq_18 shX11_proof_0) sgw_0_35) rfl (fun c_4 => ?_) (fun c_4 => ?_)
      ·
        have tc_4 : (v2.toInt : Int) ≤ v1.toInt := Int32.le_iff_toInt_le.mp c_4
        refine lv_iconst (v := (-1)) hx hb dX11_proof_53 kic_m1 ?_
        refine W.widen (k := 2) (n := 105) (Nat.le_of_ble_eq_true rfl) (Nat.le_of_ble_eq_true rfl) ?_
        exact W.iret (v := (-1)) hx hb hr (fun t ht hW => ⟨⟨(-1), (ad, cn, In, Fn), rfl, (Or.inl ⟨rfl, rfl, rfl, rfl, rfl⟩), by rw [ht]; exact hP, hD⟩, hS.F ht⟩) hS.2.2 dX11_proof_54
      ·
        have tc_4 : (v1.toInt : Int) < v2.toInt := Int32.lt_iff_toInt_lt.mp (Int32.not_le.mp c_4)
        refine lv_iload_n hx hb (oc_29 21 (aq_21 shX11_proof_0)) rfl (lvA4 hl) ?_
        refine lv_aload hx hb (oc_25 22 (aq_22 shX11_proof_0) ub_5) (lvA0 hl) ?_
        refine gf_RX11_342 S hK hP _ (xf_2 (by omega)) (v := .int ((Fn 146) mr_1)) rfl (oc_180 24 shX11_proof_24 uw_1_86) ?_
        refine lv_icmp_gt (tgt := 53) hx hb (oc_163 27 (aq_3 shX11_proof_24) sgw_0_26) rfl (fun c_5 => ?_) (fun c_5 => ?_)
        ·
          have tc_5 : (((Fn 146) mr_1).toInt : Int) < v2.toInt := Int32.lt_iff_toInt_lt.mp c_5
          refine lv_iconst (v := (-1)) hx hb dX11_proof_53 kic_m1 ?_
          refine W.widen (k := 2) (n := 105) (Nat.le_of_ble_eq_true rfl) (Nat.le_of_ble_eq_true rfl) ?_
          exact W.iret (v := (-1)) hx hb hr (fun t ht hW => ⟨⟨(-1), (ad, cn, In, Fn), rfl, (Or.inl ⟨rfl, rfl, rfl, rfl, rfl⟩), by rw [ht]; exact hP, hD⟩, hS.F ht⟩) hS.2.2 dX11_proof_54
        ·
          have tc_5 : (v2.toInt : Int) ≤ ((Fn 146) mr_1).toInt := Int32.le_iff_toInt_le.mp (Int32.not_lt.mp c_5)
          refine lv_iload hx hb (oc_21 30 (aq_6 shX11_proof_24) ub_4) (lvA5 hl) ?_
          refine lv_iconst (v := 0) hx hb (oc_3 32 (aq_8 shX11_proof_24)) kic_0 ?_
          refine lv_bipush (v := 9) hx hb (oc_16 33 (aq_9 shX11_proof_24) sgb_9) kbc_9 ?_
          refine vp_callSi (runS_r (As := [.int v3, .int 0, .int 9]) (rest := []) S (q_l_within l D cI cB cZ v3 0 9) kS_RX11_80 hK hP [] rfl ⟨Nat.le_of_ble_eq_true rfl, Nat.le_of_ble_eq_true rfl⟩ ⟨Nat.le_of_ble_eq_true rfl, Nat.le_of_ble_eq_true rfl⟩ rfl hl.1 rfl (Nat.le_of_ble_eq_true rfl) (oc_184 35 (aq_11 shX11_proof_24) uw_0_80)) (fun r_6 h_7 => ?_)
          rcases h_7 with ⟨rfl, h_7⟩ | ⟨rfl, h_7⟩
          ·
            have h_7 : 0 ≤ v3.toInt ∧ v3.toInt ≤ 9 := h_7
            refine lv_if_eq (tgt := 53) hx hb (oc_153 38 (aq_14 shX11_proof_24) sgw_0_15) rfl (fun h => absurd h cq_eq_1_0) (fun _ => ?_)
            refine lv_aload_n hx hb (oc_42 41 (aq_17 shX11_proof_24)) rfl (lvA1 hl) ?_
            refine gf_RX11_71 S hK hP 0 xo_0 (v := .ref (g 13)) rfl (oc_180 42 (aq_18 shX11_proof_24) uw_0_71) ?_
            refine vp_callSi (runV_r (As := []) (rest := []) S (q_l_size l D cI cB cZ (g 13) (if (cn 13) = 0 then zz else ad 2 3) (In 13) (nI (cn 13))) kV_RX11_84 hK hP [27] (one_is xo_27) 27 xo_27 rfl rfl ⟨Nat.le_of_ble_eq_true rfl, Nat.le_of_ble_eq_true rfl⟩ ⟨Nat.le_of_ble_eq_true rfl, Nat.le_of_ble_eq_true rfl⟩ rfl hl.1 rfl (Nat.le_of_ble_eq_true rfl) (oc_182 45 (aq_21 shX11_proof_24) uw_0_84)) (fun r_8 h_9 => ?_)
            subst h_9
            refine lv_bipush (v := 40) hx hb (oc_16 48 shX11_proof_48 sgb_40) kbc_40 ?_
            have : (nI (cn 13)).toInt = (((cn 13) : Nat) : Int) := nI_toInt (by omega)
            refine lv_icmp_lt (tgt := 55) hx hb (oc_161 50 (aq_2 shX11_proof_48) sgw_0_5) rfl (fun c_10 => ?_) (fun c_10 => ?_)
            ·
              have tc_10 : ((nI (cn 13)).toInt : Int) < 40 := Int32.lt_iff_toInt_lt.mp c_10
              refine lv_aload_n hx hb (oc_42 55 (aq_7 shX11_proof_48)) rfl (lvA1 hl) ?_
              refine gf_RX11_71 S hK hP 0 xo_0 (v := .ref (g 13)) rfl (oc_180 56 (aq_8 shX11_proof_48) uw_0_71) ?_
              refine va_new (ci := 5) (fs := [.int 0, .int 0, .int 0, .int 0, .int 0]) (C := RX4) (T := TX4) (N := 5) hx hb S.2.2.2.2 hin_RX4 tyX4 tyX4_ok hown (S.2.2.2.2 _ (wk5_4 7 rfl rfl)) (S.2.2.2.2 _ (wk5_6 0 rfl rfl)) (S.2.2.2.2 _ (wk1_2 0 rfl rfl)) hK.1 hP hD hS hA rfl (by decide +kernel) (Nat.le_of_ble_eq_true rfl) (Nat.le_of_ble_eq_true rfl) (oc_187 59 (aq_11 shX11_proof_48) uw_0_97) (fun q59 H hP hD hS => ?_)
              have hP : va_P D vwCl ((wX cI (D.1 99) zz g ad cn In Fn) ++ ([(q59, .inr (5, [.int 0, .int 0, .int 0, .int 0, .int 0]))] : va_W)) H := hP
              have hD : va_D A ((wX cI (D.1 99) zz g ad cn In Fn) ++ ([(q59, .inr (5, [.int 0, .int 0, .int 0, .int 0, .int 0]))] : va_W)) := hD
              refine lv_dup hx hb (oc_89 62 (aq_14 shX11_proof_48)) rfl ?_
              refine lv_iload_n hx hb (oc_27 63 (aq_15 shX11_proof_48)) rfl (lvA2 hl) ?_
              refine lv_iload_n hx hb (oc_28 64 (aq_16 shX11_proof_48)) rfl (lvA3 hl) ?_
              refine lv_iload_n hx hb (oc_29 65 (aq_17 shX11_proof_48)) rfl (lvA4 hl) ?_
              refine lv_iload hx hb (oc_21 66 (aq_18 shX11_proof_48) ub_4) (lvA5 hl) ?_
              refine lv_aload_n hx hb (oc_42 68 (aq_20 shX11_proof_48)) rfl (lvA1 hl) ?_
              refine gf_RX11_103 S hK hP _ (exl xo_0) (v := .int (nI (cn 0))) rfl (oc_180 69 (aq_21 shX11_proof_48) uw_0_103) ?_
              have hFc := va_free (wc := [(q59, .inr (5, [.int 0, .int 0, .int 0, .int 0, .int 0]))]) hD hS hA [_] (one_im (exr (m := 0) rfl))
              refine va_callv (runI_w (As := [.int v0, .int v1, .int v2, .int v3, .int (nI (cn 0))]) (rest := [.ref q59, .ref (g 13)]) S (q_l_Proof l D cI cB cZ q59 v0 v1 v2 v3 (nI (cn 0)) H.size) kI_RX11_399 hK hP hD [_] (one_is (exr (m := 0) rfl)) (one_im (exr (m := 0) rfl)) rfl ⟨Nat.le_of_ble_eq_true rfl, Nat.le_of_ble_eq_true rfl⟩ ⟨Nat.le_of_ble_eq_true rfl, Nat.le_of_ble_eq_true rfl⟩ rfl hl.1 rfl (Nat.le_of_ble_eq_true rfl) (oc_183 72 shX11_proof_72 uw_1_143)) hS (fun q _ h => hFc q h) hFc (fun u_11 t H1 locs ht hvm h_12 hB1 hz1 hk1 hS => ?_)
              obtain ⟨hP1, hD1⟩ := hB1
              rw [ht] at hP1
              obtain ⟨hP, hD⟩ := exjoin hP hD hk1 hFc hP1 hD1
              generalize H1 = H at hP hS ⊢
              have hP : va_P D vwCl ((wX cI (D.1 99) zz g ad cn In Fn) ++ ([(q59, .inr (5, [.int v0, .int v1, .int v2, .int v3, .int (nI (cn 0))]))] : va_W)) H := hP
              have hD : va_D A ((wX cI (D.1 99) zz g ad cn In Fn) ++ ([(q59, .inr (5, [.int v0, .int v1, .int v2, .int v3, .int (nI (cn 0))]))] : va_W)) := hD
              rcases Nat.eq_zero_or_pos (cn 13) with hz0 | hz0
              ·
                have hi9 : (wX cI (D.1 99) zz g ad cn In Fn)[27]? = _ := xlz_3 hz0
                have hp2P := pick2P hP (exl hi9) (exr (m := 0) rfl)
                have hp2D := pick2D hD (exl hi9) (exr (m := 0) rfl) (ne_ex hi9)
                have hFc := free_all hp2D hS hA
                refine va_calli (runV_xa (As := [.ref q59]) (rest := []) S (q_l_addZP l D cI cB cZ zz qq vv bt (g 13) q59 (In 13) v0 v1 v2 v3 (nI (cn 0)) H.size) kV_RX11_110 hK hXS hS hFc hp2P hp2D 0 rfl rfl rfl ⟨Nat.le_of_ble_eq_true rfl, Nat.le_of_ble_eq_true rfl⟩ ⟨Nat.le_of_ble_eq_true rfl, Nat.le_of_ble_eq_true rfl⟩ rfl hl.1 rfl (Nat.le_of_ble_eq_true rfl) (oc_182 75 (aq_3 shX11_proof_72) uw_0_110)) hS (fun q _ h => hFc q h) hFc (fun r12 u12 t H1 locs ht hvm h12 hB1 hz1 hk1 hS => ?_)
                obtain ⟨hP1, hD1⟩ := hB1
                rw [ht] at hP1
                obtain rfl : r12 = 1 := h12
                obtain ⟨hP, hD⟩ := add0_join hP hD hi9 rfl hk1 hFc hP1 hD1 rfl (xu_3 (z := u12) (c := 10) (y := (In 13) + 1) (q := q59) (x0 := v0) (x1 := v1) (x2 := v2) (x3 := v3) (x4 := (nI (cn 0))) hz0)
                have hP : va_P D vwCl (wX cI (D.1 99) zz g (adP ad 13 (cn 13) q59 3 u12) (va_up (va_up cn 13 ((cn 13) + 1)) 23 10) (va_up In 13 ((In 13) + 1)) (va_up (va_up (va_up (va_up (va_up Fn 160 (upd (Fn 160) (cn 13) v0)) 161 (upd (Fn 161) (cn 13) v1)) 162 (upd (Fn 162) (cn 13) v2)) 163 (upd (Fn 163) (cn 13) v3)) 164 (upd (Fn 164) (cn 13) (nI (cn 0))))) H1 := hP
                have hD : va_D A (wX cI (D.1 99) zz g (adP ad 13 (cn 13) q59 3 u12) (va_up (va_up cn 13 ((cn 13) + 1)) 23 10) (va_up In 13 ((In 13) + 1)) (va_up (va_up (va_up (va_up (va_up Fn 160 (upd (Fn 160) (cn 13) v0)) 161 (upd (Fn 161) (cn 13) v1)) 162 (upd (Fn 162) (cn 13) v2)) 163 (upd (Fn 163) (cn 13) v3)) 164 (upd (Fn 164) (cn 13) (nI (cn 0))))) := hD
                generalize H1 = H at hP hS ⊢
                refine W.widen (k := 2) (n := 105) (Nat.le_of_ble_eq_true rfl) (Nat.le_of_ble_eq_true rfl) ?_
                refine lv_pop hx hb (oc_87 78 (aq_6 shX11_proof_72)) rfl ?_
                refine lv_aload_n hx hb (oc_42 79 (aq_7 shX11_proof_72)) rfl (lvA1 hl) ?_
                refine gf_RX11_71 S hK hP 0 xo_0 (v := .ref (g 13)) rfl (oc_180 80 (aq_8 shX11_proof_72) uw_0_71) ?_
                refine vp_callSi (runV_r (As := []) (rest := []) S (q_l_size l D cI cB cZ (g 13) (if ((cn 13) + 1) = 0 then zz else (adP ad 13 (cn 13) q59 3 u12) 2 3) ((In 13) + 1) (nI ((cn 13) + 1))) kV_RX11_84 hK hP [27] (one_is xo_27) 27 xo_27 rfl rfl ⟨Nat.le_of_ble_eq_true rfl, Nat.le_of_ble_eq_true rfl⟩ ⟨Nat.le_of_ble_eq_true rfl, Nat.le_of_ble_eq_true rfl⟩ rfl hl.1 rfl (Nat.le_of_ble_eq_true rfl) (oc_182 83 (aq_11 shX11_proof_72) uw_0_84)) (fun r_14 h_15 => ?_)
                subst h_15
                refine lv_iconst (v := 1) hx hb (oc_4 86 (aq_14 shX11_proof_72)) kic_1 ?_
                refine lv_isub hx hb (oc_100 87 (aq_15 shX11_proof_72)) ?_
                refine lv_topi (fun y_16 ey_16 => ?_)
                obtain rfl : y_16 = (nI (cn 13)) := ey_16.trans (nI_sub (b := 1) (by omega))
                exact W.iret (v := (nI (cn 13))) hx hb hr (fun t ht hW => ⟨⟨(nI (cn 13)), ((adP ad 13 (cn 13) q59 3 u12), (va_up (va_up cn 13 ((cn 13) + 1)) 23 10), (va_up In 13 ((In 13) + 1)), (va_up (va_up (va_up (va_up (va_up Fn 160 (upd (Fn 160) (cn 13) v0)) 161 (upd (Fn 161) (cn 13) v1)) 162 (upd (Fn 162) (cn 13) v2)) 163 (upd (Fn 163) (cn 13) v3)) 164 (upd (Fn 164) (cn 13) (nI (cn 0))))), rfl, (Or.inr ⟨rfl, q59, u12, 10, ((In 13) + 1), mr_1, by omega, ⟨by omega, by omega⟩, rfl, rfl, rfl, rfl⟩), by rw [ht]; exact hP, hD⟩, hS.F ht⟩) hS.2.2 (oc_172 88 (aq_16 shX11_proof_72))
              ·
                have hi9 : (wX cI (D.1 99) zz g ad cn In Fn)[27]? = _ := xl_3 hz0
                have hj9 : (wX cI (D.1 99) zz g ad cn In Fn)[_]? = _ := xf_16 (k := 0) (show 0 < min 1 (cn 13) by omega)
                obtain ⟨ws9, hp1, hp2⟩ := pickG (W := ((wX cI (D.1 99) zz g ad cn In Fn) ++ ([(q59, .inr (5, [.int v0, .int v1, .int v2, .int v3, .int (nI (cn 0))]))] : va_W))) (exl hi9) (exl hj9) (exr (m := 0) rfl) (xij (by decide)) (ne_ex hi9) (ne_ex hj9)
                have hP9 := va_P_perm hp1 hP
                have hD9 := va_D_perm hp1 hD
                have hFc := free_all hD9 hS hA
                refine va_calli (runV_xa (As := [.ref q59]) (rest := []) S (q_l_addGP l D cI cB cZ zz qq vv bt (cn 23) (g 13) (ad 2 3) (cn 13) q59 (In 13) (ad 13) v0 v1 v2 v3 (nI (cn 0)) ws9 H.size (by omega) (by omega) hz0 (by omega) (fun i hi => ⟨_, g_mem (hp1.mem_iff.mp (List.mem_of_getElem? (exl (xf_3 (k := i) hi)))) (by decide)⟩)) kV_RX11_110 hK hXS hS hFc hP9 hD9 0 rfl rfl rfl ⟨Nat.le_of_ble_eq_true rfl, Nat.le_of_ble_eq_true rfl⟩ ⟨Nat.le_of_ble_eq_true rfl, Nat.le_of_ble_eq_true rfl⟩ rfl hl.1 rfl (Nat.le_of_ble_eq_true rfl) (oc_182 75 (aq_3 shX11_proof_72) uw_0_110)) hS (fun q _ h => hFc q h) hFc (fun r12 u12 t H1 locs ht hvm h12 hB1 hz1 hk1 hS => ?_)
                obtain ⟨hP1, hD1⟩ := hB1
                rw [ht] at hP1
                obtain ⟨hr12, h12⟩ := h12
                obtain rfl : r12 = 1 := hr12
                obtain ⟨ua12, uc12⟩ := u12
                have hu12 : cn 13 < uc12 ∧ uc12 ≤ 100 := h12
                obtain ⟨hP, hD⟩ := addG_join hp2 hi9 hj9 hP1 hD1 hFc (xadd_3 (z := ua12) (c := uc12) (y := (In 13) + 1) (q := q59) (x0 := v0) (x1 := v1) (x2 := v2) (x3 := v3) (x4 := (nI (cn 0))) hz0)
                have hP : va_P D vwCl (wX cI (D.1 99) zz g (adP ad 13 (cn 13) q59 3 ua12) (va_up (va_up cn 13 ((cn 13) + 1)) 23 uc12) (va_up In 13 ((In 13) + 1)) (va_up (va_up (va_up (va_up (va_up Fn 160 (upd (Fn 160) (cn 13) v0)) 161 (upd (Fn 161) (cn 13) v1)) 162 (upd (Fn 162) (cn 13) v2)) 163 (upd (Fn 163) (cn 13) v3)) 164 (upd (Fn 164) (cn 13) (nI (cn 0))))) H1 := hP
                have hD : va_D A (wX cI (D.1 99) zz g (adP ad 13 (cn 13) q59 3 ua12) (va_up (va_up cn 13 ((cn 13) + 1)) 23 uc12) (va_up In 13 ((In 13) + 1)) (va_up (va_up (va_up (va_up (va_up Fn 160 (upd (Fn 160) (cn 13) v0)) 161 (upd (Fn 161) (cn 13) v1)) 162 (upd (Fn 162) (cn 13) v2)) 163 (upd (Fn 163) (cn 13) v3)) 164 (upd (Fn 164) (cn 13) (nI (cn 0))))) := hD
                generalize H1 = H at hP hS ⊢
                refine lv_pop hx hb (oc_87 78 (aq_6 shX11_proof_72)) rfl ?_
                refine lv_aload_n hx hb (oc_42 79 (aq_7 shX11_proof_72)) rfl (lvA1 hl) ?_
                refine gf_RX11_71 S hK hP 0 xo_0 (v := .ref (g 13)) rfl (oc_180 80 (aq_8 shX11_proof_72) uw_0_71) ?_
                refine vp_callSi (runV_r (As := []) (rest := []) S (q_l_size l D cI cB cZ (g 13) (if ((cn 13) + 1) = 0 then zz else (adP ad 13 (cn 13) q59 3 ua12) 2 3) ((In 13) + 1) (nI ((cn 13) + 1))) kV_RX11_84 hK hP [27] (one_is xo_27) 27 xo_27 rfl rfl ⟨Nat.le_of_ble_eq_true rfl, Nat.le_of_ble_eq_true rfl⟩ ⟨Nat.le_of_ble_eq_true rfl, Nat.le_of_ble_eq_true rfl⟩ rfl hl.1 rfl (Nat.le_of_ble_eq_true rfl) (oc_182 83 (aq_11 shX11_proof_72) uw_0_84)) (fun r_17 h_18 => ?_)
                subst h_18
                refine lv_iconst (v := 1) hx hb (oc_4 86 (aq_14 shX11_proof_72)) kic_1 ?_
                refine lv_isub hx hb (oc_100 87 (aq_15 shX11_proof_72)) ?_
                refine lv_topi (fun y_19 ey_19 => ?_)
                obtain rfl : y_19 = (nI (cn 13)) := ey_19.trans (nI_sub (b := 1) (by omega))
                exact W.iret (v := (nI (cn 13))) hx hb hr (fun t ht hW => ⟨⟨(nI (cn 13)), ((adP ad 13 (cn 13) q59 3 ua12), (va_up (va_up cn 13 ((cn 13) + 1)) 23 uc12), (va_up In 13 ((In 13) + 1)), (va_up (va_up (va_up (va_up (va_up Fn 160 (upd (Fn 160) (cn 13) v0)) 161 (upd (Fn 161) (cn 13) v1)) 162 (upd (Fn 162) (cn 13) v2)) 163 (upd (Fn 163) (cn 13) v3)) 164 (upd (Fn 164) (cn 13) (nI (cn 0))))), rfl, (Or.inr ⟨rfl, q59, ua12, uc12, ((In 13) + 1), mr_1, by omega, ⟨by omega, by omega⟩, rfl, rfl, rfl, rfl⟩), by rw [ht]; exact hP, hD⟩, hS.F ht⟩) hS.2.2 (oc_172 88 (aq_16 shX11_proof_72))
            ·
              have tc_10 : (40 : Int) ≤ (nI (cn 13)).toInt := Int32.le_iff_toInt_le.mp (Int32.not_lt.mp c_10)
              refine lv_iconst (v := (-1)) hx hb dX11_proof_53 kic_m1 ?_
              refine W.widen (k := 2) (n := 105) (Nat.le_of_ble_eq_true rfl) (Nat.le_of_ble_eq_true rfl) ?_
              exact W.iret (v := (-1)) hx hb hr (fun t ht hW => ⟨⟨(-1), (ad, cn, In, Fn), rfl, (Or.inl ⟨rfl, rfl, rfl, rfl, rfl⟩), by rw [ht]; exact hP, hD⟩, hS.F ht⟩) hS.2.2 dX11_proof_54
          ·
            have h_7 : ¬ (0 ≤ v3.toInt ∧ v3.toInt ≤ 9) := h_7
            refine lv_if_eq (tgt := 53) hx hb (oc_153 38 (aq_14 shX11_proof_24) sgw_0_15) rfl (fun _ => ?_) (fun h => absurd h cq_eq_0_0)
            refine lv_iconst (v := (-1)) hx hb dX11_proof_53 kic_m1 ?_
            refine W.widen (k := 2) (n := 105) (Nat.le_of_ble_eq_true rfl) (Nat.le_of_ble_eq_true rfl) ?_
            exact W.iret (v := (-1)) hx hb hr (fun t ht hW => ⟨⟨(-1), (ad, cn, In, Fn), rfl, (Or.inl ⟨rfl, rfl, rfl, rfl, rfl⟩), by rw [ht]; exact hP, hD⟩, hS.F ht⟩) hS.2.2 dX11_proof_54
  ·
    refine lv_astoreN (lv' := [(5, .null), (0, .ref (g 0)), (1, .int v0), (2, .int v1), (3, .int v2), (4, .int v3)]) hx hb (oc_58 5 (aq_5 shX11_proof_0) ub_5) hl (ltb rfl) rfl (fun ls hl => ?_)
    refine lv_aloadN hx hb (oc_25 7 (aq_7 shX11_proof_0) ub_5) (lvA0 hl) ?_
    refine lv_ifnullN (tgt := 53) hx hb (oc_198 9 (aq_9 shX11_proof_0) sgw_0_44) rfl ?_
    refine lv_iconst (v := (-1)) hx hb dX11_proof_53 kic_m1 ?_
    refine W.widen (k := 2) (n := 105) (Nat.le_of_ble_eq_true rfl) (Nat.le_of_ble_eq_true rfl) ?_
    exact W.iret (v := (-1)) hx hb hr (fun t ht hW => ⟨⟨(-1), (ad, cn, In, Fn), rfl, (Or.inl ⟨rfl, rfl, rfl, rfl, rfl⟩), by rw [ht]; exact hP, hD⟩, hS.F ht⟩) hS.2.2 dX11_proof_54
set_option maxRecDepth 100000 in
set_option maxHeartbeats 4000000 in
theorem q_Xfetch (l : Launch) (D : va_G) (cI cB cZ : ClassId) (zz qq vv : Nat) (bt : Nat → Int32) (g : Nat → Nat) (ad : Nat → Nat → Nat) (cn : Nat → Nat) (In : Nat → Int32) (Fn : Nat → Nat → Int32) (v0 v1 v2 v3 v4 v5 : Int32) (sz : Nat) (hB : CBX cn) : Met l yX11_fetch (CWS yX11_fetch cX11_fetch 9 (some .int)) (RM 8 2 110) (PBx [.ref (g 0), .int v0, .int v1, .int v2, .int v3, .int v4, .int v5] D cI cB cZ zz qq vv bt (wX cI (D.1 99) zz g ad cn In Fn) sz) (va_Qi (fun (r : Int32) (u : (Nat → Nat → Nat) × (Nat → Nat) × (Nat → Int32) × (Nat → Nat → Int32)) => (fun r a2 c2 I2 F2 => (r = (-1) ∧ ad = a2 ∧ cn = c2 ∧ In = I2 ∧ Fn = F2) ∨ (r = nI (cn 11) ∧ ∃ (q z c : Nat) (y : Int32) (m : Nat), (v0.toInt = (m : Int) ∧ m < cn 10 ∧ (Fn 104 m).toInt ≤ v1.toInt ∧ v1.toInt ≤ (cn 0 : Int) ∧ v1.toInt ≤ v5.toInt ∧ v5.toInt ≤ 399 ∧ 0 ≤ v2.toInt ∧ v2.toInt ≤ 400 ∧ 0 ≤ v3.toInt ∧ v3.toInt ≤ 1000 ∧ 0 ≤ v4.toInt ∧ v4.toInt ≤ 1000 ∧ cn 11 < 60) ∧ (cn 11 < c ∧ c ≤ 100) ∧ (adP ad 11 (cn 11) q 1 z) = a2 ∧ (va_up (va_up cn 11 ((cn 11) + 1)) 21 c) = c2 ∧ (va_up In 11 y) = I2 ∧ (va_up (va_up (va_up (va_up (va_up (va_up (va_up (va_up (va_up (va_up (va_up (va_up (va_up Fn 104 (upd (Fn 104) m v1)) 106 (upd (Fn 106) m (Fn 106 m + v2))) 29 (putM (Fn 29) 400 v1 (atM (Fn 29) 400 v1 + v2))) 120 (upd ((va_up (va_up (va_up Fn 104 (upd (Fn 104) m v1)) 106 (upd (Fn 106) m (Fn 106 m + v2))) 29 (putM (Fn 29) 400 v1 (atM (Fn 29) 400 v1 + v2))) 120) (cn 11) v0)) 121 (upd ((va_up (va_up (va_up Fn 104 (upd (Fn 104) m v1)) 106 (upd (Fn 106) m (Fn 106 m + v2))) 29 (putM (Fn 29) 400 v1 (atM (Fn 29) 400 v1 + v2))) 121) (cn 11) v1)) 122 (upd ((va_up (va_up (va_up Fn 104 (upd (Fn 104) m v1)) 106 (upd (Fn 106) m (Fn 106 m + v2))) 29 (putM (Fn 29) 400 v1 (atM (Fn 29) 400 v1 + v2))) 122) (cn 11) v2)) 123 (upd ((va_up (va_up (va_up Fn 104 (upd (Fn 104) m v1)) 106 (upd (Fn 106) m (Fn 106 m + v2))) 29 (putM (Fn 29) 400 v1 (atM (Fn 29) 400 v1 + v2))) 123) (cn 11) v3)) 124 (upd ((va_up (va_up (va_up Fn 104 (upd (Fn 104) m v1)) 106 (upd (Fn 106) m (Fn 106 m + v2))) 29 (putM (Fn 29) 400 v1 (atM (Fn 29) 400 v1 + v2))) 124) (cn 11) v4)) 125 (upd ((va_up (va_up (va_up Fn 104 (upd (Fn 104) m v1)) 106 (upd (Fn 106) m (Fn 106 m + v2))) 29 (putM (Fn 29) 400 v1 (atM (Fn 29) 400 v1 + v2))) 125) (cn 11) v5)) 126 (upd ((va_up (va_up (va_up Fn 104 (upd (Fn 104) m v1)) 106 (upd (Fn 106) m (Fn 106 m + v2))) 29 (putM (Fn 29) 400 v1 (atM (Fn 29) 400 v1 + v2))) 126) (cn 11) (Fn 104 m))) 127 (upd ((va_up (va_up (va_up Fn 104 (upd (Fn 104) m v1)) 106 (upd (Fn 106) m (Fn 106 m + v2))) 29 (putM (Fn 29) 400 v1 (atM (Fn 29) 400 v1 + v2))) 127) (cn 11) (Fn 106 m))) 128 (upd ((va_up (va_up (va_up Fn 104 (upd (Fn 104) m v1)) 106 (upd (Fn 106) m (Fn 106 m + v2))) 29 (putM (Fn 29) 400 v1 (atM (Fn 29) 400 v1 + v2))) 128) (cn 11) (if 0 < ((if (Fn 102 m * (v1 - Fn 104 m)) < Fn 103 m then Fn 102 m * (v1 - Fn 104 m) else Fn 103 m) - v2) - (if (Fn 102 m * (v1 - Fn 104 m)) < Fn 103 m then Fn 102 m * (v1 - Fn 104 m) else Fn 103 m) / 10 then ((if (Fn 102 m * (v1 - Fn 104 m)) < Fn 103 m then Fn 102 m * (v1 - Fn 104 m) else Fn 103 m) - v2) - (if (Fn 102 m * (v1 - Fn 104 m)) < Fn 103 m then Fn 102 m * (v1 - Fn 104 m) else Fn 103 m) / 10 else 0))) 129 (upd ((va_up (va_up (va_up Fn 104 (upd (Fn 104) m v1)) 106 (upd (Fn 106) m (Fn 106 m + v2))) 29 (putM (Fn 29) 400 v1 (atM (Fn 29) 400 v1 + v2))) 129) (cn 11) 0)) = F2)) r u.1 u.2.1 u.2.2.1 u.2.2.2) (fun (u : (Nat → Nat → Nat) × (Nat → Nat) × (Nat → Int32) × (Nat → Nat → Int32)) (t : State) => va_P D vwCl (wX cI (D.1 99) zz g u.1 u.2.1 u.2.2.1 u.2.2.2) t.heap ∧ va_D (va_A (wX cI (D.1 99) zz g ad cn In Fn) sz) (wX cI (D.1 99) zz g u.1 u.2.1 u.2.2.1 u.2.2.2)) (va_A (wX cI (D.1 99) zz g ad cn In Fn) sz)) 2 110 (va_A (wX cI (D.1 99) zz g ad cn In Fn) sz) := by
  refine en_x (fun A => (va_Qi (fun (r : Int32) (u : (Nat → Nat → Nat) × (Nat → Nat) × (Nat → Int32) × (Nat → Nat → Int32)) => (fun (r : Int32) (a2 : Nat → Nat → Nat) (c2 : Nat → Nat) (I2 : Nat → Int32) (F2 : Nat → Nat → Int32) => (r = (-1) ∧ ad = a2 ∧ cn = c2 ∧ In = I2 ∧ Fn = F2) ∨ (r = nI (cn 11) ∧ ∃ (q z c : Nat) (y : Int32) (m : Nat), (v0.toInt = (m : Int) ∧ m < cn 10 ∧ (Fn 104 m).toInt ≤ v1.toInt ∧ v1.toInt ≤ (cn 0 : Int) ∧ v1.toInt ≤ v5.toInt ∧ v5.toInt ≤ 399 ∧ 0 ≤ v2.toInt ∧ v2.toInt ≤ 400 ∧ 0 ≤ v3.toInt ∧ v3.toInt ≤ 1000 ∧ 0 ≤ v4.toInt ∧ v4.toInt ≤ 1000 ∧ cn 11 < 60) ∧ (cn 11 < c ∧ c ≤ 100) ∧ (adP ad 11 (cn 11) q 1 z) = a2 ∧ (va_up (va_up cn 11 ((cn 11) + 1)) 21 c) = c2 ∧ (va_up In 11 y) = I2 ∧ (va_up (va_up (va_up (va_up (va_up (va_up (va_up (va_up (va_up (va_up (va_up (va_up (va_up Fn 104 (upd (Fn 104) m v1)) 106 (upd (Fn 106) m (Fn 106 m + v2))) 29 (putM (Fn 29) 400 v1 (atM (Fn 29) 400 v1 + v2))) 120 (upd ((va_up (va_up (va_up Fn 104 (upd (Fn 104) m v1)) 106 (upd (Fn 106) m (Fn 106 m + v2))) 29 (putM (Fn 29) 400 v1 (atM (Fn 29) 400 v1 + v2))) 120) (cn 11) v0)) 121 (upd ((va_up (va_up (va_up Fn 104 (upd (Fn 104) m v1)) 106 (upd (Fn 106) m (Fn 106 m + v2))) 29 (putM (Fn 29) 400 v1 (atM (Fn 29) 400 v1 + v2))) 121) (cn 11) v1)) 122 (upd ((va_up (va_up (va_up Fn 104 (upd (Fn 104) m v1)) 106 (upd (Fn 106) m (Fn 106 m + v2))) 29 (putM (Fn 29) 400 v1 (atM (Fn 29) 400 v1 + v2))) 122) (cn 11) v2)) 123 (upd ((va_up (va_up (va_up Fn 104 (upd (Fn 104) m v1)) 106 (upd (Fn 106) m (Fn 106 m + v2))) 29 (putM (Fn 29) 400 v1 (atM (Fn 29) 400 v1 + v2))) 123) (cn 11) v3)) 124 (upd ((va_up (va_up (va_up Fn 104 (upd (Fn 104) m v1)) 106 (upd (Fn 106) m (Fn 106 m + v2))) 29 (putM (Fn 29) 400 v1 (atM (Fn 29) 400 v1 + v2))) 124) (cn 11) v4)) 125 (upd ((va_up (va_up (va_up Fn 104 (upd (Fn 104) m v1)) 106 (upd (Fn 106) m (Fn 106 m + v2))) 29 (putM (Fn 29) 400 v1 (atM (Fn 29) 400 v1 + v2))) 125) (cn 11) v5)) 126 (upd ((va_up (va_up (va_up Fn 104 (upd (Fn 104) m v1)) 106 (upd (Fn 106) m (Fn 106 m + v2))) 29 (putM (Fn 29) 400 v1 (atM (Fn 29) 400 v1 + v2))) 126) (cn 11) (Fn 104 m))) 127 (upd ((va_up (va_up (va_up Fn 104 (upd (Fn 104) m v1)) 106 (upd (Fn 106) m (Fn 106 m + v2))) 29 (putM (Fn 29) 400 v1 (atM (Fn 29) 400 v1 + v2))) 127) (cn 11) (Fn 106 m))) 128 (upd ((va_up (va_up (va_up Fn 104 (upd (Fn 104) m v1)) 106 (upd (Fn 106) m (Fn 106 m + v2))) 29 (putM (Fn 29) 400 v1 (atM (Fn 29) 400 v1 + v2))) 128) (cn 11) (if 0 < ((if (Fn 102 m * (v1 - Fn 104 m)) < Fn 103 m then Fn 102 m * (v1 - Fn 104 m) else Fn 103 m) - v2) - (if (Fn 102 m * (v1 - Fn 104 m)) < Fn 103 m then Fn 102 m * (v1 - Fn 104 m) else Fn 103 m) / 10 then ((if (Fn 102 m * (v1 - Fn 104 m)) < Fn 103 m then Fn 102 m * (v1 - Fn 104 m) else Fn 103 m) - v2) - (if (Fn 102 m * (v1 - Fn 104 m)) < Fn 103 m then Fn 102 m * (v1 - Fn 104 m) else Fn 103 m) / 10 else 0))) 129 (upd ((va_up (va_up (va_up Fn 104 (upd (Fn 104) m v1)) 106 (upd (Fn 106) m (Fn 106 m + v2))) 29 (putM (Fn 29) 400 v1 (atM (Fn 29) 400 v1 + v2))) 129) (cn 11) 0)) = F2)) r u.1 u.2.1 u.2.2.1 u.2.2.2) (fun (u : (Nat → Nat → Nat) × (Nat → Nat) × (Nat → Int32) × (Nat → Nat → Int32)) (t : State) => va_P D vwCl (wX cI (D.1 99) zz g u.1 u.2.1 u.2.2.1 u.2.2.2) t.heap ∧ va_D A (wX cI (D.1 99) zz g u.1 u.2.1 u.2.2.1 u.2.2.2)) A)) rfl rfl pn_RX11 (Nat.le_of_ble_eq_true rfl) (fun p e s m below meth c A hx hb hml hown S hr hlocks hnm hA hP hK hD hXS hS ls hl => ?_)
  have hl : lv_has ls 9 [(0, .ref (g 0)), (1, .int v0), (2, .int v1), (3, .int v2), (4, .int v3), (5, .int v4), (6, .int v5)] := hl
  refine lv_aload_n hx hb (oc_42 0 shX11_fetch_0) rfl (lvA0 hl) ?_
  refine lv_iload_n hx hb (oc_27 1 (aq_1 shX11_fetch_0)) rfl (lvA1 hl) ?_
  refine va_csq (runV_rxa (As := [.int v0]) (rest := []) S (q_XkitchenAt l D cI cB cZ zz qq vv bt g ad cn In Fn v0 hB) kV_RX11_114 hK hXS hS hP 0 xo_0 rfl rfl ⟨Nat.le_of_ble_eq_true rfl, Nat.le_of_ble_eq_true rfl⟩ ⟨Nat.le_of_ble_eq_true rfl, Nat.le_of_ble_eq_true rfl⟩ rfl hl.1 rfl (Nat.le_of_ble_eq_true rfl) (oc_182 2 (aq_2 shX11_fetch_0) uw_0_114)) (fun r_1 h_2 => ?_)
  rcases h_2 with ⟨mr_1, er_1, hr_1, rfl⟩ | ⟨hr_1, rfl⟩
  ·
    refine lv_astore (lv' := [(7, .ref (ad 10 mr_1)), (0, .ref (g 0)), (1, .int v0), (2, .int v1), (3, .int v2), (4, .int v3), (5, .int v4), (6, .int v5)]) hx hb (oc_58 5 (aq_5 shX11_fetch_0) ub_7) hl (ltb rfl) rfl (fun ls hl => ?_)
    refine lv_aload hx hb (oc_25 7 (aq_7 shX11_fetch_0) ub_7) (lvA0 hl) ?_
    refine lv_ifnull hx hb (oc_198 9 (aq_9 shX11_fetch_0) sgw_0_78) ?_
    refine lv_aload_n hx hb (oc_42 12 (aq_12 shX11_fetch_0)) rfl (lvA1 hl) ?_
    refine gf_RX11_65 S hK hP 0 xo_0 (v := .ref (g 11)) rfl (oc_180 13 (aq_13 shX11_fetch_0) uw_0_65) ?_
    refine vp_callSi (runV_r (As := []) (rest := []) S (q_l_size l D cI cB cZ (g 11) (if (cn 11) = 0 then zz else ad 2 1) (In 11) (nI (cn 11))) kV_RX11_84 hK hP [25] (one_is xo_25) 25 xo_25 rfl rfl ⟨Nat.le_of_ble_eq_true rfl, Nat.le_of_ble_eq_true rfl⟩ ⟨Nat.le_of_ble_eq_true rfl, Nat.le_of_ble_eq_true rfl⟩ rfl hl.1 rfl (Nat.le_of_ble_eq_true rfl) (oc_182 16 (aq_16 shX11_fetch_0) uw_0_84)) (fun r_3 h_4 => ?_)
    subst h_4
    refine lv_bipush (v := 60) hx hb (oc_16 19 (aq_19 shX11_fetch_0) sgb_60) kbc_60 ?_
    have : (nI (cn 11)).toInt = (((cn 11) : Nat) : Int) := nI_toInt (by omega)
    refine lv_icmp_ge (tgt := 87) hx hb (oc_162 21 (aq_21 shX11_fetch_0) sgw_0_66) rfl (fun c_5 => ?_) (fun c_5 => ?_)
    ·
      have tc_5 : (60 : Int) ≤ (nI (cn 11)).toInt := Int32.le_iff_toInt_le.mp c_5
      refine lv_iconst (v := (-1)) hx hb dX11_fetch_87 kic_m1 ?_
      refine W.widen (k := 2) (n := 110) (Nat.le_of_ble_eq_true rfl) (Nat.le_of_ble_eq_true rfl) ?_
      exact W.iret (v := (-1)) hx hb hr (fun t ht hW => ⟨⟨(-1), (ad, cn, In, Fn), rfl, (Or.inl ⟨rfl, rfl, rfl, rfl, rfl⟩), by rw [ht]; exact hP, hD⟩, hS.F ht⟩) hS.2.2 dX11_fetch_88
    ·
      have tc_5 : ((nI (cn 11)).toInt : Int) < 60 := Int32.lt_iff_toInt_lt.mp (Int32.not_le.mp c_5)
      refine lv_iload_n hx hb (oc_28 24 shX11_fetch_24) rfl (lvA3 hl) ?_
      refine lv_aload hx hb (oc_25 25 (aq_1 shX11_fetch_24) ub_7) (lvA0 hl) ?_
      refine gf_RX11_118 S hK hP _ (xf_0 (by omega)) (v := .int ((Fn 104) mr_1)) rfl (oc_180 27 (aq_3 shX11_fetch_24) uw_0_118) ?_
      refine lv_aload_n hx hb (oc_42 30 (aq_6 shX11_fetch_24)) rfl (lvA1 hl) ?_
      refine gf_RX11_103 S hK hP 0 xo_0 (v := .int (nI (cn 0))) rfl (oc_180 31 (aq_7 shX11_fetch_24) uw_0_103) ?_
      refine vp_callSi (runS_r (As := [.int v1, .int ((Fn 104) mr_1), .int (nI (cn 0))]) (rest := []) S (q_l_within l D cI cB cZ v1 ((Fn 104) mr_1) (nI (cn 0))) kS_RX11_80 hK hP [] rfl ⟨Nat.le_of_ble_eq_true rfl, Nat.le_of_ble_eq_true rfl⟩ ⟨Nat.le_of_ble_eq_true rfl, Nat.le_of_ble_eq_true rfl⟩ rfl hl.1 rfl (Nat.le_of_ble_eq_true rfl) (oc_184 34 (aq_10 shX11_fetch_24) uw_0_80)) (fun r_6 h_7 => ?_)
      have : (nI (cn 0)).toInt = (((cn 0) : Nat) : Int) := nI_toInt (by omega)
      rcases h_7 with ⟨rfl, h_7⟩ | ⟨rfl, h_7⟩
      ·
        have h_7 : ((Fn 104) mr_1).toInt ≤ v1.toInt ∧ v1.toInt ≤ (nI (cn 0)).toInt := h_7
        refine lv_if_eq (tgt := 87) hx hb (oc_153 37 (aq_13 shX11_fetch_24) sgw_0_50) rfl (fun h => absurd h cq_eq_1_0) (fun _ => ?_)
        refine lv_iload hx hb (oc_21 40 (aq_16 shX11_fetch_24) ub_6) (lvA7 hl) ?_
        refine lv_iload_n hx hb (oc_28 42 (aq_18 shX11_fetch_24)) rfl (lvA3 hl) ?_
        refine lv_sipush (v := 399) hx hb (oc_17 43 (aq_19 shX11_fetch_24) sgw_1_143) (by decide) ?_
        refine vp_callSi (runS_r (As := [.int v5, .int v1, .int 399]) (rest := []) S (q_l_within l D cI cB cZ v5 v1 399) kS_RX11_80 hK hP [] rfl ⟨Nat.le_of_ble_eq_true rfl, Nat.le_of_ble_eq_true rfl⟩ ⟨Nat.le_of_ble_eq_true rfl, Nat.le_of_ble_eq_true rfl⟩ rfl hl.1 rfl (Nat.le_of_ble_eq_true rfl) (oc_184 46 (aq_22 shX11_fetch_24) uw_0_80)) (fun r_8 h_9 => ?_)
        rcases h_9 with ⟨rfl, h_9⟩ | ⟨rfl, h_9⟩
        ·
          have h_9 : v1.toInt ≤ v5.toInt ∧ v5.toInt ≤ 399 := h_9
          refine lv_if_eq (tgt := 87) hx hb (oc_153 49 shX11_fetch_49 sgw_0_38) rfl (fun h => absurd h cq_eq_1_0) (fun _ => ?_)
          refine lv_iload_n hx hb (oc_29 52 (aq_3 shX11_fetch_49)) rfl (lvA4 hl) ?_
          refine lv_iconst (v := 0) hx hb (oc_3 53 (aq_4 shX11_fetch_49)) kic_0 ?_
          refine lv_sipush (v := 400) hx hb (oc_17 54 (aq_5 shX11_fetch_49) sgw_1_144) (by decide) ?_
          refine vp_callSi (runS_r (As := [.int v2, .int 0, .int 400]) (rest := []) S (q_l_within l D cI cB cZ v2 0 400) kS_RX11_80 hK hP [] rfl ⟨Nat.le_of_ble_eq_true rfl, Nat.le_of_ble_eq_true rfl⟩ ⟨Nat.le_of_ble_eq_true rfl, Nat.le_of_ble_eq_true rfl⟩ rfl hl.1 rfl (Nat.le_of_ble_eq_true rfl) (oc_184 57 (aq_8 shX11_fetch_49) uw_0_80)) (fun r_10 h_11 => ?_)
          rcases h_11 with ⟨rfl, h_11⟩ | ⟨rfl, h_11⟩
          ·
            have h_11 : 0 ≤ v2.toInt ∧ v2.toInt ≤ 400 := h_11
            refine lv_if_eq (tgt := 87) hx hb (oc_153 60 (aq_11 shX11_fetch_49) sgw_0_27) rfl (fun h => absurd h cq_eq_1_0) (fun _ => ?_)
            refine lv_iload hx hb (oc_21 63 (aq_14 shX11_fetch_49) ub_4) (lvA5 hl) ?_
            refine lv_iconst (v := 0) hx hb (oc_3 65 (aq_16 shX11_fetch_49)) kic_0 ?_
            refine lv_sipush (v := 1000) hx hb (oc_17 66 (aq_17 shX11_fetch_49) sgw_3_232) (by decide) ?_
            refine vp_callSi (runS_r (As := [.int v3, .int 0, .int 1000]) (rest := []) S (q_l_within l D cI cB cZ v3 0 1000) kS_RX11_80 hK hP [] rfl ⟨Nat.le_of_ble_eq_true rfl, Nat.le_of_ble_eq_true rfl⟩ ⟨Nat.le_of_ble_eq_true rfl, Nat.le_of_ble_eq_true rfl⟩ rfl hl.1 rfl (Nat.le_of_ble_eq_true rfl) (oc_184 69 (aq_20 shX11_fetch_49) uw_0_80)) (fun r_12 h_13 => ?_)
            rcases h_13 with ⟨rfl, h_13⟩ | ⟨rfl, h_13⟩
            ·
              have h_13 : 0 ≤ v3.toInt ∧ v3.toInt ≤ 1000 := h_13
              refine lv_if_eq (tgt := 87) hx hb (oc_153 72 (aq_23 shX11_fetch_49) sgw_0_15) rfl (fun h => absurd h cq_eq_1_0) (fun _ => ?_)
              refine lv_iload hx hb (oc_21 75 shX11_fetch_75 ub_5) (lvA6 hl) ?_
              refine lv_iconst (v := 0) hx hb (oc_3 77 (aq_2 shX11_fetch_75)) kic_0 ?_
              refine lv_sipush (v := 1000) hx hb (oc_17 78 (aq_3 shX11_fetch_75) sgw_3_232) (by decide) ?_
              refine vp_callSi (runS_r (As := [.int v4, .int 0, .int 1000]) (rest := []) S (q_l_within l D cI cB cZ v4 0 1000) kS_RX11_80 hK hP [] rfl ⟨Nat.le_of_ble_eq_true rfl, Nat.le_of_ble_eq_true rfl⟩ ⟨Nat.le_of_ble_eq_true rfl, Nat.le_of_ble_eq_true rfl⟩ rfl hl.1 rfl (Nat.le_of_ble_eq_true rfl) (oc_184 81 (aq_6 shX11_fetch_75) uw_0_80)) (fun r_14 h_15 => ?_)
              rcases h_15 with ⟨rfl, h_15⟩ | ⟨rfl, h_15⟩
              ·
                have h_15 : 0 ≤ v4.toInt ∧ v4.toInt ≤ 1000 := h_15
                refine lv_if_ne (tgt := 89) hx hb (oc_154 84 (aq_9 shX11_fetch_75) sgw_0_5) rfl (fun _ => ?_) (fun h => absurd h cq_eq_1_0)
                refine va_new (ci := 3) (fs := [.int 0, .int 0, .int 0, .int 0, .int 0, .int 0, .int 0, .int 0, .int 0, .int 0]) (C := RX2) (T := TX2) (N := 10) hx hb S.2.2.2.2 hin_RX2 tyX2 tyX2_ok hown (S.2.2.2.2 _ (wk2_17 0 rfl rfl)) (S.2.2.2.2 _ (wk2_17 1 rfl rfl)) (S.2.2.2.2 _ (wk1_1 7 rfl rfl)) hK.1 hP hD hS hA rfl (by decide +kernel) (Nat.le_of_ble_eq_true rfl) (Nat.le_of_ble_eq_true rfl) (oc_187 89 (aq_14 shX11_fetch_75) uw_0_93) (fun q89 H hP hD hS => ?_)
                have hP : va_P D vwCl ((wX cI (D.1 99) zz g ad cn In Fn) ++ ([(q89, .inr (3, [.int 0, .int 0, .int 0, .int 0, .int 0, .int 0, .int 0, .int 0, .int 0, .int 0]))] : va_W)) H := hP
                have hD : va_D A ((wX cI (D.1 99) zz g ad cn In Fn) ++ ([(q89, .inr (3, [.int 0, .int 0, .int 0, .int 0, .int 0, .int 0, .int 0, .int 0, .int 0, .int 0]))] : va_W)) := hD
                refine lv_dup hx hb (oc_89 92 (aq_17 shX11_fetch_75)) rfl ?_
                refine lv_iload_n hx hb (oc_27 93 (aq_18 shX11_fetch_75)) rfl (lvA2 hl) ?_
                refine lv_iload_n hx hb (oc_28 94 (aq_19 shX11_fetch_75)) rfl (lvA3 hl) ?_
                refine lv_iload_n hx hb (oc_29 95 (aq_20 shX11_fetch_75)) rfl (lvA4 hl) ?_
                refine lv_iload hx hb (oc_21 96 (aq_21 shX11_fetch_75) ub_4) (lvA5 hl) ?_
                refine lv_iload hx hb (oc_21 98 (aq_23 shX11_fetch_75) ub_5) (lvA6 hl) ?_
                refine lv_iload hx hb (oc_21 100 shX11_fetch_100 ub_6) (lvA7 hl) ?_
                have hFc := va_free (wc := [(q89, .inr (3, [.int 0, .int 0, .int 0, .int 0, .int 0, .int 0, .int 0, .int 0, .int 0, .int 0]))]) hD hS hA [_] (one_im (exr (m := 0) rfl))
                refine va_callv (runI_w (As := [.int v0, .int v1, .int v2, .int v3, .int v4, .int v5]) (rest := [.ref q89]) S (q_l_Load l D cI cB cZ q89 v0 v1 v2 v3 v4 v5 H.size) kI_RX11_125 hK hP hD [_] (one_is (exr (m := 0) rfl)) (one_im (exr (m := 0) rfl)) rfl ⟨Nat.le_of_ble_eq_true rfl, Nat.le_of_ble_eq_true rfl⟩ ⟨Nat.le_of_ble_eq_true rfl, Nat.le_of_ble_eq_true rfl⟩ rfl hl.1 rfl (Nat.le_of_ble_eq_true rfl) (oc_183 102 (aq_2 shX11_fetch_100) uw_0_125)) hS (fun q _ h => hFc q h) hFc (fun u_16 t H1 locs ht hvm h_17 hB1 hz1 hk1 hS => ?_)
                obtain ⟨hP1, hD1⟩ := hB1
                rw [ht] at hP1
                obtain ⟨hP, hD⟩ := exjoin hP hD hk1 hFc hP1 hD1
                generalize H1 = H at hP hS ⊢
                have hP : va_P D vwCl ((wX cI (D.1 99) zz g ad cn In Fn) ++ ([(q89, .inr (3, [.int v0, .int v1, .int v2, .int v3, .int v4, .int v5, .int 0, .int 0, .int 0, .int 0]))] : va_W)) H := hP
                have hD : va_D A ((wX cI (D.1 99) zz g ad cn In Fn) ++ ([(q89, .inr (3, [.int v0, .int v1, .int v2, .int v3, .int v4, .int v5, .int 0, .int 0, .int 0, .int 0]))] : va_W)) := hD
                refine lv_astore (lv' := [(8, .ref q89), (7, .ref (ad 10 mr_1)), (0, .ref (g 0)), (1, .int v0), (2, .int v1), (3, .int v2), (4, .int v3), (5, .int v4), (6, .int v5)]) hx hb (oc_58 105 (aq_5 shX11_fetch_100) ub_8) hl (ltb rfl) rfl (fun ls hl => ?_)
                refine lv_aload hx hb (oc_25 107 (aq_7 shX11_fetch_100) ub_8) (lvA0 hl) ?_
                refine lv_aload hx hb (oc_25 109 (aq_9 shX11_fetch_100) ub_7) (lvA1 hl) ?_
                refine gf_RX11_118 S hK hP _ (exl (xf_0 (by omega))) (v := .int ((Fn 104) mr_1)) rfl (oc_180 111 (aq_11 shX11_fetch_100) uw_0_118) ?_
                refine pf_RX11_128 S hK hP hD hS _ (exr (m := 0) rfl) (v := .int ((Fn 104) mr_1)) (Nat.le_of_ble_eq_true rfl) rfl rfl (oc_181 114 (aq_14 shX11_fetch_100) uw_0_128) (fun H locs hP hD hS => ?_)
                have hP : va_P D vwCl ((wX cI (D.1 99) zz g ad cn In Fn) ++ ([(q89, .inr (3, [.int v0, .int v1, .int v2, .int v3, .int v4, .int v5, .int ((Fn 104) mr_1), .int 0, .int 0, .int 0]))] : va_W)) H := va_P_eq (exs_r rfl) hP
                have hD : va_D A ((wX cI (D.1 99) zz g ad cn In Fn) ++ ([(q89, .inr (3, [.int v0, .int v1, .int v2, .int v3, .int v4, .int v5, .int ((Fn 104) mr_1), .int 0, .int 0, .int 0]))] : va_W)) := va_D_eq (exs_r rfl) hD
                refine lv_aload hx hb (oc_25 117 (aq_17 shX11_fetch_100) ub_8) (lvA0 hl) ?_
                refine lv_aload hx hb (oc_25 119 (aq_19 shX11_fetch_100) ub_7) (lvA1 hl) ?_
                refine gf_RX11_131 S hK hP _ (exl (xf_0 (by omega))) (v := .int ((Fn 106) mr_1)) rfl (oc_180 121 (aq_21 shX11_fetch_100) uw_0_131) ?_
                refine pf_RX11_134 S hK hP hD hS _ (exr (m := 0) rfl) (v := .int ((Fn 106) mr_1)) (Nat.le_of_ble_eq_true rfl) rfl rfl (oc_181 124 shX11_fetch_124 uw_0_134) (fun H locs hP hD hS => ?_)
                have hP : va_P D vwCl ((wX cI (D.1 99) zz g ad cn In Fn) ++ ([(q89, .inr (3, [.int v0, .int v1, .int v2, .int v3, .int v4, .int v5, .int ((Fn 104) mr_1), .int ((Fn 106) mr_1), .int 0, .int 0]))] : va_W)) H := va_P_eq (exs_r rfl) hP
                have hD : va_D A ((wX cI (D.1 99) zz g ad cn In Fn) ++ ([(q89, .inr (3, [.int v0, .int v1, .int v2, .int v3, .int v4, .int v5, .int ((Fn 104) mr_1), .int ((Fn 106) mr_1), .int 0, .int 0]))] : va_W)) := va_D_eq (exs_r rfl) hD
                refine lv_aload hx hb (oc_25 127 (aq_3 shX11_fetch_124) ub_8) (lvA0 hl) ?_
                refine lv_aload hx hb (oc_25 129 (aq_5 shX11_fetch_124) ub_8) (lvA0 hl) ?_
                refine lv_aload hx hb (oc_25 131 (aq_7 shX11_fetch_124) ub_7) (lvA1 hl) ?_
                refine lv_iload_n hx hb (oc_28 133 (aq_9 shX11_fetch_124)) rfl (lvA4 hl) ?_
                refine lv_aload hx hb (oc_25 134 (aq_10 shX11_fetch_124) ub_7) (lvA1 hl) ?_
                refine gf_RX11_118 S hK hP _ (exl (xf_0 (by omega))) (v := .int ((Fn 104) mr_1)) rfl (oc_180 136 (aq_12 shX11_fetch_124) uw_0_118) ?_
                refine vp_callSi (runV_rxa (As := [.int v1, .int ((Fn 104) mr_1)]) (rest := [.ref q89, .ref q89]) S (q_XfillOn l D cI cB cZ zz qq vv bt g ad cn In Fn mr_1 v1 ((Fn 104) mr_1) hB (by omega)) kV_RX11_121 hK hXS hS (exP hP) _ (xf_0 (by omega)) rfl rfl ⟨Nat.le_of_ble_eq_true rfl, Nat.le_of_ble_eq_true rfl⟩ ⟨Nat.le_of_ble_eq_true rfl, Nat.le_of_ble_eq_true rfl⟩ rfl hl.1 rfl (Nat.le_of_ble_eq_true rfl) (oc_182 139 (aq_15 shX11_fetch_124) uw_0_121)) (fun r_18 h_19 => ?_)
                subst h_19
                refine vp_callSi (runV_r (As := [.int ((if ((Fn 102) mr_1 * (v1 - ((Fn 104) mr_1))) < (Fn 103) mr_1 then (Fn 102) mr_1 * (v1 - ((Fn 104) mr_1)) else (Fn 103) mr_1))]) (rest := [.ref q89]) S (q_l_shortOf l D cI cB cZ q89 v0 v1 v2 v3 v4 v5 ((Fn 104) mr_1) ((Fn 106) mr_1) 0 0 ((if ((Fn 102) mr_1 * (v1 - ((Fn 104) mr_1))) < (Fn 103) mr_1 then (Fn 102) mr_1 * (v1 - ((Fn 104) mr_1)) else (Fn 103) mr_1))) kV_RX11_137 hK hP _ (one_is (exr (m := 0) rfl)) _ (exr (m := 0) rfl) rfl rfl ⟨Nat.le_of_ble_eq_true rfl, Nat.le_of_ble_eq_true rfl⟩ ⟨Nat.le_of_ble_eq_true rfl, Nat.le_of_ble_eq_true rfl⟩ rfl hl.1 rfl (Nat.le_of_ble_eq_true rfl) (oc_182 142 (aq_18 shX11_fetch_124) uw_0_137)) (fun r_20 h_21 => ?_)
                subst h_21
                refine pf_RX11_141 S hK hP hD hS _ (exr (m := 0) rfl) (v := .int (if 0 < (((if ((Fn 102) mr_1 * (v1 - ((Fn 104) mr_1))) < (Fn 103) mr_1 then (Fn 102) mr_1 * (v1 - ((Fn 104) mr_1)) else (Fn 103) mr_1)) - v2) - ((if ((Fn 102) mr_1 * (v1 - ((Fn 104) mr_1))) < (Fn 103) mr_1 then (Fn 102) mr_1 * (v1 - ((Fn 104) mr_1)) else (Fn 103) mr_1)) / 10 then (((if ((Fn 102) mr_1 * (v1 - ((Fn 104) mr_1))) < (Fn 103) mr_1 then (Fn 102) mr_1 * (v1 - ((Fn 104) mr_1)) else (Fn 103) mr_1)) - v2) - ((if ((Fn 102) mr_1 * (v1 - ((Fn 104) mr_1))) < (Fn 103) mr_1 then (Fn 102) mr_1 * (v1 - ((Fn 104) mr_1)) else (Fn 103) mr_1)) / 10 else 0)) (Nat.le_of_ble_eq_true rfl) rfl rfl (oc_181 145 (aq_21 shX11_fetch_124) uw_0_141) (fun H locs hP hD hS => ?_)
                have hP : va_P D vwCl ((wX cI (D.1 99) zz g ad cn In Fn) ++ ([(q89, .inr (3, [.int v0, .int v1, .int v2, .int v3, .int v4, .int v5, .int ((Fn 104) mr_1), .int ((Fn 106) mr_1), .int (if 0 < (((if ((Fn 102) mr_1 * (v1 - ((Fn 104) mr_1))) < (Fn 103) mr_1 then (Fn 102) mr_1 * (v1 - ((Fn 104) mr_1)) else (Fn 103) mr_1)) - v2) - ((if ((Fn 102) mr_1 * (v1 - ((Fn 104) mr_1))) < (Fn 103) mr_1 then (Fn 102) mr_1 * (v1 - ((Fn 104) mr_1)) else (Fn 103) mr_1)) / 10 then (((if ((Fn 102) mr_1 * (v1 - ((Fn 104) mr_1))) < (Fn 103) mr_1 then (Fn 102) mr_1 * (v1 - ((Fn 104) mr_1)) else (Fn 103) mr_1)) - v2) - ((if ((Fn 102) mr_1 * (v1 - ((Fn 104) mr_1))) < (Fn 103) mr_1 then (Fn 102) mr_1 * (v1 - ((Fn 104) mr_1)) else (Fn 103) mr_1)) / 10 else 0), .int 0]))] : va_W)) H := va_P_eq (exs_r rfl) hP
                have hD : va_D A ((wX cI (D.1 99) zz g ad cn In Fn) ++ ([(q89, .inr (3, [.int v0, .int v1, .int v2, .int v3, .int v4, .int v5, .int ((Fn 104) mr_1), .int ((Fn 106) mr_1), .int (if 0 < (((if ((Fn 102) mr_1 * (v1 - ((Fn 104) mr_1))) < (Fn 103) mr_1 then (Fn 102) mr_1 * (v1 - ((Fn 104) mr_1)) else (Fn 103) mr_1)) - v2) - ((if ((Fn 102) mr_1 * (v1 - ((Fn 104) mr_1))) < (Fn 103) mr_1 then (Fn 102) mr_1 * (v1 - ((Fn 104) mr_1)) else (Fn 103) mr_1)) / 10 then (((if ((Fn 102) mr_1 * (v1 - ((Fn 104) mr_1))) < (Fn 103) mr_1 then (Fn 102) mr_1 * (v1 - ((Fn 104) mr_1)) else (Fn 103) mr_1)) - v2) - ((if ((Fn 102) mr_1 * (v1 - ((Fn 104) mr_1))) < (Fn 103) mr_1 then (Fn 102) mr_1 * (v1 - ((Fn 104) mr_1)) else (Fn 103) mr_1)) / 10 else 0), .int 0]))] : va_W)) := va_D_eq (exs_r rfl) hD
                refine lv_aload hx hb (oc_25 148 shX11_fetch_148 ub_7) (lvA1 hl) ?_
                refine lv_iload_n hx hb (oc_28 150 (aq_2 shX11_fetch_148)) rfl (lvA4 hl) ?_
                refine pf_RX11_118 S hK hP hD hS _ (exl (xf_0 (by omega))) (v := .int v1) (Nat.le_of_ble_eq_true rfl) rfl rfl (oc_181 151 (aq_3 shX11_fetch_148) uw_0_118) (fun H locs hP hD hS => ?_)
                have hP : va_P D vwCl ((wX cI (D.1 99) zz g ad cn In (va_up Fn 104 (upd (Fn 104) mr_1 v1))) ++ ([(q89, .inr (3, [.int v0, .int v1, .int v2, .int v3, .int v4, .int v5, .int ((Fn 104) mr_1), .int ((Fn 106) mr_1), .int (if 0 < (((if ((Fn 102) mr_1 * (v1 - ((Fn 104) mr_1))) < (Fn 103) mr_1 then (Fn 102) mr_1 * (v1 - ((Fn 104) mr_1)) else (Fn 103) mr_1)) - v2) - ((if ((Fn 102) mr_1 * (v1 - ((Fn 104) mr_1))) < (Fn 103) mr_1 then (Fn 102) mr_1 * (v1 - ((Fn 104) mr_1)) else (Fn 103) mr_1)) / 10 then (((if ((Fn 102) mr_1 * (v1 - ((Fn 104) mr_1))) < (Fn 103) mr_1 then (Fn 102) mr_1 * (v1 - ((Fn 104) mr_1)) else (Fn 103) mr_1)) - v2) - ((if ((Fn 102) mr_1 * (v1 - ((Fn 104) mr_1))) < (Fn 103) mr_1 then (Fn 102) mr_1 * (v1 - ((Fn 104) mr_1)) else (Fn 103) mr_1)) / 10 else 0), .int 0]))] : va_W)) H := va_P_eq (exs_l (xf_0 (by omega)) (xs_104 (by omega))) hP
                have hD : va_D A ((wX cI (D.1 99) zz g ad cn In (va_up Fn 104 (upd (Fn 104) mr_1 v1))) ++ ([(q89, .inr (3, [.int v0, .int v1, .int v2, .int v3, .int v4, .int v5, .int ((Fn 104) mr_1), .int ((Fn 106) mr_1), .int (if 0 < (((if ((Fn 102) mr_1 * (v1 - ((Fn 104) mr_1))) < (Fn 103) mr_1 then (Fn 102) mr_1 * (v1 - ((Fn 104) mr_1)) else (Fn 103) mr_1)) - v2) - ((if ((Fn 102) mr_1 * (v1 - ((Fn 104) mr_1))) < (Fn 103) mr_1 then (Fn 102) mr_1 * (v1 - ((Fn 104) mr_1)) else (Fn 103) mr_1)) / 10 then (((if ((Fn 102) mr_1 * (v1 - ((Fn 104) mr_1))) < (Fn 103) mr_1 then (Fn 102) mr_1 * (v1 - ((Fn 104) mr_1)) else (Fn 103) mr_1)) - v2) - ((if ((Fn 102) mr_1 * (v1 - ((Fn 104) mr_1))) < (Fn 103) mr_1 then (Fn 102) mr_1 * (v1 - ((Fn 104) mr_1)) else (Fn 103) mr_1)) / 10 else 0), .int 0]))] : va_W)) := va_D_eq (exs_l (xf_0 (by omega)) (xs_104 (by omega))) hD
                refine lv_aload hx hb (oc_25 154 (aq_6 shX11_fetch_148) ub_7) (lvA1 hl) ?_
                refine lv_dup hx hb (oc_89 156 (aq_8 shX11_fetch_148)) rfl ?_
                refine gf_RX11_131 S hK hP _ (exl (xf_0 (by omega))) (v := .int ((Fn 106) mr_1)) rfl (oc_180 157 (aq_9 shX11_fetch_148) uw_0_131) ?_
                refine lv_iload_n hx hb (oc_29 160 (aq_12 shX11_fetch_148)) rfl (lvA5 hl) ?_
                refine lv_iadd hx hb (oc_96 161 (aq_13 shX11_fetch_148)) ?_
                refine pf_RX11_131 S hK hP hD hS _ (exl (xf_0 (by omega))) (v := .int (((Fn 106) mr_1) + v2)) (Nat.le_of_ble_eq_true rfl) rfl rfl (oc_181 162 (aq_14 shX11_fetch_148) uw_0_131) (fun H locs hP hD hS => ?_)
                have hP : va_P D vwCl ((wX cI (D.1 99) zz g ad cn In (va_up (va_up Fn 104 (upd (Fn 104) mr_1 v1)) 106 (upd (Fn 106) mr_1 (((Fn 106) mr_1) + v2)))) ++ ([(q89, .inr (3, [.int v0, .int v1, .int v2, .int v3, .int v4, .int v5, .int ((Fn 104) mr_1), .int ((Fn 106) mr_1), .int (if 0 < (((if ((Fn 102) mr_1 * (v1 - ((Fn 104) mr_1))) < (Fn 103) mr_1 then (Fn 102) mr_1 * (v1 - ((Fn 104) mr_1)) else (Fn 103) mr_1)) - v2) - ((if ((Fn 102) mr_1 * (v1 - ((Fn 104) mr_1))) < (Fn 103) mr_1 then (Fn 102) mr_1 * (v1 - ((Fn 104) mr_1)) else (Fn 103) mr_1)) / 10 then (((if ((Fn 102) mr_1 * (v1 - ((Fn 104) mr_1))) < (Fn 103) mr_1 then (Fn 102) mr_1 * (v1 - ((Fn 104) mr_1)) else (Fn 103) mr_1)) - v2) - ((if ((Fn 102) mr_1 * (v1 - ((Fn 104) mr_1))) < (Fn 103) mr_1 then (Fn 102) mr_1 * (v1 - ((Fn 104) mr_1)) else (Fn 103) mr_1)) / 10 else 0), .int 0]))] : va_W)) H := va_P_eq (exs_l (xf_0 (by omega)) (xs_106 (by omega))) hP
                have hD : va_D A ((wX cI (D.1 99) zz g ad cn In (va_up (va_up Fn 104 (upd (Fn 104) mr_1 v1)) 106 (upd (Fn 106) mr_1 (((Fn 106) mr_1) + v2)))) ++ ([(q89, .inr (3, [.int v0, .int v1, .int v2, .int v3, .int v4, .int v5, .int ((Fn 104) mr_1), .int ((Fn 106) mr_1), .int (if 0 < (((if ((Fn 102) mr_1 * (v1 - ((Fn 104) mr_1))) < (Fn 103) mr_1 then (Fn 102) mr_1 * (v1 - ((Fn 104) mr_1)) else (Fn 103) mr_1)) - v2) - ((if ((Fn 102) mr_1 * (v1 - ((Fn 104) mr_1))) < (Fn 103) mr_1 then (Fn 102) mr_1 * (v1 - ((Fn 104) mr_1)) else (Fn 103) mr_1)) / 10 then (((if ((Fn 102) mr_1 * (v1 - ((Fn 104) mr_1))) < (Fn 103) mr_1 then (Fn 102) mr_1 * (v1 - ((Fn 104) mr_1)) else (Fn 103) mr_1)) - v2) - ((if ((Fn 102) mr_1 * (v1 - ((Fn 104) mr_1))) < (Fn 103) mr_1 then (Fn 102) mr_1 * (v1 - ((Fn 104) mr_1)) else (Fn 103) mr_1)) / 10 else 0), .int 0]))] : va_W)) := va_D_eq (exs_l (xf_0 (by omega)) (xs_106 (by omega))) hD
                refine lv_aload_n hx hb (oc_42 165 (aq_17 shX11_fetch_148)) rfl (lvA2 hl) ?_
                refine gf_RX11_47 S hK hP _ (exl xo_0) (v := .ref (g 8)) rfl (oc_180 166 (aq_18 shX11_fetch_148) uw_0_47) ?_
                refine lv_iload_n hx hb (oc_28 169 (aq_21 shX11_fetch_148)) rfl (lvA4 hl) ?_
                refine lv_iload_n hx hb (oc_29 170 (aq_22 shX11_fetch_148)) rfl (lvA5 hl) ?_
                have hFc := free_all (exD hD) hS hA
                refine va_callv (runV_xa (As := [.int v1, .int v2]) (rest := []) S (q_Xchange l D cI cB cZ zz qq vv bt g ad cn In (va_up (va_up Fn 104 (upd (Fn 104) mr_1 v1)) 106 (upd (Fn 106) mr_1 (((Fn 106) mr_1) + v2))) v1 v2 H.size hB) kV_RX11_144 hK hXS hS hFc (exP hP) (exD hD) 6 xo_6 rfl rfl ⟨Nat.le_of_ble_eq_true rfl, Nat.le_of_ble_eq_true rfl⟩ ⟨Nat.le_of_ble_eq_true rfl, Nat.le_of_ble_eq_true rfl⟩ rfl hl.1 rfl (Nat.le_of_ble_eq_true rfl) (oc_182 171 (aq_23 shX11_fetch_148) uw_0_144)) hS (fun q _ h => hFc q h) hFc (fun u t H1 locs ht hvm wh_23 hB1 hz1 hk1 hS => ?_)
                obtain ⟨cn23, In23, Fn23⟩ := u
                obtain ⟨hP1, hD1⟩ := hB1
                rw [ht] at hP1
                have vh_23 : (fun c2 I2 F2 => (∀ k : Nat, k ∉ [] → I2 k = In k) ∧ (((True) ∧ cn = c2 ∧ (va_up (va_up (va_up Fn 104 (upd (Fn 104) mr_1 v1)) 106 (upd (Fn 106) mr_1 (((Fn 106) mr_1) + v2))) 29 (putM ((Fn 29)) 400 v1 (atM ((Fn 29)) 400 v1 + v2))) = F2))) cn23 In23 Fn23 := wh_23
                obtain ⟨hI23_, vh_23⟩ := vh_23
                obtain ⟨h_23, rfl, rfl⟩ := vh_23
                obtain rfl : In = In23 := (funext (fun k => hI23_ k List.not_mem_nil)).symm
                obtain ⟨hP, hD⟩ := exjoinL hP hD hk1 hFc hP1 hD1
                have hP : va_P D vwCl ((wX cI (D.1 99) zz g ad cn In (va_up (va_up (va_up Fn 104 (upd (Fn 104) mr_1 v1)) 106 (upd (Fn 106) mr_1 (((Fn 106) mr_1) + v2))) 29 (putM ((Fn 29)) 400 v1 (atM ((Fn 29)) 400 v1 + v2)))) ++ ([(q89, .inr (3, [.int v0, .int v1, .int v2, .int v3, .int v4, .int v5, .int ((Fn 104) mr_1), .int ((Fn 106) mr_1), .int (if 0 < (((if ((Fn 102) mr_1 * (v1 - ((Fn 104) mr_1))) < (Fn 103) mr_1 then (Fn 102) mr_1 * (v1 - ((Fn 104) mr_1)) else (Fn 103) mr_1)) - v2) - ((if ((Fn 102) mr_1 * (v1 - ((Fn 104) mr_1))) < (Fn 103) mr_1 then (Fn 102) mr_1 * (v1 - ((Fn 104) mr_1)) else (Fn 103) mr_1)) / 10 then (((if ((Fn 102) mr_1 * (v1 - ((Fn 104) mr_1))) < (Fn 103) mr_1 then (Fn 102) mr_1 * (v1 - ((Fn 104) mr_1)) else (Fn 103) mr_1)) - v2) - ((if ((Fn 102) mr_1 * (v1 - ((Fn 104) mr_1))) < (Fn 103) mr_1 then (Fn 102) mr_1 * (v1 - ((Fn 104) mr_1)) else (Fn 103) mr_1)) / 10 else 0), .int 0]))] : va_W)) H1 := hP
                have hD : va_D A ((wX cI (D.1 99) zz g ad cn In (va_up (va_up (va_up Fn 104 (upd (Fn 104) mr_1 v1)) 106 (upd (Fn 106) mr_1 (((Fn 106) mr_1) + v2))) 29 (putM ((Fn 29)) 400 v1 (atM ((Fn 29)) 400 v1 + v2)))) ++ ([(q89, .inr (3, [.int v0, .int v1, .int v2, .int v3, .int v4, .int v5, .int ((Fn 104) mr_1), .int ((Fn 106) mr_1), .int (if 0 < (((if ((Fn 102) mr_1 * (v1 - ((Fn 104) mr_1))) < (Fn 103) mr_1 then (Fn 102) mr_1 * (v1 - ((Fn 104) mr_1)) else (Fn 103) mr_1)) - v2) - ((if ((Fn 102) mr_1 * (v1 - ((Fn 104) mr_1))) < (Fn 103) mr_1 then (Fn 102) mr_1 * (v1 - ((Fn 104) mr_1)) else (Fn 103) mr_1)) / 10 then (((if ((Fn 102) mr_1 * (v1 - ((Fn 104) mr_1))) < (Fn 103) mr_1 then (Fn 102) mr_1 * (v1 - ((Fn 104) mr_1)) else (Fn 103) mr_1)) - v2) - ((if ((Fn 102) mr_1 * (v1 - ((Fn 104) mr_1))) < (Fn 103) mr_1 then (Fn 102) mr_1 * (v1 - ((Fn 104) mr_1)) else (Fn 103) mr_1)) / 10 else 0), .int 0]))] : va_W)) := hD
                generalize H1 = H at hP hS ⊢
                refine lv_aload_n hx hb (oc_42 174 shX11_fetch_174) rfl (lvA2 hl) ?_
                refine gf_RX11_65 S hK hP _ (exl xo_0) (v := .ref (g 11)) rfl (oc_180 175 (aq_1 shX11_fetch_174) uw_0_65) ?_
                refine lv_aload hx hb (oc_25 178 (aq_4 shX11_fetch_174) ub_8) (lvA0 hl) ?_
                rcases Nat.eq_zero_or_pos (cn 11) with hz0 | hz0
                ·
                  have hi9 : (wX cI (D.1 99) zz g ad cn In (va_up (va_up (va_up Fn 104 (upd (Fn 104) mr_1 v1)) 106 (upd (Fn 106) mr_1 (((Fn 106) mr_1) + v2))) 29 (putM ((Fn 29)) 400 v1 (atM ((Fn 29)) 400 v1 + v2))))[25]? = _ := xlz_1 hz0
                  have hp2P := pick2P hP (exl hi9) (exr (m := 0) rfl)
                  have hp2D := pick2D hD (exl hi9) (exr (m := 0) rfl) (ne_ex hi9)
                  have hFc := free_all hp2D hS hA
                  refine va_calli (runV_xa (As := [.ref q89]) (rest := []) S (q_l_addZL l D cI cB cZ zz qq vv bt (g 11) q89 (In 11) v0 v1 v2 v3 v4 v5 ((Fn 104) mr_1) ((Fn 106) mr_1) (if 0 < (((if ((Fn 102) mr_1 * (v1 - ((Fn 104) mr_1))) < (Fn 103) mr_1 then (Fn 102) mr_1 * (v1 - ((Fn 104) mr_1)) else (Fn 103) mr_1)) - v2) - ((if ((Fn 102) mr_1 * (v1 - ((Fn 104) mr_1))) < (Fn 103) mr_1 then (Fn 102) mr_1 * (v1 - ((Fn 104) mr_1)) else (Fn 103) mr_1)) / 10 then (((if ((Fn 102) mr_1 * (v1 - ((Fn 104) mr_1))) < (Fn 103) mr_1 then (Fn 102) mr_1 * (v1 - ((Fn 104) mr_1)) else (Fn 103) mr_1)) - v2) - ((if ((Fn 102) mr_1 * (v1 - ((Fn 104) mr_1))) < (Fn 103) mr_1 then (Fn 102) mr_1 * (v1 - ((Fn 104) mr_1)) else (Fn 103) mr_1)) / 10 else 0) 0 H.size) kV_RX11_110 hK hXS hS hFc hp2P hp2D 0 rfl rfl rfl ⟨Nat.le_of_ble_eq_true rfl, Nat.le_of_ble_eq_true rfl⟩ ⟨Nat.le_of_ble_eq_true rfl, Nat.le_of_ble_eq_true rfl⟩ rfl hl.1 rfl (Nat.le_of_ble_eq_true rfl) (oc_182 180 (aq_6 shX11_fetch_174) uw_0_110)) hS (fun q _ h => hFc q h) hFc (fun r23 u23 t H1 locs ht hvm h23 hB1 hz1 hk1 hS => ?_)
                  obtain ⟨hP1, hD1⟩ := hB1
                  rw [ht] at hP1
                  obtain rfl : r23 = 1 := h23
                  obtain ⟨hP, hD⟩ := add0_join hP hD hi9 rfl hk1 hFc hP1 hD1 rfl (xu_1 (z := u23) (c := 10) (y := (In 11) + 1) (q := q89) (x0 := v0) (x1 := v1) (x2 := v2) (x3 := v3) (x4 := v4) (x5 := v5) (x6 := ((Fn 104) mr_1)) (x7 := ((Fn 106) mr_1)) (x8 := (if 0 < (((if ((Fn 102) mr_1 * (v1 - ((Fn 104) mr_1))) < (Fn 103) mr_1 then (Fn 102) mr_1 * (v1 - ((Fn 104) mr_1)) else (Fn 103) mr_1)) - v2) - ((if ((Fn 102) mr_1 * (v1 - ((Fn 104) mr_1))) < (Fn 103) mr_1 then (Fn 102) mr_1 * (v1 - ((Fn 104) mr_1)) else (Fn 103) mr_1)) / 10 then (((if ((Fn 102) mr_1 * (v1 - ((Fn 104) mr_1))) < (Fn 103) mr_1 then (Fn 102) mr_1 * (v1 - ((Fn 104) mr_1)) else (Fn 103) mr_1)) - v2) - ((if ((Fn 102) mr_1 * (v1 - ((Fn 104) mr_1))) < (Fn 103) mr_1 then (Fn 102) mr_1 * (v1 - ((Fn 104) mr_1)) else (Fn 103) mr_1)) / 10 else 0)) (x9 := 0) hz0)
                  have hP : va_P D vwCl (wX cI (D.1 99) zz g (adP ad 11 (cn 11) q89 1 u23) (va_up (va_up cn 11 ((cn 11) + 1)) 21 10) (va_up In 11 ((In 11) + 1)) (va_up (va_up (va_up (va_up (va_up (va_up (va_up (va_up (va_up (va_up (va_up (va_up (va_up Fn 104 (upd (Fn 104) mr_1 v1)) 106 (upd (Fn 106) mr_1 (((Fn 106) mr_1) + v2))) 29 (putM ((Fn 29)) 400 v1 (atM ((Fn 29)) 400 v1 + v2))) 120 (upd ((va_up (va_up (va_up Fn 104 (upd (Fn 104) mr_1 v1)) 106 (upd (Fn 106) mr_1 (((Fn 106) mr_1) + v2))) 29 (putM ((Fn 29)) 400 v1 (atM ((Fn 29)) 400 v1 + v2))) 120) (cn 11) v0)) 121 (upd ((va_up (va_up (va_up Fn 104 (upd (Fn 104) mr_1 v1)) 106 (upd (Fn 106) mr_1 (((Fn 106) mr_1) + v2))) 29 (putM ((Fn 29)) 400 v1 (atM ((Fn 29)) 400 v1 + v2))) 121) (cn 11) v1)) 122 (upd ((va_up (va_up (va_up Fn 104 (upd (Fn 104) mr_1 v1)) 106 (upd (Fn 106) mr_1 (((Fn 106) mr_1) + v2))) 29 (putM ((Fn 29)) 400 v1 (atM ((Fn 29)) 400 v1 + v2))) 122) (cn 11) v2)) 123 (upd ((va_up (va_up (va_up Fn 104 (upd (Fn 104) mr_1 v1)) 106 (upd (Fn 106) mr_1 (((Fn 106) mr_1) + v2))) 29 (putM ((Fn 29)) 400 v1 (atM ((Fn 29)) 400 v1 + v2))) 123) (cn 11) v3)) 124 (upd ((va_up (va_up (va_up Fn 104 (upd (Fn 104) mr_1 v1)) 106 (upd (Fn 106) mr_1 (((Fn 106) mr_1) + v2))) 29 (putM ((Fn 29)) 400 v1 (atM ((Fn 29)) 400 v1 + v2))) 124) (cn 11) v4)) 125 (upd ((va_up (va_up (va_up Fn 104 (upd (Fn 104) mr_1 v1)) 106 (upd (Fn 106) mr_1 (((Fn 106) mr_1) + v2))) 29 (putM ((Fn 29)) 400 v1 (atM ((Fn 29)) 400 v1 + v2))) 125) (cn 11) v5)) 126 (upd ((va_up (va_up (va_up Fn 104 (upd (Fn 104) mr_1 v1)) 106 (upd (Fn 106) mr_1 (((Fn 106) mr_1) + v2))) 29 (putM ((Fn 29)) 400 v1 (atM ((Fn 29)) 400 v1 + v2))) 126) (cn 11) ((Fn 104) mr_1))) 127 (upd ((va_up (va_up (va_up Fn 104 (upd (Fn 104) mr_1 v1)) 106 (upd (Fn 106) mr_1 (((Fn 106) mr_1) + v2))) 29 (putM ((Fn 29)) 400 v1 (atM ((Fn 29)) 400 v1 + v2))) 127) (cn 11) ((Fn 106) mr_1))) 128 (upd ((va_up (va_up (va_up Fn 104 (upd (Fn 104) mr_1 v1)) 106 (upd (Fn 106) mr_1 (((Fn 106) mr_1) + v2))) 29 (putM ((Fn 29)) 400 v1 (atM ((Fn 29)) 400 v1 + v2))) 128) (cn 11) (if 0 < (((if ((Fn 102) mr_1 * (v1 - ((Fn 104) mr_1))) < (Fn 103) mr_1 then (Fn 102) mr_1 * (v1 - ((Fn 104) mr_1)) else (Fn 103) mr_1)) - v2) - ((if ((Fn 102) mr_1 * (v1 - ((Fn 104) mr_1))) < (Fn 103) mr_1 then (Fn 102) mr_1 * (v1 - ((Fn 104) mr_1)) else (Fn 103) mr_1)) / 10 then (((if ((Fn 102) mr_1 * (v1 - ((Fn 104) mr_1))) < (Fn 103) mr_1 then (Fn 102) mr_1 * (v1 - ((Fn 104) mr_1)) else (Fn 103) mr_1)) - v2) - ((if ((Fn 102) mr_1 * (v1 - ((Fn 104) mr_1))) < (Fn 103) mr_1 then (Fn 102) mr_1 * (v1 - ((Fn 104) mr_1)) else (Fn 103) mr_1)) / 10 else 0))) 129 (upd ((va_up (va_up (va_up Fn 104 (upd (Fn 104) mr_1 v1)) 106 (upd (Fn 106) mr_1 (((Fn 106) mr_1) + v2))) 29 (putM ((Fn 29)) 400 v1 (atM ((Fn 29)) 400 v1 + v2))) 129) (cn 11) 0))) H1 := hP
                  have hD : va_D A (wX cI (D.1 99) zz g (adP ad 11 (cn 11) q89 1 u23) (va_up (va_up cn 11 ((cn 11) + 1)) 21 10) (va_up In 11 ((In 11) + 1)) (va_up (va_up (va_up (va_up (va_up (va_up (va_up (va_up (va_up (va_up (va_up (va_up (va_up Fn 104 (upd (Fn 104) mr_1 v1)) 106 (upd (Fn 106) mr_1 (((Fn 106) mr_1) + v2))) 29 (putM ((Fn 29)) 400 v1 (atM ((Fn 29)) 400 v1 + v2))) 120 (upd ((va_up (va_up (va_up Fn 104 (upd (Fn 104) mr_1 v1)) 106 (upd (Fn 106) mr_1 (((Fn 106) mr_1) + v2))) 29 (putM ((Fn 29)) 400 v1 (atM ((Fn 29)) 400 v1 + v2))) 120) (cn 11) v0)) 121 (upd ((va_up (va_up (va_up Fn 104 (upd (Fn 104) mr_1 v1)) 106 (upd (Fn 106) mr_1 (((Fn 106) mr_1) + v2))) 29 (putM ((Fn 29)) 400 v1 (atM ((Fn 29)) 400 v1 + v2))) 121) (cn 11) v1)) 122 (upd ((va_up (va_up (va_up Fn 104 (upd (Fn 104) mr_1 v1)) 106 (upd (Fn 106) mr_1 (((Fn 106) mr_1) + v2))) 29 (putM ((Fn 29)) 400 v1 (atM ((Fn 29)) 400 v1 + v2))) 122) (cn 11) v2)) 123 (upd ((va_up (va_up (va_up Fn 104 (upd (Fn 104) mr_1 v1)) 106 (upd (Fn 106) mr_1 (((Fn 106) mr_1) + v2))) 29 (putM ((Fn 29)) 400 v1 (atM ((Fn 29)) 400 v1 + v2))) 123) (cn 11) v3)) 124 (upd ((va_up (va_up (va_up Fn 104 (upd (Fn 104) mr_1 v1)) 106 (upd (Fn 106) mr_1 (((Fn 106) mr_1) + v2))) 29 (putM ((Fn 29)) 400 v1 (atM ((Fn 29)) 400 v1 + v2))) 124) (cn 11) v4)) 125 (upd ((va_up (va_up (va_up Fn 104 (upd (Fn 104) mr_1 v1)) 106 (upd (Fn 106) mr_1 (((Fn 106) mr_1) + v2))) 29 (putM ((Fn 29)) 400 v1 (atM ((Fn 29)) 400 v1 + v2))) 125) (cn 11) v5)) 126 (upd ((va_up (va_up (va_up Fn 104 (upd (Fn 104) mr_1 v1)) 106 (upd (Fn 106) mr_1 (((Fn 106) mr_1) + v2))) 29 (putM ((Fn 29)) 400 v1 (atM ((Fn 29)) 400 v1 + v2))) 126) (cn 11) ((Fn 104) mr_1))) 127 (upd ((va_up (va_up (va_up Fn 104 (upd (Fn 104) mr_1 v1)) 106 (upd (Fn 106) mr_1 (((Fn 106) mr_1) + v2))) 29 (putM ((Fn 29)) 400 v1 (atM ((Fn 29)) 400 v1 + v2))) 127) (cn 11) ((Fn 106) mr_1))) 128 (upd ((va_up (va_up (va_up Fn 104 (upd (Fn 104) mr_1 v1)) 106 (upd (Fn 106) mr_1 (((Fn 106) mr_1) + v2))) 29 (putM ((Fn 29)) 400 v1 (atM ((Fn 29)) 400 v1 + v2))) 128) (cn 11) (if 0 < (((if ((Fn 102) mr_1 * (v1 - ((Fn 104) mr_1))) < (Fn 103) mr_1 then (Fn 102) mr_1 * (v1 - ((Fn 104) mr_1)) else (Fn 103) mr_1)) - v2) - ((if ((Fn 102) mr_1 * (v1 - ((Fn 104) mr_1))) < (Fn 103) mr_1 then (Fn 102) mr_1 * (v1 - ((Fn 104) mr_1)) else (Fn 103) mr_1)) / 10 then (((if ((Fn 102) mr_1 * (v1 - ((Fn 104) mr_1))) < (Fn 103) mr_1 then (Fn 102) mr_1 * (v1 - ((Fn 104) mr_1)) else (Fn 103) mr_1)) - v2) - ((if ((Fn 102) mr_1 * (v1 - ((Fn 104) mr_1))) < (Fn 103) mr_1 then (Fn 102) mr_1 * (v1 - ((Fn 104) mr_1)) else (Fn 103) mr_1)) / 10 else 0))) 129 (upd ((va_up (va_up (va_up Fn 104 (upd (Fn 104) mr_1 v1)) 106 (upd (Fn 106) mr_1 (((Fn 106) mr_1) + v2))) 29 (putM ((Fn 29)) 400 v1 (atM ((Fn 29)) 400 v1 + v2))) 129) (cn 11) 0))) := hD
                  generalize H1 = H at hP hS ⊢
                  refine W.widen (k := 2) (n := 110) (Nat.le_of_ble_eq_true rfl) (Nat.le_of_ble_eq_true rfl) ?_
                  refine lv_pop hx hb (oc_87 183 (aq_9 shX11_fetch_174)) rfl ?_
                  refine lv_aload_n hx hb (oc_42 184 (aq_10 shX11_fetch_174)) rfl (lvA2 hl) ?_
                  refine gf_RX11_65 S hK hP 0 xo_0 (v := .ref (g 11)) rfl (oc_180 185 (aq_11 shX11_fetch_174) uw_0_65) ?_
                  refine vp_callSi (runV_r (As := []) (rest := []) S (q_l_size l D cI cB cZ (g 11) (if ((cn 11) + 1) = 0 then zz else (adP ad 11 (cn 11) q89 1 u23) 2 1) ((In 11) + 1) (nI ((cn 11) + 1))) kV_RX11_84 hK hP [25] (one_is xo_25) 25 xo_25 rfl rfl ⟨Nat.le_of_ble_eq_true rfl, Nat.le_of_ble_eq_true rfl⟩ ⟨Nat.le_of_ble_eq_true rfl, Nat.le_of_ble_eq_true rfl⟩ rfl hl.1 rfl (Nat.le_of_ble_eq_true rfl) (oc_182 188 (aq_14 shX11_fetch_174) uw_0_84)) (fun r_25 h_26 => ?_)
                  subst h_26
                  refine lv_iconst (v := 1) hx hb (oc_4 191 (aq_17 shX11_fetch_174)) kic_1 ?_
                  refine lv_isub hx hb (oc_100 192 (aq_18 shX11_fetch_174)) ?_
                  refine lv_topi (fun y_27 ey_27 => ?_)
                  obtain rfl : y_27 = (nI (cn 11)) := ey_27.trans (nI_sub (b := 1) (by omega))
                  exact W.iret (v := (nI (cn 11))) hx hb hr (fun t ht hW => ⟨⟨(nI (cn 11)), ((adP ad 11 (cn 11) q89 1 u23), (va_up (va_up cn 11 ((cn 11) + 1)) 21 10), (va_up In 11 ((In 11) + 1)), (va_up (va_up (va_up (va_up (va_up (va_up (va_up (va_up (va_up (va_up (va_up (va_up (va_up Fn 104 (upd (Fn 104) mr_1 v1)) 106 (upd (Fn 106) mr_1 (((Fn 106) mr_1) + v2))) 29 (putM ((Fn 29)) 400 v1 (atM ((Fn 29)) 400 v1 + v2))) 120 (upd ((va_up (va_up (va_up Fn 104 (upd (Fn 104) mr_1 v1)) 106 (upd (Fn 106) mr_1 (((Fn 106) mr_1) + v2))) 29 (putM ((Fn 29)) 400 v1 (atM ((Fn 29)) 400 v1 + v2))) 120) (cn 11) v0)) 121 (upd ((va_up (va_up (va_up Fn 104 (upd (Fn 104) mr_1 v1)) 106 (upd (Fn 106) mr_1 (((Fn 106) mr_1) + v2))) 29 (putM ((Fn 29)) 400 v1 (atM ((Fn 29)) 400 v1 + v2))) 121) (cn 11) v1)) 122 (upd ((va_up (va_up (va_up Fn 104 (upd (Fn 104) mr_1 v1)) 106 (upd (Fn 106) mr_1 (((Fn 106) mr_1) + v2))) 29 (putM ((Fn 29)) 400 v1 (atM ((Fn 29)) 400 v1 + v2))) 122) (cn 11) v2)) 123 (upd ((va_up (va_up (va_up Fn 104 (upd (Fn 104) mr_1 v1)) 106 (upd (Fn 106) mr_1 (((Fn 106) mr_1) + v2))) 29 (putM ((Fn 29)) 400 v1 (atM ((Fn 29)) 400 v1 + v2))) 123) (cn 11) v3)) 124 (upd ((va_up (va_up (va_up Fn 104 (upd (Fn 104) mr_1 v1)) 106 (upd (Fn 106) mr_1 (((Fn 106) mr_1) + v2))) 29 (putM ((Fn 29)) 400 v1 (atM ((Fn 29)) 400 v1 + v2))) 124) (cn 11) v4)) 125 (upd ((va_up (va_up (va_up Fn 104 (upd (Fn 104) mr_1 v1)) 106 (upd (Fn 106) mr_1 (((Fn 106) mr_1) + v2))) 29 (putM ((Fn 29)) 400 v1 (atM ((Fn 29)) 400 v1 + v2))) 125) (cn 11) v5)) 126 (upd ((va_up (va_up (va_up Fn 104 (upd (Fn 104) mr_1 v1)) 106 (upd (Fn 106) mr_1 (((Fn 106) mr_1) + v2))) 29 (putM ((Fn 29)) 400 v1 (atM ((Fn 29)) 400 v1 + v2))) 126) (cn 11) ((Fn 104) mr_1))) 127 (upd ((va_up (va_up (va_up Fn 104 (upd (Fn 104) mr_1 v1)) 106 (upd (Fn 106) mr_1 (((Fn 106) mr_1) + v2))) 29 (putM ((Fn 29)) 400 v1 (atM ((Fn 29)) 400 v1 + v2))) 127) (cn 11) ((Fn 106) mr_1))) 128 (upd ((va_up (va_up (va_up Fn 104 (upd (Fn 104) mr_1 v1)) 106 (upd (Fn 106) mr_1 (((Fn 106) mr_1) + v2))) 29 (putM ((Fn 29)) 400 v1 (atM ((Fn 29)) 400 v1 + v2))) 128) (cn 11) (if 0 < (((if ((Fn 102) mr_1 * (v1 - ((Fn 104) mr_1))) < (Fn 103) mr_1 then (Fn 102) mr_1 * (v1 - ((Fn 104) mr_1)) else (Fn 103) mr_1)) - v2) - ((if ((Fn 102) mr_1 * (v1 - ((Fn 104) mr_1))) < (Fn 103) mr_1 then (Fn 102) mr_1 * (v1 - ((Fn 104) mr_1)) else (Fn 103) mr_1)) / 10 then (((if ((Fn 102) mr_1 * (v1 - ((Fn 104) mr_1))) < (Fn 103) mr_1 then (Fn 102) mr_1 * (v1 - ((Fn 104) mr_1)) else (Fn 103) mr_1)) - v2) - ((if ((Fn 102) mr_1 * (v1 - ((Fn 104) mr_1))) < (Fn 103) mr_1 then (Fn 102) mr_1 * (v1 - ((Fn 104) mr_1)) else (Fn 103) mr_1)) / 10 else 0))) 129 (upd ((va_up (va_up (va_up Fn 104 (upd (Fn 104) mr_1 v1)) 106 (upd (Fn 106) mr_1 (((Fn 106) mr_1) + v2))) 29 (putM ((Fn 29)) 400 v1 (atM ((Fn 29)) 400 v1 + v2))) 129) (cn 11) 0))), rfl, (Or.inr ⟨rfl, q89, u23, 10, ((In 11) + 1), mr_1, by omega, ⟨by omega, by omega⟩, rfl, rfl, rfl, rfl⟩), by rw [ht]; exact hP, hD⟩, hS.F ht⟩) hS.2.2 (oc_172 193 (aq_19 shX11_fetch_174))
                ·
                  have hi9 : (wX cI (D.1 99) zz g ad cn In (va_up (va_up (va_up Fn 104 (upd (Fn 104) mr_1 v1)) 106 (upd (Fn 106) mr_1 (((Fn 106) mr_1) + v2))) 29 (putM ((Fn 29)) 400 v1 (atM ((Fn 29)) 400 v1 + v2))))[25]? = _ := xl_1 hz0
                  have hj9 : (wX cI (D.1 99) zz g ad cn In (va_up (va_up (va_up Fn 104 (upd (Fn 104) mr_1 v1)) 106 (upd (Fn 106) mr_1 (((Fn 106) mr_1) + v2))) 29 (putM ((Fn 29)) 400 v1 (atM ((Fn 29)) 400 v1 + v2))))[_]? = _ := xf_14 (k := 0) (show 0 < min 1 (cn 11) by omega)
                  obtain ⟨ws9, hp1, hp2⟩ := pickG (W := ((wX cI (D.1 99) zz g ad cn In (va_up (va_up (va_up Fn 104 (upd (Fn 104) mr_1 v1)) 106 (upd (Fn 106) mr_1 (((Fn 106) mr_1) + v2))) 29 (putM ((Fn 29)) 400 v1 (atM ((Fn 29)) 400 v1 + v2)))) ++ ([(q89, .inr (3, [.int v0, .int v1, .int v2, .int v3, .int v4, .int v5, .int ((Fn 104) mr_1), .int ((Fn 106) mr_1), .int (if 0 < (((if ((Fn 102) mr_1 * (v1 - ((Fn 104) mr_1))) < (Fn 103) mr_1 then (Fn 102) mr_1 * (v1 - ((Fn 104) mr_1)) else (Fn 103) mr_1)) - v2) - ((if ((Fn 102) mr_1 * (v1 - ((Fn 104) mr_1))) < (Fn 103) mr_1 then (Fn 102) mr_1 * (v1 - ((Fn 104) mr_1)) else (Fn 103) mr_1)) / 10 then (((if ((Fn 102) mr_1 * (v1 - ((Fn 104) mr_1))) < (Fn 103) mr_1 then (Fn 102) mr_1 * (v1 - ((Fn 104) mr_1)) else (Fn 103) mr_1)) - v2) - ((if ((Fn 102) mr_1 * (v1 - ((Fn 104) mr_1))) < (Fn 103) mr_1 then (Fn 102) mr_1 * (v1 - ((Fn 104) mr_1)) else (Fn 103) mr_1)) / 10 else 0), .int 0]))] : va_W))) (exl hi9) (exl hj9) (exr (m := 0) rfl) (xij (by decide)) (ne_ex hi9) (ne_ex hj9)
                  have hP9 := va_P_perm hp1 hP
                  have hD9 := va_D_perm hp1 hD
                  have hFc := free_all hD9 hS hA
                  refine va_calli (runV_xa (As := [.ref q89]) (rest := []) S (q_l_addGL l D cI cB cZ zz qq vv bt (cn 21) (g 11) (ad 2 1) (cn 11) q89 (In 11) (ad 11) v0 v1 v2 v3 v4 v5 ((Fn 104) mr_1) ((Fn 106) mr_1) (if 0 < (((if ((Fn 102) mr_1 * (v1 - ((Fn 104) mr_1))) < (Fn 103) mr_1 then (Fn 102) mr_1 * (v1 - ((Fn 104) mr_1)) else (Fn 103) mr_1)) - v2) - ((if ((Fn 102) mr_1 * (v1 - ((Fn 104) mr_1))) < (Fn 103) mr_1 then (Fn 102) mr_1 * (v1 - ((Fn 104) mr_1)) else (Fn 103) mr_1)) / 10 then (((if ((Fn 102) mr_1 * (v1 - ((Fn 104) mr_1))) < (Fn 103) mr_1 then (Fn 102) mr_1 * (v1 - ((Fn 104) mr_1)) else (Fn 103) mr_1)) - v2) - ((if ((Fn 102) mr_1 * (v1 - ((Fn 104) mr_1))) < (Fn 103) mr_1 then (Fn 102) mr_1 * (v1 - ((Fn 104) mr_1)) else (Fn 103) mr_1)) / 10 else 0) 0 ws9 H.size (by omega) (by omega) hz0 (by omega) (fun i hi => ⟨_, g_mem (hp1.mem_iff.mp (List.mem_of_getElem? (exl (xf_1 (k := i) hi)))) (by decide)⟩)) kV_RX11_110 hK hXS hS hFc hP9 hD9 0 rfl rfl rfl ⟨Nat.le_of_ble_eq_true rfl, Nat.le_of_ble_eq_true rfl⟩ ⟨Nat.le_of_ble_eq_true rfl, Nat.le_of_ble_eq_true rfl⟩ rfl hl.1 rfl (Nat.le_of_ble_eq_true rfl) (oc_182 180 (aq_6 shX11_fetch_174) uw_0_110)) hS (fun q _ h => hFc q h) hFc (fun r23 u23 t H1 locs ht hvm h23 hB1 hz1 hk1 hS => ?_)
                  obtain ⟨hP1, hD1⟩ := hB1
                  rw [ht] at hP1
                  obtain ⟨hr23, h23⟩ := h23
                  obtain rfl : r23 = 1 := hr23
                  obtain ⟨ua23, uc23⟩ := u23
                  have hu23 : cn 11 < uc23 ∧ uc23 ≤ 100 := h23
                  obtain ⟨hP, hD⟩ := addG_join hp2 hi9 hj9 hP1 hD1 hFc (xadd_1 (z := ua23) (c := uc23) (y := (In 11) + 1) (q := q89) (x0 := v0) (x1 := v1) (x2 := v2) (x3 := v3) (x4 := v4) (x5 := v5) (x6 := ((Fn 104) mr_1)) (x7 := ((Fn 106) mr_1)) (x8 := (if 0 < (((if ((Fn 102) mr_1 * (v1 - ((Fn 104) mr_1))) < (Fn 103) mr_1 then (Fn 102) mr_1 * (v1 - ((Fn 104) mr_1)) else (Fn 103) mr_1)) - v2) - ((if ((Fn 102) mr_1 * (v1 - ((Fn 104) mr_1))) < (Fn 103) mr_1 then (Fn 102) mr_1 * (v1 - ((Fn 104) mr_1)) else (Fn 103) mr_1)) / 10 then (((if ((Fn 102) mr_1 * (v1 - ((Fn 104) mr_1))) < (Fn 103) mr_1 then (Fn 102) mr_1 * (v1 - ((Fn 104) mr_1)) else (Fn 103) mr_1)) - v2) - ((if ((Fn 102) mr_1 * (v1 - ((Fn 104) mr_1))) < (Fn 103) mr_1 then (Fn 102) mr_1 * (v1 - ((Fn 104) mr_1)) else (Fn 103) mr_1)) / 10 else 0)) (x9 := 0) hz0)
                  have hP : va_P D vwCl (wX cI (D.1 99) zz g (adP ad 11 (cn 11) q89 1 ua23) (va_up (va_up cn 11 ((cn 11) + 1)) 21 uc23) (va_up In 11 ((In 11) + 1)) (va_up (va_up (va_up (va_up (va_up (va_up (va_up (va_up (va_up (va_up (va_up (va_up (va_up Fn 104 (upd (Fn 104) mr_1 v1)) 106 (upd (Fn 106) mr_1 (((Fn 106) mr_1) + v2))) 29 (putM ((Fn 29)) 400 v1 (atM ((Fn 29)) 400 v1 + v2))) 120 (upd ((va_up (va_up (va_up Fn 104 (upd (Fn 104) mr_1 v1)) 106 (upd (Fn 106) mr_1 (((Fn 106) mr_1) + v2))) 29 (putM ((Fn 29)) 400 v1 (atM ((Fn 29)) 400 v1 + v2))) 120) (cn 11) v0)) 121 (upd ((va_up (va_up (va_up Fn 104 (upd (Fn 104) mr_1 v1)) 106 (upd (Fn 106) mr_1 (((Fn 106) mr_1) + v2))) 29 (putM ((Fn 29)) 400 v1 (atM ((Fn 29)) 400 v1 + v2))) 121) (cn 11) v1)) 122 (upd ((va_up (va_up (va_up Fn 104 (upd (Fn 104) mr_1 v1)) 106 (upd (Fn 106) mr_1 (((Fn 106) mr_1) + v2))) 29 (putM ((Fn 29)) 400 v1 (atM ((Fn 29)) 400 v1 + v2))) 122) (cn 11) v2)) 123 (upd ((va_up (va_up (va_up Fn 104 (upd (Fn 104) mr_1 v1)) 106 (upd (Fn 106) mr_1 (((Fn 106) mr_1) + v2))) 29 (putM ((Fn 29)) 400 v1 (atM ((Fn 29)) 400 v1 + v2))) 123) (cn 11) v3)) 124 (upd ((va_up (va_up (va_up Fn 104 (upd (Fn 104) mr_1 v1)) 106 (upd (Fn 106) mr_1 (((Fn 106) mr_1) + v2))) 29 (putM ((Fn 29)) 400 v1 (atM ((Fn 29)) 400 v1 + v2))) 124) (cn 11) v4)) 125 (upd ((va_up (va_up (va_up Fn 104 (upd (Fn 104) mr_1 v1)) 106 (upd (Fn 106) mr_1 (((Fn 106) mr_1) + v2))) 29 (putM ((Fn 29)) 400 v1 (atM ((Fn 29)) 400 v1 + v2))) 125) (cn 11) v5)) 126 (upd ((va_up (va_up (va_up Fn 104 (upd (Fn 104) mr_1 v1)) 106 (upd (Fn 106) mr_1 (((Fn 106) mr_1) + v2))) 29 (putM ((Fn 29)) 400 v1 (atM ((Fn 29)) 400 v1 + v2))) 126) (cn 11) ((Fn 104) mr_1))) 127 (upd ((va_up (va_up (va_up Fn 104 (upd (Fn 104) mr_1 v1)) 106 (upd (Fn 106) mr_1 (((Fn 106) mr_1) + v2))) 29 (putM ((Fn 29)) 400 v1 (atM ((Fn 29)) 400 v1 + v2))) 127) (cn 11) ((Fn 106) mr_1))) 128 (upd ((va_up (va_up (va_up Fn 104 (upd (Fn 104) mr_1 v1)) 106 (upd (Fn 106) mr_1 (((Fn 106) mr_1) + v2))) 29 (putM ((Fn 29)) 400 v1 (atM ((Fn 29)) 400 v1 + v2))) 128) (cn 11) (if 0 < (((if ((Fn 102) mr_1 * (v1 - ((Fn 104) mr_1))) < (Fn 103) mr_1 then (Fn 102) mr_1 * (v1 - ((Fn 104) mr_1)) else (Fn 103) mr_1)) - v2) - ((if ((Fn 102) mr_1 * (v1 - ((Fn 104) mr_1))) < (Fn 103) mr_1 then (Fn 102) mr_1 * (v1 - ((Fn 104) mr_1)) else (Fn 103) mr_1)) / 10 then (((if ((Fn 102) mr_1 * (v1 - ((Fn 104) mr_1))) < (Fn 103) mr_1 then (Fn 102) mr_1 * (v1 - ((Fn 104) mr_1)) else (Fn 103) mr_1)) - v2) - ((if ((Fn 102) mr_1 * (v1 - ((Fn 104) mr_1))) < (Fn 103) mr_1 then (Fn 102) mr_1 * (v1 - ((Fn 104) mr_1)) else (Fn 103) mr_1)) / 10 else 0))) 129 (upd ((va_up (va_up (va_up Fn 104 (upd (Fn 104) mr_1 v1)) 106 (upd (Fn 106) mr_1 (((Fn 106) mr_1) + v2))) 29 (putM ((Fn 29)) 400 v1 (atM ((Fn 29)) 400 v1 + v2))) 129) (cn 11) 0))) H1 := hP
                  have hD : va_D A (wX cI (D.1 99) zz g (adP ad 11 (cn 11) q89 1 ua23) (va_up (va_up cn 11 ((cn 11) + 1)) 21 uc23) (va_up In 11 ((In 11) + 1)) (va_up (va_up (va_up (va_up (va_up (va_up (va_up (va_up (va_up (va_up (va_up (va_up (va_up Fn 104 (upd (Fn 104) mr_1 v1)) 106 (upd (Fn 106) mr_1 (((Fn 106) mr_1) + v2))) 29 (putM ((Fn 29)) 400 v1 (atM ((Fn 29)) 400 v1 + v2))) 120 (upd ((va_up (va_up (va_up Fn 104 (upd (Fn 104) mr_1 v1)) 106 (upd (Fn 106) mr_1 (((Fn 106) mr_1) + v2))) 29 (putM ((Fn 29)) 400 v1 (atM ((Fn 29)) 400 v1 + v2))) 120) (cn 11) v0)) 121 (upd ((va_up (va_up (va_up Fn 104 (upd (Fn 104) mr_1 v1)) 106 (upd (Fn 106) mr_1 (((Fn 106) mr_1) + v2))) 29 (putM ((Fn 29)) 400 v1 (atM ((Fn 29)) 400 v1 + v2))) 121) (cn 11) v1)) 122 (upd ((va_up (va_up (va_up Fn 104 (upd (Fn 104) mr_1 v1)) 106 (upd (Fn 106) mr_1 (((Fn 106) mr_1) + v2))) 29 (putM ((Fn 29)) 400 v1 (atM ((Fn 29)) 400 v1 + v2))) 122) (cn 11) v2)) 123 (upd ((va_up (va_up (va_up Fn 104 (upd (Fn 104) mr_1 v1)) 106 (upd (Fn 106) mr_1 (((Fn 106) mr_1) + v2))) 29 (putM ((Fn 29)) 400 v1 (atM ((Fn 29)) 400 v1 + v2))) 123) (cn 11) v3)) 124 (upd ((va_up (va_up (va_up Fn 104 (upd (Fn 104) mr_1 v1)) 106 (upd (Fn 106) mr_1 (((Fn 106) mr_1) + v2))) 29 (putM ((Fn 29)) 400 v1 (atM ((Fn 29)) 400 v1 + v2))) 124) (cn 11) v4)) 125 (upd ((va_up (va_up (va_up Fn 104 (upd (Fn 104) mr_1 v1)) 106 (upd (Fn 106) mr_1 (((Fn 106) mr_1) + v2))) 29 (putM ((Fn 29)) 400 v1 (atM ((Fn 29)) 400 v1 + v2))) 125) (cn 11) v5)) 126 (upd ((va_up (va_up (va_up Fn 104 (upd (Fn 104) mr_1 v1)) 106 (upd (Fn 106) mr_1 (((Fn 106) mr_1) + v2))) 29 (putM ((Fn 29)) 400 v1 (atM ((Fn 29)) 400 v1 + v2))) 126) (cn 11) ((Fn 104) mr_1))) 127 (upd ((va_up (va_up (va_up Fn 104 (upd (Fn 104) mr_1 v1)) 106 (upd (Fn 106) mr_1 (((Fn 106) mr_1) + v2))) 29 (putM ((Fn 29)) 400 v1 (atM ((Fn 29)) 400 v1 + v2))) 127) (cn 11) ((Fn 106) mr_1))) 128 (upd ((va_up (va_up (va_up Fn 104 (upd (Fn 104) mr_1 v1)) 106 (upd (Fn 106) mr_1 (((Fn 106) mr_1) + v2))) 29 (putM ((Fn 29)) 400 v1 (atM ((Fn 29)) 400 v1 + v2))) 128) (cn 11) (if 0 < (((if ((Fn 102) mr_1 * (v1 - ((Fn 104) mr_1))) < (Fn 103) mr_1 then (Fn 102) mr_1 * (v1 - ((Fn 104) mr_1)) else (Fn 103) mr_1)) - v2) - ((if ((Fn 102) mr_1 * (v1 - ((Fn 104) mr_1))) < (Fn 103) mr_1 then (Fn 102) mr_1 * (v1 - ((Fn 104) mr_1)) else (Fn 103) mr_1)) / 10 then (((if ((Fn 102) mr_1 * (v1 - ((Fn 104) mr_1))) < (Fn 103) mr_1 then (Fn 102) mr_1 * (v1 - ((Fn 104) mr_1)) else (Fn 103) mr_1)) - v2) - ((if ((Fn 102) mr_1 * (v1 - ((Fn 104) mr_1))) < (Fn 103) mr_1 then (Fn 102) mr_1 * (v1 - ((Fn 104) mr_1)) else (Fn 103) mr_1)) / 10 else 0))) 129 (upd ((va_up (va_up (va_up Fn 104 (upd (Fn 104) mr_1 v1)) 106 (upd (Fn 106) mr_1 (((Fn 106) mr_1) + v2))) 29 (putM ((Fn 29)) 400 v1 (atM ((Fn 29)) 400 v1 + v2))) 129) (cn 11) 0))) := hD
                  generalize H1 = H at hP hS ⊢
                  refine lv_pop hx hb (oc_87 183 (aq_9 shX11_fetch_174)) rfl ?_
                  refine lv_aload_n hx hb (oc_42 184 (aq_10 shX11_fetch_174)) rfl (lvA2 hl) ?_
                  refine gf_RX11_65 S hK hP 0 xo_0 (v := .ref (g 11)) rfl (oc_180 185 (aq_11 shX11_fetch_174) uw_0_65) ?_
                  refine vp_callSi (runV_r (As := []) (rest := []) S (q_l_size l D cI cB cZ (g 11) (if ((cn 11) + 1) = 0 then zz else (adP ad 11 (cn 11) q89 1 ua23) 2 1) ((In 11) + 1) (nI ((cn 11) + 1))) kV_RX11_84 hK hP [25] (one_is xo_25) 25 xo_25 rfl rfl ⟨Nat.le_of_ble_eq_true rfl, Nat.le_of_ble_eq_true rfl⟩ ⟨Nat.le_of_ble_eq_true rfl, Nat.le_of_ble_eq_true rfl⟩ rfl hl.1 rfl (Nat.le_of_ble_eq_true rfl) (oc_182 188 (aq_14 shX11_fetch_174) uw_0_84)) (fun r_28 h_29 => ?_)
                  subst h_29
                  refine lv_iconst (v := 1) hx hb (oc_4 191 (aq_17 shX11_fetch_174)) kic_1 ?_
                  refine lv_isub hx hb (oc_100 192 (aq_18 shX11_fetch_174)) ?_
                  refine lv_topi (fun y_30 ey_30 => ?_)
                  obtain rfl : y_30 = (nI (cn 11)) := ey_30.trans (nI_sub (b := 1) (by omega))
                  exact W.iret (v := (nI (cn 11))) hx hb hr (fun t ht hW => ⟨⟨(nI (cn 11)), ((adP ad 11 (cn 11) q89 1 ua23), (va_up (va_up cn 11 ((cn 11) + 1)) 21 uc23), (va_up In 11 ((In 11) + 1)), (va_up (va_up (va_up (va_up (va_up (va_up (va_up (va_up (va_up (va_up (va_up (va_up (va_up Fn 104 (upd (Fn 104) mr_1 v1)) 106 (upd (Fn 106) mr_1 (((Fn 106) mr_1) + v2))) 29 (putM ((Fn 29)) 400 v1 (atM ((Fn 29)) 400 v1 + v2))) 120 (upd ((va_up (va_up (va_up Fn 104 (upd (Fn 104) mr_1 v1)) 106 (upd (Fn 106) mr_1 (((Fn 106) mr_1) + v2))) 29 (putM ((Fn 29)) 400 v1 (atM ((Fn 29)) 400 v1 + v2))) 120) (cn 11) v0)) 121 (upd ((va_up (va_up (va_up Fn 104 (upd (Fn 104) mr_1 v1)) 106 (upd (Fn 106) mr_1 (((Fn 106) mr_1) + v2))) 29 (putM ((Fn 29)) 400 v1 (atM ((Fn 29)) 400 v1 + v2))) 121) (cn 11) v1)) 122 (upd ((va_up (va_up (va_up Fn 104 (upd (Fn 104) mr_1 v1)) 106 (upd (Fn 106) mr_1 (((Fn 106) mr_1) + v2))) 29 (putM ((Fn 29)) 400 v1 (atM ((Fn 29)) 400 v1 + v2))) 122) (cn 11) v2)) 123 (upd ((va_up (va_up (va_up Fn 104 (upd (Fn 104) mr_1 v1)) 106 (upd (Fn 106) mr_1 (((Fn 106) mr_1) + v2))) 29 (putM ((Fn 29)) 400 v1 (atM ((Fn 29)) 400 v1 + v2))) 123) (cn 11) v3)) 124 (upd ((va_up (va_up (va_up Fn 104 (upd (Fn 104) mr_1 v1)) 106 (upd (Fn 106) mr_1 (((Fn 106) mr_1) + v2))) 29 (putM ((Fn 29)) 400 v1 (atM ((Fn 29)) 400 v1 + v2))) 124) (cn 11) v4)) 125 (upd ((va_up (va_up (va_up Fn 104 (upd (Fn 104) mr_1 v1)) 106 (upd (Fn 106) mr_1 (((Fn 106) mr_1) + v2))) 29 (putM ((Fn 29)) 400 v1 (atM ((Fn 29)) 400 v1 + v2))) 125) (cn 11) v5)) 126 (upd ((va_up (va_up (va_up Fn 104 (upd (Fn 104) mr_1 v1)) 106 (upd (Fn 106) mr_1 (((Fn 106) mr_1) + v2))) 29 (putM ((Fn 29)) 400 v1 (atM ((Fn 29)) 400 v1 + v2))) 126) (cn 11) ((Fn 104) mr_1))) 127 (upd ((va_up (va_up (va_up Fn 104 (upd (Fn 104) mr_1 v1)) 106 (upd (Fn 106) mr_1 (((Fn 106) mr_1) + v2))) 29 (putM ((Fn 29)) 400 v1 (atM ((Fn 29)) 400 v1 + v2))) 127) (cn 11) ((Fn 106) mr_1))) 128 (upd ((va_up (va_up (va_up Fn 104 (upd (Fn 104) mr_1 v1)) 106 (upd (Fn 106) mr_1 (((Fn 106) mr_1) + v2))) 29 (putM ((Fn 29)) 400 v1 (atM ((Fn 29)) 400 v1 + v2))) 128) (cn 11) (if 0 < (((if ((Fn 102) mr_1 * (v1 - ((Fn 104) mr_1))) < (Fn 103) mr_1 then (Fn 102) mr_1 * (v1 - ((Fn 104) mr_1)) else (Fn 103) mr_1)) - v2) - ((if ((Fn 102) mr_1 * (v1 - ((Fn 104) mr_1))) < (Fn 103) mr_1 then (Fn 102) mr_1 * (v1 - ((Fn 104) mr_1)) else (Fn 103) mr_1)) / 10 then (((if ((Fn 102) mr_1 * (v1 - ((Fn 104) mr_1))) < (Fn 103) mr_1 then (Fn 102) mr_1 * (v1 - ((Fn 104) mr_1)) else (Fn 103) mr_1)) - v2) - ((if ((Fn 102) mr_1 * (v1 - ((Fn 104) mr_1))) < (Fn 103) mr_1 then (Fn 102) mr_1 * (v1 - ((Fn 104) mr_1)) else (Fn 103) mr_1)) / 10 else 0))) 129 (upd ((va_up (va_up (va_up Fn 104 (upd (Fn 104) mr_1 v1)) 106 (upd (Fn 106) mr_1 (((Fn 106) mr_1) + v2))) 29 (putM ((Fn 29)) 400 v1 (atM ((Fn 29)) 400 v1 + v2))) 129) (cn 11) 0))), rfl, (Or.inr ⟨rfl, q89, ua23, uc23, ((In 11) + 1), mr_1, by omega, ⟨by omega, by omega⟩, rfl, rfl, rfl, rfl⟩), by rw [ht]; exact hP, hD⟩, hS.F ht⟩) hS.2.2 (oc_172 193 (aq_19 shX11_fetch_174))
              ·
                have h_15 : ¬ (0 ≤ v4.toInt ∧ v4.toInt ≤ 1000) := h_15
                refine lv_if_ne (tgt := 89) hx hb (oc_154 84 (aq_9 shX11_fetch_75) sgw_0_5) rfl (fun h => absurd h cq_eq_0_0) (fun _ => ?_)
                refine lv_iconst (v := (-1)) hx hb dX11_fetch_87 kic_m1 ?_
                refine W.widen (k := 2) (n := 110) (Nat.le_of_ble_eq_true rfl) (Nat.le_of_ble_eq_true rfl) ?_
                exact W.iret (v := (-1)) hx hb hr (fun t ht hW => ⟨⟨(-1), (ad, cn, In, Fn), rfl, (Or.inl ⟨rfl, rfl, rfl, rfl, rfl⟩), by rw [ht]; exact hP, hD⟩, hS.F ht⟩) hS.2.2 dX11_fetch_88
            ·
              have h_13 : ¬ (0 ≤ v3.toInt ∧ v3.toInt ≤ 1000) := h_13
              refine lv_if_eq (tgt := 87) hx hb (oc_153 72 (aq_23 shX11_fetch_49) sgw_0_15) rfl (fun _ => ?_) (fun h => absurd h cq_eq_0_0)
              refine lv_iconst (v := (-1)) hx hb dX11_fetch_87 kic_m1 ?_
              refine W.widen (k := 2) (n := 110) (Nat.le_of_ble_eq_true rfl) (Nat.le_of_ble_eq_true rfl) ?_
              exact W.iret (v := (-1)) hx hb hr (fun t ht hW => ⟨⟨(-1), (ad, cn, In, Fn), rfl, (Or.inl ⟨rfl, rfl, rfl, rfl, rfl⟩), by rw [ht]; exact hP, hD⟩, hS.F ht⟩) hS.2.2 dX11_fetch_88
          ·
            have h_11 : ¬ (0 ≤ v2.toInt ∧ v2.toInt ≤ 400) := h_11
            refine lv_if_eq (tgt := 87) hx hb (oc_153 60 (aq_11 shX11_fetch_49) sgw_0_27) rfl (fun _ => ?_) (fun h => absurd h cq_eq_0_0)
            refine lv_iconst (v := (-1)) hx hb dX11_fetch_87 kic_m1 ?_
            refine W.widen (k := 2) (n := 110) (Nat.le_of_ble_eq_true rfl) (Nat.le_of_ble_eq_true rfl) ?_
            exact W.iret (v := (-1)) hx hb hr (fun t ht hW => ⟨⟨(-1), (ad, cn, In, Fn), rfl, (Or.inl ⟨rfl, rfl, rfl, rfl, rfl⟩), by rw [ht]; exact hP, hD⟩, hS.F ht⟩) hS.2.2 dX11_fetch_88
        ·
          have h_9 : ¬ (v1.toInt ≤ v5.toInt ∧ v5.toInt ≤ 399) := h_9
          refine lv_if_eq (tgt := 87) hx hb (oc_153 49 shX11_fetch_49 sgw_0_38) rfl (fun _ => ?_) (fun h => absurd h cq_eq_0_0)
          refine lv_iconst (v := (-1)) hx hb dX11_fetch_87 kic_m1 ?_
          refine W.widen (k := 2) (n := 110) (Nat.le_of_ble_eq_true rfl) (Nat.le_of_ble_eq_true rfl) ?_
          exact W.iret (v := (-1)) hx hb hr (fun t ht hW => ⟨⟨(-1), (ad, cn, In, Fn), rfl, (Or.inl ⟨rfl, rfl, rfl, rfl, rfl⟩), by rw [ht]; exact hP, hD⟩, hS.F ht⟩) hS.2.2 dX11_fetch_88
      ·
        have h_7 : ¬ (((Fn 104) mr_1).toInt ≤ v1.toInt ∧ v1.toInt ≤ (nI (cn 0)).toInt) := h_7
        refine lv_if_eq (tgt := 87) hx hb (oc_153 37 (aq_13 shX11_fetch_24) sgw_0_50) rfl (fun _ => ?_) (fun h => absurd h cq_eq_0_0)
        refine lv_iconst (v := (-1)) hx hb dX11_fetch_87 kic_m1 ?_
        refine W.widen (k := 2) (n := 110) (Nat.le_of_ble_eq_true rfl) (Nat.le_of_ble_eq_true rfl) ?_
        exact W.iret (v := (-1)) hx hb hr (fun t ht hW => ⟨⟨(-1), (ad, cn, In, Fn), rfl, (Or.inl ⟨rfl, rfl, rfl, rfl, rfl⟩), by rw [ht]; exact hP, hD⟩, hS.F ht⟩) hS.2.2 dX11_fetch_88
  ·
    refine lv_astoreN (lv' := [(7, .null), (0, .ref (g 0)), (1, .int v0), (2, .int v1), (3, .int v2), (4, .int v3), (5, .int v4), (6, .int v5)]) hx hb (oc_58 5 (aq_5 shX11_fetch_0) ub_7) hl (ltb rfl) rfl (fun ls hl => ?_)
    refine lv_aloadN hx hb (oc_25 7 (aq_7 shX11_fetch_0) ub_7) (lvA0 hl) ?_
    refine lv_ifnullN (tgt := 87) hx hb (oc_198 9 (aq_9 shX11_fetch_0) sgw_0_78) rfl ?_
    refine lv_iconst (v := (-1)) hx hb dX11_fetch_87 kic_m1 ?_
    refine W.widen (k := 2) (n := 110) (Nat.le_of_ble_eq_true rfl) (Nat.le_of_ble_eq_true rfl) ?_
    exact W.iret (v := (-1)) hx hb hr (fun t ht hW => ⟨⟨(-1), (ad, cn, In, Fn), rfl, (Or.inl ⟨rfl, rfl, rfl, rfl, rfl⟩), by rw [ht]; exact hP, hD⟩, hS.F ht⟩) hS.2.2 dX11_fetch_88
